set_option maxHeartbeats 4000000 in
set_option maxRecDepth 100000 in
theorem n_overPlain (l : Launch) (D : va_G) (ca : Nat → ClassId) (sa : Nat → Nat) (lo : Nat) (ya : Nat → Nat) (F : Nat → Pd) (n : Nat) (cd fl : Int32) (t : Tr) (ht : t.1 + 1 ≤ 2147483648) (i : Nat) (hi : i < 20) (kd : Nat) (hkd : kd < 8) (zn lm : Int32) (d : Dv) (sz : Nat) : Met l yX10_overPlain [.code yX10_overPlain cX10_overPlain 2 (some .boolean)] ({ frames := 1, cells := 0, slots := 0, locals := 30 }) (PX D ca sa lo sz [.ref (ya 0), .int (nI i)] (wm ca ya (va_up F i (kd, zn, lm, d)) n cd fl t)) (QI D (bi (decide (lm ≤ d.2.1))) (wm ca ya (va_up F i (kd, zn, lm, d)) n cd fl (tb 2 0 t)) (va_A (wm ca ya (va_up F i (kd, zn, lm, d)) n cd fl t) sz)) 0 0 (va_A (wm ca ya (va_up F i (kd, zn, lm, d)) n cd fl t) sz) := by
  obtain ⟨ch, lv, cn, dr, la⟩ := d
  refine mk_met (fun A => QI D (bi (decide (lm ≤ lv))) (wm ca ya (va_up F i (kd, zn, lm, ch, lv, cn, dr, la)) n cd fl (tb 2 0 t)) A) (by decide) (Nat.le_of_ble_eq_true rfl) ?_
  intro p e s m below meth c A ls C hrt hlocks hnm hsz hP hD hS hl
  obtain ⟨hx, hb, hml, hown, hk, hz, hlo, hA, hAl⟩ := id C
  have hK : va_K D cls (tyl ca) s := hk.2.1
  have hl : lv_has ls 2 [(0, .ref (ya 0)), (1, .int (nI i))] := hl
  refine lv_aload_n hx hb dX10_overPlain_0 rfl (lv_at hl 0 rfl) ?_
  refine lv_iconst (v := 2) hx hb dX10_overPlain_1 (by decide) ?_
  refine lv_iconst (v := 0) hx hb dX10_overPlain_2 (by decide) ?_
  refine k_mv (n9 := 2) (As := [.int 2, .int 0]) C (n_rule l D ca sa lo ya (va_up F i (kd, zn, lm, ch, lv, cn, dr, la)) n cd fl t (by first | omega | (simp only [tb_n]; omega)) 2 0 _) (fun U A9 h => co_X10_rule h A9) (in_X10 hk.1 _) (ml_X10_58 hk.1 _) (im_X10_rule hk.1 _) (se_X10_X10_rule hk.1 _) (by decide +kernel) ⟨⟨rfl, rfl⟩, by decide, by decide⟩ hP hD hS rfl rfl rfl hl.1 rfl (Nat.le_of_ble_eq_true rfl) dX10_overPlain_3 ⟨by decide, by decide⟩ (fun H locs hP hD hS => ?_)
  refine lv_aload_n hx hb dX10_overPlain_6 rfl (lv_at hl 0 rfl) ?_
  refine va_get (D := D) (C := RX10) (T := TX10) (N := 15) hx hb (uc_10 hk.1 _) (fun _ h9 => h9) hown hK hP 0 rfl rfl 6 (by decide) (fl_X10_22 hk.1 _) (fun _ h9 => h9) rfl dX10_overPlain_7 ?_
  refine lv_iload_n hx hb dX10_overPlain_10 rfl (lv_at hl 1 rfl) ?_
  refine ld_i (x := lv) C hP 5 rfl hi (congrArg (fun q : Pd => q.2.2.2.2.1) (va_up_self F i _)) dX10_overPlain_11 ?_
  refine lv_aload_n hx hb dX10_overPlain_12 rfl (lv_at hl 0 rfl) ?_
  refine va_get (D := D) (C := RX10) (T := TX10) (N := 15) hx hb (uc_10 hk.1 _) (fun _ h9 => h9) hown hK hP 0 rfl rfl 4 (by decide) (fl_X10_16 hk.1 _) (fun _ h9 => h9) rfl dX10_overPlain_13 ?_
  refine lv_iload_n hx hb dX10_overPlain_16 rfl (lv_at hl 1 rfl) ?_
  refine ld_i (x := lm) C hP 3 rfl hi (congrArg (fun q : Pd => q.2.2.1) (va_up_self F i _)) dX10_overPlain_17 ?_
  refine lv_icmp_lt (tgt := 25) hx hb dX10_overPlain_18 (by decide) (fun c_1 => ?_) (fun c_1 => ?_)
  · refine lv_iconst (v := 0) hx hb dX10_overPlain_25 (by decide) ?_
    exact rz C hrt hlocks (bi_f (Int32.not_le.mpr c_1)) hP hS dX10_overPlain_26
  · refine lv_iconst (v := 1) hx hb dX10_overPlain_21 (by decide) ?_
    refine lv_goto (tgt := 26) hx hb dX10_overPlain_22 (by decide) ?_
    exact rz C hrt hlocks (bi_t (Int32.not_lt.mp c_1)) hP hS dX10_overPlain_26

set_option maxHeartbeats 4000000 in
set_option maxRecDepth 100000 in
theorem n_isOver (l : Launch) (D : va_G) (ca : Nat → ClassId) (sa : Nat → Nat) (lo : Nat) (ya : Nat → Nat) (F : Nat → Pd) (n : Nat) (cd fl : Int32) (t : Tr) (ht : t.1 + 2 ≤ 2147483648) (i : Nat) (hi : i < 20) (kd : Nat) (hkd : kd < 8) (zn lm : Int32) (d : Dv) (sz : Nat) : Met l yX10_isOver [.code yX10_isOver cX10_isOver 3 (some .boolean)] ({ frames := 2, cells := 0, slots := 0, locals := 60 }) (PX D ca sa lo sz [.ref (ya 0), .int (nI i)] (wm ca ya (va_up F i (kd, zn, lm, d)) n cd fl t)) (QI D (bi (po kd lm d t).1) (wm ca ya (va_up F i (kd, zn, lm, (po kd lm d t).2.1)) n cd fl (po kd lm d t).2.2) (va_A (wm ca ya (va_up F i (kd, zn, lm, d)) n cd fl t) sz)) 0 0 (va_A (wm ca ya (va_up F i (kd, zn, lm, d)) n cd fl t) sz) := by
  generalize hr9 : po kd lm d t = r
  obtain ⟨ch, lv, cn, dr, la⟩ := d
  refine mk_met (fun A => QI D (bi r.1) (wm ca ya (va_up F i (kd, zn, lm, r.2.1)) n cd fl r.2.2) A) (by decide) (Nat.le_of_ble_eq_true rfl) ?_
  intro p e s m below meth c A ls C hrt hlocks hnm hsz hP hD hS hl
  obtain ⟨hx, hb, hml, hown, hk, hz, hlo, hA, hAl⟩ := id C
  have hK : va_K D cls (tyl ca) s := hk.2.1
  have hl : lv_has ls 3 [(0, .ref (ya 0)), (1, .int (nI i))] := hl
  rcases k8 hkd with rfl | rfl | rfl | rfl | rfl | rfl | rfl | rfl
  · refine lv_aload_n hx hb dX10_isOver_0 rfl (lv_at hl 0 rfl) ?_
    refine va_get (D := D) (C := RX10) (T := TX10) (N := 15) hx hb (uc_10 hk.1 _) (fun _ h9 => h9) hown hK hP 0 rfl rfl 2 (by decide) (fl_X10_7 hk.1 _) (fun _ h9 => h9) rfl dX10_isOver_1 ?_
    refine lv_iload_n hx hb dX10_isOver_4 rfl (lv_at hl 1 rfl) ?_
    refine ld_i (x := nI 0) C hP 1 rfl hi (congrArg (fun q : Pd => nI q.1) (va_up_self F i _)) dX10_isOver_5 ?_
    refine lv_iconst (v := 4) hx hb dX10_isOver_6 (by decide) ?_
    refine lv_icmp_ne (x := nI 0) (y := 4) (tgt := 42) hx hb dX10_isOver_7 (by decide) (fun _ => ?_) (fun h9 => absurd h9 (by decide +kernel))
    refine lv_aload_n hx hb dX10_isOver_42 rfl (lv_at hl 0 rfl) ?_
    refine va_get (D := D) (C := RX10) (T := TX10) (N := 15) hx hb (uc_10 hk.1 _) (fun _ h9 => h9) hown hK hP 0 rfl rfl 2 (by decide) (fl_X10_7 hk.1 _) (fun _ h9 => h9) rfl dX10_isOver_43 ?_
    refine lv_iload_n hx hb dX10_isOver_46 rfl (lv_at hl 1 rfl) ?_
    refine ld_i (x := nI 0) C hP 1 rfl hi (congrArg (fun q : Pd => nI q.1) (va_up_self F i _)) dX10_isOver_47 ?_
    refine lv_bipush (v := 6) hx hb dX10_isOver_48 (by decide) ?_
    refine lv_icmp_ne (x := nI 0) (y := 6) (tgt := 95) hx hb dX10_isOver_50 (by decide) (fun _ => ?_) (fun h9 => absurd h9 (by decide +kernel))
    refine lv_aload_n hx hb dX10_isOver_95 rfl (lv_at hl 0 rfl) ?_
    refine lv_iload_n hx hb dX10_isOver_96 rfl (lv_at hl 1 rfl) ?_
    refine k_mi (n9 := 1) (As := [.int (nI i)]) C (n_overPlain l D ca sa lo ya F n cd fl t (by first | omega | (simp only [tb_n]; omega)) i hi 0 (by decide) zn lm (ch, lv, cn, dr, la) _) (fun U A9 h => co_X10_overPlain h A9) (in_X10 hk.1 _) (ml_X10_91 hk.1 _) (im_X10_overPlain hk.1 _) (se_X10_X10_overPlain hk.1 _) (by decide +kernel) ⟨⟨rfl, rfl⟩, by decide, by decide⟩ hP hD hS rfl rfl rfl hl.1 rfl (Nat.le_of_ble_eq_true rfl) dX10_isOver_97 ⟨by decide, by decide⟩ (fun H locs hP hD hS => ?_)
    have hP : va_P D cls (wm ca ya (va_up F i (0, zn, lm, ch, lv, cn, dr, la)) n cd fl (tb 2 0 t)) H := hP
    have hD : va_D A (wm ca ya (va_up F i (0, zn, lm, ch, lv, cn, dr, la)) n cd fl (tb 2 0 t)) := hD
    rw [epo_0] at hr9
    subst hr9
    exact rz C hrt hlocks rfl hP hS dX10_isOver_100
  · refine lv_aload_n hx hb dX10_isOver_0 rfl (lv_at hl 0 rfl) ?_
    refine va_get (D := D) (C := RX10) (T := TX10) (N := 15) hx hb (uc_10 hk.1 _) (fun _ h9 => h9) hown hK hP 0 rfl rfl 2 (by decide) (fl_X10_7 hk.1 _) (fun _ h9 => h9) rfl dX10_isOver_1 ?_
    refine lv_iload_n hx hb dX10_isOver_4 rfl (lv_at hl 1 rfl) ?_
    refine ld_i (x := nI 1) C hP 1 rfl hi (congrArg (fun q : Pd => nI q.1) (va_up_self F i _)) dX10_isOver_5 ?_
    refine lv_iconst (v := 4) hx hb dX10_isOver_6 (by decide) ?_
    refine lv_icmp_ne (x := nI 1) (y := 4) (tgt := 42) hx hb dX10_isOver_7 (by decide) (fun _ => ?_) (fun h9 => absurd h9 (by decide +kernel))
    refine lv_aload_n hx hb dX10_isOver_42 rfl (lv_at hl 0 rfl) ?_
    refine va_get (D := D) (C := RX10) (T := TX10) (N := 15) hx hb (uc_10 hk.1 _) (fun _ h9 => h9) hown hK hP 0 rfl rfl 2 (by decide) (fl_X10_7 hk.1 _) (fun _ h9 => h9) rfl dX10_isOver_43 ?_
    refine lv_iload_n hx hb dX10_isOver_46 rfl (lv_at hl 1 rfl) ?_
    refine ld_i (x := nI 1) C hP 1 rfl hi (congrArg (fun q : Pd => nI q.1) (va_up_self F i _)) dX10_isOver_47 ?_
    refine lv_bipush (v := 6) hx hb dX10_isOver_48 (by decide) ?_
    refine lv_icmp_ne (x := nI 1) (y := 6) (tgt := 95) hx hb dX10_isOver_50 (by decide) (fun _ => ?_) (fun h9 => absurd h9 (by decide +kernel))
    refine lv_aload_n hx hb dX10_isOver_95 rfl (lv_at hl 0 rfl) ?_
    refine lv_iload_n hx hb dX10_isOver_96 rfl (lv_at hl 1 rfl) ?_
    refine k_mi (n9 := 1) (As := [.int (nI i)]) C (n_overPlain l D ca sa lo ya F n cd fl t (by first | omega | (simp only [tb_n]; omega)) i hi 1 (by decide) zn lm (ch, lv, cn, dr, la) _) (fun U A9 h => co_X10_overPlain h A9) (in_X10 hk.1 _) (ml_X10_91 hk.1 _) (im_X10_overPlain hk.1 _) (se_X10_X10_overPlain hk.1 _) (by decide +kernel) ⟨⟨rfl, rfl⟩, by decide, by decide⟩ hP hD hS rfl rfl rfl hl.1 rfl (Nat.le_of_ble_eq_true rfl) dX10_isOver_97 ⟨by decide, by decide⟩ (fun H locs hP hD hS => ?_)
    have hP : va_P D cls (wm ca ya (va_up F i (1, zn, lm, ch, lv, cn, dr, la)) n cd fl (tb 2 0 t)) H := hP
    have hD : va_D A (wm ca ya (va_up F i (1, zn, lm, ch, lv, cn, dr, la)) n cd fl (tb 2 0 t)) := hD
    rw [epo_1] at hr9
    subst hr9
    exact rz C hrt hlocks rfl hP hS dX10_isOver_100
  · refine lv_aload_n hx hb dX10_isOver_0 rfl (lv_at hl 0 rfl) ?_
    refine va_get (D := D) (C := RX10) (T := TX10) (N := 15) hx hb (uc_10 hk.1 _) (fun _ h9 => h9) hown hK hP 0 rfl rfl 2 (by decide) (fl_X10_7 hk.1 _) (fun _ h9 => h9) rfl dX10_isOver_1 ?_
    refine lv_iload_n hx hb dX10_isOver_4 rfl (lv_at hl 1 rfl) ?_
    refine ld_i (x := nI 2) C hP 1 rfl hi (congrArg (fun q : Pd => nI q.1) (va_up_self F i _)) dX10_isOver_5 ?_
    refine lv_iconst (v := 4) hx hb dX10_isOver_6 (by decide) ?_
    refine lv_icmp_ne (x := nI 2) (y := 4) (tgt := 42) hx hb dX10_isOver_7 (by decide) (fun _ => ?_) (fun h9 => absurd h9 (by decide +kernel))
    refine lv_aload_n hx hb dX10_isOver_42 rfl (lv_at hl 0 rfl) ?_
    refine va_get (D := D) (C := RX10) (T := TX10) (N := 15) hx hb (uc_10 hk.1 _) (fun _ h9 => h9) hown hK hP 0 rfl rfl 2 (by decide) (fl_X10_7 hk.1 _) (fun _ h9 => h9) rfl dX10_isOver_43 ?_
    refine lv_iload_n hx hb dX10_isOver_46 rfl (lv_at hl 1 rfl) ?_
    refine ld_i (x := nI 2) C hP 1 rfl hi (congrArg (fun q : Pd => nI q.1) (va_up_self F i _)) dX10_isOver_47 ?_
    refine lv_bipush (v := 6) hx hb dX10_isOver_48 (by decide) ?_
    refine lv_icmp_ne (x := nI 2) (y := 6) (tgt := 95) hx hb dX10_isOver_50 (by decide) (fun _ => ?_) (fun h9 => absurd h9 (by decide +kernel))
    refine lv_aload_n hx hb dX10_isOver_95 rfl (lv_at hl 0 rfl) ?_
    refine lv_iload_n hx hb dX10_isOver_96 rfl (lv_at hl 1 rfl) ?_
    refine k_mi (n9 := 1) (As := [.int (nI i)]) C (n_overPlain l D ca sa lo ya F n cd fl t (by first | omega | (simp only [tb_n]; omega)) i hi 2 (by decide) zn lm (ch, lv, cn, dr, la) _) (fun U A9 h => co_X10_overPlain h A9) (in_X10 hk.1 _) (ml_X10_91 hk.1 _) (im_X10_overPlain hk.1 _) (se_X10_X10_overPlain hk.1 _) (by decide +kernel) ⟨⟨rfl, rfl⟩, by decide, by decide⟩ hP hD hS rfl rfl rfl hl.1 rfl (Nat.le_of_ble_eq_true rfl) dX10_isOver_97 ⟨by decide, by decide⟩ (fun H locs hP hD hS => ?_)
    have hP : va_P D cls (wm ca ya (va_up F i (2, zn, lm, ch, lv, cn, dr, la)) n cd fl (tb 2 0 t)) H := hP
    have hD : va_D A (wm ca ya (va_up F i (2, zn, lm, ch, lv, cn, dr, la)) n cd fl (tb 2 0 t)) := hD
    rw [epo_2] at hr9
    subst hr9
    exact rz C hrt hlocks rfl hP hS dX10_isOver_100
  · refine lv_aload_n hx hb dX10_isOver_0 rfl (lv_at hl 0 rfl) ?_
    refine va_get (D := D) (C := RX10) (T := TX10) (N := 15) hx hb (uc_10 hk.1 _) (fun _ h9 => h9) hown hK hP 0 rfl rfl 2 (by decide) (fl_X10_7 hk.1 _) (fun _ h9 => h9) rfl dX10_isOver_1 ?_
    refine lv_iload_n hx hb dX10_isOver_4 rfl (lv_at hl 1 rfl) ?_
    refine ld_i (x := nI 3) C hP 1 rfl hi (congrArg (fun q : Pd => nI q.1) (va_up_self F i _)) dX10_isOver_5 ?_
    refine lv_iconst (v := 4) hx hb dX10_isOver_6 (by decide) ?_
    refine lv_icmp_ne (x := nI 3) (y := 4) (tgt := 42) hx hb dX10_isOver_7 (by decide) (fun _ => ?_) (fun h9 => absurd h9 (by decide +kernel))
    refine lv_aload_n hx hb dX10_isOver_42 rfl (lv_at hl 0 rfl) ?_
    refine va_get (D := D) (C := RX10) (T := TX10) (N := 15) hx hb (uc_10 hk.1 _) (fun _ h9 => h9) hown hK hP 0 rfl rfl 2 (by decide) (fl_X10_7 hk.1 _) (fun _ h9 => h9) rfl dX10_isOver_43 ?_
    refine lv_iload_n hx hb dX10_isOver_46 rfl (lv_at hl 1 rfl) ?_
    refine ld_i (x := nI 3) C hP 1 rfl hi (congrArg (fun q : Pd => nI q.1) (va_up_self F i _)) dX10_isOver_47 ?_
    refine lv_bipush (v := 6) hx hb dX10_isOver_48 (by decide) ?_
    refine lv_icmp_ne (x := nI 3) (y := 6) (tgt := 95) hx hb dX10_isOver_50 (by decide) (fun _ => ?_) (fun h9 => absurd h9 (by decide +kernel))
    refine lv_aload_n hx hb dX10_isOver_95 rfl (lv_at hl 0 rfl) ?_
    refine lv_iload_n hx hb dX10_isOver_96 rfl (lv_at hl 1 rfl) ?_
    refine k_mi (n9 := 1) (As := [.int (nI i)]) C (n_overPlain l D ca sa lo ya F n cd fl t (by first | omega | (simp only [tb_n]; omega)) i hi 3 (by decide) zn lm (ch, lv, cn, dr, la) _) (fun U A9 h => co_X10_overPlain h A9) (in_X10 hk.1 _) (ml_X10_91 hk.1 _) (im_X10_overPlain hk.1 _) (se_X10_X10_overPlain hk.1 _) (by decide +kernel) ⟨⟨rfl, rfl⟩, by decide, by decide⟩ hP hD hS rfl rfl rfl hl.1 rfl (Nat.le_of_ble_eq_true rfl) dX10_isOver_97 ⟨by decide, by decide⟩ (fun H locs hP hD hS => ?_)
    have hP : va_P D cls (wm ca ya (va_up F i (3, zn, lm, ch, lv, cn, dr, la)) n cd fl (tb 2 0 t)) H := hP
    have hD : va_D A (wm ca ya (va_up F i (3, zn, lm, ch, lv, cn, dr, la)) n cd fl (tb 2 0 t)) := hD
    rw [epo_3] at hr9
    subst hr9
    exact rz C hrt hlocks rfl hP hS dX10_isOver_100
  · refine lv_aload_n hx hb dX10_isOver_0 rfl (lv_at hl 0 rfl) ?_
    refine va_get (D := D) (C := RX10) (T := TX10) (N := 15) hx hb (uc_10 hk.1 _) (fun _ h9 => h9) hown hK hP 0 rfl rfl 2 (by decide) (fl_X10_7 hk.1 _) (fun _ h9 => h9) rfl dX10_isOver_1 ?_
    refine lv_iload_n hx hb dX10_isOver_4 rfl (lv_at hl 1 rfl) ?_
    refine ld_i (x := nI 4) C hP 1 rfl hi (congrArg (fun q : Pd => nI q.1) (va_up_self F i _)) dX10_isOver_5 ?_
    refine lv_iconst (v := 4) hx hb dX10_isOver_6 (by decide) ?_
    refine lv_icmp_ne (x := nI 4) (y := 4) (tgt := 42) hx hb dX10_isOver_7 (by decide) (fun h9 => absurd h9 (by decide +kernel)) (fun _ => ?_)
    refine lv_aload_n hx hb dX10_isOver_10 rfl (lv_at hl 0 rfl) ?_
    refine lv_iconst (v := 2) hx hb dX10_isOver_11 (by decide) ?_
    refine lv_iconst (v := 4) hx hb dX10_isOver_12 (by decide) ?_
    refine k_mv (n9 := 2) (As := [.int 2, .int 4]) C (n_rule l D ca sa lo ya (va_up F i (4, zn, lm, ch, lv, cn, dr, la)) n cd fl t (by first | omega | (simp only [tb_n]; omega)) 2 4 _) (fun U A9 h => co_X10_rule h A9) (in_X10 hk.1 _) (ml_X10_58 hk.1 _) (im_X10_rule hk.1 _) (se_X10_X10_rule hk.1 _) (by decide +kernel) ⟨⟨rfl, rfl⟩, by decide, by decide⟩ hP hD hS rfl rfl rfl hl.1 rfl (Nat.le_of_ble_eq_true rfl) dX10_isOver_13 ⟨by decide, by decide⟩ (fun H locs hP hD hS => ?_)
    refine lv_aload_n hx hb dX10_isOver_16 rfl (lv_at hl 0 rfl) ?_
    refine lv_iload_n hx hb dX10_isOver_17 rfl (lv_at hl 1 rfl) ?_
    refine k_mi (n9 := 1) (As := [.int (nI i)]) C (n_overPlain l D ca sa lo ya F n cd fl (tb 2 4 t) (by first | omega | (simp only [tb_n]; omega)) i hi 4 (by decide) zn lm (ch, lv, cn, dr, la) _) (fun U A9 h => co_X10_overPlain h A9) (in_X10 hk.1 _) (ml_X10_91 hk.1 _) (im_X10_overPlain hk.1 _) (se_X10_X10_overPlain hk.1 _) (by decide +kernel) ⟨⟨rfl, rfl⟩, by decide, by decide⟩ hP hD hS rfl rfl rfl hl.1 rfl (Nat.le_of_ble_eq_true rfl) dX10_isOver_18 ⟨by decide, by decide⟩ (fun H locs hP hD hS => ?_)
    have hP : va_P D cls (wm ca ya (va_up F i (4, zn, lm, ch, lv, cn, dr, la)) n cd fl (tb 2 0 (tb 2 4 t))) H := hP
    have hD : va_D A (wm ca ya (va_up F i (4, zn, lm, ch, lv, cn, dr, la)) n cd fl (tb 2 0 (tb 2 4 t))) := hD
    refine lv_istore_n (lv' := [(2, .int (bi (decide (lm ≤ lv)))), (0, .ref (ya 0)), (1, .int (nI i))]) hx hb dX10_isOver_21 rfl hl (by decide) rfl (fun ls hl => ?_)
    refine lv_iload_n hx hb dX10_isOver_22 rfl (lv_at hl 0 rfl) ?_
    refine lv_if_eq (tgt := 40) hx hb dX10_isOver_23 (by decide) (fun c_1 => ?_) (fun c_1 => ?_)
    · refine lv_iconst (v := 0) hx hb dX10_isOver_40 (by decide) ?_
      have hr9 : r = (false, (ch, lv, cn, dr, la), tb 2 0 (tb 2 4 t)) := by rw [← hr9, epo_4, poH]; show (decide (lm ≤ lv) && decide (3 ≤ cn), _, _) = _; rw [bi_eq0 c_1]; rfl
      subst hr9
      exact rz C hrt hlocks rfl hP hS dX10_isOver_41
    · refine lv_aload_n hx hb dX10_isOver_26 rfl (lv_at hl 1 rfl) ?_
      refine va_get (D := D) (C := RX10) (T := TX10) (N := 15) hx hb (uc_10 hk.1 _) (fun _ h9 => h9) hown hK hP 0 rfl rfl 7 (by decide) (fl_X10_25 hk.1 _) (fun _ h9 => h9) rfl dX10_isOver_27 ?_
      refine lv_iload_n hx hb dX10_isOver_30 rfl (lv_at hl 2 rfl) ?_
      refine ld_i (x := cn) C hP 6 rfl hi (congrArg (fun q : Pd => q.2.2.2.2.2.1) (va_up_self F i _)) dX10_isOver_31 ?_
      refine lv_iconst (v := 3) hx hb dX10_isOver_32 (by decide) ?_
      refine lv_icmp_lt (tgt := 40) hx hb dX10_isOver_33 (by decide) (fun c_2 => ?_) (fun c_2 => ?_)
      · refine lv_iconst (v := 0) hx hb dX10_isOver_40 (by decide) ?_
        have hr9 : r = (false, (ch, lv, cn, dr, la), tb 2 0 (tb 2 4 t)) := by rw [← hr9, epo_4, poH]; show (decide (lm ≤ lv) && decide (3 ≤ cn), _, _) = _; rw [bi_ne0 c_1, decide_eq_false (Int32.not_le.mpr c_2)]; rfl
        subst hr9
        exact rz C hrt hlocks rfl hP hS dX10_isOver_41
      · refine lv_iconst (v := 1) hx hb dX10_isOver_36 (by decide) ?_
        refine lv_goto (tgt := 41) hx hb dX10_isOver_37 (by decide) ?_
        have hr9 : r = (true, (ch, lv, cn, dr, la), tb 2 0 (tb 2 4 t)) := by rw [← hr9, epo_4, poH]; show (decide (lm ≤ lv) && decide (3 ≤ cn), _, _) = _; rw [bi_ne0 c_1, decide_eq_true (Int32.not_lt.mp c_2)]; rfl
        subst hr9
        exact rz C hrt hlocks rfl hP hS dX10_isOver_41
  · refine lv_aload_n hx hb dX10_isOver_0 rfl (lv_at hl 0 rfl) ?_
    refine va_get (D := D) (C := RX10) (T := TX10) (N := 15) hx hb (uc_10 hk.1 _) (fun _ h9 => h9) hown hK hP 0 rfl rfl 2 (by decide) (fl_X10_7 hk.1 _) (fun _ h9 => h9) rfl dX10_isOver_1 ?_
    refine lv_iload_n hx hb dX10_isOver_4 rfl (lv_at hl 1 rfl) ?_
    refine ld_i (x := nI 5) C hP 1 rfl hi (congrArg (fun q : Pd => nI q.1) (va_up_self F i _)) dX10_isOver_5 ?_
    refine lv_iconst (v := 4) hx hb dX10_isOver_6 (by decide) ?_
    refine lv_icmp_ne (x := nI 5) (y := 4) (tgt := 42) hx hb dX10_isOver_7 (by decide) (fun _ => ?_) (fun h9 => absurd h9 (by decide +kernel))
    refine lv_aload_n hx hb dX10_isOver_42 rfl (lv_at hl 0 rfl) ?_
    refine va_get (D := D) (C := RX10) (T := TX10) (N := 15) hx hb (uc_10 hk.1 _) (fun _ h9 => h9) hown hK hP 0 rfl rfl 2 (by decide) (fl_X10_7 hk.1 _) (fun _ h9 => h9) rfl dX10_isOver_43 ?_
    refine lv_iload_n hx hb dX10_isOver_46 rfl (lv_at hl 1 rfl) ?_
    refine ld_i (x := nI 5) C hP 1 rfl hi (congrArg (fun q : Pd => nI q.1) (va_up_self F i _)) dX10_isOver_47 ?_
    refine lv_bipush (v := 6) hx hb dX10_isOver_48 (by decide) ?_
    refine lv_icmp_ne (x := nI 5) (y := 6) (tgt := 95) hx hb dX10_isOver_50 (by decide) (fun _ => ?_) (fun h9 => absurd h9 (by decide +kernel))
    refine lv_aload_n hx hb dX10_isOver_95 rfl (lv_at hl 0 rfl) ?_
    refine lv_iload_n hx hb dX10_isOver_96 rfl (lv_at hl 1 rfl) ?_
    refine k_mi (n9 := 1) (As := [.int (nI i)]) C (n_overPlain l D ca sa lo ya F n cd fl t (by first | omega | (simp only [tb_n]; omega)) i hi 5 (by decide) zn lm (ch, lv, cn, dr, la) _) (fun U A9 h => co_X10_overPlain h A9) (in_X10 hk.1 _) (ml_X10_91 hk.1 _) (im_X10_overPlain hk.1 _) (se_X10_X10_overPlain hk.1 _) (by decide +kernel) ⟨⟨rfl, rfl⟩, by decide, by decide⟩ hP hD hS rfl rfl rfl hl.1 rfl (Nat.le_of_ble_eq_true rfl) dX10_isOver_97 ⟨by decide, by decide⟩ (fun H locs hP hD hS => ?_)
    have hP : va_P D cls (wm ca ya (va_up F i (5, zn, lm, ch, lv, cn, dr, la)) n cd fl (tb 2 0 t)) H := hP
    have hD : va_D A (wm ca ya (va_up F i (5, zn, lm, ch, lv, cn, dr, la)) n cd fl (tb 2 0 t)) := hD
    rw [epo_5] at hr9
    subst hr9
    exact rz C hrt hlocks rfl hP hS dX10_isOver_100
  · refine lv_aload_n hx hb dX10_isOver_0 rfl (lv_at hl 0 rfl) ?_
    refine va_get (D := D) (C := RX10) (T := TX10) (N := 15) hx hb (uc_10 hk.1 _) (fun _ h9 => h9) hown hK hP 0 rfl rfl 2 (by decide) (fl_X10_7 hk.1 _) (fun _ h9 => h9) rfl dX10_isOver_1 ?_
    refine lv_iload_n hx hb dX10_isOver_4 rfl (lv_at hl 1 rfl) ?_
    refine ld_i (x := nI 6) C hP 1 rfl hi (congrArg (fun q : Pd => nI q.1) (va_up_self F i _)) dX10_isOver_5 ?_
    refine lv_iconst (v := 4) hx hb dX10_isOver_6 (by decide) ?_
    refine lv_icmp_ne (x := nI 6) (y := 4) (tgt := 42) hx hb dX10_isOver_7 (by decide) (fun _ => ?_) (fun h9 => absurd h9 (by decide +kernel))
    refine lv_aload_n hx hb dX10_isOver_42 rfl (lv_at hl 0 rfl) ?_
    refine va_get (D := D) (C := RX10) (T := TX10) (N := 15) hx hb (uc_10 hk.1 _) (fun _ h9 => h9) hown hK hP 0 rfl rfl 2 (by decide) (fl_X10_7 hk.1 _) (fun _ h9 => h9) rfl dX10_isOver_43 ?_
    refine lv_iload_n hx hb dX10_isOver_46 rfl (lv_at hl 1 rfl) ?_
    refine ld_i (x := nI 6) C hP 1 rfl hi (congrArg (fun q : Pd => nI q.1) (va_up_self F i _)) dX10_isOver_47 ?_
    refine lv_bipush (v := 6) hx hb dX10_isOver_48 (by decide) ?_
    refine lv_icmp_ne (x := nI 6) (y := 6) (tgt := 95) hx hb dX10_isOver_50 (by decide) (fun h9 => absurd h9 (by decide +kernel)) (fun _ => ?_)
    refine lv_aload_n hx hb dX10_isOver_53 rfl (lv_at hl 0 rfl) ?_
    refine lv_iconst (v := 2) hx hb dX10_isOver_54 (by decide) ?_
    refine lv_bipush (v := 6) hx hb dX10_isOver_55 (by decide) ?_
    refine k_mv (n9 := 2) (As := [.int 2, .int 6]) C (n_rule l D ca sa lo ya (va_up F i (6, zn, lm, ch, lv, cn, dr, la)) n cd fl t (by first | omega | (simp only [tb_n]; omega)) 2 6 _) (fun U A9 h => co_X10_rule h A9) (in_X10 hk.1 _) (ml_X10_58 hk.1 _) (im_X10_rule hk.1 _) (se_X10_X10_rule hk.1 _) (by decide +kernel) ⟨⟨rfl, rfl⟩, by decide, by decide⟩ hP hD hS rfl rfl rfl hl.1 rfl (Nat.le_of_ble_eq_true rfl) dX10_isOver_57 ⟨by decide, by decide⟩ (fun H locs hP hD hS => ?_)
    refine lv_aload_n hx hb dX10_isOver_60 rfl (lv_at hl 0 rfl) ?_
    refine va_get (D := D) (C := RX10) (T := TX10) (N := 15) hx hb (uc_10 hk.1 _) (fun _ h9 => h9) hown hK hP 0 rfl rfl 9 (by decide) (fl_X10_31 hk.1 _) (fun _ h9 => h9) rfl dX10_isOver_61 ?_
    refine lv_iload_n hx hb dX10_isOver_64 rfl (lv_at hl 1 rfl) ?_
    refine lv_aload_n hx hb dX10_isOver_65 rfl (lv_at hl 0 rfl) ?_
    refine va_get (D := D) (C := RX10) (T := TX10) (N := 15) hx hb (uc_10 hk.1 _) (fun _ h9 => h9) hown hK hP 0 rfl rfl 9 (by decide) (fl_X10_31 hk.1 _) (fun _ h9 => h9) rfl dX10_isOver_66 ?_
    refine lv_iload_n hx hb dX10_isOver_69 rfl (lv_at hl 1 rfl) ?_
    refine ld_z (x := bi la) C hP 8 rfl hi (congrArg (fun q : Pd => bi q.2.2.2.2.2.2.2) (va_up_self F i _)) dX10_isOver_70 ?_
    refine lv_if_ne (tgt := 82) hx hb dX10_isOver_71 (by decide) (fun c_3 => ?_) (fun c_3 => ?_)
    · have hla : la = true := bi_ne0 c_3
      subst hla
      refine lv_iconst (v := 1) hx hb dX10_isOver_82 (by decide) ?_
      refine lv_goto (tgt := 87) hx hb dX10_isOver_83 (by decide) ?_
      refine st_7 (b9 := true) C hP hD hS hi dX10_isOver_87 (fun H locs hP hD hS => ?_)
      have hP : va_P D cls (wm ca ya (va_up F i (6, zn, lm, ch, lv, cn, dr, true)) n cd fl (tb 2 6 t)) H := hP
      have hD : va_D A (wm ca ya (va_up F i (6, zn, lm, ch, lv, cn, dr, true)) n cd fl (tb 2 6 t)) := hD
      refine lv_aload_n hx hb dX10_isOver_88 rfl (lv_at hl 0 rfl) ?_
      refine va_get (D := D) (C := RX10) (T := TX10) (N := 15) hx hb (uc_10 hk.1 _) (fun _ h9 => h9) hown hK hP 0 rfl rfl 9 (by decide) (fl_X10_31 hk.1 _) (fun _ h9 => h9) rfl dX10_isOver_89 ?_
      refine lv_iload_n hx hb dX10_isOver_92 rfl (lv_at hl 1 rfl) ?_
      refine ld_z (x := bi true) C hP 8 rfl hi (congrArg (fun q : Pd => bi q.2.2.2.2.2.2.2) (va_up_self F i _)) dX10_isOver_93 ?_
      have hr9 : r = (true, (ch, lv, cn, dr, true), tb 2 6 t) := by rw [← hr9, epo_6, poF]; exact if_pos rfl
      subst hr9
      exact rz C hrt hlocks rfl hP hS dX10_isOver_94
    · have hla : la = false := bi_eq0 c_3
      subst hla
      refine lv_aload_n hx hb dX10_isOver_74 rfl (lv_at hl 0 rfl) ?_
      refine lv_iload_n hx hb dX10_isOver_75 rfl (lv_at hl 1 rfl) ?_
      refine k_mi (n9 := 1) (As := [.int (nI i)]) C (n_overPlain l D ca sa lo ya F n cd fl (tb 2 6 t) (by first | omega | (simp only [tb_n]; omega)) i hi 6 (by decide) zn lm (ch, lv, cn, dr, false) _) (fun U A9 h => co_X10_overPlain h A9) (in_X10 hk.1 _) (ml_X10_91 hk.1 _) (im_X10_overPlain hk.1 _) (se_X10_X10_overPlain hk.1 _) (by decide +kernel) ⟨⟨rfl, rfl⟩, by decide, by decide⟩ hP hD hS rfl rfl rfl hl.1 rfl (Nat.le_of_ble_eq_true rfl) dX10_isOver_76 ⟨by decide, by decide⟩ (fun H locs hP hD hS => ?_)
      have hP : va_P D cls (wm ca ya (va_up F i (6, zn, lm, ch, lv, cn, dr, false)) n cd fl (tb 2 0 (tb 2 6 t))) H := hP
      have hD : va_D A (wm ca ya (va_up F i (6, zn, lm, ch, lv, cn, dr, false)) n cd fl (tb 2 0 (tb 2 6 t))) := hD
      refine lv_if_eq (tgt := 86) hx hb dX10_isOver_79 (by decide) (fun c_4 => ?_) (fun c_4 => ?_)
      · refine lv_iconst (v := 0) hx hb dX10_isOver_86 (by decide) ?_
        refine st_7 (b9 := false) C hP hD hS hi dX10_isOver_87 (fun H locs hP hD hS => ?_)
        have hP : va_P D cls (wm ca ya (va_up F i (6, zn, lm, ch, lv, cn, dr, false)) n cd fl (tb 2 0 (tb 2 6 t))) H := hP
        have hD : va_D A (wm ca ya (va_up F i (6, zn, lm, ch, lv, cn, dr, false)) n cd fl (tb 2 0 (tb 2 6 t))) := hD
        refine lv_aload_n hx hb dX10_isOver_88 rfl (lv_at hl 0 rfl) ?_
        refine va_get (D := D) (C := RX10) (T := TX10) (N := 15) hx hb (uc_10 hk.1 _) (fun _ h9 => h9) hown hK hP 0 rfl rfl 9 (by decide) (fl_X10_31 hk.1 _) (fun _ h9 => h9) rfl dX10_isOver_89 ?_
        refine lv_iload_n hx hb dX10_isOver_92 rfl (lv_at hl 1 rfl) ?_
        refine ld_z (x := bi false) C hP 8 rfl hi (congrArg (fun q : Pd => bi q.2.2.2.2.2.2.2) (va_up_self F i _)) dX10_isOver_93 ?_
        have hr9 : r = (false, (ch, lv, cn, dr, false), tb 2 0 (tb 2 6 t)) := by rw [← hr9, epo_6, poF, if_neg (fun h9 => Bool.noConfusion (show false = true from h9))]; show (decide (lm ≤ lv), (ch, lv, cn, dr, decide (lm ≤ lv)), _) = _; rw [bi_eq0 c_4]
        subst hr9
        exact rz C hrt hlocks rfl hP hS dX10_isOver_94
      · refine lv_iconst (v := 1) hx hb dX10_isOver_82 (by decide) ?_
        refine lv_goto (tgt := 87) hx hb dX10_isOver_83 (by decide) ?_
        refine st_7 (b9 := true) C hP hD hS hi dX10_isOver_87 (fun H locs hP hD hS => ?_)
        have hP : va_P D cls (wm ca ya (va_up F i (6, zn, lm, ch, lv, cn, dr, true)) n cd fl (tb 2 0 (tb 2 6 t))) H := hP
        have hD : va_D A (wm ca ya (va_up F i (6, zn, lm, ch, lv, cn, dr, true)) n cd fl (tb 2 0 (tb 2 6 t))) := hD
        refine lv_aload_n hx hb dX10_isOver_88 rfl (lv_at hl 0 rfl) ?_
        refine va_get (D := D) (C := RX10) (T := TX10) (N := 15) hx hb (uc_10 hk.1 _) (fun _ h9 => h9) hown hK hP 0 rfl rfl 9 (by decide) (fl_X10_31 hk.1 _) (fun _ h9 => h9) rfl dX10_isOver_89 ?_
        refine lv_iload_n hx hb dX10_isOver_92 rfl (lv_at hl 1 rfl) ?_
        refine ld_z (x := bi true) C hP 8 rfl hi (congrArg (fun q : Pd => bi q.2.2.2.2.2.2.2) (va_up_self F i _)) dX10_isOver_93 ?_
        have hr9 : r = (true, (ch, lv, cn, dr, true), tb 2 0 (tb 2 6 t)) := by rw [← hr9, epo_6, poF, if_neg (fun h9 => Bool.noConfusion (show false = true from h9))]; show (decide (lm ≤ lv), (ch, lv, cn, dr, decide (lm ≤ lv)), _) = _; rw [bi_ne0 c_4]
        subst hr9
        exact rz C hrt hlocks rfl hP hS dX10_isOver_94
  · refine lv_aload_n hx hb dX10_isOver_0 rfl (lv_at hl 0 rfl) ?_
    refine va_get (D := D) (C := RX10) (T := TX10) (N := 15) hx hb (uc_10 hk.1 _) (fun _ h9 => h9) hown hK hP 0 rfl rfl 2 (by decide) (fl_X10_7 hk.1 _) (fun _ h9 => h9) rfl dX10_isOver_1 ?_
    refine lv_iload_n hx hb dX10_isOver_4 rfl (lv_at hl 1 rfl) ?_
    refine ld_i (x := nI 7) C hP 1 rfl hi (congrArg (fun q : Pd => nI q.1) (va_up_self F i _)) dX10_isOver_5 ?_
    refine lv_iconst (v := 4) hx hb dX10_isOver_6 (by decide) ?_
    refine lv_icmp_ne (x := nI 7) (y := 4) (tgt := 42) hx hb dX10_isOver_7 (by decide) (fun _ => ?_) (fun h9 => absurd h9 (by decide +kernel))
    refine lv_aload_n hx hb dX10_isOver_42 rfl (lv_at hl 0 rfl) ?_
    refine va_get (D := D) (C := RX10) (T := TX10) (N := 15) hx hb (uc_10 hk.1 _) (fun _ h9 => h9) hown hK hP 0 rfl rfl 2 (by decide) (fl_X10_7 hk.1 _) (fun _ h9 => h9) rfl dX10_isOver_43 ?_
    refine lv_iload_n hx hb dX10_isOver_46 rfl (lv_at hl 1 rfl) ?_
    refine ld_i (x := nI 7) C hP 1 rfl hi (congrArg (fun q : Pd => nI q.1) (va_up_self F i _)) dX10_isOver_47 ?_
    refine lv_bipush (v := 6) hx hb dX10_isOver_48 (by decide) ?_
    refine lv_icmp_ne (x := nI 7) (y := 6) (tgt := 95) hx hb dX10_isOver_50 (by decide) (fun _ => ?_) (fun h9 => absurd h9 (by decide +kernel))
    refine lv_aload_n hx hb dX10_isOver_95 rfl (lv_at hl 0 rfl) ?_
    refine lv_iload_n hx hb dX10_isOver_96 rfl (lv_at hl 1 rfl) ?_
    refine k_mi (n9 := 1) (As := [.int (nI i)]) C (n_overPlain l D ca sa lo ya F n cd fl t (by first | omega | (simp only [tb_n]; omega)) i hi 7 (by decide) zn lm (ch, lv, cn, dr, la) _) (fun U A9 h => co_X10_overPlain h A9) (in_X10 hk.1 _) (ml_X10_91 hk.1 _) (im_X10_overPlain hk.1 _) (se_X10_X10_overPlain hk.1 _) (by decide +kernel) ⟨⟨rfl, rfl⟩, by decide, by decide⟩ hP hD hS rfl rfl rfl hl.1 rfl (Nat.le_of_ble_eq_true rfl) dX10_isOver_97 ⟨by decide, by decide⟩ (fun H locs hP hD hS => ?_)
    have hP : va_P D cls (wm ca ya (va_up F i (7, zn, lm, ch, lv, cn, dr, la)) n cd fl (tb 2 0 t)) H := hP
    have hD : va_D A (wm ca ya (va_up F i (7, zn, lm, ch, lv, cn, dr, la)) n cd fl (tb 2 0 t)) := hD
    rw [epo_7] at hr9
    subst hr9
    exact rz C hrt hlocks rfl hP hS dX10_isOver_100

set_option maxHeartbeats 4000000 in
set_option maxRecDepth 100000 in
theorem n_costOf (l : Launch) (D : va_G) (ca : Nat → ClassId) (sa : Nat → Nat) (lo : Nat) (ya : Nat → Nat) (F : Nat → Pd) (n : Nat) (cd fl : Int32) (t : Tr) (ht : t.1 + 2 ≤ 2147483648) (i : Nat) (hi : i < 20) (kd : Nat) (hkd : kd < 8) (zn lm : Int32) (d : Dv) (sz : Nat) : Met l yX10_costOf [.code yX10_costOf cX10_costOf 5 (some .int)] ({ frames := 1, cells := 0, slots := 0, locals := 30 }) (PX D ca sa lo sz [.ref (ya 0), .int (nI i)] (wm ca ya (va_up F i (kd, zn, lm, d)) n cd fl t)) (QI D (pk kd d t).1 (wm ca ya (va_up F i (kd, zn, lm, d)) n cd fl (pk kd d t).2) (va_A (wm ca ya (va_up F i (kd, zn, lm, d)) n cd fl t) sz)) 0 0 (va_A (wm ca ya (va_up F i (kd, zn, lm, d)) n cd fl t) sz) := by
  generalize hr9 : pk kd d t = r
  obtain ⟨ch, lv, cn, dr, la⟩ := d
  refine mk_met (fun A => QI D r.1 (wm ca ya (va_up F i (kd, zn, lm, ch, lv, cn, dr, la)) n cd fl r.2) A) (by decide) (Nat.le_of_ble_eq_true rfl) ?_
  intro p e s m below meth c A ls C hrt hlocks hnm hsz hP hD hS hl
  obtain ⟨hx, hb, hml, hown, hk, hz, hlo, hA, hAl⟩ := id C
  have hK : va_K D cls (tyl ca) s := hk.2.1
  have hl : lv_has ls 5 [(0, .ref (ya 0)), (1, .int (nI i))] := hl
  rcases k8 hkd with rfl | rfl | rfl | rfl | rfl | rfl | rfl | rfl
  · refine lv_aload_n hx hb dX10_costOf_0 rfl (lv_at hl 0 rfl) ?_
    refine va_get (D := D) (C := RX10) (T := TX10) (N := 15) hx hb (uc_10 hk.1 _) (fun _ h9 => h9) hown hK hP 0 rfl rfl 2 (by decide) (fl_X10_7 hk.1 _) (fun _ h9 => h9) rfl dX10_costOf_1 ?_
    refine lv_iload_n hx hb dX10_costOf_4 rfl (lv_at hl 1 rfl) ?_
    refine ld_i (x := nI 0) C hP 1 rfl hi (congrArg (fun q : Pd => nI q.1) (va_up_self F i _)) dX10_costOf_5 ?_
    refine lv_istore_n (lv' := [(2, .int (nI 0)), (0, .ref (ya 0)), (1, .int (nI i))]) hx hb dX10_costOf_6 rfl hl (by decide) rfl (fun ls hl => ?_)
    refine lv_iload_n hx hb dX10_costOf_7 rfl (lv_at hl 0 rfl) ?_
    refine lv_iconst (v := 2) hx hb dX10_costOf_8 (by decide) ?_
    refine lv_icmp_eq (x := nI 0) (y := 2) (tgt := 22) hx hb dX10_costOf_9 (by decide) (fun h9 => absurd h9 (by decide +kernel)) (fun _ => ?_)
    refine lv_iload_n hx hb dX10_costOf_12 rfl (lv_at hl 0 rfl) ?_
    refine lv_iconst (v := 4) hx hb dX10_costOf_13 (by decide) ?_
    refine lv_icmp_eq (x := nI 0) (y := 4) (tgt := 22) hx hb dX10_costOf_14 (by decide) (fun h9 => absurd h9 (by decide +kernel)) (fun _ => ?_)
    refine lv_iload_n hx hb dX10_costOf_17 rfl (lv_at hl 0 rfl) ?_
    refine lv_iconst (v := 5) hx hb dX10_costOf_18 (by decide) ?_
    refine lv_icmp_ne (x := nI 0) (y := 5) (tgt := 26) hx hb dX10_costOf_19 (by decide) (fun _ => ?_) (fun h9 => absurd h9 (by decide +kernel))
    refine lv_iconst (v := 0) hx hb dX10_costOf_26 (by decide) ?_
    refine lv_istore_n (lv' := [(3, .int 0), (2, .int (nI 0)), (0, .ref (ya 0)), (1, .int (nI i))]) hx hb dX10_costOf_27 rfl hl (by decide) rfl (fun ls hl => ?_)
    refine lv_iload_n hx hb dX10_costOf_28 rfl (lv_at hl 0 rfl) ?_
    refine lv_if_eq (x := 0) (tgt := 41) hx hb dX10_costOf_29 (by decide) (fun _ => ?_) (fun h9 => absurd h9 (by decide +kernel))
    refine lv_iload_n hx hb dX10_costOf_41 rfl (lv_at hl 1 rfl) ?_
    refine lv_bipush (v := 6) hx hb dX10_costOf_42 (by decide) ?_
    refine lv_icmp_eq (x := nI 0) (y := 6) (tgt := 53) hx hb dX10_costOf_44 (by decide) (fun h9 => absurd h9 (by decide +kernel)) (fun _ => ?_)
    refine lv_iload_n hx hb dX10_costOf_47 rfl (lv_at hl 1 rfl) ?_
    refine lv_bipush (v := 7) hx hb dX10_costOf_48 (by decide) ?_
    refine lv_icmp_ne (x := nI 0) (y := 7) (tgt := 59) hx hb dX10_costOf_50 (by decide) (fun _ => ?_) (fun h9 => absurd h9 (by decide +kernel))
    refine lv_aload_n hx hb dX10_costOf_59 rfl (lv_at hl 2 rfl) ?_
    refine lv_iconst (v := 4) hx hb dX10_costOf_60 (by decide) ?_
    refine lv_iconst (v := 0) hx hb dX10_costOf_61 (by decide) ?_
    refine k_mv (n9 := 2) (As := [.int 4, .int 0]) C (n_rule l D ca sa lo ya (va_up F i (0, zn, lm, ch, lv, cn, dr, la)) n cd fl t (by first | omega | (simp only [tb_n]; omega)) 4 0 _) (fun U A9 h => co_X10_rule h A9) (in_X10 hk.1 _) (ml_X10_58 hk.1 _) (im_X10_rule hk.1 _) (se_X10_X10_rule hk.1 _) (by decide +kernel) ⟨⟨rfl, rfl⟩, by decide, by decide⟩ hP hD hS rfl rfl rfl hl.1 rfl (Nat.le_of_ble_eq_true rfl) dX10_costOf_62 ⟨by decide, by decide⟩ (fun H locs hP hD hS => ?_)
    refine lv_bipush (v := 10) hx hb dX10_costOf_65 (by decide) ?_
    refine lv_aload_n hx hb dX10_costOf_67 rfl (lv_at hl 2 rfl) ?_
    refine va_get (D := D) (C := RX10) (T := TX10) (N := 15) hx hb (uc_10 hk.1 _) (fun _ h9 => h9) hown hK hP 0 rfl rfl 7 (by decide) (fl_X10_25 hk.1 _) (fun _ h9 => h9) rfl dX10_costOf_68 ?_
    refine lv_iload_n hx hb dX10_costOf_71 rfl (lv_at hl 3 rfl) ?_
    refine ld_i (x := cn) C hP 6 rfl hi (congrArg (fun q : Pd => q.2.2.2.2.2.1) (va_up_self F i _)) dX10_costOf_72 ?_
    refine lv_iadd hx hb dX10_costOf_73 ?_
    refine lv_istore (lv' := [(4, .int (10 + cn)), (3, .int 0), (2, .int (nI 0)), (0, .ref (ya 0)), (1, .int (nI i))]) hx hb dX10_costOf_74 hl (by decide) rfl (fun ls hl => ?_)
    refine lv_iload_n hx hb dX10_costOf_76 rfl (lv_at hl 2 rfl) ?_
    refine lv_bipush (v := 7) hx hb dX10_costOf_77 (by decide) ?_
    refine lv_icmp_ne (x := nI 0) (y := 7) (tgt := 113) hx hb dX10_costOf_79 (by decide) (fun _ => ?_) (fun h9 => absurd h9 (by decide +kernel))
    refine lv_iload_n hx hb dX10_costOf_113 rfl (lv_at hl 1 rfl) ?_
    refine lv_if_eq (x := 0) (tgt := 124) hx hb dX10_costOf_114 (by decide) (fun _ => ?_) (fun h9 => absurd h9 (by decide +kernel))
    refine lv_iload_n hx hb dX10_costOf_124 rfl (lv_at hl 2 rfl) ?_
    refine lv_bipush (v := 6) hx hb dX10_costOf_125 (by decide) ?_
    refine lv_icmp_ne (x := nI 0) (y := 6) (tgt := 137) hx hb dX10_costOf_127 (by decide) (fun _ => ?_) (fun h9 => absurd h9 (by decide +kernel))
    refine lv_iload hx hb dX10_costOf_137 (lv_at hl 0 rfl) ?_
    rw [epk_0] at hr9
    subst hr9
    exact ri C hrt hlocks rfl hP hS dX10_costOf_139
  · refine lv_aload_n hx hb dX10_costOf_0 rfl (lv_at hl 0 rfl) ?_
    refine va_get (D := D) (C := RX10) (T := TX10) (N := 15) hx hb (uc_10 hk.1 _) (fun _ h9 => h9) hown hK hP 0 rfl rfl 2 (by decide) (fl_X10_7 hk.1 _) (fun _ h9 => h9) rfl dX10_costOf_1 ?_
    refine lv_iload_n hx hb dX10_costOf_4 rfl (lv_at hl 1 rfl) ?_
    refine ld_i (x := nI 1) C hP 1 rfl hi (congrArg (fun q : Pd => nI q.1) (va_up_self F i _)) dX10_costOf_5 ?_
    refine lv_istore_n (lv' := [(2, .int (nI 1)), (0, .ref (ya 0)), (1, .int (nI i))]) hx hb dX10_costOf_6 rfl hl (by decide) rfl (fun ls hl => ?_)
    refine lv_iload_n hx hb dX10_costOf_7 rfl (lv_at hl 0 rfl) ?_
    refine lv_iconst (v := 2) hx hb dX10_costOf_8 (by decide) ?_
    refine lv_icmp_eq (x := nI 1) (y := 2) (tgt := 22) hx hb dX10_costOf_9 (by decide) (fun h9 => absurd h9 (by decide +kernel)) (fun _ => ?_)
    refine lv_iload_n hx hb dX10_costOf_12 rfl (lv_at hl 0 rfl) ?_
    refine lv_iconst (v := 4) hx hb dX10_costOf_13 (by decide) ?_
    refine lv_icmp_eq (x := nI 1) (y := 4) (tgt := 22) hx hb dX10_costOf_14 (by decide) (fun h9 => absurd h9 (by decide +kernel)) (fun _ => ?_)
    refine lv_iload_n hx hb dX10_costOf_17 rfl (lv_at hl 0 rfl) ?_
    refine lv_iconst (v := 5) hx hb dX10_costOf_18 (by decide) ?_
    refine lv_icmp_ne (x := nI 1) (y := 5) (tgt := 26) hx hb dX10_costOf_19 (by decide) (fun _ => ?_) (fun h9 => absurd h9 (by decide +kernel))
    refine lv_iconst (v := 0) hx hb dX10_costOf_26 (by decide) ?_
    refine lv_istore_n (lv' := [(3, .int 0), (2, .int (nI 1)), (0, .ref (ya 0)), (1, .int (nI i))]) hx hb dX10_costOf_27 rfl hl (by decide) rfl (fun ls hl => ?_)
    refine lv_iload_n hx hb dX10_costOf_28 rfl (lv_at hl 0 rfl) ?_
    refine lv_if_eq (x := 0) (tgt := 41) hx hb dX10_costOf_29 (by decide) (fun _ => ?_) (fun h9 => absurd h9 (by decide +kernel))
    refine lv_iload_n hx hb dX10_costOf_41 rfl (lv_at hl 1 rfl) ?_
    refine lv_bipush (v := 6) hx hb dX10_costOf_42 (by decide) ?_
    refine lv_icmp_eq (x := nI 1) (y := 6) (tgt := 53) hx hb dX10_costOf_44 (by decide) (fun h9 => absurd h9 (by decide +kernel)) (fun _ => ?_)
    refine lv_iload_n hx hb dX10_costOf_47 rfl (lv_at hl 1 rfl) ?_
    refine lv_bipush (v := 7) hx hb dX10_costOf_48 (by decide) ?_
    refine lv_icmp_ne (x := nI 1) (y := 7) (tgt := 59) hx hb dX10_costOf_50 (by decide) (fun _ => ?_) (fun h9 => absurd h9 (by decide +kernel))
    refine lv_aload_n hx hb dX10_costOf_59 rfl (lv_at hl 2 rfl) ?_
    refine lv_iconst (v := 4) hx hb dX10_costOf_60 (by decide) ?_
    refine lv_iconst (v := 0) hx hb dX10_costOf_61 (by decide) ?_
    refine k_mv (n9 := 2) (As := [.int 4, .int 0]) C (n_rule l D ca sa lo ya (va_up F i (1, zn, lm, ch, lv, cn, dr, la)) n cd fl t (by first | omega | (simp only [tb_n]; omega)) 4 0 _) (fun U A9 h => co_X10_rule h A9) (in_X10 hk.1 _) (ml_X10_58 hk.1 _) (im_X10_rule hk.1 _) (se_X10_X10_rule hk.1 _) (by decide +kernel) ⟨⟨rfl, rfl⟩, by decide, by decide⟩ hP hD hS rfl rfl rfl hl.1 rfl (Nat.le_of_ble_eq_true rfl) dX10_costOf_62 ⟨by decide, by decide⟩ (fun H locs hP hD hS => ?_)
    refine lv_bipush (v := 10) hx hb dX10_costOf_65 (by decide) ?_
    refine lv_aload_n hx hb dX10_costOf_67 rfl (lv_at hl 2 rfl) ?_
    refine va_get (D := D) (C := RX10) (T := TX10) (N := 15) hx hb (uc_10 hk.1 _) (fun _ h9 => h9) hown hK hP 0 rfl rfl 7 (by decide) (fl_X10_25 hk.1 _) (fun _ h9 => h9) rfl dX10_costOf_68 ?_
    refine lv_iload_n hx hb dX10_costOf_71 rfl (lv_at hl 3 rfl) ?_
    refine ld_i (x := cn) C hP 6 rfl hi (congrArg (fun q : Pd => q.2.2.2.2.2.1) (va_up_self F i _)) dX10_costOf_72 ?_
    refine lv_iadd hx hb dX10_costOf_73 ?_
    refine lv_istore (lv' := [(4, .int (10 + cn)), (3, .int 0), (2, .int (nI 1)), (0, .ref (ya 0)), (1, .int (nI i))]) hx hb dX10_costOf_74 hl (by decide) rfl (fun ls hl => ?_)
    refine lv_iload_n hx hb dX10_costOf_76 rfl (lv_at hl 2 rfl) ?_
    refine lv_bipush (v := 7) hx hb dX10_costOf_77 (by decide) ?_
    refine lv_icmp_ne (x := nI 1) (y := 7) (tgt := 113) hx hb dX10_costOf_79 (by decide) (fun _ => ?_) (fun h9 => absurd h9 (by decide +kernel))
    refine lv_iload_n hx hb dX10_costOf_113 rfl (lv_at hl 1 rfl) ?_
    refine lv_if_eq (x := 0) (tgt := 124) hx hb dX10_costOf_114 (by decide) (fun _ => ?_) (fun h9 => absurd h9 (by decide +kernel))
    refine lv_iload_n hx hb dX10_costOf_124 rfl (lv_at hl 2 rfl) ?_
    refine lv_bipush (v := 6) hx hb dX10_costOf_125 (by decide) ?_
    refine lv_icmp_ne (x := nI 1) (y := 6) (tgt := 137) hx hb dX10_costOf_127 (by decide) (fun _ => ?_) (fun h9 => absurd h9 (by decide +kernel))
    refine lv_iload hx hb dX10_costOf_137 (lv_at hl 0 rfl) ?_
    rw [epk_1] at hr9
    subst hr9
    exact ri C hrt hlocks rfl hP hS dX10_costOf_139
  · refine lv_aload_n hx hb dX10_costOf_0 rfl (lv_at hl 0 rfl) ?_
    refine va_get (D := D) (C := RX10) (T := TX10) (N := 15) hx hb (uc_10 hk.1 _) (fun _ h9 => h9) hown hK hP 0 rfl rfl 2 (by decide) (fl_X10_7 hk.1 _) (fun _ h9 => h9) rfl dX10_costOf_1 ?_
    refine lv_iload_n hx hb dX10_costOf_4 rfl (lv_at hl 1 rfl) ?_
    refine ld_i (x := nI 2) C hP 1 rfl hi (congrArg (fun q : Pd => nI q.1) (va_up_self F i _)) dX10_costOf_5 ?_
    refine lv_istore_n (lv' := [(2, .int (nI 2)), (0, .ref (ya 0)), (1, .int (nI i))]) hx hb dX10_costOf_6 rfl hl (by decide) rfl (fun ls hl => ?_)
    refine lv_iload_n hx hb dX10_costOf_7 rfl (lv_at hl 0 rfl) ?_
    refine lv_iconst (v := 2) hx hb dX10_costOf_8 (by decide) ?_
    refine lv_icmp_eq (x := nI 2) (y := 2) (tgt := 22) hx hb dX10_costOf_9 (by decide) (fun _ => ?_) (fun h9 => absurd h9 (by decide +kernel))
    refine lv_iconst (v := 1) hx hb dX10_costOf_22 (by decide) ?_
    refine lv_goto (tgt := 27) hx hb dX10_costOf_23 (by decide) ?_
    refine lv_istore_n (lv' := [(3, .int 1), (2, .int (nI 2)), (0, .ref (ya 0)), (1, .int (nI i))]) hx hb dX10_costOf_27 rfl hl (by decide) rfl (fun ls hl => ?_)
    refine lv_iload_n hx hb dX10_costOf_28 rfl (lv_at hl 0 rfl) ?_
    refine lv_if_eq (x := 1) (tgt := 41) hx hb dX10_costOf_29 (by decide) (fun h9 => absurd h9 (by decide +kernel)) (fun _ => ?_)
    refine lv_aload_n hx hb dX10_costOf_32 rfl (lv_at hl 2 rfl) ?_
    refine lv_iconst (v := 4) hx hb dX10_costOf_33 (by decide) ?_
    refine lv_iconst (v := 2) hx hb dX10_costOf_34 (by decide) ?_
    refine k_mv (n9 := 2) (As := [.int 4, .int 2]) C (n_rule l D ca sa lo ya (va_up F i (2, zn, lm, ch, lv, cn, dr, la)) n cd fl t (by first | omega | (simp only [tb_n]; omega)) 4 2 _) (fun U A9 h => co_X10_rule h A9) (in_X10 hk.1 _) (ml_X10_58 hk.1 _) (im_X10_rule hk.1 _) (se_X10_X10_rule hk.1 _) (by decide +kernel) ⟨⟨rfl, rfl⟩, by decide, by decide⟩ hP hD hS rfl rfl rfl hl.1 rfl (Nat.le_of_ble_eq_true rfl) dX10_costOf_35 ⟨by decide, by decide⟩ (fun H locs hP hD hS => ?_)
    refine lv_goto (tgt := 59) hx hb dX10_costOf_38 (by decide) ?_
    refine lv_aload_n hx hb dX10_costOf_59 rfl (lv_at hl 2 rfl) ?_
    refine lv_iconst (v := 4) hx hb dX10_costOf_60 (by decide) ?_
    refine lv_iconst (v := 0) hx hb dX10_costOf_61 (by decide) ?_
    refine k_mv (n9 := 2) (As := [.int 4, .int 0]) C (n_rule l D ca sa lo ya (va_up F i (2, zn, lm, ch, lv, cn, dr, la)) n cd fl (tb 4 2 t) (by first | omega | (simp only [tb_n]; omega)) 4 0 _) (fun U A9 h => co_X10_rule h A9) (in_X10 hk.1 _) (ml_X10_58 hk.1 _) (im_X10_rule hk.1 _) (se_X10_X10_rule hk.1 _) (by decide +kernel) ⟨⟨rfl, rfl⟩, by decide, by decide⟩ hP hD hS rfl rfl rfl hl.1 rfl (Nat.le_of_ble_eq_true rfl) dX10_costOf_62 ⟨by decide, by decide⟩ (fun H locs hP hD hS => ?_)
    refine lv_bipush (v := 10) hx hb dX10_costOf_65 (by decide) ?_
    refine lv_aload_n hx hb dX10_costOf_67 rfl (lv_at hl 2 rfl) ?_
    refine va_get (D := D) (C := RX10) (T := TX10) (N := 15) hx hb (uc_10 hk.1 _) (fun _ h9 => h9) hown hK hP 0 rfl rfl 7 (by decide) (fl_X10_25 hk.1 _) (fun _ h9 => h9) rfl dX10_costOf_68 ?_
    refine lv_iload_n hx hb dX10_costOf_71 rfl (lv_at hl 3 rfl) ?_
    refine ld_i (x := cn) C hP 6 rfl hi (congrArg (fun q : Pd => q.2.2.2.2.2.1) (va_up_self F i _)) dX10_costOf_72 ?_
    refine lv_iadd hx hb dX10_costOf_73 ?_
    refine lv_istore (lv' := [(4, .int (10 + cn)), (3, .int 1), (2, .int (nI 2)), (0, .ref (ya 0)), (1, .int (nI i))]) hx hb dX10_costOf_74 hl (by decide) rfl (fun ls hl => ?_)
    refine lv_iload_n hx hb dX10_costOf_76 rfl (lv_at hl 2 rfl) ?_
    refine lv_bipush (v := 7) hx hb dX10_costOf_77 (by decide) ?_
    refine lv_icmp_ne (x := nI 2) (y := 7) (tgt := 113) hx hb dX10_costOf_79 (by decide) (fun _ => ?_) (fun h9 => absurd h9 (by decide +kernel))
    refine lv_iload_n hx hb dX10_costOf_113 rfl (lv_at hl 1 rfl) ?_
    refine lv_if_eq (x := 1) (tgt := 124) hx hb dX10_costOf_114 (by decide) (fun h9 => absurd h9 (by decide +kernel)) (fun _ => ?_)
    refine lv_iconst (v := 2) hx hb dX10_costOf_117 (by decide) ?_
    refine lv_iload hx hb dX10_costOf_118 (lv_at hl 0 rfl) ?_
    refine lv_imul hx hb dX10_costOf_120 ?_
    refine lv_goto (tgt := 139) hx hb dX10_costOf_121 (by decide) ?_
    rw [epk_2] at hr9
    subst hr9
    exact ri C hrt hlocks rfl hP hS dX10_costOf_139
  · refine lv_aload_n hx hb dX10_costOf_0 rfl (lv_at hl 0 rfl) ?_
    refine va_get (D := D) (C := RX10) (T := TX10) (N := 15) hx hb (uc_10 hk.1 _) (fun _ h9 => h9) hown hK hP 0 rfl rfl 2 (by decide) (fl_X10_7 hk.1 _) (fun _ h9 => h9) rfl dX10_costOf_1 ?_
    refine lv_iload_n hx hb dX10_costOf_4 rfl (lv_at hl 1 rfl) ?_
    refine ld_i (x := nI 3) C hP 1 rfl hi (congrArg (fun q : Pd => nI q.1) (va_up_self F i _)) dX10_costOf_5 ?_
    refine lv_istore_n (lv' := [(2, .int (nI 3)), (0, .ref (ya 0)), (1, .int (nI i))]) hx hb dX10_costOf_6 rfl hl (by decide) rfl (fun ls hl => ?_)
    refine lv_iload_n hx hb dX10_costOf_7 rfl (lv_at hl 0 rfl) ?_
    refine lv_iconst (v := 2) hx hb dX10_costOf_8 (by decide) ?_
    refine lv_icmp_eq (x := nI 3) (y := 2) (tgt := 22) hx hb dX10_costOf_9 (by decide) (fun h9 => absurd h9 (by decide +kernel)) (fun _ => ?_)
    refine lv_iload_n hx hb dX10_costOf_12 rfl (lv_at hl 0 rfl) ?_
    refine lv_iconst (v := 4) hx hb dX10_costOf_13 (by decide) ?_
    refine lv_icmp_eq (x := nI 3) (y := 4) (tgt := 22) hx hb dX10_costOf_14 (by decide) (fun h9 => absurd h9 (by decide +kernel)) (fun _ => ?_)
    refine lv_iload_n hx hb dX10_costOf_17 rfl (lv_at hl 0 rfl) ?_
    refine lv_iconst (v := 5) hx hb dX10_costOf_18 (by decide) ?_
    refine lv_icmp_ne (x := nI 3) (y := 5) (tgt := 26) hx hb dX10_costOf_19 (by decide) (fun _ => ?_) (fun h9 => absurd h9 (by decide +kernel))
    refine lv_iconst (v := 0) hx hb dX10_costOf_26 (by decide) ?_
    refine lv_istore_n (lv' := [(3, .int 0), (2, .int (nI 3)), (0, .ref (ya 0)), (1, .int (nI i))]) hx hb dX10_costOf_27 rfl hl (by decide) rfl (fun ls hl => ?_)
    refine lv_iload_n hx hb dX10_costOf_28 rfl (lv_at hl 0 rfl) ?_
    refine lv_if_eq (x := 0) (tgt := 41) hx hb dX10_costOf_29 (by decide) (fun _ => ?_) (fun h9 => absurd h9 (by decide +kernel))
    refine lv_iload_n hx hb dX10_costOf_41 rfl (lv_at hl 1 rfl) ?_
    refine lv_bipush (v := 6) hx hb dX10_costOf_42 (by decide) ?_
    refine lv_icmp_eq (x := nI 3) (y := 6) (tgt := 53) hx hb dX10_costOf_44 (by decide) (fun h9 => absurd h9 (by decide +kernel)) (fun _ => ?_)
    refine lv_iload_n hx hb dX10_costOf_47 rfl (lv_at hl 1 rfl) ?_
    refine lv_bipush (v := 7) hx hb dX10_costOf_48 (by decide) ?_
    refine lv_icmp_ne (x := nI 3) (y := 7) (tgt := 59) hx hb dX10_costOf_50 (by decide) (fun _ => ?_) (fun h9 => absurd h9 (by decide +kernel))
    refine lv_aload_n hx hb dX10_costOf_59 rfl (lv_at hl 2 rfl) ?_
    refine lv_iconst (v := 4) hx hb dX10_costOf_60 (by decide) ?_
    refine lv_iconst (v := 0) hx hb dX10_costOf_61 (by decide) ?_
    refine k_mv (n9 := 2) (As := [.int 4, .int 0]) C (n_rule l D ca sa lo ya (va_up F i (3, zn, lm, ch, lv, cn, dr, la)) n cd fl t (by first | omega | (simp only [tb_n]; omega)) 4 0 _) (fun U A9 h => co_X10_rule h A9) (in_X10 hk.1 _) (ml_X10_58 hk.1 _) (im_X10_rule hk.1 _) (se_X10_X10_rule hk.1 _) (by decide +kernel) ⟨⟨rfl, rfl⟩, by decide, by decide⟩ hP hD hS rfl rfl rfl hl.1 rfl (Nat.le_of_ble_eq_true rfl) dX10_costOf_62 ⟨by decide, by decide⟩ (fun H locs hP hD hS => ?_)
    refine lv_bipush (v := 10) hx hb dX10_costOf_65 (by decide) ?_
    refine lv_aload_n hx hb dX10_costOf_67 rfl (lv_at hl 2 rfl) ?_
    refine va_get (D := D) (C := RX10) (T := TX10) (N := 15) hx hb (uc_10 hk.1 _) (fun _ h9 => h9) hown hK hP 0 rfl rfl 7 (by decide) (fl_X10_25 hk.1 _) (fun _ h9 => h9) rfl dX10_costOf_68 ?_
    refine lv_iload_n hx hb dX10_costOf_71 rfl (lv_at hl 3 rfl) ?_
    refine ld_i (x := cn) C hP 6 rfl hi (congrArg (fun q : Pd => q.2.2.2.2.2.1) (va_up_self F i _)) dX10_costOf_72 ?_
    refine lv_iadd hx hb dX10_costOf_73 ?_
    refine lv_istore (lv' := [(4, .int (10 + cn)), (3, .int 0), (2, .int (nI 3)), (0, .ref (ya 0)), (1, .int (nI i))]) hx hb dX10_costOf_74 hl (by decide) rfl (fun ls hl => ?_)
    refine lv_iload_n hx hb dX10_costOf_76 rfl (lv_at hl 2 rfl) ?_
    refine lv_bipush (v := 7) hx hb dX10_costOf_77 (by decide) ?_
    refine lv_icmp_ne (x := nI 3) (y := 7) (tgt := 113) hx hb dX10_costOf_79 (by decide) (fun _ => ?_) (fun h9 => absurd h9 (by decide +kernel))
    refine lv_iload_n hx hb dX10_costOf_113 rfl (lv_at hl 1 rfl) ?_
    refine lv_if_eq (x := 0) (tgt := 124) hx hb dX10_costOf_114 (by decide) (fun _ => ?_) (fun h9 => absurd h9 (by decide +kernel))
    refine lv_iload_n hx hb dX10_costOf_124 rfl (lv_at hl 2 rfl) ?_
    refine lv_bipush (v := 6) hx hb dX10_costOf_125 (by decide) ?_
    refine lv_icmp_ne (x := nI 3) (y := 6) (tgt := 137) hx hb dX10_costOf_127 (by decide) (fun _ => ?_) (fun h9 => absurd h9 (by decide +kernel))
    refine lv_iload hx hb dX10_costOf_137 (lv_at hl 0 rfl) ?_
    rw [epk_3] at hr9
    subst hr9
    exact ri C hrt hlocks rfl hP hS dX10_costOf_139
  · refine lv_aload_n hx hb dX10_costOf_0 rfl (lv_at hl 0 rfl) ?_
    refine va_get (D := D) (C := RX10) (T := TX10) (N := 15) hx hb (uc_10 hk.1 _) (fun _ h9 => h9) hown hK hP 0 rfl rfl 2 (by decide) (fl_X10_7 hk.1 _) (fun _ h9 => h9) rfl dX10_costOf_1 ?_
    refine lv_iload_n hx hb dX10_costOf_4 rfl (lv_at hl 1 rfl) ?_
    refine ld_i (x := nI 4) C hP 1 rfl hi (congrArg (fun q : Pd => nI q.1) (va_up_self F i _)) dX10_costOf_5 ?_
    refine lv_istore_n (lv' := [(2, .int (nI 4)), (0, .ref (ya 0)), (1, .int (nI i))]) hx hb dX10_costOf_6 rfl hl (by decide) rfl (fun ls hl => ?_)
    refine lv_iload_n hx hb dX10_costOf_7 rfl (lv_at hl 0 rfl) ?_
    refine lv_iconst (v := 2) hx hb dX10_costOf_8 (by decide) ?_
    refine lv_icmp_eq (x := nI 4) (y := 2) (tgt := 22) hx hb dX10_costOf_9 (by decide) (fun h9 => absurd h9 (by decide +kernel)) (fun _ => ?_)
    refine lv_iload_n hx hb dX10_costOf_12 rfl (lv_at hl 0 rfl) ?_
    refine lv_iconst (v := 4) hx hb dX10_costOf_13 (by decide) ?_
    refine lv_icmp_eq (x := nI 4) (y := 4) (tgt := 22) hx hb dX10_costOf_14 (by decide) (fun _ => ?_) (fun h9 => absurd h9 (by decide +kernel))
    refine lv_iconst (v := 1) hx hb dX10_costOf_22 (by decide) ?_
    refine lv_goto (tgt := 27) hx hb dX10_costOf_23 (by decide) ?_
    refine lv_istore_n (lv' := [(3, .int 1), (2, .int (nI 4)), (0, .ref (ya 0)), (1, .int (nI i))]) hx hb dX10_costOf_27 rfl hl (by decide) rfl (fun ls hl => ?_)
    refine lv_iload_n hx hb dX10_costOf_28 rfl (lv_at hl 0 rfl) ?_
    refine lv_if_eq (x := 1) (tgt := 41) hx hb dX10_costOf_29 (by decide) (fun h9 => absurd h9 (by decide +kernel)) (fun _ => ?_)
    refine lv_aload_n hx hb dX10_costOf_32 rfl (lv_at hl 2 rfl) ?_
    refine lv_iconst (v := 4) hx hb dX10_costOf_33 (by decide) ?_
    refine lv_iconst (v := 2) hx hb dX10_costOf_34 (by decide) ?_
    refine k_mv (n9 := 2) (As := [.int 4, .int 2]) C (n_rule l D ca sa lo ya (va_up F i (4, zn, lm, ch, lv, cn, dr, la)) n cd fl t (by first | omega | (simp only [tb_n]; omega)) 4 2 _) (fun U A9 h => co_X10_rule h A9) (in_X10 hk.1 _) (ml_X10_58 hk.1 _) (im_X10_rule hk.1 _) (se_X10_X10_rule hk.1 _) (by decide +kernel) ⟨⟨rfl, rfl⟩, by decide, by decide⟩ hP hD hS rfl rfl rfl hl.1 rfl (Nat.le_of_ble_eq_true rfl) dX10_costOf_35 ⟨by decide, by decide⟩ (fun H locs hP hD hS => ?_)
    refine lv_goto (tgt := 59) hx hb dX10_costOf_38 (by decide) ?_
    refine lv_aload_n hx hb dX10_costOf_59 rfl (lv_at hl 2 rfl) ?_
    refine lv_iconst (v := 4) hx hb dX10_costOf_60 (by decide) ?_
    refine lv_iconst (v := 0) hx hb dX10_costOf_61 (by decide) ?_
    refine k_mv (n9 := 2) (As := [.int 4, .int 0]) C (n_rule l D ca sa lo ya (va_up F i (4, zn, lm, ch, lv, cn, dr, la)) n cd fl (tb 4 2 t) (by first | omega | (simp only [tb_n]; omega)) 4 0 _) (fun U A9 h => co_X10_rule h A9) (in_X10 hk.1 _) (ml_X10_58 hk.1 _) (im_X10_rule hk.1 _) (se_X10_X10_rule hk.1 _) (by decide +kernel) ⟨⟨rfl, rfl⟩, by decide, by decide⟩ hP hD hS rfl rfl rfl hl.1 rfl (Nat.le_of_ble_eq_true rfl) dX10_costOf_62 ⟨by decide, by decide⟩ (fun H locs hP hD hS => ?_)
    refine lv_bipush (v := 10) hx hb dX10_costOf_65 (by decide) ?_
    refine lv_aload_n hx hb dX10_costOf_67 rfl (lv_at hl 2 rfl) ?_
    refine va_get (D := D) (C := RX10) (T := TX10) (N := 15) hx hb (uc_10 hk.1 _) (fun _ h9 => h9) hown hK hP 0 rfl rfl 7 (by decide) (fl_X10_25 hk.1 _) (fun _ h9 => h9) rfl dX10_costOf_68 ?_
    refine lv_iload_n hx hb dX10_costOf_71 rfl (lv_at hl 3 rfl) ?_
    refine ld_i (x := cn) C hP 6 rfl hi (congrArg (fun q : Pd => q.2.2.2.2.2.1) (va_up_self F i _)) dX10_costOf_72 ?_
    refine lv_iadd hx hb dX10_costOf_73 ?_
    refine lv_istore (lv' := [(4, .int (10 + cn)), (3, .int 1), (2, .int (nI 4)), (0, .ref (ya 0)), (1, .int (nI i))]) hx hb dX10_costOf_74 hl (by decide) rfl (fun ls hl => ?_)
    refine lv_iload_n hx hb dX10_costOf_76 rfl (lv_at hl 2 rfl) ?_
    refine lv_bipush (v := 7) hx hb dX10_costOf_77 (by decide) ?_
    refine lv_icmp_ne (x := nI 4) (y := 7) (tgt := 113) hx hb dX10_costOf_79 (by decide) (fun _ => ?_) (fun h9 => absurd h9 (by decide +kernel))
    refine lv_iload_n hx hb dX10_costOf_113 rfl (lv_at hl 1 rfl) ?_
    refine lv_if_eq (x := 1) (tgt := 124) hx hb dX10_costOf_114 (by decide) (fun h9 => absurd h9 (by decide +kernel)) (fun _ => ?_)
    refine lv_iconst (v := 2) hx hb dX10_costOf_117 (by decide) ?_
    refine lv_iload hx hb dX10_costOf_118 (lv_at hl 0 rfl) ?_
    refine lv_imul hx hb dX10_costOf_120 ?_
    refine lv_goto (tgt := 139) hx hb dX10_costOf_121 (by decide) ?_
    rw [epk_4] at hr9
    subst hr9
    exact ri C hrt hlocks rfl hP hS dX10_costOf_139
  · refine lv_aload_n hx hb dX10_costOf_0 rfl (lv_at hl 0 rfl) ?_
    refine va_get (D := D) (C := RX10) (T := TX10) (N := 15) hx hb (uc_10 hk.1 _) (fun _ h9 => h9) hown hK hP 0 rfl rfl 2 (by decide) (fl_X10_7 hk.1 _) (fun _ h9 => h9) rfl dX10_costOf_1 ?_
    refine lv_iload_n hx hb dX10_costOf_4 rfl (lv_at hl 1 rfl) ?_
    refine ld_i (x := nI 5) C hP 1 rfl hi (congrArg (fun q : Pd => nI q.1) (va_up_self F i _)) dX10_costOf_5 ?_
    refine lv_istore_n (lv' := [(2, .int (nI 5)), (0, .ref (ya 0)), (1, .int (nI i))]) hx hb dX10_costOf_6 rfl hl (by decide) rfl (fun ls hl => ?_)
    refine lv_iload_n hx hb dX10_costOf_7 rfl (lv_at hl 0 rfl) ?_
    refine lv_iconst (v := 2) hx hb dX10_costOf_8 (by decide) ?_
    refine lv_icmp_eq (x := nI 5) (y := 2) (tgt := 22) hx hb dX10_costOf_9 (by decide) (fun h9 => absurd h9 (by decide +kernel)) (fun _ => ?_)
    refine lv_iload_n hx hb dX10_costOf_12 rfl (lv_at hl 0 rfl) ?_
    refine lv_iconst (v := 4) hx hb dX10_costOf_13 (by decide) ?_
    refine lv_icmp_eq (x := nI 5) (y := 4) (tgt := 22) hx hb dX10_costOf_14 (by decide) (fun h9 => absurd h9 (by decide +kernel)) (fun _ => ?_)
    refine lv_iload_n hx hb dX10_costOf_17 rfl (lv_at hl 0 rfl) ?_
    refine lv_iconst (v := 5) hx hb dX10_costOf_18 (by decide) ?_
    refine lv_icmp_ne (x := nI 5) (y := 5) (tgt := 26) hx hb dX10_costOf_19 (by decide) (fun h9 => absurd h9 (by decide +kernel)) (fun _ => ?_)
    refine lv_iconst (v := 1) hx hb dX10_costOf_22 (by decide) ?_
    refine lv_goto (tgt := 27) hx hb dX10_costOf_23 (by decide) ?_
    refine lv_istore_n (lv' := [(3, .int 1), (2, .int (nI 5)), (0, .ref (ya 0)), (1, .int (nI i))]) hx hb dX10_costOf_27 rfl hl (by decide) rfl (fun ls hl => ?_)
    refine lv_iload_n hx hb dX10_costOf_28 rfl (lv_at hl 0 rfl) ?_
    refine lv_if_eq (x := 1) (tgt := 41) hx hb dX10_costOf_29 (by decide) (fun h9 => absurd h9 (by decide +kernel)) (fun _ => ?_)
    refine lv_aload_n hx hb dX10_costOf_32 rfl (lv_at hl 2 rfl) ?_
    refine lv_iconst (v := 4) hx hb dX10_costOf_33 (by decide) ?_
    refine lv_iconst (v := 2) hx hb dX10_costOf_34 (by decide) ?_
    refine k_mv (n9 := 2) (As := [.int 4, .int 2]) C (n_rule l D ca sa lo ya (va_up F i (5, zn, lm, ch, lv, cn, dr, la)) n cd fl t (by first | omega | (simp only [tb_n]; omega)) 4 2 _) (fun U A9 h => co_X10_rule h A9) (in_X10 hk.1 _) (ml_X10_58 hk.1 _) (im_X10_rule hk.1 _) (se_X10_X10_rule hk.1 _) (by decide +kernel) ⟨⟨rfl, rfl⟩, by decide, by decide⟩ hP hD hS rfl rfl rfl hl.1 rfl (Nat.le_of_ble_eq_true rfl) dX10_costOf_35 ⟨by decide, by decide⟩ (fun H locs hP hD hS => ?_)
    refine lv_goto (tgt := 59) hx hb dX10_costOf_38 (by decide) ?_
    refine lv_aload_n hx hb dX10_costOf_59 rfl (lv_at hl 2 rfl) ?_
    refine lv_iconst (v := 4) hx hb dX10_costOf_60 (by decide) ?_
    refine lv_iconst (v := 0) hx hb dX10_costOf_61 (by decide) ?_
    refine k_mv (n9 := 2) (As := [.int 4, .int 0]) C (n_rule l D ca sa lo ya (va_up F i (5, zn, lm, ch, lv, cn, dr, la)) n cd fl (tb 4 2 t) (by first | omega | (simp only [tb_n]; omega)) 4 0 _) (fun U A9 h => co_X10_rule h A9) (in_X10 hk.1 _) (ml_X10_58 hk.1 _) (im_X10_rule hk.1 _) (se_X10_X10_rule hk.1 _) (by decide +kernel) ⟨⟨rfl, rfl⟩, by decide, by decide⟩ hP hD hS rfl rfl rfl hl.1 rfl (Nat.le_of_ble_eq_true rfl) dX10_costOf_62 ⟨by decide, by decide⟩ (fun H locs hP hD hS => ?_)
    refine lv_bipush (v := 10) hx hb dX10_costOf_65 (by decide) ?_
    refine lv_aload_n hx hb dX10_costOf_67 rfl (lv_at hl 2 rfl) ?_
    refine va_get (D := D) (C := RX10) (T := TX10) (N := 15) hx hb (uc_10 hk.1 _) (fun _ h9 => h9) hown hK hP 0 rfl rfl 7 (by decide) (fl_X10_25 hk.1 _) (fun _ h9 => h9) rfl dX10_costOf_68 ?_
    refine lv_iload_n hx hb dX10_costOf_71 rfl (lv_at hl 3 rfl) ?_
    refine ld_i (x := cn) C hP 6 rfl hi (congrArg (fun q : Pd => q.2.2.2.2.2.1) (va_up_self F i _)) dX10_costOf_72 ?_
    refine lv_iadd hx hb dX10_costOf_73 ?_
    refine lv_istore (lv' := [(4, .int (10 + cn)), (3, .int 1), (2, .int (nI 5)), (0, .ref (ya 0)), (1, .int (nI i))]) hx hb dX10_costOf_74 hl (by decide) rfl (fun ls hl => ?_)
    refine lv_iload_n hx hb dX10_costOf_76 rfl (lv_at hl 2 rfl) ?_
    refine lv_bipush (v := 7) hx hb dX10_costOf_77 (by decide) ?_
    refine lv_icmp_ne (x := nI 5) (y := 7) (tgt := 113) hx hb dX10_costOf_79 (by decide) (fun _ => ?_) (fun h9 => absurd h9 (by decide +kernel))
    refine lv_iload_n hx hb dX10_costOf_113 rfl (lv_at hl 1 rfl) ?_
    refine lv_if_eq (x := 1) (tgt := 124) hx hb dX10_costOf_114 (by decide) (fun h9 => absurd h9 (by decide +kernel)) (fun _ => ?_)
    refine lv_iconst (v := 2) hx hb dX10_costOf_117 (by decide) ?_
    refine lv_iload hx hb dX10_costOf_118 (lv_at hl 0 rfl) ?_
    refine lv_imul hx hb dX10_costOf_120 ?_
    refine lv_goto (tgt := 139) hx hb dX10_costOf_121 (by decide) ?_
    rw [epk_5] at hr9
    subst hr9
    exact ri C hrt hlocks rfl hP hS dX10_costOf_139
  · refine lv_aload_n hx hb dX10_costOf_0 rfl (lv_at hl 0 rfl) ?_
    refine va_get (D := D) (C := RX10) (T := TX10) (N := 15) hx hb (uc_10 hk.1 _) (fun _ h9 => h9) hown hK hP 0 rfl rfl 2 (by decide) (fl_X10_7 hk.1 _) (fun _ h9 => h9) rfl dX10_costOf_1 ?_
    refine lv_iload_n hx hb dX10_costOf_4 rfl (lv_at hl 1 rfl) ?_
    refine ld_i (x := nI 6) C hP 1 rfl hi (congrArg (fun q : Pd => nI q.1) (va_up_self F i _)) dX10_costOf_5 ?_
    refine lv_istore_n (lv' := [(2, .int (nI 6)), (0, .ref (ya 0)), (1, .int (nI i))]) hx hb dX10_costOf_6 rfl hl (by decide) rfl (fun ls hl => ?_)
    refine lv_iload_n hx hb dX10_costOf_7 rfl (lv_at hl 0 rfl) ?_
    refine lv_iconst (v := 2) hx hb dX10_costOf_8 (by decide) ?_
    refine lv_icmp_eq (x := nI 6) (y := 2) (tgt := 22) hx hb dX10_costOf_9 (by decide) (fun h9 => absurd h9 (by decide +kernel)) (fun _ => ?_)
    refine lv_iload_n hx hb dX10_costOf_12 rfl (lv_at hl 0 rfl) ?_
    refine lv_iconst (v := 4) hx hb dX10_costOf_13 (by decide) ?_
    refine lv_icmp_eq (x := nI 6) (y := 4) (tgt := 22) hx hb dX10_costOf_14 (by decide) (fun h9 => absurd h9 (by decide +kernel)) (fun _ => ?_)
    refine lv_iload_n hx hb dX10_costOf_17 rfl (lv_at hl 0 rfl) ?_
    refine lv_iconst (v := 5) hx hb dX10_costOf_18 (by decide) ?_
    refine lv_icmp_ne (x := nI 6) (y := 5) (tgt := 26) hx hb dX10_costOf_19 (by decide) (fun _ => ?_) (fun h9 => absurd h9 (by decide +kernel))
    refine lv_iconst (v := 0) hx hb dX10_costOf_26 (by decide) ?_
    refine lv_istore_n (lv' := [(3, .int 0), (2, .int (nI 6)), (0, .ref (ya 0)), (1, .int (nI i))]) hx hb dX10_costOf_27 rfl hl (by decide) rfl (fun ls hl => ?_)
    refine lv_iload_n hx hb dX10_costOf_28 rfl (lv_at hl 0 rfl) ?_
    refine lv_if_eq (x := 0) (tgt := 41) hx hb dX10_costOf_29 (by decide) (fun _ => ?_) (fun h9 => absurd h9 (by decide +kernel))
    refine lv_iload_n hx hb dX10_costOf_41 rfl (lv_at hl 1 rfl) ?_
    refine lv_bipush (v := 6) hx hb dX10_costOf_42 (by decide) ?_
    refine lv_icmp_eq (x := nI 6) (y := 6) (tgt := 53) hx hb dX10_costOf_44 (by decide) (fun _ => ?_) (fun h9 => absurd h9 (by decide +kernel))
    refine lv_aload_n hx hb dX10_costOf_53 rfl (lv_at hl 2 rfl) ?_
    refine lv_iconst (v := 4) hx hb dX10_costOf_54 (by decide) ?_
    refine lv_iload_n hx hb dX10_costOf_55 rfl (lv_at hl 1 rfl) ?_
    refine k_mv (n9 := 2) (As := [.int 4, .int (nI 6)]) C (n_rule l D ca sa lo ya (va_up F i (6, zn, lm, ch, lv, cn, dr, la)) n cd fl t (by first | omega | (simp only [tb_n]; omega)) 4 (nI 6) _) (fun U A9 h => co_X10_rule h A9) (in_X10 hk.1 _) (ml_X10_58 hk.1 _) (im_X10_rule hk.1 _) (se_X10_X10_rule hk.1 _) (by decide +kernel) ⟨⟨rfl, rfl⟩, by decide, by decide⟩ hP hD hS rfl rfl rfl hl.1 rfl (Nat.le_of_ble_eq_true rfl) dX10_costOf_56 ⟨by decide, by decide⟩ (fun H locs hP hD hS => ?_)
    refine lv_aload_n hx hb dX10_costOf_59 rfl (lv_at hl 2 rfl) ?_
    refine lv_iconst (v := 4) hx hb dX10_costOf_60 (by decide) ?_
    refine lv_iconst (v := 0) hx hb dX10_costOf_61 (by decide) ?_
    refine k_mv (n9 := 2) (As := [.int 4, .int 0]) C (n_rule l D ca sa lo ya (va_up F i (6, zn, lm, ch, lv, cn, dr, la)) n cd fl (tb 4 (nI 6) t) (by first | omega | (simp only [tb_n]; omega)) 4 0 _) (fun U A9 h => co_X10_rule h A9) (in_X10 hk.1 _) (ml_X10_58 hk.1 _) (im_X10_rule hk.1 _) (se_X10_X10_rule hk.1 _) (by decide +kernel) ⟨⟨rfl, rfl⟩, by decide, by decide⟩ hP hD hS rfl rfl rfl hl.1 rfl (Nat.le_of_ble_eq_true rfl) dX10_costOf_62 ⟨by decide, by decide⟩ (fun H locs hP hD hS => ?_)
    refine lv_bipush (v := 10) hx hb dX10_costOf_65 (by decide) ?_
    refine lv_aload_n hx hb dX10_costOf_67 rfl (lv_at hl 2 rfl) ?_
    refine va_get (D := D) (C := RX10) (T := TX10) (N := 15) hx hb (uc_10 hk.1 _) (fun _ h9 => h9) hown hK hP 0 rfl rfl 7 (by decide) (fl_X10_25 hk.1 _) (fun _ h9 => h9) rfl dX10_costOf_68 ?_
    refine lv_iload_n hx hb dX10_costOf_71 rfl (lv_at hl 3 rfl) ?_
    refine ld_i (x := cn) C hP 6 rfl hi (congrArg (fun q : Pd => q.2.2.2.2.2.1) (va_up_self F i _)) dX10_costOf_72 ?_
    refine lv_iadd hx hb dX10_costOf_73 ?_
    refine lv_istore (lv' := [(4, .int (10 + cn)), (3, .int 0), (2, .int (nI 6)), (0, .ref (ya 0)), (1, .int (nI i))]) hx hb dX10_costOf_74 hl (by decide) rfl (fun ls hl => ?_)
    refine lv_iload_n hx hb dX10_costOf_76 rfl (lv_at hl 2 rfl) ?_
    refine lv_bipush (v := 7) hx hb dX10_costOf_77 (by decide) ?_
    refine lv_icmp_ne (x := nI 6) (y := 7) (tgt := 113) hx hb dX10_costOf_79 (by decide) (fun _ => ?_) (fun h9 => absurd h9 (by decide +kernel))
    refine lv_iload_n hx hb dX10_costOf_113 rfl (lv_at hl 1 rfl) ?_
    refine lv_if_eq (x := 0) (tgt := 124) hx hb dX10_costOf_114 (by decide) (fun _ => ?_) (fun h9 => absurd h9 (by decide +kernel))
    refine lv_iload_n hx hb dX10_costOf_124 rfl (lv_at hl 2 rfl) ?_
    refine lv_bipush (v := 6) hx hb dX10_costOf_125 (by decide) ?_
    refine lv_icmp_ne (x := nI 6) (y := 6) (tgt := 137) hx hb dX10_costOf_127 (by decide) (fun h9 => absurd h9 (by decide +kernel)) (fun _ => ?_)
    refine lv_iconst (v := 5) hx hb dX10_costOf_130 (by decide) ?_
    refine lv_iload hx hb dX10_costOf_131 (lv_at hl 0 rfl) ?_
    refine lv_iadd hx hb dX10_costOf_133 ?_
    refine lv_goto (tgt := 139) hx hb dX10_costOf_134 (by decide) ?_
    rw [epk_6] at hr9
    subst hr9
    exact ri C hrt hlocks rfl hP hS dX10_costOf_139
  · refine lv_aload_n hx hb dX10_costOf_0 rfl (lv_at hl 0 rfl) ?_
    refine va_get (D := D) (C := RX10) (T := TX10) (N := 15) hx hb (uc_10 hk.1 _) (fun _ h9 => h9) hown hK hP 0 rfl rfl 2 (by decide) (fl_X10_7 hk.1 _) (fun _ h9 => h9) rfl dX10_costOf_1 ?_
    refine lv_iload_n hx hb dX10_costOf_4 rfl (lv_at hl 1 rfl) ?_
    refine ld_i (x := nI 7) C hP 1 rfl hi (congrArg (fun q : Pd => nI q.1) (va_up_self F i _)) dX10_costOf_5 ?_
    refine lv_istore_n (lv' := [(2, .int (nI 7)), (0, .ref (ya 0)), (1, .int (nI i))]) hx hb dX10_costOf_6 rfl hl (by decide) rfl (fun ls hl => ?_)
    refine lv_iload_n hx hb dX10_costOf_7 rfl (lv_at hl 0 rfl) ?_
    refine lv_iconst (v := 2) hx hb dX10_costOf_8 (by decide) ?_
    refine lv_icmp_eq (x := nI 7) (y := 2) (tgt := 22) hx hb dX10_costOf_9 (by decide) (fun h9 => absurd h9 (by decide +kernel)) (fun _ => ?_)
    refine lv_iload_n hx hb dX10_costOf_12 rfl (lv_at hl 0 rfl) ?_
    refine lv_iconst (v := 4) hx hb dX10_costOf_13 (by decide) ?_
    refine lv_icmp_eq (x := nI 7) (y := 4) (tgt := 22) hx hb dX10_costOf_14 (by decide) (fun h9 => absurd h9 (by decide +kernel)) (fun _ => ?_)
    refine lv_iload_n hx hb dX10_costOf_17 rfl (lv_at hl 0 rfl) ?_
    refine lv_iconst (v := 5) hx hb dX10_costOf_18 (by decide) ?_
    refine lv_icmp_ne (x := nI 7) (y := 5) (tgt := 26) hx hb dX10_costOf_19 (by decide) (fun _ => ?_) (fun h9 => absurd h9 (by decide +kernel))
    refine lv_iconst (v := 0) hx hb dX10_costOf_26 (by decide) ?_
    refine lv_istore_n (lv' := [(3, .int 0), (2, .int (nI 7)), (0, .ref (ya 0)), (1, .int (nI i))]) hx hb dX10_costOf_27 rfl hl (by decide) rfl (fun ls hl => ?_)
    refine lv_iload_n hx hb dX10_costOf_28 rfl (lv_at hl 0 rfl) ?_
    refine lv_if_eq (x := 0) (tgt := 41) hx hb dX10_costOf_29 (by decide) (fun _ => ?_) (fun h9 => absurd h9 (by decide +kernel))
    refine lv_iload_n hx hb dX10_costOf_41 rfl (lv_at hl 1 rfl) ?_
    refine lv_bipush (v := 6) hx hb dX10_costOf_42 (by decide) ?_
    refine lv_icmp_eq (x := nI 7) (y := 6) (tgt := 53) hx hb dX10_costOf_44 (by decide) (fun h9 => absurd h9 (by decide +kernel)) (fun _ => ?_)
    refine lv_iload_n hx hb dX10_costOf_47 rfl (lv_at hl 1 rfl) ?_
    refine lv_bipush (v := 7) hx hb dX10_costOf_48 (by decide) ?_
    refine lv_icmp_ne (x := nI 7) (y := 7) (tgt := 59) hx hb dX10_costOf_50 (by decide) (fun h9 => absurd h9 (by decide +kernel)) (fun _ => ?_)
    refine lv_aload_n hx hb dX10_costOf_53 rfl (lv_at hl 2 rfl) ?_
    refine lv_iconst (v := 4) hx hb dX10_costOf_54 (by decide) ?_
    refine lv_iload_n hx hb dX10_costOf_55 rfl (lv_at hl 1 rfl) ?_
    refine k_mv (n9 := 2) (As := [.int 4, .int (nI 7)]) C (n_rule l D ca sa lo ya (va_up F i (7, zn, lm, ch, lv, cn, dr, la)) n cd fl t (by first | omega | (simp only [tb_n]; omega)) 4 (nI 7) _) (fun U A9 h => co_X10_rule h A9) (in_X10 hk.1 _) (ml_X10_58 hk.1 _) (im_X10_rule hk.1 _) (se_X10_X10_rule hk.1 _) (by decide +kernel) ⟨⟨rfl, rfl⟩, by decide, by decide⟩ hP hD hS rfl rfl rfl hl.1 rfl (Nat.le_of_ble_eq_true rfl) dX10_costOf_56 ⟨by decide, by decide⟩ (fun H locs hP hD hS => ?_)
    refine lv_aload_n hx hb dX10_costOf_59 rfl (lv_at hl 2 rfl) ?_
    refine lv_iconst (v := 4) hx hb dX10_costOf_60 (by decide) ?_
    refine lv_iconst (v := 0) hx hb dX10_costOf_61 (by decide) ?_
    refine k_mv (n9 := 2) (As := [.int 4, .int 0]) C (n_rule l D ca sa lo ya (va_up F i (7, zn, lm, ch, lv, cn, dr, la)) n cd fl (tb 4 (nI 7) t) (by first | omega | (simp only [tb_n]; omega)) 4 0 _) (fun U A9 h => co_X10_rule h A9) (in_X10 hk.1 _) (ml_X10_58 hk.1 _) (im_X10_rule hk.1 _) (se_X10_X10_rule hk.1 _) (by decide +kernel) ⟨⟨rfl, rfl⟩, by decide, by decide⟩ hP hD hS rfl rfl rfl hl.1 rfl (Nat.le_of_ble_eq_true rfl) dX10_costOf_62 ⟨by decide, by decide⟩ (fun H locs hP hD hS => ?_)
    refine lv_bipush (v := 10) hx hb dX10_costOf_65 (by decide) ?_
    refine lv_aload_n hx hb dX10_costOf_67 rfl (lv_at hl 2 rfl) ?_
    refine va_get (D := D) (C := RX10) (T := TX10) (N := 15) hx hb (uc_10 hk.1 _) (fun _ h9 => h9) hown hK hP 0 rfl rfl 7 (by decide) (fl_X10_25 hk.1 _) (fun _ h9 => h9) rfl dX10_costOf_68 ?_
    refine lv_iload_n hx hb dX10_costOf_71 rfl (lv_at hl 3 rfl) ?_
    refine ld_i (x := cn) C hP 6 rfl hi (congrArg (fun q : Pd => q.2.2.2.2.2.1) (va_up_self F i _)) dX10_costOf_72 ?_
    refine lv_iadd hx hb dX10_costOf_73 ?_
    refine lv_istore (lv' := [(4, .int (10 + cn)), (3, .int 0), (2, .int (nI 7)), (0, .ref (ya 0)), (1, .int (nI i))]) hx hb dX10_costOf_74 hl (by decide) rfl (fun ls hl => ?_)
    refine lv_iload_n hx hb dX10_costOf_76 rfl (lv_at hl 2 rfl) ?_
    refine lv_bipush (v := 7) hx hb dX10_costOf_77 (by decide) ?_
    refine lv_icmp_ne (x := nI 7) (y := 7) (tgt := 113) hx hb dX10_costOf_79 (by decide) (fun h9 => absurd h9 (by decide +kernel)) (fun _ => ?_)
    refine lv_iload hx hb dX10_costOf_82 (lv_at hl 0 rfl) ?_
    refine lv_iconst (v := 1) hx hb dX10_costOf_84 (by decide) ?_
    refine lv_aload_n hx hb dX10_costOf_85 rfl (lv_at hl 3 rfl) ?_
    refine va_get (D := D) (C := RX10) (T := TX10) (N := 15) hx hb (uc_10 hk.1 _) (fun _ h9 => h9) hown hK hP 0 rfl rfl 8 (by decide) (fl_X10_28 hk.1 _) (fun _ h9 => h9) rfl dX10_costOf_86 ?_
    refine lv_iload_n hx hb dX10_costOf_89 rfl (lv_at hl 4 rfl) ?_
    refine ld_i (x := dr) C hP 7 rfl hi (congrArg (fun q : Pd => q.2.2.2.2.2.2.1) (va_up_self F i _)) dX10_costOf_90 ?_
    refine lv_if_ge (tgt := 104) hx hb dX10_costOf_91 (by decide) (fun c_1 => ?_) (fun c_1 => ?_)
    · refine lv_aload_n hx hb dX10_costOf_104 rfl (lv_at hl 3 rfl) ?_
      refine va_get (D := D) (C := RX10) (T := TX10) (N := 15) hx hb (uc_10 hk.1 _) (fun _ h9 => h9) hown hK hP 0 rfl rfl 8 (by decide) (fl_X10_28 hk.1 _) (fun _ h9 => h9) rfl dX10_costOf_105 ?_
      refine lv_iload_n hx hb dX10_costOf_108 rfl (lv_at hl 4 rfl) ?_
      refine ld_i (x := dr) C hP 7 rfl hi (congrArg (fun q : Pd => q.2.2.2.2.2.2.1) (va_up_self F i _)) dX10_costOf_109 ?_
      refine lv_iadd hx hb dX10_costOf_110 ?_
      refine lv_imul hx hb dX10_costOf_111 ?_
      have hr9 : r = ((10 + cn) * (1 + dr), tb 4 0 (tb 4 7 t)) := by rw [← hr9, epk_7, pkT]; show ((10 + cn) * (1 + sz32 dr), _) = _; rw [sz32, if_pos c_1]
      subst hr9
      exact ri C hrt hlocks rfl hP hS dX10_costOf_112
    · refine lv_aload_n hx hb dX10_costOf_94 rfl (lv_at hl 3 rfl) ?_
      refine va_get (D := D) (C := RX10) (T := TX10) (N := 15) hx hb (uc_10 hk.1 _) (fun _ h9 => h9) hown hK hP 0 rfl rfl 8 (by decide) (fl_X10_28 hk.1 _) (fun _ h9 => h9) rfl dX10_costOf_95 ?_
      refine lv_iload_n hx hb dX10_costOf_98 rfl (lv_at hl 4 rfl) ?_
      refine ld_i (x := dr) C hP 7 rfl hi (congrArg (fun q : Pd => q.2.2.2.2.2.2.1) (va_up_self F i _)) dX10_costOf_99 ?_
      refine lv_ineg hx hb dX10_costOf_100 ?_
      refine lv_goto (tgt := 110) hx hb dX10_costOf_101 (by decide) ?_
      refine lv_iadd hx hb dX10_costOf_110 ?_
      refine lv_imul hx hb dX10_costOf_111 ?_
      have hr9 : r = ((10 + cn) * (1 + -dr), tb 4 0 (tb 4 7 t)) := by rw [← hr9, epk_7, pkT]; show ((10 + cn) * (1 + sz32 dr), _) = _; rw [sz32, if_neg c_1, Int32.zero_sub]
      subst hr9
      exact ri C hrt hlocks rfl hP hS dX10_costOf_112
