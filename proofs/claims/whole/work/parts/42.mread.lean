theorem prP_c (kd : Nat) (v : Int32) (d : Dv) (t : Tr) : (prP kd v d t).1 ≤ 2 := by
  have h := pw_c kd v d (tb 1 0 t)
  unfold prP prPe; split
  · exact Nat.zero_le _
  · exact h
theorem prS_c (kd : Nat) (v : Int32) (d : Dv) (t : Tr) : (prS kd v d t).1 ≤ 2 := by
  have h := prP_c kd v d (tb 1 3 t)
  unfold prS prSe; split
  · exact Nat.zero_le _
  · exact h
theorem pr_c (kd : Nat) (v : Int32) (d : Dv) (t : Tr) : (pr kd v d t).1 ≤ 2 := by
  unfold pr; split
  · exact prS_c _ _ _ _
  · split
    · have h := prP_c 4 v d (tb 1 4 t)
      unfold prH prHe; split
      · split
        · exact prP_c _ _ _ _
        · exact h
      · exact h
    · split
      · have h := prS_c 7 v d (tb 1 7 t)
        unfold prT prTe; split
        · exact prS_c _ _ _ _
        · exact h
      · exact prP_c _ _ _ _

set_option maxHeartbeats 4000000 in
set_option maxRecDepth 100000 in
theorem n_readPlain (l : Launch) (D : va_G) (ca : Nat → ClassId) (sa : Nat → Nat) (lo : Nat) (ya : Nat → Nat) (F : Nat → Pd) (n : Nat) (cd fl : Int32) (t : Tr) (ht : t.1 + 4 ≤ 2147483648) (i : Nat) (hi : i < 20) (kd : Nat) (hkd : kd < 8) (zn lm : Int32) (d : Dv) (v : Int32) (sz : Nat) : Met l yX10_readPlain [.code yX10_readPlain cX10_readPlain 4 none] ({ frames := 3, cells := 0, slots := 0, locals := 90 }) (PX D ca sa lo sz [.ref (ya 0), .int (nI i), .int v] (wm ca ya (va_up F i (kd, zn, lm, d)) n cd fl t)) (QV D (wm ca ya (va_up F i (kd, zn, lm, (prP kd v d t).2.1)) n cd (nI (prP kd v d t).1) (prP kd v d t).2.2) (va_A (wm ca ya (va_up F i (kd, zn, lm, d)) n cd fl t) sz)) 0 0 (va_A (wm ca ya (va_up F i (kd, zn, lm, d)) n cd fl t) sz) := by
  generalize hr9 : prP kd v d t = r
  obtain ⟨ch, lv, cn, dr, la⟩ := d
  unfold prP at hr9
  refine mk_met (fun A => QV D (wm ca ya (va_up F i (kd, zn, lm, r.2.1)) n cd (nI r.1) r.2.2) A) (by decide) (Nat.le_of_ble_eq_true rfl) ?_
  intro p e s m below meth c A ls C hrt hlocks hnm hsz hP hD hS hl
  obtain ⟨hx, hb, hml, hown, hk, hz, hlo, hA, hAl⟩ := id C
  have hK : va_K D cls (tyl ca) s := hk.2.1
  have hl : lv_has ls 4 [(0, .ref (ya 0)), (1, .int (nI i)), (2, .int v)] := hl
  refine lv_aload_n hx hb dX10_readPlain_0 rfl (lv_at hl 0 rfl) ?_
  refine lv_iconst (v := 1) hx hb dX10_readPlain_1 (by decide) ?_
  refine lv_iconst (v := 0) hx hb dX10_readPlain_2 (by decide) ?_
  refine k_mv (n9 := 2) (As := [.int 1, .int 0]) C (n_rule l D ca sa lo ya (va_up F i (kd, zn, lm, ch, lv, cn, dr, la)) n cd fl t (by first | omega | (simp only [tb_n]; omega)) 1 0 _) (fun U A9 h => co_X10_rule h A9) (in_X10 hk.1 _) (ml_X10_58 hk.1 _) (im_X10_rule hk.1 _) (se_X10_X10_rule hk.1 _) (by decide +kernel) ⟨⟨rfl, rfl⟩, by decide, by decide⟩ hP hD hS rfl rfl rfl hl.1 rfl (Nat.le_of_ble_eq_true rfl) dX10_readPlain_3 ⟨by decide, by decide⟩ (fun H locs hP hD hS => ?_)
  refine lv_aload_n hx hb dX10_readPlain_6 rfl (lv_at hl 0 rfl) ?_
  refine lv_iload_n hx hb dX10_readPlain_7 rfl (lv_at hl 1 rfl) ?_
  refine lv_iload_n hx hb dX10_readPlain_8 rfl (lv_at hl 2 rfl) ?_
  refine k_mi (n9 := 2) (As := [.int (nI i), .int v]) C (n_weighed l D ca sa lo ya F n cd fl (tb 1 0 t) (by first | omega | (simp only [tb_n]; omega)) i hi kd hkd zn lm (ch, lv, cn, dr, la) v _) (fun U A9 h => co_X10_weighed h A9) (in_X10 hk.1 _) (ml_X10_72 hk.1 _) (im_X10_weighed hk.1 _) (se_X10_X10_weighed hk.1 _) (by decide +kernel) ⟨⟨rfl, rfl⟩, by decide, by decide⟩ hP hD hS rfl rfl rfl hl.1 rfl (Nat.le_of_ble_eq_true rfl) dX10_readPlain_9 ⟨by decide, by decide⟩ (fun H locs hP hD hS => ?_)
  have hn1 := pw_n kd v (ch, lv, cn, dr, la) (tb 1 0 t)
  have hc1 := pw_c kd v (ch, lv, cn, dr, la) (tb 1 0 t)
  generalize hp1 : pw kd v (ch, lv, cn, dr, la) (tb 1 0 t) = P9 at hP hD hn1 hc1 hr9 ⊢
  obtain ⟨c1, w1, ⟨ch, lv, cn, dr, la⟩, t1⟩ := P9
  have hn1 : t1.1 ≤ (tb 1 0 t).1 + 3 := hn1
  have hc1 : c1 ≤ 2 := hc1
  simp only [tb_n] at hn1
  have hP : va_P D cls (wm ca ya (va_up F i (kd, zn, lm, ch, lv, cn, dr, la)) n cd (nI c1) t1) H := hP
  have hD : va_D A (wm ca ya (va_up F i (kd, zn, lm, ch, lv, cn, dr, la)) n cd (nI c1) t1) := hD
  refine lv_istore_n (lv' := [(3, .int w1), (0, .ref (ya 0)), (1, .int (nI i)), (2, .int v)]) hx hb dX10_readPlain_12 rfl hl (by decide) rfl (fun ls hl => ?_)
  refine lv_aload_n hx hb dX10_readPlain_13 rfl (lv_at hl 1 rfl) ?_
  refine va_get (D := D) (C := RX10) (T := TX10) (N := 15) hx hb (uc_10 hk.1 _) (fun _ h9 => h9) hown hK hP 0 rfl rfl 14 (by decide) (fl_X10_52 hk.1 _) (fun _ h9 => h9) rfl dX10_readPlain_14 ?_
  refine lv_if_ne (tgt := 48) hx hb dX10_readPlain_17 (by decide) (fun c_1 => ?_) (fun c_1 => ?_)
  · have hr9 : r = (c1, (ch, lv, cn, dr, la), t1) := by rw [← hr9]; exact if_neg (fun h9 => c_1 ((nI_z hc1).mpr h9))
    subst hr9
    exact rv C hrt hlocks hP hS dX10_readPlain_48
  · have hc0 : c1 = 0 := (nI_z hc1).mp c_1
    subst hc0
    refine lv_aload_n hx hb dX10_readPlain_20 rfl (lv_at hl 1 rfl) ?_
    refine va_get (D := D) (C := RX10) (T := TX10) (N := 15) hx hb (uc_10 hk.1 _) (fun _ h9 => h9) hown hK hP 0 rfl rfl 6 (by decide) (fl_X10_22 hk.1 _) (fun _ h9 => h9) rfl dX10_readPlain_21 ?_
    refine lv_iload_n hx hb dX10_readPlain_24 rfl (lv_at hl 2 rfl) ?_
    refine lv_iconst (v := 3) hx hb dX10_readPlain_25 (by decide) ?_
    refine lv_aload_n hx hb dX10_readPlain_26 rfl (lv_at hl 1 rfl) ?_
    refine va_get (D := D) (C := RX10) (T := TX10) (N := 15) hx hb (uc_10 hk.1 _) (fun _ h9 => h9) hown hK hP 0 rfl rfl 6 (by decide) (fl_X10_22 hk.1 _) (fun _ h9 => h9) rfl dX10_readPlain_27 ?_
    refine lv_iload_n hx hb dX10_readPlain_30 rfl (lv_at hl 2 rfl) ?_
    refine ld_i (x := lv) C hP 5 rfl hi (congrArg (fun q : Pd => q.2.2.2.2.1) (va_up_self F i _)) dX10_readPlain_31 ?_
    refine lv_imul hx hb dX10_readPlain_32 ?_
    refine lv_iload_n hx hb dX10_readPlain_33 rfl (lv_at hl 0 rfl) ?_
    refine lv_iadd hx hb dX10_readPlain_34 ?_
    refine lv_iconst (v := 4) hx hb dX10_readPlain_35 (by decide) ?_
    refine lv_idiv hx hb dX10_readPlain_36 (by decide) ?_
    refine st_4 (x9 := ((3 * lv) + w1) / 4) C hP hD hS hi dX10_readPlain_37 (fun H locs hP hD hS => ?_)
    have hP : va_P D cls (wm ca ya (va_up F i (kd, zn, lm, ch, (((3 * lv) + w1) / 4), cn, dr, la)) n cd (nI 0) t1) H := hP
    have hD : va_D A (wm ca ya (va_up F i (kd, zn, lm, ch, (((3 * lv) + w1) / 4), cn, dr, la)) n cd (nI 0) t1) := hD
    refine lv_aload_n hx hb dX10_readPlain_38 rfl (lv_at hl 1 rfl) ?_
    refine va_get (D := D) (C := RX10) (T := TX10) (N := 15) hx hb (uc_10 hk.1 _) (fun _ h9 => h9) hown hK hP 0 rfl rfl 7 (by decide) (fl_X10_25 hk.1 _) (fun _ h9 => h9) rfl dX10_readPlain_39 ?_
    refine lv_iload_n hx hb dX10_readPlain_42 rfl (lv_at hl 2 rfl) ?_
    refine lv_dup2_11 hx hb dX10_readPlain_43 rfl rfl ?_
    refine ld_i (x := cn) C hP 6 rfl hi (congrArg (fun q : Pd => q.2.2.2.2.2.1) (va_up_self F i _)) dX10_readPlain_44 ?_
    refine lv_iconst (v := 1) hx hb dX10_readPlain_45 (by decide) ?_
    refine lv_iadd hx hb dX10_readPlain_46 ?_
    refine st_5 (x9 := cn + 1) C hP hD hS hi dX10_readPlain_47 (fun H locs hP hD hS => ?_)
    have hP : va_P D cls (wm ca ya (va_up F i (kd, zn, lm, ch, (((3 * lv) + w1) / 4), (cn + 1), dr, la)) n cd (nI 0) t1) H := hP
    have hD : va_D A (wm ca ya (va_up F i (kd, zn, lm, ch, (((3 * lv) + w1) / 4), (cn + 1), dr, la)) n cd (nI 0) t1) := hD
    have hr9 : r = (0, (ch, (3 * lv + w1) / 4, cn + 1, dr, la), t1) := by rw [← hr9]; exact if_pos rfl
    subst hr9
    exact rv C hrt hlocks hP hS dX10_readPlain_48

set_option maxHeartbeats 4000000 in
set_option maxRecDepth 100000 in
theorem n_readSmoke (l : Launch) (D : va_G) (ca : Nat → ClassId) (sa : Nat → Nat) (lo : Nat) (ya : Nat → Nat) (F : Nat → Pd) (n : Nat) (cd fl : Int32) (t : Tr) (ht : t.1 + 5 ≤ 2147483648) (i : Nat) (hi : i < 20) (kd : Nat) (hkd : kd < 8) (zn lm : Int32) (d : Dv) (v : Int32) (sz : Nat) : Met l yX10_readSmoke [.code yX10_readSmoke cX10_readSmoke 3 none] ({ frames := 4, cells := 0, slots := 0, locals := 120 }) (PX D ca sa lo sz [.ref (ya 0), .int (nI i), .int v] (wm ca ya (va_up F i (kd, zn, lm, d)) n cd fl t)) (QV D (wm ca ya (va_up F i (kd, zn, lm, (prS kd v d t).2.1)) n cd (nI (prS kd v d t).1) (prS kd v d t).2.2) (va_A (wm ca ya (va_up F i (kd, zn, lm, d)) n cd fl t) sz)) 0 0 (va_A (wm ca ya (va_up F i (kd, zn, lm, d)) n cd fl t) sz) := by
  generalize hr9 : prS kd v d t = r
  obtain ⟨ch, lv, cn, dr, la⟩ := d
  unfold prS at hr9
  refine mk_met (fun A => QV D (wm ca ya (va_up F i (kd, zn, lm, r.2.1)) n cd (nI r.1) r.2.2) A) (by decide) (Nat.le_of_ble_eq_true rfl) ?_
  intro p e s m below meth c A ls C hrt hlocks hnm hsz hP hD hS hl
  obtain ⟨hx, hb, hml, hown, hk, hz, hlo, hA, hAl⟩ := id C
  have hK : va_K D cls (tyl ca) s := hk.2.1
  have hl : lv_has ls 3 [(0, .ref (ya 0)), (1, .int (nI i)), (2, .int v)] := hl
  refine lv_aload_n hx hb dX10_readSmoke_0 rfl (lv_at hl 0 rfl) ?_
  refine lv_iconst (v := 1) hx hb dX10_readSmoke_1 (by decide) ?_
  refine lv_iconst (v := 3) hx hb dX10_readSmoke_2 (by decide) ?_
  refine k_mv (n9 := 2) (As := [.int 1, .int 3]) C (n_rule l D ca sa lo ya (va_up F i (kd, zn, lm, ch, lv, cn, dr, la)) n cd fl t (by first | omega | (simp only [tb_n]; omega)) 1 3 _) (fun U A9 h => co_X10_rule h A9) (in_X10 hk.1 _) (ml_X10_58 hk.1 _) (im_X10_rule hk.1 _) (se_X10_X10_rule hk.1 _) (by decide +kernel) ⟨⟨rfl, rfl⟩, by decide, by decide⟩ hP hD hS rfl rfl rfl hl.1 rfl (Nat.le_of_ble_eq_true rfl) dX10_readSmoke_3 ⟨by decide, by decide⟩ (fun H locs hP hD hS => ?_)
  refine lv_aload_n hx hb dX10_readSmoke_6 rfl (lv_at hl 0 rfl) ?_
  refine lv_iload_n hx hb dX10_readSmoke_7 rfl (lv_at hl 1 rfl) ?_
  refine lv_iload_n hx hb dX10_readSmoke_8 rfl (lv_at hl 2 rfl) ?_
  refine k_mv (n9 := 2) (As := [.int (nI i), .int v]) C (n_readPlain l D ca sa lo ya F n cd fl (tb 1 3 t) (by first | omega | (simp only [tb_n]; omega)) i hi kd hkd zn lm (ch, lv, cn, dr, la) v _) (fun U A9 h => co_X10_readPlain h A9) (in_X10 hk.1 _) (ml_X10_76 hk.1 _) (im_X10_readPlain hk.1 _) (se_X10_X10_readPlain hk.1 _) (by decide +kernel) ⟨⟨rfl, rfl⟩, by decide, by decide⟩ hP hD hS rfl rfl rfl hl.1 rfl (Nat.le_of_ble_eq_true rfl) dX10_readSmoke_9 ⟨by decide, by decide⟩ (fun H locs hP hD hS => ?_)
  have hn1 := prP_n kd v (ch, lv, cn, dr, la) (tb 1 3 t)
  have hc1 := prP_c kd v (ch, lv, cn, dr, la) (tb 1 3 t)
  generalize hp1 : prP kd v (ch, lv, cn, dr, la) (tb 1 3 t) = P9 at hP hD hn1 hc1 hr9 ⊢
  obtain ⟨c1, ⟨ch, lv, cn, dr, la⟩, t1⟩ := P9
  have hn1 : t1.1 ≤ (tb 1 3 t).1 + 4 := hn1
  have hc1 : c1 ≤ 2 := hc1
  simp only [tb_n] at hn1
  have hP : va_P D cls (wm ca ya (va_up F i (kd, zn, lm, ch, lv, cn, dr, la)) n cd (nI c1) t1) H := hP
  have hD : va_D A (wm ca ya (va_up F i (kd, zn, lm, ch, lv, cn, dr, la)) n cd (nI c1) t1) := hD
  refine lv_aload_n hx hb dX10_readSmoke_12 rfl (lv_at hl 0 rfl) ?_
  refine va_get (D := D) (C := RX10) (T := TX10) (N := 15) hx hb (uc_10 hk.1 _) (fun _ h9 => h9) hown hK hP 0 rfl rfl 14 (by decide) (fl_X10_52 hk.1 _) (fun _ h9 => h9) rfl dX10_readSmoke_13 ?_
  refine lv_if_ne (tgt := 67) hx hb dX10_readSmoke_16 (by decide) (fun c_1 => ?_) (fun c_1 => ?_)
  · have hr9 : r = (c1, (ch, lv, cn, dr, la), t1) := by rw [← hr9]; exact if_neg (fun h9 => c_1 ((nI_z hc1).mpr h9))
    subst hr9
    exact rv C hrt hlocks hP hS dX10_readSmoke_67
  · have hc0 : c1 = 0 := (nI_z hc1).mp c_1
    subst hc0
    refine lv_aload_n hx hb dX10_readSmoke_19 rfl (lv_at hl 0 rfl) ?_
    refine va_get (D := D) (C := RX10) (T := TX10) (N := 15) hx hb (uc_10 hk.1 _) (fun _ h9 => h9) hown hK hP 0 rfl rfl 8 (by decide) (fl_X10_28 hk.1 _) (fun _ h9 => h9) rfl dX10_readSmoke_20 ?_
    refine lv_iload_n hx hb dX10_readSmoke_23 rfl (lv_at hl 1 rfl) ?_
    refine lv_dup2_11 hx hb dX10_readSmoke_24 rfl rfl ?_
    refine ld_i (x := dr) C hP 7 rfl hi (congrArg (fun q : Pd => q.2.2.2.2.2.2.1) (va_up_self F i _)) dX10_readSmoke_25 ?_
    refine lv_aload_n hx hb dX10_readSmoke_26 rfl (lv_at hl 0 rfl) ?_
    refine va_get (D := D) (C := RX10) (T := TX10) (N := 15) hx hb (uc_10 hk.1 _) (fun _ h9 => h9) hown hK hP 0 rfl rfl 6 (by decide) (fl_X10_22 hk.1 _) (fun _ h9 => h9) rfl dX10_readSmoke_27 ?_
    refine lv_iload_n hx hb dX10_readSmoke_30 rfl (lv_at hl 1 rfl) ?_
    refine ld_i (x := lv) C hP 5 rfl hi (congrArg (fun q : Pd => q.2.2.2.2.1) (va_up_self F i _)) dX10_readSmoke_31 ?_
    refine lv_aload_n hx hb dX10_readSmoke_32 rfl (lv_at hl 0 rfl) ?_
    refine va_get (D := D) (C := RX10) (T := TX10) (N := 15) hx hb (uc_10 hk.1 _) (fun _ h9 => h9) hown hK hP 0 rfl rfl 8 (by decide) (fl_X10_28 hk.1 _) (fun _ h9 => h9) rfl dX10_readSmoke_33 ?_
    refine lv_iload_n hx hb dX10_readSmoke_36 rfl (lv_at hl 1 rfl) ?_
    refine ld_i (x := dr) C hP 7 rfl hi (congrArg (fun q : Pd => q.2.2.2.2.2.2.1) (va_up_self F i _)) dX10_readSmoke_37 ?_
    refine lv_icmp_le (tgt := 45) hx hb dX10_readSmoke_38 (by decide) (fun c_2 => ?_) (fun c_2 => ?_)
    · refine lv_aload_n hx hb dX10_readSmoke_45 rfl (lv_at hl 0 rfl) ?_
      refine va_get (D := D) (C := RX10) (T := TX10) (N := 15) hx hb (uc_10 hk.1 _) (fun _ h9 => h9) hown hK hP 0 rfl rfl 6 (by decide) (fl_X10_22 hk.1 _) (fun _ h9 => h9) rfl dX10_readSmoke_46 ?_
      refine lv_iload_n hx hb dX10_readSmoke_49 rfl (lv_at hl 1 rfl) ?_
      refine ld_i (x := lv) C hP 5 rfl hi (congrArg (fun q : Pd => q.2.2.2.2.1) (va_up_self F i _)) dX10_readSmoke_50 ?_
      refine lv_aload_n hx hb dX10_readSmoke_51 rfl (lv_at hl 0 rfl) ?_
      refine va_get (D := D) (C := RX10) (T := TX10) (N := 15) hx hb (uc_10 hk.1 _) (fun _ h9 => h9) hown hK hP 0 rfl rfl 8 (by decide) (fl_X10_28 hk.1 _) (fun _ h9 => h9) rfl dX10_readSmoke_52 ?_
      refine lv_iload_n hx hb dX10_readSmoke_55 rfl (lv_at hl 1 rfl) ?_
      refine ld_i (x := dr) C hP 7 rfl hi (congrArg (fun q : Pd => q.2.2.2.2.2.2.1) (va_up_self F i _)) dX10_readSmoke_56 ?_
      refine lv_icmp_ge (tgt := 64) hx hb dX10_readSmoke_57 (by decide) (fun c_3 => ?_) (fun c_3 => ?_)
      · refine lv_iconst (v := 0) hx hb dX10_readSmoke_64 (by decide) ?_
        refine lv_iadd hx hb dX10_readSmoke_65 ?_
        refine st_6 (x9 := dr + 0) C hP hD hS hi dX10_readSmoke_66 (fun H locs hP hD hS => ?_)
        have hP : va_P D cls (wm ca ya (va_up F i (kd, zn, lm, ch, lv, cn, (dr + 0), la)) n cd (nI 0) t1) H := hP
        have hD : va_D A (wm ca ya (va_up F i (kd, zn, lm, ch, lv, cn, (dr + 0), la)) n cd (nI 0) t1) := hD
        have hr9 : r = (0, (ch, lv, cn, dr + 0, la), t1) := by
          rw [← hr9]; show (0, (ch, lv, cn, (if dr < lv then dr + 1 else if lv < dr then dr - 1 else dr), la), t1) = _
          rw [if_neg (Int32.not_lt.mpr c_2), if_neg (Int32.not_lt.mpr c_3), Int32.add_zero]
        subst hr9
        exact rv C hrt hlocks hP hS dX10_readSmoke_67
      · refine lv_iconst (v := (-1)) hx hb dX10_readSmoke_60 (by decide) ?_
        refine lv_goto (tgt := 65) hx hb dX10_readSmoke_61 (by decide) ?_
        refine lv_iadd hx hb dX10_readSmoke_65 ?_
        refine st_6 (x9 := dr + (-1)) C hP hD hS hi dX10_readSmoke_66 (fun H locs hP hD hS => ?_)
        have hP : va_P D cls (wm ca ya (va_up F i (kd, zn, lm, ch, lv, cn, (dr + (-1)), la)) n cd (nI 0) t1) H := hP
        have hD : va_D A (wm ca ya (va_up F i (kd, zn, lm, ch, lv, cn, (dr + (-1)), la)) n cd (nI 0) t1) := hD
        have hr9 : r = (0, (ch, lv, cn, dr + (-1), la), t1) := by
          rw [← hr9]; show (0, (ch, lv, cn, (if dr < lv then dr + 1 else if lv < dr then dr - 1 else dr), la), t1) = _
          rw [if_neg (Int32.not_lt.mpr c_2), if_pos (Int32.not_le.mp c_3), Int32.sub_eq_add_neg]
        subst hr9
        exact rv C hrt hlocks hP hS dX10_readSmoke_67
    · refine lv_iconst (v := 1) hx hb dX10_readSmoke_41 (by decide) ?_
      refine lv_goto (tgt := 65) hx hb dX10_readSmoke_42 (by decide) ?_
      refine lv_iadd hx hb dX10_readSmoke_65 ?_
      refine st_6 (x9 := dr + 1) C hP hD hS hi dX10_readSmoke_66 (fun H locs hP hD hS => ?_)
      have hP : va_P D cls (wm ca ya (va_up F i (kd, zn, lm, ch, lv, cn, (dr + 1), la)) n cd (nI 0) t1) H := hP
      have hD : va_D A (wm ca ya (va_up F i (kd, zn, lm, ch, lv, cn, (dr + 1), la)) n cd (nI 0) t1) := hD
      have hr9 : r = (0, (ch, lv, cn, dr + 1, la), t1) := by
        rw [← hr9]; show (0, (ch, lv, cn, (if dr < lv then dr + 1 else if lv < dr then dr - 1 else dr), la), t1) = _
        rw [if_pos (Int32.not_le.mp c_2)]
      subst hr9
      exact rv C hrt hlocks hP hS dX10_readSmoke_67

set_option maxHeartbeats 4000000 in
set_option maxRecDepth 100000 in
theorem n_readOf (l : Launch) (D : va_G) (ca : Nat → ClassId) (sa : Nat → Nat) (lo : Nat) (ya : Nat → Nat) (F : Nat → Pd) (n : Nat) (cd fl : Int32) (t : Tr) (ht : t.1 + 11 ≤ 2147483648) (i : Nat) (hi : i < 20) (kd : Nat) (hkd : kd < 8) (zn lm : Int32) (d : Dv) (v : Int32) (sz : Nat) : Met l yX10_readOf [.code yX10_readOf cX10_readOf 3 none] ({ frames := 5, cells := 0, slots := 0, locals := 150 }) (PX D ca sa lo sz [.ref (ya 0), .int (nI i), .int v] (wm ca ya (va_up F i (kd, zn, lm, d)) n cd fl t)) (QV D (wm ca ya (va_up F i (kd, zn, lm, (pr kd v d t).2.1)) n cd (nI (pr kd v d t).1) (pr kd v d t).2.2) (va_A (wm ca ya (va_up F i (kd, zn, lm, d)) n cd fl t) sz)) 0 0 (va_A (wm ca ya (va_up F i (kd, zn, lm, d)) n cd fl t) sz) := by
  generalize hr9 : pr kd v d t = r
  obtain ⟨ch, lv, cn, dr, la⟩ := d
  refine mk_met (fun A => QV D (wm ca ya (va_up F i (kd, zn, lm, r.2.1)) n cd (nI r.1) r.2.2) A) (by decide) (Nat.le_of_ble_eq_true rfl) ?_
  intro p e s m below meth c A ls C hrt hlocks hnm hsz hP hD hS hl
  obtain ⟨hx, hb, hml, hown, hk, hz, hlo, hA, hAl⟩ := id C
  have hK : va_K D cls (tyl ca) s := hk.2.1
  have hl : lv_has ls 3 [(0, .ref (ya 0)), (1, .int (nI i)), (2, .int v)] := hl
  rcases k8 hkd with rfl | rfl | rfl | rfl | rfl | rfl | rfl | rfl
  · refine lv_aload_n hx hb dX10_readOf_0 rfl (lv_at hl 0 rfl) ?_
    refine va_get (D := D) (C := RX10) (T := TX10) (N := 15) hx hb (uc_10 hk.1 _) (fun _ h9 => h9) hown hK hP 0 rfl rfl 2 (by decide) (fl_X10_7 hk.1 _) (fun _ h9 => h9) rfl dX10_readOf_1 ?_
    refine lv_iload_n hx hb dX10_readOf_4 rfl (lv_at hl 1 rfl) ?_
    refine ld_i (x := nI 0) C hP 1 rfl hi (congrArg (fun q : Pd => nI q.1) (va_up_self F i _)) dX10_readOf_5 ?_
    refine lv_tableOut (x := nI 0) (tgt := 117) hx hb dX10_readOf_6 (Or.inl (by decide +kernel)) (by decide) ?_
    refine lv_aload_n hx hb dX10_readOf_117 rfl (lv_at hl 0 rfl) ?_
    refine lv_iload_n hx hb dX10_readOf_118 rfl (lv_at hl 1 rfl) ?_
    refine lv_iload_n hx hb dX10_readOf_119 rfl (lv_at hl 2 rfl) ?_
    refine k_mv (n9 := 2) (As := [.int (nI i), .int v]) C (n_readPlain l D ca sa lo ya F n cd fl t (by first | omega | (simp only [tb_n]; omega)) i hi 0 (by decide) zn lm (ch, lv, cn, dr, la) v _) (fun U A9 h => co_X10_readPlain h A9) (in_X10 hk.1 _) (ml_X10_76 hk.1 _) (im_X10_readPlain hk.1 _) (se_X10_X10_readPlain hk.1 _) (by decide +kernel) ⟨⟨rfl, rfl⟩, by decide, by decide⟩ hP hD hS rfl rfl rfl hl.1 rfl (Nat.le_of_ble_eq_true rfl) dX10_readOf_120 ⟨by decide, by decide⟩ (fun H locs hP hD hS => ?_)
    rw [epr_0] at hr9
    subst hr9
    exact rv C hrt hlocks hP hS dX10_readOf_123
  · refine lv_aload_n hx hb dX10_readOf_0 rfl (lv_at hl 0 rfl) ?_
    refine va_get (D := D) (C := RX10) (T := TX10) (N := 15) hx hb (uc_10 hk.1 _) (fun _ h9 => h9) hown hK hP 0 rfl rfl 2 (by decide) (fl_X10_7 hk.1 _) (fun _ h9 => h9) rfl dX10_readOf_1 ?_
    refine lv_iload_n hx hb dX10_readOf_4 rfl (lv_at hl 1 rfl) ?_
    refine ld_i (x := nI 1) C hP 1 rfl hi (congrArg (fun q : Pd => nI q.1) (va_up_self F i _)) dX10_readOf_5 ?_
    refine lv_tableOut (x := nI 1) (tgt := 117) hx hb dX10_readOf_6 (Or.inl (by decide +kernel)) (by decide) ?_
    refine lv_aload_n hx hb dX10_readOf_117 rfl (lv_at hl 0 rfl) ?_
    refine lv_iload_n hx hb dX10_readOf_118 rfl (lv_at hl 1 rfl) ?_
    refine lv_iload_n hx hb dX10_readOf_119 rfl (lv_at hl 2 rfl) ?_
    refine k_mv (n9 := 2) (As := [.int (nI i), .int v]) C (n_readPlain l D ca sa lo ya F n cd fl t (by first | omega | (simp only [tb_n]; omega)) i hi 1 (by decide) zn lm (ch, lv, cn, dr, la) v _) (fun U A9 h => co_X10_readPlain h A9) (in_X10 hk.1 _) (ml_X10_76 hk.1 _) (im_X10_readPlain hk.1 _) (se_X10_X10_readPlain hk.1 _) (by decide +kernel) ⟨⟨rfl, rfl⟩, by decide, by decide⟩ hP hD hS rfl rfl rfl hl.1 rfl (Nat.le_of_ble_eq_true rfl) dX10_readOf_120 ⟨by decide, by decide⟩ (fun H locs hP hD hS => ?_)
    rw [epr_1] at hr9
    subst hr9
    exact rv C hrt hlocks hP hS dX10_readOf_123
  · refine lv_aload_n hx hb dX10_readOf_0 rfl (lv_at hl 0 rfl) ?_
    refine va_get (D := D) (C := RX10) (T := TX10) (N := 15) hx hb (uc_10 hk.1 _) (fun _ h9 => h9) hown hK hP 0 rfl rfl 2 (by decide) (fl_X10_7 hk.1 _) (fun _ h9 => h9) rfl dX10_readOf_1 ?_
    refine lv_iload_n hx hb dX10_readOf_4 rfl (lv_at hl 1 rfl) ?_
    refine ld_i (x := nI 2) C hP 1 rfl hi (congrArg (fun q : Pd => nI q.1) (va_up_self F i _)) dX10_readOf_5 ?_
    refine lv_tableOut (x := nI 2) (tgt := 117) hx hb dX10_readOf_6 (Or.inl (by decide +kernel)) (by decide) ?_
    refine lv_aload_n hx hb dX10_readOf_117 rfl (lv_at hl 0 rfl) ?_
    refine lv_iload_n hx hb dX10_readOf_118 rfl (lv_at hl 1 rfl) ?_
    refine lv_iload_n hx hb dX10_readOf_119 rfl (lv_at hl 2 rfl) ?_
    refine k_mv (n9 := 2) (As := [.int (nI i), .int v]) C (n_readPlain l D ca sa lo ya F n cd fl t (by first | omega | (simp only [tb_n]; omega)) i hi 2 (by decide) zn lm (ch, lv, cn, dr, la) v _) (fun U A9 h => co_X10_readPlain h A9) (in_X10 hk.1 _) (ml_X10_76 hk.1 _) (im_X10_readPlain hk.1 _) (se_X10_X10_readPlain hk.1 _) (by decide +kernel) ⟨⟨rfl, rfl⟩, by decide, by decide⟩ hP hD hS rfl rfl rfl hl.1 rfl (Nat.le_of_ble_eq_true rfl) dX10_readOf_120 ⟨by decide, by decide⟩ (fun H locs hP hD hS => ?_)
    rw [epr_2] at hr9
    subst hr9
    exact rv C hrt hlocks hP hS dX10_readOf_123
  · refine lv_aload_n hx hb dX10_readOf_0 rfl (lv_at hl 0 rfl) ?_
    refine va_get (D := D) (C := RX10) (T := TX10) (N := 15) hx hb (uc_10 hk.1 _) (fun _ h9 => h9) hown hK hP 0 rfl rfl 2 (by decide) (fl_X10_7 hk.1 _) (fun _ h9 => h9) rfl dX10_readOf_1 ?_
    refine lv_iload_n hx hb dX10_readOf_4 rfl (lv_at hl 1 rfl) ?_
    refine ld_i (x := nI 3) C hP 1 rfl hi (congrArg (fun q : Pd => nI q.1) (va_up_self F i _)) dX10_readOf_5 ?_
    refine lv_tableIn (x := nI 3) (tgt := 40) hx hb dX10_readOf_6 (by decide +kernel) (by decide +kernel) rfl (by decide) ?_
    refine lv_aload_n hx hb dX10_readOf_40 rfl (lv_at hl 0 rfl) ?_
    refine lv_iload_n hx hb dX10_readOf_41 rfl (lv_at hl 1 rfl) ?_
    refine lv_iload_n hx hb dX10_readOf_42 rfl (lv_at hl 2 rfl) ?_
    refine k_mv (n9 := 2) (As := [.int (nI i), .int v]) C (n_readSmoke l D ca sa lo ya F n cd fl t (by first | omega | (simp only [tb_n]; omega)) i hi 3 (by decide) zn lm (ch, lv, cn, dr, la) v _) (fun U A9 h => co_X10_readSmoke h A9) (in_X10 hk.1 _) (ml_X10_79 hk.1 _) (im_X10_readSmoke hk.1 _) (se_X10_X10_readSmoke hk.1 _) (by decide +kernel) ⟨⟨rfl, rfl⟩, by decide, by decide⟩ hP hD hS rfl rfl rfl hl.1 rfl (Nat.le_of_ble_eq_true rfl) dX10_readOf_43 ⟨by decide, by decide⟩ (fun H locs hP hD hS => ?_)
    refine lv_goto (tgt := 123) hx hb dX10_readOf_46 (by decide) ?_
    rw [epr_3] at hr9
    subst hr9
    exact rv C hrt hlocks hP hS dX10_readOf_123
  · refine lv_aload_n hx hb dX10_readOf_0 rfl (lv_at hl 0 rfl) ?_
    refine va_get (D := D) (C := RX10) (T := TX10) (N := 15) hx hb (uc_10 hk.1 _) (fun _ h9 => h9) hown hK hP 0 rfl rfl 2 (by decide) (fl_X10_7 hk.1 _) (fun _ h9 => h9) rfl dX10_readOf_1 ?_
    refine lv_iload_n hx hb dX10_readOf_4 rfl (lv_at hl 1 rfl) ?_
    refine ld_i (x := nI 4) C hP 1 rfl hi (congrArg (fun q : Pd => nI q.1) (va_up_self F i _)) dX10_readOf_5 ?_
    refine lv_tableIn (x := nI 4) (tgt := 49) hx hb dX10_readOf_6 (by decide +kernel) (by decide +kernel) rfl (by decide) ?_
    rw [epr_4] at hr9
    unfold prH at hr9
    refine lv_aload_n hx hb dX10_readOf_49 rfl (lv_at hl 0 rfl) ?_
    refine lv_iconst (v := 1) hx hb dX10_readOf_50 (by decide) ?_
    refine lv_iconst (v := 4) hx hb dX10_readOf_51 (by decide) ?_
    refine k_mv (n9 := 2) (As := [.int 1, .int 4]) C (n_rule l D ca sa lo ya (va_up F i (4, zn, lm, ch, lv, cn, dr, la)) n cd fl t (by first | omega | (simp only [tb_n]; omega)) 1 4 _) (fun U A9 h => co_X10_rule h A9) (in_X10 hk.1 _) (ml_X10_58 hk.1 _) (im_X10_rule hk.1 _) (se_X10_X10_rule hk.1 _) (by decide +kernel) ⟨⟨rfl, rfl⟩, by decide, by decide⟩ hP hD hS rfl rfl rfl hl.1 rfl (Nat.le_of_ble_eq_true rfl) dX10_readOf_52 ⟨by decide, by decide⟩ (fun H locs hP hD hS => ?_)
    refine lv_aload_n hx hb dX10_readOf_55 rfl (lv_at hl 0 rfl) ?_
    refine lv_iload_n hx hb dX10_readOf_56 rfl (lv_at hl 1 rfl) ?_
    refine lv_iload_n hx hb dX10_readOf_57 rfl (lv_at hl 2 rfl) ?_
    refine k_mv (n9 := 2) (As := [.int (nI i), .int v]) C (n_readPlain l D ca sa lo ya F n cd fl (tb 1 4 t) (by first | omega | (simp only [tb_n]; omega)) i hi 4 (by decide) zn lm (ch, lv, cn, dr, la) v _) (fun U A9 h => co_X10_readPlain h A9) (in_X10 hk.1 _) (ml_X10_76 hk.1 _) (im_X10_readPlain hk.1 _) (se_X10_X10_readPlain hk.1 _) (by decide +kernel) ⟨⟨rfl, rfl⟩, by decide, by decide⟩ hP hD hS rfl rfl rfl hl.1 rfl (Nat.le_of_ble_eq_true rfl) dX10_readOf_58 ⟨by decide, by decide⟩ (fun H locs hP hD hS => ?_)
    have hn1 := prP_n 4 v (ch, lv, cn, dr, la) (tb 1 4 t)
    have hc1 := prP_c 4 v (ch, lv, cn, dr, la) (tb 1 4 t)
    generalize hp1 : prP 4 v (ch, lv, cn, dr, la) (tb 1 4 t) = P9 at hP hD hn1 hc1 hr9 ⊢
    obtain ⟨c1, ⟨ch, lv, cn, dr, la⟩, t1⟩ := P9
    have hn1 : t1.1 ≤ (tb 1 4 t).1 + 4 := hn1
    have hc1 : c1 ≤ 2 := hc1
    simp only [tb_n] at hn1
    have hP : va_P D cls (wm ca ya (va_up F i (4, zn, lm, ch, lv, cn, dr, la)) n cd (nI c1) t1) H := hP
    have hD : va_D A (wm ca ya (va_up F i (4, zn, lm, ch, lv, cn, dr, la)) n cd (nI c1) t1) := hD
    refine lv_aload_n hx hb dX10_readOf_61 rfl (lv_at hl 0 rfl) ?_
    refine va_get (D := D) (C := RX10) (T := TX10) (N := 15) hx hb (uc_10 hk.1 _) (fun _ h9 => h9) hown hK hP 0 rfl rfl 14 (by decide) (fl_X10_52 hk.1 _) (fun _ h9 => h9) rfl dX10_readOf_62 ?_
    refine lv_if_ne (tgt := 123) hx hb dX10_readOf_65 (by decide) (fun c_1 => ?_) (fun c_1 => ?_)
    · have hr9 : r = (c1, (ch, lv, cn, dr, la), t1) := by rw [← hr9]; exact if_neg (fun h9 => c_1 ((nI_z hc1).mpr h9))
      subst hr9
      exact rv C hrt hlocks hP hS dX10_readOf_123
    · have hc0 : c1 = 0 := (nI_z hc1).mp c_1
      subst hc0
      refine lv_iload_n hx hb dX10_readOf_68 rfl (lv_at hl 2 rfl) ?_
      refine lv_aload_n hx hb dX10_readOf_69 rfl (lv_at hl 0 rfl) ?_
      refine va_get (D := D) (C := RX10) (T := TX10) (N := 15) hx hb (uc_10 hk.1 _) (fun _ h9 => h9) hown hK hP 0 rfl rfl 6 (by decide) (fl_X10_22 hk.1 _) (fun _ h9 => h9) rfl dX10_readOf_70 ?_
      refine lv_iload_n hx hb dX10_readOf_73 rfl (lv_at hl 1 rfl) ?_
      refine ld_i (x := lv) C hP 5 rfl hi (congrArg (fun q : Pd => q.2.2.2.2.1) (va_up_self F i _)) dX10_readOf_74 ?_
      refine lv_icmp_le (tgt := 123) hx hb dX10_readOf_75 (by decide) (fun c_2 => ?_) (fun c_2 => ?_)
      · have hr9 : r = (0, (ch, lv, cn, dr, la), t1) := by rw [← hr9]; exact (if_pos rfl).trans (if_neg (Int32.not_lt.mpr c_2))
        subst hr9
        exact rv C hrt hlocks hP hS dX10_readOf_123
      · refine lv_aload_n hx hb dX10_readOf_78 rfl (lv_at hl 0 rfl) ?_
        refine lv_iload_n hx hb dX10_readOf_79 rfl (lv_at hl 1 rfl) ?_
        refine lv_iload_n hx hb dX10_readOf_80 rfl (lv_at hl 2 rfl) ?_
        refine k_mv (n9 := 2) (As := [.int (nI i), .int v]) C (n_readPlain l D ca sa lo ya F n cd (nI 0) t1 (by first | omega | (simp only [tb_n]; omega)) i hi 4 (by decide) zn lm (ch, lv, cn, dr, la) v _) (fun U A9 h => co_X10_readPlain h A9) (in_X10 hk.1 _) (ml_X10_76 hk.1 _) (im_X10_readPlain hk.1 _) (se_X10_X10_readPlain hk.1 _) (by decide +kernel) ⟨⟨rfl, rfl⟩, by decide, by decide⟩ hP hD hS rfl rfl rfl hl.1 rfl (Nat.le_of_ble_eq_true rfl) dX10_readOf_81 ⟨by decide, by decide⟩ (fun H locs hP hD hS => ?_)
        refine lv_goto (tgt := 123) hx hb dX10_readOf_84 (by decide) ?_
        have hr9 : r = prP 4 v (ch, lv, cn, dr, la) t1 := by rw [← hr9]; exact (if_pos rfl).trans (if_pos (Int32.not_le.mp c_2))
        subst hr9
        exact rv C hrt hlocks hP hS dX10_readOf_123
  · refine lv_aload_n hx hb dX10_readOf_0 rfl (lv_at hl 0 rfl) ?_
    refine va_get (D := D) (C := RX10) (T := TX10) (N := 15) hx hb (uc_10 hk.1 _) (fun _ h9 => h9) hown hK hP 0 rfl rfl 2 (by decide) (fl_X10_7 hk.1 _) (fun _ h9 => h9) rfl dX10_readOf_1 ?_
    refine lv_iload_n hx hb dX10_readOf_4 rfl (lv_at hl 1 rfl) ?_
    refine ld_i (x := nI 5) C hP 1 rfl hi (congrArg (fun q : Pd => nI q.1) (va_up_self F i _)) dX10_readOf_5 ?_
    refine lv_tableIn (x := nI 5) (tgt := 117) hx hb dX10_readOf_6 (by decide +kernel) (by decide +kernel) rfl (by decide) ?_
    refine lv_aload_n hx hb dX10_readOf_117 rfl (lv_at hl 0 rfl) ?_
    refine lv_iload_n hx hb dX10_readOf_118 rfl (lv_at hl 1 rfl) ?_
    refine lv_iload_n hx hb dX10_readOf_119 rfl (lv_at hl 2 rfl) ?_
    refine k_mv (n9 := 2) (As := [.int (nI i), .int v]) C (n_readPlain l D ca sa lo ya F n cd fl t (by first | omega | (simp only [tb_n]; omega)) i hi 5 (by decide) zn lm (ch, lv, cn, dr, la) v _) (fun U A9 h => co_X10_readPlain h A9) (in_X10 hk.1 _) (ml_X10_76 hk.1 _) (im_X10_readPlain hk.1 _) (se_X10_X10_readPlain hk.1 _) (by decide +kernel) ⟨⟨rfl, rfl⟩, by decide, by decide⟩ hP hD hS rfl rfl rfl hl.1 rfl (Nat.le_of_ble_eq_true rfl) dX10_readOf_120 ⟨by decide, by decide⟩ (fun H locs hP hD hS => ?_)
    rw [epr_5] at hr9
    subst hr9
    exact rv C hrt hlocks hP hS dX10_readOf_123
  · refine lv_aload_n hx hb dX10_readOf_0 rfl (lv_at hl 0 rfl) ?_
    refine va_get (D := D) (C := RX10) (T := TX10) (N := 15) hx hb (uc_10 hk.1 _) (fun _ h9 => h9) hown hK hP 0 rfl rfl 2 (by decide) (fl_X10_7 hk.1 _) (fun _ h9 => h9) rfl dX10_readOf_1 ?_
    refine lv_iload_n hx hb dX10_readOf_4 rfl (lv_at hl 1 rfl) ?_
    refine ld_i (x := nI 6) C hP 1 rfl hi (congrArg (fun q : Pd => nI q.1) (va_up_self F i _)) dX10_readOf_5 ?_
    refine lv_tableIn (x := nI 6) (tgt := 117) hx hb dX10_readOf_6 (by decide +kernel) (by decide +kernel) rfl (by decide) ?_
    refine lv_aload_n hx hb dX10_readOf_117 rfl (lv_at hl 0 rfl) ?_
    refine lv_iload_n hx hb dX10_readOf_118 rfl (lv_at hl 1 rfl) ?_
    refine lv_iload_n hx hb dX10_readOf_119 rfl (lv_at hl 2 rfl) ?_
    refine k_mv (n9 := 2) (As := [.int (nI i), .int v]) C (n_readPlain l D ca sa lo ya F n cd fl t (by first | omega | (simp only [tb_n]; omega)) i hi 6 (by decide) zn lm (ch, lv, cn, dr, la) v _) (fun U A9 h => co_X10_readPlain h A9) (in_X10 hk.1 _) (ml_X10_76 hk.1 _) (im_X10_readPlain hk.1 _) (se_X10_X10_readPlain hk.1 _) (by decide +kernel) ⟨⟨rfl, rfl⟩, by decide, by decide⟩ hP hD hS rfl rfl rfl hl.1 rfl (Nat.le_of_ble_eq_true rfl) dX10_readOf_120 ⟨by decide, by decide⟩ (fun H locs hP hD hS => ?_)
    rw [epr_6] at hr9
    subst hr9
    exact rv C hrt hlocks hP hS dX10_readOf_123
  · refine lv_aload_n hx hb dX10_readOf_0 rfl (lv_at hl 0 rfl) ?_
    refine va_get (D := D) (C := RX10) (T := TX10) (N := 15) hx hb (uc_10 hk.1 _) (fun _ h9 => h9) hown hK hP 0 rfl rfl 2 (by decide) (fl_X10_7 hk.1 _) (fun _ h9 => h9) rfl dX10_readOf_1 ?_
    refine lv_iload_n hx hb dX10_readOf_4 rfl (lv_at hl 1 rfl) ?_
    refine ld_i (x := nI 7) C hP 1 rfl hi (congrArg (fun q : Pd => nI q.1) (va_up_self F i _)) dX10_readOf_5 ?_
    refine lv_tableIn (x := nI 7) (tgt := 87) hx hb dX10_readOf_6 (by decide +kernel) (by decide +kernel) rfl (by decide) ?_
    rw [epr_7] at hr9
    unfold prT at hr9
    refine lv_aload_n hx hb dX10_readOf_87 rfl (lv_at hl 0 rfl) ?_
    refine lv_iconst (v := 1) hx hb dX10_readOf_88 (by decide) ?_
    refine lv_bipush (v := 7) hx hb dX10_readOf_89 (by decide) ?_
    refine k_mv (n9 := 2) (As := [.int 1, .int 7]) C (n_rule l D ca sa lo ya (va_up F i (7, zn, lm, ch, lv, cn, dr, la)) n cd fl t (by first | omega | (simp only [tb_n]; omega)) 1 7 _) (fun U A9 h => co_X10_rule h A9) (in_X10 hk.1 _) (ml_X10_58 hk.1 _) (im_X10_rule hk.1 _) (se_X10_X10_rule hk.1 _) (by decide +kernel) ⟨⟨rfl, rfl⟩, by decide, by decide⟩ hP hD hS rfl rfl rfl hl.1 rfl (Nat.le_of_ble_eq_true rfl) dX10_readOf_91 ⟨by decide, by decide⟩ (fun H locs hP hD hS => ?_)
    refine lv_aload_n hx hb dX10_readOf_94 rfl (lv_at hl 0 rfl) ?_
    refine lv_iload_n hx hb dX10_readOf_95 rfl (lv_at hl 1 rfl) ?_
    refine lv_iload_n hx hb dX10_readOf_96 rfl (lv_at hl 2 rfl) ?_
    refine k_mv (n9 := 2) (As := [.int (nI i), .int v]) C (n_readSmoke l D ca sa lo ya F n cd fl (tb 1 7 t) (by first | omega | (simp only [tb_n]; omega)) i hi 7 (by decide) zn lm (ch, lv, cn, dr, la) v _) (fun U A9 h => co_X10_readSmoke h A9) (in_X10 hk.1 _) (ml_X10_79 hk.1 _) (im_X10_readSmoke hk.1 _) (se_X10_X10_readSmoke hk.1 _) (by decide +kernel) ⟨⟨rfl, rfl⟩, by decide, by decide⟩ hP hD hS rfl rfl rfl hl.1 rfl (Nat.le_of_ble_eq_true rfl) dX10_readOf_97 ⟨by decide, by decide⟩ (fun H locs hP hD hS => ?_)
    have hn2 := prS_n 7 v (ch, lv, cn, dr, la) (tb 1 7 t)
    have hc2 := prS_c 7 v (ch, lv, cn, dr, la) (tb 1 7 t)
    generalize hp2 : prS 7 v (ch, lv, cn, dr, la) (tb 1 7 t) = P9 at hP hD hn2 hc2 hr9 ⊢
    obtain ⟨c2, ⟨ch, lv, cn, dr, la⟩, t2⟩ := P9
    have hn2 : t2.1 ≤ (tb 1 7 t).1 + 5 := hn2
    have hc2 : c2 ≤ 2 := hc2
    simp only [tb_n] at hn2
    have hP : va_P D cls (wm ca ya (va_up F i (7, zn, lm, ch, lv, cn, dr, la)) n cd (nI c2) t2) H := hP
    have hD : va_D A (wm ca ya (va_up F i (7, zn, lm, ch, lv, cn, dr, la)) n cd (nI c2) t2) := hD
    refine lv_aload_n hx hb dX10_readOf_100 rfl (lv_at hl 0 rfl) ?_
    refine va_get (D := D) (C := RX10) (T := TX10) (N := 15) hx hb (uc_10 hk.1 _) (fun _ h9 => h9) hown hK hP 0 rfl rfl 14 (by decide) (fl_X10_52 hk.1 _) (fun _ h9 => h9) rfl dX10_readOf_101 ?_
    refine lv_if_ne (tgt := 123) hx hb dX10_readOf_104 (by decide) (fun c_3 => ?_) (fun c_3 => ?_)
    · have hr9 : r = (c2, (ch, lv, cn, dr, la), t2) := by rw [← hr9]; exact if_neg (fun h9 => c_3 ((nI_z hc2).mpr h9))
      subst hr9
      exact rv C hrt hlocks hP hS dX10_readOf_123
    · have hc0 : c2 = 0 := (nI_z hc2).mp c_3
      subst hc0
      refine lv_aload_n hx hb dX10_readOf_107 rfl (lv_at hl 0 rfl) ?_
      refine lv_iload_n hx hb dX10_readOf_108 rfl (lv_at hl 1 rfl) ?_
      refine lv_iload_n hx hb dX10_readOf_109 rfl (lv_at hl 2 rfl) ?_
      refine lv_ineg hx hb dX10_readOf_110 ?_
      refine k_mv (n9 := 2) (As := [.int (nI i), .int (-v)]) C (n_readSmoke l D ca sa lo ya F n cd (nI 0) t2 (by first | omega | (simp only [tb_n]; omega)) i hi 7 (by decide) zn lm (ch, lv, cn, dr, la) (-v) _) (fun U A9 h => co_X10_readSmoke h A9) (in_X10 hk.1 _) (ml_X10_79 hk.1 _) (im_X10_readSmoke hk.1 _) (se_X10_X10_readSmoke hk.1 _) (by decide +kernel) ⟨⟨rfl, rfl⟩, by decide, by decide⟩ hP hD hS rfl rfl rfl hl.1 rfl (Nat.le_of_ble_eq_true rfl) dX10_readOf_111 ⟨by decide, by decide⟩ (fun H locs hP hD hS => ?_)
      refine lv_goto (tgt := 123) hx hb dX10_readOf_114 (by decide) ?_
      have hr9 : r = prS 7 (-v) (ch, lv, cn, dr, la) t2 := by rw [← hr9]; exact if_pos rfl
      subst hr9
      exact rv C hrt hlocks hP hS dX10_readOf_123
