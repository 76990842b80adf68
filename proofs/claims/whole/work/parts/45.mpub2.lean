set_option maxHeartbeats 4000000 in
set_option maxRecDepth 100000 in
theorem n_refused (l : Launch) (D : va_G) (ca : Nat → ClassId) (sa : Nat → Nat) (lo : Nat) (ya : Nat → Nat) (F : Nat → Pd) (n : Nat) (cd fl : Int32) (t : Tr) (x v : Int32) (sz : Nat) : Met l yX10_refused [.code yX10_refused cX10_refused 3 (some .int)] ({ frames := 2, cells := 0, slots := 0, locals := 60 }) (PX D ca sa lo sz [.ref (ya 0), .int x, .int v] (wm ca ya F n cd fl t)) (QI D (rfz n x v) (wm ca ya F n cd fl t) (va_A (wm ca ya F n cd fl t) sz)) 0 0 (va_A (wm ca ya F n cd fl t) sz) := by
  refine mk_met (fun A => QI D (rfz n x v) (wm ca ya F n cd fl t) A) (by decide) (Nat.le_of_ble_eq_true rfl) ?_
  intro p e s m below meth c A ls C hrt hlocks hnm hsz hP hD hS hl
  obtain ⟨hx, hb, hml, hown, hk, hz, hlo, hA, hAl⟩ := id C
  have hK : va_K D cls (tyl ca) s := hk.2.1
  have hl : lv_has ls 3 [(0, .ref (ya 0)), (1, .int x), (2, .int v)] := hl
  refine lv_aload_n hx hb dX10_refused_0 rfl (lv_at hl 0 rfl) ?_
  refine lv_iload_n hx hb dX10_refused_1 rfl (lv_at hl 1 rfl) ?_
  refine k_mi (n9 := 1) (As := [.int x]) C (n_isThere l D ca sa lo ya F n cd fl t x _) (fun U A9 h => co_X10_isThere h A9) (in_X10 hk.1 _) (ml_X10_82 hk.1 _) (im_X10_isThere hk.1 _) (se_X10_X10_isThere hk.1 _) (by decide +kernel) ⟨⟨rfl, rfl⟩, by decide, by decide⟩ hP hD hS rfl rfl rfl hl.1 rfl (Nat.le_of_ble_eq_true rfl) dX10_refused_2 ⟨by decide, by decide⟩ (fun H locs hP hD hS => ?_)
  refine lv_if_ne (tgt := 13) hx hb dX10_refused_5 (by decide) (fun c_1 => ?_) (fun c_1 => ?_)
  · refine lv_iload_n hx hb dX10_refused_13 rfl (lv_at hl 2 rfl) ?_
    refine lv_sipush (v := (-10000)) hx hb dX10_refused_14 (by decide) ?_
    refine lv_sipush (v := 10000) hx hb dX10_refused_17 (by decide) ?_
    refine k_num (n := 3) C (n_isIn l D ca sa lo v (-10000) 10000) (fun U A9 h => co_X10_isIn h A9) (in_X10 hk.1 _) (ml_X10_45 hk.1 _) (st_X10_isIn hk.1 _) (by decide +kernel) ⟨⟨rfl, rfl⟩, by decide, by decide⟩ hP hS rfl hl.1 rfl (Nat.le_of_ble_eq_true rfl) dX10_refused_20 ⟨by decide, by decide⟩ (fun H locs hP hS _ _ => ?_)
    refine lv_if_ne (tgt := 31) hx hb dX10_refused_23 (by decide) (fun c_2 => ?_) (fun c_2 => ?_)
    · refine lv_iconst (v := 0) hx hb dX10_refused_31 (by decide) ?_
      exact ri C hrt hlocks (by unfold rfz; rw [if_pos (bi_ne0 c_1), if_pos (bi_ne0 c_2)]) hP hS dX10_refused_32
    · refine lv_bipush (v := (-102)) hx hb dX10_refused_26 (by decide) ?_
      refine lv_goto (tgt := 32) hx hb dX10_refused_28 (by decide) ?_
      exact ri C hrt hlocks (by unfold rfz; rw [if_pos (bi_ne0 c_1), if_neg (by rw [bi_eq0 c_2]; decide)]) hP hS dX10_refused_32
  · refine lv_bipush (v := (-101)) hx hb dX10_refused_8 (by decide) ?_
    refine lv_goto (tgt := 32) hx hb dX10_refused_10 (by decide) ?_
    exact ri C hrt hlocks (by unfold rfz; rw [if_neg (by rw [bi_eq0 c_1]; decide)]) hP hS dX10_refused_32

set_option maxHeartbeats 4000000 in
set_option maxRecDepth 100000 in
theorem N_read (l : Launch) (D : va_G) (ca : Nat → ClassId) (sa : Nat → Nat) (lo : Nat) (ya : Nat → Nat) (F : Nat → Pd) (Q : List Pd) (cd fl : Int32) (t : Tr) (hok : okQ Q) (hF : RQ F Q) (ht : t.1 + 11 ≤ 2147483648) (x v : Int32) (sz : Nat) : Met l yX10_read [.code yX10_read cX10_read 4 (some .int)] ({ frames := 6, cells := 0, slots := 0, locals := 190 }) (PX D ca sa lo sz [.ref (ya 0), .int x, .int v] (wm ca ya F Q.length cd fl t)) (QF D ca ya (if (zR Q t x v).1 = 0 then (zR Q t x v).2.1 else 0) (nI (zR Q t x v).1) (zR Q t x v).2.2.1 (zR Q t x v).2.2.2 (va_A (wm ca ya F Q.length cd fl t) sz)) 0 0 (va_A (wm ca ya F Q.length cd fl t) sz) := by
  generalize hr9 : zR Q t x v = r
  refine mk_met (fun A => QF D ca ya (if r.1 = 0 then r.2.1 else 0) (nI r.1) r.2.2.1 r.2.2.2 A) (by decide) (Nat.le_of_ble_eq_true rfl) ?_
  intro p e s m below meth c A ls C hrt hlocks hnm hsz hP hD hS hl
  obtain ⟨hx, hb, hml, hown, hk, hz, hlo, hA, hAl⟩ := id C
  have hK : va_K D cls (tyl ca) s := hk.2.1
  have hl : lv_has ls 4 [(0, .ref (ya 0)), (1, .int x), (2, .int v)] := hl
  refine lv_aload_n hx hb dX10_read_0 rfl (lv_at hl 0 rfl) ?_
  refine lv_iconst (v := 0) hx hb dX10_read_1 (by decide) ?_
  refine va_put (D := D) (v := .int 0) (ty := .int) (C := RX10) (T := TX10) (N := 15) hx hb (uc_10 hk.1 _) (fun _ h9 => h9) tyX10 tyX10_ok nmX10 hown hK hP hD hS 0 rfl rfl 0 (by decide) (fl_X10_38 hk.1 _) (fun _ h9 => h9) rfl (by decide +kernel) rfl rfl (Nat.le_of_ble_eq_true rfl) dX10_read_2 (fun H locs hP hD hS => ?_)
  have hP : va_P D cls (wm ca ya F Q.length 0 fl t) H := hP
  have hD : va_D A (wm ca ya F Q.length 0 fl t) := hD
  refine lv_aload_n hx hb dX10_read_5 rfl (lv_at hl 0 rfl) ?_
  refine lv_iload_n hx hb dX10_read_6 rfl (lv_at hl 1 rfl) ?_
  refine lv_iload_n hx hb dX10_read_7 rfl (lv_at hl 2 rfl) ?_
  refine k_mi (n9 := 2) (As := [.int x, .int v]) C (n_refused l D ca sa lo ya F Q.length 0 fl t x v _) (fun U A9 h => co_X10_refused h A9) (in_X10 hk.1 _) (ml_X10_85 hk.1 _) (im_X10_refused hk.1 _) (se_X10_X10_refused hk.1 _) (by decide +kernel) ⟨⟨rfl, rfl⟩, by decide, by decide⟩ hP hD hS rfl rfl rfl hl.1 rfl (Nat.le_of_ble_eq_true rfl) dX10_read_8 ⟨by decide, by decide⟩ (fun H locs hP hD hS => ?_)
  by_cases h1 : rng 0 (nI Q.length - 1) x = true
  · by_cases h2 : rng (-10000) 10000 v = true
    · rw [show rfz Q.length x v = 0 by unfold rfz; rw [if_pos h1, if_pos h2]]
      have h1b : ¬ bi (rng 0 (nI Q.length - 1) x) = 0 := by rw [h1]; decide
      obtain ⟨i, hix, hiQ, rfl⟩ := there_t hok.1 (bi_ne0 h1b)
      obtain ⟨⟨kd, zn, lm, ch, lv, cn, dr, la⟩, hQ, hkd⟩ := at_Q hok hiQ
      have hi : i < 20 := Nat.lt_of_lt_of_le hiQ hok.1
      have hkd : kd < 8 := hkd
      have hFe : va_up F i (kd, zn, lm, ch, lv, cn, dr, la) = F := by rw [← hF i _ hQ]; exact up_same F i
      have hP : va_P D cls (wm ca ya (va_up F i (kd, zn, lm, ch, lv, cn, dr, la)) Q.length 0 fl t) H := by rw [hFe]; exact hP
      have hD : va_D A (wm ca ya (va_up F i (kd, zn, lm, ch, lv, cn, dr, la)) Q.length 0 fl t) := by rw [hFe]; exact hD
      have hr9 : r = ((pr kd v (ch, lv, cn, dr, la) t).1, (pr kd v (ch, lv, cn, dr, la) t).2.1.2.1, Q.set i (kd, zn, lm, (pr kd v (ch, lv, cn, dr, la) t).2.1), (pr kd v (ch, lv, cn, dr, la) t).2.2) := by rw [← hr9]; simp only [zR, hix, sQ_of hQ, gQ_of hQ]; rw [if_pos h2]
      refine lv_istore_n (lv' := [(3, .int 0), (0, .ref (ya 0)), (1, .int (nI i)), (2, .int v)]) hx hb dX10_read_11 rfl hl (by decide) rfl (fun ls hl => ?_)
      refine lv_iload_n hx hb dX10_read_12 rfl (lv_at hl 0 rfl) ?_
      refine lv_if_ge (x := 0) (tgt := 18) hx hb dX10_read_13 (by decide) (fun _ => ?_) (fun h9 => absurd h9 (by decide +kernel))
      refine lv_aload_n hx hb dX10_read_18 rfl (lv_at hl 1 rfl) ?_
      refine lv_iload_n hx hb dX10_read_19 rfl (lv_at hl 2 rfl) ?_
      refine lv_iload_n hx hb dX10_read_20 rfl (lv_at hl 3 rfl) ?_
      refine k_mv (n9 := 2) (As := [.int (nI i), .int v]) C (n_readOf l D ca sa lo ya F Q.length 0 fl t (by first | omega | (simp only [tb_n]; omega)) i hi kd hkd zn lm (ch, lv, cn, dr, la) v _) (fun U A9 h => co_X10_readOf h A9) (in_X10 hk.1 _) (ml_X10_88 hk.1 _) (im_X10_readOf hk.1 _) (se_X10_X10_readOf hk.1 _) (by decide +kernel) ⟨⟨rfl, rfl⟩, by decide, by decide⟩ hP hD hS rfl rfl rfl hl.1 rfl (Nat.le_of_ble_eq_true rfl) dX10_read_21 ⟨by decide, by decide⟩ (fun H locs hP hD hS => ?_)
      have hn1 := pr_n kd v (ch, lv, cn, dr, la) t
      have hc1 := pr_c kd v (ch, lv, cn, dr, la) t
      generalize hp1 : pr kd v (ch, lv, cn, dr, la) t = P9 at hP hD hn1 hc1 hr9 ⊢
      obtain ⟨c1, ⟨ch, lv, cn, dr, la⟩, t1⟩ := P9
      have hn1 : t1.1 ≤ t.1 + 11 := hn1
      have hc1 : c1 ≤ 2 := hc1
      have hP : va_P D cls (wm ca ya (va_up F i (kd, zn, lm, ch, lv, cn, dr, la)) Q.length 0 (nI c1) t1) H := hP
      have hD : va_D A (wm ca ya (va_up F i (kd, zn, lm, ch, lv, cn, dr, la)) Q.length 0 (nI c1) t1) := hD
      refine lv_aload_n hx hb dX10_read_24 rfl (lv_at hl 1 rfl) ?_
      refine lv_aload_n hx hb dX10_read_25 rfl (lv_at hl 1 rfl) ?_
      refine va_get (D := D) (C := RX10) (T := TX10) (N := 15) hx hb (uc_10 hk.1 _) (fun _ h9 => h9) hown hK hP 0 rfl rfl 14 (by decide) (fl_X10_52 hk.1 _) (fun _ h9 => h9) rfl dX10_read_26 ?_
      refine va_put (D := D) (v := .int (nI c1)) (ty := .int) (C := RX10) (T := TX10) (N := 15) hx hb (uc_10 hk.1 _) (fun _ h9 => h9) tyX10 tyX10_ok nmX10 hown hK hP hD hS 0 rfl rfl 0 (by decide) (fl_X10_38 hk.1 _) (fun _ h9 => h9) rfl (by decide +kernel) rfl rfl (Nat.le_of_ble_eq_true rfl) dX10_read_29 (fun H locs hP hD hS => ?_)
      have hP : va_P D cls (wm ca ya (va_up F i (kd, zn, lm, ch, lv, cn, dr, la)) Q.length (nI c1) (nI c1) t1) H := hP
      have hD : va_D A (wm ca ya (va_up F i (kd, zn, lm, ch, lv, cn, dr, la)) Q.length (nI c1) (nI c1) t1) := hD
      refine lv_aload_n hx hb dX10_read_32 rfl (lv_at hl 1 rfl) ?_
      refine va_get (D := D) (C := RX10) (T := TX10) (N := 15) hx hb (uc_10 hk.1 _) (fun _ h9 => h9) hown hK hP 0 rfl rfl 14 (by decide) (fl_X10_52 hk.1 _) (fun _ h9 => h9) rfl dX10_read_33 ?_
      refine lv_if_le (tgt := 43) hx hb dX10_read_36 (by decide) (fun c_1 => ?_) (fun c_1 => ?_)
      · have hc0 : c1 = 0 := (nI_le0 hc1).mp c_1
        subst hc0
        subst hr9
        refine lv_aload_n hx hb dX10_read_43 rfl (lv_at hl 1 rfl) ?_
        refine va_get (D := D) (C := RX10) (T := TX10) (N := 15) hx hb (uc_10 hk.1 _) (fun _ h9 => h9) hown hK hP 0 rfl rfl 6 (by decide) (fl_X10_22 hk.1 _) (fun _ h9 => h9) rfl dX10_read_44 ?_
        refine lv_iload_n hx hb dX10_read_47 rfl (lv_at hl 2 rfl) ?_
        refine ld_i (x := lv) C hP 5 rfl hi (congrArg (fun q : Pd => q.2.2.2.2.1) (va_up_self F i _)) dX10_read_48 ?_
        exact rf_ C hrt hlocks rfl (hF.set _) (by rw [List.length_set]; exact hP) hS dX10_read_49
      · refine lv_iconst (v := 0) hx hb dX10_read_39 (by decide) ?_
        refine lv_goto (tgt := 49) hx hb dX10_read_40 (by decide) ?_
        have hc0 : ¬ c1 = 0 := fun h9 => c_1 ((nI_le0 hc1).mpr h9)
        subst hr9
        exact rf_ C hrt hlocks (by show (0 : Int32) = if c1 = 0 then _ else 0; rw [if_neg hc0]) (hF.set _) (by rw [List.length_set]; exact hP) hS dX10_read_49
    · rw [show rfz Q.length x v = -102 by unfold rfz; rw [if_pos h1, if_neg h2]]
      obtain ⟨i, hix, hiQ, rfl⟩ := there_t hok.1 h1
      have hr9 : r = (0, -102, Q, t) := by rw [← hr9]; simp only [zR, hix]; rw [if_neg h2]
      subst hr9
      refine lv_istore_n (lv' := [(3, .int (-102)), (0, .ref (ya 0)), (1, .int (nI i)), (2, .int v)]) hx hb dX10_read_11 rfl hl (by decide) rfl (fun ls hl => ?_)
      refine lv_iload_n hx hb dX10_read_12 rfl (lv_at hl 0 rfl) ?_
      refine lv_if_ge (x := -102) (tgt := 18) hx hb dX10_read_13 (by decide) (fun h9 => absurd h9 (by decide +kernel)) (fun _ => ?_)
      refine lv_iload_n hx hb dX10_read_16 rfl (lv_at hl 0 rfl) ?_
      exact rf_ C hrt hlocks rfl hF hP hS dX10_read_17
  · rw [show rfz Q.length x v = -101 by unfold rfz; rw [if_neg h1]]
    have hix := there_f hok.1 (Bool.eq_false_iff.mpr h1)
    have hr9 : r = (0, -101, Q, t) := by rw [← hr9]; simp only [zR, hix]
    subst hr9
    refine lv_istore_n (lv' := [(3, .int (-101)), (0, .ref (ya 0)), (1, .int x), (2, .int v)]) hx hb dX10_read_11 rfl hl (by decide) rfl (fun ls hl => ?_)
    refine lv_iload_n hx hb dX10_read_12 rfl (lv_at hl 0 rfl) ?_
    refine lv_if_ge (x := -101) (tgt := 18) hx hb dX10_read_13 (by decide) (fun h9 => absurd h9 (by decide +kernel)) (fun _ => ?_)
    refine lv_iload_n hx hb dX10_read_16 rfl (lv_at hl 0 rfl) ?_
    exact rf_ C hrt hlocks rfl hF hP hS dX10_read_17

set_option maxHeartbeats 4000000 in
set_option maxRecDepth 100000 in
theorem N_weigh (l : Launch) (D : va_G) (ca : Nat → ClassId) (sa : Nat → Nat) (lo : Nat) (ya : Nat → Nat) (F : Nat → Pd) (Q : List Pd) (cd fl : Int32) (t : Tr) (hok : okQ Q) (hF : RQ F Q) (ht : t.1 + 3 ≤ 2147483648) (x v : Int32) (sz : Nat) : Met l yX10_weigh [.code yX10_weigh cX10_weigh 5 (some .int)] ({ frames := 6, cells := 0, slots := 0, locals := 190 }) (PX D ca sa lo sz [.ref (ya 0), .int x, .int v] (wm ca ya F Q.length cd fl t)) (QF D ca ya (if (zW Q t x v).1 = 0 then (zW Q t x v).2.1 else 0) (nI (zW Q t x v).1) (zW Q t x v).2.2.1 (zW Q t x v).2.2.2 (va_A (wm ca ya F Q.length cd fl t) sz)) 0 0 (va_A (wm ca ya F Q.length cd fl t) sz) := by
  generalize hr9 : zW Q t x v = r
  refine mk_met (fun A => QF D ca ya (if r.1 = 0 then r.2.1 else 0) (nI r.1) r.2.2.1 r.2.2.2 A) (by decide) (Nat.le_of_ble_eq_true rfl) ?_
  intro p e s m below meth c A ls C hrt hlocks hnm hsz hP hD hS hl
  obtain ⟨hx, hb, hml, hown, hk, hz, hlo, hA, hAl⟩ := id C
  have hK : va_K D cls (tyl ca) s := hk.2.1
  have hl : lv_has ls 5 [(0, .ref (ya 0)), (1, .int x), (2, .int v)] := hl
  refine lv_aload_n hx hb dX10_weigh_0 rfl (lv_at hl 0 rfl) ?_
  refine lv_iconst (v := 0) hx hb dX10_weigh_1 (by decide) ?_
  refine va_put (D := D) (v := .int 0) (ty := .int) (C := RX10) (T := TX10) (N := 15) hx hb (uc_10 hk.1 _) (fun _ h9 => h9) tyX10 tyX10_ok nmX10 hown hK hP hD hS 0 rfl rfl 0 (by decide) (fl_X10_38 hk.1 _) (fun _ h9 => h9) rfl (by decide +kernel) rfl rfl (Nat.le_of_ble_eq_true rfl) dX10_weigh_2 (fun H locs hP hD hS => ?_)
  have hP : va_P D cls (wm ca ya F Q.length 0 fl t) H := hP
  have hD : va_D A (wm ca ya F Q.length 0 fl t) := hD
  refine lv_aload_n hx hb dX10_weigh_5 rfl (lv_at hl 0 rfl) ?_
  refine lv_iload_n hx hb dX10_weigh_6 rfl (lv_at hl 1 rfl) ?_
  refine lv_iload_n hx hb dX10_weigh_7 rfl (lv_at hl 2 rfl) ?_
  refine k_mi (n9 := 2) (As := [.int x, .int v]) C (n_refused l D ca sa lo ya F Q.length 0 fl t x v _) (fun U A9 h => co_X10_refused h A9) (in_X10 hk.1 _) (ml_X10_85 hk.1 _) (im_X10_refused hk.1 _) (se_X10_X10_refused hk.1 _) (by decide +kernel) ⟨⟨rfl, rfl⟩, by decide, by decide⟩ hP hD hS rfl rfl rfl hl.1 rfl (Nat.le_of_ble_eq_true rfl) dX10_weigh_8 ⟨by decide, by decide⟩ (fun H locs hP hD hS => ?_)
  by_cases h1 : rng 0 (nI Q.length - 1) x = true
  · by_cases h2 : rng (-10000) 10000 v = true
    · rw [show rfz Q.length x v = 0 by unfold rfz; rw [if_pos h1, if_pos h2]]
      have h1b : ¬ bi (rng 0 (nI Q.length - 1) x) = 0 := by rw [h1]; decide
      obtain ⟨i, hix, hiQ, rfl⟩ := there_t hok.1 (bi_ne0 h1b)
      obtain ⟨⟨kd, zn, lm, ch, lv, cn, dr, la⟩, hQ, hkd⟩ := at_Q hok hiQ
      have hi : i < 20 := Nat.lt_of_lt_of_le hiQ hok.1
      have hkd : kd < 8 := hkd
      have hFe : va_up F i (kd, zn, lm, ch, lv, cn, dr, la) = F := by rw [← hF i _ hQ]; exact up_same F i
      have hP : va_P D cls (wm ca ya (va_up F i (kd, zn, lm, ch, lv, cn, dr, la)) Q.length 0 fl t) H := by rw [hFe]; exact hP
      have hD : va_D A (wm ca ya (va_up F i (kd, zn, lm, ch, lv, cn, dr, la)) Q.length 0 fl t) := by rw [hFe]; exact hD
      have hr9 : r = ((pw kd v (ch, lv, cn, dr, la) t).1, (pw kd v (ch, lv, cn, dr, la) t).2.1, Q.set i (kd, zn, lm, (pw kd v (ch, lv, cn, dr, la) t).2.2.1), (pw kd v (ch, lv, cn, dr, la) t).2.2.2) := by rw [← hr9]; simp only [zW, hix, sQ_of hQ, gQ_of hQ]; rw [if_pos h2]
      refine lv_istore_n (lv' := [(3, .int 0), (0, .ref (ya 0)), (1, .int (nI i)), (2, .int v)]) hx hb dX10_weigh_11 rfl hl (by decide) rfl (fun ls hl => ?_)
      refine lv_iload_n hx hb dX10_weigh_12 rfl (lv_at hl 0 rfl) ?_
      refine lv_if_ge (x := 0) (tgt := 18) hx hb dX10_weigh_13 (by decide) (fun _ => ?_) (fun h9 => absurd h9 (by decide +kernel))
      refine lv_aload_n hx hb dX10_weigh_18 rfl (lv_at hl 1 rfl) ?_
      refine lv_iload_n hx hb dX10_weigh_19 rfl (lv_at hl 2 rfl) ?_
      refine lv_iload_n hx hb dX10_weigh_20 rfl (lv_at hl 3 rfl) ?_
      refine k_mi (n9 := 2) (As := [.int (nI i), .int v]) C (n_weighed l D ca sa lo ya F Q.length 0 fl t (by first | omega | (simp only [tb_n]; omega)) i hi kd hkd zn lm (ch, lv, cn, dr, la) v _) (fun U A9 h => co_X10_weighed h A9) (in_X10 hk.1 _) (ml_X10_72 hk.1 _) (im_X10_weighed hk.1 _) (se_X10_X10_weighed hk.1 _) (by decide +kernel) ⟨⟨rfl, rfl⟩, by decide, by decide⟩ hP hD hS rfl rfl rfl hl.1 rfl (Nat.le_of_ble_eq_true rfl) dX10_weigh_21 ⟨by decide, by decide⟩ (fun H locs hP hD hS => ?_)
      have hn1 := pw_n kd v (ch, lv, cn, dr, la) t
      have hc1 := pw_c kd v (ch, lv, cn, dr, la) t
      generalize hp1 : pw kd v (ch, lv, cn, dr, la) t = P9 at hP hD hn1 hc1 hr9 ⊢
      obtain ⟨c1, w1, ⟨ch, lv, cn, dr, la⟩, t1⟩ := P9
      have hn1 : t1.1 ≤ t.1 + 3 := hn1
      have hc1 : c1 ≤ 2 := hc1
      have hP : va_P D cls (wm ca ya (va_up F i (kd, zn, lm, ch, lv, cn, dr, la)) Q.length 0 (nI c1) t1) H := hP
      have hD : va_D A (wm ca ya (va_up F i (kd, zn, lm, ch, lv, cn, dr, la)) Q.length 0 (nI c1) t1) := hD
      refine lv_istore (lv' := [(4, .int w1), (3, .int 0), (0, .ref (ya 0)), (1, .int (nI i)), (2, .int v)]) hx hb dX10_weigh_24 hl (by decide) rfl (fun ls hl => ?_)
      refine lv_aload_n hx hb dX10_weigh_26 rfl (lv_at hl 2 rfl) ?_
      refine lv_aload_n hx hb dX10_weigh_27 rfl (lv_at hl 2 rfl) ?_
      refine va_get (D := D) (C := RX10) (T := TX10) (N := 15) hx hb (uc_10 hk.1 _) (fun _ h9 => h9) hown hK hP 0 rfl rfl 14 (by decide) (fl_X10_52 hk.1 _) (fun _ h9 => h9) rfl dX10_weigh_28 ?_
      refine va_put (D := D) (v := .int (nI c1)) (ty := .int) (C := RX10) (T := TX10) (N := 15) hx hb (uc_10 hk.1 _) (fun _ h9 => h9) tyX10 tyX10_ok nmX10 hown hK hP hD hS 0 rfl rfl 0 (by decide) (fl_X10_38 hk.1 _) (fun _ h9 => h9) rfl (by decide +kernel) rfl rfl (Nat.le_of_ble_eq_true rfl) dX10_weigh_31 (fun H locs hP hD hS => ?_)
      have hP : va_P D cls (wm ca ya (va_up F i (kd, zn, lm, ch, lv, cn, dr, la)) Q.length (nI c1) (nI c1) t1) H := hP
      have hD : va_D A (wm ca ya (va_up F i (kd, zn, lm, ch, lv, cn, dr, la)) Q.length (nI c1) (nI c1) t1) := hD
      refine lv_aload_n hx hb dX10_weigh_34 rfl (lv_at hl 2 rfl) ?_
      refine va_get (D := D) (C := RX10) (T := TX10) (N := 15) hx hb (uc_10 hk.1 _) (fun _ h9 => h9) hown hK hP 0 rfl rfl 14 (by decide) (fl_X10_52 hk.1 _) (fun _ h9 => h9) rfl dX10_weigh_35 ?_
      refine lv_if_le (tgt := 45) hx hb dX10_weigh_38 (by decide) (fun c_1 => ?_) (fun c_1 => ?_)
      · have hc0 : c1 = 0 := (nI_le0 hc1).mp c_1
        subst hc0
        subst hr9
        refine lv_iload hx hb dX10_weigh_45 (lv_at hl 0 rfl) ?_
        exact rf_ C hrt hlocks rfl (hF.set _) (by rw [List.length_set]; exact hP) hS dX10_weigh_47
      · refine lv_iconst (v := 0) hx hb dX10_weigh_41 (by decide) ?_
        refine lv_goto (tgt := 47) hx hb dX10_weigh_42 (by decide) ?_
        have hc0 : ¬ c1 = 0 := fun h9 => c_1 ((nI_le0 hc1).mpr h9)
        subst hr9
        exact rf_ C hrt hlocks (by show (0 : Int32) = if c1 = 0 then _ else 0; rw [if_neg hc0]) (hF.set _) (by rw [List.length_set]; exact hP) hS dX10_weigh_47
    · rw [show rfz Q.length x v = -102 by unfold rfz; rw [if_pos h1, if_neg h2]]
      obtain ⟨i, hix, hiQ, rfl⟩ := there_t hok.1 h1
      have hr9 : r = (0, -102, Q, t) := by rw [← hr9]; simp only [zW, hix]; rw [if_neg h2]
      subst hr9
      refine lv_istore_n (lv' := [(3, .int (-102)), (0, .ref (ya 0)), (1, .int (nI i)), (2, .int v)]) hx hb dX10_weigh_11 rfl hl (by decide) rfl (fun ls hl => ?_)
      refine lv_iload_n hx hb dX10_weigh_12 rfl (lv_at hl 0 rfl) ?_
      refine lv_if_ge (x := -102) (tgt := 18) hx hb dX10_weigh_13 (by decide) (fun h9 => absurd h9 (by decide +kernel)) (fun _ => ?_)
      refine lv_iload_n hx hb dX10_weigh_16 rfl (lv_at hl 0 rfl) ?_
      exact rf_ C hrt hlocks rfl hF hP hS dX10_weigh_17
  · rw [show rfz Q.length x v = -101 by unfold rfz; rw [if_neg h1]]
    have hix := there_f hok.1 (Bool.eq_false_iff.mpr h1)
    have hr9 : r = (0, -101, Q, t) := by rw [← hr9]; simp only [zW, hix]
    subst hr9
    refine lv_istore_n (lv' := [(3, .int (-101)), (0, .ref (ya 0)), (1, .int x), (2, .int v)]) hx hb dX10_weigh_11 rfl hl (by decide) rfl (fun ls hl => ?_)
    refine lv_iload_n hx hb dX10_weigh_12 rfl (lv_at hl 0 rfl) ?_
    refine lv_if_ge (x := -101) (tgt := 18) hx hb dX10_weigh_13 (by decide) (fun h9 => absurd h9 (by decide +kernel)) (fun _ => ?_)
    refine lv_iload_n hx hb dX10_weigh_16 rfl (lv_at hl 0 rfl) ?_
    exact rf_ C hrt hlocks rfl hF hP hS dX10_weigh_17

set_option maxHeartbeats 4000000 in
set_option maxRecDepth 100000 in
theorem N_add (l : Launch) (D : va_G) (ca : Nat → ClassId) (sa : Nat → Nat) (lo : Nat) (ya : Nat → Nat) (F : Nat → Pd) (Q : List Pd) (cd fl : Int32) (t : Tr) (hok : okQ Q) (hF : RQ F Q) (kq zq lq gq : Int32) (sz : Nat) : Met l yX10_add [.code yX10_add cX10_add 5 (some .int)] ({ frames := 1, cells := 0, slots := 0, locals := 40 }) (PX D ca sa lo sz [.ref (ya 0), .int kq, .int zq, .int lq, .int gq] (wm ca ya F Q.length cd fl t)) (QF D ca ya (zAdd Q t kq zq lq gq).1 0 (zAdd Q t kq zq lq gq).2.1 (zAdd Q t kq zq lq gq).2.2 (va_A (wm ca ya F Q.length cd fl t) sz)) 0 0 (va_A (wm ca ya F Q.length cd fl t) sz) := by
  generalize hr9 : zAdd Q t kq zq lq gq = r
  refine mk_met (fun A => QF D ca ya r.1 0 r.2.1 r.2.2 A) (by decide) (Nat.le_of_ble_eq_true rfl) ?_
  intro p e s m below meth c A ls C hrt hlocks hnm hsz hP hD hS hl
  obtain ⟨hx, hb, hml, hown, hk, hz, hlo, hA, hAl⟩ := id C
  have hK : va_K D cls (tyl ca) s := hk.2.1
  have hl : lv_has ls 5 [(0, .ref (ya 0)), (1, .int kq), (2, .int zq), (3, .int lq), (4, .int gq)] := hl
  refine lv_aload_n hx hb dX10_add_0 rfl (lv_at hl 0 rfl) ?_
  refine lv_iconst (v := 0) hx hb dX10_add_1 (by decide) ?_
  refine va_put (D := D) (v := .int 0) (ty := .int) (C := RX10) (T := TX10) (N := 15) hx hb (uc_10 hk.1 _) (fun _ h9 => h9) tyX10 tyX10_ok nmX10 hown hK hP hD hS 0 rfl rfl 0 (by decide) (fl_X10_38 hk.1 _) (fun _ h9 => h9) rfl (by decide +kernel) rfl rfl (Nat.le_of_ble_eq_true rfl) dX10_add_2 (fun H locs hP hD hS => ?_)
  have hP : va_P D cls (wm ca ya F Q.length 0 fl t) H := hP
  have hD : va_D A (wm ca ya F Q.length 0 fl t) := hD
  refine lv_iload_n hx hb dX10_add_5 rfl (lv_at hl 1 rfl) ?_
  refine lv_iconst (v := 0) hx hb dX10_add_6 (by decide) ?_
  refine lv_bipush (v := 7) hx hb dX10_add_7 (by decide) ?_
  refine k_num (n := 3) C (n_isIn l D ca sa lo kq 0 7) (fun U A9 h => co_X10_isIn h A9) (in_X10 hk.1 _) (ml_X10_45 hk.1 _) (st_X10_isIn hk.1 _) (by decide +kernel) ⟨⟨rfl, rfl⟩, by decide, by decide⟩ hP hS rfl hl.1 rfl (Nat.le_of_ble_eq_true rfl) dX10_add_9 ⟨by decide, by decide⟩ (fun H locs hP hS _ _ => ?_)
  refine lv_if_eq (tgt := 48) hx hb dX10_add_12 (by decide) (fun c_1 => ?_) (fun c_1 => ?_)
  · have hr9 : r = (-102, Q, t) := by rw [← hr9]; exact if_neg (fun h9 => by rw [bi_eq0 c_1] at h9; simp at h9)
    subst hr9
    refine lv_bipush (v := (-102)) hx hb dX10_add_48 (by decide) ?_
    exact rf_ C hrt hlocks rfl hF hP hS dX10_add_50
  · refine lv_iload_n hx hb dX10_add_15 rfl (lv_at hl 2 rfl) ?_
    refine lv_iconst (v := 0) hx hb dX10_add_16 (by decide) ?_
    refine lv_iconst (v := 5) hx hb dX10_add_17 (by decide) ?_
    refine k_num (n := 3) C (n_isIn l D ca sa lo zq 0 5) (fun U A9 h => co_X10_isIn h A9) (in_X10 hk.1 _) (ml_X10_45 hk.1 _) (st_X10_isIn hk.1 _) (by decide +kernel) ⟨⟨rfl, rfl⟩, by decide, by decide⟩ hP hS rfl hl.1 rfl (Nat.le_of_ble_eq_true rfl) dX10_add_18 ⟨by decide, by decide⟩ (fun H locs hP hS _ _ => ?_)
    refine lv_if_eq (tgt := 48) hx hb dX10_add_21 (by decide) (fun c_2 => ?_) (fun c_2 => ?_)
    · have hr9 : r = (-102, Q, t) := by rw [← hr9]; exact if_neg (fun h9 => by rw [bi_eq0 c_2] at h9; simp at h9)
      subst hr9
      refine lv_bipush (v := (-102)) hx hb dX10_add_48 (by decide) ?_
      exact rf_ C hrt hlocks rfl hF hP hS dX10_add_50
    · refine lv_iload_n hx hb dX10_add_24 rfl (lv_at hl 3 rfl) ?_
      refine lv_sipush (v := (-10000)) hx hb dX10_add_25 (by decide) ?_
      refine lv_sipush (v := 10000) hx hb dX10_add_28 (by decide) ?_
      refine k_num (n := 3) C (n_isIn l D ca sa lo lq (-10000) 10000) (fun U A9 h => co_X10_isIn h A9) (in_X10 hk.1 _) (ml_X10_45 hk.1 _) (st_X10_isIn hk.1 _) (by decide +kernel) ⟨⟨rfl, rfl⟩, by decide, by decide⟩ hP hS rfl hl.1 rfl (Nat.le_of_ble_eq_true rfl) dX10_add_31 ⟨by decide, by decide⟩ (fun H locs hP hS _ _ => ?_)
      refine lv_if_eq (tgt := 48) hx hb dX10_add_34 (by decide) (fun c_3 => ?_) (fun c_3 => ?_)
      · have hr9 : r = (-102, Q, t) := by rw [← hr9]; exact if_neg (fun h9 => by rw [bi_eq0 c_3] at h9; simp at h9)
        subst hr9
        refine lv_bipush (v := (-102)) hx hb dX10_add_48 (by decide) ?_
        exact rf_ C hrt hlocks rfl hF hP hS dX10_add_50
      · refine lv_iload hx hb dX10_add_37 (lv_at hl 4 rfl) ?_
        refine lv_iconst (v := 0) hx hb dX10_add_39 (by decide) ?_
        refine lv_bipush (v := 100) hx hb dX10_add_40 (by decide) ?_
        refine k_num (n := 3) C (n_isIn l D ca sa lo gq 0 100) (fun U A9 h => co_X10_isIn h A9) (in_X10 hk.1 _) (ml_X10_45 hk.1 _) (st_X10_isIn hk.1 _) (by decide +kernel) ⟨⟨rfl, rfl⟩, by decide, by decide⟩ hP hS rfl hl.1 rfl (Nat.le_of_ble_eq_true rfl) dX10_add_42 ⟨by decide, by decide⟩ (fun H locs hP hS _ _ => ?_)
        refine lv_if_ne (tgt := 51) hx hb dX10_add_45 (by decide) (fun c_4 => ?_) (fun c_4 => ?_)
        · have hr9 : r = (if Q.length = 20 then (-104, Q, t) else (nI Q.length, Q ++ [pN kq.toNatClampNeg zq lq gq], t)) := by rw [← hr9]; exact if_pos ⟨bi_ne0 c_1, bi_ne0 c_2, bi_ne0 c_3, bi_ne0 c_4⟩
          obtain ⟨kx, hkx, rfl⟩ := rng_7 (bi_ne0 c_1)
          rw [nI_clamp (by omega)] at hr9
          have h20 := hok.1
          refine lv_aload_n hx hb dX10_add_51 rfl (lv_at hl 0 rfl) ?_
          refine va_get (D := D) (C := RX10) (T := TX10) (N := 15) hx hb (uc_10 hk.1 _) (fun _ h9 => h9) hown hK hP 0 rfl rfl 1 (by decide) (fl_X10_42 hk.1 _) (fun _ h9 => h9) rfl dX10_add_52 ?_
          refine lv_bipush (v := 20) hx hb dX10_add_55 (by decide) ?_
          refine lv_icmp_ne (tgt := 63) hx hb dX10_add_57 (by decide) (fun c_5 => ?_) (fun c_5 => ?_)
          · have hlt : ¬ Q.length = 20 := fun h9 => c_5 (by rw [h9]; rfl)
            have hr9 : r = (nI Q.length, Q ++ [pN kx zq lq gq], t) := by rw [hr9, if_neg hlt]
            subst hr9
            have hi : Q.length < 20 := by omega
            have hFq := hF.app (pN kx zq lq gq)
            have hlq : (Q ++ [pN kx zq lq gq]).length = Q.length + 1 := by rw [List.length_append]; rfl
            generalize hFi : F Q.length = pd0
            have hFe : va_up F Q.length pd0 = F := by rw [← hFi]; exact up_same F Q.length
            obtain ⟨kd, zn, lm, ch, lv, cn, dr, la⟩ := pd0
            have hP : va_P D cls (wm ca ya (va_up F Q.length (kd, zn, lm, ch, lv, cn, dr, la)) Q.length 0 fl t) H := by rw [hFe]; exact hP
            have hD : va_D A (wm ca ya (va_up F Q.length (kd, zn, lm, ch, lv, cn, dr, la)) Q.length 0 fl t) := by rw [hFe]; exact hD
            refine lv_aload_n hx hb dX10_add_63 rfl (lv_at hl 0 rfl) ?_
            refine va_get (D := D) (C := RX10) (T := TX10) (N := 15) hx hb (uc_10 hk.1 _) (fun _ h9 => h9) hown hK hP 0 rfl rfl 2 (by decide) (fl_X10_7 hk.1 _) (fun _ h9 => h9) rfl dX10_add_64 ?_
            refine lv_aload_n hx hb dX10_add_67 rfl (lv_at hl 0 rfl) ?_
            refine va_get (D := D) (C := RX10) (T := TX10) (N := 15) hx hb (uc_10 hk.1 _) (fun _ h9 => h9) hown hK hP 0 rfl rfl 1 (by decide) (fl_X10_42 hk.1 _) (fun _ h9 => h9) rfl dX10_add_68 ?_
            refine lv_iload_n hx hb dX10_add_71 rfl (lv_at hl 1 rfl) ?_
            refine st_0 (k9 := kx) C hP hD hS hi dX10_add_72 (fun H locs hP hD hS => ?_)
            have hP : va_P D cls (wm ca ya (va_up F Q.length (kx, zn, lm, ch, lv, cn, dr, la)) Q.length 0 fl t) H := hP
            have hD : va_D A (wm ca ya (va_up F Q.length (kx, zn, lm, ch, lv, cn, dr, la)) Q.length 0 fl t) := hD
            refine lv_aload_n hx hb dX10_add_73 rfl (lv_at hl 0 rfl) ?_
            refine va_get (D := D) (C := RX10) (T := TX10) (N := 15) hx hb (uc_10 hk.1 _) (fun _ h9 => h9) hown hK hP 0 rfl rfl 3 (by decide) (fl_X10_13 hk.1 _) (fun _ h9 => h9) rfl dX10_add_74 ?_
            refine lv_aload_n hx hb dX10_add_77 rfl (lv_at hl 0 rfl) ?_
            refine va_get (D := D) (C := RX10) (T := TX10) (N := 15) hx hb (uc_10 hk.1 _) (fun _ h9 => h9) hown hK hP 0 rfl rfl 1 (by decide) (fl_X10_42 hk.1 _) (fun _ h9 => h9) rfl dX10_add_78 ?_
            refine lv_iload_n hx hb dX10_add_81 rfl (lv_at hl 2 rfl) ?_
            refine st_1 (x9 := zq) C hP hD hS hi dX10_add_82 (fun H locs hP hD hS => ?_)
            have hP : va_P D cls (wm ca ya (va_up F Q.length (kx, zq, lm, ch, lv, cn, dr, la)) Q.length 0 fl t) H := hP
            have hD : va_D A (wm ca ya (va_up F Q.length (kx, zq, lm, ch, lv, cn, dr, la)) Q.length 0 fl t) := hD
            refine lv_aload_n hx hb dX10_add_83 rfl (lv_at hl 0 rfl) ?_
            refine va_get (D := D) (C := RX10) (T := TX10) (N := 15) hx hb (uc_10 hk.1 _) (fun _ h9 => h9) hown hK hP 0 rfl rfl 4 (by decide) (fl_X10_16 hk.1 _) (fun _ h9 => h9) rfl dX10_add_84 ?_
            refine lv_aload_n hx hb dX10_add_87 rfl (lv_at hl 0 rfl) ?_
            refine va_get (D := D) (C := RX10) (T := TX10) (N := 15) hx hb (uc_10 hk.1 _) (fun _ h9 => h9) hown hK hP 0 rfl rfl 1 (by decide) (fl_X10_42 hk.1 _) (fun _ h9 => h9) rfl dX10_add_88 ?_
            refine lv_iload_n hx hb dX10_add_91 rfl (lv_at hl 3 rfl) ?_
            refine st_2 (x9 := lq) C hP hD hS hi dX10_add_92 (fun H locs hP hD hS => ?_)
            have hP : va_P D cls (wm ca ya (va_up F Q.length (kx, zq, lq, ch, lv, cn, dr, la)) Q.length 0 fl t) H := hP
            have hD : va_D A (wm ca ya (va_up F Q.length (kx, zq, lq, ch, lv, cn, dr, la)) Q.length 0 fl t) := hD
            refine lv_aload_n hx hb dX10_add_93 rfl (lv_at hl 0 rfl) ?_
            refine va_get (D := D) (C := RX10) (T := TX10) (N := 15) hx hb (uc_10 hk.1 _) (fun _ h9 => h9) hown hK hP 0 rfl rfl 5 (by decide) (fl_X10_19 hk.1 _) (fun _ h9 => h9) rfl dX10_add_94 ?_
            refine lv_aload_n hx hb dX10_add_97 rfl (lv_at hl 0 rfl) ?_
            refine va_get (D := D) (C := RX10) (T := TX10) (N := 15) hx hb (uc_10 hk.1 _) (fun _ h9 => h9) hown hK hP 0 rfl rfl 1 (by decide) (fl_X10_42 hk.1 _) (fun _ h9 => h9) rfl dX10_add_98 ?_
            refine lv_iload hx hb dX10_add_101 (lv_at hl 4 rfl) ?_
            refine st_3 (x9 := gq) C hP hD hS hi dX10_add_103 (fun H locs hP hD hS => ?_)
            have hP : va_P D cls (wm ca ya (va_up F Q.length (kx, zq, lq, gq, lv, cn, dr, la)) Q.length 0 fl t) H := hP
            have hD : va_D A (wm ca ya (va_up F Q.length (kx, zq, lq, gq, lv, cn, dr, la)) Q.length 0 fl t) := hD
            refine lv_aload_n hx hb dX10_add_104 rfl (lv_at hl 0 rfl) ?_
            refine va_get (D := D) (C := RX10) (T := TX10) (N := 15) hx hb (uc_10 hk.1 _) (fun _ h9 => h9) hown hK hP 0 rfl rfl 6 (by decide) (fl_X10_22 hk.1 _) (fun _ h9 => h9) rfl dX10_add_105 ?_
            refine lv_aload_n hx hb dX10_add_108 rfl (lv_at hl 0 rfl) ?_
            refine va_get (D := D) (C := RX10) (T := TX10) (N := 15) hx hb (uc_10 hk.1 _) (fun _ h9 => h9) hown hK hP 0 rfl rfl 1 (by decide) (fl_X10_42 hk.1 _) (fun _ h9 => h9) rfl dX10_add_109 ?_
            refine lv_iconst (v := 0) hx hb dX10_add_112 (by decide) ?_
            refine st_4 (x9 := 0) C hP hD hS hi dX10_add_113 (fun H locs hP hD hS => ?_)
            have hP : va_P D cls (wm ca ya (va_up F Q.length (kx, zq, lq, gq, 0, cn, dr, la)) Q.length 0 fl t) H := hP
            have hD : va_D A (wm ca ya (va_up F Q.length (kx, zq, lq, gq, 0, cn, dr, la)) Q.length 0 fl t) := hD
            refine lv_aload_n hx hb dX10_add_114 rfl (lv_at hl 0 rfl) ?_
            refine va_get (D := D) (C := RX10) (T := TX10) (N := 15) hx hb (uc_10 hk.1 _) (fun _ h9 => h9) hown hK hP 0 rfl rfl 7 (by decide) (fl_X10_25 hk.1 _) (fun _ h9 => h9) rfl dX10_add_115 ?_
            refine lv_aload_n hx hb dX10_add_118 rfl (lv_at hl 0 rfl) ?_
            refine va_get (D := D) (C := RX10) (T := TX10) (N := 15) hx hb (uc_10 hk.1 _) (fun _ h9 => h9) hown hK hP 0 rfl rfl 1 (by decide) (fl_X10_42 hk.1 _) (fun _ h9 => h9) rfl dX10_add_119 ?_
            refine lv_iconst (v := 0) hx hb dX10_add_122 (by decide) ?_
            refine st_5 (x9 := 0) C hP hD hS hi dX10_add_123 (fun H locs hP hD hS => ?_)
            have hP : va_P D cls (wm ca ya (va_up F Q.length (kx, zq, lq, gq, 0, 0, dr, la)) Q.length 0 fl t) H := hP
            have hD : va_D A (wm ca ya (va_up F Q.length (kx, zq, lq, gq, 0, 0, dr, la)) Q.length 0 fl t) := hD
            refine lv_aload_n hx hb dX10_add_124 rfl (lv_at hl 0 rfl) ?_
            refine va_get (D := D) (C := RX10) (T := TX10) (N := 15) hx hb (uc_10 hk.1 _) (fun _ h9 => h9) hown hK hP 0 rfl rfl 8 (by decide) (fl_X10_28 hk.1 _) (fun _ h9 => h9) rfl dX10_add_125 ?_
            refine lv_aload_n hx hb dX10_add_128 rfl (lv_at hl 0 rfl) ?_
            refine va_get (D := D) (C := RX10) (T := TX10) (N := 15) hx hb (uc_10 hk.1 _) (fun _ h9 => h9) hown hK hP 0 rfl rfl 1 (by decide) (fl_X10_42 hk.1 _) (fun _ h9 => h9) rfl dX10_add_129 ?_
            refine lv_iconst (v := 0) hx hb dX10_add_132 (by decide) ?_
            refine st_6 (x9 := 0) C hP hD hS hi dX10_add_133 (fun H locs hP hD hS => ?_)
            have hP : va_P D cls (wm ca ya (va_up F Q.length (kx, zq, lq, gq, 0, 0, 0, la)) Q.length 0 fl t) H := hP
            have hD : va_D A (wm ca ya (va_up F Q.length (kx, zq, lq, gq, 0, 0, 0, la)) Q.length 0 fl t) := hD
            refine lv_aload_n hx hb dX10_add_134 rfl (lv_at hl 0 rfl) ?_
            refine va_get (D := D) (C := RX10) (T := TX10) (N := 15) hx hb (uc_10 hk.1 _) (fun _ h9 => h9) hown hK hP 0 rfl rfl 9 (by decide) (fl_X10_31 hk.1 _) (fun _ h9 => h9) rfl dX10_add_135 ?_
            refine lv_aload_n hx hb dX10_add_138 rfl (lv_at hl 0 rfl) ?_
            refine va_get (D := D) (C := RX10) (T := TX10) (N := 15) hx hb (uc_10 hk.1 _) (fun _ h9 => h9) hown hK hP 0 rfl rfl 1 (by decide) (fl_X10_42 hk.1 _) (fun _ h9 => h9) rfl dX10_add_139 ?_
            refine lv_iconst (v := 0) hx hb dX10_add_142 (by decide) ?_
            refine st_7 (b9 := false) C hP hD hS hi dX10_add_143 (fun H locs hP hD hS => ?_)
            have hP : va_P D cls (wm ca ya (va_up F Q.length (kx, zq, lq, gq, 0, 0, 0, false)) Q.length 0 fl t) H := hP
            have hD : va_D A (wm ca ya (va_up F Q.length (kx, zq, lq, gq, 0, 0, 0, false)) Q.length 0 fl t) := hD
            refine lv_aload_n hx hb dX10_add_144 rfl (lv_at hl 0 rfl) ?_
            refine lv_dup hx hb dX10_add_145 rfl ?_
            refine va_get (D := D) (C := RX10) (T := TX10) (N := 15) hx hb (uc_10 hk.1 _) (fun _ h9 => h9) hown hK hP 0 rfl rfl 1 (by decide) (fl_X10_42 hk.1 _) (fun _ h9 => h9) rfl dX10_add_146 ?_
            refine lv_iconst (v := 1) hx hb dX10_add_149 (by decide) ?_
            refine lv_iadd hx hb dX10_add_150 ?_
            refine va_put (D := D) (v := .int ((nI Q.length) + 1)) (ty := .int) (C := RX10) (T := TX10) (N := 15) hx hb (uc_10 hk.1 _) (fun _ h9 => h9) tyX10 tyX10_ok nmX10 hown hK hP hD hS 0 rfl rfl 1 (by decide) (fl_X10_42 hk.1 _) (fun _ h9 => h9) rfl (by decide +kernel) rfl rfl (Nat.le_of_ble_eq_true rfl) dX10_add_151 (fun H locs hP hD hS => ?_)
            have hP := hP
            have hD := hD
            have hP : va_P D cls (wm ca ya (va_up F Q.length (kx, zq, lq, gq, 0, 0, 0, false)) (Q.length + 1) 0 fl t) H := by
              unfold wm wa; rw [← nI_1]; exact hP
            have hD : va_D A (wm ca ya (va_up F Q.length (kx, zq, lq, gq, 0, 0, 0, false)) (Q.length + 1) 0 fl t) := hD.to rfl
            refine lv_aload_n hx hb dX10_add_154 rfl (lv_at hl 0 rfl) ?_
            refine va_get (D := D) (C := RX10) (T := TX10) (N := 15) hx hb (uc_10 hk.1 _) (fun _ h9 => h9) hown hK hP 0 rfl rfl 1 (by decide) (fl_X10_42 hk.1 _) (fun _ h9 => h9) rfl dX10_add_155 ?_
            refine lv_iconst (v := 1) hx hb dX10_add_158 (by decide) ?_
            refine lv_isub hx hb dX10_add_159 ?_
            exact rf_ C hrt hlocks (nI_pred _) hFq (by rw [hlq]; exact hP) hS dX10_add_160
          · have hlt : Q.length = 20 := (nI_eq (b := 20) (by omega) (by decide)).mp c_5
            have hr9 : r = (-104, Q, t) := by rw [hr9, if_pos hlt]
            subst hr9
            refine lv_bipush (v := (-104)) hx hb dX10_add_60 (by decide) ?_
            exact rf_ C hrt hlocks rfl hF hP hS dX10_add_62
        · have hr9 : r = (-102, Q, t) := by rw [← hr9]; exact if_neg (fun h9 => by rw [bi_eq0 c_4] at h9; simp at h9)
          subst hr9
          refine lv_bipush (v := (-102)) hx hb dX10_add_48 (by decide) ?_
          exact rf_ C hrt hlocks rfl hF hP hS dX10_add_50
