set_option maxHeartbeats 4000000 in
set_option maxRecDepth 100000 in
theorem n_isIn (l : Launch) (D : va_G) (ca : Nat → ClassId) (sa : Nat → Nat) (lo : Nat) (x a b : Int32) (sz : Nat) : Met l yX10_isIn [.code yX10_isIn cX10_isIn 3 (some .boolean)] ({ frames := 0, cells := 0, slots := 0, locals := 0 }) (PX D ca sa lo sz [.int x, .int a, .int b] []) (QI D (bi (rng a b x)) [] (va_A [] sz)) 0 0 (va_A [] sz) := by
  refine mk_met (fun A => QI D (bi (rng a b x)) [] A) (by decide) (Nat.le_of_ble_eq_true rfl) ?_
  intro p e s m below meth c A ls C hrt hlocks hnm hsz hP hD hS hl
  obtain ⟨hx, hb, hml, hown, hk, hz, hlo, hA, hAl⟩ := id C
  have hK : va_K D cls (tyl ca) s := hk.2.1
  have hl : lv_has ls 3 [(0, .int x), (1, .int a), (2, .int b)] := hl
  refine lv_iload_n hx hb dX10_isIn_0 rfl (lv_at hl 0 rfl) ?_
  refine lv_iload_n hx hb dX10_isIn_1 rfl (lv_at hl 1 rfl) ?_
  refine lv_icmp_lt (tgt := 14) hx hb dX10_isIn_2 (by decide) (fun c_1 => ?_) (fun c_1 => ?_)
  · refine lv_iconst (v := 0) hx hb dX10_isIn_14 (by decide) ?_
    exact rz C hrt hlocks (rng_f1 c_1) hP hS dX10_isIn_15
  · refine lv_iload_n hx hb dX10_isIn_5 rfl (lv_at hl 0 rfl) ?_
    refine lv_iload_n hx hb dX10_isIn_6 rfl (lv_at hl 2 rfl) ?_
    refine lv_icmp_gt (tgt := 14) hx hb dX10_isIn_7 (by decide) (fun c_2 => ?_) (fun c_2 => ?_)
    · refine lv_iconst (v := 0) hx hb dX10_isIn_14 (by decide) ?_
      exact rz C hrt hlocks (rng_f2 c_1 c_2) hP hS dX10_isIn_15
    · refine lv_iconst (v := 1) hx hb dX10_isIn_10 (by decide) ?_
      refine lv_goto (tgt := 15) hx hb dX10_isIn_11 (by decide) ?_
      exact rz C hrt hlocks (rng_t c_1 c_2) hP hS dX10_isIn_15

set_option maxHeartbeats 4000000 in
set_option maxRecDepth 100000 in
theorem n_isThere (l : Launch) (D : va_G) (ca : Nat → ClassId) (sa : Nat → Nat) (lo : Nat) (ya : Nat → Nat) (F : Nat → Pd) (n : Nat) (cd fl : Int32) (t : Tr) (x : Int32) (sz : Nat) : Met l yX10_isThere [.code yX10_isThere cX10_isThere 2 (some .boolean)] ({ frames := 1, cells := 0, slots := 0, locals := 30 }) (PX D ca sa lo sz [.ref (ya 0), .int x] (wm ca ya F n cd fl t)) (QI D (bi (rng 0 (nI n - 1) x)) (wm ca ya F n cd fl t) (va_A (wm ca ya F n cd fl t) sz)) 0 0 (va_A (wm ca ya F n cd fl t) sz) := by
  refine mk_met (fun A => QI D (bi (rng 0 (nI n - 1) x)) (wm ca ya F n cd fl t) A) (by decide) (Nat.le_of_ble_eq_true rfl) ?_
  intro p e s m below meth c A ls C hrt hlocks hnm hsz hP hD hS hl
  obtain ⟨hx, hb, hml, hown, hk, hz, hlo, hA, hAl⟩ := id C
  have hK : va_K D cls (tyl ca) s := hk.2.1
  have hl : lv_has ls 2 [(0, .ref (ya 0)), (1, .int x)] := hl
  refine lv_iload_n hx hb dX10_isThere_0 rfl (lv_at hl 1 rfl) ?_
  refine lv_iconst (v := 0) hx hb dX10_isThere_1 (by decide) ?_
  refine lv_aload_n hx hb dX10_isThere_2 rfl (lv_at hl 0 rfl) ?_
  refine va_get (D := D) (C := RX10) (T := TX10) (N := 15) hx hb (uc_10 hk.1 _) (fun _ h9 => h9) hown hK hP 0 rfl rfl 1 (by decide) (fl_X10_42 hk.1 _) (fun _ h9 => h9) rfl dX10_isThere_3 ?_
  refine lv_iconst (v := 1) hx hb dX10_isThere_6 (by decide) ?_
  refine lv_isub hx hb dX10_isThere_7 ?_
  refine k_num (n := 3) C (n_isIn l D ca sa lo x 0 ((nI n) - 1)) (fun U A9 h => co_X10_isIn h A9) (in_X10 hk.1 _) (ml_X10_45 hk.1 _) (st_X10_isIn hk.1 _) (by decide +kernel) ⟨⟨rfl, rfl⟩, by decide, by decide⟩ hP hS rfl hl.1 rfl (Nat.le_of_ble_eq_true rfl) dX10_isThere_8 ⟨by decide, by decide⟩ (fun H locs hP hS _ _ => ?_)
  exact rz C hrt hlocks rfl hP hS dX10_isThere_11

set_option maxHeartbeats 4000000 in
set_option maxRecDepth 100000 in
theorem n_rule (l : Launch) (D : va_G) (ca : Nat → ClassId) (sa : Nat → Nat) (lo : Nat) (ya : Nat → Nat) (F : Nat → Pd) (n : Nat) (cd fl : Int32) (t : Tr) (ht : t.1 + 1 ≤ 2147483648) (a k : Int32) (sz : Nat) : Met l yX10_rule [.code yX10_rule cX10_rule 3 none] ({ frames := 0, cells := 0, slots := 0, locals := 0 }) (PX D ca sa lo sz [.ref (ya 0), .int a, .int k] (wm ca ya F n cd fl t)) (QV D (wm ca ya F n cd fl (tb a k t)) (va_A (wm ca ya F n cd fl t) sz)) 0 0 (va_A (wm ca ya F n cd fl t) sz) := by
  refine mk_met (fun A => QV D (wm ca ya F n cd fl (tb a k t)) A) (by decide) (Nat.le_of_ble_eq_true rfl) ?_
  intro p e s m below meth c A ls C hrt hlocks hnm hsz hP hD hS hl
  obtain ⟨hx, hb, hml, hown, hk, hz, hlo, hA, hAl⟩ := id C
  have hK : va_K D cls (tyl ca) s := hk.2.1
  have hl : lv_has ls 3 [(0, .ref (ya 0)), (1, .int a), (2, .int k)] := hl
  refine lv_aload_n hx hb dX10_rule_0 rfl (lv_at hl 0 rfl) ?_
  refine va_get (D := D) (C := RX10) (T := TX10) (N := 15) hx hb (uc_10 hk.1 _) (fun _ h9 => h9) hown hK hP 0 rfl rfl 10 (by decide) (fl_X10_35 hk.1 _) (fun _ h9 => h9) rfl dX10_rule_1 ?_
  refine lv_aload_n hx hb dX10_rule_4 rfl (lv_at hl 0 rfl) ?_
  refine va_get (D := D) (C := RX10) (T := TX10) (N := 15) hx hb (uc_10 hk.1 _) (fun _ h9 => h9) hown hK hP 0 rfl rfl 11 (by decide) (fl_X10_49 hk.1 _) (fun _ h9 => h9) rfl dX10_rule_5 ?_
  refine lv_sipush (v := 200) hx hb dX10_rule_8 (by decide) ?_
  refine lv_irem hx hb dX10_rule_11 (by decide) ?_
  rw [r200 (by omega)]
  refine lv_bipush (v := 10) hx hb dX10_rule_12 (by decide) ?_
  refine lv_iload_n hx hb dX10_rule_14 rfl (lv_at hl 1 rfl) ?_
  refine lv_imul hx hb dX10_rule_15 ?_
  refine lv_iload_n hx hb dX10_rule_16 rfl (lv_at hl 2 rfl) ?_
  refine lv_iadd hx hb dX10_rule_17 ?_
  refine va_iast hx hb hK hP hD hS 9 0 rfl rfl (vp_in_nI (Nat.mod_lt _ (by decide)) (by decide)) dX10_rule_18 (fun H locs hP hD hS => ?_)
  rw [nI_clamp (by omega)] at hP hD
  have hP : va_P D cls (wm ca ya F n cd fl (t.1, upd t.2.1 (t.1 % 200) (10 * a + k), t.2.2)) H := hP
  have hD : va_D A (wm ca ya F n cd fl (t.1, upd t.2.1 (t.1 % 200) (10 * a + k), t.2.2)) := hD
  refine lv_aload_n hx hb dX10_rule_19 rfl (lv_at hl 0 rfl) ?_
  refine lv_dup hx hb dX10_rule_20 rfl ?_
  refine va_get (D := D) (C := RX10) (T := TX10) (N := 15) hx hb (uc_10 hk.1 _) (fun _ h9 => h9) hown hK hP 0 rfl rfl 11 (by decide) (fl_X10_49 hk.1 _) (fun _ h9 => h9) rfl dX10_rule_21 ?_
  refine lv_iconst (v := 1) hx hb dX10_rule_24 (by decide) ?_
  refine lv_iadd hx hb dX10_rule_25 ?_
  refine va_put (D := D) (ty := .int) (C := RX10) (T := TX10) (N := 15) hx hb (uc_10 hk.1 _) (fun _ h9 => h9) tyX10 tyX10_ok nmX10 hown hK hP hD hS 0 rfl rfl 11 (by decide) (fl_X10_49 hk.1 _) (fun _ h9 => h9) rfl (by decide +kernel) rfl rfl (Nat.le_of_ble_eq_true rfl) dX10_rule_26 (fun H locs hP hD hS => ?_)
  have hP : va_P D cls (wm ca ya F n cd fl (tb a k t)) H := by
    unfold wm wa tb; dsimp only; rw [← nI_1]; exact hP
  exact rv C hrt hlocks hP hS dX10_rule_29

set_option maxHeartbeats 4000000 in
set_option maxRecDepth 100000 in
theorem n_flat (l : Launch) (D : va_G) (ca : Nat → ClassId) (sa : Nat → Nat) (lo : Nat) (ya : Nat → Nat) (F : Nat → Pd) (n : Nat) (cd fl : Int32) (t : Tr) (sz : Nat) : Met l yX10_flat [.code yX10_flat cX10_flat 1 none] ({ frames := 0, cells := 0, slots := 0, locals := 0 }) (PX D ca sa lo sz [.ref (ya 0)] (wm ca ya F n cd fl t)) (QV D (wm ca ya F n cd 1 (tfl t)) (va_A (wm ca ya F n cd fl t) sz)) 0 0 (va_A (wm ca ya F n cd fl t) sz) := by
  refine mk_met (fun A => QV D (wm ca ya F n cd 1 (tfl t)) A) (by decide) (Nat.le_of_ble_eq_true rfl) ?_
  intro p e s m below meth c A ls C hrt hlocks hnm hsz hP hD hS hl
  obtain ⟨hx, hb, hml, hown, hk, hz, hlo, hA, hAl⟩ := id C
  have hK : va_K D cls (tyl ca) s := hk.2.1
  have hl : lv_has ls 1 [(0, .ref (ya 0))] := hl
  refine lv_aload_n hx hb dX10_flat_0 rfl (lv_at hl 0 rfl) ?_
  refine lv_iconst (v := 1) hx hb dX10_flat_1 (by decide) ?_
  refine va_put (D := D) (v := .int 1) (ty := .int) (C := RX10) (T := TX10) (N := 15) hx hb (uc_10 hk.1 _) (fun _ h9 => h9) tyX10 tyX10_ok nmX10 hown hK hP hD hS 0 rfl rfl 14 (by decide) (fl_X10_52 hk.1 _) (fun _ h9 => h9) rfl (by decide +kernel) rfl rfl (Nat.le_of_ble_eq_true rfl) dX10_flat_2 (fun H locs hP hD hS => ?_)
  have hP : va_P D cls (wm ca ya F n cd 1 t) H := hP
  have hD : va_D A (wm ca ya F n cd 1 t) := hD
  refine lv_aload_n hx hb dX10_flat_5 rfl (lv_at hl 0 rfl) ?_
  refine lv_dup hx hb dX10_flat_6 rfl ?_
  refine va_get (D := D) (C := RX10) (T := TX10) (N := 15) hx hb (uc_10 hk.1 _) (fun _ h9 => h9) hown hK hP 0 rfl rfl 12 (by decide) (fl_X10_55 hk.1 _) (fun _ h9 => h9) rfl dX10_flat_7 ?_
  refine lv_iconst (v := 1) hx hb dX10_flat_10 (by decide) ?_
  refine lv_iadd hx hb dX10_flat_11 ?_
  refine va_put (D := D) (v := .int (t.2.2.1 + 1)) (ty := .int) (C := RX10) (T := TX10) (N := 15) hx hb (uc_10 hk.1 _) (fun _ h9 => h9) tyX10 tyX10_ok nmX10 hown hK hP hD hS 0 rfl rfl 12 (by decide) (fl_X10_55 hk.1 _) (fun _ h9 => h9) rfl (by decide +kernel) rfl rfl (Nat.le_of_ble_eq_true rfl) dX10_flat_12 (fun H locs hP hD hS => ?_)
  have hP : va_P D cls (wm ca ya F n cd 1 (tfl t)) H := hP
  have hD : va_D A (wm ca ya F n cd 1 (tfl t)) := hD
  exact rv C hrt hlocks hP hS dX10_flat_15

def pra (d : Dv) (t : Tr) : Bool × Dv × Tr := if d.1 = 0 then (false, d, tfl (tb 0 2 t)) else (true, (d.1 - 1, d.2), tb 0 2 t)
def prf (fl : Int32) (b : Bool) : Int32 := if b then fl else 1
theorem nI_z {c : Nat} (h : c ≤ 2) : nI c = 0 ↔ c = 0 := by
  rcases (by omega : c = 0 ∨ c = 1 ∨ c = 2) with rfl | rfl | rfl <;> decide +kernel
theorem pwR_c (v : Int32) (d : Dv) (t : Tr) : (pwR v d t).1 ≤ 2 := by
  unfold pwR; split
  · exact (by decide : 1 ≤ 2)
  · exact Nat.zero_le _
theorem pw_c (kd : Nat) (v : Int32) (d : Dv) (t : Tr) : (pw kd v d t).1 ≤ 2 := by
  unfold pw; split
  · have h := pwR_c v d (tb 0 5 t)
    unfold pwB pwBe; split
    · split
      · exact Nat.le_refl 2
      · exact Nat.zero_le _
    · exact h
  · split
    · exact pwR_c v d t
    · split <;> exact Nat.zero_le _

set_option maxHeartbeats 4000000 in
set_option maxRecDepth 100000 in
theorem n_radio (l : Launch) (D : va_G) (ca : Nat → ClassId) (sa : Nat → Nat) (lo : Nat) (ya : Nat → Nat) (F : Nat → Pd) (n : Nat) (cd fl : Int32) (t : Tr) (ht : t.1 + 1 ≤ 2147483648) (i : Nat) (hi : i < 20) (kd : Nat) (hkd : kd < 8) (zn lm : Int32) (d : Dv) (sz : Nat) : Met l yX10_radio [.code yX10_radio cX10_radio 2 (some .boolean)] ({ frames := 1, cells := 0, slots := 0, locals := 30 }) (PX D ca sa lo sz [.ref (ya 0), .int (nI i)] (wm ca ya (va_up F i (kd, zn, lm, d)) n cd fl t)) (QI D (bi (pra d t).1) (wm ca ya (va_up F i (kd, zn, lm, (pra d t).2.1)) n cd (prf fl (pra d t).1) (pra d t).2.2) (va_A (wm ca ya (va_up F i (kd, zn, lm, d)) n cd fl t) sz)) 0 0 (va_A (wm ca ya (va_up F i (kd, zn, lm, d)) n cd fl t) sz) := by
  generalize hr9 : pra d t = r
  obtain ⟨ch, lv, cn, dr, la⟩ := d
  refine mk_met (fun A => QI D (bi r.1) (wm ca ya (va_up F i (kd, zn, lm, r.2.1)) n cd (prf fl r.1) r.2.2) A) (by decide) (Nat.le_of_ble_eq_true rfl) ?_
  intro p e s m below meth c A ls C hrt hlocks hnm hsz hP hD hS hl
  obtain ⟨hx, hb, hml, hown, hk, hz, hlo, hA, hAl⟩ := id C
  have hK : va_K D cls (tyl ca) s := hk.2.1
  have hl : lv_has ls 2 [(0, .ref (ya 0)), (1, .int (nI i))] := hl
  refine lv_aload_n hx hb dX10_radio_0 rfl (lv_at hl 0 rfl) ?_
  refine lv_iconst (v := 0) hx hb dX10_radio_1 (by decide) ?_
  refine lv_iconst (v := 2) hx hb dX10_radio_2 (by decide) ?_
  refine k_mv (n9 := 2) (As := [.int 0, .int 2]) C (n_rule l D ca sa lo ya (va_up F i (kd, zn, lm, ch, lv, cn, dr, la)) n cd fl t (by first | omega | (simp only [tb_n]; omega)) 0 2 _) (fun U A9 h => co_X10_rule h A9) (in_X10 hk.1 _) (ml_X10_58 hk.1 _) (im_X10_rule hk.1 _) (se_X10_X10_rule hk.1 _) (by decide +kernel) ⟨⟨rfl, rfl⟩, by decide, by decide⟩ hP hD hS rfl rfl rfl hl.1 rfl (Nat.le_of_ble_eq_true rfl) dX10_radio_3 ⟨by decide, by decide⟩ (fun H locs hP hD hS => ?_)
  refine lv_aload_n hx hb dX10_radio_6 rfl (lv_at hl 0 rfl) ?_
  refine va_get (D := D) (C := RX10) (T := TX10) (N := 15) hx hb (uc_10 hk.1 _) (fun _ h9 => h9) hown hK hP 0 rfl rfl 5 (by decide) (fl_X10_19 hk.1 _) (fun _ h9 => h9) rfl dX10_radio_7 ?_
  refine lv_iload_n hx hb dX10_radio_10 rfl (lv_at hl 1 rfl) ?_
  refine ld_i (x := ch) C hP 4 rfl hi (congrArg (fun q : Pd => q.2.2.2.1) (va_up_self F i _)) dX10_radio_11 ?_
  refine lv_if_ne (tgt := 21) hx hb dX10_radio_12 (by decide) (fun c_1 => ?_) (fun c_1 => ?_)
  · have hr9 : r = (true, (ch - 1, lv, cn, dr, la), tb 0 2 t) := by rw [← hr9]; exact if_neg c_1
    subst hr9
    refine lv_aload_n hx hb dX10_radio_21 rfl (lv_at hl 0 rfl) ?_
    refine va_get (D := D) (C := RX10) (T := TX10) (N := 15) hx hb (uc_10 hk.1 _) (fun _ h9 => h9) hown hK hP 0 rfl rfl 5 (by decide) (fl_X10_19 hk.1 _) (fun _ h9 => h9) rfl dX10_radio_22 ?_
    refine lv_iload_n hx hb dX10_radio_25 rfl (lv_at hl 1 rfl) ?_
    refine lv_dup2_11 hx hb dX10_radio_26 rfl rfl ?_
    refine ld_i (x := ch) C hP 4 rfl hi (congrArg (fun q : Pd => q.2.2.2.1) (va_up_self F i _)) dX10_radio_27 ?_
    refine lv_iconst (v := 1) hx hb dX10_radio_28 (by decide) ?_
    refine lv_isub hx hb dX10_radio_29 ?_
    refine st_3 (x9 := ch - 1) C hP hD hS hi dX10_radio_30 (fun H locs hP hD hS => ?_)
    have hP : va_P D cls (wm ca ya (va_up F i (kd, zn, lm, (ch - 1), lv, cn, dr, la)) n cd fl (tb 0 2 t)) H := hP
    have hD : va_D A (wm ca ya (va_up F i (kd, zn, lm, (ch - 1), lv, cn, dr, la)) n cd fl (tb 0 2 t)) := hD
    refine lv_iconst (v := 1) hx hb dX10_radio_31 (by decide) ?_
    exact rz C hrt hlocks rfl hP hS dX10_radio_32
  · have hr9 : r = (false, (ch, lv, cn, dr, la), tfl (tb 0 2 t)) := by rw [← hr9]; exact if_pos c_1
    subst hr9
    refine lv_aload_n hx hb dX10_radio_15 rfl (lv_at hl 0 rfl) ?_
    refine k_mv (n9 := 0) (As := []) C (n_flat l D ca sa lo ya (va_up F i (kd, zn, lm, ch, lv, cn, dr, la)) n cd fl (tb 0 2 t) _) (fun U A9 h => co_X10_flat h A9) (in_X10 hk.1 _) (ml_X10_62 hk.1 _) (im_X10_flat hk.1 _) (se_X10_X10_flat hk.1 _) (by decide +kernel) ⟨⟨rfl, rfl⟩, by decide, by decide⟩ hP hD hS rfl rfl rfl hl.1 rfl (Nat.le_of_ble_eq_true rfl) dX10_radio_16 ⟨by decide, by decide⟩ (fun H locs hP hD hS => ?_)
    refine lv_iconst (v := 0) hx hb dX10_radio_19 (by decide) ?_
    exact rz C hrt hlocks rfl hP hS dX10_radio_20

set_option maxHeartbeats 4000000 in
set_option maxRecDepth 100000 in
theorem n_weighed (l : Launch) (D : va_G) (ca : Nat → ClassId) (sa : Nat → Nat) (lo : Nat) (ya : Nat → Nat) (F : Nat → Pd) (n : Nat) (cd fl : Int32) (t : Tr) (ht : t.1 + 3 ≤ 2147483648) (i : Nat) (hi : i < 20) (kd : Nat) (hkd : kd < 8) (zn lm : Int32) (d : Dv) (v : Int32) (sz : Nat) : Met l yX10_weighed [.code yX10_weighed cX10_weighed 4 (some .int)] ({ frames := 2, cells := 0, slots := 0, locals := 60 }) (PX D ca sa lo sz [.ref (ya 0), .int (nI i), .int v] (wm ca ya (va_up F i (kd, zn, lm, d)) n cd fl t)) (QI D (pw kd v d t).2.1 (wm ca ya (va_up F i (kd, zn, lm, (pw kd v d t).2.2.1)) n cd (nI (pw kd v d t).1) (pw kd v d t).2.2.2) (va_A (wm ca ya (va_up F i (kd, zn, lm, d)) n cd fl t) sz)) 0 0 (va_A (wm ca ya (va_up F i (kd, zn, lm, d)) n cd fl t) sz) := by
  generalize hr9 : pw kd v d t = r
  obtain ⟨ch, lv, cn, dr, la⟩ := d
  refine mk_met (fun A => QI D r.2.1 (wm ca ya (va_up F i (kd, zn, lm, r.2.2.1)) n cd (nI r.1) r.2.2.2) A) (by decide) (Nat.le_of_ble_eq_true rfl) ?_
  intro p e s m below meth c A ls C hrt hlocks hnm hsz hP hD hS hl
  obtain ⟨hx, hb, hml, hown, hk, hz, hlo, hA, hAl⟩ := id C
  have hK : va_K D cls (tyl ca) s := hk.2.1
  have hl : lv_has ls 4 [(0, .ref (ya 0)), (1, .int (nI i)), (2, .int v)] := hl
  rcases k8 hkd with rfl | rfl | rfl | rfl | rfl | rfl | rfl | rfl
  · refine lv_aload_n hx hb dX10_weighed_0 rfl (lv_at hl 0 rfl) ?_
    refine va_get (D := D) (C := RX10) (T := TX10) (N := 15) hx hb (uc_10 hk.1 _) (fun _ h9 => h9) hown hK hP 0 rfl rfl 2 (by decide) (fl_X10_7 hk.1 _) (fun _ h9 => h9) rfl dX10_weighed_1 ?_
    refine lv_iload_n hx hb dX10_weighed_4 rfl (lv_at hl 1 rfl) ?_
    refine ld_i (x := nI 0) C hP 1 rfl hi (congrArg (fun q : Pd => nI q.1) (va_up_self F i _)) dX10_weighed_5 ?_
    refine lv_istore_n (lv' := [(3, .int (nI 0)), (0, .ref (ya 0)), (1, .int (nI i)), (2, .int v)]) hx hb dX10_weighed_6 rfl hl (by decide) rfl (fun ls hl => ?_)
    refine lv_aload_n hx hb dX10_weighed_7 rfl (lv_at hl 1 rfl) ?_
    refine lv_iconst (v := 0) hx hb dX10_weighed_8 (by decide) ?_
    refine va_put (D := D) (v := .int 0) (ty := .int) (C := RX10) (T := TX10) (N := 15) hx hb (uc_10 hk.1 _) (fun _ h9 => h9) tyX10 tyX10_ok nmX10 hown hK hP hD hS 0 rfl rfl 14 (by decide) (fl_X10_52 hk.1 _) (fun _ h9 => h9) rfl (by decide +kernel) rfl rfl (Nat.le_of_ble_eq_true rfl) dX10_weighed_9 (fun H locs hP hD hS => ?_)
    have hP : va_P D cls (wm ca ya (va_up F i (0, zn, lm, ch, lv, cn, dr, la)) n cd 0 t) H := hP
    have hD : va_D A (wm ca ya (va_up F i (0, zn, lm, ch, lv, cn, dr, la)) n cd 0 t) := hD
    refine lv_iload_n hx hb dX10_weighed_12 rfl (lv_at hl 0 rfl) ?_
    refine lv_iconst (v := 5) hx hb dX10_weighed_13 (by decide) ?_
    refine lv_icmp_ne (x := nI 0) (y := 5) (tgt := 23) hx hb dX10_weighed_14 (by decide) (fun _ => ?_) (fun h9 => absurd h9 (by decide +kernel))
    refine lv_iload_n hx hb dX10_weighed_23 rfl (lv_at hl 0 rfl) ?_
    refine lv_iconst (v := 2) hx hb dX10_weighed_24 (by decide) ?_
    refine lv_icmp_eq (x := nI 0) (y := 2) (tgt := 38) hx hb dX10_weighed_25 (by decide) (fun h9 => absurd h9 (by decide +kernel)) (fun _ => ?_)
    refine lv_iload_n hx hb dX10_weighed_28 rfl (lv_at hl 0 rfl) ?_
    refine lv_iconst (v := 4) hx hb dX10_weighed_29 (by decide) ?_
    refine lv_icmp_eq (x := nI 0) (y := 4) (tgt := 38) hx hb dX10_weighed_30 (by decide) (fun h9 => absurd h9 (by decide +kernel)) (fun _ => ?_)
    refine lv_iload_n hx hb dX10_weighed_33 rfl (lv_at hl 0 rfl) ?_
    refine lv_iconst (v := 5) hx hb dX10_weighed_34 (by decide) ?_
    refine lv_icmp_ne (x := nI 0) (y := 5) (tgt := 48) hx hb dX10_weighed_35 (by decide) (fun _ => ?_) (fun h9 => absurd h9 (by decide +kernel))
    refine lv_iload_n hx hb dX10_weighed_48 rfl (lv_at hl 0 rfl) ?_
    refine lv_iconst (v := 3) hx hb dX10_weighed_49 (by decide) ?_
    refine lv_icmp_eq (x := nI 0) (y := 3) (tgt := 59) hx hb dX10_weighed_50 (by decide) (fun h9 => absurd h9 (by decide +kernel)) (fun _ => ?_)
    refine lv_iload_n hx hb dX10_weighed_53 rfl (lv_at hl 0 rfl) ?_
    refine lv_bipush (v := 7) hx hb dX10_weighed_54 (by decide) ?_
    refine lv_icmp_ne (x := nI 0) (y := 7) (tgt := 65) hx hb dX10_weighed_56 (by decide) (fun _ => ?_) (fun h9 => absurd h9 (by decide +kernel))
    refine lv_aload_n hx hb dX10_weighed_65 rfl (lv_at hl 1 rfl) ?_
    refine lv_iconst (v := 0) hx hb dX10_weighed_66 (by decide) ?_
    refine lv_iconst (v := 0) hx hb dX10_weighed_67 (by decide) ?_
    refine k_mv (n9 := 2) (As := [.int 0, .int 0]) C (n_rule l D ca sa lo ya (va_up F i (0, zn, lm, ch, lv, cn, dr, la)) n cd 0 t (by first | omega | (simp only [tb_n]; omega)) 0 0 _) (fun U A9 h => co_X10_rule h A9) (in_X10 hk.1 _) (ml_X10_58 hk.1 _) (im_X10_rule hk.1 _) (se_X10_X10_rule hk.1 _) (by decide +kernel) ⟨⟨rfl, rfl⟩, by decide, by decide⟩ hP hD hS rfl rfl rfl hl.1 rfl (Nat.le_of_ble_eq_true rfl) dX10_weighed_68 ⟨by decide, by decide⟩ (fun H locs hP hD hS => ?_)
    refine lv_iload_n hx hb dX10_weighed_71 rfl (lv_at hl 0 rfl) ?_
    refine lv_iconst (v := 3) hx hb dX10_weighed_72 (by decide) ?_
    refine lv_icmp_eq (x := nI 0) (y := 3) (tgt := 82) hx hb dX10_weighed_73 (by decide) (fun h9 => absurd h9 (by decide +kernel)) (fun _ => ?_)
    refine lv_iload_n hx hb dX10_weighed_76 rfl (lv_at hl 0 rfl) ?_
    refine lv_bipush (v := 7) hx hb dX10_weighed_77 (by decide) ?_
    refine lv_icmp_ne (x := nI 0) (y := 7) (tgt := 91) hx hb dX10_weighed_79 (by decide) (fun _ => ?_) (fun h9 => absurd h9 (by decide +kernel))
    refine lv_iload_n hx hb dX10_weighed_91 rfl (lv_at hl 0 rfl) ?_
    refine lv_iconst (v := 5) hx hb dX10_weighed_92 (by decide) ?_
    refine lv_icmp_eq (x := nI 0) (y := 5) (tgt := 98) hx hb dX10_weighed_93 (by decide) (fun h9 => absurd h9 (by decide +kernel)) (fun _ => ?_)
    refine lv_iload_n hx hb dX10_weighed_96 rfl (lv_at hl 3 rfl) ?_
    have hr9 : r = (0, v, (ch, lv, cn, dr, la), (tb 0 0 t)) := by rw [← hr9, epw_0]; rfl
    subst hr9
    exact ri C hrt hlocks rfl hP hS dX10_weighed_97
  · refine lv_aload_n hx hb dX10_weighed_0 rfl (lv_at hl 0 rfl) ?_
    refine va_get (D := D) (C := RX10) (T := TX10) (N := 15) hx hb (uc_10 hk.1 _) (fun _ h9 => h9) hown hK hP 0 rfl rfl 2 (by decide) (fl_X10_7 hk.1 _) (fun _ h9 => h9) rfl dX10_weighed_1 ?_
    refine lv_iload_n hx hb dX10_weighed_4 rfl (lv_at hl 1 rfl) ?_
    refine ld_i (x := nI 1) C hP 1 rfl hi (congrArg (fun q : Pd => nI q.1) (va_up_self F i _)) dX10_weighed_5 ?_
    refine lv_istore_n (lv' := [(3, .int (nI 1)), (0, .ref (ya 0)), (1, .int (nI i)), (2, .int v)]) hx hb dX10_weighed_6 rfl hl (by decide) rfl (fun ls hl => ?_)
    refine lv_aload_n hx hb dX10_weighed_7 rfl (lv_at hl 1 rfl) ?_
    refine lv_iconst (v := 0) hx hb dX10_weighed_8 (by decide) ?_
    refine va_put (D := D) (v := .int 0) (ty := .int) (C := RX10) (T := TX10) (N := 15) hx hb (uc_10 hk.1 _) (fun _ h9 => h9) tyX10 tyX10_ok nmX10 hown hK hP hD hS 0 rfl rfl 14 (by decide) (fl_X10_52 hk.1 _) (fun _ h9 => h9) rfl (by decide +kernel) rfl rfl (Nat.le_of_ble_eq_true rfl) dX10_weighed_9 (fun H locs hP hD hS => ?_)
    have hP : va_P D cls (wm ca ya (va_up F i (1, zn, lm, ch, lv, cn, dr, la)) n cd 0 t) H := hP
    have hD : va_D A (wm ca ya (va_up F i (1, zn, lm, ch, lv, cn, dr, la)) n cd 0 t) := hD
    refine lv_iload_n hx hb dX10_weighed_12 rfl (lv_at hl 0 rfl) ?_
    refine lv_iconst (v := 5) hx hb dX10_weighed_13 (by decide) ?_
    refine lv_icmp_ne (x := nI 1) (y := 5) (tgt := 23) hx hb dX10_weighed_14 (by decide) (fun _ => ?_) (fun h9 => absurd h9 (by decide +kernel))
    refine lv_iload_n hx hb dX10_weighed_23 rfl (lv_at hl 0 rfl) ?_
    refine lv_iconst (v := 2) hx hb dX10_weighed_24 (by decide) ?_
    refine lv_icmp_eq (x := nI 1) (y := 2) (tgt := 38) hx hb dX10_weighed_25 (by decide) (fun h9 => absurd h9 (by decide +kernel)) (fun _ => ?_)
    refine lv_iload_n hx hb dX10_weighed_28 rfl (lv_at hl 0 rfl) ?_
    refine lv_iconst (v := 4) hx hb dX10_weighed_29 (by decide) ?_
    refine lv_icmp_eq (x := nI 1) (y := 4) (tgt := 38) hx hb dX10_weighed_30 (by decide) (fun h9 => absurd h9 (by decide +kernel)) (fun _ => ?_)
    refine lv_iload_n hx hb dX10_weighed_33 rfl (lv_at hl 0 rfl) ?_
    refine lv_iconst (v := 5) hx hb dX10_weighed_34 (by decide) ?_
    refine lv_icmp_ne (x := nI 1) (y := 5) (tgt := 48) hx hb dX10_weighed_35 (by decide) (fun _ => ?_) (fun h9 => absurd h9 (by decide +kernel))
    refine lv_iload_n hx hb dX10_weighed_48 rfl (lv_at hl 0 rfl) ?_
    refine lv_iconst (v := 3) hx hb dX10_weighed_49 (by decide) ?_
    refine lv_icmp_eq (x := nI 1) (y := 3) (tgt := 59) hx hb dX10_weighed_50 (by decide) (fun h9 => absurd h9 (by decide +kernel)) (fun _ => ?_)
    refine lv_iload_n hx hb dX10_weighed_53 rfl (lv_at hl 0 rfl) ?_
    refine lv_bipush (v := 7) hx hb dX10_weighed_54 (by decide) ?_
    refine lv_icmp_ne (x := nI 1) (y := 7) (tgt := 65) hx hb dX10_weighed_56 (by decide) (fun _ => ?_) (fun h9 => absurd h9 (by decide +kernel))
    refine lv_aload_n hx hb dX10_weighed_65 rfl (lv_at hl 1 rfl) ?_
    refine lv_iconst (v := 0) hx hb dX10_weighed_66 (by decide) ?_
    refine lv_iconst (v := 0) hx hb dX10_weighed_67 (by decide) ?_
    refine k_mv (n9 := 2) (As := [.int 0, .int 0]) C (n_rule l D ca sa lo ya (va_up F i (1, zn, lm, ch, lv, cn, dr, la)) n cd 0 t (by first | omega | (simp only [tb_n]; omega)) 0 0 _) (fun U A9 h => co_X10_rule h A9) (in_X10 hk.1 _) (ml_X10_58 hk.1 _) (im_X10_rule hk.1 _) (se_X10_X10_rule hk.1 _) (by decide +kernel) ⟨⟨rfl, rfl⟩, by decide, by decide⟩ hP hD hS rfl rfl rfl hl.1 rfl (Nat.le_of_ble_eq_true rfl) dX10_weighed_68 ⟨by decide, by decide⟩ (fun H locs hP hD hS => ?_)
    refine lv_iload_n hx hb dX10_weighed_71 rfl (lv_at hl 0 rfl) ?_
    refine lv_iconst (v := 3) hx hb dX10_weighed_72 (by decide) ?_
    refine lv_icmp_eq (x := nI 1) (y := 3) (tgt := 82) hx hb dX10_weighed_73 (by decide) (fun h9 => absurd h9 (by decide +kernel)) (fun _ => ?_)
    refine lv_iload_n hx hb dX10_weighed_76 rfl (lv_at hl 0 rfl) ?_
    refine lv_bipush (v := 7) hx hb dX10_weighed_77 (by decide) ?_
    refine lv_icmp_ne (x := nI 1) (y := 7) (tgt := 91) hx hb dX10_weighed_79 (by decide) (fun _ => ?_) (fun h9 => absurd h9 (by decide +kernel))
    refine lv_iload_n hx hb dX10_weighed_91 rfl (lv_at hl 0 rfl) ?_
    refine lv_iconst (v := 5) hx hb dX10_weighed_92 (by decide) ?_
    refine lv_icmp_eq (x := nI 1) (y := 5) (tgt := 98) hx hb dX10_weighed_93 (by decide) (fun h9 => absurd h9 (by decide +kernel)) (fun _ => ?_)
    refine lv_iload_n hx hb dX10_weighed_96 rfl (lv_at hl 3 rfl) ?_
    have hr9 : r = (0, v, (ch, lv, cn, dr, la), (tb 0 0 t)) := by rw [← hr9, epw_1]; rfl
    subst hr9
    exact ri C hrt hlocks rfl hP hS dX10_weighed_97
  · refine lv_aload_n hx hb dX10_weighed_0 rfl (lv_at hl 0 rfl) ?_
    refine va_get (D := D) (C := RX10) (T := TX10) (N := 15) hx hb (uc_10 hk.1 _) (fun _ h9 => h9) hown hK hP 0 rfl rfl 2 (by decide) (fl_X10_7 hk.1 _) (fun _ h9 => h9) rfl dX10_weighed_1 ?_
    refine lv_iload_n hx hb dX10_weighed_4 rfl (lv_at hl 1 rfl) ?_
    refine ld_i (x := nI 2) C hP 1 rfl hi (congrArg (fun q : Pd => nI q.1) (va_up_self F i _)) dX10_weighed_5 ?_
    refine lv_istore_n (lv' := [(3, .int (nI 2)), (0, .ref (ya 0)), (1, .int (nI i)), (2, .int v)]) hx hb dX10_weighed_6 rfl hl (by decide) rfl (fun ls hl => ?_)
    refine lv_aload_n hx hb dX10_weighed_7 rfl (lv_at hl 1 rfl) ?_
    refine lv_iconst (v := 0) hx hb dX10_weighed_8 (by decide) ?_
    refine va_put (D := D) (v := .int 0) (ty := .int) (C := RX10) (T := TX10) (N := 15) hx hb (uc_10 hk.1 _) (fun _ h9 => h9) tyX10 tyX10_ok nmX10 hown hK hP hD hS 0 rfl rfl 14 (by decide) (fl_X10_52 hk.1 _) (fun _ h9 => h9) rfl (by decide +kernel) rfl rfl (Nat.le_of_ble_eq_true rfl) dX10_weighed_9 (fun H locs hP hD hS => ?_)
    have hP : va_P D cls (wm ca ya (va_up F i (2, zn, lm, ch, lv, cn, dr, la)) n cd 0 t) H := hP
    have hD : va_D A (wm ca ya (va_up F i (2, zn, lm, ch, lv, cn, dr, la)) n cd 0 t) := hD
    refine lv_iload_n hx hb dX10_weighed_12 rfl (lv_at hl 0 rfl) ?_
    refine lv_iconst (v := 5) hx hb dX10_weighed_13 (by decide) ?_
    refine lv_icmp_ne (x := nI 2) (y := 5) (tgt := 23) hx hb dX10_weighed_14 (by decide) (fun _ => ?_) (fun h9 => absurd h9 (by decide +kernel))
    refine lv_iload_n hx hb dX10_weighed_23 rfl (lv_at hl 0 rfl) ?_
    refine lv_iconst (v := 2) hx hb dX10_weighed_24 (by decide) ?_
    refine lv_icmp_eq (x := nI 2) (y := 2) (tgt := 38) hx hb dX10_weighed_25 (by decide) (fun _ => ?_) (fun h9 => absurd h9 (by decide +kernel))
    refine lv_aload_n hx hb dX10_weighed_38 rfl (lv_at hl 1 rfl) ?_
    refine lv_iload_n hx hb dX10_weighed_39 rfl (lv_at hl 2 rfl) ?_
    refine k_mi (n9 := 1) (As := [.int (nI i)]) C (n_radio l D ca sa lo ya F n cd 0 t (by first | omega | (simp only [tb_n]; omega)) i hi 2 (by decide) zn lm (ch, lv, cn, dr, la) _) (fun U A9 h => co_X10_radio h A9) (in_X10 hk.1 _) (ml_X10_65 hk.1 _) (im_X10_radio hk.1 _) (se_X10_X10_radio hk.1 _) (by decide +kernel) ⟨⟨rfl, rfl⟩, by decide, by decide⟩ hP hD hS rfl rfl rfl hl.1 rfl (Nat.le_of_ble_eq_true rfl) dX10_weighed_40 ⟨by decide, by decide⟩ (fun H locs hP hD hS => ?_)
    by_cases c_ch : ch = 0
    · have e9 : pra (ch, lv, cn, dr, la) t = (false, (ch, lv, cn, dr, la), tfl (tb 0 2 t)) := if_pos c_ch
      rw [e9] at hP hD ⊢
      have hP : va_P D cls (wm ca ya (va_up F i (2, zn, lm, ch, lv, cn, dr, la)) n cd 1 (tfl (tb 0 2 t))) H := hP
      have hD : va_D A (wm ca ya (va_up F i (2, zn, lm, ch, lv, cn, dr, la)) n cd 1 (tfl (tb 0 2 t))) := hD
      refine lv_if_ne (x := bi false) (tgt := 48) hx hb dX10_weighed_43 (by decide) (fun h9 => absurd h9 (by decide +kernel)) (fun _ => ?_)
      refine lv_iconst (v := 0) hx hb dX10_weighed_46 (by decide) ?_
      have hr9 : r = (1, 0, (ch, lv, cn, dr, la), (tfl (tb 0 2 t))) := by rw [← hr9, epw_2, pwR, if_pos c_ch]
      subst hr9
      exact ri C hrt hlocks rfl hP hS dX10_weighed_47
    · have e9 : pra (ch, lv, cn, dr, la) t = (true, (ch - 1, lv, cn, dr, la), tb 0 2 t) := if_neg c_ch
      rw [e9] at hP hD ⊢
      have hP : va_P D cls (wm ca ya (va_up F i (2, zn, lm, (ch - 1), lv, cn, dr, la)) n cd 0 (tb 0 2 t)) H := hP
      have hD : va_D A (wm ca ya (va_up F i (2, zn, lm, (ch - 1), lv, cn, dr, la)) n cd 0 (tb 0 2 t)) := hD
      refine lv_if_ne (x := bi true) (tgt := 48) hx hb dX10_weighed_43 (by decide) (fun _ => ?_) (fun h9 => absurd h9 (by decide +kernel))
      refine lv_iload_n hx hb dX10_weighed_48 rfl (lv_at hl 0 rfl) ?_
      refine lv_iconst (v := 3) hx hb dX10_weighed_49 (by decide) ?_
      refine lv_icmp_eq (x := nI 2) (y := 3) (tgt := 59) hx hb dX10_weighed_50 (by decide) (fun h9 => absurd h9 (by decide +kernel)) (fun _ => ?_)
      refine lv_iload_n hx hb dX10_weighed_53 rfl (lv_at hl 0 rfl) ?_
      refine lv_bipush (v := 7) hx hb dX10_weighed_54 (by decide) ?_
      refine lv_icmp_ne (x := nI 2) (y := 7) (tgt := 65) hx hb dX10_weighed_56 (by decide) (fun _ => ?_) (fun h9 => absurd h9 (by decide +kernel))
      refine lv_aload_n hx hb dX10_weighed_65 rfl (lv_at hl 1 rfl) ?_
      refine lv_iconst (v := 0) hx hb dX10_weighed_66 (by decide) ?_
      refine lv_iconst (v := 0) hx hb dX10_weighed_67 (by decide) ?_
      refine k_mv (n9 := 2) (As := [.int 0, .int 0]) C (n_rule l D ca sa lo ya (va_up F i (2, zn, lm, (ch - 1), lv, cn, dr, la)) n cd 0 (tb 0 2 t) (by first | omega | (simp only [tb_n]; omega)) 0 0 _) (fun U A9 h => co_X10_rule h A9) (in_X10 hk.1 _) (ml_X10_58 hk.1 _) (im_X10_rule hk.1 _) (se_X10_X10_rule hk.1 _) (by decide +kernel) ⟨⟨rfl, rfl⟩, by decide, by decide⟩ hP hD hS rfl rfl rfl hl.1 rfl (Nat.le_of_ble_eq_true rfl) dX10_weighed_68 ⟨by decide, by decide⟩ (fun H locs hP hD hS => ?_)
      refine lv_iload_n hx hb dX10_weighed_71 rfl (lv_at hl 0 rfl) ?_
      refine lv_iconst (v := 3) hx hb dX10_weighed_72 (by decide) ?_
      refine lv_icmp_eq (x := nI 2) (y := 3) (tgt := 82) hx hb dX10_weighed_73 (by decide) (fun h9 => absurd h9 (by decide +kernel)) (fun _ => ?_)
      refine lv_iload_n hx hb dX10_weighed_76 rfl (lv_at hl 0 rfl) ?_
      refine lv_bipush (v := 7) hx hb dX10_weighed_77 (by decide) ?_
      refine lv_icmp_ne (x := nI 2) (y := 7) (tgt := 91) hx hb dX10_weighed_79 (by decide) (fun _ => ?_) (fun h9 => absurd h9 (by decide +kernel))
      refine lv_iload_n hx hb dX10_weighed_91 rfl (lv_at hl 0 rfl) ?_
      refine lv_iconst (v := 5) hx hb dX10_weighed_92 (by decide) ?_
      refine lv_icmp_eq (x := nI 2) (y := 5) (tgt := 98) hx hb dX10_weighed_93 (by decide) (fun h9 => absurd h9 (by decide +kernel)) (fun _ => ?_)
      refine lv_iload_n hx hb dX10_weighed_96 rfl (lv_at hl 3 rfl) ?_
      have hr9 : r = (0, v, ((ch - 1), lv, cn, dr, la), (tb 0 0 (tb 0 2 t))) := by rw [← hr9, epw_2, pwR, if_neg c_ch]; rfl
      subst hr9
      exact ri C hrt hlocks rfl hP hS dX10_weighed_97
  · refine lv_aload_n hx hb dX10_weighed_0 rfl (lv_at hl 0 rfl) ?_
    refine va_get (D := D) (C := RX10) (T := TX10) (N := 15) hx hb (uc_10 hk.1 _) (fun _ h9 => h9) hown hK hP 0 rfl rfl 2 (by decide) (fl_X10_7 hk.1 _) (fun _ h9 => h9) rfl dX10_weighed_1 ?_
    refine lv_iload_n hx hb dX10_weighed_4 rfl (lv_at hl 1 rfl) ?_
    refine ld_i (x := nI 3) C hP 1 rfl hi (congrArg (fun q : Pd => nI q.1) (va_up_self F i _)) dX10_weighed_5 ?_
    refine lv_istore_n (lv' := [(3, .int (nI 3)), (0, .ref (ya 0)), (1, .int (nI i)), (2, .int v)]) hx hb dX10_weighed_6 rfl hl (by decide) rfl (fun ls hl => ?_)
    refine lv_aload_n hx hb dX10_weighed_7 rfl (lv_at hl 1 rfl) ?_
    refine lv_iconst (v := 0) hx hb dX10_weighed_8 (by decide) ?_
    refine va_put (D := D) (v := .int 0) (ty := .int) (C := RX10) (T := TX10) (N := 15) hx hb (uc_10 hk.1 _) (fun _ h9 => h9) tyX10 tyX10_ok nmX10 hown hK hP hD hS 0 rfl rfl 14 (by decide) (fl_X10_52 hk.1 _) (fun _ h9 => h9) rfl (by decide +kernel) rfl rfl (Nat.le_of_ble_eq_true rfl) dX10_weighed_9 (fun H locs hP hD hS => ?_)
    have hP : va_P D cls (wm ca ya (va_up F i (3, zn, lm, ch, lv, cn, dr, la)) n cd 0 t) H := hP
    have hD : va_D A (wm ca ya (va_up F i (3, zn, lm, ch, lv, cn, dr, la)) n cd 0 t) := hD
    refine lv_iload_n hx hb dX10_weighed_12 rfl (lv_at hl 0 rfl) ?_
    refine lv_iconst (v := 5) hx hb dX10_weighed_13 (by decide) ?_
    refine lv_icmp_ne (x := nI 3) (y := 5) (tgt := 23) hx hb dX10_weighed_14 (by decide) (fun _ => ?_) (fun h9 => absurd h9 (by decide +kernel))
    refine lv_iload_n hx hb dX10_weighed_23 rfl (lv_at hl 0 rfl) ?_
    refine lv_iconst (v := 2) hx hb dX10_weighed_24 (by decide) ?_
    refine lv_icmp_eq (x := nI 3) (y := 2) (tgt := 38) hx hb dX10_weighed_25 (by decide) (fun h9 => absurd h9 (by decide +kernel)) (fun _ => ?_)
    refine lv_iload_n hx hb dX10_weighed_28 rfl (lv_at hl 0 rfl) ?_
    refine lv_iconst (v := 4) hx hb dX10_weighed_29 (by decide) ?_
    refine lv_icmp_eq (x := nI 3) (y := 4) (tgt := 38) hx hb dX10_weighed_30 (by decide) (fun h9 => absurd h9 (by decide +kernel)) (fun _ => ?_)
    refine lv_iload_n hx hb dX10_weighed_33 rfl (lv_at hl 0 rfl) ?_
    refine lv_iconst (v := 5) hx hb dX10_weighed_34 (by decide) ?_
    refine lv_icmp_ne (x := nI 3) (y := 5) (tgt := 48) hx hb dX10_weighed_35 (by decide) (fun _ => ?_) (fun h9 => absurd h9 (by decide +kernel))
    refine lv_iload_n hx hb dX10_weighed_48 rfl (lv_at hl 0 rfl) ?_
    refine lv_iconst (v := 3) hx hb dX10_weighed_49 (by decide) ?_
    refine lv_icmp_eq (x := nI 3) (y := 3) (tgt := 59) hx hb dX10_weighed_50 (by decide) (fun _ => ?_) (fun h9 => absurd h9 (by decide +kernel))
    refine lv_aload_n hx hb dX10_weighed_59 rfl (lv_at hl 1 rfl) ?_
    refine lv_iconst (v := 0) hx hb dX10_weighed_60 (by decide) ?_
    refine lv_iconst (v := 3) hx hb dX10_weighed_61 (by decide) ?_
    refine k_mv (n9 := 2) (As := [.int 0, .int 3]) C (n_rule l D ca sa lo ya (va_up F i (3, zn, lm, ch, lv, cn, dr, la)) n cd 0 t (by first | omega | (simp only [tb_n]; omega)) 0 3 _) (fun U A9 h => co_X10_rule h A9) (in_X10 hk.1 _) (ml_X10_58 hk.1 _) (im_X10_rule hk.1 _) (se_X10_X10_rule hk.1 _) (by decide +kernel) ⟨⟨rfl, rfl⟩, by decide, by decide⟩ hP hD hS rfl rfl rfl hl.1 rfl (Nat.le_of_ble_eq_true rfl) dX10_weighed_62 ⟨by decide, by decide⟩ (fun H locs hP hD hS => ?_)
    refine lv_aload_n hx hb dX10_weighed_65 rfl (lv_at hl 1 rfl) ?_
    refine lv_iconst (v := 0) hx hb dX10_weighed_66 (by decide) ?_
    refine lv_iconst (v := 0) hx hb dX10_weighed_67 (by decide) ?_
    refine k_mv (n9 := 2) (As := [.int 0, .int 0]) C (n_rule l D ca sa lo ya (va_up F i (3, zn, lm, ch, lv, cn, dr, la)) n cd 0 (tb 0 3 t) (by first | omega | (simp only [tb_n]; omega)) 0 0 _) (fun U A9 h => co_X10_rule h A9) (in_X10 hk.1 _) (ml_X10_58 hk.1 _) (im_X10_rule hk.1 _) (se_X10_X10_rule hk.1 _) (by decide +kernel) ⟨⟨rfl, rfl⟩, by decide, by decide⟩ hP hD hS rfl rfl rfl hl.1 rfl (Nat.le_of_ble_eq_true rfl) dX10_weighed_68 ⟨by decide, by decide⟩ (fun H locs hP hD hS => ?_)
    refine lv_iload_n hx hb dX10_weighed_71 rfl (lv_at hl 0 rfl) ?_
    refine lv_iconst (v := 3) hx hb dX10_weighed_72 (by decide) ?_
    refine lv_icmp_eq (x := nI 3) (y := 3) (tgt := 82) hx hb dX10_weighed_73 (by decide) (fun _ => ?_) (fun h9 => absurd h9 (by decide +kernel))
    refine lv_iload_n hx hb dX10_weighed_82 rfl (lv_at hl 3 rfl) ?_
    refine lv_aload_n hx hb dX10_weighed_83 rfl (lv_at hl 1 rfl) ?_
    refine va_get (D := D) (C := RX10) (T := TX10) (N := 15) hx hb (uc_10 hk.1 _) (fun _ h9 => h9) hown hK hP 0 rfl rfl 8 (by decide) (fl_X10_28 hk.1 _) (fun _ h9 => h9) rfl dX10_weighed_84 ?_
    refine lv_iload_n hx hb dX10_weighed_87 rfl (lv_at hl 2 rfl) ?_
    refine ld_i (x := dr) C hP 7 rfl hi (congrArg (fun q : Pd => q.2.2.2.2.2.2.1) (va_up_self F i _)) dX10_weighed_88 ?_
    refine lv_isub hx hb dX10_weighed_89 ?_
    have hr9 : r = (0, v - dr, (ch, lv, cn, dr, la), (tb 0 0 (tb 0 3 t))) := by rw [← hr9, epw_3]; rfl
    subst hr9
    exact ri C hrt hlocks rfl hP hS dX10_weighed_90
  · refine lv_aload_n hx hb dX10_weighed_0 rfl (lv_at hl 0 rfl) ?_
    refine va_get (D := D) (C := RX10) (T := TX10) (N := 15) hx hb (uc_10 hk.1 _) (fun _ h9 => h9) hown hK hP 0 rfl rfl 2 (by decide) (fl_X10_7 hk.1 _) (fun _ h9 => h9) rfl dX10_weighed_1 ?_
    refine lv_iload_n hx hb dX10_weighed_4 rfl (lv_at hl 1 rfl) ?_
    refine ld_i (x := nI 4) C hP 1 rfl hi (congrArg (fun q : Pd => nI q.1) (va_up_self F i _)) dX10_weighed_5 ?_
    refine lv_istore_n (lv' := [(3, .int (nI 4)), (0, .ref (ya 0)), (1, .int (nI i)), (2, .int v)]) hx hb dX10_weighed_6 rfl hl (by decide) rfl (fun ls hl => ?_)
    refine lv_aload_n hx hb dX10_weighed_7 rfl (lv_at hl 1 rfl) ?_
    refine lv_iconst (v := 0) hx hb dX10_weighed_8 (by decide) ?_
    refine va_put (D := D) (v := .int 0) (ty := .int) (C := RX10) (T := TX10) (N := 15) hx hb (uc_10 hk.1 _) (fun _ h9 => h9) tyX10 tyX10_ok nmX10 hown hK hP hD hS 0 rfl rfl 14 (by decide) (fl_X10_52 hk.1 _) (fun _ h9 => h9) rfl (by decide +kernel) rfl rfl (Nat.le_of_ble_eq_true rfl) dX10_weighed_9 (fun H locs hP hD hS => ?_)
    have hP : va_P D cls (wm ca ya (va_up F i (4, zn, lm, ch, lv, cn, dr, la)) n cd 0 t) H := hP
    have hD : va_D A (wm ca ya (va_up F i (4, zn, lm, ch, lv, cn, dr, la)) n cd 0 t) := hD
    refine lv_iload_n hx hb dX10_weighed_12 rfl (lv_at hl 0 rfl) ?_
    refine lv_iconst (v := 5) hx hb dX10_weighed_13 (by decide) ?_
    refine lv_icmp_ne (x := nI 4) (y := 5) (tgt := 23) hx hb dX10_weighed_14 (by decide) (fun _ => ?_) (fun h9 => absurd h9 (by decide +kernel))
    refine lv_iload_n hx hb dX10_weighed_23 rfl (lv_at hl 0 rfl) ?_
    refine lv_iconst (v := 2) hx hb dX10_weighed_24 (by decide) ?_
    refine lv_icmp_eq (x := nI 4) (y := 2) (tgt := 38) hx hb dX10_weighed_25 (by decide) (fun h9 => absurd h9 (by decide +kernel)) (fun _ => ?_)
    refine lv_iload_n hx hb dX10_weighed_28 rfl (lv_at hl 0 rfl) ?_
    refine lv_iconst (v := 4) hx hb dX10_weighed_29 (by decide) ?_
    refine lv_icmp_eq (x := nI 4) (y := 4) (tgt := 38) hx hb dX10_weighed_30 (by decide) (fun _ => ?_) (fun h9 => absurd h9 (by decide +kernel))
    refine lv_aload_n hx hb dX10_weighed_38 rfl (lv_at hl 1 rfl) ?_
    refine lv_iload_n hx hb dX10_weighed_39 rfl (lv_at hl 2 rfl) ?_
    refine k_mi (n9 := 1) (As := [.int (nI i)]) C (n_radio l D ca sa lo ya F n cd 0 t (by first | omega | (simp only [tb_n]; omega)) i hi 4 (by decide) zn lm (ch, lv, cn, dr, la) _) (fun U A9 h => co_X10_radio h A9) (in_X10 hk.1 _) (ml_X10_65 hk.1 _) (im_X10_radio hk.1 _) (se_X10_X10_radio hk.1 _) (by decide +kernel) ⟨⟨rfl, rfl⟩, by decide, by decide⟩ hP hD hS rfl rfl rfl hl.1 rfl (Nat.le_of_ble_eq_true rfl) dX10_weighed_40 ⟨by decide, by decide⟩ (fun H locs hP hD hS => ?_)
    by_cases c_ch : ch = 0
    · have e9 : pra (ch, lv, cn, dr, la) t = (false, (ch, lv, cn, dr, la), tfl (tb 0 2 t)) := if_pos c_ch
      rw [e9] at hP hD ⊢
      have hP : va_P D cls (wm ca ya (va_up F i (4, zn, lm, ch, lv, cn, dr, la)) n cd 1 (tfl (tb 0 2 t))) H := hP
      have hD : va_D A (wm ca ya (va_up F i (4, zn, lm, ch, lv, cn, dr, la)) n cd 1 (tfl (tb 0 2 t))) := hD
      refine lv_if_ne (x := bi false) (tgt := 48) hx hb dX10_weighed_43 (by decide) (fun h9 => absurd h9 (by decide +kernel)) (fun _ => ?_)
      refine lv_iconst (v := 0) hx hb dX10_weighed_46 (by decide) ?_
      have hr9 : r = (1, 0, (ch, lv, cn, dr, la), (tfl (tb 0 2 t))) := by rw [← hr9, epw_4, pwR, if_pos c_ch]
      subst hr9
      exact ri C hrt hlocks rfl hP hS dX10_weighed_47
    · have e9 : pra (ch, lv, cn, dr, la) t = (true, (ch - 1, lv, cn, dr, la), tb 0 2 t) := if_neg c_ch
      rw [e9] at hP hD ⊢
      have hP : va_P D cls (wm ca ya (va_up F i (4, zn, lm, (ch - 1), lv, cn, dr, la)) n cd 0 (tb 0 2 t)) H := hP
      have hD : va_D A (wm ca ya (va_up F i (4, zn, lm, (ch - 1), lv, cn, dr, la)) n cd 0 (tb 0 2 t)) := hD
      refine lv_if_ne (x := bi true) (tgt := 48) hx hb dX10_weighed_43 (by decide) (fun _ => ?_) (fun h9 => absurd h9 (by decide +kernel))
      refine lv_iload_n hx hb dX10_weighed_48 rfl (lv_at hl 0 rfl) ?_
      refine lv_iconst (v := 3) hx hb dX10_weighed_49 (by decide) ?_
      refine lv_icmp_eq (x := nI 4) (y := 3) (tgt := 59) hx hb dX10_weighed_50 (by decide) (fun h9 => absurd h9 (by decide +kernel)) (fun _ => ?_)
      refine lv_iload_n hx hb dX10_weighed_53 rfl (lv_at hl 0 rfl) ?_
      refine lv_bipush (v := 7) hx hb dX10_weighed_54 (by decide) ?_
      refine lv_icmp_ne (x := nI 4) (y := 7) (tgt := 65) hx hb dX10_weighed_56 (by decide) (fun _ => ?_) (fun h9 => absurd h9 (by decide +kernel))
      refine lv_aload_n hx hb dX10_weighed_65 rfl (lv_at hl 1 rfl) ?_
      refine lv_iconst (v := 0) hx hb dX10_weighed_66 (by decide) ?_
      refine lv_iconst (v := 0) hx hb dX10_weighed_67 (by decide) ?_
      refine k_mv (n9 := 2) (As := [.int 0, .int 0]) C (n_rule l D ca sa lo ya (va_up F i (4, zn, lm, (ch - 1), lv, cn, dr, la)) n cd 0 (tb 0 2 t) (by first | omega | (simp only [tb_n]; omega)) 0 0 _) (fun U A9 h => co_X10_rule h A9) (in_X10 hk.1 _) (ml_X10_58 hk.1 _) (im_X10_rule hk.1 _) (se_X10_X10_rule hk.1 _) (by decide +kernel) ⟨⟨rfl, rfl⟩, by decide, by decide⟩ hP hD hS rfl rfl rfl hl.1 rfl (Nat.le_of_ble_eq_true rfl) dX10_weighed_68 ⟨by decide, by decide⟩ (fun H locs hP hD hS => ?_)
      refine lv_iload_n hx hb dX10_weighed_71 rfl (lv_at hl 0 rfl) ?_
      refine lv_iconst (v := 3) hx hb dX10_weighed_72 (by decide) ?_
      refine lv_icmp_eq (x := nI 4) (y := 3) (tgt := 82) hx hb dX10_weighed_73 (by decide) (fun h9 => absurd h9 (by decide +kernel)) (fun _ => ?_)
      refine lv_iload_n hx hb dX10_weighed_76 rfl (lv_at hl 0 rfl) ?_
      refine lv_bipush (v := 7) hx hb dX10_weighed_77 (by decide) ?_
      refine lv_icmp_ne (x := nI 4) (y := 7) (tgt := 91) hx hb dX10_weighed_79 (by decide) (fun _ => ?_) (fun h9 => absurd h9 (by decide +kernel))
      refine lv_iload_n hx hb dX10_weighed_91 rfl (lv_at hl 0 rfl) ?_
      refine lv_iconst (v := 5) hx hb dX10_weighed_92 (by decide) ?_
      refine lv_icmp_eq (x := nI 4) (y := 5) (tgt := 98) hx hb dX10_weighed_93 (by decide) (fun h9 => absurd h9 (by decide +kernel)) (fun _ => ?_)
      refine lv_iload_n hx hb dX10_weighed_96 rfl (lv_at hl 3 rfl) ?_
      have hr9 : r = (0, v, ((ch - 1), lv, cn, dr, la), (tb 0 0 (tb 0 2 t))) := by rw [← hr9, epw_4, pwR, if_neg c_ch]; rfl
      subst hr9
      exact ri C hrt hlocks rfl hP hS dX10_weighed_97
  · refine lv_aload_n hx hb dX10_weighed_0 rfl (lv_at hl 0 rfl) ?_
    refine va_get (D := D) (C := RX10) (T := TX10) (N := 15) hx hb (uc_10 hk.1 _) (fun _ h9 => h9) hown hK hP 0 rfl rfl 2 (by decide) (fl_X10_7 hk.1 _) (fun _ h9 => h9) rfl dX10_weighed_1 ?_
    refine lv_iload_n hx hb dX10_weighed_4 rfl (lv_at hl 1 rfl) ?_
    refine ld_i (x := nI 5) C hP 1 rfl hi (congrArg (fun q : Pd => nI q.1) (va_up_self F i _)) dX10_weighed_5 ?_
    refine lv_istore_n (lv' := [(3, .int (nI 5)), (0, .ref (ya 0)), (1, .int (nI i)), (2, .int v)]) hx hb dX10_weighed_6 rfl hl (by decide) rfl (fun ls hl => ?_)
    refine lv_aload_n hx hb dX10_weighed_7 rfl (lv_at hl 1 rfl) ?_
    refine lv_iconst (v := 0) hx hb dX10_weighed_8 (by decide) ?_
    refine va_put (D := D) (v := .int 0) (ty := .int) (C := RX10) (T := TX10) (N := 15) hx hb (uc_10 hk.1 _) (fun _ h9 => h9) tyX10 tyX10_ok nmX10 hown hK hP hD hS 0 rfl rfl 14 (by decide) (fl_X10_52 hk.1 _) (fun _ h9 => h9) rfl (by decide +kernel) rfl rfl (Nat.le_of_ble_eq_true rfl) dX10_weighed_9 (fun H locs hP hD hS => ?_)
    have hP : va_P D cls (wm ca ya (va_up F i (5, zn, lm, ch, lv, cn, dr, la)) n cd 0 t) H := hP
    have hD : va_D A (wm ca ya (va_up F i (5, zn, lm, ch, lv, cn, dr, la)) n cd 0 t) := hD
    refine lv_iload_n hx hb dX10_weighed_12 rfl (lv_at hl 0 rfl) ?_
    refine lv_iconst (v := 5) hx hb dX10_weighed_13 (by decide) ?_
    refine lv_icmp_ne (x := nI 5) (y := 5) (tgt := 23) hx hb dX10_weighed_14 (by decide) (fun h9 => absurd h9 (by decide +kernel)) (fun _ => ?_)
    refine lv_aload_n hx hb dX10_weighed_17 rfl (lv_at hl 1 rfl) ?_
    refine lv_iconst (v := 0) hx hb dX10_weighed_18 (by decide) ?_
    refine lv_iconst (v := 5) hx hb dX10_weighed_19 (by decide) ?_
    refine k_mv (n9 := 2) (As := [.int 0, .int 5]) C (n_rule l D ca sa lo ya (va_up F i (5, zn, lm, ch, lv, cn, dr, la)) n cd 0 t (by first | omega | (simp only [tb_n]; omega)) 0 5 _) (fun U A9 h => co_X10_rule h A9) (in_X10 hk.1 _) (ml_X10_58 hk.1 _) (im_X10_rule hk.1 _) (se_X10_X10_rule hk.1 _) (by decide +kernel) ⟨⟨rfl, rfl⟩, by decide, by decide⟩ hP hD hS rfl rfl rfl hl.1 rfl (Nat.le_of_ble_eq_true rfl) dX10_weighed_20 ⟨by decide, by decide⟩ (fun H locs hP hD hS => ?_)
    refine lv_iload_n hx hb dX10_weighed_23 rfl (lv_at hl 0 rfl) ?_
    refine lv_iconst (v := 2) hx hb dX10_weighed_24 (by decide) ?_
    refine lv_icmp_eq (x := nI 5) (y := 2) (tgt := 38) hx hb dX10_weighed_25 (by decide) (fun h9 => absurd h9 (by decide +kernel)) (fun _ => ?_)
    refine lv_iload_n hx hb dX10_weighed_28 rfl (lv_at hl 0 rfl) ?_
    refine lv_iconst (v := 4) hx hb dX10_weighed_29 (by decide) ?_
    refine lv_icmp_eq (x := nI 5) (y := 4) (tgt := 38) hx hb dX10_weighed_30 (by decide) (fun h9 => absurd h9 (by decide +kernel)) (fun _ => ?_)
    refine lv_iload_n hx hb dX10_weighed_33 rfl (lv_at hl 0 rfl) ?_
    refine lv_iconst (v := 5) hx hb dX10_weighed_34 (by decide) ?_
    refine lv_icmp_ne (x := nI 5) (y := 5) (tgt := 48) hx hb dX10_weighed_35 (by decide) (fun h9 => absurd h9 (by decide +kernel)) (fun _ => ?_)
    refine lv_aload_n hx hb dX10_weighed_38 rfl (lv_at hl 1 rfl) ?_
    refine lv_iload_n hx hb dX10_weighed_39 rfl (lv_at hl 2 rfl) ?_
    refine k_mi (n9 := 1) (As := [.int (nI i)]) C (n_radio l D ca sa lo ya F n cd 0 (tb 0 5 t) (by first | omega | (simp only [tb_n]; omega)) i hi 5 (by decide) zn lm (ch, lv, cn, dr, la) _) (fun U A9 h => co_X10_radio h A9) (in_X10 hk.1 _) (ml_X10_65 hk.1 _) (im_X10_radio hk.1 _) (se_X10_X10_radio hk.1 _) (by decide +kernel) ⟨⟨rfl, rfl⟩, by decide, by decide⟩ hP hD hS rfl rfl rfl hl.1 rfl (Nat.le_of_ble_eq_true rfl) dX10_weighed_40 ⟨by decide, by decide⟩ (fun H locs hP hD hS => ?_)
    by_cases c_ch : ch = 0
    · have e9 : pra (ch, lv, cn, dr, la) (tb 0 5 t) = (false, (ch, lv, cn, dr, la), tfl (tb 0 2 (tb 0 5 t))) := if_pos c_ch
      rw [e9] at hP hD ⊢
      have hP : va_P D cls (wm ca ya (va_up F i (5, zn, lm, ch, lv, cn, dr, la)) n cd 1 (tfl (tb 0 2 (tb 0 5 t)))) H := hP
      have hD : va_D A (wm ca ya (va_up F i (5, zn, lm, ch, lv, cn, dr, la)) n cd 1 (tfl (tb 0 2 (tb 0 5 t)))) := hD
      refine lv_if_ne (x := bi false) (tgt := 48) hx hb dX10_weighed_43 (by decide) (fun h9 => absurd h9 (by decide +kernel)) (fun _ => ?_)
      refine lv_iconst (v := 0) hx hb dX10_weighed_46 (by decide) ?_
      have hr9 : r = (1, 0, (ch, lv, cn, dr, la), (tfl (tb 0 2 (tb 0 5 t)))) := by rw [← hr9, epw_5, pwB, pwR, if_pos c_ch]; rfl
      subst hr9
      exact ri C hrt hlocks rfl hP hS dX10_weighed_47
    · have e9 : pra (ch, lv, cn, dr, la) (tb 0 5 t) = (true, (ch - 1, lv, cn, dr, la), tb 0 2 (tb 0 5 t)) := if_neg c_ch
      rw [e9] at hP hD ⊢
      have hP : va_P D cls (wm ca ya (va_up F i (5, zn, lm, (ch - 1), lv, cn, dr, la)) n cd 0 (tb 0 2 (tb 0 5 t))) H := hP
      have hD : va_D A (wm ca ya (va_up F i (5, zn, lm, (ch - 1), lv, cn, dr, la)) n cd 0 (tb 0 2 (tb 0 5 t))) := hD
      refine lv_if_ne (x := bi true) (tgt := 48) hx hb dX10_weighed_43 (by decide) (fun _ => ?_) (fun h9 => absurd h9 (by decide +kernel))
      refine lv_iload_n hx hb dX10_weighed_48 rfl (lv_at hl 0 rfl) ?_
      refine lv_iconst (v := 3) hx hb dX10_weighed_49 (by decide) ?_
      refine lv_icmp_eq (x := nI 5) (y := 3) (tgt := 59) hx hb dX10_weighed_50 (by decide) (fun h9 => absurd h9 (by decide +kernel)) (fun _ => ?_)
      refine lv_iload_n hx hb dX10_weighed_53 rfl (lv_at hl 0 rfl) ?_
      refine lv_bipush (v := 7) hx hb dX10_weighed_54 (by decide) ?_
      refine lv_icmp_ne (x := nI 5) (y := 7) (tgt := 65) hx hb dX10_weighed_56 (by decide) (fun _ => ?_) (fun h9 => absurd h9 (by decide +kernel))
      refine lv_aload_n hx hb dX10_weighed_65 rfl (lv_at hl 1 rfl) ?_
      refine lv_iconst (v := 0) hx hb dX10_weighed_66 (by decide) ?_
      refine lv_iconst (v := 0) hx hb dX10_weighed_67 (by decide) ?_
      refine k_mv (n9 := 2) (As := [.int 0, .int 0]) C (n_rule l D ca sa lo ya (va_up F i (5, zn, lm, (ch - 1), lv, cn, dr, la)) n cd 0 (tb 0 2 (tb 0 5 t)) (by first | omega | (simp only [tb_n]; omega)) 0 0 _) (fun U A9 h => co_X10_rule h A9) (in_X10 hk.1 _) (ml_X10_58 hk.1 _) (im_X10_rule hk.1 _) (se_X10_X10_rule hk.1 _) (by decide +kernel) ⟨⟨rfl, rfl⟩, by decide, by decide⟩ hP hD hS rfl rfl rfl hl.1 rfl (Nat.le_of_ble_eq_true rfl) dX10_weighed_68 ⟨by decide, by decide⟩ (fun H locs hP hD hS => ?_)
      refine lv_iload_n hx hb dX10_weighed_71 rfl (lv_at hl 0 rfl) ?_
      refine lv_iconst (v := 3) hx hb dX10_weighed_72 (by decide) ?_
      refine lv_icmp_eq (x := nI 5) (y := 3) (tgt := 82) hx hb dX10_weighed_73 (by decide) (fun h9 => absurd h9 (by decide +kernel)) (fun _ => ?_)
      refine lv_iload_n hx hb dX10_weighed_76 rfl (lv_at hl 0 rfl) ?_
      refine lv_bipush (v := 7) hx hb dX10_weighed_77 (by decide) ?_
      refine lv_icmp_ne (x := nI 5) (y := 7) (tgt := 91) hx hb dX10_weighed_79 (by decide) (fun _ => ?_) (fun h9 => absurd h9 (by decide +kernel))
      refine lv_iload_n hx hb dX10_weighed_91 rfl (lv_at hl 0 rfl) ?_
      refine lv_iconst (v := 5) hx hb dX10_weighed_92 (by decide) ?_
      refine lv_icmp_eq (x := nI 5) (y := 5) (tgt := 98) hx hb dX10_weighed_93 (by decide) (fun _ => ?_) (fun h9 => absurd h9 (by decide +kernel))
      refine lv_iload_n hx hb dX10_weighed_98 rfl (lv_at hl 3 rfl) ?_
      refine lv_if_ne (tgt := 119) hx hb dX10_weighed_99 (by decide) (fun c_1 => ?_) (fun c_1 => ?_)
      · refine lv_sipush (v := 1000) hx hb dX10_weighed_119 (by decide) ?_
        refine lv_iload_n hx hb dX10_weighed_122 rfl (lv_at hl 3 rfl) ?_
        refine lv_idiv hx hb dX10_weighed_123 c_1 ?_
        have hr9 : r = (0, 1000 / v, ((ch - 1), lv, cn, dr, la), (tb 0 0 (tb 0 2 (tb 0 5 t)))) := by rw [← hr9, epw_5, pwB, pwR, if_neg c_ch, pwP, pwBe, if_pos rfl, if_neg c_1]
        subst hr9
        exact ri C hrt hlocks rfl hP hS dX10_weighed_124
      · refine lv_aload_n hx hb dX10_weighed_102 rfl (lv_at hl 1 rfl) ?_
        refine lv_iconst (v := 2) hx hb dX10_weighed_103 (by decide) ?_
        refine va_put (D := D) (v := .int 2) (ty := .int) (C := RX10) (T := TX10) (N := 15) hx hb (uc_10 hk.1 _) (fun _ h9 => h9) tyX10 tyX10_ok nmX10 hown hK hP hD hS 0 rfl rfl 14 (by decide) (fl_X10_52 hk.1 _) (fun _ h9 => h9) rfl (by decide +kernel) rfl rfl (Nat.le_of_ble_eq_true rfl) dX10_weighed_104 (fun H locs hP hD hS => ?_)
        have hP : va_P D cls (wm ca ya (va_up F i (5, zn, lm, (ch - 1), lv, cn, dr, la)) n cd 2 (tb 0 0 (tb 0 2 (tb 0 5 t)))) H := hP
        have hD : va_D A (wm ca ya (va_up F i (5, zn, lm, (ch - 1), lv, cn, dr, la)) n cd 2 (tb 0 0 (tb 0 2 (tb 0 5 t)))) := hD
        refine lv_aload_n hx hb dX10_weighed_107 rfl (lv_at hl 1 rfl) ?_
        refine lv_dup hx hb dX10_weighed_108 rfl ?_
        refine va_get (D := D) (C := RX10) (T := TX10) (N := 15) hx hb (uc_10 hk.1 _) (fun _ h9 => h9) hown hK hP 0 rfl rfl 13 (by decide) (fl_X10_69 hk.1 _) (fun _ h9 => h9) rfl dX10_weighed_109 ?_
        refine lv_iconst (v := 1) hx hb dX10_weighed_112 (by decide) ?_
        refine lv_iadd hx hb dX10_weighed_113 ?_
        refine va_put (D := D) (v := .int (((tb 0 0 (tb 0 2 (tb 0 5 t))).2.2.2) + 1)) (ty := .int) (C := RX10) (T := TX10) (N := 15) hx hb (uc_10 hk.1 _) (fun _ h9 => h9) tyX10 tyX10_ok nmX10 hown hK hP hD hS 0 rfl rfl 13 (by decide) (fl_X10_69 hk.1 _) (fun _ h9 => h9) rfl (by decide +kernel) rfl rfl (Nat.le_of_ble_eq_true rfl) dX10_weighed_114 (fun H locs hP hD hS => ?_)
        have hP : va_P D cls (wm ca ya (va_up F i (5, zn, lm, (ch - 1), lv, cn, dr, la)) n cd 2 (tar (tb 0 0 (tb 0 2 (tb 0 5 t))))) H := hP
        have hD : va_D A (wm ca ya (va_up F i (5, zn, lm, (ch - 1), lv, cn, dr, la)) n cd 2 (tar (tb 0 0 (tb 0 2 (tb 0 5 t))))) := hD
        refine lv_iconst (v := 0) hx hb dX10_weighed_117 (by decide) ?_
        have hr9 : r = (2, 0, ((ch - 1), lv, cn, dr, la), (tar (tb 0 0 (tb 0 2 (tb 0 5 t))))) := by rw [← hr9, epw_5, pwB, pwR, if_neg c_ch, pwP, pwBe, if_pos rfl, if_pos c_1]
        subst hr9
        exact ri C hrt hlocks rfl hP hS dX10_weighed_118
  · refine lv_aload_n hx hb dX10_weighed_0 rfl (lv_at hl 0 rfl) ?_
    refine va_get (D := D) (C := RX10) (T := TX10) (N := 15) hx hb (uc_10 hk.1 _) (fun _ h9 => h9) hown hK hP 0 rfl rfl 2 (by decide) (fl_X10_7 hk.1 _) (fun _ h9 => h9) rfl dX10_weighed_1 ?_
    refine lv_iload_n hx hb dX10_weighed_4 rfl (lv_at hl 1 rfl) ?_
    refine ld_i (x := nI 6) C hP 1 rfl hi (congrArg (fun q : Pd => nI q.1) (va_up_self F i _)) dX10_weighed_5 ?_
    refine lv_istore_n (lv' := [(3, .int (nI 6)), (0, .ref (ya 0)), (1, .int (nI i)), (2, .int v)]) hx hb dX10_weighed_6 rfl hl (by decide) rfl (fun ls hl => ?_)
    refine lv_aload_n hx hb dX10_weighed_7 rfl (lv_at hl 1 rfl) ?_
    refine lv_iconst (v := 0) hx hb dX10_weighed_8 (by decide) ?_
    refine va_put (D := D) (v := .int 0) (ty := .int) (C := RX10) (T := TX10) (N := 15) hx hb (uc_10 hk.1 _) (fun _ h9 => h9) tyX10 tyX10_ok nmX10 hown hK hP hD hS 0 rfl rfl 14 (by decide) (fl_X10_52 hk.1 _) (fun _ h9 => h9) rfl (by decide +kernel) rfl rfl (Nat.le_of_ble_eq_true rfl) dX10_weighed_9 (fun H locs hP hD hS => ?_)
    have hP : va_P D cls (wm ca ya (va_up F i (6, zn, lm, ch, lv, cn, dr, la)) n cd 0 t) H := hP
    have hD : va_D A (wm ca ya (va_up F i (6, zn, lm, ch, lv, cn, dr, la)) n cd 0 t) := hD
    refine lv_iload_n hx hb dX10_weighed_12 rfl (lv_at hl 0 rfl) ?_
    refine lv_iconst (v := 5) hx hb dX10_weighed_13 (by decide) ?_
    refine lv_icmp_ne (x := nI 6) (y := 5) (tgt := 23) hx hb dX10_weighed_14 (by decide) (fun _ => ?_) (fun h9 => absurd h9 (by decide +kernel))
    refine lv_iload_n hx hb dX10_weighed_23 rfl (lv_at hl 0 rfl) ?_
    refine lv_iconst (v := 2) hx hb dX10_weighed_24 (by decide) ?_
    refine lv_icmp_eq (x := nI 6) (y := 2) (tgt := 38) hx hb dX10_weighed_25 (by decide) (fun h9 => absurd h9 (by decide +kernel)) (fun _ => ?_)
    refine lv_iload_n hx hb dX10_weighed_28 rfl (lv_at hl 0 rfl) ?_
    refine lv_iconst (v := 4) hx hb dX10_weighed_29 (by decide) ?_
    refine lv_icmp_eq (x := nI 6) (y := 4) (tgt := 38) hx hb dX10_weighed_30 (by decide) (fun h9 => absurd h9 (by decide +kernel)) (fun _ => ?_)
    refine lv_iload_n hx hb dX10_weighed_33 rfl (lv_at hl 0 rfl) ?_
    refine lv_iconst (v := 5) hx hb dX10_weighed_34 (by decide) ?_
    refine lv_icmp_ne (x := nI 6) (y := 5) (tgt := 48) hx hb dX10_weighed_35 (by decide) (fun _ => ?_) (fun h9 => absurd h9 (by decide +kernel))
    refine lv_iload_n hx hb dX10_weighed_48 rfl (lv_at hl 0 rfl) ?_
    refine lv_iconst (v := 3) hx hb dX10_weighed_49 (by decide) ?_
    refine lv_icmp_eq (x := nI 6) (y := 3) (tgt := 59) hx hb dX10_weighed_50 (by decide) (fun h9 => absurd h9 (by decide +kernel)) (fun _ => ?_)
    refine lv_iload_n hx hb dX10_weighed_53 rfl (lv_at hl 0 rfl) ?_
    refine lv_bipush (v := 7) hx hb dX10_weighed_54 (by decide) ?_
    refine lv_icmp_ne (x := nI 6) (y := 7) (tgt := 65) hx hb dX10_weighed_56 (by decide) (fun _ => ?_) (fun h9 => absurd h9 (by decide +kernel))
    refine lv_aload_n hx hb dX10_weighed_65 rfl (lv_at hl 1 rfl) ?_
    refine lv_iconst (v := 0) hx hb dX10_weighed_66 (by decide) ?_
    refine lv_iconst (v := 0) hx hb dX10_weighed_67 (by decide) ?_
    refine k_mv (n9 := 2) (As := [.int 0, .int 0]) C (n_rule l D ca sa lo ya (va_up F i (6, zn, lm, ch, lv, cn, dr, la)) n cd 0 t (by first | omega | (simp only [tb_n]; omega)) 0 0 _) (fun U A9 h => co_X10_rule h A9) (in_X10 hk.1 _) (ml_X10_58 hk.1 _) (im_X10_rule hk.1 _) (se_X10_X10_rule hk.1 _) (by decide +kernel) ⟨⟨rfl, rfl⟩, by decide, by decide⟩ hP hD hS rfl rfl rfl hl.1 rfl (Nat.le_of_ble_eq_true rfl) dX10_weighed_68 ⟨by decide, by decide⟩ (fun H locs hP hD hS => ?_)
    refine lv_iload_n hx hb dX10_weighed_71 rfl (lv_at hl 0 rfl) ?_
    refine lv_iconst (v := 3) hx hb dX10_weighed_72 (by decide) ?_
    refine lv_icmp_eq (x := nI 6) (y := 3) (tgt := 82) hx hb dX10_weighed_73 (by decide) (fun h9 => absurd h9 (by decide +kernel)) (fun _ => ?_)
    refine lv_iload_n hx hb dX10_weighed_76 rfl (lv_at hl 0 rfl) ?_
    refine lv_bipush (v := 7) hx hb dX10_weighed_77 (by decide) ?_
    refine lv_icmp_ne (x := nI 6) (y := 7) (tgt := 91) hx hb dX10_weighed_79 (by decide) (fun _ => ?_) (fun h9 => absurd h9 (by decide +kernel))
    refine lv_iload_n hx hb dX10_weighed_91 rfl (lv_at hl 0 rfl) ?_
    refine lv_iconst (v := 5) hx hb dX10_weighed_92 (by decide) ?_
    refine lv_icmp_eq (x := nI 6) (y := 5) (tgt := 98) hx hb dX10_weighed_93 (by decide) (fun h9 => absurd h9 (by decide +kernel)) (fun _ => ?_)
    refine lv_iload_n hx hb dX10_weighed_96 rfl (lv_at hl 3 rfl) ?_
    have hr9 : r = (0, v, (ch, lv, cn, dr, la), (tb 0 0 t)) := by rw [← hr9, epw_6]; rfl
    subst hr9
    exact ri C hrt hlocks rfl hP hS dX10_weighed_97
  · refine lv_aload_n hx hb dX10_weighed_0 rfl (lv_at hl 0 rfl) ?_
    refine va_get (D := D) (C := RX10) (T := TX10) (N := 15) hx hb (uc_10 hk.1 _) (fun _ h9 => h9) hown hK hP 0 rfl rfl 2 (by decide) (fl_X10_7 hk.1 _) (fun _ h9 => h9) rfl dX10_weighed_1 ?_
    refine lv_iload_n hx hb dX10_weighed_4 rfl (lv_at hl 1 rfl) ?_
    refine ld_i (x := nI 7) C hP 1 rfl hi (congrArg (fun q : Pd => nI q.1) (va_up_self F i _)) dX10_weighed_5 ?_
    refine lv_istore_n (lv' := [(3, .int (nI 7)), (0, .ref (ya 0)), (1, .int (nI i)), (2, .int v)]) hx hb dX10_weighed_6 rfl hl (by decide) rfl (fun ls hl => ?_)
    refine lv_aload_n hx hb dX10_weighed_7 rfl (lv_at hl 1 rfl) ?_
    refine lv_iconst (v := 0) hx hb dX10_weighed_8 (by decide) ?_
    refine va_put (D := D) (v := .int 0) (ty := .int) (C := RX10) (T := TX10) (N := 15) hx hb (uc_10 hk.1 _) (fun _ h9 => h9) tyX10 tyX10_ok nmX10 hown hK hP hD hS 0 rfl rfl 14 (by decide) (fl_X10_52 hk.1 _) (fun _ h9 => h9) rfl (by decide +kernel) rfl rfl (Nat.le_of_ble_eq_true rfl) dX10_weighed_9 (fun H locs hP hD hS => ?_)
    have hP : va_P D cls (wm ca ya (va_up F i (7, zn, lm, ch, lv, cn, dr, la)) n cd 0 t) H := hP
    have hD : va_D A (wm ca ya (va_up F i (7, zn, lm, ch, lv, cn, dr, la)) n cd 0 t) := hD
    refine lv_iload_n hx hb dX10_weighed_12 rfl (lv_at hl 0 rfl) ?_
    refine lv_iconst (v := 5) hx hb dX10_weighed_13 (by decide) ?_
    refine lv_icmp_ne (x := nI 7) (y := 5) (tgt := 23) hx hb dX10_weighed_14 (by decide) (fun _ => ?_) (fun h9 => absurd h9 (by decide +kernel))
    refine lv_iload_n hx hb dX10_weighed_23 rfl (lv_at hl 0 rfl) ?_
    refine lv_iconst (v := 2) hx hb dX10_weighed_24 (by decide) ?_
    refine lv_icmp_eq (x := nI 7) (y := 2) (tgt := 38) hx hb dX10_weighed_25 (by decide) (fun h9 => absurd h9 (by decide +kernel)) (fun _ => ?_)
    refine lv_iload_n hx hb dX10_weighed_28 rfl (lv_at hl 0 rfl) ?_
    refine lv_iconst (v := 4) hx hb dX10_weighed_29 (by decide) ?_
    refine lv_icmp_eq (x := nI 7) (y := 4) (tgt := 38) hx hb dX10_weighed_30 (by decide) (fun h9 => absurd h9 (by decide +kernel)) (fun _ => ?_)
    refine lv_iload_n hx hb dX10_weighed_33 rfl (lv_at hl 0 rfl) ?_
    refine lv_iconst (v := 5) hx hb dX10_weighed_34 (by decide) ?_
    refine lv_icmp_ne (x := nI 7) (y := 5) (tgt := 48) hx hb dX10_weighed_35 (by decide) (fun _ => ?_) (fun h9 => absurd h9 (by decide +kernel))
    refine lv_iload_n hx hb dX10_weighed_48 rfl (lv_at hl 0 rfl) ?_
    refine lv_iconst (v := 3) hx hb dX10_weighed_49 (by decide) ?_
    refine lv_icmp_eq (x := nI 7) (y := 3) (tgt := 59) hx hb dX10_weighed_50 (by decide) (fun h9 => absurd h9 (by decide +kernel)) (fun _ => ?_)
    refine lv_iload_n hx hb dX10_weighed_53 rfl (lv_at hl 0 rfl) ?_
    refine lv_bipush (v := 7) hx hb dX10_weighed_54 (by decide) ?_
    refine lv_icmp_ne (x := nI 7) (y := 7) (tgt := 65) hx hb dX10_weighed_56 (by decide) (fun h9 => absurd h9 (by decide +kernel)) (fun _ => ?_)
    refine lv_aload_n hx hb dX10_weighed_59 rfl (lv_at hl 1 rfl) ?_
    refine lv_iconst (v := 0) hx hb dX10_weighed_60 (by decide) ?_
    refine lv_iconst (v := 3) hx hb dX10_weighed_61 (by decide) ?_
    refine k_mv (n9 := 2) (As := [.int 0, .int 3]) C (n_rule l D ca sa lo ya (va_up F i (7, zn, lm, ch, lv, cn, dr, la)) n cd 0 t (by first | omega | (simp only [tb_n]; omega)) 0 3 _) (fun U A9 h => co_X10_rule h A9) (in_X10 hk.1 _) (ml_X10_58 hk.1 _) (im_X10_rule hk.1 _) (se_X10_X10_rule hk.1 _) (by decide +kernel) ⟨⟨rfl, rfl⟩, by decide, by decide⟩ hP hD hS rfl rfl rfl hl.1 rfl (Nat.le_of_ble_eq_true rfl) dX10_weighed_62 ⟨by decide, by decide⟩ (fun H locs hP hD hS => ?_)
    refine lv_aload_n hx hb dX10_weighed_65 rfl (lv_at hl 1 rfl) ?_
    refine lv_iconst (v := 0) hx hb dX10_weighed_66 (by decide) ?_
    refine lv_iconst (v := 0) hx hb dX10_weighed_67 (by decide) ?_
    refine k_mv (n9 := 2) (As := [.int 0, .int 0]) C (n_rule l D ca sa lo ya (va_up F i (7, zn, lm, ch, lv, cn, dr, la)) n cd 0 (tb 0 3 t) (by first | omega | (simp only [tb_n]; omega)) 0 0 _) (fun U A9 h => co_X10_rule h A9) (in_X10 hk.1 _) (ml_X10_58 hk.1 _) (im_X10_rule hk.1 _) (se_X10_X10_rule hk.1 _) (by decide +kernel) ⟨⟨rfl, rfl⟩, by decide, by decide⟩ hP hD hS rfl rfl rfl hl.1 rfl (Nat.le_of_ble_eq_true rfl) dX10_weighed_68 ⟨by decide, by decide⟩ (fun H locs hP hD hS => ?_)
    refine lv_iload_n hx hb dX10_weighed_71 rfl (lv_at hl 0 rfl) ?_
    refine lv_iconst (v := 3) hx hb dX10_weighed_72 (by decide) ?_
    refine lv_icmp_eq (x := nI 7) (y := 3) (tgt := 82) hx hb dX10_weighed_73 (by decide) (fun h9 => absurd h9 (by decide +kernel)) (fun _ => ?_)
    refine lv_iload_n hx hb dX10_weighed_76 rfl (lv_at hl 0 rfl) ?_
    refine lv_bipush (v := 7) hx hb dX10_weighed_77 (by decide) ?_
    refine lv_icmp_ne (x := nI 7) (y := 7) (tgt := 91) hx hb dX10_weighed_79 (by decide) (fun h9 => absurd h9 (by decide +kernel)) (fun _ => ?_)
    refine lv_iload_n hx hb dX10_weighed_82 rfl (lv_at hl 3 rfl) ?_
    refine lv_aload_n hx hb dX10_weighed_83 rfl (lv_at hl 1 rfl) ?_
    refine va_get (D := D) (C := RX10) (T := TX10) (N := 15) hx hb (uc_10 hk.1 _) (fun _ h9 => h9) hown hK hP 0 rfl rfl 8 (by decide) (fl_X10_28 hk.1 _) (fun _ h9 => h9) rfl dX10_weighed_84 ?_
    refine lv_iload_n hx hb dX10_weighed_87 rfl (lv_at hl 2 rfl) ?_
    refine ld_i (x := dr) C hP 7 rfl hi (congrArg (fun q : Pd => q.2.2.2.2.2.2.1) (va_up_self F i _)) dX10_weighed_88 ?_
    refine lv_isub hx hb dX10_weighed_89 ?_
    have hr9 : r = (0, v - dr, (ch, lv, cn, dr, la), (tb 0 0 (tb 0 3 t))) := by rw [← hr9, epw_7]; rfl
    subst hr9
    exact ri C hrt hlocks rfl hP hS dX10_weighed_90
