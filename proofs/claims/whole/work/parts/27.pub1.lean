set_option maxHeartbeats 4000000 in
set_option maxRecDepth 100000 in
theorem M_over (l : Launch) (D : va_G) (ca : Nat → ClassId) (sa : Nat → Nat) (lo : Nat) (x0 da ht hr : Nat) (L : List Nat) (Q : List Pd) (t : Tr) (hok : okP L Q) (x : Int32) (sz : Nat) : Met l yX9_over [.code yX9_over cX9_over 3 (some .int)] ({ frames := 3, cells := 0, slots := 0, locals := 90 }) (PX D ca sa lo sz [.ref x0, .int x] (wx ca x0 da ht hr L Q t)) (QI D (zO Q t x).1 (wx ca x0 da ht hr L (zO Q t x).2.1 (zO Q t x).2.2) (va_A (wx ca x0 da ht hr L Q t) sz)) 0 0 (va_A (wx ca x0 da ht hr L Q t) sz) := by
  generalize hr9 : zO Q t x = r
  refine mk_met (fun A => QI D r.1 (wx ca x0 da ht hr L r.2.1 r.2.2) A) (by decide) (Nat.le_of_ble_eq_true rfl) ?_
  intro p e s m below meth c A ls C hrt hlocks hnm hsz hP hD hS hl
  obtain ⟨hx, hb, hml, hown, hk, hz, hlo, hA, hAl⟩ := id C
  have hK : va_K D cls (tyl ca) s := hk.2.1
  have hl : lv_has ls 3 [(0, .ref x0), (1, .int x)] := hl
  refine lv_aload_n hx hb dX9_over_0 rfl (lv_at hl 0 rfl) ?_
  refine lv_iload_n hx hb dX9_over_1 rfl (lv_at hl 1 rfl) ?_
  refine k_find hok C hP hD hS hl.1 ⟨by decide, by decide⟩ (Nat.le_of_ble_eq_true rfl) dX9_over_2 ⟨by decide, by decide⟩ (fun hi H locs hP hS => ?_) (fun i a pd hi hj hxj hL hQ hp H locs hP hS => ?_)
  · have hr9 : r = (-101, Q, t) := by rw [← hr9]; simp only [zO, hi]
    subst hr9
    refine lv_astore_nN (lv' := [(2, .null), (0, .ref x0), (1, .int x)]) hx hb dX9_over_5 rfl hl (by decide) rfl (fun ls hl => ?_)
    refine lv_aload_nN hx hb dX9_over_6 rfl (lv_at hl 0 rfl) ?_
    refine lv_ifnonnullN hx hb dX9_over_7 ?_
    refine lv_bipush (v := (-101)) hx hb dX9_over_10 (by decide) ?_
    exact ri C hrt hlocks rfl hP hS dX9_over_12
  · have hr9 : r = (bi (po pd.1 pd.2.2.1 pd.2.2.2 t).1, Q.set i (pd.1, pd.2.1, pd.2.2.1, (po pd.1 pd.2.2.1 pd.2.2.2 t).2.1), (po pd.1 pd.2.2.1 pd.2.2.2 t).2.2) := by rw [← hr9]; simp only [zO, hi, sQ_of hQ, gQ_of hQ]
    subst hr9
    refine lv_astore_n (lv' := [(2, .ref a), (0, .ref x0), (1, .int x)]) hx hb dX9_over_5 rfl hl (by decide) rfl (fun ls hl => ?_)
    refine lv_aload_n hx hb dX9_over_6 rfl (lv_at hl 0 rfl) ?_
    refine lv_ifnonnull (tgt := 13) hx hb dX9_over_7 (by decide) ?_
    refine lv_aload_n hx hb dX9_over_13 rfl (lv_at hl 0 rfl) ?_
    refine vf_o (kd := pd.1) (K := nI pd.1) (zn := pd.2.1) (lm := pd.2.2.1) (d := pd.2.2.2) (t := t) (h0 := a) (k8 hp) C (ml_X9_58 hk.1 _) (px_cut hP hL hQ) (dx_cut hD hL hQ) hS hl.1 (Nat.le_of_ble_eq_true rfl) dX9_over_14 ⟨by decide, by decide, by decide, by decide⟩ (fun H locs hB hD1 hS hf1 => ?_)
    have hP : va_P D cls (wx ca x0 da ht hr L (Q.set i (pd.1, pd.2.1, pd.2.2.1, (po pd.1 pd.2.2.1 pd.2.2.2 t).2.1)) (po pd.1 pd.2.2.1 pd.2.2.2 t).2.2) H := px_join hP hD hL hQ hf1 hB
    have hD : va_D A (wx ca x0 da ht hr L (Q.set i (pd.1, pd.2.1, pd.2.2.1, (po pd.1 pd.2.2.1 pd.2.2.2 t).2.1)) (po pd.1 pd.2.2.1 pd.2.2.2 t).2.2) := hD.to (wx_map hok.1 List.length_set)
    refine lv_if_eq (tgt := 24) hx hb dX9_over_17 (by decide) (fun c_1 => ?_) (fun c_1 => ?_)
    · refine lv_iconst (v := 0) hx hb dX9_over_24 (by decide) ?_
      exact ri C hrt hlocks (by show _ = bi (po pd.1 pd.2.2.1 pd.2.2.2 t).1; rw [bi_eq0 c_1]; rfl) hP hS dX9_over_25
    · refine lv_iconst (v := 1) hx hb dX9_over_20 (by decide) ?_
      refine lv_goto (tgt := 25) hx hb dX9_over_21 (by decide) ?_
      exact ri C hrt hlocks (by show _ = bi (po pd.1 pd.2.2.1 pd.2.2.2 t).1; rw [bi_ne0 c_1]; rfl) hP hS dX9_over_25

set_option maxHeartbeats 4000000 in
set_option maxRecDepth 100000 in
theorem M_clear (l : Launch) (D : va_G) (ca : Nat → ClassId) (sa : Nat → Nat) (lo : Nat) (x0 da ht hr : Nat) (L : List Nat) (Q : List Pd) (t : Tr) (hok : okP L Q) (x : Int32) (sz : Nat) : Met l yX9_clear [.code yX9_clear cX9_clear 3 (some .int)] ({ frames := 3, cells := 0, slots := 0, locals := 90 }) (PX D ca sa lo sz [.ref x0, .int x] (wx ca x0 da ht hr L Q t)) (QI D (zC Q t x).1 (wx ca x0 da ht hr L (zC Q t x).2.1 (zC Q t x).2.2) (va_A (wx ca x0 da ht hr L Q t) sz)) 0 0 (va_A (wx ca x0 da ht hr L Q t) sz) := by
  generalize hr9 : zC Q t x = r
  refine mk_met (fun A => QI D r.1 (wx ca x0 da ht hr L r.2.1 r.2.2) A) (by decide) (Nat.le_of_ble_eq_true rfl) ?_
  intro p e s m below meth c A ls C hrt hlocks hnm hsz hP hD hS hl
  obtain ⟨hx, hb, hml, hown, hk, hz, hlo, hA, hAl⟩ := id C
  have hK : va_K D cls (tyl ca) s := hk.2.1
  have hl : lv_has ls 3 [(0, .ref x0), (1, .int x)] := hl
  refine lv_aload_n hx hb dX9_clear_0 rfl (lv_at hl 0 rfl) ?_
  refine lv_iload_n hx hb dX9_clear_1 rfl (lv_at hl 1 rfl) ?_
  refine k_find hok C hP hD hS hl.1 ⟨by decide, by decide⟩ (Nat.le_of_ble_eq_true rfl) dX9_clear_2 ⟨by decide, by decide⟩ (fun hi H locs hP hS => ?_) (fun i a pd hi hj hxj hL hQ hp H locs hP hS => ?_)
  · have hr9 : r = (-101, Q, t) := by rw [← hr9]; simp only [zC, hi]
    subst hr9
    refine lv_astore_nN (lv' := [(2, .null), (0, .ref x0), (1, .int x)]) hx hb dX9_clear_5 rfl hl (by decide) rfl (fun ls hl => ?_)
    refine lv_aload_nN hx hb dX9_clear_6 rfl (lv_at hl 0 rfl) ?_
    refine lv_ifnonnullN hx hb dX9_clear_7 ?_
    refine lv_bipush (v := (-101)) hx hb dX9_clear_10 (by decide) ?_
    exact ri C hrt hlocks rfl hP hS dX9_clear_12
  · have hr9 : r = (1, Q.set i (pd.1, pd.2.1, pd.2.2.1, (pcl pd.1 pd.2.2.2 t).1), (pcl pd.1 pd.2.2.2 t).2) := by rw [← hr9]; simp only [zC, hi, sQ_of hQ, gQ_of hQ]
    subst hr9
    refine lv_astore_n (lv' := [(2, .ref a), (0, .ref x0), (1, .int x)]) hx hb dX9_clear_5 rfl hl (by decide) rfl (fun ls hl => ?_)
    refine lv_aload_n hx hb dX9_clear_6 rfl (lv_at hl 0 rfl) ?_
    refine lv_ifnonnull (tgt := 13) hx hb dX9_clear_7 (by decide) ?_
    refine lv_aload_n hx hb dX9_clear_13 rfl (lv_at hl 0 rfl) ?_
    refine vf_c (kd := pd.1) (K := nI pd.1) (zn := pd.2.1) (lm := pd.2.2.1) (d := pd.2.2.2) (t := t) (h0 := a) (k8 hp) C (ml_X9_62 hk.1 _) (px_cut hP hL hQ) (dx_cut hD hL hQ) hS hl.1 (Nat.le_of_ble_eq_true rfl) dX9_clear_14 ⟨by decide, by decide, by decide, by decide⟩ (fun H locs hB hD1 hS hf1 => ?_)
    have hP : va_P D cls (wx ca x0 da ht hr L (Q.set i (pd.1, pd.2.1, pd.2.2.1, (pcl pd.1 pd.2.2.2 t).1)) (pcl pd.1 pd.2.2.2 t).2) H := px_join hP hD hL hQ hf1 hB
    have hD : va_D A (wx ca x0 da ht hr L (Q.set i (pd.1, pd.2.1, pd.2.2.1, (pcl pd.1 pd.2.2.2 t).1)) (pcl pd.1 pd.2.2.2 t).2) := hD.to (wx_map hok.1 List.length_set)
    refine lv_iconst (v := 1) hx hb dX9_clear_17 (by decide) ?_
    exact ri C hrt hlocks rfl hP hS dX9_clear_18

set_option maxHeartbeats 4000000 in
set_option maxRecDepth 100000 in
theorem M_cost (l : Launch) (D : va_G) (ca : Nat → ClassId) (sa : Nat → Nat) (lo : Nat) (x0 da ht hr : Nat) (L : List Nat) (Q : List Pd) (t : Tr) (hok : okP L Q) (x : Int32) (sz : Nat) : Met l yX9_cost [.code yX9_cost cX9_cost 3 (some .int)] ({ frames := 3, cells := 0, slots := 0, locals := 90 }) (PX D ca sa lo sz [.ref x0, .int x] (wx ca x0 da ht hr L Q t)) (QI D (zK Q t x).1 (wx ca x0 da ht hr L (zK Q t x).2.1 (zK Q t x).2.2) (va_A (wx ca x0 da ht hr L Q t) sz)) 0 0 (va_A (wx ca x0 da ht hr L Q t) sz) := by
  generalize hr9 : zK Q t x = r
  refine mk_met (fun A => QI D r.1 (wx ca x0 da ht hr L r.2.1 r.2.2) A) (by decide) (Nat.le_of_ble_eq_true rfl) ?_
  intro p e s m below meth c A ls C hrt hlocks hnm hsz hP hD hS hl
  obtain ⟨hx, hb, hml, hown, hk, hz, hlo, hA, hAl⟩ := id C
  have hK : va_K D cls (tyl ca) s := hk.2.1
  have hl : lv_has ls 3 [(0, .ref x0), (1, .int x)] := hl
  refine lv_aload_n hx hb dX9_cost_0 rfl (lv_at hl 0 rfl) ?_
  refine lv_iload_n hx hb dX9_cost_1 rfl (lv_at hl 1 rfl) ?_
  refine k_find hok C hP hD hS hl.1 ⟨by decide, by decide⟩ (Nat.le_of_ble_eq_true rfl) dX9_cost_2 ⟨by decide, by decide⟩ (fun hi H locs hP hS => ?_) (fun i a pd hi hj hxj hL hQ hp H locs hP hS => ?_)
  · have hr9 : r = (-101, Q, t) := by rw [← hr9]; simp only [zK, hi]
    subst hr9
    refine lv_astore_nN (lv' := [(2, .null), (0, .ref x0), (1, .int x)]) hx hb dX9_cost_5 rfl hl (by decide) rfl (fun ls hl => ?_)
    refine lv_aload_nN hx hb dX9_cost_6 rfl (lv_at hl 0 rfl) ?_
    refine lv_ifnonnullN hx hb dX9_cost_7 ?_
    refine lv_bipush (v := (-101)) hx hb dX9_cost_10 (by decide) ?_
    exact ri C hrt hlocks rfl hP hS dX9_cost_12
  · have hr9 : r = ((pk pd.1 pd.2.2.2 t).1, Q, (pk pd.1 pd.2.2.2 t).2) := by rw [← hr9]; simp only [zK, hi, sQ_of hQ, gQ_of hQ]
    subst hr9
    refine lv_astore_n (lv' := [(2, .ref a), (0, .ref x0), (1, .int x)]) hx hb dX9_cost_5 rfl hl (by decide) rfl (fun ls hl => ?_)
    refine lv_aload_n hx hb dX9_cost_6 rfl (lv_at hl 0 rfl) ?_
    refine lv_ifnonnull (tgt := 13) hx hb dX9_cost_7 (by decide) ?_
    refine lv_aload_n hx hb dX9_cost_13 rfl (lv_at hl 0 rfl) ?_
    refine vf_k (kd := pd.1) (K := nI pd.1) (zn := pd.2.1) (lm := pd.2.2.1) (d := pd.2.2.2) (t := t) (h0 := a) (k8 hp) C (ml_X9_65 hk.1 _) (px_cut hP hL hQ) (dx_cut hD hL hQ) hS hl.1 (Nat.le_of_ble_eq_true rfl) dX9_cost_14 ⟨by decide, by decide, by decide, by decide⟩ (fun H locs hB hD1 hS hf1 => ?_)
    have hP : va_P D cls (wx ca x0 da ht hr L (Q.set i (pd.1, pd.2.1, pd.2.2.1, pd.2.2.2)) (pk pd.1 pd.2.2.2 t).2) H := px_join hP hD hL hQ hf1 hB
    have hD : va_D A (wx ca x0 da ht hr L (Q.set i (pd.1, pd.2.1, pd.2.2.1, pd.2.2.2)) (pk pd.1 pd.2.2.2 t).2) := hD.to (wx_map hok.1 List.length_set)
    have e9 : Q.set i (pd.1, pd.2.1, pd.2.2.1, pd.2.2.2) = Q := by
      obtain ⟨h1, h2⟩ := List.getElem?_eq_some_iff.mp hQ
      rw [show (pd.1, pd.2.1, pd.2.2.1, pd.2.2.2) = Q[i] from h2.symm]; exact List.set_getElem_self h1
    rw [e9] at hP
    exact ri C hrt hlocks rfl hP hS dX9_cost_17

set_option maxHeartbeats 4000000 in
set_option maxRecDepth 100000 in
theorem M_weigh (l : Launch) (D : va_G) (ca : Nat → ClassId) (sa : Nat → Nat) (lo : Nat) (hl9 : l.stackTraces = false) (x0 da ht hr : Nat) (L : List Nat) (Q : List Pd) (t : Tr) (hok : okP L Q) (x v : Int32) (sz : Nat) : vx_Met l yX9_weigh [.code yX9_weigh cX9_weigh 4 (some .int)] ({ frames := 8, cells := 2, slots := 12, locals := 150 }) (PX D ca sa lo sz [.ref x0, .int x, .int v] (wx ca x0 da ht hr L Q t)) (QZ D (wx ca x0 da ht hr L (zW Q t x v).2.2.1 (zW Q t x v).2.2.2) (zW Q t x v).1 (zW Q t x v).2.1 (va_A (wx ca x0 da ht hr L Q t) sz)) (XZ D (wx ca x0 da ht hr L (zW Q t x v).2.2.1 (zW Q t x v).2.2.2) (zW Q t x v).1 (va_A (wx ca x0 da ht hr L Q t) sz)) 2 12 (va_A (wx ca x0 da ht hr L Q t) sz) := by
  generalize hr9 : zW Q t x v = r
  refine mk_metX (fun A => QZ D (wx ca x0 da ht hr L r.2.2.1 r.2.2.2) r.1 r.2.1 A) (fun A => XZ D (wx ca x0 da ht hr L r.2.2.1 r.2.2.2) r.1 A) (by decide) (Nat.le_of_ble_eq_true rfl) ?_
  intro p e s m below meth c A ls C hrt hlocks hno hsz hP hD hS hl
  obtain ⟨hx, hb, hml, hown, hk, hz, hlo, hA, hAl⟩ := id C
  have hK : va_K D cls (tyl ca) s := hk.2.1
  have hl : lv_has ls 4 [(0, .ref x0), (1, .int x), (2, .int v)] := hl
  refine lv_aload_n hx hb dX9_weigh_0 rfl (lv_at hl 0 rfl) ?_
  refine lv_iload_n hx hb dX9_weigh_1 rfl (lv_at hl 1 rfl) ?_
  refine k_find hok C hP hD hS hl.1 ⟨by decide, by decide⟩ (Nat.le_of_ble_eq_true rfl) dX9_weigh_2 ⟨by decide, by decide⟩ (fun hi H locs hP hS => ?_) (fun i a pd hi hj hxj hL hQ hp H locs hP hS => ?_)
  · have hr9 : r = (0, -101, Q, t) := by rw [← hr9]; simp only [zW, hi]
    subst hr9
    refine lv_astore_nN (lv' := [(3, .null), (0, .ref x0), (1, .int x), (2, .int v)]) hx hb dX9_weigh_5 rfl hl (by decide) rfl (fun ls hl => ?_)
    refine lv_aload_nN hx hb dX9_weigh_6 rfl (lv_at hl 0 rfl) ?_
    refine lv_ifnonnullN hx hb dX9_weigh_7 ?_
    refine lv_bipush (v := (-101)) hx hb dX9_weigh_10 (by decide) ?_
    exact rzz C hrt hlocks rfl rfl hP hS dX9_weigh_12 (by decide) (by decide)
  · refine lv_astore_n (lv' := [(3, .ref a), (0, .ref x0), (1, .int x), (2, .int v)]) hx hb dX9_weigh_5 rfl hl (by decide) rfl (fun ls hl => ?_)
    refine lv_aload_n hx hb dX9_weigh_6 rfl (lv_at hl 0 rfl) ?_
    refine lv_ifnonnull (tgt := 13) hx hb dX9_weigh_7 (by decide) ?_
    refine lv_iload_n hx hb dX9_weigh_13 rfl (lv_at hl 3 rfl) ?_
    refine k_num (n := 1) C (m_isNear l D ca sa lo v) (fun U A9 h => co_X9_isNear h A9) (in_X9 hk.1 _) (ml_X9_33 hk.1 _) (st_X9_isNear hk.1 _) (by decide +kernel) ⟨⟨rfl, rfl⟩, by decide, by decide⟩ hP hS rfl hl.1 rfl (Nat.le_of_ble_eq_true rfl) dX9_weigh_14 ⟨by decide, by decide⟩ (fun H locs hP hS _ _ => ?_)
    refine lv_if_ne (tgt := 23) hx hb dX9_weigh_17 (by decide) (fun c_1 => ?_) (fun c_1 => ?_)
    · have hr9 : r = ((pw pd.1 v pd.2.2.2 t).1, (pw pd.1 v pd.2.2.2 t).2.1, Q.set i (pd.1, pd.2.1, pd.2.2.1, (pw pd.1 v pd.2.2.2 t).2.2.1), (pw pd.1 v pd.2.2.2 t).2.2.2) := by rw [← hr9]; simp only [zW, hi, sQ_of hQ, gQ_of hQ]; rw [if_pos (bi_ne0 c_1)]
      subst hr9
      refine lv_aload_n hx hb dX9_weigh_23 rfl (lv_at hl 0 rfl) ?_
      refine lv_iload_n hx hb dX9_weigh_24 rfl (lv_at hl 3 rfl) ?_
      refine vf_w (kd := pd.1) (K := nI pd.1) (zn := pd.2.1) (lm := pd.2.2.1) (d := pd.2.2.2) (t := t) (h0 := a) hl9 (k8 hp) C (ml_X9_54 hk.1 _) (px_cut hP hL hQ) (dx_cut hD hL hQ) hS hl.1 (Nat.le_of_ble_eq_true rfl) dX9_weigh_25 ⟨by decide, by decide, by decide, by decide⟩ (fun E ce q9 H locs he hB hD1 hS hf1 h1 h2 h3 => ?_) (fun h0c H locs hB hD1 hS hf1 => ?_)
      · have hP : va_P D cls (wx ca x0 da ht hr L (Q.set i (pd.1, pd.2.1, pd.2.2.1, (pw pd.1 v pd.2.2.2 t).2.2.1)) (pw pd.1 v pd.2.2.2 t).2.2.2) H := px_join hP hD hL hQ hf1 hB
        have hD : va_D A (wx ca x0 da ht hr L (Q.set i (pd.1, pd.2.1, pd.2.2.1, (pw pd.1 v pd.2.2.2 t).2.2.1)) (pw pd.1 v pd.2.2.2 t).2.2.2) := hD.to (wx_map hok.1 List.length_set)
        exact ozz hno hlocks he hP hS h1 h2 h3 (by decide) (by decide)
      · have hP : va_P D cls (wx ca x0 da ht hr L (Q.set i (pd.1, pd.2.1, pd.2.2.1, (pw pd.1 v pd.2.2.2 t).2.2.1)) (pw pd.1 v pd.2.2.2 t).2.2.2) H := px_join hP hD hL hQ hf1 hB
        have hD : va_D A (wx ca x0 da ht hr L (Q.set i (pd.1, pd.2.1, pd.2.2.1, (pw pd.1 v pd.2.2.2 t).2.2.1)) (pw pd.1 v pd.2.2.2 t).2.2.2) := hD.to (wx_map hok.1 List.length_set)
        exact rzz C hrt hlocks h0c rfl hP hS dX9_weigh_28 (by decide) (by decide)
    · have hr9 : r = (0, -102, Q, t) := by rw [← hr9]; simp only [zW, hi]; rw [if_neg (by rw [bi_eq0 c_1]; decide)]
      subst hr9
      refine lv_bipush (v := (-102)) hx hb dX9_weigh_20 (by decide) ?_
      exact rzz C hrt hlocks rfl rfl hP hS dX9_weigh_22 (by decide) (by decide)

set_option maxHeartbeats 4000000 in
set_option maxRecDepth 100000 in
theorem M_read (l : Launch) (D : va_G) (ca : Nat → ClassId) (sa : Nat → Nat) (lo : Nat) (hl9 : l.stackTraces = false) (x0 da ht hr : Nat) (L : List Nat) (Q : List Pd) (t : Tr) (hok : okP L Q) (x v : Int32) (sz : Nat) : vx_Met l yX9_read [.code yX9_read cX9_read 4 (some .int)] ({ frames := 11, cells := 4, slots := 24, locals := 250 }) (PX D ca sa lo sz [.ref x0, .int x, .int v] (wx ca x0 da ht hr L Q t)) (QZ D (wx ca x0 da ht hr L (zR Q t x v).2.2.1 (zR Q t x v).2.2.2) (zR Q t x v).1 (zR Q t x v).2.1 (va_A (wx ca x0 da ht hr L Q t) sz)) (XZ D (wx ca x0 da ht hr L (zR Q t x v).2.2.1 (zR Q t x v).2.2.2) (zR Q t x v).1 (va_A (wx ca x0 da ht hr L Q t) sz)) 4 24 (va_A (wx ca x0 da ht hr L Q t) sz) := by
  generalize hr9 : zR Q t x v = r
  refine mk_metX (fun A => QZ D (wx ca x0 da ht hr L r.2.2.1 r.2.2.2) r.1 r.2.1 A) (fun A => XZ D (wx ca x0 da ht hr L r.2.2.1 r.2.2.2) r.1 A) (by decide) (Nat.le_of_ble_eq_true rfl) ?_
  intro p e s m below meth c A ls C hrt hlocks hno hsz hP hD hS hl
  obtain ⟨hx, hb, hml, hown, hk, hz, hlo, hA, hAl⟩ := id C
  have hK : va_K D cls (tyl ca) s := hk.2.1
  have hl : lv_has ls 4 [(0, .ref x0), (1, .int x), (2, .int v)] := hl
  refine lv_aload_n hx hb dX9_read_0 rfl (lv_at hl 0 rfl) ?_
  refine lv_iload_n hx hb dX9_read_1 rfl (lv_at hl 1 rfl) ?_
  refine k_find hok C hP hD hS hl.1 ⟨by decide, by decide⟩ (Nat.le_of_ble_eq_true rfl) dX9_read_2 ⟨by decide, by decide⟩ (fun hi H locs hP hS => ?_) (fun i a pd hi hj hxj hL hQ hp H locs hP hS => ?_)
  · have hr9 : r = (0, -101, Q, t) := by rw [← hr9]; simp only [zR, hi]
    subst hr9
    refine lv_astore_nN (lv' := [(3, .null), (0, .ref x0), (1, .int x), (2, .int v)]) hx hb dX9_read_5 rfl hl (by decide) rfl (fun ls hl => ?_)
    refine lv_aload_nN hx hb dX9_read_6 rfl (lv_at hl 0 rfl) ?_
    refine lv_ifnonnullN hx hb dX9_read_7 ?_
    refine lv_bipush (v := (-101)) hx hb dX9_read_10 (by decide) ?_
    exact rzz C hrt hlocks rfl rfl hP hS dX9_read_12 (by decide) (by decide)
  · refine lv_astore_n (lv' := [(3, .ref a), (0, .ref x0), (1, .int x), (2, .int v)]) hx hb dX9_read_5 rfl hl (by decide) rfl (fun ls hl => ?_)
    refine lv_aload_n hx hb dX9_read_6 rfl (lv_at hl 0 rfl) ?_
    refine lv_ifnonnull (tgt := 13) hx hb dX9_read_7 (by decide) ?_
    refine lv_iload_n hx hb dX9_read_13 rfl (lv_at hl 3 rfl) ?_
    refine k_num (n := 1) C (m_isNear l D ca sa lo v) (fun U A9 h => co_X9_isNear h A9) (in_X9 hk.1 _) (ml_X9_33 hk.1 _) (st_X9_isNear hk.1 _) (by decide +kernel) ⟨⟨rfl, rfl⟩, by decide, by decide⟩ hP hS rfl hl.1 rfl (Nat.le_of_ble_eq_true rfl) dX9_read_14 ⟨by decide, by decide⟩ (fun H locs hP hS _ _ => ?_)
    refine lv_if_ne (tgt := 23) hx hb dX9_read_17 (by decide) (fun c_1 => ?_) (fun c_1 => ?_)
    · have hr9 : r = ((pr pd.1 v pd.2.2.2 t).1, (pr pd.1 v pd.2.2.2 t).2.1.2.1, Q.set i (pd.1, pd.2.1, pd.2.2.1, (pr pd.1 v pd.2.2.2 t).2.1), (pr pd.1 v pd.2.2.2 t).2.2) := by rw [← hr9]; simp only [zR, hi, sQ_of hQ, gQ_of hQ]; rw [if_pos (bi_ne0 c_1)]
      subst hr9
      refine lv_aload_n hx hb dX9_read_23 rfl (lv_at hl 0 rfl) ?_
      refine lv_iload_n hx hb dX9_read_24 rfl (lv_at hl 3 rfl) ?_
      refine vf_r (kd := pd.1) (K := nI pd.1) (zn := pd.2.1) (lm := pd.2.2.1) (d := pd.2.2.2) (t := t) (h0 := a) hl9 (k8 hp) C (ml_X9_47 hk.1 _) (px_cut hP hL hQ) (dx_cut hD hL hQ) hS hl.1 (Nat.le_of_ble_eq_true rfl) dX9_read_25 ⟨by decide, by decide, by decide, by decide⟩ (fun E ce q9 H locs he hB hD1 hS hf1 h1 h2 h3 => ?_) (fun h0c H locs hB hD1 hS hf1 => ?_)
      · have hP : va_P D cls (wx ca x0 da ht hr L (Q.set i (pd.1, pd.2.1, pd.2.2.1, (pr pd.1 v pd.2.2.2 t).2.1)) (pr pd.1 v pd.2.2.2 t).2.2) H := px_join hP hD hL hQ hf1 hB
        have hD : va_D A (wx ca x0 da ht hr L (Q.set i (pd.1, pd.2.1, pd.2.2.1, (pr pd.1 v pd.2.2.2 t).2.1)) (pr pd.1 v pd.2.2.2 t).2.2) := hD.to (wx_map hok.1 List.length_set)
        exact ozz hno hlocks he hP hS h1 h2 h3 (by decide) (by decide)
      · have hP : va_P D cls (wx ca x0 da ht hr L (Q.set i (pd.1, pd.2.1, pd.2.2.1, (pr pd.1 v pd.2.2.2 t).2.1)) (pr pd.1 v pd.2.2.2 t).2.2) H := px_join hP hD hL hQ hf1 hB
        have hD : va_D A (wx ca x0 da ht hr L (Q.set i (pd.1, pd.2.1, pd.2.2.1, (pr pd.1 v pd.2.2.2 t).2.1)) (pr pd.1 v pd.2.2.2 t).2.2) := hD.to (wx_map hok.1 List.length_set)
        refine lv_aload_n hx hb dX9_read_28 rfl (lv_at hl 0 rfl) ?_
        obtain ⟨Cn, hd⟩ := isD_kc hp
        refine va_get (D := D) (C := Cn) (T := TX3) (N := 9) hx hb (hd.2 _ _ hk.1) (fun _ h9 => h9) hown hK hP (4 + i) (wx_at hL (List.getElem?_set_self hj)) hd.1 5 (by decide) (fl_X9_51 hk.1 _) (fun _ h9 => h9) rfl dX9_read_29 ?_
        exact rzz C hrt hlocks h0c rfl hP hS dX9_read_32 (by decide) (by decide)
    · have hr9 : r = (0, -102, Q, t) := by rw [← hr9]; simp only [zR, hi]; rw [if_neg (by rw [bi_eq0 c_1]; decide)]
      subst hr9
      refine lv_bipush (v := (-102)) hx hb dX9_read_20 (by decide) ?_
      exact rzz C hrt hlocks rfl rfl hP hS dX9_read_22 (by decide) (by decide)
