set_option maxHeartbeats 4000000 in
set_option maxRecDepth 100000 in
theorem M_sweep (l : Launch) (D : va_G) (ca : Nat → ClassId) (sa : Nat → Nat) (lo : Nat) (hl9 : l.stackTraces = false) (x0 da ht hr : Nat) (L : List Nat) (Q : List Pd) (t : Tr) (hok : okP L Q) (zn v : Int32) (sz : Nat) : Met l yX9_sweep [.codeWith yX9_sweep cX9_sweep 7 (some .int) [(45, 51, 54, 95), (45, 51, 62, 97)]] ({ frames := 11, cells := 80, slots := 480, locals := 250 }) (PX D ca sa lo sz [.ref x0, .int zn, .int v] (wx ca x0 da ht hr L Q t)) (QI D (zS Q t zn v).1 (wx ca x0 da ht hr L (zS Q t zn v).2.1 (zS Q t zn v).2.2) (va_A (wx ca x0 da ht hr L Q t) sz)) 80 480 (va_A (wx ca x0 da ht hr L Q t) sz) := by
  generalize hr9 : zS Q t zn v = r
  refine mk_metH (fun A => QI D r.1 (wx ca x0 da ht hr L r.2.1 r.2.2) A) (by decide) (Nat.le_of_ble_eq_true rfl) ?_
  intro p e s m below meth c A ls C hrt hlocks htab hsz hP hD hS hl
  obtain ⟨hx, hb, hml, hown, hk, hz, hlo, hA, hAl⟩ := id C
  have hK : va_K D cls (tyl ca) s := hk.2.1
  have hl : lv_has ls 7 [(0, .ref x0), (1, .int zn), (2, .int v)] := hl
  refine lv_iload_n hx hb dX9_sweep_0 rfl (lv_at hl 1 rfl) ?_
  refine k_num (n := 1) C (m_isZone l D ca sa lo zn) (fun U A9 h => co_X9_isZone h A9) (in_X9 hk.1 _) (ml_X9_30 hk.1 _) (st_X9_isZone hk.1 _) (by decide +kernel) ⟨⟨rfl, rfl⟩, by decide, by decide⟩ hP hS rfl hl.1 rfl (Nat.le_of_ble_eq_true rfl) dX9_sweep_1 ⟨by decide, by decide⟩ (fun H locs hP hS _ _ => ?_)
  refine lv_if_eq (tgt := 14) hx hb dX9_sweep_4 (by decide) (fun c_1 => ?_) (fun c_1 => ?_)
  · have hr9 : r = (-102, Q, t) := by rw [← hr9]; exact if_neg (fun h9 => by rw [bi_eq0 c_1] at h9; simp at h9)
    subst hr9
    refine lv_bipush (v := (-102)) hx hb dX9_sweep_14 (by decide) ?_
    refine W.widen (k := 80) (n := 480) (by decide) (by decide) ?_
    exact ri C hrt hlocks rfl hP hS dX9_sweep_16
  · refine lv_iload_n hx hb dX9_sweep_7 rfl (lv_at hl 2 rfl) ?_
    refine k_num (n := 1) C (m_isNear l D ca sa lo v) (fun U A9 h => co_X9_isNear h A9) (in_X9 hk.1 _) (ml_X9_33 hk.1 _) (st_X9_isNear hk.1 _) (by decide +kernel) ⟨⟨rfl, rfl⟩, by decide, by decide⟩ hP hS rfl hl.1 rfl (Nat.le_of_ble_eq_true rfl) dX9_sweep_8 ⟨by decide, by decide⟩ (fun H locs hP hS _ _ => ?_)
    refine lv_if_ne (tgt := 17) hx hb dX9_sweep_11 (by decide) (fun c_2 => ?_) (fun c_2 => ?_)
    · have hr9 : r = ((lp (swS zn v) Q.length (Q, t, 0)).2.2, (lp (swS zn v) Q.length (Q, t, 0)).1, (lp (swS zn v) Q.length (Q, t, 0)).2.1) := by rw [← hr9]; exact if_pos ⟨bi_ne0 c_1, bi_ne0 c_2⟩
      refine lv_iconst (v := 0) hx hb dX9_sweep_17 (by decide) ?_
      refine lv_istore_n (lv' := [(3, .int 0), (0, .ref x0), (1, .int zn), (2, .int v)]) hx hb dX9_sweep_18 rfl hl (by decide) rfl (fun ls hl => ?_)
      refine lv_iconst (v := 0) hx hb dX9_sweep_19 (by decide) ?_
      refine lv_istore (lv' := [(4, .int 0), (3, .int 0), (0, .ref x0), (1, .int zn), (2, .int v)]) hx hb dX9_sweep_20 hl (by decide) rfl (fun ls hl => ?_)
      have hl : lv_has ls 7 [(0, .ref x0), (1, .int zn), (2, .int v), (3, .int 0), (4, .int (nI 0))] := by rw [nI_0]; exact lv_sub hl [2, 3, 4, 1, 0] rfl
      exact L_sweep hl9 C hrt hlocks htab hok.2.1 hr9 Q.length 0 (by omega) Q t 0 rfl hok rfl H locs ls hP hD hS hl
    · have hr9 : r = (-102, Q, t) := by rw [← hr9]; exact if_neg (fun h9 => by rw [bi_eq0 c_2] at h9; simp at h9)
      subst hr9
      refine lv_bipush (v := (-102)) hx hb dX9_sweep_14 (by decide) ?_
      refine W.widen (k := 80) (n := 480) (by decide) (by decide) ?_
      exact ri C hrt hlocks rfl hP hS dX9_sweep_16

set_option maxHeartbeats 4000000 in
set_option maxRecDepth 100000 in
theorem M_alarm (l : Launch) (D : va_G) (ca : Nat → ClassId) (sa : Nat → Nat) (lo : Nat) (x0 da ht hr : Nat) (L : List Nat) (Q : List Pd) (t : Tr) (hok : okP L Q) (zn kq : Int32) (sz : Nat) : Met l yX9_alarm [.code yX9_alarm cX9_alarm 6 (some .int)] ({ frames := 4, cells := 0, slots := 0, locals := 120 }) (PX D ca sa lo sz [.ref x0, .int zn, .int kq] (wx ca x0 da ht hr L Q t)) (QI D (zA Q t zn kq).1 (wx ca x0 da ht hr L (zA Q t zn kq).2.1 (zA Q t zn kq).2.2) (va_A (wx ca x0 da ht hr L Q t) sz)) 0 0 (va_A (wx ca x0 da ht hr L Q t) sz) := by
  generalize hr9 : zA Q t zn kq = r
  refine mk_met (fun A => QI D r.1 (wx ca x0 da ht hr L r.2.1 r.2.2) A) (by decide) (Nat.le_of_ble_eq_true rfl) ?_
  intro p e s m below meth c A ls C hrt hlocks hnm hsz hP hD hS hl
  obtain ⟨hx, hb, hml, hown, hk, hz, hlo, hA, hAl⟩ := id C
  have hK : va_K D cls (tyl ca) s := hk.2.1
  have hl : lv_has ls 6 [(0, .ref x0), (1, .int zn), (2, .int kq)] := hl
  refine lv_iload_n hx hb dX9_alarm_0 rfl (lv_at hl 1 rfl) ?_
  refine k_num (n := 1) C (m_isZone l D ca sa lo zn) (fun U A9 h => co_X9_isZone h A9) (in_X9 hk.1 _) (ml_X9_30 hk.1 _) (st_X9_isZone hk.1 _) (by decide +kernel) ⟨⟨rfl, rfl⟩, by decide, by decide⟩ hP hS rfl hl.1 rfl (Nat.le_of_ble_eq_true rfl) dX9_alarm_1 ⟨by decide, by decide⟩ (fun H locs hP hS _ _ => ?_)
  refine lv_if_eq (tgt := 18) hx hb dX9_alarm_4 (by decide) (fun c_1 => ?_) (fun c_1 => ?_)
  · have hr9 : r = (-102, Q, t) := by rw [← hr9]; exact if_neg (fun h9 => by rw [bi_eq0 c_1] at h9; simp at h9)
    subst hr9
    refine lv_bipush (v := (-102)) hx hb dX9_alarm_18 (by decide) ?_
    exact ri C hrt hlocks rfl hP hS dX9_alarm_20
  · refine lv_iload_n hx hb dX9_alarm_7 rfl (lv_at hl 2 rfl) ?_
    refine lv_iconst (v := 1) hx hb dX9_alarm_8 (by decide) ?_
    refine lv_icmp_lt (tgt := 18) hx hb dX9_alarm_9 (by decide) (fun c_2 => ?_) (fun c_2 => ?_)
    · have hr9 : r = (-102, Q, t) := by rw [← hr9]; exact if_neg (fun h9 => by have := (bi_eq0 (rng_f1 (b := 60) c_2).symm); rw [this] at h9; simp at h9)
      subst hr9
      refine lv_bipush (v := (-102)) hx hb dX9_alarm_18 (by decide) ?_
      exact ri C hrt hlocks rfl hP hS dX9_alarm_20
    · refine lv_iload_n hx hb dX9_alarm_12 rfl (lv_at hl 2 rfl) ?_
      refine lv_bipush (v := 60) hx hb dX9_alarm_13 (by decide) ?_
      refine lv_icmp_le (tgt := 21) hx hb dX9_alarm_15 (by decide) (fun c_3 => ?_) (fun c_3 => ?_)
      · have hr9 : r = (bi (decide (kq ≤ (lp (alS zn) Q.length (Q, t, 0)).2.2)), (lp (alS zn) Q.length (Q, t, 0)).1, (lp (alS zn) Q.length (Q, t, 0)).2.1) := by rw [← hr9]; exact if_pos ⟨bi_ne0 c_1, bi_ne0 (fun h9 => absurd ((rng_t c_2 (Int32.not_lt.mpr c_3)).trans h9) (by decide))⟩
        refine lv_iconst (v := 0) hx hb dX9_alarm_21 (by decide) ?_
        refine lv_istore_n (lv' := [(3, .int 0), (0, .ref x0), (1, .int zn), (2, .int kq)]) hx hb dX9_alarm_22 rfl hl (by decide) rfl (fun ls hl => ?_)
        refine lv_iconst (v := 0) hx hb dX9_alarm_23 (by decide) ?_
        refine lv_istore (lv' := [(4, .int 0), (3, .int 0), (0, .ref x0), (1, .int zn), (2, .int kq)]) hx hb dX9_alarm_24 hl (by decide) rfl (fun ls hl => ?_)
        have hl : lv_has ls 6 [(0, .ref x0), (1, .int zn), (2, .int kq), (3, .int 0), (4, .int (nI 0))] := by rw [nI_0]; exact lv_sub hl [2, 3, 4, 1, 0] rfl
        exact L_alarm C hrt hlocks hok.2.1 hr9 Q.length 0 (by omega) Q t 0 rfl hok rfl H locs ls hP hD hS hl
      · have hr9 : r = (-102, Q, t) := by rw [← hr9]; exact if_neg (fun h9 => by have := (bi_eq0 (rng_f2 c_2 (Int32.not_le.mp c_3)).symm); rw [this] at h9; simp at h9)
        subst hr9
        refine lv_bipush (v := (-102)) hx hb dX9_alarm_18 (by decide) ?_
        exact ri C hrt hlocks rfl hP hS dX9_alarm_20

set_option maxHeartbeats 4000000 in
set_option maxRecDepth 100000 in
theorem M_costs (l : Launch) (D : va_G) (ca : Nat → ClassId) (sa : Nat → Nat) (lo : Nat) (x0 da ht hr : Nat) (L : List Nat) (Q : List Pd) (t : Tr) (hok : okP L Q) (sz : Nat) : Met l yX9_costs [.code yX9_costs cX9_costs 4 (some .int)] ({ frames := 3, cells := 0, slots := 0, locals := 90 }) (PX D ca sa lo sz [.ref x0] (wx ca x0 da ht hr L Q t)) (QI D (zP Q t).1 (wx ca x0 da ht hr L (zP Q t).2.1 (zP Q t).2.2) (va_A (wx ca x0 da ht hr L Q t) sz)) 0 0 (va_A (wx ca x0 da ht hr L Q t) sz) := by
  generalize hr9 : zP Q t = r
  refine mk_met (fun A => QI D r.1 (wx ca x0 da ht hr L r.2.1 r.2.2) A) (by decide) (Nat.le_of_ble_eq_true rfl) ?_
  intro p e s m below meth c A ls C hrt hlocks hnm hsz hP hD hS hl
  obtain ⟨hx, hb, hml, hown, hk, hz, hlo, hA, hAl⟩ := id C
  have hK : va_K D cls (tyl ca) s := hk.2.1
  have hl : lv_has ls 4 [(0, .ref x0)] := hl
  refine lv_iconst (v := 0) hx hb dX9_costs_0 (by decide) ?_
  refine lv_istore_n (lv' := [(1, .int 0), (0, .ref x0)]) hx hb dX9_costs_1 rfl hl (by decide) rfl (fun ls hl => ?_)
  refine lv_iconst (v := 0) hx hb dX9_costs_2 (by decide) ?_
  refine lv_istore_n (lv' := [(2, .int 0), (1, .int 0), (0, .ref x0)]) hx hb dX9_costs_3 rfl hl (by decide) rfl (fun ls hl => ?_)
  have hl : lv_has ls 4 [(0, .ref x0), (1, .int 0), (2, .int (nI 0))] := by rw [nI_0]; exact lv_sub hl [2, 1, 0] rfl
  exact L_costs C hrt hlocks hok.2.1 hr9.symm Q.length 0 (by omega) Q t 0 rfl hok rfl _ _ ls hP hD hS hl
