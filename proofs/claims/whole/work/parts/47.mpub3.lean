set_option maxHeartbeats 4000000 in
set_option maxRecDepth 100000 in
theorem N_sweep (l : Launch) (D : va_G) (ca : Nat → ClassId) (sa : Nat → Nat) (lo : Nat) (ya : Nat → Nat) (F : Nat → Pd) (Q : List Pd) (cd fl : Int32) (t : Tr) (hok : okQ Q) (hF : RQ F Q) (ht : t.1 + 220 ≤ 2147483648) (zq v : Int32) (sz : Nat) : Met l yX10_sweep [.code yX10_sweep cX10_sweep 5 (some .int)] ({ frames := 6, cells := 0, slots := 0, locals := 190 }) (PX D ca sa lo sz [.ref (ya 0), .int zq, .int v] (wm ca ya F Q.length cd fl t)) (QF D ca ya (zS Q t zq v).1 0 (zS Q t zq v).2.1 (zS Q t zq v).2.2 (va_A (wm ca ya F Q.length cd fl t) sz)) 0 0 (va_A (wm ca ya F Q.length cd fl t) sz) := by
  generalize hr9 : zS Q t zq v = r
  refine mk_met (fun A => QF D ca ya r.1 0 r.2.1 r.2.2 A) (by decide) (Nat.le_of_ble_eq_true rfl) ?_
  intro p e s m below meth c A ls C hrt hlocks hnm hsz hP hD hS hl
  obtain ⟨hx, hb, hml, hown, hk, hz, hlo, hA, hAl⟩ := id C
  have hK : va_K D cls (tyl ca) s := hk.2.1
  have hl : lv_has ls 5 [(0, .ref (ya 0)), (1, .int zq), (2, .int v)] := hl
  refine lv_aload_n hx hb dX10_sweep_0 rfl (lv_at hl 0 rfl) ?_
  refine lv_iconst (v := 0) hx hb dX10_sweep_1 (by decide) ?_
  refine va_put (D := D) (v := .int 0) (ty := .int) (C := RX10) (T := TX10) (N := 15) hx hb (uc_10 hk.1 _) (fun _ h9 => h9) tyX10 tyX10_ok nmX10 hown hK hP hD hS 0 rfl rfl 0 (by decide) (fl_X10_38 hk.1 _) (fun _ h9 => h9) rfl (by decide +kernel) rfl rfl (Nat.le_of_ble_eq_true rfl) dX10_sweep_2 (fun H locs hP hD hS => ?_)
  have hP : va_P D cls (wm ca ya F Q.length 0 fl t) H := hP
  have hD : va_D A (wm ca ya F Q.length 0 fl t) := hD
  refine lv_iload_n hx hb dX10_sweep_5 rfl (lv_at hl 1 rfl) ?_
  refine lv_iconst (v := 0) hx hb dX10_sweep_6 (by decide) ?_
  refine lv_iconst (v := 5) hx hb dX10_sweep_7 (by decide) ?_
  refine k_num (n := 3) C (n_isIn l D ca sa lo zq 0 5) (fun U A9 h => co_X10_isIn h A9) (in_X10 hk.1 _) (ml_X10_45 hk.1 _) (st_X10_isIn hk.1 _) (by decide +kernel) ⟨⟨rfl, rfl⟩, by decide, by decide⟩ hP hS rfl hl.1 rfl (Nat.le_of_ble_eq_true rfl) dX10_sweep_8 ⟨by decide, by decide⟩ (fun H locs hP hS _ _ => ?_)
  refine lv_if_eq (tgt := 27) hx hb dX10_sweep_11 (by decide) (fun c_1 => ?_) (fun c_1 => ?_)
  · have hr9 : r = (-102, Q, t) := by rw [← hr9]; exact if_neg (fun h9 => by rw [bi_eq0 c_1] at h9; simp at h9)
    subst hr9
    refine lv_bipush (v := (-102)) hx hb dX10_sweep_27 (by decide) ?_
    exact rf_ C hrt hlocks rfl hF hP hS dX10_sweep_29
  · refine lv_iload_n hx hb dX10_sweep_14 rfl (lv_at hl 2 rfl) ?_
    refine lv_sipush (v := (-10000)) hx hb dX10_sweep_15 (by decide) ?_
    refine lv_sipush (v := 10000) hx hb dX10_sweep_18 (by decide) ?_
    refine k_num (n := 3) C (n_isIn l D ca sa lo v (-10000) 10000) (fun U A9 h => co_X10_isIn h A9) (in_X10 hk.1 _) (ml_X10_45 hk.1 _) (st_X10_isIn hk.1 _) (by decide +kernel) ⟨⟨rfl, rfl⟩, by decide, by decide⟩ hP hS rfl hl.1 rfl (Nat.le_of_ble_eq_true rfl) dX10_sweep_21 ⟨by decide, by decide⟩ (fun H locs hP hS _ _ => ?_)
    refine lv_if_ne (tgt := 30) hx hb dX10_sweep_24 (by decide) (fun c_2 => ?_) (fun c_2 => ?_)
    · have hr9 : r = ((lp (swS zq v) Q.length (Q, t, 0)).2.2, (lp (swS zq v) Q.length (Q, t, 0)).1, (lp (swS zq v) Q.length (Q, t, 0)).2.1) := by rw [← hr9]; exact if_pos ⟨bi_ne0 c_1, bi_ne0 c_2⟩
      refine lv_iconst (v := 0) hx hb dX10_sweep_30 (by decide) ?_
      refine lv_istore_n (lv' := [(3, .int 0), (0, .ref (ya 0)), (1, .int zq), (2, .int v)]) hx hb dX10_sweep_31 rfl hl (by decide) rfl (fun ls hl => ?_)
      refine lv_iconst (v := 0) hx hb dX10_sweep_32 (by decide) ?_
      refine lv_istore (lv' := [(4, .int 0), (3, .int 0), (0, .ref (ya 0)), (1, .int zq), (2, .int v)]) hx hb dX10_sweep_33 hl (by decide) rfl (fun ls hl => ?_)
      have hl : lv_has ls 5 [(0, .ref (ya 0)), (1, .int zq), (2, .int v), (3, .int 0), (4, .int (nI 0))] := by rw [nI_0]; exact lv_sub hl [2, 3, 4, 1, 0] rfl
      exact LM_sweep C hrt hlocks hok.1 ht hr9 Q.length 0 (by omega) Q t 0 rfl hok rfl (by omega) F fl hF _ _ ls hP hD hS hl
    · have hr9 : r = (-102, Q, t) := by rw [← hr9]; exact if_neg (fun h9 => by rw [bi_eq0 c_2] at h9; simp at h9)
      subst hr9
      refine lv_bipush (v := (-102)) hx hb dX10_sweep_27 (by decide) ?_
      exact rf_ C hrt hlocks rfl hF hP hS dX10_sweep_29

set_option maxHeartbeats 4000000 in
set_option maxRecDepth 100000 in
theorem N_alarm (l : Launch) (D : va_G) (ca : Nat → ClassId) (sa : Nat → Nat) (lo : Nat) (ya : Nat → Nat) (F : Nat → Pd) (Q : List Pd) (cd fl : Int32) (t : Tr) (hok : okQ Q) (hF : RQ F Q) (ht : t.1 + 40 ≤ 2147483648) (zq kq : Int32) (sz : Nat) : Met l yX10_alarm [.code yX10_alarm cX10_alarm 6 (some .int)] ({ frames := 3, cells := 0, slots := 0, locals := 95 }) (PX D ca sa lo sz [.ref (ya 0), .int zq, .int kq] (wm ca ya F Q.length cd fl t)) (QF D ca ya (zA Q t zq kq).1 0 (zA Q t zq kq).2.1 (zA Q t zq kq).2.2 (va_A (wm ca ya F Q.length cd fl t) sz)) 0 0 (va_A (wm ca ya F Q.length cd fl t) sz) := by
  generalize hr9 : zA Q t zq kq = r
  refine mk_met (fun A => QF D ca ya r.1 0 r.2.1 r.2.2 A) (by decide) (Nat.le_of_ble_eq_true rfl) ?_
  intro p e s m below meth c A ls C hrt hlocks hnm hsz hP hD hS hl
  obtain ⟨hx, hb, hml, hown, hk, hz, hlo, hA, hAl⟩ := id C
  have hK : va_K D cls (tyl ca) s := hk.2.1
  have hl : lv_has ls 6 [(0, .ref (ya 0)), (1, .int zq), (2, .int kq)] := hl
  refine lv_aload_n hx hb dX10_alarm_0 rfl (lv_at hl 0 rfl) ?_
  refine lv_iconst (v := 0) hx hb dX10_alarm_1 (by decide) ?_
  refine va_put (D := D) (v := .int 0) (ty := .int) (C := RX10) (T := TX10) (N := 15) hx hb (uc_10 hk.1 _) (fun _ h9 => h9) tyX10 tyX10_ok nmX10 hown hK hP hD hS 0 rfl rfl 0 (by decide) (fl_X10_38 hk.1 _) (fun _ h9 => h9) rfl (by decide +kernel) rfl rfl (Nat.le_of_ble_eq_true rfl) dX10_alarm_2 (fun H locs hP hD hS => ?_)
  have hP : va_P D cls (wm ca ya F Q.length 0 fl t) H := hP
  have hD : va_D A (wm ca ya F Q.length 0 fl t) := hD
  refine lv_iload_n hx hb dX10_alarm_5 rfl (lv_at hl 1 rfl) ?_
  refine lv_iconst (v := 0) hx hb dX10_alarm_6 (by decide) ?_
  refine lv_iconst (v := 5) hx hb dX10_alarm_7 (by decide) ?_
  refine k_num (n := 3) C (n_isIn l D ca sa lo zq 0 5) (fun U A9 h => co_X10_isIn h A9) (in_X10 hk.1 _) (ml_X10_45 hk.1 _) (st_X10_isIn hk.1 _) (by decide +kernel) ⟨⟨rfl, rfl⟩, by decide, by decide⟩ hP hS rfl hl.1 rfl (Nat.le_of_ble_eq_true rfl) dX10_alarm_8 ⟨by decide, by decide⟩ (fun H locs hP hS _ _ => ?_)
  refine lv_if_eq (tgt := 24) hx hb dX10_alarm_11 (by decide) (fun c_1 => ?_) (fun c_1 => ?_)
  · have hr9 : r = (-102, Q, t) := by rw [← hr9]; exact if_neg (fun h9 => by rw [bi_eq0 c_1] at h9; simp at h9)
    subst hr9
    refine lv_bipush (v := (-102)) hx hb dX10_alarm_24 (by decide) ?_
    exact rf_ C hrt hlocks rfl hF hP hS dX10_alarm_26
  · refine lv_iload_n hx hb dX10_alarm_14 rfl (lv_at hl 2 rfl) ?_
    refine lv_iconst (v := 1) hx hb dX10_alarm_15 (by decide) ?_
    refine lv_bipush (v := 60) hx hb dX10_alarm_16 (by decide) ?_
    refine k_num (n := 3) C (n_isIn l D ca sa lo kq 1 60) (fun U A9 h => co_X10_isIn h A9) (in_X10 hk.1 _) (ml_X10_45 hk.1 _) (st_X10_isIn hk.1 _) (by decide +kernel) ⟨⟨rfl, rfl⟩, by decide, by decide⟩ hP hS rfl hl.1 rfl (Nat.le_of_ble_eq_true rfl) dX10_alarm_18 ⟨by decide, by decide⟩ (fun H locs hP hS _ _ => ?_)
    refine lv_if_ne (tgt := 27) hx hb dX10_alarm_21 (by decide) (fun c_2 => ?_) (fun c_2 => ?_)
    · have hr9 : r = (bi (decide (kq ≤ (lp (alS zq) Q.length (Q, t, 0)).2.2)), (lp (alS zq) Q.length (Q, t, 0)).1, (lp (alS zq) Q.length (Q, t, 0)).2.1) := by rw [← hr9]; exact if_pos ⟨bi_ne0 c_1, bi_ne0 c_2⟩
      refine lv_iconst (v := 0) hx hb dX10_alarm_27 (by decide) ?_
      refine lv_istore_n (lv' := [(3, .int 0), (0, .ref (ya 0)), (1, .int zq), (2, .int kq)]) hx hb dX10_alarm_28 rfl hl (by decide) rfl (fun ls hl => ?_)
      refine lv_iconst (v := 0) hx hb dX10_alarm_29 (by decide) ?_
      refine lv_istore (lv' := [(4, .int 0), (3, .int 0), (0, .ref (ya 0)), (1, .int zq), (2, .int kq)]) hx hb dX10_alarm_30 hl (by decide) rfl (fun ls hl => ?_)
      have hl : lv_has ls 6 [(0, .ref (ya 0)), (1, .int zq), (2, .int kq), (3, .int 0), (4, .int (nI 0))] := by rw [nI_0]; exact lv_sub hl [2, 3, 4, 1, 0] rfl
      exact LM_alarm C hrt hlocks hok.1 ht hr9 Q.length 0 (by omega) Q t 0 rfl hok rfl (by omega) F fl hF _ _ ls hP hD hS hl
    · have hr9 : r = (-102, Q, t) := by rw [← hr9]; exact if_neg (fun h9 => by rw [bi_eq0 c_2] at h9; simp at h9)
      subst hr9
      refine lv_bipush (v := (-102)) hx hb dX10_alarm_24 (by decide) ?_
      exact rf_ C hrt hlocks rfl hF hP hS dX10_alarm_26

set_option maxHeartbeats 4000000 in
set_option maxRecDepth 100000 in
theorem N_costs (l : Launch) (D : va_G) (ca : Nat → ClassId) (sa : Nat → Nat) (lo : Nat) (ya : Nat → Nat) (F : Nat → Pd) (Q : List Pd) (cd fl : Int32) (t : Tr) (hok : okQ Q) (hF : RQ F Q) (ht : t.1 + 40 ≤ 2147483648) (sz : Nat) : Met l yX10_costs [.code yX10_costs cX10_costs 3 (some .int)] ({ frames := 2, cells := 0, slots := 0, locals := 65 }) (PX D ca sa lo sz [.ref (ya 0)] (wm ca ya F Q.length cd fl t)) (QF D ca ya (zP Q t).1 0 (zP Q t).2.1 (zP Q t).2.2 (va_A (wm ca ya F Q.length cd fl t) sz)) 0 0 (va_A (wm ca ya F Q.length cd fl t) sz) := by
  generalize hr9 : zP Q t = r
  refine mk_met (fun A => QF D ca ya r.1 0 r.2.1 r.2.2 A) (by decide) (Nat.le_of_ble_eq_true rfl) ?_
  intro p e s m below meth c A ls C hrt hlocks hnm hsz hP hD hS hl
  obtain ⟨hx, hb, hml, hown, hk, hz, hlo, hA, hAl⟩ := id C
  have hK : va_K D cls (tyl ca) s := hk.2.1
  have hl : lv_has ls 3 [(0, .ref (ya 0))] := hl
  refine lv_aload_n hx hb dX10_costs_0 rfl (lv_at hl 0 rfl) ?_
  refine lv_iconst (v := 0) hx hb dX10_costs_1 (by decide) ?_
  refine va_put (D := D) (v := .int 0) (ty := .int) (C := RX10) (T := TX10) (N := 15) hx hb (uc_10 hk.1 _) (fun _ h9 => h9) tyX10 tyX10_ok nmX10 hown hK hP hD hS 0 rfl rfl 0 (by decide) (fl_X10_38 hk.1 _) (fun _ h9 => h9) rfl (by decide +kernel) rfl rfl (Nat.le_of_ble_eq_true rfl) dX10_costs_2 (fun H locs hP hD hS => ?_)
  have hP : va_P D cls (wm ca ya F Q.length 0 fl t) H := hP
  have hD : va_D A (wm ca ya F Q.length 0 fl t) := hD
  refine lv_iconst (v := 0) hx hb dX10_costs_5 (by decide) ?_
  refine lv_istore_n (lv' := [(1, .int 0), (0, .ref (ya 0))]) hx hb dX10_costs_6 rfl hl (by decide) rfl (fun ls hl => ?_)
  refine lv_iconst (v := 0) hx hb dX10_costs_7 (by decide) ?_
  refine lv_istore_n (lv' := [(2, .int 0), (1, .int 0), (0, .ref (ya 0))]) hx hb dX10_costs_8 rfl hl (by decide) rfl (fun ls hl => ?_)
  have hl : lv_has ls 3 [(0, .ref (ya 0)), (1, .int 0), (2, .int (nI 0))] := by rw [nI_0]; exact lv_sub hl [2, 1, 0] rfl
  exact LM_costs C hrt hlocks hok.1 ht hr9.symm Q.length 0 (by omega) Q t 0 rfl hok rfl (by omega) F fl hF _ _ ls hP hD hS hl

def F0_ : Nat → Pd := fun _ => (0, 0, 0, 0, 0, 0, 0, false)
def QNM (D : va_G) (ca : Nat → ClassId) (y0 : Nat) (A : Nat → Prop) : Array Value → State → Outcome → State → Prop := va_Qv (S := Nat → Nat) (fun ya => ya 0 = y0) (fun ya t => va_P D cls (wm ca ya F0_ 0 0 0 t0) t.heap ∧ va_D A (wm ca ya F0_ 0 0 0 t0)) A
section RNM
variable {D : va_G} {ca : Nat → ClassId} {sa : Nat → Nat} {lo : Nat} {p : Program} {l : Launch} {e : Env} {R : Room} {s : State} {m : MethodId} {args : Array Value} {below : List Frame} {meth : Method} {c : Code} {cc : ByteArray} {nL : Nat} {own : String} {A : Nat → Prop} {H : Heap} {locs : List Loc} {cells slots : Nat} {ls : Array Slot} {pc : Nat}
theorem rnm {y0 : Nat} (C : Cx D ca sa lo p s m c cc nL own A) (hrt : meth.sig.returnType = none) (hlocks : meth.locks = false) (ya : Nat → Nat) (h0 : ya 0 = y0) (hP : va_P D cls (wm ca ya F0_ 0 0 0 t0) H) (hD : va_D A (wm ca ya F0_ 0 0 0 t0)) (hS : va_S A s.heap H locs) (hdg : decode cc pc = .ok (.return_, 1)) : W p l e R s m args below meth c H locs cells slots (MQ below (QNM D ca y0 A) args s cells slots A) (F0 m pc ls []) :=
  W.vret C.1 C.2.1 hrt (fun t ht hW => ⟨⟨ya, rfl, h0, by subst ht; exact hP, hD⟩, hS.F ht⟩) hS.2.2 hdg hlocks
end RNM

set_option maxHeartbeats 4000000 in
set_option maxRecDepth 100000 in
theorem iM (l : Launch) (D : va_G) (ca : Nat → ClassId) (sa : Nat → Nat) (lo : Nat) (y0 : Nat) (sz : Nat) : Met l yX10_init [.code yX10_init cX10_init 1 none] ({ frames := 1, cells := 9, slots := 360, locals := 20 }) (PX D ca sa lo sz [.ref y0] [(y0, .inr (10, [.int 0, .int 0, .null, .null, .null, .null, .null, .null, .null, .null, .null, .int 0, .int 0, .int 0, .int 0]))]) (QNM D ca y0 (va_A [(y0, .inr (10, [.int 0, .int 0, .null, .null, .null, .null, .null, .null, .null, .null, .null, .int 0, .int 0, .int 0, .int 0]))] sz)) 9 360 (va_A [(y0, .inr (10, [.int 0, .int 0, .null, .null, .null, .null, .null, .null, .null, .null, .null, .int 0, .int 0, .int 0, .int 0]))] sz) := by
  refine mk_met (fun A => QNM D ca y0 A) (by decide) (Nat.le_of_ble_eq_true rfl) ?_
  intro p e s m below meth c A ls C hrt hlocks hnm hsz hP hD hS hl
  obtain ⟨hx, hb, hml, hown, hk, hz, hlo, hA, hAl⟩ := id C
  have hK : va_K D cls (tyl ca) s := hk.2.1
  have hl : lv_has ls 1 [(0, .ref y0)] := hl
  have hin : meth.name = "<init>" := hnm
  refine lv_aload_n hx hb dX10_init_0 rfl (lv_at hl 0 rfl) ?_
  refine W.objInit hx hb hown (ml_X10_1 hk.1 _) (im_O_init hk.1 _) (co_O_init hk.1 _) rfl (by rw [hml]; exact hl.1) rfl dX10_init_1 (by decide) (Nat.le_of_ble_eq_true rfl) ?_
  refine W.eq (g2 := F0 m 4 ls []) rfl ?_
  refine lv_aload_n hx hb dX10_init_4 rfl (lv_at hl 0 rfl) ?_
  refine lv_bipush (v := 20) hx hb dX10_init_5 (by decide) ?_
  refine va_newa (atype := .int) (ty := .int) (N' := 20) (a0 := (20, .inl (fun _ => 0))) hx hb (ac_I hk.1 _) rfl hK hP hD hS hA (fun _ => rfl) (by decide) (by decide) (by decide) (by decide) (by decide) dX10_init_7 (fun y1 cA H hK9 hP hD hS => ?_)
  cases ca_eq 0 hK9 rfl
  have hP : va_P D cls [(y0, .inr (10, [.int 0, .int 0, .null, .null, .null, .null, .null, .null, .null, .null, .null, .int 0, .int 0, .int 0, .int 0])), (y1, .inl (ca 0, 20, .inl (fun _ => 0)))] H := hP
  have hD : va_D A [(y0, .inr (10, [.int 0, .int 0, .null, .null, .null, .null, .null, .null, .null, .null, .null, .int 0, .int 0, .int 0, .int 0])), (y1, .inl (ca 0, 20, .inl (fun _ => 0)))] := hD
  refine va_putF (D := D) (v := .ref y1) (ty := (.array .int)) (C := RX10) (T := TX10) (N := 15) hx hb (uc_10 hk.1 _) (fun _ h9 => h9) tyX10 tyX10_ok nmX10 hown hK hP hD hS 0 rfl rfl 2 (by decide) (fl_X10_7 hk.1 _) (fun _ h9 => h9) rfl hin rfl (by decide +kernel) rfl rfl (Nat.le_of_ble_eq_true rfl) dX10_init_9 (fun H locs hP hD hS => ?_)
  have hP : va_P D cls [(y0, .inr (10, [.int 0, .int 0, .ref y1, .null, .null, .null, .null, .null, .null, .null, .null, .int 0, .int 0, .int 0, .int 0])), (y1, .inl (ca 0, 20, .inl (fun _ => 0)))] H := hP
  have hD : va_D A [(y0, .inr (10, [.int 0, .int 0, .ref y1, .null, .null, .null, .null, .null, .null, .null, .null, .int 0, .int 0, .int 0, .int 0])), (y1, .inl (ca 0, 20, .inl (fun _ => 0)))] := hD
  refine lv_aload_n hx hb dX10_init_12 rfl (lv_at hl 0 rfl) ?_
  refine lv_bipush (v := 20) hx hb dX10_init_13 (by decide) ?_
  refine va_newa (atype := .int) (ty := .int) (N' := 20) (a0 := (20, .inl (fun _ => 0))) hx hb (ac_I hk.1 _) rfl hK hP hD hS hA (fun _ => rfl) (by decide) (by decide) (by decide) (by decide) (by decide) dX10_init_15 (fun y2 cA H hK9 hP hD hS => ?_)
  cases ca_eq 0 hK9 rfl
  have hP : va_P D cls [(y0, .inr (10, [.int 0, .int 0, .ref y1, .null, .null, .null, .null, .null, .null, .null, .null, .int 0, .int 0, .int 0, .int 0])), (y1, .inl (ca 0, 20, .inl (fun _ => 0))), (y2, .inl (ca 0, 20, .inl (fun _ => 0)))] H := hP
  have hD : va_D A [(y0, .inr (10, [.int 0, .int 0, .ref y1, .null, .null, .null, .null, .null, .null, .null, .null, .int 0, .int 0, .int 0, .int 0])), (y1, .inl (ca 0, 20, .inl (fun _ => 0))), (y2, .inl (ca 0, 20, .inl (fun _ => 0)))] := hD
  refine va_putF (D := D) (v := .ref y2) (ty := (.array .int)) (C := RX10) (T := TX10) (N := 15) hx hb (uc_10 hk.1 _) (fun _ h9 => h9) tyX10 tyX10_ok nmX10 hown hK hP hD hS 0 rfl rfl 3 (by decide) (fl_X10_13 hk.1 _) (fun _ h9 => h9) rfl hin rfl (by decide +kernel) rfl rfl (Nat.le_of_ble_eq_true rfl) dX10_init_17 (fun H locs hP hD hS => ?_)
  have hP : va_P D cls [(y0, .inr (10, [.int 0, .int 0, .ref y1, .ref y2, .null, .null, .null, .null, .null, .null, .null, .int 0, .int 0, .int 0, .int 0])), (y1, .inl (ca 0, 20, .inl (fun _ => 0))), (y2, .inl (ca 0, 20, .inl (fun _ => 0)))] H := hP
  have hD : va_D A [(y0, .inr (10, [.int 0, .int 0, .ref y1, .ref y2, .null, .null, .null, .null, .null, .null, .null, .int 0, .int 0, .int 0, .int 0])), (y1, .inl (ca 0, 20, .inl (fun _ => 0))), (y2, .inl (ca 0, 20, .inl (fun _ => 0)))] := hD
  refine lv_aload_n hx hb dX10_init_20 rfl (lv_at hl 0 rfl) ?_
  refine lv_bipush (v := 20) hx hb dX10_init_21 (by decide) ?_
  refine va_newa (atype := .int) (ty := .int) (N' := 20) (a0 := (20, .inl (fun _ => 0))) hx hb (ac_I hk.1 _) rfl hK hP hD hS hA (fun _ => rfl) (by decide) (by decide) (by decide) (by decide) (by decide) dX10_init_23 (fun y3 cA H hK9 hP hD hS => ?_)
  cases ca_eq 0 hK9 rfl
  have hP : va_P D cls [(y0, .inr (10, [.int 0, .int 0, .ref y1, .ref y2, .null, .null, .null, .null, .null, .null, .null, .int 0, .int 0, .int 0, .int 0])), (y1, .inl (ca 0, 20, .inl (fun _ => 0))), (y2, .inl (ca 0, 20, .inl (fun _ => 0))), (y3, .inl (ca 0, 20, .inl (fun _ => 0)))] H := hP
  have hD : va_D A [(y0, .inr (10, [.int 0, .int 0, .ref y1, .ref y2, .null, .null, .null, .null, .null, .null, .null, .int 0, .int 0, .int 0, .int 0])), (y1, .inl (ca 0, 20, .inl (fun _ => 0))), (y2, .inl (ca 0, 20, .inl (fun _ => 0))), (y3, .inl (ca 0, 20, .inl (fun _ => 0)))] := hD
  refine va_putF (D := D) (v := .ref y3) (ty := (.array .int)) (C := RX10) (T := TX10) (N := 15) hx hb (uc_10 hk.1 _) (fun _ h9 => h9) tyX10 tyX10_ok nmX10 hown hK hP hD hS 0 rfl rfl 4 (by decide) (fl_X10_16 hk.1 _) (fun _ h9 => h9) rfl hin rfl (by decide +kernel) rfl rfl (Nat.le_of_ble_eq_true rfl) dX10_init_25 (fun H locs hP hD hS => ?_)
  have hP : va_P D cls [(y0, .inr (10, [.int 0, .int 0, .ref y1, .ref y2, .ref y3, .null, .null, .null, .null, .null, .null, .int 0, .int 0, .int 0, .int 0])), (y1, .inl (ca 0, 20, .inl (fun _ => 0))), (y2, .inl (ca 0, 20, .inl (fun _ => 0))), (y3, .inl (ca 0, 20, .inl (fun _ => 0)))] H := hP
  have hD : va_D A [(y0, .inr (10, [.int 0, .int 0, .ref y1, .ref y2, .ref y3, .null, .null, .null, .null, .null, .null, .int 0, .int 0, .int 0, .int 0])), (y1, .inl (ca 0, 20, .inl (fun _ => 0))), (y2, .inl (ca 0, 20, .inl (fun _ => 0))), (y3, .inl (ca 0, 20, .inl (fun _ => 0)))] := hD
  refine lv_aload_n hx hb dX10_init_28 rfl (lv_at hl 0 rfl) ?_
  refine lv_bipush (v := 20) hx hb dX10_init_29 (by decide) ?_
  refine va_newa (atype := .int) (ty := .int) (N' := 20) (a0 := (20, .inl (fun _ => 0))) hx hb (ac_I hk.1 _) rfl hK hP hD hS hA (fun _ => rfl) (by decide) (by decide) (by decide) (by decide) (by decide) dX10_init_31 (fun y4 cA H hK9 hP hD hS => ?_)
  cases ca_eq 0 hK9 rfl
  have hP : va_P D cls [(y0, .inr (10, [.int 0, .int 0, .ref y1, .ref y2, .ref y3, .null, .null, .null, .null, .null, .null, .int 0, .int 0, .int 0, .int 0])), (y1, .inl (ca 0, 20, .inl (fun _ => 0))), (y2, .inl (ca 0, 20, .inl (fun _ => 0))), (y3, .inl (ca 0, 20, .inl (fun _ => 0))), (y4, .inl (ca 0, 20, .inl (fun _ => 0)))] H := hP
  have hD : va_D A [(y0, .inr (10, [.int 0, .int 0, .ref y1, .ref y2, .ref y3, .null, .null, .null, .null, .null, .null, .int 0, .int 0, .int 0, .int 0])), (y1, .inl (ca 0, 20, .inl (fun _ => 0))), (y2, .inl (ca 0, 20, .inl (fun _ => 0))), (y3, .inl (ca 0, 20, .inl (fun _ => 0))), (y4, .inl (ca 0, 20, .inl (fun _ => 0)))] := hD
  refine va_putF (D := D) (v := .ref y4) (ty := (.array .int)) (C := RX10) (T := TX10) (N := 15) hx hb (uc_10 hk.1 _) (fun _ h9 => h9) tyX10 tyX10_ok nmX10 hown hK hP hD hS 0 rfl rfl 5 (by decide) (fl_X10_19 hk.1 _) (fun _ h9 => h9) rfl hin rfl (by decide +kernel) rfl rfl (Nat.le_of_ble_eq_true rfl) dX10_init_33 (fun H locs hP hD hS => ?_)
  have hP : va_P D cls [(y0, .inr (10, [.int 0, .int 0, .ref y1, .ref y2, .ref y3, .ref y4, .null, .null, .null, .null, .null, .int 0, .int 0, .int 0, .int 0])), (y1, .inl (ca 0, 20, .inl (fun _ => 0))), (y2, .inl (ca 0, 20, .inl (fun _ => 0))), (y3, .inl (ca 0, 20, .inl (fun _ => 0))), (y4, .inl (ca 0, 20, .inl (fun _ => 0)))] H := hP
  have hD : va_D A [(y0, .inr (10, [.int 0, .int 0, .ref y1, .ref y2, .ref y3, .ref y4, .null, .null, .null, .null, .null, .int 0, .int 0, .int 0, .int 0])), (y1, .inl (ca 0, 20, .inl (fun _ => 0))), (y2, .inl (ca 0, 20, .inl (fun _ => 0))), (y3, .inl (ca 0, 20, .inl (fun _ => 0))), (y4, .inl (ca 0, 20, .inl (fun _ => 0)))] := hD
  refine lv_aload_n hx hb dX10_init_36 rfl (lv_at hl 0 rfl) ?_
  refine lv_bipush (v := 20) hx hb dX10_init_37 (by decide) ?_
  refine va_newa (atype := .int) (ty := .int) (N' := 20) (a0 := (20, .inl (fun _ => 0))) hx hb (ac_I hk.1 _) rfl hK hP hD hS hA (fun _ => rfl) (by decide) (by decide) (by decide) (by decide) (by decide) dX10_init_39 (fun y5 cA H hK9 hP hD hS => ?_)
  cases ca_eq 0 hK9 rfl
  have hP : va_P D cls [(y0, .inr (10, [.int 0, .int 0, .ref y1, .ref y2, .ref y3, .ref y4, .null, .null, .null, .null, .null, .int 0, .int 0, .int 0, .int 0])), (y1, .inl (ca 0, 20, .inl (fun _ => 0))), (y2, .inl (ca 0, 20, .inl (fun _ => 0))), (y3, .inl (ca 0, 20, .inl (fun _ => 0))), (y4, .inl (ca 0, 20, .inl (fun _ => 0))), (y5, .inl (ca 0, 20, .inl (fun _ => 0)))] H := hP
  have hD : va_D A [(y0, .inr (10, [.int 0, .int 0, .ref y1, .ref y2, .ref y3, .ref y4, .null, .null, .null, .null, .null, .int 0, .int 0, .int 0, .int 0])), (y1, .inl (ca 0, 20, .inl (fun _ => 0))), (y2, .inl (ca 0, 20, .inl (fun _ => 0))), (y3, .inl (ca 0, 20, .inl (fun _ => 0))), (y4, .inl (ca 0, 20, .inl (fun _ => 0))), (y5, .inl (ca 0, 20, .inl (fun _ => 0)))] := hD
  refine va_putF (D := D) (v := .ref y5) (ty := (.array .int)) (C := RX10) (T := TX10) (N := 15) hx hb (uc_10 hk.1 _) (fun _ h9 => h9) tyX10 tyX10_ok nmX10 hown hK hP hD hS 0 rfl rfl 6 (by decide) (fl_X10_22 hk.1 _) (fun _ h9 => h9) rfl hin rfl (by decide +kernel) rfl rfl (Nat.le_of_ble_eq_true rfl) dX10_init_41 (fun H locs hP hD hS => ?_)
  have hP : va_P D cls [(y0, .inr (10, [.int 0, .int 0, .ref y1, .ref y2, .ref y3, .ref y4, .ref y5, .null, .null, .null, .null, .int 0, .int 0, .int 0, .int 0])), (y1, .inl (ca 0, 20, .inl (fun _ => 0))), (y2, .inl (ca 0, 20, .inl (fun _ => 0))), (y3, .inl (ca 0, 20, .inl (fun _ => 0))), (y4, .inl (ca 0, 20, .inl (fun _ => 0))), (y5, .inl (ca 0, 20, .inl (fun _ => 0)))] H := hP
  have hD : va_D A [(y0, .inr (10, [.int 0, .int 0, .ref y1, .ref y2, .ref y3, .ref y4, .ref y5, .null, .null, .null, .null, .int 0, .int 0, .int 0, .int 0])), (y1, .inl (ca 0, 20, .inl (fun _ => 0))), (y2, .inl (ca 0, 20, .inl (fun _ => 0))), (y3, .inl (ca 0, 20, .inl (fun _ => 0))), (y4, .inl (ca 0, 20, .inl (fun _ => 0))), (y5, .inl (ca 0, 20, .inl (fun _ => 0)))] := hD
  refine lv_aload_n hx hb dX10_init_44 rfl (lv_at hl 0 rfl) ?_
  refine lv_bipush (v := 20) hx hb dX10_init_45 (by decide) ?_
  refine va_newa (atype := .int) (ty := .int) (N' := 20) (a0 := (20, .inl (fun _ => 0))) hx hb (ac_I hk.1 _) rfl hK hP hD hS hA (fun _ => rfl) (by decide) (by decide) (by decide) (by decide) (by decide) dX10_init_47 (fun y6 cA H hK9 hP hD hS => ?_)
  cases ca_eq 0 hK9 rfl
  have hP : va_P D cls [(y0, .inr (10, [.int 0, .int 0, .ref y1, .ref y2, .ref y3, .ref y4, .ref y5, .null, .null, .null, .null, .int 0, .int 0, .int 0, .int 0])), (y1, .inl (ca 0, 20, .inl (fun _ => 0))), (y2, .inl (ca 0, 20, .inl (fun _ => 0))), (y3, .inl (ca 0, 20, .inl (fun _ => 0))), (y4, .inl (ca 0, 20, .inl (fun _ => 0))), (y5, .inl (ca 0, 20, .inl (fun _ => 0))), (y6, .inl (ca 0, 20, .inl (fun _ => 0)))] H := hP
  have hD : va_D A [(y0, .inr (10, [.int 0, .int 0, .ref y1, .ref y2, .ref y3, .ref y4, .ref y5, .null, .null, .null, .null, .int 0, .int 0, .int 0, .int 0])), (y1, .inl (ca 0, 20, .inl (fun _ => 0))), (y2, .inl (ca 0, 20, .inl (fun _ => 0))), (y3, .inl (ca 0, 20, .inl (fun _ => 0))), (y4, .inl (ca 0, 20, .inl (fun _ => 0))), (y5, .inl (ca 0, 20, .inl (fun _ => 0))), (y6, .inl (ca 0, 20, .inl (fun _ => 0)))] := hD
  refine va_putF (D := D) (v := .ref y6) (ty := (.array .int)) (C := RX10) (T := TX10) (N := 15) hx hb (uc_10 hk.1 _) (fun _ h9 => h9) tyX10 tyX10_ok nmX10 hown hK hP hD hS 0 rfl rfl 7 (by decide) (fl_X10_25 hk.1 _) (fun _ h9 => h9) rfl hin rfl (by decide +kernel) rfl rfl (Nat.le_of_ble_eq_true rfl) dX10_init_49 (fun H locs hP hD hS => ?_)
  have hP : va_P D cls [(y0, .inr (10, [.int 0, .int 0, .ref y1, .ref y2, .ref y3, .ref y4, .ref y5, .ref y6, .null, .null, .null, .int 0, .int 0, .int 0, .int 0])), (y1, .inl (ca 0, 20, .inl (fun _ => 0))), (y2, .inl (ca 0, 20, .inl (fun _ => 0))), (y3, .inl (ca 0, 20, .inl (fun _ => 0))), (y4, .inl (ca 0, 20, .inl (fun _ => 0))), (y5, .inl (ca 0, 20, .inl (fun _ => 0))), (y6, .inl (ca 0, 20, .inl (fun _ => 0)))] H := hP
  have hD : va_D A [(y0, .inr (10, [.int 0, .int 0, .ref y1, .ref y2, .ref y3, .ref y4, .ref y5, .ref y6, .null, .null, .null, .int 0, .int 0, .int 0, .int 0])), (y1, .inl (ca 0, 20, .inl (fun _ => 0))), (y2, .inl (ca 0, 20, .inl (fun _ => 0))), (y3, .inl (ca 0, 20, .inl (fun _ => 0))), (y4, .inl (ca 0, 20, .inl (fun _ => 0))), (y5, .inl (ca 0, 20, .inl (fun _ => 0))), (y6, .inl (ca 0, 20, .inl (fun _ => 0)))] := hD
  refine lv_aload_n hx hb dX10_init_52 rfl (lv_at hl 0 rfl) ?_
  refine lv_bipush (v := 20) hx hb dX10_init_53 (by decide) ?_
  refine va_newa (atype := .int) (ty := .int) (N' := 20) (a0 := (20, .inl (fun _ => 0))) hx hb (ac_I hk.1 _) rfl hK hP hD hS hA (fun _ => rfl) (by decide) (by decide) (by decide) (by decide) (by decide) dX10_init_55 (fun y7 cA H hK9 hP hD hS => ?_)
  cases ca_eq 0 hK9 rfl
  have hP : va_P D cls [(y0, .inr (10, [.int 0, .int 0, .ref y1, .ref y2, .ref y3, .ref y4, .ref y5, .ref y6, .null, .null, .null, .int 0, .int 0, .int 0, .int 0])), (y1, .inl (ca 0, 20, .inl (fun _ => 0))), (y2, .inl (ca 0, 20, .inl (fun _ => 0))), (y3, .inl (ca 0, 20, .inl (fun _ => 0))), (y4, .inl (ca 0, 20, .inl (fun _ => 0))), (y5, .inl (ca 0, 20, .inl (fun _ => 0))), (y6, .inl (ca 0, 20, .inl (fun _ => 0))), (y7, .inl (ca 0, 20, .inl (fun _ => 0)))] H := hP
  have hD : va_D A [(y0, .inr (10, [.int 0, .int 0, .ref y1, .ref y2, .ref y3, .ref y4, .ref y5, .ref y6, .null, .null, .null, .int 0, .int 0, .int 0, .int 0])), (y1, .inl (ca 0, 20, .inl (fun _ => 0))), (y2, .inl (ca 0, 20, .inl (fun _ => 0))), (y3, .inl (ca 0, 20, .inl (fun _ => 0))), (y4, .inl (ca 0, 20, .inl (fun _ => 0))), (y5, .inl (ca 0, 20, .inl (fun _ => 0))), (y6, .inl (ca 0, 20, .inl (fun _ => 0))), (y7, .inl (ca 0, 20, .inl (fun _ => 0)))] := hD
  refine va_putF (D := D) (v := .ref y7) (ty := (.array .int)) (C := RX10) (T := TX10) (N := 15) hx hb (uc_10 hk.1 _) (fun _ h9 => h9) tyX10 tyX10_ok nmX10 hown hK hP hD hS 0 rfl rfl 8 (by decide) (fl_X10_28 hk.1 _) (fun _ h9 => h9) rfl hin rfl (by decide +kernel) rfl rfl (Nat.le_of_ble_eq_true rfl) dX10_init_57 (fun H locs hP hD hS => ?_)
  have hP : va_P D cls [(y0, .inr (10, [.int 0, .int 0, .ref y1, .ref y2, .ref y3, .ref y4, .ref y5, .ref y6, .ref y7, .null, .null, .int 0, .int 0, .int 0, .int 0])), (y1, .inl (ca 0, 20, .inl (fun _ => 0))), (y2, .inl (ca 0, 20, .inl (fun _ => 0))), (y3, .inl (ca 0, 20, .inl (fun _ => 0))), (y4, .inl (ca 0, 20, .inl (fun _ => 0))), (y5, .inl (ca 0, 20, .inl (fun _ => 0))), (y6, .inl (ca 0, 20, .inl (fun _ => 0))), (y7, .inl (ca 0, 20, .inl (fun _ => 0)))] H := hP
  have hD : va_D A [(y0, .inr (10, [.int 0, .int 0, .ref y1, .ref y2, .ref y3, .ref y4, .ref y5, .ref y6, .ref y7, .null, .null, .int 0, .int 0, .int 0, .int 0])), (y1, .inl (ca 0, 20, .inl (fun _ => 0))), (y2, .inl (ca 0, 20, .inl (fun _ => 0))), (y3, .inl (ca 0, 20, .inl (fun _ => 0))), (y4, .inl (ca 0, 20, .inl (fun _ => 0))), (y5, .inl (ca 0, 20, .inl (fun _ => 0))), (y6, .inl (ca 0, 20, .inl (fun _ => 0))), (y7, .inl (ca 0, 20, .inl (fun _ => 0)))] := hD
  refine lv_aload_n hx hb dX10_init_60 rfl (lv_at hl 0 rfl) ?_
  refine lv_bipush (v := 20) hx hb dX10_init_61 (by decide) ?_
  refine va_newa (atype := .boolean) (ty := .boolean) (N' := 20) (a0 := (20, .inl (fun _ => 0))) hx hb (ac_Z hk.1 _) rfl hK hP hD hS hA (fun _ => rfl) (by decide) (by decide) (by decide) (by decide) (by decide) dX10_init_63 (fun y8 cA H hK9 hP hD hS => ?_)
  cases ca_eq 2 hK9 rfl
  have hP : va_P D cls [(y0, .inr (10, [.int 0, .int 0, .ref y1, .ref y2, .ref y3, .ref y4, .ref y5, .ref y6, .ref y7, .null, .null, .int 0, .int 0, .int 0, .int 0])), (y1, .inl (ca 0, 20, .inl (fun _ => 0))), (y2, .inl (ca 0, 20, .inl (fun _ => 0))), (y3, .inl (ca 0, 20, .inl (fun _ => 0))), (y4, .inl (ca 0, 20, .inl (fun _ => 0))), (y5, .inl (ca 0, 20, .inl (fun _ => 0))), (y6, .inl (ca 0, 20, .inl (fun _ => 0))), (y7, .inl (ca 0, 20, .inl (fun _ => 0))), (y8, .inl (ca 2, 20, .inl (fun _ => 0)))] H := hP
  have hD : va_D A [(y0, .inr (10, [.int 0, .int 0, .ref y1, .ref y2, .ref y3, .ref y4, .ref y5, .ref y6, .ref y7, .null, .null, .int 0, .int 0, .int 0, .int 0])), (y1, .inl (ca 0, 20, .inl (fun _ => 0))), (y2, .inl (ca 0, 20, .inl (fun _ => 0))), (y3, .inl (ca 0, 20, .inl (fun _ => 0))), (y4, .inl (ca 0, 20, .inl (fun _ => 0))), (y5, .inl (ca 0, 20, .inl (fun _ => 0))), (y6, .inl (ca 0, 20, .inl (fun _ => 0))), (y7, .inl (ca 0, 20, .inl (fun _ => 0))), (y8, .inl (ca 2, 20, .inl (fun _ => 0)))] := hD
  refine va_putF (D := D) (v := .ref y8) (ty := (.array .boolean)) (C := RX10) (T := TX10) (N := 15) hx hb (uc_10 hk.1 _) (fun _ h9 => h9) tyX10 tyX10_ok nmX10 hown hK hP hD hS 0 rfl rfl 9 (by decide) (fl_X10_31 hk.1 _) (fun _ h9 => h9) rfl hin rfl (by decide +kernel) rfl rfl (Nat.le_of_ble_eq_true rfl) dX10_init_65 (fun H locs hP hD hS => ?_)
  have hP : va_P D cls [(y0, .inr (10, [.int 0, .int 0, .ref y1, .ref y2, .ref y3, .ref y4, .ref y5, .ref y6, .ref y7, .ref y8, .null, .int 0, .int 0, .int 0, .int 0])), (y1, .inl (ca 0, 20, .inl (fun _ => 0))), (y2, .inl (ca 0, 20, .inl (fun _ => 0))), (y3, .inl (ca 0, 20, .inl (fun _ => 0))), (y4, .inl (ca 0, 20, .inl (fun _ => 0))), (y5, .inl (ca 0, 20, .inl (fun _ => 0))), (y6, .inl (ca 0, 20, .inl (fun _ => 0))), (y7, .inl (ca 0, 20, .inl (fun _ => 0))), (y8, .inl (ca 2, 20, .inl (fun _ => 0)))] H := hP
  have hD : va_D A [(y0, .inr (10, [.int 0, .int 0, .ref y1, .ref y2, .ref y3, .ref y4, .ref y5, .ref y6, .ref y7, .ref y8, .null, .int 0, .int 0, .int 0, .int 0])), (y1, .inl (ca 0, 20, .inl (fun _ => 0))), (y2, .inl (ca 0, 20, .inl (fun _ => 0))), (y3, .inl (ca 0, 20, .inl (fun _ => 0))), (y4, .inl (ca 0, 20, .inl (fun _ => 0))), (y5, .inl (ca 0, 20, .inl (fun _ => 0))), (y6, .inl (ca 0, 20, .inl (fun _ => 0))), (y7, .inl (ca 0, 20, .inl (fun _ => 0))), (y8, .inl (ca 2, 20, .inl (fun _ => 0)))] := hD
  refine lv_aload_n hx hb dX10_init_68 rfl (lv_at hl 0 rfl) ?_
  refine lv_sipush (v := 200) hx hb dX10_init_69 (by decide) ?_
  refine va_newa (atype := .int) (ty := .int) (N' := 200) (a0 := (200, .inl (fun _ => 0))) hx hb (ac_I hk.1 _) rfl hK hP hD hS hA (fun _ => rfl) (by decide) (by decide) (by decide) (by decide) (by decide) dX10_init_72 (fun y9 cA H hK9 hP hD hS => ?_)
  cases ca_eq 0 hK9 rfl
  have hP : va_P D cls [(y0, .inr (10, [.int 0, .int 0, .ref y1, .ref y2, .ref y3, .ref y4, .ref y5, .ref y6, .ref y7, .ref y8, .null, .int 0, .int 0, .int 0, .int 0])), (y1, .inl (ca 0, 20, .inl (fun _ => 0))), (y2, .inl (ca 0, 20, .inl (fun _ => 0))), (y3, .inl (ca 0, 20, .inl (fun _ => 0))), (y4, .inl (ca 0, 20, .inl (fun _ => 0))), (y5, .inl (ca 0, 20, .inl (fun _ => 0))), (y6, .inl (ca 0, 20, .inl (fun _ => 0))), (y7, .inl (ca 0, 20, .inl (fun _ => 0))), (y8, .inl (ca 2, 20, .inl (fun _ => 0))), (y9, .inl (ca 0, 200, .inl (fun _ => 0)))] H := hP
  have hD : va_D A [(y0, .inr (10, [.int 0, .int 0, .ref y1, .ref y2, .ref y3, .ref y4, .ref y5, .ref y6, .ref y7, .ref y8, .null, .int 0, .int 0, .int 0, .int 0])), (y1, .inl (ca 0, 20, .inl (fun _ => 0))), (y2, .inl (ca 0, 20, .inl (fun _ => 0))), (y3, .inl (ca 0, 20, .inl (fun _ => 0))), (y4, .inl (ca 0, 20, .inl (fun _ => 0))), (y5, .inl (ca 0, 20, .inl (fun _ => 0))), (y6, .inl (ca 0, 20, .inl (fun _ => 0))), (y7, .inl (ca 0, 20, .inl (fun _ => 0))), (y8, .inl (ca 2, 20, .inl (fun _ => 0))), (y9, .inl (ca 0, 200, .inl (fun _ => 0)))] := hD
  refine va_putF (D := D) (v := .ref y9) (ty := (.array .int)) (C := RX10) (T := TX10) (N := 15) hx hb (uc_10 hk.1 _) (fun _ h9 => h9) tyX10 tyX10_ok nmX10 hown hK hP hD hS 0 rfl rfl 10 (by decide) (fl_X10_35 hk.1 _) (fun _ h9 => h9) rfl hin rfl (by decide +kernel) rfl rfl (Nat.le_of_ble_eq_true rfl) dX10_init_74 (fun H locs hP hD hS => ?_)
  have hP : va_P D cls [(y0, .inr (10, [.int 0, .int 0, .ref y1, .ref y2, .ref y3, .ref y4, .ref y5, .ref y6, .ref y7, .ref y8, .ref y9, .int 0, .int 0, .int 0, .int 0])), (y1, .inl (ca 0, 20, .inl (fun _ => 0))), (y2, .inl (ca 0, 20, .inl (fun _ => 0))), (y3, .inl (ca 0, 20, .inl (fun _ => 0))), (y4, .inl (ca 0, 20, .inl (fun _ => 0))), (y5, .inl (ca 0, 20, .inl (fun _ => 0))), (y6, .inl (ca 0, 20, .inl (fun _ => 0))), (y7, .inl (ca 0, 20, .inl (fun _ => 0))), (y8, .inl (ca 2, 20, .inl (fun _ => 0))), (y9, .inl (ca 0, 200, .inl (fun _ => 0)))] H := hP
  have hD : va_D A [(y0, .inr (10, [.int 0, .int 0, .ref y1, .ref y2, .ref y3, .ref y4, .ref y5, .ref y6, .ref y7, .ref y8, .ref y9, .int 0, .int 0, .int 0, .int 0])), (y1, .inl (ca 0, 20, .inl (fun _ => 0))), (y2, .inl (ca 0, 20, .inl (fun _ => 0))), (y3, .inl (ca 0, 20, .inl (fun _ => 0))), (y4, .inl (ca 0, 20, .inl (fun _ => 0))), (y5, .inl (ca 0, 20, .inl (fun _ => 0))), (y6, .inl (ca 0, 20, .inl (fun _ => 0))), (y7, .inl (ca 0, 20, .inl (fun _ => 0))), (y8, .inl (ca 2, 20, .inl (fun _ => 0))), (y9, .inl (ca 0, 200, .inl (fun _ => 0)))] := hD
  have e9 : wm ca (fun k => [y0, y1, y2, y3, y4, y5, y6, y7, y8, y9].getD k 0) F0_ 0 0 0 t0 = [(y0, .inr (10, [.int 0, .int 0, .ref y1, .ref y2, .ref y3, .ref y4, .ref y5, .ref y6, .ref y7, .ref y8, .ref y9, .int 0, .int 0, .int 0, .int 0])), (y1, .inl (ca 0, 20, .inl (fun _ => 0))), (y2, .inl (ca 0, 20, .inl (fun _ => 0))), (y3, .inl (ca 0, 20, .inl (fun _ => 0))), (y4, .inl (ca 0, 20, .inl (fun _ => 0))), (y5, .inl (ca 0, 20, .inl (fun _ => 0))), (y6, .inl (ca 0, 20, .inl (fun _ => 0))), (y7, .inl (ca 0, 20, .inl (fun _ => 0))), (y8, .inl (ca 2, 20, .inl (fun _ => 0))), (y9, .inl (ca 0, 200, .inl (fun _ => 0)))] := by
    unfold wm wa F0_ t0; simp only [nI_0]; rfl
  exact rnm C hrt hlocks (fun k => [y0, y1, y2, y3, y4, y5, y6, y7, y8, y9].getD k 0) rfl (by rw [e9]; exact hP) (by rw [e9]; exact hD) hS dX10_init_77
