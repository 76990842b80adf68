def RQ (F : Nat → Pd) (Q : List Pd) : Prop := ∀ (i : Nat) (pd : Pd), Q[i]? = some pd → F i = pd
def okQ (Q : List Pd) : Prop := Q.length ≤ 20 ∧ ∀ pd ∈ Q, pd.1 < 8
theorem RQ.set {F : Nat → Pd} {Q : List Pd} {i : Nat} (h : RQ F Q) (pe : Pd) : RQ (va_up F i pe) (Q.set i pe) := by
  intro j pd hj
  by_cases e : j = i
  · subst e
    have hlt : j < Q.length := by rw [← List.length_set (i := j) (a := pe)]; exact (List.getElem?_eq_some_iff.mp hj).1
    rw [List.getElem?_set_self hlt] at hj
    rw [va_up_self]; exact Option.some.inj hj
  · rw [List.getElem?_set_ne (fun h9 => e h9.symm)] at hj
    rw [va_up_ne F pe e]; exact h j pd hj
theorem RQ.app {F : Nat → Pd} {Q : List Pd} (h : RQ F Q) (pe : Pd) : RQ (va_up F Q.length pe) (Q ++ [pe]) := by
  intro j pd hj
  rcases Nat.lt_trichotomy j Q.length with h1 | h1 | h1
  · rw [List.getElem?_append_left h1] at hj
    rw [va_up_ne F pe (by omega)]; exact h j pd hj
  · subst h1
    rw [List.getElem?_append_right (Nat.le_refl _), Nat.sub_self] at hj
    rw [va_up_self]; exact Option.some.inj hj
  · rw [List.getElem?_eq_none (by rw [List.length_append, List.length_singleton]; omega)] at hj; cases hj
theorem there_t {Q : List Pd} {x : Int32} (hn : Q.length ≤ 20) (h : rng 0 (nI Q.length - 1) x = true) : ∃ i, ix Q x = some i ∧ i < Q.length ∧ x = nI i := by
  obtain ⟨h1, h2⟩ := rng_le h
  obtain ⟨j, hj, rfl⟩ := nI_of (Int32.not_lt.mpr h1)
  cases hq : Q.length with
  | zero =>
    rw [hq] at h2
    exact absurd (Int32.le_trans h1 h2) (by decide +kernel)
  | succ k =>
    rw [hq, nI_pred, nI_leI hj (by omega)] at h2
    refine ⟨j, ?_, by omega, rfl⟩
    unfold ix
    rw [if_neg, nI_clamp hj]
    rintro (h9 | h9)
    · exact nI_pos hj h9
    · rw [nI_leI (by omega) hj] at h9; omega
theorem there_f {Q : List Pd} {x : Int32} (hn : Q.length ≤ 20) (h : rng 0 (nI Q.length - 1) x = false) : ix Q x = none := by
  unfold ix
  refine if_pos (Decidable.byContradiction fun h9 => ?_)
  have h1 : ¬ x < 0 := fun h => h9 (Or.inl h)
  have h2 : ¬ nI Q.length ≤ x := fun h => h9 (Or.inr h)
  obtain ⟨j, hj, rfl⟩ := nI_of h1
  rw [nI_leI (by omega) hj] at h2
  obtain ⟨k, hk⟩ : ∃ k, Q.length = k + 1 := ⟨Q.length - 1, by omega⟩
  rw [hk, nI_pred] at h
  unfold rng at h
  rw [decide_eq_true (nI_pos' hj), decide_eq_true ((nI_leI hj (by omega)).mpr (by omega))] at h
  cases h
theorem at_Q {Q : List Pd} {i : Nat} (hok : okQ Q) (hi : i < Q.length) : ∃ pd : Pd, Q[i]? = some pd ∧ pd.1 < 8 := ⟨Q[i], List.getElem?_eq_getElem hi, hok.2 _ (List.getElem_mem hi)⟩
def QF (D : va_G) (ca : Nat → ClassId) (ya : Nat → Nat) (r cd : Int32) (Q : List Pd) (t : Tr) (A : Nat → Prop) : Array Value → State → Outcome → State → Prop := va_Qi (S := (Nat → Pd) × Int32) (fun r' u => r' = r ∧ RQ u.1 Q) (fun u t9 => va_P D cls (wm ca ya u.1 Q.length cd u.2 t) t9.heap) A
section RF
variable {D : va_G} {ca : Nat → ClassId} {sa : Nat → Nat} {lo : Nat} {p : Program} {l : Launch} {e : Env} {R : Room} {s : State} {m : MethodId} {args : Array Value} {below : List Frame} {meth : Method} {c : Code} {cc : ByteArray} {nL : Nat} {own : String} {A : Nat → Prop} {H : Heap} {locs : List Loc} {cells slots : Nat} {ls : Array Slot} {pc : Nat}
theorem rf_ {ya : Nat → Nat} {F : Nat → Pd} {fl v r cd : Int32} {Q : List Pd} {t : Tr} (C : Cx D ca sa lo p s m c cc nL own A) (hrt : meth.sig.returnType = some .int) (hlocks : meth.locks = false) (hv : v = r) (hF : RQ F Q) (hP : va_P D cls (wm ca ya F Q.length cd fl t) H) (hS : va_S A s.heap H locs) (hdg : decode cc pc = .ok (.ireturn, 1)) : W p l e R s m args below meth c H locs cells slots (MQ below (QF D ca ya r cd Q t A) args s cells slots A) (F0 m pc ls [.int v]) :=
  W.iret C.1 C.2.1 hrt (fun t ht hW => ⟨⟨v, (F, fl), rfl, ⟨hv, hF⟩, by subst ht; exact hP⟩, hS.F ht⟩) hS.2.2 hdg hlocks
end RF
def rfz (n : Nat) (x v : Int32) : Int32 := if rng 0 (nI n - 1) x = true then (if rng (-10000) 10000 v = true then 0 else -102) else -101
theorem nI_le0 {c : Nat} (h : c ≤ 2) : nI c ≤ 0 ↔ c = 0 := by
  rcases (by omega : c = 0 ∨ c = 1 ∨ c = 2) with rfl | rfl | rfl <;> decide +kernel

set_option maxHeartbeats 4000000 in
set_option maxRecDepth 100000 in
theorem N_thrown (l : Launch) (D : va_G) (ca : Nat → ClassId) (sa : Nat → Nat) (lo : Nat) (ya : Nat → Nat) (F : Nat → Pd) (n : Nat) (cd fl : Int32) (t : Tr) (sz : Nat) : Met l yX10_thrown [.code yX10_thrown cX10_thrown 1 (some .int)] ({ frames := 0, cells := 0, slots := 0, locals := 0 }) (PX D ca sa lo sz [.ref (ya 0)] (wm ca ya F n cd fl t)) (QI D cd (wm ca ya F n cd fl t) (va_A (wm ca ya F n cd fl t) sz)) 0 0 (va_A (wm ca ya F n cd fl t) sz) := by
  refine mk_met (fun A => QI D cd (wm ca ya F n cd fl t) A) (by decide) (Nat.le_of_ble_eq_true rfl) ?_
  intro p e s m below meth c A ls C hrt hlocks hnm hsz hP hD hS hl
  obtain ⟨hx, hb, hml, hown, hk, hz, hlo, hA, hAl⟩ := id C
  have hK : va_K D cls (tyl ca) s := hk.2.1
  have hl : lv_has ls 1 [(0, .ref (ya 0))] := hl
  refine lv_aload_n hx hb dX10_thrown_0 rfl (lv_at hl 0 rfl) ?_
  refine va_get (D := D) (C := RX10) (T := TX10) (N := 15) hx hb (uc_10 hk.1 _) (fun _ h9 => h9) hown hK hP 0 rfl rfl 0 (by decide) (fl_X10_38 hk.1 _) (fun _ h9 => h9) rfl dX10_thrown_1 ?_
  exact ri C hrt hlocks rfl hP hS dX10_thrown_4

set_option maxHeartbeats 4000000 in
set_option maxRecDepth 100000 in
theorem N_over (l : Launch) (D : va_G) (ca : Nat → ClassId) (sa : Nat → Nat) (lo : Nat) (ya : Nat → Nat) (F : Nat → Pd) (Q : List Pd) (cd fl : Int32) (t : Tr) (hok : okQ Q) (hF : RQ F Q) (ht : t.1 + 2 ≤ 2147483648) (x : Int32) (sz : Nat) : Met l yX10_over [.code yX10_over cX10_over 2 (some .int)] ({ frames := 3, cells := 0, slots := 0, locals := 90 }) (PX D ca sa lo sz [.ref (ya 0), .int x] (wm ca ya F Q.length cd fl t)) (QF D ca ya (zO Q t x).1 0 (zO Q t x).2.1 (zO Q t x).2.2 (va_A (wm ca ya F Q.length cd fl t) sz)) 0 0 (va_A (wm ca ya F Q.length cd fl t) sz) := by
  generalize hr9 : zO Q t x = r
  refine mk_met (fun A => QF D ca ya r.1 0 r.2.1 r.2.2 A) (by decide) (Nat.le_of_ble_eq_true rfl) ?_
  intro p e s m below meth c A ls C hrt hlocks hnm hsz hP hD hS hl
  obtain ⟨hx, hb, hml, hown, hk, hz, hlo, hA, hAl⟩ := id C
  have hK : va_K D cls (tyl ca) s := hk.2.1
  have hl : lv_has ls 2 [(0, .ref (ya 0)), (1, .int x)] := hl
  refine lv_aload_n hx hb dX10_over_0 rfl (lv_at hl 0 rfl) ?_
  refine lv_iconst (v := 0) hx hb dX10_over_1 (by decide) ?_
  refine va_put (D := D) (v := .int 0) (ty := .int) (C := RX10) (T := TX10) (N := 15) hx hb (uc_10 hk.1 _) (fun _ h9 => h9) tyX10 tyX10_ok nmX10 hown hK hP hD hS 0 rfl rfl 0 (by decide) (fl_X10_38 hk.1 _) (fun _ h9 => h9) rfl (by decide +kernel) rfl rfl (Nat.le_of_ble_eq_true rfl) dX10_over_2 (fun H locs hP hD hS => ?_)
  have hP : va_P D cls (wm ca ya F Q.length 0 fl t) H := hP
  have hD : va_D A (wm ca ya F Q.length 0 fl t) := hD
  refine lv_aload_n hx hb dX10_over_5 rfl (lv_at hl 0 rfl) ?_
  refine lv_iload_n hx hb dX10_over_6 rfl (lv_at hl 1 rfl) ?_
  refine k_mi (n9 := 1) (As := [.int x]) C (n_isThere l D ca sa lo ya F Q.length 0 fl t x _) (fun U A9 h => co_X10_isThere h A9) (in_X10 hk.1 _) (ml_X10_82 hk.1 _) (im_X10_isThere hk.1 _) (se_X10_X10_isThere hk.1 _) (by decide +kernel) ⟨⟨rfl, rfl⟩, by decide, by decide⟩ hP hD hS rfl rfl rfl hl.1 rfl (Nat.le_of_ble_eq_true rfl) dX10_over_7 ⟨by decide, by decide⟩ (fun H locs hP hD hS => ?_)
  refine lv_if_ne (tgt := 18) hx hb dX10_over_10 (by decide) (fun c_1 => ?_) (fun c_1 => ?_)
  · obtain ⟨i, hix, hiQ, rfl⟩ := there_t hok.1 (bi_ne0 c_1)
    obtain ⟨⟨kd, zn, lm, ch, lv, cn, dr, la⟩, hQ, hkd⟩ := at_Q hok hiQ
    have hi : i < 20 := Nat.lt_of_lt_of_le hiQ hok.1
    have hkd : kd < 8 := hkd
    have hFe : va_up F i (kd, zn, lm, ch, lv, cn, dr, la) = F := by rw [← hF i _ hQ]; exact up_same F i
    have hP : va_P D cls (wm ca ya (va_up F i (kd, zn, lm, ch, lv, cn, dr, la)) Q.length 0 fl t) H := by rw [hFe]; exact hP
    have hD : va_D A (wm ca ya (va_up F i (kd, zn, lm, ch, lv, cn, dr, la)) Q.length 0 fl t) := by rw [hFe]; exact hD
    have hr9 : r = (bi (po kd lm (ch, lv, cn, dr, la) t).1, Q.set i (kd, zn, lm, (po kd lm (ch, lv, cn, dr, la) t).2.1), (po kd lm (ch, lv, cn, dr, la) t).2.2) := by rw [← hr9]; simp only [zO, hix, sQ_of hQ, gQ_of hQ]
    refine lv_aload_n hx hb dX10_over_18 rfl (lv_at hl 0 rfl) ?_
    refine lv_iload_n hx hb dX10_over_19 rfl (lv_at hl 1 rfl) ?_
    refine k_mi (n9 := 1) (As := [.int (nI i)]) C (n_isOver l D ca sa lo ya F Q.length 0 fl t (by first | omega | (simp only [tb_n]; omega)) i hi kd hkd zn lm (ch, lv, cn, dr, la) _) (fun U A9 h => co_X10_isOver h A9) (in_X10 hk.1 _) (ml_X10_94 hk.1 _) (im_X10_isOver hk.1 _) (se_X10_X10_isOver hk.1 _) (by decide +kernel) ⟨⟨rfl, rfl⟩, by decide, by decide⟩ hP hD hS rfl rfl rfl hl.1 rfl (Nat.le_of_ble_eq_true rfl) dX10_over_20 ⟨by decide, by decide⟩ (fun H locs hP hD hS => ?_)
    generalize hp1 : po kd lm (ch, lv, cn, dr, la) t = P9 at hP hD hr9 ⊢
    obtain ⟨b1, ⟨ch, lv, cn, dr, la⟩, t1⟩ := P9
    subst hr9
    have hP : va_P D cls (wm ca ya (va_up F i (kd, zn, lm, ch, lv, cn, dr, la)) Q.length 0 fl t1) H := hP
    have hD : va_D A (wm ca ya (va_up F i (kd, zn, lm, ch, lv, cn, dr, la)) Q.length 0 fl t1) := hD
    refine lv_if_eq (tgt := 30) hx hb dX10_over_23 (by decide) (fun c_2 => ?_) (fun c_2 => ?_)
    · refine lv_iconst (v := 0) hx hb dX10_over_30 (by decide) ?_
      exact rf_ C hrt hlocks (by rw [bi_eq0 c_2]; rfl) (hF.set _) (by rw [List.length_set]; exact hP) hS dX10_over_31
    · refine lv_iconst (v := 1) hx hb dX10_over_26 (by decide) ?_
      refine lv_goto (tgt := 31) hx hb dX10_over_27 (by decide) ?_
      exact rf_ C hrt hlocks (by rw [bi_ne0 c_2]; rfl) (hF.set _) (by rw [List.length_set]; exact hP) hS dX10_over_31
  · have hix := there_f hok.1 (bi_eq0 c_1)
    have hr9 : r = (-101, Q, t) := by rw [← hr9]; simp only [zO, hix]
    subst hr9
    refine lv_bipush (v := (-101)) hx hb dX10_over_13 (by decide) ?_
    refine lv_goto (tgt := 31) hx hb dX10_over_15 (by decide) ?_
    exact rf_ C hrt hlocks rfl hF hP hS dX10_over_31

set_option maxHeartbeats 4000000 in
set_option maxRecDepth 100000 in
theorem N_cost (l : Launch) (D : va_G) (ca : Nat → ClassId) (sa : Nat → Nat) (lo : Nat) (ya : Nat → Nat) (F : Nat → Pd) (Q : List Pd) (cd fl : Int32) (t : Tr) (hok : okQ Q) (hF : RQ F Q) (ht : t.1 + 2 ≤ 2147483648) (x : Int32) (sz : Nat) : Met l yX10_cost [.code yX10_cost cX10_cost 2 (some .int)] ({ frames := 2, cells := 0, slots := 0, locals := 60 }) (PX D ca sa lo sz [.ref (ya 0), .int x] (wm ca ya F Q.length cd fl t)) (QF D ca ya (zK Q t x).1 0 (zK Q t x).2.1 (zK Q t x).2.2 (va_A (wm ca ya F Q.length cd fl t) sz)) 0 0 (va_A (wm ca ya F Q.length cd fl t) sz) := by
  generalize hr9 : zK Q t x = r
  refine mk_met (fun A => QF D ca ya r.1 0 r.2.1 r.2.2 A) (by decide) (Nat.le_of_ble_eq_true rfl) ?_
  intro p e s m below meth c A ls C hrt hlocks hnm hsz hP hD hS hl
  obtain ⟨hx, hb, hml, hown, hk, hz, hlo, hA, hAl⟩ := id C
  have hK : va_K D cls (tyl ca) s := hk.2.1
  have hl : lv_has ls 2 [(0, .ref (ya 0)), (1, .int x)] := hl
  refine lv_aload_n hx hb dX10_cost_0 rfl (lv_at hl 0 rfl) ?_
  refine lv_iconst (v := 0) hx hb dX10_cost_1 (by decide) ?_
  refine va_put (D := D) (v := .int 0) (ty := .int) (C := RX10) (T := TX10) (N := 15) hx hb (uc_10 hk.1 _) (fun _ h9 => h9) tyX10 tyX10_ok nmX10 hown hK hP hD hS 0 rfl rfl 0 (by decide) (fl_X10_38 hk.1 _) (fun _ h9 => h9) rfl (by decide +kernel) rfl rfl (Nat.le_of_ble_eq_true rfl) dX10_cost_2 (fun H locs hP hD hS => ?_)
  have hP : va_P D cls (wm ca ya F Q.length 0 fl t) H := hP
  have hD : va_D A (wm ca ya F Q.length 0 fl t) := hD
  refine lv_aload_n hx hb dX10_cost_5 rfl (lv_at hl 0 rfl) ?_
  refine lv_iload_n hx hb dX10_cost_6 rfl (lv_at hl 1 rfl) ?_
  refine k_mi (n9 := 1) (As := [.int x]) C (n_isThere l D ca sa lo ya F Q.length 0 fl t x _) (fun U A9 h => co_X10_isThere h A9) (in_X10 hk.1 _) (ml_X10_82 hk.1 _) (im_X10_isThere hk.1 _) (se_X10_X10_isThere hk.1 _) (by decide +kernel) ⟨⟨rfl, rfl⟩, by decide, by decide⟩ hP hD hS rfl rfl rfl hl.1 rfl (Nat.le_of_ble_eq_true rfl) dX10_cost_7 ⟨by decide, by decide⟩ (fun H locs hP hD hS => ?_)
  refine lv_if_ne (tgt := 18) hx hb dX10_cost_10 (by decide) (fun c_1 => ?_) (fun c_1 => ?_)
  · obtain ⟨i, hix, hiQ, rfl⟩ := there_t hok.1 (bi_ne0 c_1)
    obtain ⟨⟨kd, zn, lm, ch, lv, cn, dr, la⟩, hQ, hkd⟩ := at_Q hok hiQ
    have hi : i < 20 := Nat.lt_of_lt_of_le hiQ hok.1
    have hkd : kd < 8 := hkd
    have hFe : va_up F i (kd, zn, lm, ch, lv, cn, dr, la) = F := by rw [← hF i _ hQ]; exact up_same F i
    have hP : va_P D cls (wm ca ya (va_up F i (kd, zn, lm, ch, lv, cn, dr, la)) Q.length 0 fl t) H := by rw [hFe]; exact hP
    have hD : va_D A (wm ca ya (va_up F i (kd, zn, lm, ch, lv, cn, dr, la)) Q.length 0 fl t) := by rw [hFe]; exact hD
    have hr9 : r = ((pk kd (ch, lv, cn, dr, la) t).1, Q, (pk kd (ch, lv, cn, dr, la) t).2) := by rw [← hr9]; simp only [zK, hix, sQ_of hQ, gQ_of hQ]
    refine lv_aload_n hx hb dX10_cost_18 rfl (lv_at hl 0 rfl) ?_
    refine lv_iload_n hx hb dX10_cost_19 rfl (lv_at hl 1 rfl) ?_
    refine k_mi (n9 := 1) (As := [.int (nI i)]) C (n_costOf l D ca sa lo ya F Q.length 0 fl t (by first | omega | (simp only [tb_n]; omega)) i hi kd hkd zn lm (ch, lv, cn, dr, la) _) (fun U A9 h => co_X10_costOf h A9) (in_X10 hk.1 _) (ml_X10_97 hk.1 _) (im_X10_costOf hk.1 _) (se_X10_X10_costOf hk.1 _) (by decide +kernel) ⟨⟨rfl, rfl⟩, by decide, by decide⟩ hP hD hS rfl rfl rfl hl.1 rfl (Nat.le_of_ble_eq_true rfl) dX10_cost_20 ⟨by decide, by decide⟩ (fun H locs hP hD hS => ?_)
    subst hr9
    exact rf_ C hrt hlocks rfl (by rw [hFe]; exact hF) hP hS dX10_cost_23
  · have hix := there_f hok.1 (bi_eq0 c_1)
    have hr9 : r = (-101, Q, t) := by rw [← hr9]; simp only [zK, hix]
    subst hr9
    refine lv_bipush (v := (-101)) hx hb dX10_cost_13 (by decide) ?_
    refine lv_goto (tgt := 23) hx hb dX10_cost_15 (by decide) ?_
    exact rf_ C hrt hlocks rfl hF hP hS dX10_cost_23

set_option maxHeartbeats 4000000 in
set_option maxRecDepth 100000 in
theorem N_clear (l : Launch) (D : va_G) (ca : Nat → ClassId) (sa : Nat → Nat) (lo : Nat) (ya : Nat → Nat) (F : Nat → Pd) (Q : List Pd) (cd fl : Int32) (t : Tr) (hok : okQ Q) (hF : RQ F Q) (ht : t.1 + 2 ≤ 2147483648) (x : Int32) (sz : Nat) : Met l yX10_clear [.code yX10_clear cX10_clear 3 (some .int)] ({ frames := 2, cells := 0, slots := 0, locals := 60 }) (PX D ca sa lo sz [.ref (ya 0), .int x] (wm ca ya F Q.length cd fl t)) (QF D ca ya (zC Q t x).1 0 (zC Q t x).2.1 (zC Q t x).2.2 (va_A (wm ca ya F Q.length cd fl t) sz)) 0 0 (va_A (wm ca ya F Q.length cd fl t) sz) := by
  generalize hr9 : zC Q t x = r
  refine mk_met (fun A => QF D ca ya r.1 0 r.2.1 r.2.2 A) (by decide) (Nat.le_of_ble_eq_true rfl) ?_
  intro p e s m below meth c A ls C hrt hlocks hnm hsz hP hD hS hl
  obtain ⟨hx, hb, hml, hown, hk, hz, hlo, hA, hAl⟩ := id C
  have hK : va_K D cls (tyl ca) s := hk.2.1
  have hl : lv_has ls 3 [(0, .ref (ya 0)), (1, .int x)] := hl
  refine lv_aload_n hx hb dX10_clear_0 rfl (lv_at hl 0 rfl) ?_
  refine lv_iconst (v := 0) hx hb dX10_clear_1 (by decide) ?_
  refine va_put (D := D) (v := .int 0) (ty := .int) (C := RX10) (T := TX10) (N := 15) hx hb (uc_10 hk.1 _) (fun _ h9 => h9) tyX10 tyX10_ok nmX10 hown hK hP hD hS 0 rfl rfl 0 (by decide) (fl_X10_38 hk.1 _) (fun _ h9 => h9) rfl (by decide +kernel) rfl rfl (Nat.le_of_ble_eq_true rfl) dX10_clear_2 (fun H locs hP hD hS => ?_)
  have hP : va_P D cls (wm ca ya F Q.length 0 fl t) H := hP
  have hD : va_D A (wm ca ya F Q.length 0 fl t) := hD
  refine lv_aload_n hx hb dX10_clear_5 rfl (lv_at hl 0 rfl) ?_
  refine lv_iload_n hx hb dX10_clear_6 rfl (lv_at hl 1 rfl) ?_
  refine k_mi (n9 := 1) (As := [.int x]) C (n_isThere l D ca sa lo ya F Q.length 0 fl t x _) (fun U A9 h => co_X10_isThere h A9) (in_X10 hk.1 _) (ml_X10_82 hk.1 _) (im_X10_isThere hk.1 _) (se_X10_X10_isThere hk.1 _) (by decide +kernel) ⟨⟨rfl, rfl⟩, by decide, by decide⟩ hP hD hS rfl rfl rfl hl.1 rfl (Nat.le_of_ble_eq_true rfl) dX10_clear_7 ⟨by decide, by decide⟩ (fun H locs hP hD hS => ?_)
  refine lv_if_ne (tgt := 16) hx hb dX10_clear_10 (by decide) (fun c_1 => ?_) (fun c_1 => ?_)
  · obtain ⟨i, hix, hiQ, rfl⟩ := there_t hok.1 (bi_ne0 c_1)
    obtain ⟨⟨kd, zn, lm, ch, lv, cn, dr, la⟩, hQ, hkd⟩ := at_Q hok hiQ
    have hi : i < 20 := Nat.lt_of_lt_of_le hiQ hok.1
    have hkd : kd < 8 := hkd
    have hFe : va_up F i (kd, zn, lm, ch, lv, cn, dr, la) = F := by rw [← hF i _ hQ]; exact up_same F i
    have hP : va_P D cls (wm ca ya (va_up F i (kd, zn, lm, ch, lv, cn, dr, la)) Q.length 0 fl t) H := by rw [hFe]; exact hP
    have hD : va_D A (wm ca ya (va_up F i (kd, zn, lm, ch, lv, cn, dr, la)) Q.length 0 fl t) := by rw [hFe]; exact hD
    have hr9 : r = (1, Q.set i (kd, zn, lm, (pcl kd (ch, lv, cn, dr, la) t).1), (pcl kd (ch, lv, cn, dr, la) t).2) := by rw [← hr9]; simp only [zC, hix, sQ_of hQ, gQ_of hQ]
    rcases k8 hkd with rfl | rfl | rfl | rfl | rfl | rfl | rfl | rfl
    · refine lv_aload_n hx hb dX10_clear_16 rfl (lv_at hl 0 rfl) ?_
      refine va_get (D := D) (C := RX10) (T := TX10) (N := 15) hx hb (uc_10 hk.1 _) (fun _ h9 => h9) hown hK hP 0 rfl rfl 2 (by decide) (fl_X10_7 hk.1 _) (fun _ h9 => h9) rfl dX10_clear_17 ?_
      refine lv_iload_n hx hb dX10_clear_20 rfl (lv_at hl 1 rfl) ?_
      refine ld_i (x := nI 0) C hP 1 rfl hi (congrArg (fun q : Pd => nI q.1) (va_up_self F i _)) dX10_clear_21 ?_
      refine lv_istore_n (lv' := [(2, .int (nI 0)), (0, .ref (ya 0)), (1, .int (nI i))]) hx hb dX10_clear_22 rfl hl (by decide) rfl (fun ls hl => ?_)
      refine lv_iload_n hx hb dX10_clear_23 rfl (lv_at hl 0 rfl) ?_
      refine lv_iconst (v := 5) hx hb dX10_clear_24 (by decide) ?_
      refine lv_icmp_eq (x := nI 0) (y := 5) (tgt := 40) hx hb dX10_clear_25 (by decide) (fun h9 => absurd h9 (by decide +kernel)) (fun _ => ?_)
      refine lv_iload_n hx hb dX10_clear_28 rfl (lv_at hl 0 rfl) ?_
      refine lv_bipush (v := 6) hx hb dX10_clear_29 (by decide) ?_
      refine lv_icmp_eq (x := nI 0) (y := 6) (tgt := 40) hx hb dX10_clear_31 (by decide) (fun h9 => absurd h9 (by decide +kernel)) (fun _ => ?_)
      refine lv_iload_n hx hb dX10_clear_34 rfl (lv_at hl 0 rfl) ?_
      refine lv_bipush (v := 7) hx hb dX10_clear_35 (by decide) ?_
      refine lv_icmp_ne (x := nI 0) (y := 7) (tgt := 46) hx hb dX10_clear_37 (by decide) (fun _ => ?_) (fun h9 => absurd h9 (by decide +kernel))
      refine lv_aload_n hx hb dX10_clear_46 rfl (lv_at hl 1 rfl) ?_
      refine lv_iconst (v := 3) hx hb dX10_clear_47 (by decide) ?_
      refine lv_iconst (v := 0) hx hb dX10_clear_48 (by decide) ?_
      refine k_mv (n9 := 2) (As := [.int 3, .int 0]) C (n_rule l D ca sa lo ya (va_up F i (0, zn, lm, ch, lv, cn, dr, la)) Q.length 0 fl t (by first | omega | (simp only [tb_n]; omega)) 3 0 _) (fun U A9 h => co_X10_rule h A9) (in_X10 hk.1 _) (ml_X10_58 hk.1 _) (im_X10_rule hk.1 _) (se_X10_X10_rule hk.1 _) (by decide +kernel) ⟨⟨rfl, rfl⟩, by decide, by decide⟩ hP hD hS rfl rfl rfl hl.1 rfl (Nat.le_of_ble_eq_true rfl) dX10_clear_49 ⟨by decide, by decide⟩ (fun H locs hP hD hS => ?_)
      refine lv_aload_n hx hb dX10_clear_52 rfl (lv_at hl 1 rfl) ?_
      refine va_get (D := D) (C := RX10) (T := TX10) (N := 15) hx hb (uc_10 hk.1 _) (fun _ h9 => h9) hown hK hP 0 rfl rfl 6 (by decide) (fl_X10_22 hk.1 _) (fun _ h9 => h9) rfl dX10_clear_53 ?_
      refine lv_iload_n hx hb dX10_clear_56 rfl (lv_at hl 2 rfl) ?_
      refine lv_iconst (v := 0) hx hb dX10_clear_57 (by decide) ?_
      refine st_4 (x9 := 0) C hP hD hS hi dX10_clear_58 (fun H locs hP hD hS => ?_)
      have hP : va_P D cls (wm ca ya (va_up F i (0, zn, lm, ch, 0, cn, dr, la)) Q.length 0 fl (tb 3 0 t)) H := hP
      have hD : va_D A (wm ca ya (va_up F i (0, zn, lm, ch, 0, cn, dr, la)) Q.length 0 fl (tb 3 0 t)) := hD
      refine lv_aload_n hx hb dX10_clear_59 rfl (lv_at hl 1 rfl) ?_
      refine va_get (D := D) (C := RX10) (T := TX10) (N := 15) hx hb (uc_10 hk.1 _) (fun _ h9 => h9) hown hK hP 0 rfl rfl 7 (by decide) (fl_X10_25 hk.1 _) (fun _ h9 => h9) rfl dX10_clear_60 ?_
      refine lv_iload_n hx hb dX10_clear_63 rfl (lv_at hl 2 rfl) ?_
      refine lv_iconst (v := 0) hx hb dX10_clear_64 (by decide) ?_
      refine st_5 (x9 := 0) C hP hD hS hi dX10_clear_65 (fun H locs hP hD hS => ?_)
      have hP : va_P D cls (wm ca ya (va_up F i (0, zn, lm, ch, 0, 0, dr, la)) Q.length 0 fl (tb 3 0 t)) H := hP
      have hD : va_D A (wm ca ya (va_up F i (0, zn, lm, ch, 0, 0, dr, la)) Q.length 0 fl (tb 3 0 t)) := hD
      refine lv_aload_n hx hb dX10_clear_66 rfl (lv_at hl 1 rfl) ?_
      refine va_get (D := D) (C := RX10) (T := TX10) (N := 15) hx hb (uc_10 hk.1 _) (fun _ h9 => h9) hown hK hP 0 rfl rfl 5 (by decide) (fl_X10_19 hk.1 _) (fun _ h9 => h9) rfl dX10_clear_67 ?_
      refine lv_iload_n hx hb dX10_clear_70 rfl (lv_at hl 2 rfl) ?_
      refine lv_dup2_11 hx hb dX10_clear_71 rfl rfl ?_
      refine ld_i (x := ch) C hP 4 rfl hi (congrArg (fun q : Pd => q.2.2.2.1) (va_up_self F i _)) dX10_clear_72 ?_
      refine lv_iload_n hx hb dX10_clear_73 rfl (lv_at hl 0 rfl) ?_
      refine lv_iconst (v := 5) hx hb dX10_clear_74 (by decide) ?_
      refine lv_icmp_ne (x := nI 0) (y := 5) (tgt := 82) hx hb dX10_clear_75 (by decide) (fun _ => ?_) (fun h9 => absurd h9 (by decide +kernel))
      refine lv_iconst (v := 0) hx hb dX10_clear_82 (by decide) ?_
      refine lv_iadd hx hb dX10_clear_83 ?_
      refine st_3 (x9 := ch + 0) C hP hD hS hi dX10_clear_84 (fun H locs hP hD hS => ?_)
      have hP : va_P D cls (wm ca ya (va_up F i (0, zn, lm, (ch + 0), 0, 0, dr, la)) Q.length 0 fl (tb 3 0 t)) H := hP
      have hD : va_D A (wm ca ya (va_up F i (0, zn, lm, (ch + 0), 0, 0, dr, la)) Q.length 0 fl (tb 3 0 t)) := hD
      refine lv_aload_n hx hb dX10_clear_85 rfl (lv_at hl 1 rfl) ?_
      refine va_get (D := D) (C := RX10) (T := TX10) (N := 15) hx hb (uc_10 hk.1 _) (fun _ h9 => h9) hown hK hP 0 rfl rfl 9 (by decide) (fl_X10_31 hk.1 _) (fun _ h9 => h9) rfl dX10_clear_86 ?_
      refine lv_iload_n hx hb dX10_clear_89 rfl (lv_at hl 2 rfl) ?_
      refine lv_aload_n hx hb dX10_clear_90 rfl (lv_at hl 1 rfl) ?_
      refine va_get (D := D) (C := RX10) (T := TX10) (N := 15) hx hb (uc_10 hk.1 _) (fun _ h9 => h9) hown hK hP 0 rfl rfl 9 (by decide) (fl_X10_31 hk.1 _) (fun _ h9 => h9) rfl dX10_clear_91 ?_
      refine lv_iload_n hx hb dX10_clear_94 rfl (lv_at hl 2 rfl) ?_
      refine ld_z (x := bi la) C hP 8 rfl hi (congrArg (fun q : Pd => bi q.2.2.2.2.2.2.2) (va_up_self F i _)) dX10_clear_95 ?_
      refine lv_if_eq (tgt := 109) hx hb dX10_clear_96 (by decide) (fun c_2 => ?_) (fun c_2 => ?_)
      · have hla : la = false := bi_eq0 c_2
        subst hla
        refine lv_iconst (v := 0) hx hb dX10_clear_109 (by decide) ?_
        refine st_7 (b9 := false) C hP hD hS hi dX10_clear_110 (fun H locs hP hD hS => ?_)
        have hP : va_P D cls (wm ca ya (va_up F i (0, zn, lm, (ch + 0), 0, 0, dr, false)) Q.length 0 fl (tb 3 0 t)) H := hP
        have hD : va_D A (wm ca ya (va_up F i (0, zn, lm, (ch + 0), 0, 0, dr, false)) Q.length 0 fl (tb 3 0 t)) := hD
        refine lv_aload_n hx hb dX10_clear_111 rfl (lv_at hl 1 rfl) ?_
        refine va_get (D := D) (C := RX10) (T := TX10) (N := 15) hx hb (uc_10 hk.1 _) (fun _ h9 => h9) hown hK hP 0 rfl rfl 8 (by decide) (fl_X10_28 hk.1 _) (fun _ h9 => h9) rfl dX10_clear_112 ?_
        refine lv_iload_n hx hb dX10_clear_115 rfl (lv_at hl 2 rfl) ?_
        refine lv_iload_n hx hb dX10_clear_116 rfl (lv_at hl 0 rfl) ?_
        refine lv_bipush (v := 7) hx hb dX10_clear_117 (by decide) ?_
        refine lv_icmp_ne (x := nI 0) (y := 7) (tgt := 126) hx hb dX10_clear_119 (by decide) (fun _ => ?_) (fun h9 => absurd h9 (by decide +kernel))
        refine lv_aload_n hx hb dX10_clear_126 rfl (lv_at hl 1 rfl) ?_
        refine va_get (D := D) (C := RX10) (T := TX10) (N := 15) hx hb (uc_10 hk.1 _) (fun _ h9 => h9) hown hK hP 0 rfl rfl 8 (by decide) (fl_X10_28 hk.1 _) (fun _ h9 => h9) rfl dX10_clear_127 ?_
        refine lv_iload_n hx hb dX10_clear_130 rfl (lv_at hl 2 rfl) ?_
        refine ld_i (x := dr) C hP 7 rfl hi (congrArg (fun q : Pd => q.2.2.2.2.2.2.1) (va_up_self F i _)) dX10_clear_131 ?_
        refine st_6 (x9 := dr) C hP hD hS hi dX10_clear_132 (fun H locs hP hD hS => ?_)
        have hP : va_P D cls (wm ca ya (va_up F i (0, zn, lm, (ch + 0), 0, 0, dr, false)) Q.length 0 fl (tb 3 0 t)) H := hP
        have hD : va_D A (wm ca ya (va_up F i (0, zn, lm, (ch + 0), 0, 0, dr, false)) Q.length 0 fl (tb 3 0 t)) := hD
        refine lv_iconst (v := 1) hx hb dX10_clear_133 (by decide) ?_
        have hr9 : r = (1, Q.set i (0, zn, lm, (ch + 0), 0, 0, dr, false), (tb 3 0 t)) := by rw [hr9, epcl_0, Int32.add_zero]; rfl
        subst hr9
        exact rf_ C hrt hlocks rfl (hF.set _) (by rw [List.length_set]; exact hP) hS dX10_clear_134
      · have hla : la = true := bi_ne0 c_2
        subst hla
        refine lv_iload_n hx hb dX10_clear_99 rfl (lv_at hl 0 rfl) ?_
        refine lv_bipush (v := 6) hx hb dX10_clear_100 (by decide) ?_
        refine lv_icmp_eq (x := nI 0) (y := 6) (tgt := 109) hx hb dX10_clear_102 (by decide) (fun h9 => absurd h9 (by decide +kernel)) (fun _ => ?_)
        refine lv_iconst (v := 1) hx hb dX10_clear_105 (by decide) ?_
        refine lv_goto (tgt := 110) hx hb dX10_clear_106 (by decide) ?_
        refine st_7 (b9 := true) C hP hD hS hi dX10_clear_110 (fun H locs hP hD hS => ?_)
        have hP : va_P D cls (wm ca ya (va_up F i (0, zn, lm, (ch + 0), 0, 0, dr, true)) Q.length 0 fl (tb 3 0 t)) H := hP
        have hD : va_D A (wm ca ya (va_up F i (0, zn, lm, (ch + 0), 0, 0, dr, true)) Q.length 0 fl (tb 3 0 t)) := hD
        refine lv_aload_n hx hb dX10_clear_111 rfl (lv_at hl 1 rfl) ?_
        refine va_get (D := D) (C := RX10) (T := TX10) (N := 15) hx hb (uc_10 hk.1 _) (fun _ h9 => h9) hown hK hP 0 rfl rfl 8 (by decide) (fl_X10_28 hk.1 _) (fun _ h9 => h9) rfl dX10_clear_112 ?_
        refine lv_iload_n hx hb dX10_clear_115 rfl (lv_at hl 2 rfl) ?_
        refine lv_iload_n hx hb dX10_clear_116 rfl (lv_at hl 0 rfl) ?_
        refine lv_bipush (v := 7) hx hb dX10_clear_117 (by decide) ?_
        refine lv_icmp_ne (x := nI 0) (y := 7) (tgt := 126) hx hb dX10_clear_119 (by decide) (fun _ => ?_) (fun h9 => absurd h9 (by decide +kernel))
        refine lv_aload_n hx hb dX10_clear_126 rfl (lv_at hl 1 rfl) ?_
        refine va_get (D := D) (C := RX10) (T := TX10) (N := 15) hx hb (uc_10 hk.1 _) (fun _ h9 => h9) hown hK hP 0 rfl rfl 8 (by decide) (fl_X10_28 hk.1 _) (fun _ h9 => h9) rfl dX10_clear_127 ?_
        refine lv_iload_n hx hb dX10_clear_130 rfl (lv_at hl 2 rfl) ?_
        refine ld_i (x := dr) C hP 7 rfl hi (congrArg (fun q : Pd => q.2.2.2.2.2.2.1) (va_up_self F i _)) dX10_clear_131 ?_
        refine st_6 (x9 := dr) C hP hD hS hi dX10_clear_132 (fun H locs hP hD hS => ?_)
        have hP : va_P D cls (wm ca ya (va_up F i (0, zn, lm, (ch + 0), 0, 0, dr, true)) Q.length 0 fl (tb 3 0 t)) H := hP
        have hD : va_D A (wm ca ya (va_up F i (0, zn, lm, (ch + 0), 0, 0, dr, true)) Q.length 0 fl (tb 3 0 t)) := hD
        refine lv_iconst (v := 1) hx hb dX10_clear_133 (by decide) ?_
        have hr9 : r = (1, Q.set i (0, zn, lm, (ch + 0), 0, 0, dr, true), (tb 3 0 t)) := by rw [hr9, epcl_0, Int32.add_zero]; rfl
        subst hr9
        exact rf_ C hrt hlocks rfl (hF.set _) (by rw [List.length_set]; exact hP) hS dX10_clear_134
    · refine lv_aload_n hx hb dX10_clear_16 rfl (lv_at hl 0 rfl) ?_
      refine va_get (D := D) (C := RX10) (T := TX10) (N := 15) hx hb (uc_10 hk.1 _) (fun _ h9 => h9) hown hK hP 0 rfl rfl 2 (by decide) (fl_X10_7 hk.1 _) (fun _ h9 => h9) rfl dX10_clear_17 ?_
      refine lv_iload_n hx hb dX10_clear_20 rfl (lv_at hl 1 rfl) ?_
      refine ld_i (x := nI 1) C hP 1 rfl hi (congrArg (fun q : Pd => nI q.1) (va_up_self F i _)) dX10_clear_21 ?_
      refine lv_istore_n (lv' := [(2, .int (nI 1)), (0, .ref (ya 0)), (1, .int (nI i))]) hx hb dX10_clear_22 rfl hl (by decide) rfl (fun ls hl => ?_)
      refine lv_iload_n hx hb dX10_clear_23 rfl (lv_at hl 0 rfl) ?_
      refine lv_iconst (v := 5) hx hb dX10_clear_24 (by decide) ?_
      refine lv_icmp_eq (x := nI 1) (y := 5) (tgt := 40) hx hb dX10_clear_25 (by decide) (fun h9 => absurd h9 (by decide +kernel)) (fun _ => ?_)
      refine lv_iload_n hx hb dX10_clear_28 rfl (lv_at hl 0 rfl) ?_
      refine lv_bipush (v := 6) hx hb dX10_clear_29 (by decide) ?_
      refine lv_icmp_eq (x := nI 1) (y := 6) (tgt := 40) hx hb dX10_clear_31 (by decide) (fun h9 => absurd h9 (by decide +kernel)) (fun _ => ?_)
      refine lv_iload_n hx hb dX10_clear_34 rfl (lv_at hl 0 rfl) ?_
      refine lv_bipush (v := 7) hx hb dX10_clear_35 (by decide) ?_
      refine lv_icmp_ne (x := nI 1) (y := 7) (tgt := 46) hx hb dX10_clear_37 (by decide) (fun _ => ?_) (fun h9 => absurd h9 (by decide +kernel))
      refine lv_aload_n hx hb dX10_clear_46 rfl (lv_at hl 1 rfl) ?_
      refine lv_iconst (v := 3) hx hb dX10_clear_47 (by decide) ?_
      refine lv_iconst (v := 0) hx hb dX10_clear_48 (by decide) ?_
      refine k_mv (n9 := 2) (As := [.int 3, .int 0]) C (n_rule l D ca sa lo ya (va_up F i (1, zn, lm, ch, lv, cn, dr, la)) Q.length 0 fl t (by first | omega | (simp only [tb_n]; omega)) 3 0 _) (fun U A9 h => co_X10_rule h A9) (in_X10 hk.1 _) (ml_X10_58 hk.1 _) (im_X10_rule hk.1 _) (se_X10_X10_rule hk.1 _) (by decide +kernel) ⟨⟨rfl, rfl⟩, by decide, by decide⟩ hP hD hS rfl rfl rfl hl.1 rfl (Nat.le_of_ble_eq_true rfl) dX10_clear_49 ⟨by decide, by decide⟩ (fun H locs hP hD hS => ?_)
      refine lv_aload_n hx hb dX10_clear_52 rfl (lv_at hl 1 rfl) ?_
      refine va_get (D := D) (C := RX10) (T := TX10) (N := 15) hx hb (uc_10 hk.1 _) (fun _ h9 => h9) hown hK hP 0 rfl rfl 6 (by decide) (fl_X10_22 hk.1 _) (fun _ h9 => h9) rfl dX10_clear_53 ?_
      refine lv_iload_n hx hb dX10_clear_56 rfl (lv_at hl 2 rfl) ?_
      refine lv_iconst (v := 0) hx hb dX10_clear_57 (by decide) ?_
      refine st_4 (x9 := 0) C hP hD hS hi dX10_clear_58 (fun H locs hP hD hS => ?_)
      have hP : va_P D cls (wm ca ya (va_up F i (1, zn, lm, ch, 0, cn, dr, la)) Q.length 0 fl (tb 3 0 t)) H := hP
      have hD : va_D A (wm ca ya (va_up F i (1, zn, lm, ch, 0, cn, dr, la)) Q.length 0 fl (tb 3 0 t)) := hD
      refine lv_aload_n hx hb dX10_clear_59 rfl (lv_at hl 1 rfl) ?_
      refine va_get (D := D) (C := RX10) (T := TX10) (N := 15) hx hb (uc_10 hk.1 _) (fun _ h9 => h9) hown hK hP 0 rfl rfl 7 (by decide) (fl_X10_25 hk.1 _) (fun _ h9 => h9) rfl dX10_clear_60 ?_
      refine lv_iload_n hx hb dX10_clear_63 rfl (lv_at hl 2 rfl) ?_
      refine lv_iconst (v := 0) hx hb dX10_clear_64 (by decide) ?_
      refine st_5 (x9 := 0) C hP hD hS hi dX10_clear_65 (fun H locs hP hD hS => ?_)
      have hP : va_P D cls (wm ca ya (va_up F i (1, zn, lm, ch, 0, 0, dr, la)) Q.length 0 fl (tb 3 0 t)) H := hP
      have hD : va_D A (wm ca ya (va_up F i (1, zn, lm, ch, 0, 0, dr, la)) Q.length 0 fl (tb 3 0 t)) := hD
      refine lv_aload_n hx hb dX10_clear_66 rfl (lv_at hl 1 rfl) ?_
      refine va_get (D := D) (C := RX10) (T := TX10) (N := 15) hx hb (uc_10 hk.1 _) (fun _ h9 => h9) hown hK hP 0 rfl rfl 5 (by decide) (fl_X10_19 hk.1 _) (fun _ h9 => h9) rfl dX10_clear_67 ?_
      refine lv_iload_n hx hb dX10_clear_70 rfl (lv_at hl 2 rfl) ?_
      refine lv_dup2_11 hx hb dX10_clear_71 rfl rfl ?_
      refine ld_i (x := ch) C hP 4 rfl hi (congrArg (fun q : Pd => q.2.2.2.1) (va_up_self F i _)) dX10_clear_72 ?_
      refine lv_iload_n hx hb dX10_clear_73 rfl (lv_at hl 0 rfl) ?_
      refine lv_iconst (v := 5) hx hb dX10_clear_74 (by decide) ?_
      refine lv_icmp_ne (x := nI 1) (y := 5) (tgt := 82) hx hb dX10_clear_75 (by decide) (fun _ => ?_) (fun h9 => absurd h9 (by decide +kernel))
      refine lv_iconst (v := 0) hx hb dX10_clear_82 (by decide) ?_
      refine lv_iadd hx hb dX10_clear_83 ?_
      refine st_3 (x9 := ch + 0) C hP hD hS hi dX10_clear_84 (fun H locs hP hD hS => ?_)
      have hP : va_P D cls (wm ca ya (va_up F i (1, zn, lm, (ch + 0), 0, 0, dr, la)) Q.length 0 fl (tb 3 0 t)) H := hP
      have hD : va_D A (wm ca ya (va_up F i (1, zn, lm, (ch + 0), 0, 0, dr, la)) Q.length 0 fl (tb 3 0 t)) := hD
      refine lv_aload_n hx hb dX10_clear_85 rfl (lv_at hl 1 rfl) ?_
      refine va_get (D := D) (C := RX10) (T := TX10) (N := 15) hx hb (uc_10 hk.1 _) (fun _ h9 => h9) hown hK hP 0 rfl rfl 9 (by decide) (fl_X10_31 hk.1 _) (fun _ h9 => h9) rfl dX10_clear_86 ?_
      refine lv_iload_n hx hb dX10_clear_89 rfl (lv_at hl 2 rfl) ?_
      refine lv_aload_n hx hb dX10_clear_90 rfl (lv_at hl 1 rfl) ?_
      refine va_get (D := D) (C := RX10) (T := TX10) (N := 15) hx hb (uc_10 hk.1 _) (fun _ h9 => h9) hown hK hP 0 rfl rfl 9 (by decide) (fl_X10_31 hk.1 _) (fun _ h9 => h9) rfl dX10_clear_91 ?_
      refine lv_iload_n hx hb dX10_clear_94 rfl (lv_at hl 2 rfl) ?_
      refine ld_z (x := bi la) C hP 8 rfl hi (congrArg (fun q : Pd => bi q.2.2.2.2.2.2.2) (va_up_self F i _)) dX10_clear_95 ?_
      refine lv_if_eq (tgt := 109) hx hb dX10_clear_96 (by decide) (fun c_3 => ?_) (fun c_3 => ?_)
      · have hla : la = false := bi_eq0 c_3
        subst hla
        refine lv_iconst (v := 0) hx hb dX10_clear_109 (by decide) ?_
        refine st_7 (b9 := false) C hP hD hS hi dX10_clear_110 (fun H locs hP hD hS => ?_)
        have hP : va_P D cls (wm ca ya (va_up F i (1, zn, lm, (ch + 0), 0, 0, dr, false)) Q.length 0 fl (tb 3 0 t)) H := hP
        have hD : va_D A (wm ca ya (va_up F i (1, zn, lm, (ch + 0), 0, 0, dr, false)) Q.length 0 fl (tb 3 0 t)) := hD
        refine lv_aload_n hx hb dX10_clear_111 rfl (lv_at hl 1 rfl) ?_
        refine va_get (D := D) (C := RX10) (T := TX10) (N := 15) hx hb (uc_10 hk.1 _) (fun _ h9 => h9) hown hK hP 0 rfl rfl 8 (by decide) (fl_X10_28 hk.1 _) (fun _ h9 => h9) rfl dX10_clear_112 ?_
        refine lv_iload_n hx hb dX10_clear_115 rfl (lv_at hl 2 rfl) ?_
        refine lv_iload_n hx hb dX10_clear_116 rfl (lv_at hl 0 rfl) ?_
        refine lv_bipush (v := 7) hx hb dX10_clear_117 (by decide) ?_
        refine lv_icmp_ne (x := nI 1) (y := 7) (tgt := 126) hx hb dX10_clear_119 (by decide) (fun _ => ?_) (fun h9 => absurd h9 (by decide +kernel))
        refine lv_aload_n hx hb dX10_clear_126 rfl (lv_at hl 1 rfl) ?_
        refine va_get (D := D) (C := RX10) (T := TX10) (N := 15) hx hb (uc_10 hk.1 _) (fun _ h9 => h9) hown hK hP 0 rfl rfl 8 (by decide) (fl_X10_28 hk.1 _) (fun _ h9 => h9) rfl dX10_clear_127 ?_
        refine lv_iload_n hx hb dX10_clear_130 rfl (lv_at hl 2 rfl) ?_
        refine ld_i (x := dr) C hP 7 rfl hi (congrArg (fun q : Pd => q.2.2.2.2.2.2.1) (va_up_self F i _)) dX10_clear_131 ?_
        refine st_6 (x9 := dr) C hP hD hS hi dX10_clear_132 (fun H locs hP hD hS => ?_)
        have hP : va_P D cls (wm ca ya (va_up F i (1, zn, lm, (ch + 0), 0, 0, dr, false)) Q.length 0 fl (tb 3 0 t)) H := hP
        have hD : va_D A (wm ca ya (va_up F i (1, zn, lm, (ch + 0), 0, 0, dr, false)) Q.length 0 fl (tb 3 0 t)) := hD
        refine lv_iconst (v := 1) hx hb dX10_clear_133 (by decide) ?_
        have hr9 : r = (1, Q.set i (1, zn, lm, (ch + 0), 0, 0, dr, false), (tb 3 0 t)) := by rw [hr9, epcl_1, Int32.add_zero]; rfl
        subst hr9
        exact rf_ C hrt hlocks rfl (hF.set _) (by rw [List.length_set]; exact hP) hS dX10_clear_134
      · have hla : la = true := bi_ne0 c_3
        subst hla
        refine lv_iload_n hx hb dX10_clear_99 rfl (lv_at hl 0 rfl) ?_
        refine lv_bipush (v := 6) hx hb dX10_clear_100 (by decide) ?_
        refine lv_icmp_eq (x := nI 1) (y := 6) (tgt := 109) hx hb dX10_clear_102 (by decide) (fun h9 => absurd h9 (by decide +kernel)) (fun _ => ?_)
        refine lv_iconst (v := 1) hx hb dX10_clear_105 (by decide) ?_
        refine lv_goto (tgt := 110) hx hb dX10_clear_106 (by decide) ?_
        refine st_7 (b9 := true) C hP hD hS hi dX10_clear_110 (fun H locs hP hD hS => ?_)
        have hP : va_P D cls (wm ca ya (va_up F i (1, zn, lm, (ch + 0), 0, 0, dr, true)) Q.length 0 fl (tb 3 0 t)) H := hP
        have hD : va_D A (wm ca ya (va_up F i (1, zn, lm, (ch + 0), 0, 0, dr, true)) Q.length 0 fl (tb 3 0 t)) := hD
        refine lv_aload_n hx hb dX10_clear_111 rfl (lv_at hl 1 rfl) ?_
        refine va_get (D := D) (C := RX10) (T := TX10) (N := 15) hx hb (uc_10 hk.1 _) (fun _ h9 => h9) hown hK hP 0 rfl rfl 8 (by decide) (fl_X10_28 hk.1 _) (fun _ h9 => h9) rfl dX10_clear_112 ?_
        refine lv_iload_n hx hb dX10_clear_115 rfl (lv_at hl 2 rfl) ?_
        refine lv_iload_n hx hb dX10_clear_116 rfl (lv_at hl 0 rfl) ?_
        refine lv_bipush (v := 7) hx hb dX10_clear_117 (by decide) ?_
        refine lv_icmp_ne (x := nI 1) (y := 7) (tgt := 126) hx hb dX10_clear_119 (by decide) (fun _ => ?_) (fun h9 => absurd h9 (by decide +kernel))
        refine lv_aload_n hx hb dX10_clear_126 rfl (lv_at hl 1 rfl) ?_
        refine va_get (D := D) (C := RX10) (T := TX10) (N := 15) hx hb (uc_10 hk.1 _) (fun _ h9 => h9) hown hK hP 0 rfl rfl 8 (by decide) (fl_X10_28 hk.1 _) (fun _ h9 => h9) rfl dX10_clear_127 ?_
        refine lv_iload_n hx hb dX10_clear_130 rfl (lv_at hl 2 rfl) ?_
        refine ld_i (x := dr) C hP 7 rfl hi (congrArg (fun q : Pd => q.2.2.2.2.2.2.1) (va_up_self F i _)) dX10_clear_131 ?_
        refine st_6 (x9 := dr) C hP hD hS hi dX10_clear_132 (fun H locs hP hD hS => ?_)
        have hP : va_P D cls (wm ca ya (va_up F i (1, zn, lm, (ch + 0), 0, 0, dr, true)) Q.length 0 fl (tb 3 0 t)) H := hP
        have hD : va_D A (wm ca ya (va_up F i (1, zn, lm, (ch + 0), 0, 0, dr, true)) Q.length 0 fl (tb 3 0 t)) := hD
        refine lv_iconst (v := 1) hx hb dX10_clear_133 (by decide) ?_
        have hr9 : r = (1, Q.set i (1, zn, lm, (ch + 0), 0, 0, dr, true), (tb 3 0 t)) := by rw [hr9, epcl_1, Int32.add_zero]; rfl
        subst hr9
        exact rf_ C hrt hlocks rfl (hF.set _) (by rw [List.length_set]; exact hP) hS dX10_clear_134
    · refine lv_aload_n hx hb dX10_clear_16 rfl (lv_at hl 0 rfl) ?_
      refine va_get (D := D) (C := RX10) (T := TX10) (N := 15) hx hb (uc_10 hk.1 _) (fun _ h9 => h9) hown hK hP 0 rfl rfl 2 (by decide) (fl_X10_7 hk.1 _) (fun _ h9 => h9) rfl dX10_clear_17 ?_
      refine lv_iload_n hx hb dX10_clear_20 rfl (lv_at hl 1 rfl) ?_
      refine ld_i (x := nI 2) C hP 1 rfl hi (congrArg (fun q : Pd => nI q.1) (va_up_self F i _)) dX10_clear_21 ?_
      refine lv_istore_n (lv' := [(2, .int (nI 2)), (0, .ref (ya 0)), (1, .int (nI i))]) hx hb dX10_clear_22 rfl hl (by decide) rfl (fun ls hl => ?_)
      refine lv_iload_n hx hb dX10_clear_23 rfl (lv_at hl 0 rfl) ?_
      refine lv_iconst (v := 5) hx hb dX10_clear_24 (by decide) ?_
      refine lv_icmp_eq (x := nI 2) (y := 5) (tgt := 40) hx hb dX10_clear_25 (by decide) (fun h9 => absurd h9 (by decide +kernel)) (fun _ => ?_)
      refine lv_iload_n hx hb dX10_clear_28 rfl (lv_at hl 0 rfl) ?_
      refine lv_bipush (v := 6) hx hb dX10_clear_29 (by decide) ?_
      refine lv_icmp_eq (x := nI 2) (y := 6) (tgt := 40) hx hb dX10_clear_31 (by decide) (fun h9 => absurd h9 (by decide +kernel)) (fun _ => ?_)
      refine lv_iload_n hx hb dX10_clear_34 rfl (lv_at hl 0 rfl) ?_
      refine lv_bipush (v := 7) hx hb dX10_clear_35 (by decide) ?_
      refine lv_icmp_ne (x := nI 2) (y := 7) (tgt := 46) hx hb dX10_clear_37 (by decide) (fun _ => ?_) (fun h9 => absurd h9 (by decide +kernel))
      refine lv_aload_n hx hb dX10_clear_46 rfl (lv_at hl 1 rfl) ?_
      refine lv_iconst (v := 3) hx hb dX10_clear_47 (by decide) ?_
      refine lv_iconst (v := 0) hx hb dX10_clear_48 (by decide) ?_
      refine k_mv (n9 := 2) (As := [.int 3, .int 0]) C (n_rule l D ca sa lo ya (va_up F i (2, zn, lm, ch, lv, cn, dr, la)) Q.length 0 fl t (by first | omega | (simp only [tb_n]; omega)) 3 0 _) (fun U A9 h => co_X10_rule h A9) (in_X10 hk.1 _) (ml_X10_58 hk.1 _) (im_X10_rule hk.1 _) (se_X10_X10_rule hk.1 _) (by decide +kernel) ⟨⟨rfl, rfl⟩, by decide, by decide⟩ hP hD hS rfl rfl rfl hl.1 rfl (Nat.le_of_ble_eq_true rfl) dX10_clear_49 ⟨by decide, by decide⟩ (fun H locs hP hD hS => ?_)
      refine lv_aload_n hx hb dX10_clear_52 rfl (lv_at hl 1 rfl) ?_
      refine va_get (D := D) (C := RX10) (T := TX10) (N := 15) hx hb (uc_10 hk.1 _) (fun _ h9 => h9) hown hK hP 0 rfl rfl 6 (by decide) (fl_X10_22 hk.1 _) (fun _ h9 => h9) rfl dX10_clear_53 ?_
      refine lv_iload_n hx hb dX10_clear_56 rfl (lv_at hl 2 rfl) ?_
      refine lv_iconst (v := 0) hx hb dX10_clear_57 (by decide) ?_
      refine st_4 (x9 := 0) C hP hD hS hi dX10_clear_58 (fun H locs hP hD hS => ?_)
      have hP : va_P D cls (wm ca ya (va_up F i (2, zn, lm, ch, 0, cn, dr, la)) Q.length 0 fl (tb 3 0 t)) H := hP
      have hD : va_D A (wm ca ya (va_up F i (2, zn, lm, ch, 0, cn, dr, la)) Q.length 0 fl (tb 3 0 t)) := hD
      refine lv_aload_n hx hb dX10_clear_59 rfl (lv_at hl 1 rfl) ?_
      refine va_get (D := D) (C := RX10) (T := TX10) (N := 15) hx hb (uc_10 hk.1 _) (fun _ h9 => h9) hown hK hP 0 rfl rfl 7 (by decide) (fl_X10_25 hk.1 _) (fun _ h9 => h9) rfl dX10_clear_60 ?_
      refine lv_iload_n hx hb dX10_clear_63 rfl (lv_at hl 2 rfl) ?_
      refine lv_iconst (v := 0) hx hb dX10_clear_64 (by decide) ?_
      refine st_5 (x9 := 0) C hP hD hS hi dX10_clear_65 (fun H locs hP hD hS => ?_)
      have hP : va_P D cls (wm ca ya (va_up F i (2, zn, lm, ch, 0, 0, dr, la)) Q.length 0 fl (tb 3 0 t)) H := hP
      have hD : va_D A (wm ca ya (va_up F i (2, zn, lm, ch, 0, 0, dr, la)) Q.length 0 fl (tb 3 0 t)) := hD
      refine lv_aload_n hx hb dX10_clear_66 rfl (lv_at hl 1 rfl) ?_
      refine va_get (D := D) (C := RX10) (T := TX10) (N := 15) hx hb (uc_10 hk.1 _) (fun _ h9 => h9) hown hK hP 0 rfl rfl 5 (by decide) (fl_X10_19 hk.1 _) (fun _ h9 => h9) rfl dX10_clear_67 ?_
      refine lv_iload_n hx hb dX10_clear_70 rfl (lv_at hl 2 rfl) ?_
      refine lv_dup2_11 hx hb dX10_clear_71 rfl rfl ?_
      refine ld_i (x := ch) C hP 4 rfl hi (congrArg (fun q : Pd => q.2.2.2.1) (va_up_self F i _)) dX10_clear_72 ?_
      refine lv_iload_n hx hb dX10_clear_73 rfl (lv_at hl 0 rfl) ?_
      refine lv_iconst (v := 5) hx hb dX10_clear_74 (by decide) ?_
      refine lv_icmp_ne (x := nI 2) (y := 5) (tgt := 82) hx hb dX10_clear_75 (by decide) (fun _ => ?_) (fun h9 => absurd h9 (by decide +kernel))
      refine lv_iconst (v := 0) hx hb dX10_clear_82 (by decide) ?_
      refine lv_iadd hx hb dX10_clear_83 ?_
      refine st_3 (x9 := ch + 0) C hP hD hS hi dX10_clear_84 (fun H locs hP hD hS => ?_)
      have hP : va_P D cls (wm ca ya (va_up F i (2, zn, lm, (ch + 0), 0, 0, dr, la)) Q.length 0 fl (tb 3 0 t)) H := hP
      have hD : va_D A (wm ca ya (va_up F i (2, zn, lm, (ch + 0), 0, 0, dr, la)) Q.length 0 fl (tb 3 0 t)) := hD
      refine lv_aload_n hx hb dX10_clear_85 rfl (lv_at hl 1 rfl) ?_
      refine va_get (D := D) (C := RX10) (T := TX10) (N := 15) hx hb (uc_10 hk.1 _) (fun _ h9 => h9) hown hK hP 0 rfl rfl 9 (by decide) (fl_X10_31 hk.1 _) (fun _ h9 => h9) rfl dX10_clear_86 ?_
      refine lv_iload_n hx hb dX10_clear_89 rfl (lv_at hl 2 rfl) ?_
      refine lv_aload_n hx hb dX10_clear_90 rfl (lv_at hl 1 rfl) ?_
      refine va_get (D := D) (C := RX10) (T := TX10) (N := 15) hx hb (uc_10 hk.1 _) (fun _ h9 => h9) hown hK hP 0 rfl rfl 9 (by decide) (fl_X10_31 hk.1 _) (fun _ h9 => h9) rfl dX10_clear_91 ?_
      refine lv_iload_n hx hb dX10_clear_94 rfl (lv_at hl 2 rfl) ?_
      refine ld_z (x := bi la) C hP 8 rfl hi (congrArg (fun q : Pd => bi q.2.2.2.2.2.2.2) (va_up_self F i _)) dX10_clear_95 ?_
      refine lv_if_eq (tgt := 109) hx hb dX10_clear_96 (by decide) (fun c_4 => ?_) (fun c_4 => ?_)
      · have hla : la = false := bi_eq0 c_4
        subst hla
        refine lv_iconst (v := 0) hx hb dX10_clear_109 (by decide) ?_
        refine st_7 (b9 := false) C hP hD hS hi dX10_clear_110 (fun H locs hP hD hS => ?_)
        have hP : va_P D cls (wm ca ya (va_up F i (2, zn, lm, (ch + 0), 0, 0, dr, false)) Q.length 0 fl (tb 3 0 t)) H := hP
        have hD : va_D A (wm ca ya (va_up F i (2, zn, lm, (ch + 0), 0, 0, dr, false)) Q.length 0 fl (tb 3 0 t)) := hD
        refine lv_aload_n hx hb dX10_clear_111 rfl (lv_at hl 1 rfl) ?_
        refine va_get (D := D) (C := RX10) (T := TX10) (N := 15) hx hb (uc_10 hk.1 _) (fun _ h9 => h9) hown hK hP 0 rfl rfl 8 (by decide) (fl_X10_28 hk.1 _) (fun _ h9 => h9) rfl dX10_clear_112 ?_
        refine lv_iload_n hx hb dX10_clear_115 rfl (lv_at hl 2 rfl) ?_
        refine lv_iload_n hx hb dX10_clear_116 rfl (lv_at hl 0 rfl) ?_
        refine lv_bipush (v := 7) hx hb dX10_clear_117 (by decide) ?_
        refine lv_icmp_ne (x := nI 2) (y := 7) (tgt := 126) hx hb dX10_clear_119 (by decide) (fun _ => ?_) (fun h9 => absurd h9 (by decide +kernel))
        refine lv_aload_n hx hb dX10_clear_126 rfl (lv_at hl 1 rfl) ?_
        refine va_get (D := D) (C := RX10) (T := TX10) (N := 15) hx hb (uc_10 hk.1 _) (fun _ h9 => h9) hown hK hP 0 rfl rfl 8 (by decide) (fl_X10_28 hk.1 _) (fun _ h9 => h9) rfl dX10_clear_127 ?_
        refine lv_iload_n hx hb dX10_clear_130 rfl (lv_at hl 2 rfl) ?_
        refine ld_i (x := dr) C hP 7 rfl hi (congrArg (fun q : Pd => q.2.2.2.2.2.2.1) (va_up_self F i _)) dX10_clear_131 ?_
        refine st_6 (x9 := dr) C hP hD hS hi dX10_clear_132 (fun H locs hP hD hS => ?_)
        have hP : va_P D cls (wm ca ya (va_up F i (2, zn, lm, (ch + 0), 0, 0, dr, false)) Q.length 0 fl (tb 3 0 t)) H := hP
        have hD : va_D A (wm ca ya (va_up F i (2, zn, lm, (ch + 0), 0, 0, dr, false)) Q.length 0 fl (tb 3 0 t)) := hD
        refine lv_iconst (v := 1) hx hb dX10_clear_133 (by decide) ?_
        have hr9 : r = (1, Q.set i (2, zn, lm, (ch + 0), 0, 0, dr, false), (tb 3 0 t)) := by rw [hr9, epcl_2, Int32.add_zero]; rfl
        subst hr9
        exact rf_ C hrt hlocks rfl (hF.set _) (by rw [List.length_set]; exact hP) hS dX10_clear_134
      · have hla : la = true := bi_ne0 c_4
        subst hla
        refine lv_iload_n hx hb dX10_clear_99 rfl (lv_at hl 0 rfl) ?_
        refine lv_bipush (v := 6) hx hb dX10_clear_100 (by decide) ?_
        refine lv_icmp_eq (x := nI 2) (y := 6) (tgt := 109) hx hb dX10_clear_102 (by decide) (fun h9 => absurd h9 (by decide +kernel)) (fun _ => ?_)
        refine lv_iconst (v := 1) hx hb dX10_clear_105 (by decide) ?_
        refine lv_goto (tgt := 110) hx hb dX10_clear_106 (by decide) ?_
        refine st_7 (b9 := true) C hP hD hS hi dX10_clear_110 (fun H locs hP hD hS => ?_)
        have hP : va_P D cls (wm ca ya (va_up F i (2, zn, lm, (ch + 0), 0, 0, dr, true)) Q.length 0 fl (tb 3 0 t)) H := hP
        have hD : va_D A (wm ca ya (va_up F i (2, zn, lm, (ch + 0), 0, 0, dr, true)) Q.length 0 fl (tb 3 0 t)) := hD
        refine lv_aload_n hx hb dX10_clear_111 rfl (lv_at hl 1 rfl) ?_
        refine va_get (D := D) (C := RX10) (T := TX10) (N := 15) hx hb (uc_10 hk.1 _) (fun _ h9 => h9) hown hK hP 0 rfl rfl 8 (by decide) (fl_X10_28 hk.1 _) (fun _ h9 => h9) rfl dX10_clear_112 ?_
        refine lv_iload_n hx hb dX10_clear_115 rfl (lv_at hl 2 rfl) ?_
        refine lv_iload_n hx hb dX10_clear_116 rfl (lv_at hl 0 rfl) ?_
        refine lv_bipush (v := 7) hx hb dX10_clear_117 (by decide) ?_
        refine lv_icmp_ne (x := nI 2) (y := 7) (tgt := 126) hx hb dX10_clear_119 (by decide) (fun _ => ?_) (fun h9 => absurd h9 (by decide +kernel))
        refine lv_aload_n hx hb dX10_clear_126 rfl (lv_at hl 1 rfl) ?_
        refine va_get (D := D) (C := RX10) (T := TX10) (N := 15) hx hb (uc_10 hk.1 _) (fun _ h9 => h9) hown hK hP 0 rfl rfl 8 (by decide) (fl_X10_28 hk.1 _) (fun _ h9 => h9) rfl dX10_clear_127 ?_
        refine lv_iload_n hx hb dX10_clear_130 rfl (lv_at hl 2 rfl) ?_
        refine ld_i (x := dr) C hP 7 rfl hi (congrArg (fun q : Pd => q.2.2.2.2.2.2.1) (va_up_self F i _)) dX10_clear_131 ?_
        refine st_6 (x9 := dr) C hP hD hS hi dX10_clear_132 (fun H locs hP hD hS => ?_)
        have hP : va_P D cls (wm ca ya (va_up F i (2, zn, lm, (ch + 0), 0, 0, dr, true)) Q.length 0 fl (tb 3 0 t)) H := hP
        have hD : va_D A (wm ca ya (va_up F i (2, zn, lm, (ch + 0), 0, 0, dr, true)) Q.length 0 fl (tb 3 0 t)) := hD
        refine lv_iconst (v := 1) hx hb dX10_clear_133 (by decide) ?_
        have hr9 : r = (1, Q.set i (2, zn, lm, (ch + 0), 0, 0, dr, true), (tb 3 0 t)) := by rw [hr9, epcl_2, Int32.add_zero]; rfl
        subst hr9
        exact rf_ C hrt hlocks rfl (hF.set _) (by rw [List.length_set]; exact hP) hS dX10_clear_134
    · refine lv_aload_n hx hb dX10_clear_16 rfl (lv_at hl 0 rfl) ?_
      refine va_get (D := D) (C := RX10) (T := TX10) (N := 15) hx hb (uc_10 hk.1 _) (fun _ h9 => h9) hown hK hP 0 rfl rfl 2 (by decide) (fl_X10_7 hk.1 _) (fun _ h9 => h9) rfl dX10_clear_17 ?_
      refine lv_iload_n hx hb dX10_clear_20 rfl (lv_at hl 1 rfl) ?_
      refine ld_i (x := nI 3) C hP 1 rfl hi (congrArg (fun q : Pd => nI q.1) (va_up_self F i _)) dX10_clear_21 ?_
      refine lv_istore_n (lv' := [(2, .int (nI 3)), (0, .ref (ya 0)), (1, .int (nI i))]) hx hb dX10_clear_22 rfl hl (by decide) rfl (fun ls hl => ?_)
      refine lv_iload_n hx hb dX10_clear_23 rfl (lv_at hl 0 rfl) ?_
      refine lv_iconst (v := 5) hx hb dX10_clear_24 (by decide) ?_
      refine lv_icmp_eq (x := nI 3) (y := 5) (tgt := 40) hx hb dX10_clear_25 (by decide) (fun h9 => absurd h9 (by decide +kernel)) (fun _ => ?_)
      refine lv_iload_n hx hb dX10_clear_28 rfl (lv_at hl 0 rfl) ?_
      refine lv_bipush (v := 6) hx hb dX10_clear_29 (by decide) ?_
      refine lv_icmp_eq (x := nI 3) (y := 6) (tgt := 40) hx hb dX10_clear_31 (by decide) (fun h9 => absurd h9 (by decide +kernel)) (fun _ => ?_)
      refine lv_iload_n hx hb dX10_clear_34 rfl (lv_at hl 0 rfl) ?_
      refine lv_bipush (v := 7) hx hb dX10_clear_35 (by decide) ?_
      refine lv_icmp_ne (x := nI 3) (y := 7) (tgt := 46) hx hb dX10_clear_37 (by decide) (fun _ => ?_) (fun h9 => absurd h9 (by decide +kernel))
      refine lv_aload_n hx hb dX10_clear_46 rfl (lv_at hl 1 rfl) ?_
      refine lv_iconst (v := 3) hx hb dX10_clear_47 (by decide) ?_
      refine lv_iconst (v := 0) hx hb dX10_clear_48 (by decide) ?_
      refine k_mv (n9 := 2) (As := [.int 3, .int 0]) C (n_rule l D ca sa lo ya (va_up F i (3, zn, lm, ch, lv, cn, dr, la)) Q.length 0 fl t (by first | omega | (simp only [tb_n]; omega)) 3 0 _) (fun U A9 h => co_X10_rule h A9) (in_X10 hk.1 _) (ml_X10_58 hk.1 _) (im_X10_rule hk.1 _) (se_X10_X10_rule hk.1 _) (by decide +kernel) ⟨⟨rfl, rfl⟩, by decide, by decide⟩ hP hD hS rfl rfl rfl hl.1 rfl (Nat.le_of_ble_eq_true rfl) dX10_clear_49 ⟨by decide, by decide⟩ (fun H locs hP hD hS => ?_)
      refine lv_aload_n hx hb dX10_clear_52 rfl (lv_at hl 1 rfl) ?_
      refine va_get (D := D) (C := RX10) (T := TX10) (N := 15) hx hb (uc_10 hk.1 _) (fun _ h9 => h9) hown hK hP 0 rfl rfl 6 (by decide) (fl_X10_22 hk.1 _) (fun _ h9 => h9) rfl dX10_clear_53 ?_
      refine lv_iload_n hx hb dX10_clear_56 rfl (lv_at hl 2 rfl) ?_
      refine lv_iconst (v := 0) hx hb dX10_clear_57 (by decide) ?_
      refine st_4 (x9 := 0) C hP hD hS hi dX10_clear_58 (fun H locs hP hD hS => ?_)
      have hP : va_P D cls (wm ca ya (va_up F i (3, zn, lm, ch, 0, cn, dr, la)) Q.length 0 fl (tb 3 0 t)) H := hP
      have hD : va_D A (wm ca ya (va_up F i (3, zn, lm, ch, 0, cn, dr, la)) Q.length 0 fl (tb 3 0 t)) := hD
      refine lv_aload_n hx hb dX10_clear_59 rfl (lv_at hl 1 rfl) ?_
      refine va_get (D := D) (C := RX10) (T := TX10) (N := 15) hx hb (uc_10 hk.1 _) (fun _ h9 => h9) hown hK hP 0 rfl rfl 7 (by decide) (fl_X10_25 hk.1 _) (fun _ h9 => h9) rfl dX10_clear_60 ?_
      refine lv_iload_n hx hb dX10_clear_63 rfl (lv_at hl 2 rfl) ?_
      refine lv_iconst (v := 0) hx hb dX10_clear_64 (by decide) ?_
      refine st_5 (x9 := 0) C hP hD hS hi dX10_clear_65 (fun H locs hP hD hS => ?_)
      have hP : va_P D cls (wm ca ya (va_up F i (3, zn, lm, ch, 0, 0, dr, la)) Q.length 0 fl (tb 3 0 t)) H := hP
      have hD : va_D A (wm ca ya (va_up F i (3, zn, lm, ch, 0, 0, dr, la)) Q.length 0 fl (tb 3 0 t)) := hD
      refine lv_aload_n hx hb dX10_clear_66 rfl (lv_at hl 1 rfl) ?_
      refine va_get (D := D) (C := RX10) (T := TX10) (N := 15) hx hb (uc_10 hk.1 _) (fun _ h9 => h9) hown hK hP 0 rfl rfl 5 (by decide) (fl_X10_19 hk.1 _) (fun _ h9 => h9) rfl dX10_clear_67 ?_
      refine lv_iload_n hx hb dX10_clear_70 rfl (lv_at hl 2 rfl) ?_
      refine lv_dup2_11 hx hb dX10_clear_71 rfl rfl ?_
      refine ld_i (x := ch) C hP 4 rfl hi (congrArg (fun q : Pd => q.2.2.2.1) (va_up_self F i _)) dX10_clear_72 ?_
      refine lv_iload_n hx hb dX10_clear_73 rfl (lv_at hl 0 rfl) ?_
      refine lv_iconst (v := 5) hx hb dX10_clear_74 (by decide) ?_
      refine lv_icmp_ne (x := nI 3) (y := 5) (tgt := 82) hx hb dX10_clear_75 (by decide) (fun _ => ?_) (fun h9 => absurd h9 (by decide +kernel))
      refine lv_iconst (v := 0) hx hb dX10_clear_82 (by decide) ?_
      refine lv_iadd hx hb dX10_clear_83 ?_
      refine st_3 (x9 := ch + 0) C hP hD hS hi dX10_clear_84 (fun H locs hP hD hS => ?_)
      have hP : va_P D cls (wm ca ya (va_up F i (3, zn, lm, (ch + 0), 0, 0, dr, la)) Q.length 0 fl (tb 3 0 t)) H := hP
      have hD : va_D A (wm ca ya (va_up F i (3, zn, lm, (ch + 0), 0, 0, dr, la)) Q.length 0 fl (tb 3 0 t)) := hD
      refine lv_aload_n hx hb dX10_clear_85 rfl (lv_at hl 1 rfl) ?_
      refine va_get (D := D) (C := RX10) (T := TX10) (N := 15) hx hb (uc_10 hk.1 _) (fun _ h9 => h9) hown hK hP 0 rfl rfl 9 (by decide) (fl_X10_31 hk.1 _) (fun _ h9 => h9) rfl dX10_clear_86 ?_
      refine lv_iload_n hx hb dX10_clear_89 rfl (lv_at hl 2 rfl) ?_
      refine lv_aload_n hx hb dX10_clear_90 rfl (lv_at hl 1 rfl) ?_
      refine va_get (D := D) (C := RX10) (T := TX10) (N := 15) hx hb (uc_10 hk.1 _) (fun _ h9 => h9) hown hK hP 0 rfl rfl 9 (by decide) (fl_X10_31 hk.1 _) (fun _ h9 => h9) rfl dX10_clear_91 ?_
      refine lv_iload_n hx hb dX10_clear_94 rfl (lv_at hl 2 rfl) ?_
      refine ld_z (x := bi la) C hP 8 rfl hi (congrArg (fun q : Pd => bi q.2.2.2.2.2.2.2) (va_up_self F i _)) dX10_clear_95 ?_
      refine lv_if_eq (tgt := 109) hx hb dX10_clear_96 (by decide) (fun c_5 => ?_) (fun c_5 => ?_)
      · have hla : la = false := bi_eq0 c_5
        subst hla
        refine lv_iconst (v := 0) hx hb dX10_clear_109 (by decide) ?_
        refine st_7 (b9 := false) C hP hD hS hi dX10_clear_110 (fun H locs hP hD hS => ?_)
        have hP : va_P D cls (wm ca ya (va_up F i (3, zn, lm, (ch + 0), 0, 0, dr, false)) Q.length 0 fl (tb 3 0 t)) H := hP
        have hD : va_D A (wm ca ya (va_up F i (3, zn, lm, (ch + 0), 0, 0, dr, false)) Q.length 0 fl (tb 3 0 t)) := hD
        refine lv_aload_n hx hb dX10_clear_111 rfl (lv_at hl 1 rfl) ?_
        refine va_get (D := D) (C := RX10) (T := TX10) (N := 15) hx hb (uc_10 hk.1 _) (fun _ h9 => h9) hown hK hP 0 rfl rfl 8 (by decide) (fl_X10_28 hk.1 _) (fun _ h9 => h9) rfl dX10_clear_112 ?_
        refine lv_iload_n hx hb dX10_clear_115 rfl (lv_at hl 2 rfl) ?_
        refine lv_iload_n hx hb dX10_clear_116 rfl (lv_at hl 0 rfl) ?_
        refine lv_bipush (v := 7) hx hb dX10_clear_117 (by decide) ?_
        refine lv_icmp_ne (x := nI 3) (y := 7) (tgt := 126) hx hb dX10_clear_119 (by decide) (fun _ => ?_) (fun h9 => absurd h9 (by decide +kernel))
        refine lv_aload_n hx hb dX10_clear_126 rfl (lv_at hl 1 rfl) ?_
        refine va_get (D := D) (C := RX10) (T := TX10) (N := 15) hx hb (uc_10 hk.1 _) (fun _ h9 => h9) hown hK hP 0 rfl rfl 8 (by decide) (fl_X10_28 hk.1 _) (fun _ h9 => h9) rfl dX10_clear_127 ?_
        refine lv_iload_n hx hb dX10_clear_130 rfl (lv_at hl 2 rfl) ?_
        refine ld_i (x := dr) C hP 7 rfl hi (congrArg (fun q : Pd => q.2.2.2.2.2.2.1) (va_up_self F i _)) dX10_clear_131 ?_
        refine st_6 (x9 := dr) C hP hD hS hi dX10_clear_132 (fun H locs hP hD hS => ?_)
        have hP : va_P D cls (wm ca ya (va_up F i (3, zn, lm, (ch + 0), 0, 0, dr, false)) Q.length 0 fl (tb 3 0 t)) H := hP
        have hD : va_D A (wm ca ya (va_up F i (3, zn, lm, (ch + 0), 0, 0, dr, false)) Q.length 0 fl (tb 3 0 t)) := hD
        refine lv_iconst (v := 1) hx hb dX10_clear_133 (by decide) ?_
        have hr9 : r = (1, Q.set i (3, zn, lm, (ch + 0), 0, 0, dr, false), (tb 3 0 t)) := by rw [hr9, epcl_3, Int32.add_zero]; rfl
        subst hr9
        exact rf_ C hrt hlocks rfl (hF.set _) (by rw [List.length_set]; exact hP) hS dX10_clear_134
      · have hla : la = true := bi_ne0 c_5
        subst hla
        refine lv_iload_n hx hb dX10_clear_99 rfl (lv_at hl 0 rfl) ?_
        refine lv_bipush (v := 6) hx hb dX10_clear_100 (by decide) ?_
        refine lv_icmp_eq (x := nI 3) (y := 6) (tgt := 109) hx hb dX10_clear_102 (by decide) (fun h9 => absurd h9 (by decide +kernel)) (fun _ => ?_)
        refine lv_iconst (v := 1) hx hb dX10_clear_105 (by decide) ?_
        refine lv_goto (tgt := 110) hx hb dX10_clear_106 (by decide) ?_
        refine st_7 (b9 := true) C hP hD hS hi dX10_clear_110 (fun H locs hP hD hS => ?_)
        have hP : va_P D cls (wm ca ya (va_up F i (3, zn, lm, (ch + 0), 0, 0, dr, true)) Q.length 0 fl (tb 3 0 t)) H := hP
        have hD : va_D A (wm ca ya (va_up F i (3, zn, lm, (ch + 0), 0, 0, dr, true)) Q.length 0 fl (tb 3 0 t)) := hD
        refine lv_aload_n hx hb dX10_clear_111 rfl (lv_at hl 1 rfl) ?_
        refine va_get (D := D) (C := RX10) (T := TX10) (N := 15) hx hb (uc_10 hk.1 _) (fun _ h9 => h9) hown hK hP 0 rfl rfl 8 (by decide) (fl_X10_28 hk.1 _) (fun _ h9 => h9) rfl dX10_clear_112 ?_
        refine lv_iload_n hx hb dX10_clear_115 rfl (lv_at hl 2 rfl) ?_
        refine lv_iload_n hx hb dX10_clear_116 rfl (lv_at hl 0 rfl) ?_
        refine lv_bipush (v := 7) hx hb dX10_clear_117 (by decide) ?_
        refine lv_icmp_ne (x := nI 3) (y := 7) (tgt := 126) hx hb dX10_clear_119 (by decide) (fun _ => ?_) (fun h9 => absurd h9 (by decide +kernel))
        refine lv_aload_n hx hb dX10_clear_126 rfl (lv_at hl 1 rfl) ?_
        refine va_get (D := D) (C := RX10) (T := TX10) (N := 15) hx hb (uc_10 hk.1 _) (fun _ h9 => h9) hown hK hP 0 rfl rfl 8 (by decide) (fl_X10_28 hk.1 _) (fun _ h9 => h9) rfl dX10_clear_127 ?_
        refine lv_iload_n hx hb dX10_clear_130 rfl (lv_at hl 2 rfl) ?_
        refine ld_i (x := dr) C hP 7 rfl hi (congrArg (fun q : Pd => q.2.2.2.2.2.2.1) (va_up_self F i _)) dX10_clear_131 ?_
        refine st_6 (x9 := dr) C hP hD hS hi dX10_clear_132 (fun H locs hP hD hS => ?_)
        have hP : va_P D cls (wm ca ya (va_up F i (3, zn, lm, (ch + 0), 0, 0, dr, true)) Q.length 0 fl (tb 3 0 t)) H := hP
        have hD : va_D A (wm ca ya (va_up F i (3, zn, lm, (ch + 0), 0, 0, dr, true)) Q.length 0 fl (tb 3 0 t)) := hD
        refine lv_iconst (v := 1) hx hb dX10_clear_133 (by decide) ?_
        have hr9 : r = (1, Q.set i (3, zn, lm, (ch + 0), 0, 0, dr, true), (tb 3 0 t)) := by rw [hr9, epcl_3, Int32.add_zero]; rfl
        subst hr9
        exact rf_ C hrt hlocks rfl (hF.set _) (by rw [List.length_set]; exact hP) hS dX10_clear_134
    · refine lv_aload_n hx hb dX10_clear_16 rfl (lv_at hl 0 rfl) ?_
      refine va_get (D := D) (C := RX10) (T := TX10) (N := 15) hx hb (uc_10 hk.1 _) (fun _ h9 => h9) hown hK hP 0 rfl rfl 2 (by decide) (fl_X10_7 hk.1 _) (fun _ h9 => h9) rfl dX10_clear_17 ?_
      refine lv_iload_n hx hb dX10_clear_20 rfl (lv_at hl 1 rfl) ?_
      refine ld_i (x := nI 4) C hP 1 rfl hi (congrArg (fun q : Pd => nI q.1) (va_up_self F i _)) dX10_clear_21 ?_
      refine lv_istore_n (lv' := [(2, .int (nI 4)), (0, .ref (ya 0)), (1, .int (nI i))]) hx hb dX10_clear_22 rfl hl (by decide) rfl (fun ls hl => ?_)
      refine lv_iload_n hx hb dX10_clear_23 rfl (lv_at hl 0 rfl) ?_
      refine lv_iconst (v := 5) hx hb dX10_clear_24 (by decide) ?_
      refine lv_icmp_eq (x := nI 4) (y := 5) (tgt := 40) hx hb dX10_clear_25 (by decide) (fun h9 => absurd h9 (by decide +kernel)) (fun _ => ?_)
      refine lv_iload_n hx hb dX10_clear_28 rfl (lv_at hl 0 rfl) ?_
      refine lv_bipush (v := 6) hx hb dX10_clear_29 (by decide) ?_
      refine lv_icmp_eq (x := nI 4) (y := 6) (tgt := 40) hx hb dX10_clear_31 (by decide) (fun h9 => absurd h9 (by decide +kernel)) (fun _ => ?_)
      refine lv_iload_n hx hb dX10_clear_34 rfl (lv_at hl 0 rfl) ?_
      refine lv_bipush (v := 7) hx hb dX10_clear_35 (by decide) ?_
      refine lv_icmp_ne (x := nI 4) (y := 7) (tgt := 46) hx hb dX10_clear_37 (by decide) (fun _ => ?_) (fun h9 => absurd h9 (by decide +kernel))
      refine lv_aload_n hx hb dX10_clear_46 rfl (lv_at hl 1 rfl) ?_
      refine lv_iconst (v := 3) hx hb dX10_clear_47 (by decide) ?_
      refine lv_iconst (v := 0) hx hb dX10_clear_48 (by decide) ?_
      refine k_mv (n9 := 2) (As := [.int 3, .int 0]) C (n_rule l D ca sa lo ya (va_up F i (4, zn, lm, ch, lv, cn, dr, la)) Q.length 0 fl t (by first | omega | (simp only [tb_n]; omega)) 3 0 _) (fun U A9 h => co_X10_rule h A9) (in_X10 hk.1 _) (ml_X10_58 hk.1 _) (im_X10_rule hk.1 _) (se_X10_X10_rule hk.1 _) (by decide +kernel) ⟨⟨rfl, rfl⟩, by decide, by decide⟩ hP hD hS rfl rfl rfl hl.1 rfl (Nat.le_of_ble_eq_true rfl) dX10_clear_49 ⟨by decide, by decide⟩ (fun H locs hP hD hS => ?_)
      refine lv_aload_n hx hb dX10_clear_52 rfl (lv_at hl 1 rfl) ?_
      refine va_get (D := D) (C := RX10) (T := TX10) (N := 15) hx hb (uc_10 hk.1 _) (fun _ h9 => h9) hown hK hP 0 rfl rfl 6 (by decide) (fl_X10_22 hk.1 _) (fun _ h9 => h9) rfl dX10_clear_53 ?_
      refine lv_iload_n hx hb dX10_clear_56 rfl (lv_at hl 2 rfl) ?_
      refine lv_iconst (v := 0) hx hb dX10_clear_57 (by decide) ?_
      refine st_4 (x9 := 0) C hP hD hS hi dX10_clear_58 (fun H locs hP hD hS => ?_)
      have hP : va_P D cls (wm ca ya (va_up F i (4, zn, lm, ch, 0, cn, dr, la)) Q.length 0 fl (tb 3 0 t)) H := hP
      have hD : va_D A (wm ca ya (va_up F i (4, zn, lm, ch, 0, cn, dr, la)) Q.length 0 fl (tb 3 0 t)) := hD
      refine lv_aload_n hx hb dX10_clear_59 rfl (lv_at hl 1 rfl) ?_
      refine va_get (D := D) (C := RX10) (T := TX10) (N := 15) hx hb (uc_10 hk.1 _) (fun _ h9 => h9) hown hK hP 0 rfl rfl 7 (by decide) (fl_X10_25 hk.1 _) (fun _ h9 => h9) rfl dX10_clear_60 ?_
      refine lv_iload_n hx hb dX10_clear_63 rfl (lv_at hl 2 rfl) ?_
      refine lv_iconst (v := 0) hx hb dX10_clear_64 (by decide) ?_
      refine st_5 (x9 := 0) C hP hD hS hi dX10_clear_65 (fun H locs hP hD hS => ?_)
      have hP : va_P D cls (wm ca ya (va_up F i (4, zn, lm, ch, 0, 0, dr, la)) Q.length 0 fl (tb 3 0 t)) H := hP
      have hD : va_D A (wm ca ya (va_up F i (4, zn, lm, ch, 0, 0, dr, la)) Q.length 0 fl (tb 3 0 t)) := hD
      refine lv_aload_n hx hb dX10_clear_66 rfl (lv_at hl 1 rfl) ?_
      refine va_get (D := D) (C := RX10) (T := TX10) (N := 15) hx hb (uc_10 hk.1 _) (fun _ h9 => h9) hown hK hP 0 rfl rfl 5 (by decide) (fl_X10_19 hk.1 _) (fun _ h9 => h9) rfl dX10_clear_67 ?_
      refine lv_iload_n hx hb dX10_clear_70 rfl (lv_at hl 2 rfl) ?_
      refine lv_dup2_11 hx hb dX10_clear_71 rfl rfl ?_
      refine ld_i (x := ch) C hP 4 rfl hi (congrArg (fun q : Pd => q.2.2.2.1) (va_up_self F i _)) dX10_clear_72 ?_
      refine lv_iload_n hx hb dX10_clear_73 rfl (lv_at hl 0 rfl) ?_
      refine lv_iconst (v := 5) hx hb dX10_clear_74 (by decide) ?_
      refine lv_icmp_ne (x := nI 4) (y := 5) (tgt := 82) hx hb dX10_clear_75 (by decide) (fun _ => ?_) (fun h9 => absurd h9 (by decide +kernel))
      refine lv_iconst (v := 0) hx hb dX10_clear_82 (by decide) ?_
      refine lv_iadd hx hb dX10_clear_83 ?_
      refine st_3 (x9 := ch + 0) C hP hD hS hi dX10_clear_84 (fun H locs hP hD hS => ?_)
      have hP : va_P D cls (wm ca ya (va_up F i (4, zn, lm, (ch + 0), 0, 0, dr, la)) Q.length 0 fl (tb 3 0 t)) H := hP
      have hD : va_D A (wm ca ya (va_up F i (4, zn, lm, (ch + 0), 0, 0, dr, la)) Q.length 0 fl (tb 3 0 t)) := hD
      refine lv_aload_n hx hb dX10_clear_85 rfl (lv_at hl 1 rfl) ?_
      refine va_get (D := D) (C := RX10) (T := TX10) (N := 15) hx hb (uc_10 hk.1 _) (fun _ h9 => h9) hown hK hP 0 rfl rfl 9 (by decide) (fl_X10_31 hk.1 _) (fun _ h9 => h9) rfl dX10_clear_86 ?_
      refine lv_iload_n hx hb dX10_clear_89 rfl (lv_at hl 2 rfl) ?_
      refine lv_aload_n hx hb dX10_clear_90 rfl (lv_at hl 1 rfl) ?_
      refine va_get (D := D) (C := RX10) (T := TX10) (N := 15) hx hb (uc_10 hk.1 _) (fun _ h9 => h9) hown hK hP 0 rfl rfl 9 (by decide) (fl_X10_31 hk.1 _) (fun _ h9 => h9) rfl dX10_clear_91 ?_
      refine lv_iload_n hx hb dX10_clear_94 rfl (lv_at hl 2 rfl) ?_
      refine ld_z (x := bi la) C hP 8 rfl hi (congrArg (fun q : Pd => bi q.2.2.2.2.2.2.2) (va_up_self F i _)) dX10_clear_95 ?_
      refine lv_if_eq (tgt := 109) hx hb dX10_clear_96 (by decide) (fun c_6 => ?_) (fun c_6 => ?_)
      · have hla : la = false := bi_eq0 c_6
        subst hla
        refine lv_iconst (v := 0) hx hb dX10_clear_109 (by decide) ?_
        refine st_7 (b9 := false) C hP hD hS hi dX10_clear_110 (fun H locs hP hD hS => ?_)
        have hP : va_P D cls (wm ca ya (va_up F i (4, zn, lm, (ch + 0), 0, 0, dr, false)) Q.length 0 fl (tb 3 0 t)) H := hP
        have hD : va_D A (wm ca ya (va_up F i (4, zn, lm, (ch + 0), 0, 0, dr, false)) Q.length 0 fl (tb 3 0 t)) := hD
        refine lv_aload_n hx hb dX10_clear_111 rfl (lv_at hl 1 rfl) ?_
        refine va_get (D := D) (C := RX10) (T := TX10) (N := 15) hx hb (uc_10 hk.1 _) (fun _ h9 => h9) hown hK hP 0 rfl rfl 8 (by decide) (fl_X10_28 hk.1 _) (fun _ h9 => h9) rfl dX10_clear_112 ?_
        refine lv_iload_n hx hb dX10_clear_115 rfl (lv_at hl 2 rfl) ?_
        refine lv_iload_n hx hb dX10_clear_116 rfl (lv_at hl 0 rfl) ?_
        refine lv_bipush (v := 7) hx hb dX10_clear_117 (by decide) ?_
        refine lv_icmp_ne (x := nI 4) (y := 7) (tgt := 126) hx hb dX10_clear_119 (by decide) (fun _ => ?_) (fun h9 => absurd h9 (by decide +kernel))
        refine lv_aload_n hx hb dX10_clear_126 rfl (lv_at hl 1 rfl) ?_
        refine va_get (D := D) (C := RX10) (T := TX10) (N := 15) hx hb (uc_10 hk.1 _) (fun _ h9 => h9) hown hK hP 0 rfl rfl 8 (by decide) (fl_X10_28 hk.1 _) (fun _ h9 => h9) rfl dX10_clear_127 ?_
        refine lv_iload_n hx hb dX10_clear_130 rfl (lv_at hl 2 rfl) ?_
        refine ld_i (x := dr) C hP 7 rfl hi (congrArg (fun q : Pd => q.2.2.2.2.2.2.1) (va_up_self F i _)) dX10_clear_131 ?_
        refine st_6 (x9 := dr) C hP hD hS hi dX10_clear_132 (fun H locs hP hD hS => ?_)
        have hP : va_P D cls (wm ca ya (va_up F i (4, zn, lm, (ch + 0), 0, 0, dr, false)) Q.length 0 fl (tb 3 0 t)) H := hP
        have hD : va_D A (wm ca ya (va_up F i (4, zn, lm, (ch + 0), 0, 0, dr, false)) Q.length 0 fl (tb 3 0 t)) := hD
        refine lv_iconst (v := 1) hx hb dX10_clear_133 (by decide) ?_
        have hr9 : r = (1, Q.set i (4, zn, lm, (ch + 0), 0, 0, dr, false), (tb 3 0 t)) := by rw [hr9, epcl_4, Int32.add_zero]; rfl
        subst hr9
        exact rf_ C hrt hlocks rfl (hF.set _) (by rw [List.length_set]; exact hP) hS dX10_clear_134
      · have hla : la = true := bi_ne0 c_6
        subst hla
        refine lv_iload_n hx hb dX10_clear_99 rfl (lv_at hl 0 rfl) ?_
        refine lv_bipush (v := 6) hx hb dX10_clear_100 (by decide) ?_
        refine lv_icmp_eq (x := nI 4) (y := 6) (tgt := 109) hx hb dX10_clear_102 (by decide) (fun h9 => absurd h9 (by decide +kernel)) (fun _ => ?_)
        refine lv_iconst (v := 1) hx hb dX10_clear_105 (by decide) ?_
        refine lv_goto (tgt := 110) hx hb dX10_clear_106 (by decide) ?_
        refine st_7 (b9 := true) C hP hD hS hi dX10_clear_110 (fun H locs hP hD hS => ?_)
        have hP : va_P D cls (wm ca ya (va_up F i (4, zn, lm, (ch + 0), 0, 0, dr, true)) Q.length 0 fl (tb 3 0 t)) H := hP
        have hD : va_D A (wm ca ya (va_up F i (4, zn, lm, (ch + 0), 0, 0, dr, true)) Q.length 0 fl (tb 3 0 t)) := hD
        refine lv_aload_n hx hb dX10_clear_111 rfl (lv_at hl 1 rfl) ?_
        refine va_get (D := D) (C := RX10) (T := TX10) (N := 15) hx hb (uc_10 hk.1 _) (fun _ h9 => h9) hown hK hP 0 rfl rfl 8 (by decide) (fl_X10_28 hk.1 _) (fun _ h9 => h9) rfl dX10_clear_112 ?_
        refine lv_iload_n hx hb dX10_clear_115 rfl (lv_at hl 2 rfl) ?_
        refine lv_iload_n hx hb dX10_clear_116 rfl (lv_at hl 0 rfl) ?_
        refine lv_bipush (v := 7) hx hb dX10_clear_117 (by decide) ?_
        refine lv_icmp_ne (x := nI 4) (y := 7) (tgt := 126) hx hb dX10_clear_119 (by decide) (fun _ => ?_) (fun h9 => absurd h9 (by decide +kernel))
        refine lv_aload_n hx hb dX10_clear_126 rfl (lv_at hl 1 rfl) ?_
        refine va_get (D := D) (C := RX10) (T := TX10) (N := 15) hx hb (uc_10 hk.1 _) (fun _ h9 => h9) hown hK hP 0 rfl rfl 8 (by decide) (fl_X10_28 hk.1 _) (fun _ h9 => h9) rfl dX10_clear_127 ?_
        refine lv_iload_n hx hb dX10_clear_130 rfl (lv_at hl 2 rfl) ?_
        refine ld_i (x := dr) C hP 7 rfl hi (congrArg (fun q : Pd => q.2.2.2.2.2.2.1) (va_up_self F i _)) dX10_clear_131 ?_
        refine st_6 (x9 := dr) C hP hD hS hi dX10_clear_132 (fun H locs hP hD hS => ?_)
        have hP : va_P D cls (wm ca ya (va_up F i (4, zn, lm, (ch + 0), 0, 0, dr, true)) Q.length 0 fl (tb 3 0 t)) H := hP
        have hD : va_D A (wm ca ya (va_up F i (4, zn, lm, (ch + 0), 0, 0, dr, true)) Q.length 0 fl (tb 3 0 t)) := hD
        refine lv_iconst (v := 1) hx hb dX10_clear_133 (by decide) ?_
        have hr9 : r = (1, Q.set i (4, zn, lm, (ch + 0), 0, 0, dr, true), (tb 3 0 t)) := by rw [hr9, epcl_4, Int32.add_zero]; rfl
        subst hr9
        exact rf_ C hrt hlocks rfl (hF.set _) (by rw [List.length_set]; exact hP) hS dX10_clear_134
    · refine lv_aload_n hx hb dX10_clear_16 rfl (lv_at hl 0 rfl) ?_
      refine va_get (D := D) (C := RX10) (T := TX10) (N := 15) hx hb (uc_10 hk.1 _) (fun _ h9 => h9) hown hK hP 0 rfl rfl 2 (by decide) (fl_X10_7 hk.1 _) (fun _ h9 => h9) rfl dX10_clear_17 ?_
      refine lv_iload_n hx hb dX10_clear_20 rfl (lv_at hl 1 rfl) ?_
      refine ld_i (x := nI 5) C hP 1 rfl hi (congrArg (fun q : Pd => nI q.1) (va_up_self F i _)) dX10_clear_21 ?_
      refine lv_istore_n (lv' := [(2, .int (nI 5)), (0, .ref (ya 0)), (1, .int (nI i))]) hx hb dX10_clear_22 rfl hl (by decide) rfl (fun ls hl => ?_)
      refine lv_iload_n hx hb dX10_clear_23 rfl (lv_at hl 0 rfl) ?_
      refine lv_iconst (v := 5) hx hb dX10_clear_24 (by decide) ?_
      refine lv_icmp_eq (x := nI 5) (y := 5) (tgt := 40) hx hb dX10_clear_25 (by decide) (fun _ => ?_) (fun h9 => absurd h9 (by decide +kernel))
      refine lv_aload_n hx hb dX10_clear_40 rfl (lv_at hl 1 rfl) ?_
      refine lv_iconst (v := 3) hx hb dX10_clear_41 (by decide) ?_
      refine lv_iload_n hx hb dX10_clear_42 rfl (lv_at hl 0 rfl) ?_
      refine k_mv (n9 := 2) (As := [.int 3, .int (nI 5)]) C (n_rule l D ca sa lo ya (va_up F i (5, zn, lm, ch, lv, cn, dr, la)) Q.length 0 fl t (by first | omega | (simp only [tb_n]; omega)) 3 (nI 5) _) (fun U A9 h => co_X10_rule h A9) (in_X10 hk.1 _) (ml_X10_58 hk.1 _) (im_X10_rule hk.1 _) (se_X10_X10_rule hk.1 _) (by decide +kernel) ⟨⟨rfl, rfl⟩, by decide, by decide⟩ hP hD hS rfl rfl rfl hl.1 rfl (Nat.le_of_ble_eq_true rfl) dX10_clear_43 ⟨by decide, by decide⟩ (fun H locs hP hD hS => ?_)
      refine lv_aload_n hx hb dX10_clear_46 rfl (lv_at hl 1 rfl) ?_
      refine lv_iconst (v := 3) hx hb dX10_clear_47 (by decide) ?_
      refine lv_iconst (v := 0) hx hb dX10_clear_48 (by decide) ?_
      refine k_mv (n9 := 2) (As := [.int 3, .int 0]) C (n_rule l D ca sa lo ya (va_up F i (5, zn, lm, ch, lv, cn, dr, la)) Q.length 0 fl (tb 3 (nI 5) t) (by first | omega | (simp only [tb_n]; omega)) 3 0 _) (fun U A9 h => co_X10_rule h A9) (in_X10 hk.1 _) (ml_X10_58 hk.1 _) (im_X10_rule hk.1 _) (se_X10_X10_rule hk.1 _) (by decide +kernel) ⟨⟨rfl, rfl⟩, by decide, by decide⟩ hP hD hS rfl rfl rfl hl.1 rfl (Nat.le_of_ble_eq_true rfl) dX10_clear_49 ⟨by decide, by decide⟩ (fun H locs hP hD hS => ?_)
      refine lv_aload_n hx hb dX10_clear_52 rfl (lv_at hl 1 rfl) ?_
      refine va_get (D := D) (C := RX10) (T := TX10) (N := 15) hx hb (uc_10 hk.1 _) (fun _ h9 => h9) hown hK hP 0 rfl rfl 6 (by decide) (fl_X10_22 hk.1 _) (fun _ h9 => h9) rfl dX10_clear_53 ?_
      refine lv_iload_n hx hb dX10_clear_56 rfl (lv_at hl 2 rfl) ?_
      refine lv_iconst (v := 0) hx hb dX10_clear_57 (by decide) ?_
      refine st_4 (x9 := 0) C hP hD hS hi dX10_clear_58 (fun H locs hP hD hS => ?_)
      have hP : va_P D cls (wm ca ya (va_up F i (5, zn, lm, ch, 0, cn, dr, la)) Q.length 0 fl (tb 3 0 (tb 3 (nI 5) t))) H := hP
      have hD : va_D A (wm ca ya (va_up F i (5, zn, lm, ch, 0, cn, dr, la)) Q.length 0 fl (tb 3 0 (tb 3 (nI 5) t))) := hD
      refine lv_aload_n hx hb dX10_clear_59 rfl (lv_at hl 1 rfl) ?_
      refine va_get (D := D) (C := RX10) (T := TX10) (N := 15) hx hb (uc_10 hk.1 _) (fun _ h9 => h9) hown hK hP 0 rfl rfl 7 (by decide) (fl_X10_25 hk.1 _) (fun _ h9 => h9) rfl dX10_clear_60 ?_
      refine lv_iload_n hx hb dX10_clear_63 rfl (lv_at hl 2 rfl) ?_
      refine lv_iconst (v := 0) hx hb dX10_clear_64 (by decide) ?_
      refine st_5 (x9 := 0) C hP hD hS hi dX10_clear_65 (fun H locs hP hD hS => ?_)
      have hP : va_P D cls (wm ca ya (va_up F i (5, zn, lm, ch, 0, 0, dr, la)) Q.length 0 fl (tb 3 0 (tb 3 (nI 5) t))) H := hP
      have hD : va_D A (wm ca ya (va_up F i (5, zn, lm, ch, 0, 0, dr, la)) Q.length 0 fl (tb 3 0 (tb 3 (nI 5) t))) := hD
      refine lv_aload_n hx hb dX10_clear_66 rfl (lv_at hl 1 rfl) ?_
      refine va_get (D := D) (C := RX10) (T := TX10) (N := 15) hx hb (uc_10 hk.1 _) (fun _ h9 => h9) hown hK hP 0 rfl rfl 5 (by decide) (fl_X10_19 hk.1 _) (fun _ h9 => h9) rfl dX10_clear_67 ?_
      refine lv_iload_n hx hb dX10_clear_70 rfl (lv_at hl 2 rfl) ?_
      refine lv_dup2_11 hx hb dX10_clear_71 rfl rfl ?_
      refine ld_i (x := ch) C hP 4 rfl hi (congrArg (fun q : Pd => q.2.2.2.1) (va_up_self F i _)) dX10_clear_72 ?_
      refine lv_iload_n hx hb dX10_clear_73 rfl (lv_at hl 0 rfl) ?_
      refine lv_iconst (v := 5) hx hb dX10_clear_74 (by decide) ?_
      refine lv_icmp_ne (x := nI 5) (y := 5) (tgt := 82) hx hb dX10_clear_75 (by decide) (fun h9 => absurd h9 (by decide +kernel)) (fun _ => ?_)
      refine lv_iconst (v := 1) hx hb dX10_clear_78 (by decide) ?_
      refine lv_goto (tgt := 83) hx hb dX10_clear_79 (by decide) ?_
      refine lv_iadd hx hb dX10_clear_83 ?_
      refine st_3 (x9 := ch + 1) C hP hD hS hi dX10_clear_84 (fun H locs hP hD hS => ?_)
      have hP : va_P D cls (wm ca ya (va_up F i (5, zn, lm, (ch + 1), 0, 0, dr, la)) Q.length 0 fl (tb 3 0 (tb 3 (nI 5) t))) H := hP
      have hD : va_D A (wm ca ya (va_up F i (5, zn, lm, (ch + 1), 0, 0, dr, la)) Q.length 0 fl (tb 3 0 (tb 3 (nI 5) t))) := hD
      refine lv_aload_n hx hb dX10_clear_85 rfl (lv_at hl 1 rfl) ?_
      refine va_get (D := D) (C := RX10) (T := TX10) (N := 15) hx hb (uc_10 hk.1 _) (fun _ h9 => h9) hown hK hP 0 rfl rfl 9 (by decide) (fl_X10_31 hk.1 _) (fun _ h9 => h9) rfl dX10_clear_86 ?_
      refine lv_iload_n hx hb dX10_clear_89 rfl (lv_at hl 2 rfl) ?_
      refine lv_aload_n hx hb dX10_clear_90 rfl (lv_at hl 1 rfl) ?_
      refine va_get (D := D) (C := RX10) (T := TX10) (N := 15) hx hb (uc_10 hk.1 _) (fun _ h9 => h9) hown hK hP 0 rfl rfl 9 (by decide) (fl_X10_31 hk.1 _) (fun _ h9 => h9) rfl dX10_clear_91 ?_
      refine lv_iload_n hx hb dX10_clear_94 rfl (lv_at hl 2 rfl) ?_
      refine ld_z (x := bi la) C hP 8 rfl hi (congrArg (fun q : Pd => bi q.2.2.2.2.2.2.2) (va_up_self F i _)) dX10_clear_95 ?_
      refine lv_if_eq (tgt := 109) hx hb dX10_clear_96 (by decide) (fun c_7 => ?_) (fun c_7 => ?_)
      · have hla : la = false := bi_eq0 c_7
        subst hla
        refine lv_iconst (v := 0) hx hb dX10_clear_109 (by decide) ?_
        refine st_7 (b9 := false) C hP hD hS hi dX10_clear_110 (fun H locs hP hD hS => ?_)
        have hP : va_P D cls (wm ca ya (va_up F i (5, zn, lm, (ch + 1), 0, 0, dr, false)) Q.length 0 fl (tb 3 0 (tb 3 (nI 5) t))) H := hP
        have hD : va_D A (wm ca ya (va_up F i (5, zn, lm, (ch + 1), 0, 0, dr, false)) Q.length 0 fl (tb 3 0 (tb 3 (nI 5) t))) := hD
        refine lv_aload_n hx hb dX10_clear_111 rfl (lv_at hl 1 rfl) ?_
        refine va_get (D := D) (C := RX10) (T := TX10) (N := 15) hx hb (uc_10 hk.1 _) (fun _ h9 => h9) hown hK hP 0 rfl rfl 8 (by decide) (fl_X10_28 hk.1 _) (fun _ h9 => h9) rfl dX10_clear_112 ?_
        refine lv_iload_n hx hb dX10_clear_115 rfl (lv_at hl 2 rfl) ?_
        refine lv_iload_n hx hb dX10_clear_116 rfl (lv_at hl 0 rfl) ?_
        refine lv_bipush (v := 7) hx hb dX10_clear_117 (by decide) ?_
        refine lv_icmp_ne (x := nI 5) (y := 7) (tgt := 126) hx hb dX10_clear_119 (by decide) (fun _ => ?_) (fun h9 => absurd h9 (by decide +kernel))
        refine lv_aload_n hx hb dX10_clear_126 rfl (lv_at hl 1 rfl) ?_
        refine va_get (D := D) (C := RX10) (T := TX10) (N := 15) hx hb (uc_10 hk.1 _) (fun _ h9 => h9) hown hK hP 0 rfl rfl 8 (by decide) (fl_X10_28 hk.1 _) (fun _ h9 => h9) rfl dX10_clear_127 ?_
        refine lv_iload_n hx hb dX10_clear_130 rfl (lv_at hl 2 rfl) ?_
        refine ld_i (x := dr) C hP 7 rfl hi (congrArg (fun q : Pd => q.2.2.2.2.2.2.1) (va_up_self F i _)) dX10_clear_131 ?_
        refine st_6 (x9 := dr) C hP hD hS hi dX10_clear_132 (fun H locs hP hD hS => ?_)
        have hP : va_P D cls (wm ca ya (va_up F i (5, zn, lm, (ch + 1), 0, 0, dr, false)) Q.length 0 fl (tb 3 0 (tb 3 (nI 5) t))) H := hP
        have hD : va_D A (wm ca ya (va_up F i (5, zn, lm, (ch + 1), 0, 0, dr, false)) Q.length 0 fl (tb 3 0 (tb 3 (nI 5) t))) := hD
        refine lv_iconst (v := 1) hx hb dX10_clear_133 (by decide) ?_
        have hr9 : r = (1, Q.set i (5, zn, lm, (ch + 1), 0, 0, dr, false), (tb 3 0 (tb 3 (nI 5) t))) := by rw [hr9, epcl_5]; rfl
        subst hr9
        exact rf_ C hrt hlocks rfl (hF.set _) (by rw [List.length_set]; exact hP) hS dX10_clear_134
      · have hla : la = true := bi_ne0 c_7
        subst hla
        refine lv_iload_n hx hb dX10_clear_99 rfl (lv_at hl 0 rfl) ?_
        refine lv_bipush (v := 6) hx hb dX10_clear_100 (by decide) ?_
        refine lv_icmp_eq (x := nI 5) (y := 6) (tgt := 109) hx hb dX10_clear_102 (by decide) (fun h9 => absurd h9 (by decide +kernel)) (fun _ => ?_)
        refine lv_iconst (v := 1) hx hb dX10_clear_105 (by decide) ?_
        refine lv_goto (tgt := 110) hx hb dX10_clear_106 (by decide) ?_
        refine st_7 (b9 := true) C hP hD hS hi dX10_clear_110 (fun H locs hP hD hS => ?_)
        have hP : va_P D cls (wm ca ya (va_up F i (5, zn, lm, (ch + 1), 0, 0, dr, true)) Q.length 0 fl (tb 3 0 (tb 3 (nI 5) t))) H := hP
        have hD : va_D A (wm ca ya (va_up F i (5, zn, lm, (ch + 1), 0, 0, dr, true)) Q.length 0 fl (tb 3 0 (tb 3 (nI 5) t))) := hD
        refine lv_aload_n hx hb dX10_clear_111 rfl (lv_at hl 1 rfl) ?_
        refine va_get (D := D) (C := RX10) (T := TX10) (N := 15) hx hb (uc_10 hk.1 _) (fun _ h9 => h9) hown hK hP 0 rfl rfl 8 (by decide) (fl_X10_28 hk.1 _) (fun _ h9 => h9) rfl dX10_clear_112 ?_
        refine lv_iload_n hx hb dX10_clear_115 rfl (lv_at hl 2 rfl) ?_
        refine lv_iload_n hx hb dX10_clear_116 rfl (lv_at hl 0 rfl) ?_
        refine lv_bipush (v := 7) hx hb dX10_clear_117 (by decide) ?_
        refine lv_icmp_ne (x := nI 5) (y := 7) (tgt := 126) hx hb dX10_clear_119 (by decide) (fun _ => ?_) (fun h9 => absurd h9 (by decide +kernel))
        refine lv_aload_n hx hb dX10_clear_126 rfl (lv_at hl 1 rfl) ?_
        refine va_get (D := D) (C := RX10) (T := TX10) (N := 15) hx hb (uc_10 hk.1 _) (fun _ h9 => h9) hown hK hP 0 rfl rfl 8 (by decide) (fl_X10_28 hk.1 _) (fun _ h9 => h9) rfl dX10_clear_127 ?_
        refine lv_iload_n hx hb dX10_clear_130 rfl (lv_at hl 2 rfl) ?_
        refine ld_i (x := dr) C hP 7 rfl hi (congrArg (fun q : Pd => q.2.2.2.2.2.2.1) (va_up_self F i _)) dX10_clear_131 ?_
        refine st_6 (x9 := dr) C hP hD hS hi dX10_clear_132 (fun H locs hP hD hS => ?_)
        have hP : va_P D cls (wm ca ya (va_up F i (5, zn, lm, (ch + 1), 0, 0, dr, true)) Q.length 0 fl (tb 3 0 (tb 3 (nI 5) t))) H := hP
        have hD : va_D A (wm ca ya (va_up F i (5, zn, lm, (ch + 1), 0, 0, dr, true)) Q.length 0 fl (tb 3 0 (tb 3 (nI 5) t))) := hD
        refine lv_iconst (v := 1) hx hb dX10_clear_133 (by decide) ?_
        have hr9 : r = (1, Q.set i (5, zn, lm, (ch + 1), 0, 0, dr, true), (tb 3 0 (tb 3 (nI 5) t))) := by rw [hr9, epcl_5]; rfl
        subst hr9
        exact rf_ C hrt hlocks rfl (hF.set _) (by rw [List.length_set]; exact hP) hS dX10_clear_134
    · refine lv_aload_n hx hb dX10_clear_16 rfl (lv_at hl 0 rfl) ?_
      refine va_get (D := D) (C := RX10) (T := TX10) (N := 15) hx hb (uc_10 hk.1 _) (fun _ h9 => h9) hown hK hP 0 rfl rfl 2 (by decide) (fl_X10_7 hk.1 _) (fun _ h9 => h9) rfl dX10_clear_17 ?_
      refine lv_iload_n hx hb dX10_clear_20 rfl (lv_at hl 1 rfl) ?_
      refine ld_i (x := nI 6) C hP 1 rfl hi (congrArg (fun q : Pd => nI q.1) (va_up_self F i _)) dX10_clear_21 ?_
      refine lv_istore_n (lv' := [(2, .int (nI 6)), (0, .ref (ya 0)), (1, .int (nI i))]) hx hb dX10_clear_22 rfl hl (by decide) rfl (fun ls hl => ?_)
      refine lv_iload_n hx hb dX10_clear_23 rfl (lv_at hl 0 rfl) ?_
      refine lv_iconst (v := 5) hx hb dX10_clear_24 (by decide) ?_
      refine lv_icmp_eq (x := nI 6) (y := 5) (tgt := 40) hx hb dX10_clear_25 (by decide) (fun h9 => absurd h9 (by decide +kernel)) (fun _ => ?_)
      refine lv_iload_n hx hb dX10_clear_28 rfl (lv_at hl 0 rfl) ?_
      refine lv_bipush (v := 6) hx hb dX10_clear_29 (by decide) ?_
      refine lv_icmp_eq (x := nI 6) (y := 6) (tgt := 40) hx hb dX10_clear_31 (by decide) (fun _ => ?_) (fun h9 => absurd h9 (by decide +kernel))
      refine lv_aload_n hx hb dX10_clear_40 rfl (lv_at hl 1 rfl) ?_
      refine lv_iconst (v := 3) hx hb dX10_clear_41 (by decide) ?_
      refine lv_iload_n hx hb dX10_clear_42 rfl (lv_at hl 0 rfl) ?_
      refine k_mv (n9 := 2) (As := [.int 3, .int (nI 6)]) C (n_rule l D ca sa lo ya (va_up F i (6, zn, lm, ch, lv, cn, dr, la)) Q.length 0 fl t (by first | omega | (simp only [tb_n]; omega)) 3 (nI 6) _) (fun U A9 h => co_X10_rule h A9) (in_X10 hk.1 _) (ml_X10_58 hk.1 _) (im_X10_rule hk.1 _) (se_X10_X10_rule hk.1 _) (by decide +kernel) ⟨⟨rfl, rfl⟩, by decide, by decide⟩ hP hD hS rfl rfl rfl hl.1 rfl (Nat.le_of_ble_eq_true rfl) dX10_clear_43 ⟨by decide, by decide⟩ (fun H locs hP hD hS => ?_)
      refine lv_aload_n hx hb dX10_clear_46 rfl (lv_at hl 1 rfl) ?_
      refine lv_iconst (v := 3) hx hb dX10_clear_47 (by decide) ?_
      refine lv_iconst (v := 0) hx hb dX10_clear_48 (by decide) ?_
      refine k_mv (n9 := 2) (As := [.int 3, .int 0]) C (n_rule l D ca sa lo ya (va_up F i (6, zn, lm, ch, lv, cn, dr, la)) Q.length 0 fl (tb 3 (nI 6) t) (by first | omega | (simp only [tb_n]; omega)) 3 0 _) (fun U A9 h => co_X10_rule h A9) (in_X10 hk.1 _) (ml_X10_58 hk.1 _) (im_X10_rule hk.1 _) (se_X10_X10_rule hk.1 _) (by decide +kernel) ⟨⟨rfl, rfl⟩, by decide, by decide⟩ hP hD hS rfl rfl rfl hl.1 rfl (Nat.le_of_ble_eq_true rfl) dX10_clear_49 ⟨by decide, by decide⟩ (fun H locs hP hD hS => ?_)
      refine lv_aload_n hx hb dX10_clear_52 rfl (lv_at hl 1 rfl) ?_
      refine va_get (D := D) (C := RX10) (T := TX10) (N := 15) hx hb (uc_10 hk.1 _) (fun _ h9 => h9) hown hK hP 0 rfl rfl 6 (by decide) (fl_X10_22 hk.1 _) (fun _ h9 => h9) rfl dX10_clear_53 ?_
      refine lv_iload_n hx hb dX10_clear_56 rfl (lv_at hl 2 rfl) ?_
      refine lv_iconst (v := 0) hx hb dX10_clear_57 (by decide) ?_
      refine st_4 (x9 := 0) C hP hD hS hi dX10_clear_58 (fun H locs hP hD hS => ?_)
      have hP : va_P D cls (wm ca ya (va_up F i (6, zn, lm, ch, 0, cn, dr, la)) Q.length 0 fl (tb 3 0 (tb 3 (nI 6) t))) H := hP
      have hD : va_D A (wm ca ya (va_up F i (6, zn, lm, ch, 0, cn, dr, la)) Q.length 0 fl (tb 3 0 (tb 3 (nI 6) t))) := hD
      refine lv_aload_n hx hb dX10_clear_59 rfl (lv_at hl 1 rfl) ?_
      refine va_get (D := D) (C := RX10) (T := TX10) (N := 15) hx hb (uc_10 hk.1 _) (fun _ h9 => h9) hown hK hP 0 rfl rfl 7 (by decide) (fl_X10_25 hk.1 _) (fun _ h9 => h9) rfl dX10_clear_60 ?_
      refine lv_iload_n hx hb dX10_clear_63 rfl (lv_at hl 2 rfl) ?_
      refine lv_iconst (v := 0) hx hb dX10_clear_64 (by decide) ?_
      refine st_5 (x9 := 0) C hP hD hS hi dX10_clear_65 (fun H locs hP hD hS => ?_)
      have hP : va_P D cls (wm ca ya (va_up F i (6, zn, lm, ch, 0, 0, dr, la)) Q.length 0 fl (tb 3 0 (tb 3 (nI 6) t))) H := hP
      have hD : va_D A (wm ca ya (va_up F i (6, zn, lm, ch, 0, 0, dr, la)) Q.length 0 fl (tb 3 0 (tb 3 (nI 6) t))) := hD
      refine lv_aload_n hx hb dX10_clear_66 rfl (lv_at hl 1 rfl) ?_
      refine va_get (D := D) (C := RX10) (T := TX10) (N := 15) hx hb (uc_10 hk.1 _) (fun _ h9 => h9) hown hK hP 0 rfl rfl 5 (by decide) (fl_X10_19 hk.1 _) (fun _ h9 => h9) rfl dX10_clear_67 ?_
      refine lv_iload_n hx hb dX10_clear_70 rfl (lv_at hl 2 rfl) ?_
      refine lv_dup2_11 hx hb dX10_clear_71 rfl rfl ?_
      refine ld_i (x := ch) C hP 4 rfl hi (congrArg (fun q : Pd => q.2.2.2.1) (va_up_self F i _)) dX10_clear_72 ?_
      refine lv_iload_n hx hb dX10_clear_73 rfl (lv_at hl 0 rfl) ?_
      refine lv_iconst (v := 5) hx hb dX10_clear_74 (by decide) ?_
      refine lv_icmp_ne (x := nI 6) (y := 5) (tgt := 82) hx hb dX10_clear_75 (by decide) (fun _ => ?_) (fun h9 => absurd h9 (by decide +kernel))
      refine lv_iconst (v := 0) hx hb dX10_clear_82 (by decide) ?_
      refine lv_iadd hx hb dX10_clear_83 ?_
      refine st_3 (x9 := ch + 0) C hP hD hS hi dX10_clear_84 (fun H locs hP hD hS => ?_)
      have hP : va_P D cls (wm ca ya (va_up F i (6, zn, lm, (ch + 0), 0, 0, dr, la)) Q.length 0 fl (tb 3 0 (tb 3 (nI 6) t))) H := hP
      have hD : va_D A (wm ca ya (va_up F i (6, zn, lm, (ch + 0), 0, 0, dr, la)) Q.length 0 fl (tb 3 0 (tb 3 (nI 6) t))) := hD
      refine lv_aload_n hx hb dX10_clear_85 rfl (lv_at hl 1 rfl) ?_
      refine va_get (D := D) (C := RX10) (T := TX10) (N := 15) hx hb (uc_10 hk.1 _) (fun _ h9 => h9) hown hK hP 0 rfl rfl 9 (by decide) (fl_X10_31 hk.1 _) (fun _ h9 => h9) rfl dX10_clear_86 ?_
      refine lv_iload_n hx hb dX10_clear_89 rfl (lv_at hl 2 rfl) ?_
      refine lv_aload_n hx hb dX10_clear_90 rfl (lv_at hl 1 rfl) ?_
      refine va_get (D := D) (C := RX10) (T := TX10) (N := 15) hx hb (uc_10 hk.1 _) (fun _ h9 => h9) hown hK hP 0 rfl rfl 9 (by decide) (fl_X10_31 hk.1 _) (fun _ h9 => h9) rfl dX10_clear_91 ?_
      refine lv_iload_n hx hb dX10_clear_94 rfl (lv_at hl 2 rfl) ?_
      refine ld_z (x := bi la) C hP 8 rfl hi (congrArg (fun q : Pd => bi q.2.2.2.2.2.2.2) (va_up_self F i _)) dX10_clear_95 ?_
      refine lv_if_eq (tgt := 109) hx hb dX10_clear_96 (by decide) (fun c_8 => ?_) (fun c_8 => ?_)
      · have hla : la = false := bi_eq0 c_8
        subst hla
        refine lv_iconst (v := 0) hx hb dX10_clear_109 (by decide) ?_
        refine st_7 (b9 := false) C hP hD hS hi dX10_clear_110 (fun H locs hP hD hS => ?_)
        have hP : va_P D cls (wm ca ya (va_up F i (6, zn, lm, (ch + 0), 0, 0, dr, false)) Q.length 0 fl (tb 3 0 (tb 3 (nI 6) t))) H := hP
        have hD : va_D A (wm ca ya (va_up F i (6, zn, lm, (ch + 0), 0, 0, dr, false)) Q.length 0 fl (tb 3 0 (tb 3 (nI 6) t))) := hD
        refine lv_aload_n hx hb dX10_clear_111 rfl (lv_at hl 1 rfl) ?_
        refine va_get (D := D) (C := RX10) (T := TX10) (N := 15) hx hb (uc_10 hk.1 _) (fun _ h9 => h9) hown hK hP 0 rfl rfl 8 (by decide) (fl_X10_28 hk.1 _) (fun _ h9 => h9) rfl dX10_clear_112 ?_
        refine lv_iload_n hx hb dX10_clear_115 rfl (lv_at hl 2 rfl) ?_
        refine lv_iload_n hx hb dX10_clear_116 rfl (lv_at hl 0 rfl) ?_
        refine lv_bipush (v := 7) hx hb dX10_clear_117 (by decide) ?_
        refine lv_icmp_ne (x := nI 6) (y := 7) (tgt := 126) hx hb dX10_clear_119 (by decide) (fun _ => ?_) (fun h9 => absurd h9 (by decide +kernel))
        refine lv_aload_n hx hb dX10_clear_126 rfl (lv_at hl 1 rfl) ?_
        refine va_get (D := D) (C := RX10) (T := TX10) (N := 15) hx hb (uc_10 hk.1 _) (fun _ h9 => h9) hown hK hP 0 rfl rfl 8 (by decide) (fl_X10_28 hk.1 _) (fun _ h9 => h9) rfl dX10_clear_127 ?_
        refine lv_iload_n hx hb dX10_clear_130 rfl (lv_at hl 2 rfl) ?_
        refine ld_i (x := dr) C hP 7 rfl hi (congrArg (fun q : Pd => q.2.2.2.2.2.2.1) (va_up_self F i _)) dX10_clear_131 ?_
        refine st_6 (x9 := dr) C hP hD hS hi dX10_clear_132 (fun H locs hP hD hS => ?_)
        have hP : va_P D cls (wm ca ya (va_up F i (6, zn, lm, (ch + 0), 0, 0, dr, false)) Q.length 0 fl (tb 3 0 (tb 3 (nI 6) t))) H := hP
        have hD : va_D A (wm ca ya (va_up F i (6, zn, lm, (ch + 0), 0, 0, dr, false)) Q.length 0 fl (tb 3 0 (tb 3 (nI 6) t))) := hD
        refine lv_iconst (v := 1) hx hb dX10_clear_133 (by decide) ?_
        have hr9 : r = (1, Q.set i (6, zn, lm, (ch + 0), 0, 0, dr, false), (tb 3 0 (tb 3 (nI 6) t))) := by rw [hr9, epcl_6, Int32.add_zero]; rfl
        subst hr9
        exact rf_ C hrt hlocks rfl (hF.set _) (by rw [List.length_set]; exact hP) hS dX10_clear_134
      · have hla : la = true := bi_ne0 c_8
        subst hla
        refine lv_iload_n hx hb dX10_clear_99 rfl (lv_at hl 0 rfl) ?_
        refine lv_bipush (v := 6) hx hb dX10_clear_100 (by decide) ?_
        refine lv_icmp_eq (x := nI 6) (y := 6) (tgt := 109) hx hb dX10_clear_102 (by decide) (fun _ => ?_) (fun h9 => absurd h9 (by decide +kernel))
        refine lv_iconst (v := 0) hx hb dX10_clear_109 (by decide) ?_
        refine st_7 (b9 := false) C hP hD hS hi dX10_clear_110 (fun H locs hP hD hS => ?_)
        have hP : va_P D cls (wm ca ya (va_up F i (6, zn, lm, (ch + 0), 0, 0, dr, false)) Q.length 0 fl (tb 3 0 (tb 3 (nI 6) t))) H := hP
        have hD : va_D A (wm ca ya (va_up F i (6, zn, lm, (ch + 0), 0, 0, dr, false)) Q.length 0 fl (tb 3 0 (tb 3 (nI 6) t))) := hD
        refine lv_aload_n hx hb dX10_clear_111 rfl (lv_at hl 1 rfl) ?_
        refine va_get (D := D) (C := RX10) (T := TX10) (N := 15) hx hb (uc_10 hk.1 _) (fun _ h9 => h9) hown hK hP 0 rfl rfl 8 (by decide) (fl_X10_28 hk.1 _) (fun _ h9 => h9) rfl dX10_clear_112 ?_
        refine lv_iload_n hx hb dX10_clear_115 rfl (lv_at hl 2 rfl) ?_
        refine lv_iload_n hx hb dX10_clear_116 rfl (lv_at hl 0 rfl) ?_
        refine lv_bipush (v := 7) hx hb dX10_clear_117 (by decide) ?_
        refine lv_icmp_ne (x := nI 6) (y := 7) (tgt := 126) hx hb dX10_clear_119 (by decide) (fun _ => ?_) (fun h9 => absurd h9 (by decide +kernel))
        refine lv_aload_n hx hb dX10_clear_126 rfl (lv_at hl 1 rfl) ?_
        refine va_get (D := D) (C := RX10) (T := TX10) (N := 15) hx hb (uc_10 hk.1 _) (fun _ h9 => h9) hown hK hP 0 rfl rfl 8 (by decide) (fl_X10_28 hk.1 _) (fun _ h9 => h9) rfl dX10_clear_127 ?_
        refine lv_iload_n hx hb dX10_clear_130 rfl (lv_at hl 2 rfl) ?_
        refine ld_i (x := dr) C hP 7 rfl hi (congrArg (fun q : Pd => q.2.2.2.2.2.2.1) (va_up_self F i _)) dX10_clear_131 ?_
        refine st_6 (x9 := dr) C hP hD hS hi dX10_clear_132 (fun H locs hP hD hS => ?_)
        have hP : va_P D cls (wm ca ya (va_up F i (6, zn, lm, (ch + 0), 0, 0, dr, false)) Q.length 0 fl (tb 3 0 (tb 3 (nI 6) t))) H := hP
        have hD : va_D A (wm ca ya (va_up F i (6, zn, lm, (ch + 0), 0, 0, dr, false)) Q.length 0 fl (tb 3 0 (tb 3 (nI 6) t))) := hD
        refine lv_iconst (v := 1) hx hb dX10_clear_133 (by decide) ?_
        have hr9 : r = (1, Q.set i (6, zn, lm, (ch + 0), 0, 0, dr, false), (tb 3 0 (tb 3 (nI 6) t))) := by rw [hr9, epcl_6, Int32.add_zero]; rfl
        subst hr9
        exact rf_ C hrt hlocks rfl (hF.set _) (by rw [List.length_set]; exact hP) hS dX10_clear_134
    · refine lv_aload_n hx hb dX10_clear_16 rfl (lv_at hl 0 rfl) ?_
      refine va_get (D := D) (C := RX10) (T := TX10) (N := 15) hx hb (uc_10 hk.1 _) (fun _ h9 => h9) hown hK hP 0 rfl rfl 2 (by decide) (fl_X10_7 hk.1 _) (fun _ h9 => h9) rfl dX10_clear_17 ?_
      refine lv_iload_n hx hb dX10_clear_20 rfl (lv_at hl 1 rfl) ?_
      refine ld_i (x := nI 7) C hP 1 rfl hi (congrArg (fun q : Pd => nI q.1) (va_up_self F i _)) dX10_clear_21 ?_
      refine lv_istore_n (lv' := [(2, .int (nI 7)), (0, .ref (ya 0)), (1, .int (nI i))]) hx hb dX10_clear_22 rfl hl (by decide) rfl (fun ls hl => ?_)
      refine lv_iload_n hx hb dX10_clear_23 rfl (lv_at hl 0 rfl) ?_
      refine lv_iconst (v := 5) hx hb dX10_clear_24 (by decide) ?_
      refine lv_icmp_eq (x := nI 7) (y := 5) (tgt := 40) hx hb dX10_clear_25 (by decide) (fun h9 => absurd h9 (by decide +kernel)) (fun _ => ?_)
      refine lv_iload_n hx hb dX10_clear_28 rfl (lv_at hl 0 rfl) ?_
      refine lv_bipush (v := 6) hx hb dX10_clear_29 (by decide) ?_
      refine lv_icmp_eq (x := nI 7) (y := 6) (tgt := 40) hx hb dX10_clear_31 (by decide) (fun h9 => absurd h9 (by decide +kernel)) (fun _ => ?_)
      refine lv_iload_n hx hb dX10_clear_34 rfl (lv_at hl 0 rfl) ?_
      refine lv_bipush (v := 7) hx hb dX10_clear_35 (by decide) ?_
      refine lv_icmp_ne (x := nI 7) (y := 7) (tgt := 46) hx hb dX10_clear_37 (by decide) (fun h9 => absurd h9 (by decide +kernel)) (fun _ => ?_)
      refine lv_aload_n hx hb dX10_clear_40 rfl (lv_at hl 1 rfl) ?_
      refine lv_iconst (v := 3) hx hb dX10_clear_41 (by decide) ?_
      refine lv_iload_n hx hb dX10_clear_42 rfl (lv_at hl 0 rfl) ?_
      refine k_mv (n9 := 2) (As := [.int 3, .int (nI 7)]) C (n_rule l D ca sa lo ya (va_up F i (7, zn, lm, ch, lv, cn, dr, la)) Q.length 0 fl t (by first | omega | (simp only [tb_n]; omega)) 3 (nI 7) _) (fun U A9 h => co_X10_rule h A9) (in_X10 hk.1 _) (ml_X10_58 hk.1 _) (im_X10_rule hk.1 _) (se_X10_X10_rule hk.1 _) (by decide +kernel) ⟨⟨rfl, rfl⟩, by decide, by decide⟩ hP hD hS rfl rfl rfl hl.1 rfl (Nat.le_of_ble_eq_true rfl) dX10_clear_43 ⟨by decide, by decide⟩ (fun H locs hP hD hS => ?_)
      refine lv_aload_n hx hb dX10_clear_46 rfl (lv_at hl 1 rfl) ?_
      refine lv_iconst (v := 3) hx hb dX10_clear_47 (by decide) ?_
      refine lv_iconst (v := 0) hx hb dX10_clear_48 (by decide) ?_
      refine k_mv (n9 := 2) (As := [.int 3, .int 0]) C (n_rule l D ca sa lo ya (va_up F i (7, zn, lm, ch, lv, cn, dr, la)) Q.length 0 fl (tb 3 (nI 7) t) (by first | omega | (simp only [tb_n]; omega)) 3 0 _) (fun U A9 h => co_X10_rule h A9) (in_X10 hk.1 _) (ml_X10_58 hk.1 _) (im_X10_rule hk.1 _) (se_X10_X10_rule hk.1 _) (by decide +kernel) ⟨⟨rfl, rfl⟩, by decide, by decide⟩ hP hD hS rfl rfl rfl hl.1 rfl (Nat.le_of_ble_eq_true rfl) dX10_clear_49 ⟨by decide, by decide⟩ (fun H locs hP hD hS => ?_)
      refine lv_aload_n hx hb dX10_clear_52 rfl (lv_at hl 1 rfl) ?_
      refine va_get (D := D) (C := RX10) (T := TX10) (N := 15) hx hb (uc_10 hk.1 _) (fun _ h9 => h9) hown hK hP 0 rfl rfl 6 (by decide) (fl_X10_22 hk.1 _) (fun _ h9 => h9) rfl dX10_clear_53 ?_
      refine lv_iload_n hx hb dX10_clear_56 rfl (lv_at hl 2 rfl) ?_
      refine lv_iconst (v := 0) hx hb dX10_clear_57 (by decide) ?_
      refine st_4 (x9 := 0) C hP hD hS hi dX10_clear_58 (fun H locs hP hD hS => ?_)
      have hP : va_P D cls (wm ca ya (va_up F i (7, zn, lm, ch, 0, cn, dr, la)) Q.length 0 fl (tb 3 0 (tb 3 (nI 7) t))) H := hP
      have hD : va_D A (wm ca ya (va_up F i (7, zn, lm, ch, 0, cn, dr, la)) Q.length 0 fl (tb 3 0 (tb 3 (nI 7) t))) := hD
      refine lv_aload_n hx hb dX10_clear_59 rfl (lv_at hl 1 rfl) ?_
      refine va_get (D := D) (C := RX10) (T := TX10) (N := 15) hx hb (uc_10 hk.1 _) (fun _ h9 => h9) hown hK hP 0 rfl rfl 7 (by decide) (fl_X10_25 hk.1 _) (fun _ h9 => h9) rfl dX10_clear_60 ?_
      refine lv_iload_n hx hb dX10_clear_63 rfl (lv_at hl 2 rfl) ?_
      refine lv_iconst (v := 0) hx hb dX10_clear_64 (by decide) ?_
      refine st_5 (x9 := 0) C hP hD hS hi dX10_clear_65 (fun H locs hP hD hS => ?_)
      have hP : va_P D cls (wm ca ya (va_up F i (7, zn, lm, ch, 0, 0, dr, la)) Q.length 0 fl (tb 3 0 (tb 3 (nI 7) t))) H := hP
      have hD : va_D A (wm ca ya (va_up F i (7, zn, lm, ch, 0, 0, dr, la)) Q.length 0 fl (tb 3 0 (tb 3 (nI 7) t))) := hD
      refine lv_aload_n hx hb dX10_clear_66 rfl (lv_at hl 1 rfl) ?_
      refine va_get (D := D) (C := RX10) (T := TX10) (N := 15) hx hb (uc_10 hk.1 _) (fun _ h9 => h9) hown hK hP 0 rfl rfl 5 (by decide) (fl_X10_19 hk.1 _) (fun _ h9 => h9) rfl dX10_clear_67 ?_
      refine lv_iload_n hx hb dX10_clear_70 rfl (lv_at hl 2 rfl) ?_
      refine lv_dup2_11 hx hb dX10_clear_71 rfl rfl ?_
      refine ld_i (x := ch) C hP 4 rfl hi (congrArg (fun q : Pd => q.2.2.2.1) (va_up_self F i _)) dX10_clear_72 ?_
      refine lv_iload_n hx hb dX10_clear_73 rfl (lv_at hl 0 rfl) ?_
      refine lv_iconst (v := 5) hx hb dX10_clear_74 (by decide) ?_
      refine lv_icmp_ne (x := nI 7) (y := 5) (tgt := 82) hx hb dX10_clear_75 (by decide) (fun _ => ?_) (fun h9 => absurd h9 (by decide +kernel))
      refine lv_iconst (v := 0) hx hb dX10_clear_82 (by decide) ?_
      refine lv_iadd hx hb dX10_clear_83 ?_
      refine st_3 (x9 := ch + 0) C hP hD hS hi dX10_clear_84 (fun H locs hP hD hS => ?_)
      have hP : va_P D cls (wm ca ya (va_up F i (7, zn, lm, (ch + 0), 0, 0, dr, la)) Q.length 0 fl (tb 3 0 (tb 3 (nI 7) t))) H := hP
      have hD : va_D A (wm ca ya (va_up F i (7, zn, lm, (ch + 0), 0, 0, dr, la)) Q.length 0 fl (tb 3 0 (tb 3 (nI 7) t))) := hD
      refine lv_aload_n hx hb dX10_clear_85 rfl (lv_at hl 1 rfl) ?_
      refine va_get (D := D) (C := RX10) (T := TX10) (N := 15) hx hb (uc_10 hk.1 _) (fun _ h9 => h9) hown hK hP 0 rfl rfl 9 (by decide) (fl_X10_31 hk.1 _) (fun _ h9 => h9) rfl dX10_clear_86 ?_
      refine lv_iload_n hx hb dX10_clear_89 rfl (lv_at hl 2 rfl) ?_
      refine lv_aload_n hx hb dX10_clear_90 rfl (lv_at hl 1 rfl) ?_
      refine va_get (D := D) (C := RX10) (T := TX10) (N := 15) hx hb (uc_10 hk.1 _) (fun _ h9 => h9) hown hK hP 0 rfl rfl 9 (by decide) (fl_X10_31 hk.1 _) (fun _ h9 => h9) rfl dX10_clear_91 ?_
      refine lv_iload_n hx hb dX10_clear_94 rfl (lv_at hl 2 rfl) ?_
      refine ld_z (x := bi la) C hP 8 rfl hi (congrArg (fun q : Pd => bi q.2.2.2.2.2.2.2) (va_up_self F i _)) dX10_clear_95 ?_
      refine lv_if_eq (tgt := 109) hx hb dX10_clear_96 (by decide) (fun c_9 => ?_) (fun c_9 => ?_)
      · have hla : la = false := bi_eq0 c_9
        subst hla
        refine lv_iconst (v := 0) hx hb dX10_clear_109 (by decide) ?_
        refine st_7 (b9 := false) C hP hD hS hi dX10_clear_110 (fun H locs hP hD hS => ?_)
        have hP : va_P D cls (wm ca ya (va_up F i (7, zn, lm, (ch + 0), 0, 0, dr, false)) Q.length 0 fl (tb 3 0 (tb 3 (nI 7) t))) H := hP
        have hD : va_D A (wm ca ya (va_up F i (7, zn, lm, (ch + 0), 0, 0, dr, false)) Q.length 0 fl (tb 3 0 (tb 3 (nI 7) t))) := hD
        refine lv_aload_n hx hb dX10_clear_111 rfl (lv_at hl 1 rfl) ?_
        refine va_get (D := D) (C := RX10) (T := TX10) (N := 15) hx hb (uc_10 hk.1 _) (fun _ h9 => h9) hown hK hP 0 rfl rfl 8 (by decide) (fl_X10_28 hk.1 _) (fun _ h9 => h9) rfl dX10_clear_112 ?_
        refine lv_iload_n hx hb dX10_clear_115 rfl (lv_at hl 2 rfl) ?_
        refine lv_iload_n hx hb dX10_clear_116 rfl (lv_at hl 0 rfl) ?_
        refine lv_bipush (v := 7) hx hb dX10_clear_117 (by decide) ?_
        refine lv_icmp_ne (x := nI 7) (y := 7) (tgt := 126) hx hb dX10_clear_119 (by decide) (fun h9 => absurd h9 (by decide +kernel)) (fun _ => ?_)
        refine lv_iconst (v := 0) hx hb dX10_clear_122 (by decide) ?_
        refine lv_goto (tgt := 132) hx hb dX10_clear_123 (by decide) ?_
        refine st_6 (x9 := 0) C hP hD hS hi dX10_clear_132 (fun H locs hP hD hS => ?_)
        have hP : va_P D cls (wm ca ya (va_up F i (7, zn, lm, (ch + 0), 0, 0, 0, false)) Q.length 0 fl (tb 3 0 (tb 3 (nI 7) t))) H := hP
        have hD : va_D A (wm ca ya (va_up F i (7, zn, lm, (ch + 0), 0, 0, 0, false)) Q.length 0 fl (tb 3 0 (tb 3 (nI 7) t))) := hD
        refine lv_iconst (v := 1) hx hb dX10_clear_133 (by decide) ?_
        have hr9 : r = (1, Q.set i (7, zn, lm, (ch + 0), 0, 0, 0, false), (tb 3 0 (tb 3 (nI 7) t))) := by rw [hr9, epcl_7, Int32.add_zero]; rfl
        subst hr9
        exact rf_ C hrt hlocks rfl (hF.set _) (by rw [List.length_set]; exact hP) hS dX10_clear_134
      · have hla : la = true := bi_ne0 c_9
        subst hla
        refine lv_iload_n hx hb dX10_clear_99 rfl (lv_at hl 0 rfl) ?_
        refine lv_bipush (v := 6) hx hb dX10_clear_100 (by decide) ?_
        refine lv_icmp_eq (x := nI 7) (y := 6) (tgt := 109) hx hb dX10_clear_102 (by decide) (fun h9 => absurd h9 (by decide +kernel)) (fun _ => ?_)
        refine lv_iconst (v := 1) hx hb dX10_clear_105 (by decide) ?_
        refine lv_goto (tgt := 110) hx hb dX10_clear_106 (by decide) ?_
        refine st_7 (b9 := true) C hP hD hS hi dX10_clear_110 (fun H locs hP hD hS => ?_)
        have hP : va_P D cls (wm ca ya (va_up F i (7, zn, lm, (ch + 0), 0, 0, dr, true)) Q.length 0 fl (tb 3 0 (tb 3 (nI 7) t))) H := hP
        have hD : va_D A (wm ca ya (va_up F i (7, zn, lm, (ch + 0), 0, 0, dr, true)) Q.length 0 fl (tb 3 0 (tb 3 (nI 7) t))) := hD
        refine lv_aload_n hx hb dX10_clear_111 rfl (lv_at hl 1 rfl) ?_
        refine va_get (D := D) (C := RX10) (T := TX10) (N := 15) hx hb (uc_10 hk.1 _) (fun _ h9 => h9) hown hK hP 0 rfl rfl 8 (by decide) (fl_X10_28 hk.1 _) (fun _ h9 => h9) rfl dX10_clear_112 ?_
        refine lv_iload_n hx hb dX10_clear_115 rfl (lv_at hl 2 rfl) ?_
        refine lv_iload_n hx hb dX10_clear_116 rfl (lv_at hl 0 rfl) ?_
        refine lv_bipush (v := 7) hx hb dX10_clear_117 (by decide) ?_
        refine lv_icmp_ne (x := nI 7) (y := 7) (tgt := 126) hx hb dX10_clear_119 (by decide) (fun h9 => absurd h9 (by decide +kernel)) (fun _ => ?_)
        refine lv_iconst (v := 0) hx hb dX10_clear_122 (by decide) ?_
        refine lv_goto (tgt := 132) hx hb dX10_clear_123 (by decide) ?_
        refine st_6 (x9 := 0) C hP hD hS hi dX10_clear_132 (fun H locs hP hD hS => ?_)
        have hP : va_P D cls (wm ca ya (va_up F i (7, zn, lm, (ch + 0), 0, 0, 0, true)) Q.length 0 fl (tb 3 0 (tb 3 (nI 7) t))) H := hP
        have hD : va_D A (wm ca ya (va_up F i (7, zn, lm, (ch + 0), 0, 0, 0, true)) Q.length 0 fl (tb 3 0 (tb 3 (nI 7) t))) := hD
        refine lv_iconst (v := 1) hx hb dX10_clear_133 (by decide) ?_
        have hr9 : r = (1, Q.set i (7, zn, lm, (ch + 0), 0, 0, 0, true), (tb 3 0 (tb 3 (nI 7) t))) := by rw [hr9, epcl_7, Int32.add_zero]; rfl
        subst hr9
        exact rf_ C hrt hlocks rfl (hF.set _) (by rw [List.length_set]; exact hP) hS dX10_clear_134
  · have hix := there_f hok.1 (bi_eq0 c_1)
    have hr9 : r = (-101, Q, t) := by rw [← hr9]; simp only [zC, hix]
    subst hr9
    refine lv_bipush (v := (-101)) hx hb dX10_clear_13 (by decide) ?_
    exact rf_ C hrt hlocks rfl hF hP hS dX10_clear_15

set_option maxHeartbeats 4000000 in
set_option maxRecDepth 100000 in
theorem N_tell (l : Launch) (D : va_G) (ca : Nat → ClassId) (sa : Nat → Nat) (lo : Nat) (ya : Nat → Nat) (F : Nat → Pd) (Q : List Pd) (cd fl : Int32) (t : Tr) (hok : okQ Q) (hF : RQ F Q) (x w : Int32) (sz : Nat) : Met l yX10_tell [.code yX10_tell cX10_tell 3 (some .int)] ({ frames := 2, cells := 0, slots := 0, locals := 60 }) (PX D ca sa lo sz [.ref (ya 0), .int x, .int w] (wm ca ya F Q.length cd fl t)) (QF D ca ya (zT Q x w) 0 Q t (va_A (wm ca ya F Q.length cd fl t) sz)) 0 0 (va_A (wm ca ya F Q.length cd fl t) sz) := by
  generalize hr9 : zT Q x w = r
  refine mk_met (fun A => QF D ca ya r 0 Q t A) (by decide) (Nat.le_of_ble_eq_true rfl) ?_
  intro p e s m below meth c A ls C hrt hlocks hnm hsz hP hD hS hl
  obtain ⟨hx, hb, hml, hown, hk, hz, hlo, hA, hAl⟩ := id C
  have hK : va_K D cls (tyl ca) s := hk.2.1
  have hl : lv_has ls 3 [(0, .ref (ya 0)), (1, .int x), (2, .int w)] := hl
  refine lv_aload_n hx hb dX10_tell_0 rfl (lv_at hl 0 rfl) ?_
  refine lv_iconst (v := 0) hx hb dX10_tell_1 (by decide) ?_
  refine va_put (D := D) (v := .int 0) (ty := .int) (C := RX10) (T := TX10) (N := 15) hx hb (uc_10 hk.1 _) (fun _ h9 => h9) tyX10 tyX10_ok nmX10 hown hK hP hD hS 0 rfl rfl 0 (by decide) (fl_X10_38 hk.1 _) (fun _ h9 => h9) rfl (by decide +kernel) rfl rfl (Nat.le_of_ble_eq_true rfl) dX10_tell_2 (fun H locs hP hD hS => ?_)
  have hP : va_P D cls (wm ca ya F Q.length 0 fl t) H := hP
  have hD : va_D A (wm ca ya F Q.length 0 fl t) := hD
  refine lv_aload_n hx hb dX10_tell_5 rfl (lv_at hl 0 rfl) ?_
  refine lv_iload_n hx hb dX10_tell_6 rfl (lv_at hl 1 rfl) ?_
  refine k_mi (n9 := 1) (As := [.int x]) C (n_isThere l D ca sa lo ya F Q.length 0 fl t x _) (fun U A9 h => co_X10_isThere h A9) (in_X10 hk.1 _) (ml_X10_82 hk.1 _) (im_X10_isThere hk.1 _) (se_X10_X10_isThere hk.1 _) (by decide +kernel) ⟨⟨rfl, rfl⟩, by decide, by decide⟩ hP hD hS rfl rfl rfl hl.1 rfl (Nat.le_of_ble_eq_true rfl) dX10_tell_7 ⟨by decide, by decide⟩ (fun H locs hP hD hS => ?_)
  refine lv_if_ne (tgt := 16) hx hb dX10_tell_10 (by decide) (fun c_1 => ?_) (fun c_1 => ?_)
  · obtain ⟨i, hix, hiQ, rfl⟩ := there_t hok.1 (bi_ne0 c_1)
    obtain ⟨⟨kd, zn, lm, ch, lv, cn, dr, la⟩, hQ, hkd⟩ := at_Q hok hiQ
    have hi : i < 20 := Nat.lt_of_lt_of_le hiQ hok.1
    have hkd : kd < 8 := hkd
    have hFe : va_up F i (kd, zn, lm, ch, lv, cn, dr, la) = F := by rw [← hF i _ hQ]; exact up_same F i
    have hP : va_P D cls (wm ca ya (va_up F i (kd, zn, lm, ch, lv, cn, dr, la)) Q.length 0 fl t) H := by rw [hFe]; exact hP
    have hD : va_D A (wm ca ya (va_up F i (kd, zn, lm, ch, lv, cn, dr, la)) Q.length 0 fl t) := by rw [hFe]; exact hD
    have hr9 : r = tel (kd, zn, lm, (ch, lv, cn, dr, la)) w := by rw [← hr9]; simp only [zT, hix, sQ_of hQ, gQ_of hQ]
    refine lv_iload_n hx hb dX10_tell_16 rfl (lv_at hl 2 rfl) ?_
    by_cases e0 : w = 0
    · subst e0
      refine lv_tableIn (tgt := 64) hx hb dX10_tell_17 (by decide) (by decide) rfl (by decide) ?_
      have hr9 : r = nI kd := by rw [hr9]; unfold tel; rw [if_pos rfl]
      refine lv_aload_n hx hb dX10_tell_64 rfl (lv_at hl 0 rfl) ?_
      refine va_get (D := D) (C := RX10) (T := TX10) (N := 15) hx hb (uc_10 hk.1 _) (fun _ h9 => h9) hown hK hP 0 rfl rfl 2 (by decide) (fl_X10_7 hk.1 _) (fun _ h9 => h9) rfl dX10_tell_65 ?_
      refine lv_iload_n hx hb dX10_tell_68 rfl (lv_at hl 1 rfl) ?_
      refine ld_i (x := nI kd) C hP 1 rfl hi (congrArg (fun q : Pd => nI q.1) (va_up_self F i _)) dX10_tell_69 ?_
      exact rf_ C hrt hlocks hr9.symm (by rw [hFe]; exact hF) hP hS dX10_tell_70
    · by_cases e1 : w = 1
      · subst e1
        refine lv_tableIn (tgt := 71) hx hb dX10_tell_17 (by decide) (by decide) rfl (by decide) ?_
        have hr9 : r = zn := by rw [hr9]; unfold tel; rw [if_neg (by decide), if_pos rfl]
        refine lv_aload_n hx hb dX10_tell_71 rfl (lv_at hl 0 rfl) ?_
        refine va_get (D := D) (C := RX10) (T := TX10) (N := 15) hx hb (uc_10 hk.1 _) (fun _ h9 => h9) hown hK hP 0 rfl rfl 3 (by decide) (fl_X10_13 hk.1 _) (fun _ h9 => h9) rfl dX10_tell_72 ?_
        refine lv_iload_n hx hb dX10_tell_75 rfl (lv_at hl 1 rfl) ?_
        refine ld_i (x := zn) C hP 2 rfl hi (congrArg (fun q : Pd => q.2.1) (va_up_self F i _)) dX10_tell_76 ?_
        exact rf_ C hrt hlocks hr9.symm (by rw [hFe]; exact hF) hP hS dX10_tell_77
      · by_cases e2 : w = 2
        · subst e2
          refine lv_tableIn (tgt := 78) hx hb dX10_tell_17 (by decide) (by decide) rfl (by decide) ?_
          have hr9 : r = lm := by rw [hr9]; unfold tel; rw [if_neg (by decide), if_neg (by decide), if_pos rfl]
          refine lv_aload_n hx hb dX10_tell_78 rfl (lv_at hl 0 rfl) ?_
          refine va_get (D := D) (C := RX10) (T := TX10) (N := 15) hx hb (uc_10 hk.1 _) (fun _ h9 => h9) hown hK hP 0 rfl rfl 4 (by decide) (fl_X10_16 hk.1 _) (fun _ h9 => h9) rfl dX10_tell_79 ?_
          refine lv_iload_n hx hb dX10_tell_82 rfl (lv_at hl 1 rfl) ?_
          refine ld_i (x := lm) C hP 3 rfl hi (congrArg (fun q : Pd => q.2.2.1) (va_up_self F i _)) dX10_tell_83 ?_
          exact rf_ C hrt hlocks hr9.symm (by rw [hFe]; exact hF) hP hS dX10_tell_84
        · by_cases e3 : w = 3
          · subst e3
            refine lv_tableIn (tgt := 85) hx hb dX10_tell_17 (by decide) (by decide) rfl (by decide) ?_
            have hr9 : r = ch := by rw [hr9]; unfold tel; rw [if_neg (by decide), if_neg (by decide), if_neg (by decide), if_pos rfl]
            refine lv_aload_n hx hb dX10_tell_85 rfl (lv_at hl 0 rfl) ?_
            refine va_get (D := D) (C := RX10) (T := TX10) (N := 15) hx hb (uc_10 hk.1 _) (fun _ h9 => h9) hown hK hP 0 rfl rfl 5 (by decide) (fl_X10_19 hk.1 _) (fun _ h9 => h9) rfl dX10_tell_86 ?_
            refine lv_iload_n hx hb dX10_tell_89 rfl (lv_at hl 1 rfl) ?_
            refine ld_i (x := ch) C hP 4 rfl hi (congrArg (fun q : Pd => q.2.2.2.1) (va_up_self F i _)) dX10_tell_90 ?_
            exact rf_ C hrt hlocks hr9.symm (by rw [hFe]; exact hF) hP hS dX10_tell_91
          · by_cases e4 : w = 4
            · subst e4
              refine lv_tableIn (tgt := 92) hx hb dX10_tell_17 (by decide) (by decide) rfl (by decide) ?_
              have hr9 : r = lv := by rw [hr9]; unfold tel; rw [if_neg (by decide), if_neg (by decide), if_neg (by decide), if_neg (by decide), if_pos rfl]
              refine lv_aload_n hx hb dX10_tell_92 rfl (lv_at hl 0 rfl) ?_
              refine va_get (D := D) (C := RX10) (T := TX10) (N := 15) hx hb (uc_10 hk.1 _) (fun _ h9 => h9) hown hK hP 0 rfl rfl 6 (by decide) (fl_X10_22 hk.1 _) (fun _ h9 => h9) rfl dX10_tell_93 ?_
              refine lv_iload_n hx hb dX10_tell_96 rfl (lv_at hl 1 rfl) ?_
              refine ld_i (x := lv) C hP 5 rfl hi (congrArg (fun q : Pd => q.2.2.2.2.1) (va_up_self F i _)) dX10_tell_97 ?_
              exact rf_ C hrt hlocks hr9.symm (by rw [hFe]; exact hF) hP hS dX10_tell_98
            · by_cases e5 : w = 5
              · subst e5
                refine lv_tableIn (tgt := 99) hx hb dX10_tell_17 (by decide) (by decide) rfl (by decide) ?_
                have hr9 : r = cn := by rw [hr9]; unfold tel; rw [if_neg (by decide), if_neg (by decide), if_neg (by decide), if_neg (by decide), if_neg (by decide), if_pos rfl]
                refine lv_aload_n hx hb dX10_tell_99 rfl (lv_at hl 0 rfl) ?_
                refine va_get (D := D) (C := RX10) (T := TX10) (N := 15) hx hb (uc_10 hk.1 _) (fun _ h9 => h9) hown hK hP 0 rfl rfl 7 (by decide) (fl_X10_25 hk.1 _) (fun _ h9 => h9) rfl dX10_tell_100 ?_
                refine lv_iload_n hx hb dX10_tell_103 rfl (lv_at hl 1 rfl) ?_
                refine ld_i (x := cn) C hP 6 rfl hi (congrArg (fun q : Pd => q.2.2.2.2.2.1) (va_up_self F i _)) dX10_tell_104 ?_
                exact rf_ C hrt hlocks hr9.symm (by rw [hFe]; exact hF) hP hS dX10_tell_105
              · by_cases e6 : w = 6
                · subst e6
                  refine lv_tableIn (tgt := 106) hx hb dX10_tell_17 (by decide) (by decide) rfl (by decide) ?_
                  have hr9 : r = dr := by rw [hr9]; unfold tel; rw [if_neg (by decide), if_neg (by decide), if_neg (by decide), if_neg (by decide), if_neg (by decide), if_neg (by decide), if_pos rfl]
                  refine lv_aload_n hx hb dX10_tell_106 rfl (lv_at hl 0 rfl) ?_
                  refine va_get (D := D) (C := RX10) (T := TX10) (N := 15) hx hb (uc_10 hk.1 _) (fun _ h9 => h9) hown hK hP 0 rfl rfl 8 (by decide) (fl_X10_28 hk.1 _) (fun _ h9 => h9) rfl dX10_tell_107 ?_
                  refine lv_iload_n hx hb dX10_tell_110 rfl (lv_at hl 1 rfl) ?_
                  refine ld_i (x := dr) C hP 7 rfl hi (congrArg (fun q : Pd => q.2.2.2.2.2.2.1) (va_up_self F i _)) dX10_tell_111 ?_
                  exact rf_ C hrt hlocks hr9.symm (by rw [hFe]; exact hF) hP hS dX10_tell_112
                · by_cases e7 : w = 7
                  · subst e7
                    refine lv_tableIn (tgt := 113) hx hb dX10_tell_17 (by decide) (by decide) rfl (by decide) ?_
                    have hr9 : r = bi la := by rw [hr9]; unfold tel; rw [if_neg (by decide), if_neg (by decide), if_neg (by decide), if_neg (by decide), if_neg (by decide), if_neg (by decide), if_neg (by decide), if_pos rfl]
                    refine lv_aload_n hx hb dX10_tell_113 rfl (lv_at hl 0 rfl) ?_
                    refine va_get (D := D) (C := RX10) (T := TX10) (N := 15) hx hb (uc_10 hk.1 _) (fun _ h9 => h9) hown hK hP 0 rfl rfl 9 (by decide) (fl_X10_31 hk.1 _) (fun _ h9 => h9) rfl dX10_tell_114 ?_
                    refine lv_iload_n hx hb dX10_tell_117 rfl (lv_at hl 1 rfl) ?_
                    refine ld_z (x := bi la) C hP 8 rfl hi (congrArg (fun q : Pd => bi q.2.2.2.2.2.2.2) (va_up_self F i _)) dX10_tell_118 ?_
                    refine lv_if_eq (tgt := 126) hx hb dX10_tell_119 (by decide) (fun c_2 => ?_) (fun c_2 => ?_)
                    · refine lv_iconst (v := 0) hx hb dX10_tell_126 (by decide) ?_
                      exact rf_ C hrt hlocks (by rw [hr9, bi_eq0 c_2]; rfl) (by rw [hFe]; exact hF) hP hS dX10_tell_127
                    · refine lv_iconst (v := 1) hx hb dX10_tell_122 (by decide) ?_
                      refine lv_goto (tgt := 127) hx hb dX10_tell_123 (by decide) ?_
                      exact rf_ C hrt hlocks (by rw [hr9, bi_ne0 c_2]; rfl) (by rw [hFe]; exact hF) hP hS dX10_tell_127
                  · refine lv_tableOut (tgt := 128) hx hb dX10_tell_17 (tb_out (n := 7) (by decide) (fun k hk => ?_)) (by decide) ?_
                    · rcases (by omega : k = 0 ∨ k = 1 ∨ k = 2 ∨ k = 3 ∨ k = 4 ∨ k = 5 ∨ k = 6 ∨ k = 7) with rfl | rfl | rfl | rfl | rfl | rfl | rfl | rfl
                      · exact e0
                      · exact e1
                      · exact e2
                      · exact e3
                      · exact e4
                      · exact e5
                      · exact e6
                      · exact e7
                    · have hr9 : r = -102 := by rw [hr9]; unfold tel; rw [if_neg e0, if_neg e1, if_neg e2, if_neg e3, if_neg e4, if_neg e5, if_neg e6, if_neg e7]
                      refine lv_bipush (v := (-102)) hx hb dX10_tell_128 (by decide) ?_
                      exact rf_ C hrt hlocks hr9.symm (by rw [hFe]; exact hF) hP hS dX10_tell_130
  · have hix := there_f hok.1 (bi_eq0 c_1)
    have hr9 : r = -101 := by rw [← hr9]; simp only [zT, hix]
    subst hr9
    refine lv_bipush (v := (-101)) hx hb dX10_tell_13 (by decide) ?_
    exact rf_ C hrt hlocks rfl hF hP hS dX10_tell_15

set_option maxHeartbeats 4000000 in
set_option maxRecDepth 100000 in
theorem N_count (l : Launch) (D : va_G) (ca : Nat → ClassId) (sa : Nat → Nat) (lo : Nat) (ya : Nat → Nat) (F : Nat → Pd) (Q : List Pd) (cd fl : Int32) (t : Tr) (hok : okQ Q) (hF : RQ F Q) (w : Int32) (sz : Nat) : Met l yX10_count [.code yX10_count cX10_count 2 (some .int)] ({ frames := 0, cells := 0, slots := 0, locals := 0 }) (PX D ca sa lo sz [.ref (ya 0), .int w] (wm ca ya F Q.length cd fl t)) (QF D ca ya (zN Q t w) 0 Q t (va_A (wm ca ya F Q.length cd fl t) sz)) 0 0 (va_A (wm ca ya F Q.length cd fl t) sz) := by
  generalize hr9 : zN Q t w = r
  refine mk_met (fun A => QF D ca ya r 0 Q t A) (by decide) (Nat.le_of_ble_eq_true rfl) ?_
  intro p e s m below meth c A ls C hrt hlocks hnm hsz hP hD hS hl
  obtain ⟨hx, hb, hml, hown, hk, hz, hlo, hA, hAl⟩ := id C
  have hK : va_K D cls (tyl ca) s := hk.2.1
  have hl : lv_has ls 2 [(0, .ref (ya 0)), (1, .int w)] := hl
  refine lv_aload_n hx hb dX10_count_0 rfl (lv_at hl 0 rfl) ?_
  refine lv_iconst (v := 0) hx hb dX10_count_1 (by decide) ?_
  refine va_put (D := D) (v := .int 0) (ty := .int) (C := RX10) (T := TX10) (N := 15) hx hb (uc_10 hk.1 _) (fun _ h9 => h9) tyX10 tyX10_ok nmX10 hown hK hP hD hS 0 rfl rfl 0 (by decide) (fl_X10_38 hk.1 _) (fun _ h9 => h9) rfl (by decide +kernel) rfl rfl (Nat.le_of_ble_eq_true rfl) dX10_count_2 (fun H locs hP hD hS => ?_)
  have hP : va_P D cls (wm ca ya F Q.length 0 fl t) H := hP
  have hD : va_D A (wm ca ya F Q.length 0 fl t) := hD
  refine lv_iload_n hx hb dX10_count_5 rfl (lv_at hl 1 rfl) ?_
  by_cases e0 : w = 0
  · subst e0
    refine lv_tableIn (tgt := 36) hx hb dX10_count_6 (by decide) (by decide) rfl (by decide) ?_
    have hr9 : r = nI Q.length := by rw [← hr9]; unfold zN; rw [if_pos rfl]
    subst hr9
    refine lv_aload_n hx hb dX10_count_36 rfl (lv_at hl 0 rfl) ?_
    refine va_get (D := D) (C := RX10) (T := TX10) (N := 15) hx hb (uc_10 hk.1 _) (fun _ h9 => h9) hown hK hP 0 rfl rfl 1 (by decide) (fl_X10_42 hk.1 _) (fun _ h9 => h9) rfl dX10_count_37 ?_
    exact rf_ C hrt hlocks rfl hF hP hS dX10_count_40
  · by_cases e1 : w = 1
    · subst e1
      refine lv_tableIn (tgt := 41) hx hb dX10_count_6 (by decide) (by decide) rfl (by decide) ?_
      have hr9 : r = nI t.1 := by rw [← hr9]; unfold zN; rw [if_neg (by decide), if_pos rfl]
      subst hr9
      refine lv_aload_n hx hb dX10_count_41 rfl (lv_at hl 0 rfl) ?_
      refine va_get (D := D) (C := RX10) (T := TX10) (N := 15) hx hb (uc_10 hk.1 _) (fun _ h9 => h9) hown hK hP 0 rfl rfl 11 (by decide) (fl_X10_49 hk.1 _) (fun _ h9 => h9) rfl dX10_count_42 ?_
      exact rf_ C hrt hlocks rfl hF hP hS dX10_count_45
    · by_cases e2 : w = 2
      · subst e2
        refine lv_tableIn (tgt := 46) hx hb dX10_count_6 (by decide) (by decide) rfl (by decide) ?_
        have hr9 : r = t.2.2.1 := by rw [← hr9]; unfold zN; rw [if_neg (by decide), if_neg (by decide), if_pos rfl]
        subst hr9
        refine lv_aload_n hx hb dX10_count_46 rfl (lv_at hl 0 rfl) ?_
        refine va_get (D := D) (C := RX10) (T := TX10) (N := 15) hx hb (uc_10 hk.1 _) (fun _ h9 => h9) hown hK hP 0 rfl rfl 12 (by decide) (fl_X10_55 hk.1 _) (fun _ h9 => h9) rfl dX10_count_47 ?_
        exact rf_ C hrt hlocks rfl hF hP hS dX10_count_50
      · by_cases e3 : w = 3
        · subst e3
          refine lv_tableIn (tgt := 51) hx hb dX10_count_6 (by decide) (by decide) rfl (by decide) ?_
          have hr9 : r = t.2.2.2 := by rw [← hr9]; unfold zN; rw [if_neg (by decide), if_neg (by decide), if_neg (by decide), if_pos rfl]
          subst hr9
          refine lv_aload_n hx hb dX10_count_51 rfl (lv_at hl 0 rfl) ?_
          refine va_get (D := D) (C := RX10) (T := TX10) (N := 15) hx hb (uc_10 hk.1 _) (fun _ h9 => h9) hown hK hP 0 rfl rfl 13 (by decide) (fl_X10_69 hk.1 _) (fun _ h9 => h9) rfl dX10_count_52 ?_
          exact rf_ C hrt hlocks rfl hF hP hS dX10_count_55
        · refine lv_tableOut (tgt := 56) hx hb dX10_count_6 (tb_out (n := 3) (by decide) (fun k hk => ?_)) (by decide) ?_
          · rcases (by omega : k = 0 ∨ k = 1 ∨ k = 2 ∨ k = 3) with rfl | rfl | rfl | rfl
            · exact e0
            · exact e1
            · exact e2
            · exact e3
          · have hr9 : r = -102 := by rw [← hr9]; unfold zN; rw [if_neg e0, if_neg e1, if_neg e2, if_neg e3]
            subst hr9
            refine lv_bipush (v := (-102)) hx hb dX10_count_56 (by decide) ?_
            exact rf_ C hrt hlocks rfl hF hP hS dX10_count_58

theorem tA_in {t : Tr} {j : Nat} (ht : t.1 ≤ 2147483647) (h : j < min t.1 200) : tA t (nI j) = t.2.1 ((t.1 - 1 - j) % 200) ∧ nI t.1 - 1 - nI j = nI (t.1 - 1 - j) := by
  have hj : j < 2 ^ 31 := by omega
  constructor
  · unfold tA
    rw [if_neg, nI_clamp hj]
    rintro (h9 | h9)
    · exact nI_pos hj h9
    · rw [nI_leI (by omega) hj] at h9; omega
  · obtain ⟨k, hk⟩ : ∃ k, t.1 = k + 1 + j := ⟨t.1 - 1 - j, by omega⟩
    rw [hk, show k + 1 + j - 1 - j = k by omega, show k + 1 + j = (k + j) + 1 by omega, nI_pred, ← nI_add, Int32.add_sub_cancel]
theorem tA_t {n : Nat} {x : Int32} (hn : n ≤ 200) (h : rng 0 (nI n - 1) x = true) : ∃ j, j < n ∧ x = nI j := by
  obtain ⟨h1, h2⟩ := rng_le h
  obtain ⟨j, hj, rfl⟩ := nI_of (Int32.not_lt.mpr h1)
  cases n with
  | zero => exact absurd (Int32.le_trans h1 h2) (by decide +kernel)
  | succ k =>
    rw [nI_pred, nI_leI hj (by omega)] at h2
    exact ⟨j, by omega, rfl⟩
theorem tA_f {t : Tr} {x : Int32} (h : rng 0 (nI (min t.1 200) - 1) x = false) : tA t x = -101 := by
  unfold tA
  refine if_pos (Decidable.byContradiction fun h9 => ?_)
  have h1 : ¬ x < 0 := fun h => h9 (Or.inl h)
  have h2 : ¬ nI (min t.1 200) ≤ x := fun h => h9 (Or.inr h)
  obtain ⟨j, hj, rfl⟩ := nI_of h1
  rw [nI_leI (by omega) hj] at h2
  obtain ⟨k, hk⟩ : ∃ k, min t.1 200 = k + 1 := ⟨min t.1 200 - 1, by omega⟩
  rw [hk, nI_pred] at h
  unfold rng at h
  rw [decide_eq_true (nI_pos' hj), decide_eq_true ((nI_leI hj (by omega)).mpr (by omega))] at h
  cases h

set_option maxHeartbeats 4000000 in
set_option maxRecDepth 100000 in
theorem N_trace (l : Launch) (D : va_G) (ca : Nat → ClassId) (sa : Nat → Nat) (lo : Nat) (ya : Nat → Nat) (F : Nat → Pd) (Q : List Pd) (cd fl : Int32) (t : Tr) (hok : okQ Q) (hF : RQ F Q) (ht : t.1 + 1 ≤ 2147483648) (x : Int32) (sz : Nat) : Met l yX10_trace [.code yX10_trace cX10_trace 3 (some .int)] ({ frames := 1, cells := 0, slots := 0, locals := 30 }) (PX D ca sa lo sz [.ref (ya 0), .int x] (wm ca ya F Q.length cd fl t)) (QF D ca ya (tA t x) 0 Q t (va_A (wm ca ya F Q.length cd fl t) sz)) 0 0 (va_A (wm ca ya F Q.length cd fl t) sz) := by
  generalize hr9 : tA t x = r
  refine mk_met (fun A => QF D ca ya r 0 Q t A) (by decide) (Nat.le_of_ble_eq_true rfl) ?_
  intro p e s m below meth c A ls C hrt hlocks hnm hsz hP hD hS hl
  obtain ⟨hx, hb, hml, hown, hk, hz, hlo, hA, hAl⟩ := id C
  have hK : va_K D cls (tyl ca) s := hk.2.1
  have hl : lv_has ls 3 [(0, .ref (ya 0)), (1, .int x)] := hl
  refine lv_aload_n hx hb dX10_trace_0 rfl (lv_at hl 0 rfl) ?_
  refine lv_iconst (v := 0) hx hb dX10_trace_1 (by decide) ?_
  refine va_put (D := D) (v := .int 0) (ty := .int) (C := RX10) (T := TX10) (N := 15) hx hb (uc_10 hk.1 _) (fun _ h9 => h9) tyX10 tyX10_ok nmX10 hown hK hP hD hS 0 rfl rfl 0 (by decide) (fl_X10_38 hk.1 _) (fun _ h9 => h9) rfl (by decide +kernel) rfl rfl (Nat.le_of_ble_eq_true rfl) dX10_trace_2 (fun H locs hP hD hS => ?_)
  have hP : va_P D cls (wm ca ya F Q.length 0 fl t) H := hP
  have hD : va_D A (wm ca ya F Q.length 0 fl t) := hD
  refine lv_aload_n hx hb dX10_trace_5 rfl (lv_at hl 0 rfl) ?_
  refine va_get (D := D) (C := RX10) (T := TX10) (N := 15) hx hb (uc_10 hk.1 _) (fun _ h9 => h9) hown hK hP 0 rfl rfl 11 (by decide) (fl_X10_49 hk.1 _) (fun _ h9 => h9) rfl dX10_trace_6 ?_
  refine lv_sipush (v := 200) hx hb dX10_trace_9 (by decide) ?_
  refine lv_icmp_ge (tgt := 22) hx hb dX10_trace_12 (by decide) (fun c_1 => ?_) (fun c_1 => ?_)
  · have hmn : (200 : Int32) = nI (min t.1 200) := by rw [Nat.min_eq_right ((nI_leI (a := 200) (by decide) (by omega)).mp c_1)]; rfl
    refine lv_sipush (v := 200) hx hb dX10_trace_22 (by decide) ?_
    rw [hmn]
    refine lv_istore_n (lv' := [(2, .int (nI (min t.1 200))), (0, .ref (ya 0)), (1, .int x)]) hx hb dX10_trace_25 rfl hl (by decide) rfl (fun ls hl => ?_)
    refine lv_iload_n hx hb dX10_trace_26 rfl (lv_at hl 2 rfl) ?_
    refine lv_iconst (v := 0) hx hb dX10_trace_27 (by decide) ?_
    refine lv_iload_n hx hb dX10_trace_28 rfl (lv_at hl 0 rfl) ?_
    refine lv_iconst (v := 1) hx hb dX10_trace_29 (by decide) ?_
    refine lv_isub hx hb dX10_trace_30 ?_
    refine k_num (n := 3) C (n_isIn l D ca sa lo x 0 ((nI (min t.1 200)) - 1)) (fun U A9 h => co_X10_isIn h A9) (in_X10 hk.1 _) (ml_X10_45 hk.1 _) (st_X10_isIn hk.1 _) (by decide +kernel) ⟨⟨rfl, rfl⟩, by decide, by decide⟩ hP hS rfl hl.1 rfl (Nat.le_of_ble_eq_true rfl) dX10_trace_31 ⟨by decide, by decide⟩ (fun H locs hP hS _ _ => ?_)
    refine lv_if_eq (tgt := 57) hx hb dX10_trace_34 (by decide) (fun c_2 => ?_) (fun c_2 => ?_)
    · have hr9 : r = -101 := by rw [← hr9]; exact tA_f (bi_eq0 c_2)
      subst hr9
      refine lv_bipush (v := (-101)) hx hb dX10_trace_57 (by decide) ?_
      exact rf_ C hrt hlocks rfl hF hP hS dX10_trace_59
    · obtain ⟨j, hj, rfl⟩ := tA_t (Nat.min_le_right _ _) (bi_ne0 c_2)
      obtain ⟨hA1, hA2⟩ := tA_in (by omega) hj
      have hr9 : r = t.2.1 ((t.1 - 1 - j) % 200) := hr9.symm.trans hA1
      subst hr9
      refine lv_aload_n hx hb dX10_trace_37 rfl (lv_at hl 1 rfl) ?_
      refine va_get (D := D) (C := RX10) (T := TX10) (N := 15) hx hb (uc_10 hk.1 _) (fun _ h9 => h9) hown hK hP 0 rfl rfl 10 (by decide) (fl_X10_35 hk.1 _) (fun _ h9 => h9) rfl dX10_trace_38 ?_
      refine lv_aload_n hx hb dX10_trace_41 rfl (lv_at hl 1 rfl) ?_
      refine va_get (D := D) (C := RX10) (T := TX10) (N := 15) hx hb (uc_10 hk.1 _) (fun _ h9 => h9) hown hK hP 0 rfl rfl 11 (by decide) (fl_X10_49 hk.1 _) (fun _ h9 => h9) rfl dX10_trace_42 ?_
      refine lv_iconst (v := 1) hx hb dX10_trace_45 (by decide) ?_
      refine lv_isub hx hb dX10_trace_46 ?_
      refine lv_iload_n hx hb dX10_trace_47 rfl (lv_at hl 2 rfl) ?_
      refine lv_isub hx hb dX10_trace_48 ?_
      refine lv_sipush (v := 200) hx hb dX10_trace_49 (by decide) ?_
      refine lv_irem hx hb dX10_trace_52 (by decide) ?_
      rw [hA2, r200 (by omega)]
      refine va_iald hx hb hK hP 9 0 rfl rfl (vp_in_nI (Nat.mod_lt _ (by decide)) (by decide)) dX10_trace_53 ?_
      rw [nI_clamp (by omega)]
      refine lv_goto (tgt := 59) hx hb dX10_trace_54 (by decide) ?_
      exact rf_ C hrt hlocks rfl hF hP hS dX10_trace_59
  · have hmn : nI t.1 = nI (min t.1 200) := by rw [Nat.min_eq_left (Nat.le_of_not_le (fun h9 => c_1 (nI_le (a := 200) h9 (by omega))))]
    refine lv_aload_n hx hb dX10_trace_15 rfl (lv_at hl 0 rfl) ?_
    refine va_get (D := D) (C := RX10) (T := TX10) (N := 15) hx hb (uc_10 hk.1 _) (fun _ h9 => h9) hown hK hP 0 rfl rfl 11 (by decide) (fl_X10_49 hk.1 _) (fun _ h9 => h9) rfl dX10_trace_16 ?_
    refine lv_goto (tgt := 25) hx hb dX10_trace_19 (by decide) ?_
    rw [hmn]
    refine lv_istore_n (lv' := [(2, .int (nI (min t.1 200))), (0, .ref (ya 0)), (1, .int x)]) hx hb dX10_trace_25 rfl hl (by decide) rfl (fun ls hl => ?_)
    refine lv_iload_n hx hb dX10_trace_26 rfl (lv_at hl 2 rfl) ?_
    refine lv_iconst (v := 0) hx hb dX10_trace_27 (by decide) ?_
    refine lv_iload_n hx hb dX10_trace_28 rfl (lv_at hl 0 rfl) ?_
    refine lv_iconst (v := 1) hx hb dX10_trace_29 (by decide) ?_
    refine lv_isub hx hb dX10_trace_30 ?_
    refine k_num (n := 3) C (n_isIn l D ca sa lo x 0 ((nI (min t.1 200)) - 1)) (fun U A9 h => co_X10_isIn h A9) (in_X10 hk.1 _) (ml_X10_45 hk.1 _) (st_X10_isIn hk.1 _) (by decide +kernel) ⟨⟨rfl, rfl⟩, by decide, by decide⟩ hP hS rfl hl.1 rfl (Nat.le_of_ble_eq_true rfl) dX10_trace_31 ⟨by decide, by decide⟩ (fun H locs hP hS _ _ => ?_)
    refine lv_if_eq (tgt := 57) hx hb dX10_trace_34 (by decide) (fun c_3 => ?_) (fun c_3 => ?_)
    · have hr9 : r = -101 := by rw [← hr9]; exact tA_f (bi_eq0 c_3)
      subst hr9
      refine lv_bipush (v := (-101)) hx hb dX10_trace_57 (by decide) ?_
      exact rf_ C hrt hlocks rfl hF hP hS dX10_trace_59
    · obtain ⟨j, hj, rfl⟩ := tA_t (Nat.min_le_right _ _) (bi_ne0 c_3)
      obtain ⟨hA1, hA2⟩ := tA_in (by omega) hj
      have hr9 : r = t.2.1 ((t.1 - 1 - j) % 200) := hr9.symm.trans hA1
      subst hr9
      refine lv_aload_n hx hb dX10_trace_37 rfl (lv_at hl 1 rfl) ?_
      refine va_get (D := D) (C := RX10) (T := TX10) (N := 15) hx hb (uc_10 hk.1 _) (fun _ h9 => h9) hown hK hP 0 rfl rfl 10 (by decide) (fl_X10_35 hk.1 _) (fun _ h9 => h9) rfl dX10_trace_38 ?_
      refine lv_aload_n hx hb dX10_trace_41 rfl (lv_at hl 1 rfl) ?_
      refine va_get (D := D) (C := RX10) (T := TX10) (N := 15) hx hb (uc_10 hk.1 _) (fun _ h9 => h9) hown hK hP 0 rfl rfl 11 (by decide) (fl_X10_49 hk.1 _) (fun _ h9 => h9) rfl dX10_trace_42 ?_
      refine lv_iconst (v := 1) hx hb dX10_trace_45 (by decide) ?_
      refine lv_isub hx hb dX10_trace_46 ?_
      refine lv_iload_n hx hb dX10_trace_47 rfl (lv_at hl 2 rfl) ?_
      refine lv_isub hx hb dX10_trace_48 ?_
      refine lv_sipush (v := 200) hx hb dX10_trace_49 (by decide) ?_
      refine lv_irem hx hb dX10_trace_52 (by decide) ?_
      rw [hA2, r200 (by omega)]
      refine va_iald hx hb hK hP 9 0 rfl rfl (vp_in_nI (Nat.mod_lt _ (by decide)) (by decide)) dX10_trace_53 ?_
      rw [nI_clamp (by omega)]
      refine lv_goto (tgt := 59) hx hb dX10_trace_54 (by decide) ?_
      exact rf_ C hrt hlocks rfl hF hP hS dX10_trace_59
