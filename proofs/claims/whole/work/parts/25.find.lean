theorem rng_f1 {a b x : Int32} (h : x < a) : (0 : Int32) = bi (rng a b x) := by unfold rng; rw [decide_eq_false (Int32.not_le.mpr h)]; rfl
theorem rng_f2 {a b x : Int32} (h1 : ¬ x < a) (h : b < x) : (0 : Int32) = bi (rng a b x) := by unfold rng; rw [decide_eq_true (Int32.not_lt.mp h1), decide_eq_false (Int32.not_le.mpr h)]; rfl
theorem rng_t {a b x : Int32} (h1 : ¬ x < a) (h2 : ¬ b < x) : (1 : Int32) = bi (rng a b x) := by unfold rng; rw [decide_eq_true (Int32.not_lt.mp h1), decide_eq_true (Int32.not_lt.mp h2)]; rfl

set_option maxHeartbeats 4000000 in
set_option maxRecDepth 100000 in
theorem m_isKind (l : Launch) (D : va_G) (ca : Nat → ClassId) (sa : Nat → Nat) (lo : Nat) (x : Int32) (sz : Nat) : Met l yX9_isKind [.code yX9_isKind cX9_isKind 1 (some .boolean)] ({ frames := 0, cells := 0, slots := 0, locals := 0 }) (PX D ca sa lo sz [.int x] []) (QI D (bi (rng 0 7 x)) [] (va_A [] sz)) 0 0 (va_A [] sz) := by
  refine mk_met (fun A => QI D (bi (rng 0 7 x)) [] A) (by decide) (Nat.le_of_ble_eq_true rfl) ?_
  intro p e s m below meth c A ls C hrt hlocks hnm hsz hP hD hS hl
  obtain ⟨hx, hb, hml, hown, hk, hz, hlo, hA, hAl⟩ := id C
  have hK : va_K D cls (tyl ca) s := hk.2.1
  have hl : lv_has ls 1 [(0, .int x)] := hl
  refine lv_iload_n hx hb dX9_isKind_0 rfl (lv_at hl 0 rfl) ?_
  refine lv_if_lt (tgt := 14) hx hb dX9_isKind_1 (by decide) (fun c_1 => ?_) (fun c_1 => ?_)
  · refine lv_iconst (v := 0) hx hb dX9_isKind_14 (by decide) ?_
    exact rz C hrt hlocks (rng_f1 c_1) hP hS dX9_isKind_15
  · refine lv_iload_n hx hb dX9_isKind_4 rfl (lv_at hl 0 rfl) ?_
    refine lv_bipush (v := 7) hx hb dX9_isKind_5 (by decide) ?_
    refine lv_icmp_gt (tgt := 14) hx hb dX9_isKind_7 (by decide) (fun c_2 => ?_) (fun c_2 => ?_)
    · refine lv_iconst (v := 0) hx hb dX9_isKind_14 (by decide) ?_
      exact rz C hrt hlocks (rng_f2 c_1 c_2) hP hS dX9_isKind_15
    · refine lv_iconst (v := 1) hx hb dX9_isKind_10 (by decide) ?_
      refine lv_goto (tgt := 15) hx hb dX9_isKind_11 (by decide) ?_
      exact rz C hrt hlocks (rng_t c_1 c_2) hP hS dX9_isKind_15

set_option maxHeartbeats 4000000 in
set_option maxRecDepth 100000 in
theorem m_isZone (l : Launch) (D : va_G) (ca : Nat → ClassId) (sa : Nat → Nat) (lo : Nat) (x : Int32) (sz : Nat) : Met l yX9_isZone [.code yX9_isZone cX9_isZone 1 (some .boolean)] ({ frames := 0, cells := 0, slots := 0, locals := 0 }) (PX D ca sa lo sz [.int x] []) (QI D (bi (rng 0 5 x)) [] (va_A [] sz)) 0 0 (va_A [] sz) := by
  refine mk_met (fun A => QI D (bi (rng 0 5 x)) [] A) (by decide) (Nat.le_of_ble_eq_true rfl) ?_
  intro p e s m below meth c A ls C hrt hlocks hnm hsz hP hD hS hl
  obtain ⟨hx, hb, hml, hown, hk, hz, hlo, hA, hAl⟩ := id C
  have hK : va_K D cls (tyl ca) s := hk.2.1
  have hl : lv_has ls 1 [(0, .int x)] := hl
  refine lv_iload_n hx hb dX9_isZone_0 rfl (lv_at hl 0 rfl) ?_
  refine lv_if_lt (tgt := 13) hx hb dX9_isZone_1 (by decide) (fun c_1 => ?_) (fun c_1 => ?_)
  · refine lv_iconst (v := 0) hx hb dX9_isZone_13 (by decide) ?_
    exact rz C hrt hlocks (rng_f1 c_1) hP hS dX9_isZone_14
  · refine lv_iload_n hx hb dX9_isZone_4 rfl (lv_at hl 0 rfl) ?_
    refine lv_iconst (v := 5) hx hb dX9_isZone_5 (by decide) ?_
    refine lv_icmp_gt (tgt := 13) hx hb dX9_isZone_6 (by decide) (fun c_2 => ?_) (fun c_2 => ?_)
    · refine lv_iconst (v := 0) hx hb dX9_isZone_13 (by decide) ?_
      exact rz C hrt hlocks (rng_f2 c_1 c_2) hP hS dX9_isZone_14
    · refine lv_iconst (v := 1) hx hb dX9_isZone_9 (by decide) ?_
      refine lv_goto (tgt := 14) hx hb dX9_isZone_10 (by decide) ?_
      exact rz C hrt hlocks (rng_t c_1 c_2) hP hS dX9_isZone_14

set_option maxHeartbeats 4000000 in
set_option maxRecDepth 100000 in
theorem m_isNear (l : Launch) (D : va_G) (ca : Nat → ClassId) (sa : Nat → Nat) (lo : Nat) (x : Int32) (sz : Nat) : Met l yX9_isNear [.code yX9_isNear cX9_isNear 1 (some .boolean)] ({ frames := 0, cells := 0, slots := 0, locals := 0 }) (PX D ca sa lo sz [.int x] []) (QI D (bi (rng (-10000) 10000 x)) [] (va_A [] sz)) 0 0 (va_A [] sz) := by
  refine mk_met (fun A => QI D (bi (rng (-10000) 10000 x)) [] A) (by decide) (Nat.le_of_ble_eq_true rfl) ?_
  intro p e s m below meth c A ls C hrt hlocks hnm hsz hP hD hS hl
  obtain ⟨hx, hb, hml, hown, hk, hz, hlo, hA, hAl⟩ := id C
  have hK : va_K D cls (tyl ca) s := hk.2.1
  have hl : lv_has ls 1 [(0, .int x)] := hl
  refine lv_iload_n hx hb dX9_isNear_0 rfl (lv_at hl 0 rfl) ?_
  refine lv_sipush (v := (-10000)) hx hb dX9_isNear_1 (by decide) ?_
  refine lv_icmp_lt (tgt := 18) hx hb dX9_isNear_4 (by decide) (fun c_1 => ?_) (fun c_1 => ?_)
  · refine lv_iconst (v := 0) hx hb dX9_isNear_18 (by decide) ?_
    exact rz C hrt hlocks (rng_f1 c_1) hP hS dX9_isNear_19
  · refine lv_iload_n hx hb dX9_isNear_7 rfl (lv_at hl 0 rfl) ?_
    refine lv_sipush (v := 10000) hx hb dX9_isNear_8 (by decide) ?_
    refine lv_icmp_gt (tgt := 18) hx hb dX9_isNear_11 (by decide) (fun c_2 => ?_) (fun c_2 => ?_)
    · refine lv_iconst (v := 0) hx hb dX9_isNear_18 (by decide) ?_
      exact rz C hrt hlocks (rng_f2 c_1 c_2) hP hS dX9_isNear_19
    · refine lv_iconst (v := 1) hx hb dX9_isNear_14 (by decide) ?_
      refine lv_goto (tgt := 19) hx hb dX9_isNear_15 (by decide) ?_
      exact rz C hrt hlocks (rng_t c_1 c_2) hP hS dX9_isNear_19

set_option maxHeartbeats 4000000 in
set_option maxRecDepth 100000 in
theorem m_isCharge (l : Launch) (D : va_G) (ca : Nat → ClassId) (sa : Nat → Nat) (lo : Nat) (x : Int32) (sz : Nat) : Met l yX9_isCharge [.code yX9_isCharge cX9_isCharge 1 (some .boolean)] ({ frames := 0, cells := 0, slots := 0, locals := 0 }) (PX D ca sa lo sz [.int x] []) (QI D (bi (rng 0 100 x)) [] (va_A [] sz)) 0 0 (va_A [] sz) := by
  refine mk_met (fun A => QI D (bi (rng 0 100 x)) [] A) (by decide) (Nat.le_of_ble_eq_true rfl) ?_
  intro p e s m below meth c A ls C hrt hlocks hnm hsz hP hD hS hl
  obtain ⟨hx, hb, hml, hown, hk, hz, hlo, hA, hAl⟩ := id C
  have hK : va_K D cls (tyl ca) s := hk.2.1
  have hl : lv_has ls 1 [(0, .int x)] := hl
  refine lv_iload_n hx hb dX9_isCharge_0 rfl (lv_at hl 0 rfl) ?_
  refine lv_if_lt (tgt := 14) hx hb dX9_isCharge_1 (by decide) (fun c_1 => ?_) (fun c_1 => ?_)
  · refine lv_iconst (v := 0) hx hb dX9_isCharge_14 (by decide) ?_
    exact rz C hrt hlocks (rng_f1 c_1) hP hS dX9_isCharge_15
  · refine lv_iload_n hx hb dX9_isCharge_4 rfl (lv_at hl 0 rfl) ?_
    refine lv_bipush (v := 100) hx hb dX9_isCharge_5 (by decide) ?_
    refine lv_icmp_gt (tgt := 14) hx hb dX9_isCharge_7 (by decide) (fun c_2 => ?_) (fun c_2 => ?_)
    · refine lv_iconst (v := 0) hx hb dX9_isCharge_14 (by decide) ?_
      exact rz C hrt hlocks (rng_f2 c_1 c_2) hP hS dX9_isCharge_15
    · refine lv_iconst (v := 1) hx hb dX9_isCharge_10 (by decide) ?_
      refine lv_goto (tgt := 15) hx hb dX9_isCharge_11 (by decide) ?_
      exact rz C hrt hlocks (rng_t c_1 c_2) hP hS dX9_isCharge_15

set_option maxHeartbeats 4000000 in
set_option maxRecDepth 100000 in
theorem m_find (l : Launch) (D : va_G) (ca : Nat → ClassId) (sa : Nat → Nat) (lo : Nat) (x0 da ht hr : Nat) (L : List Nat) (Q : List Pd) (t : Tr) (hok : okP L Q) (x : Int32) (sz : Nat) : Met l yX9_find [.code yX9_find cX9_find 2 (some (.object "AlarmKinds$Plain"))] ({ frames := 0, cells := 0, slots := 0, locals := 0 }) (PX D ca sa lo sz [.ref x0, .int x] (wx ca x0 da ht hr L Q t)) (QQ D ((ix Q x).bind (fun i => L[i]?)) (wx ca x0 da ht hr L Q t) (va_A (wx ca x0 da ht hr L Q t) sz)) 0 0 (va_A (wx ca x0 da ht hr L Q t) sz) := by
  refine mk_met (fun A => QQ D ((ix Q x).bind (fun i => L[i]?)) (wx ca x0 da ht hr L Q t) A) (by decide) (Nat.le_of_ble_eq_true rfl) ?_
  intro p e s m below meth c A ls C hrt hlocks hnm hsz hP hD hS hl
  obtain ⟨hx, hb, hml, hown, hk, hz, hlo, hA, hAl⟩ := id C
  have hK : va_K D cls (tyl ca) s := hk.2.1
  have hl : lv_has ls 2 [(0, .ref x0), (1, .int x)] := hl
  refine lv_iload_n hx hb dX9_find_0 rfl (lv_at hl 1 rfl) ?_
  refine lv_if_lt (tgt := 21) hx hb dX9_find_1 (by decide) (fun c_1 => ?_) (fun c_1 => ?_)
  · refine lv_null hx hb dX9_find_21 ?_
    exact rq_ C hrt hlocks (show Value.null = va_rf ((ix Q x).bind (fun i => L[i]?)) by rw [ix, if_pos (Or.inl c_1)]; rfl) hP hS dX9_find_22
  · refine lv_iload_n hx hb dX9_find_4 rfl (lv_at hl 1 rfl) ?_
    refine lv_aload_n hx hb dX9_find_5 rfl (lv_at hl 0 rfl) ?_
    refine va_get (D := D) (C := RX9) (T := TX9) (N := 3) hx hb (uc_9 hk.1 _) (fun _ h9 => h9) hown hK hP 0 rfl rfl 2 (by decide) (fl_X9_22 hk.1 _) (fun _ h9 => h9) rfl dX9_find_6 ?_
    refine lv_icmp_ge (tgt := 21) hx hb dX9_find_9 (by decide) (fun c_2 => ?_) (fun c_2 => ?_)
    · refine lv_null hx hb dX9_find_21 ?_
      exact rq_ C hrt hlocks (show Value.null = va_rf ((ix Q x).bind (fun i => L[i]?)) by rw [ix, if_pos (Or.inr (by rw [← hok.1]; exact c_2))]; rfl) hP hS dX9_find_22
    · have hi : ¬ (x < 0 ∨ nI Q.length ≤ x) := fun h => h.elim c_1 (by rw [← hok.1]; exact c_2)
      have hix : ix Q x = some x.toNatClampNeg := if_neg hi
      obtain ⟨hj, hxj⟩ := ix_some hok.2.1 hix
      have hin : vp_in x 20 := by rw [hxj]; exact vp_in_nI (by have := hok.2.1; omega) (by decide)
      refine lv_iload_n hx hb dX9_find_12 rfl (lv_at hl 1 rfl) ?_
      refine lv_aload_n hx hb dX9_find_13 rfl (lv_at hl 0 rfl) ?_
      refine va_get (D := D) (C := RX9) (T := TX9) (N := 3) hx hb (uc_9 hk.1 _) (fun _ h9 => h9) hown hK hP 0 rfl rfl 0 (by decide) (fl_X9_11 hk.1 _) (fun _ h9 => h9) rfl dX9_find_14 ?_
      refine va_alen hx hb hK hP 1 1 rfl rfl (v := 20) rfl dX9_find_17 ?_
      refine lv_icmp_lt (tgt := 23) hx hb dX9_find_18 (by decide) (fun _ => ?_) (fun c_3 => absurd ((show x < 20 by rw [hxj]; exact nI_lt (b := 20) (by have := hok.2.1; omega) (by decide))) c_3)
      refine lv_aload_n hx hb dX9_find_23 rfl (lv_at hl 0 rfl) ?_
      refine va_get (D := D) (C := RX9) (T := TX9) (N := 3) hx hb (uc_9 hk.1 _) (fun _ h9 => h9) hown hK hP 0 rfl rfl 0 (by decide) (fl_X9_11 hk.1 _) (fun _ h9 => h9) rfl dX9_find_24 ?_
      refine lv_iload_n hx hb dX9_find_27 rfl (lv_at hl 1 rfl) ?_
      refine va_aldq hx hb hK hP 1 1 rfl rfl hin dX9_find_28 ?_
      exact rq_ C hrt hlocks (show va_rf (L[x.toNatClampNeg]?) = va_rf ((ix Q x).bind (fun i => L[i]?)) by rw [hix]; rfl) hP hS dX9_find_29

section KFI
variable {D : va_G} {ca : Nat → ClassId} {sa : Nat → Nat} {lo : Nat} {p : Program} {l : Launch} {e : Env} {R : Room} {s : State} {m : MethodId} {args : Array Value} {below : List Frame} {meth : Method} {c : Code} {cc : ByteArray} {nL : Nat} {A : Nat → Prop} {H : Heap} {locs : List Loc} {cells slots : Nat} {Q9 : State → Prop} {ls : Array Slot} {pc : Nat} {rest : List Value}
variable {x0 da ht hr : Nat} {L : List Nat} {Q : List Pd} {t : Tr} {x zn : Int32}
theorem at_of {i : Nat} (hok : okP L Q) (hi : i < Q.length) : ∃ a pd, L[i]? = some a ∧ Q[i]? = some pd ∧ pd.1 < 8 := by
  have h1 : i < L.length := by rw [hok.1]; exact hi
  exact ⟨L[i], Q[i], List.getElem?_eq_getElem h1, List.getElem?_eq_getElem hi, hok.2.2 _ (List.getElem_mem hi)⟩
theorem k_find (hok : okP L Q) (C : Cx D ca sa lo p s m c cc nL RX9 A) (hP : va_P D cls (wx ca x0 da ht hr L Q t) H) (hD : va_D A (wx ca x0 da ht hr L Q t)) (hS : va_S A s.heap H locs) (hsize : ls.size = nL) (hR : 1 ≤ R.frames ∧ 21 ≤ R.locals) (hW : (rest.map fun v => v.category).sum ≤ 8) (hdg : decode cc pc = .ok (.invokevirtual 43, 3)) (hf : cells ≤ R.cells ∧ slots ≤ R.slots)
    (kn : ix Q x = none → ∀ (H1 : Heap) (locs1 : List Loc), va_P D cls (wx ca x0 da ht hr L Q t) H1 → va_S A s.heap H1 locs1 → W p l e R s m args below meth c H1 locs1 cells slots Q9 (F0 m (pc + 3) ls (.null :: rest)))
    (ks : ∀ (i a : Nat) (pd : Pd), ix Q x = some i → i < Q.length → x = nI i → L[i]? = some a → Q[i]? = some pd → pd.1 < 8 → ∀ (H1 : Heap) (locs1 : List Loc), va_P D cls (wx ca x0 da ht hr L Q t) H1 → va_S A s.heap H1 locs1 → W p l e R s m args below meth c H1 locs1 cells slots Q9 (F0 m (pc + 3) ls (.ref a :: rest))) :
    W p l e R s m args below meth c H locs cells slots Q9 (F0 m pc ls (.int x :: .ref x0 :: rest)) := by
  have hk := C.2.2.2.2.1
  have hfr := fr_of C hD hS
  refine va_callq (run_V (Cn := RX9) (T := TX9) (N := 3) (q0 := 0) (ci := 9) (n := 1) (As := [.int x]) (rest := rest) C (m_find l D ca sa lo x0 da ht hr L Q t hok x H.size) (fun U A9 h => co_X9_find h A9) (in_X9 hk.1 _) (ml_X9_43 hk.1 _) (im_X9_find hk.1 _) (se_X9_X9_find hk.1 _) (by decide +kernel) ⟨⟨rfl, rfl⟩, hR.1, hR.2⟩ hP hD hS rfl rfl rfl hsize rfl hW hdg hf) hS (fun q _ h => hfr q h) hfr (fun r u t1 H1 locs1 ht1 hvm hp hB hz1 hk1 hS1 => ?_)
  subst ht1
  cases h : ix Q x with
  | none =>
    rw [h] at hp
    cases hp
    exact kn h _ _ hB hS1
  | some i =>
    obtain ⟨hj, hxj⟩ := ix_some hok.2.1 h
    obtain ⟨a, pd, h1, h2, h3⟩ := at_of hok hj
    rw [h] at hp
    have hp : r = L[i]? := hp
    rw [h1] at hp
    subst hp
    exact ks i a pd h hj hxj h1 h2 h3 _ _ hB hS1
end KFI
