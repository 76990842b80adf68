theorem RA_eq {U : State} {a b : ClassId} {ty : FieldType} (h1 : va_RA U a ty) (h2 : va_RA U b ty) : a = b := by
  cases ty with
  | object C =>
    obtain ⟨_, _, _, _, _, h1⟩ := h1
    obtain ⟨_, _, _, _, _, h2⟩ := h2
    exact Option.some.inj (h1.symm.trans h2)
  | _ => exact Option.some.inj (Eq.trans (Eq.symm (show _ = some a from h1)) h2)
theorem ca_eq {D : va_G} {ca : Nat → ClassId} {U : State} {cA x : ClassId} {ty : FieldType} (i : Nat) (hK : va_K D cls (tyl ca ++ [(cA, ty)]) U) (hi : (tyl ca)[i]? = some (x, ty)) : cA = x := by
  have h1 := (hK.2 4 (cA, ty) rfl).2
  have h2 := (hK.2 i (x, ty) (by rw [List.getElem?_append_left (List.getElem?_eq_some_iff.mp hi).1]; exact hi)).2
  exact RA_eq h1 h2
/-- two worlds whose cells are apart -/
def ap (w1 w2 : va_W) : Prop := ∀ (i j : Nat) (p q : Nat × va_E), w1[i]? = some p → w2[j]? = some q → p.1 ≠ q.1
theorem ap.symm {w1 w2 : va_W} (h : ap w1 w2) : ap w2 w1 := fun i j p q h1 h2 e => h j i q p h2 h1 e.symm
theorem ap.to {w1 w2 w3 : va_W} (h : ap w1 w2) (e : w3.map (·.1) = w2.map (·.1)) : ap w1 w3 := by
  intro i j p q hi hj
  have h1 : (w3.map (·.1))[j]? = some q.1 := by rw [List.getElem?_map, hj]; rfl
  rw [e, List.getElem?_map] at h1
  cases h2 : w2[j]? with
  | none => rw [h2] at h1; cases h1
  | some q' => rw [h2] at h1; rw [← Option.some.inj h1]; exact h i j p q' hi h2
section AP
variable {D : va_G} {H H1 : Heap} {A : Nat → Prop} {wr wc w1 : va_W}
theorem ap_keep (hP : va_P D cls wr H) (h : ap wr wc) (hf : ∀ q : Nat, q < H.size → ¬ va_A wc H.size q → H1[q]? = H[q]?) : va_P D cls wr H1 := by
  refine hP.kept (fun k q hk => hf q.1 (hP k q hk).lt ?_)
  rintro (⟨j, e9, hj⟩ | h9)
  · exact h k j q _ hk hj rfl
  · have := (hP k q hk).lt
    omega
theorem ap_new (hP : va_P D cls wr H) (h : ap wr wc) (hD : va_D (va_A wc H.size) w1) : ap wr w1 := by
  intro i j p q hi hj e
  rcases hD.2 j q hj with ⟨k, e9, hk⟩ | h9
  · exact h i k p _ hi hk e
  · have := (hP i p hi).lt
    omega
theorem ap_of (h : va_D A (wr ++ wc)) : ap wr wc := by
  intro i j p q hi hj e
  have hl := (List.getElem?_eq_some_iff.mp hi).1
  have := h.1 i (wr.length + j) p q (by rw [List.getElem?_append_left hl]; exact hi) (by rw [List.getElem?_append_right (by omega), Nat.add_sub_cancel_left]; exact hj) e
  omega
theorem P_l (h : va_P D cls (wr ++ wc) H) : va_P D cls wr H := fun k q hk => h k q (by rw [List.getElem?_append_left (List.getElem?_eq_some_iff.mp hk).1]; exact hk)
theorem D_l (h : va_D A (wr ++ wc)) : va_D A wr := by
  have e : ∀ (k : Nat) (q : Nat × va_E), wr[k]? = some q → (wr ++ wc)[k]? = some q := fun k q hk => by rw [List.getElem?_append_left (List.getElem?_eq_some_iff.mp hk).1]; exact hk
  exact ⟨fun i j p q hi hj => h.1 i j p q (e i p hi) (e j q hj), fun k q hk => h.2 k q (e k q hk)⟩
theorem P_r (h : va_P D cls (wr ++ wc) H) : va_P D cls wc H := fun k q hk => h (wr.length + k) q (by rw [List.getElem?_append_right (by omega), Nat.add_sub_cancel_left]; exact hk)
theorem D_r (h : va_D A (wr ++ wc)) : va_D A wc := by
  have e : ∀ (k : Nat) (q : Nat × va_E), wc[k]? = some q → (wr ++ wc)[wr.length + k]? = some q := fun k q hk => by rw [List.getElem?_append_right (by omega), Nat.add_sub_cancel_left]; exact hk
  refine ⟨fun i j p q hi hj hh => ?_, fun k q hk => h.2 _ q (e k q hk)⟩
  have := h.1 _ _ p q (e i p hi) (e j q hj) hh
  omega
end AP
def t0 : Tr := (0, fun _ => 0, 0, 0)
theorem wt_0 (ca : Nat → ClassId) (ht hr : Nat) : wt ca ht hr t0 = [(ht, .inr (6, [.ref hr, .int 0, .int 0, .int 0, .int 0, .int 0])), (hr, .inl (ca 0, 200, .inl (fun _ => 0)))] := by
  simp [wt, t0, nx, nI_0]
def QN {S : Type} (D : va_G) (w : S → va_W) (A : Nat → Prop) : Array Value → State → Outcome → State → Prop := va_Qv (S := S) (fun _ => True) (fun u t => va_P D cls (w u) t.heap ∧ va_D A (w u)) A
section RN
variable {D : va_G} {ca : Nat → ClassId} {sa : Nat → Nat} {lo : Nat} {p : Program} {l : Launch} {e : Env} {R : Room} {s : State} {m : MethodId} {args : Array Value} {below : List Frame} {meth : Method} {c : Code} {cc : ByteArray} {nL : Nat} {own : String} {A : Nat → Prop} {H : Heap} {locs : List Loc} {cells slots mc ms : Nat} {ls : Array Slot} {pc : Nat}
theorem rn {S : Type} (C : Cx D ca sa lo p s m c cc nL own A) (hrt : meth.sig.returnType = none) (hlocks : meth.locks = false) {w : S → va_W} (u : S) (hP : va_P D cls (w u) H) (hD : va_D A (w u)) (hS : va_S A s.heap H locs) (hdg : decode cc pc = .ok (.return_, 1)) : W p l e R s m args below meth c H locs cells slots (MQ below (QN D w A) args s cells slots A) (F0 m pc ls []) :=
  W.vret C.1 C.2.1 hrt (fun t ht hW => ⟨⟨u, rfl, trivial, by subst ht; exact hP, hD⟩, hS.F ht⟩) hS.2.2 hdg hlocks
end RN

set_option maxHeartbeats 4000000 in
set_option maxRecDepth 100000 in
theorem iTr (l : Launch) (D : va_G) (ca : Nat → ClassId) (sa : Nat → Nat) (lo : Nat) (ht : Nat) (sz : Nat) : Met l yX6_init [.code yX6_init cX6_init 1 none] ({ frames := 1, cells := 1, slots := 200, locals := 20 }) (PX D ca sa lo sz [.ref ht] [(ht, .inr (6, [.null, .int 0, .int 0, .int 0, .int 0, .int 0]))]) (QN D (fun hr => wt ca ht hr t0) (va_A [(ht, .inr (6, [.null, .int 0, .int 0, .int 0, .int 0, .int 0]))] sz)) 1 200 (va_A [(ht, .inr (6, [.null, .int 0, .int 0, .int 0, .int 0, .int 0]))] sz) := by
  refine mk_met (fun A => QN D (fun hr => wt ca ht hr t0) A) (by decide) (Nat.le_of_ble_eq_true rfl) ?_
  intro p e s m below meth c A ls C hrt hlocks hnm hsz hP hD hS hl
  obtain ⟨hx, hb, hml, hown, hk, hz, hlo, hA, hAl⟩ := id C
  have hK : va_K D cls (tyl ca) s := hk.2.1
  have hl : lv_has ls 1 [(0, .ref ht)] := hl
  have hin : meth.name = "<init>" := hnm
  refine lv_aload_n hx hb dX6_init_0 rfl (lv_at hl 0 rfl) ?_
  refine W.objInit hx hb hown (ml_X6_3 hk.1 _) (im_O_init hk.1 _) (co_O_init hk.1 _) rfl (by rw [hml]; exact hl.1) rfl dX6_init_1 (by decide) (Nat.le_of_ble_eq_true rfl) ?_
  refine W.eq (g2 := F0 m 4 ls []) rfl ?_
  refine lv_aload_n hx hb dX6_init_4 rfl (lv_at hl 0 rfl) ?_
  refine lv_sipush (v := 200) hx hb dX6_init_5 (by decide) ?_
  refine va_newa (atype := .int) (ty := .int) (N' := 200) (a0 := (200, .inl (fun _ => 0))) hx hb (ac_I hk.1 _) rfl hK hP hD hS hA (fun _ => rfl) (by decide) (by decide) (by decide) (by decide) (by decide) dX6_init_8 (fun hr cA H hK9 hP hD hS => ?_)
  cases ca_eq 0 hK9 rfl
  have hP : va_P D cls [(ht, .inr (6, [.null, .int 0, .int 0, .int 0, .int 0, .int 0])), (hr, .inl (ca 0, 200, .inl (fun _ => 0)))] H := hP
  have hD : va_D A [(ht, .inr (6, [.null, .int 0, .int 0, .int 0, .int 0, .int 0])), (hr, .inl (ca 0, 200, .inl (fun _ => 0)))] := hD
  refine va_putF (D := D) (v := .ref hr) (ty := (.array .int)) (C := RX6) (T := TX6) (N := 6) hx hb (uc_6 hk.1 _) (fun _ h9 => h9) tyX6 tyX6_ok nmX6 hown hK hP hD hS 0 rfl rfl 0 (by decide) (fl_X6_9 hk.1 _) (fun _ h9 => h9) rfl hin rfl (by decide +kernel) rfl rfl (Nat.le_of_ble_eq_true rfl) dX6_init_10 (fun H locs hP hD hS => ?_)
  have hP : va_P D cls [(ht, .inr (6, [.ref hr, .int 0, .int 0, .int 0, .int 0, .int 0])), (hr, .inl (ca 0, 200, .inl (fun _ => 0)))] H := hP
  have hD : va_D A [(ht, .inr (6, [.ref hr, .int 0, .int 0, .int 0, .int 0, .int 0])), (hr, .inl (ca 0, 200, .inl (fun _ => 0)))] := hD
  exact rn (w := fun hr => wt ca ht hr t0) C hrt hlocks hr (by rw [wt_0]; exact hP) (by rw [wt_0]; exact hD) hS dX6_init_13

set_option maxHeartbeats 4000000 in
set_option maxRecDepth 100000 in
theorem iX (l : Launch) (D : va_G) (ca : Nat → ClassId) (sa : Nat → Nat) (lo : Nat) (x0 : Nat) (sz : Nat) : Met l yX9_init [.code yX9_init cX9_init 1 none] ({ frames := 2, cells := 3, slots := 226, locals := 50 }) (PX D ca sa lo sz [.ref x0] [(x0, .inr (9, [.null, .null, .int 0]))]) (QN D (fun q : Nat × Nat × Nat => wx ca x0 q.1 q.2.1 q.2.2 [] [] t0) (va_A [(x0, .inr (9, [.null, .null, .int 0]))] sz)) 3 226 (va_A [(x0, .inr (9, [.null, .null, .int 0]))] sz) := by
  refine mk_met (fun A => QN D (fun q : Nat × Nat × Nat => wx ca x0 q.1 q.2.1 q.2.2 [] [] t0) A) (by decide) (Nat.le_of_ble_eq_true rfl) ?_
  intro p e s m below meth c A ls C hrt hlocks hnm hsz hP hD hS hl
  obtain ⟨hx, hb, hml, hown, hk, hz, hlo, hA, hAl⟩ := id C
  have hK : va_K D cls (tyl ca) s := hk.2.1
  have hl : lv_has ls 1 [(0, .ref x0)] := hl
  have hin : meth.name = "<init>" := hnm
  refine lv_aload_n hx hb dX9_init_0 rfl (lv_at hl 0 rfl) ?_
  refine W.objInit hx hb hown (ml_X9_1 hk.1 _) (im_O_init hk.1 _) (co_O_init hk.1 _) rfl (by rw [hml]; exact hl.1) rfl dX9_init_1 (by decide) (Nat.le_of_ble_eq_true rfl) ?_
  refine W.eq (g2 := F0 m 4 ls []) rfl ?_
  refine lv_aload_n hx hb dX9_init_4 rfl (lv_at hl 0 rfl) ?_
  refine lv_bipush (v := 20) hx hb dX9_init_5 (by decide) ?_
  refine va_newq (N' := 20) hx hb hown (cl_X9_9 hk.1 _) hk.2.2.2.2.2.2.1 hK hP hD hS hA (by decide) (by decide) (by decide) (by decide) (by decide) dX9_init_7 (fun da cA H hK9 hP hD hS => ?_)
  cases ca_eq 1 hK9 rfl
  have hP : va_P D cls [(x0, .inr (9, [.null, .null, .int 0])), (da, .inl (ca 1, 20, .inr (.inr (.inr (.inr (fun _ => none))))))] H := hP
  have hD : va_D A [(x0, .inr (9, [.null, .null, .int 0])), (da, .inl (ca 1, 20, .inr (.inr (.inr (.inr (fun _ => none))))))] := hD
  refine va_putF (D := D) (v := .ref da) (ty := (.array (.object "AlarmKinds$Plain"))) (C := RX9) (T := TX9) (N := 3) hx hb (uc_9 hk.1 _) (fun _ h9 => h9) tyX9 tyX9_ok nmX9 hown hK hP hD hS 0 rfl rfl 0 (by decide) (fl_X9_11 hk.1 _) (fun _ h9 => h9) rfl hin rfl (by decide +kernel) rfl rfl (Nat.le_of_ble_eq_true rfl) dX9_init_10 (fun H locs hP hD hS => ?_)
  have hP : va_P D cls [(x0, .inr (9, [.ref da, .null, .int 0])), (da, .inl (ca 1, 20, .inr (.inr (.inr (.inr (fun _ => none))))))] H := hP
  have hD : va_D A [(x0, .inr (9, [.ref da, .null, .int 0])), (da, .inl (ca 1, 20, .inr (.inr (.inr (.inr (fun _ => none))))))] := hD
  refine lv_aload_n hx hb dX9_init_13 rfl (lv_at hl 0 rfl) ?_
  refine va_new (ci := 6) (fs := [.null, .int 0, .int 0, .int 0, .int 0, .int 0]) (C := RX6) (T := TX6) (N := 6) hx hb (uc_6 hk.1 _) (fun _ h9 => h9) tyX6 tyX6_ok hown (cl_X9_15 hk.1 _) (ia_X6 hk.1 _) (in_X6 hk.1 _) hK hP hD hS hA rfl (fun j hj => by rcases (by omega : j = 0 ∨ j = 1 ∨ j = 2 ∨ j = 3 ∨ j = 4 ∨ j = 5) with rfl | rfl | rfl | rfl | rfl | rfl <;> rfl) (by decide) (by decide) dX9_init_14 (fun ht H hP hD hS => ?_)
  have hP : va_P D cls [(x0, .inr (9, [.ref da, .null, .int 0])), (da, .inl (ca 1, 20, .inr (.inr (.inr (.inr (fun _ => none)))))), (ht, .inr (6, [.null, .int 0, .int 0, .int 0, .int 0, .int 0]))] H := hP
  have hD : va_D A [(x0, .inr (9, [.ref da, .null, .int 0])), (da, .inl (ca 1, 20, .inr (.inr (.inr (.inr (fun _ => none)))))), (ht, .inr (6, [.null, .int 0, .int 0, .int 0, .int 0, .int 0]))] := hD
  refine lv_dup hx hb dX9_init_17 rfl ?_
  have hP0 : va_P D cls ([(x0, .inr (9, [.ref da, .null, .int 0])), (da, .inl (ca 1, 20, .inr (.inr (.inr (.inr (fun _ => none))))))] ++ [(ht, .inr (6, [.null, .int 0, .int 0, .int 0, .int 0, .int 0]))]) H := hP
  have hD0 : va_D A ([(x0, .inr (9, [.ref da, .null, .int 0])), (da, .inl (ca 1, 20, .inr (.inr (.inr (.inr (fun _ => none))))))] ++ [(ht, .inr (6, [.null, .int 0, .int 0, .int 0, .int 0, .int 0]))]) := hD
  have hfr := fr_of C (D_r hD0) hS
  refine va_callv (run_I (As := []) (n := 0) (rest := [.ref ht, .ref x0]) C (iTr l D ca sa lo ht H.size) (fun U A9 h => co_X6_init h A9) (in_X6 hk.1 _) (ml_X9_17 hk.1 _) (im_X6_init hk.1 _) rfl (by decide +kernel) ⟨⟨rfl, rfl⟩, by decide, by decide⟩ (P_r hP0) (D_r hD0) hS rfl hl.1 rfl (Nat.le_of_ble_eq_true rfl) dX9_init_18 ⟨by decide, by decide⟩) hS (fun q _ h => hfr q h) hfr (fun hr t1 H locs ht1 hvm _ hB hz1 hk1 hS => ?_)
  subst ht1
  have hP := (ap_keep (P_l hP0) (ap_of hD0) hk1).app hB.1
  have hD := va_D.app (D_l hD0) (hB.2.weaken (fun _ _ _ h => hfr _ h)) (ap_new (P_l hP0) (ap_of hD0) hB.2)
  dsimp only at hP hD
  rw [wt_0] at hP hD
  have hP : va_P D cls [(x0, .inr (9, [.ref da, .null, .int 0])), (da, .inl (ca 1, 20, .inr (.inr (.inr (.inr (fun _ => none)))))), (ht, .inr (6, [.ref hr, .int 0, .int 0, .int 0, .int 0, .int 0])), (hr, .inl (ca 0, 200, .inl (fun _ => 0)))] t1.heap := hP
  have hD : va_D A [(x0, .inr (9, [.ref da, .null, .int 0])), (da, .inl (ca 1, 20, .inr (.inr (.inr (.inr (fun _ => none)))))), (ht, .inr (6, [.ref hr, .int 0, .int 0, .int 0, .int 0, .int 0])), (hr, .inl (ca 0, 200, .inl (fun _ => 0)))] := hD
  refine va_putF (D := D) (v := .ref ht) (ty := (.object "AlarmKinds$Trace")) (C := RX9) (T := TX9) (N := 3) hx hb (uc_9 hk.1 _) (fun _ h9 => h9) tyX9 tyX9_ok nmX9 hown hK hP hD hS 0 rfl rfl 1 (by decide) (fl_X9_18 hk.1 _) (fun _ h9 => h9) rfl hin rfl (by decide +kernel) rfl rfl (Nat.le_of_ble_eq_true rfl) dX9_init_21 (fun H locs hP hD hS => ?_)
  have hP : va_P D cls [(x0, .inr (9, [.ref da, .ref ht, .int 0])), (da, .inl (ca 1, 20, .inr (.inr (.inr (.inr (fun _ => none)))))), (ht, .inr (6, [.ref hr, .int 0, .int 0, .int 0, .int 0, .int 0])), (hr, .inl (ca 0, 200, .inl (fun _ => 0)))] H := hP
  have hD : va_D A [(x0, .inr (9, [.ref da, .ref ht, .int 0])), (da, .inl (ca 1, 20, .inr (.inr (.inr (.inr (fun _ => none)))))), (ht, .inr (6, [.ref hr, .int 0, .int 0, .int 0, .int 0, .int 0])), (hr, .inl (ca 0, 200, .inl (fun _ => 0)))] := hD
  refine lv_aload_n hx hb dX9_init_24 rfl (lv_at hl 0 rfl) ?_
  refine lv_iconst (v := 0) hx hb dX9_init_25 (by decide) ?_
  refine va_put (D := D) (v := .int 0) (ty := .int) (C := RX9) (T := TX9) (N := 3) hx hb (uc_9 hk.1 _) (fun _ h9 => h9) tyX9 tyX9_ok nmX9 hown hK hP hD hS 0 rfl rfl 2 (by decide) (fl_X9_22 hk.1 _) (fun _ h9 => h9) rfl (by decide +kernel) rfl rfl (Nat.le_of_ble_eq_true rfl) dX9_init_26 (fun H locs hP hD hS => ?_)
  have hP : va_P D cls [(x0, .inr (9, [.ref da, .ref ht, .int 0])), (da, .inl (ca 1, 20, .inr (.inr (.inr (.inr (fun _ => none)))))), (ht, .inr (6, [.ref hr, .int 0, .int 0, .int 0, .int 0, .int 0])), (hr, .inl (ca 0, 200, .inl (fun _ => 0)))] H := hP
  have hD : va_D A [(x0, .inr (9, [.ref da, .ref ht, .int 0])), (da, .inl (ca 1, 20, .inr (.inr (.inr (.inr (fun _ => none)))))), (ht, .inr (6, [.ref hr, .int 0, .int 0, .int 0, .int 0, .int 0])), (hr, .inl (ca 0, 200, .inl (fun _ => 0)))] := hD
  exact rn (w := fun q : Nat × Nat × Nat => wx ca x0 q.1 q.2.1 q.2.2 [] [] t0) C hrt hlocks (da, ht, hr) (by unfold wx; rw [wt_0]; exact hP) (by unfold wx; rw [wt_0]; exact hD) hS dX9_init_29
