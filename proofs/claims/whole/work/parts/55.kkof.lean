theorem KK_of {args : Array Value} {s : State} (hts : ∀ w ∈ lw_tbl, w.before args s = true) (hgv : (Jvm.Cond.and given_1 narrow_1).before args s = true) : ∃ (D : va_G) (ca : Nat → ClassId) (sa : Nat → Nat), KK D ca sa s ∧ kz s.heap.size s s.heap := by
  have hs := flat_of_before _ hgv
  have hkw : kw s := fun w hw hg => word_at (State.WarmedH.refl s) (good_of_word hg) (hts w hw)
  obtain ⟨c0, i0, h0⟩ := u_known (C := RX0) (T := TX3) (N := 9) (n := 9) (args := #[]) (ws := u_ws RX0 TX3 9) (uc_0 hkw #[]) (fun _ h => h) (ia_X0 hkw #[])
  obtain ⟨c1, i1, h1⟩ := u_known (C := RX1) (T := TX3) (N := 9) (n := 9) (args := #[]) (ws := u_ws RX1 TX3 9) (uc_1 hkw #[]) (fun _ h => h) (ia_X1 hkw #[])
  obtain ⟨c2, i2, h2⟩ := u_known (C := RX2) (T := TX3) (N := 9) (n := 9) (args := #[]) (ws := u_ws RX2 TX3 9) (uc_2 hkw #[]) (fun _ h => h) (ia_X2 hkw #[])
  obtain ⟨c3, i3, h3⟩ := u_known (C := RX3) (T := TX3) (N := 9) (n := 9) (args := #[]) (ws := u_ws RX3 TX3 9) (uc_3 hkw #[]) (fun _ h => h) (ia_X3 hkw #[])
  obtain ⟨c4, i4, h4⟩ := u_known (C := RX4) (T := TX3) (N := 9) (n := 9) (args := #[]) (ws := u_ws RX4 TX3 9) (uc_4 hkw #[]) (fun _ h => h) (ia_X4 hkw #[])
  obtain ⟨c5, i5, h5⟩ := u_known (C := RX5) (T := TX3) (N := 9) (n := 9) (args := #[]) (ws := u_ws RX5 TX3 9) (uc_5 hkw #[]) (fun _ h => h) (ia_X5 hkw #[])
  obtain ⟨c6, i6, h6⟩ := u_known (C := RX6) (T := TX6) (N := 6) (n := 6) (args := #[]) (ws := u_ws RX6 TX6 6) (uc_6 hkw #[]) (fun _ h => h) (ia_X6 hkw #[])
  obtain ⟨c7, i7, h7⟩ := u_known (C := RX7) (T := TX3) (N := 9) (n := 9) (args := #[]) (ws := u_ws RX7 TX3 9) (uc_7 hkw #[]) (fun _ h => h) (ia_X7 hkw #[])
  obtain ⟨c8, i8, h8⟩ := u_known (C := RX8) (T := TX3) (N := 9) (n := 9) (args := #[]) (ws := u_ws RX8 TX3 9) (uc_8 hkw #[]) (fun _ h => h) (ia_X8 hkw #[])
  obtain ⟨c9, i9, h9⟩ := u_known (C := RX9) (T := TX9) (N := 3) (n := 3) (args := #[]) (ws := u_ws RX9 TX9 3) (uc_9 hkw #[]) (fun _ h => h) (ia_X9 hkw #[])
  obtain ⟨c10, i10, h10⟩ := u_known (C := RX10) (T := TX10) (N := 15) (n := 15) (args := #[]) (ws := u_ws RX10 TX10 15) (uc_10 hkw #[]) (fun _ h => h) (ia_X10 hkw #[])
  obtain ⟨a0, k0, p0, f0, g0, q0⟩ := Cond.arrayClass_spec (ac_I hkw #[])
  obtain ⟨a2, k2, p2, f2, g2, q2⟩ := Cond.arrayClass_spec (ac_Z hkw #[])
  obtain ⟨a3, k3, p3, f3, g3, q3⟩ := Cond.arrayClass_spec (ac_J hkw #[])
  have hao : va_AO "AlarmKinds$Plain" s := va_AO.of (hts _ (List.mem_of_getElem? (i := 43) (by decide +kernel)))
  obtain ⟨p1, a1, k1, f1, -, g1, q1, e1⟩ := Cond.arrayOver_spec hao
  have hs0 : (Cond.exactly (.string "AlarmKinds$Radio" 30) "java/lang/String").before args s = true := hs _ (by decide +kernel)
  have hs1 : (Cond.exactly (.string "AlarmKinds$Beam" 31) "java/lang/String").before args s = true := hs _ (by decide +kernel)
  obtain ⟨sr, hsr⟩ : ∃ a, (Term.string "AlarmKinds$Radio" 30).eval args s none [] s = some (.ref a) := by
    obtain ⟨a, _, _, _, hh, _⟩ := Cond.exactly_spec hs0; exact ⟨a, hh⟩
  obtain ⟨sb, hsb⟩ : ∃ a, (Term.string "AlarmKinds$Beam" 31).eval args s none [] s = some (.ref a) := by
    obtain ⟨a, _, _, _, hh, _⟩ := Cond.exactly_spec hs1; exact ⟨a, hh⟩
  refine ⟨(fun k => match k with | 0 => c0 | 1 => c1 | 2 => c2 | 3 => c3 | 4 => c4 | 5 => c5 | 6 => c6 | 7 => c7 | 8 => c8 | 9 => c9 | _ => c10, fun k => match k with | 0 => i0 | 1 => i1 | 2 => i2 | 3 => i3 | 4 => i4 | 5 => i5 | 6 => i6 | 7 => i7 | 8 => i8 | 9 => i9 | _ => i10), fun k => match k with | 0 => a0 | 1 => a1 | 2 => a2 | _ => a3, fun k => match k with | 0 => sr | _ => sb, ⟨hkw, ⟨?_, ?_⟩, ?_, ?_, ?_, ?_, hao, ?_⟩, ?_, ?_⟩
  · intro k q hq
    match k, hq with
    | 0, hq => cases hq; exact h0
    | 1, hq => cases hq; exact h1
    | 2, hq => cases hq; exact h2
    | 3, hq => cases hq; exact h3
    | 4, hq => cases hq; exact h4
    | 5, hq => cases hq; exact h5
    | 6, hq => cases hq; exact h6
    | 7, hq => cases hq; exact h7
    | 8, hq => cases hq; exact h8
    | 9, hq => cases hq; exact h9
    | 10, hq => cases hq; exact h10
    | k + 11, hq => simp [cls] at hq
  · intro k q hq
    match k, hq with
    | 0, hq => cases hq; exact ⟨fun n z => ⟨fun k h => (by cases h), k0, g0, p0, q0⟩, f0⟩
    | 1, hq => cases hq; exact ⟨fun n z => ⟨fun k h => (by cases h), k1, g1, p1, q1⟩, k1, p1, g1, q1, f1, e1⟩
    | 2, hq => cases hq; exact ⟨fun n z => ⟨fun k h => (by cases h), k2, g2, p2, q2⟩, f2⟩
    | 3, hq => cases hq; exact ⟨fun n z => ⟨fun k h => (by cases h), k3, g3, p3, q3⟩, f3⟩
    | k + 4, hq => simp [tyl] at hq
  · intro q hq
    have hc : (q.1, q.2) ∈ ksC := hq
    simp only [ksC, List.mem_cons, List.not_mem_nil, or_false] at hq
    rcases hq with rfl | rfl | rfl | rfl | rfl | rfl | rfl | rfl | rfl
    · exact va_tabs (A := args) rfl rfl (hts _ (List.mem_of_getElem? (i := 431) (by decide +kernel)))
    · exact va_tabs (A := args) rfl rfl (hts _ (List.mem_of_getElem? (i := 501) (by decide +kernel)))
    · exact va_tabs (A := args) rfl rfl (hts _ (List.mem_of_getElem? (i := 750) (by decide +kernel)))
    · exact va_tabs (A := args) rfl rfl (hts _ (List.mem_of_getElem? (i := 751) (by decide +kernel)))
    · exact va_tabs (A := args) rfl rfl (hts _ (List.mem_of_getElem? (i := 752) (by decide +kernel)))
    · exact va_tabs (A := args) rfl rfl (hts _ (List.mem_of_getElem? (i := 753) (by decide +kernel)))
    · exact va_tabs (A := args) rfl rfl (hts _ (List.mem_of_getElem? (i := 754) (by decide +kernel)))
    · exact va_tabs (A := args) rfl rfl (hts _ (List.mem_of_getElem? (i := 755) (by decide +kernel)))
    · exact va_tabs (A := args) rfl rfl (hts _ (List.mem_of_getElem? (i := 756) (by decide +kernel)))
  · exact va_Nc.of (hs (Cond.not (.castable "java/lang/ArithmeticException" "java/lang/IllegalStateException")) (by decide +kernel))
  · exact vk_R.of (A := args) (hts _ (List.mem_of_getElem? (i := 469) (by decide +kernel))) hsr
  · exact vk_R.of (A := args) (hts _ (List.mem_of_getElem? (i := 508) (by decide +kernel))) hsb
  · intro q hq
    simp only [ksD, List.mem_cons, List.not_mem_nil, or_false] at hq
    rcases hq with rfl | rfl | rfl | rfl | rfl | rfl
    · exact va_tabs (A := args) rfl rfl (hts _ (List.mem_of_getElem? (i := 433) (by decide +kernel)))
    · exact va_tabs (A := args) rfl rfl (hts _ (List.mem_of_getElem? (i := 435) (by decide +kernel)))
    · exact va_tabs (A := args) rfl rfl (hts _ (List.mem_of_getElem? (i := 437) (by decide +kernel)))
    · exact va_tabs (A := args) rfl rfl (hts _ (List.mem_of_getElem? (i := 432) (by decide +kernel)))
    · exact va_tabs (A := args) rfl rfl (hts _ (List.mem_of_getElem? (i := 434) (by decide +kernel)))
    · exact va_tabs (A := args) rfl rfl (hts _ (List.mem_of_getElem? (i := 436) (by decide +kernel)))
  · exact vx_Zqof (hts _ (List.mem_of_getElem? (i := 456) (by decide +kernel))) (hts _ (List.mem_of_getElem? (i := 28) (by decide +kernel))) (hs _ (by decide +kernel)) (fun a h1 h2 => Nat.lt_irrefl _ (Nat.lt_of_lt_of_le h1 h2))
  · exact vx_Zqof (hts _ (List.mem_of_getElem? (i := 458) (by decide +kernel))) (hts _ (List.mem_of_getElem? (i := 28) (by decide +kernel))) (hs _ (by decide +kernel)) (fun a h1 h2 => Nat.lt_irrefl _ (Nat.lt_of_lt_of_le h1 h2))
