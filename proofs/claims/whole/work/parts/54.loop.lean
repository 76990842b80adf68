set_option maxHeartbeats 4000000 in
set_option maxRecDepth 100000 in
theorem law_loop {D : va_G} {ca : Nat → ClassId} {sa : Nat → Nat} {lo : Nat} {p : Program} {l : Launch} {e : Env} {s : State} {m : MethodId} {below : List Frame} {meth : Method} {c : Code} {A : Nat → Prop} {x0 da ht hr : Nat} {ya : Nat → Nat} {oa b Ls : Nat} {xs : Nat → Int32} (hl9 : l.stackTraces = false) (C : Cx D ca sa lo p s m c code 7 RL A) (hlh : lo = s.heap.size) (hr9 : meth.sig.returnType = ret) (hlocks : meth.locks = false) (hX : va_X b Ls xs s s.heap) (hbl : b < s.heap.size) (hbA : ¬ A b) (hLs : Ls ≤ 2560) : ∀ (n k : Nat), k + n = 512 → ∀ (L : List Nat) (Q : List Pd) (t : Tr) (F : Nat → Pd) (cd fl : Int32) (f : Nat → Int64) (H : Heap) (locs : List Loc) (ls : Array Slot), okP L Q → RQ F Q → t.1 ≤ 220 * k → LW D ca A x0 da ht hr L Q t ya F Q.length cd fl t oa f H → va_S A s.heap H locs → lv_has ls 7 [(0, .ref b), (1, .ref x0), (2, .ref (ya 0)), (3, .ref oa), (4, .int (nI (5 * k)))] → W p l e room_1 s m #[Value.ref b] below meth c H locs (15 + 80 * k) (605 + 480 * k) (lw_Z below #[Value.ref b] s) (F0 m 23 ls []) := by
  obtain ⟨hx, hb, hml, hown, hk, hz, hlo, hA, hAl⟩ := id C
  have hK : va_K D cls (tyl ca) s := hk.2.1
  have hend : ∀ (k : Nat) (H : Heap) (locs : List Loc) (ls : Array Slot), k ≤ 512 → va_S A s.heap H locs → W p l e room_1 s m #[Value.ref b] below meth c H locs (15 + 80 * k) (605 + 480 * k) (lw_Z below #[Value.ref b] s) (F0 m 552 ls []) := by
    intro k H locs ls hk9 hS
    refine lv_iconst (v := 1) hx hb dL_law_552 (by decide) ?_
    refine W.widen (k := room_1.cells) (n := room_1.slots) (Nat.le_trans (by omega) rb_c) (Nat.le_trans (by omega) rb_s) ?_
    refine va_forget (fun q hq => by rw [← hlh]; exact hAl _ (hS.2.2 q hq)) ?_
    exact lw_ret hx hb hr9 hlocks dL_law_553
  intro n
  induction n with
  | zero =>
    intro k hkn L Q t F cd fl f H locs ls hok hF htn hW hS hl
    refine lv_iload hx hb dL_law_23 (lv_at hl 4 rfl) ?_
    refine lv_aload_n hx hb dL_law_25 rfl (lv_at hl 0 rfl) ?_
    refine va_slen hx hb hX hbl hbA hS dL_law_26 ?_
    refine lv_iconst (v := 5) hx hb dL_law_27 (by decide) ?_
    refine lv_isub hx hb dL_law_28 ?_
    refine lv_icmp_gt (tgt := 552) hx hb dL_law_29 (by decide) (fun _ => hend k H locs ls (by omega) hS) (fun h9 => ?_)
    have := sw_end hLs (by omega) h9
    omega
  | succ n ih =>
    intro k hkn L Q t F cd fl f H locs ls hok hF htn hW hS hl
    have kk : GO D ca p l e s m #[Value.ref b] below meth c A (lw_Z below #[Value.ref b] s) x0 da ht hr ya oa b k (220 * (k + 1)) 546 := by
      intro L Q t F cd fl f H locs ls hok hF htn hW hS hl
      refine lv_iinc (v := nI (5 * k) + 5) (lv' := [(4, .int (nI (5 * k) + 5)), (0, .ref b), (1, .ref x0), (2, .ref (ya 0)), (3, .ref oa)]) hx hb dL_law_546 hl (k := 4) rfl rfl (by decide) rfl (fun ls hl => ?_)
      refine lv_goto (tgt := 23) hx hb dL_law_549 (by decide) ?_
      rw [show nI (5 * k) + 5 = nI (5 * (k + 1)) from nI_add (5 * k) 5] at hl
      exact ih (k + 1) (by omega) L Q t F cd fl f H locs ls hok hF htn hW hS (lv_sub hl [1, 2, 3, 4, 0] rfl)
    refine lv_iload hx hb dL_law_23 (lv_at hl 4 rfl) ?_
    refine lv_aload_n hx hb dL_law_25 rfl (lv_at hl 0 rfl) ?_
    refine va_slen hx hb hX hbl hbA hS dL_law_26 ?_
    refine lv_iconst (v := 5) hx hb dL_law_27 (by decide) ?_
    refine lv_isub hx hb dL_law_28 ?_
    refine lv_icmp_gt (tgt := 552) hx hb dL_law_29 (by decide) (fun _ => hend k H locs ls (by omega) hS) (fun h9 => ?_)
    have hk5 := sw_end hLs (by omega) h9
    refine lv_aload_n hx hb dL_law_32 rfl (lv_at hl 0 rfl) ?_
    refine lv_iload hx hb dL_law_33 (lv_at hl 4 rfl) ?_
    refine ls_ (j := 5 * k) hx hb hX hbl hbA hS rfl (by omega) hLs dL_law_35 ?_
    refine lv_bipush (v := 15) hx hb dL_law_36 (by decide) ?_
    refine lv_iand hx hb dL_law_38 ?_
    refine lv_topi (fun v9 hv9 => ?_)
    by_cases e0 : v9 = 0
    · subst e0
      refine lv_tableIn (tgt := 100) hx hb dL_law_39 (by decide) (by decide) rfl (by decide) ?_
      exact T_add hl9 C hX hbl hbA hLs hk5 kk L Q t F cd fl f H locs ls hok hF htn hW hS hl
    by_cases e1 : v9 = 1
    · subst e1
      refine lv_tableIn (tgt := 161) hx hb dL_law_39 (by decide) (by decide) rfl (by decide) ?_
      exact T_read hl9 C hX hbl hbA hLs hk5 kk L Q t F cd fl f H locs ls hok hF htn hW hS hl
    by_cases e2 : v9 = 2
    · subst e2
      refine lv_tableIn (tgt := 229) hx hb dL_law_39 (by decide) (by decide) rfl (by decide) ?_
      exact T_weigh hl9 C hX hbl hbA hLs hk5 kk L Q t F cd fl f H locs ls hok hF htn hW hS hl
    by_cases e3 : v9 = 3
    · subst e3
      refine lv_tableIn (tgt := 297) hx hb dL_law_39 (by decide) (by decide) rfl (by decide) ?_
      exact T_over hl9 C hX hbl hbA hLs hk5 kk L Q t F cd fl f H locs ls hok hF htn hW hS hl
    by_cases e4 : v9 = 4
    · subst e4
      refine lv_tableIn (tgt := 322) hx hb dL_law_39 (by decide) (by decide) rfl (by decide) ?_
      exact T_clear hl9 C hX hbl hbA hLs hk5 kk L Q t F cd fl f H locs ls hok hF htn hW hS hl
    by_cases e5 : v9 = 5
    · subst e5
      refine lv_tableIn (tgt := 347) hx hb dL_law_39 (by decide) (by decide) rfl (by decide) ?_
      exact T_cost hl9 C hX hbl hbA hLs hk5 kk L Q t F cd fl f H locs ls hok hF htn hW hS hl
    by_cases e6 : v9 = 6
    · subst e6
      refine lv_tableIn (tgt := 372) hx hb dL_law_39 (by decide) (by decide) rfl (by decide) ?_
      exact T_tell hl9 C hX hbl hbA hLs hk5 kk L Q t F cd fl f H locs ls hok hF htn hW hS hl
    by_cases e7 : v9 = 7
    · subst e7
      refine lv_tableIn (tgt := 409) hx hb dL_law_39 (by decide) (by decide) rfl (by decide) ?_
      exact T_sweep hl9 C hX hbl hbA hLs hk5 kk L Q t F cd fl f H locs ls hok hF htn hW hS hl
    by_cases e8 : v9 = 8
    · subst e8
      refine lv_tableIn (tgt := 446) hx hb dL_law_39 (by decide) (by decide) rfl (by decide) ?_
      exact T_alarm hl9 C hX hbl hbA hLs hk5 kk L Q t F cd fl f H locs ls hok hF htn hW hS hl
    by_cases e9 : v9 = 9
    · subst e9
      refine lv_tableIn (tgt := 483) hx hb dL_law_39 (by decide) (by decide) rfl (by decide) ?_
      exact T_costs hl9 C hX hbl hbA hLs hk5 kk L Q t F cd fl f H locs ls hok hF htn hW hS hl
    by_cases e10 : v9 = 10
    · subst e10
      refine lv_tableIn (tgt := 496) hx hb dL_law_39 (by decide) (by decide) rfl (by decide) ?_
      exact T_trace hl9 C hX hbl hbA hLs hk5 kk L Q t F cd fl f H locs ls hok hF htn hW hS hl
    by_cases e11 : v9 = 11
    · subst e11
      refine lv_tableIn (tgt := 521) hx hb dL_law_39 (by decide) (by decide) rfl (by decide) ?_
      exact T_count hl9 C hX hbl hbA hLs hk5 kk L Q t F cd fl f H locs ls hok hF htn hW hS hl
    refine lv_tableOut (tgt := 546) hx hb dL_law_39 (tb_out (n := 11) (by decide) (fun k hk => ?_)) (by decide) ?_
    · rcases (by omega : k = 0 ∨ k = 1 ∨ k = 2 ∨ k = 3 ∨ k = 4 ∨ k = 5 ∨ k = 6 ∨ k = 7 ∨ k = 8 ∨ k = 9 ∨ k = 10 ∨ k = 11) with rfl | rfl | rfl | rfl | rfl | rfl | rfl | rfl | rfl | rfl | rfl | rfl
      · exact e0
      · exact e1
      · exact e2
      · exact e3
      · exact e4
      · exact e5
      · exact e6
      · exact e7
      · exact e8
      · exact e9
      · exact e10
      · exact e11
    refine W.widen (k := 15 + 80 * (k + 1)) (n := 605 + 480 * (k + 1)) (by omega) (by omega) ?_
    exact kk L Q t F cd fl f H locs ls hok hF (by omega) hW hS hl
