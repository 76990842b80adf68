/-! what the law's loop keeps: the panel x, the reference m, the row for the long, apart -/
theorem ap_app {w a b : va_W} (h1 : ap w a) (h2 : ap w b) : ap w (a ++ b) := by
  intro i j p q hi hj
  rcases Nat.lt_or_ge j a.length with h | h
  · rw [List.getElem?_append_left h] at hj; exact h1 i j p q hi hj
  · rw [List.getElem?_append_right h] at hj; exact h2 i _ p q hi hj
def LW (D : va_G) (ca : Nat → ClassId) (A : Nat → Prop) (x0 da ht hr : Nat) (L : List Nat) (Q : List Pd) (t : Tr) (ya : Nat → Nat) (F : Nat → Pd) (n : Nat) (cd fl : Int32) (tm : Tr) (oa : Nat) (f : Nat → Int64) (H : Heap) : Prop :=
  (va_P D cls (wx ca x0 da ht hr L Q t) H ∧ va_D A (wx ca x0 da ht hr L Q t)) ∧ (va_P D cls (wm ca ya F n cd fl tm) H ∧ va_D A (wm ca ya F n cd fl tm)) ∧ (va_P D cls (wo ca oa f) H ∧ va_D A (wo ca oa f)) ∧ ap (wx ca x0 da ht hr L Q t) (wm ca ya F n cd fl tm) ∧ ap (wx ca x0 da ht hr L Q t) (wo ca oa f) ∧ ap (wm ca ya F n cd fl tm) (wo ca oa f)
section LWS
variable {D : va_G} {ca : Nat → ClassId} {A : Nat → Prop} {x0 da ht hr : Nat} {L L' : List Nat} {Q Q' : List Pd} {t t' : Tr} {ya : Nat → Nat} {F F' : Nat → Pd} {n n' : Nat} {cd fl cd' fl' : Int32} {tm tm' : Tr} {oa : Nat} {f f' : Nat → Int64} {H H1 : Heap}
theorem LW.x (h : LW D ca A x0 da ht hr L Q t ya F n cd fl tm oa f H) (hk1 : ∀ q : Nat, q < H.size → ¬ va_A (wx ca x0 da ht hr L Q t) H.size q → H1[q]? = H[q]?) (hB : va_P D cls (wx ca x0 da ht hr L Q' t') H1) (hl : L.length = Q.length) (hl' : Q'.length = Q.length) : LW D ca A x0 da ht hr L Q' t' ya F n cd fl tm oa f H1 := by
  obtain ⟨⟨-, d1⟩, ⟨p2, d2⟩, ⟨p3, d3⟩, a1, a2, a3⟩ := h
  have e : (wx ca x0 da ht hr L Q' t').map (·.1) = (wx ca x0 da ht hr L Q t).map (·.1) := wx_map hl hl'
  exact ⟨⟨hB, d1.to e⟩, ⟨ap_keep p2 a1.symm hk1, d2⟩, ⟨ap_keep p3 a2.symm hk1, d3⟩, (a1.symm.to e).symm, (a2.symm.to e).symm, a3⟩
theorem LW.m (h : LW D ca A x0 da ht hr L Q t ya F n cd fl tm oa f H) (hk1 : ∀ q : Nat, q < H.size → ¬ va_A (wm ca ya F n cd fl tm) H.size q → H1[q]? = H[q]?) (hB : va_P D cls (wm ca ya F' n' cd' fl' tm') H1) : LW D ca A x0 da ht hr L Q t ya F' n' cd' fl' tm' oa f H1 := by
  obtain ⟨⟨p1, d1⟩, ⟨-, d2⟩, ⟨p3, d3⟩, a1, a2, a3⟩ := h
  exact ⟨⟨ap_keep p1 a1 hk1, d1⟩, ⟨hB, d2.to rfl⟩, ⟨ap_keep p3 a3.symm hk1, d3⟩, a1.to rfl, a2, (ap.to (w3 := wm ca ya F' n' cd' fl' tm') a3.symm rfl).symm⟩
theorem LW.xn (h : LW D ca A x0 da ht hr L Q t ya F n cd fl tm oa f H) (hk1 : ∀ q : Nat, q < H.size → ¬ va_A (wx ca x0 da ht hr L Q t) H.size q → H1[q]? = H[q]?) (hfr : ∀ q, va_A (wx ca x0 da ht hr L Q t) H.size q → A q) (hB : va_P D cls (wx ca x0 da ht hr L' Q' t') H1) (hDb : va_D (va_A (wx ca x0 da ht hr L Q t) H.size) (wx ca x0 da ht hr L' Q' t')) : LW D ca A x0 da ht hr L' Q' t' ya F n cd fl tm oa f H1 := by
  obtain ⟨⟨-, d1⟩, ⟨p2, d2⟩, ⟨p3, d3⟩, a1, a2, a3⟩ := h
  exact ⟨⟨hB, hDb.weaken (fun _ _ _ h => hfr _ h)⟩, ⟨ap_keep p2 a1.symm hk1, d2⟩, ⟨ap_keep p3 a2.symm hk1, d3⟩, (ap_new p2 a1.symm hDb).symm, (ap_new p3 a2.symm hDb).symm, a3⟩
theorem LW.ox (h : LW D ca A x0 da ht hr L Q t ya F n cd fl tm oa f H) (hk1 : ∀ q : Nat, q < H.size → ¬ va_A (wo ca oa f ++ wx ca x0 da ht hr L Q t) H.size q → H1[q]? = H[q]?) (hB : va_P D cls (wo ca oa f' ++ wx ca x0 da ht hr L Q' t') H1) (hl : L.length = Q.length) (hl' : Q'.length = Q.length) : LW D ca A x0 da ht hr L Q' t' ya F n cd fl tm oa f' H1 := by
  obtain ⟨⟨-, d1⟩, ⟨p2, d2⟩, ⟨-, d3⟩, a1, a2, a3⟩ := h
  have e : (wx ca x0 da ht hr L Q' t').map (·.1) = (wx ca x0 da ht hr L Q t).map (·.1) := wx_map hl hl'
  exact ⟨⟨P_r hB, d1.to e⟩, ⟨ap_keep p2 (ap_app a3 a1.symm) hk1, d2⟩, ⟨P_l hB, d3.to rfl⟩, (a1.symm.to e).symm, ((a2.symm.to e).symm).to rfl, a3.to rfl⟩
theorem LW.Pox (h : LW D ca A x0 da ht hr L Q t ya F n cd fl tm oa f H) : va_P D cls (wo ca oa f ++ wx ca x0 da ht hr L Q t) H := h.2.2.1.1.app h.1.1
theorem LW.Dox (h : LW D ca A x0 da ht hr L Q t ya F n cd fl tm oa f H) : va_D A (wo ca oa f ++ wx ca x0 da ht hr L Q t) := va_D.app h.2.2.1.2 h.1.2 h.2.2.2.2.1.symm
end LWS
/-! lengths, kinds, how many rules -/
theorem ix_lt {L : List Nat} {Q : List Pd} {x : Int32} {i : Nat} (hok : okP L Q) (h : ix Q x = some i) : i < Q.length := (ix_some hok.2.1 h).1
section ZB
variable {L : List Nat} {Q : List Pd} {t : Tr} {x v : Int32}
theorem zO_b (hok : okP L Q) : okP L (zO Q t x).2.1 ∧ (zO Q t x).2.1.length = Q.length ∧ (zO Q t x).2.2.1 ≤ t.1 + 220 := by
  unfold zO; split
  · exact ⟨hok, rfl, Nat.le_add_right _ _⟩
  · rename_i i hi
    exact ⟨sQ_ok _ hok (ix_lt hok hi), sQ_len _ _ _, Nat.le_trans (po_n _ _ _ _) (by omega)⟩
theorem zC_b (hok : okP L Q) : okP L (zC Q t x).2.1 ∧ (zC Q t x).2.1.length = Q.length ∧ (zC Q t x).2.2.1 ≤ t.1 + 220 := by
  unfold zC; split
  · exact ⟨hok, rfl, Nat.le_add_right _ _⟩
  · rename_i i hi
    exact ⟨sQ_ok _ hok (ix_lt hok hi), sQ_len _ _ _, Nat.le_trans (pcl_n _ _ _) (by omega)⟩
theorem zK_b (hok : okP L Q) : okP L (zK Q t x).2.1 ∧ (zK Q t x).2.1.length = Q.length ∧ (zK Q t x).2.2.1 ≤ t.1 + 220 := by
  unfold zK; split
  · exact ⟨hok, rfl, Nat.le_add_right _ _⟩
  · exact ⟨hok, rfl, Nat.le_trans (pk_n _ _ _) (by omega)⟩
theorem zR_b (hok : okP L Q) : okP L (zR Q t x v).2.2.1 ∧ (zR Q t x v).2.2.1.length = Q.length ∧ (zR Q t x v).2.2.2.1 ≤ t.1 + 220 ∧ (zR Q t x v).1 ≤ 2 := by
  unfold zR; split
  · exact ⟨hok, rfl, Nat.le_add_right _ _, Nat.zero_le _⟩
  · rename_i i hi
    split
    · exact ⟨sQ_ok _ hok (ix_lt hok hi), sQ_len _ _ _, Nat.le_trans (pr_n _ _ _ _) (by omega), pr_c _ _ _ _⟩
    · exact ⟨hok, rfl, Nat.le_add_right _ _, Nat.zero_le _⟩
theorem zW_b (hok : okP L Q) : okP L (zW Q t x v).2.2.1 ∧ (zW Q t x v).2.2.1.length = Q.length ∧ (zW Q t x v).2.2.2.1 ≤ t.1 + 220 ∧ (zW Q t x v).1 ≤ 2 := by
  unfold zW; split
  · exact ⟨hok, rfl, Nat.le_add_right _ _, Nat.zero_le _⟩
  · rename_i i hi
    split
    · exact ⟨sQ_ok _ hok (ix_lt hok hi), sQ_len _ _ _, Nat.le_trans (pw_n _ _ _ _) (by omega), pw_c _ _ _ _⟩
    · exact ⟨hok, rfl, Nat.le_add_right _ _, Nat.zero_le _⟩
theorem lp_b {st : Nat → Lu → Lu} {B N : Nat} (hs : ∀ (i : Nat) (u : Lu), i < N → okP L u.1 → u.1.length = N → okP L (st i u).1 ∧ (st i u).1.length = N ∧ (st i u).2.1.1 ≤ u.2.1.1 + B) (u : Lu) (h1 : okP L u.1) (h2 : u.1.length = N) : ∀ n, n ≤ N → okP L (lp st n u).1 ∧ (lp st n u).1.length = N ∧ (lp st n u).2.1.1 ≤ u.2.1.1 + B * n := by
  intro n
  induction n with
  | zero => intro _; exact ⟨h1, h2, Nat.le_add_right _ _⟩
  | succ n ih =>
    intro hn
    obtain ⟨a1, a2, a3⟩ := ih (by omega)
    obtain ⟨b1, b2, b3⟩ := hs n (lp st n u) (by omega) a1 a2
    refine ⟨b1, b2, Nat.le_trans b3 ?_⟩
    rw [Nat.mul_succ]; omega
theorem zS_b (hok : okP L Q) : okP L (zS Q t x v).2.1 ∧ (zS Q t x v).2.1.length = Q.length ∧ (zS Q t x v).2.2.1 ≤ t.1 + 220 := by
  unfold zS; split
  · obtain ⟨a1, a2, a3⟩ := lp_b (L := L) (B := 11) (N := Q.length) (st := swS x v) (fun i u hi h1 h2 => by
      unfold swS; split
      · exact ⟨sQ_ok _ h1 (by omega), (sQ_len _ _ _).trans h2, pr_n _ _ _ _⟩
      · exact ⟨h1, h2, Nat.le_add_right _ _⟩) (Q, t, 0) hok rfl Q.length (Nat.le_refl _)
    refine ⟨a1, a2, Nat.le_trans a3 ?_⟩
    have := hok.2.1
    show t.1 + 11 * Q.length ≤ _
    omega
  · exact ⟨hok, rfl, Nat.le_add_right _ _⟩
theorem zA_b (hok : okP L Q) : okP L (zA Q t x v).2.1 ∧ (zA Q t x v).2.1.length = Q.length ∧ (zA Q t x v).2.2.1 ≤ t.1 + 220 := by
  unfold zA; split
  · obtain ⟨a1, a2, a3⟩ := lp_b (L := L) (B := 2) (N := Q.length) (st := alS x) (fun i u hi h1 h2 => by
      unfold alS; split
      · exact ⟨sQ_ok _ h1 (by omega), (sQ_len _ _ _).trans h2, po_n _ _ _ _⟩
      · exact ⟨h1, h2, Nat.le_add_right _ _⟩) (Q, t, 0) hok rfl Q.length (Nat.le_refl _)
    refine ⟨a1, a2, Nat.le_trans a3 ?_⟩
    have := hok.2.1
    show t.1 + 2 * Q.length ≤ _
    omega
  · exact ⟨hok, rfl, Nat.le_add_right _ _⟩
theorem zP_b (hok : okP L Q) : okP L (zP Q t).2.1 ∧ (zP Q t).2.1.length = Q.length ∧ (zP Q t).2.2.1 ≤ t.1 + 220 := by
  unfold zP
  obtain ⟨a1, a2, a3⟩ := lp_b (L := L) (B := 2) (N := Q.length) (st := csS) (fun i u hi h1 h2 => by
      unfold csS
      exact ⟨h1, h2, pk_n _ _ _⟩) (Q, t, 0) hok rfl Q.length (Nat.le_refl _)
  refine ⟨a1, a2, Nat.le_trans a3 ?_⟩
  have := hok.2.1
  show t.1 + 2 * Q.length ≤ _
  omega
theorem zAdd_t {a b c d : Int32} : (zAdd Q t a b c d).2.2 = t := by
  unfold zAdd; split
  · split <;> rfl
  · rfl
end ZB
/-- the script's int at a place -/
theorem ls_ {p : Program} {l : Launch} {e : Env} {R : Room} {s : State} {m : MethodId} {args : Array Value} {below : List Frame} {meth : Method} {c : Code} {H : Heap} {locs : List Loc} {cells slots : Nat} {Q9 : State → Prop} {cc : ByteArray} {pc : Nat} {ls : Array Slot} {rest : List Value} {A : Nat → Prop} {b Ls j : Nat} {xs : Nat → Int32} {v : Int32} (hx : p.tables.exec = Jvm.exec) (hb : c.code = cc) (hX : va_X b Ls xs s s.heap) (hbl : b < s.heap.size) (hbA : ¬ A b) (hS : va_S A s.heap H locs) (hv : v = nI j) (hj : j < Ls) (hLs : Ls ≤ 2560) (hdg : decode cc pc = .ok (.iaload, 1))
    (kk : W p l e R s m args below meth c H locs cells slots Q9 (F0 m (pc + 1) ls (.int (xs j) :: rest))) : W p l e R s m args below meth c H locs cells slots Q9 (F0 m pc ls (.int v :: .ref b :: rest)) := by
  subst hv
  exact va_sld hx hb hX hbl hbA hS (vp_in_nI hj (by omega)) hdg (by rw [nI_clamp (by omega)]; exact kk)
theorem sw_end {Ls k : Nat} (hLs : Ls ≤ 2560) (hk : k ≤ 512) (h : ¬ Int32.ofNat Ls - 5 < nI (5 * k)) : 5 * k + 5 ≤ Ls := by
  have hp : ¬ nI (5 * k) < 0 := nI_pos (by omega)
  by_cases h5 : 5 ≤ Ls
  · obtain ⟨j, rfl⟩ : ∃ j, Ls = j + 5 := ⟨Ls - 5, by omega⟩
    have e : Int32.ofNat (j + 5) - 5 = nI j := by
      show nI (j + 5) - nI 5 = nI j
      rw [← nI_add, Int32.add_sub_cancel]
    rw [e, nI_ltI (by omega) (by omega)] at h
    omega
  · exfalso
    refine h (Int32.lt_of_lt_of_le ?_ (Int32.not_lt.mp hp))
    rcases (by omega : Ls = 0 ∨ Ls = 1 ∨ Ls = 2 ∨ Ls = 3 ∨ Ls = 4) with rfl | rfl | rfl | rfl | rfl <;> decide +kernel
