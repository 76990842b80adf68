/-! the panel: x0 the panel itself, da its row of detectors (addresses L, what they hold Q), its trace -/
abbrev Pd : Type := Nat × Int32 × Int32 × Dv
def cD (ht : Nat) (q : Nat × Pd) : Nat × va_E := (q.1, .inr (kc q.2.1, df ht (nI q.2.1) q.2.2.1 q.2.2.2.1 q.2.2.2.2))
def wpo (ht : Nat) (L : List Nat) (Q : List Pd) : va_W := (L.zip Q).map (cD ht)
def wx (ca : Nat → ClassId) (x0 da ht hr : Nat) (L : List Nat) (Q : List Pd) (t : Tr) : va_W := (x0, .inr (9, [.ref da, .ref ht, .int (nI L.length)])) :: (da, .inl (ca 1, 20, .inr (.inr (.inr (.inr (fun i => L[i]?)))))) :: (wt ca ht hr t ++ wpo ht L Q)
def okP (L : List Nat) (Q : List Pd) : Prop := L.length = Q.length ∧ Q.length ≤ 20 ∧ ∀ pd ∈ Q, pd.1 < 8
theorem k8 {n : Nat} (h : n < 8) : n = 0 ∨ n = 1 ∨ n = 2 ∨ n = 3 ∨ n = 4 ∨ n = 5 ∨ n = 6 ∨ n = 7 := by omega
def ix (Q : List Pd) (x : Int32) : Option Nat := if x < 0 ∨ nI Q.length ≤ x then none else some x.toNatClampNeg
theorem ix_some {Q : List Pd} {x : Int32} {i : Nat} (hn : Q.length ≤ 20) (h : ix Q x = some i) : i < Q.length ∧ x = nI i := by
  unfold ix at h
  split at h
  · cases h
  · rename_i hx
    have h1 : ¬ x < 0 := fun h => hx (Or.inl h)
    have h2 : ¬ nI Q.length ≤ x := fun h => hx (Or.inr h)
    obtain ⟨j, hj, rfl⟩ := nI_of h1
    rw [nI_clamp hj] at h
    cases h
    refine ⟨?_, rfl⟩
    rw [nI_leI (by omega) hj] at h2
    omega
theorem wx_at {ca : Nat → ClassId} {x0 da ht hr i a : Nat} {L : List Nat} {Q : List Pd} {t : Tr} {pd : Pd} (hL : L[i]? = some a) (hQ : Q[i]? = some pd) : (wx ca x0 da ht hr L Q t)[4 + i]? = some (cD ht (a, pd)) := by
  have h : (L.zip Q)[i]? = some (a, pd) := List.getElem?_zip_eq_some.mpr ⟨hL, hQ⟩
  show ((x0, _) :: (da, _) :: (wt ca ht hr t ++ wpo ht L Q))[4 + i]? = _
  rw [show 4 + i = (i + 2) + 1 + 1 by omega, List.getElem?_cons_succ, List.getElem?_cons_succ, List.getElem?_append_right (by show 2 ≤ i + 2; omega)]
  show (wpo ht L Q)[i + 2 - 2]? = _
  rw [Nat.add_sub_cancel, wpo, List.getElem?_map, h]; rfl
theorem wx_in {ca : Nat → ClassId} {x0 da ht hr j : Nat} {L : List Nat} {Q : List Pd} {t : Tr} {q : Nat × va_E} (h : (wx ca x0 da ht hr L Q t)[4 + j]? = some q) : ∃ a pd, L[j]? = some a ∧ Q[j]? = some pd ∧ q = cD ht (a, pd) := by
  have h : ((x0, (_ : va_E)) :: (da, _) :: (wt ca ht hr t ++ wpo ht L Q))[4 + j]? = some q := h
  rw [show 4 + j = (j + 2) + 1 + 1 by omega, List.getElem?_cons_succ, List.getElem?_cons_succ, List.getElem?_append_right (by show 2 ≤ j + 2; omega)] at h
  have h : (wpo ht L Q)[j + 2 - 2]? = some q := h
  rw [Nat.add_sub_cancel, wpo, List.getElem?_map] at h
  cases h9 : (L.zip Q)[j]? with
  | none => rw [h9] at h; cases h
  | some z =>
    rw [h9] at h
    obtain ⟨h1, h2⟩ := List.getElem?_zip_eq_some.mp h9
    exact ⟨z.1, z.2, h1, h2, (Option.some.inj h).symm⟩
section PX2
variable {D : va_G} {ca : Nat → ClassId} {H H1 : Heap} {A : Nat → Prop} {x0 da ht hr i a : Nat} {L : List Nat} {Q : List Pd} {t : Tr} {pd : Pd}
theorem px_cut (hP : va_P D cls (wx ca x0 da ht hr L Q t) H) (hL : L[i]? = some a) (hQ : Q[i]? = some pd) : va_P D cls (wd ca a ht hr (kc pd.1) (nI pd.1) pd.2.1 pd.2.2.1 pd.2.2.2 t) H := by
  intro k q hk
  match k, hk with
  | 0, hk => cases hk; exact hP (4 + i) _ (wx_at hL hQ)
  | 1, hk => cases hk; exact hP 2 _ rfl
  | 2, hk => cases hk; exact hP 3 _ rfl
  | k + 3, hk => cases hk
theorem dx_cut (hD : va_D A (wx ca x0 da ht hr L Q t)) (hL : L[i]? = some a) (hQ : Q[i]? = some pd) : va_D A (wd ca a ht hr (kc pd.1) (nI pd.1) pd.2.1 pd.2.2.1 pd.2.2.2 t) := by
  refine hD.by (fun k => if k = 0 then 4 + i else k + 1) ?_ ?_
  · intro k q hk
    match k, hk with
    | 0, hk => cases hk; exact wx_at hL hQ
    | 1, hk => cases hk; rfl
    | 2, hk => cases hk; rfl
    | k + 3, hk => cases hk
  · intro j k hj hk h
    have hj : j < 3 := hj
    have hk : k < 3 := hk
    have h : (if j = 0 then 4 + i else j + 1) = (if k = 0 then 4 + i else k + 1) := h
    split at h <;> split at h <;> omega
theorem px_join {d1 : Dv} {t1 : Tr} (hP : va_P D cls (wx ca x0 da ht hr L Q t) H) (hD : va_D A (wx ca x0 da ht hr L Q t)) (hL : L[i]? = some a) (hQ : Q[i]? = some pd)
    (hf : ∀ q : Nat, q < H.size → ¬ va_A (wd ca a ht hr (kc pd.1) (nI pd.1) pd.2.1 pd.2.2.1 pd.2.2.2 t) H.size q → H1[q]? = H[q]?) (hB : va_P D cls (wd ca a ht hr (kc pd.1) (nI pd.1) pd.2.1 pd.2.2.1 d1 t1) H1) :
    va_P D cls (wx ca x0 da ht hr L (Q.set i (pd.1, pd.2.1, pd.2.2.1, d1)) t1) H1 := by
  have keep : ∀ (k : Nat) (q : Nat × va_E), (wx ca x0 da ht hr L Q t)[k]? = some q → k ≠ 2 → k ≠ 3 → k ≠ 4 + i → va_at D cls q H1 := by
    intro k q hk h2 h3 h4
    have hq := hP k q hk
    refine hq.kept (hf q.1 hq.lt ?_)
    rintro (⟨j, e9, hj⟩ | h)
    · match j, hj with
      | 0, hj =>
        have e1 : a = q.1 := congrArg Prod.fst (Option.some.inj hj)
        exact h4 (hD.1 k (4 + i) q _ hk (wx_at hL hQ) e1.symm)
      | 1, hj =>
        have e1 : ht = q.1 := congrArg Prod.fst (Option.some.inj hj)
        exact h2 (hD.1 k 2 q _ hk rfl e1.symm)
      | 2, hj =>
        have e1 : hr = q.1 := congrArg Prod.fst (Option.some.inj hj)
        exact h3 (hD.1 k 3 q _ hk rfl e1.symm)
      | j + 3, hj => cases hj
    · have := hq.lt
      omega
  intro k q hk
  match k, hk with
  | 0, hk => exact keep 0 q hk (by omega) (by omega) (by omega)
  | 1, hk => exact keep 1 q hk (by omega) (by omega) (by omega)
  | 2, hk => cases hk; exact hB 1 _ rfl
  | 3, hk => cases hk; exact hB 2 _ rfl
  | k + 4, hk =>
    rw [Nat.add_comm] at hk
    obtain ⟨b, pe, h1, h2, rfl⟩ := wx_in hk
    by_cases e : k = i
    · subst e
      rw [hL] at h1; cases h1
      rw [List.getElem?_set_self (List.getElem?_eq_some_iff.mp hQ).1] at h2
      cases h2
      exact hB 0 _ rfl
    · rw [List.getElem?_set_ne (fun h => e h.symm)] at h2
      exact keep (4 + k) _ (wx_at h1 h2) (by omega) (by omega) (by omega)
theorem wx_map {Q' : List Pd} {t1 : Tr} (h : L.length = Q.length) (h' : Q'.length = Q.length) : (wx ca x0 da ht hr L Q' t1).map (·.1) = (wx ca x0 da ht hr L Q t).map (·.1) := by
  have e : ∀ Z : List Pd, L.length = Z.length → (wpo ht L Z).map (·.1) = L := by
    intro Z hz
    rw [wpo, List.map_map]
    show (L.zip Z).map Prod.fst = L
    exact List.map_fst_zip (Nat.le_of_eq hz)
  simp only [wx, List.map_cons, List.map_append, e Q h, e Q' (h.trans h'.symm)]
  rfl
end PX2
