def lp {α : Type} (f : Nat → α → α) : Nat → α → α
  | 0, u => u
  | n + 1, u => f n (lp f n u)
abbrev Lu : Type := List Pd × Tr × Int32
def swS (zn v : Int32) (i : Nat) (u : Lu) : Lu := if (gQ u.1 i).2.1 = zn then (sQ u.1 i (pr (gQ u.1 i).1 v (gQ u.1 i).2.2.2 u.2.1).2.1, (pr (gQ u.1 i).1 v (gQ u.1 i).2.2.2 u.2.1).2.2, if (pr (gQ u.1 i).1 v (gQ u.1 i).2.2.2 u.2.1).1 = 0 then u.2.2 else u.2.2 + 1) else u
def alS (zn : Int32) (i : Nat) (u : Lu) : Lu := if (gQ u.1 i).2.1 = zn then (sQ u.1 i (pv (gQ u.1 i).1 (gQ u.1 i).2.2.1 (gQ u.1 i).2.2.2 u.2.1).2.1, (pv (gQ u.1 i).1 (gQ u.1 i).2.2.1 (gQ u.1 i).2.2.2 u.2.1).2.2, u.2.2 + (pv (gQ u.1 i).1 (gQ u.1 i).2.2.1 (gQ u.1 i).2.2.2 u.2.1).1) else u
def csS (i : Nat) (u : Lu) : Lu := (u.1, (pk (gQ u.1 i).1 (gQ u.1 i).2.2.2 u.2.1).2, u.2.2 + (pk (gQ u.1 i).1 (gQ u.1 i).2.2.2 u.2.1).1)
def zS (Q : List Pd) (t : Tr) (zn v : Int32) : Ry := if rng 0 5 zn = true ∧ rng (-10000) 10000 v = true then ((lp (swS zn v) Q.length (Q, t, 0)).2.2, (lp (swS zn v) Q.length (Q, t, 0)).1, (lp (swS zn v) Q.length (Q, t, 0)).2.1) else (-102, Q, t)
def zA (Q : List Pd) (t : Tr) (zn k : Int32) : Ry := if rng 0 5 zn = true ∧ rng 1 60 k = true then (bi (decide (k ≤ (lp (alS zn) Q.length (Q, t, 0)).2.2)), (lp (alS zn) Q.length (Q, t, 0)).1, (lp (alS zn) Q.length (Q, t, 0)).2.1) else (-102, Q, t)
def zP (Q : List Pd) (t : Tr) : Ry := ((lp csS Q.length (Q, t, 0)).2.2, (lp csS Q.length (Q, t, 0)).1, (lp csS Q.length (Q, t, 0)).2.1)
theorem sQ_len (Q : List Pd) (i : Nat) (d : Dv) : (sQ Q i d).length = Q.length := List.length_set
theorem sQ_ok {L : List Nat} {Q : List Pd} {i : Nat} (d : Dv) (h : okP L Q) (hi : i < Q.length) : okP L (sQ Q i d) := by
  refine ⟨by rw [sQ_len]; exact h.1, by rw [sQ_len]; exact h.2.1, fun pd hp => ?_⟩
  rcases List.mem_or_eq_of_mem_set hp with h1 | h1
  · exact h.2.2 pd h1
  · rw [h1]
    have e : gQ Q i = Q[i] := gQ_of (List.getElem?_eq_getElem hi)
    rw [e]
    exact (h.2.2 Q[i] (List.getElem_mem hi) : Q[i].1 < 8)
/-- a method that has handlers of its own, and returns -/
theorem mk_metH {D : va_G} {ca : Nat → ClassId} {sa : Nat → Nat} {lo sz : Nat} {l : Launch} {y : MethodName} {cc : ByteArray} {maxL : Nat} {ret : Option FieldType} {hh : List (Nat × Nat × Nat × Nat)} {rm : Room} {av : List Value} {ws : va_W} {mc ms : Nat} (Qc : (Nat → Prop) → Array Value → State → Outcome → State → Prop)
    (hy : plainName y.cls = true) (hlen : (lg_sl av).length ≤ maxL)
    (body : ∀ (p : Program) (e : Env) (s : State) (m : MethodId) (below : List Frame) (meth : Method) (c : Code) (A : Nat → Prop) (ls : Array Slot), Cx D ca sa lo p s m c cc maxL y.cls A → meth.sig.returnType = ret → meth.locks = false → c.exceptionTable.toList = tableOf hh → s.heap.size = sz → va_P D cls ws s.heap → va_D A ws → va_S A s.heap s.heap [] → lv_has ls maxL (lv_args 0 av) →
      W p l e rm s m av.toArray below meth c s.heap [] 0 0 (MQ below (Qc A) av.toArray s mc ms A) (F0 m 0 ls [])) :
    Met l y [.codeWith y cc maxL ret hh] rm (PX D ca sa lo sz av ws) (Qc (va_A ws sz)) mc ms (va_A ws sz) := by
  refine MetFree.of_bodyS (code := cc) (maxLocals := maxL) (ret := ret) hy ?_ ?_
  · intro args s m h hn
    obtain ⟨m9, meth, c, hn9, h1, h2, h3, h4, -, h5, h6, -⟩ := Cond.codeWith_spec (atoms_spec (ws := [.codeWith y cc maxL ret hh]) h _ List.mem_cons_self)
    cases hn.symm.trans hn9
    exact ⟨meth, c, h1, h2, h3, h4, h5, h6⟩
  · intro p e s m args below meth c s₁ B hml hv _
    have hh0 : s₁.heap = s.heap := by rw [B.state]; rfl
    have htab := vx_table (x := y) B (atoms_spec (ws := [.codeWith y cc maxL ret hh]) B.pre _ List.mem_cons_self)
    obtain ⟨rfl, hsz, hP, hD, hk, hz, hlo⟩ := hv
    subst hsz
    have hA1 : ∀ q : Nat, s.heap.size ≤ q → va_A ws s.heap.size q := fun q h => Or.inr h
    have hA2 : ∀ q : Nat, va_A ws s.heap.size q → lo ≤ q := fun q h => by
      rcases h with ⟨k, e9, hk9⟩ | h
      · exact hD.2 k _ hk9
      · exact Nat.le_trans hlo h
    have hl := lv_entry av (n := maxL) hlen
    have K : W p l e rm s m av.toArray below meth c s.heap [] 0 0 (MQ below (Qc (va_A ws s.heap.size)) av.toArray s mc ms (va_A ws s.heap.size)) (entryFrame m av.toArray maxL) := by
      rw [lg_entry_eq]
      exact body p e s m below meth c (va_A ws s.heap.size) _ ⟨B.exec, B.bytes, hml, findClass_of_methodNamed B.named, hk, hz, hlo, hA1, hA2⟩ B.returns B.notSynchronized htab rfl hP hD.self va_S.rf hl
    obtain ⟨t, a1, o, b1, b2, b3⟩ := K s₁ hh0 (Stand.of_body B)
    exact ⟨t, o, a1, b1, b2, b3⟩
