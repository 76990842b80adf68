/-! makers -/
def z9 (h0 ci : Nat) : va_W := [(h0, .inr (ci, [.null, .int 0, .int 0, .int 0, .int 0, .int 0, .int 0, .int 0, .int 0]))]
def cI (l : Launch) (D : va_G) (ca : Nat → ClassId) (sa : Nat → Nat) (lo : Nat) (y : MethodName) (b : ByteArray) (rm : Room) (ci : Nat) : Prop := ∀ (sz h0 ht : Nat) (kd zn lm ch : Int32), Met l y [.code y b 6 none] rm (PX D ca sa lo sz [.ref h0, .ref ht, .int kd, .int zn, .int lm, .int ch] (z9 h0 ci)) (QV D [(h0, .inr (ci, df ht kd zn lm (ch, 0, 0, 0, false)))] (va_A (z9 h0 ci) sz)) 0 0 (va_A (z9 h0 ci) sz)
section IC
variable {D : va_G} {ca : Nat → ClassId} {sa : Nat → Nat} {lo : Nat} {p : Program} {l : Launch} {e : Env} {R : Room} {s : State} {m : MethodId} {args : Array Value} {below : List Frame} {meth : Method} {c : Code} {cc : ByteArray} {nL : Nat} {own : String} {A : Nat → Prop} {H : Heap} {locs : List Loc} {cells slots : Nat} {Q9 : State → Prop} {ls : Array Slot} {pc : Nat} {rest : List Value}
theorem run_I {y : MethodName} {bytes : ByteArray} {maxL mc ms n index : Nat} {rm : Room} {As : List Value} {Qc : Array Value → State → Outcome → State → Prop} {free : Addr → Prop} {wc : va_W} {b : Addr} {st : List Value}
    (C : Cx D ca sa lo p s m c cc nL own A) (hM : Met l y [.code y bytes maxL none] rm (PX D ca sa lo H.size (.ref b :: As) wc) Qc mc ms free) (hco : ∀ (U : State) (A9 : Array Value), kw U → (Cond.code y bytes maxL none).before A9 U = true)
    (hini : (Cond.initialized y.cls).before args s = true) (hli : (Cond.methodLink own index y).before args s = true) (him : (Cond.instanceMethod y).before args s = true) (hy1 : y.name = "<init>")
    (hd : y.cls ≠ "java/lang/invoke/MethodHandle" ∧ y.cls ≠ "java/lang/invoke/VarHandle" ∧ (parseMethodDescriptor y.desc).map (fun d => d.parameters.length) = some n) (hR : (rm.cells = mc ∧ rm.slots = ms) ∧ rm.frames + 1 ≤ R.frames ∧ 8 + (maxL + 11) + rm.locals ≤ R.locals)
    (hP : va_P D cls wc H) (hD : va_D A wc) (hS : va_S A s.heap H locs)
    (hn : As.length = n) (hsize : ls.size = nL) (hstack : st = As.reverse ++ .ref b :: rest) (hW : (rest.map fun v => v.category).sum ≤ 8) (hdg : decode cc pc = .ok (.invokespecial index, 3)) (hf : cells + mc ≤ R.cells ∧ slots + ms ≤ R.slots) :
    va_Run p l e R s m args below meth c H locs cells slots mc ms (F0 m pc ls st) rest (Qc (Value.ref b :: As).toArray) free := by
  obtain ⟨hx, hb, hml, hown, hk, hz⟩ := id C
  refine va_runI (Ts := []) (cc := cc) (nL := nL) (own := own) ⟨hx, hb, hml, hown, fun w h => nomatch h⟩ hM
    ⟨⟨hR.1.1, hR.1.2, hR.2.1, hR.2.2, fun w hw a' U hW => by cases List.mem_singleton.mp hw; exact hco U a' (hk.1.warm hW), List.mem_singleton.mpr rfl, hco s args hk.1, hini, ⟨hd.1, hd.2.1⟩, fun sig h => by
      have h2 := hd.2.2
      rw [h] at h2
      exact (Option.some.inj h2).symm, hli⟩, hy1, him⟩
    ⟨PX.blind, fun U hU hW => PX.of C hP hD hS hU hW⟩ rfl hn hsize hstack (lv_room hW) hdg hf
theorem P_last {ws : va_W} {x1 : Nat × va_E} (h : va_P D cls (ws ++ [x1]) H) : va_P D cls [x1] H := fun k q hk => by
  have hk0 : k < 1 := (List.getElem?_eq_some_iff.mp hk).1
  rw [show k = 0 by omega] at hk
  refine h ws.length q ?_
  rw [List.getElem?_append_right (Nat.le_refl _), Nat.sub_self]; exact hk
theorem D_last {ws : va_W} {x1 : Nat × va_E} (h : va_D A (ws ++ [x1])) : va_D A [x1] := by
  refine ⟨fun i j a b hi hj _ => ?_, fun k q hk => ?_⟩
  · have h1 : i < 1 := (List.getElem?_eq_some_iff.mp hi).1
    have h2 : j < 1 := (List.getElem?_eq_some_iff.mp hj).1
    omega
  · have hk0 : k < 1 := (List.getElem?_eq_some_iff.mp hk).1
    rw [show k = 0 by omega] at hk
    refine h.2 ws.length q ?_
    rw [List.getElem?_append_right (Nat.le_refl _), Nat.sub_self]; exact hk
theorem P_lastj {ws : va_W} {x1 x2 : Nat × va_E} {H1 : Heap} (hP : va_P D cls (ws ++ [x1]) H) (hD : va_D A (ws ++ [x1])) (hf : ∀ q : Nat, q < H.size → ¬ va_A [x1] H.size q → H1[q]? = H[q]?) (hB : va_P D cls [x2] H1) : va_P D cls (ws ++ [x2]) H1 := by
  intro k q hk
  rcases Nat.lt_or_ge k ws.length with h | h
  · rw [List.getElem?_append_left h] at hk
    have hk' : (ws ++ [x1])[k]? = some q := by rw [List.getElem?_append_left h]; exact hk
    have hq := hP k q hk'
    refine hq.kept (hf q.1 hq.lt ?_)
    rintro (⟨j, e9, hj⟩ | h9)
    · have hj0 : j < 1 := (List.getElem?_eq_some_iff.mp hj).1
      rw [show j = 0 by omega] at hj
      have := hD.1 k ws.length q x1 hk' (by rw [List.getElem?_append_right (Nat.le_refl _), Nat.sub_self]; rfl) (by cases hj; rfl)
      omega
    · have := hq.lt
      omega
  · rw [List.getElem?_append_right h] at hk
    exact hB _ q hk
theorem k_IL {ws : va_W} {y : MethodName} {b : ByteArray} {rm : Room} {q ht ci index : Nat} {kd zn lm ch : Int32} (C : Cx D ca sa lo p s m c cc nL own A) (hM : cI l D ca sa lo y b rm ci) (hco : ∀ (U : State) (A9 : Array Value), kw U → (Cond.code y b 6 none).before A9 U = true)
    (hini : (Cond.initialized y.cls).before args s = true) (hli : (Cond.methodLink own index y).before args s = true) (him : (Cond.instanceMethod y).before args s = true) (hy1 : y.name = "<init>")
    (hd : y.cls ≠ "java/lang/invoke/MethodHandle" ∧ y.cls ≠ "java/lang/invoke/VarHandle" ∧ (parseMethodDescriptor y.desc).map (fun d => d.parameters.length) = some 5) (hR : (rm.cells = 0 ∧ rm.slots = 0) ∧ rm.frames + 1 ≤ R.frames ∧ 8 + (6 + 11) + rm.locals ≤ R.locals)
    (hP : va_P D cls (ws ++ z9 q ci) H) (hD : va_D A (ws ++ z9 q ci)) (hS : va_S A s.heap H locs) (hsize : ls.size = nL) (hW : (rest.map fun v => v.category).sum ≤ 8) (hdg : decode cc pc = .ok (.invokespecial index, 3)) (hf : cells ≤ R.cells ∧ slots ≤ R.slots)
    (kk : ∀ (H1 : Heap) (locs1 : List Loc), va_P D cls (ws ++ [(q, .inr (ci, df ht kd zn lm (ch, 0, 0, 0, false)))]) H1 → va_D A (ws ++ [(q, .inr (ci, df ht kd zn lm (ch, 0, 0, 0, false)))]) → va_S A s.heap H1 locs1 → W p l e R s m args below meth c H1 locs1 cells slots Q9 (F0 m (pc + 3) ls rest)) :
    W p l e R s m args below meth c H locs cells slots Q9 (F0 m pc ls (.int ch :: .int lm :: .int zn :: .int kd :: .ref ht :: .ref q :: rest)) := by
  have hPc := P_last hP
  have hDc := D_last hD
  have hfr := fr_of C hDc hS
  refine va_callv (run_I (As := [.ref ht, .int kd, .int zn, .int lm, .int ch]) (rest := rest) C (hM H.size q ht kd zn lm ch) hco hini hli him hy1 hd hR hPc hDc hS rfl hsize rfl hW hdg hf) hS (fun q _ h => hfr q h) hfr (fun u t1 H1 locs1 ht1 hvm _ hB hz1 hk1 hS1 => ?_)
  subst ht1
  exact kk _ _ (P_lastj hP hD hk1 hB) (hD.to (by simp [z9])) hS1
end IC
