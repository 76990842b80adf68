def rng (a b x : Int32) : Bool := decide (a ≤ x) && decide (x ≤ b)
def QQ (D : va_G) (r : Option Nat) (ws : va_W) (A : Nat → Prop) : Array Value → State → Outcome → State → Prop := va_Qq (S := Unit) (fun r' _ => r' = r) (fun _ t => va_P D cls ws t.heap) A
section PC
variable {D : va_G} {ca : Nat → ClassId} {sa : Nat → Nat} {lo : Nat} {p : Program} {l : Launch} {e : Env} {R : Room} {s : State} {m : MethodId} {args : Array Value} {below : List Frame} {meth : Method} {c : Code} {cc : ByteArray} {nL : Nat} {own : String} {A : Nat → Prop} {H : Heap} {locs : List Loc} {cells slots : Nat} {Q9 : State → Prop} {ls : Array Slot} {pc : Nat} {rest : List Value}
theorem rq_ (C : Cx D ca sa lo p s m c cc nL own A) {Cn : String} (hrt : meth.sig.returnType = some (.object Cn)) (hlocks : meth.locks = false) {ws : va_W} {v : Value} {r : Option Nat} (hv : v = va_rf r) (hP : va_P D cls ws H) (hS : va_S A s.heap H locs) (hdg : decode cc pc = .ok (.areturn, 1)) : W p l e R s m args below meth c H locs cells slots (MQ below (QQ D r ws A) args s cells slots A) (F0 m pc ls [v]) := by
  subst hv
  exact W.aret C.1 C.2.1 hrt (Or.inl ⟨_, rfl⟩) (va_rf_or r) (fun t ht hW => ⟨⟨r, (), rfl, rfl, by subst ht; exact hP⟩, hS.F ht⟩) hS.2.2 hdg hlocks
/-- a static call over the cells wc -/
theorem run_S {y : MethodName} {bytes : ByteArray} {maxL mc ms n index : Nat} {ret : Option FieldType} {rm : Room} {As : List Value} {Qc : Array Value → State → Outcome → State → Prop} {free : Addr → Prop} {wc : va_W} {st : List Value}
    (C : Cx D ca sa lo p s m c cc nL own A) (hM : Met l y [.code y bytes maxL ret] rm (PX D ca sa lo H.size As wc) Qc mc ms free) (hco : ∀ (U : State) (A9 : Array Value), kw U → (Cond.code y bytes maxL ret).before A9 U = true)
    (hini : (Cond.initialized y.cls).before args s = true) (hli : (Cond.methodLink own index y).before args s = true) (hst : (Cond.static y).before args s = true)
    (hd : y.cls ≠ "java/lang/invoke/MethodHandle" ∧ y.cls ≠ "java/lang/invoke/VarHandle" ∧ (parseMethodDescriptor y.desc).map (fun d => d.parameters.length) = some n) (hR : (rm.cells = mc ∧ rm.slots = ms) ∧ rm.frames + 1 ≤ R.frames ∧ 8 + (maxL + 11) + rm.locals ≤ R.locals)
    (hP : va_P D cls wc H) (hD : va_D A wc) (hS : va_S A s.heap H locs)
    (hn : As.length = n) (hsize : ls.size = nL) (hstack : st = As.reverse ++ rest) (hW : (rest.map fun v => v.category).sum ≤ 8) (hdg : decode cc pc = .ok (.invokestatic index, 3)) (hf : cells + mc ≤ R.cells ∧ slots + ms ≤ R.slots) :
    va_Run p l e R s m args below meth c H locs cells slots mc ms (F0 m pc ls st) rest (Qc As.toArray) free := by
  obtain ⟨hx, hb, hml, hown, hk, hz⟩ := id C
  refine va_runS (Ts := []) (cc := cc) (nL := nL) (own := own) ⟨hx, hb, hml, hown, fun w h => nomatch h⟩ hM
    ⟨⟨hR.1.1, hR.1.2, hR.2.1, hR.2.2, fun w hw a' U hW => by cases List.mem_singleton.mp hw; exact hco U a' (hk.1.warm hW), List.mem_singleton.mpr rfl, hco s args hk.1, hini, ⟨hd.1, hd.2.1⟩, fun sig h => by
      have h2 := hd.2.2
      rw [h] at h2
      exact (Option.some.inj h2).symm, hli⟩, hst⟩
    ⟨PX.blind, fun U hU hW => PX.of C hP hD hS hU hW⟩ rfl hn hsize hstack (lv_room hW) hdg hf
theorem va_D.nil : va_D A [] := ⟨fun i j p q h => by simp at h, fun k q h => by simp at h⟩
theorem va_P.nil : va_P D cls [] H := fun k q h => by simp at h
/-- a static call of one that only looks at its numbers: all cells stay -/
theorem k_num {y : MethodName} {bytes : ByteArray} {maxL n index : Nat} {ret : Option FieldType} {rm : Room} {As : List Value} {ws : va_W} {st : List Value} {r : Int32}
    (C : Cx D ca sa lo p s m c cc nL own A) (hM : ∀ sz, Met l y [.code y bytes maxL ret] rm (PX D ca sa lo sz As []) (QI D r [] (va_A [] sz)) 0 0 (va_A [] sz)) (hco : ∀ (U : State) (A9 : Array Value), kw U → (Cond.code y bytes maxL ret).before A9 U = true)
    (hini : (Cond.initialized y.cls).before args s = true) (hli : (Cond.methodLink own index y).before args s = true) (hst : (Cond.static y).before args s = true)
    (hd : y.cls ≠ "java/lang/invoke/MethodHandle" ∧ y.cls ≠ "java/lang/invoke/VarHandle" ∧ (parseMethodDescriptor y.desc).map (fun d => d.parameters.length) = some n) (hR : (rm.cells = 0 ∧ rm.slots = 0) ∧ rm.frames + 1 ≤ R.frames ∧ 8 + (maxL + 11) + rm.locals ≤ R.locals)
    (hP : va_P D cls ws H) (hS : va_S A s.heap H locs)
    (hn : As.length = n) (hsize : ls.size = nL) (hstack : st = As.reverse ++ rest) (hW : (rest.map fun v => v.category).sum ≤ 8) (hdg : decode cc pc = .ok (.invokestatic index, 3)) (hf : cells ≤ R.cells ∧ slots ≤ R.slots)
    (kk : ∀ (H1 : Heap) (locs1 : List Loc), va_P D cls ws H1 → va_S A s.heap H1 locs1 → (∀ q, q < H.size → H1[q]? = H[q]?) → H.size ≤ H1.size → W p l e R s m args below meth c H1 locs1 cells slots Q9 (F0 m (pc + 3) ls (.int r :: rest))) :
    W p l e R s m args below meth c H locs cells slots Q9 (F0 m pc ls st) := by
  have hfr := fr_of (wc := []) C va_D.nil hS
  refine va_calli (run_S (rest := rest) C (hM H.size) hco hini hli hst hd hR va_P.nil va_D.nil hS hn hsize hstack hW hdg hf) hS (fun q _ h => hfr q h) hfr (fun r9 u t H1 locs1 ht1 hvm hp hB hz1 hk1 hS1 => ?_)
  cases hp
  have hkk : ∀ q, q < H.size → H1[q]? = H[q]? := fun q hq => hk1 q hq (by rintro (⟨k, e9, h⟩ | h); · simp at h
                                                                          · omega)
  exact kk _ _ (hP.kept (fun k q hk => hkk q.1 (hP k q hk).lt)) hS1 hkk hz1
end PC
