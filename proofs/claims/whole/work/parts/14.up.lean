theorem up_cast {C S S2 : String} {args : Array Value} {s : State} (hc : va_Nw (.castable C RX3) s) (h1 : (Cond.superclass C S).before args s = true) (h2 : (Cond.superclass RX3 S2).before args s = true) : ∀ a b : ClassId, s.vm.findClass C = some a → s.vm.findClass RX3 = some b → s.vm.isSubclass a b = true := by
  intro a b ha hb
  obtain ⟨p1, k1, kp1, -, hk1, -, -, ho1, -, hi1⟩ := Cond.superclass_spec ha h1
  obtain ⟨p2, k2, kp2, -, hk2, -, -, ho2, -, hi2⟩ := Cond.superclass_spec hb h2
  obtain ⟨c0, t0, f1, f2, f3⟩ := Cond.castable_spec (va_Nw.use (A := #[]) rfl hc)
  cases ha.symm.trans f1
  cases hb.symm.trans f2
  exact isSubclass_of_assignable hk1 hk2 ho1 ho2 hi2 f3
section UP
variable {D : va_G} {ca : Nat → ClassId} {sa : Nat → Nat} {s : State}
theorem up_84 (hk : KK D ca sa s) : ∀ a b : ClassId, s.vm.findClass RX8 = some a → s.vm.findClass RX3 = some b → s.vm.isSubclass a b = true := up_cast (args := #[]) (hk.2.2.1 (RX8, RX3) (by decide)) (su_X8 hk.1 _) (su_X3 hk.1 _)
theorem up_4 (hk : KK D ca sa s) : ∀ a b : ClassId, s.vm.findClass RX4 = some a → s.vm.findClass RX3 = some b → s.vm.isSubclass a b = true := up_cast (args := #[]) (hk.2.2.1 (RX4, RX3) (by decide)) (su_X4 hk.1 _) (su_X3 hk.1 _)
theorem up_5 (hk : KK D ca sa s) : ∀ a b : ClassId, s.vm.findClass RX5 = some a → s.vm.findClass RX3 = some b → s.vm.isSubclass a b = true := up_cast (args := #[]) (hk.2.2.1 (RX5, RX3) (by decide)) (su_X5 hk.1 _) (su_X3 hk.1 _)
end UP
/-- a place of cls that is a detector's -/
def isD (ci : Nat) (Cn : String) : Prop := cls[ci]? = some (Cn, TX3, 9) ∧ ∀ (U : State) (A : Array Value), kw U → ∀ w ∈ u_ws Cn TX3 9, w.before A U = true
theorem isD_0 : isD 0 RX0 := ⟨rfl, fun _ A h => uc_0 h A⟩
theorem isD_1 : isD 1 RX1 := ⟨rfl, fun _ A h => uc_1 h A⟩
theorem isD_2 : isD 2 RX2 := ⟨rfl, fun _ A h => uc_2 h A⟩
theorem isD_3 : isD 3 RX3 := ⟨rfl, fun _ A h => uc_3 h A⟩
theorem isD_4 : isD 4 RX4 := ⟨rfl, fun _ A h => uc_4 h A⟩
theorem isD_5 : isD 5 RX5 := ⟨rfl, fun _ A h => uc_5 h A⟩
theorem isD_7 : isD 7 RX7 := ⟨rfl, fun _ A h => uc_7 h A⟩
theorem isD_8 : isD 8 RX8 := ⟨rfl, fun _ A h => uc_8 h A⟩
/-- which name a thrown thing's kind has -/
def en (n : Nat) (E : String) : Prop := (n = 1 ∧ E = "java/lang/IllegalStateException") ∨ (n = 2 ∧ E = "java/lang/ArithmeticException")
/-- the ends of WEIGH, of READ, over the world w of what comes out -/
def QW (D : va_G) (w : Dv → Tr → va_W) (r : Rs) (A : Nat → Prop) : Array Value → State → Outcome → State → Prop := va_Qi (S := Unit) (fun v _ => r.1 = 0 ∧ v = r.2.1) (fun _ t => va_P D cls (w r.2.2.1 r.2.2.2) t.heap) A
def XW (D : va_G) (w : Dv → Tr → va_W) (r : Rs) (A : Nat → Prop) : String → State → State → Prop := vx_X (S := Unit) (fun _ => True) (fun E _ t => en r.1 E ∧ va_P D cls (w r.2.2.1 r.2.2.2) t.heap) A
def QR (D : va_G) (w : Dv → Tr → va_W) (r : Rr) (A : Nat → Prop) : Array Value → State → Outcome → State → Prop := va_Qv (S := Unit) (fun _ => r.1 = 0) (fun _ t => va_P D cls (w r.2.1 r.2.2) t.heap) A
def XR (D : va_G) (w : Dv → Tr → va_W) (r : Rr) (A : Nat → Prop) : String → State → State → Prop := vx_X (S := Unit) (fun _ => True) (fun E _ t => en r.1 E ∧ va_P D cls (w r.2.1 r.2.2) t.heap) A
section RE
variable {D : va_G} {ca : Nat → ClassId} {sa : Nat → Nat} {lo : Nat} {p : Program} {l : Launch} {e : Env} {R : Room} {s : State} {m : MethodId} {args : Array Value} {below : List Frame} {meth : Method} {c : Code} {cc : ByteArray} {nL : Nat} {own : String} {A : Nat → Prop} {H : Heap} {locs : List Loc} {cells slots mc ms : Nat} {ls : Array Slot} {pc : Nat} {rest : List Value}
/-- the ends of a method that may throw: it returns; what was thrown goes on to the caller -/
theorem rw_ (C : Cx D ca sa lo p s m c cc nL own A) (hrt : meth.sig.returnType = some .int) (hlocks : meth.locks = false) {w : Dv → Tr → va_W} {r : Rs} {v : Int32} (h0 : r.1 = 0) (hv : v = r.2.1) (hP : va_P D cls (w r.2.2.1 r.2.2.2) H) (hS : va_S A s.heap H locs) (hdg : decode cc pc = .ok (.ireturn, 1)) (h1 : cells ≤ mc) (h2 : slots ≤ ms) : W p l e R s m args below meth c H locs cells slots (vx_MQ below (QW D w r A) (XW D w r A) args s mc ms A) (F0 m pc ls [.int v]) :=
  W.widen h1 h2 (vx_ret (W.iret C.1 C.2.1 hrt (fun t ht hW => ⟨⟨v, (), rfl, ⟨h0, hv⟩, by subst ht; exact hP⟩, hS.F ht⟩) hS.2.2 hdg hlocks))
theorem rr_ (C : Cx D ca sa lo p s m c cc nL own A) (hrt : meth.sig.returnType = none) (hlocks : meth.locks = false) {w : Dv → Tr → va_W} {r : Rr} (h0 : r.1 = 0) (hP : va_P D cls (w r.2.1 r.2.2) H) (hS : va_S A s.heap H locs) (hdg : decode cc pc = .ok (.return_, 1)) (h1 : cells ≤ mc) (h2 : slots ≤ ms) : W p l e R s m args below meth c H locs cells slots (vx_MQ below (QR D w r A) (XR D w r A) args s mc ms A) (F0 m pc ls []) :=
  W.widen h1 h2 (vx_ret (W.vret C.1 C.2.1 hrt (fun t ht hW => ⟨⟨(), rfl, h0, by subst ht; exact hP⟩, hS.F ht⟩) hS.2.2 hdg hlocks))
theorem ow_ {w : Dv → Tr → va_W} {r : Rs} {E : String} {ce : Cell} {q : Addr} {Qc : Array Value → State → Outcome → State → Prop} (hno : ∀ x ∈ c.exceptionTable.toList, False) (hlocks : meth.locks = false) (he : en r.1 E) (hP : va_P D cls (w r.2.2.1 r.2.2.2) H) (hS : va_S A s.heap H locs) (hcell : H[q]? = some ce) (hv : ce.vm = .none) (hcl : s.vm.findClass E = some ce.cls) (h1 : cells ≤ mc) (h2 : slots ≤ ms) : vx_W p l e R s m args below meth c H locs cells slots (vx_MQ below Qc (XW D w r A) args s mc ms A) (F0 m pc ls rest) q :=
  vx_out (fun x hx => (hno x hx).elim) hlocks hcell hv hcl (fun t ht _ => ⟨(), trivial, ⟨he, by subst ht; exact hP⟩, hS.F ht⟩) hS.2.2 h1 h2
theorem or_ {w : Dv → Tr → va_W} {r : Rr} {E : String} {ce : Cell} {q : Addr} {Qc : Array Value → State → Outcome → State → Prop} (hno : ∀ x ∈ c.exceptionTable.toList, False) (hlocks : meth.locks = false) (he : en r.1 E) (hP : va_P D cls (w r.2.1 r.2.2) H) (hS : va_S A s.heap H locs) (hcell : H[q]? = some ce) (hv : ce.vm = .none) (hcl : s.vm.findClass E = some ce.cls) (h1 : cells ≤ mc) (h2 : slots ≤ ms) : vx_W p l e R s m args below meth c H locs cells slots (vx_MQ below Qc (XR D w r A) args s mc ms A) (F0 m pc ls rest) q :=
  vx_out (fun x hx => (hno x hx).elim) hlocks hcell hv hcl (fun t ht _ => ⟨(), trivial, ⟨he, by subst ht; exact hP⟩, hS.F ht⟩) hS.2.2 h1 h2
end RE
