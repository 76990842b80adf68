/-! what each call of the panel answers and leaves -/
def gQ (Q : List Pd) (i : Nat) : Pd := Q.getD i (0, 0, 0, 0, 0, 0, 0, false)
theorem gQ_of {Q : List Pd} {i : Nat} {pd : Pd} (h : Q[i]? = some pd) : gQ Q i = pd := by unfold gQ; rw [List.getD_eq_getElem?_getD, h]; rfl
def sQ (Q : List Pd) (i : Nat) (d : Dv) : List Pd := Q.set i ((gQ Q i).1, (gQ Q i).2.1, (gQ Q i).2.2.1, d)
theorem sQ_of {Q : List Pd} {i : Nat} {pd : Pd} (h : Q[i]? = some pd) (d : Dv) : sQ Q i d = Q.set i (pd.1, pd.2.1, pd.2.2.1, d) := by unfold sQ; rw [gQ_of h]
abbrev Rz : Type := Nat × Int32 × List Pd × Tr
def zW (Q : List Pd) (t : Tr) (x v : Int32) : Rz := match ix Q x with
  | none => (0, -101, Q, t)
  | some i => if rng (-10000) 10000 v = true then ((pw (gQ Q i).1 v (gQ Q i).2.2.2 t).1, (pw (gQ Q i).1 v (gQ Q i).2.2.2 t).2.1, sQ Q i (pw (gQ Q i).1 v (gQ Q i).2.2.2 t).2.2.1, (pw (gQ Q i).1 v (gQ Q i).2.2.2 t).2.2.2) else (0, -102, Q, t)
def zR (Q : List Pd) (t : Tr) (x v : Int32) : Rz := match ix Q x with
  | none => (0, -101, Q, t)
  | some i => if rng (-10000) 10000 v = true then ((pr (gQ Q i).1 v (gQ Q i).2.2.2 t).1, (pr (gQ Q i).1 v (gQ Q i).2.2.2 t).2.1.2.1, sQ Q i (pr (gQ Q i).1 v (gQ Q i).2.2.2 t).2.1, (pr (gQ Q i).1 v (gQ Q i).2.2.2 t).2.2) else (0, -102, Q, t)
abbrev Ry : Type := Int32 × List Pd × Tr
def zO (Q : List Pd) (t : Tr) (x : Int32) : Ry := match ix Q x with
  | none => (-101, Q, t)
  | some i => (bi (po (gQ Q i).1 (gQ Q i).2.2.1 (gQ Q i).2.2.2 t).1, sQ Q i (po (gQ Q i).1 (gQ Q i).2.2.1 (gQ Q i).2.2.2 t).2.1, (po (gQ Q i).1 (gQ Q i).2.2.1 (gQ Q i).2.2.2 t).2.2)
def zC (Q : List Pd) (t : Tr) (x : Int32) : Ry := match ix Q x with
  | none => (-101, Q, t)
  | some i => (1, sQ Q i (pcl (gQ Q i).1 (gQ Q i).2.2.2 t).1, (pcl (gQ Q i).1 (gQ Q i).2.2.2 t).2)
def zK (Q : List Pd) (t : Tr) (x : Int32) : Ry := match ix Q x with
  | none => (-101, Q, t)
  | some i => ((pk (gQ Q i).1 (gQ Q i).2.2.2 t).1, Q, (pk (gQ Q i).1 (gQ Q i).2.2.2 t).2)
def tel (pd : Pd) (w : Int32) : Int32 := if w = 0 then nI pd.1 else if w = 1 then pd.2.1 else if w = 2 then pd.2.2.1 else if w = 3 then pd.2.2.2.1 else if w = 4 then pd.2.2.2.2.1 else if w = 5 then pd.2.2.2.2.2.1 else if w = 6 then pd.2.2.2.2.2.2.1 else if w = 7 then bi pd.2.2.2.2.2.2.2 else -102
def zT (Q : List Pd) (x w : Int32) : Int32 := match ix Q x with
  | none => -101
  | some i => tel (gQ Q i) w
def QZ (D : va_G) (ws : va_W) (n : Nat) (v : Int32) (A : Nat → Prop) : Array Value → State → Outcome → State → Prop := va_Qi (S := Unit) (fun v' _ => n = 0 ∧ v' = v) (fun _ t => va_P D cls ws t.heap) A
def XZ (D : va_G) (ws : va_W) (n : Nat) (A : Nat → Prop) : String → State → State → Prop := vx_X (S := Unit) (fun _ => True) (fun E _ t => en n E ∧ va_P D cls ws t.heap) A
theorem isD_kc {n : Nat} (h : n < 8) : ∃ Cn, isD (kc n) Cn := by
  rcases k8 h with rfl | rfl | rfl | rfl | rfl | rfl | rfl | rfl
  · exact ⟨_, isD_3⟩
  · exact ⟨_, isD_8⟩
  · exact ⟨_, isD_4⟩
  · exact ⟨_, isD_5⟩
  · exact ⟨_, isD_2⟩
  · exact ⟨_, isD_0⟩
  · exact ⟨_, isD_1⟩
  · exact ⟨_, isD_7⟩
section RZ
variable {D : va_G} {ca : Nat → ClassId} {sa : Nat → Nat} {lo : Nat} {p : Program} {l : Launch} {e : Env} {R : Room} {s : State} {m : MethodId} {args : Array Value} {below : List Frame} {meth : Method} {c : Code} {cc : ByteArray} {nL : Nat} {own : String} {A : Nat → Prop} {H : Heap} {locs : List Loc} {cells slots mc ms : Nat} {ls : Array Slot} {pc : Nat} {rest : List Value}
theorem rzz (C : Cx D ca sa lo p s m c cc nL own A) (hrt : meth.sig.returnType = some .int) (hlocks : meth.locks = false) {ws : va_W} {n : Nat} {v v' : Int32} {XC : String → State → State → Prop} (h0 : n = 0) (hv : v' = v) (hP : va_P D cls ws H) (hS : va_S A s.heap H locs) (hdg : decode cc pc = .ok (.ireturn, 1)) (h1 : cells ≤ mc) (h2 : slots ≤ ms) : W p l e R s m args below meth c H locs cells slots (vx_MQ below (QZ D ws n v A) XC args s mc ms A) (F0 m pc ls [.int v']) :=
  W.widen h1 h2 (vx_ret (W.iret C.1 C.2.1 hrt (fun t ht hW => ⟨⟨v', (), rfl, ⟨h0, hv⟩, by subst ht; exact hP⟩, hS.F ht⟩) hS.2.2 hdg hlocks))
theorem ozz {ws : va_W} {n : Nat} {E : String} {ce : Cell} {q : Addr} {Qc : Array Value → State → Outcome → State → Prop} (hno : ∀ x ∈ c.exceptionTable.toList, False) (hlocks : meth.locks = false) (he : en n E) (hP : va_P D cls ws H) (hS : va_S A s.heap H locs) (hcell : H[q]? = some ce) (hv : ce.vm = .none) (hcl : s.vm.findClass E = some ce.cls) (h1 : cells ≤ mc) (h2 : slots ≤ ms) : vx_W p l e R s m args below meth c H locs cells slots (vx_MQ below Qc (XZ D ws n A) args s mc ms A) (F0 m pc ls rest) q :=
  vx_out (fun x hx => (hno x hx).elim) hlocks hcell hv hcl (fun t ht _ => ⟨(), trivial, ⟨he, by subst ht; exact hP⟩, hS.F ht⟩) hS.2.2 h1 h2
end RZ
