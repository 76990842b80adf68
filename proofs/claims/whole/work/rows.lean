section
-- ===== PART A: goes FIRST, ahead of the names: the tables' words, and 'selects' of the private methods out of them =====
/-- a private method of a class that the tables say can be made, by its rows of tables_1 -/
def lw_okq (q : MethodName × Nat) : Prop := (q.1.cls ≠ "java/lang/invoke/MethodHandle" ∧ q.1.cls ≠ "java/lang/invoke/VarHandle") ∧ Cond.instantiable q.1.cls q.2 ∈ tables_1 ∧ Cond.privateMethod q.1 ∈ tables_1 ∧ Cond.instanceMethod q.1 ∈ tables_1
theorem lw_p0 : lw_okq (⟨"AlarmKinds", "make", "(IIII)LAlarmKinds$Plain;"⟩, 3) := ⟨⟨by decide +kernel, by decide +kernel⟩, List.mem_of_getElem? (i := 19) (by decide +kernel), List.mem_of_getElem? (i := 84) (by decide +kernel), List.mem_of_getElem? (i := 85) (by decide +kernel)⟩
theorem lw_p1 : lw_okq (⟨"AlarmKinds", "find", "(I)LAlarmKinds$Plain;"⟩, 3) := ⟨⟨by decide +kernel, by decide +kernel⟩, List.mem_of_getElem? (i := 19) (by decide +kernel), List.mem_of_getElem? (i := 271) (by decide +kernel), List.mem_of_getElem? (i := 272) (by decide +kernel)⟩
theorem lw_p2 : lw_okq (⟨"AlarmKinds", "findIn", "(II)LAlarmKinds$Plain;"⟩, 3) := ⟨⟨by decide +kernel, by decide +kernel⟩, List.mem_of_getElem? (i := 19) (by decide +kernel), List.mem_of_getElem? (i := 375) (by decide +kernel), List.mem_of_getElem? (i := 376) (by decide +kernel)⟩
theorem lw_p3 : lw_okq (⟨"java/lang/Throwable", "fillInStackTrace", "(I)Ljava/lang/Throwable;"⟩, 6) := ⟨⟨by decide +kernel, by decide +kernel⟩, List.mem_of_getElem? (i := 451) (by decide +kernel), List.mem_of_getElem? (i := 449) (by decide +kernel), List.mem_of_getElem? (i := 450) (by decide +kernel)⟩
theorem lw_p4 : lw_okq (⟨"AlarmKindsModel", "refused", "(II)I"⟩, 15) := ⟨⟨by decide +kernel, by decide +kernel⟩, List.mem_of_getElem? (i := 575) (by decide +kernel), List.mem_of_getElem? (i := 643) (by decide +kernel), List.mem_of_getElem? (i := 644) (by decide +kernel)⟩
theorem lw_p5 : lw_okq (⟨"AlarmKindsModel", "isThere", "(I)Z"⟩, 15) := ⟨⟨by decide +kernel, by decide +kernel⟩, List.mem_of_getElem? (i := 575) (by decide +kernel), List.mem_of_getElem? (i := 647) (by decide +kernel), List.mem_of_getElem? (i := 648) (by decide +kernel)⟩
theorem lw_p6 : lw_okq (⟨"AlarmKindsModel", "readOf", "(II)V"⟩, 15) := ⟨⟨by decide +kernel, by decide +kernel⟩, List.mem_of_getElem? (i := 575) (by decide +kernel), List.mem_of_getElem? (i := 651) (by decide +kernel), List.mem_of_getElem? (i := 652) (by decide +kernel)⟩
theorem lw_p7 : lw_okq (⟨"AlarmKindsModel", "readSmoke", "(II)V"⟩, 15) := ⟨⟨by decide +kernel, by decide +kernel⟩, List.mem_of_getElem? (i := 575) (by decide +kernel), List.mem_of_getElem? (i := 655) (by decide +kernel), List.mem_of_getElem? (i := 656) (by decide +kernel)⟩
theorem lw_p8 : lw_okq (⟨"AlarmKindsModel", "rule", "(II)V"⟩, 15) := ⟨⟨by decide +kernel, by decide +kernel⟩, List.mem_of_getElem? (i := 575) (by decide +kernel), List.mem_of_getElem? (i := 659) (by decide +kernel), List.mem_of_getElem? (i := 660) (by decide +kernel)⟩
theorem lw_p9 : lw_okq (⟨"AlarmKindsModel", "readPlain", "(II)V"⟩, 15) := ⟨⟨by decide +kernel, by decide +kernel⟩, List.mem_of_getElem? (i := 575) (by decide +kernel), List.mem_of_getElem? (i := 663) (by decide +kernel), List.mem_of_getElem? (i := 664) (by decide +kernel)⟩
theorem lw_p10 : lw_okq (⟨"AlarmKindsModel", "weighed", "(II)I"⟩, 15) := ⟨⟨by decide +kernel, by decide +kernel⟩, List.mem_of_getElem? (i := 575) (by decide +kernel), List.mem_of_getElem? (i := 667) (by decide +kernel), List.mem_of_getElem? (i := 668) (by decide +kernel)⟩
theorem lw_p11 : lw_okq (⟨"AlarmKindsModel", "radio", "(I)Z"⟩, 15) := ⟨⟨by decide +kernel, by decide +kernel⟩, List.mem_of_getElem? (i := 575) (by decide +kernel), List.mem_of_getElem? (i := 671) (by decide +kernel), List.mem_of_getElem? (i := 672) (by decide +kernel)⟩
theorem lw_p12 : lw_okq (⟨"AlarmKindsModel", "flat", "()V"⟩, 15) := ⟨⟨by decide +kernel, by decide +kernel⟩, List.mem_of_getElem? (i := 575) (by decide +kernel), List.mem_of_getElem? (i := 675) (by decide +kernel), List.mem_of_getElem? (i := 676) (by decide +kernel)⟩
theorem lw_p13 : lw_okq (⟨"AlarmKindsModel", "isOver", "(I)Z"⟩, 15) := ⟨⟨by decide +kernel, by decide +kernel⟩, List.mem_of_getElem? (i := 575) (by decide +kernel), List.mem_of_getElem? (i := 687) (by decide +kernel), List.mem_of_getElem? (i := 688) (by decide +kernel)⟩
theorem lw_p14 : lw_okq (⟨"AlarmKindsModel", "overPlain", "(I)Z"⟩, 15) := ⟨⟨by decide +kernel, by decide +kernel⟩, List.mem_of_getElem? (i := 575) (by decide +kernel), List.mem_of_getElem? (i := 691) (by decide +kernel), List.mem_of_getElem? (i := 692) (by decide +kernel)⟩
theorem lw_p15 : lw_okq (⟨"AlarmKindsModel", "costOf", "(I)I"⟩, 15) := ⟨⟨by decide +kernel, by decide +kernel⟩, List.mem_of_getElem? (i := 575) (by decide +kernel), List.mem_of_getElem? (i := 703) (by decide +kernel), List.mem_of_getElem? (i := 704) (by decide +kernel)⟩
def lw_privs_1 : List (MethodName × Nat) := [(⟨"AlarmKinds", "make", "(IIII)LAlarmKinds$Plain;"⟩, 3), (⟨"AlarmKinds", "find", "(I)LAlarmKinds$Plain;"⟩, 3), (⟨"AlarmKinds", "findIn", "(II)LAlarmKinds$Plain;"⟩, 3), (⟨"java/lang/Throwable", "fillInStackTrace", "(I)Ljava/lang/Throwable;"⟩, 6), (⟨"AlarmKindsModel", "refused", "(II)I"⟩, 15), (⟨"AlarmKindsModel", "isThere", "(I)Z"⟩, 15), (⟨"AlarmKindsModel", "readOf", "(II)V"⟩, 15), (⟨"AlarmKindsModel", "readSmoke", "(II)V"⟩, 15), (⟨"AlarmKindsModel", "rule", "(II)V"⟩, 15), (⟨"AlarmKindsModel", "readPlain", "(II)V"⟩, 15), (⟨"AlarmKindsModel", "weighed", "(II)I"⟩, 15), (⟨"AlarmKindsModel", "radio", "(I)Z"⟩, 15), (⟨"AlarmKindsModel", "flat", "()V"⟩, 15), (⟨"AlarmKindsModel", "isOver", "(I)Z"⟩, 15), (⟨"AlarmKindsModel", "overPlain", "(I)Z"⟩, 15), (⟨"AlarmKindsModel", "costOf", "(I)I"⟩, 15)]
theorem lw_r1 : ∀ q ∈ lw_privs_1, lw_okq q := List.forall_mem_cons.mpr ⟨lw_p0, List.forall_mem_cons.mpr ⟨lw_p1, List.forall_mem_cons.mpr ⟨lw_p2, List.forall_mem_cons.mpr ⟨lw_p3, List.forall_mem_cons.mpr ⟨lw_p4, List.forall_mem_cons.mpr ⟨lw_p5, List.forall_mem_cons.mpr ⟨lw_p6, List.forall_mem_cons.mpr ⟨lw_p7, List.forall_mem_cons.mpr ⟨lw_p8, List.forall_mem_cons.mpr ⟨lw_p9, List.forall_mem_cons.mpr ⟨lw_p10, List.forall_mem_cons.mpr ⟨lw_p11, List.forall_mem_cons.mpr ⟨lw_p12, List.forall_mem_cons.mpr ⟨lw_p13, List.forall_mem_cons.mpr ⟨lw_p14, List.forall_mem_cons.mpr ⟨lw_p15, fun _ h => absurd h List.not_mem_nil⟩⟩⟩⟩⟩⟩⟩⟩⟩⟩⟩⟩⟩⟩⟩⟩
def lw_privs : List (MethodName × Nat) := lw_privs_1
def lw_tbl : List Cond := k2_sels lw_privs ++ tables_1
theorem lw_privs_ok : ∀ q ∈ lw_privs, lw_okq q := lw_r1
end
section
section CT
variable {e : Env} {s0 : State} {f : JFrame} {a : Addr} {cell : Cell}
/-- one row of a table whose word is linked: it takes the thing, or the search goes on; the entry is noted -/
theorem ct_row {S : State} {Q : Handler → Pre} {E : CtlPost} {d : Bool} {acts : List Action} {x : ExceptionTableEntry} {t : List ExceptionTableEntry} {c : ClassId} (hx : covers x f.pc = true) (h0 : x.catchType ≠ 0)
    (hl : S.vm.ClassLinks e.platform f.method.cls x.catchType c) (hcell : S.heap[a]? = some cell) (hobj : ∀ k, cell.vm ≠ .statics k) (hk : ∃ k, S.vm.classes[cell.cls]? = some k) (hc : ∃ k, S.vm.classes[c]? = some k) :
    wp (findHandler.go f a (x :: t)) Q E e d acts S ↔ if S.vm.assignable cell.cls c = true then Q (.found x.handlerPc) d acts (S.setVm (S.vm.noted f.method.cls x.catchType (.cls c))) else wp (findHandler.go f a t) Q E e d acts (S.setVm (S.vm.noted f.method.cls x.catchType (.cls c))) := by
  have hal : S.vm.Alike (S.vm.noted f.method.cls x.catchType (.cls c)) := (Vm.Alike.refl S.vm).noted _ _ _
  have has : (S.vm.noted f.method.cls x.catchType (.cls c)).assignable cell.cls c = S.vm.assignable cell.cls c := by rw [hal.assignable]
  obtain ⟨r1, r2⟩ := (resolveClass_links e.toSetting hl).op (op := VmOp.resolveClass f.method.cls x.catchType) rfl
  obtain ⟨k1, hk1⟩ := hk
  obtain ⟨k2, hk2⟩ := hc
  obtain ⟨k3, hk3, -⟩ := hal.2.2 _ _ hk1
  obtain ⟨k4, hk4, -⟩ := hal.2.2 _ _ hk2
  simp only [covers] at hx
  cases hfit : S.vm.assignable cell.cls c with
  | true =>
    rw [hfit] at has
    simp [findHandler.go, hx, h0, r1, r2, hcell, hobj, hk3, hk4, has, VmOp.dirties, VmOp.acts]
  | false =>
    rw [hfit] at has
    simp [findHandler.go, hx, h0, r1, r2, hcell, hobj, hk3, hk4, has, VmOp.dirties, VmOp.acts]
/-- rows that are passed, then the row that takes it: where the search ends, under tables that are warmer -/
theorem ct_go (hobj : ∀ k, cell.vm ≠ .statics k) (hk : ∃ k, s0.vm.classes[cell.cls]? = some k) (x : ExceptionTableEntry) (rest : List ExceptionTableEntry) (hx : covers x f.pc = true) (h0 : x.catchType ≠ 0)
    {c : ClassId} (hl : s0.vm.ClassLinks e.platform f.method.cls x.catchType c) (hfit : s0.vm.assignable cell.cls c = true) :
    ∀ (pre : List ExceptionTableEntry) (S : State), s0.WarmedH S.vm → S.heap[a]? = some cell →
      (∀ z ∈ pre, covers z f.pc = false ∨ (z.catchType ≠ 0 ∧ ∃ c9, s0.vm.ClassLinks e.platform f.method.cls z.catchType c9 ∧ s0.vm.assignable cell.cls c9 = false)) →
      ∃ vm', s0.WarmedH vm' ∧ ∀ (Q : Handler → Pre) (E : CtlPost) (d : Bool) (acts : List Action), wp (findHandler.go f a (pre ++ x :: rest)) Q E e d acts S ↔ Q (.found x.handlerPc) d acts (S.setVm vm')
  | [], S, hW, hcell, _ => by
    obtain ⟨k, hk⟩ := hk
    obtain ⟨k', hk', -⟩ := hW.alike.2.2 _ _ hk
    obtain ⟨_, _, _, kt, hd, _, _, _, _, hkt, _, ho⟩ := hl.here
    obtain ⟨kt', hkt', -⟩ := hW.alike.2.2 _ _ hkt
    refine ⟨_, hW.noted hd ho (State.rightAt_cls hl), fun Q E d acts => ?_⟩
    rw [List.nil_append, ct_row hx h0 (hW.classLinks hl) hcell hobj ⟨k', hk'⟩ ⟨kt', hkt'⟩, if_pos (by rw [hW.alike.assignable]; exact hfit)]
  | y :: ys, S, hW, hcell, hp => by
    have hr : ∀ z ∈ ys, covers z f.pc = false ∨ (z.catchType ≠ 0 ∧ ∃ c9, s0.vm.ClassLinks e.platform f.method.cls z.catchType c9 ∧ s0.vm.assignable cell.cls c9 = false) := fun z hz => hp z (List.mem_cons_of_mem _ hz)
    cases hcov : covers y f.pc with
    | false =>
      obtain ⟨vm', hW', hq⟩ := ct_go hobj hk x rest hx h0 hl hfit ys S hW hcell hr
      exact ⟨vm', hW', fun Q E d acts => by rw [List.cons_append, W.findHandler_go_skip hcov]; exact hq Q E d acts⟩
    | true =>
      rcases hp y List.mem_cons_self with h9 | ⟨hy0, c9, hl9, hno⟩
      · rw [hcov] at h9; cases h9
      · obtain ⟨k, hk1⟩ := id hk
        obtain ⟨k', hk', -⟩ := hW.alike.2.2 _ _ hk1
        obtain ⟨_, _, _, kt, hd, _, _, _, _, hkt, _, ho⟩ := hl9.here
        obtain ⟨kt', hkt', -⟩ := hW.alike.2.2 _ _ hkt
        obtain ⟨vm', hW', hq⟩ := ct_go hobj hk x rest hx h0 hl hfit ys (S.setVm (S.vm.noted f.method.cls y.catchType (.cls c9))) (hW.noted hd ho (State.rightAt_cls hl9)) hcell hr
        refine ⟨vm', hW', fun Q E d acts => ?_⟩
        rw [List.cons_append, ct_row hcov hy0 (hW.classLinks hl9) hcell hobj ⟨k', hk'⟩ ⟨kt', hkt'⟩, if_neg (by rw [hW.alike.assignable, hno]; decide)]
        exact hq Q E d acts
theorem ct_step {p : Program} {l : Launch} {R : Room} {s : State} {m : MethodId} {args : Array Value} {below : List Frame} {meth : Method} {c : Code} {T : State} {locs : List Loc} {cells slots : Nat} (X : Stand p l e R s m args below meth c T locs cells slots) {g : JFrame} (hg : g.method = m)
    (hcell : T.heap[a]? = some cell) (hobj : cell.vm.isStatics = false) (hk : ∃ k, s.vm.classes[cell.cls]? = some k) (pre : List ExceptionTableEntry) (x : ExceptionTableEntry) (rest : List ExceptionTableEntry) (hsplit : c.exceptionTable.toList = pre ++ x :: rest)
    (hp : ∀ z ∈ pre, covers z g.pc = false ∨ (z.catchType ≠ 0 ∧ ∃ c9, s.vm.ClassLinks e.platform m.cls z.catchType c9 ∧ s.vm.assignable cell.cls c9 = false)) (hx : covers x g.pc = true) (h0 : x.catchType ≠ 0)
    {c1 : ClassId} (hl : s.vm.ClassLinks e.platform m.cls x.catchType c1) (hfit : s.vm.assignable cell.cls c1 = true) :
    ∃ vm', Stand p l e R s m args below meth c (T.setVm vm') locs cells slots ∧ ∀ tg, Steps p.tables e below ((T.setVm vm').setTop { g with pc := x.handlerPc, stack := [.ref a] }) tg → Steps p.tables e below ((T.setTop g).pushFrame (.throwing a)) tg := by
  subst hg
  obtain ⟨vm', hW', hq⟩ := ct_go (e := e) (s0 := s) (f := g) (a := a) (cell := cell) (VmData.ne_statics_of hobj) hk x rest hx h0 hl hfit pre ((T.setTop g).pushFrame (.throwing a)) X.warmed hcell hp
  refine ⟨vm', X.noted hW', fun tg hrest => ?_⟩
  obtain ⟨g0, hr⟩ := X.frames_eq
  obtain ⟨hgo, hw⟩ := X.here.throwing a
  refine Steps.head hgo hw ?_
  have key : (stepThrowing e ((T.setTop g).pushFrame (.throwing a)) a (.java g :: below)).Is ((((T.setTop g).pushFrame (.throwing a)).setVm vm').setFrames (.java { g with pc := x.handlerPc, stack := [.ref a] } :: below)) [] := by
    simp only [stepThrowing, searchFrame, vmDo]
    generalize hres : Sem.go _ e false [] ((T.setTop g).pushFrame (.throwing a)) = res
    have hm' : ((T.setTop g).pushFrame (.throwing a)).vm.method? g.method = some meth := X.method'
    obtain ⟨as, rfl, ha⟩ := Sem.eq_ok_of hres (a := Handler.found x.handlerPc) (s' := ((T.setTop g).pushFrame (.throwing a)).setVm vm') (acts' := [])
      (by simp [W.findHandler_eq hm' X.code, hsplit, hq])
    exact ⟨rfl, ha⟩
  rw [stepThread_throwing (frames_entered X.here.top _), X.tail, key.1]
  have hr' : (T.setVm vm').frames = .java g0 :: below := hr
  rw [State.setTop_of_frames _ hr'] at hrest
  have e1 : ((((T.setTop g).pushFrame (.throwing a)).setVm vm').setFrames (.java { g with pc := x.handlerPc, stack := [.ref a] } :: below)) = (T.setVm vm').setFrames (.java { g with pc := x.handlerPc, stack := [.ref a] } :: below) := by
    rw [State.pushFrame, State.setTop_of_frames _ hr, State.setFrames_setFrames]
    show ((T.setVm vm').setFrames _).setFrames _ = _
    rw [State.setFrames_setFrames]
  rw [e1]
  exact hrest
end CT
end
section
/-! ===== BEGIN words of one list among another's, by their places ===== -/
theorem goodIn_r {big : List Cond} (ws : List Cond) (ps : List Nat) (hp : ws = ps.filterMap (fun i => big[i]?)) (h : ws.all goodWord = true) : GoodIn big ws := by
  intro w hw
  have h1 := List.all_eq_true.mp h w hw
  rw [hp] at hw
  obtain ⟨i, -, hi⟩ := List.mem_filterMap.mp hw
  have hm : w ∈ big := by first | exact List.mem_of_getElem? hi | exact List.getElem?_mem hi
  exact ⟨hm, good_of_word h1⟩
theorem goodIn_app {big a b : List Cond} (ha : GoodIn big a) (hb : GoodIn big b) : GoodIn big (a ++ b) := fun w h => (List.mem_append.mp h).elim (ha w) (hb w)
theorem goodIn_ca {big a b : List Cond} {c : Cond} (ha : GoodIn big (c :: a)) (hb : GoodIn big b) : GoodIn big (c :: (a ++ b)) := fun w h => (List.mem_cons.mp h).elim (fun e => ha w (List.mem_cons.mpr (Or.inl e))) (fun h => (List.mem_append.mp h).elim (fun h => ha w (List.mem_cons.mpr (Or.inr h))) (hb w))
theorem goodIn_sub {big ws : List Cond} (hm : ∀ w ∈ ws, w ∈ big) (h : ws.all goodWord = true) : GoodIn big ws := fun w hw => ⟨hm w hw, good_of_word (List.all_eq_true.mp h w hw)⟩
/-! ===== END ===== -/
/-! ===== BEGIN exceptions that leave a method, and their catching by the caller (launches without stack traces) ===== -/
section VXA
/-! The laws vx_back, vx_callV, vx_callS, vx_callSW, vx_throw0, vx_throwS follow proofs of the library, with one case more: JvmDerived/Free/Laws.lean (Back.of_free), Shelf42/LK1.lean (callV, callS), Shelf/KitTraced.lean (throwNew0V, throwNewS). -/
/-- where a method has thrown q: the class by its name, the cell, what was written, the world -/
def vx_T (XC : String → State → State → Prop) (st : State) (q : Addr) (t : State) (mc ms : Nat) (free : Addr → Prop) : Prop :=
  ∃ (E : String) (ce : Cell) (L : List Loc), XC E st t ∧ t.heap[q]? = some ce ∧ ce.vm = .none ∧ st.vm.findClass E = some ce.cls ∧ st.WarmedH t.vm ∧ st.sameButNew ({ t with vm := st.vm } : State) L mc ms ∧ ∀ z ∈ L, free z.base
def vx_Q (Qc : Array Value → State → Outcome → State → Prop) (XC : String → State → State → Prop) (mc ms : Nat) (free : Addr → Prop) : Array Value → State → Outcome → State → Prop := fun a st o t =>
  (Qc a st o t ∧ ∃ L, FrameEnd st o t L mc ms ∧ ∀ q ∈ L, free q.base) ∨ ∃ q, o = .threw q ∧ vx_T XC st q t mc ms free
/-- a callee that returns or throws -/
def vx_Met (l : Launch) (y : MethodName) (ws : List Cond) (rm : Room) (Pc : Array Value → State → Prop) (Qc : Array Value → State → Outcome → State → Prop) (XC : String → State → State → Prop) (mc ms : Nat) (free : Addr → Prop) : Prop :=
  MetFree l y (headSpec ws rm) Pc (fun _ _ _ _ _ => True) (vx_Q Qc XC mc ms free)
def vx_Post (XC : String → State → State → Prop) (mc ms : Nat) (free : Addr → Prop) : Pt → Array Value → Addr → Pt → Prop := fun A a q B =>
  ∃ (g : JFrame) (mk : MethodId) (t : State) (L : List Loc) (E : String) (ce : Cell), B.U.heap = t.heap ∧ B.U.vm = t.vm ∧ XC E (A.U.calling g mk a) t ∧ t.heap[q]? = some ce ∧ ce.vm = .none ∧ A.U.vm.findClass E = some ce.cls ∧ B.locs = A.locs ++ L ∧ (∀ z ∈ L, free z.base) ∧ B.cells = A.cells + mc ∧ B.slots = A.slots + ms
def vx_Back (l : Launch) (R : Room) (p : Program) (e : Env) (below : List Frame) (s : State) (sargs : Array Value) (y : MethodName) (len W9 : Nat)
    (Pre : Pt → Array Value → Prop) (Post : Pt → Array Value → Option Value → Pt → Prop) (PostX : Pt → Array Value → Addr → Pt → Prop) : Prop :=
  ∀ (m : MethodId) (meth : Method) (c : Code) (A : Pt) (g : JFrame) (ig : Instr) (mk : MethodId) (a : Array Value),
    Stand p l e R s m sargs below meth c A.U A.locs A.cells A.slots → g.method = m → g.locals.size = c.maxLocals → decode c.code g.pc = .ok (ig, len) →
    2 * g.monitorRoom + (g.stack.map fun v => v.category).sum ≤ W9 → A.U.methodNamed? y = some mk → Pre A a →
    (∃ (v : Option Value) (B : Pt), Stand p l e R s m sargs below meth c B.U B.locs B.cells B.slots ∧ Post A a v B ∧
      Steps p.tables e below (doInvoke e (A.U.setTop g) [] mk a).1 (B.U.setTop { g with pc := g.pc + len, stack := v.toList ++ g.stack })) ∨
    (∃ (q : Addr) (B : Pt), Stand p l e R s m sargs below meth c B.U B.locs B.cells B.slots ∧ PostX A a q B ∧
      Steps p.tables e below (doInvoke e (A.U.setTop g) [] mk a).1 ((B.U.setTop g).pushFrame (.throwing q)))
section Payer
variable {l : Launch} {R : Room} {p : Program} {e : Env} {below : List Frame} {s : State} {sargs : Array Value} {y : MethodName} {len W9 : Nat}
theorem vx_back {ws : List Cond} {rm : Room} {Pc : Array Value → State → Prop} {Qc : Array Value → State → Outcome → State → Prop} {XC : String → State → State → Prop} {mc ms : Nat} {free : Addr → Prop} {bytes : ByteArray} {maxL : Nat} {ret : Option FieldType}
    (hM : vx_Met l y ws rm Pc Qc XC mc ms free) (hblind : FrameBlind Pc) (hrc : rm.cells = mc) (hrs : rm.slots = ms)
    (hframes : rm.frames + 1 ≤ R.frames) (hlocals : W9 + (maxL + 11) + rm.locals ≤ R.locals)
    (hws : ∀ w ∈ ws, ∀ a' U, s.WarmedH U.vm → w.before a' U = true) (hcode : Cond.code y bytes maxL ret ∈ ws) (hinit : ∀ a' U, s.WarmedH U.vm → (Cond.initialized y.cls).before a' U = true) :
    vx_Back l R p e below s sargs y len W9 (PreOf R mc ms Pc) (PostOf Qc mc ms free) (vx_Post XC mc ms free) := by
  intro m meth c A g ig mk a X hg hsize hdg hW hn hp
  have h1 : (headSpec ws rm).pre.before a A.U = true := atoms_intro fun w hw => hws w hw _ _ X.warmed
  have h2 : (Cond.code y bytes maxL ret).before a A.U = true := hws _ hcode _ _ X.warmed
  have h3 : (Cond.initialized y.cls).before a A.U = true := hinit _ _ X.warmed
  have h4 : A.cells + (headSpec ws rm).room.cells ≤ R.cells := by rw [show (headSpec ws rm).room.cells = mc from hrc]; exact hp.1
  have h5 : A.slots + (headSpec ws rm).room.slots ≤ R.slots := by rw [show (headSpec ws rm).room.slots = ms from hrs]; exact hp.2.1
  have hPc : Pc a (A.U.calling g mk a) := hblind _ _ _ _ hp.2.2
  obtain ⟨U, Ls, c0, s0⟩ := A
  dsimp only [Pt.U, Pt.locs, Pt.cells, Pt.slots] at h1 h2 h3 h4 h5 X hn hPc ⊢
  obtain ⟨methY, cY, hmY, hcY, -, hlY, -, -, -, -⟩ := Cond.code_spec hn h2
  obtain ⟨kY, hkY, -⟩ := className_of_methodNamed hn
  have hinitY : kY.init = .initialized := Cond.initialized_spec (findClass_of_methodNamed hn) hkY h3
  have h : At U g.method c below := by rw [hg]; exact X.here
  have hlocals9 : W9 + (maxL + 11) + (headSpec ws rm).room.locals ≤ R.locals := hlocals
  have happ : (headSpec ws rm).appliesLoose y e.platform (U.calling g mk a) = true :=
    Spec.appliesLoose_calling (g := g) h hdg hn hkY hinitY
      (X.room_calling (g := g) (R' := (headSpec ws rm).room) hsize hmY hcY hframes (by rw [hlY]; omega) h4 h5) h1
  obtain ⟨mid, hmid⟩ := h.above
  have hfr : (U.setTop g).frames = (.java g :: mid) ++ below := by rw [State.frames_setTop' g h.top, hmid]; rfl
  obtain ⟨o, s₂, hsteps, -, hend, hq⟩ := Steps.callFree hM p X.admits X.cas X.clock (acts := []) hfr happ hPc trivial
  have hq' : vx_Q Qc XC mc ms free a (U.calling g mk a) o s₂ := hq
  rw [State.frames_setTop' g h.top] at hend
  obtain ⟨g₀, hg0⟩ := Option.isSome_iff_exists.mp h.top
  obtain ⟨r, hr⟩ := State.topJava?_eq_some.mp hg0
  have hr' : (({ U with heap := s₂.heap, slotsUsed := s₂.slotsUsed } : State).setVm s₂.vm).frames = .java g₀ :: r := hr
  rcases hq' with ⟨hqc, L, hfe, hL⟩ | ⟨q, rfl, E, ce, L, hx, hce, hcv, hcl, hW₂, hsm, hL⟩
  · obtain ⟨⟨v, rfl⟩, hW₂, e2, q2, q3, q4, q5, q6⟩ := id hfe
    have e3 : s₂ = ({ (U.calling g mk a).setFrames s₂.frames with heap := s₂.heap, slotsUsed := s₂.slotsUsed } : State).setVm s₂.vm := by
      have : s₂ = ({ s₂ with vm := (U.calling g mk a).vm } : State).setVm s₂.vm := rfl
      rw [e2] at this
      exact this
    obtain ⟨c₂, i₂, len₂, hc₂, hd₂, hf₂⟩ := hend
    have hW' : U.WarmedH s₂.vm := hW₂
    have hcc : c₂ = c := by
      have h1 : s₂.code? g.method = U.code? g.method := by
        rw [State.code?_eq, State.code?_eq, hW'.alike.method?]
      exact Option.some.inj (hc₂.symm.trans (h1.trans h.code))
    subst hcc
    have hlen : len₂ = len := by rw [hdg] at hd₂; cases hd₂; rfl
    subst hlen
    have hs₂ : s₂ = (({ U with heap := s₂.heap, slotsUsed := s₂.slotsUsed } : State).setVm s₂.vm).setTop { g with pc := g.pc + len₂, stack := v.toList ++ g.stack } := by
      refine e3.trans ?_
      rw [hf₂, State.calling_eq h.top, State.setFrames_setFrames, State.setTop_of_frames _ hr', hr]
      rfl
    have hsame : U.sameButNew ({ U with heap := s₂.heap, slotsUsed := s₂.slotsUsed } : State) L mc ms := by
      refine ⟨?_, q2, q3, q4, q5, q6⟩
      obtain ⟨t, ht, -⟩ := State.frames_cons hr
      show ({ U with heap := s₂.heap, slotsUsed := s₂.slotsUsed } : State) = { U.setFrames U.frames with heap := s₂.heap, slotsUsed := s₂.slotsUsed }
      rw [State.setFrames_self ht]
    subst hg
    refine Or.inl ⟨v, ⟨(({ U with heap := s₂.heap, slotsUsed := s₂.slotsUsed } : State).setVm s₂.vm), Ls ++ L, c0 + mc, s0 + ms⟩,
      ⟨X.admits, X.cas, X.clock, X.frames, X.room, X.hears, X.method, X.code, (X.here.setHeapUsed s₂.heap s₂.slotsUsed).setVm hW'.alike, X.tail, State.WarmedH.trans X.warmed hW', X.limits, X.bytes, X.same.trans (hsame.setVm s.vm)⟩,
      ⟨g, mk, s₂, L, rfl, rfl, hqc, rfl, hL, rfl, rfl⟩, ?_⟩
    show Steps p.tables e below _ ((({ U with heap := s₂.heap, slotsUsed := s₂.slotsUsed } : State).setVm s₂.vm).setTop { g with pc := g.pc + len₂, stack := v.toList ++ g.stack })
    rw [← hs₂]
    exact hsteps
  · obtain ⟨e2, q2, q3, q4, q5, q6⟩ := id hsm
    have e3 : s₂ = ({ (U.calling g mk a).setFrames s₂.frames with heap := s₂.heap, slotsUsed := s₂.slotsUsed } : State).setVm s₂.vm := by
      have : s₂ = ({ s₂ with vm := (U.calling g mk a).vm } : State).setVm s₂.vm := rfl
      rw [e2] at this
      exact this
    have hf₂ : s₂.frames = .throwing q :: .java g :: U.frames.tail := hend
    have hW' : U.WarmedH s₂.vm := hW₂
    have hs₂ : s₂ = ((({ U with heap := s₂.heap, slotsUsed := s₂.slotsUsed } : State).setVm s₂.vm).setTop g).pushFrame (.throwing q) := by
      refine e3.trans ?_
      rw [hf₂, State.calling_eq h.top, State.setFrames_setFrames, State.pushFrame, State.frames_setTop _ hr', State.setTop_of_frames _ hr', State.setFrames_setFrames, hr]
      rfl
    have hsame : U.sameButNew ({ U with heap := s₂.heap, slotsUsed := s₂.slotsUsed } : State) L mc ms := by
      refine ⟨?_, q2, q3, q4, q5, q6⟩
      obtain ⟨t, ht, -⟩ := State.frames_cons hr
      show ({ U with heap := s₂.heap, slotsUsed := s₂.slotsUsed } : State) = { U.setFrames U.frames with heap := s₂.heap, slotsUsed := s₂.slotsUsed }
      rw [State.setFrames_self ht]
    subst hg
    refine Or.inr ⟨q, ⟨(({ U with heap := s₂.heap, slotsUsed := s₂.slotsUsed } : State).setVm s₂.vm), Ls ++ L, c0 + mc, s0 + ms⟩,
      ⟨X.admits, X.cas, X.clock, X.frames, X.room, X.hears, X.method, X.code, (X.here.setHeapUsed s₂.heap s₂.slotsUsed).setVm hW'.alike, X.tail, State.WarmedH.trans X.warmed hW', X.limits, X.bytes, X.same.trans (hsame.setVm s.vm)⟩,
      ⟨g, mk, s₂, L, E, ce, rfl, rfl, hx, hce, hcv, hcl, rfl, hL, rfl, rfl⟩, ?_⟩
    show Steps p.tables e below _ (((({ U with heap := s₂.heap, slotsUsed := s₂.slotsUsed } : State).setVm s₂.vm).setTop g).pushFrame (.throwing q))
    rw [← hs₂]
    exact hsteps
end Payer
section Calls
variable {p : Program} {l : Launch} {e : Env} {R : Room} {s : State} {m : MethodId} {args : Array Value} {below : List Frame} {meth : Method} {c : Code} {T : State} {locs : List Loc} {cells slots : Nat}
theorem vx_callV (X : Stand p l e R s m args below meth c T locs cells slots) (hexec : p.tables.exec = Jvm.exec) {own C : String} {index : Nat} {y : MethodName} {bytes : ByteArray} {maxL : Nat} {ret : Option FieldType}
    (hown : s.vm.findClass own = some m.cls) (hlink : (Cond.methodLink own index y).before args s = true) (hinst : (Cond.instanceMethod y).before args s = true) (hsel : (Cond.selects C y y).before args s = true)
    (hcode : (Cond.code y bytes maxL ret).before args s = true) (hy : y.cls ≠ "java/lang/invoke/MethodHandle" ∧ y.cls ≠ "java/lang/invoke/VarHandle")
    {W9 : Nat} {Pre : Pt → Array Value → Prop} {Post : Pt → Array Value → Option Value → Pt → Prop} {PostX : Pt → Array Value → Addr → Pt → Prop} (hK : vx_Back l R p e below s args y 3 W9 Pre Post PostX)
    {b : Addr} {cellB : Cell} (hcell : T.heap[b]? = some cellB) (hobj : cellB.vm.isStatics = false) (hcls : s.vm.findClass C = some cellB.cls)
    {g : JFrame} (hg : g.method = m) (hsize : g.locals.size = c.maxLocals) {argsL rest : List Value} (hlen : ∀ sig, parseMethodDescriptor y.desc = some sig → argsL.length = sig.parameters.length)
    (hstack : g.stack = argsL.reverse ++ .ref b :: rest) (hW : 2 * g.monitorRoom + (rest.map fun v => v.category).sum ≤ W9) (hdg : decode c.code g.pc = .ok (.invokevirtual index, 3))
    (hpre : ∀ vm₁, s.WarmedH vm₁ → Pre ⟨T.setVm vm₁, locs, cells, slots⟩ (Value.ref b :: argsL).toArray) :
    (∃ (v : Option Value) (vm₁ : Vm) (B : Pt), s.WarmedH vm₁ ∧ Stand p l e R s m args below meth c B.U B.locs B.cells B.slots ∧ Post ⟨T.setVm vm₁, locs, cells, slots⟩ (Value.ref b :: argsL).toArray v B ∧
      ∀ target, Steps p.tables e below (B.U.setTop { g with pc := g.pc + 3, stack := v.toList ++ rest }) target → Steps p.tables e below (T.setTop g) target) ∨
    (∃ (q : Addr) (vm₁ : Vm) (B : Pt), s.WarmedH vm₁ ∧ Stand p l e R s m args below meth c B.U B.locs B.cells B.slots ∧ PostX ⟨T.setVm vm₁, locs, cells, slots⟩ (Value.ref b :: argsL).toArray q B ∧
      Steps p.tables e below (T.setTop g) ((B.U.setTop { g with stack := rest }).pushFrame (.throwing q))) := by
  obtain ⟨mk, methM, hnamed, hmethM, hstM, habM⟩ := Cond.instanceMethod_spec hinst
  obtain ⟨methM', cM, hmethM', -, -, -, -, -, -, hsigM⟩ := Cond.code_spec hnamed hcode
  cases hmethM.symm.trans hmethM'
  obtain ⟨c2, r2, m2, q1, q2, q3, q4, kP, hkP, hkPi⟩ := Cond.selects_spec hsel
  cases hcls.symm.trans q1
  cases (State.methodFound?_of_named hnamed hy).symm.trans q2
  cases hnamed.symm.trans q3
  have hselP : selectMethod e.platform s.vm cellB.cls mk = .method mk := by rw [Launch.admits_selectMethod X.admits]; exact q4
  obtain ⟨vm₁, X₁, hstep₁⟩ := X.invokevirtual hexec hown hlink hnamed hmethM hstM hkP hkPi hy (a := b) (cell := cellB) hcell
    (fun z h => by rw [h] at hobj; cases hobj) hselP hmethM habM hkP hkPi (g := g) hg (argsL := argsL) (rest := rest) (hlen _ hsigM) hstack hdg
  rcases hK m meth c ⟨T.setVm vm₁, locs, cells, slots⟩ { g with stack := rest } (.invokevirtual index) mk (Value.ref b :: argsL).toArray X₁ hg hsize hdg hW (X₁.named hnamed) (hpre vm₁ X₁.warmed) with ⟨v, B, X', hpost, hsteps⟩ | ⟨q, B, X', hpost, hsteps⟩
  · exact Or.inl ⟨v, vm₁, B, X₁.warmed, X', hpost, fun target h => hstep₁ _ fun acts => by rw [doInvoke_state]; exact hsteps.trans h⟩
  · exact Or.inr ⟨q, vm₁, B, X₁.warmed, X', hpost, hstep₁ _ fun acts => by rw [doInvoke_state]; exact hsteps⟩
theorem vx_callS (X : Stand p l e R s m args below meth c T locs cells slots) (hexec : p.tables.exec = Jvm.exec) {own : String} {index : Nat} {y : MethodName} {bytes : ByteArray} {maxL : Nat} {ret : Option FieldType}
    (hown : s.vm.findClass own = some m.cls) (hlink : (Cond.methodLink own index y).before args s = true) (hstat : (Cond.static y).before args s = true) (hinit : (Cond.initialized y.cls).before args s = true)
    (hcode : (Cond.code y bytes maxL ret).before args s = true) (hy : y.cls ≠ "java/lang/invoke/MethodHandle" ∧ y.cls ≠ "java/lang/invoke/VarHandle")
    {W9 : Nat} {Pre : Pt → Array Value → Prop} {Post : Pt → Array Value → Option Value → Pt → Prop} {PostX : Pt → Array Value → Addr → Pt → Prop} (hK : vx_Back l R p e below s args y 3 W9 Pre Post PostX)
    {g : JFrame} (hg : g.method = m) (hsize : g.locals.size = c.maxLocals) {argsL rest : List Value} (hlen : ∀ sig, parseMethodDescriptor y.desc = some sig → argsL.length = sig.parameters.length)
    (hstack : g.stack = argsL.reverse ++ rest) (hW : 2 * g.monitorRoom + (rest.map fun v => v.category).sum ≤ W9) (hdg : decode c.code g.pc = .ok (.invokestatic index, 3))
    (hpre : ∀ vm₁, s.WarmedH vm₁ → Pre ⟨T.setVm vm₁, locs, cells, slots⟩ argsL.toArray) :
    (∃ (v : Option Value) (vm₁ : Vm) (B : Pt), s.WarmedH vm₁ ∧ Stand p l e R s m args below meth c B.U B.locs B.cells B.slots ∧ Post ⟨T.setVm vm₁, locs, cells, slots⟩ argsL.toArray v B ∧
      ∀ target, Steps p.tables e below (B.U.setTop { g with pc := g.pc + 3, stack := v.toList ++ rest }) target → Steps p.tables e below (T.setTop g) target) ∨
    (∃ (q : Addr) (vm₁ : Vm) (B : Pt), s.WarmedH vm₁ ∧ Stand p l e R s m args below meth c B.U B.locs B.cells B.slots ∧ PostX ⟨T.setVm vm₁, locs, cells, slots⟩ argsL.toArray q B ∧
      Steps p.tables e below (T.setTop g) ((B.U.setTop { g with stack := rest }).pushFrame (.throwing q))) := by
  obtain ⟨mk, hnamed⟩ := Cond.code_named hcode
  obtain ⟨methM, cM, hmethM, -, -, -, -, -, -, hsigM⟩ := Cond.code_spec hnamed hcode
  have hstatic : methM.isStatic = true := Cond.static_spec hnamed hmethM hstat
  obtain ⟨kP, hkP, -⟩ := className_of_methodNamed hnamed
  have hinitP : kP.init = .initialized := Cond.initialized_spec (findClass_of_methodNamed hnamed) hkP hinit
  obtain ⟨vm₁, X₁, hstep₁⟩ := X.invokestatic hexec hown hlink hnamed hmethM hstatic hkP hinitP hy (g := g) hg (argsL := argsL) (rest := rest) (hlen _ hsigM) hstack hdg
  rcases hK m meth c ⟨T.setVm vm₁, locs, cells, slots⟩ { g with stack := rest } (.invokestatic index) mk argsL.toArray X₁ hg hsize hdg hW (X₁.named hnamed) (hpre vm₁ X₁.warmed) with ⟨v, B, X', hpost, hsteps⟩ | ⟨q, B, X', hpost, hsteps⟩
  · exact Or.inl ⟨v, vm₁, B, X₁.warmed, X', hpost, fun target h => hstep₁ _ fun acts => by rw [doInvoke_state]; exact hsteps.trans h⟩
  · exact Or.inr ⟨q, vm₁, B, X₁.warmed, X', hpost, hstep₁ _ fun acts => by rw [doInvoke_state]; exact hsteps⟩
end Calls
theorem vx_cls {s : State} {T : State} {vm₁ : Vm} {E : String} {k : ClassId} (hW : s.WarmedH vm₁) (h : (T.setVm vm₁).vm.findClass E = some k) : s.vm.findClass E = some k := by
  have h1 : vm₁.findClass E = some k := h
  rw [hW.alike.findClass] at h1
  exact h1
/-- the method's frame g, with q thrown over it -/
def vx_W (p : Program) (l : Launch) (e : Env) (R : Room) (s : State) (m : MethodId) (args : Array Value) (below : List Frame) (meth : Method) (c : Code) (H : Heap) (locs : List Loc) (cells slots : Nat) (Q : State → Prop) (g : JFrame) (q : Addr) : Prop :=
  ∀ T : State, T.heap = H → Stand p l e R s m args below meth c T locs cells slots → ∃ t, Steps p.tables e below ((T.setTop g).pushFrame (.throwing q)) t ∧ Q t
def vx_Run (p : Program) (l : Launch) (e : Env) (R : Room) (s : State) (m : MethodId) (args : Array Value) (below : List Frame) (meth : Method) (c : Code) (H : Heap) (locs : List Loc) (cells slots mc ms : Nat) (g : JFrame) (rest : List Value) (Qa : State → Outcome → State → Prop) (XC : String → State → State → Prop) (free : Addr → Prop) : Prop :=
  ∀ T : State, T.heap = H → Stand p l e R s m args below meth c T locs cells slots →
    (∃ (v : Option Value) (st₀ t T' : State) (L : List Loc), st₀.heap = H ∧ Stand p l e R s m args below meth c T' (locs ++ L) (cells + mc) (slots + ms) ∧ (∀ q ∈ L, free q.base) ∧ T'.heap = t.heap ∧ T'.vm = t.vm ∧ Qa st₀ (.returned v) t ∧
      Goes p e below T g T' { g with pc := g.pc + 3, stack := v.toList ++ rest }) ∨
    (∃ (q : Addr) (st₀ t T' : State) (L : List Loc) (E : String) (ce : Cell), st₀.heap = H ∧ Stand p l e R s m args below meth c T' (locs ++ L) (cells + mc) (slots + ms) ∧ (∀ z ∈ L, free z.base) ∧ T'.heap = t.heap ∧ T'.vm = t.vm ∧ XC E st₀ t ∧ t.heap[q]? = some ce ∧ ce.vm = .none ∧ s.vm.findClass E = some ce.cls ∧
      Steps p.tables e below (T.setTop g) ((T'.setTop { g with stack := rest }).pushFrame (.throwing q)))
def vx_X {S : Type} (px : S → Prop) (B : String → S → State → Prop) (A : Nat → Prop) : String → State → State → Prop := fun E st t => ∃ u : S, px u ∧ B E u t ∧ va_F A st t
section Runs
variable {p : Program} {l : Launch} {e : Env} {R : Room} {s : State} {m : MethodId} {args : Array Value} {below : List Frame} {meth : Method} {c : Code} {H : Heap} {locs : List Loc} {cells slots : Nat}
variable {y : MethodName} {bytes cc : ByteArray} {maxL nL mc ms n index : Nat} {ret : Option FieldType} {ws : List Cond} {rm : Room} {Pc : Array Value → State → Prop} {Qc : Array Value → State → Outcome → State → Prop} {XC : String → State → State → Prop} {free : Addr → Prop} {Ts : List Cond} {own C : String} {b : Addr} {As rest : List Value} {g : JFrame}
theorem vx_callBack (cb : CallB R s args own index y bytes maxL ret ws rm mc ms n) (hM : vx_Met l y ws rm Pc Qc XC mc ms free) (hbl : FrameBlind Pc) : vx_Back l R p e below s args y 3 8 (PreOf R mc ms Pc) (PostOf Qc mc ms free) (vx_Post XC mc ms free) := by
  obtain ⟨hrc, hrs, hfr, hlo, hws, hcw, -, hini, -⟩ := cb
  exact vx_back (bytes := bytes) (maxL := maxL) (ret := ret) hM hbl hrc hrs hfr hlo hws hcw (fun a' U hW => word_at hW (Or.inl (by first | rfl | simp [Cond.onTables, Cond.keeps, Cond.steady])) hini)
theorem vx_runV (S : CallFix p m c cc nL s args Ts own) (hM : vx_Met l y ws rm Pc Qc XC mc ms free) (cw : CallW R s args own C index y bytes maxL ret ws rm mc ms n) (hp : PreV s H C b Pc As)
    (hg : g.method = m) (hn : As.length = n) (hsize : g.locals.size = nL) (hstack : g.stack = As.reverse ++ .ref b :: rest) (hW : 2 * g.monitorRoom + (rest.map fun v => v.category).sum ≤ 8) (hdg : decode cc g.pc = .ok (.invokevirtual index, 3)) (hf : cells + mc ≤ R.cells ∧ slots + ms ≤ R.slots) :
    vx_Run p l e R s m args below meth c H locs cells slots mc ms g rest (Qc (Value.ref b :: As).toArray) XC free := by
  have hK : vx_Back l R p e below s args y 3 8 (PreOf R mc ms Pc) (PostOf Qc mc ms free) (vx_Post XC mc ms free) := vx_callBack cw.1 hM hp.1
  obtain ⟨⟨-, -, -, -, -, -, hcode, -, hy, hlen, hl⟩, hin, hse⟩ := cw
  obtain ⟨hx, hb, hml, ho, -⟩ := S
  obtain ⟨-, ⟨cellB, hcB, hoB, hclB⟩, hPc⟩ := hp
  intro T hT X
  rcases vx_callV X hx (C := C) (bytes := bytes) (maxL := maxL) (ret := ret) ho hl hin hse hcode hy hK (by rw [hT]; exact hcB) hoB hclB hg (hsize.trans hml.symm) (argsL := As) (rest := rest) (fun sig h => hn.trans (hlen sig h)) hstack hW (by rw [hb]; exact hdg)
    (fun vm₁ hW₁ => ⟨hf.1, hf.2, hPc (T.setVm vm₁) hT hW₁⟩) with ⟨v, vm₁, ⟨U', l2, c2, s2⟩, hW₁, X', ⟨g', mk, t, L, e1, e2, hq, h1, hL, h2, h3⟩, st⟩ | ⟨q, vm₁, ⟨U', l2, c2, s2⟩, hW₁, X', ⟨g', mk, t, L, E, ce, e1, e2, hq, hce, hcv, hcl, h1, hL, h2, h3⟩, st⟩
  · dsimp only [Pt.U, Pt.locs, Pt.cells, Pt.slots] at X' e1 e2 h1 h2 h3 st
    subst h1; subst h2; subst h3
    exact Or.inl ⟨v, (T.setVm vm₁).calling g' mk (Value.ref b :: As).toArray, t, U', L, hT, X', hL, e1, e2, hq, st⟩
  · dsimp only [Pt.U, Pt.locs, Pt.cells, Pt.slots] at X' e1 e2 h1 h2 h3 st hcl
    subst h1; subst h2; subst h3
    exact Or.inr ⟨q, (T.setVm vm₁).calling g' mk (Value.ref b :: As).toArray, t, U', L, E, ce, hT, X', hL, e1, e2, hq, hce, hcv, vx_cls hW₁ hcl, st⟩
theorem vx_runS (S : CallFix p m c cc nL s args Ts own) (hM : vx_Met l y ws rm Pc Qc XC mc ms free) (cw : CallB R s args own index y bytes maxL ret ws rm mc ms n ∧ (Cond.static y).before args s = true) (hp : PreS s H Pc As)
    (hg : g.method = m) (hn : As.length = n) (hsize : g.locals.size = nL) (hstack : g.stack = As.reverse ++ rest) (hW : 2 * g.monitorRoom + (rest.map fun v => v.category).sum ≤ 8) (hdg : decode cc g.pc = .ok (.invokestatic index, 3)) (hf : cells + mc ≤ R.cells ∧ slots + ms ≤ R.slots) :
    vx_Run p l e R s m args below meth c H locs cells slots mc ms g rest (Qc As.toArray) XC free := by
  have hK : vx_Back l R p e below s args y 3 8 (PreOf R mc ms Pc) (PostOf Qc mc ms free) (vx_Post XC mc ms free) := vx_callBack cw.1 hM hp.1
  obtain ⟨⟨-, -, -, -, -, -, hcode, hini, hy, hlen, hl⟩, hstt⟩ := cw
  obtain ⟨hx, hb, hml, ho, -⟩ := S
  intro T hT X
  rcases vx_callS X hx (bytes := bytes) (maxL := maxL) (ret := ret) ho hl hstt hini hcode hy hK hg (hsize.trans hml.symm) (argsL := As) (rest := rest) (fun sig h => hn.trans (hlen sig h)) hstack hW (by rw [hb]; exact hdg)
    (fun vm₁ hW₁ => ⟨hf.1, hf.2, hp.2 (T.setVm vm₁) hT hW₁⟩) with ⟨v, vm₁, ⟨U', l2, c2, s2⟩, hW₁, X', ⟨g', mk, t, L, e1, e2, hq, h1, hL, h2, h3⟩, st⟩ | ⟨q, vm₁, ⟨U', l2, c2, s2⟩, hW₁, X', ⟨g', mk, t, L, E, ce, e1, e2, hq, hce, hcv, hcl, h1, hL, h2, h3⟩, st⟩
  · dsimp only [Pt.U, Pt.locs, Pt.cells, Pt.slots] at X' e1 e2 h1 h2 h3 st
    subst h1; subst h2; subst h3
    exact Or.inl ⟨v, (T.setVm vm₁).calling g' mk As.toArray, t, U', L, hT, X', hL, e1, e2, hq, st⟩
  · dsimp only [Pt.U, Pt.locs, Pt.cells, Pt.slots] at X' e1 e2 h1 h2 h3 st hcl
    subst h1; subst h2; subst h3
    exact Or.inr ⟨q, (T.setVm vm₁).calling g' mk As.toArray, t, U', L, E, ce, hT, X', hL, e1, e2, hq, hce, hcv, vx_cls hW₁ hcl, st⟩
end Runs
section Rows
variable {p : Program} {l : Launch} {e : Env} {R : Room} {s : State} {m : MethodId} {args : Array Value} {below : List Frame} {meth : Method} {c : Code} {H : Heap} {locs : List Loc} {cells slots : Nat} {Q : State → Prop}
variable {mc ms : Nat} {free : Addr → Prop} {A0 A1 : Nat → Prop} {H0 : Heap} {a : Array Value} {pc : Nat} {ls : Array Slot} {st0 rest : List Value}
theorem vx_keep {st₀ t T' : State} {L : List Loc} (h0 : st₀.heap = H) (e1 : T'.heap = t.heap) (hS : va_S A0 H0 H locs) (hA : ∀ q, q < H.size → A1 q → A0 q) (hf : ∀ q, free q → A0 q) (hL : ∀ q ∈ L, free q.base) (hF : va_F A1 st₀ t) :
    H.size ≤ T'.heap.size ∧ (∀ q : Nat, q < H.size → ¬ A1 q → T'.heap[q]? = H[q]?) ∧ va_S A0 H0 T'.heap (locs ++ L) := by
  obtain ⟨hz, hk⟩ := hF
  rw [h0] at hz hk
  exact ⟨by rw [e1]; exact hz, fun q h1 h2 => by rw [e1]; exact hk q h1 h2,
    ⟨Nat.le_trans hS.1 (by rw [e1]; exact hz), fun q h1 h2 => by rw [e1, hk q (Nat.lt_of_lt_of_le h1 hS.1) (fun z => h2 (hA q (Nat.lt_of_lt_of_le h1 hS.1) z))]; exact hS.2.1 q h1 h2, fun q hq => by
      rcases List.mem_append.mp hq with h | h
      · exact hS.2.2 q h
      · exact hf _ (hL q h)⟩⟩
theorem vx_calli {S SX : Type} {post : Int32 → S → Prop} {px : SX → Prop} {B : S → State → Prop} {BX : String → SX → State → Prop} {AX : Nat → Prop} (hr : vx_Run p l e R s m args below meth c H locs cells slots mc ms (F0 m pc ls st0) rest (va_Qi post B A1 a) (vx_X px BX AX) free) (hS : va_S A0 H0 H locs) (hA : ∀ q, q < H.size → A1 q → A0 q) (hf : ∀ q, free q → A0 q) (hAX : ∀ q, q < H.size → AX q → A0 q)
    (kx : ∀ (E : String) (ce : Cell) (q9 : Addr) (u : SX) (t : State) (H1 : Heap) (locs1 : List Loc), t.heap = H1 → s.vm.Alike t.vm → px u → BX E u t → H.size ≤ H1.size → (∀ q : Nat, q < H.size → ¬ AX q → H1[q]? = H[q]?) → va_S A0 H0 H1 locs1 → H1[q9]? = some ce → ce.vm = .none → s.vm.findClass E = some ce.cls → vx_W p l e R s m args below meth c H1 locs1 (cells + mc) (slots + ms) Q (F0 m pc ls rest) q9)
    (kk : ∀ (r : Int32) (u : S) (t : State) (H1 : Heap) (locs1 : List Loc), t.heap = H1 → s.vm.Alike t.vm → post r u → B u t → H.size ≤ H1.size → (∀ q : Nat, q < H.size → ¬ A1 q → H1[q]? = H[q]?) → va_S A0 H0 H1 locs1 → W p l e R s m args below meth c H1 locs1 (cells + mc) (slots + ms) Q (F0 m (pc + 3) ls (.int r :: rest))) : W p l e R s m args below meth c H locs cells slots Q (F0 m pc ls st0) := by
  intro T hT X
  rcases hr T hT X with ⟨v, st₀, t, T', L, h0, X', hL, e1, e2, ⟨⟨r, u, hv, hp, hb⟩, hF⟩, st⟩ | ⟨q, st₀, t, T', L, E, ce, h0, X', hL, e1, e2, ⟨u, hp, hb, hF⟩, hce, hcv, hcl, st⟩
  · cases hv
    obtain ⟨k1, k2, k3⟩ := vx_keep h0 e1 hS hA hf hL hF
    obtain ⟨t2, a1, b1⟩ := kk r u t T'.heap (locs ++ L) e1.symm (by rw [← e2]; exact X'.warmed.alike) hp hb k1 k2 k3 T' rfl X'
    exact ⟨t2, st t2 a1, b1⟩
  · obtain ⟨k1, k2, k3⟩ := vx_keep h0 e1 hS hAX hf hL hF
    obtain ⟨t2, a1, b1⟩ := kx E ce q u t T'.heap (locs ++ L) e1.symm (by rw [← e2]; exact X'.warmed.alike) hp hb k1 k2 k3 (by rw [e1]; exact hce) hcv hcl T' rfl X'
    exact ⟨t2, st.trans a1, b1⟩
theorem vx_calll {S SX : Type} {post : Int64 → S → Prop} {px : SX → Prop} {B : S → State → Prop} {BX : String → SX → State → Prop} {AX : Nat → Prop} (hr : vx_Run p l e R s m args below meth c H locs cells slots mc ms (F0 m pc ls st0) rest (va_Ql post B A1 a) (vx_X px BX AX) free) (hS : va_S A0 H0 H locs) (hA : ∀ q, q < H.size → A1 q → A0 q) (hf : ∀ q, free q → A0 q) (hAX : ∀ q, q < H.size → AX q → A0 q)
    (kx : ∀ (E : String) (ce : Cell) (q9 : Addr) (u : SX) (t : State) (H1 : Heap) (locs1 : List Loc), t.heap = H1 → s.vm.Alike t.vm → px u → BX E u t → H.size ≤ H1.size → (∀ q : Nat, q < H.size → ¬ AX q → H1[q]? = H[q]?) → va_S A0 H0 H1 locs1 → H1[q9]? = some ce → ce.vm = .none → s.vm.findClass E = some ce.cls → vx_W p l e R s m args below meth c H1 locs1 (cells + mc) (slots + ms) Q (F0 m pc ls rest) q9)
    (kk : ∀ (r : Int64) (u : S) (t : State) (H1 : Heap) (locs1 : List Loc), t.heap = H1 → s.vm.Alike t.vm → post r u → B u t → H.size ≤ H1.size → (∀ q : Nat, q < H.size → ¬ A1 q → H1[q]? = H[q]?) → va_S A0 H0 H1 locs1 → W p l e R s m args below meth c H1 locs1 (cells + mc) (slots + ms) Q (F0 m (pc + 3) ls (.long r :: rest))) : W p l e R s m args below meth c H locs cells slots Q (F0 m pc ls st0) := by
  intro T hT X
  rcases hr T hT X with ⟨v, st₀, t, T', L, h0, X', hL, e1, e2, ⟨⟨r, u, hv, hp, hb⟩, hF⟩, st⟩ | ⟨q, st₀, t, T', L, E, ce, h0, X', hL, e1, e2, ⟨u, hp, hb, hF⟩, hce, hcv, hcl, st⟩
  · cases hv
    obtain ⟨k1, k2, k3⟩ := vx_keep h0 e1 hS hA hf hL hF
    obtain ⟨t2, a1, b1⟩ := kk r u t T'.heap (locs ++ L) e1.symm (by rw [← e2]; exact X'.warmed.alike) hp hb k1 k2 k3 T' rfl X'
    exact ⟨t2, st t2 a1, b1⟩
  · obtain ⟨k1, k2, k3⟩ := vx_keep h0 e1 hS hAX hf hL hF
    obtain ⟨t2, a1, b1⟩ := kx E ce q u t T'.heap (locs ++ L) e1.symm (by rw [← e2]; exact X'.warmed.alike) hp hb k1 k2 k3 (by rw [e1]; exact hce) hcv hcl T' rfl X'
    exact ⟨t2, st.trans a1, b1⟩
theorem vx_callf {S SX : Type} {post : UInt32 → S → Prop} {px : SX → Prop} {B : S → State → Prop} {BX : String → SX → State → Prop} {AX : Nat → Prop} (hr : vx_Run p l e R s m args below meth c H locs cells slots mc ms (F0 m pc ls st0) rest (va_Qf post B A1 a) (vx_X px BX AX) free) (hS : va_S A0 H0 H locs) (hA : ∀ q, q < H.size → A1 q → A0 q) (hf : ∀ q, free q → A0 q) (hAX : ∀ q, q < H.size → AX q → A0 q)
    (kx : ∀ (E : String) (ce : Cell) (q9 : Addr) (u : SX) (t : State) (H1 : Heap) (locs1 : List Loc), t.heap = H1 → s.vm.Alike t.vm → px u → BX E u t → H.size ≤ H1.size → (∀ q : Nat, q < H.size → ¬ AX q → H1[q]? = H[q]?) → va_S A0 H0 H1 locs1 → H1[q9]? = some ce → ce.vm = .none → s.vm.findClass E = some ce.cls → vx_W p l e R s m args below meth c H1 locs1 (cells + mc) (slots + ms) Q (F0 m pc ls rest) q9)
    (kk : ∀ (r : UInt32) (u : S) (t : State) (H1 : Heap) (locs1 : List Loc), t.heap = H1 → s.vm.Alike t.vm → post r u → B u t → H.size ≤ H1.size → (∀ q : Nat, q < H.size → ¬ A1 q → H1[q]? = H[q]?) → va_S A0 H0 H1 locs1 → W p l e R s m args below meth c H1 locs1 (cells + mc) (slots + ms) Q (F0 m (pc + 3) ls (.float r :: rest))) : W p l e R s m args below meth c H locs cells slots Q (F0 m pc ls st0) := by
  intro T hT X
  rcases hr T hT X with ⟨v, st₀, t, T', L, h0, X', hL, e1, e2, ⟨⟨r, u, hv, hp, hb⟩, hF⟩, st⟩ | ⟨q, st₀, t, T', L, E, ce, h0, X', hL, e1, e2, ⟨u, hp, hb, hF⟩, hce, hcv, hcl, st⟩
  · cases hv
    obtain ⟨k1, k2, k3⟩ := vx_keep h0 e1 hS hA hf hL hF
    obtain ⟨t2, a1, b1⟩ := kk r u t T'.heap (locs ++ L) e1.symm (by rw [← e2]; exact X'.warmed.alike) hp hb k1 k2 k3 T' rfl X'
    exact ⟨t2, st t2 a1, b1⟩
  · obtain ⟨k1, k2, k3⟩ := vx_keep h0 e1 hS hAX hf hL hF
    obtain ⟨t2, a1, b1⟩ := kx E ce q u t T'.heap (locs ++ L) e1.symm (by rw [← e2]; exact X'.warmed.alike) hp hb k1 k2 k3 (by rw [e1]; exact hce) hcv hcl T' rfl X'
    exact ⟨t2, st.trans a1, b1⟩
theorem vx_calld {S SX : Type} {post : UInt64 → S → Prop} {px : SX → Prop} {B : S → State → Prop} {BX : String → SX → State → Prop} {AX : Nat → Prop} (hr : vx_Run p l e R s m args below meth c H locs cells slots mc ms (F0 m pc ls st0) rest (va_Qd post B A1 a) (vx_X px BX AX) free) (hS : va_S A0 H0 H locs) (hA : ∀ q, q < H.size → A1 q → A0 q) (hf : ∀ q, free q → A0 q) (hAX : ∀ q, q < H.size → AX q → A0 q)
    (kx : ∀ (E : String) (ce : Cell) (q9 : Addr) (u : SX) (t : State) (H1 : Heap) (locs1 : List Loc), t.heap = H1 → s.vm.Alike t.vm → px u → BX E u t → H.size ≤ H1.size → (∀ q : Nat, q < H.size → ¬ AX q → H1[q]? = H[q]?) → va_S A0 H0 H1 locs1 → H1[q9]? = some ce → ce.vm = .none → s.vm.findClass E = some ce.cls → vx_W p l e R s m args below meth c H1 locs1 (cells + mc) (slots + ms) Q (F0 m pc ls rest) q9)
    (kk : ∀ (r : UInt64) (u : S) (t : State) (H1 : Heap) (locs1 : List Loc), t.heap = H1 → s.vm.Alike t.vm → post r u → B u t → H.size ≤ H1.size → (∀ q : Nat, q < H.size → ¬ A1 q → H1[q]? = H[q]?) → va_S A0 H0 H1 locs1 → W p l e R s m args below meth c H1 locs1 (cells + mc) (slots + ms) Q (F0 m (pc + 3) ls (.double r :: rest))) : W p l e R s m args below meth c H locs cells slots Q (F0 m pc ls st0) := by
  intro T hT X
  rcases hr T hT X with ⟨v, st₀, t, T', L, h0, X', hL, e1, e2, ⟨⟨r, u, hv, hp, hb⟩, hF⟩, st⟩ | ⟨q, st₀, t, T', L, E, ce, h0, X', hL, e1, e2, ⟨u, hp, hb, hF⟩, hce, hcv, hcl, st⟩
  · cases hv
    obtain ⟨k1, k2, k3⟩ := vx_keep h0 e1 hS hA hf hL hF
    obtain ⟨t2, a1, b1⟩ := kk r u t T'.heap (locs ++ L) e1.symm (by rw [← e2]; exact X'.warmed.alike) hp hb k1 k2 k3 T' rfl X'
    exact ⟨t2, st t2 a1, b1⟩
  · obtain ⟨k1, k2, k3⟩ := vx_keep h0 e1 hS hAX hf hL hF
    obtain ⟨t2, a1, b1⟩ := kx E ce q u t T'.heap (locs ++ L) e1.symm (by rw [← e2]; exact X'.warmed.alike) hp hb k1 k2 k3 (by rw [e1]; exact hce) hcv hcl T' rfl X'
    exact ⟨t2, st.trans a1, b1⟩
theorem vx_callv {S SX : Type} {post : S → Prop} {px : SX → Prop} {B : S → State → Prop} {BX : String → SX → State → Prop} {AX : Nat → Prop} (hr : vx_Run p l e R s m args below meth c H locs cells slots mc ms (F0 m pc ls st0) rest (va_Qv post B A1 a) (vx_X px BX AX) free) (hS : va_S A0 H0 H locs) (hA : ∀ q, q < H.size → A1 q → A0 q) (hf : ∀ q, free q → A0 q) (hAX : ∀ q, q < H.size → AX q → A0 q)
    (kx : ∀ (E : String) (ce : Cell) (q9 : Addr) (u : SX) (t : State) (H1 : Heap) (locs1 : List Loc), t.heap = H1 → s.vm.Alike t.vm → px u → BX E u t → H.size ≤ H1.size → (∀ q : Nat, q < H.size → ¬ AX q → H1[q]? = H[q]?) → va_S A0 H0 H1 locs1 → H1[q9]? = some ce → ce.vm = .none → s.vm.findClass E = some ce.cls → vx_W p l e R s m args below meth c H1 locs1 (cells + mc) (slots + ms) Q (F0 m pc ls rest) q9)
    (kk : ∀ (u : S) (t : State) (H1 : Heap) (locs1 : List Loc), t.heap = H1 → s.vm.Alike t.vm → post u → B u t → H.size ≤ H1.size → (∀ q : Nat, q < H.size → ¬ A1 q → H1[q]? = H[q]?) → va_S A0 H0 H1 locs1 → W p l e R s m args below meth c H1 locs1 (cells + mc) (slots + ms) Q (F0 m (pc + 3) ls (rest))) : W p l e R s m args below meth c H locs cells slots Q (F0 m pc ls st0) := by
  intro T hT X
  rcases hr T hT X with ⟨v, st₀, t, T', L, h0, X', hL, e1, e2, ⟨⟨u, hv, hp, hb⟩, hF⟩, st⟩ | ⟨q, st₀, t, T', L, E, ce, h0, X', hL, e1, e2, ⟨u, hp, hb, hF⟩, hce, hcv, hcl, st⟩
  · cases hv
    obtain ⟨k1, k2, k3⟩ := vx_keep h0 e1 hS hA hf hL hF
    obtain ⟨t2, a1, b1⟩ := kk u t T'.heap (locs ++ L) e1.symm (by rw [← e2]; exact X'.warmed.alike) hp hb k1 k2 k3 T' rfl X'
    exact ⟨t2, st t2 a1, b1⟩
  · obtain ⟨k1, k2, k3⟩ := vx_keep h0 e1 hS hAX hf hL hF
    obtain ⟨t2, a1, b1⟩ := kx E ce q u t T'.heap (locs ++ L) e1.symm (by rw [← e2]; exact X'.warmed.alike) hp hb k1 k2 k3 (by rw [e1]; exact hce) hcv hcl T' rfl X'
    exact ⟨t2, st.trans a1, b1⟩
/-- caught by the row x of this method's table; the rows ahead don't take it -/
theorem vx_catch {own name : String} {E : String} {ce : Cell} {q : Addr} (hown : s.vm.findClass own = some m.cls) (pre : List ExceptionTableEntry) (x : ExceptionTableEntry) (suf : List ExceptionTableEntry) (hsplit : c.exceptionTable.toList = pre ++ x :: suf)
    (hpass : ∀ z ∈ pre, covers z pc = false ∨ (z.catchType ≠ 0 ∧ ∃ nm : String, (Cond.classLink own z.catchType nm).before args s = true ∧ va_Nc E nm s)) (hx : covers x pc = true) (h0 : x.catchType ≠ 0)
    (hlink : (Cond.classLink own x.catchType name).before args s = true) (hcast : (Cond.castable E name).before args s = true) (hcell : H[q]? = some ce) (hv : ce.vm = .none) (hcl : s.vm.findClass E = some ce.cls)
    (kk : W p l e R s m args below meth c H locs cells slots Q (F0 m x.handlerPc ls [.ref q])) : vx_W p l e R s m args below meth c H locs cells slots Q (F0 m pc ls rest) q := by
  intro T hT X
  have hpl : e.platform.magicAccessors = ({} : Platform).magicAccessors := by rw [X.admits.platform]
  obtain ⟨c3, c4, hc3, hc4, hasg⟩ := Cond.castable_spec hcast
  cases Option.some.inj (hc3.symm.trans hcl)
  obtain ⟨c5, hc5, hcl5⟩ := Cond.classLink_spec hown hlink e.platform hpl
  cases Option.some.inj (hc4.symm.trans hc5)
  obtain ⟨vm', X', st⟩ := ct_step X (a := q) (g := F0 m pc ls rest) rfl (by rw [hT]; exact hcell) (by rw [hv]; rfl) (by obtain ⟨k9, h9, -⟩ := Vm.findClass_spec hcl; exact ⟨k9, h9⟩) pre x suf hsplit
    (fun z hz => by
      rcases hpass z hz with h | ⟨hz0, nm, hl1, hn1⟩
      · exact Or.inl h
      · obtain ⟨c6, hc6, hcl6⟩ := Cond.classLink_spec hown hl1 e.platform hpl
        obtain ⟨a8, b8, h1, h2, h3⟩ := hn1
        cases Option.some.inj (h1.symm.trans hcl)
        cases Option.some.inj (h2.symm.trans hc6)
        exact Or.inr ⟨hz0, _, hcl6, h3⟩) hx h0 hcl5 hasg
  obtain ⟨t, a1, b1⟩ := kk (T.setVm vm') hT X'
  exact ⟨t, st t a1, b1⟩
end Rows
section Ends
variable {p : Program} {l : Launch} {e : Env} {R : Room} {s : State} {m : MethodId} {args : Array Value} {below : List Frame} {meth : Method} {c : Code} {H : Heap} {locs : List Loc} {cells slots : Nat} {Q : State → Prop}
variable {mc ms : Nat} {free : Addr → Prop} {A0 A1 : Nat → Prop} {H0 : Heap} {a : Array Value} {ls : Array Slot} {st0 rest : List Value}
variable {Qc : Array Value → State → Outcome → State → Prop} {XC : String → State → State → Prop}
/-- what a body that may throw owes at its end -/
def vx_MQ (below : List Frame) (Qc : Array Value → State → Outcome → State → Prop) (XC : String → State → State → Prop) (a : Array Value) (s : State) (mc ms : Nat) (free : Addr → Prop) : State → Prop := fun t =>
  ∃ o, t.status = .running ∧ Ended t below o ∧ vx_Q Qc XC mc ms free a s o t
theorem vx_ret {g : JFrame} {mc ms : Nat} (k : W p l e R s m args below meth c H locs cells slots (MQ below Qc args s mc ms free) g) : W p l e R s m args below meth c H locs cells slots (vx_MQ below Qc XC args s mc ms free) g := by
  intro T hT X
  obtain ⟨t, a1, o, b1, b2, b3, b4⟩ := k T hT X
  exact ⟨t, a1, o, b1, b2, Or.inl ⟨b3, b4⟩⟩
/-- not caught here: it goes on to the caller -/
theorem vx_widen {g : JFrame} {q : Addr} {k n : Nat} (h1 : cells ≤ k) (h2 : slots ≤ n) (kk : vx_W p l e R s m args below meth c H locs k n Q g q) : vx_W p l e R s m args below meth c H locs cells slots Q g q := fun T hT X => kk T hT (stand_widen X h1 h2)
theorem vx_out {pc : Nat} {E : String} {ce : Cell} {q : Addr} {mc ms : Nat} (hout : ∀ x ∈ c.exceptionTable.toList, covers x pc = false) (hlocks : meth.locks = false) (hcell : H[q]? = some ce) (hv : ce.vm = .none) (hcl : s.vm.findClass E = some ce.cls)
    (hx : ∀ t : State, t.heap = H → s.vm.Alike t.vm → XC E s t) (hf : ∀ z ∈ locs, free z.base) (hc : cells ≤ mc) (hs : slots ≤ ms) :
    vx_W p l e R s m args below meth c H locs cells slots (vx_MQ below Qc XC args s mc ms free) (F0 m pc ls rest) q := by
  intro T hT X
  obtain ⟨st1, hrun, hend, hW, hsm⟩ := X.leaveThrown q (g := F0 m pc ls rest) rfl rfl rfl hout hlocks
  have hcell9 : (T.setFrames (.throwing q :: below)).heap[q]? = some ce := by
    show T.heap[q]? = some ce
    rw [hT]; exact hcell
  exact ⟨_, st1, .threw q, hrun, hend, Or.inr ⟨q, rfl, E, ce, locs, hx _ hT hW.alike, hcell9, hv, hcl, hW, hsm.mono hc hs, hf⟩⟩
theorem vx_frame {U : State} {k n : Nat} (h : s.sameButNew ({ U with vm := s.vm } : State) locs k n) : s.heap.size ≤ U.heap.size ∧ ∀ q : Nat, q < s.heap.size → (∀ z ∈ locs, z.base ≠ q) → U.heap[q]? = s.heap[q]? := by
  obtain ⟨-, h2, -, -, -, h6⟩ := h
  refine ⟨h2, fun q hq hz => ?_⟩
  obtain ⟨c9, e1, e2, e3, e4⟩ := h6 q _ (Array.getElem?_eq_getElem hq)
  have hs : c9.slots = (s.heap[q]).slots := Array.ext_getElem? fun i => e4 i fun hm => hz _ hm rfl
  have h9 : c9 = s.heap[q] := by
    rw [hs] at e2
    exact e2
  have e5 : U.heap[q]? = some c9 := e1
  rw [e5, h9, Array.getElem?_eq_getElem hq]
/-- the words of a throw but the four that speak of the heap -/
def vx_no (w : Cond) : Bool := decide (w ≠ .isRef (.static Bundle.tN "UNASSIGNED_STACK" Bundle.steD)) && decide (w ≠ .isRef (.static Bundle.tN "SUPPRESSED_SENTINEL" Bundle.listD)) && decide (w ≠ .laysStatic Bundle.tN "UNASSIGNED_STACK" Bundle.steD) && decide (w ≠ .laysStatic Bundle.tN "SUPPRESSED_SENTINEL" Bundle.listD)
def vx_at0 (own : String) (ic : Nat) (X : String) (names : List String) : List Cond := (Bundle.ownAtoms0 own ic X names).filter vx_no
def vx_atS (own : String) (ic : Nat) (X : String) (names : List String) : List Cond := (Bundle.ownAtoms own ic X names).filter vx_no
/-- a word that the tables alone decide, or a good one -/
def vx_ot (w : Cond) : Bool := w.onTables || goodWord w
theorem vx_ot_at {args a' : Array Value} {s U : State} {w : Cond} (hW : s.WarmedH U.vm) (hvm : s.vm = U.vm) (hg : vx_ot w = true) (h : w.before args s = true) : w.before a' U = true := by
  simp only [vx_ot, Bool.or_eq_true] at hg
  rcases hg with hg | hg
  · exact va_tabs hg hvm h
  · exact word_at hW (good_of_word hg) h
/-- a list's words: the good ones out of the method's own list, the others by premises of their own -/
theorem vx_hat {args : Array Value} {s : State} {L B : List Cond} (h1 : ∀ w ∈ L.filter goodWord, w.before args s = true) (h2 : ∀ w ∈ L.filter (fun w => !goodWord w), w ∈ B) (h3 : ∀ w ∈ B, w.before args s = true) : ∀ w ∈ L, w.before args s = true := by
  intro w hw
  by_cases g : goodWord w = true
  · exact h1 w (List.mem_filter.mpr ⟨hw, g⟩)
  · refine h3 w (h2 w (List.mem_filter.mpr ⟨hw, ?_⟩))
    show (!goodWord w) = true
    cases hgw : goodWord w
    · rfl
    · exact absurd hgw g
theorem vx_c {args : Array Value} {s : State} {w : Cond} {B : List Cond} (h : w.before args s = true) (t : ∀ w ∈ B, w.before args s = true) : ∀ w' ∈ w :: B, w'.before args s = true := fun w' h' => (List.mem_cons.mp h').elim (fun e => by rw [e]; exact h) (t w')
theorem vx_n {args : Array Value} {s : State} : ∀ w ∈ ([] : List Cond), w.before args s = true := fun _ h => nomatch h
theorem vx_own {args : Array Value} {s : State} {L : List Cond} (h1 : ∀ w ∈ L.filter vx_no, w.before args s = true)
    (hU : (Cond.isRef (.static Bundle.tN "UNASSIGNED_STACK" Bundle.steD)).before args s = true) (hN : (Cond.isRef (.static Bundle.tN "SUPPRESSED_SENTINEL" Bundle.listD)).before args s = true)
    (lU : (Cond.laysStatic Bundle.tN "UNASSIGNED_STACK" Bundle.steD).before args s = true) (lN : (Cond.laysStatic Bundle.tN "SUPPRESSED_SENTINEL" Bundle.listD).before args s = true) : ∀ w ∈ L, w.before args s = true := by
  intro w hw
  by_cases e1 : w = .isRef (.static Bundle.tN "UNASSIGNED_STACK" Bundle.steD)
  · rw [e1]; exact hU
  · by_cases e2 : w = .isRef (.static Bundle.tN "SUPPRESSED_SENTINEL" Bundle.listD)
    · rw [e2]; exact hN
    · by_cases e3 : w = .laysStatic Bundle.tN "UNASSIGNED_STACK" Bundle.steD
      · rw [e3]; exact lU
      · by_cases e4 : w = .laysStatic Bundle.tN "SUPPRESSED_SENTINEL" Bundle.listD
        · rw [e4]; exact lN
        · exact h1 w (List.mem_filter.mpr ⟨hw, by unfold vx_no; rw [decide_eq_true e1, decide_eq_true e2, decide_eq_true e3, decide_eq_true e4]; rfl⟩)
/-- where a static field lies, its class's statics cell in H -/
def vx_L (C n d : String) (A : Nat → Prop) (U : State) (H : Heap) : Prop := ∃ (c : ClassId) (k : Class) (i : Nat) (f : Field) (a : Nat) (cell : Cell), U.vm.findClass C = some c ∧ U.fieldFound? C n d = some (c, k, i, f) ∧ f.isStatic = true ∧ k.statics = some a ∧ H[a]? = some cell ∧ cell.vm.isStatics = true ∧ cell.cls = c ∧ f.slot < cell.slots.size ∧ k.staticTypes[f.slot]? = some f.type ∧ ¬ A a
theorem vx_L.moved {C n d : String} {A : Nat → Prop} {u U : State} {H : Heap} (hvm : u.vm.Alike U.vm) (h : vx_L C n d A u H) : vx_L C n d A U H := by
  obtain ⟨c, k, i, f, a, cell, h1, h2, h3, h4, h5, h6, h7, h8, h9, h10⟩ := h
  obtain ⟨k', hi', he⟩ := State.fieldFound?_setVm hvm h2
  exact ⟨c, k', i, f, a, cell, by rw [hvm.findClass]; exact h1, hi', h3, by rw [he]; exact h4, h5, h6, h7, h8, by rw [he]; exact h9, h10⟩
theorem vx_L.kept {C n d : String} {A : Nat → Prop} {U : State} {H H1 : Heap} (h : vx_L C n d A U H) (hq : ∀ a : Nat, a < H.size → ¬ A a → H1[a]? = H[a]?) : vx_L C n d A U H1 := by
  obtain ⟨c, k, i, f, a, cell, h1, h2, h3, h4, h5, h6, h7, h8, h9, h10⟩ := h
  exact ⟨c, k, i, f, a, cell, h1, h2, h3, h4, by rw [hq a (Array.getElem?_eq_some_iff.mp h5).1 h10]; exact h5, h6, h7, h8, h9, h10⟩
theorem vx_L.narrow {C n d : String} {A B : Nat → Prop} {U : State} {H : Heap} (h : vx_L C n d A U H) (hAB : ∀ q, B q → A q) : vx_L C n d B U H := by
  obtain ⟨c, k, i, f, a, cell, h1, h2, h3, h4, h5, h6, h7, h8, h9, h10⟩ := h
  exact ⟨c, k, i, f, a, cell, h1, h2, h3, h4, h5, h6, h7, h8, h9, fun z => h10 (hAB _ z)⟩
theorem vx_L.word {C n d : String} {A : Nat → Prop} {s : State} {args : Array Value} (h : vx_L C n d A s s.heap) : (Cond.laysStatic C n d).before args s = true := by
  obtain ⟨c, k, i, f, a, cell, h1, h2, h3, h4, h5, h6, h7, h8, h9, -⟩ := h
  show (Cond.laysStatic C n d).holds args s none s [] = true
  exact Cond.laysStatic_of h1 h2 h3 h4 h5 h6 h7 h8 h9
/-- .. and what it holds: null or some reference -/
def vx_Zq (C n d : String) (A : Nat → Prop) (U : State) (H : Heap) : Prop := va_Zq C n d A U H ∧ vx_L C n d A U H
theorem vx_Zq.moved {C n d : String} {A : Nat → Prop} {u U : State} {H : Heap} (hvm : u.vm.Alike U.vm) (h : vx_Zq C n d A u H) : vx_Zq C n d A U H := ⟨va_Zq.moved hvm h.1, vx_L.moved hvm h.2⟩
theorem vx_Zq.kept {C n d : String} {A : Nat → Prop} {U : State} {H H1 : Heap} (h : vx_Zq C n d A U H) (hq : ∀ a : Nat, a < H.size → ¬ A a → H1[a]? = H[a]?) : vx_Zq C n d A U H1 := ⟨va_Zq.kept h.1 hq, vx_L.kept h.2 hq⟩
theorem vx_Zq.narrow {C n d : String} {A B : Nat → Prop} {U : State} {H : Heap} (h : vx_Zq C n d A U H) (hAB : ∀ q, B q → A q) : vx_Zq C n d B U H := ⟨va_Zq.narrow h.1 hAB, vx_L.narrow h.2 hAB⟩
theorem vx_Zqof {args : Array Value} {s : State} {C n d : String} {A : Nat → Prop} (hl : (Cond.laysStatic C n d).before args s = true) (hini : (Cond.initialized C).before args s = true) (h : (Cond.isRef (.static C n d)).before args s = true) (hA : ∀ a : Nat, a < s.heap.size → ¬ A a) : vx_Zq C n d A s s.heap := by
  refine ⟨va_Zqof hl hini h hA, ?_⟩
  obtain ⟨c, k, i, f, a, cell, h1, h2, h3, h4, h5, h6, h7, h8, h9⟩ := Cond.laysStatic_spec hl
  exact ⟨c, k, i, f, a, cell, h1, h2, h3, h4, h5, h6, h7, h8, h9, hA a (Array.getElem?_eq_some_iff.mp h5).1⟩
theorem vx_isRef {C n d : String} {v : Value} {A : Nat → Prop} {s : State} {args : Array Value} (h : va_Z C n d v A s s.heap) (hv : v.isRef = true) : (Cond.isRef (.static C n d)).before args s = true := by
  obtain ⟨cf, kf, fi, f, a, cell, h1, h2, h3, h4, h5, h6, h7, -⟩ := h
  have he : (Term.static C n d).eval args s none [] s = some v := by
    simp [Term.eval, State.fieldNamed?, h1, h2, h4, h5, h6, h7]
  simp only [Cond.before, Cond.holds, Cond.value, he]
  cases v <;> simp_all [Value.isRef]
theorem vx_isRefq {C n d : String} {A : Nat → Prop} {s : State} {args : Array Value} (h : va_Zq C n d A s s.heap) : (Cond.isRef (.static C n d)).before args s = true := by
  rcases h with h | ⟨t, h⟩
  · exact vx_isRef h rfl
  · exact vx_isRef h rfl
/-- the same frame, seen from here: as if the method were called anew in this heap -/
theorem vx_rebase {T : State} (X : Stand p l e R s m args below meth c T locs cells slots) {R' : Room} (hf : R'.frames ≤ R.frames) (hl : R'.locals ≤ R.locals) (hc : cells + R'.cells ≤ R.cells) (hs : slots + R'.slots ≤ R.slots) :
    Stand p l e R' ((T.setVm s.vm).setFrames (.invoking m args :: below)) m args below meth c T [] 0 0 := by
  have htop : (T.setVm s.vm).topJava?.isSome := X.here.top
  have hF : ((T.setVm s.vm).setFrames (.invoking m args :: below)).frames = .invoking m args :: below := State.frames_setFrames _ (State.cur_lt_of_top htop)
  obtain ⟨g₀, hg0⟩ := Option.isSome_iff_exists.mp htop
  obtain ⟨r, hr⟩ := State.topJava?_eq_some.mp hg0
  have hl9 : e.platform.stackLimits (T.setVm s.vm).me = e.platform.stackLimits s.me := X.limits
  have hb9 : (T.setVm s.vm).me.stackBytes = s.me.stackBytes := X.bytes
  refine ⟨X.admits, X.cas, X.clock, hF, ?_, X.hears, X.method, X.code, X.here, X.tail, X.warmed, ?_, ?_, ?_⟩
  · have h := X.room
    have hU : ((T.setVm s.vm).setFrames (.invoking m args :: below)).localsInUse = s.localsInUse := by
      rw [State.localsInUse_invoking hF (meth := meth) (c := c) X.method X.code, State.localsInUse_invoking X.frames X.method X.code]
    simp only [State.hasRoom, Bool.and_eq_true, decide_eq_true_eq] at h ⊢
    obtain ⟨⟨⟨⟨h1, h2, h3, h4, h5, h6⟩, h7⟩, h8⟩, h9⟩ := h
    rw [X.frames, List.length_cons] at h2 h3
    have q1 := X.heapSize
    have q2 := X.used
    simp only [hF, hU, List.length_cons, State.stackLimits_setFrames, State.stackBytes_setFrames, hl9, hb9]
    refine ⟨⟨⟨⟨by omega, by omega, by omega, by omega, by omega, h6⟩, ?_⟩, ?_⟩, X.book⟩
    · show T.heap.size + R'.cells ≤ e.platform.maxCells
      omega
    · show T.slotsUsed + R'.slots ≤ e.platform.maxSlots
      omega
  · rw [State.stackLimits_setFrames]; rfl
  · rw [State.stackBytes_setFrames]; rfl
  · refine ⟨?_, Nat.le_refl _, Nat.le_refl _, ?_, ?_, fun a c9 h9 => ⟨c9, h9, rfl, rfl, fun _ _ => rfl⟩⟩
    · obtain ⟨t, ht, -⟩ := State.frames_cons hr
      show T.setVm s.vm = { ((T.setVm s.vm).setFrames (.invoking m args :: below)).setFrames (T.setVm s.vm).frames with heap := T.heap, slotsUsed := T.slotsUsed }
      rw [State.setFrames_setFrames, State.setFrames_self ht]
      rfl
    · show T.slotsUsed = T.slotsUsed + ((T.heap.toList.drop T.heap.size).map (·.slots.size)).sum
      rw [List.drop_eq_nil_of_le (Nat.le_of_eq Array.length_toList)]
      rfl
    · show ((T.heap.toList.drop T.heap.size).map (·.slots.size)).sum ≤ 0
      rw [List.drop_eq_nil_of_le (Nat.le_of_eq Array.length_toList)]
      exact Nat.le_refl _
/-- 'throw new E()': new; dup; invokespecial; athrow -/
theorem vx_throw0 {cc : ByteArray} {pc : Nat} (hexec : p.tables.exec = Jvm.exec) (hb : c.code = cc) (hl : l.stackTraces = false) {own cls : String} {names : List String} {ik ic mc ms : Nat} {A : Nat → Prop}
    (hown : s.vm.findClass own = some m.cls) (hcls : Bundle.fit cls = true) (hnames : ∀ n ∈ names, Bundle.fit n = true)
    (hk : (Cond.classLink own ik cls).before args s = true) (hini : (Cond.initialized cls).before args s = true) (hat : ∀ w ∈ vx_at0 own ic cls names, w.before args s = true)
    (hgood : ∀ w ∈ Cond.classLink own ik cls :: Cond.initialized cls :: vx_at0 own ic cls names, vx_ot w = true)
    (hU : vx_Zq Bundle.tN "UNASSIGNED_STACK" Bundle.steD A s s.heap) (hN : vx_Zq Bundle.tN "SUPPRESSED_SENTINEL" Bundle.listD A s s.heap) (hS : va_S A s.heap H locs) (hsize : ls.size = c.maxLocals)
    (d0 : decode cc pc = .ok (.new ik, 3)) (d3 : decode cc (pc + 3) = .ok (.dup, 1)) (d4 : decode cc (pc + 4) = .ok (.invokespecial ic, 3)) (d7 : decode cc (pc + 7) = .ok (.athrow, 1))
    (hout : ∀ x ∈ c.exceptionTable.toList, covers x (pc + 7) = false)
    (hRframes : names.length + 3 < R.frames) (hRlocals : (rest.map fun v => v.category).sum + (13 * (names.length + 1) + 42) ≤ R.locals) (hRcells : cells + 1 ≤ R.cells) (hRslots : slots + 6 ≤ R.slots) (hlocks : meth.locks = false)
    (hx : ∀ t : State, s.vm.Alike t.vm → H.size ≤ t.heap.size → (∀ q : Nat, q < H.size → t.heap[q]? = H[q]?) → XC cls s t)
    (hf : ∀ z ∈ locs, free z.base) (hc : cells + 1 ≤ mc) (hs : slots + 6 ≤ ms) :
    W p l e R s m args below meth c H locs cells slots (vx_MQ below Qc XC args s mc ms free) (F0 m pc ls rest) := by
  intro T hT X
  have htr : e.platform.stackTraces = false := (show e.platform.stackTraces = l.stackTraces by rw [X.admits.platform]).trans hl
  have Y := vx_rebase X (R' := { frames := R.frames, locals := R.locals, cells := 1, slots := 6 }) (Nat.le_refl _) (Nat.le_refl _) hRcells hRslots
  obtain ⟨s', hA⟩ : ∃ z, z = (T.setVm s.vm).setFrames (.invoking m args :: below) := ⟨_, rfl⟩
  rw [← hA] at Y
  have hvm : s'.vm = s.vm := by rw [hA]; rfl
  have hhp : s'.heap = H := by rw [hA]; exact hT
  have hW0 : s.WarmedH s'.vm := by rw [hvm]; exact State.WarmedH.refl s
  have hat' : ∀ w ∈ vx_at0 own ic cls names, w.before args s' = true := fun w hw => vx_ot_at hW0 hvm.symm (hgood w (List.mem_cons_of_mem _ (List.mem_cons_of_mem _ hw))) (hat w hw)
  have hk' : (Cond.classLink own ik cls).before args s' = true := vx_ot_at hW0 hvm.symm (hgood _ List.mem_cons_self) hk
  have hini' : (Cond.initialized cls).before args s' = true := vx_ot_at hW0 hvm.symm (hgood _ (List.mem_cons_of_mem _ List.mem_cons_self)) hini
  have hU' : vx_Zq Bundle.tN "UNASSIGNED_STACK" Bundle.steD A s' s'.heap := by rw [hhp]; exact vx_Zq.moved hW0.alike (hU.kept hS.2.1)
  have hN' : vx_Zq Bundle.tN "SUPPRESSED_SENTINEL" Bundle.listD A s' s'.heap := by rw [hhp]; exact vx_Zq.moved hW0.alike (hN.kept hS.2.1)
  have h : ∀ w ∈ Bundle.ownAtoms0 own ic cls names, w.before args s' = true := vx_own hat' (vx_isRefq hU'.1) (vx_isRefq hN'.1) hU'.2.word hN'.2.word
  have hown' : s'.vm.findClass own = some m.cls := by rw [hvm]; exact hown
  have hins : (Cond.instantiable cls 6).before args s' = true := h _ (by simp [Bundle.ownAtoms0])
  obtain ⟨vm₁, cX, kX, hfX, hkX, -, -, X₁, st1⟩ := Y.newCold hexec (own := own) (C := cls) (index := ik) (n := 6) hown' hk' hins hini'
    (g := F0 m pc ls rest) rfl (by rw [hb]; exact d0) (Nat.le_refl _) (Nat.le_refl _)
  generalize hT1 : (T.setVm vm₁).pushCell { cls := cX, slots := kX.instanceTypes.map defaultValue, vm := .none } = T1 at X₁ st1
  have hcat : (Value.ref T.heap.size).category = 1 := rfl
  have hcellA : T1.heap[T.heap.size]? = some (freshCell cX kX) := by rw [← hT1]; exact State.heap_pushCell_size _ _
  have d3' : decode c.code (pc + 3) = .ok (.dup, 1) := by rw [hb]; exact d3
  obtain ⟨U, hsteps, hrun, hend, hW, hsame, ce, hce, hO⟩ := X₁.ctorThrow0 hexec htr (own := own) (cls := cls) (names := names) (ic := ic) hown' hcls hnames h (fun x hx => nomatch hx) hfX hkX hcellA (by rw [hhp, hT]; exact Nat.le_refl _)
    (g := { method := m, pc := pc + 4, locals := ls, stack := .ref T.heap.size :: .ref T.heap.size :: rest, locked := none }) rfl hsize rfl rfl (rest := rest) rfl
    (by rw [hb]; exact d4) (by rw [hb]; exact d7) hout hRframes (by simp only [List.map_cons, List.sum_cons, hcat]; omega) hlocks
  obtain ⟨f1, f2⟩ := vx_frame hsame
  rw [hhp] at f1 f2
  have hWs : s.WarmedH U.vm := State.WarmedH.trans hW0 hW
  have hcl : s.vm.findClass cls = some ce.cls := by
    have h9 := hO.cls
    rw [hvm] at h9
    exact h9
  have hall : s.sameButNew ({ U with vm := s.vm } : State) locs mc ms := by
    subst hA
    obtain ⟨e1, e2⟩ := hsame
    rw [State.setFrames_setFrames] at e1
    have h2 : (T.setVm s.vm).sameButNew ({ U with vm := s.vm } : State) [] (0 + 1) (0 + 6) := ⟨e1, e2⟩
    have h3 := X.same.trans h2
    rw [List.append_nil] at h3
    exact h3.mono hc hs
  refine ⟨U, ?_, .threw T.heap.size, hrun, hend, Or.inr ⟨T.heap.size, rfl, cls, ce, locs, hx U hWs.alike f1 (fun q hq => f2 q hq (fun z hz => nomatch hz)), hce, hO.vm, hcl, hWs, hall, hf⟩⟩
  refine st1 _ ?_
  show Steps p.tables e below (T1.setTop { method := m, pc := pc + 3, locals := ls, stack := .ref T.heap.size :: rest, locked := none }) _
  jvm_step X₁.here [X₁.here.top, hexec, d3', Value.category]
  exact hsteps
/-- 'throw new E("text")': new; dup; ldc; invokespecial; athrow -/
theorem vx_throwS {cc : ByteArray} {pc : Nat} (hexec : p.tables.exec = Jvm.exec) (hb : c.code = cc) (hl : l.stackTraces = false) {own cls text : String} {names : List String} {ik is ic mc ms sa : Nat} {A : Nat → Prop}
    (hown : s.vm.findClass own = some m.cls) (hcls : Bundle.fit cls = true) (hnames : ∀ n ∈ names, Bundle.fit n = true)
    (hk : (Cond.classLink own ik cls).before args s = true) (hini : (Cond.initialized cls).before args s = true) (hstr : vk_R own is text sa s) (hat : ∀ w ∈ vx_atS own ic cls names, w.before args s = true)
    (hgood : ∀ w ∈ Cond.classLink own ik cls :: Cond.initialized cls :: vx_atS own ic cls names, vx_ot w = true)
    (hU : vx_Zq Bundle.tN "UNASSIGNED_STACK" Bundle.steD A s s.heap) (hN : vx_Zq Bundle.tN "SUPPRESSED_SENTINEL" Bundle.listD A s s.heap) (hS : va_S A s.heap H locs) (hsize : ls.size = c.maxLocals)
    (d0 : decode cc pc = .ok (.new ik, 3)) (d3 : decode cc (pc + 3) = .ok (.dup, 1)) (d4 : decode cc (pc + 4) = .ok (.ldc is, 2)) (d6 : decode cc (pc + 6) = .ok (.invokespecial ic, 3)) (d9 : decode cc (pc + 9) = .ok (.athrow, 1))
    (hout : ∀ x ∈ c.exceptionTable.toList, covers x (pc + 9) = false)
    (hRframes : names.length + 3 < R.frames) (hRlocals : (rest.map fun v => v.category).sum + (13 * (names.length + 1) + 43) ≤ R.locals) (hRcells : cells + 1 ≤ R.cells) (hRslots : slots + 6 ≤ R.slots) (hlocks : meth.locks = false)
    (hx : ∀ t : State, s.vm.Alike t.vm → H.size ≤ t.heap.size → (∀ q : Nat, q < H.size → t.heap[q]? = H[q]?) → XC cls s t)
    (hf : ∀ z ∈ locs, free z.base) (hc : cells + 1 ≤ mc) (hs : slots + 6 ≤ ms) :
    W p l e R s m args below meth c H locs cells slots (vx_MQ below Qc XC args s mc ms free) (F0 m pc ls rest) := by
  intro T hT X
  have htr : e.platform.stackTraces = false := (show e.platform.stackTraces = l.stackTraces by rw [X.admits.platform]).trans hl
  have Y := vx_rebase X (R' := { frames := R.frames, locals := R.locals, cells := 1, slots := 6 }) (Nat.le_refl _) (Nat.le_refl _) hRcells hRslots
  obtain ⟨s', hA⟩ : ∃ z, z = (T.setVm s.vm).setFrames (.invoking m args :: below) := ⟨_, rfl⟩
  rw [← hA] at Y
  have hvm : s'.vm = s.vm := by rw [hA]; rfl
  have hhp : s'.heap = H := by rw [hA]; exact hT
  have hW0 : s.WarmedH s'.vm := by rw [hvm]; exact State.WarmedH.refl s
  have hat' : ∀ w ∈ vx_atS own ic cls names, w.before args s' = true := fun w hw => vx_ot_at hW0 hvm.symm (hgood w (List.mem_cons_of_mem _ (List.mem_cons_of_mem _ hw))) (hat w hw)
  have hk' : (Cond.classLink own ik cls).before args s' = true := vx_ot_at hW0 hvm.symm (hgood _ List.mem_cons_self) hk
  have hini' : (Cond.initialized cls).before args s' = true := vx_ot_at hW0 hvm.symm (hgood _ (List.mem_cons_of_mem _ List.mem_cons_self)) hini
  have hU' : vx_Zq Bundle.tN "UNASSIGNED_STACK" Bundle.steD A s' s'.heap := by rw [hhp]; exact vx_Zq.moved hW0.alike (hU.kept hS.2.1)
  have hN' : vx_Zq Bundle.tN "SUPPRESSED_SENTINEL" Bundle.listD A s' s'.heap := by rw [hhp]; exact vx_Zq.moved hW0.alike (hN.kept hS.2.1)
  have h : ∀ w ∈ Bundle.ownAtoms own ic cls names, w.before args s' = true := vx_own hat' (vx_isRefq hU'.1) (vx_isRefq hN'.1) hU'.2.word hN'.2.word
  have hown' : s'.vm.findClass own = some m.cls := by rw [hvm]; exact hown
  have hins : (Cond.instantiable cls 6).before args s' = true := h _ (by simp [Bundle.ownAtoms])
  obtain ⟨vm₁, cX, kX, hfX, hkX, -, -, X₁, st1⟩ := Y.newCold hexec (own := own) (C := cls) (index := ik) (n := 6) hown' hk' hins hini'
    (g := F0 m pc ls rest) rfl (by rw [hb]; exact d0) (Nat.le_refl _) (Nat.le_refl _)
  generalize hT1 : (T.setVm vm₁).pushCell { cls := cX, slots := kX.instanceTypes.map defaultValue, vm := .none } = T1 at X₁ st1
  have hcat : (Value.ref T.heap.size).category = 1 := rfl
  have hcellA : T1.heap[T.heap.size]? = some (freshCell cX kX) := by rw [← hT1]; exact State.heap_pushCell_size _ _
  have d3' : decode c.code (pc + 3) = .ok (.dup, 1) := by rw [hb]; exact d3
  have d4' : decode c.code (pc + 4) = .ok (.ldc is, 2) := by rw [hb]; exact d4
  have hstr' : vk_R own is text sa s' := vk_R.warm hW0 hstr
  obtain ⟨U, hsteps, hrun, hend, hW, hsame, ce, hce, hO⟩ := X₁.ctorThrowS hexec htr (own := own) (cls := cls) (names := names) (ic := ic) hown' hcls hnames h (fun x hx => nomatch hx) hfX hkX hcellA (by rw [hhp, hT]; exact Nat.le_refl _) (msg := .ref sa) rfl
    (g := { method := m, pc := pc + 6, locals := ls, stack := .ref sa :: .ref T.heap.size :: .ref T.heap.size :: rest, locked := none }) rfl hsize rfl rfl (rest := rest) rfl
    (by rw [hb]; exact d6) (by rw [hb]; exact d9) hout hRframes (by simp only [List.map_cons, List.sum_cons, hcat]; omega) hlocks
  obtain ⟨f1, f2⟩ := vx_frame hsame
  rw [hhp] at f1 f2
  have hWs : s.WarmedH U.vm := State.WarmedH.trans hW0 hW
  have hcl : s.vm.findClass cls = some ce.cls := by
    have h9 := hO.cls
    rw [hvm] at h9
    exact h9
  have hall : s.sameButNew ({ U with vm := s.vm } : State) locs mc ms := by
    subst hA
    obtain ⟨e1, e2⟩ := hsame
    rw [State.setFrames_setFrames] at e1
    have h2 : (T.setVm s.vm).sameButNew ({ U with vm := s.vm } : State) [] (0 + 1) (0 + 6) := ⟨e1, e2⟩
    have h3 := X.same.trans h2
    rw [List.append_nil] at h3
    exact h3.mono hc hs
  refine ⟨U, ?_, .threw T.heap.size, hrun, hend, Or.inr ⟨T.heap.size, rfl, cls, ce, locs, hx U hWs.alike f1 (fun q hq => f2 q hq (fun z hz => nomatch hz)), hce, hO.vm, hcl, hWs, hall, hf⟩⟩
  refine st1 _ ?_
  show Steps p.tables e below (T1.setTop { method := m, pc := pc + 3, locals := ls, stack := .ref T.heap.size :: rest, locked := none }) _
  jvm_step X₁.here [X₁.here.top, hexec, d3', Value.category]
  exact X₁.ldcString hexec (own := own) (text := text) (index := is) (a := sa) hown' hstr'.1 hstr'.2
    (g := { method := m, pc := pc + 4, locals := ls, stack := .ref T.heap.size :: .ref T.heap.size :: rest, locked := none }) rfl d4' _ hsteps
/-- 'throw new E("text")', the text by a wide index -/
theorem vx_throwSW {cc : ByteArray} {pc : Nat} (hexec : p.tables.exec = Jvm.exec) (hb : c.code = cc) (hl : l.stackTraces = false) {own cls text : String} {names : List String} {ik is ic mc ms sa : Nat} {A : Nat → Prop}
    (hown : s.vm.findClass own = some m.cls) (hcls : Bundle.fit cls = true) (hnames : ∀ n ∈ names, Bundle.fit n = true)
    (hk : (Cond.classLink own ik cls).before args s = true) (hini : (Cond.initialized cls).before args s = true) (hstr : vk_R own is text sa s) (hat : ∀ w ∈ vx_atS own ic cls names, w.before args s = true)
    (hgood : ∀ w ∈ Cond.classLink own ik cls :: Cond.initialized cls :: vx_atS own ic cls names, vx_ot w = true)
    (hU : vx_Zq Bundle.tN "UNASSIGNED_STACK" Bundle.steD A s s.heap) (hN : vx_Zq Bundle.tN "SUPPRESSED_SENTINEL" Bundle.listD A s s.heap) (hS : va_S A s.heap H locs) (hsize : ls.size = c.maxLocals)
    (d0 : decode cc pc = .ok (.new ik, 3)) (d3 : decode cc (pc + 3) = .ok (.dup, 1)) (d4 : decode cc (pc + 4) = .ok (.ldc_w is, 3)) (d7 : decode cc (pc + 7) = .ok (.invokespecial ic, 3)) (d10 : decode cc (pc + 10) = .ok (.athrow, 1))
    (hout : ∀ x ∈ c.exceptionTable.toList, covers x (pc + 10) = false)
    (hRframes : names.length + 3 < R.frames) (hRlocals : (rest.map fun v => v.category).sum + (13 * (names.length + 1) + 43) ≤ R.locals) (hRcells : cells + 1 ≤ R.cells) (hRslots : slots + 6 ≤ R.slots) (hlocks : meth.locks = false)
    (hx : ∀ t : State, s.vm.Alike t.vm → H.size ≤ t.heap.size → (∀ q : Nat, q < H.size → t.heap[q]? = H[q]?) → XC cls s t)
    (hf : ∀ z ∈ locs, free z.base) (hc : cells + 1 ≤ mc) (hs : slots + 6 ≤ ms) :
    W p l e R s m args below meth c H locs cells slots (vx_MQ below Qc XC args s mc ms free) (F0 m pc ls rest) := by
  intro T hT X
  have htr : e.platform.stackTraces = false := (show e.platform.stackTraces = l.stackTraces by rw [X.admits.platform]).trans hl
  have Y := vx_rebase X (R' := { frames := R.frames, locals := R.locals, cells := 1, slots := 6 }) (Nat.le_refl _) (Nat.le_refl _) hRcells hRslots
  obtain ⟨s', hA⟩ : ∃ z, z = (T.setVm s.vm).setFrames (.invoking m args :: below) := ⟨_, rfl⟩
  rw [← hA] at Y
  have hvm : s'.vm = s.vm := by rw [hA]; rfl
  have hhp : s'.heap = H := by rw [hA]; exact hT
  have hW0 : s.WarmedH s'.vm := by rw [hvm]; exact State.WarmedH.refl s
  have hat' : ∀ w ∈ vx_atS own ic cls names, w.before args s' = true := fun w hw => vx_ot_at hW0 hvm.symm (hgood w (List.mem_cons_of_mem _ (List.mem_cons_of_mem _ hw))) (hat w hw)
  have hk' : (Cond.classLink own ik cls).before args s' = true := vx_ot_at hW0 hvm.symm (hgood _ List.mem_cons_self) hk
  have hini' : (Cond.initialized cls).before args s' = true := vx_ot_at hW0 hvm.symm (hgood _ (List.mem_cons_of_mem _ List.mem_cons_self)) hini
  have hU' : vx_Zq Bundle.tN "UNASSIGNED_STACK" Bundle.steD A s' s'.heap := by rw [hhp]; exact vx_Zq.moved hW0.alike (hU.kept hS.2.1)
  have hN' : vx_Zq Bundle.tN "SUPPRESSED_SENTINEL" Bundle.listD A s' s'.heap := by rw [hhp]; exact vx_Zq.moved hW0.alike (hN.kept hS.2.1)
  have h : ∀ w ∈ Bundle.ownAtoms own ic cls names, w.before args s' = true := vx_own hat' (vx_isRefq hU'.1) (vx_isRefq hN'.1) hU'.2.word hN'.2.word
  have hown' : s'.vm.findClass own = some m.cls := by rw [hvm]; exact hown
  have hins : (Cond.instantiable cls 6).before args s' = true := h _ (by simp [Bundle.ownAtoms])
  obtain ⟨vm₁, cX, kX, hfX, hkX, -, -, X₁, st1⟩ := Y.newCold hexec (own := own) (C := cls) (index := ik) (n := 6) hown' hk' hins hini'
    (g := F0 m pc ls rest) rfl (by rw [hb]; exact d0) (Nat.le_refl _) (Nat.le_refl _)
  generalize hT1 : (T.setVm vm₁).pushCell { cls := cX, slots := kX.instanceTypes.map defaultValue, vm := .none } = T1 at X₁ st1
  have hcat : (Value.ref T.heap.size).category = 1 := rfl
  have hcellA : T1.heap[T.heap.size]? = some (freshCell cX kX) := by rw [← hT1]; exact State.heap_pushCell_size _ _
  have d3' : decode c.code (pc + 3) = .ok (.dup, 1) := by rw [hb]; exact d3
  have d4' : decode c.code (pc + 4) = .ok (.ldc_w is, 3) := by rw [hb]; exact d4
  have hstr' : vk_R own is text sa s' := vk_R.warm hW0 hstr
  obtain ⟨U, hsteps, hrun, hend, hW, hsame, ce, hce, hO⟩ := X₁.ctorThrowS hexec htr (own := own) (cls := cls) (names := names) (ic := ic) hown' hcls hnames h (fun x hx => nomatch hx) hfX hkX hcellA (by rw [hhp, hT]; exact Nat.le_refl _) (msg := .ref sa) rfl
    (g := { method := m, pc := pc + 7, locals := ls, stack := .ref sa :: .ref T.heap.size :: .ref T.heap.size :: rest, locked := none }) rfl hsize rfl rfl (rest := rest) rfl
    (by rw [hb]; exact d7) (by rw [hb]; exact d10) hout hRframes (by simp only [List.map_cons, List.sum_cons, hcat]; omega) hlocks
  obtain ⟨f1, f2⟩ := vx_frame hsame
  rw [hhp] at f1 f2
  have hWs : s.WarmedH U.vm := State.WarmedH.trans hW0 hW
  have hcl : s.vm.findClass cls = some ce.cls := by
    have h9 := hO.cls
    rw [hvm] at h9
    exact h9
  have hall : s.sameButNew ({ U with vm := s.vm } : State) locs mc ms := by
    subst hA
    obtain ⟨e1, e2⟩ := hsame
    rw [State.setFrames_setFrames] at e1
    have h2 : (T.setVm s.vm).sameButNew ({ U with vm := s.vm } : State) [] (0 + 1) (0 + 6) := ⟨e1, e2⟩
    have h3 := X.same.trans h2
    rw [List.append_nil] at h3
    exact h3.mono hc hs
  refine ⟨U, ?_, .threw T.heap.size, hrun, hend, Or.inr ⟨T.heap.size, rfl, cls, ce, locs, hx U hWs.alike f1 (fun q hq => f2 q hq (fun z hz => nomatch hz)), hce, hO.vm, hcl, hWs, hall, hf⟩⟩
  refine st1 _ ?_
  show Steps p.tables e below (T1.setTop { method := m, pc := pc + 3, locals := ls, stack := .ref T.heap.size :: rest, locked := none }) _
  jvm_step X₁.here [X₁.here.top, hexec, d3', Value.category]
  exact X₁.ldcStringW hexec (own := own) (text := text) (index := is) (a := sa) hown' hstr'.1 hstr'.2
    (g := { method := m, pc := pc + 4, locals := ls, stack := .ref T.heap.size :: .ref T.heap.size :: rest, locked := none }) rfl d4' _ hsteps
end Ends
section Bodies
variable {l : Launch}
theorem vx_ofW {y : MethodName} {ws ws' : List Cond} {rm : Room} {Pc : Array Value → State → Prop} {Qc : Array Value → State → Outcome → State → Prop} {XC : String → State → State → Prop} {mc ms : Nat} {free : Addr → Prop} {cc : ByteArray} {maxL : Nat} {ret : Option FieldType}
    (hy : plainName y.cls = true) (hw : ws = Cond.code y cc maxL ret :: ws')
    (body : ∀ p e s m args below meth c s₁, BodyLoose p l y (headSpec ws rm) cc maxL ret e s m args below meth c s₁ → c.maxLocals = maxL → (∀ x ∈ c.exceptionTable.toList, False) → Pc args s →
      W p l e (headSpec ws rm).room s m args below meth c s.heap [] 0 0 (vx_MQ below Qc XC args s mc ms free) (entryFrame m args maxL)) : vx_Met l y ws rm Pc Qc XC mc ms free := by
  refine MetFree.of_bodyS (code := cc) (maxLocals := maxL) (ret := ret) hy ?_ ?_
  · intro args s m h hn
    obtain ⟨meth, c, h1, h2, h3, h4, h5, h6, -, -⟩ := Cond.code_spec hn (atoms_spec (ws := ws) h _ (by rw [hw]; exact List.mem_cons_self))
    exact ⟨meth, c, h1, h2, h3, h4, h5, h6⟩
  · intro p e s m args below meth c s₁ B hml hP _
    have hh0 : s₁.heap = s.heap := by rw [B.state]; rfl
    have ht : ∀ x ∈ c.exceptionTable.toList, False := by
      obtain ⟨meth9, c9, h1, h2, -, -, -, -, h7, -⟩ := Cond.code_spec B.named (atoms_spec (ws := ws) B.pre _ (by rw [hw]; exact List.mem_cons_self))
      cases Option.some.inj (h1.symm.trans B.method)
      cases Option.some.inj (h2.symm.trans (Stand.of_body B).code)
      intro x hx
      rw [Array.isEmpty_iff.mp h7] at hx
      cases hx
    obtain ⟨t, a1, o, b1, b2, b3⟩ := body p e s m args below meth c s₁ B hml ht hP s₁ hh0 (Stand.of_body B)
    exact ⟨t, o, a1, b1, b2, b3⟩
/-- the table of a body with handlers -/
theorem vx_table {p : Program} {x y : MethodName} {S : Spec} {cc bytes : ByteArray} {maxL maxL' : Nat} {ret ret' : Option FieldType} {e : Env} {s s₁ : State} {m : MethodId} {args : Array Value} {below : List Frame} {meth : Method} {c : Code} {hh : List (Nat × Nat × Nat × Nat)}
    (B : BodyLoose p l y S cc maxL ret e s m args below meth c s₁) (h : (Cond.codeWith y bytes maxL' ret' hh).before args s = true) : c.exceptionTable.toList = tableOf hh := by
  obtain ⟨m9, meth9, c9, hn9, h1, h2, -, -, h6, -⟩ := Cond.codeWith_spec h
  cases Option.some.inj (hn9.symm.trans B.named)
  cases Option.some.inj (h1.symm.trans B.method)
  cases Option.some.inj (h2.symm.trans (Stand.of_body B).code)
  rw [← h6, table_eq]
end Bodies
end VXA
/-! ===== END ===== -/
/-! ===== BEGIN a static call of a method with an exception table ===== -/
section VXS
variable {p : Program} {l : Launch} {e : Env} {R : Room} {s : State} {m : MethodId} {args : Array Value} {below : List Frame} {meth : Method} {c : Code} {T : State} {H : Heap} {locs : List Loc} {cells slots : Nat}
abbrev vx_CSW (R : Room) (s : State) (args : Array Value) (own : String) (index : Nat) (y : MethodName) (bytes : ByteArray) (maxL : Nat) (ret : Option FieldType) (hh : List (Nat × Nat × Nat × Nat)) (ws : List Cond) (rm : Room) (mc ms n : Nat) : Prop :=
  (rm.cells = mc ∧ rm.slots = ms ∧ rm.frames + 1 ≤ R.frames ∧ 8 + (maxL + 11) + rm.locals ≤ R.locals ∧ (∀ w ∈ ws, ∀ (a' : Array Value) (U : State), s.WarmedH U.vm → w.before a' U = true) ∧ Cond.codeWith y bytes maxL ret hh ∈ ws) ∧
  (Cond.codeWith y bytes maxL ret hh).before args s = true ∧ (Cond.initialized y.cls).before args s = true ∧ (y.cls ≠ "java/lang/invoke/MethodHandle" ∧ y.cls ≠ "java/lang/invoke/VarHandle") ∧
  (∀ sig, parseMethodDescriptor y.desc = some sig → n = sig.parameters.length) ∧ (Cond.methodLink own index y).before args s = true ∧ (Cond.static y).before args s = true
theorem vx_cwSW {own : String} {index maxL mc ms : Nat} {y : MethodName} {bytes : ByteArray} {ret : Option FieldType} {hh : List (Nat × Nat × Nat × Nat)} {Ts ws ws' : List Cond} {rm : Room} (n : Nat) (ht : ∀ w ∈ Ts, w.before args s = true) (hT : GoodIn Ts (va_wsS own index y ws)) (hw : ws = Cond.codeWith y bytes maxL ret hh :: ws') (hrc : rm.cells = mc) (hrs : rm.slots = ms)
    (hd : y.cls ≠ "java/lang/invoke/MethodHandle" ∧ y.cls ≠ "java/lang/invoke/VarHandle" ∧ (parseMethodDescriptor y.desc).map (fun d => d.parameters.length) = some n) (hR : rm.frames + 1 ≤ R.frames ∧ 8 + (maxL + 11) + rm.locals ≤ R.locals) :
    vx_CSW R s args own index y bytes maxL ret hh ws rm mc ms n := by
  have ok : ∀ w ∈ va_wsS own index y ws, w.before args s = true := fun w h => ht w (hT w h).1
  have hG : GoodIn Ts ws := fun w h => hT w (by unfold va_wsS; exact List.mem_append_right _ h)
  have hc : Cond.codeWith y bytes maxL ret hh ∈ ws := by rw [hw]; exact List.mem_cons_self
  refine ⟨⟨hrc, hrs, hR.1, hR.2, pay_in ht hG, hc⟩, ht _ (hG _ hc).1, ok _ (by simp [va_wsS]), ⟨hd.1, hd.2.1⟩, fun sig h => ?_, ok _ (by simp [va_wsS]), ok _ (by simp [va_wsS])⟩
  have h2 := hd.2.2
  rw [h] at h2
  exact (Option.some.inj h2).symm
theorem vx_callSW (X : Stand p l e R s m args below meth c T locs cells slots) (hexec : p.tables.exec = Jvm.exec) {own : String} {index : Nat} {y : MethodName} {bytes : ByteArray} {maxL : Nat} {ret : Option FieldType} {hh : List (Nat × Nat × Nat × Nat)}
    (hown : s.vm.findClass own = some m.cls) (hlink : (Cond.methodLink own index y).before args s = true) (hstat : (Cond.static y).before args s = true) (hinit : (Cond.initialized y.cls).before args s = true)
    (hcode : (Cond.codeWith y bytes maxL ret hh).before args s = true) (hy : y.cls ≠ "java/lang/invoke/MethodHandle" ∧ y.cls ≠ "java/lang/invoke/VarHandle")
    {W9 : Nat} {Pre : Pt → Array Value → Prop} {Post : Pt → Array Value → Option Value → Pt → Prop} (hK : Back l R p e below s args y 3 W9 Pre Post)
    {g : JFrame} (hg : g.method = m) (hsize : g.locals.size = c.maxLocals) {argsL rest : List Value} (hlen : ∀ sig, parseMethodDescriptor y.desc = some sig → argsL.length = sig.parameters.length)
    (hstack : g.stack = argsL.reverse ++ rest) (hW : 2 * g.monitorRoom + (rest.map fun v => v.category).sum ≤ W9) (hdg : decode c.code g.pc = .ok (.invokestatic index, 3))
    (hpre : ∀ vm₁, s.WarmedH vm₁ → Pre ⟨T.setVm vm₁, locs, cells, slots⟩ argsL.toArray) :
    ∃ (v : Option Value) (vm₁ : Vm) (B : Pt), s.WarmedH vm₁ ∧ Stand p l e R s m args below meth c B.U B.locs B.cells B.slots ∧ Post ⟨T.setVm vm₁, locs, cells, slots⟩ argsL.toArray v B ∧
      ∀ target, Steps p.tables e below (B.U.setTop { g with pc := g.pc + 3, stack := v.toList ++ rest }) target → Steps p.tables e below (T.setTop g) target := by
  obtain ⟨mk, methM, cM, hnamed, hmethM, -, -, -, -, -, -, hsigM⟩ := Cond.codeWith_spec hcode
  have hstatic : methM.isStatic = true := Cond.static_spec hnamed hmethM hstat
  obtain ⟨kP, hkP, -⟩ := className_of_methodNamed hnamed
  have hinitP : kP.init = .initialized := Cond.initialized_spec (findClass_of_methodNamed hnamed) hkP hinit
  obtain ⟨vm₁, X₁, hstep₁⟩ := X.invokestatic hexec hown hlink hnamed hmethM hstatic hkP hinitP hy (g := g) hg (argsL := argsL) (rest := rest) (hlen _ hsigM) hstack hdg
  obtain ⟨v, B, X', hpost, hsteps⟩ := hK m meth c ⟨T.setVm vm₁, locs, cells, slots⟩ { g with stack := rest } (.invokestatic index) mk argsL.toArray X₁ hg hsize hdg hW (X₁.named hnamed) (hpre vm₁ X₁.warmed)
  exact ⟨v, vm₁, B, X₁.warmed, X', hpost, fun target h => hstep₁ _ fun acts => by rw [doInvoke_state]; exact hsteps.trans h⟩
theorem vx_runSW {y : MethodName} {bytes cc : ByteArray} {maxL nL mc ms n index : Nat} {ret : Option FieldType} {hh : List (Nat × Nat × Nat × Nat)} {ws : List Cond} {rm : Room} {Pc : Array Value → State → Prop} {Qc : Array Value → State → Outcome → State → Prop} {free : Addr → Prop} {Ts : List Cond} {own : String} {As rest : List Value} {g : JFrame}
    (S : CallFix p m c cc nL s args Ts own) (hM : Met l y ws rm Pc Qc mc ms free) (cw : vx_CSW R s args own index y bytes maxL ret hh ws rm mc ms n) (hp : PreS s H Pc As)
    (hg : g.method = m) (hn : As.length = n) (hsize : g.locals.size = nL) (hstack : g.stack = As.reverse ++ rest) (hW : 2 * g.monitorRoom + (rest.map fun v => v.category).sum ≤ 8) (hdg : decode cc g.pc = .ok (.invokestatic index, 3)) (hf : cells + mc ≤ R.cells ∧ slots + ms ≤ R.slots) :
    va_Run p l e R s m args below meth c H locs cells slots mc ms g rest (Qc As.toArray) (free) := by
  obtain ⟨⟨hrc, hrs, hfr, hlo, hws, hcw⟩, hcode, hini, hy, hlen, hl, hstt⟩ := cw
  have hK : Back l R p e below s args y 3 8 (PreOf R mc ms Pc) (PostOf Qc mc ms free) := va_backW (hh := hh) (bytes := bytes) (maxL := maxL) (ret := ret) hM hp.1 hrc hrs hfr hlo hws hcw (fun a' U hW => word_at hW (Or.inl (by first | rfl | simp [Cond.onTables, Cond.keeps, Cond.steady])) hini)
  obtain ⟨hx, hb, hml, ho, -⟩ := S
  intro T hT X
  obtain ⟨v, vm₁, ⟨U', l2, c2, s2⟩, hW₁, X', ⟨g', mk, t, L, e1, e2, hq, h1, hL, h2, h3⟩, st⟩ := vx_callSW X hx (hh := hh) (bytes := bytes) (maxL := maxL) (ret := ret) ho hl hstt hini hcode hy hK hg (hsize.trans hml.symm) (argsL := As) (rest := rest) (fun sig h => hn.trans (hlen sig h)) hstack hW (by rw [hb]; exact hdg)
    (fun vm₁ hW₁ => ⟨hf.1, hf.2, hp.2 (T.setVm vm₁) hT hW₁⟩)
  dsimp only [Pt.U, Pt.locs, Pt.cells, Pt.slots] at X' e1 e2 h1 h2 h3 st
  subst h1; subst h2; subst h3
  exact ⟨v, (T.setVm vm₁).calling g' mk As.toArray, t, U', L, hT, X', hL, e1, e2, hq, st⟩
/-- a thing of a world lies in the heap -/
theorem vx_lt {D : va_G} {cl : List vw_C} {ws : va_W} {H1 : Heap} (h : va_P D cl ws H1) {k : Nat} {q : Nat × va_E} (hk : ws[k]? = some q) : q.1 < H1.size := (h k q hk).lt
end VXS
/-! ===== END ===== -/
/-! ===== BEGIN methods with a table of their own: called by a name, returning or throwing ===== -/
section VXH
/-! vx_backW, vx_callVX, vx_callSX, vx_callVW, vx_runVW, vx_runVX, vx_runSX, vx_ofWH follow the same proofs as their sisters above (Free/Laws.lean, Shelf42/LK1.lean); vx_outP calls Shelf42/NT130.lean (outThrough). -/
section
variable {l : Launch} {R : Room} {p : Program} {e : Env} {below : List Frame} {s : State} {sargs : Array Value} {y : MethodName} {len W9 : Nat}
theorem vx_backW {ws : List Cond} {rm : Room} {Pc : Array Value → State → Prop} {Qc : Array Value → State → Outcome → State → Prop} {XC : String → State → State → Prop} {mc ms : Nat} {free : Addr → Prop} {bytes : ByteArray} {maxL : Nat} {ret : Option FieldType} {hh : List (Nat × Nat × Nat × Nat)}
    (hM : vx_Met l y ws rm Pc Qc XC mc ms free) (hblind : FrameBlind Pc) (hrc : rm.cells = mc) (hrs : rm.slots = ms)
    (hframes : rm.frames + 1 ≤ R.frames) (hlocals : W9 + (maxL + 11) + rm.locals ≤ R.locals)
    (hws : ∀ w ∈ ws, ∀ a' U, s.WarmedH U.vm → w.before a' U = true) (hcode : Cond.codeWith y bytes maxL ret hh ∈ ws) (hinit : ∀ a' U, s.WarmedH U.vm → (Cond.initialized y.cls).before a' U = true) :
    vx_Back l R p e below s sargs y len W9 (PreOf R mc ms Pc) (PostOf Qc mc ms free) (vx_Post XC mc ms free) := by
  intro m meth c A g ig mk a X hg hsize hdg hW hn hp
  have h1 : (headSpec ws rm).pre.before a A.U = true := atoms_intro fun w hw => hws w hw _ _ X.warmed
  have h2 : (Cond.codeWith y bytes maxL ret hh).before a A.U = true := hws _ hcode _ _ X.warmed
  have h3 : (Cond.initialized y.cls).before a A.U = true := hinit _ _ X.warmed
  have h4 : A.cells + (headSpec ws rm).room.cells ≤ R.cells := by rw [show (headSpec ws rm).room.cells = mc from hrc]; exact hp.1
  have h5 : A.slots + (headSpec ws rm).room.slots ≤ R.slots := by rw [show (headSpec ws rm).room.slots = ms from hrs]; exact hp.2.1
  have hPc : Pc a (A.U.calling g mk a) := hblind _ _ _ _ hp.2.2
  obtain ⟨U, Ls, c0, s0⟩ := A
  dsimp only [Pt.U, Pt.locs, Pt.cells, Pt.slots] at h1 h2 h3 h4 h5 X hn hPc ⊢
  obtain ⟨m9, methY, cY, hn9, hmY, hcY, -, hlY, -⟩ := Cond.codeWith_spec h2
  cases Option.some.inj (hn9.symm.trans hn)
  obtain ⟨kY, hkY, -⟩ := className_of_methodNamed hn
  have hinitY : kY.init = .initialized := Cond.initialized_spec (findClass_of_methodNamed hn) hkY h3
  have h : At U g.method c below := by rw [hg]; exact X.here
  have hlocals9 : W9 + (maxL + 11) + (headSpec ws rm).room.locals ≤ R.locals := hlocals
  have happ : (headSpec ws rm).appliesLoose y e.platform (U.calling g mk a) = true :=
    Spec.appliesLoose_calling (g := g) h hdg hn hkY hinitY
      (X.room_calling (g := g) (R' := (headSpec ws rm).room) hsize hmY hcY hframes (by rw [hlY]; omega) h4 h5) h1
  obtain ⟨mid, hmid⟩ := h.above
  have hfr : (U.setTop g).frames = (.java g :: mid) ++ below := by rw [State.frames_setTop' g h.top, hmid]; rfl
  obtain ⟨o, s₂, hsteps, -, hend, hq⟩ := Steps.callFree hM p X.admits X.cas X.clock (acts := []) hfr happ hPc trivial
  have hq' : vx_Q Qc XC mc ms free a (U.calling g mk a) o s₂ := hq
  rw [State.frames_setTop' g h.top] at hend
  obtain ⟨g₀, hg0⟩ := Option.isSome_iff_exists.mp h.top
  obtain ⟨r, hr⟩ := State.topJava?_eq_some.mp hg0
  have hr' : (({ U with heap := s₂.heap, slotsUsed := s₂.slotsUsed } : State).setVm s₂.vm).frames = .java g₀ :: r := hr
  rcases hq' with ⟨hqc, L, hfe, hL⟩ | ⟨q, rfl, E, ce, L, hx, hce, hcv, hcl, hW₂, hsm, hL⟩
  · obtain ⟨⟨v, rfl⟩, hW₂, e2, q2, q3, q4, q5, q6⟩ := id hfe
    have e3 : s₂ = ({ (U.calling g mk a).setFrames s₂.frames with heap := s₂.heap, slotsUsed := s₂.slotsUsed } : State).setVm s₂.vm := by
      have : s₂ = ({ s₂ with vm := (U.calling g mk a).vm } : State).setVm s₂.vm := rfl
      rw [e2] at this
      exact this
    obtain ⟨c₂, i₂, len₂, hc₂, hd₂, hf₂⟩ := hend
    have hW' : U.WarmedH s₂.vm := hW₂
    have hcc : c₂ = c := by
      have h1 : s₂.code? g.method = U.code? g.method := by
        rw [State.code?_eq, State.code?_eq, hW'.alike.method?]
      exact Option.some.inj (hc₂.symm.trans (h1.trans h.code))
    subst hcc
    have hlen : len₂ = len := by rw [hdg] at hd₂; cases hd₂; rfl
    subst hlen
    have hs₂ : s₂ = (({ U with heap := s₂.heap, slotsUsed := s₂.slotsUsed } : State).setVm s₂.vm).setTop { g with pc := g.pc + len₂, stack := v.toList ++ g.stack } := by
      refine e3.trans ?_
      rw [hf₂, State.calling_eq h.top, State.setFrames_setFrames, State.setTop_of_frames _ hr', hr]
      rfl
    have hsame : U.sameButNew ({ U with heap := s₂.heap, slotsUsed := s₂.slotsUsed } : State) L mc ms := by
      refine ⟨?_, q2, q3, q4, q5, q6⟩
      obtain ⟨t, ht, -⟩ := State.frames_cons hr
      show ({ U with heap := s₂.heap, slotsUsed := s₂.slotsUsed } : State) = { U.setFrames U.frames with heap := s₂.heap, slotsUsed := s₂.slotsUsed }
      rw [State.setFrames_self ht]
    subst hg
    refine Or.inl ⟨v, ⟨(({ U with heap := s₂.heap, slotsUsed := s₂.slotsUsed } : State).setVm s₂.vm), Ls ++ L, c0 + mc, s0 + ms⟩,
      ⟨X.admits, X.cas, X.clock, X.frames, X.room, X.hears, X.method, X.code, (X.here.setHeapUsed s₂.heap s₂.slotsUsed).setVm hW'.alike, X.tail, State.WarmedH.trans X.warmed hW', X.limits, X.bytes, X.same.trans (hsame.setVm s.vm)⟩,
      ⟨g, mk, s₂, L, rfl, rfl, hqc, rfl, hL, rfl, rfl⟩, ?_⟩
    show Steps p.tables e below _ ((({ U with heap := s₂.heap, slotsUsed := s₂.slotsUsed } : State).setVm s₂.vm).setTop { g with pc := g.pc + len₂, stack := v.toList ++ g.stack })
    rw [← hs₂]
    exact hsteps
  · obtain ⟨e2, q2, q3, q4, q5, q6⟩ := id hsm
    have e3 : s₂ = ({ (U.calling g mk a).setFrames s₂.frames with heap := s₂.heap, slotsUsed := s₂.slotsUsed } : State).setVm s₂.vm := by
      have : s₂ = ({ s₂ with vm := (U.calling g mk a).vm } : State).setVm s₂.vm := rfl
      rw [e2] at this
      exact this
    have hf₂ : s₂.frames = .throwing q :: .java g :: U.frames.tail := hend
    have hW' : U.WarmedH s₂.vm := hW₂
    have hs₂ : s₂ = ((({ U with heap := s₂.heap, slotsUsed := s₂.slotsUsed } : State).setVm s₂.vm).setTop g).pushFrame (.throwing q) := by
      refine e3.trans ?_
      rw [hf₂, State.calling_eq h.top, State.setFrames_setFrames, State.pushFrame, State.frames_setTop _ hr', State.setTop_of_frames _ hr', State.setFrames_setFrames, hr]
      rfl
    have hsame : U.sameButNew ({ U with heap := s₂.heap, slotsUsed := s₂.slotsUsed } : State) L mc ms := by
      refine ⟨?_, q2, q3, q4, q5, q6⟩
      obtain ⟨t, ht, -⟩ := State.frames_cons hr
      show ({ U with heap := s₂.heap, slotsUsed := s₂.slotsUsed } : State) = { U.setFrames U.frames with heap := s₂.heap, slotsUsed := s₂.slotsUsed }
      rw [State.setFrames_self ht]
    subst hg
    refine Or.inr ⟨q, ⟨(({ U with heap := s₂.heap, slotsUsed := s₂.slotsUsed } : State).setVm s₂.vm), Ls ++ L, c0 + mc, s0 + ms⟩,
      ⟨X.admits, X.cas, X.clock, X.frames, X.room, X.hears, X.method, X.code, (X.here.setHeapUsed s₂.heap s₂.slotsUsed).setVm hW'.alike, X.tail, State.WarmedH.trans X.warmed hW', X.limits, X.bytes, X.same.trans (hsame.setVm s.vm)⟩,
      ⟨g, mk, s₂, L, E, ce, rfl, rfl, hx, hce, hcv, hcl, rfl, hL, rfl, rfl⟩, ?_⟩
    show Steps p.tables e below _ (((({ U with heap := s₂.heap, slotsUsed := s₂.slotsUsed } : State).setVm s₂.vm).setTop g).pushFrame (.throwing q))
    rw [← hs₂]
    exact hsteps
end
variable {p : Program} {l : Launch} {e : Env} {R : Room} {s : State} {m : MethodId} {args : Array Value} {below : List Frame} {meth : Method} {c : Code} {T : State} {H : Heap} {locs : List Loc} {cells slots : Nat}
theorem vx_callVX (X : Stand p l e R s m args below meth c T locs cells slots) (hexec : p.tables.exec = Jvm.exec) {own C : String} {index : Nat} {y : MethodName} {bytes : ByteArray} {maxL : Nat} {ret : Option FieldType} {hh : List (Nat × Nat × Nat × Nat)}
    (hown : s.vm.findClass own = some m.cls) (hlink : (Cond.methodLink own index y).before args s = true) (hinst : (Cond.instanceMethod y).before args s = true) (hsel : (Cond.selects C y y).before args s = true)
    (hcode : (Cond.codeWith y bytes maxL ret hh).before args s = true) (hy : y.cls ≠ "java/lang/invoke/MethodHandle" ∧ y.cls ≠ "java/lang/invoke/VarHandle")
    {W9 : Nat} {Pre : Pt → Array Value → Prop} {Post : Pt → Array Value → Option Value → Pt → Prop} {PostX : Pt → Array Value → Addr → Pt → Prop} (hK : vx_Back l R p e below s args y 3 W9 Pre Post PostX)
    {b : Addr} {cellB : Cell} (hcell : T.heap[b]? = some cellB) (hobj : cellB.vm.isStatics = false) (hcls : s.vm.findClass C = some cellB.cls)
    {g : JFrame} (hg : g.method = m) (hsize : g.locals.size = c.maxLocals) {argsL rest : List Value} (hlen : ∀ sig, parseMethodDescriptor y.desc = some sig → argsL.length = sig.parameters.length)
    (hstack : g.stack = argsL.reverse ++ .ref b :: rest) (hW : 2 * g.monitorRoom + (rest.map fun v => v.category).sum ≤ W9) (hdg : decode c.code g.pc = .ok (.invokevirtual index, 3))
    (hpre : ∀ vm₁, s.WarmedH vm₁ → Pre ⟨T.setVm vm₁, locs, cells, slots⟩ (Value.ref b :: argsL).toArray) :
    (∃ (v : Option Value) (vm₁ : Vm) (B : Pt), s.WarmedH vm₁ ∧ Stand p l e R s m args below meth c B.U B.locs B.cells B.slots ∧ Post ⟨T.setVm vm₁, locs, cells, slots⟩ (Value.ref b :: argsL).toArray v B ∧
      ∀ target, Steps p.tables e below (B.U.setTop { g with pc := g.pc + 3, stack := v.toList ++ rest }) target → Steps p.tables e below (T.setTop g) target) ∨
    (∃ (q : Addr) (vm₁ : Vm) (B : Pt), s.WarmedH vm₁ ∧ Stand p l e R s m args below meth c B.U B.locs B.cells B.slots ∧ PostX ⟨T.setVm vm₁, locs, cells, slots⟩ (Value.ref b :: argsL).toArray q B ∧
      Steps p.tables e below (T.setTop g) ((B.U.setTop { g with stack := rest }).pushFrame (.throwing q))) := by
  obtain ⟨mk, methM, hnamed, hmethM, hstM, habM⟩ := Cond.instanceMethod_spec hinst
  obtain ⟨m8, methM', cM, hn8, hmethM', -, -, -, -, -, -, hsigM⟩ := Cond.codeWith_spec hcode
  cases Option.some.inj (hn8.symm.trans hnamed)
  cases hmethM.symm.trans hmethM'
  obtain ⟨c2, r2, m2, q1, q2, q3, q4, kP, hkP, hkPi⟩ := Cond.selects_spec hsel
  cases hcls.symm.trans q1
  cases (State.methodFound?_of_named hnamed hy).symm.trans q2
  cases hnamed.symm.trans q3
  have hselP : selectMethod e.platform s.vm cellB.cls mk = .method mk := by rw [Launch.admits_selectMethod X.admits]; exact q4
  obtain ⟨vm₁, X₁, hstep₁⟩ := X.invokevirtual hexec hown hlink hnamed hmethM hstM hkP hkPi hy (a := b) (cell := cellB) hcell
    (fun z h => by rw [h] at hobj; cases hobj) hselP hmethM habM hkP hkPi (g := g) hg (argsL := argsL) (rest := rest) (hlen _ hsigM) hstack hdg
  rcases hK m meth c ⟨T.setVm vm₁, locs, cells, slots⟩ { g with stack := rest } (.invokevirtual index) mk (Value.ref b :: argsL).toArray X₁ hg hsize hdg hW (X₁.named hnamed) (hpre vm₁ X₁.warmed) with ⟨v, B, X', hpost, hsteps⟩ | ⟨q, B, X', hpost, hsteps⟩
  · exact Or.inl ⟨v, vm₁, B, X₁.warmed, X', hpost, fun target h => hstep₁ _ fun acts => by rw [doInvoke_state]; exact hsteps.trans h⟩
  · exact Or.inr ⟨q, vm₁, B, X₁.warmed, X', hpost, hstep₁ _ fun acts => by rw [doInvoke_state]; exact hsteps⟩
theorem vx_callSX (X : Stand p l e R s m args below meth c T locs cells slots) (hexec : p.tables.exec = Jvm.exec) {own : String} {index : Nat} {y : MethodName} {bytes : ByteArray} {maxL : Nat} {ret : Option FieldType} {hh : List (Nat × Nat × Nat × Nat)}
    (hown : s.vm.findClass own = some m.cls) (hlink : (Cond.methodLink own index y).before args s = true) (hstat : (Cond.static y).before args s = true) (hinit : (Cond.initialized y.cls).before args s = true)
    (hcode : (Cond.codeWith y bytes maxL ret hh).before args s = true) (hy : y.cls ≠ "java/lang/invoke/MethodHandle" ∧ y.cls ≠ "java/lang/invoke/VarHandle")
    {W9 : Nat} {Pre : Pt → Array Value → Prop} {Post : Pt → Array Value → Option Value → Pt → Prop} {PostX : Pt → Array Value → Addr → Pt → Prop} (hK : vx_Back l R p e below s args y 3 W9 Pre Post PostX)
    {g : JFrame} (hg : g.method = m) (hsize : g.locals.size = c.maxLocals) {argsL rest : List Value} (hlen : ∀ sig, parseMethodDescriptor y.desc = some sig → argsL.length = sig.parameters.length)
    (hstack : g.stack = argsL.reverse ++ rest) (hW : 2 * g.monitorRoom + (rest.map fun v => v.category).sum ≤ W9) (hdg : decode c.code g.pc = .ok (.invokestatic index, 3))
    (hpre : ∀ vm₁, s.WarmedH vm₁ → Pre ⟨T.setVm vm₁, locs, cells, slots⟩ argsL.toArray) :
    (∃ (v : Option Value) (vm₁ : Vm) (B : Pt), s.WarmedH vm₁ ∧ Stand p l e R s m args below meth c B.U B.locs B.cells B.slots ∧ Post ⟨T.setVm vm₁, locs, cells, slots⟩ argsL.toArray v B ∧
      ∀ target, Steps p.tables e below (B.U.setTop { g with pc := g.pc + 3, stack := v.toList ++ rest }) target → Steps p.tables e below (T.setTop g) target) ∨
    (∃ (q : Addr) (vm₁ : Vm) (B : Pt), s.WarmedH vm₁ ∧ Stand p l e R s m args below meth c B.U B.locs B.cells B.slots ∧ PostX ⟨T.setVm vm₁, locs, cells, slots⟩ argsL.toArray q B ∧
      Steps p.tables e below (T.setTop g) ((B.U.setTop { g with stack := rest }).pushFrame (.throwing q))) := by
  obtain ⟨mk, methM, cM, hnamed, hmethM, -, -, -, -, -, -, hsigM⟩ := Cond.codeWith_spec hcode
  have hstatic : methM.isStatic = true := Cond.static_spec hnamed hmethM hstat
  obtain ⟨kP, hkP, -⟩ := className_of_methodNamed hnamed
  have hinitP : kP.init = .initialized := Cond.initialized_spec (findClass_of_methodNamed hnamed) hkP hinit
  obtain ⟨vm₁, X₁, hstep₁⟩ := X.invokestatic hexec hown hlink hnamed hmethM hstatic hkP hinitP hy (g := g) hg (argsL := argsL) (rest := rest) (hlen _ hsigM) hstack hdg
  rcases hK m meth c ⟨T.setVm vm₁, locs, cells, slots⟩ { g with stack := rest } (.invokestatic index) mk argsL.toArray X₁ hg hsize hdg hW (X₁.named hnamed) (hpre vm₁ X₁.warmed) with ⟨v, B, X', hpost, hsteps⟩ | ⟨q, B, X', hpost, hsteps⟩
  · exact Or.inl ⟨v, vm₁, B, X₁.warmed, X', hpost, fun target h => hstep₁ _ fun acts => by rw [doInvoke_state]; exact hsteps.trans h⟩
  · exact Or.inr ⟨q, vm₁, B, X₁.warmed, X', hpost, hstep₁ _ fun acts => by rw [doInvoke_state]; exact hsteps⟩
theorem vx_callVW (X : Stand p l e R s m args below meth c T locs cells slots) (hexec : p.tables.exec = Jvm.exec) {own C : String} {index : Nat} {y : MethodName} {bytes : ByteArray} {maxL : Nat} {ret : Option FieldType} {hh : List (Nat × Nat × Nat × Nat)}
    (hown : s.vm.findClass own = some m.cls) (hlink : (Cond.methodLink own index y).before args s = true) (hinst : (Cond.instanceMethod y).before args s = true) (hsel : (Cond.selects C y y).before args s = true)
    (hcode : (Cond.codeWith y bytes maxL ret hh).before args s = true) (hy : y.cls ≠ "java/lang/invoke/MethodHandle" ∧ y.cls ≠ "java/lang/invoke/VarHandle")
    {W9 : Nat} {Pre : Pt → Array Value → Prop} {Post : Pt → Array Value → Option Value → Pt → Prop} (hK : Back l R p e below s args y 3 W9 Pre Post)
    {b : Addr} {cellB : Cell} (hcell : T.heap[b]? = some cellB) (hobj : cellB.vm.isStatics = false) (hcls : s.vm.findClass C = some cellB.cls)
    {g : JFrame} (hg : g.method = m) (hsize : g.locals.size = c.maxLocals) {argsL rest : List Value} (hlen : ∀ sig, parseMethodDescriptor y.desc = some sig → argsL.length = sig.parameters.length)
    (hstack : g.stack = argsL.reverse ++ .ref b :: rest) (hW : 2 * g.monitorRoom + (rest.map fun v => v.category).sum ≤ W9) (hdg : decode c.code g.pc = .ok (.invokevirtual index, 3))
    (hpre : ∀ vm₁, s.WarmedH vm₁ → Pre ⟨T.setVm vm₁, locs, cells, slots⟩ (Value.ref b :: argsL).toArray) :
    ∃ (v : Option Value) (vm₁ : Vm) (B : Pt), s.WarmedH vm₁ ∧ Stand p l e R s m args below meth c B.U B.locs B.cells B.slots ∧ Post ⟨T.setVm vm₁, locs, cells, slots⟩ (Value.ref b :: argsL).toArray v B ∧
      ∀ target, Steps p.tables e below (B.U.setTop { g with pc := g.pc + 3, stack := v.toList ++ rest }) target → Steps p.tables e below (T.setTop g) target := by
  obtain ⟨mk, methM, hnamed, hmethM, hstM, habM⟩ := Cond.instanceMethod_spec hinst
  obtain ⟨m8, methM', cM, hn8, hmethM', -, -, -, -, -, -, hsigM⟩ := Cond.codeWith_spec hcode
  cases Option.some.inj (hn8.symm.trans hnamed)
  cases hmethM.symm.trans hmethM'
  obtain ⟨c2, r2, m2, q1, q2, q3, q4, kP, hkP, hkPi⟩ := Cond.selects_spec hsel
  cases hcls.symm.trans q1
  cases (State.methodFound?_of_named hnamed hy).symm.trans q2
  cases hnamed.symm.trans q3
  have hselP : selectMethod e.platform s.vm cellB.cls mk = .method mk := by rw [Launch.admits_selectMethod X.admits]; exact q4
  obtain ⟨vm₁, X₁, hstep₁⟩ := X.invokevirtual hexec hown hlink hnamed hmethM hstM hkP hkPi hy (a := b) (cell := cellB) hcell
    (fun z h => by rw [h] at hobj; cases hobj) hselP hmethM habM hkP hkPi (g := g) hg (argsL := argsL) (rest := rest) (hlen _ hsigM) hstack hdg
  obtain ⟨v, B, X', hpost, hsteps⟩ := hK m meth c ⟨T.setVm vm₁, locs, cells, slots⟩ { g with stack := rest } (.invokevirtual index) mk (Value.ref b :: argsL).toArray X₁ hg hsize hdg hW (X₁.named hnamed) (hpre vm₁ X₁.warmed)
  exact ⟨v, vm₁, B, X₁.warmed, X', hpost, fun target h => hstep₁ _ fun acts => by rw [doInvoke_state]; exact hsteps.trans h⟩
abbrev vx_CVW (R : Room) (s : State) (args : Array Value) (own C : String) (index : Nat) (y : MethodName) (bytes : ByteArray) (maxL : Nat) (ret : Option FieldType) (hh : List (Nat × Nat × Nat × Nat)) (ws : List Cond) (rm : Room) (mc ms n : Nat) : Prop :=
  (rm.cells = mc ∧ rm.slots = ms ∧ rm.frames + 1 ≤ R.frames ∧ 8 + (maxL + 11) + rm.locals ≤ R.locals ∧ (∀ w ∈ ws, ∀ (a' : Array Value) (U : State), s.WarmedH U.vm → w.before a' U = true) ∧ Cond.codeWith y bytes maxL ret hh ∈ ws) ∧
  (Cond.codeWith y bytes maxL ret hh).before args s = true ∧ (Cond.initialized y.cls).before args s = true ∧ (y.cls ≠ "java/lang/invoke/MethodHandle" ∧ y.cls ≠ "java/lang/invoke/VarHandle") ∧
  (∀ sig, parseMethodDescriptor y.desc = some sig → n = sig.parameters.length) ∧ (Cond.methodLink own index y).before args s = true ∧ (Cond.instanceMethod y).before args s = true ∧ (Cond.selects C y y).before args s = true
theorem vx_cwVW {own C : String} {index maxL mc ms : Nat} {y : MethodName} {bytes : ByteArray} {ret : Option FieldType} {hh : List (Nat × Nat × Nat × Nat)} {Ts ws ws' : List Cond} {rm : Room} (n : Nat) (ht : ∀ w ∈ Ts, w.before args s = true) (hT : GoodIn Ts (wsV own index C y ws)) (hw : ws = Cond.codeWith y bytes maxL ret hh :: ws') (hrc : rm.cells = mc) (hrs : rm.slots = ms)
    (hd : y.cls = C ∧ y.cls ≠ "java/lang/invoke/MethodHandle" ∧ y.cls ≠ "java/lang/invoke/VarHandle" ∧ (parseMethodDescriptor y.desc).map (fun d => d.parameters.length) = some n) (hR : rm.frames + 1 ≤ R.frames ∧ 8 + (maxL + 11) + rm.locals ≤ R.locals) :
    vx_CVW R s args own C index y bytes maxL ret hh ws rm mc ms n := by
  obtain ⟨hC, hd⟩ := hd
  subst hC
  have ok : ∀ w ∈ wsV own index y.cls y ws, w.before args s = true := fun w h => ht w (hT w h).1
  have hG : GoodIn Ts ws := fun w h => hT w (by unfold wsV; exact List.mem_append_right _ h)
  have hc : Cond.codeWith y bytes maxL ret hh ∈ ws := by rw [hw]; exact List.mem_cons_self
  refine ⟨⟨hrc, hrs, hR.1, hR.2, pay_in ht hG, hc⟩, ht _ (hG _ hc).1, ok _ (by simp [wsV]), ⟨hd.1, hd.2.1⟩, fun sig h => ?_, ok _ (by simp [wsV]), ok _ (by simp [wsV]), ok _ (by simp [wsV])⟩
  have h2 := hd.2.2
  rw [h] at h2
  exact (Option.some.inj h2).symm
theorem vx_runVW {y : MethodName} {bytes cc : ByteArray} {maxL nL mc ms n index : Nat} {ret : Option FieldType} {hh : List (Nat × Nat × Nat × Nat)} {ws : List Cond} {rm : Room} {Pc : Array Value → State → Prop} {Qc : Array Value → State → Outcome → State → Prop} {free : Addr → Prop} {Ts : List Cond} {own C : String} {b : Addr} {As rest : List Value} {g : JFrame}
    (S : CallFix p m c cc nL s args Ts own) (hM : Met l y ws rm Pc Qc mc ms free) (cw : vx_CVW R s args own C index y bytes maxL ret hh ws rm mc ms n) (hp : PreV s H C b Pc As)
    (hg : g.method = m) (hn : As.length = n) (hsize : g.locals.size = nL) (hstack : g.stack = As.reverse ++ .ref b :: rest) (hW : 2 * g.monitorRoom + (rest.map fun v => v.category).sum ≤ 8) (hdg : decode cc g.pc = .ok (.invokevirtual index, 3)) (hf : cells + mc ≤ R.cells ∧ slots + ms ≤ R.slots) :
    va_Run p l e R s m args below meth c H locs cells slots mc ms g rest (Qc (Value.ref b :: As).toArray) free := by
  obtain ⟨⟨hrc, hrs, hfr, hlo, hws, hcw⟩, hcode, hini, hy, hlen, hl, hin, hse⟩ := cw
  have hK : Back l R p e below s args y 3 8 (PreOf R mc ms Pc) (PostOf Qc mc ms free) := va_backW (hh := hh) (bytes := bytes) (maxL := maxL) (ret := ret) hM hp.1 hrc hrs hfr hlo hws hcw (fun a' U hW => word_at hW (Or.inl (by first | rfl | simp [Cond.onTables, Cond.keeps, Cond.steady])) hini)
  obtain ⟨hx, hb, hml, ho, -⟩ := S
  obtain ⟨-, ⟨cellB, hcB, hoB, hclB⟩, hPc⟩ := hp
  intro T hT X
  obtain ⟨v, vm₁, ⟨U', l2, c2, s2⟩, hW₁, X', ⟨g', mk, t, L, e1, e2, hq, h1, hL, h2, h3⟩, st⟩ := vx_callVW X hx (C := C) (hh := hh) (bytes := bytes) (maxL := maxL) (ret := ret) ho hl hin hse hcode hy hK (by rw [hT]; exact hcB) hoB hclB hg (hsize.trans hml.symm) (argsL := As) (rest := rest) (fun sig h => hn.trans (hlen sig h)) hstack hW (by rw [hb]; exact hdg)
    (fun vm₁ hW₁ => ⟨hf.1, hf.2, hPc (T.setVm vm₁) hT hW₁⟩)
  dsimp only [Pt.U, Pt.locs, Pt.cells, Pt.slots] at X' e1 e2 h1 h2 h3 st
  subst h1; subst h2; subst h3
  exact ⟨v, (T.setVm vm₁).calling g' mk (Value.ref b :: As).toArray, t, U', L, hT, X', hL, e1, e2, hq, st⟩
section
variable {y : MethodName} {bytes cc : ByteArray} {maxL nL mc ms n index : Nat} {ret : Option FieldType} {ws : List Cond} {rm : Room} {Pc : Array Value → State → Prop} {Qc : Array Value → State → Outcome → State → Prop} {XC : String → State → State → Prop} {free : Addr → Prop} {Ts : List Cond} {own C : String} {b : Addr} {As rest : List Value} {g : JFrame}
theorem vx_runVX {hh : List (Nat × Nat × Nat × Nat)} (S : CallFix p m c cc nL s args Ts own) (hM : vx_Met l y ws rm Pc Qc XC mc ms free) (cw : vx_CVW R s args own C index y bytes maxL ret hh ws rm mc ms n) (hp : PreV s H C b Pc As)
    (hg : g.method = m) (hn : As.length = n) (hsize : g.locals.size = nL) (hstack : g.stack = As.reverse ++ .ref b :: rest) (hW : 2 * g.monitorRoom + (rest.map fun v => v.category).sum ≤ 8) (hdg : decode cc g.pc = .ok (.invokevirtual index, 3)) (hf : cells + mc ≤ R.cells ∧ slots + ms ≤ R.slots) :
    vx_Run p l e R s m args below meth c H locs cells slots mc ms g rest (Qc (Value.ref b :: As).toArray) XC free := by
  obtain ⟨⟨hrc, hrs, hfr, hlo, hws, hcw⟩, hcode, hini, hy, hlen, hl, hin, hse⟩ := cw
  have hK : vx_Back l R p e below s args y 3 8 (PreOf R mc ms Pc) (PostOf Qc mc ms free) (vx_Post XC mc ms free) := vx_backW (hh := hh) (bytes := bytes) (maxL := maxL) (ret := ret) hM hp.1 hrc hrs hfr hlo hws hcw (fun a' U hW => word_at hW (Or.inl (by first | rfl | simp [Cond.onTables, Cond.keeps, Cond.steady])) hini)
  obtain ⟨hx, hb, hml, ho, -⟩ := S
  obtain ⟨-, ⟨cellB, hcB, hoB, hclB⟩, hPc⟩ := hp
  intro T hT X
  rcases vx_callVX X hx (C := C) (hh := hh) (bytes := bytes) (maxL := maxL) (ret := ret) ho hl hin hse hcode hy hK (by rw [hT]; exact hcB) hoB hclB hg (hsize.trans hml.symm) (argsL := As) (rest := rest) (fun sig h => hn.trans (hlen sig h)) hstack hW (by rw [hb]; exact hdg)
    (fun vm₁ hW₁ => ⟨hf.1, hf.2, hPc (T.setVm vm₁) hT hW₁⟩) with ⟨v, vm₁, ⟨U', l2, c2, s2⟩, hW₁, X', ⟨g', mk, t, L, e1, e2, hq, h1, hL, h2, h3⟩, st⟩ | ⟨q, vm₁, ⟨U', l2, c2, s2⟩, hW₁, X', ⟨g', mk, t, L, E, ce, e1, e2, hq, hce, hcv, hcl, h1, hL, h2, h3⟩, st⟩
  · dsimp only [Pt.U, Pt.locs, Pt.cells, Pt.slots] at X' e1 e2 h1 h2 h3 st
    subst h1; subst h2; subst h3
    exact Or.inl ⟨v, (T.setVm vm₁).calling g' mk (Value.ref b :: As).toArray, t, U', L, hT, X', hL, e1, e2, hq, st⟩
  · dsimp only [Pt.U, Pt.locs, Pt.cells, Pt.slots] at X' e1 e2 h1 h2 h3 st hcl
    subst h1; subst h2; subst h3
    exact Or.inr ⟨q, (T.setVm vm₁).calling g' mk (Value.ref b :: As).toArray, t, U', L, E, ce, hT, X', hL, e1, e2, hq, hce, hcv, vx_cls hW₁ hcl, st⟩
theorem vx_runSX {hh : List (Nat × Nat × Nat × Nat)} (S : CallFix p m c cc nL s args Ts own) (hM : vx_Met l y ws rm Pc Qc XC mc ms free) (cw : vx_CSW R s args own index y bytes maxL ret hh ws rm mc ms n) (hp : PreS s H Pc As)
    (hg : g.method = m) (hn : As.length = n) (hsize : g.locals.size = nL) (hstack : g.stack = As.reverse ++ rest) (hW : 2 * g.monitorRoom + (rest.map fun v => v.category).sum ≤ 8) (hdg : decode cc g.pc = .ok (.invokestatic index, 3)) (hf : cells + mc ≤ R.cells ∧ slots + ms ≤ R.slots) :
    vx_Run p l e R s m args below meth c H locs cells slots mc ms g rest (Qc As.toArray) XC free := by
  obtain ⟨⟨hrc, hrs, hfr, hlo, hws, hcw⟩, hcode, hini, hy, hlen, hl, hstt⟩ := cw
  have hK : vx_Back l R p e below s args y 3 8 (PreOf R mc ms Pc) (PostOf Qc mc ms free) (vx_Post XC mc ms free) := vx_backW (hh := hh) (bytes := bytes) (maxL := maxL) (ret := ret) hM hp.1 hrc hrs hfr hlo hws hcw (fun a' U hW => word_at hW (Or.inl (by first | rfl | simp [Cond.onTables, Cond.keeps, Cond.steady])) hini)
  obtain ⟨hx, hb, hml, ho, -⟩ := S
  intro T hT X
  rcases vx_callSX X hx (hh := hh) (bytes := bytes) (maxL := maxL) (ret := ret) ho hl hstt hini hcode hy hK hg (hsize.trans hml.symm) (argsL := As) (rest := rest) (fun sig h => hn.trans (hlen sig h)) hstack hW (by rw [hb]; exact hdg)
    (fun vm₁ hW₁ => ⟨hf.1, hf.2, hp.2 (T.setVm vm₁) hT hW₁⟩) with ⟨v, vm₁, ⟨U', l2, c2, s2⟩, hW₁, X', ⟨g', mk, t, L, e1, e2, hq, h1, hL, h2, h3⟩, st⟩ | ⟨q, vm₁, ⟨U', l2, c2, s2⟩, hW₁, X', ⟨g', mk, t, L, E, ce, e1, e2, hq, hce, hcv, hcl, h1, hL, h2, h3⟩, st⟩
  · dsimp only [Pt.U, Pt.locs, Pt.cells, Pt.slots] at X' e1 e2 h1 h2 h3 st
    subst h1; subst h2; subst h3
    exact Or.inl ⟨v, (T.setVm vm₁).calling g' mk As.toArray, t, U', L, hT, X', hL, e1, e2, hq, st⟩
  · dsimp only [Pt.U, Pt.locs, Pt.cells, Pt.slots] at X' e1 e2 h1 h2 h3 st hcl
    subst h1; subst h2; subst h3
    exact Or.inr ⟨q, (T.setVm vm₁).calling g' mk As.toArray, t, U', L, E, ce, hT, X', hL, e1, e2, hq, hce, hcv, vx_cls hW₁ hcl, st⟩
end
end VXH
theorem vx_ofWH {l : Launch} {y : MethodName} {ws ws' : List Cond} {rm : Room} {Pc : Array Value → State → Prop} {Qc : Array Value → State → Outcome → State → Prop} {XC : String → State → State → Prop} {mc ms : Nat} {free : Addr → Prop} {cc : ByteArray} {maxL : Nat} {ret : Option FieldType} {hh : List (Nat × Nat × Nat × Nat)}
    (hy : plainName y.cls = true) (hw : ws = Cond.codeWith y cc maxL ret hh :: ws')
    (body : ∀ p e s m args below meth c s₁, BodyLoose p l y (headSpec ws rm) cc maxL ret e s m args below meth c s₁ → c.maxLocals = maxL → Pc args s →
      W p l e (headSpec ws rm).room s m args below meth c s.heap [] 0 0 (vx_MQ below Qc XC args s mc ms free) (entryFrame m args maxL)) : vx_Met l y ws rm Pc Qc XC mc ms free := by
  refine MetFree.of_bodyS (code := cc) (maxLocals := maxL) (ret := ret) hy ?_ ?_
  · intro args s m h hn
    obtain ⟨m9, meth, c, hn9, h1, h2, h3, h4, -, h5, h6, -⟩ := Cond.codeWith_spec (atoms_spec (ws := ws) h _ (by rw [hw]; exact List.mem_cons_self))
    cases hn.symm.trans hn9
    exact ⟨meth, c, h1, h2, h3, h4, h5, h6⟩
  · intro p e s m args below meth c s₁ B hml hP _
    have hh0 : s₁.heap = s.heap := by rw [B.state]; rfl
    obtain ⟨t, a1, o, b1, b2, b3⟩ := body p e s m args below meth c s₁ B hml hP s₁ hh0 (Stand.of_body B)
    exact ⟨t, o, a1, b1, b2, b3⟩
/-! ===== END ===== -/
end
section
def RX0 : String := "AlarmKinds$Beam"
def TX0 : u_T := fun k => match k with
  | 0 => ("AlarmKinds$Plain", "trace", "LAlarmKinds$Trace;", true)
  | 1 => ("AlarmKinds$Plain", "kind", "I", true)
  | 2 => ("AlarmKinds$Plain", "zone", "I", true)
  | 3 => ("AlarmKinds$Plain", "limit", "I", true)
  | 4 => ("AlarmKinds$Plain", "charge", "I", false)
  | 5 => ("AlarmKinds$Plain", "level", "I", false)
  | 6 => ("AlarmKinds$Plain", "count", "I", false)
  | 7 => ("AlarmKinds$Plain", "drift", "I", false)
  | _ => ("AlarmKinds$Plain", "latched", "Z", false)
def tyX0 : Nat → FieldType := fun k => match k with
  | 0 => .object "AlarmKinds$Trace"
  | 1 => .int
  | 2 => .int
  | 3 => .int
  | 4 => .int
  | 5 => .int
  | 6 => .int
  | 7 => .int
  | _ => .boolean
theorem nmX0 : ∀ a, a < 9 → ∀ b, b < 9 → a ≠ b → (TX0 a).2.1 ≠ (TX0 b).2.1 := by decide +kernel
theorem tyX0_ok : ∀ k, k < 9 → parseFieldDescriptor (TX0 k).2.2.1 = some (tyX0 k) := by decide +kernel
abbrev cX0_init : ByteArray := prog_2_method_1_code
def yX0_init : MethodName := ⟨RX0, "<init>", "(LAlarmKinds$Trace;IIII)V"⟩
abbrev cX0_doWeigh : ByteArray := prog_2_method_2_code
def yX0_doWeigh : MethodName := ⟨RX0, "doWeigh", "(I)I"⟩
abbrev cX0_doClear : ByteArray := prog_2_method_3_code
def yX0_doClear : MethodName := ⟨RX0, "doClear", "()V"⟩
def RX1 : String := "AlarmKinds$Flood"
def TX1 : u_T := fun k => match k with
  | 0 => ("AlarmKinds$Plain", "trace", "LAlarmKinds$Trace;", true)
  | 1 => ("AlarmKinds$Plain", "kind", "I", true)
  | 2 => ("AlarmKinds$Plain", "zone", "I", true)
  | 3 => ("AlarmKinds$Plain", "limit", "I", true)
  | 4 => ("AlarmKinds$Plain", "charge", "I", false)
  | 5 => ("AlarmKinds$Plain", "level", "I", false)
  | 6 => ("AlarmKinds$Plain", "count", "I", false)
  | 7 => ("AlarmKinds$Plain", "drift", "I", false)
  | _ => ("AlarmKinds$Plain", "latched", "Z", false)
def tyX1 : Nat → FieldType := fun k => match k with
  | 0 => .object "AlarmKinds$Trace"
  | 1 => .int
  | 2 => .int
  | 3 => .int
  | 4 => .int
  | 5 => .int
  | 6 => .int
  | 7 => .int
  | _ => .boolean
theorem nmX1 : ∀ a, a < 9 → ∀ b, b < 9 → a ≠ b → (TX1 a).2.1 ≠ (TX1 b).2.1 := by decide +kernel
theorem tyX1_ok : ∀ k, k < 9 → parseFieldDescriptor (TX1 k).2.2.1 = some (tyX1 k) := by decide +kernel
abbrev cX1_init : ByteArray := prog_3_method_1_code
def yX1_init : MethodName := ⟨RX1, "<init>", "(LAlarmKinds$Trace;IIII)V"⟩
abbrev cX1_doOver : ByteArray := prog_3_method_2_code
def yX1_doOver : MethodName := ⟨RX1, "doOver", "()Z"⟩
abbrev cX1_doClear : ByteArray := prog_3_method_3_code
def yX1_doClear : MethodName := ⟨RX1, "doClear", "()V"⟩
abbrev cX1_doCost : ByteArray := prog_3_method_4_code
def yX1_doCost : MethodName := ⟨RX1, "doCost", "()I"⟩
def RX2 : String := "AlarmKinds$Heat"
def TX2 : u_T := fun k => match k with
  | 0 => ("AlarmKinds$Plain", "trace", "LAlarmKinds$Trace;", true)
  | 1 => ("AlarmKinds$Plain", "kind", "I", true)
  | 2 => ("AlarmKinds$Plain", "zone", "I", true)
  | 3 => ("AlarmKinds$Plain", "limit", "I", true)
  | 4 => ("AlarmKinds$Plain", "charge", "I", false)
  | 5 => ("AlarmKinds$Plain", "level", "I", false)
  | 6 => ("AlarmKinds$Plain", "count", "I", false)
  | 7 => ("AlarmKinds$Plain", "drift", "I", false)
  | _ => ("AlarmKinds$Plain", "latched", "Z", false)
def tyX2 : Nat → FieldType := fun k => match k with
  | 0 => .object "AlarmKinds$Trace"
  | 1 => .int
  | 2 => .int
  | 3 => .int
  | 4 => .int
  | 5 => .int
  | 6 => .int
  | 7 => .int
  | _ => .boolean
theorem nmX2 : ∀ a, a < 9 → ∀ b, b < 9 → a ≠ b → (TX2 a).2.1 ≠ (TX2 b).2.1 := by decide +kernel
theorem tyX2_ok : ∀ k, k < 9 → parseFieldDescriptor (TX2 k).2.2.1 = some (tyX2 k) := by decide +kernel
abbrev cX2_init : ByteArray := prog_4_method_1_code
def yX2_init : MethodName := ⟨RX2, "<init>", "(LAlarmKinds$Trace;IIII)V"⟩
abbrev cX2_doRead : ByteArray := prog_4_method_2_code
def yX2_doRead : MethodName := ⟨RX2, "doRead", "(I)V"⟩
abbrev cX2_doOver : ByteArray := prog_4_method_3_code
def yX2_doOver : MethodName := ⟨RX2, "doOver", "()Z"⟩
def RX3 : String := "AlarmKinds$Plain"
def TX3 : u_T := fun k => match k with
  | 0 => ("AlarmKinds$Plain", "trace", "LAlarmKinds$Trace;", true)
  | 1 => ("AlarmKinds$Plain", "kind", "I", true)
  | 2 => ("AlarmKinds$Plain", "zone", "I", true)
  | 3 => ("AlarmKinds$Plain", "limit", "I", true)
  | 4 => ("AlarmKinds$Plain", "charge", "I", false)
  | 5 => ("AlarmKinds$Plain", "level", "I", false)
  | 6 => ("AlarmKinds$Plain", "count", "I", false)
  | 7 => ("AlarmKinds$Plain", "drift", "I", false)
  | _ => ("AlarmKinds$Plain", "latched", "Z", false)
def tyX3 : Nat → FieldType := fun k => match k with
  | 0 => .object "AlarmKinds$Trace"
  | 1 => .int
  | 2 => .int
  | 3 => .int
  | 4 => .int
  | 5 => .int
  | 6 => .int
  | 7 => .int
  | _ => .boolean
theorem nmX3 : ∀ a, a < 9 → ∀ b, b < 9 → a ≠ b → (TX3 a).2.1 ≠ (TX3 b).2.1 := by decide +kernel
theorem tyX3_ok : ∀ k, k < 9 → parseFieldDescriptor (TX3 k).2.2.1 = some (tyX3 k) := by decide +kernel
abbrev cX3_init : ByteArray := prog_5_method_1_code
def yX3_init : MethodName := ⟨RX3, "<init>", "(LAlarmKinds$Trace;IIII)V"⟩
abbrev cX3_doWeigh : ByteArray := prog_5_method_2_code
def yX3_doWeigh : MethodName := ⟨RX3, "doWeigh", "(I)I"⟩
abbrev cX3_doRead : ByteArray := prog_5_method_3_code
def yX3_doRead : MethodName := ⟨RX3, "doRead", "(I)V"⟩
abbrev cX3_doOver : ByteArray := prog_5_method_4_code
def yX3_doOver : MethodName := ⟨RX3, "doOver", "()Z"⟩
abbrev cX3_doClear : ByteArray := prog_5_method_5_code
def yX3_doClear : MethodName := ⟨RX3, "doClear", "()V"⟩
abbrev cX3_doCost : ByteArray := prog_5_method_6_code
def yX3_doCost : MethodName := ⟨RX3, "doCost", "()I"⟩
abbrev cX3_doVotes : ByteArray := prog_5_method_7_code
def yX3_doVotes : MethodName := ⟨RX3, "doVotes", "()I"⟩
def RX4 : String := "AlarmKinds$Radio"
def TX4 : u_T := fun k => match k with
  | 0 => ("AlarmKinds$Plain", "trace", "LAlarmKinds$Trace;", true)
  | 1 => ("AlarmKinds$Plain", "kind", "I", true)
  | 2 => ("AlarmKinds$Plain", "zone", "I", true)
  | 3 => ("AlarmKinds$Plain", "limit", "I", true)
  | 4 => ("AlarmKinds$Plain", "charge", "I", false)
  | 5 => ("AlarmKinds$Plain", "level", "I", false)
  | 6 => ("AlarmKinds$Plain", "count", "I", false)
  | 7 => ("AlarmKinds$Plain", "drift", "I", false)
  | _ => ("AlarmKinds$Plain", "latched", "Z", false)
def tyX4 : Nat → FieldType := fun k => match k with
  | 0 => .object "AlarmKinds$Trace"
  | 1 => .int
  | 2 => .int
  | 3 => .int
  | 4 => .int
  | 5 => .int
  | 6 => .int
  | 7 => .int
  | _ => .boolean
theorem nmX4 : ∀ a, a < 9 → ∀ b, b < 9 → a ≠ b → (TX4 a).2.1 ≠ (TX4 b).2.1 := by decide +kernel
theorem tyX4_ok : ∀ k, k < 9 → parseFieldDescriptor (TX4 k).2.2.1 = some (tyX4 k) := by decide +kernel
abbrev cX4_init : ByteArray := prog_6_method_1_code
def yX4_init : MethodName := ⟨RX4, "<init>", "(LAlarmKinds$Trace;IIII)V"⟩
abbrev cX4_doWeigh : ByteArray := prog_6_method_2_code
def yX4_doWeigh : MethodName := ⟨RX4, "doWeigh", "(I)I"⟩
abbrev cX4_doCost : ByteArray := prog_6_method_3_code
def yX4_doCost : MethodName := ⟨RX4, "doCost", "()I"⟩
def RX5 : String := "AlarmKinds$Smoke"
def TX5 : u_T := fun k => match k with
  | 0 => ("AlarmKinds$Plain", "trace", "LAlarmKinds$Trace;", true)
  | 1 => ("AlarmKinds$Plain", "kind", "I", true)
  | 2 => ("AlarmKinds$Plain", "zone", "I", true)
  | 3 => ("AlarmKinds$Plain", "limit", "I", true)
  | 4 => ("AlarmKinds$Plain", "charge", "I", false)
  | 5 => ("AlarmKinds$Plain", "level", "I", false)
  | 6 => ("AlarmKinds$Plain", "count", "I", false)
  | 7 => ("AlarmKinds$Plain", "drift", "I", false)
  | _ => ("AlarmKinds$Plain", "latched", "Z", false)
def tyX5 : Nat → FieldType := fun k => match k with
  | 0 => .object "AlarmKinds$Trace"
  | 1 => .int
  | 2 => .int
  | 3 => .int
  | 4 => .int
  | 5 => .int
  | 6 => .int
  | 7 => .int
  | _ => .boolean
theorem nmX5 : ∀ a, a < 9 → ∀ b, b < 9 → a ≠ b → (TX5 a).2.1 ≠ (TX5 b).2.1 := by decide +kernel
theorem tyX5_ok : ∀ k, k < 9 → parseFieldDescriptor (TX5 k).2.2.1 = some (tyX5 k) := by decide +kernel
abbrev cX5_init : ByteArray := prog_7_method_1_code
def yX5_init : MethodName := ⟨RX5, "<init>", "(LAlarmKinds$Trace;IIII)V"⟩
abbrev cX5_doWeigh : ByteArray := prog_7_method_2_code
def yX5_doWeigh : MethodName := ⟨RX5, "doWeigh", "(I)I"⟩
abbrev cX5_doRead : ByteArray := prog_7_method_3_code
def yX5_doRead : MethodName := ⟨RX5, "doRead", "(I)V"⟩
def RX6 : String := "AlarmKinds$Trace"
def TX6 : u_T := fun k => match k with
  | 0 => ("AlarmKinds$Trace", "ring", "[I", true)
  | 1 => ("AlarmKinds$Trace", "next", "I", false)
  | 2 => ("AlarmKinds$Trace", "kept", "I", false)
  | 3 => ("AlarmKinds$Trace", "begun", "I", false)
  | 4 => ("AlarmKinds$Trace", "flats", "I", false)
  | _ => ("AlarmKinds$Trace", "arithmetics", "I", false)
def tyX6 : Nat → FieldType := fun k => match k with
  | 0 => .array .int
  | 1 => .int
  | 2 => .int
  | 3 => .int
  | 4 => .int
  | _ => .int
theorem nmX6 : ∀ a, a < 6 → ∀ b, b < 6 → a ≠ b → (TX6 a).2.1 ≠ (TX6 b).2.1 := by decide +kernel
theorem tyX6_ok : ∀ k, k < 6 → parseFieldDescriptor (TX6 k).2.2.1 = some (tyX6 k) := by decide +kernel
abbrev cX6_init : ByteArray := prog_8_method_1_code
def yX6_init : MethodName := ⟨RX6, "<init>", "()V"⟩
abbrev cX6_begin : ByteArray := prog_8_method_2_code
def yX6_begin : MethodName := ⟨RX6, "begin", "(II)V"⟩
abbrev cX6_at : ByteArray := prog_8_method_3_code
def yX6_at : MethodName := ⟨RX6, "at", "(I)I"⟩
def RX7 : String := "AlarmKinds$Twin"
def TX7 : u_T := fun k => match k with
  | 0 => ("AlarmKinds$Plain", "trace", "LAlarmKinds$Trace;", true)
  | 1 => ("AlarmKinds$Plain", "kind", "I", true)
  | 2 => ("AlarmKinds$Plain", "zone", "I", true)
  | 3 => ("AlarmKinds$Plain", "limit", "I", true)
  | 4 => ("AlarmKinds$Plain", "charge", "I", false)
  | 5 => ("AlarmKinds$Plain", "level", "I", false)
  | 6 => ("AlarmKinds$Plain", "count", "I", false)
  | 7 => ("AlarmKinds$Plain", "drift", "I", false)
  | _ => ("AlarmKinds$Plain", "latched", "Z", false)
def tyX7 : Nat → FieldType := fun k => match k with
  | 0 => .object "AlarmKinds$Trace"
  | 1 => .int
  | 2 => .int
  | 3 => .int
  | 4 => .int
  | 5 => .int
  | 6 => .int
  | 7 => .int
  | _ => .boolean
theorem nmX7 : ∀ a, a < 9 → ∀ b, b < 9 → a ≠ b → (TX7 a).2.1 ≠ (TX7 b).2.1 := by decide +kernel
theorem tyX7_ok : ∀ k, k < 9 → parseFieldDescriptor (TX7 k).2.2.1 = some (tyX7 k) := by decide +kernel
abbrev cX7_init : ByteArray := prog_9_method_1_code
def yX7_init : MethodName := ⟨RX7, "<init>", "(LAlarmKinds$Trace;IIII)V"⟩
abbrev cX7_doRead : ByteArray := prog_9_method_2_code
def yX7_doRead : MethodName := ⟨RX7, "doRead", "(I)V"⟩
abbrev cX7_doClear : ByteArray := prog_9_method_3_code
def yX7_doClear : MethodName := ⟨RX7, "doClear", "()V"⟩
abbrev cX7_doCost : ByteArray := prog_9_method_4_code
def yX7_doCost : MethodName := ⟨RX7, "doCost", "()I"⟩
abbrev cX7_doVotes : ByteArray := prog_9_method_5_code
def yX7_doVotes : MethodName := ⟨RX7, "doVotes", "()I"⟩
def RX8 : String := "AlarmKinds$Wired"
def TX8 : u_T := fun k => match k with
  | 0 => ("AlarmKinds$Plain", "trace", "LAlarmKinds$Trace;", true)
  | 1 => ("AlarmKinds$Plain", "kind", "I", true)
  | 2 => ("AlarmKinds$Plain", "zone", "I", true)
  | 3 => ("AlarmKinds$Plain", "limit", "I", true)
  | 4 => ("AlarmKinds$Plain", "charge", "I", false)
  | 5 => ("AlarmKinds$Plain", "level", "I", false)
  | 6 => ("AlarmKinds$Plain", "count", "I", false)
  | 7 => ("AlarmKinds$Plain", "drift", "I", false)
  | _ => ("AlarmKinds$Plain", "latched", "Z", false)
def tyX8 : Nat → FieldType := fun k => match k with
  | 0 => .object "AlarmKinds$Trace"
  | 1 => .int
  | 2 => .int
  | 3 => .int
  | 4 => .int
  | 5 => .int
  | 6 => .int
  | 7 => .int
  | _ => .boolean
theorem nmX8 : ∀ a, a < 9 → ∀ b, b < 9 → a ≠ b → (TX8 a).2.1 ≠ (TX8 b).2.1 := by decide +kernel
theorem tyX8_ok : ∀ k, k < 9 → parseFieldDescriptor (TX8 k).2.2.1 = some (tyX8 k) := by decide +kernel
abbrev cX8_init : ByteArray := prog_10_method_1_code
def yX8_init : MethodName := ⟨RX8, "<init>", "(LAlarmKinds$Trace;IIII)V"⟩
abbrev cX8_doVotes : ByteArray := prog_10_method_2_code
def yX8_doVotes : MethodName := ⟨RX8, "doVotes", "()I"⟩
def RX9 : String := "AlarmKinds"
def TX9 : u_T := fun k => match k with
  | 0 => ("AlarmKinds", "detectors", "[LAlarmKinds$Plain;", true)
  | 1 => ("AlarmKinds", "trace", "LAlarmKinds$Trace;", true)
  | _ => ("AlarmKinds", "made", "I", false)
def tyX9 : Nat → FieldType := fun k => match k with
  | 0 => .array (.object "AlarmKinds$Plain")
  | 1 => .object "AlarmKinds$Trace"
  | _ => .int
theorem nmX9 : ∀ a, a < 3 → ∀ b, b < 3 → a ≠ b → (TX9 a).2.1 ≠ (TX9 b).2.1 := by decide +kernel
theorem tyX9_ok : ∀ k, k < 3 → parseFieldDescriptor (TX9 k).2.2.1 = some (tyX9 k) := by decide +kernel
abbrev cX9_init : ByteArray := prog_1_method_1_code
def yX9_init : MethodName := ⟨RX9, "<init>", "()V"⟩
abbrev cX9_add : ByteArray := prog_1_method_2_code
def yX9_add : MethodName := ⟨RX9, "add", "(IIII)I"⟩
abbrev cX9_read : ByteArray := prog_1_method_3_code
def yX9_read : MethodName := ⟨RX9, "read", "(II)I"⟩
abbrev cX9_weigh : ByteArray := prog_1_method_4_code
def yX9_weigh : MethodName := ⟨RX9, "weigh", "(II)I"⟩
abbrev cX9_over : ByteArray := prog_1_method_5_code
def yX9_over : MethodName := ⟨RX9, "over", "(I)I"⟩
abbrev cX9_clear : ByteArray := prog_1_method_6_code
def yX9_clear : MethodName := ⟨RX9, "clear", "(I)I"⟩
abbrev cX9_cost : ByteArray := prog_1_method_7_code
def yX9_cost : MethodName := ⟨RX9, "cost", "(I)I"⟩
abbrev cX9_tell : ByteArray := prog_1_method_8_code
def yX9_tell : MethodName := ⟨RX9, "tell", "(II)I"⟩
abbrev cX9_sweep : ByteArray := prog_1_method_9_code
def yX9_sweep : MethodName := ⟨RX9, "sweep", "(II)I"⟩
abbrev cX9_alarm : ByteArray := prog_1_method_10_code
def yX9_alarm : MethodName := ⟨RX9, "alarm", "(II)I"⟩
abbrev cX9_costs : ByteArray := prog_1_method_11_code
def yX9_costs : MethodName := ⟨RX9, "costs", "()I"⟩
abbrev cX9_trace : ByteArray := prog_1_method_12_code
def yX9_trace : MethodName := ⟨RX9, "trace", "(I)I"⟩
abbrev cX9_count : ByteArray := prog_1_method_13_code
def yX9_count : MethodName := ⟨RX9, "count", "(I)I"⟩
abbrev cX9_find : ByteArray := prog_1_method_14_code
def yX9_find : MethodName := ⟨RX9, "find", "(I)LAlarmKinds$Plain;"⟩
abbrev cX9_findIn : ByteArray := prog_1_method_15_code
def yX9_findIn : MethodName := ⟨RX9, "findIn", "(II)LAlarmKinds$Plain;"⟩
abbrev cX9_make : ByteArray := prog_1_method_16_code
def yX9_make : MethodName := ⟨RX9, "make", "(IIII)LAlarmKinds$Plain;"⟩
abbrev cX9_isKind : ByteArray := prog_1_method_17_code
def yX9_isKind : MethodName := ⟨RX9, "isKind", "(I)Z"⟩
abbrev cX9_isZone : ByteArray := prog_1_method_18_code
def yX9_isZone : MethodName := ⟨RX9, "isZone", "(I)Z"⟩
abbrev cX9_isNear : ByteArray := prog_1_method_19_code
def yX9_isNear : MethodName := ⟨RX9, "isNear", "(I)Z"⟩
abbrev cX9_isCharge : ByteArray := prog_1_method_20_code
def yX9_isCharge : MethodName := ⟨RX9, "isCharge", "(I)Z"⟩
def RX10 : String := "AlarmKindsModel"
def TX10 : u_T := fun k => match k with
  | 0 => ("AlarmKindsModel", "code", "I", false)
  | 1 => ("AlarmKindsModel", "many", "I", false)
  | 2 => ("AlarmKindsModel", "kinds", "[I", true)
  | 3 => ("AlarmKindsModel", "zones", "[I", true)
  | 4 => ("AlarmKindsModel", "limits", "[I", true)
  | 5 => ("AlarmKindsModel", "charges", "[I", true)
  | 6 => ("AlarmKindsModel", "levels", "[I", true)
  | 7 => ("AlarmKindsModel", "counts", "[I", true)
  | 8 => ("AlarmKindsModel", "drifts", "[I", true)
  | 9 => ("AlarmKindsModel", "latched", "[Z", true)
  | 10 => ("AlarmKindsModel", "trace", "[I", true)
  | 11 => ("AlarmKindsModel", "done", "I", false)
  | 12 => ("AlarmKindsModel", "flats", "I", false)
  | 13 => ("AlarmKindsModel", "ariths", "I", false)
  | _ => ("AlarmKindsModel", "failed", "I", false)
def tyX10 : Nat → FieldType := fun k => match k with
  | 0 => .int
  | 1 => .int
  | 2 => .array .int
  | 3 => .array .int
  | 4 => .array .int
  | 5 => .array .int
  | 6 => .array .int
  | 7 => .array .int
  | 8 => .array .int
  | 9 => .array .boolean
  | 10 => .array .int
  | 11 => .int
  | 12 => .int
  | 13 => .int
  | _ => .int
theorem nmX10 : ∀ a, a < 15 → ∀ b, b < 15 → a ≠ b → (TX10 a).2.1 ≠ (TX10 b).2.1 := by decide +kernel
theorem tyX10_ok : ∀ k, k < 15 → parseFieldDescriptor (TX10 k).2.2.1 = some (tyX10 k) := by decide +kernel
abbrev cX10_init : ByteArray := prog_12_method_1_code
def yX10_init : MethodName := ⟨RX10, "<init>", "()V"⟩
abbrev cX10_thrown : ByteArray := prog_12_method_2_code
def yX10_thrown : MethodName := ⟨RX10, "thrown", "()I"⟩
abbrev cX10_isIn : ByteArray := prog_12_method_3_code
def yX10_isIn : MethodName := ⟨RX10, "isIn", "(III)Z"⟩
abbrev cX10_isThere : ByteArray := prog_12_method_4_code
def yX10_isThere : MethodName := ⟨RX10, "isThere", "(I)Z"⟩
abbrev cX10_rule : ByteArray := prog_12_method_5_code
def yX10_rule : MethodName := ⟨RX10, "rule", "(II)V"⟩
abbrev cX10_add : ByteArray := prog_12_method_6_code
def yX10_add : MethodName := ⟨RX10, "add", "(IIII)I"⟩
abbrev cX10_flat : ByteArray := prog_12_method_7_code
def yX10_flat : MethodName := ⟨RX10, "flat", "()V"⟩
abbrev cX10_radio : ByteArray := prog_12_method_8_code
def yX10_radio : MethodName := ⟨RX10, "radio", "(I)Z"⟩
abbrev cX10_weighed : ByteArray := prog_12_method_9_code
def yX10_weighed : MethodName := ⟨RX10, "weighed", "(II)I"⟩
abbrev cX10_readPlain : ByteArray := prog_12_method_10_code
def yX10_readPlain : MethodName := ⟨RX10, "readPlain", "(II)V"⟩
abbrev cX10_readSmoke : ByteArray := prog_12_method_11_code
def yX10_readSmoke : MethodName := ⟨RX10, "readSmoke", "(II)V"⟩
abbrev cX10_readOf : ByteArray := prog_12_method_12_code
def yX10_readOf : MethodName := ⟨RX10, "readOf", "(II)V"⟩
abbrev cX10_refused : ByteArray := prog_12_method_13_code
def yX10_refused : MethodName := ⟨RX10, "refused", "(II)I"⟩
abbrev cX10_read : ByteArray := prog_12_method_14_code
def yX10_read : MethodName := ⟨RX10, "read", "(II)I"⟩
abbrev cX10_weigh : ByteArray := prog_12_method_15_code
def yX10_weigh : MethodName := ⟨RX10, "weigh", "(II)I"⟩
abbrev cX10_overPlain : ByteArray := prog_12_method_16_code
def yX10_overPlain : MethodName := ⟨RX10, "overPlain", "(I)Z"⟩
abbrev cX10_isOver : ByteArray := prog_12_method_17_code
def yX10_isOver : MethodName := ⟨RX10, "isOver", "(I)Z"⟩
abbrev cX10_over : ByteArray := prog_12_method_18_code
def yX10_over : MethodName := ⟨RX10, "over", "(I)I"⟩
abbrev cX10_clear : ByteArray := prog_12_method_19_code
def yX10_clear : MethodName := ⟨RX10, "clear", "(I)I"⟩
abbrev cX10_costOf : ByteArray := prog_12_method_20_code
def yX10_costOf : MethodName := ⟨RX10, "costOf", "(I)I"⟩
abbrev cX10_cost : ByteArray := prog_12_method_21_code
def yX10_cost : MethodName := ⟨RX10, "cost", "(I)I"⟩
abbrev cX10_tell : ByteArray := prog_12_method_22_code
def yX10_tell : MethodName := ⟨RX10, "tell", "(II)I"⟩
abbrev cX10_sweep : ByteArray := prog_12_method_23_code
def yX10_sweep : MethodName := ⟨RX10, "sweep", "(II)I"⟩
abbrev cX10_alarm : ByteArray := prog_12_method_24_code
def yX10_alarm : MethodName := ⟨RX10, "alarm", "(II)I"⟩
abbrev cX10_costs : ByteArray := prog_12_method_25_code
def yX10_costs : MethodName := ⟨RX10, "costs", "()I"⟩
abbrev cX10_trace : ByteArray := prog_12_method_26_code
def yX10_trace : MethodName := ⟨RX10, "trace", "(I)I"⟩
abbrev cX10_count : ByteArray := prog_12_method_27_code
def yX10_count : MethodName := ⟨RX10, "count", "(I)I"⟩
def RJ9 : String := "java/lang/Math"
def TJ9 : u_T := fun k => match k with
  | _ => ("", "", "", false)
def tyJ9 : Nat → FieldType := fun k => match k with
  | _ => .int
abbrev cJ9_abs_0f7a4 : ByteArray := prog_16_method_59_code
def yJ9_abs_0f7a4 : MethodName := ⟨RJ9, "abs", "(I)I"⟩
def RJ0 : String := "java/lang/String"
def TJ0 : u_T := fun k => match k with
  | _ => ("", "", "", false)
def tyJ0 : Nat → FieldType := fun k => match k with
  | _ => .int
def RL : String := "AlarmKindsLaw"
abbrev cL_read : ByteArray := method_3_code
def yL_read : MethodName := ⟨RL, "read", "(LAlarmKinds;II[J)I"⟩
abbrev cL_weigh : ByteArray := method_4_code
def yL_weigh : MethodName := ⟨RL, "weigh", "(LAlarmKinds;II[J)I"⟩
abbrev cL_law : ByteArray := code
def yL_law : MethodName := ⟨RL, "law", "([I)Z"⟩
def cls : List vw_C := [(RX0, TX3, 9), (RX1, TX3, 9), (RX2, TX3, 9), (RX3, TX3, 9), (RX4, TX3, 9), (RX5, TX3, 9), (RX6, TX6, 6), (RX7, TX3, 9), (RX8, TX3, 9), (RX9, TX9, 3), (RX10, TX10, 15)]
end
section
theorem dX0_init_0 : decode cX0_init 0 = .ok (.aload_n 0, 1) := by decide +kernel
theorem dX0_init_1 : decode cX0_init 1 = .ok (.aload_n 1, 1) := by decide +kernel
theorem dX0_init_2 : decode cX0_init 2 = .ok (.iload_n 2, 1) := by decide +kernel
theorem dX0_init_3 : decode cX0_init 3 = .ok (.iload_n 3, 1) := by decide +kernel
theorem dX0_init_4 : decode cX0_init 4 = .ok (.iload 4, 2) := by decide +kernel
theorem dX0_init_6 : decode cX0_init 6 = .ok (.iload 5, 2) := by decide +kernel
theorem dX0_init_8 : decode cX0_init 8 = .ok (.invokespecial 3, 3) := by decide +kernel
theorem dX0_init_11 : decode cX0_init 11 = .ok (.return_, 1) := by decide +kernel
theorem dX0_doWeigh_0 : decode cX0_doWeigh 0 = .ok (.aload_n 0, 1) := by decide +kernel
theorem dX0_doWeigh_1 : decode cX0_doWeigh 1 = .ok (.getfield 9, 3) := by decide +kernel
theorem dX0_doWeigh_4 : decode cX0_doWeigh 4 = .ok (.iconst 0, 1) := by decide +kernel
theorem dX0_doWeigh_5 : decode cX0_doWeigh 5 = .ok (.iconst 5, 1) := by decide +kernel
theorem dX0_doWeigh_6 : decode cX0_doWeigh 6 = .ok (.invokevirtual 15, 3) := by decide +kernel
theorem dX0_doWeigh_9 : decode cX0_doWeigh 9 = .ok (.aload_n 0, 1) := by decide +kernel
theorem dX0_doWeigh_10 : decode cX0_doWeigh 10 = .ok (.iload_n 1, 1) := by decide +kernel
theorem dX0_doWeigh_11 : decode cX0_doWeigh 11 = .ok (.invokespecial 21, 3) := by decide +kernel
theorem dX0_doWeigh_14 : decode cX0_doWeigh 14 = .ok (.istore_n 2, 1) := by decide +kernel
theorem dX0_doWeigh_15 : decode cX0_doWeigh 15 = .ok (.iload_n 2, 1) := by decide +kernel
theorem dX0_doWeigh_16 : decode cX0_doWeigh 16 = .ok (.ifCond .ne 26, 3) := by decide +kernel
theorem dX0_doWeigh_19 : decode cX0_doWeigh 19 = .ok (.aload_n 0, 1) := by decide +kernel
theorem dX0_doWeigh_20 : decode cX0_doWeigh 20 = .ok (.getfield 9, 3) := by decide +kernel
theorem dX0_doWeigh_23 : decode cX0_doWeigh 23 = .ok (.dup, 1) := by decide +kernel
theorem dX0_doWeigh_24 : decode cX0_doWeigh 24 = .ok (.getfield 25, 3) := by decide +kernel
theorem dX0_doWeigh_27 : decode cX0_doWeigh 27 = .ok (.iconst 1, 1) := by decide +kernel
theorem dX0_doWeigh_28 : decode cX0_doWeigh 28 = .ok (.iadd, 1) := by decide +kernel
theorem dX0_doWeigh_29 : decode cX0_doWeigh 29 = .ok (.putfield 25, 3) := by decide +kernel
theorem dX0_doWeigh_32 : decode cX0_doWeigh 32 = .ok (.new 29, 3) := by decide +kernel
theorem dX0_doWeigh_35 : decode cX0_doWeigh 35 = .ok (.dup, 1) := by decide +kernel
theorem dX0_doWeigh_36 : decode cX0_doWeigh 36 = .ok (.ldc 31, 2) := by decide +kernel
theorem dX0_doWeigh_38 : decode cX0_doWeigh 38 = .ok (.invokespecial 33, 3) := by decide +kernel
theorem dX0_doWeigh_41 : decode cX0_doWeigh 41 = .ok (.athrow, 1) := by decide +kernel
theorem dX0_doWeigh_42 : decode cX0_doWeigh 42 = .ok (.sipush 1000, 3) := by decide +kernel
theorem dX0_doWeigh_45 : decode cX0_doWeigh 45 = .ok (.iload_n 2, 1) := by decide +kernel
theorem dX0_doWeigh_46 : decode cX0_doWeigh 46 = .ok (.idiv, 1) := by decide +kernel
theorem dX0_doWeigh_47 : decode cX0_doWeigh 47 = .ok (.ireturn, 1) := by decide +kernel
theorem dX0_doClear_0 : decode cX0_doClear 0 = .ok (.aload_n 0, 1) := by decide +kernel
theorem dX0_doClear_1 : decode cX0_doClear 1 = .ok (.getfield 9, 3) := by decide +kernel
theorem dX0_doClear_4 : decode cX0_doClear 4 = .ok (.iconst 3, 1) := by decide +kernel
theorem dX0_doClear_5 : decode cX0_doClear 5 = .ok (.iconst 5, 1) := by decide +kernel
theorem dX0_doClear_6 : decode cX0_doClear 6 = .ok (.invokevirtual 15, 3) := by decide +kernel
theorem dX0_doClear_9 : decode cX0_doClear 9 = .ok (.aload_n 0, 1) := by decide +kernel
theorem dX0_doClear_10 : decode cX0_doClear 10 = .ok (.invokespecial 36, 3) := by decide +kernel
theorem dX0_doClear_13 : decode cX0_doClear 13 = .ok (.aload_n 0, 1) := by decide +kernel
theorem dX0_doClear_14 : decode cX0_doClear 14 = .ok (.dup, 1) := by decide +kernel
theorem dX0_doClear_15 : decode cX0_doClear 15 = .ok (.getfield 40, 3) := by decide +kernel
theorem dX0_doClear_18 : decode cX0_doClear 18 = .ok (.iconst 1, 1) := by decide +kernel
theorem dX0_doClear_19 : decode cX0_doClear 19 = .ok (.iadd, 1) := by decide +kernel
theorem dX0_doClear_20 : decode cX0_doClear 20 = .ok (.putfield 40, 3) := by decide +kernel
theorem dX0_doClear_23 : decode cX0_doClear 23 = .ok (.return_, 1) := by decide +kernel
theorem dX1_init_0 : decode cX1_init 0 = .ok (.aload_n 0, 1) := by decide +kernel
theorem dX1_init_1 : decode cX1_init 1 = .ok (.aload_n 1, 1) := by decide +kernel
theorem dX1_init_2 : decode cX1_init 2 = .ok (.iload_n 2, 1) := by decide +kernel
theorem dX1_init_3 : decode cX1_init 3 = .ok (.iload_n 3, 1) := by decide +kernel
theorem dX1_init_4 : decode cX1_init 4 = .ok (.iload 4, 2) := by decide +kernel
theorem dX1_init_6 : decode cX1_init 6 = .ok (.iload 5, 2) := by decide +kernel
theorem dX1_init_8 : decode cX1_init 8 = .ok (.invokespecial 3, 3) := by decide +kernel
theorem dX1_init_11 : decode cX1_init 11 = .ok (.return_, 1) := by decide +kernel
theorem dX1_doOver_0 : decode cX1_doOver 0 = .ok (.aload_n 0, 1) := by decide +kernel
theorem dX1_doOver_1 : decode cX1_doOver 1 = .ok (.getfield 9, 3) := by decide +kernel
theorem dX1_doOver_4 : decode cX1_doOver 4 = .ok (.iconst 2, 1) := by decide +kernel
theorem dX1_doOver_5 : decode cX1_doOver 5 = .ok (.bipush 6, 2) := by decide +kernel
theorem dX1_doOver_7 : decode cX1_doOver 7 = .ok (.invokevirtual 15, 3) := by decide +kernel
theorem dX1_doOver_10 : decode cX1_doOver 10 = .ok (.aload_n 0, 1) := by decide +kernel
theorem dX1_doOver_11 : decode cX1_doOver 11 = .ok (.getfield 21, 3) := by decide +kernel
theorem dX1_doOver_14 : decode cX1_doOver 14 = .ok (.ifCond .ne 11, 3) := by decide +kernel
theorem dX1_doOver_17 : decode cX1_doOver 17 = .ok (.aload_n 0, 1) := by decide +kernel
theorem dX1_doOver_18 : decode cX1_doOver 18 = .ok (.aload_n 0, 1) := by decide +kernel
theorem dX1_doOver_19 : decode cX1_doOver 19 = .ok (.invokespecial 25, 3) := by decide +kernel
theorem dX1_doOver_22 : decode cX1_doOver 22 = .ok (.putfield 21, 3) := by decide +kernel
theorem dX1_doOver_25 : decode cX1_doOver 25 = .ok (.aload_n 0, 1) := by decide +kernel
theorem dX1_doOver_26 : decode cX1_doOver 26 = .ok (.getfield 21, 3) := by decide +kernel
theorem dX1_doOver_29 : decode cX1_doOver 29 = .ok (.ireturn, 1) := by decide +kernel
theorem dX1_doClear_0 : decode cX1_doClear 0 = .ok (.aload_n 0, 1) := by decide +kernel
theorem dX1_doClear_1 : decode cX1_doClear 1 = .ok (.getfield 9, 3) := by decide +kernel
theorem dX1_doClear_4 : decode cX1_doClear 4 = .ok (.iconst 3, 1) := by decide +kernel
theorem dX1_doClear_5 : decode cX1_doClear 5 = .ok (.bipush 6, 2) := by decide +kernel
theorem dX1_doClear_7 : decode cX1_doClear 7 = .ok (.invokevirtual 15, 3) := by decide +kernel
theorem dX1_doClear_10 : decode cX1_doClear 10 = .ok (.aload_n 0, 1) := by decide +kernel
theorem dX1_doClear_11 : decode cX1_doClear 11 = .ok (.invokespecial 29, 3) := by decide +kernel
theorem dX1_doClear_14 : decode cX1_doClear 14 = .ok (.aload_n 0, 1) := by decide +kernel
theorem dX1_doClear_15 : decode cX1_doClear 15 = .ok (.iconst 0, 1) := by decide +kernel
theorem dX1_doClear_16 : decode cX1_doClear 16 = .ok (.putfield 21, 3) := by decide +kernel
theorem dX1_doClear_19 : decode cX1_doClear 19 = .ok (.return_, 1) := by decide +kernel
theorem dX1_doCost_0 : decode cX1_doCost 0 = .ok (.aload_n 0, 1) := by decide +kernel
theorem dX1_doCost_1 : decode cX1_doCost 1 = .ok (.getfield 9, 3) := by decide +kernel
theorem dX1_doCost_4 : decode cX1_doCost 4 = .ok (.iconst 4, 1) := by decide +kernel
theorem dX1_doCost_5 : decode cX1_doCost 5 = .ok (.bipush 6, 2) := by decide +kernel
theorem dX1_doCost_7 : decode cX1_doCost 7 = .ok (.invokevirtual 15, 3) := by decide +kernel
theorem dX1_doCost_10 : decode cX1_doCost 10 = .ok (.iconst 5, 1) := by decide +kernel
theorem dX1_doCost_11 : decode cX1_doCost 11 = .ok (.aload_n 0, 1) := by decide +kernel
theorem dX1_doCost_12 : decode cX1_doCost 12 = .ok (.invokespecial 33, 3) := by decide +kernel
theorem dX1_doCost_15 : decode cX1_doCost 15 = .ok (.iadd, 1) := by decide +kernel
theorem dX1_doCost_16 : decode cX1_doCost 16 = .ok (.ireturn, 1) := by decide +kernel
theorem dX2_init_0 : decode cX2_init 0 = .ok (.aload_n 0, 1) := by decide +kernel
theorem dX2_init_1 : decode cX2_init 1 = .ok (.aload_n 1, 1) := by decide +kernel
theorem dX2_init_2 : decode cX2_init 2 = .ok (.iload_n 2, 1) := by decide +kernel
theorem dX2_init_3 : decode cX2_init 3 = .ok (.iload_n 3, 1) := by decide +kernel
theorem dX2_init_4 : decode cX2_init 4 = .ok (.iload 4, 2) := by decide +kernel
theorem dX2_init_6 : decode cX2_init 6 = .ok (.iload 5, 2) := by decide +kernel
theorem dX2_init_8 : decode cX2_init 8 = .ok (.invokespecial 3, 3) := by decide +kernel
theorem dX2_init_11 : decode cX2_init 11 = .ok (.return_, 1) := by decide +kernel
theorem dX2_doRead_0 : decode cX2_doRead 0 = .ok (.aload_n 0, 1) := by decide +kernel
theorem dX2_doRead_1 : decode cX2_doRead 1 = .ok (.getfield 9, 3) := by decide +kernel
theorem dX2_doRead_4 : decode cX2_doRead 4 = .ok (.iconst 1, 1) := by decide +kernel
theorem dX2_doRead_5 : decode cX2_doRead 5 = .ok (.iconst 4, 1) := by decide +kernel
theorem dX2_doRead_6 : decode cX2_doRead 6 = .ok (.invokevirtual 15, 3) := by decide +kernel
theorem dX2_doRead_9 : decode cX2_doRead 9 = .ok (.aload_n 0, 1) := by decide +kernel
theorem dX2_doRead_10 : decode cX2_doRead 10 = .ok (.iload_n 1, 1) := by decide +kernel
theorem dX2_doRead_11 : decode cX2_doRead 11 = .ok (.invokespecial 21, 3) := by decide +kernel
theorem dX2_doRead_14 : decode cX2_doRead 14 = .ok (.iload_n 1, 1) := by decide +kernel
theorem dX2_doRead_15 : decode cX2_doRead 15 = .ok (.aload_n 0, 1) := by decide +kernel
theorem dX2_doRead_16 : decode cX2_doRead 16 = .ok (.getfield 25, 3) := by decide +kernel
theorem dX2_doRead_19 : decode cX2_doRead 19 = .ok (.if_icmp .le 8, 3) := by decide +kernel
theorem dX2_doRead_22 : decode cX2_doRead 22 = .ok (.aload_n 0, 1) := by decide +kernel
theorem dX2_doRead_23 : decode cX2_doRead 23 = .ok (.iload_n 1, 1) := by decide +kernel
theorem dX2_doRead_24 : decode cX2_doRead 24 = .ok (.invokespecial 21, 3) := by decide +kernel
theorem dX2_doRead_27 : decode cX2_doRead 27 = .ok (.return_, 1) := by decide +kernel
theorem dX2_doOver_0 : decode cX2_doOver 0 = .ok (.aload_n 0, 1) := by decide +kernel
theorem dX2_doOver_1 : decode cX2_doOver 1 = .ok (.getfield 9, 3) := by decide +kernel
theorem dX2_doOver_4 : decode cX2_doOver 4 = .ok (.iconst 2, 1) := by decide +kernel
theorem dX2_doOver_5 : decode cX2_doOver 5 = .ok (.iconst 4, 1) := by decide +kernel
theorem dX2_doOver_6 : decode cX2_doOver 6 = .ok (.invokevirtual 15, 3) := by decide +kernel
theorem dX2_doOver_9 : decode cX2_doOver 9 = .ok (.aload_n 0, 1) := by decide +kernel
theorem dX2_doOver_10 : decode cX2_doOver 10 = .ok (.invokespecial 29, 3) := by decide +kernel
theorem dX2_doOver_13 : decode cX2_doOver 13 = .ok (.ifCond .eq 15, 3) := by decide +kernel
theorem dX2_doOver_16 : decode cX2_doOver 16 = .ok (.aload_n 0, 1) := by decide +kernel
theorem dX2_doOver_17 : decode cX2_doOver 17 = .ok (.getfield 33, 3) := by decide +kernel
theorem dX2_doOver_20 : decode cX2_doOver 20 = .ok (.iconst 3, 1) := by decide +kernel
theorem dX2_doOver_21 : decode cX2_doOver 21 = .ok (.if_icmp .lt 7, 3) := by decide +kernel
theorem dX2_doOver_24 : decode cX2_doOver 24 = .ok (.iconst 1, 1) := by decide +kernel
theorem dX2_doOver_25 : decode cX2_doOver 25 = .ok (.goto 4, 3) := by decide +kernel
theorem dX2_doOver_28 : decode cX2_doOver 28 = .ok (.iconst 0, 1) := by decide +kernel
theorem dX2_doOver_29 : decode cX2_doOver 29 = .ok (.ireturn, 1) := by decide +kernel
theorem dX3_init_0 : decode cX3_init 0 = .ok (.aload_n 0, 1) := by decide +kernel
theorem dX3_init_1 : decode cX3_init 1 = .ok (.invokespecial 3, 3) := by decide +kernel
theorem dX3_init_4 : decode cX3_init 4 = .ok (.aload_n 0, 1) := by decide +kernel
theorem dX3_init_5 : decode cX3_init 5 = .ok (.aload_n 1, 1) := by decide +kernel
theorem dX3_init_6 : decode cX3_init 6 = .ok (.putfield 9, 3) := by decide +kernel
theorem dX3_init_9 : decode cX3_init 9 = .ok (.aload_n 0, 1) := by decide +kernel
theorem dX3_init_10 : decode cX3_init 10 = .ok (.iload_n 2, 1) := by decide +kernel
theorem dX3_init_11 : decode cX3_init 11 = .ok (.putfield 15, 3) := by decide +kernel
theorem dX3_init_14 : decode cX3_init 14 = .ok (.aload_n 0, 1) := by decide +kernel
theorem dX3_init_15 : decode cX3_init 15 = .ok (.iload_n 3, 1) := by decide +kernel
theorem dX3_init_16 : decode cX3_init 16 = .ok (.putfield 19, 3) := by decide +kernel
theorem dX3_init_19 : decode cX3_init 19 = .ok (.aload_n 0, 1) := by decide +kernel
theorem dX3_init_20 : decode cX3_init 20 = .ok (.iload 4, 2) := by decide +kernel
theorem dX3_init_22 : decode cX3_init 22 = .ok (.putfield 22, 3) := by decide +kernel
theorem dX3_init_25 : decode cX3_init 25 = .ok (.aload_n 0, 1) := by decide +kernel
theorem dX3_init_26 : decode cX3_init 26 = .ok (.iload 5, 2) := by decide +kernel
theorem dX3_init_28 : decode cX3_init 28 = .ok (.putfield 25, 3) := by decide +kernel
theorem dX3_init_31 : decode cX3_init 31 = .ok (.return_, 1) := by decide +kernel
theorem dX3_doWeigh_0 : decode cX3_doWeigh 0 = .ok (.aload_n 0, 1) := by decide +kernel
theorem dX3_doWeigh_1 : decode cX3_doWeigh 1 = .ok (.getfield 9, 3) := by decide +kernel
theorem dX3_doWeigh_4 : decode cX3_doWeigh 4 = .ok (.iconst 0, 1) := by decide +kernel
theorem dX3_doWeigh_5 : decode cX3_doWeigh 5 = .ok (.iconst 0, 1) := by decide +kernel
theorem dX3_doWeigh_6 : decode cX3_doWeigh 6 = .ok (.invokevirtual 28, 3) := by decide +kernel
theorem dX3_doWeigh_9 : decode cX3_doWeigh 9 = .ok (.iload_n 1, 1) := by decide +kernel
theorem dX3_doWeigh_10 : decode cX3_doWeigh 10 = .ok (.ireturn, 1) := by decide +kernel
theorem dX3_doRead_0 : decode cX3_doRead 0 = .ok (.aload_n 0, 1) := by decide +kernel
theorem dX3_doRead_1 : decode cX3_doRead 1 = .ok (.getfield 9, 3) := by decide +kernel
theorem dX3_doRead_4 : decode cX3_doRead 4 = .ok (.iconst 1, 1) := by decide +kernel
theorem dX3_doRead_5 : decode cX3_doRead 5 = .ok (.iconst 0, 1) := by decide +kernel
theorem dX3_doRead_6 : decode cX3_doRead 6 = .ok (.invokevirtual 28, 3) := by decide +kernel
theorem dX3_doRead_9 : decode cX3_doRead 9 = .ok (.aload_n 0, 1) := by decide +kernel
theorem dX3_doRead_10 : decode cX3_doRead 10 = .ok (.iload_n 1, 1) := by decide +kernel
theorem dX3_doRead_11 : decode cX3_doRead 11 = .ok (.invokevirtual 34, 3) := by decide +kernel
theorem dX3_doRead_14 : decode cX3_doRead 14 = .ok (.istore_n 2, 1) := by decide +kernel
theorem dX3_doRead_15 : decode cX3_doRead 15 = .ok (.aload_n 0, 1) := by decide +kernel
theorem dX3_doRead_16 : decode cX3_doRead 16 = .ok (.iconst 3, 1) := by decide +kernel
theorem dX3_doRead_17 : decode cX3_doRead 17 = .ok (.aload_n 0, 1) := by decide +kernel
theorem dX3_doRead_18 : decode cX3_doRead 18 = .ok (.getfield 38, 3) := by decide +kernel
theorem dX3_doRead_21 : decode cX3_doRead 21 = .ok (.imul, 1) := by decide +kernel
theorem dX3_doRead_22 : decode cX3_doRead 22 = .ok (.iload_n 2, 1) := by decide +kernel
theorem dX3_doRead_23 : decode cX3_doRead 23 = .ok (.iadd, 1) := by decide +kernel
theorem dX3_doRead_24 : decode cX3_doRead 24 = .ok (.iconst 4, 1) := by decide +kernel
theorem dX3_doRead_25 : decode cX3_doRead 25 = .ok (.idiv, 1) := by decide +kernel
theorem dX3_doRead_26 : decode cX3_doRead 26 = .ok (.putfield 38, 3) := by decide +kernel
theorem dX3_doRead_29 : decode cX3_doRead 29 = .ok (.aload_n 0, 1) := by decide +kernel
theorem dX3_doRead_30 : decode cX3_doRead 30 = .ok (.dup, 1) := by decide +kernel
theorem dX3_doRead_31 : decode cX3_doRead 31 = .ok (.getfield 41, 3) := by decide +kernel
theorem dX3_doRead_34 : decode cX3_doRead 34 = .ok (.iconst 1, 1) := by decide +kernel
theorem dX3_doRead_35 : decode cX3_doRead 35 = .ok (.iadd, 1) := by decide +kernel
theorem dX3_doRead_36 : decode cX3_doRead 36 = .ok (.putfield 41, 3) := by decide +kernel
theorem dX3_doRead_39 : decode cX3_doRead 39 = .ok (.return_, 1) := by decide +kernel
theorem dX3_doOver_0 : decode cX3_doOver 0 = .ok (.aload_n 0, 1) := by decide +kernel
theorem dX3_doOver_1 : decode cX3_doOver 1 = .ok (.getfield 9, 3) := by decide +kernel
theorem dX3_doOver_4 : decode cX3_doOver 4 = .ok (.iconst 2, 1) := by decide +kernel
theorem dX3_doOver_5 : decode cX3_doOver 5 = .ok (.iconst 0, 1) := by decide +kernel
theorem dX3_doOver_6 : decode cX3_doOver 6 = .ok (.invokevirtual 28, 3) := by decide +kernel
theorem dX3_doOver_9 : decode cX3_doOver 9 = .ok (.aload_n 0, 1) := by decide +kernel
theorem dX3_doOver_10 : decode cX3_doOver 10 = .ok (.getfield 38, 3) := by decide +kernel
theorem dX3_doOver_13 : decode cX3_doOver 13 = .ok (.aload_n 0, 1) := by decide +kernel
theorem dX3_doOver_14 : decode cX3_doOver 14 = .ok (.getfield 22, 3) := by decide +kernel
theorem dX3_doOver_17 : decode cX3_doOver 17 = .ok (.if_icmp .lt 7, 3) := by decide +kernel
theorem dX3_doOver_20 : decode cX3_doOver 20 = .ok (.iconst 1, 1) := by decide +kernel
theorem dX3_doOver_21 : decode cX3_doOver 21 = .ok (.goto 4, 3) := by decide +kernel
theorem dX3_doOver_24 : decode cX3_doOver 24 = .ok (.iconst 0, 1) := by decide +kernel
theorem dX3_doOver_25 : decode cX3_doOver 25 = .ok (.ireturn, 1) := by decide +kernel
theorem dX3_doClear_0 : decode cX3_doClear 0 = .ok (.aload_n 0, 1) := by decide +kernel
theorem dX3_doClear_1 : decode cX3_doClear 1 = .ok (.getfield 9, 3) := by decide +kernel
theorem dX3_doClear_4 : decode cX3_doClear 4 = .ok (.iconst 3, 1) := by decide +kernel
theorem dX3_doClear_5 : decode cX3_doClear 5 = .ok (.iconst 0, 1) := by decide +kernel
theorem dX3_doClear_6 : decode cX3_doClear 6 = .ok (.invokevirtual 28, 3) := by decide +kernel
theorem dX3_doClear_9 : decode cX3_doClear 9 = .ok (.aload_n 0, 1) := by decide +kernel
theorem dX3_doClear_10 : decode cX3_doClear 10 = .ok (.iconst 0, 1) := by decide +kernel
theorem dX3_doClear_11 : decode cX3_doClear 11 = .ok (.putfield 38, 3) := by decide +kernel
theorem dX3_doClear_14 : decode cX3_doClear 14 = .ok (.aload_n 0, 1) := by decide +kernel
theorem dX3_doClear_15 : decode cX3_doClear 15 = .ok (.iconst 0, 1) := by decide +kernel
theorem dX3_doClear_16 : decode cX3_doClear 16 = .ok (.putfield 41, 3) := by decide +kernel
theorem dX3_doClear_19 : decode cX3_doClear 19 = .ok (.return_, 1) := by decide +kernel
theorem dX3_doCost_0 : decode cX3_doCost 0 = .ok (.aload_n 0, 1) := by decide +kernel
theorem dX3_doCost_1 : decode cX3_doCost 1 = .ok (.getfield 9, 3) := by decide +kernel
theorem dX3_doCost_4 : decode cX3_doCost 4 = .ok (.iconst 4, 1) := by decide +kernel
theorem dX3_doCost_5 : decode cX3_doCost 5 = .ok (.iconst 0, 1) := by decide +kernel
theorem dX3_doCost_6 : decode cX3_doCost 6 = .ok (.invokevirtual 28, 3) := by decide +kernel
theorem dX3_doCost_9 : decode cX3_doCost 9 = .ok (.bipush 10, 2) := by decide +kernel
theorem dX3_doCost_11 : decode cX3_doCost 11 = .ok (.aload_n 0, 1) := by decide +kernel
theorem dX3_doCost_12 : decode cX3_doCost 12 = .ok (.getfield 41, 3) := by decide +kernel
theorem dX3_doCost_15 : decode cX3_doCost 15 = .ok (.iadd, 1) := by decide +kernel
theorem dX3_doCost_16 : decode cX3_doCost 16 = .ok (.ireturn, 1) := by decide +kernel
theorem dX3_doVotes_0 : decode cX3_doVotes 0 = .ok (.aload_n 0, 1) := by decide +kernel
theorem dX3_doVotes_1 : decode cX3_doVotes 1 = .ok (.invokevirtual 44, 3) := by decide +kernel
theorem dX3_doVotes_4 : decode cX3_doVotes 4 = .ok (.ifCond .eq 7, 3) := by decide +kernel
theorem dX3_doVotes_7 : decode cX3_doVotes 7 = .ok (.iconst 3, 1) := by decide +kernel
theorem dX3_doVotes_8 : decode cX3_doVotes 8 = .ok (.goto 4, 3) := by decide +kernel
theorem dX3_doVotes_11 : decode cX3_doVotes 11 = .ok (.iconst 0, 1) := by decide +kernel
theorem dX3_doVotes_12 : decode cX3_doVotes 12 = .ok (.ireturn, 1) := by decide +kernel
theorem dX4_init_0 : decode cX4_init 0 = .ok (.aload_n 0, 1) := by decide +kernel
theorem dX4_init_1 : decode cX4_init 1 = .ok (.aload_n 1, 1) := by decide +kernel
theorem dX4_init_2 : decode cX4_init 2 = .ok (.iload_n 2, 1) := by decide +kernel
theorem dX4_init_3 : decode cX4_init 3 = .ok (.iload_n 3, 1) := by decide +kernel
theorem dX4_init_4 : decode cX4_init 4 = .ok (.iload 4, 2) := by decide +kernel
theorem dX4_init_6 : decode cX4_init 6 = .ok (.iload 5, 2) := by decide +kernel
theorem dX4_init_8 : decode cX4_init 8 = .ok (.invokespecial 3, 3) := by decide +kernel
theorem dX4_init_11 : decode cX4_init 11 = .ok (.return_, 1) := by decide +kernel
theorem dX4_doWeigh_0 : decode cX4_doWeigh 0 = .ok (.aload_n 0, 1) := by decide +kernel
theorem dX4_doWeigh_1 : decode cX4_doWeigh 1 = .ok (.getfield 9, 3) := by decide +kernel
theorem dX4_doWeigh_4 : decode cX4_doWeigh 4 = .ok (.iconst 0, 1) := by decide +kernel
theorem dX4_doWeigh_5 : decode cX4_doWeigh 5 = .ok (.iconst 2, 1) := by decide +kernel
theorem dX4_doWeigh_6 : decode cX4_doWeigh 6 = .ok (.invokevirtual 15, 3) := by decide +kernel
theorem dX4_doWeigh_9 : decode cX4_doWeigh 9 = .ok (.aload_n 0, 1) := by decide +kernel
theorem dX4_doWeigh_10 : decode cX4_doWeigh 10 = .ok (.getfield 21, 3) := by decide +kernel
theorem dX4_doWeigh_13 : decode cX4_doWeigh 13 = .ok (.ifCond .ne 26, 3) := by decide +kernel
theorem dX4_doWeigh_16 : decode cX4_doWeigh 16 = .ok (.aload_n 0, 1) := by decide +kernel
theorem dX4_doWeigh_17 : decode cX4_doWeigh 17 = .ok (.getfield 9, 3) := by decide +kernel
theorem dX4_doWeigh_20 : decode cX4_doWeigh 20 = .ok (.dup, 1) := by decide +kernel
theorem dX4_doWeigh_21 : decode cX4_doWeigh 21 = .ok (.getfield 25, 3) := by decide +kernel
theorem dX4_doWeigh_24 : decode cX4_doWeigh 24 = .ok (.iconst 1, 1) := by decide +kernel
theorem dX4_doWeigh_25 : decode cX4_doWeigh 25 = .ok (.iadd, 1) := by decide +kernel
theorem dX4_doWeigh_26 : decode cX4_doWeigh 26 = .ok (.putfield 25, 3) := by decide +kernel
theorem dX4_doWeigh_29 : decode cX4_doWeigh 29 = .ok (.new 28, 3) := by decide +kernel
theorem dX4_doWeigh_32 : decode cX4_doWeigh 32 = .ok (.dup, 1) := by decide +kernel
theorem dX4_doWeigh_33 : decode cX4_doWeigh 33 = .ok (.ldc 30, 2) := by decide +kernel
theorem dX4_doWeigh_35 : decode cX4_doWeigh 35 = .ok (.invokespecial 32, 3) := by decide +kernel
theorem dX4_doWeigh_38 : decode cX4_doWeigh 38 = .ok (.athrow, 1) := by decide +kernel
theorem dX4_doWeigh_39 : decode cX4_doWeigh 39 = .ok (.aload_n 0, 1) := by decide +kernel
theorem dX4_doWeigh_40 : decode cX4_doWeigh 40 = .ok (.dup, 1) := by decide +kernel
theorem dX4_doWeigh_41 : decode cX4_doWeigh 41 = .ok (.getfield 21, 3) := by decide +kernel
theorem dX4_doWeigh_44 : decode cX4_doWeigh 44 = .ok (.iconst 1, 1) := by decide +kernel
theorem dX4_doWeigh_45 : decode cX4_doWeigh 45 = .ok (.isub, 1) := by decide +kernel
theorem dX4_doWeigh_46 : decode cX4_doWeigh 46 = .ok (.putfield 21, 3) := by decide +kernel
theorem dX4_doWeigh_49 : decode cX4_doWeigh 49 = .ok (.aload_n 0, 1) := by decide +kernel
theorem dX4_doWeigh_50 : decode cX4_doWeigh 50 = .ok (.iload_n 1, 1) := by decide +kernel
theorem dX4_doWeigh_51 : decode cX4_doWeigh 51 = .ok (.invokespecial 35, 3) := by decide +kernel
theorem dX4_doWeigh_54 : decode cX4_doWeigh 54 = .ok (.ireturn, 1) := by decide +kernel
theorem dX4_doCost_0 : decode cX4_doCost 0 = .ok (.aload_n 0, 1) := by decide +kernel
theorem dX4_doCost_1 : decode cX4_doCost 1 = .ok (.getfield 9, 3) := by decide +kernel
theorem dX4_doCost_4 : decode cX4_doCost 4 = .ok (.iconst 4, 1) := by decide +kernel
theorem dX4_doCost_5 : decode cX4_doCost 5 = .ok (.iconst 2, 1) := by decide +kernel
theorem dX4_doCost_6 : decode cX4_doCost 6 = .ok (.invokevirtual 15, 3) := by decide +kernel
theorem dX4_doCost_9 : decode cX4_doCost 9 = .ok (.iconst 2, 1) := by decide +kernel
theorem dX4_doCost_10 : decode cX4_doCost 10 = .ok (.aload_n 0, 1) := by decide +kernel
theorem dX4_doCost_11 : decode cX4_doCost 11 = .ok (.invokespecial 39, 3) := by decide +kernel
theorem dX4_doCost_14 : decode cX4_doCost 14 = .ok (.imul, 1) := by decide +kernel
theorem dX4_doCost_15 : decode cX4_doCost 15 = .ok (.ireturn, 1) := by decide +kernel
theorem dX5_init_0 : decode cX5_init 0 = .ok (.aload_n 0, 1) := by decide +kernel
theorem dX5_init_1 : decode cX5_init 1 = .ok (.aload_n 1, 1) := by decide +kernel
theorem dX5_init_2 : decode cX5_init 2 = .ok (.iload_n 2, 1) := by decide +kernel
theorem dX5_init_3 : decode cX5_init 3 = .ok (.iload_n 3, 1) := by decide +kernel
theorem dX5_init_4 : decode cX5_init 4 = .ok (.iload 4, 2) := by decide +kernel
theorem dX5_init_6 : decode cX5_init 6 = .ok (.iload 5, 2) := by decide +kernel
theorem dX5_init_8 : decode cX5_init 8 = .ok (.invokespecial 3, 3) := by decide +kernel
theorem dX5_init_11 : decode cX5_init 11 = .ok (.return_, 1) := by decide +kernel
theorem dX5_doWeigh_0 : decode cX5_doWeigh 0 = .ok (.aload_n 0, 1) := by decide +kernel
theorem dX5_doWeigh_1 : decode cX5_doWeigh 1 = .ok (.getfield 9, 3) := by decide +kernel
theorem dX5_doWeigh_4 : decode cX5_doWeigh 4 = .ok (.iconst 0, 1) := by decide +kernel
theorem dX5_doWeigh_5 : decode cX5_doWeigh 5 = .ok (.iconst 3, 1) := by decide +kernel
theorem dX5_doWeigh_6 : decode cX5_doWeigh 6 = .ok (.invokevirtual 15, 3) := by decide +kernel
theorem dX5_doWeigh_9 : decode cX5_doWeigh 9 = .ok (.aload_n 0, 1) := by decide +kernel
theorem dX5_doWeigh_10 : decode cX5_doWeigh 10 = .ok (.iload_n 1, 1) := by decide +kernel
theorem dX5_doWeigh_11 : decode cX5_doWeigh 11 = .ok (.invokespecial 21, 3) := by decide +kernel
theorem dX5_doWeigh_14 : decode cX5_doWeigh 14 = .ok (.aload_n 0, 1) := by decide +kernel
theorem dX5_doWeigh_15 : decode cX5_doWeigh 15 = .ok (.getfield 25, 3) := by decide +kernel
theorem dX5_doWeigh_18 : decode cX5_doWeigh 18 = .ok (.isub, 1) := by decide +kernel
theorem dX5_doWeigh_19 : decode cX5_doWeigh 19 = .ok (.ireturn, 1) := by decide +kernel
theorem dX5_doRead_0 : decode cX5_doRead 0 = .ok (.aload_n 0, 1) := by decide +kernel
theorem dX5_doRead_1 : decode cX5_doRead 1 = .ok (.getfield 9, 3) := by decide +kernel
theorem dX5_doRead_4 : decode cX5_doRead 4 = .ok (.iconst 1, 1) := by decide +kernel
theorem dX5_doRead_5 : decode cX5_doRead 5 = .ok (.iconst 3, 1) := by decide +kernel
theorem dX5_doRead_6 : decode cX5_doRead 6 = .ok (.invokevirtual 15, 3) := by decide +kernel
theorem dX5_doRead_9 : decode cX5_doRead 9 = .ok (.aload_n 0, 1) := by decide +kernel
theorem dX5_doRead_10 : decode cX5_doRead 10 = .ok (.iload_n 1, 1) := by decide +kernel
theorem dX5_doRead_11 : decode cX5_doRead 11 = .ok (.invokespecial 29, 3) := by decide +kernel
theorem dX5_doRead_14 : decode cX5_doRead 14 = .ok (.aload_n 0, 1) := by decide +kernel
theorem dX5_doRead_15 : decode cX5_doRead 15 = .ok (.getfield 33, 3) := by decide +kernel
theorem dX5_doRead_18 : decode cX5_doRead 18 = .ok (.aload_n 0, 1) := by decide +kernel
theorem dX5_doRead_19 : decode cX5_doRead 19 = .ok (.getfield 25, 3) := by decide +kernel
theorem dX5_doRead_22 : decode cX5_doRead 22 = .ok (.if_icmp .le 16, 3) := by decide +kernel
theorem dX5_doRead_25 : decode cX5_doRead 25 = .ok (.aload_n 0, 1) := by decide +kernel
theorem dX5_doRead_26 : decode cX5_doRead 26 = .ok (.dup, 1) := by decide +kernel
theorem dX5_doRead_27 : decode cX5_doRead 27 = .ok (.getfield 25, 3) := by decide +kernel
theorem dX5_doRead_30 : decode cX5_doRead 30 = .ok (.iconst 1, 1) := by decide +kernel
theorem dX5_doRead_31 : decode cX5_doRead 31 = .ok (.iadd, 1) := by decide +kernel
theorem dX5_doRead_32 : decode cX5_doRead 32 = .ok (.putfield 25, 3) := by decide +kernel
theorem dX5_doRead_35 : decode cX5_doRead 35 = .ok (.goto 24, 3) := by decide +kernel
theorem dX5_doRead_38 : decode cX5_doRead 38 = .ok (.aload_n 0, 1) := by decide +kernel
theorem dX5_doRead_39 : decode cX5_doRead 39 = .ok (.getfield 33, 3) := by decide +kernel
theorem dX5_doRead_42 : decode cX5_doRead 42 = .ok (.aload_n 0, 1) := by decide +kernel
theorem dX5_doRead_43 : decode cX5_doRead 43 = .ok (.getfield 25, 3) := by decide +kernel
theorem dX5_doRead_46 : decode cX5_doRead 46 = .ok (.if_icmp .ge 13, 3) := by decide +kernel
theorem dX5_doRead_49 : decode cX5_doRead 49 = .ok (.aload_n 0, 1) := by decide +kernel
theorem dX5_doRead_50 : decode cX5_doRead 50 = .ok (.dup, 1) := by decide +kernel
theorem dX5_doRead_51 : decode cX5_doRead 51 = .ok (.getfield 25, 3) := by decide +kernel
theorem dX5_doRead_54 : decode cX5_doRead 54 = .ok (.iconst 1, 1) := by decide +kernel
theorem dX5_doRead_55 : decode cX5_doRead 55 = .ok (.isub, 1) := by decide +kernel
theorem dX5_doRead_56 : decode cX5_doRead 56 = .ok (.putfield 25, 3) := by decide +kernel
theorem dX5_doRead_59 : decode cX5_doRead 59 = .ok (.return_, 1) := by decide +kernel
theorem dX6_init_0 : decode cX6_init 0 = .ok (.aload_n 0, 1) := by decide +kernel
theorem dX6_init_1 : decode cX6_init 1 = .ok (.invokespecial 3, 3) := by decide +kernel
theorem dX6_init_4 : decode cX6_init 4 = .ok (.aload_n 0, 1) := by decide +kernel
theorem dX6_init_5 : decode cX6_init 5 = .ok (.sipush 200, 3) := by decide +kernel
theorem dX6_init_8 : decode cX6_init 8 = .ok (.newarray .int, 2) := by decide +kernel
theorem dX6_init_10 : decode cX6_init 10 = .ok (.putfield 9, 3) := by decide +kernel
theorem dX6_init_13 : decode cX6_init 13 = .ok (.return_, 1) := by decide +kernel
theorem dX6_begin_0 : decode cX6_begin 0 = .ok (.aload_n 0, 1) := by decide +kernel
theorem dX6_begin_1 : decode cX6_begin 1 = .ok (.getfield 15, 3) := by decide +kernel
theorem dX6_begin_4 : decode cX6_begin 4 = .ok (.aload_n 0, 1) := by decide +kernel
theorem dX6_begin_5 : decode cX6_begin 5 = .ok (.getfield 9, 3) := by decide +kernel
theorem dX6_begin_8 : decode cX6_begin 8 = .ok (.arraylength, 1) := by decide +kernel
theorem dX6_begin_9 : decode cX6_begin 9 = .ok (.if_icmp .lt 8, 3) := by decide +kernel
theorem dX6_begin_12 : decode cX6_begin 12 = .ok (.aload_n 0, 1) := by decide +kernel
theorem dX6_begin_13 : decode cX6_begin 13 = .ok (.iconst 0, 1) := by decide +kernel
theorem dX6_begin_14 : decode cX6_begin 14 = .ok (.putfield 15, 3) := by decide +kernel
theorem dX6_begin_17 : decode cX6_begin 17 = .ok (.aload_n 0, 1) := by decide +kernel
theorem dX6_begin_18 : decode cX6_begin 18 = .ok (.getfield 9, 3) := by decide +kernel
theorem dX6_begin_21 : decode cX6_begin 21 = .ok (.aload_n 0, 1) := by decide +kernel
theorem dX6_begin_22 : decode cX6_begin 22 = .ok (.getfield 15, 3) := by decide +kernel
theorem dX6_begin_25 : decode cX6_begin 25 = .ok (.bipush 10, 2) := by decide +kernel
theorem dX6_begin_27 : decode cX6_begin 27 = .ok (.iload_n 1, 1) := by decide +kernel
theorem dX6_begin_28 : decode cX6_begin 28 = .ok (.imul, 1) := by decide +kernel
theorem dX6_begin_29 : decode cX6_begin 29 = .ok (.iload_n 2, 1) := by decide +kernel
theorem dX6_begin_30 : decode cX6_begin 30 = .ok (.iadd, 1) := by decide +kernel
theorem dX6_begin_31 : decode cX6_begin 31 = .ok (.iastore, 1) := by decide +kernel
theorem dX6_begin_32 : decode cX6_begin 32 = .ok (.aload_n 0, 1) := by decide +kernel
theorem dX6_begin_33 : decode cX6_begin 33 = .ok (.dup, 1) := by decide +kernel
theorem dX6_begin_34 : decode cX6_begin 34 = .ok (.getfield 15, 3) := by decide +kernel
theorem dX6_begin_37 : decode cX6_begin 37 = .ok (.iconst 1, 1) := by decide +kernel
theorem dX6_begin_38 : decode cX6_begin 38 = .ok (.iadd, 1) := by decide +kernel
theorem dX6_begin_39 : decode cX6_begin 39 = .ok (.putfield 15, 3) := by decide +kernel
theorem dX6_begin_42 : decode cX6_begin 42 = .ok (.aload_n 0, 1) := by decide +kernel
theorem dX6_begin_43 : decode cX6_begin 43 = .ok (.getfield 19, 3) := by decide +kernel
theorem dX6_begin_46 : decode cX6_begin 46 = .ok (.aload_n 0, 1) := by decide +kernel
theorem dX6_begin_47 : decode cX6_begin 47 = .ok (.getfield 9, 3) := by decide +kernel
theorem dX6_begin_50 : decode cX6_begin 50 = .ok (.arraylength, 1) := by decide +kernel
theorem dX6_begin_51 : decode cX6_begin 51 = .ok (.if_icmp .ge 13, 3) := by decide +kernel
theorem dX6_begin_54 : decode cX6_begin 54 = .ok (.aload_n 0, 1) := by decide +kernel
theorem dX6_begin_55 : decode cX6_begin 55 = .ok (.dup, 1) := by decide +kernel
theorem dX6_begin_56 : decode cX6_begin 56 = .ok (.getfield 19, 3) := by decide +kernel
theorem dX6_begin_59 : decode cX6_begin 59 = .ok (.iconst 1, 1) := by decide +kernel
theorem dX6_begin_60 : decode cX6_begin 60 = .ok (.iadd, 1) := by decide +kernel
theorem dX6_begin_61 : decode cX6_begin 61 = .ok (.putfield 19, 3) := by decide +kernel
theorem dX6_begin_64 : decode cX6_begin 64 = .ok (.aload_n 0, 1) := by decide +kernel
theorem dX6_begin_65 : decode cX6_begin 65 = .ok (.dup, 1) := by decide +kernel
theorem dX6_begin_66 : decode cX6_begin 66 = .ok (.getfield 22, 3) := by decide +kernel
theorem dX6_begin_69 : decode cX6_begin 69 = .ok (.iconst 1, 1) := by decide +kernel
theorem dX6_begin_70 : decode cX6_begin 70 = .ok (.iadd, 1) := by decide +kernel
theorem dX6_begin_71 : decode cX6_begin 71 = .ok (.putfield 22, 3) := by decide +kernel
theorem dX6_begin_74 : decode cX6_begin 74 = .ok (.return_, 1) := by decide +kernel
theorem dX6_at_0 : decode cX6_at 0 = .ok (.iload_n 1, 1) := by decide +kernel
theorem dX6_at_1 : decode cX6_at 1 = .ok (.ifCond .lt 11, 3) := by decide +kernel
theorem dX6_at_4 : decode cX6_at 4 = .ok (.iload_n 1, 1) := by decide +kernel
theorem dX6_at_5 : decode cX6_at 5 = .ok (.aload_n 0, 1) := by decide +kernel
theorem dX6_at_6 : decode cX6_at 6 = .ok (.getfield 19, 3) := by decide +kernel
theorem dX6_at_9 : decode cX6_at 9 = .ok (.if_icmp .lt 6, 3) := by decide +kernel
theorem dX6_at_12 : decode cX6_at 12 = .ok (.bipush (-101), 2) := by decide +kernel
theorem dX6_at_14 : decode cX6_at 14 = .ok (.ireturn, 1) := by decide +kernel
theorem dX6_at_15 : decode cX6_at 15 = .ok (.aload_n 0, 1) := by decide +kernel
theorem dX6_at_16 : decode cX6_at 16 = .ok (.getfield 15, 3) := by decide +kernel
theorem dX6_at_19 : decode cX6_at 19 = .ok (.iconst 1, 1) := by decide +kernel
theorem dX6_at_20 : decode cX6_at 20 = .ok (.isub, 1) := by decide +kernel
theorem dX6_at_21 : decode cX6_at 21 = .ok (.iload_n 1, 1) := by decide +kernel
theorem dX6_at_22 : decode cX6_at 22 = .ok (.isub, 1) := by decide +kernel
theorem dX6_at_23 : decode cX6_at 23 = .ok (.istore_n 2, 1) := by decide +kernel
theorem dX6_at_24 : decode cX6_at 24 = .ok (.aload_n 0, 1) := by decide +kernel
theorem dX6_at_25 : decode cX6_at 25 = .ok (.getfield 9, 3) := by decide +kernel
theorem dX6_at_28 : decode cX6_at 28 = .ok (.iload_n 2, 1) := by decide +kernel
theorem dX6_at_29 : decode cX6_at 29 = .ok (.ifCond .ge 13, 3) := by decide +kernel
theorem dX6_at_32 : decode cX6_at 32 = .ok (.iload_n 2, 1) := by decide +kernel
theorem dX6_at_33 : decode cX6_at 33 = .ok (.aload_n 0, 1) := by decide +kernel
theorem dX6_at_34 : decode cX6_at 34 = .ok (.getfield 9, 3) := by decide +kernel
theorem dX6_at_37 : decode cX6_at 37 = .ok (.arraylength, 1) := by decide +kernel
theorem dX6_at_38 : decode cX6_at 38 = .ok (.iadd, 1) := by decide +kernel
theorem dX6_at_39 : decode cX6_at 39 = .ok (.goto 4, 3) := by decide +kernel
theorem dX6_at_42 : decode cX6_at 42 = .ok (.iload_n 2, 1) := by decide +kernel
theorem dX6_at_43 : decode cX6_at 43 = .ok (.iaload, 1) := by decide +kernel
theorem dX6_at_44 : decode cX6_at 44 = .ok (.ireturn, 1) := by decide +kernel
theorem dX7_init_0 : decode cX7_init 0 = .ok (.aload_n 0, 1) := by decide +kernel
theorem dX7_init_1 : decode cX7_init 1 = .ok (.aload_n 1, 1) := by decide +kernel
theorem dX7_init_2 : decode cX7_init 2 = .ok (.iload_n 2, 1) := by decide +kernel
theorem dX7_init_3 : decode cX7_init 3 = .ok (.iload_n 3, 1) := by decide +kernel
theorem dX7_init_4 : decode cX7_init 4 = .ok (.iload 4, 2) := by decide +kernel
theorem dX7_init_6 : decode cX7_init 6 = .ok (.iload 5, 2) := by decide +kernel
theorem dX7_init_8 : decode cX7_init 8 = .ok (.invokespecial 3, 3) := by decide +kernel
theorem dX7_init_11 : decode cX7_init 11 = .ok (.return_, 1) := by decide +kernel
theorem dX7_doRead_0 : decode cX7_doRead 0 = .ok (.aload_n 0, 1) := by decide +kernel
theorem dX7_doRead_1 : decode cX7_doRead 1 = .ok (.getfield 9, 3) := by decide +kernel
theorem dX7_doRead_4 : decode cX7_doRead 4 = .ok (.iconst 1, 1) := by decide +kernel
theorem dX7_doRead_5 : decode cX7_doRead 5 = .ok (.bipush 7, 2) := by decide +kernel
theorem dX7_doRead_7 : decode cX7_doRead 7 = .ok (.invokevirtual 15, 3) := by decide +kernel
theorem dX7_doRead_10 : decode cX7_doRead 10 = .ok (.aload_n 0, 1) := by decide +kernel
theorem dX7_doRead_11 : decode cX7_doRead 11 = .ok (.iload_n 1, 1) := by decide +kernel
theorem dX7_doRead_12 : decode cX7_doRead 12 = .ok (.invokespecial 21, 3) := by decide +kernel
theorem dX7_doRead_15 : decode cX7_doRead 15 = .ok (.aload_n 0, 1) := by decide +kernel
theorem dX7_doRead_16 : decode cX7_doRead 16 = .ok (.iload_n 1, 1) := by decide +kernel
theorem dX7_doRead_17 : decode cX7_doRead 17 = .ok (.ineg, 1) := by decide +kernel
theorem dX7_doRead_18 : decode cX7_doRead 18 = .ok (.invokespecial 21, 3) := by decide +kernel
theorem dX7_doRead_21 : decode cX7_doRead 21 = .ok (.return_, 1) := by decide +kernel
theorem dX7_doClear_0 : decode cX7_doClear 0 = .ok (.aload_n 0, 1) := by decide +kernel
theorem dX7_doClear_1 : decode cX7_doClear 1 = .ok (.getfield 9, 3) := by decide +kernel
theorem dX7_doClear_4 : decode cX7_doClear 4 = .ok (.iconst 3, 1) := by decide +kernel
theorem dX7_doClear_5 : decode cX7_doClear 5 = .ok (.bipush 7, 2) := by decide +kernel
theorem dX7_doClear_7 : decode cX7_doClear 7 = .ok (.invokevirtual 15, 3) := by decide +kernel
theorem dX7_doClear_10 : decode cX7_doClear 10 = .ok (.aload_n 0, 1) := by decide +kernel
theorem dX7_doClear_11 : decode cX7_doClear 11 = .ok (.invokespecial 25, 3) := by decide +kernel
theorem dX7_doClear_14 : decode cX7_doClear 14 = .ok (.aload_n 0, 1) := by decide +kernel
theorem dX7_doClear_15 : decode cX7_doClear 15 = .ok (.iconst 0, 1) := by decide +kernel
theorem dX7_doClear_16 : decode cX7_doClear 16 = .ok (.putfield 29, 3) := by decide +kernel
theorem dX7_doClear_19 : decode cX7_doClear 19 = .ok (.return_, 1) := by decide +kernel
theorem dX7_doCost_0 : decode cX7_doCost 0 = .ok (.aload_n 0, 1) := by decide +kernel
theorem dX7_doCost_1 : decode cX7_doCost 1 = .ok (.getfield 9, 3) := by decide +kernel
theorem dX7_doCost_4 : decode cX7_doCost 4 = .ok (.iconst 4, 1) := by decide +kernel
theorem dX7_doCost_5 : decode cX7_doCost 5 = .ok (.bipush 7, 2) := by decide +kernel
theorem dX7_doCost_7 : decode cX7_doCost 7 = .ok (.invokevirtual 15, 3) := by decide +kernel
theorem dX7_doCost_10 : decode cX7_doCost 10 = .ok (.aload_n 0, 1) := by decide +kernel
theorem dX7_doCost_11 : decode cX7_doCost 11 = .ok (.invokespecial 33, 3) := by decide +kernel
theorem dX7_doCost_14 : decode cX7_doCost 14 = .ok (.iconst 1, 1) := by decide +kernel
theorem dX7_doCost_15 : decode cX7_doCost 15 = .ok (.aload_n 0, 1) := by decide +kernel
theorem dX7_doCost_16 : decode cX7_doCost 16 = .ok (.getfield 29, 3) := by decide +kernel
theorem dX7_doCost_19 : decode cX7_doCost 19 = .ok (.invokestatic 37, 3) := by decide +kernel
theorem dX7_doCost_22 : decode cX7_doCost 22 = .ok (.iadd, 1) := by decide +kernel
theorem dX7_doCost_23 : decode cX7_doCost 23 = .ok (.imul, 1) := by decide +kernel
theorem dX7_doCost_24 : decode cX7_doCost 24 = .ok (.ireturn, 1) := by decide +kernel
theorem dX7_doVotes_0 : decode cX7_doVotes 0 = .ok (.aload_n 0, 1) := by decide +kernel
theorem dX7_doVotes_1 : decode cX7_doVotes 1 = .ok (.invokevirtual 43, 3) := by decide +kernel
theorem dX7_doVotes_4 : decode cX7_doVotes 4 = .ok (.ifCond .eq 7, 3) := by decide +kernel
theorem dX7_doVotes_7 : decode cX7_doVotes 7 = .ok (.iconst 2, 1) := by decide +kernel
theorem dX7_doVotes_8 : decode cX7_doVotes 8 = .ok (.goto 4, 3) := by decide +kernel
theorem dX7_doVotes_11 : decode cX7_doVotes 11 = .ok (.iconst 0, 1) := by decide +kernel
theorem dX7_doVotes_12 : decode cX7_doVotes 12 = .ok (.ireturn, 1) := by decide +kernel
theorem dX8_init_0 : decode cX8_init 0 = .ok (.aload_n 0, 1) := by decide +kernel
theorem dX8_init_1 : decode cX8_init 1 = .ok (.aload_n 1, 1) := by decide +kernel
theorem dX8_init_2 : decode cX8_init 2 = .ok (.iload_n 2, 1) := by decide +kernel
theorem dX8_init_3 : decode cX8_init 3 = .ok (.iload_n 3, 1) := by decide +kernel
theorem dX8_init_4 : decode cX8_init 4 = .ok (.iload 4, 2) := by decide +kernel
theorem dX8_init_6 : decode cX8_init 6 = .ok (.iload 5, 2) := by decide +kernel
theorem dX8_init_8 : decode cX8_init 8 = .ok (.invokespecial 1, 3) := by decide +kernel
theorem dX8_init_11 : decode cX8_init 11 = .ok (.return_, 1) := by decide +kernel
theorem dX8_doVotes_0 : decode cX8_doVotes 0 = .ok (.aload_n 0, 1) := by decide +kernel
theorem dX8_doVotes_1 : decode cX8_doVotes 1 = .ok (.invokevirtual 7, 3) := by decide +kernel
theorem dX8_doVotes_4 : decode cX8_doVotes 4 = .ok (.ifCond .eq 7, 3) := by decide +kernel
theorem dX8_doVotes_7 : decode cX8_doVotes 7 = .ok (.iconst 1, 1) := by decide +kernel
theorem dX8_doVotes_8 : decode cX8_doVotes 8 = .ok (.goto 4, 3) := by decide +kernel
theorem dX8_doVotes_11 : decode cX8_doVotes 11 = .ok (.iconst 0, 1) := by decide +kernel
theorem dX8_doVotes_12 : decode cX8_doVotes 12 = .ok (.ireturn, 1) := by decide +kernel
theorem dX9_init_0 : decode cX9_init 0 = .ok (.aload_n 0, 1) := by decide +kernel
theorem dX9_init_1 : decode cX9_init 1 = .ok (.invokespecial 1, 3) := by decide +kernel
theorem dX9_init_4 : decode cX9_init 4 = .ok (.aload_n 0, 1) := by decide +kernel
theorem dX9_init_5 : decode cX9_init 5 = .ok (.bipush 20, 2) := by decide +kernel
theorem dX9_init_7 : decode cX9_init 7 = .ok (.anewarray 9, 3) := by decide +kernel
theorem dX9_init_10 : decode cX9_init 10 = .ok (.putfield 11, 3) := by decide +kernel
theorem dX9_init_13 : decode cX9_init 13 = .ok (.aload_n 0, 1) := by decide +kernel
theorem dX9_init_14 : decode cX9_init 14 = .ok (.new 15, 3) := by decide +kernel
theorem dX9_init_17 : decode cX9_init 17 = .ok (.dup, 1) := by decide +kernel
theorem dX9_init_18 : decode cX9_init 18 = .ok (.invokespecial 17, 3) := by decide +kernel
theorem dX9_init_21 : decode cX9_init 21 = .ok (.putfield 18, 3) := by decide +kernel
theorem dX9_init_24 : decode cX9_init 24 = .ok (.aload_n 0, 1) := by decide +kernel
theorem dX9_init_25 : decode cX9_init 25 = .ok (.iconst 0, 1) := by decide +kernel
theorem dX9_init_26 : decode cX9_init 26 = .ok (.putfield 22, 3) := by decide +kernel
theorem dX9_init_29 : decode cX9_init 29 = .ok (.return_, 1) := by decide +kernel
theorem dX9_add_0 : decode cX9_add 0 = .ok (.iload_n 1, 1) := by decide +kernel
theorem dX9_add_1 : decode cX9_add 1 = .ok (.invokestatic 26, 3) := by decide +kernel
theorem dX9_add_4 : decode cX9_add 4 = .ok (.ifCond .eq 25, 3) := by decide +kernel
theorem dX9_add_7 : decode cX9_add 7 = .ok (.iload_n 2, 1) := by decide +kernel
theorem dX9_add_8 : decode cX9_add 8 = .ok (.invokestatic 30, 3) := by decide +kernel
theorem dX9_add_11 : decode cX9_add 11 = .ok (.ifCond .eq 18, 3) := by decide +kernel
theorem dX9_add_14 : decode cX9_add 14 = .ok (.iload_n 3, 1) := by decide +kernel
theorem dX9_add_15 : decode cX9_add 15 = .ok (.invokestatic 33, 3) := by decide +kernel
theorem dX9_add_18 : decode cX9_add 18 = .ok (.ifCond .eq 11, 3) := by decide +kernel
theorem dX9_add_21 : decode cX9_add 21 = .ok (.iload 4, 2) := by decide +kernel
theorem dX9_add_23 : decode cX9_add 23 = .ok (.invokestatic 36, 3) := by decide +kernel
theorem dX9_add_26 : decode cX9_add 26 = .ok (.ifCond .ne 6, 3) := by decide +kernel
theorem dX9_add_29 : decode cX9_add 29 = .ok (.bipush (-102), 2) := by decide +kernel
theorem dX9_add_31 : decode cX9_add 31 = .ok (.ireturn, 1) := by decide +kernel
theorem dX9_add_32 : decode cX9_add 32 = .ok (.aload_n 0, 1) := by decide +kernel
theorem dX9_add_33 : decode cX9_add 33 = .ok (.getfield 22, 3) := by decide +kernel
theorem dX9_add_36 : decode cX9_add 36 = .ok (.aload_n 0, 1) := by decide +kernel
theorem dX9_add_37 : decode cX9_add 37 = .ok (.getfield 11, 3) := by decide +kernel
theorem dX9_add_40 : decode cX9_add 40 = .ok (.arraylength, 1) := by decide +kernel
theorem dX9_add_41 : decode cX9_add 41 = .ok (.if_icmp .lt 6, 3) := by decide +kernel
theorem dX9_add_44 : decode cX9_add 44 = .ok (.bipush (-104), 2) := by decide +kernel
theorem dX9_add_46 : decode cX9_add 46 = .ok (.ireturn, 1) := by decide +kernel
theorem dX9_add_47 : decode cX9_add 47 = .ok (.aload_n 0, 1) := by decide +kernel
theorem dX9_add_48 : decode cX9_add 48 = .ok (.getfield 11, 3) := by decide +kernel
theorem dX9_add_51 : decode cX9_add 51 = .ok (.aload_n 0, 1) := by decide +kernel
theorem dX9_add_52 : decode cX9_add 52 = .ok (.getfield 22, 3) := by decide +kernel
theorem dX9_add_55 : decode cX9_add 55 = .ok (.aload_n 0, 1) := by decide +kernel
theorem dX9_add_56 : decode cX9_add 56 = .ok (.iload_n 1, 1) := by decide +kernel
theorem dX9_add_57 : decode cX9_add 57 = .ok (.iload_n 2, 1) := by decide +kernel
theorem dX9_add_58 : decode cX9_add 58 = .ok (.iload_n 3, 1) := by decide +kernel
theorem dX9_add_59 : decode cX9_add 59 = .ok (.iload 4, 2) := by decide +kernel
theorem dX9_add_61 : decode cX9_add 61 = .ok (.invokevirtual 39, 3) := by decide +kernel
theorem dX9_add_64 : decode cX9_add 64 = .ok (.aastore, 1) := by decide +kernel
theorem dX9_add_65 : decode cX9_add 65 = .ok (.aload_n 0, 1) := by decide +kernel
theorem dX9_add_66 : decode cX9_add 66 = .ok (.dup, 1) := by decide +kernel
theorem dX9_add_67 : decode cX9_add 67 = .ok (.getfield 22, 3) := by decide +kernel
theorem dX9_add_70 : decode cX9_add 70 = .ok (.iconst 1, 1) := by decide +kernel
theorem dX9_add_71 : decode cX9_add 71 = .ok (.iadd, 1) := by decide +kernel
theorem dX9_add_72 : decode cX9_add 72 = .ok (.putfield 22, 3) := by decide +kernel
theorem dX9_add_75 : decode cX9_add 75 = .ok (.aload_n 0, 1) := by decide +kernel
theorem dX9_add_76 : decode cX9_add 76 = .ok (.getfield 22, 3) := by decide +kernel
theorem dX9_add_79 : decode cX9_add 79 = .ok (.iconst 1, 1) := by decide +kernel
theorem dX9_add_80 : decode cX9_add 80 = .ok (.isub, 1) := by decide +kernel
theorem dX9_add_81 : decode cX9_add 81 = .ok (.ireturn, 1) := by decide +kernel
theorem dX9_read_0 : decode cX9_read 0 = .ok (.aload_n 0, 1) := by decide +kernel
theorem dX9_read_1 : decode cX9_read 1 = .ok (.iload_n 1, 1) := by decide +kernel
theorem dX9_read_2 : decode cX9_read 2 = .ok (.invokevirtual 43, 3) := by decide +kernel
theorem dX9_read_5 : decode cX9_read 5 = .ok (.astore_n 3, 1) := by decide +kernel
theorem dX9_read_6 : decode cX9_read 6 = .ok (.aload_n 3, 1) := by decide +kernel
theorem dX9_read_7 : decode cX9_read 7 = .ok (.ifnonnull 6, 3) := by decide +kernel
theorem dX9_read_10 : decode cX9_read 10 = .ok (.bipush (-101), 2) := by decide +kernel
theorem dX9_read_12 : decode cX9_read 12 = .ok (.ireturn, 1) := by decide +kernel
theorem dX9_read_13 : decode cX9_read 13 = .ok (.iload_n 2, 1) := by decide +kernel
theorem dX9_read_14 : decode cX9_read 14 = .ok (.invokestatic 33, 3) := by decide +kernel
theorem dX9_read_17 : decode cX9_read 17 = .ok (.ifCond .ne 6, 3) := by decide +kernel
theorem dX9_read_20 : decode cX9_read 20 = .ok (.bipush (-102), 2) := by decide +kernel
theorem dX9_read_22 : decode cX9_read 22 = .ok (.ireturn, 1) := by decide +kernel
theorem dX9_read_23 : decode cX9_read 23 = .ok (.aload_n 3, 1) := by decide +kernel
theorem dX9_read_24 : decode cX9_read 24 = .ok (.iload_n 2, 1) := by decide +kernel
theorem dX9_read_25 : decode cX9_read 25 = .ok (.invokevirtual 47, 3) := by decide +kernel
theorem dX9_read_28 : decode cX9_read 28 = .ok (.aload_n 3, 1) := by decide +kernel
theorem dX9_read_29 : decode cX9_read 29 = .ok (.getfield 51, 3) := by decide +kernel
theorem dX9_read_32 : decode cX9_read 32 = .ok (.ireturn, 1) := by decide +kernel
theorem dX9_weigh_0 : decode cX9_weigh 0 = .ok (.aload_n 0, 1) := by decide +kernel
theorem dX9_weigh_1 : decode cX9_weigh 1 = .ok (.iload_n 1, 1) := by decide +kernel
theorem dX9_weigh_2 : decode cX9_weigh 2 = .ok (.invokevirtual 43, 3) := by decide +kernel
theorem dX9_weigh_5 : decode cX9_weigh 5 = .ok (.astore_n 3, 1) := by decide +kernel
theorem dX9_weigh_6 : decode cX9_weigh 6 = .ok (.aload_n 3, 1) := by decide +kernel
theorem dX9_weigh_7 : decode cX9_weigh 7 = .ok (.ifnonnull 6, 3) := by decide +kernel
theorem dX9_weigh_10 : decode cX9_weigh 10 = .ok (.bipush (-101), 2) := by decide +kernel
theorem dX9_weigh_12 : decode cX9_weigh 12 = .ok (.ireturn, 1) := by decide +kernel
theorem dX9_weigh_13 : decode cX9_weigh 13 = .ok (.iload_n 2, 1) := by decide +kernel
theorem dX9_weigh_14 : decode cX9_weigh 14 = .ok (.invokestatic 33, 3) := by decide +kernel
theorem dX9_weigh_17 : decode cX9_weigh 17 = .ok (.ifCond .ne 6, 3) := by decide +kernel
theorem dX9_weigh_20 : decode cX9_weigh 20 = .ok (.bipush (-102), 2) := by decide +kernel
theorem dX9_weigh_22 : decode cX9_weigh 22 = .ok (.ireturn, 1) := by decide +kernel
theorem dX9_weigh_23 : decode cX9_weigh 23 = .ok (.aload_n 3, 1) := by decide +kernel
theorem dX9_weigh_24 : decode cX9_weigh 24 = .ok (.iload_n 2, 1) := by decide +kernel
theorem dX9_weigh_25 : decode cX9_weigh 25 = .ok (.invokevirtual 54, 3) := by decide +kernel
theorem dX9_weigh_28 : decode cX9_weigh 28 = .ok (.ireturn, 1) := by decide +kernel
theorem dX9_over_0 : decode cX9_over 0 = .ok (.aload_n 0, 1) := by decide +kernel
theorem dX9_over_1 : decode cX9_over 1 = .ok (.iload_n 1, 1) := by decide +kernel
theorem dX9_over_2 : decode cX9_over 2 = .ok (.invokevirtual 43, 3) := by decide +kernel
theorem dX9_over_5 : decode cX9_over 5 = .ok (.astore_n 2, 1) := by decide +kernel
theorem dX9_over_6 : decode cX9_over 6 = .ok (.aload_n 2, 1) := by decide +kernel
theorem dX9_over_7 : decode cX9_over 7 = .ok (.ifnonnull 6, 3) := by decide +kernel
theorem dX9_over_10 : decode cX9_over 10 = .ok (.bipush (-101), 2) := by decide +kernel
theorem dX9_over_12 : decode cX9_over 12 = .ok (.ireturn, 1) := by decide +kernel
theorem dX9_over_13 : decode cX9_over 13 = .ok (.aload_n 2, 1) := by decide +kernel
theorem dX9_over_14 : decode cX9_over 14 = .ok (.invokevirtual 58, 3) := by decide +kernel
theorem dX9_over_17 : decode cX9_over 17 = .ok (.ifCond .eq 7, 3) := by decide +kernel
theorem dX9_over_20 : decode cX9_over 20 = .ok (.iconst 1, 1) := by decide +kernel
theorem dX9_over_21 : decode cX9_over 21 = .ok (.goto 4, 3) := by decide +kernel
theorem dX9_over_24 : decode cX9_over 24 = .ok (.iconst 0, 1) := by decide +kernel
theorem dX9_over_25 : decode cX9_over 25 = .ok (.ireturn, 1) := by decide +kernel
theorem dX9_clear_0 : decode cX9_clear 0 = .ok (.aload_n 0, 1) := by decide +kernel
theorem dX9_clear_1 : decode cX9_clear 1 = .ok (.iload_n 1, 1) := by decide +kernel
theorem dX9_clear_2 : decode cX9_clear 2 = .ok (.invokevirtual 43, 3) := by decide +kernel
theorem dX9_clear_5 : decode cX9_clear 5 = .ok (.astore_n 2, 1) := by decide +kernel
theorem dX9_clear_6 : decode cX9_clear 6 = .ok (.aload_n 2, 1) := by decide +kernel
theorem dX9_clear_7 : decode cX9_clear 7 = .ok (.ifnonnull 6, 3) := by decide +kernel
theorem dX9_clear_10 : decode cX9_clear 10 = .ok (.bipush (-101), 2) := by decide +kernel
theorem dX9_clear_12 : decode cX9_clear 12 = .ok (.ireturn, 1) := by decide +kernel
theorem dX9_clear_13 : decode cX9_clear 13 = .ok (.aload_n 2, 1) := by decide +kernel
theorem dX9_clear_14 : decode cX9_clear 14 = .ok (.invokevirtual 62, 3) := by decide +kernel
theorem dX9_clear_17 : decode cX9_clear 17 = .ok (.iconst 1, 1) := by decide +kernel
theorem dX9_clear_18 : decode cX9_clear 18 = .ok (.ireturn, 1) := by decide +kernel
theorem dX9_cost_0 : decode cX9_cost 0 = .ok (.aload_n 0, 1) := by decide +kernel
theorem dX9_cost_1 : decode cX9_cost 1 = .ok (.iload_n 1, 1) := by decide +kernel
theorem dX9_cost_2 : decode cX9_cost 2 = .ok (.invokevirtual 43, 3) := by decide +kernel
theorem dX9_cost_5 : decode cX9_cost 5 = .ok (.astore_n 2, 1) := by decide +kernel
theorem dX9_cost_6 : decode cX9_cost 6 = .ok (.aload_n 2, 1) := by decide +kernel
theorem dX9_cost_7 : decode cX9_cost 7 = .ok (.ifnonnull 6, 3) := by decide +kernel
theorem dX9_cost_10 : decode cX9_cost 10 = .ok (.bipush (-101), 2) := by decide +kernel
theorem dX9_cost_12 : decode cX9_cost 12 = .ok (.ireturn, 1) := by decide +kernel
theorem dX9_cost_13 : decode cX9_cost 13 = .ok (.aload_n 2, 1) := by decide +kernel
theorem dX9_cost_14 : decode cX9_cost 14 = .ok (.invokevirtual 65, 3) := by decide +kernel
theorem dX9_cost_17 : decode cX9_cost 17 = .ok (.ireturn, 1) := by decide +kernel
theorem dX9_tell_0 : decode cX9_tell 0 = .ok (.aload_n 0, 1) := by decide +kernel
theorem dX9_tell_1 : decode cX9_tell 1 = .ok (.iload_n 1, 1) := by decide +kernel
theorem dX9_tell_2 : decode cX9_tell 2 = .ok (.invokevirtual 43, 3) := by decide +kernel
theorem dX9_tell_5 : decode cX9_tell 5 = .ok (.astore_n 3, 1) := by decide +kernel
theorem dX9_tell_6 : decode cX9_tell 6 = .ok (.aload_n 3, 1) := by decide +kernel
theorem dX9_tell_7 : decode cX9_tell 7 = .ok (.ifnonnull 6, 3) := by decide +kernel
theorem dX9_tell_10 : decode cX9_tell 10 = .ok (.bipush (-101), 2) := by decide +kernel
theorem dX9_tell_12 : decode cX9_tell 12 = .ok (.ireturn, 1) := by decide +kernel
theorem dX9_tell_13 : decode cX9_tell 13 = .ok (.iload_n 2, 1) := by decide +kernel
theorem dX9_tell_14 : decode cX9_tell 14 = .ok (.tableswitch 94 0 7 #[46, 51, 56, 61, 66, 71, 76, 81], 46) := by decide +kernel
theorem dX9_tell_60 : decode cX9_tell 60 = .ok (.aload_n 3, 1) := by decide +kernel
theorem dX9_tell_61 : decode cX9_tell 61 = .ok (.getfield 69, 3) := by decide +kernel
theorem dX9_tell_64 : decode cX9_tell 64 = .ok (.ireturn, 1) := by decide +kernel
theorem dX9_tell_65 : decode cX9_tell 65 = .ok (.aload_n 3, 1) := by decide +kernel
theorem dX9_tell_66 : decode cX9_tell 66 = .ok (.getfield 72, 3) := by decide +kernel
theorem dX9_tell_69 : decode cX9_tell 69 = .ok (.ireturn, 1) := by decide +kernel
theorem dX9_tell_70 : decode cX9_tell 70 = .ok (.aload_n 3, 1) := by decide +kernel
theorem dX9_tell_71 : decode cX9_tell 71 = .ok (.getfield 75, 3) := by decide +kernel
theorem dX9_tell_74 : decode cX9_tell 74 = .ok (.ireturn, 1) := by decide +kernel
theorem dX9_tell_75 : decode cX9_tell 75 = .ok (.aload_n 3, 1) := by decide +kernel
theorem dX9_tell_76 : decode cX9_tell 76 = .ok (.getfield 78, 3) := by decide +kernel
theorem dX9_tell_79 : decode cX9_tell 79 = .ok (.ireturn, 1) := by decide +kernel
theorem dX9_tell_80 : decode cX9_tell 80 = .ok (.aload_n 3, 1) := by decide +kernel
theorem dX9_tell_81 : decode cX9_tell 81 = .ok (.getfield 51, 3) := by decide +kernel
theorem dX9_tell_84 : decode cX9_tell 84 = .ok (.ireturn, 1) := by decide +kernel
theorem dX9_tell_85 : decode cX9_tell 85 = .ok (.aload_n 3, 1) := by decide +kernel
theorem dX9_tell_86 : decode cX9_tell 86 = .ok (.getfield 81, 3) := by decide +kernel
theorem dX9_tell_89 : decode cX9_tell 89 = .ok (.ireturn, 1) := by decide +kernel
theorem dX9_tell_90 : decode cX9_tell 90 = .ok (.aload_n 3, 1) := by decide +kernel
theorem dX9_tell_91 : decode cX9_tell 91 = .ok (.getfield 84, 3) := by decide +kernel
theorem dX9_tell_94 : decode cX9_tell 94 = .ok (.ireturn, 1) := by decide +kernel
theorem dX9_tell_95 : decode cX9_tell 95 = .ok (.aload_n 3, 1) := by decide +kernel
theorem dX9_tell_96 : decode cX9_tell 96 = .ok (.getfield 87, 3) := by decide +kernel
theorem dX9_tell_99 : decode cX9_tell 99 = .ok (.ifCond .eq 7, 3) := by decide +kernel
theorem dX9_tell_102 : decode cX9_tell 102 = .ok (.iconst 1, 1) := by decide +kernel
theorem dX9_tell_103 : decode cX9_tell 103 = .ok (.goto 4, 3) := by decide +kernel
theorem dX9_tell_106 : decode cX9_tell 106 = .ok (.iconst 0, 1) := by decide +kernel
theorem dX9_tell_107 : decode cX9_tell 107 = .ok (.ireturn, 1) := by decide +kernel
theorem dX9_tell_108 : decode cX9_tell 108 = .ok (.bipush (-102), 2) := by decide +kernel
theorem dX9_tell_110 : decode cX9_tell 110 = .ok (.ireturn, 1) := by decide +kernel
theorem dX9_sweep_0 : decode cX9_sweep 0 = .ok (.iload_n 1, 1) := by decide +kernel
theorem dX9_sweep_1 : decode cX9_sweep 1 = .ok (.invokestatic 30, 3) := by decide +kernel
theorem dX9_sweep_4 : decode cX9_sweep 4 = .ok (.ifCond .eq 10, 3) := by decide +kernel
theorem dX9_sweep_7 : decode cX9_sweep 7 = .ok (.iload_n 2, 1) := by decide +kernel
theorem dX9_sweep_8 : decode cX9_sweep 8 = .ok (.invokestatic 33, 3) := by decide +kernel
theorem dX9_sweep_11 : decode cX9_sweep 11 = .ok (.ifCond .ne 6, 3) := by decide +kernel
theorem dX9_sweep_14 : decode cX9_sweep 14 = .ok (.bipush (-102), 2) := by decide +kernel
theorem dX9_sweep_16 : decode cX9_sweep 16 = .ok (.ireturn, 1) := by decide +kernel
theorem dX9_sweep_17 : decode cX9_sweep 17 = .ok (.iconst 0, 1) := by decide +kernel
theorem dX9_sweep_18 : decode cX9_sweep 18 = .ok (.istore_n 3, 1) := by decide +kernel
theorem dX9_sweep_19 : decode cX9_sweep 19 = .ok (.iconst 0, 1) := by decide +kernel
theorem dX9_sweep_20 : decode cX9_sweep 20 = .ok (.istore 4, 2) := by decide +kernel
theorem dX9_sweep_22 : decode cX9_sweep 22 = .ok (.iload 4, 2) := by decide +kernel
theorem dX9_sweep_24 : decode cX9_sweep 24 = .ok (.aload_n 0, 1) := by decide +kernel
theorem dX9_sweep_25 : decode cX9_sweep 25 = .ok (.getfield 22, 3) := by decide +kernel
theorem dX9_sweep_28 : decode cX9_sweep 28 = .ok (.if_icmp .ge 45, 3) := by decide +kernel
theorem dX9_sweep_31 : decode cX9_sweep 31 = .ok (.aload_n 0, 1) := by decide +kernel
theorem dX9_sweep_32 : decode cX9_sweep 32 = .ok (.iload_n 1, 1) := by decide +kernel
theorem dX9_sweep_33 : decode cX9_sweep 33 = .ok (.iload 4, 2) := by decide +kernel
theorem dX9_sweep_35 : decode cX9_sweep 35 = .ok (.invokevirtual 91, 3) := by decide +kernel
theorem dX9_sweep_38 : decode cX9_sweep 38 = .ok (.astore 5, 2) := by decide +kernel
theorem dX9_sweep_40 : decode cX9_sweep 40 = .ok (.aload 5, 2) := by decide +kernel
theorem dX9_sweep_42 : decode cX9_sweep 42 = .ok (.ifnull 25, 3) := by decide +kernel
theorem dX9_sweep_45 : decode cX9_sweep 45 = .ok (.aload 5, 2) := by decide +kernel
theorem dX9_sweep_47 : decode cX9_sweep 47 = .ok (.iload_n 2, 1) := by decide +kernel
theorem dX9_sweep_48 : decode cX9_sweep 48 = .ok (.invokevirtual 47, 3) := by decide +kernel
theorem dX9_sweep_51 : decode cX9_sweep 51 = .ok (.goto 16, 3) := by decide +kernel
theorem dX9_sweep_54 : decode cX9_sweep 54 = .ok (.astore 6, 2) := by decide +kernel
theorem dX9_sweep_56 : decode cX9_sweep 56 = .ok (.iinc 3 1, 3) := by decide +kernel
theorem dX9_sweep_59 : decode cX9_sweep 59 = .ok (.goto 8, 3) := by decide +kernel
theorem dX9_sweep_62 : decode cX9_sweep 62 = .ok (.astore 6, 2) := by decide +kernel
theorem dX9_sweep_64 : decode cX9_sweep 64 = .ok (.iinc 3 1, 3) := by decide +kernel
theorem dX9_sweep_67 : decode cX9_sweep 67 = .ok (.iinc 4 1, 3) := by decide +kernel
theorem dX9_sweep_70 : decode cX9_sweep 70 = .ok (.goto (-48), 3) := by decide +kernel
theorem dX9_sweep_73 : decode cX9_sweep 73 = .ok (.iload_n 3, 1) := by decide +kernel
theorem dX9_sweep_74 : decode cX9_sweep 74 = .ok (.ireturn, 1) := by decide +kernel
theorem dX9_alarm_0 : decode cX9_alarm 0 = .ok (.iload_n 1, 1) := by decide +kernel
theorem dX9_alarm_1 : decode cX9_alarm 1 = .ok (.invokestatic 30, 3) := by decide +kernel
theorem dX9_alarm_4 : decode cX9_alarm 4 = .ok (.ifCond .eq 14, 3) := by decide +kernel
theorem dX9_alarm_7 : decode cX9_alarm 7 = .ok (.iload_n 2, 1) := by decide +kernel
theorem dX9_alarm_8 : decode cX9_alarm 8 = .ok (.iconst 1, 1) := by decide +kernel
theorem dX9_alarm_9 : decode cX9_alarm 9 = .ok (.if_icmp .lt 9, 3) := by decide +kernel
theorem dX9_alarm_12 : decode cX9_alarm 12 = .ok (.iload_n 2, 1) := by decide +kernel
theorem dX9_alarm_13 : decode cX9_alarm 13 = .ok (.bipush 60, 2) := by decide +kernel
theorem dX9_alarm_15 : decode cX9_alarm 15 = .ok (.if_icmp .le 6, 3) := by decide +kernel
theorem dX9_alarm_18 : decode cX9_alarm 18 = .ok (.bipush (-102), 2) := by decide +kernel
theorem dX9_alarm_20 : decode cX9_alarm 20 = .ok (.ireturn, 1) := by decide +kernel
theorem dX9_alarm_21 : decode cX9_alarm 21 = .ok (.iconst 0, 1) := by decide +kernel
theorem dX9_alarm_22 : decode cX9_alarm 22 = .ok (.istore_n 3, 1) := by decide +kernel
theorem dX9_alarm_23 : decode cX9_alarm 23 = .ok (.iconst 0, 1) := by decide +kernel
theorem dX9_alarm_24 : decode cX9_alarm 24 = .ok (.istore 4, 2) := by decide +kernel
theorem dX9_alarm_26 : decode cX9_alarm 26 = .ok (.iload 4, 2) := by decide +kernel
theorem dX9_alarm_28 : decode cX9_alarm 28 = .ok (.aload_n 0, 1) := by decide +kernel
theorem dX9_alarm_29 : decode cX9_alarm 29 = .ok (.getfield 22, 3) := by decide +kernel
theorem dX9_alarm_32 : decode cX9_alarm 32 = .ok (.if_icmp .ge 31, 3) := by decide +kernel
theorem dX9_alarm_35 : decode cX9_alarm 35 = .ok (.aload_n 0, 1) := by decide +kernel
theorem dX9_alarm_36 : decode cX9_alarm 36 = .ok (.iload_n 1, 1) := by decide +kernel
theorem dX9_alarm_37 : decode cX9_alarm 37 = .ok (.iload 4, 2) := by decide +kernel
theorem dX9_alarm_39 : decode cX9_alarm 39 = .ok (.invokevirtual 91, 3) := by decide +kernel
theorem dX9_alarm_42 : decode cX9_alarm 42 = .ok (.astore 5, 2) := by decide +kernel
theorem dX9_alarm_44 : decode cX9_alarm 44 = .ok (.aload 5, 2) := by decide +kernel
theorem dX9_alarm_46 : decode cX9_alarm 46 = .ok (.ifnull 11, 3) := by decide +kernel
theorem dX9_alarm_49 : decode cX9_alarm 49 = .ok (.iload_n 3, 1) := by decide +kernel
theorem dX9_alarm_50 : decode cX9_alarm 50 = .ok (.aload 5, 2) := by decide +kernel
theorem dX9_alarm_52 : decode cX9_alarm 52 = .ok (.invokevirtual 99, 3) := by decide +kernel
theorem dX9_alarm_55 : decode cX9_alarm 55 = .ok (.iadd, 1) := by decide +kernel
theorem dX9_alarm_56 : decode cX9_alarm 56 = .ok (.istore_n 3, 1) := by decide +kernel
theorem dX9_alarm_57 : decode cX9_alarm 57 = .ok (.iinc 4 1, 3) := by decide +kernel
theorem dX9_alarm_60 : decode cX9_alarm 60 = .ok (.goto (-34), 3) := by decide +kernel
theorem dX9_alarm_63 : decode cX9_alarm 63 = .ok (.iload_n 3, 1) := by decide +kernel
theorem dX9_alarm_64 : decode cX9_alarm 64 = .ok (.iload_n 2, 1) := by decide +kernel
theorem dX9_alarm_65 : decode cX9_alarm 65 = .ok (.if_icmp .lt 7, 3) := by decide +kernel
theorem dX9_alarm_68 : decode cX9_alarm 68 = .ok (.iconst 1, 1) := by decide +kernel
theorem dX9_alarm_69 : decode cX9_alarm 69 = .ok (.goto 4, 3) := by decide +kernel
theorem dX9_alarm_72 : decode cX9_alarm 72 = .ok (.iconst 0, 1) := by decide +kernel
theorem dX9_alarm_73 : decode cX9_alarm 73 = .ok (.ireturn, 1) := by decide +kernel
theorem dX9_costs_0 : decode cX9_costs 0 = .ok (.iconst 0, 1) := by decide +kernel
theorem dX9_costs_1 : decode cX9_costs 1 = .ok (.istore_n 1, 1) := by decide +kernel
theorem dX9_costs_2 : decode cX9_costs 2 = .ok (.iconst 0, 1) := by decide +kernel
theorem dX9_costs_3 : decode cX9_costs 3 = .ok (.istore_n 2, 1) := by decide +kernel
theorem dX9_costs_4 : decode cX9_costs 4 = .ok (.iload_n 2, 1) := by decide +kernel
theorem dX9_costs_5 : decode cX9_costs 5 = .ok (.aload_n 0, 1) := by decide +kernel
theorem dX9_costs_6 : decode cX9_costs 6 = .ok (.getfield 22, 3) := by decide +kernel
theorem dX9_costs_9 : decode cX9_costs 9 = .ok (.if_icmp .ge 26, 3) := by decide +kernel
theorem dX9_costs_12 : decode cX9_costs 12 = .ok (.aload_n 0, 1) := by decide +kernel
theorem dX9_costs_13 : decode cX9_costs 13 = .ok (.iload_n 2, 1) := by decide +kernel
theorem dX9_costs_14 : decode cX9_costs 14 = .ok (.invokevirtual 43, 3) := by decide +kernel
theorem dX9_costs_17 : decode cX9_costs 17 = .ok (.astore_n 3, 1) := by decide +kernel
theorem dX9_costs_18 : decode cX9_costs 18 = .ok (.aload_n 3, 1) := by decide +kernel
theorem dX9_costs_19 : decode cX9_costs 19 = .ok (.ifnull 10, 3) := by decide +kernel
theorem dX9_costs_22 : decode cX9_costs 22 = .ok (.iload_n 1, 1) := by decide +kernel
theorem dX9_costs_23 : decode cX9_costs 23 = .ok (.aload_n 3, 1) := by decide +kernel
theorem dX9_costs_24 : decode cX9_costs 24 = .ok (.invokevirtual 65, 3) := by decide +kernel
theorem dX9_costs_27 : decode cX9_costs 27 = .ok (.iadd, 1) := by decide +kernel
theorem dX9_costs_28 : decode cX9_costs 28 = .ok (.istore_n 1, 1) := by decide +kernel
theorem dX9_costs_29 : decode cX9_costs 29 = .ok (.iinc 2 1, 3) := by decide +kernel
theorem dX9_costs_32 : decode cX9_costs 32 = .ok (.goto (-28), 3) := by decide +kernel
theorem dX9_costs_35 : decode cX9_costs 35 = .ok (.iload_n 1, 1) := by decide +kernel
theorem dX9_costs_36 : decode cX9_costs 36 = .ok (.ireturn, 1) := by decide +kernel
theorem dX9_trace_0 : decode cX9_trace 0 = .ok (.aload_n 0, 1) := by decide +kernel
theorem dX9_trace_1 : decode cX9_trace 1 = .ok (.getfield 18, 3) := by decide +kernel
theorem dX9_trace_4 : decode cX9_trace 4 = .ok (.iload_n 1, 1) := by decide +kernel
theorem dX9_trace_5 : decode cX9_trace 5 = .ok (.invokevirtual 102, 3) := by decide +kernel
theorem dX9_trace_8 : decode cX9_trace 8 = .ok (.ireturn, 1) := by decide +kernel
theorem dX9_count_0 : decode cX9_count 0 = .ok (.iload_n 1, 1) := by decide +kernel
theorem dX9_count_1 : decode cX9_count 1 = .ok (.tableswitch 60 0 3 #[31, 36, 44, 52], 31) := by decide +kernel
theorem dX9_count_32 : decode cX9_count 32 = .ok (.aload_n 0, 1) := by decide +kernel
theorem dX9_count_33 : decode cX9_count 33 = .ok (.getfield 22, 3) := by decide +kernel
theorem dX9_count_36 : decode cX9_count 36 = .ok (.ireturn, 1) := by decide +kernel
theorem dX9_count_37 : decode cX9_count 37 = .ok (.aload_n 0, 1) := by decide +kernel
theorem dX9_count_38 : decode cX9_count 38 = .ok (.getfield 18, 3) := by decide +kernel
theorem dX9_count_41 : decode cX9_count 41 = .ok (.getfield 105, 3) := by decide +kernel
theorem dX9_count_44 : decode cX9_count 44 = .ok (.ireturn, 1) := by decide +kernel
theorem dX9_count_45 : decode cX9_count 45 = .ok (.aload_n 0, 1) := by decide +kernel
theorem dX9_count_46 : decode cX9_count 46 = .ok (.getfield 18, 3) := by decide +kernel
theorem dX9_count_49 : decode cX9_count 49 = .ok (.getfield 108, 3) := by decide +kernel
theorem dX9_count_52 : decode cX9_count 52 = .ok (.ireturn, 1) := by decide +kernel
theorem dX9_count_53 : decode cX9_count 53 = .ok (.aload_n 0, 1) := by decide +kernel
theorem dX9_count_54 : decode cX9_count 54 = .ok (.getfield 18, 3) := by decide +kernel
theorem dX9_count_57 : decode cX9_count 57 = .ok (.getfield 111, 3) := by decide +kernel
theorem dX9_count_60 : decode cX9_count 60 = .ok (.ireturn, 1) := by decide +kernel
theorem dX9_count_61 : decode cX9_count 61 = .ok (.bipush (-102), 2) := by decide +kernel
theorem dX9_count_63 : decode cX9_count 63 = .ok (.ireturn, 1) := by decide +kernel
theorem dX9_find_0 : decode cX9_find 0 = .ok (.iload_n 1, 1) := by decide +kernel
theorem dX9_find_1 : decode cX9_find 1 = .ok (.ifCond .lt 20, 3) := by decide +kernel
theorem dX9_find_4 : decode cX9_find 4 = .ok (.iload_n 1, 1) := by decide +kernel
theorem dX9_find_5 : decode cX9_find 5 = .ok (.aload_n 0, 1) := by decide +kernel
theorem dX9_find_6 : decode cX9_find 6 = .ok (.getfield 22, 3) := by decide +kernel
theorem dX9_find_9 : decode cX9_find 9 = .ok (.if_icmp .ge 12, 3) := by decide +kernel
theorem dX9_find_12 : decode cX9_find 12 = .ok (.iload_n 1, 1) := by decide +kernel
theorem dX9_find_13 : decode cX9_find 13 = .ok (.aload_n 0, 1) := by decide +kernel
theorem dX9_find_14 : decode cX9_find 14 = .ok (.getfield 11, 3) := by decide +kernel
theorem dX9_find_17 : decode cX9_find 17 = .ok (.arraylength, 1) := by decide +kernel
theorem dX9_find_18 : decode cX9_find 18 = .ok (.if_icmp .lt 5, 3) := by decide +kernel
theorem dX9_find_21 : decode cX9_find 21 = .ok (.aconst_null, 1) := by decide +kernel
theorem dX9_find_22 : decode cX9_find 22 = .ok (.areturn, 1) := by decide +kernel
theorem dX9_find_23 : decode cX9_find 23 = .ok (.aload_n 0, 1) := by decide +kernel
theorem dX9_find_24 : decode cX9_find 24 = .ok (.getfield 11, 3) := by decide +kernel
theorem dX9_find_27 : decode cX9_find 27 = .ok (.iload_n 1, 1) := by decide +kernel
theorem dX9_find_28 : decode cX9_find 28 = .ok (.aaload, 1) := by decide +kernel
theorem dX9_find_29 : decode cX9_find 29 = .ok (.areturn, 1) := by decide +kernel
theorem dX9_findIn_0 : decode cX9_findIn 0 = .ok (.aload_n 0, 1) := by decide +kernel
theorem dX9_findIn_1 : decode cX9_findIn 1 = .ok (.iload_n 2, 1) := by decide +kernel
theorem dX9_findIn_2 : decode cX9_findIn 2 = .ok (.invokevirtual 43, 3) := by decide +kernel
theorem dX9_findIn_5 : decode cX9_findIn 5 = .ok (.astore_n 3, 1) := by decide +kernel
theorem dX9_findIn_6 : decode cX9_findIn 6 = .ok (.aload_n 3, 1) := by decide +kernel
theorem dX9_findIn_7 : decode cX9_findIn 7 = .ok (.ifnull 15, 3) := by decide +kernel
theorem dX9_findIn_10 : decode cX9_findIn 10 = .ok (.aload_n 3, 1) := by decide +kernel
theorem dX9_findIn_11 : decode cX9_findIn 11 = .ok (.getfield 72, 3) := by decide +kernel
theorem dX9_findIn_14 : decode cX9_findIn 14 = .ok (.iload_n 1, 1) := by decide +kernel
theorem dX9_findIn_15 : decode cX9_findIn 15 = .ok (.if_icmp .ne 7, 3) := by decide +kernel
theorem dX9_findIn_18 : decode cX9_findIn 18 = .ok (.aload_n 3, 1) := by decide +kernel
theorem dX9_findIn_19 : decode cX9_findIn 19 = .ok (.goto 4, 3) := by decide +kernel
theorem dX9_findIn_22 : decode cX9_findIn 22 = .ok (.aconst_null, 1) := by decide +kernel
theorem dX9_findIn_23 : decode cX9_findIn 23 = .ok (.areturn, 1) := by decide +kernel
theorem dX9_make_0 : decode cX9_make 0 = .ok (.iload_n 1, 1) := by decide +kernel
theorem dX9_make_1 : decode cX9_make 1 = .ok (.tableswitch 162 1 7 #[43, 60, 77, 94, 111, 128, 145], 43) := by decide +kernel
theorem dX9_make_44 : decode cX9_make 44 = .ok (.new 114, 3) := by decide +kernel
theorem dX9_make_47 : decode cX9_make 47 = .ok (.dup, 1) := by decide +kernel
theorem dX9_make_48 : decode cX9_make 48 = .ok (.aload_n 0, 1) := by decide +kernel
theorem dX9_make_49 : decode cX9_make 49 = .ok (.getfield 18, 3) := by decide +kernel
theorem dX9_make_52 : decode cX9_make 52 = .ok (.iload_n 1, 1) := by decide +kernel
theorem dX9_make_53 : decode cX9_make 53 = .ok (.iload_n 2, 1) := by decide +kernel
theorem dX9_make_54 : decode cX9_make 54 = .ok (.iload_n 3, 1) := by decide +kernel
theorem dX9_make_55 : decode cX9_make 55 = .ok (.iload 4, 2) := by decide +kernel
theorem dX9_make_57 : decode cX9_make 57 = .ok (.invokespecial 116, 3) := by decide +kernel
theorem dX9_make_60 : decode cX9_make 60 = .ok (.areturn, 1) := by decide +kernel
theorem dX9_make_61 : decode cX9_make 61 = .ok (.new 119, 3) := by decide +kernel
theorem dX9_make_64 : decode cX9_make 64 = .ok (.dup, 1) := by decide +kernel
theorem dX9_make_65 : decode cX9_make 65 = .ok (.aload_n 0, 1) := by decide +kernel
theorem dX9_make_66 : decode cX9_make 66 = .ok (.getfield 18, 3) := by decide +kernel
theorem dX9_make_69 : decode cX9_make 69 = .ok (.iload_n 1, 1) := by decide +kernel
theorem dX9_make_70 : decode cX9_make 70 = .ok (.iload_n 2, 1) := by decide +kernel
theorem dX9_make_71 : decode cX9_make 71 = .ok (.iload_n 3, 1) := by decide +kernel
theorem dX9_make_72 : decode cX9_make 72 = .ok (.iload 4, 2) := by decide +kernel
theorem dX9_make_74 : decode cX9_make 74 = .ok (.invokespecial 121, 3) := by decide +kernel
theorem dX9_make_77 : decode cX9_make 77 = .ok (.areturn, 1) := by decide +kernel
theorem dX9_make_78 : decode cX9_make 78 = .ok (.new 122, 3) := by decide +kernel
theorem dX9_make_81 : decode cX9_make 81 = .ok (.dup, 1) := by decide +kernel
theorem dX9_make_82 : decode cX9_make 82 = .ok (.aload_n 0, 1) := by decide +kernel
theorem dX9_make_83 : decode cX9_make 83 = .ok (.getfield 18, 3) := by decide +kernel
theorem dX9_make_86 : decode cX9_make 86 = .ok (.iload_n 1, 1) := by decide +kernel
theorem dX9_make_87 : decode cX9_make 87 = .ok (.iload_n 2, 1) := by decide +kernel
theorem dX9_make_88 : decode cX9_make 88 = .ok (.iload_n 3, 1) := by decide +kernel
theorem dX9_make_89 : decode cX9_make 89 = .ok (.iload 4, 2) := by decide +kernel
theorem dX9_make_91 : decode cX9_make 91 = .ok (.invokespecial 124, 3) := by decide +kernel
theorem dX9_make_94 : decode cX9_make 94 = .ok (.areturn, 1) := by decide +kernel
theorem dX9_make_95 : decode cX9_make 95 = .ok (.new 125, 3) := by decide +kernel
theorem dX9_make_98 : decode cX9_make 98 = .ok (.dup, 1) := by decide +kernel
theorem dX9_make_99 : decode cX9_make 99 = .ok (.aload_n 0, 1) := by decide +kernel
theorem dX9_make_100 : decode cX9_make 100 = .ok (.getfield 18, 3) := by decide +kernel
theorem dX9_make_103 : decode cX9_make 103 = .ok (.iload_n 1, 1) := by decide +kernel
theorem dX9_make_104 : decode cX9_make 104 = .ok (.iload_n 2, 1) := by decide +kernel
theorem dX9_make_105 : decode cX9_make 105 = .ok (.iload_n 3, 1) := by decide +kernel
theorem dX9_make_106 : decode cX9_make 106 = .ok (.iload 4, 2) := by decide +kernel
theorem dX9_make_108 : decode cX9_make 108 = .ok (.invokespecial 127, 3) := by decide +kernel
theorem dX9_make_111 : decode cX9_make 111 = .ok (.areturn, 1) := by decide +kernel
theorem dX9_make_112 : decode cX9_make 112 = .ok (.new 128, 3) := by decide +kernel
theorem dX9_make_115 : decode cX9_make 115 = .ok (.dup, 1) := by decide +kernel
theorem dX9_make_116 : decode cX9_make 116 = .ok (.aload_n 0, 1) := by decide +kernel
theorem dX9_make_117 : decode cX9_make 117 = .ok (.getfield 18, 3) := by decide +kernel
theorem dX9_make_120 : decode cX9_make 120 = .ok (.iload_n 1, 1) := by decide +kernel
theorem dX9_make_121 : decode cX9_make 121 = .ok (.iload_n 2, 1) := by decide +kernel
theorem dX9_make_122 : decode cX9_make 122 = .ok (.iload_n 3, 1) := by decide +kernel
theorem dX9_make_123 : decode cX9_make 123 = .ok (.iload 4, 2) := by decide +kernel
theorem dX9_make_125 : decode cX9_make 125 = .ok (.invokespecial 130, 3) := by decide +kernel
theorem dX9_make_128 : decode cX9_make 128 = .ok (.areturn, 1) := by decide +kernel
theorem dX9_make_129 : decode cX9_make 129 = .ok (.new 131, 3) := by decide +kernel
theorem dX9_make_132 : decode cX9_make 132 = .ok (.dup, 1) := by decide +kernel
theorem dX9_make_133 : decode cX9_make 133 = .ok (.aload_n 0, 1) := by decide +kernel
theorem dX9_make_134 : decode cX9_make 134 = .ok (.getfield 18, 3) := by decide +kernel
theorem dX9_make_137 : decode cX9_make 137 = .ok (.iload_n 1, 1) := by decide +kernel
theorem dX9_make_138 : decode cX9_make 138 = .ok (.iload_n 2, 1) := by decide +kernel
theorem dX9_make_139 : decode cX9_make 139 = .ok (.iload_n 3, 1) := by decide +kernel
theorem dX9_make_140 : decode cX9_make 140 = .ok (.iload 4, 2) := by decide +kernel
theorem dX9_make_142 : decode cX9_make 142 = .ok (.invokespecial 133, 3) := by decide +kernel
theorem dX9_make_145 : decode cX9_make 145 = .ok (.areturn, 1) := by decide +kernel
theorem dX9_make_146 : decode cX9_make 146 = .ok (.new 134, 3) := by decide +kernel
theorem dX9_make_149 : decode cX9_make 149 = .ok (.dup, 1) := by decide +kernel
theorem dX9_make_150 : decode cX9_make 150 = .ok (.aload_n 0, 1) := by decide +kernel
theorem dX9_make_151 : decode cX9_make 151 = .ok (.getfield 18, 3) := by decide +kernel
theorem dX9_make_154 : decode cX9_make 154 = .ok (.iload_n 1, 1) := by decide +kernel
theorem dX9_make_155 : decode cX9_make 155 = .ok (.iload_n 2, 1) := by decide +kernel
theorem dX9_make_156 : decode cX9_make 156 = .ok (.iload_n 3, 1) := by decide +kernel
theorem dX9_make_157 : decode cX9_make 157 = .ok (.iload 4, 2) := by decide +kernel
theorem dX9_make_159 : decode cX9_make 159 = .ok (.invokespecial 136, 3) := by decide +kernel
theorem dX9_make_162 : decode cX9_make 162 = .ok (.areturn, 1) := by decide +kernel
theorem dX9_make_163 : decode cX9_make 163 = .ok (.new 9, 3) := by decide +kernel
theorem dX9_make_166 : decode cX9_make 166 = .ok (.dup, 1) := by decide +kernel
theorem dX9_make_167 : decode cX9_make 167 = .ok (.aload_n 0, 1) := by decide +kernel
theorem dX9_make_168 : decode cX9_make 168 = .ok (.getfield 18, 3) := by decide +kernel
theorem dX9_make_171 : decode cX9_make 171 = .ok (.iload_n 1, 1) := by decide +kernel
theorem dX9_make_172 : decode cX9_make 172 = .ok (.iload_n 2, 1) := by decide +kernel
theorem dX9_make_173 : decode cX9_make 173 = .ok (.iload_n 3, 1) := by decide +kernel
theorem dX9_make_174 : decode cX9_make 174 = .ok (.iload 4, 2) := by decide +kernel
theorem dX9_make_176 : decode cX9_make 176 = .ok (.invokespecial 137, 3) := by decide +kernel
theorem dX9_make_179 : decode cX9_make 179 = .ok (.areturn, 1) := by decide +kernel
theorem dX9_isKind_0 : decode cX9_isKind 0 = .ok (.iload_n 0, 1) := by decide +kernel
theorem dX9_isKind_1 : decode cX9_isKind 1 = .ok (.ifCond .lt 13, 3) := by decide +kernel
theorem dX9_isKind_4 : decode cX9_isKind 4 = .ok (.iload_n 0, 1) := by decide +kernel
theorem dX9_isKind_5 : decode cX9_isKind 5 = .ok (.bipush 7, 2) := by decide +kernel
theorem dX9_isKind_7 : decode cX9_isKind 7 = .ok (.if_icmp .gt 7, 3) := by decide +kernel
theorem dX9_isKind_10 : decode cX9_isKind 10 = .ok (.iconst 1, 1) := by decide +kernel
theorem dX9_isKind_11 : decode cX9_isKind 11 = .ok (.goto 4, 3) := by decide +kernel
theorem dX9_isKind_14 : decode cX9_isKind 14 = .ok (.iconst 0, 1) := by decide +kernel
theorem dX9_isKind_15 : decode cX9_isKind 15 = .ok (.ireturn, 1) := by decide +kernel
theorem dX9_isZone_0 : decode cX9_isZone 0 = .ok (.iload_n 0, 1) := by decide +kernel
theorem dX9_isZone_1 : decode cX9_isZone 1 = .ok (.ifCond .lt 12, 3) := by decide +kernel
theorem dX9_isZone_4 : decode cX9_isZone 4 = .ok (.iload_n 0, 1) := by decide +kernel
theorem dX9_isZone_5 : decode cX9_isZone 5 = .ok (.iconst 5, 1) := by decide +kernel
theorem dX9_isZone_6 : decode cX9_isZone 6 = .ok (.if_icmp .gt 7, 3) := by decide +kernel
theorem dX9_isZone_9 : decode cX9_isZone 9 = .ok (.iconst 1, 1) := by decide +kernel
theorem dX9_isZone_10 : decode cX9_isZone 10 = .ok (.goto 4, 3) := by decide +kernel
theorem dX9_isZone_13 : decode cX9_isZone 13 = .ok (.iconst 0, 1) := by decide +kernel
theorem dX9_isZone_14 : decode cX9_isZone 14 = .ok (.ireturn, 1) := by decide +kernel
theorem dX9_isNear_0 : decode cX9_isNear 0 = .ok (.iload_n 0, 1) := by decide +kernel
theorem dX9_isNear_1 : decode cX9_isNear 1 = .ok (.sipush (-10000), 3) := by decide +kernel
theorem dX9_isNear_4 : decode cX9_isNear 4 = .ok (.if_icmp .lt 14, 3) := by decide +kernel
theorem dX9_isNear_7 : decode cX9_isNear 7 = .ok (.iload_n 0, 1) := by decide +kernel
theorem dX9_isNear_8 : decode cX9_isNear 8 = .ok (.sipush 10000, 3) := by decide +kernel
theorem dX9_isNear_11 : decode cX9_isNear 11 = .ok (.if_icmp .gt 7, 3) := by decide +kernel
theorem dX9_isNear_14 : decode cX9_isNear 14 = .ok (.iconst 1, 1) := by decide +kernel
theorem dX9_isNear_15 : decode cX9_isNear 15 = .ok (.goto 4, 3) := by decide +kernel
theorem dX9_isNear_18 : decode cX9_isNear 18 = .ok (.iconst 0, 1) := by decide +kernel
theorem dX9_isNear_19 : decode cX9_isNear 19 = .ok (.ireturn, 1) := by decide +kernel
theorem dX9_isCharge_0 : decode cX9_isCharge 0 = .ok (.iload_n 0, 1) := by decide +kernel
theorem dX9_isCharge_1 : decode cX9_isCharge 1 = .ok (.ifCond .lt 13, 3) := by decide +kernel
theorem dX9_isCharge_4 : decode cX9_isCharge 4 = .ok (.iload_n 0, 1) := by decide +kernel
theorem dX9_isCharge_5 : decode cX9_isCharge 5 = .ok (.bipush 100, 2) := by decide +kernel
theorem dX9_isCharge_7 : decode cX9_isCharge 7 = .ok (.if_icmp .gt 7, 3) := by decide +kernel
theorem dX9_isCharge_10 : decode cX9_isCharge 10 = .ok (.iconst 1, 1) := by decide +kernel
theorem dX9_isCharge_11 : decode cX9_isCharge 11 = .ok (.goto 4, 3) := by decide +kernel
theorem dX9_isCharge_14 : decode cX9_isCharge 14 = .ok (.iconst 0, 1) := by decide +kernel
theorem dX9_isCharge_15 : decode cX9_isCharge 15 = .ok (.ireturn, 1) := by decide +kernel
theorem dJ9_abs_0f7a4_0 : decode cJ9_abs_0f7a4 0 = .ok (.iload_n 0, 1) := by decide +kernel
theorem dJ9_abs_0f7a4_1 : decode cJ9_abs_0f7a4 1 = .ok (.ifCond .ge 8, 3) := by decide +kernel
theorem dJ9_abs_0f7a4_4 : decode cJ9_abs_0f7a4 4 = .ok (.iload_n 0, 1) := by decide +kernel
theorem dJ9_abs_0f7a4_5 : decode cJ9_abs_0f7a4 5 = .ok (.ineg, 1) := by decide +kernel
theorem dJ9_abs_0f7a4_6 : decode cJ9_abs_0f7a4 6 = .ok (.goto 4, 3) := by decide +kernel
theorem dJ9_abs_0f7a4_9 : decode cJ9_abs_0f7a4 9 = .ok (.iload_n 0, 1) := by decide +kernel
theorem dJ9_abs_0f7a4_10 : decode cJ9_abs_0f7a4 10 = .ok (.ireturn, 1) := by decide +kernel
end
section
theorem dX10_init_0 : decode cX10_init 0 = .ok (.aload_n 0, 1) := by decide +kernel
theorem dX10_init_1 : decode cX10_init 1 = .ok (.invokespecial 1, 3) := by decide +kernel
theorem dX10_init_4 : decode cX10_init 4 = .ok (.aload_n 0, 1) := by decide +kernel
theorem dX10_init_5 : decode cX10_init 5 = .ok (.bipush 20, 2) := by decide +kernel
theorem dX10_init_7 : decode cX10_init 7 = .ok (.newarray .int, 2) := by decide +kernel
theorem dX10_init_9 : decode cX10_init 9 = .ok (.putfield 7, 3) := by decide +kernel
theorem dX10_init_12 : decode cX10_init 12 = .ok (.aload_n 0, 1) := by decide +kernel
theorem dX10_init_13 : decode cX10_init 13 = .ok (.bipush 20, 2) := by decide +kernel
theorem dX10_init_15 : decode cX10_init 15 = .ok (.newarray .int, 2) := by decide +kernel
theorem dX10_init_17 : decode cX10_init 17 = .ok (.putfield 13, 3) := by decide +kernel
theorem dX10_init_20 : decode cX10_init 20 = .ok (.aload_n 0, 1) := by decide +kernel
theorem dX10_init_21 : decode cX10_init 21 = .ok (.bipush 20, 2) := by decide +kernel
theorem dX10_init_23 : decode cX10_init 23 = .ok (.newarray .int, 2) := by decide +kernel
theorem dX10_init_25 : decode cX10_init 25 = .ok (.putfield 16, 3) := by decide +kernel
theorem dX10_init_28 : decode cX10_init 28 = .ok (.aload_n 0, 1) := by decide +kernel
theorem dX10_init_29 : decode cX10_init 29 = .ok (.bipush 20, 2) := by decide +kernel
theorem dX10_init_31 : decode cX10_init 31 = .ok (.newarray .int, 2) := by decide +kernel
theorem dX10_init_33 : decode cX10_init 33 = .ok (.putfield 19, 3) := by decide +kernel
theorem dX10_init_36 : decode cX10_init 36 = .ok (.aload_n 0, 1) := by decide +kernel
theorem dX10_init_37 : decode cX10_init 37 = .ok (.bipush 20, 2) := by decide +kernel
theorem dX10_init_39 : decode cX10_init 39 = .ok (.newarray .int, 2) := by decide +kernel
theorem dX10_init_41 : decode cX10_init 41 = .ok (.putfield 22, 3) := by decide +kernel
theorem dX10_init_44 : decode cX10_init 44 = .ok (.aload_n 0, 1) := by decide +kernel
theorem dX10_init_45 : decode cX10_init 45 = .ok (.bipush 20, 2) := by decide +kernel
theorem dX10_init_47 : decode cX10_init 47 = .ok (.newarray .int, 2) := by decide +kernel
theorem dX10_init_49 : decode cX10_init 49 = .ok (.putfield 25, 3) := by decide +kernel
theorem dX10_init_52 : decode cX10_init 52 = .ok (.aload_n 0, 1) := by decide +kernel
theorem dX10_init_53 : decode cX10_init 53 = .ok (.bipush 20, 2) := by decide +kernel
theorem dX10_init_55 : decode cX10_init 55 = .ok (.newarray .int, 2) := by decide +kernel
theorem dX10_init_57 : decode cX10_init 57 = .ok (.putfield 28, 3) := by decide +kernel
theorem dX10_init_60 : decode cX10_init 60 = .ok (.aload_n 0, 1) := by decide +kernel
theorem dX10_init_61 : decode cX10_init 61 = .ok (.bipush 20, 2) := by decide +kernel
theorem dX10_init_63 : decode cX10_init 63 = .ok (.newarray .boolean, 2) := by decide +kernel
theorem dX10_init_65 : decode cX10_init 65 = .ok (.putfield 31, 3) := by decide +kernel
theorem dX10_init_68 : decode cX10_init 68 = .ok (.aload_n 0, 1) := by decide +kernel
theorem dX10_init_69 : decode cX10_init 69 = .ok (.sipush 200, 3) := by decide +kernel
theorem dX10_init_72 : decode cX10_init 72 = .ok (.newarray .int, 2) := by decide +kernel
theorem dX10_init_74 : decode cX10_init 74 = .ok (.putfield 35, 3) := by decide +kernel
theorem dX10_init_77 : decode cX10_init 77 = .ok (.return_, 1) := by decide +kernel
theorem dX10_thrown_0 : decode cX10_thrown 0 = .ok (.aload_n 0, 1) := by decide +kernel
theorem dX10_thrown_1 : decode cX10_thrown 1 = .ok (.getfield 38, 3) := by decide +kernel
theorem dX10_thrown_4 : decode cX10_thrown 4 = .ok (.ireturn, 1) := by decide +kernel
theorem dX10_isIn_0 : decode cX10_isIn 0 = .ok (.iload_n 0, 1) := by decide +kernel
theorem dX10_isIn_1 : decode cX10_isIn 1 = .ok (.iload_n 1, 1) := by decide +kernel
theorem dX10_isIn_2 : decode cX10_isIn 2 = .ok (.if_icmp .lt 12, 3) := by decide +kernel
theorem dX10_isIn_5 : decode cX10_isIn 5 = .ok (.iload_n 0, 1) := by decide +kernel
theorem dX10_isIn_6 : decode cX10_isIn 6 = .ok (.iload_n 2, 1) := by decide +kernel
theorem dX10_isIn_7 : decode cX10_isIn 7 = .ok (.if_icmp .gt 7, 3) := by decide +kernel
theorem dX10_isIn_10 : decode cX10_isIn 10 = .ok (.iconst 1, 1) := by decide +kernel
theorem dX10_isIn_11 : decode cX10_isIn 11 = .ok (.goto 4, 3) := by decide +kernel
theorem dX10_isIn_14 : decode cX10_isIn 14 = .ok (.iconst 0, 1) := by decide +kernel
theorem dX10_isIn_15 : decode cX10_isIn 15 = .ok (.ireturn, 1) := by decide +kernel
theorem dX10_isThere_0 : decode cX10_isThere 0 = .ok (.iload_n 1, 1) := by decide +kernel
theorem dX10_isThere_1 : decode cX10_isThere 1 = .ok (.iconst 0, 1) := by decide +kernel
theorem dX10_isThere_2 : decode cX10_isThere 2 = .ok (.aload_n 0, 1) := by decide +kernel
theorem dX10_isThere_3 : decode cX10_isThere 3 = .ok (.getfield 42, 3) := by decide +kernel
theorem dX10_isThere_6 : decode cX10_isThere 6 = .ok (.iconst 1, 1) := by decide +kernel
theorem dX10_isThere_7 : decode cX10_isThere 7 = .ok (.isub, 1) := by decide +kernel
theorem dX10_isThere_8 : decode cX10_isThere 8 = .ok (.invokestatic 45, 3) := by decide +kernel
theorem dX10_isThere_11 : decode cX10_isThere 11 = .ok (.ireturn, 1) := by decide +kernel
theorem dX10_rule_0 : decode cX10_rule 0 = .ok (.aload_n 0, 1) := by decide +kernel
theorem dX10_rule_1 : decode cX10_rule 1 = .ok (.getfield 35, 3) := by decide +kernel
theorem dX10_rule_4 : decode cX10_rule 4 = .ok (.aload_n 0, 1) := by decide +kernel
theorem dX10_rule_5 : decode cX10_rule 5 = .ok (.getfield 49, 3) := by decide +kernel
theorem dX10_rule_8 : decode cX10_rule 8 = .ok (.sipush 200, 3) := by decide +kernel
theorem dX10_rule_11 : decode cX10_rule 11 = .ok (.irem, 1) := by decide +kernel
theorem dX10_rule_12 : decode cX10_rule 12 = .ok (.bipush 10, 2) := by decide +kernel
theorem dX10_rule_14 : decode cX10_rule 14 = .ok (.iload_n 1, 1) := by decide +kernel
theorem dX10_rule_15 : decode cX10_rule 15 = .ok (.imul, 1) := by decide +kernel
theorem dX10_rule_16 : decode cX10_rule 16 = .ok (.iload_n 2, 1) := by decide +kernel
theorem dX10_rule_17 : decode cX10_rule 17 = .ok (.iadd, 1) := by decide +kernel
theorem dX10_rule_18 : decode cX10_rule 18 = .ok (.iastore, 1) := by decide +kernel
theorem dX10_rule_19 : decode cX10_rule 19 = .ok (.aload_n 0, 1) := by decide +kernel
theorem dX10_rule_20 : decode cX10_rule 20 = .ok (.dup, 1) := by decide +kernel
theorem dX10_rule_21 : decode cX10_rule 21 = .ok (.getfield 49, 3) := by decide +kernel
theorem dX10_rule_24 : decode cX10_rule 24 = .ok (.iconst 1, 1) := by decide +kernel
theorem dX10_rule_25 : decode cX10_rule 25 = .ok (.iadd, 1) := by decide +kernel
theorem dX10_rule_26 : decode cX10_rule 26 = .ok (.putfield 49, 3) := by decide +kernel
theorem dX10_rule_29 : decode cX10_rule 29 = .ok (.return_, 1) := by decide +kernel
theorem dX10_add_0 : decode cX10_add 0 = .ok (.aload_n 0, 1) := by decide +kernel
theorem dX10_add_1 : decode cX10_add 1 = .ok (.iconst 0, 1) := by decide +kernel
theorem dX10_add_2 : decode cX10_add 2 = .ok (.putfield 38, 3) := by decide +kernel
theorem dX10_add_5 : decode cX10_add 5 = .ok (.iload_n 1, 1) := by decide +kernel
theorem dX10_add_6 : decode cX10_add 6 = .ok (.iconst 0, 1) := by decide +kernel
theorem dX10_add_7 : decode cX10_add 7 = .ok (.bipush 7, 2) := by decide +kernel
theorem dX10_add_9 : decode cX10_add 9 = .ok (.invokestatic 45, 3) := by decide +kernel
theorem dX10_add_12 : decode cX10_add 12 = .ok (.ifCond .eq 36, 3) := by decide +kernel
theorem dX10_add_15 : decode cX10_add 15 = .ok (.iload_n 2, 1) := by decide +kernel
theorem dX10_add_16 : decode cX10_add 16 = .ok (.iconst 0, 1) := by decide +kernel
theorem dX10_add_17 : decode cX10_add 17 = .ok (.iconst 5, 1) := by decide +kernel
theorem dX10_add_18 : decode cX10_add 18 = .ok (.invokestatic 45, 3) := by decide +kernel
theorem dX10_add_21 : decode cX10_add 21 = .ok (.ifCond .eq 27, 3) := by decide +kernel
theorem dX10_add_24 : decode cX10_add 24 = .ok (.iload_n 3, 1) := by decide +kernel
theorem dX10_add_25 : decode cX10_add 25 = .ok (.sipush (-10000), 3) := by decide +kernel
theorem dX10_add_28 : decode cX10_add 28 = .ok (.sipush 10000, 3) := by decide +kernel
theorem dX10_add_31 : decode cX10_add 31 = .ok (.invokestatic 45, 3) := by decide +kernel
theorem dX10_add_34 : decode cX10_add 34 = .ok (.ifCond .eq 14, 3) := by decide +kernel
theorem dX10_add_37 : decode cX10_add 37 = .ok (.iload 4, 2) := by decide +kernel
theorem dX10_add_39 : decode cX10_add 39 = .ok (.iconst 0, 1) := by decide +kernel
theorem dX10_add_40 : decode cX10_add 40 = .ok (.bipush 100, 2) := by decide +kernel
theorem dX10_add_42 : decode cX10_add 42 = .ok (.invokestatic 45, 3) := by decide +kernel
theorem dX10_add_45 : decode cX10_add 45 = .ok (.ifCond .ne 6, 3) := by decide +kernel
theorem dX10_add_48 : decode cX10_add 48 = .ok (.bipush (-102), 2) := by decide +kernel
theorem dX10_add_50 : decode cX10_add 50 = .ok (.ireturn, 1) := by decide +kernel
theorem dX10_add_51 : decode cX10_add 51 = .ok (.aload_n 0, 1) := by decide +kernel
theorem dX10_add_52 : decode cX10_add 52 = .ok (.getfield 42, 3) := by decide +kernel
theorem dX10_add_55 : decode cX10_add 55 = .ok (.bipush 20, 2) := by decide +kernel
theorem dX10_add_57 : decode cX10_add 57 = .ok (.if_icmp .ne 6, 3) := by decide +kernel
theorem dX10_add_60 : decode cX10_add 60 = .ok (.bipush (-104), 2) := by decide +kernel
theorem dX10_add_62 : decode cX10_add 62 = .ok (.ireturn, 1) := by decide +kernel
theorem dX10_add_63 : decode cX10_add 63 = .ok (.aload_n 0, 1) := by decide +kernel
theorem dX10_add_64 : decode cX10_add 64 = .ok (.getfield 7, 3) := by decide +kernel
theorem dX10_add_67 : decode cX10_add 67 = .ok (.aload_n 0, 1) := by decide +kernel
theorem dX10_add_68 : decode cX10_add 68 = .ok (.getfield 42, 3) := by decide +kernel
theorem dX10_add_71 : decode cX10_add 71 = .ok (.iload_n 1, 1) := by decide +kernel
theorem dX10_add_72 : decode cX10_add 72 = .ok (.iastore, 1) := by decide +kernel
theorem dX10_add_73 : decode cX10_add 73 = .ok (.aload_n 0, 1) := by decide +kernel
theorem dX10_add_74 : decode cX10_add 74 = .ok (.getfield 13, 3) := by decide +kernel
theorem dX10_add_77 : decode cX10_add 77 = .ok (.aload_n 0, 1) := by decide +kernel
theorem dX10_add_78 : decode cX10_add 78 = .ok (.getfield 42, 3) := by decide +kernel
theorem dX10_add_81 : decode cX10_add 81 = .ok (.iload_n 2, 1) := by decide +kernel
theorem dX10_add_82 : decode cX10_add 82 = .ok (.iastore, 1) := by decide +kernel
theorem dX10_add_83 : decode cX10_add 83 = .ok (.aload_n 0, 1) := by decide +kernel
theorem dX10_add_84 : decode cX10_add 84 = .ok (.getfield 16, 3) := by decide +kernel
theorem dX10_add_87 : decode cX10_add 87 = .ok (.aload_n 0, 1) := by decide +kernel
theorem dX10_add_88 : decode cX10_add 88 = .ok (.getfield 42, 3) := by decide +kernel
theorem dX10_add_91 : decode cX10_add 91 = .ok (.iload_n 3, 1) := by decide +kernel
theorem dX10_add_92 : decode cX10_add 92 = .ok (.iastore, 1) := by decide +kernel
theorem dX10_add_93 : decode cX10_add 93 = .ok (.aload_n 0, 1) := by decide +kernel
theorem dX10_add_94 : decode cX10_add 94 = .ok (.getfield 19, 3) := by decide +kernel
theorem dX10_add_97 : decode cX10_add 97 = .ok (.aload_n 0, 1) := by decide +kernel
theorem dX10_add_98 : decode cX10_add 98 = .ok (.getfield 42, 3) := by decide +kernel
theorem dX10_add_101 : decode cX10_add 101 = .ok (.iload 4, 2) := by decide +kernel
theorem dX10_add_103 : decode cX10_add 103 = .ok (.iastore, 1) := by decide +kernel
theorem dX10_add_104 : decode cX10_add 104 = .ok (.aload_n 0, 1) := by decide +kernel
theorem dX10_add_105 : decode cX10_add 105 = .ok (.getfield 22, 3) := by decide +kernel
theorem dX10_add_108 : decode cX10_add 108 = .ok (.aload_n 0, 1) := by decide +kernel
theorem dX10_add_109 : decode cX10_add 109 = .ok (.getfield 42, 3) := by decide +kernel
theorem dX10_add_112 : decode cX10_add 112 = .ok (.iconst 0, 1) := by decide +kernel
theorem dX10_add_113 : decode cX10_add 113 = .ok (.iastore, 1) := by decide +kernel
theorem dX10_add_114 : decode cX10_add 114 = .ok (.aload_n 0, 1) := by decide +kernel
theorem dX10_add_115 : decode cX10_add 115 = .ok (.getfield 25, 3) := by decide +kernel
theorem dX10_add_118 : decode cX10_add 118 = .ok (.aload_n 0, 1) := by decide +kernel
theorem dX10_add_119 : decode cX10_add 119 = .ok (.getfield 42, 3) := by decide +kernel
theorem dX10_add_122 : decode cX10_add 122 = .ok (.iconst 0, 1) := by decide +kernel
theorem dX10_add_123 : decode cX10_add 123 = .ok (.iastore, 1) := by decide +kernel
theorem dX10_add_124 : decode cX10_add 124 = .ok (.aload_n 0, 1) := by decide +kernel
theorem dX10_add_125 : decode cX10_add 125 = .ok (.getfield 28, 3) := by decide +kernel
theorem dX10_add_128 : decode cX10_add 128 = .ok (.aload_n 0, 1) := by decide +kernel
theorem dX10_add_129 : decode cX10_add 129 = .ok (.getfield 42, 3) := by decide +kernel
theorem dX10_add_132 : decode cX10_add 132 = .ok (.iconst 0, 1) := by decide +kernel
theorem dX10_add_133 : decode cX10_add 133 = .ok (.iastore, 1) := by decide +kernel
theorem dX10_add_134 : decode cX10_add 134 = .ok (.aload_n 0, 1) := by decide +kernel
theorem dX10_add_135 : decode cX10_add 135 = .ok (.getfield 31, 3) := by decide +kernel
theorem dX10_add_138 : decode cX10_add 138 = .ok (.aload_n 0, 1) := by decide +kernel
theorem dX10_add_139 : decode cX10_add 139 = .ok (.getfield 42, 3) := by decide +kernel
theorem dX10_add_142 : decode cX10_add 142 = .ok (.iconst 0, 1) := by decide +kernel
theorem dX10_add_143 : decode cX10_add 143 = .ok (.bastore, 1) := by decide +kernel
theorem dX10_add_144 : decode cX10_add 144 = .ok (.aload_n 0, 1) := by decide +kernel
theorem dX10_add_145 : decode cX10_add 145 = .ok (.dup, 1) := by decide +kernel
theorem dX10_add_146 : decode cX10_add 146 = .ok (.getfield 42, 3) := by decide +kernel
theorem dX10_add_149 : decode cX10_add 149 = .ok (.iconst 1, 1) := by decide +kernel
theorem dX10_add_150 : decode cX10_add 150 = .ok (.iadd, 1) := by decide +kernel
theorem dX10_add_151 : decode cX10_add 151 = .ok (.putfield 42, 3) := by decide +kernel
theorem dX10_add_154 : decode cX10_add 154 = .ok (.aload_n 0, 1) := by decide +kernel
theorem dX10_add_155 : decode cX10_add 155 = .ok (.getfield 42, 3) := by decide +kernel
theorem dX10_add_158 : decode cX10_add 158 = .ok (.iconst 1, 1) := by decide +kernel
theorem dX10_add_159 : decode cX10_add 159 = .ok (.isub, 1) := by decide +kernel
theorem dX10_add_160 : decode cX10_add 160 = .ok (.ireturn, 1) := by decide +kernel
theorem dX10_flat_0 : decode cX10_flat 0 = .ok (.aload_n 0, 1) := by decide +kernel
theorem dX10_flat_1 : decode cX10_flat 1 = .ok (.iconst 1, 1) := by decide +kernel
theorem dX10_flat_2 : decode cX10_flat 2 = .ok (.putfield 52, 3) := by decide +kernel
theorem dX10_flat_5 : decode cX10_flat 5 = .ok (.aload_n 0, 1) := by decide +kernel
theorem dX10_flat_6 : decode cX10_flat 6 = .ok (.dup, 1) := by decide +kernel
theorem dX10_flat_7 : decode cX10_flat 7 = .ok (.getfield 55, 3) := by decide +kernel
theorem dX10_flat_10 : decode cX10_flat 10 = .ok (.iconst 1, 1) := by decide +kernel
theorem dX10_flat_11 : decode cX10_flat 11 = .ok (.iadd, 1) := by decide +kernel
theorem dX10_flat_12 : decode cX10_flat 12 = .ok (.putfield 55, 3) := by decide +kernel
theorem dX10_flat_15 : decode cX10_flat 15 = .ok (.return_, 1) := by decide +kernel
theorem dX10_radio_0 : decode cX10_radio 0 = .ok (.aload_n 0, 1) := by decide +kernel
theorem dX10_radio_1 : decode cX10_radio 1 = .ok (.iconst 0, 1) := by decide +kernel
theorem dX10_radio_2 : decode cX10_radio 2 = .ok (.iconst 2, 1) := by decide +kernel
theorem dX10_radio_3 : decode cX10_radio 3 = .ok (.invokevirtual 58, 3) := by decide +kernel
theorem dX10_radio_6 : decode cX10_radio 6 = .ok (.aload_n 0, 1) := by decide +kernel
theorem dX10_radio_7 : decode cX10_radio 7 = .ok (.getfield 19, 3) := by decide +kernel
theorem dX10_radio_10 : decode cX10_radio 10 = .ok (.iload_n 1, 1) := by decide +kernel
theorem dX10_radio_11 : decode cX10_radio 11 = .ok (.iaload, 1) := by decide +kernel
theorem dX10_radio_12 : decode cX10_radio 12 = .ok (.ifCond .ne 9, 3) := by decide +kernel
theorem dX10_radio_15 : decode cX10_radio 15 = .ok (.aload_n 0, 1) := by decide +kernel
theorem dX10_radio_16 : decode cX10_radio 16 = .ok (.invokevirtual 62, 3) := by decide +kernel
theorem dX10_radio_19 : decode cX10_radio 19 = .ok (.iconst 0, 1) := by decide +kernel
theorem dX10_radio_20 : decode cX10_radio 20 = .ok (.ireturn, 1) := by decide +kernel
theorem dX10_radio_21 : decode cX10_radio 21 = .ok (.aload_n 0, 1) := by decide +kernel
theorem dX10_radio_22 : decode cX10_radio 22 = .ok (.getfield 19, 3) := by decide +kernel
theorem dX10_radio_25 : decode cX10_radio 25 = .ok (.iload_n 1, 1) := by decide +kernel
theorem dX10_radio_26 : decode cX10_radio 26 = .ok (.dup2, 1) := by decide +kernel
theorem dX10_radio_27 : decode cX10_radio 27 = .ok (.iaload, 1) := by decide +kernel
theorem dX10_radio_28 : decode cX10_radio 28 = .ok (.iconst 1, 1) := by decide +kernel
theorem dX10_radio_29 : decode cX10_radio 29 = .ok (.isub, 1) := by decide +kernel
theorem dX10_radio_30 : decode cX10_radio 30 = .ok (.iastore, 1) := by decide +kernel
theorem dX10_radio_31 : decode cX10_radio 31 = .ok (.iconst 1, 1) := by decide +kernel
theorem dX10_radio_32 : decode cX10_radio 32 = .ok (.ireturn, 1) := by decide +kernel
theorem dX10_weighed_0 : decode cX10_weighed 0 = .ok (.aload_n 0, 1) := by decide +kernel
theorem dX10_weighed_1 : decode cX10_weighed 1 = .ok (.getfield 7, 3) := by decide +kernel
theorem dX10_weighed_4 : decode cX10_weighed 4 = .ok (.iload_n 1, 1) := by decide +kernel
theorem dX10_weighed_5 : decode cX10_weighed 5 = .ok (.iaload, 1) := by decide +kernel
theorem dX10_weighed_6 : decode cX10_weighed 6 = .ok (.istore_n 3, 1) := by decide +kernel
theorem dX10_weighed_7 : decode cX10_weighed 7 = .ok (.aload_n 0, 1) := by decide +kernel
theorem dX10_weighed_8 : decode cX10_weighed 8 = .ok (.iconst 0, 1) := by decide +kernel
theorem dX10_weighed_9 : decode cX10_weighed 9 = .ok (.putfield 52, 3) := by decide +kernel
theorem dX10_weighed_12 : decode cX10_weighed 12 = .ok (.iload_n 3, 1) := by decide +kernel
theorem dX10_weighed_13 : decode cX10_weighed 13 = .ok (.iconst 5, 1) := by decide +kernel
theorem dX10_weighed_14 : decode cX10_weighed 14 = .ok (.if_icmp .ne 9, 3) := by decide +kernel
theorem dX10_weighed_17 : decode cX10_weighed 17 = .ok (.aload_n 0, 1) := by decide +kernel
theorem dX10_weighed_18 : decode cX10_weighed 18 = .ok (.iconst 0, 1) := by decide +kernel
theorem dX10_weighed_19 : decode cX10_weighed 19 = .ok (.iconst 5, 1) := by decide +kernel
theorem dX10_weighed_20 : decode cX10_weighed 20 = .ok (.invokevirtual 58, 3) := by decide +kernel
theorem dX10_weighed_23 : decode cX10_weighed 23 = .ok (.iload_n 3, 1) := by decide +kernel
theorem dX10_weighed_24 : decode cX10_weighed 24 = .ok (.iconst 2, 1) := by decide +kernel
theorem dX10_weighed_25 : decode cX10_weighed 25 = .ok (.if_icmp .eq 13, 3) := by decide +kernel
theorem dX10_weighed_28 : decode cX10_weighed 28 = .ok (.iload_n 3, 1) := by decide +kernel
theorem dX10_weighed_29 : decode cX10_weighed 29 = .ok (.iconst 4, 1) := by decide +kernel
theorem dX10_weighed_30 : decode cX10_weighed 30 = .ok (.if_icmp .eq 8, 3) := by decide +kernel
theorem dX10_weighed_33 : decode cX10_weighed 33 = .ok (.iload_n 3, 1) := by decide +kernel
theorem dX10_weighed_34 : decode cX10_weighed 34 = .ok (.iconst 5, 1) := by decide +kernel
theorem dX10_weighed_35 : decode cX10_weighed 35 = .ok (.if_icmp .ne 13, 3) := by decide +kernel
theorem dX10_weighed_38 : decode cX10_weighed 38 = .ok (.aload_n 0, 1) := by decide +kernel
theorem dX10_weighed_39 : decode cX10_weighed 39 = .ok (.iload_n 1, 1) := by decide +kernel
theorem dX10_weighed_40 : decode cX10_weighed 40 = .ok (.invokevirtual 65, 3) := by decide +kernel
theorem dX10_weighed_43 : decode cX10_weighed 43 = .ok (.ifCond .ne 5, 3) := by decide +kernel
theorem dX10_weighed_46 : decode cX10_weighed 46 = .ok (.iconst 0, 1) := by decide +kernel
theorem dX10_weighed_47 : decode cX10_weighed 47 = .ok (.ireturn, 1) := by decide +kernel
theorem dX10_weighed_48 : decode cX10_weighed 48 = .ok (.iload_n 3, 1) := by decide +kernel
theorem dX10_weighed_49 : decode cX10_weighed 49 = .ok (.iconst 3, 1) := by decide +kernel
theorem dX10_weighed_50 : decode cX10_weighed 50 = .ok (.if_icmp .eq 9, 3) := by decide +kernel
theorem dX10_weighed_53 : decode cX10_weighed 53 = .ok (.iload_n 3, 1) := by decide +kernel
theorem dX10_weighed_54 : decode cX10_weighed 54 = .ok (.bipush 7, 2) := by decide +kernel
theorem dX10_weighed_56 : decode cX10_weighed 56 = .ok (.if_icmp .ne 9, 3) := by decide +kernel
theorem dX10_weighed_59 : decode cX10_weighed 59 = .ok (.aload_n 0, 1) := by decide +kernel
theorem dX10_weighed_60 : decode cX10_weighed 60 = .ok (.iconst 0, 1) := by decide +kernel
theorem dX10_weighed_61 : decode cX10_weighed 61 = .ok (.iconst 3, 1) := by decide +kernel
theorem dX10_weighed_62 : decode cX10_weighed 62 = .ok (.invokevirtual 58, 3) := by decide +kernel
theorem dX10_weighed_65 : decode cX10_weighed 65 = .ok (.aload_n 0, 1) := by decide +kernel
theorem dX10_weighed_66 : decode cX10_weighed 66 = .ok (.iconst 0, 1) := by decide +kernel
theorem dX10_weighed_67 : decode cX10_weighed 67 = .ok (.iconst 0, 1) := by decide +kernel
theorem dX10_weighed_68 : decode cX10_weighed 68 = .ok (.invokevirtual 58, 3) := by decide +kernel
theorem dX10_weighed_71 : decode cX10_weighed 71 = .ok (.iload_n 3, 1) := by decide +kernel
theorem dX10_weighed_72 : decode cX10_weighed 72 = .ok (.iconst 3, 1) := by decide +kernel
theorem dX10_weighed_73 : decode cX10_weighed 73 = .ok (.if_icmp .eq 9, 3) := by decide +kernel
theorem dX10_weighed_76 : decode cX10_weighed 76 = .ok (.iload_n 3, 1) := by decide +kernel
theorem dX10_weighed_77 : decode cX10_weighed 77 = .ok (.bipush 7, 2) := by decide +kernel
theorem dX10_weighed_79 : decode cX10_weighed 79 = .ok (.if_icmp .ne 12, 3) := by decide +kernel
theorem dX10_weighed_82 : decode cX10_weighed 82 = .ok (.iload_n 2, 1) := by decide +kernel
theorem dX10_weighed_83 : decode cX10_weighed 83 = .ok (.aload_n 0, 1) := by decide +kernel
theorem dX10_weighed_84 : decode cX10_weighed 84 = .ok (.getfield 28, 3) := by decide +kernel
theorem dX10_weighed_87 : decode cX10_weighed 87 = .ok (.iload_n 1, 1) := by decide +kernel
theorem dX10_weighed_88 : decode cX10_weighed 88 = .ok (.iaload, 1) := by decide +kernel
theorem dX10_weighed_89 : decode cX10_weighed 89 = .ok (.isub, 1) := by decide +kernel
theorem dX10_weighed_90 : decode cX10_weighed 90 = .ok (.ireturn, 1) := by decide +kernel
theorem dX10_weighed_91 : decode cX10_weighed 91 = .ok (.iload_n 3, 1) := by decide +kernel
theorem dX10_weighed_92 : decode cX10_weighed 92 = .ok (.iconst 5, 1) := by decide +kernel
theorem dX10_weighed_93 : decode cX10_weighed 93 = .ok (.if_icmp .eq 5, 3) := by decide +kernel
theorem dX10_weighed_96 : decode cX10_weighed 96 = .ok (.iload_n 2, 1) := by decide +kernel
theorem dX10_weighed_97 : decode cX10_weighed 97 = .ok (.ireturn, 1) := by decide +kernel
theorem dX10_weighed_98 : decode cX10_weighed 98 = .ok (.iload_n 2, 1) := by decide +kernel
theorem dX10_weighed_99 : decode cX10_weighed 99 = .ok (.ifCond .ne 20, 3) := by decide +kernel
theorem dX10_weighed_102 : decode cX10_weighed 102 = .ok (.aload_n 0, 1) := by decide +kernel
theorem dX10_weighed_103 : decode cX10_weighed 103 = .ok (.iconst 2, 1) := by decide +kernel
theorem dX10_weighed_104 : decode cX10_weighed 104 = .ok (.putfield 52, 3) := by decide +kernel
theorem dX10_weighed_107 : decode cX10_weighed 107 = .ok (.aload_n 0, 1) := by decide +kernel
theorem dX10_weighed_108 : decode cX10_weighed 108 = .ok (.dup, 1) := by decide +kernel
theorem dX10_weighed_109 : decode cX10_weighed 109 = .ok (.getfield 69, 3) := by decide +kernel
theorem dX10_weighed_112 : decode cX10_weighed 112 = .ok (.iconst 1, 1) := by decide +kernel
theorem dX10_weighed_113 : decode cX10_weighed 113 = .ok (.iadd, 1) := by decide +kernel
theorem dX10_weighed_114 : decode cX10_weighed 114 = .ok (.putfield 69, 3) := by decide +kernel
theorem dX10_weighed_117 : decode cX10_weighed 117 = .ok (.iconst 0, 1) := by decide +kernel
theorem dX10_weighed_118 : decode cX10_weighed 118 = .ok (.ireturn, 1) := by decide +kernel
theorem dX10_weighed_119 : decode cX10_weighed 119 = .ok (.sipush 1000, 3) := by decide +kernel
theorem dX10_weighed_122 : decode cX10_weighed 122 = .ok (.iload_n 2, 1) := by decide +kernel
theorem dX10_weighed_123 : decode cX10_weighed 123 = .ok (.idiv, 1) := by decide +kernel
theorem dX10_weighed_124 : decode cX10_weighed 124 = .ok (.ireturn, 1) := by decide +kernel
theorem dX10_readPlain_0 : decode cX10_readPlain 0 = .ok (.aload_n 0, 1) := by decide +kernel
theorem dX10_readPlain_1 : decode cX10_readPlain 1 = .ok (.iconst 1, 1) := by decide +kernel
theorem dX10_readPlain_2 : decode cX10_readPlain 2 = .ok (.iconst 0, 1) := by decide +kernel
theorem dX10_readPlain_3 : decode cX10_readPlain 3 = .ok (.invokevirtual 58, 3) := by decide +kernel
theorem dX10_readPlain_6 : decode cX10_readPlain 6 = .ok (.aload_n 0, 1) := by decide +kernel
theorem dX10_readPlain_7 : decode cX10_readPlain 7 = .ok (.iload_n 1, 1) := by decide +kernel
theorem dX10_readPlain_8 : decode cX10_readPlain 8 = .ok (.iload_n 2, 1) := by decide +kernel
theorem dX10_readPlain_9 : decode cX10_readPlain 9 = .ok (.invokevirtual 72, 3) := by decide +kernel
theorem dX10_readPlain_12 : decode cX10_readPlain 12 = .ok (.istore_n 3, 1) := by decide +kernel
theorem dX10_readPlain_13 : decode cX10_readPlain 13 = .ok (.aload_n 0, 1) := by decide +kernel
theorem dX10_readPlain_14 : decode cX10_readPlain 14 = .ok (.getfield 52, 3) := by decide +kernel
theorem dX10_readPlain_17 : decode cX10_readPlain 17 = .ok (.ifCond .ne 31, 3) := by decide +kernel
theorem dX10_readPlain_20 : decode cX10_readPlain 20 = .ok (.aload_n 0, 1) := by decide +kernel
theorem dX10_readPlain_21 : decode cX10_readPlain 21 = .ok (.getfield 22, 3) := by decide +kernel
theorem dX10_readPlain_24 : decode cX10_readPlain 24 = .ok (.iload_n 1, 1) := by decide +kernel
theorem dX10_readPlain_25 : decode cX10_readPlain 25 = .ok (.iconst 3, 1) := by decide +kernel
theorem dX10_readPlain_26 : decode cX10_readPlain 26 = .ok (.aload_n 0, 1) := by decide +kernel
theorem dX10_readPlain_27 : decode cX10_readPlain 27 = .ok (.getfield 22, 3) := by decide +kernel
theorem dX10_readPlain_30 : decode cX10_readPlain 30 = .ok (.iload_n 1, 1) := by decide +kernel
theorem dX10_readPlain_31 : decode cX10_readPlain 31 = .ok (.iaload, 1) := by decide +kernel
theorem dX10_readPlain_32 : decode cX10_readPlain 32 = .ok (.imul, 1) := by decide +kernel
theorem dX10_readPlain_33 : decode cX10_readPlain 33 = .ok (.iload_n 3, 1) := by decide +kernel
theorem dX10_readPlain_34 : decode cX10_readPlain 34 = .ok (.iadd, 1) := by decide +kernel
theorem dX10_readPlain_35 : decode cX10_readPlain 35 = .ok (.iconst 4, 1) := by decide +kernel
theorem dX10_readPlain_36 : decode cX10_readPlain 36 = .ok (.idiv, 1) := by decide +kernel
theorem dX10_readPlain_37 : decode cX10_readPlain 37 = .ok (.iastore, 1) := by decide +kernel
theorem dX10_readPlain_38 : decode cX10_readPlain 38 = .ok (.aload_n 0, 1) := by decide +kernel
theorem dX10_readPlain_39 : decode cX10_readPlain 39 = .ok (.getfield 25, 3) := by decide +kernel
theorem dX10_readPlain_42 : decode cX10_readPlain 42 = .ok (.iload_n 1, 1) := by decide +kernel
theorem dX10_readPlain_43 : decode cX10_readPlain 43 = .ok (.dup2, 1) := by decide +kernel
theorem dX10_readPlain_44 : decode cX10_readPlain 44 = .ok (.iaload, 1) := by decide +kernel
theorem dX10_readPlain_45 : decode cX10_readPlain 45 = .ok (.iconst 1, 1) := by decide +kernel
theorem dX10_readPlain_46 : decode cX10_readPlain 46 = .ok (.iadd, 1) := by decide +kernel
theorem dX10_readPlain_47 : decode cX10_readPlain 47 = .ok (.iastore, 1) := by decide +kernel
theorem dX10_readPlain_48 : decode cX10_readPlain 48 = .ok (.return_, 1) := by decide +kernel
theorem dX10_readSmoke_0 : decode cX10_readSmoke 0 = .ok (.aload_n 0, 1) := by decide +kernel
theorem dX10_readSmoke_1 : decode cX10_readSmoke 1 = .ok (.iconst 1, 1) := by decide +kernel
theorem dX10_readSmoke_2 : decode cX10_readSmoke 2 = .ok (.iconst 3, 1) := by decide +kernel
theorem dX10_readSmoke_3 : decode cX10_readSmoke 3 = .ok (.invokevirtual 58, 3) := by decide +kernel
theorem dX10_readSmoke_6 : decode cX10_readSmoke 6 = .ok (.aload_n 0, 1) := by decide +kernel
theorem dX10_readSmoke_7 : decode cX10_readSmoke 7 = .ok (.iload_n 1, 1) := by decide +kernel
theorem dX10_readSmoke_8 : decode cX10_readSmoke 8 = .ok (.iload_n 2, 1) := by decide +kernel
theorem dX10_readSmoke_9 : decode cX10_readSmoke 9 = .ok (.invokevirtual 76, 3) := by decide +kernel
theorem dX10_readSmoke_12 : decode cX10_readSmoke 12 = .ok (.aload_n 0, 1) := by decide +kernel
theorem dX10_readSmoke_13 : decode cX10_readSmoke 13 = .ok (.getfield 52, 3) := by decide +kernel
theorem dX10_readSmoke_16 : decode cX10_readSmoke 16 = .ok (.ifCond .ne 51, 3) := by decide +kernel
theorem dX10_readSmoke_19 : decode cX10_readSmoke 19 = .ok (.aload_n 0, 1) := by decide +kernel
theorem dX10_readSmoke_20 : decode cX10_readSmoke 20 = .ok (.getfield 28, 3) := by decide +kernel
theorem dX10_readSmoke_23 : decode cX10_readSmoke 23 = .ok (.iload_n 1, 1) := by decide +kernel
theorem dX10_readSmoke_24 : decode cX10_readSmoke 24 = .ok (.dup2, 1) := by decide +kernel
theorem dX10_readSmoke_25 : decode cX10_readSmoke 25 = .ok (.iaload, 1) := by decide +kernel
theorem dX10_readSmoke_26 : decode cX10_readSmoke 26 = .ok (.aload_n 0, 1) := by decide +kernel
theorem dX10_readSmoke_27 : decode cX10_readSmoke 27 = .ok (.getfield 22, 3) := by decide +kernel
theorem dX10_readSmoke_30 : decode cX10_readSmoke 30 = .ok (.iload_n 1, 1) := by decide +kernel
theorem dX10_readSmoke_31 : decode cX10_readSmoke 31 = .ok (.iaload, 1) := by decide +kernel
theorem dX10_readSmoke_32 : decode cX10_readSmoke 32 = .ok (.aload_n 0, 1) := by decide +kernel
theorem dX10_readSmoke_33 : decode cX10_readSmoke 33 = .ok (.getfield 28, 3) := by decide +kernel
theorem dX10_readSmoke_36 : decode cX10_readSmoke 36 = .ok (.iload_n 1, 1) := by decide +kernel
theorem dX10_readSmoke_37 : decode cX10_readSmoke 37 = .ok (.iaload, 1) := by decide +kernel
theorem dX10_readSmoke_38 : decode cX10_readSmoke 38 = .ok (.if_icmp .le 7, 3) := by decide +kernel
theorem dX10_readSmoke_41 : decode cX10_readSmoke 41 = .ok (.iconst 1, 1) := by decide +kernel
theorem dX10_readSmoke_42 : decode cX10_readSmoke 42 = .ok (.goto 23, 3) := by decide +kernel
theorem dX10_readSmoke_45 : decode cX10_readSmoke 45 = .ok (.aload_n 0, 1) := by decide +kernel
theorem dX10_readSmoke_46 : decode cX10_readSmoke 46 = .ok (.getfield 22, 3) := by decide +kernel
theorem dX10_readSmoke_49 : decode cX10_readSmoke 49 = .ok (.iload_n 1, 1) := by decide +kernel
theorem dX10_readSmoke_50 : decode cX10_readSmoke 50 = .ok (.iaload, 1) := by decide +kernel
theorem dX10_readSmoke_51 : decode cX10_readSmoke 51 = .ok (.aload_n 0, 1) := by decide +kernel
theorem dX10_readSmoke_52 : decode cX10_readSmoke 52 = .ok (.getfield 28, 3) := by decide +kernel
theorem dX10_readSmoke_55 : decode cX10_readSmoke 55 = .ok (.iload_n 1, 1) := by decide +kernel
theorem dX10_readSmoke_56 : decode cX10_readSmoke 56 = .ok (.iaload, 1) := by decide +kernel
theorem dX10_readSmoke_57 : decode cX10_readSmoke 57 = .ok (.if_icmp .ge 7, 3) := by decide +kernel
theorem dX10_readSmoke_60 : decode cX10_readSmoke 60 = .ok (.iconst (-1), 1) := by decide +kernel
theorem dX10_readSmoke_61 : decode cX10_readSmoke 61 = .ok (.goto 4, 3) := by decide +kernel
theorem dX10_readSmoke_64 : decode cX10_readSmoke 64 = .ok (.iconst 0, 1) := by decide +kernel
theorem dX10_readSmoke_65 : decode cX10_readSmoke 65 = .ok (.iadd, 1) := by decide +kernel
theorem dX10_readSmoke_66 : decode cX10_readSmoke 66 = .ok (.iastore, 1) := by decide +kernel
theorem dX10_readSmoke_67 : decode cX10_readSmoke 67 = .ok (.return_, 1) := by decide +kernel
theorem dX10_readOf_0 : decode cX10_readOf 0 = .ok (.aload_n 0, 1) := by decide +kernel
theorem dX10_readOf_1 : decode cX10_readOf 1 = .ok (.getfield 7, 3) := by decide +kernel
theorem dX10_readOf_4 : decode cX10_readOf 4 = .ok (.iload_n 1, 1) := by decide +kernel
theorem dX10_readOf_5 : decode cX10_readOf 5 = .ok (.iaload, 1) := by decide +kernel
theorem dX10_readOf_6 : decode cX10_readOf 6 = .ok (.tableswitch 111 3 7 #[34, 43, 111, 111, 81], 34) := by decide +kernel
theorem dX10_readOf_40 : decode cX10_readOf 40 = .ok (.aload_n 0, 1) := by decide +kernel
theorem dX10_readOf_41 : decode cX10_readOf 41 = .ok (.iload_n 1, 1) := by decide +kernel
theorem dX10_readOf_42 : decode cX10_readOf 42 = .ok (.iload_n 2, 1) := by decide +kernel
theorem dX10_readOf_43 : decode cX10_readOf 43 = .ok (.invokevirtual 79, 3) := by decide +kernel
theorem dX10_readOf_46 : decode cX10_readOf 46 = .ok (.goto 77, 3) := by decide +kernel
theorem dX10_readOf_49 : decode cX10_readOf 49 = .ok (.aload_n 0, 1) := by decide +kernel
theorem dX10_readOf_50 : decode cX10_readOf 50 = .ok (.iconst 1, 1) := by decide +kernel
theorem dX10_readOf_51 : decode cX10_readOf 51 = .ok (.iconst 4, 1) := by decide +kernel
theorem dX10_readOf_52 : decode cX10_readOf 52 = .ok (.invokevirtual 58, 3) := by decide +kernel
theorem dX10_readOf_55 : decode cX10_readOf 55 = .ok (.aload_n 0, 1) := by decide +kernel
theorem dX10_readOf_56 : decode cX10_readOf 56 = .ok (.iload_n 1, 1) := by decide +kernel
theorem dX10_readOf_57 : decode cX10_readOf 57 = .ok (.iload_n 2, 1) := by decide +kernel
theorem dX10_readOf_58 : decode cX10_readOf 58 = .ok (.invokevirtual 76, 3) := by decide +kernel
theorem dX10_readOf_61 : decode cX10_readOf 61 = .ok (.aload_n 0, 1) := by decide +kernel
theorem dX10_readOf_62 : decode cX10_readOf 62 = .ok (.getfield 52, 3) := by decide +kernel
theorem dX10_readOf_65 : decode cX10_readOf 65 = .ok (.ifCond .ne 58, 3) := by decide +kernel
theorem dX10_readOf_68 : decode cX10_readOf 68 = .ok (.iload_n 2, 1) := by decide +kernel
theorem dX10_readOf_69 : decode cX10_readOf 69 = .ok (.aload_n 0, 1) := by decide +kernel
theorem dX10_readOf_70 : decode cX10_readOf 70 = .ok (.getfield 22, 3) := by decide +kernel
theorem dX10_readOf_73 : decode cX10_readOf 73 = .ok (.iload_n 1, 1) := by decide +kernel
theorem dX10_readOf_74 : decode cX10_readOf 74 = .ok (.iaload, 1) := by decide +kernel
theorem dX10_readOf_75 : decode cX10_readOf 75 = .ok (.if_icmp .le 48, 3) := by decide +kernel
theorem dX10_readOf_78 : decode cX10_readOf 78 = .ok (.aload_n 0, 1) := by decide +kernel
theorem dX10_readOf_79 : decode cX10_readOf 79 = .ok (.iload_n 1, 1) := by decide +kernel
theorem dX10_readOf_80 : decode cX10_readOf 80 = .ok (.iload_n 2, 1) := by decide +kernel
theorem dX10_readOf_81 : decode cX10_readOf 81 = .ok (.invokevirtual 76, 3) := by decide +kernel
theorem dX10_readOf_84 : decode cX10_readOf 84 = .ok (.goto 39, 3) := by decide +kernel
theorem dX10_readOf_87 : decode cX10_readOf 87 = .ok (.aload_n 0, 1) := by decide +kernel
theorem dX10_readOf_88 : decode cX10_readOf 88 = .ok (.iconst 1, 1) := by decide +kernel
theorem dX10_readOf_89 : decode cX10_readOf 89 = .ok (.bipush 7, 2) := by decide +kernel
theorem dX10_readOf_91 : decode cX10_readOf 91 = .ok (.invokevirtual 58, 3) := by decide +kernel
theorem dX10_readOf_94 : decode cX10_readOf 94 = .ok (.aload_n 0, 1) := by decide +kernel
theorem dX10_readOf_95 : decode cX10_readOf 95 = .ok (.iload_n 1, 1) := by decide +kernel
theorem dX10_readOf_96 : decode cX10_readOf 96 = .ok (.iload_n 2, 1) := by decide +kernel
theorem dX10_readOf_97 : decode cX10_readOf 97 = .ok (.invokevirtual 79, 3) := by decide +kernel
theorem dX10_readOf_100 : decode cX10_readOf 100 = .ok (.aload_n 0, 1) := by decide +kernel
theorem dX10_readOf_101 : decode cX10_readOf 101 = .ok (.getfield 52, 3) := by decide +kernel
theorem dX10_readOf_104 : decode cX10_readOf 104 = .ok (.ifCond .ne 19, 3) := by decide +kernel
theorem dX10_readOf_107 : decode cX10_readOf 107 = .ok (.aload_n 0, 1) := by decide +kernel
theorem dX10_readOf_108 : decode cX10_readOf 108 = .ok (.iload_n 1, 1) := by decide +kernel
theorem dX10_readOf_109 : decode cX10_readOf 109 = .ok (.iload_n 2, 1) := by decide +kernel
theorem dX10_readOf_110 : decode cX10_readOf 110 = .ok (.ineg, 1) := by decide +kernel
theorem dX10_readOf_111 : decode cX10_readOf 111 = .ok (.invokevirtual 79, 3) := by decide +kernel
theorem dX10_readOf_114 : decode cX10_readOf 114 = .ok (.goto 9, 3) := by decide +kernel
theorem dX10_readOf_117 : decode cX10_readOf 117 = .ok (.aload_n 0, 1) := by decide +kernel
theorem dX10_readOf_118 : decode cX10_readOf 118 = .ok (.iload_n 1, 1) := by decide +kernel
theorem dX10_readOf_119 : decode cX10_readOf 119 = .ok (.iload_n 2, 1) := by decide +kernel
theorem dX10_readOf_120 : decode cX10_readOf 120 = .ok (.invokevirtual 76, 3) := by decide +kernel
theorem dX10_readOf_123 : decode cX10_readOf 123 = .ok (.return_, 1) := by decide +kernel
theorem dX10_refused_0 : decode cX10_refused 0 = .ok (.aload_n 0, 1) := by decide +kernel
theorem dX10_refused_1 : decode cX10_refused 1 = .ok (.iload_n 1, 1) := by decide +kernel
theorem dX10_refused_2 : decode cX10_refused 2 = .ok (.invokevirtual 82, 3) := by decide +kernel
theorem dX10_refused_5 : decode cX10_refused 5 = .ok (.ifCond .ne 8, 3) := by decide +kernel
theorem dX10_refused_8 : decode cX10_refused 8 = .ok (.bipush (-101), 2) := by decide +kernel
theorem dX10_refused_10 : decode cX10_refused 10 = .ok (.goto 22, 3) := by decide +kernel
theorem dX10_refused_13 : decode cX10_refused 13 = .ok (.iload_n 2, 1) := by decide +kernel
theorem dX10_refused_14 : decode cX10_refused 14 = .ok (.sipush (-10000), 3) := by decide +kernel
theorem dX10_refused_17 : decode cX10_refused 17 = .ok (.sipush 10000, 3) := by decide +kernel
theorem dX10_refused_20 : decode cX10_refused 20 = .ok (.invokestatic 45, 3) := by decide +kernel
theorem dX10_refused_23 : decode cX10_refused 23 = .ok (.ifCond .ne 8, 3) := by decide +kernel
theorem dX10_refused_26 : decode cX10_refused 26 = .ok (.bipush (-102), 2) := by decide +kernel
theorem dX10_refused_28 : decode cX10_refused 28 = .ok (.goto 4, 3) := by decide +kernel
theorem dX10_refused_31 : decode cX10_refused 31 = .ok (.iconst 0, 1) := by decide +kernel
theorem dX10_refused_32 : decode cX10_refused 32 = .ok (.ireturn, 1) := by decide +kernel
theorem dX10_read_0 : decode cX10_read 0 = .ok (.aload_n 0, 1) := by decide +kernel
theorem dX10_read_1 : decode cX10_read 1 = .ok (.iconst 0, 1) := by decide +kernel
theorem dX10_read_2 : decode cX10_read 2 = .ok (.putfield 38, 3) := by decide +kernel
theorem dX10_read_5 : decode cX10_read 5 = .ok (.aload_n 0, 1) := by decide +kernel
theorem dX10_read_6 : decode cX10_read 6 = .ok (.iload_n 1, 1) := by decide +kernel
theorem dX10_read_7 : decode cX10_read 7 = .ok (.iload_n 2, 1) := by decide +kernel
theorem dX10_read_8 : decode cX10_read 8 = .ok (.invokevirtual 85, 3) := by decide +kernel
theorem dX10_read_11 : decode cX10_read 11 = .ok (.istore_n 3, 1) := by decide +kernel
theorem dX10_read_12 : decode cX10_read 12 = .ok (.iload_n 3, 1) := by decide +kernel
theorem dX10_read_13 : decode cX10_read 13 = .ok (.ifCond .ge 5, 3) := by decide +kernel
theorem dX10_read_16 : decode cX10_read 16 = .ok (.iload_n 3, 1) := by decide +kernel
theorem dX10_read_17 : decode cX10_read 17 = .ok (.ireturn, 1) := by decide +kernel
theorem dX10_read_18 : decode cX10_read 18 = .ok (.aload_n 0, 1) := by decide +kernel
theorem dX10_read_19 : decode cX10_read 19 = .ok (.iload_n 1, 1) := by decide +kernel
theorem dX10_read_20 : decode cX10_read 20 = .ok (.iload_n 2, 1) := by decide +kernel
theorem dX10_read_21 : decode cX10_read 21 = .ok (.invokevirtual 88, 3) := by decide +kernel
theorem dX10_read_24 : decode cX10_read 24 = .ok (.aload_n 0, 1) := by decide +kernel
theorem dX10_read_25 : decode cX10_read 25 = .ok (.aload_n 0, 1) := by decide +kernel
theorem dX10_read_26 : decode cX10_read 26 = .ok (.getfield 52, 3) := by decide +kernel
theorem dX10_read_29 : decode cX10_read 29 = .ok (.putfield 38, 3) := by decide +kernel
theorem dX10_read_32 : decode cX10_read 32 = .ok (.aload_n 0, 1) := by decide +kernel
theorem dX10_read_33 : decode cX10_read 33 = .ok (.getfield 52, 3) := by decide +kernel
theorem dX10_read_36 : decode cX10_read 36 = .ok (.ifCond .le 7, 3) := by decide +kernel
theorem dX10_read_39 : decode cX10_read 39 = .ok (.iconst 0, 1) := by decide +kernel
theorem dX10_read_40 : decode cX10_read 40 = .ok (.goto 9, 3) := by decide +kernel
theorem dX10_read_43 : decode cX10_read 43 = .ok (.aload_n 0, 1) := by decide +kernel
theorem dX10_read_44 : decode cX10_read 44 = .ok (.getfield 22, 3) := by decide +kernel
theorem dX10_read_47 : decode cX10_read 47 = .ok (.iload_n 1, 1) := by decide +kernel
theorem dX10_read_48 : decode cX10_read 48 = .ok (.iaload, 1) := by decide +kernel
theorem dX10_read_49 : decode cX10_read 49 = .ok (.ireturn, 1) := by decide +kernel
theorem dX10_weigh_0 : decode cX10_weigh 0 = .ok (.aload_n 0, 1) := by decide +kernel
theorem dX10_weigh_1 : decode cX10_weigh 1 = .ok (.iconst 0, 1) := by decide +kernel
theorem dX10_weigh_2 : decode cX10_weigh 2 = .ok (.putfield 38, 3) := by decide +kernel
theorem dX10_weigh_5 : decode cX10_weigh 5 = .ok (.aload_n 0, 1) := by decide +kernel
theorem dX10_weigh_6 : decode cX10_weigh 6 = .ok (.iload_n 1, 1) := by decide +kernel
theorem dX10_weigh_7 : decode cX10_weigh 7 = .ok (.iload_n 2, 1) := by decide +kernel
theorem dX10_weigh_8 : decode cX10_weigh 8 = .ok (.invokevirtual 85, 3) := by decide +kernel
theorem dX10_weigh_11 : decode cX10_weigh 11 = .ok (.istore_n 3, 1) := by decide +kernel
theorem dX10_weigh_12 : decode cX10_weigh 12 = .ok (.iload_n 3, 1) := by decide +kernel
theorem dX10_weigh_13 : decode cX10_weigh 13 = .ok (.ifCond .ge 5, 3) := by decide +kernel
theorem dX10_weigh_16 : decode cX10_weigh 16 = .ok (.iload_n 3, 1) := by decide +kernel
theorem dX10_weigh_17 : decode cX10_weigh 17 = .ok (.ireturn, 1) := by decide +kernel
theorem dX10_weigh_18 : decode cX10_weigh 18 = .ok (.aload_n 0, 1) := by decide +kernel
theorem dX10_weigh_19 : decode cX10_weigh 19 = .ok (.iload_n 1, 1) := by decide +kernel
theorem dX10_weigh_20 : decode cX10_weigh 20 = .ok (.iload_n 2, 1) := by decide +kernel
theorem dX10_weigh_21 : decode cX10_weigh 21 = .ok (.invokevirtual 72, 3) := by decide +kernel
theorem dX10_weigh_24 : decode cX10_weigh 24 = .ok (.istore 4, 2) := by decide +kernel
theorem dX10_weigh_26 : decode cX10_weigh 26 = .ok (.aload_n 0, 1) := by decide +kernel
theorem dX10_weigh_27 : decode cX10_weigh 27 = .ok (.aload_n 0, 1) := by decide +kernel
theorem dX10_weigh_28 : decode cX10_weigh 28 = .ok (.getfield 52, 3) := by decide +kernel
theorem dX10_weigh_31 : decode cX10_weigh 31 = .ok (.putfield 38, 3) := by decide +kernel
theorem dX10_weigh_34 : decode cX10_weigh 34 = .ok (.aload_n 0, 1) := by decide +kernel
theorem dX10_weigh_35 : decode cX10_weigh 35 = .ok (.getfield 52, 3) := by decide +kernel
theorem dX10_weigh_38 : decode cX10_weigh 38 = .ok (.ifCond .le 7, 3) := by decide +kernel
theorem dX10_weigh_41 : decode cX10_weigh 41 = .ok (.iconst 0, 1) := by decide +kernel
theorem dX10_weigh_42 : decode cX10_weigh 42 = .ok (.goto 5, 3) := by decide +kernel
theorem dX10_weigh_45 : decode cX10_weigh 45 = .ok (.iload 4, 2) := by decide +kernel
theorem dX10_weigh_47 : decode cX10_weigh 47 = .ok (.ireturn, 1) := by decide +kernel
theorem dX10_overPlain_0 : decode cX10_overPlain 0 = .ok (.aload_n 0, 1) := by decide +kernel
theorem dX10_overPlain_1 : decode cX10_overPlain 1 = .ok (.iconst 2, 1) := by decide +kernel
theorem dX10_overPlain_2 : decode cX10_overPlain 2 = .ok (.iconst 0, 1) := by decide +kernel
theorem dX10_overPlain_3 : decode cX10_overPlain 3 = .ok (.invokevirtual 58, 3) := by decide +kernel
theorem dX10_overPlain_6 : decode cX10_overPlain 6 = .ok (.aload_n 0, 1) := by decide +kernel
theorem dX10_overPlain_7 : decode cX10_overPlain 7 = .ok (.getfield 22, 3) := by decide +kernel
theorem dX10_overPlain_10 : decode cX10_overPlain 10 = .ok (.iload_n 1, 1) := by decide +kernel
theorem dX10_overPlain_11 : decode cX10_overPlain 11 = .ok (.iaload, 1) := by decide +kernel
theorem dX10_overPlain_12 : decode cX10_overPlain 12 = .ok (.aload_n 0, 1) := by decide +kernel
theorem dX10_overPlain_13 : decode cX10_overPlain 13 = .ok (.getfield 16, 3) := by decide +kernel
theorem dX10_overPlain_16 : decode cX10_overPlain 16 = .ok (.iload_n 1, 1) := by decide +kernel
theorem dX10_overPlain_17 : decode cX10_overPlain 17 = .ok (.iaload, 1) := by decide +kernel
theorem dX10_overPlain_18 : decode cX10_overPlain 18 = .ok (.if_icmp .lt 7, 3) := by decide +kernel
theorem dX10_overPlain_21 : decode cX10_overPlain 21 = .ok (.iconst 1, 1) := by decide +kernel
theorem dX10_overPlain_22 : decode cX10_overPlain 22 = .ok (.goto 4, 3) := by decide +kernel
theorem dX10_overPlain_25 : decode cX10_overPlain 25 = .ok (.iconst 0, 1) := by decide +kernel
end
section
theorem dX10_overPlain_26 : decode cX10_overPlain 26 = .ok (.ireturn, 1) := by decide +kernel
theorem dX10_isOver_0 : decode cX10_isOver 0 = .ok (.aload_n 0, 1) := by decide +kernel
theorem dX10_isOver_1 : decode cX10_isOver 1 = .ok (.getfield 7, 3) := by decide +kernel
theorem dX10_isOver_4 : decode cX10_isOver 4 = .ok (.iload_n 1, 1) := by decide +kernel
theorem dX10_isOver_5 : decode cX10_isOver 5 = .ok (.iaload, 1) := by decide +kernel
theorem dX10_isOver_6 : decode cX10_isOver 6 = .ok (.iconst 4, 1) := by decide +kernel
theorem dX10_isOver_7 : decode cX10_isOver 7 = .ok (.if_icmp .ne 35, 3) := by decide +kernel
theorem dX10_isOver_10 : decode cX10_isOver 10 = .ok (.aload_n 0, 1) := by decide +kernel
theorem dX10_isOver_11 : decode cX10_isOver 11 = .ok (.iconst 2, 1) := by decide +kernel
theorem dX10_isOver_12 : decode cX10_isOver 12 = .ok (.iconst 4, 1) := by decide +kernel
theorem dX10_isOver_13 : decode cX10_isOver 13 = .ok (.invokevirtual 58, 3) := by decide +kernel
theorem dX10_isOver_16 : decode cX10_isOver 16 = .ok (.aload_n 0, 1) := by decide +kernel
theorem dX10_isOver_17 : decode cX10_isOver 17 = .ok (.iload_n 1, 1) := by decide +kernel
theorem dX10_isOver_18 : decode cX10_isOver 18 = .ok (.invokevirtual 91, 3) := by decide +kernel
theorem dX10_isOver_21 : decode cX10_isOver 21 = .ok (.istore_n 2, 1) := by decide +kernel
theorem dX10_isOver_22 : decode cX10_isOver 22 = .ok (.iload_n 2, 1) := by decide +kernel
theorem dX10_isOver_23 : decode cX10_isOver 23 = .ok (.ifCond .eq 17, 3) := by decide +kernel
theorem dX10_isOver_26 : decode cX10_isOver 26 = .ok (.aload_n 0, 1) := by decide +kernel
theorem dX10_isOver_27 : decode cX10_isOver 27 = .ok (.getfield 25, 3) := by decide +kernel
theorem dX10_isOver_30 : decode cX10_isOver 30 = .ok (.iload_n 1, 1) := by decide +kernel
theorem dX10_isOver_31 : decode cX10_isOver 31 = .ok (.iaload, 1) := by decide +kernel
theorem dX10_isOver_32 : decode cX10_isOver 32 = .ok (.iconst 3, 1) := by decide +kernel
theorem dX10_isOver_33 : decode cX10_isOver 33 = .ok (.if_icmp .lt 7, 3) := by decide +kernel
theorem dX10_isOver_36 : decode cX10_isOver 36 = .ok (.iconst 1, 1) := by decide +kernel
theorem dX10_isOver_37 : decode cX10_isOver 37 = .ok (.goto 4, 3) := by decide +kernel
theorem dX10_isOver_40 : decode cX10_isOver 40 = .ok (.iconst 0, 1) := by decide +kernel
theorem dX10_isOver_41 : decode cX10_isOver 41 = .ok (.ireturn, 1) := by decide +kernel
theorem dX10_isOver_42 : decode cX10_isOver 42 = .ok (.aload_n 0, 1) := by decide +kernel
theorem dX10_isOver_43 : decode cX10_isOver 43 = .ok (.getfield 7, 3) := by decide +kernel
theorem dX10_isOver_46 : decode cX10_isOver 46 = .ok (.iload_n 1, 1) := by decide +kernel
theorem dX10_isOver_47 : decode cX10_isOver 47 = .ok (.iaload, 1) := by decide +kernel
theorem dX10_isOver_48 : decode cX10_isOver 48 = .ok (.bipush 6, 2) := by decide +kernel
theorem dX10_isOver_50 : decode cX10_isOver 50 = .ok (.if_icmp .ne 45, 3) := by decide +kernel
theorem dX10_isOver_53 : decode cX10_isOver 53 = .ok (.aload_n 0, 1) := by decide +kernel
theorem dX10_isOver_54 : decode cX10_isOver 54 = .ok (.iconst 2, 1) := by decide +kernel
theorem dX10_isOver_55 : decode cX10_isOver 55 = .ok (.bipush 6, 2) := by decide +kernel
theorem dX10_isOver_57 : decode cX10_isOver 57 = .ok (.invokevirtual 58, 3) := by decide +kernel
theorem dX10_isOver_60 : decode cX10_isOver 60 = .ok (.aload_n 0, 1) := by decide +kernel
theorem dX10_isOver_61 : decode cX10_isOver 61 = .ok (.getfield 31, 3) := by decide +kernel
theorem dX10_isOver_64 : decode cX10_isOver 64 = .ok (.iload_n 1, 1) := by decide +kernel
theorem dX10_isOver_65 : decode cX10_isOver 65 = .ok (.aload_n 0, 1) := by decide +kernel
theorem dX10_isOver_66 : decode cX10_isOver 66 = .ok (.getfield 31, 3) := by decide +kernel
theorem dX10_isOver_69 : decode cX10_isOver 69 = .ok (.iload_n 1, 1) := by decide +kernel
theorem dX10_isOver_70 : decode cX10_isOver 70 = .ok (.baload, 1) := by decide +kernel
theorem dX10_isOver_71 : decode cX10_isOver 71 = .ok (.ifCond .ne 11, 3) := by decide +kernel
theorem dX10_isOver_74 : decode cX10_isOver 74 = .ok (.aload_n 0, 1) := by decide +kernel
theorem dX10_isOver_75 : decode cX10_isOver 75 = .ok (.iload_n 1, 1) := by decide +kernel
theorem dX10_isOver_76 : decode cX10_isOver 76 = .ok (.invokevirtual 91, 3) := by decide +kernel
theorem dX10_isOver_79 : decode cX10_isOver 79 = .ok (.ifCond .eq 7, 3) := by decide +kernel
theorem dX10_isOver_82 : decode cX10_isOver 82 = .ok (.iconst 1, 1) := by decide +kernel
theorem dX10_isOver_83 : decode cX10_isOver 83 = .ok (.goto 4, 3) := by decide +kernel
theorem dX10_isOver_86 : decode cX10_isOver 86 = .ok (.iconst 0, 1) := by decide +kernel
theorem dX10_isOver_87 : decode cX10_isOver 87 = .ok (.bastore, 1) := by decide +kernel
theorem dX10_isOver_88 : decode cX10_isOver 88 = .ok (.aload_n 0, 1) := by decide +kernel
theorem dX10_isOver_89 : decode cX10_isOver 89 = .ok (.getfield 31, 3) := by decide +kernel
theorem dX10_isOver_92 : decode cX10_isOver 92 = .ok (.iload_n 1, 1) := by decide +kernel
theorem dX10_isOver_93 : decode cX10_isOver 93 = .ok (.baload, 1) := by decide +kernel
theorem dX10_isOver_94 : decode cX10_isOver 94 = .ok (.ireturn, 1) := by decide +kernel
theorem dX10_isOver_95 : decode cX10_isOver 95 = .ok (.aload_n 0, 1) := by decide +kernel
theorem dX10_isOver_96 : decode cX10_isOver 96 = .ok (.iload_n 1, 1) := by decide +kernel
theorem dX10_isOver_97 : decode cX10_isOver 97 = .ok (.invokevirtual 91, 3) := by decide +kernel
theorem dX10_isOver_100 : decode cX10_isOver 100 = .ok (.ireturn, 1) := by decide +kernel
theorem dX10_over_0 : decode cX10_over 0 = .ok (.aload_n 0, 1) := by decide +kernel
theorem dX10_over_1 : decode cX10_over 1 = .ok (.iconst 0, 1) := by decide +kernel
theorem dX10_over_2 : decode cX10_over 2 = .ok (.putfield 38, 3) := by decide +kernel
theorem dX10_over_5 : decode cX10_over 5 = .ok (.aload_n 0, 1) := by decide +kernel
theorem dX10_over_6 : decode cX10_over 6 = .ok (.iload_n 1, 1) := by decide +kernel
theorem dX10_over_7 : decode cX10_over 7 = .ok (.invokevirtual 82, 3) := by decide +kernel
theorem dX10_over_10 : decode cX10_over 10 = .ok (.ifCond .ne 8, 3) := by decide +kernel
theorem dX10_over_13 : decode cX10_over 13 = .ok (.bipush (-101), 2) := by decide +kernel
theorem dX10_over_15 : decode cX10_over 15 = .ok (.goto 16, 3) := by decide +kernel
theorem dX10_over_18 : decode cX10_over 18 = .ok (.aload_n 0, 1) := by decide +kernel
theorem dX10_over_19 : decode cX10_over 19 = .ok (.iload_n 1, 1) := by decide +kernel
theorem dX10_over_20 : decode cX10_over 20 = .ok (.invokevirtual 94, 3) := by decide +kernel
theorem dX10_over_23 : decode cX10_over 23 = .ok (.ifCond .eq 7, 3) := by decide +kernel
theorem dX10_over_26 : decode cX10_over 26 = .ok (.iconst 1, 1) := by decide +kernel
theorem dX10_over_27 : decode cX10_over 27 = .ok (.goto 4, 3) := by decide +kernel
theorem dX10_over_30 : decode cX10_over 30 = .ok (.iconst 0, 1) := by decide +kernel
theorem dX10_over_31 : decode cX10_over 31 = .ok (.ireturn, 1) := by decide +kernel
theorem dX10_clear_0 : decode cX10_clear 0 = .ok (.aload_n 0, 1) := by decide +kernel
theorem dX10_clear_1 : decode cX10_clear 1 = .ok (.iconst 0, 1) := by decide +kernel
theorem dX10_clear_2 : decode cX10_clear 2 = .ok (.putfield 38, 3) := by decide +kernel
theorem dX10_clear_5 : decode cX10_clear 5 = .ok (.aload_n 0, 1) := by decide +kernel
theorem dX10_clear_6 : decode cX10_clear 6 = .ok (.iload_n 1, 1) := by decide +kernel
theorem dX10_clear_7 : decode cX10_clear 7 = .ok (.invokevirtual 82, 3) := by decide +kernel
theorem dX10_clear_10 : decode cX10_clear 10 = .ok (.ifCond .ne 6, 3) := by decide +kernel
theorem dX10_clear_13 : decode cX10_clear 13 = .ok (.bipush (-101), 2) := by decide +kernel
theorem dX10_clear_15 : decode cX10_clear 15 = .ok (.ireturn, 1) := by decide +kernel
theorem dX10_clear_16 : decode cX10_clear 16 = .ok (.aload_n 0, 1) := by decide +kernel
theorem dX10_clear_17 : decode cX10_clear 17 = .ok (.getfield 7, 3) := by decide +kernel
theorem dX10_clear_20 : decode cX10_clear 20 = .ok (.iload_n 1, 1) := by decide +kernel
theorem dX10_clear_21 : decode cX10_clear 21 = .ok (.iaload, 1) := by decide +kernel
theorem dX10_clear_22 : decode cX10_clear 22 = .ok (.istore_n 2, 1) := by decide +kernel
theorem dX10_clear_23 : decode cX10_clear 23 = .ok (.iload_n 2, 1) := by decide +kernel
theorem dX10_clear_24 : decode cX10_clear 24 = .ok (.iconst 5, 1) := by decide +kernel
theorem dX10_clear_25 : decode cX10_clear 25 = .ok (.if_icmp .eq 15, 3) := by decide +kernel
theorem dX10_clear_28 : decode cX10_clear 28 = .ok (.iload_n 2, 1) := by decide +kernel
theorem dX10_clear_29 : decode cX10_clear 29 = .ok (.bipush 6, 2) := by decide +kernel
theorem dX10_clear_31 : decode cX10_clear 31 = .ok (.if_icmp .eq 9, 3) := by decide +kernel
theorem dX10_clear_34 : decode cX10_clear 34 = .ok (.iload_n 2, 1) := by decide +kernel
theorem dX10_clear_35 : decode cX10_clear 35 = .ok (.bipush 7, 2) := by decide +kernel
theorem dX10_clear_37 : decode cX10_clear 37 = .ok (.if_icmp .ne 9, 3) := by decide +kernel
theorem dX10_clear_40 : decode cX10_clear 40 = .ok (.aload_n 0, 1) := by decide +kernel
theorem dX10_clear_41 : decode cX10_clear 41 = .ok (.iconst 3, 1) := by decide +kernel
theorem dX10_clear_42 : decode cX10_clear 42 = .ok (.iload_n 2, 1) := by decide +kernel
theorem dX10_clear_43 : decode cX10_clear 43 = .ok (.invokevirtual 58, 3) := by decide +kernel
theorem dX10_clear_46 : decode cX10_clear 46 = .ok (.aload_n 0, 1) := by decide +kernel
theorem dX10_clear_47 : decode cX10_clear 47 = .ok (.iconst 3, 1) := by decide +kernel
theorem dX10_clear_48 : decode cX10_clear 48 = .ok (.iconst 0, 1) := by decide +kernel
theorem dX10_clear_49 : decode cX10_clear 49 = .ok (.invokevirtual 58, 3) := by decide +kernel
theorem dX10_clear_52 : decode cX10_clear 52 = .ok (.aload_n 0, 1) := by decide +kernel
theorem dX10_clear_53 : decode cX10_clear 53 = .ok (.getfield 22, 3) := by decide +kernel
theorem dX10_clear_56 : decode cX10_clear 56 = .ok (.iload_n 1, 1) := by decide +kernel
theorem dX10_clear_57 : decode cX10_clear 57 = .ok (.iconst 0, 1) := by decide +kernel
theorem dX10_clear_58 : decode cX10_clear 58 = .ok (.iastore, 1) := by decide +kernel
theorem dX10_clear_59 : decode cX10_clear 59 = .ok (.aload_n 0, 1) := by decide +kernel
theorem dX10_clear_60 : decode cX10_clear 60 = .ok (.getfield 25, 3) := by decide +kernel
theorem dX10_clear_63 : decode cX10_clear 63 = .ok (.iload_n 1, 1) := by decide +kernel
theorem dX10_clear_64 : decode cX10_clear 64 = .ok (.iconst 0, 1) := by decide +kernel
theorem dX10_clear_65 : decode cX10_clear 65 = .ok (.iastore, 1) := by decide +kernel
theorem dX10_clear_66 : decode cX10_clear 66 = .ok (.aload_n 0, 1) := by decide +kernel
theorem dX10_clear_67 : decode cX10_clear 67 = .ok (.getfield 19, 3) := by decide +kernel
theorem dX10_clear_70 : decode cX10_clear 70 = .ok (.iload_n 1, 1) := by decide +kernel
theorem dX10_clear_71 : decode cX10_clear 71 = .ok (.dup2, 1) := by decide +kernel
theorem dX10_clear_72 : decode cX10_clear 72 = .ok (.iaload, 1) := by decide +kernel
theorem dX10_clear_73 : decode cX10_clear 73 = .ok (.iload_n 2, 1) := by decide +kernel
theorem dX10_clear_74 : decode cX10_clear 74 = .ok (.iconst 5, 1) := by decide +kernel
theorem dX10_clear_75 : decode cX10_clear 75 = .ok (.if_icmp .ne 7, 3) := by decide +kernel
theorem dX10_clear_78 : decode cX10_clear 78 = .ok (.iconst 1, 1) := by decide +kernel
theorem dX10_clear_79 : decode cX10_clear 79 = .ok (.goto 4, 3) := by decide +kernel
theorem dX10_clear_82 : decode cX10_clear 82 = .ok (.iconst 0, 1) := by decide +kernel
theorem dX10_clear_83 : decode cX10_clear 83 = .ok (.iadd, 1) := by decide +kernel
theorem dX10_clear_84 : decode cX10_clear 84 = .ok (.iastore, 1) := by decide +kernel
theorem dX10_clear_85 : decode cX10_clear 85 = .ok (.aload_n 0, 1) := by decide +kernel
theorem dX10_clear_86 : decode cX10_clear 86 = .ok (.getfield 31, 3) := by decide +kernel
theorem dX10_clear_89 : decode cX10_clear 89 = .ok (.iload_n 1, 1) := by decide +kernel
theorem dX10_clear_90 : decode cX10_clear 90 = .ok (.aload_n 0, 1) := by decide +kernel
theorem dX10_clear_91 : decode cX10_clear 91 = .ok (.getfield 31, 3) := by decide +kernel
theorem dX10_clear_94 : decode cX10_clear 94 = .ok (.iload_n 1, 1) := by decide +kernel
theorem dX10_clear_95 : decode cX10_clear 95 = .ok (.baload, 1) := by decide +kernel
theorem dX10_clear_96 : decode cX10_clear 96 = .ok (.ifCond .eq 13, 3) := by decide +kernel
theorem dX10_clear_99 : decode cX10_clear 99 = .ok (.iload_n 2, 1) := by decide +kernel
theorem dX10_clear_100 : decode cX10_clear 100 = .ok (.bipush 6, 2) := by decide +kernel
theorem dX10_clear_102 : decode cX10_clear 102 = .ok (.if_icmp .eq 7, 3) := by decide +kernel
theorem dX10_clear_105 : decode cX10_clear 105 = .ok (.iconst 1, 1) := by decide +kernel
theorem dX10_clear_106 : decode cX10_clear 106 = .ok (.goto 4, 3) := by decide +kernel
theorem dX10_clear_109 : decode cX10_clear 109 = .ok (.iconst 0, 1) := by decide +kernel
theorem dX10_clear_110 : decode cX10_clear 110 = .ok (.bastore, 1) := by decide +kernel
theorem dX10_clear_111 : decode cX10_clear 111 = .ok (.aload_n 0, 1) := by decide +kernel
theorem dX10_clear_112 : decode cX10_clear 112 = .ok (.getfield 28, 3) := by decide +kernel
theorem dX10_clear_115 : decode cX10_clear 115 = .ok (.iload_n 1, 1) := by decide +kernel
theorem dX10_clear_116 : decode cX10_clear 116 = .ok (.iload_n 2, 1) := by decide +kernel
theorem dX10_clear_117 : decode cX10_clear 117 = .ok (.bipush 7, 2) := by decide +kernel
theorem dX10_clear_119 : decode cX10_clear 119 = .ok (.if_icmp .ne 7, 3) := by decide +kernel
theorem dX10_clear_122 : decode cX10_clear 122 = .ok (.iconst 0, 1) := by decide +kernel
theorem dX10_clear_123 : decode cX10_clear 123 = .ok (.goto 9, 3) := by decide +kernel
theorem dX10_clear_126 : decode cX10_clear 126 = .ok (.aload_n 0, 1) := by decide +kernel
theorem dX10_clear_127 : decode cX10_clear 127 = .ok (.getfield 28, 3) := by decide +kernel
theorem dX10_clear_130 : decode cX10_clear 130 = .ok (.iload_n 1, 1) := by decide +kernel
theorem dX10_clear_131 : decode cX10_clear 131 = .ok (.iaload, 1) := by decide +kernel
theorem dX10_clear_132 : decode cX10_clear 132 = .ok (.iastore, 1) := by decide +kernel
theorem dX10_clear_133 : decode cX10_clear 133 = .ok (.iconst 1, 1) := by decide +kernel
theorem dX10_clear_134 : decode cX10_clear 134 = .ok (.ireturn, 1) := by decide +kernel
theorem dX10_costOf_0 : decode cX10_costOf 0 = .ok (.aload_n 0, 1) := by decide +kernel
theorem dX10_costOf_1 : decode cX10_costOf 1 = .ok (.getfield 7, 3) := by decide +kernel
theorem dX10_costOf_4 : decode cX10_costOf 4 = .ok (.iload_n 1, 1) := by decide +kernel
theorem dX10_costOf_5 : decode cX10_costOf 5 = .ok (.iaload, 1) := by decide +kernel
theorem dX10_costOf_6 : decode cX10_costOf 6 = .ok (.istore_n 2, 1) := by decide +kernel
theorem dX10_costOf_7 : decode cX10_costOf 7 = .ok (.iload_n 2, 1) := by decide +kernel
theorem dX10_costOf_8 : decode cX10_costOf 8 = .ok (.iconst 2, 1) := by decide +kernel
theorem dX10_costOf_9 : decode cX10_costOf 9 = .ok (.if_icmp .eq 13, 3) := by decide +kernel
theorem dX10_costOf_12 : decode cX10_costOf 12 = .ok (.iload_n 2, 1) := by decide +kernel
theorem dX10_costOf_13 : decode cX10_costOf 13 = .ok (.iconst 4, 1) := by decide +kernel
theorem dX10_costOf_14 : decode cX10_costOf 14 = .ok (.if_icmp .eq 8, 3) := by decide +kernel
theorem dX10_costOf_17 : decode cX10_costOf 17 = .ok (.iload_n 2, 1) := by decide +kernel
theorem dX10_costOf_18 : decode cX10_costOf 18 = .ok (.iconst 5, 1) := by decide +kernel
theorem dX10_costOf_19 : decode cX10_costOf 19 = .ok (.if_icmp .ne 7, 3) := by decide +kernel
theorem dX10_costOf_22 : decode cX10_costOf 22 = .ok (.iconst 1, 1) := by decide +kernel
theorem dX10_costOf_23 : decode cX10_costOf 23 = .ok (.goto 4, 3) := by decide +kernel
theorem dX10_costOf_26 : decode cX10_costOf 26 = .ok (.iconst 0, 1) := by decide +kernel
theorem dX10_costOf_27 : decode cX10_costOf 27 = .ok (.istore_n 3, 1) := by decide +kernel
theorem dX10_costOf_28 : decode cX10_costOf 28 = .ok (.iload_n 3, 1) := by decide +kernel
theorem dX10_costOf_29 : decode cX10_costOf 29 = .ok (.ifCond .eq 12, 3) := by decide +kernel
theorem dX10_costOf_32 : decode cX10_costOf 32 = .ok (.aload_n 0, 1) := by decide +kernel
theorem dX10_costOf_33 : decode cX10_costOf 33 = .ok (.iconst 4, 1) := by decide +kernel
theorem dX10_costOf_34 : decode cX10_costOf 34 = .ok (.iconst 2, 1) := by decide +kernel
theorem dX10_costOf_35 : decode cX10_costOf 35 = .ok (.invokevirtual 58, 3) := by decide +kernel
theorem dX10_costOf_38 : decode cX10_costOf 38 = .ok (.goto 21, 3) := by decide +kernel
theorem dX10_costOf_41 : decode cX10_costOf 41 = .ok (.iload_n 2, 1) := by decide +kernel
theorem dX10_costOf_42 : decode cX10_costOf 42 = .ok (.bipush 6, 2) := by decide +kernel
theorem dX10_costOf_44 : decode cX10_costOf 44 = .ok (.if_icmp .eq 9, 3) := by decide +kernel
theorem dX10_costOf_47 : decode cX10_costOf 47 = .ok (.iload_n 2, 1) := by decide +kernel
theorem dX10_costOf_48 : decode cX10_costOf 48 = .ok (.bipush 7, 2) := by decide +kernel
theorem dX10_costOf_50 : decode cX10_costOf 50 = .ok (.if_icmp .ne 9, 3) := by decide +kernel
theorem dX10_costOf_53 : decode cX10_costOf 53 = .ok (.aload_n 0, 1) := by decide +kernel
theorem dX10_costOf_54 : decode cX10_costOf 54 = .ok (.iconst 4, 1) := by decide +kernel
theorem dX10_costOf_55 : decode cX10_costOf 55 = .ok (.iload_n 2, 1) := by decide +kernel
theorem dX10_costOf_56 : decode cX10_costOf 56 = .ok (.invokevirtual 58, 3) := by decide +kernel
theorem dX10_costOf_59 : decode cX10_costOf 59 = .ok (.aload_n 0, 1) := by decide +kernel
theorem dX10_costOf_60 : decode cX10_costOf 60 = .ok (.iconst 4, 1) := by decide +kernel
theorem dX10_costOf_61 : decode cX10_costOf 61 = .ok (.iconst 0, 1) := by decide +kernel
theorem dX10_costOf_62 : decode cX10_costOf 62 = .ok (.invokevirtual 58, 3) := by decide +kernel
theorem dX10_costOf_65 : decode cX10_costOf 65 = .ok (.bipush 10, 2) := by decide +kernel
theorem dX10_costOf_67 : decode cX10_costOf 67 = .ok (.aload_n 0, 1) := by decide +kernel
theorem dX10_costOf_68 : decode cX10_costOf 68 = .ok (.getfield 25, 3) := by decide +kernel
theorem dX10_costOf_71 : decode cX10_costOf 71 = .ok (.iload_n 1, 1) := by decide +kernel
theorem dX10_costOf_72 : decode cX10_costOf 72 = .ok (.iaload, 1) := by decide +kernel
theorem dX10_costOf_73 : decode cX10_costOf 73 = .ok (.iadd, 1) := by decide +kernel
theorem dX10_costOf_74 : decode cX10_costOf 74 = .ok (.istore 4, 2) := by decide +kernel
theorem dX10_costOf_76 : decode cX10_costOf 76 = .ok (.iload_n 2, 1) := by decide +kernel
theorem dX10_costOf_77 : decode cX10_costOf 77 = .ok (.bipush 7, 2) := by decide +kernel
theorem dX10_costOf_79 : decode cX10_costOf 79 = .ok (.if_icmp .ne 34, 3) := by decide +kernel
theorem dX10_costOf_82 : decode cX10_costOf 82 = .ok (.iload 4, 2) := by decide +kernel
theorem dX10_costOf_84 : decode cX10_costOf 84 = .ok (.iconst 1, 1) := by decide +kernel
theorem dX10_costOf_85 : decode cX10_costOf 85 = .ok (.aload_n 0, 1) := by decide +kernel
theorem dX10_costOf_86 : decode cX10_costOf 86 = .ok (.getfield 28, 3) := by decide +kernel
theorem dX10_costOf_89 : decode cX10_costOf 89 = .ok (.iload_n 1, 1) := by decide +kernel
theorem dX10_costOf_90 : decode cX10_costOf 90 = .ok (.iaload, 1) := by decide +kernel
theorem dX10_costOf_91 : decode cX10_costOf 91 = .ok (.ifCond .ge 13, 3) := by decide +kernel
theorem dX10_costOf_94 : decode cX10_costOf 94 = .ok (.aload_n 0, 1) := by decide +kernel
theorem dX10_costOf_95 : decode cX10_costOf 95 = .ok (.getfield 28, 3) := by decide +kernel
theorem dX10_costOf_98 : decode cX10_costOf 98 = .ok (.iload_n 1, 1) := by decide +kernel
theorem dX10_costOf_99 : decode cX10_costOf 99 = .ok (.iaload, 1) := by decide +kernel
theorem dX10_costOf_100 : decode cX10_costOf 100 = .ok (.ineg, 1) := by decide +kernel
theorem dX10_costOf_101 : decode cX10_costOf 101 = .ok (.goto 9, 3) := by decide +kernel
theorem dX10_costOf_104 : decode cX10_costOf 104 = .ok (.aload_n 0, 1) := by decide +kernel
theorem dX10_costOf_105 : decode cX10_costOf 105 = .ok (.getfield 28, 3) := by decide +kernel
theorem dX10_costOf_108 : decode cX10_costOf 108 = .ok (.iload_n 1, 1) := by decide +kernel
theorem dX10_costOf_109 : decode cX10_costOf 109 = .ok (.iaload, 1) := by decide +kernel
theorem dX10_costOf_110 : decode cX10_costOf 110 = .ok (.iadd, 1) := by decide +kernel
theorem dX10_costOf_111 : decode cX10_costOf 111 = .ok (.imul, 1) := by decide +kernel
theorem dX10_costOf_112 : decode cX10_costOf 112 = .ok (.ireturn, 1) := by decide +kernel
theorem dX10_costOf_113 : decode cX10_costOf 113 = .ok (.iload_n 3, 1) := by decide +kernel
theorem dX10_costOf_114 : decode cX10_costOf 114 = .ok (.ifCond .eq 10, 3) := by decide +kernel
theorem dX10_costOf_117 : decode cX10_costOf 117 = .ok (.iconst 2, 1) := by decide +kernel
theorem dX10_costOf_118 : decode cX10_costOf 118 = .ok (.iload 4, 2) := by decide +kernel
theorem dX10_costOf_120 : decode cX10_costOf 120 = .ok (.imul, 1) := by decide +kernel
theorem dX10_costOf_121 : decode cX10_costOf 121 = .ok (.goto 18, 3) := by decide +kernel
theorem dX10_costOf_124 : decode cX10_costOf 124 = .ok (.iload_n 2, 1) := by decide +kernel
theorem dX10_costOf_125 : decode cX10_costOf 125 = .ok (.bipush 6, 2) := by decide +kernel
theorem dX10_costOf_127 : decode cX10_costOf 127 = .ok (.if_icmp .ne 10, 3) := by decide +kernel
theorem dX10_costOf_130 : decode cX10_costOf 130 = .ok (.iconst 5, 1) := by decide +kernel
theorem dX10_costOf_131 : decode cX10_costOf 131 = .ok (.iload 4, 2) := by decide +kernel
theorem dX10_costOf_133 : decode cX10_costOf 133 = .ok (.iadd, 1) := by decide +kernel
theorem dX10_costOf_134 : decode cX10_costOf 134 = .ok (.goto 5, 3) := by decide +kernel
theorem dX10_costOf_137 : decode cX10_costOf 137 = .ok (.iload 4, 2) := by decide +kernel
theorem dX10_costOf_139 : decode cX10_costOf 139 = .ok (.ireturn, 1) := by decide +kernel
theorem dX10_cost_0 : decode cX10_cost 0 = .ok (.aload_n 0, 1) := by decide +kernel
theorem dX10_cost_1 : decode cX10_cost 1 = .ok (.iconst 0, 1) := by decide +kernel
theorem dX10_cost_2 : decode cX10_cost 2 = .ok (.putfield 38, 3) := by decide +kernel
theorem dX10_cost_5 : decode cX10_cost 5 = .ok (.aload_n 0, 1) := by decide +kernel
theorem dX10_cost_6 : decode cX10_cost 6 = .ok (.iload_n 1, 1) := by decide +kernel
theorem dX10_cost_7 : decode cX10_cost 7 = .ok (.invokevirtual 82, 3) := by decide +kernel
theorem dX10_cost_10 : decode cX10_cost 10 = .ok (.ifCond .ne 8, 3) := by decide +kernel
theorem dX10_cost_13 : decode cX10_cost 13 = .ok (.bipush (-101), 2) := by decide +kernel
theorem dX10_cost_15 : decode cX10_cost 15 = .ok (.goto 8, 3) := by decide +kernel
theorem dX10_cost_18 : decode cX10_cost 18 = .ok (.aload_n 0, 1) := by decide +kernel
theorem dX10_cost_19 : decode cX10_cost 19 = .ok (.iload_n 1, 1) := by decide +kernel
theorem dX10_cost_20 : decode cX10_cost 20 = .ok (.invokevirtual 97, 3) := by decide +kernel
theorem dX10_cost_23 : decode cX10_cost 23 = .ok (.ireturn, 1) := by decide +kernel
theorem dX10_tell_0 : decode cX10_tell 0 = .ok (.aload_n 0, 1) := by decide +kernel
theorem dX10_tell_1 : decode cX10_tell 1 = .ok (.iconst 0, 1) := by decide +kernel
theorem dX10_tell_2 : decode cX10_tell 2 = .ok (.putfield 38, 3) := by decide +kernel
theorem dX10_tell_5 : decode cX10_tell 5 = .ok (.aload_n 0, 1) := by decide +kernel
theorem dX10_tell_6 : decode cX10_tell 6 = .ok (.iload_n 1, 1) := by decide +kernel
theorem dX10_tell_7 : decode cX10_tell 7 = .ok (.invokevirtual 82, 3) := by decide +kernel
theorem dX10_tell_10 : decode cX10_tell 10 = .ok (.ifCond .ne 6, 3) := by decide +kernel
theorem dX10_tell_13 : decode cX10_tell 13 = .ok (.bipush (-101), 2) := by decide +kernel
theorem dX10_tell_15 : decode cX10_tell 15 = .ok (.ireturn, 1) := by decide +kernel
theorem dX10_tell_16 : decode cX10_tell 16 = .ok (.iload_n 2, 1) := by decide +kernel
theorem dX10_tell_17 : decode cX10_tell 17 = .ok (.tableswitch 111 0 7 #[47, 54, 61, 68, 75, 82, 89, 96], 47) := by decide +kernel
theorem dX10_tell_64 : decode cX10_tell 64 = .ok (.aload_n 0, 1) := by decide +kernel
theorem dX10_tell_65 : decode cX10_tell 65 = .ok (.getfield 7, 3) := by decide +kernel
theorem dX10_tell_68 : decode cX10_tell 68 = .ok (.iload_n 1, 1) := by decide +kernel
theorem dX10_tell_69 : decode cX10_tell 69 = .ok (.iaload, 1) := by decide +kernel
theorem dX10_tell_70 : decode cX10_tell 70 = .ok (.ireturn, 1) := by decide +kernel
theorem dX10_tell_71 : decode cX10_tell 71 = .ok (.aload_n 0, 1) := by decide +kernel
theorem dX10_tell_72 : decode cX10_tell 72 = .ok (.getfield 13, 3) := by decide +kernel
theorem dX10_tell_75 : decode cX10_tell 75 = .ok (.iload_n 1, 1) := by decide +kernel
theorem dX10_tell_76 : decode cX10_tell 76 = .ok (.iaload, 1) := by decide +kernel
theorem dX10_tell_77 : decode cX10_tell 77 = .ok (.ireturn, 1) := by decide +kernel
theorem dX10_tell_78 : decode cX10_tell 78 = .ok (.aload_n 0, 1) := by decide +kernel
theorem dX10_tell_79 : decode cX10_tell 79 = .ok (.getfield 16, 3) := by decide +kernel
theorem dX10_tell_82 : decode cX10_tell 82 = .ok (.iload_n 1, 1) := by decide +kernel
theorem dX10_tell_83 : decode cX10_tell 83 = .ok (.iaload, 1) := by decide +kernel
theorem dX10_tell_84 : decode cX10_tell 84 = .ok (.ireturn, 1) := by decide +kernel
theorem dX10_tell_85 : decode cX10_tell 85 = .ok (.aload_n 0, 1) := by decide +kernel
theorem dX10_tell_86 : decode cX10_tell 86 = .ok (.getfield 19, 3) := by decide +kernel
theorem dX10_tell_89 : decode cX10_tell 89 = .ok (.iload_n 1, 1) := by decide +kernel
theorem dX10_tell_90 : decode cX10_tell 90 = .ok (.iaload, 1) := by decide +kernel
theorem dX10_tell_91 : decode cX10_tell 91 = .ok (.ireturn, 1) := by decide +kernel
theorem dX10_tell_92 : decode cX10_tell 92 = .ok (.aload_n 0, 1) := by decide +kernel
theorem dX10_tell_93 : decode cX10_tell 93 = .ok (.getfield 22, 3) := by decide +kernel
theorem dX10_tell_96 : decode cX10_tell 96 = .ok (.iload_n 1, 1) := by decide +kernel
theorem dX10_tell_97 : decode cX10_tell 97 = .ok (.iaload, 1) := by decide +kernel
theorem dX10_tell_98 : decode cX10_tell 98 = .ok (.ireturn, 1) := by decide +kernel
theorem dX10_tell_99 : decode cX10_tell 99 = .ok (.aload_n 0, 1) := by decide +kernel
theorem dX10_tell_100 : decode cX10_tell 100 = .ok (.getfield 25, 3) := by decide +kernel
theorem dX10_tell_103 : decode cX10_tell 103 = .ok (.iload_n 1, 1) := by decide +kernel
theorem dX10_tell_104 : decode cX10_tell 104 = .ok (.iaload, 1) := by decide +kernel
theorem dX10_tell_105 : decode cX10_tell 105 = .ok (.ireturn, 1) := by decide +kernel
theorem dX10_tell_106 : decode cX10_tell 106 = .ok (.aload_n 0, 1) := by decide +kernel
theorem dX10_tell_107 : decode cX10_tell 107 = .ok (.getfield 28, 3) := by decide +kernel
theorem dX10_tell_110 : decode cX10_tell 110 = .ok (.iload_n 1, 1) := by decide +kernel
theorem dX10_tell_111 : decode cX10_tell 111 = .ok (.iaload, 1) := by decide +kernel
theorem dX10_tell_112 : decode cX10_tell 112 = .ok (.ireturn, 1) := by decide +kernel
theorem dX10_tell_113 : decode cX10_tell 113 = .ok (.aload_n 0, 1) := by decide +kernel
theorem dX10_tell_114 : decode cX10_tell 114 = .ok (.getfield 31, 3) := by decide +kernel
theorem dX10_tell_117 : decode cX10_tell 117 = .ok (.iload_n 1, 1) := by decide +kernel
theorem dX10_tell_118 : decode cX10_tell 118 = .ok (.baload, 1) := by decide +kernel
theorem dX10_tell_119 : decode cX10_tell 119 = .ok (.ifCond .eq 7, 3) := by decide +kernel
theorem dX10_tell_122 : decode cX10_tell 122 = .ok (.iconst 1, 1) := by decide +kernel
theorem dX10_tell_123 : decode cX10_tell 123 = .ok (.goto 4, 3) := by decide +kernel
theorem dX10_tell_126 : decode cX10_tell 126 = .ok (.iconst 0, 1) := by decide +kernel
theorem dX10_tell_127 : decode cX10_tell 127 = .ok (.ireturn, 1) := by decide +kernel
theorem dX10_tell_128 : decode cX10_tell 128 = .ok (.bipush (-102), 2) := by decide +kernel
theorem dX10_tell_130 : decode cX10_tell 130 = .ok (.ireturn, 1) := by decide +kernel
theorem dX10_sweep_0 : decode cX10_sweep 0 = .ok (.aload_n 0, 1) := by decide +kernel
theorem dX10_sweep_1 : decode cX10_sweep 1 = .ok (.iconst 0, 1) := by decide +kernel
theorem dX10_sweep_2 : decode cX10_sweep 2 = .ok (.putfield 38, 3) := by decide +kernel
theorem dX10_sweep_5 : decode cX10_sweep 5 = .ok (.iload_n 1, 1) := by decide +kernel
theorem dX10_sweep_6 : decode cX10_sweep 6 = .ok (.iconst 0, 1) := by decide +kernel
theorem dX10_sweep_7 : decode cX10_sweep 7 = .ok (.iconst 5, 1) := by decide +kernel
theorem dX10_sweep_8 : decode cX10_sweep 8 = .ok (.invokestatic 45, 3) := by decide +kernel
theorem dX10_sweep_11 : decode cX10_sweep 11 = .ok (.ifCond .eq 16, 3) := by decide +kernel
theorem dX10_sweep_14 : decode cX10_sweep 14 = .ok (.iload_n 2, 1) := by decide +kernel
theorem dX10_sweep_15 : decode cX10_sweep 15 = .ok (.sipush (-10000), 3) := by decide +kernel
theorem dX10_sweep_18 : decode cX10_sweep 18 = .ok (.sipush 10000, 3) := by decide +kernel
theorem dX10_sweep_21 : decode cX10_sweep 21 = .ok (.invokestatic 45, 3) := by decide +kernel
theorem dX10_sweep_24 : decode cX10_sweep 24 = .ok (.ifCond .ne 6, 3) := by decide +kernel
theorem dX10_sweep_27 : decode cX10_sweep 27 = .ok (.bipush (-102), 2) := by decide +kernel
theorem dX10_sweep_29 : decode cX10_sweep 29 = .ok (.ireturn, 1) := by decide +kernel
theorem dX10_sweep_30 : decode cX10_sweep 30 = .ok (.iconst 0, 1) := by decide +kernel
theorem dX10_sweep_31 : decode cX10_sweep 31 = .ok (.istore_n 3, 1) := by decide +kernel
theorem dX10_sweep_32 : decode cX10_sweep 32 = .ok (.iconst 0, 1) := by decide +kernel
theorem dX10_sweep_33 : decode cX10_sweep 33 = .ok (.istore 4, 2) := by decide +kernel
theorem dX10_sweep_35 : decode cX10_sweep 35 = .ok (.iload 4, 2) := by decide +kernel
theorem dX10_sweep_37 : decode cX10_sweep 37 = .ok (.aload_n 0, 1) := by decide +kernel
theorem dX10_sweep_38 : decode cX10_sweep 38 = .ok (.getfield 42, 3) := by decide +kernel
theorem dX10_sweep_41 : decode cX10_sweep 41 = .ok (.if_icmp .ge 42, 3) := by decide +kernel
theorem dX10_sweep_44 : decode cX10_sweep 44 = .ok (.aload_n 0, 1) := by decide +kernel
theorem dX10_sweep_45 : decode cX10_sweep 45 = .ok (.getfield 13, 3) := by decide +kernel
theorem dX10_sweep_48 : decode cX10_sweep 48 = .ok (.iload 4, 2) := by decide +kernel
theorem dX10_sweep_50 : decode cX10_sweep 50 = .ok (.iaload, 1) := by decide +kernel
theorem dX10_sweep_51 : decode cX10_sweep 51 = .ok (.iload_n 1, 1) := by decide +kernel
theorem dX10_sweep_52 : decode cX10_sweep 52 = .ok (.if_icmp .ne 25, 3) := by decide +kernel
theorem dX10_sweep_55 : decode cX10_sweep 55 = .ok (.aload_n 0, 1) := by decide +kernel
theorem dX10_sweep_56 : decode cX10_sweep 56 = .ok (.iload 4, 2) := by decide +kernel
theorem dX10_sweep_58 : decode cX10_sweep 58 = .ok (.iload_n 2, 1) := by decide +kernel
theorem dX10_sweep_59 : decode cX10_sweep 59 = .ok (.invokevirtual 88, 3) := by decide +kernel
theorem dX10_sweep_62 : decode cX10_sweep 62 = .ok (.iload_n 3, 1) := by decide +kernel
theorem dX10_sweep_63 : decode cX10_sweep 63 = .ok (.aload_n 0, 1) := by decide +kernel
theorem dX10_sweep_64 : decode cX10_sweep 64 = .ok (.getfield 52, 3) := by decide +kernel
theorem dX10_sweep_67 : decode cX10_sweep 67 = .ok (.ifCond .le 7, 3) := by decide +kernel
theorem dX10_sweep_70 : decode cX10_sweep 70 = .ok (.iconst 1, 1) := by decide +kernel
theorem dX10_sweep_71 : decode cX10_sweep 71 = .ok (.goto 4, 3) := by decide +kernel
theorem dX10_sweep_74 : decode cX10_sweep 74 = .ok (.iconst 0, 1) := by decide +kernel
theorem dX10_sweep_75 : decode cX10_sweep 75 = .ok (.iadd, 1) := by decide +kernel
theorem dX10_sweep_76 : decode cX10_sweep 76 = .ok (.istore_n 3, 1) := by decide +kernel
theorem dX10_sweep_77 : decode cX10_sweep 77 = .ok (.iinc 4 1, 3) := by decide +kernel
theorem dX10_sweep_80 : decode cX10_sweep 80 = .ok (.goto (-45), 3) := by decide +kernel
theorem dX10_sweep_83 : decode cX10_sweep 83 = .ok (.iload_n 3, 1) := by decide +kernel
theorem dX10_sweep_84 : decode cX10_sweep 84 = .ok (.ireturn, 1) := by decide +kernel
theorem dX10_alarm_0 : decode cX10_alarm 0 = .ok (.aload_n 0, 1) := by decide +kernel
theorem dX10_alarm_1 : decode cX10_alarm 1 = .ok (.iconst 0, 1) := by decide +kernel
theorem dX10_alarm_2 : decode cX10_alarm 2 = .ok (.putfield 38, 3) := by decide +kernel
theorem dX10_alarm_5 : decode cX10_alarm 5 = .ok (.iload_n 1, 1) := by decide +kernel
theorem dX10_alarm_6 : decode cX10_alarm 6 = .ok (.iconst 0, 1) := by decide +kernel
theorem dX10_alarm_7 : decode cX10_alarm 7 = .ok (.iconst 5, 1) := by decide +kernel
theorem dX10_alarm_8 : decode cX10_alarm 8 = .ok (.invokestatic 45, 3) := by decide +kernel
theorem dX10_alarm_11 : decode cX10_alarm 11 = .ok (.ifCond .eq 13, 3) := by decide +kernel
theorem dX10_alarm_14 : decode cX10_alarm 14 = .ok (.iload_n 2, 1) := by decide +kernel
theorem dX10_alarm_15 : decode cX10_alarm 15 = .ok (.iconst 1, 1) := by decide +kernel
theorem dX10_alarm_16 : decode cX10_alarm 16 = .ok (.bipush 60, 2) := by decide +kernel
theorem dX10_alarm_18 : decode cX10_alarm 18 = .ok (.invokestatic 45, 3) := by decide +kernel
theorem dX10_alarm_21 : decode cX10_alarm 21 = .ok (.ifCond .ne 6, 3) := by decide +kernel
theorem dX10_alarm_24 : decode cX10_alarm 24 = .ok (.bipush (-102), 2) := by decide +kernel
theorem dX10_alarm_26 : decode cX10_alarm 26 = .ok (.ireturn, 1) := by decide +kernel
theorem dX10_alarm_27 : decode cX10_alarm 27 = .ok (.iconst 0, 1) := by decide +kernel
theorem dX10_alarm_28 : decode cX10_alarm 28 = .ok (.istore_n 3, 1) := by decide +kernel
theorem dX10_alarm_29 : decode cX10_alarm 29 = .ok (.iconst 0, 1) := by decide +kernel
theorem dX10_alarm_30 : decode cX10_alarm 30 = .ok (.istore 4, 2) := by decide +kernel
theorem dX10_alarm_32 : decode cX10_alarm 32 = .ok (.iload 4, 2) := by decide +kernel
theorem dX10_alarm_34 : decode cX10_alarm 34 = .ok (.aload_n 0, 1) := by decide +kernel
theorem dX10_alarm_35 : decode cX10_alarm 35 = .ok (.getfield 42, 3) := by decide +kernel
theorem dX10_alarm_38 : decode cX10_alarm 38 = .ok (.if_icmp .ge 71, 3) := by decide +kernel
theorem dX10_alarm_41 : decode cX10_alarm 41 = .ok (.aload_n 0, 1) := by decide +kernel
theorem dX10_alarm_42 : decode cX10_alarm 42 = .ok (.getfield 13, 3) := by decide +kernel
theorem dX10_alarm_45 : decode cX10_alarm 45 = .ok (.iload 4, 2) := by decide +kernel
theorem dX10_alarm_47 : decode cX10_alarm 47 = .ok (.iaload, 1) := by decide +kernel
theorem dX10_alarm_48 : decode cX10_alarm 48 = .ok (.iload_n 1, 1) := by decide +kernel
theorem dX10_alarm_49 : decode cX10_alarm 49 = .ok (.if_icmp .ne 54, 3) := by decide +kernel
theorem dX10_alarm_52 : decode cX10_alarm 52 = .ok (.aload_n 0, 1) := by decide +kernel
theorem dX10_alarm_53 : decode cX10_alarm 53 = .ok (.getfield 7, 3) := by decide +kernel
theorem dX10_alarm_56 : decode cX10_alarm 56 = .ok (.iload 4, 2) := by decide +kernel
theorem dX10_alarm_58 : decode cX10_alarm 58 = .ok (.iaload, 1) := by decide +kernel
theorem dX10_alarm_59 : decode cX10_alarm 59 = .ok (.ifCond .ne 7, 3) := by decide +kernel
theorem dX10_alarm_62 : decode cX10_alarm 62 = .ok (.iconst 3, 1) := by decide +kernel
theorem dX10_alarm_63 : decode cX10_alarm 63 = .ok (.goto 20, 3) := by decide +kernel
theorem dX10_alarm_66 : decode cX10_alarm 66 = .ok (.aload_n 0, 1) := by decide +kernel
theorem dX10_alarm_67 : decode cX10_alarm 67 = .ok (.getfield 7, 3) := by decide +kernel
theorem dX10_alarm_70 : decode cX10_alarm 70 = .ok (.iload 4, 2) := by decide +kernel
theorem dX10_alarm_72 : decode cX10_alarm 72 = .ok (.iaload, 1) := by decide +kernel
theorem dX10_alarm_73 : decode cX10_alarm 73 = .ok (.bipush 7, 2) := by decide +kernel
theorem dX10_alarm_75 : decode cX10_alarm 75 = .ok (.if_icmp .ne 7, 3) := by decide +kernel
theorem dX10_alarm_78 : decode cX10_alarm 78 = .ok (.iconst 2, 1) := by decide +kernel
theorem dX10_alarm_79 : decode cX10_alarm 79 = .ok (.goto 4, 3) := by decide +kernel
theorem dX10_alarm_82 : decode cX10_alarm 82 = .ok (.iconst 1, 1) := by decide +kernel
theorem dX10_alarm_83 : decode cX10_alarm 83 = .ok (.istore 5, 2) := by decide +kernel
theorem dX10_alarm_85 : decode cX10_alarm 85 = .ok (.iload_n 3, 1) := by decide +kernel
theorem dX10_alarm_86 : decode cX10_alarm 86 = .ok (.aload_n 0, 1) := by decide +kernel
theorem dX10_alarm_87 : decode cX10_alarm 87 = .ok (.iload 4, 2) := by decide +kernel
theorem dX10_alarm_89 : decode cX10_alarm 89 = .ok (.invokevirtual 94, 3) := by decide +kernel
theorem dX10_alarm_92 : decode cX10_alarm 92 = .ok (.ifCond .eq 8, 3) := by decide +kernel
theorem dX10_alarm_95 : decode cX10_alarm 95 = .ok (.iload 5, 2) := by decide +kernel
theorem dX10_alarm_97 : decode cX10_alarm 97 = .ok (.goto 4, 3) := by decide +kernel
theorem dX10_alarm_100 : decode cX10_alarm 100 = .ok (.iconst 0, 1) := by decide +kernel
theorem dX10_alarm_101 : decode cX10_alarm 101 = .ok (.iadd, 1) := by decide +kernel
theorem dX10_alarm_102 : decode cX10_alarm 102 = .ok (.istore_n 3, 1) := by decide +kernel
theorem dX10_alarm_103 : decode cX10_alarm 103 = .ok (.iinc 4 1, 3) := by decide +kernel
theorem dX10_alarm_106 : decode cX10_alarm 106 = .ok (.goto (-74), 3) := by decide +kernel
theorem dX10_alarm_109 : decode cX10_alarm 109 = .ok (.iload_n 3, 1) := by decide +kernel
theorem dX10_alarm_110 : decode cX10_alarm 110 = .ok (.iload_n 2, 1) := by decide +kernel
theorem dX10_alarm_111 : decode cX10_alarm 111 = .ok (.if_icmp .lt 7, 3) := by decide +kernel
theorem dX10_alarm_114 : decode cX10_alarm 114 = .ok (.iconst 1, 1) := by decide +kernel
theorem dX10_alarm_115 : decode cX10_alarm 115 = .ok (.goto 4, 3) := by decide +kernel
theorem dX10_alarm_118 : decode cX10_alarm 118 = .ok (.iconst 0, 1) := by decide +kernel
theorem dX10_alarm_119 : decode cX10_alarm 119 = .ok (.ireturn, 1) := by decide +kernel
theorem dX10_costs_0 : decode cX10_costs 0 = .ok (.aload_n 0, 1) := by decide +kernel
theorem dX10_costs_1 : decode cX10_costs 1 = .ok (.iconst 0, 1) := by decide +kernel
theorem dX10_costs_2 : decode cX10_costs 2 = .ok (.putfield 38, 3) := by decide +kernel
theorem dX10_costs_5 : decode cX10_costs 5 = .ok (.iconst 0, 1) := by decide +kernel
theorem dX10_costs_6 : decode cX10_costs 6 = .ok (.istore_n 1, 1) := by decide +kernel
theorem dX10_costs_7 : decode cX10_costs 7 = .ok (.iconst 0, 1) := by decide +kernel
theorem dX10_costs_8 : decode cX10_costs 8 = .ok (.istore_n 2, 1) := by decide +kernel
theorem dX10_costs_9 : decode cX10_costs 9 = .ok (.iload_n 2, 1) := by decide +kernel
theorem dX10_costs_10 : decode cX10_costs 10 = .ok (.aload_n 0, 1) := by decide +kernel
theorem dX10_costs_11 : decode cX10_costs 11 = .ok (.getfield 42, 3) := by decide +kernel
theorem dX10_costs_14 : decode cX10_costs 14 = .ok (.if_icmp .ge 17, 3) := by decide +kernel
theorem dX10_costs_17 : decode cX10_costs 17 = .ok (.iload_n 1, 1) := by decide +kernel
theorem dX10_costs_18 : decode cX10_costs 18 = .ok (.aload_n 0, 1) := by decide +kernel
theorem dX10_costs_19 : decode cX10_costs 19 = .ok (.iload_n 2, 1) := by decide +kernel
theorem dX10_costs_20 : decode cX10_costs 20 = .ok (.invokevirtual 97, 3) := by decide +kernel
theorem dX10_costs_23 : decode cX10_costs 23 = .ok (.iadd, 1) := by decide +kernel
theorem dX10_costs_24 : decode cX10_costs 24 = .ok (.istore_n 1, 1) := by decide +kernel
theorem dX10_costs_25 : decode cX10_costs 25 = .ok (.iinc 2 1, 3) := by decide +kernel
theorem dX10_costs_28 : decode cX10_costs 28 = .ok (.goto (-19), 3) := by decide +kernel
theorem dX10_costs_31 : decode cX10_costs 31 = .ok (.iload_n 1, 1) := by decide +kernel
theorem dX10_costs_32 : decode cX10_costs 32 = .ok (.ireturn, 1) := by decide +kernel
theorem dX10_trace_0 : decode cX10_trace 0 = .ok (.aload_n 0, 1) := by decide +kernel
theorem dX10_trace_1 : decode cX10_trace 1 = .ok (.iconst 0, 1) := by decide +kernel
theorem dX10_trace_2 : decode cX10_trace 2 = .ok (.putfield 38, 3) := by decide +kernel
theorem dX10_trace_5 : decode cX10_trace 5 = .ok (.aload_n 0, 1) := by decide +kernel
theorem dX10_trace_6 : decode cX10_trace 6 = .ok (.getfield 49, 3) := by decide +kernel
theorem dX10_trace_9 : decode cX10_trace 9 = .ok (.sipush 200, 3) := by decide +kernel
theorem dX10_trace_12 : decode cX10_trace 12 = .ok (.if_icmp .ge 10, 3) := by decide +kernel
theorem dX10_trace_15 : decode cX10_trace 15 = .ok (.aload_n 0, 1) := by decide +kernel
theorem dX10_trace_16 : decode cX10_trace 16 = .ok (.getfield 49, 3) := by decide +kernel
theorem dX10_trace_19 : decode cX10_trace 19 = .ok (.goto 6, 3) := by decide +kernel
theorem dX10_trace_22 : decode cX10_trace 22 = .ok (.sipush 200, 3) := by decide +kernel
theorem dX10_trace_25 : decode cX10_trace 25 = .ok (.istore_n 2, 1) := by decide +kernel
theorem dX10_trace_26 : decode cX10_trace 26 = .ok (.iload_n 1, 1) := by decide +kernel
theorem dX10_trace_27 : decode cX10_trace 27 = .ok (.iconst 0, 1) := by decide +kernel
theorem dX10_trace_28 : decode cX10_trace 28 = .ok (.iload_n 2, 1) := by decide +kernel
theorem dX10_trace_29 : decode cX10_trace 29 = .ok (.iconst 1, 1) := by decide +kernel
theorem dX10_trace_30 : decode cX10_trace 30 = .ok (.isub, 1) := by decide +kernel
theorem dX10_trace_31 : decode cX10_trace 31 = .ok (.invokestatic 45, 3) := by decide +kernel
theorem dX10_trace_34 : decode cX10_trace 34 = .ok (.ifCond .eq 23, 3) := by decide +kernel
theorem dX10_trace_37 : decode cX10_trace 37 = .ok (.aload_n 0, 1) := by decide +kernel
theorem dX10_trace_38 : decode cX10_trace 38 = .ok (.getfield 35, 3) := by decide +kernel
theorem dX10_trace_41 : decode cX10_trace 41 = .ok (.aload_n 0, 1) := by decide +kernel
theorem dX10_trace_42 : decode cX10_trace 42 = .ok (.getfield 49, 3) := by decide +kernel
theorem dX10_trace_45 : decode cX10_trace 45 = .ok (.iconst 1, 1) := by decide +kernel
theorem dX10_trace_46 : decode cX10_trace 46 = .ok (.isub, 1) := by decide +kernel
theorem dX10_trace_47 : decode cX10_trace 47 = .ok (.iload_n 1, 1) := by decide +kernel
theorem dX10_trace_48 : decode cX10_trace 48 = .ok (.isub, 1) := by decide +kernel
theorem dX10_trace_49 : decode cX10_trace 49 = .ok (.sipush 200, 3) := by decide +kernel
theorem dX10_trace_52 : decode cX10_trace 52 = .ok (.irem, 1) := by decide +kernel
theorem dX10_trace_53 : decode cX10_trace 53 = .ok (.iaload, 1) := by decide +kernel
theorem dX10_trace_54 : decode cX10_trace 54 = .ok (.goto 5, 3) := by decide +kernel
theorem dX10_trace_57 : decode cX10_trace 57 = .ok (.bipush (-101), 2) := by decide +kernel
theorem dX10_trace_59 : decode cX10_trace 59 = .ok (.ireturn, 1) := by decide +kernel
theorem dX10_count_0 : decode cX10_count 0 = .ok (.aload_n 0, 1) := by decide +kernel
theorem dX10_count_1 : decode cX10_count 1 = .ok (.iconst 0, 1) := by decide +kernel
theorem dX10_count_2 : decode cX10_count 2 = .ok (.putfield 38, 3) := by decide +kernel
theorem dX10_count_5 : decode cX10_count 5 = .ok (.iload_n 1, 1) := by decide +kernel
theorem dX10_count_6 : decode cX10_count 6 = .ok (.tableswitch 50 0 3 #[30, 35, 40, 45], 30) := by decide +kernel
theorem dX10_count_36 : decode cX10_count 36 = .ok (.aload_n 0, 1) := by decide +kernel
theorem dX10_count_37 : decode cX10_count 37 = .ok (.getfield 42, 3) := by decide +kernel
theorem dX10_count_40 : decode cX10_count 40 = .ok (.ireturn, 1) := by decide +kernel
theorem dX10_count_41 : decode cX10_count 41 = .ok (.aload_n 0, 1) := by decide +kernel
theorem dX10_count_42 : decode cX10_count 42 = .ok (.getfield 49, 3) := by decide +kernel
theorem dX10_count_45 : decode cX10_count 45 = .ok (.ireturn, 1) := by decide +kernel
theorem dX10_count_46 : decode cX10_count 46 = .ok (.aload_n 0, 1) := by decide +kernel
theorem dX10_count_47 : decode cX10_count 47 = .ok (.getfield 55, 3) := by decide +kernel
theorem dX10_count_50 : decode cX10_count 50 = .ok (.ireturn, 1) := by decide +kernel
theorem dX10_count_51 : decode cX10_count 51 = .ok (.aload_n 0, 1) := by decide +kernel
theorem dX10_count_52 : decode cX10_count 52 = .ok (.getfield 69, 3) := by decide +kernel
theorem dX10_count_55 : decode cX10_count 55 = .ok (.ireturn, 1) := by decide +kernel
theorem dX10_count_56 : decode cX10_count 56 = .ok (.bipush (-102), 2) := by decide +kernel
theorem dX10_count_58 : decode cX10_count 58 = .ok (.ireturn, 1) := by decide +kernel
end
section
theorem dL_read_0 : decode cL_read 0 = .ok (.aload_n 3, 1) := by decide +kernel
theorem dL_read_1 : decode cL_read 1 = .ok (.iconst 0, 1) := by decide +kernel
theorem dL_read_2 : decode cL_read 2 = .ok (.aload_n 0, 1) := by decide +kernel
theorem dL_read_3 : decode cL_read 3 = .ok (.iload_n 1, 1) := by decide +kernel
theorem dL_read_4 : decode cL_read 4 = .ok (.iload_n 2, 1) := by decide +kernel
theorem dL_read_5 : decode cL_read 5 = .ok (.invokevirtual 7, 3) := by decide +kernel
theorem dL_read_8 : decode cL_read 8 = .ok (.i2l, 1) := by decide +kernel
theorem dL_read_9 : decode cL_read 9 = .ok (.lastore, 1) := by decide +kernel
theorem dL_read_10 : decode cL_read 10 = .ok (.goto 11, 3) := by decide +kernel
theorem dL_read_13 : decode cL_read 13 = .ok (.astore 4, 2) := by decide +kernel
theorem dL_read_15 : decode cL_read 15 = .ok (.iconst 1, 1) := by decide +kernel
theorem dL_read_16 : decode cL_read 16 = .ok (.ireturn, 1) := by decide +kernel
theorem dL_read_17 : decode cL_read 17 = .ok (.astore 4, 2) := by decide +kernel
theorem dL_read_19 : decode cL_read 19 = .ok (.iconst 2, 1) := by decide +kernel
theorem dL_read_20 : decode cL_read 20 = .ok (.ireturn, 1) := by decide +kernel
theorem dL_read_21 : decode cL_read 21 = .ok (.iconst 0, 1) := by decide +kernel
theorem dL_read_22 : decode cL_read 22 = .ok (.ireturn, 1) := by decide +kernel
theorem dL_weigh_0 : decode cL_weigh 0 = .ok (.aload_n 3, 1) := by decide +kernel
theorem dL_weigh_1 : decode cL_weigh 1 = .ok (.iconst 0, 1) := by decide +kernel
theorem dL_weigh_2 : decode cL_weigh 2 = .ok (.aload_n 0, 1) := by decide +kernel
theorem dL_weigh_3 : decode cL_weigh 3 = .ok (.iload_n 1, 1) := by decide +kernel
theorem dL_weigh_4 : decode cL_weigh 4 = .ok (.iload_n 2, 1) := by decide +kernel
theorem dL_weigh_5 : decode cL_weigh 5 = .ok (.invokevirtual 17, 3) := by decide +kernel
theorem dL_weigh_8 : decode cL_weigh 8 = .ok (.i2l, 1) := by decide +kernel
theorem dL_weigh_9 : decode cL_weigh 9 = .ok (.lastore, 1) := by decide +kernel
theorem dL_weigh_10 : decode cL_weigh 10 = .ok (.goto 11, 3) := by decide +kernel
theorem dL_weigh_13 : decode cL_weigh 13 = .ok (.astore 4, 2) := by decide +kernel
theorem dL_weigh_15 : decode cL_weigh 15 = .ok (.iconst 1, 1) := by decide +kernel
theorem dL_weigh_16 : decode cL_weigh 16 = .ok (.ireturn, 1) := by decide +kernel
theorem dL_weigh_17 : decode cL_weigh 17 = .ok (.astore 4, 2) := by decide +kernel
theorem dL_weigh_19 : decode cL_weigh 19 = .ok (.iconst 2, 1) := by decide +kernel
theorem dL_weigh_20 : decode cL_weigh 20 = .ok (.ireturn, 1) := by decide +kernel
theorem dL_weigh_21 : decode cL_weigh 21 = .ok (.iconst 0, 1) := by decide +kernel
theorem dL_weigh_22 : decode cL_weigh 22 = .ok (.ireturn, 1) := by decide +kernel
theorem dL_law_0 : decode cL_law 0 = .ok (.new 8, 3) := by decide +kernel
theorem dL_law_3 : decode cL_law 3 = .ok (.dup, 1) := by decide +kernel
theorem dL_law_4 : decode cL_law 4 = .ok (.invokespecial 20, 3) := by decide +kernel
theorem dL_law_7 : decode cL_law 7 = .ok (.astore_n 1, 1) := by decide +kernel
theorem dL_law_8 : decode cL_law 8 = .ok (.new 21, 3) := by decide +kernel
theorem dL_law_11 : decode cL_law 11 = .ok (.dup, 1) := by decide +kernel
theorem dL_law_12 : decode cL_law 12 = .ok (.invokespecial 23, 3) := by decide +kernel
theorem dL_law_15 : decode cL_law 15 = .ok (.astore_n 2, 1) := by decide +kernel
theorem dL_law_16 : decode cL_law 16 = .ok (.iconst 1, 1) := by decide +kernel
theorem dL_law_17 : decode cL_law 17 = .ok (.newarray .long, 2) := by decide +kernel
theorem dL_law_19 : decode cL_law 19 = .ok (.astore_n 3, 1) := by decide +kernel
theorem dL_law_20 : decode cL_law 20 = .ok (.iconst 0, 1) := by decide +kernel
theorem dL_law_21 : decode cL_law 21 = .ok (.istore 4, 2) := by decide +kernel
theorem dL_law_23 : decode cL_law 23 = .ok (.iload 4, 2) := by decide +kernel
theorem dL_law_25 : decode cL_law 25 = .ok (.aload_n 0, 1) := by decide +kernel
theorem dL_law_26 : decode cL_law 26 = .ok (.arraylength, 1) := by decide +kernel
theorem dL_law_27 : decode cL_law 27 = .ok (.iconst 5, 1) := by decide +kernel
theorem dL_law_28 : decode cL_law 28 = .ok (.isub, 1) := by decide +kernel
theorem dL_law_29 : decode cL_law 29 = .ok (.if_icmp .gt 523, 3) := by decide +kernel
theorem dL_law_32 : decode cL_law 32 = .ok (.aload_n 0, 1) := by decide +kernel
theorem dL_law_33 : decode cL_law 33 = .ok (.iload 4, 2) := by decide +kernel
theorem dL_law_35 : decode cL_law 35 = .ok (.iaload, 1) := by decide +kernel
theorem dL_law_36 : decode cL_law 36 = .ok (.bipush 15, 2) := by decide +kernel
theorem dL_law_38 : decode cL_law 38 = .ok (.iand, 1) := by decide +kernel
theorem dL_law_39 : decode cL_law 39 = .ok (.tableswitch 507 0 11 #[61, 122, 190, 258, 283, 308, 333, 370, 407, 444, 457, 482], 61) := by decide +kernel
theorem dL_law_100 : decode cL_law 100 = .ok (.aload_n 1, 1) := by decide +kernel
theorem dL_law_101 : decode cL_law 101 = .ok (.aload_n 0, 1) := by decide +kernel
theorem dL_law_102 : decode cL_law 102 = .ok (.iload 4, 2) := by decide +kernel
theorem dL_law_104 : decode cL_law 104 = .ok (.iconst 1, 1) := by decide +kernel
theorem dL_law_105 : decode cL_law 105 = .ok (.iadd, 1) := by decide +kernel
theorem dL_law_106 : decode cL_law 106 = .ok (.iaload, 1) := by decide +kernel
theorem dL_law_107 : decode cL_law 107 = .ok (.aload_n 0, 1) := by decide +kernel
theorem dL_law_108 : decode cL_law 108 = .ok (.iload 4, 2) := by decide +kernel
theorem dL_law_110 : decode cL_law 110 = .ok (.iconst 2, 1) := by decide +kernel
theorem dL_law_111 : decode cL_law 111 = .ok (.iadd, 1) := by decide +kernel
theorem dL_law_112 : decode cL_law 112 = .ok (.iaload, 1) := by decide +kernel
theorem dL_law_113 : decode cL_law 113 = .ok (.aload_n 0, 1) := by decide +kernel
theorem dL_law_114 : decode cL_law 114 = .ok (.iload 4, 2) := by decide +kernel
theorem dL_law_116 : decode cL_law 116 = .ok (.iconst 3, 1) := by decide +kernel
theorem dL_law_117 : decode cL_law 117 = .ok (.iadd, 1) := by decide +kernel
theorem dL_law_118 : decode cL_law 118 = .ok (.iaload, 1) := by decide +kernel
theorem dL_law_119 : decode cL_law 119 = .ok (.aload_n 0, 1) := by decide +kernel
theorem dL_law_120 : decode cL_law 120 = .ok (.iload 4, 2) := by decide +kernel
theorem dL_law_122 : decode cL_law 122 = .ok (.iconst 4, 1) := by decide +kernel
theorem dL_law_123 : decode cL_law 123 = .ok (.iadd, 1) := by decide +kernel
theorem dL_law_124 : decode cL_law 124 = .ok (.iaload, 1) := by decide +kernel
theorem dL_law_125 : decode cL_law 125 = .ok (.invokevirtual 24, 3) := by decide +kernel
theorem dL_law_128 : decode cL_law 128 = .ok (.aload_n 2, 1) := by decide +kernel
theorem dL_law_129 : decode cL_law 129 = .ok (.aload_n 0, 1) := by decide +kernel
theorem dL_law_130 : decode cL_law 130 = .ok (.iload 4, 2) := by decide +kernel
theorem dL_law_132 : decode cL_law 132 = .ok (.iconst 1, 1) := by decide +kernel
theorem dL_law_133 : decode cL_law 133 = .ok (.iadd, 1) := by decide +kernel
theorem dL_law_134 : decode cL_law 134 = .ok (.iaload, 1) := by decide +kernel
theorem dL_law_135 : decode cL_law 135 = .ok (.aload_n 0, 1) := by decide +kernel
theorem dL_law_136 : decode cL_law 136 = .ok (.iload 4, 2) := by decide +kernel
theorem dL_law_138 : decode cL_law 138 = .ok (.iconst 2, 1) := by decide +kernel
theorem dL_law_139 : decode cL_law 139 = .ok (.iadd, 1) := by decide +kernel
theorem dL_law_140 : decode cL_law 140 = .ok (.iaload, 1) := by decide +kernel
theorem dL_law_141 : decode cL_law 141 = .ok (.aload_n 0, 1) := by decide +kernel
theorem dL_law_142 : decode cL_law 142 = .ok (.iload 4, 2) := by decide +kernel
theorem dL_law_144 : decode cL_law 144 = .ok (.iconst 3, 1) := by decide +kernel
theorem dL_law_145 : decode cL_law 145 = .ok (.iadd, 1) := by decide +kernel
theorem dL_law_146 : decode cL_law 146 = .ok (.iaload, 1) := by decide +kernel
theorem dL_law_147 : decode cL_law 147 = .ok (.aload_n 0, 1) := by decide +kernel
theorem dL_law_148 : decode cL_law 148 = .ok (.iload 4, 2) := by decide +kernel
theorem dL_law_150 : decode cL_law 150 = .ok (.iconst 4, 1) := by decide +kernel
theorem dL_law_151 : decode cL_law 151 = .ok (.iadd, 1) := by decide +kernel
theorem dL_law_152 : decode cL_law 152 = .ok (.iaload, 1) := by decide +kernel
theorem dL_law_153 : decode cL_law 153 = .ok (.invokevirtual 28, 3) := by decide +kernel
theorem dL_law_156 : decode cL_law 156 = .ok (.if_icmp .eq 390, 3) := by decide +kernel
theorem dL_law_159 : decode cL_law 159 = .ok (.iconst 0, 1) := by decide +kernel
theorem dL_law_160 : decode cL_law 160 = .ok (.ireturn, 1) := by decide +kernel
theorem dL_law_161 : decode cL_law 161 = .ok (.aload_n 1, 1) := by decide +kernel
theorem dL_law_162 : decode cL_law 162 = .ok (.aload_n 0, 1) := by decide +kernel
theorem dL_law_163 : decode cL_law 163 = .ok (.iload 4, 2) := by decide +kernel
theorem dL_law_165 : decode cL_law 165 = .ok (.iconst 1, 1) := by decide +kernel
theorem dL_law_166 : decode cL_law 166 = .ok (.iadd, 1) := by decide +kernel
theorem dL_law_167 : decode cL_law 167 = .ok (.iaload, 1) := by decide +kernel
theorem dL_law_168 : decode cL_law 168 = .ok (.aload_n 0, 1) := by decide +kernel
theorem dL_law_169 : decode cL_law 169 = .ok (.iload 4, 2) := by decide +kernel
theorem dL_law_171 : decode cL_law 171 = .ok (.iconst 2, 1) := by decide +kernel
theorem dL_law_172 : decode cL_law 172 = .ok (.iadd, 1) := by decide +kernel
theorem dL_law_173 : decode cL_law 173 = .ok (.iaload, 1) := by decide +kernel
theorem dL_law_174 : decode cL_law 174 = .ok (.aload_n 3, 1) := by decide +kernel
theorem dL_law_175 : decode cL_law 175 = .ok (.invokestatic 29, 3) := by decide +kernel
theorem dL_law_178 : decode cL_law 178 = .ok (.istore 5, 2) := by decide +kernel
theorem dL_law_180 : decode cL_law 180 = .ok (.aload_n 2, 1) := by decide +kernel
theorem dL_law_181 : decode cL_law 181 = .ok (.aload_n 0, 1) := by decide +kernel
theorem dL_law_182 : decode cL_law 182 = .ok (.iload 4, 2) := by decide +kernel
theorem dL_law_184 : decode cL_law 184 = .ok (.iconst 1, 1) := by decide +kernel
theorem dL_law_185 : decode cL_law 185 = .ok (.iadd, 1) := by decide +kernel
end
section
theorem dL_law_186 : decode cL_law 186 = .ok (.iaload, 1) := by decide +kernel
theorem dL_law_187 : decode cL_law 187 = .ok (.aload_n 0, 1) := by decide +kernel
theorem dL_law_188 : decode cL_law 188 = .ok (.iload 4, 2) := by decide +kernel
theorem dL_law_190 : decode cL_law 190 = .ok (.iconst 2, 1) := by decide +kernel
theorem dL_law_191 : decode cL_law 191 = .ok (.iadd, 1) := by decide +kernel
theorem dL_law_192 : decode cL_law 192 = .ok (.iaload, 1) := by decide +kernel
theorem dL_law_193 : decode cL_law 193 = .ok (.invokevirtual 34, 3) := by decide +kernel
theorem dL_law_196 : decode cL_law 196 = .ok (.istore 6, 2) := by decide +kernel
theorem dL_law_198 : decode cL_law 198 = .ok (.aload_n 2, 1) := by decide +kernel
theorem dL_law_199 : decode cL_law 199 = .ok (.invokevirtual 35, 3) := by decide +kernel
theorem dL_law_202 : decode cL_law 202 = .ok (.iload 5, 2) := by decide +kernel
theorem dL_law_204 : decode cL_law 204 = .ok (.if_icmp .eq 5, 3) := by decide +kernel
theorem dL_law_207 : decode cL_law 207 = .ok (.iconst 0, 1) := by decide +kernel
theorem dL_law_208 : decode cL_law 208 = .ok (.ireturn, 1) := by decide +kernel
theorem dL_law_209 : decode cL_law 209 = .ok (.iload 5, 2) := by decide +kernel
theorem dL_law_211 : decode cL_law 211 = .ok (.ifCond .ne 15, 3) := by decide +kernel
theorem dL_law_214 : decode cL_law 214 = .ok (.aload_n 3, 1) := by decide +kernel
theorem dL_law_215 : decode cL_law 215 = .ok (.iconst 0, 1) := by decide +kernel
theorem dL_law_216 : decode cL_law 216 = .ok (.laload, 1) := by decide +kernel
theorem dL_law_217 : decode cL_law 217 = .ok (.iload 6, 2) := by decide +kernel
theorem dL_law_219 : decode cL_law 219 = .ok (.i2l, 1) := by decide +kernel
theorem dL_law_220 : decode cL_law 220 = .ok (.lcmp, 1) := by decide +kernel
theorem dL_law_221 : decode cL_law 221 = .ok (.ifCond .eq 5, 3) := by decide +kernel
theorem dL_law_224 : decode cL_law 224 = .ok (.iconst 0, 1) := by decide +kernel
theorem dL_law_225 : decode cL_law 225 = .ok (.ireturn, 1) := by decide +kernel
theorem dL_law_226 : decode cL_law 226 = .ok (.goto 320, 3) := by decide +kernel
theorem dL_law_229 : decode cL_law 229 = .ok (.aload_n 1, 1) := by decide +kernel
theorem dL_law_230 : decode cL_law 230 = .ok (.aload_n 0, 1) := by decide +kernel
theorem dL_law_231 : decode cL_law 231 = .ok (.iload 4, 2) := by decide +kernel
theorem dL_law_233 : decode cL_law 233 = .ok (.iconst 1, 1) := by decide +kernel
theorem dL_law_234 : decode cL_law 234 = .ok (.iadd, 1) := by decide +kernel
theorem dL_law_235 : decode cL_law 235 = .ok (.iaload, 1) := by decide +kernel
theorem dL_law_236 : decode cL_law 236 = .ok (.aload_n 0, 1) := by decide +kernel
theorem dL_law_237 : decode cL_law 237 = .ok (.iload 4, 2) := by decide +kernel
theorem dL_law_239 : decode cL_law 239 = .ok (.iconst 2, 1) := by decide +kernel
theorem dL_law_240 : decode cL_law 240 = .ok (.iadd, 1) := by decide +kernel
theorem dL_law_241 : decode cL_law 241 = .ok (.iaload, 1) := by decide +kernel
theorem dL_law_242 : decode cL_law 242 = .ok (.aload_n 3, 1) := by decide +kernel
theorem dL_law_243 : decode cL_law 243 = .ok (.invokestatic 39, 3) := by decide +kernel
theorem dL_law_246 : decode cL_law 246 = .ok (.istore 5, 2) := by decide +kernel
theorem dL_law_248 : decode cL_law 248 = .ok (.aload_n 2, 1) := by decide +kernel
theorem dL_law_249 : decode cL_law 249 = .ok (.aload_n 0, 1) := by decide +kernel
theorem dL_law_250 : decode cL_law 250 = .ok (.iload 4, 2) := by decide +kernel
theorem dL_law_252 : decode cL_law 252 = .ok (.iconst 1, 1) := by decide +kernel
theorem dL_law_253 : decode cL_law 253 = .ok (.iadd, 1) := by decide +kernel
theorem dL_law_254 : decode cL_law 254 = .ok (.iaload, 1) := by decide +kernel
theorem dL_law_255 : decode cL_law 255 = .ok (.aload_n 0, 1) := by decide +kernel
theorem dL_law_256 : decode cL_law 256 = .ok (.iload 4, 2) := by decide +kernel
theorem dL_law_258 : decode cL_law 258 = .ok (.iconst 2, 1) := by decide +kernel
theorem dL_law_259 : decode cL_law 259 = .ok (.iadd, 1) := by decide +kernel
theorem dL_law_260 : decode cL_law 260 = .ok (.iaload, 1) := by decide +kernel
theorem dL_law_261 : decode cL_law 261 = .ok (.invokevirtual 41, 3) := by decide +kernel
theorem dL_law_264 : decode cL_law 264 = .ok (.istore 6, 2) := by decide +kernel
theorem dL_law_266 : decode cL_law 266 = .ok (.aload_n 2, 1) := by decide +kernel
theorem dL_law_267 : decode cL_law 267 = .ok (.invokevirtual 35, 3) := by decide +kernel
theorem dL_law_270 : decode cL_law 270 = .ok (.iload 5, 2) := by decide +kernel
theorem dL_law_272 : decode cL_law 272 = .ok (.if_icmp .eq 5, 3) := by decide +kernel
theorem dL_law_275 : decode cL_law 275 = .ok (.iconst 0, 1) := by decide +kernel
theorem dL_law_276 : decode cL_law 276 = .ok (.ireturn, 1) := by decide +kernel
theorem dL_law_277 : decode cL_law 277 = .ok (.iload 5, 2) := by decide +kernel
theorem dL_law_279 : decode cL_law 279 = .ok (.ifCond .ne 15, 3) := by decide +kernel
theorem dL_law_282 : decode cL_law 282 = .ok (.aload_n 3, 1) := by decide +kernel
theorem dL_law_283 : decode cL_law 283 = .ok (.iconst 0, 1) := by decide +kernel
theorem dL_law_284 : decode cL_law 284 = .ok (.laload, 1) := by decide +kernel
theorem dL_law_285 : decode cL_law 285 = .ok (.iload 6, 2) := by decide +kernel
theorem dL_law_287 : decode cL_law 287 = .ok (.i2l, 1) := by decide +kernel
theorem dL_law_288 : decode cL_law 288 = .ok (.lcmp, 1) := by decide +kernel
theorem dL_law_289 : decode cL_law 289 = .ok (.ifCond .eq 5, 3) := by decide +kernel
theorem dL_law_292 : decode cL_law 292 = .ok (.iconst 0, 1) := by decide +kernel
theorem dL_law_293 : decode cL_law 293 = .ok (.ireturn, 1) := by decide +kernel
theorem dL_law_294 : decode cL_law 294 = .ok (.goto 252, 3) := by decide +kernel
theorem dL_law_297 : decode cL_law 297 = .ok (.aload_n 1, 1) := by decide +kernel
theorem dL_law_298 : decode cL_law 298 = .ok (.aload_n 0, 1) := by decide +kernel
theorem dL_law_299 : decode cL_law 299 = .ok (.iload 4, 2) := by decide +kernel
theorem dL_law_301 : decode cL_law 301 = .ok (.iconst 1, 1) := by decide +kernel
theorem dL_law_302 : decode cL_law 302 = .ok (.iadd, 1) := by decide +kernel
theorem dL_law_303 : decode cL_law 303 = .ok (.iaload, 1) := by decide +kernel
theorem dL_law_304 : decode cL_law 304 = .ok (.invokevirtual 42, 3) := by decide +kernel
theorem dL_law_307 : decode cL_law 307 = .ok (.aload_n 2, 1) := by decide +kernel
theorem dL_law_308 : decode cL_law 308 = .ok (.aload_n 0, 1) := by decide +kernel
theorem dL_law_309 : decode cL_law 309 = .ok (.iload 4, 2) := by decide +kernel
theorem dL_law_311 : decode cL_law 311 = .ok (.iconst 1, 1) := by decide +kernel
theorem dL_law_312 : decode cL_law 312 = .ok (.iadd, 1) := by decide +kernel
theorem dL_law_313 : decode cL_law 313 = .ok (.iaload, 1) := by decide +kernel
theorem dL_law_314 : decode cL_law 314 = .ok (.invokevirtual 46, 3) := by decide +kernel
theorem dL_law_317 : decode cL_law 317 = .ok (.if_icmp .eq 229, 3) := by decide +kernel
theorem dL_law_320 : decode cL_law 320 = .ok (.iconst 0, 1) := by decide +kernel
theorem dL_law_321 : decode cL_law 321 = .ok (.ireturn, 1) := by decide +kernel
theorem dL_law_322 : decode cL_law 322 = .ok (.aload_n 1, 1) := by decide +kernel
theorem dL_law_323 : decode cL_law 323 = .ok (.aload_n 0, 1) := by decide +kernel
theorem dL_law_324 : decode cL_law 324 = .ok (.iload 4, 2) := by decide +kernel
theorem dL_law_326 : decode cL_law 326 = .ok (.iconst 1, 1) := by decide +kernel
theorem dL_law_327 : decode cL_law 327 = .ok (.iadd, 1) := by decide +kernel
theorem dL_law_328 : decode cL_law 328 = .ok (.iaload, 1) := by decide +kernel
theorem dL_law_329 : decode cL_law 329 = .ok (.invokevirtual 47, 3) := by decide +kernel
theorem dL_law_332 : decode cL_law 332 = .ok (.aload_n 2, 1) := by decide +kernel
theorem dL_law_333 : decode cL_law 333 = .ok (.aload_n 0, 1) := by decide +kernel
theorem dL_law_334 : decode cL_law 334 = .ok (.iload 4, 2) := by decide +kernel
theorem dL_law_336 : decode cL_law 336 = .ok (.iconst 1, 1) := by decide +kernel
theorem dL_law_337 : decode cL_law 337 = .ok (.iadd, 1) := by decide +kernel
theorem dL_law_338 : decode cL_law 338 = .ok (.iaload, 1) := by decide +kernel
theorem dL_law_339 : decode cL_law 339 = .ok (.invokevirtual 50, 3) := by decide +kernel
theorem dL_law_342 : decode cL_law 342 = .ok (.if_icmp .eq 204, 3) := by decide +kernel
theorem dL_law_345 : decode cL_law 345 = .ok (.iconst 0, 1) := by decide +kernel
theorem dL_law_346 : decode cL_law 346 = .ok (.ireturn, 1) := by decide +kernel
theorem dL_law_347 : decode cL_law 347 = .ok (.aload_n 1, 1) := by decide +kernel
theorem dL_law_348 : decode cL_law 348 = .ok (.aload_n 0, 1) := by decide +kernel
theorem dL_law_349 : decode cL_law 349 = .ok (.iload 4, 2) := by decide +kernel
theorem dL_law_351 : decode cL_law 351 = .ok (.iconst 1, 1) := by decide +kernel
theorem dL_law_352 : decode cL_law 352 = .ok (.iadd, 1) := by decide +kernel
theorem dL_law_353 : decode cL_law 353 = .ok (.iaload, 1) := by decide +kernel
theorem dL_law_354 : decode cL_law 354 = .ok (.invokevirtual 51, 3) := by decide +kernel
theorem dL_law_357 : decode cL_law 357 = .ok (.aload_n 2, 1) := by decide +kernel
theorem dL_law_358 : decode cL_law 358 = .ok (.aload_n 0, 1) := by decide +kernel
theorem dL_law_359 : decode cL_law 359 = .ok (.iload 4, 2) := by decide +kernel
theorem dL_law_361 : decode cL_law 361 = .ok (.iconst 1, 1) := by decide +kernel
theorem dL_law_362 : decode cL_law 362 = .ok (.iadd, 1) := by decide +kernel
theorem dL_law_363 : decode cL_law 363 = .ok (.iaload, 1) := by decide +kernel
theorem dL_law_364 : decode cL_law 364 = .ok (.invokevirtual 54, 3) := by decide +kernel
theorem dL_law_367 : decode cL_law 367 = .ok (.if_icmp .eq 179, 3) := by decide +kernel
theorem dL_law_370 : decode cL_law 370 = .ok (.iconst 0, 1) := by decide +kernel
theorem dL_law_371 : decode cL_law 371 = .ok (.ireturn, 1) := by decide +kernel
theorem dL_law_372 : decode cL_law 372 = .ok (.aload_n 1, 1) := by decide +kernel
theorem dL_law_373 : decode cL_law 373 = .ok (.aload_n 0, 1) := by decide +kernel
theorem dL_law_374 : decode cL_law 374 = .ok (.iload 4, 2) := by decide +kernel
end
section
theorem dL_law_376 : decode cL_law 376 = .ok (.iconst 1, 1) := by decide +kernel
theorem dL_law_377 : decode cL_law 377 = .ok (.iadd, 1) := by decide +kernel
theorem dL_law_378 : decode cL_law 378 = .ok (.iaload, 1) := by decide +kernel
theorem dL_law_379 : decode cL_law 379 = .ok (.aload_n 0, 1) := by decide +kernel
theorem dL_law_380 : decode cL_law 380 = .ok (.iload 4, 2) := by decide +kernel
theorem dL_law_382 : decode cL_law 382 = .ok (.iconst 2, 1) := by decide +kernel
theorem dL_law_383 : decode cL_law 383 = .ok (.iadd, 1) := by decide +kernel
theorem dL_law_384 : decode cL_law 384 = .ok (.iaload, 1) := by decide +kernel
theorem dL_law_385 : decode cL_law 385 = .ok (.invokevirtual 55, 3) := by decide +kernel
theorem dL_law_388 : decode cL_law 388 = .ok (.aload_n 2, 1) := by decide +kernel
theorem dL_law_389 : decode cL_law 389 = .ok (.aload_n 0, 1) := by decide +kernel
theorem dL_law_390 : decode cL_law 390 = .ok (.iload 4, 2) := by decide +kernel
theorem dL_law_392 : decode cL_law 392 = .ok (.iconst 1, 1) := by decide +kernel
theorem dL_law_393 : decode cL_law 393 = .ok (.iadd, 1) := by decide +kernel
theorem dL_law_394 : decode cL_law 394 = .ok (.iaload, 1) := by decide +kernel
theorem dL_law_395 : decode cL_law 395 = .ok (.aload_n 0, 1) := by decide +kernel
theorem dL_law_396 : decode cL_law 396 = .ok (.iload 4, 2) := by decide +kernel
theorem dL_law_398 : decode cL_law 398 = .ok (.iconst 2, 1) := by decide +kernel
theorem dL_law_399 : decode cL_law 399 = .ok (.iadd, 1) := by decide +kernel
theorem dL_law_400 : decode cL_law 400 = .ok (.iaload, 1) := by decide +kernel
theorem dL_law_401 : decode cL_law 401 = .ok (.invokevirtual 58, 3) := by decide +kernel
theorem dL_law_404 : decode cL_law 404 = .ok (.if_icmp .eq 142, 3) := by decide +kernel
theorem dL_law_407 : decode cL_law 407 = .ok (.iconst 0, 1) := by decide +kernel
theorem dL_law_408 : decode cL_law 408 = .ok (.ireturn, 1) := by decide +kernel
theorem dL_law_409 : decode cL_law 409 = .ok (.aload_n 1, 1) := by decide +kernel
theorem dL_law_410 : decode cL_law 410 = .ok (.aload_n 0, 1) := by decide +kernel
theorem dL_law_411 : decode cL_law 411 = .ok (.iload 4, 2) := by decide +kernel
theorem dL_law_413 : decode cL_law 413 = .ok (.iconst 1, 1) := by decide +kernel
theorem dL_law_414 : decode cL_law 414 = .ok (.iadd, 1) := by decide +kernel
theorem dL_law_415 : decode cL_law 415 = .ok (.iaload, 1) := by decide +kernel
theorem dL_law_416 : decode cL_law 416 = .ok (.aload_n 0, 1) := by decide +kernel
theorem dL_law_417 : decode cL_law 417 = .ok (.iload 4, 2) := by decide +kernel
theorem dL_law_419 : decode cL_law 419 = .ok (.iconst 2, 1) := by decide +kernel
theorem dL_law_420 : decode cL_law 420 = .ok (.iadd, 1) := by decide +kernel
theorem dL_law_421 : decode cL_law 421 = .ok (.iaload, 1) := by decide +kernel
theorem dL_law_422 : decode cL_law 422 = .ok (.invokevirtual 59, 3) := by decide +kernel
theorem dL_law_425 : decode cL_law 425 = .ok (.aload_n 2, 1) := by decide +kernel
theorem dL_law_426 : decode cL_law 426 = .ok (.aload_n 0, 1) := by decide +kernel
theorem dL_law_427 : decode cL_law 427 = .ok (.iload 4, 2) := by decide +kernel
theorem dL_law_429 : decode cL_law 429 = .ok (.iconst 1, 1) := by decide +kernel
theorem dL_law_430 : decode cL_law 430 = .ok (.iadd, 1) := by decide +kernel
theorem dL_law_431 : decode cL_law 431 = .ok (.iaload, 1) := by decide +kernel
theorem dL_law_432 : decode cL_law 432 = .ok (.aload_n 0, 1) := by decide +kernel
theorem dL_law_433 : decode cL_law 433 = .ok (.iload 4, 2) := by decide +kernel
theorem dL_law_435 : decode cL_law 435 = .ok (.iconst 2, 1) := by decide +kernel
theorem dL_law_436 : decode cL_law 436 = .ok (.iadd, 1) := by decide +kernel
theorem dL_law_437 : decode cL_law 437 = .ok (.iaload, 1) := by decide +kernel
theorem dL_law_438 : decode cL_law 438 = .ok (.invokevirtual 62, 3) := by decide +kernel
theorem dL_law_441 : decode cL_law 441 = .ok (.if_icmp .eq 105, 3) := by decide +kernel
theorem dL_law_444 : decode cL_law 444 = .ok (.iconst 0, 1) := by decide +kernel
theorem dL_law_445 : decode cL_law 445 = .ok (.ireturn, 1) := by decide +kernel
theorem dL_law_446 : decode cL_law 446 = .ok (.aload_n 1, 1) := by decide +kernel
theorem dL_law_447 : decode cL_law 447 = .ok (.aload_n 0, 1) := by decide +kernel
theorem dL_law_448 : decode cL_law 448 = .ok (.iload 4, 2) := by decide +kernel
theorem dL_law_450 : decode cL_law 450 = .ok (.iconst 1, 1) := by decide +kernel
theorem dL_law_451 : decode cL_law 451 = .ok (.iadd, 1) := by decide +kernel
theorem dL_law_452 : decode cL_law 452 = .ok (.iaload, 1) := by decide +kernel
theorem dL_law_453 : decode cL_law 453 = .ok (.aload_n 0, 1) := by decide +kernel
theorem dL_law_454 : decode cL_law 454 = .ok (.iload 4, 2) := by decide +kernel
theorem dL_law_456 : decode cL_law 456 = .ok (.iconst 2, 1) := by decide +kernel
theorem dL_law_457 : decode cL_law 457 = .ok (.iadd, 1) := by decide +kernel
theorem dL_law_458 : decode cL_law 458 = .ok (.iaload, 1) := by decide +kernel
theorem dL_law_459 : decode cL_law 459 = .ok (.invokevirtual 63, 3) := by decide +kernel
theorem dL_law_462 : decode cL_law 462 = .ok (.aload_n 2, 1) := by decide +kernel
theorem dL_law_463 : decode cL_law 463 = .ok (.aload_n 0, 1) := by decide +kernel
theorem dL_law_464 : decode cL_law 464 = .ok (.iload 4, 2) := by decide +kernel
theorem dL_law_466 : decode cL_law 466 = .ok (.iconst 1, 1) := by decide +kernel
theorem dL_law_467 : decode cL_law 467 = .ok (.iadd, 1) := by decide +kernel
theorem dL_law_468 : decode cL_law 468 = .ok (.iaload, 1) := by decide +kernel
theorem dL_law_469 : decode cL_law 469 = .ok (.aload_n 0, 1) := by decide +kernel
theorem dL_law_470 : decode cL_law 470 = .ok (.iload 4, 2) := by decide +kernel
theorem dL_law_472 : decode cL_law 472 = .ok (.iconst 2, 1) := by decide +kernel
theorem dL_law_473 : decode cL_law 473 = .ok (.iadd, 1) := by decide +kernel
theorem dL_law_474 : decode cL_law 474 = .ok (.iaload, 1) := by decide +kernel
theorem dL_law_475 : decode cL_law 475 = .ok (.invokevirtual 66, 3) := by decide +kernel
theorem dL_law_478 : decode cL_law 478 = .ok (.if_icmp .eq 68, 3) := by decide +kernel
theorem dL_law_481 : decode cL_law 481 = .ok (.iconst 0, 1) := by decide +kernel
theorem dL_law_482 : decode cL_law 482 = .ok (.ireturn, 1) := by decide +kernel
theorem dL_law_483 : decode cL_law 483 = .ok (.aload_n 1, 1) := by decide +kernel
theorem dL_law_484 : decode cL_law 484 = .ok (.invokevirtual 67, 3) := by decide +kernel
theorem dL_law_487 : decode cL_law 487 = .ok (.aload_n 2, 1) := by decide +kernel
theorem dL_law_488 : decode cL_law 488 = .ok (.invokevirtual 70, 3) := by decide +kernel
theorem dL_law_491 : decode cL_law 491 = .ok (.if_icmp .eq 55, 3) := by decide +kernel
theorem dL_law_494 : decode cL_law 494 = .ok (.iconst 0, 1) := by decide +kernel
theorem dL_law_495 : decode cL_law 495 = .ok (.ireturn, 1) := by decide +kernel
theorem dL_law_496 : decode cL_law 496 = .ok (.aload_n 1, 1) := by decide +kernel
theorem dL_law_497 : decode cL_law 497 = .ok (.aload_n 0, 1) := by decide +kernel
theorem dL_law_498 : decode cL_law 498 = .ok (.iload 4, 2) := by decide +kernel
theorem dL_law_500 : decode cL_law 500 = .ok (.iconst 1, 1) := by decide +kernel
theorem dL_law_501 : decode cL_law 501 = .ok (.iadd, 1) := by decide +kernel
theorem dL_law_502 : decode cL_law 502 = .ok (.iaload, 1) := by decide +kernel
theorem dL_law_503 : decode cL_law 503 = .ok (.invokevirtual 71, 3) := by decide +kernel
theorem dL_law_506 : decode cL_law 506 = .ok (.aload_n 2, 1) := by decide +kernel
theorem dL_law_507 : decode cL_law 507 = .ok (.aload_n 0, 1) := by decide +kernel
theorem dL_law_508 : decode cL_law 508 = .ok (.iload 4, 2) := by decide +kernel
theorem dL_law_510 : decode cL_law 510 = .ok (.iconst 1, 1) := by decide +kernel
theorem dL_law_511 : decode cL_law 511 = .ok (.iadd, 1) := by decide +kernel
theorem dL_law_512 : decode cL_law 512 = .ok (.iaload, 1) := by decide +kernel
theorem dL_law_513 : decode cL_law 513 = .ok (.invokevirtual 74, 3) := by decide +kernel
theorem dL_law_516 : decode cL_law 516 = .ok (.if_icmp .eq 30, 3) := by decide +kernel
theorem dL_law_519 : decode cL_law 519 = .ok (.iconst 0, 1) := by decide +kernel
theorem dL_law_520 : decode cL_law 520 = .ok (.ireturn, 1) := by decide +kernel
theorem dL_law_521 : decode cL_law 521 = .ok (.aload_n 1, 1) := by decide +kernel
theorem dL_law_522 : decode cL_law 522 = .ok (.aload_n 0, 1) := by decide +kernel
theorem dL_law_523 : decode cL_law 523 = .ok (.iload 4, 2) := by decide +kernel
theorem dL_law_525 : decode cL_law 525 = .ok (.iconst 1, 1) := by decide +kernel
theorem dL_law_526 : decode cL_law 526 = .ok (.iadd, 1) := by decide +kernel
theorem dL_law_527 : decode cL_law 527 = .ok (.iaload, 1) := by decide +kernel
theorem dL_law_528 : decode cL_law 528 = .ok (.invokevirtual 75, 3) := by decide +kernel
theorem dL_law_531 : decode cL_law 531 = .ok (.aload_n 2, 1) := by decide +kernel
theorem dL_law_532 : decode cL_law 532 = .ok (.aload_n 0, 1) := by decide +kernel
theorem dL_law_533 : decode cL_law 533 = .ok (.iload 4, 2) := by decide +kernel
theorem dL_law_535 : decode cL_law 535 = .ok (.iconst 1, 1) := by decide +kernel
theorem dL_law_536 : decode cL_law 536 = .ok (.iadd, 1) := by decide +kernel
theorem dL_law_537 : decode cL_law 537 = .ok (.iaload, 1) := by decide +kernel
theorem dL_law_538 : decode cL_law 538 = .ok (.invokevirtual 78, 3) := by decide +kernel
theorem dL_law_541 : decode cL_law 541 = .ok (.if_icmp .eq 5, 3) := by decide +kernel
theorem dL_law_544 : decode cL_law 544 = .ok (.iconst 0, 1) := by decide +kernel
theorem dL_law_545 : decode cL_law 545 = .ok (.ireturn, 1) := by decide +kernel
theorem dL_law_546 : decode cL_law 546 = .ok (.iinc 4 5, 3) := by decide +kernel
theorem dL_law_549 : decode cL_law 549 = .ok (.goto (-526), 3) := by decide +kernel
theorem dL_law_552 : decode cL_law 552 = .ok (.iconst 1, 1) := by decide +kernel
theorem dL_law_553 : decode cL_law 553 = .ok (.ireturn, 1) := by decide +kernel
end
section
def kw (U : State) : Prop := ∀ w ∈ lw_tbl, goodWord w = true → w.before #[] U = true
theorem kw.same {u U : State} (h : U.vm = u.vm) (k : kw u) : kw U := fun w hw hg => word_at (by rw [h]; exact State.WarmedH.refl u) (good_of_word hg) (k w hw hg)
theorem kw.warm {s U : State} (hW : s.WarmedH U.vm) (k : kw s) : kw U := fun w hw hg => word_at hW (good_of_word hg) (k w hw hg)
theorem kw.use {U : State} (k : kw U) (A : Array Value) {w : Cond} (hw : w ∈ lw_tbl) (hg : goodWord w = true) : w.before A U = true := word_at (State.WarmedH.refl U) (good_of_word hg) (k w hw hg)
theorem se_X9_X9_make {U : State} (h : kw U) (A : Array Value) : (Cond.selects "AlarmKinds" ({ cls := "AlarmKinds", name := "make", desc := "(IIII)LAlarmKinds$Plain;" } : MethodName) ({ cls := "AlarmKinds", name := "make", desc := "(IIII)LAlarmKinds$Plain;" } : MethodName)).before A U = true := kw.use h A (List.mem_of_getElem? (i := 0) (by decide +kernel)) rfl
theorem se_X9_X9_find {U : State} (h : kw U) (A : Array Value) : (Cond.selects "AlarmKinds" ({ cls := "AlarmKinds", name := "find", desc := "(I)LAlarmKinds$Plain;" } : MethodName) ({ cls := "AlarmKinds", name := "find", desc := "(I)LAlarmKinds$Plain;" } : MethodName)).before A U = true := kw.use h A (List.mem_of_getElem? (i := 1) (by decide +kernel)) rfl
theorem se_X9_X9_findIn {U : State} (h : kw U) (A : Array Value) : (Cond.selects "AlarmKinds" ({ cls := "AlarmKinds", name := "findIn", desc := "(II)LAlarmKinds$Plain;" } : MethodName) ({ cls := "AlarmKinds", name := "findIn", desc := "(II)LAlarmKinds$Plain;" } : MethodName)).before A U = true := kw.use h A (List.mem_of_getElem? (i := 2) (by decide +kernel)) rfl
theorem se_T_T_fillInStackTrace {U : State} (h : kw U) (A : Array Value) : (Cond.selects "java/lang/Throwable" ({ cls := "java/lang/Throwable", name := "fillInStackTrace", desc := "(I)Ljava/lang/Throwable;" } : MethodName) ({ cls := "java/lang/Throwable", name := "fillInStackTrace", desc := "(I)Ljava/lang/Throwable;" } : MethodName)).before A U = true := kw.use h A (List.mem_of_getElem? (i := 3) (by decide +kernel)) rfl
theorem se_X10_X10_refused {U : State} (h : kw U) (A : Array Value) : (Cond.selects "AlarmKindsModel" ({ cls := "AlarmKindsModel", name := "refused", desc := "(II)I" } : MethodName) ({ cls := "AlarmKindsModel", name := "refused", desc := "(II)I" } : MethodName)).before A U = true := kw.use h A (List.mem_of_getElem? (i := 4) (by decide +kernel)) rfl
theorem se_X10_X10_isThere {U : State} (h : kw U) (A : Array Value) : (Cond.selects "AlarmKindsModel" ({ cls := "AlarmKindsModel", name := "isThere", desc := "(I)Z" } : MethodName) ({ cls := "AlarmKindsModel", name := "isThere", desc := "(I)Z" } : MethodName)).before A U = true := kw.use h A (List.mem_of_getElem? (i := 5) (by decide +kernel)) rfl
theorem se_X10_X10_readOf {U : State} (h : kw U) (A : Array Value) : (Cond.selects "AlarmKindsModel" ({ cls := "AlarmKindsModel", name := "readOf", desc := "(II)V" } : MethodName) ({ cls := "AlarmKindsModel", name := "readOf", desc := "(II)V" } : MethodName)).before A U = true := kw.use h A (List.mem_of_getElem? (i := 6) (by decide +kernel)) rfl
theorem se_X10_X10_readSmoke {U : State} (h : kw U) (A : Array Value) : (Cond.selects "AlarmKindsModel" ({ cls := "AlarmKindsModel", name := "readSmoke", desc := "(II)V" } : MethodName) ({ cls := "AlarmKindsModel", name := "readSmoke", desc := "(II)V" } : MethodName)).before A U = true := kw.use h A (List.mem_of_getElem? (i := 7) (by decide +kernel)) rfl
theorem se_X10_X10_rule {U : State} (h : kw U) (A : Array Value) : (Cond.selects "AlarmKindsModel" ({ cls := "AlarmKindsModel", name := "rule", desc := "(II)V" } : MethodName) ({ cls := "AlarmKindsModel", name := "rule", desc := "(II)V" } : MethodName)).before A U = true := kw.use h A (List.mem_of_getElem? (i := 8) (by decide +kernel)) rfl
theorem se_X10_X10_readPlain {U : State} (h : kw U) (A : Array Value) : (Cond.selects "AlarmKindsModel" ({ cls := "AlarmKindsModel", name := "readPlain", desc := "(II)V" } : MethodName) ({ cls := "AlarmKindsModel", name := "readPlain", desc := "(II)V" } : MethodName)).before A U = true := kw.use h A (List.mem_of_getElem? (i := 9) (by decide +kernel)) rfl
theorem se_X10_X10_weighed {U : State} (h : kw U) (A : Array Value) : (Cond.selects "AlarmKindsModel" ({ cls := "AlarmKindsModel", name := "weighed", desc := "(II)I" } : MethodName) ({ cls := "AlarmKindsModel", name := "weighed", desc := "(II)I" } : MethodName)).before A U = true := kw.use h A (List.mem_of_getElem? (i := 10) (by decide +kernel)) rfl
theorem se_X10_X10_radio {U : State} (h : kw U) (A : Array Value) : (Cond.selects "AlarmKindsModel" ({ cls := "AlarmKindsModel", name := "radio", desc := "(I)Z" } : MethodName) ({ cls := "AlarmKindsModel", name := "radio", desc := "(I)Z" } : MethodName)).before A U = true := kw.use h A (List.mem_of_getElem? (i := 11) (by decide +kernel)) rfl
theorem se_X10_X10_flat {U : State} (h : kw U) (A : Array Value) : (Cond.selects "AlarmKindsModel" ({ cls := "AlarmKindsModel", name := "flat", desc := "()V" } : MethodName) ({ cls := "AlarmKindsModel", name := "flat", desc := "()V" } : MethodName)).before A U = true := kw.use h A (List.mem_of_getElem? (i := 12) (by decide +kernel)) rfl
theorem se_X10_X10_isOver {U : State} (h : kw U) (A : Array Value) : (Cond.selects "AlarmKindsModel" ({ cls := "AlarmKindsModel", name := "isOver", desc := "(I)Z" } : MethodName) ({ cls := "AlarmKindsModel", name := "isOver", desc := "(I)Z" } : MethodName)).before A U = true := kw.use h A (List.mem_of_getElem? (i := 13) (by decide +kernel)) rfl
theorem se_X10_X10_overPlain {U : State} (h : kw U) (A : Array Value) : (Cond.selects "AlarmKindsModel" ({ cls := "AlarmKindsModel", name := "overPlain", desc := "(I)Z" } : MethodName) ({ cls := "AlarmKindsModel", name := "overPlain", desc := "(I)Z" } : MethodName)).before A U = true := kw.use h A (List.mem_of_getElem? (i := 14) (by decide +kernel)) rfl
theorem se_X10_X10_costOf {U : State} (h : kw U) (A : Array Value) : (Cond.selects "AlarmKindsModel" ({ cls := "AlarmKindsModel", name := "costOf", desc := "(I)I" } : MethodName) ({ cls := "AlarmKindsModel", name := "costOf", desc := "(I)I" } : MethodName)).before A U = true := kw.use h A (List.mem_of_getElem? (i := 15) (by decide +kernel)) rfl
theorem in_L {U : State} (h : kw U) (A : Array Value) : (Cond.initialized "AlarmKindsLaw").before A U = true := kw.use h A (List.mem_of_getElem? (i := 16) (by decide +kernel)) rfl
theorem in_X9 {U : State} (h : kw U) (A : Array Value) : (Cond.initialized "AlarmKinds").before A U = true := kw.use h A (List.mem_of_getElem? (i := 17) (by decide +kernel)) rfl
theorem in_X6 {U : State} (h : kw U) (A : Array Value) : (Cond.initialized "AlarmKinds$Trace").before A U = true := kw.use h A (List.mem_of_getElem? (i := 18) (by decide +kernel)) rfl
theorem in_X10 {U : State} (h : kw U) (A : Array Value) : (Cond.initialized "AlarmKindsModel").before A U = true := kw.use h A (List.mem_of_getElem? (i := 19) (by decide +kernel)) rfl
theorem in_X3 {U : State} (h : kw U) (A : Array Value) : (Cond.initialized "AlarmKinds$Plain").before A U = true := kw.use h A (List.mem_of_getElem? (i := 20) (by decide +kernel)) rfl
theorem in_X8 {U : State} (h : kw U) (A : Array Value) : (Cond.initialized "AlarmKinds$Wired").before A U = true := kw.use h A (List.mem_of_getElem? (i := 21) (by decide +kernel)) rfl
theorem in_X4 {U : State} (h : kw U) (A : Array Value) : (Cond.initialized "AlarmKinds$Radio").before A U = true := kw.use h A (List.mem_of_getElem? (i := 22) (by decide +kernel)) rfl
theorem in_X5 {U : State} (h : kw U) (A : Array Value) : (Cond.initialized "AlarmKinds$Smoke").before A U = true := kw.use h A (List.mem_of_getElem? (i := 23) (by decide +kernel)) rfl
theorem in_X2 {U : State} (h : kw U) (A : Array Value) : (Cond.initialized "AlarmKinds$Heat").before A U = true := kw.use h A (List.mem_of_getElem? (i := 24) (by decide +kernel)) rfl
theorem in_X0 {U : State} (h : kw U) (A : Array Value) : (Cond.initialized "AlarmKinds$Beam").before A U = true := kw.use h A (List.mem_of_getElem? (i := 25) (by decide +kernel)) rfl
theorem in_X1 {U : State} (h : kw U) (A : Array Value) : (Cond.initialized "AlarmKinds$Flood").before A U = true := kw.use h A (List.mem_of_getElem? (i := 26) (by decide +kernel)) rfl
theorem in_X7 {U : State} (h : kw U) (A : Array Value) : (Cond.initialized "AlarmKinds$Twin").before A U = true := kw.use h A (List.mem_of_getElem? (i := 27) (by decide +kernel)) rfl
theorem in_T {U : State} (h : kw U) (A : Array Value) : (Cond.initialized "java/lang/Throwable").before A U = true := kw.use h A (List.mem_of_getElem? (i := 28) (by decide +kernel)) rfl
theorem in_E {U : State} (h : kw U) (A : Array Value) : (Cond.initialized "java/lang/Exception").before A U = true := kw.use h A (List.mem_of_getElem? (i := 29) (by decide +kernel)) rfl
theorem in_RE {U : State} (h : kw U) (A : Array Value) : (Cond.initialized "java/lang/RuntimeException").before A U = true := kw.use h A (List.mem_of_getElem? (i := 30) (by decide +kernel)) rfl
theorem in_IS {U : State} (h : kw U) (A : Array Value) : (Cond.initialized "java/lang/IllegalStateException").before A U = true := kw.use h A (List.mem_of_getElem? (i := 31) (by decide +kernel)) rfl
theorem in_AE {U : State} (h : kw U) (A : Array Value) : (Cond.initialized "java/lang/ArithmeticException").before A U = true := kw.use h A (List.mem_of_getElem? (i := 32) (by decide +kernel)) rfl
theorem in_J9 {U : State} (h : kw U) (A : Array Value) : (Cond.initialized "java/lang/Math").before A U = true := kw.use h A (List.mem_of_getElem? (i := 33) (by decide +kernel)) rfl
theorem cl_L_8 {U : State} (h : kw U) (A : Array Value) : (Cond.classLink "AlarmKindsLaw" (8 : Nat) "AlarmKinds").before A U = true := kw.use h A (List.mem_of_getElem? (i := 34) (by decide +kernel)) rfl
theorem ia_X9 {U : State} (h : kw U) (A : Array Value) : (Cond.instantiable "AlarmKinds" (3 : Nat)).before A U = true := kw.use h A (List.mem_of_getElem? (i := 35) (by decide +kernel)) rfl
theorem ml_L_20 {U : State} (h : kw U) (A : Array Value) : (Cond.methodLink "AlarmKindsLaw" (20 : Nat) ({ cls := "AlarmKinds", name := "<init>", desc := "()V" } : MethodName)).before A U = true := kw.use h A (List.mem_of_getElem? (i := 36) (by decide +kernel)) rfl
theorem im_X9_init {U : State} (h : kw U) (A : Array Value) : (Cond.instanceMethod ({ cls := "AlarmKinds", name := "<init>", desc := "()V" } : MethodName)).before A U = true := kw.use h A (List.mem_of_getElem? (i := 37) (by decide +kernel)) rfl
theorem co_X9_init {U : State} (h : kw U) (A : Array Value) : (Cond.code ({ cls := "AlarmKinds", name := "<init>", desc := "()V" } : MethodName) prog_1_method_1_code (1 : Nat) (Option.none : Option FieldType)).before A U = true := kw.use h A (List.mem_of_getElem? (i := 38) (by decide +kernel)) rfl
theorem ml_X9_1 {U : State} (h : kw U) (A : Array Value) : (Cond.methodLink "AlarmKinds" (1 : Nat) ({ cls := "java/lang/Object", name := "<init>", desc := "()V" } : MethodName)).before A U = true := kw.use h A (List.mem_of_getElem? (i := 39) (by decide +kernel)) rfl
theorem im_O_init {U : State} (h : kw U) (A : Array Value) : (Cond.instanceMethod ({ cls := "java/lang/Object", name := "<init>", desc := "()V" } : MethodName)).before A U = true := kw.use h A (List.mem_of_getElem? (i := 40) (by decide +kernel)) rfl
theorem co_O_init {U : State} (h : kw U) (A : Array Value) : (Cond.code ({ cls := "java/lang/Object", name := "<init>", desc := "()V" } : MethodName) object_method_1_code (1 : Nat) (Option.none : Option FieldType)).before A U = true := kw.use h A (List.mem_of_getElem? (i := 41) (by decide +kernel)) rfl
theorem cl_X9_9 {U : State} (h : kw U) (A : Array Value) : (Cond.classLink "AlarmKinds" (9 : Nat) "AlarmKinds$Plain").before A U = true := kw.use h A (List.mem_of_getElem? (i := 42) (by decide +kernel)) rfl
theorem cl_X9_15 {U : State} (h : kw U) (A : Array Value) : (Cond.classLink "AlarmKinds" (15 : Nat) "AlarmKinds$Trace").before A U = true := kw.use h A (List.mem_of_getElem? (i := 44) (by decide +kernel)) rfl
theorem ia_X6 {U : State} (h : kw U) (A : Array Value) : (Cond.instantiable "AlarmKinds$Trace" (6 : Nat)).before A U = true := kw.use h A (List.mem_of_getElem? (i := 45) (by decide +kernel)) rfl
theorem ml_X9_17 {U : State} (h : kw U) (A : Array Value) : (Cond.methodLink "AlarmKinds" (17 : Nat) ({ cls := "AlarmKinds$Trace", name := "<init>", desc := "()V" } : MethodName)).before A U = true := kw.use h A (List.mem_of_getElem? (i := 46) (by decide +kernel)) rfl
theorem im_X6_init {U : State} (h : kw U) (A : Array Value) : (Cond.instanceMethod ({ cls := "AlarmKinds$Trace", name := "<init>", desc := "()V" } : MethodName)).before A U = true := kw.use h A (List.mem_of_getElem? (i := 47) (by decide +kernel)) rfl
theorem co_X6_init {U : State} (h : kw U) (A : Array Value) : (Cond.code ({ cls := "AlarmKinds$Trace", name := "<init>", desc := "()V" } : MethodName) prog_8_method_1_code (1 : Nat) (Option.none : Option FieldType)).before A U = true := kw.use h A (List.mem_of_getElem? (i := 48) (by decide +kernel)) rfl
theorem ml_X6_3 {U : State} (h : kw U) (A : Array Value) : (Cond.methodLink "AlarmKinds$Trace" (3 : Nat) ({ cls := "java/lang/Object", name := "<init>", desc := "()V" } : MethodName)).before A U = true := kw.use h A (List.mem_of_getElem? (i := 49) (by decide +kernel)) rfl
theorem fl_X6_9 {U : State} (h : kw U) (A : Array Value) : (Cond.fieldLink "AlarmKinds$Trace" (9 : Nat) "AlarmKinds$Trace" "ring" "[I").before A U = true := kw.use h A (List.mem_of_getElem? (i := 50) (by decide +kernel)) rfl
theorem fl_X6_15 {U : State} (h : kw U) (A : Array Value) : (Cond.fieldLink "AlarmKinds$Trace" (15 : Nat) "AlarmKinds$Trace" "next" "I").before A U = true := kw.use h A (List.mem_of_getElem? (i := 51) (by decide +kernel)) rfl
theorem fl_X6_19 {U : State} (h : kw U) (A : Array Value) : (Cond.fieldLink "AlarmKinds$Trace" (19 : Nat) "AlarmKinds$Trace" "kept" "I").before A U = true := kw.use h A (List.mem_of_getElem? (i := 52) (by decide +kernel)) rfl
theorem fl_X6_22 {U : State} (h : kw U) (A : Array Value) : (Cond.fieldLink "AlarmKinds$Trace" (22 : Nat) "AlarmKinds$Trace" "begun" "I").before A U = true := kw.use h A (List.mem_of_getElem? (i := 53) (by decide +kernel)) rfl
theorem fl_X9_105 {U : State} (h : kw U) (A : Array Value) : (Cond.fieldLink "AlarmKinds" (105 : Nat) "AlarmKinds$Trace" "begun" "I").before A U = true := kw.use h A (List.mem_of_getElem? (i := 54) (by decide +kernel)) rfl
theorem fl_X4_25 {U : State} (h : kw U) (A : Array Value) : (Cond.fieldLink "AlarmKinds$Radio" (25 : Nat) "AlarmKinds$Trace" "flats" "I").before A U = true := kw.use h A (List.mem_of_getElem? (i := 55) (by decide +kernel)) rfl
theorem fl_X9_108 {U : State} (h : kw U) (A : Array Value) : (Cond.fieldLink "AlarmKinds" (108 : Nat) "AlarmKinds$Trace" "flats" "I").before A U = true := kw.use h A (List.mem_of_getElem? (i := 56) (by decide +kernel)) rfl
theorem fl_X0_25 {U : State} (h : kw U) (A : Array Value) : (Cond.fieldLink "AlarmKinds$Beam" (25 : Nat) "AlarmKinds$Trace" "arithmetics" "I").before A U = true := kw.use h A (List.mem_of_getElem? (i := 57) (by decide +kernel)) rfl
theorem fl_X9_111 {U : State} (h : kw U) (A : Array Value) : (Cond.fieldLink "AlarmKinds" (111 : Nat) "AlarmKinds$Trace" "arithmetics" "I").before A U = true := kw.use h A (List.mem_of_getElem? (i := 58) (by decide +kernel)) rfl
theorem su_X6 {U : State} (h : kw U) (A : Array Value) : (Cond.superclass "AlarmKinds$Trace" "java/lang/Object").before A U = true := kw.use h A (List.mem_of_getElem? (i := 71) (by decide +kernel)) rfl
theorem ac_I {U : State} (h : kw U) (A : Array Value) : (Cond.arrayClass FieldType.int).before A U = true := kw.use h A (List.mem_of_getElem? (i := 72) (by decide +kernel)) rfl
theorem fl_X9_11 {U : State} (h : kw U) (A : Array Value) : (Cond.fieldLink "AlarmKinds" (11 : Nat) "AlarmKinds" "detectors" "[LAlarmKinds$Plain;").before A U = true := kw.use h A (List.mem_of_getElem? (i := 73) (by decide +kernel)) rfl
theorem fl_X9_18 {U : State} (h : kw U) (A : Array Value) : (Cond.fieldLink "AlarmKinds" (18 : Nat) "AlarmKinds" "trace" "LAlarmKinds$Trace;").before A U = true := kw.use h A (List.mem_of_getElem? (i := 74) (by decide +kernel)) rfl
theorem fl_X9_22 {U : State} (h : kw U) (A : Array Value) : (Cond.fieldLink "AlarmKinds" (22 : Nat) "AlarmKinds" "made" "I").before A U = true := kw.use h A (List.mem_of_getElem? (i := 75) (by decide +kernel)) rfl
theorem su_X9 {U : State} (h : kw U) (A : Array Value) : (Cond.superclass "AlarmKinds" "java/lang/Object").before A U = true := kw.use h A (List.mem_of_getElem? (i := 82) (by decide +kernel)) rfl
theorem ml_L_24 {U : State} (h : kw U) (A : Array Value) : (Cond.methodLink "AlarmKindsLaw" (24 : Nat) ({ cls := "AlarmKinds", name := "add", desc := "(IIII)I" } : MethodName)).before A U = true := kw.use h A (List.mem_of_getElem? (i := 83) (by decide +kernel)) rfl
theorem im_X9_add {U : State} (h : kw U) (A : Array Value) : (Cond.instanceMethod ({ cls := "AlarmKinds", name := "add", desc := "(IIII)I" } : MethodName)).before A U = true := kw.use h A (List.mem_of_getElem? (i := 84) (by decide +kernel)) rfl
theorem se_X9_X9_add {U : State} (h : kw U) (A : Array Value) : (Cond.selects "AlarmKinds" ({ cls := "AlarmKinds", name := "add", desc := "(IIII)I" } : MethodName) ({ cls := "AlarmKinds", name := "add", desc := "(IIII)I" } : MethodName)).before A U = true := kw.use h A (List.mem_of_getElem? (i := 85) (by decide +kernel)) rfl
theorem co_X9_add {U : State} (h : kw U) (A : Array Value) : (Cond.code ({ cls := "AlarmKinds", name := "add", desc := "(IIII)I" } : MethodName) prog_1_method_2_code (5 : Nat) (Option.some FieldType.int)).before A U = true := kw.use h A (List.mem_of_getElem? (i := 86) (by decide +kernel)) rfl
theorem ml_X9_26 {U : State} (h : kw U) (A : Array Value) : (Cond.methodLink "AlarmKinds" (26 : Nat) ({ cls := "AlarmKinds", name := "isKind", desc := "(I)Z" } : MethodName)).before A U = true := kw.use h A (List.mem_of_getElem? (i := 87) (by decide +kernel)) rfl
theorem st_X9_isKind {U : State} (h : kw U) (A : Array Value) : (Cond.static ({ cls := "AlarmKinds", name := "isKind", desc := "(I)Z" } : MethodName)).before A U = true := kw.use h A (List.mem_of_getElem? (i := 88) (by decide +kernel)) rfl
theorem co_X9_isKind {U : State} (h : kw U) (A : Array Value) : (Cond.code ({ cls := "AlarmKinds", name := "isKind", desc := "(I)Z" } : MethodName) prog_1_method_17_code (1 : Nat) (Option.some FieldType.boolean)).before A U = true := kw.use h A (List.mem_of_getElem? (i := 89) (by decide +kernel)) rfl
theorem ml_X9_30 {U : State} (h : kw U) (A : Array Value) : (Cond.methodLink "AlarmKinds" (30 : Nat) ({ cls := "AlarmKinds", name := "isZone", desc := "(I)Z" } : MethodName)).before A U = true := kw.use h A (List.mem_of_getElem? (i := 90) (by decide +kernel)) rfl
theorem st_X9_isZone {U : State} (h : kw U) (A : Array Value) : (Cond.static ({ cls := "AlarmKinds", name := "isZone", desc := "(I)Z" } : MethodName)).before A U = true := kw.use h A (List.mem_of_getElem? (i := 91) (by decide +kernel)) rfl
theorem co_X9_isZone {U : State} (h : kw U) (A : Array Value) : (Cond.code ({ cls := "AlarmKinds", name := "isZone", desc := "(I)Z" } : MethodName) prog_1_method_18_code (1 : Nat) (Option.some FieldType.boolean)).before A U = true := kw.use h A (List.mem_of_getElem? (i := 92) (by decide +kernel)) rfl
theorem ml_X9_33 {U : State} (h : kw U) (A : Array Value) : (Cond.methodLink "AlarmKinds" (33 : Nat) ({ cls := "AlarmKinds", name := "isNear", desc := "(I)Z" } : MethodName)).before A U = true := kw.use h A (List.mem_of_getElem? (i := 93) (by decide +kernel)) rfl
theorem st_X9_isNear {U : State} (h : kw U) (A : Array Value) : (Cond.static ({ cls := "AlarmKinds", name := "isNear", desc := "(I)Z" } : MethodName)).before A U = true := kw.use h A (List.mem_of_getElem? (i := 94) (by decide +kernel)) rfl
theorem co_X9_isNear {U : State} (h : kw U) (A : Array Value) : (Cond.code ({ cls := "AlarmKinds", name := "isNear", desc := "(I)Z" } : MethodName) prog_1_method_19_code (1 : Nat) (Option.some FieldType.boolean)).before A U = true := kw.use h A (List.mem_of_getElem? (i := 95) (by decide +kernel)) rfl
theorem ml_X9_36 {U : State} (h : kw U) (A : Array Value) : (Cond.methodLink "AlarmKinds" (36 : Nat) ({ cls := "AlarmKinds", name := "isCharge", desc := "(I)Z" } : MethodName)).before A U = true := kw.use h A (List.mem_of_getElem? (i := 96) (by decide +kernel)) rfl
theorem st_X9_isCharge {U : State} (h : kw U) (A : Array Value) : (Cond.static ({ cls := "AlarmKinds", name := "isCharge", desc := "(I)Z" } : MethodName)).before A U = true := kw.use h A (List.mem_of_getElem? (i := 97) (by decide +kernel)) rfl
theorem co_X9_isCharge {U : State} (h : kw U) (A : Array Value) : (Cond.code ({ cls := "AlarmKinds", name := "isCharge", desc := "(I)Z" } : MethodName) prog_1_method_20_code (1 : Nat) (Option.some FieldType.boolean)).before A U = true := kw.use h A (List.mem_of_getElem? (i := 98) (by decide +kernel)) rfl
theorem ml_X9_39 {U : State} (h : kw U) (A : Array Value) : (Cond.methodLink "AlarmKinds" (39 : Nat) ({ cls := "AlarmKinds", name := "make", desc := "(IIII)LAlarmKinds$Plain;" } : MethodName)).before A U = true := kw.use h A (List.mem_of_getElem? (i := 99) (by decide +kernel)) rfl
theorem im_X9_make {U : State} (h : kw U) (A : Array Value) : (Cond.instanceMethod ({ cls := "AlarmKinds", name := "make", desc := "(IIII)LAlarmKinds$Plain;" } : MethodName)).before A U = true := kw.use h A (List.mem_of_getElem? (i := 101) (by decide +kernel)) rfl
theorem co_X9_make {U : State} (h : kw U) (A : Array Value) : (Cond.code ({ cls := "AlarmKinds", name := "make", desc := "(IIII)LAlarmKinds$Plain;" } : MethodName) prog_1_method_16_code (5 : Nat) (Option.some (FieldType.object "AlarmKinds$Plain"))).before A U = true := kw.use h A (List.mem_of_getElem? (i := 102) (by decide +kernel)) rfl
theorem cl_X9_114 {U : State} (h : kw U) (A : Array Value) : (Cond.classLink "AlarmKinds" (114 : Nat) "AlarmKinds$Wired").before A U = true := kw.use h A (List.mem_of_getElem? (i := 103) (by decide +kernel)) rfl
theorem ia_X8 {U : State} (h : kw U) (A : Array Value) : (Cond.instantiable "AlarmKinds$Wired" (9 : Nat)).before A U = true := kw.use h A (List.mem_of_getElem? (i := 104) (by decide +kernel)) rfl
theorem ml_X9_116 {U : State} (h : kw U) (A : Array Value) : (Cond.methodLink "AlarmKinds" (116 : Nat) ({ cls := "AlarmKinds$Wired", name := "<init>", desc := "(LAlarmKinds$Trace;IIII)V" } : MethodName)).before A U = true := kw.use h A (List.mem_of_getElem? (i := 105) (by decide +kernel)) rfl
theorem im_X8_init {U : State} (h : kw U) (A : Array Value) : (Cond.instanceMethod ({ cls := "AlarmKinds$Wired", name := "<init>", desc := "(LAlarmKinds$Trace;IIII)V" } : MethodName)).before A U = true := kw.use h A (List.mem_of_getElem? (i := 106) (by decide +kernel)) rfl
theorem co_X8_init {U : State} (h : kw U) (A : Array Value) : (Cond.code ({ cls := "AlarmKinds$Wired", name := "<init>", desc := "(LAlarmKinds$Trace;IIII)V" } : MethodName) prog_10_method_1_code (6 : Nat) (Option.none : Option FieldType)).before A U = true := kw.use h A (List.mem_of_getElem? (i := 107) (by decide +kernel)) rfl
theorem ml_X8_1 {U : State} (h : kw U) (A : Array Value) : (Cond.methodLink "AlarmKinds$Wired" (1 : Nat) ({ cls := "AlarmKinds$Plain", name := "<init>", desc := "(LAlarmKinds$Trace;IIII)V" } : MethodName)).before A U = true := kw.use h A (List.mem_of_getElem? (i := 108) (by decide +kernel)) rfl
theorem im_X3_init {U : State} (h : kw U) (A : Array Value) : (Cond.instanceMethod ({ cls := "AlarmKinds$Plain", name := "<init>", desc := "(LAlarmKinds$Trace;IIII)V" } : MethodName)).before A U = true := kw.use h A (List.mem_of_getElem? (i := 109) (by decide +kernel)) rfl
theorem co_X3_init {U : State} (h : kw U) (A : Array Value) : (Cond.code ({ cls := "AlarmKinds$Plain", name := "<init>", desc := "(LAlarmKinds$Trace;IIII)V" } : MethodName) prog_5_method_1_code (6 : Nat) (Option.none : Option FieldType)).before A U = true := kw.use h A (List.mem_of_getElem? (i := 110) (by decide +kernel)) rfl
theorem ml_X3_3 {U : State} (h : kw U) (A : Array Value) : (Cond.methodLink "AlarmKinds$Plain" (3 : Nat) ({ cls := "java/lang/Object", name := "<init>", desc := "()V" } : MethodName)).before A U = true := kw.use h A (List.mem_of_getElem? (i := 111) (by decide +kernel)) rfl
theorem fl_X3_9 {U : State} (h : kw U) (A : Array Value) : (Cond.fieldLink "AlarmKinds$Plain" (9 : Nat) "AlarmKinds$Plain" "trace" "LAlarmKinds$Trace;").before A U = true := kw.use h A (List.mem_of_getElem? (i := 112) (by decide +kernel)) rfl
theorem fl_X0_9 {U : State} (h : kw U) (A : Array Value) : (Cond.fieldLink "AlarmKinds$Beam" (9 : Nat) "AlarmKinds$Beam" "trace" "LAlarmKinds$Trace;").before A U = true := kw.use h A (List.mem_of_getElem? (i := 113) (by decide +kernel)) rfl
theorem sf_X0_trace {U : State} (h : kw U) (A : Array Value) : (Cond.sameField "AlarmKinds$Beam" "AlarmKinds$Plain" "trace" "LAlarmKinds$Trace;").before A U = true := kw.use h A (List.mem_of_getElem? (i := 114) (by decide +kernel)) rfl
theorem fl_X4_9 {U : State} (h : kw U) (A : Array Value) : (Cond.fieldLink "AlarmKinds$Radio" (9 : Nat) "AlarmKinds$Radio" "trace" "LAlarmKinds$Trace;").before A U = true := kw.use h A (List.mem_of_getElem? (i := 115) (by decide +kernel)) rfl
theorem sf_X4_trace {U : State} (h : kw U) (A : Array Value) : (Cond.sameField "AlarmKinds$Radio" "AlarmKinds$Plain" "trace" "LAlarmKinds$Trace;").before A U = true := kw.use h A (List.mem_of_getElem? (i := 116) (by decide +kernel)) rfl
theorem fl_X5_9 {U : State} (h : kw U) (A : Array Value) : (Cond.fieldLink "AlarmKinds$Smoke" (9 : Nat) "AlarmKinds$Smoke" "trace" "LAlarmKinds$Trace;").before A U = true := kw.use h A (List.mem_of_getElem? (i := 117) (by decide +kernel)) rfl
theorem sf_X5_trace {U : State} (h : kw U) (A : Array Value) : (Cond.sameField "AlarmKinds$Smoke" "AlarmKinds$Plain" "trace" "LAlarmKinds$Trace;").before A U = true := kw.use h A (List.mem_of_getElem? (i := 118) (by decide +kernel)) rfl
theorem fl_X2_9 {U : State} (h : kw U) (A : Array Value) : (Cond.fieldLink "AlarmKinds$Heat" (9 : Nat) "AlarmKinds$Heat" "trace" "LAlarmKinds$Trace;").before A U = true := kw.use h A (List.mem_of_getElem? (i := 119) (by decide +kernel)) rfl
theorem sf_X2_trace {U : State} (h : kw U) (A : Array Value) : (Cond.sameField "AlarmKinds$Heat" "AlarmKinds$Plain" "trace" "LAlarmKinds$Trace;").before A U = true := kw.use h A (List.mem_of_getElem? (i := 120) (by decide +kernel)) rfl
theorem fl_X7_9 {U : State} (h : kw U) (A : Array Value) : (Cond.fieldLink "AlarmKinds$Twin" (9 : Nat) "AlarmKinds$Twin" "trace" "LAlarmKinds$Trace;").before A U = true := kw.use h A (List.mem_of_getElem? (i := 121) (by decide +kernel)) rfl
theorem sf_X7_trace {U : State} (h : kw U) (A : Array Value) : (Cond.sameField "AlarmKinds$Twin" "AlarmKinds$Plain" "trace" "LAlarmKinds$Trace;").before A U = true := kw.use h A (List.mem_of_getElem? (i := 122) (by decide +kernel)) rfl
theorem fl_X1_9 {U : State} (h : kw U) (A : Array Value) : (Cond.fieldLink "AlarmKinds$Flood" (9 : Nat) "AlarmKinds$Flood" "trace" "LAlarmKinds$Trace;").before A U = true := kw.use h A (List.mem_of_getElem? (i := 123) (by decide +kernel)) rfl
theorem sf_X1_trace {U : State} (h : kw U) (A : Array Value) : (Cond.sameField "AlarmKinds$Flood" "AlarmKinds$Plain" "trace" "LAlarmKinds$Trace;").before A U = true := kw.use h A (List.mem_of_getElem? (i := 124) (by decide +kernel)) rfl
theorem fl_X3_15 {U : State} (h : kw U) (A : Array Value) : (Cond.fieldLink "AlarmKinds$Plain" (15 : Nat) "AlarmKinds$Plain" "kind" "I").before A U = true := kw.use h A (List.mem_of_getElem? (i := 125) (by decide +kernel)) rfl
theorem fl_X9_69 {U : State} (h : kw U) (A : Array Value) : (Cond.fieldLink "AlarmKinds" (69 : Nat) "AlarmKinds$Plain" "kind" "I").before A U = true := kw.use h A (List.mem_of_getElem? (i := 126) (by decide +kernel)) rfl
theorem fl_X3_19 {U : State} (h : kw U) (A : Array Value) : (Cond.fieldLink "AlarmKinds$Plain" (19 : Nat) "AlarmKinds$Plain" "zone" "I").before A U = true := kw.use h A (List.mem_of_getElem? (i := 127) (by decide +kernel)) rfl
theorem fl_X9_72 {U : State} (h : kw U) (A : Array Value) : (Cond.fieldLink "AlarmKinds" (72 : Nat) "AlarmKinds$Plain" "zone" "I").before A U = true := kw.use h A (List.mem_of_getElem? (i := 128) (by decide +kernel)) rfl
theorem fl_X3_22 {U : State} (h : kw U) (A : Array Value) : (Cond.fieldLink "AlarmKinds$Plain" (22 : Nat) "AlarmKinds$Plain" "limit" "I").before A U = true := kw.use h A (List.mem_of_getElem? (i := 129) (by decide +kernel)) rfl
theorem fl_X9_75 {U : State} (h : kw U) (A : Array Value) : (Cond.fieldLink "AlarmKinds" (75 : Nat) "AlarmKinds$Plain" "limit" "I").before A U = true := kw.use h A (List.mem_of_getElem? (i := 130) (by decide +kernel)) rfl
theorem fl_X3_25 {U : State} (h : kw U) (A : Array Value) : (Cond.fieldLink "AlarmKinds$Plain" (25 : Nat) "AlarmKinds$Plain" "charge" "I").before A U = true := kw.use h A (List.mem_of_getElem? (i := 131) (by decide +kernel)) rfl
theorem fl_X4_21 {U : State} (h : kw U) (A : Array Value) : (Cond.fieldLink "AlarmKinds$Radio" (21 : Nat) "AlarmKinds$Radio" "charge" "I").before A U = true := kw.use h A (List.mem_of_getElem? (i := 132) (by decide +kernel)) rfl
theorem sf_X4_charge {U : State} (h : kw U) (A : Array Value) : (Cond.sameField "AlarmKinds$Radio" "AlarmKinds$Plain" "charge" "I").before A U = true := kw.use h A (List.mem_of_getElem? (i := 133) (by decide +kernel)) rfl
theorem fl_X0_40 {U : State} (h : kw U) (A : Array Value) : (Cond.fieldLink "AlarmKinds$Beam" (40 : Nat) "AlarmKinds$Beam" "charge" "I").before A U = true := kw.use h A (List.mem_of_getElem? (i := 134) (by decide +kernel)) rfl
theorem sf_X0_charge {U : State} (h : kw U) (A : Array Value) : (Cond.sameField "AlarmKinds$Beam" "AlarmKinds$Plain" "charge" "I").before A U = true := kw.use h A (List.mem_of_getElem? (i := 135) (by decide +kernel)) rfl
theorem fl_X9_78 {U : State} (h : kw U) (A : Array Value) : (Cond.fieldLink "AlarmKinds" (78 : Nat) "AlarmKinds$Plain" "charge" "I").before A U = true := kw.use h A (List.mem_of_getElem? (i := 136) (by decide +kernel)) rfl
theorem fl_X2_25 {U : State} (h : kw U) (A : Array Value) : (Cond.fieldLink "AlarmKinds$Heat" (25 : Nat) "AlarmKinds$Heat" "level" "I").before A U = true := kw.use h A (List.mem_of_getElem? (i := 137) (by decide +kernel)) rfl
theorem sf_X2_level {U : State} (h : kw U) (A : Array Value) : (Cond.sameField "AlarmKinds$Heat" "AlarmKinds$Plain" "level" "I").before A U = true := kw.use h A (List.mem_of_getElem? (i := 138) (by decide +kernel)) rfl
theorem fl_X5_33 {U : State} (h : kw U) (A : Array Value) : (Cond.fieldLink "AlarmKinds$Smoke" (33 : Nat) "AlarmKinds$Smoke" "level" "I").before A U = true := kw.use h A (List.mem_of_getElem? (i := 139) (by decide +kernel)) rfl
theorem sf_X5_level {U : State} (h : kw U) (A : Array Value) : (Cond.sameField "AlarmKinds$Smoke" "AlarmKinds$Plain" "level" "I").before A U = true := kw.use h A (List.mem_of_getElem? (i := 140) (by decide +kernel)) rfl
theorem fl_X3_38 {U : State} (h : kw U) (A : Array Value) : (Cond.fieldLink "AlarmKinds$Plain" (38 : Nat) "AlarmKinds$Plain" "level" "I").before A U = true := kw.use h A (List.mem_of_getElem? (i := 141) (by decide +kernel)) rfl
theorem fl_X9_51 {U : State} (h : kw U) (A : Array Value) : (Cond.fieldLink "AlarmKinds" (51 : Nat) "AlarmKinds$Plain" "level" "I").before A U = true := kw.use h A (List.mem_of_getElem? (i := 142) (by decide +kernel)) rfl
theorem fl_X2_33 {U : State} (h : kw U) (A : Array Value) : (Cond.fieldLink "AlarmKinds$Heat" (33 : Nat) "AlarmKinds$Heat" "count" "I").before A U = true := kw.use h A (List.mem_of_getElem? (i := 143) (by decide +kernel)) rfl
theorem sf_X2_count {U : State} (h : kw U) (A : Array Value) : (Cond.sameField "AlarmKinds$Heat" "AlarmKinds$Plain" "count" "I").before A U = true := kw.use h A (List.mem_of_getElem? (i := 144) (by decide +kernel)) rfl
theorem fl_X3_41 {U : State} (h : kw U) (A : Array Value) : (Cond.fieldLink "AlarmKinds$Plain" (41 : Nat) "AlarmKinds$Plain" "count" "I").before A U = true := kw.use h A (List.mem_of_getElem? (i := 145) (by decide +kernel)) rfl
theorem fl_X9_81 {U : State} (h : kw U) (A : Array Value) : (Cond.fieldLink "AlarmKinds" (81 : Nat) "AlarmKinds$Plain" "count" "I").before A U = true := kw.use h A (List.mem_of_getElem? (i := 146) (by decide +kernel)) rfl
theorem fl_X5_25 {U : State} (h : kw U) (A : Array Value) : (Cond.fieldLink "AlarmKinds$Smoke" (25 : Nat) "AlarmKinds$Smoke" "drift" "I").before A U = true := kw.use h A (List.mem_of_getElem? (i := 147) (by decide +kernel)) rfl
theorem sf_X5_drift {U : State} (h : kw U) (A : Array Value) : (Cond.sameField "AlarmKinds$Smoke" "AlarmKinds$Plain" "drift" "I").before A U = true := kw.use h A (List.mem_of_getElem? (i := 148) (by decide +kernel)) rfl
theorem fl_X7_29 {U : State} (h : kw U) (A : Array Value) : (Cond.fieldLink "AlarmKinds$Twin" (29 : Nat) "AlarmKinds$Twin" "drift" "I").before A U = true := kw.use h A (List.mem_of_getElem? (i := 149) (by decide +kernel)) rfl
theorem sf_X7_drift {U : State} (h : kw U) (A : Array Value) : (Cond.sameField "AlarmKinds$Twin" "AlarmKinds$Plain" "drift" "I").before A U = true := kw.use h A (List.mem_of_getElem? (i := 150) (by decide +kernel)) rfl
theorem fl_X9_84 {U : State} (h : kw U) (A : Array Value) : (Cond.fieldLink "AlarmKinds" (84 : Nat) "AlarmKinds$Plain" "drift" "I").before A U = true := kw.use h A (List.mem_of_getElem? (i := 151) (by decide +kernel)) rfl
theorem fl_X1_21 {U : State} (h : kw U) (A : Array Value) : (Cond.fieldLink "AlarmKinds$Flood" (21 : Nat) "AlarmKinds$Flood" "latched" "Z").before A U = true := kw.use h A (List.mem_of_getElem? (i := 152) (by decide +kernel)) rfl
theorem sf_X1_latched {U : State} (h : kw U) (A : Array Value) : (Cond.sameField "AlarmKinds$Flood" "AlarmKinds$Plain" "latched" "Z").before A U = true := kw.use h A (List.mem_of_getElem? (i := 153) (by decide +kernel)) rfl
theorem fl_X9_87 {U : State} (h : kw U) (A : Array Value) : (Cond.fieldLink "AlarmKinds" (87 : Nat) "AlarmKinds$Plain" "latched" "Z").before A U = true := kw.use h A (List.mem_of_getElem? (i := 154) (by decide +kernel)) rfl
theorem su_X8 {U : State} (h : kw U) (A : Array Value) : (Cond.superclass "AlarmKinds$Wired" "AlarmKinds$Plain").before A U = true := kw.use h A (List.mem_of_getElem? (i := 173) (by decide +kernel)) rfl
theorem cl_X9_119 {U : State} (h : kw U) (A : Array Value) : (Cond.classLink "AlarmKinds" (119 : Nat) "AlarmKinds$Radio").before A U = true := kw.use h A (List.mem_of_getElem? (i := 174) (by decide +kernel)) rfl
theorem ia_X4 {U : State} (h : kw U) (A : Array Value) : (Cond.instantiable "AlarmKinds$Radio" (9 : Nat)).before A U = true := kw.use h A (List.mem_of_getElem? (i := 175) (by decide +kernel)) rfl
theorem ml_X9_121 {U : State} (h : kw U) (A : Array Value) : (Cond.methodLink "AlarmKinds" (121 : Nat) ({ cls := "AlarmKinds$Radio", name := "<init>", desc := "(LAlarmKinds$Trace;IIII)V" } : MethodName)).before A U = true := kw.use h A (List.mem_of_getElem? (i := 176) (by decide +kernel)) rfl
theorem im_X4_init {U : State} (h : kw U) (A : Array Value) : (Cond.instanceMethod ({ cls := "AlarmKinds$Radio", name := "<init>", desc := "(LAlarmKinds$Trace;IIII)V" } : MethodName)).before A U = true := kw.use h A (List.mem_of_getElem? (i := 177) (by decide +kernel)) rfl
theorem co_X4_init {U : State} (h : kw U) (A : Array Value) : (Cond.code ({ cls := "AlarmKinds$Radio", name := "<init>", desc := "(LAlarmKinds$Trace;IIII)V" } : MethodName) prog_6_method_1_code (6 : Nat) (Option.none : Option FieldType)).before A U = true := kw.use h A (List.mem_of_getElem? (i := 178) (by decide +kernel)) rfl
theorem ml_X4_3 {U : State} (h : kw U) (A : Array Value) : (Cond.methodLink "AlarmKinds$Radio" (3 : Nat) ({ cls := "AlarmKinds$Wired", name := "<init>", desc := "(LAlarmKinds$Trace;IIII)V" } : MethodName)).before A U = true := kw.use h A (List.mem_of_getElem? (i := 179) (by decide +kernel)) rfl
theorem su_X4 {U : State} (h : kw U) (A : Array Value) : (Cond.superclass "AlarmKinds$Radio" "AlarmKinds$Wired").before A U = true := kw.use h A (List.mem_of_getElem? (i := 189) (by decide +kernel)) rfl
theorem cl_X9_122 {U : State} (h : kw U) (A : Array Value) : (Cond.classLink "AlarmKinds" (122 : Nat) "AlarmKinds$Smoke").before A U = true := kw.use h A (List.mem_of_getElem? (i := 190) (by decide +kernel)) rfl
theorem ia_X5 {U : State} (h : kw U) (A : Array Value) : (Cond.instantiable "AlarmKinds$Smoke" (9 : Nat)).before A U = true := kw.use h A (List.mem_of_getElem? (i := 191) (by decide +kernel)) rfl
theorem ml_X9_124 {U : State} (h : kw U) (A : Array Value) : (Cond.methodLink "AlarmKinds" (124 : Nat) ({ cls := "AlarmKinds$Smoke", name := "<init>", desc := "(LAlarmKinds$Trace;IIII)V" } : MethodName)).before A U = true := kw.use h A (List.mem_of_getElem? (i := 192) (by decide +kernel)) rfl
theorem im_X5_init {U : State} (h : kw U) (A : Array Value) : (Cond.instanceMethod ({ cls := "AlarmKinds$Smoke", name := "<init>", desc := "(LAlarmKinds$Trace;IIII)V" } : MethodName)).before A U = true := kw.use h A (List.mem_of_getElem? (i := 193) (by decide +kernel)) rfl
theorem co_X5_init {U : State} (h : kw U) (A : Array Value) : (Cond.code ({ cls := "AlarmKinds$Smoke", name := "<init>", desc := "(LAlarmKinds$Trace;IIII)V" } : MethodName) prog_7_method_1_code (6 : Nat) (Option.none : Option FieldType)).before A U = true := kw.use h A (List.mem_of_getElem? (i := 194) (by decide +kernel)) rfl
theorem ml_X5_3 {U : State} (h : kw U) (A : Array Value) : (Cond.methodLink "AlarmKinds$Smoke" (3 : Nat) ({ cls := "AlarmKinds$Wired", name := "<init>", desc := "(LAlarmKinds$Trace;IIII)V" } : MethodName)).before A U = true := kw.use h A (List.mem_of_getElem? (i := 195) (by decide +kernel)) rfl
theorem su_X5 {U : State} (h : kw U) (A : Array Value) : (Cond.superclass "AlarmKinds$Smoke" "AlarmKinds$Wired").before A U = true := kw.use h A (List.mem_of_getElem? (i := 205) (by decide +kernel)) rfl
theorem cl_X9_125 {U : State} (h : kw U) (A : Array Value) : (Cond.classLink "AlarmKinds" (125 : Nat) "AlarmKinds$Heat").before A U = true := kw.use h A (List.mem_of_getElem? (i := 206) (by decide +kernel)) rfl
theorem ia_X2 {U : State} (h : kw U) (A : Array Value) : (Cond.instantiable "AlarmKinds$Heat" (9 : Nat)).before A U = true := kw.use h A (List.mem_of_getElem? (i := 207) (by decide +kernel)) rfl
theorem ml_X9_127 {U : State} (h : kw U) (A : Array Value) : (Cond.methodLink "AlarmKinds" (127 : Nat) ({ cls := "AlarmKinds$Heat", name := "<init>", desc := "(LAlarmKinds$Trace;IIII)V" } : MethodName)).before A U = true := kw.use h A (List.mem_of_getElem? (i := 208) (by decide +kernel)) rfl
theorem im_X2_init {U : State} (h : kw U) (A : Array Value) : (Cond.instanceMethod ({ cls := "AlarmKinds$Heat", name := "<init>", desc := "(LAlarmKinds$Trace;IIII)V" } : MethodName)).before A U = true := kw.use h A (List.mem_of_getElem? (i := 209) (by decide +kernel)) rfl
theorem co_X2_init {U : State} (h : kw U) (A : Array Value) : (Cond.code ({ cls := "AlarmKinds$Heat", name := "<init>", desc := "(LAlarmKinds$Trace;IIII)V" } : MethodName) prog_4_method_1_code (6 : Nat) (Option.none : Option FieldType)).before A U = true := kw.use h A (List.mem_of_getElem? (i := 210) (by decide +kernel)) rfl
theorem ml_X2_3 {U : State} (h : kw U) (A : Array Value) : (Cond.methodLink "AlarmKinds$Heat" (3 : Nat) ({ cls := "AlarmKinds$Radio", name := "<init>", desc := "(LAlarmKinds$Trace;IIII)V" } : MethodName)).before A U = true := kw.use h A (List.mem_of_getElem? (i := 211) (by decide +kernel)) rfl
theorem su_X2 {U : State} (h : kw U) (A : Array Value) : (Cond.superclass "AlarmKinds$Heat" "AlarmKinds$Radio").before A U = true := kw.use h A (List.mem_of_getElem? (i := 221) (by decide +kernel)) rfl
theorem cl_X9_128 {U : State} (h : kw U) (A : Array Value) : (Cond.classLink "AlarmKinds" (128 : Nat) "AlarmKinds$Beam").before A U = true := kw.use h A (List.mem_of_getElem? (i := 222) (by decide +kernel)) rfl
theorem ia_X0 {U : State} (h : kw U) (A : Array Value) : (Cond.instantiable "AlarmKinds$Beam" (9 : Nat)).before A U = true := kw.use h A (List.mem_of_getElem? (i := 223) (by decide +kernel)) rfl
theorem ml_X9_130 {U : State} (h : kw U) (A : Array Value) : (Cond.methodLink "AlarmKinds" (130 : Nat) ({ cls := "AlarmKinds$Beam", name := "<init>", desc := "(LAlarmKinds$Trace;IIII)V" } : MethodName)).before A U = true := kw.use h A (List.mem_of_getElem? (i := 224) (by decide +kernel)) rfl
theorem im_X0_init {U : State} (h : kw U) (A : Array Value) : (Cond.instanceMethod ({ cls := "AlarmKinds$Beam", name := "<init>", desc := "(LAlarmKinds$Trace;IIII)V" } : MethodName)).before A U = true := kw.use h A (List.mem_of_getElem? (i := 225) (by decide +kernel)) rfl
theorem co_X0_init {U : State} (h : kw U) (A : Array Value) : (Cond.code ({ cls := "AlarmKinds$Beam", name := "<init>", desc := "(LAlarmKinds$Trace;IIII)V" } : MethodName) prog_2_method_1_code (6 : Nat) (Option.none : Option FieldType)).before A U = true := kw.use h A (List.mem_of_getElem? (i := 226) (by decide +kernel)) rfl
theorem ml_X0_3 {U : State} (h : kw U) (A : Array Value) : (Cond.methodLink "AlarmKinds$Beam" (3 : Nat) ({ cls := "AlarmKinds$Radio", name := "<init>", desc := "(LAlarmKinds$Trace;IIII)V" } : MethodName)).before A U = true := kw.use h A (List.mem_of_getElem? (i := 227) (by decide +kernel)) rfl
theorem su_X0 {U : State} (h : kw U) (A : Array Value) : (Cond.superclass "AlarmKinds$Beam" "AlarmKinds$Radio").before A U = true := kw.use h A (List.mem_of_getElem? (i := 237) (by decide +kernel)) rfl
theorem cl_X9_131 {U : State} (h : kw U) (A : Array Value) : (Cond.classLink "AlarmKinds" (131 : Nat) "AlarmKinds$Flood").before A U = true := kw.use h A (List.mem_of_getElem? (i := 238) (by decide +kernel)) rfl
theorem ia_X1 {U : State} (h : kw U) (A : Array Value) : (Cond.instantiable "AlarmKinds$Flood" (9 : Nat)).before A U = true := kw.use h A (List.mem_of_getElem? (i := 239) (by decide +kernel)) rfl
theorem ml_X9_133 {U : State} (h : kw U) (A : Array Value) : (Cond.methodLink "AlarmKinds" (133 : Nat) ({ cls := "AlarmKinds$Flood", name := "<init>", desc := "(LAlarmKinds$Trace;IIII)V" } : MethodName)).before A U = true := kw.use h A (List.mem_of_getElem? (i := 240) (by decide +kernel)) rfl
theorem im_X1_init {U : State} (h : kw U) (A : Array Value) : (Cond.instanceMethod ({ cls := "AlarmKinds$Flood", name := "<init>", desc := "(LAlarmKinds$Trace;IIII)V" } : MethodName)).before A U = true := kw.use h A (List.mem_of_getElem? (i := 241) (by decide +kernel)) rfl
theorem co_X1_init {U : State} (h : kw U) (A : Array Value) : (Cond.code ({ cls := "AlarmKinds$Flood", name := "<init>", desc := "(LAlarmKinds$Trace;IIII)V" } : MethodName) prog_3_method_1_code (6 : Nat) (Option.none : Option FieldType)).before A U = true := kw.use h A (List.mem_of_getElem? (i := 242) (by decide +kernel)) rfl
theorem ml_X1_3 {U : State} (h : kw U) (A : Array Value) : (Cond.methodLink "AlarmKinds$Flood" (3 : Nat) ({ cls := "AlarmKinds$Wired", name := "<init>", desc := "(LAlarmKinds$Trace;IIII)V" } : MethodName)).before A U = true := kw.use h A (List.mem_of_getElem? (i := 243) (by decide +kernel)) rfl
theorem su_X1 {U : State} (h : kw U) (A : Array Value) : (Cond.superclass "AlarmKinds$Flood" "AlarmKinds$Wired").before A U = true := kw.use h A (List.mem_of_getElem? (i := 253) (by decide +kernel)) rfl
theorem cl_X9_134 {U : State} (h : kw U) (A : Array Value) : (Cond.classLink "AlarmKinds" (134 : Nat) "AlarmKinds$Twin").before A U = true := kw.use h A (List.mem_of_getElem? (i := 254) (by decide +kernel)) rfl
theorem ia_X7 {U : State} (h : kw U) (A : Array Value) : (Cond.instantiable "AlarmKinds$Twin" (9 : Nat)).before A U = true := kw.use h A (List.mem_of_getElem? (i := 255) (by decide +kernel)) rfl
theorem ml_X9_136 {U : State} (h : kw U) (A : Array Value) : (Cond.methodLink "AlarmKinds" (136 : Nat) ({ cls := "AlarmKinds$Twin", name := "<init>", desc := "(LAlarmKinds$Trace;IIII)V" } : MethodName)).before A U = true := kw.use h A (List.mem_of_getElem? (i := 256) (by decide +kernel)) rfl
theorem im_X7_init {U : State} (h : kw U) (A : Array Value) : (Cond.instanceMethod ({ cls := "AlarmKinds$Twin", name := "<init>", desc := "(LAlarmKinds$Trace;IIII)V" } : MethodName)).before A U = true := kw.use h A (List.mem_of_getElem? (i := 257) (by decide +kernel)) rfl
theorem co_X7_init {U : State} (h : kw U) (A : Array Value) : (Cond.code ({ cls := "AlarmKinds$Twin", name := "<init>", desc := "(LAlarmKinds$Trace;IIII)V" } : MethodName) prog_9_method_1_code (6 : Nat) (Option.none : Option FieldType)).before A U = true := kw.use h A (List.mem_of_getElem? (i := 258) (by decide +kernel)) rfl
theorem ml_X7_3 {U : State} (h : kw U) (A : Array Value) : (Cond.methodLink "AlarmKinds$Twin" (3 : Nat) ({ cls := "AlarmKinds$Smoke", name := "<init>", desc := "(LAlarmKinds$Trace;IIII)V" } : MethodName)).before A U = true := kw.use h A (List.mem_of_getElem? (i := 259) (by decide +kernel)) rfl
theorem su_X7 {U : State} (h : kw U) (A : Array Value) : (Cond.superclass "AlarmKinds$Twin" "AlarmKinds$Smoke").before A U = true := kw.use h A (List.mem_of_getElem? (i := 269) (by decide +kernel)) rfl
theorem ia_X3 {U : State} (h : kw U) (A : Array Value) : (Cond.instantiable "AlarmKinds$Plain" (9 : Nat)).before A U = true := kw.use h A (List.mem_of_getElem? (i := 270) (by decide +kernel)) rfl
theorem ml_X9_137 {U : State} (h : kw U) (A : Array Value) : (Cond.methodLink "AlarmKinds" (137 : Nat) ({ cls := "AlarmKinds$Plain", name := "<init>", desc := "(LAlarmKinds$Trace;IIII)V" } : MethodName)).before A U = true := kw.use h A (List.mem_of_getElem? (i := 271) (by decide +kernel)) rfl
theorem su_X3 {U : State} (h : kw U) (A : Array Value) : (Cond.superclass "AlarmKinds$Plain" "java/lang/Object").before A U = true := kw.use h A (List.mem_of_getElem? (i := 281) (by decide +kernel)) rfl
theorem ml_L_42 {U : State} (h : kw U) (A : Array Value) : (Cond.methodLink "AlarmKindsLaw" (42 : Nat) ({ cls := "AlarmKinds", name := "over", desc := "(I)I" } : MethodName)).before A U = true := kw.use h A (List.mem_of_getElem? (i := 282) (by decide +kernel)) rfl
theorem im_X9_over {U : State} (h : kw U) (A : Array Value) : (Cond.instanceMethod ({ cls := "AlarmKinds", name := "over", desc := "(I)I" } : MethodName)).before A U = true := kw.use h A (List.mem_of_getElem? (i := 283) (by decide +kernel)) rfl
theorem se_X9_X9_over {U : State} (h : kw U) (A : Array Value) : (Cond.selects "AlarmKinds" ({ cls := "AlarmKinds", name := "over", desc := "(I)I" } : MethodName) ({ cls := "AlarmKinds", name := "over", desc := "(I)I" } : MethodName)).before A U = true := kw.use h A (List.mem_of_getElem? (i := 284) (by decide +kernel)) rfl
theorem co_X9_over {U : State} (h : kw U) (A : Array Value) : (Cond.code ({ cls := "AlarmKinds", name := "over", desc := "(I)I" } : MethodName) prog_1_method_5_code (3 : Nat) (Option.some FieldType.int)).before A U = true := kw.use h A (List.mem_of_getElem? (i := 285) (by decide +kernel)) rfl
theorem ml_X9_43 {U : State} (h : kw U) (A : Array Value) : (Cond.methodLink "AlarmKinds" (43 : Nat) ({ cls := "AlarmKinds", name := "find", desc := "(I)LAlarmKinds$Plain;" } : MethodName)).before A U = true := kw.use h A (List.mem_of_getElem? (i := 286) (by decide +kernel)) rfl
theorem im_X9_find {U : State} (h : kw U) (A : Array Value) : (Cond.instanceMethod ({ cls := "AlarmKinds", name := "find", desc := "(I)LAlarmKinds$Plain;" } : MethodName)).before A U = true := kw.use h A (List.mem_of_getElem? (i := 288) (by decide +kernel)) rfl
theorem co_X9_find {U : State} (h : kw U) (A : Array Value) : (Cond.code ({ cls := "AlarmKinds", name := "find", desc := "(I)LAlarmKinds$Plain;" } : MethodName) prog_1_method_14_code (2 : Nat) (Option.some (FieldType.object "AlarmKinds$Plain"))).before A U = true := kw.use h A (List.mem_of_getElem? (i := 289) (by decide +kernel)) rfl
theorem ml_X9_58 {U : State} (h : kw U) (A : Array Value) : (Cond.methodLink "AlarmKinds" (58 : Nat) ({ cls := "AlarmKinds$Plain", name := "doOver", desc := "()Z" } : MethodName)).before A U = true := kw.use h A (List.mem_of_getElem? (i := 290) (by decide +kernel)) rfl
theorem im_X3_doOver {U : State} (h : kw U) (A : Array Value) : (Cond.instanceMethod ({ cls := "AlarmKinds$Plain", name := "doOver", desc := "()Z" } : MethodName)).before A U = true := kw.use h A (List.mem_of_getElem? (i := 291) (by decide +kernel)) rfl
theorem se_X3_X3_doOver {U : State} (h : kw U) (A : Array Value) : (Cond.selects "AlarmKinds$Plain" ({ cls := "AlarmKinds$Plain", name := "doOver", desc := "()Z" } : MethodName) ({ cls := "AlarmKinds$Plain", name := "doOver", desc := "()Z" } : MethodName)).before A U = true := kw.use h A (List.mem_of_getElem? (i := 292) (by decide +kernel)) rfl
theorem sm_X3_X3_doOver {U : State} (h : kw U) (A : Array Value) : (Cond.sameMethod "AlarmKinds$Plain" "AlarmKinds$Plain" "doOver" "()Z").before A U = true := kw.use h A (List.mem_of_getElem? (i := 293) (by decide +kernel)) rfl
theorem se_X0_X3_doOver {U : State} (h : kw U) (A : Array Value) : (Cond.selects "AlarmKinds$Beam" ({ cls := "AlarmKinds$Plain", name := "doOver", desc := "()Z" } : MethodName) ({ cls := "AlarmKinds$Plain", name := "doOver", desc := "()Z" } : MethodName)).before A U = true := kw.use h A (List.mem_of_getElem? (i := 294) (by decide +kernel)) rfl
theorem se_X1_X3_doOver {U : State} (h : kw U) (A : Array Value) : (Cond.selects "AlarmKinds$Flood" ({ cls := "AlarmKinds$Plain", name := "doOver", desc := "()Z" } : MethodName) ({ cls := "AlarmKinds$Flood", name := "doOver", desc := "()Z" } : MethodName)).before A U = true := kw.use h A (List.mem_of_getElem? (i := 295) (by decide +kernel)) rfl
theorem im_X1_doOver {U : State} (h : kw U) (A : Array Value) : (Cond.instanceMethod ({ cls := "AlarmKinds$Flood", name := "doOver", desc := "()Z" } : MethodName)).before A U = true := kw.use h A (List.mem_of_getElem? (i := 296) (by decide +kernel)) rfl
theorem co_X1_doOver {U : State} (h : kw U) (A : Array Value) : (Cond.code ({ cls := "AlarmKinds$Flood", name := "doOver", desc := "()Z" } : MethodName) prog_3_method_2_code (1 : Nat) (Option.some FieldType.boolean)).before A U = true := kw.use h A (List.mem_of_getElem? (i := 297) (by decide +kernel)) rfl
theorem ml_X1_15 {U : State} (h : kw U) (A : Array Value) : (Cond.methodLink "AlarmKinds$Flood" (15 : Nat) ({ cls := "AlarmKinds$Trace", name := "begin", desc := "(II)V" } : MethodName)).before A U = true := kw.use h A (List.mem_of_getElem? (i := 298) (by decide +kernel)) rfl
theorem im_X6_begin {U : State} (h : kw U) (A : Array Value) : (Cond.instanceMethod ({ cls := "AlarmKinds$Trace", name := "begin", desc := "(II)V" } : MethodName)).before A U = true := kw.use h A (List.mem_of_getElem? (i := 299) (by decide +kernel)) rfl
theorem se_X6_X6_begin {U : State} (h : kw U) (A : Array Value) : (Cond.selects "AlarmKinds$Trace" ({ cls := "AlarmKinds$Trace", name := "begin", desc := "(II)V" } : MethodName) ({ cls := "AlarmKinds$Trace", name := "begin", desc := "(II)V" } : MethodName)).before A U = true := kw.use h A (List.mem_of_getElem? (i := 300) (by decide +kernel)) rfl
theorem co_X6_begin {U : State} (h : kw U) (A : Array Value) : (Cond.code ({ cls := "AlarmKinds$Trace", name := "begin", desc := "(II)V" } : MethodName) prog_8_method_2_code (3 : Nat) (Option.none : Option FieldType)).before A U = true := kw.use h A (List.mem_of_getElem? (i := 301) (by decide +kernel)) rfl
theorem ml_X1_25 {U : State} (h : kw U) (A : Array Value) : (Cond.methodLink "AlarmKinds$Flood" (25 : Nat) ({ cls := "AlarmKinds$Wired", name := "doOver", desc := "()Z" } : MethodName)).before A U = true := kw.use h A (List.mem_of_getElem? (i := 302) (by decide +kernel)) rfl
theorem sm_X8_X3_doOver {U : State} (h : kw U) (A : Array Value) : (Cond.sameMethod "AlarmKinds$Wired" "AlarmKinds$Plain" "doOver" "()Z").before A U = true := kw.use h A (List.mem_of_getElem? (i := 303) (by decide +kernel)) rfl
theorem se_X2_X3_doOver {U : State} (h : kw U) (A : Array Value) : (Cond.selects "AlarmKinds$Heat" ({ cls := "AlarmKinds$Plain", name := "doOver", desc := "()Z" } : MethodName) ({ cls := "AlarmKinds$Heat", name := "doOver", desc := "()Z" } : MethodName)).before A U = true := kw.use h A (List.mem_of_getElem? (i := 305) (by decide +kernel)) rfl
theorem im_X2_doOver {U : State} (h : kw U) (A : Array Value) : (Cond.instanceMethod ({ cls := "AlarmKinds$Heat", name := "doOver", desc := "()Z" } : MethodName)).before A U = true := kw.use h A (List.mem_of_getElem? (i := 306) (by decide +kernel)) rfl
theorem co_X2_doOver {U : State} (h : kw U) (A : Array Value) : (Cond.code ({ cls := "AlarmKinds$Heat", name := "doOver", desc := "()Z" } : MethodName) prog_4_method_3_code (1 : Nat) (Option.some FieldType.boolean)).before A U = true := kw.use h A (List.mem_of_getElem? (i := 307) (by decide +kernel)) rfl
theorem ml_X2_15 {U : State} (h : kw U) (A : Array Value) : (Cond.methodLink "AlarmKinds$Heat" (15 : Nat) ({ cls := "AlarmKinds$Trace", name := "begin", desc := "(II)V" } : MethodName)).before A U = true := kw.use h A (List.mem_of_getElem? (i := 308) (by decide +kernel)) rfl
theorem ml_X2_29 {U : State} (h : kw U) (A : Array Value) : (Cond.methodLink "AlarmKinds$Heat" (29 : Nat) ({ cls := "AlarmKinds$Radio", name := "doOver", desc := "()Z" } : MethodName)).before A U = true := kw.use h A (List.mem_of_getElem? (i := 309) (by decide +kernel)) rfl
theorem sm_X4_X3_doOver {U : State} (h : kw U) (A : Array Value) : (Cond.sameMethod "AlarmKinds$Radio" "AlarmKinds$Plain" "doOver" "()Z").before A U = true := kw.use h A (List.mem_of_getElem? (i := 310) (by decide +kernel)) rfl
theorem se_X4_X3_doOver {U : State} (h : kw U) (A : Array Value) : (Cond.selects "AlarmKinds$Radio" ({ cls := "AlarmKinds$Plain", name := "doOver", desc := "()Z" } : MethodName) ({ cls := "AlarmKinds$Plain", name := "doOver", desc := "()Z" } : MethodName)).before A U = true := kw.use h A (List.mem_of_getElem? (i := 311) (by decide +kernel)) rfl
theorem se_X5_X3_doOver {U : State} (h : kw U) (A : Array Value) : (Cond.selects "AlarmKinds$Smoke" ({ cls := "AlarmKinds$Plain", name := "doOver", desc := "()Z" } : MethodName) ({ cls := "AlarmKinds$Plain", name := "doOver", desc := "()Z" } : MethodName)).before A U = true := kw.use h A (List.mem_of_getElem? (i := 312) (by decide +kernel)) rfl
theorem se_X7_X3_doOver {U : State} (h : kw U) (A : Array Value) : (Cond.selects "AlarmKinds$Twin" ({ cls := "AlarmKinds$Plain", name := "doOver", desc := "()Z" } : MethodName) ({ cls := "AlarmKinds$Plain", name := "doOver", desc := "()Z" } : MethodName)).before A U = true := kw.use h A (List.mem_of_getElem? (i := 313) (by decide +kernel)) rfl
theorem se_X8_X3_doOver {U : State} (h : kw U) (A : Array Value) : (Cond.selects "AlarmKinds$Wired" ({ cls := "AlarmKinds$Plain", name := "doOver", desc := "()Z" } : MethodName) ({ cls := "AlarmKinds$Plain", name := "doOver", desc := "()Z" } : MethodName)).before A U = true := kw.use h A (List.mem_of_getElem? (i := 314) (by decide +kernel)) rfl
theorem co_X3_doOver {U : State} (h : kw U) (A : Array Value) : (Cond.code ({ cls := "AlarmKinds$Plain", name := "doOver", desc := "()Z" } : MethodName) prog_5_method_4_code (1 : Nat) (Option.some FieldType.boolean)).before A U = true := kw.use h A (List.mem_of_getElem? (i := 315) (by decide +kernel)) rfl
theorem ml_X3_28 {U : State} (h : kw U) (A : Array Value) : (Cond.methodLink "AlarmKinds$Plain" (28 : Nat) ({ cls := "AlarmKinds$Trace", name := "begin", desc := "(II)V" } : MethodName)).before A U = true := kw.use h A (List.mem_of_getElem? (i := 316) (by decide +kernel)) rfl
theorem ml_L_47 {U : State} (h : kw U) (A : Array Value) : (Cond.methodLink "AlarmKindsLaw" (47 : Nat) ({ cls := "AlarmKinds", name := "clear", desc := "(I)I" } : MethodName)).before A U = true := kw.use h A (List.mem_of_getElem? (i := 317) (by decide +kernel)) rfl
theorem im_X9_clear {U : State} (h : kw U) (A : Array Value) : (Cond.instanceMethod ({ cls := "AlarmKinds", name := "clear", desc := "(I)I" } : MethodName)).before A U = true := kw.use h A (List.mem_of_getElem? (i := 318) (by decide +kernel)) rfl
theorem se_X9_X9_clear {U : State} (h : kw U) (A : Array Value) : (Cond.selects "AlarmKinds" ({ cls := "AlarmKinds", name := "clear", desc := "(I)I" } : MethodName) ({ cls := "AlarmKinds", name := "clear", desc := "(I)I" } : MethodName)).before A U = true := kw.use h A (List.mem_of_getElem? (i := 319) (by decide +kernel)) rfl
theorem co_X9_clear {U : State} (h : kw U) (A : Array Value) : (Cond.code ({ cls := "AlarmKinds", name := "clear", desc := "(I)I" } : MethodName) prog_1_method_6_code (3 : Nat) (Option.some FieldType.int)).before A U = true := kw.use h A (List.mem_of_getElem? (i := 320) (by decide +kernel)) rfl
theorem ml_X9_62 {U : State} (h : kw U) (A : Array Value) : (Cond.methodLink "AlarmKinds" (62 : Nat) ({ cls := "AlarmKinds$Plain", name := "doClear", desc := "()V" } : MethodName)).before A U = true := kw.use h A (List.mem_of_getElem? (i := 321) (by decide +kernel)) rfl
theorem im_X3_doClear {U : State} (h : kw U) (A : Array Value) : (Cond.instanceMethod ({ cls := "AlarmKinds$Plain", name := "doClear", desc := "()V" } : MethodName)).before A U = true := kw.use h A (List.mem_of_getElem? (i := 322) (by decide +kernel)) rfl
theorem se_X3_X3_doClear {U : State} (h : kw U) (A : Array Value) : (Cond.selects "AlarmKinds$Plain" ({ cls := "AlarmKinds$Plain", name := "doClear", desc := "()V" } : MethodName) ({ cls := "AlarmKinds$Plain", name := "doClear", desc := "()V" } : MethodName)).before A U = true := kw.use h A (List.mem_of_getElem? (i := 323) (by decide +kernel)) rfl
theorem sm_X3_X3_doClear {U : State} (h : kw U) (A : Array Value) : (Cond.sameMethod "AlarmKinds$Plain" "AlarmKinds$Plain" "doClear" "()V").before A U = true := kw.use h A (List.mem_of_getElem? (i := 324) (by decide +kernel)) rfl
theorem se_X0_X3_doClear {U : State} (h : kw U) (A : Array Value) : (Cond.selects "AlarmKinds$Beam" ({ cls := "AlarmKinds$Plain", name := "doClear", desc := "()V" } : MethodName) ({ cls := "AlarmKinds$Beam", name := "doClear", desc := "()V" } : MethodName)).before A U = true := kw.use h A (List.mem_of_getElem? (i := 325) (by decide +kernel)) rfl
theorem im_X0_doClear {U : State} (h : kw U) (A : Array Value) : (Cond.instanceMethod ({ cls := "AlarmKinds$Beam", name := "doClear", desc := "()V" } : MethodName)).before A U = true := kw.use h A (List.mem_of_getElem? (i := 326) (by decide +kernel)) rfl
theorem co_X0_doClear {U : State} (h : kw U) (A : Array Value) : (Cond.code ({ cls := "AlarmKinds$Beam", name := "doClear", desc := "()V" } : MethodName) prog_2_method_3_code (1 : Nat) (Option.none : Option FieldType)).before A U = true := kw.use h A (List.mem_of_getElem? (i := 327) (by decide +kernel)) rfl
theorem ml_X0_15 {U : State} (h : kw U) (A : Array Value) : (Cond.methodLink "AlarmKinds$Beam" (15 : Nat) ({ cls := "AlarmKinds$Trace", name := "begin", desc := "(II)V" } : MethodName)).before A U = true := kw.use h A (List.mem_of_getElem? (i := 328) (by decide +kernel)) rfl
theorem ml_X0_36 {U : State} (h : kw U) (A : Array Value) : (Cond.methodLink "AlarmKinds$Beam" (36 : Nat) ({ cls := "AlarmKinds$Radio", name := "doClear", desc := "()V" } : MethodName)).before A U = true := kw.use h A (List.mem_of_getElem? (i := 329) (by decide +kernel)) rfl
theorem sm_X4_X3_doClear {U : State} (h : kw U) (A : Array Value) : (Cond.sameMethod "AlarmKinds$Radio" "AlarmKinds$Plain" "doClear" "()V").before A U = true := kw.use h A (List.mem_of_getElem? (i := 330) (by decide +kernel)) rfl
theorem se_X1_X3_doClear {U : State} (h : kw U) (A : Array Value) : (Cond.selects "AlarmKinds$Flood" ({ cls := "AlarmKinds$Plain", name := "doClear", desc := "()V" } : MethodName) ({ cls := "AlarmKinds$Flood", name := "doClear", desc := "()V" } : MethodName)).before A U = true := kw.use h A (List.mem_of_getElem? (i := 332) (by decide +kernel)) rfl
theorem im_X1_doClear {U : State} (h : kw U) (A : Array Value) : (Cond.instanceMethod ({ cls := "AlarmKinds$Flood", name := "doClear", desc := "()V" } : MethodName)).before A U = true := kw.use h A (List.mem_of_getElem? (i := 333) (by decide +kernel)) rfl
theorem co_X1_doClear {U : State} (h : kw U) (A : Array Value) : (Cond.code ({ cls := "AlarmKinds$Flood", name := "doClear", desc := "()V" } : MethodName) prog_3_method_3_code (1 : Nat) (Option.none : Option FieldType)).before A U = true := kw.use h A (List.mem_of_getElem? (i := 334) (by decide +kernel)) rfl
theorem ml_X1_29 {U : State} (h : kw U) (A : Array Value) : (Cond.methodLink "AlarmKinds$Flood" (29 : Nat) ({ cls := "AlarmKinds$Wired", name := "doClear", desc := "()V" } : MethodName)).before A U = true := kw.use h A (List.mem_of_getElem? (i := 335) (by decide +kernel)) rfl
theorem sm_X8_X3_doClear {U : State} (h : kw U) (A : Array Value) : (Cond.sameMethod "AlarmKinds$Wired" "AlarmKinds$Plain" "doClear" "()V").before A U = true := kw.use h A (List.mem_of_getElem? (i := 336) (by decide +kernel)) rfl
theorem se_X2_X3_doClear {U : State} (h : kw U) (A : Array Value) : (Cond.selects "AlarmKinds$Heat" ({ cls := "AlarmKinds$Plain", name := "doClear", desc := "()V" } : MethodName) ({ cls := "AlarmKinds$Plain", name := "doClear", desc := "()V" } : MethodName)).before A U = true := kw.use h A (List.mem_of_getElem? (i := 337) (by decide +kernel)) rfl
theorem se_X4_X3_doClear {U : State} (h : kw U) (A : Array Value) : (Cond.selects "AlarmKinds$Radio" ({ cls := "AlarmKinds$Plain", name := "doClear", desc := "()V" } : MethodName) ({ cls := "AlarmKinds$Plain", name := "doClear", desc := "()V" } : MethodName)).before A U = true := kw.use h A (List.mem_of_getElem? (i := 338) (by decide +kernel)) rfl
theorem se_X5_X3_doClear {U : State} (h : kw U) (A : Array Value) : (Cond.selects "AlarmKinds$Smoke" ({ cls := "AlarmKinds$Plain", name := "doClear", desc := "()V" } : MethodName) ({ cls := "AlarmKinds$Plain", name := "doClear", desc := "()V" } : MethodName)).before A U = true := kw.use h A (List.mem_of_getElem? (i := 339) (by decide +kernel)) rfl
theorem se_X7_X3_doClear {U : State} (h : kw U) (A : Array Value) : (Cond.selects "AlarmKinds$Twin" ({ cls := "AlarmKinds$Plain", name := "doClear", desc := "()V" } : MethodName) ({ cls := "AlarmKinds$Twin", name := "doClear", desc := "()V" } : MethodName)).before A U = true := kw.use h A (List.mem_of_getElem? (i := 340) (by decide +kernel)) rfl
theorem im_X7_doClear {U : State} (h : kw U) (A : Array Value) : (Cond.instanceMethod ({ cls := "AlarmKinds$Twin", name := "doClear", desc := "()V" } : MethodName)).before A U = true := kw.use h A (List.mem_of_getElem? (i := 341) (by decide +kernel)) rfl
theorem co_X7_doClear {U : State} (h : kw U) (A : Array Value) : (Cond.code ({ cls := "AlarmKinds$Twin", name := "doClear", desc := "()V" } : MethodName) prog_9_method_3_code (1 : Nat) (Option.none : Option FieldType)).before A U = true := kw.use h A (List.mem_of_getElem? (i := 342) (by decide +kernel)) rfl
theorem ml_X7_15 {U : State} (h : kw U) (A : Array Value) : (Cond.methodLink "AlarmKinds$Twin" (15 : Nat) ({ cls := "AlarmKinds$Trace", name := "begin", desc := "(II)V" } : MethodName)).before A U = true := kw.use h A (List.mem_of_getElem? (i := 343) (by decide +kernel)) rfl
theorem ml_X7_25 {U : State} (h : kw U) (A : Array Value) : (Cond.methodLink "AlarmKinds$Twin" (25 : Nat) ({ cls := "AlarmKinds$Smoke", name := "doClear", desc := "()V" } : MethodName)).before A U = true := kw.use h A (List.mem_of_getElem? (i := 344) (by decide +kernel)) rfl
theorem sm_X5_X3_doClear {U : State} (h : kw U) (A : Array Value) : (Cond.sameMethod "AlarmKinds$Smoke" "AlarmKinds$Plain" "doClear" "()V").before A U = true := kw.use h A (List.mem_of_getElem? (i := 345) (by decide +kernel)) rfl
theorem se_X8_X3_doClear {U : State} (h : kw U) (A : Array Value) : (Cond.selects "AlarmKinds$Wired" ({ cls := "AlarmKinds$Plain", name := "doClear", desc := "()V" } : MethodName) ({ cls := "AlarmKinds$Plain", name := "doClear", desc := "()V" } : MethodName)).before A U = true := kw.use h A (List.mem_of_getElem? (i := 346) (by decide +kernel)) rfl
theorem co_X3_doClear {U : State} (h : kw U) (A : Array Value) : (Cond.code ({ cls := "AlarmKinds$Plain", name := "doClear", desc := "()V" } : MethodName) prog_5_method_5_code (1 : Nat) (Option.none : Option FieldType)).before A U = true := kw.use h A (List.mem_of_getElem? (i := 347) (by decide +kernel)) rfl
theorem ml_L_51 {U : State} (h : kw U) (A : Array Value) : (Cond.methodLink "AlarmKindsLaw" (51 : Nat) ({ cls := "AlarmKinds", name := "cost", desc := "(I)I" } : MethodName)).before A U = true := kw.use h A (List.mem_of_getElem? (i := 348) (by decide +kernel)) rfl
theorem im_X9_cost {U : State} (h : kw U) (A : Array Value) : (Cond.instanceMethod ({ cls := "AlarmKinds", name := "cost", desc := "(I)I" } : MethodName)).before A U = true := kw.use h A (List.mem_of_getElem? (i := 349) (by decide +kernel)) rfl
theorem se_X9_X9_cost {U : State} (h : kw U) (A : Array Value) : (Cond.selects "AlarmKinds" ({ cls := "AlarmKinds", name := "cost", desc := "(I)I" } : MethodName) ({ cls := "AlarmKinds", name := "cost", desc := "(I)I" } : MethodName)).before A U = true := kw.use h A (List.mem_of_getElem? (i := 350) (by decide +kernel)) rfl
theorem co_X9_cost {U : State} (h : kw U) (A : Array Value) : (Cond.code ({ cls := "AlarmKinds", name := "cost", desc := "(I)I" } : MethodName) prog_1_method_7_code (3 : Nat) (Option.some FieldType.int)).before A U = true := kw.use h A (List.mem_of_getElem? (i := 351) (by decide +kernel)) rfl
theorem ml_X9_65 {U : State} (h : kw U) (A : Array Value) : (Cond.methodLink "AlarmKinds" (65 : Nat) ({ cls := "AlarmKinds$Plain", name := "doCost", desc := "()I" } : MethodName)).before A U = true := kw.use h A (List.mem_of_getElem? (i := 352) (by decide +kernel)) rfl
theorem im_X3_doCost {U : State} (h : kw U) (A : Array Value) : (Cond.instanceMethod ({ cls := "AlarmKinds$Plain", name := "doCost", desc := "()I" } : MethodName)).before A U = true := kw.use h A (List.mem_of_getElem? (i := 353) (by decide +kernel)) rfl
theorem se_X3_X3_doCost {U : State} (h : kw U) (A : Array Value) : (Cond.selects "AlarmKinds$Plain" ({ cls := "AlarmKinds$Plain", name := "doCost", desc := "()I" } : MethodName) ({ cls := "AlarmKinds$Plain", name := "doCost", desc := "()I" } : MethodName)).before A U = true := kw.use h A (List.mem_of_getElem? (i := 354) (by decide +kernel)) rfl
theorem sm_X3_X3_doCost {U : State} (h : kw U) (A : Array Value) : (Cond.sameMethod "AlarmKinds$Plain" "AlarmKinds$Plain" "doCost" "()I").before A U = true := kw.use h A (List.mem_of_getElem? (i := 355) (by decide +kernel)) rfl
theorem se_X0_X3_doCost {U : State} (h : kw U) (A : Array Value) : (Cond.selects "AlarmKinds$Beam" ({ cls := "AlarmKinds$Plain", name := "doCost", desc := "()I" } : MethodName) ({ cls := "AlarmKinds$Radio", name := "doCost", desc := "()I" } : MethodName)).before A U = true := kw.use h A (List.mem_of_getElem? (i := 356) (by decide +kernel)) rfl
theorem im_X4_doCost {U : State} (h : kw U) (A : Array Value) : (Cond.instanceMethod ({ cls := "AlarmKinds$Radio", name := "doCost", desc := "()I" } : MethodName)).before A U = true := kw.use h A (List.mem_of_getElem? (i := 357) (by decide +kernel)) rfl
theorem co_X4_doCost {U : State} (h : kw U) (A : Array Value) : (Cond.code ({ cls := "AlarmKinds$Radio", name := "doCost", desc := "()I" } : MethodName) prog_6_method_3_code (1 : Nat) (Option.some FieldType.int)).before A U = true := kw.use h A (List.mem_of_getElem? (i := 358) (by decide +kernel)) rfl
theorem ml_X4_15 {U : State} (h : kw U) (A : Array Value) : (Cond.methodLink "AlarmKinds$Radio" (15 : Nat) ({ cls := "AlarmKinds$Trace", name := "begin", desc := "(II)V" } : MethodName)).before A U = true := kw.use h A (List.mem_of_getElem? (i := 359) (by decide +kernel)) rfl
theorem ml_X4_39 {U : State} (h : kw U) (A : Array Value) : (Cond.methodLink "AlarmKinds$Radio" (39 : Nat) ({ cls := "AlarmKinds$Wired", name := "doCost", desc := "()I" } : MethodName)).before A U = true := kw.use h A (List.mem_of_getElem? (i := 360) (by decide +kernel)) rfl
theorem sm_X8_X3_doCost {U : State} (h : kw U) (A : Array Value) : (Cond.sameMethod "AlarmKinds$Wired" "AlarmKinds$Plain" "doCost" "()I").before A U = true := kw.use h A (List.mem_of_getElem? (i := 361) (by decide +kernel)) rfl
theorem se_X1_X3_doCost {U : State} (h : kw U) (A : Array Value) : (Cond.selects "AlarmKinds$Flood" ({ cls := "AlarmKinds$Plain", name := "doCost", desc := "()I" } : MethodName) ({ cls := "AlarmKinds$Flood", name := "doCost", desc := "()I" } : MethodName)).before A U = true := kw.use h A (List.mem_of_getElem? (i := 363) (by decide +kernel)) rfl
theorem im_X1_doCost {U : State} (h : kw U) (A : Array Value) : (Cond.instanceMethod ({ cls := "AlarmKinds$Flood", name := "doCost", desc := "()I" } : MethodName)).before A U = true := kw.use h A (List.mem_of_getElem? (i := 364) (by decide +kernel)) rfl
theorem co_X1_doCost {U : State} (h : kw U) (A : Array Value) : (Cond.code ({ cls := "AlarmKinds$Flood", name := "doCost", desc := "()I" } : MethodName) prog_3_method_4_code (1 : Nat) (Option.some FieldType.int)).before A U = true := kw.use h A (List.mem_of_getElem? (i := 365) (by decide +kernel)) rfl
theorem ml_X1_33 {U : State} (h : kw U) (A : Array Value) : (Cond.methodLink "AlarmKinds$Flood" (33 : Nat) ({ cls := "AlarmKinds$Wired", name := "doCost", desc := "()I" } : MethodName)).before A U = true := kw.use h A (List.mem_of_getElem? (i := 366) (by decide +kernel)) rfl
theorem se_X2_X3_doCost {U : State} (h : kw U) (A : Array Value) : (Cond.selects "AlarmKinds$Heat" ({ cls := "AlarmKinds$Plain", name := "doCost", desc := "()I" } : MethodName) ({ cls := "AlarmKinds$Radio", name := "doCost", desc := "()I" } : MethodName)).before A U = true := kw.use h A (List.mem_of_getElem? (i := 367) (by decide +kernel)) rfl
theorem se_X4_X3_doCost {U : State} (h : kw U) (A : Array Value) : (Cond.selects "AlarmKinds$Radio" ({ cls := "AlarmKinds$Plain", name := "doCost", desc := "()I" } : MethodName) ({ cls := "AlarmKinds$Radio", name := "doCost", desc := "()I" } : MethodName)).before A U = true := kw.use h A (List.mem_of_getElem? (i := 368) (by decide +kernel)) rfl
theorem se_X5_X3_doCost {U : State} (h : kw U) (A : Array Value) : (Cond.selects "AlarmKinds$Smoke" ({ cls := "AlarmKinds$Plain", name := "doCost", desc := "()I" } : MethodName) ({ cls := "AlarmKinds$Plain", name := "doCost", desc := "()I" } : MethodName)).before A U = true := kw.use h A (List.mem_of_getElem? (i := 369) (by decide +kernel)) rfl
theorem se_X7_X3_doCost {U : State} (h : kw U) (A : Array Value) : (Cond.selects "AlarmKinds$Twin" ({ cls := "AlarmKinds$Plain", name := "doCost", desc := "()I" } : MethodName) ({ cls := "AlarmKinds$Twin", name := "doCost", desc := "()I" } : MethodName)).before A U = true := kw.use h A (List.mem_of_getElem? (i := 370) (by decide +kernel)) rfl
theorem im_X7_doCost {U : State} (h : kw U) (A : Array Value) : (Cond.instanceMethod ({ cls := "AlarmKinds$Twin", name := "doCost", desc := "()I" } : MethodName)).before A U = true := kw.use h A (List.mem_of_getElem? (i := 371) (by decide +kernel)) rfl
theorem co_X7_doCost {U : State} (h : kw U) (A : Array Value) : (Cond.code ({ cls := "AlarmKinds$Twin", name := "doCost", desc := "()I" } : MethodName) prog_9_method_4_code (1 : Nat) (Option.some FieldType.int)).before A U = true := kw.use h A (List.mem_of_getElem? (i := 372) (by decide +kernel)) rfl
theorem ml_X7_33 {U : State} (h : kw U) (A : Array Value) : (Cond.methodLink "AlarmKinds$Twin" (33 : Nat) ({ cls := "AlarmKinds$Smoke", name := "doCost", desc := "()I" } : MethodName)).before A U = true := kw.use h A (List.mem_of_getElem? (i := 373) (by decide +kernel)) rfl
theorem sm_X5_X3_doCost {U : State} (h : kw U) (A : Array Value) : (Cond.sameMethod "AlarmKinds$Smoke" "AlarmKinds$Plain" "doCost" "()I").before A U = true := kw.use h A (List.mem_of_getElem? (i := 374) (by decide +kernel)) rfl
theorem ml_X7_37 {U : State} (h : kw U) (A : Array Value) : (Cond.methodLink "AlarmKinds$Twin" (37 : Nat) ({ cls := "java/lang/Math", name := "abs", desc := "(I)I" } : MethodName)).before A U = true := kw.use h A (List.mem_of_getElem? (i := 375) (by decide +kernel)) rfl
theorem st_J9_abs {U : State} (h : kw U) (A : Array Value) : (Cond.static ({ cls := "java/lang/Math", name := "abs", desc := "(I)I" } : MethodName)).before A U = true := kw.use h A (List.mem_of_getElem? (i := 376) (by decide +kernel)) rfl
theorem co_J9_abs {U : State} (h : kw U) (A : Array Value) : (Cond.code ({ cls := "java/lang/Math", name := "abs", desc := "(I)I" } : MethodName) prog_16_method_59_code (1 : Nat) (Option.some FieldType.int)).before A U = true := kw.use h A (List.mem_of_getElem? (i := 377) (by decide +kernel)) rfl
theorem se_X8_X3_doCost {U : State} (h : kw U) (A : Array Value) : (Cond.selects "AlarmKinds$Wired" ({ cls := "AlarmKinds$Plain", name := "doCost", desc := "()I" } : MethodName) ({ cls := "AlarmKinds$Plain", name := "doCost", desc := "()I" } : MethodName)).before A U = true := kw.use h A (List.mem_of_getElem? (i := 378) (by decide +kernel)) rfl
theorem co_X3_doCost {U : State} (h : kw U) (A : Array Value) : (Cond.code ({ cls := "AlarmKinds$Plain", name := "doCost", desc := "()I" } : MethodName) prog_5_method_6_code (1 : Nat) (Option.some FieldType.int)).before A U = true := kw.use h A (List.mem_of_getElem? (i := 379) (by decide +kernel)) rfl
theorem ml_L_55 {U : State} (h : kw U) (A : Array Value) : (Cond.methodLink "AlarmKindsLaw" (55 : Nat) ({ cls := "AlarmKinds", name := "tell", desc := "(II)I" } : MethodName)).before A U = true := kw.use h A (List.mem_of_getElem? (i := 380) (by decide +kernel)) rfl
theorem im_X9_tell {U : State} (h : kw U) (A : Array Value) : (Cond.instanceMethod ({ cls := "AlarmKinds", name := "tell", desc := "(II)I" } : MethodName)).before A U = true := kw.use h A (List.mem_of_getElem? (i := 381) (by decide +kernel)) rfl
theorem se_X9_X9_tell {U : State} (h : kw U) (A : Array Value) : (Cond.selects "AlarmKinds" ({ cls := "AlarmKinds", name := "tell", desc := "(II)I" } : MethodName) ({ cls := "AlarmKinds", name := "tell", desc := "(II)I" } : MethodName)).before A U = true := kw.use h A (List.mem_of_getElem? (i := 382) (by decide +kernel)) rfl
theorem co_X9_tell {U : State} (h : kw U) (A : Array Value) : (Cond.code ({ cls := "AlarmKinds", name := "tell", desc := "(II)I" } : MethodName) prog_1_method_8_code (4 : Nat) (Option.some FieldType.int)).before A U = true := kw.use h A (List.mem_of_getElem? (i := 383) (by decide +kernel)) rfl
theorem ml_L_59 {U : State} (h : kw U) (A : Array Value) : (Cond.methodLink "AlarmKindsLaw" (59 : Nat) ({ cls := "AlarmKinds", name := "sweep", desc := "(II)I" } : MethodName)).before A U = true := kw.use h A (List.mem_of_getElem? (i := 384) (by decide +kernel)) rfl
theorem im_X9_sweep {U : State} (h : kw U) (A : Array Value) : (Cond.instanceMethod ({ cls := "AlarmKinds", name := "sweep", desc := "(II)I" } : MethodName)).before A U = true := kw.use h A (List.mem_of_getElem? (i := 385) (by decide +kernel)) rfl
theorem se_X9_X9_sweep {U : State} (h : kw U) (A : Array Value) : (Cond.selects "AlarmKinds" ({ cls := "AlarmKinds", name := "sweep", desc := "(II)I" } : MethodName) ({ cls := "AlarmKinds", name := "sweep", desc := "(II)I" } : MethodName)).before A U = true := kw.use h A (List.mem_of_getElem? (i := 386) (by decide +kernel)) rfl
theorem co_X9_sweep {U : State} (h : kw U) (A : Array Value) : (Cond.codeWith ({ cls := "AlarmKinds", name := "sweep", desc := "(II)I" } : MethodName) prog_1_method_9_code (7 : Nat) (Option.some FieldType.int) [((45 : Nat), (51 : Nat), (54 : Nat), (95 : Nat)), ((45 : Nat), (51 : Nat), (62 : Nat), (97 : Nat))]).before A U = true := kw.use h A (List.mem_of_getElem? (i := 387) (by decide +kernel)) rfl
theorem cl_X9_95 {U : State} (h : kw U) (A : Array Value) : (Cond.classLink "AlarmKinds" (95 : Nat) "java/lang/IllegalStateException").before A U = true := kw.use h A (List.mem_of_getElem? (i := 388) (by decide +kernel)) rfl
theorem cl_X9_97 {U : State} (h : kw U) (A : Array Value) : (Cond.classLink "AlarmKinds" (97 : Nat) "java/lang/ArithmeticException").before A U = true := kw.use h A (List.mem_of_getElem? (i := 389) (by decide +kernel)) rfl
theorem ml_X9_91 {U : State} (h : kw U) (A : Array Value) : (Cond.methodLink "AlarmKinds" (91 : Nat) ({ cls := "AlarmKinds", name := "findIn", desc := "(II)LAlarmKinds$Plain;" } : MethodName)).before A U = true := kw.use h A (List.mem_of_getElem? (i := 390) (by decide +kernel)) rfl
theorem im_X9_findIn {U : State} (h : kw U) (A : Array Value) : (Cond.instanceMethod ({ cls := "AlarmKinds", name := "findIn", desc := "(II)LAlarmKinds$Plain;" } : MethodName)).before A U = true := kw.use h A (List.mem_of_getElem? (i := 392) (by decide +kernel)) rfl
theorem co_X9_findIn {U : State} (h : kw U) (A : Array Value) : (Cond.code ({ cls := "AlarmKinds", name := "findIn", desc := "(II)LAlarmKinds$Plain;" } : MethodName) prog_1_method_15_code (4 : Nat) (Option.some (FieldType.object "AlarmKinds$Plain"))).before A U = true := kw.use h A (List.mem_of_getElem? (i := 393) (by decide +kernel)) rfl
theorem ml_X9_47 {U : State} (h : kw U) (A : Array Value) : (Cond.methodLink "AlarmKinds" (47 : Nat) ({ cls := "AlarmKinds$Plain", name := "doRead", desc := "(I)V" } : MethodName)).before A U = true := kw.use h A (List.mem_of_getElem? (i := 394) (by decide +kernel)) rfl
theorem im_X3_doRead {U : State} (h : kw U) (A : Array Value) : (Cond.instanceMethod ({ cls := "AlarmKinds$Plain", name := "doRead", desc := "(I)V" } : MethodName)).before A U = true := kw.use h A (List.mem_of_getElem? (i := 395) (by decide +kernel)) rfl
theorem se_X3_X3_doRead {U : State} (h : kw U) (A : Array Value) : (Cond.selects "AlarmKinds$Plain" ({ cls := "AlarmKinds$Plain", name := "doRead", desc := "(I)V" } : MethodName) ({ cls := "AlarmKinds$Plain", name := "doRead", desc := "(I)V" } : MethodName)).before A U = true := kw.use h A (List.mem_of_getElem? (i := 396) (by decide +kernel)) rfl
theorem sm_X3_X3_doRead {U : State} (h : kw U) (A : Array Value) : (Cond.sameMethod "AlarmKinds$Plain" "AlarmKinds$Plain" "doRead" "(I)V").before A U = true := kw.use h A (List.mem_of_getElem? (i := 397) (by decide +kernel)) rfl
theorem se_X0_X3_doRead {U : State} (h : kw U) (A : Array Value) : (Cond.selects "AlarmKinds$Beam" ({ cls := "AlarmKinds$Plain", name := "doRead", desc := "(I)V" } : MethodName) ({ cls := "AlarmKinds$Plain", name := "doRead", desc := "(I)V" } : MethodName)).before A U = true := kw.use h A (List.mem_of_getElem? (i := 398) (by decide +kernel)) rfl
theorem se_X1_X3_doRead {U : State} (h : kw U) (A : Array Value) : (Cond.selects "AlarmKinds$Flood" ({ cls := "AlarmKinds$Plain", name := "doRead", desc := "(I)V" } : MethodName) ({ cls := "AlarmKinds$Plain", name := "doRead", desc := "(I)V" } : MethodName)).before A U = true := kw.use h A (List.mem_of_getElem? (i := 399) (by decide +kernel)) rfl
theorem se_X2_X3_doRead {U : State} (h : kw U) (A : Array Value) : (Cond.selects "AlarmKinds$Heat" ({ cls := "AlarmKinds$Plain", name := "doRead", desc := "(I)V" } : MethodName) ({ cls := "AlarmKinds$Heat", name := "doRead", desc := "(I)V" } : MethodName)).before A U = true := kw.use h A (List.mem_of_getElem? (i := 400) (by decide +kernel)) rfl
theorem im_X2_doRead {U : State} (h : kw U) (A : Array Value) : (Cond.instanceMethod ({ cls := "AlarmKinds$Heat", name := "doRead", desc := "(I)V" } : MethodName)).before A U = true := kw.use h A (List.mem_of_getElem? (i := 401) (by decide +kernel)) rfl
theorem co_X2_doRead {U : State} (h : kw U) (A : Array Value) : (Cond.code ({ cls := "AlarmKinds$Heat", name := "doRead", desc := "(I)V" } : MethodName) prog_4_method_2_code (2 : Nat) (Option.none : Option FieldType)).before A U = true := kw.use h A (List.mem_of_getElem? (i := 402) (by decide +kernel)) rfl
theorem ml_X2_21 {U : State} (h : kw U) (A : Array Value) : (Cond.methodLink "AlarmKinds$Heat" (21 : Nat) ({ cls := "AlarmKinds$Radio", name := "doRead", desc := "(I)V" } : MethodName)).before A U = true := kw.use h A (List.mem_of_getElem? (i := 403) (by decide +kernel)) rfl
theorem sm_X4_X3_doRead {U : State} (h : kw U) (A : Array Value) : (Cond.sameMethod "AlarmKinds$Radio" "AlarmKinds$Plain" "doRead" "(I)V").before A U = true := kw.use h A (List.mem_of_getElem? (i := 404) (by decide +kernel)) rfl
theorem se_X4_X3_doRead {U : State} (h : kw U) (A : Array Value) : (Cond.selects "AlarmKinds$Radio" ({ cls := "AlarmKinds$Plain", name := "doRead", desc := "(I)V" } : MethodName) ({ cls := "AlarmKinds$Plain", name := "doRead", desc := "(I)V" } : MethodName)).before A U = true := kw.use h A (List.mem_of_getElem? (i := 406) (by decide +kernel)) rfl
theorem se_X5_X3_doRead {U : State} (h : kw U) (A : Array Value) : (Cond.selects "AlarmKinds$Smoke" ({ cls := "AlarmKinds$Plain", name := "doRead", desc := "(I)V" } : MethodName) ({ cls := "AlarmKinds$Smoke", name := "doRead", desc := "(I)V" } : MethodName)).before A U = true := kw.use h A (List.mem_of_getElem? (i := 407) (by decide +kernel)) rfl
theorem im_X5_doRead {U : State} (h : kw U) (A : Array Value) : (Cond.instanceMethod ({ cls := "AlarmKinds$Smoke", name := "doRead", desc := "(I)V" } : MethodName)).before A U = true := kw.use h A (List.mem_of_getElem? (i := 408) (by decide +kernel)) rfl
theorem co_X5_doRead {U : State} (h : kw U) (A : Array Value) : (Cond.code ({ cls := "AlarmKinds$Smoke", name := "doRead", desc := "(I)V" } : MethodName) prog_7_method_3_code (2 : Nat) (Option.none : Option FieldType)).before A U = true := kw.use h A (List.mem_of_getElem? (i := 409) (by decide +kernel)) rfl
theorem ml_X5_15 {U : State} (h : kw U) (A : Array Value) : (Cond.methodLink "AlarmKinds$Smoke" (15 : Nat) ({ cls := "AlarmKinds$Trace", name := "begin", desc := "(II)V" } : MethodName)).before A U = true := kw.use h A (List.mem_of_getElem? (i := 410) (by decide +kernel)) rfl
theorem ml_X5_29 {U : State} (h : kw U) (A : Array Value) : (Cond.methodLink "AlarmKinds$Smoke" (29 : Nat) ({ cls := "AlarmKinds$Wired", name := "doRead", desc := "(I)V" } : MethodName)).before A U = true := kw.use h A (List.mem_of_getElem? (i := 411) (by decide +kernel)) rfl
theorem sm_X8_X3_doRead {U : State} (h : kw U) (A : Array Value) : (Cond.sameMethod "AlarmKinds$Wired" "AlarmKinds$Plain" "doRead" "(I)V").before A U = true := kw.use h A (List.mem_of_getElem? (i := 412) (by decide +kernel)) rfl
theorem se_X7_X3_doRead {U : State} (h : kw U) (A : Array Value) : (Cond.selects "AlarmKinds$Twin" ({ cls := "AlarmKinds$Plain", name := "doRead", desc := "(I)V" } : MethodName) ({ cls := "AlarmKinds$Twin", name := "doRead", desc := "(I)V" } : MethodName)).before A U = true := kw.use h A (List.mem_of_getElem? (i := 413) (by decide +kernel)) rfl
theorem im_X7_doRead {U : State} (h : kw U) (A : Array Value) : (Cond.instanceMethod ({ cls := "AlarmKinds$Twin", name := "doRead", desc := "(I)V" } : MethodName)).before A U = true := kw.use h A (List.mem_of_getElem? (i := 414) (by decide +kernel)) rfl
theorem co_X7_doRead {U : State} (h : kw U) (A : Array Value) : (Cond.code ({ cls := "AlarmKinds$Twin", name := "doRead", desc := "(I)V" } : MethodName) prog_9_method_2_code (2 : Nat) (Option.none : Option FieldType)).before A U = true := kw.use h A (List.mem_of_getElem? (i := 415) (by decide +kernel)) rfl
theorem ml_X7_21 {U : State} (h : kw U) (A : Array Value) : (Cond.methodLink "AlarmKinds$Twin" (21 : Nat) ({ cls := "AlarmKinds$Smoke", name := "doRead", desc := "(I)V" } : MethodName)).before A U = true := kw.use h A (List.mem_of_getElem? (i := 416) (by decide +kernel)) rfl
theorem se_X8_X3_doRead {U : State} (h : kw U) (A : Array Value) : (Cond.selects "AlarmKinds$Wired" ({ cls := "AlarmKinds$Plain", name := "doRead", desc := "(I)V" } : MethodName) ({ cls := "AlarmKinds$Plain", name := "doRead", desc := "(I)V" } : MethodName)).before A U = true := kw.use h A (List.mem_of_getElem? (i := 417) (by decide +kernel)) rfl
theorem co_X3_doRead {U : State} (h : kw U) (A : Array Value) : (Cond.code ({ cls := "AlarmKinds$Plain", name := "doRead", desc := "(I)V" } : MethodName) prog_5_method_3_code (3 : Nat) (Option.none : Option FieldType)).before A U = true := kw.use h A (List.mem_of_getElem? (i := 418) (by decide +kernel)) rfl
theorem ml_X3_34 {U : State} (h : kw U) (A : Array Value) : (Cond.methodLink "AlarmKinds$Plain" (34 : Nat) ({ cls := "AlarmKinds$Plain", name := "doWeigh", desc := "(I)I" } : MethodName)).before A U = true := kw.use h A (List.mem_of_getElem? (i := 419) (by decide +kernel)) rfl
theorem im_X3_doWeigh {U : State} (h : kw U) (A : Array Value) : (Cond.instanceMethod ({ cls := "AlarmKinds$Plain", name := "doWeigh", desc := "(I)I" } : MethodName)).before A U = true := kw.use h A (List.mem_of_getElem? (i := 420) (by decide +kernel)) rfl
theorem se_X3_X3_doWeigh {U : State} (h : kw U) (A : Array Value) : (Cond.selects "AlarmKinds$Plain" ({ cls := "AlarmKinds$Plain", name := "doWeigh", desc := "(I)I" } : MethodName) ({ cls := "AlarmKinds$Plain", name := "doWeigh", desc := "(I)I" } : MethodName)).before A U = true := kw.use h A (List.mem_of_getElem? (i := 421) (by decide +kernel)) rfl
theorem sm_X3_X3_doWeigh {U : State} (h : kw U) (A : Array Value) : (Cond.sameMethod "AlarmKinds$Plain" "AlarmKinds$Plain" "doWeigh" "(I)I").before A U = true := kw.use h A (List.mem_of_getElem? (i := 422) (by decide +kernel)) rfl
theorem se_X0_X3_doWeigh {U : State} (h : kw U) (A : Array Value) : (Cond.selects "AlarmKinds$Beam" ({ cls := "AlarmKinds$Plain", name := "doWeigh", desc := "(I)I" } : MethodName) ({ cls := "AlarmKinds$Beam", name := "doWeigh", desc := "(I)I" } : MethodName)).before A U = true := kw.use h A (List.mem_of_getElem? (i := 423) (by decide +kernel)) rfl
theorem im_X0_doWeigh {U : State} (h : kw U) (A : Array Value) : (Cond.instanceMethod ({ cls := "AlarmKinds$Beam", name := "doWeigh", desc := "(I)I" } : MethodName)).before A U = true := kw.use h A (List.mem_of_getElem? (i := 424) (by decide +kernel)) rfl
theorem co_X0_doWeigh {U : State} (h : kw U) (A : Array Value) : (Cond.code ({ cls := "AlarmKinds$Beam", name := "doWeigh", desc := "(I)I" } : MethodName) prog_2_method_2_code (3 : Nat) (Option.some FieldType.int)).before A U = true := kw.use h A (List.mem_of_getElem? (i := 425) (by decide +kernel)) rfl
theorem ml_X0_21 {U : State} (h : kw U) (A : Array Value) : (Cond.methodLink "AlarmKinds$Beam" (21 : Nat) ({ cls := "AlarmKinds$Radio", name := "doWeigh", desc := "(I)I" } : MethodName)).before A U = true := kw.use h A (List.mem_of_getElem? (i := 426) (by decide +kernel)) rfl
theorem im_X4_doWeigh {U : State} (h : kw U) (A : Array Value) : (Cond.instanceMethod ({ cls := "AlarmKinds$Radio", name := "doWeigh", desc := "(I)I" } : MethodName)).before A U = true := kw.use h A (List.mem_of_getElem? (i := 427) (by decide +kernel)) rfl
theorem co_X4_doWeigh {U : State} (h : kw U) (A : Array Value) : (Cond.code ({ cls := "AlarmKinds$Radio", name := "doWeigh", desc := "(I)I" } : MethodName) prog_6_method_2_code (2 : Nat) (Option.some FieldType.int)).before A U = true := kw.use h A (List.mem_of_getElem? (i := 428) (by decide +kernel)) rfl
theorem cl_X4_28 {U : State} (h : kw U) (A : Array Value) : (Cond.classLink "AlarmKinds$Radio" (28 : Nat) "java/lang/IllegalStateException").before A U = true := kw.use h A (List.mem_of_getElem? (i := 429) (by decide +kernel)) rfl
theorem ia_IS {U : State} (h : kw U) (A : Array Value) : (Cond.instantiable "java/lang/IllegalStateException" (6 : Nat)).before A U = true := kw.use h A (List.mem_of_getElem? (i := 430) (by decide +kernel)) rfl
theorem se_IS_T_fillInStackTrace {U : State} (h : kw U) (A : Array Value) : (Cond.selects "java/lang/IllegalStateException" ({ cls := "java/lang/Throwable", name := "fillInStackTrace", desc := "(I)Ljava/lang/Throwable;" } : MethodName) ({ cls := "java/lang/Throwable", name := "fillInStackTrace", desc := "(I)Ljava/lang/Throwable;" } : MethodName)).before A U = true := kw.use h A (List.mem_of_getElem? (i := 438) (by decide +kernel)) rfl
theorem se_IS_T_fillInStackTrace_439 {U : State} (h : kw U) (A : Array Value) : (Cond.selects "java/lang/IllegalStateException" ({ cls := "java/lang/Throwable", name := "fillInStackTrace", desc := "()Ljava/lang/Throwable;" } : MethodName) ({ cls := "java/lang/Throwable", name := "fillInStackTrace", desc := "()Ljava/lang/Throwable;" } : MethodName)).before A U = true := kw.use h A (List.mem_of_getElem? (i := 439) (by decide +kernel)) rfl
theorem fl_T_198 {U : State} (h : kw U) (A : Array Value) : (Cond.fieldLink "java/lang/Throwable" (198 : Nat) "java/lang/Throwable" "backtrace" "Ljava/lang/Object;").before A U = true := kw.use h A (List.mem_of_getElem? (i := 450) (by decide +kernel)) rfl
theorem su_T {U : State} (h : kw U) (A : Array Value) : (Cond.superclass "java/lang/Throwable" "java/lang/Object").before A U = true := kw.use h A (List.mem_of_getElem? (i := 451) (by decide +kernel)) rfl
theorem im_T_init {U : State} (h : kw U) (A : Array Value) : (Cond.instanceMethod ({ cls := "java/lang/Throwable", name := "<init>", desc := "()V" } : MethodName)).before A U = true := kw.use h A (List.mem_of_getElem? (i := 452) (by decide +kernel)) rfl
theorem co_T_init {U : State} (h : kw U) (A : Array Value) : (Cond.code ({ cls := "java/lang/Throwable", name := "<init>", desc := "()V" } : MethodName) prog_19_method_1_code (1 : Nat) (Option.none : Option FieldType)).before A U = true := kw.use h A (List.mem_of_getElem? (i := 453) (by decide +kernel)) rfl
theorem ml_T_1 {U : State} (h : kw U) (A : Array Value) : (Cond.methodLink "java/lang/Throwable" (1 : Nat) ({ cls := "java/lang/Object", name := "<init>", desc := "()V" } : MethodName)).before A U = true := kw.use h A (List.mem_of_getElem? (i := 454) (by decide +kernel)) rfl
theorem fl_T_13 {U : State} (h : kw U) (A : Array Value) : (Cond.fieldLink "java/lang/Throwable" (13 : Nat) "java/lang/Throwable" "UNASSIGNED_STACK" "[Ljava/lang/StackTraceElement;").before A U = true := kw.use h A (List.mem_of_getElem? (i := 455) (by decide +kernel)) rfl
theorem fl_T_20 {U : State} (h : kw U) (A : Array Value) : (Cond.fieldLink "java/lang/Throwable" (20 : Nat) "java/lang/Throwable" "SUPPRESSED_SENTINEL" "Ljava/util/List;").before A U = true := kw.use h A (List.mem_of_getElem? (i := 457) (by decide +kernel)) rfl
theorem ml_T_27 {U : State} (h : kw U) (A : Array Value) : (Cond.methodLink "java/lang/Throwable" (27 : Nat) ({ cls := "java/lang/Throwable", name := "fillInStackTrace", desc := "()Ljava/lang/Throwable;" } : MethodName)).before A U = true := kw.use h A (List.mem_of_getElem? (i := 459) (by decide +kernel)) rfl
theorem im_T_fillInStackTrace {U : State} (h : kw U) (A : Array Value) : (Cond.instanceMethod ({ cls := "java/lang/Throwable", name := "fillInStackTrace", desc := "()Ljava/lang/Throwable;" } : MethodName)).before A U = true := kw.use h A (List.mem_of_getElem? (i := 460) (by decide +kernel)) rfl
theorem sm_T_T_fillInStackTrace {U : State} (h : kw U) (A : Array Value) : (Cond.sameMethod "java/lang/Throwable" "java/lang/Throwable" "fillInStackTrace" "()Ljava/lang/Throwable;").before A U = true := kw.use h A (List.mem_of_getElem? (i := 461) (by decide +kernel)) rfl
theorem se_AE_T_fillInStackTrace {U : State} (h : kw U) (A : Array Value) : (Cond.selects "java/lang/ArithmeticException" ({ cls := "java/lang/Throwable", name := "fillInStackTrace", desc := "()Ljava/lang/Throwable;" } : MethodName) ({ cls := "java/lang/Throwable", name := "fillInStackTrace", desc := "()Ljava/lang/Throwable;" } : MethodName)).before A U = true := kw.use h A (List.mem_of_getElem? (i := 462) (by decide +kernel)) rfl
theorem cy_T_fillInStackTrace {U : State} (h : kw U) (A : Array Value) : (Cond.codeSync ({ cls := "java/lang/Throwable", name := "fillInStackTrace", desc := "()Ljava/lang/Throwable;" } : MethodName) prog_19_method_18_code (1 : Nat) (Option.some (FieldType.object "java/lang/Throwable"))).before A U = true := kw.use h A (List.mem_of_getElem? (i := 463) (by decide +kernel)) rfl
theorem ml_T_202 {U : State} (h : kw U) (A : Array Value) : (Cond.methodLink "java/lang/Throwable" (202 : Nat) ({ cls := "java/lang/Throwable", name := "fillInStackTrace", desc := "(I)Ljava/lang/Throwable;" } : MethodName)).before A U = true := kw.use h A (List.mem_of_getElem? (i := 464) (by decide +kernel)) rfl
theorem im_T_fillInStackTrace_466 {U : State} (h : kw U) (A : Array Value) : (Cond.instanceMethod ({ cls := "java/lang/Throwable", name := "fillInStackTrace", desc := "(I)Ljava/lang/Throwable;" } : MethodName)).before A U = true := kw.use h A (List.mem_of_getElem? (i := 466) (by decide +kernel)) rfl
theorem ia_T {U : State} (h : kw U) (A : Array Value) : (Cond.instantiable "java/lang/Throwable" (6 : Nat)).before A U = true := kw.use h A (List.mem_of_getElem? (i := 467) (by decide +kernel)) rfl
theorem na_T_fillInStackTrace {U : State} (h : kw U) (A : Array Value) : (Cond.native ({ cls := "java/lang/Throwable", name := "fillInStackTrace", desc := "(I)Ljava/lang/Throwable;" } : MethodName)).before A U = true := kw.use h A (List.mem_of_getElem? (i := 468) (by decide +kernel)) rfl
theorem ml_X4_32 {U : State} (h : kw U) (A : Array Value) : (Cond.methodLink "AlarmKinds$Radio" (32 : Nat) ({ cls := "java/lang/IllegalStateException", name := "<init>", desc := "(Ljava/lang/String;)V" } : MethodName)).before A U = true := kw.use h A (List.mem_of_getElem? (i := 470) (by decide +kernel)) rfl
theorem im_IS_init {U : State} (h : kw U) (A : Array Value) : (Cond.instanceMethod ({ cls := "java/lang/IllegalStateException", name := "<init>", desc := "(Ljava/lang/String;)V" } : MethodName)).before A U = true := kw.use h A (List.mem_of_getElem? (i := 471) (by decide +kernel)) rfl
theorem co_IS_init {U : State} (h : kw U) (A : Array Value) : (Cond.code ({ cls := "java/lang/IllegalStateException", name := "<init>", desc := "(Ljava/lang/String;)V" } : MethodName) prog_15_method_2_code (2 : Nat) (Option.none : Option FieldType)).before A U = true := kw.use h A (List.mem_of_getElem? (i := 472) (by decide +kernel)) rfl
theorem ml_IS_7 {U : State} (h : kw U) (A : Array Value) : (Cond.methodLink "java/lang/IllegalStateException" (7 : Nat) ({ cls := "java/lang/RuntimeException", name := "<init>", desc := "(Ljava/lang/String;)V" } : MethodName)).before A U = true := kw.use h A (List.mem_of_getElem? (i := 473) (by decide +kernel)) rfl
theorem im_RE_init {U : State} (h : kw U) (A : Array Value) : (Cond.instanceMethod ({ cls := "java/lang/RuntimeException", name := "<init>", desc := "(Ljava/lang/String;)V" } : MethodName)).before A U = true := kw.use h A (List.mem_of_getElem? (i := 474) (by decide +kernel)) rfl
theorem co_RE_init {U : State} (h : kw U) (A : Array Value) : (Cond.code ({ cls := "java/lang/RuntimeException", name := "<init>", desc := "(Ljava/lang/String;)V" } : MethodName) prog_17_method_2_code (2 : Nat) (Option.none : Option FieldType)).before A U = true := kw.use h A (List.mem_of_getElem? (i := 475) (by decide +kernel)) rfl
theorem ml_RE_7 {U : State} (h : kw U) (A : Array Value) : (Cond.methodLink "java/lang/RuntimeException" (7 : Nat) ({ cls := "java/lang/Exception", name := "<init>", desc := "(Ljava/lang/String;)V" } : MethodName)).before A U = true := kw.use h A (List.mem_of_getElem? (i := 476) (by decide +kernel)) rfl
theorem im_E_init {U : State} (h : kw U) (A : Array Value) : (Cond.instanceMethod ({ cls := "java/lang/Exception", name := "<init>", desc := "(Ljava/lang/String;)V" } : MethodName)).before A U = true := kw.use h A (List.mem_of_getElem? (i := 477) (by decide +kernel)) rfl
theorem co_E_init {U : State} (h : kw U) (A : Array Value) : (Cond.code ({ cls := "java/lang/Exception", name := "<init>", desc := "(Ljava/lang/String;)V" } : MethodName) prog_14_method_2_code (2 : Nat) (Option.none : Option FieldType)).before A U = true := kw.use h A (List.mem_of_getElem? (i := 478) (by decide +kernel)) rfl
theorem ml_E_7 {U : State} (h : kw U) (A : Array Value) : (Cond.methodLink "java/lang/Exception" (7 : Nat) ({ cls := "java/lang/Throwable", name := "<init>", desc := "(Ljava/lang/String;)V" } : MethodName)).before A U = true := kw.use h A (List.mem_of_getElem? (i := 479) (by decide +kernel)) rfl
theorem im_T_init_480 {U : State} (h : kw U) (A : Array Value) : (Cond.instanceMethod ({ cls := "java/lang/Throwable", name := "<init>", desc := "(Ljava/lang/String;)V" } : MethodName)).before A U = true := kw.use h A (List.mem_of_getElem? (i := 480) (by decide +kernel)) rfl
theorem co_T_init_481 {U : State} (h : kw U) (A : Array Value) : (Cond.code ({ cls := "java/lang/Throwable", name := "<init>", desc := "(Ljava/lang/String;)V" } : MethodName) prog_19_method_2_code (2 : Nat) (Option.none : Option FieldType)).before A U = true := kw.use h A (List.mem_of_getElem? (i := 481) (by decide +kernel)) rfl
theorem fl_T_31 {U : State} (h : kw U) (A : Array Value) : (Cond.fieldLink "java/lang/Throwable" (31 : Nat) "java/lang/Throwable" "detailMessage" "Ljava/lang/String;").before A U = true := kw.use h A (List.mem_of_getElem? (i := 483) (by decide +kernel)) rfl
theorem fl_T_7 {U : State} (h : kw U) (A : Array Value) : (Cond.fieldLink "java/lang/Throwable" (7 : Nat) "java/lang/Throwable" "cause" "Ljava/lang/Throwable;").before A U = true := kw.use h A (List.mem_of_getElem? (i := 484) (by decide +kernel)) rfl
theorem fl_T_17 {U : State} (h : kw U) (A : Array Value) : (Cond.fieldLink "java/lang/Throwable" (17 : Nat) "java/lang/Throwable" "stackTrace" "[Ljava/lang/StackTraceElement;").before A U = true := kw.use h A (List.mem_of_getElem? (i := 485) (by decide +kernel)) rfl
theorem fl_T_24 {U : State} (h : kw U) (A : Array Value) : (Cond.fieldLink "java/lang/Throwable" (24 : Nat) "java/lang/Throwable" "suppressedExceptions" "Ljava/util/List;").before A U = true := kw.use h A (List.mem_of_getElem? (i := 486) (by decide +kernel)) rfl
theorem su_IS {U : State} (h : kw U) (A : Array Value) : (Cond.superclass "java/lang/IllegalStateException" "java/lang/RuntimeException").before A U = true := kw.use h A (List.mem_of_getElem? (i := 494) (by decide +kernel)) rfl
theorem ac_Q {U : State} (h : kw U) (A : Array Value) : (Cond.arrayClass FieldType.byte).before A U = true := kw.use h A (List.mem_of_getElem? (i := 495) (by decide +kernel)) rfl
theorem ml_X4_35 {U : State} (h : kw U) (A : Array Value) : (Cond.methodLink "AlarmKinds$Radio" (35 : Nat) ({ cls := "AlarmKinds$Wired", name := "doWeigh", desc := "(I)I" } : MethodName)).before A U = true := kw.use h A (List.mem_of_getElem? (i := 496) (by decide +kernel)) rfl
theorem sm_X8_X3_doWeigh {U : State} (h : kw U) (A : Array Value) : (Cond.sameMethod "AlarmKinds$Wired" "AlarmKinds$Plain" "doWeigh" "(I)I").before A U = true := kw.use h A (List.mem_of_getElem? (i := 497) (by decide +kernel)) rfl
theorem cl_X0_29 {U : State} (h : kw U) (A : Array Value) : (Cond.classLink "AlarmKinds$Beam" (29 : Nat) "java/lang/ArithmeticException").before A U = true := kw.use h A (List.mem_of_getElem? (i := 499) (by decide +kernel)) rfl
theorem ia_AE {U : State} (h : kw U) (A : Array Value) : (Cond.instantiable "java/lang/ArithmeticException" (6 : Nat)).before A U = true := kw.use h A (List.mem_of_getElem? (i := 500) (by decide +kernel)) rfl
theorem se_AE_T_fillInStackTrace_502 {U : State} (h : kw U) (A : Array Value) : (Cond.selects "java/lang/ArithmeticException" ({ cls := "java/lang/Throwable", name := "fillInStackTrace", desc := "(I)Ljava/lang/Throwable;" } : MethodName) ({ cls := "java/lang/Throwable", name := "fillInStackTrace", desc := "(I)Ljava/lang/Throwable;" } : MethodName)).before A U = true := kw.use h A (List.mem_of_getElem? (i := 502) (by decide +kernel)) rfl
theorem ml_X0_33 {U : State} (h : kw U) (A : Array Value) : (Cond.methodLink "AlarmKinds$Beam" (33 : Nat) ({ cls := "java/lang/ArithmeticException", name := "<init>", desc := "(Ljava/lang/String;)V" } : MethodName)).before A U = true := kw.use h A (List.mem_of_getElem? (i := 509) (by decide +kernel)) rfl
theorem im_AE_init {U : State} (h : kw U) (A : Array Value) : (Cond.instanceMethod ({ cls := "java/lang/ArithmeticException", name := "<init>", desc := "(Ljava/lang/String;)V" } : MethodName)).before A U = true := kw.use h A (List.mem_of_getElem? (i := 510) (by decide +kernel)) rfl
theorem co_AE_init {U : State} (h : kw U) (A : Array Value) : (Cond.code ({ cls := "java/lang/ArithmeticException", name := "<init>", desc := "(Ljava/lang/String;)V" } : MethodName) prog_13_method_2_code (2 : Nat) (Option.none : Option FieldType)).before A U = true := kw.use h A (List.mem_of_getElem? (i := 511) (by decide +kernel)) rfl
theorem ml_AE_7 {U : State} (h : kw U) (A : Array Value) : (Cond.methodLink "java/lang/ArithmeticException" (7 : Nat) ({ cls := "java/lang/RuntimeException", name := "<init>", desc := "(Ljava/lang/String;)V" } : MethodName)).before A U = true := kw.use h A (List.mem_of_getElem? (i := 512) (by decide +kernel)) rfl
theorem su_AE {U : State} (h : kw U) (A : Array Value) : (Cond.superclass "java/lang/ArithmeticException" "java/lang/RuntimeException").before A U = true := kw.use h A (List.mem_of_getElem? (i := 514) (by decide +kernel)) rfl
theorem se_X1_X3_doWeigh {U : State} (h : kw U) (A : Array Value) : (Cond.selects "AlarmKinds$Flood" ({ cls := "AlarmKinds$Plain", name := "doWeigh", desc := "(I)I" } : MethodName) ({ cls := "AlarmKinds$Plain", name := "doWeigh", desc := "(I)I" } : MethodName)).before A U = true := kw.use h A (List.mem_of_getElem? (i := 515) (by decide +kernel)) rfl
theorem se_X2_X3_doWeigh {U : State} (h : kw U) (A : Array Value) : (Cond.selects "AlarmKinds$Heat" ({ cls := "AlarmKinds$Plain", name := "doWeigh", desc := "(I)I" } : MethodName) ({ cls := "AlarmKinds$Radio", name := "doWeigh", desc := "(I)I" } : MethodName)).before A U = true := kw.use h A (List.mem_of_getElem? (i := 516) (by decide +kernel)) rfl
theorem se_X4_X3_doWeigh {U : State} (h : kw U) (A : Array Value) : (Cond.selects "AlarmKinds$Radio" ({ cls := "AlarmKinds$Plain", name := "doWeigh", desc := "(I)I" } : MethodName) ({ cls := "AlarmKinds$Radio", name := "doWeigh", desc := "(I)I" } : MethodName)).before A U = true := kw.use h A (List.mem_of_getElem? (i := 517) (by decide +kernel)) rfl
theorem se_X5_X3_doWeigh {U : State} (h : kw U) (A : Array Value) : (Cond.selects "AlarmKinds$Smoke" ({ cls := "AlarmKinds$Plain", name := "doWeigh", desc := "(I)I" } : MethodName) ({ cls := "AlarmKinds$Smoke", name := "doWeigh", desc := "(I)I" } : MethodName)).before A U = true := kw.use h A (List.mem_of_getElem? (i := 518) (by decide +kernel)) rfl
theorem im_X5_doWeigh {U : State} (h : kw U) (A : Array Value) : (Cond.instanceMethod ({ cls := "AlarmKinds$Smoke", name := "doWeigh", desc := "(I)I" } : MethodName)).before A U = true := kw.use h A (List.mem_of_getElem? (i := 519) (by decide +kernel)) rfl
theorem co_X5_doWeigh {U : State} (h : kw U) (A : Array Value) : (Cond.code ({ cls := "AlarmKinds$Smoke", name := "doWeigh", desc := "(I)I" } : MethodName) prog_7_method_2_code (2 : Nat) (Option.some FieldType.int)).before A U = true := kw.use h A (List.mem_of_getElem? (i := 520) (by decide +kernel)) rfl
theorem ml_X5_21 {U : State} (h : kw U) (A : Array Value) : (Cond.methodLink "AlarmKinds$Smoke" (21 : Nat) ({ cls := "AlarmKinds$Wired", name := "doWeigh", desc := "(I)I" } : MethodName)).before A U = true := kw.use h A (List.mem_of_getElem? (i := 521) (by decide +kernel)) rfl
theorem se_X7_X3_doWeigh {U : State} (h : kw U) (A : Array Value) : (Cond.selects "AlarmKinds$Twin" ({ cls := "AlarmKinds$Plain", name := "doWeigh", desc := "(I)I" } : MethodName) ({ cls := "AlarmKinds$Smoke", name := "doWeigh", desc := "(I)I" } : MethodName)).before A U = true := kw.use h A (List.mem_of_getElem? (i := 522) (by decide +kernel)) rfl
theorem se_X8_X3_doWeigh {U : State} (h : kw U) (A : Array Value) : (Cond.selects "AlarmKinds$Wired" ({ cls := "AlarmKinds$Plain", name := "doWeigh", desc := "(I)I" } : MethodName) ({ cls := "AlarmKinds$Plain", name := "doWeigh", desc := "(I)I" } : MethodName)).before A U = true := kw.use h A (List.mem_of_getElem? (i := 523) (by decide +kernel)) rfl
theorem co_X3_doWeigh {U : State} (h : kw U) (A : Array Value) : (Cond.code ({ cls := "AlarmKinds$Plain", name := "doWeigh", desc := "(I)I" } : MethodName) prog_5_method_2_code (2 : Nat) (Option.some FieldType.int)).before A U = true := kw.use h A (List.mem_of_getElem? (i := 524) (by decide +kernel)) rfl
theorem ml_L_63 {U : State} (h : kw U) (A : Array Value) : (Cond.methodLink "AlarmKindsLaw" (63 : Nat) ({ cls := "AlarmKinds", name := "alarm", desc := "(II)I" } : MethodName)).before A U = true := kw.use h A (List.mem_of_getElem? (i := 525) (by decide +kernel)) rfl
theorem im_X9_alarm {U : State} (h : kw U) (A : Array Value) : (Cond.instanceMethod ({ cls := "AlarmKinds", name := "alarm", desc := "(II)I" } : MethodName)).before A U = true := kw.use h A (List.mem_of_getElem? (i := 526) (by decide +kernel)) rfl
theorem se_X9_X9_alarm {U : State} (h : kw U) (A : Array Value) : (Cond.selects "AlarmKinds" ({ cls := "AlarmKinds", name := "alarm", desc := "(II)I" } : MethodName) ({ cls := "AlarmKinds", name := "alarm", desc := "(II)I" } : MethodName)).before A U = true := kw.use h A (List.mem_of_getElem? (i := 527) (by decide +kernel)) rfl
theorem co_X9_alarm {U : State} (h : kw U) (A : Array Value) : (Cond.code ({ cls := "AlarmKinds", name := "alarm", desc := "(II)I" } : MethodName) prog_1_method_10_code (6 : Nat) (Option.some FieldType.int)).before A U = true := kw.use h A (List.mem_of_getElem? (i := 528) (by decide +kernel)) rfl
theorem ml_X9_99 {U : State} (h : kw U) (A : Array Value) : (Cond.methodLink "AlarmKinds" (99 : Nat) ({ cls := "AlarmKinds$Plain", name := "doVotes", desc := "()I" } : MethodName)).before A U = true := kw.use h A (List.mem_of_getElem? (i := 529) (by decide +kernel)) rfl
theorem im_X3_doVotes {U : State} (h : kw U) (A : Array Value) : (Cond.instanceMethod ({ cls := "AlarmKinds$Plain", name := "doVotes", desc := "()I" } : MethodName)).before A U = true := kw.use h A (List.mem_of_getElem? (i := 530) (by decide +kernel)) rfl
theorem se_X3_X3_doVotes {U : State} (h : kw U) (A : Array Value) : (Cond.selects "AlarmKinds$Plain" ({ cls := "AlarmKinds$Plain", name := "doVotes", desc := "()I" } : MethodName) ({ cls := "AlarmKinds$Plain", name := "doVotes", desc := "()I" } : MethodName)).before A U = true := kw.use h A (List.mem_of_getElem? (i := 531) (by decide +kernel)) rfl
theorem sm_X3_X3_doVotes {U : State} (h : kw U) (A : Array Value) : (Cond.sameMethod "AlarmKinds$Plain" "AlarmKinds$Plain" "doVotes" "()I").before A U = true := kw.use h A (List.mem_of_getElem? (i := 532) (by decide +kernel)) rfl
theorem se_X0_X3_doVotes {U : State} (h : kw U) (A : Array Value) : (Cond.selects "AlarmKinds$Beam" ({ cls := "AlarmKinds$Plain", name := "doVotes", desc := "()I" } : MethodName) ({ cls := "AlarmKinds$Wired", name := "doVotes", desc := "()I" } : MethodName)).before A U = true := kw.use h A (List.mem_of_getElem? (i := 533) (by decide +kernel)) rfl
theorem im_X8_doVotes {U : State} (h : kw U) (A : Array Value) : (Cond.instanceMethod ({ cls := "AlarmKinds$Wired", name := "doVotes", desc := "()I" } : MethodName)).before A U = true := kw.use h A (List.mem_of_getElem? (i := 534) (by decide +kernel)) rfl
theorem co_X8_doVotes {U : State} (h : kw U) (A : Array Value) : (Cond.code ({ cls := "AlarmKinds$Wired", name := "doVotes", desc := "()I" } : MethodName) prog_10_method_2_code (1 : Nat) (Option.some FieldType.int)).before A U = true := kw.use h A (List.mem_of_getElem? (i := 535) (by decide +kernel)) rfl
theorem ml_X8_7 {U : State} (h : kw U) (A : Array Value) : (Cond.methodLink "AlarmKinds$Wired" (7 : Nat) ({ cls := "AlarmKinds$Wired", name := "doOver", desc := "()Z" } : MethodName)).before A U = true := kw.use h A (List.mem_of_getElem? (i := 536) (by decide +kernel)) rfl
theorem se_X0_X8_doOver {U : State} (h : kw U) (A : Array Value) : (Cond.selects "AlarmKinds$Beam" ({ cls := "AlarmKinds$Wired", name := "doOver", desc := "()Z" } : MethodName) ({ cls := "AlarmKinds$Plain", name := "doOver", desc := "()Z" } : MethodName)).before A U = true := kw.use h A (List.mem_of_getElem? (i := 537) (by decide +kernel)) rfl
theorem se_X1_X8_doOver {U : State} (h : kw U) (A : Array Value) : (Cond.selects "AlarmKinds$Flood" ({ cls := "AlarmKinds$Wired", name := "doOver", desc := "()Z" } : MethodName) ({ cls := "AlarmKinds$Flood", name := "doOver", desc := "()Z" } : MethodName)).before A U = true := kw.use h A (List.mem_of_getElem? (i := 538) (by decide +kernel)) rfl
theorem se_X2_X8_doOver {U : State} (h : kw U) (A : Array Value) : (Cond.selects "AlarmKinds$Heat" ({ cls := "AlarmKinds$Wired", name := "doOver", desc := "()Z" } : MethodName) ({ cls := "AlarmKinds$Heat", name := "doOver", desc := "()Z" } : MethodName)).before A U = true := kw.use h A (List.mem_of_getElem? (i := 539) (by decide +kernel)) rfl
theorem se_X4_X8_doOver {U : State} (h : kw U) (A : Array Value) : (Cond.selects "AlarmKinds$Radio" ({ cls := "AlarmKinds$Wired", name := "doOver", desc := "()Z" } : MethodName) ({ cls := "AlarmKinds$Plain", name := "doOver", desc := "()Z" } : MethodName)).before A U = true := kw.use h A (List.mem_of_getElem? (i := 540) (by decide +kernel)) rfl
theorem se_X5_X8_doOver {U : State} (h : kw U) (A : Array Value) : (Cond.selects "AlarmKinds$Smoke" ({ cls := "AlarmKinds$Wired", name := "doOver", desc := "()Z" } : MethodName) ({ cls := "AlarmKinds$Plain", name := "doOver", desc := "()Z" } : MethodName)).before A U = true := kw.use h A (List.mem_of_getElem? (i := 541) (by decide +kernel)) rfl
theorem se_X7_X8_doOver {U : State} (h : kw U) (A : Array Value) : (Cond.selects "AlarmKinds$Twin" ({ cls := "AlarmKinds$Wired", name := "doOver", desc := "()Z" } : MethodName) ({ cls := "AlarmKinds$Plain", name := "doOver", desc := "()Z" } : MethodName)).before A U = true := kw.use h A (List.mem_of_getElem? (i := 542) (by decide +kernel)) rfl
theorem se_X8_X8_doOver {U : State} (h : kw U) (A : Array Value) : (Cond.selects "AlarmKinds$Wired" ({ cls := "AlarmKinds$Wired", name := "doOver", desc := "()Z" } : MethodName) ({ cls := "AlarmKinds$Plain", name := "doOver", desc := "()Z" } : MethodName)).before A U = true := kw.use h A (List.mem_of_getElem? (i := 543) (by decide +kernel)) rfl
theorem se_X1_X3_doVotes {U : State} (h : kw U) (A : Array Value) : (Cond.selects "AlarmKinds$Flood" ({ cls := "AlarmKinds$Plain", name := "doVotes", desc := "()I" } : MethodName) ({ cls := "AlarmKinds$Wired", name := "doVotes", desc := "()I" } : MethodName)).before A U = true := kw.use h A (List.mem_of_getElem? (i := 544) (by decide +kernel)) rfl
theorem se_X2_X3_doVotes {U : State} (h : kw U) (A : Array Value) : (Cond.selects "AlarmKinds$Heat" ({ cls := "AlarmKinds$Plain", name := "doVotes", desc := "()I" } : MethodName) ({ cls := "AlarmKinds$Wired", name := "doVotes", desc := "()I" } : MethodName)).before A U = true := kw.use h A (List.mem_of_getElem? (i := 545) (by decide +kernel)) rfl
theorem se_X4_X3_doVotes {U : State} (h : kw U) (A : Array Value) : (Cond.selects "AlarmKinds$Radio" ({ cls := "AlarmKinds$Plain", name := "doVotes", desc := "()I" } : MethodName) ({ cls := "AlarmKinds$Wired", name := "doVotes", desc := "()I" } : MethodName)).before A U = true := kw.use h A (List.mem_of_getElem? (i := 546) (by decide +kernel)) rfl
theorem se_X5_X3_doVotes {U : State} (h : kw U) (A : Array Value) : (Cond.selects "AlarmKinds$Smoke" ({ cls := "AlarmKinds$Plain", name := "doVotes", desc := "()I" } : MethodName) ({ cls := "AlarmKinds$Wired", name := "doVotes", desc := "()I" } : MethodName)).before A U = true := kw.use h A (List.mem_of_getElem? (i := 547) (by decide +kernel)) rfl
theorem se_X7_X3_doVotes {U : State} (h : kw U) (A : Array Value) : (Cond.selects "AlarmKinds$Twin" ({ cls := "AlarmKinds$Plain", name := "doVotes", desc := "()I" } : MethodName) ({ cls := "AlarmKinds$Twin", name := "doVotes", desc := "()I" } : MethodName)).before A U = true := kw.use h A (List.mem_of_getElem? (i := 548) (by decide +kernel)) rfl
theorem im_X7_doVotes {U : State} (h : kw U) (A : Array Value) : (Cond.instanceMethod ({ cls := "AlarmKinds$Twin", name := "doVotes", desc := "()I" } : MethodName)).before A U = true := kw.use h A (List.mem_of_getElem? (i := 549) (by decide +kernel)) rfl
theorem co_X7_doVotes {U : State} (h : kw U) (A : Array Value) : (Cond.code ({ cls := "AlarmKinds$Twin", name := "doVotes", desc := "()I" } : MethodName) prog_9_method_5_code (1 : Nat) (Option.some FieldType.int)).before A U = true := kw.use h A (List.mem_of_getElem? (i := 550) (by decide +kernel)) rfl
theorem ml_X7_43 {U : State} (h : kw U) (A : Array Value) : (Cond.methodLink "AlarmKinds$Twin" (43 : Nat) ({ cls := "AlarmKinds$Twin", name := "doOver", desc := "()Z" } : MethodName)).before A U = true := kw.use h A (List.mem_of_getElem? (i := 551) (by decide +kernel)) rfl
theorem sm_X7_X3_doOver {U : State} (h : kw U) (A : Array Value) : (Cond.sameMethod "AlarmKinds$Twin" "AlarmKinds$Plain" "doOver" "()Z").before A U = true := kw.use h A (List.mem_of_getElem? (i := 552) (by decide +kernel)) rfl
theorem se_X7_X7_doOver {U : State} (h : kw U) (A : Array Value) : (Cond.selects "AlarmKinds$Twin" ({ cls := "AlarmKinds$Twin", name := "doOver", desc := "()Z" } : MethodName) ({ cls := "AlarmKinds$Plain", name := "doOver", desc := "()Z" } : MethodName)).before A U = true := kw.use h A (List.mem_of_getElem? (i := 553) (by decide +kernel)) rfl
theorem se_X8_X3_doVotes {U : State} (h : kw U) (A : Array Value) : (Cond.selects "AlarmKinds$Wired" ({ cls := "AlarmKinds$Plain", name := "doVotes", desc := "()I" } : MethodName) ({ cls := "AlarmKinds$Wired", name := "doVotes", desc := "()I" } : MethodName)).before A U = true := kw.use h A (List.mem_of_getElem? (i := 554) (by decide +kernel)) rfl
theorem co_X3_doVotes {U : State} (h : kw U) (A : Array Value) : (Cond.code ({ cls := "AlarmKinds$Plain", name := "doVotes", desc := "()I" } : MethodName) prog_5_method_7_code (1 : Nat) (Option.some FieldType.int)).before A U = true := kw.use h A (List.mem_of_getElem? (i := 555) (by decide +kernel)) rfl
theorem ml_X3_44 {U : State} (h : kw U) (A : Array Value) : (Cond.methodLink "AlarmKinds$Plain" (44 : Nat) ({ cls := "AlarmKinds$Plain", name := "doOver", desc := "()Z" } : MethodName)).before A U = true := kw.use h A (List.mem_of_getElem? (i := 556) (by decide +kernel)) rfl
theorem ml_L_67 {U : State} (h : kw U) (A : Array Value) : (Cond.methodLink "AlarmKindsLaw" (67 : Nat) ({ cls := "AlarmKinds", name := "costs", desc := "()I" } : MethodName)).before A U = true := kw.use h A (List.mem_of_getElem? (i := 557) (by decide +kernel)) rfl
theorem im_X9_costs {U : State} (h : kw U) (A : Array Value) : (Cond.instanceMethod ({ cls := "AlarmKinds", name := "costs", desc := "()I" } : MethodName)).before A U = true := kw.use h A (List.mem_of_getElem? (i := 558) (by decide +kernel)) rfl
theorem se_X9_X9_costs {U : State} (h : kw U) (A : Array Value) : (Cond.selects "AlarmKinds" ({ cls := "AlarmKinds", name := "costs", desc := "()I" } : MethodName) ({ cls := "AlarmKinds", name := "costs", desc := "()I" } : MethodName)).before A U = true := kw.use h A (List.mem_of_getElem? (i := 559) (by decide +kernel)) rfl
theorem co_X9_costs {U : State} (h : kw U) (A : Array Value) : (Cond.code ({ cls := "AlarmKinds", name := "costs", desc := "()I" } : MethodName) prog_1_method_11_code (4 : Nat) (Option.some FieldType.int)).before A U = true := kw.use h A (List.mem_of_getElem? (i := 560) (by decide +kernel)) rfl
theorem ml_L_71 {U : State} (h : kw U) (A : Array Value) : (Cond.methodLink "AlarmKindsLaw" (71 : Nat) ({ cls := "AlarmKinds", name := "trace", desc := "(I)I" } : MethodName)).before A U = true := kw.use h A (List.mem_of_getElem? (i := 561) (by decide +kernel)) rfl
theorem im_X9_trace {U : State} (h : kw U) (A : Array Value) : (Cond.instanceMethod ({ cls := "AlarmKinds", name := "trace", desc := "(I)I" } : MethodName)).before A U = true := kw.use h A (List.mem_of_getElem? (i := 562) (by decide +kernel)) rfl
theorem se_X9_X9_trace {U : State} (h : kw U) (A : Array Value) : (Cond.selects "AlarmKinds" ({ cls := "AlarmKinds", name := "trace", desc := "(I)I" } : MethodName) ({ cls := "AlarmKinds", name := "trace", desc := "(I)I" } : MethodName)).before A U = true := kw.use h A (List.mem_of_getElem? (i := 563) (by decide +kernel)) rfl
theorem co_X9_trace {U : State} (h : kw U) (A : Array Value) : (Cond.code ({ cls := "AlarmKinds", name := "trace", desc := "(I)I" } : MethodName) prog_1_method_12_code (2 : Nat) (Option.some FieldType.int)).before A U = true := kw.use h A (List.mem_of_getElem? (i := 564) (by decide +kernel)) rfl
theorem ml_X9_102 {U : State} (h : kw U) (A : Array Value) : (Cond.methodLink "AlarmKinds" (102 : Nat) ({ cls := "AlarmKinds$Trace", name := "at", desc := "(I)I" } : MethodName)).before A U = true := kw.use h A (List.mem_of_getElem? (i := 565) (by decide +kernel)) rfl
theorem im_X6_at {U : State} (h : kw U) (A : Array Value) : (Cond.instanceMethod ({ cls := "AlarmKinds$Trace", name := "at", desc := "(I)I" } : MethodName)).before A U = true := kw.use h A (List.mem_of_getElem? (i := 566) (by decide +kernel)) rfl
theorem se_X6_X6_at {U : State} (h : kw U) (A : Array Value) : (Cond.selects "AlarmKinds$Trace" ({ cls := "AlarmKinds$Trace", name := "at", desc := "(I)I" } : MethodName) ({ cls := "AlarmKinds$Trace", name := "at", desc := "(I)I" } : MethodName)).before A U = true := kw.use h A (List.mem_of_getElem? (i := 567) (by decide +kernel)) rfl
theorem co_X6_at {U : State} (h : kw U) (A : Array Value) : (Cond.code ({ cls := "AlarmKinds$Trace", name := "at", desc := "(I)I" } : MethodName) prog_8_method_3_code (3 : Nat) (Option.some FieldType.int)).before A U = true := kw.use h A (List.mem_of_getElem? (i := 568) (by decide +kernel)) rfl
theorem ml_L_75 {U : State} (h : kw U) (A : Array Value) : (Cond.methodLink "AlarmKindsLaw" (75 : Nat) ({ cls := "AlarmKinds", name := "count", desc := "(I)I" } : MethodName)).before A U = true := kw.use h A (List.mem_of_getElem? (i := 569) (by decide +kernel)) rfl
theorem im_X9_count {U : State} (h : kw U) (A : Array Value) : (Cond.instanceMethod ({ cls := "AlarmKinds", name := "count", desc := "(I)I" } : MethodName)).before A U = true := kw.use h A (List.mem_of_getElem? (i := 570) (by decide +kernel)) rfl
theorem se_X9_X9_count {U : State} (h : kw U) (A : Array Value) : (Cond.selects "AlarmKinds" ({ cls := "AlarmKinds", name := "count", desc := "(I)I" } : MethodName) ({ cls := "AlarmKinds", name := "count", desc := "(I)I" } : MethodName)).before A U = true := kw.use h A (List.mem_of_getElem? (i := 571) (by decide +kernel)) rfl
theorem co_X9_count {U : State} (h : kw U) (A : Array Value) : (Cond.code ({ cls := "AlarmKinds", name := "count", desc := "(I)I" } : MethodName) prog_1_method_13_code (2 : Nat) (Option.some FieldType.int)).before A U = true := kw.use h A (List.mem_of_getElem? (i := 572) (by decide +kernel)) rfl
theorem ml_L_29 {U : State} (h : kw U) (A : Array Value) : (Cond.methodLink "AlarmKindsLaw" (29 : Nat) ({ cls := "AlarmKindsLaw", name := "read", desc := "(LAlarmKinds;II[J)I" } : MethodName)).before A U = true := kw.use h A (List.mem_of_getElem? (i := 573) (by decide +kernel)) rfl
theorem st_L_read {U : State} (h : kw U) (A : Array Value) : (Cond.static ({ cls := "AlarmKindsLaw", name := "read", desc := "(LAlarmKinds;II[J)I" } : MethodName)).before A U = true := kw.use h A (List.mem_of_getElem? (i := 574) (by decide +kernel)) rfl
theorem co_L_read {U : State} (h : kw U) (A : Array Value) : (Cond.codeWith ({ cls := "AlarmKindsLaw", name := "read", desc := "(LAlarmKinds;II[J)I" } : MethodName) method_3_code (5 : Nat) (Option.some FieldType.int) [((0 : Nat), (10 : Nat), (13 : Nat), (13 : Nat)), ((0 : Nat), (10 : Nat), (17 : Nat), (15 : Nat))]).before A U = true := kw.use h A (List.mem_of_getElem? (i := 575) (by decide +kernel)) rfl
theorem cl_L_13 {U : State} (h : kw U) (A : Array Value) : (Cond.classLink "AlarmKindsLaw" (13 : Nat) "java/lang/IllegalStateException").before A U = true := kw.use h A (List.mem_of_getElem? (i := 576) (by decide +kernel)) rfl
theorem cl_L_15 {U : State} (h : kw U) (A : Array Value) : (Cond.classLink "AlarmKindsLaw" (15 : Nat) "java/lang/ArithmeticException").before A U = true := kw.use h A (List.mem_of_getElem? (i := 577) (by decide +kernel)) rfl
theorem ml_L_7 {U : State} (h : kw U) (A : Array Value) : (Cond.methodLink "AlarmKindsLaw" (7 : Nat) ({ cls := "AlarmKinds", name := "read", desc := "(II)I" } : MethodName)).before A U = true := kw.use h A (List.mem_of_getElem? (i := 578) (by decide +kernel)) rfl
theorem im_X9_read {U : State} (h : kw U) (A : Array Value) : (Cond.instanceMethod ({ cls := "AlarmKinds", name := "read", desc := "(II)I" } : MethodName)).before A U = true := kw.use h A (List.mem_of_getElem? (i := 579) (by decide +kernel)) rfl
theorem se_X9_X9_read {U : State} (h : kw U) (A : Array Value) : (Cond.selects "AlarmKinds" ({ cls := "AlarmKinds", name := "read", desc := "(II)I" } : MethodName) ({ cls := "AlarmKinds", name := "read", desc := "(II)I" } : MethodName)).before A U = true := kw.use h A (List.mem_of_getElem? (i := 580) (by decide +kernel)) rfl
theorem co_X9_read {U : State} (h : kw U) (A : Array Value) : (Cond.code ({ cls := "AlarmKinds", name := "read", desc := "(II)I" } : MethodName) prog_1_method_3_code (4 : Nat) (Option.some FieldType.int)).before A U = true := kw.use h A (List.mem_of_getElem? (i := 581) (by decide +kernel)) rfl
theorem ml_L_39 {U : State} (h : kw U) (A : Array Value) : (Cond.methodLink "AlarmKindsLaw" (39 : Nat) ({ cls := "AlarmKindsLaw", name := "weigh", desc := "(LAlarmKinds;II[J)I" } : MethodName)).before A U = true := kw.use h A (List.mem_of_getElem? (i := 582) (by decide +kernel)) rfl
theorem st_L_weigh {U : State} (h : kw U) (A : Array Value) : (Cond.static ({ cls := "AlarmKindsLaw", name := "weigh", desc := "(LAlarmKinds;II[J)I" } : MethodName)).before A U = true := kw.use h A (List.mem_of_getElem? (i := 583) (by decide +kernel)) rfl
theorem co_L_weigh {U : State} (h : kw U) (A : Array Value) : (Cond.codeWith ({ cls := "AlarmKindsLaw", name := "weigh", desc := "(LAlarmKinds;II[J)I" } : MethodName) method_4_code (5 : Nat) (Option.some FieldType.int) [((0 : Nat), (10 : Nat), (13 : Nat), (13 : Nat)), ((0 : Nat), (10 : Nat), (17 : Nat), (15 : Nat))]).before A U = true := kw.use h A (List.mem_of_getElem? (i := 584) (by decide +kernel)) rfl
theorem ml_L_17 {U : State} (h : kw U) (A : Array Value) : (Cond.methodLink "AlarmKindsLaw" (17 : Nat) ({ cls := "AlarmKinds", name := "weigh", desc := "(II)I" } : MethodName)).before A U = true := kw.use h A (List.mem_of_getElem? (i := 585) (by decide +kernel)) rfl
theorem im_X9_weigh {U : State} (h : kw U) (A : Array Value) : (Cond.instanceMethod ({ cls := "AlarmKinds", name := "weigh", desc := "(II)I" } : MethodName)).before A U = true := kw.use h A (List.mem_of_getElem? (i := 586) (by decide +kernel)) rfl
theorem se_X9_X9_weigh {U : State} (h : kw U) (A : Array Value) : (Cond.selects "AlarmKinds" ({ cls := "AlarmKinds", name := "weigh", desc := "(II)I" } : MethodName) ({ cls := "AlarmKinds", name := "weigh", desc := "(II)I" } : MethodName)).before A U = true := kw.use h A (List.mem_of_getElem? (i := 587) (by decide +kernel)) rfl
theorem co_X9_weigh {U : State} (h : kw U) (A : Array Value) : (Cond.code ({ cls := "AlarmKinds", name := "weigh", desc := "(II)I" } : MethodName) prog_1_method_4_code (4 : Nat) (Option.some FieldType.int)).before A U = true := kw.use h A (List.mem_of_getElem? (i := 588) (by decide +kernel)) rfl
theorem ml_X9_54 {U : State} (h : kw U) (A : Array Value) : (Cond.methodLink "AlarmKinds" (54 : Nat) ({ cls := "AlarmKinds$Plain", name := "doWeigh", desc := "(I)I" } : MethodName)).before A U = true := kw.use h A (List.mem_of_getElem? (i := 589) (by decide +kernel)) rfl
theorem cl_L_21 {U : State} (h : kw U) (A : Array Value) : (Cond.classLink "AlarmKindsLaw" (21 : Nat) "AlarmKindsModel").before A U = true := kw.use h A (List.mem_of_getElem? (i := 590) (by decide +kernel)) rfl
theorem ia_X10 {U : State} (h : kw U) (A : Array Value) : (Cond.instantiable "AlarmKindsModel" (15 : Nat)).before A U = true := kw.use h A (List.mem_of_getElem? (i := 591) (by decide +kernel)) rfl
theorem ml_L_23 {U : State} (h : kw U) (A : Array Value) : (Cond.methodLink "AlarmKindsLaw" (23 : Nat) ({ cls := "AlarmKindsModel", name := "<init>", desc := "()V" } : MethodName)).before A U = true := kw.use h A (List.mem_of_getElem? (i := 592) (by decide +kernel)) rfl
theorem im_X10_init {U : State} (h : kw U) (A : Array Value) : (Cond.instanceMethod ({ cls := "AlarmKindsModel", name := "<init>", desc := "()V" } : MethodName)).before A U = true := kw.use h A (List.mem_of_getElem? (i := 593) (by decide +kernel)) rfl
theorem co_X10_init {U : State} (h : kw U) (A : Array Value) : (Cond.code ({ cls := "AlarmKindsModel", name := "<init>", desc := "()V" } : MethodName) prog_12_method_1_code (1 : Nat) (Option.none : Option FieldType)).before A U = true := kw.use h A (List.mem_of_getElem? (i := 594) (by decide +kernel)) rfl
theorem ml_X10_1 {U : State} (h : kw U) (A : Array Value) : (Cond.methodLink "AlarmKindsModel" (1 : Nat) ({ cls := "java/lang/Object", name := "<init>", desc := "()V" } : MethodName)).before A U = true := kw.use h A (List.mem_of_getElem? (i := 595) (by decide +kernel)) rfl
theorem fl_X10_38 {U : State} (h : kw U) (A : Array Value) : (Cond.fieldLink "AlarmKindsModel" (38 : Nat) "AlarmKindsModel" "code" "I").before A U = true := kw.use h A (List.mem_of_getElem? (i := 596) (by decide +kernel)) rfl
theorem fl_X10_42 {U : State} (h : kw U) (A : Array Value) : (Cond.fieldLink "AlarmKindsModel" (42 : Nat) "AlarmKindsModel" "many" "I").before A U = true := kw.use h A (List.mem_of_getElem? (i := 597) (by decide +kernel)) rfl
theorem fl_X10_7 {U : State} (h : kw U) (A : Array Value) : (Cond.fieldLink "AlarmKindsModel" (7 : Nat) "AlarmKindsModel" "kinds" "[I").before A U = true := kw.use h A (List.mem_of_getElem? (i := 598) (by decide +kernel)) rfl
theorem fl_X10_13 {U : State} (h : kw U) (A : Array Value) : (Cond.fieldLink "AlarmKindsModel" (13 : Nat) "AlarmKindsModel" "zones" "[I").before A U = true := kw.use h A (List.mem_of_getElem? (i := 599) (by decide +kernel)) rfl
theorem fl_X10_16 {U : State} (h : kw U) (A : Array Value) : (Cond.fieldLink "AlarmKindsModel" (16 : Nat) "AlarmKindsModel" "limits" "[I").before A U = true := kw.use h A (List.mem_of_getElem? (i := 600) (by decide +kernel)) rfl
theorem fl_X10_19 {U : State} (h : kw U) (A : Array Value) : (Cond.fieldLink "AlarmKindsModel" (19 : Nat) "AlarmKindsModel" "charges" "[I").before A U = true := kw.use h A (List.mem_of_getElem? (i := 601) (by decide +kernel)) rfl
theorem fl_X10_22 {U : State} (h : kw U) (A : Array Value) : (Cond.fieldLink "AlarmKindsModel" (22 : Nat) "AlarmKindsModel" "levels" "[I").before A U = true := kw.use h A (List.mem_of_getElem? (i := 602) (by decide +kernel)) rfl
theorem fl_X10_25 {U : State} (h : kw U) (A : Array Value) : (Cond.fieldLink "AlarmKindsModel" (25 : Nat) "AlarmKindsModel" "counts" "[I").before A U = true := kw.use h A (List.mem_of_getElem? (i := 603) (by decide +kernel)) rfl
theorem fl_X10_28 {U : State} (h : kw U) (A : Array Value) : (Cond.fieldLink "AlarmKindsModel" (28 : Nat) "AlarmKindsModel" "drifts" "[I").before A U = true := kw.use h A (List.mem_of_getElem? (i := 604) (by decide +kernel)) rfl
theorem fl_X10_31 {U : State} (h : kw U) (A : Array Value) : (Cond.fieldLink "AlarmKindsModel" (31 : Nat) "AlarmKindsModel" "latched" "[Z").before A U = true := kw.use h A (List.mem_of_getElem? (i := 605) (by decide +kernel)) rfl
theorem fl_X10_35 {U : State} (h : kw U) (A : Array Value) : (Cond.fieldLink "AlarmKindsModel" (35 : Nat) "AlarmKindsModel" "trace" "[I").before A U = true := kw.use h A (List.mem_of_getElem? (i := 606) (by decide +kernel)) rfl
theorem fl_X10_49 {U : State} (h : kw U) (A : Array Value) : (Cond.fieldLink "AlarmKindsModel" (49 : Nat) "AlarmKindsModel" "done" "I").before A U = true := kw.use h A (List.mem_of_getElem? (i := 607) (by decide +kernel)) rfl
theorem fl_X10_55 {U : State} (h : kw U) (A : Array Value) : (Cond.fieldLink "AlarmKindsModel" (55 : Nat) "AlarmKindsModel" "flats" "I").before A U = true := kw.use h A (List.mem_of_getElem? (i := 608) (by decide +kernel)) rfl
theorem fl_X10_69 {U : State} (h : kw U) (A : Array Value) : (Cond.fieldLink "AlarmKindsModel" (69 : Nat) "AlarmKindsModel" "ariths" "I").before A U = true := kw.use h A (List.mem_of_getElem? (i := 609) (by decide +kernel)) rfl
theorem fl_X10_52 {U : State} (h : kw U) (A : Array Value) : (Cond.fieldLink "AlarmKindsModel" (52 : Nat) "AlarmKindsModel" "failed" "I").before A U = true := kw.use h A (List.mem_of_getElem? (i := 610) (by decide +kernel)) rfl
theorem su_X10 {U : State} (h : kw U) (A : Array Value) : (Cond.superclass "AlarmKindsModel" "java/lang/Object").before A U = true := kw.use h A (List.mem_of_getElem? (i := 641) (by decide +kernel)) rfl
theorem ac_Z {U : State} (h : kw U) (A : Array Value) : (Cond.arrayClass FieldType.boolean).before A U = true := kw.use h A (List.mem_of_getElem? (i := 642) (by decide +kernel)) rfl
theorem ml_L_35 {U : State} (h : kw U) (A : Array Value) : (Cond.methodLink "AlarmKindsLaw" (35 : Nat) ({ cls := "AlarmKindsModel", name := "thrown", desc := "()I" } : MethodName)).before A U = true := kw.use h A (List.mem_of_getElem? (i := 643) (by decide +kernel)) rfl
theorem im_X10_thrown {U : State} (h : kw U) (A : Array Value) : (Cond.instanceMethod ({ cls := "AlarmKindsModel", name := "thrown", desc := "()I" } : MethodName)).before A U = true := kw.use h A (List.mem_of_getElem? (i := 644) (by decide +kernel)) rfl
theorem se_X10_X10_thrown {U : State} (h : kw U) (A : Array Value) : (Cond.selects "AlarmKindsModel" ({ cls := "AlarmKindsModel", name := "thrown", desc := "()I" } : MethodName) ({ cls := "AlarmKindsModel", name := "thrown", desc := "()I" } : MethodName)).before A U = true := kw.use h A (List.mem_of_getElem? (i := 645) (by decide +kernel)) rfl
theorem co_X10_thrown {U : State} (h : kw U) (A : Array Value) : (Cond.code ({ cls := "AlarmKindsModel", name := "thrown", desc := "()I" } : MethodName) prog_12_method_2_code (1 : Nat) (Option.some FieldType.int)).before A U = true := kw.use h A (List.mem_of_getElem? (i := 646) (by decide +kernel)) rfl
theorem ml_L_28 {U : State} (h : kw U) (A : Array Value) : (Cond.methodLink "AlarmKindsLaw" (28 : Nat) ({ cls := "AlarmKindsModel", name := "add", desc := "(IIII)I" } : MethodName)).before A U = true := kw.use h A (List.mem_of_getElem? (i := 647) (by decide +kernel)) rfl
theorem im_X10_add {U : State} (h : kw U) (A : Array Value) : (Cond.instanceMethod ({ cls := "AlarmKindsModel", name := "add", desc := "(IIII)I" } : MethodName)).before A U = true := kw.use h A (List.mem_of_getElem? (i := 648) (by decide +kernel)) rfl
theorem se_X10_X10_add {U : State} (h : kw U) (A : Array Value) : (Cond.selects "AlarmKindsModel" ({ cls := "AlarmKindsModel", name := "add", desc := "(IIII)I" } : MethodName) ({ cls := "AlarmKindsModel", name := "add", desc := "(IIII)I" } : MethodName)).before A U = true := kw.use h A (List.mem_of_getElem? (i := 649) (by decide +kernel)) rfl
theorem co_X10_add {U : State} (h : kw U) (A : Array Value) : (Cond.code ({ cls := "AlarmKindsModel", name := "add", desc := "(IIII)I" } : MethodName) prog_12_method_6_code (5 : Nat) (Option.some FieldType.int)).before A U = true := kw.use h A (List.mem_of_getElem? (i := 650) (by decide +kernel)) rfl
theorem ml_X10_45 {U : State} (h : kw U) (A : Array Value) : (Cond.methodLink "AlarmKindsModel" (45 : Nat) ({ cls := "AlarmKindsModel", name := "isIn", desc := "(III)Z" } : MethodName)).before A U = true := kw.use h A (List.mem_of_getElem? (i := 651) (by decide +kernel)) rfl
theorem st_X10_isIn {U : State} (h : kw U) (A : Array Value) : (Cond.static ({ cls := "AlarmKindsModel", name := "isIn", desc := "(III)Z" } : MethodName)).before A U = true := kw.use h A (List.mem_of_getElem? (i := 652) (by decide +kernel)) rfl
theorem co_X10_isIn {U : State} (h : kw U) (A : Array Value) : (Cond.code ({ cls := "AlarmKindsModel", name := "isIn", desc := "(III)Z" } : MethodName) prog_12_method_3_code (3 : Nat) (Option.some FieldType.boolean)).before A U = true := kw.use h A (List.mem_of_getElem? (i := 653) (by decide +kernel)) rfl
theorem ml_L_34 {U : State} (h : kw U) (A : Array Value) : (Cond.methodLink "AlarmKindsLaw" (34 : Nat) ({ cls := "AlarmKindsModel", name := "read", desc := "(II)I" } : MethodName)).before A U = true := kw.use h A (List.mem_of_getElem? (i := 654) (by decide +kernel)) rfl
theorem im_X10_read {U : State} (h : kw U) (A : Array Value) : (Cond.instanceMethod ({ cls := "AlarmKindsModel", name := "read", desc := "(II)I" } : MethodName)).before A U = true := kw.use h A (List.mem_of_getElem? (i := 655) (by decide +kernel)) rfl
theorem se_X10_X10_read {U : State} (h : kw U) (A : Array Value) : (Cond.selects "AlarmKindsModel" ({ cls := "AlarmKindsModel", name := "read", desc := "(II)I" } : MethodName) ({ cls := "AlarmKindsModel", name := "read", desc := "(II)I" } : MethodName)).before A U = true := kw.use h A (List.mem_of_getElem? (i := 656) (by decide +kernel)) rfl
theorem co_X10_read {U : State} (h : kw U) (A : Array Value) : (Cond.code ({ cls := "AlarmKindsModel", name := "read", desc := "(II)I" } : MethodName) prog_12_method_14_code (4 : Nat) (Option.some FieldType.int)).before A U = true := kw.use h A (List.mem_of_getElem? (i := 657) (by decide +kernel)) rfl
theorem ml_X10_85 {U : State} (h : kw U) (A : Array Value) : (Cond.methodLink "AlarmKindsModel" (85 : Nat) ({ cls := "AlarmKindsModel", name := "refused", desc := "(II)I" } : MethodName)).before A U = true := kw.use h A (List.mem_of_getElem? (i := 658) (by decide +kernel)) rfl
theorem im_X10_refused {U : State} (h : kw U) (A : Array Value) : (Cond.instanceMethod ({ cls := "AlarmKindsModel", name := "refused", desc := "(II)I" } : MethodName)).before A U = true := kw.use h A (List.mem_of_getElem? (i := 660) (by decide +kernel)) rfl
theorem co_X10_refused {U : State} (h : kw U) (A : Array Value) : (Cond.code ({ cls := "AlarmKindsModel", name := "refused", desc := "(II)I" } : MethodName) prog_12_method_13_code (3 : Nat) (Option.some FieldType.int)).before A U = true := kw.use h A (List.mem_of_getElem? (i := 661) (by decide +kernel)) rfl
theorem ml_X10_82 {U : State} (h : kw U) (A : Array Value) : (Cond.methodLink "AlarmKindsModel" (82 : Nat) ({ cls := "AlarmKindsModel", name := "isThere", desc := "(I)Z" } : MethodName)).before A U = true := kw.use h A (List.mem_of_getElem? (i := 662) (by decide +kernel)) rfl
theorem im_X10_isThere {U : State} (h : kw U) (A : Array Value) : (Cond.instanceMethod ({ cls := "AlarmKindsModel", name := "isThere", desc := "(I)Z" } : MethodName)).before A U = true := kw.use h A (List.mem_of_getElem? (i := 664) (by decide +kernel)) rfl
theorem co_X10_isThere {U : State} (h : kw U) (A : Array Value) : (Cond.code ({ cls := "AlarmKindsModel", name := "isThere", desc := "(I)Z" } : MethodName) prog_12_method_4_code (2 : Nat) (Option.some FieldType.boolean)).before A U = true := kw.use h A (List.mem_of_getElem? (i := 665) (by decide +kernel)) rfl
theorem ml_X10_88 {U : State} (h : kw U) (A : Array Value) : (Cond.methodLink "AlarmKindsModel" (88 : Nat) ({ cls := "AlarmKindsModel", name := "readOf", desc := "(II)V" } : MethodName)).before A U = true := kw.use h A (List.mem_of_getElem? (i := 666) (by decide +kernel)) rfl
theorem im_X10_readOf {U : State} (h : kw U) (A : Array Value) : (Cond.instanceMethod ({ cls := "AlarmKindsModel", name := "readOf", desc := "(II)V" } : MethodName)).before A U = true := kw.use h A (List.mem_of_getElem? (i := 668) (by decide +kernel)) rfl
theorem co_X10_readOf {U : State} (h : kw U) (A : Array Value) : (Cond.code ({ cls := "AlarmKindsModel", name := "readOf", desc := "(II)V" } : MethodName) prog_12_method_12_code (3 : Nat) (Option.none : Option FieldType)).before A U = true := kw.use h A (List.mem_of_getElem? (i := 669) (by decide +kernel)) rfl
theorem ml_X10_79 {U : State} (h : kw U) (A : Array Value) : (Cond.methodLink "AlarmKindsModel" (79 : Nat) ({ cls := "AlarmKindsModel", name := "readSmoke", desc := "(II)V" } : MethodName)).before A U = true := kw.use h A (List.mem_of_getElem? (i := 670) (by decide +kernel)) rfl
theorem im_X10_readSmoke {U : State} (h : kw U) (A : Array Value) : (Cond.instanceMethod ({ cls := "AlarmKindsModel", name := "readSmoke", desc := "(II)V" } : MethodName)).before A U = true := kw.use h A (List.mem_of_getElem? (i := 672) (by decide +kernel)) rfl
theorem co_X10_readSmoke {U : State} (h : kw U) (A : Array Value) : (Cond.code ({ cls := "AlarmKindsModel", name := "readSmoke", desc := "(II)V" } : MethodName) prog_12_method_11_code (3 : Nat) (Option.none : Option FieldType)).before A U = true := kw.use h A (List.mem_of_getElem? (i := 673) (by decide +kernel)) rfl
theorem ml_X10_58 {U : State} (h : kw U) (A : Array Value) : (Cond.methodLink "AlarmKindsModel" (58 : Nat) ({ cls := "AlarmKindsModel", name := "rule", desc := "(II)V" } : MethodName)).before A U = true := kw.use h A (List.mem_of_getElem? (i := 674) (by decide +kernel)) rfl
theorem im_X10_rule {U : State} (h : kw U) (A : Array Value) : (Cond.instanceMethod ({ cls := "AlarmKindsModel", name := "rule", desc := "(II)V" } : MethodName)).before A U = true := kw.use h A (List.mem_of_getElem? (i := 676) (by decide +kernel)) rfl
theorem co_X10_rule {U : State} (h : kw U) (A : Array Value) : (Cond.code ({ cls := "AlarmKindsModel", name := "rule", desc := "(II)V" } : MethodName) prog_12_method_5_code (3 : Nat) (Option.none : Option FieldType)).before A U = true := kw.use h A (List.mem_of_getElem? (i := 677) (by decide +kernel)) rfl
theorem ml_X10_76 {U : State} (h : kw U) (A : Array Value) : (Cond.methodLink "AlarmKindsModel" (76 : Nat) ({ cls := "AlarmKindsModel", name := "readPlain", desc := "(II)V" } : MethodName)).before A U = true := kw.use h A (List.mem_of_getElem? (i := 678) (by decide +kernel)) rfl
theorem im_X10_readPlain {U : State} (h : kw U) (A : Array Value) : (Cond.instanceMethod ({ cls := "AlarmKindsModel", name := "readPlain", desc := "(II)V" } : MethodName)).before A U = true := kw.use h A (List.mem_of_getElem? (i := 680) (by decide +kernel)) rfl
theorem co_X10_readPlain {U : State} (h : kw U) (A : Array Value) : (Cond.code ({ cls := "AlarmKindsModel", name := "readPlain", desc := "(II)V" } : MethodName) prog_12_method_10_code (4 : Nat) (Option.none : Option FieldType)).before A U = true := kw.use h A (List.mem_of_getElem? (i := 681) (by decide +kernel)) rfl
theorem ml_X10_72 {U : State} (h : kw U) (A : Array Value) : (Cond.methodLink "AlarmKindsModel" (72 : Nat) ({ cls := "AlarmKindsModel", name := "weighed", desc := "(II)I" } : MethodName)).before A U = true := kw.use h A (List.mem_of_getElem? (i := 682) (by decide +kernel)) rfl
theorem im_X10_weighed {U : State} (h : kw U) (A : Array Value) : (Cond.instanceMethod ({ cls := "AlarmKindsModel", name := "weighed", desc := "(II)I" } : MethodName)).before A U = true := kw.use h A (List.mem_of_getElem? (i := 684) (by decide +kernel)) rfl
theorem co_X10_weighed {U : State} (h : kw U) (A : Array Value) : (Cond.code ({ cls := "AlarmKindsModel", name := "weighed", desc := "(II)I" } : MethodName) prog_12_method_9_code (4 : Nat) (Option.some FieldType.int)).before A U = true := kw.use h A (List.mem_of_getElem? (i := 685) (by decide +kernel)) rfl
theorem ml_X10_65 {U : State} (h : kw U) (A : Array Value) : (Cond.methodLink "AlarmKindsModel" (65 : Nat) ({ cls := "AlarmKindsModel", name := "radio", desc := "(I)Z" } : MethodName)).before A U = true := kw.use h A (List.mem_of_getElem? (i := 686) (by decide +kernel)) rfl
theorem im_X10_radio {U : State} (h : kw U) (A : Array Value) : (Cond.instanceMethod ({ cls := "AlarmKindsModel", name := "radio", desc := "(I)Z" } : MethodName)).before A U = true := kw.use h A (List.mem_of_getElem? (i := 688) (by decide +kernel)) rfl
theorem co_X10_radio {U : State} (h : kw U) (A : Array Value) : (Cond.code ({ cls := "AlarmKindsModel", name := "radio", desc := "(I)Z" } : MethodName) prog_12_method_8_code (2 : Nat) (Option.some FieldType.boolean)).before A U = true := kw.use h A (List.mem_of_getElem? (i := 689) (by decide +kernel)) rfl
theorem ml_X10_62 {U : State} (h : kw U) (A : Array Value) : (Cond.methodLink "AlarmKindsModel" (62 : Nat) ({ cls := "AlarmKindsModel", name := "flat", desc := "()V" } : MethodName)).before A U = true := kw.use h A (List.mem_of_getElem? (i := 690) (by decide +kernel)) rfl
theorem im_X10_flat {U : State} (h : kw U) (A : Array Value) : (Cond.instanceMethod ({ cls := "AlarmKindsModel", name := "flat", desc := "()V" } : MethodName)).before A U = true := kw.use h A (List.mem_of_getElem? (i := 692) (by decide +kernel)) rfl
theorem co_X10_flat {U : State} (h : kw U) (A : Array Value) : (Cond.code ({ cls := "AlarmKindsModel", name := "flat", desc := "()V" } : MethodName) prog_12_method_7_code (1 : Nat) (Option.none : Option FieldType)).before A U = true := kw.use h A (List.mem_of_getElem? (i := 693) (by decide +kernel)) rfl
theorem ml_L_41 {U : State} (h : kw U) (A : Array Value) : (Cond.methodLink "AlarmKindsLaw" (41 : Nat) ({ cls := "AlarmKindsModel", name := "weigh", desc := "(II)I" } : MethodName)).before A U = true := kw.use h A (List.mem_of_getElem? (i := 694) (by decide +kernel)) rfl
theorem im_X10_weigh {U : State} (h : kw U) (A : Array Value) : (Cond.instanceMethod ({ cls := "AlarmKindsModel", name := "weigh", desc := "(II)I" } : MethodName)).before A U = true := kw.use h A (List.mem_of_getElem? (i := 695) (by decide +kernel)) rfl
theorem se_X10_X10_weigh {U : State} (h : kw U) (A : Array Value) : (Cond.selects "AlarmKindsModel" ({ cls := "AlarmKindsModel", name := "weigh", desc := "(II)I" } : MethodName) ({ cls := "AlarmKindsModel", name := "weigh", desc := "(II)I" } : MethodName)).before A U = true := kw.use h A (List.mem_of_getElem? (i := 696) (by decide +kernel)) rfl
theorem co_X10_weigh {U : State} (h : kw U) (A : Array Value) : (Cond.code ({ cls := "AlarmKindsModel", name := "weigh", desc := "(II)I" } : MethodName) prog_12_method_15_code (5 : Nat) (Option.some FieldType.int)).before A U = true := kw.use h A (List.mem_of_getElem? (i := 697) (by decide +kernel)) rfl
theorem ml_L_46 {U : State} (h : kw U) (A : Array Value) : (Cond.methodLink "AlarmKindsLaw" (46 : Nat) ({ cls := "AlarmKindsModel", name := "over", desc := "(I)I" } : MethodName)).before A U = true := kw.use h A (List.mem_of_getElem? (i := 698) (by decide +kernel)) rfl
theorem im_X10_over {U : State} (h : kw U) (A : Array Value) : (Cond.instanceMethod ({ cls := "AlarmKindsModel", name := "over", desc := "(I)I" } : MethodName)).before A U = true := kw.use h A (List.mem_of_getElem? (i := 699) (by decide +kernel)) rfl
theorem se_X10_X10_over {U : State} (h : kw U) (A : Array Value) : (Cond.selects "AlarmKindsModel" ({ cls := "AlarmKindsModel", name := "over", desc := "(I)I" } : MethodName) ({ cls := "AlarmKindsModel", name := "over", desc := "(I)I" } : MethodName)).before A U = true := kw.use h A (List.mem_of_getElem? (i := 700) (by decide +kernel)) rfl
theorem co_X10_over {U : State} (h : kw U) (A : Array Value) : (Cond.code ({ cls := "AlarmKindsModel", name := "over", desc := "(I)I" } : MethodName) prog_12_method_18_code (2 : Nat) (Option.some FieldType.int)).before A U = true := kw.use h A (List.mem_of_getElem? (i := 701) (by decide +kernel)) rfl
theorem ml_X10_94 {U : State} (h : kw U) (A : Array Value) : (Cond.methodLink "AlarmKindsModel" (94 : Nat) ({ cls := "AlarmKindsModel", name := "isOver", desc := "(I)Z" } : MethodName)).before A U = true := kw.use h A (List.mem_of_getElem? (i := 702) (by decide +kernel)) rfl
theorem im_X10_isOver {U : State} (h : kw U) (A : Array Value) : (Cond.instanceMethod ({ cls := "AlarmKindsModel", name := "isOver", desc := "(I)Z" } : MethodName)).before A U = true := kw.use h A (List.mem_of_getElem? (i := 704) (by decide +kernel)) rfl
theorem co_X10_isOver {U : State} (h : kw U) (A : Array Value) : (Cond.code ({ cls := "AlarmKindsModel", name := "isOver", desc := "(I)Z" } : MethodName) prog_12_method_17_code (3 : Nat) (Option.some FieldType.boolean)).before A U = true := kw.use h A (List.mem_of_getElem? (i := 705) (by decide +kernel)) rfl
theorem ml_X10_91 {U : State} (h : kw U) (A : Array Value) : (Cond.methodLink "AlarmKindsModel" (91 : Nat) ({ cls := "AlarmKindsModel", name := "overPlain", desc := "(I)Z" } : MethodName)).before A U = true := kw.use h A (List.mem_of_getElem? (i := 706) (by decide +kernel)) rfl
theorem im_X10_overPlain {U : State} (h : kw U) (A : Array Value) : (Cond.instanceMethod ({ cls := "AlarmKindsModel", name := "overPlain", desc := "(I)Z" } : MethodName)).before A U = true := kw.use h A (List.mem_of_getElem? (i := 708) (by decide +kernel)) rfl
theorem co_X10_overPlain {U : State} (h : kw U) (A : Array Value) : (Cond.code ({ cls := "AlarmKindsModel", name := "overPlain", desc := "(I)Z" } : MethodName) prog_12_method_16_code (2 : Nat) (Option.some FieldType.boolean)).before A U = true := kw.use h A (List.mem_of_getElem? (i := 709) (by decide +kernel)) rfl
theorem ml_L_50 {U : State} (h : kw U) (A : Array Value) : (Cond.methodLink "AlarmKindsLaw" (50 : Nat) ({ cls := "AlarmKindsModel", name := "clear", desc := "(I)I" } : MethodName)).before A U = true := kw.use h A (List.mem_of_getElem? (i := 710) (by decide +kernel)) rfl
theorem im_X10_clear {U : State} (h : kw U) (A : Array Value) : (Cond.instanceMethod ({ cls := "AlarmKindsModel", name := "clear", desc := "(I)I" } : MethodName)).before A U = true := kw.use h A (List.mem_of_getElem? (i := 711) (by decide +kernel)) rfl
theorem se_X10_X10_clear {U : State} (h : kw U) (A : Array Value) : (Cond.selects "AlarmKindsModel" ({ cls := "AlarmKindsModel", name := "clear", desc := "(I)I" } : MethodName) ({ cls := "AlarmKindsModel", name := "clear", desc := "(I)I" } : MethodName)).before A U = true := kw.use h A (List.mem_of_getElem? (i := 712) (by decide +kernel)) rfl
theorem co_X10_clear {U : State} (h : kw U) (A : Array Value) : (Cond.code ({ cls := "AlarmKindsModel", name := "clear", desc := "(I)I" } : MethodName) prog_12_method_19_code (3 : Nat) (Option.some FieldType.int)).before A U = true := kw.use h A (List.mem_of_getElem? (i := 713) (by decide +kernel)) rfl
theorem ml_L_54 {U : State} (h : kw U) (A : Array Value) : (Cond.methodLink "AlarmKindsLaw" (54 : Nat) ({ cls := "AlarmKindsModel", name := "cost", desc := "(I)I" } : MethodName)).before A U = true := kw.use h A (List.mem_of_getElem? (i := 714) (by decide +kernel)) rfl
theorem im_X10_cost {U : State} (h : kw U) (A : Array Value) : (Cond.instanceMethod ({ cls := "AlarmKindsModel", name := "cost", desc := "(I)I" } : MethodName)).before A U = true := kw.use h A (List.mem_of_getElem? (i := 715) (by decide +kernel)) rfl
theorem se_X10_X10_cost {U : State} (h : kw U) (A : Array Value) : (Cond.selects "AlarmKindsModel" ({ cls := "AlarmKindsModel", name := "cost", desc := "(I)I" } : MethodName) ({ cls := "AlarmKindsModel", name := "cost", desc := "(I)I" } : MethodName)).before A U = true := kw.use h A (List.mem_of_getElem? (i := 716) (by decide +kernel)) rfl
theorem co_X10_cost {U : State} (h : kw U) (A : Array Value) : (Cond.code ({ cls := "AlarmKindsModel", name := "cost", desc := "(I)I" } : MethodName) prog_12_method_21_code (2 : Nat) (Option.some FieldType.int)).before A U = true := kw.use h A (List.mem_of_getElem? (i := 717) (by decide +kernel)) rfl
theorem ml_X10_97 {U : State} (h : kw U) (A : Array Value) : (Cond.methodLink "AlarmKindsModel" (97 : Nat) ({ cls := "AlarmKindsModel", name := "costOf", desc := "(I)I" } : MethodName)).before A U = true := kw.use h A (List.mem_of_getElem? (i := 718) (by decide +kernel)) rfl
theorem im_X10_costOf {U : State} (h : kw U) (A : Array Value) : (Cond.instanceMethod ({ cls := "AlarmKindsModel", name := "costOf", desc := "(I)I" } : MethodName)).before A U = true := kw.use h A (List.mem_of_getElem? (i := 720) (by decide +kernel)) rfl
theorem co_X10_costOf {U : State} (h : kw U) (A : Array Value) : (Cond.code ({ cls := "AlarmKindsModel", name := "costOf", desc := "(I)I" } : MethodName) prog_12_method_20_code (5 : Nat) (Option.some FieldType.int)).before A U = true := kw.use h A (List.mem_of_getElem? (i := 721) (by decide +kernel)) rfl
theorem ml_L_58 {U : State} (h : kw U) (A : Array Value) : (Cond.methodLink "AlarmKindsLaw" (58 : Nat) ({ cls := "AlarmKindsModel", name := "tell", desc := "(II)I" } : MethodName)).before A U = true := kw.use h A (List.mem_of_getElem? (i := 722) (by decide +kernel)) rfl
theorem im_X10_tell {U : State} (h : kw U) (A : Array Value) : (Cond.instanceMethod ({ cls := "AlarmKindsModel", name := "tell", desc := "(II)I" } : MethodName)).before A U = true := kw.use h A (List.mem_of_getElem? (i := 723) (by decide +kernel)) rfl
theorem se_X10_X10_tell {U : State} (h : kw U) (A : Array Value) : (Cond.selects "AlarmKindsModel" ({ cls := "AlarmKindsModel", name := "tell", desc := "(II)I" } : MethodName) ({ cls := "AlarmKindsModel", name := "tell", desc := "(II)I" } : MethodName)).before A U = true := kw.use h A (List.mem_of_getElem? (i := 724) (by decide +kernel)) rfl
theorem co_X10_tell {U : State} (h : kw U) (A : Array Value) : (Cond.code ({ cls := "AlarmKindsModel", name := "tell", desc := "(II)I" } : MethodName) prog_12_method_22_code (3 : Nat) (Option.some FieldType.int)).before A U = true := kw.use h A (List.mem_of_getElem? (i := 725) (by decide +kernel)) rfl
theorem ml_L_62 {U : State} (h : kw U) (A : Array Value) : (Cond.methodLink "AlarmKindsLaw" (62 : Nat) ({ cls := "AlarmKindsModel", name := "sweep", desc := "(II)I" } : MethodName)).before A U = true := kw.use h A (List.mem_of_getElem? (i := 726) (by decide +kernel)) rfl
theorem im_X10_sweep {U : State} (h : kw U) (A : Array Value) : (Cond.instanceMethod ({ cls := "AlarmKindsModel", name := "sweep", desc := "(II)I" } : MethodName)).before A U = true := kw.use h A (List.mem_of_getElem? (i := 727) (by decide +kernel)) rfl
theorem se_X10_X10_sweep {U : State} (h : kw U) (A : Array Value) : (Cond.selects "AlarmKindsModel" ({ cls := "AlarmKindsModel", name := "sweep", desc := "(II)I" } : MethodName) ({ cls := "AlarmKindsModel", name := "sweep", desc := "(II)I" } : MethodName)).before A U = true := kw.use h A (List.mem_of_getElem? (i := 728) (by decide +kernel)) rfl
theorem co_X10_sweep {U : State} (h : kw U) (A : Array Value) : (Cond.code ({ cls := "AlarmKindsModel", name := "sweep", desc := "(II)I" } : MethodName) prog_12_method_23_code (5 : Nat) (Option.some FieldType.int)).before A U = true := kw.use h A (List.mem_of_getElem? (i := 729) (by decide +kernel)) rfl
theorem ml_L_66 {U : State} (h : kw U) (A : Array Value) : (Cond.methodLink "AlarmKindsLaw" (66 : Nat) ({ cls := "AlarmKindsModel", name := "alarm", desc := "(II)I" } : MethodName)).before A U = true := kw.use h A (List.mem_of_getElem? (i := 730) (by decide +kernel)) rfl
theorem im_X10_alarm {U : State} (h : kw U) (A : Array Value) : (Cond.instanceMethod ({ cls := "AlarmKindsModel", name := "alarm", desc := "(II)I" } : MethodName)).before A U = true := kw.use h A (List.mem_of_getElem? (i := 731) (by decide +kernel)) rfl
theorem se_X10_X10_alarm {U : State} (h : kw U) (A : Array Value) : (Cond.selects "AlarmKindsModel" ({ cls := "AlarmKindsModel", name := "alarm", desc := "(II)I" } : MethodName) ({ cls := "AlarmKindsModel", name := "alarm", desc := "(II)I" } : MethodName)).before A U = true := kw.use h A (List.mem_of_getElem? (i := 732) (by decide +kernel)) rfl
theorem co_X10_alarm {U : State} (h : kw U) (A : Array Value) : (Cond.code ({ cls := "AlarmKindsModel", name := "alarm", desc := "(II)I" } : MethodName) prog_12_method_24_code (6 : Nat) (Option.some FieldType.int)).before A U = true := kw.use h A (List.mem_of_getElem? (i := 733) (by decide +kernel)) rfl
theorem ml_L_70 {U : State} (h : kw U) (A : Array Value) : (Cond.methodLink "AlarmKindsLaw" (70 : Nat) ({ cls := "AlarmKindsModel", name := "costs", desc := "()I" } : MethodName)).before A U = true := kw.use h A (List.mem_of_getElem? (i := 734) (by decide +kernel)) rfl
theorem im_X10_costs {U : State} (h : kw U) (A : Array Value) : (Cond.instanceMethod ({ cls := "AlarmKindsModel", name := "costs", desc := "()I" } : MethodName)).before A U = true := kw.use h A (List.mem_of_getElem? (i := 735) (by decide +kernel)) rfl
theorem se_X10_X10_costs {U : State} (h : kw U) (A : Array Value) : (Cond.selects "AlarmKindsModel" ({ cls := "AlarmKindsModel", name := "costs", desc := "()I" } : MethodName) ({ cls := "AlarmKindsModel", name := "costs", desc := "()I" } : MethodName)).before A U = true := kw.use h A (List.mem_of_getElem? (i := 736) (by decide +kernel)) rfl
theorem co_X10_costs {U : State} (h : kw U) (A : Array Value) : (Cond.code ({ cls := "AlarmKindsModel", name := "costs", desc := "()I" } : MethodName) prog_12_method_25_code (3 : Nat) (Option.some FieldType.int)).before A U = true := kw.use h A (List.mem_of_getElem? (i := 737) (by decide +kernel)) rfl
theorem ml_L_74 {U : State} (h : kw U) (A : Array Value) : (Cond.methodLink "AlarmKindsLaw" (74 : Nat) ({ cls := "AlarmKindsModel", name := "trace", desc := "(I)I" } : MethodName)).before A U = true := kw.use h A (List.mem_of_getElem? (i := 738) (by decide +kernel)) rfl
theorem im_X10_trace {U : State} (h : kw U) (A : Array Value) : (Cond.instanceMethod ({ cls := "AlarmKindsModel", name := "trace", desc := "(I)I" } : MethodName)).before A U = true := kw.use h A (List.mem_of_getElem? (i := 739) (by decide +kernel)) rfl
theorem se_X10_X10_trace {U : State} (h : kw U) (A : Array Value) : (Cond.selects "AlarmKindsModel" ({ cls := "AlarmKindsModel", name := "trace", desc := "(I)I" } : MethodName) ({ cls := "AlarmKindsModel", name := "trace", desc := "(I)I" } : MethodName)).before A U = true := kw.use h A (List.mem_of_getElem? (i := 740) (by decide +kernel)) rfl
theorem co_X10_trace {U : State} (h : kw U) (A : Array Value) : (Cond.code ({ cls := "AlarmKindsModel", name := "trace", desc := "(I)I" } : MethodName) prog_12_method_26_code (3 : Nat) (Option.some FieldType.int)).before A U = true := kw.use h A (List.mem_of_getElem? (i := 741) (by decide +kernel)) rfl
theorem ml_L_78 {U : State} (h : kw U) (A : Array Value) : (Cond.methodLink "AlarmKindsLaw" (78 : Nat) ({ cls := "AlarmKindsModel", name := "count", desc := "(I)I" } : MethodName)).before A U = true := kw.use h A (List.mem_of_getElem? (i := 742) (by decide +kernel)) rfl
theorem im_X10_count {U : State} (h : kw U) (A : Array Value) : (Cond.instanceMethod ({ cls := "AlarmKindsModel", name := "count", desc := "(I)I" } : MethodName)).before A U = true := kw.use h A (List.mem_of_getElem? (i := 743) (by decide +kernel)) rfl
theorem se_X10_X10_count {U : State} (h : kw U) (A : Array Value) : (Cond.selects "AlarmKindsModel" ({ cls := "AlarmKindsModel", name := "count", desc := "(I)I" } : MethodName) ({ cls := "AlarmKindsModel", name := "count", desc := "(I)I" } : MethodName)).before A U = true := kw.use h A (List.mem_of_getElem? (i := 744) (by decide +kernel)) rfl
theorem co_X10_count {U : State} (h : kw U) (A : Array Value) : (Cond.code ({ cls := "AlarmKindsModel", name := "count", desc := "(I)I" } : MethodName) prog_12_method_27_code (2 : Nat) (Option.some FieldType.int)).before A U = true := kw.use h A (List.mem_of_getElem? (i := 745) (by decide +kernel)) rfl
theorem ac_J {U : State} (h : kw U) (A : Array Value) : (Cond.arrayClass FieldType.long).before A U = true := kw.use h A (List.mem_of_getElem? (i := 746) (by decide +kernel)) rfl
theorem sm_X5_X5_doRead {U : State} (h : kw U) (A : Array Value) : (Cond.sameMethod "AlarmKinds$Smoke" "AlarmKinds$Smoke" "doRead" "(I)V").before A U = true := kw.use h A (List.mem_of_getElem? (i := 747) (by decide +kernel)) rfl
theorem sm_X4_X4_doWeigh {U : State} (h : kw U) (A : Array Value) : (Cond.sameMethod "AlarmKinds$Radio" "AlarmKinds$Radio" "doWeigh" "(I)I").before A U = true := kw.use h A (List.mem_of_getElem? (i := 748) (by decide +kernel)) rfl
theorem sm_T_T_fillInStackTrace_749 {U : State} (h : kw U) (A : Array Value) : (Cond.sameMethod "java/lang/Throwable" "java/lang/Throwable" "fillInStackTrace" "(I)Ljava/lang/Throwable;").before A U = true := kw.use h A (List.mem_of_getElem? (i := 749) (by decide +kernel)) rfl
theorem uw_0 : ∀ w ∈ u_ws RX0 TX3 9, w ∈ lw_tbl ∧ goodWord w = true := by decide +kernel
theorem uw_1 : ∀ w ∈ u_ws RX1 TX3 9, w ∈ lw_tbl ∧ goodWord w = true := by decide +kernel
theorem uw_2 : ∀ w ∈ u_ws RX2 TX3 9, w ∈ lw_tbl ∧ goodWord w = true := by decide +kernel
theorem uw_3 : ∀ w ∈ u_ws RX3 TX3 9, w ∈ lw_tbl ∧ goodWord w = true := by decide +kernel
theorem uw_4 : ∀ w ∈ u_ws RX4 TX3 9, w ∈ lw_tbl ∧ goodWord w = true := by decide +kernel
theorem uw_5 : ∀ w ∈ u_ws RX5 TX3 9, w ∈ lw_tbl ∧ goodWord w = true := by decide +kernel
theorem uw_6 : ∀ w ∈ u_ws RX6 TX6 6, w ∈ lw_tbl ∧ goodWord w = true := by decide +kernel
theorem uw_7 : ∀ w ∈ u_ws RX7 TX3 9, w ∈ lw_tbl ∧ goodWord w = true := by decide +kernel
theorem uw_8 : ∀ w ∈ u_ws RX8 TX3 9, w ∈ lw_tbl ∧ goodWord w = true := by decide +kernel
theorem uw_9 : ∀ w ∈ u_ws RX9 TX9 3, w ∈ lw_tbl ∧ goodWord w = true := by decide +kernel
theorem uw_10 : ∀ w ∈ u_ws RX10 TX10 15, w ∈ lw_tbl ∧ goodWord w = true := by decide +kernel
theorem uc_0 {U : State} (h : kw U) (A : Array Value) : ∀ w ∈ u_ws RX0 TX3 9, w.before A U = true := fun w hw => kw.use h A (uw_0 w hw).1 (uw_0 w hw).2
theorem uc_1 {U : State} (h : kw U) (A : Array Value) : ∀ w ∈ u_ws RX1 TX3 9, w.before A U = true := fun w hw => kw.use h A (uw_1 w hw).1 (uw_1 w hw).2
theorem uc_2 {U : State} (h : kw U) (A : Array Value) : ∀ w ∈ u_ws RX2 TX3 9, w.before A U = true := fun w hw => kw.use h A (uw_2 w hw).1 (uw_2 w hw).2
theorem uc_3 {U : State} (h : kw U) (A : Array Value) : ∀ w ∈ u_ws RX3 TX3 9, w.before A U = true := fun w hw => kw.use h A (uw_3 w hw).1 (uw_3 w hw).2
theorem uc_4 {U : State} (h : kw U) (A : Array Value) : ∀ w ∈ u_ws RX4 TX3 9, w.before A U = true := fun w hw => kw.use h A (uw_4 w hw).1 (uw_4 w hw).2
theorem uc_5 {U : State} (h : kw U) (A : Array Value) : ∀ w ∈ u_ws RX5 TX3 9, w.before A U = true := fun w hw => kw.use h A (uw_5 w hw).1 (uw_5 w hw).2
theorem uc_6 {U : State} (h : kw U) (A : Array Value) : ∀ w ∈ u_ws RX6 TX6 6, w.before A U = true := fun w hw => kw.use h A (uw_6 w hw).1 (uw_6 w hw).2
theorem uc_7 {U : State} (h : kw U) (A : Array Value) : ∀ w ∈ u_ws RX7 TX3 9, w.before A U = true := fun w hw => kw.use h A (uw_7 w hw).1 (uw_7 w hw).2
theorem uc_8 {U : State} (h : kw U) (A : Array Value) : ∀ w ∈ u_ws RX8 TX3 9, w.before A U = true := fun w hw => kw.use h A (uw_8 w hw).1 (uw_8 w hw).2
theorem uc_9 {U : State} (h : kw U) (A : Array Value) : ∀ w ∈ u_ws RX9 TX9 3, w.before A U = true := fun w hw => kw.use h A (uw_9 w hw).1 (uw_9 w hw).2
theorem uc_10 {U : State} (h : kw U) (A : Array Value) : ∀ w ∈ u_ws RX10 TX10 15, w.before A U = true := fun w hw => kw.use h A (uw_10 w hw).1 (uw_10 w hw).2
end
section
/-! the picture: a trace (how many rules were begun, the ring by its places, how often flat, how often by 0), a detector's own numbers (charge, level, count, drift, latched), what each rule does to them -/
abbrev Tr : Type := Nat × (Nat → Int32) × Int32 × Int32
abbrev Dv : Type := Int32 × Int32 × Int32 × Int32 × Bool
def bi (b : Bool) : Int32 := if b then 1 else 0
def nx (n : Nat) : Nat := if n = 0 then 0 else (n - 1) % 200 + 1
def tb (a k : Int32) (t : Tr) : Tr := (t.1 + 1, upd t.2.1 (t.1 % 200) (10 * a + k), t.2.2.1, t.2.2.2)
def tfl (t : Tr) : Tr := (t.1, t.2.1, t.2.2.1 + 1, t.2.2.2)
def tar (t : Tr) : Tr := (t.1, t.2.1, t.2.2.1, t.2.2.2 + 1)
abbrev Rs : Type := Nat × Int32 × Dv × Tr
abbrev Rr : Type := Nat × Dv × Tr
def pwP (v : Int32) (d : Dv) (t : Tr) : Rs := (0, v, d, tb 0 0 t)
def pwR (v : Int32) (d : Dv) (t : Tr) : Rs := if d.1 = 0 then (1, 0, d, tfl (tb 0 2 t)) else pwP v (d.1 - 1, d.2) (tb 0 2 t)
def pwS (v : Int32) (d : Dv) (t : Tr) : Rs := (0, v - d.2.2.2.1, d, tb 0 0 (tb 0 3 t))
def pwBe (r : Rs) : Rs := if r.1 = 0 then (if r.2.1 = 0 then (2, 0, r.2.2.1, tar r.2.2.2) else (0, 1000 / r.2.1, r.2.2.1, r.2.2.2)) else r
def pwB (v : Int32) (d : Dv) (t : Tr) : Rs := pwBe (pwR v d (tb 0 5 t))
def pw (kd : Nat) (v : Int32) (d : Dv) (t : Tr) : Rs := if kd = 5 then pwB v d t else if kd = 2 ∨ kd = 4 then pwR v d t else if kd = 3 ∨ kd = 7 then pwS v d t else pwP v d t
def prPe (r : Rs) : Rr := if r.1 = 0 then (0, (r.2.2.1.1, (3 * r.2.2.1.2.1 + r.2.1) / 4, r.2.2.1.2.2.1 + 1, r.2.2.1.2.2.2), r.2.2.2) else (r.1, r.2.2.1, r.2.2.2)
def prP (kd : Nat) (v : Int32) (d : Dv) (t : Tr) : Rr := prPe (pw kd v d (tb 1 0 t))
def adj (d : Dv) : Dv := (d.1, d.2.1, d.2.2.1, (if d.2.2.2.1 < d.2.1 then d.2.2.2.1 + 1 else if d.2.1 < d.2.2.2.1 then d.2.2.2.1 - 1 else d.2.2.2.1), d.2.2.2.2)
def prSe (r : Rr) : Rr := if r.1 = 0 then (0, adj r.2.1, r.2.2) else r
def prS (kd : Nat) (v : Int32) (d : Dv) (t : Tr) : Rr := prSe (prP kd v d (tb 1 3 t))
def prHe (v : Int32) (r : Rr) : Rr := if r.1 = 0 then (if r.2.1.2.1 < v then prP 4 v r.2.1 r.2.2 else r) else r
def prH (v : Int32) (d : Dv) (t : Tr) : Rr := prHe v (prP 4 v d (tb 1 4 t))
def prTe (v : Int32) (r : Rr) : Rr := if r.1 = 0 then prS 7 (-v) r.2.1 r.2.2 else r
def prT (v : Int32) (d : Dv) (t : Tr) : Rr := prTe v (prS 7 v d (tb 1 7 t))
def pr (kd : Nat) (v : Int32) (d : Dv) (t : Tr) : Rr := if kd = 3 then prS 3 v d t else if kd = 4 then prH v d t else if kd = 7 then prT v d t else prP kd v d t
abbrev Ro : Type := Bool × Dv × Tr
def poP (lm : Int32) (d : Dv) (t : Tr) : Ro := (decide (lm ≤ d.2.1), d, tb 2 0 t)
def poH (lm : Int32) (d : Dv) (t : Tr) : Ro := (decide (lm ≤ d.2.1) && decide (3 ≤ d.2.2.1), d, tb 2 0 (tb 2 4 t))
def poF (lm : Int32) (d : Dv) (t : Tr) : Ro := if d.2.2.2.2 = true then (true, d, tb 2 6 t) else (decide (lm ≤ d.2.1), (d.1, d.2.1, d.2.2.1, d.2.2.2.1, decide (lm ≤ d.2.1)), tb 2 0 (tb 2 6 t))
def po (kd : Nat) (lm : Int32) (d : Dv) (t : Tr) : Ro := if kd = 4 then poH lm d t else if kd = 6 then poF lm d t else poP lm d t
def pcP (d : Dv) (t : Tr) : Dv × Tr := ((d.1, 0, 0, d.2.2.2.1, d.2.2.2.2), tb 3 0 t)
def pcB (d : Dv) (t : Tr) : Dv × Tr := ((d.1 + 1, 0, 0, d.2.2.2.1, d.2.2.2.2), tb 3 0 (tb 3 5 t))
def pcF (d : Dv) (t : Tr) : Dv × Tr := ((d.1, 0, 0, d.2.2.2.1, false), tb 3 0 (tb 3 6 t))
def pcT (d : Dv) (t : Tr) : Dv × Tr := ((d.1, 0, 0, 0, d.2.2.2.2), tb 3 0 (tb 3 7 t))
def pcl (kd : Nat) (d : Dv) (t : Tr) : Dv × Tr := if kd = 5 then pcB d t else if kd = 6 then pcF d t else if kd = 7 then pcT d t else pcP d t
def sz32 (x : Int32) : Int32 := if 0 ≤ x then x else 0 - x
def pkP (d : Dv) (t : Tr) : Int32 × Tr := (10 + d.2.2.1, tb 4 0 t)
def pkR (d : Dv) (t : Tr) : Int32 × Tr := (2 * (10 + d.2.2.1), tb 4 0 (tb 4 2 t))
def pkF (d : Dv) (t : Tr) : Int32 × Tr := (5 + (10 + d.2.2.1), tb 4 0 (tb 4 6 t))
def pkT (d : Dv) (t : Tr) : Int32 × Tr := ((10 + d.2.2.1) * (1 + sz32 d.2.2.2.1), tb 4 0 (tb 4 7 t))
def pk (kd : Nat) (d : Dv) (t : Tr) : Int32 × Tr := if kd = 2 ∨ kd = 4 ∨ kd = 5 then pkR d t else if kd = 6 then pkF d t else if kd = 7 then pkT d t else pkP d t
def vn (kd : Nat) : Int32 := if kd = 0 then 3 else if kd = 7 then 2 else 1
def pv (kd : Nat) (lm : Int32) (d : Dv) (t : Tr) : Int32 × Dv × Tr := ((if (po kd lm d t).1 = true then vn kd else 0), (po kd lm d t).2.1, (po kd lm d t).2.2)
/-- which place of cls a kind has -/
def kc (kd : Nat) : Nat := if kd = 0 then 3 else if kd = 1 then 8 else if kd = 2 then 4 else if kd = 3 then 5 else if kd = 4 then 2 else if kd = 5 then 0 else if kd = 6 then 1 else 7
/-- the cells of a trace, of a detector -/
def wt (ca : Nat → ClassId) (ht hr : Nat) (t : Tr) : va_W := [(ht, .inr (6, [.ref hr, .int (nI (nx t.1)), .int (nI (min t.1 200)), .int (nI t.1), .int t.2.2.1, .int t.2.2.2])), (hr, .inl (ca 0, 200, .inl t.2.1))]
def df (ht : Nat) (kd zn lm : Int32) (d : Dv) : List Value := [.ref ht, .int kd, .int zn, .int lm, .int d.1, .int d.2.1, .int d.2.2.1, .int d.2.2.2.1, .int (bi d.2.2.2.2)]
def wd (ca : Nat → ClassId) (h0 ht hr ci : Nat) (kd zn lm : Int32) (d : Dv) (t : Tr) : va_W := (h0, .inr (ci, df ht kd zn lm d)) :: wt ca ht hr t
/-! how many rules a method may begin -/
theorem tb_n (a k : Int32) (t : Tr) : (tb a k t).1 = t.1 + 1 := rfl
theorem pwP_n (v : Int32) (d : Dv) (t : Tr) : (pwP v d t).2.2.2.1 ≤ t.1 + 1 := Nat.le_refl _
theorem pwR_n (v : Int32) (d : Dv) (t : Tr) : (pwR v d t).2.2.2.1 ≤ t.1 + 2 := by
  unfold pwR; split <;> simp [tfl, tb, pwP]
theorem pwS_n (v : Int32) (d : Dv) (t : Tr) : (pwS v d t).2.2.2.1 ≤ t.1 + 2 := by simp [pwS, tb]
theorem pwBe_n (r : Rs) : (pwBe r).2.2.2.1 = r.2.2.2.1 := by
  unfold pwBe; split
  · split <;> rfl
  · rfl
theorem pwB_n (v : Int32) (d : Dv) (t : Tr) : (pwB v d t).2.2.2.1 ≤ t.1 + 3 := by
  unfold pwB; rw [pwBe_n]
  have := pwR_n v d (tb 0 5 t); rw [tb_n] at this; omega
theorem pw_n (kd : Nat) (v : Int32) (d : Dv) (t : Tr) : (pw kd v d t).2.2.2.1 ≤ t.1 + 3 := by
  have h1 := pwB_n v d t; have h2 := pwR_n v d t; have h3 := pwS_n v d t; have h4 := pwP_n v d t
  unfold pw; split
  · exact h1
  · split
    · omega
    · split
      · omega
      · omega
theorem prPe_n (r : Rs) : (prPe r).2.2.1 = r.2.2.2.1 := by unfold prPe; split <;> rfl
theorem prP_n (kd : Nat) (v : Int32) (d : Dv) (t : Tr) : (prP kd v d t).2.2.1 ≤ t.1 + 4 := by
  unfold prP; rw [prPe_n]
  have := pw_n kd v d (tb 1 0 t); rw [tb_n] at this; omega
theorem prS_n (kd : Nat) (v : Int32) (d : Dv) (t : Tr) : (prS kd v d t).2.2.1 ≤ t.1 + 5 := by
  have h := prP_n kd v d (tb 1 3 t); rw [tb_n] at h
  unfold prS prSe; split
  · show (prP kd v d (tb 1 3 t)).2.2.1 ≤ _; omega
  · omega
theorem prH_n (v : Int32) (d : Dv) (t : Tr) : (prH v d t).2.2.1 ≤ t.1 + 9 := by
  have h := prP_n 4 v d (tb 1 4 t); rw [tb_n] at h
  unfold prH prHe; split
  · split
    · have h2 := prP_n 4 v (prP 4 v d (tb 1 4 t)).2.1 (prP 4 v d (tb 1 4 t)).2.2; omega
    · omega
  · omega
theorem prT_n (v : Int32) (d : Dv) (t : Tr) : (prT v d t).2.2.1 ≤ t.1 + 11 := by
  have h := prS_n 7 v d (tb 1 7 t); rw [tb_n] at h
  unfold prT prTe; split
  · have h2 := prS_n 7 (-v) (prS 7 v d (tb 1 7 t)).2.1 (prS 7 v d (tb 1 7 t)).2.2; omega
  · omega
theorem pr_n (kd : Nat) (v : Int32) (d : Dv) (t : Tr) : (pr kd v d t).2.2.1 ≤ t.1 + 11 := by
  have h1 := prS_n 3 v d t; have h2 := prH_n v d t; have h3 := prT_n v d t; have h4 := prP_n kd v d t
  unfold pr; split
  · omega
  · split
    · omega
    · split
      · omega
      · omega
theorem po_n (kd : Nat) (lm : Int32) (d : Dv) (t : Tr) : (po kd lm d t).2.2.1 ≤ t.1 + 2 := by
  unfold po poH poF poP; split
  · simp [tb]
  · split
    · split <;> simp [tb]
    · simp [tb]
theorem pcl_n (kd : Nat) (d : Dv) (t : Tr) : (pcl kd d t).2.1 ≤ t.1 + 2 := by
  unfold pcl pcB pcF pcT pcP; split
  · simp [tb]
  · split
    · simp [tb]
    · split <;> simp [tb]
theorem pk_n (kd : Nat) (d : Dv) (t : Tr) : (pk kd d t).2.1 ≤ t.1 + 2 := by
  unfold pk pkR pkF pkT pkP; split
  · simp [tb]
  · split
    · simp [tb]
    · split <;> simp [tb]
end
section
/-! what all methods know of the tables, of the statics; one form of contract for all -/
def tyl (ca : Nat → ClassId) : List (ClassId × FieldType) := [(ca 0, .int), (ca 1, .object "AlarmKinds$Plain"), (ca 2, .boolean), (ca 3, .long)]
def ksC : List (String × String) := [("java/lang/IllegalStateException", "java/lang/IllegalStateException"), ("java/lang/ArithmeticException", "java/lang/ArithmeticException"), (RX0, RX3), (RX1, RX3), (RX2, RX3), (RX4, RX3), (RX5, RX3), (RX7, RX3), (RX8, RX3)]
def ksD : List MethodName := [⟨"java/lang/RuntimeException", "<init>", "(Ljava/lang/String;)V"⟩, ⟨"java/lang/Exception", "<init>", "(Ljava/lang/String;)V"⟩, ⟨"java/lang/Throwable", "<init>", "(Ljava/lang/String;)V"⟩, ⟨"java/lang/RuntimeException", "<init>", "()V"⟩, ⟨"java/lang/Exception", "<init>", "()V"⟩, ⟨"java/lang/Throwable", "<init>", "()V"⟩]
def KK (D : va_G) (ca : Nat → ClassId) (sa : Nat → Nat) (U : State) : Prop := kw U ∧ va_K D cls (tyl ca) U ∧ (∀ q ∈ ksC, va_Nw (.castable q.1 q.2) U) ∧ va_Nc "java/lang/ArithmeticException" "java/lang/IllegalStateException" U ∧ vk_R RX4 30 "the detector is flat" (sa 0) U ∧ vk_R RX0 31 "1000 by 0" (sa 1) U ∧ va_AO "AlarmKinds$Plain" U ∧ ∀ q ∈ ksD, va_Nw (.declares q) U
theorem KK.warm {D : va_G} {ca : Nat → ClassId} {sa : Nat → Nat} {s U : State} (hW : s.WarmedH U.vm) (h : KK D ca sa s) : KK D ca sa U := by
  obtain ⟨h1, h2, h3, h4, h5, h6, h7, h8⟩ := h
  exact ⟨h1.warm hW, h2.moved hW.alike, fun q hq => va_Nw.warmC hW (h3 q hq), h4.moved hW.alike, h5.warm hW, h6.warm hW, h7.moved hW.alike, fun q hq => va_Nw.warmD hW (h8 q hq)⟩
theorem KK.same {D : va_G} {ca : Nat → ClassId} {sa : Nat → Nat} {u U : State} (h : U.vm = u.vm) (k : KK D ca sa u) : KK D ca sa U := k.warm (by rw [h]; exact State.WarmedH.refl u)
def kz (lo : Nat) (U : State) (H : Heap) : Prop := vx_Zq Bundle.tN "UNASSIGNED_STACK" Bundle.steD (fun q => lo ≤ q) U H ∧ vx_Zq Bundle.tN "SUPPRESSED_SENTINEL" Bundle.listD (fun q => lo ≤ q) U H
theorem kz.moved {lo : Nat} {u U : State} {H : Heap} (hvm : u.vm.Alike U.vm) (h : kz lo u H) : kz lo U H := ⟨h.1.moved hvm, h.2.moved hvm⟩
theorem kz.kept {lo : Nat} {U : State} {H H1 : Heap} (h : kz lo U H) (hq : ∀ a : Nat, a < H.size → ¬ lo ≤ a → H1[a]? = H[a]?) : kz lo U H1 := ⟨h.1.kept hq, h.2.kept hq⟩
def PX (D : va_G) (ca : Nat → ClassId) (sa : Nat → Nat) (lo sz : Nat) (av : List Value) (ws : va_W) : Array Value → State → Prop := fun v U => v = av.toArray ∧ U.heap.size = sz ∧ va_P D cls ws U.heap ∧ va_D (fun q => lo ≤ q) ws ∧ KK D ca sa U ∧ kz lo U U.heap ∧ lo ≤ sz
theorem PX.blind {D : va_G} {ca : Nat → ClassId} {sa : Nat → Nat} {lo sz : Nat} {av : List Value} {ws : va_W} : FrameBlind (PX D ca sa lo sz av ws) := fun a U g mk h => by
  obtain ⟨h1, h2, h3, h4, h5, h6, h7⟩ := h
  exact ⟨h1, h2, h3, h4, KK.same (u := U) rfl h5, kz.moved (u := U) (U := U.calling g mk a) (Vm.Alike.refl U.vm) h6, h7⟩
def Cx (D : va_G) (ca : Nat → ClassId) (sa : Nat → Nat) (lo : Nat) (p : Program) (s : State) (m : MethodId) (c : Code) (cc : ByteArray) (nL : Nat) (own : String) (A : Nat → Prop) : Prop :=
  p.tables.exec = Jvm.exec ∧ c.code = cc ∧ c.maxLocals = nL ∧ s.vm.findClass own = some m.cls ∧ KK D ca sa s ∧ kz lo s s.heap ∧ lo ≤ s.heap.size ∧ (∀ q, s.heap.size ≤ q → A q) ∧ (∀ q, A q → lo ≤ q)
theorem va_D.to {A : Nat → Prop} {ws ws' : va_W} (h : va_D A ws) (e : ws'.map (·.1) = ws.map (·.1)) : va_D A ws' := by
  have key : ∀ (k : Nat) (q : Nat × va_E), ws'[k]? = some q → ∃ q', ws[k]? = some q' ∧ q'.1 = q.1 := by
    intro k q hk
    have h1 : (ws'.map (·.1))[k]? = some q.1 := by rw [List.getElem?_map, hk]; rfl
    rw [e, List.getElem?_map] at h1
    cases h2 : ws[k]? with
    | none => rw [h2] at h1; cases h1
    | some q' => rw [h2] at h1; exact ⟨q', rfl, Option.some.inj h1⟩
  refine ⟨fun i j a b hi hj hab => ?_, fun k q hk => ?_⟩
  · obtain ⟨a', ha', ea⟩ := key i a hi
    obtain ⟨b', hb', eb⟩ := key j b hj
    exact h.1 i j a' b' ha' hb' (by rw [ea, eb]; exact hab)
  · obtain ⟨q', hq', eq⟩ := key k q hk
    rw [← eq]; exact h.2 k q' hq'
section KX
variable {D : va_G} {ca : Nat → ClassId} {sa : Nat → Nat} {lo : Nat} {p : Program} {l : Launch} {e : Env} {R : Room} {s : State} {m : MethodId} {args : Array Value} {below : List Frame} {meth : Method} {c : Code} {cc : ByteArray} {nL : Nat} {own : String} {A : Nat → Prop} {H : Heap} {locs : List Loc} {cells slots : Nat} {Q : State → Prop} {ls : Array Slot} {pc : Nat} {rest : List Value}
theorem PX.of {av : List Value} {ws : va_W} (C : Cx D ca sa lo p s m c cc nL own A) (hP : va_P D cls ws H) (hD : va_D A ws) (hS : va_S A s.heap H locs) {U : State} (hU : U.heap = H) (hW : s.WarmedH U.vm) : PX D ca sa lo H.size av ws av.toArray U := by
  obtain ⟨-, -, -, -, hk, hz, hlo, -, hA⟩ := C
  refine ⟨rfl, by rw [hU], by rw [hU]; exact hP, hD.weaken (fun _ _ _ h => hA _ h), hk.warm hW, ?_, Nat.le_trans hlo hS.1⟩
  rw [hU]
  exact (hz.moved hW.alike).kept (fun a h1 h2 => hS.2.1 a h1 (fun h3 => h2 (hA a h3)))
def QV (D : va_G) (ws : va_W) (A : Nat → Prop) : Array Value → State → Outcome → State → Prop := va_Qv (S := Unit) (fun _ => True) (fun _ t => va_P D cls ws t.heap) A
def QI (D : va_G) (r : Int32) (ws : va_W) (A : Nat → Prop) : Array Value → State → Outcome → State → Prop := va_Qi (S := Unit) (fun r' _ => r' = r) (fun _ t => va_P D cls ws t.heap) A
theorem rv (C : Cx D ca sa lo p s m c cc nL own A) (hr : meth.sig.returnType = none) (hlocks : meth.locks = false) {ws : va_W} (hP : va_P D cls ws H) (hS : va_S A s.heap H locs) (hdg : decode cc pc = .ok (.return_, 1)) : W p l e R s m args below meth c H locs cells slots (MQ below (QV D ws A) args s cells slots A) (F0 m pc ls []) :=
  W.vret C.1 C.2.1 hr (fun t ht hW => ⟨⟨(), rfl, trivial, by subst ht; exact hP⟩, hS.F ht⟩) hS.2.2 hdg hlocks
theorem ri (C : Cx D ca sa lo p s m c cc nL own A) (hr : meth.sig.returnType = some .int) (hlocks : meth.locks = false) {ws : va_W} {v r : Int32} (hv : v = r) (hP : va_P D cls ws H) (hS : va_S A s.heap H locs) (hdg : decode cc pc = .ok (.ireturn, 1)) : W p l e R s m args below meth c H locs cells slots (MQ below (QI D r ws A) args s cells slots A) (F0 m pc ls [.int v]) :=
  W.iret C.1 C.2.1 hr (fun t ht hW => ⟨⟨v, (), rfl, hv, by subst ht; exact hP⟩, hS.F ht⟩) hS.2.2 hdg hlocks
theorem nar_b (b : Bool) : narrow .boolean (.int (bi b)) = .int (bi b) := by cases b <;> rfl
theorem rz (C : Cx D ca sa lo p s m c cc nL own A) (hr : meth.sig.returnType = some .boolean) (hlocks : meth.locks = false) {ws : va_W} {v : Int32} {b : Bool} (hv : v = bi b) (hP : va_P D cls ws H) (hS : va_S A s.heap H locs) (hdg : decode cc pc = .ok (.ireturn, 1)) : W p l e R s m args below meth c H locs cells slots (MQ below (QI D (bi b) ws A) args s cells slots A) (F0 m pc ls [.int v]) :=
  W.zret C.1 C.2.1 hr (by rw [hv]; exact nar_b b) (fun t ht hW => ⟨⟨v, (), rfl, hv, by subst ht; exact hP⟩, hS.F ht⟩) hS.2.2 hdg hlocks
end KX
theorem mk_met {D : va_G} {ca : Nat → ClassId} {sa : Nat → Nat} {lo sz : Nat} {l : Launch} {y : MethodName} {cc : ByteArray} {maxL : Nat} {ret : Option FieldType} {rm : Room} {av : List Value} {ws : va_W} {mc ms : Nat} (Qc : (Nat → Prop) → Array Value → State → Outcome → State → Prop)
    (hy : plainName y.cls = true) (hlen : (lg_sl av).length ≤ maxL)
    (body : ∀ (p : Program) (e : Env) (s : State) (m : MethodId) (below : List Frame) (meth : Method) (c : Code) (A : Nat → Prop) (ls : Array Slot), Cx D ca sa lo p s m c cc maxL y.cls A → meth.sig.returnType = ret → meth.locks = false → meth.name = y.name → s.heap.size = sz → va_P D cls ws s.heap → va_D A ws → va_S A s.heap s.heap [] → lv_has ls maxL (lv_args 0 av) →
      W p l e rm s m av.toArray below meth c s.heap [] 0 0 (MQ below (Qc A) av.toArray s mc ms A) (F0 m 0 ls [])) :
    Met l y [.code y cc maxL ret] rm (PX D ca sa lo sz av ws) (Qc (va_A ws sz)) mc ms (va_A ws sz) := by
  refine Met.ofW (cc := cc) (maxL := maxL) (ret := ret) hy rfl ?_
  intro p e s m args below meth c s₁ B hml hv
  obtain ⟨rfl, hsz, hP, hD, hk, hz, hlo⟩ := hv
  subst hsz
  have hA1 : ∀ q : Nat, s.heap.size ≤ q → va_A ws s.heap.size q := fun q h => Or.inr h
  have hA2 : ∀ q : Nat, va_A ws s.heap.size q → lo ≤ q := fun q h => by
    rcases h with ⟨k, e9, hk9⟩ | h
    · exact hD.2 k _ hk9
    · exact Nat.le_trans hlo h
  have hl := lv_entry av (n := maxL) hlen
  rw [lg_entry_eq]
  exact body p e s m below meth c (va_A ws s.heap.size) _ ⟨B.exec, B.bytes, hml, findClass_of_methodNamed B.named, hk, hz, hlo, hA1, hA2⟩ B.returns B.notSynchronized (name_of_methodNamed B.named B.method).1 rfl hP hD.self va_S.rf hl
theorem mk_metX {D : va_G} {ca : Nat → ClassId} {sa : Nat → Nat} {lo sz : Nat} {l : Launch} {y : MethodName} {cc : ByteArray} {maxL : Nat} {ret : Option FieldType} {rm : Room} {av : List Value} {ws : va_W} {mc ms : Nat} (Qc : (Nat → Prop) → Array Value → State → Outcome → State → Prop) (XC : (Nat → Prop) → String → State → State → Prop)
    (hy : plainName y.cls = true) (hlen : (lg_sl av).length ≤ maxL)
    (body : ∀ (p : Program) (e : Env) (s : State) (m : MethodId) (below : List Frame) (meth : Method) (c : Code) (A : Nat → Prop) (ls : Array Slot), Cx D ca sa lo p s m c cc maxL y.cls A → meth.sig.returnType = ret → meth.locks = false → (∀ x ∈ c.exceptionTable.toList, False) → s.heap.size = sz → va_P D cls ws s.heap → va_D A ws → va_S A s.heap s.heap [] → lv_has ls maxL (lv_args 0 av) →
      W p l e rm s m av.toArray below meth c s.heap [] 0 0 (vx_MQ below (Qc A) (XC A) av.toArray s mc ms A) (F0 m 0 ls [])) :
    vx_Met l y [.code y cc maxL ret] rm (PX D ca sa lo sz av ws) (Qc (va_A ws sz)) (XC (va_A ws sz)) mc ms (va_A ws sz) := by
  refine vx_ofW (cc := cc) (maxL := maxL) (ret := ret) hy rfl ?_
  intro p e s m args below meth c s₁ B hml hno hv
  obtain ⟨rfl, hsz, hP, hD, hk, hz, hlo⟩ := hv
  subst hsz
  have hA1 : ∀ q : Nat, s.heap.size ≤ q → va_A ws s.heap.size q := fun q h => Or.inr h
  have hA2 : ∀ q : Nat, va_A ws s.heap.size q → lo ≤ q := fun q h => by
    rcases h with ⟨k, e9, hk9⟩ | h
    · exact hD.2 k _ hk9
    · exact Nat.le_trans hlo h
  have hl := lv_entry av (n := maxL) hlen
  rw [lg_entry_eq]
  exact body p e s m below meth c (va_A ws s.heap.size) _ ⟨B.exec, B.bytes, hml, findClass_of_methodNamed B.named, hk, hz, hlo, hA1, hA2⟩ B.returns B.notSynchronized hno rfl hP hD.self va_S.rf hl
section KC
variable {D : va_G} {ca : Nat → ClassId} {sa : Nat → Nat} {lo : Nat} {p : Program} {l : Launch} {e : Env} {R : Room} {s : State} {m : MethodId} {args : Array Value} {below : List Frame} {meth : Method} {c : Code} {cc : ByteArray} {nL : Nat} {own : String} {A : Nat → Prop} {H : Heap} {locs : List Loc} {cells slots : Nat} {Q : State → Prop} {ls : Array Slot} {pc : Nat} {rest : List Value}
/-- the cells of a callee are free cells of ours -/
theorem fr_of {wc : va_W} (C : Cx D ca sa lo p s m c cc nL own A) (hD : va_D A wc) (hS : va_S A s.heap H locs) : ∀ q, va_A wc H.size q → A q := fun q h => by
  rcases h with ⟨k, e9, hk⟩ | h
  · exact hD.2 k _ hk
  · exact C.2.2.2.2.2.2.2.1 q (Nat.le_trans hS.1 h)
/-- a virtual call whose method is the one that is named -/
theorem run_V {y : MethodName} {bytes : ByteArray} {maxL mc ms n index ci q0 N : Nat} {ret : Option FieldType} {rm : Room} {As : List Value} {Qc : Array Value → State → Outcome → State → Prop} {free : Addr → Prop} {wc : va_W} {Cn : String} {T : u_T} {b : Addr} {fs : List Value} {st : List Value}
    (C : Cx D ca sa lo p s m c cc nL own A) (hM : Met l y [.code y bytes maxL ret] rm (PX D ca sa lo H.size (.ref b :: As) wc) Qc mc ms free) (hco : ∀ (U : State) (A9 : Array Value), kw U → (Cond.code y bytes maxL ret).before A9 U = true)
    (hini : (Cond.initialized y.cls).before args s = true) (hli : (Cond.methodLink own index y).before args s = true) (him : (Cond.instanceMethod y).before args s = true) (hse : (Cond.selects Cn y y).before args s = true)
    (hd : y.cls ≠ "java/lang/invoke/MethodHandle" ∧ y.cls ≠ "java/lang/invoke/VarHandle" ∧ (parseMethodDescriptor y.desc).map (fun d => d.parameters.length) = some n) (hR : (rm.cells = mc ∧ rm.slots = ms) ∧ rm.frames + 1 ≤ R.frames ∧ 8 + (maxL + 11) + rm.locals ≤ R.locals)
    (hP : va_P D cls wc H) (hD : va_D A wc) (hS : va_S A s.heap H locs) (hrc : wc[q0]? = some (b, .inr (ci, fs))) (hci : cls[ci]? = some (Cn, T, N))
    (hn : As.length = n) (hsize : ls.size = nL) (hstack : st = As.reverse ++ .ref b :: rest) (hW : (rest.map fun v => v.category).sum ≤ 8) (hdg : decode cc pc = .ok (.invokevirtual index, 3)) (hf : cells + mc ≤ R.cells ∧ slots + ms ≤ R.slots) :
    va_Run p l e R s m args below meth c H locs cells slots mc ms (F0 m pc ls st) rest (Qc (Value.ref b :: As).toArray) free := by
  obtain ⟨hx, hb, hml, hown, hk, hz⟩ := id C
  refine va_runV (Ts := []) (cc := cc) (nL := nL) (own := own) (C := Cn) ⟨hx, hb, hml, hown, fun w h => nomatch h⟩ hM
    ⟨⟨hR.1.1, hR.1.2, hR.2.1, hR.2.2, fun w hw a' U hW => by cases List.mem_singleton.mp hw; exact hco U a' (hk.1.warm hW), List.mem_singleton.mpr rfl, hco s args hk.1, hini, ⟨hd.1, hd.2.1⟩, fun sig h => by
      have h2 := hd.2.2
      rw [h] at h2
      exact (Option.some.inj h2).symm, hli⟩, him, hse⟩
    ⟨PX.blind, va_recv hk.2.1 hP hci hrc, fun U hU hW => PX.of C hP hD hS hU hW⟩ rfl hn hsize hstack (lv_room hW) hdg hf
end KC
end
section
theorem nx_succ (n : Nat) : nx (n + 1) = n % 200 + 1 := by simp [nx]
theorem nx_le (n : Nat) : nx n ≤ 200 := by unfold nx; split <;> omega
theorem nx_lt {n : Nat} (h : nx n < 200) : nx n = n % 200 := by unfold nx at *; split at h <;> split <;> omega
theorem nx_200 {n : Nat} (h : ¬ nx n < 200) : n % 200 = 0 := by unfold nx at h; split at h <;> omega
theorem lt_200 {a : Nat} (h : a < 2 ^ 31) : nI a < 200 ↔ a < 200 := nI_ltI (b := 200) h (by decide)
theorem le_200 {a : Nat} (h : a < 2 ^ 31) : (200 : Int32) ≤ nI a ↔ 200 ≤ a := nI_leI (a := 200) (by decide) h

set_option maxHeartbeats 4000000 in
set_option maxRecDepth 100000 in
/-- Trace.begin -/
theorem m_begin (l : Launch) (D : va_G) (ca : Nat → ClassId) (sa : Nat → Nat) (lo sz : Nat) (ht hr : Nat) (a k : Int32) (t : Tr) : Met l yX6_begin [.code yX6_begin cX6_begin 3 none] ({ frames := 0, cells := 0, slots := 0, locals := 0 }) (PX D ca sa lo sz [.ref ht, .int a, .int k] (wt ca ht hr t)) (QV D (wt ca ht hr (tb a k t)) (va_A (wt ca ht hr t) sz)) 0 0 (va_A (wt ca ht hr t) sz) := by
  obtain ⟨n, f, fl, ar⟩ := t
  refine mk_met (fun A => QV D (wt ca ht hr (tb a k (n, f, fl, ar))) A) (by decide) (Nat.le_of_ble_eq_true rfl) ?_
  intro p e s m below meth c A ls C hrt hlocks hnm hsz hP hD hS hl
  obtain ⟨hx, hb, hml, hown, hk, hz, hlo, hA, hAl⟩ := id C
  have hK : va_K D cls (tyl ca) s := hk.2.1
  have hl : lv_has ls 3 [(0, .ref ht), (1, .int a), (2, .int k)] := hl
  have hP : va_P D cls [(ht, .inr (6, [.ref hr, .int (nI (nx n)), .int (nI (min n 200)), .int (nI n), .int fl, .int ar])), (hr, .inl (ca 0, 200, .inl f))] s.heap := hP
  have hD : va_D A [(ht, .inr (6, [.ref hr, .int (nI (nx n)), .int (nI (min n 200)), .int (nI n), .int fl, .int ar])), (hr, .inl (ca 0, 200, .inl f))] := hD
  refine lv_aload_n hx hb dX6_begin_0 rfl (lv_at hl 0 rfl) ?_
  refine va_get (D := D) (C := RX6) (T := TX6) (N := 6) hx hb (uc_6 hk.1 _) (fun _ h9 => h9) hown hK hP 0 rfl rfl 1 (by decide) (fl_X6_15 hk.1 _) (fun _ h9 => h9) rfl dX6_begin_1 ?_
  refine lv_aload_n hx hb dX6_begin_4 rfl (lv_at hl 0 rfl) ?_
  refine va_get (D := D) (C := RX6) (T := TX6) (N := 6) hx hb (uc_6 hk.1 _) (fun _ h9 => h9) hown hK hP 0 rfl rfl 0 (by decide) (fl_X6_9 hk.1 _) (fun _ h9 => h9) rfl dX6_begin_5 ?_
  refine va_alen hx hb hK hP 1 0 rfl rfl (v := 200) rfl dX6_begin_8 ?_
  refine lv_icmp_lt (tgt := 17) hx hb dX6_begin_9 (by decide) (fun c_1 => ?_) (fun c_1 => ?_)
  · have e1 : nx n = n % 200 := nx_lt ((lt_200 (by have := nx_le n; omega)).mp c_1)
    have hP : va_P D cls [(ht, .inr (6, [.ref hr, .int (nI (n % 200)), .int (nI (min n 200)), .int (nI n), .int fl, .int ar])), (hr, .inl (ca 0, 200, .inl f))] s.heap := by rw [← e1]; exact hP
    have hD : va_D A [(ht, .inr (6, [.ref hr, .int (nI (n % 200)), .int (nI (min n 200)), .int (nI n), .int fl, .int ar])), (hr, .inl (ca 0, 200, .inl f))] := hD.to rfl
    refine lv_aload_n hx hb dX6_begin_17 rfl (lv_at hl 0 rfl) ?_
    refine va_get (D := D) (C := RX6) (T := TX6) (N := 6) hx hb (uc_6 hk.1 _) (fun _ h9 => h9) hown hK hP 0 rfl rfl 0 (by decide) (fl_X6_9 hk.1 _) (fun _ h9 => h9) rfl dX6_begin_18 ?_
    refine lv_aload_n hx hb dX6_begin_21 rfl (lv_at hl 0 rfl) ?_
    refine va_get (D := D) (C := RX6) (T := TX6) (N := 6) hx hb (uc_6 hk.1 _) (fun _ h9 => h9) hown hK hP 0 rfl rfl 1 (by decide) (fl_X6_15 hk.1 _) (fun _ h9 => h9) rfl dX6_begin_22 ?_
    refine lv_bipush (v := 10) hx hb dX6_begin_25 (by decide) ?_
    refine lv_iload_n hx hb dX6_begin_27 rfl (lv_at hl 1 rfl) ?_
    refine lv_imul hx hb dX6_begin_28 ?_
    refine lv_iload_n hx hb dX6_begin_29 rfl (lv_at hl 2 rfl) ?_
    refine lv_iadd hx hb dX6_begin_30 ?_
    have hin : vp_in (nI (n % 200)) 200 := vp_in_nI (Nat.mod_lt _ (by decide)) (by decide)
    refine va_iast hx hb hK hP hD hS 1 0 rfl rfl hin dX6_begin_31 (fun H locs hP hD hS => ?_)
    have hP : va_P D cls [(ht, .inr (6, [.ref hr, .int (nI (n % 200)), .int (nI (min n 200)), .int (nI n), .int fl, .int ar])), (hr, .inl (ca 0, 200, .inl (upd f ((nI (n % 200))).toNatClampNeg ((10 * a) + k))))] H := hP
    have hD : va_D A [(ht, .inr (6, [.ref hr, .int (nI (n % 200)), .int (nI (min n 200)), .int (nI n), .int fl, .int ar])), (hr, .inl (ca 0, 200, .inl (upd f ((nI (n % 200))).toNatClampNeg ((10 * a) + k))))] := hD
    have hP : va_P D cls [(ht, .inr (6, [.ref hr, .int (nI (n % 200)), .int (nI (min n 200)), .int (nI n), .int fl, .int ar])), (hr, .inl (ca 0, 200, .inl (upd f (n % 200) (10 * a + k))))] H := by rw [nI_clamp (n := n % 200) (by omega)] at hP; exact hP
    have hD : va_D A [(ht, .inr (6, [.ref hr, .int (nI (n % 200)), .int (nI (min n 200)), .int (nI n), .int fl, .int ar])), (hr, .inl (ca 0, 200, .inl (upd f (n % 200) (10 * a + k))))] := hD.to rfl
    refine lv_aload_n hx hb dX6_begin_32 rfl (lv_at hl 0 rfl) ?_
    refine lv_dup hx hb dX6_begin_33 rfl ?_
    refine va_get (D := D) (C := RX6) (T := TX6) (N := 6) hx hb (uc_6 hk.1 _) (fun _ h9 => h9) hown hK hP 0 rfl rfl 1 (by decide) (fl_X6_15 hk.1 _) (fun _ h9 => h9) rfl dX6_begin_34 ?_
    refine lv_iconst (v := 1) hx hb dX6_begin_37 (by decide) ?_
    refine lv_iadd hx hb dX6_begin_38 ?_
    refine va_put (D := D) (v := .int ((nI (n % 200)) + 1)) (ty := .int) (C := RX6) (T := TX6) (N := 6) hx hb (uc_6 hk.1 _) (fun _ h9 => h9) tyX6 tyX6_ok nmX6 hown hK hP hD hS 0 rfl rfl 1 (by decide) (fl_X6_15 hk.1 _) (fun _ h9 => h9) rfl (by decide +kernel) rfl rfl (Nat.le_of_ble_eq_true rfl) dX6_begin_39 (fun H locs hP hD hS => ?_)
    have hP : va_P D cls [(ht, .inr (6, [.ref hr, .int ((nI (n % 200)) + 1), .int (nI (min n 200)), .int (nI n), .int fl, .int ar])), (hr, .inl (ca 0, 200, .inl (upd f (n % 200) (10 * a + k))))] H := hP
    have hD : va_D A [(ht, .inr (6, [.ref hr, .int ((nI (n % 200)) + 1), .int (nI (min n 200)), .int (nI n), .int fl, .int ar])), (hr, .inl (ca 0, 200, .inl (upd f (n % 200) (10 * a + k))))] := hD
    refine lv_aload_n hx hb dX6_begin_42 rfl (lv_at hl 0 rfl) ?_
    refine va_get (D := D) (C := RX6) (T := TX6) (N := 6) hx hb (uc_6 hk.1 _) (fun _ h9 => h9) hown hK hP 0 rfl rfl 2 (by decide) (fl_X6_19 hk.1 _) (fun _ h9 => h9) rfl dX6_begin_43 ?_
    refine lv_aload_n hx hb dX6_begin_46 rfl (lv_at hl 0 rfl) ?_
    refine va_get (D := D) (C := RX6) (T := TX6) (N := 6) hx hb (uc_6 hk.1 _) (fun _ h9 => h9) hown hK hP 0 rfl rfl 0 (by decide) (fl_X6_9 hk.1 _) (fun _ h9 => h9) rfl dX6_begin_47 ?_
    refine va_alen hx hb hK hP 1 0 rfl rfl (v := 200) rfl dX6_begin_50 ?_
    refine lv_icmp_ge (tgt := 64) hx hb dX6_begin_51 (by decide) (fun c_2 => ?_) (fun c_2 => ?_)
    · have e8 : nI (min (n + 1) 200) = nI (min n 200) := by
        have h9 : 200 ≤ min n 200 := (le_200 (by omega)).mp c_2
        have h8 : min (n + 1) 200 = min n 200 := by omega
        rw [h8]
      refine lv_aload_n hx hb dX6_begin_64 rfl (lv_at hl 0 rfl) ?_
      refine lv_dup hx hb dX6_begin_65 rfl ?_
      refine va_get (D := D) (C := RX6) (T := TX6) (N := 6) hx hb (uc_6 hk.1 _) (fun _ h9 => h9) hown hK hP 0 rfl rfl 3 (by decide) (fl_X6_22 hk.1 _) (fun _ h9 => h9) rfl dX6_begin_66 ?_
      refine lv_iconst (v := 1) hx hb dX6_begin_69 (by decide) ?_
      refine lv_iadd hx hb dX6_begin_70 ?_
      refine va_put (D := D) (v := .int ((nI n) + 1)) (ty := .int) (C := RX6) (T := TX6) (N := 6) hx hb (uc_6 hk.1 _) (fun _ h9 => h9) tyX6 tyX6_ok nmX6 hown hK hP hD hS 0 rfl rfl 3 (by decide) (fl_X6_22 hk.1 _) (fun _ h9 => h9) rfl (by decide +kernel) rfl rfl (Nat.le_of_ble_eq_true rfl) dX6_begin_71 (fun H locs hP hD hS => ?_)
      have hP : va_P D cls [(ht, .inr (6, [.ref hr, .int ((nI (n % 200)) + 1), .int (nI (min n 200)), .int ((nI n) + 1), .int fl, .int ar])), (hr, .inl (ca 0, 200, .inl (upd f (n % 200) (10 * a + k))))] H := hP
      have hD : va_D A [(ht, .inr (6, [.ref hr, .int ((nI (n % 200)) + 1), .int (nI (min n 200)), .int ((nI n) + 1), .int fl, .int ar])), (hr, .inl (ca 0, 200, .inl (upd f (n % 200) (10 * a + k))))] := hD
      have e5 : va_P D cls (wt ca ht hr (tb a k (n, f, fl, ar))) H := by
        have e6 : nI (n % 200) + 1 = nI (nx (n + 1)) := by rw [nx_succ, nI_succ]
        have e7 : nI n + 1 = nI (n + 1) := nI_1 n
        show va_P D cls [(ht, .inr (6, [.ref hr, .int (nI (nx (n + 1))), .int (nI (min (n + 1) 200)), .int (nI (n + 1)), .int fl, .int ar])), (hr, .inl (ca 0, 200, .inl (upd f (n % 200) (10 * a + k))))] H
        rw [← e6, ← e7, e8]; exact hP
      exact rv C hrt hlocks e5 hS dX6_begin_74
    · have e8 : nI (min (n + 1) 200) = nI (min n 200) + 1 := by
        have h9 : ¬ 200 ≤ min n 200 := fun h8 => c_2 ((le_200 (by omega)).mpr h8)
        have h8 : min (n + 1) 200 = min n 200 + 1 := by omega
        rw [h8, nI_succ]
      refine lv_aload_n hx hb dX6_begin_54 rfl (lv_at hl 0 rfl) ?_
      refine lv_dup hx hb dX6_begin_55 rfl ?_
      refine va_get (D := D) (C := RX6) (T := TX6) (N := 6) hx hb (uc_6 hk.1 _) (fun _ h9 => h9) hown hK hP 0 rfl rfl 2 (by decide) (fl_X6_19 hk.1 _) (fun _ h9 => h9) rfl dX6_begin_56 ?_
      refine lv_iconst (v := 1) hx hb dX6_begin_59 (by decide) ?_
      refine lv_iadd hx hb dX6_begin_60 ?_
      refine va_put (D := D) (v := .int ((nI (min n 200)) + 1)) (ty := .int) (C := RX6) (T := TX6) (N := 6) hx hb (uc_6 hk.1 _) (fun _ h9 => h9) tyX6 tyX6_ok nmX6 hown hK hP hD hS 0 rfl rfl 2 (by decide) (fl_X6_19 hk.1 _) (fun _ h9 => h9) rfl (by decide +kernel) rfl rfl (Nat.le_of_ble_eq_true rfl) dX6_begin_61 (fun H locs hP hD hS => ?_)
      have hP : va_P D cls [(ht, .inr (6, [.ref hr, .int ((nI (n % 200)) + 1), .int ((nI (min n 200)) + 1), .int (nI n), .int fl, .int ar])), (hr, .inl (ca 0, 200, .inl (upd f (n % 200) (10 * a + k))))] H := hP
      have hD : va_D A [(ht, .inr (6, [.ref hr, .int ((nI (n % 200)) + 1), .int ((nI (min n 200)) + 1), .int (nI n), .int fl, .int ar])), (hr, .inl (ca 0, 200, .inl (upd f (n % 200) (10 * a + k))))] := hD
      refine lv_aload_n hx hb dX6_begin_64 rfl (lv_at hl 0 rfl) ?_
      refine lv_dup hx hb dX6_begin_65 rfl ?_
      refine va_get (D := D) (C := RX6) (T := TX6) (N := 6) hx hb (uc_6 hk.1 _) (fun _ h9 => h9) hown hK hP 0 rfl rfl 3 (by decide) (fl_X6_22 hk.1 _) (fun _ h9 => h9) rfl dX6_begin_66 ?_
      refine lv_iconst (v := 1) hx hb dX6_begin_69 (by decide) ?_
      refine lv_iadd hx hb dX6_begin_70 ?_
      refine va_put (D := D) (v := .int ((nI n) + 1)) (ty := .int) (C := RX6) (T := TX6) (N := 6) hx hb (uc_6 hk.1 _) (fun _ h9 => h9) tyX6 tyX6_ok nmX6 hown hK hP hD hS 0 rfl rfl 3 (by decide) (fl_X6_22 hk.1 _) (fun _ h9 => h9) rfl (by decide +kernel) rfl rfl (Nat.le_of_ble_eq_true rfl) dX6_begin_71 (fun H locs hP hD hS => ?_)
      have hP : va_P D cls [(ht, .inr (6, [.ref hr, .int ((nI (n % 200)) + 1), .int ((nI (min n 200)) + 1), .int ((nI n) + 1), .int fl, .int ar])), (hr, .inl (ca 0, 200, .inl (upd f (n % 200) (10 * a + k))))] H := hP
      have hD : va_D A [(ht, .inr (6, [.ref hr, .int ((nI (n % 200)) + 1), .int ((nI (min n 200)) + 1), .int ((nI n) + 1), .int fl, .int ar])), (hr, .inl (ca 0, 200, .inl (upd f (n % 200) (10 * a + k))))] := hD
      have e5 : va_P D cls (wt ca ht hr (tb a k (n, f, fl, ar))) H := by
        have e6 : nI (n % 200) + 1 = nI (nx (n + 1)) := by rw [nx_succ, nI_succ]
        have e7 : nI n + 1 = nI (n + 1) := nI_1 n
        show va_P D cls [(ht, .inr (6, [.ref hr, .int (nI (nx (n + 1))), .int (nI (min (n + 1) 200)), .int (nI (n + 1)), .int fl, .int ar])), (hr, .inl (ca 0, 200, .inl (upd f (n % 200) (10 * a + k))))] H
        rw [← e6, ← e7, e8]; exact hP
      exact rv C hrt hlocks e5 hS dX6_begin_74
  · have e1 : n % 200 = 0 := nx_200 (fun h9 => c_1 ((lt_200 (by have := nx_le n; omega)).mpr h9))
    refine lv_aload_n hx hb dX6_begin_12 rfl (lv_at hl 0 rfl) ?_
    refine lv_iconst (v := 0) hx hb dX6_begin_13 (by decide) ?_
    refine va_put (D := D) (v := .int 0) (ty := .int) (C := RX6) (T := TX6) (N := 6) hx hb (uc_6 hk.1 _) (fun _ h9 => h9) tyX6 tyX6_ok nmX6 hown hK hP hD hS 0 rfl rfl 1 (by decide) (fl_X6_15 hk.1 _) (fun _ h9 => h9) rfl (by decide +kernel) rfl rfl (Nat.le_of_ble_eq_true rfl) dX6_begin_14 (fun H locs hP hD hS => ?_)
    have hP : va_P D cls [(ht, .inr (6, [.ref hr, .int 0, .int (nI (min n 200)), .int (nI n), .int fl, .int ar])), (hr, .inl (ca 0, 200, .inl f))] H := hP
    have hD : va_D A [(ht, .inr (6, [.ref hr, .int 0, .int (nI (min n 200)), .int (nI n), .int fl, .int ar])), (hr, .inl (ca 0, 200, .inl f))] := hD
    have hP : va_P D cls [(ht, .inr (6, [.ref hr, .int (nI (n % 200)), .int (nI (min n 200)), .int (nI n), .int fl, .int ar])), (hr, .inl (ca 0, 200, .inl f))] H := by rw [e1]; exact hP
    have hD : va_D A [(ht, .inr (6, [.ref hr, .int (nI (n % 200)), .int (nI (min n 200)), .int (nI n), .int fl, .int ar])), (hr, .inl (ca 0, 200, .inl f))] := hD.to rfl
    refine lv_aload_n hx hb dX6_begin_17 rfl (lv_at hl 0 rfl) ?_
    refine va_get (D := D) (C := RX6) (T := TX6) (N := 6) hx hb (uc_6 hk.1 _) (fun _ h9 => h9) hown hK hP 0 rfl rfl 0 (by decide) (fl_X6_9 hk.1 _) (fun _ h9 => h9) rfl dX6_begin_18 ?_
    refine lv_aload_n hx hb dX6_begin_21 rfl (lv_at hl 0 rfl) ?_
    refine va_get (D := D) (C := RX6) (T := TX6) (N := 6) hx hb (uc_6 hk.1 _) (fun _ h9 => h9) hown hK hP 0 rfl rfl 1 (by decide) (fl_X6_15 hk.1 _) (fun _ h9 => h9) rfl dX6_begin_22 ?_
    refine lv_bipush (v := 10) hx hb dX6_begin_25 (by decide) ?_
    refine lv_iload_n hx hb dX6_begin_27 rfl (lv_at hl 1 rfl) ?_
    refine lv_imul hx hb dX6_begin_28 ?_
    refine lv_iload_n hx hb dX6_begin_29 rfl (lv_at hl 2 rfl) ?_
    refine lv_iadd hx hb dX6_begin_30 ?_
    have hin : vp_in (nI (n % 200)) 200 := vp_in_nI (Nat.mod_lt _ (by decide)) (by decide)
    refine va_iast hx hb hK hP hD hS 1 0 rfl rfl hin dX6_begin_31 (fun H locs hP hD hS => ?_)
    have hP : va_P D cls [(ht, .inr (6, [.ref hr, .int (nI (n % 200)), .int (nI (min n 200)), .int (nI n), .int fl, .int ar])), (hr, .inl (ca 0, 200, .inl (upd f ((nI (n % 200))).toNatClampNeg ((10 * a) + k))))] H := hP
    have hD : va_D A [(ht, .inr (6, [.ref hr, .int (nI (n % 200)), .int (nI (min n 200)), .int (nI n), .int fl, .int ar])), (hr, .inl (ca 0, 200, .inl (upd f ((nI (n % 200))).toNatClampNeg ((10 * a) + k))))] := hD
    have hP : va_P D cls [(ht, .inr (6, [.ref hr, .int (nI (n % 200)), .int (nI (min n 200)), .int (nI n), .int fl, .int ar])), (hr, .inl (ca 0, 200, .inl (upd f (n % 200) (10 * a + k))))] H := by rw [nI_clamp (n := n % 200) (by omega)] at hP; exact hP
    have hD : va_D A [(ht, .inr (6, [.ref hr, .int (nI (n % 200)), .int (nI (min n 200)), .int (nI n), .int fl, .int ar])), (hr, .inl (ca 0, 200, .inl (upd f (n % 200) (10 * a + k))))] := hD.to rfl
    refine lv_aload_n hx hb dX6_begin_32 rfl (lv_at hl 0 rfl) ?_
    refine lv_dup hx hb dX6_begin_33 rfl ?_
    refine va_get (D := D) (C := RX6) (T := TX6) (N := 6) hx hb (uc_6 hk.1 _) (fun _ h9 => h9) hown hK hP 0 rfl rfl 1 (by decide) (fl_X6_15 hk.1 _) (fun _ h9 => h9) rfl dX6_begin_34 ?_
    refine lv_iconst (v := 1) hx hb dX6_begin_37 (by decide) ?_
    refine lv_iadd hx hb dX6_begin_38 ?_
    refine va_put (D := D) (v := .int ((nI (n % 200)) + 1)) (ty := .int) (C := RX6) (T := TX6) (N := 6) hx hb (uc_6 hk.1 _) (fun _ h9 => h9) tyX6 tyX6_ok nmX6 hown hK hP hD hS 0 rfl rfl 1 (by decide) (fl_X6_15 hk.1 _) (fun _ h9 => h9) rfl (by decide +kernel) rfl rfl (Nat.le_of_ble_eq_true rfl) dX6_begin_39 (fun H locs hP hD hS => ?_)
    have hP : va_P D cls [(ht, .inr (6, [.ref hr, .int ((nI (n % 200)) + 1), .int (nI (min n 200)), .int (nI n), .int fl, .int ar])), (hr, .inl (ca 0, 200, .inl (upd f (n % 200) (10 * a + k))))] H := hP
    have hD : va_D A [(ht, .inr (6, [.ref hr, .int ((nI (n % 200)) + 1), .int (nI (min n 200)), .int (nI n), .int fl, .int ar])), (hr, .inl (ca 0, 200, .inl (upd f (n % 200) (10 * a + k))))] := hD
    refine lv_aload_n hx hb dX6_begin_42 rfl (lv_at hl 0 rfl) ?_
    refine va_get (D := D) (C := RX6) (T := TX6) (N := 6) hx hb (uc_6 hk.1 _) (fun _ h9 => h9) hown hK hP 0 rfl rfl 2 (by decide) (fl_X6_19 hk.1 _) (fun _ h9 => h9) rfl dX6_begin_43 ?_
    refine lv_aload_n hx hb dX6_begin_46 rfl (lv_at hl 0 rfl) ?_
    refine va_get (D := D) (C := RX6) (T := TX6) (N := 6) hx hb (uc_6 hk.1 _) (fun _ h9 => h9) hown hK hP 0 rfl rfl 0 (by decide) (fl_X6_9 hk.1 _) (fun _ h9 => h9) rfl dX6_begin_47 ?_
    refine va_alen hx hb hK hP 1 0 rfl rfl (v := 200) rfl dX6_begin_50 ?_
    refine lv_icmp_ge (tgt := 64) hx hb dX6_begin_51 (by decide) (fun c_3 => ?_) (fun c_3 => ?_)
    · have e8 : nI (min (n + 1) 200) = nI (min n 200) := by
        have h9 : 200 ≤ min n 200 := (le_200 (by omega)).mp c_3
        have h8 : min (n + 1) 200 = min n 200 := by omega
        rw [h8]
      refine lv_aload_n hx hb dX6_begin_64 rfl (lv_at hl 0 rfl) ?_
      refine lv_dup hx hb dX6_begin_65 rfl ?_
      refine va_get (D := D) (C := RX6) (T := TX6) (N := 6) hx hb (uc_6 hk.1 _) (fun _ h9 => h9) hown hK hP 0 rfl rfl 3 (by decide) (fl_X6_22 hk.1 _) (fun _ h9 => h9) rfl dX6_begin_66 ?_
      refine lv_iconst (v := 1) hx hb dX6_begin_69 (by decide) ?_
      refine lv_iadd hx hb dX6_begin_70 ?_
      refine va_put (D := D) (v := .int ((nI n) + 1)) (ty := .int) (C := RX6) (T := TX6) (N := 6) hx hb (uc_6 hk.1 _) (fun _ h9 => h9) tyX6 tyX6_ok nmX6 hown hK hP hD hS 0 rfl rfl 3 (by decide) (fl_X6_22 hk.1 _) (fun _ h9 => h9) rfl (by decide +kernel) rfl rfl (Nat.le_of_ble_eq_true rfl) dX6_begin_71 (fun H locs hP hD hS => ?_)
      have hP : va_P D cls [(ht, .inr (6, [.ref hr, .int ((nI (n % 200)) + 1), .int (nI (min n 200)), .int ((nI n) + 1), .int fl, .int ar])), (hr, .inl (ca 0, 200, .inl (upd f (n % 200) (10 * a + k))))] H := hP
      have hD : va_D A [(ht, .inr (6, [.ref hr, .int ((nI (n % 200)) + 1), .int (nI (min n 200)), .int ((nI n) + 1), .int fl, .int ar])), (hr, .inl (ca 0, 200, .inl (upd f (n % 200) (10 * a + k))))] := hD
      have e5 : va_P D cls (wt ca ht hr (tb a k (n, f, fl, ar))) H := by
        have e6 : nI (n % 200) + 1 = nI (nx (n + 1)) := by rw [nx_succ, nI_succ]
        have e7 : nI n + 1 = nI (n + 1) := nI_1 n
        show va_P D cls [(ht, .inr (6, [.ref hr, .int (nI (nx (n + 1))), .int (nI (min (n + 1) 200)), .int (nI (n + 1)), .int fl, .int ar])), (hr, .inl (ca 0, 200, .inl (upd f (n % 200) (10 * a + k))))] H
        rw [← e6, ← e7, e8]; exact hP
      exact rv C hrt hlocks e5 hS dX6_begin_74
    · have e8 : nI (min (n + 1) 200) = nI (min n 200) + 1 := by
        have h9 : ¬ 200 ≤ min n 200 := fun h8 => c_3 ((le_200 (by omega)).mpr h8)
        have h8 : min (n + 1) 200 = min n 200 + 1 := by omega
        rw [h8, nI_succ]
      refine lv_aload_n hx hb dX6_begin_54 rfl (lv_at hl 0 rfl) ?_
      refine lv_dup hx hb dX6_begin_55 rfl ?_
      refine va_get (D := D) (C := RX6) (T := TX6) (N := 6) hx hb (uc_6 hk.1 _) (fun _ h9 => h9) hown hK hP 0 rfl rfl 2 (by decide) (fl_X6_19 hk.1 _) (fun _ h9 => h9) rfl dX6_begin_56 ?_
      refine lv_iconst (v := 1) hx hb dX6_begin_59 (by decide) ?_
      refine lv_iadd hx hb dX6_begin_60 ?_
      refine va_put (D := D) (v := .int ((nI (min n 200)) + 1)) (ty := .int) (C := RX6) (T := TX6) (N := 6) hx hb (uc_6 hk.1 _) (fun _ h9 => h9) tyX6 tyX6_ok nmX6 hown hK hP hD hS 0 rfl rfl 2 (by decide) (fl_X6_19 hk.1 _) (fun _ h9 => h9) rfl (by decide +kernel) rfl rfl (Nat.le_of_ble_eq_true rfl) dX6_begin_61 (fun H locs hP hD hS => ?_)
      have hP : va_P D cls [(ht, .inr (6, [.ref hr, .int ((nI (n % 200)) + 1), .int ((nI (min n 200)) + 1), .int (nI n), .int fl, .int ar])), (hr, .inl (ca 0, 200, .inl (upd f (n % 200) (10 * a + k))))] H := hP
      have hD : va_D A [(ht, .inr (6, [.ref hr, .int ((nI (n % 200)) + 1), .int ((nI (min n 200)) + 1), .int (nI n), .int fl, .int ar])), (hr, .inl (ca 0, 200, .inl (upd f (n % 200) (10 * a + k))))] := hD
      refine lv_aload_n hx hb dX6_begin_64 rfl (lv_at hl 0 rfl) ?_
      refine lv_dup hx hb dX6_begin_65 rfl ?_
      refine va_get (D := D) (C := RX6) (T := TX6) (N := 6) hx hb (uc_6 hk.1 _) (fun _ h9 => h9) hown hK hP 0 rfl rfl 3 (by decide) (fl_X6_22 hk.1 _) (fun _ h9 => h9) rfl dX6_begin_66 ?_
      refine lv_iconst (v := 1) hx hb dX6_begin_69 (by decide) ?_
      refine lv_iadd hx hb dX6_begin_70 ?_
      refine va_put (D := D) (v := .int ((nI n) + 1)) (ty := .int) (C := RX6) (T := TX6) (N := 6) hx hb (uc_6 hk.1 _) (fun _ h9 => h9) tyX6 tyX6_ok nmX6 hown hK hP hD hS 0 rfl rfl 3 (by decide) (fl_X6_22 hk.1 _) (fun _ h9 => h9) rfl (by decide +kernel) rfl rfl (Nat.le_of_ble_eq_true rfl) dX6_begin_71 (fun H locs hP hD hS => ?_)
      have hP : va_P D cls [(ht, .inr (6, [.ref hr, .int ((nI (n % 200)) + 1), .int ((nI (min n 200)) + 1), .int ((nI n) + 1), .int fl, .int ar])), (hr, .inl (ca 0, 200, .inl (upd f (n % 200) (10 * a + k))))] H := hP
      have hD : va_D A [(ht, .inr (6, [.ref hr, .int ((nI (n % 200)) + 1), .int ((nI (min n 200)) + 1), .int ((nI n) + 1), .int fl, .int ar])), (hr, .inl (ca 0, 200, .inl (upd f (n % 200) (10 * a + k))))] := hD
      have e5 : va_P D cls (wt ca ht hr (tb a k (n, f, fl, ar))) H := by
        have e6 : nI (n % 200) + 1 = nI (nx (n + 1)) := by rw [nx_succ, nI_succ]
        have e7 : nI n + 1 = nI (n + 1) := nI_1 n
        show va_P D cls [(ht, .inr (6, [.ref hr, .int (nI (nx (n + 1))), .int (nI (min (n + 1) 200)), .int (nI (n + 1)), .int fl, .int ar])), (hr, .inl (ca 0, 200, .inl (upd f (n % 200) (10 * a + k))))] H
        rw [← e6, ← e7, e8]; exact hP
      exact rv C hrt hlocks e5 hS dX6_begin_74
end
section
/-! calls that go to an inherited method, by the name of another, or above (a named one, whose maker is higher up): returning or throwing -/
section XG
variable {D : va_G} {ca : Nat → ClassId} {sa : Nat → Nat} {lo : Nat} {p : Program} {l : Launch} {e : Env} {R : Room} {s : State} {m : MethodId} {args : Array Value} {below : List Frame} {meth : Method} {c : Code} {cc : ByteArray} {nL : Nat} {own : String} {A : Nat → Prop} {H : Heap} {locs : List Loc} {cells slots : Nat} {Q : State → Prop} {ls : Array Slot} {pc : Nat} {rest : List Value}
theorem x_go {y : MethodName} {mc ms : Nat} {Pc : Array Value → State → Prop} {Qc : Array Value → State → Outcome → State → Prop} {XC : String → State → State → Prop} {free : Addr → Prop} {T : State} {g : JFrame} {a : Array Value} {vm₁ : Vm} {mk : MethodId} {ig : Instr} (hK : vx_Back l R p e below s args y 3 8 (PreOf R mc ms Pc) (PostOf Qc mc ms free) (vx_Post XC mc ms free))
    (hT : T.heap = H) (X₁ : Stand p l e R s m args below meth c (T.setVm vm₁) locs cells slots) (hnamed : s.methodNamed? y = some mk) (hg : g.method = m) (hsize : g.locals.size = c.maxLocals) (hdg : decode c.code g.pc = .ok (ig, 3)) (hW : 2 * g.monitorRoom + (rest.map fun v => v.category).sum ≤ 8)
    (hPc : ∀ U : State, U.heap = H → s.WarmedH U.vm → Pc a U) (hf : cells + mc ≤ R.cells ∧ slots + ms ≤ R.slots)
    (st : ∀ target, Steps p.tables e below (doInvoke e ((T.setVm vm₁).setTop { g with stack := rest }) [] mk a).1 target → Steps p.tables e below (T.setTop g) target) :
    (∃ (v : Option Value) (st₀ t T' : State) (L : List Loc), st₀.heap = H ∧ Stand p l e R s m args below meth c T' (locs ++ L) (cells + mc) (slots + ms) ∧ (∀ q ∈ L, free q.base) ∧ T'.heap = t.heap ∧ T'.vm = t.vm ∧ Qc a st₀ (.returned v) t ∧
      Goes p e below T g T' { g with pc := g.pc + 3, stack := v.toList ++ rest }) ∨
    (∃ (q : Addr) (st₀ t T' : State) (L : List Loc) (E : String) (ce : Cell), st₀.heap = H ∧ Stand p l e R s m args below meth c T' (locs ++ L) (cells + mc) (slots + ms) ∧ (∀ z ∈ L, free z.base) ∧ T'.heap = t.heap ∧ T'.vm = t.vm ∧ XC E st₀ t ∧ t.heap[q]? = some ce ∧ ce.vm = .none ∧ s.vm.findClass E = some ce.cls ∧
      Steps p.tables e below (T.setTop g) ((T'.setTop { g with stack := rest }).pushFrame (.throwing q))) := by
  rcases hK m meth c ⟨T.setVm vm₁, locs, cells, slots⟩ { g with stack := rest } ig mk a X₁ hg hsize hdg hW (X₁.named hnamed) ⟨hf.1, hf.2, hPc (T.setVm vm₁) hT X₁.warmed⟩ with ⟨v, ⟨U', l2, c2, s2⟩, X', ⟨g', mk', t, L, e1, e2, hq, h1, hL, h2, h3⟩, hs⟩ | ⟨q, ⟨U', l2, c2, s2⟩, X', ⟨g', mk', t, L, E, ce, e1, e2, hq, hce, hcv, hcl, h1, hL, h2, h3⟩, hs⟩
  · dsimp only [Pt.U, Pt.locs, Pt.cells, Pt.slots] at X' e1 e2 h1 h2 h3 hs
    subst h1; subst h2; subst h3
    exact Or.inl ⟨v, (T.setVm vm₁).calling g' mk' a, t, U', L, hT, X', hL, e1, e2, hq, fun target h => st _ (hs.trans h)⟩
  · dsimp only [Pt.U, Pt.locs, Pt.cells, Pt.slots] at X' e1 e2 h1 h2 h3 hs hcl
    subst h1; subst h2; subst h3
    exact Or.inr ⟨q, (T.setVm vm₁).calling g' mk' a, t, U', L, E, ce, hT, X', hL, e1, e2, hq, hce, hcv, vx_cls X₁.warmed hcl, st _ hs⟩
theorem x_back {y : MethodName} {bytes : ByteArray} {maxL mc ms sz : Nat} {ret : Option FieldType} {rm : Room} {av : List Value} {wc : va_W} {Qc : Array Value → State → Outcome → State → Prop} {XC : String → State → State → Prop} {free : Addr → Prop} (hk : KK D ca sa s)
    (hM : vx_Met l y [.code y bytes maxL ret] rm (PX D ca sa lo sz av wc) Qc XC mc ms free) (hco : ∀ (U : State) (A9 : Array Value), kw U → (Cond.code y bytes maxL ret).before A9 U = true) (hini : ∀ (U : State) (A9 : Array Value), kw U → (Cond.initialized y.cls).before A9 U = true)
    (hR : (rm.cells = mc ∧ rm.slots = ms) ∧ rm.frames + 1 ≤ R.frames ∧ 8 + (maxL + 11) + rm.locals ≤ R.locals) : vx_Back l R p e below s args y 3 8 (PreOf R mc ms (PX D ca sa lo sz av wc)) (PostOf Qc mc ms free) (vx_Post XC mc ms free) :=
  vx_back (bytes := bytes) (maxL := maxL) (ret := ret) hM PX.blind hR.1.1 hR.1.2 hR.2.1 hR.2.2 (fun w hw a' U hW => by cases List.mem_singleton.mp hw; exact hco U a' (hk.1.warm hW)) (List.mem_singleton.mpr rfl) (fun a' U hW => hini U a' (hk.1.warm hW))
/-- a virtual call that names x (made by owner), the thing's own class goes to y -/
theorem run_U {x y : MethodName} {owner : String} {bytes : ByteArray} {maxL mc ms n index ci q0 N : Nat} {ret : Option FieldType} {rm : Room} {As : List Value} {Qc : Array Value → State → Outcome → State → Prop} {XC : String → State → State → Prop} {free : Addr → Prop} {wc : va_W} {Cn : String} {T : u_T} {b : Addr} {fs : List Value} {st : List Value}
    (C : Cx D ca sa lo p s m c cc nL own A) (hM : vx_Met l y [.code y bytes maxL ret] rm (PX D ca sa lo H.size (.ref b :: As) wc) Qc XC mc ms free) (hco : ∀ (U : State) (A9 : Array Value), kw U → (Cond.code y bytes maxL ret).before A9 U = true) (hini : ∀ (U : State) (A9 : Array Value), kw U → (Cond.initialized y.cls).before A9 U = true)
    (hli : (Cond.methodLink own index x).before args s = true) (hsm : (Cond.sameMethod x.cls owner x.name x.desc).before args s = true) (hdc : va_Decl s ⟨owner, x.name, x.desc⟩) (him : (Cond.instanceMethod y).before args s = true) (hse : (Cond.selects Cn x y).before args s = true)
    (hd : owner ≠ "java/lang/invoke/MethodHandle" ∧ owner ≠ "java/lang/invoke/VarHandle" ∧ (parseMethodDescriptor x.desc).map (fun d => d.parameters.length) = some n) (hR : (rm.cells = mc ∧ rm.slots = ms) ∧ rm.frames + 1 ≤ R.frames ∧ 8 + (maxL + 11) + rm.locals ≤ R.locals)
    (hP : va_P D cls wc H) (hD : va_D A wc) (hS : va_S A s.heap H locs) (hrc : wc[q0]? = some (b, .inr (ci, fs))) (hci : cls[ci]? = some (Cn, T, N))
    (hn : As.length = n) (hsize : ls.size = nL) (hstack : st = As.reverse ++ .ref b :: rest) (hW : (rest.map fun v => v.category).sum ≤ 8) (hdg : decode cc pc = .ok (.invokevirtual index, 3)) (hf : cells + mc ≤ R.cells ∧ slots + ms ≤ R.slots) :
    vx_Run p l e R s m args below meth c H locs cells slots mc ms (F0 m pc ls st) rest (Qc (Value.ref b :: As).toArray) XC free := by
  obtain ⟨hx, hb, hml, hown, hk, hz⟩ := id C
  have hK : vx_Back l R p e below s args y 3 8 (PreOf R mc ms (PX D ca sa lo H.size (.ref b :: As) wc)) (PostOf Qc mc ms free) (vx_Post XC mc ms free) := x_back hk hM hco hini hR
  obtain ⟨cellB, hcB, hoB, hclB⟩ := va_recv hk.2.1 hP hci hrc
  intro T9 hT X
  obtain ⟨r0, r, hn0, hrm, hstR, hsigR⟩ := hdc
  obtain ⟨cn, ck, r1, hcn, hck, hni, hfd, hn1⟩ := Cond.sameMethod_found hsm
  cases hn0.symm.trans hn1
  obtain ⟨mk, methM, hnamed, hmethM, -, habM⟩ := Cond.instanceMethod_spec him
  obtain ⟨c2, r2, m2, q1, q2, q3, q4, kP, hkP, hkPi⟩ := Cond.selects_spec hse
  cases hclB.symm.trans q1
  cases hfd.symm.trans q2
  cases hnamed.symm.trans q3
  have hselP : selectMethod e.platform s.vm cellB.cls r0 = .method mk := by rw [Launch.admits_selectMethod X.admits]; exact q4
  have hlen : As.length = r.sig.parameters.length := by
    have h2 := hd.2.2
    rw [hsigR] at h2
    exact hn.trans (Option.some.inj h2).symm
  obtain ⟨vm₁, X₁, hstep₁⟩ := X.invokevirtualUp hx hown hli hsm ⟨hd.1, hd.2.1⟩ hn0 hrm hstR (a := b) (cell := cellB) (by rw [hT]; exact hcB)
    (fun z h => by rw [h] at hoB; cases hoB) hselP hmethM habM hkP hkPi (g := F0 m pc ls st) rfl (argsL := As) (rest := rest) hlen hstack (by rw [hb]; exact hdg)
  exact x_go (g := F0 m pc ls st) hK hT X₁ hnamed rfl (hsize.trans hml.symm) (by rw [hb]; exact hdg) (lv_room hW) (fun U hU hW => PX.of C hP hD hS hU hW) hf (fun target h => hstep₁ _ (fun acts => by rw [doInvoke_state]; exact h))
/-- the rule of the kind below: x is named, owner made it -/
theorem run_SU {x : MethodName} {owner : String} {bytes : ByteArray} {maxL mc ms n index ci q0 N : Nat} {ret : Option FieldType} {rm : Room} {As : List Value} {Qc : Array Value → State → Outcome → State → Prop} {XC : String → State → State → Prop} {free : Addr → Prop} {wc : va_W} {Cn : String} {T : u_T} {b : Addr} {fs : List Value} {st : List Value}
    (C : Cx D ca sa lo p s m c cc nL own A) (hM : vx_Met l ⟨owner, x.name, x.desc⟩ [.code ⟨owner, x.name, x.desc⟩ bytes maxL ret] rm (PX D ca sa lo H.size (.ref b :: As) wc) Qc XC mc ms free) (hco : ∀ (U : State) (A9 : Array Value), kw U → (Cond.code ⟨owner, x.name, x.desc⟩ bytes maxL ret).before A9 U = true) (hini : ∀ (U : State) (A9 : Array Value), kw U → (Cond.initialized owner).before A9 U = true)
    (hli : (Cond.methodLink own index x).before args s = true) (hsm : (Cond.sameMethod x.cls owner x.name x.desc).before args s = true) (hsu : (Cond.superclass own x.cls).before args s = true) (hup : ∀ a b : ClassId, s.vm.findClass x.cls = some a → s.vm.findClass owner = some b → s.vm.isSubclass a b = true) (him : (Cond.instanceMethod ⟨owner, x.name, x.desc⟩).before args s = true)
    (hd : x.name ≠ "<init>" ∧ (parseMethodDescriptor x.desc).map (fun d => d.parameters.length) = some n) (hR : (rm.cells = mc ∧ rm.slots = ms) ∧ rm.frames + 1 ≤ R.frames ∧ 8 + (maxL + 11) + rm.locals ≤ R.locals)
    (hP : va_P D cls wc H) (hD : va_D A wc) (hS : va_S A s.heap H locs) (hrc : wc[q0]? = some (b, .inr (ci, fs))) (hci : cls[ci]? = some (Cn, T, N))
    (hn : As.length = n) (hsize : ls.size = nL) (hstack : st = As.reverse ++ .ref b :: rest) (hW : (rest.map fun v => v.category).sum ≤ 8) (hdg : decode cc pc = .ok (.invokespecial index, 3)) (hf : cells + mc ≤ R.cells ∧ slots + ms ≤ R.slots) :
    vx_Run p l e R s m args below meth c H locs cells slots mc ms (F0 m pc ls st) rest (Qc (Value.ref b :: As).toArray) XC free := by
  obtain ⟨hx, hb, hml, hown, hk, hz⟩ := id C
  have hK : vx_Back l R p e below s args ⟨owner, x.name, x.desc⟩ 3 8 (PreOf R mc ms (PX D ca sa lo H.size (.ref b :: As) wc)) (PostOf Qc mc ms free) (vx_Post XC mc ms free) := x_back hk hM hco hini hR
  obtain ⟨cellB, hcB, hoB, hclB⟩ := va_recv hk.2.1 hP hci hrc
  intro T9 hT X
  obtain ⟨mk, methM, hnamed, hmethM, hstM, habM⟩ := Cond.instanceMethod_spec him
  obtain ⟨methM', cM, hmethM', -, -, -, -, -, -, hsigM⟩ := Cond.code_spec hnamed (hco s args hk.1)
  cases hmethM.symm.trans hmethM'
  obtain ⟨ps, dk, kp, hps, hdk, hkp, hsuper, -, -, hnid⟩ := Cond.superclass_spec hown hsu
  have hsub : s.vm.isSubclass ps mk.cls = true := hup ps mk.cls hps (findClass_of_methodNamed hnamed)
  have hlen : As.length = methM.sig.parameters.length := by
    have h2 := hd.2
    have h3 : parseMethodDescriptor x.desc = some methM.sig := hsigM
    rw [h3] at h2
    exact hn.trans (Option.some.inj h2).symm
  obtain ⟨k9, h9, -⟩ := Vm.findClass_spec hclB
  obtain ⟨vm₁, X₁, hstep₁⟩ := X.invokespecialUp hx hown hli hsm hnamed hmethM hstM habM hd.1 hdk hnid hps hsuper hsub (a := b) (cell := cellB) (by rw [hT]; exact hcB)
    (fun z h => by rw [h] at hoB; cases hoB) h9 (g := F0 m pc ls st) rfl (argsL := As) (rest := rest) hlen hstack (by rw [hb]; exact hdg)
  exact x_go (g := F0 m pc ls st) hK hT X₁ hnamed rfl (hsize.trans hml.symm) (by rw [hb]; exact hdg) (lv_room hW) (fun U hU hW => PX.of C hP hD hS hU hW) hf hstep₁
/-- one is above itself; above, where the one below it names it -/
theorem up_self {C : String} {s : State} : ∀ a b : ClassId, s.vm.findClass C = some a → s.vm.findClass C = some b → s.vm.isSubclass a b = true := fun a b h1 h2 => by
  cases h1.symm.trans h2
  simp [Vm.isSubclass, Vm.isSubclassAux]
/-- a method that returns always is one that returns or throws -/
def XF (A : Nat → Prop) : String → State → State → Prop := vx_X (S := Unit) (fun _ => False) (fun _ _ _ => True) A
theorem x_of {y : MethodName} {ws : List Cond} {rm : Room} {Pc : Array Value → State → Prop} {Qc : Array Value → State → Outcome → State → Prop} {mc ms : Nat} {free : Addr → Prop} {A9 : Nat → Prop} (hM : Met l y ws rm Pc Qc mc ms free) : vx_Met l y ws rm Pc Qc (XF A9) mc ms free := by
  intro p e ha hc hk s m args below hf happ hP hK
  obtain ⟨n, o, h1, h2, h3, h4, L, h5, h6⟩ := hM p e ha hc hk s m args below hf happ hP hK
  exact ⟨n, o, h1, h2, h3, Or.inl ⟨h4, L, h5, h6⟩⟩
theorem va_D.tl {x0 : Nat × va_E} {wc : va_W} (h : va_D A (x0 :: wc)) : va_D A wc := ⟨fun i j a b hi hj hab => by
  have := h.1 (i + 1) (j + 1) a b hi hj hab
  omega, fun k q hk => h.2 (k + 1) q hk⟩
theorem va_P.tl {x0 : Nat × va_E} {wc : va_W} (h : va_P D cls (x0 :: wc) H) : va_P D cls wc H := fun k q hk => h (k + 1) q hk
/-- one cell beside what a call had: it stays -/
theorem jn1 {x0 : Nat × va_E} {wc w1 : va_W} {H1 : Heap} (hP : va_P D cls (x0 :: wc) H) (hD : va_D A (x0 :: wc)) (hk1 : ∀ q : Nat, q < H.size → ¬ va_A wc H.size q → H1[q]? = H[q]?) (hB : va_P D cls w1 H1) : va_P D cls (x0 :: w1) H1 := by
  have h0 := hP 0 x0 rfl
  have hlt := h0.lt
  intro k q hk
  cases k with
  | zero =>
    cases (Option.some.inj hk : x0 = q)
    refine h0.kept (hk1 x0.1 hlt ?_)
    rintro (⟨j, e9, hj⟩ | h)
    · have := hD.1 0 (j + 1) x0 (x0.1, e9) rfl hj rfl
      omega
    · omega
  | succ k => exact hB k q hk
/-- Trace.begin, called from a rule of a detector -/
theorem cb_begin {x0 : Nat × va_E} {ht hr index : Nat} {t : Tr} {a k : Int32} (C : Cx D ca sa lo p s m c cc nL own A) (hli : (Cond.methodLink own index yX6_begin).before args s = true) (hP : va_P D cls (x0 :: wt ca ht hr t) H) (hD : va_D A (x0 :: wt ca ht hr t)) (hS : va_S A s.heap H locs)
    (hsize : ls.size = nL) (hR : 1 ≤ R.frames ∧ 22 ≤ R.locals) (hW : (rest.map fun v => v.category).sum ≤ 8) (hdg : decode cc pc = .ok (.invokevirtual index, 3)) (hf : cells ≤ R.cells ∧ slots ≤ R.slots)
    (kk : ∀ (H1 : Heap) (locs1 : List Loc), va_P D cls (x0 :: wt ca ht hr (tb a k t)) H1 → va_D A (x0 :: wt ca ht hr (tb a k t)) → va_S A s.heap H1 locs1 → W p l e R s m args below meth c H1 locs1 cells slots Q (F0 m (pc + 3) ls rest)) :
    W p l e R s m args below meth c H locs cells slots Q (F0 m pc ls (.int k :: .int a :: .ref ht :: rest)) := by
  have hk := C.2.2.2.2.1
  have hPt := hP.tl
  have hDt := hD.tl
  refine va_callv (run_V (Cn := RX6) (T := TX6) (N := 6) (q0 := 0) (ci := 6) (n := 2) (As := [.int a, .int k]) (rest := rest) C (m_begin l D ca sa lo H.size ht hr a k t) (fun U A9 h => co_X6_begin h A9) (in_X6 hk.1 _) hli (im_X6_begin hk.1 _) (se_X6_X6_begin hk.1 _) (by decide +kernel) ⟨⟨rfl, rfl⟩, hR.1, hR.2⟩ hPt hDt hS rfl rfl rfl hsize rfl hW hdg hf) hS (fun q _ h => fr_of C hDt hS q h) (fr_of C hDt hS) (fun u t1 H1 locs1 ht1 hvm _ hB hz1 hk1 hS1 => ?_)
  subst ht1
  exact kk _ _ (jn1 hP hD hk1 hB) (hD.to rfl) hS1
end XG
end
section
theorem up_cast {C S S2 : String} {args : Array Value} {s : State} (hc : va_Nw (.castable C RX3) s) (h1 : (Cond.superclass C S).before args s = true) (h2 : (Cond.superclass RX3 S2).before args s = true) : ∀ a b : ClassId, s.vm.findClass C = some a → s.vm.findClass RX3 = some b → s.vm.isSubclass a b = true := by
  intro a b ha hb
  obtain ⟨p1, k1, kp1, -, hk1, -, -, ho1, -, hi1⟩ := Cond.superclass_spec ha h1
  obtain ⟨p2, k2, kp2, -, hk2, -, -, ho2, -, hi2⟩ := Cond.superclass_spec hb h2
  obtain ⟨c0, t0, f1, f2, f3⟩ := Cond.castable_spec (va_Nw.use (A := #[]) rfl hc)
  cases ha.symm.trans f1
  cases hb.symm.trans f2
  exact isSubclass_of_assignable hk1 hk2 ho1 ho2 hi2 f3
section UP
variable {D : va_G} {ca : Nat → ClassId} {sa : Nat → Nat} {s : State}
theorem up_84 (hk : KK D ca sa s) : ∀ a b : ClassId, s.vm.findClass RX8 = some a → s.vm.findClass RX3 = some b → s.vm.isSubclass a b = true := up_cast (args := #[]) (hk.2.2.1 (RX8, RX3) (by decide)) (su_X8 hk.1 _) (su_X3 hk.1 _)
theorem up_4 (hk : KK D ca sa s) : ∀ a b : ClassId, s.vm.findClass RX4 = some a → s.vm.findClass RX3 = some b → s.vm.isSubclass a b = true := up_cast (args := #[]) (hk.2.2.1 (RX4, RX3) (by decide)) (su_X4 hk.1 _) (su_X3 hk.1 _)
theorem up_5 (hk : KK D ca sa s) : ∀ a b : ClassId, s.vm.findClass RX5 = some a → s.vm.findClass RX3 = some b → s.vm.isSubclass a b = true := up_cast (args := #[]) (hk.2.2.1 (RX5, RX3) (by decide)) (su_X5 hk.1 _) (su_X3 hk.1 _)
end UP
/-- a place of cls that is a detector's -/
def isD (ci : Nat) (Cn : String) : Prop := cls[ci]? = some (Cn, TX3, 9) ∧ ∀ (U : State) (A : Array Value), kw U → ∀ w ∈ u_ws Cn TX3 9, w.before A U = true
theorem isD_0 : isD 0 RX0 := ⟨rfl, fun _ A h => uc_0 h A⟩
theorem isD_1 : isD 1 RX1 := ⟨rfl, fun _ A h => uc_1 h A⟩
theorem isD_2 : isD 2 RX2 := ⟨rfl, fun _ A h => uc_2 h A⟩
theorem isD_3 : isD 3 RX3 := ⟨rfl, fun _ A h => uc_3 h A⟩
theorem isD_4 : isD 4 RX4 := ⟨rfl, fun _ A h => uc_4 h A⟩
theorem isD_5 : isD 5 RX5 := ⟨rfl, fun _ A h => uc_5 h A⟩
theorem isD_7 : isD 7 RX7 := ⟨rfl, fun _ A h => uc_7 h A⟩
theorem isD_8 : isD 8 RX8 := ⟨rfl, fun _ A h => uc_8 h A⟩
/-- which name a thrown thing's kind has -/
def en (n : Nat) (E : String) : Prop := (n = 1 ∧ E = "java/lang/IllegalStateException") ∨ (n = 2 ∧ E = "java/lang/ArithmeticException")
/-- the ends of WEIGH, of READ, over the world w of what comes out -/
def QW (D : va_G) (w : Dv → Tr → va_W) (r : Rs) (A : Nat → Prop) : Array Value → State → Outcome → State → Prop := va_Qi (S := Unit) (fun v _ => r.1 = 0 ∧ v = r.2.1) (fun _ t => va_P D cls (w r.2.2.1 r.2.2.2) t.heap) A
def XW (D : va_G) (w : Dv → Tr → va_W) (r : Rs) (A : Nat → Prop) : String → State → State → Prop := vx_X (S := Unit) (fun _ => True) (fun E _ t => en r.1 E ∧ va_P D cls (w r.2.2.1 r.2.2.2) t.heap) A
def QR (D : va_G) (w : Dv → Tr → va_W) (r : Rr) (A : Nat → Prop) : Array Value → State → Outcome → State → Prop := va_Qv (S := Unit) (fun _ => r.1 = 0) (fun _ t => va_P D cls (w r.2.1 r.2.2) t.heap) A
def XR (D : va_G) (w : Dv → Tr → va_W) (r : Rr) (A : Nat → Prop) : String → State → State → Prop := vx_X (S := Unit) (fun _ => True) (fun E _ t => en r.1 E ∧ va_P D cls (w r.2.1 r.2.2) t.heap) A
section RE
variable {D : va_G} {ca : Nat → ClassId} {sa : Nat → Nat} {lo : Nat} {p : Program} {l : Launch} {e : Env} {R : Room} {s : State} {m : MethodId} {args : Array Value} {below : List Frame} {meth : Method} {c : Code} {cc : ByteArray} {nL : Nat} {own : String} {A : Nat → Prop} {H : Heap} {locs : List Loc} {cells slots mc ms : Nat} {ls : Array Slot} {pc : Nat} {rest : List Value}
/-- the ends of a method that may throw: it returns; what was thrown goes on to the caller -/
theorem rw_ (C : Cx D ca sa lo p s m c cc nL own A) (hrt : meth.sig.returnType = some .int) (hlocks : meth.locks = false) {w : Dv → Tr → va_W} {r : Rs} {v : Int32} (h0 : r.1 = 0) (hv : v = r.2.1) (hP : va_P D cls (w r.2.2.1 r.2.2.2) H) (hS : va_S A s.heap H locs) (hdg : decode cc pc = .ok (.ireturn, 1)) (h1 : cells ≤ mc) (h2 : slots ≤ ms) : W p l e R s m args below meth c H locs cells slots (vx_MQ below (QW D w r A) (XW D w r A) args s mc ms A) (F0 m pc ls [.int v]) :=
  W.widen h1 h2 (vx_ret (W.iret C.1 C.2.1 hrt (fun t ht hW => ⟨⟨v, (), rfl, ⟨h0, hv⟩, by subst ht; exact hP⟩, hS.F ht⟩) hS.2.2 hdg hlocks))
theorem rr_ (C : Cx D ca sa lo p s m c cc nL own A) (hrt : meth.sig.returnType = none) (hlocks : meth.locks = false) {w : Dv → Tr → va_W} {r : Rr} (h0 : r.1 = 0) (hP : va_P D cls (w r.2.1 r.2.2) H) (hS : va_S A s.heap H locs) (hdg : decode cc pc = .ok (.return_, 1)) (h1 : cells ≤ mc) (h2 : slots ≤ ms) : W p l e R s m args below meth c H locs cells slots (vx_MQ below (QR D w r A) (XR D w r A) args s mc ms A) (F0 m pc ls []) :=
  W.widen h1 h2 (vx_ret (W.vret C.1 C.2.1 hrt (fun t ht hW => ⟨⟨(), rfl, h0, by subst ht; exact hP⟩, hS.F ht⟩) hS.2.2 hdg hlocks))
theorem ow_ {w : Dv → Tr → va_W} {r : Rs} {E : String} {ce : Cell} {q : Addr} {Qc : Array Value → State → Outcome → State → Prop} (hno : ∀ x ∈ c.exceptionTable.toList, False) (hlocks : meth.locks = false) (he : en r.1 E) (hP : va_P D cls (w r.2.2.1 r.2.2.2) H) (hS : va_S A s.heap H locs) (hcell : H[q]? = some ce) (hv : ce.vm = .none) (hcl : s.vm.findClass E = some ce.cls) (h1 : cells ≤ mc) (h2 : slots ≤ ms) : vx_W p l e R s m args below meth c H locs cells slots (vx_MQ below Qc (XW D w r A) args s mc ms A) (F0 m pc ls rest) q :=
  vx_out (fun x hx => (hno x hx).elim) hlocks hcell hv hcl (fun t ht _ => ⟨(), trivial, ⟨he, by subst ht; exact hP⟩, hS.F ht⟩) hS.2.2 h1 h2
theorem or_ {w : Dv → Tr → va_W} {r : Rr} {E : String} {ce : Cell} {q : Addr} {Qc : Array Value → State → Outcome → State → Prop} (hno : ∀ x ∈ c.exceptionTable.toList, False) (hlocks : meth.locks = false) (he : en r.1 E) (hP : va_P D cls (w r.2.1 r.2.2) H) (hS : va_S A s.heap H locs) (hcell : H[q]? = some ce) (hv : ce.vm = .none) (hcl : s.vm.findClass E = some ce.cls) (h1 : cells ≤ mc) (h2 : slots ≤ ms) : vx_W p l e R s m args below meth c H locs cells slots (vx_MQ below Qc (XR D w r A) args s mc ms A) (F0 m pc ls rest) q :=
  vx_out (fun x hx => (hno x hx).elim) hlocks hcell hv hcl (fun t ht _ => ⟨(), trivial, ⟨he, by subst ht; exact hP⟩, hS.F ht⟩) hS.2.2 h1 h2
end RE
end
section
/-! the forms of the contracts of a detector's methods: y with its code, ci the place of the thing's own kind in cls -/
section CF
variable (l : Launch) (D : va_G) (ca : Nat → ClassId) (sa : Nat → Nat) (lo : Nat)
def cW (y : MethodName) (b : ByteArray) (n : Nat) (rm : Room) (mc ms ci : Nat) (F : Int32 → Dv → Tr → Rs) : Prop := ∀ (sz h0 ht hr : Nat) (kd zn lm v : Int32) (d : Dv) (t : Tr), vx_Met l y [.code y b n (some .int)] rm (PX D ca sa lo sz [.ref h0, .int v] (wd ca h0 ht hr ci kd zn lm d t)) (QW D (wd ca h0 ht hr ci kd zn lm) (F v d t) (va_A (wd ca h0 ht hr ci kd zn lm d t) sz)) (XW D (wd ca h0 ht hr ci kd zn lm) (F v d t) (va_A (wd ca h0 ht hr ci kd zn lm d t) sz)) mc ms (va_A (wd ca h0 ht hr ci kd zn lm d t) sz)
def cR (y : MethodName) (b : ByteArray) (n : Nat) (rm : Room) (mc ms ci : Nat) (F : Int32 → Dv → Tr → Rr) : Prop := ∀ (sz h0 ht hr : Nat) (kd zn lm v : Int32) (d : Dv) (t : Tr), vx_Met l y [.code y b n none] rm (PX D ca sa lo sz [.ref h0, .int v] (wd ca h0 ht hr ci kd zn lm d t)) (QR D (wd ca h0 ht hr ci kd zn lm) (F v d t) (va_A (wd ca h0 ht hr ci kd zn lm d t) sz)) (XR D (wd ca h0 ht hr ci kd zn lm) (F v d t) (va_A (wd ca h0 ht hr ci kd zn lm d t) sz)) mc ms (va_A (wd ca h0 ht hr ci kd zn lm d t) sz)
def cO (y : MethodName) (b : ByteArray) (n : Nat) (rm : Room) (ci : Nat) (F : Int32 → Dv → Tr → Ro) : Prop := ∀ (sz h0 ht hr : Nat) (kd zn lm : Int32) (d : Dv) (t : Tr), Met l y [.code y b n (some .boolean)] rm (PX D ca sa lo sz [.ref h0] (wd ca h0 ht hr ci kd zn lm d t)) (QI D (bi (F lm d t).1) (wd ca h0 ht hr ci kd zn lm (F lm d t).2.1 (F lm d t).2.2) (va_A (wd ca h0 ht hr ci kd zn lm d t) sz)) 0 0 (va_A (wd ca h0 ht hr ci kd zn lm d t) sz)
def cC (y : MethodName) (b : ByteArray) (n : Nat) (rm : Room) (ci : Nat) (F : Dv → Tr → Dv × Tr) : Prop := ∀ (sz h0 ht hr : Nat) (kd zn lm : Int32) (d : Dv) (t : Tr), Met l y [.code y b n none] rm (PX D ca sa lo sz [.ref h0] (wd ca h0 ht hr ci kd zn lm d t)) (QV D (wd ca h0 ht hr ci kd zn lm (F d t).1 (F d t).2) (va_A (wd ca h0 ht hr ci kd zn lm d t) sz)) 0 0 (va_A (wd ca h0 ht hr ci kd zn lm d t) sz)
def cK (y : MethodName) (b : ByteArray) (n : Nat) (rm : Room) (ci : Nat) (F : Dv → Tr → Int32 × Tr) : Prop := ∀ (sz h0 ht hr : Nat) (kd zn lm : Int32) (d : Dv) (t : Tr), Met l y [.code y b n (some .int)] rm (PX D ca sa lo sz [.ref h0] (wd ca h0 ht hr ci kd zn lm d t)) (QI D (F d t).1 (wd ca h0 ht hr ci kd zn lm d (F d t).2) (va_A (wd ca h0 ht hr ci kd zn lm d t) sz)) 0 0 (va_A (wd ca h0 ht hr ci kd zn lm d t) sz)
def cV (y : MethodName) (b : ByteArray) (n : Nat) (rm : Room) (ci : Nat) (F : Int32 → Dv → Tr → Int32 × Dv × Tr) : Prop := ∀ (sz h0 ht hr : Nat) (kd zn lm : Int32) (d : Dv) (t : Tr), Met l y [.code y b n (some .int)] rm (PX D ca sa lo sz [.ref h0] (wd ca h0 ht hr ci kd zn lm d t)) (QI D (F lm d t).1 (wd ca h0 ht hr ci kd zn lm (F lm d t).2.1 (F lm d t).2.2) (va_A (wd ca h0 ht hr ci kd zn lm d t) sz)) 0 0 (va_A (wd ca h0 ht hr ci kd zn lm d t) sz)
end CF
section CS
variable {D : va_G} {ca : Nat → ClassId} {sa : Nat → Nat} {lo : Nat} {p : Program} {l : Launch} {e : Env} {R : Room} {s : State} {m : MethodId} {args : Array Value} {below : List Frame} {meth : Method} {c : Code} {cc : ByteArray} {nL : Nat} {own : String} {A : Nat → Prop} {H : Heap} {locs : List Loc} {cells slots : Nat} {Q : State → Prop} {ls : Array Slot} {pc : Nat} {rest : List Value}
variable {h0 ht hr ci : Nat} {Cn : String} {kd zn lm v : Int32} {d : Dv} {t : Tr} {b : ByteArray} {n mc ms index : Nat} {rm : Room} {x y : MethodName} {owner : String}
/-- what a call of a detector's method asks of words and room: by the rule of the kind below; by the thing's own kind -/
abbrev aS (s : State) (args : Array Value) (R : Room) (cells slots : Nat) (own : String) (index : Nat) (x : MethodName) (owner : String) (b : ByteArray) (n np : Nat) (ret : Option FieldType) (rm : Room) (mc ms : Nat) : Prop :=
  (∀ (U : State) (A9 : Array Value), kw U → (Cond.code ⟨owner, x.name, x.desc⟩ b n ret).before A9 U = true) ∧ (∀ (U : State) (A9 : Array Value), kw U → (Cond.initialized owner).before A9 U = true) ∧ (Cond.methodLink own index x).before args s = true ∧ (Cond.sameMethod x.cls owner x.name x.desc).before args s = true ∧ (Cond.superclass own x.cls).before args s = true ∧ (∀ a b : ClassId, s.vm.findClass x.cls = some a → s.vm.findClass owner = some b → s.vm.isSubclass a b = true) ∧ (Cond.instanceMethod ⟨owner, x.name, x.desc⟩).before args s = true ∧
  (x.name ≠ "<init>" ∧ (parseMethodDescriptor x.desc).map (fun d => d.parameters.length) = some np) ∧ ((rm.cells = mc ∧ rm.slots = ms) ∧ rm.frames + 1 ≤ R.frames ∧ 8 + (n + 11) + rm.locals ≤ R.locals) ∧ (cells + mc ≤ R.cells ∧ slots + ms ≤ R.slots)
abbrev aU (s : State) (args : Array Value) (R : Room) (cells slots : Nat) (own : String) (index : Nat) (x y : MethodName) (owner Cn : String) (b : ByteArray) (n np : Nat) (ret : Option FieldType) (rm : Room) (mc ms : Nat) : Prop :=
  (∀ (U : State) (A9 : Array Value), kw U → (Cond.code y b n ret).before A9 U = true) ∧ (∀ (U : State) (A9 : Array Value), kw U → (Cond.initialized y.cls).before A9 U = true) ∧ (Cond.methodLink own index x).before args s = true ∧ (Cond.sameMethod x.cls owner x.name x.desc).before args s = true ∧ va_Decl s ⟨owner, x.name, x.desc⟩ ∧ (Cond.instanceMethod y).before args s = true ∧ (Cond.selects Cn x y).before args s = true ∧
  (owner ≠ "java/lang/invoke/MethodHandle" ∧ owner ≠ "java/lang/invoke/VarHandle" ∧ (parseMethodDescriptor x.desc).map (fun d => d.parameters.length) = some np) ∧ ((rm.cells = mc ∧ rm.slots = ms) ∧ rm.frames + 1 ≤ R.frames ∧ 8 + (n + 11) + rm.locals ≤ R.locals) ∧ (cells + mc ≤ R.cells ∧ slots + ms ≤ R.slots)
theorem wd_map (d d' : Dv) (t t' : Tr) : (wd ca h0 ht hr ci kd zn lm d' t').map (·.1) = (wd ca h0 ht hr ci kd zn lm d t).map (·.1) := rfl
end CS
end
section
section KS
variable {D : va_G} {ca : Nat → ClassId} {sa : Nat → Nat} {lo : Nat} {p : Program} {l : Launch} {e : Env} {R : Room} {s : State} {m : MethodId} {args : Array Value} {below : List Frame} {meth : Method} {c : Code} {cc : ByteArray} {nL : Nat} {own : String} {A : Nat → Prop} {H : Heap} {locs : List Loc} {cells slots : Nat} {Q : State → Prop} {ls : Array Slot} {pc : Nat} {rest : List Value}
variable {h0 ht hr ci : Nat} {Cn : String} {kd zn lm v : Int32} {d : Dv} {t : Tr} {b : ByteArray} {n mc ms index : Nat} {rm : Room} {x y : MethodName} {owner : String}
theorem kWS {F : Int32 → Dv → Tr → Rs} (hd : isD ci Cn) (C : Cx D ca sa lo p s m c cc nL own A) (hM : cW l D ca sa lo ⟨owner, x.name, x.desc⟩ b n rm mc ms ci F) (hw : aS s args R cells slots own index x owner b n 1 (some .int) rm mc ms) (hP : va_P D cls (wd ca h0 ht hr ci kd zn lm d t) H) (hD : va_D A (wd ca h0 ht hr ci kd zn lm d t)) (hS : va_S A s.heap H locs) (hsize : ls.size = nL) (hW : (rest.map fun v => v.category).sum ≤ 8) (hdg : decode cc pc = .ok (.invokespecial index, 3))
    (kx : ∀ (E : String) (ce : Cell) (q9 : Addr) (H1 : Heap) (locs1 : List Loc), en (F v d t).1 E → va_P D cls (wd ca h0 ht hr ci kd zn lm (F v d t).2.2.1 (F v d t).2.2.2) H1 → va_D A (wd ca h0 ht hr ci kd zn lm (F v d t).2.2.1 (F v d t).2.2.2) → va_S A s.heap H1 locs1 → H1[q9]? = some ce → ce.vm = .none → s.vm.findClass E = some ce.cls → vx_W p l e R s m args below meth c H1 locs1 (cells + mc) (slots + ms) Q (F0 m pc ls rest) q9)
    (kk : (F v d t).1 = 0 → ∀ (H1 : Heap) (locs1 : List Loc), va_P D cls (wd ca h0 ht hr ci kd zn lm (F v d t).2.2.1 (F v d t).2.2.2) H1 → va_D A (wd ca h0 ht hr ci kd zn lm (F v d t).2.2.1 (F v d t).2.2.2) → va_S A s.heap H1 locs1 → W p l e R s m args below meth c H1 locs1 (cells + mc) (slots + ms) Q (F0 m (pc + 3) ls (.int (F v d t).2.1 :: rest))) : W p l e R s m args below meth c H locs cells slots Q (F0 m pc ls (.int v :: .ref h0 :: rest)) := by
  obtain ⟨w1, w2, w3, w4, w5, w6, w7, w8, w9, w10⟩ := hw
  have hf := fr_of C hD hS
  refine vx_calli (run_SU (x := x) (owner := owner) (Cn := Cn) (T := TX3) (N := 9) (q0 := 0) (ci := ci) (As := [.int v]) (rest := rest) C (hM H.size h0 ht hr kd zn lm v d t) w1 w2 w3 w4 w5 w6 w7 w8 w9 hP hD hS rfl hd.1 rfl hsize rfl hW hdg w10) hS (fun q _ h => hf q h) hf (fun q _ h => hf q h) ?_ ?_
  · intro E ce q9 u t1 H1 locs1 ht1 hvm hp hB hz1 hk1 hS1 h1 h2 h3
    subst ht1
    exact kx E ce q9 _ _ hB.1 hB.2 (hD.to (wd_map _ _ _ _)) hS1 h1 h2 h3
  · intro r9 u t1 H1 locs1 ht1 hvm hp hB hz1 hk1 hS1
    subst ht1
    obtain ⟨hp0, rfl⟩ := hp
    exact kk hp0 _ _ hB (hD.to (wd_map _ _ _ _)) hS1
theorem kWU {F : Int32 → Dv → Tr → Rs} (hd : isD ci Cn) (C : Cx D ca sa lo p s m c cc nL own A) (hM : cW l D ca sa lo y b n rm mc ms ci F) (hw : aU s args R cells slots own index x y owner Cn b n 1 (some .int) rm mc ms) (hP : va_P D cls (wd ca h0 ht hr ci kd zn lm d t) H) (hD : va_D A (wd ca h0 ht hr ci kd zn lm d t)) (hS : va_S A s.heap H locs) (hsize : ls.size = nL) (hW : (rest.map fun v => v.category).sum ≤ 8) (hdg : decode cc pc = .ok (.invokevirtual index, 3))
    (kx : ∀ (E : String) (ce : Cell) (q9 : Addr) (H1 : Heap) (locs1 : List Loc), en (F v d t).1 E → va_P D cls (wd ca h0 ht hr ci kd zn lm (F v d t).2.2.1 (F v d t).2.2.2) H1 → va_D A (wd ca h0 ht hr ci kd zn lm (F v d t).2.2.1 (F v d t).2.2.2) → va_S A s.heap H1 locs1 → H1[q9]? = some ce → ce.vm = .none → s.vm.findClass E = some ce.cls → vx_W p l e R s m args below meth c H1 locs1 (cells + mc) (slots + ms) Q (F0 m pc ls rest) q9)
    (kk : (F v d t).1 = 0 → ∀ (H1 : Heap) (locs1 : List Loc), va_P D cls (wd ca h0 ht hr ci kd zn lm (F v d t).2.2.1 (F v d t).2.2.2) H1 → va_D A (wd ca h0 ht hr ci kd zn lm (F v d t).2.2.1 (F v d t).2.2.2) → va_S A s.heap H1 locs1 → W p l e R s m args below meth c H1 locs1 (cells + mc) (slots + ms) Q (F0 m (pc + 3) ls (.int (F v d t).2.1 :: rest))) : W p l e R s m args below meth c H locs cells slots Q (F0 m pc ls (.int v :: .ref h0 :: rest)) := by
  obtain ⟨w1, w2, w3, w4, w5, w6, w7, w8, w9, w10⟩ := hw
  have hf := fr_of C hD hS
  refine vx_calli (run_U (x := x) (y := y) (owner := owner) (Cn := Cn) (T := TX3) (N := 9) (q0 := 0) (ci := ci) (As := [.int v]) (rest := rest) C (hM H.size h0 ht hr kd zn lm v d t) w1 w2 w3 w4 w5 w6 w7 w8 w9 hP hD hS rfl hd.1 rfl hsize rfl hW hdg w10) hS (fun q _ h => hf q h) hf (fun q _ h => hf q h) ?_ ?_
  · intro E ce q9 u t1 H1 locs1 ht1 hvm hp hB hz1 hk1 hS1 h1 h2 h3
    subst ht1
    exact kx E ce q9 _ _ hB.1 hB.2 (hD.to (wd_map _ _ _ _)) hS1 h1 h2 h3
  · intro r9 u t1 H1 locs1 ht1 hvm hp hB hz1 hk1 hS1
    subst ht1
    obtain ⟨hp0, rfl⟩ := hp
    exact kk hp0 _ _ hB (hD.to (wd_map _ _ _ _)) hS1
theorem kRS {F : Int32 → Dv → Tr → Rr} (hd : isD ci Cn) (C : Cx D ca sa lo p s m c cc nL own A) (hM : cR l D ca sa lo ⟨owner, x.name, x.desc⟩ b n rm mc ms ci F) (hw : aS s args R cells slots own index x owner b n 1 none rm mc ms) (hP : va_P D cls (wd ca h0 ht hr ci kd zn lm d t) H) (hD : va_D A (wd ca h0 ht hr ci kd zn lm d t)) (hS : va_S A s.heap H locs) (hsize : ls.size = nL) (hW : (rest.map fun v => v.category).sum ≤ 8) (hdg : decode cc pc = .ok (.invokespecial index, 3))
    (kx : ∀ (E : String) (ce : Cell) (q9 : Addr) (H1 : Heap) (locs1 : List Loc), en (F v d t).1 E → va_P D cls (wd ca h0 ht hr ci kd zn lm (F v d t).2.1 (F v d t).2.2) H1 → va_D A (wd ca h0 ht hr ci kd zn lm (F v d t).2.1 (F v d t).2.2) → va_S A s.heap H1 locs1 → H1[q9]? = some ce → ce.vm = .none → s.vm.findClass E = some ce.cls → vx_W p l e R s m args below meth c H1 locs1 (cells + mc) (slots + ms) Q (F0 m pc ls rest) q9)
    (kk : (F v d t).1 = 0 → ∀ (H1 : Heap) (locs1 : List Loc), va_P D cls (wd ca h0 ht hr ci kd zn lm (F v d t).2.1 (F v d t).2.2) H1 → va_D A (wd ca h0 ht hr ci kd zn lm (F v d t).2.1 (F v d t).2.2) → va_S A s.heap H1 locs1 → W p l e R s m args below meth c H1 locs1 (cells + mc) (slots + ms) Q (F0 m (pc + 3) ls (rest))) : W p l e R s m args below meth c H locs cells slots Q (F0 m pc ls (.int v :: .ref h0 :: rest)) := by
  obtain ⟨w1, w2, w3, w4, w5, w6, w7, w8, w9, w10⟩ := hw
  have hf := fr_of C hD hS
  refine vx_callv (run_SU (x := x) (owner := owner) (Cn := Cn) (T := TX3) (N := 9) (q0 := 0) (ci := ci) (As := [.int v]) (rest := rest) C (hM H.size h0 ht hr kd zn lm v d t) w1 w2 w3 w4 w5 w6 w7 w8 w9 hP hD hS rfl hd.1 rfl hsize rfl hW hdg w10) hS (fun q _ h => hf q h) hf (fun q _ h => hf q h) ?_ ?_
  · intro E ce q9 u t1 H1 locs1 ht1 hvm hp hB hz1 hk1 hS1 h1 h2 h3
    subst ht1
    exact kx E ce q9 _ _ hB.1 hB.2 (hD.to (wd_map _ _ _ _)) hS1 h1 h2 h3
  · intro u t1 H1 locs1 ht1 hvm hp hB hz1 hk1 hS1
    subst ht1
    exact kk hp _ _ hB (hD.to (wd_map _ _ _ _)) hS1
theorem kRU {F : Int32 → Dv → Tr → Rr} (hd : isD ci Cn) (C : Cx D ca sa lo p s m c cc nL own A) (hM : cR l D ca sa lo y b n rm mc ms ci F) (hw : aU s args R cells slots own index x y owner Cn b n 1 none rm mc ms) (hP : va_P D cls (wd ca h0 ht hr ci kd zn lm d t) H) (hD : va_D A (wd ca h0 ht hr ci kd zn lm d t)) (hS : va_S A s.heap H locs) (hsize : ls.size = nL) (hW : (rest.map fun v => v.category).sum ≤ 8) (hdg : decode cc pc = .ok (.invokevirtual index, 3))
    (kx : ∀ (E : String) (ce : Cell) (q9 : Addr) (H1 : Heap) (locs1 : List Loc), en (F v d t).1 E → va_P D cls (wd ca h0 ht hr ci kd zn lm (F v d t).2.1 (F v d t).2.2) H1 → va_D A (wd ca h0 ht hr ci kd zn lm (F v d t).2.1 (F v d t).2.2) → va_S A s.heap H1 locs1 → H1[q9]? = some ce → ce.vm = .none → s.vm.findClass E = some ce.cls → vx_W p l e R s m args below meth c H1 locs1 (cells + mc) (slots + ms) Q (F0 m pc ls rest) q9)
    (kk : (F v d t).1 = 0 → ∀ (H1 : Heap) (locs1 : List Loc), va_P D cls (wd ca h0 ht hr ci kd zn lm (F v d t).2.1 (F v d t).2.2) H1 → va_D A (wd ca h0 ht hr ci kd zn lm (F v d t).2.1 (F v d t).2.2) → va_S A s.heap H1 locs1 → W p l e R s m args below meth c H1 locs1 (cells + mc) (slots + ms) Q (F0 m (pc + 3) ls (rest))) : W p l e R s m args below meth c H locs cells slots Q (F0 m pc ls (.int v :: .ref h0 :: rest)) := by
  obtain ⟨w1, w2, w3, w4, w5, w6, w7, w8, w9, w10⟩ := hw
  have hf := fr_of C hD hS
  refine vx_callv (run_U (x := x) (y := y) (owner := owner) (Cn := Cn) (T := TX3) (N := 9) (q0 := 0) (ci := ci) (As := [.int v]) (rest := rest) C (hM H.size h0 ht hr kd zn lm v d t) w1 w2 w3 w4 w5 w6 w7 w8 w9 hP hD hS rfl hd.1 rfl hsize rfl hW hdg w10) hS (fun q _ h => hf q h) hf (fun q _ h => hf q h) ?_ ?_
  · intro E ce q9 u t1 H1 locs1 ht1 hvm hp hB hz1 hk1 hS1 h1 h2 h3
    subst ht1
    exact kx E ce q9 _ _ hB.1 hB.2 (hD.to (wd_map _ _ _ _)) hS1 h1 h2 h3
  · intro u t1 H1 locs1 ht1 hvm hp hB hz1 hk1 hS1
    subst ht1
    exact kk hp _ _ hB (hD.to (wd_map _ _ _ _)) hS1
theorem kOS {F : Int32 → Dv → Tr → Ro} (hd : isD ci Cn) (C : Cx D ca sa lo p s m c cc nL own A) (hM : cO l D ca sa lo ⟨owner, x.name, x.desc⟩ b n rm ci F) (hw : aS s args R cells slots own index x owner b n 0 (some .boolean) rm 0 0) (hP : va_P D cls (wd ca h0 ht hr ci kd zn lm d t) H) (hD : va_D A (wd ca h0 ht hr ci kd zn lm d t)) (hS : va_S A s.heap H locs) (hsize : ls.size = nL) (hW : (rest.map fun v => v.category).sum ≤ 8) (hdg : decode cc pc = .ok (.invokespecial index, 3))
    
    (kk : ∀ (H1 : Heap) (locs1 : List Loc), va_P D cls (wd ca h0 ht hr ci kd zn lm (F lm d t).2.1 (F lm d t).2.2) H1 → va_D A (wd ca h0 ht hr ci kd zn lm (F lm d t).2.1 (F lm d t).2.2) → va_S A s.heap H1 locs1 → W p l e R s m args below meth c H1 locs1 (cells + 0) (slots + 0) Q (F0 m (pc + 3) ls (.int (bi (F lm d t).1) :: rest))) : W p l e R s m args below meth c H locs cells slots Q (F0 m pc ls (.ref h0 :: rest)) := by
  obtain ⟨w1, w2, w3, w4, w5, w6, w7, w8, w9, w10⟩ := hw
  have hf := fr_of C hD hS
  refine vx_calli (run_SU (x := x) (owner := owner) (Cn := Cn) (T := TX3) (N := 9) (q0 := 0) (ci := ci) (As := []) (rest := rest) C (x_of (A9 := A) (hM H.size h0 ht hr kd zn lm d t)) w1 w2 w3 w4 w5 w6 w7 w8 w9 hP hD hS rfl hd.1 rfl hsize rfl hW hdg w10) hS (fun q _ h => hf q h) hf (fun q _ h => h) ?_ ?_
  · intro E ce q9 u t1 H1 locs1 ht1 hvm hp hB hz1 hk1 hS1 h1 h2 h3
    exact hp.elim
  · intro r9 u t1 H1 locs1 ht1 hvm hp hB hz1 hk1 hS1
    subst ht1
    cases hp
    exact kk _ _ hB (hD.to (wd_map _ _ _ _)) hS1
theorem kOU {F : Int32 → Dv → Tr → Ro} (hd : isD ci Cn) (C : Cx D ca sa lo p s m c cc nL own A) (hM : cO l D ca sa lo y b n rm ci F) (hw : aU s args R cells slots own index x y owner Cn b n 0 (some .boolean) rm 0 0) (hP : va_P D cls (wd ca h0 ht hr ci kd zn lm d t) H) (hD : va_D A (wd ca h0 ht hr ci kd zn lm d t)) (hS : va_S A s.heap H locs) (hsize : ls.size = nL) (hW : (rest.map fun v => v.category).sum ≤ 8) (hdg : decode cc pc = .ok (.invokevirtual index, 3))
    
    (kk : ∀ (H1 : Heap) (locs1 : List Loc), va_P D cls (wd ca h0 ht hr ci kd zn lm (F lm d t).2.1 (F lm d t).2.2) H1 → va_D A (wd ca h0 ht hr ci kd zn lm (F lm d t).2.1 (F lm d t).2.2) → va_S A s.heap H1 locs1 → W p l e R s m args below meth c H1 locs1 (cells + 0) (slots + 0) Q (F0 m (pc + 3) ls (.int (bi (F lm d t).1) :: rest))) : W p l e R s m args below meth c H locs cells slots Q (F0 m pc ls (.ref h0 :: rest)) := by
  obtain ⟨w1, w2, w3, w4, w5, w6, w7, w8, w9, w10⟩ := hw
  have hf := fr_of C hD hS
  refine vx_calli (run_U (x := x) (y := y) (owner := owner) (Cn := Cn) (T := TX3) (N := 9) (q0 := 0) (ci := ci) (As := []) (rest := rest) C (x_of (A9 := A) (hM H.size h0 ht hr kd zn lm d t)) w1 w2 w3 w4 w5 w6 w7 w8 w9 hP hD hS rfl hd.1 rfl hsize rfl hW hdg w10) hS (fun q _ h => hf q h) hf (fun q _ h => h) ?_ ?_
  · intro E ce q9 u t1 H1 locs1 ht1 hvm hp hB hz1 hk1 hS1 h1 h2 h3
    exact hp.elim
  · intro r9 u t1 H1 locs1 ht1 hvm hp hB hz1 hk1 hS1
    subst ht1
    cases hp
    exact kk _ _ hB (hD.to (wd_map _ _ _ _)) hS1
theorem kCS {F : Dv → Tr → Dv × Tr} (hd : isD ci Cn) (C : Cx D ca sa lo p s m c cc nL own A) (hM : cC l D ca sa lo ⟨owner, x.name, x.desc⟩ b n rm ci F) (hw : aS s args R cells slots own index x owner b n 0 none rm 0 0) (hP : va_P D cls (wd ca h0 ht hr ci kd zn lm d t) H) (hD : va_D A (wd ca h0 ht hr ci kd zn lm d t)) (hS : va_S A s.heap H locs) (hsize : ls.size = nL) (hW : (rest.map fun v => v.category).sum ≤ 8) (hdg : decode cc pc = .ok (.invokespecial index, 3))
    
    (kk : ∀ (H1 : Heap) (locs1 : List Loc), va_P D cls (wd ca h0 ht hr ci kd zn lm (F d t).1 (F d t).2) H1 → va_D A (wd ca h0 ht hr ci kd zn lm (F d t).1 (F d t).2) → va_S A s.heap H1 locs1 → W p l e R s m args below meth c H1 locs1 (cells + 0) (slots + 0) Q (F0 m (pc + 3) ls (rest))) : W p l e R s m args below meth c H locs cells slots Q (F0 m pc ls (.ref h0 :: rest)) := by
  obtain ⟨w1, w2, w3, w4, w5, w6, w7, w8, w9, w10⟩ := hw
  have hf := fr_of C hD hS
  refine vx_callv (run_SU (x := x) (owner := owner) (Cn := Cn) (T := TX3) (N := 9) (q0 := 0) (ci := ci) (As := []) (rest := rest) C (x_of (A9 := A) (hM H.size h0 ht hr kd zn lm d t)) w1 w2 w3 w4 w5 w6 w7 w8 w9 hP hD hS rfl hd.1 rfl hsize rfl hW hdg w10) hS (fun q _ h => hf q h) hf (fun q _ h => h) ?_ ?_
  · intro E ce q9 u t1 H1 locs1 ht1 hvm hp hB hz1 hk1 hS1 h1 h2 h3
    exact hp.elim
  · intro u t1 H1 locs1 ht1 hvm hp hB hz1 hk1 hS1
    subst ht1
    exact kk _ _ hB (hD.to (wd_map _ _ _ _)) hS1
theorem kCU {F : Dv → Tr → Dv × Tr} (hd : isD ci Cn) (C : Cx D ca sa lo p s m c cc nL own A) (hM : cC l D ca sa lo y b n rm ci F) (hw : aU s args R cells slots own index x y owner Cn b n 0 none rm 0 0) (hP : va_P D cls (wd ca h0 ht hr ci kd zn lm d t) H) (hD : va_D A (wd ca h0 ht hr ci kd zn lm d t)) (hS : va_S A s.heap H locs) (hsize : ls.size = nL) (hW : (rest.map fun v => v.category).sum ≤ 8) (hdg : decode cc pc = .ok (.invokevirtual index, 3))
    
    (kk : ∀ (H1 : Heap) (locs1 : List Loc), va_P D cls (wd ca h0 ht hr ci kd zn lm (F d t).1 (F d t).2) H1 → va_D A (wd ca h0 ht hr ci kd zn lm (F d t).1 (F d t).2) → va_S A s.heap H1 locs1 → W p l e R s m args below meth c H1 locs1 (cells + 0) (slots + 0) Q (F0 m (pc + 3) ls (rest))) : W p l e R s m args below meth c H locs cells slots Q (F0 m pc ls (.ref h0 :: rest)) := by
  obtain ⟨w1, w2, w3, w4, w5, w6, w7, w8, w9, w10⟩ := hw
  have hf := fr_of C hD hS
  refine vx_callv (run_U (x := x) (y := y) (owner := owner) (Cn := Cn) (T := TX3) (N := 9) (q0 := 0) (ci := ci) (As := []) (rest := rest) C (x_of (A9 := A) (hM H.size h0 ht hr kd zn lm d t)) w1 w2 w3 w4 w5 w6 w7 w8 w9 hP hD hS rfl hd.1 rfl hsize rfl hW hdg w10) hS (fun q _ h => hf q h) hf (fun q _ h => h) ?_ ?_
  · intro E ce q9 u t1 H1 locs1 ht1 hvm hp hB hz1 hk1 hS1 h1 h2 h3
    exact hp.elim
  · intro u t1 H1 locs1 ht1 hvm hp hB hz1 hk1 hS1
    subst ht1
    exact kk _ _ hB (hD.to (wd_map _ _ _ _)) hS1
theorem kKS {F : Dv → Tr → Int32 × Tr} (hd : isD ci Cn) (C : Cx D ca sa lo p s m c cc nL own A) (hM : cK l D ca sa lo ⟨owner, x.name, x.desc⟩ b n rm ci F) (hw : aS s args R cells slots own index x owner b n 0 (some .int) rm 0 0) (hP : va_P D cls (wd ca h0 ht hr ci kd zn lm d t) H) (hD : va_D A (wd ca h0 ht hr ci kd zn lm d t)) (hS : va_S A s.heap H locs) (hsize : ls.size = nL) (hW : (rest.map fun v => v.category).sum ≤ 8) (hdg : decode cc pc = .ok (.invokespecial index, 3))
    
    (kk : ∀ (H1 : Heap) (locs1 : List Loc), va_P D cls (wd ca h0 ht hr ci kd zn lm d (F d t).2) H1 → va_D A (wd ca h0 ht hr ci kd zn lm d (F d t).2) → va_S A s.heap H1 locs1 → W p l e R s m args below meth c H1 locs1 (cells + 0) (slots + 0) Q (F0 m (pc + 3) ls (.int (F d t).1 :: rest))) : W p l e R s m args below meth c H locs cells slots Q (F0 m pc ls (.ref h0 :: rest)) := by
  obtain ⟨w1, w2, w3, w4, w5, w6, w7, w8, w9, w10⟩ := hw
  have hf := fr_of C hD hS
  refine vx_calli (run_SU (x := x) (owner := owner) (Cn := Cn) (T := TX3) (N := 9) (q0 := 0) (ci := ci) (As := []) (rest := rest) C (x_of (A9 := A) (hM H.size h0 ht hr kd zn lm d t)) w1 w2 w3 w4 w5 w6 w7 w8 w9 hP hD hS rfl hd.1 rfl hsize rfl hW hdg w10) hS (fun q _ h => hf q h) hf (fun q _ h => h) ?_ ?_
  · intro E ce q9 u t1 H1 locs1 ht1 hvm hp hB hz1 hk1 hS1 h1 h2 h3
    exact hp.elim
  · intro r9 u t1 H1 locs1 ht1 hvm hp hB hz1 hk1 hS1
    subst ht1
    cases hp
    exact kk _ _ hB (hD.to (wd_map _ _ _ _)) hS1
theorem kKU {F : Dv → Tr → Int32 × Tr} (hd : isD ci Cn) (C : Cx D ca sa lo p s m c cc nL own A) (hM : cK l D ca sa lo y b n rm ci F) (hw : aU s args R cells slots own index x y owner Cn b n 0 (some .int) rm 0 0) (hP : va_P D cls (wd ca h0 ht hr ci kd zn lm d t) H) (hD : va_D A (wd ca h0 ht hr ci kd zn lm d t)) (hS : va_S A s.heap H locs) (hsize : ls.size = nL) (hW : (rest.map fun v => v.category).sum ≤ 8) (hdg : decode cc pc = .ok (.invokevirtual index, 3))
    
    (kk : ∀ (H1 : Heap) (locs1 : List Loc), va_P D cls (wd ca h0 ht hr ci kd zn lm d (F d t).2) H1 → va_D A (wd ca h0 ht hr ci kd zn lm d (F d t).2) → va_S A s.heap H1 locs1 → W p l e R s m args below meth c H1 locs1 (cells + 0) (slots + 0) Q (F0 m (pc + 3) ls (.int (F d t).1 :: rest))) : W p l e R s m args below meth c H locs cells slots Q (F0 m pc ls (.ref h0 :: rest)) := by
  obtain ⟨w1, w2, w3, w4, w5, w6, w7, w8, w9, w10⟩ := hw
  have hf := fr_of C hD hS
  refine vx_calli (run_U (x := x) (y := y) (owner := owner) (Cn := Cn) (T := TX3) (N := 9) (q0 := 0) (ci := ci) (As := []) (rest := rest) C (x_of (A9 := A) (hM H.size h0 ht hr kd zn lm d t)) w1 w2 w3 w4 w5 w6 w7 w8 w9 hP hD hS rfl hd.1 rfl hsize rfl hW hdg w10) hS (fun q _ h => hf q h) hf (fun q _ h => h) ?_ ?_
  · intro E ce q9 u t1 H1 locs1 ht1 hvm hp hB hz1 hk1 hS1 h1 h2 h3
    exact hp.elim
  · intro r9 u t1 H1 locs1 ht1 hvm hp hB hz1 hk1 hS1
    subst ht1
    cases hp
    exact kk _ _ hB (hD.to (wd_map _ _ _ _)) hS1
theorem kVS {F : Int32 → Dv → Tr → Int32 × Dv × Tr} (hd : isD ci Cn) (C : Cx D ca sa lo p s m c cc nL own A) (hM : cV l D ca sa lo ⟨owner, x.name, x.desc⟩ b n rm ci F) (hw : aS s args R cells slots own index x owner b n 0 (some .int) rm 0 0) (hP : va_P D cls (wd ca h0 ht hr ci kd zn lm d t) H) (hD : va_D A (wd ca h0 ht hr ci kd zn lm d t)) (hS : va_S A s.heap H locs) (hsize : ls.size = nL) (hW : (rest.map fun v => v.category).sum ≤ 8) (hdg : decode cc pc = .ok (.invokespecial index, 3))
    
    (kk : ∀ (H1 : Heap) (locs1 : List Loc), va_P D cls (wd ca h0 ht hr ci kd zn lm (F lm d t).2.1 (F lm d t).2.2) H1 → va_D A (wd ca h0 ht hr ci kd zn lm (F lm d t).2.1 (F lm d t).2.2) → va_S A s.heap H1 locs1 → W p l e R s m args below meth c H1 locs1 (cells + 0) (slots + 0) Q (F0 m (pc + 3) ls (.int (F lm d t).1 :: rest))) : W p l e R s m args below meth c H locs cells slots Q (F0 m pc ls (.ref h0 :: rest)) := by
  obtain ⟨w1, w2, w3, w4, w5, w6, w7, w8, w9, w10⟩ := hw
  have hf := fr_of C hD hS
  refine vx_calli (run_SU (x := x) (owner := owner) (Cn := Cn) (T := TX3) (N := 9) (q0 := 0) (ci := ci) (As := []) (rest := rest) C (x_of (A9 := A) (hM H.size h0 ht hr kd zn lm d t)) w1 w2 w3 w4 w5 w6 w7 w8 w9 hP hD hS rfl hd.1 rfl hsize rfl hW hdg w10) hS (fun q _ h => hf q h) hf (fun q _ h => h) ?_ ?_
  · intro E ce q9 u t1 H1 locs1 ht1 hvm hp hB hz1 hk1 hS1 h1 h2 h3
    exact hp.elim
  · intro r9 u t1 H1 locs1 ht1 hvm hp hB hz1 hk1 hS1
    subst ht1
    cases hp
    exact kk _ _ hB (hD.to (wd_map _ _ _ _)) hS1
theorem kVU {F : Int32 → Dv → Tr → Int32 × Dv × Tr} (hd : isD ci Cn) (C : Cx D ca sa lo p s m c cc nL own A) (hM : cV l D ca sa lo y b n rm ci F) (hw : aU s args R cells slots own index x y owner Cn b n 0 (some .int) rm 0 0) (hP : va_P D cls (wd ca h0 ht hr ci kd zn lm d t) H) (hD : va_D A (wd ca h0 ht hr ci kd zn lm d t)) (hS : va_S A s.heap H locs) (hsize : ls.size = nL) (hW : (rest.map fun v => v.category).sum ≤ 8) (hdg : decode cc pc = .ok (.invokevirtual index, 3))
    
    (kk : ∀ (H1 : Heap) (locs1 : List Loc), va_P D cls (wd ca h0 ht hr ci kd zn lm (F lm d t).2.1 (F lm d t).2.2) H1 → va_D A (wd ca h0 ht hr ci kd zn lm (F lm d t).2.1 (F lm d t).2.2) → va_S A s.heap H1 locs1 → W p l e R s m args below meth c H1 locs1 (cells + 0) (slots + 0) Q (F0 m (pc + 3) ls (.int (F lm d t).1 :: rest))) : W p l e R s m args below meth c H locs cells slots Q (F0 m pc ls (.ref h0 :: rest)) := by
  obtain ⟨w1, w2, w3, w4, w5, w6, w7, w8, w9, w10⟩ := hw
  have hf := fr_of C hD hS
  refine vx_calli (run_U (x := x) (y := y) (owner := owner) (Cn := Cn) (T := TX3) (N := 9) (q0 := 0) (ci := ci) (As := []) (rest := rest) C (x_of (A9 := A) (hM H.size h0 ht hr kd zn lm d t)) w1 w2 w3 w4 w5 w6 w7 w8 w9 hP hD hS rfl hd.1 rfl hsize rfl hW hdg w10) hS (fun q _ h => hf q h) hf (fun q _ h => h) ?_ ?_
  · intro E ce q9 u t1 H1 locs1 ht1 hvm hp hB hz1 hk1 hS1 h1 h2 h3
    exact hp.elim
  · intro r9 u t1 H1 locs1 ht1 hvm hp hB hz1 hk1 hS1
    subst ht1
    cases hp
    exact kk _ _ hB (hD.to (wd_map _ _ _ _)) hS1
end KS
end
section
theorem en_0 {n : Nat} {E : String} {P : Prop} (h0 : n = 0) (he : en n E) : P := by
  rcases he with ⟨h, -⟩ | ⟨h, -⟩ <;> rw [h0] at h <;> cases h
theorem at_R_in : ∀ w ∈ (vx_atS RX4 32 "java/lang/IllegalStateException" ["java/lang/RuntimeException", "java/lang/Exception"]).filter goodWord, w ∈ lw_tbl := by decide +kernel
theorem at_R_no : ∀ w ∈ (vx_atS RX4 32 "java/lang/IllegalStateException" ["java/lang/RuntimeException", "java/lang/Exception"]).filter (fun w => !goodWord w), w ∈ Cond.castable "java/lang/IllegalStateException" "java/lang/IllegalStateException" :: ksD.map Cond.declares := by decide +kernel
theorem at_R_ot : ∀ w ∈ Cond.classLink RX4 28 "java/lang/IllegalStateException" :: Cond.initialized "java/lang/IllegalStateException" :: vx_atS RX4 32 "java/lang/IllegalStateException" ["java/lang/RuntimeException", "java/lang/Exception"], vx_ot w = true := by decide +kernel
theorem at_R {D : va_G} {ca : Nat → ClassId} {sa : Nat → Nat} {s : State} (hk : KK D ca sa s) (A : Array Value) : ∀ w ∈ vx_atS RX4 32 "java/lang/IllegalStateException" ["java/lang/RuntimeException", "java/lang/Exception"], w.before A s = true :=
  vx_hat (fun w hw => kw.use hk.1 A (at_R_in w hw) (List.mem_filter.mp hw).2) at_R_no (vx_c (va_Nw.use rfl (hk.2.2.1 ("java/lang/IllegalStateException", "java/lang/IllegalStateException") (by decide))) (fun w hw => by obtain ⟨q, hq, rfl⟩ := List.mem_map.mp hw; exact va_Nw.use rfl (hk.2.2.2.2.2.2.2 q hq)))
theorem at_B_in : ∀ w ∈ (vx_atS RX0 33 "java/lang/ArithmeticException" ["java/lang/RuntimeException", "java/lang/Exception"]).filter goodWord, w ∈ lw_tbl := by decide +kernel
theorem at_B_no : ∀ w ∈ (vx_atS RX0 33 "java/lang/ArithmeticException" ["java/lang/RuntimeException", "java/lang/Exception"]).filter (fun w => !goodWord w), w ∈ Cond.castable "java/lang/ArithmeticException" "java/lang/ArithmeticException" :: ksD.map Cond.declares := by decide +kernel
theorem at_B_ot : ∀ w ∈ Cond.classLink RX0 29 "java/lang/ArithmeticException" :: Cond.initialized "java/lang/ArithmeticException" :: vx_atS RX0 33 "java/lang/ArithmeticException" ["java/lang/RuntimeException", "java/lang/Exception"], vx_ot w = true := by decide +kernel
theorem at_B {D : va_G} {ca : Nat → ClassId} {sa : Nat → Nat} {s : State} (hk : KK D ca sa s) (A : Array Value) : ∀ w ∈ vx_atS RX0 33 "java/lang/ArithmeticException" ["java/lang/RuntimeException", "java/lang/Exception"], w.before A s = true :=
  vx_hat (fun w hw => kw.use hk.1 A (at_B_in w hw) (List.mem_filter.mp hw).2) at_B_no (vx_c (va_Nw.use rfl (hk.2.2.1 ("java/lang/ArithmeticException", "java/lang/ArithmeticException") (by decide))) (fun w hw => by obtain ⟨q, hq, rfl⟩ := List.mem_map.mp hw; exact va_Nw.use rfl (hk.2.2.2.2.2.2.2 q hq)))
theorem xw_of {D : va_G} {s : State} {A : Nat → Prop} {H : Heap} {locs : List Loc} {w : Dv → Tr → va_W} {r : Rs} {E : String} (he : en r.1 E) (hP : va_P D cls (w r.2.2.1 r.2.2.2) H) (hS : va_S A s.heap H locs) : ∀ t : State, s.vm.Alike t.vm → H.size ≤ t.heap.size → (∀ q : Nat, q < H.size → t.heap[q]? = H[q]?) → XW D w r A E s t := fun t _ h1 h2 =>
  ⟨(), trivial, ⟨he, hP.kept (fun k q hk => h2 q.1 (hP k q hk).lt)⟩, Nat.le_trans hS.1 h1, fun q h3 h4 => (h2 q (Nat.lt_of_lt_of_le h3 hS.1)).trans (hS.2.1 q h3 h4)⟩

set_option maxHeartbeats 4000000 in
set_option maxRecDepth 100000 in
theorem wP (l : Launch) (D : va_G) (ca : Nat → ClassId) (sa : Nat → Nat) (lo : Nat) {ci : Nat} {Cn : String} (hd : isD ci Cn) : cW l D ca sa lo yX3_doWeigh cX3_doWeigh 2 ({ frames := 1, cells := 0, slots := 0, locals := 30 }) 0 0 ci pwP := by
  intro sz h0 ht hr kd zn lm v d t
  obtain ⟨ch, le, co, dr, la⟩ := d
  refine mk_metX (fun A => QW D (wd ca h0 ht hr ci kd zn lm) (pwP v (ch, le, co, dr, la) t) A) (fun A => XW D (wd ca h0 ht hr ci kd zn lm) (pwP v (ch, le, co, dr, la) t) A) (by decide) (Nat.le_of_ble_eq_true rfl) ?_
  intro p e s m below meth c A ls C hrt hlocks hno hsz hP hD hS hl
  obtain ⟨hx, hb, hml, hown, hk, hz, hlo, hA, hAl⟩ := id C
  have hK : va_K D cls (tyl ca) s := hk.2.1
  have hl : lv_has ls 2 [(0, .ref h0), (1, .int v)] := hl
  have hP : va_P D cls ((h0, .inr (ci, [.ref ht, .int kd, .int zn, .int lm, .int ch, .int le, .int co, .int dr, .int (bi la)])) :: wt ca ht hr t) s.heap := hP
  have hD : va_D A ((h0, .inr (ci, [.ref ht, .int kd, .int zn, .int lm, .int ch, .int le, .int co, .int dr, .int (bi la)])) :: wt ca ht hr t) := hD
  refine lv_aload_n hx hb dX3_doWeigh_0 rfl (lv_at hl 0 rfl) ?_
  refine va_get (D := D) (C := Cn) (T := TX3) (N := 9) hx hb (hd.2 _ _ hk.1) (fun _ h9 => h9) hown hK hP 0 rfl hd.1 0 (by decide) (fl_X3_9 hk.1 _) (fun _ h9 => h9) rfl dX3_doWeigh_1 ?_
  refine lv_iconst (v := 0) hx hb dX3_doWeigh_4 (by decide) ?_
  refine lv_iconst (v := 0) hx hb dX3_doWeigh_5 (by decide) ?_
  refine cb_begin C (ml_X3_28 hk.1 _) hP hD hS hl.1 ⟨by decide, by decide⟩ (Nat.le_of_ble_eq_true rfl) dX3_doWeigh_6 ⟨by decide, by decide⟩ (fun H locs hP hD hS => ?_)
  have hP : va_P D cls ((h0, .inr (ci, [.ref ht, .int kd, .int zn, .int lm, .int ch, .int le, .int co, .int dr, .int (bi la)])) :: wt ca ht hr (tb 0 0 t)) H := hP
  have hD : va_D A ((h0, .inr (ci, [.ref ht, .int kd, .int zn, .int lm, .int ch, .int le, .int co, .int dr, .int (bi la)])) :: wt ca ht hr (tb 0 0 t)) := hD
  refine lv_iload_n hx hb dX3_doWeigh_9 rfl (lv_at hl 1 rfl) ?_
  exact rw_ C hrt hlocks rfl rfl hP hS dX3_doWeigh_10 (by decide) (by decide)

set_option maxHeartbeats 4000000 in
set_option maxRecDepth 100000 in
theorem wS (l : Launch) (D : va_G) (ca : Nat → ClassId) (sa : Nat → Nat) (lo : Nat) {ci : Nat} {Cn : String} (hd : isD ci Cn) : cW l D ca sa lo yX5_doWeigh cX5_doWeigh 2 ({ frames := 2, cells := 0, slots := 0, locals := 60 }) 0 0 ci pwS := by
  intro sz h0 ht hr kd zn lm v d t
  obtain ⟨ch, le, co, dr, la⟩ := d
  refine mk_metX (fun A => QW D (wd ca h0 ht hr ci kd zn lm) (pwS v (ch, le, co, dr, la) t) A) (fun A => XW D (wd ca h0 ht hr ci kd zn lm) (pwS v (ch, le, co, dr, la) t) A) (by decide) (Nat.le_of_ble_eq_true rfl) ?_
  intro p e s m below meth c A ls C hrt hlocks hno hsz hP hD hS hl
  obtain ⟨hx, hb, hml, hown, hk, hz, hlo, hA, hAl⟩ := id C
  have hK : va_K D cls (tyl ca) s := hk.2.1
  have hl : lv_has ls 2 [(0, .ref h0), (1, .int v)] := hl
  have hP : va_P D cls ((h0, .inr (ci, [.ref ht, .int kd, .int zn, .int lm, .int ch, .int le, .int co, .int dr, .int (bi la)])) :: wt ca ht hr t) s.heap := hP
  have hD : va_D A ((h0, .inr (ci, [.ref ht, .int kd, .int zn, .int lm, .int ch, .int le, .int co, .int dr, .int (bi la)])) :: wt ca ht hr t) := hD
  refine lv_aload_n hx hb dX5_doWeigh_0 rfl (lv_at hl 0 rfl) ?_
  refine va_get (D := D) (C := Cn) (T := TX3) (N := 9) hx hb (hd.2 _ _ hk.1) (fun _ h9 => h9) hown hK hP 0 rfl hd.1 0 (by decide) (fl_X5_9 hk.1 _) (fun x9 h9 => u_same (sf_X5_trace hk.1 #[]) x9 h9) rfl dX5_doWeigh_1 ?_
  refine lv_iconst (v := 0) hx hb dX5_doWeigh_4 (by decide) ?_
  refine lv_iconst (v := 3) hx hb dX5_doWeigh_5 (by decide) ?_
  refine cb_begin C (ml_X5_15 hk.1 _) hP hD hS hl.1 ⟨by decide, by decide⟩ (Nat.le_of_ble_eq_true rfl) dX5_doWeigh_6 ⟨by decide, by decide⟩ (fun H locs hP hD hS => ?_)
  have hP : va_P D cls ((h0, .inr (ci, [.ref ht, .int kd, .int zn, .int lm, .int ch, .int le, .int co, .int dr, .int (bi la)])) :: wt ca ht hr (tb 0 3 t)) H := hP
  have hD : va_D A ((h0, .inr (ci, [.ref ht, .int kd, .int zn, .int lm, .int ch, .int le, .int co, .int dr, .int (bi la)])) :: wt ca ht hr (tb 0 3 t)) := hD
  refine lv_aload_n hx hb dX5_doWeigh_9 rfl (lv_at hl 0 rfl) ?_
  refine lv_iload_n hx hb dX5_doWeigh_10 rfl (lv_at hl 1 rfl) ?_
  refine kWS (x := ⟨"AlarmKinds$Wired", "doWeigh", "(I)I"⟩) (d := (ch, le, co, dr, la)) (t := tb 0 3 t) hd C (wP l D ca sa lo hd) ⟨fun U A9 h => co_X3_doWeigh h A9, fun U A9 h => in_X3 h A9, ml_X5_21 hk.1 _, sm_X8_X3_doWeigh hk.1 _, su_X5 hk.1 _, up_84 hk, im_X3_doWeigh hk.1 _, by decide +kernel, ⟨⟨rfl, rfl⟩, by decide, by decide⟩, by decide, by decide⟩ hP hD hS hl.1 (Nat.le_of_ble_eq_true rfl) dX5_doWeigh_11 (fun E ce q9 H locs he hP hD hS h1 h2 h3 => ?_) (fun h0c H locs hP hD hS => ?_)
  · exact en_0 rfl he
  · have hP : va_P D cls ((h0, .inr (ci, [.ref ht, .int kd, .int zn, .int lm, .int ch, .int le, .int co, .int dr, .int (bi la)])) :: wt ca ht hr (tb 0 0 (tb 0 3 t))) H := hP
    have hD : va_D A ((h0, .inr (ci, [.ref ht, .int kd, .int zn, .int lm, .int ch, .int le, .int co, .int dr, .int (bi la)])) :: wt ca ht hr (tb 0 0 (tb 0 3 t))) := hD
    refine lv_aload_n hx hb dX5_doWeigh_14 rfl (lv_at hl 0 rfl) ?_
    refine va_get (D := D) (C := Cn) (T := TX3) (N := 9) hx hb (hd.2 _ _ hk.1) (fun _ h9 => h9) hown hK hP 0 rfl hd.1 7 (by decide) (fl_X5_25 hk.1 _) (fun x9 h9 => u_same (sf_X5_drift hk.1 #[]) x9 h9) rfl dX5_doWeigh_15 ?_
    refine lv_isub hx hb dX5_doWeigh_18 ?_
    exact rw_ C hrt hlocks rfl rfl hP hS dX5_doWeigh_19 (by decide) (by decide)

set_option maxHeartbeats 4000000 in
set_option maxRecDepth 100000 in
theorem wR (l : Launch) (D : va_G) (ca : Nat → ClassId) (sa : Nat → Nat) (lo : Nat) {ci : Nat} {Cn : String} (hd : isD ci Cn) (hl9 : l.stackTraces = false) : cW l D ca sa lo yX4_doWeigh cX4_doWeigh 2 ({ frames := 6, cells := 1, slots := 6, locals := 90 }) 1 6 ci pwR := by
  intro sz h0 ht hr kd zn lm v d t
  obtain ⟨ch, le, co, dr, la⟩ := d
  generalize hr9 : pwR v (ch, le, co, dr, la) t = r
  refine mk_metX (fun A => QW D (wd ca h0 ht hr ci kd zn lm) r A) (fun A => XW D (wd ca h0 ht hr ci kd zn lm) r A) (by decide) (Nat.le_of_ble_eq_true rfl) ?_
  intro p e s m below meth c A ls C hrt hlocks hno hsz hP hD hS hl
  obtain ⟨hx, hb, hml, hown, hk, hz, hlo, hA, hAl⟩ := id C
  have hK : va_K D cls (tyl ca) s := hk.2.1
  have hl : lv_has ls 2 [(0, .ref h0), (1, .int v)] := hl
  have hP : va_P D cls ((h0, .inr (ci, [.ref ht, .int kd, .int zn, .int lm, .int ch, .int le, .int co, .int dr, .int (bi la)])) :: wt ca ht hr t) s.heap := hP
  have hD : va_D A ((h0, .inr (ci, [.ref ht, .int kd, .int zn, .int lm, .int ch, .int le, .int co, .int dr, .int (bi la)])) :: wt ca ht hr t) := hD
  refine lv_aload_n hx hb dX4_doWeigh_0 rfl (lv_at hl 0 rfl) ?_
  refine va_get (D := D) (C := Cn) (T := TX3) (N := 9) hx hb (hd.2 _ _ hk.1) (fun _ h9 => h9) hown hK hP 0 rfl hd.1 0 (by decide) (fl_X4_9 hk.1 _) (fun x9 h9 => u_same (sf_X4_trace hk.1 #[]) x9 h9) rfl dX4_doWeigh_1 ?_
  refine lv_iconst (v := 0) hx hb dX4_doWeigh_4 (by decide) ?_
  refine lv_iconst (v := 2) hx hb dX4_doWeigh_5 (by decide) ?_
  refine cb_begin C (ml_X4_15 hk.1 _) hP hD hS hl.1 ⟨by decide, by decide⟩ (Nat.le_of_ble_eq_true rfl) dX4_doWeigh_6 ⟨by decide, by decide⟩ (fun H locs hP hD hS => ?_)
  have hP : va_P D cls ((h0, .inr (ci, [.ref ht, .int kd, .int zn, .int lm, .int ch, .int le, .int co, .int dr, .int (bi la)])) :: wt ca ht hr (tb 0 2 t)) H := hP
  have hD : va_D A ((h0, .inr (ci, [.ref ht, .int kd, .int zn, .int lm, .int ch, .int le, .int co, .int dr, .int (bi la)])) :: wt ca ht hr (tb 0 2 t)) := hD
  refine lv_aload_n hx hb dX4_doWeigh_9 rfl (lv_at hl 0 rfl) ?_
  refine va_get (D := D) (C := Cn) (T := TX3) (N := 9) hx hb (hd.2 _ _ hk.1) (fun _ h9 => h9) hown hK hP 0 rfl hd.1 4 (by decide) (fl_X4_21 hk.1 _) (fun x9 h9 => u_same (sf_X4_charge hk.1 #[]) x9 h9) rfl dX4_doWeigh_10 ?_
  refine lv_if_ne (tgt := 39) hx hb dX4_doWeigh_13 (by decide) (fun c_1 => ?_) (fun c_1 => ?_)
  · have hr9 : r = pwP v (ch - 1, le, co, dr, la) (tb 0 2 t) := by rw [← hr9]; exact if_neg c_1
    subst hr9
    refine lv_aload_n hx hb dX4_doWeigh_39 rfl (lv_at hl 0 rfl) ?_
    refine lv_dup hx hb dX4_doWeigh_40 rfl ?_
    refine va_get (D := D) (C := Cn) (T := TX3) (N := 9) hx hb (hd.2 _ _ hk.1) (fun _ h9 => h9) hown hK hP 0 rfl hd.1 4 (by decide) (fl_X4_21 hk.1 _) (fun x9 h9 => u_same (sf_X4_charge hk.1 #[]) x9 h9) rfl dX4_doWeigh_41 ?_
    refine lv_iconst (v := 1) hx hb dX4_doWeigh_44 (by decide) ?_
    refine lv_isub hx hb dX4_doWeigh_45 ?_
    refine va_put (D := D) (v := .int (ch - 1)) (ty := .int) (C := Cn) (T := TX3) (N := 9) hx hb (hd.2 _ _ hk.1) (fun _ h9 => h9) tyX3 tyX3_ok nmX3 hown hK hP hD hS 0 rfl hd.1 4 (by decide) (fl_X4_21 hk.1 _) (fun x9 h9 => u_same (sf_X4_charge hk.1 #[]) x9 h9) rfl (by decide +kernel) rfl rfl (Nat.le_of_ble_eq_true rfl) dX4_doWeigh_46 (fun H locs hP hD hS => ?_)
    have hP : va_P D cls ((h0, .inr (ci, [.ref ht, .int kd, .int zn, .int lm, .int (ch - 1), .int le, .int co, .int dr, .int (bi la)])) :: wt ca ht hr (tb 0 2 t)) H := hP
    have hD : va_D A ((h0, .inr (ci, [.ref ht, .int kd, .int zn, .int lm, .int (ch - 1), .int le, .int co, .int dr, .int (bi la)])) :: wt ca ht hr (tb 0 2 t)) := hD
    refine lv_aload_n hx hb dX4_doWeigh_49 rfl (lv_at hl 0 rfl) ?_
    refine lv_iload_n hx hb dX4_doWeigh_50 rfl (lv_at hl 1 rfl) ?_
    refine kWS (x := ⟨"AlarmKinds$Wired", "doWeigh", "(I)I"⟩) (d := ((ch - 1), le, co, dr, la)) (t := tb 0 2 t) hd C (wP l D ca sa lo hd) ⟨fun U A9 h => co_X3_doWeigh h A9, fun U A9 h => in_X3 h A9, ml_X4_35 hk.1 _, sm_X8_X3_doWeigh hk.1 _, su_X4 hk.1 _, up_84 hk, im_X3_doWeigh hk.1 _, by decide +kernel, ⟨⟨rfl, rfl⟩, by decide, by decide⟩, by decide, by decide⟩ hP hD hS hl.1 (Nat.le_of_ble_eq_true rfl) dX4_doWeigh_51 (fun E ce q9 H locs he hP hD hS h1 h2 h3 => ?_) (fun h0c H locs hP hD hS => ?_)
    · exact en_0 rfl he
    · exact rw_ C hrt hlocks rfl rfl hP hS dX4_doWeigh_54 (by decide) (by decide)
  · have hc9 : ch = 0 := c_1
    have hr9 : r = (1, 0, (ch, le, co, dr, la), tfl (tb 0 2 t)) := by rw [← hr9]; exact if_pos hc9
    subst hr9
    generalize hT9 : tb 0 2 t = T9 at hP hD ⊢
    have hP : va_P D cls [(h0, .inr (ci, [.ref ht, .int kd, .int zn, .int lm, .int ch, .int le, .int co, .int dr, .int (bi la)])), (ht, .inr (6, [.ref hr, .int (nI (nx T9.1)), .int (nI (min T9.1 200)), .int (nI T9.1), .int T9.2.2.1, .int T9.2.2.2])), (hr, .inl (ca 0, 200, .inl T9.2.1))] H := hP
    have hD : va_D A [(h0, .inr (ci, [.ref ht, .int kd, .int zn, .int lm, .int ch, .int le, .int co, .int dr, .int (bi la)])), (ht, .inr (6, [.ref hr, .int (nI (nx T9.1)), .int (nI (min T9.1 200)), .int (nI T9.1), .int T9.2.2.1, .int T9.2.2.2])), (hr, .inl (ca 0, 200, .inl T9.2.1))] := hD
    refine lv_aload_n hx hb dX4_doWeigh_16 rfl (lv_at hl 0 rfl) ?_
    refine va_get (D := D) (C := Cn) (T := TX3) (N := 9) hx hb (hd.2 _ _ hk.1) (fun _ h9 => h9) hown hK hP 0 rfl hd.1 0 (by decide) (fl_X4_9 hk.1 _) (fun x9 h9 => u_same (sf_X4_trace hk.1 #[]) x9 h9) rfl dX4_doWeigh_17 ?_
    refine lv_dup hx hb dX4_doWeigh_20 rfl ?_
    refine va_get (D := D) (C := RX6) (T := TX6) (N := 6) hx hb (uc_6 hk.1 _) (fun _ h9 => h9) hown hK hP 1 rfl rfl 4 (by decide) (fl_X4_25 hk.1 _) (fun _ h9 => h9) rfl dX4_doWeigh_21 ?_
    refine lv_iconst (v := 1) hx hb dX4_doWeigh_24 (by decide) ?_
    refine lv_iadd hx hb dX4_doWeigh_25 ?_
    refine va_put (D := D) (v := .int (T9.2.2.1 + 1)) (ty := .int) (C := RX6) (T := TX6) (N := 6) hx hb (uc_6 hk.1 _) (fun _ h9 => h9) tyX6 tyX6_ok nmX6 hown hK hP hD hS 1 rfl rfl 4 (by decide) (fl_X4_25 hk.1 _) (fun _ h9 => h9) rfl (by decide +kernel) rfl rfl (Nat.le_of_ble_eq_true rfl) dX4_doWeigh_26 (fun H locs hP hD hS => ?_)
    have hP : va_P D cls [(h0, .inr (ci, [.ref ht, .int kd, .int zn, .int lm, .int ch, .int le, .int co, .int dr, .int (bi la)])), (ht, .inr (6, [.ref hr, .int (nI (nx T9.1)), .int (nI (min T9.1 200)), .int (nI T9.1), .int (T9.2.2.1 + 1), .int T9.2.2.2])), (hr, .inl (ca 0, 200, .inl T9.2.1))] H := hP
    have hD : va_D A [(h0, .inr (ci, [.ref ht, .int kd, .int zn, .int lm, .int ch, .int le, .int co, .int dr, .int (bi la)])), (ht, .inr (6, [.ref hr, .int (nI (nx T9.1)), .int (nI (min T9.1 200)), .int (nI T9.1), .int (T9.2.2.1 + 1), .int T9.2.2.2])), (hr, .inl (ca 0, 200, .inl T9.2.1))] := hD
    refine vx_throwS (own := RX4) (cls := "java/lang/IllegalStateException") (names := ["java/lang/RuntimeException", "java/lang/Exception"]) (ik := 28) (is := 30) (ic := 32) (A := A) hx hb hl9 hown (by decide +kernel) (by decide +kernel) (cl_X4_28 hk.1 _) (in_IS hk.1 _) hk.2.2.2.2.1 (at_R hk _) at_R_ot (hz.1.narrow hAl) (hz.2.narrow hAl) hS (hl.1.trans hml.symm) dX4_doWeigh_29 dX4_doWeigh_32 dX4_doWeigh_33 dX4_doWeigh_35 dX4_doWeigh_38 (fun x hx => (hno x hx).elim) (by decide) (by decide) (by decide) (by decide) hlocks (xw_of (Or.inl ⟨rfl, rfl⟩) hP hS) hS.2.2 (by decide) (by decide)

set_option maxHeartbeats 4000000 in
set_option maxRecDepth 100000 in
theorem wB (l : Launch) (D : va_G) (ca : Nat → ClassId) (sa : Nat → Nat) (lo : Nat) {ci : Nat} {Cn : String} (hd : isD ci Cn) (hl9 : l.stackTraces = false) : cW l D ca sa lo yX0_doWeigh cX0_doWeigh 3 ({ frames := 7, cells := 2, slots := 12, locals := 120 }) 2 12 ci pwB := by
  intro sz h0 ht hr kd zn lm v d t
  obtain ⟨ch, le, co, dr, la⟩ := d
  generalize hr9 : pwB v (ch, le, co, dr, la) t = r
  refine mk_metX (fun A => QW D (wd ca h0 ht hr ci kd zn lm) r A) (fun A => XW D (wd ca h0 ht hr ci kd zn lm) r A) (by decide) (Nat.le_of_ble_eq_true rfl) ?_
  intro p e s m below meth c A ls C hrt hlocks hno hsz hP hD hS hl
  obtain ⟨hx, hb, hml, hown, hk, hz, hlo, hA, hAl⟩ := id C
  have hK : va_K D cls (tyl ca) s := hk.2.1
  have hl : lv_has ls 3 [(0, .ref h0), (1, .int v)] := hl
  have hP : va_P D cls ((h0, .inr (ci, [.ref ht, .int kd, .int zn, .int lm, .int ch, .int le, .int co, .int dr, .int (bi la)])) :: wt ca ht hr t) s.heap := hP
  have hD : va_D A ((h0, .inr (ci, [.ref ht, .int kd, .int zn, .int lm, .int ch, .int le, .int co, .int dr, .int (bi la)])) :: wt ca ht hr t) := hD
  refine lv_aload_n hx hb dX0_doWeigh_0 rfl (lv_at hl 0 rfl) ?_
  refine va_get (D := D) (C := Cn) (T := TX3) (N := 9) hx hb (hd.2 _ _ hk.1) (fun _ h9 => h9) hown hK hP 0 rfl hd.1 0 (by decide) (fl_X0_9 hk.1 _) (fun x9 h9 => u_same (sf_X0_trace hk.1 #[]) x9 h9) rfl dX0_doWeigh_1 ?_
  refine lv_iconst (v := 0) hx hb dX0_doWeigh_4 (by decide) ?_
  refine lv_iconst (v := 5) hx hb dX0_doWeigh_5 (by decide) ?_
  refine cb_begin C (ml_X0_15 hk.1 _) hP hD hS hl.1 ⟨by decide, by decide⟩ (Nat.le_of_ble_eq_true rfl) dX0_doWeigh_6 ⟨by decide, by decide⟩ (fun H locs hP hD hS => ?_)
  have hP : va_P D cls ((h0, .inr (ci, [.ref ht, .int kd, .int zn, .int lm, .int ch, .int le, .int co, .int dr, .int (bi la)])) :: wt ca ht hr (tb 0 5 t)) H := hP
  have hD : va_D A ((h0, .inr (ci, [.ref ht, .int kd, .int zn, .int lm, .int ch, .int le, .int co, .int dr, .int (bi la)])) :: wt ca ht hr (tb 0 5 t)) := hD
  refine lv_aload_n hx hb dX0_doWeigh_9 rfl (lv_at hl 0 rfl) ?_
  refine lv_iload_n hx hb dX0_doWeigh_10 rfl (lv_at hl 1 rfl) ?_
  refine kWS (x := ⟨"AlarmKinds$Radio", "doWeigh", "(I)I"⟩) (d := (ch, le, co, dr, la)) (t := tb 0 5 t) hd C (wR l D ca sa lo hd hl9) ⟨fun U A9 h => co_X4_doWeigh h A9, fun U A9 h => in_X4 h A9, ml_X0_21 hk.1 _, sm_X4_X4_doWeigh hk.1 _, su_X0 hk.1 _, up_self, im_X4_doWeigh hk.1 _, by decide +kernel, ⟨⟨rfl, rfl⟩, by decide, by decide⟩, by decide, by decide⟩ hP hD hS hl.1 (Nat.le_of_ble_eq_true rfl) dX0_doWeigh_11 (fun E ce q9 H locs he hP hD hS h1 h2 h3 => ?_) (fun h0c H locs hP hD hS => ?_)
  · have hq : pwBe (pwR v (ch, le, co, dr, la) (tb 0 5 t)) = pwR v (ch, le, co, dr, la) (tb 0 5 t) := if_neg (fun h => by rcases he with ⟨h9, -⟩ | ⟨h9, -⟩ <;> rw [h] at h9 <;> cases h9)
    have hr9 : r = pwR v (ch, le, co, dr, la) (tb 0 5 t) := by rw [← hr9]; exact hq
    subst hr9
    exact ow_ hno hlocks he hP hS h1 h2 h3 (by decide) (by decide)
  · replace hr9 : pwBe (pwR v (ch, le, co, dr, la) (tb 0 5 t)) = r := hr9
    generalize hq9 : pwR v (ch, le, co, dr, la) (tb 0 5 t) = q at hP hD hr9 h0c ⊢
    obtain ⟨c9, v9, ⟨ch9, le9, co9, dr9, la9⟩, t9⟩ := q
    cases (show c9 = 0 from h0c)
    have hP : va_P D cls ((h0, .inr (ci, [.ref ht, .int kd, .int zn, .int lm, .int ch9, .int le9, .int co9, .int dr9, .int (bi la9)])) :: wt ca ht hr t9) H := hP
    have hD : va_D A ((h0, .inr (ci, [.ref ht, .int kd, .int zn, .int lm, .int ch9, .int le9, .int co9, .int dr9, .int (bi la9)])) :: wt ca ht hr t9) := hD
    refine lv_istore_n (lv' := [(2, .int v9), (0, .ref h0), (1, .int v)]) hx hb dX0_doWeigh_14 rfl hl (by decide) rfl (fun ls hl => ?_)
    refine lv_iload_n hx hb dX0_doWeigh_15 rfl (lv_at hl 0 rfl) ?_
    refine lv_if_ne (tgt := 42) hx hb dX0_doWeigh_16 (by decide) (fun c_1 => ?_) (fun c_1 => ?_)
    · have hr9 : r = (0, 1000 / v9, (ch9, le9, co9, dr9, la9), t9) := by rw [← hr9]; exact (if_pos rfl).trans (if_neg c_1)
      subst hr9
      refine lv_sipush (v := 1000) hx hb dX0_doWeigh_42 (by decide) ?_
      refine lv_iload_n hx hb dX0_doWeigh_45 rfl (lv_at hl 0 rfl) ?_
      refine lv_idiv hx hb dX0_doWeigh_46 c_1 ?_
      exact rw_ C hrt hlocks rfl rfl hP hS dX0_doWeigh_47 (by decide) (by decide)
    · have hc9 : v9 = 0 := c_1
      have hr9 : r = (2, 0, (ch9, le9, co9, dr9, la9), tar t9) := by rw [← hr9]; exact (if_pos rfl).trans (if_pos hc9)
      subst hr9
      have hP : va_P D cls [(h0, .inr (ci, [.ref ht, .int kd, .int zn, .int lm, .int ch9, .int le9, .int co9, .int dr9, .int (bi la9)])), (ht, .inr (6, [.ref hr, .int (nI (nx t9.1)), .int (nI (min t9.1 200)), .int (nI t9.1), .int t9.2.2.1, .int t9.2.2.2])), (hr, .inl (ca 0, 200, .inl t9.2.1))] H := hP
      have hD : va_D A [(h0, .inr (ci, [.ref ht, .int kd, .int zn, .int lm, .int ch9, .int le9, .int co9, .int dr9, .int (bi la9)])), (ht, .inr (6, [.ref hr, .int (nI (nx t9.1)), .int (nI (min t9.1 200)), .int (nI t9.1), .int t9.2.2.1, .int t9.2.2.2])), (hr, .inl (ca 0, 200, .inl t9.2.1))] := hD
      refine lv_aload_n hx hb dX0_doWeigh_19 rfl (lv_at hl 1 rfl) ?_
      refine va_get (D := D) (C := Cn) (T := TX3) (N := 9) hx hb (hd.2 _ _ hk.1) (fun _ h9 => h9) hown hK hP 0 rfl hd.1 0 (by decide) (fl_X0_9 hk.1 _) (fun x9 h9 => u_same (sf_X0_trace hk.1 #[]) x9 h9) rfl dX0_doWeigh_20 ?_
      refine lv_dup hx hb dX0_doWeigh_23 rfl ?_
      refine va_get (D := D) (C := RX6) (T := TX6) (N := 6) hx hb (uc_6 hk.1 _) (fun _ h9 => h9) hown hK hP 1 rfl rfl 5 (by decide) (fl_X0_25 hk.1 _) (fun _ h9 => h9) rfl dX0_doWeigh_24 ?_
      refine lv_iconst (v := 1) hx hb dX0_doWeigh_27 (by decide) ?_
      refine lv_iadd hx hb dX0_doWeigh_28 ?_
      refine va_put (D := D) (v := .int (t9.2.2.2 + 1)) (ty := .int) (C := RX6) (T := TX6) (N := 6) hx hb (uc_6 hk.1 _) (fun _ h9 => h9) tyX6 tyX6_ok nmX6 hown hK hP hD hS 1 rfl rfl 5 (by decide) (fl_X0_25 hk.1 _) (fun _ h9 => h9) rfl (by decide +kernel) rfl rfl (Nat.le_of_ble_eq_true rfl) dX0_doWeigh_29 (fun H locs hP hD hS => ?_)
      have hP : va_P D cls [(h0, .inr (ci, [.ref ht, .int kd, .int zn, .int lm, .int ch9, .int le9, .int co9, .int dr9, .int (bi la9)])), (ht, .inr (6, [.ref hr, .int (nI (nx t9.1)), .int (nI (min t9.1 200)), .int (nI t9.1), .int t9.2.2.1, .int (t9.2.2.2 + 1)])), (hr, .inl (ca 0, 200, .inl t9.2.1))] H := hP
      have hD : va_D A [(h0, .inr (ci, [.ref ht, .int kd, .int zn, .int lm, .int ch9, .int le9, .int co9, .int dr9, .int (bi la9)])), (ht, .inr (6, [.ref hr, .int (nI (nx t9.1)), .int (nI (min t9.1 200)), .int (nI t9.1), .int t9.2.2.1, .int (t9.2.2.2 + 1)])), (hr, .inl (ca 0, 200, .inl t9.2.1))] := hD
      refine vx_throwS (own := RX0) (cls := "java/lang/ArithmeticException") (names := ["java/lang/RuntimeException", "java/lang/Exception"]) (ik := 29) (is := 31) (ic := 33) (A := A) hx hb hl9 hown (by decide +kernel) (by decide +kernel) (cl_X0_29 hk.1 _) (in_AE hk.1 _) hk.2.2.2.2.2.1 (at_B hk _) at_B_ot (hz.1.narrow hAl) (hz.2.narrow hAl) hS (hl.1.trans hml.symm) dX0_doWeigh_32 dX0_doWeigh_35 dX0_doWeigh_36 dX0_doWeigh_38 dX0_doWeigh_41 (fun x hx => (hno x hx).elim) (by decide) (by decide) (by decide) (by decide) hlocks (xw_of (Or.inr ⟨rfl, rfl⟩) hP hS) hS.2.2 (by decide) (by decide)
end
section
theorem bi_t {P : Prop} [Decidable P] (h : P) : (1 : Int32) = bi (decide P) := by rw [decide_eq_true h]; rfl
theorem bi_f {P : Prop} [Decidable P] (h : ¬ P) : (0 : Int32) = bi (decide P) := by rw [decide_eq_false h]; rfl
theorem bi_eq0 {b : Bool} (h : bi b = 0) : b = false := by cases b with
  | false => rfl
  | true => exact absurd h (by decide)
theorem bi_ne0 {b : Bool} (h : ¬ bi b = 0) : b = true := by cases b with
  | false => exact absurd rfl h
  | true => rfl
theorem fit_b (b : Bool) : fits .boolean (.int (bi b)) = true := by cases b <;> rfl

set_option maxHeartbeats 4000000 in
set_option maxRecDepth 100000 in
theorem oP (l : Launch) (D : va_G) (ca : Nat → ClassId) (sa : Nat → Nat) (lo : Nat) {ci : Nat} {Cn : String} (hd : isD ci Cn) : cO l D ca sa lo yX3_doOver cX3_doOver 1 ({ frames := 1, cells := 0, slots := 0, locals := 30 }) ci poP := by
  intro sz h0 ht hr kd zn lm d t
  obtain ⟨ch, le, co, dr, la⟩ := d
  refine mk_met (fun A => QI D (bi (poP lm (ch, le, co, dr, la) t).1) (wd ca h0 ht hr ci kd zn lm (poP lm (ch, le, co, dr, la) t).2.1 (poP lm (ch, le, co, dr, la) t).2.2) A) (by decide) (Nat.le_of_ble_eq_true rfl) ?_
  intro p e s m below meth c A ls C hrt hlocks hnm hsz hP hD hS hl
  obtain ⟨hx, hb, hml, hown, hk, hz, hlo, hA, hAl⟩ := id C
  have hK : va_K D cls (tyl ca) s := hk.2.1
  have hl : lv_has ls 1 [(0, .ref h0)] := hl
  have hP : va_P D cls ((h0, .inr (ci, [.ref ht, .int kd, .int zn, .int lm, .int ch, .int le, .int co, .int dr, .int (bi la)])) :: wt ca ht hr t) s.heap := hP
  have hD : va_D A ((h0, .inr (ci, [.ref ht, .int kd, .int zn, .int lm, .int ch, .int le, .int co, .int dr, .int (bi la)])) :: wt ca ht hr t) := hD
  refine lv_aload_n hx hb dX3_doOver_0 rfl (lv_at hl 0 rfl) ?_
  refine va_get (D := D) (C := Cn) (T := TX3) (N := 9) hx hb (hd.2 _ _ hk.1) (fun _ h9 => h9) hown hK hP 0 rfl hd.1 0 (by decide) (fl_X3_9 hk.1 _) (fun _ h9 => h9) rfl dX3_doOver_1 ?_
  refine lv_iconst (v := 2) hx hb dX3_doOver_4 (by decide) ?_
  refine lv_iconst (v := 0) hx hb dX3_doOver_5 (by decide) ?_
  refine cb_begin C (ml_X3_28 hk.1 _) hP hD hS hl.1 ⟨by decide, by decide⟩ (Nat.le_of_ble_eq_true rfl) dX3_doOver_6 ⟨by decide, by decide⟩ (fun H locs hP hD hS => ?_)
  have hP : va_P D cls ((h0, .inr (ci, [.ref ht, .int kd, .int zn, .int lm, .int ch, .int le, .int co, .int dr, .int (bi la)])) :: wt ca ht hr (tb 2 0 t)) H := hP
  have hD : va_D A ((h0, .inr (ci, [.ref ht, .int kd, .int zn, .int lm, .int ch, .int le, .int co, .int dr, .int (bi la)])) :: wt ca ht hr (tb 2 0 t)) := hD
  refine lv_aload_n hx hb dX3_doOver_9 rfl (lv_at hl 0 rfl) ?_
  refine va_get (D := D) (C := Cn) (T := TX3) (N := 9) hx hb (hd.2 _ _ hk.1) (fun _ h9 => h9) hown hK hP 0 rfl hd.1 5 (by decide) (fl_X3_38 hk.1 _) (fun _ h9 => h9) rfl dX3_doOver_10 ?_
  refine lv_aload_n hx hb dX3_doOver_13 rfl (lv_at hl 0 rfl) ?_
  refine va_get (D := D) (C := Cn) (T := TX3) (N := 9) hx hb (hd.2 _ _ hk.1) (fun _ h9 => h9) hown hK hP 0 rfl hd.1 3 (by decide) (fl_X3_22 hk.1 _) (fun _ h9 => h9) rfl dX3_doOver_14 ?_
  refine lv_icmp_lt (tgt := 24) hx hb dX3_doOver_17 (by decide) (fun c_1 => ?_) (fun c_1 => ?_)
  · refine lv_iconst (v := 0) hx hb dX3_doOver_24 (by decide) ?_
    exact rz C hrt hlocks (bi_f (P := lm ≤ le) (fun h9 => absurd c_1 (Int32.not_lt.mpr h9))) hP hS dX3_doOver_25
  · refine lv_iconst (v := 1) hx hb dX3_doOver_20 (by decide) ?_
    refine lv_goto (tgt := 25) hx hb dX3_doOver_21 (by decide) ?_
    exact rz C hrt hlocks (bi_t (P := lm ≤ le) (Int32.not_lt.mp c_1)) hP hS dX3_doOver_25

set_option maxHeartbeats 4000000 in
set_option maxRecDepth 100000 in
theorem oH (l : Launch) (D : va_G) (ca : Nat → ClassId) (sa : Nat → Nat) (lo : Nat) {ci : Nat} {Cn : String} (hd : isD ci Cn) : cO l D ca sa lo yX2_doOver cX2_doOver 1 ({ frames := 2, cells := 0, slots := 0, locals := 60 }) ci poH := by
  intro sz h0 ht hr kd zn lm d t
  obtain ⟨ch, le, co, dr, la⟩ := d
  refine mk_met (fun A => QI D (bi (poH lm (ch, le, co, dr, la) t).1) (wd ca h0 ht hr ci kd zn lm (poH lm (ch, le, co, dr, la) t).2.1 (poH lm (ch, le, co, dr, la) t).2.2) A) (by decide) (Nat.le_of_ble_eq_true rfl) ?_
  intro p e s m below meth c A ls C hrt hlocks hnm hsz hP hD hS hl
  obtain ⟨hx, hb, hml, hown, hk, hz, hlo, hA, hAl⟩ := id C
  have hK : va_K D cls (tyl ca) s := hk.2.1
  have hl : lv_has ls 1 [(0, .ref h0)] := hl
  have hP : va_P D cls ((h0, .inr (ci, [.ref ht, .int kd, .int zn, .int lm, .int ch, .int le, .int co, .int dr, .int (bi la)])) :: wt ca ht hr t) s.heap := hP
  have hD : va_D A ((h0, .inr (ci, [.ref ht, .int kd, .int zn, .int lm, .int ch, .int le, .int co, .int dr, .int (bi la)])) :: wt ca ht hr t) := hD
  refine lv_aload_n hx hb dX2_doOver_0 rfl (lv_at hl 0 rfl) ?_
  refine va_get (D := D) (C := Cn) (T := TX3) (N := 9) hx hb (hd.2 _ _ hk.1) (fun _ h9 => h9) hown hK hP 0 rfl hd.1 0 (by decide) (fl_X2_9 hk.1 _) (fun x9 h9 => u_same (sf_X2_trace hk.1 #[]) x9 h9) rfl dX2_doOver_1 ?_
  refine lv_iconst (v := 2) hx hb dX2_doOver_4 (by decide) ?_
  refine lv_iconst (v := 4) hx hb dX2_doOver_5 (by decide) ?_
  refine cb_begin C (ml_X2_15 hk.1 _) hP hD hS hl.1 ⟨by decide, by decide⟩ (Nat.le_of_ble_eq_true rfl) dX2_doOver_6 ⟨by decide, by decide⟩ (fun H locs hP hD hS => ?_)
  have hP : va_P D cls ((h0, .inr (ci, [.ref ht, .int kd, .int zn, .int lm, .int ch, .int le, .int co, .int dr, .int (bi la)])) :: wt ca ht hr (tb 2 4 t)) H := hP
  have hD : va_D A ((h0, .inr (ci, [.ref ht, .int kd, .int zn, .int lm, .int ch, .int le, .int co, .int dr, .int (bi la)])) :: wt ca ht hr (tb 2 4 t)) := hD
  refine lv_aload_n hx hb dX2_doOver_9 rfl (lv_at hl 0 rfl) ?_
  refine kOS (x := ⟨"AlarmKinds$Radio", "doOver", "()Z"⟩) (d := (ch, le, co, dr, la)) (t := tb 2 4 t) hd C (oP l D ca sa lo hd) ⟨fun U A9 h => co_X3_doOver h A9, fun U A9 h => in_X3 h A9, ml_X2_29 hk.1 _, sm_X4_X3_doOver hk.1 _, su_X2 hk.1 _, up_4 hk, im_X3_doOver hk.1 _, by decide +kernel, ⟨⟨rfl, rfl⟩, by decide, by decide⟩, by decide, by decide⟩ hP hD hS hl.1 (Nat.le_of_ble_eq_true rfl) dX2_doOver_10 (fun H locs hP hD hS => ?_)
  have hP : va_P D cls ((h0, .inr (ci, [.ref ht, .int kd, .int zn, .int lm, .int ch, .int le, .int co, .int dr, .int (bi la)])) :: wt ca ht hr (tb 2 0 (tb 2 4 t))) H := hP
  have hD : va_D A ((h0, .inr (ci, [.ref ht, .int kd, .int zn, .int lm, .int ch, .int le, .int co, .int dr, .int (bi la)])) :: wt ca ht hr (tb 2 0 (tb 2 4 t))) := hD
  refine lv_if_eq (tgt := 28) hx hb dX2_doOver_13 (by decide) (fun c_1 => ?_) (fun c_1 => ?_)
  · refine lv_iconst (v := 0) hx hb dX2_doOver_28 (by decide) ?_
    exact rz C hrt hlocks (by show _ = bi (decide (lm ≤ le) && decide (3 ≤ co)); rw [bi_eq0 (b := decide (lm ≤ le)) c_1]; rfl) hP hS dX2_doOver_29
  · refine lv_aload_n hx hb dX2_doOver_16 rfl (lv_at hl 0 rfl) ?_
    refine va_get (D := D) (C := Cn) (T := TX3) (N := 9) hx hb (hd.2 _ _ hk.1) (fun _ h9 => h9) hown hK hP 0 rfl hd.1 6 (by decide) (fl_X2_33 hk.1 _) (fun x9 h9 => u_same (sf_X2_count hk.1 #[]) x9 h9) rfl dX2_doOver_17 ?_
    refine lv_iconst (v := 3) hx hb dX2_doOver_20 (by decide) ?_
    refine lv_icmp_lt (tgt := 28) hx hb dX2_doOver_21 (by decide) (fun c_2 => ?_) (fun c_2 => ?_)
    · refine lv_iconst (v := 0) hx hb dX2_doOver_28 (by decide) ?_
      exact rz C hrt hlocks (by show _ = bi (decide (lm ≤ le) && decide (3 ≤ co)); rw [bi_ne0 (b := decide (lm ≤ le)) c_1, decide_eq_false (fun h9 => absurd c_2 (Int32.not_lt.mpr h9))]; rfl) hP hS dX2_doOver_29
    · refine lv_iconst (v := 1) hx hb dX2_doOver_24 (by decide) ?_
      refine lv_goto (tgt := 29) hx hb dX2_doOver_25 (by decide) ?_
      exact rz C hrt hlocks (by show _ = bi (decide (lm ≤ le) && decide (3 ≤ co)); rw [bi_ne0 (b := decide (lm ≤ le)) c_1, decide_eq_true (Int32.not_lt.mp c_2)]; rfl) hP hS dX2_doOver_29

set_option maxHeartbeats 4000000 in
set_option maxRecDepth 100000 in
theorem oF (l : Launch) (D : va_G) (ca : Nat → ClassId) (sa : Nat → Nat) (lo : Nat) {ci : Nat} {Cn : String} (hd : isD ci Cn) : cO l D ca sa lo yX1_doOver cX1_doOver 1 ({ frames := 2, cells := 0, slots := 0, locals := 60 }) ci poF := by
  intro sz h0 ht hr kd zn lm d t
  obtain ⟨ch, le, co, dr, la⟩ := d
  generalize hr9 : poF lm (ch, le, co, dr, la) t = r
  refine mk_met (fun A => QI D (bi r.1) (wd ca h0 ht hr ci kd zn lm r.2.1 r.2.2) A) (by decide) (Nat.le_of_ble_eq_true rfl) ?_
  intro p e s m below meth c A ls C hrt hlocks hnm hsz hP hD hS hl
  obtain ⟨hx, hb, hml, hown, hk, hz, hlo, hA, hAl⟩ := id C
  have hK : va_K D cls (tyl ca) s := hk.2.1
  have hl : lv_has ls 1 [(0, .ref h0)] := hl
  have hP : va_P D cls ((h0, .inr (ci, [.ref ht, .int kd, .int zn, .int lm, .int ch, .int le, .int co, .int dr, .int (bi la)])) :: wt ca ht hr t) s.heap := hP
  have hD : va_D A ((h0, .inr (ci, [.ref ht, .int kd, .int zn, .int lm, .int ch, .int le, .int co, .int dr, .int (bi la)])) :: wt ca ht hr t) := hD
  refine lv_aload_n hx hb dX1_doOver_0 rfl (lv_at hl 0 rfl) ?_
  refine va_get (D := D) (C := Cn) (T := TX3) (N := 9) hx hb (hd.2 _ _ hk.1) (fun _ h9 => h9) hown hK hP 0 rfl hd.1 0 (by decide) (fl_X1_9 hk.1 _) (fun x9 h9 => u_same (sf_X1_trace hk.1 #[]) x9 h9) rfl dX1_doOver_1 ?_
  refine lv_iconst (v := 2) hx hb dX1_doOver_4 (by decide) ?_
  refine lv_bipush (v := 6) hx hb dX1_doOver_5 (by decide) ?_
  refine cb_begin C (ml_X1_15 hk.1 _) hP hD hS hl.1 ⟨by decide, by decide⟩ (Nat.le_of_ble_eq_true rfl) dX1_doOver_7 ⟨by decide, by decide⟩ (fun H locs hP hD hS => ?_)
  have hP : va_P D cls ((h0, .inr (ci, [.ref ht, .int kd, .int zn, .int lm, .int ch, .int le, .int co, .int dr, .int (bi la)])) :: wt ca ht hr (tb 2 6 t)) H := hP
  have hD : va_D A ((h0, .inr (ci, [.ref ht, .int kd, .int zn, .int lm, .int ch, .int le, .int co, .int dr, .int (bi la)])) :: wt ca ht hr (tb 2 6 t)) := hD
  refine lv_aload_n hx hb dX1_doOver_10 rfl (lv_at hl 0 rfl) ?_
  refine va_get (D := D) (C := Cn) (T := TX3) (N := 9) hx hb (hd.2 _ _ hk.1) (fun _ h9 => h9) hown hK hP 0 rfl hd.1 8 (by decide) (fl_X1_21 hk.1 _) (fun x9 h9 => u_same (sf_X1_latched hk.1 #[]) x9 h9) rfl dX1_doOver_11 ?_
  refine lv_if_ne (tgt := 25) hx hb dX1_doOver_14 (by decide) (fun c_1 => ?_) (fun c_1 => ?_)
  · obtain rfl : la = true := bi_ne0 c_1
    have hr9 : r = (true, (ch, le, co, dr, true), tb 2 6 t) := by rw [← hr9]; rfl
    subst hr9
    refine lv_aload_n hx hb dX1_doOver_25 rfl (lv_at hl 0 rfl) ?_
    refine va_get (D := D) (C := Cn) (T := TX3) (N := 9) hx hb (hd.2 _ _ hk.1) (fun _ h9 => h9) hown hK hP 0 rfl hd.1 8 (by decide) (fl_X1_21 hk.1 _) (fun x9 h9 => u_same (sf_X1_latched hk.1 #[]) x9 h9) rfl dX1_doOver_26 ?_
    exact rz C hrt hlocks rfl hP hS dX1_doOver_29
  · obtain rfl : la = false := bi_eq0 c_1
    have hr9 : r = (decide (lm ≤ le), (ch, le, co, dr, decide (lm ≤ le)), tb 2 0 (tb 2 6 t)) := by rw [← hr9]; rfl
    subst hr9
    refine lv_aload_n hx hb dX1_doOver_17 rfl (lv_at hl 0 rfl) ?_
    refine lv_aload_n hx hb dX1_doOver_18 rfl (lv_at hl 0 rfl) ?_
    refine kOS (x := ⟨"AlarmKinds$Wired", "doOver", "()Z"⟩) (d := (ch, le, co, dr, false)) (t := tb 2 6 t) hd C (oP l D ca sa lo hd) ⟨fun U A9 h => co_X3_doOver h A9, fun U A9 h => in_X3 h A9, ml_X1_25 hk.1 _, sm_X8_X3_doOver hk.1 _, su_X1 hk.1 _, up_84 hk, im_X3_doOver hk.1 _, by decide +kernel, ⟨⟨rfl, rfl⟩, by decide, by decide⟩, by decide, by decide⟩ hP hD hS hl.1 (Nat.le_of_ble_eq_true rfl) dX1_doOver_19 (fun H locs hP hD hS => ?_)
    have hP : va_P D cls ((h0, .inr (ci, [.ref ht, .int kd, .int zn, .int lm, .int ch, .int le, .int co, .int dr, .int (bi false)])) :: wt ca ht hr (tb 2 0 (tb 2 6 t))) H := hP
    have hD : va_D A ((h0, .inr (ci, [.ref ht, .int kd, .int zn, .int lm, .int ch, .int le, .int co, .int dr, .int (bi false)])) :: wt ca ht hr (tb 2 0 (tb 2 6 t))) := hD
    refine va_put (D := D) (v := .int (bi (decide (lm ≤ le)))) (ty := .boolean) (C := Cn) (T := TX3) (N := 9) hx hb (hd.2 _ _ hk.1) (fun _ h9 => h9) tyX3 tyX3_ok nmX3 hown hK hP hD hS 0 rfl hd.1 8 (by decide) (fl_X1_21 hk.1 _) (fun x9 h9 => u_same (sf_X1_latched hk.1 #[]) x9 h9) rfl (by decide +kernel) (nar_b _) (fit_b _) (Nat.le_of_ble_eq_true rfl) dX1_doOver_22 (fun H locs hP hD hS => ?_)
    have hP : va_P D cls ((h0, .inr (ci, [.ref ht, .int kd, .int zn, .int lm, .int ch, .int le, .int co, .int dr, .int (bi (decide (lm ≤ le)))])) :: wt ca ht hr (tb 2 0 (tb 2 6 t))) H := hP
    have hD : va_D A ((h0, .inr (ci, [.ref ht, .int kd, .int zn, .int lm, .int ch, .int le, .int co, .int dr, .int (bi (decide (lm ≤ le)))])) :: wt ca ht hr (tb 2 0 (tb 2 6 t))) := hD
    refine lv_aload_n hx hb dX1_doOver_25 rfl (lv_at hl 0 rfl) ?_
    refine va_get (D := D) (C := Cn) (T := TX3) (N := 9) hx hb (hd.2 _ _ hk.1) (fun _ h9 => h9) hown hK hP 0 rfl hd.1 8 (by decide) (fl_X1_21 hk.1 _) (fun x9 h9 => u_same (sf_X1_latched hk.1 #[]) x9 h9) rfl dX1_doOver_26 ?_
    exact rz C hrt hlocks rfl hP hS dX1_doOver_29

set_option maxHeartbeats 4000000 in
set_option maxRecDepth 100000 in
theorem cP (l : Launch) (D : va_G) (ca : Nat → ClassId) (sa : Nat → Nat) (lo : Nat) {ci : Nat} {Cn : String} (hd : isD ci Cn) : cC l D ca sa lo yX3_doClear cX3_doClear 1 ({ frames := 1, cells := 0, slots := 0, locals := 30 }) ci pcP := by
  intro sz h0 ht hr kd zn lm d t
  obtain ⟨ch, le, co, dr, la⟩ := d
  refine mk_met (fun A => QV D (wd ca h0 ht hr ci kd zn lm (pcP (ch, le, co, dr, la) t).1 (pcP (ch, le, co, dr, la) t).2) A) (by decide) (Nat.le_of_ble_eq_true rfl) ?_
  intro p e s m below meth c A ls C hrt hlocks hnm hsz hP hD hS hl
  obtain ⟨hx, hb, hml, hown, hk, hz, hlo, hA, hAl⟩ := id C
  have hK : va_K D cls (tyl ca) s := hk.2.1
  have hl : lv_has ls 1 [(0, .ref h0)] := hl
  have hP : va_P D cls ((h0, .inr (ci, [.ref ht, .int kd, .int zn, .int lm, .int ch, .int le, .int co, .int dr, .int (bi la)])) :: wt ca ht hr t) s.heap := hP
  have hD : va_D A ((h0, .inr (ci, [.ref ht, .int kd, .int zn, .int lm, .int ch, .int le, .int co, .int dr, .int (bi la)])) :: wt ca ht hr t) := hD
  refine lv_aload_n hx hb dX3_doClear_0 rfl (lv_at hl 0 rfl) ?_
  refine va_get (D := D) (C := Cn) (T := TX3) (N := 9) hx hb (hd.2 _ _ hk.1) (fun _ h9 => h9) hown hK hP 0 rfl hd.1 0 (by decide) (fl_X3_9 hk.1 _) (fun _ h9 => h9) rfl dX3_doClear_1 ?_
  refine lv_iconst (v := 3) hx hb dX3_doClear_4 (by decide) ?_
  refine lv_iconst (v := 0) hx hb dX3_doClear_5 (by decide) ?_
  refine cb_begin C (ml_X3_28 hk.1 _) hP hD hS hl.1 ⟨by decide, by decide⟩ (Nat.le_of_ble_eq_true rfl) dX3_doClear_6 ⟨by decide, by decide⟩ (fun H locs hP hD hS => ?_)
  have hP : va_P D cls ((h0, .inr (ci, [.ref ht, .int kd, .int zn, .int lm, .int ch, .int le, .int co, .int dr, .int (bi la)])) :: wt ca ht hr (tb 3 0 t)) H := hP
  have hD : va_D A ((h0, .inr (ci, [.ref ht, .int kd, .int zn, .int lm, .int ch, .int le, .int co, .int dr, .int (bi la)])) :: wt ca ht hr (tb 3 0 t)) := hD
  refine lv_aload_n hx hb dX3_doClear_9 rfl (lv_at hl 0 rfl) ?_
  refine lv_iconst (v := 0) hx hb dX3_doClear_10 (by decide) ?_
  refine va_put (D := D) (v := .int 0) (ty := .int) (C := Cn) (T := TX3) (N := 9) hx hb (hd.2 _ _ hk.1) (fun _ h9 => h9) tyX3 tyX3_ok nmX3 hown hK hP hD hS 0 rfl hd.1 5 (by decide) (fl_X3_38 hk.1 _) (fun _ h9 => h9) rfl (by decide +kernel) rfl rfl (Nat.le_of_ble_eq_true rfl) dX3_doClear_11 (fun H locs hP hD hS => ?_)
  have hP : va_P D cls ((h0, .inr (ci, [.ref ht, .int kd, .int zn, .int lm, .int ch, .int 0, .int co, .int dr, .int (bi la)])) :: wt ca ht hr (tb 3 0 t)) H := hP
  have hD : va_D A ((h0, .inr (ci, [.ref ht, .int kd, .int zn, .int lm, .int ch, .int 0, .int co, .int dr, .int (bi la)])) :: wt ca ht hr (tb 3 0 t)) := hD
  refine lv_aload_n hx hb dX3_doClear_14 rfl (lv_at hl 0 rfl) ?_
  refine lv_iconst (v := 0) hx hb dX3_doClear_15 (by decide) ?_
  refine va_put (D := D) (v := .int 0) (ty := .int) (C := Cn) (T := TX3) (N := 9) hx hb (hd.2 _ _ hk.1) (fun _ h9 => h9) tyX3 tyX3_ok nmX3 hown hK hP hD hS 0 rfl hd.1 6 (by decide) (fl_X3_41 hk.1 _) (fun _ h9 => h9) rfl (by decide +kernel) rfl rfl (Nat.le_of_ble_eq_true rfl) dX3_doClear_16 (fun H locs hP hD hS => ?_)
  have hP : va_P D cls ((h0, .inr (ci, [.ref ht, .int kd, .int zn, .int lm, .int ch, .int 0, .int 0, .int dr, .int (bi la)])) :: wt ca ht hr (tb 3 0 t)) H := hP
  have hD : va_D A ((h0, .inr (ci, [.ref ht, .int kd, .int zn, .int lm, .int ch, .int 0, .int 0, .int dr, .int (bi la)])) :: wt ca ht hr (tb 3 0 t)) := hD
  exact rv C hrt hlocks hP hS dX3_doClear_19

set_option maxHeartbeats 4000000 in
set_option maxRecDepth 100000 in
theorem cB (l : Launch) (D : va_G) (ca : Nat → ClassId) (sa : Nat → Nat) (lo : Nat) {ci : Nat} {Cn : String} (hd : isD ci Cn) : cC l D ca sa lo yX0_doClear cX0_doClear 1 ({ frames := 2, cells := 0, slots := 0, locals := 60 }) ci pcB := by
  intro sz h0 ht hr kd zn lm d t
  obtain ⟨ch, le, co, dr, la⟩ := d
  refine mk_met (fun A => QV D (wd ca h0 ht hr ci kd zn lm (pcB (ch, le, co, dr, la) t).1 (pcB (ch, le, co, dr, la) t).2) A) (by decide) (Nat.le_of_ble_eq_true rfl) ?_
  intro p e s m below meth c A ls C hrt hlocks hnm hsz hP hD hS hl
  obtain ⟨hx, hb, hml, hown, hk, hz, hlo, hA, hAl⟩ := id C
  have hK : va_K D cls (tyl ca) s := hk.2.1
  have hl : lv_has ls 1 [(0, .ref h0)] := hl
  have hP : va_P D cls ((h0, .inr (ci, [.ref ht, .int kd, .int zn, .int lm, .int ch, .int le, .int co, .int dr, .int (bi la)])) :: wt ca ht hr t) s.heap := hP
  have hD : va_D A ((h0, .inr (ci, [.ref ht, .int kd, .int zn, .int lm, .int ch, .int le, .int co, .int dr, .int (bi la)])) :: wt ca ht hr t) := hD
  refine lv_aload_n hx hb dX0_doClear_0 rfl (lv_at hl 0 rfl) ?_
  refine va_get (D := D) (C := Cn) (T := TX3) (N := 9) hx hb (hd.2 _ _ hk.1) (fun _ h9 => h9) hown hK hP 0 rfl hd.1 0 (by decide) (fl_X0_9 hk.1 _) (fun x9 h9 => u_same (sf_X0_trace hk.1 #[]) x9 h9) rfl dX0_doClear_1 ?_
  refine lv_iconst (v := 3) hx hb dX0_doClear_4 (by decide) ?_
  refine lv_iconst (v := 5) hx hb dX0_doClear_5 (by decide) ?_
  refine cb_begin C (ml_X0_15 hk.1 _) hP hD hS hl.1 ⟨by decide, by decide⟩ (Nat.le_of_ble_eq_true rfl) dX0_doClear_6 ⟨by decide, by decide⟩ (fun H locs hP hD hS => ?_)
  have hP : va_P D cls ((h0, .inr (ci, [.ref ht, .int kd, .int zn, .int lm, .int ch, .int le, .int co, .int dr, .int (bi la)])) :: wt ca ht hr (tb 3 5 t)) H := hP
  have hD : va_D A ((h0, .inr (ci, [.ref ht, .int kd, .int zn, .int lm, .int ch, .int le, .int co, .int dr, .int (bi la)])) :: wt ca ht hr (tb 3 5 t)) := hD
  refine lv_aload_n hx hb dX0_doClear_9 rfl (lv_at hl 0 rfl) ?_
  refine kCS (x := ⟨"AlarmKinds$Radio", "doClear", "()V"⟩) (d := (ch, le, co, dr, la)) (t := tb 3 5 t) hd C (cP l D ca sa lo hd) ⟨fun U A9 h => co_X3_doClear h A9, fun U A9 h => in_X3 h A9, ml_X0_36 hk.1 _, sm_X4_X3_doClear hk.1 _, su_X0 hk.1 _, up_4 hk, im_X3_doClear hk.1 _, by decide +kernel, ⟨⟨rfl, rfl⟩, by decide, by decide⟩, by decide, by decide⟩ hP hD hS hl.1 (Nat.le_of_ble_eq_true rfl) dX0_doClear_10 (fun H locs hP hD hS => ?_)
  have hP : va_P D cls ((h0, .inr (ci, [.ref ht, .int kd, .int zn, .int lm, .int ch, .int 0, .int 0, .int dr, .int (bi la)])) :: wt ca ht hr (tb 3 0 (tb 3 5 t))) H := hP
  have hD : va_D A ((h0, .inr (ci, [.ref ht, .int kd, .int zn, .int lm, .int ch, .int 0, .int 0, .int dr, .int (bi la)])) :: wt ca ht hr (tb 3 0 (tb 3 5 t))) := hD
  refine lv_aload_n hx hb dX0_doClear_13 rfl (lv_at hl 0 rfl) ?_
  refine lv_dup hx hb dX0_doClear_14 rfl ?_
  refine va_get (D := D) (C := Cn) (T := TX3) (N := 9) hx hb (hd.2 _ _ hk.1) (fun _ h9 => h9) hown hK hP 0 rfl hd.1 4 (by decide) (fl_X0_40 hk.1 _) (fun x9 h9 => u_same (sf_X0_charge hk.1 #[]) x9 h9) rfl dX0_doClear_15 ?_
  refine lv_iconst (v := 1) hx hb dX0_doClear_18 (by decide) ?_
  refine lv_iadd hx hb dX0_doClear_19 ?_
  refine va_put (D := D) (v := .int (ch + 1)) (ty := .int) (C := Cn) (T := TX3) (N := 9) hx hb (hd.2 _ _ hk.1) (fun _ h9 => h9) tyX3 tyX3_ok nmX3 hown hK hP hD hS 0 rfl hd.1 4 (by decide) (fl_X0_40 hk.1 _) (fun x9 h9 => u_same (sf_X0_charge hk.1 #[]) x9 h9) rfl (by decide +kernel) rfl rfl (Nat.le_of_ble_eq_true rfl) dX0_doClear_20 (fun H locs hP hD hS => ?_)
  have hP : va_P D cls ((h0, .inr (ci, [.ref ht, .int kd, .int zn, .int lm, .int (ch + 1), .int 0, .int 0, .int dr, .int (bi la)])) :: wt ca ht hr (tb 3 0 (tb 3 5 t))) H := hP
  have hD : va_D A ((h0, .inr (ci, [.ref ht, .int kd, .int zn, .int lm, .int (ch + 1), .int 0, .int 0, .int dr, .int (bi la)])) :: wt ca ht hr (tb 3 0 (tb 3 5 t))) := hD
  exact rv C hrt hlocks hP hS dX0_doClear_23

set_option maxHeartbeats 4000000 in
set_option maxRecDepth 100000 in
theorem cF (l : Launch) (D : va_G) (ca : Nat → ClassId) (sa : Nat → Nat) (lo : Nat) {ci : Nat} {Cn : String} (hd : isD ci Cn) : cC l D ca sa lo yX1_doClear cX1_doClear 1 ({ frames := 2, cells := 0, slots := 0, locals := 60 }) ci pcF := by
  intro sz h0 ht hr kd zn lm d t
  obtain ⟨ch, le, co, dr, la⟩ := d
  refine mk_met (fun A => QV D (wd ca h0 ht hr ci kd zn lm (pcF (ch, le, co, dr, la) t).1 (pcF (ch, le, co, dr, la) t).2) A) (by decide) (Nat.le_of_ble_eq_true rfl) ?_
  intro p e s m below meth c A ls C hrt hlocks hnm hsz hP hD hS hl
  obtain ⟨hx, hb, hml, hown, hk, hz, hlo, hA, hAl⟩ := id C
  have hK : va_K D cls (tyl ca) s := hk.2.1
  have hl : lv_has ls 1 [(0, .ref h0)] := hl
  have hP : va_P D cls ((h0, .inr (ci, [.ref ht, .int kd, .int zn, .int lm, .int ch, .int le, .int co, .int dr, .int (bi la)])) :: wt ca ht hr t) s.heap := hP
  have hD : va_D A ((h0, .inr (ci, [.ref ht, .int kd, .int zn, .int lm, .int ch, .int le, .int co, .int dr, .int (bi la)])) :: wt ca ht hr t) := hD
  refine lv_aload_n hx hb dX1_doClear_0 rfl (lv_at hl 0 rfl) ?_
  refine va_get (D := D) (C := Cn) (T := TX3) (N := 9) hx hb (hd.2 _ _ hk.1) (fun _ h9 => h9) hown hK hP 0 rfl hd.1 0 (by decide) (fl_X1_9 hk.1 _) (fun x9 h9 => u_same (sf_X1_trace hk.1 #[]) x9 h9) rfl dX1_doClear_1 ?_
  refine lv_iconst (v := 3) hx hb dX1_doClear_4 (by decide) ?_
  refine lv_bipush (v := 6) hx hb dX1_doClear_5 (by decide) ?_
  refine cb_begin C (ml_X1_15 hk.1 _) hP hD hS hl.1 ⟨by decide, by decide⟩ (Nat.le_of_ble_eq_true rfl) dX1_doClear_7 ⟨by decide, by decide⟩ (fun H locs hP hD hS => ?_)
  have hP : va_P D cls ((h0, .inr (ci, [.ref ht, .int kd, .int zn, .int lm, .int ch, .int le, .int co, .int dr, .int (bi la)])) :: wt ca ht hr (tb 3 6 t)) H := hP
  have hD : va_D A ((h0, .inr (ci, [.ref ht, .int kd, .int zn, .int lm, .int ch, .int le, .int co, .int dr, .int (bi la)])) :: wt ca ht hr (tb 3 6 t)) := hD
  refine lv_aload_n hx hb dX1_doClear_10 rfl (lv_at hl 0 rfl) ?_
  refine kCS (x := ⟨"AlarmKinds$Wired", "doClear", "()V"⟩) (d := (ch, le, co, dr, la)) (t := tb 3 6 t) hd C (cP l D ca sa lo hd) ⟨fun U A9 h => co_X3_doClear h A9, fun U A9 h => in_X3 h A9, ml_X1_29 hk.1 _, sm_X8_X3_doClear hk.1 _, su_X1 hk.1 _, up_84 hk, im_X3_doClear hk.1 _, by decide +kernel, ⟨⟨rfl, rfl⟩, by decide, by decide⟩, by decide, by decide⟩ hP hD hS hl.1 (Nat.le_of_ble_eq_true rfl) dX1_doClear_11 (fun H locs hP hD hS => ?_)
  have hP : va_P D cls ((h0, .inr (ci, [.ref ht, .int kd, .int zn, .int lm, .int ch, .int 0, .int 0, .int dr, .int (bi la)])) :: wt ca ht hr (tb 3 0 (tb 3 6 t))) H := hP
  have hD : va_D A ((h0, .inr (ci, [.ref ht, .int kd, .int zn, .int lm, .int ch, .int 0, .int 0, .int dr, .int (bi la)])) :: wt ca ht hr (tb 3 0 (tb 3 6 t))) := hD
  refine lv_aload_n hx hb dX1_doClear_14 rfl (lv_at hl 0 rfl) ?_
  refine lv_iconst (v := 0) hx hb dX1_doClear_15 (by decide) ?_
  refine va_put (D := D) (v := .int 0) (ty := .boolean) (C := Cn) (T := TX3) (N := 9) hx hb (hd.2 _ _ hk.1) (fun _ h9 => h9) tyX3 tyX3_ok nmX3 hown hK hP hD hS 0 rfl hd.1 8 (by decide) (fl_X1_21 hk.1 _) (fun x9 h9 => u_same (sf_X1_latched hk.1 #[]) x9 h9) rfl (by decide +kernel) rfl rfl (Nat.le_of_ble_eq_true rfl) dX1_doClear_16 (fun H locs hP hD hS => ?_)
  have hP : va_P D cls ((h0, .inr (ci, [.ref ht, .int kd, .int zn, .int lm, .int ch, .int 0, .int 0, .int dr, .int 0])) :: wt ca ht hr (tb 3 0 (tb 3 6 t))) H := hP
  have hD : va_D A ((h0, .inr (ci, [.ref ht, .int kd, .int zn, .int lm, .int ch, .int 0, .int 0, .int dr, .int 0])) :: wt ca ht hr (tb 3 0 (tb 3 6 t))) := hD
  exact rv C hrt hlocks hP hS dX1_doClear_19

set_option maxHeartbeats 4000000 in
set_option maxRecDepth 100000 in
theorem cT (l : Launch) (D : va_G) (ca : Nat → ClassId) (sa : Nat → Nat) (lo : Nat) {ci : Nat} {Cn : String} (hd : isD ci Cn) : cC l D ca sa lo yX7_doClear cX7_doClear 1 ({ frames := 2, cells := 0, slots := 0, locals := 60 }) ci pcT := by
  intro sz h0 ht hr kd zn lm d t
  obtain ⟨ch, le, co, dr, la⟩ := d
  refine mk_met (fun A => QV D (wd ca h0 ht hr ci kd zn lm (pcT (ch, le, co, dr, la) t).1 (pcT (ch, le, co, dr, la) t).2) A) (by decide) (Nat.le_of_ble_eq_true rfl) ?_
  intro p e s m below meth c A ls C hrt hlocks hnm hsz hP hD hS hl
  obtain ⟨hx, hb, hml, hown, hk, hz, hlo, hA, hAl⟩ := id C
  have hK : va_K D cls (tyl ca) s := hk.2.1
  have hl : lv_has ls 1 [(0, .ref h0)] := hl
  have hP : va_P D cls ((h0, .inr (ci, [.ref ht, .int kd, .int zn, .int lm, .int ch, .int le, .int co, .int dr, .int (bi la)])) :: wt ca ht hr t) s.heap := hP
  have hD : va_D A ((h0, .inr (ci, [.ref ht, .int kd, .int zn, .int lm, .int ch, .int le, .int co, .int dr, .int (bi la)])) :: wt ca ht hr t) := hD
  refine lv_aload_n hx hb dX7_doClear_0 rfl (lv_at hl 0 rfl) ?_
  refine va_get (D := D) (C := Cn) (T := TX3) (N := 9) hx hb (hd.2 _ _ hk.1) (fun _ h9 => h9) hown hK hP 0 rfl hd.1 0 (by decide) (fl_X7_9 hk.1 _) (fun x9 h9 => u_same (sf_X7_trace hk.1 #[]) x9 h9) rfl dX7_doClear_1 ?_
  refine lv_iconst (v := 3) hx hb dX7_doClear_4 (by decide) ?_
  refine lv_bipush (v := 7) hx hb dX7_doClear_5 (by decide) ?_
  refine cb_begin C (ml_X7_15 hk.1 _) hP hD hS hl.1 ⟨by decide, by decide⟩ (Nat.le_of_ble_eq_true rfl) dX7_doClear_7 ⟨by decide, by decide⟩ (fun H locs hP hD hS => ?_)
  have hP : va_P D cls ((h0, .inr (ci, [.ref ht, .int kd, .int zn, .int lm, .int ch, .int le, .int co, .int dr, .int (bi la)])) :: wt ca ht hr (tb 3 7 t)) H := hP
  have hD : va_D A ((h0, .inr (ci, [.ref ht, .int kd, .int zn, .int lm, .int ch, .int le, .int co, .int dr, .int (bi la)])) :: wt ca ht hr (tb 3 7 t)) := hD
  refine lv_aload_n hx hb dX7_doClear_10 rfl (lv_at hl 0 rfl) ?_
  refine kCS (x := ⟨"AlarmKinds$Smoke", "doClear", "()V"⟩) (d := (ch, le, co, dr, la)) (t := tb 3 7 t) hd C (cP l D ca sa lo hd) ⟨fun U A9 h => co_X3_doClear h A9, fun U A9 h => in_X3 h A9, ml_X7_25 hk.1 _, sm_X5_X3_doClear hk.1 _, su_X7 hk.1 _, up_5 hk, im_X3_doClear hk.1 _, by decide +kernel, ⟨⟨rfl, rfl⟩, by decide, by decide⟩, by decide, by decide⟩ hP hD hS hl.1 (Nat.le_of_ble_eq_true rfl) dX7_doClear_11 (fun H locs hP hD hS => ?_)
  have hP : va_P D cls ((h0, .inr (ci, [.ref ht, .int kd, .int zn, .int lm, .int ch, .int 0, .int 0, .int dr, .int (bi la)])) :: wt ca ht hr (tb 3 0 (tb 3 7 t))) H := hP
  have hD : va_D A ((h0, .inr (ci, [.ref ht, .int kd, .int zn, .int lm, .int ch, .int 0, .int 0, .int dr, .int (bi la)])) :: wt ca ht hr (tb 3 0 (tb 3 7 t))) := hD
  refine lv_aload_n hx hb dX7_doClear_14 rfl (lv_at hl 0 rfl) ?_
  refine lv_iconst (v := 0) hx hb dX7_doClear_15 (by decide) ?_
  refine va_put (D := D) (v := .int 0) (ty := .int) (C := Cn) (T := TX3) (N := 9) hx hb (hd.2 _ _ hk.1) (fun _ h9 => h9) tyX3 tyX3_ok nmX3 hown hK hP hD hS 0 rfl hd.1 7 (by decide) (fl_X7_29 hk.1 _) (fun x9 h9 => u_same (sf_X7_drift hk.1 #[]) x9 h9) rfl (by decide +kernel) rfl rfl (Nat.le_of_ble_eq_true rfl) dX7_doClear_16 (fun H locs hP hD hS => ?_)
  have hP : va_P D cls ((h0, .inr (ci, [.ref ht, .int kd, .int zn, .int lm, .int ch, .int 0, .int 0, .int 0, .int (bi la)])) :: wt ca ht hr (tb 3 0 (tb 3 7 t))) H := hP
  have hD : va_D A ((h0, .inr (ci, [.ref ht, .int kd, .int zn, .int lm, .int ch, .int 0, .int 0, .int 0, .int (bi la)])) :: wt ca ht hr (tb 3 0 (tb 3 7 t))) := hD
  exact rv C hrt hlocks hP hS dX7_doClear_19

set_option maxHeartbeats 4000000 in
set_option maxRecDepth 100000 in
theorem kP (l : Launch) (D : va_G) (ca : Nat → ClassId) (sa : Nat → Nat) (lo : Nat) {ci : Nat} {Cn : String} (hd : isD ci Cn) : cK l D ca sa lo yX3_doCost cX3_doCost 1 ({ frames := 1, cells := 0, slots := 0, locals := 30 }) ci pkP := by
  intro sz h0 ht hr kd zn lm d t
  obtain ⟨ch, le, co, dr, la⟩ := d
  refine mk_met (fun A => QI D (pkP (ch, le, co, dr, la) t).1 (wd ca h0 ht hr ci kd zn lm (ch, le, co, dr, la) (pkP (ch, le, co, dr, la) t).2) A) (by decide) (Nat.le_of_ble_eq_true rfl) ?_
  intro p e s m below meth c A ls C hrt hlocks hnm hsz hP hD hS hl
  obtain ⟨hx, hb, hml, hown, hk, hz, hlo, hA, hAl⟩ := id C
  have hK : va_K D cls (tyl ca) s := hk.2.1
  have hl : lv_has ls 1 [(0, .ref h0)] := hl
  have hP : va_P D cls ((h0, .inr (ci, [.ref ht, .int kd, .int zn, .int lm, .int ch, .int le, .int co, .int dr, .int (bi la)])) :: wt ca ht hr t) s.heap := hP
  have hD : va_D A ((h0, .inr (ci, [.ref ht, .int kd, .int zn, .int lm, .int ch, .int le, .int co, .int dr, .int (bi la)])) :: wt ca ht hr t) := hD
  refine lv_aload_n hx hb dX3_doCost_0 rfl (lv_at hl 0 rfl) ?_
  refine va_get (D := D) (C := Cn) (T := TX3) (N := 9) hx hb (hd.2 _ _ hk.1) (fun _ h9 => h9) hown hK hP 0 rfl hd.1 0 (by decide) (fl_X3_9 hk.1 _) (fun _ h9 => h9) rfl dX3_doCost_1 ?_
  refine lv_iconst (v := 4) hx hb dX3_doCost_4 (by decide) ?_
  refine lv_iconst (v := 0) hx hb dX3_doCost_5 (by decide) ?_
  refine cb_begin C (ml_X3_28 hk.1 _) hP hD hS hl.1 ⟨by decide, by decide⟩ (Nat.le_of_ble_eq_true rfl) dX3_doCost_6 ⟨by decide, by decide⟩ (fun H locs hP hD hS => ?_)
  have hP : va_P D cls ((h0, .inr (ci, [.ref ht, .int kd, .int zn, .int lm, .int ch, .int le, .int co, .int dr, .int (bi la)])) :: wt ca ht hr (tb 4 0 t)) H := hP
  have hD : va_D A ((h0, .inr (ci, [.ref ht, .int kd, .int zn, .int lm, .int ch, .int le, .int co, .int dr, .int (bi la)])) :: wt ca ht hr (tb 4 0 t)) := hD
  refine lv_bipush (v := 10) hx hb dX3_doCost_9 (by decide) ?_
  refine lv_aload_n hx hb dX3_doCost_11 rfl (lv_at hl 0 rfl) ?_
  refine va_get (D := D) (C := Cn) (T := TX3) (N := 9) hx hb (hd.2 _ _ hk.1) (fun _ h9 => h9) hown hK hP 0 rfl hd.1 6 (by decide) (fl_X3_41 hk.1 _) (fun _ h9 => h9) rfl dX3_doCost_12 ?_
  refine lv_iadd hx hb dX3_doCost_15 ?_
  exact ri C hrt hlocks rfl hP hS dX3_doCost_16

set_option maxHeartbeats 4000000 in
set_option maxRecDepth 100000 in
theorem kR (l : Launch) (D : va_G) (ca : Nat → ClassId) (sa : Nat → Nat) (lo : Nat) {ci : Nat} {Cn : String} (hd : isD ci Cn) : cK l D ca sa lo yX4_doCost cX4_doCost 1 ({ frames := 2, cells := 0, slots := 0, locals := 60 }) ci pkR := by
  intro sz h0 ht hr kd zn lm d t
  obtain ⟨ch, le, co, dr, la⟩ := d
  refine mk_met (fun A => QI D (pkR (ch, le, co, dr, la) t).1 (wd ca h0 ht hr ci kd zn lm (ch, le, co, dr, la) (pkR (ch, le, co, dr, la) t).2) A) (by decide) (Nat.le_of_ble_eq_true rfl) ?_
  intro p e s m below meth c A ls C hrt hlocks hnm hsz hP hD hS hl
  obtain ⟨hx, hb, hml, hown, hk, hz, hlo, hA, hAl⟩ := id C
  have hK : va_K D cls (tyl ca) s := hk.2.1
  have hl : lv_has ls 1 [(0, .ref h0)] := hl
  have hP : va_P D cls ((h0, .inr (ci, [.ref ht, .int kd, .int zn, .int lm, .int ch, .int le, .int co, .int dr, .int (bi la)])) :: wt ca ht hr t) s.heap := hP
  have hD : va_D A ((h0, .inr (ci, [.ref ht, .int kd, .int zn, .int lm, .int ch, .int le, .int co, .int dr, .int (bi la)])) :: wt ca ht hr t) := hD
  refine lv_aload_n hx hb dX4_doCost_0 rfl (lv_at hl 0 rfl) ?_
  refine va_get (D := D) (C := Cn) (T := TX3) (N := 9) hx hb (hd.2 _ _ hk.1) (fun _ h9 => h9) hown hK hP 0 rfl hd.1 0 (by decide) (fl_X4_9 hk.1 _) (fun x9 h9 => u_same (sf_X4_trace hk.1 #[]) x9 h9) rfl dX4_doCost_1 ?_
  refine lv_iconst (v := 4) hx hb dX4_doCost_4 (by decide) ?_
  refine lv_iconst (v := 2) hx hb dX4_doCost_5 (by decide) ?_
  refine cb_begin C (ml_X4_15 hk.1 _) hP hD hS hl.1 ⟨by decide, by decide⟩ (Nat.le_of_ble_eq_true rfl) dX4_doCost_6 ⟨by decide, by decide⟩ (fun H locs hP hD hS => ?_)
  have hP : va_P D cls ((h0, .inr (ci, [.ref ht, .int kd, .int zn, .int lm, .int ch, .int le, .int co, .int dr, .int (bi la)])) :: wt ca ht hr (tb 4 2 t)) H := hP
  have hD : va_D A ((h0, .inr (ci, [.ref ht, .int kd, .int zn, .int lm, .int ch, .int le, .int co, .int dr, .int (bi la)])) :: wt ca ht hr (tb 4 2 t)) := hD
  refine lv_iconst (v := 2) hx hb dX4_doCost_9 (by decide) ?_
  refine lv_aload_n hx hb dX4_doCost_10 rfl (lv_at hl 0 rfl) ?_
  refine kKS (x := ⟨"AlarmKinds$Wired", "doCost", "()I"⟩) (d := (ch, le, co, dr, la)) (t := tb 4 2 t) hd C (kP l D ca sa lo hd) ⟨fun U A9 h => co_X3_doCost h A9, fun U A9 h => in_X3 h A9, ml_X4_39 hk.1 _, sm_X8_X3_doCost hk.1 _, su_X4 hk.1 _, up_84 hk, im_X3_doCost hk.1 _, by decide +kernel, ⟨⟨rfl, rfl⟩, by decide, by decide⟩, by decide, by decide⟩ hP hD hS hl.1 (Nat.le_of_ble_eq_true rfl) dX4_doCost_11 (fun H locs hP hD hS => ?_)
  have hP : va_P D cls ((h0, .inr (ci, [.ref ht, .int kd, .int zn, .int lm, .int ch, .int le, .int co, .int dr, .int (bi la)])) :: wt ca ht hr (tb 4 0 (tb 4 2 t))) H := hP
  have hD : va_D A ((h0, .inr (ci, [.ref ht, .int kd, .int zn, .int lm, .int ch, .int le, .int co, .int dr, .int (bi la)])) :: wt ca ht hr (tb 4 0 (tb 4 2 t))) := hD
  refine lv_imul hx hb dX4_doCost_14 ?_
  exact ri C hrt hlocks rfl hP hS dX4_doCost_15

set_option maxHeartbeats 4000000 in
set_option maxRecDepth 100000 in
theorem kF (l : Launch) (D : va_G) (ca : Nat → ClassId) (sa : Nat → Nat) (lo : Nat) {ci : Nat} {Cn : String} (hd : isD ci Cn) : cK l D ca sa lo yX1_doCost cX1_doCost 1 ({ frames := 2, cells := 0, slots := 0, locals := 60 }) ci pkF := by
  intro sz h0 ht hr kd zn lm d t
  obtain ⟨ch, le, co, dr, la⟩ := d
  refine mk_met (fun A => QI D (pkF (ch, le, co, dr, la) t).1 (wd ca h0 ht hr ci kd zn lm (ch, le, co, dr, la) (pkF (ch, le, co, dr, la) t).2) A) (by decide) (Nat.le_of_ble_eq_true rfl) ?_
  intro p e s m below meth c A ls C hrt hlocks hnm hsz hP hD hS hl
  obtain ⟨hx, hb, hml, hown, hk, hz, hlo, hA, hAl⟩ := id C
  have hK : va_K D cls (tyl ca) s := hk.2.1
  have hl : lv_has ls 1 [(0, .ref h0)] := hl
  have hP : va_P D cls ((h0, .inr (ci, [.ref ht, .int kd, .int zn, .int lm, .int ch, .int le, .int co, .int dr, .int (bi la)])) :: wt ca ht hr t) s.heap := hP
  have hD : va_D A ((h0, .inr (ci, [.ref ht, .int kd, .int zn, .int lm, .int ch, .int le, .int co, .int dr, .int (bi la)])) :: wt ca ht hr t) := hD
  refine lv_aload_n hx hb dX1_doCost_0 rfl (lv_at hl 0 rfl) ?_
  refine va_get (D := D) (C := Cn) (T := TX3) (N := 9) hx hb (hd.2 _ _ hk.1) (fun _ h9 => h9) hown hK hP 0 rfl hd.1 0 (by decide) (fl_X1_9 hk.1 _) (fun x9 h9 => u_same (sf_X1_trace hk.1 #[]) x9 h9) rfl dX1_doCost_1 ?_
  refine lv_iconst (v := 4) hx hb dX1_doCost_4 (by decide) ?_
  refine lv_bipush (v := 6) hx hb dX1_doCost_5 (by decide) ?_
  refine cb_begin C (ml_X1_15 hk.1 _) hP hD hS hl.1 ⟨by decide, by decide⟩ (Nat.le_of_ble_eq_true rfl) dX1_doCost_7 ⟨by decide, by decide⟩ (fun H locs hP hD hS => ?_)
  have hP : va_P D cls ((h0, .inr (ci, [.ref ht, .int kd, .int zn, .int lm, .int ch, .int le, .int co, .int dr, .int (bi la)])) :: wt ca ht hr (tb 4 6 t)) H := hP
  have hD : va_D A ((h0, .inr (ci, [.ref ht, .int kd, .int zn, .int lm, .int ch, .int le, .int co, .int dr, .int (bi la)])) :: wt ca ht hr (tb 4 6 t)) := hD
  refine lv_iconst (v := 5) hx hb dX1_doCost_10 (by decide) ?_
  refine lv_aload_n hx hb dX1_doCost_11 rfl (lv_at hl 0 rfl) ?_
  refine kKS (x := ⟨"AlarmKinds$Wired", "doCost", "()I"⟩) (d := (ch, le, co, dr, la)) (t := tb 4 6 t) hd C (kP l D ca sa lo hd) ⟨fun U A9 h => co_X3_doCost h A9, fun U A9 h => in_X3 h A9, ml_X1_33 hk.1 _, sm_X8_X3_doCost hk.1 _, su_X1 hk.1 _, up_84 hk, im_X3_doCost hk.1 _, by decide +kernel, ⟨⟨rfl, rfl⟩, by decide, by decide⟩, by decide, by decide⟩ hP hD hS hl.1 (Nat.le_of_ble_eq_true rfl) dX1_doCost_12 (fun H locs hP hD hS => ?_)
  have hP : va_P D cls ((h0, .inr (ci, [.ref ht, .int kd, .int zn, .int lm, .int ch, .int le, .int co, .int dr, .int (bi la)])) :: wt ca ht hr (tb 4 0 (tb 4 6 t))) H := hP
  have hD : va_D A ((h0, .inr (ci, [.ref ht, .int kd, .int zn, .int lm, .int ch, .int le, .int co, .int dr, .int (bi la)])) :: wt ca ht hr (tb 4 0 (tb 4 6 t))) := hD
  refine lv_iadd hx hb dX1_doCost_15 ?_
  exact ri C hrt hlocks rfl hP hS dX1_doCost_16

set_option maxHeartbeats 4000000 in
set_option maxRecDepth 100000 in
theorem kT (l : Launch) (D : va_G) (ca : Nat → ClassId) (sa : Nat → Nat) (lo : Nat) {ci : Nat} {Cn : String} (hd : isD ci Cn) : cK l D ca sa lo yX7_doCost cX7_doCost 1 ({ frames := 2, cells := 0, slots := 0, locals := 60 }) ci pkT := by
  intro sz h0 ht hr kd zn lm d t
  obtain ⟨ch, le, co, dr, la⟩ := d
  refine mk_met (fun A => QI D (pkT (ch, le, co, dr, la) t).1 (wd ca h0 ht hr ci kd zn lm (ch, le, co, dr, la) (pkT (ch, le, co, dr, la) t).2) A) (by decide) (Nat.le_of_ble_eq_true rfl) ?_
  intro p e s m below meth c A ls C hrt hlocks hnm hsz hP hD hS hl
  obtain ⟨hx, hb, hml, hown, hk, hz, hlo, hA, hAl⟩ := id C
  have hK : va_K D cls (tyl ca) s := hk.2.1
  have hl : lv_has ls 1 [(0, .ref h0)] := hl
  have hP : va_P D cls ((h0, .inr (ci, [.ref ht, .int kd, .int zn, .int lm, .int ch, .int le, .int co, .int dr, .int (bi la)])) :: wt ca ht hr t) s.heap := hP
  have hD : va_D A ((h0, .inr (ci, [.ref ht, .int kd, .int zn, .int lm, .int ch, .int le, .int co, .int dr, .int (bi la)])) :: wt ca ht hr t) := hD
  refine lv_aload_n hx hb dX7_doCost_0 rfl (lv_at hl 0 rfl) ?_
  refine va_get (D := D) (C := Cn) (T := TX3) (N := 9) hx hb (hd.2 _ _ hk.1) (fun _ h9 => h9) hown hK hP 0 rfl hd.1 0 (by decide) (fl_X7_9 hk.1 _) (fun x9 h9 => u_same (sf_X7_trace hk.1 #[]) x9 h9) rfl dX7_doCost_1 ?_
  refine lv_iconst (v := 4) hx hb dX7_doCost_4 (by decide) ?_
  refine lv_bipush (v := 7) hx hb dX7_doCost_5 (by decide) ?_
  refine cb_begin C (ml_X7_15 hk.1 _) hP hD hS hl.1 ⟨by decide, by decide⟩ (Nat.le_of_ble_eq_true rfl) dX7_doCost_7 ⟨by decide, by decide⟩ (fun H locs hP hD hS => ?_)
  have hP : va_P D cls ((h0, .inr (ci, [.ref ht, .int kd, .int zn, .int lm, .int ch, .int le, .int co, .int dr, .int (bi la)])) :: wt ca ht hr (tb 4 7 t)) H := hP
  have hD : va_D A ((h0, .inr (ci, [.ref ht, .int kd, .int zn, .int lm, .int ch, .int le, .int co, .int dr, .int (bi la)])) :: wt ca ht hr (tb 4 7 t)) := hD
  refine lv_aload_n hx hb dX7_doCost_10 rfl (lv_at hl 0 rfl) ?_
  refine kKS (x := ⟨"AlarmKinds$Smoke", "doCost", "()I"⟩) (d := (ch, le, co, dr, la)) (t := tb 4 7 t) hd C (kP l D ca sa lo hd) ⟨fun U A9 h => co_X3_doCost h A9, fun U A9 h => in_X3 h A9, ml_X7_33 hk.1 _, sm_X5_X3_doCost hk.1 _, su_X7 hk.1 _, up_5 hk, im_X3_doCost hk.1 _, by decide +kernel, ⟨⟨rfl, rfl⟩, by decide, by decide⟩, by decide, by decide⟩ hP hD hS hl.1 (Nat.le_of_ble_eq_true rfl) dX7_doCost_11 (fun H locs hP hD hS => ?_)
  have hP : va_P D cls ((h0, .inr (ci, [.ref ht, .int kd, .int zn, .int lm, .int ch, .int le, .int co, .int dr, .int (bi la)])) :: wt ca ht hr (tb 4 0 (tb 4 7 t))) H := hP
  have hD : va_D A ((h0, .inr (ci, [.ref ht, .int kd, .int zn, .int lm, .int ch, .int le, .int co, .int dr, .int (bi la)])) :: wt ca ht hr (tb 4 0 (tb 4 7 t))) := hD
  refine lv_iconst (v := 1) hx hb dX7_doCost_14 (by decide) ?_
  refine lv_aload_n hx hb dX7_doCost_15 rfl (lv_at hl 0 rfl) ?_
  refine va_get (D := D) (C := Cn) (T := TX3) (N := 9) hx hb (hd.2 _ _ hk.1) (fun _ h9 => h9) hown hK hP 0 rfl hd.1 7 (by decide) (fl_X7_29 hk.1 _) (fun x9 h9 => u_same (sf_X7_drift hk.1 #[]) x9 h9) rfl dX7_doCost_16 ?_
  refine va_mabs hx hb (hml.trans hl.1.symm) hown (ml_X7_37 hk.1 _) (st_J9_abs hk.1 _) (in_J9 hk.1 _) (co_J9_abs hk.1 _) (by decide) (Nat.le_of_ble_eq_true rfl) (by decide) (by decide) dX7_doCost_19 ?_
  refine lv_iadd hx hb dX7_doCost_22 ?_
  refine lv_imul hx hb dX7_doCost_23 ?_
  exact ri C hrt hlocks rfl hP hS dX7_doCost_24
end
section
theorem epcl_0 (d : Dv) (t : Tr) : pcl 0 d t = pcP d t := by simp [pcl]
theorem epcl_1 (d : Dv) (t : Tr) : pcl 1 d t = pcP d t := by simp [pcl]
theorem epcl_2 (d : Dv) (t : Tr) : pcl 2 d t = pcP d t := by simp [pcl]
theorem epcl_3 (d : Dv) (t : Tr) : pcl 3 d t = pcP d t := by simp [pcl]
theorem epcl_4 (d : Dv) (t : Tr) : pcl 4 d t = pcP d t := by simp [pcl]
theorem epcl_5 (d : Dv) (t : Tr) : pcl 5 d t = pcB d t := by simp [pcl]
theorem epcl_6 (d : Dv) (t : Tr) : pcl 6 d t = pcF d t := by simp [pcl]
theorem epcl_7 (d : Dv) (t : Tr) : pcl 7 d t = pcT d t := by simp [pcl]
theorem epk_0 (d : Dv) (t : Tr) : pk 0 d t = pkP d t := by simp [pk]
theorem epk_1 (d : Dv) (t : Tr) : pk 1 d t = pkP d t := by simp [pk]
theorem epk_2 (d : Dv) (t : Tr) : pk 2 d t = pkR d t := by simp [pk]
theorem epk_3 (d : Dv) (t : Tr) : pk 3 d t = pkP d t := by simp [pk]
theorem epk_4 (d : Dv) (t : Tr) : pk 4 d t = pkR d t := by simp [pk]
theorem epk_5 (d : Dv) (t : Tr) : pk 5 d t = pkR d t := by simp [pk]
theorem epk_6 (d : Dv) (t : Tr) : pk 6 d t = pkF d t := by simp [pk]
theorem epk_7 (d : Dv) (t : Tr) : pk 7 d t = pkT d t := by simp [pk]
theorem epo_0 (lm : Int32) (d : Dv) (t : Tr) : po 0 lm d t = poP lm d t := by simp [po]
theorem epo_1 (lm : Int32) (d : Dv) (t : Tr) : po 1 lm d t = poP lm d t := by simp [po]
theorem epo_2 (lm : Int32) (d : Dv) (t : Tr) : po 2 lm d t = poP lm d t := by simp [po]
theorem epo_3 (lm : Int32) (d : Dv) (t : Tr) : po 3 lm d t = poP lm d t := by simp [po]
theorem epo_4 (lm : Int32) (d : Dv) (t : Tr) : po 4 lm d t = poH lm d t := by simp [po]
theorem epo_5 (lm : Int32) (d : Dv) (t : Tr) : po 5 lm d t = poP lm d t := by simp [po]
theorem epo_6 (lm : Int32) (d : Dv) (t : Tr) : po 6 lm d t = poF lm d t := by simp [po]
theorem epo_7 (lm : Int32) (d : Dv) (t : Tr) : po 7 lm d t = poP lm d t := by simp [po]
theorem epr_0 (v : Int32) (d : Dv) (t : Tr) : pr 0 v d t = prP 0 v d t := by simp [pr]
theorem epr_1 (v : Int32) (d : Dv) (t : Tr) : pr 1 v d t = prP 1 v d t := by simp [pr]
theorem epr_2 (v : Int32) (d : Dv) (t : Tr) : pr 2 v d t = prP 2 v d t := by simp [pr]
theorem epr_3 (v : Int32) (d : Dv) (t : Tr) : pr 3 v d t = prS 3 v d t := by simp [pr]
theorem epr_4 (v : Int32) (d : Dv) (t : Tr) : pr 4 v d t = prH v d t := by simp [pr]
theorem epr_5 (v : Int32) (d : Dv) (t : Tr) : pr 5 v d t = prP 5 v d t := by simp [pr]
theorem epr_6 (v : Int32) (d : Dv) (t : Tr) : pr 6 v d t = prP 6 v d t := by simp [pr]
theorem epr_7 (v : Int32) (d : Dv) (t : Tr) : pr 7 v d t = prT v d t := by simp [pr]
theorem epw_0 (v : Int32) (d : Dv) (t : Tr) : pw 0 v d t = pwP v d t := by simp [pw]
theorem epw_1 (v : Int32) (d : Dv) (t : Tr) : pw 1 v d t = pwP v d t := by simp [pw]
theorem epw_2 (v : Int32) (d : Dv) (t : Tr) : pw 2 v d t = pwR v d t := by simp [pw]
theorem epw_3 (v : Int32) (d : Dv) (t : Tr) : pw 3 v d t = pwS v d t := by simp [pw]
theorem epw_4 (v : Int32) (d : Dv) (t : Tr) : pw 4 v d t = pwR v d t := by simp [pw]
theorem epw_5 (v : Int32) (d : Dv) (t : Tr) : pw 5 v d t = pwB v d t := by simp [pw]
theorem epw_6 (v : Int32) (d : Dv) (t : Tr) : pw 6 v d t = pwP v d t := by simp [pw]
theorem epw_7 (v : Int32) (d : Dv) (t : Tr) : pw 7 v d t = pwS v d t := by simp [pw]
section VC
variable {D : va_G} {ca : Nat → ClassId} {sa : Nat → Nat} {lo : Nat} {p : Program} {l : Launch} {e : Env} {R : Room} {s : State} {m : MethodId} {args : Array Value} {below : List Frame} {meth : Method} {c : Code} {cc : ByteArray} {nL : Nat} {own : String} {A : Nat → Prop} {H : Heap} {locs : List Loc} {cells slots : Nat} {Q : State → Prop} {ls : Array Slot} {pc : Nat} {rest : List Value}
variable {h0 ht hr kd index : Nat} {K zn lm v : Int32} {d : Dv} {t : Tr}
set_option maxHeartbeats 4000000 in
set_option maxRecDepth 100000 in
theorem vc_w (hl9 : l.stackTraces = false) (hkd : kd = 0 ∨ kd = 1 ∨ kd = 2 ∨ kd = 3 ∨ kd = 4 ∨ kd = 5 ∨ kd = 6 ∨ kd = 7) (C : Cx D ca sa lo p s m c cc nL own A) (hli : (Cond.methodLink own index yX3_doWeigh).before args s = true) (hP : va_P D cls (wd ca h0 ht hr (kc kd) K zn lm d t) H) (hD : va_D A (wd ca h0 ht hr (kc kd) K zn lm d t)) (hS : va_S A s.heap H locs) (hsize : ls.size = nL) (hW : (rest.map fun v => v.category).sum ≤ 8) (hdg : decode cc pc = .ok (.invokevirtual index, 3)) (hR : 8 ≤ R.frames ∧ 150 ≤ R.locals ∧ cells + 2 ≤ R.cells ∧ slots + 12 ≤ R.slots)
    (kx : ∀ (E : String) (ce : Cell) (q9 : Addr) (H1 : Heap) (locs1 : List Loc), en (pw kd v d t).1 E → va_P D cls (wd ca h0 ht hr (kc kd) K zn lm (pw kd v d t).2.2.1 (pw kd v d t).2.2.2) H1 → va_D A (wd ca h0 ht hr (kc kd) K zn lm (pw kd v d t).2.2.1 (pw kd v d t).2.2.2) → va_S A s.heap H1 locs1 → H1[q9]? = some ce → ce.vm = .none → s.vm.findClass E = some ce.cls → vx_W p l e R s m args below meth c H1 locs1 (cells + 2) (slots + 12) Q (F0 m pc ls rest) q9)
    (kk : (pw kd v d t).1 = 0 → ∀ (H1 : Heap) (locs1 : List Loc), va_P D cls (wd ca h0 ht hr (kc kd) K zn lm (pw kd v d t).2.2.1 (pw kd v d t).2.2.2) H1 → va_D A (wd ca h0 ht hr (kc kd) K zn lm (pw kd v d t).2.2.1 (pw kd v d t).2.2.2) → va_S A s.heap H1 locs1 → W p l e R s m args below meth c H1 locs1 (cells + 2) (slots + 12) Q (F0 m (pc + 3) ls (.int (pw kd v d t).2.1 :: rest))) : W p l e R s m args below meth c H locs cells slots Q (F0 m pc ls (.int v :: .ref h0 :: rest)) := by
  have hk := C.2.2.2.2.1
  rcases hkd with rfl | rfl | rfl | rfl | rfl | rfl | rfl | rfl
  · rw [epw_0] at kx kk
    exact kWU (x := yX3_doWeigh) (y := yX3_doWeigh) (owner := RX3) (ci := 3) isD_3 C (wP l D ca sa lo isD_3) ⟨fun U A9 h => co_X3_doWeigh h A9, fun U A9 h => in_X3 h A9, hli, sm_X3_X3_doWeigh hk.1 _, va_Decl.of (im_X3_doWeigh hk.1 #[]) (co_X3_doWeigh hk.1 #[]), im_X3_doWeigh hk.1 _, se_X3_X3_doWeigh hk.1 _, by decide +kernel, ⟨⟨rfl, rfl⟩, Nat.le_trans (by decide) hR.1, Nat.le_trans (by decide) hR.2.1⟩, Nat.le_trans (Nat.add_le_add_left (by decide) _) hR.2.2.1, Nat.le_trans (Nat.add_le_add_left (by decide) _) hR.2.2.2⟩ hP hD hS hsize hW hdg (fun E ce q9 H1 locs1 he hP1 hD1 hS1 h1 h2 h3 => vx_widen (Nat.add_le_add_left (by decide) _) (Nat.add_le_add_left (by decide) _) (kx E ce q9 H1 locs1 he hP1 hD1 hS1 h1 h2 h3)) (fun h0c H1 locs1 hP1 hD1 hS1 => W.widen (Nat.add_le_add_left (by decide) _) (Nat.add_le_add_left (by decide) _) (kk h0c H1 locs1 hP1 hD1 hS1))
  · rw [epw_1] at kx kk
    exact kWU (x := yX3_doWeigh) (y := yX3_doWeigh) (owner := RX3) (ci := 8) isD_8 C (wP l D ca sa lo isD_8) ⟨fun U A9 h => co_X3_doWeigh h A9, fun U A9 h => in_X3 h A9, hli, sm_X3_X3_doWeigh hk.1 _, va_Decl.of (im_X3_doWeigh hk.1 #[]) (co_X3_doWeigh hk.1 #[]), im_X3_doWeigh hk.1 _, se_X8_X3_doWeigh hk.1 _, by decide +kernel, ⟨⟨rfl, rfl⟩, Nat.le_trans (by decide) hR.1, Nat.le_trans (by decide) hR.2.1⟩, Nat.le_trans (Nat.add_le_add_left (by decide) _) hR.2.2.1, Nat.le_trans (Nat.add_le_add_left (by decide) _) hR.2.2.2⟩ hP hD hS hsize hW hdg (fun E ce q9 H1 locs1 he hP1 hD1 hS1 h1 h2 h3 => vx_widen (Nat.add_le_add_left (by decide) _) (Nat.add_le_add_left (by decide) _) (kx E ce q9 H1 locs1 he hP1 hD1 hS1 h1 h2 h3)) (fun h0c H1 locs1 hP1 hD1 hS1 => W.widen (Nat.add_le_add_left (by decide) _) (Nat.add_le_add_left (by decide) _) (kk h0c H1 locs1 hP1 hD1 hS1))
  · rw [epw_2] at kx kk
    exact kWU (x := yX3_doWeigh) (y := yX4_doWeigh) (owner := RX3) (ci := 4) isD_4 C (wR l D ca sa lo isD_4 hl9) ⟨fun U A9 h => co_X4_doWeigh h A9, fun U A9 h => in_X4 h A9, hli, sm_X3_X3_doWeigh hk.1 _, va_Decl.of (im_X3_doWeigh hk.1 #[]) (co_X3_doWeigh hk.1 #[]), im_X4_doWeigh hk.1 _, se_X4_X3_doWeigh hk.1 _, by decide +kernel, ⟨⟨rfl, rfl⟩, Nat.le_trans (by decide) hR.1, Nat.le_trans (by decide) hR.2.1⟩, Nat.le_trans (Nat.add_le_add_left (by decide) _) hR.2.2.1, Nat.le_trans (Nat.add_le_add_left (by decide) _) hR.2.2.2⟩ hP hD hS hsize hW hdg (fun E ce q9 H1 locs1 he hP1 hD1 hS1 h1 h2 h3 => vx_widen (Nat.add_le_add_left (by decide) _) (Nat.add_le_add_left (by decide) _) (kx E ce q9 H1 locs1 he hP1 hD1 hS1 h1 h2 h3)) (fun h0c H1 locs1 hP1 hD1 hS1 => W.widen (Nat.add_le_add_left (by decide) _) (Nat.add_le_add_left (by decide) _) (kk h0c H1 locs1 hP1 hD1 hS1))
  · rw [epw_3] at kx kk
    exact kWU (x := yX3_doWeigh) (y := yX5_doWeigh) (owner := RX3) (ci := 5) isD_5 C (wS l D ca sa lo isD_5) ⟨fun U A9 h => co_X5_doWeigh h A9, fun U A9 h => in_X5 h A9, hli, sm_X3_X3_doWeigh hk.1 _, va_Decl.of (im_X3_doWeigh hk.1 #[]) (co_X3_doWeigh hk.1 #[]), im_X5_doWeigh hk.1 _, se_X5_X3_doWeigh hk.1 _, by decide +kernel, ⟨⟨rfl, rfl⟩, Nat.le_trans (by decide) hR.1, Nat.le_trans (by decide) hR.2.1⟩, Nat.le_trans (Nat.add_le_add_left (by decide) _) hR.2.2.1, Nat.le_trans (Nat.add_le_add_left (by decide) _) hR.2.2.2⟩ hP hD hS hsize hW hdg (fun E ce q9 H1 locs1 he hP1 hD1 hS1 h1 h2 h3 => vx_widen (Nat.add_le_add_left (by decide) _) (Nat.add_le_add_left (by decide) _) (kx E ce q9 H1 locs1 he hP1 hD1 hS1 h1 h2 h3)) (fun h0c H1 locs1 hP1 hD1 hS1 => W.widen (Nat.add_le_add_left (by decide) _) (Nat.add_le_add_left (by decide) _) (kk h0c H1 locs1 hP1 hD1 hS1))
  · rw [epw_4] at kx kk
    exact kWU (x := yX3_doWeigh) (y := yX4_doWeigh) (owner := RX3) (ci := 2) isD_2 C (wR l D ca sa lo isD_2 hl9) ⟨fun U A9 h => co_X4_doWeigh h A9, fun U A9 h => in_X4 h A9, hli, sm_X3_X3_doWeigh hk.1 _, va_Decl.of (im_X3_doWeigh hk.1 #[]) (co_X3_doWeigh hk.1 #[]), im_X4_doWeigh hk.1 _, se_X2_X3_doWeigh hk.1 _, by decide +kernel, ⟨⟨rfl, rfl⟩, Nat.le_trans (by decide) hR.1, Nat.le_trans (by decide) hR.2.1⟩, Nat.le_trans (Nat.add_le_add_left (by decide) _) hR.2.2.1, Nat.le_trans (Nat.add_le_add_left (by decide) _) hR.2.2.2⟩ hP hD hS hsize hW hdg (fun E ce q9 H1 locs1 he hP1 hD1 hS1 h1 h2 h3 => vx_widen (Nat.add_le_add_left (by decide) _) (Nat.add_le_add_left (by decide) _) (kx E ce q9 H1 locs1 he hP1 hD1 hS1 h1 h2 h3)) (fun h0c H1 locs1 hP1 hD1 hS1 => W.widen (Nat.add_le_add_left (by decide) _) (Nat.add_le_add_left (by decide) _) (kk h0c H1 locs1 hP1 hD1 hS1))
  · rw [epw_5] at kx kk
    exact kWU (x := yX3_doWeigh) (y := yX0_doWeigh) (owner := RX3) (ci := 0) isD_0 C (wB l D ca sa lo isD_0 hl9) ⟨fun U A9 h => co_X0_doWeigh h A9, fun U A9 h => in_X0 h A9, hli, sm_X3_X3_doWeigh hk.1 _, va_Decl.of (im_X3_doWeigh hk.1 #[]) (co_X3_doWeigh hk.1 #[]), im_X0_doWeigh hk.1 _, se_X0_X3_doWeigh hk.1 _, by decide +kernel, ⟨⟨rfl, rfl⟩, Nat.le_trans (by decide) hR.1, Nat.le_trans (by decide) hR.2.1⟩, Nat.le_trans (Nat.add_le_add_left (by decide) _) hR.2.2.1, Nat.le_trans (Nat.add_le_add_left (by decide) _) hR.2.2.2⟩ hP hD hS hsize hW hdg (fun E ce q9 H1 locs1 he hP1 hD1 hS1 h1 h2 h3 => vx_widen (Nat.add_le_add_left (by decide) _) (Nat.add_le_add_left (by decide) _) (kx E ce q9 H1 locs1 he hP1 hD1 hS1 h1 h2 h3)) (fun h0c H1 locs1 hP1 hD1 hS1 => W.widen (Nat.add_le_add_left (by decide) _) (Nat.add_le_add_left (by decide) _) (kk h0c H1 locs1 hP1 hD1 hS1))
  · rw [epw_6] at kx kk
    exact kWU (x := yX3_doWeigh) (y := yX3_doWeigh) (owner := RX3) (ci := 1) isD_1 C (wP l D ca sa lo isD_1) ⟨fun U A9 h => co_X3_doWeigh h A9, fun U A9 h => in_X3 h A9, hli, sm_X3_X3_doWeigh hk.1 _, va_Decl.of (im_X3_doWeigh hk.1 #[]) (co_X3_doWeigh hk.1 #[]), im_X3_doWeigh hk.1 _, se_X1_X3_doWeigh hk.1 _, by decide +kernel, ⟨⟨rfl, rfl⟩, Nat.le_trans (by decide) hR.1, Nat.le_trans (by decide) hR.2.1⟩, Nat.le_trans (Nat.add_le_add_left (by decide) _) hR.2.2.1, Nat.le_trans (Nat.add_le_add_left (by decide) _) hR.2.2.2⟩ hP hD hS hsize hW hdg (fun E ce q9 H1 locs1 he hP1 hD1 hS1 h1 h2 h3 => vx_widen (Nat.add_le_add_left (by decide) _) (Nat.add_le_add_left (by decide) _) (kx E ce q9 H1 locs1 he hP1 hD1 hS1 h1 h2 h3)) (fun h0c H1 locs1 hP1 hD1 hS1 => W.widen (Nat.add_le_add_left (by decide) _) (Nat.add_le_add_left (by decide) _) (kk h0c H1 locs1 hP1 hD1 hS1))
  · rw [epw_7] at kx kk
    exact kWU (x := yX3_doWeigh) (y := yX5_doWeigh) (owner := RX3) (ci := 7) isD_7 C (wS l D ca sa lo isD_7) ⟨fun U A9 h => co_X5_doWeigh h A9, fun U A9 h => in_X5 h A9, hli, sm_X3_X3_doWeigh hk.1 _, va_Decl.of (im_X3_doWeigh hk.1 #[]) (co_X3_doWeigh hk.1 #[]), im_X5_doWeigh hk.1 _, se_X7_X3_doWeigh hk.1 _, by decide +kernel, ⟨⟨rfl, rfl⟩, Nat.le_trans (by decide) hR.1, Nat.le_trans (by decide) hR.2.1⟩, Nat.le_trans (Nat.add_le_add_left (by decide) _) hR.2.2.1, Nat.le_trans (Nat.add_le_add_left (by decide) _) hR.2.2.2⟩ hP hD hS hsize hW hdg (fun E ce q9 H1 locs1 he hP1 hD1 hS1 h1 h2 h3 => vx_widen (Nat.add_le_add_left (by decide) _) (Nat.add_le_add_left (by decide) _) (kx E ce q9 H1 locs1 he hP1 hD1 hS1 h1 h2 h3)) (fun h0c H1 locs1 hP1 hD1 hS1 => W.widen (Nat.add_le_add_left (by decide) _) (Nat.add_le_add_left (by decide) _) (kk h0c H1 locs1 hP1 hD1 hS1))
set_option maxHeartbeats 4000000 in
set_option maxRecDepth 100000 in
theorem vc_o (hkd : kd = 0 ∨ kd = 1 ∨ kd = 2 ∨ kd = 3 ∨ kd = 4 ∨ kd = 5 ∨ kd = 6 ∨ kd = 7) (C : Cx D ca sa lo p s m c cc nL own A) (hli : (Cond.methodLink own index yX3_doOver).before args s = true) (hP : va_P D cls (wd ca h0 ht hr (kc kd) K zn lm d t) H) (hD : va_D A (wd ca h0 ht hr (kc kd) K zn lm d t)) (hS : va_S A s.heap H locs) (hsize : ls.size = nL) (hW : (rest.map fun v => v.category).sum ≤ 8) (hdg : decode cc pc = .ok (.invokevirtual index, 3)) (hR : 3 ≤ R.frames ∧ 90 ≤ R.locals ∧ cells + 0 ≤ R.cells ∧ slots + 0 ≤ R.slots)
    (kk : ∀ (H1 : Heap) (locs1 : List Loc), va_P D cls (wd ca h0 ht hr (kc kd) K zn lm (po kd lm d t).2.1 (po kd lm d t).2.2) H1 → va_D A (wd ca h0 ht hr (kc kd) K zn lm (po kd lm d t).2.1 (po kd lm d t).2.2) → va_S A s.heap H1 locs1 → W p l e R s m args below meth c H1 locs1 cells slots Q (F0 m (pc + 3) ls (.int (bi (po kd lm d t).1) :: rest))) : W p l e R s m args below meth c H locs cells slots Q (F0 m pc ls (.ref h0 :: rest)) := by
  have hk := C.2.2.2.2.1
  rcases hkd with rfl | rfl | rfl | rfl | rfl | rfl | rfl | rfl
  · rw [epo_0] at kk
    exact kOU (x := yX3_doOver) (y := yX3_doOver) (owner := RX3) (ci := 3) isD_3 C (oP l D ca sa lo isD_3) ⟨fun U A9 h => co_X3_doOver h A9, fun U A9 h => in_X3 h A9, hli, sm_X3_X3_doOver hk.1 _, va_Decl.of (im_X3_doOver hk.1 #[]) (co_X3_doOver hk.1 #[]), im_X3_doOver hk.1 _, se_X3_X3_doOver hk.1 _, by decide +kernel, ⟨⟨rfl, rfl⟩, Nat.le_trans (by decide) hR.1, Nat.le_trans (by decide) hR.2.1⟩, Nat.le_trans (Nat.add_le_add_left (by decide) _) hR.2.2.1, Nat.le_trans (Nat.add_le_add_left (by decide) _) hR.2.2.2⟩ hP hD hS hsize hW hdg (fun H1 locs1 hP1 hD1 hS1 => kk H1 locs1 hP1 hD1 hS1)
  · rw [epo_1] at kk
    exact kOU (x := yX3_doOver) (y := yX3_doOver) (owner := RX3) (ci := 8) isD_8 C (oP l D ca sa lo isD_8) ⟨fun U A9 h => co_X3_doOver h A9, fun U A9 h => in_X3 h A9, hli, sm_X3_X3_doOver hk.1 _, va_Decl.of (im_X3_doOver hk.1 #[]) (co_X3_doOver hk.1 #[]), im_X3_doOver hk.1 _, se_X8_X3_doOver hk.1 _, by decide +kernel, ⟨⟨rfl, rfl⟩, Nat.le_trans (by decide) hR.1, Nat.le_trans (by decide) hR.2.1⟩, Nat.le_trans (Nat.add_le_add_left (by decide) _) hR.2.2.1, Nat.le_trans (Nat.add_le_add_left (by decide) _) hR.2.2.2⟩ hP hD hS hsize hW hdg (fun H1 locs1 hP1 hD1 hS1 => kk H1 locs1 hP1 hD1 hS1)
  · rw [epo_2] at kk
    exact kOU (x := yX3_doOver) (y := yX3_doOver) (owner := RX3) (ci := 4) isD_4 C (oP l D ca sa lo isD_4) ⟨fun U A9 h => co_X3_doOver h A9, fun U A9 h => in_X3 h A9, hli, sm_X3_X3_doOver hk.1 _, va_Decl.of (im_X3_doOver hk.1 #[]) (co_X3_doOver hk.1 #[]), im_X3_doOver hk.1 _, se_X4_X3_doOver hk.1 _, by decide +kernel, ⟨⟨rfl, rfl⟩, Nat.le_trans (by decide) hR.1, Nat.le_trans (by decide) hR.2.1⟩, Nat.le_trans (Nat.add_le_add_left (by decide) _) hR.2.2.1, Nat.le_trans (Nat.add_le_add_left (by decide) _) hR.2.2.2⟩ hP hD hS hsize hW hdg (fun H1 locs1 hP1 hD1 hS1 => kk H1 locs1 hP1 hD1 hS1)
  · rw [epo_3] at kk
    exact kOU (x := yX3_doOver) (y := yX3_doOver) (owner := RX3) (ci := 5) isD_5 C (oP l D ca sa lo isD_5) ⟨fun U A9 h => co_X3_doOver h A9, fun U A9 h => in_X3 h A9, hli, sm_X3_X3_doOver hk.1 _, va_Decl.of (im_X3_doOver hk.1 #[]) (co_X3_doOver hk.1 #[]), im_X3_doOver hk.1 _, se_X5_X3_doOver hk.1 _, by decide +kernel, ⟨⟨rfl, rfl⟩, Nat.le_trans (by decide) hR.1, Nat.le_trans (by decide) hR.2.1⟩, Nat.le_trans (Nat.add_le_add_left (by decide) _) hR.2.2.1, Nat.le_trans (Nat.add_le_add_left (by decide) _) hR.2.2.2⟩ hP hD hS hsize hW hdg (fun H1 locs1 hP1 hD1 hS1 => kk H1 locs1 hP1 hD1 hS1)
  · rw [epo_4] at kk
    exact kOU (x := yX3_doOver) (y := yX2_doOver) (owner := RX3) (ci := 2) isD_2 C (oH l D ca sa lo isD_2) ⟨fun U A9 h => co_X2_doOver h A9, fun U A9 h => in_X2 h A9, hli, sm_X3_X3_doOver hk.1 _, va_Decl.of (im_X3_doOver hk.1 #[]) (co_X3_doOver hk.1 #[]), im_X2_doOver hk.1 _, se_X2_X3_doOver hk.1 _, by decide +kernel, ⟨⟨rfl, rfl⟩, Nat.le_trans (by decide) hR.1, Nat.le_trans (by decide) hR.2.1⟩, Nat.le_trans (Nat.add_le_add_left (by decide) _) hR.2.2.1, Nat.le_trans (Nat.add_le_add_left (by decide) _) hR.2.2.2⟩ hP hD hS hsize hW hdg (fun H1 locs1 hP1 hD1 hS1 => kk H1 locs1 hP1 hD1 hS1)
  · rw [epo_5] at kk
    exact kOU (x := yX3_doOver) (y := yX3_doOver) (owner := RX3) (ci := 0) isD_0 C (oP l D ca sa lo isD_0) ⟨fun U A9 h => co_X3_doOver h A9, fun U A9 h => in_X3 h A9, hli, sm_X3_X3_doOver hk.1 _, va_Decl.of (im_X3_doOver hk.1 #[]) (co_X3_doOver hk.1 #[]), im_X3_doOver hk.1 _, se_X0_X3_doOver hk.1 _, by decide +kernel, ⟨⟨rfl, rfl⟩, Nat.le_trans (by decide) hR.1, Nat.le_trans (by decide) hR.2.1⟩, Nat.le_trans (Nat.add_le_add_left (by decide) _) hR.2.2.1, Nat.le_trans (Nat.add_le_add_left (by decide) _) hR.2.2.2⟩ hP hD hS hsize hW hdg (fun H1 locs1 hP1 hD1 hS1 => kk H1 locs1 hP1 hD1 hS1)
  · rw [epo_6] at kk
    exact kOU (x := yX3_doOver) (y := yX1_doOver) (owner := RX3) (ci := 1) isD_1 C (oF l D ca sa lo isD_1) ⟨fun U A9 h => co_X1_doOver h A9, fun U A9 h => in_X1 h A9, hli, sm_X3_X3_doOver hk.1 _, va_Decl.of (im_X3_doOver hk.1 #[]) (co_X3_doOver hk.1 #[]), im_X1_doOver hk.1 _, se_X1_X3_doOver hk.1 _, by decide +kernel, ⟨⟨rfl, rfl⟩, Nat.le_trans (by decide) hR.1, Nat.le_trans (by decide) hR.2.1⟩, Nat.le_trans (Nat.add_le_add_left (by decide) _) hR.2.2.1, Nat.le_trans (Nat.add_le_add_left (by decide) _) hR.2.2.2⟩ hP hD hS hsize hW hdg (fun H1 locs1 hP1 hD1 hS1 => kk H1 locs1 hP1 hD1 hS1)
  · rw [epo_7] at kk
    exact kOU (x := yX3_doOver) (y := yX3_doOver) (owner := RX3) (ci := 7) isD_7 C (oP l D ca sa lo isD_7) ⟨fun U A9 h => co_X3_doOver h A9, fun U A9 h => in_X3 h A9, hli, sm_X3_X3_doOver hk.1 _, va_Decl.of (im_X3_doOver hk.1 #[]) (co_X3_doOver hk.1 #[]), im_X3_doOver hk.1 _, se_X7_X3_doOver hk.1 _, by decide +kernel, ⟨⟨rfl, rfl⟩, Nat.le_trans (by decide) hR.1, Nat.le_trans (by decide) hR.2.1⟩, Nat.le_trans (Nat.add_le_add_left (by decide) _) hR.2.2.1, Nat.le_trans (Nat.add_le_add_left (by decide) _) hR.2.2.2⟩ hP hD hS hsize hW hdg (fun H1 locs1 hP1 hD1 hS1 => kk H1 locs1 hP1 hD1 hS1)
set_option maxHeartbeats 4000000 in
set_option maxRecDepth 100000 in
theorem vc_o8 (hkd : kd = 1 ∨ kd = 2 ∨ kd = 3 ∨ kd = 4 ∨ kd = 5 ∨ kd = 6) (C : Cx D ca sa lo p s m c cc nL own A) (hli : (Cond.methodLink own index ⟨RX8, "doOver", "()Z"⟩).before args s = true) (hP : va_P D cls (wd ca h0 ht hr (kc kd) K zn lm d t) H) (hD : va_D A (wd ca h0 ht hr (kc kd) K zn lm d t)) (hS : va_S A s.heap H locs) (hsize : ls.size = nL) (hW : (rest.map fun v => v.category).sum ≤ 8) (hdg : decode cc pc = .ok (.invokevirtual index, 3)) (hR : 3 ≤ R.frames ∧ 90 ≤ R.locals ∧ cells + 0 ≤ R.cells ∧ slots + 0 ≤ R.slots)
    (kk : ∀ (H1 : Heap) (locs1 : List Loc), va_P D cls (wd ca h0 ht hr (kc kd) K zn lm (po kd lm d t).2.1 (po kd lm d t).2.2) H1 → va_D A (wd ca h0 ht hr (kc kd) K zn lm (po kd lm d t).2.1 (po kd lm d t).2.2) → va_S A s.heap H1 locs1 → W p l e R s m args below meth c H1 locs1 cells slots Q (F0 m (pc + 3) ls (.int (bi (po kd lm d t).1) :: rest))) : W p l e R s m args below meth c H locs cells slots Q (F0 m pc ls (.ref h0 :: rest)) := by
  have hk := C.2.2.2.2.1
  rcases hkd with rfl | rfl | rfl | rfl | rfl | rfl
  · rw [epo_1] at kk
    exact kOU (x := ⟨RX8, "doOver", "()Z"⟩) (y := yX3_doOver) (owner := RX3) (ci := 8) isD_8 C (oP l D ca sa lo isD_8) ⟨fun U A9 h => co_X3_doOver h A9, fun U A9 h => in_X3 h A9, hli, sm_X8_X3_doOver hk.1 _, va_Decl.of (im_X3_doOver hk.1 #[]) (co_X3_doOver hk.1 #[]), im_X3_doOver hk.1 _, se_X8_X8_doOver hk.1 _, by decide +kernel, ⟨⟨rfl, rfl⟩, Nat.le_trans (by decide) hR.1, Nat.le_trans (by decide) hR.2.1⟩, Nat.le_trans (Nat.add_le_add_left (by decide) _) hR.2.2.1, Nat.le_trans (Nat.add_le_add_left (by decide) _) hR.2.2.2⟩ hP hD hS hsize hW hdg (fun H1 locs1 hP1 hD1 hS1 => kk H1 locs1 hP1 hD1 hS1)
  · rw [epo_2] at kk
    exact kOU (x := ⟨RX8, "doOver", "()Z"⟩) (y := yX3_doOver) (owner := RX3) (ci := 4) isD_4 C (oP l D ca sa lo isD_4) ⟨fun U A9 h => co_X3_doOver h A9, fun U A9 h => in_X3 h A9, hli, sm_X8_X3_doOver hk.1 _, va_Decl.of (im_X3_doOver hk.1 #[]) (co_X3_doOver hk.1 #[]), im_X3_doOver hk.1 _, se_X4_X8_doOver hk.1 _, by decide +kernel, ⟨⟨rfl, rfl⟩, Nat.le_trans (by decide) hR.1, Nat.le_trans (by decide) hR.2.1⟩, Nat.le_trans (Nat.add_le_add_left (by decide) _) hR.2.2.1, Nat.le_trans (Nat.add_le_add_left (by decide) _) hR.2.2.2⟩ hP hD hS hsize hW hdg (fun H1 locs1 hP1 hD1 hS1 => kk H1 locs1 hP1 hD1 hS1)
  · rw [epo_3] at kk
    exact kOU (x := ⟨RX8, "doOver", "()Z"⟩) (y := yX3_doOver) (owner := RX3) (ci := 5) isD_5 C (oP l D ca sa lo isD_5) ⟨fun U A9 h => co_X3_doOver h A9, fun U A9 h => in_X3 h A9, hli, sm_X8_X3_doOver hk.1 _, va_Decl.of (im_X3_doOver hk.1 #[]) (co_X3_doOver hk.1 #[]), im_X3_doOver hk.1 _, se_X5_X8_doOver hk.1 _, by decide +kernel, ⟨⟨rfl, rfl⟩, Nat.le_trans (by decide) hR.1, Nat.le_trans (by decide) hR.2.1⟩, Nat.le_trans (Nat.add_le_add_left (by decide) _) hR.2.2.1, Nat.le_trans (Nat.add_le_add_left (by decide) _) hR.2.2.2⟩ hP hD hS hsize hW hdg (fun H1 locs1 hP1 hD1 hS1 => kk H1 locs1 hP1 hD1 hS1)
  · rw [epo_4] at kk
    exact kOU (x := ⟨RX8, "doOver", "()Z"⟩) (y := yX2_doOver) (owner := RX3) (ci := 2) isD_2 C (oH l D ca sa lo isD_2) ⟨fun U A9 h => co_X2_doOver h A9, fun U A9 h => in_X2 h A9, hli, sm_X8_X3_doOver hk.1 _, va_Decl.of (im_X3_doOver hk.1 #[]) (co_X3_doOver hk.1 #[]), im_X2_doOver hk.1 _, se_X2_X8_doOver hk.1 _, by decide +kernel, ⟨⟨rfl, rfl⟩, Nat.le_trans (by decide) hR.1, Nat.le_trans (by decide) hR.2.1⟩, Nat.le_trans (Nat.add_le_add_left (by decide) _) hR.2.2.1, Nat.le_trans (Nat.add_le_add_left (by decide) _) hR.2.2.2⟩ hP hD hS hsize hW hdg (fun H1 locs1 hP1 hD1 hS1 => kk H1 locs1 hP1 hD1 hS1)
  · rw [epo_5] at kk
    exact kOU (x := ⟨RX8, "doOver", "()Z"⟩) (y := yX3_doOver) (owner := RX3) (ci := 0) isD_0 C (oP l D ca sa lo isD_0) ⟨fun U A9 h => co_X3_doOver h A9, fun U A9 h => in_X3 h A9, hli, sm_X8_X3_doOver hk.1 _, va_Decl.of (im_X3_doOver hk.1 #[]) (co_X3_doOver hk.1 #[]), im_X3_doOver hk.1 _, se_X0_X8_doOver hk.1 _, by decide +kernel, ⟨⟨rfl, rfl⟩, Nat.le_trans (by decide) hR.1, Nat.le_trans (by decide) hR.2.1⟩, Nat.le_trans (Nat.add_le_add_left (by decide) _) hR.2.2.1, Nat.le_trans (Nat.add_le_add_left (by decide) _) hR.2.2.2⟩ hP hD hS hsize hW hdg (fun H1 locs1 hP1 hD1 hS1 => kk H1 locs1 hP1 hD1 hS1)
  · rw [epo_6] at kk
    exact kOU (x := ⟨RX8, "doOver", "()Z"⟩) (y := yX1_doOver) (owner := RX3) (ci := 1) isD_1 C (oF l D ca sa lo isD_1) ⟨fun U A9 h => co_X1_doOver h A9, fun U A9 h => in_X1 h A9, hli, sm_X8_X3_doOver hk.1 _, va_Decl.of (im_X3_doOver hk.1 #[]) (co_X3_doOver hk.1 #[]), im_X1_doOver hk.1 _, se_X1_X8_doOver hk.1 _, by decide +kernel, ⟨⟨rfl, rfl⟩, Nat.le_trans (by decide) hR.1, Nat.le_trans (by decide) hR.2.1⟩, Nat.le_trans (Nat.add_le_add_left (by decide) _) hR.2.2.1, Nat.le_trans (Nat.add_le_add_left (by decide) _) hR.2.2.2⟩ hP hD hS hsize hW hdg (fun H1 locs1 hP1 hD1 hS1 => kk H1 locs1 hP1 hD1 hS1)
set_option maxHeartbeats 4000000 in
set_option maxRecDepth 100000 in
theorem vc_o7 (hkd : kd = 7) (C : Cx D ca sa lo p s m c cc nL own A) (hli : (Cond.methodLink own index ⟨RX7, "doOver", "()Z"⟩).before args s = true) (hP : va_P D cls (wd ca h0 ht hr (kc kd) K zn lm d t) H) (hD : va_D A (wd ca h0 ht hr (kc kd) K zn lm d t)) (hS : va_S A s.heap H locs) (hsize : ls.size = nL) (hW : (rest.map fun v => v.category).sum ≤ 8) (hdg : decode cc pc = .ok (.invokevirtual index, 3)) (hR : 3 ≤ R.frames ∧ 90 ≤ R.locals ∧ cells + 0 ≤ R.cells ∧ slots + 0 ≤ R.slots)
    (kk : ∀ (H1 : Heap) (locs1 : List Loc), va_P D cls (wd ca h0 ht hr (kc kd) K zn lm (po kd lm d t).2.1 (po kd lm d t).2.2) H1 → va_D A (wd ca h0 ht hr (kc kd) K zn lm (po kd lm d t).2.1 (po kd lm d t).2.2) → va_S A s.heap H1 locs1 → W p l e R s m args below meth c H1 locs1 cells slots Q (F0 m (pc + 3) ls (.int (bi (po kd lm d t).1) :: rest))) : W p l e R s m args below meth c H locs cells slots Q (F0 m pc ls (.ref h0 :: rest)) := by
  have hk := C.2.2.2.2.1
  subst hkd
  · rw [epo_7] at kk
    exact kOU (x := ⟨RX7, "doOver", "()Z"⟩) (y := yX3_doOver) (owner := RX3) (ci := 7) isD_7 C (oP l D ca sa lo isD_7) ⟨fun U A9 h => co_X3_doOver h A9, fun U A9 h => in_X3 h A9, hli, sm_X7_X3_doOver hk.1 _, va_Decl.of (im_X3_doOver hk.1 #[]) (co_X3_doOver hk.1 #[]), im_X3_doOver hk.1 _, se_X7_X7_doOver hk.1 _, by decide +kernel, ⟨⟨rfl, rfl⟩, Nat.le_trans (by decide) hR.1, Nat.le_trans (by decide) hR.2.1⟩, Nat.le_trans (Nat.add_le_add_left (by decide) _) hR.2.2.1, Nat.le_trans (Nat.add_le_add_left (by decide) _) hR.2.2.2⟩ hP hD hS hsize hW hdg (fun H1 locs1 hP1 hD1 hS1 => kk H1 locs1 hP1 hD1 hS1)
set_option maxHeartbeats 4000000 in
set_option maxRecDepth 100000 in
theorem vc_c (hkd : kd = 0 ∨ kd = 1 ∨ kd = 2 ∨ kd = 3 ∨ kd = 4 ∨ kd = 5 ∨ kd = 6 ∨ kd = 7) (C : Cx D ca sa lo p s m c cc nL own A) (hli : (Cond.methodLink own index yX3_doClear).before args s = true) (hP : va_P D cls (wd ca h0 ht hr (kc kd) K zn lm d t) H) (hD : va_D A (wd ca h0 ht hr (kc kd) K zn lm d t)) (hS : va_S A s.heap H locs) (hsize : ls.size = nL) (hW : (rest.map fun v => v.category).sum ≤ 8) (hdg : decode cc pc = .ok (.invokevirtual index, 3)) (hR : 3 ≤ R.frames ∧ 90 ≤ R.locals ∧ cells + 0 ≤ R.cells ∧ slots + 0 ≤ R.slots)
    (kk : ∀ (H1 : Heap) (locs1 : List Loc), va_P D cls (wd ca h0 ht hr (kc kd) K zn lm (pcl kd d t).1 (pcl kd d t).2) H1 → va_D A (wd ca h0 ht hr (kc kd) K zn lm (pcl kd d t).1 (pcl kd d t).2) → va_S A s.heap H1 locs1 → W p l e R s m args below meth c H1 locs1 cells slots Q (F0 m (pc + 3) ls (rest))) : W p l e R s m args below meth c H locs cells slots Q (F0 m pc ls (.ref h0 :: rest)) := by
  have hk := C.2.2.2.2.1
  rcases hkd with rfl | rfl | rfl | rfl | rfl | rfl | rfl | rfl
  · rw [epcl_0] at kk
    exact kCU (x := yX3_doClear) (y := yX3_doClear) (owner := RX3) (ci := 3) isD_3 C (cP l D ca sa lo isD_3) ⟨fun U A9 h => co_X3_doClear h A9, fun U A9 h => in_X3 h A9, hli, sm_X3_X3_doClear hk.1 _, va_Decl.of (im_X3_doClear hk.1 #[]) (co_X3_doClear hk.1 #[]), im_X3_doClear hk.1 _, se_X3_X3_doClear hk.1 _, by decide +kernel, ⟨⟨rfl, rfl⟩, Nat.le_trans (by decide) hR.1, Nat.le_trans (by decide) hR.2.1⟩, Nat.le_trans (Nat.add_le_add_left (by decide) _) hR.2.2.1, Nat.le_trans (Nat.add_le_add_left (by decide) _) hR.2.2.2⟩ hP hD hS hsize hW hdg (fun H1 locs1 hP1 hD1 hS1 => kk H1 locs1 hP1 hD1 hS1)
  · rw [epcl_1] at kk
    exact kCU (x := yX3_doClear) (y := yX3_doClear) (owner := RX3) (ci := 8) isD_8 C (cP l D ca sa lo isD_8) ⟨fun U A9 h => co_X3_doClear h A9, fun U A9 h => in_X3 h A9, hli, sm_X3_X3_doClear hk.1 _, va_Decl.of (im_X3_doClear hk.1 #[]) (co_X3_doClear hk.1 #[]), im_X3_doClear hk.1 _, se_X8_X3_doClear hk.1 _, by decide +kernel, ⟨⟨rfl, rfl⟩, Nat.le_trans (by decide) hR.1, Nat.le_trans (by decide) hR.2.1⟩, Nat.le_trans (Nat.add_le_add_left (by decide) _) hR.2.2.1, Nat.le_trans (Nat.add_le_add_left (by decide) _) hR.2.2.2⟩ hP hD hS hsize hW hdg (fun H1 locs1 hP1 hD1 hS1 => kk H1 locs1 hP1 hD1 hS1)
  · rw [epcl_2] at kk
    exact kCU (x := yX3_doClear) (y := yX3_doClear) (owner := RX3) (ci := 4) isD_4 C (cP l D ca sa lo isD_4) ⟨fun U A9 h => co_X3_doClear h A9, fun U A9 h => in_X3 h A9, hli, sm_X3_X3_doClear hk.1 _, va_Decl.of (im_X3_doClear hk.1 #[]) (co_X3_doClear hk.1 #[]), im_X3_doClear hk.1 _, se_X4_X3_doClear hk.1 _, by decide +kernel, ⟨⟨rfl, rfl⟩, Nat.le_trans (by decide) hR.1, Nat.le_trans (by decide) hR.2.1⟩, Nat.le_trans (Nat.add_le_add_left (by decide) _) hR.2.2.1, Nat.le_trans (Nat.add_le_add_left (by decide) _) hR.2.2.2⟩ hP hD hS hsize hW hdg (fun H1 locs1 hP1 hD1 hS1 => kk H1 locs1 hP1 hD1 hS1)
  · rw [epcl_3] at kk
    exact kCU (x := yX3_doClear) (y := yX3_doClear) (owner := RX3) (ci := 5) isD_5 C (cP l D ca sa lo isD_5) ⟨fun U A9 h => co_X3_doClear h A9, fun U A9 h => in_X3 h A9, hli, sm_X3_X3_doClear hk.1 _, va_Decl.of (im_X3_doClear hk.1 #[]) (co_X3_doClear hk.1 #[]), im_X3_doClear hk.1 _, se_X5_X3_doClear hk.1 _, by decide +kernel, ⟨⟨rfl, rfl⟩, Nat.le_trans (by decide) hR.1, Nat.le_trans (by decide) hR.2.1⟩, Nat.le_trans (Nat.add_le_add_left (by decide) _) hR.2.2.1, Nat.le_trans (Nat.add_le_add_left (by decide) _) hR.2.2.2⟩ hP hD hS hsize hW hdg (fun H1 locs1 hP1 hD1 hS1 => kk H1 locs1 hP1 hD1 hS1)
  · rw [epcl_4] at kk
    exact kCU (x := yX3_doClear) (y := yX3_doClear) (owner := RX3) (ci := 2) isD_2 C (cP l D ca sa lo isD_2) ⟨fun U A9 h => co_X3_doClear h A9, fun U A9 h => in_X3 h A9, hli, sm_X3_X3_doClear hk.1 _, va_Decl.of (im_X3_doClear hk.1 #[]) (co_X3_doClear hk.1 #[]), im_X3_doClear hk.1 _, se_X2_X3_doClear hk.1 _, by decide +kernel, ⟨⟨rfl, rfl⟩, Nat.le_trans (by decide) hR.1, Nat.le_trans (by decide) hR.2.1⟩, Nat.le_trans (Nat.add_le_add_left (by decide) _) hR.2.2.1, Nat.le_trans (Nat.add_le_add_left (by decide) _) hR.2.2.2⟩ hP hD hS hsize hW hdg (fun H1 locs1 hP1 hD1 hS1 => kk H1 locs1 hP1 hD1 hS1)
  · rw [epcl_5] at kk
    exact kCU (x := yX3_doClear) (y := yX0_doClear) (owner := RX3) (ci := 0) isD_0 C (cB l D ca sa lo isD_0) ⟨fun U A9 h => co_X0_doClear h A9, fun U A9 h => in_X0 h A9, hli, sm_X3_X3_doClear hk.1 _, va_Decl.of (im_X3_doClear hk.1 #[]) (co_X3_doClear hk.1 #[]), im_X0_doClear hk.1 _, se_X0_X3_doClear hk.1 _, by decide +kernel, ⟨⟨rfl, rfl⟩, Nat.le_trans (by decide) hR.1, Nat.le_trans (by decide) hR.2.1⟩, Nat.le_trans (Nat.add_le_add_left (by decide) _) hR.2.2.1, Nat.le_trans (Nat.add_le_add_left (by decide) _) hR.2.2.2⟩ hP hD hS hsize hW hdg (fun H1 locs1 hP1 hD1 hS1 => kk H1 locs1 hP1 hD1 hS1)
  · rw [epcl_6] at kk
    exact kCU (x := yX3_doClear) (y := yX1_doClear) (owner := RX3) (ci := 1) isD_1 C (cF l D ca sa lo isD_1) ⟨fun U A9 h => co_X1_doClear h A9, fun U A9 h => in_X1 h A9, hli, sm_X3_X3_doClear hk.1 _, va_Decl.of (im_X3_doClear hk.1 #[]) (co_X3_doClear hk.1 #[]), im_X1_doClear hk.1 _, se_X1_X3_doClear hk.1 _, by decide +kernel, ⟨⟨rfl, rfl⟩, Nat.le_trans (by decide) hR.1, Nat.le_trans (by decide) hR.2.1⟩, Nat.le_trans (Nat.add_le_add_left (by decide) _) hR.2.2.1, Nat.le_trans (Nat.add_le_add_left (by decide) _) hR.2.2.2⟩ hP hD hS hsize hW hdg (fun H1 locs1 hP1 hD1 hS1 => kk H1 locs1 hP1 hD1 hS1)
  · rw [epcl_7] at kk
    exact kCU (x := yX3_doClear) (y := yX7_doClear) (owner := RX3) (ci := 7) isD_7 C (cT l D ca sa lo isD_7) ⟨fun U A9 h => co_X7_doClear h A9, fun U A9 h => in_X7 h A9, hli, sm_X3_X3_doClear hk.1 _, va_Decl.of (im_X3_doClear hk.1 #[]) (co_X3_doClear hk.1 #[]), im_X7_doClear hk.1 _, se_X7_X3_doClear hk.1 _, by decide +kernel, ⟨⟨rfl, rfl⟩, Nat.le_trans (by decide) hR.1, Nat.le_trans (by decide) hR.2.1⟩, Nat.le_trans (Nat.add_le_add_left (by decide) _) hR.2.2.1, Nat.le_trans (Nat.add_le_add_left (by decide) _) hR.2.2.2⟩ hP hD hS hsize hW hdg (fun H1 locs1 hP1 hD1 hS1 => kk H1 locs1 hP1 hD1 hS1)
set_option maxHeartbeats 4000000 in
set_option maxRecDepth 100000 in
theorem vc_k (hkd : kd = 0 ∨ kd = 1 ∨ kd = 2 ∨ kd = 3 ∨ kd = 4 ∨ kd = 5 ∨ kd = 6 ∨ kd = 7) (C : Cx D ca sa lo p s m c cc nL own A) (hli : (Cond.methodLink own index yX3_doCost).before args s = true) (hP : va_P D cls (wd ca h0 ht hr (kc kd) K zn lm d t) H) (hD : va_D A (wd ca h0 ht hr (kc kd) K zn lm d t)) (hS : va_S A s.heap H locs) (hsize : ls.size = nL) (hW : (rest.map fun v => v.category).sum ≤ 8) (hdg : decode cc pc = .ok (.invokevirtual index, 3)) (hR : 3 ≤ R.frames ∧ 90 ≤ R.locals ∧ cells + 0 ≤ R.cells ∧ slots + 0 ≤ R.slots)
    (kk : ∀ (H1 : Heap) (locs1 : List Loc), va_P D cls (wd ca h0 ht hr (kc kd) K zn lm d (pk kd d t).2) H1 → va_D A (wd ca h0 ht hr (kc kd) K zn lm d (pk kd d t).2) → va_S A s.heap H1 locs1 → W p l e R s m args below meth c H1 locs1 cells slots Q (F0 m (pc + 3) ls (.int (pk kd d t).1 :: rest))) : W p l e R s m args below meth c H locs cells slots Q (F0 m pc ls (.ref h0 :: rest)) := by
  have hk := C.2.2.2.2.1
  rcases hkd with rfl | rfl | rfl | rfl | rfl | rfl | rfl | rfl
  · rw [epk_0] at kk
    exact kKU (x := yX3_doCost) (y := yX3_doCost) (owner := RX3) (ci := 3) isD_3 C (kP l D ca sa lo isD_3) ⟨fun U A9 h => co_X3_doCost h A9, fun U A9 h => in_X3 h A9, hli, sm_X3_X3_doCost hk.1 _, va_Decl.of (im_X3_doCost hk.1 #[]) (co_X3_doCost hk.1 #[]), im_X3_doCost hk.1 _, se_X3_X3_doCost hk.1 _, by decide +kernel, ⟨⟨rfl, rfl⟩, Nat.le_trans (by decide) hR.1, Nat.le_trans (by decide) hR.2.1⟩, Nat.le_trans (Nat.add_le_add_left (by decide) _) hR.2.2.1, Nat.le_trans (Nat.add_le_add_left (by decide) _) hR.2.2.2⟩ hP hD hS hsize hW hdg (fun H1 locs1 hP1 hD1 hS1 => kk H1 locs1 hP1 hD1 hS1)
  · rw [epk_1] at kk
    exact kKU (x := yX3_doCost) (y := yX3_doCost) (owner := RX3) (ci := 8) isD_8 C (kP l D ca sa lo isD_8) ⟨fun U A9 h => co_X3_doCost h A9, fun U A9 h => in_X3 h A9, hli, sm_X3_X3_doCost hk.1 _, va_Decl.of (im_X3_doCost hk.1 #[]) (co_X3_doCost hk.1 #[]), im_X3_doCost hk.1 _, se_X8_X3_doCost hk.1 _, by decide +kernel, ⟨⟨rfl, rfl⟩, Nat.le_trans (by decide) hR.1, Nat.le_trans (by decide) hR.2.1⟩, Nat.le_trans (Nat.add_le_add_left (by decide) _) hR.2.2.1, Nat.le_trans (Nat.add_le_add_left (by decide) _) hR.2.2.2⟩ hP hD hS hsize hW hdg (fun H1 locs1 hP1 hD1 hS1 => kk H1 locs1 hP1 hD1 hS1)
  · rw [epk_2] at kk
    exact kKU (x := yX3_doCost) (y := yX4_doCost) (owner := RX3) (ci := 4) isD_4 C (kR l D ca sa lo isD_4) ⟨fun U A9 h => co_X4_doCost h A9, fun U A9 h => in_X4 h A9, hli, sm_X3_X3_doCost hk.1 _, va_Decl.of (im_X3_doCost hk.1 #[]) (co_X3_doCost hk.1 #[]), im_X4_doCost hk.1 _, se_X4_X3_doCost hk.1 _, by decide +kernel, ⟨⟨rfl, rfl⟩, Nat.le_trans (by decide) hR.1, Nat.le_trans (by decide) hR.2.1⟩, Nat.le_trans (Nat.add_le_add_left (by decide) _) hR.2.2.1, Nat.le_trans (Nat.add_le_add_left (by decide) _) hR.2.2.2⟩ hP hD hS hsize hW hdg (fun H1 locs1 hP1 hD1 hS1 => kk H1 locs1 hP1 hD1 hS1)
  · rw [epk_3] at kk
    exact kKU (x := yX3_doCost) (y := yX3_doCost) (owner := RX3) (ci := 5) isD_5 C (kP l D ca sa lo isD_5) ⟨fun U A9 h => co_X3_doCost h A9, fun U A9 h => in_X3 h A9, hli, sm_X3_X3_doCost hk.1 _, va_Decl.of (im_X3_doCost hk.1 #[]) (co_X3_doCost hk.1 #[]), im_X3_doCost hk.1 _, se_X5_X3_doCost hk.1 _, by decide +kernel, ⟨⟨rfl, rfl⟩, Nat.le_trans (by decide) hR.1, Nat.le_trans (by decide) hR.2.1⟩, Nat.le_trans (Nat.add_le_add_left (by decide) _) hR.2.2.1, Nat.le_trans (Nat.add_le_add_left (by decide) _) hR.2.2.2⟩ hP hD hS hsize hW hdg (fun H1 locs1 hP1 hD1 hS1 => kk H1 locs1 hP1 hD1 hS1)
  · rw [epk_4] at kk
    exact kKU (x := yX3_doCost) (y := yX4_doCost) (owner := RX3) (ci := 2) isD_2 C (kR l D ca sa lo isD_2) ⟨fun U A9 h => co_X4_doCost h A9, fun U A9 h => in_X4 h A9, hli, sm_X3_X3_doCost hk.1 _, va_Decl.of (im_X3_doCost hk.1 #[]) (co_X3_doCost hk.1 #[]), im_X4_doCost hk.1 _, se_X2_X3_doCost hk.1 _, by decide +kernel, ⟨⟨rfl, rfl⟩, Nat.le_trans (by decide) hR.1, Nat.le_trans (by decide) hR.2.1⟩, Nat.le_trans (Nat.add_le_add_left (by decide) _) hR.2.2.1, Nat.le_trans (Nat.add_le_add_left (by decide) _) hR.2.2.2⟩ hP hD hS hsize hW hdg (fun H1 locs1 hP1 hD1 hS1 => kk H1 locs1 hP1 hD1 hS1)
  · rw [epk_5] at kk
    exact kKU (x := yX3_doCost) (y := yX4_doCost) (owner := RX3) (ci := 0) isD_0 C (kR l D ca sa lo isD_0) ⟨fun U A9 h => co_X4_doCost h A9, fun U A9 h => in_X4 h A9, hli, sm_X3_X3_doCost hk.1 _, va_Decl.of (im_X3_doCost hk.1 #[]) (co_X3_doCost hk.1 #[]), im_X4_doCost hk.1 _, se_X0_X3_doCost hk.1 _, by decide +kernel, ⟨⟨rfl, rfl⟩, Nat.le_trans (by decide) hR.1, Nat.le_trans (by decide) hR.2.1⟩, Nat.le_trans (Nat.add_le_add_left (by decide) _) hR.2.2.1, Nat.le_trans (Nat.add_le_add_left (by decide) _) hR.2.2.2⟩ hP hD hS hsize hW hdg (fun H1 locs1 hP1 hD1 hS1 => kk H1 locs1 hP1 hD1 hS1)
  · rw [epk_6] at kk
    exact kKU (x := yX3_doCost) (y := yX1_doCost) (owner := RX3) (ci := 1) isD_1 C (kF l D ca sa lo isD_1) ⟨fun U A9 h => co_X1_doCost h A9, fun U A9 h => in_X1 h A9, hli, sm_X3_X3_doCost hk.1 _, va_Decl.of (im_X3_doCost hk.1 #[]) (co_X3_doCost hk.1 #[]), im_X1_doCost hk.1 _, se_X1_X3_doCost hk.1 _, by decide +kernel, ⟨⟨rfl, rfl⟩, Nat.le_trans (by decide) hR.1, Nat.le_trans (by decide) hR.2.1⟩, Nat.le_trans (Nat.add_le_add_left (by decide) _) hR.2.2.1, Nat.le_trans (Nat.add_le_add_left (by decide) _) hR.2.2.2⟩ hP hD hS hsize hW hdg (fun H1 locs1 hP1 hD1 hS1 => kk H1 locs1 hP1 hD1 hS1)
  · rw [epk_7] at kk
    exact kKU (x := yX3_doCost) (y := yX7_doCost) (owner := RX3) (ci := 7) isD_7 C (kT l D ca sa lo isD_7) ⟨fun U A9 h => co_X7_doCost h A9, fun U A9 h => in_X7 h A9, hli, sm_X3_X3_doCost hk.1 _, va_Decl.of (im_X3_doCost hk.1 #[]) (co_X3_doCost hk.1 #[]), im_X7_doCost hk.1 _, se_X7_X3_doCost hk.1 _, by decide +kernel, ⟨⟨rfl, rfl⟩, Nat.le_trans (by decide) hR.1, Nat.le_trans (by decide) hR.2.1⟩, Nat.le_trans (Nat.add_le_add_left (by decide) _) hR.2.2.1, Nat.le_trans (Nat.add_le_add_left (by decide) _) hR.2.2.2⟩ hP hD hS hsize hW hdg (fun H1 locs1 hP1 hD1 hS1 => kk H1 locs1 hP1 hD1 hS1)
end VC
end
section
set_option maxHeartbeats 4000000 in
set_option maxRecDepth 100000 in
theorem rP (l : Launch) (D : va_G) (ca : Nat → ClassId) (sa : Nat → Nat) (lo : Nat) (hl9 : l.stackTraces = false) (kn : Nat) (hkn : (kn = 0 ∨ kn = 1 ∨ kn = 2 ∨ kn = 3 ∨ kn = 4 ∨ kn = 5 ∨ kn = 6 ∨ kn = 7)) {Cn : String} (hd : isD (kc kn) Cn) : cR l D ca sa lo yX3_doRead cX3_doRead 3 ({ frames := 8, cells := 2, slots := 12, locals := 150 }) 2 12 (kc kn) (prP kn) := by
  intro sz h0 ht hr kd zn lm v d t
  obtain ⟨ch, le, co, dr, la⟩ := d
  generalize hr9 : prP kn v (ch, le, co, dr, la) t = r
  refine mk_metX (fun A => QR D (wd ca h0 ht hr (kc kn) kd zn lm) r A) (fun A => XR D (wd ca h0 ht hr (kc kn) kd zn lm) r A) (by decide) (Nat.le_of_ble_eq_true rfl) ?_
  intro p e s m below meth c A ls C hrt hlocks hno hsz hP hD hS hl
  obtain ⟨hx, hb, hml, hown, hk, hz, hlo, hA, hAl⟩ := id C
  have hK : va_K D cls (tyl ca) s := hk.2.1
  have hl : lv_has ls 3 [(0, .ref h0), (1, .int v)] := hl
  have hP : va_P D cls ((h0, .inr ((kc kn), [.ref ht, .int kd, .int zn, .int lm, .int ch, .int le, .int co, .int dr, .int (bi la)])) :: wt ca ht hr t) s.heap := hP
  have hD : va_D A ((h0, .inr ((kc kn), [.ref ht, .int kd, .int zn, .int lm, .int ch, .int le, .int co, .int dr, .int (bi la)])) :: wt ca ht hr t) := hD
  refine lv_aload_n hx hb dX3_doRead_0 rfl (lv_at hl 0 rfl) ?_
  refine va_get (D := D) (C := Cn) (T := TX3) (N := 9) hx hb (hd.2 _ _ hk.1) (fun _ h9 => h9) hown hK hP 0 rfl hd.1 0 (by decide) (fl_X3_9 hk.1 _) (fun _ h9 => h9) rfl dX3_doRead_1 ?_
  refine lv_iconst (v := 1) hx hb dX3_doRead_4 (by decide) ?_
  refine lv_iconst (v := 0) hx hb dX3_doRead_5 (by decide) ?_
  refine cb_begin C (ml_X3_28 hk.1 _) hP hD hS hl.1 ⟨by decide, by decide⟩ (Nat.le_of_ble_eq_true rfl) dX3_doRead_6 ⟨by decide, by decide⟩ (fun H locs hP hD hS => ?_)
  have hP : va_P D cls ((h0, .inr ((kc kn), [.ref ht, .int kd, .int zn, .int lm, .int ch, .int le, .int co, .int dr, .int (bi la)])) :: wt ca ht hr (tb 1 0 t)) H := hP
  have hD : va_D A ((h0, .inr ((kc kn), [.ref ht, .int kd, .int zn, .int lm, .int ch, .int le, .int co, .int dr, .int (bi la)])) :: wt ca ht hr (tb 1 0 t)) := hD
  refine lv_aload_n hx hb dX3_doRead_9 rfl (lv_at hl 0 rfl) ?_
  refine lv_iload_n hx hb dX3_doRead_10 rfl (lv_at hl 1 rfl) ?_
  refine vc_w (d := (ch, le, co, dr, la)) (t := tb 1 0 t) hl9 hkn C (ml_X3_34 hk.1 _) hP hD hS hl.1 (Nat.le_of_ble_eq_true rfl) dX3_doRead_11 ⟨by decide, by decide, by decide, by decide⟩ (fun E ce q9 H locs he hP hD hS h1 h2 h3 => ?_) (fun h0c H locs hP hD hS => ?_)
  · have hr9 : r = ((pw kn v (ch, le, co, dr, la) (tb 1 0 t)).1, (pw kn v (ch, le, co, dr, la) (tb 1 0 t)).2.2.1, (pw kn v (ch, le, co, dr, la) (tb 1 0 t)).2.2.2) := by rw [← hr9]; exact if_neg (fun h => en_0 h he)
    subst hr9
    exact or_ hno hlocks he hP hS h1 h2 h3 (by decide) (by decide)
  · replace hr9 : prPe (pw kn v (ch, le, co, dr, la) (tb 1 0 t)) = r := hr9
    generalize hq9 : pw kn v (ch, le, co, dr, la) (tb 1 0 t) = q at hP hD hr9 h0c ⊢
    obtain ⟨c9, v9, ⟨ch9, le9, co9, dr9, la9⟩, t9⟩ := q
    cases (show c9 = 0 from h0c)
    have hr9 : r = (0, (ch9, (3 * le9 + v9) / 4, co9 + 1, dr9, la9), t9) := by rw [← hr9]; rfl
    subst hr9
    have hP : va_P D cls ((h0, .inr ((kc kn), [.ref ht, .int kd, .int zn, .int lm, .int ch9, .int le9, .int co9, .int dr9, .int (bi la9)])) :: wt ca ht hr t9) H := hP
    have hD : va_D A ((h0, .inr ((kc kn), [.ref ht, .int kd, .int zn, .int lm, .int ch9, .int le9, .int co9, .int dr9, .int (bi la9)])) :: wt ca ht hr t9) := hD
    refine lv_istore_n (lv' := [(2, .int v9), (0, .ref h0), (1, .int v)]) hx hb dX3_doRead_14 rfl hl (by decide) rfl (fun ls hl => ?_)
    refine lv_aload_n hx hb dX3_doRead_15 rfl (lv_at hl 1 rfl) ?_
    refine lv_iconst (v := 3) hx hb dX3_doRead_16 (by decide) ?_
    refine lv_aload_n hx hb dX3_doRead_17 rfl (lv_at hl 1 rfl) ?_
    refine va_get (D := D) (C := Cn) (T := TX3) (N := 9) hx hb (hd.2 _ _ hk.1) (fun _ h9 => h9) hown hK hP 0 rfl hd.1 5 (by decide) (fl_X3_38 hk.1 _) (fun _ h9 => h9) rfl dX3_doRead_18 ?_
    refine lv_imul hx hb dX3_doRead_21 ?_
    refine lv_iload_n hx hb dX3_doRead_22 rfl (lv_at hl 0 rfl) ?_
    refine lv_iadd hx hb dX3_doRead_23 ?_
    refine lv_iconst (v := 4) hx hb dX3_doRead_24 (by decide) ?_
    refine lv_idiv hx hb dX3_doRead_25 (by decide) ?_
    refine va_put (D := D) (v := .int (((3 * le9) + v9) / 4)) (ty := .int) (C := Cn) (T := TX3) (N := 9) hx hb (hd.2 _ _ hk.1) (fun _ h9 => h9) tyX3 tyX3_ok nmX3 hown hK hP hD hS 0 rfl hd.1 5 (by decide) (fl_X3_38 hk.1 _) (fun _ h9 => h9) rfl (by decide +kernel) rfl rfl (Nat.le_of_ble_eq_true rfl) dX3_doRead_26 (fun H locs hP hD hS => ?_)
    have hP : va_P D cls ((h0, .inr ((kc kn), [.ref ht, .int kd, .int zn, .int lm, .int ch9, .int (((3 * le9) + v9) / 4), .int co9, .int dr9, .int (bi la9)])) :: wt ca ht hr t9) H := hP
    have hD : va_D A ((h0, .inr ((kc kn), [.ref ht, .int kd, .int zn, .int lm, .int ch9, .int (((3 * le9) + v9) / 4), .int co9, .int dr9, .int (bi la9)])) :: wt ca ht hr t9) := hD
    refine lv_aload_n hx hb dX3_doRead_29 rfl (lv_at hl 1 rfl) ?_
    refine lv_dup hx hb dX3_doRead_30 rfl ?_
    refine va_get (D := D) (C := Cn) (T := TX3) (N := 9) hx hb (hd.2 _ _ hk.1) (fun _ h9 => h9) hown hK hP 0 rfl hd.1 6 (by decide) (fl_X3_41 hk.1 _) (fun _ h9 => h9) rfl dX3_doRead_31 ?_
    refine lv_iconst (v := 1) hx hb dX3_doRead_34 (by decide) ?_
    refine lv_iadd hx hb dX3_doRead_35 ?_
    refine va_put (D := D) (v := .int (co9 + 1)) (ty := .int) (C := Cn) (T := TX3) (N := 9) hx hb (hd.2 _ _ hk.1) (fun _ h9 => h9) tyX3 tyX3_ok nmX3 hown hK hP hD hS 0 rfl hd.1 6 (by decide) (fl_X3_41 hk.1 _) (fun _ h9 => h9) rfl (by decide +kernel) rfl rfl (Nat.le_of_ble_eq_true rfl) dX3_doRead_36 (fun H locs hP hD hS => ?_)
    have hP : va_P D cls ((h0, .inr ((kc kn), [.ref ht, .int kd, .int zn, .int lm, .int ch9, .int (((3 * le9) + v9) / 4), .int (co9 + 1), .int dr9, .int (bi la9)])) :: wt ca ht hr t9) H := hP
    have hD : va_D A ((h0, .inr ((kc kn), [.ref ht, .int kd, .int zn, .int lm, .int ch9, .int (((3 * le9) + v9) / 4), .int (co9 + 1), .int dr9, .int (bi la9)])) :: wt ca ht hr t9) := hD
    exact rr_ C hrt hlocks rfl hP hS dX3_doRead_39 (by decide) (by decide)

set_option maxHeartbeats 4000000 in
set_option maxRecDepth 100000 in
theorem rS (l : Launch) (D : va_G) (ca : Nat → ClassId) (sa : Nat → Nat) (lo : Nat) (hl9 : l.stackTraces = false) (kn : Nat) (hkn : (kn = 0 ∨ kn = 1 ∨ kn = 2 ∨ kn = 3 ∨ kn = 4 ∨ kn = 5 ∨ kn = 6 ∨ kn = 7)) {Cn : String} (hd : isD (kc kn) Cn) : cR l D ca sa lo yX5_doRead cX5_doRead 2 ({ frames := 9, cells := 2, slots := 12, locals := 180 }) 2 12 (kc kn) (prS kn) := by
  intro sz h0 ht hr kd zn lm v d t
  obtain ⟨ch, le, co, dr, la⟩ := d
  generalize hr9 : prS kn v (ch, le, co, dr, la) t = r
  refine mk_metX (fun A => QR D (wd ca h0 ht hr (kc kn) kd zn lm) r A) (fun A => XR D (wd ca h0 ht hr (kc kn) kd zn lm) r A) (by decide) (Nat.le_of_ble_eq_true rfl) ?_
  intro p e s m below meth c A ls C hrt hlocks hno hsz hP hD hS hl
  obtain ⟨hx, hb, hml, hown, hk, hz, hlo, hA, hAl⟩ := id C
  have hK : va_K D cls (tyl ca) s := hk.2.1
  have hl : lv_has ls 2 [(0, .ref h0), (1, .int v)] := hl
  have hP : va_P D cls ((h0, .inr ((kc kn), [.ref ht, .int kd, .int zn, .int lm, .int ch, .int le, .int co, .int dr, .int (bi la)])) :: wt ca ht hr t) s.heap := hP
  have hD : va_D A ((h0, .inr ((kc kn), [.ref ht, .int kd, .int zn, .int lm, .int ch, .int le, .int co, .int dr, .int (bi la)])) :: wt ca ht hr t) := hD
  refine lv_aload_n hx hb dX5_doRead_0 rfl (lv_at hl 0 rfl) ?_
  refine va_get (D := D) (C := Cn) (T := TX3) (N := 9) hx hb (hd.2 _ _ hk.1) (fun _ h9 => h9) hown hK hP 0 rfl hd.1 0 (by decide) (fl_X5_9 hk.1 _) (fun x9 h9 => u_same (sf_X5_trace hk.1 #[]) x9 h9) rfl dX5_doRead_1 ?_
  refine lv_iconst (v := 1) hx hb dX5_doRead_4 (by decide) ?_
  refine lv_iconst (v := 3) hx hb dX5_doRead_5 (by decide) ?_
  refine cb_begin C (ml_X5_15 hk.1 _) hP hD hS hl.1 ⟨by decide, by decide⟩ (Nat.le_of_ble_eq_true rfl) dX5_doRead_6 ⟨by decide, by decide⟩ (fun H locs hP hD hS => ?_)
  have hP : va_P D cls ((h0, .inr ((kc kn), [.ref ht, .int kd, .int zn, .int lm, .int ch, .int le, .int co, .int dr, .int (bi la)])) :: wt ca ht hr (tb 1 3 t)) H := hP
  have hD : va_D A ((h0, .inr ((kc kn), [.ref ht, .int kd, .int zn, .int lm, .int ch, .int le, .int co, .int dr, .int (bi la)])) :: wt ca ht hr (tb 1 3 t)) := hD
  refine lv_aload_n hx hb dX5_doRead_9 rfl (lv_at hl 0 rfl) ?_
  refine lv_iload_n hx hb dX5_doRead_10 rfl (lv_at hl 1 rfl) ?_
  refine kRS (x := ⟨"AlarmKinds$Wired", "doRead", "(I)V"⟩) (d := (ch, le, co, dr, la)) (t := tb 1 3 t) hd C (rP l D ca sa lo hl9 kn hkn hd) ⟨fun U A9 h => co_X3_doRead h A9, fun U A9 h => in_X3 h A9, ml_X5_29 hk.1 _, sm_X8_X3_doRead hk.1 _, su_X5 hk.1 _, up_84 hk, im_X3_doRead hk.1 _, by decide +kernel, ⟨⟨rfl, rfl⟩, by decide, by decide⟩, by decide, by decide⟩ hP hD hS hl.1 (Nat.le_of_ble_eq_true rfl) dX5_doRead_11 (fun E ce q9 H locs he hP hD hS h1 h2 h3 => ?_) (fun h0c H locs hP hD hS => ?_)
  · have hr9 : r = prP kn v (ch, le, co, dr, la) (tb 1 3 t) := by rw [← hr9]; exact if_neg (fun h => en_0 h he)
    subst hr9
    exact or_ hno hlocks he hP hS h1 h2 h3 (by decide) (by decide)
  · replace hr9 : prSe (prP kn v (ch, le, co, dr, la) (tb 1 3 t)) = r := hr9
    generalize hq9 : prP kn v (ch, le, co, dr, la) (tb 1 3 t) = q at hP hD hr9 h0c ⊢
    obtain ⟨c9, ⟨ch9, le9, co9, dr9, la9⟩, t9⟩ := q
    cases (show c9 = 0 from h0c)
    have hP : va_P D cls ((h0, .inr ((kc kn), [.ref ht, .int kd, .int zn, .int lm, .int ch9, .int le9, .int co9, .int dr9, .int (bi la9)])) :: wt ca ht hr t9) H := hP
    have hD : va_D A ((h0, .inr ((kc kn), [.ref ht, .int kd, .int zn, .int lm, .int ch9, .int le9, .int co9, .int dr9, .int (bi la9)])) :: wt ca ht hr t9) := hD
    refine lv_aload_n hx hb dX5_doRead_14 rfl (lv_at hl 0 rfl) ?_
    refine va_get (D := D) (C := Cn) (T := TX3) (N := 9) hx hb (hd.2 _ _ hk.1) (fun _ h9 => h9) hown hK hP 0 rfl hd.1 5 (by decide) (fl_X5_33 hk.1 _) (fun x9 h9 => u_same (sf_X5_level hk.1 #[]) x9 h9) rfl dX5_doRead_15 ?_
    refine lv_aload_n hx hb dX5_doRead_18 rfl (lv_at hl 0 rfl) ?_
    refine va_get (D := D) (C := Cn) (T := TX3) (N := 9) hx hb (hd.2 _ _ hk.1) (fun _ h9 => h9) hown hK hP 0 rfl hd.1 7 (by decide) (fl_X5_25 hk.1 _) (fun x9 h9 => u_same (sf_X5_drift hk.1 #[]) x9 h9) rfl dX5_doRead_19 ?_
    refine lv_icmp_le (tgt := 38) hx hb dX5_doRead_22 (by decide) (fun c_1 => ?_) (fun c_1 => ?_)
    · refine lv_aload_n hx hb dX5_doRead_38 rfl (lv_at hl 0 rfl) ?_
      refine va_get (D := D) (C := Cn) (T := TX3) (N := 9) hx hb (hd.2 _ _ hk.1) (fun _ h9 => h9) hown hK hP 0 rfl hd.1 5 (by decide) (fl_X5_33 hk.1 _) (fun x9 h9 => u_same (sf_X5_level hk.1 #[]) x9 h9) rfl dX5_doRead_39 ?_
      refine lv_aload_n hx hb dX5_doRead_42 rfl (lv_at hl 0 rfl) ?_
      refine va_get (D := D) (C := Cn) (T := TX3) (N := 9) hx hb (hd.2 _ _ hk.1) (fun _ h9 => h9) hown hK hP 0 rfl hd.1 7 (by decide) (fl_X5_25 hk.1 _) (fun x9 h9 => u_same (sf_X5_drift hk.1 #[]) x9 h9) rfl dX5_doRead_43 ?_
      refine lv_icmp_ge (tgt := 59) hx hb dX5_doRead_46 (by decide) (fun c_2 => ?_) (fun c_2 => ?_)
      · have hr9 : r = (0, (ch9, le9, co9, dr9, la9), t9) := by
          rw [← hr9]; show ((0 : Nat), (ch9, le9, co9, (if dr9 < le9 then dr9 + 1 else if le9 < dr9 then dr9 - 1 else dr9), la9), t9) = _
          rw [if_neg (Int32.not_lt.mpr c_1), if_neg (Int32.not_lt.mpr c_2)]
        subst hr9
        exact rr_ C hrt hlocks rfl hP hS dX5_doRead_59 (by decide) (by decide)
      · have hr9 : r = (0, (ch9, le9, co9, dr9 - 1, la9), t9) := by
          rw [← hr9]; show ((0 : Nat), (ch9, le9, co9, (if dr9 < le9 then dr9 + 1 else if le9 < dr9 then dr9 - 1 else dr9), la9), t9) = _
          rw [if_neg (Int32.not_lt.mpr c_1), if_pos (Int32.not_le.mp c_2)]
        subst hr9
        refine lv_aload_n hx hb dX5_doRead_49 rfl (lv_at hl 0 rfl) ?_
        refine lv_dup hx hb dX5_doRead_50 rfl ?_
        refine va_get (D := D) (C := Cn) (T := TX3) (N := 9) hx hb (hd.2 _ _ hk.1) (fun _ h9 => h9) hown hK hP 0 rfl hd.1 7 (by decide) (fl_X5_25 hk.1 _) (fun x9 h9 => u_same (sf_X5_drift hk.1 #[]) x9 h9) rfl dX5_doRead_51 ?_
        refine lv_iconst (v := 1) hx hb dX5_doRead_54 (by decide) ?_
        refine lv_isub hx hb dX5_doRead_55 ?_
        refine va_put (D := D) (v := .int (dr9 - 1)) (ty := .int) (C := Cn) (T := TX3) (N := 9) hx hb (hd.2 _ _ hk.1) (fun _ h9 => h9) tyX3 tyX3_ok nmX3 hown hK hP hD hS 0 rfl hd.1 7 (by decide) (fl_X5_25 hk.1 _) (fun x9 h9 => u_same (sf_X5_drift hk.1 #[]) x9 h9) rfl (by decide +kernel) rfl rfl (Nat.le_of_ble_eq_true rfl) dX5_doRead_56 (fun H locs hP hD hS => ?_)
        have hP : va_P D cls ((h0, .inr ((kc kn), [.ref ht, .int kd, .int zn, .int lm, .int ch9, .int le9, .int co9, .int (dr9 - 1), .int (bi la9)])) :: wt ca ht hr t9) H := hP
        have hD : va_D A ((h0, .inr ((kc kn), [.ref ht, .int kd, .int zn, .int lm, .int ch9, .int le9, .int co9, .int (dr9 - 1), .int (bi la9)])) :: wt ca ht hr t9) := hD
        exact rr_ C hrt hlocks rfl hP hS dX5_doRead_59 (by decide) (by decide)
    · have hr9 : r = (0, (ch9, le9, co9, dr9 + 1, la9), t9) := by
        rw [← hr9]; show ((0 : Nat), (ch9, le9, co9, (if dr9 < le9 then dr9 + 1 else if le9 < dr9 then dr9 - 1 else dr9), la9), t9) = _
        rw [if_pos (Int32.not_le.mp c_1)]
      subst hr9
      refine lv_aload_n hx hb dX5_doRead_25 rfl (lv_at hl 0 rfl) ?_
      refine lv_dup hx hb dX5_doRead_26 rfl ?_
      refine va_get (D := D) (C := Cn) (T := TX3) (N := 9) hx hb (hd.2 _ _ hk.1) (fun _ h9 => h9) hown hK hP 0 rfl hd.1 7 (by decide) (fl_X5_25 hk.1 _) (fun x9 h9 => u_same (sf_X5_drift hk.1 #[]) x9 h9) rfl dX5_doRead_27 ?_
      refine lv_iconst (v := 1) hx hb dX5_doRead_30 (by decide) ?_
      refine lv_iadd hx hb dX5_doRead_31 ?_
      refine va_put (D := D) (v := .int (dr9 + 1)) (ty := .int) (C := Cn) (T := TX3) (N := 9) hx hb (hd.2 _ _ hk.1) (fun _ h9 => h9) tyX3 tyX3_ok nmX3 hown hK hP hD hS 0 rfl hd.1 7 (by decide) (fl_X5_25 hk.1 _) (fun x9 h9 => u_same (sf_X5_drift hk.1 #[]) x9 h9) rfl (by decide +kernel) rfl rfl (Nat.le_of_ble_eq_true rfl) dX5_doRead_32 (fun H locs hP hD hS => ?_)
      have hP : va_P D cls ((h0, .inr ((kc kn), [.ref ht, .int kd, .int zn, .int lm, .int ch9, .int le9, .int co9, .int (dr9 + 1), .int (bi la9)])) :: wt ca ht hr t9) H := hP
      have hD : va_D A ((h0, .inr ((kc kn), [.ref ht, .int kd, .int zn, .int lm, .int ch9, .int le9, .int co9, .int (dr9 + 1), .int (bi la9)])) :: wt ca ht hr t9) := hD
      refine lv_goto (tgt := 59) hx hb dX5_doRead_35 (by decide) ?_
      exact rr_ C hrt hlocks rfl hP hS dX5_doRead_59 (by decide) (by decide)

set_option maxHeartbeats 4000000 in
set_option maxRecDepth 100000 in
theorem rH (l : Launch) (D : va_G) (ca : Nat → ClassId) (sa : Nat → Nat) (lo : Nat) (hl9 : l.stackTraces = false) : cR l D ca sa lo yX2_doRead cX2_doRead 2 ({ frames := 9, cells := 4, slots := 24, locals := 180 }) 4 24 2 prH := by
  intro sz h0 ht hr kd zn lm v d t
  have hd := isD_2
  obtain ⟨ch, le, co, dr, la⟩ := d
  generalize hr9 : prH v (ch, le, co, dr, la) t = r
  refine mk_metX (fun A => QR D (wd ca h0 ht hr 2 kd zn lm) r A) (fun A => XR D (wd ca h0 ht hr 2 kd zn lm) r A) (by decide) (Nat.le_of_ble_eq_true rfl) ?_
  intro p e s m below meth c A ls C hrt hlocks hno hsz hP hD hS hl
  obtain ⟨hx, hb, hml, hown, hk, hz, hlo, hA, hAl⟩ := id C
  have hK : va_K D cls (tyl ca) s := hk.2.1
  have hl : lv_has ls 2 [(0, .ref h0), (1, .int v)] := hl
  have hP : va_P D cls ((h0, .inr (2, [.ref ht, .int kd, .int zn, .int lm, .int ch, .int le, .int co, .int dr, .int (bi la)])) :: wt ca ht hr t) s.heap := hP
  have hD : va_D A ((h0, .inr (2, [.ref ht, .int kd, .int zn, .int lm, .int ch, .int le, .int co, .int dr, .int (bi la)])) :: wt ca ht hr t) := hD
  refine lv_aload_n hx hb dX2_doRead_0 rfl (lv_at hl 0 rfl) ?_
  refine va_get (D := D) (C := RX2) (T := TX3) (N := 9) hx hb (hd.2 _ _ hk.1) (fun _ h9 => h9) hown hK hP 0 rfl hd.1 0 (by decide) (fl_X2_9 hk.1 _) (fun x9 h9 => u_same (sf_X2_trace hk.1 #[]) x9 h9) rfl dX2_doRead_1 ?_
  refine lv_iconst (v := 1) hx hb dX2_doRead_4 (by decide) ?_
  refine lv_iconst (v := 4) hx hb dX2_doRead_5 (by decide) ?_
  refine cb_begin C (ml_X2_15 hk.1 _) hP hD hS hl.1 ⟨by decide, by decide⟩ (Nat.le_of_ble_eq_true rfl) dX2_doRead_6 ⟨by decide, by decide⟩ (fun H locs hP hD hS => ?_)
  have hP : va_P D cls ((h0, .inr (2, [.ref ht, .int kd, .int zn, .int lm, .int ch, .int le, .int co, .int dr, .int (bi la)])) :: wt ca ht hr (tb 1 4 t)) H := hP
  have hD : va_D A ((h0, .inr (2, [.ref ht, .int kd, .int zn, .int lm, .int ch, .int le, .int co, .int dr, .int (bi la)])) :: wt ca ht hr (tb 1 4 t)) := hD
  refine lv_aload_n hx hb dX2_doRead_9 rfl (lv_at hl 0 rfl) ?_
  refine lv_iload_n hx hb dX2_doRead_10 rfl (lv_at hl 1 rfl) ?_
  refine kRS (x := ⟨"AlarmKinds$Radio", "doRead", "(I)V"⟩) (d := (ch, le, co, dr, la)) (t := tb 1 4 t) hd C (rP l D ca sa lo hl9 4 (by decide) isD_2) ⟨fun U A9 h => co_X3_doRead h A9, fun U A9 h => in_X3 h A9, ml_X2_21 hk.1 _, sm_X4_X3_doRead hk.1 _, su_X2 hk.1 _, up_4 hk, im_X3_doRead hk.1 _, by decide +kernel, ⟨⟨rfl, rfl⟩, by decide, by decide⟩, by decide, by decide⟩ hP hD hS hl.1 (Nat.le_of_ble_eq_true rfl) dX2_doRead_11 (fun E ce q9 H locs he hP hD hS h1 h2 h3 => ?_) (fun h0c H locs hP hD hS => ?_)
  · have hr9 : r = prP 4 v (ch, le, co, dr, la) (tb 1 4 t) := by rw [← hr9]; exact if_neg (fun h => en_0 h he)
    subst hr9
    exact or_ hno hlocks he hP hS h1 h2 h3 (by decide) (by decide)
  · replace hr9 : prHe v (prP 4 v (ch, le, co, dr, la) (tb 1 4 t)) = r := hr9
    generalize hq9 : prP 4 v (ch, le, co, dr, la) (tb 1 4 t) = q at hP hD hr9 h0c ⊢
    obtain ⟨c9, ⟨ch9, le9, co9, dr9, la9⟩, t9⟩ := q
    cases (show c9 = 0 from h0c)
    have hP : va_P D cls ((h0, .inr (2, [.ref ht, .int kd, .int zn, .int lm, .int ch9, .int le9, .int co9, .int dr9, .int (bi la9)])) :: wt ca ht hr t9) H := hP
    have hD : va_D A ((h0, .inr (2, [.ref ht, .int kd, .int zn, .int lm, .int ch9, .int le9, .int co9, .int dr9, .int (bi la9)])) :: wt ca ht hr t9) := hD
    refine lv_iload_n hx hb dX2_doRead_14 rfl (lv_at hl 1 rfl) ?_
    refine lv_aload_n hx hb dX2_doRead_15 rfl (lv_at hl 0 rfl) ?_
    refine va_get (D := D) (C := RX2) (T := TX3) (N := 9) hx hb (hd.2 _ _ hk.1) (fun _ h9 => h9) hown hK hP 0 rfl hd.1 5 (by decide) (fl_X2_25 hk.1 _) (fun x9 h9 => u_same (sf_X2_level hk.1 #[]) x9 h9) rfl dX2_doRead_16 ?_
    refine lv_icmp_le (tgt := 27) hx hb dX2_doRead_19 (by decide) (fun c_1 => ?_) (fun c_1 => ?_)
    · have hr9 : r = (0, (ch9, le9, co9, dr9, la9), t9) := by rw [← hr9]; exact (if_pos rfl).trans (if_neg (Int32.not_lt.mpr c_1))
      subst hr9
      exact rr_ C hrt hlocks rfl hP hS dX2_doRead_27 (by decide) (by decide)
    · have hr9 : r = prP 4 v (ch9, le9, co9, dr9, la9) t9 := by rw [← hr9]; exact (if_pos rfl).trans (if_pos (Int32.not_le.mp c_1))
      subst hr9
      refine lv_aload_n hx hb dX2_doRead_22 rfl (lv_at hl 0 rfl) ?_
      refine lv_iload_n hx hb dX2_doRead_23 rfl (lv_at hl 1 rfl) ?_
      refine kRS (x := ⟨"AlarmKinds$Radio", "doRead", "(I)V"⟩) (d := (ch9, le9, co9, dr9, la9)) (t := t9) hd C (rP l D ca sa lo hl9 4 (by decide) isD_2) ⟨fun U A9 h => co_X3_doRead h A9, fun U A9 h => in_X3 h A9, ml_X2_21 hk.1 _, sm_X4_X3_doRead hk.1 _, su_X2 hk.1 _, up_4 hk, im_X3_doRead hk.1 _, by decide +kernel, ⟨⟨rfl, rfl⟩, by decide, by decide⟩, by decide, by decide⟩ hP hD hS hl.1 (Nat.le_of_ble_eq_true rfl) dX2_doRead_24 (fun E ce q9 H locs he hP hD hS h1 h2 h3 => ?_) (fun h0c H locs hP hD hS => ?_)
      · exact or_ hno hlocks he hP hS h1 h2 h3 (by decide) (by decide)
      · exact rr_ C hrt hlocks h0c hP hS dX2_doRead_27 (by decide) (by decide)

set_option maxHeartbeats 4000000 in
set_option maxRecDepth 100000 in
theorem rT (l : Launch) (D : va_G) (ca : Nat → ClassId) (sa : Nat → Nat) (lo : Nat) (hl9 : l.stackTraces = false) : cR l D ca sa lo yX7_doRead cX7_doRead 2 ({ frames := 10, cells := 4, slots := 24, locals := 210 }) 4 24 7 prT := by
  intro sz h0 ht hr kd zn lm v d t
  have hd := isD_7
  obtain ⟨ch, le, co, dr, la⟩ := d
  generalize hr9 : prT v (ch, le, co, dr, la) t = r
  refine mk_metX (fun A => QR D (wd ca h0 ht hr 7 kd zn lm) r A) (fun A => XR D (wd ca h0 ht hr 7 kd zn lm) r A) (by decide) (Nat.le_of_ble_eq_true rfl) ?_
  intro p e s m below meth c A ls C hrt hlocks hno hsz hP hD hS hl
  obtain ⟨hx, hb, hml, hown, hk, hz, hlo, hA, hAl⟩ := id C
  have hK : va_K D cls (tyl ca) s := hk.2.1
  have hl : lv_has ls 2 [(0, .ref h0), (1, .int v)] := hl
  have hP : va_P D cls ((h0, .inr (7, [.ref ht, .int kd, .int zn, .int lm, .int ch, .int le, .int co, .int dr, .int (bi la)])) :: wt ca ht hr t) s.heap := hP
  have hD : va_D A ((h0, .inr (7, [.ref ht, .int kd, .int zn, .int lm, .int ch, .int le, .int co, .int dr, .int (bi la)])) :: wt ca ht hr t) := hD
  refine lv_aload_n hx hb dX7_doRead_0 rfl (lv_at hl 0 rfl) ?_
  refine va_get (D := D) (C := RX7) (T := TX3) (N := 9) hx hb (hd.2 _ _ hk.1) (fun _ h9 => h9) hown hK hP 0 rfl hd.1 0 (by decide) (fl_X7_9 hk.1 _) (fun x9 h9 => u_same (sf_X7_trace hk.1 #[]) x9 h9) rfl dX7_doRead_1 ?_
  refine lv_iconst (v := 1) hx hb dX7_doRead_4 (by decide) ?_
  refine lv_bipush (v := 7) hx hb dX7_doRead_5 (by decide) ?_
  refine cb_begin C (ml_X7_15 hk.1 _) hP hD hS hl.1 ⟨by decide, by decide⟩ (Nat.le_of_ble_eq_true rfl) dX7_doRead_7 ⟨by decide, by decide⟩ (fun H locs hP hD hS => ?_)
  have hP : va_P D cls ((h0, .inr (7, [.ref ht, .int kd, .int zn, .int lm, .int ch, .int le, .int co, .int dr, .int (bi la)])) :: wt ca ht hr (tb 1 7 t)) H := hP
  have hD : va_D A ((h0, .inr (7, [.ref ht, .int kd, .int zn, .int lm, .int ch, .int le, .int co, .int dr, .int (bi la)])) :: wt ca ht hr (tb 1 7 t)) := hD
  refine lv_aload_n hx hb dX7_doRead_10 rfl (lv_at hl 0 rfl) ?_
  refine lv_iload_n hx hb dX7_doRead_11 rfl (lv_at hl 1 rfl) ?_
  refine kRS (x := ⟨"AlarmKinds$Smoke", "doRead", "(I)V"⟩) (d := (ch, le, co, dr, la)) (t := tb 1 7 t) hd C (rS l D ca sa lo hl9 7 (by decide) isD_7) ⟨fun U A9 h => co_X5_doRead h A9, fun U A9 h => in_X5 h A9, ml_X7_21 hk.1 _, sm_X5_X5_doRead hk.1 _, su_X7 hk.1 _, up_self, im_X5_doRead hk.1 _, by decide +kernel, ⟨⟨rfl, rfl⟩, by decide, by decide⟩, by decide, by decide⟩ hP hD hS hl.1 (Nat.le_of_ble_eq_true rfl) dX7_doRead_12 (fun E ce q9 H locs he hP hD hS h1 h2 h3 => ?_) (fun h0c H locs hP hD hS => ?_)
  · have hr9 : r = prS 7 v (ch, le, co, dr, la) (tb 1 7 t) := by rw [← hr9]; exact if_neg (fun h => en_0 h he)
    subst hr9
    exact or_ hno hlocks he hP hS h1 h2 h3 (by decide) (by decide)
  · replace hr9 : prTe v (prS 7 v (ch, le, co, dr, la) (tb 1 7 t)) = r := hr9
    generalize hq9 : prS 7 v (ch, le, co, dr, la) (tb 1 7 t) = q at hP hD hr9 h0c ⊢
    obtain ⟨c9, ⟨ch9, le9, co9, dr9, la9⟩, t9⟩ := q
    cases (show c9 = 0 from h0c)
    have hP : va_P D cls ((h0, .inr (7, [.ref ht, .int kd, .int zn, .int lm, .int ch9, .int le9, .int co9, .int dr9, .int (bi la9)])) :: wt ca ht hr t9) H := hP
    have hD : va_D A ((h0, .inr (7, [.ref ht, .int kd, .int zn, .int lm, .int ch9, .int le9, .int co9, .int dr9, .int (bi la9)])) :: wt ca ht hr t9) := hD
    have hr9 : r = prS 7 (-v) (ch9, le9, co9, dr9, la9) t9 := by rw [← hr9]; exact if_pos rfl
    subst hr9
    refine lv_aload_n hx hb dX7_doRead_15 rfl (lv_at hl 0 rfl) ?_
    refine lv_iload_n hx hb dX7_doRead_16 rfl (lv_at hl 1 rfl) ?_
    refine lv_ineg hx hb dX7_doRead_17 ?_
    refine kRS (x := ⟨"AlarmKinds$Smoke", "doRead", "(I)V"⟩) (d := (ch9, le9, co9, dr9, la9)) (t := t9) hd C (rS l D ca sa lo hl9 7 (by decide) isD_7) ⟨fun U A9 h => co_X5_doRead h A9, fun U A9 h => in_X5 h A9, ml_X7_21 hk.1 _, sm_X5_X5_doRead hk.1 _, su_X7 hk.1 _, up_self, im_X5_doRead hk.1 _, by decide +kernel, ⟨⟨rfl, rfl⟩, by decide, by decide⟩, by decide, by decide⟩ hP hD hS hl.1 (Nat.le_of_ble_eq_true rfl) dX7_doRead_18 (fun E ce q9 H locs he hP hD hS h1 h2 h3 => ?_) (fun h0c H locs hP hD hS => ?_)
    · exact or_ hno hlocks he hP hS h1 h2 h3 (by decide) (by decide)
    · exact rr_ C hrt hlocks h0c hP hS dX7_doRead_21 (by decide) (by decide)

set_option maxHeartbeats 4000000 in
set_option maxRecDepth 100000 in
theorem vP (l : Launch) (D : va_G) (ca : Nat → ClassId) (sa : Nat → Nat) (lo : Nat) : cV l D ca sa lo yX3_doVotes cX3_doVotes 1 ({ frames := 3, cells := 0, slots := 0, locals := 90 }) 3 (pv 0) := by
  intro sz h0 ht hr kd zn lm d t
  obtain ⟨ch, le, co, dr, la⟩ := d
  refine mk_met (fun A => QI D (pv 0 lm (ch, le, co, dr, la) t).1 (wd ca h0 ht hr 3 kd zn lm (pv 0 lm (ch, le, co, dr, la) t).2.1 (pv 0 lm (ch, le, co, dr, la) t).2.2) A) (by decide) (Nat.le_of_ble_eq_true rfl) ?_
  intro p e s m below meth c A ls C hrt hlocks hnm hsz hP hD hS hl
  obtain ⟨hx, hb, hml, hown, hk, hz, hlo, hA, hAl⟩ := id C
  have hK : va_K D cls (tyl ca) s := hk.2.1
  have hl : lv_has ls 1 [(0, .ref h0)] := hl
  have hP : va_P D cls ((h0, .inr (3, [.ref ht, .int kd, .int zn, .int lm, .int ch, .int le, .int co, .int dr, .int (bi la)])) :: wt ca ht hr t) s.heap := hP
  have hD : va_D A ((h0, .inr (3, [.ref ht, .int kd, .int zn, .int lm, .int ch, .int le, .int co, .int dr, .int (bi la)])) :: wt ca ht hr t) := hD
  refine lv_aload_n hx hb dX3_doVotes_0 rfl (lv_at hl 0 rfl) ?_
  refine vc_o (kd := 0) (d := (ch, le, co, dr, la)) (t := t) (by decide) C (ml_X3_44 hk.1 _) hP hD hS hl.1 (Nat.le_of_ble_eq_true rfl) dX3_doVotes_1 ⟨by decide, by decide, by decide, by decide⟩ (fun H locs hP hD hS => ?_)
  refine lv_if_eq (tgt := 11) hx hb dX3_doVotes_4 (by decide) (fun c_1 => ?_) (fun c_1 => ?_)
  · refine lv_iconst (v := 0) hx hb dX3_doVotes_11 (by decide) ?_
    exact ri C hrt hlocks (if_neg (by rw [bi_eq0 c_1]; decide)).symm hP hS dX3_doVotes_12
  · refine lv_iconst (v := 3) hx hb dX3_doVotes_7 (by decide) ?_
    refine lv_goto (tgt := 12) hx hb dX3_doVotes_8 (by decide) ?_
    exact ri C hrt hlocks ((if_pos (bi_ne0 c_1)).trans rfl).symm hP hS dX3_doVotes_12

set_option maxHeartbeats 4000000 in
set_option maxRecDepth 100000 in
theorem vW (l : Launch) (D : va_G) (ca : Nat → ClassId) (sa : Nat → Nat) (lo : Nat) (kn : Nat) (hkn : kn = 1 ∨ kn = 2 ∨ kn = 3 ∨ kn = 4 ∨ kn = 5 ∨ kn = 6) : cV l D ca sa lo yX8_doVotes cX8_doVotes 1 ({ frames := 3, cells := 0, slots := 0, locals := 90 }) (kc kn) (pv kn) := by
  intro sz h0 ht hr kd zn lm d t
  obtain ⟨ch, le, co, dr, la⟩ := d
  refine mk_met (fun A => QI D (pv kn lm (ch, le, co, dr, la) t).1 (wd ca h0 ht hr (kc kn) kd zn lm (pv kn lm (ch, le, co, dr, la) t).2.1 (pv kn lm (ch, le, co, dr, la) t).2.2) A) (by decide) (Nat.le_of_ble_eq_true rfl) ?_
  intro p e s m below meth c A ls C hrt hlocks hnm hsz hP hD hS hl
  obtain ⟨hx, hb, hml, hown, hk, hz, hlo, hA, hAl⟩ := id C
  have hK : va_K D cls (tyl ca) s := hk.2.1
  have hl : lv_has ls 1 [(0, .ref h0)] := hl
  have hP : va_P D cls ((h0, .inr ((kc kn), [.ref ht, .int kd, .int zn, .int lm, .int ch, .int le, .int co, .int dr, .int (bi la)])) :: wt ca ht hr t) s.heap := hP
  have hD : va_D A ((h0, .inr ((kc kn), [.ref ht, .int kd, .int zn, .int lm, .int ch, .int le, .int co, .int dr, .int (bi la)])) :: wt ca ht hr t) := hD
  refine lv_aload_n hx hb dX8_doVotes_0 rfl (lv_at hl 0 rfl) ?_
  refine vc_o8 (kd := kn) (d := (ch, le, co, dr, la)) (t := t) hkn C (ml_X8_7 hk.1 _) hP hD hS hl.1 (Nat.le_of_ble_eq_true rfl) dX8_doVotes_1 ⟨by decide, by decide, by decide, by decide⟩ (fun H locs hP hD hS => ?_)
  refine lv_if_eq (tgt := 11) hx hb dX8_doVotes_4 (by decide) (fun c_1 => ?_) (fun c_1 => ?_)
  · refine lv_iconst (v := 0) hx hb dX8_doVotes_11 (by decide) ?_
    exact ri C hrt hlocks (if_neg (by rw [bi_eq0 c_1]; decide)).symm hP hS dX8_doVotes_12
  · refine lv_iconst (v := 1) hx hb dX8_doVotes_7 (by decide) ?_
    refine lv_goto (tgt := 12) hx hb dX8_doVotes_8 (by decide) ?_
    exact ri C hrt hlocks ((if_pos (bi_ne0 c_1)).trans (by rcases hkn with rfl | rfl | rfl | rfl | rfl | rfl <;> rfl)).symm hP hS dX8_doVotes_12

set_option maxHeartbeats 4000000 in
set_option maxRecDepth 100000 in
theorem vT (l : Launch) (D : va_G) (ca : Nat → ClassId) (sa : Nat → Nat) (lo : Nat) : cV l D ca sa lo yX7_doVotes cX7_doVotes 1 ({ frames := 3, cells := 0, slots := 0, locals := 90 }) 7 (pv 7) := by
  intro sz h0 ht hr kd zn lm d t
  obtain ⟨ch, le, co, dr, la⟩ := d
  refine mk_met (fun A => QI D (pv 7 lm (ch, le, co, dr, la) t).1 (wd ca h0 ht hr 7 kd zn lm (pv 7 lm (ch, le, co, dr, la) t).2.1 (pv 7 lm (ch, le, co, dr, la) t).2.2) A) (by decide) (Nat.le_of_ble_eq_true rfl) ?_
  intro p e s m below meth c A ls C hrt hlocks hnm hsz hP hD hS hl
  obtain ⟨hx, hb, hml, hown, hk, hz, hlo, hA, hAl⟩ := id C
  have hK : va_K D cls (tyl ca) s := hk.2.1
  have hl : lv_has ls 1 [(0, .ref h0)] := hl
  have hP : va_P D cls ((h0, .inr (7, [.ref ht, .int kd, .int zn, .int lm, .int ch, .int le, .int co, .int dr, .int (bi la)])) :: wt ca ht hr t) s.heap := hP
  have hD : va_D A ((h0, .inr (7, [.ref ht, .int kd, .int zn, .int lm, .int ch, .int le, .int co, .int dr, .int (bi la)])) :: wt ca ht hr t) := hD
  refine lv_aload_n hx hb dX7_doVotes_0 rfl (lv_at hl 0 rfl) ?_
  refine vc_o7 (kd := 7) (d := (ch, le, co, dr, la)) (t := t) rfl C (ml_X7_43 hk.1 _) hP hD hS hl.1 (Nat.le_of_ble_eq_true rfl) dX7_doVotes_1 ⟨by decide, by decide, by decide, by decide⟩ (fun H locs hP hD hS => ?_)
  refine lv_if_eq (tgt := 11) hx hb dX7_doVotes_4 (by decide) (fun c_1 => ?_) (fun c_1 => ?_)
  · refine lv_iconst (v := 0) hx hb dX7_doVotes_11 (by decide) ?_
    exact ri C hrt hlocks (if_neg (by rw [bi_eq0 c_1]; decide)).symm hP hS dX7_doVotes_12
  · refine lv_iconst (v := 2) hx hb dX7_doVotes_7 (by decide) ?_
    refine lv_goto (tgt := 12) hx hb dX7_doVotes_8 (by decide) ?_
    exact ri C hrt hlocks ((if_pos (bi_ne0 c_1)).trans rfl).symm hP hS dX7_doVotes_12
end
section
section KF
variable {D : va_G} {ca : Nat → ClassId} {sa : Nat → Nat} {lo : Nat} {p : Program} {l : Launch} {e : Env} {R : Room} {s : State} {m : MethodId} {args : Array Value} {below : List Frame} {meth : Method} {c : Code} {cc : ByteArray} {nL : Nat} {own : String} {A : Nat → Prop} {H : Heap} {locs : List Loc} {cells slots : Nat} {Q : State → Prop} {ls : Array Slot} {pc : Nat} {rest : List Value}
variable {h0 ht hr ci : Nat} {Cn : String} {kd zn lm v : Int32} {d : Dv} {t : Tr} {b : ByteArray} {n mc ms index : Nat} {rm : Room} {x y : MethodName} {owner : String}
theorem kWUf {F : Int32 → Dv → Tr → Rs} (hd : isD ci Cn) (C : Cx D ca sa lo p s m c cc nL own A) (hM : cW l D ca sa lo y b n rm mc ms ci F) (hw : aU s args R cells slots own index x y owner Cn b n 1 (some .int) rm mc ms) (hP : va_P D cls (wd ca h0 ht hr ci kd zn lm d t) H) (hD : va_D A (wd ca h0 ht hr ci kd zn lm d t)) (hS : va_S A s.heap H locs) (hsize : ls.size = nL) (hW : (rest.map fun v => v.category).sum ≤ 8) (hdg : decode cc pc = .ok (.invokevirtual index, 3))
    (kx : ∀ (E : String) (ce : Cell) (q9 : Addr) (H1 : Heap) (locs1 : List Loc), en (F v d t).1 E → va_P D cls (wd ca h0 ht hr ci kd zn lm (F v d t).2.2.1 (F v d t).2.2.2) H1 → va_D A (wd ca h0 ht hr ci kd zn lm (F v d t).2.2.1 (F v d t).2.2.2) → va_S A s.heap H1 locs1 → (∀ q : Nat, q < H.size → ¬ va_A (wd ca h0 ht hr ci kd zn lm d t) H.size q → H1[q]? = H[q]?) → H1[q9]? = some ce → ce.vm = .none → s.vm.findClass E = some ce.cls → vx_W p l e R s m args below meth c H1 locs1 (cells + mc) (slots + ms) Q (F0 m pc ls rest) q9)
    (kk : (F v d t).1 = 0 → ∀ (H1 : Heap) (locs1 : List Loc), va_P D cls (wd ca h0 ht hr ci kd zn lm (F v d t).2.2.1 (F v d t).2.2.2) H1 → va_D A (wd ca h0 ht hr ci kd zn lm (F v d t).2.2.1 (F v d t).2.2.2) → va_S A s.heap H1 locs1 → (∀ q : Nat, q < H.size → ¬ va_A (wd ca h0 ht hr ci kd zn lm d t) H.size q → H1[q]? = H[q]?) → W p l e R s m args below meth c H1 locs1 (cells + mc) (slots + ms) Q (F0 m (pc + 3) ls (.int (F v d t).2.1 :: rest))) : W p l e R s m args below meth c H locs cells slots Q (F0 m pc ls (.int v :: .ref h0 :: rest)) := by
  obtain ⟨w1, w2, w3, w4, w5, w6, w7, w8, w9, w10⟩ := hw
  have hf := fr_of C hD hS
  refine vx_calli (run_U (x := x) (y := y) (owner := owner) (Cn := Cn) (T := TX3) (N := 9) (q0 := 0) (ci := ci) (As := [.int v]) (rest := rest) C (hM H.size h0 ht hr kd zn lm v d t) w1 w2 w3 w4 w5 w6 w7 w8 w9 hP hD hS rfl hd.1 rfl hsize rfl hW hdg w10) hS (fun q _ h => hf q h) hf (fun q _ h => hf q h) ?_ ?_
  · intro E ce q9 u t1 H1 locs1 ht1 hvm hp hB hz1 hk1 hS1 h1 h2 h3
    subst ht1
    exact kx E ce q9 _ _ hB.1 hB.2 (hD.to (wd_map _ _ _ _)) hS1 hk1 h1 h2 h3
  · intro r9 u t1 H1 locs1 ht1 hvm hp hB hz1 hk1 hS1
    subst ht1
    obtain ⟨hp0, rfl⟩ := hp
    exact kk hp0 _ _ hB (hD.to (wd_map _ _ _ _)) hS1 hk1
theorem kRUf {F : Int32 → Dv → Tr → Rr} (hd : isD ci Cn) (C : Cx D ca sa lo p s m c cc nL own A) (hM : cR l D ca sa lo y b n rm mc ms ci F) (hw : aU s args R cells slots own index x y owner Cn b n 1 none rm mc ms) (hP : va_P D cls (wd ca h0 ht hr ci kd zn lm d t) H) (hD : va_D A (wd ca h0 ht hr ci kd zn lm d t)) (hS : va_S A s.heap H locs) (hsize : ls.size = nL) (hW : (rest.map fun v => v.category).sum ≤ 8) (hdg : decode cc pc = .ok (.invokevirtual index, 3))
    (kx : ∀ (E : String) (ce : Cell) (q9 : Addr) (H1 : Heap) (locs1 : List Loc), en (F v d t).1 E → va_P D cls (wd ca h0 ht hr ci kd zn lm (F v d t).2.1 (F v d t).2.2) H1 → va_D A (wd ca h0 ht hr ci kd zn lm (F v d t).2.1 (F v d t).2.2) → va_S A s.heap H1 locs1 → (∀ q : Nat, q < H.size → ¬ va_A (wd ca h0 ht hr ci kd zn lm d t) H.size q → H1[q]? = H[q]?) → H1[q9]? = some ce → ce.vm = .none → s.vm.findClass E = some ce.cls → vx_W p l e R s m args below meth c H1 locs1 (cells + mc) (slots + ms) Q (F0 m pc ls rest) q9)
    (kk : (F v d t).1 = 0 → ∀ (H1 : Heap) (locs1 : List Loc), va_P D cls (wd ca h0 ht hr ci kd zn lm (F v d t).2.1 (F v d t).2.2) H1 → va_D A (wd ca h0 ht hr ci kd zn lm (F v d t).2.1 (F v d t).2.2) → va_S A s.heap H1 locs1 → (∀ q : Nat, q < H.size → ¬ va_A (wd ca h0 ht hr ci kd zn lm d t) H.size q → H1[q]? = H[q]?) → W p l e R s m args below meth c H1 locs1 (cells + mc) (slots + ms) Q (F0 m (pc + 3) ls (rest))) : W p l e R s m args below meth c H locs cells slots Q (F0 m pc ls (.int v :: .ref h0 :: rest)) := by
  obtain ⟨w1, w2, w3, w4, w5, w6, w7, w8, w9, w10⟩ := hw
  have hf := fr_of C hD hS
  refine vx_callv (run_U (x := x) (y := y) (owner := owner) (Cn := Cn) (T := TX3) (N := 9) (q0 := 0) (ci := ci) (As := [.int v]) (rest := rest) C (hM H.size h0 ht hr kd zn lm v d t) w1 w2 w3 w4 w5 w6 w7 w8 w9 hP hD hS rfl hd.1 rfl hsize rfl hW hdg w10) hS (fun q _ h => hf q h) hf (fun q _ h => hf q h) ?_ ?_
  · intro E ce q9 u t1 H1 locs1 ht1 hvm hp hB hz1 hk1 hS1 h1 h2 h3
    subst ht1
    exact kx E ce q9 _ _ hB.1 hB.2 (hD.to (wd_map _ _ _ _)) hS1 hk1 h1 h2 h3
  · intro u t1 H1 locs1 ht1 hvm hp hB hz1 hk1 hS1
    subst ht1
    exact kk hp _ _ hB (hD.to (wd_map _ _ _ _)) hS1 hk1
theorem kOUf {F : Int32 → Dv → Tr → Ro} (hd : isD ci Cn) (C : Cx D ca sa lo p s m c cc nL own A) (hM : cO l D ca sa lo y b n rm ci F) (hw : aU s args R cells slots own index x y owner Cn b n 0 (some .boolean) rm 0 0) (hP : va_P D cls (wd ca h0 ht hr ci kd zn lm d t) H) (hD : va_D A (wd ca h0 ht hr ci kd zn lm d t)) (hS : va_S A s.heap H locs) (hsize : ls.size = nL) (hW : (rest.map fun v => v.category).sum ≤ 8) (hdg : decode cc pc = .ok (.invokevirtual index, 3))
    
    (kk : ∀ (H1 : Heap) (locs1 : List Loc), va_P D cls (wd ca h0 ht hr ci kd zn lm (F lm d t).2.1 (F lm d t).2.2) H1 → va_D A (wd ca h0 ht hr ci kd zn lm (F lm d t).2.1 (F lm d t).2.2) → va_S A s.heap H1 locs1 → (∀ q : Nat, q < H.size → ¬ va_A (wd ca h0 ht hr ci kd zn lm d t) H.size q → H1[q]? = H[q]?) → W p l e R s m args below meth c H1 locs1 (cells + 0) (slots + 0) Q (F0 m (pc + 3) ls (.int (bi (F lm d t).1) :: rest))) : W p l e R s m args below meth c H locs cells slots Q (F0 m pc ls (.ref h0 :: rest)) := by
  obtain ⟨w1, w2, w3, w4, w5, w6, w7, w8, w9, w10⟩ := hw
  have hf := fr_of C hD hS
  refine vx_calli (run_U (x := x) (y := y) (owner := owner) (Cn := Cn) (T := TX3) (N := 9) (q0 := 0) (ci := ci) (As := []) (rest := rest) C (x_of (A9 := A) (hM H.size h0 ht hr kd zn lm d t)) w1 w2 w3 w4 w5 w6 w7 w8 w9 hP hD hS rfl hd.1 rfl hsize rfl hW hdg w10) hS (fun q _ h => hf q h) hf (fun q _ h => h) ?_ ?_
  · intro E ce q9 u t1 H1 locs1 ht1 hvm hp hB hz1 hk1 hS1 h1 h2 h3
    exact hp.elim
  · intro r9 u t1 H1 locs1 ht1 hvm hp hB hz1 hk1 hS1
    subst ht1
    cases hp
    exact kk _ _ hB (hD.to (wd_map _ _ _ _)) hS1 hk1
theorem kCUf {F : Dv → Tr → Dv × Tr} (hd : isD ci Cn) (C : Cx D ca sa lo p s m c cc nL own A) (hM : cC l D ca sa lo y b n rm ci F) (hw : aU s args R cells slots own index x y owner Cn b n 0 none rm 0 0) (hP : va_P D cls (wd ca h0 ht hr ci kd zn lm d t) H) (hD : va_D A (wd ca h0 ht hr ci kd zn lm d t)) (hS : va_S A s.heap H locs) (hsize : ls.size = nL) (hW : (rest.map fun v => v.category).sum ≤ 8) (hdg : decode cc pc = .ok (.invokevirtual index, 3))
    
    (kk : ∀ (H1 : Heap) (locs1 : List Loc), va_P D cls (wd ca h0 ht hr ci kd zn lm (F d t).1 (F d t).2) H1 → va_D A (wd ca h0 ht hr ci kd zn lm (F d t).1 (F d t).2) → va_S A s.heap H1 locs1 → (∀ q : Nat, q < H.size → ¬ va_A (wd ca h0 ht hr ci kd zn lm d t) H.size q → H1[q]? = H[q]?) → W p l e R s m args below meth c H1 locs1 (cells + 0) (slots + 0) Q (F0 m (pc + 3) ls (rest))) : W p l e R s m args below meth c H locs cells slots Q (F0 m pc ls (.ref h0 :: rest)) := by
  obtain ⟨w1, w2, w3, w4, w5, w6, w7, w8, w9, w10⟩ := hw
  have hf := fr_of C hD hS
  refine vx_callv (run_U (x := x) (y := y) (owner := owner) (Cn := Cn) (T := TX3) (N := 9) (q0 := 0) (ci := ci) (As := []) (rest := rest) C (x_of (A9 := A) (hM H.size h0 ht hr kd zn lm d t)) w1 w2 w3 w4 w5 w6 w7 w8 w9 hP hD hS rfl hd.1 rfl hsize rfl hW hdg w10) hS (fun q _ h => hf q h) hf (fun q _ h => h) ?_ ?_
  · intro E ce q9 u t1 H1 locs1 ht1 hvm hp hB hz1 hk1 hS1 h1 h2 h3
    exact hp.elim
  · intro u t1 H1 locs1 ht1 hvm hp hB hz1 hk1 hS1
    subst ht1
    exact kk _ _ hB (hD.to (wd_map _ _ _ _)) hS1 hk1
theorem kKUf {F : Dv → Tr → Int32 × Tr} (hd : isD ci Cn) (C : Cx D ca sa lo p s m c cc nL own A) (hM : cK l D ca sa lo y b n rm ci F) (hw : aU s args R cells slots own index x y owner Cn b n 0 (some .int) rm 0 0) (hP : va_P D cls (wd ca h0 ht hr ci kd zn lm d t) H) (hD : va_D A (wd ca h0 ht hr ci kd zn lm d t)) (hS : va_S A s.heap H locs) (hsize : ls.size = nL) (hW : (rest.map fun v => v.category).sum ≤ 8) (hdg : decode cc pc = .ok (.invokevirtual index, 3))
    
    (kk : ∀ (H1 : Heap) (locs1 : List Loc), va_P D cls (wd ca h0 ht hr ci kd zn lm d (F d t).2) H1 → va_D A (wd ca h0 ht hr ci kd zn lm d (F d t).2) → va_S A s.heap H1 locs1 → (∀ q : Nat, q < H.size → ¬ va_A (wd ca h0 ht hr ci kd zn lm d t) H.size q → H1[q]? = H[q]?) → W p l e R s m args below meth c H1 locs1 (cells + 0) (slots + 0) Q (F0 m (pc + 3) ls (.int (F d t).1 :: rest))) : W p l e R s m args below meth c H locs cells slots Q (F0 m pc ls (.ref h0 :: rest)) := by
  obtain ⟨w1, w2, w3, w4, w5, w6, w7, w8, w9, w10⟩ := hw
  have hf := fr_of C hD hS
  refine vx_calli (run_U (x := x) (y := y) (owner := owner) (Cn := Cn) (T := TX3) (N := 9) (q0 := 0) (ci := ci) (As := []) (rest := rest) C (x_of (A9 := A) (hM H.size h0 ht hr kd zn lm d t)) w1 w2 w3 w4 w5 w6 w7 w8 w9 hP hD hS rfl hd.1 rfl hsize rfl hW hdg w10) hS (fun q _ h => hf q h) hf (fun q _ h => h) ?_ ?_
  · intro E ce q9 u t1 H1 locs1 ht1 hvm hp hB hz1 hk1 hS1 h1 h2 h3
    exact hp.elim
  · intro r9 u t1 H1 locs1 ht1 hvm hp hB hz1 hk1 hS1
    subst ht1
    cases hp
    exact kk _ _ hB (hD.to (wd_map _ _ _ _)) hS1 hk1
theorem kVUf {F : Int32 → Dv → Tr → Int32 × Dv × Tr} (hd : isD ci Cn) (C : Cx D ca sa lo p s m c cc nL own A) (hM : cV l D ca sa lo y b n rm ci F) (hw : aU s args R cells slots own index x y owner Cn b n 0 (some .int) rm 0 0) (hP : va_P D cls (wd ca h0 ht hr ci kd zn lm d t) H) (hD : va_D A (wd ca h0 ht hr ci kd zn lm d t)) (hS : va_S A s.heap H locs) (hsize : ls.size = nL) (hW : (rest.map fun v => v.category).sum ≤ 8) (hdg : decode cc pc = .ok (.invokevirtual index, 3))
    
    (kk : ∀ (H1 : Heap) (locs1 : List Loc), va_P D cls (wd ca h0 ht hr ci kd zn lm (F lm d t).2.1 (F lm d t).2.2) H1 → va_D A (wd ca h0 ht hr ci kd zn lm (F lm d t).2.1 (F lm d t).2.2) → va_S A s.heap H1 locs1 → (∀ q : Nat, q < H.size → ¬ va_A (wd ca h0 ht hr ci kd zn lm d t) H.size q → H1[q]? = H[q]?) → W p l e R s m args below meth c H1 locs1 (cells + 0) (slots + 0) Q (F0 m (pc + 3) ls (.int (F lm d t).1 :: rest))) : W p l e R s m args below meth c H locs cells slots Q (F0 m pc ls (.ref h0 :: rest)) := by
  obtain ⟨w1, w2, w3, w4, w5, w6, w7, w8, w9, w10⟩ := hw
  have hf := fr_of C hD hS
  refine vx_calli (run_U (x := x) (y := y) (owner := owner) (Cn := Cn) (T := TX3) (N := 9) (q0 := 0) (ci := ci) (As := []) (rest := rest) C (x_of (A9 := A) (hM H.size h0 ht hr kd zn lm d t)) w1 w2 w3 w4 w5 w6 w7 w8 w9 hP hD hS rfl hd.1 rfl hsize rfl hW hdg w10) hS (fun q _ h => hf q h) hf (fun q _ h => h) ?_ ?_
  · intro E ce q9 u t1 H1 locs1 ht1 hvm hp hB hz1 hk1 hS1 h1 h2 h3
    exact hp.elim
  · intro r9 u t1 H1 locs1 ht1 hvm hp hB hz1 hk1 hS1
    subst ht1
    cases hp
    exact kk _ _ hB (hD.to (wd_map _ _ _ _)) hS1 hk1
end KF
end
section
section VD
variable {D : va_G} {ca : Nat → ClassId} {sa : Nat → Nat} {lo : Nat} {p : Program} {l : Launch} {e : Env} {R : Room} {s : State} {m : MethodId} {args : Array Value} {below : List Frame} {meth : Method} {c : Code} {cc : ByteArray} {nL : Nat} {own : String} {A : Nat → Prop} {H : Heap} {locs : List Loc} {cells slots : Nat} {Q : State → Prop} {ls : Array Slot} {pc : Nat} {rest : List Value}
variable {h0 ht hr kd index : Nat} {K zn lm v : Int32} {d : Dv} {t : Tr}
set_option maxHeartbeats 4000000 in
set_option maxRecDepth 100000 in
theorem vf_w (hl9 : l.stackTraces = false) (hkd : kd = 0 ∨ kd = 1 ∨ kd = 2 ∨ kd = 3 ∨ kd = 4 ∨ kd = 5 ∨ kd = 6 ∨ kd = 7) (C : Cx D ca sa lo p s m c cc nL own A) (hli : (Cond.methodLink own index yX3_doWeigh).before args s = true) (hP : va_P D cls (wd ca h0 ht hr (kc kd) K zn lm d t) H) (hD : va_D A (wd ca h0 ht hr (kc kd) K zn lm d t)) (hS : va_S A s.heap H locs) (hsize : ls.size = nL) (hW : (rest.map fun v => v.category).sum ≤ 8) (hdg : decode cc pc = .ok (.invokevirtual index, 3)) (hR : 8 ≤ R.frames ∧ 150 ≤ R.locals ∧ cells + 2 ≤ R.cells ∧ slots + 12 ≤ R.slots)
    (kx : ∀ (E : String) (ce : Cell) (q9 : Addr) (H1 : Heap) (locs1 : List Loc), en (pw kd v d t).1 E → va_P D cls (wd ca h0 ht hr (kc kd) K zn lm (pw kd v d t).2.2.1 (pw kd v d t).2.2.2) H1 → va_D A (wd ca h0 ht hr (kc kd) K zn lm (pw kd v d t).2.2.1 (pw kd v d t).2.2.2) → va_S A s.heap H1 locs1 → (∀ q : Nat, q < H.size → ¬ va_A (wd ca h0 ht hr (kc kd) K zn lm d t) H.size q → H1[q]? = H[q]?) → H1[q9]? = some ce → ce.vm = .none → s.vm.findClass E = some ce.cls → vx_W p l e R s m args below meth c H1 locs1 (cells + 2) (slots + 12) Q (F0 m pc ls rest) q9)
    (kk : (pw kd v d t).1 = 0 → ∀ (H1 : Heap) (locs1 : List Loc), va_P D cls (wd ca h0 ht hr (kc kd) K zn lm (pw kd v d t).2.2.1 (pw kd v d t).2.2.2) H1 → va_D A (wd ca h0 ht hr (kc kd) K zn lm (pw kd v d t).2.2.1 (pw kd v d t).2.2.2) → va_S A s.heap H1 locs1 → (∀ q : Nat, q < H.size → ¬ va_A (wd ca h0 ht hr (kc kd) K zn lm d t) H.size q → H1[q]? = H[q]?) → W p l e R s m args below meth c H1 locs1 (cells + 2) (slots + 12) Q (F0 m (pc + 3) ls (.int (pw kd v d t).2.1 :: rest))) : W p l e R s m args below meth c H locs cells slots Q (F0 m pc ls (.int v :: .ref h0 :: rest)) := by
  have hk := C.2.2.2.2.1
  rcases hkd with rfl | rfl | rfl | rfl | rfl | rfl | rfl | rfl
  · rw [epw_0] at kx kk
    exact kWUf (x := yX3_doWeigh) (y := yX3_doWeigh) (owner := RX3) (ci := 3) isD_3 C (wP l D ca sa lo isD_3) ⟨fun U A9 h => co_X3_doWeigh h A9, fun U A9 h => in_X3 h A9, hli, sm_X3_X3_doWeigh hk.1 _, va_Decl.of (im_X3_doWeigh hk.1 #[]) (co_X3_doWeigh hk.1 #[]), im_X3_doWeigh hk.1 _, se_X3_X3_doWeigh hk.1 _, by decide +kernel, ⟨⟨rfl, rfl⟩, Nat.le_trans (by decide) hR.1, Nat.le_trans (by decide) hR.2.1⟩, Nat.le_trans (Nat.add_le_add_left (by decide) _) hR.2.2.1, Nat.le_trans (Nat.add_le_add_left (by decide) _) hR.2.2.2⟩ hP hD hS hsize hW hdg (fun E ce q9 H1 locs1 he hP1 hD1 hS1 hf1 h1 h2 h3 => vx_widen (Nat.add_le_add_left (by decide) _) (Nat.add_le_add_left (by decide) _) (kx E ce q9 H1 locs1 he hP1 hD1 hS1 hf1 h1 h2 h3)) (fun h0c H1 locs1 hP1 hD1 hS1 hf1 => W.widen (Nat.add_le_add_left (by decide) _) (Nat.add_le_add_left (by decide) _) (kk h0c H1 locs1 hP1 hD1 hS1 hf1))
  · rw [epw_1] at kx kk
    exact kWUf (x := yX3_doWeigh) (y := yX3_doWeigh) (owner := RX3) (ci := 8) isD_8 C (wP l D ca sa lo isD_8) ⟨fun U A9 h => co_X3_doWeigh h A9, fun U A9 h => in_X3 h A9, hli, sm_X3_X3_doWeigh hk.1 _, va_Decl.of (im_X3_doWeigh hk.1 #[]) (co_X3_doWeigh hk.1 #[]), im_X3_doWeigh hk.1 _, se_X8_X3_doWeigh hk.1 _, by decide +kernel, ⟨⟨rfl, rfl⟩, Nat.le_trans (by decide) hR.1, Nat.le_trans (by decide) hR.2.1⟩, Nat.le_trans (Nat.add_le_add_left (by decide) _) hR.2.2.1, Nat.le_trans (Nat.add_le_add_left (by decide) _) hR.2.2.2⟩ hP hD hS hsize hW hdg (fun E ce q9 H1 locs1 he hP1 hD1 hS1 hf1 h1 h2 h3 => vx_widen (Nat.add_le_add_left (by decide) _) (Nat.add_le_add_left (by decide) _) (kx E ce q9 H1 locs1 he hP1 hD1 hS1 hf1 h1 h2 h3)) (fun h0c H1 locs1 hP1 hD1 hS1 hf1 => W.widen (Nat.add_le_add_left (by decide) _) (Nat.add_le_add_left (by decide) _) (kk h0c H1 locs1 hP1 hD1 hS1 hf1))
  · rw [epw_2] at kx kk
    exact kWUf (x := yX3_doWeigh) (y := yX4_doWeigh) (owner := RX3) (ci := 4) isD_4 C (wR l D ca sa lo isD_4 hl9) ⟨fun U A9 h => co_X4_doWeigh h A9, fun U A9 h => in_X4 h A9, hli, sm_X3_X3_doWeigh hk.1 _, va_Decl.of (im_X3_doWeigh hk.1 #[]) (co_X3_doWeigh hk.1 #[]), im_X4_doWeigh hk.1 _, se_X4_X3_doWeigh hk.1 _, by decide +kernel, ⟨⟨rfl, rfl⟩, Nat.le_trans (by decide) hR.1, Nat.le_trans (by decide) hR.2.1⟩, Nat.le_trans (Nat.add_le_add_left (by decide) _) hR.2.2.1, Nat.le_trans (Nat.add_le_add_left (by decide) _) hR.2.2.2⟩ hP hD hS hsize hW hdg (fun E ce q9 H1 locs1 he hP1 hD1 hS1 hf1 h1 h2 h3 => vx_widen (Nat.add_le_add_left (by decide) _) (Nat.add_le_add_left (by decide) _) (kx E ce q9 H1 locs1 he hP1 hD1 hS1 hf1 h1 h2 h3)) (fun h0c H1 locs1 hP1 hD1 hS1 hf1 => W.widen (Nat.add_le_add_left (by decide) _) (Nat.add_le_add_left (by decide) _) (kk h0c H1 locs1 hP1 hD1 hS1 hf1))
  · rw [epw_3] at kx kk
    exact kWUf (x := yX3_doWeigh) (y := yX5_doWeigh) (owner := RX3) (ci := 5) isD_5 C (wS l D ca sa lo isD_5) ⟨fun U A9 h => co_X5_doWeigh h A9, fun U A9 h => in_X5 h A9, hli, sm_X3_X3_doWeigh hk.1 _, va_Decl.of (im_X3_doWeigh hk.1 #[]) (co_X3_doWeigh hk.1 #[]), im_X5_doWeigh hk.1 _, se_X5_X3_doWeigh hk.1 _, by decide +kernel, ⟨⟨rfl, rfl⟩, Nat.le_trans (by decide) hR.1, Nat.le_trans (by decide) hR.2.1⟩, Nat.le_trans (Nat.add_le_add_left (by decide) _) hR.2.2.1, Nat.le_trans (Nat.add_le_add_left (by decide) _) hR.2.2.2⟩ hP hD hS hsize hW hdg (fun E ce q9 H1 locs1 he hP1 hD1 hS1 hf1 h1 h2 h3 => vx_widen (Nat.add_le_add_left (by decide) _) (Nat.add_le_add_left (by decide) _) (kx E ce q9 H1 locs1 he hP1 hD1 hS1 hf1 h1 h2 h3)) (fun h0c H1 locs1 hP1 hD1 hS1 hf1 => W.widen (Nat.add_le_add_left (by decide) _) (Nat.add_le_add_left (by decide) _) (kk h0c H1 locs1 hP1 hD1 hS1 hf1))
  · rw [epw_4] at kx kk
    exact kWUf (x := yX3_doWeigh) (y := yX4_doWeigh) (owner := RX3) (ci := 2) isD_2 C (wR l D ca sa lo isD_2 hl9) ⟨fun U A9 h => co_X4_doWeigh h A9, fun U A9 h => in_X4 h A9, hli, sm_X3_X3_doWeigh hk.1 _, va_Decl.of (im_X3_doWeigh hk.1 #[]) (co_X3_doWeigh hk.1 #[]), im_X4_doWeigh hk.1 _, se_X2_X3_doWeigh hk.1 _, by decide +kernel, ⟨⟨rfl, rfl⟩, Nat.le_trans (by decide) hR.1, Nat.le_trans (by decide) hR.2.1⟩, Nat.le_trans (Nat.add_le_add_left (by decide) _) hR.2.2.1, Nat.le_trans (Nat.add_le_add_left (by decide) _) hR.2.2.2⟩ hP hD hS hsize hW hdg (fun E ce q9 H1 locs1 he hP1 hD1 hS1 hf1 h1 h2 h3 => vx_widen (Nat.add_le_add_left (by decide) _) (Nat.add_le_add_left (by decide) _) (kx E ce q9 H1 locs1 he hP1 hD1 hS1 hf1 h1 h2 h3)) (fun h0c H1 locs1 hP1 hD1 hS1 hf1 => W.widen (Nat.add_le_add_left (by decide) _) (Nat.add_le_add_left (by decide) _) (kk h0c H1 locs1 hP1 hD1 hS1 hf1))
  · rw [epw_5] at kx kk
    exact kWUf (x := yX3_doWeigh) (y := yX0_doWeigh) (owner := RX3) (ci := 0) isD_0 C (wB l D ca sa lo isD_0 hl9) ⟨fun U A9 h => co_X0_doWeigh h A9, fun U A9 h => in_X0 h A9, hli, sm_X3_X3_doWeigh hk.1 _, va_Decl.of (im_X3_doWeigh hk.1 #[]) (co_X3_doWeigh hk.1 #[]), im_X0_doWeigh hk.1 _, se_X0_X3_doWeigh hk.1 _, by decide +kernel, ⟨⟨rfl, rfl⟩, Nat.le_trans (by decide) hR.1, Nat.le_trans (by decide) hR.2.1⟩, Nat.le_trans (Nat.add_le_add_left (by decide) _) hR.2.2.1, Nat.le_trans (Nat.add_le_add_left (by decide) _) hR.2.2.2⟩ hP hD hS hsize hW hdg (fun E ce q9 H1 locs1 he hP1 hD1 hS1 hf1 h1 h2 h3 => vx_widen (Nat.add_le_add_left (by decide) _) (Nat.add_le_add_left (by decide) _) (kx E ce q9 H1 locs1 he hP1 hD1 hS1 hf1 h1 h2 h3)) (fun h0c H1 locs1 hP1 hD1 hS1 hf1 => W.widen (Nat.add_le_add_left (by decide) _) (Nat.add_le_add_left (by decide) _) (kk h0c H1 locs1 hP1 hD1 hS1 hf1))
  · rw [epw_6] at kx kk
    exact kWUf (x := yX3_doWeigh) (y := yX3_doWeigh) (owner := RX3) (ci := 1) isD_1 C (wP l D ca sa lo isD_1) ⟨fun U A9 h => co_X3_doWeigh h A9, fun U A9 h => in_X3 h A9, hli, sm_X3_X3_doWeigh hk.1 _, va_Decl.of (im_X3_doWeigh hk.1 #[]) (co_X3_doWeigh hk.1 #[]), im_X3_doWeigh hk.1 _, se_X1_X3_doWeigh hk.1 _, by decide +kernel, ⟨⟨rfl, rfl⟩, Nat.le_trans (by decide) hR.1, Nat.le_trans (by decide) hR.2.1⟩, Nat.le_trans (Nat.add_le_add_left (by decide) _) hR.2.2.1, Nat.le_trans (Nat.add_le_add_left (by decide) _) hR.2.2.2⟩ hP hD hS hsize hW hdg (fun E ce q9 H1 locs1 he hP1 hD1 hS1 hf1 h1 h2 h3 => vx_widen (Nat.add_le_add_left (by decide) _) (Nat.add_le_add_left (by decide) _) (kx E ce q9 H1 locs1 he hP1 hD1 hS1 hf1 h1 h2 h3)) (fun h0c H1 locs1 hP1 hD1 hS1 hf1 => W.widen (Nat.add_le_add_left (by decide) _) (Nat.add_le_add_left (by decide) _) (kk h0c H1 locs1 hP1 hD1 hS1 hf1))
  · rw [epw_7] at kx kk
    exact kWUf (x := yX3_doWeigh) (y := yX5_doWeigh) (owner := RX3) (ci := 7) isD_7 C (wS l D ca sa lo isD_7) ⟨fun U A9 h => co_X5_doWeigh h A9, fun U A9 h => in_X5 h A9, hli, sm_X3_X3_doWeigh hk.1 _, va_Decl.of (im_X3_doWeigh hk.1 #[]) (co_X3_doWeigh hk.1 #[]), im_X5_doWeigh hk.1 _, se_X7_X3_doWeigh hk.1 _, by decide +kernel, ⟨⟨rfl, rfl⟩, Nat.le_trans (by decide) hR.1, Nat.le_trans (by decide) hR.2.1⟩, Nat.le_trans (Nat.add_le_add_left (by decide) _) hR.2.2.1, Nat.le_trans (Nat.add_le_add_left (by decide) _) hR.2.2.2⟩ hP hD hS hsize hW hdg (fun E ce q9 H1 locs1 he hP1 hD1 hS1 hf1 h1 h2 h3 => vx_widen (Nat.add_le_add_left (by decide) _) (Nat.add_le_add_left (by decide) _) (kx E ce q9 H1 locs1 he hP1 hD1 hS1 hf1 h1 h2 h3)) (fun h0c H1 locs1 hP1 hD1 hS1 hf1 => W.widen (Nat.add_le_add_left (by decide) _) (Nat.add_le_add_left (by decide) _) (kk h0c H1 locs1 hP1 hD1 hS1 hf1))
set_option maxHeartbeats 4000000 in
set_option maxRecDepth 100000 in
theorem vf_r (hl9 : l.stackTraces = false) (hkd : kd = 0 ∨ kd = 1 ∨ kd = 2 ∨ kd = 3 ∨ kd = 4 ∨ kd = 5 ∨ kd = 6 ∨ kd = 7) (C : Cx D ca sa lo p s m c cc nL own A) (hli : (Cond.methodLink own index yX3_doRead).before args s = true) (hP : va_P D cls (wd ca h0 ht hr (kc kd) K zn lm d t) H) (hD : va_D A (wd ca h0 ht hr (kc kd) K zn lm d t)) (hS : va_S A s.heap H locs) (hsize : ls.size = nL) (hW : (rest.map fun v => v.category).sum ≤ 8) (hdg : decode cc pc = .ok (.invokevirtual index, 3)) (hR : 11 ≤ R.frames ∧ 250 ≤ R.locals ∧ cells + 4 ≤ R.cells ∧ slots + 24 ≤ R.slots)
    (kx : ∀ (E : String) (ce : Cell) (q9 : Addr) (H1 : Heap) (locs1 : List Loc), en (pr kd v d t).1 E → va_P D cls (wd ca h0 ht hr (kc kd) K zn lm (pr kd v d t).2.1 (pr kd v d t).2.2) H1 → va_D A (wd ca h0 ht hr (kc kd) K zn lm (pr kd v d t).2.1 (pr kd v d t).2.2) → va_S A s.heap H1 locs1 → (∀ q : Nat, q < H.size → ¬ va_A (wd ca h0 ht hr (kc kd) K zn lm d t) H.size q → H1[q]? = H[q]?) → H1[q9]? = some ce → ce.vm = .none → s.vm.findClass E = some ce.cls → vx_W p l e R s m args below meth c H1 locs1 (cells + 4) (slots + 24) Q (F0 m pc ls rest) q9)
    (kk : (pr kd v d t).1 = 0 → ∀ (H1 : Heap) (locs1 : List Loc), va_P D cls (wd ca h0 ht hr (kc kd) K zn lm (pr kd v d t).2.1 (pr kd v d t).2.2) H1 → va_D A (wd ca h0 ht hr (kc kd) K zn lm (pr kd v d t).2.1 (pr kd v d t).2.2) → va_S A s.heap H1 locs1 → (∀ q : Nat, q < H.size → ¬ va_A (wd ca h0 ht hr (kc kd) K zn lm d t) H.size q → H1[q]? = H[q]?) → W p l e R s m args below meth c H1 locs1 (cells + 4) (slots + 24) Q (F0 m (pc + 3) ls (rest))) : W p l e R s m args below meth c H locs cells slots Q (F0 m pc ls (.int v :: .ref h0 :: rest)) := by
  have hk := C.2.2.2.2.1
  rcases hkd with rfl | rfl | rfl | rfl | rfl | rfl | rfl | rfl
  · rw [epr_0] at kx kk
    exact kRUf (x := yX3_doRead) (y := yX3_doRead) (owner := RX3) (ci := 3) isD_3 C (rP l D ca sa lo hl9 0 (by decide) isD_3) ⟨fun U A9 h => co_X3_doRead h A9, fun U A9 h => in_X3 h A9, hli, sm_X3_X3_doRead hk.1 _, va_Decl.of (im_X3_doRead hk.1 #[]) (co_X3_doRead hk.1 #[]), im_X3_doRead hk.1 _, se_X3_X3_doRead hk.1 _, by decide +kernel, ⟨⟨rfl, rfl⟩, Nat.le_trans (by decide) hR.1, Nat.le_trans (by decide) hR.2.1⟩, Nat.le_trans (Nat.add_le_add_left (by decide) _) hR.2.2.1, Nat.le_trans (Nat.add_le_add_left (by decide) _) hR.2.2.2⟩ hP hD hS hsize hW hdg (fun E ce q9 H1 locs1 he hP1 hD1 hS1 hf1 h1 h2 h3 => vx_widen (Nat.add_le_add_left (by decide) _) (Nat.add_le_add_left (by decide) _) (kx E ce q9 H1 locs1 he hP1 hD1 hS1 hf1 h1 h2 h3)) (fun h0c H1 locs1 hP1 hD1 hS1 hf1 => W.widen (Nat.add_le_add_left (by decide) _) (Nat.add_le_add_left (by decide) _) (kk h0c H1 locs1 hP1 hD1 hS1 hf1))
  · rw [epr_1] at kx kk
    exact kRUf (x := yX3_doRead) (y := yX3_doRead) (owner := RX3) (ci := 8) isD_8 C (rP l D ca sa lo hl9 1 (by decide) isD_8) ⟨fun U A9 h => co_X3_doRead h A9, fun U A9 h => in_X3 h A9, hli, sm_X3_X3_doRead hk.1 _, va_Decl.of (im_X3_doRead hk.1 #[]) (co_X3_doRead hk.1 #[]), im_X3_doRead hk.1 _, se_X8_X3_doRead hk.1 _, by decide +kernel, ⟨⟨rfl, rfl⟩, Nat.le_trans (by decide) hR.1, Nat.le_trans (by decide) hR.2.1⟩, Nat.le_trans (Nat.add_le_add_left (by decide) _) hR.2.2.1, Nat.le_trans (Nat.add_le_add_left (by decide) _) hR.2.2.2⟩ hP hD hS hsize hW hdg (fun E ce q9 H1 locs1 he hP1 hD1 hS1 hf1 h1 h2 h3 => vx_widen (Nat.add_le_add_left (by decide) _) (Nat.add_le_add_left (by decide) _) (kx E ce q9 H1 locs1 he hP1 hD1 hS1 hf1 h1 h2 h3)) (fun h0c H1 locs1 hP1 hD1 hS1 hf1 => W.widen (Nat.add_le_add_left (by decide) _) (Nat.add_le_add_left (by decide) _) (kk h0c H1 locs1 hP1 hD1 hS1 hf1))
  · rw [epr_2] at kx kk
    exact kRUf (x := yX3_doRead) (y := yX3_doRead) (owner := RX3) (ci := 4) isD_4 C (rP l D ca sa lo hl9 2 (by decide) isD_4) ⟨fun U A9 h => co_X3_doRead h A9, fun U A9 h => in_X3 h A9, hli, sm_X3_X3_doRead hk.1 _, va_Decl.of (im_X3_doRead hk.1 #[]) (co_X3_doRead hk.1 #[]), im_X3_doRead hk.1 _, se_X4_X3_doRead hk.1 _, by decide +kernel, ⟨⟨rfl, rfl⟩, Nat.le_trans (by decide) hR.1, Nat.le_trans (by decide) hR.2.1⟩, Nat.le_trans (Nat.add_le_add_left (by decide) _) hR.2.2.1, Nat.le_trans (Nat.add_le_add_left (by decide) _) hR.2.2.2⟩ hP hD hS hsize hW hdg (fun E ce q9 H1 locs1 he hP1 hD1 hS1 hf1 h1 h2 h3 => vx_widen (Nat.add_le_add_left (by decide) _) (Nat.add_le_add_left (by decide) _) (kx E ce q9 H1 locs1 he hP1 hD1 hS1 hf1 h1 h2 h3)) (fun h0c H1 locs1 hP1 hD1 hS1 hf1 => W.widen (Nat.add_le_add_left (by decide) _) (Nat.add_le_add_left (by decide) _) (kk h0c H1 locs1 hP1 hD1 hS1 hf1))
  · rw [epr_3] at kx kk
    exact kRUf (x := yX3_doRead) (y := yX5_doRead) (owner := RX3) (ci := 5) isD_5 C (rS l D ca sa lo hl9 3 (by decide) isD_5) ⟨fun U A9 h => co_X5_doRead h A9, fun U A9 h => in_X5 h A9, hli, sm_X3_X3_doRead hk.1 _, va_Decl.of (im_X3_doRead hk.1 #[]) (co_X3_doRead hk.1 #[]), im_X5_doRead hk.1 _, se_X5_X3_doRead hk.1 _, by decide +kernel, ⟨⟨rfl, rfl⟩, Nat.le_trans (by decide) hR.1, Nat.le_trans (by decide) hR.2.1⟩, Nat.le_trans (Nat.add_le_add_left (by decide) _) hR.2.2.1, Nat.le_trans (Nat.add_le_add_left (by decide) _) hR.2.2.2⟩ hP hD hS hsize hW hdg (fun E ce q9 H1 locs1 he hP1 hD1 hS1 hf1 h1 h2 h3 => vx_widen (Nat.add_le_add_left (by decide) _) (Nat.add_le_add_left (by decide) _) (kx E ce q9 H1 locs1 he hP1 hD1 hS1 hf1 h1 h2 h3)) (fun h0c H1 locs1 hP1 hD1 hS1 hf1 => W.widen (Nat.add_le_add_left (by decide) _) (Nat.add_le_add_left (by decide) _) (kk h0c H1 locs1 hP1 hD1 hS1 hf1))
  · rw [epr_4] at kx kk
    exact kRUf (x := yX3_doRead) (y := yX2_doRead) (owner := RX3) (ci := 2) isD_2 C (rH l D ca sa lo hl9) ⟨fun U A9 h => co_X2_doRead h A9, fun U A9 h => in_X2 h A9, hli, sm_X3_X3_doRead hk.1 _, va_Decl.of (im_X3_doRead hk.1 #[]) (co_X3_doRead hk.1 #[]), im_X2_doRead hk.1 _, se_X2_X3_doRead hk.1 _, by decide +kernel, ⟨⟨rfl, rfl⟩, Nat.le_trans (by decide) hR.1, Nat.le_trans (by decide) hR.2.1⟩, Nat.le_trans (Nat.add_le_add_left (by decide) _) hR.2.2.1, Nat.le_trans (Nat.add_le_add_left (by decide) _) hR.2.2.2⟩ hP hD hS hsize hW hdg (fun E ce q9 H1 locs1 he hP1 hD1 hS1 hf1 h1 h2 h3 => vx_widen (Nat.add_le_add_left (by decide) _) (Nat.add_le_add_left (by decide) _) (kx E ce q9 H1 locs1 he hP1 hD1 hS1 hf1 h1 h2 h3)) (fun h0c H1 locs1 hP1 hD1 hS1 hf1 => W.widen (Nat.add_le_add_left (by decide) _) (Nat.add_le_add_left (by decide) _) (kk h0c H1 locs1 hP1 hD1 hS1 hf1))
  · rw [epr_5] at kx kk
    exact kRUf (x := yX3_doRead) (y := yX3_doRead) (owner := RX3) (ci := 0) isD_0 C (rP l D ca sa lo hl9 5 (by decide) isD_0) ⟨fun U A9 h => co_X3_doRead h A9, fun U A9 h => in_X3 h A9, hli, sm_X3_X3_doRead hk.1 _, va_Decl.of (im_X3_doRead hk.1 #[]) (co_X3_doRead hk.1 #[]), im_X3_doRead hk.1 _, se_X0_X3_doRead hk.1 _, by decide +kernel, ⟨⟨rfl, rfl⟩, Nat.le_trans (by decide) hR.1, Nat.le_trans (by decide) hR.2.1⟩, Nat.le_trans (Nat.add_le_add_left (by decide) _) hR.2.2.1, Nat.le_trans (Nat.add_le_add_left (by decide) _) hR.2.2.2⟩ hP hD hS hsize hW hdg (fun E ce q9 H1 locs1 he hP1 hD1 hS1 hf1 h1 h2 h3 => vx_widen (Nat.add_le_add_left (by decide) _) (Nat.add_le_add_left (by decide) _) (kx E ce q9 H1 locs1 he hP1 hD1 hS1 hf1 h1 h2 h3)) (fun h0c H1 locs1 hP1 hD1 hS1 hf1 => W.widen (Nat.add_le_add_left (by decide) _) (Nat.add_le_add_left (by decide) _) (kk h0c H1 locs1 hP1 hD1 hS1 hf1))
  · rw [epr_6] at kx kk
    exact kRUf (x := yX3_doRead) (y := yX3_doRead) (owner := RX3) (ci := 1) isD_1 C (rP l D ca sa lo hl9 6 (by decide) isD_1) ⟨fun U A9 h => co_X3_doRead h A9, fun U A9 h => in_X3 h A9, hli, sm_X3_X3_doRead hk.1 _, va_Decl.of (im_X3_doRead hk.1 #[]) (co_X3_doRead hk.1 #[]), im_X3_doRead hk.1 _, se_X1_X3_doRead hk.1 _, by decide +kernel, ⟨⟨rfl, rfl⟩, Nat.le_trans (by decide) hR.1, Nat.le_trans (by decide) hR.2.1⟩, Nat.le_trans (Nat.add_le_add_left (by decide) _) hR.2.2.1, Nat.le_trans (Nat.add_le_add_left (by decide) _) hR.2.2.2⟩ hP hD hS hsize hW hdg (fun E ce q9 H1 locs1 he hP1 hD1 hS1 hf1 h1 h2 h3 => vx_widen (Nat.add_le_add_left (by decide) _) (Nat.add_le_add_left (by decide) _) (kx E ce q9 H1 locs1 he hP1 hD1 hS1 hf1 h1 h2 h3)) (fun h0c H1 locs1 hP1 hD1 hS1 hf1 => W.widen (Nat.add_le_add_left (by decide) _) (Nat.add_le_add_left (by decide) _) (kk h0c H1 locs1 hP1 hD1 hS1 hf1))
  · rw [epr_7] at kx kk
    exact kRUf (x := yX3_doRead) (y := yX7_doRead) (owner := RX3) (ci := 7) isD_7 C (rT l D ca sa lo hl9) ⟨fun U A9 h => co_X7_doRead h A9, fun U A9 h => in_X7 h A9, hli, sm_X3_X3_doRead hk.1 _, va_Decl.of (im_X3_doRead hk.1 #[]) (co_X3_doRead hk.1 #[]), im_X7_doRead hk.1 _, se_X7_X3_doRead hk.1 _, by decide +kernel, ⟨⟨rfl, rfl⟩, Nat.le_trans (by decide) hR.1, Nat.le_trans (by decide) hR.2.1⟩, Nat.le_trans (Nat.add_le_add_left (by decide) _) hR.2.2.1, Nat.le_trans (Nat.add_le_add_left (by decide) _) hR.2.2.2⟩ hP hD hS hsize hW hdg (fun E ce q9 H1 locs1 he hP1 hD1 hS1 hf1 h1 h2 h3 => vx_widen (Nat.add_le_add_left (by decide) _) (Nat.add_le_add_left (by decide) _) (kx E ce q9 H1 locs1 he hP1 hD1 hS1 hf1 h1 h2 h3)) (fun h0c H1 locs1 hP1 hD1 hS1 hf1 => W.widen (Nat.add_le_add_left (by decide) _) (Nat.add_le_add_left (by decide) _) (kk h0c H1 locs1 hP1 hD1 hS1 hf1))
set_option maxHeartbeats 4000000 in
set_option maxRecDepth 100000 in
theorem vf_o (hkd : kd = 0 ∨ kd = 1 ∨ kd = 2 ∨ kd = 3 ∨ kd = 4 ∨ kd = 5 ∨ kd = 6 ∨ kd = 7) (C : Cx D ca sa lo p s m c cc nL own A) (hli : (Cond.methodLink own index yX3_doOver).before args s = true) (hP : va_P D cls (wd ca h0 ht hr (kc kd) K zn lm d t) H) (hD : va_D A (wd ca h0 ht hr (kc kd) K zn lm d t)) (hS : va_S A s.heap H locs) (hsize : ls.size = nL) (hW : (rest.map fun v => v.category).sum ≤ 8) (hdg : decode cc pc = .ok (.invokevirtual index, 3)) (hR : 3 ≤ R.frames ∧ 90 ≤ R.locals ∧ cells + 0 ≤ R.cells ∧ slots + 0 ≤ R.slots)
    (kk : ∀ (H1 : Heap) (locs1 : List Loc), va_P D cls (wd ca h0 ht hr (kc kd) K zn lm (po kd lm d t).2.1 (po kd lm d t).2.2) H1 → va_D A (wd ca h0 ht hr (kc kd) K zn lm (po kd lm d t).2.1 (po kd lm d t).2.2) → va_S A s.heap H1 locs1 → (∀ q : Nat, q < H.size → ¬ va_A (wd ca h0 ht hr (kc kd) K zn lm d t) H.size q → H1[q]? = H[q]?) → W p l e R s m args below meth c H1 locs1 cells slots Q (F0 m (pc + 3) ls (.int (bi (po kd lm d t).1) :: rest))) : W p l e R s m args below meth c H locs cells slots Q (F0 m pc ls (.ref h0 :: rest)) := by
  have hk := C.2.2.2.2.1
  rcases hkd with rfl | rfl | rfl | rfl | rfl | rfl | rfl | rfl
  · rw [epo_0] at kk
    exact kOUf (x := yX3_doOver) (y := yX3_doOver) (owner := RX3) (ci := 3) isD_3 C (oP l D ca sa lo isD_3) ⟨fun U A9 h => co_X3_doOver h A9, fun U A9 h => in_X3 h A9, hli, sm_X3_X3_doOver hk.1 _, va_Decl.of (im_X3_doOver hk.1 #[]) (co_X3_doOver hk.1 #[]), im_X3_doOver hk.1 _, se_X3_X3_doOver hk.1 _, by decide +kernel, ⟨⟨rfl, rfl⟩, Nat.le_trans (by decide) hR.1, Nat.le_trans (by decide) hR.2.1⟩, Nat.le_trans (Nat.add_le_add_left (by decide) _) hR.2.2.1, Nat.le_trans (Nat.add_le_add_left (by decide) _) hR.2.2.2⟩ hP hD hS hsize hW hdg (fun H1 locs1 hP1 hD1 hS1 hf1 => kk H1 locs1 hP1 hD1 hS1 hf1)
  · rw [epo_1] at kk
    exact kOUf (x := yX3_doOver) (y := yX3_doOver) (owner := RX3) (ci := 8) isD_8 C (oP l D ca sa lo isD_8) ⟨fun U A9 h => co_X3_doOver h A9, fun U A9 h => in_X3 h A9, hli, sm_X3_X3_doOver hk.1 _, va_Decl.of (im_X3_doOver hk.1 #[]) (co_X3_doOver hk.1 #[]), im_X3_doOver hk.1 _, se_X8_X3_doOver hk.1 _, by decide +kernel, ⟨⟨rfl, rfl⟩, Nat.le_trans (by decide) hR.1, Nat.le_trans (by decide) hR.2.1⟩, Nat.le_trans (Nat.add_le_add_left (by decide) _) hR.2.2.1, Nat.le_trans (Nat.add_le_add_left (by decide) _) hR.2.2.2⟩ hP hD hS hsize hW hdg (fun H1 locs1 hP1 hD1 hS1 hf1 => kk H1 locs1 hP1 hD1 hS1 hf1)
  · rw [epo_2] at kk
    exact kOUf (x := yX3_doOver) (y := yX3_doOver) (owner := RX3) (ci := 4) isD_4 C (oP l D ca sa lo isD_4) ⟨fun U A9 h => co_X3_doOver h A9, fun U A9 h => in_X3 h A9, hli, sm_X3_X3_doOver hk.1 _, va_Decl.of (im_X3_doOver hk.1 #[]) (co_X3_doOver hk.1 #[]), im_X3_doOver hk.1 _, se_X4_X3_doOver hk.1 _, by decide +kernel, ⟨⟨rfl, rfl⟩, Nat.le_trans (by decide) hR.1, Nat.le_trans (by decide) hR.2.1⟩, Nat.le_trans (Nat.add_le_add_left (by decide) _) hR.2.2.1, Nat.le_trans (Nat.add_le_add_left (by decide) _) hR.2.2.2⟩ hP hD hS hsize hW hdg (fun H1 locs1 hP1 hD1 hS1 hf1 => kk H1 locs1 hP1 hD1 hS1 hf1)
  · rw [epo_3] at kk
    exact kOUf (x := yX3_doOver) (y := yX3_doOver) (owner := RX3) (ci := 5) isD_5 C (oP l D ca sa lo isD_5) ⟨fun U A9 h => co_X3_doOver h A9, fun U A9 h => in_X3 h A9, hli, sm_X3_X3_doOver hk.1 _, va_Decl.of (im_X3_doOver hk.1 #[]) (co_X3_doOver hk.1 #[]), im_X3_doOver hk.1 _, se_X5_X3_doOver hk.1 _, by decide +kernel, ⟨⟨rfl, rfl⟩, Nat.le_trans (by decide) hR.1, Nat.le_trans (by decide) hR.2.1⟩, Nat.le_trans (Nat.add_le_add_left (by decide) _) hR.2.2.1, Nat.le_trans (Nat.add_le_add_left (by decide) _) hR.2.2.2⟩ hP hD hS hsize hW hdg (fun H1 locs1 hP1 hD1 hS1 hf1 => kk H1 locs1 hP1 hD1 hS1 hf1)
  · rw [epo_4] at kk
    exact kOUf (x := yX3_doOver) (y := yX2_doOver) (owner := RX3) (ci := 2) isD_2 C (oH l D ca sa lo isD_2) ⟨fun U A9 h => co_X2_doOver h A9, fun U A9 h => in_X2 h A9, hli, sm_X3_X3_doOver hk.1 _, va_Decl.of (im_X3_doOver hk.1 #[]) (co_X3_doOver hk.1 #[]), im_X2_doOver hk.1 _, se_X2_X3_doOver hk.1 _, by decide +kernel, ⟨⟨rfl, rfl⟩, Nat.le_trans (by decide) hR.1, Nat.le_trans (by decide) hR.2.1⟩, Nat.le_trans (Nat.add_le_add_left (by decide) _) hR.2.2.1, Nat.le_trans (Nat.add_le_add_left (by decide) _) hR.2.2.2⟩ hP hD hS hsize hW hdg (fun H1 locs1 hP1 hD1 hS1 hf1 => kk H1 locs1 hP1 hD1 hS1 hf1)
  · rw [epo_5] at kk
    exact kOUf (x := yX3_doOver) (y := yX3_doOver) (owner := RX3) (ci := 0) isD_0 C (oP l D ca sa lo isD_0) ⟨fun U A9 h => co_X3_doOver h A9, fun U A9 h => in_X3 h A9, hli, sm_X3_X3_doOver hk.1 _, va_Decl.of (im_X3_doOver hk.1 #[]) (co_X3_doOver hk.1 #[]), im_X3_doOver hk.1 _, se_X0_X3_doOver hk.1 _, by decide +kernel, ⟨⟨rfl, rfl⟩, Nat.le_trans (by decide) hR.1, Nat.le_trans (by decide) hR.2.1⟩, Nat.le_trans (Nat.add_le_add_left (by decide) _) hR.2.2.1, Nat.le_trans (Nat.add_le_add_left (by decide) _) hR.2.2.2⟩ hP hD hS hsize hW hdg (fun H1 locs1 hP1 hD1 hS1 hf1 => kk H1 locs1 hP1 hD1 hS1 hf1)
  · rw [epo_6] at kk
    exact kOUf (x := yX3_doOver) (y := yX1_doOver) (owner := RX3) (ci := 1) isD_1 C (oF l D ca sa lo isD_1) ⟨fun U A9 h => co_X1_doOver h A9, fun U A9 h => in_X1 h A9, hli, sm_X3_X3_doOver hk.1 _, va_Decl.of (im_X3_doOver hk.1 #[]) (co_X3_doOver hk.1 #[]), im_X1_doOver hk.1 _, se_X1_X3_doOver hk.1 _, by decide +kernel, ⟨⟨rfl, rfl⟩, Nat.le_trans (by decide) hR.1, Nat.le_trans (by decide) hR.2.1⟩, Nat.le_trans (Nat.add_le_add_left (by decide) _) hR.2.2.1, Nat.le_trans (Nat.add_le_add_left (by decide) _) hR.2.2.2⟩ hP hD hS hsize hW hdg (fun H1 locs1 hP1 hD1 hS1 hf1 => kk H1 locs1 hP1 hD1 hS1 hf1)
  · rw [epo_7] at kk
    exact kOUf (x := yX3_doOver) (y := yX3_doOver) (owner := RX3) (ci := 7) isD_7 C (oP l D ca sa lo isD_7) ⟨fun U A9 h => co_X3_doOver h A9, fun U A9 h => in_X3 h A9, hli, sm_X3_X3_doOver hk.1 _, va_Decl.of (im_X3_doOver hk.1 #[]) (co_X3_doOver hk.1 #[]), im_X3_doOver hk.1 _, se_X7_X3_doOver hk.1 _, by decide +kernel, ⟨⟨rfl, rfl⟩, Nat.le_trans (by decide) hR.1, Nat.le_trans (by decide) hR.2.1⟩, Nat.le_trans (Nat.add_le_add_left (by decide) _) hR.2.2.1, Nat.le_trans (Nat.add_le_add_left (by decide) _) hR.2.2.2⟩ hP hD hS hsize hW hdg (fun H1 locs1 hP1 hD1 hS1 hf1 => kk H1 locs1 hP1 hD1 hS1 hf1)
set_option maxHeartbeats 4000000 in
set_option maxRecDepth 100000 in
theorem vf_c (hkd : kd = 0 ∨ kd = 1 ∨ kd = 2 ∨ kd = 3 ∨ kd = 4 ∨ kd = 5 ∨ kd = 6 ∨ kd = 7) (C : Cx D ca sa lo p s m c cc nL own A) (hli : (Cond.methodLink own index yX3_doClear).before args s = true) (hP : va_P D cls (wd ca h0 ht hr (kc kd) K zn lm d t) H) (hD : va_D A (wd ca h0 ht hr (kc kd) K zn lm d t)) (hS : va_S A s.heap H locs) (hsize : ls.size = nL) (hW : (rest.map fun v => v.category).sum ≤ 8) (hdg : decode cc pc = .ok (.invokevirtual index, 3)) (hR : 3 ≤ R.frames ∧ 90 ≤ R.locals ∧ cells + 0 ≤ R.cells ∧ slots + 0 ≤ R.slots)
    (kk : ∀ (H1 : Heap) (locs1 : List Loc), va_P D cls (wd ca h0 ht hr (kc kd) K zn lm (pcl kd d t).1 (pcl kd d t).2) H1 → va_D A (wd ca h0 ht hr (kc kd) K zn lm (pcl kd d t).1 (pcl kd d t).2) → va_S A s.heap H1 locs1 → (∀ q : Nat, q < H.size → ¬ va_A (wd ca h0 ht hr (kc kd) K zn lm d t) H.size q → H1[q]? = H[q]?) → W p l e R s m args below meth c H1 locs1 cells slots Q (F0 m (pc + 3) ls (rest))) : W p l e R s m args below meth c H locs cells slots Q (F0 m pc ls (.ref h0 :: rest)) := by
  have hk := C.2.2.2.2.1
  rcases hkd with rfl | rfl | rfl | rfl | rfl | rfl | rfl | rfl
  · rw [epcl_0] at kk
    exact kCUf (x := yX3_doClear) (y := yX3_doClear) (owner := RX3) (ci := 3) isD_3 C (cP l D ca sa lo isD_3) ⟨fun U A9 h => co_X3_doClear h A9, fun U A9 h => in_X3 h A9, hli, sm_X3_X3_doClear hk.1 _, va_Decl.of (im_X3_doClear hk.1 #[]) (co_X3_doClear hk.1 #[]), im_X3_doClear hk.1 _, se_X3_X3_doClear hk.1 _, by decide +kernel, ⟨⟨rfl, rfl⟩, Nat.le_trans (by decide) hR.1, Nat.le_trans (by decide) hR.2.1⟩, Nat.le_trans (Nat.add_le_add_left (by decide) _) hR.2.2.1, Nat.le_trans (Nat.add_le_add_left (by decide) _) hR.2.2.2⟩ hP hD hS hsize hW hdg (fun H1 locs1 hP1 hD1 hS1 hf1 => kk H1 locs1 hP1 hD1 hS1 hf1)
  · rw [epcl_1] at kk
    exact kCUf (x := yX3_doClear) (y := yX3_doClear) (owner := RX3) (ci := 8) isD_8 C (cP l D ca sa lo isD_8) ⟨fun U A9 h => co_X3_doClear h A9, fun U A9 h => in_X3 h A9, hli, sm_X3_X3_doClear hk.1 _, va_Decl.of (im_X3_doClear hk.1 #[]) (co_X3_doClear hk.1 #[]), im_X3_doClear hk.1 _, se_X8_X3_doClear hk.1 _, by decide +kernel, ⟨⟨rfl, rfl⟩, Nat.le_trans (by decide) hR.1, Nat.le_trans (by decide) hR.2.1⟩, Nat.le_trans (Nat.add_le_add_left (by decide) _) hR.2.2.1, Nat.le_trans (Nat.add_le_add_left (by decide) _) hR.2.2.2⟩ hP hD hS hsize hW hdg (fun H1 locs1 hP1 hD1 hS1 hf1 => kk H1 locs1 hP1 hD1 hS1 hf1)
  · rw [epcl_2] at kk
    exact kCUf (x := yX3_doClear) (y := yX3_doClear) (owner := RX3) (ci := 4) isD_4 C (cP l D ca sa lo isD_4) ⟨fun U A9 h => co_X3_doClear h A9, fun U A9 h => in_X3 h A9, hli, sm_X3_X3_doClear hk.1 _, va_Decl.of (im_X3_doClear hk.1 #[]) (co_X3_doClear hk.1 #[]), im_X3_doClear hk.1 _, se_X4_X3_doClear hk.1 _, by decide +kernel, ⟨⟨rfl, rfl⟩, Nat.le_trans (by decide) hR.1, Nat.le_trans (by decide) hR.2.1⟩, Nat.le_trans (Nat.add_le_add_left (by decide) _) hR.2.2.1, Nat.le_trans (Nat.add_le_add_left (by decide) _) hR.2.2.2⟩ hP hD hS hsize hW hdg (fun H1 locs1 hP1 hD1 hS1 hf1 => kk H1 locs1 hP1 hD1 hS1 hf1)
  · rw [epcl_3] at kk
    exact kCUf (x := yX3_doClear) (y := yX3_doClear) (owner := RX3) (ci := 5) isD_5 C (cP l D ca sa lo isD_5) ⟨fun U A9 h => co_X3_doClear h A9, fun U A9 h => in_X3 h A9, hli, sm_X3_X3_doClear hk.1 _, va_Decl.of (im_X3_doClear hk.1 #[]) (co_X3_doClear hk.1 #[]), im_X3_doClear hk.1 _, se_X5_X3_doClear hk.1 _, by decide +kernel, ⟨⟨rfl, rfl⟩, Nat.le_trans (by decide) hR.1, Nat.le_trans (by decide) hR.2.1⟩, Nat.le_trans (Nat.add_le_add_left (by decide) _) hR.2.2.1, Nat.le_trans (Nat.add_le_add_left (by decide) _) hR.2.2.2⟩ hP hD hS hsize hW hdg (fun H1 locs1 hP1 hD1 hS1 hf1 => kk H1 locs1 hP1 hD1 hS1 hf1)
  · rw [epcl_4] at kk
    exact kCUf (x := yX3_doClear) (y := yX3_doClear) (owner := RX3) (ci := 2) isD_2 C (cP l D ca sa lo isD_2) ⟨fun U A9 h => co_X3_doClear h A9, fun U A9 h => in_X3 h A9, hli, sm_X3_X3_doClear hk.1 _, va_Decl.of (im_X3_doClear hk.1 #[]) (co_X3_doClear hk.1 #[]), im_X3_doClear hk.1 _, se_X2_X3_doClear hk.1 _, by decide +kernel, ⟨⟨rfl, rfl⟩, Nat.le_trans (by decide) hR.1, Nat.le_trans (by decide) hR.2.1⟩, Nat.le_trans (Nat.add_le_add_left (by decide) _) hR.2.2.1, Nat.le_trans (Nat.add_le_add_left (by decide) _) hR.2.2.2⟩ hP hD hS hsize hW hdg (fun H1 locs1 hP1 hD1 hS1 hf1 => kk H1 locs1 hP1 hD1 hS1 hf1)
  · rw [epcl_5] at kk
    exact kCUf (x := yX3_doClear) (y := yX0_doClear) (owner := RX3) (ci := 0) isD_0 C (cB l D ca sa lo isD_0) ⟨fun U A9 h => co_X0_doClear h A9, fun U A9 h => in_X0 h A9, hli, sm_X3_X3_doClear hk.1 _, va_Decl.of (im_X3_doClear hk.1 #[]) (co_X3_doClear hk.1 #[]), im_X0_doClear hk.1 _, se_X0_X3_doClear hk.1 _, by decide +kernel, ⟨⟨rfl, rfl⟩, Nat.le_trans (by decide) hR.1, Nat.le_trans (by decide) hR.2.1⟩, Nat.le_trans (Nat.add_le_add_left (by decide) _) hR.2.2.1, Nat.le_trans (Nat.add_le_add_left (by decide) _) hR.2.2.2⟩ hP hD hS hsize hW hdg (fun H1 locs1 hP1 hD1 hS1 hf1 => kk H1 locs1 hP1 hD1 hS1 hf1)
  · rw [epcl_6] at kk
    exact kCUf (x := yX3_doClear) (y := yX1_doClear) (owner := RX3) (ci := 1) isD_1 C (cF l D ca sa lo isD_1) ⟨fun U A9 h => co_X1_doClear h A9, fun U A9 h => in_X1 h A9, hli, sm_X3_X3_doClear hk.1 _, va_Decl.of (im_X3_doClear hk.1 #[]) (co_X3_doClear hk.1 #[]), im_X1_doClear hk.1 _, se_X1_X3_doClear hk.1 _, by decide +kernel, ⟨⟨rfl, rfl⟩, Nat.le_trans (by decide) hR.1, Nat.le_trans (by decide) hR.2.1⟩, Nat.le_trans (Nat.add_le_add_left (by decide) _) hR.2.2.1, Nat.le_trans (Nat.add_le_add_left (by decide) _) hR.2.2.2⟩ hP hD hS hsize hW hdg (fun H1 locs1 hP1 hD1 hS1 hf1 => kk H1 locs1 hP1 hD1 hS1 hf1)
  · rw [epcl_7] at kk
    exact kCUf (x := yX3_doClear) (y := yX7_doClear) (owner := RX3) (ci := 7) isD_7 C (cT l D ca sa lo isD_7) ⟨fun U A9 h => co_X7_doClear h A9, fun U A9 h => in_X7 h A9, hli, sm_X3_X3_doClear hk.1 _, va_Decl.of (im_X3_doClear hk.1 #[]) (co_X3_doClear hk.1 #[]), im_X7_doClear hk.1 _, se_X7_X3_doClear hk.1 _, by decide +kernel, ⟨⟨rfl, rfl⟩, Nat.le_trans (by decide) hR.1, Nat.le_trans (by decide) hR.2.1⟩, Nat.le_trans (Nat.add_le_add_left (by decide) _) hR.2.2.1, Nat.le_trans (Nat.add_le_add_left (by decide) _) hR.2.2.2⟩ hP hD hS hsize hW hdg (fun H1 locs1 hP1 hD1 hS1 hf1 => kk H1 locs1 hP1 hD1 hS1 hf1)
set_option maxHeartbeats 4000000 in
set_option maxRecDepth 100000 in
theorem vf_k (hkd : kd = 0 ∨ kd = 1 ∨ kd = 2 ∨ kd = 3 ∨ kd = 4 ∨ kd = 5 ∨ kd = 6 ∨ kd = 7) (C : Cx D ca sa lo p s m c cc nL own A) (hli : (Cond.methodLink own index yX3_doCost).before args s = true) (hP : va_P D cls (wd ca h0 ht hr (kc kd) K zn lm d t) H) (hD : va_D A (wd ca h0 ht hr (kc kd) K zn lm d t)) (hS : va_S A s.heap H locs) (hsize : ls.size = nL) (hW : (rest.map fun v => v.category).sum ≤ 8) (hdg : decode cc pc = .ok (.invokevirtual index, 3)) (hR : 3 ≤ R.frames ∧ 90 ≤ R.locals ∧ cells + 0 ≤ R.cells ∧ slots + 0 ≤ R.slots)
    (kk : ∀ (H1 : Heap) (locs1 : List Loc), va_P D cls (wd ca h0 ht hr (kc kd) K zn lm d (pk kd d t).2) H1 → va_D A (wd ca h0 ht hr (kc kd) K zn lm d (pk kd d t).2) → va_S A s.heap H1 locs1 → (∀ q : Nat, q < H.size → ¬ va_A (wd ca h0 ht hr (kc kd) K zn lm d t) H.size q → H1[q]? = H[q]?) → W p l e R s m args below meth c H1 locs1 cells slots Q (F0 m (pc + 3) ls (.int (pk kd d t).1 :: rest))) : W p l e R s m args below meth c H locs cells slots Q (F0 m pc ls (.ref h0 :: rest)) := by
  have hk := C.2.2.2.2.1
  rcases hkd with rfl | rfl | rfl | rfl | rfl | rfl | rfl | rfl
  · rw [epk_0] at kk
    exact kKUf (x := yX3_doCost) (y := yX3_doCost) (owner := RX3) (ci := 3) isD_3 C (kP l D ca sa lo isD_3) ⟨fun U A9 h => co_X3_doCost h A9, fun U A9 h => in_X3 h A9, hli, sm_X3_X3_doCost hk.1 _, va_Decl.of (im_X3_doCost hk.1 #[]) (co_X3_doCost hk.1 #[]), im_X3_doCost hk.1 _, se_X3_X3_doCost hk.1 _, by decide +kernel, ⟨⟨rfl, rfl⟩, Nat.le_trans (by decide) hR.1, Nat.le_trans (by decide) hR.2.1⟩, Nat.le_trans (Nat.add_le_add_left (by decide) _) hR.2.2.1, Nat.le_trans (Nat.add_le_add_left (by decide) _) hR.2.2.2⟩ hP hD hS hsize hW hdg (fun H1 locs1 hP1 hD1 hS1 hf1 => kk H1 locs1 hP1 hD1 hS1 hf1)
  · rw [epk_1] at kk
    exact kKUf (x := yX3_doCost) (y := yX3_doCost) (owner := RX3) (ci := 8) isD_8 C (kP l D ca sa lo isD_8) ⟨fun U A9 h => co_X3_doCost h A9, fun U A9 h => in_X3 h A9, hli, sm_X3_X3_doCost hk.1 _, va_Decl.of (im_X3_doCost hk.1 #[]) (co_X3_doCost hk.1 #[]), im_X3_doCost hk.1 _, se_X8_X3_doCost hk.1 _, by decide +kernel, ⟨⟨rfl, rfl⟩, Nat.le_trans (by decide) hR.1, Nat.le_trans (by decide) hR.2.1⟩, Nat.le_trans (Nat.add_le_add_left (by decide) _) hR.2.2.1, Nat.le_trans (Nat.add_le_add_left (by decide) _) hR.2.2.2⟩ hP hD hS hsize hW hdg (fun H1 locs1 hP1 hD1 hS1 hf1 => kk H1 locs1 hP1 hD1 hS1 hf1)
  · rw [epk_2] at kk
    exact kKUf (x := yX3_doCost) (y := yX4_doCost) (owner := RX3) (ci := 4) isD_4 C (kR l D ca sa lo isD_4) ⟨fun U A9 h => co_X4_doCost h A9, fun U A9 h => in_X4 h A9, hli, sm_X3_X3_doCost hk.1 _, va_Decl.of (im_X3_doCost hk.1 #[]) (co_X3_doCost hk.1 #[]), im_X4_doCost hk.1 _, se_X4_X3_doCost hk.1 _, by decide +kernel, ⟨⟨rfl, rfl⟩, Nat.le_trans (by decide) hR.1, Nat.le_trans (by decide) hR.2.1⟩, Nat.le_trans (Nat.add_le_add_left (by decide) _) hR.2.2.1, Nat.le_trans (Nat.add_le_add_left (by decide) _) hR.2.2.2⟩ hP hD hS hsize hW hdg (fun H1 locs1 hP1 hD1 hS1 hf1 => kk H1 locs1 hP1 hD1 hS1 hf1)
  · rw [epk_3] at kk
    exact kKUf (x := yX3_doCost) (y := yX3_doCost) (owner := RX3) (ci := 5) isD_5 C (kP l D ca sa lo isD_5) ⟨fun U A9 h => co_X3_doCost h A9, fun U A9 h => in_X3 h A9, hli, sm_X3_X3_doCost hk.1 _, va_Decl.of (im_X3_doCost hk.1 #[]) (co_X3_doCost hk.1 #[]), im_X3_doCost hk.1 _, se_X5_X3_doCost hk.1 _, by decide +kernel, ⟨⟨rfl, rfl⟩, Nat.le_trans (by decide) hR.1, Nat.le_trans (by decide) hR.2.1⟩, Nat.le_trans (Nat.add_le_add_left (by decide) _) hR.2.2.1, Nat.le_trans (Nat.add_le_add_left (by decide) _) hR.2.2.2⟩ hP hD hS hsize hW hdg (fun H1 locs1 hP1 hD1 hS1 hf1 => kk H1 locs1 hP1 hD1 hS1 hf1)
  · rw [epk_4] at kk
    exact kKUf (x := yX3_doCost) (y := yX4_doCost) (owner := RX3) (ci := 2) isD_2 C (kR l D ca sa lo isD_2) ⟨fun U A9 h => co_X4_doCost h A9, fun U A9 h => in_X4 h A9, hli, sm_X3_X3_doCost hk.1 _, va_Decl.of (im_X3_doCost hk.1 #[]) (co_X3_doCost hk.1 #[]), im_X4_doCost hk.1 _, se_X2_X3_doCost hk.1 _, by decide +kernel, ⟨⟨rfl, rfl⟩, Nat.le_trans (by decide) hR.1, Nat.le_trans (by decide) hR.2.1⟩, Nat.le_trans (Nat.add_le_add_left (by decide) _) hR.2.2.1, Nat.le_trans (Nat.add_le_add_left (by decide) _) hR.2.2.2⟩ hP hD hS hsize hW hdg (fun H1 locs1 hP1 hD1 hS1 hf1 => kk H1 locs1 hP1 hD1 hS1 hf1)
  · rw [epk_5] at kk
    exact kKUf (x := yX3_doCost) (y := yX4_doCost) (owner := RX3) (ci := 0) isD_0 C (kR l D ca sa lo isD_0) ⟨fun U A9 h => co_X4_doCost h A9, fun U A9 h => in_X4 h A9, hli, sm_X3_X3_doCost hk.1 _, va_Decl.of (im_X3_doCost hk.1 #[]) (co_X3_doCost hk.1 #[]), im_X4_doCost hk.1 _, se_X0_X3_doCost hk.1 _, by decide +kernel, ⟨⟨rfl, rfl⟩, Nat.le_trans (by decide) hR.1, Nat.le_trans (by decide) hR.2.1⟩, Nat.le_trans (Nat.add_le_add_left (by decide) _) hR.2.2.1, Nat.le_trans (Nat.add_le_add_left (by decide) _) hR.2.2.2⟩ hP hD hS hsize hW hdg (fun H1 locs1 hP1 hD1 hS1 hf1 => kk H1 locs1 hP1 hD1 hS1 hf1)
  · rw [epk_6] at kk
    exact kKUf (x := yX3_doCost) (y := yX1_doCost) (owner := RX3) (ci := 1) isD_1 C (kF l D ca sa lo isD_1) ⟨fun U A9 h => co_X1_doCost h A9, fun U A9 h => in_X1 h A9, hli, sm_X3_X3_doCost hk.1 _, va_Decl.of (im_X3_doCost hk.1 #[]) (co_X3_doCost hk.1 #[]), im_X1_doCost hk.1 _, se_X1_X3_doCost hk.1 _, by decide +kernel, ⟨⟨rfl, rfl⟩, Nat.le_trans (by decide) hR.1, Nat.le_trans (by decide) hR.2.1⟩, Nat.le_trans (Nat.add_le_add_left (by decide) _) hR.2.2.1, Nat.le_trans (Nat.add_le_add_left (by decide) _) hR.2.2.2⟩ hP hD hS hsize hW hdg (fun H1 locs1 hP1 hD1 hS1 hf1 => kk H1 locs1 hP1 hD1 hS1 hf1)
  · rw [epk_7] at kk
    exact kKUf (x := yX3_doCost) (y := yX7_doCost) (owner := RX3) (ci := 7) isD_7 C (kT l D ca sa lo isD_7) ⟨fun U A9 h => co_X7_doCost h A9, fun U A9 h => in_X7 h A9, hli, sm_X3_X3_doCost hk.1 _, va_Decl.of (im_X3_doCost hk.1 #[]) (co_X3_doCost hk.1 #[]), im_X7_doCost hk.1 _, se_X7_X3_doCost hk.1 _, by decide +kernel, ⟨⟨rfl, rfl⟩, Nat.le_trans (by decide) hR.1, Nat.le_trans (by decide) hR.2.1⟩, Nat.le_trans (Nat.add_le_add_left (by decide) _) hR.2.2.1, Nat.le_trans (Nat.add_le_add_left (by decide) _) hR.2.2.2⟩ hP hD hS hsize hW hdg (fun H1 locs1 hP1 hD1 hS1 hf1 => kk H1 locs1 hP1 hD1 hS1 hf1)
set_option maxHeartbeats 4000000 in
set_option maxRecDepth 100000 in
theorem vf_v (hkd : kd = 0 ∨ kd = 1 ∨ kd = 2 ∨ kd = 3 ∨ kd = 4 ∨ kd = 5 ∨ kd = 6 ∨ kd = 7) (C : Cx D ca sa lo p s m c cc nL own A) (hli : (Cond.methodLink own index yX3_doVotes).before args s = true) (hP : va_P D cls (wd ca h0 ht hr (kc kd) K zn lm d t) H) (hD : va_D A (wd ca h0 ht hr (kc kd) K zn lm d t)) (hS : va_S A s.heap H locs) (hsize : ls.size = nL) (hW : (rest.map fun v => v.category).sum ≤ 8) (hdg : decode cc pc = .ok (.invokevirtual index, 3)) (hR : 4 ≤ R.frames ∧ 120 ≤ R.locals ∧ cells + 0 ≤ R.cells ∧ slots + 0 ≤ R.slots)
    (kk : ∀ (H1 : Heap) (locs1 : List Loc), va_P D cls (wd ca h0 ht hr (kc kd) K zn lm (pv kd lm d t).2.1 (pv kd lm d t).2.2) H1 → va_D A (wd ca h0 ht hr (kc kd) K zn lm (pv kd lm d t).2.1 (pv kd lm d t).2.2) → va_S A s.heap H1 locs1 → (∀ q : Nat, q < H.size → ¬ va_A (wd ca h0 ht hr (kc kd) K zn lm d t) H.size q → H1[q]? = H[q]?) → W p l e R s m args below meth c H1 locs1 cells slots Q (F0 m (pc + 3) ls (.int (pv kd lm d t).1 :: rest))) : W p l e R s m args below meth c H locs cells slots Q (F0 m pc ls (.ref h0 :: rest)) := by
  have hk := C.2.2.2.2.1
  rcases hkd with rfl | rfl | rfl | rfl | rfl | rfl | rfl | rfl
  · exact kVUf (x := yX3_doVotes) (y := yX3_doVotes) (owner := RX3) (ci := 3) isD_3 C (vP l D ca sa lo ) ⟨fun U A9 h => co_X3_doVotes h A9, fun U A9 h => in_X3 h A9, hli, sm_X3_X3_doVotes hk.1 _, va_Decl.of (im_X3_doVotes hk.1 #[]) (co_X3_doVotes hk.1 #[]), im_X3_doVotes hk.1 _, se_X3_X3_doVotes hk.1 _, by decide +kernel, ⟨⟨rfl, rfl⟩, Nat.le_trans (by decide) hR.1, Nat.le_trans (by decide) hR.2.1⟩, Nat.le_trans (Nat.add_le_add_left (by decide) _) hR.2.2.1, Nat.le_trans (Nat.add_le_add_left (by decide) _) hR.2.2.2⟩ hP hD hS hsize hW hdg (fun H1 locs1 hP1 hD1 hS1 hf1 => kk H1 locs1 hP1 hD1 hS1 hf1)
  · exact kVUf (x := yX3_doVotes) (y := yX8_doVotes) (owner := RX3) (ci := 8) isD_8 C (vW l D ca sa lo 1 (by decide)) ⟨fun U A9 h => co_X8_doVotes h A9, fun U A9 h => in_X8 h A9, hli, sm_X3_X3_doVotes hk.1 _, va_Decl.of (im_X3_doVotes hk.1 #[]) (co_X3_doVotes hk.1 #[]), im_X8_doVotes hk.1 _, se_X8_X3_doVotes hk.1 _, by decide +kernel, ⟨⟨rfl, rfl⟩, Nat.le_trans (by decide) hR.1, Nat.le_trans (by decide) hR.2.1⟩, Nat.le_trans (Nat.add_le_add_left (by decide) _) hR.2.2.1, Nat.le_trans (Nat.add_le_add_left (by decide) _) hR.2.2.2⟩ hP hD hS hsize hW hdg (fun H1 locs1 hP1 hD1 hS1 hf1 => kk H1 locs1 hP1 hD1 hS1 hf1)
  · exact kVUf (x := yX3_doVotes) (y := yX8_doVotes) (owner := RX3) (ci := 4) isD_4 C (vW l D ca sa lo 2 (by decide)) ⟨fun U A9 h => co_X8_doVotes h A9, fun U A9 h => in_X8 h A9, hli, sm_X3_X3_doVotes hk.1 _, va_Decl.of (im_X3_doVotes hk.1 #[]) (co_X3_doVotes hk.1 #[]), im_X8_doVotes hk.1 _, se_X4_X3_doVotes hk.1 _, by decide +kernel, ⟨⟨rfl, rfl⟩, Nat.le_trans (by decide) hR.1, Nat.le_trans (by decide) hR.2.1⟩, Nat.le_trans (Nat.add_le_add_left (by decide) _) hR.2.2.1, Nat.le_trans (Nat.add_le_add_left (by decide) _) hR.2.2.2⟩ hP hD hS hsize hW hdg (fun H1 locs1 hP1 hD1 hS1 hf1 => kk H1 locs1 hP1 hD1 hS1 hf1)
  · exact kVUf (x := yX3_doVotes) (y := yX8_doVotes) (owner := RX3) (ci := 5) isD_5 C (vW l D ca sa lo 3 (by decide)) ⟨fun U A9 h => co_X8_doVotes h A9, fun U A9 h => in_X8 h A9, hli, sm_X3_X3_doVotes hk.1 _, va_Decl.of (im_X3_doVotes hk.1 #[]) (co_X3_doVotes hk.1 #[]), im_X8_doVotes hk.1 _, se_X5_X3_doVotes hk.1 _, by decide +kernel, ⟨⟨rfl, rfl⟩, Nat.le_trans (by decide) hR.1, Nat.le_trans (by decide) hR.2.1⟩, Nat.le_trans (Nat.add_le_add_left (by decide) _) hR.2.2.1, Nat.le_trans (Nat.add_le_add_left (by decide) _) hR.2.2.2⟩ hP hD hS hsize hW hdg (fun H1 locs1 hP1 hD1 hS1 hf1 => kk H1 locs1 hP1 hD1 hS1 hf1)
  · exact kVUf (x := yX3_doVotes) (y := yX8_doVotes) (owner := RX3) (ci := 2) isD_2 C (vW l D ca sa lo 4 (by decide)) ⟨fun U A9 h => co_X8_doVotes h A9, fun U A9 h => in_X8 h A9, hli, sm_X3_X3_doVotes hk.1 _, va_Decl.of (im_X3_doVotes hk.1 #[]) (co_X3_doVotes hk.1 #[]), im_X8_doVotes hk.1 _, se_X2_X3_doVotes hk.1 _, by decide +kernel, ⟨⟨rfl, rfl⟩, Nat.le_trans (by decide) hR.1, Nat.le_trans (by decide) hR.2.1⟩, Nat.le_trans (Nat.add_le_add_left (by decide) _) hR.2.2.1, Nat.le_trans (Nat.add_le_add_left (by decide) _) hR.2.2.2⟩ hP hD hS hsize hW hdg (fun H1 locs1 hP1 hD1 hS1 hf1 => kk H1 locs1 hP1 hD1 hS1 hf1)
  · exact kVUf (x := yX3_doVotes) (y := yX8_doVotes) (owner := RX3) (ci := 0) isD_0 C (vW l D ca sa lo 5 (by decide)) ⟨fun U A9 h => co_X8_doVotes h A9, fun U A9 h => in_X8 h A9, hli, sm_X3_X3_doVotes hk.1 _, va_Decl.of (im_X3_doVotes hk.1 #[]) (co_X3_doVotes hk.1 #[]), im_X8_doVotes hk.1 _, se_X0_X3_doVotes hk.1 _, by decide +kernel, ⟨⟨rfl, rfl⟩, Nat.le_trans (by decide) hR.1, Nat.le_trans (by decide) hR.2.1⟩, Nat.le_trans (Nat.add_le_add_left (by decide) _) hR.2.2.1, Nat.le_trans (Nat.add_le_add_left (by decide) _) hR.2.2.2⟩ hP hD hS hsize hW hdg (fun H1 locs1 hP1 hD1 hS1 hf1 => kk H1 locs1 hP1 hD1 hS1 hf1)
  · exact kVUf (x := yX3_doVotes) (y := yX8_doVotes) (owner := RX3) (ci := 1) isD_1 C (vW l D ca sa lo 6 (by decide)) ⟨fun U A9 h => co_X8_doVotes h A9, fun U A9 h => in_X8 h A9, hli, sm_X3_X3_doVotes hk.1 _, va_Decl.of (im_X3_doVotes hk.1 #[]) (co_X3_doVotes hk.1 #[]), im_X8_doVotes hk.1 _, se_X1_X3_doVotes hk.1 _, by decide +kernel, ⟨⟨rfl, rfl⟩, Nat.le_trans (by decide) hR.1, Nat.le_trans (by decide) hR.2.1⟩, Nat.le_trans (Nat.add_le_add_left (by decide) _) hR.2.2.1, Nat.le_trans (Nat.add_le_add_left (by decide) _) hR.2.2.2⟩ hP hD hS hsize hW hdg (fun H1 locs1 hP1 hD1 hS1 hf1 => kk H1 locs1 hP1 hD1 hS1 hf1)
  · exact kVUf (x := yX3_doVotes) (y := yX7_doVotes) (owner := RX3) (ci := 7) isD_7 C (vT l D ca sa lo ) ⟨fun U A9 h => co_X7_doVotes h A9, fun U A9 h => in_X7 h A9, hli, sm_X3_X3_doVotes hk.1 _, va_Decl.of (im_X3_doVotes hk.1 #[]) (co_X3_doVotes hk.1 #[]), im_X7_doVotes hk.1 _, se_X7_X3_doVotes hk.1 _, by decide +kernel, ⟨⟨rfl, rfl⟩, Nat.le_trans (by decide) hR.1, Nat.le_trans (by decide) hR.2.1⟩, Nat.le_trans (Nat.add_le_add_left (by decide) _) hR.2.2.1, Nat.le_trans (Nat.add_le_add_left (by decide) _) hR.2.2.2⟩ hP hD hS hsize hW hdg (fun H1 locs1 hP1 hD1 hS1 hf1 => kk H1 locs1 hP1 hD1 hS1 hf1)
end VD
end
section
/-! the panel: x0 the panel itself, da its row of detectors (addresses L, what they hold Q), its trace -/
abbrev Pd : Type := Nat × Int32 × Int32 × Dv
def cD (ht : Nat) (q : Nat × Pd) : Nat × va_E := (q.1, .inr (kc q.2.1, df ht (nI q.2.1) q.2.2.1 q.2.2.2.1 q.2.2.2.2))
def wpo (ht : Nat) (L : List Nat) (Q : List Pd) : va_W := (L.zip Q).map (cD ht)
def wx (ca : Nat → ClassId) (x0 da ht hr : Nat) (L : List Nat) (Q : List Pd) (t : Tr) : va_W := (x0, .inr (9, [.ref da, .ref ht, .int (nI L.length)])) :: (da, .inl (ca 1, 20, .inr (.inr (.inr (.inr (fun i => L[i]?)))))) :: (wt ca ht hr t ++ wpo ht L Q)
def okP (L : List Nat) (Q : List Pd) : Prop := L.length = Q.length ∧ Q.length ≤ 20 ∧ ∀ pd ∈ Q, pd.1 < 8
theorem k8 {n : Nat} (h : n < 8) : n = 0 ∨ n = 1 ∨ n = 2 ∨ n = 3 ∨ n = 4 ∨ n = 5 ∨ n = 6 ∨ n = 7 := by omega
def ix (Q : List Pd) (x : Int32) : Option Nat := if x < 0 ∨ nI Q.length ≤ x then none else some x.toNatClampNeg
theorem ix_some {Q : List Pd} {x : Int32} {i : Nat} (hn : Q.length ≤ 20) (h : ix Q x = some i) : i < Q.length ∧ x = nI i := by
  unfold ix at h
  split at h
  · cases h
  · rename_i hx
    have h1 : ¬ x < 0 := fun h => hx (Or.inl h)
    have h2 : ¬ nI Q.length ≤ x := fun h => hx (Or.inr h)
    obtain ⟨j, hj, rfl⟩ := nI_of h1
    rw [nI_clamp hj] at h
    cases h
    refine ⟨?_, rfl⟩
    rw [nI_leI (by omega) hj] at h2
    omega
theorem wx_at {ca : Nat → ClassId} {x0 da ht hr i a : Nat} {L : List Nat} {Q : List Pd} {t : Tr} {pd : Pd} (hL : L[i]? = some a) (hQ : Q[i]? = some pd) : (wx ca x0 da ht hr L Q t)[4 + i]? = some (cD ht (a, pd)) := by
  have h : (L.zip Q)[i]? = some (a, pd) := List.getElem?_zip_eq_some.mpr ⟨hL, hQ⟩
  show ((x0, _) :: (da, _) :: (wt ca ht hr t ++ wpo ht L Q))[4 + i]? = _
  rw [show 4 + i = (i + 2) + 1 + 1 by omega, List.getElem?_cons_succ, List.getElem?_cons_succ, List.getElem?_append_right (by show 2 ≤ i + 2; omega)]
  show (wpo ht L Q)[i + 2 - 2]? = _
  rw [Nat.add_sub_cancel, wpo, List.getElem?_map, h]; rfl
theorem wx_in {ca : Nat → ClassId} {x0 da ht hr j : Nat} {L : List Nat} {Q : List Pd} {t : Tr} {q : Nat × va_E} (h : (wx ca x0 da ht hr L Q t)[4 + j]? = some q) : ∃ a pd, L[j]? = some a ∧ Q[j]? = some pd ∧ q = cD ht (a, pd) := by
  have h : ((x0, (_ : va_E)) :: (da, _) :: (wt ca ht hr t ++ wpo ht L Q))[4 + j]? = some q := h
  rw [show 4 + j = (j + 2) + 1 + 1 by omega, List.getElem?_cons_succ, List.getElem?_cons_succ, List.getElem?_append_right (by show 2 ≤ j + 2; omega)] at h
  have h : (wpo ht L Q)[j + 2 - 2]? = some q := h
  rw [Nat.add_sub_cancel, wpo, List.getElem?_map] at h
  cases h9 : (L.zip Q)[j]? with
  | none => rw [h9] at h; cases h
  | some z =>
    rw [h9] at h
    obtain ⟨h1, h2⟩ := List.getElem?_zip_eq_some.mp h9
    exact ⟨z.1, z.2, h1, h2, (Option.some.inj h).symm⟩
section PX2
variable {D : va_G} {ca : Nat → ClassId} {H H1 : Heap} {A : Nat → Prop} {x0 da ht hr i a : Nat} {L : List Nat} {Q : List Pd} {t : Tr} {pd : Pd}
theorem px_cut (hP : va_P D cls (wx ca x0 da ht hr L Q t) H) (hL : L[i]? = some a) (hQ : Q[i]? = some pd) : va_P D cls (wd ca a ht hr (kc pd.1) (nI pd.1) pd.2.1 pd.2.2.1 pd.2.2.2 t) H := by
  intro k q hk
  match k, hk with
  | 0, hk => cases hk; exact hP (4 + i) _ (wx_at hL hQ)
  | 1, hk => cases hk; exact hP 2 _ rfl
  | 2, hk => cases hk; exact hP 3 _ rfl
  | k + 3, hk => cases hk
theorem dx_cut (hD : va_D A (wx ca x0 da ht hr L Q t)) (hL : L[i]? = some a) (hQ : Q[i]? = some pd) : va_D A (wd ca a ht hr (kc pd.1) (nI pd.1) pd.2.1 pd.2.2.1 pd.2.2.2 t) := by
  refine hD.by (fun k => if k = 0 then 4 + i else k + 1) ?_ ?_
  · intro k q hk
    match k, hk with
    | 0, hk => cases hk; exact wx_at hL hQ
    | 1, hk => cases hk; rfl
    | 2, hk => cases hk; rfl
    | k + 3, hk => cases hk
  · intro j k hj hk h
    have hj : j < 3 := hj
    have hk : k < 3 := hk
    have h : (if j = 0 then 4 + i else j + 1) = (if k = 0 then 4 + i else k + 1) := h
    split at h <;> split at h <;> omega
theorem px_join {d1 : Dv} {t1 : Tr} (hP : va_P D cls (wx ca x0 da ht hr L Q t) H) (hD : va_D A (wx ca x0 da ht hr L Q t)) (hL : L[i]? = some a) (hQ : Q[i]? = some pd)
    (hf : ∀ q : Nat, q < H.size → ¬ va_A (wd ca a ht hr (kc pd.1) (nI pd.1) pd.2.1 pd.2.2.1 pd.2.2.2 t) H.size q → H1[q]? = H[q]?) (hB : va_P D cls (wd ca a ht hr (kc pd.1) (nI pd.1) pd.2.1 pd.2.2.1 d1 t1) H1) :
    va_P D cls (wx ca x0 da ht hr L (Q.set i (pd.1, pd.2.1, pd.2.2.1, d1)) t1) H1 := by
  have keep : ∀ (k : Nat) (q : Nat × va_E), (wx ca x0 da ht hr L Q t)[k]? = some q → k ≠ 2 → k ≠ 3 → k ≠ 4 + i → va_at D cls q H1 := by
    intro k q hk h2 h3 h4
    have hq := hP k q hk
    refine hq.kept (hf q.1 hq.lt ?_)
    rintro (⟨j, e9, hj⟩ | h)
    · match j, hj with
      | 0, hj =>
        have e1 : a = q.1 := congrArg Prod.fst (Option.some.inj hj)
        exact h4 (hD.1 k (4 + i) q _ hk (wx_at hL hQ) e1.symm)
      | 1, hj =>
        have e1 : ht = q.1 := congrArg Prod.fst (Option.some.inj hj)
        exact h2 (hD.1 k 2 q _ hk rfl e1.symm)
      | 2, hj =>
        have e1 : hr = q.1 := congrArg Prod.fst (Option.some.inj hj)
        exact h3 (hD.1 k 3 q _ hk rfl e1.symm)
      | j + 3, hj => cases hj
    · have := hq.lt
      omega
  intro k q hk
  match k, hk with
  | 0, hk => exact keep 0 q hk (by omega) (by omega) (by omega)
  | 1, hk => exact keep 1 q hk (by omega) (by omega) (by omega)
  | 2, hk => cases hk; exact hB 1 _ rfl
  | 3, hk => cases hk; exact hB 2 _ rfl
  | k + 4, hk =>
    rw [Nat.add_comm] at hk
    obtain ⟨b, pe, h1, h2, rfl⟩ := wx_in hk
    by_cases e : k = i
    · subst e
      rw [hL] at h1; cases h1
      rw [List.getElem?_set_self (List.getElem?_eq_some_iff.mp hQ).1] at h2
      cases h2
      exact hB 0 _ rfl
    · rw [List.getElem?_set_ne (fun h => e h.symm)] at h2
      exact keep (4 + k) _ (wx_at h1 h2) (by omega) (by omega) (by omega)
theorem wx_map {Q' : List Pd} {t1 : Tr} (h : L.length = Q.length) (h' : Q'.length = Q.length) : (wx ca x0 da ht hr L Q' t1).map (·.1) = (wx ca x0 da ht hr L Q t).map (·.1) := by
  have e : ∀ Z : List Pd, L.length = Z.length → (wpo ht L Z).map (·.1) = L := by
    intro Z hz
    rw [wpo, List.map_map]
    show (L.zip Z).map Prod.fst = L
    exact List.map_fst_zip (Nat.le_of_eq hz)
  simp only [wx, List.map_cons, List.map_append, e Q h, e Q' (h.trans h'.symm)]
  rfl
end PX2
end
section
def rng (a b x : Int32) : Bool := decide (a ≤ x) && decide (x ≤ b)
def QQ (D : va_G) (r : Option Nat) (ws : va_W) (A : Nat → Prop) : Array Value → State → Outcome → State → Prop := va_Qq (S := Unit) (fun r' _ => r' = r) (fun _ t => va_P D cls ws t.heap) A
section PC
variable {D : va_G} {ca : Nat → ClassId} {sa : Nat → Nat} {lo : Nat} {p : Program} {l : Launch} {e : Env} {R : Room} {s : State} {m : MethodId} {args : Array Value} {below : List Frame} {meth : Method} {c : Code} {cc : ByteArray} {nL : Nat} {own : String} {A : Nat → Prop} {H : Heap} {locs : List Loc} {cells slots : Nat} {Q9 : State → Prop} {ls : Array Slot} {pc : Nat} {rest : List Value}
theorem rq_ (C : Cx D ca sa lo p s m c cc nL own A) {Cn : String} (hrt : meth.sig.returnType = some (.object Cn)) (hlocks : meth.locks = false) {ws : va_W} {v : Value} {r : Option Nat} (hv : v = va_rf r) (hP : va_P D cls ws H) (hS : va_S A s.heap H locs) (hdg : decode cc pc = .ok (.areturn, 1)) : W p l e R s m args below meth c H locs cells slots (MQ below (QQ D r ws A) args s cells slots A) (F0 m pc ls [v]) := by
  subst hv
  exact W.aret C.1 C.2.1 hrt (Or.inl ⟨_, rfl⟩) (va_rf_or r) (fun t ht hW => ⟨⟨r, (), rfl, rfl, by subst ht; exact hP⟩, hS.F ht⟩) hS.2.2 hdg hlocks
/-- a static call over the cells wc -/
theorem run_S {y : MethodName} {bytes : ByteArray} {maxL mc ms n index : Nat} {ret : Option FieldType} {rm : Room} {As : List Value} {Qc : Array Value → State → Outcome → State → Prop} {free : Addr → Prop} {wc : va_W} {st : List Value}
    (C : Cx D ca sa lo p s m c cc nL own A) (hM : Met l y [.code y bytes maxL ret] rm (PX D ca sa lo H.size As wc) Qc mc ms free) (hco : ∀ (U : State) (A9 : Array Value), kw U → (Cond.code y bytes maxL ret).before A9 U = true)
    (hini : (Cond.initialized y.cls).before args s = true) (hli : (Cond.methodLink own index y).before args s = true) (hst : (Cond.static y).before args s = true)
    (hd : y.cls ≠ "java/lang/invoke/MethodHandle" ∧ y.cls ≠ "java/lang/invoke/VarHandle" ∧ (parseMethodDescriptor y.desc).map (fun d => d.parameters.length) = some n) (hR : (rm.cells = mc ∧ rm.slots = ms) ∧ rm.frames + 1 ≤ R.frames ∧ 8 + (maxL + 11) + rm.locals ≤ R.locals)
    (hP : va_P D cls wc H) (hD : va_D A wc) (hS : va_S A s.heap H locs)
    (hn : As.length = n) (hsize : ls.size = nL) (hstack : st = As.reverse ++ rest) (hW : (rest.map fun v => v.category).sum ≤ 8) (hdg : decode cc pc = .ok (.invokestatic index, 3)) (hf : cells + mc ≤ R.cells ∧ slots + ms ≤ R.slots) :
    va_Run p l e R s m args below meth c H locs cells slots mc ms (F0 m pc ls st) rest (Qc As.toArray) free := by
  obtain ⟨hx, hb, hml, hown, hk, hz⟩ := id C
  refine va_runS (Ts := []) (cc := cc) (nL := nL) (own := own) ⟨hx, hb, hml, hown, fun w h => nomatch h⟩ hM
    ⟨⟨hR.1.1, hR.1.2, hR.2.1, hR.2.2, fun w hw a' U hW => by cases List.mem_singleton.mp hw; exact hco U a' (hk.1.warm hW), List.mem_singleton.mpr rfl, hco s args hk.1, hini, ⟨hd.1, hd.2.1⟩, fun sig h => by
      have h2 := hd.2.2
      rw [h] at h2
      exact (Option.some.inj h2).symm, hli⟩, hst⟩
    ⟨PX.blind, fun U hU hW => PX.of C hP hD hS hU hW⟩ rfl hn hsize hstack (lv_room hW) hdg hf
theorem va_D.nil : va_D A [] := ⟨fun i j p q h => by simp at h, fun k q h => by simp at h⟩
theorem va_P.nil : va_P D cls [] H := fun k q h => by simp at h
/-- a static call of one that only looks at its numbers: all cells stay -/
theorem k_num {y : MethodName} {bytes : ByteArray} {maxL n index : Nat} {ret : Option FieldType} {rm : Room} {As : List Value} {ws : va_W} {st : List Value} {r : Int32}
    (C : Cx D ca sa lo p s m c cc nL own A) (hM : ∀ sz, Met l y [.code y bytes maxL ret] rm (PX D ca sa lo sz As []) (QI D r [] (va_A [] sz)) 0 0 (va_A [] sz)) (hco : ∀ (U : State) (A9 : Array Value), kw U → (Cond.code y bytes maxL ret).before A9 U = true)
    (hini : (Cond.initialized y.cls).before args s = true) (hli : (Cond.methodLink own index y).before args s = true) (hst : (Cond.static y).before args s = true)
    (hd : y.cls ≠ "java/lang/invoke/MethodHandle" ∧ y.cls ≠ "java/lang/invoke/VarHandle" ∧ (parseMethodDescriptor y.desc).map (fun d => d.parameters.length) = some n) (hR : (rm.cells = 0 ∧ rm.slots = 0) ∧ rm.frames + 1 ≤ R.frames ∧ 8 + (maxL + 11) + rm.locals ≤ R.locals)
    (hP : va_P D cls ws H) (hS : va_S A s.heap H locs)
    (hn : As.length = n) (hsize : ls.size = nL) (hstack : st = As.reverse ++ rest) (hW : (rest.map fun v => v.category).sum ≤ 8) (hdg : decode cc pc = .ok (.invokestatic index, 3)) (hf : cells ≤ R.cells ∧ slots ≤ R.slots)
    (kk : ∀ (H1 : Heap) (locs1 : List Loc), va_P D cls ws H1 → va_S A s.heap H1 locs1 → (∀ q, q < H.size → H1[q]? = H[q]?) → H.size ≤ H1.size → W p l e R s m args below meth c H1 locs1 cells slots Q9 (F0 m (pc + 3) ls (.int r :: rest))) :
    W p l e R s m args below meth c H locs cells slots Q9 (F0 m pc ls st) := by
  have hfr := fr_of (wc := []) C va_D.nil hS
  refine va_calli (run_S (rest := rest) C (hM H.size) hco hini hli hst hd hR va_P.nil va_D.nil hS hn hsize hstack hW hdg hf) hS (fun q _ h => hfr q h) hfr (fun r9 u t H1 locs1 ht1 hvm hp hB hz1 hk1 hS1 => ?_)
  cases hp
  have hkk : ∀ q, q < H.size → H1[q]? = H[q]? := fun q hq => hk1 q hq (by rintro (⟨k, e9, h⟩ | h); · simp at h
                                                                          · omega)
  exact kk _ _ (hP.kept (fun k q hk => hkk q.1 (hP k q hk).lt)) hS1 hkk hz1
end PC
end
section
theorem rng_f1 {a b x : Int32} (h : x < a) : (0 : Int32) = bi (rng a b x) := by unfold rng; rw [decide_eq_false (Int32.not_le.mpr h)]; rfl
theorem rng_f2 {a b x : Int32} (h1 : ¬ x < a) (h : b < x) : (0 : Int32) = bi (rng a b x) := by unfold rng; rw [decide_eq_true (Int32.not_lt.mp h1), decide_eq_false (Int32.not_le.mpr h)]; rfl
theorem rng_t {a b x : Int32} (h1 : ¬ x < a) (h2 : ¬ b < x) : (1 : Int32) = bi (rng a b x) := by unfold rng; rw [decide_eq_true (Int32.not_lt.mp h1), decide_eq_true (Int32.not_lt.mp h2)]; rfl

set_option maxHeartbeats 4000000 in
set_option maxRecDepth 100000 in
theorem m_isKind (l : Launch) (D : va_G) (ca : Nat → ClassId) (sa : Nat → Nat) (lo : Nat) (x : Int32) (sz : Nat) : Met l yX9_isKind [.code yX9_isKind cX9_isKind 1 (some .boolean)] ({ frames := 0, cells := 0, slots := 0, locals := 0 }) (PX D ca sa lo sz [.int x] []) (QI D (bi (rng 0 7 x)) [] (va_A [] sz)) 0 0 (va_A [] sz) := by
  refine mk_met (fun A => QI D (bi (rng 0 7 x)) [] A) (by decide) (Nat.le_of_ble_eq_true rfl) ?_
  intro p e s m below meth c A ls C hrt hlocks hnm hsz hP hD hS hl
  obtain ⟨hx, hb, hml, hown, hk, hz, hlo, hA, hAl⟩ := id C
  have hK : va_K D cls (tyl ca) s := hk.2.1
  have hl : lv_has ls 1 [(0, .int x)] := hl
  refine lv_iload_n hx hb dX9_isKind_0 rfl (lv_at hl 0 rfl) ?_
  refine lv_if_lt (tgt := 14) hx hb dX9_isKind_1 (by decide) (fun c_1 => ?_) (fun c_1 => ?_)
  · refine lv_iconst (v := 0) hx hb dX9_isKind_14 (by decide) ?_
    exact rz C hrt hlocks (rng_f1 c_1) hP hS dX9_isKind_15
  · refine lv_iload_n hx hb dX9_isKind_4 rfl (lv_at hl 0 rfl) ?_
    refine lv_bipush (v := 7) hx hb dX9_isKind_5 (by decide) ?_
    refine lv_icmp_gt (tgt := 14) hx hb dX9_isKind_7 (by decide) (fun c_2 => ?_) (fun c_2 => ?_)
    · refine lv_iconst (v := 0) hx hb dX9_isKind_14 (by decide) ?_
      exact rz C hrt hlocks (rng_f2 c_1 c_2) hP hS dX9_isKind_15
    · refine lv_iconst (v := 1) hx hb dX9_isKind_10 (by decide) ?_
      refine lv_goto (tgt := 15) hx hb dX9_isKind_11 (by decide) ?_
      exact rz C hrt hlocks (rng_t c_1 c_2) hP hS dX9_isKind_15

set_option maxHeartbeats 4000000 in
set_option maxRecDepth 100000 in
theorem m_isZone (l : Launch) (D : va_G) (ca : Nat → ClassId) (sa : Nat → Nat) (lo : Nat) (x : Int32) (sz : Nat) : Met l yX9_isZone [.code yX9_isZone cX9_isZone 1 (some .boolean)] ({ frames := 0, cells := 0, slots := 0, locals := 0 }) (PX D ca sa lo sz [.int x] []) (QI D (bi (rng 0 5 x)) [] (va_A [] sz)) 0 0 (va_A [] sz) := by
  refine mk_met (fun A => QI D (bi (rng 0 5 x)) [] A) (by decide) (Nat.le_of_ble_eq_true rfl) ?_
  intro p e s m below meth c A ls C hrt hlocks hnm hsz hP hD hS hl
  obtain ⟨hx, hb, hml, hown, hk, hz, hlo, hA, hAl⟩ := id C
  have hK : va_K D cls (tyl ca) s := hk.2.1
  have hl : lv_has ls 1 [(0, .int x)] := hl
  refine lv_iload_n hx hb dX9_isZone_0 rfl (lv_at hl 0 rfl) ?_
  refine lv_if_lt (tgt := 13) hx hb dX9_isZone_1 (by decide) (fun c_1 => ?_) (fun c_1 => ?_)
  · refine lv_iconst (v := 0) hx hb dX9_isZone_13 (by decide) ?_
    exact rz C hrt hlocks (rng_f1 c_1) hP hS dX9_isZone_14
  · refine lv_iload_n hx hb dX9_isZone_4 rfl (lv_at hl 0 rfl) ?_
    refine lv_iconst (v := 5) hx hb dX9_isZone_5 (by decide) ?_
    refine lv_icmp_gt (tgt := 13) hx hb dX9_isZone_6 (by decide) (fun c_2 => ?_) (fun c_2 => ?_)
    · refine lv_iconst (v := 0) hx hb dX9_isZone_13 (by decide) ?_
      exact rz C hrt hlocks (rng_f2 c_1 c_2) hP hS dX9_isZone_14
    · refine lv_iconst (v := 1) hx hb dX9_isZone_9 (by decide) ?_
      refine lv_goto (tgt := 14) hx hb dX9_isZone_10 (by decide) ?_
      exact rz C hrt hlocks (rng_t c_1 c_2) hP hS dX9_isZone_14

set_option maxHeartbeats 4000000 in
set_option maxRecDepth 100000 in
theorem m_isNear (l : Launch) (D : va_G) (ca : Nat → ClassId) (sa : Nat → Nat) (lo : Nat) (x : Int32) (sz : Nat) : Met l yX9_isNear [.code yX9_isNear cX9_isNear 1 (some .boolean)] ({ frames := 0, cells := 0, slots := 0, locals := 0 }) (PX D ca sa lo sz [.int x] []) (QI D (bi (rng (-10000) 10000 x)) [] (va_A [] sz)) 0 0 (va_A [] sz) := by
  refine mk_met (fun A => QI D (bi (rng (-10000) 10000 x)) [] A) (by decide) (Nat.le_of_ble_eq_true rfl) ?_
  intro p e s m below meth c A ls C hrt hlocks hnm hsz hP hD hS hl
  obtain ⟨hx, hb, hml, hown, hk, hz, hlo, hA, hAl⟩ := id C
  have hK : va_K D cls (tyl ca) s := hk.2.1
  have hl : lv_has ls 1 [(0, .int x)] := hl
  refine lv_iload_n hx hb dX9_isNear_0 rfl (lv_at hl 0 rfl) ?_
  refine lv_sipush (v := (-10000)) hx hb dX9_isNear_1 (by decide) ?_
  refine lv_icmp_lt (tgt := 18) hx hb dX9_isNear_4 (by decide) (fun c_1 => ?_) (fun c_1 => ?_)
  · refine lv_iconst (v := 0) hx hb dX9_isNear_18 (by decide) ?_
    exact rz C hrt hlocks (rng_f1 c_1) hP hS dX9_isNear_19
  · refine lv_iload_n hx hb dX9_isNear_7 rfl (lv_at hl 0 rfl) ?_
    refine lv_sipush (v := 10000) hx hb dX9_isNear_8 (by decide) ?_
    refine lv_icmp_gt (tgt := 18) hx hb dX9_isNear_11 (by decide) (fun c_2 => ?_) (fun c_2 => ?_)
    · refine lv_iconst (v := 0) hx hb dX9_isNear_18 (by decide) ?_
      exact rz C hrt hlocks (rng_f2 c_1 c_2) hP hS dX9_isNear_19
    · refine lv_iconst (v := 1) hx hb dX9_isNear_14 (by decide) ?_
      refine lv_goto (tgt := 19) hx hb dX9_isNear_15 (by decide) ?_
      exact rz C hrt hlocks (rng_t c_1 c_2) hP hS dX9_isNear_19

set_option maxHeartbeats 4000000 in
set_option maxRecDepth 100000 in
theorem m_isCharge (l : Launch) (D : va_G) (ca : Nat → ClassId) (sa : Nat → Nat) (lo : Nat) (x : Int32) (sz : Nat) : Met l yX9_isCharge [.code yX9_isCharge cX9_isCharge 1 (some .boolean)] ({ frames := 0, cells := 0, slots := 0, locals := 0 }) (PX D ca sa lo sz [.int x] []) (QI D (bi (rng 0 100 x)) [] (va_A [] sz)) 0 0 (va_A [] sz) := by
  refine mk_met (fun A => QI D (bi (rng 0 100 x)) [] A) (by decide) (Nat.le_of_ble_eq_true rfl) ?_
  intro p e s m below meth c A ls C hrt hlocks hnm hsz hP hD hS hl
  obtain ⟨hx, hb, hml, hown, hk, hz, hlo, hA, hAl⟩ := id C
  have hK : va_K D cls (tyl ca) s := hk.2.1
  have hl : lv_has ls 1 [(0, .int x)] := hl
  refine lv_iload_n hx hb dX9_isCharge_0 rfl (lv_at hl 0 rfl) ?_
  refine lv_if_lt (tgt := 14) hx hb dX9_isCharge_1 (by decide) (fun c_1 => ?_) (fun c_1 => ?_)
  · refine lv_iconst (v := 0) hx hb dX9_isCharge_14 (by decide) ?_
    exact rz C hrt hlocks (rng_f1 c_1) hP hS dX9_isCharge_15
  · refine lv_iload_n hx hb dX9_isCharge_4 rfl (lv_at hl 0 rfl) ?_
    refine lv_bipush (v := 100) hx hb dX9_isCharge_5 (by decide) ?_
    refine lv_icmp_gt (tgt := 14) hx hb dX9_isCharge_7 (by decide) (fun c_2 => ?_) (fun c_2 => ?_)
    · refine lv_iconst (v := 0) hx hb dX9_isCharge_14 (by decide) ?_
      exact rz C hrt hlocks (rng_f2 c_1 c_2) hP hS dX9_isCharge_15
    · refine lv_iconst (v := 1) hx hb dX9_isCharge_10 (by decide) ?_
      refine lv_goto (tgt := 15) hx hb dX9_isCharge_11 (by decide) ?_
      exact rz C hrt hlocks (rng_t c_1 c_2) hP hS dX9_isCharge_15

set_option maxHeartbeats 4000000 in
set_option maxRecDepth 100000 in
theorem m_find (l : Launch) (D : va_G) (ca : Nat → ClassId) (sa : Nat → Nat) (lo : Nat) (x0 da ht hr : Nat) (L : List Nat) (Q : List Pd) (t : Tr) (hok : okP L Q) (x : Int32) (sz : Nat) : Met l yX9_find [.code yX9_find cX9_find 2 (some (.object "AlarmKinds$Plain"))] ({ frames := 0, cells := 0, slots := 0, locals := 0 }) (PX D ca sa lo sz [.ref x0, .int x] (wx ca x0 da ht hr L Q t)) (QQ D ((ix Q x).bind (fun i => L[i]?)) (wx ca x0 da ht hr L Q t) (va_A (wx ca x0 da ht hr L Q t) sz)) 0 0 (va_A (wx ca x0 da ht hr L Q t) sz) := by
  refine mk_met (fun A => QQ D ((ix Q x).bind (fun i => L[i]?)) (wx ca x0 da ht hr L Q t) A) (by decide) (Nat.le_of_ble_eq_true rfl) ?_
  intro p e s m below meth c A ls C hrt hlocks hnm hsz hP hD hS hl
  obtain ⟨hx, hb, hml, hown, hk, hz, hlo, hA, hAl⟩ := id C
  have hK : va_K D cls (tyl ca) s := hk.2.1
  have hl : lv_has ls 2 [(0, .ref x0), (1, .int x)] := hl
  refine lv_iload_n hx hb dX9_find_0 rfl (lv_at hl 1 rfl) ?_
  refine lv_if_lt (tgt := 21) hx hb dX9_find_1 (by decide) (fun c_1 => ?_) (fun c_1 => ?_)
  · refine lv_null hx hb dX9_find_21 ?_
    exact rq_ C hrt hlocks (show Value.null = va_rf ((ix Q x).bind (fun i => L[i]?)) by rw [ix, if_pos (Or.inl c_1)]; rfl) hP hS dX9_find_22
  · refine lv_iload_n hx hb dX9_find_4 rfl (lv_at hl 1 rfl) ?_
    refine lv_aload_n hx hb dX9_find_5 rfl (lv_at hl 0 rfl) ?_
    refine va_get (D := D) (C := RX9) (T := TX9) (N := 3) hx hb (uc_9 hk.1 _) (fun _ h9 => h9) hown hK hP 0 rfl rfl 2 (by decide) (fl_X9_22 hk.1 _) (fun _ h9 => h9) rfl dX9_find_6 ?_
    refine lv_icmp_ge (tgt := 21) hx hb dX9_find_9 (by decide) (fun c_2 => ?_) (fun c_2 => ?_)
    · refine lv_null hx hb dX9_find_21 ?_
      exact rq_ C hrt hlocks (show Value.null = va_rf ((ix Q x).bind (fun i => L[i]?)) by rw [ix, if_pos (Or.inr (by rw [← hok.1]; exact c_2))]; rfl) hP hS dX9_find_22
    · have hi : ¬ (x < 0 ∨ nI Q.length ≤ x) := fun h => h.elim c_1 (by rw [← hok.1]; exact c_2)
      have hix : ix Q x = some x.toNatClampNeg := if_neg hi
      obtain ⟨hj, hxj⟩ := ix_some hok.2.1 hix
      have hin : vp_in x 20 := by rw [hxj]; exact vp_in_nI (by have := hok.2.1; omega) (by decide)
      refine lv_iload_n hx hb dX9_find_12 rfl (lv_at hl 1 rfl) ?_
      refine lv_aload_n hx hb dX9_find_13 rfl (lv_at hl 0 rfl) ?_
      refine va_get (D := D) (C := RX9) (T := TX9) (N := 3) hx hb (uc_9 hk.1 _) (fun _ h9 => h9) hown hK hP 0 rfl rfl 0 (by decide) (fl_X9_11 hk.1 _) (fun _ h9 => h9) rfl dX9_find_14 ?_
      refine va_alen hx hb hK hP 1 1 rfl rfl (v := 20) rfl dX9_find_17 ?_
      refine lv_icmp_lt (tgt := 23) hx hb dX9_find_18 (by decide) (fun _ => ?_) (fun c_3 => absurd ((show x < 20 by rw [hxj]; exact nI_lt (b := 20) (by have := hok.2.1; omega) (by decide))) c_3)
      refine lv_aload_n hx hb dX9_find_23 rfl (lv_at hl 0 rfl) ?_
      refine va_get (D := D) (C := RX9) (T := TX9) (N := 3) hx hb (uc_9 hk.1 _) (fun _ h9 => h9) hown hK hP 0 rfl rfl 0 (by decide) (fl_X9_11 hk.1 _) (fun _ h9 => h9) rfl dX9_find_24 ?_
      refine lv_iload_n hx hb dX9_find_27 rfl (lv_at hl 1 rfl) ?_
      refine va_aldq hx hb hK hP 1 1 rfl rfl hin dX9_find_28 ?_
      exact rq_ C hrt hlocks (show va_rf (L[x.toNatClampNeg]?) = va_rf ((ix Q x).bind (fun i => L[i]?)) by rw [hix]; rfl) hP hS dX9_find_29

section KFI
variable {D : va_G} {ca : Nat → ClassId} {sa : Nat → Nat} {lo : Nat} {p : Program} {l : Launch} {e : Env} {R : Room} {s : State} {m : MethodId} {args : Array Value} {below : List Frame} {meth : Method} {c : Code} {cc : ByteArray} {nL : Nat} {A : Nat → Prop} {H : Heap} {locs : List Loc} {cells slots : Nat} {Q9 : State → Prop} {ls : Array Slot} {pc : Nat} {rest : List Value}
variable {x0 da ht hr : Nat} {L : List Nat} {Q : List Pd} {t : Tr} {x zn : Int32}
theorem at_of {i : Nat} (hok : okP L Q) (hi : i < Q.length) : ∃ a pd, L[i]? = some a ∧ Q[i]? = some pd ∧ pd.1 < 8 := by
  have h1 : i < L.length := by rw [hok.1]; exact hi
  exact ⟨L[i], Q[i], List.getElem?_eq_getElem h1, List.getElem?_eq_getElem hi, hok.2.2 _ (List.getElem_mem hi)⟩
theorem k_find (hok : okP L Q) (C : Cx D ca sa lo p s m c cc nL RX9 A) (hP : va_P D cls (wx ca x0 da ht hr L Q t) H) (hD : va_D A (wx ca x0 da ht hr L Q t)) (hS : va_S A s.heap H locs) (hsize : ls.size = nL) (hR : 1 ≤ R.frames ∧ 21 ≤ R.locals) (hW : (rest.map fun v => v.category).sum ≤ 8) (hdg : decode cc pc = .ok (.invokevirtual 43, 3)) (hf : cells ≤ R.cells ∧ slots ≤ R.slots)
    (kn : ix Q x = none → ∀ (H1 : Heap) (locs1 : List Loc), va_P D cls (wx ca x0 da ht hr L Q t) H1 → va_S A s.heap H1 locs1 → W p l e R s m args below meth c H1 locs1 cells slots Q9 (F0 m (pc + 3) ls (.null :: rest)))
    (ks : ∀ (i a : Nat) (pd : Pd), ix Q x = some i → i < Q.length → x = nI i → L[i]? = some a → Q[i]? = some pd → pd.1 < 8 → ∀ (H1 : Heap) (locs1 : List Loc), va_P D cls (wx ca x0 da ht hr L Q t) H1 → va_S A s.heap H1 locs1 → W p l e R s m args below meth c H1 locs1 cells slots Q9 (F0 m (pc + 3) ls (.ref a :: rest))) :
    W p l e R s m args below meth c H locs cells slots Q9 (F0 m pc ls (.int x :: .ref x0 :: rest)) := by
  have hk := C.2.2.2.2.1
  have hfr := fr_of C hD hS
  refine va_callq (run_V (Cn := RX9) (T := TX9) (N := 3) (q0 := 0) (ci := 9) (n := 1) (As := [.int x]) (rest := rest) C (m_find l D ca sa lo x0 da ht hr L Q t hok x H.size) (fun U A9 h => co_X9_find h A9) (in_X9 hk.1 _) (ml_X9_43 hk.1 _) (im_X9_find hk.1 _) (se_X9_X9_find hk.1 _) (by decide +kernel) ⟨⟨rfl, rfl⟩, hR.1, hR.2⟩ hP hD hS rfl rfl rfl hsize rfl hW hdg hf) hS (fun q _ h => hfr q h) hfr (fun r u t1 H1 locs1 ht1 hvm hp hB hz1 hk1 hS1 => ?_)
  subst ht1
  cases h : ix Q x with
  | none =>
    rw [h] at hp
    cases hp
    exact kn h _ _ hB hS1
  | some i =>
    obtain ⟨hj, hxj⟩ := ix_some hok.2.1 h
    obtain ⟨a, pd, h1, h2, h3⟩ := at_of hok hj
    rw [h] at hp
    have hp : r = L[i]? := hp
    rw [h1] at hp
    subst hp
    exact ks i a pd h hj hxj h1 h2 h3 _ _ hB hS1
end KFI
end
section
/-! what each call of the panel answers and leaves -/
def gQ (Q : List Pd) (i : Nat) : Pd := Q.getD i (0, 0, 0, 0, 0, 0, 0, false)
theorem gQ_of {Q : List Pd} {i : Nat} {pd : Pd} (h : Q[i]? = some pd) : gQ Q i = pd := by unfold gQ; rw [List.getD_eq_getElem?_getD, h]; rfl
def sQ (Q : List Pd) (i : Nat) (d : Dv) : List Pd := Q.set i ((gQ Q i).1, (gQ Q i).2.1, (gQ Q i).2.2.1, d)
theorem sQ_of {Q : List Pd} {i : Nat} {pd : Pd} (h : Q[i]? = some pd) (d : Dv) : sQ Q i d = Q.set i (pd.1, pd.2.1, pd.2.2.1, d) := by unfold sQ; rw [gQ_of h]
abbrev Rz : Type := Nat × Int32 × List Pd × Tr
def zW (Q : List Pd) (t : Tr) (x v : Int32) : Rz := match ix Q x with
  | none => (0, -101, Q, t)
  | some i => if rng (-10000) 10000 v = true then ((pw (gQ Q i).1 v (gQ Q i).2.2.2 t).1, (pw (gQ Q i).1 v (gQ Q i).2.2.2 t).2.1, sQ Q i (pw (gQ Q i).1 v (gQ Q i).2.2.2 t).2.2.1, (pw (gQ Q i).1 v (gQ Q i).2.2.2 t).2.2.2) else (0, -102, Q, t)
def zR (Q : List Pd) (t : Tr) (x v : Int32) : Rz := match ix Q x with
  | none => (0, -101, Q, t)
  | some i => if rng (-10000) 10000 v = true then ((pr (gQ Q i).1 v (gQ Q i).2.2.2 t).1, (pr (gQ Q i).1 v (gQ Q i).2.2.2 t).2.1.2.1, sQ Q i (pr (gQ Q i).1 v (gQ Q i).2.2.2 t).2.1, (pr (gQ Q i).1 v (gQ Q i).2.2.2 t).2.2) else (0, -102, Q, t)
abbrev Ry : Type := Int32 × List Pd × Tr
def zO (Q : List Pd) (t : Tr) (x : Int32) : Ry := match ix Q x with
  | none => (-101, Q, t)
  | some i => (bi (po (gQ Q i).1 (gQ Q i).2.2.1 (gQ Q i).2.2.2 t).1, sQ Q i (po (gQ Q i).1 (gQ Q i).2.2.1 (gQ Q i).2.2.2 t).2.1, (po (gQ Q i).1 (gQ Q i).2.2.1 (gQ Q i).2.2.2 t).2.2)
def zC (Q : List Pd) (t : Tr) (x : Int32) : Ry := match ix Q x with
  | none => (-101, Q, t)
  | some i => (1, sQ Q i (pcl (gQ Q i).1 (gQ Q i).2.2.2 t).1, (pcl (gQ Q i).1 (gQ Q i).2.2.2 t).2)
def zK (Q : List Pd) (t : Tr) (x : Int32) : Ry := match ix Q x with
  | none => (-101, Q, t)
  | some i => ((pk (gQ Q i).1 (gQ Q i).2.2.2 t).1, Q, (pk (gQ Q i).1 (gQ Q i).2.2.2 t).2)
def tel (pd : Pd) (w : Int32) : Int32 := if w = 0 then nI pd.1 else if w = 1 then pd.2.1 else if w = 2 then pd.2.2.1 else if w = 3 then pd.2.2.2.1 else if w = 4 then pd.2.2.2.2.1 else if w = 5 then pd.2.2.2.2.2.1 else if w = 6 then pd.2.2.2.2.2.2.1 else if w = 7 then bi pd.2.2.2.2.2.2.2 else -102
def zT (Q : List Pd) (x w : Int32) : Int32 := match ix Q x with
  | none => -101
  | some i => tel (gQ Q i) w
def QZ (D : va_G) (ws : va_W) (n : Nat) (v : Int32) (A : Nat → Prop) : Array Value → State → Outcome → State → Prop := va_Qi (S := Unit) (fun v' _ => n = 0 ∧ v' = v) (fun _ t => va_P D cls ws t.heap) A
def XZ (D : va_G) (ws : va_W) (n : Nat) (A : Nat → Prop) : String → State → State → Prop := vx_X (S := Unit) (fun _ => True) (fun E _ t => en n E ∧ va_P D cls ws t.heap) A
theorem isD_kc {n : Nat} (h : n < 8) : ∃ Cn, isD (kc n) Cn := by
  rcases k8 h with rfl | rfl | rfl | rfl | rfl | rfl | rfl | rfl
  · exact ⟨_, isD_3⟩
  · exact ⟨_, isD_8⟩
  · exact ⟨_, isD_4⟩
  · exact ⟨_, isD_5⟩
  · exact ⟨_, isD_2⟩
  · exact ⟨_, isD_0⟩
  · exact ⟨_, isD_1⟩
  · exact ⟨_, isD_7⟩
section RZ
variable {D : va_G} {ca : Nat → ClassId} {sa : Nat → Nat} {lo : Nat} {p : Program} {l : Launch} {e : Env} {R : Room} {s : State} {m : MethodId} {args : Array Value} {below : List Frame} {meth : Method} {c : Code} {cc : ByteArray} {nL : Nat} {own : String} {A : Nat → Prop} {H : Heap} {locs : List Loc} {cells slots mc ms : Nat} {ls : Array Slot} {pc : Nat} {rest : List Value}
theorem rzz (C : Cx D ca sa lo p s m c cc nL own A) (hrt : meth.sig.returnType = some .int) (hlocks : meth.locks = false) {ws : va_W} {n : Nat} {v v' : Int32} {XC : String → State → State → Prop} (h0 : n = 0) (hv : v' = v) (hP : va_P D cls ws H) (hS : va_S A s.heap H locs) (hdg : decode cc pc = .ok (.ireturn, 1)) (h1 : cells ≤ mc) (h2 : slots ≤ ms) : W p l e R s m args below meth c H locs cells slots (vx_MQ below (QZ D ws n v A) XC args s mc ms A) (F0 m pc ls [.int v']) :=
  W.widen h1 h2 (vx_ret (W.iret C.1 C.2.1 hrt (fun t ht hW => ⟨⟨v', (), rfl, ⟨h0, hv⟩, by subst ht; exact hP⟩, hS.F ht⟩) hS.2.2 hdg hlocks))
theorem ozz {ws : va_W} {n : Nat} {E : String} {ce : Cell} {q : Addr} {Qc : Array Value → State → Outcome → State → Prop} (hno : ∀ x ∈ c.exceptionTable.toList, False) (hlocks : meth.locks = false) (he : en n E) (hP : va_P D cls ws H) (hS : va_S A s.heap H locs) (hcell : H[q]? = some ce) (hv : ce.vm = .none) (hcl : s.vm.findClass E = some ce.cls) (h1 : cells ≤ mc) (h2 : slots ≤ ms) : vx_W p l e R s m args below meth c H locs cells slots (vx_MQ below Qc (XZ D ws n A) args s mc ms A) (F0 m pc ls rest) q :=
  vx_out (fun x hx => (hno x hx).elim) hlocks hcell hv hcl (fun t ht _ => ⟨(), trivial, ⟨he, by subst ht; exact hP⟩, hS.F ht⟩) hS.2.2 h1 h2
end RZ
end
section
set_option maxHeartbeats 4000000 in
set_option maxRecDepth 100000 in
theorem M_over (l : Launch) (D : va_G) (ca : Nat → ClassId) (sa : Nat → Nat) (lo : Nat) (x0 da ht hr : Nat) (L : List Nat) (Q : List Pd) (t : Tr) (hok : okP L Q) (x : Int32) (sz : Nat) : Met l yX9_over [.code yX9_over cX9_over 3 (some .int)] ({ frames := 3, cells := 0, slots := 0, locals := 90 }) (PX D ca sa lo sz [.ref x0, .int x] (wx ca x0 da ht hr L Q t)) (QI D (zO Q t x).1 (wx ca x0 da ht hr L (zO Q t x).2.1 (zO Q t x).2.2) (va_A (wx ca x0 da ht hr L Q t) sz)) 0 0 (va_A (wx ca x0 da ht hr L Q t) sz) := by
  generalize hr9 : zO Q t x = r
  refine mk_met (fun A => QI D r.1 (wx ca x0 da ht hr L r.2.1 r.2.2) A) (by decide) (Nat.le_of_ble_eq_true rfl) ?_
  intro p e s m below meth c A ls C hrt hlocks hnm hsz hP hD hS hl
  obtain ⟨hx, hb, hml, hown, hk, hz, hlo, hA, hAl⟩ := id C
  have hK : va_K D cls (tyl ca) s := hk.2.1
  have hl : lv_has ls 3 [(0, .ref x0), (1, .int x)] := hl
  refine lv_aload_n hx hb dX9_over_0 rfl (lv_at hl 0 rfl) ?_
  refine lv_iload_n hx hb dX9_over_1 rfl (lv_at hl 1 rfl) ?_
  refine k_find hok C hP hD hS hl.1 ⟨by decide, by decide⟩ (Nat.le_of_ble_eq_true rfl) dX9_over_2 ⟨by decide, by decide⟩ (fun hi H locs hP hS => ?_) (fun i a pd hi hj hxj hL hQ hp H locs hP hS => ?_)
  · have hr9 : r = (-101, Q, t) := by rw [← hr9]; simp only [zO, hi]
    subst hr9
    refine lv_astore_nN (lv' := [(2, .null), (0, .ref x0), (1, .int x)]) hx hb dX9_over_5 rfl hl (by decide) rfl (fun ls hl => ?_)
    refine lv_aload_nN hx hb dX9_over_6 rfl (lv_at hl 0 rfl) ?_
    refine lv_ifnonnullN hx hb dX9_over_7 ?_
    refine lv_bipush (v := (-101)) hx hb dX9_over_10 (by decide) ?_
    exact ri C hrt hlocks rfl hP hS dX9_over_12
  · have hr9 : r = (bi (po pd.1 pd.2.2.1 pd.2.2.2 t).1, Q.set i (pd.1, pd.2.1, pd.2.2.1, (po pd.1 pd.2.2.1 pd.2.2.2 t).2.1), (po pd.1 pd.2.2.1 pd.2.2.2 t).2.2) := by rw [← hr9]; simp only [zO, hi, sQ_of hQ, gQ_of hQ]
    subst hr9
    refine lv_astore_n (lv' := [(2, .ref a), (0, .ref x0), (1, .int x)]) hx hb dX9_over_5 rfl hl (by decide) rfl (fun ls hl => ?_)
    refine lv_aload_n hx hb dX9_over_6 rfl (lv_at hl 0 rfl) ?_
    refine lv_ifnonnull (tgt := 13) hx hb dX9_over_7 (by decide) ?_
    refine lv_aload_n hx hb dX9_over_13 rfl (lv_at hl 0 rfl) ?_
    refine vf_o (kd := pd.1) (K := nI pd.1) (zn := pd.2.1) (lm := pd.2.2.1) (d := pd.2.2.2) (t := t) (h0 := a) (k8 hp) C (ml_X9_58 hk.1 _) (px_cut hP hL hQ) (dx_cut hD hL hQ) hS hl.1 (Nat.le_of_ble_eq_true rfl) dX9_over_14 ⟨by decide, by decide, by decide, by decide⟩ (fun H locs hB hD1 hS hf1 => ?_)
    have hP : va_P D cls (wx ca x0 da ht hr L (Q.set i (pd.1, pd.2.1, pd.2.2.1, (po pd.1 pd.2.2.1 pd.2.2.2 t).2.1)) (po pd.1 pd.2.2.1 pd.2.2.2 t).2.2) H := px_join hP hD hL hQ hf1 hB
    have hD : va_D A (wx ca x0 da ht hr L (Q.set i (pd.1, pd.2.1, pd.2.2.1, (po pd.1 pd.2.2.1 pd.2.2.2 t).2.1)) (po pd.1 pd.2.2.1 pd.2.2.2 t).2.2) := hD.to (wx_map hok.1 List.length_set)
    refine lv_if_eq (tgt := 24) hx hb dX9_over_17 (by decide) (fun c_1 => ?_) (fun c_1 => ?_)
    · refine lv_iconst (v := 0) hx hb dX9_over_24 (by decide) ?_
      exact ri C hrt hlocks (by show _ = bi (po pd.1 pd.2.2.1 pd.2.2.2 t).1; rw [bi_eq0 c_1]; rfl) hP hS dX9_over_25
    · refine lv_iconst (v := 1) hx hb dX9_over_20 (by decide) ?_
      refine lv_goto (tgt := 25) hx hb dX9_over_21 (by decide) ?_
      exact ri C hrt hlocks (by show _ = bi (po pd.1 pd.2.2.1 pd.2.2.2 t).1; rw [bi_ne0 c_1]; rfl) hP hS dX9_over_25

set_option maxHeartbeats 4000000 in
set_option maxRecDepth 100000 in
theorem M_clear (l : Launch) (D : va_G) (ca : Nat → ClassId) (sa : Nat → Nat) (lo : Nat) (x0 da ht hr : Nat) (L : List Nat) (Q : List Pd) (t : Tr) (hok : okP L Q) (x : Int32) (sz : Nat) : Met l yX9_clear [.code yX9_clear cX9_clear 3 (some .int)] ({ frames := 3, cells := 0, slots := 0, locals := 90 }) (PX D ca sa lo sz [.ref x0, .int x] (wx ca x0 da ht hr L Q t)) (QI D (zC Q t x).1 (wx ca x0 da ht hr L (zC Q t x).2.1 (zC Q t x).2.2) (va_A (wx ca x0 da ht hr L Q t) sz)) 0 0 (va_A (wx ca x0 da ht hr L Q t) sz) := by
  generalize hr9 : zC Q t x = r
  refine mk_met (fun A => QI D r.1 (wx ca x0 da ht hr L r.2.1 r.2.2) A) (by decide) (Nat.le_of_ble_eq_true rfl) ?_
  intro p e s m below meth c A ls C hrt hlocks hnm hsz hP hD hS hl
  obtain ⟨hx, hb, hml, hown, hk, hz, hlo, hA, hAl⟩ := id C
  have hK : va_K D cls (tyl ca) s := hk.2.1
  have hl : lv_has ls 3 [(0, .ref x0), (1, .int x)] := hl
  refine lv_aload_n hx hb dX9_clear_0 rfl (lv_at hl 0 rfl) ?_
  refine lv_iload_n hx hb dX9_clear_1 rfl (lv_at hl 1 rfl) ?_
  refine k_find hok C hP hD hS hl.1 ⟨by decide, by decide⟩ (Nat.le_of_ble_eq_true rfl) dX9_clear_2 ⟨by decide, by decide⟩ (fun hi H locs hP hS => ?_) (fun i a pd hi hj hxj hL hQ hp H locs hP hS => ?_)
  · have hr9 : r = (-101, Q, t) := by rw [← hr9]; simp only [zC, hi]
    subst hr9
    refine lv_astore_nN (lv' := [(2, .null), (0, .ref x0), (1, .int x)]) hx hb dX9_clear_5 rfl hl (by decide) rfl (fun ls hl => ?_)
    refine lv_aload_nN hx hb dX9_clear_6 rfl (lv_at hl 0 rfl) ?_
    refine lv_ifnonnullN hx hb dX9_clear_7 ?_
    refine lv_bipush (v := (-101)) hx hb dX9_clear_10 (by decide) ?_
    exact ri C hrt hlocks rfl hP hS dX9_clear_12
  · have hr9 : r = (1, Q.set i (pd.1, pd.2.1, pd.2.2.1, (pcl pd.1 pd.2.2.2 t).1), (pcl pd.1 pd.2.2.2 t).2) := by rw [← hr9]; simp only [zC, hi, sQ_of hQ, gQ_of hQ]
    subst hr9
    refine lv_astore_n (lv' := [(2, .ref a), (0, .ref x0), (1, .int x)]) hx hb dX9_clear_5 rfl hl (by decide) rfl (fun ls hl => ?_)
    refine lv_aload_n hx hb dX9_clear_6 rfl (lv_at hl 0 rfl) ?_
    refine lv_ifnonnull (tgt := 13) hx hb dX9_clear_7 (by decide) ?_
    refine lv_aload_n hx hb dX9_clear_13 rfl (lv_at hl 0 rfl) ?_
    refine vf_c (kd := pd.1) (K := nI pd.1) (zn := pd.2.1) (lm := pd.2.2.1) (d := pd.2.2.2) (t := t) (h0 := a) (k8 hp) C (ml_X9_62 hk.1 _) (px_cut hP hL hQ) (dx_cut hD hL hQ) hS hl.1 (Nat.le_of_ble_eq_true rfl) dX9_clear_14 ⟨by decide, by decide, by decide, by decide⟩ (fun H locs hB hD1 hS hf1 => ?_)
    have hP : va_P D cls (wx ca x0 da ht hr L (Q.set i (pd.1, pd.2.1, pd.2.2.1, (pcl pd.1 pd.2.2.2 t).1)) (pcl pd.1 pd.2.2.2 t).2) H := px_join hP hD hL hQ hf1 hB
    have hD : va_D A (wx ca x0 da ht hr L (Q.set i (pd.1, pd.2.1, pd.2.2.1, (pcl pd.1 pd.2.2.2 t).1)) (pcl pd.1 pd.2.2.2 t).2) := hD.to (wx_map hok.1 List.length_set)
    refine lv_iconst (v := 1) hx hb dX9_clear_17 (by decide) ?_
    exact ri C hrt hlocks rfl hP hS dX9_clear_18

set_option maxHeartbeats 4000000 in
set_option maxRecDepth 100000 in
theorem M_cost (l : Launch) (D : va_G) (ca : Nat → ClassId) (sa : Nat → Nat) (lo : Nat) (x0 da ht hr : Nat) (L : List Nat) (Q : List Pd) (t : Tr) (hok : okP L Q) (x : Int32) (sz : Nat) : Met l yX9_cost [.code yX9_cost cX9_cost 3 (some .int)] ({ frames := 3, cells := 0, slots := 0, locals := 90 }) (PX D ca sa lo sz [.ref x0, .int x] (wx ca x0 da ht hr L Q t)) (QI D (zK Q t x).1 (wx ca x0 da ht hr L (zK Q t x).2.1 (zK Q t x).2.2) (va_A (wx ca x0 da ht hr L Q t) sz)) 0 0 (va_A (wx ca x0 da ht hr L Q t) sz) := by
  generalize hr9 : zK Q t x = r
  refine mk_met (fun A => QI D r.1 (wx ca x0 da ht hr L r.2.1 r.2.2) A) (by decide) (Nat.le_of_ble_eq_true rfl) ?_
  intro p e s m below meth c A ls C hrt hlocks hnm hsz hP hD hS hl
  obtain ⟨hx, hb, hml, hown, hk, hz, hlo, hA, hAl⟩ := id C
  have hK : va_K D cls (tyl ca) s := hk.2.1
  have hl : lv_has ls 3 [(0, .ref x0), (1, .int x)] := hl
  refine lv_aload_n hx hb dX9_cost_0 rfl (lv_at hl 0 rfl) ?_
  refine lv_iload_n hx hb dX9_cost_1 rfl (lv_at hl 1 rfl) ?_
  refine k_find hok C hP hD hS hl.1 ⟨by decide, by decide⟩ (Nat.le_of_ble_eq_true rfl) dX9_cost_2 ⟨by decide, by decide⟩ (fun hi H locs hP hS => ?_) (fun i a pd hi hj hxj hL hQ hp H locs hP hS => ?_)
  · have hr9 : r = (-101, Q, t) := by rw [← hr9]; simp only [zK, hi]
    subst hr9
    refine lv_astore_nN (lv' := [(2, .null), (0, .ref x0), (1, .int x)]) hx hb dX9_cost_5 rfl hl (by decide) rfl (fun ls hl => ?_)
    refine lv_aload_nN hx hb dX9_cost_6 rfl (lv_at hl 0 rfl) ?_
    refine lv_ifnonnullN hx hb dX9_cost_7 ?_
    refine lv_bipush (v := (-101)) hx hb dX9_cost_10 (by decide) ?_
    exact ri C hrt hlocks rfl hP hS dX9_cost_12
  · have hr9 : r = ((pk pd.1 pd.2.2.2 t).1, Q, (pk pd.1 pd.2.2.2 t).2) := by rw [← hr9]; simp only [zK, hi, sQ_of hQ, gQ_of hQ]
    subst hr9
    refine lv_astore_n (lv' := [(2, .ref a), (0, .ref x0), (1, .int x)]) hx hb dX9_cost_5 rfl hl (by decide) rfl (fun ls hl => ?_)
    refine lv_aload_n hx hb dX9_cost_6 rfl (lv_at hl 0 rfl) ?_
    refine lv_ifnonnull (tgt := 13) hx hb dX9_cost_7 (by decide) ?_
    refine lv_aload_n hx hb dX9_cost_13 rfl (lv_at hl 0 rfl) ?_
    refine vf_k (kd := pd.1) (K := nI pd.1) (zn := pd.2.1) (lm := pd.2.2.1) (d := pd.2.2.2) (t := t) (h0 := a) (k8 hp) C (ml_X9_65 hk.1 _) (px_cut hP hL hQ) (dx_cut hD hL hQ) hS hl.1 (Nat.le_of_ble_eq_true rfl) dX9_cost_14 ⟨by decide, by decide, by decide, by decide⟩ (fun H locs hB hD1 hS hf1 => ?_)
    have hP : va_P D cls (wx ca x0 da ht hr L (Q.set i (pd.1, pd.2.1, pd.2.2.1, pd.2.2.2)) (pk pd.1 pd.2.2.2 t).2) H := px_join hP hD hL hQ hf1 hB
    have hD : va_D A (wx ca x0 da ht hr L (Q.set i (pd.1, pd.2.1, pd.2.2.1, pd.2.2.2)) (pk pd.1 pd.2.2.2 t).2) := hD.to (wx_map hok.1 List.length_set)
    have e9 : Q.set i (pd.1, pd.2.1, pd.2.2.1, pd.2.2.2) = Q := by
      obtain ⟨h1, h2⟩ := List.getElem?_eq_some_iff.mp hQ
      rw [show (pd.1, pd.2.1, pd.2.2.1, pd.2.2.2) = Q[i] from h2.symm]; exact List.set_getElem_self h1
    rw [e9] at hP
    exact ri C hrt hlocks rfl hP hS dX9_cost_17

set_option maxHeartbeats 4000000 in
set_option maxRecDepth 100000 in
theorem M_weigh (l : Launch) (D : va_G) (ca : Nat → ClassId) (sa : Nat → Nat) (lo : Nat) (hl9 : l.stackTraces = false) (x0 da ht hr : Nat) (L : List Nat) (Q : List Pd) (t : Tr) (hok : okP L Q) (x v : Int32) (sz : Nat) : vx_Met l yX9_weigh [.code yX9_weigh cX9_weigh 4 (some .int)] ({ frames := 8, cells := 2, slots := 12, locals := 150 }) (PX D ca sa lo sz [.ref x0, .int x, .int v] (wx ca x0 da ht hr L Q t)) (QZ D (wx ca x0 da ht hr L (zW Q t x v).2.2.1 (zW Q t x v).2.2.2) (zW Q t x v).1 (zW Q t x v).2.1 (va_A (wx ca x0 da ht hr L Q t) sz)) (XZ D (wx ca x0 da ht hr L (zW Q t x v).2.2.1 (zW Q t x v).2.2.2) (zW Q t x v).1 (va_A (wx ca x0 da ht hr L Q t) sz)) 2 12 (va_A (wx ca x0 da ht hr L Q t) sz) := by
  generalize hr9 : zW Q t x v = r
  refine mk_metX (fun A => QZ D (wx ca x0 da ht hr L r.2.2.1 r.2.2.2) r.1 r.2.1 A) (fun A => XZ D (wx ca x0 da ht hr L r.2.2.1 r.2.2.2) r.1 A) (by decide) (Nat.le_of_ble_eq_true rfl) ?_
  intro p e s m below meth c A ls C hrt hlocks hno hsz hP hD hS hl
  obtain ⟨hx, hb, hml, hown, hk, hz, hlo, hA, hAl⟩ := id C
  have hK : va_K D cls (tyl ca) s := hk.2.1
  have hl : lv_has ls 4 [(0, .ref x0), (1, .int x), (2, .int v)] := hl
  refine lv_aload_n hx hb dX9_weigh_0 rfl (lv_at hl 0 rfl) ?_
  refine lv_iload_n hx hb dX9_weigh_1 rfl (lv_at hl 1 rfl) ?_
  refine k_find hok C hP hD hS hl.1 ⟨by decide, by decide⟩ (Nat.le_of_ble_eq_true rfl) dX9_weigh_2 ⟨by decide, by decide⟩ (fun hi H locs hP hS => ?_) (fun i a pd hi hj hxj hL hQ hp H locs hP hS => ?_)
  · have hr9 : r = (0, -101, Q, t) := by rw [← hr9]; simp only [zW, hi]
    subst hr9
    refine lv_astore_nN (lv' := [(3, .null), (0, .ref x0), (1, .int x), (2, .int v)]) hx hb dX9_weigh_5 rfl hl (by decide) rfl (fun ls hl => ?_)
    refine lv_aload_nN hx hb dX9_weigh_6 rfl (lv_at hl 0 rfl) ?_
    refine lv_ifnonnullN hx hb dX9_weigh_7 ?_
    refine lv_bipush (v := (-101)) hx hb dX9_weigh_10 (by decide) ?_
    exact rzz C hrt hlocks rfl rfl hP hS dX9_weigh_12 (by decide) (by decide)
  · refine lv_astore_n (lv' := [(3, .ref a), (0, .ref x0), (1, .int x), (2, .int v)]) hx hb dX9_weigh_5 rfl hl (by decide) rfl (fun ls hl => ?_)
    refine lv_aload_n hx hb dX9_weigh_6 rfl (lv_at hl 0 rfl) ?_
    refine lv_ifnonnull (tgt := 13) hx hb dX9_weigh_7 (by decide) ?_
    refine lv_iload_n hx hb dX9_weigh_13 rfl (lv_at hl 3 rfl) ?_
    refine k_num (n := 1) C (m_isNear l D ca sa lo v) (fun U A9 h => co_X9_isNear h A9) (in_X9 hk.1 _) (ml_X9_33 hk.1 _) (st_X9_isNear hk.1 _) (by decide +kernel) ⟨⟨rfl, rfl⟩, by decide, by decide⟩ hP hS rfl hl.1 rfl (Nat.le_of_ble_eq_true rfl) dX9_weigh_14 ⟨by decide, by decide⟩ (fun H locs hP hS _ _ => ?_)
    refine lv_if_ne (tgt := 23) hx hb dX9_weigh_17 (by decide) (fun c_1 => ?_) (fun c_1 => ?_)
    · have hr9 : r = ((pw pd.1 v pd.2.2.2 t).1, (pw pd.1 v pd.2.2.2 t).2.1, Q.set i (pd.1, pd.2.1, pd.2.2.1, (pw pd.1 v pd.2.2.2 t).2.2.1), (pw pd.1 v pd.2.2.2 t).2.2.2) := by rw [← hr9]; simp only [zW, hi, sQ_of hQ, gQ_of hQ]; rw [if_pos (bi_ne0 c_1)]
      subst hr9
      refine lv_aload_n hx hb dX9_weigh_23 rfl (lv_at hl 0 rfl) ?_
      refine lv_iload_n hx hb dX9_weigh_24 rfl (lv_at hl 3 rfl) ?_
      refine vf_w (kd := pd.1) (K := nI pd.1) (zn := pd.2.1) (lm := pd.2.2.1) (d := pd.2.2.2) (t := t) (h0 := a) hl9 (k8 hp) C (ml_X9_54 hk.1 _) (px_cut hP hL hQ) (dx_cut hD hL hQ) hS hl.1 (Nat.le_of_ble_eq_true rfl) dX9_weigh_25 ⟨by decide, by decide, by decide, by decide⟩ (fun E ce q9 H locs he hB hD1 hS hf1 h1 h2 h3 => ?_) (fun h0c H locs hB hD1 hS hf1 => ?_)
      · have hP : va_P D cls (wx ca x0 da ht hr L (Q.set i (pd.1, pd.2.1, pd.2.2.1, (pw pd.1 v pd.2.2.2 t).2.2.1)) (pw pd.1 v pd.2.2.2 t).2.2.2) H := px_join hP hD hL hQ hf1 hB
        have hD : va_D A (wx ca x0 da ht hr L (Q.set i (pd.1, pd.2.1, pd.2.2.1, (pw pd.1 v pd.2.2.2 t).2.2.1)) (pw pd.1 v pd.2.2.2 t).2.2.2) := hD.to (wx_map hok.1 List.length_set)
        exact ozz hno hlocks he hP hS h1 h2 h3 (by decide) (by decide)
      · have hP : va_P D cls (wx ca x0 da ht hr L (Q.set i (pd.1, pd.2.1, pd.2.2.1, (pw pd.1 v pd.2.2.2 t).2.2.1)) (pw pd.1 v pd.2.2.2 t).2.2.2) H := px_join hP hD hL hQ hf1 hB
        have hD : va_D A (wx ca x0 da ht hr L (Q.set i (pd.1, pd.2.1, pd.2.2.1, (pw pd.1 v pd.2.2.2 t).2.2.1)) (pw pd.1 v pd.2.2.2 t).2.2.2) := hD.to (wx_map hok.1 List.length_set)
        exact rzz C hrt hlocks h0c rfl hP hS dX9_weigh_28 (by decide) (by decide)
    · have hr9 : r = (0, -102, Q, t) := by rw [← hr9]; simp only [zW, hi]; rw [if_neg (by rw [bi_eq0 c_1]; decide)]
      subst hr9
      refine lv_bipush (v := (-102)) hx hb dX9_weigh_20 (by decide) ?_
      exact rzz C hrt hlocks rfl rfl hP hS dX9_weigh_22 (by decide) (by decide)

set_option maxHeartbeats 4000000 in
set_option maxRecDepth 100000 in
theorem M_read (l : Launch) (D : va_G) (ca : Nat → ClassId) (sa : Nat → Nat) (lo : Nat) (hl9 : l.stackTraces = false) (x0 da ht hr : Nat) (L : List Nat) (Q : List Pd) (t : Tr) (hok : okP L Q) (x v : Int32) (sz : Nat) : vx_Met l yX9_read [.code yX9_read cX9_read 4 (some .int)] ({ frames := 11, cells := 4, slots := 24, locals := 250 }) (PX D ca sa lo sz [.ref x0, .int x, .int v] (wx ca x0 da ht hr L Q t)) (QZ D (wx ca x0 da ht hr L (zR Q t x v).2.2.1 (zR Q t x v).2.2.2) (zR Q t x v).1 (zR Q t x v).2.1 (va_A (wx ca x0 da ht hr L Q t) sz)) (XZ D (wx ca x0 da ht hr L (zR Q t x v).2.2.1 (zR Q t x v).2.2.2) (zR Q t x v).1 (va_A (wx ca x0 da ht hr L Q t) sz)) 4 24 (va_A (wx ca x0 da ht hr L Q t) sz) := by
  generalize hr9 : zR Q t x v = r
  refine mk_metX (fun A => QZ D (wx ca x0 da ht hr L r.2.2.1 r.2.2.2) r.1 r.2.1 A) (fun A => XZ D (wx ca x0 da ht hr L r.2.2.1 r.2.2.2) r.1 A) (by decide) (Nat.le_of_ble_eq_true rfl) ?_
  intro p e s m below meth c A ls C hrt hlocks hno hsz hP hD hS hl
  obtain ⟨hx, hb, hml, hown, hk, hz, hlo, hA, hAl⟩ := id C
  have hK : va_K D cls (tyl ca) s := hk.2.1
  have hl : lv_has ls 4 [(0, .ref x0), (1, .int x), (2, .int v)] := hl
  refine lv_aload_n hx hb dX9_read_0 rfl (lv_at hl 0 rfl) ?_
  refine lv_iload_n hx hb dX9_read_1 rfl (lv_at hl 1 rfl) ?_
  refine k_find hok C hP hD hS hl.1 ⟨by decide, by decide⟩ (Nat.le_of_ble_eq_true rfl) dX9_read_2 ⟨by decide, by decide⟩ (fun hi H locs hP hS => ?_) (fun i a pd hi hj hxj hL hQ hp H locs hP hS => ?_)
  · have hr9 : r = (0, -101, Q, t) := by rw [← hr9]; simp only [zR, hi]
    subst hr9
    refine lv_astore_nN (lv' := [(3, .null), (0, .ref x0), (1, .int x), (2, .int v)]) hx hb dX9_read_5 rfl hl (by decide) rfl (fun ls hl => ?_)
    refine lv_aload_nN hx hb dX9_read_6 rfl (lv_at hl 0 rfl) ?_
    refine lv_ifnonnullN hx hb dX9_read_7 ?_
    refine lv_bipush (v := (-101)) hx hb dX9_read_10 (by decide) ?_
    exact rzz C hrt hlocks rfl rfl hP hS dX9_read_12 (by decide) (by decide)
  · refine lv_astore_n (lv' := [(3, .ref a), (0, .ref x0), (1, .int x), (2, .int v)]) hx hb dX9_read_5 rfl hl (by decide) rfl (fun ls hl => ?_)
    refine lv_aload_n hx hb dX9_read_6 rfl (lv_at hl 0 rfl) ?_
    refine lv_ifnonnull (tgt := 13) hx hb dX9_read_7 (by decide) ?_
    refine lv_iload_n hx hb dX9_read_13 rfl (lv_at hl 3 rfl) ?_
    refine k_num (n := 1) C (m_isNear l D ca sa lo v) (fun U A9 h => co_X9_isNear h A9) (in_X9 hk.1 _) (ml_X9_33 hk.1 _) (st_X9_isNear hk.1 _) (by decide +kernel) ⟨⟨rfl, rfl⟩, by decide, by decide⟩ hP hS rfl hl.1 rfl (Nat.le_of_ble_eq_true rfl) dX9_read_14 ⟨by decide, by decide⟩ (fun H locs hP hS _ _ => ?_)
    refine lv_if_ne (tgt := 23) hx hb dX9_read_17 (by decide) (fun c_1 => ?_) (fun c_1 => ?_)
    · have hr9 : r = ((pr pd.1 v pd.2.2.2 t).1, (pr pd.1 v pd.2.2.2 t).2.1.2.1, Q.set i (pd.1, pd.2.1, pd.2.2.1, (pr pd.1 v pd.2.2.2 t).2.1), (pr pd.1 v pd.2.2.2 t).2.2) := by rw [← hr9]; simp only [zR, hi, sQ_of hQ, gQ_of hQ]; rw [if_pos (bi_ne0 c_1)]
      subst hr9
      refine lv_aload_n hx hb dX9_read_23 rfl (lv_at hl 0 rfl) ?_
      refine lv_iload_n hx hb dX9_read_24 rfl (lv_at hl 3 rfl) ?_
      refine vf_r (kd := pd.1) (K := nI pd.1) (zn := pd.2.1) (lm := pd.2.2.1) (d := pd.2.2.2) (t := t) (h0 := a) hl9 (k8 hp) C (ml_X9_47 hk.1 _) (px_cut hP hL hQ) (dx_cut hD hL hQ) hS hl.1 (Nat.le_of_ble_eq_true rfl) dX9_read_25 ⟨by decide, by decide, by decide, by decide⟩ (fun E ce q9 H locs he hB hD1 hS hf1 h1 h2 h3 => ?_) (fun h0c H locs hB hD1 hS hf1 => ?_)
      · have hP : va_P D cls (wx ca x0 da ht hr L (Q.set i (pd.1, pd.2.1, pd.2.2.1, (pr pd.1 v pd.2.2.2 t).2.1)) (pr pd.1 v pd.2.2.2 t).2.2) H := px_join hP hD hL hQ hf1 hB
        have hD : va_D A (wx ca x0 da ht hr L (Q.set i (pd.1, pd.2.1, pd.2.2.1, (pr pd.1 v pd.2.2.2 t).2.1)) (pr pd.1 v pd.2.2.2 t).2.2) := hD.to (wx_map hok.1 List.length_set)
        exact ozz hno hlocks he hP hS h1 h2 h3 (by decide) (by decide)
      · have hP : va_P D cls (wx ca x0 da ht hr L (Q.set i (pd.1, pd.2.1, pd.2.2.1, (pr pd.1 v pd.2.2.2 t).2.1)) (pr pd.1 v pd.2.2.2 t).2.2) H := px_join hP hD hL hQ hf1 hB
        have hD : va_D A (wx ca x0 da ht hr L (Q.set i (pd.1, pd.2.1, pd.2.2.1, (pr pd.1 v pd.2.2.2 t).2.1)) (pr pd.1 v pd.2.2.2 t).2.2) := hD.to (wx_map hok.1 List.length_set)
        refine lv_aload_n hx hb dX9_read_28 rfl (lv_at hl 0 rfl) ?_
        obtain ⟨Cn, hd⟩ := isD_kc hp
        refine va_get (D := D) (C := Cn) (T := TX3) (N := 9) hx hb (hd.2 _ _ hk.1) (fun _ h9 => h9) hown hK hP (4 + i) (wx_at hL (List.getElem?_set_self hj)) hd.1 5 (by decide) (fl_X9_51 hk.1 _) (fun _ h9 => h9) rfl dX9_read_29 ?_
        exact rzz C hrt hlocks h0c rfl hP hS dX9_read_32 (by decide) (by decide)
    · have hr9 : r = (0, -102, Q, t) := by rw [← hr9]; simp only [zR, hi]; rw [if_neg (by rw [bi_eq0 c_1]; decide)]
      subst hr9
      refine lv_bipush (v := (-102)) hx hb dX9_read_20 (by decide) ?_
      exact rzz C hrt hlocks rfl rfl hP hS dX9_read_22 (by decide) (by decide)
end
section
theorem tb_out {w : Int32} {n : Nat} (hn : n + 1 < 2 ^ 31) (h : ∀ k : Nat, k ≤ n → w ≠ nI k) : w.toInt < 0 ∨ (n : Int) < w.toInt := by
  rcases pk_ix w hn with h1 | h1 | ⟨j, hj, e⟩
  · exact Or.inl (by simpa using Int32.lt_iff_toInt_lt.mp h1)
  · refine Or.inr ?_
    have := Int32.le_iff_toInt_le.mp h1
    rw [nI_toInt hn] at this
    omega
  · exact absurd e (h j (by omega))
def zN (Q : List Pd) (t : Tr) (w : Int32) : Int32 := if w = 0 then nI Q.length else if w = 1 then nI t.1 else if w = 2 then t.2.2.1 else if w = 3 then t.2.2.2 else -102
def tA (t : Tr) (i : Int32) : Int32 := if i < 0 ∨ nI (min t.1 200) ≤ i then -101 else t.2.1 ((t.1 - 1 - i.toNatClampNeg) % 200)
section PT
variable {D : va_G} {ca : Nat → ClassId} {H H1 : Heap} {A : Nat → Prop} {x0 da ht hr : Nat} {L : List Nat} {Q : List Pd} {t t1 : Tr}
theorem px_tr (hP : va_P D cls (wx ca x0 da ht hr L Q t) H) : va_P D cls (wt ca ht hr t) H := by
  intro k q hk
  match k, hk with
  | 0, hk => cases hk; exact hP 2 _ rfl
  | 1, hk => cases hk; exact hP 3 _ rfl
  | k + 2, hk => cases hk
theorem dx_tr (hD : va_D A (wx ca x0 da ht hr L Q t)) : va_D A (wt ca ht hr t) := by
  refine hD.by (fun k => k + 2) ?_ (fun i j _ _ h => by
    have h : i + 2 = j + 2 := h
    omega)
  intro k q hk
  match k, hk with
  | 0, hk => cases hk; rfl
  | 1, hk => cases hk; rfl
  | k + 2, hk => cases hk
theorem px_trj (hP : va_P D cls (wx ca x0 da ht hr L Q t) H) (hD : va_D A (wx ca x0 da ht hr L Q t)) (hf : ∀ q : Nat, q < H.size → ¬ va_A (wt ca ht hr t) H.size q → H1[q]? = H[q]?) (hB : va_P D cls (wt ca ht hr t1) H1) : va_P D cls (wx ca x0 da ht hr L Q t1) H1 := by
  have keep : ∀ (k : Nat) (q : Nat × va_E), (wx ca x0 da ht hr L Q t)[k]? = some q → k ≠ 2 → k ≠ 3 → va_at D cls q H1 := by
    intro k q hk h2 h3
    have hq := hP k q hk
    refine hq.kept (hf q.1 hq.lt ?_)
    rintro (⟨j, e9, hj⟩ | h)
    · match j, hj with
      | 0, hj =>
        have e1 : ht = q.1 := congrArg Prod.fst (Option.some.inj hj)
        exact h2 (hD.1 k 2 q _ hk rfl e1.symm)
      | 1, hj =>
        have e1 : hr = q.1 := congrArg Prod.fst (Option.some.inj hj)
        exact h3 (hD.1 k 3 q _ hk rfl e1.symm)
      | j + 2, hj => cases hj
    · have := hq.lt
      omega
  intro k q hk
  match k, hk with
  | 0, hk => exact keep 0 q hk (by omega) (by omega)
  | 1, hk => exact keep 1 q hk (by omega) (by omega)
  | 2, hk => cases hk; exact hB 0 _ rfl
  | 3, hk => cases hk; exact hB 1 _ rfl
  | k + 4, hk =>
    rw [Nat.add_comm] at hk
    obtain ⟨b, pe, h1, h2, rfl⟩ := wx_in hk
    exact keep (4 + k) _ (wx_at h1 h2) (by omega) (by omega)
end PT

set_option maxHeartbeats 4000000 in
set_option maxRecDepth 100000 in
theorem M_tell (l : Launch) (D : va_G) (ca : Nat → ClassId) (sa : Nat → Nat) (lo : Nat) (x0 da ht hr : Nat) (L : List Nat) (Q : List Pd) (t : Tr) (hok : okP L Q) (x w : Int32) (sz : Nat) : Met l yX9_tell [.code yX9_tell cX9_tell 4 (some .int)] ({ frames := 1, cells := 0, slots := 0, locals := 30 }) (PX D ca sa lo sz [.ref x0, .int x, .int w] (wx ca x0 da ht hr L Q t)) (QI D (zT Q x w) (wx ca x0 da ht hr L Q t) (va_A (wx ca x0 da ht hr L Q t) sz)) 0 0 (va_A (wx ca x0 da ht hr L Q t) sz) := by
  generalize hr9 : zT Q x w = r
  refine mk_met (fun A => QI D r (wx ca x0 da ht hr L Q t) A) (by decide) (Nat.le_of_ble_eq_true rfl) ?_
  intro p e s m below meth c A ls C hrt hlocks hnm hsz hP hD hS hl
  obtain ⟨hx, hb, hml, hown, hk, hz, hlo, hA, hAl⟩ := id C
  have hK : va_K D cls (tyl ca) s := hk.2.1
  have hl : lv_has ls 4 [(0, .ref x0), (1, .int x), (2, .int w)] := hl
  refine lv_aload_n hx hb dX9_tell_0 rfl (lv_at hl 0 rfl) ?_
  refine lv_iload_n hx hb dX9_tell_1 rfl (lv_at hl 1 rfl) ?_
  refine k_find hok C hP hD hS hl.1 ⟨by decide, by decide⟩ (Nat.le_of_ble_eq_true rfl) dX9_tell_2 ⟨by decide, by decide⟩ (fun hi H locs hP hS => ?_) (fun i a pd hi hj hxj hL hQ hp H locs hP hS => ?_)
  · have hr9 : r = -101 := by rw [← hr9]; simp only [zT, hi]
    subst hr9
    refine lv_astore_nN (lv' := [(3, .null), (0, .ref x0), (1, .int x), (2, .int w)]) hx hb dX9_tell_5 rfl hl (by decide) rfl (fun ls hl => ?_)
    refine lv_aload_nN hx hb dX9_tell_6 rfl (lv_at hl 0 rfl) ?_
    refine lv_ifnonnullN hx hb dX9_tell_7 ?_
    refine lv_bipush (v := (-101)) hx hb dX9_tell_10 (by decide) ?_
    exact ri C hrt hlocks rfl hP hS dX9_tell_12
  · have hr9 : r = tel pd w := by rw [← hr9]; simp only [zT, hi, gQ_of hQ]
    obtain ⟨Cn, hd⟩ := isD_kc hp
    refine lv_astore_n (lv' := [(3, .ref a), (0, .ref x0), (1, .int x), (2, .int w)]) hx hb dX9_tell_5 rfl hl (by decide) rfl (fun ls hl => ?_)
    refine lv_aload_n hx hb dX9_tell_6 rfl (lv_at hl 0 rfl) ?_
    refine lv_ifnonnull (tgt := 13) hx hb dX9_tell_7 (by decide) ?_
    refine lv_iload_n hx hb dX9_tell_13 rfl (lv_at hl 3 rfl) ?_
    by_cases e0 : w = 0
    · subst e0
      refine lv_tableIn (tgt := 60) hx hb dX9_tell_14 (by decide) (by decide) rfl (by decide) ?_
      have hr9 : r = nI pd.1 := by rw [hr9]; unfold tel; rw [if_pos rfl]
      subst hr9
      refine lv_aload_n hx hb dX9_tell_60 rfl (lv_at hl 0 rfl) ?_
      refine va_get (D := D) (C := Cn) (T := TX3) (N := 9) hx hb (hd.2 _ _ hk.1) (fun _ h9 => h9) hown hK hP (4 + i) (wx_at hL hQ) hd.1 1 (by decide) (fl_X9_69 hk.1 _) (fun _ h9 => h9) rfl dX9_tell_61 ?_
      exact ri C hrt hlocks rfl hP hS dX9_tell_64
    · by_cases e1 : w = 1
      · subst e1
        refine lv_tableIn (tgt := 65) hx hb dX9_tell_14 (by decide) (by decide) rfl (by decide) ?_
        have hr9 : r = pd.2.1 := by rw [hr9]; unfold tel; rw [if_neg (by decide), if_pos rfl]
        subst hr9
        refine lv_aload_n hx hb dX9_tell_65 rfl (lv_at hl 0 rfl) ?_
        refine va_get (D := D) (C := Cn) (T := TX3) (N := 9) hx hb (hd.2 _ _ hk.1) (fun _ h9 => h9) hown hK hP (4 + i) (wx_at hL hQ) hd.1 2 (by decide) (fl_X9_72 hk.1 _) (fun _ h9 => h9) rfl dX9_tell_66 ?_
        exact ri C hrt hlocks rfl hP hS dX9_tell_69
      · by_cases e2 : w = 2
        · subst e2
          refine lv_tableIn (tgt := 70) hx hb dX9_tell_14 (by decide) (by decide) rfl (by decide) ?_
          have hr9 : r = pd.2.2.1 := by rw [hr9]; unfold tel; rw [if_neg (by decide), if_neg (by decide), if_pos rfl]
          subst hr9
          refine lv_aload_n hx hb dX9_tell_70 rfl (lv_at hl 0 rfl) ?_
          refine va_get (D := D) (C := Cn) (T := TX3) (N := 9) hx hb (hd.2 _ _ hk.1) (fun _ h9 => h9) hown hK hP (4 + i) (wx_at hL hQ) hd.1 3 (by decide) (fl_X9_75 hk.1 _) (fun _ h9 => h9) rfl dX9_tell_71 ?_
          exact ri C hrt hlocks rfl hP hS dX9_tell_74
        · by_cases e3 : w = 3
          · subst e3
            refine lv_tableIn (tgt := 75) hx hb dX9_tell_14 (by decide) (by decide) rfl (by decide) ?_
            have hr9 : r = pd.2.2.2.1 := by rw [hr9]; unfold tel; rw [if_neg (by decide), if_neg (by decide), if_neg (by decide), if_pos rfl]
            subst hr9
            refine lv_aload_n hx hb dX9_tell_75 rfl (lv_at hl 0 rfl) ?_
            refine va_get (D := D) (C := Cn) (T := TX3) (N := 9) hx hb (hd.2 _ _ hk.1) (fun _ h9 => h9) hown hK hP (4 + i) (wx_at hL hQ) hd.1 4 (by decide) (fl_X9_78 hk.1 _) (fun _ h9 => h9) rfl dX9_tell_76 ?_
            exact ri C hrt hlocks rfl hP hS dX9_tell_79
          · by_cases e4 : w = 4
            · subst e4
              refine lv_tableIn (tgt := 80) hx hb dX9_tell_14 (by decide) (by decide) rfl (by decide) ?_
              have hr9 : r = pd.2.2.2.2.1 := by rw [hr9]; unfold tel; rw [if_neg (by decide), if_neg (by decide), if_neg (by decide), if_neg (by decide), if_pos rfl]
              subst hr9
              refine lv_aload_n hx hb dX9_tell_80 rfl (lv_at hl 0 rfl) ?_
              refine va_get (D := D) (C := Cn) (T := TX3) (N := 9) hx hb (hd.2 _ _ hk.1) (fun _ h9 => h9) hown hK hP (4 + i) (wx_at hL hQ) hd.1 5 (by decide) (fl_X9_51 hk.1 _) (fun _ h9 => h9) rfl dX9_tell_81 ?_
              exact ri C hrt hlocks rfl hP hS dX9_tell_84
            · by_cases e5 : w = 5
              · subst e5
                refine lv_tableIn (tgt := 85) hx hb dX9_tell_14 (by decide) (by decide) rfl (by decide) ?_
                have hr9 : r = pd.2.2.2.2.2.1 := by rw [hr9]; unfold tel; rw [if_neg (by decide), if_neg (by decide), if_neg (by decide), if_neg (by decide), if_neg (by decide), if_pos rfl]
                subst hr9
                refine lv_aload_n hx hb dX9_tell_85 rfl (lv_at hl 0 rfl) ?_
                refine va_get (D := D) (C := Cn) (T := TX3) (N := 9) hx hb (hd.2 _ _ hk.1) (fun _ h9 => h9) hown hK hP (4 + i) (wx_at hL hQ) hd.1 6 (by decide) (fl_X9_81 hk.1 _) (fun _ h9 => h9) rfl dX9_tell_86 ?_
                exact ri C hrt hlocks rfl hP hS dX9_tell_89
              · by_cases e6 : w = 6
                · subst e6
                  refine lv_tableIn (tgt := 90) hx hb dX9_tell_14 (by decide) (by decide) rfl (by decide) ?_
                  have hr9 : r = pd.2.2.2.2.2.2.1 := by rw [hr9]; unfold tel; rw [if_neg (by decide), if_neg (by decide), if_neg (by decide), if_neg (by decide), if_neg (by decide), if_neg (by decide), if_pos rfl]
                  subst hr9
                  refine lv_aload_n hx hb dX9_tell_90 rfl (lv_at hl 0 rfl) ?_
                  refine va_get (D := D) (C := Cn) (T := TX3) (N := 9) hx hb (hd.2 _ _ hk.1) (fun _ h9 => h9) hown hK hP (4 + i) (wx_at hL hQ) hd.1 7 (by decide) (fl_X9_84 hk.1 _) (fun _ h9 => h9) rfl dX9_tell_91 ?_
                  exact ri C hrt hlocks rfl hP hS dX9_tell_94
                · by_cases e7 : w = 7
                  · subst e7
                    refine lv_tableIn (tgt := 95) hx hb dX9_tell_14 (by decide) (by decide) rfl (by decide) ?_
                    have hr9 : r = bi pd.2.2.2.2.2.2.2 := by rw [hr9]; unfold tel; rw [if_neg (by decide), if_neg (by decide), if_neg (by decide), if_neg (by decide), if_neg (by decide), if_neg (by decide), if_neg (by decide), if_pos rfl]
                    subst hr9
                    refine lv_aload_n hx hb dX9_tell_95 rfl (lv_at hl 0 rfl) ?_
                    refine va_get (D := D) (C := Cn) (T := TX3) (N := 9) hx hb (hd.2 _ _ hk.1) (fun _ h9 => h9) hown hK hP (4 + i) (wx_at hL hQ) hd.1 8 (by decide) (fl_X9_87 hk.1 _) (fun _ h9 => h9) rfl dX9_tell_96 ?_
                    refine lv_if_eq (tgt := 106) hx hb dX9_tell_99 (by decide) (fun c_1 => ?_) (fun c_1 => ?_)
                    · refine lv_iconst (v := 0) hx hb dX9_tell_106 (by decide) ?_
                      exact ri C hrt hlocks (by rw [bi_eq0 c_1]; rfl) hP hS dX9_tell_107
                    · refine lv_iconst (v := 1) hx hb dX9_tell_102 (by decide) ?_
                      refine lv_goto (tgt := 107) hx hb dX9_tell_103 (by decide) ?_
                      exact ri C hrt hlocks (by rw [bi_ne0 c_1]; rfl) hP hS dX9_tell_107
                  · refine lv_tableOut (tgt := 108) hx hb dX9_tell_14 (tb_out (n := 7) (by decide) (fun k hk => ?_)) (by decide) ?_
                    · rcases (by omega : k = 0 ∨ k = 1 ∨ k = 2 ∨ k = 3 ∨ k = 4 ∨ k = 5 ∨ k = 6 ∨ k = 7) with rfl | rfl | rfl | rfl | rfl | rfl | rfl | rfl
                      · exact e0
                      · exact e1
                      · exact e2
                      · exact e3
                      · exact e4
                      · exact e5
                      · exact e6
                      · exact e7
                    · have hr9 : r = -102 := by rw [hr9]; unfold tel; rw [if_neg e0, if_neg e1, if_neg e2, if_neg e3, if_neg e4, if_neg e5, if_neg e6, if_neg e7]
                      subst hr9
                      refine lv_bipush (v := (-102)) hx hb dX9_tell_108 (by decide) ?_
                      exact ri C hrt hlocks rfl hP hS dX9_tell_110

set_option maxHeartbeats 4000000 in
set_option maxRecDepth 100000 in
theorem M_count (l : Launch) (D : va_G) (ca : Nat → ClassId) (sa : Nat → Nat) (lo : Nat) (x0 da ht hr : Nat) (L : List Nat) (Q : List Pd) (t : Tr) (hok : okP L Q) (w : Int32) (sz : Nat) : Met l yX9_count [.code yX9_count cX9_count 2 (some .int)] ({ frames := 0, cells := 0, slots := 0, locals := 0 }) (PX D ca sa lo sz [.ref x0, .int w] (wx ca x0 da ht hr L Q t)) (QI D (zN Q t w) (wx ca x0 da ht hr L Q t) (va_A (wx ca x0 da ht hr L Q t) sz)) 0 0 (va_A (wx ca x0 da ht hr L Q t) sz) := by
  generalize hr9 : zN Q t w = r
  refine mk_met (fun A => QI D r (wx ca x0 da ht hr L Q t) A) (by decide) (Nat.le_of_ble_eq_true rfl) ?_
  intro p e s m below meth c A ls C hrt hlocks hnm hsz hP hD hS hl
  obtain ⟨hx, hb, hml, hown, hk, hz, hlo, hA, hAl⟩ := id C
  have hK : va_K D cls (tyl ca) s := hk.2.1
  have hl : lv_has ls 2 [(0, .ref x0), (1, .int w)] := hl
  refine lv_iload_n hx hb dX9_count_0 rfl (lv_at hl 1 rfl) ?_
  by_cases e0 : w = 0
  · subst e0
    refine lv_tableIn (tgt := 32) hx hb dX9_count_1 (by decide) (by decide) rfl (by decide) ?_
    have hr9 : r = nI L.length := by rw [← hr9]; unfold zN; rw [if_pos rfl]; rw [hok.1]
    subst hr9
    refine lv_aload_n hx hb dX9_count_32 rfl (lv_at hl 0 rfl) ?_
    refine va_get (D := D) (C := RX9) (T := TX9) (N := 3) hx hb (uc_9 hk.1 _) (fun _ h9 => h9) hown hK hP 0 rfl rfl 2 (by decide) (fl_X9_22 hk.1 _) (fun _ h9 => h9) rfl dX9_count_33 ?_
    exact ri C hrt hlocks rfl hP hS dX9_count_36
  · by_cases e1 : w = 1
    · subst e1
      refine lv_tableIn (tgt := 37) hx hb dX9_count_1 (by decide) (by decide) rfl (by decide) ?_
      have hr9 : r = nI t.1 := by rw [← hr9]; unfold zN; rw [if_neg (by decide), if_pos rfl]
      subst hr9
      refine lv_aload_n hx hb dX9_count_37 rfl (lv_at hl 0 rfl) ?_
      refine va_get (D := D) (C := RX9) (T := TX9) (N := 3) hx hb (uc_9 hk.1 _) (fun _ h9 => h9) hown hK hP 0 rfl rfl 1 (by decide) (fl_X9_18 hk.1 _) (fun _ h9 => h9) rfl dX9_count_38 ?_
      refine va_get (D := D) (C := RX6) (T := TX6) (N := 6) hx hb (uc_6 hk.1 _) (fun _ h9 => h9) hown hK hP 2 rfl rfl 3 (by decide) (fl_X9_105 hk.1 _) (fun _ h9 => h9) rfl dX9_count_41 ?_
      exact ri C hrt hlocks rfl hP hS dX9_count_44
    · by_cases e2 : w = 2
      · subst e2
        refine lv_tableIn (tgt := 45) hx hb dX9_count_1 (by decide) (by decide) rfl (by decide) ?_
        have hr9 : r = t.2.2.1 := by rw [← hr9]; unfold zN; rw [if_neg (by decide), if_neg (by decide), if_pos rfl]
        subst hr9
        refine lv_aload_n hx hb dX9_count_45 rfl (lv_at hl 0 rfl) ?_
        refine va_get (D := D) (C := RX9) (T := TX9) (N := 3) hx hb (uc_9 hk.1 _) (fun _ h9 => h9) hown hK hP 0 rfl rfl 1 (by decide) (fl_X9_18 hk.1 _) (fun _ h9 => h9) rfl dX9_count_46 ?_
        refine va_get (D := D) (C := RX6) (T := TX6) (N := 6) hx hb (uc_6 hk.1 _) (fun _ h9 => h9) hown hK hP 2 rfl rfl 4 (by decide) (fl_X9_108 hk.1 _) (fun _ h9 => h9) rfl dX9_count_49 ?_
        exact ri C hrt hlocks rfl hP hS dX9_count_52
      · by_cases e3 : w = 3
        · subst e3
          refine lv_tableIn (tgt := 53) hx hb dX9_count_1 (by decide) (by decide) rfl (by decide) ?_
          have hr9 : r = t.2.2.2 := by rw [← hr9]; unfold zN; rw [if_neg (by decide), if_neg (by decide), if_neg (by decide), if_pos rfl]
          subst hr9
          refine lv_aload_n hx hb dX9_count_53 rfl (lv_at hl 0 rfl) ?_
          refine va_get (D := D) (C := RX9) (T := TX9) (N := 3) hx hb (uc_9 hk.1 _) (fun _ h9 => h9) hown hK hP 0 rfl rfl 1 (by decide) (fl_X9_18 hk.1 _) (fun _ h9 => h9) rfl dX9_count_54 ?_
          refine va_get (D := D) (C := RX6) (T := TX6) (N := 6) hx hb (uc_6 hk.1 _) (fun _ h9 => h9) hown hK hP 2 rfl rfl 5 (by decide) (fl_X9_111 hk.1 _) (fun _ h9 => h9) rfl dX9_count_57 ?_
          exact ri C hrt hlocks rfl hP hS dX9_count_60
        · refine lv_tableOut (tgt := 61) hx hb dX9_count_1 (tb_out (n := 3) (by decide) (fun k hk => ?_)) (by decide) ?_
          · rcases (by omega : k = 0 ∨ k = 1 ∨ k = 2 ∨ k = 3) with rfl | rfl | rfl | rfl
            · exact e0
            · exact e1
            · exact e2
            · exact e3
          · have hr9 : r = -102 := by rw [← hr9]; unfold zN; rw [if_neg e0, if_neg e1, if_neg e2, if_neg e3]
            subst hr9
            refine lv_bipush (v := (-102)) hx hb dX9_count_61 (by decide) ?_
            exact ri C hrt hlocks rfl hP hS dX9_count_63
end
section
set_option maxHeartbeats 4000000 in
set_option maxRecDepth 100000 in
theorem m_at (l : Launch) (D : va_G) (ca : Nat → ClassId) (sa : Nat → Nat) (lo : Nat) (ht hr : Nat) (t : Tr) (i : Int32) (sz : Nat) : Met l yX6_at [.code yX6_at cX6_at 3 (some .int)] ({ frames := 0, cells := 0, slots := 0, locals := 0 }) (PX D ca sa lo sz [.ref ht, .int i] (wt ca ht hr t)) (QI D (tA t i) (wt ca ht hr t) (va_A (wt ca ht hr t) sz)) 0 0 (va_A (wt ca ht hr t) sz) := by
  generalize hr9 : tA t i = r
  refine mk_met (fun A => QI D r (wt ca ht hr t) A) (by decide) (Nat.le_of_ble_eq_true rfl) ?_
  intro p e s m below meth c A ls C hrt hlocks hnm hsz hP hD hS hl
  obtain ⟨hx, hb, hml, hown, hk, hz, hlo, hA, hAl⟩ := id C
  have hK : va_K D cls (tyl ca) s := hk.2.1
  have hl : lv_has ls 3 [(0, .ref ht), (1, .int i)] := hl
  refine lv_iload_n hx hb dX6_at_0 rfl (lv_at hl 1 rfl) ?_
  refine lv_if_lt (tgt := 12) hx hb dX6_at_1 (by decide) (fun c_1 => ?_) (fun c_1 => ?_)
  · refine lv_bipush (v := (-101)) hx hb dX6_at_12 (by decide) ?_
    exact ri C hrt hlocks (hr9.symm.trans (if_pos (Or.inl c_1))).symm hP hS dX6_at_14
  · refine lv_iload_n hx hb dX6_at_4 rfl (lv_at hl 1 rfl) ?_
    refine lv_aload_n hx hb dX6_at_5 rfl (lv_at hl 0 rfl) ?_
    refine va_get (D := D) (C := RX6) (T := TX6) (N := 6) hx hb (uc_6 hk.1 _) (fun _ h9 => h9) hown hK hP 0 rfl rfl 2 (by decide) (fl_X6_19 hk.1 _) (fun _ h9 => h9) rfl dX6_at_6 ?_
    refine lv_icmp_lt (tgt := 15) hx hb dX6_at_9 (by decide) (fun c_2 => ?_) (fun c_2 => ?_)
    · obtain ⟨j, hj0, rfl⟩ := nI_of c_1
      have hj : j < min t.1 200 := by rw [nI_ltI hj0 (by omega)] at c_2; exact c_2
      have hr9 : r = t.2.1 ((t.1 - 1 - j) % 200) := by
        rw [← hr9, tA, if_neg (by
          rintro (h9 | h9)
          · exact c_1 h9
          · rw [nI_leI (by omega) hj0] at h9; omega), nI_clamp hj0]
      have e1 : nx t.1 = (t.1 - 1) % 200 + 1 := if_neg (by omega)
      refine lv_aload_n hx hb dX6_at_15 rfl (lv_at hl 0 rfl) ?_
      refine va_get (D := D) (C := RX6) (T := TX6) (N := 6) hx hb (uc_6 hk.1 _) (fun _ h9 => h9) hown hK hP 0 rfl rfl 1 (by decide) (fl_X6_15 hk.1 _) (fun _ h9 => h9) rfl dX6_at_16 ?_
      refine lv_iconst (v := 1) hx hb dX6_at_19 (by decide) ?_
      refine lv_isub hx hb dX6_at_20 ?_
      refine lv_iload_n hx hb dX6_at_21 rfl (lv_at hl 1 rfl) ?_
      refine lv_isub hx hb dX6_at_22 ?_
      refine lv_topi (fun y ey => ?_)
      have ey : y = nI ((t.1 - 1) % 200) - nI j := by rw [ey, e1, nI_pred]
      refine lv_istore_n (lv' := [(2, .int y), (0, .ref ht), (1, .int (nI j))]) hx hb dX6_at_23 rfl hl (by decide) rfl (fun ls hl => ?_)
      refine lv_aload_n hx hb dX6_at_24 rfl (lv_at hl 1 rfl) ?_
      refine va_get (D := D) (C := RX6) (T := TX6) (N := 6) hx hb (uc_6 hk.1 _) (fun _ h9 => h9) hown hK hP 0 rfl rfl 0 (by decide) (fl_X6_9 hk.1 _) (fun _ h9 => h9) rfl dX6_at_25 ?_
      refine lv_iload_n hx hb dX6_at_28 rfl (lv_at hl 0 rfl) ?_
      refine lv_if_ge (tgt := 42) hx hb dX6_at_29 (by decide) (fun c_3 => ?_) (fun c_3 => ?_)
      · have hjq : j ≤ (t.1 - 1) % 200 := by
          rcases Nat.lt_or_ge ((t.1 - 1) % 200) j with h9 | h9
          · have := pk_sneg (b := j) (by omega) h9
            rw [← ey] at this
            exact absurd this (Int32.not_lt.mpr c_3)
          · exact h9
        rw [pk_sub hjq] at ey
        subst ey
        have hin : vp_in (nI ((t.1 - 1) % 200 - j)) 200 := vp_in_nI (by omega) (by decide)
        refine lv_iload_n hx hb dX6_at_42 rfl (lv_at hl 0 rfl) ?_
        refine va_iald hx hb hK hP 1 0 rfl rfl hin dX6_at_43 ?_
        have e5 : ((t.1 - 1) % 200 - j) = (t.1 - 1 - j) % 200 := by omega
        exact ri C hrt hlocks (by rw [nI_clamp (by omega), e5, hr9]) hP hS dX6_at_44
      · have hjq : (t.1 - 1) % 200 < j := by
          rcases Nat.lt_or_ge ((t.1 - 1) % 200) j with h9 | h9
          · exact h9
          · rw [pk_sub h9] at ey
            exact absurd (by rw [ey]; exact nI_pos' (by omega)) c_3
        have ey2 : y + 200 = nI ((t.1 - 1) % 200 + 200 - j) := by
          rw [ey, ← pk_sub (by omega : j ≤ (t.1 - 1) % 200 + 200), ← nI_add]
          show nI ((t.1 - 1) % 200) - nI j + nI 200 = _
          rw [Int32.sub_eq_add_neg, Int32.sub_eq_add_neg, Int32.add_assoc, Int32.add_comm (-nI j), ← Int32.add_assoc]
        have hin : vp_in (y + 200) 200 := by rw [ey2]; exact vp_in_nI (by omega) (by decide)
        refine lv_iload_n hx hb dX6_at_32 rfl (lv_at hl 0 rfl) ?_
        refine lv_aload_n hx hb dX6_at_33 rfl (lv_at hl 1 rfl) ?_
        refine va_get (D := D) (C := RX6) (T := TX6) (N := 6) hx hb (uc_6 hk.1 _) (fun _ h9 => h9) hown hK hP 0 rfl rfl 0 (by decide) (fl_X6_9 hk.1 _) (fun _ h9 => h9) rfl dX6_at_34 ?_
        refine va_alen hx hb hK hP 1 0 rfl rfl (v := 200) rfl dX6_at_37 ?_
        refine lv_iadd hx hb dX6_at_38 ?_
        refine lv_goto (tgt := 43) hx hb dX6_at_39 (by decide) ?_
        refine va_iald hx hb hK hP 1 0 rfl rfl hin dX6_at_43 ?_
        have e5 : ((t.1 - 1) % 200 + 200 - j) = (t.1 - 1 - j) % 200 := by omega
        exact ri C hrt hlocks (by rw [ey2, nI_clamp (by omega), e5, hr9]) hP hS dX6_at_44
    · refine lv_bipush (v := (-101)) hx hb dX6_at_12 (by decide) ?_
      exact ri C hrt hlocks (hr9.symm.trans (if_pos (Or.inr (Int32.not_lt.mp c_2)))).symm hP hS dX6_at_14

set_option maxHeartbeats 4000000 in
set_option maxRecDepth 100000 in
theorem M_trace (l : Launch) (D : va_G) (ca : Nat → ClassId) (sa : Nat → Nat) (lo : Nat) (x0 da ht hr : Nat) (L : List Nat) (Q : List Pd) (t : Tr) (hok : okP L Q) (i : Int32) (sz : Nat) : Met l yX9_trace [.code yX9_trace cX9_trace 2 (some .int)] ({ frames := 1, cells := 0, slots := 0, locals := 30 }) (PX D ca sa lo sz [.ref x0, .int i] (wx ca x0 da ht hr L Q t)) (QI D (tA t i) (wx ca x0 da ht hr L Q t) (va_A (wx ca x0 da ht hr L Q t) sz)) 0 0 (va_A (wx ca x0 da ht hr L Q t) sz) := by
  refine mk_met (fun A => QI D (tA t i) (wx ca x0 da ht hr L Q t) A) (by decide) (Nat.le_of_ble_eq_true rfl) ?_
  intro p e s m below meth c A ls C hrt hlocks hnm hsz hP hD hS hl
  obtain ⟨hx, hb, hml, hown, hk, hz, hlo, hA, hAl⟩ := id C
  have hK : va_K D cls (tyl ca) s := hk.2.1
  have hl : lv_has ls 2 [(0, .ref x0), (1, .int i)] := hl
  refine lv_aload_n hx hb dX9_trace_0 rfl (lv_at hl 0 rfl) ?_
  refine va_get (D := D) (C := RX9) (T := TX9) (N := 3) hx hb (uc_9 hk.1 _) (fun _ h9 => h9) hown hK hP 0 rfl rfl 1 (by decide) (fl_X9_18 hk.1 _) (fun _ h9 => h9) rfl dX9_trace_1 ?_
  refine lv_iload_n hx hb dX9_trace_4 rfl (lv_at hl 1 rfl) ?_
  have hfr := fr_of C (dx_tr hD) hS
  refine va_calli (run_V (Cn := RX6) (T := TX6) (N := 6) (q0 := 0) (ci := 6) (n := 1) (As := [.int i]) (rest := []) C (m_at l D ca sa lo ht hr t i _) (fun U A9 h => co_X6_at h A9) (in_X6 hk.1 _) (ml_X9_102 hk.1 _) (im_X6_at hk.1 _) (se_X6_X6_at hk.1 _) (by decide +kernel) ⟨⟨rfl, rfl⟩, by decide, by decide⟩ (px_tr hP) (dx_tr hD) hS rfl rfl rfl hl.1 rfl (Nat.le_of_ble_eq_true rfl) dX9_trace_5 ⟨by decide, by decide⟩) hS (fun q _ h => hfr q h) hfr (fun r9 u t9 H locs ht9 hvm hp hB hz1 hk1 hS => ?_)
  subst ht9
  cases hp
  exact ri C hrt hlocks rfl (px_trj hP hD hk1 hB) hS dX9_trace_8

set_option maxHeartbeats 4000000 in
set_option maxRecDepth 100000 in
theorem m_findIn (l : Launch) (D : va_G) (ca : Nat → ClassId) (sa : Nat → Nat) (lo : Nat) (x0 da ht hr : Nat) (L : List Nat) (Q : List Pd) (t : Tr) (hok : okP L Q) (zn x : Int32) (sz : Nat) : Met l yX9_findIn [.code yX9_findIn cX9_findIn 4 (some (.object "AlarmKinds$Plain"))] ({ frames := 1, cells := 0, slots := 0, locals := 30 }) (PX D ca sa lo sz [.ref x0, .int zn, .int x] (wx ca x0 da ht hr L Q t)) (QQ D ((ix Q x).bind (fun i => if (gQ Q i).2.1 = zn then L[i]? else none)) (wx ca x0 da ht hr L Q t) (va_A (wx ca x0 da ht hr L Q t) sz)) 0 0 (va_A (wx ca x0 da ht hr L Q t) sz) := by
  generalize hr9 : ((ix Q x).bind (fun i => if (gQ Q i).2.1 = zn then L[i]? else none)) = r
  refine mk_met (fun A => QQ D r (wx ca x0 da ht hr L Q t) A) (by decide) (Nat.le_of_ble_eq_true rfl) ?_
  intro p e s m below meth c A ls C hrt hlocks hnm hsz hP hD hS hl
  obtain ⟨hx, hb, hml, hown, hk, hz, hlo, hA, hAl⟩ := id C
  have hK : va_K D cls (tyl ca) s := hk.2.1
  have hl : lv_has ls 4 [(0, .ref x0), (1, .int zn), (2, .int x)] := hl
  refine lv_aload_n hx hb dX9_findIn_0 rfl (lv_at hl 0 rfl) ?_
  refine lv_iload_n hx hb dX9_findIn_1 rfl (lv_at hl 2 rfl) ?_
  refine k_find hok C hP hD hS hl.1 ⟨by decide, by decide⟩ (Nat.le_of_ble_eq_true rfl) dX9_findIn_2 ⟨by decide, by decide⟩ (fun hi H locs hP hS => ?_) (fun i a pd hi hj hxj hL hQ hp H locs hP hS => ?_)
  · have hr9 : r = none := by rw [← hr9, hi]; rfl
    subst hr9
    refine lv_astore_nN (lv' := [(3, .null), (0, .ref x0), (1, .int zn), (2, .int x)]) hx hb dX9_findIn_5 rfl hl (by decide) rfl (fun ls hl => ?_)
    refine lv_aload_nN hx hb dX9_findIn_6 rfl (lv_at hl 0 rfl) ?_
    refine lv_ifnullN (tgt := 22) hx hb dX9_findIn_7 (by decide) ?_
    refine lv_null hx hb dX9_findIn_22 ?_
    exact rq_ C hrt hlocks rfl hP hS dX9_findIn_23
  · have hr9 : r = if pd.2.1 = zn then some a else none := by rw [← hr9, hi]; show (if (gQ Q i).2.1 = zn then L[i]? else none) = _; rw [gQ_of hQ, hL]
    obtain ⟨Cn, hd⟩ := isD_kc hp
    refine lv_astore_n (lv' := [(3, .ref a), (0, .ref x0), (1, .int zn), (2, .int x)]) hx hb dX9_findIn_5 rfl hl (by decide) rfl (fun ls hl => ?_)
    refine lv_aload_n hx hb dX9_findIn_6 rfl (lv_at hl 0 rfl) ?_
    refine lv_ifnull hx hb dX9_findIn_7 ?_
    refine lv_aload_n hx hb dX9_findIn_10 rfl (lv_at hl 0 rfl) ?_
    refine va_get (D := D) (C := Cn) (T := TX3) (N := 9) hx hb (hd.2 _ _ hk.1) (fun _ h9 => h9) hown hK hP (4 + i) (wx_at hL hQ) hd.1 2 (by decide) (fl_X9_72 hk.1 _) (fun _ h9 => h9) rfl dX9_findIn_11 ?_
    refine lv_iload_n hx hb dX9_findIn_14 rfl (lv_at hl 2 rfl) ?_
    refine lv_icmp_ne (tgt := 22) hx hb dX9_findIn_15 (by decide) (fun c_1 => ?_) (fun c_1 => ?_)
    · have hr9 : r = none := by rw [hr9, if_neg c_1]
      subst hr9
      refine lv_null hx hb dX9_findIn_22 ?_
      exact rq_ C hrt hlocks rfl hP hS dX9_findIn_23
    · have hr9 : r = some a := by rw [hr9, if_pos (show pd.2.1 = zn from c_1)]
      subst hr9
      refine lv_aload_n hx hb dX9_findIn_18 rfl (lv_at hl 0 rfl) ?_
      refine lv_goto (tgt := 23) hx hb dX9_findIn_19 (by decide) ?_
      exact rq_ C hrt hlocks rfl hP hS dX9_findIn_23

section KFJ
variable {D : va_G} {ca : Nat → ClassId} {sa : Nat → Nat} {lo : Nat} {p : Program} {l : Launch} {e : Env} {R : Room} {s : State} {m : MethodId} {args : Array Value} {below : List Frame} {meth : Method} {c : Code} {cc : ByteArray} {nL : Nat} {A : Nat → Prop} {H : Heap} {locs : List Loc} {cells slots : Nat} {Q9 : State → Prop} {ls : Array Slot} {pc : Nat} {rest : List Value}
variable {x0 da ht hr i a index : Nat} {L : List Nat} {Q : List Pd} {t : Tr} {zn : Int32} {pd : Pd}
theorem ix_nI (hn : Q.length ≤ 20) (hi : i < Q.length) : ix Q (nI i) = some i := by
  rw [ix, if_neg (by
    rintro (h | h)
    · exact nI_pos (by omega) h
    · rw [nI_leI (by omega) (by omega)] at h; omega), nI_clamp (by omega)]
theorem k_findIn (hok : okP L Q) (hi : i < Q.length) (hL : L[i]? = some a) (hQ : Q[i]? = some pd) (C : Cx D ca sa lo p s m c cc nL RX9 A) (hli : (Cond.methodLink RX9 index yX9_findIn).before args s = true) (hP : va_P D cls (wx ca x0 da ht hr L Q t) H) (hD : va_D A (wx ca x0 da ht hr L Q t)) (hS : va_S A s.heap H locs) (hsize : ls.size = nL) (hR : 2 ≤ R.frames ∧ 53 ≤ R.locals) (hW : (rest.map fun v => v.category).sum ≤ 8) (hdg : decode cc pc = .ok (.invokevirtual index, 3)) (hf : cells ≤ R.cells ∧ slots ≤ R.slots)
    (kn : pd.2.1 ≠ zn → ∀ (H1 : Heap) (locs1 : List Loc), va_P D cls (wx ca x0 da ht hr L Q t) H1 → va_S A s.heap H1 locs1 → W p l e R s m args below meth c H1 locs1 cells slots Q9 (F0 m (pc + 3) ls (.null :: rest)))
    (ks : pd.2.1 = zn → ∀ (H1 : Heap) (locs1 : List Loc), va_P D cls (wx ca x0 da ht hr L Q t) H1 → va_S A s.heap H1 locs1 → W p l e R s m args below meth c H1 locs1 cells slots Q9 (F0 m (pc + 3) ls (.ref a :: rest))) :
    W p l e R s m args below meth c H locs cells slots Q9 (F0 m pc ls (.int (nI i) :: .int zn :: .ref x0 :: rest)) := by
  have hk := C.2.2.2.2.1
  have hfr := fr_of C hD hS
  refine va_callq (run_V (Cn := RX9) (T := TX9) (N := 3) (q0 := 0) (ci := 9) (n := 2) (As := [.int zn, .int (nI i)]) (rest := rest) C (m_findIn l D ca sa lo x0 da ht hr L Q t hok zn (nI i) H.size) (fun U A9 h => co_X9_findIn h A9) (in_X9 hk.1 _) hli (im_X9_findIn hk.1 _) (se_X9_X9_findIn hk.1 _) (by decide +kernel) ⟨⟨rfl, rfl⟩, hR.1, hR.2⟩ hP hD hS rfl rfl rfl hsize rfl hW hdg hf) hS (fun q _ h => hfr q h) hfr (fun r u t1 H1 locs1 ht1 hvm hp hB hz1 hk1 hS1 => ?_)
  subst ht1
  have hp : r = if pd.2.1 = zn then some a else none := by
    rw [hp, ix_nI hok.2.1 hi]
    show (if (gQ Q i).2.1 = zn then L[i]? else none) = _
    rw [gQ_of hQ, hL]
  by_cases h : pd.2.1 = zn
  · rw [if_pos h] at hp
    subst hp
    exact ks h _ _ hB hS1
  · rw [if_neg h] at hp
    subst hp
    exact kn h _ _ hB hS1
end KFJ
end
section
def lp {α : Type} (f : Nat → α → α) : Nat → α → α
  | 0, u => u
  | n + 1, u => f n (lp f n u)
abbrev Lu : Type := List Pd × Tr × Int32
def swS (zn v : Int32) (i : Nat) (u : Lu) : Lu := if (gQ u.1 i).2.1 = zn then (sQ u.1 i (pr (gQ u.1 i).1 v (gQ u.1 i).2.2.2 u.2.1).2.1, (pr (gQ u.1 i).1 v (gQ u.1 i).2.2.2 u.2.1).2.2, if (pr (gQ u.1 i).1 v (gQ u.1 i).2.2.2 u.2.1).1 = 0 then u.2.2 else u.2.2 + 1) else u
def alS (zn : Int32) (i : Nat) (u : Lu) : Lu := if (gQ u.1 i).2.1 = zn then (sQ u.1 i (pv (gQ u.1 i).1 (gQ u.1 i).2.2.1 (gQ u.1 i).2.2.2 u.2.1).2.1, (pv (gQ u.1 i).1 (gQ u.1 i).2.2.1 (gQ u.1 i).2.2.2 u.2.1).2.2, u.2.2 + (pv (gQ u.1 i).1 (gQ u.1 i).2.2.1 (gQ u.1 i).2.2.2 u.2.1).1) else u
def csS (i : Nat) (u : Lu) : Lu := (u.1, (pk (gQ u.1 i).1 (gQ u.1 i).2.2.2 u.2.1).2, u.2.2 + (pk (gQ u.1 i).1 (gQ u.1 i).2.2.2 u.2.1).1)
def zS (Q : List Pd) (t : Tr) (zn v : Int32) : Ry := if rng 0 5 zn = true ∧ rng (-10000) 10000 v = true then ((lp (swS zn v) Q.length (Q, t, 0)).2.2, (lp (swS zn v) Q.length (Q, t, 0)).1, (lp (swS zn v) Q.length (Q, t, 0)).2.1) else (-102, Q, t)
def zA (Q : List Pd) (t : Tr) (zn k : Int32) : Ry := if rng 0 5 zn = true ∧ rng 1 60 k = true then (bi (decide (k ≤ (lp (alS zn) Q.length (Q, t, 0)).2.2)), (lp (alS zn) Q.length (Q, t, 0)).1, (lp (alS zn) Q.length (Q, t, 0)).2.1) else (-102, Q, t)
def zP (Q : List Pd) (t : Tr) : Ry := ((lp csS Q.length (Q, t, 0)).2.2, (lp csS Q.length (Q, t, 0)).1, (lp csS Q.length (Q, t, 0)).2.1)
theorem sQ_len (Q : List Pd) (i : Nat) (d : Dv) : (sQ Q i d).length = Q.length := List.length_set
theorem sQ_ok {L : List Nat} {Q : List Pd} {i : Nat} (d : Dv) (h : okP L Q) (hi : i < Q.length) : okP L (sQ Q i d) := by
  refine ⟨by rw [sQ_len]; exact h.1, by rw [sQ_len]; exact h.2.1, fun pd hp => ?_⟩
  rcases List.mem_or_eq_of_mem_set hp with h1 | h1
  · exact h.2.2 pd h1
  · rw [h1]
    have e : gQ Q i = Q[i] := gQ_of (List.getElem?_eq_getElem hi)
    rw [e]
    exact (h.2.2 Q[i] (List.getElem_mem hi) : Q[i].1 < 8)
/-- a method that has handlers of its own, and returns -/
theorem mk_metH {D : va_G} {ca : Nat → ClassId} {sa : Nat → Nat} {lo sz : Nat} {l : Launch} {y : MethodName} {cc : ByteArray} {maxL : Nat} {ret : Option FieldType} {hh : List (Nat × Nat × Nat × Nat)} {rm : Room} {av : List Value} {ws : va_W} {mc ms : Nat} (Qc : (Nat → Prop) → Array Value → State → Outcome → State → Prop)
    (hy : plainName y.cls = true) (hlen : (lg_sl av).length ≤ maxL)
    (body : ∀ (p : Program) (e : Env) (s : State) (m : MethodId) (below : List Frame) (meth : Method) (c : Code) (A : Nat → Prop) (ls : Array Slot), Cx D ca sa lo p s m c cc maxL y.cls A → meth.sig.returnType = ret → meth.locks = false → c.exceptionTable.toList = tableOf hh → s.heap.size = sz → va_P D cls ws s.heap → va_D A ws → va_S A s.heap s.heap [] → lv_has ls maxL (lv_args 0 av) →
      W p l e rm s m av.toArray below meth c s.heap [] 0 0 (MQ below (Qc A) av.toArray s mc ms A) (F0 m 0 ls [])) :
    Met l y [.codeWith y cc maxL ret hh] rm (PX D ca sa lo sz av ws) (Qc (va_A ws sz)) mc ms (va_A ws sz) := by
  refine MetFree.of_bodyS (code := cc) (maxLocals := maxL) (ret := ret) hy ?_ ?_
  · intro args s m h hn
    obtain ⟨m9, meth, c, hn9, h1, h2, h3, h4, -, h5, h6, -⟩ := Cond.codeWith_spec (atoms_spec (ws := [.codeWith y cc maxL ret hh]) h _ List.mem_cons_self)
    cases hn.symm.trans hn9
    exact ⟨meth, c, h1, h2, h3, h4, h5, h6⟩
  · intro p e s m args below meth c s₁ B hml hv _
    have hh0 : s₁.heap = s.heap := by rw [B.state]; rfl
    have htab := vx_table (x := y) B (atoms_spec (ws := [.codeWith y cc maxL ret hh]) B.pre _ List.mem_cons_self)
    obtain ⟨rfl, hsz, hP, hD, hk, hz, hlo⟩ := hv
    subst hsz
    have hA1 : ∀ q : Nat, s.heap.size ≤ q → va_A ws s.heap.size q := fun q h => Or.inr h
    have hA2 : ∀ q : Nat, va_A ws s.heap.size q → lo ≤ q := fun q h => by
      rcases h with ⟨k, e9, hk9⟩ | h
      · exact hD.2 k _ hk9
      · exact Nat.le_trans hlo h
    have hl := lv_entry av (n := maxL) hlen
    have K : W p l e rm s m av.toArray below meth c s.heap [] 0 0 (MQ below (Qc (va_A ws s.heap.size)) av.toArray s mc ms (va_A ws s.heap.size)) (entryFrame m av.toArray maxL) := by
      rw [lg_entry_eq]
      exact body p e s m below meth c (va_A ws s.heap.size) _ ⟨B.exec, B.bytes, hml, findClass_of_methodNamed B.named, hk, hz, hlo, hA1, hA2⟩ B.returns B.notSynchronized htab rfl hP hD.self va_S.rf hl
    obtain ⟨t, a1, o, b1, b2, b3⟩ := K s₁ hh0 (Stand.of_body B)
    exact ⟨t, o, a1, b1, b2, b3⟩
end
section
set_option maxHeartbeats 4000000 in
set_option maxRecDepth 100000 in
theorem L_sweep {p : Program} {l : Launch} {e : Env} {s : State} {m : MethodId} {args : Array Value} {below : List Frame} {meth : Method} {c : Code} {A : Nat → Prop} {D : va_G} {ca : Nat → ClassId} {sa : Nat → Nat} {lo : Nat} {x0 da ht hr : Nat} {L : List Nat} {Q : List Pd} {t : Tr} {zn v : Int32} (hl9 : l.stackTraces = false) (C : Cx D ca sa lo p s m c cX9_sweep 7 RX9 A) (hrt : meth.sig.returnType = some .int) (hlocks : meth.locks = false) (htab : c.exceptionTable.toList = tableOf [(45, 51, 54, 95), (45, 51, 62, 97)]) (hn : Q.length ≤ 20) {r : Ry} (hr9 : r = ((lp (swS zn v) Q.length (Q, t, 0)).2.2, (lp (swS zn v) Q.length (Q, t, 0)).1, (lp (swS zn v) Q.length (Q, t, 0)).2.1)) :
    ∀ (k i : Nat), i + k = Q.length → ∀ (Qc : List Pd) (tc : Tr) (fc : Int32), (Qc, tc, fc) = lp (swS zn v) i (Q, t, 0) → okP L Qc → Qc.length = Q.length → ∀ (H : Heap) (locs : List Loc) (ls : Array Slot), va_P D cls (wx ca x0 da ht hr L Qc tc) H → va_D A (wx ca x0 da ht hr L Qc tc) → va_S A s.heap H locs → lv_has ls 7 [(0, .ref x0), (1, .int zn), (2, .int v), (3, .int fc), (4, .int (nI i))] →
      W p l e ({ frames := 11, cells := 80, slots := 480, locals := 250 }) s m args below meth c H locs (4 * i) (24 * i) (MQ below (QI D r.1 (wx ca x0 da ht hr L r.2.1 r.2.2) A) args s 80 480 A) (F0 m 22 ls []) := by
  obtain ⟨hx, hb, hml, hown, hk, hz, hlo, hA, hAl⟩ := id C
  have hK : va_K D cls (tyl ca) s := hk.2.1
  intro k
  induction k with
  | zero =>
    intro i hik Qc tc fc hu hok hlen H locs ls hP hD hS hl
    obtain rfl : i = Q.length := by omega
    have hl : lv_has ls 7 [(0, .ref x0), (1, .int zn), (2, .int v), (3, .int fc), (4, .int (nI Q.length))] := hl
    refine lv_iload hx hb dX9_sweep_22 (lv_at hl 4 rfl) ?_
    refine lv_aload_n hx hb dX9_sweep_24 rfl (lv_at hl 0 rfl) ?_
    refine va_get (D := D) (C := RX9) (T := TX9) (N := 3) hx hb (uc_9 hk.1 _) (fun _ h9 => h9) hown hK hP 0 rfl rfl 2 (by decide) (fl_X9_22 hk.1 _) (fun _ h9 => h9) rfl dX9_sweep_25 ?_
    refine lv_icmp_ge (tgt := 73) hx hb dX9_sweep_28 (by decide) (fun _ => ?_) (fun c_1 => absurd ((show nI L.length ≤ nI Q.length by rw [nI_leI (by have := hok.1; omega) (by omega)]; have := hok.1; omega)) c_1)
    refine lv_iload_n hx hb dX9_sweep_73 rfl (lv_at hl 3 rfl) ?_
    refine W.widen (k := 80) (n := 480) (by omega) (by omega) ?_
    have e1 : r = (fc, Qc, tc) := by rw [hr9, ← hu]
    subst e1
    exact ri C hrt hlocks rfl hP hS dX9_sweep_74
  | succ k ih =>
    intro i hik Qc tc fc hu hok hlen H locs ls hP hD hS hl
    have hi : i < Qc.length := by omega
    obtain ⟨a, pd, hL, hQ, hp⟩ := at_of hok hi
    refine lv_iload hx hb dX9_sweep_22 (lv_at hl 4 rfl) ?_
    refine lv_aload_n hx hb dX9_sweep_24 rfl (lv_at hl 0 rfl) ?_
    refine va_get (D := D) (C := RX9) (T := TX9) (N := 3) hx hb (uc_9 hk.1 _) (fun _ h9 => h9) hown hK hP 0 rfl rfl 2 (by decide) (fl_X9_22 hk.1 _) (fun _ h9 => h9) rfl dX9_sweep_25 ?_
    refine lv_icmp_ge (tgt := 73) hx hb dX9_sweep_28 (by decide) (fun c_1 => absurd c_1 ((fun h9 : nI L.length ≤ nI i => by rw [nI_leI (by have := hok.1; omega) (by omega)] at h9; have := hok.1; omega))) (fun _ => ?_)
    refine lv_aload_n hx hb dX9_sweep_31 rfl (lv_at hl 0 rfl) ?_
    refine lv_iload_n hx hb dX9_sweep_32 rfl (lv_at hl 1 rfl) ?_
    refine lv_iload hx hb dX9_sweep_33 (lv_at hl 4 rfl) ?_
    refine k_findIn hok hi hL hQ C (ml_X9_91 hk.1 _) hP hD hS hl.1 ⟨by decide, by decide⟩ (Nat.le_of_ble_eq_true rfl) dX9_sweep_35 ⟨by show 4 * i ≤ 80; omega, by show 24 * i ≤ 480; omega⟩ (fun hz9 H locs hP hS => ?_) (fun hz9 H locs hP hS => ?_)
    · refine lv_astoreN (lv' := [(5, .null), (0, .ref x0), (1, .int zn), (2, .int v), (3, .int fc), (4, .int (nI i))]) hx hb dX9_sweep_38 hl (by decide) rfl (fun ls hl => ?_)
      refine lv_aloadN hx hb dX9_sweep_40 (lv_at hl 0 rfl) ?_
      refine lv_ifnullN (tgt := 67) hx hb dX9_sweep_42 (by decide) ?_
      refine lv_iinc (v := (nI i) + 1) (lv' := [(4, .int ((nI i) + 1)), (5, .null), (0, .ref x0), (1, .int zn), (2, .int v), (3, .int fc)]) hx hb dX9_sweep_67 hl (k := 5) rfl rfl (by decide) rfl (fun ls hl => ?_)
      refine lv_goto (tgt := 22) hx hb dX9_sweep_70 (by decide) ?_
      have hl : lv_has ls 7 [(0, .ref x0), (1, .int zn), (2, .int v), (3, .int fc), (4, .int (nI (i + 1)))] := by rw [← nI_1]; exact lv_sub hl [2, 3, 4, 5, 0] rfl
      refine W.widen (k := 4 * (i + 1)) (n := 24 * (i + 1)) (by omega) (by omega) ?_
      exact ih (i + 1) (by omega) Qc tc fc (by show _ = swS zn v i (lp (swS zn v) i (Q, t, 0)); rw [← hu]; exact (if_neg (by rw [gQ_of hQ]; exact hz9)).symm) hok hlen H locs ls hP hD hS hl
    · refine lv_astore (lv' := [(5, .ref a), (0, .ref x0), (1, .int zn), (2, .int v), (3, .int fc), (4, .int (nI i))]) hx hb dX9_sweep_38 hl (by decide) rfl (fun ls hl => ?_)
      refine lv_aload hx hb dX9_sweep_40 (lv_at hl 0 rfl) ?_
      refine lv_ifnull hx hb dX9_sweep_42 ?_
      refine lv_aload hx hb dX9_sweep_45 (lv_at hl 0 rfl) ?_
      refine lv_iload_n hx hb dX9_sweep_47 rfl (lv_at hl 3 rfl) ?_
      refine vf_r (kd := pd.1) (K := nI pd.1) (zn := pd.2.1) (lm := pd.2.2.1) (d := pd.2.2.2) (t := tc) (h0 := a) hl9 (k8 hp) C (ml_X9_47 hk.1 _) (px_cut hP hL hQ) (dx_cut hD hL hQ) hS hl.1 (Nat.le_of_ble_eq_true rfl) dX9_sweep_48 ⟨by decide, by decide, by show 4 * i + 4 ≤ 80; omega, by show 24 * i + 24 ≤ 480; omega⟩ (fun E ce q9 H locs he hB hD1 hS hf1 h1 h2 h3 => ?_) (fun h0c H locs hB hD1 hS hf1 => ?_)
      · have hP : va_P D cls (wx ca x0 da ht hr L (Qc.set i (pd.1, pd.2.1, pd.2.2.1, (pr pd.1 v pd.2.2.2 tc).2.1)) (pr pd.1 v pd.2.2.2 tc).2.2) H := px_join hP hD hL hQ hf1 hB
        have hD : va_D A (wx ca x0 da ht hr L (Qc.set i (pd.1, pd.2.1, pd.2.2.1, (pr pd.1 v pd.2.2.2 tc).2.1)) (pr pd.1 v pd.2.2.2 tc).2.2) := hD.to (wx_map hok.1 List.length_set)
        rw [← sQ_of hQ] at hP hD
        have hne : ¬ (pr pd.1 v pd.2.2.2 tc).1 = 0 := fun h => en_0 h he
        rcases id he with ⟨-, rfl⟩ | ⟨-, rfl⟩
        · refine vx_catch (own := RX9) (name := "java/lang/IllegalStateException") hown [] ⟨45, 51, 54, 95⟩ [⟨45, 51, 62, 97⟩] htab (fun z hz => nomatch hz) (by decide) (by decide) (cl_X9_95 hk.1 _) (va_Nw.use rfl (hk.2.2.1 ("java/lang/IllegalStateException", "java/lang/IllegalStateException") (by decide))) h1 h2 h3 ?_
          refine lv_astore (lv' := [(6, .ref q9), (5, .ref a), (0, .ref x0), (1, .int zn), (2, .int v), (3, .int fc), (4, .int (nI i))]) hx hb dX9_sweep_54 hl (by decide) rfl (fun ls hl => ?_)
          refine lv_iinc (v := fc + 1) (lv' := [(3, .int (fc + 1)), (6, .ref q9), (5, .ref a), (0, .ref x0), (1, .int zn), (2, .int v), (4, .int (nI i))]) hx hb dX9_sweep_56 hl (k := 5) rfl rfl (by decide) rfl (fun ls hl => ?_)
          refine lv_goto (tgt := 67) hx hb dX9_sweep_59 (by decide) ?_
          refine lv_iinc (v := (nI i) + 1) (lv' := [(4, .int ((nI i) + 1)), (3, .int (fc + 1)), (6, .ref q9), (5, .ref a), (0, .ref x0), (1, .int zn), (2, .int v)]) hx hb dX9_sweep_67 hl (k := 6) rfl rfl (by decide) rfl (fun ls hl => ?_)
          refine lv_goto (tgt := 22) hx hb dX9_sweep_70 (by decide) ?_
          have hl : lv_has ls 7 [(0, .ref x0), (1, .int zn), (2, .int v), (3, .int (fc + 1)), (4, .int (nI (i + 1)))] := by rw [← nI_1]; exact lv_sub hl [4, 5, 6, 1, 0] rfl
          refine W.widen (k := 4 * (i + 1)) (n := 24 * (i + 1)) (by omega) (by omega) ?_
          exact ih (i + 1) (by omega) (sQ Qc i (pr pd.1 v pd.2.2.2 tc).2.1) (pr pd.1 v pd.2.2.2 tc).2.2 (fc + 1) (by show _ = swS zn v i (lp (swS zn v) i (Q, t, 0)); rw [← hu]; show _ = (if (gQ Qc i).2.1 = zn then _ else _); rw [if_pos (by rw [gQ_of hQ]; exact hz9)]; show _ = (sQ Qc i (pr (gQ Qc i).1 v (gQ Qc i).2.2.2 tc).2.1, (pr (gQ Qc i).1 v (gQ Qc i).2.2.2 tc).2.2, if (pr (gQ Qc i).1 v (gQ Qc i).2.2.2 tc).1 = 0 then fc else fc + 1); rw [gQ_of hQ, if_neg hne]) (sQ_ok _ hok hi) ((sQ_len _ _ _).trans hlen) H locs ls hP hD hS hl
        · refine vx_catch (own := RX9) (name := "java/lang/ArithmeticException") hown [⟨45, 51, 54, 95⟩] ⟨45, 51, 62, 97⟩ [] htab (fun z hz => by cases List.mem_singleton.mp hz; exact Or.inr ⟨by decide, _, cl_X9_95 hk.1 _, hk.2.2.2.1⟩) (by decide) (by decide) (cl_X9_97 hk.1 _) (va_Nw.use rfl (hk.2.2.1 ("java/lang/ArithmeticException", "java/lang/ArithmeticException") (by decide))) h1 h2 h3 ?_
          refine lv_astore (lv' := [(6, .ref q9), (5, .ref a), (0, .ref x0), (1, .int zn), (2, .int v), (3, .int fc), (4, .int (nI i))]) hx hb dX9_sweep_62 hl (by decide) rfl (fun ls hl => ?_)
          refine lv_iinc (v := fc + 1) (lv' := [(3, .int (fc + 1)), (6, .ref q9), (5, .ref a), (0, .ref x0), (1, .int zn), (2, .int v), (4, .int (nI i))]) hx hb dX9_sweep_64 hl (k := 5) rfl rfl (by decide) rfl (fun ls hl => ?_)
          refine lv_iinc (v := (nI i) + 1) (lv' := [(4, .int ((nI i) + 1)), (3, .int (fc + 1)), (6, .ref q9), (5, .ref a), (0, .ref x0), (1, .int zn), (2, .int v)]) hx hb dX9_sweep_67 hl (k := 6) rfl rfl (by decide) rfl (fun ls hl => ?_)
          refine lv_goto (tgt := 22) hx hb dX9_sweep_70 (by decide) ?_
          have hl : lv_has ls 7 [(0, .ref x0), (1, .int zn), (2, .int v), (3, .int (fc + 1)), (4, .int (nI (i + 1)))] := by rw [← nI_1]; exact lv_sub hl [4, 5, 6, 1, 0] rfl
          refine W.widen (k := 4 * (i + 1)) (n := 24 * (i + 1)) (by omega) (by omega) ?_
          exact ih (i + 1) (by omega) (sQ Qc i (pr pd.1 v pd.2.2.2 tc).2.1) (pr pd.1 v pd.2.2.2 tc).2.2 (fc + 1) (by show _ = swS zn v i (lp (swS zn v) i (Q, t, 0)); rw [← hu]; show _ = (if (gQ Qc i).2.1 = zn then _ else _); rw [if_pos (by rw [gQ_of hQ]; exact hz9)]; show _ = (sQ Qc i (pr (gQ Qc i).1 v (gQ Qc i).2.2.2 tc).2.1, (pr (gQ Qc i).1 v (gQ Qc i).2.2.2 tc).2.2, if (pr (gQ Qc i).1 v (gQ Qc i).2.2.2 tc).1 = 0 then fc else fc + 1); rw [gQ_of hQ, if_neg hne]) (sQ_ok _ hok hi) ((sQ_len _ _ _).trans hlen) H locs ls hP hD hS hl
      · have hP : va_P D cls (wx ca x0 da ht hr L (Qc.set i (pd.1, pd.2.1, pd.2.2.1, (pr pd.1 v pd.2.2.2 tc).2.1)) (pr pd.1 v pd.2.2.2 tc).2.2) H := px_join hP hD hL hQ hf1 hB
        have hD : va_D A (wx ca x0 da ht hr L (Qc.set i (pd.1, pd.2.1, pd.2.2.1, (pr pd.1 v pd.2.2.2 tc).2.1)) (pr pd.1 v pd.2.2.2 tc).2.2) := hD.to (wx_map hok.1 List.length_set)
        rw [← sQ_of hQ] at hP hD
        refine lv_goto (tgt := 67) hx hb dX9_sweep_51 (by decide) ?_
        refine lv_iinc (v := (nI i) + 1) (lv' := [(4, .int ((nI i) + 1)), (5, .ref a), (0, .ref x0), (1, .int zn), (2, .int v), (3, .int fc)]) hx hb dX9_sweep_67 hl (k := 5) rfl rfl (by decide) rfl (fun ls hl => ?_)
        refine lv_goto (tgt := 22) hx hb dX9_sweep_70 (by decide) ?_
        have hl : lv_has ls 7 [(0, .ref x0), (1, .int zn), (2, .int v), (3, .int fc), (4, .int (nI (i + 1)))] := by rw [← nI_1]; exact lv_sub hl [2, 3, 4, 5, 0] rfl
        refine W.widen (k := 4 * (i + 1)) (n := 24 * (i + 1)) (by omega) (by omega) ?_
        exact ih (i + 1) (by omega) (sQ Qc i (pr pd.1 v pd.2.2.2 tc).2.1) (pr pd.1 v pd.2.2.2 tc).2.2 fc (by show _ = swS zn v i (lp (swS zn v) i (Q, t, 0)); rw [← hu]; show _ = (if (gQ Qc i).2.1 = zn then _ else _); rw [if_pos (by rw [gQ_of hQ]; exact hz9)]; show _ = (sQ Qc i (pr (gQ Qc i).1 v (gQ Qc i).2.2.2 tc).2.1, (pr (gQ Qc i).1 v (gQ Qc i).2.2.2 tc).2.2, if (pr (gQ Qc i).1 v (gQ Qc i).2.2.2 tc).1 = 0 then fc else fc + 1); rw [gQ_of hQ, if_pos h0c]) (sQ_ok _ hok hi) ((sQ_len _ _ _).trans hlen) H locs ls hP hD hS hl

set_option maxHeartbeats 4000000 in
set_option maxRecDepth 100000 in
theorem L_alarm {p : Program} {l : Launch} {e : Env} {s : State} {m : MethodId} {args : Array Value} {below : List Frame} {meth : Method} {c : Code} {A : Nat → Prop} {D : va_G} {ca : Nat → ClassId} {sa : Nat → Nat} {lo : Nat} {x0 da ht hr : Nat} {L : List Nat} {Q : List Pd} {t : Tr} {zn kq : Int32} (C : Cx D ca sa lo p s m c cX9_alarm 6 RX9 A) (hrt : meth.sig.returnType = some .int) (hlocks : meth.locks = false) (hn : Q.length ≤ 20) {r : Ry} (hr9 : r = (bi (decide (kq ≤ (lp (alS zn) Q.length (Q, t, 0)).2.2)), (lp (alS zn) Q.length (Q, t, 0)).1, (lp (alS zn) Q.length (Q, t, 0)).2.1)) :
    ∀ (k i : Nat), i + k = Q.length → ∀ (Qc : List Pd) (tc : Tr) (fc : Int32), (Qc, tc, fc) = lp (alS zn) i (Q, t, 0) → okP L Qc → Qc.length = Q.length → ∀ (H : Heap) (locs : List Loc) (ls : Array Slot), va_P D cls (wx ca x0 da ht hr L Qc tc) H → va_D A (wx ca x0 da ht hr L Qc tc) → va_S A s.heap H locs → lv_has ls 6 [(0, .ref x0), (1, .int zn), (2, .int kq), (3, .int fc), (4, .int (nI i))] →
      W p l e ({ frames := 4, cells := 0, slots := 0, locals := 120 }) s m args below meth c H locs 0 0 (MQ below (QI D r.1 (wx ca x0 da ht hr L r.2.1 r.2.2) A) args s 0 0 A) (F0 m 26 ls []) := by
  obtain ⟨hx, hb, hml, hown, hk, hz, hlo, hA, hAl⟩ := id C
  have hK : va_K D cls (tyl ca) s := hk.2.1
  intro k
  induction k with
  | zero =>
    intro i hik Qc tc fc hu hok hlen H locs ls hP hD hS hl
    obtain rfl : i = Q.length := by omega
    have hl : lv_has ls 6 [(0, .ref x0), (1, .int zn), (2, .int kq), (3, .int fc), (4, .int (nI Q.length))] := hl
    refine lv_iload hx hb dX9_alarm_26 (lv_at hl 4 rfl) ?_
    refine lv_aload_n hx hb dX9_alarm_28 rfl (lv_at hl 0 rfl) ?_
    refine va_get (D := D) (C := RX9) (T := TX9) (N := 3) hx hb (uc_9 hk.1 _) (fun _ h9 => h9) hown hK hP 0 rfl rfl 2 (by decide) (fl_X9_22 hk.1 _) (fun _ h9 => h9) rfl dX9_alarm_29 ?_
    refine lv_icmp_ge (tgt := 63) hx hb dX9_alarm_32 (by decide) (fun _ => ?_) (fun c_1 => absurd ((show nI L.length ≤ nI Q.length by rw [nI_leI (by have := hok.1; omega) (by omega)]; have := hok.1; omega)) c_1)
    refine lv_iload_n hx hb dX9_alarm_63 rfl (lv_at hl 3 rfl) ?_
    refine lv_iload_n hx hb dX9_alarm_64 rfl (lv_at hl 2 rfl) ?_
    refine lv_icmp_lt (tgt := 72) hx hb dX9_alarm_65 (by decide) (fun c_2 => ?_) (fun c_2 => ?_)
    · refine lv_iconst (v := 0) hx hb dX9_alarm_72 (by decide) ?_
      have e1 : r = (bi (decide (kq ≤ fc)), Qc, tc) := by rw [hr9, ← hu]
      subst e1
      exact ri C hrt hlocks (bi_f (P := kq ≤ fc) (Int32.not_le.mpr c_2)) hP hS dX9_alarm_73
    · refine lv_iconst (v := 1) hx hb dX9_alarm_68 (by decide) ?_
      refine lv_goto (tgt := 73) hx hb dX9_alarm_69 (by decide) ?_
      have e1 : r = (bi (decide (kq ≤ fc)), Qc, tc) := by rw [hr9, ← hu]
      subst e1
      exact ri C hrt hlocks (bi_t (P := kq ≤ fc) (Int32.not_lt.mp c_2)) hP hS dX9_alarm_73
  | succ k ih =>
    intro i hik Qc tc fc hu hok hlen H locs ls hP hD hS hl
    have hi : i < Qc.length := by omega
    obtain ⟨a, pd, hL, hQ, hp⟩ := at_of hok hi
    refine lv_iload hx hb dX9_alarm_26 (lv_at hl 4 rfl) ?_
    refine lv_aload_n hx hb dX9_alarm_28 rfl (lv_at hl 0 rfl) ?_
    refine va_get (D := D) (C := RX9) (T := TX9) (N := 3) hx hb (uc_9 hk.1 _) (fun _ h9 => h9) hown hK hP 0 rfl rfl 2 (by decide) (fl_X9_22 hk.1 _) (fun _ h9 => h9) rfl dX9_alarm_29 ?_
    refine lv_icmp_ge (tgt := 63) hx hb dX9_alarm_32 (by decide) (fun c_1 => absurd c_1 ((fun h9 : nI L.length ≤ nI i => by rw [nI_leI (by have := hok.1; omega) (by omega)] at h9; have := hok.1; omega))) (fun _ => ?_)
    refine lv_aload_n hx hb dX9_alarm_35 rfl (lv_at hl 0 rfl) ?_
    refine lv_iload_n hx hb dX9_alarm_36 rfl (lv_at hl 1 rfl) ?_
    refine lv_iload hx hb dX9_alarm_37 (lv_at hl 4 rfl) ?_
    refine k_findIn hok hi hL hQ C (ml_X9_91 hk.1 _) hP hD hS hl.1 ⟨by decide, by decide⟩ (Nat.le_of_ble_eq_true rfl) dX9_alarm_39 ⟨by decide, by decide⟩ (fun hz9 H locs hP hS => ?_) (fun hz9 H locs hP hS => ?_)
    · refine lv_astoreN (lv' := [(5, .null), (0, .ref x0), (1, .int zn), (2, .int kq), (3, .int fc), (4, .int (nI i))]) hx hb dX9_alarm_42 hl (by decide) rfl (fun ls hl => ?_)
      refine lv_aloadN hx hb dX9_alarm_44 (lv_at hl 0 rfl) ?_
      refine lv_ifnullN (tgt := 57) hx hb dX9_alarm_46 (by decide) ?_
      refine lv_iinc (v := (nI i) + 1) (lv' := [(4, .int ((nI i) + 1)), (5, .null), (0, .ref x0), (1, .int zn), (2, .int kq), (3, .int fc)]) hx hb dX9_alarm_57 hl (k := 5) rfl rfl (by decide) rfl (fun ls hl => ?_)
      refine lv_goto (tgt := 26) hx hb dX9_alarm_60 (by decide) ?_
      have hl : lv_has ls 6 [(0, .ref x0), (1, .int zn), (2, .int kq), (3, .int fc), (4, .int (nI (i + 1)))] := by rw [← nI_1]; exact lv_sub hl [2, 3, 4, 5, 0] rfl
      exact ih (i + 1) (by omega) Qc tc fc (by show _ = alS zn i (lp (alS zn) i (Q, t, 0)); rw [← hu]; exact (if_neg (by rw [gQ_of hQ]; exact hz9)).symm) hok hlen H locs ls hP hD hS hl
    · refine lv_astore (lv' := [(5, .ref a), (0, .ref x0), (1, .int zn), (2, .int kq), (3, .int fc), (4, .int (nI i))]) hx hb dX9_alarm_42 hl (by decide) rfl (fun ls hl => ?_)
      refine lv_aload hx hb dX9_alarm_44 (lv_at hl 0 rfl) ?_
      refine lv_ifnull hx hb dX9_alarm_46 ?_
      refine lv_iload_n hx hb dX9_alarm_49 rfl (lv_at hl 4 rfl) ?_
      refine lv_aload hx hb dX9_alarm_50 (lv_at hl 0 rfl) ?_
      refine vf_v (kd := pd.1) (K := nI pd.1) (zn := pd.2.1) (lm := pd.2.2.1) (d := pd.2.2.2) (t := tc) (h0 := a) (k8 hp) C (ml_X9_99 hk.1 _) (px_cut hP hL hQ) (dx_cut hD hL hQ) hS hl.1 (Nat.le_of_ble_eq_true rfl) dX9_alarm_52 ⟨by decide, by decide, by decide, by decide⟩ (fun H locs hB hD1 hS hf1 => ?_)
      have hP : va_P D cls (wx ca x0 da ht hr L (Qc.set i (pd.1, pd.2.1, pd.2.2.1, (pv pd.1 pd.2.2.1 pd.2.2.2 tc).2.1)) (pv pd.1 pd.2.2.1 pd.2.2.2 tc).2.2) H := px_join hP hD hL hQ hf1 hB
      have hD : va_D A (wx ca x0 da ht hr L (Qc.set i (pd.1, pd.2.1, pd.2.2.1, (pv pd.1 pd.2.2.1 pd.2.2.2 tc).2.1)) (pv pd.1 pd.2.2.1 pd.2.2.2 tc).2.2) := hD.to (wx_map hok.1 List.length_set)
      rw [← sQ_of hQ] at hP hD
      refine lv_iadd hx hb dX9_alarm_55 ?_
      refine lv_istore_n (lv' := [(3, .int (fc + ((pv pd.1 pd.2.2.1 pd.2.2.2 tc).1))), (5, .ref a), (0, .ref x0), (1, .int zn), (2, .int kq), (4, .int (nI i))]) hx hb dX9_alarm_56 rfl hl (by decide) rfl (fun ls hl => ?_)
      refine lv_iinc (v := (nI i) + 1) (lv' := [(4, .int ((nI i) + 1)), (3, .int (fc + ((pv pd.1 pd.2.2.1 pd.2.2.2 tc).1))), (5, .ref a), (0, .ref x0), (1, .int zn), (2, .int kq)]) hx hb dX9_alarm_57 hl (k := 5) rfl rfl (by decide) rfl (fun ls hl => ?_)
      refine lv_goto (tgt := 26) hx hb dX9_alarm_60 (by decide) ?_
      have hl : lv_has ls 6 [(0, .ref x0), (1, .int zn), (2, .int kq), (3, .int (fc + ((pv pd.1 pd.2.2.1 pd.2.2.2 tc).1))), (4, .int (nI (i + 1)))] := by rw [← nI_1]; exact lv_sub hl [3, 4, 5, 1, 0] rfl
      exact ih (i + 1) (by omega) (sQ Qc i (pv pd.1 pd.2.2.1 pd.2.2.2 tc).2.1) (pv pd.1 pd.2.2.1 pd.2.2.2 tc).2.2 (fc + (pv pd.1 pd.2.2.1 pd.2.2.2 tc).1) (by show _ = alS zn i (lp (alS zn) i (Q, t, 0)); rw [← hu]; show _ = (if (gQ Qc i).2.1 = zn then _ else _); rw [if_pos (by rw [gQ_of hQ]; exact hz9)]; show _ = (sQ Qc i (pv (gQ Qc i).1 (gQ Qc i).2.2.1 (gQ Qc i).2.2.2 tc).2.1, (pv (gQ Qc i).1 (gQ Qc i).2.2.1 (gQ Qc i).2.2.2 tc).2.2, fc + (pv (gQ Qc i).1 (gQ Qc i).2.2.1 (gQ Qc i).2.2.2 tc).1); rw [gQ_of hQ]) (sQ_ok _ hok hi) ((sQ_len _ _ _).trans hlen) H locs ls hP hD hS hl

set_option maxHeartbeats 4000000 in
set_option maxRecDepth 100000 in
theorem L_costs {p : Program} {l : Launch} {e : Env} {s : State} {m : MethodId} {args : Array Value} {below : List Frame} {meth : Method} {c : Code} {A : Nat → Prop} {D : va_G} {ca : Nat → ClassId} {sa : Nat → Nat} {lo : Nat} {x0 da ht hr : Nat} {L : List Nat} {Q : List Pd} {t : Tr}  (C : Cx D ca sa lo p s m c cX9_costs 4 RX9 A) (hrt : meth.sig.returnType = some .int) (hlocks : meth.locks = false) (hn : Q.length ≤ 20) {r : Ry} (hr9 : r = ((lp csS Q.length (Q, t, 0)).2.2, (lp csS Q.length (Q, t, 0)).1, (lp csS Q.length (Q, t, 0)).2.1)) :
    ∀ (k i : Nat), i + k = Q.length → ∀ (Qc : List Pd) (tc : Tr) (fc : Int32), (Qc, tc, fc) = lp (csS) i (Q, t, 0) → okP L Qc → Qc.length = Q.length → ∀ (H : Heap) (locs : List Loc) (ls : Array Slot), va_P D cls (wx ca x0 da ht hr L Qc tc) H → va_D A (wx ca x0 da ht hr L Qc tc) → va_S A s.heap H locs → lv_has ls 4 [(0, .ref x0), (1, .int fc), (2, .int (nI i))] →
      W p l e ({ frames := 3, cells := 0, slots := 0, locals := 90 }) s m args below meth c H locs 0 0 (MQ below (QI D r.1 (wx ca x0 da ht hr L r.2.1 r.2.2) A) args s 0 0 A) (F0 m 4 ls []) := by
  obtain ⟨hx, hb, hml, hown, hk, hz, hlo, hA, hAl⟩ := id C
  have hK : va_K D cls (tyl ca) s := hk.2.1
  intro k
  induction k with
  | zero =>
    intro i hik Qc tc fc hu hok hlen H locs ls hP hD hS hl
    obtain rfl : i = Q.length := by omega
    have hl : lv_has ls 4 [(0, .ref x0), (1, .int fc), (2, .int (nI Q.length))] := hl
    refine lv_iload_n hx hb dX9_costs_4 rfl (lv_at hl 2 rfl) ?_
    refine lv_aload_n hx hb dX9_costs_5 rfl (lv_at hl 0 rfl) ?_
    refine va_get (D := D) (C := RX9) (T := TX9) (N := 3) hx hb (uc_9 hk.1 _) (fun _ h9 => h9) hown hK hP 0 rfl rfl 2 (by decide) (fl_X9_22 hk.1 _) (fun _ h9 => h9) rfl dX9_costs_6 ?_
    refine lv_icmp_ge (tgt := 35) hx hb dX9_costs_9 (by decide) (fun _ => ?_) (fun c_1 => absurd ((show nI L.length ≤ nI Q.length by rw [nI_leI (by have := hok.1; omega) (by omega)]; have := hok.1; omega)) c_1)
    refine lv_iload_n hx hb dX9_costs_35 rfl (lv_at hl 1 rfl) ?_
    have e1 : r = (fc, Qc, tc) := by rw [hr9, ← hu]
    subst e1
    exact ri C hrt hlocks rfl hP hS dX9_costs_36
  | succ k ih =>
    intro i hik Qc tc fc hu hok hlen H locs ls hP hD hS hl
    have hi : i < Qc.length := by omega
    obtain ⟨a, pd, hL, hQ, hp⟩ := at_of hok hi
    refine lv_iload_n hx hb dX9_costs_4 rfl (lv_at hl 2 rfl) ?_
    refine lv_aload_n hx hb dX9_costs_5 rfl (lv_at hl 0 rfl) ?_
    refine va_get (D := D) (C := RX9) (T := TX9) (N := 3) hx hb (uc_9 hk.1 _) (fun _ h9 => h9) hown hK hP 0 rfl rfl 2 (by decide) (fl_X9_22 hk.1 _) (fun _ h9 => h9) rfl dX9_costs_6 ?_
    refine lv_icmp_ge (tgt := 35) hx hb dX9_costs_9 (by decide) (fun c_1 => absurd c_1 ((fun h9 : nI L.length ≤ nI i => by rw [nI_leI (by have := hok.1; omega) (by omega)] at h9; have := hok.1; omega))) (fun _ => ?_)
    refine lv_aload_n hx hb dX9_costs_12 rfl (lv_at hl 0 rfl) ?_
    refine lv_iload_n hx hb dX9_costs_13 rfl (lv_at hl 2 rfl) ?_
    refine k_find hok C hP hD hS hl.1 ⟨by decide, by decide⟩ (Nat.le_of_ble_eq_true rfl) dX9_costs_14 ⟨by decide, by decide⟩ (fun hi9 H locs hP hS => ?_) (fun i9 a9 pd9 hi9 hj9 hxj hL9 hQ9 hp9 H locs hP hS => ?_)
    · rw [ix_nI hok.2.1 hi] at hi9; cases hi9
    · rw [ix_nI hok.2.1 hi] at hi9; cases hi9
      rw [hL] at hL9; cases hL9
      refine lv_astore_n (lv' := [(3, .ref a), (0, .ref x0), (1, .int fc), (2, .int (nI i))]) hx hb dX9_costs_17 rfl hl (by decide) rfl (fun ls hl => ?_)
      refine lv_aload_n hx hb dX9_costs_18 rfl (lv_at hl 0 rfl) ?_
      refine lv_ifnull hx hb dX9_costs_19 ?_
      refine lv_iload_n hx hb dX9_costs_22 rfl (lv_at hl 2 rfl) ?_
      refine lv_aload_n hx hb dX9_costs_23 rfl (lv_at hl 0 rfl) ?_
      refine vf_k (kd := pd.1) (K := nI pd.1) (zn := pd.2.1) (lm := pd.2.2.1) (d := pd.2.2.2) (t := tc) (h0 := a) (k8 hp) C (ml_X9_65 hk.1 _) (px_cut hP hL hQ) (dx_cut hD hL hQ) hS hl.1 (Nat.le_of_ble_eq_true rfl) dX9_costs_24 ⟨by decide, by decide, by decide, by decide⟩ (fun H locs hB hD1 hS hf1 => ?_)
      have hP : va_P D cls (wx ca x0 da ht hr L (Qc.set i (pd.1, pd.2.1, pd.2.2.1, pd.2.2.2)) (pk pd.1 pd.2.2.2 tc).2) H := px_join hP hD hL hQ hf1 hB
      have hD : va_D A (wx ca x0 da ht hr L (Qc.set i (pd.1, pd.2.1, pd.2.2.1, pd.2.2.2)) (pk pd.1 pd.2.2.2 tc).2) := hD.to (wx_map hok.1 List.length_set)
      have e9 : Qc.set i (pd.1, pd.2.1, pd.2.2.1, pd.2.2.2) = Qc := by
        obtain ⟨h1, h2⟩ := List.getElem?_eq_some_iff.mp hQ
        rw [show (pd.1, pd.2.1, pd.2.2.1, pd.2.2.2) = Qc[i] from h2.symm]; exact List.set_getElem_self h1
      rw [e9] at hP hD
      refine lv_iadd hx hb dX9_costs_27 ?_
      refine lv_istore_n (lv' := [(1, .int (fc + ((pk pd.1 pd.2.2.2 tc).1))), (3, .ref a), (0, .ref x0), (2, .int (nI i))]) hx hb dX9_costs_28 rfl hl (by decide) rfl (fun ls hl => ?_)
      refine lv_iinc (v := (nI i) + 1) (lv' := [(2, .int ((nI i) + 1)), (1, .int (fc + ((pk pd.1 pd.2.2.2 tc).1))), (3, .ref a), (0, .ref x0)]) hx hb dX9_costs_29 hl (k := 3) rfl rfl (by decide) rfl (fun ls hl => ?_)
      refine lv_goto (tgt := 4) hx hb dX9_costs_32 (by decide) ?_
      have hl : lv_has ls 4 [(0, .ref x0), (1, .int (fc + ((pk pd.1 pd.2.2.2 tc).1))), (2, .int (nI (i + 1)))] := by rw [← nI_1]; exact lv_sub hl [3, 1, 0] rfl
      exact ih (i + 1) (by omega) Qc (pk pd.1 pd.2.2.2 tc).2 (fc + (pk pd.1 pd.2.2.2 tc).1) (by show _ = csS i (lp csS i (Q, t, 0)); rw [← hu]; show _ = (Qc, (pk (gQ Qc i).1 (gQ Qc i).2.2.2 tc).2, fc + (pk (gQ Qc i).1 (gQ Qc i).2.2.2 tc).1); rw [gQ_of hQ]) hok hlen H locs ls hP hD hS hl
end
section
set_option maxHeartbeats 4000000 in
set_option maxRecDepth 100000 in
theorem M_sweep (l : Launch) (D : va_G) (ca : Nat → ClassId) (sa : Nat → Nat) (lo : Nat) (hl9 : l.stackTraces = false) (x0 da ht hr : Nat) (L : List Nat) (Q : List Pd) (t : Tr) (hok : okP L Q) (zn v : Int32) (sz : Nat) : Met l yX9_sweep [.codeWith yX9_sweep cX9_sweep 7 (some .int) [(45, 51, 54, 95), (45, 51, 62, 97)]] ({ frames := 11, cells := 80, slots := 480, locals := 250 }) (PX D ca sa lo sz [.ref x0, .int zn, .int v] (wx ca x0 da ht hr L Q t)) (QI D (zS Q t zn v).1 (wx ca x0 da ht hr L (zS Q t zn v).2.1 (zS Q t zn v).2.2) (va_A (wx ca x0 da ht hr L Q t) sz)) 80 480 (va_A (wx ca x0 da ht hr L Q t) sz) := by
  generalize hr9 : zS Q t zn v = r
  refine mk_metH (fun A => QI D r.1 (wx ca x0 da ht hr L r.2.1 r.2.2) A) (by decide) (Nat.le_of_ble_eq_true rfl) ?_
  intro p e s m below meth c A ls C hrt hlocks htab hsz hP hD hS hl
  obtain ⟨hx, hb, hml, hown, hk, hz, hlo, hA, hAl⟩ := id C
  have hK : va_K D cls (tyl ca) s := hk.2.1
  have hl : lv_has ls 7 [(0, .ref x0), (1, .int zn), (2, .int v)] := hl
  refine lv_iload_n hx hb dX9_sweep_0 rfl (lv_at hl 1 rfl) ?_
  refine k_num (n := 1) C (m_isZone l D ca sa lo zn) (fun U A9 h => co_X9_isZone h A9) (in_X9 hk.1 _) (ml_X9_30 hk.1 _) (st_X9_isZone hk.1 _) (by decide +kernel) ⟨⟨rfl, rfl⟩, by decide, by decide⟩ hP hS rfl hl.1 rfl (Nat.le_of_ble_eq_true rfl) dX9_sweep_1 ⟨by decide, by decide⟩ (fun H locs hP hS _ _ => ?_)
  refine lv_if_eq (tgt := 14) hx hb dX9_sweep_4 (by decide) (fun c_1 => ?_) (fun c_1 => ?_)
  · have hr9 : r = (-102, Q, t) := by rw [← hr9]; exact if_neg (fun h9 => by rw [bi_eq0 c_1] at h9; simp at h9)
    subst hr9
    refine lv_bipush (v := (-102)) hx hb dX9_sweep_14 (by decide) ?_
    refine W.widen (k := 80) (n := 480) (by decide) (by decide) ?_
    exact ri C hrt hlocks rfl hP hS dX9_sweep_16
  · refine lv_iload_n hx hb dX9_sweep_7 rfl (lv_at hl 2 rfl) ?_
    refine k_num (n := 1) C (m_isNear l D ca sa lo v) (fun U A9 h => co_X9_isNear h A9) (in_X9 hk.1 _) (ml_X9_33 hk.1 _) (st_X9_isNear hk.1 _) (by decide +kernel) ⟨⟨rfl, rfl⟩, by decide, by decide⟩ hP hS rfl hl.1 rfl (Nat.le_of_ble_eq_true rfl) dX9_sweep_8 ⟨by decide, by decide⟩ (fun H locs hP hS _ _ => ?_)
    refine lv_if_ne (tgt := 17) hx hb dX9_sweep_11 (by decide) (fun c_2 => ?_) (fun c_2 => ?_)
    · have hr9 : r = ((lp (swS zn v) Q.length (Q, t, 0)).2.2, (lp (swS zn v) Q.length (Q, t, 0)).1, (lp (swS zn v) Q.length (Q, t, 0)).2.1) := by rw [← hr9]; exact if_pos ⟨bi_ne0 c_1, bi_ne0 c_2⟩
      refine lv_iconst (v := 0) hx hb dX9_sweep_17 (by decide) ?_
      refine lv_istore_n (lv' := [(3, .int 0), (0, .ref x0), (1, .int zn), (2, .int v)]) hx hb dX9_sweep_18 rfl hl (by decide) rfl (fun ls hl => ?_)
      refine lv_iconst (v := 0) hx hb dX9_sweep_19 (by decide) ?_
      refine lv_istore (lv' := [(4, .int 0), (3, .int 0), (0, .ref x0), (1, .int zn), (2, .int v)]) hx hb dX9_sweep_20 hl (by decide) rfl (fun ls hl => ?_)
      have hl : lv_has ls 7 [(0, .ref x0), (1, .int zn), (2, .int v), (3, .int 0), (4, .int (nI 0))] := by rw [nI_0]; exact lv_sub hl [2, 3, 4, 1, 0] rfl
      exact L_sweep hl9 C hrt hlocks htab hok.2.1 hr9 Q.length 0 (by omega) Q t 0 rfl hok rfl H locs ls hP hD hS hl
    · have hr9 : r = (-102, Q, t) := by rw [← hr9]; exact if_neg (fun h9 => by rw [bi_eq0 c_2] at h9; simp at h9)
      subst hr9
      refine lv_bipush (v := (-102)) hx hb dX9_sweep_14 (by decide) ?_
      refine W.widen (k := 80) (n := 480) (by decide) (by decide) ?_
      exact ri C hrt hlocks rfl hP hS dX9_sweep_16

set_option maxHeartbeats 4000000 in
set_option maxRecDepth 100000 in
theorem M_alarm (l : Launch) (D : va_G) (ca : Nat → ClassId) (sa : Nat → Nat) (lo : Nat) (x0 da ht hr : Nat) (L : List Nat) (Q : List Pd) (t : Tr) (hok : okP L Q) (zn kq : Int32) (sz : Nat) : Met l yX9_alarm [.code yX9_alarm cX9_alarm 6 (some .int)] ({ frames := 4, cells := 0, slots := 0, locals := 120 }) (PX D ca sa lo sz [.ref x0, .int zn, .int kq] (wx ca x0 da ht hr L Q t)) (QI D (zA Q t zn kq).1 (wx ca x0 da ht hr L (zA Q t zn kq).2.1 (zA Q t zn kq).2.2) (va_A (wx ca x0 da ht hr L Q t) sz)) 0 0 (va_A (wx ca x0 da ht hr L Q t) sz) := by
  generalize hr9 : zA Q t zn kq = r
  refine mk_met (fun A => QI D r.1 (wx ca x0 da ht hr L r.2.1 r.2.2) A) (by decide) (Nat.le_of_ble_eq_true rfl) ?_
  intro p e s m below meth c A ls C hrt hlocks hnm hsz hP hD hS hl
  obtain ⟨hx, hb, hml, hown, hk, hz, hlo, hA, hAl⟩ := id C
  have hK : va_K D cls (tyl ca) s := hk.2.1
  have hl : lv_has ls 6 [(0, .ref x0), (1, .int zn), (2, .int kq)] := hl
  refine lv_iload_n hx hb dX9_alarm_0 rfl (lv_at hl 1 rfl) ?_
  refine k_num (n := 1) C (m_isZone l D ca sa lo zn) (fun U A9 h => co_X9_isZone h A9) (in_X9 hk.1 _) (ml_X9_30 hk.1 _) (st_X9_isZone hk.1 _) (by decide +kernel) ⟨⟨rfl, rfl⟩, by decide, by decide⟩ hP hS rfl hl.1 rfl (Nat.le_of_ble_eq_true rfl) dX9_alarm_1 ⟨by decide, by decide⟩ (fun H locs hP hS _ _ => ?_)
  refine lv_if_eq (tgt := 18) hx hb dX9_alarm_4 (by decide) (fun c_1 => ?_) (fun c_1 => ?_)
  · have hr9 : r = (-102, Q, t) := by rw [← hr9]; exact if_neg (fun h9 => by rw [bi_eq0 c_1] at h9; simp at h9)
    subst hr9
    refine lv_bipush (v := (-102)) hx hb dX9_alarm_18 (by decide) ?_
    exact ri C hrt hlocks rfl hP hS dX9_alarm_20
  · refine lv_iload_n hx hb dX9_alarm_7 rfl (lv_at hl 2 rfl) ?_
    refine lv_iconst (v := 1) hx hb dX9_alarm_8 (by decide) ?_
    refine lv_icmp_lt (tgt := 18) hx hb dX9_alarm_9 (by decide) (fun c_2 => ?_) (fun c_2 => ?_)
    · have hr9 : r = (-102, Q, t) := by rw [← hr9]; exact if_neg (fun h9 => by have := (bi_eq0 (rng_f1 (b := 60) c_2).symm); rw [this] at h9; simp at h9)
      subst hr9
      refine lv_bipush (v := (-102)) hx hb dX9_alarm_18 (by decide) ?_
      exact ri C hrt hlocks rfl hP hS dX9_alarm_20
    · refine lv_iload_n hx hb dX9_alarm_12 rfl (lv_at hl 2 rfl) ?_
      refine lv_bipush (v := 60) hx hb dX9_alarm_13 (by decide) ?_
      refine lv_icmp_le (tgt := 21) hx hb dX9_alarm_15 (by decide) (fun c_3 => ?_) (fun c_3 => ?_)
      · have hr9 : r = (bi (decide (kq ≤ (lp (alS zn) Q.length (Q, t, 0)).2.2)), (lp (alS zn) Q.length (Q, t, 0)).1, (lp (alS zn) Q.length (Q, t, 0)).2.1) := by rw [← hr9]; exact if_pos ⟨bi_ne0 c_1, bi_ne0 (fun h9 => absurd ((rng_t c_2 (Int32.not_lt.mpr c_3)).trans h9) (by decide))⟩
        refine lv_iconst (v := 0) hx hb dX9_alarm_21 (by decide) ?_
        refine lv_istore_n (lv' := [(3, .int 0), (0, .ref x0), (1, .int zn), (2, .int kq)]) hx hb dX9_alarm_22 rfl hl (by decide) rfl (fun ls hl => ?_)
        refine lv_iconst (v := 0) hx hb dX9_alarm_23 (by decide) ?_
        refine lv_istore (lv' := [(4, .int 0), (3, .int 0), (0, .ref x0), (1, .int zn), (2, .int kq)]) hx hb dX9_alarm_24 hl (by decide) rfl (fun ls hl => ?_)
        have hl : lv_has ls 6 [(0, .ref x0), (1, .int zn), (2, .int kq), (3, .int 0), (4, .int (nI 0))] := by rw [nI_0]; exact lv_sub hl [2, 3, 4, 1, 0] rfl
        exact L_alarm C hrt hlocks hok.2.1 hr9 Q.length 0 (by omega) Q t 0 rfl hok rfl H locs ls hP hD hS hl
      · have hr9 : r = (-102, Q, t) := by rw [← hr9]; exact if_neg (fun h9 => by have := (bi_eq0 (rng_f2 c_2 (Int32.not_le.mp c_3)).symm); rw [this] at h9; simp at h9)
        subst hr9
        refine lv_bipush (v := (-102)) hx hb dX9_alarm_18 (by decide) ?_
        exact ri C hrt hlocks rfl hP hS dX9_alarm_20

set_option maxHeartbeats 4000000 in
set_option maxRecDepth 100000 in
theorem M_costs (l : Launch) (D : va_G) (ca : Nat → ClassId) (sa : Nat → Nat) (lo : Nat) (x0 da ht hr : Nat) (L : List Nat) (Q : List Pd) (t : Tr) (hok : okP L Q) (sz : Nat) : Met l yX9_costs [.code yX9_costs cX9_costs 4 (some .int)] ({ frames := 3, cells := 0, slots := 0, locals := 90 }) (PX D ca sa lo sz [.ref x0] (wx ca x0 da ht hr L Q t)) (QI D (zP Q t).1 (wx ca x0 da ht hr L (zP Q t).2.1 (zP Q t).2.2) (va_A (wx ca x0 da ht hr L Q t) sz)) 0 0 (va_A (wx ca x0 da ht hr L Q t) sz) := by
  generalize hr9 : zP Q t = r
  refine mk_met (fun A => QI D r.1 (wx ca x0 da ht hr L r.2.1 r.2.2) A) (by decide) (Nat.le_of_ble_eq_true rfl) ?_
  intro p e s m below meth c A ls C hrt hlocks hnm hsz hP hD hS hl
  obtain ⟨hx, hb, hml, hown, hk, hz, hlo, hA, hAl⟩ := id C
  have hK : va_K D cls (tyl ca) s := hk.2.1
  have hl : lv_has ls 4 [(0, .ref x0)] := hl
  refine lv_iconst (v := 0) hx hb dX9_costs_0 (by decide) ?_
  refine lv_istore_n (lv' := [(1, .int 0), (0, .ref x0)]) hx hb dX9_costs_1 rfl hl (by decide) rfl (fun ls hl => ?_)
  refine lv_iconst (v := 0) hx hb dX9_costs_2 (by decide) ?_
  refine lv_istore_n (lv' := [(2, .int 0), (1, .int 0), (0, .ref x0)]) hx hb dX9_costs_3 rfl hl (by decide) rfl (fun ls hl => ?_)
  have hl : lv_has ls 4 [(0, .ref x0), (1, .int 0), (2, .int (nI 0))] := by rw [nI_0]; exact lv_sub hl [2, 1, 0] rfl
  exact L_costs C hrt hlocks hok.2.1 hr9.symm Q.length 0 (by omega) Q t 0 rfl hok rfl _ _ ls hP hD hS hl
end
section
/-! makers -/
def z9 (h0 ci : Nat) : va_W := [(h0, .inr (ci, [.null, .int 0, .int 0, .int 0, .int 0, .int 0, .int 0, .int 0, .int 0]))]
def cI (l : Launch) (D : va_G) (ca : Nat → ClassId) (sa : Nat → Nat) (lo : Nat) (y : MethodName) (b : ByteArray) (rm : Room) (ci : Nat) : Prop := ∀ (sz h0 ht : Nat) (kd zn lm ch : Int32), Met l y [.code y b 6 none] rm (PX D ca sa lo sz [.ref h0, .ref ht, .int kd, .int zn, .int lm, .int ch] (z9 h0 ci)) (QV D [(h0, .inr (ci, df ht kd zn lm (ch, 0, 0, 0, false)))] (va_A (z9 h0 ci) sz)) 0 0 (va_A (z9 h0 ci) sz)
section IC
variable {D : va_G} {ca : Nat → ClassId} {sa : Nat → Nat} {lo : Nat} {p : Program} {l : Launch} {e : Env} {R : Room} {s : State} {m : MethodId} {args : Array Value} {below : List Frame} {meth : Method} {c : Code} {cc : ByteArray} {nL : Nat} {own : String} {A : Nat → Prop} {H : Heap} {locs : List Loc} {cells slots : Nat} {Q9 : State → Prop} {ls : Array Slot} {pc : Nat} {rest : List Value}
theorem run_I {y : MethodName} {bytes : ByteArray} {maxL mc ms n index : Nat} {rm : Room} {As : List Value} {Qc : Array Value → State → Outcome → State → Prop} {free : Addr → Prop} {wc : va_W} {b : Addr} {st : List Value}
    (C : Cx D ca sa lo p s m c cc nL own A) (hM : Met l y [.code y bytes maxL none] rm (PX D ca sa lo H.size (.ref b :: As) wc) Qc mc ms free) (hco : ∀ (U : State) (A9 : Array Value), kw U → (Cond.code y bytes maxL none).before A9 U = true)
    (hini : (Cond.initialized y.cls).before args s = true) (hli : (Cond.methodLink own index y).before args s = true) (him : (Cond.instanceMethod y).before args s = true) (hy1 : y.name = "<init>")
    (hd : y.cls ≠ "java/lang/invoke/MethodHandle" ∧ y.cls ≠ "java/lang/invoke/VarHandle" ∧ (parseMethodDescriptor y.desc).map (fun d => d.parameters.length) = some n) (hR : (rm.cells = mc ∧ rm.slots = ms) ∧ rm.frames + 1 ≤ R.frames ∧ 8 + (maxL + 11) + rm.locals ≤ R.locals)
    (hP : va_P D cls wc H) (hD : va_D A wc) (hS : va_S A s.heap H locs)
    (hn : As.length = n) (hsize : ls.size = nL) (hstack : st = As.reverse ++ .ref b :: rest) (hW : (rest.map fun v => v.category).sum ≤ 8) (hdg : decode cc pc = .ok (.invokespecial index, 3)) (hf : cells + mc ≤ R.cells ∧ slots + ms ≤ R.slots) :
    va_Run p l e R s m args below meth c H locs cells slots mc ms (F0 m pc ls st) rest (Qc (Value.ref b :: As).toArray) free := by
  obtain ⟨hx, hb, hml, hown, hk, hz⟩ := id C
  refine va_runI (Ts := []) (cc := cc) (nL := nL) (own := own) ⟨hx, hb, hml, hown, fun w h => nomatch h⟩ hM
    ⟨⟨hR.1.1, hR.1.2, hR.2.1, hR.2.2, fun w hw a' U hW => by cases List.mem_singleton.mp hw; exact hco U a' (hk.1.warm hW), List.mem_singleton.mpr rfl, hco s args hk.1, hini, ⟨hd.1, hd.2.1⟩, fun sig h => by
      have h2 := hd.2.2
      rw [h] at h2
      exact (Option.some.inj h2).symm, hli⟩, hy1, him⟩
    ⟨PX.blind, fun U hU hW => PX.of C hP hD hS hU hW⟩ rfl hn hsize hstack (lv_room hW) hdg hf
theorem P_last {ws : va_W} {x1 : Nat × va_E} (h : va_P D cls (ws ++ [x1]) H) : va_P D cls [x1] H := fun k q hk => by
  have hk0 : k < 1 := (List.getElem?_eq_some_iff.mp hk).1
  rw [show k = 0 by omega] at hk
  refine h ws.length q ?_
  rw [List.getElem?_append_right (Nat.le_refl _), Nat.sub_self]; exact hk
theorem D_last {ws : va_W} {x1 : Nat × va_E} (h : va_D A (ws ++ [x1])) : va_D A [x1] := by
  refine ⟨fun i j a b hi hj _ => ?_, fun k q hk => ?_⟩
  · have h1 : i < 1 := (List.getElem?_eq_some_iff.mp hi).1
    have h2 : j < 1 := (List.getElem?_eq_some_iff.mp hj).1
    omega
  · have hk0 : k < 1 := (List.getElem?_eq_some_iff.mp hk).1
    rw [show k = 0 by omega] at hk
    refine h.2 ws.length q ?_
    rw [List.getElem?_append_right (Nat.le_refl _), Nat.sub_self]; exact hk
theorem P_lastj {ws : va_W} {x1 x2 : Nat × va_E} {H1 : Heap} (hP : va_P D cls (ws ++ [x1]) H) (hD : va_D A (ws ++ [x1])) (hf : ∀ q : Nat, q < H.size → ¬ va_A [x1] H.size q → H1[q]? = H[q]?) (hB : va_P D cls [x2] H1) : va_P D cls (ws ++ [x2]) H1 := by
  intro k q hk
  rcases Nat.lt_or_ge k ws.length with h | h
  · rw [List.getElem?_append_left h] at hk
    have hk' : (ws ++ [x1])[k]? = some q := by rw [List.getElem?_append_left h]; exact hk
    have hq := hP k q hk'
    refine hq.kept (hf q.1 hq.lt ?_)
    rintro (⟨j, e9, hj⟩ | h9)
    · have hj0 : j < 1 := (List.getElem?_eq_some_iff.mp hj).1
      rw [show j = 0 by omega] at hj
      have := hD.1 k ws.length q x1 hk' (by rw [List.getElem?_append_right (Nat.le_refl _), Nat.sub_self]; rfl) (by cases hj; rfl)
      omega
    · have := hq.lt
      omega
  · rw [List.getElem?_append_right h] at hk
    exact hB _ q hk
theorem k_IL {ws : va_W} {y : MethodName} {b : ByteArray} {rm : Room} {q ht ci index : Nat} {kd zn lm ch : Int32} (C : Cx D ca sa lo p s m c cc nL own A) (hM : cI l D ca sa lo y b rm ci) (hco : ∀ (U : State) (A9 : Array Value), kw U → (Cond.code y b 6 none).before A9 U = true)
    (hini : (Cond.initialized y.cls).before args s = true) (hli : (Cond.methodLink own index y).before args s = true) (him : (Cond.instanceMethod y).before args s = true) (hy1 : y.name = "<init>")
    (hd : y.cls ≠ "java/lang/invoke/MethodHandle" ∧ y.cls ≠ "java/lang/invoke/VarHandle" ∧ (parseMethodDescriptor y.desc).map (fun d => d.parameters.length) = some 5) (hR : (rm.cells = 0 ∧ rm.slots = 0) ∧ rm.frames + 1 ≤ R.frames ∧ 8 + (6 + 11) + rm.locals ≤ R.locals)
    (hP : va_P D cls (ws ++ z9 q ci) H) (hD : va_D A (ws ++ z9 q ci)) (hS : va_S A s.heap H locs) (hsize : ls.size = nL) (hW : (rest.map fun v => v.category).sum ≤ 8) (hdg : decode cc pc = .ok (.invokespecial index, 3)) (hf : cells ≤ R.cells ∧ slots ≤ R.slots)
    (kk : ∀ (H1 : Heap) (locs1 : List Loc), va_P D cls (ws ++ [(q, .inr (ci, df ht kd zn lm (ch, 0, 0, 0, false)))]) H1 → va_D A (ws ++ [(q, .inr (ci, df ht kd zn lm (ch, 0, 0, 0, false)))]) → va_S A s.heap H1 locs1 → W p l e R s m args below meth c H1 locs1 cells slots Q9 (F0 m (pc + 3) ls rest)) :
    W p l e R s m args below meth c H locs cells slots Q9 (F0 m pc ls (.int ch :: .int lm :: .int zn :: .int kd :: .ref ht :: .ref q :: rest)) := by
  have hPc := P_last hP
  have hDc := D_last hD
  have hfr := fr_of C hDc hS
  refine va_callv (run_I (As := [.ref ht, .int kd, .int zn, .int lm, .int ch]) (rest := rest) C (hM H.size q ht kd zn lm ch) hco hini hli him hy1 hd hR hPc hDc hS rfl hsize rfl hW hdg hf) hS (fun q _ h => hfr q h) hfr (fun u t1 H1 locs1 ht1 hvm _ hB hz1 hk1 hS1 => ?_)
  subst ht1
  exact kk _ _ (P_lastj hP hD hk1 hB) (hD.to (by simp [z9])) hS1
end IC
end
section
set_option maxHeartbeats 4000000 in
set_option maxRecDepth 100000 in
theorem iP (l : Launch) (D : va_G) (ca : Nat → ClassId) (sa : Nat → Nat) (lo : Nat) {ci : Nat} {Cn : String} (hd : isD ci Cn) : cI l D ca sa lo yX3_init cX3_init ({ frames := 1, cells := 0, slots := 0, locals := 20 }) ci := by
  intro sz h0 ht kd zn lm ch
  refine mk_met (fun A => QV D [(h0, .inr (ci, df ht kd zn lm (ch, 0, 0, 0, false)))] A) (by decide) (Nat.le_of_ble_eq_true rfl) ?_
  intro p e s m below meth c A ls C hrt hlocks hnm hsz hP hD hS hl
  obtain ⟨hx, hb, hml, hown, hk, hz, hlo, hA, hAl⟩ := id C
  have hK : va_K D cls (tyl ca) s := hk.2.1
  have hl : lv_has ls 6 [(0, .ref h0), (1, .ref ht), (2, .int kd), (3, .int zn), (4, .int lm), (5, .int ch)] := hl
  have hin : meth.name = "<init>" := hnm
  have hP : va_P D cls [(h0, .inr (ci, [.null, .int 0, .int 0, .int 0, .int 0, .int 0, .int 0, .int 0, .int 0]))] s.heap := hP
  have hD : va_D A [(h0, .inr (ci, [.null, .int 0, .int 0, .int 0, .int 0, .int 0, .int 0, .int 0, .int 0]))] := hD
  refine lv_aload_n hx hb dX3_init_0 rfl (lv_at hl 0 rfl) ?_
  refine W.objInit hx hb hown (ml_X3_3 hk.1 _) (im_O_init hk.1 _) (co_O_init hk.1 _) rfl (by rw [hml]; exact hl.1) rfl dX3_init_1 (by decide) (Nat.le_of_ble_eq_true rfl) ?_
  refine W.eq (g2 := F0 m 4 ls []) rfl ?_
  refine lv_aload_n hx hb dX3_init_4 rfl (lv_at hl 0 rfl) ?_
  refine lv_aload_n hx hb dX3_init_5 rfl (lv_at hl 1 rfl) ?_
  refine va_putF (D := D) (v := .ref ht) (ty := (.object "AlarmKinds$Trace")) (C := Cn) (T := TX3) (N := 9) hx hb (hd.2 _ _ hk.1) (fun _ h9 => h9) tyX3 tyX3_ok nmX3 hown hK hP hD hS 0 rfl hd.1 0 (by decide) (fl_X3_9 hk.1 _) (fun _ h9 => h9) rfl hin rfl (by decide +kernel) rfl rfl (Nat.le_of_ble_eq_true rfl) dX3_init_6 (fun H locs hP hD hS => ?_)
  have hP : va_P D cls [(h0, .inr (ci, [.ref ht, .int 0, .int 0, .int 0, .int 0, .int 0, .int 0, .int 0, .int 0]))] H := hP
  have hD : va_D A [(h0, .inr (ci, [.ref ht, .int 0, .int 0, .int 0, .int 0, .int 0, .int 0, .int 0, .int 0]))] := hD
  refine lv_aload_n hx hb dX3_init_9 rfl (lv_at hl 0 rfl) ?_
  refine lv_iload_n hx hb dX3_init_10 rfl (lv_at hl 2 rfl) ?_
  refine va_putF (D := D) (v := .int kd) (ty := .int) (C := Cn) (T := TX3) (N := 9) hx hb (hd.2 _ _ hk.1) (fun _ h9 => h9) tyX3 tyX3_ok nmX3 hown hK hP hD hS 0 rfl hd.1 1 (by decide) (fl_X3_15 hk.1 _) (fun _ h9 => h9) rfl hin rfl (by decide +kernel) rfl rfl (Nat.le_of_ble_eq_true rfl) dX3_init_11 (fun H locs hP hD hS => ?_)
  have hP : va_P D cls [(h0, .inr (ci, [.ref ht, .int kd, .int 0, .int 0, .int 0, .int 0, .int 0, .int 0, .int 0]))] H := hP
  have hD : va_D A [(h0, .inr (ci, [.ref ht, .int kd, .int 0, .int 0, .int 0, .int 0, .int 0, .int 0, .int 0]))] := hD
  refine lv_aload_n hx hb dX3_init_14 rfl (lv_at hl 0 rfl) ?_
  refine lv_iload_n hx hb dX3_init_15 rfl (lv_at hl 3 rfl) ?_
  refine va_putF (D := D) (v := .int zn) (ty := .int) (C := Cn) (T := TX3) (N := 9) hx hb (hd.2 _ _ hk.1) (fun _ h9 => h9) tyX3 tyX3_ok nmX3 hown hK hP hD hS 0 rfl hd.1 2 (by decide) (fl_X3_19 hk.1 _) (fun _ h9 => h9) rfl hin rfl (by decide +kernel) rfl rfl (Nat.le_of_ble_eq_true rfl) dX3_init_16 (fun H locs hP hD hS => ?_)
  have hP : va_P D cls [(h0, .inr (ci, [.ref ht, .int kd, .int zn, .int 0, .int 0, .int 0, .int 0, .int 0, .int 0]))] H := hP
  have hD : va_D A [(h0, .inr (ci, [.ref ht, .int kd, .int zn, .int 0, .int 0, .int 0, .int 0, .int 0, .int 0]))] := hD
  refine lv_aload_n hx hb dX3_init_19 rfl (lv_at hl 0 rfl) ?_
  refine lv_iload hx hb dX3_init_20 (lv_at hl 4 rfl) ?_
  refine va_putF (D := D) (v := .int lm) (ty := .int) (C := Cn) (T := TX3) (N := 9) hx hb (hd.2 _ _ hk.1) (fun _ h9 => h9) tyX3 tyX3_ok nmX3 hown hK hP hD hS 0 rfl hd.1 3 (by decide) (fl_X3_22 hk.1 _) (fun _ h9 => h9) rfl hin rfl (by decide +kernel) rfl rfl (Nat.le_of_ble_eq_true rfl) dX3_init_22 (fun H locs hP hD hS => ?_)
  have hP : va_P D cls [(h0, .inr (ci, [.ref ht, .int kd, .int zn, .int lm, .int 0, .int 0, .int 0, .int 0, .int 0]))] H := hP
  have hD : va_D A [(h0, .inr (ci, [.ref ht, .int kd, .int zn, .int lm, .int 0, .int 0, .int 0, .int 0, .int 0]))] := hD
  refine lv_aload_n hx hb dX3_init_25 rfl (lv_at hl 0 rfl) ?_
  refine lv_iload hx hb dX3_init_26 (lv_at hl 5 rfl) ?_
  refine va_put (D := D) (v := .int ch) (ty := .int) (C := Cn) (T := TX3) (N := 9) hx hb (hd.2 _ _ hk.1) (fun _ h9 => h9) tyX3 tyX3_ok nmX3 hown hK hP hD hS 0 rfl hd.1 4 (by decide) (fl_X3_25 hk.1 _) (fun _ h9 => h9) rfl (by decide +kernel) rfl rfl (Nat.le_of_ble_eq_true rfl) dX3_init_28 (fun H locs hP hD hS => ?_)
  have hP : va_P D cls [(h0, .inr (ci, [.ref ht, .int kd, .int zn, .int lm, .int ch, .int 0, .int 0, .int 0, .int 0]))] H := hP
  have hD : va_D A [(h0, .inr (ci, [.ref ht, .int kd, .int zn, .int lm, .int ch, .int 0, .int 0, .int 0, .int 0]))] := hD
  exact rv C hrt hlocks hP hS dX3_init_31

set_option maxHeartbeats 4000000 in
set_option maxRecDepth 100000 in
theorem iW (l : Launch) (D : va_G) (ca : Nat → ClassId) (sa : Nat → Nat) (lo : Nat) {ci : Nat} {Cn : String} (hd : isD ci Cn) : cI l D ca sa lo yX8_init cX8_init ({ frames := 2, cells := 0, slots := 0, locals := 50 }) ci := by
  intro sz h0 ht kd zn lm ch
  refine mk_met (fun A => QV D [(h0, .inr (ci, df ht kd zn lm (ch, 0, 0, 0, false)))] A) (by decide) (Nat.le_of_ble_eq_true rfl) ?_
  intro p e s m below meth c A ls C hrt hlocks hnm hsz hP hD hS hl
  obtain ⟨hx, hb, hml, hown, hk, hz, hlo, hA, hAl⟩ := id C
  have hK : va_K D cls (tyl ca) s := hk.2.1
  have hl : lv_has ls 6 [(0, .ref h0), (1, .ref ht), (2, .int kd), (3, .int zn), (4, .int lm), (5, .int ch)] := hl
  refine lv_aload_n hx hb dX8_init_0 rfl (lv_at hl 0 rfl) ?_
  refine lv_aload_n hx hb dX8_init_1 rfl (lv_at hl 1 rfl) ?_
  refine lv_iload_n hx hb dX8_init_2 rfl (lv_at hl 2 rfl) ?_
  refine lv_iload_n hx hb dX8_init_3 rfl (lv_at hl 3 rfl) ?_
  refine lv_iload hx hb dX8_init_4 (lv_at hl 4 rfl) ?_
  refine lv_iload hx hb dX8_init_6 (lv_at hl 5 rfl) ?_
  refine k_IL (ws := []) C (iP l D ca sa lo hd) (fun U A9 h => co_X3_init h A9) (in_X3 hk.1 _) (ml_X8_1 hk.1 _) (im_X3_init hk.1 _) rfl (by decide +kernel) ⟨⟨rfl, rfl⟩, by decide, by decide⟩ hP hD hS hl.1 (Nat.le_of_ble_eq_true rfl) dX8_init_8 ⟨by decide, by decide⟩ (fun H locs hP hD hS => ?_)
  exact rv C hrt hlocks hP hS dX8_init_11

set_option maxHeartbeats 4000000 in
set_option maxRecDepth 100000 in
theorem iR (l : Launch) (D : va_G) (ca : Nat → ClassId) (sa : Nat → Nat) (lo : Nat) {ci : Nat} {Cn : String} (hd : isD ci Cn) : cI l D ca sa lo yX4_init cX4_init ({ frames := 3, cells := 0, slots := 0, locals := 80 }) ci := by
  intro sz h0 ht kd zn lm ch
  refine mk_met (fun A => QV D [(h0, .inr (ci, df ht kd zn lm (ch, 0, 0, 0, false)))] A) (by decide) (Nat.le_of_ble_eq_true rfl) ?_
  intro p e s m below meth c A ls C hrt hlocks hnm hsz hP hD hS hl
  obtain ⟨hx, hb, hml, hown, hk, hz, hlo, hA, hAl⟩ := id C
  have hK : va_K D cls (tyl ca) s := hk.2.1
  have hl : lv_has ls 6 [(0, .ref h0), (1, .ref ht), (2, .int kd), (3, .int zn), (4, .int lm), (5, .int ch)] := hl
  refine lv_aload_n hx hb dX4_init_0 rfl (lv_at hl 0 rfl) ?_
  refine lv_aload_n hx hb dX4_init_1 rfl (lv_at hl 1 rfl) ?_
  refine lv_iload_n hx hb dX4_init_2 rfl (lv_at hl 2 rfl) ?_
  refine lv_iload_n hx hb dX4_init_3 rfl (lv_at hl 3 rfl) ?_
  refine lv_iload hx hb dX4_init_4 (lv_at hl 4 rfl) ?_
  refine lv_iload hx hb dX4_init_6 (lv_at hl 5 rfl) ?_
  refine k_IL (ws := []) C (iW l D ca sa lo hd) (fun U A9 h => co_X8_init h A9) (in_X8 hk.1 _) (ml_X4_3 hk.1 _) (im_X8_init hk.1 _) rfl (by decide +kernel) ⟨⟨rfl, rfl⟩, by decide, by decide⟩ hP hD hS hl.1 (Nat.le_of_ble_eq_true rfl) dX4_init_8 ⟨by decide, by decide⟩ (fun H locs hP hD hS => ?_)
  exact rv C hrt hlocks hP hS dX4_init_11

set_option maxHeartbeats 4000000 in
set_option maxRecDepth 100000 in
theorem iS (l : Launch) (D : va_G) (ca : Nat → ClassId) (sa : Nat → Nat) (lo : Nat) {ci : Nat} {Cn : String} (hd : isD ci Cn) : cI l D ca sa lo yX5_init cX5_init ({ frames := 3, cells := 0, slots := 0, locals := 80 }) ci := by
  intro sz h0 ht kd zn lm ch
  refine mk_met (fun A => QV D [(h0, .inr (ci, df ht kd zn lm (ch, 0, 0, 0, false)))] A) (by decide) (Nat.le_of_ble_eq_true rfl) ?_
  intro p e s m below meth c A ls C hrt hlocks hnm hsz hP hD hS hl
  obtain ⟨hx, hb, hml, hown, hk, hz, hlo, hA, hAl⟩ := id C
  have hK : va_K D cls (tyl ca) s := hk.2.1
  have hl : lv_has ls 6 [(0, .ref h0), (1, .ref ht), (2, .int kd), (3, .int zn), (4, .int lm), (5, .int ch)] := hl
  refine lv_aload_n hx hb dX5_init_0 rfl (lv_at hl 0 rfl) ?_
  refine lv_aload_n hx hb dX5_init_1 rfl (lv_at hl 1 rfl) ?_
  refine lv_iload_n hx hb dX5_init_2 rfl (lv_at hl 2 rfl) ?_
  refine lv_iload_n hx hb dX5_init_3 rfl (lv_at hl 3 rfl) ?_
  refine lv_iload hx hb dX5_init_4 (lv_at hl 4 rfl) ?_
  refine lv_iload hx hb dX5_init_6 (lv_at hl 5 rfl) ?_
  refine k_IL (ws := []) C (iW l D ca sa lo hd) (fun U A9 h => co_X8_init h A9) (in_X8 hk.1 _) (ml_X5_3 hk.1 _) (im_X8_init hk.1 _) rfl (by decide +kernel) ⟨⟨rfl, rfl⟩, by decide, by decide⟩ hP hD hS hl.1 (Nat.le_of_ble_eq_true rfl) dX5_init_8 ⟨by decide, by decide⟩ (fun H locs hP hD hS => ?_)
  exact rv C hrt hlocks hP hS dX5_init_11

set_option maxHeartbeats 4000000 in
set_option maxRecDepth 100000 in
theorem iF (l : Launch) (D : va_G) (ca : Nat → ClassId) (sa : Nat → Nat) (lo : Nat) {ci : Nat} {Cn : String} (hd : isD ci Cn) : cI l D ca sa lo yX1_init cX1_init ({ frames := 3, cells := 0, slots := 0, locals := 80 }) ci := by
  intro sz h0 ht kd zn lm ch
  refine mk_met (fun A => QV D [(h0, .inr (ci, df ht kd zn lm (ch, 0, 0, 0, false)))] A) (by decide) (Nat.le_of_ble_eq_true rfl) ?_
  intro p e s m below meth c A ls C hrt hlocks hnm hsz hP hD hS hl
  obtain ⟨hx, hb, hml, hown, hk, hz, hlo, hA, hAl⟩ := id C
  have hK : va_K D cls (tyl ca) s := hk.2.1
  have hl : lv_has ls 6 [(0, .ref h0), (1, .ref ht), (2, .int kd), (3, .int zn), (4, .int lm), (5, .int ch)] := hl
  refine lv_aload_n hx hb dX1_init_0 rfl (lv_at hl 0 rfl) ?_
  refine lv_aload_n hx hb dX1_init_1 rfl (lv_at hl 1 rfl) ?_
  refine lv_iload_n hx hb dX1_init_2 rfl (lv_at hl 2 rfl) ?_
  refine lv_iload_n hx hb dX1_init_3 rfl (lv_at hl 3 rfl) ?_
  refine lv_iload hx hb dX1_init_4 (lv_at hl 4 rfl) ?_
  refine lv_iload hx hb dX1_init_6 (lv_at hl 5 rfl) ?_
  refine k_IL (ws := []) C (iW l D ca sa lo hd) (fun U A9 h => co_X8_init h A9) (in_X8 hk.1 _) (ml_X1_3 hk.1 _) (im_X8_init hk.1 _) rfl (by decide +kernel) ⟨⟨rfl, rfl⟩, by decide, by decide⟩ hP hD hS hl.1 (Nat.le_of_ble_eq_true rfl) dX1_init_8 ⟨by decide, by decide⟩ (fun H locs hP hD hS => ?_)
  exact rv C hrt hlocks hP hS dX1_init_11

set_option maxHeartbeats 4000000 in
set_option maxRecDepth 100000 in
theorem iH (l : Launch) (D : va_G) (ca : Nat → ClassId) (sa : Nat → Nat) (lo : Nat) {ci : Nat} {Cn : String} (hd : isD ci Cn) : cI l D ca sa lo yX2_init cX2_init ({ frames := 4, cells := 0, slots := 0, locals := 110 }) ci := by
  intro sz h0 ht kd zn lm ch
  refine mk_met (fun A => QV D [(h0, .inr (ci, df ht kd zn lm (ch, 0, 0, 0, false)))] A) (by decide) (Nat.le_of_ble_eq_true rfl) ?_
  intro p e s m below meth c A ls C hrt hlocks hnm hsz hP hD hS hl
  obtain ⟨hx, hb, hml, hown, hk, hz, hlo, hA, hAl⟩ := id C
  have hK : va_K D cls (tyl ca) s := hk.2.1
  have hl : lv_has ls 6 [(0, .ref h0), (1, .ref ht), (2, .int kd), (3, .int zn), (4, .int lm), (5, .int ch)] := hl
  refine lv_aload_n hx hb dX2_init_0 rfl (lv_at hl 0 rfl) ?_
  refine lv_aload_n hx hb dX2_init_1 rfl (lv_at hl 1 rfl) ?_
  refine lv_iload_n hx hb dX2_init_2 rfl (lv_at hl 2 rfl) ?_
  refine lv_iload_n hx hb dX2_init_3 rfl (lv_at hl 3 rfl) ?_
  refine lv_iload hx hb dX2_init_4 (lv_at hl 4 rfl) ?_
  refine lv_iload hx hb dX2_init_6 (lv_at hl 5 rfl) ?_
  refine k_IL (ws := []) C (iR l D ca sa lo hd) (fun U A9 h => co_X4_init h A9) (in_X4 hk.1 _) (ml_X2_3 hk.1 _) (im_X4_init hk.1 _) rfl (by decide +kernel) ⟨⟨rfl, rfl⟩, by decide, by decide⟩ hP hD hS hl.1 (Nat.le_of_ble_eq_true rfl) dX2_init_8 ⟨by decide, by decide⟩ (fun H locs hP hD hS => ?_)
  exact rv C hrt hlocks hP hS dX2_init_11

set_option maxHeartbeats 4000000 in
set_option maxRecDepth 100000 in
theorem iB (l : Launch) (D : va_G) (ca : Nat → ClassId) (sa : Nat → Nat) (lo : Nat) {ci : Nat} {Cn : String} (hd : isD ci Cn) : cI l D ca sa lo yX0_init cX0_init ({ frames := 4, cells := 0, slots := 0, locals := 110 }) ci := by
  intro sz h0 ht kd zn lm ch
  refine mk_met (fun A => QV D [(h0, .inr (ci, df ht kd zn lm (ch, 0, 0, 0, false)))] A) (by decide) (Nat.le_of_ble_eq_true rfl) ?_
  intro p e s m below meth c A ls C hrt hlocks hnm hsz hP hD hS hl
  obtain ⟨hx, hb, hml, hown, hk, hz, hlo, hA, hAl⟩ := id C
  have hK : va_K D cls (tyl ca) s := hk.2.1
  have hl : lv_has ls 6 [(0, .ref h0), (1, .ref ht), (2, .int kd), (3, .int zn), (4, .int lm), (5, .int ch)] := hl
  refine lv_aload_n hx hb dX0_init_0 rfl (lv_at hl 0 rfl) ?_
  refine lv_aload_n hx hb dX0_init_1 rfl (lv_at hl 1 rfl) ?_
  refine lv_iload_n hx hb dX0_init_2 rfl (lv_at hl 2 rfl) ?_
  refine lv_iload_n hx hb dX0_init_3 rfl (lv_at hl 3 rfl) ?_
  refine lv_iload hx hb dX0_init_4 (lv_at hl 4 rfl) ?_
  refine lv_iload hx hb dX0_init_6 (lv_at hl 5 rfl) ?_
  refine k_IL (ws := []) C (iR l D ca sa lo hd) (fun U A9 h => co_X4_init h A9) (in_X4 hk.1 _) (ml_X0_3 hk.1 _) (im_X4_init hk.1 _) rfl (by decide +kernel) ⟨⟨rfl, rfl⟩, by decide, by decide⟩ hP hD hS hl.1 (Nat.le_of_ble_eq_true rfl) dX0_init_8 ⟨by decide, by decide⟩ (fun H locs hP hD hS => ?_)
  exact rv C hrt hlocks hP hS dX0_init_11

set_option maxHeartbeats 4000000 in
set_option maxRecDepth 100000 in
theorem iT (l : Launch) (D : va_G) (ca : Nat → ClassId) (sa : Nat → Nat) (lo : Nat) {ci : Nat} {Cn : String} (hd : isD ci Cn) : cI l D ca sa lo yX7_init cX7_init ({ frames := 4, cells := 0, slots := 0, locals := 110 }) ci := by
  intro sz h0 ht kd zn lm ch
  refine mk_met (fun A => QV D [(h0, .inr (ci, df ht kd zn lm (ch, 0, 0, 0, false)))] A) (by decide) (Nat.le_of_ble_eq_true rfl) ?_
  intro p e s m below meth c A ls C hrt hlocks hnm hsz hP hD hS hl
  obtain ⟨hx, hb, hml, hown, hk, hz, hlo, hA, hAl⟩ := id C
  have hK : va_K D cls (tyl ca) s := hk.2.1
  have hl : lv_has ls 6 [(0, .ref h0), (1, .ref ht), (2, .int kd), (3, .int zn), (4, .int lm), (5, .int ch)] := hl
  refine lv_aload_n hx hb dX7_init_0 rfl (lv_at hl 0 rfl) ?_
  refine lv_aload_n hx hb dX7_init_1 rfl (lv_at hl 1 rfl) ?_
  refine lv_iload_n hx hb dX7_init_2 rfl (lv_at hl 2 rfl) ?_
  refine lv_iload_n hx hb dX7_init_3 rfl (lv_at hl 3 rfl) ?_
  refine lv_iload hx hb dX7_init_4 (lv_at hl 4 rfl) ?_
  refine lv_iload hx hb dX7_init_6 (lv_at hl 5 rfl) ?_
  refine k_IL (ws := []) C (iS l D ca sa lo hd) (fun U A9 h => co_X5_init h A9) (in_X5 hk.1 _) (ml_X7_3 hk.1 _) (im_X5_init hk.1 _) rfl (by decide +kernel) ⟨⟨rfl, rfl⟩, by decide, by decide⟩ hP hD hS hl.1 (Nat.le_of_ble_eq_true rfl) dX7_init_8 ⟨by decide, by decide⟩ (fun H locs hP hD hS => ?_)
  exact rv C hrt hlocks hP hS dX7_init_11

def pN (kd : Nat) (zn lm ch : Int32) : Pd := (kd, zn, lm, ch, 0, 0, 0, false)
def QM (D : va_G) (w : Nat → va_W) (A : Nat → Prop) : Array Value → State → Outcome → State → Prop := va_Qr (S := Unit) (fun _ => True) (fun _ a t9 => va_P D cls (w a) t9.heap ∧ va_D A (w a)) A
section MK
variable {D : va_G} {ca : Nat → ClassId} {sa : Nat → Nat} {lo : Nat} {p : Program} {l : Launch} {e : Env} {R : Room} {s : State} {m : MethodId} {args : Array Value} {below : List Frame} {meth : Method} {c : Code} {cc : ByteArray} {nL : Nat} {own : String} {A : Nat → Prop} {H : Heap} {locs : List Loc} {cells slots : Nat} {ls : Array Slot} {pc : Nat}
theorem rm_ (C : Cx D ca sa lo p s m c cc nL own A) {Cn : String} (hrt : meth.sig.returnType = some (.object Cn)) (hlocks : meth.locks = false) {w : Nat → va_W} {a : Nat} (hP : va_P D cls (w a) H) (hD : va_D A (w a)) (hS : va_S A s.heap H locs) (hdg : decode cc pc = .ok (.areturn, 1)) : W p l e R s m args below meth c H locs cells slots (MQ below (QM D w A) args s cells slots A) (F0 m pc ls [.ref a]) :=
  W.aret C.1 C.2.1 hrt (Or.inl ⟨_, rfl⟩) (Or.inr ⟨a, rfl⟩) (fun t ht hW => ⟨⟨(), a, rfl, trivial, by subst ht; exact hP, hD⟩, hS.F ht⟩) hS.2.2 hdg hlocks
end MK

set_option maxHeartbeats 4000000 in
set_option maxRecDepth 100000 in
theorem m_make (l : Launch) (D : va_G) (ca : Nat → ClassId) (sa : Nat → Nat) (lo : Nat) (x0 da ht hr : Nat) (L : List Nat) (Q : List Pd) (t : Tr) (hok : okP L Q) (kd : Nat) (hkd : kd < 8) (zn lm ch : Int32) (sz : Nat) : Met l yX9_make [.code yX9_make cX9_make 5 (some (.object "AlarmKinds$Plain"))] ({ frames := 5, cells := 1, slots := 9, locals := 140 }) (PX D ca sa lo sz [.ref x0, .int (nI kd), .int zn, .int lm, .int ch] (wx ca x0 da ht hr L Q t)) (QM D (fun a => wx ca x0 da ht hr L Q t ++ [cD ht (a, pN kd zn lm ch)]) (va_A (wx ca x0 da ht hr L Q t) sz)) 1 9 (va_A (wx ca x0 da ht hr L Q t) sz) := by
  refine mk_met (fun A => QM D (fun a => wx ca x0 da ht hr L Q t ++ [cD ht (a, pN kd zn lm ch)]) A) (by decide) (Nat.le_of_ble_eq_true rfl) ?_
  intro p e s m below meth c A ls C hrt hlocks hnm hsz hP hD hS hl
  obtain ⟨hx, hb, hml, hown, hk, hz, hlo, hA, hAl⟩ := id C
  have hK : va_K D cls (tyl ca) s := hk.2.1
  have hl : lv_has ls 5 [(0, .ref x0), (1, .int (nI kd)), (2, .int zn), (3, .int lm), (4, .int ch)] := hl
  refine lv_iload_n hx hb dX9_make_0 rfl (lv_at hl 1 rfl) ?_
  rcases k8 hkd with rfl | rfl | rfl | rfl | rfl | rfl | rfl | rfl
  · refine lv_tableOut (tgt := 163) hx hb dX9_make_1 (Or.inl (by decide)) (by decide) ?_
    refine va_new (ci := 3) (fs := [.null, .int 0, .int 0, .int 0, .int 0, .int 0, .int 0, .int 0, .int 0]) (C := RX3) (T := TX3) (N := 9) hx hb (uc_3 hk.1 _) (fun _ h9 => h9) tyX3 tyX3_ok hown (cl_X9_9 hk.1 _) (ia_X3 hk.1 _) (in_X3 hk.1 _) hK hP hD hS hA rfl (fun j hj => by rcases (by omega : j = 0 ∨ j = 1 ∨ j = 2 ∨ j = 3 ∨ j = 4 ∨ j = 5 ∨ j = 6 ∨ j = 7 ∨ j = 8) with rfl | rfl | rfl | rfl | rfl | rfl | rfl | rfl | rfl <;> rfl) (by decide) (by decide) dX9_make_163 (fun q H hP hD hS => ?_)
    have hP : va_P D cls (wx ca x0 da ht hr L Q t ++ z9 q 3) H := hP
    have hD : va_D A (wx ca x0 da ht hr L Q t ++ z9 q 3) := hD
    refine lv_dup hx hb dX9_make_166 rfl ?_
    refine lv_aload_n hx hb dX9_make_167 rfl (lv_at hl 0 rfl) ?_
    refine va_get (D := D) (C := RX9) (T := TX9) (N := 3) hx hb (uc_9 hk.1 _) (fun _ h9 => h9) hown hK hP 0 rfl rfl 1 (by decide) (fl_X9_18 hk.1 _) (fun _ h9 => h9) rfl dX9_make_168 ?_
    refine lv_iload_n hx hb dX9_make_171 rfl (lv_at hl 1 rfl) ?_
    refine lv_iload_n hx hb dX9_make_172 rfl (lv_at hl 2 rfl) ?_
    refine lv_iload_n hx hb dX9_make_173 rfl (lv_at hl 3 rfl) ?_
    refine lv_iload hx hb dX9_make_174 (lv_at hl 4 rfl) ?_
    refine k_IL (ws := wx ca x0 da ht hr L Q t) C (iP l D ca sa lo isD_3) (fun U A9 h => co_X3_init h A9) (in_X3 hk.1 _) (ml_X9_137 hk.1 _) (im_X3_init hk.1 _) rfl (by decide +kernel) ⟨⟨rfl, rfl⟩, by decide, by decide⟩ hP hD hS hl.1 (Nat.le_of_ble_eq_true rfl) dX9_make_176 ⟨by decide, by decide⟩ (fun H locs hP hD hS => ?_)
    exact rm_ (w := fun a => wx ca x0 da ht hr L Q t ++ [cD ht (a, pN 0 zn lm ch)]) C hrt hlocks hP hD hS dX9_make_179
  · refine lv_tableIn (tgt := 44) hx hb dX9_make_1 (by decide) (by decide) rfl (by decide) ?_
    refine va_new (ci := 8) (fs := [.null, .int 0, .int 0, .int 0, .int 0, .int 0, .int 0, .int 0, .int 0]) (C := RX8) (T := TX3) (N := 9) hx hb (uc_8 hk.1 _) (fun _ h9 => h9) tyX3 tyX3_ok hown (cl_X9_114 hk.1 _) (ia_X8 hk.1 _) (in_X8 hk.1 _) hK hP hD hS hA rfl (fun j hj => by rcases (by omega : j = 0 ∨ j = 1 ∨ j = 2 ∨ j = 3 ∨ j = 4 ∨ j = 5 ∨ j = 6 ∨ j = 7 ∨ j = 8) with rfl | rfl | rfl | rfl | rfl | rfl | rfl | rfl | rfl <;> rfl) (by decide) (by decide) dX9_make_44 (fun q H hP hD hS => ?_)
    have hP : va_P D cls (wx ca x0 da ht hr L Q t ++ z9 q 8) H := hP
    have hD : va_D A (wx ca x0 da ht hr L Q t ++ z9 q 8) := hD
    refine lv_dup hx hb dX9_make_47 rfl ?_
    refine lv_aload_n hx hb dX9_make_48 rfl (lv_at hl 0 rfl) ?_
    refine va_get (D := D) (C := RX9) (T := TX9) (N := 3) hx hb (uc_9 hk.1 _) (fun _ h9 => h9) hown hK hP 0 rfl rfl 1 (by decide) (fl_X9_18 hk.1 _) (fun _ h9 => h9) rfl dX9_make_49 ?_
    refine lv_iload_n hx hb dX9_make_52 rfl (lv_at hl 1 rfl) ?_
    refine lv_iload_n hx hb dX9_make_53 rfl (lv_at hl 2 rfl) ?_
    refine lv_iload_n hx hb dX9_make_54 rfl (lv_at hl 3 rfl) ?_
    refine lv_iload hx hb dX9_make_55 (lv_at hl 4 rfl) ?_
    refine k_IL (ws := wx ca x0 da ht hr L Q t) C (iW l D ca sa lo isD_8) (fun U A9 h => co_X8_init h A9) (in_X8 hk.1 _) (ml_X9_116 hk.1 _) (im_X8_init hk.1 _) rfl (by decide +kernel) ⟨⟨rfl, rfl⟩, by decide, by decide⟩ hP hD hS hl.1 (Nat.le_of_ble_eq_true rfl) dX9_make_57 ⟨by decide, by decide⟩ (fun H locs hP hD hS => ?_)
    exact rm_ (w := fun a => wx ca x0 da ht hr L Q t ++ [cD ht (a, pN 1 zn lm ch)]) C hrt hlocks hP hD hS dX9_make_60
  · refine lv_tableIn (tgt := 61) hx hb dX9_make_1 (by decide) (by decide) rfl (by decide) ?_
    refine va_new (ci := 4) (fs := [.null, .int 0, .int 0, .int 0, .int 0, .int 0, .int 0, .int 0, .int 0]) (C := RX4) (T := TX3) (N := 9) hx hb (uc_4 hk.1 _) (fun _ h9 => h9) tyX3 tyX3_ok hown (cl_X9_119 hk.1 _) (ia_X4 hk.1 _) (in_X4 hk.1 _) hK hP hD hS hA rfl (fun j hj => by rcases (by omega : j = 0 ∨ j = 1 ∨ j = 2 ∨ j = 3 ∨ j = 4 ∨ j = 5 ∨ j = 6 ∨ j = 7 ∨ j = 8) with rfl | rfl | rfl | rfl | rfl | rfl | rfl | rfl | rfl <;> rfl) (by decide) (by decide) dX9_make_61 (fun q H hP hD hS => ?_)
    have hP : va_P D cls (wx ca x0 da ht hr L Q t ++ z9 q 4) H := hP
    have hD : va_D A (wx ca x0 da ht hr L Q t ++ z9 q 4) := hD
    refine lv_dup hx hb dX9_make_64 rfl ?_
    refine lv_aload_n hx hb dX9_make_65 rfl (lv_at hl 0 rfl) ?_
    refine va_get (D := D) (C := RX9) (T := TX9) (N := 3) hx hb (uc_9 hk.1 _) (fun _ h9 => h9) hown hK hP 0 rfl rfl 1 (by decide) (fl_X9_18 hk.1 _) (fun _ h9 => h9) rfl dX9_make_66 ?_
    refine lv_iload_n hx hb dX9_make_69 rfl (lv_at hl 1 rfl) ?_
    refine lv_iload_n hx hb dX9_make_70 rfl (lv_at hl 2 rfl) ?_
    refine lv_iload_n hx hb dX9_make_71 rfl (lv_at hl 3 rfl) ?_
    refine lv_iload hx hb dX9_make_72 (lv_at hl 4 rfl) ?_
    refine k_IL (ws := wx ca x0 da ht hr L Q t) C (iR l D ca sa lo isD_4) (fun U A9 h => co_X4_init h A9) (in_X4 hk.1 _) (ml_X9_121 hk.1 _) (im_X4_init hk.1 _) rfl (by decide +kernel) ⟨⟨rfl, rfl⟩, by decide, by decide⟩ hP hD hS hl.1 (Nat.le_of_ble_eq_true rfl) dX9_make_74 ⟨by decide, by decide⟩ (fun H locs hP hD hS => ?_)
    exact rm_ (w := fun a => wx ca x0 da ht hr L Q t ++ [cD ht (a, pN 2 zn lm ch)]) C hrt hlocks hP hD hS dX9_make_77
  · refine lv_tableIn (tgt := 78) hx hb dX9_make_1 (by decide) (by decide) rfl (by decide) ?_
    refine va_new (ci := 5) (fs := [.null, .int 0, .int 0, .int 0, .int 0, .int 0, .int 0, .int 0, .int 0]) (C := RX5) (T := TX3) (N := 9) hx hb (uc_5 hk.1 _) (fun _ h9 => h9) tyX3 tyX3_ok hown (cl_X9_122 hk.1 _) (ia_X5 hk.1 _) (in_X5 hk.1 _) hK hP hD hS hA rfl (fun j hj => by rcases (by omega : j = 0 ∨ j = 1 ∨ j = 2 ∨ j = 3 ∨ j = 4 ∨ j = 5 ∨ j = 6 ∨ j = 7 ∨ j = 8) with rfl | rfl | rfl | rfl | rfl | rfl | rfl | rfl | rfl <;> rfl) (by decide) (by decide) dX9_make_78 (fun q H hP hD hS => ?_)
    have hP : va_P D cls (wx ca x0 da ht hr L Q t ++ z9 q 5) H := hP
    have hD : va_D A (wx ca x0 da ht hr L Q t ++ z9 q 5) := hD
    refine lv_dup hx hb dX9_make_81 rfl ?_
    refine lv_aload_n hx hb dX9_make_82 rfl (lv_at hl 0 rfl) ?_
    refine va_get (D := D) (C := RX9) (T := TX9) (N := 3) hx hb (uc_9 hk.1 _) (fun _ h9 => h9) hown hK hP 0 rfl rfl 1 (by decide) (fl_X9_18 hk.1 _) (fun _ h9 => h9) rfl dX9_make_83 ?_
    refine lv_iload_n hx hb dX9_make_86 rfl (lv_at hl 1 rfl) ?_
    refine lv_iload_n hx hb dX9_make_87 rfl (lv_at hl 2 rfl) ?_
    refine lv_iload_n hx hb dX9_make_88 rfl (lv_at hl 3 rfl) ?_
    refine lv_iload hx hb dX9_make_89 (lv_at hl 4 rfl) ?_
    refine k_IL (ws := wx ca x0 da ht hr L Q t) C (iS l D ca sa lo isD_5) (fun U A9 h => co_X5_init h A9) (in_X5 hk.1 _) (ml_X9_124 hk.1 _) (im_X5_init hk.1 _) rfl (by decide +kernel) ⟨⟨rfl, rfl⟩, by decide, by decide⟩ hP hD hS hl.1 (Nat.le_of_ble_eq_true rfl) dX9_make_91 ⟨by decide, by decide⟩ (fun H locs hP hD hS => ?_)
    exact rm_ (w := fun a => wx ca x0 da ht hr L Q t ++ [cD ht (a, pN 3 zn lm ch)]) C hrt hlocks hP hD hS dX9_make_94
  · refine lv_tableIn (tgt := 95) hx hb dX9_make_1 (by decide) (by decide) rfl (by decide) ?_
    refine va_new (ci := 2) (fs := [.null, .int 0, .int 0, .int 0, .int 0, .int 0, .int 0, .int 0, .int 0]) (C := RX2) (T := TX3) (N := 9) hx hb (uc_2 hk.1 _) (fun _ h9 => h9) tyX3 tyX3_ok hown (cl_X9_125 hk.1 _) (ia_X2 hk.1 _) (in_X2 hk.1 _) hK hP hD hS hA rfl (fun j hj => by rcases (by omega : j = 0 ∨ j = 1 ∨ j = 2 ∨ j = 3 ∨ j = 4 ∨ j = 5 ∨ j = 6 ∨ j = 7 ∨ j = 8) with rfl | rfl | rfl | rfl | rfl | rfl | rfl | rfl | rfl <;> rfl) (by decide) (by decide) dX9_make_95 (fun q H hP hD hS => ?_)
    have hP : va_P D cls (wx ca x0 da ht hr L Q t ++ z9 q 2) H := hP
    have hD : va_D A (wx ca x0 da ht hr L Q t ++ z9 q 2) := hD
    refine lv_dup hx hb dX9_make_98 rfl ?_
    refine lv_aload_n hx hb dX9_make_99 rfl (lv_at hl 0 rfl) ?_
    refine va_get (D := D) (C := RX9) (T := TX9) (N := 3) hx hb (uc_9 hk.1 _) (fun _ h9 => h9) hown hK hP 0 rfl rfl 1 (by decide) (fl_X9_18 hk.1 _) (fun _ h9 => h9) rfl dX9_make_100 ?_
    refine lv_iload_n hx hb dX9_make_103 rfl (lv_at hl 1 rfl) ?_
    refine lv_iload_n hx hb dX9_make_104 rfl (lv_at hl 2 rfl) ?_
    refine lv_iload_n hx hb dX9_make_105 rfl (lv_at hl 3 rfl) ?_
    refine lv_iload hx hb dX9_make_106 (lv_at hl 4 rfl) ?_
    refine k_IL (ws := wx ca x0 da ht hr L Q t) C (iH l D ca sa lo isD_2) (fun U A9 h => co_X2_init h A9) (in_X2 hk.1 _) (ml_X9_127 hk.1 _) (im_X2_init hk.1 _) rfl (by decide +kernel) ⟨⟨rfl, rfl⟩, by decide, by decide⟩ hP hD hS hl.1 (Nat.le_of_ble_eq_true rfl) dX9_make_108 ⟨by decide, by decide⟩ (fun H locs hP hD hS => ?_)
    exact rm_ (w := fun a => wx ca x0 da ht hr L Q t ++ [cD ht (a, pN 4 zn lm ch)]) C hrt hlocks hP hD hS dX9_make_111
  · refine lv_tableIn (tgt := 112) hx hb dX9_make_1 (by decide) (by decide) rfl (by decide) ?_
    refine va_new (ci := 0) (fs := [.null, .int 0, .int 0, .int 0, .int 0, .int 0, .int 0, .int 0, .int 0]) (C := RX0) (T := TX3) (N := 9) hx hb (uc_0 hk.1 _) (fun _ h9 => h9) tyX3 tyX3_ok hown (cl_X9_128 hk.1 _) (ia_X0 hk.1 _) (in_X0 hk.1 _) hK hP hD hS hA rfl (fun j hj => by rcases (by omega : j = 0 ∨ j = 1 ∨ j = 2 ∨ j = 3 ∨ j = 4 ∨ j = 5 ∨ j = 6 ∨ j = 7 ∨ j = 8) with rfl | rfl | rfl | rfl | rfl | rfl | rfl | rfl | rfl <;> rfl) (by decide) (by decide) dX9_make_112 (fun q H hP hD hS => ?_)
    have hP : va_P D cls (wx ca x0 da ht hr L Q t ++ z9 q 0) H := hP
    have hD : va_D A (wx ca x0 da ht hr L Q t ++ z9 q 0) := hD
    refine lv_dup hx hb dX9_make_115 rfl ?_
    refine lv_aload_n hx hb dX9_make_116 rfl (lv_at hl 0 rfl) ?_
    refine va_get (D := D) (C := RX9) (T := TX9) (N := 3) hx hb (uc_9 hk.1 _) (fun _ h9 => h9) hown hK hP 0 rfl rfl 1 (by decide) (fl_X9_18 hk.1 _) (fun _ h9 => h9) rfl dX9_make_117 ?_
    refine lv_iload_n hx hb dX9_make_120 rfl (lv_at hl 1 rfl) ?_
    refine lv_iload_n hx hb dX9_make_121 rfl (lv_at hl 2 rfl) ?_
    refine lv_iload_n hx hb dX9_make_122 rfl (lv_at hl 3 rfl) ?_
    refine lv_iload hx hb dX9_make_123 (lv_at hl 4 rfl) ?_
    refine k_IL (ws := wx ca x0 da ht hr L Q t) C (iB l D ca sa lo isD_0) (fun U A9 h => co_X0_init h A9) (in_X0 hk.1 _) (ml_X9_130 hk.1 _) (im_X0_init hk.1 _) rfl (by decide +kernel) ⟨⟨rfl, rfl⟩, by decide, by decide⟩ hP hD hS hl.1 (Nat.le_of_ble_eq_true rfl) dX9_make_125 ⟨by decide, by decide⟩ (fun H locs hP hD hS => ?_)
    exact rm_ (w := fun a => wx ca x0 da ht hr L Q t ++ [cD ht (a, pN 5 zn lm ch)]) C hrt hlocks hP hD hS dX9_make_128
  · refine lv_tableIn (tgt := 129) hx hb dX9_make_1 (by decide) (by decide) rfl (by decide) ?_
    refine va_new (ci := 1) (fs := [.null, .int 0, .int 0, .int 0, .int 0, .int 0, .int 0, .int 0, .int 0]) (C := RX1) (T := TX3) (N := 9) hx hb (uc_1 hk.1 _) (fun _ h9 => h9) tyX3 tyX3_ok hown (cl_X9_131 hk.1 _) (ia_X1 hk.1 _) (in_X1 hk.1 _) hK hP hD hS hA rfl (fun j hj => by rcases (by omega : j = 0 ∨ j = 1 ∨ j = 2 ∨ j = 3 ∨ j = 4 ∨ j = 5 ∨ j = 6 ∨ j = 7 ∨ j = 8) with rfl | rfl | rfl | rfl | rfl | rfl | rfl | rfl | rfl <;> rfl) (by decide) (by decide) dX9_make_129 (fun q H hP hD hS => ?_)
    have hP : va_P D cls (wx ca x0 da ht hr L Q t ++ z9 q 1) H := hP
    have hD : va_D A (wx ca x0 da ht hr L Q t ++ z9 q 1) := hD
    refine lv_dup hx hb dX9_make_132 rfl ?_
    refine lv_aload_n hx hb dX9_make_133 rfl (lv_at hl 0 rfl) ?_
    refine va_get (D := D) (C := RX9) (T := TX9) (N := 3) hx hb (uc_9 hk.1 _) (fun _ h9 => h9) hown hK hP 0 rfl rfl 1 (by decide) (fl_X9_18 hk.1 _) (fun _ h9 => h9) rfl dX9_make_134 ?_
    refine lv_iload_n hx hb dX9_make_137 rfl (lv_at hl 1 rfl) ?_
    refine lv_iload_n hx hb dX9_make_138 rfl (lv_at hl 2 rfl) ?_
    refine lv_iload_n hx hb dX9_make_139 rfl (lv_at hl 3 rfl) ?_
    refine lv_iload hx hb dX9_make_140 (lv_at hl 4 rfl) ?_
    refine k_IL (ws := wx ca x0 da ht hr L Q t) C (iF l D ca sa lo isD_1) (fun U A9 h => co_X1_init h A9) (in_X1 hk.1 _) (ml_X9_133 hk.1 _) (im_X1_init hk.1 _) rfl (by decide +kernel) ⟨⟨rfl, rfl⟩, by decide, by decide⟩ hP hD hS hl.1 (Nat.le_of_ble_eq_true rfl) dX9_make_142 ⟨by decide, by decide⟩ (fun H locs hP hD hS => ?_)
    exact rm_ (w := fun a => wx ca x0 da ht hr L Q t ++ [cD ht (a, pN 6 zn lm ch)]) C hrt hlocks hP hD hS dX9_make_145
  · refine lv_tableIn (tgt := 146) hx hb dX9_make_1 (by decide) (by decide) rfl (by decide) ?_
    refine va_new (ci := 7) (fs := [.null, .int 0, .int 0, .int 0, .int 0, .int 0, .int 0, .int 0, .int 0]) (C := RX7) (T := TX3) (N := 9) hx hb (uc_7 hk.1 _) (fun _ h9 => h9) tyX3 tyX3_ok hown (cl_X9_134 hk.1 _) (ia_X7 hk.1 _) (in_X7 hk.1 _) hK hP hD hS hA rfl (fun j hj => by rcases (by omega : j = 0 ∨ j = 1 ∨ j = 2 ∨ j = 3 ∨ j = 4 ∨ j = 5 ∨ j = 6 ∨ j = 7 ∨ j = 8) with rfl | rfl | rfl | rfl | rfl | rfl | rfl | rfl | rfl <;> rfl) (by decide) (by decide) dX9_make_146 (fun q H hP hD hS => ?_)
    have hP : va_P D cls (wx ca x0 da ht hr L Q t ++ z9 q 7) H := hP
    have hD : va_D A (wx ca x0 da ht hr L Q t ++ z9 q 7) := hD
    refine lv_dup hx hb dX9_make_149 rfl ?_
    refine lv_aload_n hx hb dX9_make_150 rfl (lv_at hl 0 rfl) ?_
    refine va_get (D := D) (C := RX9) (T := TX9) (N := 3) hx hb (uc_9 hk.1 _) (fun _ h9 => h9) hown hK hP 0 rfl rfl 1 (by decide) (fl_X9_18 hk.1 _) (fun _ h9 => h9) rfl dX9_make_151 ?_
    refine lv_iload_n hx hb dX9_make_154 rfl (lv_at hl 1 rfl) ?_
    refine lv_iload_n hx hb dX9_make_155 rfl (lv_at hl 2 rfl) ?_
    refine lv_iload_n hx hb dX9_make_156 rfl (lv_at hl 3 rfl) ?_
    refine lv_iload hx hb dX9_make_157 (lv_at hl 4 rfl) ?_
    refine k_IL (ws := wx ca x0 da ht hr L Q t) C (iT l D ca sa lo isD_7) (fun U A9 h => co_X7_init h A9) (in_X7 hk.1 _) (ml_X9_136 hk.1 _) (im_X7_init hk.1 _) rfl (by decide +kernel) ⟨⟨rfl, rfl⟩, by decide, by decide⟩ hP hD hS hl.1 (Nat.le_of_ble_eq_true rfl) dX9_make_159 ⟨by decide, by decide⟩ (fun H locs hP hD hS => ?_)
    exact rm_ (w := fun a => wx ca x0 da ht hr L Q t ++ [cD ht (a, pN 7 zn lm ch)]) C hrt hlocks hP hD hS dX9_make_162
end
section
def zAdd (Q : List Pd) (t : Tr) (kind zn lm ch : Int32) : Ry := if rng 0 7 kind = true ∧ rng 0 5 zn = true ∧ rng (-10000) 10000 lm = true ∧ rng 0 100 ch = true then (if Q.length = 20 then (-104, Q, t) else (nI Q.length, Q ++ [pN kind.toNatClampNeg zn lm ch], t)) else (-102, Q, t)
theorem rng_le {a b x : Int32} (h : rng a b x = true) : a ≤ x ∧ x ≤ b := by
  unfold rng at h
  rw [Bool.and_eq_true] at h
  exact ⟨of_decide_eq_true h.1, of_decide_eq_true h.2⟩
theorem rng_7 {x : Int32} (h : rng 0 7 x = true) : ∃ n : Nat, n < 8 ∧ x = nI n := by
  obtain ⟨h1, h2⟩ := rng_le h
  obtain ⟨j, hj, rfl⟩ := nI_of2 (n := 7) (M := 7) (by decide) (Int32.not_lt.mpr h1) h2
  exact ⟨j, by omega, rfl⟩
theorem as_self (vm : Vm) (c : ClassId) : vm.assignable c c = true := by
  unfold Vm.assignable Vm.assignableAux
  simp
theorem cast_self {D : va_G} {tys : List (ClassId × FieldType)} {U : State} (hK : va_K D cls tys U) : va_Nw (.castable RX3 RX3) U := by
  have h := (hK.1 3 _ rfl).2.1
  have h : U.vm.findClass RX3 = some (D.1 3) := h
  show (Cond.castable RX3 RX3).before #[] U = true
  simp only [Cond.before, Cond.holds, Cond.value, h, as_self]
  rfl
theorem cast_kc {D : va_G} {ca : Nat → ClassId} {sa : Nat → Nat} {U : State} (hk : KK D ca sa U) {n : Nat} (h : n < 8) : ∃ Cn, isD (kc n) Cn ∧ va_Nw (.castable Cn RX3) U := by
  have hc : ∀ q ∈ ksC, va_Nw (.castable q.1 q.2) U := hk.2.2.1
  rcases k8 h with rfl | rfl | rfl | rfl | rfl | rfl | rfl | rfl
  · exact ⟨_, isD_3, cast_self hk.2.1⟩
  · exact ⟨_, isD_8, hc (RX8, RX3) (by simp [ksC])⟩
  · exact ⟨_, isD_4, hc (RX4, RX3) (by simp [ksC])⟩
  · exact ⟨_, isD_5, hc (RX5, RX3) (by simp [ksC])⟩
  · exact ⟨_, isD_2, hc (RX2, RX3) (by simp [ksC])⟩
  · exact ⟨_, isD_0, hc (RX0, RX3) (by simp [ksC])⟩
  · exact ⟨_, isD_1, hc (RX1, RX3) (by simp [ksC])⟩
  · exact ⟨_, isD_7, hc (RX7, RX3) (by simp [ksC])⟩
theorem wpo_app {ht a : Nat} {L : List Nat} {Q : List Pd} {pd : Pd} (h : L.length = Q.length) : wpo ht (L ++ [a]) (Q ++ [pd]) = wpo ht L Q ++ [cD ht (a, pd)] := by
  unfold wpo
  rw [List.zip_append h, List.map_append]; rfl
theorem up_app {L : List Nat} {a : Nat} : va_up (fun i => L[i]?) L.length (some a) = fun i => (L ++ [a])[i]? := by
  funext i
  unfold va_up
  rcases Nat.lt_trichotomy i L.length with h | h | h
  · rw [if_neg (by omega), List.getElem?_append_left h]
  · subst h; rw [if_pos rfl, List.getElem?_append_right (Nat.le_refl _), Nat.sub_self]; rfl
  · rw [if_neg (by omega)]
    show L[i]? = _
    rw [List.getElem?_eq_none (by omega), List.getElem?_eq_none (by rw [List.length_append, List.length_singleton]; omega)]
theorem wx_last {ca : Nat → ClassId} {x0 da ht hr : Nat} {L : List Nat} {Q : List Pd} {t : Tr} {x1 : Nat × va_E} (h : L.length = Q.length) : (wx ca x0 da ht hr L Q t ++ [x1])[4 + L.length]? = some x1 := by
  have e : (wx ca x0 da ht hr L Q t).length = 4 + L.length := by
    simp only [wx, wpo, wt, List.length_cons, List.length_append, List.length_map, List.length_zip, List.length_nil]; omega
  rw [← e, List.getElem?_append_right (Nat.le_refl _), Nat.sub_self]; rfl
def QA (D : va_G) (r : Int32) (w : List Nat → va_W) (Q : List Pd) (A : Nat → Prop) : Array Value → State → Outcome → State → Prop := va_Qi (S := List Nat) (fun r' L => r' = r ∧ okP L Q) (fun L t => va_P D cls (w L) t.heap ∧ va_D A (w L)) A
section RA
variable {D : va_G} {ca : Nat → ClassId} {sa : Nat → Nat} {lo : Nat} {p : Program} {l : Launch} {e : Env} {R : Room} {s : State} {m : MethodId} {args : Array Value} {below : List Frame} {meth : Method} {c : Code} {cc : ByteArray} {nL : Nat} {own : String} {A : Nat → Prop} {H : Heap} {locs : List Loc} {cells slots mc ms : Nat} {ls : Array Slot} {pc : Nat}
theorem ra_ (C : Cx D ca sa lo p s m c cc nL own A) (hrt : meth.sig.returnType = some .int) (hlocks : meth.locks = false) {w : List Nat → va_W} {Q : List Pd} {L : List Nat} {v r : Int32} (hv : v = r) (hok : okP L Q) (hP : va_P D cls (w L) H) (hD : va_D A (w L)) (hS : va_S A s.heap H locs) (hdg : decode cc pc = .ok (.ireturn, 1)) (h1 : cells ≤ mc) (h2 : slots ≤ ms) : W p l e R s m args below meth c H locs cells slots (MQ below (QA D r w Q A) args s mc ms A) (F0 m pc ls [.int v]) :=
  W.widen h1 h2 (W.iret C.1 C.2.1 hrt (fun t ht hW => ⟨⟨v, L, rfl, ⟨hv, hok⟩, by subst ht; exact hP, hD⟩, hS.F ht⟩) hS.2.2 hdg hlocks)
end RA

set_option maxHeartbeats 4000000 in
set_option maxRecDepth 100000 in
theorem M_add (l : Launch) (D : va_G) (ca : Nat → ClassId) (sa : Nat → Nat) (lo : Nat) (x0 da ht hr : Nat) (L : List Nat) (Q : List Pd) (t : Tr) (hok : okP L Q) (kd9 zn lm ch : Int32) (sz : Nat) : Met l yX9_add [.code yX9_add cX9_add 5 (some .int)] ({ frames := 6, cells := 1, slots := 9, locals := 170 }) (PX D ca sa lo sz [.ref x0, .int kd9, .int zn, .int lm, .int ch] (wx ca x0 da ht hr L Q t)) (QA D (zAdd Q t kd9 zn lm ch).1 (fun L => wx ca x0 da ht hr L (zAdd Q t kd9 zn lm ch).2.1 (zAdd Q t kd9 zn lm ch).2.2) (zAdd Q t kd9 zn lm ch).2.1 (va_A (wx ca x0 da ht hr L Q t) sz)) 1 9 (va_A (wx ca x0 da ht hr L Q t) sz) := by
  generalize hr9 : zAdd Q t kd9 zn lm ch = r
  refine mk_met (fun A => QA D r.1 (fun L => wx ca x0 da ht hr L r.2.1 r.2.2) r.2.1 A) (by decide) (Nat.le_of_ble_eq_true rfl) ?_
  intro p e s m below meth c A ls C hrt hlocks hnm hsz hP hD hS hl
  obtain ⟨hx, hb, hml, hown, hk, hz, hlo, hA, hAl⟩ := id C
  have hK : va_K D cls (tyl ca) s := hk.2.1
  have hl : lv_has ls 5 [(0, .ref x0), (1, .int kd9), (2, .int zn), (3, .int lm), (4, .int ch)] := hl
  refine lv_iload_n hx hb dX9_add_0 rfl (lv_at hl 1 rfl) ?_
  refine k_num (n := 1) C (m_isKind l D ca sa lo kd9) (fun U A9 h => co_X9_isKind h A9) (in_X9 hk.1 _) (ml_X9_26 hk.1 _) (st_X9_isKind hk.1 _) (by decide +kernel) ⟨⟨rfl, rfl⟩, by decide, by decide⟩ hP hS rfl hl.1 rfl (Nat.le_of_ble_eq_true rfl) dX9_add_1 ⟨by decide, by decide⟩ (fun H locs hP hS _ _ => ?_)
  refine lv_if_eq (tgt := 29) hx hb dX9_add_4 (by decide) (fun c_1 => ?_) (fun c_1 => ?_)
  · have hr9 : r = (-102, Q, t) := by rw [← hr9]; exact if_neg (fun h9 => by rw [bi_eq0 c_1] at h9; simp at h9)
    subst hr9
    refine lv_bipush (v := (-102)) hx hb dX9_add_29 (by decide) ?_
    exact ra_ (w := fun L => wx ca x0 da ht hr L Q t) C hrt hlocks rfl hok hP hD hS dX9_add_31 (by decide) (by decide)
  · refine lv_iload_n hx hb dX9_add_7 rfl (lv_at hl 2 rfl) ?_
    refine k_num (n := 1) C (m_isZone l D ca sa lo zn) (fun U A9 h => co_X9_isZone h A9) (in_X9 hk.1 _) (ml_X9_30 hk.1 _) (st_X9_isZone hk.1 _) (by decide +kernel) ⟨⟨rfl, rfl⟩, by decide, by decide⟩ hP hS rfl hl.1 rfl (Nat.le_of_ble_eq_true rfl) dX9_add_8 ⟨by decide, by decide⟩ (fun H locs hP hS _ _ => ?_)
    refine lv_if_eq (tgt := 29) hx hb dX9_add_11 (by decide) (fun c_2 => ?_) (fun c_2 => ?_)
    · have hr9 : r = (-102, Q, t) := by rw [← hr9]; exact if_neg (fun h9 => by rw [bi_eq0 c_2] at h9; simp at h9)
      subst hr9
      refine lv_bipush (v := (-102)) hx hb dX9_add_29 (by decide) ?_
      exact ra_ (w := fun L => wx ca x0 da ht hr L Q t) C hrt hlocks rfl hok hP hD hS dX9_add_31 (by decide) (by decide)
    · refine lv_iload_n hx hb dX9_add_14 rfl (lv_at hl 3 rfl) ?_
      refine k_num (n := 1) C (m_isNear l D ca sa lo lm) (fun U A9 h => co_X9_isNear h A9) (in_X9 hk.1 _) (ml_X9_33 hk.1 _) (st_X9_isNear hk.1 _) (by decide +kernel) ⟨⟨rfl, rfl⟩, by decide, by decide⟩ hP hS rfl hl.1 rfl (Nat.le_of_ble_eq_true rfl) dX9_add_15 ⟨by decide, by decide⟩ (fun H locs hP hS _ _ => ?_)
      refine lv_if_eq (tgt := 29) hx hb dX9_add_18 (by decide) (fun c_3 => ?_) (fun c_3 => ?_)
      · have hr9 : r = (-102, Q, t) := by rw [← hr9]; exact if_neg (fun h9 => by rw [bi_eq0 c_3] at h9; simp at h9)
        subst hr9
        refine lv_bipush (v := (-102)) hx hb dX9_add_29 (by decide) ?_
        exact ra_ (w := fun L => wx ca x0 da ht hr L Q t) C hrt hlocks rfl hok hP hD hS dX9_add_31 (by decide) (by decide)
      · refine lv_iload hx hb dX9_add_21 (lv_at hl 4 rfl) ?_
        refine k_num (n := 1) C (m_isCharge l D ca sa lo ch) (fun U A9 h => co_X9_isCharge h A9) (in_X9 hk.1 _) (ml_X9_36 hk.1 _) (st_X9_isCharge hk.1 _) (by decide +kernel) ⟨⟨rfl, rfl⟩, by decide, by decide⟩ hP hS rfl hl.1 rfl (Nat.le_of_ble_eq_true rfl) dX9_add_23 ⟨by decide, by decide⟩ (fun H locs hP hS _ _ => ?_)
        refine lv_if_ne (tgt := 32) hx hb dX9_add_26 (by decide) (fun c_4 => ?_) (fun c_4 => ?_)
        · have hr9 : r = (if Q.length = 20 then (-104, Q, t) else (nI Q.length, Q ++ [pN kd9.toNatClampNeg zn lm ch], t)) := by rw [← hr9]; exact if_pos ⟨bi_ne0 c_1, bi_ne0 c_2, bi_ne0 c_3, bi_ne0 c_4⟩
          obtain ⟨kd, hkd, rfl⟩ := rng_7 (bi_ne0 c_1)
          rw [nI_clamp (by omega)] at hr9
          have h20 := hok.2.1
          have hLQ := hok.1
          refine lv_aload_n hx hb dX9_add_32 rfl (lv_at hl 0 rfl) ?_
          refine va_get (D := D) (C := RX9) (T := TX9) (N := 3) hx hb (uc_9 hk.1 _) (fun _ h9 => h9) hown hK hP 0 rfl rfl 2 (by decide) (fl_X9_22 hk.1 _) (fun _ h9 => h9) rfl dX9_add_33 ?_
          refine lv_aload_n hx hb dX9_add_36 rfl (lv_at hl 0 rfl) ?_
          refine va_get (D := D) (C := RX9) (T := TX9) (N := 3) hx hb (uc_9 hk.1 _) (fun _ h9 => h9) hown hK hP 0 rfl rfl 0 (by decide) (fl_X9_11 hk.1 _) (fun _ h9 => h9) rfl dX9_add_37 ?_
          refine va_alen hx hb hK hP 1 1 rfl rfl (v := 20) rfl dX9_add_40 ?_
          refine lv_icmp_lt (tgt := 47) hx hb dX9_add_41 (by decide) (fun c_5 => ?_) (fun c_5 => ?_)
          · have hlt : L.length < 20 := (nI_ltI (b := 20) (by omega) (by decide)).mp c_5
            have hr9 : r = (nI Q.length, Q ++ [pN kd zn lm ch], t) := by rw [hr9, if_neg (by omega)]
            subst hr9
            refine lv_aload_n hx hb dX9_add_47 rfl (lv_at hl 0 rfl) ?_
            refine va_get (D := D) (C := RX9) (T := TX9) (N := 3) hx hb (uc_9 hk.1 _) (fun _ h9 => h9) hown hK hP 0 rfl rfl 0 (by decide) (fl_X9_11 hk.1 _) (fun _ h9 => h9) rfl dX9_add_48 ?_
            refine lv_aload_n hx hb dX9_add_51 rfl (lv_at hl 0 rfl) ?_
            refine va_get (D := D) (C := RX9) (T := TX9) (N := 3) hx hb (uc_9 hk.1 _) (fun _ h9 => h9) hown hK hP 0 rfl rfl 2 (by decide) (fl_X9_22 hk.1 _) (fun _ h9 => h9) rfl dX9_add_52 ?_
            refine lv_aload_n hx hb dX9_add_55 rfl (lv_at hl 0 rfl) ?_
            refine lv_iload_n hx hb dX9_add_56 rfl (lv_at hl 1 rfl) ?_
            refine lv_iload_n hx hb dX9_add_57 rfl (lv_at hl 2 rfl) ?_
            refine lv_iload_n hx hb dX9_add_58 rfl (lv_at hl 3 rfl) ?_
            refine lv_iload hx hb dX9_add_59 (lv_at hl 4 rfl) ?_
            have hfr := fr_of C hD hS
            refine va_callr (run_V (Cn := RX9) (T := TX9) (N := 3) (q0 := 0) (ci := 9) (n := 4) (As := [.int (nI kd), .int zn, .int lm, .int ch]) (rest := [.int (nI L.length), .ref da]) C (m_make l D ca sa lo x0 da ht hr L Q t hok kd hkd zn lm ch H.size) (fun U A9 h => co_X9_make h A9) (in_X9 hk.1 _) (ml_X9_39 hk.1 _) (im_X9_make hk.1 _) (se_X9_X9_make hk.1 _) (by decide +kernel) ⟨⟨rfl, rfl⟩, by decide, by decide⟩ hP hD hS rfl rfl rfl hl.1 rfl (Nat.le_of_ble_eq_true rfl) dX9_add_61 ⟨by decide, by decide⟩) hS (fun q _ h => hfr q h) hfr (fun _ a t1 H1 locs1 ht1 hvm _ hB hz1 hk1 hS1 => ?_)
            subst ht1
            obtain ⟨hP, hDa⟩ := hB
            have hD := hDa.weaken (fun _ _ _ h => hfr _ h)
            have hS := hS1
            obtain ⟨Cn, hd, hca⟩ := cast_kc hk hkd
            refine va_astqO (r := (Cn, TX3, 9)) hx hb hK hP hD hS 1 1 (4 + L.length) (kc kd) rfl rfl hca (wx_last hLQ) hd.1 (vp_in_nI hlt (by decide)) dX9_add_64 (fun H locs hP hD hS => ?_)
            rw [nI_clamp (by omega), up_app] at hP hD
            have hP : va_P D cls ((x0, .inr (9, [.ref da, .ref ht, .int (nI L.length)])) :: (da, .inl (ca 1, 20, .inr (.inr (.inr (.inr (fun i => (L ++ [a])[i]?)))))) :: (wt ca ht hr t ++ wpo ht L Q ++ [cD ht (a, pN kd zn lm ch)])) H := hP
            have hD : va_D A ((x0, .inr (9, [.ref da, .ref ht, .int (nI L.length)])) :: (da, .inl (ca 1, 20, .inr (.inr (.inr (.inr (fun i => (L ++ [a])[i]?)))))) :: (wt ca ht hr t ++ wpo ht L Q ++ [cD ht (a, pN kd zn lm ch)])) := hD
            refine lv_aload_n hx hb dX9_add_65 rfl (lv_at hl 0 rfl) ?_
            refine lv_dup hx hb dX9_add_66 rfl ?_
            refine va_get (D := D) (C := RX9) (T := TX9) (N := 3) hx hb (uc_9 hk.1 _) (fun _ h9 => h9) hown hK hP 0 rfl rfl 2 (by decide) (fl_X9_22 hk.1 _) (fun _ h9 => h9) rfl dX9_add_67 ?_
            refine lv_iconst (v := 1) hx hb dX9_add_70 (by decide) ?_
            refine lv_iadd hx hb dX9_add_71 ?_
            refine va_put (D := D) (v := .int ((nI L.length) + 1)) (ty := .int) (C := RX9) (T := TX9) (N := 3) hx hb (uc_9 hk.1 _) (fun _ h9 => h9) tyX9 tyX9_ok nmX9 hown hK hP hD hS 0 rfl rfl 2 (by decide) (fl_X9_22 hk.1 _) (fun _ h9 => h9) rfl (by decide +kernel) rfl rfl (Nat.le_of_ble_eq_true rfl) dX9_add_72 (fun H locs hP hD hS => ?_)
            have hP : va_P D cls ((x0, .inr (9, [.ref da, .ref ht, .int (nI L.length + 1)])) :: (da, .inl (ca 1, 20, .inr (.inr (.inr (.inr (fun i => (L ++ [a])[i]?)))))) :: (wt ca ht hr t ++ wpo ht L Q ++ [cD ht (a, pN kd zn lm ch)])) H := hP
            have hD : va_D A ((x0, .inr (9, [.ref da, .ref ht, .int (nI L.length + 1)])) :: (da, .inl (ca 1, 20, .inr (.inr (.inr (.inr (fun i => (L ++ [a])[i]?)))))) :: (wt ca ht hr t ++ wpo ht L Q ++ [cD ht (a, pN kd zn lm ch)])) := hD
            have e9 : ((x0, .inr (9, [.ref da, .ref ht, .int (nI L.length + 1)])) :: (da, .inl (ca 1, 20, .inr (.inr (.inr (.inr (fun i => (L ++ [a])[i]?)))))) :: (wt ca ht hr t ++ wpo ht L Q ++ [cD ht (a, pN kd zn lm ch)])) = wx ca x0 da ht hr (L ++ [a]) (Q ++ [pN kd zn lm ch]) t := by
              unfold wx
              rw [wpo_app hLQ, List.length_append, List.append_assoc, nI_1]; rfl
            rw [e9] at hP hD
            refine lv_aload_n hx hb dX9_add_75 rfl (lv_at hl 0 rfl) ?_
            refine va_get (D := D) (C := RX9) (T := TX9) (N := 3) hx hb (uc_9 hk.1 _) (fun _ h9 => h9) hown hK hP 0 rfl rfl 2 (by decide) (fl_X9_22 hk.1 _) (fun _ h9 => h9) rfl dX9_add_76 ?_
            refine lv_iconst (v := 1) hx hb dX9_add_79 (by decide) ?_
            refine lv_isub hx hb dX9_add_80 ?_
            exact ra_ (w := fun L => wx ca x0 da ht hr L (Q ++ [pN kd zn lm ch]) t) (L := L ++ [a]) C hrt hlocks (by rw [List.length_append]; show nI (L.length + 1) - 1 = nI Q.length; rw [nI_pred, hLQ]) ⟨by simp [hLQ], by simp; omega, fun pd hp => by
              rcases List.mem_append.mp hp with h | h
              · exact hok.2.2 pd h
              · rw [List.mem_singleton.mp h]; exact hkd⟩ hP hD hS dX9_add_81 (by decide) (by decide)
          · have hlt : ¬ L.length < 20 := fun h => c_5 (nI_lt (b := 20) h (by decide))
            have hr9 : r = (-104, Q, t) := by rw [hr9, if_pos (by omega)]
            subst hr9
            refine lv_bipush (v := (-104)) hx hb dX9_add_44 (by decide) ?_
            exact ra_ (w := fun L => wx ca x0 da ht hr L Q t) C hrt hlocks rfl hok hP hD hS dX9_add_46 (by decide) (by decide)
        · have hr9 : r = (-102, Q, t) := by rw [← hr9]; exact if_neg (fun h9 => by rw [bi_eq0 c_4] at h9; simp at h9)
          subst hr9
          refine lv_bipush (v := (-102)) hx hb dX9_add_29 (by decide) ?_
          exact ra_ (w := fun L => wx ca x0 da ht hr L Q t) C hrt hlocks rfl hok hP hD hS dX9_add_31 (by decide) (by decide)
end
section
theorem RA_eq {U : State} {a b : ClassId} {ty : FieldType} (h1 : va_RA U a ty) (h2 : va_RA U b ty) : a = b := by
  cases ty with
  | object C =>
    obtain ⟨_, _, _, _, _, h1⟩ := h1
    obtain ⟨_, _, _, _, _, h2⟩ := h2
    exact Option.some.inj (h1.symm.trans h2)
  | _ => exact Option.some.inj (Eq.trans (Eq.symm (show _ = some a from h1)) h2)
theorem ca_eq {D : va_G} {ca : Nat → ClassId} {U : State} {cA x : ClassId} {ty : FieldType} (i : Nat) (hK : va_K D cls (tyl ca ++ [(cA, ty)]) U) (hi : (tyl ca)[i]? = some (x, ty)) : cA = x := by
  have h1 := (hK.2 4 (cA, ty) rfl).2
  have h2 := (hK.2 i (x, ty) (by rw [List.getElem?_append_left (List.getElem?_eq_some_iff.mp hi).1]; exact hi)).2
  exact RA_eq h1 h2
/-- two worlds whose cells are apart -/
def ap (w1 w2 : va_W) : Prop := ∀ (i j : Nat) (p q : Nat × va_E), w1[i]? = some p → w2[j]? = some q → p.1 ≠ q.1
theorem ap.symm {w1 w2 : va_W} (h : ap w1 w2) : ap w2 w1 := fun i j p q h1 h2 e => h j i q p h2 h1 e.symm
theorem ap.to {w1 w2 w3 : va_W} (h : ap w1 w2) (e : w3.map (·.1) = w2.map (·.1)) : ap w1 w3 := by
  intro i j p q hi hj
  have h1 : (w3.map (·.1))[j]? = some q.1 := by rw [List.getElem?_map, hj]; rfl
  rw [e, List.getElem?_map] at h1
  cases h2 : w2[j]? with
  | none => rw [h2] at h1; cases h1
  | some q' => rw [h2] at h1; rw [← Option.some.inj h1]; exact h i j p q' hi h2
section AP
variable {D : va_G} {H H1 : Heap} {A : Nat → Prop} {wr wc w1 : va_W}
theorem ap_keep (hP : va_P D cls wr H) (h : ap wr wc) (hf : ∀ q : Nat, q < H.size → ¬ va_A wc H.size q → H1[q]? = H[q]?) : va_P D cls wr H1 := by
  refine hP.kept (fun k q hk => hf q.1 (hP k q hk).lt ?_)
  rintro (⟨j, e9, hj⟩ | h9)
  · exact h k j q _ hk hj rfl
  · have := (hP k q hk).lt
    omega
theorem ap_new (hP : va_P D cls wr H) (h : ap wr wc) (hD : va_D (va_A wc H.size) w1) : ap wr w1 := by
  intro i j p q hi hj e
  rcases hD.2 j q hj with ⟨k, e9, hk⟩ | h9
  · exact h i k p _ hi hk e
  · have := (hP i p hi).lt
    omega
theorem ap_of (h : va_D A (wr ++ wc)) : ap wr wc := by
  intro i j p q hi hj e
  have hl := (List.getElem?_eq_some_iff.mp hi).1
  have := h.1 i (wr.length + j) p q (by rw [List.getElem?_append_left hl]; exact hi) (by rw [List.getElem?_append_right (by omega), Nat.add_sub_cancel_left]; exact hj) e
  omega
theorem P_l (h : va_P D cls (wr ++ wc) H) : va_P D cls wr H := fun k q hk => h k q (by rw [List.getElem?_append_left (List.getElem?_eq_some_iff.mp hk).1]; exact hk)
theorem D_l (h : va_D A (wr ++ wc)) : va_D A wr := by
  have e : ∀ (k : Nat) (q : Nat × va_E), wr[k]? = some q → (wr ++ wc)[k]? = some q := fun k q hk => by rw [List.getElem?_append_left (List.getElem?_eq_some_iff.mp hk).1]; exact hk
  exact ⟨fun i j p q hi hj => h.1 i j p q (e i p hi) (e j q hj), fun k q hk => h.2 k q (e k q hk)⟩
theorem P_r (h : va_P D cls (wr ++ wc) H) : va_P D cls wc H := fun k q hk => h (wr.length + k) q (by rw [List.getElem?_append_right (by omega), Nat.add_sub_cancel_left]; exact hk)
theorem D_r (h : va_D A (wr ++ wc)) : va_D A wc := by
  have e : ∀ (k : Nat) (q : Nat × va_E), wc[k]? = some q → (wr ++ wc)[wr.length + k]? = some q := fun k q hk => by rw [List.getElem?_append_right (by omega), Nat.add_sub_cancel_left]; exact hk
  refine ⟨fun i j p q hi hj hh => ?_, fun k q hk => h.2 _ q (e k q hk)⟩
  have := h.1 _ _ p q (e i p hi) (e j q hj) hh
  omega
end AP
def t0 : Tr := (0, fun _ => 0, 0, 0)
theorem wt_0 (ca : Nat → ClassId) (ht hr : Nat) : wt ca ht hr t0 = [(ht, .inr (6, [.ref hr, .int 0, .int 0, .int 0, .int 0, .int 0])), (hr, .inl (ca 0, 200, .inl (fun _ => 0)))] := by
  simp [wt, t0, nx, nI_0]
def QN {S : Type} (D : va_G) (w : S → va_W) (A : Nat → Prop) : Array Value → State → Outcome → State → Prop := va_Qv (S := S) (fun _ => True) (fun u t => va_P D cls (w u) t.heap ∧ va_D A (w u)) A
section RN
variable {D : va_G} {ca : Nat → ClassId} {sa : Nat → Nat} {lo : Nat} {p : Program} {l : Launch} {e : Env} {R : Room} {s : State} {m : MethodId} {args : Array Value} {below : List Frame} {meth : Method} {c : Code} {cc : ByteArray} {nL : Nat} {own : String} {A : Nat → Prop} {H : Heap} {locs : List Loc} {cells slots mc ms : Nat} {ls : Array Slot} {pc : Nat}
theorem rn {S : Type} (C : Cx D ca sa lo p s m c cc nL own A) (hrt : meth.sig.returnType = none) (hlocks : meth.locks = false) {w : S → va_W} (u : S) (hP : va_P D cls (w u) H) (hD : va_D A (w u)) (hS : va_S A s.heap H locs) (hdg : decode cc pc = .ok (.return_, 1)) : W p l e R s m args below meth c H locs cells slots (MQ below (QN D w A) args s cells slots A) (F0 m pc ls []) :=
  W.vret C.1 C.2.1 hrt (fun t ht hW => ⟨⟨u, rfl, trivial, by subst ht; exact hP, hD⟩, hS.F ht⟩) hS.2.2 hdg hlocks
end RN

set_option maxHeartbeats 4000000 in
set_option maxRecDepth 100000 in
theorem iTr (l : Launch) (D : va_G) (ca : Nat → ClassId) (sa : Nat → Nat) (lo : Nat) (ht : Nat) (sz : Nat) : Met l yX6_init [.code yX6_init cX6_init 1 none] ({ frames := 1, cells := 1, slots := 200, locals := 20 }) (PX D ca sa lo sz [.ref ht] [(ht, .inr (6, [.null, .int 0, .int 0, .int 0, .int 0, .int 0]))]) (QN D (fun hr => wt ca ht hr t0) (va_A [(ht, .inr (6, [.null, .int 0, .int 0, .int 0, .int 0, .int 0]))] sz)) 1 200 (va_A [(ht, .inr (6, [.null, .int 0, .int 0, .int 0, .int 0, .int 0]))] sz) := by
  refine mk_met (fun A => QN D (fun hr => wt ca ht hr t0) A) (by decide) (Nat.le_of_ble_eq_true rfl) ?_
  intro p e s m below meth c A ls C hrt hlocks hnm hsz hP hD hS hl
  obtain ⟨hx, hb, hml, hown, hk, hz, hlo, hA, hAl⟩ := id C
  have hK : va_K D cls (tyl ca) s := hk.2.1
  have hl : lv_has ls 1 [(0, .ref ht)] := hl
  have hin : meth.name = "<init>" := hnm
  refine lv_aload_n hx hb dX6_init_0 rfl (lv_at hl 0 rfl) ?_
  refine W.objInit hx hb hown (ml_X6_3 hk.1 _) (im_O_init hk.1 _) (co_O_init hk.1 _) rfl (by rw [hml]; exact hl.1) rfl dX6_init_1 (by decide) (Nat.le_of_ble_eq_true rfl) ?_
  refine W.eq (g2 := F0 m 4 ls []) rfl ?_
  refine lv_aload_n hx hb dX6_init_4 rfl (lv_at hl 0 rfl) ?_
  refine lv_sipush (v := 200) hx hb dX6_init_5 (by decide) ?_
  refine va_newa (atype := .int) (ty := .int) (N' := 200) (a0 := (200, .inl (fun _ => 0))) hx hb (ac_I hk.1 _) rfl hK hP hD hS hA (fun _ => rfl) (by decide) (by decide) (by decide) (by decide) (by decide) dX6_init_8 (fun hr cA H hK9 hP hD hS => ?_)
  cases ca_eq 0 hK9 rfl
  have hP : va_P D cls [(ht, .inr (6, [.null, .int 0, .int 0, .int 0, .int 0, .int 0])), (hr, .inl (ca 0, 200, .inl (fun _ => 0)))] H := hP
  have hD : va_D A [(ht, .inr (6, [.null, .int 0, .int 0, .int 0, .int 0, .int 0])), (hr, .inl (ca 0, 200, .inl (fun _ => 0)))] := hD
  refine va_putF (D := D) (v := .ref hr) (ty := (.array .int)) (C := RX6) (T := TX6) (N := 6) hx hb (uc_6 hk.1 _) (fun _ h9 => h9) tyX6 tyX6_ok nmX6 hown hK hP hD hS 0 rfl rfl 0 (by decide) (fl_X6_9 hk.1 _) (fun _ h9 => h9) rfl hin rfl (by decide +kernel) rfl rfl (Nat.le_of_ble_eq_true rfl) dX6_init_10 (fun H locs hP hD hS => ?_)
  have hP : va_P D cls [(ht, .inr (6, [.ref hr, .int 0, .int 0, .int 0, .int 0, .int 0])), (hr, .inl (ca 0, 200, .inl (fun _ => 0)))] H := hP
  have hD : va_D A [(ht, .inr (6, [.ref hr, .int 0, .int 0, .int 0, .int 0, .int 0])), (hr, .inl (ca 0, 200, .inl (fun _ => 0)))] := hD
  exact rn (w := fun hr => wt ca ht hr t0) C hrt hlocks hr (by rw [wt_0]; exact hP) (by rw [wt_0]; exact hD) hS dX6_init_13

set_option maxHeartbeats 4000000 in
set_option maxRecDepth 100000 in
theorem iX (l : Launch) (D : va_G) (ca : Nat → ClassId) (sa : Nat → Nat) (lo : Nat) (x0 : Nat) (sz : Nat) : Met l yX9_init [.code yX9_init cX9_init 1 none] ({ frames := 2, cells := 3, slots := 226, locals := 50 }) (PX D ca sa lo sz [.ref x0] [(x0, .inr (9, [.null, .null, .int 0]))]) (QN D (fun q : Nat × Nat × Nat => wx ca x0 q.1 q.2.1 q.2.2 [] [] t0) (va_A [(x0, .inr (9, [.null, .null, .int 0]))] sz)) 3 226 (va_A [(x0, .inr (9, [.null, .null, .int 0]))] sz) := by
  refine mk_met (fun A => QN D (fun q : Nat × Nat × Nat => wx ca x0 q.1 q.2.1 q.2.2 [] [] t0) A) (by decide) (Nat.le_of_ble_eq_true rfl) ?_
  intro p e s m below meth c A ls C hrt hlocks hnm hsz hP hD hS hl
  obtain ⟨hx, hb, hml, hown, hk, hz, hlo, hA, hAl⟩ := id C
  have hK : va_K D cls (tyl ca) s := hk.2.1
  have hl : lv_has ls 1 [(0, .ref x0)] := hl
  have hin : meth.name = "<init>" := hnm
  refine lv_aload_n hx hb dX9_init_0 rfl (lv_at hl 0 rfl) ?_
  refine W.objInit hx hb hown (ml_X9_1 hk.1 _) (im_O_init hk.1 _) (co_O_init hk.1 _) rfl (by rw [hml]; exact hl.1) rfl dX9_init_1 (by decide) (Nat.le_of_ble_eq_true rfl) ?_
  refine W.eq (g2 := F0 m 4 ls []) rfl ?_
  refine lv_aload_n hx hb dX9_init_4 rfl (lv_at hl 0 rfl) ?_
  refine lv_bipush (v := 20) hx hb dX9_init_5 (by decide) ?_
  refine va_newq (N' := 20) hx hb hown (cl_X9_9 hk.1 _) hk.2.2.2.2.2.2.1 hK hP hD hS hA (by decide) (by decide) (by decide) (by decide) (by decide) dX9_init_7 (fun da cA H hK9 hP hD hS => ?_)
  cases ca_eq 1 hK9 rfl
  have hP : va_P D cls [(x0, .inr (9, [.null, .null, .int 0])), (da, .inl (ca 1, 20, .inr (.inr (.inr (.inr (fun _ => none))))))] H := hP
  have hD : va_D A [(x0, .inr (9, [.null, .null, .int 0])), (da, .inl (ca 1, 20, .inr (.inr (.inr (.inr (fun _ => none))))))] := hD
  refine va_putF (D := D) (v := .ref da) (ty := (.array (.object "AlarmKinds$Plain"))) (C := RX9) (T := TX9) (N := 3) hx hb (uc_9 hk.1 _) (fun _ h9 => h9) tyX9 tyX9_ok nmX9 hown hK hP hD hS 0 rfl rfl 0 (by decide) (fl_X9_11 hk.1 _) (fun _ h9 => h9) rfl hin rfl (by decide +kernel) rfl rfl (Nat.le_of_ble_eq_true rfl) dX9_init_10 (fun H locs hP hD hS => ?_)
  have hP : va_P D cls [(x0, .inr (9, [.ref da, .null, .int 0])), (da, .inl (ca 1, 20, .inr (.inr (.inr (.inr (fun _ => none))))))] H := hP
  have hD : va_D A [(x0, .inr (9, [.ref da, .null, .int 0])), (da, .inl (ca 1, 20, .inr (.inr (.inr (.inr (fun _ => none))))))] := hD
  refine lv_aload_n hx hb dX9_init_13 rfl (lv_at hl 0 rfl) ?_
  refine va_new (ci := 6) (fs := [.null, .int 0, .int 0, .int 0, .int 0, .int 0]) (C := RX6) (T := TX6) (N := 6) hx hb (uc_6 hk.1 _) (fun _ h9 => h9) tyX6 tyX6_ok hown (cl_X9_15 hk.1 _) (ia_X6 hk.1 _) (in_X6 hk.1 _) hK hP hD hS hA rfl (fun j hj => by rcases (by omega : j = 0 ∨ j = 1 ∨ j = 2 ∨ j = 3 ∨ j = 4 ∨ j = 5) with rfl | rfl | rfl | rfl | rfl | rfl <;> rfl) (by decide) (by decide) dX9_init_14 (fun ht H hP hD hS => ?_)
  have hP : va_P D cls [(x0, .inr (9, [.ref da, .null, .int 0])), (da, .inl (ca 1, 20, .inr (.inr (.inr (.inr (fun _ => none)))))), (ht, .inr (6, [.null, .int 0, .int 0, .int 0, .int 0, .int 0]))] H := hP
  have hD : va_D A [(x0, .inr (9, [.ref da, .null, .int 0])), (da, .inl (ca 1, 20, .inr (.inr (.inr (.inr (fun _ => none)))))), (ht, .inr (6, [.null, .int 0, .int 0, .int 0, .int 0, .int 0]))] := hD
  refine lv_dup hx hb dX9_init_17 rfl ?_
  have hP0 : va_P D cls ([(x0, .inr (9, [.ref da, .null, .int 0])), (da, .inl (ca 1, 20, .inr (.inr (.inr (.inr (fun _ => none))))))] ++ [(ht, .inr (6, [.null, .int 0, .int 0, .int 0, .int 0, .int 0]))]) H := hP
  have hD0 : va_D A ([(x0, .inr (9, [.ref da, .null, .int 0])), (da, .inl (ca 1, 20, .inr (.inr (.inr (.inr (fun _ => none))))))] ++ [(ht, .inr (6, [.null, .int 0, .int 0, .int 0, .int 0, .int 0]))]) := hD
  have hfr := fr_of C (D_r hD0) hS
  refine va_callv (run_I (As := []) (n := 0) (rest := [.ref ht, .ref x0]) C (iTr l D ca sa lo ht H.size) (fun U A9 h => co_X6_init h A9) (in_X6 hk.1 _) (ml_X9_17 hk.1 _) (im_X6_init hk.1 _) rfl (by decide +kernel) ⟨⟨rfl, rfl⟩, by decide, by decide⟩ (P_r hP0) (D_r hD0) hS rfl hl.1 rfl (Nat.le_of_ble_eq_true rfl) dX9_init_18 ⟨by decide, by decide⟩) hS (fun q _ h => hfr q h) hfr (fun hr t1 H locs ht1 hvm _ hB hz1 hk1 hS => ?_)
  subst ht1
  have hP := (ap_keep (P_l hP0) (ap_of hD0) hk1).app hB.1
  have hD := va_D.app (D_l hD0) (hB.2.weaken (fun _ _ _ h => hfr _ h)) (ap_new (P_l hP0) (ap_of hD0) hB.2)
  dsimp only at hP hD
  rw [wt_0] at hP hD
  have hP : va_P D cls [(x0, .inr (9, [.ref da, .null, .int 0])), (da, .inl (ca 1, 20, .inr (.inr (.inr (.inr (fun _ => none)))))), (ht, .inr (6, [.ref hr, .int 0, .int 0, .int 0, .int 0, .int 0])), (hr, .inl (ca 0, 200, .inl (fun _ => 0)))] t1.heap := hP
  have hD : va_D A [(x0, .inr (9, [.ref da, .null, .int 0])), (da, .inl (ca 1, 20, .inr (.inr (.inr (.inr (fun _ => none)))))), (ht, .inr (6, [.ref hr, .int 0, .int 0, .int 0, .int 0, .int 0])), (hr, .inl (ca 0, 200, .inl (fun _ => 0)))] := hD
  refine va_putF (D := D) (v := .ref ht) (ty := (.object "AlarmKinds$Trace")) (C := RX9) (T := TX9) (N := 3) hx hb (uc_9 hk.1 _) (fun _ h9 => h9) tyX9 tyX9_ok nmX9 hown hK hP hD hS 0 rfl rfl 1 (by decide) (fl_X9_18 hk.1 _) (fun _ h9 => h9) rfl hin rfl (by decide +kernel) rfl rfl (Nat.le_of_ble_eq_true rfl) dX9_init_21 (fun H locs hP hD hS => ?_)
  have hP : va_P D cls [(x0, .inr (9, [.ref da, .ref ht, .int 0])), (da, .inl (ca 1, 20, .inr (.inr (.inr (.inr (fun _ => none)))))), (ht, .inr (6, [.ref hr, .int 0, .int 0, .int 0, .int 0, .int 0])), (hr, .inl (ca 0, 200, .inl (fun _ => 0)))] H := hP
  have hD : va_D A [(x0, .inr (9, [.ref da, .ref ht, .int 0])), (da, .inl (ca 1, 20, .inr (.inr (.inr (.inr (fun _ => none)))))), (ht, .inr (6, [.ref hr, .int 0, .int 0, .int 0, .int 0, .int 0])), (hr, .inl (ca 0, 200, .inl (fun _ => 0)))] := hD
  refine lv_aload_n hx hb dX9_init_24 rfl (lv_at hl 0 rfl) ?_
  refine lv_iconst (v := 0) hx hb dX9_init_25 (by decide) ?_
  refine va_put (D := D) (v := .int 0) (ty := .int) (C := RX9) (T := TX9) (N := 3) hx hb (uc_9 hk.1 _) (fun _ h9 => h9) tyX9 tyX9_ok nmX9 hown hK hP hD hS 0 rfl rfl 2 (by decide) (fl_X9_22 hk.1 _) (fun _ h9 => h9) rfl (by decide +kernel) rfl rfl (Nat.le_of_ble_eq_true rfl) dX9_init_26 (fun H locs hP hD hS => ?_)
  have hP : va_P D cls [(x0, .inr (9, [.ref da, .ref ht, .int 0])), (da, .inl (ca 1, 20, .inr (.inr (.inr (.inr (fun _ => none)))))), (ht, .inr (6, [.ref hr, .int 0, .int 0, .int 0, .int 0, .int 0])), (hr, .inl (ca 0, 200, .inl (fun _ => 0)))] H := hP
  have hD : va_D A [(x0, .inr (9, [.ref da, .ref ht, .int 0])), (da, .inl (ca 1, 20, .inr (.inr (.inr (.inr (fun _ => none)))))), (ht, .inr (6, [.ref hr, .int 0, .int 0, .int 0, .int 0, .int 0])), (hr, .inl (ca 0, 200, .inl (fun _ => 0)))] := hD
  exact rn (w := fun q : Nat × Nat × Nat => wx ca x0 q.1 q.2.1 q.2.2 [] [] t0) C hrt hlocks (da, ht, hr) (by unfold wx; rw [wt_0]; exact hP) (by unfold wx; rw [wt_0]; exact hD) hS dX9_init_29
end
