section KF
variable {D : va_G} {ca : Nat → ClassId} {sa : Nat → Nat} {lo : Nat} {p : Program} {l : Launch} {e : Env} {R : Room} {s : State} {m : MethodId} {args : Array Value} {below : List Frame} {meth : Method} {c : Code} {cc : ByteArray} {nL : Nat} {own : String} {A : Nat → Prop} {H : Heap} {locs : List Loc} {cells slots : Nat} {Q : State → Prop} {ls : Array Slot} {pc : Nat} {rest : List Value}
variable {h0 ht hr ci : Nat} {Cn : String} {kd zn lm v : Int32} {d : Dv} {t : Tr} {b : ByteArray} {n mc ms index : Nat} {rm : Room} {x y : MethodName} {owner : String}
theorem kWUf {F : Int32 → Dv → Tr → Rs} (hd : isD ci Cn) (C : Cx D ca sa lo p s m c cc nL own A) (hM : cW l D ca sa lo y b n rm mc ms ci F) (hw : aU s args R cells slots own index x y owner Cn b n 1 (some .int) rm mc ms) (hP : va_P D cls (wd ca h0 ht hr ci kd zn lm d t) H) (hD : va_D A (wd ca h0 ht hr ci kd zn lm d t)) (hS : va_S A s.heap H locs) (hsize : ls.size = nL) (hW : (rest.map fun v => v.category).sum ≤ 8) (hdg : decode cc pc = .ok (.invokevirtual index, 3))
    (kx : ∀ (E : String) (ce : Cell) (q9 : Addr) (H1 : Heap) (locs1 : List Loc), en (F v d t).1 E → va_P D cls (wd ca h0 ht hr ci kd zn lm (F v d t).2.2.1 (F v d t).2.2.2) H1 → va_D A (wd ca h0 ht hr ci kd zn lm (F v d t).2.2.1 (F v d t).2.2.2) → va_S A s.heap H1 locs1 → (∀ q : Nat, q < H.size → ¬ va_A (wd ca h0 ht hr ci kd zn lm d t) H.size q → H1[q]? = H[q]?) → H1[q9]? = some ce → ce.vm = .none → s.vm.findClass E = some ce.cls → vx_W p l e R s m args below meth c H1 locs1 (cells + mc) (slots + ms) Q (F0 m pc ls rest) q9)
    (kk : (F v d t).1 = 0 → ∀ (H1 : Heap) (locs1 : List Loc), va_P D cls (wd ca h0 ht hr ci kd zn lm (F v d t).2.2.1 (F v d t).2.2.2) H1 → va_D A (wd ca h0 ht hr ci kd zn lm (F v d t).2.2.1 (F v d t).2.2.2) → va_S A s.heap H1 locs1 → (∀ q : Nat, q < H.size → ¬ va_A (wd ca h0 ht hr ci kd zn lm d t) H.size q → H1[q]? = H[q]?) → W p l e R s m args below meth c H1 locs1 (cells + mc) (slots + ms) Q (F0 m (pc + 3) ls (.int (F v d t).2.1 :: rest))) : W p l e R s m args below meth c H locs cells slots Q (F0 m pc ls (.int v :: .ref h0 :: rest)) := by
  obtain ⟨w1, w2, w3, w4, w5, w6, w7, w8, w9, w10⟩ := hw
  have hf := fr_of C hD hS
  refine vx_calli (run_U (x := x) (y := y) (owner := owner) (Cn := Cn) (T := TX3) (N := 9) (q0 := 0) (ci := ci) (As := [.int v]) (rest := rest) C (hM H.size h0 ht hr kd zn lm v d t) w1 w2 w3 w4 w5 w6 w7 w8 w9 hP hD hS rfl hd.1 rfl hsize rfl hW hdg w10) hS (fun q _ h => hf q h) hf (fun q _ h => hf q h) ?_ ?_
  · intro E ce q9 u t1 H1 locs1 ht1 hvm hp hB hz1 hk1 hS1 h1 h2 h3
    subst ht1
    exact kx E ce q9 _ _ hB.1 hB.2 (hD.to (wd_map _ _ _ _)) hS1 hk1 h1 h2 h3
  · intro r9 u t1 H1 locs1 ht1 hvm hp hB hz1 hk1 hS1
    subst ht1
    obtain ⟨hp0, rfl⟩ := hp
    exact kk hp0 _ _ hB (hD.to (wd_map _ _ _ _)) hS1 hk1
theorem kRUf {F : Int32 → Dv → Tr → Rr} (hd : isD ci Cn) (C : Cx D ca sa lo p s m c cc nL own A) (hM : cR l D ca sa lo y b n rm mc ms ci F) (hw : aU s args R cells slots own index x y owner Cn b n 1 none rm mc ms) (hP : va_P D cls (wd ca h0 ht hr ci kd zn lm d t) H) (hD : va_D A (wd ca h0 ht hr ci kd zn lm d t)) (hS : va_S A s.heap H locs) (hsize : ls.size = nL) (hW : (rest.map fun v => v.category).sum ≤ 8) (hdg : decode cc pc = .ok (.invokevirtual index, 3))
    (kx : ∀ (E : String) (ce : Cell) (q9 : Addr) (H1 : Heap) (locs1 : List Loc), en (F v d t).1 E → va_P D cls (wd ca h0 ht hr ci kd zn lm (F v d t).2.1 (F v d t).2.2) H1 → va_D A (wd ca h0 ht hr ci kd zn lm (F v d t).2.1 (F v d t).2.2) → va_S A s.heap H1 locs1 → (∀ q : Nat, q < H.size → ¬ va_A (wd ca h0 ht hr ci kd zn lm d t) H.size q → H1[q]? = H[q]?) → H1[q9]? = some ce → ce.vm = .none → s.vm.findClass E = some ce.cls → vx_W p l e R s m args below meth c H1 locs1 (cells + mc) (slots + ms) Q (F0 m pc ls rest) q9)
    (kk : (F v d t).1 = 0 → ∀ (H1 : Heap) (locs1 : List Loc), va_P D cls (wd ca h0 ht hr ci kd zn lm (F v d t).2.1 (F v d t).2.2) H1 → va_D A (wd ca h0 ht hr ci kd zn lm (F v d t).2.1 (F v d t).2.2) → va_S A s.heap H1 locs1 → (∀ q : Nat, q < H.size → ¬ va_A (wd ca h0 ht hr ci kd zn lm d t) H.size q → H1[q]? = H[q]?) → W p l e R s m args below meth c H1 locs1 (cells + mc) (slots + ms) Q (F0 m (pc + 3) ls (rest))) : W p l e R s m args below meth c H locs cells slots Q (F0 m pc ls (.int v :: .ref h0 :: rest)) := by
  obtain ⟨w1, w2, w3, w4, w5, w6, w7, w8, w9, w10⟩ := hw
  have hf := fr_of C hD hS
  refine vx_callv (run_U (x := x) (y := y) (owner := owner) (Cn := Cn) (T := TX3) (N := 9) (q0 := 0) (ci := ci) (As := [.int v]) (rest := rest) C (hM H.size h0 ht hr kd zn lm v d t) w1 w2 w3 w4 w5 w6 w7 w8 w9 hP hD hS rfl hd.1 rfl hsize rfl hW hdg w10) hS (fun q _ h => hf q h) hf (fun q _ h => hf q h) ?_ ?_
  · intro E ce q9 u t1 H1 locs1 ht1 hvm hp hB hz1 hk1 hS1 h1 h2 h3
    subst ht1
    exact kx E ce q9 _ _ hB.1 hB.2 (hD.to (wd_map _ _ _ _)) hS1 hk1 h1 h2 h3
  · intro u t1 H1 locs1 ht1 hvm hp hB hz1 hk1 hS1
    subst ht1
    exact kk hp _ _ hB (hD.to (wd_map _ _ _ _)) hS1 hk1
theorem kOUf {F : Int32 → Dv → Tr → Ro} (hd : isD ci Cn) (C : Cx D ca sa lo p s m c cc nL own A) (hM : cO l D ca sa lo y b n rm ci F) (hw : aU s args R cells slots own index x y owner Cn b n 0 (some .boolean) rm 0 0) (hP : va_P D cls (wd ca h0 ht hr ci kd zn lm d t) H) (hD : va_D A (wd ca h0 ht hr ci kd zn lm d t)) (hS : va_S A s.heap H locs) (hsize : ls.size = nL) (hW : (rest.map fun v => v.category).sum ≤ 8) (hdg : decode cc pc = .ok (.invokevirtual index, 3))
    
    (kk : ∀ (H1 : Heap) (locs1 : List Loc), va_P D cls (wd ca h0 ht hr ci kd zn lm (F lm d t).2.1 (F lm d t).2.2) H1 → va_D A (wd ca h0 ht hr ci kd zn lm (F lm d t).2.1 (F lm d t).2.2) → va_S A s.heap H1 locs1 → (∀ q : Nat, q < H.size → ¬ va_A (wd ca h0 ht hr ci kd zn lm d t) H.size q → H1[q]? = H[q]?) → W p l e R s m args below meth c H1 locs1 (cells + 0) (slots + 0) Q (F0 m (pc + 3) ls (.int (bi (F lm d t).1) :: rest))) : W p l e R s m args below meth c H locs cells slots Q (F0 m pc ls (.ref h0 :: rest)) := by
  obtain ⟨w1, w2, w3, w4, w5, w6, w7, w8, w9, w10⟩ := hw
  have hf := fr_of C hD hS
  refine vx_calli (run_U (x := x) (y := y) (owner := owner) (Cn := Cn) (T := TX3) (N := 9) (q0 := 0) (ci := ci) (As := []) (rest := rest) C (x_of (A9 := A) (hM H.size h0 ht hr kd zn lm d t)) w1 w2 w3 w4 w5 w6 w7 w8 w9 hP hD hS rfl hd.1 rfl hsize rfl hW hdg w10) hS (fun q _ h => hf q h) hf (fun q _ h => h) ?_ ?_
  · intro E ce q9 u t1 H1 locs1 ht1 hvm hp hB hz1 hk1 hS1 h1 h2 h3
    exact hp.elim
  · intro r9 u t1 H1 locs1 ht1 hvm hp hB hz1 hk1 hS1
    subst ht1
    cases hp
    exact kk _ _ hB (hD.to (wd_map _ _ _ _)) hS1 hk1
theorem kCUf {F : Dv → Tr → Dv × Tr} (hd : isD ci Cn) (C : Cx D ca sa lo p s m c cc nL own A) (hM : cC l D ca sa lo y b n rm ci F) (hw : aU s args R cells slots own index x y owner Cn b n 0 none rm 0 0) (hP : va_P D cls (wd ca h0 ht hr ci kd zn lm d t) H) (hD : va_D A (wd ca h0 ht hr ci kd zn lm d t)) (hS : va_S A s.heap H locs) (hsize : ls.size = nL) (hW : (rest.map fun v => v.category).sum ≤ 8) (hdg : decode cc pc = .ok (.invokevirtual index, 3))
    
    (kk : ∀ (H1 : Heap) (locs1 : List Loc), va_P D cls (wd ca h0 ht hr ci kd zn lm (F d t).1 (F d t).2) H1 → va_D A (wd ca h0 ht hr ci kd zn lm (F d t).1 (F d t).2) → va_S A s.heap H1 locs1 → (∀ q : Nat, q < H.size → ¬ va_A (wd ca h0 ht hr ci kd zn lm d t) H.size q → H1[q]? = H[q]?) → W p l e R s m args below meth c H1 locs1 (cells + 0) (slots + 0) Q (F0 m (pc + 3) ls (rest))) : W p l e R s m args below meth c H locs cells slots Q (F0 m pc ls (.ref h0 :: rest)) := by
  obtain ⟨w1, w2, w3, w4, w5, w6, w7, w8, w9, w10⟩ := hw
  have hf := fr_of C hD hS
  refine vx_callv (run_U (x := x) (y := y) (owner := owner) (Cn := Cn) (T := TX3) (N := 9) (q0 := 0) (ci := ci) (As := []) (rest := rest) C (x_of (A9 := A) (hM H.size h0 ht hr kd zn lm d t)) w1 w2 w3 w4 w5 w6 w7 w8 w9 hP hD hS rfl hd.1 rfl hsize rfl hW hdg w10) hS (fun q _ h => hf q h) hf (fun q _ h => h) ?_ ?_
  · intro E ce q9 u t1 H1 locs1 ht1 hvm hp hB hz1 hk1 hS1 h1 h2 h3
    exact hp.elim
  · intro u t1 H1 locs1 ht1 hvm hp hB hz1 hk1 hS1
    subst ht1
    exact kk _ _ hB (hD.to (wd_map _ _ _ _)) hS1 hk1
theorem kKUf {F : Dv → Tr → Int32 × Tr} (hd : isD ci Cn) (C : Cx D ca sa lo p s m c cc nL own A) (hM : cK l D ca sa lo y b n rm ci F) (hw : aU s args R cells slots own index x y owner Cn b n 0 (some .int) rm 0 0) (hP : va_P D cls (wd ca h0 ht hr ci kd zn lm d t) H) (hD : va_D A (wd ca h0 ht hr ci kd zn lm d t)) (hS : va_S A s.heap H locs) (hsize : ls.size = nL) (hW : (rest.map fun v => v.category).sum ≤ 8) (hdg : decode cc pc = .ok (.invokevirtual index, 3))
    
    (kk : ∀ (H1 : Heap) (locs1 : List Loc), va_P D cls (wd ca h0 ht hr ci kd zn lm d (F d t).2) H1 → va_D A (wd ca h0 ht hr ci kd zn lm d (F d t).2) → va_S A s.heap H1 locs1 → (∀ q : Nat, q < H.size → ¬ va_A (wd ca h0 ht hr ci kd zn lm d t) H.size q → H1[q]? = H[q]?) → W p l e R s m args below meth c H1 locs1 (cells + 0) (slots + 0) Q (F0 m (pc + 3) ls (.int (F d t).1 :: rest))) : W p l e R s m args below meth c H locs cells slots Q (F0 m pc ls (.ref h0 :: rest)) := by
  obtain ⟨w1, w2, w3, w4, w5, w6, w7, w8, w9, w10⟩ := hw
  have hf := fr_of C hD hS
  refine vx_calli (run_U (x := x) (y := y) (owner := owner) (Cn := Cn) (T := TX3) (N := 9) (q0 := 0) (ci := ci) (As := []) (rest := rest) C (x_of (A9 := A) (hM H.size h0 ht hr kd zn lm d t)) w1 w2 w3 w4 w5 w6 w7 w8 w9 hP hD hS rfl hd.1 rfl hsize rfl hW hdg w10) hS (fun q _ h => hf q h) hf (fun q _ h => h) ?_ ?_
  · intro E ce q9 u t1 H1 locs1 ht1 hvm hp hB hz1 hk1 hS1 h1 h2 h3
    exact hp.elim
  · intro r9 u t1 H1 locs1 ht1 hvm hp hB hz1 hk1 hS1
    subst ht1
    cases hp
    exact kk _ _ hB (hD.to (wd_map _ _ _ _)) hS1 hk1
theorem kVUf {F : Int32 → Dv → Tr → Int32 × Dv × Tr} (hd : isD ci Cn) (C : Cx D ca sa lo p s m c cc nL own A) (hM : cV l D ca sa lo y b n rm ci F) (hw : aU s args R cells slots own index x y owner Cn b n 0 (some .int) rm 0 0) (hP : va_P D cls (wd ca h0 ht hr ci kd zn lm d t) H) (hD : va_D A (wd ca h0 ht hr ci kd zn lm d t)) (hS : va_S A s.heap H locs) (hsize : ls.size = nL) (hW : (rest.map fun v => v.category).sum ≤ 8) (hdg : decode cc pc = .ok (.invokevirtual index, 3))
    
    (kk : ∀ (H1 : Heap) (locs1 : List Loc), va_P D cls (wd ca h0 ht hr ci kd zn lm (F lm d t).2.1 (F lm d t).2.2) H1 → va_D A (wd ca h0 ht hr ci kd zn lm (F lm d t).2.1 (F lm d t).2.2) → va_S A s.heap H1 locs1 → (∀ q : Nat, q < H.size → ¬ va_A (wd ca h0 ht hr ci kd zn lm d t) H.size q → H1[q]? = H[q]?) → W p l e R s m args below meth c H1 locs1 (cells + 0) (slots + 0) Q (F0 m (pc + 3) ls (.int (F lm d t).1 :: rest))) : W p l e R s m args below meth c H locs cells slots Q (F0 m pc ls (.ref h0 :: rest)) := by
  obtain ⟨w1, w2, w3, w4, w5, w6, w7, w8, w9, w10⟩ := hw
  have hf := fr_of C hD hS
  refine vx_calli (run_U (x := x) (y := y) (owner := owner) (Cn := Cn) (T := TX3) (N := 9) (q0 := 0) (ci := ci) (As := []) (rest := rest) C (x_of (A9 := A) (hM H.size h0 ht hr kd zn lm d t)) w1 w2 w3 w4 w5 w6 w7 w8 w9 hP hD hS rfl hd.1 rfl hsize rfl hW hdg w10) hS (fun q _ h => hf q h) hf (fun q _ h => h) ?_ ?_
  · intro E ce q9 u t1 H1 locs1 ht1 hvm hp hB hz1 hk1 hS1 h1 h2 h3
    exact hp.elim
  · intro r9 u t1 H1 locs1 ht1 hvm hp hB hz1 hk1 hS1
    subst ht1
    cases hp
    exact kk _ _ hB (hD.to (wd_map _ _ _ _)) hS1 hk1
end KF
