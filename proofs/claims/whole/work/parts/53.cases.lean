def GO (D : va_G) (ca : Nat → ClassId) (p : Program) (l : Launch) (e : Env) (s : State) (m : MethodId) (args : Array Value) (below : List Frame) (meth : Method) (c : Code) (A : Nat → Prop) (Qg : State → Prop) (x0 da ht hr : Nat) (ya : Nat → Nat) (oa b k n : Nat) (pc : Nat) : Prop := ∀ (L : List Nat) (Q : List Pd) (t : Tr) (F : Nat → Pd) (cd fl : Int32) (f : Nat → Int64) (H : Heap) (locs : List Loc) (ls : Array Slot), okP L Q → RQ F Q → t.1 ≤ n → LW D ca A x0 da ht hr L Q t ya F Q.length cd fl t oa f H → va_S A s.heap H locs → lv_has ls 7 [(0, .ref b), (1, .ref x0), (2, .ref (ya 0)), (3, .ref oa), (4, .int (nI (5 * k)))] → W p l e room_1 s m args below meth c H locs (15 + 80 * (k + 1)) (605 + 480 * (k + 1)) Qg (F0 m pc ls [])

set_option maxHeartbeats 4000000 in
set_option maxRecDepth 100000 in
theorem T_add {D : va_G} {ca : Nat → ClassId} {sa : Nat → Nat} {lo : Nat} {p : Program} {l : Launch} {e : Env} {s : State} {m : MethodId} {args : Array Value} {below : List Frame} {meth : Method} {c : Code} {A : Nat → Prop} {Qg : State → Prop} {x0 da ht hr : Nat} {ya : Nat → Nat} {oa b Ls k : Nat} {xs : Nat → Int32} (hl9 : l.stackTraces = false) (C : Cx D ca sa lo p s m c code 7 RL A) (hX : va_X b Ls xs s s.heap) (hbl : b < s.heap.size) (hbA : ¬ A b) (hLs : Ls ≤ 2560) (hk5 : 5 * k + 5 ≤ Ls) (kk : GO D ca p l e s m args below meth c A Qg x0 da ht hr ya oa b k (220 * (k + 1)) 546) : ∀ (L : List Nat) (Q : List Pd) (t : Tr) (F : Nat → Pd) (cd fl : Int32) (f : Nat → Int64) (H : Heap) (locs : List Loc) (ls : Array Slot), okP L Q → RQ F Q → t.1 ≤ 220 * k → LW D ca A x0 da ht hr L Q t ya F Q.length cd fl t oa f H → va_S A s.heap H locs → lv_has ls 7 [(0, .ref b), (1, .ref x0), (2, .ref (ya 0)), (3, .ref oa), (4, .int (nI (5 * k)))] → W p l e room_1 s m args below meth c H locs (15 + 80 * k) (605 + 480 * k) Qg (F0 m 100 ls []) := by
  intro L Q t F cd fl f H locs ls hok hF htn hW hS hl
  obtain ⟨hx, hb, hml, hown, hk, hz, hlo, hA, hAl⟩ := id C
  have hK : va_K D cls (tyl ca) s := hk.2.1
  have hoq : okQ Q := ⟨hok.2.1, hok.2.2⟩
  refine W.widen (k := 15 + 80 * k) (n := 605 + 480 * k) (by omega) (by omega) ?_
  refine lv_aload_n hx hb dL_law_100 rfl (lv_at hl 1 rfl) ?_
  refine lv_aload_n hx hb dL_law_101 rfl (lv_at hl 0 rfl) ?_
  refine lv_iload hx hb dL_law_102 (lv_at hl 4 rfl) ?_
  refine lv_iconst (v := 1) hx hb dL_law_104 (by decide) ?_
  refine lv_iadd hx hb dL_law_105 ?_
  refine ls_ (j := 5 * k + 1) hx hb hX hbl hbA hS (nI_add (5 * k) 1) (by omega) hLs dL_law_106 ?_
  refine lv_aload_n hx hb dL_law_107 rfl (lv_at hl 0 rfl) ?_
  refine lv_iload hx hb dL_law_108 (lv_at hl 4 rfl) ?_
  refine lv_iconst (v := 2) hx hb dL_law_110 (by decide) ?_
  refine lv_iadd hx hb dL_law_111 ?_
  refine ls_ (j := 5 * k + 2) hx hb hX hbl hbA hS (nI_add (5 * k) 2) (by omega) hLs dL_law_112 ?_
  refine lv_aload_n hx hb dL_law_113 rfl (lv_at hl 0 rfl) ?_
  refine lv_iload hx hb dL_law_114 (lv_at hl 4 rfl) ?_
  refine lv_iconst (v := 3) hx hb dL_law_116 (by decide) ?_
  refine lv_iadd hx hb dL_law_117 ?_
  refine ls_ (j := 5 * k + 3) hx hb hX hbl hbA hS (nI_add (5 * k) 3) (by omega) hLs dL_law_118 ?_
  refine lv_aload_n hx hb dL_law_119 rfl (lv_at hl 0 rfl) ?_
  refine lv_iload hx hb dL_law_120 (lv_at hl 4 rfl) ?_
  refine lv_iconst (v := 4) hx hb dL_law_122 (by decide) ?_
  refine lv_iadd hx hb dL_law_123 ?_
  refine ls_ (j := 5 * k + 4) hx hb hX hbl hbA hS (nI_add (5 * k) 4) (by omega) hLs dL_law_124 ?_
  have hfr := fr_of C hW.1.2 hS
  refine va_calli (run_V (Cn := RX9) (T := TX9) (N := 3) (q0 := 0) (ci := 9) (n := 4) (As := [.int (xs (5 * k + 1)), .int (xs (5 * k + 2)), .int (xs (5 * k + 3)), .int (xs (5 * k + 4))]) (rest := []) C (M_add l D ca sa lo x0 da ht hr L Q t hok (xs (5 * k + 1)) (xs (5 * k + 2)) (xs (5 * k + 3)) (xs (5 * k + 4)) _) (fun U A9 h => co_X9_add h A9) (in_X9 hk.1 _) (ml_L_24 hk.1 _) (im_X9_add hk.1 _) (se_X9_X9_add hk.1 _) (by decide +kernel) ⟨⟨rfl, rfl⟩, by decide, by decide⟩ hW.1.1 hW.1.2 hS rfl rfl rfl hl.1 rfl (Nat.le_of_ble_eq_true rfl) dL_law_125 ⟨Nat.le_trans (by omega) rb_c, Nat.le_trans (by omega) rb_s⟩) hS (fun q _ h => hfr q h) hfr (fun r9 u t1 H1 locs1 ht1 hvm hp hB hz1 hk1 hS1 => ?_)
  subst ht1
  obtain ⟨rfl, hok1⟩ := hp
  have hW := hW.xn hk1 hfr hB.1 hB.2
  have hS := hS1
  refine lv_aload_n hx hb dL_law_128 rfl (lv_at hl 2 rfl) ?_
  refine lv_aload_n hx hb dL_law_129 rfl (lv_at hl 0 rfl) ?_
  refine lv_iload hx hb dL_law_130 (lv_at hl 4 rfl) ?_
  refine lv_iconst (v := 1) hx hb dL_law_132 (by decide) ?_
  refine lv_iadd hx hb dL_law_133 ?_
  refine ls_ (j := 5 * k + 1) hx hb hX hbl hbA hS (nI_add (5 * k) 1) (by omega) hLs dL_law_134 ?_
  refine lv_aload_n hx hb dL_law_135 rfl (lv_at hl 0 rfl) ?_
  refine lv_iload hx hb dL_law_136 (lv_at hl 4 rfl) ?_
  refine lv_iconst (v := 2) hx hb dL_law_138 (by decide) ?_
  refine lv_iadd hx hb dL_law_139 ?_
  refine ls_ (j := 5 * k + 2) hx hb hX hbl hbA hS (nI_add (5 * k) 2) (by omega) hLs dL_law_140 ?_
  refine lv_aload_n hx hb dL_law_141 rfl (lv_at hl 0 rfl) ?_
  refine lv_iload hx hb dL_law_142 (lv_at hl 4 rfl) ?_
  refine lv_iconst (v := 3) hx hb dL_law_144 (by decide) ?_
  refine lv_iadd hx hb dL_law_145 ?_
  refine ls_ (j := 5 * k + 3) hx hb hX hbl hbA hS (nI_add (5 * k) 3) (by omega) hLs dL_law_146 ?_
  refine lv_aload_n hx hb dL_law_147 rfl (lv_at hl 0 rfl) ?_
  refine lv_iload hx hb dL_law_148 (lv_at hl 4 rfl) ?_
  refine lv_iconst (v := 4) hx hb dL_law_150 (by decide) ?_
  refine lv_iadd hx hb dL_law_151 ?_
  refine ls_ (j := 5 * k + 4) hx hb hX hbl hbA hS (nI_add (5 * k) 4) (by omega) hLs dL_law_152 ?_
  have hfr := fr_of C hW.2.1.2 hS
  refine va_calli (run_V (Cn := RX10) (T := TX10) (N := 15) (q0 := 0) (ci := 10) (n := 4) (As := [.int (xs (5 * k + 1)), .int (xs (5 * k + 2)), .int (xs (5 * k + 3)), .int (xs (5 * k + 4))]) (rest := [.int ((zAdd Q t (xs (5 * k + 1)) (xs (5 * k + 2)) (xs (5 * k + 3)) (xs (5 * k + 4))).1)]) C (N_add l D ca sa lo ya F Q cd fl t hoq hF (xs (5 * k + 1)) (xs (5 * k + 2)) (xs (5 * k + 3)) (xs (5 * k + 4)) _) (fun U A9 h => co_X10_add h A9) (in_X10 hk.1 _) (ml_L_28 hk.1 _) (im_X10_add hk.1 _) (se_X10_X10_add hk.1 _) (by decide +kernel) ⟨⟨rfl, rfl⟩, by decide, by decide⟩ hW.2.1.1 hW.2.1.2 hS rfl rfl rfl hl.1 rfl (Nat.le_of_ble_eq_true rfl) dL_law_153 ⟨Nat.le_trans (by omega) rb_c, Nat.le_trans (by omega) rb_s⟩) hS (fun q _ h => hfr q h) hfr (fun r9 u t1 H1 locs1 ht1 hvm hp hB hz1 hk1 hS1 => ?_)
  subst ht1
  obtain ⟨F1, fl1⟩ := u
  obtain ⟨rfl, hF1⟩ := hp
  have hW := hW.m hk1 hB
  refine lv_icmp_eq (tgt := 546) hx hb dL_law_156 (by decide) (fun _ => ?_) (fun h9 => absurd rfl h9)
  refine W.widen (k := 15 + 80 * (k + 1)) (n := 605 + 480 * (k + 1)) (by omega) (by omega) ?_
  rw [zAdd_t] at hW
  exact kk _ _ t F1 0 fl1 f _ _ ls hok1 hF1 (by omega) hW hS1 hl

set_option maxHeartbeats 4000000 in
set_option maxRecDepth 100000 in
theorem T_over {D : va_G} {ca : Nat → ClassId} {sa : Nat → Nat} {lo : Nat} {p : Program} {l : Launch} {e : Env} {s : State} {m : MethodId} {args : Array Value} {below : List Frame} {meth : Method} {c : Code} {A : Nat → Prop} {Qg : State → Prop} {x0 da ht hr : Nat} {ya : Nat → Nat} {oa b Ls k : Nat} {xs : Nat → Int32} (hl9 : l.stackTraces = false) (C : Cx D ca sa lo p s m c code 7 RL A) (hX : va_X b Ls xs s s.heap) (hbl : b < s.heap.size) (hbA : ¬ A b) (hLs : Ls ≤ 2560) (hk5 : 5 * k + 5 ≤ Ls) (kk : GO D ca p l e s m args below meth c A Qg x0 da ht hr ya oa b k (220 * (k + 1)) 546) : ∀ (L : List Nat) (Q : List Pd) (t : Tr) (F : Nat → Pd) (cd fl : Int32) (f : Nat → Int64) (H : Heap) (locs : List Loc) (ls : Array Slot), okP L Q → RQ F Q → t.1 ≤ 220 * k → LW D ca A x0 da ht hr L Q t ya F Q.length cd fl t oa f H → va_S A s.heap H locs → lv_has ls 7 [(0, .ref b), (1, .ref x0), (2, .ref (ya 0)), (3, .ref oa), (4, .int (nI (5 * k)))] → W p l e room_1 s m args below meth c H locs (15 + 80 * k) (605 + 480 * k) Qg (F0 m 297 ls []) := by
  intro L Q t F cd fl f H locs ls hok hF htn hW hS hl
  obtain ⟨hx, hb, hml, hown, hk, hz, hlo, hA, hAl⟩ := id C
  have hK : va_K D cls (tyl ca) s := hk.2.1
  have hoq : okQ Q := ⟨hok.2.1, hok.2.2⟩
  refine W.widen (k := 15 + 80 * k) (n := 605 + 480 * k) (by omega) (by omega) ?_
  refine lv_aload_n hx hb dL_law_297 rfl (lv_at hl 1 rfl) ?_
  refine lv_aload_n hx hb dL_law_298 rfl (lv_at hl 0 rfl) ?_
  refine lv_iload hx hb dL_law_299 (lv_at hl 4 rfl) ?_
  refine lv_iconst (v := 1) hx hb dL_law_301 (by decide) ?_
  refine lv_iadd hx hb dL_law_302 ?_
  refine ls_ (j := 5 * k + 1) hx hb hX hbl hbA hS (nI_add (5 * k) 1) (by omega) hLs dL_law_303 ?_
  have hfr := fr_of C hW.1.2 hS
  refine va_calli (run_V (Cn := RX9) (T := TX9) (N := 3) (q0 := 0) (ci := 9) (n := 1) (As := [.int (xs (5 * k + 1))]) (rest := []) C (M_over l D ca sa lo x0 da ht hr L Q t hok (xs (5 * k + 1)) _) (fun U A9 h => co_X9_over h A9) (in_X9 hk.1 _) (ml_L_42 hk.1 _) (im_X9_over hk.1 _) (se_X9_X9_over hk.1 _) (by decide +kernel) ⟨⟨rfl, rfl⟩, by decide, by decide⟩ hW.1.1 hW.1.2 hS rfl rfl rfl hl.1 rfl (Nat.le_of_ble_eq_true rfl) dL_law_304 ⟨Nat.le_trans (by omega) rb_c, Nat.le_trans (by omega) rb_s⟩) hS (fun q _ h => hfr q h) hfr (fun r9 u t1 H1 locs1 ht1 hvm hp hB hz1 hk1 hS1 => ?_)
  subst ht1
  cases hp
  have hzb := zO_b (L := L) (Q := Q) (t := t) (x := xs (5 * k + 1)) hok
  have hW := hW.x hk1 hB hok.1 hzb.2.1
  have hS := hS1
  refine lv_aload_n hx hb dL_law_307 rfl (lv_at hl 2 rfl) ?_
  refine lv_aload_n hx hb dL_law_308 rfl (lv_at hl 0 rfl) ?_
  refine lv_iload hx hb dL_law_309 (lv_at hl 4 rfl) ?_
  refine lv_iconst (v := 1) hx hb dL_law_311 (by decide) ?_
  refine lv_iadd hx hb dL_law_312 ?_
  refine ls_ (j := 5 * k + 1) hx hb hX hbl hbA hS (nI_add (5 * k) 1) (by omega) hLs dL_law_313 ?_
  have hfr := fr_of C hW.2.1.2 hS
  refine va_calli (run_V (Cn := RX10) (T := TX10) (N := 15) (q0 := 0) (ci := 10) (n := 1) (As := [.int (xs (5 * k + 1))]) (rest := [.int ((zO Q t (xs (5 * k + 1))).1)]) C (N_over l D ca sa lo ya F Q cd fl t hoq hF (by omega) (xs (5 * k + 1)) _) (fun U A9 h => co_X10_over h A9) (in_X10 hk.1 _) (ml_L_46 hk.1 _) (im_X10_over hk.1 _) (se_X10_X10_over hk.1 _) (by decide +kernel) ⟨⟨rfl, rfl⟩, by decide, by decide⟩ hW.2.1.1 hW.2.1.2 hS rfl rfl rfl hl.1 rfl (Nat.le_of_ble_eq_true rfl) dL_law_314 ⟨Nat.le_trans (by omega) rb_c, Nat.le_trans (by omega) rb_s⟩) hS (fun q _ h => hfr q h) hfr (fun r9 u t1 H1 locs1 ht1 hvm hp hB hz1 hk1 hS1 => ?_)
  subst ht1
  obtain ⟨F1, fl1⟩ := u
  obtain ⟨rfl, hF1⟩ := hp
  have hW := hW.m hk1 hB
  refine lv_icmp_eq (tgt := 546) hx hb dL_law_317 (by decide) (fun _ => ?_) (fun h9 => absurd rfl h9)
  refine W.widen (k := 15 + 80 * (k + 1)) (n := 605 + 480 * (k + 1)) (by omega) (by omega) ?_
  exact kk L _ _ F1 0 fl1 f _ _ ls hzb.1 hF1 (Nat.le_trans hzb.2.2 (by omega)) hW hS1 hl

set_option maxHeartbeats 4000000 in
set_option maxRecDepth 100000 in
theorem T_clear {D : va_G} {ca : Nat → ClassId} {sa : Nat → Nat} {lo : Nat} {p : Program} {l : Launch} {e : Env} {s : State} {m : MethodId} {args : Array Value} {below : List Frame} {meth : Method} {c : Code} {A : Nat → Prop} {Qg : State → Prop} {x0 da ht hr : Nat} {ya : Nat → Nat} {oa b Ls k : Nat} {xs : Nat → Int32} (hl9 : l.stackTraces = false) (C : Cx D ca sa lo p s m c code 7 RL A) (hX : va_X b Ls xs s s.heap) (hbl : b < s.heap.size) (hbA : ¬ A b) (hLs : Ls ≤ 2560) (hk5 : 5 * k + 5 ≤ Ls) (kk : GO D ca p l e s m args below meth c A Qg x0 da ht hr ya oa b k (220 * (k + 1)) 546) : ∀ (L : List Nat) (Q : List Pd) (t : Tr) (F : Nat → Pd) (cd fl : Int32) (f : Nat → Int64) (H : Heap) (locs : List Loc) (ls : Array Slot), okP L Q → RQ F Q → t.1 ≤ 220 * k → LW D ca A x0 da ht hr L Q t ya F Q.length cd fl t oa f H → va_S A s.heap H locs → lv_has ls 7 [(0, .ref b), (1, .ref x0), (2, .ref (ya 0)), (3, .ref oa), (4, .int (nI (5 * k)))] → W p l e room_1 s m args below meth c H locs (15 + 80 * k) (605 + 480 * k) Qg (F0 m 322 ls []) := by
  intro L Q t F cd fl f H locs ls hok hF htn hW hS hl
  obtain ⟨hx, hb, hml, hown, hk, hz, hlo, hA, hAl⟩ := id C
  have hK : va_K D cls (tyl ca) s := hk.2.1
  have hoq : okQ Q := ⟨hok.2.1, hok.2.2⟩
  refine W.widen (k := 15 + 80 * k) (n := 605 + 480 * k) (by omega) (by omega) ?_
  refine lv_aload_n hx hb dL_law_322 rfl (lv_at hl 1 rfl) ?_
  refine lv_aload_n hx hb dL_law_323 rfl (lv_at hl 0 rfl) ?_
  refine lv_iload hx hb dL_law_324 (lv_at hl 4 rfl) ?_
  refine lv_iconst (v := 1) hx hb dL_law_326 (by decide) ?_
  refine lv_iadd hx hb dL_law_327 ?_
  refine ls_ (j := 5 * k + 1) hx hb hX hbl hbA hS (nI_add (5 * k) 1) (by omega) hLs dL_law_328 ?_
  have hfr := fr_of C hW.1.2 hS
  refine va_calli (run_V (Cn := RX9) (T := TX9) (N := 3) (q0 := 0) (ci := 9) (n := 1) (As := [.int (xs (5 * k + 1))]) (rest := []) C (M_clear l D ca sa lo x0 da ht hr L Q t hok (xs (5 * k + 1)) _) (fun U A9 h => co_X9_clear h A9) (in_X9 hk.1 _) (ml_L_47 hk.1 _) (im_X9_clear hk.1 _) (se_X9_X9_clear hk.1 _) (by decide +kernel) ⟨⟨rfl, rfl⟩, by decide, by decide⟩ hW.1.1 hW.1.2 hS rfl rfl rfl hl.1 rfl (Nat.le_of_ble_eq_true rfl) dL_law_329 ⟨Nat.le_trans (by omega) rb_c, Nat.le_trans (by omega) rb_s⟩) hS (fun q _ h => hfr q h) hfr (fun r9 u t1 H1 locs1 ht1 hvm hp hB hz1 hk1 hS1 => ?_)
  subst ht1
  cases hp
  have hzb := zC_b (L := L) (Q := Q) (t := t) (x := xs (5 * k + 1)) hok
  have hW := hW.x hk1 hB hok.1 hzb.2.1
  have hS := hS1
  refine lv_aload_n hx hb dL_law_332 rfl (lv_at hl 2 rfl) ?_
  refine lv_aload_n hx hb dL_law_333 rfl (lv_at hl 0 rfl) ?_
  refine lv_iload hx hb dL_law_334 (lv_at hl 4 rfl) ?_
  refine lv_iconst (v := 1) hx hb dL_law_336 (by decide) ?_
  refine lv_iadd hx hb dL_law_337 ?_
  refine ls_ (j := 5 * k + 1) hx hb hX hbl hbA hS (nI_add (5 * k) 1) (by omega) hLs dL_law_338 ?_
  have hfr := fr_of C hW.2.1.2 hS
  refine va_calli (run_V (Cn := RX10) (T := TX10) (N := 15) (q0 := 0) (ci := 10) (n := 1) (As := [.int (xs (5 * k + 1))]) (rest := [.int ((zC Q t (xs (5 * k + 1))).1)]) C (N_clear l D ca sa lo ya F Q cd fl t hoq hF (by omega) (xs (5 * k + 1)) _) (fun U A9 h => co_X10_clear h A9) (in_X10 hk.1 _) (ml_L_50 hk.1 _) (im_X10_clear hk.1 _) (se_X10_X10_clear hk.1 _) (by decide +kernel) ⟨⟨rfl, rfl⟩, by decide, by decide⟩ hW.2.1.1 hW.2.1.2 hS rfl rfl rfl hl.1 rfl (Nat.le_of_ble_eq_true rfl) dL_law_339 ⟨Nat.le_trans (by omega) rb_c, Nat.le_trans (by omega) rb_s⟩) hS (fun q _ h => hfr q h) hfr (fun r9 u t1 H1 locs1 ht1 hvm hp hB hz1 hk1 hS1 => ?_)
  subst ht1
  obtain ⟨F1, fl1⟩ := u
  obtain ⟨rfl, hF1⟩ := hp
  have hW := hW.m hk1 hB
  refine lv_icmp_eq (tgt := 546) hx hb dL_law_342 (by decide) (fun _ => ?_) (fun h9 => absurd rfl h9)
  refine W.widen (k := 15 + 80 * (k + 1)) (n := 605 + 480 * (k + 1)) (by omega) (by omega) ?_
  exact kk L _ _ F1 0 fl1 f _ _ ls hzb.1 hF1 (Nat.le_trans hzb.2.2 (by omega)) hW hS1 hl

set_option maxHeartbeats 4000000 in
set_option maxRecDepth 100000 in
theorem T_cost {D : va_G} {ca : Nat → ClassId} {sa : Nat → Nat} {lo : Nat} {p : Program} {l : Launch} {e : Env} {s : State} {m : MethodId} {args : Array Value} {below : List Frame} {meth : Method} {c : Code} {A : Nat → Prop} {Qg : State → Prop} {x0 da ht hr : Nat} {ya : Nat → Nat} {oa b Ls k : Nat} {xs : Nat → Int32} (hl9 : l.stackTraces = false) (C : Cx D ca sa lo p s m c code 7 RL A) (hX : va_X b Ls xs s s.heap) (hbl : b < s.heap.size) (hbA : ¬ A b) (hLs : Ls ≤ 2560) (hk5 : 5 * k + 5 ≤ Ls) (kk : GO D ca p l e s m args below meth c A Qg x0 da ht hr ya oa b k (220 * (k + 1)) 546) : ∀ (L : List Nat) (Q : List Pd) (t : Tr) (F : Nat → Pd) (cd fl : Int32) (f : Nat → Int64) (H : Heap) (locs : List Loc) (ls : Array Slot), okP L Q → RQ F Q → t.1 ≤ 220 * k → LW D ca A x0 da ht hr L Q t ya F Q.length cd fl t oa f H → va_S A s.heap H locs → lv_has ls 7 [(0, .ref b), (1, .ref x0), (2, .ref (ya 0)), (3, .ref oa), (4, .int (nI (5 * k)))] → W p l e room_1 s m args below meth c H locs (15 + 80 * k) (605 + 480 * k) Qg (F0 m 347 ls []) := by
  intro L Q t F cd fl f H locs ls hok hF htn hW hS hl
  obtain ⟨hx, hb, hml, hown, hk, hz, hlo, hA, hAl⟩ := id C
  have hK : va_K D cls (tyl ca) s := hk.2.1
  have hoq : okQ Q := ⟨hok.2.1, hok.2.2⟩
  refine W.widen (k := 15 + 80 * k) (n := 605 + 480 * k) (by omega) (by omega) ?_
  refine lv_aload_n hx hb dL_law_347 rfl (lv_at hl 1 rfl) ?_
  refine lv_aload_n hx hb dL_law_348 rfl (lv_at hl 0 rfl) ?_
  refine lv_iload hx hb dL_law_349 (lv_at hl 4 rfl) ?_
  refine lv_iconst (v := 1) hx hb dL_law_351 (by decide) ?_
  refine lv_iadd hx hb dL_law_352 ?_
  refine ls_ (j := 5 * k + 1) hx hb hX hbl hbA hS (nI_add (5 * k) 1) (by omega) hLs dL_law_353 ?_
  have hfr := fr_of C hW.1.2 hS
  refine va_calli (run_V (Cn := RX9) (T := TX9) (N := 3) (q0 := 0) (ci := 9) (n := 1) (As := [.int (xs (5 * k + 1))]) (rest := []) C (M_cost l D ca sa lo x0 da ht hr L Q t hok (xs (5 * k + 1)) _) (fun U A9 h => co_X9_cost h A9) (in_X9 hk.1 _) (ml_L_51 hk.1 _) (im_X9_cost hk.1 _) (se_X9_X9_cost hk.1 _) (by decide +kernel) ⟨⟨rfl, rfl⟩, by decide, by decide⟩ hW.1.1 hW.1.2 hS rfl rfl rfl hl.1 rfl (Nat.le_of_ble_eq_true rfl) dL_law_354 ⟨Nat.le_trans (by omega) rb_c, Nat.le_trans (by omega) rb_s⟩) hS (fun q _ h => hfr q h) hfr (fun r9 u t1 H1 locs1 ht1 hvm hp hB hz1 hk1 hS1 => ?_)
  subst ht1
  cases hp
  have hzb := zK_b (L := L) (Q := Q) (t := t) (x := xs (5 * k + 1)) hok
  have hW := hW.x hk1 hB hok.1 hzb.2.1
  have hS := hS1
  refine lv_aload_n hx hb dL_law_357 rfl (lv_at hl 2 rfl) ?_
  refine lv_aload_n hx hb dL_law_358 rfl (lv_at hl 0 rfl) ?_
  refine lv_iload hx hb dL_law_359 (lv_at hl 4 rfl) ?_
  refine lv_iconst (v := 1) hx hb dL_law_361 (by decide) ?_
  refine lv_iadd hx hb dL_law_362 ?_
  refine ls_ (j := 5 * k + 1) hx hb hX hbl hbA hS (nI_add (5 * k) 1) (by omega) hLs dL_law_363 ?_
  have hfr := fr_of C hW.2.1.2 hS
  refine va_calli (run_V (Cn := RX10) (T := TX10) (N := 15) (q0 := 0) (ci := 10) (n := 1) (As := [.int (xs (5 * k + 1))]) (rest := [.int ((zK Q t (xs (5 * k + 1))).1)]) C (N_cost l D ca sa lo ya F Q cd fl t hoq hF (by omega) (xs (5 * k + 1)) _) (fun U A9 h => co_X10_cost h A9) (in_X10 hk.1 _) (ml_L_54 hk.1 _) (im_X10_cost hk.1 _) (se_X10_X10_cost hk.1 _) (by decide +kernel) ⟨⟨rfl, rfl⟩, by decide, by decide⟩ hW.2.1.1 hW.2.1.2 hS rfl rfl rfl hl.1 rfl (Nat.le_of_ble_eq_true rfl) dL_law_364 ⟨Nat.le_trans (by omega) rb_c, Nat.le_trans (by omega) rb_s⟩) hS (fun q _ h => hfr q h) hfr (fun r9 u t1 H1 locs1 ht1 hvm hp hB hz1 hk1 hS1 => ?_)
  subst ht1
  obtain ⟨F1, fl1⟩ := u
  obtain ⟨rfl, hF1⟩ := hp
  have hW := hW.m hk1 hB
  refine lv_icmp_eq (tgt := 546) hx hb dL_law_367 (by decide) (fun _ => ?_) (fun h9 => absurd rfl h9)
  refine W.widen (k := 15 + 80 * (k + 1)) (n := 605 + 480 * (k + 1)) (by omega) (by omega) ?_
  exact kk L _ _ F1 0 fl1 f _ _ ls hzb.1 hF1 (Nat.le_trans hzb.2.2 (by omega)) hW hS1 hl

set_option maxHeartbeats 4000000 in
set_option maxRecDepth 100000 in
theorem T_tell {D : va_G} {ca : Nat → ClassId} {sa : Nat → Nat} {lo : Nat} {p : Program} {l : Launch} {e : Env} {s : State} {m : MethodId} {args : Array Value} {below : List Frame} {meth : Method} {c : Code} {A : Nat → Prop} {Qg : State → Prop} {x0 da ht hr : Nat} {ya : Nat → Nat} {oa b Ls k : Nat} {xs : Nat → Int32} (hl9 : l.stackTraces = false) (C : Cx D ca sa lo p s m c code 7 RL A) (hX : va_X b Ls xs s s.heap) (hbl : b < s.heap.size) (hbA : ¬ A b) (hLs : Ls ≤ 2560) (hk5 : 5 * k + 5 ≤ Ls) (kk : GO D ca p l e s m args below meth c A Qg x0 da ht hr ya oa b k (220 * (k + 1)) 546) : ∀ (L : List Nat) (Q : List Pd) (t : Tr) (F : Nat → Pd) (cd fl : Int32) (f : Nat → Int64) (H : Heap) (locs : List Loc) (ls : Array Slot), okP L Q → RQ F Q → t.1 ≤ 220 * k → LW D ca A x0 da ht hr L Q t ya F Q.length cd fl t oa f H → va_S A s.heap H locs → lv_has ls 7 [(0, .ref b), (1, .ref x0), (2, .ref (ya 0)), (3, .ref oa), (4, .int (nI (5 * k)))] → W p l e room_1 s m args below meth c H locs (15 + 80 * k) (605 + 480 * k) Qg (F0 m 372 ls []) := by
  intro L Q t F cd fl f H locs ls hok hF htn hW hS hl
  obtain ⟨hx, hb, hml, hown, hk, hz, hlo, hA, hAl⟩ := id C
  have hK : va_K D cls (tyl ca) s := hk.2.1
  have hoq : okQ Q := ⟨hok.2.1, hok.2.2⟩
  refine W.widen (k := 15 + 80 * k) (n := 605 + 480 * k) (by omega) (by omega) ?_
  refine lv_aload_n hx hb dL_law_372 rfl (lv_at hl 1 rfl) ?_
  refine lv_aload_n hx hb dL_law_373 rfl (lv_at hl 0 rfl) ?_
  refine lv_iload hx hb dL_law_374 (lv_at hl 4 rfl) ?_
  refine lv_iconst (v := 1) hx hb dL_law_376 (by decide) ?_
  refine lv_iadd hx hb dL_law_377 ?_
  refine ls_ (j := 5 * k + 1) hx hb hX hbl hbA hS (nI_add (5 * k) 1) (by omega) hLs dL_law_378 ?_
  refine lv_aload_n hx hb dL_law_379 rfl (lv_at hl 0 rfl) ?_
  refine lv_iload hx hb dL_law_380 (lv_at hl 4 rfl) ?_
  refine lv_iconst (v := 2) hx hb dL_law_382 (by decide) ?_
  refine lv_iadd hx hb dL_law_383 ?_
  refine ls_ (j := 5 * k + 2) hx hb hX hbl hbA hS (nI_add (5 * k) 2) (by omega) hLs dL_law_384 ?_
  have hfr := fr_of C hW.1.2 hS
  refine va_calli (run_V (Cn := RX9) (T := TX9) (N := 3) (q0 := 0) (ci := 9) (n := 2) (As := [.int (xs (5 * k + 1)), .int (xs (5 * k + 2))]) (rest := []) C (M_tell l D ca sa lo x0 da ht hr L Q t hok (xs (5 * k + 1)) (xs (5 * k + 2)) _) (fun U A9 h => co_X9_tell h A9) (in_X9 hk.1 _) (ml_L_55 hk.1 _) (im_X9_tell hk.1 _) (se_X9_X9_tell hk.1 _) (by decide +kernel) ⟨⟨rfl, rfl⟩, by decide, by decide⟩ hW.1.1 hW.1.2 hS rfl rfl rfl hl.1 rfl (Nat.le_of_ble_eq_true rfl) dL_law_385 ⟨Nat.le_trans (by omega) rb_c, Nat.le_trans (by omega) rb_s⟩) hS (fun q _ h => hfr q h) hfr (fun r9 u t1 H1 locs1 ht1 hvm hp hB hz1 hk1 hS1 => ?_)
  subst ht1
  cases hp
  have hW := hW.x hk1 hB hok.1 rfl
  have hS := hS1
  refine lv_aload_n hx hb dL_law_388 rfl (lv_at hl 2 rfl) ?_
  refine lv_aload_n hx hb dL_law_389 rfl (lv_at hl 0 rfl) ?_
  refine lv_iload hx hb dL_law_390 (lv_at hl 4 rfl) ?_
  refine lv_iconst (v := 1) hx hb dL_law_392 (by decide) ?_
  refine lv_iadd hx hb dL_law_393 ?_
  refine ls_ (j := 5 * k + 1) hx hb hX hbl hbA hS (nI_add (5 * k) 1) (by omega) hLs dL_law_394 ?_
  refine lv_aload_n hx hb dL_law_395 rfl (lv_at hl 0 rfl) ?_
  refine lv_iload hx hb dL_law_396 (lv_at hl 4 rfl) ?_
  refine lv_iconst (v := 2) hx hb dL_law_398 (by decide) ?_
  refine lv_iadd hx hb dL_law_399 ?_
  refine ls_ (j := 5 * k + 2) hx hb hX hbl hbA hS (nI_add (5 * k) 2) (by omega) hLs dL_law_400 ?_
  have hfr := fr_of C hW.2.1.2 hS
  refine va_calli (run_V (Cn := RX10) (T := TX10) (N := 15) (q0 := 0) (ci := 10) (n := 2) (As := [.int (xs (5 * k + 1)), .int (xs (5 * k + 2))]) (rest := [.int (zT Q (xs (5 * k + 1)) (xs (5 * k + 2)))]) C (N_tell l D ca sa lo ya F Q cd fl t hoq hF (xs (5 * k + 1)) (xs (5 * k + 2)) _) (fun U A9 h => co_X10_tell h A9) (in_X10 hk.1 _) (ml_L_58 hk.1 _) (im_X10_tell hk.1 _) (se_X10_X10_tell hk.1 _) (by decide +kernel) ⟨⟨rfl, rfl⟩, by decide, by decide⟩ hW.2.1.1 hW.2.1.2 hS rfl rfl rfl hl.1 rfl (Nat.le_of_ble_eq_true rfl) dL_law_401 ⟨Nat.le_trans (by omega) rb_c, Nat.le_trans (by omega) rb_s⟩) hS (fun q _ h => hfr q h) hfr (fun r9 u t1 H1 locs1 ht1 hvm hp hB hz1 hk1 hS1 => ?_)
  subst ht1
  obtain ⟨F1, fl1⟩ := u
  obtain ⟨rfl, hF1⟩ := hp
  have hW := hW.m hk1 hB
  refine lv_icmp_eq (tgt := 546) hx hb dL_law_404 (by decide) (fun _ => ?_) (fun h9 => absurd rfl h9)
  refine W.widen (k := 15 + 80 * (k + 1)) (n := 605 + 480 * (k + 1)) (by omega) (by omega) ?_
  exact kk L Q t F1 0 fl1 f _ _ ls hok hF1 (by omega) hW hS1 hl

set_option maxHeartbeats 4000000 in
set_option maxRecDepth 100000 in
theorem T_sweep {D : va_G} {ca : Nat → ClassId} {sa : Nat → Nat} {lo : Nat} {p : Program} {l : Launch} {e : Env} {s : State} {m : MethodId} {args : Array Value} {below : List Frame} {meth : Method} {c : Code} {A : Nat → Prop} {Qg : State → Prop} {x0 da ht hr : Nat} {ya : Nat → Nat} {oa b Ls k : Nat} {xs : Nat → Int32} (hl9 : l.stackTraces = false) (C : Cx D ca sa lo p s m c code 7 RL A) (hX : va_X b Ls xs s s.heap) (hbl : b < s.heap.size) (hbA : ¬ A b) (hLs : Ls ≤ 2560) (hk5 : 5 * k + 5 ≤ Ls) (kk : GO D ca p l e s m args below meth c A Qg x0 da ht hr ya oa b k (220 * (k + 1)) 546) : ∀ (L : List Nat) (Q : List Pd) (t : Tr) (F : Nat → Pd) (cd fl : Int32) (f : Nat → Int64) (H : Heap) (locs : List Loc) (ls : Array Slot), okP L Q → RQ F Q → t.1 ≤ 220 * k → LW D ca A x0 da ht hr L Q t ya F Q.length cd fl t oa f H → va_S A s.heap H locs → lv_has ls 7 [(0, .ref b), (1, .ref x0), (2, .ref (ya 0)), (3, .ref oa), (4, .int (nI (5 * k)))] → W p l e room_1 s m args below meth c H locs (15 + 80 * k) (605 + 480 * k) Qg (F0 m 409 ls []) := by
  intro L Q t F cd fl f H locs ls hok hF htn hW hS hl
  obtain ⟨hx, hb, hml, hown, hk, hz, hlo, hA, hAl⟩ := id C
  have hK : va_K D cls (tyl ca) s := hk.2.1
  have hoq : okQ Q := ⟨hok.2.1, hok.2.2⟩
  refine W.widen (k := 15 + 80 * k) (n := 605 + 480 * k) (by omega) (by omega) ?_
  refine lv_aload_n hx hb dL_law_409 rfl (lv_at hl 1 rfl) ?_
  refine lv_aload_n hx hb dL_law_410 rfl (lv_at hl 0 rfl) ?_
  refine lv_iload hx hb dL_law_411 (lv_at hl 4 rfl) ?_
  refine lv_iconst (v := 1) hx hb dL_law_413 (by decide) ?_
  refine lv_iadd hx hb dL_law_414 ?_
  refine ls_ (j := 5 * k + 1) hx hb hX hbl hbA hS (nI_add (5 * k) 1) (by omega) hLs dL_law_415 ?_
  refine lv_aload_n hx hb dL_law_416 rfl (lv_at hl 0 rfl) ?_
  refine lv_iload hx hb dL_law_417 (lv_at hl 4 rfl) ?_
  refine lv_iconst (v := 2) hx hb dL_law_419 (by decide) ?_
  refine lv_iadd hx hb dL_law_420 ?_
  refine ls_ (j := 5 * k + 2) hx hb hX hbl hbA hS (nI_add (5 * k) 2) (by omega) hLs dL_law_421 ?_
  have hfr := fr_of C hW.1.2 hS
  refine va_calli (run_VH (Cn := RX9) (T := TX9) (N := 3) (q0 := 0) (ci := 9) (n := 2) (As := [.int (xs (5 * k + 1)), .int (xs (5 * k + 2))]) (rest := []) C (M_sweep l D ca sa lo hl9 x0 da ht hr L Q t hok (xs (5 * k + 1)) (xs (5 * k + 2)) _) (fun U A9 h => co_X9_sweep h A9) (in_X9 hk.1 _) (ml_L_59 hk.1 _) (im_X9_sweep hk.1 _) (se_X9_X9_sweep hk.1 _) (by decide +kernel) ⟨⟨rfl, rfl⟩, by decide, by decide⟩ hW.1.1 hW.1.2 hS rfl rfl rfl hl.1 rfl (Nat.le_of_ble_eq_true rfl) dL_law_422 ⟨Nat.le_trans (by omega) rb_c, Nat.le_trans (by omega) rb_s⟩) hS (fun q _ h => hfr q h) hfr (fun r9 u t1 H1 locs1 ht1 hvm hp hB hz1 hk1 hS1 => ?_)
  subst ht1
  cases hp
  have hzb := zS_b (L := L) (Q := Q) (t := t) (x := xs (5 * k + 1)) (v := xs (5 * k + 2)) hok
  have hW := hW.x hk1 hB hok.1 hzb.2.1
  have hS := hS1
  refine lv_aload_n hx hb dL_law_425 rfl (lv_at hl 2 rfl) ?_
  refine lv_aload_n hx hb dL_law_426 rfl (lv_at hl 0 rfl) ?_
  refine lv_iload hx hb dL_law_427 (lv_at hl 4 rfl) ?_
  refine lv_iconst (v := 1) hx hb dL_law_429 (by decide) ?_
  refine lv_iadd hx hb dL_law_430 ?_
  refine ls_ (j := 5 * k + 1) hx hb hX hbl hbA hS (nI_add (5 * k) 1) (by omega) hLs dL_law_431 ?_
  refine lv_aload_n hx hb dL_law_432 rfl (lv_at hl 0 rfl) ?_
  refine lv_iload hx hb dL_law_433 (lv_at hl 4 rfl) ?_
  refine lv_iconst (v := 2) hx hb dL_law_435 (by decide) ?_
  refine lv_iadd hx hb dL_law_436 ?_
  refine ls_ (j := 5 * k + 2) hx hb hX hbl hbA hS (nI_add (5 * k) 2) (by omega) hLs dL_law_437 ?_
  have hfr := fr_of C hW.2.1.2 hS
  refine va_calli (run_V (Cn := RX10) (T := TX10) (N := 15) (q0 := 0) (ci := 10) (n := 2) (As := [.int (xs (5 * k + 1)), .int (xs (5 * k + 2))]) (rest := [.int ((zS Q t (xs (5 * k + 1)) (xs (5 * k + 2))).1)]) C (N_sweep l D ca sa lo ya F Q cd fl t hoq hF (by omega) (xs (5 * k + 1)) (xs (5 * k + 2)) _) (fun U A9 h => co_X10_sweep h A9) (in_X10 hk.1 _) (ml_L_62 hk.1 _) (im_X10_sweep hk.1 _) (se_X10_X10_sweep hk.1 _) (by decide +kernel) ⟨⟨rfl, rfl⟩, by decide, by decide⟩ hW.2.1.1 hW.2.1.2 hS rfl rfl rfl hl.1 rfl (Nat.le_of_ble_eq_true rfl) dL_law_438 ⟨Nat.le_trans (by omega) rb_c, Nat.le_trans (by omega) rb_s⟩) hS (fun q _ h => hfr q h) hfr (fun r9 u t1 H1 locs1 ht1 hvm hp hB hz1 hk1 hS1 => ?_)
  subst ht1
  obtain ⟨F1, fl1⟩ := u
  obtain ⟨rfl, hF1⟩ := hp
  have hW := hW.m hk1 hB
  refine lv_icmp_eq (tgt := 546) hx hb dL_law_441 (by decide) (fun _ => ?_) (fun h9 => absurd rfl h9)
  refine W.widen (k := 15 + 80 * (k + 1)) (n := 605 + 480 * (k + 1)) (by omega) (by omega) ?_
  exact kk L _ _ F1 0 fl1 f _ _ ls hzb.1 hF1 (Nat.le_trans hzb.2.2 (by omega)) hW hS1 hl

set_option maxHeartbeats 4000000 in
set_option maxRecDepth 100000 in
theorem T_alarm {D : va_G} {ca : Nat → ClassId} {sa : Nat → Nat} {lo : Nat} {p : Program} {l : Launch} {e : Env} {s : State} {m : MethodId} {args : Array Value} {below : List Frame} {meth : Method} {c : Code} {A : Nat → Prop} {Qg : State → Prop} {x0 da ht hr : Nat} {ya : Nat → Nat} {oa b Ls k : Nat} {xs : Nat → Int32} (hl9 : l.stackTraces = false) (C : Cx D ca sa lo p s m c code 7 RL A) (hX : va_X b Ls xs s s.heap) (hbl : b < s.heap.size) (hbA : ¬ A b) (hLs : Ls ≤ 2560) (hk5 : 5 * k + 5 ≤ Ls) (kk : GO D ca p l e s m args below meth c A Qg x0 da ht hr ya oa b k (220 * (k + 1)) 546) : ∀ (L : List Nat) (Q : List Pd) (t : Tr) (F : Nat → Pd) (cd fl : Int32) (f : Nat → Int64) (H : Heap) (locs : List Loc) (ls : Array Slot), okP L Q → RQ F Q → t.1 ≤ 220 * k → LW D ca A x0 da ht hr L Q t ya F Q.length cd fl t oa f H → va_S A s.heap H locs → lv_has ls 7 [(0, .ref b), (1, .ref x0), (2, .ref (ya 0)), (3, .ref oa), (4, .int (nI (5 * k)))] → W p l e room_1 s m args below meth c H locs (15 + 80 * k) (605 + 480 * k) Qg (F0 m 446 ls []) := by
  intro L Q t F cd fl f H locs ls hok hF htn hW hS hl
  obtain ⟨hx, hb, hml, hown, hk, hz, hlo, hA, hAl⟩ := id C
  have hK : va_K D cls (tyl ca) s := hk.2.1
  have hoq : okQ Q := ⟨hok.2.1, hok.2.2⟩
  refine W.widen (k := 15 + 80 * k) (n := 605 + 480 * k) (by omega) (by omega) ?_
  refine lv_aload_n hx hb dL_law_446 rfl (lv_at hl 1 rfl) ?_
  refine lv_aload_n hx hb dL_law_447 rfl (lv_at hl 0 rfl) ?_
  refine lv_iload hx hb dL_law_448 (lv_at hl 4 rfl) ?_
  refine lv_iconst (v := 1) hx hb dL_law_450 (by decide) ?_
  refine lv_iadd hx hb dL_law_451 ?_
  refine ls_ (j := 5 * k + 1) hx hb hX hbl hbA hS (nI_add (5 * k) 1) (by omega) hLs dL_law_452 ?_
  refine lv_aload_n hx hb dL_law_453 rfl (lv_at hl 0 rfl) ?_
  refine lv_iload hx hb dL_law_454 (lv_at hl 4 rfl) ?_
  refine lv_iconst (v := 2) hx hb dL_law_456 (by decide) ?_
  refine lv_iadd hx hb dL_law_457 ?_
  refine ls_ (j := 5 * k + 2) hx hb hX hbl hbA hS (nI_add (5 * k) 2) (by omega) hLs dL_law_458 ?_
  have hfr := fr_of C hW.1.2 hS
  refine va_calli (run_V (Cn := RX9) (T := TX9) (N := 3) (q0 := 0) (ci := 9) (n := 2) (As := [.int (xs (5 * k + 1)), .int (xs (5 * k + 2))]) (rest := []) C (M_alarm l D ca sa lo x0 da ht hr L Q t hok (xs (5 * k + 1)) (xs (5 * k + 2)) _) (fun U A9 h => co_X9_alarm h A9) (in_X9 hk.1 _) (ml_L_63 hk.1 _) (im_X9_alarm hk.1 _) (se_X9_X9_alarm hk.1 _) (by decide +kernel) ⟨⟨rfl, rfl⟩, by decide, by decide⟩ hW.1.1 hW.1.2 hS rfl rfl rfl hl.1 rfl (Nat.le_of_ble_eq_true rfl) dL_law_459 ⟨Nat.le_trans (by omega) rb_c, Nat.le_trans (by omega) rb_s⟩) hS (fun q _ h => hfr q h) hfr (fun r9 u t1 H1 locs1 ht1 hvm hp hB hz1 hk1 hS1 => ?_)
  subst ht1
  cases hp
  have hzb := zA_b (L := L) (Q := Q) (t := t) (x := xs (5 * k + 1)) (v := xs (5 * k + 2)) hok
  have hW := hW.x hk1 hB hok.1 hzb.2.1
  have hS := hS1
  refine lv_aload_n hx hb dL_law_462 rfl (lv_at hl 2 rfl) ?_
  refine lv_aload_n hx hb dL_law_463 rfl (lv_at hl 0 rfl) ?_
  refine lv_iload hx hb dL_law_464 (lv_at hl 4 rfl) ?_
  refine lv_iconst (v := 1) hx hb dL_law_466 (by decide) ?_
  refine lv_iadd hx hb dL_law_467 ?_
  refine ls_ (j := 5 * k + 1) hx hb hX hbl hbA hS (nI_add (5 * k) 1) (by omega) hLs dL_law_468 ?_
  refine lv_aload_n hx hb dL_law_469 rfl (lv_at hl 0 rfl) ?_
  refine lv_iload hx hb dL_law_470 (lv_at hl 4 rfl) ?_
  refine lv_iconst (v := 2) hx hb dL_law_472 (by decide) ?_
  refine lv_iadd hx hb dL_law_473 ?_
  refine ls_ (j := 5 * k + 2) hx hb hX hbl hbA hS (nI_add (5 * k) 2) (by omega) hLs dL_law_474 ?_
  have hfr := fr_of C hW.2.1.2 hS
  refine va_calli (run_V (Cn := RX10) (T := TX10) (N := 15) (q0 := 0) (ci := 10) (n := 2) (As := [.int (xs (5 * k + 1)), .int (xs (5 * k + 2))]) (rest := [.int ((zA Q t (xs (5 * k + 1)) (xs (5 * k + 2))).1)]) C (N_alarm l D ca sa lo ya F Q cd fl t hoq hF (by omega) (xs (5 * k + 1)) (xs (5 * k + 2)) _) (fun U A9 h => co_X10_alarm h A9) (in_X10 hk.1 _) (ml_L_66 hk.1 _) (im_X10_alarm hk.1 _) (se_X10_X10_alarm hk.1 _) (by decide +kernel) ⟨⟨rfl, rfl⟩, by decide, by decide⟩ hW.2.1.1 hW.2.1.2 hS rfl rfl rfl hl.1 rfl (Nat.le_of_ble_eq_true rfl) dL_law_475 ⟨Nat.le_trans (by omega) rb_c, Nat.le_trans (by omega) rb_s⟩) hS (fun q _ h => hfr q h) hfr (fun r9 u t1 H1 locs1 ht1 hvm hp hB hz1 hk1 hS1 => ?_)
  subst ht1
  obtain ⟨F1, fl1⟩ := u
  obtain ⟨rfl, hF1⟩ := hp
  have hW := hW.m hk1 hB
  refine lv_icmp_eq (tgt := 546) hx hb dL_law_478 (by decide) (fun _ => ?_) (fun h9 => absurd rfl h9)
  refine W.widen (k := 15 + 80 * (k + 1)) (n := 605 + 480 * (k + 1)) (by omega) (by omega) ?_
  exact kk L _ _ F1 0 fl1 f _ _ ls hzb.1 hF1 (Nat.le_trans hzb.2.2 (by omega)) hW hS1 hl

set_option maxHeartbeats 4000000 in
set_option maxRecDepth 100000 in
theorem T_costs {D : va_G} {ca : Nat → ClassId} {sa : Nat → Nat} {lo : Nat} {p : Program} {l : Launch} {e : Env} {s : State} {m : MethodId} {args : Array Value} {below : List Frame} {meth : Method} {c : Code} {A : Nat → Prop} {Qg : State → Prop} {x0 da ht hr : Nat} {ya : Nat → Nat} {oa b Ls k : Nat} {xs : Nat → Int32} (hl9 : l.stackTraces = false) (C : Cx D ca sa lo p s m c code 7 RL A) (hX : va_X b Ls xs s s.heap) (hbl : b < s.heap.size) (hbA : ¬ A b) (hLs : Ls ≤ 2560) (hk5 : 5 * k + 5 ≤ Ls) (kk : GO D ca p l e s m args below meth c A Qg x0 da ht hr ya oa b k (220 * (k + 1)) 546) : ∀ (L : List Nat) (Q : List Pd) (t : Tr) (F : Nat → Pd) (cd fl : Int32) (f : Nat → Int64) (H : Heap) (locs : List Loc) (ls : Array Slot), okP L Q → RQ F Q → t.1 ≤ 220 * k → LW D ca A x0 da ht hr L Q t ya F Q.length cd fl t oa f H → va_S A s.heap H locs → lv_has ls 7 [(0, .ref b), (1, .ref x0), (2, .ref (ya 0)), (3, .ref oa), (4, .int (nI (5 * k)))] → W p l e room_1 s m args below meth c H locs (15 + 80 * k) (605 + 480 * k) Qg (F0 m 483 ls []) := by
  intro L Q t F cd fl f H locs ls hok hF htn hW hS hl
  obtain ⟨hx, hb, hml, hown, hk, hz, hlo, hA, hAl⟩ := id C
  have hK : va_K D cls (tyl ca) s := hk.2.1
  have hoq : okQ Q := ⟨hok.2.1, hok.2.2⟩
  refine W.widen (k := 15 + 80 * k) (n := 605 + 480 * k) (by omega) (by omega) ?_
  refine lv_aload_n hx hb dL_law_483 rfl (lv_at hl 1 rfl) ?_
  have hfr := fr_of C hW.1.2 hS
  refine va_calli (run_V (Cn := RX9) (T := TX9) (N := 3) (q0 := 0) (ci := 9) (n := 0) (As := []) (rest := []) C (M_costs l D ca sa lo x0 da ht hr L Q t hok _) (fun U A9 h => co_X9_costs h A9) (in_X9 hk.1 _) (ml_L_67 hk.1 _) (im_X9_costs hk.1 _) (se_X9_X9_costs hk.1 _) (by decide +kernel) ⟨⟨rfl, rfl⟩, by decide, by decide⟩ hW.1.1 hW.1.2 hS rfl rfl rfl hl.1 rfl (Nat.le_of_ble_eq_true rfl) dL_law_484 ⟨Nat.le_trans (by omega) rb_c, Nat.le_trans (by omega) rb_s⟩) hS (fun q _ h => hfr q h) hfr (fun r9 u t1 H1 locs1 ht1 hvm hp hB hz1 hk1 hS1 => ?_)
  subst ht1
  cases hp
  have hzb := zP_b (L := L) (Q := Q) (t := t) hok
  have hW := hW.x hk1 hB hok.1 hzb.2.1
  have hS := hS1
  refine lv_aload_n hx hb dL_law_487 rfl (lv_at hl 2 rfl) ?_
  have hfr := fr_of C hW.2.1.2 hS
  refine va_calli (run_V (Cn := RX10) (T := TX10) (N := 15) (q0 := 0) (ci := 10) (n := 0) (As := []) (rest := [.int ((zP Q t).1)]) C (N_costs l D ca sa lo ya F Q cd fl t hoq hF (by omega) _) (fun U A9 h => co_X10_costs h A9) (in_X10 hk.1 _) (ml_L_70 hk.1 _) (im_X10_costs hk.1 _) (se_X10_X10_costs hk.1 _) (by decide +kernel) ⟨⟨rfl, rfl⟩, by decide, by decide⟩ hW.2.1.1 hW.2.1.2 hS rfl rfl rfl hl.1 rfl (Nat.le_of_ble_eq_true rfl) dL_law_488 ⟨Nat.le_trans (by omega) rb_c, Nat.le_trans (by omega) rb_s⟩) hS (fun q _ h => hfr q h) hfr (fun r9 u t1 H1 locs1 ht1 hvm hp hB hz1 hk1 hS1 => ?_)
  subst ht1
  obtain ⟨F1, fl1⟩ := u
  obtain ⟨rfl, hF1⟩ := hp
  have hW := hW.m hk1 hB
  refine lv_icmp_eq (tgt := 546) hx hb dL_law_491 (by decide) (fun _ => ?_) (fun h9 => absurd rfl h9)
  refine W.widen (k := 15 + 80 * (k + 1)) (n := 605 + 480 * (k + 1)) (by omega) (by omega) ?_
  exact kk L _ _ F1 0 fl1 f _ _ ls hzb.1 hF1 (Nat.le_trans hzb.2.2 (by omega)) hW hS1 hl

set_option maxHeartbeats 4000000 in
set_option maxRecDepth 100000 in
theorem T_trace {D : va_G} {ca : Nat → ClassId} {sa : Nat → Nat} {lo : Nat} {p : Program} {l : Launch} {e : Env} {s : State} {m : MethodId} {args : Array Value} {below : List Frame} {meth : Method} {c : Code} {A : Nat → Prop} {Qg : State → Prop} {x0 da ht hr : Nat} {ya : Nat → Nat} {oa b Ls k : Nat} {xs : Nat → Int32} (hl9 : l.stackTraces = false) (C : Cx D ca sa lo p s m c code 7 RL A) (hX : va_X b Ls xs s s.heap) (hbl : b < s.heap.size) (hbA : ¬ A b) (hLs : Ls ≤ 2560) (hk5 : 5 * k + 5 ≤ Ls) (kk : GO D ca p l e s m args below meth c A Qg x0 da ht hr ya oa b k (220 * (k + 1)) 546) : ∀ (L : List Nat) (Q : List Pd) (t : Tr) (F : Nat → Pd) (cd fl : Int32) (f : Nat → Int64) (H : Heap) (locs : List Loc) (ls : Array Slot), okP L Q → RQ F Q → t.1 ≤ 220 * k → LW D ca A x0 da ht hr L Q t ya F Q.length cd fl t oa f H → va_S A s.heap H locs → lv_has ls 7 [(0, .ref b), (1, .ref x0), (2, .ref (ya 0)), (3, .ref oa), (4, .int (nI (5 * k)))] → W p l e room_1 s m args below meth c H locs (15 + 80 * k) (605 + 480 * k) Qg (F0 m 496 ls []) := by
  intro L Q t F cd fl f H locs ls hok hF htn hW hS hl
  obtain ⟨hx, hb, hml, hown, hk, hz, hlo, hA, hAl⟩ := id C
  have hK : va_K D cls (tyl ca) s := hk.2.1
  have hoq : okQ Q := ⟨hok.2.1, hok.2.2⟩
  refine W.widen (k := 15 + 80 * k) (n := 605 + 480 * k) (by omega) (by omega) ?_
  refine lv_aload_n hx hb dL_law_496 rfl (lv_at hl 1 rfl) ?_
  refine lv_aload_n hx hb dL_law_497 rfl (lv_at hl 0 rfl) ?_
  refine lv_iload hx hb dL_law_498 (lv_at hl 4 rfl) ?_
  refine lv_iconst (v := 1) hx hb dL_law_500 (by decide) ?_
  refine lv_iadd hx hb dL_law_501 ?_
  refine ls_ (j := 5 * k + 1) hx hb hX hbl hbA hS (nI_add (5 * k) 1) (by omega) hLs dL_law_502 ?_
  have hfr := fr_of C hW.1.2 hS
  refine va_calli (run_V (Cn := RX9) (T := TX9) (N := 3) (q0 := 0) (ci := 9) (n := 1) (As := [.int (xs (5 * k + 1))]) (rest := []) C (M_trace l D ca sa lo x0 da ht hr L Q t hok (xs (5 * k + 1)) _) (fun U A9 h => co_X9_trace h A9) (in_X9 hk.1 _) (ml_L_71 hk.1 _) (im_X9_trace hk.1 _) (se_X9_X9_trace hk.1 _) (by decide +kernel) ⟨⟨rfl, rfl⟩, by decide, by decide⟩ hW.1.1 hW.1.2 hS rfl rfl rfl hl.1 rfl (Nat.le_of_ble_eq_true rfl) dL_law_503 ⟨Nat.le_trans (by omega) rb_c, Nat.le_trans (by omega) rb_s⟩) hS (fun q _ h => hfr q h) hfr (fun r9 u t1 H1 locs1 ht1 hvm hp hB hz1 hk1 hS1 => ?_)
  subst ht1
  cases hp
  have hW := hW.x hk1 hB hok.1 rfl
  have hS := hS1
  refine lv_aload_n hx hb dL_law_506 rfl (lv_at hl 2 rfl) ?_
  refine lv_aload_n hx hb dL_law_507 rfl (lv_at hl 0 rfl) ?_
  refine lv_iload hx hb dL_law_508 (lv_at hl 4 rfl) ?_
  refine lv_iconst (v := 1) hx hb dL_law_510 (by decide) ?_
  refine lv_iadd hx hb dL_law_511 ?_
  refine ls_ (j := 5 * k + 1) hx hb hX hbl hbA hS (nI_add (5 * k) 1) (by omega) hLs dL_law_512 ?_
  have hfr := fr_of C hW.2.1.2 hS
  refine va_calli (run_V (Cn := RX10) (T := TX10) (N := 15) (q0 := 0) (ci := 10) (n := 1) (As := [.int (xs (5 * k + 1))]) (rest := [.int (tA t (xs (5 * k + 1)))]) C (N_trace l D ca sa lo ya F Q cd fl t hoq hF (by omega) (xs (5 * k + 1)) _) (fun U A9 h => co_X10_trace h A9) (in_X10 hk.1 _) (ml_L_74 hk.1 _) (im_X10_trace hk.1 _) (se_X10_X10_trace hk.1 _) (by decide +kernel) ⟨⟨rfl, rfl⟩, by decide, by decide⟩ hW.2.1.1 hW.2.1.2 hS rfl rfl rfl hl.1 rfl (Nat.le_of_ble_eq_true rfl) dL_law_513 ⟨Nat.le_trans (by omega) rb_c, Nat.le_trans (by omega) rb_s⟩) hS (fun q _ h => hfr q h) hfr (fun r9 u t1 H1 locs1 ht1 hvm hp hB hz1 hk1 hS1 => ?_)
  subst ht1
  obtain ⟨F1, fl1⟩ := u
  obtain ⟨rfl, hF1⟩ := hp
  have hW := hW.m hk1 hB
  refine lv_icmp_eq (tgt := 546) hx hb dL_law_516 (by decide) (fun _ => ?_) (fun h9 => absurd rfl h9)
  refine W.widen (k := 15 + 80 * (k + 1)) (n := 605 + 480 * (k + 1)) (by omega) (by omega) ?_
  exact kk L Q t F1 0 fl1 f _ _ ls hok hF1 (by omega) hW hS1 hl

set_option maxHeartbeats 4000000 in
set_option maxRecDepth 100000 in
theorem T_count {D : va_G} {ca : Nat → ClassId} {sa : Nat → Nat} {lo : Nat} {p : Program} {l : Launch} {e : Env} {s : State} {m : MethodId} {args : Array Value} {below : List Frame} {meth : Method} {c : Code} {A : Nat → Prop} {Qg : State → Prop} {x0 da ht hr : Nat} {ya : Nat → Nat} {oa b Ls k : Nat} {xs : Nat → Int32} (hl9 : l.stackTraces = false) (C : Cx D ca sa lo p s m c code 7 RL A) (hX : va_X b Ls xs s s.heap) (hbl : b < s.heap.size) (hbA : ¬ A b) (hLs : Ls ≤ 2560) (hk5 : 5 * k + 5 ≤ Ls) (kk : GO D ca p l e s m args below meth c A Qg x0 da ht hr ya oa b k (220 * (k + 1)) 546) : ∀ (L : List Nat) (Q : List Pd) (t : Tr) (F : Nat → Pd) (cd fl : Int32) (f : Nat → Int64) (H : Heap) (locs : List Loc) (ls : Array Slot), okP L Q → RQ F Q → t.1 ≤ 220 * k → LW D ca A x0 da ht hr L Q t ya F Q.length cd fl t oa f H → va_S A s.heap H locs → lv_has ls 7 [(0, .ref b), (1, .ref x0), (2, .ref (ya 0)), (3, .ref oa), (4, .int (nI (5 * k)))] → W p l e room_1 s m args below meth c H locs (15 + 80 * k) (605 + 480 * k) Qg (F0 m 521 ls []) := by
  intro L Q t F cd fl f H locs ls hok hF htn hW hS hl
  obtain ⟨hx, hb, hml, hown, hk, hz, hlo, hA, hAl⟩ := id C
  have hK : va_K D cls (tyl ca) s := hk.2.1
  have hoq : okQ Q := ⟨hok.2.1, hok.2.2⟩
  refine W.widen (k := 15 + 80 * k) (n := 605 + 480 * k) (by omega) (by omega) ?_
  refine lv_aload_n hx hb dL_law_521 rfl (lv_at hl 1 rfl) ?_
  refine lv_aload_n hx hb dL_law_522 rfl (lv_at hl 0 rfl) ?_
  refine lv_iload hx hb dL_law_523 (lv_at hl 4 rfl) ?_
  refine lv_iconst (v := 1) hx hb dL_law_525 (by decide) ?_
  refine lv_iadd hx hb dL_law_526 ?_
  refine ls_ (j := 5 * k + 1) hx hb hX hbl hbA hS (nI_add (5 * k) 1) (by omega) hLs dL_law_527 ?_
  have hfr := fr_of C hW.1.2 hS
  refine va_calli (run_V (Cn := RX9) (T := TX9) (N := 3) (q0 := 0) (ci := 9) (n := 1) (As := [.int (xs (5 * k + 1))]) (rest := []) C (M_count l D ca sa lo x0 da ht hr L Q t hok (xs (5 * k + 1)) _) (fun U A9 h => co_X9_count h A9) (in_X9 hk.1 _) (ml_L_75 hk.1 _) (im_X9_count hk.1 _) (se_X9_X9_count hk.1 _) (by decide +kernel) ⟨⟨rfl, rfl⟩, by decide, by decide⟩ hW.1.1 hW.1.2 hS rfl rfl rfl hl.1 rfl (Nat.le_of_ble_eq_true rfl) dL_law_528 ⟨Nat.le_trans (by omega) rb_c, Nat.le_trans (by omega) rb_s⟩) hS (fun q _ h => hfr q h) hfr (fun r9 u t1 H1 locs1 ht1 hvm hp hB hz1 hk1 hS1 => ?_)
  subst ht1
  cases hp
  have hW := hW.x hk1 hB hok.1 rfl
  have hS := hS1
  refine lv_aload_n hx hb dL_law_531 rfl (lv_at hl 2 rfl) ?_
  refine lv_aload_n hx hb dL_law_532 rfl (lv_at hl 0 rfl) ?_
  refine lv_iload hx hb dL_law_533 (lv_at hl 4 rfl) ?_
  refine lv_iconst (v := 1) hx hb dL_law_535 (by decide) ?_
  refine lv_iadd hx hb dL_law_536 ?_
  refine ls_ (j := 5 * k + 1) hx hb hX hbl hbA hS (nI_add (5 * k) 1) (by omega) hLs dL_law_537 ?_
  have hfr := fr_of C hW.2.1.2 hS
  refine va_calli (run_V (Cn := RX10) (T := TX10) (N := 15) (q0 := 0) (ci := 10) (n := 1) (As := [.int (xs (5 * k + 1))]) (rest := [.int (zN Q t (xs (5 * k + 1)))]) C (N_count l D ca sa lo ya F Q cd fl t hoq hF (xs (5 * k + 1)) _) (fun U A9 h => co_X10_count h A9) (in_X10 hk.1 _) (ml_L_78 hk.1 _) (im_X10_count hk.1 _) (se_X10_X10_count hk.1 _) (by decide +kernel) ⟨⟨rfl, rfl⟩, by decide, by decide⟩ hW.2.1.1 hW.2.1.2 hS rfl rfl rfl hl.1 rfl (Nat.le_of_ble_eq_true rfl) dL_law_538 ⟨Nat.le_trans (by omega) rb_c, Nat.le_trans (by omega) rb_s⟩) hS (fun q _ h => hfr q h) hfr (fun r9 u t1 H1 locs1 ht1 hvm hp hB hz1 hk1 hS1 => ?_)
  subst ht1
  obtain ⟨F1, fl1⟩ := u
  obtain ⟨rfl, hF1⟩ := hp
  have hW := hW.m hk1 hB
  refine lv_icmp_eq (tgt := 546) hx hb dL_law_541 (by decide) (fun _ => ?_) (fun h9 => absurd rfl h9)
  refine W.widen (k := 15 + 80 * (k + 1)) (n := 605 + 480 * (k + 1)) (by omega) (by omega) ?_
  exact kk L Q t F1 0 fl1 f _ _ ls hok hF1 (by omega) hW hS1 hl

set_option maxHeartbeats 4000000 in
set_option maxRecDepth 100000 in
theorem T_read {D : va_G} {ca : Nat → ClassId} {sa : Nat → Nat} {lo : Nat} {p : Program} {l : Launch} {e : Env} {s : State} {m : MethodId} {args : Array Value} {below : List Frame} {meth : Method} {c : Code} {A : Nat → Prop} {Qg : State → Prop} {x0 da ht hr : Nat} {ya : Nat → Nat} {oa b Ls k : Nat} {xs : Nat → Int32} (hl9 : l.stackTraces = false) (C : Cx D ca sa lo p s m c code 7 RL A) (hX : va_X b Ls xs s s.heap) (hbl : b < s.heap.size) (hbA : ¬ A b) (hLs : Ls ≤ 2560) (hk5 : 5 * k + 5 ≤ Ls) (kk : GO D ca p l e s m args below meth c A Qg x0 da ht hr ya oa b k (220 * (k + 1)) 546) : ∀ (L : List Nat) (Q : List Pd) (t : Tr) (F : Nat → Pd) (cd fl : Int32) (f : Nat → Int64) (H : Heap) (locs : List Loc) (ls : Array Slot), okP L Q → RQ F Q → t.1 ≤ 220 * k → LW D ca A x0 da ht hr L Q t ya F Q.length cd fl t oa f H → va_S A s.heap H locs → lv_has ls 7 [(0, .ref b), (1, .ref x0), (2, .ref (ya 0)), (3, .ref oa), (4, .int (nI (5 * k)))] → W p l e room_1 s m args below meth c H locs (15 + 80 * k) (605 + 480 * k) Qg (F0 m 161 ls []) := by
  intro L Q t F cd fl f H locs ls hok hF htn hW hS hl
  obtain ⟨hx, hb, hml, hown, hk, hz, hlo, hA, hAl⟩ := id C
  have hK : va_K D cls (tyl ca) s := hk.2.1
  have hoq : okQ Q := ⟨hok.2.1, hok.2.2⟩
  refine W.widen (k := 15 + 80 * k) (n := 605 + 480 * k) (by omega) (by omega) ?_
  refine lv_aload_n hx hb dL_law_161 rfl (lv_at hl 1 rfl) ?_
  refine lv_aload_n hx hb dL_law_162 rfl (lv_at hl 0 rfl) ?_
  refine lv_iload hx hb dL_law_163 (lv_at hl 4 rfl) ?_
  refine lv_iconst (v := 1) hx hb dL_law_165 (by decide) ?_
  refine lv_iadd hx hb dL_law_166 ?_
  refine ls_ (j := 5 * k + 1) hx hb hX hbl hbA hS (nI_add (5 * k) 1) (by omega) hLs dL_law_167 ?_
  refine lv_aload_n hx hb dL_law_168 rfl (lv_at hl 0 rfl) ?_
  refine lv_iload hx hb dL_law_169 (lv_at hl 4 rfl) ?_
  refine lv_iconst (v := 2) hx hb dL_law_171 (by decide) ?_
  refine lv_iadd hx hb dL_law_172 ?_
  refine ls_ (j := 5 * k + 2) hx hb hX hbl hbA hS (nI_add (5 * k) 2) (by omega) hLs dL_law_173 ?_
  refine lv_aload_n hx hb dL_law_174 rfl (lv_at hl 3 rfl) ?_
  have hfr := fr_of C hW.Dox hS
  have hzb := zR_b (L := L) (Q := Q) (t := t) (x := xs (5 * k + 1)) (v := xs (5 * k + 2)) hok
  refine va_calli (run_SH (n := 4) (As := [.ref x0, .int (xs (5 * k + 1)), .int (xs (5 * k + 2)), .ref oa]) (rest := []) C (LR_read l D ca sa lo hl9 x0 da ht hr L Q t hok oa f (xs (5 * k + 1)) (xs (5 * k + 2)) _) (fun U A9 h => co_L_read h A9) (in_L hk.1 _) (ml_L_29 hk.1 _) (st_L_read hk.1 _) (by decide +kernel) ⟨⟨rfl, rfl⟩, by decide, by decide⟩ hW.Pox hW.Dox hS rfl hl.1 rfl (Nat.le_of_ble_eq_true rfl) dL_law_175 ⟨Nat.le_trans (by omega) rb_c, Nat.le_trans (by omega) rb_s⟩) hS (fun q _ h => hfr q h) hfr (fun r9 u t1 H1 locs1 ht1 hvm hp hB hz1 hk1 hS1 => ?_)
  subst ht1
  cases hp
  have hW := hW.ox hk1 hB hok.1 hzb.2.1
  have hS := hS1
  refine lv_istore (lv' := [(5, .int (nI (zR Q t (xs (5 * k + 1)) (xs (5 * k + 2))).1)), (0, .ref b), (1, .ref x0), (2, .ref (ya 0)), (3, .ref oa), (4, .int (nI (5 * k)))]) hx hb dL_law_178 hl (by decide) rfl (fun ls hl => ?_)
  refine lv_aload_n hx hb dL_law_180 rfl (lv_at hl 3 rfl) ?_
  refine lv_aload_n hx hb dL_law_181 rfl (lv_at hl 1 rfl) ?_
  refine lv_iload hx hb dL_law_182 (lv_at hl 5 rfl) ?_
  refine lv_iconst (v := 1) hx hb dL_law_184 (by decide) ?_
  refine lv_iadd hx hb dL_law_185 ?_
  refine ls_ (j := 5 * k + 1) hx hb hX hbl hbA hS (nI_add (5 * k) 1) (by omega) hLs dL_law_186 ?_
  refine lv_aload_n hx hb dL_law_187 rfl (lv_at hl 1 rfl) ?_
  refine lv_iload hx hb dL_law_188 (lv_at hl 5 rfl) ?_
  refine lv_iconst (v := 2) hx hb dL_law_190 (by decide) ?_
  refine lv_iadd hx hb dL_law_191 ?_
  refine ls_ (j := 5 * k + 2) hx hb hX hbl hbA hS (nI_add (5 * k) 2) (by omega) hLs dL_law_192 ?_
  have hfr := fr_of C hW.2.1.2 hS
  refine va_calli (run_V (Cn := RX10) (T := TX10) (N := 15) (q0 := 0) (ci := 10) (n := 2) (As := [.int (xs (5 * k + 1)), .int (xs (5 * k + 2))]) (rest := []) C (N_read l D ca sa lo ya F Q cd fl t hoq hF (by omega) (xs (5 * k + 1)) (xs (5 * k + 2)) _) (fun U A9 h => co_X10_read h A9) (in_X10 hk.1 _) (ml_L_34 hk.1 _) (im_X10_read hk.1 _) (se_X10_X10_read hk.1 _) (by decide +kernel) ⟨⟨rfl, rfl⟩, by decide, by decide⟩ hW.2.1.1 hW.2.1.2 hS rfl rfl rfl hl.1 rfl (Nat.le_of_ble_eq_true rfl) dL_law_193 ⟨Nat.le_trans (by omega) rb_c, Nat.le_trans (by omega) rb_s⟩) hS (fun q _ h => hfr q h) hfr (fun r9 u t1 H1 locs1 ht1 hvm hp hB hz1 hk1 hS1 => ?_)
  subst ht1
  obtain ⟨F1, fl1⟩ := u
  obtain ⟨rfl, hF1⟩ := hp
  have hW := hW.m hk1 hB
  have hS := hS1
  refine lv_istore (lv' := [(6, .int (if (zR Q t (xs (5 * k + 1)) (xs (5 * k + 2))).1 = 0 then (zR Q t (xs (5 * k + 1)) (xs (5 * k + 2))).2.1 else 0)), (5, .int (nI (zR Q t (xs (5 * k + 1)) (xs (5 * k + 2))).1)), (0, .ref b), (1, .ref x0), (2, .ref (ya 0)), (3, .ref oa), (4, .int (nI (5 * k)))]) hx hb dL_law_196 hl (by decide) rfl (fun ls hl => ?_)
  refine lv_aload_n hx hb dL_law_198 rfl (lv_at hl 4 rfl) ?_
  have hfr := fr_of C hW.2.1.2 hS
  refine va_calli (run_V (Cn := RX10) (T := TX10) (N := 15) (q0 := 0) (ci := 10) (n := 0) (As := []) (rest := []) C (N_thrown l D ca sa lo ya F1 (zR Q t (xs (5 * k + 1)) (xs (5 * k + 2))).2.2.1.length (nI (zR Q t (xs (5 * k + 1)) (xs (5 * k + 2))).1) fl1 (zR Q t (xs (5 * k + 1)) (xs (5 * k + 2))).2.2.2 _) (fun U A9 h => co_X10_thrown h A9) (in_X10 hk.1 _) (ml_L_35 hk.1 _) (im_X10_thrown hk.1 _) (se_X10_X10_thrown hk.1 _) (by decide +kernel) ⟨⟨rfl, rfl⟩, by decide, by decide⟩ hW.2.1.1 hW.2.1.2 hS rfl rfl rfl hl.1 rfl (Nat.le_of_ble_eq_true rfl) dL_law_199 ⟨Nat.le_trans (by omega) rb_c, Nat.le_trans (by omega) rb_s⟩) hS (fun q _ h => hfr q h) hfr (fun r9 u t1 H1 locs1 ht1 hvm hp hB hz1 hk1 hS1 => ?_)
  subst ht1
  cases hp
  have hW := hW.m hk1 hB
  have hS := hS1
  refine lv_iload hx hb dL_law_202 (lv_at hl 1 rfl) ?_
  refine lv_icmp_eq (tgt := 209) hx hb dL_law_204 (by decide) (fun _ => ?_) (fun h9 => absurd rfl h9)
  refine lv_iload hx hb dL_law_209 (lv_at hl 1 rfl) ?_
  refine lv_if_ne (tgt := 226) hx hb dL_law_211 (by decide) (fun c_1 => ?_) (fun c_1 => ?_)
  · refine lv_goto (tgt := 546) hx hb dL_law_226 (by decide) ?_
    refine W.widen (k := 15 + 80 * (k + 1)) (n := 605 + 480 * (k + 1)) (by omega) (by omega) ?_
    exact kk L _ _ F1 _ fl1 _ _ _ ls hzb.1 hF1 (Nat.le_trans hzb.2.2.1 (by omega)) hW hS (lv_sub hl [2, 3, 4, 5, 6] rfl)
  · have hc0 : (zR Q t (xs (5 * k + 1)) (xs (5 * k + 2))).1 = 0 := (nI_z hzb.2.2.2).mp c_1
    refine lv_aload_n hx hb dL_law_214 rfl (lv_at hl 5 rfl) ?_
    refine lv_iconst (v := 0) hx hb dL_law_215 (by decide) ?_
    refine va_lald hx hb hK hW.2.2.1.1 0 3 rfl rfl (show vp_in 0 1 by unfold vp_in; decide) dL_law_216 ?_
    refine lv_iload hx hb dL_law_217 (lv_at hl 0 rfl) ?_
    refine lv_i2l hx hb dL_law_219 rfl ?_
    refine W.lcmp hx hb dL_law_220 ?_
    refine lv_if_eq (tgt := 226) hx hb dL_law_221 (by decide) (fun _ => ?_) (fun h9 => absurd ((lg_cmp_eq _ _).mpr (by rw [if_pos hc0, if_pos hc0]; rfl)) h9)
    refine lv_goto (tgt := 546) hx hb dL_law_226 (by decide) ?_
    refine W.widen (k := 15 + 80 * (k + 1)) (n := 605 + 480 * (k + 1)) (by omega) (by omega) ?_
    exact kk L _ _ F1 _ fl1 _ _ _ ls hzb.1 hF1 (Nat.le_trans hzb.2.2.1 (by omega)) hW hS (lv_sub hl [2, 3, 4, 5, 6] rfl)

set_option maxHeartbeats 4000000 in
set_option maxRecDepth 100000 in
theorem T_weigh {D : va_G} {ca : Nat → ClassId} {sa : Nat → Nat} {lo : Nat} {p : Program} {l : Launch} {e : Env} {s : State} {m : MethodId} {args : Array Value} {below : List Frame} {meth : Method} {c : Code} {A : Nat → Prop} {Qg : State → Prop} {x0 da ht hr : Nat} {ya : Nat → Nat} {oa b Ls k : Nat} {xs : Nat → Int32} (hl9 : l.stackTraces = false) (C : Cx D ca sa lo p s m c code 7 RL A) (hX : va_X b Ls xs s s.heap) (hbl : b < s.heap.size) (hbA : ¬ A b) (hLs : Ls ≤ 2560) (hk5 : 5 * k + 5 ≤ Ls) (kk : GO D ca p l e s m args below meth c A Qg x0 da ht hr ya oa b k (220 * (k + 1)) 546) : ∀ (L : List Nat) (Q : List Pd) (t : Tr) (F : Nat → Pd) (cd fl : Int32) (f : Nat → Int64) (H : Heap) (locs : List Loc) (ls : Array Slot), okP L Q → RQ F Q → t.1 ≤ 220 * k → LW D ca A x0 da ht hr L Q t ya F Q.length cd fl t oa f H → va_S A s.heap H locs → lv_has ls 7 [(0, .ref b), (1, .ref x0), (2, .ref (ya 0)), (3, .ref oa), (4, .int (nI (5 * k)))] → W p l e room_1 s m args below meth c H locs (15 + 80 * k) (605 + 480 * k) Qg (F0 m 229 ls []) := by
  intro L Q t F cd fl f H locs ls hok hF htn hW hS hl
  obtain ⟨hx, hb, hml, hown, hk, hz, hlo, hA, hAl⟩ := id C
  have hK : va_K D cls (tyl ca) s := hk.2.1
  have hoq : okQ Q := ⟨hok.2.1, hok.2.2⟩
  refine W.widen (k := 15 + 80 * k) (n := 605 + 480 * k) (by omega) (by omega) ?_
  refine lv_aload_n hx hb dL_law_229 rfl (lv_at hl 1 rfl) ?_
  refine lv_aload_n hx hb dL_law_230 rfl (lv_at hl 0 rfl) ?_
  refine lv_iload hx hb dL_law_231 (lv_at hl 4 rfl) ?_
  refine lv_iconst (v := 1) hx hb dL_law_233 (by decide) ?_
  refine lv_iadd hx hb dL_law_234 ?_
  refine ls_ (j := 5 * k + 1) hx hb hX hbl hbA hS (nI_add (5 * k) 1) (by omega) hLs dL_law_235 ?_
  refine lv_aload_n hx hb dL_law_236 rfl (lv_at hl 0 rfl) ?_
  refine lv_iload hx hb dL_law_237 (lv_at hl 4 rfl) ?_
  refine lv_iconst (v := 2) hx hb dL_law_239 (by decide) ?_
  refine lv_iadd hx hb dL_law_240 ?_
  refine ls_ (j := 5 * k + 2) hx hb hX hbl hbA hS (nI_add (5 * k) 2) (by omega) hLs dL_law_241 ?_
  refine lv_aload_n hx hb dL_law_242 rfl (lv_at hl 3 rfl) ?_
  have hfr := fr_of C hW.Dox hS
  have hzb := zW_b (L := L) (Q := Q) (t := t) (x := xs (5 * k + 1)) (v := xs (5 * k + 2)) hok
  refine va_calli (run_SH (n := 4) (As := [.ref x0, .int (xs (5 * k + 1)), .int (xs (5 * k + 2)), .ref oa]) (rest := []) C (LR_weigh l D ca sa lo hl9 x0 da ht hr L Q t hok oa f (xs (5 * k + 1)) (xs (5 * k + 2)) _) (fun U A9 h => co_L_weigh h A9) (in_L hk.1 _) (ml_L_39 hk.1 _) (st_L_weigh hk.1 _) (by decide +kernel) ⟨⟨rfl, rfl⟩, by decide, by decide⟩ hW.Pox hW.Dox hS rfl hl.1 rfl (Nat.le_of_ble_eq_true rfl) dL_law_243 ⟨Nat.le_trans (by omega) rb_c, Nat.le_trans (by omega) rb_s⟩) hS (fun q _ h => hfr q h) hfr (fun r9 u t1 H1 locs1 ht1 hvm hp hB hz1 hk1 hS1 => ?_)
  subst ht1
  cases hp
  have hW := hW.ox hk1 hB hok.1 hzb.2.1
  have hS := hS1
  refine lv_istore (lv' := [(5, .int (nI (zW Q t (xs (5 * k + 1)) (xs (5 * k + 2))).1)), (0, .ref b), (1, .ref x0), (2, .ref (ya 0)), (3, .ref oa), (4, .int (nI (5 * k)))]) hx hb dL_law_246 hl (by decide) rfl (fun ls hl => ?_)
  refine lv_aload_n hx hb dL_law_248 rfl (lv_at hl 3 rfl) ?_
  refine lv_aload_n hx hb dL_law_249 rfl (lv_at hl 1 rfl) ?_
  refine lv_iload hx hb dL_law_250 (lv_at hl 5 rfl) ?_
  refine lv_iconst (v := 1) hx hb dL_law_252 (by decide) ?_
  refine lv_iadd hx hb dL_law_253 ?_
  refine ls_ (j := 5 * k + 1) hx hb hX hbl hbA hS (nI_add (5 * k) 1) (by omega) hLs dL_law_254 ?_
  refine lv_aload_n hx hb dL_law_255 rfl (lv_at hl 1 rfl) ?_
  refine lv_iload hx hb dL_law_256 (lv_at hl 5 rfl) ?_
  refine lv_iconst (v := 2) hx hb dL_law_258 (by decide) ?_
  refine lv_iadd hx hb dL_law_259 ?_
  refine ls_ (j := 5 * k + 2) hx hb hX hbl hbA hS (nI_add (5 * k) 2) (by omega) hLs dL_law_260 ?_
  have hfr := fr_of C hW.2.1.2 hS
  refine va_calli (run_V (Cn := RX10) (T := TX10) (N := 15) (q0 := 0) (ci := 10) (n := 2) (As := [.int (xs (5 * k + 1)), .int (xs (5 * k + 2))]) (rest := []) C (N_weigh l D ca sa lo ya F Q cd fl t hoq hF (by omega) (xs (5 * k + 1)) (xs (5 * k + 2)) _) (fun U A9 h => co_X10_weigh h A9) (in_X10 hk.1 _) (ml_L_41 hk.1 _) (im_X10_weigh hk.1 _) (se_X10_X10_weigh hk.1 _) (by decide +kernel) ⟨⟨rfl, rfl⟩, by decide, by decide⟩ hW.2.1.1 hW.2.1.2 hS rfl rfl rfl hl.1 rfl (Nat.le_of_ble_eq_true rfl) dL_law_261 ⟨Nat.le_trans (by omega) rb_c, Nat.le_trans (by omega) rb_s⟩) hS (fun q _ h => hfr q h) hfr (fun r9 u t1 H1 locs1 ht1 hvm hp hB hz1 hk1 hS1 => ?_)
  subst ht1
  obtain ⟨F1, fl1⟩ := u
  obtain ⟨rfl, hF1⟩ := hp
  have hW := hW.m hk1 hB
  have hS := hS1
  refine lv_istore (lv' := [(6, .int (if (zW Q t (xs (5 * k + 1)) (xs (5 * k + 2))).1 = 0 then (zW Q t (xs (5 * k + 1)) (xs (5 * k + 2))).2.1 else 0)), (5, .int (nI (zW Q t (xs (5 * k + 1)) (xs (5 * k + 2))).1)), (0, .ref b), (1, .ref x0), (2, .ref (ya 0)), (3, .ref oa), (4, .int (nI (5 * k)))]) hx hb dL_law_264 hl (by decide) rfl (fun ls hl => ?_)
  refine lv_aload_n hx hb dL_law_266 rfl (lv_at hl 4 rfl) ?_
  have hfr := fr_of C hW.2.1.2 hS
  refine va_calli (run_V (Cn := RX10) (T := TX10) (N := 15) (q0 := 0) (ci := 10) (n := 0) (As := []) (rest := []) C (N_thrown l D ca sa lo ya F1 (zW Q t (xs (5 * k + 1)) (xs (5 * k + 2))).2.2.1.length (nI (zW Q t (xs (5 * k + 1)) (xs (5 * k + 2))).1) fl1 (zW Q t (xs (5 * k + 1)) (xs (5 * k + 2))).2.2.2 _) (fun U A9 h => co_X10_thrown h A9) (in_X10 hk.1 _) (ml_L_35 hk.1 _) (im_X10_thrown hk.1 _) (se_X10_X10_thrown hk.1 _) (by decide +kernel) ⟨⟨rfl, rfl⟩, by decide, by decide⟩ hW.2.1.1 hW.2.1.2 hS rfl rfl rfl hl.1 rfl (Nat.le_of_ble_eq_true rfl) dL_law_267 ⟨Nat.le_trans (by omega) rb_c, Nat.le_trans (by omega) rb_s⟩) hS (fun q _ h => hfr q h) hfr (fun r9 u t1 H1 locs1 ht1 hvm hp hB hz1 hk1 hS1 => ?_)
  subst ht1
  cases hp
  have hW := hW.m hk1 hB
  have hS := hS1
  refine lv_iload hx hb dL_law_270 (lv_at hl 1 rfl) ?_
  refine lv_icmp_eq (tgt := 277) hx hb dL_law_272 (by decide) (fun _ => ?_) (fun h9 => absurd rfl h9)
  refine lv_iload hx hb dL_law_277 (lv_at hl 1 rfl) ?_
  refine lv_if_ne (tgt := 294) hx hb dL_law_279 (by decide) (fun c_1 => ?_) (fun c_1 => ?_)
  · refine lv_goto (tgt := 546) hx hb dL_law_294 (by decide) ?_
    refine W.widen (k := 15 + 80 * (k + 1)) (n := 605 + 480 * (k + 1)) (by omega) (by omega) ?_
    exact kk L _ _ F1 _ fl1 _ _ _ ls hzb.1 hF1 (Nat.le_trans hzb.2.2.1 (by omega)) hW hS (lv_sub hl [2, 3, 4, 5, 6] rfl)
  · have hc0 : (zW Q t (xs (5 * k + 1)) (xs (5 * k + 2))).1 = 0 := (nI_z hzb.2.2.2).mp c_1
    refine lv_aload_n hx hb dL_law_282 rfl (lv_at hl 5 rfl) ?_
    refine lv_iconst (v := 0) hx hb dL_law_283 (by decide) ?_
    refine va_lald hx hb hK hW.2.2.1.1 0 3 rfl rfl (show vp_in 0 1 by unfold vp_in; decide) dL_law_284 ?_
    refine lv_iload hx hb dL_law_285 (lv_at hl 0 rfl) ?_
    refine lv_i2l hx hb dL_law_287 rfl ?_
    refine W.lcmp hx hb dL_law_288 ?_
    refine lv_if_eq (tgt := 294) hx hb dL_law_289 (by decide) (fun _ => ?_) (fun h9 => absurd ((lg_cmp_eq _ _).mpr (by rw [if_pos hc0, if_pos hc0]; rfl)) h9)
    refine lv_goto (tgt := 546) hx hb dL_law_294 (by decide) ?_
    refine W.widen (k := 15 + 80 * (k + 1)) (n := 605 + 480 * (k + 1)) (by omega) (by omega) ?_
    exact kk L _ _ F1 _ fl1 _ _ _ ls hzb.1 hF1 (Nat.le_trans hzb.2.2.1 (by omega)) hW hS (lv_sub hl [2, 3, 4, 5, 6] rfl)
