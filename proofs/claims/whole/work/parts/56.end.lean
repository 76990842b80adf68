-- the law's start
theorem ap_l {a b w : va_W} (h : ap (a ++ b) w) : ap a w := fun i j p q hi hj => h i j p q (by rw [List.getElem?_append_left (List.getElem?_eq_some_iff.mp hi).1]; exact hi) hj
theorem ap_r {a b w : va_W} (h : ap (a ++ b) w) : ap b w := fun i j p q hi hj => h (a.length + i) j p q (by rw [List.getElem?_append_right (by omega), Nat.add_sub_cancel_left]; exact hi) hj
set_option maxHeartbeats 4000000 in
theorem whole_start {p : Program} {e : Env} {s : State} {m : MethodId} {below : List Frame} {meth : Method} {c : Code} (l : Launch) (hl9 : l.stackTraces = false) {b L : Nat} {xs : Nat → Int32} (hL : L ≤ 2560) (C0 : lw_At p s m meth c b L xs) : W p l e room_1 s m #[Value.ref b] below meth c s.heap [] 0 0 (lw_Z below #[Value.ref b] s) (entryFrame m ([Value.ref b] : List Value).toArray 7) := by
  obtain ⟨hx, hb, hr9, hml, hown, hts, hX, hbl, hlocks, hgv⟩ := id C0
  obtain ⟨D, ca, sa, hk, hz⟩ := KK_of hts hgv
  have hA : ∀ q : Nat, s.heap.size ≤ q → (fun q : Nat => s.heap.size ≤ q) q := fun _ h => h
  have hbA : ¬ (fun q : Nat => s.heap.size ≤ q) b := Nat.not_le.mpr hbl
  have C : Cx D ca sa s.heap.size p s m c code 7 RL (fun q : Nat => s.heap.size ≤ q) := ⟨hx, hb, hml, hown, hk, hz, Nat.le_refl _, hA, fun _ h => h⟩
  have hK : va_K D cls (tyl ca) s := hk.2.1
  generalize hAe : (fun q : Nat => s.heap.size ≤ q) = A at hA hbA C
  have hS : va_S A s.heap s.heap [] := va_S.rf
  have hl := lv_entry ([.ref b]) (n := 7) (Nat.le_of_ble_eq_true rfl)
  rw [lg_entry_eq]
  generalize (lg_sl ([.ref b]) ++ List.replicate (7 - (lg_sl ([.ref b])).length) Slot.unset).toArray = ls at hl ⊢
  have hl : lv_has ls 7 [(0, .ref b)] := hl
  refine va_new (ci := 9) (fs := [.null, .null, .int 0]) (C := RX9) (T := TX9) (N := 3) hx hb (uc_9 hk.1 _) (fun _ h9 => h9) tyX9 tyX9_ok hown (cl_L_8 hk.1 _) (ia_X9 hk.1 _) (in_X9 hk.1 _) hK va_P.nil va_D.nil hS hA rfl (fun j hj => by rcases (by omega : j = 0 ∨ j = 1 ∨ j = 2) with rfl | rfl | rfl <;> rfl) (by decide) (by decide) dL_law_0 (fun x0 H hP hD hS => ?_)
  have hP : va_P D cls [(x0, .inr (9, [.null, .null, .int 0]))] H := hP
  have hD : va_D A [(x0, .inr (9, [.null, .null, .int 0]))] := hD
  refine lv_dup hx hb dL_law_3 rfl ?_
  have hfr := fr_of C hD hS
  refine va_callv (run_I (As := []) (n := 0) (rest := [.ref x0]) C (iX l D ca sa s.heap.size x0 H.size) (fun U A9 h => co_X9_init h A9) (in_X9 hk.1 _) (ml_L_20 hk.1 _) (im_X9_init hk.1 _) rfl (by decide +kernel) ⟨⟨rfl, rfl⟩, by decide, by decide⟩ hP hD hS rfl hl.1 rfl (Nat.le_of_ble_eq_true rfl) dL_law_4 ⟨by decide, by decide⟩) hS (fun q _ h => hfr q h) hfr (fun u t1 H1 locs1 ht1 hvm _ hB hz1 hk1 hS1 => ?_)
  obtain ⟨da, ht, hr⟩ := u
  subst ht1
  have hP : va_P D cls (wx ca x0 da ht hr [] [] t0) t1.heap := hB.1
  have hD : va_D A (wx ca x0 da ht hr [] [] t0) := hB.2.weaken (fun _ _ _ h => hfr _ h)
  generalize t1.heap = H at hP hS1 ⊢
  refine lv_astore_n (lv' := [(1, .ref x0), (0, .ref b)]) hx hb dL_law_7 rfl hl (by decide) rfl (fun ls hl => ?_)
  refine va_new (ci := 10) (fs := [.int 0, .int 0, .null, .null, .null, .null, .null, .null, .null, .null, .null, .int 0, .int 0, .int 0, .int 0]) (C := RX10) (T := TX10) (N := 15) hx hb (uc_10 hk.1 _) (fun _ h9 => h9) tyX10 tyX10_ok hown (cl_L_21 hk.1 _) (ia_X10 hk.1 _) (in_X10 hk.1 _) hK hP hD hS1 hA rfl (fun j hj => by rcases (by omega : j = 0 ∨ j = 1 ∨ j = 2 ∨ j = 3 ∨ j = 4 ∨ j = 5 ∨ j = 6 ∨ j = 7 ∨ j = 8 ∨ j = 9 ∨ j = 10 ∨ j = 11 ∨ j = 12 ∨ j = 13 ∨ j = 14) with rfl | rfl | rfl | rfl | rfl | rfl | rfl | rfl | rfl | rfl | rfl | rfl | rfl | rfl | rfl <;> rfl) (by decide) (by decide) dL_law_8 (fun y0 H hP hD hS => ?_)
  refine lv_dup hx hb dL_law_11 rfl ?_
  have hfr := fr_of C (D_r hD) hS
  refine va_callv (run_I (As := []) (n := 0) (rest := [.ref y0]) C (iM l D ca sa s.heap.size y0 H.size) (fun U A9 h => co_X10_init h A9) (in_X10 hk.1 _) (ml_L_23 hk.1 _) (im_X10_init hk.1 _) rfl (by decide +kernel) ⟨⟨rfl, rfl⟩, by decide, by decide⟩ (P_r hP) (D_r hD) hS rfl hl.1 rfl (Nat.le_of_ble_eq_true rfl) dL_law_12 ⟨by decide, by decide⟩) hS (fun q _ h => hfr q h) hfr (fun ya t1 H1 locs1 ht1 hvm hy0 hB hz1 hk1 hS1 => ?_)
  subst ht1
  subst hy0
  have hP1 := (ap_keep (P_l hP) (ap_of hD) hk1).app hB.1
  have hD1 := va_D.app (D_l hD) (hB.2.weaken (fun _ _ _ h => hfr _ h)) (ap_new (P_l hP) (ap_of hD) hB.2)
  generalize t1.heap = H at hP1 hS1 ⊢
  refine lv_astore_n (lv' := [(2, .ref (ya 0)), (1, .ref x0), (0, .ref b)]) hx hb dL_law_15 rfl hl (by decide) rfl (fun ls hl => ?_)
  refine lv_iconst (v := 1) hx hb dL_law_16 (by decide) ?_
  refine va_newa (atype := .long) (ty := .long) (N' := 1) (a0 := (1, .inr (.inl (fun _ => 0)))) hx hb (ac_J hk.1 _) rfl hK hP1 hD1 hS1 hA (fun _ => rfl) (by decide) (by decide) (by decide) (by decide) (by decide) dL_law_17 (fun oa cA H hK9 hP hD hS => ?_)
  cases ca_eq 3 hK9 rfl
  have hW : LW D ca A x0 da ht hr [] [] t0 ya F0_ ([] : List Pd).length 0 0 t0 oa (fun _ => 0) H := ⟨⟨P_l (P_l hP), D_l (D_l hD)⟩, ⟨P_r (P_l hP), D_r (D_l hD)⟩, ⟨P_r hP, D_r hD⟩, ap_of (D_l hD), ap_l (ap_of hD), ap_r (ap_of hD)⟩
  refine lv_astore_n (lv' := [(3, .ref oa), (2, .ref (ya 0)), (1, .ref x0), (0, .ref b)]) hx hb dL_law_19 rfl hl (by decide) rfl (fun ls hl => ?_)
  refine lv_iconst (v := 0) hx hb dL_law_20 (by decide) ?_
  refine lv_istore (lv' := [(4, .int 0), (3, .ref oa), (2, .ref (ya 0)), (1, .ref x0), (0, .ref b)]) hx hb dL_law_21 hl (by decide) rfl (fun ls hl => ?_)
  refine W.widen (k := 15 + 80 * 0) (n := 605 + 480 * 0) (by decide) (by decide) ?_
  exact law_loop hl9 C rfl hr9 hlocks hX hbl hbA hL 512 0 rfl [] [] t0 F0_ 0 0 (fun _ => 0) H _ ls ⟨rfl, by decide, fun _ h => nomatch h⟩ (fun i pd h => by simp at h) (Nat.le_refl _) hW hS (by rw [show nI (5 * 0) = 0 from nI_0]; exact lv_sub hl [4, 3, 2, 1, 0] rfl)
-- ===== YOUR PART ENDS =====
set_option maxHeartbeats 4000000 in
theorem lw_walk (l : Launch) (hl9 : l.stackTraces = false) (b : Addr) (xs : List Int32) : MetFree l x (headSpec (Jvm.Cond.code x code maxLocals ret :: tables_1) room_1) (lw_P b xs) (fun _ _ _ _ _ => True) lw_Q := by
  refine MetFree.of_bodyS (code := code) (maxLocals := maxLocals) (ret := ret) (by decide) ?_ ?_
  · intro args s m h hn
    obtain ⟨meth, c, h1, h2, h3, h4, h5, h6, -, -⟩ := Cond.code_spec hn (atoms_spec (ws := Jvm.Cond.code x code maxLocals ret :: tables_1) h _ List.mem_cons_self)
    exact ⟨meth, c, h1, h2, h3, h4, h5, h6⟩
  · intro p e s m args below meth c s₁ B hml0 hP _
    obtain ⟨rfl, hx, hbd, hgv⟩ := hP
    obtain ⟨scr, harrAt, hlist, hof, hsmall⟩ := hx
    obtain ⟨hcb, hkn, -, -⟩ := State.arrayAt?_spec harrAt
    have hown : s.vm.findClass R_law = some m.cls := findClass_of_methodNamed B.named
    have hts0 : ∀ c ∈ (Jvm.Cond.code x code maxLocals ret :: tables_1), c.before #[Value.ref b] s = true := atoms_spec (ws := Jvm.Cond.code x code maxLocals ret :: tables_1) B.pre
    have hts : ∀ w ∈ lw_tbl, w.before #[Value.ref b] s = true := k2_hts_sels lw_privs (fun w hw => hts0 w (List.mem_cons_of_mem _ hw)) lw_privs_ok
    have hml : c.maxLocals = 7 := B.maxLocals_eq (hts0 _ List.mem_cons_self)
    have X₀ : Stand p l e room_1 s m #[Value.ref b] below meth c s₁ [] 0 0 := Stand.of_body B
    have hh0 : s₁.heap = s.heap := by rw [B.state]; rfl
    have hsz : scr.slots.size = xs.length := by rw [← Array.length_toList, hlist, List.length_map]
    have hval : ∀ j : Nat, j < xs.length → scr.slots[j]? = some (.int (xs.getD j 0)) := fun j hj => by
      rw [← Array.getElem?_toList, hlist]
      simp [hj]
    have hbl : b < s.heap.size := (Array.getElem?_eq_some_iff.mp hcb).1
    have hX : va_X b xs.length (fun j => xs.getD j 0) s s.heap := ⟨scr, hcb, hof, hkn, hsz, hval⟩
    have K : W p l e room_1 s m #[Value.ref b] below meth c s₁.heap [] 0 0 (lw_Z below #[Value.ref b] s) (entryFrame m ([Value.ref b] : List Value).toArray 7) := by
      rw [hh0]
      exact whole_start l hl9 hbd ⟨B.exec, B.bytes, B.returns, hml, hown, hts, hX, hbl, B.notSynchronized, hgv⟩
    obtain ⟨t, a1, o, b1, b2, b3⟩ := K s₁ rfl X₀
    exact ⟨t, o, a1, b1, b2, b3⟩
theorem lw_pre_spec {args : Array Value} {s : State} (h : (Jvm.Cond.and given_1 narrow_1).before args s = true) (hr : rest_1_c.before args s = true) : ∃ (b : Addr) (xs : List Int32), lw_P b xs args s := by
  have hs := flat_of_before _ h
  have hq := flat_of_before _ hr
  have hc : (Cond.count 1).before args s = true := hs _ (by decide +kernel)
  have harr : (Cond.arrayOf (.arg 0) .int).before args s = true := hs _ (by decide +kernel)
  have hle : (Cond.le (.length (.arg 0)) (.int 2560)).before args s = true := hs _ (by decide +kernel)
  have hlen : (Cond.isInt (.length (.arg 0))).before args s = true := hq _ (by decide +kernel)
  have hall : (Cond.all (.arg 0) (.isInt (.elem (.arg 0) (.index 0)))).before args s = true := hq _ (by decide +kernel)
  obtain ⟨b, xs, hb, hx⟩ := State.ints_of_pre rfl harr hlen hall
  have hsm : xs.length < 2 ^ 31 := hx.choose_spec.2.2.2
  have hev : (Term.length (.arg 0)).eval args s none [] s = some (.int xs.length.toInt32) := hx.length_eval hb
  have hv := Cond.le_ints hev (show (Term.int 2560).eval args s none [] s = some (.int 2560) from rfl)
  have hd : xs.length.toInt32 ≤ 2560 := by
    simpa [Cond.before, Cond.holds, hv] using hle
  have hN : xs.length ≤ 2560 := (Int32.ofNat_le_ofNat hsm (by decide)).mp (show Int32.ofNat xs.length ≤ Int32.ofNat 2560 from hd)
  exact ⟨b, xs, Cond.one_arg hc (show args[0]? = some (.ref b) from hb), hx, hN, h⟩
theorem lw_comes (l : Launch) (hl9 : l.stackTraces = false) : Comes l x (Jvm.Cond.code x code maxLocals ret :: tables_1) room_1 (fun tb e args s => Calls_1 tb e args s ∧ rest_1 tb e args s ∧ Pre_1 tb e args s)
    (fun _ _ args s o t => lw_Q args s o t) := by
  intro p e ha hc hk s m args below hf hfit hheap happ hpre
  obtain ⟨b, xs, hP⟩ := lw_pre_spec hpre.2.2 hpre.2.1
  obtain ⟨k, o, h1, h2, h3, hQ⟩ := lw_walk l hl9 b xs p e ha hc hk s m args below hf ((Spec.applies_iff_loose hf).mp happ).1 hP trivial
  exact ⟨k, o, h1, h2, h3, hQ⟩
theorem lw_frame {s t : State} {o : Outcome} {args : Array Value} (h : Framed s o t [] room_1.cells room_1.slots) :
    Framed s o t (fieldLocs frame_1_writes args s ++ arrayLocs frame_1_arrays args s ++ staticLocs frame_1_statics s) room_1.cells room_1.slots := h
theorem lw_limb (L : Cond) (hL : ∀ (args : Array Value) (s t : State), L.after args s (.returned (some (.int 1))) t = true) :
    ArmFor flags0 classFile x code maxLocals ret World_1 tables_1 room_1 Calls_1 rest_1 Pre_1
      (fun tb e a s o t => postC L tb e a s o t ∧ Framed s o t (fieldLocs frame_1_writes a s ++ arrayLocs frame_1_arrays a s ++ staticLocs frame_1_statics s) room_1.cells room_1.slots) := by
  intro l hfl _ _ p e ha hc hk s m args below hf hfit hheap happ hpre
  have hl9 : l.stackTraces = false := by
    unfold Launch.stackTraces; rw [hfl]; decide
  obtain ⟨k, o, h1, h2, h3, rfl, hF⟩ := lw_comes l hl9 p e ha hc hk s m args below hf hfit hheap happ hpre
  exact ⟨k, _, h1, h2, h3, hL args s _, lw_frame hF⟩
theorem i_vc : Claimed_1_1 ∧ Claimed_1_2 := ⟨lw_limb limb_1_1 (fun args s t => by simp [limb_1_1, Cond.after, Cond.holds, Cond.value]), lw_limb limb_1_2 (fun args s t => Cond.after_iff.mpr (by
  first | (rw [show limb_1_2 = Cond.eq .result (.int 1) from rfl, Cond.eq_ints (x := 1) (y := 1) rfl rfl]; simp; done) | (simp [limb_1_2, Cond.value, Term.eval]; done)))⟩
