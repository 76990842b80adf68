/-! calls out of the law -/
def wo (ca : Nat → ClassId) (oa : Nat) (f : Nat → Int64) : va_W := [(oa, .inl (ca 3, 1, .inr (.inl f)))]
section LC
variable {D : va_G} {ca : Nat → ClassId} {sa : Nat → Nat} {lo : Nat} {p : Program} {l : Launch} {e : Env} {R : Room} {s : State} {m : MethodId} {args : Array Value} {below : List Frame} {meth : Method} {c : Code} {cc : ByteArray} {nL : Nat} {own : String} {A : Nat → Prop} {H : Heap} {locs : List Loc} {cells slots : Nat} {Q9 : State → Prop} {ls : Array Slot} {pc : Nat} {rest : List Value}
theorem run_VX {y : MethodName} {bytes : ByteArray} {maxL mc ms n index ci q0 N : Nat} {ret : Option FieldType} {rm : Room} {As : List Value} {Qc : Array Value → State → Outcome → State → Prop} {XC : String → State → State → Prop} {free : Addr → Prop} {wc : va_W} {Cn : String} {T : u_T} {b : Addr} {fs : List Value} {st : List Value}
    (C : Cx D ca sa lo p s m c cc nL own A) (hM : vx_Met l y [.code y bytes maxL ret] rm (PX D ca sa lo H.size (.ref b :: As) wc) Qc XC mc ms free) (hco : ∀ (U : State) (A9 : Array Value), kw U → (Cond.code y bytes maxL ret).before A9 U = true)
    (hini : (Cond.initialized y.cls).before args s = true) (hli : (Cond.methodLink own index y).before args s = true) (him : (Cond.instanceMethod y).before args s = true) (hse : (Cond.selects Cn y y).before args s = true)
    (hd : y.cls ≠ "java/lang/invoke/MethodHandle" ∧ y.cls ≠ "java/lang/invoke/VarHandle" ∧ (parseMethodDescriptor y.desc).map (fun d => d.parameters.length) = some n) (hR : (rm.cells = mc ∧ rm.slots = ms) ∧ rm.frames + 1 ≤ R.frames ∧ 8 + (maxL + 11) + rm.locals ≤ R.locals)
    (hP : va_P D cls wc H) (hD : va_D A wc) (hS : va_S A s.heap H locs) (hrc : wc[q0]? = some (b, .inr (ci, fs))) (hci : cls[ci]? = some (Cn, T, N))
    (hn : As.length = n) (hsize : ls.size = nL) (hstack : st = As.reverse ++ .ref b :: rest) (hW : (rest.map fun v => v.category).sum ≤ 8) (hdg : decode cc pc = .ok (.invokevirtual index, 3)) (hf : cells + mc ≤ R.cells ∧ slots + ms ≤ R.slots) :
    vx_Run p l e R s m args below meth c H locs cells slots mc ms (F0 m pc ls st) rest (Qc (Value.ref b :: As).toArray) XC free := by
  obtain ⟨hx, hb, hml, hown, hk, hz⟩ := id C
  refine vx_runV (Ts := []) (cc := cc) (nL := nL) (own := own) (C := Cn) ⟨hx, hb, hml, hown, fun w h => nomatch h⟩ hM
    ⟨⟨hR.1.1, hR.1.2, hR.2.1, hR.2.2, fun w hw a' U hW => by cases List.mem_singleton.mp hw; exact hco U a' (hk.1.warm hW), List.mem_singleton.mpr rfl, hco s args hk.1, hini, ⟨hd.1, hd.2.1⟩, fun sig h => by
      have h2 := hd.2.2
      rw [h] at h2
      exact (Option.some.inj h2).symm, hli⟩, him, hse⟩
    ⟨PX.blind, va_recv hk.2.1 hP hci hrc, fun U hU hW => PX.of C hP hD hS hU hW⟩ rfl hn hsize hstack (lv_room hW) hdg hf
theorem run_VH {y : MethodName} {bytes : ByteArray} {maxL mc ms n index ci q0 N : Nat} {ret : Option FieldType} {hh : List (Nat × Nat × Nat × Nat)} {rm : Room} {As : List Value} {Qc : Array Value → State → Outcome → State → Prop} {free : Addr → Prop} {wc : va_W} {Cn : String} {T : u_T} {b : Addr} {fs : List Value} {st : List Value}
    (C : Cx D ca sa lo p s m c cc nL own A) (hM : Met l y [.codeWith y bytes maxL ret hh] rm (PX D ca sa lo H.size (.ref b :: As) wc) Qc mc ms free) (hco : ∀ (U : State) (A9 : Array Value), kw U → (Cond.codeWith y bytes maxL ret hh).before A9 U = true)
    (hini : (Cond.initialized y.cls).before args s = true) (hli : (Cond.methodLink own index y).before args s = true) (him : (Cond.instanceMethod y).before args s = true) (hse : (Cond.selects Cn y y).before args s = true)
    (hd : y.cls ≠ "java/lang/invoke/MethodHandle" ∧ y.cls ≠ "java/lang/invoke/VarHandle" ∧ (parseMethodDescriptor y.desc).map (fun d => d.parameters.length) = some n) (hR : (rm.cells = mc ∧ rm.slots = ms) ∧ rm.frames + 1 ≤ R.frames ∧ 8 + (maxL + 11) + rm.locals ≤ R.locals)
    (hP : va_P D cls wc H) (hD : va_D A wc) (hS : va_S A s.heap H locs) (hrc : wc[q0]? = some (b, .inr (ci, fs))) (hci : cls[ci]? = some (Cn, T, N))
    (hn : As.length = n) (hsize : ls.size = nL) (hstack : st = As.reverse ++ .ref b :: rest) (hW : (rest.map fun v => v.category).sum ≤ 8) (hdg : decode cc pc = .ok (.invokevirtual index, 3)) (hf : cells + mc ≤ R.cells ∧ slots + ms ≤ R.slots) :
    va_Run p l e R s m args below meth c H locs cells slots mc ms (F0 m pc ls st) rest (Qc (Value.ref b :: As).toArray) free := by
  obtain ⟨hx, hb, hml, hown, hk, hz⟩ := id C
  refine vx_runVW (Ts := []) (cc := cc) (nL := nL) (own := own) (C := Cn) (hh := hh) ⟨hx, hb, hml, hown, fun w h => nomatch h⟩ hM
    ⟨⟨hR.1.1, hR.1.2, hR.2.1, hR.2.2, fun w hw a' U hW => by cases List.mem_singleton.mp hw; exact hco U a' (hk.1.warm hW), List.mem_singleton.mpr rfl⟩, hco s args hk.1, hini, ⟨hd.1, hd.2.1⟩, fun sig h => by
      have h2 := hd.2.2
      rw [h] at h2
      exact (Option.some.inj h2).symm, hli, him, hse⟩
    ⟨PX.blind, va_recv hk.2.1 hP hci hrc, fun U hU hW => PX.of C hP hD hS hU hW⟩ rfl hn hsize hstack (lv_room hW) hdg hf
theorem run_SH {y : MethodName} {bytes : ByteArray} {maxL mc ms n index : Nat} {ret : Option FieldType} {hh : List (Nat × Nat × Nat × Nat)} {rm : Room} {As : List Value} {Qc : Array Value → State → Outcome → State → Prop} {free : Addr → Prop} {wc : va_W} {st : List Value}
    (C : Cx D ca sa lo p s m c cc nL own A) (hM : Met l y [.codeWith y bytes maxL ret hh] rm (PX D ca sa lo H.size As wc) Qc mc ms free) (hco : ∀ (U : State) (A9 : Array Value), kw U → (Cond.codeWith y bytes maxL ret hh).before A9 U = true)
    (hini : (Cond.initialized y.cls).before args s = true) (hli : (Cond.methodLink own index y).before args s = true) (hst : (Cond.static y).before args s = true)
    (hd : y.cls ≠ "java/lang/invoke/MethodHandle" ∧ y.cls ≠ "java/lang/invoke/VarHandle" ∧ (parseMethodDescriptor y.desc).map (fun d => d.parameters.length) = some n) (hR : (rm.cells = mc ∧ rm.slots = ms) ∧ rm.frames + 1 ≤ R.frames ∧ 8 + (maxL + 11) + rm.locals ≤ R.locals)
    (hP : va_P D cls wc H) (hD : va_D A wc) (hS : va_S A s.heap H locs)
    (hn : As.length = n) (hsize : ls.size = nL) (hstack : st = As.reverse ++ rest) (hW : (rest.map fun v => v.category).sum ≤ 8) (hdg : decode cc pc = .ok (.invokestatic index, 3)) (hf : cells + mc ≤ R.cells ∧ slots + ms ≤ R.slots) :
    va_Run p l e R s m args below meth c H locs cells slots mc ms (F0 m pc ls st) rest (Qc As.toArray) free := by
  obtain ⟨hx, hb, hml, hown, hk, hz⟩ := id C
  refine vx_runSW (Ts := []) (cc := cc) (nL := nL) (own := own) (hh := hh) ⟨hx, hb, hml, hown, fun w h => nomatch h⟩ hM
    ⟨⟨hR.1.1, hR.1.2, hR.2.1, hR.2.2, fun w hw a' U hW => by cases List.mem_singleton.mp hw; exact hco U a' (hk.1.warm hW), List.mem_singleton.mpr rfl⟩, hco s args hk.1, hini, ⟨hd.1, hd.2.1⟩, fun sig h => by
      have h2 := hd.2.2
      rw [h] at h2
      exact (Option.some.inj h2).symm, hli, hst⟩
    ⟨PX.blind, fun U hU hW => PX.of C hP hD hS hU hW⟩ rfl hn hsize hstack (lv_room hW) hdg hf
end LC

theorem zW_len (Q : List Pd) (t : Tr) (x v : Int32) : (zW Q t x v).2.2.1.length = Q.length := by
  unfold zW; split
  · rfl
  · split
    · exact sQ_len _ _ _
    · rfl
theorem zR_len (Q : List Pd) (t : Tr) (x v : Int32) : (zR Q t x v).2.2.1.length = Q.length := by
  unfold zR; split
  · rfl
  · split
    · exact sQ_len _ _ _
    · rfl

set_option maxHeartbeats 4000000 in
set_option maxRecDepth 100000 in
theorem LR_read (l : Launch) (D : va_G) (ca : Nat → ClassId) (sa : Nat → Nat) (lo : Nat) (hl9 : l.stackTraces = false) (x0 da ht hr : Nat) (L : List Nat) (Q : List Pd) (t : Tr) (hok : okP L Q) (oa : Nat) (f : Nat → Int64) (x v : Int32) (sz : Nat) : Met l yL_read [.codeWith yL_read cL_read 5 (some .int) [(0, 10, 13, 13), (0, 10, 17, 15)]] ({ frames := 12, cells := 4, slots := 24, locals := 300 }) (PX D ca sa lo sz [.ref x0, .int x, .int v, .ref oa] (wo ca oa f ++ wx ca x0 da ht hr L Q t)) (QI D (nI (zR Q t x v).1) (wo ca oa (if (zR Q t x v).1 = 0 then vp_updL f 0 (zR Q t x v).2.1.toInt64 else f) ++ wx ca x0 da ht hr L (zR Q t x v).2.2.1 (zR Q t x v).2.2.2) (va_A (wo ca oa f ++ wx ca x0 da ht hr L Q t) sz)) 4 24 (va_A (wo ca oa f ++ wx ca x0 da ht hr L Q t) sz) := by
  have hM := M_read l D ca sa lo hl9 x0 da ht hr L Q t hok x v
  generalize hr9 : zR Q t x v = r at hM ⊢
  refine mk_metH (fun A => QI D (nI r.1) (wo ca oa (if r.1 = 0 then vp_updL f 0 r.2.1.toInt64 else f) ++ wx ca x0 da ht hr L r.2.2.1 r.2.2.2) A) (by decide) (Nat.le_of_ble_eq_true rfl) ?_
  intro p e s m below meth c A ls C hrt hlocks htab hsz hP hD hS hl
  obtain ⟨hx, hb, hml, hown, hk, hz, hlo, hA, hAl⟩ := id C
  have hK : va_K D cls (tyl ca) s := hk.2.1
  have hl : lv_has ls 5 [(0, .ref x0), (1, .int x), (2, .int v), (3, .ref oa)] := hl
  have hfr := fr_of C (D_r hD) hS
  refine lv_aload_n hx hb dL_read_0 rfl (lv_at hl 3 rfl) ?_
  refine lv_iconst (v := 0) hx hb dL_read_1 (by decide) ?_
  refine lv_aload_n hx hb dL_read_2 rfl (lv_at hl 0 rfl) ?_
  refine lv_iload_n hx hb dL_read_3 rfl (lv_at hl 1 rfl) ?_
  refine lv_iload_n hx hb dL_read_4 rfl (lv_at hl 2 rfl) ?_
  refine vx_calli (run_VX (Cn := RX9) (T := TX9) (N := 3) (q0 := 0) (ci := 9) (n := 2) (As := [.int x, .int v]) (rest := [.int 0, .ref oa]) C (hM _) (fun U A9 h => co_X9_read h A9) (in_X9 hk.1 _) (ml_L_7 hk.1 _) (im_X9_read hk.1 _) (se_X9_X9_read hk.1 _) (by decide +kernel) ⟨⟨rfl, rfl⟩, by decide, by decide⟩ (P_r hP) (D_r hD) hS rfl rfl rfl hl.1 rfl (Nat.le_of_ble_eq_true rfl) dL_read_5 ⟨by decide, by decide⟩) hS (fun q _ h => hfr q h) hfr (fun q _ h => hfr q h) (fun E ce q9 u t1 H1 locs1 ht1 hvm hp hB hz1 hk1 hS1 h1 h2 h3 => ?_) (fun r9 u t1 H1 locs1 ht1 hvm hp hB hz1 hk1 hS1 => ?_)
  · subst ht1
    have hP1 := (ap_keep (P_l hP) (ap_of hD) hk1).app hB.2
    rcases id hB.1 with ⟨hc, rfl⟩ | ⟨hc, rfl⟩
    · refine vx_catch (own := RL) (name := "java/lang/IllegalStateException") hown [] ⟨0, 10, 13, 13⟩ [⟨0, 10, 17, 15⟩] htab (fun z hz => nomatch hz) (by decide) (by decide) (cl_L_13 hk.1 _) (va_Nw.use rfl (hk.2.2.1 ("java/lang/IllegalStateException", "java/lang/IllegalStateException") (by decide))) h1 h2 h3 ?_
      refine lv_astore (lv' := [(4, .ref q9), (0, .ref x0), (1, .int x), (2, .int v), (3, .ref oa)]) hx hb dL_read_13 hl (by decide) rfl (fun ls hl => ?_)
      refine lv_iconst (v := 1) hx hb dL_read_15 (by decide) ?_
      exact ri C hrt hlocks (by rw [hc]; rfl) (by rw [if_neg (by rw [hc]; decide)]; exact hP1) hS1 dL_read_16
    · refine vx_catch (own := RL) (name := "java/lang/ArithmeticException") hown [⟨0, 10, 13, 13⟩] ⟨0, 10, 17, 15⟩ [] htab (fun z hz => by cases List.mem_singleton.mp hz; exact Or.inr ⟨by decide, _, cl_L_13 hk.1 _, hk.2.2.2.1⟩) (by decide) (by decide) (cl_L_15 hk.1 _) (va_Nw.use rfl (hk.2.2.1 ("java/lang/ArithmeticException", "java/lang/ArithmeticException") (by decide))) h1 h2 h3 ?_
      refine lv_astore (lv' := [(4, .ref q9), (0, .ref x0), (1, .int x), (2, .int v), (3, .ref oa)]) hx hb dL_read_17 hl (by decide) rfl (fun ls hl => ?_)
      refine lv_iconst (v := 2) hx hb dL_read_19 (by decide) ?_
      exact ri C hrt hlocks (by rw [hc]; rfl) (by rw [if_neg (by rw [hc]; decide)]; exact hP1) hS1 dL_read_20
  · subst ht1
    obtain ⟨hc, rfl⟩ := hp
    have hP1 : va_P D cls (wo ca oa f ++ wx ca x0 da ht hr L r.2.2.1 r.2.2.2) t1.heap := (ap_keep (P_l hP) (ap_of hD) hk1).app hB
    have hD1 : va_D A (wo ca oa f ++ wx ca x0 da ht hr L r.2.2.1 r.2.2.2) := hD.to (by
      rw [List.map_append, List.map_append, wx_map hok.1 (by rw [← hr9]; exact zR_len Q t x v)])
    refine lv_i2l hx hb dL_read_8 rfl ?_
    refine va_last hx hb hK hP1 hD1 hS1 0 3 rfl rfl (show vp_in 0 1 by unfold vp_in; decide) dL_read_9 (fun H locs hP hD hS => ?_)
    refine lv_goto (tgt := 21) hx hb dL_read_10 (by decide) ?_
    refine lv_iconst (v := 0) hx hb dL_read_21 (by decide) ?_
    exact ri C hrt hlocks (by rw [hc]; rfl) (by rw [if_pos hc]; exact hP) hS dL_read_22

set_option maxHeartbeats 4000000 in
set_option maxRecDepth 100000 in
theorem LR_weigh (l : Launch) (D : va_G) (ca : Nat → ClassId) (sa : Nat → Nat) (lo : Nat) (hl9 : l.stackTraces = false) (x0 da ht hr : Nat) (L : List Nat) (Q : List Pd) (t : Tr) (hok : okP L Q) (oa : Nat) (f : Nat → Int64) (x v : Int32) (sz : Nat) : Met l yL_weigh [.codeWith yL_weigh cL_weigh 5 (some .int) [(0, 10, 13, 13), (0, 10, 17, 15)]] ({ frames := 12, cells := 2, slots := 12, locals := 300 }) (PX D ca sa lo sz [.ref x0, .int x, .int v, .ref oa] (wo ca oa f ++ wx ca x0 da ht hr L Q t)) (QI D (nI (zW Q t x v).1) (wo ca oa (if (zW Q t x v).1 = 0 then vp_updL f 0 (zW Q t x v).2.1.toInt64 else f) ++ wx ca x0 da ht hr L (zW Q t x v).2.2.1 (zW Q t x v).2.2.2) (va_A (wo ca oa f ++ wx ca x0 da ht hr L Q t) sz)) 2 12 (va_A (wo ca oa f ++ wx ca x0 da ht hr L Q t) sz) := by
  have hM := M_weigh l D ca sa lo hl9 x0 da ht hr L Q t hok x v
  generalize hr9 : zW Q t x v = r at hM ⊢
  refine mk_metH (fun A => QI D (nI r.1) (wo ca oa (if r.1 = 0 then vp_updL f 0 r.2.1.toInt64 else f) ++ wx ca x0 da ht hr L r.2.2.1 r.2.2.2) A) (by decide) (Nat.le_of_ble_eq_true rfl) ?_
  intro p e s m below meth c A ls C hrt hlocks htab hsz hP hD hS hl
  obtain ⟨hx, hb, hml, hown, hk, hz, hlo, hA, hAl⟩ := id C
  have hK : va_K D cls (tyl ca) s := hk.2.1
  have hl : lv_has ls 5 [(0, .ref x0), (1, .int x), (2, .int v), (3, .ref oa)] := hl
  have hfr := fr_of C (D_r hD) hS
  refine lv_aload_n hx hb dL_weigh_0 rfl (lv_at hl 3 rfl) ?_
  refine lv_iconst (v := 0) hx hb dL_weigh_1 (by decide) ?_
  refine lv_aload_n hx hb dL_weigh_2 rfl (lv_at hl 0 rfl) ?_
  refine lv_iload_n hx hb dL_weigh_3 rfl (lv_at hl 1 rfl) ?_
  refine lv_iload_n hx hb dL_weigh_4 rfl (lv_at hl 2 rfl) ?_
  refine vx_calli (run_VX (Cn := RX9) (T := TX9) (N := 3) (q0 := 0) (ci := 9) (n := 2) (As := [.int x, .int v]) (rest := [.int 0, .ref oa]) C (hM _) (fun U A9 h => co_X9_weigh h A9) (in_X9 hk.1 _) (ml_L_17 hk.1 _) (im_X9_weigh hk.1 _) (se_X9_X9_weigh hk.1 _) (by decide +kernel) ⟨⟨rfl, rfl⟩, by decide, by decide⟩ (P_r hP) (D_r hD) hS rfl rfl rfl hl.1 rfl (Nat.le_of_ble_eq_true rfl) dL_weigh_5 ⟨by decide, by decide⟩) hS (fun q _ h => hfr q h) hfr (fun q _ h => hfr q h) (fun E ce q9 u t1 H1 locs1 ht1 hvm hp hB hz1 hk1 hS1 h1 h2 h3 => ?_) (fun r9 u t1 H1 locs1 ht1 hvm hp hB hz1 hk1 hS1 => ?_)
  · subst ht1
    have hP1 := (ap_keep (P_l hP) (ap_of hD) hk1).app hB.2
    rcases id hB.1 with ⟨hc, rfl⟩ | ⟨hc, rfl⟩
    · refine vx_catch (own := RL) (name := "java/lang/IllegalStateException") hown [] ⟨0, 10, 13, 13⟩ [⟨0, 10, 17, 15⟩] htab (fun z hz => nomatch hz) (by decide) (by decide) (cl_L_13 hk.1 _) (va_Nw.use rfl (hk.2.2.1 ("java/lang/IllegalStateException", "java/lang/IllegalStateException") (by decide))) h1 h2 h3 ?_
      refine lv_astore (lv' := [(4, .ref q9), (0, .ref x0), (1, .int x), (2, .int v), (3, .ref oa)]) hx hb dL_weigh_13 hl (by decide) rfl (fun ls hl => ?_)
      refine lv_iconst (v := 1) hx hb dL_weigh_15 (by decide) ?_
      exact ri C hrt hlocks (by rw [hc]; rfl) (by rw [if_neg (by rw [hc]; decide)]; exact hP1) hS1 dL_weigh_16
    · refine vx_catch (own := RL) (name := "java/lang/ArithmeticException") hown [⟨0, 10, 13, 13⟩] ⟨0, 10, 17, 15⟩ [] htab (fun z hz => by cases List.mem_singleton.mp hz; exact Or.inr ⟨by decide, _, cl_L_13 hk.1 _, hk.2.2.2.1⟩) (by decide) (by decide) (cl_L_15 hk.1 _) (va_Nw.use rfl (hk.2.2.1 ("java/lang/ArithmeticException", "java/lang/ArithmeticException") (by decide))) h1 h2 h3 ?_
      refine lv_astore (lv' := [(4, .ref q9), (0, .ref x0), (1, .int x), (2, .int v), (3, .ref oa)]) hx hb dL_weigh_17 hl (by decide) rfl (fun ls hl => ?_)
      refine lv_iconst (v := 2) hx hb dL_weigh_19 (by decide) ?_
      exact ri C hrt hlocks (by rw [hc]; rfl) (by rw [if_neg (by rw [hc]; decide)]; exact hP1) hS1 dL_weigh_20
  · subst ht1
    obtain ⟨hc, rfl⟩ := hp
    have hP1 : va_P D cls (wo ca oa f ++ wx ca x0 da ht hr L r.2.2.1 r.2.2.2) t1.heap := (ap_keep (P_l hP) (ap_of hD) hk1).app hB
    have hD1 : va_D A (wo ca oa f ++ wx ca x0 da ht hr L r.2.2.1 r.2.2.2) := hD.to (by
      rw [List.map_append, List.map_append, wx_map hok.1 (by rw [← hr9]; exact zW_len Q t x v)])
    refine lv_i2l hx hb dL_weigh_8 rfl ?_
    refine va_last hx hb hK hP1 hD1 hS1 0 3 rfl rfl (show vp_in 0 1 by unfold vp_in; decide) dL_weigh_9 (fun H locs hP hD hS => ?_)
    refine lv_goto (tgt := 21) hx hb dL_weigh_10 (by decide) ?_
    refine lv_iconst (v := 0) hx hb dL_weigh_21 (by decide) ?_
    exact ri C hrt hlocks (by rw [hc]; rfl) (by rw [if_pos hc]; exact hP) hS dL_weigh_22
