theorem en_0 {n : Nat} {E : String} {P : Prop} (h0 : n = 0) (he : en n E) : P := by
  rcases he with ⟨h, -⟩ | ⟨h, -⟩ <;> rw [h0] at h <;> cases h
theorem at_R_in : ∀ w ∈ (vx_atS RX4 32 "java/lang/IllegalStateException" ["java/lang/RuntimeException", "java/lang/Exception"]).filter goodWord, w ∈ lw_tbl := by decide +kernel
theorem at_R_no : ∀ w ∈ (vx_atS RX4 32 "java/lang/IllegalStateException" ["java/lang/RuntimeException", "java/lang/Exception"]).filter (fun w => !goodWord w), w ∈ Cond.castable "java/lang/IllegalStateException" "java/lang/IllegalStateException" :: ksD.map Cond.declares := by decide +kernel
theorem at_R_ot : ∀ w ∈ Cond.classLink RX4 28 "java/lang/IllegalStateException" :: Cond.initialized "java/lang/IllegalStateException" :: vx_atS RX4 32 "java/lang/IllegalStateException" ["java/lang/RuntimeException", "java/lang/Exception"], vx_ot w = true := by decide +kernel
theorem at_R {D : va_G} {ca : Nat → ClassId} {sa : Nat → Nat} {s : State} (hk : KK D ca sa s) (A : Array Value) : ∀ w ∈ vx_atS RX4 32 "java/lang/IllegalStateException" ["java/lang/RuntimeException", "java/lang/Exception"], w.before A s = true :=
  vx_hat (fun w hw => kw.use hk.1 A (at_R_in w hw) (List.mem_filter.mp hw).2) at_R_no (vx_c (va_Nw.use rfl (hk.2.2.1 ("java/lang/IllegalStateException", "java/lang/IllegalStateException") (by decide))) (fun w hw => by obtain ⟨q, hq, rfl⟩ := List.mem_map.mp hw; exact va_Nw.use rfl (hk.2.2.2.2.2.2.2 q hq)))
theorem at_B_in : ∀ w ∈ (vx_atS RX0 33 "java/lang/ArithmeticException" ["java/lang/RuntimeException", "java/lang/Exception"]).filter goodWord, w ∈ lw_tbl := by decide +kernel
theorem at_B_no : ∀ w ∈ (vx_atS RX0 33 "java/lang/ArithmeticException" ["java/lang/RuntimeException", "java/lang/Exception"]).filter (fun w => !goodWord w), w ∈ Cond.castable "java/lang/ArithmeticException" "java/lang/ArithmeticException" :: ksD.map Cond.declares := by decide +kernel
theorem at_B_ot : ∀ w ∈ Cond.classLink RX0 29 "java/lang/ArithmeticException" :: Cond.initialized "java/lang/ArithmeticException" :: vx_atS RX0 33 "java/lang/ArithmeticException" ["java/lang/RuntimeException", "java/lang/Exception"], vx_ot w = true := by decide +kernel
theorem at_B {D : va_G} {ca : Nat → ClassId} {sa : Nat → Nat} {s : State} (hk : KK D ca sa s) (A : Array Value) : ∀ w ∈ vx_atS RX0 33 "java/lang/ArithmeticException" ["java/lang/RuntimeException", "java/lang/Exception"], w.before A s = true :=
  vx_hat (fun w hw => kw.use hk.1 A (at_B_in w hw) (List.mem_filter.mp hw).2) at_B_no (vx_c (va_Nw.use rfl (hk.2.2.1 ("java/lang/ArithmeticException", "java/lang/ArithmeticException") (by decide))) (fun w hw => by obtain ⟨q, hq, rfl⟩ := List.mem_map.mp hw; exact va_Nw.use rfl (hk.2.2.2.2.2.2.2 q hq)))
theorem xw_of {D : va_G} {s : State} {A : Nat → Prop} {H : Heap} {locs : List Loc} {w : Dv → Tr → va_W} {r : Rs} {E : String} (he : en r.1 E) (hP : va_P D cls (w r.2.2.1 r.2.2.2) H) (hS : va_S A s.heap H locs) : ∀ t : State, s.vm.Alike t.vm → H.size ≤ t.heap.size → (∀ q : Nat, q < H.size → t.heap[q]? = H[q]?) → XW D w r A E s t := fun t _ h1 h2 =>
  ⟨(), trivial, ⟨he, hP.kept (fun k q hk => h2 q.1 (hP k q hk).lt)⟩, Nat.le_trans hS.1 h1, fun q h3 h4 => (h2 q (Nat.lt_of_lt_of_le h3 hS.1)).trans (hS.2.1 q h3 h4)⟩

set_option maxHeartbeats 4000000 in
set_option maxRecDepth 100000 in
theorem wP (l : Launch) (D : va_G) (ca : Nat → ClassId) (sa : Nat → Nat) (lo : Nat) {ci : Nat} {Cn : String} (hd : isD ci Cn) : cW l D ca sa lo yX3_doWeigh cX3_doWeigh 2 ({ frames := 1, cells := 0, slots := 0, locals := 30 }) 0 0 ci pwP := by
  intro sz h0 ht hr kd zn lm v d t
  obtain ⟨ch, le, co, dr, la⟩ := d
  refine mk_metX (fun A => QW D (wd ca h0 ht hr ci kd zn lm) (pwP v (ch, le, co, dr, la) t) A) (fun A => XW D (wd ca h0 ht hr ci kd zn lm) (pwP v (ch, le, co, dr, la) t) A) (by decide) (Nat.le_of_ble_eq_true rfl) ?_
  intro p e s m below meth c A ls C hrt hlocks hno hsz hP hD hS hl
  obtain ⟨hx, hb, hml, hown, hk, hz, hlo, hA, hAl⟩ := id C
  have hK : va_K D cls (tyl ca) s := hk.2.1
  have hl : lv_has ls 2 [(0, .ref h0), (1, .int v)] := hl
  have hP : va_P D cls ((h0, .inr (ci, [.ref ht, .int kd, .int zn, .int lm, .int ch, .int le, .int co, .int dr, .int (bi la)])) :: wt ca ht hr t) s.heap := hP
  have hD : va_D A ((h0, .inr (ci, [.ref ht, .int kd, .int zn, .int lm, .int ch, .int le, .int co, .int dr, .int (bi la)])) :: wt ca ht hr t) := hD
  refine lv_aload_n hx hb dX3_doWeigh_0 rfl (lv_at hl 0 rfl) ?_
  refine va_get (D := D) (C := Cn) (T := TX3) (N := 9) hx hb (hd.2 _ _ hk.1) (fun _ h9 => h9) hown hK hP 0 rfl hd.1 0 (by decide) (fl_X3_9 hk.1 _) (fun _ h9 => h9) rfl dX3_doWeigh_1 ?_
  refine lv_iconst (v := 0) hx hb dX3_doWeigh_4 (by decide) ?_
  refine lv_iconst (v := 0) hx hb dX3_doWeigh_5 (by decide) ?_
  refine cb_begin C (ml_X3_28 hk.1 _) hP hD hS hl.1 ⟨by decide, by decide⟩ (Nat.le_of_ble_eq_true rfl) dX3_doWeigh_6 ⟨by decide, by decide⟩ (fun H locs hP hD hS => ?_)
  have hP : va_P D cls ((h0, .inr (ci, [.ref ht, .int kd, .int zn, .int lm, .int ch, .int le, .int co, .int dr, .int (bi la)])) :: wt ca ht hr (tb 0 0 t)) H := hP
  have hD : va_D A ((h0, .inr (ci, [.ref ht, .int kd, .int zn, .int lm, .int ch, .int le, .int co, .int dr, .int (bi la)])) :: wt ca ht hr (tb 0 0 t)) := hD
  refine lv_iload_n hx hb dX3_doWeigh_9 rfl (lv_at hl 1 rfl) ?_
  exact rw_ C hrt hlocks rfl rfl hP hS dX3_doWeigh_10 (by decide) (by decide)

set_option maxHeartbeats 4000000 in
set_option maxRecDepth 100000 in
theorem wS (l : Launch) (D : va_G) (ca : Nat → ClassId) (sa : Nat → Nat) (lo : Nat) {ci : Nat} {Cn : String} (hd : isD ci Cn) : cW l D ca sa lo yX5_doWeigh cX5_doWeigh 2 ({ frames := 2, cells := 0, slots := 0, locals := 60 }) 0 0 ci pwS := by
  intro sz h0 ht hr kd zn lm v d t
  obtain ⟨ch, le, co, dr, la⟩ := d
  refine mk_metX (fun A => QW D (wd ca h0 ht hr ci kd zn lm) (pwS v (ch, le, co, dr, la) t) A) (fun A => XW D (wd ca h0 ht hr ci kd zn lm) (pwS v (ch, le, co, dr, la) t) A) (by decide) (Nat.le_of_ble_eq_true rfl) ?_
  intro p e s m below meth c A ls C hrt hlocks hno hsz hP hD hS hl
  obtain ⟨hx, hb, hml, hown, hk, hz, hlo, hA, hAl⟩ := id C
  have hK : va_K D cls (tyl ca) s := hk.2.1
  have hl : lv_has ls 2 [(0, .ref h0), (1, .int v)] := hl
  have hP : va_P D cls ((h0, .inr (ci, [.ref ht, .int kd, .int zn, .int lm, .int ch, .int le, .int co, .int dr, .int (bi la)])) :: wt ca ht hr t) s.heap := hP
  have hD : va_D A ((h0, .inr (ci, [.ref ht, .int kd, .int zn, .int lm, .int ch, .int le, .int co, .int dr, .int (bi la)])) :: wt ca ht hr t) := hD
  refine lv_aload_n hx hb dX5_doWeigh_0 rfl (lv_at hl 0 rfl) ?_
  refine va_get (D := D) (C := Cn) (T := TX3) (N := 9) hx hb (hd.2 _ _ hk.1) (fun _ h9 => h9) hown hK hP 0 rfl hd.1 0 (by decide) (fl_X5_9 hk.1 _) (fun x9 h9 => u_same (sf_X5_trace hk.1 #[]) x9 h9) rfl dX5_doWeigh_1 ?_
  refine lv_iconst (v := 0) hx hb dX5_doWeigh_4 (by decide) ?_
  refine lv_iconst (v := 3) hx hb dX5_doWeigh_5 (by decide) ?_
  refine cb_begin C (ml_X5_15 hk.1 _) hP hD hS hl.1 ⟨by decide, by decide⟩ (Nat.le_of_ble_eq_true rfl) dX5_doWeigh_6 ⟨by decide, by decide⟩ (fun H locs hP hD hS => ?_)
  have hP : va_P D cls ((h0, .inr (ci, [.ref ht, .int kd, .int zn, .int lm, .int ch, .int le, .int co, .int dr, .int (bi la)])) :: wt ca ht hr (tb 0 3 t)) H := hP
  have hD : va_D A ((h0, .inr (ci, [.ref ht, .int kd, .int zn, .int lm, .int ch, .int le, .int co, .int dr, .int (bi la)])) :: wt ca ht hr (tb 0 3 t)) := hD
  refine lv_aload_n hx hb dX5_doWeigh_9 rfl (lv_at hl 0 rfl) ?_
  refine lv_iload_n hx hb dX5_doWeigh_10 rfl (lv_at hl 1 rfl) ?_
  refine kWS (x := ⟨"AlarmKinds$Wired", "doWeigh", "(I)I"⟩) (d := (ch, le, co, dr, la)) (t := tb 0 3 t) hd C (wP l D ca sa lo hd) ⟨fun U A9 h => co_X3_doWeigh h A9, fun U A9 h => in_X3 h A9, ml_X5_21 hk.1 _, sm_X8_X3_doWeigh hk.1 _, su_X5 hk.1 _, up_84 hk, im_X3_doWeigh hk.1 _, by decide +kernel, ⟨⟨rfl, rfl⟩, by decide, by decide⟩, by decide, by decide⟩ hP hD hS hl.1 (Nat.le_of_ble_eq_true rfl) dX5_doWeigh_11 (fun E ce q9 H locs he hP hD hS h1 h2 h3 => ?_) (fun h0c H locs hP hD hS => ?_)
  · exact en_0 rfl he
  · have hP : va_P D cls ((h0, .inr (ci, [.ref ht, .int kd, .int zn, .int lm, .int ch, .int le, .int co, .int dr, .int (bi la)])) :: wt ca ht hr (tb 0 0 (tb 0 3 t))) H := hP
    have hD : va_D A ((h0, .inr (ci, [.ref ht, .int kd, .int zn, .int lm, .int ch, .int le, .int co, .int dr, .int (bi la)])) :: wt ca ht hr (tb 0 0 (tb 0 3 t))) := hD
    refine lv_aload_n hx hb dX5_doWeigh_14 rfl (lv_at hl 0 rfl) ?_
    refine va_get (D := D) (C := Cn) (T := TX3) (N := 9) hx hb (hd.2 _ _ hk.1) (fun _ h9 => h9) hown hK hP 0 rfl hd.1 7 (by decide) (fl_X5_25 hk.1 _) (fun x9 h9 => u_same (sf_X5_drift hk.1 #[]) x9 h9) rfl dX5_doWeigh_15 ?_
    refine lv_isub hx hb dX5_doWeigh_18 ?_
    exact rw_ C hrt hlocks rfl rfl hP hS dX5_doWeigh_19 (by decide) (by decide)

set_option maxHeartbeats 4000000 in
set_option maxRecDepth 100000 in
theorem wR (l : Launch) (D : va_G) (ca : Nat → ClassId) (sa : Nat → Nat) (lo : Nat) {ci : Nat} {Cn : String} (hd : isD ci Cn) (hl9 : l.stackTraces = false) : cW l D ca sa lo yX4_doWeigh cX4_doWeigh 2 ({ frames := 6, cells := 1, slots := 6, locals := 90 }) 1 6 ci pwR := by
  intro sz h0 ht hr kd zn lm v d t
  obtain ⟨ch, le, co, dr, la⟩ := d
  generalize hr9 : pwR v (ch, le, co, dr, la) t = r
  refine mk_metX (fun A => QW D (wd ca h0 ht hr ci kd zn lm) r A) (fun A => XW D (wd ca h0 ht hr ci kd zn lm) r A) (by decide) (Nat.le_of_ble_eq_true rfl) ?_
  intro p e s m below meth c A ls C hrt hlocks hno hsz hP hD hS hl
  obtain ⟨hx, hb, hml, hown, hk, hz, hlo, hA, hAl⟩ := id C
  have hK : va_K D cls (tyl ca) s := hk.2.1
  have hl : lv_has ls 2 [(0, .ref h0), (1, .int v)] := hl
  have hP : va_P D cls ((h0, .inr (ci, [.ref ht, .int kd, .int zn, .int lm, .int ch, .int le, .int co, .int dr, .int (bi la)])) :: wt ca ht hr t) s.heap := hP
  have hD : va_D A ((h0, .inr (ci, [.ref ht, .int kd, .int zn, .int lm, .int ch, .int le, .int co, .int dr, .int (bi la)])) :: wt ca ht hr t) := hD
  refine lv_aload_n hx hb dX4_doWeigh_0 rfl (lv_at hl 0 rfl) ?_
  refine va_get (D := D) (C := Cn) (T := TX3) (N := 9) hx hb (hd.2 _ _ hk.1) (fun _ h9 => h9) hown hK hP 0 rfl hd.1 0 (by decide) (fl_X4_9 hk.1 _) (fun x9 h9 => u_same (sf_X4_trace hk.1 #[]) x9 h9) rfl dX4_doWeigh_1 ?_
  refine lv_iconst (v := 0) hx hb dX4_doWeigh_4 (by decide) ?_
  refine lv_iconst (v := 2) hx hb dX4_doWeigh_5 (by decide) ?_
  refine cb_begin C (ml_X4_15 hk.1 _) hP hD hS hl.1 ⟨by decide, by decide⟩ (Nat.le_of_ble_eq_true rfl) dX4_doWeigh_6 ⟨by decide, by decide⟩ (fun H locs hP hD hS => ?_)
  have hP : va_P D cls ((h0, .inr (ci, [.ref ht, .int kd, .int zn, .int lm, .int ch, .int le, .int co, .int dr, .int (bi la)])) :: wt ca ht hr (tb 0 2 t)) H := hP
  have hD : va_D A ((h0, .inr (ci, [.ref ht, .int kd, .int zn, .int lm, .int ch, .int le, .int co, .int dr, .int (bi la)])) :: wt ca ht hr (tb 0 2 t)) := hD
  refine lv_aload_n hx hb dX4_doWeigh_9 rfl (lv_at hl 0 rfl) ?_
  refine va_get (D := D) (C := Cn) (T := TX3) (N := 9) hx hb (hd.2 _ _ hk.1) (fun _ h9 => h9) hown hK hP 0 rfl hd.1 4 (by decide) (fl_X4_21 hk.1 _) (fun x9 h9 => u_same (sf_X4_charge hk.1 #[]) x9 h9) rfl dX4_doWeigh_10 ?_
  refine lv_if_ne (tgt := 39) hx hb dX4_doWeigh_13 (by decide) (fun c_1 => ?_) (fun c_1 => ?_)
  · have hr9 : r = pwP v (ch - 1, le, co, dr, la) (tb 0 2 t) := by rw [← hr9]; exact if_neg c_1
    subst hr9
    refine lv_aload_n hx hb dX4_doWeigh_39 rfl (lv_at hl 0 rfl) ?_
    refine lv_dup hx hb dX4_doWeigh_40 rfl ?_
    refine va_get (D := D) (C := Cn) (T := TX3) (N := 9) hx hb (hd.2 _ _ hk.1) (fun _ h9 => h9) hown hK hP 0 rfl hd.1 4 (by decide) (fl_X4_21 hk.1 _) (fun x9 h9 => u_same (sf_X4_charge hk.1 #[]) x9 h9) rfl dX4_doWeigh_41 ?_
    refine lv_iconst (v := 1) hx hb dX4_doWeigh_44 (by decide) ?_
    refine lv_isub hx hb dX4_doWeigh_45 ?_
    refine va_put (D := D) (v := .int (ch - 1)) (ty := .int) (C := Cn) (T := TX3) (N := 9) hx hb (hd.2 _ _ hk.1) (fun _ h9 => h9) tyX3 tyX3_ok nmX3 hown hK hP hD hS 0 rfl hd.1 4 (by decide) (fl_X4_21 hk.1 _) (fun x9 h9 => u_same (sf_X4_charge hk.1 #[]) x9 h9) rfl (by decide +kernel) rfl rfl (Nat.le_of_ble_eq_true rfl) dX4_doWeigh_46 (fun H locs hP hD hS => ?_)
    have hP : va_P D cls ((h0, .inr (ci, [.ref ht, .int kd, .int zn, .int lm, .int (ch - 1), .int le, .int co, .int dr, .int (bi la)])) :: wt ca ht hr (tb 0 2 t)) H := hP
    have hD : va_D A ((h0, .inr (ci, [.ref ht, .int kd, .int zn, .int lm, .int (ch - 1), .int le, .int co, .int dr, .int (bi la)])) :: wt ca ht hr (tb 0 2 t)) := hD
    refine lv_aload_n hx hb dX4_doWeigh_49 rfl (lv_at hl 0 rfl) ?_
    refine lv_iload_n hx hb dX4_doWeigh_50 rfl (lv_at hl 1 rfl) ?_
    refine kWS (x := ⟨"AlarmKinds$Wired", "doWeigh", "(I)I"⟩) (d := ((ch - 1), le, co, dr, la)) (t := tb 0 2 t) hd C (wP l D ca sa lo hd) ⟨fun U A9 h => co_X3_doWeigh h A9, fun U A9 h => in_X3 h A9, ml_X4_35 hk.1 _, sm_X8_X3_doWeigh hk.1 _, su_X4 hk.1 _, up_84 hk, im_X3_doWeigh hk.1 _, by decide +kernel, ⟨⟨rfl, rfl⟩, by decide, by decide⟩, by decide, by decide⟩ hP hD hS hl.1 (Nat.le_of_ble_eq_true rfl) dX4_doWeigh_51 (fun E ce q9 H locs he hP hD hS h1 h2 h3 => ?_) (fun h0c H locs hP hD hS => ?_)
    · exact en_0 rfl he
    · exact rw_ C hrt hlocks rfl rfl hP hS dX4_doWeigh_54 (by decide) (by decide)
  · have hc9 : ch = 0 := c_1
    have hr9 : r = (1, 0, (ch, le, co, dr, la), tfl (tb 0 2 t)) := by rw [← hr9]; exact if_pos hc9
    subst hr9
    generalize hT9 : tb 0 2 t = T9 at hP hD ⊢
    have hP : va_P D cls [(h0, .inr (ci, [.ref ht, .int kd, .int zn, .int lm, .int ch, .int le, .int co, .int dr, .int (bi la)])), (ht, .inr (6, [.ref hr, .int (nI (nx T9.1)), .int (nI (min T9.1 200)), .int (nI T9.1), .int T9.2.2.1, .int T9.2.2.2])), (hr, .inl (ca 0, 200, .inl T9.2.1))] H := hP
    have hD : va_D A [(h0, .inr (ci, [.ref ht, .int kd, .int zn, .int lm, .int ch, .int le, .int co, .int dr, .int (bi la)])), (ht, .inr (6, [.ref hr, .int (nI (nx T9.1)), .int (nI (min T9.1 200)), .int (nI T9.1), .int T9.2.2.1, .int T9.2.2.2])), (hr, .inl (ca 0, 200, .inl T9.2.1))] := hD
    refine lv_aload_n hx hb dX4_doWeigh_16 rfl (lv_at hl 0 rfl) ?_
    refine va_get (D := D) (C := Cn) (T := TX3) (N := 9) hx hb (hd.2 _ _ hk.1) (fun _ h9 => h9) hown hK hP 0 rfl hd.1 0 (by decide) (fl_X4_9 hk.1 _) (fun x9 h9 => u_same (sf_X4_trace hk.1 #[]) x9 h9) rfl dX4_doWeigh_17 ?_
    refine lv_dup hx hb dX4_doWeigh_20 rfl ?_
    refine va_get (D := D) (C := RX6) (T := TX6) (N := 6) hx hb (uc_6 hk.1 _) (fun _ h9 => h9) hown hK hP 1 rfl rfl 4 (by decide) (fl_X4_25 hk.1 _) (fun _ h9 => h9) rfl dX4_doWeigh_21 ?_
    refine lv_iconst (v := 1) hx hb dX4_doWeigh_24 (by decide) ?_
    refine lv_iadd hx hb dX4_doWeigh_25 ?_
    refine va_put (D := D) (v := .int (T9.2.2.1 + 1)) (ty := .int) (C := RX6) (T := TX6) (N := 6) hx hb (uc_6 hk.1 _) (fun _ h9 => h9) tyX6 tyX6_ok nmX6 hown hK hP hD hS 1 rfl rfl 4 (by decide) (fl_X4_25 hk.1 _) (fun _ h9 => h9) rfl (by decide +kernel) rfl rfl (Nat.le_of_ble_eq_true rfl) dX4_doWeigh_26 (fun H locs hP hD hS => ?_)
    have hP : va_P D cls [(h0, .inr (ci, [.ref ht, .int kd, .int zn, .int lm, .int ch, .int le, .int co, .int dr, .int (bi la)])), (ht, .inr (6, [.ref hr, .int (nI (nx T9.1)), .int (nI (min T9.1 200)), .int (nI T9.1), .int (T9.2.2.1 + 1), .int T9.2.2.2])), (hr, .inl (ca 0, 200, .inl T9.2.1))] H := hP
    have hD : va_D A [(h0, .inr (ci, [.ref ht, .int kd, .int zn, .int lm, .int ch, .int le, .int co, .int dr, .int (bi la)])), (ht, .inr (6, [.ref hr, .int (nI (nx T9.1)), .int (nI (min T9.1 200)), .int (nI T9.1), .int (T9.2.2.1 + 1), .int T9.2.2.2])), (hr, .inl (ca 0, 200, .inl T9.2.1))] := hD
    refine vx_throwS (own := RX4) (cls := "java/lang/IllegalStateException") (names := ["java/lang/RuntimeException", "java/lang/Exception"]) (ik := 28) (is := 30) (ic := 32) (A := A) hx hb hl9 hown (by decide +kernel) (by decide +kernel) (cl_X4_28 hk.1 _) (in_IS hk.1 _) hk.2.2.2.2.1 (at_R hk _) at_R_ot (hz.1.narrow hAl) (hz.2.narrow hAl) hS (hl.1.trans hml.symm) dX4_doWeigh_29 dX4_doWeigh_32 dX4_doWeigh_33 dX4_doWeigh_35 dX4_doWeigh_38 (fun x hx => (hno x hx).elim) (by decide) (by decide) (by decide) (by decide) hlocks (xw_of (Or.inl ⟨rfl, rfl⟩) hP hS) hS.2.2 (by decide) (by decide)

set_option maxHeartbeats 4000000 in
set_option maxRecDepth 100000 in
theorem wB (l : Launch) (D : va_G) (ca : Nat → ClassId) (sa : Nat → Nat) (lo : Nat) {ci : Nat} {Cn : String} (hd : isD ci Cn) (hl9 : l.stackTraces = false) : cW l D ca sa lo yX0_doWeigh cX0_doWeigh 3 ({ frames := 7, cells := 2, slots := 12, locals := 120 }) 2 12 ci pwB := by
  intro sz h0 ht hr kd zn lm v d t
  obtain ⟨ch, le, co, dr, la⟩ := d
  generalize hr9 : pwB v (ch, le, co, dr, la) t = r
  refine mk_metX (fun A => QW D (wd ca h0 ht hr ci kd zn lm) r A) (fun A => XW D (wd ca h0 ht hr ci kd zn lm) r A) (by decide) (Nat.le_of_ble_eq_true rfl) ?_
  intro p e s m below meth c A ls C hrt hlocks hno hsz hP hD hS hl
  obtain ⟨hx, hb, hml, hown, hk, hz, hlo, hA, hAl⟩ := id C
  have hK : va_K D cls (tyl ca) s := hk.2.1
  have hl : lv_has ls 3 [(0, .ref h0), (1, .int v)] := hl
  have hP : va_P D cls ((h0, .inr (ci, [.ref ht, .int kd, .int zn, .int lm, .int ch, .int le, .int co, .int dr, .int (bi la)])) :: wt ca ht hr t) s.heap := hP
  have hD : va_D A ((h0, .inr (ci, [.ref ht, .int kd, .int zn, .int lm, .int ch, .int le, .int co, .int dr, .int (bi la)])) :: wt ca ht hr t) := hD
  refine lv_aload_n hx hb dX0_doWeigh_0 rfl (lv_at hl 0 rfl) ?_
  refine va_get (D := D) (C := Cn) (T := TX3) (N := 9) hx hb (hd.2 _ _ hk.1) (fun _ h9 => h9) hown hK hP 0 rfl hd.1 0 (by decide) (fl_X0_9 hk.1 _) (fun x9 h9 => u_same (sf_X0_trace hk.1 #[]) x9 h9) rfl dX0_doWeigh_1 ?_
  refine lv_iconst (v := 0) hx hb dX0_doWeigh_4 (by decide) ?_
  refine lv_iconst (v := 5) hx hb dX0_doWeigh_5 (by decide) ?_
  refine cb_begin C (ml_X0_15 hk.1 _) hP hD hS hl.1 ⟨by decide, by decide⟩ (Nat.le_of_ble_eq_true rfl) dX0_doWeigh_6 ⟨by decide, by decide⟩ (fun H locs hP hD hS => ?_)
  have hP : va_P D cls ((h0, .inr (ci, [.ref ht, .int kd, .int zn, .int lm, .int ch, .int le, .int co, .int dr, .int (bi la)])) :: wt ca ht hr (tb 0 5 t)) H := hP
  have hD : va_D A ((h0, .inr (ci, [.ref ht, .int kd, .int zn, .int lm, .int ch, .int le, .int co, .int dr, .int (bi la)])) :: wt ca ht hr (tb 0 5 t)) := hD
  refine lv_aload_n hx hb dX0_doWeigh_9 rfl (lv_at hl 0 rfl) ?_
  refine lv_iload_n hx hb dX0_doWeigh_10 rfl (lv_at hl 1 rfl) ?_
  refine kWS (x := ⟨"AlarmKinds$Radio", "doWeigh", "(I)I"⟩) (d := (ch, le, co, dr, la)) (t := tb 0 5 t) hd C (wR l D ca sa lo hd hl9) ⟨fun U A9 h => co_X4_doWeigh h A9, fun U A9 h => in_X4 h A9, ml_X0_21 hk.1 _, sm_X4_X4_doWeigh hk.1 _, su_X0 hk.1 _, up_self, im_X4_doWeigh hk.1 _, by decide +kernel, ⟨⟨rfl, rfl⟩, by decide, by decide⟩, by decide, by decide⟩ hP hD hS hl.1 (Nat.le_of_ble_eq_true rfl) dX0_doWeigh_11 (fun E ce q9 H locs he hP hD hS h1 h2 h3 => ?_) (fun h0c H locs hP hD hS => ?_)
  · have hq : pwBe (pwR v (ch, le, co, dr, la) (tb 0 5 t)) = pwR v (ch, le, co, dr, la) (tb 0 5 t) := if_neg (fun h => by rcases he with ⟨h9, -⟩ | ⟨h9, -⟩ <;> rw [h] at h9 <;> cases h9)
    have hr9 : r = pwR v (ch, le, co, dr, la) (tb 0 5 t) := by rw [← hr9]; exact hq
    subst hr9
    exact ow_ hno hlocks he hP hS h1 h2 h3 (by decide) (by decide)
  · replace hr9 : pwBe (pwR v (ch, le, co, dr, la) (tb 0 5 t)) = r := hr9
    generalize hq9 : pwR v (ch, le, co, dr, la) (tb 0 5 t) = q at hP hD hr9 h0c ⊢
    obtain ⟨c9, v9, ⟨ch9, le9, co9, dr9, la9⟩, t9⟩ := q
    cases (show c9 = 0 from h0c)
    have hP : va_P D cls ((h0, .inr (ci, [.ref ht, .int kd, .int zn, .int lm, .int ch9, .int le9, .int co9, .int dr9, .int (bi la9)])) :: wt ca ht hr t9) H := hP
    have hD : va_D A ((h0, .inr (ci, [.ref ht, .int kd, .int zn, .int lm, .int ch9, .int le9, .int co9, .int dr9, .int (bi la9)])) :: wt ca ht hr t9) := hD
    refine lv_istore_n (lv' := [(2, .int v9), (0, .ref h0), (1, .int v)]) hx hb dX0_doWeigh_14 rfl hl (by decide) rfl (fun ls hl => ?_)
    refine lv_iload_n hx hb dX0_doWeigh_15 rfl (lv_at hl 0 rfl) ?_
    refine lv_if_ne (tgt := 42) hx hb dX0_doWeigh_16 (by decide) (fun c_1 => ?_) (fun c_1 => ?_)
    · have hr9 : r = (0, 1000 / v9, (ch9, le9, co9, dr9, la9), t9) := by rw [← hr9]; exact (if_pos rfl).trans (if_neg c_1)
      subst hr9
      refine lv_sipush (v := 1000) hx hb dX0_doWeigh_42 (by decide) ?_
      refine lv_iload_n hx hb dX0_doWeigh_45 rfl (lv_at hl 0 rfl) ?_
      refine lv_idiv hx hb dX0_doWeigh_46 c_1 ?_
      exact rw_ C hrt hlocks rfl rfl hP hS dX0_doWeigh_47 (by decide) (by decide)
    · have hc9 : v9 = 0 := c_1
      have hr9 : r = (2, 0, (ch9, le9, co9, dr9, la9), tar t9) := by rw [← hr9]; exact (if_pos rfl).trans (if_pos hc9)
      subst hr9
      have hP : va_P D cls [(h0, .inr (ci, [.ref ht, .int kd, .int zn, .int lm, .int ch9, .int le9, .int co9, .int dr9, .int (bi la9)])), (ht, .inr (6, [.ref hr, .int (nI (nx t9.1)), .int (nI (min t9.1 200)), .int (nI t9.1), .int t9.2.2.1, .int t9.2.2.2])), (hr, .inl (ca 0, 200, .inl t9.2.1))] H := hP
      have hD : va_D A [(h0, .inr (ci, [.ref ht, .int kd, .int zn, .int lm, .int ch9, .int le9, .int co9, .int dr9, .int (bi la9)])), (ht, .inr (6, [.ref hr, .int (nI (nx t9.1)), .int (nI (min t9.1 200)), .int (nI t9.1), .int t9.2.2.1, .int t9.2.2.2])), (hr, .inl (ca 0, 200, .inl t9.2.1))] := hD
      refine lv_aload_n hx hb dX0_doWeigh_19 rfl (lv_at hl 1 rfl) ?_
      refine va_get (D := D) (C := Cn) (T := TX3) (N := 9) hx hb (hd.2 _ _ hk.1) (fun _ h9 => h9) hown hK hP 0 rfl hd.1 0 (by decide) (fl_X0_9 hk.1 _) (fun x9 h9 => u_same (sf_X0_trace hk.1 #[]) x9 h9) rfl dX0_doWeigh_20 ?_
      refine lv_dup hx hb dX0_doWeigh_23 rfl ?_
      refine va_get (D := D) (C := RX6) (T := TX6) (N := 6) hx hb (uc_6 hk.1 _) (fun _ h9 => h9) hown hK hP 1 rfl rfl 5 (by decide) (fl_X0_25 hk.1 _) (fun _ h9 => h9) rfl dX0_doWeigh_24 ?_
      refine lv_iconst (v := 1) hx hb dX0_doWeigh_27 (by decide) ?_
      refine lv_iadd hx hb dX0_doWeigh_28 ?_
      refine va_put (D := D) (v := .int (t9.2.2.2 + 1)) (ty := .int) (C := RX6) (T := TX6) (N := 6) hx hb (uc_6 hk.1 _) (fun _ h9 => h9) tyX6 tyX6_ok nmX6 hown hK hP hD hS 1 rfl rfl 5 (by decide) (fl_X0_25 hk.1 _) (fun _ h9 => h9) rfl (by decide +kernel) rfl rfl (Nat.le_of_ble_eq_true rfl) dX0_doWeigh_29 (fun H locs hP hD hS => ?_)
      have hP : va_P D cls [(h0, .inr (ci, [.ref ht, .int kd, .int zn, .int lm, .int ch9, .int le9, .int co9, .int dr9, .int (bi la9)])), (ht, .inr (6, [.ref hr, .int (nI (nx t9.1)), .int (nI (min t9.1 200)), .int (nI t9.1), .int t9.2.2.1, .int (t9.2.2.2 + 1)])), (hr, .inl (ca 0, 200, .inl t9.2.1))] H := hP
      have hD : va_D A [(h0, .inr (ci, [.ref ht, .int kd, .int zn, .int lm, .int ch9, .int le9, .int co9, .int dr9, .int (bi la9)])), (ht, .inr (6, [.ref hr, .int (nI (nx t9.1)), .int (nI (min t9.1 200)), .int (nI t9.1), .int t9.2.2.1, .int (t9.2.2.2 + 1)])), (hr, .inl (ca 0, 200, .inl t9.2.1))] := hD
      refine vx_throwS (own := RX0) (cls := "java/lang/ArithmeticException") (names := ["java/lang/RuntimeException", "java/lang/Exception"]) (ik := 29) (is := 31) (ic := 33) (A := A) hx hb hl9 hown (by decide +kernel) (by decide +kernel) (cl_X0_29 hk.1 _) (in_AE hk.1 _) hk.2.2.2.2.2.1 (at_B hk _) at_B_ot (hz.1.narrow hAl) (hz.2.narrow hAl) hS (hl.1.trans hml.symm) dX0_doWeigh_32 dX0_doWeigh_35 dX0_doWeigh_36 dX0_doWeigh_38 dX0_doWeigh_41 (fun x hx => (hno x hx).elim) (by decide) (by decide) (by decide) (by decide) hlocks (xw_of (Or.inr ⟨rfl, rfl⟩) hP hS) hS.2.2 (by decide) (by decide)
