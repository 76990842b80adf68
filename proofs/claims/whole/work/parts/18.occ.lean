theorem bi_t {P : Prop} [Decidable P] (h : P) : (1 : Int32) = bi (decide P) := by rw [decide_eq_true h]; rfl
theorem bi_f {P : Prop} [Decidable P] (h : ¬ P) : (0 : Int32) = bi (decide P) := by rw [decide_eq_false h]; rfl
theorem bi_eq0 {b : Bool} (h : bi b = 0) : b = false := by cases b with
  | false => rfl
  | true => exact absurd h (by decide)
theorem bi_ne0 {b : Bool} (h : ¬ bi b = 0) : b = true := by cases b with
  | false => exact absurd rfl h
  | true => rfl
theorem fit_b (b : Bool) : fits .boolean (.int (bi b)) = true := by cases b <;> rfl

set_option maxHeartbeats 4000000 in
set_option maxRecDepth 100000 in
theorem oP (l : Launch) (D : va_G) (ca : Nat → ClassId) (sa : Nat → Nat) (lo : Nat) {ci : Nat} {Cn : String} (hd : isD ci Cn) : cO l D ca sa lo yX3_doOver cX3_doOver 1 ({ frames := 1, cells := 0, slots := 0, locals := 30 }) ci poP := by
  intro sz h0 ht hr kd zn lm d t
  obtain ⟨ch, le, co, dr, la⟩ := d
  refine mk_met (fun A => QI D (bi (poP lm (ch, le, co, dr, la) t).1) (wd ca h0 ht hr ci kd zn lm (poP lm (ch, le, co, dr, la) t).2.1 (poP lm (ch, le, co, dr, la) t).2.2) A) (by decide) (Nat.le_of_ble_eq_true rfl) ?_
  intro p e s m below meth c A ls C hrt hlocks hnm hsz hP hD hS hl
  obtain ⟨hx, hb, hml, hown, hk, hz, hlo, hA, hAl⟩ := id C
  have hK : va_K D cls (tyl ca) s := hk.2.1
  have hl : lv_has ls 1 [(0, .ref h0)] := hl
  have hP : va_P D cls ((h0, .inr (ci, [.ref ht, .int kd, .int zn, .int lm, .int ch, .int le, .int co, .int dr, .int (bi la)])) :: wt ca ht hr t) s.heap := hP
  have hD : va_D A ((h0, .inr (ci, [.ref ht, .int kd, .int zn, .int lm, .int ch, .int le, .int co, .int dr, .int (bi la)])) :: wt ca ht hr t) := hD
  refine lv_aload_n hx hb dX3_doOver_0 rfl (lv_at hl 0 rfl) ?_
  refine va_get (D := D) (C := Cn) (T := TX3) (N := 9) hx hb (hd.2 _ _ hk.1) (fun _ h9 => h9) hown hK hP 0 rfl hd.1 0 (by decide) (fl_X3_9 hk.1 _) (fun _ h9 => h9) rfl dX3_doOver_1 ?_
  refine lv_iconst (v := 2) hx hb dX3_doOver_4 (by decide) ?_
  refine lv_iconst (v := 0) hx hb dX3_doOver_5 (by decide) ?_
  refine cb_begin C (ml_X3_28 hk.1 _) hP hD hS hl.1 ⟨by decide, by decide⟩ (Nat.le_of_ble_eq_true rfl) dX3_doOver_6 ⟨by decide, by decide⟩ (fun H locs hP hD hS => ?_)
  have hP : va_P D cls ((h0, .inr (ci, [.ref ht, .int kd, .int zn, .int lm, .int ch, .int le, .int co, .int dr, .int (bi la)])) :: wt ca ht hr (tb 2 0 t)) H := hP
  have hD : va_D A ((h0, .inr (ci, [.ref ht, .int kd, .int zn, .int lm, .int ch, .int le, .int co, .int dr, .int (bi la)])) :: wt ca ht hr (tb 2 0 t)) := hD
  refine lv_aload_n hx hb dX3_doOver_9 rfl (lv_at hl 0 rfl) ?_
  refine va_get (D := D) (C := Cn) (T := TX3) (N := 9) hx hb (hd.2 _ _ hk.1) (fun _ h9 => h9) hown hK hP 0 rfl hd.1 5 (by decide) (fl_X3_38 hk.1 _) (fun _ h9 => h9) rfl dX3_doOver_10 ?_
  refine lv_aload_n hx hb dX3_doOver_13 rfl (lv_at hl 0 rfl) ?_
  refine va_get (D := D) (C := Cn) (T := TX3) (N := 9) hx hb (hd.2 _ _ hk.1) (fun _ h9 => h9) hown hK hP 0 rfl hd.1 3 (by decide) (fl_X3_22 hk.1 _) (fun _ h9 => h9) rfl dX3_doOver_14 ?_
  refine lv_icmp_lt (tgt := 24) hx hb dX3_doOver_17 (by decide) (fun c_1 => ?_) (fun c_1 => ?_)
  · refine lv_iconst (v := 0) hx hb dX3_doOver_24 (by decide) ?_
    exact rz C hrt hlocks (bi_f (P := lm ≤ le) (fun h9 => absurd c_1 (Int32.not_lt.mpr h9))) hP hS dX3_doOver_25
  · refine lv_iconst (v := 1) hx hb dX3_doOver_20 (by decide) ?_
    refine lv_goto (tgt := 25) hx hb dX3_doOver_21 (by decide) ?_
    exact rz C hrt hlocks (bi_t (P := lm ≤ le) (Int32.not_lt.mp c_1)) hP hS dX3_doOver_25

set_option maxHeartbeats 4000000 in
set_option maxRecDepth 100000 in
theorem oH (l : Launch) (D : va_G) (ca : Nat → ClassId) (sa : Nat → Nat) (lo : Nat) {ci : Nat} {Cn : String} (hd : isD ci Cn) : cO l D ca sa lo yX2_doOver cX2_doOver 1 ({ frames := 2, cells := 0, slots := 0, locals := 60 }) ci poH := by
  intro sz h0 ht hr kd zn lm d t
  obtain ⟨ch, le, co, dr, la⟩ := d
  refine mk_met (fun A => QI D (bi (poH lm (ch, le, co, dr, la) t).1) (wd ca h0 ht hr ci kd zn lm (poH lm (ch, le, co, dr, la) t).2.1 (poH lm (ch, le, co, dr, la) t).2.2) A) (by decide) (Nat.le_of_ble_eq_true rfl) ?_
  intro p e s m below meth c A ls C hrt hlocks hnm hsz hP hD hS hl
  obtain ⟨hx, hb, hml, hown, hk, hz, hlo, hA, hAl⟩ := id C
  have hK : va_K D cls (tyl ca) s := hk.2.1
  have hl : lv_has ls 1 [(0, .ref h0)] := hl
  have hP : va_P D cls ((h0, .inr (ci, [.ref ht, .int kd, .int zn, .int lm, .int ch, .int le, .int co, .int dr, .int (bi la)])) :: wt ca ht hr t) s.heap := hP
  have hD : va_D A ((h0, .inr (ci, [.ref ht, .int kd, .int zn, .int lm, .int ch, .int le, .int co, .int dr, .int (bi la)])) :: wt ca ht hr t) := hD
  refine lv_aload_n hx hb dX2_doOver_0 rfl (lv_at hl 0 rfl) ?_
  refine va_get (D := D) (C := Cn) (T := TX3) (N := 9) hx hb (hd.2 _ _ hk.1) (fun _ h9 => h9) hown hK hP 0 rfl hd.1 0 (by decide) (fl_X2_9 hk.1 _) (fun x9 h9 => u_same (sf_X2_trace hk.1 #[]) x9 h9) rfl dX2_doOver_1 ?_
  refine lv_iconst (v := 2) hx hb dX2_doOver_4 (by decide) ?_
  refine lv_iconst (v := 4) hx hb dX2_doOver_5 (by decide) ?_
  refine cb_begin C (ml_X2_15 hk.1 _) hP hD hS hl.1 ⟨by decide, by decide⟩ (Nat.le_of_ble_eq_true rfl) dX2_doOver_6 ⟨by decide, by decide⟩ (fun H locs hP hD hS => ?_)
  have hP : va_P D cls ((h0, .inr (ci, [.ref ht, .int kd, .int zn, .int lm, .int ch, .int le, .int co, .int dr, .int (bi la)])) :: wt ca ht hr (tb 2 4 t)) H := hP
  have hD : va_D A ((h0, .inr (ci, [.ref ht, .int kd, .int zn, .int lm, .int ch, .int le, .int co, .int dr, .int (bi la)])) :: wt ca ht hr (tb 2 4 t)) := hD
  refine lv_aload_n hx hb dX2_doOver_9 rfl (lv_at hl 0 rfl) ?_
  refine kOS (x := ⟨"AlarmKinds$Radio", "doOver", "()Z"⟩) (d := (ch, le, co, dr, la)) (t := tb 2 4 t) hd C (oP l D ca sa lo hd) ⟨fun U A9 h => co_X3_doOver h A9, fun U A9 h => in_X3 h A9, ml_X2_29 hk.1 _, sm_X4_X3_doOver hk.1 _, su_X2 hk.1 _, up_4 hk, im_X3_doOver hk.1 _, by decide +kernel, ⟨⟨rfl, rfl⟩, by decide, by decide⟩, by decide, by decide⟩ hP hD hS hl.1 (Nat.le_of_ble_eq_true rfl) dX2_doOver_10 (fun H locs hP hD hS => ?_)
  have hP : va_P D cls ((h0, .inr (ci, [.ref ht, .int kd, .int zn, .int lm, .int ch, .int le, .int co, .int dr, .int (bi la)])) :: wt ca ht hr (tb 2 0 (tb 2 4 t))) H := hP
  have hD : va_D A ((h0, .inr (ci, [.ref ht, .int kd, .int zn, .int lm, .int ch, .int le, .int co, .int dr, .int (bi la)])) :: wt ca ht hr (tb 2 0 (tb 2 4 t))) := hD
  refine lv_if_eq (tgt := 28) hx hb dX2_doOver_13 (by decide) (fun c_1 => ?_) (fun c_1 => ?_)
  · refine lv_iconst (v := 0) hx hb dX2_doOver_28 (by decide) ?_
    exact rz C hrt hlocks (by show _ = bi (decide (lm ≤ le) && decide (3 ≤ co)); rw [bi_eq0 (b := decide (lm ≤ le)) c_1]; rfl) hP hS dX2_doOver_29
  · refine lv_aload_n hx hb dX2_doOver_16 rfl (lv_at hl 0 rfl) ?_
    refine va_get (D := D) (C := Cn) (T := TX3) (N := 9) hx hb (hd.2 _ _ hk.1) (fun _ h9 => h9) hown hK hP 0 rfl hd.1 6 (by decide) (fl_X2_33 hk.1 _) (fun x9 h9 => u_same (sf_X2_count hk.1 #[]) x9 h9) rfl dX2_doOver_17 ?_
    refine lv_iconst (v := 3) hx hb dX2_doOver_20 (by decide) ?_
    refine lv_icmp_lt (tgt := 28) hx hb dX2_doOver_21 (by decide) (fun c_2 => ?_) (fun c_2 => ?_)
    · refine lv_iconst (v := 0) hx hb dX2_doOver_28 (by decide) ?_
      exact rz C hrt hlocks (by show _ = bi (decide (lm ≤ le) && decide (3 ≤ co)); rw [bi_ne0 (b := decide (lm ≤ le)) c_1, decide_eq_false (fun h9 => absurd c_2 (Int32.not_lt.mpr h9))]; rfl) hP hS dX2_doOver_29
    · refine lv_iconst (v := 1) hx hb dX2_doOver_24 (by decide) ?_
      refine lv_goto (tgt := 29) hx hb dX2_doOver_25 (by decide) ?_
      exact rz C hrt hlocks (by show _ = bi (decide (lm ≤ le) && decide (3 ≤ co)); rw [bi_ne0 (b := decide (lm ≤ le)) c_1, decide_eq_true (Int32.not_lt.mp c_2)]; rfl) hP hS dX2_doOver_29

set_option maxHeartbeats 4000000 in
set_option maxRecDepth 100000 in
theorem oF (l : Launch) (D : va_G) (ca : Nat → ClassId) (sa : Nat → Nat) (lo : Nat) {ci : Nat} {Cn : String} (hd : isD ci Cn) : cO l D ca sa lo yX1_doOver cX1_doOver 1 ({ frames := 2, cells := 0, slots := 0, locals := 60 }) ci poF := by
  intro sz h0 ht hr kd zn lm d t
  obtain ⟨ch, le, co, dr, la⟩ := d
  generalize hr9 : poF lm (ch, le, co, dr, la) t = r
  refine mk_met (fun A => QI D (bi r.1) (wd ca h0 ht hr ci kd zn lm r.2.1 r.2.2) A) (by decide) (Nat.le_of_ble_eq_true rfl) ?_
  intro p e s m below meth c A ls C hrt hlocks hnm hsz hP hD hS hl
  obtain ⟨hx, hb, hml, hown, hk, hz, hlo, hA, hAl⟩ := id C
  have hK : va_K D cls (tyl ca) s := hk.2.1
  have hl : lv_has ls 1 [(0, .ref h0)] := hl
  have hP : va_P D cls ((h0, .inr (ci, [.ref ht, .int kd, .int zn, .int lm, .int ch, .int le, .int co, .int dr, .int (bi la)])) :: wt ca ht hr t) s.heap := hP
  have hD : va_D A ((h0, .inr (ci, [.ref ht, .int kd, .int zn, .int lm, .int ch, .int le, .int co, .int dr, .int (bi la)])) :: wt ca ht hr t) := hD
  refine lv_aload_n hx hb dX1_doOver_0 rfl (lv_at hl 0 rfl) ?_
  refine va_get (D := D) (C := Cn) (T := TX3) (N := 9) hx hb (hd.2 _ _ hk.1) (fun _ h9 => h9) hown hK hP 0 rfl hd.1 0 (by decide) (fl_X1_9 hk.1 _) (fun x9 h9 => u_same (sf_X1_trace hk.1 #[]) x9 h9) rfl dX1_doOver_1 ?_
  refine lv_iconst (v := 2) hx hb dX1_doOver_4 (by decide) ?_
  refine lv_bipush (v := 6) hx hb dX1_doOver_5 (by decide) ?_
  refine cb_begin C (ml_X1_15 hk.1 _) hP hD hS hl.1 ⟨by decide, by decide⟩ (Nat.le_of_ble_eq_true rfl) dX1_doOver_7 ⟨by decide, by decide⟩ (fun H locs hP hD hS => ?_)
  have hP : va_P D cls ((h0, .inr (ci, [.ref ht, .int kd, .int zn, .int lm, .int ch, .int le, .int co, .int dr, .int (bi la)])) :: wt ca ht hr (tb 2 6 t)) H := hP
  have hD : va_D A ((h0, .inr (ci, [.ref ht, .int kd, .int zn, .int lm, .int ch, .int le, .int co, .int dr, .int (bi la)])) :: wt ca ht hr (tb 2 6 t)) := hD
  refine lv_aload_n hx hb dX1_doOver_10 rfl (lv_at hl 0 rfl) ?_
  refine va_get (D := D) (C := Cn) (T := TX3) (N := 9) hx hb (hd.2 _ _ hk.1) (fun _ h9 => h9) hown hK hP 0 rfl hd.1 8 (by decide) (fl_X1_21 hk.1 _) (fun x9 h9 => u_same (sf_X1_latched hk.1 #[]) x9 h9) rfl dX1_doOver_11 ?_
  refine lv_if_ne (tgt := 25) hx hb dX1_doOver_14 (by decide) (fun c_1 => ?_) (fun c_1 => ?_)
  · obtain rfl : la = true := bi_ne0 c_1
    have hr9 : r = (true, (ch, le, co, dr, true), tb 2 6 t) := by rw [← hr9]; rfl
    subst hr9
    refine lv_aload_n hx hb dX1_doOver_25 rfl (lv_at hl 0 rfl) ?_
    refine va_get (D := D) (C := Cn) (T := TX3) (N := 9) hx hb (hd.2 _ _ hk.1) (fun _ h9 => h9) hown hK hP 0 rfl hd.1 8 (by decide) (fl_X1_21 hk.1 _) (fun x9 h9 => u_same (sf_X1_latched hk.1 #[]) x9 h9) rfl dX1_doOver_26 ?_
    exact rz C hrt hlocks rfl hP hS dX1_doOver_29
  · obtain rfl : la = false := bi_eq0 c_1
    have hr9 : r = (decide (lm ≤ le), (ch, le, co, dr, decide (lm ≤ le)), tb 2 0 (tb 2 6 t)) := by rw [← hr9]; rfl
    subst hr9
    refine lv_aload_n hx hb dX1_doOver_17 rfl (lv_at hl 0 rfl) ?_
    refine lv_aload_n hx hb dX1_doOver_18 rfl (lv_at hl 0 rfl) ?_
    refine kOS (x := ⟨"AlarmKinds$Wired", "doOver", "()Z"⟩) (d := (ch, le, co, dr, false)) (t := tb 2 6 t) hd C (oP l D ca sa lo hd) ⟨fun U A9 h => co_X3_doOver h A9, fun U A9 h => in_X3 h A9, ml_X1_25 hk.1 _, sm_X8_X3_doOver hk.1 _, su_X1 hk.1 _, up_84 hk, im_X3_doOver hk.1 _, by decide +kernel, ⟨⟨rfl, rfl⟩, by decide, by decide⟩, by decide, by decide⟩ hP hD hS hl.1 (Nat.le_of_ble_eq_true rfl) dX1_doOver_19 (fun H locs hP hD hS => ?_)
    have hP : va_P D cls ((h0, .inr (ci, [.ref ht, .int kd, .int zn, .int lm, .int ch, .int le, .int co, .int dr, .int (bi false)])) :: wt ca ht hr (tb 2 0 (tb 2 6 t))) H := hP
    have hD : va_D A ((h0, .inr (ci, [.ref ht, .int kd, .int zn, .int lm, .int ch, .int le, .int co, .int dr, .int (bi false)])) :: wt ca ht hr (tb 2 0 (tb 2 6 t))) := hD
    refine va_put (D := D) (v := .int (bi (decide (lm ≤ le)))) (ty := .boolean) (C := Cn) (T := TX3) (N := 9) hx hb (hd.2 _ _ hk.1) (fun _ h9 => h9) tyX3 tyX3_ok nmX3 hown hK hP hD hS 0 rfl hd.1 8 (by decide) (fl_X1_21 hk.1 _) (fun x9 h9 => u_same (sf_X1_latched hk.1 #[]) x9 h9) rfl (by decide +kernel) (nar_b _) (fit_b _) (Nat.le_of_ble_eq_true rfl) dX1_doOver_22 (fun H locs hP hD hS => ?_)
    have hP : va_P D cls ((h0, .inr (ci, [.ref ht, .int kd, .int zn, .int lm, .int ch, .int le, .int co, .int dr, .int (bi (decide (lm ≤ le)))])) :: wt ca ht hr (tb 2 0 (tb 2 6 t))) H := hP
    have hD : va_D A ((h0, .inr (ci, [.ref ht, .int kd, .int zn, .int lm, .int ch, .int le, .int co, .int dr, .int (bi (decide (lm ≤ le)))])) :: wt ca ht hr (tb 2 0 (tb 2 6 t))) := hD
    refine lv_aload_n hx hb dX1_doOver_25 rfl (lv_at hl 0 rfl) ?_
    refine va_get (D := D) (C := Cn) (T := TX3) (N := 9) hx hb (hd.2 _ _ hk.1) (fun _ h9 => h9) hown hK hP 0 rfl hd.1 8 (by decide) (fl_X1_21 hk.1 _) (fun x9 h9 => u_same (sf_X1_latched hk.1 #[]) x9 h9) rfl dX1_doOver_26 ?_
    exact rz C hrt hlocks rfl hP hS dX1_doOver_29

set_option maxHeartbeats 4000000 in
set_option maxRecDepth 100000 in
theorem cP (l : Launch) (D : va_G) (ca : Nat → ClassId) (sa : Nat → Nat) (lo : Nat) {ci : Nat} {Cn : String} (hd : isD ci Cn) : cC l D ca sa lo yX3_doClear cX3_doClear 1 ({ frames := 1, cells := 0, slots := 0, locals := 30 }) ci pcP := by
  intro sz h0 ht hr kd zn lm d t
  obtain ⟨ch, le, co, dr, la⟩ := d
  refine mk_met (fun A => QV D (wd ca h0 ht hr ci kd zn lm (pcP (ch, le, co, dr, la) t).1 (pcP (ch, le, co, dr, la) t).2) A) (by decide) (Nat.le_of_ble_eq_true rfl) ?_
  intro p e s m below meth c A ls C hrt hlocks hnm hsz hP hD hS hl
  obtain ⟨hx, hb, hml, hown, hk, hz, hlo, hA, hAl⟩ := id C
  have hK : va_K D cls (tyl ca) s := hk.2.1
  have hl : lv_has ls 1 [(0, .ref h0)] := hl
  have hP : va_P D cls ((h0, .inr (ci, [.ref ht, .int kd, .int zn, .int lm, .int ch, .int le, .int co, .int dr, .int (bi la)])) :: wt ca ht hr t) s.heap := hP
  have hD : va_D A ((h0, .inr (ci, [.ref ht, .int kd, .int zn, .int lm, .int ch, .int le, .int co, .int dr, .int (bi la)])) :: wt ca ht hr t) := hD
  refine lv_aload_n hx hb dX3_doClear_0 rfl (lv_at hl 0 rfl) ?_
  refine va_get (D := D) (C := Cn) (T := TX3) (N := 9) hx hb (hd.2 _ _ hk.1) (fun _ h9 => h9) hown hK hP 0 rfl hd.1 0 (by decide) (fl_X3_9 hk.1 _) (fun _ h9 => h9) rfl dX3_doClear_1 ?_
  refine lv_iconst (v := 3) hx hb dX3_doClear_4 (by decide) ?_
  refine lv_iconst (v := 0) hx hb dX3_doClear_5 (by decide) ?_
  refine cb_begin C (ml_X3_28 hk.1 _) hP hD hS hl.1 ⟨by decide, by decide⟩ (Nat.le_of_ble_eq_true rfl) dX3_doClear_6 ⟨by decide, by decide⟩ (fun H locs hP hD hS => ?_)
  have hP : va_P D cls ((h0, .inr (ci, [.ref ht, .int kd, .int zn, .int lm, .int ch, .int le, .int co, .int dr, .int (bi la)])) :: wt ca ht hr (tb 3 0 t)) H := hP
  have hD : va_D A ((h0, .inr (ci, [.ref ht, .int kd, .int zn, .int lm, .int ch, .int le, .int co, .int dr, .int (bi la)])) :: wt ca ht hr (tb 3 0 t)) := hD
  refine lv_aload_n hx hb dX3_doClear_9 rfl (lv_at hl 0 rfl) ?_
  refine lv_iconst (v := 0) hx hb dX3_doClear_10 (by decide) ?_
  refine va_put (D := D) (v := .int 0) (ty := .int) (C := Cn) (T := TX3) (N := 9) hx hb (hd.2 _ _ hk.1) (fun _ h9 => h9) tyX3 tyX3_ok nmX3 hown hK hP hD hS 0 rfl hd.1 5 (by decide) (fl_X3_38 hk.1 _) (fun _ h9 => h9) rfl (by decide +kernel) rfl rfl (Nat.le_of_ble_eq_true rfl) dX3_doClear_11 (fun H locs hP hD hS => ?_)
  have hP : va_P D cls ((h0, .inr (ci, [.ref ht, .int kd, .int zn, .int lm, .int ch, .int 0, .int co, .int dr, .int (bi la)])) :: wt ca ht hr (tb 3 0 t)) H := hP
  have hD : va_D A ((h0, .inr (ci, [.ref ht, .int kd, .int zn, .int lm, .int ch, .int 0, .int co, .int dr, .int (bi la)])) :: wt ca ht hr (tb 3 0 t)) := hD
  refine lv_aload_n hx hb dX3_doClear_14 rfl (lv_at hl 0 rfl) ?_
  refine lv_iconst (v := 0) hx hb dX3_doClear_15 (by decide) ?_
  refine va_put (D := D) (v := .int 0) (ty := .int) (C := Cn) (T := TX3) (N := 9) hx hb (hd.2 _ _ hk.1) (fun _ h9 => h9) tyX3 tyX3_ok nmX3 hown hK hP hD hS 0 rfl hd.1 6 (by decide) (fl_X3_41 hk.1 _) (fun _ h9 => h9) rfl (by decide +kernel) rfl rfl (Nat.le_of_ble_eq_true rfl) dX3_doClear_16 (fun H locs hP hD hS => ?_)
  have hP : va_P D cls ((h0, .inr (ci, [.ref ht, .int kd, .int zn, .int lm, .int ch, .int 0, .int 0, .int dr, .int (bi la)])) :: wt ca ht hr (tb 3 0 t)) H := hP
  have hD : va_D A ((h0, .inr (ci, [.ref ht, .int kd, .int zn, .int lm, .int ch, .int 0, .int 0, .int dr, .int (bi la)])) :: wt ca ht hr (tb 3 0 t)) := hD
  exact rv C hrt hlocks hP hS dX3_doClear_19

set_option maxHeartbeats 4000000 in
set_option maxRecDepth 100000 in
theorem cB (l : Launch) (D : va_G) (ca : Nat → ClassId) (sa : Nat → Nat) (lo : Nat) {ci : Nat} {Cn : String} (hd : isD ci Cn) : cC l D ca sa lo yX0_doClear cX0_doClear 1 ({ frames := 2, cells := 0, slots := 0, locals := 60 }) ci pcB := by
  intro sz h0 ht hr kd zn lm d t
  obtain ⟨ch, le, co, dr, la⟩ := d
  refine mk_met (fun A => QV D (wd ca h0 ht hr ci kd zn lm (pcB (ch, le, co, dr, la) t).1 (pcB (ch, le, co, dr, la) t).2) A) (by decide) (Nat.le_of_ble_eq_true rfl) ?_
  intro p e s m below meth c A ls C hrt hlocks hnm hsz hP hD hS hl
  obtain ⟨hx, hb, hml, hown, hk, hz, hlo, hA, hAl⟩ := id C
  have hK : va_K D cls (tyl ca) s := hk.2.1
  have hl : lv_has ls 1 [(0, .ref h0)] := hl
  have hP : va_P D cls ((h0, .inr (ci, [.ref ht, .int kd, .int zn, .int lm, .int ch, .int le, .int co, .int dr, .int (bi la)])) :: wt ca ht hr t) s.heap := hP
  have hD : va_D A ((h0, .inr (ci, [.ref ht, .int kd, .int zn, .int lm, .int ch, .int le, .int co, .int dr, .int (bi la)])) :: wt ca ht hr t) := hD
  refine lv_aload_n hx hb dX0_doClear_0 rfl (lv_at hl 0 rfl) ?_
  refine va_get (D := D) (C := Cn) (T := TX3) (N := 9) hx hb (hd.2 _ _ hk.1) (fun _ h9 => h9) hown hK hP 0 rfl hd.1 0 (by decide) (fl_X0_9 hk.1 _) (fun x9 h9 => u_same (sf_X0_trace hk.1 #[]) x9 h9) rfl dX0_doClear_1 ?_
  refine lv_iconst (v := 3) hx hb dX0_doClear_4 (by decide) ?_
  refine lv_iconst (v := 5) hx hb dX0_doClear_5 (by decide) ?_
  refine cb_begin C (ml_X0_15 hk.1 _) hP hD hS hl.1 ⟨by decide, by decide⟩ (Nat.le_of_ble_eq_true rfl) dX0_doClear_6 ⟨by decide, by decide⟩ (fun H locs hP hD hS => ?_)
  have hP : va_P D cls ((h0, .inr (ci, [.ref ht, .int kd, .int zn, .int lm, .int ch, .int le, .int co, .int dr, .int (bi la)])) :: wt ca ht hr (tb 3 5 t)) H := hP
  have hD : va_D A ((h0, .inr (ci, [.ref ht, .int kd, .int zn, .int lm, .int ch, .int le, .int co, .int dr, .int (bi la)])) :: wt ca ht hr (tb 3 5 t)) := hD
  refine lv_aload_n hx hb dX0_doClear_9 rfl (lv_at hl 0 rfl) ?_
  refine kCS (x := ⟨"AlarmKinds$Radio", "doClear", "()V"⟩) (d := (ch, le, co, dr, la)) (t := tb 3 5 t) hd C (cP l D ca sa lo hd) ⟨fun U A9 h => co_X3_doClear h A9, fun U A9 h => in_X3 h A9, ml_X0_36 hk.1 _, sm_X4_X3_doClear hk.1 _, su_X0 hk.1 _, up_4 hk, im_X3_doClear hk.1 _, by decide +kernel, ⟨⟨rfl, rfl⟩, by decide, by decide⟩, by decide, by decide⟩ hP hD hS hl.1 (Nat.le_of_ble_eq_true rfl) dX0_doClear_10 (fun H locs hP hD hS => ?_)
  have hP : va_P D cls ((h0, .inr (ci, [.ref ht, .int kd, .int zn, .int lm, .int ch, .int 0, .int 0, .int dr, .int (bi la)])) :: wt ca ht hr (tb 3 0 (tb 3 5 t))) H := hP
  have hD : va_D A ((h0, .inr (ci, [.ref ht, .int kd, .int zn, .int lm, .int ch, .int 0, .int 0, .int dr, .int (bi la)])) :: wt ca ht hr (tb 3 0 (tb 3 5 t))) := hD
  refine lv_aload_n hx hb dX0_doClear_13 rfl (lv_at hl 0 rfl) ?_
  refine lv_dup hx hb dX0_doClear_14 rfl ?_
  refine va_get (D := D) (C := Cn) (T := TX3) (N := 9) hx hb (hd.2 _ _ hk.1) (fun _ h9 => h9) hown hK hP 0 rfl hd.1 4 (by decide) (fl_X0_40 hk.1 _) (fun x9 h9 => u_same (sf_X0_charge hk.1 #[]) x9 h9) rfl dX0_doClear_15 ?_
  refine lv_iconst (v := 1) hx hb dX0_doClear_18 (by decide) ?_
  refine lv_iadd hx hb dX0_doClear_19 ?_
  refine va_put (D := D) (v := .int (ch + 1)) (ty := .int) (C := Cn) (T := TX3) (N := 9) hx hb (hd.2 _ _ hk.1) (fun _ h9 => h9) tyX3 tyX3_ok nmX3 hown hK hP hD hS 0 rfl hd.1 4 (by decide) (fl_X0_40 hk.1 _) (fun x9 h9 => u_same (sf_X0_charge hk.1 #[]) x9 h9) rfl (by decide +kernel) rfl rfl (Nat.le_of_ble_eq_true rfl) dX0_doClear_20 (fun H locs hP hD hS => ?_)
  have hP : va_P D cls ((h0, .inr (ci, [.ref ht, .int kd, .int zn, .int lm, .int (ch + 1), .int 0, .int 0, .int dr, .int (bi la)])) :: wt ca ht hr (tb 3 0 (tb 3 5 t))) H := hP
  have hD : va_D A ((h0, .inr (ci, [.ref ht, .int kd, .int zn, .int lm, .int (ch + 1), .int 0, .int 0, .int dr, .int (bi la)])) :: wt ca ht hr (tb 3 0 (tb 3 5 t))) := hD
  exact rv C hrt hlocks hP hS dX0_doClear_23

set_option maxHeartbeats 4000000 in
set_option maxRecDepth 100000 in
theorem cF (l : Launch) (D : va_G) (ca : Nat → ClassId) (sa : Nat → Nat) (lo : Nat) {ci : Nat} {Cn : String} (hd : isD ci Cn) : cC l D ca sa lo yX1_doClear cX1_doClear 1 ({ frames := 2, cells := 0, slots := 0, locals := 60 }) ci pcF := by
  intro sz h0 ht hr kd zn lm d t
  obtain ⟨ch, le, co, dr, la⟩ := d
  refine mk_met (fun A => QV D (wd ca h0 ht hr ci kd zn lm (pcF (ch, le, co, dr, la) t).1 (pcF (ch, le, co, dr, la) t).2) A) (by decide) (Nat.le_of_ble_eq_true rfl) ?_
  intro p e s m below meth c A ls C hrt hlocks hnm hsz hP hD hS hl
  obtain ⟨hx, hb, hml, hown, hk, hz, hlo, hA, hAl⟩ := id C
  have hK : va_K D cls (tyl ca) s := hk.2.1
  have hl : lv_has ls 1 [(0, .ref h0)] := hl
  have hP : va_P D cls ((h0, .inr (ci, [.ref ht, .int kd, .int zn, .int lm, .int ch, .int le, .int co, .int dr, .int (bi la)])) :: wt ca ht hr t) s.heap := hP
  have hD : va_D A ((h0, .inr (ci, [.ref ht, .int kd, .int zn, .int lm, .int ch, .int le, .int co, .int dr, .int (bi la)])) :: wt ca ht hr t) := hD
  refine lv_aload_n hx hb dX1_doClear_0 rfl (lv_at hl 0 rfl) ?_
  refine va_get (D := D) (C := Cn) (T := TX3) (N := 9) hx hb (hd.2 _ _ hk.1) (fun _ h9 => h9) hown hK hP 0 rfl hd.1 0 (by decide) (fl_X1_9 hk.1 _) (fun x9 h9 => u_same (sf_X1_trace hk.1 #[]) x9 h9) rfl dX1_doClear_1 ?_
  refine lv_iconst (v := 3) hx hb dX1_doClear_4 (by decide) ?_
  refine lv_bipush (v := 6) hx hb dX1_doClear_5 (by decide) ?_
  refine cb_begin C (ml_X1_15 hk.1 _) hP hD hS hl.1 ⟨by decide, by decide⟩ (Nat.le_of_ble_eq_true rfl) dX1_doClear_7 ⟨by decide, by decide⟩ (fun H locs hP hD hS => ?_)
  have hP : va_P D cls ((h0, .inr (ci, [.ref ht, .int kd, .int zn, .int lm, .int ch, .int le, .int co, .int dr, .int (bi la)])) :: wt ca ht hr (tb 3 6 t)) H := hP
  have hD : va_D A ((h0, .inr (ci, [.ref ht, .int kd, .int zn, .int lm, .int ch, .int le, .int co, .int dr, .int (bi la)])) :: wt ca ht hr (tb 3 6 t)) := hD
  refine lv_aload_n hx hb dX1_doClear_10 rfl (lv_at hl 0 rfl) ?_
  refine kCS (x := ⟨"AlarmKinds$Wired", "doClear", "()V"⟩) (d := (ch, le, co, dr, la)) (t := tb 3 6 t) hd C (cP l D ca sa lo hd) ⟨fun U A9 h => co_X3_doClear h A9, fun U A9 h => in_X3 h A9, ml_X1_29 hk.1 _, sm_X8_X3_doClear hk.1 _, su_X1 hk.1 _, up_84 hk, im_X3_doClear hk.1 _, by decide +kernel, ⟨⟨rfl, rfl⟩, by decide, by decide⟩, by decide, by decide⟩ hP hD hS hl.1 (Nat.le_of_ble_eq_true rfl) dX1_doClear_11 (fun H locs hP hD hS => ?_)
  have hP : va_P D cls ((h0, .inr (ci, [.ref ht, .int kd, .int zn, .int lm, .int ch, .int 0, .int 0, .int dr, .int (bi la)])) :: wt ca ht hr (tb 3 0 (tb 3 6 t))) H := hP
  have hD : va_D A ((h0, .inr (ci, [.ref ht, .int kd, .int zn, .int lm, .int ch, .int 0, .int 0, .int dr, .int (bi la)])) :: wt ca ht hr (tb 3 0 (tb 3 6 t))) := hD
  refine lv_aload_n hx hb dX1_doClear_14 rfl (lv_at hl 0 rfl) ?_
  refine lv_iconst (v := 0) hx hb dX1_doClear_15 (by decide) ?_
  refine va_put (D := D) (v := .int 0) (ty := .boolean) (C := Cn) (T := TX3) (N := 9) hx hb (hd.2 _ _ hk.1) (fun _ h9 => h9) tyX3 tyX3_ok nmX3 hown hK hP hD hS 0 rfl hd.1 8 (by decide) (fl_X1_21 hk.1 _) (fun x9 h9 => u_same (sf_X1_latched hk.1 #[]) x9 h9) rfl (by decide +kernel) rfl rfl (Nat.le_of_ble_eq_true rfl) dX1_doClear_16 (fun H locs hP hD hS => ?_)
  have hP : va_P D cls ((h0, .inr (ci, [.ref ht, .int kd, .int zn, .int lm, .int ch, .int 0, .int 0, .int dr, .int 0])) :: wt ca ht hr (tb 3 0 (tb 3 6 t))) H := hP
  have hD : va_D A ((h0, .inr (ci, [.ref ht, .int kd, .int zn, .int lm, .int ch, .int 0, .int 0, .int dr, .int 0])) :: wt ca ht hr (tb 3 0 (tb 3 6 t))) := hD
  exact rv C hrt hlocks hP hS dX1_doClear_19

set_option maxHeartbeats 4000000 in
set_option maxRecDepth 100000 in
theorem cT (l : Launch) (D : va_G) (ca : Nat → ClassId) (sa : Nat → Nat) (lo : Nat) {ci : Nat} {Cn : String} (hd : isD ci Cn) : cC l D ca sa lo yX7_doClear cX7_doClear 1 ({ frames := 2, cells := 0, slots := 0, locals := 60 }) ci pcT := by
  intro sz h0 ht hr kd zn lm d t
  obtain ⟨ch, le, co, dr, la⟩ := d
  refine mk_met (fun A => QV D (wd ca h0 ht hr ci kd zn lm (pcT (ch, le, co, dr, la) t).1 (pcT (ch, le, co, dr, la) t).2) A) (by decide) (Nat.le_of_ble_eq_true rfl) ?_
  intro p e s m below meth c A ls C hrt hlocks hnm hsz hP hD hS hl
  obtain ⟨hx, hb, hml, hown, hk, hz, hlo, hA, hAl⟩ := id C
  have hK : va_K D cls (tyl ca) s := hk.2.1
  have hl : lv_has ls 1 [(0, .ref h0)] := hl
  have hP : va_P D cls ((h0, .inr (ci, [.ref ht, .int kd, .int zn, .int lm, .int ch, .int le, .int co, .int dr, .int (bi la)])) :: wt ca ht hr t) s.heap := hP
  have hD : va_D A ((h0, .inr (ci, [.ref ht, .int kd, .int zn, .int lm, .int ch, .int le, .int co, .int dr, .int (bi la)])) :: wt ca ht hr t) := hD
  refine lv_aload_n hx hb dX7_doClear_0 rfl (lv_at hl 0 rfl) ?_
  refine va_get (D := D) (C := Cn) (T := TX3) (N := 9) hx hb (hd.2 _ _ hk.1) (fun _ h9 => h9) hown hK hP 0 rfl hd.1 0 (by decide) (fl_X7_9 hk.1 _) (fun x9 h9 => u_same (sf_X7_trace hk.1 #[]) x9 h9) rfl dX7_doClear_1 ?_
  refine lv_iconst (v := 3) hx hb dX7_doClear_4 (by decide) ?_
  refine lv_bipush (v := 7) hx hb dX7_doClear_5 (by decide) ?_
  refine cb_begin C (ml_X7_15 hk.1 _) hP hD hS hl.1 ⟨by decide, by decide⟩ (Nat.le_of_ble_eq_true rfl) dX7_doClear_7 ⟨by decide, by decide⟩ (fun H locs hP hD hS => ?_)
  have hP : va_P D cls ((h0, .inr (ci, [.ref ht, .int kd, .int zn, .int lm, .int ch, .int le, .int co, .int dr, .int (bi la)])) :: wt ca ht hr (tb 3 7 t)) H := hP
  have hD : va_D A ((h0, .inr (ci, [.ref ht, .int kd, .int zn, .int lm, .int ch, .int le, .int co, .int dr, .int (bi la)])) :: wt ca ht hr (tb 3 7 t)) := hD
  refine lv_aload_n hx hb dX7_doClear_10 rfl (lv_at hl 0 rfl) ?_
  refine kCS (x := ⟨"AlarmKinds$Smoke", "doClear", "()V"⟩) (d := (ch, le, co, dr, la)) (t := tb 3 7 t) hd C (cP l D ca sa lo hd) ⟨fun U A9 h => co_X3_doClear h A9, fun U A9 h => in_X3 h A9, ml_X7_25 hk.1 _, sm_X5_X3_doClear hk.1 _, su_X7 hk.1 _, up_5 hk, im_X3_doClear hk.1 _, by decide +kernel, ⟨⟨rfl, rfl⟩, by decide, by decide⟩, by decide, by decide⟩ hP hD hS hl.1 (Nat.le_of_ble_eq_true rfl) dX7_doClear_11 (fun H locs hP hD hS => ?_)
  have hP : va_P D cls ((h0, .inr (ci, [.ref ht, .int kd, .int zn, .int lm, .int ch, .int 0, .int 0, .int dr, .int (bi la)])) :: wt ca ht hr (tb 3 0 (tb 3 7 t))) H := hP
  have hD : va_D A ((h0, .inr (ci, [.ref ht, .int kd, .int zn, .int lm, .int ch, .int 0, .int 0, .int dr, .int (bi la)])) :: wt ca ht hr (tb 3 0 (tb 3 7 t))) := hD
  refine lv_aload_n hx hb dX7_doClear_14 rfl (lv_at hl 0 rfl) ?_
  refine lv_iconst (v := 0) hx hb dX7_doClear_15 (by decide) ?_
  refine va_put (D := D) (v := .int 0) (ty := .int) (C := Cn) (T := TX3) (N := 9) hx hb (hd.2 _ _ hk.1) (fun _ h9 => h9) tyX3 tyX3_ok nmX3 hown hK hP hD hS 0 rfl hd.1 7 (by decide) (fl_X7_29 hk.1 _) (fun x9 h9 => u_same (sf_X7_drift hk.1 #[]) x9 h9) rfl (by decide +kernel) rfl rfl (Nat.le_of_ble_eq_true rfl) dX7_doClear_16 (fun H locs hP hD hS => ?_)
  have hP : va_P D cls ((h0, .inr (ci, [.ref ht, .int kd, .int zn, .int lm, .int ch, .int 0, .int 0, .int 0, .int (bi la)])) :: wt ca ht hr (tb 3 0 (tb 3 7 t))) H := hP
  have hD : va_D A ((h0, .inr (ci, [.ref ht, .int kd, .int zn, .int lm, .int ch, .int 0, .int 0, .int 0, .int (bi la)])) :: wt ca ht hr (tb 3 0 (tb 3 7 t))) := hD
  exact rv C hrt hlocks hP hS dX7_doClear_19

set_option maxHeartbeats 4000000 in
set_option maxRecDepth 100000 in
theorem kP (l : Launch) (D : va_G) (ca : Nat → ClassId) (sa : Nat → Nat) (lo : Nat) {ci : Nat} {Cn : String} (hd : isD ci Cn) : cK l D ca sa lo yX3_doCost cX3_doCost 1 ({ frames := 1, cells := 0, slots := 0, locals := 30 }) ci pkP := by
  intro sz h0 ht hr kd zn lm d t
  obtain ⟨ch, le, co, dr, la⟩ := d
  refine mk_met (fun A => QI D (pkP (ch, le, co, dr, la) t).1 (wd ca h0 ht hr ci kd zn lm (ch, le, co, dr, la) (pkP (ch, le, co, dr, la) t).2) A) (by decide) (Nat.le_of_ble_eq_true rfl) ?_
  intro p e s m below meth c A ls C hrt hlocks hnm hsz hP hD hS hl
  obtain ⟨hx, hb, hml, hown, hk, hz, hlo, hA, hAl⟩ := id C
  have hK : va_K D cls (tyl ca) s := hk.2.1
  have hl : lv_has ls 1 [(0, .ref h0)] := hl
  have hP : va_P D cls ((h0, .inr (ci, [.ref ht, .int kd, .int zn, .int lm, .int ch, .int le, .int co, .int dr, .int (bi la)])) :: wt ca ht hr t) s.heap := hP
  have hD : va_D A ((h0, .inr (ci, [.ref ht, .int kd, .int zn, .int lm, .int ch, .int le, .int co, .int dr, .int (bi la)])) :: wt ca ht hr t) := hD
  refine lv_aload_n hx hb dX3_doCost_0 rfl (lv_at hl 0 rfl) ?_
  refine va_get (D := D) (C := Cn) (T := TX3) (N := 9) hx hb (hd.2 _ _ hk.1) (fun _ h9 => h9) hown hK hP 0 rfl hd.1 0 (by decide) (fl_X3_9 hk.1 _) (fun _ h9 => h9) rfl dX3_doCost_1 ?_
  refine lv_iconst (v := 4) hx hb dX3_doCost_4 (by decide) ?_
  refine lv_iconst (v := 0) hx hb dX3_doCost_5 (by decide) ?_
  refine cb_begin C (ml_X3_28 hk.1 _) hP hD hS hl.1 ⟨by decide, by decide⟩ (Nat.le_of_ble_eq_true rfl) dX3_doCost_6 ⟨by decide, by decide⟩ (fun H locs hP hD hS => ?_)
  have hP : va_P D cls ((h0, .inr (ci, [.ref ht, .int kd, .int zn, .int lm, .int ch, .int le, .int co, .int dr, .int (bi la)])) :: wt ca ht hr (tb 4 0 t)) H := hP
  have hD : va_D A ((h0, .inr (ci, [.ref ht, .int kd, .int zn, .int lm, .int ch, .int le, .int co, .int dr, .int (bi la)])) :: wt ca ht hr (tb 4 0 t)) := hD
  refine lv_bipush (v := 10) hx hb dX3_doCost_9 (by decide) ?_
  refine lv_aload_n hx hb dX3_doCost_11 rfl (lv_at hl 0 rfl) ?_
  refine va_get (D := D) (C := Cn) (T := TX3) (N := 9) hx hb (hd.2 _ _ hk.1) (fun _ h9 => h9) hown hK hP 0 rfl hd.1 6 (by decide) (fl_X3_41 hk.1 _) (fun _ h9 => h9) rfl dX3_doCost_12 ?_
  refine lv_iadd hx hb dX3_doCost_15 ?_
  exact ri C hrt hlocks rfl hP hS dX3_doCost_16

set_option maxHeartbeats 4000000 in
set_option maxRecDepth 100000 in
theorem kR (l : Launch) (D : va_G) (ca : Nat → ClassId) (sa : Nat → Nat) (lo : Nat) {ci : Nat} {Cn : String} (hd : isD ci Cn) : cK l D ca sa lo yX4_doCost cX4_doCost 1 ({ frames := 2, cells := 0, slots := 0, locals := 60 }) ci pkR := by
  intro sz h0 ht hr kd zn lm d t
  obtain ⟨ch, le, co, dr, la⟩ := d
  refine mk_met (fun A => QI D (pkR (ch, le, co, dr, la) t).1 (wd ca h0 ht hr ci kd zn lm (ch, le, co, dr, la) (pkR (ch, le, co, dr, la) t).2) A) (by decide) (Nat.le_of_ble_eq_true rfl) ?_
  intro p e s m below meth c A ls C hrt hlocks hnm hsz hP hD hS hl
  obtain ⟨hx, hb, hml, hown, hk, hz, hlo, hA, hAl⟩ := id C
  have hK : va_K D cls (tyl ca) s := hk.2.1
  have hl : lv_has ls 1 [(0, .ref h0)] := hl
  have hP : va_P D cls ((h0, .inr (ci, [.ref ht, .int kd, .int zn, .int lm, .int ch, .int le, .int co, .int dr, .int (bi la)])) :: wt ca ht hr t) s.heap := hP
  have hD : va_D A ((h0, .inr (ci, [.ref ht, .int kd, .int zn, .int lm, .int ch, .int le, .int co, .int dr, .int (bi la)])) :: wt ca ht hr t) := hD
  refine lv_aload_n hx hb dX4_doCost_0 rfl (lv_at hl 0 rfl) ?_
  refine va_get (D := D) (C := Cn) (T := TX3) (N := 9) hx hb (hd.2 _ _ hk.1) (fun _ h9 => h9) hown hK hP 0 rfl hd.1 0 (by decide) (fl_X4_9 hk.1 _) (fun x9 h9 => u_same (sf_X4_trace hk.1 #[]) x9 h9) rfl dX4_doCost_1 ?_
  refine lv_iconst (v := 4) hx hb dX4_doCost_4 (by decide) ?_
  refine lv_iconst (v := 2) hx hb dX4_doCost_5 (by decide) ?_
  refine cb_begin C (ml_X4_15 hk.1 _) hP hD hS hl.1 ⟨by decide, by decide⟩ (Nat.le_of_ble_eq_true rfl) dX4_doCost_6 ⟨by decide, by decide⟩ (fun H locs hP hD hS => ?_)
  have hP : va_P D cls ((h0, .inr (ci, [.ref ht, .int kd, .int zn, .int lm, .int ch, .int le, .int co, .int dr, .int (bi la)])) :: wt ca ht hr (tb 4 2 t)) H := hP
  have hD : va_D A ((h0, .inr (ci, [.ref ht, .int kd, .int zn, .int lm, .int ch, .int le, .int co, .int dr, .int (bi la)])) :: wt ca ht hr (tb 4 2 t)) := hD
  refine lv_iconst (v := 2) hx hb dX4_doCost_9 (by decide) ?_
  refine lv_aload_n hx hb dX4_doCost_10 rfl (lv_at hl 0 rfl) ?_
  refine kKS (x := ⟨"AlarmKinds$Wired", "doCost", "()I"⟩) (d := (ch, le, co, dr, la)) (t := tb 4 2 t) hd C (kP l D ca sa lo hd) ⟨fun U A9 h => co_X3_doCost h A9, fun U A9 h => in_X3 h A9, ml_X4_39 hk.1 _, sm_X8_X3_doCost hk.1 _, su_X4 hk.1 _, up_84 hk, im_X3_doCost hk.1 _, by decide +kernel, ⟨⟨rfl, rfl⟩, by decide, by decide⟩, by decide, by decide⟩ hP hD hS hl.1 (Nat.le_of_ble_eq_true rfl) dX4_doCost_11 (fun H locs hP hD hS => ?_)
  have hP : va_P D cls ((h0, .inr (ci, [.ref ht, .int kd, .int zn, .int lm, .int ch, .int le, .int co, .int dr, .int (bi la)])) :: wt ca ht hr (tb 4 0 (tb 4 2 t))) H := hP
  have hD : va_D A ((h0, .inr (ci, [.ref ht, .int kd, .int zn, .int lm, .int ch, .int le, .int co, .int dr, .int (bi la)])) :: wt ca ht hr (tb 4 0 (tb 4 2 t))) := hD
  refine lv_imul hx hb dX4_doCost_14 ?_
  exact ri C hrt hlocks rfl hP hS dX4_doCost_15

set_option maxHeartbeats 4000000 in
set_option maxRecDepth 100000 in
theorem kF (l : Launch) (D : va_G) (ca : Nat → ClassId) (sa : Nat → Nat) (lo : Nat) {ci : Nat} {Cn : String} (hd : isD ci Cn) : cK l D ca sa lo yX1_doCost cX1_doCost 1 ({ frames := 2, cells := 0, slots := 0, locals := 60 }) ci pkF := by
  intro sz h0 ht hr kd zn lm d t
  obtain ⟨ch, le, co, dr, la⟩ := d
  refine mk_met (fun A => QI D (pkF (ch, le, co, dr, la) t).1 (wd ca h0 ht hr ci kd zn lm (ch, le, co, dr, la) (pkF (ch, le, co, dr, la) t).2) A) (by decide) (Nat.le_of_ble_eq_true rfl) ?_
  intro p e s m below meth c A ls C hrt hlocks hnm hsz hP hD hS hl
  obtain ⟨hx, hb, hml, hown, hk, hz, hlo, hA, hAl⟩ := id C
  have hK : va_K D cls (tyl ca) s := hk.2.1
  have hl : lv_has ls 1 [(0, .ref h0)] := hl
  have hP : va_P D cls ((h0, .inr (ci, [.ref ht, .int kd, .int zn, .int lm, .int ch, .int le, .int co, .int dr, .int (bi la)])) :: wt ca ht hr t) s.heap := hP
  have hD : va_D A ((h0, .inr (ci, [.ref ht, .int kd, .int zn, .int lm, .int ch, .int le, .int co, .int dr, .int (bi la)])) :: wt ca ht hr t) := hD
  refine lv_aload_n hx hb dX1_doCost_0 rfl (lv_at hl 0 rfl) ?_
  refine va_get (D := D) (C := Cn) (T := TX3) (N := 9) hx hb (hd.2 _ _ hk.1) (fun _ h9 => h9) hown hK hP 0 rfl hd.1 0 (by decide) (fl_X1_9 hk.1 _) (fun x9 h9 => u_same (sf_X1_trace hk.1 #[]) x9 h9) rfl dX1_doCost_1 ?_
  refine lv_iconst (v := 4) hx hb dX1_doCost_4 (by decide) ?_
  refine lv_bipush (v := 6) hx hb dX1_doCost_5 (by decide) ?_
  refine cb_begin C (ml_X1_15 hk.1 _) hP hD hS hl.1 ⟨by decide, by decide⟩ (Nat.le_of_ble_eq_true rfl) dX1_doCost_7 ⟨by decide, by decide⟩ (fun H locs hP hD hS => ?_)
  have hP : va_P D cls ((h0, .inr (ci, [.ref ht, .int kd, .int zn, .int lm, .int ch, .int le, .int co, .int dr, .int (bi la)])) :: wt ca ht hr (tb 4 6 t)) H := hP
  have hD : va_D A ((h0, .inr (ci, [.ref ht, .int kd, .int zn, .int lm, .int ch, .int le, .int co, .int dr, .int (bi la)])) :: wt ca ht hr (tb 4 6 t)) := hD
  refine lv_iconst (v := 5) hx hb dX1_doCost_10 (by decide) ?_
  refine lv_aload_n hx hb dX1_doCost_11 rfl (lv_at hl 0 rfl) ?_
  refine kKS (x := ⟨"AlarmKinds$Wired", "doCost", "()I"⟩) (d := (ch, le, co, dr, la)) (t := tb 4 6 t) hd C (kP l D ca sa lo hd) ⟨fun U A9 h => co_X3_doCost h A9, fun U A9 h => in_X3 h A9, ml_X1_33 hk.1 _, sm_X8_X3_doCost hk.1 _, su_X1 hk.1 _, up_84 hk, im_X3_doCost hk.1 _, by decide +kernel, ⟨⟨rfl, rfl⟩, by decide, by decide⟩, by decide, by decide⟩ hP hD hS hl.1 (Nat.le_of_ble_eq_true rfl) dX1_doCost_12 (fun H locs hP hD hS => ?_)
  have hP : va_P D cls ((h0, .inr (ci, [.ref ht, .int kd, .int zn, .int lm, .int ch, .int le, .int co, .int dr, .int (bi la)])) :: wt ca ht hr (tb 4 0 (tb 4 6 t))) H := hP
  have hD : va_D A ((h0, .inr (ci, [.ref ht, .int kd, .int zn, .int lm, .int ch, .int le, .int co, .int dr, .int (bi la)])) :: wt ca ht hr (tb 4 0 (tb 4 6 t))) := hD
  refine lv_iadd hx hb dX1_doCost_15 ?_
  exact ri C hrt hlocks rfl hP hS dX1_doCost_16

set_option maxHeartbeats 4000000 in
set_option maxRecDepth 100000 in
theorem kT (l : Launch) (D : va_G) (ca : Nat → ClassId) (sa : Nat → Nat) (lo : Nat) {ci : Nat} {Cn : String} (hd : isD ci Cn) : cK l D ca sa lo yX7_doCost cX7_doCost 1 ({ frames := 2, cells := 0, slots := 0, locals := 60 }) ci pkT := by
  intro sz h0 ht hr kd zn lm d t
  obtain ⟨ch, le, co, dr, la⟩ := d
  refine mk_met (fun A => QI D (pkT (ch, le, co, dr, la) t).1 (wd ca h0 ht hr ci kd zn lm (ch, le, co, dr, la) (pkT (ch, le, co, dr, la) t).2) A) (by decide) (Nat.le_of_ble_eq_true rfl) ?_
  intro p e s m below meth c A ls C hrt hlocks hnm hsz hP hD hS hl
  obtain ⟨hx, hb, hml, hown, hk, hz, hlo, hA, hAl⟩ := id C
  have hK : va_K D cls (tyl ca) s := hk.2.1
  have hl : lv_has ls 1 [(0, .ref h0)] := hl
  have hP : va_P D cls ((h0, .inr (ci, [.ref ht, .int kd, .int zn, .int lm, .int ch, .int le, .int co, .int dr, .int (bi la)])) :: wt ca ht hr t) s.heap := hP
  have hD : va_D A ((h0, .inr (ci, [.ref ht, .int kd, .int zn, .int lm, .int ch, .int le, .int co, .int dr, .int (bi la)])) :: wt ca ht hr t) := hD
  refine lv_aload_n hx hb dX7_doCost_0 rfl (lv_at hl 0 rfl) ?_
  refine va_get (D := D) (C := Cn) (T := TX3) (N := 9) hx hb (hd.2 _ _ hk.1) (fun _ h9 => h9) hown hK hP 0 rfl hd.1 0 (by decide) (fl_X7_9 hk.1 _) (fun x9 h9 => u_same (sf_X7_trace hk.1 #[]) x9 h9) rfl dX7_doCost_1 ?_
  refine lv_iconst (v := 4) hx hb dX7_doCost_4 (by decide) ?_
  refine lv_bipush (v := 7) hx hb dX7_doCost_5 (by decide) ?_
  refine cb_begin C (ml_X7_15 hk.1 _) hP hD hS hl.1 ⟨by decide, by decide⟩ (Nat.le_of_ble_eq_true rfl) dX7_doCost_7 ⟨by decide, by decide⟩ (fun H locs hP hD hS => ?_)
  have hP : va_P D cls ((h0, .inr (ci, [.ref ht, .int kd, .int zn, .int lm, .int ch, .int le, .int co, .int dr, .int (bi la)])) :: wt ca ht hr (tb 4 7 t)) H := hP
  have hD : va_D A ((h0, .inr (ci, [.ref ht, .int kd, .int zn, .int lm, .int ch, .int le, .int co, .int dr, .int (bi la)])) :: wt ca ht hr (tb 4 7 t)) := hD
  refine lv_aload_n hx hb dX7_doCost_10 rfl (lv_at hl 0 rfl) ?_
  refine kKS (x := ⟨"AlarmKinds$Smoke", "doCost", "()I"⟩) (d := (ch, le, co, dr, la)) (t := tb 4 7 t) hd C (kP l D ca sa lo hd) ⟨fun U A9 h => co_X3_doCost h A9, fun U A9 h => in_X3 h A9, ml_X7_33 hk.1 _, sm_X5_X3_doCost hk.1 _, su_X7 hk.1 _, up_5 hk, im_X3_doCost hk.1 _, by decide +kernel, ⟨⟨rfl, rfl⟩, by decide, by decide⟩, by decide, by decide⟩ hP hD hS hl.1 (Nat.le_of_ble_eq_true rfl) dX7_doCost_11 (fun H locs hP hD hS => ?_)
  have hP : va_P D cls ((h0, .inr (ci, [.ref ht, .int kd, .int zn, .int lm, .int ch, .int le, .int co, .int dr, .int (bi la)])) :: wt ca ht hr (tb 4 0 (tb 4 7 t))) H := hP
  have hD : va_D A ((h0, .inr (ci, [.ref ht, .int kd, .int zn, .int lm, .int ch, .int le, .int co, .int dr, .int (bi la)])) :: wt ca ht hr (tb 4 0 (tb 4 7 t))) := hD
  refine lv_iconst (v := 1) hx hb dX7_doCost_14 (by decide) ?_
  refine lv_aload_n hx hb dX7_doCost_15 rfl (lv_at hl 0 rfl) ?_
  refine va_get (D := D) (C := Cn) (T := TX3) (N := 9) hx hb (hd.2 _ _ hk.1) (fun _ h9 => h9) hown hK hP 0 rfl hd.1 7 (by decide) (fl_X7_29 hk.1 _) (fun x9 h9 => u_same (sf_X7_drift hk.1 #[]) x9 h9) rfl dX7_doCost_16 ?_
  refine va_mabs hx hb (hml.trans hl.1.symm) hown (ml_X7_37 hk.1 _) (st_J9_abs hk.1 _) (in_J9 hk.1 _) (co_J9_abs hk.1 _) (by decide) (Nat.le_of_ble_eq_true rfl) (by decide) (by decide) dX7_doCost_19 ?_
  refine lv_iadd hx hb dX7_doCost_22 ?_
  refine lv_imul hx hb dX7_doCost_23 ?_
  exact ri C hrt hlocks rfl hP hS dX7_doCost_24
