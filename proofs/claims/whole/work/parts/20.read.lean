set_option maxHeartbeats 4000000 in
set_option maxRecDepth 100000 in
theorem rP (l : Launch) (D : va_G) (ca : Nat → ClassId) (sa : Nat → Nat) (lo : Nat) (hl9 : l.stackTraces = false) (kn : Nat) (hkn : (kn = 0 ∨ kn = 1 ∨ kn = 2 ∨ kn = 3 ∨ kn = 4 ∨ kn = 5 ∨ kn = 6 ∨ kn = 7)) {Cn : String} (hd : isD (kc kn) Cn) : cR l D ca sa lo yX3_doRead cX3_doRead 3 ({ frames := 8, cells := 2, slots := 12, locals := 150 }) 2 12 (kc kn) (prP kn) := by
  intro sz h0 ht hr kd zn lm v d t
  obtain ⟨ch, le, co, dr, la⟩ := d
  generalize hr9 : prP kn v (ch, le, co, dr, la) t = r
  refine mk_metX (fun A => QR D (wd ca h0 ht hr (kc kn) kd zn lm) r A) (fun A => XR D (wd ca h0 ht hr (kc kn) kd zn lm) r A) (by decide) (Nat.le_of_ble_eq_true rfl) ?_
  intro p e s m below meth c A ls C hrt hlocks hno hsz hP hD hS hl
  obtain ⟨hx, hb, hml, hown, hk, hz, hlo, hA, hAl⟩ := id C
  have hK : va_K D cls (tyl ca) s := hk.2.1
  have hl : lv_has ls 3 [(0, .ref h0), (1, .int v)] := hl
  have hP : va_P D cls ((h0, .inr ((kc kn), [.ref ht, .int kd, .int zn, .int lm, .int ch, .int le, .int co, .int dr, .int (bi la)])) :: wt ca ht hr t) s.heap := hP
  have hD : va_D A ((h0, .inr ((kc kn), [.ref ht, .int kd, .int zn, .int lm, .int ch, .int le, .int co, .int dr, .int (bi la)])) :: wt ca ht hr t) := hD
  refine lv_aload_n hx hb dX3_doRead_0 rfl (lv_at hl 0 rfl) ?_
  refine va_get (D := D) (C := Cn) (T := TX3) (N := 9) hx hb (hd.2 _ _ hk.1) (fun _ h9 => h9) hown hK hP 0 rfl hd.1 0 (by decide) (fl_X3_9 hk.1 _) (fun _ h9 => h9) rfl dX3_doRead_1 ?_
  refine lv_iconst (v := 1) hx hb dX3_doRead_4 (by decide) ?_
  refine lv_iconst (v := 0) hx hb dX3_doRead_5 (by decide) ?_
  refine cb_begin C (ml_X3_28 hk.1 _) hP hD hS hl.1 ⟨by decide, by decide⟩ (Nat.le_of_ble_eq_true rfl) dX3_doRead_6 ⟨by decide, by decide⟩ (fun H locs hP hD hS => ?_)
  have hP : va_P D cls ((h0, .inr ((kc kn), [.ref ht, .int kd, .int zn, .int lm, .int ch, .int le, .int co, .int dr, .int (bi la)])) :: wt ca ht hr (tb 1 0 t)) H := hP
  have hD : va_D A ((h0, .inr ((kc kn), [.ref ht, .int kd, .int zn, .int lm, .int ch, .int le, .int co, .int dr, .int (bi la)])) :: wt ca ht hr (tb 1 0 t)) := hD
  refine lv_aload_n hx hb dX3_doRead_9 rfl (lv_at hl 0 rfl) ?_
  refine lv_iload_n hx hb dX3_doRead_10 rfl (lv_at hl 1 rfl) ?_
  refine vc_w (d := (ch, le, co, dr, la)) (t := tb 1 0 t) hl9 hkn C (ml_X3_34 hk.1 _) hP hD hS hl.1 (Nat.le_of_ble_eq_true rfl) dX3_doRead_11 ⟨by decide, by decide, by decide, by decide⟩ (fun E ce q9 H locs he hP hD hS h1 h2 h3 => ?_) (fun h0c H locs hP hD hS => ?_)
  · have hr9 : r = ((pw kn v (ch, le, co, dr, la) (tb 1 0 t)).1, (pw kn v (ch, le, co, dr, la) (tb 1 0 t)).2.2.1, (pw kn v (ch, le, co, dr, la) (tb 1 0 t)).2.2.2) := by rw [← hr9]; exact if_neg (fun h => en_0 h he)
    subst hr9
    exact or_ hno hlocks he hP hS h1 h2 h3 (by decide) (by decide)
  · replace hr9 : prPe (pw kn v (ch, le, co, dr, la) (tb 1 0 t)) = r := hr9
    generalize hq9 : pw kn v (ch, le, co, dr, la) (tb 1 0 t) = q at hP hD hr9 h0c ⊢
    obtain ⟨c9, v9, ⟨ch9, le9, co9, dr9, la9⟩, t9⟩ := q
    cases (show c9 = 0 from h0c)
    have hr9 : r = (0, (ch9, (3 * le9 + v9) / 4, co9 + 1, dr9, la9), t9) := by rw [← hr9]; rfl
    subst hr9
    have hP : va_P D cls ((h0, .inr ((kc kn), [.ref ht, .int kd, .int zn, .int lm, .int ch9, .int le9, .int co9, .int dr9, .int (bi la9)])) :: wt ca ht hr t9) H := hP
    have hD : va_D A ((h0, .inr ((kc kn), [.ref ht, .int kd, .int zn, .int lm, .int ch9, .int le9, .int co9, .int dr9, .int (bi la9)])) :: wt ca ht hr t9) := hD
    refine lv_istore_n (lv' := [(2, .int v9), (0, .ref h0), (1, .int v)]) hx hb dX3_doRead_14 rfl hl (by decide) rfl (fun ls hl => ?_)
    refine lv_aload_n hx hb dX3_doRead_15 rfl (lv_at hl 1 rfl) ?_
    refine lv_iconst (v := 3) hx hb dX3_doRead_16 (by decide) ?_
    refine lv_aload_n hx hb dX3_doRead_17 rfl (lv_at hl 1 rfl) ?_
    refine va_get (D := D) (C := Cn) (T := TX3) (N := 9) hx hb (hd.2 _ _ hk.1) (fun _ h9 => h9) hown hK hP 0 rfl hd.1 5 (by decide) (fl_X3_38 hk.1 _) (fun _ h9 => h9) rfl dX3_doRead_18 ?_
    refine lv_imul hx hb dX3_doRead_21 ?_
    refine lv_iload_n hx hb dX3_doRead_22 rfl (lv_at hl 0 rfl) ?_
    refine lv_iadd hx hb dX3_doRead_23 ?_
    refine lv_iconst (v := 4) hx hb dX3_doRead_24 (by decide) ?_
    refine lv_idiv hx hb dX3_doRead_25 (by decide) ?_
    refine va_put (D := D) (v := .int (((3 * le9) + v9) / 4)) (ty := .int) (C := Cn) (T := TX3) (N := 9) hx hb (hd.2 _ _ hk.1) (fun _ h9 => h9) tyX3 tyX3_ok nmX3 hown hK hP hD hS 0 rfl hd.1 5 (by decide) (fl_X3_38 hk.1 _) (fun _ h9 => h9) rfl (by decide +kernel) rfl rfl (Nat.le_of_ble_eq_true rfl) dX3_doRead_26 (fun H locs hP hD hS => ?_)
    have hP : va_P D cls ((h0, .inr ((kc kn), [.ref ht, .int kd, .int zn, .int lm, .int ch9, .int (((3 * le9) + v9) / 4), .int co9, .int dr9, .int (bi la9)])) :: wt ca ht hr t9) H := hP
    have hD : va_D A ((h0, .inr ((kc kn), [.ref ht, .int kd, .int zn, .int lm, .int ch9, .int (((3 * le9) + v9) / 4), .int co9, .int dr9, .int (bi la9)])) :: wt ca ht hr t9) := hD
    refine lv_aload_n hx hb dX3_doRead_29 rfl (lv_at hl 1 rfl) ?_
    refine lv_dup hx hb dX3_doRead_30 rfl ?_
    refine va_get (D := D) (C := Cn) (T := TX3) (N := 9) hx hb (hd.2 _ _ hk.1) (fun _ h9 => h9) hown hK hP 0 rfl hd.1 6 (by decide) (fl_X3_41 hk.1 _) (fun _ h9 => h9) rfl dX3_doRead_31 ?_
    refine lv_iconst (v := 1) hx hb dX3_doRead_34 (by decide) ?_
    refine lv_iadd hx hb dX3_doRead_35 ?_
    refine va_put (D := D) (v := .int (co9 + 1)) (ty := .int) (C := Cn) (T := TX3) (N := 9) hx hb (hd.2 _ _ hk.1) (fun _ h9 => h9) tyX3 tyX3_ok nmX3 hown hK hP hD hS 0 rfl hd.1 6 (by decide) (fl_X3_41 hk.1 _) (fun _ h9 => h9) rfl (by decide +kernel) rfl rfl (Nat.le_of_ble_eq_true rfl) dX3_doRead_36 (fun H locs hP hD hS => ?_)
    have hP : va_P D cls ((h0, .inr ((kc kn), [.ref ht, .int kd, .int zn, .int lm, .int ch9, .int (((3 * le9) + v9) / 4), .int (co9 + 1), .int dr9, .int (bi la9)])) :: wt ca ht hr t9) H := hP
    have hD : va_D A ((h0, .inr ((kc kn), [.ref ht, .int kd, .int zn, .int lm, .int ch9, .int (((3 * le9) + v9) / 4), .int (co9 + 1), .int dr9, .int (bi la9)])) :: wt ca ht hr t9) := hD
    exact rr_ C hrt hlocks rfl hP hS dX3_doRead_39 (by decide) (by decide)

set_option maxHeartbeats 4000000 in
set_option maxRecDepth 100000 in
theorem rS (l : Launch) (D : va_G) (ca : Nat → ClassId) (sa : Nat → Nat) (lo : Nat) (hl9 : l.stackTraces = false) (kn : Nat) (hkn : (kn = 0 ∨ kn = 1 ∨ kn = 2 ∨ kn = 3 ∨ kn = 4 ∨ kn = 5 ∨ kn = 6 ∨ kn = 7)) {Cn : String} (hd : isD (kc kn) Cn) : cR l D ca sa lo yX5_doRead cX5_doRead 2 ({ frames := 9, cells := 2, slots := 12, locals := 180 }) 2 12 (kc kn) (prS kn) := by
  intro sz h0 ht hr kd zn lm v d t
  obtain ⟨ch, le, co, dr, la⟩ := d
  generalize hr9 : prS kn v (ch, le, co, dr, la) t = r
  refine mk_metX (fun A => QR D (wd ca h0 ht hr (kc kn) kd zn lm) r A) (fun A => XR D (wd ca h0 ht hr (kc kn) kd zn lm) r A) (by decide) (Nat.le_of_ble_eq_true rfl) ?_
  intro p e s m below meth c A ls C hrt hlocks hno hsz hP hD hS hl
  obtain ⟨hx, hb, hml, hown, hk, hz, hlo, hA, hAl⟩ := id C
  have hK : va_K D cls (tyl ca) s := hk.2.1
  have hl : lv_has ls 2 [(0, .ref h0), (1, .int v)] := hl
  have hP : va_P D cls ((h0, .inr ((kc kn), [.ref ht, .int kd, .int zn, .int lm, .int ch, .int le, .int co, .int dr, .int (bi la)])) :: wt ca ht hr t) s.heap := hP
  have hD : va_D A ((h0, .inr ((kc kn), [.ref ht, .int kd, .int zn, .int lm, .int ch, .int le, .int co, .int dr, .int (bi la)])) :: wt ca ht hr t) := hD
  refine lv_aload_n hx hb dX5_doRead_0 rfl (lv_at hl 0 rfl) ?_
  refine va_get (D := D) (C := Cn) (T := TX3) (N := 9) hx hb (hd.2 _ _ hk.1) (fun _ h9 => h9) hown hK hP 0 rfl hd.1 0 (by decide) (fl_X5_9 hk.1 _) (fun x9 h9 => u_same (sf_X5_trace hk.1 #[]) x9 h9) rfl dX5_doRead_1 ?_
  refine lv_iconst (v := 1) hx hb dX5_doRead_4 (by decide) ?_
  refine lv_iconst (v := 3) hx hb dX5_doRead_5 (by decide) ?_
  refine cb_begin C (ml_X5_15 hk.1 _) hP hD hS hl.1 ⟨by decide, by decide⟩ (Nat.le_of_ble_eq_true rfl) dX5_doRead_6 ⟨by decide, by decide⟩ (fun H locs hP hD hS => ?_)
  have hP : va_P D cls ((h0, .inr ((kc kn), [.ref ht, .int kd, .int zn, .int lm, .int ch, .int le, .int co, .int dr, .int (bi la)])) :: wt ca ht hr (tb 1 3 t)) H := hP
  have hD : va_D A ((h0, .inr ((kc kn), [.ref ht, .int kd, .int zn, .int lm, .int ch, .int le, .int co, .int dr, .int (bi la)])) :: wt ca ht hr (tb 1 3 t)) := hD
  refine lv_aload_n hx hb dX5_doRead_9 rfl (lv_at hl 0 rfl) ?_
  refine lv_iload_n hx hb dX5_doRead_10 rfl (lv_at hl 1 rfl) ?_
  refine kRS (x := ⟨"AlarmKinds$Wired", "doRead", "(I)V"⟩) (d := (ch, le, co, dr, la)) (t := tb 1 3 t) hd C (rP l D ca sa lo hl9 kn hkn hd) ⟨fun U A9 h => co_X3_doRead h A9, fun U A9 h => in_X3 h A9, ml_X5_29 hk.1 _, sm_X8_X3_doRead hk.1 _, su_X5 hk.1 _, up_84 hk, im_X3_doRead hk.1 _, by decide +kernel, ⟨⟨rfl, rfl⟩, by decide, by decide⟩, by decide, by decide⟩ hP hD hS hl.1 (Nat.le_of_ble_eq_true rfl) dX5_doRead_11 (fun E ce q9 H locs he hP hD hS h1 h2 h3 => ?_) (fun h0c H locs hP hD hS => ?_)
  · have hr9 : r = prP kn v (ch, le, co, dr, la) (tb 1 3 t) := by rw [← hr9]; exact if_neg (fun h => en_0 h he)
    subst hr9
    exact or_ hno hlocks he hP hS h1 h2 h3 (by decide) (by decide)
  · replace hr9 : prSe (prP kn v (ch, le, co, dr, la) (tb 1 3 t)) = r := hr9
    generalize hq9 : prP kn v (ch, le, co, dr, la) (tb 1 3 t) = q at hP hD hr9 h0c ⊢
    obtain ⟨c9, ⟨ch9, le9, co9, dr9, la9⟩, t9⟩ := q
    cases (show c9 = 0 from h0c)
    have hP : va_P D cls ((h0, .inr ((kc kn), [.ref ht, .int kd, .int zn, .int lm, .int ch9, .int le9, .int co9, .int dr9, .int (bi la9)])) :: wt ca ht hr t9) H := hP
    have hD : va_D A ((h0, .inr ((kc kn), [.ref ht, .int kd, .int zn, .int lm, .int ch9, .int le9, .int co9, .int dr9, .int (bi la9)])) :: wt ca ht hr t9) := hD
    refine lv_aload_n hx hb dX5_doRead_14 rfl (lv_at hl 0 rfl) ?_
    refine va_get (D := D) (C := Cn) (T := TX3) (N := 9) hx hb (hd.2 _ _ hk.1) (fun _ h9 => h9) hown hK hP 0 rfl hd.1 5 (by decide) (fl_X5_33 hk.1 _) (fun x9 h9 => u_same (sf_X5_level hk.1 #[]) x9 h9) rfl dX5_doRead_15 ?_
    refine lv_aload_n hx hb dX5_doRead_18 rfl (lv_at hl 0 rfl) ?_
    refine va_get (D := D) (C := Cn) (T := TX3) (N := 9) hx hb (hd.2 _ _ hk.1) (fun _ h9 => h9) hown hK hP 0 rfl hd.1 7 (by decide) (fl_X5_25 hk.1 _) (fun x9 h9 => u_same (sf_X5_drift hk.1 #[]) x9 h9) rfl dX5_doRead_19 ?_
    refine lv_icmp_le (tgt := 38) hx hb dX5_doRead_22 (by decide) (fun c_1 => ?_) (fun c_1 => ?_)
    · refine lv_aload_n hx hb dX5_doRead_38 rfl (lv_at hl 0 rfl) ?_
      refine va_get (D := D) (C := Cn) (T := TX3) (N := 9) hx hb (hd.2 _ _ hk.1) (fun _ h9 => h9) hown hK hP 0 rfl hd.1 5 (by decide) (fl_X5_33 hk.1 _) (fun x9 h9 => u_same (sf_X5_level hk.1 #[]) x9 h9) rfl dX5_doRead_39 ?_
      refine lv_aload_n hx hb dX5_doRead_42 rfl (lv_at hl 0 rfl) ?_
      refine va_get (D := D) (C := Cn) (T := TX3) (N := 9) hx hb (hd.2 _ _ hk.1) (fun _ h9 => h9) hown hK hP 0 rfl hd.1 7 (by decide) (fl_X5_25 hk.1 _) (fun x9 h9 => u_same (sf_X5_drift hk.1 #[]) x9 h9) rfl dX5_doRead_43 ?_
      refine lv_icmp_ge (tgt := 59) hx hb dX5_doRead_46 (by decide) (fun c_2 => ?_) (fun c_2 => ?_)
      · have hr9 : r = (0, (ch9, le9, co9, dr9, la9), t9) := by
          rw [← hr9]; show ((0 : Nat), (ch9, le9, co9, (if dr9 < le9 then dr9 + 1 else if le9 < dr9 then dr9 - 1 else dr9), la9), t9) = _
          rw [if_neg (Int32.not_lt.mpr c_1), if_neg (Int32.not_lt.mpr c_2)]
        subst hr9
        exact rr_ C hrt hlocks rfl hP hS dX5_doRead_59 (by decide) (by decide)
      · have hr9 : r = (0, (ch9, le9, co9, dr9 - 1, la9), t9) := by
          rw [← hr9]; show ((0 : Nat), (ch9, le9, co9, (if dr9 < le9 then dr9 + 1 else if le9 < dr9 then dr9 - 1 else dr9), la9), t9) = _
          rw [if_neg (Int32.not_lt.mpr c_1), if_pos (Int32.not_le.mp c_2)]
        subst hr9
        refine lv_aload_n hx hb dX5_doRead_49 rfl (lv_at hl 0 rfl) ?_
        refine lv_dup hx hb dX5_doRead_50 rfl ?_
        refine va_get (D := D) (C := Cn) (T := TX3) (N := 9) hx hb (hd.2 _ _ hk.1) (fun _ h9 => h9) hown hK hP 0 rfl hd.1 7 (by decide) (fl_X5_25 hk.1 _) (fun x9 h9 => u_same (sf_X5_drift hk.1 #[]) x9 h9) rfl dX5_doRead_51 ?_
        refine lv_iconst (v := 1) hx hb dX5_doRead_54 (by decide) ?_
        refine lv_isub hx hb dX5_doRead_55 ?_
        refine va_put (D := D) (v := .int (dr9 - 1)) (ty := .int) (C := Cn) (T := TX3) (N := 9) hx hb (hd.2 _ _ hk.1) (fun _ h9 => h9) tyX3 tyX3_ok nmX3 hown hK hP hD hS 0 rfl hd.1 7 (by decide) (fl_X5_25 hk.1 _) (fun x9 h9 => u_same (sf_X5_drift hk.1 #[]) x9 h9) rfl (by decide +kernel) rfl rfl (Nat.le_of_ble_eq_true rfl) dX5_doRead_56 (fun H locs hP hD hS => ?_)
        have hP : va_P D cls ((h0, .inr ((kc kn), [.ref ht, .int kd, .int zn, .int lm, .int ch9, .int le9, .int co9, .int (dr9 - 1), .int (bi la9)])) :: wt ca ht hr t9) H := hP
        have hD : va_D A ((h0, .inr ((kc kn), [.ref ht, .int kd, .int zn, .int lm, .int ch9, .int le9, .int co9, .int (dr9 - 1), .int (bi la9)])) :: wt ca ht hr t9) := hD
        exact rr_ C hrt hlocks rfl hP hS dX5_doRead_59 (by decide) (by decide)
    · have hr9 : r = (0, (ch9, le9, co9, dr9 + 1, la9), t9) := by
        rw [← hr9]; show ((0 : Nat), (ch9, le9, co9, (if dr9 < le9 then dr9 + 1 else if le9 < dr9 then dr9 - 1 else dr9), la9), t9) = _
        rw [if_pos (Int32.not_le.mp c_1)]
      subst hr9
      refine lv_aload_n hx hb dX5_doRead_25 rfl (lv_at hl 0 rfl) ?_
      refine lv_dup hx hb dX5_doRead_26 rfl ?_
      refine va_get (D := D) (C := Cn) (T := TX3) (N := 9) hx hb (hd.2 _ _ hk.1) (fun _ h9 => h9) hown hK hP 0 rfl hd.1 7 (by decide) (fl_X5_25 hk.1 _) (fun x9 h9 => u_same (sf_X5_drift hk.1 #[]) x9 h9) rfl dX5_doRead_27 ?_
      refine lv_iconst (v := 1) hx hb dX5_doRead_30 (by decide) ?_
      refine lv_iadd hx hb dX5_doRead_31 ?_
      refine va_put (D := D) (v := .int (dr9 + 1)) (ty := .int) (C := Cn) (T := TX3) (N := 9) hx hb (hd.2 _ _ hk.1) (fun _ h9 => h9) tyX3 tyX3_ok nmX3 hown hK hP hD hS 0 rfl hd.1 7 (by decide) (fl_X5_25 hk.1 _) (fun x9 h9 => u_same (sf_X5_drift hk.1 #[]) x9 h9) rfl (by decide +kernel) rfl rfl (Nat.le_of_ble_eq_true rfl) dX5_doRead_32 (fun H locs hP hD hS => ?_)
      have hP : va_P D cls ((h0, .inr ((kc kn), [.ref ht, .int kd, .int zn, .int lm, .int ch9, .int le9, .int co9, .int (dr9 + 1), .int (bi la9)])) :: wt ca ht hr t9) H := hP
      have hD : va_D A ((h0, .inr ((kc kn), [.ref ht, .int kd, .int zn, .int lm, .int ch9, .int le9, .int co9, .int (dr9 + 1), .int (bi la9)])) :: wt ca ht hr t9) := hD
      refine lv_goto (tgt := 59) hx hb dX5_doRead_35 (by decide) ?_
      exact rr_ C hrt hlocks rfl hP hS dX5_doRead_59 (by decide) (by decide)

set_option maxHeartbeats 4000000 in
set_option maxRecDepth 100000 in
theorem rH (l : Launch) (D : va_G) (ca : Nat → ClassId) (sa : Nat → Nat) (lo : Nat) (hl9 : l.stackTraces = false) : cR l D ca sa lo yX2_doRead cX2_doRead 2 ({ frames := 9, cells := 4, slots := 24, locals := 180 }) 4 24 2 prH := by
  intro sz h0 ht hr kd zn lm v d t
  have hd := isD_2
  obtain ⟨ch, le, co, dr, la⟩ := d
  generalize hr9 : prH v (ch, le, co, dr, la) t = r
  refine mk_metX (fun A => QR D (wd ca h0 ht hr 2 kd zn lm) r A) (fun A => XR D (wd ca h0 ht hr 2 kd zn lm) r A) (by decide) (Nat.le_of_ble_eq_true rfl) ?_
  intro p e s m below meth c A ls C hrt hlocks hno hsz hP hD hS hl
  obtain ⟨hx, hb, hml, hown, hk, hz, hlo, hA, hAl⟩ := id C
  have hK : va_K D cls (tyl ca) s := hk.2.1
  have hl : lv_has ls 2 [(0, .ref h0), (1, .int v)] := hl
  have hP : va_P D cls ((h0, .inr (2, [.ref ht, .int kd, .int zn, .int lm, .int ch, .int le, .int co, .int dr, .int (bi la)])) :: wt ca ht hr t) s.heap := hP
  have hD : va_D A ((h0, .inr (2, [.ref ht, .int kd, .int zn, .int lm, .int ch, .int le, .int co, .int dr, .int (bi la)])) :: wt ca ht hr t) := hD
  refine lv_aload_n hx hb dX2_doRead_0 rfl (lv_at hl 0 rfl) ?_
  refine va_get (D := D) (C := RX2) (T := TX3) (N := 9) hx hb (hd.2 _ _ hk.1) (fun _ h9 => h9) hown hK hP 0 rfl hd.1 0 (by decide) (fl_X2_9 hk.1 _) (fun x9 h9 => u_same (sf_X2_trace hk.1 #[]) x9 h9) rfl dX2_doRead_1 ?_
  refine lv_iconst (v := 1) hx hb dX2_doRead_4 (by decide) ?_
  refine lv_iconst (v := 4) hx hb dX2_doRead_5 (by decide) ?_
  refine cb_begin C (ml_X2_15 hk.1 _) hP hD hS hl.1 ⟨by decide, by decide⟩ (Nat.le_of_ble_eq_true rfl) dX2_doRead_6 ⟨by decide, by decide⟩ (fun H locs hP hD hS => ?_)
  have hP : va_P D cls ((h0, .inr (2, [.ref ht, .int kd, .int zn, .int lm, .int ch, .int le, .int co, .int dr, .int (bi la)])) :: wt ca ht hr (tb 1 4 t)) H := hP
  have hD : va_D A ((h0, .inr (2, [.ref ht, .int kd, .int zn, .int lm, .int ch, .int le, .int co, .int dr, .int (bi la)])) :: wt ca ht hr (tb 1 4 t)) := hD
  refine lv_aload_n hx hb dX2_doRead_9 rfl (lv_at hl 0 rfl) ?_
  refine lv_iload_n hx hb dX2_doRead_10 rfl (lv_at hl 1 rfl) ?_
  refine kRS (x := ⟨"AlarmKinds$Radio", "doRead", "(I)V"⟩) (d := (ch, le, co, dr, la)) (t := tb 1 4 t) hd C (rP l D ca sa lo hl9 4 (by decide) isD_2) ⟨fun U A9 h => co_X3_doRead h A9, fun U A9 h => in_X3 h A9, ml_X2_21 hk.1 _, sm_X4_X3_doRead hk.1 _, su_X2 hk.1 _, up_4 hk, im_X3_doRead hk.1 _, by decide +kernel, ⟨⟨rfl, rfl⟩, by decide, by decide⟩, by decide, by decide⟩ hP hD hS hl.1 (Nat.le_of_ble_eq_true rfl) dX2_doRead_11 (fun E ce q9 H locs he hP hD hS h1 h2 h3 => ?_) (fun h0c H locs hP hD hS => ?_)
  · have hr9 : r = prP 4 v (ch, le, co, dr, la) (tb 1 4 t) := by rw [← hr9]; exact if_neg (fun h => en_0 h he)
    subst hr9
    exact or_ hno hlocks he hP hS h1 h2 h3 (by decide) (by decide)
  · replace hr9 : prHe v (prP 4 v (ch, le, co, dr, la) (tb 1 4 t)) = r := hr9
    generalize hq9 : prP 4 v (ch, le, co, dr, la) (tb 1 4 t) = q at hP hD hr9 h0c ⊢
    obtain ⟨c9, ⟨ch9, le9, co9, dr9, la9⟩, t9⟩ := q
    cases (show c9 = 0 from h0c)
    have hP : va_P D cls ((h0, .inr (2, [.ref ht, .int kd, .int zn, .int lm, .int ch9, .int le9, .int co9, .int dr9, .int (bi la9)])) :: wt ca ht hr t9) H := hP
    have hD : va_D A ((h0, .inr (2, [.ref ht, .int kd, .int zn, .int lm, .int ch9, .int le9, .int co9, .int dr9, .int (bi la9)])) :: wt ca ht hr t9) := hD
    refine lv_iload_n hx hb dX2_doRead_14 rfl (lv_at hl 1 rfl) ?_
    refine lv_aload_n hx hb dX2_doRead_15 rfl (lv_at hl 0 rfl) ?_
    refine va_get (D := D) (C := RX2) (T := TX3) (N := 9) hx hb (hd.2 _ _ hk.1) (fun _ h9 => h9) hown hK hP 0 rfl hd.1 5 (by decide) (fl_X2_25 hk.1 _) (fun x9 h9 => u_same (sf_X2_level hk.1 #[]) x9 h9) rfl dX2_doRead_16 ?_
    refine lv_icmp_le (tgt := 27) hx hb dX2_doRead_19 (by decide) (fun c_1 => ?_) (fun c_1 => ?_)
    · have hr9 : r = (0, (ch9, le9, co9, dr9, la9), t9) := by rw [← hr9]; exact (if_pos rfl).trans (if_neg (Int32.not_lt.mpr c_1))
      subst hr9
      exact rr_ C hrt hlocks rfl hP hS dX2_doRead_27 (by decide) (by decide)
    · have hr9 : r = prP 4 v (ch9, le9, co9, dr9, la9) t9 := by rw [← hr9]; exact (if_pos rfl).trans (if_pos (Int32.not_le.mp c_1))
      subst hr9
      refine lv_aload_n hx hb dX2_doRead_22 rfl (lv_at hl 0 rfl) ?_
      refine lv_iload_n hx hb dX2_doRead_23 rfl (lv_at hl 1 rfl) ?_
      refine kRS (x := ⟨"AlarmKinds$Radio", "doRead", "(I)V"⟩) (d := (ch9, le9, co9, dr9, la9)) (t := t9) hd C (rP l D ca sa lo hl9 4 (by decide) isD_2) ⟨fun U A9 h => co_X3_doRead h A9, fun U A9 h => in_X3 h A9, ml_X2_21 hk.1 _, sm_X4_X3_doRead hk.1 _, su_X2 hk.1 _, up_4 hk, im_X3_doRead hk.1 _, by decide +kernel, ⟨⟨rfl, rfl⟩, by decide, by decide⟩, by decide, by decide⟩ hP hD hS hl.1 (Nat.le_of_ble_eq_true rfl) dX2_doRead_24 (fun E ce q9 H locs he hP hD hS h1 h2 h3 => ?_) (fun h0c H locs hP hD hS => ?_)
      · exact or_ hno hlocks he hP hS h1 h2 h3 (by decide) (by decide)
      · exact rr_ C hrt hlocks h0c hP hS dX2_doRead_27 (by decide) (by decide)

set_option maxHeartbeats 4000000 in
set_option maxRecDepth 100000 in
theorem rT (l : Launch) (D : va_G) (ca : Nat → ClassId) (sa : Nat → Nat) (lo : Nat) (hl9 : l.stackTraces = false) : cR l D ca sa lo yX7_doRead cX7_doRead 2 ({ frames := 10, cells := 4, slots := 24, locals := 210 }) 4 24 7 prT := by
  intro sz h0 ht hr kd zn lm v d t
  have hd := isD_7
  obtain ⟨ch, le, co, dr, la⟩ := d
  generalize hr9 : prT v (ch, le, co, dr, la) t = r
  refine mk_metX (fun A => QR D (wd ca h0 ht hr 7 kd zn lm) r A) (fun A => XR D (wd ca h0 ht hr 7 kd zn lm) r A) (by decide) (Nat.le_of_ble_eq_true rfl) ?_
  intro p e s m below meth c A ls C hrt hlocks hno hsz hP hD hS hl
  obtain ⟨hx, hb, hml, hown, hk, hz, hlo, hA, hAl⟩ := id C
  have hK : va_K D cls (tyl ca) s := hk.2.1
  have hl : lv_has ls 2 [(0, .ref h0), (1, .int v)] := hl
  have hP : va_P D cls ((h0, .inr (7, [.ref ht, .int kd, .int zn, .int lm, .int ch, .int le, .int co, .int dr, .int (bi la)])) :: wt ca ht hr t) s.heap := hP
  have hD : va_D A ((h0, .inr (7, [.ref ht, .int kd, .int zn, .int lm, .int ch, .int le, .int co, .int dr, .int (bi la)])) :: wt ca ht hr t) := hD
  refine lv_aload_n hx hb dX7_doRead_0 rfl (lv_at hl 0 rfl) ?_
  refine va_get (D := D) (C := RX7) (T := TX3) (N := 9) hx hb (hd.2 _ _ hk.1) (fun _ h9 => h9) hown hK hP 0 rfl hd.1 0 (by decide) (fl_X7_9 hk.1 _) (fun x9 h9 => u_same (sf_X7_trace hk.1 #[]) x9 h9) rfl dX7_doRead_1 ?_
  refine lv_iconst (v := 1) hx hb dX7_doRead_4 (by decide) ?_
  refine lv_bipush (v := 7) hx hb dX7_doRead_5 (by decide) ?_
  refine cb_begin C (ml_X7_15 hk.1 _) hP hD hS hl.1 ⟨by decide, by decide⟩ (Nat.le_of_ble_eq_true rfl) dX7_doRead_7 ⟨by decide, by decide⟩ (fun H locs hP hD hS => ?_)
  have hP : va_P D cls ((h0, .inr (7, [.ref ht, .int kd, .int zn, .int lm, .int ch, .int le, .int co, .int dr, .int (bi la)])) :: wt ca ht hr (tb 1 7 t)) H := hP
  have hD : va_D A ((h0, .inr (7, [.ref ht, .int kd, .int zn, .int lm, .int ch, .int le, .int co, .int dr, .int (bi la)])) :: wt ca ht hr (tb 1 7 t)) := hD
  refine lv_aload_n hx hb dX7_doRead_10 rfl (lv_at hl 0 rfl) ?_
  refine lv_iload_n hx hb dX7_doRead_11 rfl (lv_at hl 1 rfl) ?_
  refine kRS (x := ⟨"AlarmKinds$Smoke", "doRead", "(I)V"⟩) (d := (ch, le, co, dr, la)) (t := tb 1 7 t) hd C (rS l D ca sa lo hl9 7 (by decide) isD_7) ⟨fun U A9 h => co_X5_doRead h A9, fun U A9 h => in_X5 h A9, ml_X7_21 hk.1 _, sm_X5_X5_doRead hk.1 _, su_X7 hk.1 _, up_self, im_X5_doRead hk.1 _, by decide +kernel, ⟨⟨rfl, rfl⟩, by decide, by decide⟩, by decide, by decide⟩ hP hD hS hl.1 (Nat.le_of_ble_eq_true rfl) dX7_doRead_12 (fun E ce q9 H locs he hP hD hS h1 h2 h3 => ?_) (fun h0c H locs hP hD hS => ?_)
  · have hr9 : r = prS 7 v (ch, le, co, dr, la) (tb 1 7 t) := by rw [← hr9]; exact if_neg (fun h => en_0 h he)
    subst hr9
    exact or_ hno hlocks he hP hS h1 h2 h3 (by decide) (by decide)
  · replace hr9 : prTe v (prS 7 v (ch, le, co, dr, la) (tb 1 7 t)) = r := hr9
    generalize hq9 : prS 7 v (ch, le, co, dr, la) (tb 1 7 t) = q at hP hD hr9 h0c ⊢
    obtain ⟨c9, ⟨ch9, le9, co9, dr9, la9⟩, t9⟩ := q
    cases (show c9 = 0 from h0c)
    have hP : va_P D cls ((h0, .inr (7, [.ref ht, .int kd, .int zn, .int lm, .int ch9, .int le9, .int co9, .int dr9, .int (bi la9)])) :: wt ca ht hr t9) H := hP
    have hD : va_D A ((h0, .inr (7, [.ref ht, .int kd, .int zn, .int lm, .int ch9, .int le9, .int co9, .int dr9, .int (bi la9)])) :: wt ca ht hr t9) := hD
    have hr9 : r = prS 7 (-v) (ch9, le9, co9, dr9, la9) t9 := by rw [← hr9]; exact if_pos rfl
    subst hr9
    refine lv_aload_n hx hb dX7_doRead_15 rfl (lv_at hl 0 rfl) ?_
    refine lv_iload_n hx hb dX7_doRead_16 rfl (lv_at hl 1 rfl) ?_
    refine lv_ineg hx hb dX7_doRead_17 ?_
    refine kRS (x := ⟨"AlarmKinds$Smoke", "doRead", "(I)V"⟩) (d := (ch9, le9, co9, dr9, la9)) (t := t9) hd C (rS l D ca sa lo hl9 7 (by decide) isD_7) ⟨fun U A9 h => co_X5_doRead h A9, fun U A9 h => in_X5 h A9, ml_X7_21 hk.1 _, sm_X5_X5_doRead hk.1 _, su_X7 hk.1 _, up_self, im_X5_doRead hk.1 _, by decide +kernel, ⟨⟨rfl, rfl⟩, by decide, by decide⟩, by decide, by decide⟩ hP hD hS hl.1 (Nat.le_of_ble_eq_true rfl) dX7_doRead_18 (fun E ce q9 H locs he hP hD hS h1 h2 h3 => ?_) (fun h0c H locs hP hD hS => ?_)
    · exact or_ hno hlocks he hP hS h1 h2 h3 (by decide) (by decide)
    · exact rr_ C hrt hlocks h0c hP hS dX7_doRead_21 (by decide) (by decide)

set_option maxHeartbeats 4000000 in
set_option maxRecDepth 100000 in
theorem vP (l : Launch) (D : va_G) (ca : Nat → ClassId) (sa : Nat → Nat) (lo : Nat) : cV l D ca sa lo yX3_doVotes cX3_doVotes 1 ({ frames := 3, cells := 0, slots := 0, locals := 90 }) 3 (pv 0) := by
  intro sz h0 ht hr kd zn lm d t
  obtain ⟨ch, le, co, dr, la⟩ := d
  refine mk_met (fun A => QI D (pv 0 lm (ch, le, co, dr, la) t).1 (wd ca h0 ht hr 3 kd zn lm (pv 0 lm (ch, le, co, dr, la) t).2.1 (pv 0 lm (ch, le, co, dr, la) t).2.2) A) (by decide) (Nat.le_of_ble_eq_true rfl) ?_
  intro p e s m below meth c A ls C hrt hlocks hnm hsz hP hD hS hl
  obtain ⟨hx, hb, hml, hown, hk, hz, hlo, hA, hAl⟩ := id C
  have hK : va_K D cls (tyl ca) s := hk.2.1
  have hl : lv_has ls 1 [(0, .ref h0)] := hl
  have hP : va_P D cls ((h0, .inr (3, [.ref ht, .int kd, .int zn, .int lm, .int ch, .int le, .int co, .int dr, .int (bi la)])) :: wt ca ht hr t) s.heap := hP
  have hD : va_D A ((h0, .inr (3, [.ref ht, .int kd, .int zn, .int lm, .int ch, .int le, .int co, .int dr, .int (bi la)])) :: wt ca ht hr t) := hD
  refine lv_aload_n hx hb dX3_doVotes_0 rfl (lv_at hl 0 rfl) ?_
  refine vc_o (kd := 0) (d := (ch, le, co, dr, la)) (t := t) (by decide) C (ml_X3_44 hk.1 _) hP hD hS hl.1 (Nat.le_of_ble_eq_true rfl) dX3_doVotes_1 ⟨by decide, by decide, by decide, by decide⟩ (fun H locs hP hD hS => ?_)
  refine lv_if_eq (tgt := 11) hx hb dX3_doVotes_4 (by decide) (fun c_1 => ?_) (fun c_1 => ?_)
  · refine lv_iconst (v := 0) hx hb dX3_doVotes_11 (by decide) ?_
    exact ri C hrt hlocks (if_neg (by rw [bi_eq0 c_1]; decide)).symm hP hS dX3_doVotes_12
  · refine lv_iconst (v := 3) hx hb dX3_doVotes_7 (by decide) ?_
    refine lv_goto (tgt := 12) hx hb dX3_doVotes_8 (by decide) ?_
    exact ri C hrt hlocks ((if_pos (bi_ne0 c_1)).trans rfl).symm hP hS dX3_doVotes_12

set_option maxHeartbeats 4000000 in
set_option maxRecDepth 100000 in
theorem vW (l : Launch) (D : va_G) (ca : Nat → ClassId) (sa : Nat → Nat) (lo : Nat) (kn : Nat) (hkn : kn = 1 ∨ kn = 2 ∨ kn = 3 ∨ kn = 4 ∨ kn = 5 ∨ kn = 6) : cV l D ca sa lo yX8_doVotes cX8_doVotes 1 ({ frames := 3, cells := 0, slots := 0, locals := 90 }) (kc kn) (pv kn) := by
  intro sz h0 ht hr kd zn lm d t
  obtain ⟨ch, le, co, dr, la⟩ := d
  refine mk_met (fun A => QI D (pv kn lm (ch, le, co, dr, la) t).1 (wd ca h0 ht hr (kc kn) kd zn lm (pv kn lm (ch, le, co, dr, la) t).2.1 (pv kn lm (ch, le, co, dr, la) t).2.2) A) (by decide) (Nat.le_of_ble_eq_true rfl) ?_
  intro p e s m below meth c A ls C hrt hlocks hnm hsz hP hD hS hl
  obtain ⟨hx, hb, hml, hown, hk, hz, hlo, hA, hAl⟩ := id C
  have hK : va_K D cls (tyl ca) s := hk.2.1
  have hl : lv_has ls 1 [(0, .ref h0)] := hl
  have hP : va_P D cls ((h0, .inr ((kc kn), [.ref ht, .int kd, .int zn, .int lm, .int ch, .int le, .int co, .int dr, .int (bi la)])) :: wt ca ht hr t) s.heap := hP
  have hD : va_D A ((h0, .inr ((kc kn), [.ref ht, .int kd, .int zn, .int lm, .int ch, .int le, .int co, .int dr, .int (bi la)])) :: wt ca ht hr t) := hD
  refine lv_aload_n hx hb dX8_doVotes_0 rfl (lv_at hl 0 rfl) ?_
  refine vc_o8 (kd := kn) (d := (ch, le, co, dr, la)) (t := t) hkn C (ml_X8_7 hk.1 _) hP hD hS hl.1 (Nat.le_of_ble_eq_true rfl) dX8_doVotes_1 ⟨by decide, by decide, by decide, by decide⟩ (fun H locs hP hD hS => ?_)
  refine lv_if_eq (tgt := 11) hx hb dX8_doVotes_4 (by decide) (fun c_1 => ?_) (fun c_1 => ?_)
  · refine lv_iconst (v := 0) hx hb dX8_doVotes_11 (by decide) ?_
    exact ri C hrt hlocks (if_neg (by rw [bi_eq0 c_1]; decide)).symm hP hS dX8_doVotes_12
  · refine lv_iconst (v := 1) hx hb dX8_doVotes_7 (by decide) ?_
    refine lv_goto (tgt := 12) hx hb dX8_doVotes_8 (by decide) ?_
    exact ri C hrt hlocks ((if_pos (bi_ne0 c_1)).trans (by rcases hkn with rfl | rfl | rfl | rfl | rfl | rfl <;> rfl)).symm hP hS dX8_doVotes_12

set_option maxHeartbeats 4000000 in
set_option maxRecDepth 100000 in
theorem vT (l : Launch) (D : va_G) (ca : Nat → ClassId) (sa : Nat → Nat) (lo : Nat) : cV l D ca sa lo yX7_doVotes cX7_doVotes 1 ({ frames := 3, cells := 0, slots := 0, locals := 90 }) 7 (pv 7) := by
  intro sz h0 ht hr kd zn lm d t
  obtain ⟨ch, le, co, dr, la⟩ := d
  refine mk_met (fun A => QI D (pv 7 lm (ch, le, co, dr, la) t).1 (wd ca h0 ht hr 7 kd zn lm (pv 7 lm (ch, le, co, dr, la) t).2.1 (pv 7 lm (ch, le, co, dr, la) t).2.2) A) (by decide) (Nat.le_of_ble_eq_true rfl) ?_
  intro p e s m below meth c A ls C hrt hlocks hnm hsz hP hD hS hl
  obtain ⟨hx, hb, hml, hown, hk, hz, hlo, hA, hAl⟩ := id C
  have hK : va_K D cls (tyl ca) s := hk.2.1
  have hl : lv_has ls 1 [(0, .ref h0)] := hl
  have hP : va_P D cls ((h0, .inr (7, [.ref ht, .int kd, .int zn, .int lm, .int ch, .int le, .int co, .int dr, .int (bi la)])) :: wt ca ht hr t) s.heap := hP
  have hD : va_D A ((h0, .inr (7, [.ref ht, .int kd, .int zn, .int lm, .int ch, .int le, .int co, .int dr, .int (bi la)])) :: wt ca ht hr t) := hD
  refine lv_aload_n hx hb dX7_doVotes_0 rfl (lv_at hl 0 rfl) ?_
  refine vc_o7 (kd := 7) (d := (ch, le, co, dr, la)) (t := t) rfl C (ml_X7_43 hk.1 _) hP hD hS hl.1 (Nat.le_of_ble_eq_true rfl) dX7_doVotes_1 ⟨by decide, by decide, by decide, by decide⟩ (fun H locs hP hD hS => ?_)
  refine lv_if_eq (tgt := 11) hx hb dX7_doVotes_4 (by decide) (fun c_1 => ?_) (fun c_1 => ?_)
  · refine lv_iconst (v := 0) hx hb dX7_doVotes_11 (by decide) ?_
    exact ri C hrt hlocks (if_neg (by rw [bi_eq0 c_1]; decide)).symm hP hS dX7_doVotes_12
  · refine lv_iconst (v := 2) hx hb dX7_doVotes_7 (by decide) ?_
    refine lv_goto (tgt := 12) hx hb dX7_doVotes_8 (by decide) ?_
    exact ri C hrt hlocks ((if_pos (bi_ne0 c_1)).trans rfl).symm hP hS dX7_doVotes_12
