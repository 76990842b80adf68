set_option maxHeartbeats 4000000 in
set_option maxRecDepth 100000 in
theorem iP (l : Launch) (D : va_G) (ca : Nat → ClassId) (sa : Nat → Nat) (lo : Nat) {ci : Nat} {Cn : String} (hd : isD ci Cn) : cI l D ca sa lo yX3_init cX3_init ({ frames := 1, cells := 0, slots := 0, locals := 20 }) ci := by
  intro sz h0 ht kd zn lm ch
  refine mk_met (fun A => QV D [(h0, .inr (ci, df ht kd zn lm (ch, 0, 0, 0, false)))] A) (by decide) (Nat.le_of_ble_eq_true rfl) ?_
  intro p e s m below meth c A ls C hrt hlocks hnm hsz hP hD hS hl
  obtain ⟨hx, hb, hml, hown, hk, hz, hlo, hA, hAl⟩ := id C
  have hK : va_K D cls (tyl ca) s := hk.2.1
  have hl : lv_has ls 6 [(0, .ref h0), (1, .ref ht), (2, .int kd), (3, .int zn), (4, .int lm), (5, .int ch)] := hl
  have hin : meth.name = "<init>" := hnm
  have hP : va_P D cls [(h0, .inr (ci, [.null, .int 0, .int 0, .int 0, .int 0, .int 0, .int 0, .int 0, .int 0]))] s.heap := hP
  have hD : va_D A [(h0, .inr (ci, [.null, .int 0, .int 0, .int 0, .int 0, .int 0, .int 0, .int 0, .int 0]))] := hD
  refine lv_aload_n hx hb dX3_init_0 rfl (lv_at hl 0 rfl) ?_
  refine W.objInit hx hb hown (ml_X3_3 hk.1 _) (im_O_init hk.1 _) (co_O_init hk.1 _) rfl (by rw [hml]; exact hl.1) rfl dX3_init_1 (by decide) (Nat.le_of_ble_eq_true rfl) ?_
  refine W.eq (g2 := F0 m 4 ls []) rfl ?_
  refine lv_aload_n hx hb dX3_init_4 rfl (lv_at hl 0 rfl) ?_
  refine lv_aload_n hx hb dX3_init_5 rfl (lv_at hl 1 rfl) ?_
  refine va_putF (D := D) (v := .ref ht) (ty := (.object "AlarmKinds$Trace")) (C := Cn) (T := TX3) (N := 9) hx hb (hd.2 _ _ hk.1) (fun _ h9 => h9) tyX3 tyX3_ok nmX3 hown hK hP hD hS 0 rfl hd.1 0 (by decide) (fl_X3_9 hk.1 _) (fun _ h9 => h9) rfl hin rfl (by decide +kernel) rfl rfl (Nat.le_of_ble_eq_true rfl) dX3_init_6 (fun H locs hP hD hS => ?_)
  have hP : va_P D cls [(h0, .inr (ci, [.ref ht, .int 0, .int 0, .int 0, .int 0, .int 0, .int 0, .int 0, .int 0]))] H := hP
  have hD : va_D A [(h0, .inr (ci, [.ref ht, .int 0, .int 0, .int 0, .int 0, .int 0, .int 0, .int 0, .int 0]))] := hD
  refine lv_aload_n hx hb dX3_init_9 rfl (lv_at hl 0 rfl) ?_
  refine lv_iload_n hx hb dX3_init_10 rfl (lv_at hl 2 rfl) ?_
  refine va_putF (D := D) (v := .int kd) (ty := .int) (C := Cn) (T := TX3) (N := 9) hx hb (hd.2 _ _ hk.1) (fun _ h9 => h9) tyX3 tyX3_ok nmX3 hown hK hP hD hS 0 rfl hd.1 1 (by decide) (fl_X3_15 hk.1 _) (fun _ h9 => h9) rfl hin rfl (by decide +kernel) rfl rfl (Nat.le_of_ble_eq_true rfl) dX3_init_11 (fun H locs hP hD hS => ?_)
  have hP : va_P D cls [(h0, .inr (ci, [.ref ht, .int kd, .int 0, .int 0, .int 0, .int 0, .int 0, .int 0, .int 0]))] H := hP
  have hD : va_D A [(h0, .inr (ci, [.ref ht, .int kd, .int 0, .int 0, .int 0, .int 0, .int 0, .int 0, .int 0]))] := hD
  refine lv_aload_n hx hb dX3_init_14 rfl (lv_at hl 0 rfl) ?_
  refine lv_iload_n hx hb dX3_init_15 rfl (lv_at hl 3 rfl) ?_
  refine va_putF (D := D) (v := .int zn) (ty := .int) (C := Cn) (T := TX3) (N := 9) hx hb (hd.2 _ _ hk.1) (fun _ h9 => h9) tyX3 tyX3_ok nmX3 hown hK hP hD hS 0 rfl hd.1 2 (by decide) (fl_X3_19 hk.1 _) (fun _ h9 => h9) rfl hin rfl (by decide +kernel) rfl rfl (Nat.le_of_ble_eq_true rfl) dX3_init_16 (fun H locs hP hD hS => ?_)
  have hP : va_P D cls [(h0, .inr (ci, [.ref ht, .int kd, .int zn, .int 0, .int 0, .int 0, .int 0, .int 0, .int 0]))] H := hP
  have hD : va_D A [(h0, .inr (ci, [.ref ht, .int kd, .int zn, .int 0, .int 0, .int 0, .int 0, .int 0, .int 0]))] := hD
  refine lv_aload_n hx hb dX3_init_19 rfl (lv_at hl 0 rfl) ?_
  refine lv_iload hx hb dX3_init_20 (lv_at hl 4 rfl) ?_
  refine va_putF (D := D) (v := .int lm) (ty := .int) (C := Cn) (T := TX3) (N := 9) hx hb (hd.2 _ _ hk.1) (fun _ h9 => h9) tyX3 tyX3_ok nmX3 hown hK hP hD hS 0 rfl hd.1 3 (by decide) (fl_X3_22 hk.1 _) (fun _ h9 => h9) rfl hin rfl (by decide +kernel) rfl rfl (Nat.le_of_ble_eq_true rfl) dX3_init_22 (fun H locs hP hD hS => ?_)
  have hP : va_P D cls [(h0, .inr (ci, [.ref ht, .int kd, .int zn, .int lm, .int 0, .int 0, .int 0, .int 0, .int 0]))] H := hP
  have hD : va_D A [(h0, .inr (ci, [.ref ht, .int kd, .int zn, .int lm, .int 0, .int 0, .int 0, .int 0, .int 0]))] := hD
  refine lv_aload_n hx hb dX3_init_25 rfl (lv_at hl 0 rfl) ?_
  refine lv_iload hx hb dX3_init_26 (lv_at hl 5 rfl) ?_
  refine va_put (D := D) (v := .int ch) (ty := .int) (C := Cn) (T := TX3) (N := 9) hx hb (hd.2 _ _ hk.1) (fun _ h9 => h9) tyX3 tyX3_ok nmX3 hown hK hP hD hS 0 rfl hd.1 4 (by decide) (fl_X3_25 hk.1 _) (fun _ h9 => h9) rfl (by decide +kernel) rfl rfl (Nat.le_of_ble_eq_true rfl) dX3_init_28 (fun H locs hP hD hS => ?_)
  have hP : va_P D cls [(h0, .inr (ci, [.ref ht, .int kd, .int zn, .int lm, .int ch, .int 0, .int 0, .int 0, .int 0]))] H := hP
  have hD : va_D A [(h0, .inr (ci, [.ref ht, .int kd, .int zn, .int lm, .int ch, .int 0, .int 0, .int 0, .int 0]))] := hD
  exact rv C hrt hlocks hP hS dX3_init_31

set_option maxHeartbeats 4000000 in
set_option maxRecDepth 100000 in
theorem iW (l : Launch) (D : va_G) (ca : Nat → ClassId) (sa : Nat → Nat) (lo : Nat) {ci : Nat} {Cn : String} (hd : isD ci Cn) : cI l D ca sa lo yX8_init cX8_init ({ frames := 2, cells := 0, slots := 0, locals := 50 }) ci := by
  intro sz h0 ht kd zn lm ch
  refine mk_met (fun A => QV D [(h0, .inr (ci, df ht kd zn lm (ch, 0, 0, 0, false)))] A) (by decide) (Nat.le_of_ble_eq_true rfl) ?_
  intro p e s m below meth c A ls C hrt hlocks hnm hsz hP hD hS hl
  obtain ⟨hx, hb, hml, hown, hk, hz, hlo, hA, hAl⟩ := id C
  have hK : va_K D cls (tyl ca) s := hk.2.1
  have hl : lv_has ls 6 [(0, .ref h0), (1, .ref ht), (2, .int kd), (3, .int zn), (4, .int lm), (5, .int ch)] := hl
  refine lv_aload_n hx hb dX8_init_0 rfl (lv_at hl 0 rfl) ?_
  refine lv_aload_n hx hb dX8_init_1 rfl (lv_at hl 1 rfl) ?_
  refine lv_iload_n hx hb dX8_init_2 rfl (lv_at hl 2 rfl) ?_
  refine lv_iload_n hx hb dX8_init_3 rfl (lv_at hl 3 rfl) ?_
  refine lv_iload hx hb dX8_init_4 (lv_at hl 4 rfl) ?_
  refine lv_iload hx hb dX8_init_6 (lv_at hl 5 rfl) ?_
  refine k_IL (ws := []) C (iP l D ca sa lo hd) (fun U A9 h => co_X3_init h A9) (in_X3 hk.1 _) (ml_X8_1 hk.1 _) (im_X3_init hk.1 _) rfl (by decide +kernel) ⟨⟨rfl, rfl⟩, by decide, by decide⟩ hP hD hS hl.1 (Nat.le_of_ble_eq_true rfl) dX8_init_8 ⟨by decide, by decide⟩ (fun H locs hP hD hS => ?_)
  exact rv C hrt hlocks hP hS dX8_init_11

set_option maxHeartbeats 4000000 in
set_option maxRecDepth 100000 in
theorem iR (l : Launch) (D : va_G) (ca : Nat → ClassId) (sa : Nat → Nat) (lo : Nat) {ci : Nat} {Cn : String} (hd : isD ci Cn) : cI l D ca sa lo yX4_init cX4_init ({ frames := 3, cells := 0, slots := 0, locals := 80 }) ci := by
  intro sz h0 ht kd zn lm ch
  refine mk_met (fun A => QV D [(h0, .inr (ci, df ht kd zn lm (ch, 0, 0, 0, false)))] A) (by decide) (Nat.le_of_ble_eq_true rfl) ?_
  intro p e s m below meth c A ls C hrt hlocks hnm hsz hP hD hS hl
  obtain ⟨hx, hb, hml, hown, hk, hz, hlo, hA, hAl⟩ := id C
  have hK : va_K D cls (tyl ca) s := hk.2.1
  have hl : lv_has ls 6 [(0, .ref h0), (1, .ref ht), (2, .int kd), (3, .int zn), (4, .int lm), (5, .int ch)] := hl
  refine lv_aload_n hx hb dX4_init_0 rfl (lv_at hl 0 rfl) ?_
  refine lv_aload_n hx hb dX4_init_1 rfl (lv_at hl 1 rfl) ?_
  refine lv_iload_n hx hb dX4_init_2 rfl (lv_at hl 2 rfl) ?_
  refine lv_iload_n hx hb dX4_init_3 rfl (lv_at hl 3 rfl) ?_
  refine lv_iload hx hb dX4_init_4 (lv_at hl 4 rfl) ?_
  refine lv_iload hx hb dX4_init_6 (lv_at hl 5 rfl) ?_
  refine k_IL (ws := []) C (iW l D ca sa lo hd) (fun U A9 h => co_X8_init h A9) (in_X8 hk.1 _) (ml_X4_3 hk.1 _) (im_X8_init hk.1 _) rfl (by decide +kernel) ⟨⟨rfl, rfl⟩, by decide, by decide⟩ hP hD hS hl.1 (Nat.le_of_ble_eq_true rfl) dX4_init_8 ⟨by decide, by decide⟩ (fun H locs hP hD hS => ?_)
  exact rv C hrt hlocks hP hS dX4_init_11

set_option maxHeartbeats 4000000 in
set_option maxRecDepth 100000 in
theorem iS (l : Launch) (D : va_G) (ca : Nat → ClassId) (sa : Nat → Nat) (lo : Nat) {ci : Nat} {Cn : String} (hd : isD ci Cn) : cI l D ca sa lo yX5_init cX5_init ({ frames := 3, cells := 0, slots := 0, locals := 80 }) ci := by
  intro sz h0 ht kd zn lm ch
  refine mk_met (fun A => QV D [(h0, .inr (ci, df ht kd zn lm (ch, 0, 0, 0, false)))] A) (by decide) (Nat.le_of_ble_eq_true rfl) ?_
  intro p e s m below meth c A ls C hrt hlocks hnm hsz hP hD hS hl
  obtain ⟨hx, hb, hml, hown, hk, hz, hlo, hA, hAl⟩ := id C
  have hK : va_K D cls (tyl ca) s := hk.2.1
  have hl : lv_has ls 6 [(0, .ref h0), (1, .ref ht), (2, .int kd), (3, .int zn), (4, .int lm), (5, .int ch)] := hl
  refine lv_aload_n hx hb dX5_init_0 rfl (lv_at hl 0 rfl) ?_
  refine lv_aload_n hx hb dX5_init_1 rfl (lv_at hl 1 rfl) ?_
  refine lv_iload_n hx hb dX5_init_2 rfl (lv_at hl 2 rfl) ?_
  refine lv_iload_n hx hb dX5_init_3 rfl (lv_at hl 3 rfl) ?_
  refine lv_iload hx hb dX5_init_4 (lv_at hl 4 rfl) ?_
  refine lv_iload hx hb dX5_init_6 (lv_at hl 5 rfl) ?_
  refine k_IL (ws := []) C (iW l D ca sa lo hd) (fun U A9 h => co_X8_init h A9) (in_X8 hk.1 _) (ml_X5_3 hk.1 _) (im_X8_init hk.1 _) rfl (by decide +kernel) ⟨⟨rfl, rfl⟩, by decide, by decide⟩ hP hD hS hl.1 (Nat.le_of_ble_eq_true rfl) dX5_init_8 ⟨by decide, by decide⟩ (fun H locs hP hD hS => ?_)
  exact rv C hrt hlocks hP hS dX5_init_11

set_option maxHeartbeats 4000000 in
set_option maxRecDepth 100000 in
theorem iF (l : Launch) (D : va_G) (ca : Nat → ClassId) (sa : Nat → Nat) (lo : Nat) {ci : Nat} {Cn : String} (hd : isD ci Cn) : cI l D ca sa lo yX1_init cX1_init ({ frames := 3, cells := 0, slots := 0, locals := 80 }) ci := by
  intro sz h0 ht kd zn lm ch
  refine mk_met (fun A => QV D [(h0, .inr (ci, df ht kd zn lm (ch, 0, 0, 0, false)))] A) (by decide) (Nat.le_of_ble_eq_true rfl) ?_
  intro p e s m below meth c A ls C hrt hlocks hnm hsz hP hD hS hl
  obtain ⟨hx, hb, hml, hown, hk, hz, hlo, hA, hAl⟩ := id C
  have hK : va_K D cls (tyl ca) s := hk.2.1
  have hl : lv_has ls 6 [(0, .ref h0), (1, .ref ht), (2, .int kd), (3, .int zn), (4, .int lm), (5, .int ch)] := hl
  refine lv_aload_n hx hb dX1_init_0 rfl (lv_at hl 0 rfl) ?_
  refine lv_aload_n hx hb dX1_init_1 rfl (lv_at hl 1 rfl) ?_
  refine lv_iload_n hx hb dX1_init_2 rfl (lv_at hl 2 rfl) ?_
  refine lv_iload_n hx hb dX1_init_3 rfl (lv_at hl 3 rfl) ?_
  refine lv_iload hx hb dX1_init_4 (lv_at hl 4 rfl) ?_
  refine lv_iload hx hb dX1_init_6 (lv_at hl 5 rfl) ?_
  refine k_IL (ws := []) C (iW l D ca sa lo hd) (fun U A9 h => co_X8_init h A9) (in_X8 hk.1 _) (ml_X1_3 hk.1 _) (im_X8_init hk.1 _) rfl (by decide +kernel) ⟨⟨rfl, rfl⟩, by decide, by decide⟩ hP hD hS hl.1 (Nat.le_of_ble_eq_true rfl) dX1_init_8 ⟨by decide, by decide⟩ (fun H locs hP hD hS => ?_)
  exact rv C hrt hlocks hP hS dX1_init_11

set_option maxHeartbeats 4000000 in
set_option maxRecDepth 100000 in
theorem iH (l : Launch) (D : va_G) (ca : Nat → ClassId) (sa : Nat → Nat) (lo : Nat) {ci : Nat} {Cn : String} (hd : isD ci Cn) : cI l D ca sa lo yX2_init cX2_init ({ frames := 4, cells := 0, slots := 0, locals := 110 }) ci := by
  intro sz h0 ht kd zn lm ch
  refine mk_met (fun A => QV D [(h0, .inr (ci, df ht kd zn lm (ch, 0, 0, 0, false)))] A) (by decide) (Nat.le_of_ble_eq_true rfl) ?_
  intro p e s m below meth c A ls C hrt hlocks hnm hsz hP hD hS hl
  obtain ⟨hx, hb, hml, hown, hk, hz, hlo, hA, hAl⟩ := id C
  have hK : va_K D cls (tyl ca) s := hk.2.1
  have hl : lv_has ls 6 [(0, .ref h0), (1, .ref ht), (2, .int kd), (3, .int zn), (4, .int lm), (5, .int ch)] := hl
  refine lv_aload_n hx hb dX2_init_0 rfl (lv_at hl 0 rfl) ?_
  refine lv_aload_n hx hb dX2_init_1 rfl (lv_at hl 1 rfl) ?_
  refine lv_iload_n hx hb dX2_init_2 rfl (lv_at hl 2 rfl) ?_
  refine lv_iload_n hx hb dX2_init_3 rfl (lv_at hl 3 rfl) ?_
  refine lv_iload hx hb dX2_init_4 (lv_at hl 4 rfl) ?_
  refine lv_iload hx hb dX2_init_6 (lv_at hl 5 rfl) ?_
  refine k_IL (ws := []) C (iR l D ca sa lo hd) (fun U A9 h => co_X4_init h A9) (in_X4 hk.1 _) (ml_X2_3 hk.1 _) (im_X4_init hk.1 _) rfl (by decide +kernel) ⟨⟨rfl, rfl⟩, by decide, by decide⟩ hP hD hS hl.1 (Nat.le_of_ble_eq_true rfl) dX2_init_8 ⟨by decide, by decide⟩ (fun H locs hP hD hS => ?_)
  exact rv C hrt hlocks hP hS dX2_init_11

set_option maxHeartbeats 4000000 in
set_option maxRecDepth 100000 in
theorem iB (l : Launch) (D : va_G) (ca : Nat → ClassId) (sa : Nat → Nat) (lo : Nat) {ci : Nat} {Cn : String} (hd : isD ci Cn) : cI l D ca sa lo yX0_init cX0_init ({ frames := 4, cells := 0, slots := 0, locals := 110 }) ci := by
  intro sz h0 ht kd zn lm ch
  refine mk_met (fun A => QV D [(h0, .inr (ci, df ht kd zn lm (ch, 0, 0, 0, false)))] A) (by decide) (Nat.le_of_ble_eq_true rfl) ?_
  intro p e s m below meth c A ls C hrt hlocks hnm hsz hP hD hS hl
  obtain ⟨hx, hb, hml, hown, hk, hz, hlo, hA, hAl⟩ := id C
  have hK : va_K D cls (tyl ca) s := hk.2.1
  have hl : lv_has ls 6 [(0, .ref h0), (1, .ref ht), (2, .int kd), (3, .int zn), (4, .int lm), (5, .int ch)] := hl
  refine lv_aload_n hx hb dX0_init_0 rfl (lv_at hl 0 rfl) ?_
  refine lv_aload_n hx hb dX0_init_1 rfl (lv_at hl 1 rfl) ?_
  refine lv_iload_n hx hb dX0_init_2 rfl (lv_at hl 2 rfl) ?_
  refine lv_iload_n hx hb dX0_init_3 rfl (lv_at hl 3 rfl) ?_
  refine lv_iload hx hb dX0_init_4 (lv_at hl 4 rfl) ?_
  refine lv_iload hx hb dX0_init_6 (lv_at hl 5 rfl) ?_
  refine k_IL (ws := []) C (iR l D ca sa lo hd) (fun U A9 h => co_X4_init h A9) (in_X4 hk.1 _) (ml_X0_3 hk.1 _) (im_X4_init hk.1 _) rfl (by decide +kernel) ⟨⟨rfl, rfl⟩, by decide, by decide⟩ hP hD hS hl.1 (Nat.le_of_ble_eq_true rfl) dX0_init_8 ⟨by decide, by decide⟩ (fun H locs hP hD hS => ?_)
  exact rv C hrt hlocks hP hS dX0_init_11

set_option maxHeartbeats 4000000 in
set_option maxRecDepth 100000 in
theorem iT (l : Launch) (D : va_G) (ca : Nat → ClassId) (sa : Nat → Nat) (lo : Nat) {ci : Nat} {Cn : String} (hd : isD ci Cn) : cI l D ca sa lo yX7_init cX7_init ({ frames := 4, cells := 0, slots := 0, locals := 110 }) ci := by
  intro sz h0 ht kd zn lm ch
  refine mk_met (fun A => QV D [(h0, .inr (ci, df ht kd zn lm (ch, 0, 0, 0, false)))] A) (by decide) (Nat.le_of_ble_eq_true rfl) ?_
  intro p e s m below meth c A ls C hrt hlocks hnm hsz hP hD hS hl
  obtain ⟨hx, hb, hml, hown, hk, hz, hlo, hA, hAl⟩ := id C
  have hK : va_K D cls (tyl ca) s := hk.2.1
  have hl : lv_has ls 6 [(0, .ref h0), (1, .ref ht), (2, .int kd), (3, .int zn), (4, .int lm), (5, .int ch)] := hl
  refine lv_aload_n hx hb dX7_init_0 rfl (lv_at hl 0 rfl) ?_
  refine lv_aload_n hx hb dX7_init_1 rfl (lv_at hl 1 rfl) ?_
  refine lv_iload_n hx hb dX7_init_2 rfl (lv_at hl 2 rfl) ?_
  refine lv_iload_n hx hb dX7_init_3 rfl (lv_at hl 3 rfl) ?_
  refine lv_iload hx hb dX7_init_4 (lv_at hl 4 rfl) ?_
  refine lv_iload hx hb dX7_init_6 (lv_at hl 5 rfl) ?_
  refine k_IL (ws := []) C (iS l D ca sa lo hd) (fun U A9 h => co_X5_init h A9) (in_X5 hk.1 _) (ml_X7_3 hk.1 _) (im_X5_init hk.1 _) rfl (by decide +kernel) ⟨⟨rfl, rfl⟩, by decide, by decide⟩ hP hD hS hl.1 (Nat.le_of_ble_eq_true rfl) dX7_init_8 ⟨by decide, by decide⟩ (fun H locs hP hD hS => ?_)
  exact rv C hrt hlocks hP hS dX7_init_11

def pN (kd : Nat) (zn lm ch : Int32) : Pd := (kd, zn, lm, ch, 0, 0, 0, false)
def QM (D : va_G) (w : Nat → va_W) (A : Nat → Prop) : Array Value → State → Outcome → State → Prop := va_Qr (S := Unit) (fun _ => True) (fun _ a t9 => va_P D cls (w a) t9.heap ∧ va_D A (w a)) A
section MK
variable {D : va_G} {ca : Nat → ClassId} {sa : Nat → Nat} {lo : Nat} {p : Program} {l : Launch} {e : Env} {R : Room} {s : State} {m : MethodId} {args : Array Value} {below : List Frame} {meth : Method} {c : Code} {cc : ByteArray} {nL : Nat} {own : String} {A : Nat → Prop} {H : Heap} {locs : List Loc} {cells slots : Nat} {ls : Array Slot} {pc : Nat}
theorem rm_ (C : Cx D ca sa lo p s m c cc nL own A) {Cn : String} (hrt : meth.sig.returnType = some (.object Cn)) (hlocks : meth.locks = false) {w : Nat → va_W} {a : Nat} (hP : va_P D cls (w a) H) (hD : va_D A (w a)) (hS : va_S A s.heap H locs) (hdg : decode cc pc = .ok (.areturn, 1)) : W p l e R s m args below meth c H locs cells slots (MQ below (QM D w A) args s cells slots A) (F0 m pc ls [.ref a]) :=
  W.aret C.1 C.2.1 hrt (Or.inl ⟨_, rfl⟩) (Or.inr ⟨a, rfl⟩) (fun t ht hW => ⟨⟨(), a, rfl, trivial, by subst ht; exact hP, hD⟩, hS.F ht⟩) hS.2.2 hdg hlocks
end MK

set_option maxHeartbeats 4000000 in
set_option maxRecDepth 100000 in
theorem m_make (l : Launch) (D : va_G) (ca : Nat → ClassId) (sa : Nat → Nat) (lo : Nat) (x0 da ht hr : Nat) (L : List Nat) (Q : List Pd) (t : Tr) (hok : okP L Q) (kd : Nat) (hkd : kd < 8) (zn lm ch : Int32) (sz : Nat) : Met l yX9_make [.code yX9_make cX9_make 5 (some (.object "AlarmKinds$Plain"))] ({ frames := 5, cells := 1, slots := 9, locals := 140 }) (PX D ca sa lo sz [.ref x0, .int (nI kd), .int zn, .int lm, .int ch] (wx ca x0 da ht hr L Q t)) (QM D (fun a => wx ca x0 da ht hr L Q t ++ [cD ht (a, pN kd zn lm ch)]) (va_A (wx ca x0 da ht hr L Q t) sz)) 1 9 (va_A (wx ca x0 da ht hr L Q t) sz) := by
  refine mk_met (fun A => QM D (fun a => wx ca x0 da ht hr L Q t ++ [cD ht (a, pN kd zn lm ch)]) A) (by decide) (Nat.le_of_ble_eq_true rfl) ?_
  intro p e s m below meth c A ls C hrt hlocks hnm hsz hP hD hS hl
  obtain ⟨hx, hb, hml, hown, hk, hz, hlo, hA, hAl⟩ := id C
  have hK : va_K D cls (tyl ca) s := hk.2.1
  have hl : lv_has ls 5 [(0, .ref x0), (1, .int (nI kd)), (2, .int zn), (3, .int lm), (4, .int ch)] := hl
  refine lv_iload_n hx hb dX9_make_0 rfl (lv_at hl 1 rfl) ?_
  rcases k8 hkd with rfl | rfl | rfl | rfl | rfl | rfl | rfl | rfl
  · refine lv_tableOut (tgt := 163) hx hb dX9_make_1 (Or.inl (by decide)) (by decide) ?_
    refine va_new (ci := 3) (fs := [.null, .int 0, .int 0, .int 0, .int 0, .int 0, .int 0, .int 0, .int 0]) (C := RX3) (T := TX3) (N := 9) hx hb (uc_3 hk.1 _) (fun _ h9 => h9) tyX3 tyX3_ok hown (cl_X9_9 hk.1 _) (ia_X3 hk.1 _) (in_X3 hk.1 _) hK hP hD hS hA rfl (fun j hj => by rcases (by omega : j = 0 ∨ j = 1 ∨ j = 2 ∨ j = 3 ∨ j = 4 ∨ j = 5 ∨ j = 6 ∨ j = 7 ∨ j = 8) with rfl | rfl | rfl | rfl | rfl | rfl | rfl | rfl | rfl <;> rfl) (by decide) (by decide) dX9_make_163 (fun q H hP hD hS => ?_)
    have hP : va_P D cls (wx ca x0 da ht hr L Q t ++ z9 q 3) H := hP
    have hD : va_D A (wx ca x0 da ht hr L Q t ++ z9 q 3) := hD
    refine lv_dup hx hb dX9_make_166 rfl ?_
    refine lv_aload_n hx hb dX9_make_167 rfl (lv_at hl 0 rfl) ?_
    refine va_get (D := D) (C := RX9) (T := TX9) (N := 3) hx hb (uc_9 hk.1 _) (fun _ h9 => h9) hown hK hP 0 rfl rfl 1 (by decide) (fl_X9_18 hk.1 _) (fun _ h9 => h9) rfl dX9_make_168 ?_
    refine lv_iload_n hx hb dX9_make_171 rfl (lv_at hl 1 rfl) ?_
    refine lv_iload_n hx hb dX9_make_172 rfl (lv_at hl 2 rfl) ?_
    refine lv_iload_n hx hb dX9_make_173 rfl (lv_at hl 3 rfl) ?_
    refine lv_iload hx hb dX9_make_174 (lv_at hl 4 rfl) ?_
    refine k_IL (ws := wx ca x0 da ht hr L Q t) C (iP l D ca sa lo isD_3) (fun U A9 h => co_X3_init h A9) (in_X3 hk.1 _) (ml_X9_137 hk.1 _) (im_X3_init hk.1 _) rfl (by decide +kernel) ⟨⟨rfl, rfl⟩, by decide, by decide⟩ hP hD hS hl.1 (Nat.le_of_ble_eq_true rfl) dX9_make_176 ⟨by decide, by decide⟩ (fun H locs hP hD hS => ?_)
    exact rm_ (w := fun a => wx ca x0 da ht hr L Q t ++ [cD ht (a, pN 0 zn lm ch)]) C hrt hlocks hP hD hS dX9_make_179
  · refine lv_tableIn (tgt := 44) hx hb dX9_make_1 (by decide) (by decide) rfl (by decide) ?_
    refine va_new (ci := 8) (fs := [.null, .int 0, .int 0, .int 0, .int 0, .int 0, .int 0, .int 0, .int 0]) (C := RX8) (T := TX3) (N := 9) hx hb (uc_8 hk.1 _) (fun _ h9 => h9) tyX3 tyX3_ok hown (cl_X9_114 hk.1 _) (ia_X8 hk.1 _) (in_X8 hk.1 _) hK hP hD hS hA rfl (fun j hj => by rcases (by omega : j = 0 ∨ j = 1 ∨ j = 2 ∨ j = 3 ∨ j = 4 ∨ j = 5 ∨ j = 6 ∨ j = 7 ∨ j = 8) with rfl | rfl | rfl | rfl | rfl | rfl | rfl | rfl | rfl <;> rfl) (by decide) (by decide) dX9_make_44 (fun q H hP hD hS => ?_)
    have hP : va_P D cls (wx ca x0 da ht hr L Q t ++ z9 q 8) H := hP
    have hD : va_D A (wx ca x0 da ht hr L Q t ++ z9 q 8) := hD
    refine lv_dup hx hb dX9_make_47 rfl ?_
    refine lv_aload_n hx hb dX9_make_48 rfl (lv_at hl 0 rfl) ?_
    refine va_get (D := D) (C := RX9) (T := TX9) (N := 3) hx hb (uc_9 hk.1 _) (fun _ h9 => h9) hown hK hP 0 rfl rfl 1 (by decide) (fl_X9_18 hk.1 _) (fun _ h9 => h9) rfl dX9_make_49 ?_
    refine lv_iload_n hx hb dX9_make_52 rfl (lv_at hl 1 rfl) ?_
    refine lv_iload_n hx hb dX9_make_53 rfl (lv_at hl 2 rfl) ?_
    refine lv_iload_n hx hb dX9_make_54 rfl (lv_at hl 3 rfl) ?_
    refine lv_iload hx hb dX9_make_55 (lv_at hl 4 rfl) ?_
    refine k_IL (ws := wx ca x0 da ht hr L Q t) C (iW l D ca sa lo isD_8) (fun U A9 h => co_X8_init h A9) (in_X8 hk.1 _) (ml_X9_116 hk.1 _) (im_X8_init hk.1 _) rfl (by decide +kernel) ⟨⟨rfl, rfl⟩, by decide, by decide⟩ hP hD hS hl.1 (Nat.le_of_ble_eq_true rfl) dX9_make_57 ⟨by decide, by decide⟩ (fun H locs hP hD hS => ?_)
    exact rm_ (w := fun a => wx ca x0 da ht hr L Q t ++ [cD ht (a, pN 1 zn lm ch)]) C hrt hlocks hP hD hS dX9_make_60
  · refine lv_tableIn (tgt := 61) hx hb dX9_make_1 (by decide) (by decide) rfl (by decide) ?_
    refine va_new (ci := 4) (fs := [.null, .int 0, .int 0, .int 0, .int 0, .int 0, .int 0, .int 0, .int 0]) (C := RX4) (T := TX3) (N := 9) hx hb (uc_4 hk.1 _) (fun _ h9 => h9) tyX3 tyX3_ok hown (cl_X9_119 hk.1 _) (ia_X4 hk.1 _) (in_X4 hk.1 _) hK hP hD hS hA rfl (fun j hj => by rcases (by omega : j = 0 ∨ j = 1 ∨ j = 2 ∨ j = 3 ∨ j = 4 ∨ j = 5 ∨ j = 6 ∨ j = 7 ∨ j = 8) with rfl | rfl | rfl | rfl | rfl | rfl | rfl | rfl | rfl <;> rfl) (by decide) (by decide) dX9_make_61 (fun q H hP hD hS => ?_)
    have hP : va_P D cls (wx ca x0 da ht hr L Q t ++ z9 q 4) H := hP
    have hD : va_D A (wx ca x0 da ht hr L Q t ++ z9 q 4) := hD
    refine lv_dup hx hb dX9_make_64 rfl ?_
    refine lv_aload_n hx hb dX9_make_65 rfl (lv_at hl 0 rfl) ?_
    refine va_get (D := D) (C := RX9) (T := TX9) (N := 3) hx hb (uc_9 hk.1 _) (fun _ h9 => h9) hown hK hP 0 rfl rfl 1 (by decide) (fl_X9_18 hk.1 _) (fun _ h9 => h9) rfl dX9_make_66 ?_
    refine lv_iload_n hx hb dX9_make_69 rfl (lv_at hl 1 rfl) ?_
    refine lv_iload_n hx hb dX9_make_70 rfl (lv_at hl 2 rfl) ?_
    refine lv_iload_n hx hb dX9_make_71 rfl (lv_at hl 3 rfl) ?_
    refine lv_iload hx hb dX9_make_72 (lv_at hl 4 rfl) ?_
    refine k_IL (ws := wx ca x0 da ht hr L Q t) C (iR l D ca sa lo isD_4) (fun U A9 h => co_X4_init h A9) (in_X4 hk.1 _) (ml_X9_121 hk.1 _) (im_X4_init hk.1 _) rfl (by decide +kernel) ⟨⟨rfl, rfl⟩, by decide, by decide⟩ hP hD hS hl.1 (Nat.le_of_ble_eq_true rfl) dX9_make_74 ⟨by decide, by decide⟩ (fun H locs hP hD hS => ?_)
    exact rm_ (w := fun a => wx ca x0 da ht hr L Q t ++ [cD ht (a, pN 2 zn lm ch)]) C hrt hlocks hP hD hS dX9_make_77
  · refine lv_tableIn (tgt := 78) hx hb dX9_make_1 (by decide) (by decide) rfl (by decide) ?_
    refine va_new (ci := 5) (fs := [.null, .int 0, .int 0, .int 0, .int 0, .int 0, .int 0, .int 0, .int 0]) (C := RX5) (T := TX3) (N := 9) hx hb (uc_5 hk.1 _) (fun _ h9 => h9) tyX3 tyX3_ok hown (cl_X9_122 hk.1 _) (ia_X5 hk.1 _) (in_X5 hk.1 _) hK hP hD hS hA rfl (fun j hj => by rcases (by omega : j = 0 ∨ j = 1 ∨ j = 2 ∨ j = 3 ∨ j = 4 ∨ j = 5 ∨ j = 6 ∨ j = 7 ∨ j = 8) with rfl | rfl | rfl | rfl | rfl | rfl | rfl | rfl | rfl <;> rfl) (by decide) (by decide) dX9_make_78 (fun q H hP hD hS => ?_)
    have hP : va_P D cls (wx ca x0 da ht hr L Q t ++ z9 q 5) H := hP
    have hD : va_D A (wx ca x0 da ht hr L Q t ++ z9 q 5) := hD
    refine lv_dup hx hb dX9_make_81 rfl ?_
    refine lv_aload_n hx hb dX9_make_82 rfl (lv_at hl 0 rfl) ?_
    refine va_get (D := D) (C := RX9) (T := TX9) (N := 3) hx hb (uc_9 hk.1 _) (fun _ h9 => h9) hown hK hP 0 rfl rfl 1 (by decide) (fl_X9_18 hk.1 _) (fun _ h9 => h9) rfl dX9_make_83 ?_
    refine lv_iload_n hx hb dX9_make_86 rfl (lv_at hl 1 rfl) ?_
    refine lv_iload_n hx hb dX9_make_87 rfl (lv_at hl 2 rfl) ?_
    refine lv_iload_n hx hb dX9_make_88 rfl (lv_at hl 3 rfl) ?_
    refine lv_iload hx hb dX9_make_89 (lv_at hl 4 rfl) ?_
    refine k_IL (ws := wx ca x0 da ht hr L Q t) C (iS l D ca sa lo isD_5) (fun U A9 h => co_X5_init h A9) (in_X5 hk.1 _) (ml_X9_124 hk.1 _) (im_X5_init hk.1 _) rfl (by decide +kernel) ⟨⟨rfl, rfl⟩, by decide, by decide⟩ hP hD hS hl.1 (Nat.le_of_ble_eq_true rfl) dX9_make_91 ⟨by decide, by decide⟩ (fun H locs hP hD hS => ?_)
    exact rm_ (w := fun a => wx ca x0 da ht hr L Q t ++ [cD ht (a, pN 3 zn lm ch)]) C hrt hlocks hP hD hS dX9_make_94
  · refine lv_tableIn (tgt := 95) hx hb dX9_make_1 (by decide) (by decide) rfl (by decide) ?_
    refine va_new (ci := 2) (fs := [.null, .int 0, .int 0, .int 0, .int 0, .int 0, .int 0, .int 0, .int 0]) (C := RX2) (T := TX3) (N := 9) hx hb (uc_2 hk.1 _) (fun _ h9 => h9) tyX3 tyX3_ok hown (cl_X9_125 hk.1 _) (ia_X2 hk.1 _) (in_X2 hk.1 _) hK hP hD hS hA rfl (fun j hj => by rcases (by omega : j = 0 ∨ j = 1 ∨ j = 2 ∨ j = 3 ∨ j = 4 ∨ j = 5 ∨ j = 6 ∨ j = 7 ∨ j = 8) with rfl | rfl | rfl | rfl | rfl | rfl | rfl | rfl | rfl <;> rfl) (by decide) (by decide) dX9_make_95 (fun q H hP hD hS => ?_)
    have hP : va_P D cls (wx ca x0 da ht hr L Q t ++ z9 q 2) H := hP
    have hD : va_D A (wx ca x0 da ht hr L Q t ++ z9 q 2) := hD
    refine lv_dup hx hb dX9_make_98 rfl ?_
    refine lv_aload_n hx hb dX9_make_99 rfl (lv_at hl 0 rfl) ?_
    refine va_get (D := D) (C := RX9) (T := TX9) (N := 3) hx hb (uc_9 hk.1 _) (fun _ h9 => h9) hown hK hP 0 rfl rfl 1 (by decide) (fl_X9_18 hk.1 _) (fun _ h9 => h9) rfl dX9_make_100 ?_
    refine lv_iload_n hx hb dX9_make_103 rfl (lv_at hl 1 rfl) ?_
    refine lv_iload_n hx hb dX9_make_104 rfl (lv_at hl 2 rfl) ?_
    refine lv_iload_n hx hb dX9_make_105 rfl (lv_at hl 3 rfl) ?_
    refine lv_iload hx hb dX9_make_106 (lv_at hl 4 rfl) ?_
    refine k_IL (ws := wx ca x0 da ht hr L Q t) C (iH l D ca sa lo isD_2) (fun U A9 h => co_X2_init h A9) (in_X2 hk.1 _) (ml_X9_127 hk.1 _) (im_X2_init hk.1 _) rfl (by decide +kernel) ⟨⟨rfl, rfl⟩, by decide, by decide⟩ hP hD hS hl.1 (Nat.le_of_ble_eq_true rfl) dX9_make_108 ⟨by decide, by decide⟩ (fun H locs hP hD hS => ?_)
    exact rm_ (w := fun a => wx ca x0 da ht hr L Q t ++ [cD ht (a, pN 4 zn lm ch)]) C hrt hlocks hP hD hS dX9_make_111
  · refine lv_tableIn (tgt := 112) hx hb dX9_make_1 (by decide) (by decide) rfl (by decide) ?_
    refine va_new (ci := 0) (fs := [.null, .int 0, .int 0, .int 0, .int 0, .int 0, .int 0, .int 0, .int 0]) (C := RX0) (T := TX3) (N := 9) hx hb (uc_0 hk.1 _) (fun _ h9 => h9) tyX3 tyX3_ok hown (cl_X9_128 hk.1 _) (ia_X0 hk.1 _) (in_X0 hk.1 _) hK hP hD hS hA rfl (fun j hj => by rcases (by omega : j = 0 ∨ j = 1 ∨ j = 2 ∨ j = 3 ∨ j = 4 ∨ j = 5 ∨ j = 6 ∨ j = 7 ∨ j = 8) with rfl | rfl | rfl | rfl | rfl | rfl | rfl | rfl | rfl <;> rfl) (by decide) (by decide) dX9_make_112 (fun q H hP hD hS => ?_)
    have hP : va_P D cls (wx ca x0 da ht hr L Q t ++ z9 q 0) H := hP
    have hD : va_D A (wx ca x0 da ht hr L Q t ++ z9 q 0) := hD
    refine lv_dup hx hb dX9_make_115 rfl ?_
    refine lv_aload_n hx hb dX9_make_116 rfl (lv_at hl 0 rfl) ?_
    refine va_get (D := D) (C := RX9) (T := TX9) (N := 3) hx hb (uc_9 hk.1 _) (fun _ h9 => h9) hown hK hP 0 rfl rfl 1 (by decide) (fl_X9_18 hk.1 _) (fun _ h9 => h9) rfl dX9_make_117 ?_
    refine lv_iload_n hx hb dX9_make_120 rfl (lv_at hl 1 rfl) ?_
    refine lv_iload_n hx hb dX9_make_121 rfl (lv_at hl 2 rfl) ?_
    refine lv_iload_n hx hb dX9_make_122 rfl (lv_at hl 3 rfl) ?_
    refine lv_iload hx hb dX9_make_123 (lv_at hl 4 rfl) ?_
    refine k_IL (ws := wx ca x0 da ht hr L Q t) C (iB l D ca sa lo isD_0) (fun U A9 h => co_X0_init h A9) (in_X0 hk.1 _) (ml_X9_130 hk.1 _) (im_X0_init hk.1 _) rfl (by decide +kernel) ⟨⟨rfl, rfl⟩, by decide, by decide⟩ hP hD hS hl.1 (Nat.le_of_ble_eq_true rfl) dX9_make_125 ⟨by decide, by decide⟩ (fun H locs hP hD hS => ?_)
    exact rm_ (w := fun a => wx ca x0 da ht hr L Q t ++ [cD ht (a, pN 5 zn lm ch)]) C hrt hlocks hP hD hS dX9_make_128
  · refine lv_tableIn (tgt := 129) hx hb dX9_make_1 (by decide) (by decide) rfl (by decide) ?_
    refine va_new (ci := 1) (fs := [.null, .int 0, .int 0, .int 0, .int 0, .int 0, .int 0, .int 0, .int 0]) (C := RX1) (T := TX3) (N := 9) hx hb (uc_1 hk.1 _) (fun _ h9 => h9) tyX3 tyX3_ok hown (cl_X9_131 hk.1 _) (ia_X1 hk.1 _) (in_X1 hk.1 _) hK hP hD hS hA rfl (fun j hj => by rcases (by omega : j = 0 ∨ j = 1 ∨ j = 2 ∨ j = 3 ∨ j = 4 ∨ j = 5 ∨ j = 6 ∨ j = 7 ∨ j = 8) with rfl | rfl | rfl | rfl | rfl | rfl | rfl | rfl | rfl <;> rfl) (by decide) (by decide) dX9_make_129 (fun q H hP hD hS => ?_)
    have hP : va_P D cls (wx ca x0 da ht hr L Q t ++ z9 q 1) H := hP
    have hD : va_D A (wx ca x0 da ht hr L Q t ++ z9 q 1) := hD
    refine lv_dup hx hb dX9_make_132 rfl ?_
    refine lv_aload_n hx hb dX9_make_133 rfl (lv_at hl 0 rfl) ?_
    refine va_get (D := D) (C := RX9) (T := TX9) (N := 3) hx hb (uc_9 hk.1 _) (fun _ h9 => h9) hown hK hP 0 rfl rfl 1 (by decide) (fl_X9_18 hk.1 _) (fun _ h9 => h9) rfl dX9_make_134 ?_
    refine lv_iload_n hx hb dX9_make_137 rfl (lv_at hl 1 rfl) ?_
    refine lv_iload_n hx hb dX9_make_138 rfl (lv_at hl 2 rfl) ?_
    refine lv_iload_n hx hb dX9_make_139 rfl (lv_at hl 3 rfl) ?_
    refine lv_iload hx hb dX9_make_140 (lv_at hl 4 rfl) ?_
    refine k_IL (ws := wx ca x0 da ht hr L Q t) C (iF l D ca sa lo isD_1) (fun U A9 h => co_X1_init h A9) (in_X1 hk.1 _) (ml_X9_133 hk.1 _) (im_X1_init hk.1 _) rfl (by decide +kernel) ⟨⟨rfl, rfl⟩, by decide, by decide⟩ hP hD hS hl.1 (Nat.le_of_ble_eq_true rfl) dX9_make_142 ⟨by decide, by decide⟩ (fun H locs hP hD hS => ?_)
    exact rm_ (w := fun a => wx ca x0 da ht hr L Q t ++ [cD ht (a, pN 6 zn lm ch)]) C hrt hlocks hP hD hS dX9_make_145
  · refine lv_tableIn (tgt := 146) hx hb dX9_make_1 (by decide) (by decide) rfl (by decide) ?_
    refine va_new (ci := 7) (fs := [.null, .int 0, .int 0, .int 0, .int 0, .int 0, .int 0, .int 0, .int 0]) (C := RX7) (T := TX3) (N := 9) hx hb (uc_7 hk.1 _) (fun _ h9 => h9) tyX3 tyX3_ok hown (cl_X9_134 hk.1 _) (ia_X7 hk.1 _) (in_X7 hk.1 _) hK hP hD hS hA rfl (fun j hj => by rcases (by omega : j = 0 ∨ j = 1 ∨ j = 2 ∨ j = 3 ∨ j = 4 ∨ j = 5 ∨ j = 6 ∨ j = 7 ∨ j = 8) with rfl | rfl | rfl | rfl | rfl | rfl | rfl | rfl | rfl <;> rfl) (by decide) (by decide) dX9_make_146 (fun q H hP hD hS => ?_)
    have hP : va_P D cls (wx ca x0 da ht hr L Q t ++ z9 q 7) H := hP
    have hD : va_D A (wx ca x0 da ht hr L Q t ++ z9 q 7) := hD
    refine lv_dup hx hb dX9_make_149 rfl ?_
    refine lv_aload_n hx hb dX9_make_150 rfl (lv_at hl 0 rfl) ?_
    refine va_get (D := D) (C := RX9) (T := TX9) (N := 3) hx hb (uc_9 hk.1 _) (fun _ h9 => h9) hown hK hP 0 rfl rfl 1 (by decide) (fl_X9_18 hk.1 _) (fun _ h9 => h9) rfl dX9_make_151 ?_
    refine lv_iload_n hx hb dX9_make_154 rfl (lv_at hl 1 rfl) ?_
    refine lv_iload_n hx hb dX9_make_155 rfl (lv_at hl 2 rfl) ?_
    refine lv_iload_n hx hb dX9_make_156 rfl (lv_at hl 3 rfl) ?_
    refine lv_iload hx hb dX9_make_157 (lv_at hl 4 rfl) ?_
    refine k_IL (ws := wx ca x0 da ht hr L Q t) C (iT l D ca sa lo isD_7) (fun U A9 h => co_X7_init h A9) (in_X7 hk.1 _) (ml_X9_136 hk.1 _) (im_X7_init hk.1 _) rfl (by decide +kernel) ⟨⟨rfl, rfl⟩, by decide, by decide⟩ hP hD hS hl.1 (Nat.le_of_ble_eq_true rfl) dX9_make_159 ⟨by decide, by decide⟩ (fun H locs hP hD hS => ?_)
    exact rm_ (w := fun a => wx ca x0 da ht hr L Q t ++ [cD ht (a, pN 7 zn lm ch)]) C hrt hlocks hP hD hS dX9_make_162
