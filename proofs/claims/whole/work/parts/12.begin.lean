theorem nx_succ (n : Nat) : nx (n + 1) = n % 200 + 1 := by simp [nx]
theorem nx_le (n : Nat) : nx n ≤ 200 := by unfold nx; split <;> omega
theorem nx_lt {n : Nat} (h : nx n < 200) : nx n = n % 200 := by unfold nx at *; split at h <;> split <;> omega
theorem nx_200 {n : Nat} (h : ¬ nx n < 200) : n % 200 = 0 := by unfold nx at h; split at h <;> omega
theorem lt_200 {a : Nat} (h : a < 2 ^ 31) : nI a < 200 ↔ a < 200 := nI_ltI (b := 200) h (by decide)
theorem le_200 {a : Nat} (h : a < 2 ^ 31) : (200 : Int32) ≤ nI a ↔ 200 ≤ a := nI_leI (a := 200) (by decide) h

set_option maxHeartbeats 4000000 in
set_option maxRecDepth 100000 in
/-- Trace.begin -/
theorem m_begin (l : Launch) (D : va_G) (ca : Nat → ClassId) (sa : Nat → Nat) (lo sz : Nat) (ht hr : Nat) (a k : Int32) (t : Tr) : Met l yX6_begin [.code yX6_begin cX6_begin 3 none] ({ frames := 0, cells := 0, slots := 0, locals := 0 }) (PX D ca sa lo sz [.ref ht, .int a, .int k] (wt ca ht hr t)) (QV D (wt ca ht hr (tb a k t)) (va_A (wt ca ht hr t) sz)) 0 0 (va_A (wt ca ht hr t) sz) := by
  obtain ⟨n, f, fl, ar⟩ := t
  refine mk_met (fun A => QV D (wt ca ht hr (tb a k (n, f, fl, ar))) A) (by decide) (Nat.le_of_ble_eq_true rfl) ?_
  intro p e s m below meth c A ls C hrt hlocks hnm hsz hP hD hS hl
  obtain ⟨hx, hb, hml, hown, hk, hz, hlo, hA, hAl⟩ := id C
  have hK : va_K D cls (tyl ca) s := hk.2.1
  have hl : lv_has ls 3 [(0, .ref ht), (1, .int a), (2, .int k)] := hl
  have hP : va_P D cls [(ht, .inr (6, [.ref hr, .int (nI (nx n)), .int (nI (min n 200)), .int (nI n), .int fl, .int ar])), (hr, .inl (ca 0, 200, .inl f))] s.heap := hP
  have hD : va_D A [(ht, .inr (6, [.ref hr, .int (nI (nx n)), .int (nI (min n 200)), .int (nI n), .int fl, .int ar])), (hr, .inl (ca 0, 200, .inl f))] := hD
  refine lv_aload_n hx hb dX6_begin_0 rfl (lv_at hl 0 rfl) ?_
  refine va_get (D := D) (C := RX6) (T := TX6) (N := 6) hx hb (uc_6 hk.1 _) (fun _ h9 => h9) hown hK hP 0 rfl rfl 1 (by decide) (fl_X6_15 hk.1 _) (fun _ h9 => h9) rfl dX6_begin_1 ?_
  refine lv_aload_n hx hb dX6_begin_4 rfl (lv_at hl 0 rfl) ?_
  refine va_get (D := D) (C := RX6) (T := TX6) (N := 6) hx hb (uc_6 hk.1 _) (fun _ h9 => h9) hown hK hP 0 rfl rfl 0 (by decide) (fl_X6_9 hk.1 _) (fun _ h9 => h9) rfl dX6_begin_5 ?_
  refine va_alen hx hb hK hP 1 0 rfl rfl (v := 200) rfl dX6_begin_8 ?_
  refine lv_icmp_lt (tgt := 17) hx hb dX6_begin_9 (by decide) (fun c_1 => ?_) (fun c_1 => ?_)
  · have e1 : nx n = n % 200 := nx_lt ((lt_200 (by have := nx_le n; omega)).mp c_1)
    have hP : va_P D cls [(ht, .inr (6, [.ref hr, .int (nI (n % 200)), .int (nI (min n 200)), .int (nI n), .int fl, .int ar])), (hr, .inl (ca 0, 200, .inl f))] s.heap := by rw [← e1]; exact hP
    have hD : va_D A [(ht, .inr (6, [.ref hr, .int (nI (n % 200)), .int (nI (min n 200)), .int (nI n), .int fl, .int ar])), (hr, .inl (ca 0, 200, .inl f))] := hD.to rfl
    refine lv_aload_n hx hb dX6_begin_17 rfl (lv_at hl 0 rfl) ?_
    refine va_get (D := D) (C := RX6) (T := TX6) (N := 6) hx hb (uc_6 hk.1 _) (fun _ h9 => h9) hown hK hP 0 rfl rfl 0 (by decide) (fl_X6_9 hk.1 _) (fun _ h9 => h9) rfl dX6_begin_18 ?_
    refine lv_aload_n hx hb dX6_begin_21 rfl (lv_at hl 0 rfl) ?_
    refine va_get (D := D) (C := RX6) (T := TX6) (N := 6) hx hb (uc_6 hk.1 _) (fun _ h9 => h9) hown hK hP 0 rfl rfl 1 (by decide) (fl_X6_15 hk.1 _) (fun _ h9 => h9) rfl dX6_begin_22 ?_
    refine lv_bipush (v := 10) hx hb dX6_begin_25 (by decide) ?_
    refine lv_iload_n hx hb dX6_begin_27 rfl (lv_at hl 1 rfl) ?_
    refine lv_imul hx hb dX6_begin_28 ?_
    refine lv_iload_n hx hb dX6_begin_29 rfl (lv_at hl 2 rfl) ?_
    refine lv_iadd hx hb dX6_begin_30 ?_
    have hin : vp_in (nI (n % 200)) 200 := vp_in_nI (Nat.mod_lt _ (by decide)) (by decide)
    refine va_iast hx hb hK hP hD hS 1 0 rfl rfl hin dX6_begin_31 (fun H locs hP hD hS => ?_)
    have hP : va_P D cls [(ht, .inr (6, [.ref hr, .int (nI (n % 200)), .int (nI (min n 200)), .int (nI n), .int fl, .int ar])), (hr, .inl (ca 0, 200, .inl (upd f ((nI (n % 200))).toNatClampNeg ((10 * a) + k))))] H := hP
    have hD : va_D A [(ht, .inr (6, [.ref hr, .int (nI (n % 200)), .int (nI (min n 200)), .int (nI n), .int fl, .int ar])), (hr, .inl (ca 0, 200, .inl (upd f ((nI (n % 200))).toNatClampNeg ((10 * a) + k))))] := hD
    have hP : va_P D cls [(ht, .inr (6, [.ref hr, .int (nI (n % 200)), .int (nI (min n 200)), .int (nI n), .int fl, .int ar])), (hr, .inl (ca 0, 200, .inl (upd f (n % 200) (10 * a + k))))] H := by rw [nI_clamp (n := n % 200) (by omega)] at hP; exact hP
    have hD : va_D A [(ht, .inr (6, [.ref hr, .int (nI (n % 200)), .int (nI (min n 200)), .int (nI n), .int fl, .int ar])), (hr, .inl (ca 0, 200, .inl (upd f (n % 200) (10 * a + k))))] := hD.to rfl
    refine lv_aload_n hx hb dX6_begin_32 rfl (lv_at hl 0 rfl) ?_
    refine lv_dup hx hb dX6_begin_33 rfl ?_
    refine va_get (D := D) (C := RX6) (T := TX6) (N := 6) hx hb (uc_6 hk.1 _) (fun _ h9 => h9) hown hK hP 0 rfl rfl 1 (by decide) (fl_X6_15 hk.1 _) (fun _ h9 => h9) rfl dX6_begin_34 ?_
    refine lv_iconst (v := 1) hx hb dX6_begin_37 (by decide) ?_
    refine lv_iadd hx hb dX6_begin_38 ?_
    refine va_put (D := D) (v := .int ((nI (n % 200)) + 1)) (ty := .int) (C := RX6) (T := TX6) (N := 6) hx hb (uc_6 hk.1 _) (fun _ h9 => h9) tyX6 tyX6_ok nmX6 hown hK hP hD hS 0 rfl rfl 1 (by decide) (fl_X6_15 hk.1 _) (fun _ h9 => h9) rfl (by decide +kernel) rfl rfl (Nat.le_of_ble_eq_true rfl) dX6_begin_39 (fun H locs hP hD hS => ?_)
    have hP : va_P D cls [(ht, .inr (6, [.ref hr, .int ((nI (n % 200)) + 1), .int (nI (min n 200)), .int (nI n), .int fl, .int ar])), (hr, .inl (ca 0, 200, .inl (upd f (n % 200) (10 * a + k))))] H := hP
    have hD : va_D A [(ht, .inr (6, [.ref hr, .int ((nI (n % 200)) + 1), .int (nI (min n 200)), .int (nI n), .int fl, .int ar])), (hr, .inl (ca 0, 200, .inl (upd f (n % 200) (10 * a + k))))] := hD
    refine lv_aload_n hx hb dX6_begin_42 rfl (lv_at hl 0 rfl) ?_
    refine va_get (D := D) (C := RX6) (T := TX6) (N := 6) hx hb (uc_6 hk.1 _) (fun _ h9 => h9) hown hK hP 0 rfl rfl 2 (by decide) (fl_X6_19 hk.1 _) (fun _ h9 => h9) rfl dX6_begin_43 ?_
    refine lv_aload_n hx hb dX6_begin_46 rfl (lv_at hl 0 rfl) ?_
    refine va_get (D := D) (C := RX6) (T := TX6) (N := 6) hx hb (uc_6 hk.1 _) (fun _ h9 => h9) hown hK hP 0 rfl rfl 0 (by decide) (fl_X6_9 hk.1 _) (fun _ h9 => h9) rfl dX6_begin_47 ?_
    refine va_alen hx hb hK hP 1 0 rfl rfl (v := 200) rfl dX6_begin_50 ?_
    refine lv_icmp_ge (tgt := 64) hx hb dX6_begin_51 (by decide) (fun c_2 => ?_) (fun c_2 => ?_)
    · have e8 : nI (min (n + 1) 200) = nI (min n 200) := by
        have h9 : 200 ≤ min n 200 := (le_200 (by omega)).mp c_2
        have h8 : min (n + 1) 200 = min n 200 := by omega
        rw [h8]
      refine lv_aload_n hx hb dX6_begin_64 rfl (lv_at hl 0 rfl) ?_
      refine lv_dup hx hb dX6_begin_65 rfl ?_
      refine va_get (D := D) (C := RX6) (T := TX6) (N := 6) hx hb (uc_6 hk.1 _) (fun _ h9 => h9) hown hK hP 0 rfl rfl 3 (by decide) (fl_X6_22 hk.1 _) (fun _ h9 => h9) rfl dX6_begin_66 ?_
      refine lv_iconst (v := 1) hx hb dX6_begin_69 (by decide) ?_
      refine lv_iadd hx hb dX6_begin_70 ?_
      refine va_put (D := D) (v := .int ((nI n) + 1)) (ty := .int) (C := RX6) (T := TX6) (N := 6) hx hb (uc_6 hk.1 _) (fun _ h9 => h9) tyX6 tyX6_ok nmX6 hown hK hP hD hS 0 rfl rfl 3 (by decide) (fl_X6_22 hk.1 _) (fun _ h9 => h9) rfl (by decide +kernel) rfl rfl (Nat.le_of_ble_eq_true rfl) dX6_begin_71 (fun H locs hP hD hS => ?_)
      have hP : va_P D cls [(ht, .inr (6, [.ref hr, .int ((nI (n % 200)) + 1), .int (nI (min n 200)), .int ((nI n) + 1), .int fl, .int ar])), (hr, .inl (ca 0, 200, .inl (upd f (n % 200) (10 * a + k))))] H := hP
      have hD : va_D A [(ht, .inr (6, [.ref hr, .int ((nI (n % 200)) + 1), .int (nI (min n 200)), .int ((nI n) + 1), .int fl, .int ar])), (hr, .inl (ca 0, 200, .inl (upd f (n % 200) (10 * a + k))))] := hD
      have e5 : va_P D cls (wt ca ht hr (tb a k (n, f, fl, ar))) H := by
        have e6 : nI (n % 200) + 1 = nI (nx (n + 1)) := by rw [nx_succ, nI_succ]
        have e7 : nI n + 1 = nI (n + 1) := nI_1 n
        show va_P D cls [(ht, .inr (6, [.ref hr, .int (nI (nx (n + 1))), .int (nI (min (n + 1) 200)), .int (nI (n + 1)), .int fl, .int ar])), (hr, .inl (ca 0, 200, .inl (upd f (n % 200) (10 * a + k))))] H
        rw [← e6, ← e7, e8]; exact hP
      exact rv C hrt hlocks e5 hS dX6_begin_74
    · have e8 : nI (min (n + 1) 200) = nI (min n 200) + 1 := by
        have h9 : ¬ 200 ≤ min n 200 := fun h8 => c_2 ((le_200 (by omega)).mpr h8)
        have h8 : min (n + 1) 200 = min n 200 + 1 := by omega
        rw [h8, nI_succ]
      refine lv_aload_n hx hb dX6_begin_54 rfl (lv_at hl 0 rfl) ?_
      refine lv_dup hx hb dX6_begin_55 rfl ?_
      refine va_get (D := D) (C := RX6) (T := TX6) (N := 6) hx hb (uc_6 hk.1 _) (fun _ h9 => h9) hown hK hP 0 rfl rfl 2 (by decide) (fl_X6_19 hk.1 _) (fun _ h9 => h9) rfl dX6_begin_56 ?_
      refine lv_iconst (v := 1) hx hb dX6_begin_59 (by decide) ?_
      refine lv_iadd hx hb dX6_begin_60 ?_
      refine va_put (D := D) (v := .int ((nI (min n 200)) + 1)) (ty := .int) (C := RX6) (T := TX6) (N := 6) hx hb (uc_6 hk.1 _) (fun _ h9 => h9) tyX6 tyX6_ok nmX6 hown hK hP hD hS 0 rfl rfl 2 (by decide) (fl_X6_19 hk.1 _) (fun _ h9 => h9) rfl (by decide +kernel) rfl rfl (Nat.le_of_ble_eq_true rfl) dX6_begin_61 (fun H locs hP hD hS => ?_)
      have hP : va_P D cls [(ht, .inr (6, [.ref hr, .int ((nI (n % 200)) + 1), .int ((nI (min n 200)) + 1), .int (nI n), .int fl, .int ar])), (hr, .inl (ca 0, 200, .inl (upd f (n % 200) (10 * a + k))))] H := hP
      have hD : va_D A [(ht, .inr (6, [.ref hr, .int ((nI (n % 200)) + 1), .int ((nI (min n 200)) + 1), .int (nI n), .int fl, .int ar])), (hr, .inl (ca 0, 200, .inl (upd f (n % 200) (10 * a + k))))] := hD
      refine lv_aload_n hx hb dX6_begin_64 rfl (lv_at hl 0 rfl) ?_
      refine lv_dup hx hb dX6_begin_65 rfl ?_
      refine va_get (D := D) (C := RX6) (T := TX6) (N := 6) hx hb (uc_6 hk.1 _) (fun _ h9 => h9) hown hK hP 0 rfl rfl 3 (by decide) (fl_X6_22 hk.1 _) (fun _ h9 => h9) rfl dX6_begin_66 ?_
      refine lv_iconst (v := 1) hx hb dX6_begin_69 (by decide) ?_
      refine lv_iadd hx hb dX6_begin_70 ?_
      refine va_put (D := D) (v := .int ((nI n) + 1)) (ty := .int) (C := RX6) (T := TX6) (N := 6) hx hb (uc_6 hk.1 _) (fun _ h9 => h9) tyX6 tyX6_ok nmX6 hown hK hP hD hS 0 rfl rfl 3 (by decide) (fl_X6_22 hk.1 _) (fun _ h9 => h9) rfl (by decide +kernel) rfl rfl (Nat.le_of_ble_eq_true rfl) dX6_begin_71 (fun H locs hP hD hS => ?_)
      have hP : va_P D cls [(ht, .inr (6, [.ref hr, .int ((nI (n % 200)) + 1), .int ((nI (min n 200)) + 1), .int ((nI n) + 1), .int fl, .int ar])), (hr, .inl (ca 0, 200, .inl (upd f (n % 200) (10 * a + k))))] H := hP
      have hD : va_D A [(ht, .inr (6, [.ref hr, .int ((nI (n % 200)) + 1), .int ((nI (min n 200)) + 1), .int ((nI n) + 1), .int fl, .int ar])), (hr, .inl (ca 0, 200, .inl (upd f (n % 200) (10 * a + k))))] := hD
      have e5 : va_P D cls (wt ca ht hr (tb a k (n, f, fl, ar))) H := by
        have e6 : nI (n % 200) + 1 = nI (nx (n + 1)) := by rw [nx_succ, nI_succ]
        have e7 : nI n + 1 = nI (n + 1) := nI_1 n
        show va_P D cls [(ht, .inr (6, [.ref hr, .int (nI (nx (n + 1))), .int (nI (min (n + 1) 200)), .int (nI (n + 1)), .int fl, .int ar])), (hr, .inl (ca 0, 200, .inl (upd f (n % 200) (10 * a + k))))] H
        rw [← e6, ← e7, e8]; exact hP
      exact rv C hrt hlocks e5 hS dX6_begin_74
  · have e1 : n % 200 = 0 := nx_200 (fun h9 => c_1 ((lt_200 (by have := nx_le n; omega)).mpr h9))
    refine lv_aload_n hx hb dX6_begin_12 rfl (lv_at hl 0 rfl) ?_
    refine lv_iconst (v := 0) hx hb dX6_begin_13 (by decide) ?_
    refine va_put (D := D) (v := .int 0) (ty := .int) (C := RX6) (T := TX6) (N := 6) hx hb (uc_6 hk.1 _) (fun _ h9 => h9) tyX6 tyX6_ok nmX6 hown hK hP hD hS 0 rfl rfl 1 (by decide) (fl_X6_15 hk.1 _) (fun _ h9 => h9) rfl (by decide +kernel) rfl rfl (Nat.le_of_ble_eq_true rfl) dX6_begin_14 (fun H locs hP hD hS => ?_)
    have hP : va_P D cls [(ht, .inr (6, [.ref hr, .int 0, .int (nI (min n 200)), .int (nI n), .int fl, .int ar])), (hr, .inl (ca 0, 200, .inl f))] H := hP
    have hD : va_D A [(ht, .inr (6, [.ref hr, .int 0, .int (nI (min n 200)), .int (nI n), .int fl, .int ar])), (hr, .inl (ca 0, 200, .inl f))] := hD
    have hP : va_P D cls [(ht, .inr (6, [.ref hr, .int (nI (n % 200)), .int (nI (min n 200)), .int (nI n), .int fl, .int ar])), (hr, .inl (ca 0, 200, .inl f))] H := by rw [e1]; exact hP
    have hD : va_D A [(ht, .inr (6, [.ref hr, .int (nI (n % 200)), .int (nI (min n 200)), .int (nI n), .int fl, .int ar])), (hr, .inl (ca 0, 200, .inl f))] := hD.to rfl
    refine lv_aload_n hx hb dX6_begin_17 rfl (lv_at hl 0 rfl) ?_
    refine va_get (D := D) (C := RX6) (T := TX6) (N := 6) hx hb (uc_6 hk.1 _) (fun _ h9 => h9) hown hK hP 0 rfl rfl 0 (by decide) (fl_X6_9 hk.1 _) (fun _ h9 => h9) rfl dX6_begin_18 ?_
    refine lv_aload_n hx hb dX6_begin_21 rfl (lv_at hl 0 rfl) ?_
    refine va_get (D := D) (C := RX6) (T := TX6) (N := 6) hx hb (uc_6 hk.1 _) (fun _ h9 => h9) hown hK hP 0 rfl rfl 1 (by decide) (fl_X6_15 hk.1 _) (fun _ h9 => h9) rfl dX6_begin_22 ?_
    refine lv_bipush (v := 10) hx hb dX6_begin_25 (by decide) ?_
    refine lv_iload_n hx hb dX6_begin_27 rfl (lv_at hl 1 rfl) ?_
    refine lv_imul hx hb dX6_begin_28 ?_
    refine lv_iload_n hx hb dX6_begin_29 rfl (lv_at hl 2 rfl) ?_
    refine lv_iadd hx hb dX6_begin_30 ?_
    have hin : vp_in (nI (n % 200)) 200 := vp_in_nI (Nat.mod_lt _ (by decide)) (by decide)
    refine va_iast hx hb hK hP hD hS 1 0 rfl rfl hin dX6_begin_31 (fun H locs hP hD hS => ?_)
    have hP : va_P D cls [(ht, .inr (6, [.ref hr, .int (nI (n % 200)), .int (nI (min n 200)), .int (nI n), .int fl, .int ar])), (hr, .inl (ca 0, 200, .inl (upd f ((nI (n % 200))).toNatClampNeg ((10 * a) + k))))] H := hP
    have hD : va_D A [(ht, .inr (6, [.ref hr, .int (nI (n % 200)), .int (nI (min n 200)), .int (nI n), .int fl, .int ar])), (hr, .inl (ca 0, 200, .inl (upd f ((nI (n % 200))).toNatClampNeg ((10 * a) + k))))] := hD
    have hP : va_P D cls [(ht, .inr (6, [.ref hr, .int (nI (n % 200)), .int (nI (min n 200)), .int (nI n), .int fl, .int ar])), (hr, .inl (ca 0, 200, .inl (upd f (n % 200) (10 * a + k))))] H := by rw [nI_clamp (n := n % 200) (by omega)] at hP; exact hP
    have hD : va_D A [(ht, .inr (6, [.ref hr, .int (nI (n % 200)), .int (nI (min n 200)), .int (nI n), .int fl, .int ar])), (hr, .inl (ca 0, 200, .inl (upd f (n % 200) (10 * a + k))))] := hD.to rfl
    refine lv_aload_n hx hb dX6_begin_32 rfl (lv_at hl 0 rfl) ?_
    refine lv_dup hx hb dX6_begin_33 rfl ?_
    refine va_get (D := D) (C := RX6) (T := TX6) (N := 6) hx hb (uc_6 hk.1 _) (fun _ h9 => h9) hown hK hP 0 rfl rfl 1 (by decide) (fl_X6_15 hk.1 _) (fun _ h9 => h9) rfl dX6_begin_34 ?_
    refine lv_iconst (v := 1) hx hb dX6_begin_37 (by decide) ?_
    refine lv_iadd hx hb dX6_begin_38 ?_
    refine va_put (D := D) (v := .int ((nI (n % 200)) + 1)) (ty := .int) (C := RX6) (T := TX6) (N := 6) hx hb (uc_6 hk.1 _) (fun _ h9 => h9) tyX6 tyX6_ok nmX6 hown hK hP hD hS 0 rfl rfl 1 (by decide) (fl_X6_15 hk.1 _) (fun _ h9 => h9) rfl (by decide +kernel) rfl rfl (Nat.le_of_ble_eq_true rfl) dX6_begin_39 (fun H locs hP hD hS => ?_)
    have hP : va_P D cls [(ht, .inr (6, [.ref hr, .int ((nI (n % 200)) + 1), .int (nI (min n 200)), .int (nI n), .int fl, .int ar])), (hr, .inl (ca 0, 200, .inl (upd f (n % 200) (10 * a + k))))] H := hP
    have hD : va_D A [(ht, .inr (6, [.ref hr, .int ((nI (n % 200)) + 1), .int (nI (min n 200)), .int (nI n), .int fl, .int ar])), (hr, .inl (ca 0, 200, .inl (upd f (n % 200) (10 * a + k))))] := hD
    refine lv_aload_n hx hb dX6_begin_42 rfl (lv_at hl 0 rfl) ?_
    refine va_get (D := D) (C := RX6) (T := TX6) (N := 6) hx hb (uc_6 hk.1 _) (fun _ h9 => h9) hown hK hP 0 rfl rfl 2 (by decide) (fl_X6_19 hk.1 _) (fun _ h9 => h9) rfl dX6_begin_43 ?_
    refine lv_aload_n hx hb dX6_begin_46 rfl (lv_at hl 0 rfl) ?_
    refine va_get (D := D) (C := RX6) (T := TX6) (N := 6) hx hb (uc_6 hk.1 _) (fun _ h9 => h9) hown hK hP 0 rfl rfl 0 (by decide) (fl_X6_9 hk.1 _) (fun _ h9 => h9) rfl dX6_begin_47 ?_
    refine va_alen hx hb hK hP 1 0 rfl rfl (v := 200) rfl dX6_begin_50 ?_
    refine lv_icmp_ge (tgt := 64) hx hb dX6_begin_51 (by decide) (fun c_3 => ?_) (fun c_3 => ?_)
    · have e8 : nI (min (n + 1) 200) = nI (min n 200) := by
        have h9 : 200 ≤ min n 200 := (le_200 (by omega)).mp c_3
        have h8 : min (n + 1) 200 = min n 200 := by omega
        rw [h8]
      refine lv_aload_n hx hb dX6_begin_64 rfl (lv_at hl 0 rfl) ?_
      refine lv_dup hx hb dX6_begin_65 rfl ?_
      refine va_get (D := D) (C := RX6) (T := TX6) (N := 6) hx hb (uc_6 hk.1 _) (fun _ h9 => h9) hown hK hP 0 rfl rfl 3 (by decide) (fl_X6_22 hk.1 _) (fun _ h9 => h9) rfl dX6_begin_66 ?_
      refine lv_iconst (v := 1) hx hb dX6_begin_69 (by decide) ?_
      refine lv_iadd hx hb dX6_begin_70 ?_
      refine va_put (D := D) (v := .int ((nI n) + 1)) (ty := .int) (C := RX6) (T := TX6) (N := 6) hx hb (uc_6 hk.1 _) (fun _ h9 => h9) tyX6 tyX6_ok nmX6 hown hK hP hD hS 0 rfl rfl 3 (by decide) (fl_X6_22 hk.1 _) (fun _ h9 => h9) rfl (by decide +kernel) rfl rfl (Nat.le_of_ble_eq_true rfl) dX6_begin_71 (fun H locs hP hD hS => ?_)
      have hP : va_P D cls [(ht, .inr (6, [.ref hr, .int ((nI (n % 200)) + 1), .int (nI (min n 200)), .int ((nI n) + 1), .int fl, .int ar])), (hr, .inl (ca 0, 200, .inl (upd f (n % 200) (10 * a + k))))] H := hP
      have hD : va_D A [(ht, .inr (6, [.ref hr, .int ((nI (n % 200)) + 1), .int (nI (min n 200)), .int ((nI n) + 1), .int fl, .int ar])), (hr, .inl (ca 0, 200, .inl (upd f (n % 200) (10 * a + k))))] := hD
      have e5 : va_P D cls (wt ca ht hr (tb a k (n, f, fl, ar))) H := by
        have e6 : nI (n % 200) + 1 = nI (nx (n + 1)) := by rw [nx_succ, nI_succ]
        have e7 : nI n + 1 = nI (n + 1) := nI_1 n
        show va_P D cls [(ht, .inr (6, [.ref hr, .int (nI (nx (n + 1))), .int (nI (min (n + 1) 200)), .int (nI (n + 1)), .int fl, .int ar])), (hr, .inl (ca 0, 200, .inl (upd f (n % 200) (10 * a + k))))] H
        rw [← e6, ← e7, e8]; exact hP
      exact rv C hrt hlocks e5 hS dX6_begin_74
    · have e8 : nI (min (n + 1) 200) = nI (min n 200) + 1 := by
        have h9 : ¬ 200 ≤ min n 200 := fun h8 => c_3 ((le_200 (by omega)).mpr h8)
        have h8 : min (n + 1) 200 = min n 200 + 1 := by omega
        rw [h8, nI_succ]
      refine lv_aload_n hx hb dX6_begin_54 rfl (lv_at hl 0 rfl) ?_
      refine lv_dup hx hb dX6_begin_55 rfl ?_
      refine va_get (D := D) (C := RX6) (T := TX6) (N := 6) hx hb (uc_6 hk.1 _) (fun _ h9 => h9) hown hK hP 0 rfl rfl 2 (by decide) (fl_X6_19 hk.1 _) (fun _ h9 => h9) rfl dX6_begin_56 ?_
      refine lv_iconst (v := 1) hx hb dX6_begin_59 (by decide) ?_
      refine lv_iadd hx hb dX6_begin_60 ?_
      refine va_put (D := D) (v := .int ((nI (min n 200)) + 1)) (ty := .int) (C := RX6) (T := TX6) (N := 6) hx hb (uc_6 hk.1 _) (fun _ h9 => h9) tyX6 tyX6_ok nmX6 hown hK hP hD hS 0 rfl rfl 2 (by decide) (fl_X6_19 hk.1 _) (fun _ h9 => h9) rfl (by decide +kernel) rfl rfl (Nat.le_of_ble_eq_true rfl) dX6_begin_61 (fun H locs hP hD hS => ?_)
      have hP : va_P D cls [(ht, .inr (6, [.ref hr, .int ((nI (n % 200)) + 1), .int ((nI (min n 200)) + 1), .int (nI n), .int fl, .int ar])), (hr, .inl (ca 0, 200, .inl (upd f (n % 200) (10 * a + k))))] H := hP
      have hD : va_D A [(ht, .inr (6, [.ref hr, .int ((nI (n % 200)) + 1), .int ((nI (min n 200)) + 1), .int (nI n), .int fl, .int ar])), (hr, .inl (ca 0, 200, .inl (upd f (n % 200) (10 * a + k))))] := hD
      refine lv_aload_n hx hb dX6_begin_64 rfl (lv_at hl 0 rfl) ?_
      refine lv_dup hx hb dX6_begin_65 rfl ?_
      refine va_get (D := D) (C := RX6) (T := TX6) (N := 6) hx hb (uc_6 hk.1 _) (fun _ h9 => h9) hown hK hP 0 rfl rfl 3 (by decide) (fl_X6_22 hk.1 _) (fun _ h9 => h9) rfl dX6_begin_66 ?_
      refine lv_iconst (v := 1) hx hb dX6_begin_69 (by decide) ?_
      refine lv_iadd hx hb dX6_begin_70 ?_
      refine va_put (D := D) (v := .int ((nI n) + 1)) (ty := .int) (C := RX6) (T := TX6) (N := 6) hx hb (uc_6 hk.1 _) (fun _ h9 => h9) tyX6 tyX6_ok nmX6 hown hK hP hD hS 0 rfl rfl 3 (by decide) (fl_X6_22 hk.1 _) (fun _ h9 => h9) rfl (by decide +kernel) rfl rfl (Nat.le_of_ble_eq_true rfl) dX6_begin_71 (fun H locs hP hD hS => ?_)
      have hP : va_P D cls [(ht, .inr (6, [.ref hr, .int ((nI (n % 200)) + 1), .int ((nI (min n 200)) + 1), .int ((nI n) + 1), .int fl, .int ar])), (hr, .inl (ca 0, 200, .inl (upd f (n % 200) (10 * a + k))))] H := hP
      have hD : va_D A [(ht, .inr (6, [.ref hr, .int ((nI (n % 200)) + 1), .int ((nI (min n 200)) + 1), .int ((nI n) + 1), .int fl, .int ar])), (hr, .inl (ca 0, 200, .inl (upd f (n % 200) (10 * a + k))))] := hD
      have e5 : va_P D cls (wt ca ht hr (tb a k (n, f, fl, ar))) H := by
        have e6 : nI (n % 200) + 1 = nI (nx (n + 1)) := by rw [nx_succ, nI_succ]
        have e7 : nI n + 1 = nI (n + 1) := nI_1 n
        show va_P D cls [(ht, .inr (6, [.ref hr, .int (nI (nx (n + 1))), .int (nI (min (n + 1) 200)), .int (nI (n + 1)), .int fl, .int ar])), (hr, .inl (ca 0, 200, .inl (upd f (n % 200) (10 * a + k))))] H
        rw [← e6, ← e7, e8]; exact hP
      exact rv C hrt hlocks e5 hS dX6_begin_74
