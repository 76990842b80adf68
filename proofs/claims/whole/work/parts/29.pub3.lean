set_option maxHeartbeats 4000000 in
set_option maxRecDepth 100000 in
theorem m_at (l : Launch) (D : va_G) (ca : Nat → ClassId) (sa : Nat → Nat) (lo : Nat) (ht hr : Nat) (t : Tr) (i : Int32) (sz : Nat) : Met l yX6_at [.code yX6_at cX6_at 3 (some .int)] ({ frames := 0, cells := 0, slots := 0, locals := 0 }) (PX D ca sa lo sz [.ref ht, .int i] (wt ca ht hr t)) (QI D (tA t i) (wt ca ht hr t) (va_A (wt ca ht hr t) sz)) 0 0 (va_A (wt ca ht hr t) sz) := by
  generalize hr9 : tA t i = r
  refine mk_met (fun A => QI D r (wt ca ht hr t) A) (by decide) (Nat.le_of_ble_eq_true rfl) ?_
  intro p e s m below meth c A ls C hrt hlocks hnm hsz hP hD hS hl
  obtain ⟨hx, hb, hml, hown, hk, hz, hlo, hA, hAl⟩ := id C
  have hK : va_K D cls (tyl ca) s := hk.2.1
  have hl : lv_has ls 3 [(0, .ref ht), (1, .int i)] := hl
  refine lv_iload_n hx hb dX6_at_0 rfl (lv_at hl 1 rfl) ?_
  refine lv_if_lt (tgt := 12) hx hb dX6_at_1 (by decide) (fun c_1 => ?_) (fun c_1 => ?_)
  · refine lv_bipush (v := (-101)) hx hb dX6_at_12 (by decide) ?_
    exact ri C hrt hlocks (hr9.symm.trans (if_pos (Or.inl c_1))).symm hP hS dX6_at_14
  · refine lv_iload_n hx hb dX6_at_4 rfl (lv_at hl 1 rfl) ?_
    refine lv_aload_n hx hb dX6_at_5 rfl (lv_at hl 0 rfl) ?_
    refine va_get (D := D) (C := RX6) (T := TX6) (N := 6) hx hb (uc_6 hk.1 _) (fun _ h9 => h9) hown hK hP 0 rfl rfl 2 (by decide) (fl_X6_19 hk.1 _) (fun _ h9 => h9) rfl dX6_at_6 ?_
    refine lv_icmp_lt (tgt := 15) hx hb dX6_at_9 (by decide) (fun c_2 => ?_) (fun c_2 => ?_)
    · obtain ⟨j, hj0, rfl⟩ := nI_of c_1
      have hj : j < min t.1 200 := by rw [nI_ltI hj0 (by omega)] at c_2; exact c_2
      have hr9 : r = t.2.1 ((t.1 - 1 - j) % 200) := by
        rw [← hr9, tA, if_neg (by
          rintro (h9 | h9)
          · exact c_1 h9
          · rw [nI_leI (by omega) hj0] at h9; omega), nI_clamp hj0]
      have e1 : nx t.1 = (t.1 - 1) % 200 + 1 := if_neg (by omega)
      refine lv_aload_n hx hb dX6_at_15 rfl (lv_at hl 0 rfl) ?_
      refine va_get (D := D) (C := RX6) (T := TX6) (N := 6) hx hb (uc_6 hk.1 _) (fun _ h9 => h9) hown hK hP 0 rfl rfl 1 (by decide) (fl_X6_15 hk.1 _) (fun _ h9 => h9) rfl dX6_at_16 ?_
      refine lv_iconst (v := 1) hx hb dX6_at_19 (by decide) ?_
      refine lv_isub hx hb dX6_at_20 ?_
      refine lv_iload_n hx hb dX6_at_21 rfl (lv_at hl 1 rfl) ?_
      refine lv_isub hx hb dX6_at_22 ?_
      refine lv_topi (fun y ey => ?_)
      have ey : y = nI ((t.1 - 1) % 200) - nI j := by rw [ey, e1, nI_pred]
      refine lv_istore_n (lv' := [(2, .int y), (0, .ref ht), (1, .int (nI j))]) hx hb dX6_at_23 rfl hl (by decide) rfl (fun ls hl => ?_)
      refine lv_aload_n hx hb dX6_at_24 rfl (lv_at hl 1 rfl) ?_
      refine va_get (D := D) (C := RX6) (T := TX6) (N := 6) hx hb (uc_6 hk.1 _) (fun _ h9 => h9) hown hK hP 0 rfl rfl 0 (by decide) (fl_X6_9 hk.1 _) (fun _ h9 => h9) rfl dX6_at_25 ?_
      refine lv_iload_n hx hb dX6_at_28 rfl (lv_at hl 0 rfl) ?_
      refine lv_if_ge (tgt := 42) hx hb dX6_at_29 (by decide) (fun c_3 => ?_) (fun c_3 => ?_)
      · have hjq : j ≤ (t.1 - 1) % 200 := by
          rcases Nat.lt_or_ge ((t.1 - 1) % 200) j with h9 | h9
          · have := pk_sneg (b := j) (by omega) h9
            rw [← ey] at this
            exact absurd this (Int32.not_lt.mpr c_3)
          · exact h9
        rw [pk_sub hjq] at ey
        subst ey
        have hin : vp_in (nI ((t.1 - 1) % 200 - j)) 200 := vp_in_nI (by omega) (by decide)
        refine lv_iload_n hx hb dX6_at_42 rfl (lv_at hl 0 rfl) ?_
        refine va_iald hx hb hK hP 1 0 rfl rfl hin dX6_at_43 ?_
        have e5 : ((t.1 - 1) % 200 - j) = (t.1 - 1 - j) % 200 := by omega
        exact ri C hrt hlocks (by rw [nI_clamp (by omega), e5, hr9]) hP hS dX6_at_44
      · have hjq : (t.1 - 1) % 200 < j := by
          rcases Nat.lt_or_ge ((t.1 - 1) % 200) j with h9 | h9
          · exact h9
          · rw [pk_sub h9] at ey
            exact absurd (by rw [ey]; exact nI_pos' (by omega)) c_3
        have ey2 : y + 200 = nI ((t.1 - 1) % 200 + 200 - j) := by
          rw [ey, ← pk_sub (by omega : j ≤ (t.1 - 1) % 200 + 200), ← nI_add]
          show nI ((t.1 - 1) % 200) - nI j + nI 200 = _
          rw [Int32.sub_eq_add_neg, Int32.sub_eq_add_neg, Int32.add_assoc, Int32.add_comm (-nI j), ← Int32.add_assoc]
        have hin : vp_in (y + 200) 200 := by rw [ey2]; exact vp_in_nI (by omega) (by decide)
        refine lv_iload_n hx hb dX6_at_32 rfl (lv_at hl 0 rfl) ?_
        refine lv_aload_n hx hb dX6_at_33 rfl (lv_at hl 1 rfl) ?_
        refine va_get (D := D) (C := RX6) (T := TX6) (N := 6) hx hb (uc_6 hk.1 _) (fun _ h9 => h9) hown hK hP 0 rfl rfl 0 (by decide) (fl_X6_9 hk.1 _) (fun _ h9 => h9) rfl dX6_at_34 ?_
        refine va_alen hx hb hK hP 1 0 rfl rfl (v := 200) rfl dX6_at_37 ?_
        refine lv_iadd hx hb dX6_at_38 ?_
        refine lv_goto (tgt := 43) hx hb dX6_at_39 (by decide) ?_
        refine va_iald hx hb hK hP 1 0 rfl rfl hin dX6_at_43 ?_
        have e5 : ((t.1 - 1) % 200 + 200 - j) = (t.1 - 1 - j) % 200 := by omega
        exact ri C hrt hlocks (by rw [ey2, nI_clamp (by omega), e5, hr9]) hP hS dX6_at_44
    · refine lv_bipush (v := (-101)) hx hb dX6_at_12 (by decide) ?_
      exact ri C hrt hlocks (hr9.symm.trans (if_pos (Or.inr (Int32.not_lt.mp c_2)))).symm hP hS dX6_at_14

set_option maxHeartbeats 4000000 in
set_option maxRecDepth 100000 in
theorem M_trace (l : Launch) (D : va_G) (ca : Nat → ClassId) (sa : Nat → Nat) (lo : Nat) (x0 da ht hr : Nat) (L : List Nat) (Q : List Pd) (t : Tr) (hok : okP L Q) (i : Int32) (sz : Nat) : Met l yX9_trace [.code yX9_trace cX9_trace 2 (some .int)] ({ frames := 1, cells := 0, slots := 0, locals := 30 }) (PX D ca sa lo sz [.ref x0, .int i] (wx ca x0 da ht hr L Q t)) (QI D (tA t i) (wx ca x0 da ht hr L Q t) (va_A (wx ca x0 da ht hr L Q t) sz)) 0 0 (va_A (wx ca x0 da ht hr L Q t) sz) := by
  refine mk_met (fun A => QI D (tA t i) (wx ca x0 da ht hr L Q t) A) (by decide) (Nat.le_of_ble_eq_true rfl) ?_
  intro p e s m below meth c A ls C hrt hlocks hnm hsz hP hD hS hl
  obtain ⟨hx, hb, hml, hown, hk, hz, hlo, hA, hAl⟩ := id C
  have hK : va_K D cls (tyl ca) s := hk.2.1
  have hl : lv_has ls 2 [(0, .ref x0), (1, .int i)] := hl
  refine lv_aload_n hx hb dX9_trace_0 rfl (lv_at hl 0 rfl) ?_
  refine va_get (D := D) (C := RX9) (T := TX9) (N := 3) hx hb (uc_9 hk.1 _) (fun _ h9 => h9) hown hK hP 0 rfl rfl 1 (by decide) (fl_X9_18 hk.1 _) (fun _ h9 => h9) rfl dX9_trace_1 ?_
  refine lv_iload_n hx hb dX9_trace_4 rfl (lv_at hl 1 rfl) ?_
  have hfr := fr_of C (dx_tr hD) hS
  refine va_calli (run_V (Cn := RX6) (T := TX6) (N := 6) (q0 := 0) (ci := 6) (n := 1) (As := [.int i]) (rest := []) C (m_at l D ca sa lo ht hr t i _) (fun U A9 h => co_X6_at h A9) (in_X6 hk.1 _) (ml_X9_102 hk.1 _) (im_X6_at hk.1 _) (se_X6_X6_at hk.1 _) (by decide +kernel) ⟨⟨rfl, rfl⟩, by decide, by decide⟩ (px_tr hP) (dx_tr hD) hS rfl rfl rfl hl.1 rfl (Nat.le_of_ble_eq_true rfl) dX9_trace_5 ⟨by decide, by decide⟩) hS (fun q _ h => hfr q h) hfr (fun r9 u t9 H locs ht9 hvm hp hB hz1 hk1 hS => ?_)
  subst ht9
  cases hp
  exact ri C hrt hlocks rfl (px_trj hP hD hk1 hB) hS dX9_trace_8

set_option maxHeartbeats 4000000 in
set_option maxRecDepth 100000 in
theorem m_findIn (l : Launch) (D : va_G) (ca : Nat → ClassId) (sa : Nat → Nat) (lo : Nat) (x0 da ht hr : Nat) (L : List Nat) (Q : List Pd) (t : Tr) (hok : okP L Q) (zn x : Int32) (sz : Nat) : Met l yX9_findIn [.code yX9_findIn cX9_findIn 4 (some (.object "AlarmKinds$Plain"))] ({ frames := 1, cells := 0, slots := 0, locals := 30 }) (PX D ca sa lo sz [.ref x0, .int zn, .int x] (wx ca x0 da ht hr L Q t)) (QQ D ((ix Q x).bind (fun i => if (gQ Q i).2.1 = zn then L[i]? else none)) (wx ca x0 da ht hr L Q t) (va_A (wx ca x0 da ht hr L Q t) sz)) 0 0 (va_A (wx ca x0 da ht hr L Q t) sz) := by
  generalize hr9 : ((ix Q x).bind (fun i => if (gQ Q i).2.1 = zn then L[i]? else none)) = r
  refine mk_met (fun A => QQ D r (wx ca x0 da ht hr L Q t) A) (by decide) (Nat.le_of_ble_eq_true rfl) ?_
  intro p e s m below meth c A ls C hrt hlocks hnm hsz hP hD hS hl
  obtain ⟨hx, hb, hml, hown, hk, hz, hlo, hA, hAl⟩ := id C
  have hK : va_K D cls (tyl ca) s := hk.2.1
  have hl : lv_has ls 4 [(0, .ref x0), (1, .int zn), (2, .int x)] := hl
  refine lv_aload_n hx hb dX9_findIn_0 rfl (lv_at hl 0 rfl) ?_
  refine lv_iload_n hx hb dX9_findIn_1 rfl (lv_at hl 2 rfl) ?_
  refine k_find hok C hP hD hS hl.1 ⟨by decide, by decide⟩ (Nat.le_of_ble_eq_true rfl) dX9_findIn_2 ⟨by decide, by decide⟩ (fun hi H locs hP hS => ?_) (fun i a pd hi hj hxj hL hQ hp H locs hP hS => ?_)
  · have hr9 : r = none := by rw [← hr9, hi]; rfl
    subst hr9
    refine lv_astore_nN (lv' := [(3, .null), (0, .ref x0), (1, .int zn), (2, .int x)]) hx hb dX9_findIn_5 rfl hl (by decide) rfl (fun ls hl => ?_)
    refine lv_aload_nN hx hb dX9_findIn_6 rfl (lv_at hl 0 rfl) ?_
    refine lv_ifnullN (tgt := 22) hx hb dX9_findIn_7 (by decide) ?_
    refine lv_null hx hb dX9_findIn_22 ?_
    exact rq_ C hrt hlocks rfl hP hS dX9_findIn_23
  · have hr9 : r = if pd.2.1 = zn then some a else none := by rw [← hr9, hi]; show (if (gQ Q i).2.1 = zn then L[i]? else none) = _; rw [gQ_of hQ, hL]
    obtain ⟨Cn, hd⟩ := isD_kc hp
    refine lv_astore_n (lv' := [(3, .ref a), (0, .ref x0), (1, .int zn), (2, .int x)]) hx hb dX9_findIn_5 rfl hl (by decide) rfl (fun ls hl => ?_)
    refine lv_aload_n hx hb dX9_findIn_6 rfl (lv_at hl 0 rfl) ?_
    refine lv_ifnull hx hb dX9_findIn_7 ?_
    refine lv_aload_n hx hb dX9_findIn_10 rfl (lv_at hl 0 rfl) ?_
    refine va_get (D := D) (C := Cn) (T := TX3) (N := 9) hx hb (hd.2 _ _ hk.1) (fun _ h9 => h9) hown hK hP (4 + i) (wx_at hL hQ) hd.1 2 (by decide) (fl_X9_72 hk.1 _) (fun _ h9 => h9) rfl dX9_findIn_11 ?_
    refine lv_iload_n hx hb dX9_findIn_14 rfl (lv_at hl 2 rfl) ?_
    refine lv_icmp_ne (tgt := 22) hx hb dX9_findIn_15 (by decide) (fun c_1 => ?_) (fun c_1 => ?_)
    · have hr9 : r = none := by rw [hr9, if_neg c_1]
      subst hr9
      refine lv_null hx hb dX9_findIn_22 ?_
      exact rq_ C hrt hlocks rfl hP hS dX9_findIn_23
    · have hr9 : r = some a := by rw [hr9, if_pos (show pd.2.1 = zn from c_1)]
      subst hr9
      refine lv_aload_n hx hb dX9_findIn_18 rfl (lv_at hl 0 rfl) ?_
      refine lv_goto (tgt := 23) hx hb dX9_findIn_19 (by decide) ?_
      exact rq_ C hrt hlocks rfl hP hS dX9_findIn_23

section KFJ
variable {D : va_G} {ca : Nat → ClassId} {sa : Nat → Nat} {lo : Nat} {p : Program} {l : Launch} {e : Env} {R : Room} {s : State} {m : MethodId} {args : Array Value} {below : List Frame} {meth : Method} {c : Code} {cc : ByteArray} {nL : Nat} {A : Nat → Prop} {H : Heap} {locs : List Loc} {cells slots : Nat} {Q9 : State → Prop} {ls : Array Slot} {pc : Nat} {rest : List Value}
variable {x0 da ht hr i a index : Nat} {L : List Nat} {Q : List Pd} {t : Tr} {zn : Int32} {pd : Pd}
theorem ix_nI (hn : Q.length ≤ 20) (hi : i < Q.length) : ix Q (nI i) = some i := by
  rw [ix, if_neg (by
    rintro (h | h)
    · exact nI_pos (by omega) h
    · rw [nI_leI (by omega) (by omega)] at h; omega), nI_clamp (by omega)]
theorem k_findIn (hok : okP L Q) (hi : i < Q.length) (hL : L[i]? = some a) (hQ : Q[i]? = some pd) (C : Cx D ca sa lo p s m c cc nL RX9 A) (hli : (Cond.methodLink RX9 index yX9_findIn).before args s = true) (hP : va_P D cls (wx ca x0 da ht hr L Q t) H) (hD : va_D A (wx ca x0 da ht hr L Q t)) (hS : va_S A s.heap H locs) (hsize : ls.size = nL) (hR : 2 ≤ R.frames ∧ 53 ≤ R.locals) (hW : (rest.map fun v => v.category).sum ≤ 8) (hdg : decode cc pc = .ok (.invokevirtual index, 3)) (hf : cells ≤ R.cells ∧ slots ≤ R.slots)
    (kn : pd.2.1 ≠ zn → ∀ (H1 : Heap) (locs1 : List Loc), va_P D cls (wx ca x0 da ht hr L Q t) H1 → va_S A s.heap H1 locs1 → W p l e R s m args below meth c H1 locs1 cells slots Q9 (F0 m (pc + 3) ls (.null :: rest)))
    (ks : pd.2.1 = zn → ∀ (H1 : Heap) (locs1 : List Loc), va_P D cls (wx ca x0 da ht hr L Q t) H1 → va_S A s.heap H1 locs1 → W p l e R s m args below meth c H1 locs1 cells slots Q9 (F0 m (pc + 3) ls (.ref a :: rest))) :
    W p l e R s m args below meth c H locs cells slots Q9 (F0 m pc ls (.int (nI i) :: .int zn :: .ref x0 :: rest)) := by
  have hk := C.2.2.2.2.1
  have hfr := fr_of C hD hS
  refine va_callq (run_V (Cn := RX9) (T := TX9) (N := 3) (q0 := 0) (ci := 9) (n := 2) (As := [.int zn, .int (nI i)]) (rest := rest) C (m_findIn l D ca sa lo x0 da ht hr L Q t hok zn (nI i) H.size) (fun U A9 h => co_X9_findIn h A9) (in_X9 hk.1 _) hli (im_X9_findIn hk.1 _) (se_X9_X9_findIn hk.1 _) (by decide +kernel) ⟨⟨rfl, rfl⟩, hR.1, hR.2⟩ hP hD hS rfl rfl rfl hsize rfl hW hdg hf) hS (fun q _ h => hfr q h) hfr (fun r u t1 H1 locs1 ht1 hvm hp hB hz1 hk1 hS1 => ?_)
  subst ht1
  have hp : r = if pd.2.1 = zn then some a else none := by
    rw [hp, ix_nI hok.2.1 hi]
    show (if (gQ Q i).2.1 = zn then L[i]? else none) = _
    rw [gQ_of hQ, hL]
  by_cases h : pd.2.1 = zn
  · rw [if_pos h] at hp
    subst hp
    exact ks h _ _ hB hS1
  · rw [if_neg h] at hp
    subst hp
    exact kn h _ _ hB hS1
end KFJ
