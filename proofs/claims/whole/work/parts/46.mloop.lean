theorem okQ.set {Q : List Pd} (h : okQ Q) {i : Nat} {pe : Pd} (hp : pe.1 < 8) : okQ (Q.set i pe) := by
  refine ⟨by rw [List.length_set]; exact h.1, fun pd hq => ?_⟩
  rcases List.mem_or_eq_of_mem_set hq with h1 | h1
  · exact h.2 pd h1
  · rw [h1]; exact hp

set_option maxHeartbeats 4000000 in
set_option maxRecDepth 100000 in
theorem LM_sweep {p : Program} {l : Launch} {e : Env} {s : State} {m : MethodId} {args : Array Value} {below : List Frame} {meth : Method} {c : Code} {A : Nat → Prop} {D : va_G} {ca : Nat → ClassId} {sa : Nat → Nat} {lo : Nat} {ya : Nat → Nat} {Q : List Pd} {t : Tr} {zq v : Int32} (C : Cx D ca sa lo p s m c cX10_sweep 5 RX10 A) (hrt : meth.sig.returnType = some .int) (hlocks : meth.locks = false) (hn : Q.length ≤ 20) (ht : t.1 + 220 ≤ 2147483648) {r : Ry} (hr9 : r = ((lp (swS zq v) Q.length (Q, t, 0)).2.2, (lp (swS zq v) Q.length (Q, t, 0)).1, (lp (swS zq v) Q.length (Q, t, 0)).2.1)) :
    ∀ (k i : Nat), i + k = Q.length → ∀ (Qc : List Pd) (tc : Tr) (fc : Int32), (Qc, tc, fc) = lp (swS zq v) i (Q, t, 0) → okQ Qc → Qc.length = Q.length → tc.1 ≤ t.1 + 11 * i → ∀ (F : Nat → Pd) (fl : Int32), RQ F Qc → ∀ (H : Heap) (locs : List Loc) (ls : Array Slot), va_P D cls (wm ca ya F Q.length 0 fl tc) H → va_D A (wm ca ya F Q.length 0 fl tc) → va_S A s.heap H locs → lv_has ls 5 [(0, .ref (ya 0)), (1, .int zq), (2, .int v), (3, .int fc), (4, .int (nI i))] →
      W p l e ({ frames := 6, cells := 0, slots := 0, locals := 190 }) s m args below meth c H locs 0 0 (MQ below (QF D ca ya r.1 0 r.2.1 r.2.2 A) args s 0 0 A) (F0 m 35 ls []) := by
  obtain ⟨hx, hb, hml, hown, hk, hz, hlo, hA, hAl⟩ := id C
  have hK : va_K D cls (tyl ca) s := hk.2.1
  intro k
  induction k with
  | zero =>
    intro i hik Qc tc fc hu hok hlen htc F fl hF H locs ls hP hD hS hl
    obtain rfl : i = Q.length := by omega
    have hl : lv_has ls 5 [(0, .ref (ya 0)), (1, .int zq), (2, .int v), (3, .int fc), (4, .int (nI Q.length))] := hl
    refine lv_iload hx hb dX10_sweep_35 (lv_at hl 4 rfl) ?_
    refine lv_aload_n hx hb dX10_sweep_37 rfl (lv_at hl 0 rfl) ?_
    refine va_get (D := D) (C := RX10) (T := TX10) (N := 15) hx hb (uc_10 hk.1 _) (fun _ h9 => h9) hown hK hP 0 rfl rfl 1 (by decide) (fl_X10_42 hk.1 _) (fun _ h9 => h9) rfl dX10_sweep_38 ?_
    refine lv_icmp_ge (tgt := 83) hx hb dX10_sweep_41 (by decide) (fun _ => ?_) (fun c_1 => absurd ((show nI Q.length ≤ nI Q.length from Int32.le_refl _)) c_1)
    refine lv_iload_n hx hb dX10_sweep_83 rfl (lv_at hl 3 rfl) ?_
    have e1 : r = (fc, Qc, tc) := by rw [hr9, ← hu]
    subst e1
    exact rf_ C hrt hlocks rfl hF (by rw [hlen]; exact hP) hS dX10_sweep_84
  | succ k ih =>
    intro i hik Qc tc fc hu hok hlen htc F fl hF H locs ls hP hD hS hl
    have hiQ : i < Qc.length := by omega
    have hi : i < 20 := by omega
    obtain ⟨⟨kd, zn, lm, ch, lv, cn, dr, la⟩, hQ, hkd⟩ := at_Q hok hiQ
    have hkd : kd < 8 := hkd
    have hFe : va_up F i (kd, zn, lm, ch, lv, cn, dr, la) = F := by rw [← hF i _ hQ]; exact up_same F i
    have hP : va_P D cls (wm ca ya (va_up F i (kd, zn, lm, ch, lv, cn, dr, la)) Q.length 0 fl tc) H := by rw [hFe]; exact hP
    have hD : va_D A (wm ca ya (va_up F i (kd, zn, lm, ch, lv, cn, dr, la)) Q.length 0 fl tc) := by rw [hFe]; exact hD
    refine lv_iload hx hb dX10_sweep_35 (lv_at hl 4 rfl) ?_
    refine lv_aload_n hx hb dX10_sweep_37 rfl (lv_at hl 0 rfl) ?_
    refine va_get (D := D) (C := RX10) (T := TX10) (N := 15) hx hb (uc_10 hk.1 _) (fun _ h9 => h9) hown hK hP 0 rfl rfl 1 (by decide) (fl_X10_42 hk.1 _) (fun _ h9 => h9) rfl dX10_sweep_38 ?_
    refine lv_icmp_ge (tgt := 83) hx hb dX10_sweep_41 (by decide) (fun c_1 => absurd c_1 ((fun h9 : nI Q.length ≤ nI i => by rw [nI_leI (by omega) (by omega)] at h9; omega))) (fun _ => ?_)
    refine lv_aload_n hx hb dX10_sweep_44 rfl (lv_at hl 0 rfl) ?_
    refine va_get (D := D) (C := RX10) (T := TX10) (N := 15) hx hb (uc_10 hk.1 _) (fun _ h9 => h9) hown hK hP 0 rfl rfl 3 (by decide) (fl_X10_13 hk.1 _) (fun _ h9 => h9) rfl dX10_sweep_45 ?_
    refine lv_iload hx hb dX10_sweep_48 (lv_at hl 4 rfl) ?_
    refine ld_i (x := zn) C hP 2 rfl hi (congrArg (fun q : Pd => q.2.1) (va_up_self F i _)) dX10_sweep_50 ?_
    refine lv_iload_n hx hb dX10_sweep_51 rfl (lv_at hl 1 rfl) ?_
    refine lv_icmp_ne (tgt := 77) hx hb dX10_sweep_52 (by decide) (fun c_2 => ?_) (fun c_2 => ?_)
    · refine lv_iinc (v := (nI i) + 1) (lv' := [(4, .int ((nI i) + 1)), (0, .ref (ya 0)), (1, .int zq), (2, .int v), (3, .int fc)]) hx hb dX10_sweep_77 hl (k := 4) rfl rfl (by decide) rfl (fun ls hl => ?_)
      refine lv_goto (tgt := 35) hx hb dX10_sweep_80 (by decide) ?_
      have hl : lv_has ls 5 [(0, .ref (ya 0)), (1, .int zq), (2, .int v), (3, .int fc), (4, .int (nI (i + 1)))] := by rw [← nI_1]; exact lv_sub hl [1, 2, 3, 4, 0] rfl
      exact ih (i + 1) (by omega) Qc tc fc (by show _ = swS zq v i (lp (swS zq v) i (Q, t, 0)); rw [← hu]; exact (if_neg (by rw [gQ_of hQ]; exact c_2)).symm) hok hlen (by omega) (va_up F i (kd, zn, lm, ch, lv, cn, dr, la)) fl (by rw [hFe]; exact hF) _ _ ls hP hD hS hl
    · have hst : swS zq v i (Qc, tc, fc) = (Qc.set i (kd, zn, lm, (pr kd v (ch, lv, cn, dr, la) tc).2.1), (pr kd v (ch, lv, cn, dr, la) tc).2.2, if (pr kd v (ch, lv, cn, dr, la) tc).1 = 0 then fc else fc + 1) := by
        unfold swS; dsimp only; rw [gQ_of hQ, if_pos c_2, sQ_of hQ]
      refine lv_aload_n hx hb dX10_sweep_55 rfl (lv_at hl 0 rfl) ?_
      refine lv_iload hx hb dX10_sweep_56 (lv_at hl 4 rfl) ?_
      refine lv_iload_n hx hb dX10_sweep_58 rfl (lv_at hl 2 rfl) ?_
      refine k_mv (n9 := 2) (As := [.int (nI i), .int v]) C (n_readOf l D ca sa lo ya F Q.length 0 fl tc (by first | omega | (simp only [tb_n]; omega)) i hi kd hkd zn lm (ch, lv, cn, dr, la) v _) (fun U A9 h => co_X10_readOf h A9) (in_X10 hk.1 _) (ml_X10_88 hk.1 _) (im_X10_readOf hk.1 _) (se_X10_X10_readOf hk.1 _) (by decide +kernel) ⟨⟨rfl, rfl⟩, by decide, by decide⟩ hP hD hS rfl rfl rfl hl.1 rfl (Nat.le_of_ble_eq_true rfl) dX10_sweep_59 ⟨by decide, by decide⟩ (fun H locs hP hD hS => ?_)
      have hn1 := pr_n kd v (ch, lv, cn, dr, la) tc
      have hc1 := pr_c kd v (ch, lv, cn, dr, la) tc
      generalize hp1 : pr kd v (ch, lv, cn, dr, la) tc = P9 at hP hD hn1 hst hc1 ⊢
      obtain ⟨c1, ⟨ch, lv, cn, dr, la⟩, t1⟩ := P9
      have hc1 : c1 ≤ 2 := hc1
      have hn1 : t1.1 ≤ tc.1 + 11 := hn1
      have hP : va_P D cls (wm ca ya (va_up F i (kd, zn, lm, ch, lv, cn, dr, la)) Q.length 0 (nI c1) t1) H := hP
      have hD : va_D A (wm ca ya (va_up F i (kd, zn, lm, ch, lv, cn, dr, la)) Q.length 0 (nI c1) t1) := hD
      refine lv_iload_n hx hb dX10_sweep_62 rfl (lv_at hl 3 rfl) ?_
      refine lv_aload_n hx hb dX10_sweep_63 rfl (lv_at hl 0 rfl) ?_
      refine va_get (D := D) (C := RX10) (T := TX10) (N := 15) hx hb (uc_10 hk.1 _) (fun _ h9 => h9) hown hK hP 0 rfl rfl 14 (by decide) (fl_X10_52 hk.1 _) (fun _ h9 => h9) rfl dX10_sweep_64 ?_
      refine lv_if_le (tgt := 74) hx hb dX10_sweep_67 (by decide) (fun c_3 => ?_) (fun c_3 => ?_)
      · refine lv_iconst (v := 0) hx hb dX10_sweep_74 (by decide) ?_
        refine lv_iadd hx hb dX10_sweep_75 ?_
        refine lv_istore_n (lv' := [(3, .int (fc + 0)), (0, .ref (ya 0)), (1, .int zq), (2, .int v), (4, .int (nI i))]) hx hb dX10_sweep_76 rfl hl (by decide) rfl (fun ls hl => ?_)
        refine lv_iinc (v := (nI i) + 1) (lv' := [(4, .int ((nI i) + 1)), (3, .int (fc + 0)), (0, .ref (ya 0)), (1, .int zq), (2, .int v)]) hx hb dX10_sweep_77 hl (k := 4) rfl rfl (by decide) rfl (fun ls hl => ?_)
        refine lv_goto (tgt := 35) hx hb dX10_sweep_80 (by decide) ?_
        have hl : lv_has ls 5 [(0, .ref (ya 0)), (1, .int zq), (2, .int v), (3, .int (fc + 0)), (4, .int (nI (i + 1)))] := by rw [← nI_1]; exact lv_sub hl [2, 3, 4, 1, 0] rfl
        exact ih (i + 1) (by omega) (Qc.set i (kd, zn, lm, ch, lv, cn, dr, la)) t1 (fc + 0) (by show _ = swS zq v i (lp (swS zq v) i (Q, t, 0)); rw [← hu, hst]; dsimp only; rw [if_pos ((nI_le0 hc1).mp c_3), Int32.add_zero]) (hok.set hkd) (List.length_set.trans hlen) (by omega) (va_up F i (kd, zn, lm, ch, lv, cn, dr, la)) (nI c1) (hF.set _) _ _ ls hP hD hS hl
      · refine lv_iconst (v := 1) hx hb dX10_sweep_70 (by decide) ?_
        refine lv_goto (tgt := 75) hx hb dX10_sweep_71 (by decide) ?_
        refine lv_iadd hx hb dX10_sweep_75 ?_
        refine lv_istore_n (lv' := [(3, .int (fc + 1)), (0, .ref (ya 0)), (1, .int zq), (2, .int v), (4, .int (nI i))]) hx hb dX10_sweep_76 rfl hl (by decide) rfl (fun ls hl => ?_)
        refine lv_iinc (v := (nI i) + 1) (lv' := [(4, .int ((nI i) + 1)), (3, .int (fc + 1)), (0, .ref (ya 0)), (1, .int zq), (2, .int v)]) hx hb dX10_sweep_77 hl (k := 4) rfl rfl (by decide) rfl (fun ls hl => ?_)
        refine lv_goto (tgt := 35) hx hb dX10_sweep_80 (by decide) ?_
        have hl : lv_has ls 5 [(0, .ref (ya 0)), (1, .int zq), (2, .int v), (3, .int (fc + 1)), (4, .int (nI (i + 1)))] := by rw [← nI_1]; exact lv_sub hl [2, 3, 4, 1, 0] rfl
        exact ih (i + 1) (by omega) (Qc.set i (kd, zn, lm, ch, lv, cn, dr, la)) t1 (fc + 1) (by show _ = swS zq v i (lp (swS zq v) i (Q, t, 0)); rw [← hu, hst]; dsimp only; rw [if_neg (fun h9 => c_3 ((nI_le0 hc1).mpr h9))]) (hok.set hkd) (List.length_set.trans hlen) (by omega) (va_up F i (kd, zn, lm, ch, lv, cn, dr, la)) (nI c1) (hF.set _) _ _ ls hP hD hS hl

set_option maxHeartbeats 4000000 in
set_option maxRecDepth 100000 in
theorem LM_alarm {p : Program} {l : Launch} {e : Env} {s : State} {m : MethodId} {args : Array Value} {below : List Frame} {meth : Method} {c : Code} {A : Nat → Prop} {D : va_G} {ca : Nat → ClassId} {sa : Nat → Nat} {lo : Nat} {ya : Nat → Nat} {Q : List Pd} {t : Tr} {zq kq : Int32} (C : Cx D ca sa lo p s m c cX10_alarm 6 RX10 A) (hrt : meth.sig.returnType = some .int) (hlocks : meth.locks = false) (hn : Q.length ≤ 20) (ht : t.1 + 40 ≤ 2147483648) {r : Ry} (hr9 : r = (bi (decide (kq ≤ (lp (alS zq) Q.length (Q, t, 0)).2.2)), (lp (alS zq) Q.length (Q, t, 0)).1, (lp (alS zq) Q.length (Q, t, 0)).2.1)) :
    ∀ (k i : Nat), i + k = Q.length → ∀ (Qc : List Pd) (tc : Tr) (fc : Int32), (Qc, tc, fc) = lp (alS zq) i (Q, t, 0) → okQ Qc → Qc.length = Q.length → tc.1 ≤ t.1 + 2 * i → ∀ (F : Nat → Pd) (fl : Int32), RQ F Qc → ∀ (H : Heap) (locs : List Loc) (ls : Array Slot), va_P D cls (wm ca ya F Q.length 0 fl tc) H → va_D A (wm ca ya F Q.length 0 fl tc) → va_S A s.heap H locs → lv_has ls 6 [(0, .ref (ya 0)), (1, .int zq), (2, .int kq), (3, .int fc), (4, .int (nI i))] →
      W p l e ({ frames := 3, cells := 0, slots := 0, locals := 95 }) s m args below meth c H locs 0 0 (MQ below (QF D ca ya r.1 0 r.2.1 r.2.2 A) args s 0 0 A) (F0 m 32 ls []) := by
  obtain ⟨hx, hb, hml, hown, hk, hz, hlo, hA, hAl⟩ := id C
  have hK : va_K D cls (tyl ca) s := hk.2.1
  intro k
  induction k with
  | zero =>
    intro i hik Qc tc fc hu hok hlen htc F fl hF H locs ls hP hD hS hl
    obtain rfl : i = Q.length := by omega
    have hl : lv_has ls 6 [(0, .ref (ya 0)), (1, .int zq), (2, .int kq), (3, .int fc), (4, .int (nI Q.length))] := hl
    refine lv_iload hx hb dX10_alarm_32 (lv_at hl 4 rfl) ?_
    refine lv_aload_n hx hb dX10_alarm_34 rfl (lv_at hl 0 rfl) ?_
    refine va_get (D := D) (C := RX10) (T := TX10) (N := 15) hx hb (uc_10 hk.1 _) (fun _ h9 => h9) hown hK hP 0 rfl rfl 1 (by decide) (fl_X10_42 hk.1 _) (fun _ h9 => h9) rfl dX10_alarm_35 ?_
    refine lv_icmp_ge (tgt := 109) hx hb dX10_alarm_38 (by decide) (fun _ => ?_) (fun c_1 => absurd ((show nI Q.length ≤ nI Q.length from Int32.le_refl _)) c_1)
    refine lv_iload_n hx hb dX10_alarm_109 rfl (lv_at hl 3 rfl) ?_
    refine lv_iload_n hx hb dX10_alarm_110 rfl (lv_at hl 2 rfl) ?_
    refine lv_icmp_lt (tgt := 118) hx hb dX10_alarm_111 (by decide) (fun c_2 => ?_) (fun c_2 => ?_)
    · refine lv_iconst (v := 0) hx hb dX10_alarm_118 (by decide) ?_
      have e1 : r = (bi (decide (kq ≤ fc)), Qc, tc) := by rw [hr9, ← hu]
      subst e1
      exact rf_ C hrt hlocks (bi_f (Int32.not_le.mpr c_2)) hF (by rw [hlen]; exact hP) hS dX10_alarm_119
    · refine lv_iconst (v := 1) hx hb dX10_alarm_114 (by decide) ?_
      refine lv_goto (tgt := 119) hx hb dX10_alarm_115 (by decide) ?_
      have e1 : r = (bi (decide (kq ≤ fc)), Qc, tc) := by rw [hr9, ← hu]
      subst e1
      exact rf_ C hrt hlocks (bi_t (Int32.not_lt.mp c_2)) hF (by rw [hlen]; exact hP) hS dX10_alarm_119
  | succ k ih =>
    intro i hik Qc tc fc hu hok hlen htc F fl hF H locs ls hP hD hS hl
    have hiQ : i < Qc.length := by omega
    have hi : i < 20 := by omega
    obtain ⟨⟨kd, zn, lm, ch, lv, cn, dr, la⟩, hQ, hkd⟩ := at_Q hok hiQ
    have hkd : kd < 8 := hkd
    have hFe : va_up F i (kd, zn, lm, ch, lv, cn, dr, la) = F := by rw [← hF i _ hQ]; exact up_same F i
    have hP : va_P D cls (wm ca ya (va_up F i (kd, zn, lm, ch, lv, cn, dr, la)) Q.length 0 fl tc) H := by rw [hFe]; exact hP
    have hD : va_D A (wm ca ya (va_up F i (kd, zn, lm, ch, lv, cn, dr, la)) Q.length 0 fl tc) := by rw [hFe]; exact hD
    refine lv_iload hx hb dX10_alarm_32 (lv_at hl 4 rfl) ?_
    refine lv_aload_n hx hb dX10_alarm_34 rfl (lv_at hl 0 rfl) ?_
    refine va_get (D := D) (C := RX10) (T := TX10) (N := 15) hx hb (uc_10 hk.1 _) (fun _ h9 => h9) hown hK hP 0 rfl rfl 1 (by decide) (fl_X10_42 hk.1 _) (fun _ h9 => h9) rfl dX10_alarm_35 ?_
    refine lv_icmp_ge (tgt := 109) hx hb dX10_alarm_38 (by decide) (fun c_1 => absurd c_1 ((fun h9 : nI Q.length ≤ nI i => by rw [nI_leI (by omega) (by omega)] at h9; omega))) (fun _ => ?_)
    refine lv_aload_n hx hb dX10_alarm_41 rfl (lv_at hl 0 rfl) ?_
    refine va_get (D := D) (C := RX10) (T := TX10) (N := 15) hx hb (uc_10 hk.1 _) (fun _ h9 => h9) hown hK hP 0 rfl rfl 3 (by decide) (fl_X10_13 hk.1 _) (fun _ h9 => h9) rfl dX10_alarm_42 ?_
    refine lv_iload hx hb dX10_alarm_45 (lv_at hl 4 rfl) ?_
    refine ld_i (x := zn) C hP 2 rfl hi (congrArg (fun q : Pd => q.2.1) (va_up_self F i _)) dX10_alarm_47 ?_
    refine lv_iload_n hx hb dX10_alarm_48 rfl (lv_at hl 1 rfl) ?_
    refine lv_icmp_ne (tgt := 103) hx hb dX10_alarm_49 (by decide) (fun c_2 => ?_) (fun c_2 => ?_)
    · refine lv_iinc (v := (nI i) + 1) (lv' := [(4, .int ((nI i) + 1)), (0, .ref (ya 0)), (1, .int zq), (2, .int kq), (3, .int fc)]) hx hb dX10_alarm_103 hl (k := 4) rfl rfl (by decide) rfl (fun ls hl => ?_)
      refine lv_goto (tgt := 32) hx hb dX10_alarm_106 (by decide) ?_
      have hl : lv_has ls 6 [(0, .ref (ya 0)), (1, .int zq), (2, .int kq), (3, .int fc), (4, .int (nI (i + 1)))] := by rw [← nI_1]; exact lv_sub hl [1, 2, 3, 4, 0] rfl
      exact ih (i + 1) (by omega) Qc tc fc (by show _ = alS zq i (lp (alS zq) i (Q, t, 0)); rw [← hu]; exact (if_neg (by rw [gQ_of hQ]; exact c_2)).symm) hok hlen (by omega) (va_up F i (kd, zn, lm, ch, lv, cn, dr, la)) fl (by rw [hFe]; exact hF) _ _ ls hP hD hS hl
    · have hst : alS zq i (Qc, tc, fc) = (Qc.set i (kd, zn, lm, (po kd lm (ch, lv, cn, dr, la) tc).2.1), (po kd lm (ch, lv, cn, dr, la) tc).2.2, fc + if (po kd lm (ch, lv, cn, dr, la) tc).1 = true then vn kd else 0) := by
        unfold alS; dsimp only; rw [gQ_of hQ, if_pos c_2, sQ_of hQ]; rfl
      rcases k8 hkd with rfl | rfl | rfl | rfl | rfl | rfl | rfl | rfl
      · refine lv_aload_n hx hb dX10_alarm_52 rfl (lv_at hl 0 rfl) ?_
        refine va_get (D := D) (C := RX10) (T := TX10) (N := 15) hx hb (uc_10 hk.1 _) (fun _ h9 => h9) hown hK hP 0 rfl rfl 2 (by decide) (fl_X10_7 hk.1 _) (fun _ h9 => h9) rfl dX10_alarm_53 ?_
        refine lv_iload hx hb dX10_alarm_56 (lv_at hl 4 rfl) ?_
        refine ld_i (x := nI 0) C hP 1 rfl hi (congrArg (fun q : Pd => nI q.1) (va_up_self F i _)) dX10_alarm_58 ?_
        refine lv_if_ne (x := nI 0) (tgt := 66) hx hb dX10_alarm_59 (by decide) (fun h9 => absurd h9 (by decide +kernel)) (fun _ => ?_)
        refine lv_iconst (v := 3) hx hb dX10_alarm_62 (by decide) ?_
        refine lv_goto (tgt := 83) hx hb dX10_alarm_63 (by decide) ?_
        refine lv_istore (lv' := [(5, .int 3), (0, .ref (ya 0)), (1, .int zq), (2, .int kq), (3, .int fc), (4, .int (nI i))]) hx hb dX10_alarm_83 hl (by decide) rfl (fun ls hl => ?_)
        refine lv_iload_n hx hb dX10_alarm_85 rfl (lv_at hl 4 rfl) ?_
        refine lv_aload_n hx hb dX10_alarm_86 rfl (lv_at hl 1 rfl) ?_
        refine lv_iload hx hb dX10_alarm_87 (lv_at hl 5 rfl) ?_
        refine k_mi (n9 := 1) (As := [.int (nI i)]) C (n_isOver l D ca sa lo ya F Q.length 0 fl tc (by first | omega | (simp only [tb_n]; omega)) i hi 0 (by decide) zn lm (ch, lv, cn, dr, la) _) (fun U A9 h => co_X10_isOver h A9) (in_X10 hk.1 _) (ml_X10_94 hk.1 _) (im_X10_isOver hk.1 _) (se_X10_X10_isOver hk.1 _) (by decide +kernel) ⟨⟨rfl, rfl⟩, by decide, by decide⟩ hP hD hS rfl rfl rfl hl.1 rfl (Nat.le_of_ble_eq_true rfl) dX10_alarm_89 ⟨by decide, by decide⟩ (fun H locs hP hD hS => ?_)
        have hn1 := po_n 0 lm (ch, lv, cn, dr, la) tc
        generalize hp1 : po 0 lm (ch, lv, cn, dr, la) tc = P9 at hP hD hn1 hst ⊢
        obtain ⟨b1, ⟨ch, lv, cn, dr, la⟩, t1⟩ := P9
        have hn1 : t1.1 ≤ tc.1 + 2 := hn1
        have hP : va_P D cls (wm ca ya (va_up F i (0, zn, lm, ch, lv, cn, dr, la)) Q.length 0 fl t1) H := hP
        have hD : va_D A (wm ca ya (va_up F i (0, zn, lm, ch, lv, cn, dr, la)) Q.length 0 fl t1) := hD
        refine lv_if_eq (tgt := 100) hx hb dX10_alarm_92 (by decide) (fun c_3 => ?_) (fun c_3 => ?_)
        · refine lv_iconst (v := 0) hx hb dX10_alarm_100 (by decide) ?_
          refine lv_iadd hx hb dX10_alarm_101 ?_
          refine lv_istore_n (lv' := [(3, .int (fc + 0)), (5, .int 3), (0, .ref (ya 0)), (1, .int zq), (2, .int kq), (4, .int (nI i))]) hx hb dX10_alarm_102 rfl hl (by decide) rfl (fun ls hl => ?_)
          refine lv_iinc (v := (nI i) + 1) (lv' := [(4, .int ((nI i) + 1)), (3, .int (fc + 0)), (5, .int 3), (0, .ref (ya 0)), (1, .int zq), (2, .int kq)]) hx hb dX10_alarm_103 hl (k := 5) rfl rfl (by decide) rfl (fun ls hl => ?_)
          refine lv_goto (tgt := 32) hx hb dX10_alarm_106 (by decide) ?_
          have hl : lv_has ls 6 [(0, .ref (ya 0)), (1, .int zq), (2, .int kq), (3, .int (fc + 0)), (4, .int (nI (i + 1)))] := by rw [← nI_1]; exact lv_sub hl [3, 4, 5, 1, 0] rfl
          exact ih (i + 1) (by omega) (Qc.set i (0, zn, lm, ch, lv, cn, dr, la)) t1 (fc + 0) (by show _ = alS zq i (lp (alS zq) i (Q, t, 0)); rw [← hu, hst]; dsimp only; rw [if_neg (fun h9 => by rw [show b1 = false from bi_eq0 c_3] at h9; cases h9)]) (hok.set hkd) (List.length_set.trans hlen) (by omega) (va_up F i (0, zn, lm, ch, lv, cn, dr, la)) fl (hF.set _) _ _ ls hP hD hS hl
        · refine lv_iload hx hb dX10_alarm_95 (lv_at hl 0 rfl) ?_
          refine lv_goto (tgt := 101) hx hb dX10_alarm_97 (by decide) ?_
          refine lv_iadd hx hb dX10_alarm_101 ?_
          refine lv_istore_n (lv' := [(3, .int (fc + 3)), (5, .int 3), (0, .ref (ya 0)), (1, .int zq), (2, .int kq), (4, .int (nI i))]) hx hb dX10_alarm_102 rfl hl (by decide) rfl (fun ls hl => ?_)
          refine lv_iinc (v := (nI i) + 1) (lv' := [(4, .int ((nI i) + 1)), (3, .int (fc + 3)), (5, .int 3), (0, .ref (ya 0)), (1, .int zq), (2, .int kq)]) hx hb dX10_alarm_103 hl (k := 5) rfl rfl (by decide) rfl (fun ls hl => ?_)
          refine lv_goto (tgt := 32) hx hb dX10_alarm_106 (by decide) ?_
          have hl : lv_has ls 6 [(0, .ref (ya 0)), (1, .int zq), (2, .int kq), (3, .int (fc + 3)), (4, .int (nI (i + 1)))] := by rw [← nI_1]; exact lv_sub hl [3, 4, 5, 1, 0] rfl
          exact ih (i + 1) (by omega) (Qc.set i (0, zn, lm, ch, lv, cn, dr, la)) t1 (fc + 3) (by show _ = alS zq i (lp (alS zq) i (Q, t, 0)); rw [← hu, hst]; dsimp only; rw [if_pos (bi_ne0 c_3)]; rfl) (hok.set hkd) (List.length_set.trans hlen) (by omega) (va_up F i (0, zn, lm, ch, lv, cn, dr, la)) fl (hF.set _) _ _ ls hP hD hS hl
      · refine lv_aload_n hx hb dX10_alarm_52 rfl (lv_at hl 0 rfl) ?_
        refine va_get (D := D) (C := RX10) (T := TX10) (N := 15) hx hb (uc_10 hk.1 _) (fun _ h9 => h9) hown hK hP 0 rfl rfl 2 (by decide) (fl_X10_7 hk.1 _) (fun _ h9 => h9) rfl dX10_alarm_53 ?_
        refine lv_iload hx hb dX10_alarm_56 (lv_at hl 4 rfl) ?_
        refine ld_i (x := nI 1) C hP 1 rfl hi (congrArg (fun q : Pd => nI q.1) (va_up_self F i _)) dX10_alarm_58 ?_
        refine lv_if_ne (x := nI 1) (tgt := 66) hx hb dX10_alarm_59 (by decide) (fun _ => ?_) (fun h9 => absurd h9 (by decide +kernel))
        refine lv_aload_n hx hb dX10_alarm_66 rfl (lv_at hl 0 rfl) ?_
        refine va_get (D := D) (C := RX10) (T := TX10) (N := 15) hx hb (uc_10 hk.1 _) (fun _ h9 => h9) hown hK hP 0 rfl rfl 2 (by decide) (fl_X10_7 hk.1 _) (fun _ h9 => h9) rfl dX10_alarm_67 ?_
        refine lv_iload hx hb dX10_alarm_70 (lv_at hl 4 rfl) ?_
        refine ld_i (x := nI 1) C hP 1 rfl hi (congrArg (fun q : Pd => nI q.1) (va_up_self F i _)) dX10_alarm_72 ?_
        refine lv_bipush (v := 7) hx hb dX10_alarm_73 (by decide) ?_
        refine lv_icmp_ne (x := nI 1) (y := 7) (tgt := 82) hx hb dX10_alarm_75 (by decide) (fun _ => ?_) (fun h9 => absurd h9 (by decide +kernel))
        refine lv_iconst (v := 1) hx hb dX10_alarm_82 (by decide) ?_
        refine lv_istore (lv' := [(5, .int 1), (0, .ref (ya 0)), (1, .int zq), (2, .int kq), (3, .int fc), (4, .int (nI i))]) hx hb dX10_alarm_83 hl (by decide) rfl (fun ls hl => ?_)
        refine lv_iload_n hx hb dX10_alarm_85 rfl (lv_at hl 4 rfl) ?_
        refine lv_aload_n hx hb dX10_alarm_86 rfl (lv_at hl 1 rfl) ?_
        refine lv_iload hx hb dX10_alarm_87 (lv_at hl 5 rfl) ?_
        refine k_mi (n9 := 1) (As := [.int (nI i)]) C (n_isOver l D ca sa lo ya F Q.length 0 fl tc (by first | omega | (simp only [tb_n]; omega)) i hi 1 (by decide) zn lm (ch, lv, cn, dr, la) _) (fun U A9 h => co_X10_isOver h A9) (in_X10 hk.1 _) (ml_X10_94 hk.1 _) (im_X10_isOver hk.1 _) (se_X10_X10_isOver hk.1 _) (by decide +kernel) ⟨⟨rfl, rfl⟩, by decide, by decide⟩ hP hD hS rfl rfl rfl hl.1 rfl (Nat.le_of_ble_eq_true rfl) dX10_alarm_89 ⟨by decide, by decide⟩ (fun H locs hP hD hS => ?_)
        have hn1 := po_n 1 lm (ch, lv, cn, dr, la) tc
        generalize hp1 : po 1 lm (ch, lv, cn, dr, la) tc = P9 at hP hD hn1 hst ⊢
        obtain ⟨b1, ⟨ch, lv, cn, dr, la⟩, t1⟩ := P9
        have hn1 : t1.1 ≤ tc.1 + 2 := hn1
        have hP : va_P D cls (wm ca ya (va_up F i (1, zn, lm, ch, lv, cn, dr, la)) Q.length 0 fl t1) H := hP
        have hD : va_D A (wm ca ya (va_up F i (1, zn, lm, ch, lv, cn, dr, la)) Q.length 0 fl t1) := hD
        refine lv_if_eq (tgt := 100) hx hb dX10_alarm_92 (by decide) (fun c_4 => ?_) (fun c_4 => ?_)
        · refine lv_iconst (v := 0) hx hb dX10_alarm_100 (by decide) ?_
          refine lv_iadd hx hb dX10_alarm_101 ?_
          refine lv_istore_n (lv' := [(3, .int (fc + 0)), (5, .int 1), (0, .ref (ya 0)), (1, .int zq), (2, .int kq), (4, .int (nI i))]) hx hb dX10_alarm_102 rfl hl (by decide) rfl (fun ls hl => ?_)
          refine lv_iinc (v := (nI i) + 1) (lv' := [(4, .int ((nI i) + 1)), (3, .int (fc + 0)), (5, .int 1), (0, .ref (ya 0)), (1, .int zq), (2, .int kq)]) hx hb dX10_alarm_103 hl (k := 5) rfl rfl (by decide) rfl (fun ls hl => ?_)
          refine lv_goto (tgt := 32) hx hb dX10_alarm_106 (by decide) ?_
          have hl : lv_has ls 6 [(0, .ref (ya 0)), (1, .int zq), (2, .int kq), (3, .int (fc + 0)), (4, .int (nI (i + 1)))] := by rw [← nI_1]; exact lv_sub hl [3, 4, 5, 1, 0] rfl
          exact ih (i + 1) (by omega) (Qc.set i (1, zn, lm, ch, lv, cn, dr, la)) t1 (fc + 0) (by show _ = alS zq i (lp (alS zq) i (Q, t, 0)); rw [← hu, hst]; dsimp only; rw [if_neg (fun h9 => by rw [show b1 = false from bi_eq0 c_4] at h9; cases h9)]) (hok.set hkd) (List.length_set.trans hlen) (by omega) (va_up F i (1, zn, lm, ch, lv, cn, dr, la)) fl (hF.set _) _ _ ls hP hD hS hl
        · refine lv_iload hx hb dX10_alarm_95 (lv_at hl 0 rfl) ?_
          refine lv_goto (tgt := 101) hx hb dX10_alarm_97 (by decide) ?_
          refine lv_iadd hx hb dX10_alarm_101 ?_
          refine lv_istore_n (lv' := [(3, .int (fc + 1)), (5, .int 1), (0, .ref (ya 0)), (1, .int zq), (2, .int kq), (4, .int (nI i))]) hx hb dX10_alarm_102 rfl hl (by decide) rfl (fun ls hl => ?_)
          refine lv_iinc (v := (nI i) + 1) (lv' := [(4, .int ((nI i) + 1)), (3, .int (fc + 1)), (5, .int 1), (0, .ref (ya 0)), (1, .int zq), (2, .int kq)]) hx hb dX10_alarm_103 hl (k := 5) rfl rfl (by decide) rfl (fun ls hl => ?_)
          refine lv_goto (tgt := 32) hx hb dX10_alarm_106 (by decide) ?_
          have hl : lv_has ls 6 [(0, .ref (ya 0)), (1, .int zq), (2, .int kq), (3, .int (fc + 1)), (4, .int (nI (i + 1)))] := by rw [← nI_1]; exact lv_sub hl [3, 4, 5, 1, 0] rfl
          exact ih (i + 1) (by omega) (Qc.set i (1, zn, lm, ch, lv, cn, dr, la)) t1 (fc + 1) (by show _ = alS zq i (lp (alS zq) i (Q, t, 0)); rw [← hu, hst]; dsimp only; rw [if_pos (bi_ne0 c_4)]; rfl) (hok.set hkd) (List.length_set.trans hlen) (by omega) (va_up F i (1, zn, lm, ch, lv, cn, dr, la)) fl (hF.set _) _ _ ls hP hD hS hl
      · refine lv_aload_n hx hb dX10_alarm_52 rfl (lv_at hl 0 rfl) ?_
        refine va_get (D := D) (C := RX10) (T := TX10) (N := 15) hx hb (uc_10 hk.1 _) (fun _ h9 => h9) hown hK hP 0 rfl rfl 2 (by decide) (fl_X10_7 hk.1 _) (fun _ h9 => h9) rfl dX10_alarm_53 ?_
        refine lv_iload hx hb dX10_alarm_56 (lv_at hl 4 rfl) ?_
        refine ld_i (x := nI 2) C hP 1 rfl hi (congrArg (fun q : Pd => nI q.1) (va_up_self F i _)) dX10_alarm_58 ?_
        refine lv_if_ne (x := nI 2) (tgt := 66) hx hb dX10_alarm_59 (by decide) (fun _ => ?_) (fun h9 => absurd h9 (by decide +kernel))
        refine lv_aload_n hx hb dX10_alarm_66 rfl (lv_at hl 0 rfl) ?_
        refine va_get (D := D) (C := RX10) (T := TX10) (N := 15) hx hb (uc_10 hk.1 _) (fun _ h9 => h9) hown hK hP 0 rfl rfl 2 (by decide) (fl_X10_7 hk.1 _) (fun _ h9 => h9) rfl dX10_alarm_67 ?_
        refine lv_iload hx hb dX10_alarm_70 (lv_at hl 4 rfl) ?_
        refine ld_i (x := nI 2) C hP 1 rfl hi (congrArg (fun q : Pd => nI q.1) (va_up_self F i _)) dX10_alarm_72 ?_
        refine lv_bipush (v := 7) hx hb dX10_alarm_73 (by decide) ?_
        refine lv_icmp_ne (x := nI 2) (y := 7) (tgt := 82) hx hb dX10_alarm_75 (by decide) (fun _ => ?_) (fun h9 => absurd h9 (by decide +kernel))
        refine lv_iconst (v := 1) hx hb dX10_alarm_82 (by decide) ?_
        refine lv_istore (lv' := [(5, .int 1), (0, .ref (ya 0)), (1, .int zq), (2, .int kq), (3, .int fc), (4, .int (nI i))]) hx hb dX10_alarm_83 hl (by decide) rfl (fun ls hl => ?_)
        refine lv_iload_n hx hb dX10_alarm_85 rfl (lv_at hl 4 rfl) ?_
        refine lv_aload_n hx hb dX10_alarm_86 rfl (lv_at hl 1 rfl) ?_
        refine lv_iload hx hb dX10_alarm_87 (lv_at hl 5 rfl) ?_
        refine k_mi (n9 := 1) (As := [.int (nI i)]) C (n_isOver l D ca sa lo ya F Q.length 0 fl tc (by first | omega | (simp only [tb_n]; omega)) i hi 2 (by decide) zn lm (ch, lv, cn, dr, la) _) (fun U A9 h => co_X10_isOver h A9) (in_X10 hk.1 _) (ml_X10_94 hk.1 _) (im_X10_isOver hk.1 _) (se_X10_X10_isOver hk.1 _) (by decide +kernel) ⟨⟨rfl, rfl⟩, by decide, by decide⟩ hP hD hS rfl rfl rfl hl.1 rfl (Nat.le_of_ble_eq_true rfl) dX10_alarm_89 ⟨by decide, by decide⟩ (fun H locs hP hD hS => ?_)
        have hn1 := po_n 2 lm (ch, lv, cn, dr, la) tc
        generalize hp1 : po 2 lm (ch, lv, cn, dr, la) tc = P9 at hP hD hn1 hst ⊢
        obtain ⟨b1, ⟨ch, lv, cn, dr, la⟩, t1⟩ := P9
        have hn1 : t1.1 ≤ tc.1 + 2 := hn1
        have hP : va_P D cls (wm ca ya (va_up F i (2, zn, lm, ch, lv, cn, dr, la)) Q.length 0 fl t1) H := hP
        have hD : va_D A (wm ca ya (va_up F i (2, zn, lm, ch, lv, cn, dr, la)) Q.length 0 fl t1) := hD
        refine lv_if_eq (tgt := 100) hx hb dX10_alarm_92 (by decide) (fun c_5 => ?_) (fun c_5 => ?_)
        · refine lv_iconst (v := 0) hx hb dX10_alarm_100 (by decide) ?_
          refine lv_iadd hx hb dX10_alarm_101 ?_
          refine lv_istore_n (lv' := [(3, .int (fc + 0)), (5, .int 1), (0, .ref (ya 0)), (1, .int zq), (2, .int kq), (4, .int (nI i))]) hx hb dX10_alarm_102 rfl hl (by decide) rfl (fun ls hl => ?_)
          refine lv_iinc (v := (nI i) + 1) (lv' := [(4, .int ((nI i) + 1)), (3, .int (fc + 0)), (5, .int 1), (0, .ref (ya 0)), (1, .int zq), (2, .int kq)]) hx hb dX10_alarm_103 hl (k := 5) rfl rfl (by decide) rfl (fun ls hl => ?_)
          refine lv_goto (tgt := 32) hx hb dX10_alarm_106 (by decide) ?_
          have hl : lv_has ls 6 [(0, .ref (ya 0)), (1, .int zq), (2, .int kq), (3, .int (fc + 0)), (4, .int (nI (i + 1)))] := by rw [← nI_1]; exact lv_sub hl [3, 4, 5, 1, 0] rfl
          exact ih (i + 1) (by omega) (Qc.set i (2, zn, lm, ch, lv, cn, dr, la)) t1 (fc + 0) (by show _ = alS zq i (lp (alS zq) i (Q, t, 0)); rw [← hu, hst]; dsimp only; rw [if_neg (fun h9 => by rw [show b1 = false from bi_eq0 c_5] at h9; cases h9)]) (hok.set hkd) (List.length_set.trans hlen) (by omega) (va_up F i (2, zn, lm, ch, lv, cn, dr, la)) fl (hF.set _) _ _ ls hP hD hS hl
        · refine lv_iload hx hb dX10_alarm_95 (lv_at hl 0 rfl) ?_
          refine lv_goto (tgt := 101) hx hb dX10_alarm_97 (by decide) ?_
          refine lv_iadd hx hb dX10_alarm_101 ?_
          refine lv_istore_n (lv' := [(3, .int (fc + 1)), (5, .int 1), (0, .ref (ya 0)), (1, .int zq), (2, .int kq), (4, .int (nI i))]) hx hb dX10_alarm_102 rfl hl (by decide) rfl (fun ls hl => ?_)
          refine lv_iinc (v := (nI i) + 1) (lv' := [(4, .int ((nI i) + 1)), (3, .int (fc + 1)), (5, .int 1), (0, .ref (ya 0)), (1, .int zq), (2, .int kq)]) hx hb dX10_alarm_103 hl (k := 5) rfl rfl (by decide) rfl (fun ls hl => ?_)
          refine lv_goto (tgt := 32) hx hb dX10_alarm_106 (by decide) ?_
          have hl : lv_has ls 6 [(0, .ref (ya 0)), (1, .int zq), (2, .int kq), (3, .int (fc + 1)), (4, .int (nI (i + 1)))] := by rw [← nI_1]; exact lv_sub hl [3, 4, 5, 1, 0] rfl
          exact ih (i + 1) (by omega) (Qc.set i (2, zn, lm, ch, lv, cn, dr, la)) t1 (fc + 1) (by show _ = alS zq i (lp (alS zq) i (Q, t, 0)); rw [← hu, hst]; dsimp only; rw [if_pos (bi_ne0 c_5)]; rfl) (hok.set hkd) (List.length_set.trans hlen) (by omega) (va_up F i (2, zn, lm, ch, lv, cn, dr, la)) fl (hF.set _) _ _ ls hP hD hS hl
      · refine lv_aload_n hx hb dX10_alarm_52 rfl (lv_at hl 0 rfl) ?_
        refine va_get (D := D) (C := RX10) (T := TX10) (N := 15) hx hb (uc_10 hk.1 _) (fun _ h9 => h9) hown hK hP 0 rfl rfl 2 (by decide) (fl_X10_7 hk.1 _) (fun _ h9 => h9) rfl dX10_alarm_53 ?_
        refine lv_iload hx hb dX10_alarm_56 (lv_at hl 4 rfl) ?_
        refine ld_i (x := nI 3) C hP 1 rfl hi (congrArg (fun q : Pd => nI q.1) (va_up_self F i _)) dX10_alarm_58 ?_
        refine lv_if_ne (x := nI 3) (tgt := 66) hx hb dX10_alarm_59 (by decide) (fun _ => ?_) (fun h9 => absurd h9 (by decide +kernel))
        refine lv_aload_n hx hb dX10_alarm_66 rfl (lv_at hl 0 rfl) ?_
        refine va_get (D := D) (C := RX10) (T := TX10) (N := 15) hx hb (uc_10 hk.1 _) (fun _ h9 => h9) hown hK hP 0 rfl rfl 2 (by decide) (fl_X10_7 hk.1 _) (fun _ h9 => h9) rfl dX10_alarm_67 ?_
        refine lv_iload hx hb dX10_alarm_70 (lv_at hl 4 rfl) ?_
        refine ld_i (x := nI 3) C hP 1 rfl hi (congrArg (fun q : Pd => nI q.1) (va_up_self F i _)) dX10_alarm_72 ?_
        refine lv_bipush (v := 7) hx hb dX10_alarm_73 (by decide) ?_
        refine lv_icmp_ne (x := nI 3) (y := 7) (tgt := 82) hx hb dX10_alarm_75 (by decide) (fun _ => ?_) (fun h9 => absurd h9 (by decide +kernel))
        refine lv_iconst (v := 1) hx hb dX10_alarm_82 (by decide) ?_
        refine lv_istore (lv' := [(5, .int 1), (0, .ref (ya 0)), (1, .int zq), (2, .int kq), (3, .int fc), (4, .int (nI i))]) hx hb dX10_alarm_83 hl (by decide) rfl (fun ls hl => ?_)
        refine lv_iload_n hx hb dX10_alarm_85 rfl (lv_at hl 4 rfl) ?_
        refine lv_aload_n hx hb dX10_alarm_86 rfl (lv_at hl 1 rfl) ?_
        refine lv_iload hx hb dX10_alarm_87 (lv_at hl 5 rfl) ?_
        refine k_mi (n9 := 1) (As := [.int (nI i)]) C (n_isOver l D ca sa lo ya F Q.length 0 fl tc (by first | omega | (simp only [tb_n]; omega)) i hi 3 (by decide) zn lm (ch, lv, cn, dr, la) _) (fun U A9 h => co_X10_isOver h A9) (in_X10 hk.1 _) (ml_X10_94 hk.1 _) (im_X10_isOver hk.1 _) (se_X10_X10_isOver hk.1 _) (by decide +kernel) ⟨⟨rfl, rfl⟩, by decide, by decide⟩ hP hD hS rfl rfl rfl hl.1 rfl (Nat.le_of_ble_eq_true rfl) dX10_alarm_89 ⟨by decide, by decide⟩ (fun H locs hP hD hS => ?_)
        have hn1 := po_n 3 lm (ch, lv, cn, dr, la) tc
        generalize hp1 : po 3 lm (ch, lv, cn, dr, la) tc = P9 at hP hD hn1 hst ⊢
        obtain ⟨b1, ⟨ch, lv, cn, dr, la⟩, t1⟩ := P9
        have hn1 : t1.1 ≤ tc.1 + 2 := hn1
        have hP : va_P D cls (wm ca ya (va_up F i (3, zn, lm, ch, lv, cn, dr, la)) Q.length 0 fl t1) H := hP
        have hD : va_D A (wm ca ya (va_up F i (3, zn, lm, ch, lv, cn, dr, la)) Q.length 0 fl t1) := hD
        refine lv_if_eq (tgt := 100) hx hb dX10_alarm_92 (by decide) (fun c_6 => ?_) (fun c_6 => ?_)
        · refine lv_iconst (v := 0) hx hb dX10_alarm_100 (by decide) ?_
          refine lv_iadd hx hb dX10_alarm_101 ?_
          refine lv_istore_n (lv' := [(3, .int (fc + 0)), (5, .int 1), (0, .ref (ya 0)), (1, .int zq), (2, .int kq), (4, .int (nI i))]) hx hb dX10_alarm_102 rfl hl (by decide) rfl (fun ls hl => ?_)
          refine lv_iinc (v := (nI i) + 1) (lv' := [(4, .int ((nI i) + 1)), (3, .int (fc + 0)), (5, .int 1), (0, .ref (ya 0)), (1, .int zq), (2, .int kq)]) hx hb dX10_alarm_103 hl (k := 5) rfl rfl (by decide) rfl (fun ls hl => ?_)
          refine lv_goto (tgt := 32) hx hb dX10_alarm_106 (by decide) ?_
          have hl : lv_has ls 6 [(0, .ref (ya 0)), (1, .int zq), (2, .int kq), (3, .int (fc + 0)), (4, .int (nI (i + 1)))] := by rw [← nI_1]; exact lv_sub hl [3, 4, 5, 1, 0] rfl
          exact ih (i + 1) (by omega) (Qc.set i (3, zn, lm, ch, lv, cn, dr, la)) t1 (fc + 0) (by show _ = alS zq i (lp (alS zq) i (Q, t, 0)); rw [← hu, hst]; dsimp only; rw [if_neg (fun h9 => by rw [show b1 = false from bi_eq0 c_6] at h9; cases h9)]) (hok.set hkd) (List.length_set.trans hlen) (by omega) (va_up F i (3, zn, lm, ch, lv, cn, dr, la)) fl (hF.set _) _ _ ls hP hD hS hl
        · refine lv_iload hx hb dX10_alarm_95 (lv_at hl 0 rfl) ?_
          refine lv_goto (tgt := 101) hx hb dX10_alarm_97 (by decide) ?_
          refine lv_iadd hx hb dX10_alarm_101 ?_
          refine lv_istore_n (lv' := [(3, .int (fc + 1)), (5, .int 1), (0, .ref (ya 0)), (1, .int zq), (2, .int kq), (4, .int (nI i))]) hx hb dX10_alarm_102 rfl hl (by decide) rfl (fun ls hl => ?_)
          refine lv_iinc (v := (nI i) + 1) (lv' := [(4, .int ((nI i) + 1)), (3, .int (fc + 1)), (5, .int 1), (0, .ref (ya 0)), (1, .int zq), (2, .int kq)]) hx hb dX10_alarm_103 hl (k := 5) rfl rfl (by decide) rfl (fun ls hl => ?_)
          refine lv_goto (tgt := 32) hx hb dX10_alarm_106 (by decide) ?_
          have hl : lv_has ls 6 [(0, .ref (ya 0)), (1, .int zq), (2, .int kq), (3, .int (fc + 1)), (4, .int (nI (i + 1)))] := by rw [← nI_1]; exact lv_sub hl [3, 4, 5, 1, 0] rfl
          exact ih (i + 1) (by omega) (Qc.set i (3, zn, lm, ch, lv, cn, dr, la)) t1 (fc + 1) (by show _ = alS zq i (lp (alS zq) i (Q, t, 0)); rw [← hu, hst]; dsimp only; rw [if_pos (bi_ne0 c_6)]; rfl) (hok.set hkd) (List.length_set.trans hlen) (by omega) (va_up F i (3, zn, lm, ch, lv, cn, dr, la)) fl (hF.set _) _ _ ls hP hD hS hl
      · refine lv_aload_n hx hb dX10_alarm_52 rfl (lv_at hl 0 rfl) ?_
        refine va_get (D := D) (C := RX10) (T := TX10) (N := 15) hx hb (uc_10 hk.1 _) (fun _ h9 => h9) hown hK hP 0 rfl rfl 2 (by decide) (fl_X10_7 hk.1 _) (fun _ h9 => h9) rfl dX10_alarm_53 ?_
        refine lv_iload hx hb dX10_alarm_56 (lv_at hl 4 rfl) ?_
        refine ld_i (x := nI 4) C hP 1 rfl hi (congrArg (fun q : Pd => nI q.1) (va_up_self F i _)) dX10_alarm_58 ?_
        refine lv_if_ne (x := nI 4) (tgt := 66) hx hb dX10_alarm_59 (by decide) (fun _ => ?_) (fun h9 => absurd h9 (by decide +kernel))
        refine lv_aload_n hx hb dX10_alarm_66 rfl (lv_at hl 0 rfl) ?_
        refine va_get (D := D) (C := RX10) (T := TX10) (N := 15) hx hb (uc_10 hk.1 _) (fun _ h9 => h9) hown hK hP 0 rfl rfl 2 (by decide) (fl_X10_7 hk.1 _) (fun _ h9 => h9) rfl dX10_alarm_67 ?_
        refine lv_iload hx hb dX10_alarm_70 (lv_at hl 4 rfl) ?_
        refine ld_i (x := nI 4) C hP 1 rfl hi (congrArg (fun q : Pd => nI q.1) (va_up_self F i _)) dX10_alarm_72 ?_
        refine lv_bipush (v := 7) hx hb dX10_alarm_73 (by decide) ?_
        refine lv_icmp_ne (x := nI 4) (y := 7) (tgt := 82) hx hb dX10_alarm_75 (by decide) (fun _ => ?_) (fun h9 => absurd h9 (by decide +kernel))
        refine lv_iconst (v := 1) hx hb dX10_alarm_82 (by decide) ?_
        refine lv_istore (lv' := [(5, .int 1), (0, .ref (ya 0)), (1, .int zq), (2, .int kq), (3, .int fc), (4, .int (nI i))]) hx hb dX10_alarm_83 hl (by decide) rfl (fun ls hl => ?_)
        refine lv_iload_n hx hb dX10_alarm_85 rfl (lv_at hl 4 rfl) ?_
        refine lv_aload_n hx hb dX10_alarm_86 rfl (lv_at hl 1 rfl) ?_
        refine lv_iload hx hb dX10_alarm_87 (lv_at hl 5 rfl) ?_
        refine k_mi (n9 := 1) (As := [.int (nI i)]) C (n_isOver l D ca sa lo ya F Q.length 0 fl tc (by first | omega | (simp only [tb_n]; omega)) i hi 4 (by decide) zn lm (ch, lv, cn, dr, la) _) (fun U A9 h => co_X10_isOver h A9) (in_X10 hk.1 _) (ml_X10_94 hk.1 _) (im_X10_isOver hk.1 _) (se_X10_X10_isOver hk.1 _) (by decide +kernel) ⟨⟨rfl, rfl⟩, by decide, by decide⟩ hP hD hS rfl rfl rfl hl.1 rfl (Nat.le_of_ble_eq_true rfl) dX10_alarm_89 ⟨by decide, by decide⟩ (fun H locs hP hD hS => ?_)
        have hn1 := po_n 4 lm (ch, lv, cn, dr, la) tc
        generalize hp1 : po 4 lm (ch, lv, cn, dr, la) tc = P9 at hP hD hn1 hst ⊢
        obtain ⟨b1, ⟨ch, lv, cn, dr, la⟩, t1⟩ := P9
        have hn1 : t1.1 ≤ tc.1 + 2 := hn1
        have hP : va_P D cls (wm ca ya (va_up F i (4, zn, lm, ch, lv, cn, dr, la)) Q.length 0 fl t1) H := hP
        have hD : va_D A (wm ca ya (va_up F i (4, zn, lm, ch, lv, cn, dr, la)) Q.length 0 fl t1) := hD
        refine lv_if_eq (tgt := 100) hx hb dX10_alarm_92 (by decide) (fun c_7 => ?_) (fun c_7 => ?_)
        · refine lv_iconst (v := 0) hx hb dX10_alarm_100 (by decide) ?_
          refine lv_iadd hx hb dX10_alarm_101 ?_
          refine lv_istore_n (lv' := [(3, .int (fc + 0)), (5, .int 1), (0, .ref (ya 0)), (1, .int zq), (2, .int kq), (4, .int (nI i))]) hx hb dX10_alarm_102 rfl hl (by decide) rfl (fun ls hl => ?_)
          refine lv_iinc (v := (nI i) + 1) (lv' := [(4, .int ((nI i) + 1)), (3, .int (fc + 0)), (5, .int 1), (0, .ref (ya 0)), (1, .int zq), (2, .int kq)]) hx hb dX10_alarm_103 hl (k := 5) rfl rfl (by decide) rfl (fun ls hl => ?_)
          refine lv_goto (tgt := 32) hx hb dX10_alarm_106 (by decide) ?_
          have hl : lv_has ls 6 [(0, .ref (ya 0)), (1, .int zq), (2, .int kq), (3, .int (fc + 0)), (4, .int (nI (i + 1)))] := by rw [← nI_1]; exact lv_sub hl [3, 4, 5, 1, 0] rfl
          exact ih (i + 1) (by omega) (Qc.set i (4, zn, lm, ch, lv, cn, dr, la)) t1 (fc + 0) (by show _ = alS zq i (lp (alS zq) i (Q, t, 0)); rw [← hu, hst]; dsimp only; rw [if_neg (fun h9 => by rw [show b1 = false from bi_eq0 c_7] at h9; cases h9)]) (hok.set hkd) (List.length_set.trans hlen) (by omega) (va_up F i (4, zn, lm, ch, lv, cn, dr, la)) fl (hF.set _) _ _ ls hP hD hS hl
        · refine lv_iload hx hb dX10_alarm_95 (lv_at hl 0 rfl) ?_
          refine lv_goto (tgt := 101) hx hb dX10_alarm_97 (by decide) ?_
          refine lv_iadd hx hb dX10_alarm_101 ?_
          refine lv_istore_n (lv' := [(3, .int (fc + 1)), (5, .int 1), (0, .ref (ya 0)), (1, .int zq), (2, .int kq), (4, .int (nI i))]) hx hb dX10_alarm_102 rfl hl (by decide) rfl (fun ls hl => ?_)
          refine lv_iinc (v := (nI i) + 1) (lv' := [(4, .int ((nI i) + 1)), (3, .int (fc + 1)), (5, .int 1), (0, .ref (ya 0)), (1, .int zq), (2, .int kq)]) hx hb dX10_alarm_103 hl (k := 5) rfl rfl (by decide) rfl (fun ls hl => ?_)
          refine lv_goto (tgt := 32) hx hb dX10_alarm_106 (by decide) ?_
          have hl : lv_has ls 6 [(0, .ref (ya 0)), (1, .int zq), (2, .int kq), (3, .int (fc + 1)), (4, .int (nI (i + 1)))] := by rw [← nI_1]; exact lv_sub hl [3, 4, 5, 1, 0] rfl
          exact ih (i + 1) (by omega) (Qc.set i (4, zn, lm, ch, lv, cn, dr, la)) t1 (fc + 1) (by show _ = alS zq i (lp (alS zq) i (Q, t, 0)); rw [← hu, hst]; dsimp only; rw [if_pos (bi_ne0 c_7)]; rfl) (hok.set hkd) (List.length_set.trans hlen) (by omega) (va_up F i (4, zn, lm, ch, lv, cn, dr, la)) fl (hF.set _) _ _ ls hP hD hS hl
      · refine lv_aload_n hx hb dX10_alarm_52 rfl (lv_at hl 0 rfl) ?_
        refine va_get (D := D) (C := RX10) (T := TX10) (N := 15) hx hb (uc_10 hk.1 _) (fun _ h9 => h9) hown hK hP 0 rfl rfl 2 (by decide) (fl_X10_7 hk.1 _) (fun _ h9 => h9) rfl dX10_alarm_53 ?_
        refine lv_iload hx hb dX10_alarm_56 (lv_at hl 4 rfl) ?_
        refine ld_i (x := nI 5) C hP 1 rfl hi (congrArg (fun q : Pd => nI q.1) (va_up_self F i _)) dX10_alarm_58 ?_
        refine lv_if_ne (x := nI 5) (tgt := 66) hx hb dX10_alarm_59 (by decide) (fun _ => ?_) (fun h9 => absurd h9 (by decide +kernel))
        refine lv_aload_n hx hb dX10_alarm_66 rfl (lv_at hl 0 rfl) ?_
        refine va_get (D := D) (C := RX10) (T := TX10) (N := 15) hx hb (uc_10 hk.1 _) (fun _ h9 => h9) hown hK hP 0 rfl rfl 2 (by decide) (fl_X10_7 hk.1 _) (fun _ h9 => h9) rfl dX10_alarm_67 ?_
        refine lv_iload hx hb dX10_alarm_70 (lv_at hl 4 rfl) ?_
        refine ld_i (x := nI 5) C hP 1 rfl hi (congrArg (fun q : Pd => nI q.1) (va_up_self F i _)) dX10_alarm_72 ?_
        refine lv_bipush (v := 7) hx hb dX10_alarm_73 (by decide) ?_
        refine lv_icmp_ne (x := nI 5) (y := 7) (tgt := 82) hx hb dX10_alarm_75 (by decide) (fun _ => ?_) (fun h9 => absurd h9 (by decide +kernel))
        refine lv_iconst (v := 1) hx hb dX10_alarm_82 (by decide) ?_
        refine lv_istore (lv' := [(5, .int 1), (0, .ref (ya 0)), (1, .int zq), (2, .int kq), (3, .int fc), (4, .int (nI i))]) hx hb dX10_alarm_83 hl (by decide) rfl (fun ls hl => ?_)
        refine lv_iload_n hx hb dX10_alarm_85 rfl (lv_at hl 4 rfl) ?_
        refine lv_aload_n hx hb dX10_alarm_86 rfl (lv_at hl 1 rfl) ?_
        refine lv_iload hx hb dX10_alarm_87 (lv_at hl 5 rfl) ?_
        refine k_mi (n9 := 1) (As := [.int (nI i)]) C (n_isOver l D ca sa lo ya F Q.length 0 fl tc (by first | omega | (simp only [tb_n]; omega)) i hi 5 (by decide) zn lm (ch, lv, cn, dr, la) _) (fun U A9 h => co_X10_isOver h A9) (in_X10 hk.1 _) (ml_X10_94 hk.1 _) (im_X10_isOver hk.1 _) (se_X10_X10_isOver hk.1 _) (by decide +kernel) ⟨⟨rfl, rfl⟩, by decide, by decide⟩ hP hD hS rfl rfl rfl hl.1 rfl (Nat.le_of_ble_eq_true rfl) dX10_alarm_89 ⟨by decide, by decide⟩ (fun H locs hP hD hS => ?_)
        have hn1 := po_n 5 lm (ch, lv, cn, dr, la) tc
        generalize hp1 : po 5 lm (ch, lv, cn, dr, la) tc = P9 at hP hD hn1 hst ⊢
        obtain ⟨b1, ⟨ch, lv, cn, dr, la⟩, t1⟩ := P9
        have hn1 : t1.1 ≤ tc.1 + 2 := hn1
        have hP : va_P D cls (wm ca ya (va_up F i (5, zn, lm, ch, lv, cn, dr, la)) Q.length 0 fl t1) H := hP
        have hD : va_D A (wm ca ya (va_up F i (5, zn, lm, ch, lv, cn, dr, la)) Q.length 0 fl t1) := hD
        refine lv_if_eq (tgt := 100) hx hb dX10_alarm_92 (by decide) (fun c_8 => ?_) (fun c_8 => ?_)
        · refine lv_iconst (v := 0) hx hb dX10_alarm_100 (by decide) ?_
          refine lv_iadd hx hb dX10_alarm_101 ?_
          refine lv_istore_n (lv' := [(3, .int (fc + 0)), (5, .int 1), (0, .ref (ya 0)), (1, .int zq), (2, .int kq), (4, .int (nI i))]) hx hb dX10_alarm_102 rfl hl (by decide) rfl (fun ls hl => ?_)
          refine lv_iinc (v := (nI i) + 1) (lv' := [(4, .int ((nI i) + 1)), (3, .int (fc + 0)), (5, .int 1), (0, .ref (ya 0)), (1, .int zq), (2, .int kq)]) hx hb dX10_alarm_103 hl (k := 5) rfl rfl (by decide) rfl (fun ls hl => ?_)
          refine lv_goto (tgt := 32) hx hb dX10_alarm_106 (by decide) ?_
          have hl : lv_has ls 6 [(0, .ref (ya 0)), (1, .int zq), (2, .int kq), (3, .int (fc + 0)), (4, .int (nI (i + 1)))] := by rw [← nI_1]; exact lv_sub hl [3, 4, 5, 1, 0] rfl
          exact ih (i + 1) (by omega) (Qc.set i (5, zn, lm, ch, lv, cn, dr, la)) t1 (fc + 0) (by show _ = alS zq i (lp (alS zq) i (Q, t, 0)); rw [← hu, hst]; dsimp only; rw [if_neg (fun h9 => by rw [show b1 = false from bi_eq0 c_8] at h9; cases h9)]) (hok.set hkd) (List.length_set.trans hlen) (by omega) (va_up F i (5, zn, lm, ch, lv, cn, dr, la)) fl (hF.set _) _ _ ls hP hD hS hl
        · refine lv_iload hx hb dX10_alarm_95 (lv_at hl 0 rfl) ?_
          refine lv_goto (tgt := 101) hx hb dX10_alarm_97 (by decide) ?_
          refine lv_iadd hx hb dX10_alarm_101 ?_
          refine lv_istore_n (lv' := [(3, .int (fc + 1)), (5, .int 1), (0, .ref (ya 0)), (1, .int zq), (2, .int kq), (4, .int (nI i))]) hx hb dX10_alarm_102 rfl hl (by decide) rfl (fun ls hl => ?_)
          refine lv_iinc (v := (nI i) + 1) (lv' := [(4, .int ((nI i) + 1)), (3, .int (fc + 1)), (5, .int 1), (0, .ref (ya 0)), (1, .int zq), (2, .int kq)]) hx hb dX10_alarm_103 hl (k := 5) rfl rfl (by decide) rfl (fun ls hl => ?_)
          refine lv_goto (tgt := 32) hx hb dX10_alarm_106 (by decide) ?_
          have hl : lv_has ls 6 [(0, .ref (ya 0)), (1, .int zq), (2, .int kq), (3, .int (fc + 1)), (4, .int (nI (i + 1)))] := by rw [← nI_1]; exact lv_sub hl [3, 4, 5, 1, 0] rfl
          exact ih (i + 1) (by omega) (Qc.set i (5, zn, lm, ch, lv, cn, dr, la)) t1 (fc + 1) (by show _ = alS zq i (lp (alS zq) i (Q, t, 0)); rw [← hu, hst]; dsimp only; rw [if_pos (bi_ne0 c_8)]; rfl) (hok.set hkd) (List.length_set.trans hlen) (by omega) (va_up F i (5, zn, lm, ch, lv, cn, dr, la)) fl (hF.set _) _ _ ls hP hD hS hl
      · refine lv_aload_n hx hb dX10_alarm_52 rfl (lv_at hl 0 rfl) ?_
        refine va_get (D := D) (C := RX10) (T := TX10) (N := 15) hx hb (uc_10 hk.1 _) (fun _ h9 => h9) hown hK hP 0 rfl rfl 2 (by decide) (fl_X10_7 hk.1 _) (fun _ h9 => h9) rfl dX10_alarm_53 ?_
        refine lv_iload hx hb dX10_alarm_56 (lv_at hl 4 rfl) ?_
        refine ld_i (x := nI 6) C hP 1 rfl hi (congrArg (fun q : Pd => nI q.1) (va_up_self F i _)) dX10_alarm_58 ?_
        refine lv_if_ne (x := nI 6) (tgt := 66) hx hb dX10_alarm_59 (by decide) (fun _ => ?_) (fun h9 => absurd h9 (by decide +kernel))
        refine lv_aload_n hx hb dX10_alarm_66 rfl (lv_at hl 0 rfl) ?_
        refine va_get (D := D) (C := RX10) (T := TX10) (N := 15) hx hb (uc_10 hk.1 _) (fun _ h9 => h9) hown hK hP 0 rfl rfl 2 (by decide) (fl_X10_7 hk.1 _) (fun _ h9 => h9) rfl dX10_alarm_67 ?_
        refine lv_iload hx hb dX10_alarm_70 (lv_at hl 4 rfl) ?_
        refine ld_i (x := nI 6) C hP 1 rfl hi (congrArg (fun q : Pd => nI q.1) (va_up_self F i _)) dX10_alarm_72 ?_
        refine lv_bipush (v := 7) hx hb dX10_alarm_73 (by decide) ?_
        refine lv_icmp_ne (x := nI 6) (y := 7) (tgt := 82) hx hb dX10_alarm_75 (by decide) (fun _ => ?_) (fun h9 => absurd h9 (by decide +kernel))
        refine lv_iconst (v := 1) hx hb dX10_alarm_82 (by decide) ?_
        refine lv_istore (lv' := [(5, .int 1), (0, .ref (ya 0)), (1, .int zq), (2, .int kq), (3, .int fc), (4, .int (nI i))]) hx hb dX10_alarm_83 hl (by decide) rfl (fun ls hl => ?_)
        refine lv_iload_n hx hb dX10_alarm_85 rfl (lv_at hl 4 rfl) ?_
        refine lv_aload_n hx hb dX10_alarm_86 rfl (lv_at hl 1 rfl) ?_
        refine lv_iload hx hb dX10_alarm_87 (lv_at hl 5 rfl) ?_
        refine k_mi (n9 := 1) (As := [.int (nI i)]) C (n_isOver l D ca sa lo ya F Q.length 0 fl tc (by first | omega | (simp only [tb_n]; omega)) i hi 6 (by decide) zn lm (ch, lv, cn, dr, la) _) (fun U A9 h => co_X10_isOver h A9) (in_X10 hk.1 _) (ml_X10_94 hk.1 _) (im_X10_isOver hk.1 _) (se_X10_X10_isOver hk.1 _) (by decide +kernel) ⟨⟨rfl, rfl⟩, by decide, by decide⟩ hP hD hS rfl rfl rfl hl.1 rfl (Nat.le_of_ble_eq_true rfl) dX10_alarm_89 ⟨by decide, by decide⟩ (fun H locs hP hD hS => ?_)
        have hn1 := po_n 6 lm (ch, lv, cn, dr, la) tc
        generalize hp1 : po 6 lm (ch, lv, cn, dr, la) tc = P9 at hP hD hn1 hst ⊢
        obtain ⟨b1, ⟨ch, lv, cn, dr, la⟩, t1⟩ := P9
        have hn1 : t1.1 ≤ tc.1 + 2 := hn1
        have hP : va_P D cls (wm ca ya (va_up F i (6, zn, lm, ch, lv, cn, dr, la)) Q.length 0 fl t1) H := hP
        have hD : va_D A (wm ca ya (va_up F i (6, zn, lm, ch, lv, cn, dr, la)) Q.length 0 fl t1) := hD
        refine lv_if_eq (tgt := 100) hx hb dX10_alarm_92 (by decide) (fun c_9 => ?_) (fun c_9 => ?_)
        · refine lv_iconst (v := 0) hx hb dX10_alarm_100 (by decide) ?_
          refine lv_iadd hx hb dX10_alarm_101 ?_
          refine lv_istore_n (lv' := [(3, .int (fc + 0)), (5, .int 1), (0, .ref (ya 0)), (1, .int zq), (2, .int kq), (4, .int (nI i))]) hx hb dX10_alarm_102 rfl hl (by decide) rfl (fun ls hl => ?_)
          refine lv_iinc (v := (nI i) + 1) (lv' := [(4, .int ((nI i) + 1)), (3, .int (fc + 0)), (5, .int 1), (0, .ref (ya 0)), (1, .int zq), (2, .int kq)]) hx hb dX10_alarm_103 hl (k := 5) rfl rfl (by decide) rfl (fun ls hl => ?_)
          refine lv_goto (tgt := 32) hx hb dX10_alarm_106 (by decide) ?_
          have hl : lv_has ls 6 [(0, .ref (ya 0)), (1, .int zq), (2, .int kq), (3, .int (fc + 0)), (4, .int (nI (i + 1)))] := by rw [← nI_1]; exact lv_sub hl [3, 4, 5, 1, 0] rfl
          exact ih (i + 1) (by omega) (Qc.set i (6, zn, lm, ch, lv, cn, dr, la)) t1 (fc + 0) (by show _ = alS zq i (lp (alS zq) i (Q, t, 0)); rw [← hu, hst]; dsimp only; rw [if_neg (fun h9 => by rw [show b1 = false from bi_eq0 c_9] at h9; cases h9)]) (hok.set hkd) (List.length_set.trans hlen) (by omega) (va_up F i (6, zn, lm, ch, lv, cn, dr, la)) fl (hF.set _) _ _ ls hP hD hS hl
        · refine lv_iload hx hb dX10_alarm_95 (lv_at hl 0 rfl) ?_
          refine lv_goto (tgt := 101) hx hb dX10_alarm_97 (by decide) ?_
          refine lv_iadd hx hb dX10_alarm_101 ?_
          refine lv_istore_n (lv' := [(3, .int (fc + 1)), (5, .int 1), (0, .ref (ya 0)), (1, .int zq), (2, .int kq), (4, .int (nI i))]) hx hb dX10_alarm_102 rfl hl (by decide) rfl (fun ls hl => ?_)
          refine lv_iinc (v := (nI i) + 1) (lv' := [(4, .int ((nI i) + 1)), (3, .int (fc + 1)), (5, .int 1), (0, .ref (ya 0)), (1, .int zq), (2, .int kq)]) hx hb dX10_alarm_103 hl (k := 5) rfl rfl (by decide) rfl (fun ls hl => ?_)
          refine lv_goto (tgt := 32) hx hb dX10_alarm_106 (by decide) ?_
          have hl : lv_has ls 6 [(0, .ref (ya 0)), (1, .int zq), (2, .int kq), (3, .int (fc + 1)), (4, .int (nI (i + 1)))] := by rw [← nI_1]; exact lv_sub hl [3, 4, 5, 1, 0] rfl
          exact ih (i + 1) (by omega) (Qc.set i (6, zn, lm, ch, lv, cn, dr, la)) t1 (fc + 1) (by show _ = alS zq i (lp (alS zq) i (Q, t, 0)); rw [← hu, hst]; dsimp only; rw [if_pos (bi_ne0 c_9)]; rfl) (hok.set hkd) (List.length_set.trans hlen) (by omega) (va_up F i (6, zn, lm, ch, lv, cn, dr, la)) fl (hF.set _) _ _ ls hP hD hS hl
      · refine lv_aload_n hx hb dX10_alarm_52 rfl (lv_at hl 0 rfl) ?_
        refine va_get (D := D) (C := RX10) (T := TX10) (N := 15) hx hb (uc_10 hk.1 _) (fun _ h9 => h9) hown hK hP 0 rfl rfl 2 (by decide) (fl_X10_7 hk.1 _) (fun _ h9 => h9) rfl dX10_alarm_53 ?_
        refine lv_iload hx hb dX10_alarm_56 (lv_at hl 4 rfl) ?_
        refine ld_i (x := nI 7) C hP 1 rfl hi (congrArg (fun q : Pd => nI q.1) (va_up_self F i _)) dX10_alarm_58 ?_
        refine lv_if_ne (x := nI 7) (tgt := 66) hx hb dX10_alarm_59 (by decide) (fun _ => ?_) (fun h9 => absurd h9 (by decide +kernel))
        refine lv_aload_n hx hb dX10_alarm_66 rfl (lv_at hl 0 rfl) ?_
        refine va_get (D := D) (C := RX10) (T := TX10) (N := 15) hx hb (uc_10 hk.1 _) (fun _ h9 => h9) hown hK hP 0 rfl rfl 2 (by decide) (fl_X10_7 hk.1 _) (fun _ h9 => h9) rfl dX10_alarm_67 ?_
        refine lv_iload hx hb dX10_alarm_70 (lv_at hl 4 rfl) ?_
        refine ld_i (x := nI 7) C hP 1 rfl hi (congrArg (fun q : Pd => nI q.1) (va_up_self F i _)) dX10_alarm_72 ?_
        refine lv_bipush (v := 7) hx hb dX10_alarm_73 (by decide) ?_
        refine lv_icmp_ne (x := nI 7) (y := 7) (tgt := 82) hx hb dX10_alarm_75 (by decide) (fun h9 => absurd h9 (by decide +kernel)) (fun _ => ?_)
        refine lv_iconst (v := 2) hx hb dX10_alarm_78 (by decide) ?_
        refine lv_goto (tgt := 83) hx hb dX10_alarm_79 (by decide) ?_
        refine lv_istore (lv' := [(5, .int 2), (0, .ref (ya 0)), (1, .int zq), (2, .int kq), (3, .int fc), (4, .int (nI i))]) hx hb dX10_alarm_83 hl (by decide) rfl (fun ls hl => ?_)
        refine lv_iload_n hx hb dX10_alarm_85 rfl (lv_at hl 4 rfl) ?_
        refine lv_aload_n hx hb dX10_alarm_86 rfl (lv_at hl 1 rfl) ?_
        refine lv_iload hx hb dX10_alarm_87 (lv_at hl 5 rfl) ?_
        refine k_mi (n9 := 1) (As := [.int (nI i)]) C (n_isOver l D ca sa lo ya F Q.length 0 fl tc (by first | omega | (simp only [tb_n]; omega)) i hi 7 (by decide) zn lm (ch, lv, cn, dr, la) _) (fun U A9 h => co_X10_isOver h A9) (in_X10 hk.1 _) (ml_X10_94 hk.1 _) (im_X10_isOver hk.1 _) (se_X10_X10_isOver hk.1 _) (by decide +kernel) ⟨⟨rfl, rfl⟩, by decide, by decide⟩ hP hD hS rfl rfl rfl hl.1 rfl (Nat.le_of_ble_eq_true rfl) dX10_alarm_89 ⟨by decide, by decide⟩ (fun H locs hP hD hS => ?_)
        have hn1 := po_n 7 lm (ch, lv, cn, dr, la) tc
        generalize hp1 : po 7 lm (ch, lv, cn, dr, la) tc = P9 at hP hD hn1 hst ⊢
        obtain ⟨b1, ⟨ch, lv, cn, dr, la⟩, t1⟩ := P9
        have hn1 : t1.1 ≤ tc.1 + 2 := hn1
        have hP : va_P D cls (wm ca ya (va_up F i (7, zn, lm, ch, lv, cn, dr, la)) Q.length 0 fl t1) H := hP
        have hD : va_D A (wm ca ya (va_up F i (7, zn, lm, ch, lv, cn, dr, la)) Q.length 0 fl t1) := hD
        refine lv_if_eq (tgt := 100) hx hb dX10_alarm_92 (by decide) (fun c_10 => ?_) (fun c_10 => ?_)
        · refine lv_iconst (v := 0) hx hb dX10_alarm_100 (by decide) ?_
          refine lv_iadd hx hb dX10_alarm_101 ?_
          refine lv_istore_n (lv' := [(3, .int (fc + 0)), (5, .int 2), (0, .ref (ya 0)), (1, .int zq), (2, .int kq), (4, .int (nI i))]) hx hb dX10_alarm_102 rfl hl (by decide) rfl (fun ls hl => ?_)
          refine lv_iinc (v := (nI i) + 1) (lv' := [(4, .int ((nI i) + 1)), (3, .int (fc + 0)), (5, .int 2), (0, .ref (ya 0)), (1, .int zq), (2, .int kq)]) hx hb dX10_alarm_103 hl (k := 5) rfl rfl (by decide) rfl (fun ls hl => ?_)
          refine lv_goto (tgt := 32) hx hb dX10_alarm_106 (by decide) ?_
          have hl : lv_has ls 6 [(0, .ref (ya 0)), (1, .int zq), (2, .int kq), (3, .int (fc + 0)), (4, .int (nI (i + 1)))] := by rw [← nI_1]; exact lv_sub hl [3, 4, 5, 1, 0] rfl
          exact ih (i + 1) (by omega) (Qc.set i (7, zn, lm, ch, lv, cn, dr, la)) t1 (fc + 0) (by show _ = alS zq i (lp (alS zq) i (Q, t, 0)); rw [← hu, hst]; dsimp only; rw [if_neg (fun h9 => by rw [show b1 = false from bi_eq0 c_10] at h9; cases h9)]) (hok.set hkd) (List.length_set.trans hlen) (by omega) (va_up F i (7, zn, lm, ch, lv, cn, dr, la)) fl (hF.set _) _ _ ls hP hD hS hl
        · refine lv_iload hx hb dX10_alarm_95 (lv_at hl 0 rfl) ?_
          refine lv_goto (tgt := 101) hx hb dX10_alarm_97 (by decide) ?_
          refine lv_iadd hx hb dX10_alarm_101 ?_
          refine lv_istore_n (lv' := [(3, .int (fc + 2)), (5, .int 2), (0, .ref (ya 0)), (1, .int zq), (2, .int kq), (4, .int (nI i))]) hx hb dX10_alarm_102 rfl hl (by decide) rfl (fun ls hl => ?_)
          refine lv_iinc (v := (nI i) + 1) (lv' := [(4, .int ((nI i) + 1)), (3, .int (fc + 2)), (5, .int 2), (0, .ref (ya 0)), (1, .int zq), (2, .int kq)]) hx hb dX10_alarm_103 hl (k := 5) rfl rfl (by decide) rfl (fun ls hl => ?_)
          refine lv_goto (tgt := 32) hx hb dX10_alarm_106 (by decide) ?_
          have hl : lv_has ls 6 [(0, .ref (ya 0)), (1, .int zq), (2, .int kq), (3, .int (fc + 2)), (4, .int (nI (i + 1)))] := by rw [← nI_1]; exact lv_sub hl [3, 4, 5, 1, 0] rfl
          exact ih (i + 1) (by omega) (Qc.set i (7, zn, lm, ch, lv, cn, dr, la)) t1 (fc + 2) (by show _ = alS zq i (lp (alS zq) i (Q, t, 0)); rw [← hu, hst]; dsimp only; rw [if_pos (bi_ne0 c_10)]; rfl) (hok.set hkd) (List.length_set.trans hlen) (by omega) (va_up F i (7, zn, lm, ch, lv, cn, dr, la)) fl (hF.set _) _ _ ls hP hD hS hl

set_option maxHeartbeats 4000000 in
set_option maxRecDepth 100000 in
theorem LM_costs {p : Program} {l : Launch} {e : Env} {s : State} {m : MethodId} {args : Array Value} {below : List Frame} {meth : Method} {c : Code} {A : Nat → Prop} {D : va_G} {ca : Nat → ClassId} {sa : Nat → Nat} {lo : Nat} {ya : Nat → Nat} {Q : List Pd} {t : Tr}  (C : Cx D ca sa lo p s m c cX10_costs 3 RX10 A) (hrt : meth.sig.returnType = some .int) (hlocks : meth.locks = false) (hn : Q.length ≤ 20) (ht : t.1 + 40 ≤ 2147483648) {r : Ry} (hr9 : r = ((lp csS Q.length (Q, t, 0)).2.2, (lp csS Q.length (Q, t, 0)).1, (lp csS Q.length (Q, t, 0)).2.1)) :
    ∀ (k i : Nat), i + k = Q.length → ∀ (Qc : List Pd) (tc : Tr) (fc : Int32), (Qc, tc, fc) = lp (csS) i (Q, t, 0) → okQ Qc → Qc.length = Q.length → tc.1 ≤ t.1 + 2 * i → ∀ (F : Nat → Pd) (fl : Int32), RQ F Qc → ∀ (H : Heap) (locs : List Loc) (ls : Array Slot), va_P D cls (wm ca ya F Q.length 0 fl tc) H → va_D A (wm ca ya F Q.length 0 fl tc) → va_S A s.heap H locs → lv_has ls 3 [(0, .ref (ya 0)), (1, .int fc), (2, .int (nI i))] →
      W p l e ({ frames := 2, cells := 0, slots := 0, locals := 65 }) s m args below meth c H locs 0 0 (MQ below (QF D ca ya r.1 0 r.2.1 r.2.2 A) args s 0 0 A) (F0 m 9 ls []) := by
  obtain ⟨hx, hb, hml, hown, hk, hz, hlo, hA, hAl⟩ := id C
  have hK : va_K D cls (tyl ca) s := hk.2.1
  intro k
  induction k with
  | zero =>
    intro i hik Qc tc fc hu hok hlen htc F fl hF H locs ls hP hD hS hl
    obtain rfl : i = Q.length := by omega
    have hl : lv_has ls 3 [(0, .ref (ya 0)), (1, .int fc), (2, .int (nI Q.length))] := hl
    refine lv_iload_n hx hb dX10_costs_9 rfl (lv_at hl 2 rfl) ?_
    refine lv_aload_n hx hb dX10_costs_10 rfl (lv_at hl 0 rfl) ?_
    refine va_get (D := D) (C := RX10) (T := TX10) (N := 15) hx hb (uc_10 hk.1 _) (fun _ h9 => h9) hown hK hP 0 rfl rfl 1 (by decide) (fl_X10_42 hk.1 _) (fun _ h9 => h9) rfl dX10_costs_11 ?_
    refine lv_icmp_ge (tgt := 31) hx hb dX10_costs_14 (by decide) (fun _ => ?_) (fun c_1 => absurd ((show nI Q.length ≤ nI Q.length from Int32.le_refl _)) c_1)
    refine lv_iload_n hx hb dX10_costs_31 rfl (lv_at hl 1 rfl) ?_
    have e1 : r = (fc, Qc, tc) := by rw [hr9, ← hu]
    subst e1
    exact rf_ C hrt hlocks rfl hF (by rw [hlen]; exact hP) hS dX10_costs_32
  | succ k ih =>
    intro i hik Qc tc fc hu hok hlen htc F fl hF H locs ls hP hD hS hl
    have hiQ : i < Qc.length := by omega
    have hi : i < 20 := by omega
    obtain ⟨⟨kd, zn, lm, ch, lv, cn, dr, la⟩, hQ, hkd⟩ := at_Q hok hiQ
    have hkd : kd < 8 := hkd
    have hFe : va_up F i (kd, zn, lm, ch, lv, cn, dr, la) = F := by rw [← hF i _ hQ]; exact up_same F i
    have hP : va_P D cls (wm ca ya (va_up F i (kd, zn, lm, ch, lv, cn, dr, la)) Q.length 0 fl tc) H := by rw [hFe]; exact hP
    have hD : va_D A (wm ca ya (va_up F i (kd, zn, lm, ch, lv, cn, dr, la)) Q.length 0 fl tc) := by rw [hFe]; exact hD
    refine lv_iload_n hx hb dX10_costs_9 rfl (lv_at hl 2 rfl) ?_
    refine lv_aload_n hx hb dX10_costs_10 rfl (lv_at hl 0 rfl) ?_
    refine va_get (D := D) (C := RX10) (T := TX10) (N := 15) hx hb (uc_10 hk.1 _) (fun _ h9 => h9) hown hK hP 0 rfl rfl 1 (by decide) (fl_X10_42 hk.1 _) (fun _ h9 => h9) rfl dX10_costs_11 ?_
    refine lv_icmp_ge (tgt := 31) hx hb dX10_costs_14 (by decide) (fun c_1 => absurd c_1 ((fun h9 : nI Q.length ≤ nI i => by rw [nI_leI (by omega) (by omega)] at h9; omega))) (fun _ => ?_)
    have hst : csS i (Qc, tc, fc) = (Qc, (pk kd (ch, lv, cn, dr, la) tc).2, fc + (pk kd (ch, lv, cn, dr, la) tc).1) := by
      unfold csS; dsimp only; rw [gQ_of hQ]
    refine lv_iload_n hx hb dX10_costs_17 rfl (lv_at hl 1 rfl) ?_
    refine lv_aload_n hx hb dX10_costs_18 rfl (lv_at hl 0 rfl) ?_
    refine lv_iload_n hx hb dX10_costs_19 rfl (lv_at hl 2 rfl) ?_
    refine k_mi (n9 := 1) (As := [.int (nI i)]) C (n_costOf l D ca sa lo ya F Q.length 0 fl tc (by first | omega | (simp only [tb_n]; omega)) i hi kd hkd zn lm (ch, lv, cn, dr, la) _) (fun U A9 h => co_X10_costOf h A9) (in_X10 hk.1 _) (ml_X10_97 hk.1 _) (im_X10_costOf hk.1 _) (se_X10_X10_costOf hk.1 _) (by decide +kernel) ⟨⟨rfl, rfl⟩, by decide, by decide⟩ hP hD hS rfl rfl rfl hl.1 rfl (Nat.le_of_ble_eq_true rfl) dX10_costs_20 ⟨by decide, by decide⟩ (fun H locs hP hD hS => ?_)
    have hn1 := pk_n kd (ch, lv, cn, dr, la) tc
    generalize hp1 : pk kd (ch, lv, cn, dr, la) tc = P9 at hP hD hn1 hst ⊢
    obtain ⟨k1, t1⟩ := P9
    have hn1 : t1.1 ≤ tc.1 + 2 := hn1
    have hP : va_P D cls (wm ca ya (va_up F i (kd, zn, lm, ch, lv, cn, dr, la)) Q.length 0 fl t1) H := hP
    have hD : va_D A (wm ca ya (va_up F i (kd, zn, lm, ch, lv, cn, dr, la)) Q.length 0 fl t1) := hD
    refine lv_iadd hx hb dX10_costs_23 ?_
    refine lv_istore_n (lv' := [(1, .int (fc + k1)), (0, .ref (ya 0)), (2, .int (nI i))]) hx hb dX10_costs_24 rfl hl (by decide) rfl (fun ls hl => ?_)
    refine lv_iinc (v := (nI i) + 1) (lv' := [(2, .int ((nI i) + 1)), (1, .int (fc + k1)), (0, .ref (ya 0))]) hx hb dX10_costs_25 hl (k := 2) rfl rfl (by decide) rfl (fun ls hl => ?_)
    refine lv_goto (tgt := 9) hx hb dX10_costs_28 (by decide) ?_
    have hl : lv_has ls 3 [(0, .ref (ya 0)), (1, .int (fc + k1)), (2, .int (nI (i + 1)))] := by rw [← nI_1]; exact lv_sub hl [2, 1, 0] rfl
    exact ih (i + 1) (by omega) Qc t1 (fc + k1) (by show _ = csS i (lp csS i (Q, t, 0)); rw [← hu, hst]) hok hlen (by omega) (va_up F i (kd, zn, lm, ch, lv, cn, dr, la)) fl (by rw [hFe]; exact hF) _ _ ls hP hD hS hl
