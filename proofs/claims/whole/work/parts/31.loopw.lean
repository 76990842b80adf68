set_option maxHeartbeats 4000000 in
set_option maxRecDepth 100000 in
theorem L_sweep {p : Program} {l : Launch} {e : Env} {s : State} {m : MethodId} {args : Array Value} {below : List Frame} {meth : Method} {c : Code} {A : Nat → Prop} {D : va_G} {ca : Nat → ClassId} {sa : Nat → Nat} {lo : Nat} {x0 da ht hr : Nat} {L : List Nat} {Q : List Pd} {t : Tr} {zn v : Int32} (hl9 : l.stackTraces = false) (C : Cx D ca sa lo p s m c cX9_sweep 7 RX9 A) (hrt : meth.sig.returnType = some .int) (hlocks : meth.locks = false) (htab : c.exceptionTable.toList = tableOf [(45, 51, 54, 95), (45, 51, 62, 97)]) (hn : Q.length ≤ 20) {r : Ry} (hr9 : r = ((lp (swS zn v) Q.length (Q, t, 0)).2.2, (lp (swS zn v) Q.length (Q, t, 0)).1, (lp (swS zn v) Q.length (Q, t, 0)).2.1)) :
    ∀ (k i : Nat), i + k = Q.length → ∀ (Qc : List Pd) (tc : Tr) (fc : Int32), (Qc, tc, fc) = lp (swS zn v) i (Q, t, 0) → okP L Qc → Qc.length = Q.length → ∀ (H : Heap) (locs : List Loc) (ls : Array Slot), va_P D cls (wx ca x0 da ht hr L Qc tc) H → va_D A (wx ca x0 da ht hr L Qc tc) → va_S A s.heap H locs → lv_has ls 7 [(0, .ref x0), (1, .int zn), (2, .int v), (3, .int fc), (4, .int (nI i))] →
      W p l e ({ frames := 11, cells := 80, slots := 480, locals := 250 }) s m args below meth c H locs (4 * i) (24 * i) (MQ below (QI D r.1 (wx ca x0 da ht hr L r.2.1 r.2.2) A) args s 80 480 A) (F0 m 22 ls []) := by
  obtain ⟨hx, hb, hml, hown, hk, hz, hlo, hA, hAl⟩ := id C
  have hK : va_K D cls (tyl ca) s := hk.2.1
  intro k
  induction k with
  | zero =>
    intro i hik Qc tc fc hu hok hlen H locs ls hP hD hS hl
    obtain rfl : i = Q.length := by omega
    have hl : lv_has ls 7 [(0, .ref x0), (1, .int zn), (2, .int v), (3, .int fc), (4, .int (nI Q.length))] := hl
    refine lv_iload hx hb dX9_sweep_22 (lv_at hl 4 rfl) ?_
    refine lv_aload_n hx hb dX9_sweep_24 rfl (lv_at hl 0 rfl) ?_
    refine va_get (D := D) (C := RX9) (T := TX9) (N := 3) hx hb (uc_9 hk.1 _) (fun _ h9 => h9) hown hK hP 0 rfl rfl 2 (by decide) (fl_X9_22 hk.1 _) (fun _ h9 => h9) rfl dX9_sweep_25 ?_
    refine lv_icmp_ge (tgt := 73) hx hb dX9_sweep_28 (by decide) (fun _ => ?_) (fun c_1 => absurd ((show nI L.length ≤ nI Q.length by rw [nI_leI (by have := hok.1; omega) (by omega)]; have := hok.1; omega)) c_1)
    refine lv_iload_n hx hb dX9_sweep_73 rfl (lv_at hl 3 rfl) ?_
    refine W.widen (k := 80) (n := 480) (by omega) (by omega) ?_
    have e1 : r = (fc, Qc, tc) := by rw [hr9, ← hu]
    subst e1
    exact ri C hrt hlocks rfl hP hS dX9_sweep_74
  | succ k ih =>
    intro i hik Qc tc fc hu hok hlen H locs ls hP hD hS hl
    have hi : i < Qc.length := by omega
    obtain ⟨a, pd, hL, hQ, hp⟩ := at_of hok hi
    refine lv_iload hx hb dX9_sweep_22 (lv_at hl 4 rfl) ?_
    refine lv_aload_n hx hb dX9_sweep_24 rfl (lv_at hl 0 rfl) ?_
    refine va_get (D := D) (C := RX9) (T := TX9) (N := 3) hx hb (uc_9 hk.1 _) (fun _ h9 => h9) hown hK hP 0 rfl rfl 2 (by decide) (fl_X9_22 hk.1 _) (fun _ h9 => h9) rfl dX9_sweep_25 ?_
    refine lv_icmp_ge (tgt := 73) hx hb dX9_sweep_28 (by decide) (fun c_1 => absurd c_1 ((fun h9 : nI L.length ≤ nI i => by rw [nI_leI (by have := hok.1; omega) (by omega)] at h9; have := hok.1; omega))) (fun _ => ?_)
    refine lv_aload_n hx hb dX9_sweep_31 rfl (lv_at hl 0 rfl) ?_
    refine lv_iload_n hx hb dX9_sweep_32 rfl (lv_at hl 1 rfl) ?_
    refine lv_iload hx hb dX9_sweep_33 (lv_at hl 4 rfl) ?_
    refine k_findIn hok hi hL hQ C (ml_X9_91 hk.1 _) hP hD hS hl.1 ⟨by decide, by decide⟩ (Nat.le_of_ble_eq_true rfl) dX9_sweep_35 ⟨by show 4 * i ≤ 80; omega, by show 24 * i ≤ 480; omega⟩ (fun hz9 H locs hP hS => ?_) (fun hz9 H locs hP hS => ?_)
    · refine lv_astoreN (lv' := [(5, .null), (0, .ref x0), (1, .int zn), (2, .int v), (3, .int fc), (4, .int (nI i))]) hx hb dX9_sweep_38 hl (by decide) rfl (fun ls hl => ?_)
      refine lv_aloadN hx hb dX9_sweep_40 (lv_at hl 0 rfl) ?_
      refine lv_ifnullN (tgt := 67) hx hb dX9_sweep_42 (by decide) ?_
      refine lv_iinc (v := (nI i) + 1) (lv' := [(4, .int ((nI i) + 1)), (5, .null), (0, .ref x0), (1, .int zn), (2, .int v), (3, .int fc)]) hx hb dX9_sweep_67 hl (k := 5) rfl rfl (by decide) rfl (fun ls hl => ?_)
      refine lv_goto (tgt := 22) hx hb dX9_sweep_70 (by decide) ?_
      have hl : lv_has ls 7 [(0, .ref x0), (1, .int zn), (2, .int v), (3, .int fc), (4, .int (nI (i + 1)))] := by rw [← nI_1]; exact lv_sub hl [2, 3, 4, 5, 0] rfl
      refine W.widen (k := 4 * (i + 1)) (n := 24 * (i + 1)) (by omega) (by omega) ?_
      exact ih (i + 1) (by omega) Qc tc fc (by show _ = swS zn v i (lp (swS zn v) i (Q, t, 0)); rw [← hu]; exact (if_neg (by rw [gQ_of hQ]; exact hz9)).symm) hok hlen H locs ls hP hD hS hl
    · refine lv_astore (lv' := [(5, .ref a), (0, .ref x0), (1, .int zn), (2, .int v), (3, .int fc), (4, .int (nI i))]) hx hb dX9_sweep_38 hl (by decide) rfl (fun ls hl => ?_)
      refine lv_aload hx hb dX9_sweep_40 (lv_at hl 0 rfl) ?_
      refine lv_ifnull hx hb dX9_sweep_42 ?_
      refine lv_aload hx hb dX9_sweep_45 (lv_at hl 0 rfl) ?_
      refine lv_iload_n hx hb dX9_sweep_47 rfl (lv_at hl 3 rfl) ?_
      refine vf_r (kd := pd.1) (K := nI pd.1) (zn := pd.2.1) (lm := pd.2.2.1) (d := pd.2.2.2) (t := tc) (h0 := a) hl9 (k8 hp) C (ml_X9_47 hk.1 _) (px_cut hP hL hQ) (dx_cut hD hL hQ) hS hl.1 (Nat.le_of_ble_eq_true rfl) dX9_sweep_48 ⟨by decide, by decide, by show 4 * i + 4 ≤ 80; omega, by show 24 * i + 24 ≤ 480; omega⟩ (fun E ce q9 H locs he hB hD1 hS hf1 h1 h2 h3 => ?_) (fun h0c H locs hB hD1 hS hf1 => ?_)
      · have hP : va_P D cls (wx ca x0 da ht hr L (Qc.set i (pd.1, pd.2.1, pd.2.2.1, (pr pd.1 v pd.2.2.2 tc).2.1)) (pr pd.1 v pd.2.2.2 tc).2.2) H := px_join hP hD hL hQ hf1 hB
        have hD : va_D A (wx ca x0 da ht hr L (Qc.set i (pd.1, pd.2.1, pd.2.2.1, (pr pd.1 v pd.2.2.2 tc).2.1)) (pr pd.1 v pd.2.2.2 tc).2.2) := hD.to (wx_map hok.1 List.length_set)
        rw [← sQ_of hQ] at hP hD
        have hne : ¬ (pr pd.1 v pd.2.2.2 tc).1 = 0 := fun h => en_0 h he
        rcases id he with ⟨-, rfl⟩ | ⟨-, rfl⟩
        · refine vx_catch (own := RX9) (name := "java/lang/IllegalStateException") hown [] ⟨45, 51, 54, 95⟩ [⟨45, 51, 62, 97⟩] htab (fun z hz => nomatch hz) (by decide) (by decide) (cl_X9_95 hk.1 _) (va_Nw.use rfl (hk.2.2.1 ("java/lang/IllegalStateException", "java/lang/IllegalStateException") (by decide))) h1 h2 h3 ?_
          refine lv_astore (lv' := [(6, .ref q9), (5, .ref a), (0, .ref x0), (1, .int zn), (2, .int v), (3, .int fc), (4, .int (nI i))]) hx hb dX9_sweep_54 hl (by decide) rfl (fun ls hl => ?_)
          refine lv_iinc (v := fc + 1) (lv' := [(3, .int (fc + 1)), (6, .ref q9), (5, .ref a), (0, .ref x0), (1, .int zn), (2, .int v), (4, .int (nI i))]) hx hb dX9_sweep_56 hl (k := 5) rfl rfl (by decide) rfl (fun ls hl => ?_)
          refine lv_goto (tgt := 67) hx hb dX9_sweep_59 (by decide) ?_
          refine lv_iinc (v := (nI i) + 1) (lv' := [(4, .int ((nI i) + 1)), (3, .int (fc + 1)), (6, .ref q9), (5, .ref a), (0, .ref x0), (1, .int zn), (2, .int v)]) hx hb dX9_sweep_67 hl (k := 6) rfl rfl (by decide) rfl (fun ls hl => ?_)
          refine lv_goto (tgt := 22) hx hb dX9_sweep_70 (by decide) ?_
          have hl : lv_has ls 7 [(0, .ref x0), (1, .int zn), (2, .int v), (3, .int (fc + 1)), (4, .int (nI (i + 1)))] := by rw [← nI_1]; exact lv_sub hl [4, 5, 6, 1, 0] rfl
          refine W.widen (k := 4 * (i + 1)) (n := 24 * (i + 1)) (by omega) (by omega) ?_
          exact ih (i + 1) (by omega) (sQ Qc i (pr pd.1 v pd.2.2.2 tc).2.1) (pr pd.1 v pd.2.2.2 tc).2.2 (fc + 1) (by show _ = swS zn v i (lp (swS zn v) i (Q, t, 0)); rw [← hu]; show _ = (if (gQ Qc i).2.1 = zn then _ else _); rw [if_pos (by rw [gQ_of hQ]; exact hz9)]; show _ = (sQ Qc i (pr (gQ Qc i).1 v (gQ Qc i).2.2.2 tc).2.1, (pr (gQ Qc i).1 v (gQ Qc i).2.2.2 tc).2.2, if (pr (gQ Qc i).1 v (gQ Qc i).2.2.2 tc).1 = 0 then fc else fc + 1); rw [gQ_of hQ, if_neg hne]) (sQ_ok _ hok hi) ((sQ_len _ _ _).trans hlen) H locs ls hP hD hS hl
        · refine vx_catch (own := RX9) (name := "java/lang/ArithmeticException") hown [⟨45, 51, 54, 95⟩] ⟨45, 51, 62, 97⟩ [] htab (fun z hz => by cases List.mem_singleton.mp hz; exact Or.inr ⟨by decide, _, cl_X9_95 hk.1 _, hk.2.2.2.1⟩) (by decide) (by decide) (cl_X9_97 hk.1 _) (va_Nw.use rfl (hk.2.2.1 ("java/lang/ArithmeticException", "java/lang/ArithmeticException") (by decide))) h1 h2 h3 ?_
          refine lv_astore (lv' := [(6, .ref q9), (5, .ref a), (0, .ref x0), (1, .int zn), (2, .int v), (3, .int fc), (4, .int (nI i))]) hx hb dX9_sweep_62 hl (by decide) rfl (fun ls hl => ?_)
          refine lv_iinc (v := fc + 1) (lv' := [(3, .int (fc + 1)), (6, .ref q9), (5, .ref a), (0, .ref x0), (1, .int zn), (2, .int v), (4, .int (nI i))]) hx hb dX9_sweep_64 hl (k := 5) rfl rfl (by decide) rfl (fun ls hl => ?_)
          refine lv_iinc (v := (nI i) + 1) (lv' := [(4, .int ((nI i) + 1)), (3, .int (fc + 1)), (6, .ref q9), (5, .ref a), (0, .ref x0), (1, .int zn), (2, .int v)]) hx hb dX9_sweep_67 hl (k := 6) rfl rfl (by decide) rfl (fun ls hl => ?_)
          refine lv_goto (tgt := 22) hx hb dX9_sweep_70 (by decide) ?_
          have hl : lv_has ls 7 [(0, .ref x0), (1, .int zn), (2, .int v), (3, .int (fc + 1)), (4, .int (nI (i + 1)))] := by rw [← nI_1]; exact lv_sub hl [4, 5, 6, 1, 0] rfl
          refine W.widen (k := 4 * (i + 1)) (n := 24 * (i + 1)) (by omega) (by omega) ?_
          exact ih (i + 1) (by omega) (sQ Qc i (pr pd.1 v pd.2.2.2 tc).2.1) (pr pd.1 v pd.2.2.2 tc).2.2 (fc + 1) (by show _ = swS zn v i (lp (swS zn v) i (Q, t, 0)); rw [← hu]; show _ = (if (gQ Qc i).2.1 = zn then _ else _); rw [if_pos (by rw [gQ_of hQ]; exact hz9)]; show _ = (sQ Qc i (pr (gQ Qc i).1 v (gQ Qc i).2.2.2 tc).2.1, (pr (gQ Qc i).1 v (gQ Qc i).2.2.2 tc).2.2, if (pr (gQ Qc i).1 v (gQ Qc i).2.2.2 tc).1 = 0 then fc else fc + 1); rw [gQ_of hQ, if_neg hne]) (sQ_ok _ hok hi) ((sQ_len _ _ _).trans hlen) H locs ls hP hD hS hl
      · have hP : va_P D cls (wx ca x0 da ht hr L (Qc.set i (pd.1, pd.2.1, pd.2.2.1, (pr pd.1 v pd.2.2.2 tc).2.1)) (pr pd.1 v pd.2.2.2 tc).2.2) H := px_join hP hD hL hQ hf1 hB
        have hD : va_D A (wx ca x0 da ht hr L (Qc.set i (pd.1, pd.2.1, pd.2.2.1, (pr pd.1 v pd.2.2.2 tc).2.1)) (pr pd.1 v pd.2.2.2 tc).2.2) := hD.to (wx_map hok.1 List.length_set)
        rw [← sQ_of hQ] at hP hD
        refine lv_goto (tgt := 67) hx hb dX9_sweep_51 (by decide) ?_
        refine lv_iinc (v := (nI i) + 1) (lv' := [(4, .int ((nI i) + 1)), (5, .ref a), (0, .ref x0), (1, .int zn), (2, .int v), (3, .int fc)]) hx hb dX9_sweep_67 hl (k := 5) rfl rfl (by decide) rfl (fun ls hl => ?_)
        refine lv_goto (tgt := 22) hx hb dX9_sweep_70 (by decide) ?_
        have hl : lv_has ls 7 [(0, .ref x0), (1, .int zn), (2, .int v), (3, .int fc), (4, .int (nI (i + 1)))] := by rw [← nI_1]; exact lv_sub hl [2, 3, 4, 5, 0] rfl
        refine W.widen (k := 4 * (i + 1)) (n := 24 * (i + 1)) (by omega) (by omega) ?_
        exact ih (i + 1) (by omega) (sQ Qc i (pr pd.1 v pd.2.2.2 tc).2.1) (pr pd.1 v pd.2.2.2 tc).2.2 fc (by show _ = swS zn v i (lp (swS zn v) i (Q, t, 0)); rw [← hu]; show _ = (if (gQ Qc i).2.1 = zn then _ else _); rw [if_pos (by rw [gQ_of hQ]; exact hz9)]; show _ = (sQ Qc i (pr (gQ Qc i).1 v (gQ Qc i).2.2.2 tc).2.1, (pr (gQ Qc i).1 v (gQ Qc i).2.2.2 tc).2.2, if (pr (gQ Qc i).1 v (gQ Qc i).2.2.2 tc).1 = 0 then fc else fc + 1); rw [gQ_of hQ, if_pos h0c]) (sQ_ok _ hok hi) ((sQ_len _ _ _).trans hlen) H locs ls hP hD hS hl

set_option maxHeartbeats 4000000 in
set_option maxRecDepth 100000 in
theorem L_alarm {p : Program} {l : Launch} {e : Env} {s : State} {m : MethodId} {args : Array Value} {below : List Frame} {meth : Method} {c : Code} {A : Nat → Prop} {D : va_G} {ca : Nat → ClassId} {sa : Nat → Nat} {lo : Nat} {x0 da ht hr : Nat} {L : List Nat} {Q : List Pd} {t : Tr} {zn kq : Int32} (C : Cx D ca sa lo p s m c cX9_alarm 6 RX9 A) (hrt : meth.sig.returnType = some .int) (hlocks : meth.locks = false) (hn : Q.length ≤ 20) {r : Ry} (hr9 : r = (bi (decide (kq ≤ (lp (alS zn) Q.length (Q, t, 0)).2.2)), (lp (alS zn) Q.length (Q, t, 0)).1, (lp (alS zn) Q.length (Q, t, 0)).2.1)) :
    ∀ (k i : Nat), i + k = Q.length → ∀ (Qc : List Pd) (tc : Tr) (fc : Int32), (Qc, tc, fc) = lp (alS zn) i (Q, t, 0) → okP L Qc → Qc.length = Q.length → ∀ (H : Heap) (locs : List Loc) (ls : Array Slot), va_P D cls (wx ca x0 da ht hr L Qc tc) H → va_D A (wx ca x0 da ht hr L Qc tc) → va_S A s.heap H locs → lv_has ls 6 [(0, .ref x0), (1, .int zn), (2, .int kq), (3, .int fc), (4, .int (nI i))] →
      W p l e ({ frames := 4, cells := 0, slots := 0, locals := 120 }) s m args below meth c H locs 0 0 (MQ below (QI D r.1 (wx ca x0 da ht hr L r.2.1 r.2.2) A) args s 0 0 A) (F0 m 26 ls []) := by
  obtain ⟨hx, hb, hml, hown, hk, hz, hlo, hA, hAl⟩ := id C
  have hK : va_K D cls (tyl ca) s := hk.2.1
  intro k
  induction k with
  | zero =>
    intro i hik Qc tc fc hu hok hlen H locs ls hP hD hS hl
    obtain rfl : i = Q.length := by omega
    have hl : lv_has ls 6 [(0, .ref x0), (1, .int zn), (2, .int kq), (3, .int fc), (4, .int (nI Q.length))] := hl
    refine lv_iload hx hb dX9_alarm_26 (lv_at hl 4 rfl) ?_
    refine lv_aload_n hx hb dX9_alarm_28 rfl (lv_at hl 0 rfl) ?_
    refine va_get (D := D) (C := RX9) (T := TX9) (N := 3) hx hb (uc_9 hk.1 _) (fun _ h9 => h9) hown hK hP 0 rfl rfl 2 (by decide) (fl_X9_22 hk.1 _) (fun _ h9 => h9) rfl dX9_alarm_29 ?_
    refine lv_icmp_ge (tgt := 63) hx hb dX9_alarm_32 (by decide) (fun _ => ?_) (fun c_1 => absurd ((show nI L.length ≤ nI Q.length by rw [nI_leI (by have := hok.1; omega) (by omega)]; have := hok.1; omega)) c_1)
    refine lv_iload_n hx hb dX9_alarm_63 rfl (lv_at hl 3 rfl) ?_
    refine lv_iload_n hx hb dX9_alarm_64 rfl (lv_at hl 2 rfl) ?_
    refine lv_icmp_lt (tgt := 72) hx hb dX9_alarm_65 (by decide) (fun c_2 => ?_) (fun c_2 => ?_)
    · refine lv_iconst (v := 0) hx hb dX9_alarm_72 (by decide) ?_
      have e1 : r = (bi (decide (kq ≤ fc)), Qc, tc) := by rw [hr9, ← hu]
      subst e1
      exact ri C hrt hlocks (bi_f (P := kq ≤ fc) (Int32.not_le.mpr c_2)) hP hS dX9_alarm_73
    · refine lv_iconst (v := 1) hx hb dX9_alarm_68 (by decide) ?_
      refine lv_goto (tgt := 73) hx hb dX9_alarm_69 (by decide) ?_
      have e1 : r = (bi (decide (kq ≤ fc)), Qc, tc) := by rw [hr9, ← hu]
      subst e1
      exact ri C hrt hlocks (bi_t (P := kq ≤ fc) (Int32.not_lt.mp c_2)) hP hS dX9_alarm_73
  | succ k ih =>
    intro i hik Qc tc fc hu hok hlen H locs ls hP hD hS hl
    have hi : i < Qc.length := by omega
    obtain ⟨a, pd, hL, hQ, hp⟩ := at_of hok hi
    refine lv_iload hx hb dX9_alarm_26 (lv_at hl 4 rfl) ?_
    refine lv_aload_n hx hb dX9_alarm_28 rfl (lv_at hl 0 rfl) ?_
    refine va_get (D := D) (C := RX9) (T := TX9) (N := 3) hx hb (uc_9 hk.1 _) (fun _ h9 => h9) hown hK hP 0 rfl rfl 2 (by decide) (fl_X9_22 hk.1 _) (fun _ h9 => h9) rfl dX9_alarm_29 ?_
    refine lv_icmp_ge (tgt := 63) hx hb dX9_alarm_32 (by decide) (fun c_1 => absurd c_1 ((fun h9 : nI L.length ≤ nI i => by rw [nI_leI (by have := hok.1; omega) (by omega)] at h9; have := hok.1; omega))) (fun _ => ?_)
    refine lv_aload_n hx hb dX9_alarm_35 rfl (lv_at hl 0 rfl) ?_
    refine lv_iload_n hx hb dX9_alarm_36 rfl (lv_at hl 1 rfl) ?_
    refine lv_iload hx hb dX9_alarm_37 (lv_at hl 4 rfl) ?_
    refine k_findIn hok hi hL hQ C (ml_X9_91 hk.1 _) hP hD hS hl.1 ⟨by decide, by decide⟩ (Nat.le_of_ble_eq_true rfl) dX9_alarm_39 ⟨by decide, by decide⟩ (fun hz9 H locs hP hS => ?_) (fun hz9 H locs hP hS => ?_)
    · refine lv_astoreN (lv' := [(5, .null), (0, .ref x0), (1, .int zn), (2, .int kq), (3, .int fc), (4, .int (nI i))]) hx hb dX9_alarm_42 hl (by decide) rfl (fun ls hl => ?_)
      refine lv_aloadN hx hb dX9_alarm_44 (lv_at hl 0 rfl) ?_
      refine lv_ifnullN (tgt := 57) hx hb dX9_alarm_46 (by decide) ?_
      refine lv_iinc (v := (nI i) + 1) (lv' := [(4, .int ((nI i) + 1)), (5, .null), (0, .ref x0), (1, .int zn), (2, .int kq), (3, .int fc)]) hx hb dX9_alarm_57 hl (k := 5) rfl rfl (by decide) rfl (fun ls hl => ?_)
      refine lv_goto (tgt := 26) hx hb dX9_alarm_60 (by decide) ?_
      have hl : lv_has ls 6 [(0, .ref x0), (1, .int zn), (2, .int kq), (3, .int fc), (4, .int (nI (i + 1)))] := by rw [← nI_1]; exact lv_sub hl [2, 3, 4, 5, 0] rfl
      exact ih (i + 1) (by omega) Qc tc fc (by show _ = alS zn i (lp (alS zn) i (Q, t, 0)); rw [← hu]; exact (if_neg (by rw [gQ_of hQ]; exact hz9)).symm) hok hlen H locs ls hP hD hS hl
    · refine lv_astore (lv' := [(5, .ref a), (0, .ref x0), (1, .int zn), (2, .int kq), (3, .int fc), (4, .int (nI i))]) hx hb dX9_alarm_42 hl (by decide) rfl (fun ls hl => ?_)
      refine lv_aload hx hb dX9_alarm_44 (lv_at hl 0 rfl) ?_
      refine lv_ifnull hx hb dX9_alarm_46 ?_
      refine lv_iload_n hx hb dX9_alarm_49 rfl (lv_at hl 4 rfl) ?_
      refine lv_aload hx hb dX9_alarm_50 (lv_at hl 0 rfl) ?_
      refine vf_v (kd := pd.1) (K := nI pd.1) (zn := pd.2.1) (lm := pd.2.2.1) (d := pd.2.2.2) (t := tc) (h0 := a) (k8 hp) C (ml_X9_99 hk.1 _) (px_cut hP hL hQ) (dx_cut hD hL hQ) hS hl.1 (Nat.le_of_ble_eq_true rfl) dX9_alarm_52 ⟨by decide, by decide, by decide, by decide⟩ (fun H locs hB hD1 hS hf1 => ?_)
      have hP : va_P D cls (wx ca x0 da ht hr L (Qc.set i (pd.1, pd.2.1, pd.2.2.1, (pv pd.1 pd.2.2.1 pd.2.2.2 tc).2.1)) (pv pd.1 pd.2.2.1 pd.2.2.2 tc).2.2) H := px_join hP hD hL hQ hf1 hB
      have hD : va_D A (wx ca x0 da ht hr L (Qc.set i (pd.1, pd.2.1, pd.2.2.1, (pv pd.1 pd.2.2.1 pd.2.2.2 tc).2.1)) (pv pd.1 pd.2.2.1 pd.2.2.2 tc).2.2) := hD.to (wx_map hok.1 List.length_set)
      rw [← sQ_of hQ] at hP hD
      refine lv_iadd hx hb dX9_alarm_55 ?_
      refine lv_istore_n (lv' := [(3, .int (fc + ((pv pd.1 pd.2.2.1 pd.2.2.2 tc).1))), (5, .ref a), (0, .ref x0), (1, .int zn), (2, .int kq), (4, .int (nI i))]) hx hb dX9_alarm_56 rfl hl (by decide) rfl (fun ls hl => ?_)
      refine lv_iinc (v := (nI i) + 1) (lv' := [(4, .int ((nI i) + 1)), (3, .int (fc + ((pv pd.1 pd.2.2.1 pd.2.2.2 tc).1))), (5, .ref a), (0, .ref x0), (1, .int zn), (2, .int kq)]) hx hb dX9_alarm_57 hl (k := 5) rfl rfl (by decide) rfl (fun ls hl => ?_)
      refine lv_goto (tgt := 26) hx hb dX9_alarm_60 (by decide) ?_
      have hl : lv_has ls 6 [(0, .ref x0), (1, .int zn), (2, .int kq), (3, .int (fc + ((pv pd.1 pd.2.2.1 pd.2.2.2 tc).1))), (4, .int (nI (i + 1)))] := by rw [← nI_1]; exact lv_sub hl [3, 4, 5, 1, 0] rfl
      exact ih (i + 1) (by omega) (sQ Qc i (pv pd.1 pd.2.2.1 pd.2.2.2 tc).2.1) (pv pd.1 pd.2.2.1 pd.2.2.2 tc).2.2 (fc + (pv pd.1 pd.2.2.1 pd.2.2.2 tc).1) (by show _ = alS zn i (lp (alS zn) i (Q, t, 0)); rw [← hu]; show _ = (if (gQ Qc i).2.1 = zn then _ else _); rw [if_pos (by rw [gQ_of hQ]; exact hz9)]; show _ = (sQ Qc i (pv (gQ Qc i).1 (gQ Qc i).2.2.1 (gQ Qc i).2.2.2 tc).2.1, (pv (gQ Qc i).1 (gQ Qc i).2.2.1 (gQ Qc i).2.2.2 tc).2.2, fc + (pv (gQ Qc i).1 (gQ Qc i).2.2.1 (gQ Qc i).2.2.2 tc).1); rw [gQ_of hQ]) (sQ_ok _ hok hi) ((sQ_len _ _ _).trans hlen) H locs ls hP hD hS hl

set_option maxHeartbeats 4000000 in
set_option maxRecDepth 100000 in
theorem L_costs {p : Program} {l : Launch} {e : Env} {s : State} {m : MethodId} {args : Array Value} {below : List Frame} {meth : Method} {c : Code} {A : Nat → Prop} {D : va_G} {ca : Nat → ClassId} {sa : Nat → Nat} {lo : Nat} {x0 da ht hr : Nat} {L : List Nat} {Q : List Pd} {t : Tr}  (C : Cx D ca sa lo p s m c cX9_costs 4 RX9 A) (hrt : meth.sig.returnType = some .int) (hlocks : meth.locks = false) (hn : Q.length ≤ 20) {r : Ry} (hr9 : r = ((lp csS Q.length (Q, t, 0)).2.2, (lp csS Q.length (Q, t, 0)).1, (lp csS Q.length (Q, t, 0)).2.1)) :
    ∀ (k i : Nat), i + k = Q.length → ∀ (Qc : List Pd) (tc : Tr) (fc : Int32), (Qc, tc, fc) = lp (csS) i (Q, t, 0) → okP L Qc → Qc.length = Q.length → ∀ (H : Heap) (locs : List Loc) (ls : Array Slot), va_P D cls (wx ca x0 da ht hr L Qc tc) H → va_D A (wx ca x0 da ht hr L Qc tc) → va_S A s.heap H locs → lv_has ls 4 [(0, .ref x0), (1, .int fc), (2, .int (nI i))] →
      W p l e ({ frames := 3, cells := 0, slots := 0, locals := 90 }) s m args below meth c H locs 0 0 (MQ below (QI D r.1 (wx ca x0 da ht hr L r.2.1 r.2.2) A) args s 0 0 A) (F0 m 4 ls []) := by
  obtain ⟨hx, hb, hml, hown, hk, hz, hlo, hA, hAl⟩ := id C
  have hK : va_K D cls (tyl ca) s := hk.2.1
  intro k
  induction k with
  | zero =>
    intro i hik Qc tc fc hu hok hlen H locs ls hP hD hS hl
    obtain rfl : i = Q.length := by omega
    have hl : lv_has ls 4 [(0, .ref x0), (1, .int fc), (2, .int (nI Q.length))] := hl
    refine lv_iload_n hx hb dX9_costs_4 rfl (lv_at hl 2 rfl) ?_
    refine lv_aload_n hx hb dX9_costs_5 rfl (lv_at hl 0 rfl) ?_
    refine va_get (D := D) (C := RX9) (T := TX9) (N := 3) hx hb (uc_9 hk.1 _) (fun _ h9 => h9) hown hK hP 0 rfl rfl 2 (by decide) (fl_X9_22 hk.1 _) (fun _ h9 => h9) rfl dX9_costs_6 ?_
    refine lv_icmp_ge (tgt := 35) hx hb dX9_costs_9 (by decide) (fun _ => ?_) (fun c_1 => absurd ((show nI L.length ≤ nI Q.length by rw [nI_leI (by have := hok.1; omega) (by omega)]; have := hok.1; omega)) c_1)
    refine lv_iload_n hx hb dX9_costs_35 rfl (lv_at hl 1 rfl) ?_
    have e1 : r = (fc, Qc, tc) := by rw [hr9, ← hu]
    subst e1
    exact ri C hrt hlocks rfl hP hS dX9_costs_36
  | succ k ih =>
    intro i hik Qc tc fc hu hok hlen H locs ls hP hD hS hl
    have hi : i < Qc.length := by omega
    obtain ⟨a, pd, hL, hQ, hp⟩ := at_of hok hi
    refine lv_iload_n hx hb dX9_costs_4 rfl (lv_at hl 2 rfl) ?_
    refine lv_aload_n hx hb dX9_costs_5 rfl (lv_at hl 0 rfl) ?_
    refine va_get (D := D) (C := RX9) (T := TX9) (N := 3) hx hb (uc_9 hk.1 _) (fun _ h9 => h9) hown hK hP 0 rfl rfl 2 (by decide) (fl_X9_22 hk.1 _) (fun _ h9 => h9) rfl dX9_costs_6 ?_
    refine lv_icmp_ge (tgt := 35) hx hb dX9_costs_9 (by decide) (fun c_1 => absurd c_1 ((fun h9 : nI L.length ≤ nI i => by rw [nI_leI (by have := hok.1; omega) (by omega)] at h9; have := hok.1; omega))) (fun _ => ?_)
    refine lv_aload_n hx hb dX9_costs_12 rfl (lv_at hl 0 rfl) ?_
    refine lv_iload_n hx hb dX9_costs_13 rfl (lv_at hl 2 rfl) ?_
    refine k_find hok C hP hD hS hl.1 ⟨by decide, by decide⟩ (Nat.le_of_ble_eq_true rfl) dX9_costs_14 ⟨by decide, by decide⟩ (fun hi9 H locs hP hS => ?_) (fun i9 a9 pd9 hi9 hj9 hxj hL9 hQ9 hp9 H locs hP hS => ?_)
    · rw [ix_nI hok.2.1 hi] at hi9; cases hi9
    · rw [ix_nI hok.2.1 hi] at hi9; cases hi9
      rw [hL] at hL9; cases hL9
      refine lv_astore_n (lv' := [(3, .ref a), (0, .ref x0), (1, .int fc), (2, .int (nI i))]) hx hb dX9_costs_17 rfl hl (by decide) rfl (fun ls hl => ?_)
      refine lv_aload_n hx hb dX9_costs_18 rfl (lv_at hl 0 rfl) ?_
      refine lv_ifnull hx hb dX9_costs_19 ?_
      refine lv_iload_n hx hb dX9_costs_22 rfl (lv_at hl 2 rfl) ?_
      refine lv_aload_n hx hb dX9_costs_23 rfl (lv_at hl 0 rfl) ?_
      refine vf_k (kd := pd.1) (K := nI pd.1) (zn := pd.2.1) (lm := pd.2.2.1) (d := pd.2.2.2) (t := tc) (h0 := a) (k8 hp) C (ml_X9_65 hk.1 _) (px_cut hP hL hQ) (dx_cut hD hL hQ) hS hl.1 (Nat.le_of_ble_eq_true rfl) dX9_costs_24 ⟨by decide, by decide, by decide, by decide⟩ (fun H locs hB hD1 hS hf1 => ?_)
      have hP : va_P D cls (wx ca x0 da ht hr L (Qc.set i (pd.1, pd.2.1, pd.2.2.1, pd.2.2.2)) (pk pd.1 pd.2.2.2 tc).2) H := px_join hP hD hL hQ hf1 hB
      have hD : va_D A (wx ca x0 da ht hr L (Qc.set i (pd.1, pd.2.1, pd.2.2.1, pd.2.2.2)) (pk pd.1 pd.2.2.2 tc).2) := hD.to (wx_map hok.1 List.length_set)
      have e9 : Qc.set i (pd.1, pd.2.1, pd.2.2.1, pd.2.2.2) = Qc := by
        obtain ⟨h1, h2⟩ := List.getElem?_eq_some_iff.mp hQ
        rw [show (pd.1, pd.2.1, pd.2.2.1, pd.2.2.2) = Qc[i] from h2.symm]; exact List.set_getElem_self h1
      rw [e9] at hP hD
      refine lv_iadd hx hb dX9_costs_27 ?_
      refine lv_istore_n (lv' := [(1, .int (fc + ((pk pd.1 pd.2.2.2 tc).1))), (3, .ref a), (0, .ref x0), (2, .int (nI i))]) hx hb dX9_costs_28 rfl hl (by decide) rfl (fun ls hl => ?_)
      refine lv_iinc (v := (nI i) + 1) (lv' := [(2, .int ((nI i) + 1)), (1, .int (fc + ((pk pd.1 pd.2.2.2 tc).1))), (3, .ref a), (0, .ref x0)]) hx hb dX9_costs_29 hl (k := 3) rfl rfl (by decide) rfl (fun ls hl => ?_)
      refine lv_goto (tgt := 4) hx hb dX9_costs_32 (by decide) ?_
      have hl : lv_has ls 4 [(0, .ref x0), (1, .int (fc + ((pk pd.1 pd.2.2.2 tc).1))), (2, .int (nI (i + 1)))] := by rw [← nI_1]; exact lv_sub hl [3, 1, 0] rfl
      exact ih (i + 1) (by omega) Qc (pk pd.1 pd.2.2.2 tc).2 (fc + (pk pd.1 pd.2.2.2 tc).1) (by show _ = csS i (lp csS i (Q, t, 0)); rw [← hu]; show _ = (Qc, (pk (gQ Qc i).1 (gQ Qc i).2.2.2 tc).2, fc + (pk (gQ Qc i).1 (gQ Qc i).2.2.2 tc).1); rw [gQ_of hQ]) hok hlen H locs ls hP hD hS hl
