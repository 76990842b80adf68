def zAdd (Q : List Pd) (t : Tr) (kind zn lm ch : Int32) : Ry := if rng 0 7 kind = true ∧ rng 0 5 zn = true ∧ rng (-10000) 10000 lm = true ∧ rng 0 100 ch = true then (if Q.length = 20 then (-104, Q, t) else (nI Q.length, Q ++ [pN kind.toNatClampNeg zn lm ch], t)) else (-102, Q, t)
theorem rng_le {a b x : Int32} (h : rng a b x = true) : a ≤ x ∧ x ≤ b := by
  unfold rng at h
  rw [Bool.and_eq_true] at h
  exact ⟨of_decide_eq_true h.1, of_decide_eq_true h.2⟩
theorem rng_7 {x : Int32} (h : rng 0 7 x = true) : ∃ n : Nat, n < 8 ∧ x = nI n := by
  obtain ⟨h1, h2⟩ := rng_le h
  obtain ⟨j, hj, rfl⟩ := nI_of2 (n := 7) (M := 7) (by decide) (Int32.not_lt.mpr h1) h2
  exact ⟨j, by omega, rfl⟩
theorem as_self (vm : Vm) (c : ClassId) : vm.assignable c c = true := by
  unfold Vm.assignable Vm.assignableAux
  simp
theorem cast_self {D : va_G} {tys : List (ClassId × FieldType)} {U : State} (hK : va_K D cls tys U) : va_Nw (.castable RX3 RX3) U := by
  have h := (hK.1 3 _ rfl).2.1
  have h : U.vm.findClass RX3 = some (D.1 3) := h
  show (Cond.castable RX3 RX3).before #[] U = true
  simp only [Cond.before, Cond.holds, Cond.value, h, as_self]
  rfl
theorem cast_kc {D : va_G} {ca : Nat → ClassId} {sa : Nat → Nat} {U : State} (hk : KK D ca sa U) {n : Nat} (h : n < 8) : ∃ Cn, isD (kc n) Cn ∧ va_Nw (.castable Cn RX3) U := by
  have hc : ∀ q ∈ ksC, va_Nw (.castable q.1 q.2) U := hk.2.2.1
  rcases k8 h with rfl | rfl | rfl | rfl | rfl | rfl | rfl | rfl
  · exact ⟨_, isD_3, cast_self hk.2.1⟩
  · exact ⟨_, isD_8, hc (RX8, RX3) (by simp [ksC])⟩
  · exact ⟨_, isD_4, hc (RX4, RX3) (by simp [ksC])⟩
  · exact ⟨_, isD_5, hc (RX5, RX3) (by simp [ksC])⟩
  · exact ⟨_, isD_2, hc (RX2, RX3) (by simp [ksC])⟩
  · exact ⟨_, isD_0, hc (RX0, RX3) (by simp [ksC])⟩
  · exact ⟨_, isD_1, hc (RX1, RX3) (by simp [ksC])⟩
  · exact ⟨_, isD_7, hc (RX7, RX3) (by simp [ksC])⟩
theorem wpo_app {ht a : Nat} {L : List Nat} {Q : List Pd} {pd : Pd} (h : L.length = Q.length) : wpo ht (L ++ [a]) (Q ++ [pd]) = wpo ht L Q ++ [cD ht (a, pd)] := by
  unfold wpo
  rw [List.zip_append h, List.map_append]; rfl
theorem up_app {L : List Nat} {a : Nat} : va_up (fun i => L[i]?) L.length (some a) = fun i => (L ++ [a])[i]? := by
  funext i
  unfold va_up
  rcases Nat.lt_trichotomy i L.length with h | h | h
  · rw [if_neg (by omega), List.getElem?_append_left h]
  · subst h; rw [if_pos rfl, List.getElem?_append_right (Nat.le_refl _), Nat.sub_self]; rfl
  · rw [if_neg (by omega)]
    show L[i]? = _
    rw [List.getElem?_eq_none (by omega), List.getElem?_eq_none (by rw [List.length_append, List.length_singleton]; omega)]
theorem wx_last {ca : Nat → ClassId} {x0 da ht hr : Nat} {L : List Nat} {Q : List Pd} {t : Tr} {x1 : Nat × va_E} (h : L.length = Q.length) : (wx ca x0 da ht hr L Q t ++ [x1])[4 + L.length]? = some x1 := by
  have e : (wx ca x0 da ht hr L Q t).length = 4 + L.length := by
    simp only [wx, wpo, wt, List.length_cons, List.length_append, List.length_map, List.length_zip, List.length_nil]; omega
  rw [← e, List.getElem?_append_right (Nat.le_refl _), Nat.sub_self]; rfl
def QA (D : va_G) (r : Int32) (w : List Nat → va_W) (Q : List Pd) (A : Nat → Prop) : Array Value → State → Outcome → State → Prop := va_Qi (S := List Nat) (fun r' L => r' = r ∧ okP L Q) (fun L t => va_P D cls (w L) t.heap ∧ va_D A (w L)) A
section RA
variable {D : va_G} {ca : Nat → ClassId} {sa : Nat → Nat} {lo : Nat} {p : Program} {l : Launch} {e : Env} {R : Room} {s : State} {m : MethodId} {args : Array Value} {below : List Frame} {meth : Method} {c : Code} {cc : ByteArray} {nL : Nat} {own : String} {A : Nat → Prop} {H : Heap} {locs : List Loc} {cells slots mc ms : Nat} {ls : Array Slot} {pc : Nat}
theorem ra_ (C : Cx D ca sa lo p s m c cc nL own A) (hrt : meth.sig.returnType = some .int) (hlocks : meth.locks = false) {w : List Nat → va_W} {Q : List Pd} {L : List Nat} {v r : Int32} (hv : v = r) (hok : okP L Q) (hP : va_P D cls (w L) H) (hD : va_D A (w L)) (hS : va_S A s.heap H locs) (hdg : decode cc pc = .ok (.ireturn, 1)) (h1 : cells ≤ mc) (h2 : slots ≤ ms) : W p l e R s m args below meth c H locs cells slots (MQ below (QA D r w Q A) args s mc ms A) (F0 m pc ls [.int v]) :=
  W.widen h1 h2 (W.iret C.1 C.2.1 hrt (fun t ht hW => ⟨⟨v, L, rfl, ⟨hv, hok⟩, by subst ht; exact hP, hD⟩, hS.F ht⟩) hS.2.2 hdg hlocks)
end RA

set_option maxHeartbeats 4000000 in
set_option maxRecDepth 100000 in
theorem M_add (l : Launch) (D : va_G) (ca : Nat → ClassId) (sa : Nat → Nat) (lo : Nat) (x0 da ht hr : Nat) (L : List Nat) (Q : List Pd) (t : Tr) (hok : okP L Q) (kd9 zn lm ch : Int32) (sz : Nat) : Met l yX9_add [.code yX9_add cX9_add 5 (some .int)] ({ frames := 6, cells := 1, slots := 9, locals := 170 }) (PX D ca sa lo sz [.ref x0, .int kd9, .int zn, .int lm, .int ch] (wx ca x0 da ht hr L Q t)) (QA D (zAdd Q t kd9 zn lm ch).1 (fun L => wx ca x0 da ht hr L (zAdd Q t kd9 zn lm ch).2.1 (zAdd Q t kd9 zn lm ch).2.2) (zAdd Q t kd9 zn lm ch).2.1 (va_A (wx ca x0 da ht hr L Q t) sz)) 1 9 (va_A (wx ca x0 da ht hr L Q t) sz) := by
  generalize hr9 : zAdd Q t kd9 zn lm ch = r
  refine mk_met (fun A => QA D r.1 (fun L => wx ca x0 da ht hr L r.2.1 r.2.2) r.2.1 A) (by decide) (Nat.le_of_ble_eq_true rfl) ?_
  intro p e s m below meth c A ls C hrt hlocks hnm hsz hP hD hS hl
  obtain ⟨hx, hb, hml, hown, hk, hz, hlo, hA, hAl⟩ := id C
  have hK : va_K D cls (tyl ca) s := hk.2.1
  have hl : lv_has ls 5 [(0, .ref x0), (1, .int kd9), (2, .int zn), (3, .int lm), (4, .int ch)] := hl
  refine lv_iload_n hx hb dX9_add_0 rfl (lv_at hl 1 rfl) ?_
  refine k_num (n := 1) C (m_isKind l D ca sa lo kd9) (fun U A9 h => co_X9_isKind h A9) (in_X9 hk.1 _) (ml_X9_26 hk.1 _) (st_X9_isKind hk.1 _) (by decide +kernel) ⟨⟨rfl, rfl⟩, by decide, by decide⟩ hP hS rfl hl.1 rfl (Nat.le_of_ble_eq_true rfl) dX9_add_1 ⟨by decide, by decide⟩ (fun H locs hP hS _ _ => ?_)
  refine lv_if_eq (tgt := 29) hx hb dX9_add_4 (by decide) (fun c_1 => ?_) (fun c_1 => ?_)
  · have hr9 : r = (-102, Q, t) := by rw [← hr9]; exact if_neg (fun h9 => by rw [bi_eq0 c_1] at h9; simp at h9)
    subst hr9
    refine lv_bipush (v := (-102)) hx hb dX9_add_29 (by decide) ?_
    exact ra_ (w := fun L => wx ca x0 da ht hr L Q t) C hrt hlocks rfl hok hP hD hS dX9_add_31 (by decide) (by decide)
  · refine lv_iload_n hx hb dX9_add_7 rfl (lv_at hl 2 rfl) ?_
    refine k_num (n := 1) C (m_isZone l D ca sa lo zn) (fun U A9 h => co_X9_isZone h A9) (in_X9 hk.1 _) (ml_X9_30 hk.1 _) (st_X9_isZone hk.1 _) (by decide +kernel) ⟨⟨rfl, rfl⟩, by decide, by decide⟩ hP hS rfl hl.1 rfl (Nat.le_of_ble_eq_true rfl) dX9_add_8 ⟨by decide, by decide⟩ (fun H locs hP hS _ _ => ?_)
    refine lv_if_eq (tgt := 29) hx hb dX9_add_11 (by decide) (fun c_2 => ?_) (fun c_2 => ?_)
    · have hr9 : r = (-102, Q, t) := by rw [← hr9]; exact if_neg (fun h9 => by rw [bi_eq0 c_2] at h9; simp at h9)
      subst hr9
      refine lv_bipush (v := (-102)) hx hb dX9_add_29 (by decide) ?_
      exact ra_ (w := fun L => wx ca x0 da ht hr L Q t) C hrt hlocks rfl hok hP hD hS dX9_add_31 (by decide) (by decide)
    · refine lv_iload_n hx hb dX9_add_14 rfl (lv_at hl 3 rfl) ?_
      refine k_num (n := 1) C (m_isNear l D ca sa lo lm) (fun U A9 h => co_X9_isNear h A9) (in_X9 hk.1 _) (ml_X9_33 hk.1 _) (st_X9_isNear hk.1 _) (by decide +kernel) ⟨⟨rfl, rfl⟩, by decide, by decide⟩ hP hS rfl hl.1 rfl (Nat.le_of_ble_eq_true rfl) dX9_add_15 ⟨by decide, by decide⟩ (fun H locs hP hS _ _ => ?_)
      refine lv_if_eq (tgt := 29) hx hb dX9_add_18 (by decide) (fun c_3 => ?_) (fun c_3 => ?_)
      · have hr9 : r = (-102, Q, t) := by rw [← hr9]; exact if_neg (fun h9 => by rw [bi_eq0 c_3] at h9; simp at h9)
        subst hr9
        refine lv_bipush (v := (-102)) hx hb dX9_add_29 (by decide) ?_
        exact ra_ (w := fun L => wx ca x0 da ht hr L Q t) C hrt hlocks rfl hok hP hD hS dX9_add_31 (by decide) (by decide)
      · refine lv_iload hx hb dX9_add_21 (lv_at hl 4 rfl) ?_
        refine k_num (n := 1) C (m_isCharge l D ca sa lo ch) (fun U A9 h => co_X9_isCharge h A9) (in_X9 hk.1 _) (ml_X9_36 hk.1 _) (st_X9_isCharge hk.1 _) (by decide +kernel) ⟨⟨rfl, rfl⟩, by decide, by decide⟩ hP hS rfl hl.1 rfl (Nat.le_of_ble_eq_true rfl) dX9_add_23 ⟨by decide, by decide⟩ (fun H locs hP hS _ _ => ?_)
        refine lv_if_ne (tgt := 32) hx hb dX9_add_26 (by decide) (fun c_4 => ?_) (fun c_4 => ?_)
        · have hr9 : r = (if Q.length = 20 then (-104, Q, t) else (nI Q.length, Q ++ [pN kd9.toNatClampNeg zn lm ch], t)) := by rw [← hr9]; exact if_pos ⟨bi_ne0 c_1, bi_ne0 c_2, bi_ne0 c_3, bi_ne0 c_4⟩
          obtain ⟨kd, hkd, rfl⟩ := rng_7 (bi_ne0 c_1)
          rw [nI_clamp (by omega)] at hr9
          have h20 := hok.2.1
          have hLQ := hok.1
          refine lv_aload_n hx hb dX9_add_32 rfl (lv_at hl 0 rfl) ?_
          refine va_get (D := D) (C := RX9) (T := TX9) (N := 3) hx hb (uc_9 hk.1 _) (fun _ h9 => h9) hown hK hP 0 rfl rfl 2 (by decide) (fl_X9_22 hk.1 _) (fun _ h9 => h9) rfl dX9_add_33 ?_
          refine lv_aload_n hx hb dX9_add_36 rfl (lv_at hl 0 rfl) ?_
          refine va_get (D := D) (C := RX9) (T := TX9) (N := 3) hx hb (uc_9 hk.1 _) (fun _ h9 => h9) hown hK hP 0 rfl rfl 0 (by decide) (fl_X9_11 hk.1 _) (fun _ h9 => h9) rfl dX9_add_37 ?_
          refine va_alen hx hb hK hP 1 1 rfl rfl (v := 20) rfl dX9_add_40 ?_
          refine lv_icmp_lt (tgt := 47) hx hb dX9_add_41 (by decide) (fun c_5 => ?_) (fun c_5 => ?_)
          · have hlt : L.length < 20 := (nI_ltI (b := 20) (by omega) (by decide)).mp c_5
            have hr9 : r = (nI Q.length, Q ++ [pN kd zn lm ch], t) := by rw [hr9, if_neg (by omega)]
            subst hr9
            refine lv_aload_n hx hb dX9_add_47 rfl (lv_at hl 0 rfl) ?_
            refine va_get (D := D) (C := RX9) (T := TX9) (N := 3) hx hb (uc_9 hk.1 _) (fun _ h9 => h9) hown hK hP 0 rfl rfl 0 (by decide) (fl_X9_11 hk.1 _) (fun _ h9 => h9) rfl dX9_add_48 ?_
            refine lv_aload_n hx hb dX9_add_51 rfl (lv_at hl 0 rfl) ?_
            refine va_get (D := D) (C := RX9) (T := TX9) (N := 3) hx hb (uc_9 hk.1 _) (fun _ h9 => h9) hown hK hP 0 rfl rfl 2 (by decide) (fl_X9_22 hk.1 _) (fun _ h9 => h9) rfl dX9_add_52 ?_
            refine lv_aload_n hx hb dX9_add_55 rfl (lv_at hl 0 rfl) ?_
            refine lv_iload_n hx hb dX9_add_56 rfl (lv_at hl 1 rfl) ?_
            refine lv_iload_n hx hb dX9_add_57 rfl (lv_at hl 2 rfl) ?_
            refine lv_iload_n hx hb dX9_add_58 rfl (lv_at hl 3 rfl) ?_
            refine lv_iload hx hb dX9_add_59 (lv_at hl 4 rfl) ?_
            have hfr := fr_of C hD hS
            refine va_callr (run_V (Cn := RX9) (T := TX9) (N := 3) (q0 := 0) (ci := 9) (n := 4) (As := [.int (nI kd), .int zn, .int lm, .int ch]) (rest := [.int (nI L.length), .ref da]) C (m_make l D ca sa lo x0 da ht hr L Q t hok kd hkd zn lm ch H.size) (fun U A9 h => co_X9_make h A9) (in_X9 hk.1 _) (ml_X9_39 hk.1 _) (im_X9_make hk.1 _) (se_X9_X9_make hk.1 _) (by decide +kernel) ⟨⟨rfl, rfl⟩, by decide, by decide⟩ hP hD hS rfl rfl rfl hl.1 rfl (Nat.le_of_ble_eq_true rfl) dX9_add_61 ⟨by decide, by decide⟩) hS (fun q _ h => hfr q h) hfr (fun _ a t1 H1 locs1 ht1 hvm _ hB hz1 hk1 hS1 => ?_)
            subst ht1
            obtain ⟨hP, hDa⟩ := hB
            have hD := hDa.weaken (fun _ _ _ h => hfr _ h)
            have hS := hS1
            obtain ⟨Cn, hd, hca⟩ := cast_kc hk hkd
            refine va_astqO (r := (Cn, TX3, 9)) hx hb hK hP hD hS 1 1 (4 + L.length) (kc kd) rfl rfl hca (wx_last hLQ) hd.1 (vp_in_nI hlt (by decide)) dX9_add_64 (fun H locs hP hD hS => ?_)
            rw [nI_clamp (by omega), up_app] at hP hD
            have hP : va_P D cls ((x0, .inr (9, [.ref da, .ref ht, .int (nI L.length)])) :: (da, .inl (ca 1, 20, .inr (.inr (.inr (.inr (fun i => (L ++ [a])[i]?)))))) :: (wt ca ht hr t ++ wpo ht L Q ++ [cD ht (a, pN kd zn lm ch)])) H := hP
            have hD : va_D A ((x0, .inr (9, [.ref da, .ref ht, .int (nI L.length)])) :: (da, .inl (ca 1, 20, .inr (.inr (.inr (.inr (fun i => (L ++ [a])[i]?)))))) :: (wt ca ht hr t ++ wpo ht L Q ++ [cD ht (a, pN kd zn lm ch)])) := hD
            refine lv_aload_n hx hb dX9_add_65 rfl (lv_at hl 0 rfl) ?_
            refine lv_dup hx hb dX9_add_66 rfl ?_
            refine va_get (D := D) (C := RX9) (T := TX9) (N := 3) hx hb (uc_9 hk.1 _) (fun _ h9 => h9) hown hK hP 0 rfl rfl 2 (by decide) (fl_X9_22 hk.1 _) (fun _ h9 => h9) rfl dX9_add_67 ?_
            refine lv_iconst (v := 1) hx hb dX9_add_70 (by decide) ?_
            refine lv_iadd hx hb dX9_add_71 ?_
            refine va_put (D := D) (v := .int ((nI L.length) + 1)) (ty := .int) (C := RX9) (T := TX9) (N := 3) hx hb (uc_9 hk.1 _) (fun _ h9 => h9) tyX9 tyX9_ok nmX9 hown hK hP hD hS 0 rfl rfl 2 (by decide) (fl_X9_22 hk.1 _) (fun _ h9 => h9) rfl (by decide +kernel) rfl rfl (Nat.le_of_ble_eq_true rfl) dX9_add_72 (fun H locs hP hD hS => ?_)
            have hP : va_P D cls ((x0, .inr (9, [.ref da, .ref ht, .int (nI L.length + 1)])) :: (da, .inl (ca 1, 20, .inr (.inr (.inr (.inr (fun i => (L ++ [a])[i]?)))))) :: (wt ca ht hr t ++ wpo ht L Q ++ [cD ht (a, pN kd zn lm ch)])) H := hP
            have hD : va_D A ((x0, .inr (9, [.ref da, .ref ht, .int (nI L.length + 1)])) :: (da, .inl (ca 1, 20, .inr (.inr (.inr (.inr (fun i => (L ++ [a])[i]?)))))) :: (wt ca ht hr t ++ wpo ht L Q ++ [cD ht (a, pN kd zn lm ch)])) := hD
            have e9 : ((x0, .inr (9, [.ref da, .ref ht, .int (nI L.length + 1)])) :: (da, .inl (ca 1, 20, .inr (.inr (.inr (.inr (fun i => (L ++ [a])[i]?)))))) :: (wt ca ht hr t ++ wpo ht L Q ++ [cD ht (a, pN kd zn lm ch)])) = wx ca x0 da ht hr (L ++ [a]) (Q ++ [pN kd zn lm ch]) t := by
              unfold wx
              rw [wpo_app hLQ, List.length_append, List.append_assoc, nI_1]; rfl
            rw [e9] at hP hD
            refine lv_aload_n hx hb dX9_add_75 rfl (lv_at hl 0 rfl) ?_
            refine va_get (D := D) (C := RX9) (T := TX9) (N := 3) hx hb (uc_9 hk.1 _) (fun _ h9 => h9) hown hK hP 0 rfl rfl 2 (by decide) (fl_X9_22 hk.1 _) (fun _ h9 => h9) rfl dX9_add_76 ?_
            refine lv_iconst (v := 1) hx hb dX9_add_79 (by decide) ?_
            refine lv_isub hx hb dX9_add_80 ?_
            exact ra_ (w := fun L => wx ca x0 da ht hr L (Q ++ [pN kd zn lm ch]) t) (L := L ++ [a]) C hrt hlocks (by rw [List.length_append]; show nI (L.length + 1) - 1 = nI Q.length; rw [nI_pred, hLQ]) ⟨by simp [hLQ], by simp; omega, fun pd hp => by
              rcases List.mem_append.mp hp with h | h
              · exact hok.2.2 pd h
              · rw [List.mem_singleton.mp h]; exact hkd⟩ hP hD hS dX9_add_81 (by decide) (by decide)
          · have hlt : ¬ L.length < 20 := fun h => c_5 (nI_lt (b := 20) h (by decide))
            have hr9 : r = (-104, Q, t) := by rw [hr9, if_pos (by omega)]
            subst hr9
            refine lv_bipush (v := (-104)) hx hb dX9_add_44 (by decide) ?_
            exact ra_ (w := fun L => wx ca x0 da ht hr L Q t) C hrt hlocks rfl hok hP hD hS dX9_add_46 (by decide) (by decide)
        · have hr9 : r = (-102, Q, t) := by rw [← hr9]; exact if_neg (fun h9 => by rw [bi_eq0 c_4] at h9; simp at h9)
          subst hr9
          refine lv_bipush (v := (-102)) hx hb dX9_add_29 (by decide) ?_
          exact ra_ (w := fun L => wx ca x0 da ht hr L Q t) C hrt hlocks rfl hok hP hD hS dX9_add_31 (by decide) (by decide)
