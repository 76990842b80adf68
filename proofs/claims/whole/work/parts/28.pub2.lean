theorem tb_out {w : Int32} {n : Nat} (hn : n + 1 < 2 ^ 31) (h : ∀ k : Nat, k ≤ n → w ≠ nI k) : w.toInt < 0 ∨ (n : Int) < w.toInt := by
  rcases pk_ix w hn with h1 | h1 | ⟨j, hj, e⟩
  · exact Or.inl (by simpa using Int32.lt_iff_toInt_lt.mp h1)
  · refine Or.inr ?_
    have := Int32.le_iff_toInt_le.mp h1
    rw [nI_toInt hn] at this
    omega
  · exact absurd e (h j (by omega))
def zN (Q : List Pd) (t : Tr) (w : Int32) : Int32 := if w = 0 then nI Q.length else if w = 1 then nI t.1 else if w = 2 then t.2.2.1 else if w = 3 then t.2.2.2 else -102
def tA (t : Tr) (i : Int32) : Int32 := if i < 0 ∨ nI (min t.1 200) ≤ i then -101 else t.2.1 ((t.1 - 1 - i.toNatClampNeg) % 200)
section PT
variable {D : va_G} {ca : Nat → ClassId} {H H1 : Heap} {A : Nat → Prop} {x0 da ht hr : Nat} {L : List Nat} {Q : List Pd} {t t1 : Tr}
theorem px_tr (hP : va_P D cls (wx ca x0 da ht hr L Q t) H) : va_P D cls (wt ca ht hr t) H := by
  intro k q hk
  match k, hk with
  | 0, hk => cases hk; exact hP 2 _ rfl
  | 1, hk => cases hk; exact hP 3 _ rfl
  | k + 2, hk => cases hk
theorem dx_tr (hD : va_D A (wx ca x0 da ht hr L Q t)) : va_D A (wt ca ht hr t) := by
  refine hD.by (fun k => k + 2) ?_ (fun i j _ _ h => by
    have h : i + 2 = j + 2 := h
    omega)
  intro k q hk
  match k, hk with
  | 0, hk => cases hk; rfl
  | 1, hk => cases hk; rfl
  | k + 2, hk => cases hk
theorem px_trj (hP : va_P D cls (wx ca x0 da ht hr L Q t) H) (hD : va_D A (wx ca x0 da ht hr L Q t)) (hf : ∀ q : Nat, q < H.size → ¬ va_A (wt ca ht hr t) H.size q → H1[q]? = H[q]?) (hB : va_P D cls (wt ca ht hr t1) H1) : va_P D cls (wx ca x0 da ht hr L Q t1) H1 := by
  have keep : ∀ (k : Nat) (q : Nat × va_E), (wx ca x0 da ht hr L Q t)[k]? = some q → k ≠ 2 → k ≠ 3 → va_at D cls q H1 := by
    intro k q hk h2 h3
    have hq := hP k q hk
    refine hq.kept (hf q.1 hq.lt ?_)
    rintro (⟨j, e9, hj⟩ | h)
    · match j, hj with
      | 0, hj =>
        have e1 : ht = q.1 := congrArg Prod.fst (Option.some.inj hj)
        exact h2 (hD.1 k 2 q _ hk rfl e1.symm)
      | 1, hj =>
        have e1 : hr = q.1 := congrArg Prod.fst (Option.some.inj hj)
        exact h3 (hD.1 k 3 q _ hk rfl e1.symm)
      | j + 2, hj => cases hj
    · have := hq.lt
      omega
  intro k q hk
  match k, hk with
  | 0, hk => exact keep 0 q hk (by omega) (by omega)
  | 1, hk => exact keep 1 q hk (by omega) (by omega)
  | 2, hk => cases hk; exact hB 0 _ rfl
  | 3, hk => cases hk; exact hB 1 _ rfl
  | k + 4, hk =>
    rw [Nat.add_comm] at hk
    obtain ⟨b, pe, h1, h2, rfl⟩ := wx_in hk
    exact keep (4 + k) _ (wx_at h1 h2) (by omega) (by omega)
end PT

set_option maxHeartbeats 4000000 in
set_option maxRecDepth 100000 in
theorem M_tell (l : Launch) (D : va_G) (ca : Nat → ClassId) (sa : Nat → Nat) (lo : Nat) (x0 da ht hr : Nat) (L : List Nat) (Q : List Pd) (t : Tr) (hok : okP L Q) (x w : Int32) (sz : Nat) : Met l yX9_tell [.code yX9_tell cX9_tell 4 (some .int)] ({ frames := 1, cells := 0, slots := 0, locals := 30 }) (PX D ca sa lo sz [.ref x0, .int x, .int w] (wx ca x0 da ht hr L Q t)) (QI D (zT Q x w) (wx ca x0 da ht hr L Q t) (va_A (wx ca x0 da ht hr L Q t) sz)) 0 0 (va_A (wx ca x0 da ht hr L Q t) sz) := by
  generalize hr9 : zT Q x w = r
  refine mk_met (fun A => QI D r (wx ca x0 da ht hr L Q t) A) (by decide) (Nat.le_of_ble_eq_true rfl) ?_
  intro p e s m below meth c A ls C hrt hlocks hnm hsz hP hD hS hl
  obtain ⟨hx, hb, hml, hown, hk, hz, hlo, hA, hAl⟩ := id C
  have hK : va_K D cls (tyl ca) s := hk.2.1
  have hl : lv_has ls 4 [(0, .ref x0), (1, .int x), (2, .int w)] := hl
  refine lv_aload_n hx hb dX9_tell_0 rfl (lv_at hl 0 rfl) ?_
  refine lv_iload_n hx hb dX9_tell_1 rfl (lv_at hl 1 rfl) ?_
  refine k_find hok C hP hD hS hl.1 ⟨by decide, by decide⟩ (Nat.le_of_ble_eq_true rfl) dX9_tell_2 ⟨by decide, by decide⟩ (fun hi H locs hP hS => ?_) (fun i a pd hi hj hxj hL hQ hp H locs hP hS => ?_)
  · have hr9 : r = -101 := by rw [← hr9]; simp only [zT, hi]
    subst hr9
    refine lv_astore_nN (lv' := [(3, .null), (0, .ref x0), (1, .int x), (2, .int w)]) hx hb dX9_tell_5 rfl hl (by decide) rfl (fun ls hl => ?_)
    refine lv_aload_nN hx hb dX9_tell_6 rfl (lv_at hl 0 rfl) ?_
    refine lv_ifnonnullN hx hb dX9_tell_7 ?_
    refine lv_bipush (v := (-101)) hx hb dX9_tell_10 (by decide) ?_
    exact ri C hrt hlocks rfl hP hS dX9_tell_12
  · have hr9 : r = tel pd w := by rw [← hr9]; simp only [zT, hi, gQ_of hQ]
    obtain ⟨Cn, hd⟩ := isD_kc hp
    refine lv_astore_n (lv' := [(3, .ref a), (0, .ref x0), (1, .int x), (2, .int w)]) hx hb dX9_tell_5 rfl hl (by decide) rfl (fun ls hl => ?_)
    refine lv_aload_n hx hb dX9_tell_6 rfl (lv_at hl 0 rfl) ?_
    refine lv_ifnonnull (tgt := 13) hx hb dX9_tell_7 (by decide) ?_
    refine lv_iload_n hx hb dX9_tell_13 rfl (lv_at hl 3 rfl) ?_
    by_cases e0 : w = 0
    · subst e0
      refine lv_tableIn (tgt := 60) hx hb dX9_tell_14 (by decide) (by decide) rfl (by decide) ?_
      have hr9 : r = nI pd.1 := by rw [hr9]; unfold tel; rw [if_pos rfl]
      subst hr9
      refine lv_aload_n hx hb dX9_tell_60 rfl (lv_at hl 0 rfl) ?_
      refine va_get (D := D) (C := Cn) (T := TX3) (N := 9) hx hb (hd.2 _ _ hk.1) (fun _ h9 => h9) hown hK hP (4 + i) (wx_at hL hQ) hd.1 1 (by decide) (fl_X9_69 hk.1 _) (fun _ h9 => h9) rfl dX9_tell_61 ?_
      exact ri C hrt hlocks rfl hP hS dX9_tell_64
    · by_cases e1 : w = 1
      · subst e1
        refine lv_tableIn (tgt := 65) hx hb dX9_tell_14 (by decide) (by decide) rfl (by decide) ?_
        have hr9 : r = pd.2.1 := by rw [hr9]; unfold tel; rw [if_neg (by decide), if_pos rfl]
        subst hr9
        refine lv_aload_n hx hb dX9_tell_65 rfl (lv_at hl 0 rfl) ?_
        refine va_get (D := D) (C := Cn) (T := TX3) (N := 9) hx hb (hd.2 _ _ hk.1) (fun _ h9 => h9) hown hK hP (4 + i) (wx_at hL hQ) hd.1 2 (by decide) (fl_X9_72 hk.1 _) (fun _ h9 => h9) rfl dX9_tell_66 ?_
        exact ri C hrt hlocks rfl hP hS dX9_tell_69
      · by_cases e2 : w = 2
        · subst e2
          refine lv_tableIn (tgt := 70) hx hb dX9_tell_14 (by decide) (by decide) rfl (by decide) ?_
          have hr9 : r = pd.2.2.1 := by rw [hr9]; unfold tel; rw [if_neg (by decide), if_neg (by decide), if_pos rfl]
          subst hr9
          refine lv_aload_n hx hb dX9_tell_70 rfl (lv_at hl 0 rfl) ?_
          refine va_get (D := D) (C := Cn) (T := TX3) (N := 9) hx hb (hd.2 _ _ hk.1) (fun _ h9 => h9) hown hK hP (4 + i) (wx_at hL hQ) hd.1 3 (by decide) (fl_X9_75 hk.1 _) (fun _ h9 => h9) rfl dX9_tell_71 ?_
          exact ri C hrt hlocks rfl hP hS dX9_tell_74
        · by_cases e3 : w = 3
          · subst e3
            refine lv_tableIn (tgt := 75) hx hb dX9_tell_14 (by decide) (by decide) rfl (by decide) ?_
            have hr9 : r = pd.2.2.2.1 := by rw [hr9]; unfold tel; rw [if_neg (by decide), if_neg (by decide), if_neg (by decide), if_pos rfl]
            subst hr9
            refine lv_aload_n hx hb dX9_tell_75 rfl (lv_at hl 0 rfl) ?_
            refine va_get (D := D) (C := Cn) (T := TX3) (N := 9) hx hb (hd.2 _ _ hk.1) (fun _ h9 => h9) hown hK hP (4 + i) (wx_at hL hQ) hd.1 4 (by decide) (fl_X9_78 hk.1 _) (fun _ h9 => h9) rfl dX9_tell_76 ?_
            exact ri C hrt hlocks rfl hP hS dX9_tell_79
          · by_cases e4 : w = 4
            · subst e4
              refine lv_tableIn (tgt := 80) hx hb dX9_tell_14 (by decide) (by decide) rfl (by decide) ?_
              have hr9 : r = pd.2.2.2.2.1 := by rw [hr9]; unfold tel; rw [if_neg (by decide), if_neg (by decide), if_neg (by decide), if_neg (by decide), if_pos rfl]
              subst hr9
              refine lv_aload_n hx hb dX9_tell_80 rfl (lv_at hl 0 rfl) ?_
              refine va_get (D := D) (C := Cn) (T := TX3) (N := 9) hx hb (hd.2 _ _ hk.1) (fun _ h9 => h9) hown hK hP (4 + i) (wx_at hL hQ) hd.1 5 (by decide) (fl_X9_51 hk.1 _) (fun _ h9 => h9) rfl dX9_tell_81 ?_
              exact ri C hrt hlocks rfl hP hS dX9_tell_84
            · by_cases e5 : w = 5
              · subst e5
                refine lv_tableIn (tgt := 85) hx hb dX9_tell_14 (by decide) (by decide) rfl (by decide) ?_
                have hr9 : r = pd.2.2.2.2.2.1 := by rw [hr9]; unfold tel; rw [if_neg (by decide), if_neg (by decide), if_neg (by decide), if_neg (by decide), if_neg (by decide), if_pos rfl]
                subst hr9
                refine lv_aload_n hx hb dX9_tell_85 rfl (lv_at hl 0 rfl) ?_
                refine va_get (D := D) (C := Cn) (T := TX3) (N := 9) hx hb (hd.2 _ _ hk.1) (fun _ h9 => h9) hown hK hP (4 + i) (wx_at hL hQ) hd.1 6 (by decide) (fl_X9_81 hk.1 _) (fun _ h9 => h9) rfl dX9_tell_86 ?_
                exact ri C hrt hlocks rfl hP hS dX9_tell_89
              · by_cases e6 : w = 6
                · subst e6
                  refine lv_tableIn (tgt := 90) hx hb dX9_tell_14 (by decide) (by decide) rfl (by decide) ?_
                  have hr9 : r = pd.2.2.2.2.2.2.1 := by rw [hr9]; unfold tel; rw [if_neg (by decide), if_neg (by decide), if_neg (by decide), if_neg (by decide), if_neg (by decide), if_neg (by decide), if_pos rfl]
                  subst hr9
                  refine lv_aload_n hx hb dX9_tell_90 rfl (lv_at hl 0 rfl) ?_
                  refine va_get (D := D) (C := Cn) (T := TX3) (N := 9) hx hb (hd.2 _ _ hk.1) (fun _ h9 => h9) hown hK hP (4 + i) (wx_at hL hQ) hd.1 7 (by decide) (fl_X9_84 hk.1 _) (fun _ h9 => h9) rfl dX9_tell_91 ?_
                  exact ri C hrt hlocks rfl hP hS dX9_tell_94
                · by_cases e7 : w = 7
                  · subst e7
                    refine lv_tableIn (tgt := 95) hx hb dX9_tell_14 (by decide) (by decide) rfl (by decide) ?_
                    have hr9 : r = bi pd.2.2.2.2.2.2.2 := by rw [hr9]; unfold tel; rw [if_neg (by decide), if_neg (by decide), if_neg (by decide), if_neg (by decide), if_neg (by decide), if_neg (by decide), if_neg (by decide), if_pos rfl]
                    subst hr9
                    refine lv_aload_n hx hb dX9_tell_95 rfl (lv_at hl 0 rfl) ?_
                    refine va_get (D := D) (C := Cn) (T := TX3) (N := 9) hx hb (hd.2 _ _ hk.1) (fun _ h9 => h9) hown hK hP (4 + i) (wx_at hL hQ) hd.1 8 (by decide) (fl_X9_87 hk.1 _) (fun _ h9 => h9) rfl dX9_tell_96 ?_
                    refine lv_if_eq (tgt := 106) hx hb dX9_tell_99 (by decide) (fun c_1 => ?_) (fun c_1 => ?_)
                    · refine lv_iconst (v := 0) hx hb dX9_tell_106 (by decide) ?_
                      exact ri C hrt hlocks (by rw [bi_eq0 c_1]; rfl) hP hS dX9_tell_107
                    · refine lv_iconst (v := 1) hx hb dX9_tell_102 (by decide) ?_
                      refine lv_goto (tgt := 107) hx hb dX9_tell_103 (by decide) ?_
                      exact ri C hrt hlocks (by rw [bi_ne0 c_1]; rfl) hP hS dX9_tell_107
                  · refine lv_tableOut (tgt := 108) hx hb dX9_tell_14 (tb_out (n := 7) (by decide) (fun k hk => ?_)) (by decide) ?_
                    · rcases (by omega : k = 0 ∨ k = 1 ∨ k = 2 ∨ k = 3 ∨ k = 4 ∨ k = 5 ∨ k = 6 ∨ k = 7) with rfl | rfl | rfl | rfl | rfl | rfl | rfl | rfl
                      · exact e0
                      · exact e1
                      · exact e2
                      · exact e3
                      · exact e4
                      · exact e5
                      · exact e6
                      · exact e7
                    · have hr9 : r = -102 := by rw [hr9]; unfold tel; rw [if_neg e0, if_neg e1, if_neg e2, if_neg e3, if_neg e4, if_neg e5, if_neg e6, if_neg e7]
                      subst hr9
                      refine lv_bipush (v := (-102)) hx hb dX9_tell_108 (by decide) ?_
                      exact ri C hrt hlocks rfl hP hS dX9_tell_110

set_option maxHeartbeats 4000000 in
set_option maxRecDepth 100000 in
theorem M_count (l : Launch) (D : va_G) (ca : Nat → ClassId) (sa : Nat → Nat) (lo : Nat) (x0 da ht hr : Nat) (L : List Nat) (Q : List Pd) (t : Tr) (hok : okP L Q) (w : Int32) (sz : Nat) : Met l yX9_count [.code yX9_count cX9_count 2 (some .int)] ({ frames := 0, cells := 0, slots := 0, locals := 0 }) (PX D ca sa lo sz [.ref x0, .int w] (wx ca x0 da ht hr L Q t)) (QI D (zN Q t w) (wx ca x0 da ht hr L Q t) (va_A (wx ca x0 da ht hr L Q t) sz)) 0 0 (va_A (wx ca x0 da ht hr L Q t) sz) := by
  generalize hr9 : zN Q t w = r
  refine mk_met (fun A => QI D r (wx ca x0 da ht hr L Q t) A) (by decide) (Nat.le_of_ble_eq_true rfl) ?_
  intro p e s m below meth c A ls C hrt hlocks hnm hsz hP hD hS hl
  obtain ⟨hx, hb, hml, hown, hk, hz, hlo, hA, hAl⟩ := id C
  have hK : va_K D cls (tyl ca) s := hk.2.1
  have hl : lv_has ls 2 [(0, .ref x0), (1, .int w)] := hl
  refine lv_iload_n hx hb dX9_count_0 rfl (lv_at hl 1 rfl) ?_
  by_cases e0 : w = 0
  · subst e0
    refine lv_tableIn (tgt := 32) hx hb dX9_count_1 (by decide) (by decide) rfl (by decide) ?_
    have hr9 : r = nI L.length := by rw [← hr9]; unfold zN; rw [if_pos rfl]; rw [hok.1]
    subst hr9
    refine lv_aload_n hx hb dX9_count_32 rfl (lv_at hl 0 rfl) ?_
    refine va_get (D := D) (C := RX9) (T := TX9) (N := 3) hx hb (uc_9 hk.1 _) (fun _ h9 => h9) hown hK hP 0 rfl rfl 2 (by decide) (fl_X9_22 hk.1 _) (fun _ h9 => h9) rfl dX9_count_33 ?_
    exact ri C hrt hlocks rfl hP hS dX9_count_36
  · by_cases e1 : w = 1
    · subst e1
      refine lv_tableIn (tgt := 37) hx hb dX9_count_1 (by decide) (by decide) rfl (by decide) ?_
      have hr9 : r = nI t.1 := by rw [← hr9]; unfold zN; rw [if_neg (by decide), if_pos rfl]
      subst hr9
      refine lv_aload_n hx hb dX9_count_37 rfl (lv_at hl 0 rfl) ?_
      refine va_get (D := D) (C := RX9) (T := TX9) (N := 3) hx hb (uc_9 hk.1 _) (fun _ h9 => h9) hown hK hP 0 rfl rfl 1 (by decide) (fl_X9_18 hk.1 _) (fun _ h9 => h9) rfl dX9_count_38 ?_
      refine va_get (D := D) (C := RX6) (T := TX6) (N := 6) hx hb (uc_6 hk.1 _) (fun _ h9 => h9) hown hK hP 2 rfl rfl 3 (by decide) (fl_X9_105 hk.1 _) (fun _ h9 => h9) rfl dX9_count_41 ?_
      exact ri C hrt hlocks rfl hP hS dX9_count_44
    · by_cases e2 : w = 2
      · subst e2
        refine lv_tableIn (tgt := 45) hx hb dX9_count_1 (by decide) (by decide) rfl (by decide) ?_
        have hr9 : r = t.2.2.1 := by rw [← hr9]; unfold zN; rw [if_neg (by decide), if_neg (by decide), if_pos rfl]
        subst hr9
        refine lv_aload_n hx hb dX9_count_45 rfl (lv_at hl 0 rfl) ?_
        refine va_get (D := D) (C := RX9) (T := TX9) (N := 3) hx hb (uc_9 hk.1 _) (fun _ h9 => h9) hown hK hP 0 rfl rfl 1 (by decide) (fl_X9_18 hk.1 _) (fun _ h9 => h9) rfl dX9_count_46 ?_
        refine va_get (D := D) (C := RX6) (T := TX6) (N := 6) hx hb (uc_6 hk.1 _) (fun _ h9 => h9) hown hK hP 2 rfl rfl 4 (by decide) (fl_X9_108 hk.1 _) (fun _ h9 => h9) rfl dX9_count_49 ?_
        exact ri C hrt hlocks rfl hP hS dX9_count_52
      · by_cases e3 : w = 3
        · subst e3
          refine lv_tableIn (tgt := 53) hx hb dX9_count_1 (by decide) (by decide) rfl (by decide) ?_
          have hr9 : r = t.2.2.2 := by rw [← hr9]; unfold zN; rw [if_neg (by decide), if_neg (by decide), if_neg (by decide), if_pos rfl]
          subst hr9
          refine lv_aload_n hx hb dX9_count_53 rfl (lv_at hl 0 rfl) ?_
          refine va_get (D := D) (C := RX9) (T := TX9) (N := 3) hx hb (uc_9 hk.1 _) (fun _ h9 => h9) hown hK hP 0 rfl rfl 1 (by decide) (fl_X9_18 hk.1 _) (fun _ h9 => h9) rfl dX9_count_54 ?_
          refine va_get (D := D) (C := RX6) (T := TX6) (N := 6) hx hb (uc_6 hk.1 _) (fun _ h9 => h9) hown hK hP 2 rfl rfl 5 (by decide) (fl_X9_111 hk.1 _) (fun _ h9 => h9) rfl dX9_count_57 ?_
          exact ri C hrt hlocks rfl hP hS dX9_count_60
        · refine lv_tableOut (tgt := 61) hx hb dX9_count_1 (tb_out (n := 3) (by decide) (fun k hk => ?_)) (by decide) ?_
          · rcases (by omega : k = 0 ∨ k = 1 ∨ k = 2 ∨ k = 3) with rfl | rfl | rfl | rfl
            · exact e0
            · exact e1
            · exact e2
            · exact e3
          · have hr9 : r = -102 := by rw [← hr9]; unfold zN; rw [if_neg e0, if_neg e1, if_neg e2, if_neg e3]
            subst hr9
            refine lv_bipush (v := (-102)) hx hb dX9_count_61 (by decide) ?_
            exact ri C hrt hlocks rfl hP hS dX9_count_63
