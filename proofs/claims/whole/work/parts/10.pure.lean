/-! the picture: a trace (how many rules were begun, the ring by its places, how often flat, how often by 0), a detector's own numbers (charge, level, count, drift, latched), what each rule does to them -/
abbrev Tr : Type := Nat × (Nat → Int32) × Int32 × Int32
abbrev Dv : Type := Int32 × Int32 × Int32 × Int32 × Bool
def bi (b : Bool) : Int32 := if b then 1 else 0
def nx (n : Nat) : Nat := if n = 0 then 0 else (n - 1) % 200 + 1
def tb (a k : Int32) (t : Tr) : Tr := (t.1 + 1, upd t.2.1 (t.1 % 200) (10 * a + k), t.2.2.1, t.2.2.2)
def tfl (t : Tr) : Tr := (t.1, t.2.1, t.2.2.1 + 1, t.2.2.2)
def tar (t : Tr) : Tr := (t.1, t.2.1, t.2.2.1, t.2.2.2 + 1)
abbrev Rs : Type := Nat × Int32 × Dv × Tr
abbrev Rr : Type := Nat × Dv × Tr
def pwP (v : Int32) (d : Dv) (t : Tr) : Rs := (0, v, d, tb 0 0 t)
def pwR (v : Int32) (d : Dv) (t : Tr) : Rs := if d.1 = 0 then (1, 0, d, tfl (tb 0 2 t)) else pwP v (d.1 - 1, d.2) (tb 0 2 t)
def pwS (v : Int32) (d : Dv) (t : Tr) : Rs := (0, v - d.2.2.2.1, d, tb 0 0 (tb 0 3 t))
def pwBe (r : Rs) : Rs := if r.1 = 0 then (if r.2.1 = 0 then (2, 0, r.2.2.1, tar r.2.2.2) else (0, 1000 / r.2.1, r.2.2.1, r.2.2.2)) else r
def pwB (v : Int32) (d : Dv) (t : Tr) : Rs := pwBe (pwR v d (tb 0 5 t))
def pw (kd : Nat) (v : Int32) (d : Dv) (t : Tr) : Rs := if kd = 5 then pwB v d t else if kd = 2 ∨ kd = 4 then pwR v d t else if kd = 3 ∨ kd = 7 then pwS v d t else pwP v d t
def prPe (r : Rs) : Rr := if r.1 = 0 then (0, (r.2.2.1.1, (3 * r.2.2.1.2.1 + r.2.1) / 4, r.2.2.1.2.2.1 + 1, r.2.2.1.2.2.2), r.2.2.2) else (r.1, r.2.2.1, r.2.2.2)
def prP (kd : Nat) (v : Int32) (d : Dv) (t : Tr) : Rr := prPe (pw kd v d (tb 1 0 t))
def adj (d : Dv) : Dv := (d.1, d.2.1, d.2.2.1, (if d.2.2.2.1 < d.2.1 then d.2.2.2.1 + 1 else if d.2.1 < d.2.2.2.1 then d.2.2.2.1 - 1 else d.2.2.2.1), d.2.2.2.2)
def prSe (r : Rr) : Rr := if r.1 = 0 then (0, adj r.2.1, r.2.2) else r
def prS (kd : Nat) (v : Int32) (d : Dv) (t : Tr) : Rr := prSe (prP kd v d (tb 1 3 t))
def prHe (v : Int32) (r : Rr) : Rr := if r.1 = 0 then (if r.2.1.2.1 < v then prP 4 v r.2.1 r.2.2 else r) else r
def prH (v : Int32) (d : Dv) (t : Tr) : Rr := prHe v (prP 4 v d (tb 1 4 t))
def prTe (v : Int32) (r : Rr) : Rr := if r.1 = 0 then prS 7 (-v) r.2.1 r.2.2 else r
def prT (v : Int32) (d : Dv) (t : Tr) : Rr := prTe v (prS 7 v d (tb 1 7 t))
def pr (kd : Nat) (v : Int32) (d : Dv) (t : Tr) : Rr := if kd = 3 then prS 3 v d t else if kd = 4 then prH v d t else if kd = 7 then prT v d t else prP kd v d t
abbrev Ro : Type := Bool × Dv × Tr
def poP (lm : Int32) (d : Dv) (t : Tr) : Ro := (decide (lm ≤ d.2.1), d, tb 2 0 t)
def poH (lm : Int32) (d : Dv) (t : Tr) : Ro := (decide (lm ≤ d.2.1) && decide (3 ≤ d.2.2.1), d, tb 2 0 (tb 2 4 t))
def poF (lm : Int32) (d : Dv) (t : Tr) : Ro := if d.2.2.2.2 = true then (true, d, tb 2 6 t) else (decide (lm ≤ d.2.1), (d.1, d.2.1, d.2.2.1, d.2.2.2.1, decide (lm ≤ d.2.1)), tb 2 0 (tb 2 6 t))
def po (kd : Nat) (lm : Int32) (d : Dv) (t : Tr) : Ro := if kd = 4 then poH lm d t else if kd = 6 then poF lm d t else poP lm d t
def pcP (d : Dv) (t : Tr) : Dv × Tr := ((d.1, 0, 0, d.2.2.2.1, d.2.2.2.2), tb 3 0 t)
def pcB (d : Dv) (t : Tr) : Dv × Tr := ((d.1 + 1, 0, 0, d.2.2.2.1, d.2.2.2.2), tb 3 0 (tb 3 5 t))
def pcF (d : Dv) (t : Tr) : Dv × Tr := ((d.1, 0, 0, d.2.2.2.1, false), tb 3 0 (tb 3 6 t))
def pcT (d : Dv) (t : Tr) : Dv × Tr := ((d.1, 0, 0, 0, d.2.2.2.2), tb 3 0 (tb 3 7 t))
def pcl (kd : Nat) (d : Dv) (t : Tr) : Dv × Tr := if kd = 5 then pcB d t else if kd = 6 then pcF d t else if kd = 7 then pcT d t else pcP d t
def sz32 (x : Int32) : Int32 := if 0 ≤ x then x else 0 - x
def pkP (d : Dv) (t : Tr) : Int32 × Tr := (10 + d.2.2.1, tb 4 0 t)
def pkR (d : Dv) (t : Tr) : Int32 × Tr := (2 * (10 + d.2.2.1), tb 4 0 (tb 4 2 t))
def pkF (d : Dv) (t : Tr) : Int32 × Tr := (5 + (10 + d.2.2.1), tb 4 0 (tb 4 6 t))
def pkT (d : Dv) (t : Tr) : Int32 × Tr := ((10 + d.2.2.1) * (1 + sz32 d.2.2.2.1), tb 4 0 (tb 4 7 t))
def pk (kd : Nat) (d : Dv) (t : Tr) : Int32 × Tr := if kd = 2 ∨ kd = 4 ∨ kd = 5 then pkR d t else if kd = 6 then pkF d t else if kd = 7 then pkT d t else pkP d t
def vn (kd : Nat) : Int32 := if kd = 0 then 3 else if kd = 7 then 2 else 1
def pv (kd : Nat) (lm : Int32) (d : Dv) (t : Tr) : Int32 × Dv × Tr := ((if (po kd lm d t).1 = true then vn kd else 0), (po kd lm d t).2.1, (po kd lm d t).2.2)
/-- which place of cls a kind has -/
def kc (kd : Nat) : Nat := if kd = 0 then 3 else if kd = 1 then 8 else if kd = 2 then 4 else if kd = 3 then 5 else if kd = 4 then 2 else if kd = 5 then 0 else if kd = 6 then 1 else 7
/-- the cells of a trace, of a detector -/
def wt (ca : Nat → ClassId) (ht hr : Nat) (t : Tr) : va_W := [(ht, .inr (6, [.ref hr, .int (nI (nx t.1)), .int (nI (min t.1 200)), .int (nI t.1), .int t.2.2.1, .int t.2.2.2])), (hr, .inl (ca 0, 200, .inl t.2.1))]
def df (ht : Nat) (kd zn lm : Int32) (d : Dv) : List Value := [.ref ht, .int kd, .int zn, .int lm, .int d.1, .int d.2.1, .int d.2.2.1, .int d.2.2.2.1, .int (bi d.2.2.2.2)]
def wd (ca : Nat → ClassId) (h0 ht hr ci : Nat) (kd zn lm : Int32) (d : Dv) (t : Tr) : va_W := (h0, .inr (ci, df ht kd zn lm d)) :: wt ca ht hr t
/-! how many rules a method may begin -/
theorem tb_n (a k : Int32) (t : Tr) : (tb a k t).1 = t.1 + 1 := rfl
theorem pwP_n (v : Int32) (d : Dv) (t : Tr) : (pwP v d t).2.2.2.1 ≤ t.1 + 1 := Nat.le_refl _
theorem pwR_n (v : Int32) (d : Dv) (t : Tr) : (pwR v d t).2.2.2.1 ≤ t.1 + 2 := by
  unfold pwR; split <;> simp [tfl, tb, pwP]
theorem pwS_n (v : Int32) (d : Dv) (t : Tr) : (pwS v d t).2.2.2.1 ≤ t.1 + 2 := by simp [pwS, tb]
theorem pwBe_n (r : Rs) : (pwBe r).2.2.2.1 = r.2.2.2.1 := by
  unfold pwBe; split
  · split <;> rfl
  · rfl
theorem pwB_n (v : Int32) (d : Dv) (t : Tr) : (pwB v d t).2.2.2.1 ≤ t.1 + 3 := by
  unfold pwB; rw [pwBe_n]
  have := pwR_n v d (tb 0 5 t); rw [tb_n] at this; omega
theorem pw_n (kd : Nat) (v : Int32) (d : Dv) (t : Tr) : (pw kd v d t).2.2.2.1 ≤ t.1 + 3 := by
  have h1 := pwB_n v d t; have h2 := pwR_n v d t; have h3 := pwS_n v d t; have h4 := pwP_n v d t
  unfold pw; split
  · exact h1
  · split
    · omega
    · split
      · omega
      · omega
theorem prPe_n (r : Rs) : (prPe r).2.2.1 = r.2.2.2.1 := by unfold prPe; split <;> rfl
theorem prP_n (kd : Nat) (v : Int32) (d : Dv) (t : Tr) : (prP kd v d t).2.2.1 ≤ t.1 + 4 := by
  unfold prP; rw [prPe_n]
  have := pw_n kd v d (tb 1 0 t); rw [tb_n] at this; omega
theorem prS_n (kd : Nat) (v : Int32) (d : Dv) (t : Tr) : (prS kd v d t).2.2.1 ≤ t.1 + 5 := by
  have h := prP_n kd v d (tb 1 3 t); rw [tb_n] at h
  unfold prS prSe; split
  · show (prP kd v d (tb 1 3 t)).2.2.1 ≤ _; omega
  · omega
theorem prH_n (v : Int32) (d : Dv) (t : Tr) : (prH v d t).2.2.1 ≤ t.1 + 9 := by
  have h := prP_n 4 v d (tb 1 4 t); rw [tb_n] at h
  unfold prH prHe; split
  · split
    · have h2 := prP_n 4 v (prP 4 v d (tb 1 4 t)).2.1 (prP 4 v d (tb 1 4 t)).2.2; omega
    · omega
  · omega
theorem prT_n (v : Int32) (d : Dv) (t : Tr) : (prT v d t).2.2.1 ≤ t.1 + 11 := by
  have h := prS_n 7 v d (tb 1 7 t); rw [tb_n] at h
  unfold prT prTe; split
  · have h2 := prS_n 7 (-v) (prS 7 v d (tb 1 7 t)).2.1 (prS 7 v d (tb 1 7 t)).2.2; omega
  · omega
theorem pr_n (kd : Nat) (v : Int32) (d : Dv) (t : Tr) : (pr kd v d t).2.2.1 ≤ t.1 + 11 := by
  have h1 := prS_n 3 v d t; have h2 := prH_n v d t; have h3 := prT_n v d t; have h4 := prP_n kd v d t
  unfold pr; split
  · omega
  · split
    · omega
    · split
      · omega
      · omega
theorem po_n (kd : Nat) (lm : Int32) (d : Dv) (t : Tr) : (po kd lm d t).2.2.1 ≤ t.1 + 2 := by
  unfold po poH poF poP; split
  · simp [tb]
  · split
    · split <;> simp [tb]
    · simp [tb]
theorem pcl_n (kd : Nat) (d : Dv) (t : Tr) : (pcl kd d t).2.1 ≤ t.1 + 2 := by
  unfold pcl pcB pcF pcT pcP; split
  · simp [tb]
  · split
    · simp [tb]
    · split <;> simp [tb]
theorem pk_n (kd : Nat) (d : Dv) (t : Tr) : (pk kd d t).2.1 ≤ t.1 + 2 := by
  unfold pk pkR pkF pkT pkP; split
  · simp [tb]
  · split
    · simp [tb]
    · split <;> simp [tb]
