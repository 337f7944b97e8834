def ndP (x : XC) (tp : TP) (j : Nat) : Nat := ((tp.1 (2 * j)).toNatClampNeg * x.2.2.2.2.2.2.1.toNatClampNeg + 999) / 1000
def prP (tp : TP) (j : Nat) : Nat := (tp.1 (2 * j + 1)).toNatClampNeg
theorem cl_toInt {y : Int32} (h : 0 ≤ y.toInt) : y = nI y.toNatClampNeg ∧ (y.toNatClampNeg : Int) = y.toInt := by
  obtain ⟨j, hj, rfl⟩ := i_ge0 (x := y) ((fa_le _ _).mpr (by rw [x0]; exact h))
  rw [nI_clamp hj, nI_toInt hj]
  exact ⟨rfl, rfl⟩
theorem leg_val {x : XC} {u : MS} {tp : TP} (hx : RX x u) (ht : RT tp u) {j : Nat} (hj : j ≤ 12) : ((tp.1 (2 * j)) * x.2.2.2.2.2.2.1 + 999) / 1000 = nI (ndP x tp j) ∧ ndP x tp j ≤ 255 ∧ (¬ tp.1 (2 * j) = 0 → 1 ≤ ndP x tp j) := by
  have b1 := ht.2.2.1 (2 * j) (by omega)
  have d13 := hx.2.2.2.2.2.2.2.2.2.2.2.2.2.1
  have d14 := hx.2.2.2.2.2.2.2.2.2.2.2.2.2.2
  obtain ⟨e1, e2⟩ := cl_toInt b1.1
  obtain ⟨e3, e4⟩ := cl_toInt (y := x.2.2.2.2.2.2.1) (by omega)
  unfold ndP
  have m : (tp.1 (2 * j)).toNatClampNeg * x.2.2.2.2.2.2.1.toNatClampNeg ≤ 255 * 1000 := Nat.mul_le_mul (by omega) (by omega)
  refine ⟨?_, by omega, fun q => ?_⟩
  · have : (tp.1 (2 * j)) * x.2.2.2.2.2.2.1 + 999 = nI ((tp.1 (2 * j)).toNatClampNeg * x.2.2.2.2.2.2.1.toNatClampNeg + 999) := by
      rw [← nI_add, ← pk_mul, ← e1, ← e3]
      rfl
    rw [this]
    exact pk_div (d := 1000) (by omega) (by decide) (by decide)
  · have h1 : 1 ≤ (tp.1 (2 * j)).toNatClampNeg := by
      rcases Nat.eq_zero_or_pos (tp.1 (2 * j)).toNatClampNeg with r | r
      · exact absurd (by rw [e1, r]; rfl) q
      · exact r
    have h2 : 1 ≤ x.2.2.2.2.2.2.1.toNatClampNeg := by omega
    have := Nat.mul_le_mul h1 h2
    omega
theorem pr_val {u : MS} {tp : TP} (ht : RT tp u) {j : Nat} (hj : j < 12) : tp.1 (2 * j + 1) = nI (prP tp j) ∧ prP tp j ≤ 255 := by
  have b1 := ht.2.2.1 (2 * j + 1) (by omega)
  obtain ⟨e1, e2⟩ := cl_toInt b1.1
  unfold prP
  exact ⟨e1, by omega⟩
theorem need_val {x : XC} {u : MS} {tp : TP} (hx : RX x u) (ht : RT tp u) {j : Nat} (hj : j ≤ 12) : rX4_need (nI j) u = nI (ndP x tp j) := by
  unfold rX4_need
  rw [two_cl (by omega), ht.1, ← hx.1.2.2.2.2.2.2]
  exact (leg_val hx ht hj).1
/-- the litres: what one has, what the tank takes -/
theorem lit_val {n : Nat} {x : XC} {g k : LG} {u : MS} (hx : RX x u) (hq : LQ n x g k u) : 0 ≤ g.1 / 1000 ∧ 0 ≤ x.1 / 1000 ∧ (g.1 / 1000).toNatClampNeg ≤ (x.1 / 1000).toNatClampNeg ∧ (x.1 / 1000).toNatClampNeg ≤ 120 ∧ pmo u = (x.1 / 1000).toNatClampNeg ∧ pha u = (g.1 / 1000).toNatClampNeg ∧ 0 ≤ u.2.2.2.2.2.1 / 1000 ∧ 0 ≤ (u.2.2.2.1 0).toInt32 / 1000 := by
  have l := hq.2.2.2.2.1
  have b0 := l.1.2.1
  have b1 := l.1.2.2.1
  have d1 := hx.2.1
  have d2 := hx.2.2.1
  have e0 := i32_eq l.1.1.1
  have s1 : (g.1 / 1000).toInt = g.1.toInt / 1000 := by rw [dvI b0 (by decide), x1000]
  have s2 : (x.1 / 1000).toInt = x.1.toInt / 1000 := by rw [dvI (by omega) (by decide), x1000]
  obtain ⟨c1, c2⟩ := cl_toInt (y := g.1 / 1000) (by omega)
  obtain ⟨c3, c4⟩ := cl_toInt (y := x.1 / 1000) (by omega)
  have g1 : 0 ≤ g.1 / 1000 := (fa_le _ _).mpr (by rw [x0, s1]; omega)
  have g2 : 0 ≤ x.1 / 1000 := (fa_le _ _).mpr (by rw [x0, s2]; omega)
  unfold pmo pha
  rw [e0, ← hx.1.1]
  exact ⟨g1, g2, by omega, by omega, rfl, rfl, g2, g1⟩
def xsP (x : XC) (g : LG) (tp : TP) (pl : PL) (i : Nat) : Nat := (bf_l (sX1_reckonBackwards (x.1 / 1000).toNatClampNeg (sX1_read x.2.2.2.2.2.2.1 pl tp)) (nI (g.1 / 1000).toNatClampNeg - (sX1_read x.2.2.2.2.2.2.1 pl tp).1 0) i).toNatClampNeg
def bsP (x : XC) (g : LG) (tp : TP) (pl : PL) (i : Nat) : Nat := (bf_b (sX1_reckonBackwards (x.1 / 1000).toNatClampNeg (sX1_read x.2.2.2.2.2.2.1 pl tp)) (nI (g.1 / 1000).toNatClampNeg - (sX1_read x.2.2.2.2.2.2.1 pl tp).1 0) i).toNatClampNeg
/-- a route that can be read -/
def rt_ok (tp : TP) : Prop := ¬ tp.2 - tp.2 / 2 * 2 = 0 ∧ tp.2 ≤ 25 ∧ nz_b tp.1 tp.2.toNatClampNeg = true
theorem rd_yes {hu : Int32} {pl : PL} {tp : TP} (h : rt_ok tp) : rX1_read hu pl tp = 1 ∧ (sX1_read hu pl tp).1 = fa_fill (rd_leg tp hu) pl.1 (rd_q tp + 1) ∧ (sX1_read hu pl tp).2.1 = fa_fill (rd_pr tp) pl.2.1 (rd_q tp) ∧ (sX1_read hu pl tp).2.2.1 = pl.2.2.1 ∧ (sX1_read hu pl tp).2.2.2.2.1 = pl.2.2.2.2.1 ∧ (sX1_read hu pl tp).2.2.2.2.2.1 = tp.2 / 2 ∧ (sX1_read hu pl tp).2.2.2.2.2.2 = pl.2.2.2.2.2.2 := by
  obtain ⟨h1, h2, h3⟩ := h
  unfold rX1_read sX1_read
  rw [if_neg h1, if_pos h2, if_pos h3, if_neg h1, if_pos h2, if_pos h3]
  exact ⟨rfl, rfl, rfl, rfl, rfl, rfl, rfl⟩
theorem rd_no {hu : Int32} {pl : PL} {tp : TP} (h : ¬ rt_ok tp) : rX1_read hu pl tp = 0 ∧ sX1_read hu pl tp = pl := by
  unfold rX1_read sX1_read
  by_cases h1 : tp.2 - tp.2 / 2 * 2 = 0
  · rw [if_pos h1, if_pos h1]
    exact ⟨rfl, rfl⟩
  rw [if_neg h1, if_neg h1]
  by_cases h2 : tp.2 ≤ 25
  · rw [if_pos h2, if_pos h2]
    by_cases h3 : nz_b tp.1 tp.2.toNatClampNeg = true
    · exact absurd ⟨h1, h2, h3⟩ h
    · rw [if_neg h3, if_neg h3]
      exact ⟨rfl, rfl⟩
  · rw [if_neg h2, if_neg h2]
    exact ⟨rfl, rfl⟩
theorem rt_num {tp : TP} {u : MS} (ht : RT tp u) (h : rt_ok tp) : rd_q tp ≤ 12 ∧ tp.2 / 2 = nI (rd_q tp) ∧ ∀ j, j ≤ rd_q tp → ¬ tp.1 (2 * j) = 0 := by
  obtain ⟨h1, h2, h3⟩ := h
  obtain ⟨e1, e2⟩ := cl_toInt ht.2.2.2.1
  have g0 : 0 ≤ tp.2 := (fa_le _ _).mpr (by rw [x0]; exact ht.2.2.2.1)
  refine ⟨rd_12 g0 h2, rd_ok g0, fun j hj => ?_⟩
  refine (of_decide_eq_true h3) (2 * j) ?_
  have hl := cl_lt tp.2
  have eq : rd_q tp = tp.2.toNatClampNeg / 2 := by
    unfold rd_q
    rw [e1]
    show (nI tp.2.toNatClampNeg / nI 2).toNatClampNeg = (nI tp.2.toNatClampNeg).toNatClampNeg / 2
    rw [pk_div hl (by decide) (by decide), nI_clamp (by omega), nI_clamp hl]
  have od : tp.2.toNatClampNeg % 2 ≠ 0 := fun q => by
    apply h1
    rw [e1]
    show nI tp.2.toNatClampNeg - nI tp.2.toNatClampNeg / nI 2 * nI 2 = 0
    rw [pk_rem hl (by decide) (by decide), q]
    rfl
  omega
/-- the Planner behind a route that is read -/
theorem plan_X {n : Nat} {x : XC} {g k : LG} {tp : TP} {pl : PL} {u : MS} (hx : RX x u) (ht : RT tp u) (hq : LQ n x g k u) (hr : rt_ok tp) : (∀ j, j ≤ rd_q tp → (sX1_read x.2.2.2.2.2.2.1 pl tp).1 j = nI (ndP x tp j)) ∧ BK (rd_q tp) (x.1 / 1000).toNatClampNeg (ndP x tp) (prP tp) (sX1_reckonBackwards (x.1 / 1000).toNatClampNeg (sX1_read x.2.2.2.2.2.2.1 pl tp)) ∧ (sX1_reckonBackwards (x.1 / 1000).toNatClampNeg (sX1_read x.2.2.2.2.2.2.1 pl tp)).2.2.2.2.1 = pl.2.2.2.2.1 ∧ (sX1_reckonBackwards (x.1 / 1000).toNatClampNeg (sX1_read x.2.2.2.2.2.2.1 pl tp)).2.2.2.2.2.1 = nI (rd_q tp) ∧ (sX1_reckonBackwards (x.1 / 1000).toNatClampNeg (sX1_read x.2.2.2.2.2.2.1 pl tp)).2.2.2.2.2.2 = pl.2.2.2.2.2.2 := by
  obtain ⟨r1, r2, r3, r4, r5, r6, r7⟩ := rd_yes (hu := x.2.2.2.2.2.2.1) (pl := pl) hr
  obtain ⟨n1, n2, n3⟩ := rt_num ht hr
  obtain ⟨t1, t2, t3, t4, t5⟩ := lit_val hx hq
  have w1 : ∀ j, j ≤ rd_q tp → (sX1_read x.2.2.2.2.2.2.1 pl tp).1 j = nI (ndP x tp j) := fun j hj => by
    rw [r2, fa_fill_in (by omega)]
    exact (leg_val hx ht (by omega)).1
  have w2 : ∀ j, j < rd_q tp → (sX1_read x.2.2.2.2.2.2.1 pl tp).2.1 j = nI (prP tp j) := fun j hj => by
    rw [r3, fa_fill_in hj]
    exact (pr_val ht (by omega)).1
  have eS : (sX1_read x.2.2.2.2.2.2.1 pl tp).2.2.2.2.2.1.toNatClampNeg = rd_q tp := by rw [r6, n2, nI_clamp (by omega)]
  have eB : sX1_reckonBackwards (x.1 / 1000).toNatClampNeg (sX1_read x.2.2.2.2.2.2.1 pl tp) = rb_run (x.1 / 1000).toNatClampNeg (rd_q tp) (wtg (sX1_read x.2.2.2.2.2.2.1 pl tp) (fa_fill (fun _ => 0) (sX1_read x.2.2.2.2.2.2.1 pl tp).2.2.1 ((x.1 / 1000).toNatClampNeg + 1))) := by
    unfold sX1_reckonBackwards bk_Z
    rw [eS]
  obtain ⟨k1, k2, k3, k4, k5, k6, k7⟩ := rb_ok (S := rd_q tp) (M := (x.1 / 1000).toNatClampNeg) (nd := ndP x tp) (pr := prP tp) n1 t4 (fun i hi => (pr_val ht (by omega)).2) (fun j hj => ⟨(leg_val hx ht (by omega)).2.2 (n3 j hj), Nat.lt_of_le_of_lt (leg_val hx ht (by omega)).2.1 (by decide)⟩) (rd_q tp) (wtg (sX1_read x.2.2.2.2.2.2.1 pl tp) (fa_fill (fun _ => 0) (sX1_read x.2.2.2.2.2.2.1 pl tp).2.2.1 ((x.1 / 1000).toNatClampNeg + 1))) (Nat.le_refl _) w1 w2 (fun y hy => by
    rw [Nat.sub_self]
    show fa_fill (fun _ => 0) (sX1_read x.2.2.2.2.2.2.1 pl tp).2.2.1 ((x.1 / 1000).toNatClampNeg + 1) y = _
    rw [fa_fill_in (by omega)]
    rfl)
  rw [eB]
  refine ⟨w1, ⟨fun j hj => ?_, k5, k6⟩, ?_, ?_, ?_⟩
  · rw [k1]
    exact w1 j hj
  · rw [k2]
    exact r5
  · rw [k3]
    exact r6.trans n2
  · rw [k4]
    exact r7
