theorem i_ge0 {x : Int32} (h : 0 ≤ x) : ∃ j : Nat, j < 2 ^ 31 ∧ x = nI j := nI_of (by intro h2; exact absurd h (Int32.not_le.mpr h2))
theorem rem30_in {x : Int32} (h : 0 ≤ x) : vp_in (x - x / 30 * 30) 30 := by
  obtain ⟨j, hj, rfl⟩ := i_ge0 h
  show vp_in (nI j - nI j / nI 30 * nI 30) 30
  rw [pk_rem hj (by decide) (by decide)]
  exact vp_in_nI (Nat.mod_lt _ (by decide)) (by decide)
theorem pred_ge0 {x : Int32} (h : 1 ≤ x) : 0 ≤ x - 1 := by
  rw [fa_le] at h ⊢
  have h1 : (1 : Int32).toInt = 1 := by decide
  have h0 : (0 : Int32).toInt = 0 := by decide
  have hr := fb_rng x
  rw [fb_subI (by omega) (by omega)]
  omega
theorem mk_in {k w : Int32} (hk : vp_in k 4) (hw : vp_in w 5) : vp_in (k * 5 + w) 20 := by
  obtain ⟨a, ha, rfl⟩ := vp_in_of hk (by decide)
  obtain ⟨b, hb, rfl⟩ := vp_in_of hw (by decide)
  show vp_in (nI a * nI 5 + nI b) 20
  rw [pk_mul, nI_add]
  exact vp_in_nI (by omega) (by decide)
theorem vd {i : Int32} {n : Nat} (h : decide (¬ (i < 0 ∨ n ≤ i.toNatClampNeg)) = true) : vp_in i n := by have h2 : ¬ (i < 0 ∨ n ≤ i.toNatClampNeg) := of_decide_eq_true h; exact h2
theorem lt60 {x : Int32} (h : 0 ≤ x) (c : ¬ 60 ≤ x) : vp_in x 60 := by
  rw [fa_le] at h c
  have h0 : (0 : Int32).toInt = 0 := by decide
  have h6 : (60 : Int32).toInt = 60 := by decide
  exact vp_in_iff.mpr ⟨by omega, by omega⟩
theorem suc60 {x : Int32} (h : 0 ≤ x) (c : ¬ 60 ≤ x) : 0 ≤ x + 1 := by
  rw [fa_le] at h c ⊢
  have h0 : (0 : Int32).toInt = 0 := by decide
  have h6 : (60 : Int32).toInt = 60 := by decide
  have h1 : (1 : Int32).toInt = 1 := by decide
  rw [fb_addI (by omega) (by omega)]
  omega
theorem lt_in {i b : Int32} {n : Nat} (h1 : ¬ i < 0) (h2 : ¬ b ≤ i) (h3 : b.toInt ≤ n) : vp_in i n := by
  rw [fa_lt] at h1
  rw [fa_le] at h2
  have h0 : (0 : Int32).toInt = 0 := by decide
  exact vp_in_iff.mpr ⟨by omega, by omega⟩
