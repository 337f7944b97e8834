/-! numbers of ints and longs as integers -/
theorem n_lit (n : Nat) (h : n < 2147483648) : (OfNat.ofNat n : Int32).toInt = n := nI_toInt (n := n) (by omega)
theorem n_litL (n : Nat) (h : n < 9223372036854775808) : (OfNat.ofNat n : Int64).toInt = n := pk_lT (n := n) (by omega)
theorem x0 : (0 : Int32).toInt = 0 := by decide
theorem x1 : (1 : Int32).toInt = 1 := by decide
theorem x2 : (2 : Int32).toInt = 2 := by decide
theorem x3 : (3 : Int32).toInt = 3 := by decide
theorem x4 : (4 : Int32).toInt = 4 := by decide
theorem x5 : (5 : Int32).toInt = 5 := by decide
theorem x30 : (30 : Int32).toInt = 30 := by decide
theorem x60 : (60 : Int32).toInt = 60 := by decide
theorem x100 : (100 : Int32).toInt = 100 := by decide
theorem x200 : (200 : Int32).toInt = 200 := by decide
theorem x255 : (255 : Int32).toInt = 255 := by decide
theorem x1000 : (1000 : Int32).toInt = 1000 := by decide
theorem x2000 : (2000 : Int32).toInt = 2000 := by decide
theorem x3600 : (3600 : Int32).toInt = 3600 := by decide
theorem x10000 : (10000 : Int32).toInt = 10000 := by decide
theorem x36000 : (36000 : Int32).toInt = 36000 := by decide
theorem x100000 : (100000 : Int32).toInt = 100000 := by decide
theorem x120000 : (120000 : Int32).toInt = 120000 := by decide
theorem y0 : (0 : Int64).toInt = 0 := by decide
theorem y1 : (1 : Int64).toInt = 1 := by decide
theorem y30 : (30 : Int64).toInt = 30 := by decide
theorem y100 : (100 : Int64).toInt = 100 := by decide
theorem y255 : (255 : Int64).toInt = 255 := by decide
theorem y2000 : (2000 : Int64).toInt = 2000 := by decide
theorem y100000 : (100000 : Int64).toInt = 100000 := by decide
theorem y100000000 : (100000000 : Int64).toInt = 100000000 := by decide
theorem w64 (x : Int32) : x.toInt64.toInt = x.toInt := Int32.toInt_toInt64 x
theorem w32 {x : Int64} (h1 : -2147483648 ≤ x.toInt) (h2 : x.toInt < 2147483648) : x.toInt32.toInt = x.toInt := by
  have h : x.toInt32.toInt = x.toInt.bmod (2 ^ 32) := by
    first | exact Int64.toInt_toInt32 x | simp
  rw [h, fb_bmod h1 h2]
theorem dvI {x y : Int32} (hx : 0 ≤ x.toInt) (hy : 0 < y.toInt) : (x / y).toInt = x.toInt / y.toInt := by
  obtain ⟨a, ha, rfl⟩ := i_ge0 (x := x) ((fa_le _ _).mpr (by rw [x0]; exact hx))
  obtain ⟨b, hb, rfl⟩ := i_ge0 (x := y) ((fa_le _ _).mpr (by rw [x0]; omega))
  rw [nI_toInt hb] at hy ⊢
  rw [nI_toInt ha]
  have h2 : 0 < b := by omega
  rw [pk_div ha h2 hb, nI_toInt (Nat.lt_of_le_of_lt (Nat.div_le_self a b) ha)]
  exact (Int.natCast_ediv a b)
theorem dvL {x y : Int64} (hx : 0 ≤ x.toInt) (hy : 0 < y.toInt) : (x / y).toInt = x.toInt / y.toInt := by
  obtain ⟨a, ha, rfl⟩ := pk_lOf (x := x) (fun h => by rw [fa_lt64, y0] at h; omega)
  obtain ⟨b, hb, rfl⟩ := pk_lOf (x := y) (fun h => by rw [fa_lt64, y0] at h; omega)
  rw [pk_lT hb] at hy ⊢
  rw [pk_lT ha]
  have h2 : 0 < b := by omega
  rw [pk_lDiv ha h2 hb, pk_lT (Nat.lt_of_le_of_lt (Nat.div_le_self a b) ha)]
  exact (Int.natCast_ediv a b)
/-- a number below 0, divided: not above 0 -/
theorem dvN {x : Int32} (hx : x.toInt < 0) : (x / 255).toInt ≤ 0 := by
  have h : (x / 255).toInt = (x.toInt.tdiv 255).bmod (2 ^ 32) := by
    have := Int32.toInt_div x 255
    rw [x255] at this
    exact this
  have h2 : x.toInt.tdiv 255 = -((-x.toInt).tdiv 255) := by rw [Int.neg_tdiv, Int.neg_neg]
  have h3 : (-x.toInt).tdiv 255 = (-x.toInt) / 255 := Int.tdiv_eq_ediv_of_nonneg (by omega)
  have hr := fb_rng x
  rw [h, h2, h3, fb_bmod (by omega) (by omega)]
  omega
theorem ltI {a b : Int32} (h : a < b) : a.toInt < b.toInt := (fa_lt _ _).mp h
theorem nltI {a b : Int32} (h : ¬ a < b) : b.toInt ≤ a.toInt := by rw [fa_lt] at h; omega
theorem leI {a b : Int32} (h : a ≤ b) : a.toInt ≤ b.toInt := (fa_le _ _).mp h
theorem nleI {a b : Int32} (h : ¬ a ≤ b) : b.toInt < a.toInt := by rw [fa_le] at h; omega
theorem eqI {a b : Int32} (h : a = b) : a.toInt = b.toInt := by rw [h]
theorem neI {a b : Int32} (h : ¬ a = b) : a.toInt ≠ b.toInt := fun e => h ((fa_eq _ _).mpr e)
theorem cleI {a b : Int64} : lg_cmp a b ≤ 0 ↔ a.toInt ≤ b.toInt := (lg_cmp_le a b).trans (fa_le64 a b)
theorem cgeI {a b : Int64} : 0 ≤ lg_cmp a b ↔ b.toInt ≤ a.toInt := (lg_cmp_ge a b).trans (fa_le64 b a)
theorem ceqI {a b : Int64} : lg_cmp a b = 0 ↔ a.toInt = b.toInt := (lg_cmp_eq a b).trans (fa_eq64 a b)
theorem cgtI {a b : Int64} : 0 < lg_cmp a b ↔ b.toInt < a.toInt := (lg_cmp_gt a b).trans (fa_lt64 b a)
theorem cltI {a b : Int64} : lg_cmp a b < 0 ↔ a.toInt < b.toInt := (lg_cmp_lt a b).trans (fa_lt64 a b)
theorem mulb {x y : Int} {a b : Nat} (h0 : 0 ≤ x) (h1 : x ≤ a) (h2 : 0 ≤ y) (h3 : y ≤ b) : 0 ≤ x * y ∧ x * y ≤ (a * b : Nat) := by
  refine ⟨Int.mul_nonneg h0 h2, ?_⟩
  have := Int.mul_le_mul h1 h3 h2 (by omega)
  rw [Int.natCast_mul]
  exact this
/-- a product of ints, as longs: no overflow where it fits an int -/
theorem mul64 {x y : Int32} {a b : Nat} (h0 : 0 ≤ x.toInt) (h1 : x.toInt ≤ a) (h2 : 0 ≤ y.toInt) (h3 : y.toInt ≤ b) (hab : a * b < 2147483648) : (x * y).toInt = x.toInt * y.toInt ∧ (x.toInt64 * y.toInt64).toInt = x.toInt * y.toInt ∧ 0 ≤ x.toInt * y.toInt ∧ x.toInt * y.toInt ≤ (a * b : Nat) := by
  have hm := mulb h0 h1 h2 h3
  refine ⟨fb_mulI (by omega) (by omega), ?_, hm.1, hm.2⟩
  rw [fb_mulL (by rw [w64, w64]; omega) (by rw [w64, w64]; omega), w64, w64]
