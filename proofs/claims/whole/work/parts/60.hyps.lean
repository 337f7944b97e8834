theorem hy_tp {n : Nat} {x : XC} {g k : LG} {tp : TP} {pl : PL} {v : MS} (h : RR n x g k tp pl v) : 0 ≤ tp.2 := (fa_le _ _).mpr (by rw [x0]; exact h.2.1.2.2.2.1)
theorem hy_tn {n : Nat} {x : XC} {g k : LG} {tp : TP} {pl : PL} {v : MS} (h : RR n x g k tp pl v) : v.2.2.1 = nI tp.2.toNatClampNeg ∧ tp.2.toNatClampNeg ≤ 60 := by
  obtain ⟨e1, e2⟩ := cl_toInt h.2.1.2.2.2.1
  have := h.2.1.2.2.2.2
  exact ⟨h.2.1.2.1.trans e1, by omega⟩
theorem hy_rf {n : Nat} {x : XC} {g k : LG} {tp : TP} {pl : PL} {v : MS} (h : RR n x g k tp pl v) : 0 ≤ g.2.2.1 := (fa_le _ _).mpr (by rw [x0]; exact (h.2.2.2 0).2.2.2.2.1.1.2.2.2.2.2.1)
theorem hy_tl {n : Nat} {x : XC} {g k : LG} {tp : TP} {pl : PL} {v : MS} (h : RR n x g k tp pl v) : (∀ u : MS, u = sX4_begin (0, v.2) → 0 ≤ u.2.2.2.1 22) ∧ (∀ u : MS, u = sX4_begin (0, v.2) → u.2.2.2.1 27 = 1 → 0 ≤ u.2.2.2.1 22 - 1) := by
  have l := (h.2.2.2 0).2.2.2.2.1
  have e22 := l.1.1.2.2.1
  have b4 := l.1.2.2.2.2.2.1
  refine ⟨fun u e => ?_, fun u e hz => ?_⟩
  · rw [e]
    exact (fa_le64 _ _).mpr (by rw [y0]; omega)
  · rw [e] at hz ⊢
    have e27 := l.1.1.2.2.2.2.2.2.2
    rw [hz, y1] at e27
    have c1 := (l.2.2.1 e27.symm).1
    have b5 := l.1.2.2.2.2.2.2.1
    have rr := fb_rng g.2.2.1
    exact (fa_le64 _ _).mpr (by rw [y0, fb_subL (by rw [y1]; omega) (by rw [y1]; omega), y1]; omega)
theorem hy_b {y : Int32} (h0 : 0 ≤ y.toInt) (h1 : y.toInt ≤ 1) : narrow .boolean (.int y) = .int y ∧ fits .boolean (.int y) = true := by
  have : y = 0 ∨ y = 1 := by
    rcases (show y.toInt = 0 ∨ y.toInt = 1 by omega) with q | q
    · exact Or.inl ((fa_eq _ _).mpr (by rw [x0]; exact q))
    · exact Or.inr ((fa_eq _ _).mpr (by rw [x1]; exact q))
  rcases this with rfl | rfl
  · exact ⟨rfl, rfl⟩
  · exact ⟨rfl, rfl⟩
theorem hy_zg {n : Nat} {x : XC} {g k : LG} {tp : TP} {pl : PL} {v : MS} (h : RR n x g k tp pl v) : narrow .boolean (.int g.2.2.2.2.2.2.2.1) = .int g.2.2.2.2.2.2.2.1 ∧ fits .boolean (.int g.2.2.2.2.2.2.2.1) = true := hy_b (h.2.2.2 0).2.2.2.2.1.1.2.2.2.2.2.2.2.2.2.2.2.2.2.2.2.1 (h.2.2.2 0).2.2.2.2.1.1.2.2.2.2.2.2.2.2.2.2.2.2.2.2.2.2
theorem hy_zk {n : Nat} {x : XC} {g k : LG} {tp : TP} {pl : PL} {v : MS} (h : RR n x g k tp pl v) : narrow .boolean (.int k.2.2.2.2.2.2.2.1) = .int k.2.2.2.2.2.2.2.1 ∧ fits .boolean (.int k.2.2.2.2.2.2.2.1) = true := hy_b (h.2.2.2 0).2.2.2.2.2.1.2.2.2.2.2.2.2.2.2.2.2.2.2.2.2.1 (h.2.2.2 0).2.2.2.2.2.1.2.2.2.2.2.2.2.2.2.2.2.2.2.2.2.2
theorem hy_lh {n : Nat} {x : XC} {g k : LG} {tp : TP} {pl : PL} {v : MS} (h : RR n x g k tp pl v) : (¬ x.2.2.2.2.2.1 = 0 ∧ ¬ x.2.2.2.2.2.2.1 = 0) ∧ (∀ u : MS, u = sX4_begin (0, v.2) → ¬ u.2.2.2.2.2.2.2.2.2.2.1.toInt64 = 0) ∧ (∀ u : MS, u = sX4_begin (0, v.2) → ¬ u.2.2.2.2.2.2.2.2.2.2.2.1.toInt64 = 0) := by
  have hb := (RR_bg h 0).1
  obtain ⟨⟨f1, f2, f3, f4, f5, f6, f7⟩, d1, d2, d3, d4, d5, d6, d7, d8, d9, d10, d11, d12, d13, d14⟩ := hb
  refine ⟨⟨fun q => ?_, fun q => ?_⟩, fun u e q => ?_, fun u e q => ?_⟩
  · rw [q, x0] at d11; omega
  · rw [q, x0] at d13; omega
  · rw [e, ← f6, fa_eq64, w64, y0] at q; omega
  · rw [e, ← f7, fa_eq64, w64, y0] at q; omega
theorem hy_pn {n : Nat} {x : XC} {g k : LG} {tp : TP} {pl : PL} {v : MS} (h : RR n x g k tp pl v) : pl.2.2.2.2.2.2.toInt ≤ 12 ∧ v.2.2.2.2.2.2.2.2.2.2.2.2.2.2.2.2.toInt ≤ 12 := ⟨h.2.2.1.2.2.1, by rw [← h.2.2.1.1]; exact h.2.2.1.2.2.1⟩
theorem RR_0 : RR 0 zX (sX0_begin 50000 zL) (sX0_begin 50000 zL) zT zP zM := by
  have x5 : (50000 : Int32).toInt = 50000 := by decide
  refine ⟨⟨⟨rfl, rfl, rfl, rfl, rfl, rfl, rfl⟩, ?_⟩, ⟨rfl, rfl, fun j _ => ?_, ?_, ?_⟩, ⟨rfl, ?_, ?_, fun j hj => ?_⟩, fun t => ?_⟩
  · refine ⟨?_, ?_, ?_, ?_, ?_, ?_, ?_, ?_, ?_, ?_, ?_, ?_, ?_, ?_⟩ <;> decide
  · show 0 ≤ (0 : Int32).toInt ∧ (0 : Int32).toInt ≤ 255
    decide
  · show 0 ≤ (0 : Int32).toInt
    decide
  · show (0 : Int32).toInt ≤ 60
    decide
  · show 0 ≤ (0 : Int32).toInt
    decide
  · show (0 : Int32).toInt ≤ 12
    decide
  · rfl
  · have e : sX4_begin (t, zM.2) = _ := if_pos rfl
    rw [e]
    have lz := LR_begin (N := 2 * 0) (cap := 50000) zL (fun _ => 0) (by decide)
    refine ⟨(by decide : ¬ (1 : Int32) = 0), rfl, (by decide : (0 : Int) ≤ (0 : Int64).toInt), (by decide : (0 : Int64).toInt ≤ 100000000), ?_, ?_⟩
    · show LR (2 * 0) (50000 : Int32).toInt (0 : Int64).toInt (sX0_begin 50000 zL) (vp_updL (cfL (fun _ => 0) (fun _ => 0) 92) 1 (50000 : Int32).toInt64)
      rw [y0]
      exact lz
    · show LR (2 * 0) (50000 : Int32).toInt (0 : Int64).toInt (sX0_begin 50000 zL) (cfL (vp_updL (cfL (fun _ => 0) (fun _ => 0) 92) 1 (50000 : Int32).toInt64) (fun _ => 0) 92)
      rw [y0]
      exact LR_cong lz (fun j hj => cfL_in hj)
theorem sw19 {y : Int32} (h : ∀ j : Nat, j ≤ 19 → ¬ y = nI j) : y.toInt < 0 ∨ 19 < y.toInt := by
  rcases Int.lt_or_le y.toInt 0 with q | q
  · exact Or.inl q
  · obtain ⟨e1, e2⟩ := cl_toInt q
    rcases Int.lt_or_le 19 y.toInt with r | r
    · exact Or.inr r
    · exact absurd e1 (h _ (by omega))
