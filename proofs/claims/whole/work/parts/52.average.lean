theorem mulL_nn {a b : Int64} {p q : Nat} (h0 : 0 ≤ a.toInt) (h1 : a.toInt ≤ p) (h2 : 0 ≤ b.toInt) (h3 : b.toInt ≤ q) (hpq : p * q < 9223372036854775808) : (a * b).toInt = a.toInt * b.toInt ∧ 0 ≤ (a * b).toInt ∧ (a * b).toInt ≤ (p * q : Nat) := by
  have m := mulb h0 h1 h2 h3
  have e : (a * b).toInt = a.toInt * b.toInt := fb_mulL (by omega) (by omega)
  rw [e]
  exact ⟨rfl, m.1, m.2⟩
theorem R_HA {n : Nat} {x : XC} {g k : LG} {tp : TP} {pl : PL} {v : MS} (h : RR n x g k tp pl v) (hn : n ≤ 600) (i : Int32) (hi : vp_in i 4) : (∀ z : Int32, 0 ≤ rX3_wayInHundredths i z x g k tp pl) ∧ (∀ w : Int32, vp_in w 5 → 0 ≤ rX0_marked i w g * 100000) ∧ (∀ z w : Int32, vp_in w 5 → lT (rX3_wayInHundredths i z x g k tp pl) * lT (rX0_marked i w g * 100000) < 2 ^ 90) := by
  have hb := RR_bg h 0
  have l := hb.2.2.2.2.2.2.2.1
  have a4 := hb.2.2.2.2.2.2.1
  obtain ⟨⟨f1, f2, f3, f4, f5, f6, f7⟩, d1, d2, d3, d4, d5⟩ := hb.1
  obtain ⟨j, hj, rfl⟩ := vp_in_of hi (by decide)
  have way : ∀ w : Nat, w < 2 → 0 ≤ (rX0_marked (nI j) (nI w) g * x.2.1.toInt64).toInt ∧ (rX0_marked (nI j) (nI w) g * x.2.1.toInt64).toInt ≤ (100000000 * 1000 : Nat) := fun w hw => by
    obtain ⟨m1, m2, m3, m4⟩ := mk_same l hj (w := w) (by omega)
    have m5 := m4 hw
    exact (mulL_nn (p := 100000000) (q := 1000) m2 (by omega) (by rw [w64]; omega) (by rw [w64]; omega) (by decide)).2
  have hw : ∀ z : Int32, 0 ≤ (rX3_wayInHundredths (nI j) z x g k tp pl).toInt ∧ (rX3_wayInHundredths (nI j) z x g k tp pl).toInt ≤ (100000000 * 1000 : Nat) := fun z => by
    unfold rX3_wayInHundredths
    split
    · exact way 0 (by omega)
    · exact way 1 (by omega)
  have hf : ∀ w : Int32, vp_in w 5 → 0 ≤ (rX0_marked (nI j) w g * 100000).toInt ∧ (rX0_marked (nI j) w g * 100000).toInt ≤ (8640000000 * 100000 : Nat) := fun w hw => by
    obtain ⟨w', hw', rfl⟩ := vp_in_of hw (by decide)
    obtain ⟨m1, m2, m3, m4⟩ := mk_same l hj hw'
    exact (mulL_nn (p := 8640000000) (q := 100000) m2 (by omega) (by rw [y100000]; omega) (by rw [y100000]; omega) (by decide)).2
  refine ⟨fun z => (fa_le64 _ _).mpr (by rw [y0]; exact (hw z).1), fun w h5 => (fa_le64 _ _).mpr (by rw [y0]; exact (hf w h5).1), fun z w h5 => ?_⟩
  have t1 : lT (rX3_wayInHundredths (nI j) z x g k tp pl) ≤ 100000000 * 1000 := by
    have := (hw z).2
    have := (hw z).1
    unfold lT
    omega
  have t2 : lT (rX0_marked (nI j) w g * 100000) ≤ 8640000000 * 100000 := by
    have := (hf w h5).2
    have := (hf w h5).1
    unfold lT
    omega
  exact Nat.lt_of_le_of_lt (Nat.mul_le_mul t1 t2) (by decide)
theorem R_HM {n : Nat} {x : XC} {g k : LG} {tp : TP} {pl : PL} {v : MS} (h : RR n x g k tp pl v) (hn : n ≤ 600) : ∀ u : MS, u = sX4_begin v → ∀ k w : Int32, vp_in k 4 → vp_in w 5 → 0 ≤ u.2.2.2.1 ((2 + 5 * k) + w).toNatClampNeg * u.2.2.2.2.2.2.1.toInt64 ∧ 0 ≤ u.2.2.2.1 ((2 + 5 * k) + w).toNatClampNeg * 100000 := by
  intro u hu k' w hk hw
  have hb := RR_bg h v.1
  have e : sX4_begin (v.1, v.2) = u := hu.symm
  rw [e] at hb
  have l := hb.2.2.2.2.2.2.2.1
  obtain ⟨⟨f1, f2, f3, f4, f5, f6, f7⟩, d1, d2, d3, d4, d5⟩ := hb.1
  obtain ⟨j, hj, rfl⟩ := vp_in_of hk (by decide)
  obtain ⟨w', hw', rfl⟩ := vp_in_of hw (by decide)
  obtain ⟨m1, m2, m3, m4⟩ := mk_same l hj hw'
  rw [m1, ← f2]
  exact ⟨(fa_le64 _ _).mpr (by rw [y0]; exact (mulL_nn (p := 8640000000) (q := 1000) m2 (by omega) (by rw [w64]; omega) (by rw [w64]; omega) (by decide)).2.1), (fa_le64 _ _).mpr (by rw [y0]; exact (mulL_nn (p := 8640000000) (q := 100000) m2 (by omega) (by rw [y100000]; omega) (by rw [y100000]; omega) (by decide)).2.1)⟩
theorem R_average {n : Nat} {x : XC} {g k : LG} {tp : TP} {pl : PL} {v : MS} (h : RR n x g k tp pl v) (hn : n ≤ 600) (i z wh : Int32) : (sX4_average i z wh v).1 = tX3_average i z wh x g k tp pl ∧ (tX3_average i z wh x g k tp pl = 0 → rX3_average i z wh x g k tp pl = rX4_average i z wh v) ∧ RR (n + 1) x g k tp pl (sX4_average i z wh v) := by
  have ha0 := R_HA h hn i
  have hb := RR_bg h v.1
  have eM : sX4_average i z wh v = sX4_average_g_2 i z wh v (sX4_begin (v.1, v.2)) := rfl
  have eS : rX4_average i z wh v = rX4_average_g_2 i z wh v (sX4_begin (v.1, v.2)) := rfl
  rw [eM, eS]
  generalize sX4_begin (v.1, v.2) = u at hb ⊢
  have l := hb.2.2.2.2.2.2.2.1
  have f2 := hb.1.1.2.1
  have nn : ∀ t : Int32, tX3_average i z wh x g k tp pl = 1 → sX4_average_g_2 i z wh v u = (1, u.2) → (sX4_average_g_2 i z wh v u).1 = tX3_average i z wh x g k tp pl ∧ (tX3_average i z wh x g k tp pl = 0 → rX3_average i z wh x g k tp pl = rX4_average_g_2 i z wh v u) ∧ RR (n + 1) x g k tp pl (sX4_average_g_2 i z wh v u) := fun _ a1 a2 => by
    rw [a1, a2]
    exact ⟨rfl, fun q => absurd q (by decide), RR_same hb 1⟩
  by_cases c : rX3_isMark i = 0
  · have cm := mark_same.mpr c
    exact nn 0 (by unfold tX3_average; rw [if_pos c]) (by unfold sX4_average_g_2; rw [if_pos cm]; rfl)
  have cm : ¬ rX4_isMark i = 0 := fun q => c (mark_same.mp q)
  have ha := ha0 (isMark_in c)
  obtain ⟨j, hj, rfl⟩ := mark_nat c
  by_cases c1 : rX3_within wh 0 1 = 0
  · rcases in_not c1 with q | q
    · have c3 : wh < 0 := (fa_lt _ _).mpr q
      exact nn 0 (by unfold tX3_average; rw [if_neg c, if_pos c1]) (by unfold sX4_average_g_2; rw [if_neg cm, if_pos c3]; rfl)
    · have c3 : ¬ wh < 0 := fun r => by have := ltI r; rw [x0] at this; rw [x1] at q; omega
      have c4 : ¬ wh ≤ 1 := fun r => by have := leI r; omega
      exact nn 0 (by unfold tX3_average; rw [if_neg c, if_pos c1]) (by unfold sX4_average_g_2; rw [if_neg cm, if_neg c3, if_neg c4]; rfl)
  have q := in_val c1
  rw [x0, x1] at q
  have c3' : ¬ wh < 0 := fun r => by have := ltI r; rw [x0] at this; omega
  have c4' : wh ≤ 1 := (fa_le _ _).mpr (by rw [x1]; exact q.2)
  clear nn
  unfold tX3_average rX3_average sX4_average_g_2 rX4_average_g_2
  rw [if_neg c, if_neg c, if_neg c1, if_neg c1, if_neg cm, if_neg cm, if_neg c3', if_neg c3', if_pos c4', if_pos c4']
  by_cases c2 : z = 0
  · skip
    rw [if_pos c2, if_pos c2, if_pos c2, if_pos c2]
    have eW : rX3_wayInHundredths (nI j) 1 x g k tp pl = rX0_marked (nI j) 1 g * x.2.1.toInt64 := if_neg (by decide)
    have e1 : u.2.2.2.1 ((2 + (5 * nI j)) + 1).toNatClampNeg = rX0_marked (nI j) 1 g := (mk_same l hj (w := 1) (by omega)).1
    have e2 : u.2.2.2.1 ((2 + (5 * nI j)) + 2).toNatClampNeg = rX0_marked (nI j) 2 g := (mk_same l hj (w := 2) (by omega)).1
    rw [e1, e2, ← f2]
    have hW := ha.1 1
    have hF := ha.2.1 2 (vd (by decide +kernel))
    rw [eW] at hW ⊢
    have hW0 := hW
    rw [fa_le64, y0] at hW
    by_cases c3 : (rX0_marked (nI j) 1 g * x.2.1.toInt64).toInt = 0
    · have c4 : ¬ 0 ≤ lg_cmp (rX0_marked (nI j) 1 g * x.2.1.toInt64) 1 := fun q => by rw [cgeI, y1] at q; omega
      have c5 : lg_cmp (rX0_marked (nI j) 1 g * x.2.1.toInt64) 0 = 0 := ceqI.mpr (by rw [y0]; exact c3)
      rw [if_neg c4, if_pos c5]
      exact ⟨rfl, fun q => absurd q (by decide), RR_same hb 1⟩
    · have c4 : 0 ≤ lg_cmp (rX0_marked (nI j) 1 g * x.2.1.toInt64) 1 := cgeI.mpr (by rw [y1]; omega)
      have c5 : ¬ lg_cmp (rX0_marked (nI j) 1 g * x.2.1.toInt64) 0 = 0 := fun q => by rw [ceqI, y0] at q; exact c3 q
      have eg : rX4_common (rX0_marked (nI j) 2 g * 100000) (rX0_marked (nI j) 1 g * x.2.1.toInt64) = rX3_commonDivisor (rX0_marked (nI j) 1 g * x.2.1.toInt64) (rX0_marked (nI j) 2 g * 100000) := by
        rw [(cd_eq hW0 c4).1]
        unfold rX4_common
        rw [Nat.gcd_comm]
      rw [eg]
      rw [if_pos c4, if_neg c5, if_pos c4, if_neg c5]
      by_cases c6 : wh = 0
      · simp only [if_pos c6]
        rw [f2]
        exact ⟨trivial, fun _ => trivial, RR_same hb 0⟩
      · simp only [if_neg c6]
        rw [f2]
        exact ⟨trivial, fun _ => trivial, RR_same hb 0⟩
  · skip
    rw [if_neg c2, if_neg c2, if_neg c2, if_neg c2]
    have eW : rX3_wayInHundredths (nI j) 0 x g k tp pl = rX0_marked (nI j) 0 g * x.2.1.toInt64 := if_pos rfl
    have e1 : u.2.2.2.1 ((2 + (5 * nI j)) + 0).toNatClampNeg = rX0_marked (nI j) 0 g := (mk_same l hj (w := 0) (by omega)).1
    have e2 : u.2.2.2.1 ((2 + (5 * nI j)) + 3).toNatClampNeg = rX0_marked (nI j) 3 g := (mk_same l hj (w := 3) (by omega)).1
    rw [e1, e2, ← f2]
    have hW := ha.1 0
    have hF := ha.2.1 3 (vd (by decide +kernel))
    rw [eW] at hW ⊢
    have hW0 := hW
    rw [fa_le64, y0] at hW
    by_cases c3 : (rX0_marked (nI j) 0 g * x.2.1.toInt64).toInt = 0
    · have c4 : ¬ 0 ≤ lg_cmp (rX0_marked (nI j) 0 g * x.2.1.toInt64) 1 := fun q => by rw [cgeI, y1] at q; omega
      have c5 : lg_cmp (rX0_marked (nI j) 0 g * x.2.1.toInt64) 0 = 0 := ceqI.mpr (by rw [y0]; exact c3)
      rw [if_neg c4, if_pos c5]
      exact ⟨rfl, fun q => absurd q (by decide), RR_same hb 1⟩
    · have c4 : 0 ≤ lg_cmp (rX0_marked (nI j) 0 g * x.2.1.toInt64) 1 := cgeI.mpr (by rw [y1]; omega)
      have c5 : ¬ lg_cmp (rX0_marked (nI j) 0 g * x.2.1.toInt64) 0 = 0 := fun q => by rw [ceqI, y0] at q; exact c3 q
      have eg : rX4_common (rX0_marked (nI j) 3 g * 100000) (rX0_marked (nI j) 0 g * x.2.1.toInt64) = rX3_commonDivisor (rX0_marked (nI j) 0 g * x.2.1.toInt64) (rX0_marked (nI j) 3 g * 100000) := by
        rw [(cd_eq hW0 c4).1]
        unfold rX4_common
        rw [Nat.gcd_comm]
      rw [eg]
      rw [if_pos c4, if_neg c5, if_pos c4, if_neg c5]
      by_cases c6 : wh = 0
      · simp only [if_pos c6]
        rw [f2]
        exact ⟨trivial, fun _ => trivial, RR_same hb 0⟩
      · simp only [if_neg c6]
        rw [f2]
        exact ⟨trivial, fun _ => trivial, RR_same hb 0⟩
