theorem nat_of {z : Int} (h : 0 ≤ z) : ∃ r : Nat, z = r := ⟨z.toNat, by omega⟩
theorem placeX {x : Int32} {r : Nat} (h : x.toInt = r) : (rX0_placeOf x).toNatClampNeg = r % 30 := by
  have hr := fb_rng x
  rw [placeOf_rem ((fa_le _ _).mpr (by rw [x0]; omega))]
  obtain ⟨j, hj, rfl⟩ := i_ge0 (x := x) ((fa_le _ _).mpr (by rw [x0]; omega))
  rw [nI_toInt hj] at h
  obtain rfl : j = r := by omega
  show (nI j - nI j / nI 30 * nI 30).toNatClampNeg = j % 30
  rw [pk_rem hj (by decide) (by decide), nI_clamp (by omega)]
theorem placeM {y : Int64} {r : Nat} (h : y.toInt = r) : (rX4_place y).toNatClampNeg = 32 + 2 * (r % 30) ∧ ((rX4_place y) + 1).toNatClampNeg = 32 + 2 * (r % 30) + 1 := by
  have hr := fb_rngL y
  obtain ⟨j, hj, rfl⟩ := pk_lOf (x := y) (fun q => by rw [fa_lt64, y0] at q; omega)
  rw [pk_lT hj] at h
  obtain rfl : j = r := by omega
  unfold rX4_place
  have e : lN j - lN j / 30 * 30 = lN (j % 30) := pk_lRem hj (by decide) (by decide)
  rw [e, lN_i]
  have e2 : (32 : Int32) + 2 * nI (j % 30) = nI (32 + 2 * (j % 30)) := by
    show nI 32 + nI 2 * nI (j % 30) = _
    rw [pk_mul, nI_add]
  rw [e2, nI_1, nI_clamp (by omega), nI_clamp (by omega)]
  exact ⟨rfl, rfl⟩
theorem uL_swap (f : Nat → Int64) {i j : Nat} (h : i ≠ j) (x y : Int64) : vp_updL (vp_updL f i x) j y = vp_updL (vp_updL f j y) i x := by
  funext k
  by_cases e : k = i
  · subst e
    rw [pk_uLn h, pk_uLs, pk_uLs]
  · by_cases e2 : k = j
    · subst e2
      rw [pk_uLs, pk_uLn e, pk_uLs]
    · rw [pk_uLn e2, pk_uLn e, pk_uLn e, pk_uLn e2]
def m_set1 (p : Nat) (A : Int64) (a : Nat → Int64) : Nat → Int64 := if lg_cmp A (a p) ≤ 0 then a else vp_updL a p A
def m_set2 (q : Nat) (B : Int64) (a : Nat → Int64) : Nat → Int64 := if 0 ≤ lg_cmp B (a q) then a else vp_updL a q B
def m_settle (a : Nat → Int64) : Nat → Int64 := m_set2 (((rX4_place (a 22 - 1)) + 1).toNatClampNeg) ((a 1 + a 29) - a 30) (m_set1 ((rX4_place (a 22 - 1)).toNatClampNeg) ((a 0 + a 28) - a 31) a)
theorem settle_wn (v : MS) : sX4_settle v = wn v (m_settle v.2.2.2.1) := by
  unfold m_settle
  by_cases h1 : (lg_cmp ((v.2.2.2.1 0 + v.2.2.2.1 28) - v.2.2.2.1 31) (v.2.2.2.1 ((rX4_place (v.2.2.2.1 22 - 1)).toNatClampNeg))) ≤ 0
  · rw [show m_set1 ((rX4_place (v.2.2.2.1 22 - 1)).toNatClampNeg) ((v.2.2.2.1 0 + v.2.2.2.1 28) - v.2.2.2.1 31) v.2.2.2.1 = v.2.2.2.1 from if_pos h1]
    by_cases h2 : 0 ≤ (lg_cmp ((v.2.2.2.1 1 + v.2.2.2.1 29) - v.2.2.2.1 30) (v.2.2.2.1 (((rX4_place (v.2.2.2.1 22 - 1)) + 1).toNatClampNeg)))
    · rw [show m_set2 (((rX4_place (v.2.2.2.1 22 - 1)) + 1).toNatClampNeg) ((v.2.2.2.1 1 + v.2.2.2.1 29) - v.2.2.2.1 30) v.2.2.2.1 = v.2.2.2.1 from if_pos h2]
      unfold sX4_settle
      rw [if_pos h1, if_pos h2]
      rfl
    · rw [show m_set2 (((rX4_place (v.2.2.2.1 22 - 1)) + 1).toNatClampNeg) ((v.2.2.2.1 1 + v.2.2.2.1 29) - v.2.2.2.1 30) v.2.2.2.1 = _ from if_neg h2]
      unfold sX4_settle
      rw [if_pos h1, if_neg h2]
      rfl
  · rw [show m_set1 ((rX4_place (v.2.2.2.1 22 - 1)).toNatClampNeg) ((v.2.2.2.1 0 + v.2.2.2.1 28) - v.2.2.2.1 31) v.2.2.2.1 = _ from if_neg h1]
    by_cases h2 : 0 ≤ (lg_cmp ((v.2.2.2.1 1 + v.2.2.2.1 29) - v.2.2.2.1 30) ((vp_updL v.2.2.2.1 ((rX4_place (v.2.2.2.1 22 - 1)).toNatClampNeg) ((v.2.2.2.1 0 + v.2.2.2.1 28) - v.2.2.2.1 31)) (((rX4_place (v.2.2.2.1 22 - 1)) + 1).toNatClampNeg)))
    · rw [show m_set2 (((rX4_place (v.2.2.2.1 22 - 1)) + 1).toNatClampNeg) ((v.2.2.2.1 1 + v.2.2.2.1 29) - v.2.2.2.1 30) (vp_updL v.2.2.2.1 ((rX4_place (v.2.2.2.1 22 - 1)).toNatClampNeg) ((v.2.2.2.1 0 + v.2.2.2.1 28) - v.2.2.2.1 31)) = _ from if_pos h2]
      unfold sX4_settle
      rw [if_neg h1, if_pos h2]
      rfl
    · rw [show m_set2 (((rX4_place (v.2.2.2.1 22 - 1)) + 1).toNatClampNeg) ((v.2.2.2.1 1 + v.2.2.2.1 29) - v.2.2.2.1 30) (vp_updL v.2.2.2.1 ((rX4_place (v.2.2.2.1 22 - 1)).toNatClampNeg) ((v.2.2.2.1 0 + v.2.2.2.1 28) - v.2.2.2.1 31)) = _ from if_neg h2]
      unfold sX4_settle
      rw [if_neg h1, if_neg h2]
      rfl
theorem set1_out {p j : Nat} {A : Int64} {a : Nat → Int64} (h : j ≠ p) : m_set1 p A a j = a j := by
  unfold m_set1
  split
  · rfl
  · exact pk_uLn h
theorem set2_out {p j : Nat} {A : Int64} {a : Nat → Int64} (h : j ≠ p) : m_set2 p A a j = a j := by
  unfold m_set2
  split
  · rfl
  · exact pk_uLn h
theorem set1_in {p : Nat} {A : Int64} {a : Nat → Int64} : (m_set1 p A a p).toInt = if A.toInt ≤ (a p).toInt then (a p).toInt else A.toInt := by
  unfold m_set1
  by_cases h : A.toInt ≤ (a p).toInt
  · rw [if_pos (cleI.mpr h), if_pos h]
  · rw [if_neg (fun q => h (cleI.mp q)), if_neg h, pk_uLs]
theorem set2_in {p : Nat} {A : Int64} {a : Nat → Int64} : (m_set2 p A a p).toInt = if (a p).toInt ≤ A.toInt then (a p).toInt else A.toInt := by
  unfold m_set2
  by_cases h : (a p).toInt ≤ A.toInt
  · rw [if_pos (cgeI.mpr h), if_pos h]
  · rw [if_neg (fun q => h (cgeI.mp q)), if_neg h, pk_uLs]
theorem LR_settle {N : Nat} {C al : Int} {g : LG} {a : Nat → Int64} (hC : C ≤ 120000) (hN : N ≤ 2000) (hz : g.2.2.2.2.2.2.2.1.toInt = 1) (h : LR N C al g a) : LR N C al (sX0_settle g) (m_settle a) := by
  obtain ⟨l0, l1, l2, l3⟩ := h
  obtain ⟨c1, c2, c3, c4, c5, c6, c7, c8, c9, c10, c11, c12, c13⟩ := l2 hz
  have l0' := l0
  obtain ⟨⟨e0, e1, e22, e23, e24, e25, e26, e27⟩, b0, b1, b2, b3, b4, b5, b6, b7, b8, b9, b10, b11, b12, b13, b14, b15⟩ := l0'
  obtain ⟨r, hr⟩ := nat_of (z := g.2.2.1.toInt - 1) (by omega)
  have s0 : (g.2.2.1 - 1).toInt = r := by rw [fb_subI (by rw [x1]; omega) (by rw [x1]; omega), x1]; omega
  have s0m : (a 22 - 1).toInt = r := by rw [fb_subL (by rw [y1]; omega) (by rw [y1]; omega), y1]; omega
  have pX := placeX s0
  obtain ⟨pM, qM⟩ := placeM s0m
  have hp : r % 30 < 30 := Nat.mod_lt _ (by decide)
  have hpr : r % 30 ≤ r := Nat.mod_le _ _
  obtain ⟨d1, d2, d3, d4, d5, d6⟩ := l3 (r % 30) hp (by omega)
  have eX : sX0_settle g = (g.1, g.2.1, g.2.2.1, g.2.2.2.1, g.2.2.2.2.1, g.2.2.2.2.2.1, g.2.2.2.2.2.2.1, g.2.2.2.2.2.2.2.1, g.2.2.2.2.2.2.2.2.1, g.2.2.2.2.2.2.2.2.2.1, g.2.2.2.2.2.2.2.2.2.2.1, g.2.2.2.2.2.2.2.2.2.2.2.1, g.2.2.2.2.2.2.2.2.2.2.2.2.1, upd g.2.2.2.2.2.2.2.2.2.2.2.2.2.1 ((rX0_placeOf (g.2.2.1 - 1)).toNatClampNeg) ((if ((g.1.toInt64 + g.2.2.2.2.2.2.2.2.2.2.1) - g.2.2.2.2.2.2.2.2.2.1.toInt64) < ((g.2.2.2.2.2.2.2.2.2.2.2.2.2.1 ((rX0_placeOf (g.2.2.1 - 1)).toNatClampNeg)).toInt64) then ((g.2.2.2.2.2.2.2.2.2.2.2.2.2.1 ((rX0_placeOf (g.2.2.1 - 1)).toNatClampNeg)).toInt64) else ((g.1.toInt64 + g.2.2.2.2.2.2.2.2.2.2.1) - g.2.2.2.2.2.2.2.2.2.1.toInt64)).toInt32), upd g.2.2.2.2.2.2.2.2.2.2.2.2.2.2 ((rX0_placeOf (g.2.2.1 - 1)).toNatClampNeg) ((if ((g.2.1.toInt64 + g.2.2.2.2.2.2.2.2.2.2.2.1) - g.2.2.2.2.2.2.2.2.1.toInt64) < ((g.2.2.2.2.2.2.2.2.2.2.2.2.2.2 ((rX0_placeOf (g.2.2.1 - 1)).toNatClampNeg)).toInt64) then ((g.2.1.toInt64 + g.2.2.2.2.2.2.2.2.2.2.2.1) - g.2.2.2.2.2.2.2.2.1.toInt64) else ((g.2.2.2.2.2.2.2.2.2.2.2.2.2.2 ((rX0_placeOf (g.2.2.1 - 1)).toNatClampNeg)).toInt64)).toInt32)) := by
    unfold sX0_settle
    rw [if_neg (fun q => by rw [fa_eq, x0] at q; omega)]
  have sA : ((g.1.toInt64 + g.2.2.2.2.2.2.2.2.2.2.1) - g.2.2.2.2.2.2.2.2.2.1.toInt64).toInt = g.1.toInt + g.2.2.2.2.2.2.2.2.2.2.1.toInt - g.2.2.2.2.2.2.2.2.2.1.toInt := by
    have s1 : (g.1.toInt64 + g.2.2.2.2.2.2.2.2.2.2.1).toInt = g.1.toInt + g.2.2.2.2.2.2.2.2.2.2.1.toInt := by rw [fb_addL (by rw [w64]; omega) (by rw [w64]; omega), w64]
    rw [fb_subL (by rw [s1, w64]; omega) (by rw [s1, w64]; omega), s1, w64]
  have sB : ((g.2.1.toInt64 + g.2.2.2.2.2.2.2.2.2.2.2.1) - g.2.2.2.2.2.2.2.2.1.toInt64).toInt = g.2.1.toInt + g.2.2.2.2.2.2.2.2.2.2.2.1.toInt - g.2.2.2.2.2.2.2.2.1.toInt := by
    have s1 : (g.2.1.toInt64 + g.2.2.2.2.2.2.2.2.2.2.2.1).toInt = g.2.1.toInt + g.2.2.2.2.2.2.2.2.2.2.2.1.toInt := by rw [fb_addL (by rw [w64]; omega) (by rw [w64]; omega), w64]
    rw [fb_subL (by rw [s1, w64]; omega) (by rw [s1, w64]; omega), s1, w64]
  have tA : ((a 0 + a 28) - a 31).toInt = g.1.toInt + g.2.2.2.2.2.2.2.2.2.2.1.toInt - g.2.2.2.2.2.2.2.2.2.1.toInt := by
    have s1 : (a 0 + a 28).toInt = (a 0).toInt + (a 28).toInt := fb_addL (by omega) (by omega)
    rw [fb_subL (by rw [s1]; omega) (by rw [s1]; omega), s1]
    omega
  have tB : ((a 1 + a 29) - a 30).toInt = g.2.1.toInt + g.2.2.2.2.2.2.2.2.2.2.2.1.toInt - g.2.2.2.2.2.2.2.2.1.toInt := by
    have s1 : (a 1 + a 29).toInt = (a 1).toInt + (a 29).toInt := fb_addL (by omega) (by omega)
    rw [fb_subL (by rw [s1]; omega) (by rw [s1]; omega), s1]
    omega
  have vA : ((if ((g.1.toInt64 + g.2.2.2.2.2.2.2.2.2.2.1) - g.2.2.2.2.2.2.2.2.2.1.toInt64) < ((g.2.2.2.2.2.2.2.2.2.2.2.2.2.1 ((rX0_placeOf (g.2.2.1 - 1)).toNatClampNeg)).toInt64) then ((g.2.2.2.2.2.2.2.2.2.2.2.2.2.1 ((rX0_placeOf (g.2.2.1 - 1)).toNatClampNeg)).toInt64) else ((g.1.toInt64 + g.2.2.2.2.2.2.2.2.2.2.1) - g.2.2.2.2.2.2.2.2.2.1.toInt64)).toInt32).toInt = if g.1.toInt + g.2.2.2.2.2.2.2.2.2.2.1.toInt - g.2.2.2.2.2.2.2.2.2.1.toInt ≤ (g.2.2.2.2.2.2.2.2.2.2.2.2.2.1 (r % 30)).toInt then (g.2.2.2.2.2.2.2.2.2.2.2.2.2.1 (r % 30)).toInt else g.1.toInt + g.2.2.2.2.2.2.2.2.2.2.1.toInt - g.2.2.2.2.2.2.2.2.2.1.toInt := by
    rw [pX]
    by_cases c : g.1.toInt + g.2.2.2.2.2.2.2.2.2.2.1.toInt - g.2.2.2.2.2.2.2.2.2.1.toInt < (g.2.2.2.2.2.2.2.2.2.2.2.2.2.1 (r % 30)).toInt
    · rw [if_pos ((fa_lt64 _ _).mpr (by rw [sA, w64]; exact c)), if_pos (by omega), w32 (by rw [w64]; omega) (by rw [w64]; omega), w64]
    · rw [if_neg (fun q => by rw [fa_lt64, sA, w64] at q; omega), w32 (by omega) (by omega), sA]
      split <;> omega
  have vB : ((if ((g.2.1.toInt64 + g.2.2.2.2.2.2.2.2.2.2.2.1) - g.2.2.2.2.2.2.2.2.1.toInt64) < ((g.2.2.2.2.2.2.2.2.2.2.2.2.2.2 ((rX0_placeOf (g.2.2.1 - 1)).toNatClampNeg)).toInt64) then ((g.2.1.toInt64 + g.2.2.2.2.2.2.2.2.2.2.2.1) - g.2.2.2.2.2.2.2.2.1.toInt64) else ((g.2.2.2.2.2.2.2.2.2.2.2.2.2.2 ((rX0_placeOf (g.2.2.1 - 1)).toNatClampNeg)).toInt64)).toInt32).toInt = if (g.2.2.2.2.2.2.2.2.2.2.2.2.2.2 (r % 30)).toInt ≤ g.2.1.toInt + g.2.2.2.2.2.2.2.2.2.2.2.1.toInt - g.2.2.2.2.2.2.2.2.1.toInt then (g.2.2.2.2.2.2.2.2.2.2.2.2.2.2 (r % 30)).toInt else g.2.1.toInt + g.2.2.2.2.2.2.2.2.2.2.2.1.toInt - g.2.2.2.2.2.2.2.2.1.toInt := by
    rw [pX]
    by_cases c : g.2.1.toInt + g.2.2.2.2.2.2.2.2.2.2.2.1.toInt - g.2.2.2.2.2.2.2.2.1.toInt < (g.2.2.2.2.2.2.2.2.2.2.2.2.2.2 (r % 30)).toInt
    · rw [if_pos ((fa_lt64 _ _).mpr (by rw [sB, w64]; exact c)), if_neg (by omega), w32 (by omega) (by omega), sB]
    · rw [if_neg (fun q => by rw [fa_lt64, sB, w64] at q; omega), if_pos (by omega), w32 (by rw [w64]; omega) (by rw [w64]; omega), w64]
  have uA : (m_settle a (32 + 2 * (r % 30))).toInt = if g.1.toInt + g.2.2.2.2.2.2.2.2.2.2.1.toInt - g.2.2.2.2.2.2.2.2.2.1.toInt ≤ (g.2.2.2.2.2.2.2.2.2.2.2.2.2.1 (r % 30)).toInt then (g.2.2.2.2.2.2.2.2.2.2.2.2.2.1 (r % 30)).toInt else g.1.toInt + g.2.2.2.2.2.2.2.2.2.2.1.toInt - g.2.2.2.2.2.2.2.2.2.1.toInt := by
    unfold m_settle
    rw [set2_out (by omega), pM, set1_in, tA, d1]
  have uB : (m_settle a (32 + 2 * (r % 30) + 1)).toInt = if (g.2.2.2.2.2.2.2.2.2.2.2.2.2.2 (r % 30)).toInt ≤ g.2.1.toInt + g.2.2.2.2.2.2.2.2.2.2.2.1.toInt - g.2.2.2.2.2.2.2.2.1.toInt then (g.2.2.2.2.2.2.2.2.2.2.2.2.2.2 (r % 30)).toInt else g.2.1.toInt + g.2.2.2.2.2.2.2.2.2.2.2.1.toInt - g.2.2.2.2.2.2.2.2.1.toInt := by
    unfold m_settle
    rw [qM, set2_in, set1_out (by omega), tB, d2]
  have q : ∀ j : Nat, (j ≠ 32 + 2 * (r % 30) ∧ j ≠ 32 + 2 * (r % 30) + 1) → m_settle a j = a j := fun j hj => by
    unfold m_settle
    rw [set2_out (by omega), set1_out (by omega)]
  rw [eX]
  refine ⟨⟨⟨by rw [q 0 (by omega)]; exact e0, by rw [q 1 (by omega)]; exact e1, by rw [q 22 (by omega)]; exact e22, by rw [q 23 (by omega)]; exact e23, by rw [q 24 (by omega)]; exact e24, by rw [q 25 (by omega)]; exact e25, by rw [q 26 (by omega)]; exact e26, by rw [q 27 (by omega)]; exact e27⟩, b0, b1, b2, b3, b4, b5, b6, b7, b8, b9, b10, b11, b12, b13, b14, b15⟩, L1_cong l1 (fun j hj => q _ (by omega)), fun _ => ⟨c1, by rw [q 28 (by omega)]; exact c2, by rw [q 29 (by omega)]; exact c3, by rw [q 30 (by omega)]; exact c4, by rw [q 31 (by omega)]; exact c5, c6, c7, c8, c9, c10, c11, c12, c13⟩, ?_⟩
  intro p hp2 hr2
  by_cases e : p = r % 30
  · subst e
    show (m_settle a (32 + 2 * (r % 30))).toInt = (upd g.2.2.2.2.2.2.2.2.2.2.2.2.2.1 ((rX0_placeOf (g.2.2.1 - 1)).toNatClampNeg) ((if ((g.1.toInt64 + g.2.2.2.2.2.2.2.2.2.2.1) - g.2.2.2.2.2.2.2.2.2.1.toInt64) < ((g.2.2.2.2.2.2.2.2.2.2.2.2.2.1 ((rX0_placeOf (g.2.2.1 - 1)).toNatClampNeg)).toInt64) then ((g.2.2.2.2.2.2.2.2.2.2.2.2.2.1 ((rX0_placeOf (g.2.2.1 - 1)).toNatClampNeg)).toInt64) else ((g.1.toInt64 + g.2.2.2.2.2.2.2.2.2.2.1) - g.2.2.2.2.2.2.2.2.2.1.toInt64)).toInt32) (r % 30)).toInt ∧ (m_settle a (32 + 2 * (r % 30) + 1)).toInt = (upd g.2.2.2.2.2.2.2.2.2.2.2.2.2.2 ((rX0_placeOf (g.2.2.1 - 1)).toNatClampNeg) ((if ((g.2.1.toInt64 + g.2.2.2.2.2.2.2.2.2.2.2.1) - g.2.2.2.2.2.2.2.2.1.toInt64) < ((g.2.2.2.2.2.2.2.2.2.2.2.2.2.2 ((rX0_placeOf (g.2.2.1 - 1)).toNatClampNeg)).toInt64) then ((g.2.1.toInt64 + g.2.2.2.2.2.2.2.2.2.2.2.1) - g.2.2.2.2.2.2.2.2.1.toInt64) else ((g.2.2.2.2.2.2.2.2.2.2.2.2.2.2 ((rX0_placeOf (g.2.2.1 - 1)).toNatClampNeg)).toInt64)).toInt32) (r % 30)).toInt ∧ -120000 ≤ (upd g.2.2.2.2.2.2.2.2.2.2.2.2.2.1 ((rX0_placeOf (g.2.2.1 - 1)).toNatClampNeg) ((if ((g.1.toInt64 + g.2.2.2.2.2.2.2.2.2.2.1) - g.2.2.2.2.2.2.2.2.2.1.toInt64) < ((g.2.2.2.2.2.2.2.2.2.2.2.2.2.1 ((rX0_placeOf (g.2.2.1 - 1)).toNatClampNeg)).toInt64) then ((g.2.2.2.2.2.2.2.2.2.2.2.2.2.1 ((rX0_placeOf (g.2.2.1 - 1)).toNatClampNeg)).toInt64) else ((g.1.toInt64 + g.2.2.2.2.2.2.2.2.2.2.1) - g.2.2.2.2.2.2.2.2.2.1.toInt64)).toInt32) (r % 30)).toInt ∧ (upd g.2.2.2.2.2.2.2.2.2.2.2.2.2.1 ((rX0_placeOf (g.2.2.1 - 1)).toNatClampNeg) ((if ((g.1.toInt64 + g.2.2.2.2.2.2.2.2.2.2.1) - g.2.2.2.2.2.2.2.2.2.1.toInt64) < ((g.2.2.2.2.2.2.2.2.2.2.2.2.2.1 ((rX0_placeOf (g.2.2.1 - 1)).toNatClampNeg)).toInt64) then ((g.2.2.2.2.2.2.2.2.2.2.2.2.2.1 ((rX0_placeOf (g.2.2.1 - 1)).toNatClampNeg)).toInt64) else ((g.1.toInt64 + g.2.2.2.2.2.2.2.2.2.2.1) - g.2.2.2.2.2.2.2.2.2.1.toInt64)).toInt32) (r % 30)).toInt ≤ _ ∧ -120000 ≤ (upd g.2.2.2.2.2.2.2.2.2.2.2.2.2.2 ((rX0_placeOf (g.2.2.1 - 1)).toNatClampNeg) ((if ((g.2.1.toInt64 + g.2.2.2.2.2.2.2.2.2.2.2.1) - g.2.2.2.2.2.2.2.2.1.toInt64) < ((g.2.2.2.2.2.2.2.2.2.2.2.2.2.2 ((rX0_placeOf (g.2.2.1 - 1)).toNatClampNeg)).toInt64) then ((g.2.1.toInt64 + g.2.2.2.2.2.2.2.2.2.2.2.1) - g.2.2.2.2.2.2.2.2.1.toInt64) else ((g.2.2.2.2.2.2.2.2.2.2.2.2.2.2 ((rX0_placeOf (g.2.2.1 - 1)).toNatClampNeg)).toInt64)).toInt32) (r % 30)).toInt ∧ (upd g.2.2.2.2.2.2.2.2.2.2.2.2.2.2 ((rX0_placeOf (g.2.2.1 - 1)).toNatClampNeg) ((if ((g.2.1.toInt64 + g.2.2.2.2.2.2.2.2.2.2.2.1) - g.2.2.2.2.2.2.2.2.1.toInt64) < ((g.2.2.2.2.2.2.2.2.2.2.2.2.2.2 ((rX0_placeOf (g.2.2.1 - 1)).toNatClampNeg)).toInt64) then ((g.2.1.toInt64 + g.2.2.2.2.2.2.2.2.2.2.2.1) - g.2.2.2.2.2.2.2.2.1.toInt64) else ((g.2.2.2.2.2.2.2.2.2.2.2.2.2.2 ((rX0_placeOf (g.2.2.1 - 1)).toNatClampNeg)).toInt64)).toInt32) (r % 30)).toInt ≤ _
    have w1 : upd g.2.2.2.2.2.2.2.2.2.2.2.2.2.1 ((rX0_placeOf (g.2.2.1 - 1)).toNatClampNeg) ((if ((g.1.toInt64 + g.2.2.2.2.2.2.2.2.2.2.1) - g.2.2.2.2.2.2.2.2.2.1.toInt64) < ((g.2.2.2.2.2.2.2.2.2.2.2.2.2.1 ((rX0_placeOf (g.2.2.1 - 1)).toNatClampNeg)).toInt64) then ((g.2.2.2.2.2.2.2.2.2.2.2.2.2.1 ((rX0_placeOf (g.2.2.1 - 1)).toNatClampNeg)).toInt64) else ((g.1.toInt64 + g.2.2.2.2.2.2.2.2.2.2.1) - g.2.2.2.2.2.2.2.2.2.1.toInt64)).toInt32) (r % 30) = (if ((g.1.toInt64 + g.2.2.2.2.2.2.2.2.2.2.1) - g.2.2.2.2.2.2.2.2.2.1.toInt64) < ((g.2.2.2.2.2.2.2.2.2.2.2.2.2.1 ((rX0_placeOf (g.2.2.1 - 1)).toNatClampNeg)).toInt64) then ((g.2.2.2.2.2.2.2.2.2.2.2.2.2.1 ((rX0_placeOf (g.2.2.1 - 1)).toNatClampNeg)).toInt64) else ((g.1.toInt64 + g.2.2.2.2.2.2.2.2.2.2.1) - g.2.2.2.2.2.2.2.2.2.1.toInt64)).toInt32 := by rw [pX]; exact pk_us
    have w2 : upd g.2.2.2.2.2.2.2.2.2.2.2.2.2.2 ((rX0_placeOf (g.2.2.1 - 1)).toNatClampNeg) ((if ((g.2.1.toInt64 + g.2.2.2.2.2.2.2.2.2.2.2.1) - g.2.2.2.2.2.2.2.2.1.toInt64) < ((g.2.2.2.2.2.2.2.2.2.2.2.2.2.2 ((rX0_placeOf (g.2.2.1 - 1)).toNatClampNeg)).toInt64) then ((g.2.1.toInt64 + g.2.2.2.2.2.2.2.2.2.2.2.1) - g.2.2.2.2.2.2.2.2.1.toInt64) else ((g.2.2.2.2.2.2.2.2.2.2.2.2.2.2 ((rX0_placeOf (g.2.2.1 - 1)).toNatClampNeg)).toInt64)).toInt32) (r % 30) = (if ((g.2.1.toInt64 + g.2.2.2.2.2.2.2.2.2.2.2.1) - g.2.2.2.2.2.2.2.2.1.toInt64) < ((g.2.2.2.2.2.2.2.2.2.2.2.2.2.2 ((rX0_placeOf (g.2.2.1 - 1)).toNatClampNeg)).toInt64) then ((g.2.1.toInt64 + g.2.2.2.2.2.2.2.2.2.2.2.1) - g.2.2.2.2.2.2.2.2.1.toInt64) else ((g.2.2.2.2.2.2.2.2.2.2.2.2.2.2 ((rX0_placeOf (g.2.2.1 - 1)).toNatClampNeg)).toInt64)).toInt32 := by rw [pX]; exact pk_us
    rw [w1, w2, vA, vB, uA, uB]
    refine ⟨rfl, rfl, ?_, ?_, ?_, ?_⟩ <;> split <;> omega
  · have w1 : upd g.2.2.2.2.2.2.2.2.2.2.2.2.2.1 ((rX0_placeOf (g.2.2.1 - 1)).toNatClampNeg) ((if ((g.1.toInt64 + g.2.2.2.2.2.2.2.2.2.2.1) - g.2.2.2.2.2.2.2.2.2.1.toInt64) < ((g.2.2.2.2.2.2.2.2.2.2.2.2.2.1 ((rX0_placeOf (g.2.2.1 - 1)).toNatClampNeg)).toInt64) then ((g.2.2.2.2.2.2.2.2.2.2.2.2.2.1 ((rX0_placeOf (g.2.2.1 - 1)).toNatClampNeg)).toInt64) else ((g.1.toInt64 + g.2.2.2.2.2.2.2.2.2.2.1) - g.2.2.2.2.2.2.2.2.2.1.toInt64)).toInt32) p = g.2.2.2.2.2.2.2.2.2.2.2.2.2.1 p := by rw [pX]; exact pk_un e
    have w2 : upd g.2.2.2.2.2.2.2.2.2.2.2.2.2.2 ((rX0_placeOf (g.2.2.1 - 1)).toNatClampNeg) ((if ((g.2.1.toInt64 + g.2.2.2.2.2.2.2.2.2.2.2.1) - g.2.2.2.2.2.2.2.2.1.toInt64) < ((g.2.2.2.2.2.2.2.2.2.2.2.2.2.2 ((rX0_placeOf (g.2.2.1 - 1)).toNatClampNeg)).toInt64) then ((g.2.1.toInt64 + g.2.2.2.2.2.2.2.2.2.2.2.1) - g.2.2.2.2.2.2.2.2.1.toInt64) else ((g.2.2.2.2.2.2.2.2.2.2.2.2.2.2 ((rX0_placeOf (g.2.2.1 - 1)).toNatClampNeg)).toInt64)).toInt32) p = g.2.2.2.2.2.2.2.2.2.2.2.2.2.2 p := by rw [pX]; exact pk_un e
    show (m_settle a (32 + 2 * p)).toInt = (upd g.2.2.2.2.2.2.2.2.2.2.2.2.2.1 ((rX0_placeOf (g.2.2.1 - 1)).toNatClampNeg) ((if ((g.1.toInt64 + g.2.2.2.2.2.2.2.2.2.2.1) - g.2.2.2.2.2.2.2.2.2.1.toInt64) < ((g.2.2.2.2.2.2.2.2.2.2.2.2.2.1 ((rX0_placeOf (g.2.2.1 - 1)).toNatClampNeg)).toInt64) then ((g.2.2.2.2.2.2.2.2.2.2.2.2.2.1 ((rX0_placeOf (g.2.2.1 - 1)).toNatClampNeg)).toInt64) else ((g.1.toInt64 + g.2.2.2.2.2.2.2.2.2.2.1) - g.2.2.2.2.2.2.2.2.2.1.toInt64)).toInt32) p).toInt ∧ (m_settle a (32 + 2 * p + 1)).toInt = (upd g.2.2.2.2.2.2.2.2.2.2.2.2.2.2 ((rX0_placeOf (g.2.2.1 - 1)).toNatClampNeg) ((if ((g.2.1.toInt64 + g.2.2.2.2.2.2.2.2.2.2.2.1) - g.2.2.2.2.2.2.2.2.1.toInt64) < ((g.2.2.2.2.2.2.2.2.2.2.2.2.2.2 ((rX0_placeOf (g.2.2.1 - 1)).toNatClampNeg)).toInt64) then ((g.2.1.toInt64 + g.2.2.2.2.2.2.2.2.2.2.2.1) - g.2.2.2.2.2.2.2.2.1.toInt64) else ((g.2.2.2.2.2.2.2.2.2.2.2.2.2.2 ((rX0_placeOf (g.2.2.1 - 1)).toNatClampNeg)).toInt64)).toInt32) p).toInt ∧ -120000 ≤ (upd g.2.2.2.2.2.2.2.2.2.2.2.2.2.1 ((rX0_placeOf (g.2.2.1 - 1)).toNatClampNeg) ((if ((g.1.toInt64 + g.2.2.2.2.2.2.2.2.2.2.1) - g.2.2.2.2.2.2.2.2.2.1.toInt64) < ((g.2.2.2.2.2.2.2.2.2.2.2.2.2.1 ((rX0_placeOf (g.2.2.1 - 1)).toNatClampNeg)).toInt64) then ((g.2.2.2.2.2.2.2.2.2.2.2.2.2.1 ((rX0_placeOf (g.2.2.1 - 1)).toNatClampNeg)).toInt64) else ((g.1.toInt64 + g.2.2.2.2.2.2.2.2.2.2.1) - g.2.2.2.2.2.2.2.2.2.1.toInt64)).toInt32) p).toInt ∧ (upd g.2.2.2.2.2.2.2.2.2.2.2.2.2.1 ((rX0_placeOf (g.2.2.1 - 1)).toNatClampNeg) ((if ((g.1.toInt64 + g.2.2.2.2.2.2.2.2.2.2.1) - g.2.2.2.2.2.2.2.2.2.1.toInt64) < ((g.2.2.2.2.2.2.2.2.2.2.2.2.2.1 ((rX0_placeOf (g.2.2.1 - 1)).toNatClampNeg)).toInt64) then ((g.2.2.2.2.2.2.2.2.2.2.2.2.2.1 ((rX0_placeOf (g.2.2.1 - 1)).toNatClampNeg)).toInt64) else ((g.1.toInt64 + g.2.2.2.2.2.2.2.2.2.2.1) - g.2.2.2.2.2.2.2.2.2.1.toInt64)).toInt32) p).toInt ≤ _ ∧ -120000 ≤ (upd g.2.2.2.2.2.2.2.2.2.2.2.2.2.2 ((rX0_placeOf (g.2.2.1 - 1)).toNatClampNeg) ((if ((g.2.1.toInt64 + g.2.2.2.2.2.2.2.2.2.2.2.1) - g.2.2.2.2.2.2.2.2.1.toInt64) < ((g.2.2.2.2.2.2.2.2.2.2.2.2.2.2 ((rX0_placeOf (g.2.2.1 - 1)).toNatClampNeg)).toInt64) then ((g.2.1.toInt64 + g.2.2.2.2.2.2.2.2.2.2.2.1) - g.2.2.2.2.2.2.2.2.1.toInt64) else ((g.2.2.2.2.2.2.2.2.2.2.2.2.2.2 ((rX0_placeOf (g.2.2.1 - 1)).toNatClampNeg)).toInt64)).toInt32) p).toInt ∧ (upd g.2.2.2.2.2.2.2.2.2.2.2.2.2.2 ((rX0_placeOf (g.2.2.1 - 1)).toNatClampNeg) ((if ((g.2.1.toInt64 + g.2.2.2.2.2.2.2.2.2.2.2.1) - g.2.2.2.2.2.2.2.2.1.toInt64) < ((g.2.2.2.2.2.2.2.2.2.2.2.2.2.2 ((rX0_placeOf (g.2.2.1 - 1)).toNatClampNeg)).toInt64) then ((g.2.1.toInt64 + g.2.2.2.2.2.2.2.2.2.2.2.1) - g.2.2.2.2.2.2.2.2.1.toInt64) else ((g.2.2.2.2.2.2.2.2.2.2.2.2.2.2 ((rX0_placeOf (g.2.2.1 - 1)).toNatClampNeg)).toInt64)).toInt32) p).toInt ≤ _
    rw [w1, w2, q _ (by omega), q _ (by omega)]
    exact l3 p hp2 hr2
