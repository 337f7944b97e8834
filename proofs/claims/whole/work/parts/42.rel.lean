/-! the Ledger beside the Model's row -/
def L0 (N : Nat) (C : Int) (g : LG) (a : Nat → Int64) : Prop :=
  ((a 0).toInt = g.1.toInt ∧ (a 1).toInt = g.2.1.toInt ∧ (a 22).toInt = g.2.2.1.toInt ∧ (a 23).toInt = g.2.2.2.1.toInt ∧ (a 24).toInt = g.2.2.2.2.1.toInt ∧ (a 25).toInt = g.2.2.2.2.2.2.1.toInt ∧ (a 26).toInt = g.2.2.2.2.2.1.toInt ∧ (a 27).toInt = g.2.2.2.2.2.2.2.1.toInt) ∧
  (0 ≤ g.1.toInt ∧ g.1.toInt ≤ C ∧ 0 ≤ g.2.1.toInt ∧ g.2.1.toInt ≤ C ∧ 0 ≤ g.2.2.1.toInt ∧ g.2.2.1.toInt ≤ N ∧ 0 ≤ g.2.2.2.1.toInt ∧ g.2.2.2.1.toInt ≤ N ∧ 0 ≤ g.2.2.2.2.1.toInt ∧ g.2.2.2.2.1.toInt ≤ N ∧ 0 ≤ g.2.2.2.2.2.1.toInt ∧ g.2.2.2.2.2.1.toInt ≤ N ∧ 0 ≤ g.2.2.2.2.2.2.1.toInt ∧ g.2.2.2.2.2.2.1.toInt ≤ 120 ∧ 0 ≤ g.2.2.2.2.2.2.2.1.toInt ∧ g.2.2.2.2.2.2.2.1.toInt ≤ 1)
def L1 (N : Nat) (al : Int) (m : Nat → Int64) (a : Nat → Int64) : Prop := ∀ j, j < 20 → a (2 + j) = m j ∧ 0 ≤ (m j).toInt ∧ (m j).toInt ≤ 7200000 * (N : Int) ∧ (j % 5 < 2 → (m j).toInt ≤ al)
def L2 (N : Nat) (g : LG) (a : Nat → Int64) : Prop := g.2.2.2.2.2.2.2.1.toInt = 1 → 1 ≤ g.2.2.1.toInt ∧ (a 28).toInt = g.2.2.2.2.2.2.2.2.2.2.1.toInt ∧ (a 29).toInt = g.2.2.2.2.2.2.2.2.2.2.2.1.toInt ∧ (a 30).toInt = g.2.2.2.2.2.2.2.2.1.toInt ∧ (a 31).toInt = g.2.2.2.2.2.2.2.2.2.1.toInt ∧ 0 ≤ g.2.2.2.2.2.2.2.2.2.2.1.toInt ∧ g.2.2.2.2.2.2.2.2.2.2.1.toInt ≤ 10000 * (N : Int) ∧ 0 ≤ g.2.2.2.2.2.2.2.2.2.2.2.1.toInt ∧ g.2.2.2.2.2.2.2.2.2.2.2.1.toInt ≤ 3600000 * (N : Int) ∧ 0 ≤ g.2.2.2.2.2.2.2.2.1.toInt ∧ g.2.2.2.2.2.2.2.2.1.toInt ≤ 120000 ∧ 0 ≤ g.2.2.2.2.2.2.2.2.2.1.toInt ∧ g.2.2.2.2.2.2.2.2.2.1.toInt ≤ 120000
def L3 (N : Nat) (g : LG) (a : Nat → Int64) : Prop := ∀ p : Nat, p < 30 → (p : Int) < g.2.2.1.toInt → (a (32 + 2 * p)).toInt = (g.2.2.2.2.2.2.2.2.2.2.2.2.2.1 p).toInt ∧ (a (32 + 2 * p + 1)).toInt = (g.2.2.2.2.2.2.2.2.2.2.2.2.2.2 p).toInt ∧ -120000 ≤ (g.2.2.2.2.2.2.2.2.2.2.2.2.2.1 p).toInt ∧ (g.2.2.2.2.2.2.2.2.2.2.2.2.2.1 p).toInt ≤ 120000 + 10000 * (N : Int) ∧ -120000 ≤ (g.2.2.2.2.2.2.2.2.2.2.2.2.2.2 p).toInt ∧ (g.2.2.2.2.2.2.2.2.2.2.2.2.2.2 p).toInt ≤ 120000
def LR (N : Nat) (C al : Int) (g : LG) (a : Nat → Int64) : Prop := L0 N C g a ∧ L1 N al g.2.2.2.2.2.2.2.2.2.2.2.2.1 a ∧ L2 N g a ∧ L3 N g a
def wn (v : MS) (a : Nat → Int64) : MS := (v.1, v.2.1, v.2.2.1, a, v.2.2.2.2.1, v.2.2.2.2.2.1, v.2.2.2.2.2.2.1, v.2.2.2.2.2.2.2.1, v.2.2.2.2.2.2.2.2.1, v.2.2.2.2.2.2.2.2.2.1, v.2.2.2.2.2.2.2.2.2.2.1, v.2.2.2.2.2.2.2.2.2.2.2.1, v.2.2.2.2.2.2.2.2.2.2.2.2.1, v.2.2.2.2.2.2.2.2.2.2.2.2.2.1, v.2.2.2.2.2.2.2.2.2.2.2.2.2.2.1, v.2.2.2.2.2.2.2.2.2.2.2.2.2.2.2.1, v.2.2.2.2.2.2.2.2.2.2.2.2.2.2.2.2)
def wna (v : MS) (a : Nat → Int64) (al : Int64) : MS := (v.1, v.2.1, v.2.2.1, a, v.2.2.2.2.1, v.2.2.2.2.2.1, v.2.2.2.2.2.2.1, v.2.2.2.2.2.2.2.1, v.2.2.2.2.2.2.2.2.1, v.2.2.2.2.2.2.2.2.2.1, v.2.2.2.2.2.2.2.2.2.2.1, v.2.2.2.2.2.2.2.2.2.2.2.1, al, v.2.2.2.2.2.2.2.2.2.2.2.2.2.1, v.2.2.2.2.2.2.2.2.2.2.2.2.2.2.1, v.2.2.2.2.2.2.2.2.2.2.2.2.2.2.2.1, v.2.2.2.2.2.2.2.2.2.2.2.2.2.2.2.2)
def m_step (a : Nat → Int64) : Nat → Int64 := if 0 ≤ lg_cmp (a 25) ((a 0 + a 1) / 2000) then (if lg_cmp (a 25) ((a 0 + a 1) / 2000) ≤ 0 then a else vp_updL a 25 (a 25 - 1)) else vp_updL a 25 (a 25 + 1)
theorem step_wn (v : MS) : sX4_step v = wn v (m_step v.2.2.2.1) := by
  unfold sX4_step m_step rX4_truth
  by_cases h : 0 ≤ lg_cmp (v.2.2.2.1 25) ((v.2.2.2.1 0 + v.2.2.2.1 1) / 2000)
  · rw [if_pos h, if_pos h]
    by_cases h2 : lg_cmp (v.2.2.2.1 25) ((v.2.2.2.1 0 + v.2.2.2.1 1) / 2000) ≤ 0
    · rw [if_pos h2, if_pos h2]
      rfl
    · rw [if_neg h2, if_neg h2]
      rfl
  · rw [if_neg h, if_neg h]
    rfl
def m_runs (pp pm f fm se : Int64) (a : Nat → Int64) : Nat → Int64 := vp_updL (vp_updL (vp_updL (vp_updL (vp_updL (vp_updL (vp_updL (vp_updL (vp_updL (vp_updL (vp_updL (vp_updL (vp_updL (vp_updL (vp_updL (vp_updL (vp_updL (vp_updL (vp_updL (vp_updL (vp_updL (vp_updL (a) 2 (a 2 + pp)) 3 (a 3 + pm)) 4 (a 4 + f)) 5 (a 5 + fm)) 6 (a 6 + se)) 7 (a 7 + pp)) 8 (a 8 + pm)) 9 (a 9 + f)) 10 (a 10 + fm)) 11 (a 11 + se)) 12 (a 12 + pp)) 13 (a 13 + pm)) 14 (a 14 + f)) 15 (a 15 + fm)) 16 (a 16 + se)) 17 (a 17 + pp)) 18 (a 18 + pm)) 19 (a 19 + f)) 20 (a 20 + fm)) 21 (a 21 + se)) 28 (a 28 + f)) 29 (a 29 + fm)
theorem runs_wn (pp pm f fm se : Int64) (v : MS) : sX4_runs pp pm f fm se v = wna v (m_runs pp pm f fm se v.2.2.2.1) (v.2.2.2.2.2.2.2.2.2.2.2.2.1 + pm) := rfl
theorem truthX {N : Nat} {C : Int} {g : LG} {a : Nat → Int64} (hC : C ≤ 120000) (h : L0 N C g a) : (rX0_truth g).toInt = (g.1.toInt + g.2.1.toInt) / 2000 ∧ ((a 0 + a 1) / 2000).toInt = (g.1.toInt + g.2.1.toInt) / 2000 ∧ 0 ≤ (g.1.toInt + g.2.1.toInt) / 2000 ∧ (g.1.toInt + g.2.1.toInt) / 2000 ≤ 120 := by
  obtain ⟨⟨e0, e1, e22, e23, e24, e25, e26, e27⟩, b0, b1, b2, b3, b4, b5, b6, b7, b8, b9, b10, b11, b12, b13, b14, b15⟩ := h
  unfold rX0_truth
  have s1 : (g.1 + g.2.1).toInt = g.1.toInt + g.2.1.toInt := fb_addI (by omega) (by omega)
  have s2 : (a 0 + a 1).toInt = g.1.toInt + g.2.1.toInt := by rw [fb_addL (by omega) (by omega)]; omega
  refine ⟨?_, ?_, by omega, by omega⟩
  · rw [dvI (by omega) (by decide), s1, x2000]
  · rw [dvL (by omega) (by decide), s2, y2000]
theorem step_out {a : Nat → Int64} {j : Nat} (h : j ≠ 25) : m_step a j = a j := by
  unfold m_step
  split
  · split
    · rfl
    · exact pk_uLn h
  · exact pk_uLn h
theorem step_ok {N : Nat} {C : Int} {g : LG} {a : Nat → Int64} (hC : C ≤ 120000) (h : L0 N C g a) : L0 N C (sX0_showStep g) (m_step a) := by
  obtain ⟨t1, t2, t3, t4⟩ := truthX hC h
  obtain ⟨⟨e0, e1, e22, e23, e24, e25, e26, e27⟩, b0, b1, b2, b3, b4, b5, b6, b7, b8, b9, b10, b11, b12, b13, b14, b15⟩ := h
  have key : (m_step a 25).toInt = (g.2.2.2.2.2.2.1 + (rJ6_compare_7cf53 (rX0_truth g) g.2.2.2.2.2.2.1)).toInt ∧ 0 ≤ (g.2.2.2.2.2.2.1 + (rJ6_compare_7cf53 (rX0_truth g) g.2.2.2.2.2.2.1)).toInt ∧ (g.2.2.2.2.2.2.1 + (rJ6_compare_7cf53 (rX0_truth g) g.2.2.2.2.2.2.1)).toInt ≤ 120 := by
    rcases Int.lt_trichotomy (g.2.2.2.2.2.2.1.toInt) ((g.1.toInt + g.2.1.toInt) / 2000) with c | c | c
    · have hc : rJ6_compare_7cf53 (rX0_truth g) g.2.2.2.2.2.2.1 = 1 := by
        unfold rJ6_compare_7cf53
        rw [if_pos ((fa_le _ _).mpr (by omega)), if_neg (fun q => by rw [fa_eq] at q; omega)]
      have hm : m_step a = vp_updL a 25 (a 25 + 1) := by
        unfold m_step
        rw [if_neg (fun q => by rw [cgeI] at q; omega)]
      rw [hc, hm, fb_addI (by rw [x1]; omega) (by rw [x1]; omega), pk_uLs, fb_addL (by rw [y1]; omega) (by rw [y1]; omega), x1, y1]
      omega
    · have hc : rJ6_compare_7cf53 (rX0_truth g) g.2.2.2.2.2.2.1 = 0 := by
        unfold rJ6_compare_7cf53
        rw [if_pos ((fa_le _ _).mpr (by omega)), if_pos ((fa_eq _ _).mpr (by omega))]
      have hm : m_step a = a := by
        unfold m_step
        rw [if_pos (cgeI.mpr (by omega)), if_pos (cleI.mpr (by omega))]
      rw [hc, hm, fb_addI (by rw [x0]; omega) (by rw [x0]; omega), x0]
      omega
    · have xm : (-1 : Int32).toInt = -1 := by decide
      have hc : rJ6_compare_7cf53 (rX0_truth g) g.2.2.2.2.2.2.1 = -1 := by
        unfold rJ6_compare_7cf53
        rw [if_neg (fun q => by rw [fa_le] at q; omega)]
      have hm : m_step a = vp_updL a 25 (a 25 - 1) := by
        unfold m_step
        rw [if_pos (cgeI.mpr (by omega)), if_neg (fun q => by rw [cleI] at q; omega)]
      rw [hc, hm, fb_addI (by rw [xm]; omega) (by rw [xm]; omega), pk_uLs, fb_subL (by rw [y1]; omega) (by rw [y1]; omega), xm, y1]
      omega
  have q : ∀ j : Nat, j ≠ 25 → m_step a j = a j := fun j hj => step_out hj
  exact ⟨⟨by rw [q 0 (by decide)]; exact e0, by rw [q 1 (by decide)]; exact e1, by rw [q 22 (by decide)]; exact e22, by rw [q 23 (by decide)]; exact e23, by rw [q 24 (by decide)]; exact e24, key.1, by rw [q 26 (by decide)]; exact e26, by rw [q 27 (by decide)]; exact e27⟩, b0, b1, b2, b3, b4, b5, b6, b7, b8, b9, b10, b11, key.2.1, key.2.2, b14, b15⟩
theorem L1_cong {N : Nat} {al : Int} {m a b : Nat → Int64} (h : L1 N al m a) (e : ∀ j, j < 20 → b (2 + j) = a (2 + j)) : L1 N al m b := fun j hj => by
  rw [e j hj]
  exact h j hj
theorem L1_more {N N' : Nat} {al al' : Int} {m a : Nat → Int64} (h : L1 N al m a) (hN : N ≤ N') (ha : al ≤ al') : L1 N' al' m a := fun j hj => by
  obtain ⟨h1, h2, h3, h4⟩ := h j hj
  exact ⟨h1, h2, by omega, fun q => by have := h4 q; omega⟩
theorem L0_more {N N' : Nat} {C : Int} {g : LG} {a : Nat → Int64} (h : L0 N C g a) (hN : N ≤ N') : L0 N' C g a := by
  obtain ⟨⟨e0, e1, e22, e23, e24, e25, e26, e27⟩, b0, b1, b2, b3, b4, b5, b6, b7, b8, b9, b10, b11, b12, b13, b14, b15⟩ := h
  exact ⟨⟨e0, e1, e22, e23, e24, e25, e26, e27⟩, b0, b1, b2, b3, b4, by omega, b6, by omega, b8, by omega, b10, by omega, b12, b13, b14, b15⟩
theorem L2_more {N N' : Nat} {g : LG} {a : Nat → Int64} (h : L2 N g a) (hN : N ≤ N') : L2 N' g a := fun hz => by
  obtain ⟨h1, h2, h3, h4, h5, h6, h7, h8, h9, h10, h11, h12, h13⟩ := h hz
  exact ⟨h1, h2, h3, h4, h5, h6, by omega, h8, by omega, h10, h11, h12, h13⟩
theorem L3_more {N N' : Nat} {g : LG} {a : Nat → Int64} (h : L3 N g a) (hN : N ≤ N') : L3 N' g a := fun p hp hr => by
  obtain ⟨h1, h2, h3, h4, h5, h6⟩ := h p hp hr
  exact ⟨h1, h2, h3, by omega, h5, h6⟩
theorem LR_more {N N' : Nat} {C al al' : Int} {g : LG} {a : Nat → Int64} (h : LR N C al g a) (hN : N ≤ N') (ha : al ≤ al') : LR N' C al' g a := ⟨L0_more h.1 hN, L1_more h.2.1 hN ha, L2_more h.2.2.1 hN, L3_more h.2.2.2 hN⟩
theorem L2_cong {N : Nat} {g : LG} {a b : Nat → Int64} (h : L2 N g a) (e : ∀ j, 28 ≤ j → j ≤ 31 → b j = a j) : L2 N g b := fun hz => by
  rw [e 28 (by decide) (by decide), e 29 (by decide) (by decide), e 30 (by decide) (by decide), e 31 (by decide) (by decide)]
  exact h hz
theorem L3_cong {N : Nat} {g : LG} {a b : Nat → Int64} (h : L3 N g a) (e : ∀ j, 32 ≤ j → j < 92 → b j = a j) : L3 N g b := fun p hp hr => by
  rw [e (32 + 2 * p) (by omega) (by omega), e (32 + 2 * p + 1) (by omega) (by omega)]
  exact h p hp hr
