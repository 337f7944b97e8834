theorem runs_at (pp pm f fm se : Int64) (a : Nat → Int64) (j : Nat) (hj : j < 20) : m_runs pp pm f fm se a (2 + j) = a (2 + j) + (if j % 5 = 0 then pp else if j % 5 = 1 then pm else if j % 5 = 2 then f else if j % 5 = 3 then fm else se) := by
  have h : j = 0 ∨ j = 1 ∨ j = 2 ∨ j = 3 ∨ j = 4 ∨ j = 5 ∨ j = 6 ∨ j = 7 ∨ j = 8 ∨ j = 9 ∨ j = 10 ∨ j = 11 ∨ j = 12 ∨ j = 13 ∨ j = 14 ∨ j = 15 ∨ j = 16 ∨ j = 17 ∨ j = 18 ∨ j = 19 := by omega
  rcases h with rfl | rfl | rfl | rfl | rfl | rfl | rfl | rfl | rfl | rfl | rfl | rfl | rfl | rfl | rfl | rfl | rfl | rfl | rfl | rfl <;> rfl
theorem pass_at (pl pm fl fm sec : Int32) (g : LG) (j : Nat) (hj : j < 20) : (sX0_pass pl pm fl fm sec g).2.2.2.2.2.2.2.2.2.2.2.2.1 j = g.2.2.2.2.2.2.2.2.2.2.2.2.1 j + (if j % 5 = 0 then pl.toInt64 else if j % 5 = 1 then pm.toInt64 else if j % 5 = 2 then fl.toInt64 else if j % 5 = 3 then fm.toInt64 else sec.toInt64) := by
  have h : j = 0 ∨ j = 1 ∨ j = 2 ∨ j = 3 ∨ j = 4 ∨ j = 5 ∨ j = 6 ∨ j = 7 ∨ j = 8 ∨ j = 9 ∨ j = 10 ∨ j = 11 ∨ j = 12 ∨ j = 13 ∨ j = 14 ∨ j = 15 ∨ j = 16 ∨ j = 17 ∨ j = 18 ∨ j = 19 := by omega
  rcases h with rfl | rfl | rfl | rfl | rfl | rfl | rfl | rfl | rfl | rfl | rfl | rfl | rfl | rfl | rfl | rfl | rfl | rfl | rfl | rfl <;> rfl
theorem runs_out (pp pm f fm se : Int64) (a : Nat → Int64) (j : Nat) (hj : j < 2 ∨ (22 ≤ j ∧ j < 28) ∨ 30 ≤ j) : m_runs pp pm f fm se a j = a j := by
  unfold m_runs
  repeat rw [pk_uLn (by omega)]
theorem LR_pass {N : Nat} {C al : Int} {g : LG} {a : Nat → Int64} {pl pm fl fm sec : Int32} (h1 : 0 ≤ pl.toInt) (h2 : pl.toInt ≤ pm.toInt) (h3 : pm.toInt ≤ 7200000) (h4 : 0 ≤ fl.toInt) (h5 : fl.toInt ≤ 10000) (h6 : 0 ≤ fm.toInt) (h7 : fm.toInt ≤ 3600000) (h8 : 0 ≤ sec.toInt) (h9 : sec.toInt ≤ 36000) (hN : N ≤ 2000) (h : LR N C al g a) : LR (N + 1) C (al + pm.toInt) (sX0_pass pl pm fl fm sec g) ((m_runs pl.toInt64 pm.toInt64 fl.toInt64 fm.toInt64 sec.toInt64 a)) := by
  obtain ⟨l0, l1, l2, l3⟩ := h
  refine ⟨?_, ?_, ?_, ?_⟩
  · have q : ∀ j, (j < 2 ∨ (22 ≤ j ∧ j < 28) ∨ 30 ≤ j) → (m_runs pl.toInt64 pm.toInt64 fl.toInt64 fm.toInt64 sec.toInt64 a) j = a j := fun j hj => runs_out _ _ _ _ _ a j hj
    obtain ⟨⟨e0, e1, e22, e23, e24, e25, e26, e27⟩, b0, b1, b2, b3, b4, b5, b6, b7, b8, b9, b10, b11, b12, b13, b14, b15⟩ := l0
    exact ⟨⟨by rw [q 0 (by omega)]; exact e0, by rw [q 1 (by omega)]; exact e1, by rw [q 22 (by omega)]; exact e22, by rw [q 23 (by omega)]; exact e23, by rw [q 24 (by omega)]; exact e24, by rw [q 25 (by omega)]; exact e25, by rw [q 26 (by omega)]; exact e26, by rw [q 27 (by omega)]; exact e27⟩, b0, b1, b2, b3, b4, Int.le_trans b5 (by omega), b6, Int.le_trans b7 (by omega), b8, Int.le_trans b9 (by omega), b10, Int.le_trans b11 (by omega), b12, b13, b14, b15⟩
  · intro j hj
    obtain ⟨c1, c2, c3, c4⟩ := l1 j hj
    rw [runs_at _ _ _ _ _ a j hj, pass_at _ _ _ _ _ g j hj, c1]
    have hd : ∃ d : Int64, (if j % 5 = 0 then pl.toInt64 else if j % 5 = 1 then pm.toInt64 else if j % 5 = 2 then fl.toInt64 else if j % 5 = 3 then fm.toInt64 else sec.toInt64) = d ∧ 0 ≤ d.toInt ∧ d.toInt ≤ 7200000 ∧ (j % 5 < 2 → d.toInt ≤ pm.toInt) := by
      refine ⟨_, rfl, ?_⟩
      (repeat' split) <;> rw [w64] <;> refine ⟨by omega, by omega, fun q => by omega⟩
    obtain ⟨d, ed, d1, d2, d3⟩ := hd
    rw [ed]
    have s : (g.2.2.2.2.2.2.2.2.2.2.2.2.1 j + d).toInt = (g.2.2.2.2.2.2.2.2.2.2.2.2.1 j).toInt + d.toInt := fb_addL (by omega) (by omega)
    rw [s]
    exact ⟨rfl, by omega, by omega, fun q => by have := c4 q; have := d3 q; omega⟩
  · intro hz
    obtain ⟨c1, c2, c3, c4, c5, c6, c7, c8, c9, c10, c11, c12, c13⟩ := l2 hz
    have s1 : (g.2.2.2.2.2.2.2.2.2.2.1 + fl.toInt64).toInt = g.2.2.2.2.2.2.2.2.2.2.1.toInt + fl.toInt := by rw [fb_addL (by rw [w64]; omega) (by rw [w64]; omega), w64]
    have s2 : (g.2.2.2.2.2.2.2.2.2.2.2.1 + fm.toInt64).toInt = g.2.2.2.2.2.2.2.2.2.2.2.1.toInt + fm.toInt := by rw [fb_addL (by rw [w64]; omega) (by rw [w64]; omega), w64]
    have s3 : (a 28 + fl.toInt64).toInt = (a 28).toInt + fl.toInt := by rw [fb_addL (by rw [w64]; omega) (by rw [w64]; omega), w64]
    have s4 : (a 29 + fm.toInt64).toInt = (a 29).toInt + fm.toInt := by rw [fb_addL (by rw [w64]; omega) (by rw [w64]; omega), w64]
    have u1 : (m_runs pl.toInt64 pm.toInt64 fl.toInt64 fm.toInt64 sec.toInt64 a) 28 = a 28 + fl.toInt64 := rfl
    have u2 : (m_runs pl.toInt64 pm.toInt64 fl.toInt64 fm.toInt64 sec.toInt64 a) 29 = a 29 + fm.toInt64 := rfl
    have q : ∀ j, (j < 2 ∨ (22 ≤ j ∧ j < 28) ∨ 30 ≤ j) → (m_runs pl.toInt64 pm.toInt64 fl.toInt64 fm.toInt64 sec.toInt64 a) j = a j := fun j hj => runs_out _ _ _ _ _ a j hj
    refine ⟨c1, ?_, ?_, by rw [q 30 (by omega)]; exact c4, by rw [q 31 (by omega)]; exact c5, ?_, ?_, ?_, ?_, c10, c11, c12, c13⟩
    · rw [u1, s3, c2]; exact s1.symm
    · rw [u2, s4, c3]; exact s2.symm
    · show 0 ≤ (g.2.2.2.2.2.2.2.2.2.2.1 + fl.toInt64).toInt
      omega
    · show (g.2.2.2.2.2.2.2.2.2.2.1 + fl.toInt64).toInt ≤ _
      omega
    · show 0 ≤ (g.2.2.2.2.2.2.2.2.2.2.2.1 + fm.toInt64).toInt
      omega
    · show (g.2.2.2.2.2.2.2.2.2.2.2.1 + fm.toInt64).toInt ≤ _
      omega
  · exact L3_more (g := sX0_pass pl pm fl fm sec g) (L3_cong (g := sX0_pass pl pm fl fm sec g) l3 (fun j h _ => runs_out _ _ _ _ _ a j (by omega))) (by omega)
theorem LR_step {N : Nat} {C al : Int} {g : LG} {a : Nat → Int64} (hC : C ≤ 120000) (h : LR N C al g a) : LR N C al (sX0_showStep g) (m_step a) := by
  refine ⟨step_ok hC h.1, L1_cong h.2.1 (fun j hj => step_out (by omega)), L2_cong (g := sX0_showStep g) h.2.2.1 (fun j h1 h2 => step_out (by omega)), L3_cong (g := sX0_showStep g) h.2.2.2 (fun j h1 h2 => step_out (by omega))⟩
def m_burn (f : Int64) (a : Nat → Int64) : Nat → Int64 := if lg_cmp f (a 1) ≤ 0 then vp_updL (vp_updL a 0 (rX4_less (a 0) f)) 1 (rX4_less (a 1) f) else vp_updL (vp_updL (vp_updL (vp_updL a 24 (a 24 + 1)) 27 0) 0 (rX4_less (a 0) f)) 1 (rX4_less (a 1) f)
theorem less_ok {x f : Int32} {y F : Int64} (hy : y.toInt = x.toInt) (hF : F.toInt = f.toInt) (h0 : 0 ≤ x.toInt) (h1 : x.toInt ≤ 120000) (h2 : 0 ≤ f.toInt) (h3 : f.toInt ≤ 3600000) : (rX4_less y F).toInt = (if 0 < (x - f) then (x - f) else 0).toInt ∧ 0 ≤ (if 0 < (x - f) then (x - f) else 0).toInt ∧ (if 0 < (x - f) then (x - f) else 0).toInt ≤ x.toInt := by
  have s1 : (x - f).toInt = x.toInt - f.toInt := fb_subI (by omega) (by omega)
  have s2 : (y - F).toInt = x.toInt - f.toInt := by rw [fb_subL (by omega) (by omega)]; omega
  unfold rX4_less
  by_cases c : x.toInt ≤ f.toInt
  · have e1 : (if 0 < (x - f) then (x - f) else 0) = 0 := if_neg (fun q => by rw [fa_lt, x0, s1] at q; omega)
    have e2 : (if lg_cmp y F ≤ 0 then 0 else y - F) = 0 := if_pos (cleI.mpr (by omega))
    rw [e1, e2, x0, y0]
    omega
  · have e1 : (if 0 < (x - f) then (x - f) else 0) = x - f := if_pos ((fa_lt _ _).mpr (by rw [x0, s1]; omega))
    have e2 : (if lg_cmp y F ≤ 0 then 0 else y - F) = y - F := if_neg (fun q => by rw [cleI] at q; omega)
    rw [e1, e2, s1, s2]
    omega
theorem LR_burn {N : Nat} {C al : Int} {g : LG} {a : Nat → Int64} {f : Int32} (h2 : 0 ≤ f.toInt) (h3 : f.toInt ≤ 10000) (hC : C ≤ 120000) (hN : N ≤ 2000) (h : LR N C al g a) : LR (N + 1) C al (sX0_burn f g) (m_burn f.toInt64 a) := by
  obtain ⟨l0, l1, l2, l3⟩ := h
  have l0' := l0
  obtain ⟨⟨e0, e1, e22, e23, e24, e25, e26, e27⟩, b0, b1, b2, b3, b4, b5, b6, b7, b8, b9, b10, b11, b12, b13, b14, b15⟩ := l0
  obtain ⟨p1, p2, p3⟩ := less_ok (x := g.1) (f := f) (y := a 0) (F := f.toInt64) e0 (w64 f) b0 (by omega) h2 (by omega)
  obtain ⟨q1, q2, q3⟩ := less_ok (x := g.2.1) (f := f) (y := a 1) (F := f.toInt64) e1 (w64 f) b2 (by omega) h2 (by omega)
  by_cases c : f.toInt ≤ g.2.1.toInt
  · have eX : sX0_burn f g = (if 0 < (g.1 - f) then (g.1 - f) else 0, if 0 < (g.2.1 - f) then (g.2.1 - f) else 0, g.2.2.1, g.2.2.2.1, g.2.2.2.2.1, g.2.2.2.2.2.1, g.2.2.2.2.2.2.1, g.2.2.2.2.2.2.2.1, g.2.2.2.2.2.2.2.2.1, g.2.2.2.2.2.2.2.2.2.1, g.2.2.2.2.2.2.2.2.2.2.1, g.2.2.2.2.2.2.2.2.2.2.2.1, g.2.2.2.2.2.2.2.2.2.2.2.2.1, g.2.2.2.2.2.2.2.2.2.2.2.2.2.1, g.2.2.2.2.2.2.2.2.2.2.2.2.2.2) := if_pos ((fa_le _ _).mpr c)
    have eM : m_burn f.toInt64 a = vp_updL (vp_updL a 0 (rX4_less (a 0) f.toInt64)) 1 (rX4_less (a 1) f.toInt64) := if_pos (cleI.mpr (by rw [w64]; omega))
    have q : ∀ j, 2 ≤ j → m_burn f.toInt64 a j = a j := fun j hj => by rw [eM, pk_uLn (by omega), pk_uLn (by omega)]
    refine ⟨?_, L1_more (L1_cong (b := m_burn f.toInt64 a) (by rw [eX]; exact l1) (fun j hj => q _ (by omega))) (by omega) (by omega), L2_more (L2_cong (g := sX0_burn f g) (b := m_burn f.toInt64 a) (by rw [eX]; exact l2) (fun j h1 _ => q j (by omega))) (by omega), L3_more (L3_cong (g := sX0_burn f g) (b := m_burn f.toInt64 a) (by rw [eX]; exact l3) (fun j h1 _ => q j (by omega))) (by omega)⟩
    refine ⟨⟨?_, ?_, ?_, ?_, ?_, ?_, ?_, ?_⟩, ?_⟩
    · rw [eM, eX]; exact p1
    · rw [eM, eX]; exact q1
    · rw [q 22 (by omega), eX]; exact e22
    · rw [q 23 (by omega), eX]; exact e23
    · rw [q 24 (by omega), eX]; exact e24
    · rw [q 25 (by omega), eX]; exact e25
    · rw [q 26 (by omega), eX]; exact e26
    · rw [q 27 (by omega), eX]; exact e27
    rw [eX]
    exact ⟨p2, Int.le_trans p3 b1, q2, Int.le_trans q3 b3, b4, Int.le_trans b5 (by omega), b6, Int.le_trans b7 (by omega), b8, Int.le_trans b9 (by omega), b10, Int.le_trans b11 (by omega), b12, b13, b14, b15⟩
  · have eX : sX0_burn f g = (if 0 < (g.1 - f) then (g.1 - f) else 0, if 0 < (g.2.1 - f) then (g.2.1 - f) else 0, g.2.2.1, g.2.2.2.1, g.2.2.2.2.1 + 1, g.2.2.2.2.2.1, g.2.2.2.2.2.2.1, 0, g.2.2.2.2.2.2.2.2.1, g.2.2.2.2.2.2.2.2.2.1, g.2.2.2.2.2.2.2.2.2.2.1, g.2.2.2.2.2.2.2.2.2.2.2.1, g.2.2.2.2.2.2.2.2.2.2.2.2.1, g.2.2.2.2.2.2.2.2.2.2.2.2.2.1, g.2.2.2.2.2.2.2.2.2.2.2.2.2.2) := if_neg (fun q => c ((fa_le _ _).mp q))
    have eM : m_burn f.toInt64 a = vp_updL (vp_updL (vp_updL (vp_updL a 24 (a 24 + 1)) 27 0) 0 (rX4_less (a 0) f.toInt64)) 1 (rX4_less (a 1) f.toInt64) := if_neg (fun q => by rw [cleI, w64] at q; omega)
    have q : ∀ j, 2 ≤ j → j ≠ 24 → j ≠ 27 → m_burn f.toInt64 a j = a j := fun j hj h24 h27 => by rw [eM, pk_uLn (by omega), pk_uLn (by omega), pk_uLn (by omega), pk_uLn (by omega)]
    have s1 : (g.2.2.2.2.1 + 1).toInt = g.2.2.2.2.1.toInt + 1 := by rw [fb_addI (by rw [x1]; omega) (by rw [x1]; omega), x1]
    have s2 : (a 24 + 1).toInt = (a 24).toInt + 1 := by rw [fb_addL (by rw [y1]; omega) (by rw [y1]; omega), y1]
    refine ⟨?_, L1_more (L1_cong (b := m_burn f.toInt64 a) (by rw [eX]; exact l1) (fun j hj => q _ (by omega) (by omega) (by omega))) (by omega) (by omega), ?_, L3_more (L3_cong (g := sX0_burn f g) (b := m_burn f.toInt64 a) (by rw [eX]; exact l3) (fun j h1 _ => q j (by omega) (by omega) (by omega))) (by omega)⟩
    · refine ⟨⟨?_, ?_, ?_, ?_, ?_, ?_, ?_, ?_⟩, ?_⟩
      · rw [eM, eX]; exact p1
      · rw [eM, eX]; exact q1
      · rw [q 22 (by omega) (by omega) (by omega), eX]; exact e22
      · rw [q 23 (by omega) (by omega) (by omega), eX]; exact e23
      · rw [eM, eX]
        show (a 24 + 1).toInt = (g.2.2.2.2.1 + 1).toInt
        omega
      · rw [q 25 (by omega) (by omega) (by omega), eX]; exact e25
      · rw [q 26 (by omega) (by omega) (by omega), eX]; exact e26
      · rw [eM, eX]; rfl
      rw [eX]
      exact ⟨p2, Int.le_trans p3 b1, q2, Int.le_trans q3 b3, b4, Int.le_trans b5 (by omega), b6, Int.le_trans b7 (by omega), show 0 ≤ (g.2.2.2.2.1 + 1).toInt by omega, show (g.2.2.2.2.1 + 1).toInt ≤ _ by omega, b10, Int.le_trans b11 (by omega), b12, b13, (by decide : (0 : Int) ≤ (0 : Int32).toInt), (by decide : (0 : Int32).toInt ≤ 1)⟩
    · intro hz
      rw [eX] at hz
      exact absurd (show (0 : Int32).toInt = 1 from hz) (by decide)
def m_doubt (f : Int64) (a : Nat → Int64) : Nat → Int64 := vp_updL a 0 (rX4_less (a 0) f)
theorem LR_doubt {N : Nat} {C al : Int} {g : LG} {a : Nat → Int64} {f : Int32} {F : Int64} (hF : F.toInt = f.toInt) (h2 : 0 ≤ f.toInt) (h3 : f.toInt ≤ 3600000) (hC : C ≤ 120000) (h : LR N C al g a) : LR N C al (sX0_doubt f g) (m_doubt F a) := by
  obtain ⟨l0, l1, l2, l3⟩ := h
  obtain ⟨⟨e0, e1, e22, e23, e24, e25, e26, e27⟩, b0, b1, b2, b3, b4, b5, b6, b7, b8, b9, b10, b11, b12, b13, b14, b15⟩ := l0
  obtain ⟨p1, p2, p3⟩ := less_ok (x := g.1) (f := f) (y := a 0) (F := F) e0 hF b0 (by omega) h2 (by omega)
  have q : ∀ j, 1 ≤ j → m_doubt F a j = a j := fun j hj => pk_uLn (by omega)
  refine ⟨?_, L1_cong (b := m_doubt F a) l1 (fun j hj => q _ (by omega)), L2_cong (g := sX0_doubt f g) (b := m_doubt F a) l2 (fun j h1 _ => q j (by omega)), L3_cong (g := sX0_doubt f g) (b := m_doubt F a) l3 (fun j h1 _ => q j (by omega))⟩
  exact ⟨⟨p1, by rw [q 1 (by omega)]; exact e1, by rw [q 22 (by omega)]; exact e22, by rw [q 23 (by omega)]; exact e23, by rw [q 24 (by omega)]; exact e24, by rw [q 25 (by omega)]; exact e25, by rw [q 26 (by omega)]; exact e26, by rw [q 27 (by omega)]; exact e27⟩, p2, Int.le_trans p3 b1, b2, b3, b4, b5, b6, b7, b8, b9, b10, b11, b12, b13, b14, b15⟩
theorem comm_burn (f pl pm fl fm sec : Int32) (g : LG) : sX0_burn f (sX0_pass pl pm fl fm sec g) = sX0_pass pl pm fl fm sec (sX0_burn f g) := by
  by_cases h : f ≤ g.2.1
  · have e1 : sX0_burn f g = _ := if_pos h
    have e2 : sX0_burn f (sX0_pass pl pm fl fm sec g) = _ := if_pos h
    rw [e1, e2]
    rfl
  · have e1 : sX0_burn f g = _ := if_neg h
    have e2 : sX0_burn f (sX0_pass pl pm fl fm sec g) = _ := if_neg h
    rw [e1, e2]
    rfl
theorem comm_doubt (f pl pm fl fm sec : Int32) (g : LG) : sX0_doubt f (sX0_pass pl pm fl fm sec g) = sX0_pass pl pm fl fm sec (sX0_doubt f g) := rfl
