theorem LR_loss {N : Nat} {C al : Int} {g : LG} {a : Nat → Int64} (hN : N ≤ 2000) (h : LR N C al g a) : LR (N + 1) C al (g.1, g.2.1, g.2.2.1, g.2.2.2.1 + 1, g.2.2.2.2.1, g.2.2.2.2.2.1, g.2.2.2.2.2.2.1, 0, g.2.2.2.2.2.2.2.2.1, g.2.2.2.2.2.2.2.2.2.1, g.2.2.2.2.2.2.2.2.2.2.1, g.2.2.2.2.2.2.2.2.2.2.2.1, g.2.2.2.2.2.2.2.2.2.2.2.2.1, g.2.2.2.2.2.2.2.2.2.2.2.2.2.1, g.2.2.2.2.2.2.2.2.2.2.2.2.2.2) (vp_updL (vp_updL a 23 (a 23 + 1)) 27 0) := by
  obtain ⟨l0, l1, l2, l3⟩ := h
  have q : ∀ j : Nat, (j ≠ 23 ∧ j ≠ 27) → vp_updL (vp_updL a 23 (a 23 + 1)) 27 0 j = a j := fun j hj => by rw [pk_uLn hj.2, pk_uLn hj.1]
  obtain ⟨⟨e0, e1, e22, e23, e24, e25, e26, e27⟩, b0, b1, b2, b3, b4, b5, b6, b7, b8, b9, b10, b11, b12, b13, b14, b15⟩ := l0
  have s1 : (g.2.2.2.1 + 1).toInt = g.2.2.2.1.toInt + 1 := by rw [fb_addI (by rw [x1]; omega) (by rw [x1]; omega), x1]
  have s2 : (a 23 + 1).toInt = (a 23).toInt + 1 := by rw [fb_addL (by rw [y1]; omega) (by rw [y1]; omega), y1]
  have p23 : vp_updL (vp_updL a 23 (a 23 + 1)) 27 0 23 = a 23 + 1 := rfl
  refine ⟨⟨⟨by rw [q 0 (by omega)]; exact e0, by rw [q 1 (by omega)]; exact e1, by rw [q 22 (by omega)]; exact e22, show (a 23 + 1).toInt = (g.2.2.2.1 + 1).toInt by omega, by rw [q 24 (by omega)]; exact e24, by rw [q 25 (by omega)]; exact e25, by rw [q 26 (by omega)]; exact e26, rfl⟩, b0, b1, b2, b3, b4, Int.le_trans b5 (by omega), show 0 ≤ (g.2.2.2.1 + 1).toInt by omega, show (g.2.2.2.1 + 1).toInt ≤ _ by omega, b8, Int.le_trans b9 (by omega), b10, Int.le_trans b11 (by omega), b12, b13, (by decide : (0 : Int) ≤ (0 : Int32).toInt), (by decide : (0 : Int32).toInt ≤ 1)⟩, L1_more (L1_cong l1 (fun j hj => q _ (by omega))) (by omega) (by omega), fun hz => absurd (show (0 : Int32).toInt = 1 from hz) (by decide), L3_more (L3_cong (g := (g.1, g.2.1, g.2.2.1, g.2.2.2.1 + 1, g.2.2.2.2.1, g.2.2.2.2.2.1, g.2.2.2.2.2.2.1, 0, g.2.2.2.2.2.2.2.2.1, g.2.2.2.2.2.2.2.2.2.1, g.2.2.2.2.2.2.2.2.2.2.1, g.2.2.2.2.2.2.2.2.2.2.2.1, g.2.2.2.2.2.2.2.2.2.2.2.2.1, g.2.2.2.2.2.2.2.2.2.2.2.2.2.1, g.2.2.2.2.2.2.2.2.2.2.2.2.2.2)) l3 (fun j h1 _ => q j (by omega))) (by omega)⟩
def m_ref1 (x y : Int64) (q : Int32) (a : Nat → Int64) : Nat → Int64 := vp_updL (vp_updL a q.toNatClampNeg (x - a 1)) ((q + 1).toNatClampNeg) (y - ((vp_updL a q.toNatClampNeg (x - a 1)) 0))
def m_ref2 (b : Nat → Int64) : Nat → Int64 := vp_updL (vp_updL (vp_updL (vp_updL (vp_updL b 22 (b 22 + 1)) 30 (b 0)) 31 (b 1)) 28 0) 29 0
theorem ref_at {a : Nat → Int64} {x y : Int64} {r : Nat} (h22 : (a 22).toInt = r) : ∃ b : Nat → Int64, vp_updL (m_ref2 (m_ref1 x y (rX4_place (a 22)) a)) 27 1 = b ∧ b 22 = a 22 + 1 ∧ b 27 = 1 ∧ b 28 = 0 ∧ b 29 = 0 ∧ b 30 = a 0 ∧ b 31 = a 1 ∧ b (32 + 2 * (r % 30)) = x - a 1 ∧ b (32 + 2 * (r % 30) + 1) = y - a 0 ∧ ∀ j : Nat, (j ≠ 22 ∧ j ≠ 27 ∧ (j < 28 ∨ 31 < j) ∧ j ≠ 32 + 2 * (r % 30) ∧ j ≠ 32 + 2 * (r % 30) + 1) → b j = a j := by
  obtain ⟨pM, qM⟩ := placeM (y := a 22) (r := r) h22
  have hp : r % 30 < 30 := Nat.mod_lt _ (by decide)
  have c1 : m_ref1 x y (rX4_place (a 22)) a = vp_updL (vp_updL a (32 + 2 * (r % 30)) (x - a 1)) (32 + 2 * (r % 30) + 1) (y - a 0) := by
    unfold m_ref1
    rw [pM, qM, pk_uLn (show (0 : Nat) ≠ 32 + 2 * (r % 30) by omega)]
  have c2 : ∀ j : Nat, j ≠ 32 + 2 * (r % 30) → j ≠ 32 + 2 * (r % 30) + 1 → m_ref1 x y (rX4_place (a 22)) a j = a j := fun j h5 h6 => by rw [c1, pk_uLn h6, pk_uLn h5]
  have c3 : m_ref1 x y (rX4_place (a 22)) a (32 + 2 * (r % 30)) = x - a 1 := by rw [c1, pk_uLn (by omega), pk_uLs]
  have c4 : m_ref1 x y (rX4_place (a 22)) a (32 + 2 * (r % 30) + 1) = y - a 0 := by rw [c1, pk_uLs]
  generalize m_ref1 x y (rX4_place (a 22)) a = b at c1 c2 c3 c4 ⊢
  have d0 : b 0 = a 0 := c2 0 (by omega) (by omega)
  have d1 : b 1 = a 1 := c2 1 (by omega) (by omega)
  have d22 : b 22 = a 22 := c2 22 (by omega) (by omega)
  have kp : ∀ j : Nat, (j ≠ 22 ∧ j ≠ 27 ∧ (j < 28 ∨ 31 < j)) → vp_updL (m_ref2 b) 27 1 j = b j := fun j hj => by
    unfold m_ref2
    rw [pk_uLn (by omega), pk_uLn (by omega), pk_uLn (by omega), pk_uLn (by omega), pk_uLn (by omega), pk_uLn (by omega)]
  refine ⟨_, rfl, ?_, pk_uLs, ?_, ?_, ?_, ?_, ?_, ?_, fun j hj => ?_⟩
  · unfold m_ref2
    rw [pk_uLn (by decide), pk_uLn (by decide), pk_uLn (by decide), pk_uLn (by decide), pk_uLn (by decide), pk_uLs, d22]
  · unfold m_ref2
    rw [pk_uLn (by decide), pk_uLn (by decide), pk_uLs]
  · unfold m_ref2
    rw [pk_uLn (by decide), pk_uLs]
  · unfold m_ref2
    rw [pk_uLn (by decide), pk_uLn (by decide), pk_uLn (by decide), pk_uLn (by decide), pk_uLs, d0]
  · unfold m_ref2
    rw [pk_uLn (by decide), pk_uLn (by decide), pk_uLn (by decide), pk_uLs, d1]
  · rw [kp _ (by omega), c3]
  · rw [kp _ (by omega), c4]
  · rw [kp _ (by omega)]
    exact c2 j (by omega) (by omega)
theorem LR_refill {N : Nat} {C al : Int} {g : LG} {a : Nat → Int64} {lo hi : Int32} {x y : Int64} (hC : C ≤ 120000) (hN : N ≤ 2000) (hx : x.toInt = lo.toInt) (hy : y.toInt = hi.toInt) (h1 : 0 ≤ lo.toInt) (h2 : lo.toInt ≤ C) (h3 : 0 ≤ hi.toInt) (h4 : hi.toInt ≤ C) (h : LR N C al g a) : LR (N + 1) C al (g.1, g.2.1, g.2.2.1 + 1, g.2.2.2.1, g.2.2.2.2.1, g.2.2.2.2.2.1, g.2.2.2.2.2.2.1, 1, g.1, g.2.1, 0, 0, g.2.2.2.2.2.2.2.2.2.2.2.2.1, upd g.2.2.2.2.2.2.2.2.2.2.2.2.2.1 ((rX0_placeOf g.2.2.1).toNatClampNeg) (lo - g.2.1), upd g.2.2.2.2.2.2.2.2.2.2.2.2.2.2 ((rX0_placeOf g.2.2.1).toNatClampNeg) (hi - g.1)) (vp_updL (m_ref2 (m_ref1 x y (rX4_place (a 22)) a)) 27 1) := by
  obtain ⟨l0, l1, l2, l3⟩ := h
  obtain ⟨⟨e0, e1, e22, e23, e24, e25, e26, e27⟩, b0, b1, b2, b3, b4, b5, b6, b7, b8, b9, b10, b11, b12, b13, b14, b15⟩ := l0
  obtain ⟨r, hr⟩ := nat_of (z := g.2.2.1.toInt) b4
  have pX := placeX hr
  have hp : r % 30 < 30 := Nat.mod_lt _ (by decide)
  obtain ⟨b, hb, k22, k27, k28, k29, k30, k31, c3, c4, q⟩ := ref_at (x := x) (y := y) (a := a) (r := r) (by omega)
  rw [hb]
  have s1 : (g.2.2.1 + 1).toInt = g.2.2.1.toInt + 1 := by rw [fb_addI (by rw [x1]; omega) (by rw [x1]; omega), x1]
  have s2 : (a 22 + 1).toInt = (a 22).toInt + 1 := by rw [fb_addL (by rw [y1]; omega) (by rw [y1]; omega), y1]
  have t1 : (x - a 1).toInt = lo.toInt - g.2.1.toInt := by rw [fb_subL (by omega) (by omega)]; omega
  have t2 : (y - a 0).toInt = hi.toInt - g.1.toInt := by rw [fb_subL (by omega) (by omega)]; omega
  have t3 : (lo - g.2.1).toInt = lo.toInt - g.2.1.toInt := fb_subI (by omega) (by omega)
  have t4 : (hi - g.1).toInt = hi.toInt - g.1.toInt := fb_subI (by omega) (by omega)
  have g22 : (b 22).toInt = (g.2.2.1 + 1).toInt := by rw [k22]; omega
  have g27 : (b 27).toInt = (1 : Int32).toInt := by rw [k27, y1, x1]
  have z0 : 0 ≤ (0 : Int64).toInt := by rw [y0]; omega
  have z1 : (0 : Int64).toInt ≤ 10000 * ((N + 1 : Nat) : Int) := by rw [y0]; omega
  have z2 : (0 : Int64).toInt ≤ 3600000 * ((N + 1 : Nat) : Int) := by rw [y0]; omega
  have z3 : 1 ≤ (g.2.2.1 + 1).toInt := by omega
  have z4 : 0 ≤ (g.2.2.1 + 1).toInt := by omega
  have z5 : (g.2.2.1 + 1).toInt ≤ ((N + 1 : Nat) : Int) := by omega
  have y28 : (b 28).toInt = (0 : Int64).toInt := by rw [k28]
  have y29 : (b 29).toInt = (0 : Int64).toInt := by rw [k29]
  have y30 : (b 30).toInt = g.1.toInt := by rw [k30]; exact e0
  have y31 : (b 31).toInt = g.2.1.toInt := by rw [k31]; exact e1
  have f3 : ∀ p : Nat, p < 30 → (p : Int) < (g.2.2.1 + 1).toInt → (b (32 + 2 * p)).toInt = (upd g.2.2.2.2.2.2.2.2.2.2.2.2.2.1 ((rX0_placeOf g.2.2.1).toNatClampNeg) (lo - g.2.1) p).toInt ∧ (b (32 + 2 * p + 1)).toInt = (upd g.2.2.2.2.2.2.2.2.2.2.2.2.2.2 ((rX0_placeOf g.2.2.1).toNatClampNeg) (hi - g.1) p).toInt ∧ -120000 ≤ (upd g.2.2.2.2.2.2.2.2.2.2.2.2.2.1 ((rX0_placeOf g.2.2.1).toNatClampNeg) (lo - g.2.1) p).toInt ∧ (upd g.2.2.2.2.2.2.2.2.2.2.2.2.2.1 ((rX0_placeOf g.2.2.1).toNatClampNeg) (lo - g.2.1) p).toInt ≤ 120000 + 10000 * ((N + 1 : Nat) : Int) ∧ -120000 ≤ (upd g.2.2.2.2.2.2.2.2.2.2.2.2.2.2 ((rX0_placeOf g.2.2.1).toNatClampNeg) (hi - g.1) p).toInt ∧ (upd g.2.2.2.2.2.2.2.2.2.2.2.2.2.2 ((rX0_placeOf g.2.2.1).toNatClampNeg) (hi - g.1) p).toInt ≤ 120000 := by
    intro p hp2 hr2
    rw [pX]
    by_cases e : p = r % 30
    · subst e
      rw [pk_us, pk_us, c3, c4, t1, t2, t3, t4]
      exact ⟨rfl, rfl, by omega, by omega, by omega, by omega⟩
    · rw [pk_un e, pk_un e, q _ (by omega), q _ (by omega)]
      have hpr : (p : Int) < g.2.2.1.toInt := by
        rcases Nat.lt_or_ge p r with q1 | q1
        · omega
        · exfalso
          have : p = r := by omega
          subst this
          exact e (Nat.mod_eq_of_lt hp2).symm
      obtain ⟨f1, f2, f3, f4, f5, f6⟩ := l3 p hp2 hpr
      exact ⟨f1, f2, f3, by omega, f5, f6⟩
  have f1 := L1_more (N' := N + 1) (al' := al) (L1_cong l1 (fun j hj => q (2 + j) (by omega))) (by omega) (by omega)
  exact ⟨⟨⟨by rw [q 0 (by omega)]; exact e0, by rw [q 1 (by omega)]; exact e1, g22, by rw [q 23 (by omega)]; exact e23, by rw [q 24 (by omega)]; exact e24, by rw [q 25 (by omega)]; exact e25, by rw [q 26 (by omega)]; exact e26, g27⟩, b0, b1, b2, b3, z4, z5, b6, Int.le_trans b7 (by omega), b8, Int.le_trans b9 (by omega), b10, Int.le_trans b11 (by omega), b12, b13, by rw [x1]; omega, by rw [x1]; omega⟩, f1, fun _ => ⟨z3, y28, y29, y30, y31, z0, z1, z0, z2, b0, Int.le_trans b1 hC, b2, Int.le_trans b3 hC⟩, f3⟩
theorem clear27 (b : Nat → Int64) : vp_updL (m_clear 3 b) 27 1 = m_clear 3 (vp_updL b 27 1) := by
  funext j
  show vp_updL (m_clear (nI 3) b) 27 1 j = m_clear (nI 3) (vp_updL b 27 1) j
  rw [m_clear_at (by decide)]
  by_cases e : j = 27
  · subst e
    rw [pk_uLs, if_neg (by omega), pk_uLs]
  · rw [pk_uLn e, pk_uLn e, m_clear_at (by decide)]
