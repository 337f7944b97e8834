def m_clear (k : Int32) (a : Nat → Int64) : Nat → Int64 := vp_updL (vp_updL (vp_updL (vp_updL (vp_updL (a) (((2 + (5 * k)) + 0).toNatClampNeg) 0) (((2 + (5 * k)) + 1).toNatClampNeg) 0) (((2 + (5 * k)) + 2).toNatClampNeg) 0) (((2 + (5 * k)) + 3).toNatClampNeg) 0) (((2 + (5 * k)) + 4).toNatClampNeg) 0
theorem clear_wn (k : Int32) (v : MS) : sX4_clear k v = wn v (m_clear k v.2.2.2.1) := rfl
theorem clr_ix {c w : Nat} (hc : c < 4) (hw : w < 5) : ((2 + (5 * nI c)) + nI w).toNatClampNeg = 2 + (5 * c + w) ∧ ((nI c * 5) + nI w).toNatClampNeg = 5 * c + w := by
  have e1 : (2 + (5 * nI c)) + nI w = nI (2 + (5 * c + w)) := by
    show (nI 2 + (nI 5 * nI c)) + nI w = _
    rw [pk_mul, nI_add, nI_add]
    congr 1
    omega
  have e2 : (nI c * 5) + nI w = nI (5 * c + w) := by
    show (nI c * nI 5) + nI w = _
    rw [pk_mul, nI_add]
    congr 1
    omega
  rw [e1, e2, nI_clamp (by omega), nI_clamp (by omega)]
  exact ⟨rfl, rfl⟩
theorem clr5 (f : Nat → Int64) (b j : Nat) : vp_updL (vp_updL (vp_updL (vp_updL (vp_updL f (b + 0) 0) (b + 1) 0) (b + 2) 0) (b + 3) 0) (b + 4) 0 j = if b ≤ j ∧ j < b + 5 then 0 else f j := by
  unfold vp_updL
  by_cases h : b ≤ j ∧ j < b + 5
  · rw [if_pos h]
    have : j = b + 0 ∨ j = b + 1 ∨ j = b + 2 ∨ j = b + 3 ∨ j = b + 4 := by omega
    rcases this with e | e | e | e | e <;> simp [e]
  · rw [if_neg h, if_neg (by omega), if_neg (by omega), if_neg (by omega), if_neg (by omega), if_neg (by omega)]
theorem m_clear_at {c : Nat} (hc : c < 4) (a : Nat → Int64) (j : Nat) : m_clear (nI c) a j = if 2 + 5 * c ≤ j ∧ j < 2 + 5 * c + 5 then 0 else a j := by
  have q : ∀ w, w < 5 → ((2 + (5 * nI c)) + nI w).toNatClampNeg = 2 + 5 * c + w := fun w hw => by rw [(clr_ix hc hw).1]; omega
  have e : m_clear (nI c) a = vp_updL (vp_updL (vp_updL (vp_updL (vp_updL a (2 + 5 * c + 0) 0) (2 + 5 * c + 1) 0) (2 + 5 * c + 2) 0) (2 + 5 * c + 3) 0) (2 + 5 * c + 4) 0 := by
    rw [← q 0 (by decide), ← q 1 (by decide), ← q 2 (by decide), ← q 3 (by decide), ← q 4 (by decide)]
    rfl
  rw [e, clr5]
theorem x_clear_at {c : Nat} (hc : c < 4) (g : LG) (j : Nat) : (sX0_clearMark (nI c) g).2.2.2.2.2.2.2.2.2.2.2.2.1 j = if 5 * c ≤ j ∧ j < 5 * c + 5 then 0 else g.2.2.2.2.2.2.2.2.2.2.2.2.1 j := by
  have q : ∀ w, w < 5 → ((nI c * 5) + nI w).toNatClampNeg = 5 * c + w := fun w hw => (clr_ix hc hw).2
  have e : (sX0_clearMark (nI c) g).2.2.2.2.2.2.2.2.2.2.2.2.1 = vp_updL (vp_updL (vp_updL (vp_updL (vp_updL g.2.2.2.2.2.2.2.2.2.2.2.2.1 (5 * c + 0) 0) (5 * c + 1) 0) (5 * c + 2) 0) (5 * c + 3) 0) (5 * c + 4) 0 := by
    rw [← q 0 (by decide), ← q 1 (by decide), ← q 2 (by decide), ← q 3 (by decide), ← q 4 (by decide)]
    rfl
  rw [e, clr5]
theorem LR_clear {N : Nat} {C al : Int} {g : LG} {a : Nat → Int64} {c : Nat} (hc : c < 4) (hal : 0 ≤ al) (h : LR N C al g a) : LR N C al (sX0_clearMark (nI c) g) (m_clear (nI c) a) := by
  obtain ⟨l0, l1, l2, l3⟩ := h
  have q : ∀ j : Nat, (j < 2 ∨ 22 ≤ j) → m_clear (nI c) a j = a j := fun j hj => by rw [m_clear_at hc, if_neg (by omega)]
  obtain ⟨⟨e0, e1, e22, e23, e24, e25, e26, e27⟩, b0, b1, b2, b3, b4, b5, b6, b7, b8, b9, b10, b11, b12, b13, b14, b15⟩ := l0
  refine ⟨⟨⟨by rw [q 0 (by omega)]; exact e0, by rw [q 1 (by omega)]; exact e1, by rw [q 22 (by omega)]; exact e22, by rw [q 23 (by omega)]; exact e23, by rw [q 24 (by omega)]; exact e24, by rw [q 25 (by omega)]; exact e25, by rw [q 26 (by omega)]; exact e26, by rw [q 27 (by omega)]; exact e27⟩, b0, b1, b2, b3, b4, b5, b6, b7, b8, b9, b10, b11, b12, b13, b14, b15⟩, ?_, L2_cong (g := sX0_clearMark (nI c) g) l2 (fun j h1 _ => q j (by omega)), L3_cong (g := sX0_clearMark (nI c) g) l3 (fun j h1 _ => q j (by omega))⟩
  intro j hj
  rw [m_clear_at hc, x_clear_at hc]
  by_cases e : 5 * c ≤ j ∧ j < 5 * c + 5
  · rw [if_pos e, if_pos (by omega), y0]
    exact ⟨rfl, by omega, by omega, fun _ => hal⟩
  · rw [if_neg e, if_neg (by omega)]
    exact l1 j hj
def m_nar1 (x : Int64) (a : Nat → Int64) : Nat → Int64 := if lg_cmp x (a 0) ≤ 0 then a else vp_updL a 0 x
def m_nar2 (y : Int64) (a : Nat → Int64) : Nat → Int64 := if 0 ≤ lg_cmp y (a 1) then a else vp_updL a 1 y
theorem LR_nar {N : Nat} {C al : Int} {g : LG} {a : Nat → Int64} {lo hi : Int32} {x y : Int64} (hx : x.toInt = lo.toInt) (hy : y.toInt = hi.toInt) (h1 : 0 ≤ lo.toInt) (h2 : lo.toInt ≤ C) (h3 : 0 ≤ hi.toInt) (h4 : hi.toInt ≤ C) (h : LR N C al g a) : LR N C al (if g.1 < lo then lo else g.1, if hi < g.2.1 then hi else g.2.1, g.2.2.1, g.2.2.2.1, g.2.2.2.2.1, g.2.2.2.2.2.1, g.2.2.2.2.2.2.1, g.2.2.2.2.2.2.2.1, g.2.2.2.2.2.2.2.2.1, g.2.2.2.2.2.2.2.2.2.1, g.2.2.2.2.2.2.2.2.2.2.1, g.2.2.2.2.2.2.2.2.2.2.2.1, g.2.2.2.2.2.2.2.2.2.2.2.2.1, g.2.2.2.2.2.2.2.2.2.2.2.2.2.1, g.2.2.2.2.2.2.2.2.2.2.2.2.2.2) (m_nar2 y (m_nar1 x a)) := by
  obtain ⟨l0, l1, l2, l3⟩ := h
  have q : ∀ j : Nat, 2 ≤ j → m_nar2 y (m_nar1 x a) j = a j := fun j hj => by
    unfold m_nar2
    split
    · unfold m_nar1
      split
      · rfl
      · exact pk_uLn (by omega)
    · rw [pk_uLn (by omega)]
      unfold m_nar1
      split
      · rfl
      · exact pk_uLn (by omega)
  obtain ⟨⟨e0, e1, e22, e23, e24, e25, e26, e27⟩, b0, b1, b2, b3, b4, b5, b6, b7, b8, b9, b10, b11, b12, b13, b14, b15⟩ := l0
  have k1 : m_nar1 x a 1 = a 1 := by
    unfold m_nar1
    split
    · rfl
    · exact pk_uLn (by decide)
  have k0 : (m_nar1 x a 0).toInt = (if g.1 < lo then lo else g.1).toInt ∧ 0 ≤ (if g.1 < lo then lo else g.1).toInt ∧ (if g.1 < lo then lo else g.1).toInt ≤ C := by
    by_cases c : g.1.toInt < lo.toInt
    · have e1 : (if g.1 < lo then lo else g.1) = lo := if_pos ((fa_lt _ _).mpr c)
      have e2 : m_nar1 x a = vp_updL a 0 x := if_neg (fun q => by rw [cleI] at q; omega)
      rw [e1, e2, pk_uLs]
      omega
    · have e1 : (if g.1 < lo then lo else g.1) = g.1 := if_neg (fun q => c ((fa_lt _ _).mp q))
      have e2 : m_nar1 x a = a := if_pos (cleI.mpr (by omega))
      rw [e1, e2]
      omega
  have k2 : (m_nar2 y (m_nar1 x a) 1).toInt = (if hi < g.2.1 then hi else g.2.1).toInt ∧ 0 ≤ (if hi < g.2.1 then hi else g.2.1).toInt ∧ (if hi < g.2.1 then hi else g.2.1).toInt ≤ C ∧ m_nar2 y (m_nar1 x a) 0 = m_nar1 x a 0 := by
    by_cases c : hi.toInt < g.2.1.toInt
    · have e1 : (if hi < g.2.1 then hi else g.2.1) = hi := if_pos ((fa_lt _ _).mpr c)
      have e2 : m_nar2 y (m_nar1 x a) = vp_updL (m_nar1 x a) 1 y := if_neg (fun q => by rw [cgeI, k1] at q; omega)
      rw [e1, e2, pk_uLs, pk_uLn (by decide)]
      exact ⟨by omega, by omega, by omega, rfl⟩
    · have e1 : (if hi < g.2.1 then hi else g.2.1) = g.2.1 := if_neg (fun q => c ((fa_lt _ _).mp q))
      have e2 : m_nar2 y (m_nar1 x a) = m_nar1 x a := if_pos (cgeI.mpr (by rw [k1]; omega))
      rw [e1, e2, k1]
      exact ⟨by omega, by omega, by omega, rfl⟩
  refine ⟨⟨⟨by rw [k2.2.2.2]; exact k0.1, k2.1, by rw [q 22 (by omega)]; exact e22, by rw [q 23 (by omega)]; exact e23, by rw [q 24 (by omega)]; exact e24, by rw [q 25 (by omega)]; exact e25, by rw [q 26 (by omega)]; exact e26, by rw [q 27 (by omega)]; exact e27⟩, k0.2.1, k0.2.2, k2.2.1, k2.2.2.1, b4, b5, b6, b7, b8, b9, b10, b11, b12, b13, b14, b15⟩, L1_cong l1 (fun j hj => q _ (by omega)), L2_cong (g := (if g.1 < lo then lo else g.1, if hi < g.2.1 then hi else g.2.1, g.2.2.1, g.2.2.2.1, g.2.2.2.2.1, g.2.2.2.2.2.1, g.2.2.2.2.2.2.1, g.2.2.2.2.2.2.2.1, g.2.2.2.2.2.2.2.2.1, g.2.2.2.2.2.2.2.2.2.1, g.2.2.2.2.2.2.2.2.2.2.1, g.2.2.2.2.2.2.2.2.2.2.2.1, g.2.2.2.2.2.2.2.2.2.2.2.2.1, g.2.2.2.2.2.2.2.2.2.2.2.2.2.1, g.2.2.2.2.2.2.2.2.2.2.2.2.2.2)) l2 (fun j h1 _ => q j (by omega)), L3_cong (g := (if g.1 < lo then lo else g.1, if hi < g.2.1 then hi else g.2.1, g.2.2.1, g.2.2.2.1, g.2.2.2.2.1, g.2.2.2.2.2.1, g.2.2.2.2.2.2.1, g.2.2.2.2.2.2.2.1, g.2.2.2.2.2.2.2.2.1, g.2.2.2.2.2.2.2.2.2.1, g.2.2.2.2.2.2.2.2.2.2.1, g.2.2.2.2.2.2.2.2.2.2.2.1, g.2.2.2.2.2.2.2.2.2.2.2.2.1, g.2.2.2.2.2.2.2.2.2.2.2.2.2.1, g.2.2.2.2.2.2.2.2.2.2.2.2.2.2)) l3 (fun j h1 _ => q j (by omega))⟩
def m_jump (a : Nat → Int64) : Nat → Int64 := if lg_cmp (a 25) ((a 0 + a 1) / 2000) = 0 then vp_updL a 25 ((a 0 + a 1) / 2000) else vp_updL (vp_updL a 26 (a 26 + 1)) 25 (((vp_updL a 26 (a 26 + 1)) 0 + (vp_updL a 26 (a 26 + 1)) 1) / 2000)
theorem jump_wn (v : MS) : sX4_jump v = wn v (m_jump v.2.2.2.1) := by
  unfold sX4_jump m_jump rX4_truth
  by_cases h : lg_cmp (v.2.2.2.1 25) ((v.2.2.2.1 0 + v.2.2.2.1 1) / 2000) = 0
  · rw [if_pos h, if_pos h]
    rfl
  · rw [if_neg h, if_neg h]
    rfl
theorem LR_float {N : Nat} {C al : Int} {g : LG} {a : Nat → Int64} {lo hi : Int32} {x y : Int64} (hC : C ≤ 120000) (hN : N ≤ 2000) (hx : x.toInt = lo.toInt) (hy : y.toInt = hi.toInt) (h1 : 0 ≤ lo.toInt) (h2 : lo.toInt ≤ C) (h3 : 0 ≤ hi.toInt) (h4 : hi.toInt ≤ C) (h : LR N C al g a) : LR (N + 1) C al (sX0_takeFloat lo hi g) (m_jump (vp_updL (vp_updL a 0 x) 1 y)) := by
  obtain ⟨l0, l1, l2, l3⟩ := h
  have f0 : L0 N C (lo, hi, g.2.2.1, g.2.2.2.1, g.2.2.2.2.1, g.2.2.2.2.2.1, g.2.2.2.2.2.2.1, g.2.2.2.2.2.2.2.1, g.2.2.2.2.2.2.2.2.1, g.2.2.2.2.2.2.2.2.2.1, g.2.2.2.2.2.2.2.2.2.2.1, g.2.2.2.2.2.2.2.2.2.2.2.1, g.2.2.2.2.2.2.2.2.2.2.2.2.1, g.2.2.2.2.2.2.2.2.2.2.2.2.2.1, g.2.2.2.2.2.2.2.2.2.2.2.2.2.2) (vp_updL (vp_updL a 0 x) 1 y) := by
    have q : ∀ j : Nat, 2 ≤ j → vp_updL (vp_updL a 0 x) 1 y j = a j := fun j hj => by rw [pk_uLn (by omega), pk_uLn (by omega)]
    obtain ⟨⟨e0, e1, e22, e23, e24, e25, e26, e27⟩, b0, b1, b2, b3, b4, b5, b6, b7, b8, b9, b10, b11, b12, b13, b14, b15⟩ := l0
    exact ⟨⟨hx, hy, by rw [q 22 (by omega)]; exact e22, by rw [q 23 (by omega)]; exact e23, by rw [q 24 (by omega)]; exact e24, by rw [q 25 (by omega)]; exact e25, by rw [q 26 (by omega)]; exact e26, by rw [q 27 (by omega)]; exact e27⟩, h1, h2, h3, h4, b4, b5, b6, b7, b8, b9, b10, b11, b12, b13, b14, b15⟩
  obtain ⟨t1, t2, t3, t4⟩ := truthX hC f0
  have q0 : ∀ j : Nat, 2 ≤ j → j ≠ 25 → j ≠ 26 → m_jump (vp_updL (vp_updL a 0 x) 1 y) j = a j := fun j hj h25 h26 => by
    unfold m_jump
    split
    · rw [pk_uLn h25, pk_uLn (by omega), pk_uLn (by omega)]
    · rw [pk_uLn h25, pk_uLn h26, pk_uLn (by omega), pk_uLn (by omega)]
  obtain ⟨⟨e0, e1, e22, e23, e24, e25, e26, e27⟩, b0, b1, b2, b3, b4, b5, b6, b7, b8, b9, b10, b11, b12, b13, b14, b15⟩ := f0
  have b10' : 0 ≤ g.2.2.2.2.2.1.toInt := b10
  have b11' : g.2.2.2.2.2.1.toInt ≤ N := b11
  generalize hb : vp_updL (vp_updL a 0 x) 1 y = b at *
  have e26' : (b 26).toInt = g.2.2.2.2.2.1.toInt := e26
  by_cases c : g.2.2.2.2.2.2.1.toInt = (lo.toInt + hi.toInt) / 2000
  · have eX : sX0_takeFloat lo hi g = (lo, hi, g.2.2.1, g.2.2.2.1, g.2.2.2.2.1, g.2.2.2.2.2.1, g.2.2.2.2.2.2.1, g.2.2.2.2.2.2.2.1, g.2.2.2.2.2.2.2.2.1, g.2.2.2.2.2.2.2.2.2.1, g.2.2.2.2.2.2.2.2.2.2.1, g.2.2.2.2.2.2.2.2.2.2.2.1, g.2.2.2.2.2.2.2.2.2.2.2.2.1, g.2.2.2.2.2.2.2.2.2.2.2.2.2.1, g.2.2.2.2.2.2.2.2.2.2.2.2.2.2) := by
      unfold sX0_takeFloat
      exact if_pos ((fa_eq _ _).mpr (by rw [c]; exact t1.symm))
    have eM : m_jump b = vp_updL b 25 ((b 0 + b 1) / 2000) := if_pos (ceqI.mpr (by rw [t2]; exact e25.trans c))
    rw [eX]
    have p25 : (m_jump b 25).toInt = g.2.2.2.2.2.2.1.toInt := by rw [eM, pk_uLs, t2]; exact c.symm
    have qq : ∀ j : Nat, j ≠ 25 → m_jump b j = b j := fun j hj => by rw [eM]; exact pk_uLn hj
    refine ⟨⟨⟨by rw [qq 0 (by decide)]; exact e0, by rw [qq 1 (by decide)]; exact e1, by rw [qq 22 (by decide)]; exact e22, by rw [qq 23 (by decide)]; exact e23, by rw [qq 24 (by decide)]; exact e24, p25, by rw [qq 26 (by decide)]; exact e26, by rw [qq 27 (by decide)]; exact e27⟩, h1, h2, h3, h4, b4, Int.le_trans b5 (by omega), b6, Int.le_trans b7 (by omega), b8, Int.le_trans b9 (by omega), b10, Int.le_trans b11 (by omega), b12, b13, b14, b15⟩, L1_more (L1_cong l1 (fun j hj => q0 _ (by omega) (by omega) (by omega))) (by omega) (by omega), L2_more (L2_cong (g := (lo, hi, g.2.2.1, g.2.2.2.1, g.2.2.2.2.1, g.2.2.2.2.2.1, g.2.2.2.2.2.2.1, g.2.2.2.2.2.2.2.1, g.2.2.2.2.2.2.2.2.1, g.2.2.2.2.2.2.2.2.2.1, g.2.2.2.2.2.2.2.2.2.2.1, g.2.2.2.2.2.2.2.2.2.2.2.1, g.2.2.2.2.2.2.2.2.2.2.2.2.1, g.2.2.2.2.2.2.2.2.2.2.2.2.2.1, g.2.2.2.2.2.2.2.2.2.2.2.2.2.2)) l2 (fun j h1 _ => q0 j (by omega) (by omega) (by omega))) (by omega), L3_more (L3_cong (g := (lo, hi, g.2.2.1, g.2.2.2.1, g.2.2.2.2.1, g.2.2.2.2.2.1, g.2.2.2.2.2.2.1, g.2.2.2.2.2.2.2.1, g.2.2.2.2.2.2.2.2.1, g.2.2.2.2.2.2.2.2.2.1, g.2.2.2.2.2.2.2.2.2.2.1, g.2.2.2.2.2.2.2.2.2.2.2.1, g.2.2.2.2.2.2.2.2.2.2.2.2.1, g.2.2.2.2.2.2.2.2.2.2.2.2.2.1, g.2.2.2.2.2.2.2.2.2.2.2.2.2.2)) l3 (fun j h1 _ => q0 j (by omega) (by omega) (by omega))) (by omega)⟩
  · have eX : sX0_takeFloat lo hi g = (lo, hi, g.2.2.1, g.2.2.2.1, g.2.2.2.2.1, g.2.2.2.2.2.1 + 1, rX0_truth (lo, hi, g.2.2.1, g.2.2.2.1, g.2.2.2.2.1, g.2.2.2.2.2.1 + 1, g.2.2.2.2.2.2.1, g.2.2.2.2.2.2.2.1, g.2.2.2.2.2.2.2.2.1, g.2.2.2.2.2.2.2.2.2.1, g.2.2.2.2.2.2.2.2.2.2.1, g.2.2.2.2.2.2.2.2.2.2.2.1, g.2.2.2.2.2.2.2.2.2.2.2.2.1, g.2.2.2.2.2.2.2.2.2.2.2.2.2.1, g.2.2.2.2.2.2.2.2.2.2.2.2.2.2), g.2.2.2.2.2.2.2.1, g.2.2.2.2.2.2.2.2.1, g.2.2.2.2.2.2.2.2.2.1, g.2.2.2.2.2.2.2.2.2.2.1, g.2.2.2.2.2.2.2.2.2.2.2.1, g.2.2.2.2.2.2.2.2.2.2.2.2.1, g.2.2.2.2.2.2.2.2.2.2.2.2.2.1, g.2.2.2.2.2.2.2.2.2.2.2.2.2.2) := by
      unfold sX0_takeFloat
      exact if_neg (fun q => c (by rw [fa_eq] at q; rw [q]; exact t1))
    have eM : m_jump b = vp_updL (vp_updL b 26 (b 26 + 1)) 25 (((vp_updL b 26 (b 26 + 1)) 0 + (vp_updL b 26 (b 26 + 1)) 1) / 2000) := if_neg (fun q => by rw [ceqI, t2] at q; exact c (e25.symm.trans q))
    have p25 : (m_jump b 25).toInt = (rX0_truth (lo, hi, g.2.2.1, g.2.2.2.1, g.2.2.2.2.1, g.2.2.2.2.2.1 + 1, g.2.2.2.2.2.2.1, g.2.2.2.2.2.2.2.1, g.2.2.2.2.2.2.2.2.1, g.2.2.2.2.2.2.2.2.2.1, g.2.2.2.2.2.2.2.2.2.2.1, g.2.2.2.2.2.2.2.2.2.2.2.1, g.2.2.2.2.2.2.2.2.2.2.2.2.1, g.2.2.2.2.2.2.2.2.2.2.2.2.2.1, g.2.2.2.2.2.2.2.2.2.2.2.2.2.2)).toInt := by
      rw [eM, pk_uLs, pk_uLn (by decide), pk_uLn (by decide), t2]
      exact t1.symm
    have s1 : (g.2.2.2.2.2.1 + 1).toInt = g.2.2.2.2.2.1.toInt + 1 := by rw [fb_addI (by rw [x1]; omega) (by rw [x1]; omega), x1]
    have s2 : (b 26 + 1).toInt = (b 26).toInt + 1 := by rw [fb_addL (by rw [y1]; omega) (by rw [y1]; omega), y1]
    have p26 : (m_jump b 26).toInt = (g.2.2.2.2.2.1 + 1).toInt := by rw [eM, pk_uLn (by decide), pk_uLs, s1, s2]; omega
    have qq : ∀ j : Nat, j ≠ 25 → j ≠ 26 → m_jump b j = b j := fun j hj h26 => by rw [eM, pk_uLn hj, pk_uLn h26]
    rw [eX]
    refine ⟨⟨⟨by rw [qq 0 (by decide) (by decide)]; exact e0, by rw [qq 1 (by decide) (by decide)]; exact e1, by rw [qq 22 (by decide) (by decide)]; exact e22, by rw [qq 23 (by decide) (by decide)]; exact e23, by rw [qq 24 (by decide) (by decide)]; exact e24, p25, p26, by rw [qq 27 (by decide) (by decide)]; exact e27⟩, h1, h2, h3, h4, b4, Int.le_trans b5 (by omega), b6, Int.le_trans b7 (by omega), b8, Int.le_trans b9 (by omega), show 0 ≤ (g.2.2.2.2.2.1 + 1).toInt by omega, show (g.2.2.2.2.2.1 + 1).toInt ≤ _ by omega, show 0 ≤ (rX0_truth (lo, hi, g.2.2.1, g.2.2.2.1, g.2.2.2.2.1, g.2.2.2.2.2.1 + 1, g.2.2.2.2.2.2.1, g.2.2.2.2.2.2.2.1, g.2.2.2.2.2.2.2.2.1, g.2.2.2.2.2.2.2.2.2.1, g.2.2.2.2.2.2.2.2.2.2.1, g.2.2.2.2.2.2.2.2.2.2.2.1, g.2.2.2.2.2.2.2.2.2.2.2.2.1, g.2.2.2.2.2.2.2.2.2.2.2.2.2.1, g.2.2.2.2.2.2.2.2.2.2.2.2.2.2)).toInt from Int.le_trans t3 (Int.le_of_eq t1.symm), show (rX0_truth (lo, hi, g.2.2.1, g.2.2.2.1, g.2.2.2.2.1, g.2.2.2.2.2.1 + 1, g.2.2.2.2.2.2.1, g.2.2.2.2.2.2.2.1, g.2.2.2.2.2.2.2.2.1, g.2.2.2.2.2.2.2.2.2.1, g.2.2.2.2.2.2.2.2.2.2.1, g.2.2.2.2.2.2.2.2.2.2.2.1, g.2.2.2.2.2.2.2.2.2.2.2.2.1, g.2.2.2.2.2.2.2.2.2.2.2.2.2.1, g.2.2.2.2.2.2.2.2.2.2.2.2.2.2)).toInt ≤ 120 from Int.le_trans (Int.le_of_eq t1) t4, b14, b15⟩, L1_more (L1_cong l1 (fun j hj => q0 _ (by omega) (by omega) (by omega))) (by omega) (by omega), L2_more (L2_cong (g := (lo, hi, g.2.2.1, g.2.2.2.1, g.2.2.2.2.1, g.2.2.2.2.2.1 + 1, rX0_truth (lo, hi, g.2.2.1, g.2.2.2.1, g.2.2.2.2.1, g.2.2.2.2.2.1 + 1, g.2.2.2.2.2.2.1, g.2.2.2.2.2.2.2.1, g.2.2.2.2.2.2.2.2.1, g.2.2.2.2.2.2.2.2.2.1, g.2.2.2.2.2.2.2.2.2.2.1, g.2.2.2.2.2.2.2.2.2.2.2.1, g.2.2.2.2.2.2.2.2.2.2.2.2.1, g.2.2.2.2.2.2.2.2.2.2.2.2.2.1, g.2.2.2.2.2.2.2.2.2.2.2.2.2.2), g.2.2.2.2.2.2.2.1, g.2.2.2.2.2.2.2.2.1, g.2.2.2.2.2.2.2.2.2.1, g.2.2.2.2.2.2.2.2.2.2.1, g.2.2.2.2.2.2.2.2.2.2.2.1, g.2.2.2.2.2.2.2.2.2.2.2.2.1, g.2.2.2.2.2.2.2.2.2.2.2.2.2.1, g.2.2.2.2.2.2.2.2.2.2.2.2.2.2)) l2 (fun j h1 _ => q0 j (by omega) (by omega) (by omega))) (by omega), L3_more (L3_cong (g := (lo, hi, g.2.2.1, g.2.2.2.1, g.2.2.2.2.1, g.2.2.2.2.2.1 + 1, rX0_truth (lo, hi, g.2.2.1, g.2.2.2.1, g.2.2.2.2.1, g.2.2.2.2.2.1 + 1, g.2.2.2.2.2.2.1, g.2.2.2.2.2.2.2.1, g.2.2.2.2.2.2.2.2.1, g.2.2.2.2.2.2.2.2.2.1, g.2.2.2.2.2.2.2.2.2.2.1, g.2.2.2.2.2.2.2.2.2.2.2.1, g.2.2.2.2.2.2.2.2.2.2.2.2.1, g.2.2.2.2.2.2.2.2.2.2.2.2.2.1, g.2.2.2.2.2.2.2.2.2.2.2.2.2.2), g.2.2.2.2.2.2.2.1, g.2.2.2.2.2.2.2.2.1, g.2.2.2.2.2.2.2.2.2.1, g.2.2.2.2.2.2.2.2.2.2.1, g.2.2.2.2.2.2.2.2.2.2.2.1, g.2.2.2.2.2.2.2.2.2.2.2.2.1, g.2.2.2.2.2.2.2.2.2.2.2.2.2.1, g.2.2.2.2.2.2.2.2.2.2.2.2.2.2)) l3 (fun j h1 _ => q0 j (by omega) (by omega) (by omega))) (by omega)⟩
