def RX (x : XC) (v : MS) : Prop := (x.1 = v.2.2.2.2.2.1 ∧ x.2.1 = v.2.2.2.2.2.2.1 ∧ x.2.2.1 = v.2.2.2.2.2.2.2.1 ∧ x.2.2.2.1 = v.2.2.2.2.2.2.2.2.1 ∧ x.2.2.2.2.1 = v.2.2.2.2.2.2.2.2.2.1 ∧ x.2.2.2.2.2.1 = v.2.2.2.2.2.2.2.2.2.2.1 ∧ x.2.2.2.2.2.2.1 = v.2.2.2.2.2.2.2.2.2.2.2.1) ∧ 1000 ≤ x.1.toInt ∧ x.1.toInt ≤ 120000 ∧ 1 ≤ x.2.1.toInt ∧ x.2.1.toInt ≤ 1000 ∧ 0 ≤ x.2.2.1.toInt ∧ x.2.2.1.toInt ≤ 60 ∧ 1 ≤ x.2.2.2.1.toInt ∧ x.2.2.2.1.toInt ≤ 200 ∧ 1 ≤ x.2.2.2.2.1.toInt ∧ x.2.2.2.2.1.toInt ≤ 100 ∧ 1 ≤ x.2.2.2.2.2.1.toInt ∧ x.2.2.2.2.2.1.toInt ≤ 1000 ∧ 1 ≤ x.2.2.2.2.2.2.1.toInt ∧ x.2.2.2.2.2.2.1.toInt ≤ 1000
def RT (tp : TP) (v : MS) : Prop := v.2.1 = tp.1 ∧ v.2.2.1 = tp.2 ∧ (∀ j : Nat, j < 60 → 0 ≤ (tp.1 j).toInt ∧ (tp.1 j).toInt ≤ 255) ∧ 0 ≤ tp.2.toInt ∧ tp.2.toInt ≤ 60
def RP (pl : PL) (v : MS) : Prop := pl.2.2.2.2.2.2 = v.2.2.2.2.2.2.2.2.2.2.2.2.2.2.2.2 ∧ 0 ≤ pl.2.2.2.2.2.2.toInt ∧ pl.2.2.2.2.2.2.toInt ≤ 12 ∧ ∀ j : Nat, (j : Int) < pl.2.2.2.2.2.2.toInt → pl.2.2.2.2.1 j = v.2.2.2.2.2.2.2.2.2.2.2.2.2.2.2.1 j
def LQ (N : Nat) (x : XC) (g k : LG) (u : MS) : Prop := ¬ u.2.2.2.2.2.2.2.2.2.2.2.2.2.1 = 0 ∧ u.2.2.2.2.2.2.2.2.2.2.2.2.1 = x.2.2.2.2.2.2.2 ∧ 0 ≤ x.2.2.2.2.2.2.2.toInt ∧ x.2.2.2.2.2.2.2.toInt ≤ 100000000 ∧ LR N x.1.toInt x.2.2.2.2.2.2.2.toInt g u.2.2.2.1 ∧ LR N x.1.toInt x.2.2.2.2.2.2.2.toInt k u.2.2.2.2.1
/-- the class beside the reference, n calls on -/
def RR (n : Nat) (x : XC) (g k : LG) (tp : TP) (pl : PL) (v : MS) : Prop := RX x v ∧ RT tp v ∧ RP pl v ∧ ∀ t : Int32, LQ (2 * n) x g k (sX4_begin (t, v.2))
theorem bg_id {w : MS} (h : ¬ w.2.2.2.2.2.2.2.2.2.2.2.2.2.1 = 0) : sX4_begin w = w := if_neg h
theorem bg_RX {x : XC} {w : MS} (h : RX x w) : RX x (sX4_begin w) := by
  unfold sX4_begin
  split
  · exact h
  · exact h
theorem bg_RT {tp : TP} {w : MS} (h : RT tp w) : RT tp (sX4_begin w) := by
  unfold sX4_begin
  split
  · exact h
  · exact h
theorem bg_RP {pl : PL} {w : MS} (h : RP pl w) : RP pl (sX4_begin w) := by
  unfold sX4_begin
  split
  · exact h
  · exact h
theorem LQ_more {N N' : Nat} {x : XC} {g k : LG} {u : MS} (h : LQ N x g k u) (hN : N ≤ N') : LQ N' x g k u := ⟨h.1, h.2.1, h.2.2.1, h.2.2.2.1, LR_more h.2.2.2.2.1 hN (Int.le_refl _), LR_more h.2.2.2.2.2 hN (Int.le_refl _)⟩
theorem RR_mk {n : Nat} {x : XC} {g k : LG} {tp : TP} {pl : PL} {u : MS} (h1 : RX x u) (h2 : RT tp u) (h3 : RP pl u) (h4 : LQ (2 * n) x g k u) : RR n x g k tp pl u := ⟨h1, h2, h3, fun t => by rw [bg_id (w := (t, u.2)) h4.1]; exact h4⟩
/-- behind begin: the state that most methods work on -/
theorem RR_bg {n : Nat} {x : XC} {g k : LG} {tp : TP} {pl : PL} {v : MS} (h : RR n x g k tp pl v) (t : Int32) : RX x (sX4_begin (t, v.2)) ∧ RT tp (sX4_begin (t, v.2)) ∧ RP pl (sX4_begin (t, v.2)) ∧ LQ (2 * n) x g k (sX4_begin (t, v.2)) := ⟨bg_RX h.1, bg_RT h.2.1, bg_RP h.2.2.1, h.2.2.2 t⟩
/-- a state behind begin that nothing changed but what is thrown -/
theorem RR_same {n : Nat} {x : XC} {g k : LG} {tp : TP} {pl : PL} {u : MS} (h : RX x u ∧ RT tp u ∧ RP pl u ∧ LQ (2 * n) x g k u) (t : Int32) : RR (n + 1) x g k tp pl (t, u.2) := RR_mk h.1 h.2.1 h.2.2.1 (LQ_more h.2.2.2 (by omega))
theorem RR_u {n : Nat} {x : XC} {g k : LG} {tp : TP} {pl : PL} {u : MS} (h : RX x u ∧ RT tp u ∧ RP pl u ∧ LQ (2 * n) x g k u) : RR (n + 1) x g k tp pl u := RR_same h u.1
def wfr (v : MS) (t' : Int32) (tp' : Nat → Int32) (tn' fa' ti' lo' hi' : Int32) : MS := (t', tp', tn', v.2.2.2.1, v.2.2.2.2.1, v.2.2.2.2.2.1, v.2.2.2.2.2.2.1, v.2.2.2.2.2.2.2.1, fa', ti', lo', hi', v.2.2.2.2.2.2.2.2.2.2.2.2.1, v.2.2.2.2.2.2.2.2.2.2.2.2.2.1, v.2.2.2.2.2.2.2.2.2.2.2.2.2.2.1, v.2.2.2.2.2.2.2.2.2.2.2.2.2.2.2.1, v.2.2.2.2.2.2.2.2.2.2.2.2.2.2.2.2)
theorem bg_wfr {N : Nat} {x x' : XC} {g k : LG} {v : MS} {t t' tn' fa' ti' lo' hi' : Int32} {tp' : Nat → Int32} (e1 : x'.1 = x.1) (e2 : x'.2.2.2.2.2.2.2 = x.2.2.2.2.2.2.2) (h : LQ N x g k (sX4_begin (t, v.2))) : LQ N x' g k (sX4_begin (t, (wfr v t' tp' tn' fa' ti' lo' hi').2)) := by
  unfold LQ at h ⊢
  rw [e1, e2]
  by_cases c : v.2.2.2.2.2.2.2.2.2.2.2.2.2.1 = 0
  · have a1 : sX4_begin (t, v.2) = _ := if_pos c
    have a2 : sX4_begin (t, (wfr v t' tp' tn' fa' ti' lo' hi').2) = _ := if_pos c
    rw [a1] at h
    rw [a2]
    exact h
  · have a1 : sX4_begin (t, v.2) = _ := if_neg c
    have a2 : sX4_begin (t, (wfr v t' tp' tn' fa' ti' lo' hi').2) = _ := if_neg c
    rw [a1] at h
    rw [a2]
    exact h
theorem LR_cong {N : Nat} {C al : Int} {g : LG} {a : Nat → Int64} {b : Nat → Int64} (h : LR N C al g a) (e : ∀ j, j < 92 → b j = a j) : LR N C al g b := by
  obtain ⟨l0, l1, l2, l3⟩ := h
  refine ⟨?_, L1_cong l1 (fun j hj => e _ (by omega)), L2_cong l2 (fun j _ h2 => e j (by omega)), L3_cong l3 (fun j _ h2 => e j h2)⟩
  unfold L0 at l0 ⊢
  rw [e 0 (by decide), e 1 (by decide), e 22 (by decide), e 23 (by decide), e 24 (by decide), e 25 (by decide), e 26 (by decide), e 27 (by decide)]
  exact l0
theorem cfL_in {f g : Nat → Int64} {i j : Nat} (h : j < i) : cfL f g i j = f j := if_pos h
theorem LR_copy {N : Nat} {C al : Int} {g : LG} {a : Nat → Int64} {k : LG} (h : LR N C al g a) : LR N C al (sX0_copyFrom k g) a := by
  obtain ⟨l0, l1, l2, l3⟩ := h
  refine ⟨l0, ?_, l2, ?_⟩
  · intro j hj
    have e : (sX0_copyFrom k g).2.2.2.2.2.2.2.2.2.2.2.2.1 j = g.2.2.2.2.2.2.2.2.2.2.2.2.1 j := by
      show va_cpy g.2.2.2.2.2.2.2.2.2.2.2.2.1 k.2.2.2.2.2.2.2.2.2.2.2.2.1 0 0 20 j = _
      rw [pk_cpy_in (Nat.zero_le _) (by omega), show 0 + (j - 0) = j by omega]
    rw [e]
    exact l1 j hj
  · intro p hp hr
    have e1 : (sX0_copyFrom k g).2.2.2.2.2.2.2.2.2.2.2.2.2.1 p = g.2.2.2.2.2.2.2.2.2.2.2.2.2.1 p := by
      show va_cpy g.2.2.2.2.2.2.2.2.2.2.2.2.2.1 k.2.2.2.2.2.2.2.2.2.2.2.2.2.1 0 0 30 p = _
      rw [pk_cpy_in (Nat.zero_le _) (by omega), show 0 + (p - 0) = p by omega]
    have e2 : (sX0_copyFrom k g).2.2.2.2.2.2.2.2.2.2.2.2.2.2 p = g.2.2.2.2.2.2.2.2.2.2.2.2.2.2 p := by
      show va_cpy g.2.2.2.2.2.2.2.2.2.2.2.2.2.2 k.2.2.2.2.2.2.2.2.2.2.2.2.2.2 0 0 30 p = _
      rw [pk_cpy_in (Nat.zero_le _) (by omega), show 0 + (p - 0) = p by omega]
    rw [e1, e2]
    exact l3 p hp hr
theorem LR_begin {N : Nat} {cap : Int32} (g : LG) (a : Nat → Int64) (h0 : 0 ≤ cap.toInt) : LR N cap.toInt 0 (sX0_begin cap g) (vp_updL (cfL (fun _ => 0) a 92) 1 cap.toInt64) := by
  have q : ∀ j : Nat, j < 92 → j ≠ 1 → vp_updL (cfL (fun _ => 0) a 92) 1 cap.toInt64 j = 0 := fun j h1 h2 => by rw [pk_uLn h2, cfL_in h1]
  refine ⟨⟨⟨?_, ?_, ?_, ?_, ?_, ?_, ?_, ?_⟩, ?_⟩, ?_, ?_, ?_⟩
  · rw [q 0 (by decide) (by decide)]; rfl
  · rw [pk_uLs]; exact w64 cap
  · rw [q 22 (by decide) (by decide)]; rfl
  · rw [q 23 (by decide) (by decide)]; rfl
  · rw [q 24 (by decide) (by decide)]; rfl
  · rw [q 25 (by decide) (by decide)]; rfl
  · rw [q 26 (by decide) (by decide)]; rfl
  · rw [q 27 (by decide) (by decide)]; rfl
  · have z : (0 : Int32).toInt = 0 := x0
    have z1 : 0 ≤ (0 : Int32).toInt := by omega
    have z2 : (0 : Int32).toInt ≤ (N : Int) := by omega
    exact ⟨z1, show (0 : Int32).toInt ≤ cap.toInt by omega, h0, Int.le_refl _, z1, z2, z1, z2, z1, z2, z1, z2, z1, show (0 : Int32).toInt ≤ 120 by omega, z1, show (0 : Int32).toInt ≤ 1 by omega⟩
  · intro j hj
    rw [q (2 + j) (by omega) (by omega)]
    have e : (sX0_begin cap g).2.2.2.2.2.2.2.2.2.2.2.2.1 j = 0 := by
      have h3 : ∀ w : LG, (sX0_clearMark 3 w).2.2.2.2.2.2.2.2.2.2.2.2.1 j = if 15 ≤ j ∧ j < 20 then 0 else w.2.2.2.2.2.2.2.2.2.2.2.2.1 j := fun w => x_clear_at (c := 3) (by decide) w j
      have h2 : ∀ w : LG, (sX0_clearMark 2 w).2.2.2.2.2.2.2.2.2.2.2.2.1 j = if 10 ≤ j ∧ j < 15 then 0 else w.2.2.2.2.2.2.2.2.2.2.2.2.1 j := fun w => x_clear_at (c := 2) (by decide) w j
      have h1 : ∀ w : LG, (sX0_clearMark 1 w).2.2.2.2.2.2.2.2.2.2.2.2.1 j = if 5 ≤ j ∧ j < 10 then 0 else w.2.2.2.2.2.2.2.2.2.2.2.2.1 j := fun w => x_clear_at (c := 1) (by decide) w j
      have h0 : ∀ w : LG, (sX0_clearMark 0 w).2.2.2.2.2.2.2.2.2.2.2.2.1 j = if 0 ≤ j ∧ j < 5 then 0 else w.2.2.2.2.2.2.2.2.2.2.2.2.1 j := fun w => x_clear_at (c := 0) (by decide) w j
      unfold sX0_begin sX0_begin_g_3 sX0_begin_g_6 sX0_begin_g_9 sX0_begin_g_12
      rw [h3]
      split
      · rfl
      rw [h2]
      split
      · rfl
      rw [h1]
      split
      · rfl
      rw [h0]
      split
      · rfl
      omega
    rw [e, y0]
    exact ⟨rfl, by omega, by omega, fun _ => by omega⟩
  · intro hz
    exact absurd (show (0 : Int32).toInt = 1 from hz) (by decide)
  · intro p _ hr
    have : (p : Int) < (0 : Int32).toInt := hr
    rw [x0] at this
    omega
