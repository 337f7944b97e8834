def cg (S M : Nat) (nd pr : Nat → Nat) : Nat → Nat → Nat
  | 0, _ => 0
  | d + 1, x => pm (hh (cg S M nd pr d) (nd (S - d))) (pr (S - (d + 1))) x (M + 1 - x)
theorem cg_s (S M : Nat) (nd pr : Nat → Nat) (d x : Nat) : cg S M nd pr (d + 1) x = pm (hh (cg S M nd pr d) (nd (S - d))) (pr (S - (d + 1))) x (M + 1 - x) := rfl
theorem cg_bd {S M : Nat} {nd pr : Nat → Nat} (hM : M ≤ 120) (hp : ∀ i, i < S → pr i ≤ 255) : ∀ d, d ≤ S → ∀ x, x ≤ M → cg S M nd pr d x ≤ 1000000000 ∧ (cg S M nd pr d x < 1000000000 → cg S M nd pr d x ≤ d * 30600)
  | 0, _, x, _ => ⟨Nat.zero_le _, fun _ => Nat.zero_le _⟩
  | d + 1, hd, x, hx => by
    have ih := cg_bd (nd := nd) hM hp d (by omega)
    rw [cg_s]
    refine ⟨pm_le _ _ _ _, fun h => ?_⟩
    rcases pm_ex (hh (cg S M nd pr d) (nd (S - d))) (pr (S - (d + 1))) x (M + 1 - x) with q | ⟨b, q1, q2, q3⟩
    · omega
    · have h1 : hh (cg S M nd pr d) (nd (S - d)) (x + b) ≤ d * 30600 := by
        unfold hh at q2 ⊢
        split at q2
        · omega
        · rename_i r
          rw [if_neg r]
          exact (ih _ (by omega)).2 q2
      have h2 : b * pr (S - (d + 1)) ≤ 120 * 255 := Nat.mul_le_mul (by omega) (hp _ (by omega))
      rw [q3, Nat.add_mul]
      omega
theorem cg_at {S M : Nat} {nd pr : Nat → Nat} {i : Nat} (hi : i < S) (x : Nat) : cg S M nd pr (S - i) x = pm (hh (cg S M nd pr (S - (i + 1))) (nd (i + 1))) (pr i) x (M + 1 - x) := by
  have e : S - i = (S - (i + 1)) + 1 := by omega
  rw [e, cg_s, show S - (S - (i + 1)) = i + 1 by omega, show S - (S - (i + 1) + 1) = i by omega]
def BK (S M : Nat) (nd pr : Nat → Nat) (u : PL) : Prop := (∀ j, j ≤ S → u.1 j = nI (nd j)) ∧ (∀ x, x ≤ M → u.2.2.1 x = nI (cg S M nd pr S x)) ∧ ∀ i, i < S → ∀ x, x ≤ M → ∃ q, u.2.2.2.1 (i * 121 + x) = nI q ∧ FP (hh (cg S M nd pr (S - (i + 1))) (nd (i + 1))) (pr i) M x q
theorem rb_ok {S M : Nat} {nd pr : Nat → Nat} (hS : S ≤ 12) (hM : M ≤ 120) (hp : ∀ i, i < S → pr i ≤ 255) (hn1 : ∀ j, j ≤ S → 1 ≤ nd j ∧ nd j < 2 ^ 31) : ∀ (n : Nat) (z : PL), n ≤ S → (∀ j, j ≤ S → z.1 j = nI (nd j)) → (∀ j, j < S → z.2.1 j = nI (pr j)) → (∀ x, x ≤ M → z.2.2.1 x = nI (cg S M nd pr (S - n) x)) →
    (rb_run M n z).1 = z.1 ∧ (rb_run M n z).2.2.2.2.1 = z.2.2.2.2.1 ∧ (rb_run M n z).2.2.2.2.2.1 = z.2.2.2.2.2.1 ∧ (rb_run M n z).2.2.2.2.2.2 = z.2.2.2.2.2.2 ∧ (∀ x, x ≤ M → (rb_run M n z).2.2.1 x = nI (cg S M nd pr S x)) ∧ (∀ i, i < n → ∀ x, x ≤ M → ∃ q, (rb_run M n z).2.2.2.1 (i * 121 + x) = nI q ∧ FP (hh (cg S M nd pr (S - (i + 1))) (nd (i + 1))) (pr i) M x q) ∧ (∀ j, n * 121 ≤ j → (rb_run M n z).2.2.2.1 j = z.2.2.2.1 j) := by
  intro n
  induction n with
  | zero =>
    intro z _ _ _ h3
    exact ⟨rfl, rfl, rfl, rfl, h3, fun i hi => absurd hi (Nat.not_lt_zero i), fun j _ => rfl⟩
  | succ n ih =>
    intro z hn h1 h2 h3
    rw [rb_run_s]
    have hl := hn1 (n + 1) (by omega)
    have hc : ∀ x, x ≤ M → cg S M nd pr (S - (n + 1)) x ≤ 1000000000 ∧ (cg S M nd pr (S - (n + 1)) x < 1000000000 → cg S M nd pr (S - (n + 1)) x ≤ 400000) := fun x hx => by
      obtain ⟨a1, a2⟩ := cg_bd hM hp (nd := nd) (S - (n + 1)) (by omega) x hx
      refine ⟨a1, fun q => Nat.le_trans (a2 q) ?_⟩
      have : (S - (n + 1)) * 30600 ≤ 12 * 30600 := Nat.mul_le_mul_right _ (by omega)
      omega
    obtain ⟨r1, r2, r3, r4⟩ := rs_ok (lg := nd (n + 1)) (ro := n * 121) (p := pr n) (M := M) (c := cg S M nd pr (S - (n + 1))) hl.1 hl.2 hM (hp n (by omega)) hc (M + 1) 1000000000 M z.2.2.1 z.2.2.2.1 (Nat.le_refl _) (fun x hx => h3 x (by omega)) (Nat.le_refl _) (Nat.le_refl _) (XS_0 _ _ _ _)
    have eZ : st_Z n M z = rs_run (nd (n + 1)) (n * 121) (nI (pr n)) (M + 1) (z.2.2.1, z.2.2.2.1, nI 1000000000, nI M) := by
      unfold st_Z
      rw [h1 (n + 1) (by omega), nI_clamp hl.2, h2 n (by omega)]
      rfl
    rw [← eZ] at r1 r2 r3 r4
    obtain ⟨i1, i2, i3, i4, i5, i6, i7⟩ := ih (sX1_reckonStation n M z) (by omega) h1 h2 (fun x hx => by
      rw [cg_at (by omega)]
      exact r1 x (by omega))
    refine ⟨i1, i2, i3, i4, i5, fun i hi x hx => ?_, fun j hj => ?_⟩
    · rcases Nat.lt_or_ge i n with r | r
      · exact i6 i r x hx
      · obtain rfl : i = n := by omega
        obtain ⟨q, q1, q2⟩ := r3 x (by omega)
        refine ⟨q, ?_, q2⟩
        rw [i7 (i * 121 + x) (by omega)]
        exact q1
    · rw [i7 j (by omega)]
      exact r4 j (by omega)
theorem ix121 {i x : Nat} (hi : i < 12) (hx : x ≤ 120) : (((nI i) * 121) + nI x).toNatClampNeg = i * 121 + x := by
  show (nI i * nI 121 + nI x).toNatClampNeg = i * 121 + x
  rw [pk_mul, nI_add, nI_clamp (by omega)]
/-- a step forwards: from x litres at station i, b litres bought -/
def FW (S M : Nat) (nd pr : Nat → Nat) (i x b : Nat) : Prop := x + b ≤ M ∧ nd (i + 1) ≤ x + b ∧ hh (cg S M nd pr (S - (i + 1))) (nd (i + 1)) (x + b) < 1000000000 ∧ cg S M nd pr (S - i) x = hh (cg S M nd pr (S - (i + 1))) (nd (i + 1)) (x + b) + b * pr i ∧ ∀ b', b' < b → hh (cg S M nd pr (S - (i + 1))) (nd (i + 1)) (x + b') < 1000000000 → cg S M nd pr (S - i) x < hh (cg S M nd pr (S - (i + 1))) (nd (i + 1)) (x + b') + b' * pr i
theorem bf_step {S M : Nat} {nd pr : Nat → Nat} {u : PL} {fi : Int32} (hS : S ≤ 12) (hM : M ≤ 120) (hB : BK S M nd pr u) {i x : Nat} (hi : i < S) (hx : x ≤ M) (e : bf_l u fi i = nI x) (hc : cg S M nd pr (S - i) x < 1000000000) : ∃ b, FW S M nd pr i x b ∧ bf_b u fi i = nI b ∧ bf_l u fi (i + 1) = nI (x + b - nd (i + 1)) ∧ cg S M nd pr (S - (i + 1)) (x + b - nd (i + 1)) < 1000000000 := by
  obtain ⟨q, q1, q2, q3⟩ := hB.2.2 i hi x hx
  rw [cg_at hi] at hc
  obtain ⟨f1, f2, f3, f4⟩ := q3 hc
  have eq1 : x + (q - x) = q := by omega
  have hge : nd (i + 1) ≤ q := by
    rcases Nat.lt_or_ge q (nd (i + 1)) with r | r
    · have : hh (cg S M nd pr (S - (i + 1))) (nd (i + 1)) q = 1000000000 := if_pos r
      omega
    · exact r
  have hq : hh (cg S M nd pr (S - (i + 1))) (nd (i + 1)) q = cg S M nd pr (S - (i + 1)) (q - nd (i + 1)) := if_neg (by omega)
  have ef : u.2.2.2.1 (((nI i) * 121) + (bf_l u fi i)).toNatClampNeg = nI q := by rw [e, ix121 (by omega) (by omega), q1]
  refine ⟨q - x, ⟨by omega, by omega, by rw [eq1]; exact f2, by rw [cg_at hi, eq1]; exact f3, fun b' hb' hf => ?_⟩, ?_, ?_, ?_⟩
  · rw [cg_at hi]
    have := f4 (x + b') (by omega) (by omega) hf
    rw [show x + b' - x = b' by omega] at this
    exact this
  · show u.2.2.2.1 (((nI i) * 121) + (bf_l u fi i)).toNatClampNeg - bf_l u fi i = _
    rw [ef, e, pk_sub f1]
  · show u.2.2.2.1 (((nI i) * 121) + (bf_l u fi i)).toNatClampNeg - u.1 (i + 1) = _
    rw [ef, hB.1 (i + 1) (by omega), pk_sub hge, eq1]
  · rw [eq1, ← hq]
    exact f2
theorem bf_all {S M : Nat} {nd pr : Nat → Nat} {u : PL} {a : Nat} (hS : S ≤ 12) (hM : M ≤ 120) (hB : BK S M nd pr u) (ha : a ≤ M) (hc : cg S M nd pr S a < 1000000000) : ∀ i, i ≤ S → ∃ x, x ≤ M ∧ bf_l u (nI a) i = nI x ∧ cg S M nd pr (S - i) x < 1000000000
  | 0, _ => ⟨a, ha, rfl, hc⟩
  | i + 1, hi => by
    obtain ⟨x, h1, h2, h3⟩ := bf_all hS hM hB ha hc i (by omega)
    obtain ⟨b, h4, h5, h6, h7⟩ := bf_step hS hM hB (by omega) h1 h2 h3
    exact ⟨x + b - nd (i + 1), by have := h4.1; omega, h6, h7⟩
