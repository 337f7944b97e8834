/-- the Model's rows from station n on -/
def MC (S M : Nat) (nd pr : Nat → Nat) (n : Nat) (co : Nat → Int32) : Prop := ∀ i, n ≤ i → i < S → ∀ x, x ≤ M → co (121 * i + x) = nI (cg S M nd pr (S - i) x)
theorem need_c (j : Int32) (v : MS) (co : Nat → Int32) : rX4_need j (wc v co) = rX4_need j v := by unfold rX4_need; rfl
theorem bhv {S M : Nat} {nd pr : Nat → Nat} {v : MS} {co : Nat → Int32} (hS : S ≤ 12) (hM : M ≤ 120) (hp : ∀ i, i < S → pr i ≤ 255) (hnd : ∀ j, j ≤ S → nd j < 2 ^ 30 ∧ rX4_need (nI j) v = nI (nd j)) {j f : Nat} (hj : j ≤ S) (hf : f ≤ M) (hco : MC S M nd pr j co) : rX4_behind (nI j) (nI f) (nI (S + 1)) (wc v co) = nI (hh (cg S M nd pr (S - j)) (nd j) f) := by
  obtain ⟨n1, n2⟩ := hnd j hj
  unfold rX4_behind
  rw [need_c, n2]
  have e0 : nI (S + 1) - 1 = nI S := nI_pred S
  rw [e0]
  by_cases c : f < nd j
  · have c1 : ¬ 0 ≤ nI f - nI (nd j) := fun q => absurd (pk_sneg n1 c) (Int32.not_lt.mpr q)
    rw [if_neg c1, show hh (cg S M nd pr (S - j)) (nd j) f = 1000000000 from if_pos c]
    rfl
  · have e1 : nI f - nI (nd j) = nI (f - nd j) := pk_sub (by omega)
    rw [e1, if_pos (nI_pos' (by omega)), show hh (cg S M nd pr (S - j)) (nd j) f = cg S M nd pr (S - j) (f - nd j) from if_neg c]
    by_cases c2 : j = S
    · subst c2
      rw [if_pos rfl, Nat.sub_self]
      rfl
    · rw [if_neg (fun q => c2 ((nI_eq (by omega) (by omega)).mp q)), c121_cl (by omega)]
      exact hco j (Nat.le_refl _) (by omega) (f - nd j) (by omega)
theorem in_ok {S M : Nat} {nd pr : Nat → Nat} {v : MS} {co : Nat → Int32} (hS : S ≤ 12) (hM : M ≤ 120) (hp : ∀ i, i < S → pr i ≤ 255) (hnd : ∀ j, j ≤ S → nd j < 2 ^ 30 ∧ rX4_need (nI j) v = nI (nd j)) {i x : Nat} (hi : i < S) (hx : x ≤ M) (hpr : v.2.1 (2 * i + 1) = nI (pr i)) (hco : MC S M nd pr (i + 1) co) : ∀ n b, x + b + n = M + 1 → in_run (S + 1) i x (wc v co) n b (nI (pm (hh (cg S M nd pr (S - (i + 1))) (nd (i + 1))) (pr i) x b)) = nI (cg S M nd pr (S - i) x) := by
  intro n
  induction n with
  | zero =>
    intro b hb
    rw [cg_at hi, show M + 1 - x = b by omega]
    rfl
  | succ n ih =>
    intro b hb
    rw [in_run_s]
    have e : in_step (S + 1) i x b (wc v co) (nI (pm (hh (cg S M nd pr (S - (i + 1))) (nd (i + 1))) (pr i) x b)) = nI (pm (hh (cg S M nd pr (S - (i + 1))) (nd (i + 1))) (pr i) x (b + 1)) := by
      have hv := bhv hS hM hp hnd (j := i + 1) (f := x + b) (by omega) (by omega) hco
      have hpm := pm_le (hh (cg S M nd pr (S - (i + 1))) (nd (i + 1))) (pr i) x b
      have hpi : (wc v co).2.1 (2 * i + 1) = nI (pr i) := hpr
      have hbp : b * pr i ≤ 120 * 255 := Nat.mul_le_mul (by omega) (hp i hi)
      have hbd : hh (cg S M nd pr (S - (i + 1))) (nd (i + 1)) (x + b) ≤ 1000000000 ∧ (hh (cg S M nd pr (S - (i + 1))) (nd (i + 1)) (x + b) < 1000000000 → hh (cg S M nd pr (S - (i + 1))) (nd (i + 1)) (x + b) ≤ 400000) := by
        unfold hh
        split
        · omega
        · obtain ⟨a1, a2⟩ := cg_bd hM hp (nd := nd) (S - (i + 1)) (by omega) (x + b - nd (i + 1)) (by omega)
          have : (S - (i + 1)) * 30600 ≤ 12 * 30600 := Nat.mul_le_mul_right _ (by omega)
          exact ⟨a1, fun q => by have := a2 q; omega⟩
      rw [pm_s]
      generalize hh (cg S M nd pr (S - (i + 1))) (nd (i + 1)) (x + b) = y at hv hbd ⊢
      generalize pm (hh (cg S M nd pr (S - (i + 1))) (nd (i + 1))) (pr i) x b = w at hpm ⊢
      have e2 : nI y + nI b * nI (pr i) = nI (y + b * pr i) := by rw [pk_mul, nI_add]
      unfold in_step
      by_cases c1 : y < 1000000000
      · have hy := hbd.2 c1
        rw [if_neg (show ¬ (1000000000 : Int32) ≤ rX4_behind (nI (i + 1)) (nI (x + b)) (nI (S + 1)) (wc v co) by rw [hv]; exact nI_ge (a := y) (b := 1000000000) c1 (by decide))]
        by_cases c2 : y + b * pr i < w
        · rw [if_neg (show ¬ nI w ≤ rX4_behind (nI (i + 1)) (nI (x + b)) (nI (S + 1)) (wc v co) + nI b * (wc v co).2.1 (2 * i + 1) by rw [hv, hpi, e2]; exact nI_ge c2 (by omega)), if_pos ⟨c1, c2⟩, hv, hpi, e2]
        · rw [if_pos (show nI w ≤ rX4_behind (nI (i + 1)) (nI (x + b)) (nI (S + 1)) (wc v co) + nI b * (wc v co).2.1 (2 * i + 1) by rw [hv, hpi, e2]; exact nI_le (by omega) (by omega)), if_neg (fun q => c2 q.2)]
      · rw [if_pos (show (1000000000 : Int32) ≤ rX4_behind (nI (i + 1)) (nI (x + b)) (nI (S + 1)) (wc v co) by rw [hv]; exact nI_le (a := 1000000000) (b := y) (by omega) (by omega)), if_neg (fun q => c1 q.1)]
    rw [e]
    exact ih (b + 1) (by omega)
theorem mid_ok {S M : Nat} {nd pr : Nat → Nat} {v : MS} (hS : S ≤ 12) (hM : M ≤ 120) (hp : ∀ i, i < S → pr i ≤ 255) (hnd : ∀ j, j ≤ S → nd j < 2 ^ 30 ∧ rX4_need (nI j) v = nI (nd j)) {i : Nat} (hi : i < S) (hpr : v.2.1 (2 * i + 1) = nI (pr i)) : ∀ n x co, x + n = M + 1 → MC S M nd pr (i + 1) co → (∀ x', x' < x → co (121 * i + x') = nI (cg S M nd pr (S - i) x')) → MC S M nd pr i (mid_run (S + 1) i M v n x co) := by
  intro n
  induction n with
  | zero =>
    intro x co hx h1 h2 i' q1 q2 x' hx'
    rcases Nat.eq_or_lt_of_le q1 with e | e
    · subst e
      exact h2 x' (by omega)
    · exact h1 i' e q2 x' hx'
  | succ n ih =>
    intro x co hx h1 h2
    rw [mid_run_s]
    have e := in_ok hS hM hp hnd hi (x := x) (by omega) hpr h1 (M + 1 - x) 0 (by omega)
    have e0 : in_run (S + 1) i x (wc v co) (M + 1 - x) 0 1000000000 = nI (cg S M nd pr (S - i) x) := e
    rw [e0]
    refine ih (x + 1) _ (by omega) (fun i' q1 q2 x' hx' => ?_) (fun x' hx' => ?_)
    · rw [pk_un (by omega)]
      exact h1 i' q1 q2 x' hx'
    · by_cases c : x' = x
      · subst c
        rw [pk_us]
      · rw [pk_un (by omega)]
        exact h2 x' (by omega)
theorem out_ok {S M : Nat} {nd pr : Nat → Nat} {v : MS} (hS : S ≤ 12) (hM : M ≤ 120) (hp : ∀ i, i < S → pr i ≤ 255) (hnd : ∀ j, j ≤ S → nd j < 2 ^ 30 ∧ rX4_need (nI j) v = nI (nd j)) (hpr : ∀ i, i < S → v.2.1 (2 * i + 1) = nI (pr i)) : ∀ n co, n ≤ S → MC S M nd pr n co → MC S M nd pr 0 (out_run (S + 1) M v n co) := by
  intro n
  induction n with
  | zero =>
    intro co _ h
    exact h
  | succ n ih =>
    intro co hn h
    rw [out_run_s]
    exact ih _ (by omega) (mid_ok hS hM hp hnd (by omega) (hpr n (by omega)) (M + 1) 0 co (by omega) h (fun x' hx' => absurd hx' (Nat.not_lt_zero x')))
theorem isb_ok {S M : Nat} {nd pr : Nat → Nat} {v : MS} {co : Nat → Int32} (hS : S ≤ 12) (hM : M ≤ 120) (hp : ∀ i, i < S → pr i ≤ 255) (hnd : ∀ j, j ≤ S → nd j < 2 ^ 30 ∧ rX4_need (nI j) v = nI (nd j)) (hpr : ∀ i, i < S → v.2.1 (2 * i + 1) = nI (pr i)) (hco : MC S M nd pr 0 co) {i x b : Nat} (hi : i < S) (hxb : x + b ≤ M) : (rX4_isBest (nI i) (nI x) (nI b) (nI (S + 1)) (wc v co) = 0 ↔ ¬ (hh (cg S M nd pr (S - (i + 1))) (nd (i + 1)) (x + b) < 1000000000 ∧ hh (cg S M nd pr (S - (i + 1))) (nd (i + 1)) (x + b) + b * pr i = cg S M nd pr (S - i) x)) := by
  have hv0 := bhv hS hM hp hnd (j := i + 1) (f := x + b) (co := co) (by omega) hxb (fun i' _ q2 => hco i' (Nat.zero_le _) q2)
  have hv : rX4_behind (nI i + 1) (nI x + nI b) (nI (S + 1)) (wc v co) = nI (hh (cg S M nd pr (S - (i + 1))) (nd (i + 1)) (x + b)) := by rw [nI_1, nI_add]; exact hv0
  have hbp : b * pr i ≤ 120 * 255 := Nat.mul_le_mul (by omega) (hp i hi)
  have hpi : (wc v co).2.1 (2 * nI i + 1).toNatClampNeg = nI (pr i) := by rw [two1_cl (by omega)]; exact hpr i hi
  have hci : (wc v co).2.2.2.2.2.2.2.2.2.2.2.2.2.2.1 (121 * nI i + nI x).toNatClampNeg = nI (cg S M nd pr (S - i) x) := by rw [c121_cl (by omega)]; exact hco i (Nat.zero_le _) hi x (by omega)
  have hcb := (cg_bd hM hp (nd := nd) (S - i) (by omega) x (by omega)).1
  have hbd : hh (cg S M nd pr (S - (i + 1))) (nd (i + 1)) (x + b) ≤ 1000000000 := by
    unfold hh
    split
    · omega
    · exact (cg_bd hM hp (nd := nd) (S - (i + 1)) (by omega) (x + b - nd (i + 1)) (by omega)).1
  generalize hh (cg S M nd pr (S - (i + 1))) (nd (i + 1)) (x + b) = y at hv hbd ⊢
  generalize cg S M nd pr (S - i) x = w at hci hcb ⊢
  have e2 : nI y + nI b * nI (pr i) = nI (y + b * pr i) := by rw [pk_mul, nI_add]
  unfold rX4_isBest
  by_cases c1 : y < 1000000000
  · rw [if_neg (show ¬ (1000000000 : Int32) ≤ rX4_behind (nI i + 1) (nI x + nI b) (nI (S + 1)) (wc v co) by rw [hv]; exact nI_ge (a := y) (b := 1000000000) c1 (by decide))]
    by_cases c2 : y + b * pr i = w
    · rw [if_pos (show rX4_behind (nI i + 1) (nI x + nI b) (nI (S + 1)) (wc v co) + nI b * (wc v co).2.1 (2 * nI i + 1).toNatClampNeg = (wc v co).2.2.2.2.2.2.2.2.2.2.2.2.2.2.1 (121 * nI i + nI x).toNatClampNeg by rw [hv, hpi, hci, e2, c2])]
      exact ⟨fun q => absurd q (by decide), fun q => absurd ⟨c1, c2⟩ q⟩
    · rw [if_neg (show ¬ rX4_behind (nI i + 1) (nI x + nI b) (nI (S + 1)) (wc v co) + nI b * (wc v co).2.1 (2 * nI i + 1).toNatClampNeg = (wc v co).2.2.2.2.2.2.2.2.2.2.2.2.2.2.1 (121 * nI i + nI x).toNatClampNeg by rw [hv, hpi, hci, e2]; exact fun q => c2 ((nI_eq (by omega) (by omega)).mp q))]
      exact ⟨fun _ q => c2 q.2, fun _ => rfl⟩
  · rw [if_pos (show (1000000000 : Int32) ≤ rX4_behind (nI i + 1) (nI x + nI b) (nI (S + 1)) (wc v co) by rw [hv]; exact nI_le (a := 1000000000) (b := y) (by omega) (by omega))]
    exact ⟨fun _ q => c1 q.1, fun _ => rfl⟩
