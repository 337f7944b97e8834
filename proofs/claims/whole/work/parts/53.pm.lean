/-! the least cost, as a number -/
def hh (c : Nat → Nat) (leg f : Nat) : Nat := if f < leg then 1000000000 else c (f - leg)
def pm (h : Nat → Nat) (p x : Nat) : Nat → Nat
  | 0 => 1000000000
  | n + 1 => if h (x + n) < 1000000000 ∧ h (x + n) + n * p < pm h p x n then h (x + n) + n * p else pm h p x n
theorem pm_s (h : Nat → Nat) (p x n : Nat) : pm h p x (n + 1) = if h (x + n) < 1000000000 ∧ h (x + n) + n * p < pm h p x n then h (x + n) + n * p else pm h p x n := rfl
theorem pm_le (h : Nat → Nat) (p x : Nat) : ∀ n, pm h p x n ≤ 1000000000
  | 0 => Nat.le_refl _
  | n + 1 => by
    have ih := pm_le h p x n
    rw [pm_s]
    split
    · omega
    · exact ih
theorem pm_lb (h : Nat → Nat) (p x : Nat) : ∀ n b, b < n → h (x + b) < 1000000000 → pm h p x n ≤ h (x + b) + b * p
  | 0, b, hb, _ => absurd hb (Nat.not_lt_zero b)
  | n + 1, b, hb, hf => by
    have ih := pm_lb h p x n
    rw [pm_s]
    by_cases e : b = n
    · subst e
      split
      · exact Nat.le_refl _
      · rename_i q
        rcases Nat.lt_or_ge (h (x + b) + b * p) (pm h p x b) with r | r
        · exact absurd ⟨hf, r⟩ q
        · exact r
    · have i2 := ih b (by omega) hf
      split
      · omega
      · exact i2
theorem pm_ex (h : Nat → Nat) (p x : Nat) : ∀ n, pm h p x n = 1000000000 ∨ ∃ b, b < n ∧ h (x + b) < 1000000000 ∧ pm h p x n = h (x + b) + b * p
  | 0 => Or.inl rfl
  | n + 1 => by
    have ih := pm_ex h p x n
    rw [pm_s]
    split
    · rename_i q
      exact Or.inr ⟨n, by omega, q.1, rfl⟩
    · rcases ih with e | ⟨b, h1, h2, h3⟩
      · exact Or.inl e
      · exact Or.inr ⟨b, by omega, h2, h3⟩
theorem msplit {x f : Nat} (p : Nat) (h : x ≤ f) : f * p = x * p + (f - x) * p := by
  rw [← Nat.add_mul]
  congr 1
  omega
def XS (h : Nat → Nat) (p M x be bf : Nat) : Prop := (∀ f, x ≤ f → f ≤ M → h f < 1000000000 → be ≤ h f + f * p) ∧ ((be = 1000000000 ∧ ∀ f, x ≤ f → f ≤ M → ¬ h f < 1000000000) ∨ (be < 1000000000 ∧ x ≤ bf ∧ bf ≤ M ∧ h bf < 1000000000 ∧ be = h bf + bf * p ∧ ∀ f, x ≤ f → f < bf → h f < 1000000000 → be < h f + f * p))
/-- f is the least best filling at x -/
def FP (h : Nat → Nat) (p M x f : Nat) : Prop := f ≤ M ∧ (pm h p x (M + 1 - x) < 1000000000 → x ≤ f ∧ h f < 1000000000 ∧ pm h p x (M + 1 - x) = h f + (f - x) * p ∧ ∀ f', x ≤ f' → f' < f → h f' < 1000000000 → pm h p x (M + 1 - x) < h f' + (f' - x) * p)
theorem pm_of {h : Nat → Nat} {p M x be bf : Nat} (hb : ∀ f, f ≤ M → h f < 1000000000 → h f ≤ 400000) (hp : p ≤ 255) (hM : M ≤ 120) (hx : x ≤ M) (hf : bf ≤ M) (H : XS h p M x be bf) : pm h p x (M + 1 - x) = (if be < 1000000000 then be - x * p else 1000000000) ∧ FP h p M x bf ∧ (be < 1000000000 → x * p ≤ be) := by
  obtain ⟨h1, h2⟩ := H
  have lb := pm_lb h p x (M + 1 - x)
  rcases h2 with ⟨e, h3⟩ | ⟨h3, h4, h5, h6, h7, h8⟩
  · rw [if_neg (by omega)]
    have e2 : pm h p x (M + 1 - x) = 1000000000 := by
      rcases pm_ex h p x (M + 1 - x) with q | ⟨b, q1, q2, q3⟩
      · exact q
      · exact absurd q2 (h3 (x + b) (by omega) (by omega))
    exact ⟨e2, ⟨hf, fun q => by omega⟩, fun q => by omega⟩
  · rw [if_pos h3]
    have s1 := msplit p h4
    have h9 := hb bf h5 h6
    have l1 := lb (bf - x) (by omega) (by rw [show x + (bf - x) = bf by omega]; exact h6)
    rw [show x + (bf - x) = bf by omega] at l1
    have np : (bf - x) * p ≤ 120 * 255 := Nat.mul_le_mul (by omega) hp
    have e2 : pm h p x (M + 1 - x) = h bf + (bf - x) * p := by
      rcases pm_ex h p x (M + 1 - x) with q | ⟨b, q1, q2, q3⟩
      · omega
      · have h10 := h1 (x + b) (by omega) (by omega) q2
        have s2 := msplit (x := x) (f := x + b) p (by omega)
        rw [show x + b - x = b by omega] at s2
        omega
    refine ⟨by omega, ⟨h5, fun _ => ⟨h4, h6, e2, fun f' q1 q2 q3 => ?_⟩⟩, fun _ => by omega⟩
    have h10 := h8 f' q1 q2 q3
    have s2 := msplit (x := x) (f := f') p q1
    omega
theorem XS_keep {h : Nat → Nat} {p M n be bf : Nat} (hb : ∀ f, f ≤ M → h f < 1000000000 → h f ≤ 400000) (hp : p ≤ 255) (hM : M ≤ 120) (H : XS h p M (n + 1) be bf) (hk : h n < 1000000000 → be < h n + n * p) (hnM : n ≤ M) : XS h p M n be bf := by
  obtain ⟨h1, h2⟩ := H
  have np : n * p ≤ 120 * 255 := Nat.mul_le_mul (by omega) hp
  refine ⟨fun f q1 q2 q3 => ?_, ?_⟩
  · rcases Nat.eq_or_lt_of_le q1 with e | e
    · subst e
      exact Nat.le_of_lt (hk q3)
    · exact h1 f e q2 q3
  · rcases h2 with ⟨e, h3⟩ | ⟨h3, h4, h5, h6, h7, h8⟩
    · refine Or.inl ⟨e, fun f q1 q2 q3 => ?_⟩
      rcases Nat.eq_or_lt_of_le q1 with e2 | e2
      · subst e2
        have r1 := hk q3
        have r2 := hb n hnM q3
        omega
      · exact h3 f e2 q2 q3
    · refine Or.inr ⟨h3, by omega, h5, h6, h7, fun f q1 q2 q3 => ?_⟩
      rcases Nat.eq_or_lt_of_le q1 with e2 | e2
      · subst e2
        exact hk q3
      · exact h8 f e2 q2 q3
theorem XS_take {h : Nat → Nat} {p M n be bf : Nat} (hb : ∀ f, f ≤ M → h f < 1000000000 → h f ≤ 400000) (hp : p ≤ 255) (hM : M ≤ 120) (H : XS h p M (n + 1) be bf) (hn : h n < 1000000000) (hk : h n + n * p ≤ be) (hnM : n ≤ M) : XS h p M n (h n + n * p) n := by
  obtain ⟨h1, h2⟩ := H
  have np : n * p ≤ 120 * 255 := Nat.mul_le_mul (by omega) hp
  have r2 := hb n hnM hn
  refine ⟨fun f q1 q2 q3 => ?_, Or.inr ⟨by omega, Nat.le_refl _, hnM, hn, rfl, fun f q1 q2 => by omega⟩⟩
  rcases Nat.eq_or_lt_of_le q1 with e | e
  · subst e
    exact Nat.le_refl _
  · have := h1 f e q2 q3
    omega
theorem XS_0 (h : Nat → Nat) (p M : Nat) (bf : Nat) : XS h p M (M + 1) 1000000000 bf := ⟨fun f q1 q2 => by omega, Or.inl ⟨rfl, fun f q1 q2 => by omega⟩⟩
theorem stp_keep {lg ro p n be bf : Nat} {t f : Nat → Int32} (hn : n ≤ 120) (hl : lg < 2 ^ 31) (hp : p ≤ 255) (hbe : be ≤ 1000000000) (hlow : be < 1000000000 → n * p ≤ be) (hk : lg ≤ n → ∃ y, t (n - lg) = nI y ∧ y ≤ 1000000000 ∧ (1000000000 ≤ y ∨ be < y + n * p)) : rs_step lg ro (nI p) n (t, f, nI be, nI bf) = (upd t n (nI (if be < 1000000000 then be - n * p else 1000000000)), upd f (ro + n) (nI bf), nI be, nI bf) := by
  have hnp : n * p ≤ 120 * 255 := Nat.mul_le_mul hn hp
  have inner : (if (1000000000 : Int32) ≤ nI be then ((upd t n 1000000000, upd f (ro + n) (nI bf), nI be, nI bf) : rsZ) else (upd t n (nI be - (nI n * nI p)), upd f (ro + n) (nI bf), nI be, nI bf)) = (upd t n (nI (if be < 1000000000 then be - n * p else 1000000000)), upd f (ro + n) (nI bf), nI be, nI bf) := by
    by_cases c : be < 1000000000
    · rw [if_neg (show ¬ (1000000000 : Int32) ≤ nI be from nI_ge (a := be) (b := 1000000000) c (by decide)), if_pos c, pk_mul, pk_sub (hlow c)]
    · rw [if_pos (show (1000000000 : Int32) ≤ nI be from nI_le (a := 1000000000) (b := be) (by omega) (by omega)), if_neg c]
      rfl
  unfold rs_step
  dsimp only
  by_cases c1 : n < lg
  · rw [if_pos (nI_lt c1 hl)]
    exact inner
  · obtain ⟨y, hy, hy2, hy3⟩ := hk (by omega)
    have e1 : (nI n - nI lg).toNatClampNeg = n - lg := by rw [pk_sub (by omega), nI_clamp (by omega)]
    have e9 : t ((nI n - nI lg).toNatClampNeg) = nI y := by rw [e1, hy]
    rw [if_neg (nI_nlt (a := n) (b := lg) (by omega) (by omega))]
    by_cases c2 : 1000000000 ≤ y
    · rw [if_pos (show (1000000000 : Int32) ≤ t ((nI n - nI lg).toNatClampNeg) by rw [e9]; exact nI_le (a := 1000000000) (b := y) c2 (by omega))]
      exact inner
    · rw [if_neg (show ¬ (1000000000 : Int32) ≤ t ((nI n - nI lg).toNatClampNeg) by rw [e9]; exact nI_ge (a := y) (b := 1000000000) (by omega) (by decide))]
      have c3 : be < y + n * p := by omega
      have e2 : nI y + nI n * nI p = nI (y + n * p) := by rw [pk_mul, nI_add]
      rw [if_pos (show nI be < t ((nI n - nI lg).toNatClampNeg) + nI n * nI p by rw [e9, e2]; exact nI_lt c3 (by omega))]
      exact inner
theorem stp_take {lg ro p n be bf y : Nat} {t f : Nat → Int32} (hn : n ≤ 120) (hp : p ≤ 255) (hbe : be ≤ 1000000000) (hlg : lg ≤ n) (hy : t (n - lg) = nI y) (hy2 : y ≤ 400000) (hy3 : y + n * p ≤ be) : rs_step lg ro (nI p) n (t, f, nI be, nI bf) = (upd t n (nI y), upd f (ro + n) (nI n), nI (y + n * p), nI n) := by
  have hnp : n * p ≤ 120 * 255 := Nat.mul_le_mul hn hp
  have e1 : (nI n - nI lg).toNatClampNeg = n - lg := by rw [pk_sub (by omega), nI_clamp (by omega)]
  have e2 : nI y + nI n * nI p = nI (y + n * p) := by rw [pk_mul, nI_add]
  have e3 : nI (y + n * p) - nI n * nI p = nI y := by rw [pk_mul, pk_sub (by omega), show y + n * p - n * p = y by omega]
  unfold rs_step
  dsimp only
  have e9 : t ((nI n - nI lg).toNatClampNeg) = nI y := by rw [e1, hy]
  rw [if_neg (nI_nlt (a := n) (b := lg) (by omega) (by omega))]
  rw [if_neg (show ¬ (1000000000 : Int32) ≤ t ((nI n - nI lg).toNatClampNeg) by rw [e9]; exact nI_ge (a := y) (b := 1000000000) (by omega) (by decide))]
  rw [if_neg (show ¬ nI be < t ((nI n - nI lg).toNatClampNeg) + nI n * nI p by rw [e9, e2]; exact nI_nlt (a := be) (b := y + n * p) (by omega) (by omega))]
  rw [if_neg (show ¬ (1000000000 : Int32) ≤ t ((nI n - nI lg).toNatClampNeg) + nI n * nI p by rw [e9, e2]; exact nI_ge (a := y + n * p) (b := 1000000000) (by omega) (by decide))]
  rw [e9, e2, e3]
theorem rs_ok {lg ro p M : Nat} {c : Nat → Nat} (hlg : 1 ≤ lg) (hl : lg < 2 ^ 31) (hM : M ≤ 120) (hp : p ≤ 255) (hc : ∀ x, x ≤ M → c x ≤ 1000000000 ∧ (c x < 1000000000 → c x ≤ 400000)) : ∀ (n be bf : Nat) (t f : Nat → Int32), n ≤ M + 1 → (∀ x, x < n → t x = nI (c x)) → be ≤ 1000000000 → bf ≤ M → XS (hh c lg) p M n be bf →
    (∀ x, x < n → (rs_run lg ro (nI p) n (t, f, nI be, nI bf)).1 x = nI (pm (hh c lg) p x (M + 1 - x))) ∧ (∀ x, n ≤ x → (rs_run lg ro (nI p) n (t, f, nI be, nI bf)).1 x = t x) ∧ (∀ x, x < n → ∃ q, (rs_run lg ro (nI p) n (t, f, nI be, nI bf)).2.1 (ro + x) = nI q ∧ FP (hh c lg) p M x q) ∧ (∀ j, (j < ro ∨ ro + n ≤ j) → (rs_run lg ro (nI p) n (t, f, nI be, nI bf)).2.1 j = f j) := by
  have hbd : ∀ q, q ≤ M → hh c lg q < 1000000000 → hh c lg q ≤ 400000 := fun q h1 h2 => by
    unfold hh at h2 ⊢
    split at h2
    · omega
    · rename_i h3
      rw [if_neg h3]
      exact (hc (q - lg) (by omega)).2 h2
  intro n
  induction n with
  | zero =>
    intro be bf t f _ _ _ _ _
    exact ⟨fun x hx => absurd hx (Nat.not_lt_zero x), fun x _ => rfl, fun x hx => absurd hx (Nat.not_lt_zero x), fun j _ => rfl⟩
  | succ n ih =>
    intro be bf t f hn ht hbe hbf H
    rw [rs_run_s]
    have key : ∃ be' bf' : Nat, rs_step lg ro (nI p) n (t, f, nI be, nI bf) = (upd t n (nI (pm (hh c lg) p n (M + 1 - n))), upd f (ro + n) (nI bf'), nI be', nI bf') ∧ be' ≤ 1000000000 ∧ bf' ≤ M ∧ XS (hh c lg) p M n be' bf' ∧ FP (hh c lg) p M n bf' := by
      have keep : (hh c lg n < 1000000000 → be < hh c lg n + n * p) → ∃ be' bf' : Nat, rs_step lg ro (nI p) n (t, f, nI be, nI bf) = (upd t n (nI (pm (hh c lg) p n (M + 1 - n))), upd f (ro + n) (nI bf'), nI be', nI bf') ∧ be' ≤ 1000000000 ∧ bf' ≤ M ∧ XS (hh c lg) p M n be' bf' ∧ FP (hh c lg) p M n bf' := fun hk => by
        have X1 := XS_keep hbd hp hM H hk (by omega)
        obtain ⟨p1, p2, p3⟩ := pm_of hbd hp hM (by omega) hbf X1
        refine ⟨be, bf, ?_, hbe, hbf, X1, p2⟩
        rw [p1]
        refine stp_keep (by omega) hl hp hbe p3 (fun q => ?_)
        have e : hh c lg n = c (n - lg) := if_neg (by omega)
        refine ⟨c (n - lg), ht (n - lg) (by omega), (hc (n - lg) (by omega)).1, ?_⟩
        rw [e] at hk
        rcases Nat.lt_or_ge (c (n - lg)) 1000000000 with r | r
        · exact Or.inr (hk r)
        · exact Or.inl r
      by_cases c1 : hh c lg n < 1000000000
      · by_cases c2 : hh c lg n + n * p ≤ be
        · have hge : lg ≤ n := by
            rcases Nat.lt_or_ge n lg with r | r
            · have : hh c lg n = 1000000000 := if_pos r
              omega
            · exact r
          have e : hh c lg n = c (n - lg) := if_neg (by omega)
          have X1 := XS_take hbd hp hM H c1 c2 (by omega)
          obtain ⟨p1, p2, p3⟩ := pm_of hbd hp hM (by omega) (by omega) X1
          have r2 := hbd n (by omega) c1
          have np : n * p ≤ 120 * 255 := Nat.mul_le_mul (by omega) hp
          refine ⟨hh c lg n + n * p, n, ?_, by omega, by omega, X1, p2⟩
          rw [p1, if_pos (by omega), show hh c lg n + n * p - n * p = hh c lg n by omega, e]
          rw [e] at c2 r2
          exact stp_take (by omega) hp hbe hge (ht (n - lg) (by omega)) r2 c2
        · exact keep (fun _ => by omega)
      · exact keep (fun q => absurd q c1)
    obtain ⟨be', bf', e, k1, k2, k3, k4⟩ := key
    rw [e]
    obtain ⟨i1, i2, i3, i4⟩ := ih be' bf' (upd t n (nI (pm (hh c lg) p n (M + 1 - n)))) (upd f (ro + n) (nI bf')) (by omega) (fun x hx => by rw [pk_un (by omega)]; exact ht x (by omega)) k1 k2 k3
    refine ⟨fun x hx => ?_, fun x hx => ?_, fun x hx => ?_, fun j hj => ?_⟩
    · rcases Nat.lt_or_ge x n with r | r
      · exact i1 x r
      · obtain rfl : x = n := by omega
        rw [i2 x (Nat.le_refl _), pk_us]
    · rw [i2 x (by omega), pk_un (by omega)]
    · rcases Nat.lt_or_ge x n with r | r
      · exact i3 x r
      · obtain rfl : x = n := by omega
        exact ⟨bf', by rw [i4 (ro + x) (by omega), pk_us], k4⟩
    · rw [i4 j (by omega), pk_un (by omega)]
