/-- a long of 0 or more as a number -/
def lT (a : Int64) : Nat := a.toInt.toNat
theorem lN_lT {a : Int64} (h : 0 ≤ a) : a = lN (lT a) := by
  obtain ⟨k, hk, rfl⟩ := pk_lOf (x := a) (by intro h2; exact absurd h (Int64.not_le.mpr h2))
  unfold lT
  rw [pk_lT hk]
  rfl
theorem lT_lN {n : Nat} (h : n < 2 ^ 63) : lT (lN n) = n := by
  unfold lT
  rw [pk_lT h]
  rfl
theorem lT_lt (a : Int64) : lT a < 2 ^ 63 := by
  have := (fb_rngL a).2
  unfold lT
  omega
theorem lN_ne0 {y : Nat} (h : 0 < y) (h2 : y < 2 ^ 63) : ¬ lN y = 0 := fun h3 => by
  have := (pk_lEQ (a := y) (b := 0) h2 (by decide)).mp h3
  omega
theorem ly0 {y : Nat} (h2 : y < 2 ^ 63) (c : lg_cmp (lN y) 0 ≤ 0) : y = 0 := by
  have := (pk_lLE (a := y) (b := 0) h2 (by decide)).mp ((lg_cmp_le _ _).mp c)
  omega
theorem ly0e {y : Nat} (h2 : y < 2 ^ 63) (c : lg_cmp (lN y) 0 = 0) : y = 0 := (pk_lEQ (a := y) (b := 0) h2 (by decide)).mp ((lg_cmp_eq _ _).mp c)
theorem ly0r {y : Nat} (h : y = 0) : lg_cmp (lN y) 0 ≤ 0 := by subst h; decide +kernel
theorem ly0s {y : Nat} (h : y = 0) : lg_cmp (lN y) 0 = 0 := by subst h; decide +kernel
def gd_inv (G x y : Nat) : Prop := x < 2 ^ 63 ∧ y < 2 ^ 63 ∧ Nat.gcd x y = G
theorem gcd_step1 (x y : Nat) : Nat.gcd y (x % y) = Nat.gcd x y := by
  rw [Nat.gcd_comm x y, Nat.gcd_rec y x, Nat.gcd_comm (x % y) y]
theorem gd_step {G x y : Nat} (hy : 0 < y) (h : gd_inv G x y) : gd_inv G y (x % y) := by
  have := Nat.mod_lt x hy
  exact ⟨h.2.1, by have := h.2.1; omega, by rw [gcd_step1]; exact h.2.2⟩
theorem gd_end {G x : Nat} (h : gd_inv G x 0) : x = G := by
  have := h.2.2
  rw [Nat.gcd_zero_right] at this
  exact this
/-- with i steps done: the product falls by half at each step but the first -/
def gc_inv (G i x y : Nat) : Prop := i ≤ 99 ∧ x < 2 ^ 63 ∧ y < 2 ^ 63 ∧ Nat.gcd x y = G ∧ ((i = 0 ∧ x * y < 2 ^ 90) ∨ (y ≤ x ∧ x * y < 2 ^ (99 - i)))
theorem gc_half {x y : Nat} (hy : 0 < y) (h : y ≤ x) : 2 * (y * (x % y)) ≤ x * y := by
  have h1 : x % y + y ≤ x := by
    have h2 := Nat.div_add_mod x y
    have h3 : 1 ≤ x / y := (Nat.one_le_div_iff hy).mpr h
    have h4 : y * 1 ≤ y * (x / y) := Nat.mul_le_mul_left y h3
    omega
  have h5 := Nat.mod_lt x hy
  have h6 : 2 * (x % y) ≤ x := by omega
  calc 2 * (y * (x % y)) = y * (2 * (x % y)) := by rw [Nat.mul_left_comm]
    _ ≤ y * x := Nat.mul_le_mul_left y h6
    _ = x * y := Nat.mul_comm y x
theorem gc_step {G i x y : Nat} (hy : 0 < y) (h : gc_inv G i x y) : gc_inv G (i + 1) y (x % y) := by
  obtain ⟨h1, h2, h3, h4, h5⟩ := h
  have hm := Nat.mod_lt x hy
  rcases h5 with ⟨rfl, h6⟩ | ⟨h6, h7⟩
  · refine ⟨by omega, h3, by omega, by rw [gcd_step1]; exact h4, Or.inr ⟨by omega, ?_⟩⟩
    have h8 : y * (x % y) ≤ x * y := by
      rw [Nat.mul_comm x y]
      exact Nat.mul_le_mul_left y (Nat.mod_le x y)
    have h9 : 2 ^ 90 ≤ 2 ^ (99 - (0 + 1)) := Nat.pow_le_pow_right (by decide) (by decide)
    omega
  · have h8 := gc_half hy h6
    have hp : 0 < x * y := Nat.mul_pos (by omega) hy
    have hi : i ≠ 99 := by
      intro e
      subst e
      simp at h7
      omega
    refine ⟨by omega, h3, by omega, by rw [gcd_step1]; exact h4, Or.inr ⟨by omega, ?_⟩⟩
    have e : 99 - i = (99 - (i + 1)) + 1 := by omega
    rw [e, Nat.pow_succ] at h7
    omega
theorem gc_end {G i x : Nat} (h : gc_inv G i x 0) : x = G := by
  have := h.2.2.2.1
  rw [Nat.gcd_zero_right] at this
  exact this

set_option maxHeartbeats 4000000 in
set_option maxRecDepth 100000 in
theorem f_gcdM {p : Program} {l : Launch} {e : Env} {R : Room} {s : State} {m : MethodId} {args : Array Value} {below : List Frame} {meth : Method} {c : Code} {cells slots : Nat} {Q : State → Prop} {H0 : Heap} {A : Nat → Prop} {dC : Nat → ClassId} {dI : Nat → Nat → Nat} {cI cJ : ClassId} (hx : p.tables.exec = Jvm.exec) (hb : c.code = cX4_common) (hml : c.maxLocals = 10) (hown : s.vm.findClass RX4 = some m.cls) (hts : ∀ w ∈ wsX4_common, w.before args s = true) (hA : ∀ q : Nat, H0.size ≤ q → A q) (hK : va_K (dC, dI) vwCl [(cI, .int), (cJ, .long)] s) {G : Nat} (kk : ∀ (H : Heap) (locs : List Loc) (ls : Array Slot), va_P (dC, dI) vwCl [] H → va_D A [] → va_S A H0 H locs → lv_has ls 10 [(4, .long (lN G))] → W p l e R s m args below meth c H locs cells slots Q (F0 m 31 ls [])) : ∀ (n x y : Nat) (H : Heap) (locs : List Loc) (ls : Array Slot), y < n → gd_inv G x y → va_P (dC, dI) vwCl [] H → va_D A [] → va_S A H0 H locs → lv_has ls 10 [(4, .long (lN x)), (6, .long (lN y))] → W p l e R s m args below meth c H locs cells slots Q (F0 m 6 ls []) := by
  intro n
  induction n with
  | zero =>
    intro x y H locs ls hi
    exact absurd hi (by omega)
  | succ n ih =>
    intro x y H locs ls hi hinv hP hD hS hl
    have hbx := hinv.1
    have hby := hinv.2.1
    refine lv_lload hx hb dX4_common_6 (lv_at hl 1 rfl) ?_
    refine lv_lconst (v := 0) hx hb dX4_common_8 (by decide) ?_
    refine W.lcmp hx hb dX4_common_9 ?_
    refine lv_if_eq (tgt := 31) hx hb dX4_common_10 (by decide) (fun c_1 => ?_) (fun c_1 => ?_)
    · obtain rfl : y = 0 := ly0e (by omega) c_1
      exact kk _ _ _ hP hD hS (by rw [← gd_end hinv]; exact lv_sub hl [0] rfl)
    · have hy0 : 0 < y := by rcases Nat.eq_zero_or_pos y with q | q; exact absurd (ly0s q) c_1; exact q
      refine lv_lload hx hb dX4_common_13 (lv_at hl 0 rfl) ?_
      refine lv_lload hx hb dX4_common_15 (lv_at hl 1 rfl) ?_
      refine lv_lrem hx hb dX4_common_17 (lN_ne0 hy0 (by omega)) ?_
      refine lv_topl (fun z_2 ez_2 => ?_)
      obtain rfl : z_2 = lN (x % y) := ez_2.trans (pk_lRem (by omega) hy0 (by omega))
      refine lv_lstore (lv' := [(8, .long (lN (x % y))), (4, .long (lN x)), (6, .long (lN y))]) hx hb dX4_common_18 hl (by decide) rfl (fun ls hl => ?_)
      refine lv_lload hx hb dX4_common_20 (lv_at hl 2 rfl) ?_
      refine lv_lstore (lv' := [(4, .long (lN y)), (8, .long (lN (x % y))), (6, .long (lN y))]) hx hb dX4_common_22 hl (by decide) rfl (fun ls hl => ?_)
      refine lv_lload hx hb dX4_common_24 (lv_at hl 1 rfl) ?_
      refine lv_lstore (lv' := [(6, .long (lN (x % y))), (4, .long (lN y)), (8, .long (lN (x % y)))]) hx hb dX4_common_26 hl (by decide) rfl (fun ls hl => ?_)
      refine lv_goto (tgt := 6) hx hb dX4_common_28 (by decide) ?_
      exact ih y (x % y) _ _ _ (by have := Nat.mod_lt x hy0; omega) (gd_step hy0 hinv) hP hD hS (lv_sub hl [1, 0] rfl)

set_option maxHeartbeats 4000000 in
set_option maxRecDepth 100000 in
theorem f_gcdX {p : Program} {l : Launch} {e : Env} {R : Room} {s : State} {m : MethodId} {args : Array Value} {below : List Frame} {meth : Method} {c : Code} {cells slots : Nat} {Q : State → Prop} {H0 : Heap} {A : Nat → Prop} {dC : Nat → ClassId} {dI : Nat → Nat → Nat} {cI cJ : ClassId} (hx : p.tables.exec = Jvm.exec) (hb : c.code = cX3_commonDivisor) (hml : c.maxLocals = 11) (hown : s.vm.findClass RX3 = some m.cls) (hts : ∀ w ∈ wsX3_commonDivisor, w.before args s = true) (hA : ∀ q : Nat, H0.size ≤ q → A q) (hK : va_K (dC, dI) vwCl [(cI, .int), (cJ, .long)] s) {G : Nat} (kk : ∀ (H : Heap) (locs : List Loc) (ls : Array Slot), va_P (dC, dI) vwCl [] H → va_D A [] → va_S A H0 H locs → lv_has ls 11 [(4, .long (lN G))] → W p l e R s m args below meth c H locs cells slots Q (F0 m 44 ls [])) : ∀ (n i x y : Nat) (H : Heap) (locs : List Loc) (ls : Array Slot), i + n = 100 → gc_inv G i x y → va_P (dC, dI) vwCl [] H → va_D A [] → va_S A H0 H locs → lv_has ls 11 [(4, .long (lN x)), (6, .long (lN y)), (8, .int (nI i))] → W p l e R s m args below meth c H locs cells slots Q (F0 m 9 ls []) := by
  intro n
  induction n with
  | zero =>
    intro i x y H locs ls hi hinv
    exact absurd hinv.1 (by omega)
  | succ n ih =>
    intro i x y H locs ls hi hinv hP hD hS hl
    have hbx := hinv.2.1
    have hby := hinv.2.2.1
    refine lv_iload hx hb dX3_commonDivisor_9 (lv_at hl 2 rfl) ?_
    refine lv_bipush (v := 100) hx hb dX3_commonDivisor_11 (by decide) ?_
    refine lv_icmp_ge (tgt := 44) hx hb dX3_commonDivisor_13 (by decide) (fun c_1 => absurd c_1 (nI_ge (a := i) (b := 100) (by omega) (by decide))) (fun c_1 => ?_)
    refine lv_lload hx hb dX3_commonDivisor_16 (lv_at hl 1 rfl) ?_
    refine lv_lconst (v := 0) hx hb dX3_commonDivisor_18 (by decide) ?_
    refine W.lcmp hx hb dX3_commonDivisor_19 ?_
    refine lv_if_le (tgt := 44) hx hb dX3_commonDivisor_20 (by decide) (fun c_2 => ?_) (fun c_2 => ?_)
    · obtain rfl : y = 0 := ly0 (by omega) c_2
      exact kk _ _ _ hP hD hS (by rw [← gc_end hinv]; exact lv_sub hl [0] rfl)
    · have hy0 : 0 < y := by rcases Nat.eq_zero_or_pos y with q | q; exact absurd (ly0r q) c_2; exact q
      refine lv_lload hx hb dX3_commonDivisor_23 (lv_at hl 0 rfl) ?_
      refine lv_lload hx hb dX3_commonDivisor_25 (lv_at hl 1 rfl) ?_
      refine lv_lrem hx hb dX3_commonDivisor_27 (lN_ne0 hy0 (by omega)) ?_
      refine lv_topl (fun z_3 ez_3 => ?_)
      obtain rfl : z_3 = lN (x % y) := ez_3.trans (pk_lRem (by omega) hy0 (by omega))
      refine lv_lstore (lv' := [(9, .long (lN (x % y))), (4, .long (lN x)), (6, .long (lN y)), (8, .int (nI i))]) hx hb dX3_commonDivisor_28 hl (by decide) rfl (fun ls hl => ?_)
      refine lv_lload hx hb dX3_commonDivisor_30 (lv_at hl 2 rfl) ?_
      refine lv_lstore (lv' := [(4, .long (lN y)), (9, .long (lN (x % y))), (6, .long (lN y)), (8, .int (nI i))]) hx hb dX3_commonDivisor_32 hl (by decide) rfl (fun ls hl => ?_)
      refine lv_lload hx hb dX3_commonDivisor_34 (lv_at hl 1 rfl) ?_
      refine lv_lstore (lv' := [(6, .long (lN (x % y))), (4, .long (lN y)), (9, .long (lN (x % y))), (8, .int (nI i))]) hx hb dX3_commonDivisor_36 hl (by decide) rfl (fun ls hl => ?_)
      refine lv_iinc (v := nI (i + 1)) (lv' := [(8, .int (nI (i + 1))), (6, .long (lN (x % y))), (4, .long (lN y)), (9, .long (lN (x % y)))]) hx hb dX3_commonDivisor_38 hl (k := 3) rfl (nI_1 i) (by decide) rfl (fun ls hl => ?_)
      refine lv_goto (tgt := 9) hx hb dX3_commonDivisor_41 (by decide) ?_
      exact ih (i + 1) y (x % y) _ _ _ (by omega) (gc_step hy0 hinv) hP hD hS (lv_sub hl [2, 1, 0] rfl)

def rX4_common (a : Int64) (b : Int64) : Int64 :=
  lN (Nat.gcd (lT a) (lT b))
set_option maxHeartbeats 4000000 in
set_option maxRecDepth 100000 in
theorem kX4_common (l : Launch) (dC : Nat → ClassId) (dI : Nat → Nat → Nat) (cI cJ : ClassId) (sz : Nat) (a : Int64) (b : Int64)  (h1 : 0 ≤ a) (h2 : 0 ≤ b) : Met l yX4_common wsX4_common ({ frames := 0, cells := 0, slots := 0, locals := 0 }) (va_Pc [.long a, .long b] (fun U => U.heap.size = sz ∧ va_P (dC, dI) vwCl [] U.heap ∧ va_K (dC, dI) vwCl [(cI, .int), (cJ, .long)] U ∧ va_D (fun _ => True) [])) (va_Ql (fun (r : Int64) (_ : Unit) => r = rX4_common a b) (fun _ t => va_P (dC, dI) vwCl [] t.heap ∧ va_K (dC, dI) vwCl [(cI, .int), (cJ, .long)] t ∧ va_D (va_A [] sz) []) (va_A [] sz)) 0 0 (va_A [] sz) := by
  refine Met.ofW (cc := cX4_common) (maxL := 10) (ret := (some .long)) (by decide) rfl ?_
  intro p e s m args below meth c s₁ B hml hv
  obtain ⟨rfl, hsz, hP, hK, hD0⟩ := hv
  have hx := B.exec
  have hb := B.bytes
  have hr := B.returns
  have hts := atoms_spec (ws := wsX4_common) B.pre
  have hown : s.vm.findClass RX4 = some m.cls := findClass_of_methodNamed B.named
  have hlocks := B.notSynchronized
  subst hsz
  have hD := hD0.self (sz := s.heap.size)
  generalize hAe : va_A [] s.heap.size = A at hD ⊢
  have hA : ∀ q : Nat, s.heap.size ≤ q → A q := fun q h => by rw [← hAe]; exact Or.inr h
  have hS : va_S A s.heap s.heap [] := va_S.rf
  have hl := lv_entry ([.long a, .long b]) (n := 10) (Nat.le_of_ble_eq_true rfl)
  rw [lg_entry_eq]
  generalize (lg_sl ([.long a, .long b]) ++ List.replicate (10 - (lg_sl ([.long a, .long b])).length) Slot.unset).toArray = ls at hl ⊢
  have hl : lv_has ls 10 [(0, .long a), (2, .long b)] := hl
  have hP : va_P (dC, dI) vwCl [] s.heap := hP
  refine lv_lload_n hx hb dX4_common_0 rfl (lv_at hl 0 rfl) ?_
  refine lv_lstore (lv' := [(4, .long a), (0, .long a), (2, .long b)]) hx hb dX4_common_1 hl (by decide) rfl (fun ls hl => ?_)
  refine lv_lload_n hx hb dX4_common_3 rfl (lv_at hl 2 rfl) ?_
  refine lv_lstore (lv' := [(6, .long b), (4, .long a), (0, .long a), (2, .long b)]) hx hb dX4_common_4 hl (by decide) rfl (fun ls hl => ?_)
  rw [lN_lT h1, lN_lT h2] at hl
  refine f_gcdM hx hb hml hown hts hA hK (fun H locs ls hP hD hS hl => ?_) _ _ _ _ _ _ (Nat.lt_succ_self _) ⟨lT_lt a, lT_lt b, rfl⟩ hP hD hS (lv_sub hl [1, 0] rfl)
  refine lv_lload hx hb dX4_common_31 (lv_at hl 0 rfl) ?_
  have er : lN (Nat.gcd (lT a) (lT b)) = rX4_common a b := by rw [rX4_common]
  refine W.lret (v := lN (Nat.gcd (lT a) (lT b))) hx hb hr (fun t ht hW => ⟨⟨lN (Nat.gcd (lT a) (lT b)), (), rfl, er, ?_⟩, hS.F ht⟩) hS.2.2 dX4_common_33
  exact ⟨by rw [ht]; exact hP, va_K.moved hW.alike hK, hD⟩

def rX3_commonDivisor (a : Int64) (b : Int64) : Int64 :=
  if (lN (Nat.gcd (lT a) (lT b))) < 1 then 1 else (lN (Nat.gcd (lT a) (lT b)))
set_option maxHeartbeats 4000000 in
set_option maxRecDepth 100000 in
theorem kX3_commonDivisor (l : Launch) (dC : Nat → ClassId) (dI : Nat → Nat → Nat) (cI cJ : ClassId) (sz : Nat) (a : Int64) (b : Int64)  (h1 : 0 ≤ a) (h2 : 0 ≤ b) (h3 : lT a * lT b < 2 ^ 90) : Met l yX3_commonDivisor wsX3_commonDivisor ({ frames := 1, cells := 0, slots := 0, locals := 23 }) (va_Pc [.long a, .long b] (fun U => U.heap.size = sz ∧ va_P (dC, dI) vwCl [] U.heap ∧ va_K (dC, dI) vwCl [(cI, .int), (cJ, .long)] U ∧ va_D (fun _ => True) [])) (va_Ql (fun (r : Int64) (_ : Unit) => r = rX3_commonDivisor a b) (fun _ t => va_P (dC, dI) vwCl [] t.heap ∧ va_K (dC, dI) vwCl [(cI, .int), (cJ, .long)] t ∧ va_D (va_A [] sz) []) (va_A [] sz)) 0 0 (va_A [] sz) := by
  refine Met.ofW (cc := cX3_commonDivisor) (maxL := 11) (ret := (some .long)) (by decide) rfl ?_
  intro p e s m args below meth c s₁ B hml hv
  obtain ⟨rfl, hsz, hP, hK, hD0⟩ := hv
  have hx := B.exec
  have hb := B.bytes
  have hr := B.returns
  have hts := atoms_spec (ws := wsX3_commonDivisor) B.pre
  have hown : s.vm.findClass RX3 = some m.cls := findClass_of_methodNamed B.named
  have hlocks := B.notSynchronized
  subst hsz
  have hD := hD0.self (sz := s.heap.size)
  generalize hAe : va_A [] s.heap.size = A at hD ⊢
  have hA : ∀ q : Nat, s.heap.size ≤ q → A q := fun q h => by rw [← hAe]; exact Or.inr h
  have hS : va_S A s.heap s.heap [] := va_S.rf
  have hl := lv_entry ([.long a, .long b]) (n := 11) (Nat.le_of_ble_eq_true rfl)
  rw [lg_entry_eq]
  generalize (lg_sl ([.long a, .long b]) ++ List.replicate (11 - (lg_sl ([.long a, .long b])).length) Slot.unset).toArray = ls at hl ⊢
  have hl : lv_has ls 11 [(0, .long a), (2, .long b)] := hl
  have hP : va_P (dC, dI) vwCl [] s.heap := hP
  refine lv_lload_n hx hb dX3_commonDivisor_0 rfl (lv_at hl 0 rfl) ?_
  refine lv_lstore (lv' := [(4, .long a), (0, .long a), (2, .long b)]) hx hb dX3_commonDivisor_1 hl (by decide) rfl (fun ls hl => ?_)
  refine lv_lload_n hx hb dX3_commonDivisor_3 rfl (lv_at hl 2 rfl) ?_
  refine lv_lstore (lv' := [(6, .long b), (4, .long a), (0, .long a), (2, .long b)]) hx hb dX3_commonDivisor_4 hl (by decide) rfl (fun ls hl => ?_)
  refine lv_iconst (v := 0) hx hb dX3_commonDivisor_6 (by decide) ?_
  refine lv_istore (lv' := [(8, .int 0), (6, .long b), (4, .long a), (0, .long a), (2, .long b)]) hx hb dX3_commonDivisor_7 hl (by decide) rfl (fun ls hl => ?_)
  rw [lN_lT h1, lN_lT h2] at hl
  refine f_gcdX hx hb hml hown hts hA hK (fun H locs ls hP hD hS hl => ?_) 100 0 _ _ _ _ _ rfl ⟨by decide, lT_lt a, lT_lt b, rfl, Or.inl ⟨rfl, h3⟩⟩ hP hD hS (lv_sub hl [2, 1, 0] rfl)
  refine lv_lconst (v := 1) hx hb dX3_commonDivisor_44 (by decide) ?_
  refine lv_lload hx hb dX3_commonDivisor_45 (lv_at hl 0 rfl) ?_
  refine va_mmax_long hx hb (by rw [hml]; exact hl.1.symm) hown (hts (.methodLink RX3 210 Lib.MathLoose.max_long.x) (by decide +kernel)) (hts (.static Lib.MathLoose.max_long.x) (by decide +kernel)) (hts (.initialized "java/lang/Math") (by decide +kernel)) (hts (.code Lib.MathLoose.max_long.x Lib.MathLoose.max_long.code 4 (some .long)) (by decide +kernel)) (Nat.le_of_ble_eq_true rfl) (Nat.le_of_ble_eq_true rfl) (Nat.zero_le _) (Nat.zero_le _) dX3_commonDivisor_47 ?_
  have er : (if (lN (Nat.gcd (lT a) (lT b))) < 1 then 1 else (lN (Nat.gcd (lT a) (lT b)))) = rX3_commonDivisor a b := by rw [rX3_commonDivisor]
  refine W.lret (v := if (lN (Nat.gcd (lT a) (lT b))) < 1 then 1 else (lN (Nat.gcd (lT a) (lT b)))) hx hb hr (fun t ht hW => ⟨⟨if (lN (Nat.gcd (lT a) (lT b))) < 1 then 1 else (lN (Nat.gcd (lT a) (lT b))), (), rfl, er, ?_⟩, hS.F ht⟩) hS.2.2 dX3_commonDivisor_50
  exact ⟨by rw [ht]; exact hP, va_K.moved hW.alike hK, hD⟩
