theorem i_ge0 {x : Int32} (h : 0 ≤ x) : ∃ j : Nat, j < 2 ^ 31 ∧ x = nI j := nI_of (by intro h2; exact absurd h (Int32.not_le.mpr h2))
theorem rem30_in {x : Int32} (h : 0 ≤ x) : vp_in (x - x / 30 * 30) 30 := by
  obtain ⟨j, hj, rfl⟩ := i_ge0 h
  show vp_in (nI j - nI j / nI 30 * nI 30) 30
  rw [pk_rem hj (by decide) (by decide)]
  exact vp_in_nI (Nat.mod_lt _ (by decide)) (by decide)
theorem pred_ge0 {x : Int32} (h : 1 ≤ x) : 0 ≤ x - 1 := by
  rw [fa_le] at h ⊢
  have h1 : (1 : Int32).toInt = 1 := by decide
  have h0 : (0 : Int32).toInt = 0 := by decide
  have hr := fb_rng x
  rw [fb_subI (by omega) (by omega)]
  omega
theorem mk_in {k w : Int32} (hk : vp_in k 4) (hw : vp_in w 5) : vp_in (k * 5 + w) 20 := by
  obtain ⟨a, ha, rfl⟩ := vp_in_of hk (by decide)
  obtain ⟨b, hb, rfl⟩ := vp_in_of hw (by decide)
  show vp_in (nI a * nI 5 + nI b) 20
  rw [pk_mul, nI_add]
  exact vp_in_nI (by omega) (by decide)
theorem vd {i : Int32} {n : Nat} (h : decide (¬ (i < 0 ∨ n ≤ i.toNatClampNeg)) = true) : vp_in i n := by have h2 : ¬ (i < 0 ∨ n ≤ i.toNatClampNeg) := of_decide_eq_true h; exact h2
theorem lt60 {x : Int32} (h : 0 ≤ x) (c : ¬ 60 ≤ x) : vp_in x 60 := by
  rw [fa_le] at h c
  have h0 : (0 : Int32).toInt = 0 := by decide
  have h6 : (60 : Int32).toInt = 60 := by decide
  exact vp_in_iff.mpr ⟨by omega, by omega⟩
theorem suc60 {x : Int32} (h : 0 ≤ x) (c : ¬ 60 ≤ x) : 0 ≤ x + 1 := by
  rw [fa_le] at h c ⊢
  have h0 : (0 : Int32).toInt = 0 := by decide
  have h6 : (60 : Int32).toInt = 60 := by decide
  have h1 : (1 : Int32).toInt = 1 := by decide
  rw [fb_addI (by omega) (by omega)]
  omega
theorem lt_in {i b : Int32} {n : Nat} (h1 : ¬ i < 0) (h2 : ¬ b ≤ i) (h3 : b.toInt ≤ n) : vp_in i n := by
  rw [fa_lt] at h1
  rw [fa_le] at h2
  have h0 : (0 : Int32).toInt = 0 := by decide
  exact vp_in_iff.mpr ⟨by omega, by omega⟩
theorem sgn_xor30 (x : Int32) : 0 ≤ x ^^^ 30 ↔ 0 ≤ x := by
  have h0 : (0 : Int32).toInt = 0 := by decide
  have e : (x ^^^ 30).toBitVec = x.toBitVec ^^^ (30 : Int32).toBitVec := Int32.toBitVec_xor x 30
  have h3 : (30 : Int32).toBitVec.msb = false := by decide
  have m : (x ^^^ 30).toBitVec.msb = x.toBitVec.msb := by rw [e, BitVec.msb_xor, h3, Bool.xor_false]
  rw [BitVec.msb_eq_toInt, BitVec.msb_eq_toInt] at m
  have m2 := decide_eq_decide.mp m
  have e1 : (x ^^^ 30).toInt = (x ^^^ 30).toBitVec.toInt := rfl
  have e2 : x.toInt = x.toBitVec.toInt := rfl
  rw [fa_le, fa_le, h0, e1, e2]
  omega
theorem rem30_neg {x : Int32} (h : ¬ 0 ≤ x) : (x - x / 30 * 30).toInt = - ((-x.toInt) % 30) := by
  rw [fa_le] at h
  have h0 : (0 : Int32).toInt = 0 := by decide
  have h3 : (30 : Int32).toInt = 30 := by decide
  have hr := fb_rng x
  have d : (x / 30).toInt = - ((-x.toInt) / 30) := by
    rw [Int32.toInt_div_of_ne_right _ _ (by decide), h3]
    have e : x.toInt = -(-x.toInt) := by omega
    rw [e, Int.neg_tdiv, Int.tdiv_eq_ediv_of_nonneg (by omega), Int.neg_neg]
  have m : (x / 30 * 30).toInt = - ((-x.toInt) / 30) * 30 := by
    rw [fb_mulI (by rw [d, h3]; omega) (by rw [d, h3]; omega), d, h3]
  rw [fb_subI (by rw [m]; omega) (by rw [m]; omega), m]
  omega
theorem floor30_in (x : Int32) : vp_in (if 0 ≤ (x ^^^ 30) then x - x / 30 * 30 else if (x - x / 30 * 30) = 0 then x - x / 30 * 30 else (x - x / 30 * 30) + 30) 30 := by
  by_cases h : 0 ≤ x
  · rw [if_pos ((sgn_xor30 x).mpr h)]
    exact rem30_in h
  · rw [if_neg (fun q => h ((sgn_xor30 x).mp q))]
    have e := rem30_neg h
    by_cases c : x - x / 30 * 30 = 0
    · rw [if_pos c, c]
      exact vd (by decide +kernel)
    · rw [if_neg c]
      have c2 : ¬ (x - x / 30 * 30).toInt = 0 := fun q => c (Int32.toInt_inj.mp (q.trans (by decide)))
      have h3 : (30 : Int32).toInt = 30 := by decide
      rw [e] at c2
      refine vp_in_iff.mpr ?_
      rw [fb_addI (by rw [e, h3]; omega) (by rw [e, h3]; omega), e, h3]
      exact ⟨by omega, by omega⟩
/-- as Met.ofW, of a method that no row of natives names, in a class that has such rows -/
theorem xm_ofW {l : Launch} {y : MethodName} {ws ws' : List Cond} {rm : Room} {Pc : Array Value → State → Prop} {Qc : Array Value → State → Outcome → State → Prop} {mc ms : Nat} {free : Addr → Prop} {cc : ByteArray} {maxL : Nat} {ret : Option FieldType}
    (hy : plainFor y = true) (hw : ws = Cond.code y cc maxL ret :: ws')
    (body : ∀ p e s m args below meth c s₁, BodyLoose p l y (headSpec ws rm) cc maxL ret e s m args below meth c s₁ → c.maxLocals = maxL → Pc args s →
      W p l e (headSpec ws rm).room s m args below meth c s.heap [] 0 0 (MQ below Qc args s mc ms free) (entryFrame m args maxL)) : Met l y ws rm Pc Qc mc ms free := by
  refine MetFree.of_bodySF (code := cc) (maxLocals := maxL) (ret := ret) hy ?_ ?_
  · intro args s m h hn
    obtain ⟨meth, c, h1, h2, h3, h4, h5, h6, -, -⟩ := Cond.code_spec hn (atoms_spec (ws := ws) h _ (by rw [hw]; exact List.mem_cons_self))
    exact ⟨meth, c, h1, h2, h3, h4, h5, h6⟩
  · intro p e s m args below meth c s₁ B hml hP _
    have hh0 : s₁.heap = s.heap := by rw [B.state]; rfl
    obtain ⟨t, a1, o, b1, b2, b3⟩ := body p e s m args below meth c s₁ B hml hP s₁ hh0 (Stand.of_body B)
    exact ⟨t, o, a1, b1, b2, ⟨b3.1, b3.2⟩⟩
