theorem tells_ge0 {k : Int32} {g : LG} (h : ¬ rX0_tellsRefill k g = 0) : 0 ≤ k := by
  by_cases c : k < 0
  · exact absurd (by simp only [rX0_tellsRefill, if_pos c]) h
  · exact Int32.not_lt.mp c
theorem cd_eq {a b : Int64} (h1 : 0 ≤ a) (c : 0 ≤ lg_cmp a 1) : rX3_commonDivisor a b = lN (Nat.gcd (lT a) (lT b)) ∧ ¬ rX3_commonDivisor a b = 0 := by
  have hb : 0 < lT a := by
    rcases Nat.eq_zero_or_pos (lT a) with q | q
    · have h3 := (lg_cmp_ge _ _).mp c
      rw [lN_lT h1, q] at h3
      exact absurd h3 (by decide +kernel)
    · exact q
  have hg : Nat.gcd (lT a) (lT b) ≤ lT a := Nat.gcd_le_left _ hb
  have hp := Nat.gcd_pos_of_pos_left (lT b) hb
  have hq := lT_lt a
  have e : rX3_commonDivisor a b = lN (Nat.gcd (lT a) (lT b)) := by
    unfold rX3_commonDivisor
    exact if_neg (Int64.not_lt.mpr ((pk_lLE (a := 1) (b := Nat.gcd (lT a) (lT b)) (by decide) (by omega)).mpr hp))
  exact ⟨e, by rw [e]; exact lN_ne0 hp (by omega)⟩
theorem cd_ne0 {a b : Int64} (h1 : 0 ≤ a) (c : 0 ≤ lg_cmp a 1) : ¬ rX3_commonDivisor a b = 0 := (cd_eq h1 c).2

def wsY_X3_refill : List Cond := .code yX3_refill cX3_refill 3 (some .int) :: ([.classLink RX3 141 "java/util/NoSuchElementException", .initialized "java/util/NoSuchElementException", .fieldLink RX3 10 "TripReckoner" "now" "LTripReckoner$Ledger;", .instanceMethod yX0_tellsRefill, .initialized RX0, .selects RX0 yX0_tellsRefill yX0_tellsRefill, .code yX0_tellsRefill cX0_tellsRefill 2 (some .boolean), .fieldLink RX0 29 "TripReckoner$Ledger" "refills" "I", .instanceMethod yX0_amount, .selects RX0 yX0_amount yX0_amount, .code yX0_amount cX0_amount 4 (some .int), .fieldLink RX0 19 "TripReckoner$Ledger" "amountsGreatest" "[I", .fieldLink RX0 15 "TripReckoner$Ledger" "amountsLeast" "[I", .methodLink RX0 86 yX0_placeOf, .static yX0_placeOf, .code yX0_placeOf cX0_placeOf 1 (some .int), .methodLink RX0 95 yJ9_floorMod_7cf53, .static yJ9_floorMod_7cf53, .initialized RJ9, .code yJ9_floorMod_7cf53 cJ9_floorMod_7cf53 3 (some .int)] ++ wsX30 ++ wsX00 ++ xgL)
set_option maxRecDepth 20000 in
theorem qX3_refill_X0_tellsRefill_174 : GoodIn wsY_X3_refill (wsX0_tellsRefill) := goodIn_of _ (by decide +kernel)
set_option maxRecDepth 20000 in
theorem qX3_refill_X0_amount_179 : GoodIn wsY_X3_refill (wsX0_amount) := goodIn_of _ (by decide +kernel)
def rX3_refill (i : Int32) (z : Int32) (x : XC) (g : LG) (k : LG) (tp : TP) (pl : PL) : Int32 :=
  if (rX0_tellsRefill i g) = 0 then
    0
  else
    rX0_amount i z g
def tX3_refill (i : Int32) (z : Int32) (x : XC) (g : LG) (k : LG) (tp : TP) (pl : PL) : Int32 :=
  if (rX0_tellsRefill i g) = 0 then
    1
  else
    0
set_option maxHeartbeats 4000000 in
set_option maxRecDepth 100000 in
theorem kX3_refill (l : Launch) (hl9 : l.stackTraces = false) (dC : Nat → ClassId) (dI : Nat → Nat → Nat) (cI cJ : ClassId) (h0 n0 k0 t0 p0 n1 n2 n3 k1 k2 k3 t1 p1 p2 p3 p4 p5 : Nat) (sz : Nat) (i : Int32) (z : Int32) (x : XC) (g : LG) (k : LG) (tp : TP) (pl : PL) : vx_Met l yX3_refill wsY_X3_refill ({ frames := 6, cells := 1, slots := 6, locals := 90 }) (va_Pc [.ref h0, .int i, .int z] (fun U => U.heap.size = sz ∧ va_P (dC, dI) vwCl [cX0 h0 n0 k0 t0 p0 x, cL0 n0 n1 n2 n3 g, cL1 cJ n1 g, cL2 cI n2 g, cL3 cI n3 g, cL0 k0 k1 k2 k3 k, cL1 cJ k1 k, cL2 cI k2 k, cL3 cI k3 k, cT0 t0 t1 tp, cT1 cI t1 tp, cP0 p0 p1 p2 p3 p4 p5 pl, cP1 cI p1 pl, cP2 cI p2 pl, cP3 cI p3 pl, cP4 cI p4 pl, cP5 cI p5 pl] U.heap ∧ va_K (dC, dI) vwCl [(cI, .int), (cJ, .long)] U ∧ va_D (fun _ => True) [cX0 h0 n0 k0 t0 p0 x, cL0 n0 n1 n2 n3 g, cL1 cJ n1 g, cL2 cI n2 g, cL3 cI n3 g, cL0 k0 k1 k2 k3 k, cL1 cJ k1 k, cL2 cI k2 k, cL3 cI k3 k, cT0 t0 t1 tp, cT1 cI t1 tp, cP0 p0 p1 p2 p3 p4 p5 pl, cP1 cI p1 pl, cP2 cI p2 pl, cP3 cI p3 pl, cP4 cI p4 pl, cP5 cI p5 pl] ∧ nw U ∧ xq (va_A [cX0 h0 n0 k0 t0 p0 x, cL0 n0 n1 n2 n3 g, cL1 cJ n1 g, cL2 cI n2 g, cL3 cI n3 g, cL0 k0 k1 k2 k3 k, cL1 cJ k1 k, cL2 cI k2 k, cL3 cI k3 k, cT0 t0 t1 tp, cT1 cI t1 tp, cP0 p0 p1 p2 p3 p4 p5 pl, cP1 cI p1 pl, cP2 cI p2 pl, cP3 cI p3 pl, cP4 cI p4 pl, cP5 cI p5 pl] sz) U)) (va_Qi (fun (r : Int32) (_ : Unit) => r = rX3_refill i z x g k tp pl ∧ tX3_refill i z x g k tp pl = 0) (fun _ t => va_P (dC, dI) vwCl [cX0 h0 n0 k0 t0 p0 x, cL0 n0 n1 n2 n3 g, cL1 cJ n1 g, cL2 cI n2 g, cL3 cI n3 g, cL0 k0 k1 k2 k3 k, cL1 cJ k1 k, cL2 cI k2 k, cL3 cI k3 k, cT0 t0 t1 tp, cT1 cI t1 tp, cP0 p0 p1 p2 p3 p4 p5 pl, cP1 cI p1 pl, cP2 cI p2 pl, cP3 cI p3 pl, cP4 cI p4 pl, cP5 cI p5 pl] t.heap ∧ va_K (dC, dI) vwCl [(cI, .int), (cJ, .long)] t ∧ va_D (va_A [cX0 h0 n0 k0 t0 p0 x, cL0 n0 n1 n2 n3 g, cL1 cJ n1 g, cL2 cI n2 g, cL3 cI n3 g, cL0 k0 k1 k2 k3 k, cL1 cJ k1 k, cL2 cI k2 k, cL3 cI k3 k, cT0 t0 t1 tp, cT1 cI t1 tp, cP0 p0 p1 p2 p3 p4 p5 pl, cP1 cI p1 pl, cP2 cI p2 pl, cP3 cI p3 pl, cP4 cI p4 pl, cP5 cI p5 pl] sz) [cX0 h0 n0 k0 t0 p0 x, cL0 n0 n1 n2 n3 g, cL1 cJ n1 g, cL2 cI n2 g, cL3 cI n3 g, cL0 k0 k1 k2 k3 k, cL1 cJ k1 k, cL2 cI k2 k, cL3 cI k3 k, cT0 t0 t1 tp, cT1 cI t1 tp, cP0 p0 p1 p2 p3 p4 p5 pl, cP1 cI p1 pl, cP2 cI p2 pl, cP3 cI p3 pl, cP4 cI p4 pl, cP5 cI p5 pl]) (va_A [cX0 h0 n0 k0 t0 p0 x, cL0 n0 n1 n2 n3 g, cL1 cJ n1 g, cL2 cI n2 g, cL3 cI n3 g, cL0 k0 k1 k2 k3 k, cL1 cJ k1 k, cL2 cI k2 k, cL3 cI k3 k, cT0 t0 t1 tp, cT1 cI t1 tp, cP0 p0 p1 p2 p3 p4 p5 pl, cP1 cI p1 pl, cP2 cI p2 pl, cP3 cI p3 pl, cP4 cI p4 pl, cP5 cI p5 pl] sz)) (vx_X (fun _ : Unit => tX3_refill i z x g k tp pl = 1) (fun E _ t => E = xtN ∧ va_P (dC, dI) vwCl [cX0 h0 n0 k0 t0 p0 x, cL0 n0 n1 n2 n3 g, cL1 cJ n1 g, cL2 cI n2 g, cL3 cI n3 g, cL0 k0 k1 k2 k3 k, cL1 cJ k1 k, cL2 cI k2 k, cL3 cI k3 k, cT0 t0 t1 tp, cT1 cI t1 tp, cP0 p0 p1 p2 p3 p4 p5 pl, cP1 cI p1 pl, cP2 cI p2 pl, cP3 cI p3 pl, cP4 cI p4 pl, cP5 cI p5 pl] t.heap ∧ va_K (dC, dI) vwCl [(cI, .int), (cJ, .long)] t ∧ va_D (va_A [cX0 h0 n0 k0 t0 p0 x, cL0 n0 n1 n2 n3 g, cL1 cJ n1 g, cL2 cI n2 g, cL3 cI n3 g, cL0 k0 k1 k2 k3 k, cL1 cJ k1 k, cL2 cI k2 k, cL3 cI k3 k, cT0 t0 t1 tp, cT1 cI t1 tp, cP0 p0 p1 p2 p3 p4 p5 pl, cP1 cI p1 pl, cP2 cI p2 pl, cP3 cI p3 pl, cP4 cI p4 pl, cP5 cI p5 pl] sz) [cX0 h0 n0 k0 t0 p0 x, cL0 n0 n1 n2 n3 g, cL1 cJ n1 g, cL2 cI n2 g, cL3 cI n3 g, cL0 k0 k1 k2 k3 k, cL1 cJ k1 k, cL2 cI k2 k, cL3 cI k3 k, cT0 t0 t1 tp, cT1 cI t1 tp, cP0 p0 p1 p2 p3 p4 p5 pl, cP1 cI p1 pl, cP2 cI p2 pl, cP3 cI p3 pl, cP4 cI p4 pl, cP5 cI p5 pl]) (va_A [cX0 h0 n0 k0 t0 p0 x, cL0 n0 n1 n2 n3 g, cL1 cJ n1 g, cL2 cI n2 g, cL3 cI n3 g, cL0 k0 k1 k2 k3 k, cL1 cJ k1 k, cL2 cI k2 k, cL3 cI k3 k, cT0 t0 t1 tp, cT1 cI t1 tp, cP0 p0 p1 p2 p3 p4 p5 pl, cP1 cI p1 pl, cP2 cI p2 pl, cP3 cI p3 pl, cP4 cI p4 pl, cP5 cI p5 pl] sz)) 1 6 (va_A [cX0 h0 n0 k0 t0 p0 x, cL0 n0 n1 n2 n3 g, cL1 cJ n1 g, cL2 cI n2 g, cL3 cI n3 g, cL0 k0 k1 k2 k3 k, cL1 cJ k1 k, cL2 cI k2 k, cL3 cI k3 k, cT0 t0 t1 tp, cT1 cI t1 tp, cP0 p0 p1 p2 p3 p4 p5 pl, cP1 cI p1 pl, cP2 cI p2 pl, cP3 cI p3 pl, cP4 cI p4 pl, cP5 cI p5 pl] sz) := by
  refine vx_ofW (cc := cX3_refill) (maxL := 3) (ret := (some .int)) (by decide) rfl ?_
  intro p e s m args below meth c s₁ B hml hEx hv
  obtain ⟨rfl, hsz, hP, hK, hD0, hN, hQ⟩ := hv
  have hx := B.exec
  have hb := B.bytes
  have hr := B.returns
  have hts := atoms_spec (ws := wsY_X3_refill) B.pre
  have hown : s.vm.findClass RX3 = some m.cls := findClass_of_methodNamed B.named
  have hlocks := B.notSynchronized
  have hiX3 : ∀ w ∈ u_ws RX3 TX3 12, w ∈ wsY_X3_refill := by decide +kernel
  subst hsz
  have hD := hD0.self (sz := s.heap.size)
  generalize hAe : va_A [cX0 h0 n0 k0 t0 p0 x, cL0 n0 n1 n2 n3 g, cL1 cJ n1 g, cL2 cI n2 g, cL3 cI n3 g, cL0 k0 k1 k2 k3 k, cL1 cJ k1 k, cL2 cI k2 k, cL3 cI k3 k, cT0 t0 t1 tp, cT1 cI t1 tp, cP0 p0 p1 p2 p3 p4 p5 pl, cP1 cI p1 pl, cP2 cI p2 pl, cP3 cI p3 pl, cP4 cI p4 pl, cP5 cI p5 pl] s.heap.size = A at hD hQ ⊢
  have hA : ∀ q : Nat, s.heap.size ≤ q → A q := fun q h => by rw [← hAe]; exact Or.inr h
  have hS : va_S A s.heap s.heap [] := va_S.rf
  have hl := lv_entry ([.ref h0, .int i, .int z]) (n := 3) (Nat.le_of_ble_eq_true rfl)
  rw [lg_entry_eq]
  generalize (lg_sl ([.ref h0, .int i, .int z]) ++ List.replicate (3 - (lg_sl ([.ref h0, .int i, .int z])).length) Slot.unset).toArray = ls at hl ⊢
  have hl : lv_has ls 3 [(0, .ref h0), (1, .int i), (2, .int z)] := hl
  have hP : va_P (dC, dI) vwCl [cX0 h0 n0 k0 t0 p0 x, cL0 n0 n1 n2 n3 g, cL1 cJ n1 g, cL2 cI n2 g, cL3 cI n3 g, cL0 k0 k1 k2 k3 k, cL1 cJ k1 k, cL2 cI k2 k, cL3 cI k3 k, cT0 t0 t1 tp, cT1 cI t1 tp, cP0 p0 p1 p2 p3 p4 p5 pl, cP1 cI p1 pl, cP2 cI p2 pl, cP3 cI p3 pl, cP4 cI p4 pl, cP5 cI p5 pl] s.heap := hP
  refine lv_aload_n hx hb dX3_refill_0 rfl (lv_at hl 0 rfl) ?_
  refine va_get (D := (dC, dI)) (ci := 3) (v := .ref n0) (C := RX3) (T := TX3) (N := 12) hx hb hts hiX3 hown hK hP 0 rfl rfl 0 (by decide) (hts (.fieldLink RX3 10 "TripReckoner" "now" "LTripReckoner$Ledger;") (by decide +kernel)) (fun _ h9 => h9) rfl dX3_refill_1 ?_
  refine lv_iload_n hx hb dX3_refill_4 rfl (lv_at hl 1 rfl) ?_
  have hPc := hP.sub (ws' := [cL0 n0 n1 n2 n3 g, cL1 cJ n1 g, cL2 cI n2 g, cL3 cI n3 g]) [1, 2, 3, 4] rfl
  have hDc := hD.sub (ws' := [cL0 n0 n1 n2 n3 g, cL1 cJ n1 g, cL2 cI n2 g, cL3 cI n3 g]) [1, 2, 3, 4] (by decide) rfl
  have hFc := va_free (wc := [cL0 n0 n1 n2 n3 g, cL1 cJ n1 g, cL2 cI n2 g, cL3 cI n3 g]) hD hS hA [1, 2, 3, 4] rfl
  refine va_calli (va_runVN (As := [.int i]) (rest := []) ⟨hx, hb, hml, hown, hts⟩ (kX0_tellsRefill l dC dI cI cJ n0 n1 n2 n3 s.heap.size i g) ⟨va_cnB 1 hts qX3_refill_X0_tellsRefill_174 rfl rfl rfl (nw_m hN (.methodLinkNest RX3 174 yX0_tellsRefill "TripReckoner") (by decide +kernel)) (hts (.initialized RX0) (by decide +kernel)) (by decide +kernel) ⟨Nat.le_of_ble_eq_true rfl, Nat.le_of_ble_eq_true rfl⟩, (hts (.instanceMethod yX0_tellsRefill) (by decide +kernel)), (hts (.selects RX0 yX0_tellsRefill yX0_tellsRefill) (by decide +kernel))⟩ ⟨fun a U g mk q => by obtain ⟨q0, q1, qP, qK, qD⟩ := q; exact ⟨q0, q1, qP, va_K.moved (u := U) (U := U.calling g mk a) (Vm.Alike.refl U.vm) qK, qD⟩, va_recv hK hPc (ci := 0) (q0 := 0) rfl rfl, fun U hU hW => ⟨rfl, by rw [hU], by rw [hU]; exact hPc, va_K.moved hW.alike hK, hDc.weaken (fun _ _ _ _ => trivial)⟩⟩ rfl rfl hl.1 rfl (lv_room (Nat.le_of_ble_eq_true rfl)) dX3_refill_5 ⟨Nat.le_of_ble_eq_true rfl, Nat.le_of_ble_eq_true rfl⟩) hS (fun q _ h => hFc q h) hFc (fun r_1 _ t H1 locs ht hvm hw hB hz1 hk1 hS => ?_)
  obtain ⟨hP1, hK1, hD1⟩ := hB
  rw [ht] at hP1
  obtain ⟨hP, hD⟩ := va_join (wr := [cX0 h0 n0 k0 t0 p0 x, cL0 k0 k1 k2 k3 k, cL1 cJ k1 k, cL2 cI k2 k, cL3 cI k3 k, cT0 t0 t1 tp, cT1 cI t1 tp, cP0 p0 p1 p2 p3 p4 p5 pl, cP1 cI p1 pl, cP2 cI p2 pl, cP3 cI p3 pl, cP4 cI p4 pl, cP5 cI p5 pl]) (w1 := [cL0 n0 n1 n2 n3 g, cL1 cJ n1 g, cL2 cI n2 g, cL3 cI n3 g]) hP hD [1, 2, 3, 4] [0, 5, 6, 7, 8, 9, 10, 11, 12, 13, 14, 15, 16] rfl rfl (by decide) (by decide) hk1 hFc hP1 hD1
  generalize H1 = H at hP hS ⊢
  have hP := hP.sub (ws' := [cX0 h0 n0 k0 t0 p0 x, cL0 n0 n1 n2 n3 g, cL1 cJ n1 g, cL2 cI n2 g, cL3 cI n3 g, cL0 k0 k1 k2 k3 k, cL1 cJ k1 k, cL2 cI k2 k, cL3 cI k3 k, cT0 t0 t1 tp, cT1 cI t1 tp, cP0 p0 p1 p2 p3 p4 p5 pl, cP1 cI p1 pl, cP2 cI p2 pl, cP3 cI p3 pl, cP4 cI p4 pl, cP5 cI p5 pl]) [0, 13, 14, 15, 16, 1, 2, 3, 4, 5, 6, 7, 8, 9, 10, 11, 12] rfl
  have hD := hD.sub (ws' := [cX0 h0 n0 k0 t0 p0 x, cL0 n0 n1 n2 n3 g, cL1 cJ n1 g, cL2 cI n2 g, cL3 cI n3 g, cL0 k0 k1 k2 k3 k, cL1 cJ k1 k, cL2 cI k2 k, cL3 cI k3 k, cT0 t0 t1 tp, cT1 cI t1 tp, cP0 p0 p1 p2 p3 p4 p5 pl, cP1 cI p1 pl, cP2 cI p2 pl, cP3 cI p3 pl, cP4 cI p4 pl, cP5 cI p5 pl]) [0, 13, 14, 15, 16, 1, 2, 3, 4, 5, 6, 7, 8, 9, 10, 11, 12] (by decide) rfl
  subst hw
  refine lv_if_ne (tgt := 21) hx hb dX3_refill_8 (by decide) (fun c_2 => ?_) (fun c_2 => ?_)
  · refine lv_aload_n hx hb dX3_refill_21 rfl (lv_at hl 0 rfl) ?_
    refine va_get (D := (dC, dI)) (ci := 3) (v := .ref n0) (C := RX3) (T := TX3) (N := 12) hx hb hts hiX3 hown hK hP 0 rfl rfl 0 (by decide) (hts (.fieldLink RX3 10 "TripReckoner" "now" "LTripReckoner$Ledger;") (by decide +kernel)) (fun _ h9 => h9) rfl dX3_refill_22 ?_
    refine lv_iload_n hx hb dX3_refill_25 rfl (lv_at hl 1 rfl) ?_
    refine lv_iload_n hx hb dX3_refill_26 rfl (lv_at hl 2 rfl) ?_
    have hPc := hP.sub (ws' := [cL0 n0 n1 n2 n3 g, cL1 cJ n1 g, cL2 cI n2 g, cL3 cI n3 g]) [1, 2, 3, 4] rfl
    have hDc := hD.sub (ws' := [cL0 n0 n1 n2 n3 g, cL1 cJ n1 g, cL2 cI n2 g, cL3 cI n3 g]) [1, 2, 3, 4] (by decide) rfl
    have hFc := va_free (wc := [cL0 n0 n1 n2 n3 g, cL1 cJ n1 g, cL2 cI n2 g, cL3 cI n3 g]) hD hS hA [1, 2, 3, 4] rfl
    refine va_calli (va_runVN (As := [.int i, .int z]) (rest := []) ⟨hx, hb, hml, hown, hts⟩ (kX0_amount l dC dI cI cJ n0 n1 n2 n3 H.size i z g (tells_ge0 c_2)) ⟨va_cnB 2 hts qX3_refill_X0_amount_179 rfl rfl rfl (nw_m hN (.methodLinkNest RX3 179 yX0_amount "TripReckoner") (by decide +kernel)) (hts (.initialized RX0) (by decide +kernel)) (by decide +kernel) ⟨Nat.le_of_ble_eq_true rfl, Nat.le_of_ble_eq_true rfl⟩, (hts (.instanceMethod yX0_amount) (by decide +kernel)), (hts (.selects RX0 yX0_amount yX0_amount) (by decide +kernel))⟩ ⟨fun a U g mk q => by obtain ⟨q0, q1, qP, qK, qD⟩ := q; exact ⟨q0, q1, qP, va_K.moved (u := U) (U := U.calling g mk a) (Vm.Alike.refl U.vm) qK, qD⟩, va_recv hK hPc (ci := 0) (q0 := 0) rfl rfl, fun U hU hW => ⟨rfl, by rw [hU], by rw [hU]; exact hPc, va_K.moved hW.alike hK, hDc.weaken (fun _ _ _ _ => trivial)⟩⟩ rfl rfl hl.1 rfl (lv_room (Nat.le_of_ble_eq_true rfl)) dX3_refill_27 ⟨Nat.le_of_ble_eq_true rfl, Nat.le_of_ble_eq_true rfl⟩) hS (fun q _ h => hFc q h) hFc (fun r_3 _ t H1 locs ht hvm hw hB hz1 hk1 hS => ?_)
    obtain ⟨hP1, hK1, hD1⟩ := hB
    rw [ht] at hP1
    obtain ⟨hP, hD⟩ := va_join (wr := [cX0 h0 n0 k0 t0 p0 x, cL0 k0 k1 k2 k3 k, cL1 cJ k1 k, cL2 cI k2 k, cL3 cI k3 k, cT0 t0 t1 tp, cT1 cI t1 tp, cP0 p0 p1 p2 p3 p4 p5 pl, cP1 cI p1 pl, cP2 cI p2 pl, cP3 cI p3 pl, cP4 cI p4 pl, cP5 cI p5 pl]) (w1 := [cL0 n0 n1 n2 n3 g, cL1 cJ n1 g, cL2 cI n2 g, cL3 cI n3 g]) hP hD [1, 2, 3, 4] [0, 5, 6, 7, 8, 9, 10, 11, 12, 13, 14, 15, 16] rfl rfl (by decide) (by decide) hk1 hFc hP1 hD1
    generalize H1 = H at hP hS ⊢
    have hP := hP.sub (ws' := [cX0 h0 n0 k0 t0 p0 x, cL0 n0 n1 n2 n3 g, cL1 cJ n1 g, cL2 cI n2 g, cL3 cI n3 g, cL0 k0 k1 k2 k3 k, cL1 cJ k1 k, cL2 cI k2 k, cL3 cI k3 k, cT0 t0 t1 tp, cT1 cI t1 tp, cP0 p0 p1 p2 p3 p4 p5 pl, cP1 cI p1 pl, cP2 cI p2 pl, cP3 cI p3 pl, cP4 cI p4 pl, cP5 cI p5 pl]) [0, 13, 14, 15, 16, 1, 2, 3, 4, 5, 6, 7, 8, 9, 10, 11, 12] rfl
    have hD := hD.sub (ws' := [cX0 h0 n0 k0 t0 p0 x, cL0 n0 n1 n2 n3 g, cL1 cJ n1 g, cL2 cI n2 g, cL3 cI n3 g, cL0 k0 k1 k2 k3 k, cL1 cJ k1 k, cL2 cI k2 k, cL3 cI k3 k, cT0 t0 t1 tp, cT1 cI t1 tp, cP0 p0 p1 p2 p3 p4 p5 pl, cP1 cI p1 pl, cP2 cI p2 pl, cP3 cI p3 pl, cP4 cI p4 pl, cP5 cI p5 pl]) [0, 13, 14, 15, 16, 1, 2, 3, 4, 5, 6, 7, 8, 9, 10, 11, 12] (by decide) rfl
    subst hw
    have et : tX3_refill i z x g k tp pl = 0 := by rw [tX3_refill, if_neg c_2]
    have er : rX0_amount i z g = rX3_refill i z x g k tp pl := by rw [rX3_refill, if_neg c_2]
    refine vx_ret (W.widen (k := 1) (n := 6) (Nat.le_of_ble_eq_true rfl) (Nat.le_of_ble_eq_true rfl) ?_)
    refine W.iret (v := rX0_amount i z g) hx hb hr (fun t ht hW => ⟨⟨rX0_amount i z g, (), rfl, ⟨er, et⟩, ?_⟩, hS.F ht⟩) hS.2.2 dX3_refill_30
    exact ⟨by rw [ht]; exact hP, va_K.moved hW.alike hK, hD⟩
  · have et : tX3_refill i z x g k tp pl = 1 := by rw [tX3_refill, if_pos c_2]
    obtain ⟨sa, hsa⟩ := hQ.2.2.2.2.1
    exact xt_throw hx hb hl9 hown (hts (.classLink RX3 141 xtN) (by decide +kernel)) (hts (.initialized xtN) (by decide +kernel)) hsa (xb_hat (fun w9 h9 => hts w9 (List.mem_cons_of_mem _ (List.mem_append_right _ h9))) hQ.1) xt_good hQ.2.2.2.2.2.1 hQ.2.2.2.2.2.2 hS (by rw [hml]; exact hl.1) dX3_refill_11 dX3_refill_14 dX3_refill_15 dX3_refill_17 dX3_refill_20 (fun x hx9 => (hEx x hx9).elim) (Nat.le_of_ble_eq_true rfl) (Nat.le_of_ble_eq_true rfl) (Nat.le_of_ble_eq_true rfl) (Nat.le_of_ble_eq_true rfl) hlocks (fun t hvm hz hk => ⟨(), et, ⟨rfl, hP.kept (fun k x hk9 => hk x.1 (hP k x hk9).lt), va_K.moved hvm hK, hD⟩, ⟨Nat.le_trans hS.1 hz, fun q h1 h2 => (hk q (Nat.lt_of_lt_of_le h1 hS.1)).trans (hS.2.1 q h1 h2)⟩⟩) hS.2.2 (Nat.le_of_ble_eq_true rfl) (Nat.le_of_ble_eq_true rfl)
