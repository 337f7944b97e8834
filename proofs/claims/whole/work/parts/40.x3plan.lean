/-- what reckon asks -/
def rk_ok (a b : Nat) (pl : PL) : Prop := a ≤ b ∧ b ≤ 120 ∧ 0 ≤ pl.2.2.2.2.2.1 ∧ pl.2.2.2.2.2.1.toNatClampNeg ≤ 12 ∧ (∀ j, j ≤ pl.2.2.2.2.2.1.toNatClampNeg → 0 ≤ pl.1 j) ∧ (∀ u : PL, u = sX1_reckonBackwards b pl → 0 ≤ u.2.2.2.2.2.1 ∧ u.2.2.2.2.2.1.toNatClampNeg ≤ 12 ∧ (0 ≤ ((nI a) - (pl.1 0)) → u.2.2.1 (((nI a) - (pl.1 0)).toNatClampNeg) < 1000000000 → ∀ i, i < u.2.2.2.2.2.1.toNatClampNeg → vp_in (bf_l u ((nI a) - (pl.1 0)) i) 121))

def sX3_plan_tp_g_9 (x : XC) (g : LG) (k : LG) (tp : TP) (pl : PL) (g_2 : PL) (g_4 : TP) (g_9 : PL) : TP :=
  g_4
def sX3_plan_tp_g_4 (x : XC) (g : LG) (k : LG) (tp : TP) (pl : PL) (g_2 : PL) (g_4 : TP) : TP :=
  if (rX1_read x.2.2.2.2.2.2.1 pl tp) = 0 then
    g_4
  else
    sX3_plan_tp_g_9 x g k tp pl g_2 g_4 (sX1_reckon ((g.1 / 1000).toNatClampNeg) ((x.1 / 1000).toNatClampNeg) g_2)
def sX3_plan_tp_g_2 (x : XC) (g : LG) (k : LG) (tp : TP) (pl : PL) (g_2 : PL) : TP :=
  sX3_plan_tp_g_4 x g k tp pl g_2 (sX2_shorten 0 tp)
def sX3_plan_tp (x : XC) (g : LG) (k : LG) (tp : TP) (pl : PL) : TP :=
  sX3_plan_tp_g_2 x g k tp pl (sX1_read x.2.2.2.2.2.2.1 pl tp)
def sX3_plan_pl_g_9 (x : XC) (g : LG) (k : LG) (tp : TP) (pl : PL) (g_2 : PL) (g_4 : TP) (g_9 : PL) : PL :=
  g_9
def sX3_plan_pl_g_4 (x : XC) (g : LG) (k : LG) (tp : TP) (pl : PL) (g_2 : PL) (g_4 : TP) : PL :=
  if (rX1_read x.2.2.2.2.2.2.1 pl tp) = 0 then
    g_2
  else
    sX3_plan_pl_g_9 x g k tp pl g_2 g_4 (sX1_reckon ((g.1 / 1000).toNatClampNeg) ((x.1 / 1000).toNatClampNeg) g_2)
def sX3_plan_pl_g_2 (x : XC) (g : LG) (k : LG) (tp : TP) (pl : PL) (g_2 : PL) : PL :=
  sX3_plan_pl_g_4 x g k tp pl g_2 (sX2_shorten 0 tp)
def sX3_plan_pl (x : XC) (g : LG) (k : LG) (tp : TP) (pl : PL) : PL :=
  sX3_plan_pl_g_2 x g k tp pl (sX1_read x.2.2.2.2.2.2.1 pl tp)
def rX3_plan_g_9 (x : XC) (g : LG) (k : LG) (tp : TP) (pl : PL) (g_2 : PL) (g_4 : TP) (g_9 : PL) : Int32 :=
  rX1_reckon ((g.1 / 1000).toNatClampNeg) ((x.1 / 1000).toNatClampNeg) g_2
def rX3_plan_g_4 (x : XC) (g : LG) (k : LG) (tp : TP) (pl : PL) (g_2 : PL) (g_4 : TP) : Int32 :=
  if (rX1_read x.2.2.2.2.2.2.1 pl tp) = 0 then
    (-2)
  else
    rX3_plan_g_9 x g k tp pl g_2 g_4 (sX1_reckon ((g.1 / 1000).toNatClampNeg) ((x.1 / 1000).toNatClampNeg) g_2)
def rX3_plan_g_2 (x : XC) (g : LG) (k : LG) (tp : TP) (pl : PL) (g_2 : PL) : Int32 :=
  rX3_plan_g_4 x g k tp pl g_2 (sX2_shorten 0 tp)
def rX3_plan (x : XC) (g : LG) (k : LG) (tp : TP) (pl : PL) : Int32 :=
  rX3_plan_g_2 x g k tp pl (sX1_read x.2.2.2.2.2.2.1 pl tp)
set_option maxHeartbeats 4000000 in
set_option maxRecDepth 100000 in
theorem kX3_plan (l : Launch) (dC : Nat → ClassId) (dI : Nat → Nat → Nat) (cI cJ : ClassId) (h0 n0 k0 t0 p0 n1 n2 n3 k1 k2 k3 t1 p1 p2 p3 p4 p5 : Nat) (sz : Nat)  (x : XC) (g : LG) (k : LG) (tp : TP) (pl : PL) (ht0 : 0 ≤ tp.2) (ht60 : tp.2.toNatClampNeg ≤ 60) (hg : 0 ≤ g.1 / 1000) (hx9 : 0 ≤ x.1 / 1000) (hk9 : ¬ rX1_read x.2.2.2.2.2.2.1 pl tp = 0 → ∀ w : PL, w = sX1_read x.2.2.2.2.2.2.1 pl tp → rk_ok (g.1 / 1000).toNatClampNeg (x.1 / 1000).toNatClampNeg w) : Met l yX3_plan wsX3_plan ({ frames := 3, cells := 0, slots := 0, locals := 76 }) (va_Pc [.ref h0] (fun U => U.heap.size = sz ∧ va_P (dC, dI) vwCl [cX0 h0 n0 k0 t0 p0 x, cL0 n0 n1 n2 n3 g, cL1 cJ n1 g, cL2 cI n2 g, cL3 cI n3 g, cL0 k0 k1 k2 k3 k, cL1 cJ k1 k, cL2 cI k2 k, cL3 cI k3 k, cT0 t0 t1 tp, cT1 cI t1 tp, cP0 p0 p1 p2 p3 p4 p5 pl, cP1 cI p1 pl, cP2 cI p2 pl, cP3 cI p3 pl, cP4 cI p4 pl, cP5 cI p5 pl] U.heap ∧ va_K (dC, dI) vwCl [(cI, .int), (cJ, .long)] U ∧ va_D (fun _ => True) [cX0 h0 n0 k0 t0 p0 x, cL0 n0 n1 n2 n3 g, cL1 cJ n1 g, cL2 cI n2 g, cL3 cI n3 g, cL0 k0 k1 k2 k3 k, cL1 cJ k1 k, cL2 cI k2 k, cL3 cI k3 k, cT0 t0 t1 tp, cT1 cI t1 tp, cP0 p0 p1 p2 p3 p4 p5 pl, cP1 cI p1 pl, cP2 cI p2 pl, cP3 cI p3 pl, cP4 cI p4 pl, cP5 cI p5 pl] ∧ nw U)) (va_Qi (fun (r : Int32) (_ : Unit) => r = rX3_plan x g k tp pl) (fun _ t => va_P (dC, dI) vwCl [cX0 h0 n0 k0 t0 p0 x, cL0 n0 n1 n2 n3 g, cL1 cJ n1 g, cL2 cI n2 g, cL3 cI n3 g, cL0 k0 k1 k2 k3 k, cL1 cJ k1 k, cL2 cI k2 k, cL3 cI k3 k, cT0 t0 t1 (sX3_plan_tp x g k tp pl), cT1 cI t1 (sX3_plan_tp x g k tp pl), cP0 p0 p1 p2 p3 p4 p5 (sX3_plan_pl x g k tp pl), cP1 cI p1 (sX3_plan_pl x g k tp pl), cP2 cI p2 (sX3_plan_pl x g k tp pl), cP3 cI p3 (sX3_plan_pl x g k tp pl), cP4 cI p4 (sX3_plan_pl x g k tp pl), cP5 cI p5 (sX3_plan_pl x g k tp pl)] t.heap ∧ va_K (dC, dI) vwCl [(cI, .int), (cJ, .long)] t ∧ va_D (va_A [cX0 h0 n0 k0 t0 p0 x, cL0 n0 n1 n2 n3 g, cL1 cJ n1 g, cL2 cI n2 g, cL3 cI n3 g, cL0 k0 k1 k2 k3 k, cL1 cJ k1 k, cL2 cI k2 k, cL3 cI k3 k, cT0 t0 t1 tp, cT1 cI t1 tp, cP0 p0 p1 p2 p3 p4 p5 pl, cP1 cI p1 pl, cP2 cI p2 pl, cP3 cI p3 pl, cP4 cI p4 pl, cP5 cI p5 pl] sz) [cX0 h0 n0 k0 t0 p0 x, cL0 n0 n1 n2 n3 g, cL1 cJ n1 g, cL2 cI n2 g, cL3 cI n3 g, cL0 k0 k1 k2 k3 k, cL1 cJ k1 k, cL2 cI k2 k, cL3 cI k3 k, cT0 t0 t1 (sX3_plan_tp x g k tp pl), cT1 cI t1 (sX3_plan_tp x g k tp pl), cP0 p0 p1 p2 p3 p4 p5 (sX3_plan_pl x g k tp pl), cP1 cI p1 (sX3_plan_pl x g k tp pl), cP2 cI p2 (sX3_plan_pl x g k tp pl), cP3 cI p3 (sX3_plan_pl x g k tp pl), cP4 cI p4 (sX3_plan_pl x g k tp pl), cP5 cI p5 (sX3_plan_pl x g k tp pl)]) (va_A [cX0 h0 n0 k0 t0 p0 x, cL0 n0 n1 n2 n3 g, cL1 cJ n1 g, cL2 cI n2 g, cL3 cI n3 g, cL0 k0 k1 k2 k3 k, cL1 cJ k1 k, cL2 cI k2 k, cL3 cI k3 k, cT0 t0 t1 tp, cT1 cI t1 tp, cP0 p0 p1 p2 p3 p4 p5 pl, cP1 cI p1 pl, cP2 cI p2 pl, cP3 cI p3 pl, cP4 cI p4 pl, cP5 cI p5 pl] sz)) 0 0 (va_A [cX0 h0 n0 k0 t0 p0 x, cL0 n0 n1 n2 n3 g, cL1 cJ n1 g, cL2 cI n2 g, cL3 cI n3 g, cL0 k0 k1 k2 k3 k, cL1 cJ k1 k, cL2 cI k2 k, cL3 cI k3 k, cT0 t0 t1 tp, cT1 cI t1 tp, cP0 p0 p1 p2 p3 p4 p5 pl, cP1 cI p1 pl, cP2 cI p2 pl, cP3 cI p3 pl, cP4 cI p4 pl, cP5 cI p5 pl] sz) := by
  refine Met.ofW (cc := cX3_plan) (maxL := 2) (ret := (some .int)) (by decide) rfl ?_
  intro p e s m args below meth c s₁ B hml hv
  obtain ⟨rfl, hsz, hP, hK, hD0, hN⟩ := hv
  have hx := B.exec
  have hb := B.bytes
  have hr := B.returns
  have hts := atoms_spec (ws := wsX3_plan) B.pre
  have hown : s.vm.findClass RX3 = some m.cls := findClass_of_methodNamed B.named
  have hlocks := B.notSynchronized
  have hiX3 : ∀ w ∈ u_ws RX3 TX3 12, w ∈ wsX3_plan := by decide +kernel
  have hiX0 : ∀ w ∈ u_ws RX0 TX0 15, w ∈ wsX3_plan := by decide +kernel
  subst hsz
  have hD := hD0.self (sz := s.heap.size)
  generalize hAe : va_A [cX0 h0 n0 k0 t0 p0 x, cL0 n0 n1 n2 n3 g, cL1 cJ n1 g, cL2 cI n2 g, cL3 cI n3 g, cL0 k0 k1 k2 k3 k, cL1 cJ k1 k, cL2 cI k2 k, cL3 cI k3 k, cT0 t0 t1 tp, cT1 cI t1 tp, cP0 p0 p1 p2 p3 p4 p5 pl, cP1 cI p1 pl, cP2 cI p2 pl, cP3 cI p3 pl, cP4 cI p4 pl, cP5 cI p5 pl] s.heap.size = A at hD ⊢
  have hA : ∀ q : Nat, s.heap.size ≤ q → A q := fun q h => by rw [← hAe]; exact Or.inr h
  have hS : va_S A s.heap s.heap [] := va_S.rf
  have hl := lv_entry ([.ref h0]) (n := 2) (Nat.le_of_ble_eq_true rfl)
  rw [lg_entry_eq]
  generalize (lg_sl ([.ref h0]) ++ List.replicate (2 - (lg_sl ([.ref h0])).length) Slot.unset).toArray = ls at hl ⊢
  have hl : lv_has ls 2 [(0, .ref h0)] := hl
  have hP : va_P (dC, dI) vwCl [cX0 h0 n0 k0 t0 p0 x, cL0 n0 n1 n2 n3 g, cL1 cJ n1 g, cL2 cI n2 g, cL3 cI n3 g, cL0 k0 k1 k2 k3 k, cL1 cJ k1 k, cL2 cI k2 k, cL3 cI k3 k, cT0 t0 t1 tp, cT1 cI t1 tp, cP0 p0 p1 p2 p3 p4 p5 pl, cP1 cI p1 pl, cP2 cI p2 pl, cP3 cI p3 pl, cP4 cI p4 pl, cP5 cI p5 pl] s.heap := hP
  refine lv_aload_n hx hb dX3_plan_0 rfl (lv_at hl 0 rfl) ?_
  refine va_get (D := (dC, dI)) (ci := 3) (v := .ref p0) (C := RX3) (T := TX3) (N := 12) hx hb hts hiX3 hown hK hP 0 rfl rfl 3 (by decide) (hts (.fieldLink RX3 29 "TripReckoner" "planner" "LTripReckoner$Planner;") (by decide +kernel)) (fun _ h9 => h9) rfl dX3_plan_1 ?_
  refine lv_aload_n hx hb dX3_plan_4 rfl (lv_at hl 0 rfl) ?_
  refine va_get (D := (dC, dI)) (ci := 3) (v := .ref t0) (C := RX3) (T := TX3) (N := 12) hx hb hts hiX3 hown hK hP 0 rfl rfl 2 (by decide) (hts (.fieldLink RX3 22 "TripReckoner" "tape" "LTripReckoner$Tape;") (by decide +kernel)) (fun _ h9 => h9) rfl dX3_plan_5 ?_
  refine lv_aload_n hx hb dX3_plan_8 rfl (lv_at hl 0 rfl) ?_
  refine va_get (D := (dC, dI)) (ci := 3) (v := .int x.2.2.2.2.2.2.1) (C := RX3) (T := TX3) (N := 12) hx hb hts hiX3 hown hK hP 0 rfl rfl 10 (by decide) (hts (.fieldLink RX3 53 "TripReckoner" "highUse" "I") (by decide +kernel)) (fun _ h9 => h9) rfl dX3_plan_9 ?_
  have hPc := hP.sub (ws' := [cP0 p0 p1 p2 p3 p4 p5 pl, cP1 cI p1 pl, cP2 cI p2 pl, cP3 cI p3 pl, cP4 cI p4 pl, cP5 cI p5 pl, cT0 t0 t1 tp, cT1 cI t1 tp]) [11, 12, 13, 14, 15, 16, 9, 10] rfl
  have hDc := hD.sub (ws' := [cP0 p0 p1 p2 p3 p4 p5 pl, cP1 cI p1 pl, cP2 cI p2 pl, cP3 cI p3 pl, cP4 cI p4 pl, cP5 cI p5 pl, cT0 t0 t1 tp, cT1 cI t1 tp]) [11, 12, 13, 14, 15, 16, 9, 10] (by decide) rfl
  have hFc := va_free (wc := [cP0 p0 p1 p2 p3 p4 p5 pl, cP1 cI p1 pl, cP2 cI p2 pl, cP3 cI p3 pl, cP4 cI p4 pl, cP5 cI p5 pl, cT0 t0 t1 tp, cT1 cI t1 tp]) hD hS hA [11, 12, 13, 14, 15, 16, 9, 10] rfl
  refine va_calli (va_runVN (As := [.ref t0, .int x.2.2.2.2.2.2.1]) (rest := []) ⟨hx, hb, hml, hown, hts⟩ (kX1_read l dC dI cI cJ p0 p1 p2 p3 p4 p5 t0 t1 s.heap.size x.2.2.2.2.2.2.1 pl tp ht0 ht60) ⟨va_cnB 2 hts gX3_plan_X1_read_n183 rfl rfl rfl (nw_m hN (.methodLinkNest RX3 183 yX1_read "TripReckoner") (by decide +kernel)) (hts (.initialized RX1) (by decide +kernel)) (by decide +kernel) ⟨Nat.le_of_ble_eq_true rfl, Nat.le_of_ble_eq_true rfl⟩, (hts (.instanceMethod yX1_read) (by decide +kernel)), (hts (.selects RX1 yX1_read yX1_read) (by decide +kernel))⟩ ⟨fun a U g mk q => by obtain ⟨q0, q1, qP, qK, qD, qN⟩ := q; exact ⟨q0, q1, qP, va_K.moved (u := U) (U := U.calling g mk a) (Vm.Alike.refl U.vm) qK, qD, nw_same (s := U) (U := U.calling g mk a) rfl qN⟩, va_recv hK hPc (ci := 1) (q0 := 0) rfl rfl, fun U hU hW => ⟨rfl, by rw [hU], by rw [hU]; exact hPc, va_K.moved hW.alike hK, hDc.weaken (fun _ _ _ _ => trivial), nw_warm hW hN⟩⟩ rfl rfl hl.1 rfl (lv_room (Nat.le_of_ble_eq_true rfl)) dX3_plan_12 ⟨Nat.le_of_ble_eq_true rfl, Nat.le_of_ble_eq_true rfl⟩) hS (fun q _ h => hFc q h) hFc (fun r_1 _ t H1 locs ht hvm hw hB hz1 hk1 hS => ?_)
  obtain ⟨hP1, hK1, hD1⟩ := hB
  rw [ht] at hP1
  obtain ⟨g_2, eg_2⟩ : ∃ z, z = sX1_read x.2.2.2.2.2.2.1 pl tp := ⟨_, rfl⟩
  rw [← eg_2] at hP1 hD1
  obtain ⟨hP, hD⟩ := va_join (wr := [cX0 h0 n0 k0 t0 p0 x, cL0 n0 n1 n2 n3 g, cL1 cJ n1 g, cL2 cI n2 g, cL3 cI n3 g, cL0 k0 k1 k2 k3 k, cL1 cJ k1 k, cL2 cI k2 k, cL3 cI k3 k]) (w1 := [cP0 p0 p1 p2 p3 p4 p5 g_2, cP1 cI p1 g_2, cP2 cI p2 g_2, cP3 cI p3 g_2, cP4 cI p4 g_2, cP5 cI p5 g_2, cT0 t0 t1 tp, cT1 cI t1 tp]) hP hD [11, 12, 13, 14, 15, 16, 9, 10] [0, 1, 2, 3, 4, 5, 6, 7, 8] rfl rfl (by decide) (by decide) hk1 hFc hP1 hD1
  generalize H1 = H at hP hS ⊢
  have hP := hP.sub (ws' := [cX0 h0 n0 k0 t0 p0 x, cL0 n0 n1 n2 n3 g, cL1 cJ n1 g, cL2 cI n2 g, cL3 cI n3 g, cL0 k0 k1 k2 k3 k, cL1 cJ k1 k, cL2 cI k2 k, cL3 cI k3 k, cT0 t0 t1 tp, cT1 cI t1 tp, cP0 p0 p1 p2 p3 p4 p5 g_2, cP1 cI p1 g_2, cP2 cI p2 g_2, cP3 cI p3 g_2, cP4 cI p4 g_2, cP5 cI p5 g_2]) [0, 1, 2, 3, 4, 5, 6, 7, 8, 15, 16, 9, 10, 11, 12, 13, 14] rfl
  have hD := hD.sub (ws' := [cX0 h0 n0 k0 t0 p0 x, cL0 n0 n1 n2 n3 g, cL1 cJ n1 g, cL2 cI n2 g, cL3 cI n3 g, cL0 k0 k1 k2 k3 k, cL1 cJ k1 k, cL2 cI k2 k, cL3 cI k3 k, cT0 t0 t1 tp, cT1 cI t1 tp, cP0 p0 p1 p2 p3 p4 p5 g_2, cP1 cI p1 g_2, cP2 cI p2 g_2, cP3 cI p3 g_2, cP4 cI p4 g_2, cP5 cI p5 g_2]) [0, 1, 2, 3, 4, 5, 6, 7, 8, 15, 16, 9, 10, 11, 12, 13, 14] (by decide) rfl
  subst hw
  refine lv_istore_n (lv' := [(1, .int (rX1_read x.2.2.2.2.2.2.1 pl tp)), (0, .ref h0)]) hx hb dX3_plan_15 rfl hl (by decide) rfl (fun ls hl => ?_)
  refine lv_aload_n hx hb dX3_plan_16 rfl (lv_at hl 1 rfl) ?_
  refine va_get (D := (dC, dI)) (ci := 3) (v := .ref t0) (C := RX3) (T := TX3) (N := 12) hx hb hts hiX3 hown hK hP 0 rfl rfl 2 (by decide) (hts (.fieldLink RX3 22 "TripReckoner" "tape" "LTripReckoner$Tape;") (by decide +kernel)) (fun _ h9 => h9) rfl dX3_plan_17 ?_
  refine lv_iconst (v := 0) hx hb dX3_plan_20 (by decide) ?_
  have hPc := hP.sub (ws' := [cT0 t0 t1 tp, cT1 cI t1 tp]) [9, 10] rfl
  have hDc := hD.sub (ws' := [cT0 t0 t1 tp, cT1 cI t1 tp]) [9, 10] (by decide) rfl
  have hFc := va_free (wc := [cT0 t0 t1 tp, cT1 cI t1 tp]) hD hS hA [9, 10] rfl
  refine va_calli (va_runVN (As := [.int 0]) (rest := []) ⟨hx, hb, hml, hown, hts⟩ (kX2_shorten l dC dI cI cJ t0 t1 H.size 0 tp) ⟨va_cnB 1 hts gX3_plan_X2_shorten_n74 rfl rfl rfl (nw_m hN (.methodLinkNest RX3 74 yX2_shorten "TripReckoner") (by decide +kernel)) (hts (.initialized RX2) (by decide +kernel)) (by decide +kernel) ⟨Nat.le_of_ble_eq_true rfl, Nat.le_of_ble_eq_true rfl⟩, (hts (.instanceMethod yX2_shorten) (by decide +kernel)), (hts (.selects RX2 yX2_shorten yX2_shorten) (by decide +kernel))⟩ ⟨fun a U g mk q => by obtain ⟨q0, q1, qP, qK, qD⟩ := q; exact ⟨q0, q1, qP, va_K.moved (u := U) (U := U.calling g mk a) (Vm.Alike.refl U.vm) qK, qD⟩, va_recv hK hPc (ci := 2) (q0 := 0) rfl rfl, fun U hU hW => ⟨rfl, by rw [hU], by rw [hU]; exact hPc, va_K.moved hW.alike hK, hDc.weaken (fun _ _ _ _ => trivial)⟩⟩ rfl rfl hl.1 rfl (lv_room (Nat.le_of_ble_eq_true rfl)) dX3_plan_21 ⟨Nat.le_of_ble_eq_true rfl, Nat.le_of_ble_eq_true rfl⟩) hS (fun q _ h => hFc q h) hFc (fun r_3 _ t H1 locs ht hvm hw hB hz1 hk1 hS => ?_)
  obtain ⟨hP1, hK1, hD1⟩ := hB
  rw [ht] at hP1
  obtain ⟨g_4, eg_4⟩ : ∃ z, z = sX2_shorten 0 tp := ⟨_, rfl⟩
  rw [← eg_4] at hP1 hD1
  obtain ⟨hP, hD⟩ := va_join (wr := [cX0 h0 n0 k0 t0 p0 x, cL0 n0 n1 n2 n3 g, cL1 cJ n1 g, cL2 cI n2 g, cL3 cI n3 g, cL0 k0 k1 k2 k3 k, cL1 cJ k1 k, cL2 cI k2 k, cL3 cI k3 k, cP0 p0 p1 p2 p3 p4 p5 g_2, cP1 cI p1 g_2, cP2 cI p2 g_2, cP3 cI p3 g_2, cP4 cI p4 g_2, cP5 cI p5 g_2]) (w1 := [cT0 t0 t1 g_4, cT1 cI t1 g_4]) hP hD [9, 10] [0, 1, 2, 3, 4, 5, 6, 7, 8, 11, 12, 13, 14, 15, 16] rfl rfl (by decide) (by decide) hk1 hFc hP1 hD1
  generalize H1 = H at hP hS ⊢
  have hP := hP.sub (ws' := [cX0 h0 n0 k0 t0 p0 x, cL0 n0 n1 n2 n3 g, cL1 cJ n1 g, cL2 cI n2 g, cL3 cI n3 g, cL0 k0 k1 k2 k3 k, cL1 cJ k1 k, cL2 cI k2 k, cL3 cI k3 k, cT0 t0 t1 g_4, cT1 cI t1 g_4, cP0 p0 p1 p2 p3 p4 p5 g_2, cP1 cI p1 g_2, cP2 cI p2 g_2, cP3 cI p3 g_2, cP4 cI p4 g_2, cP5 cI p5 g_2]) [0, 1, 2, 3, 4, 5, 6, 7, 8, 15, 16, 9, 10, 11, 12, 13, 14] rfl
  have hD := hD.sub (ws' := [cX0 h0 n0 k0 t0 p0 x, cL0 n0 n1 n2 n3 g, cL1 cJ n1 g, cL2 cI n2 g, cL3 cI n3 g, cL0 k0 k1 k2 k3 k, cL1 cJ k1 k, cL2 cI k2 k, cL3 cI k3 k, cT0 t0 t1 g_4, cT1 cI t1 g_4, cP0 p0 p1 p2 p3 p4 p5 g_2, cP1 cI p1 g_2, cP2 cI p2 g_2, cP3 cI p3 g_2, cP4 cI p4 g_2, cP5 cI p5 g_2]) [0, 1, 2, 3, 4, 5, 6, 7, 8, 15, 16, 9, 10, 11, 12, 13, 14] (by decide) rfl
  subst hw
  refine lv_pop hx hb dX3_plan_24 rfl ?_
  refine lv_iload_n hx hb dX3_plan_25 rfl (lv_at hl 0 rfl) ?_
  refine lv_if_ne (tgt := 32) hx hb dX3_plan_26 (by decide) (fun c_5 => ?_) (fun c_5 => ?_)
  · refine lv_aload_n hx hb dX3_plan_32 rfl (lv_at hl 1 rfl) ?_
    refine va_get (D := (dC, dI)) (ci := 3) (v := .ref p0) (C := RX3) (T := TX3) (N := 12) hx hb hts hiX3 hown hK hP 0 rfl rfl 3 (by decide) (hts (.fieldLink RX3 29 "TripReckoner" "planner" "LTripReckoner$Planner;") (by decide +kernel)) (fun _ h9 => h9) rfl dX3_plan_33 ?_
    refine lv_aload_n hx hb dX3_plan_36 rfl (lv_at hl 1 rfl) ?_
    refine va_get (D := (dC, dI)) (ci := 3) (v := .ref n0) (C := RX3) (T := TX3) (N := 12) hx hb hts hiX3 hown hK hP 0 rfl rfl 0 (by decide) (hts (.fieldLink RX3 10 "TripReckoner" "now" "LTripReckoner$Ledger;") (by decide +kernel)) (fun _ h9 => h9) rfl dX3_plan_37 ?_
    refine va_getN (D := (dC, dI)) (ci := 0) (v := .int g.1) (C := RX0) (T := TX0) (N := 15) hx hb hts hiX0 hown hK hP 1 rfl rfl 0 (by decide) (nw_f hN (.fieldLinkNest RX3 122 "TripReckoner$Ledger" "spanLeast" "I" "TripReckoner") (by decide +kernel) rfl) (fun _ h9 => h9) rfl dX3_plan_40 ?_
    refine lv_sipush (v := 1000) hx hb dX3_plan_43 (by decide) ?_
    refine lv_idiv hx hb dX3_plan_46 (by decide) ?_
    refine lv_topi (fun z_6 ez_6 => ?_)
    obtain rfl : z_6 = nI (g.1 / 1000).toNatClampNeg := ez_6.trans (i_cl hg)
    refine lv_aload_n hx hb dX3_plan_47 rfl (lv_at hl 1 rfl) ?_
    refine va_get (D := (dC, dI)) (ci := 3) (v := .int x.1) (C := RX3) (T := TX3) (N := 12) hx hb hts hiX3 hown hK hP 0 rfl rfl 4 (by decide) (hts (.fieldLink RX3 34 "TripReckoner" "tankSize" "I") (by decide +kernel)) (fun _ h9 => h9) rfl dX3_plan_48 ?_
    refine lv_sipush (v := 1000) hx hb dX3_plan_51 (by decide) ?_
    refine lv_idiv hx hb dX3_plan_54 (by decide) ?_
    refine lv_topi (fun z_7 ez_7 => ?_)
    obtain rfl : z_7 = nI (x.1 / 1000).toNatClampNeg := ez_7.trans (i_cl hx9)
    have hPc := hP.sub (ws' := [cP0 p0 p1 p2 p3 p4 p5 g_2, cP1 cI p1 g_2, cP2 cI p2 g_2, cP3 cI p3 g_2, cP4 cI p4 g_2, cP5 cI p5 g_2]) [11, 12, 13, 14, 15, 16] rfl
    have hDc := hD.sub (ws' := [cP0 p0 p1 p2 p3 p4 p5 g_2, cP1 cI p1 g_2, cP2 cI p2 g_2, cP3 cI p3 g_2, cP4 cI p4 g_2, cP5 cI p5 g_2]) [11, 12, 13, 14, 15, 16] (by decide) rfl
    have hFc := va_free (wc := [cP0 p0 p1 p2 p3 p4 p5 g_2, cP1 cI p1 g_2, cP2 cI p2 g_2, cP3 cI p3 g_2, cP4 cI p4 g_2, cP5 cI p5 g_2]) hD hS hA [11, 12, 13, 14, 15, 16] rfl
    refine va_calli (va_runVN (As := [.int (nI (g.1 / 1000).toNatClampNeg), .int (nI (x.1 / 1000).toNatClampNeg)]) (rest := []) ⟨hx, hb, hml, hown, hts⟩ (kX1_reckon l dC dI cI cJ p0 p1 p2 p3 p4 p5 H.size ((g.1 / 1000).toNatClampNeg) ((x.1 / 1000).toNatClampNeg) g_2 (hk9 c_5 _ eg_2).1 (hk9 c_5 _ eg_2).2.1 (hk9 c_5 _ eg_2).2.2.1 (hk9 c_5 _ eg_2).2.2.2.1 (hk9 c_5 _ eg_2).2.2.2.2.1 (hk9 c_5 _ eg_2).2.2.2.2.2) ⟨va_cnB 2 hts gX3_plan_X1_reckon_n187 rfl rfl rfl (nw_m hN (.methodLinkNest RX3 187 yX1_reckon "TripReckoner") (by decide +kernel)) (hts (.initialized RX1) (by decide +kernel)) (by decide +kernel) ⟨Nat.le_of_ble_eq_true rfl, Nat.le_of_ble_eq_true rfl⟩, (hts (.instanceMethod yX1_reckon) (by decide +kernel)), (hts (.selects RX1 yX1_reckon yX1_reckon) (by decide +kernel))⟩ ⟨fun a U g mk q => by obtain ⟨q0, q1, qP, qK, qD, qN⟩ := q; exact ⟨q0, q1, qP, va_K.moved (u := U) (U := U.calling g mk a) (Vm.Alike.refl U.vm) qK, qD, nw_same (s := U) (U := U.calling g mk a) rfl qN⟩, va_recv hK hPc (ci := 1) (q0 := 0) rfl rfl, fun U hU hW => ⟨rfl, by rw [hU], by rw [hU]; exact hPc, va_K.moved hW.alike hK, hDc.weaken (fun _ _ _ _ => trivial), nw_warm hW hN⟩⟩ rfl rfl hl.1 rfl (lv_room (Nat.le_of_ble_eq_true rfl)) dX3_plan_55 ⟨Nat.le_of_ble_eq_true rfl, Nat.le_of_ble_eq_true rfl⟩) hS (fun q _ h => hFc q h) hFc (fun r_8 _ t H1 locs ht hvm hw hB hz1 hk1 hS => ?_)
    obtain ⟨hP1, hK1, hD1⟩ := hB
    rw [ht] at hP1
    obtain ⟨g_9, eg_9⟩ : ∃ z, z = sX1_reckon ((g.1 / 1000).toNatClampNeg) ((x.1 / 1000).toNatClampNeg) g_2 := ⟨_, rfl⟩
    rw [← eg_9] at hP1 hD1
    obtain ⟨hP, hD⟩ := va_join (wr := [cX0 h0 n0 k0 t0 p0 x, cL0 n0 n1 n2 n3 g, cL1 cJ n1 g, cL2 cI n2 g, cL3 cI n3 g, cL0 k0 k1 k2 k3 k, cL1 cJ k1 k, cL2 cI k2 k, cL3 cI k3 k, cT0 t0 t1 g_4, cT1 cI t1 g_4]) (w1 := [cP0 p0 p1 p2 p3 p4 p5 g_9, cP1 cI p1 g_9, cP2 cI p2 g_9, cP3 cI p3 g_9, cP4 cI p4 g_9, cP5 cI p5 g_9]) hP hD [11, 12, 13, 14, 15, 16] [0, 1, 2, 3, 4, 5, 6, 7, 8, 9, 10] rfl rfl (by decide) (by decide) hk1 hFc hP1 hD1
    generalize H1 = H at hP hS ⊢
    have hP : va_P (dC, dI) vwCl [cX0 h0 n0 k0 t0 p0 x, cL0 n0 n1 n2 n3 g, cL1 cJ n1 g, cL2 cI n2 g, cL3 cI n3 g, cL0 k0 k1 k2 k3 k, cL1 cJ k1 k, cL2 cI k2 k, cL3 cI k3 k, cT0 t0 t1 g_4, cT1 cI t1 g_4, cP0 p0 p1 p2 p3 p4 p5 g_9, cP1 cI p1 g_9, cP2 cI p2 g_9, cP3 cI p3 g_9, cP4 cI p4 g_9, cP5 cI p5 g_9] H := hP
    have hD : va_D A [cX0 h0 n0 k0 t0 p0 x, cL0 n0 n1 n2 n3 g, cL1 cJ n1 g, cL2 cI n2 g, cL3 cI n3 g, cL0 k0 k1 k2 k3 k, cL1 cJ k1 k, cL2 cI k2 k, cL3 cI k3 k, cT0 t0 t1 g_4, cT1 cI t1 g_4, cP0 p0 p1 p2 p3 p4 p5 g_9, cP1 cI p1 g_9, cP2 cI p2 g_9, cP3 cI p3 g_9, cP4 cI p4 g_9, cP5 cI p5 g_9] := hD
    subst hw
    have es3 : sX3_plan_tp x g k tp pl = g_4 := by rw [sX3_plan_tp, ← eg_2, sX3_plan_tp_g_2, ← eg_4, sX3_plan_tp_g_4, if_neg c_5, ← eg_9, sX3_plan_tp_g_9]
    have es4 : sX3_plan_pl x g k tp pl = g_9 := by rw [sX3_plan_pl, ← eg_2, sX3_plan_pl_g_2, ← eg_4, sX3_plan_pl_g_4, if_neg c_5, ← eg_9, sX3_plan_pl_g_9]
    have er : rX1_reckon ((g.1 / 1000).toNatClampNeg) ((x.1 / 1000).toNatClampNeg) g_2 = rX3_plan x g k tp pl := by rw [rX3_plan, ← eg_2, rX3_plan_g_2, ← eg_4, rX3_plan_g_4, if_neg c_5, ← eg_9, rX3_plan_g_9]
    refine W.iret (v := rX1_reckon ((g.1 / 1000).toNatClampNeg) ((x.1 / 1000).toNatClampNeg) g_2) hx hb hr (fun t ht hW => ⟨⟨rX1_reckon ((g.1 / 1000).toNatClampNeg) ((x.1 / 1000).toNatClampNeg) g_2, (), rfl, er, ?_⟩, hS.F ht⟩) hS.2.2 dX3_plan_58
    rw [es3]; rw [es4]; exact ⟨by rw [ht]; exact hP, va_K.moved hW.alike hK, hD⟩
  · refine lv_bipush (v := (-2)) hx hb dX3_plan_29 (by decide) ?_
    have es3 : sX3_plan_tp x g k tp pl = g_4 := by rw [sX3_plan_tp, ← eg_2, sX3_plan_tp_g_2, ← eg_4, sX3_plan_tp_g_4, if_pos c_5]
    have es4 : sX3_plan_pl x g k tp pl = g_2 := by rw [sX3_plan_pl, ← eg_2, sX3_plan_pl_g_2, ← eg_4, sX3_plan_pl_g_4, if_pos c_5]
    have er : (-2) = rX3_plan x g k tp pl := by rw [rX3_plan, ← eg_2, rX3_plan_g_2, ← eg_4, rX3_plan_g_4, if_pos c_5]
    refine W.iret (v := (-2)) hx hb hr (fun t ht hW => ⟨⟨(-2), (), rfl, er, ?_⟩, hS.F ht⟩) hS.2.2 dX3_plan_31
    rw [es3]; rw [es4]; exact ⟨by rw [ht]; exact hP, va_K.moved hW.alike hK, hD⟩
