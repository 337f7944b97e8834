def sX3_feed_g_12 (a : Int32) (b : Int32) (cc : Int32) (dd : Int32) (ee : Int32) (x : XC) (g : LG) (k : LG) (tp : TP) (pl : PL) (g_4 : TP) (g_6 : TP) (g_8 : TP) (g_10 : TP) (g_12 : TP) : TP :=
  g_12
def sX3_feed_g_10 (a : Int32) (b : Int32) (cc : Int32) (dd : Int32) (ee : Int32) (x : XC) (g : LG) (k : LG) (tp : TP) (pl : PL) (g_4 : TP) (g_6 : TP) (g_8 : TP) (g_10 : TP) : TP :=
  sX3_feed_g_12 a b cc dd ee x g k tp pl g_4 g_6 g_8 g_10 (sX2_push ee g_10)
def sX3_feed_g_8 (a : Int32) (b : Int32) (cc : Int32) (dd : Int32) (ee : Int32) (x : XC) (g : LG) (k : LG) (tp : TP) (pl : PL) (g_4 : TP) (g_6 : TP) (g_8 : TP) : TP :=
  sX3_feed_g_10 a b cc dd ee x g k tp pl g_4 g_6 g_8 (sX2_push dd g_8)
def sX3_feed_g_6 (a : Int32) (b : Int32) (cc : Int32) (dd : Int32) (ee : Int32) (x : XC) (g : LG) (k : LG) (tp : TP) (pl : PL) (g_4 : TP) (g_6 : TP) : TP :=
  sX3_feed_g_8 a b cc dd ee x g k tp pl g_4 g_6 (sX2_push cc g_6)
def sX3_feed_g_4 (a : Int32) (b : Int32) (cc : Int32) (dd : Int32) (ee : Int32) (x : XC) (g : LG) (k : LG) (tp : TP) (pl : PL) (g_4 : TP) : TP :=
  sX3_feed_g_6 a b cc dd ee x g k tp pl g_4 (sX2_push b g_4)
def sX3_feed (a : Int32) (b : Int32) (cc : Int32) (dd : Int32) (ee : Int32) (x : XC) (g : LG) (k : LG) (tp : TP) (pl : PL) : TP :=
  if (rX2_hasRoom tp) = 0 then
    tp
  else
    sX3_feed_g_4 a b cc dd ee x g k tp pl (sX2_push a tp)
def rX3_feed_g_12 (a : Int32) (b : Int32) (cc : Int32) (dd : Int32) (ee : Int32) (x : XC) (g : LG) (k : LG) (tp : TP) (pl : PL) (g_4 : TP) (g_6 : TP) (g_8 : TP) (g_10 : TP) (g_12 : TP) : Int32 :=
  g_12.2
def rX3_feed_g_10 (a : Int32) (b : Int32) (cc : Int32) (dd : Int32) (ee : Int32) (x : XC) (g : LG) (k : LG) (tp : TP) (pl : PL) (g_4 : TP) (g_6 : TP) (g_8 : TP) (g_10 : TP) : Int32 :=
  rX3_feed_g_12 a b cc dd ee x g k tp pl g_4 g_6 g_8 g_10 (sX2_push ee g_10)
def rX3_feed_g_8 (a : Int32) (b : Int32) (cc : Int32) (dd : Int32) (ee : Int32) (x : XC) (g : LG) (k : LG) (tp : TP) (pl : PL) (g_4 : TP) (g_6 : TP) (g_8 : TP) : Int32 :=
  rX3_feed_g_10 a b cc dd ee x g k tp pl g_4 g_6 g_8 (sX2_push dd g_8)
def rX3_feed_g_6 (a : Int32) (b : Int32) (cc : Int32) (dd : Int32) (ee : Int32) (x : XC) (g : LG) (k : LG) (tp : TP) (pl : PL) (g_4 : TP) (g_6 : TP) : Int32 :=
  rX3_feed_g_8 a b cc dd ee x g k tp pl g_4 g_6 (sX2_push cc g_6)
def rX3_feed_g_4 (a : Int32) (b : Int32) (cc : Int32) (dd : Int32) (ee : Int32) (x : XC) (g : LG) (k : LG) (tp : TP) (pl : PL) (g_4 : TP) : Int32 :=
  rX3_feed_g_6 a b cc dd ee x g k tp pl g_4 (sX2_push b g_4)
def rX3_feed (a : Int32) (b : Int32) (cc : Int32) (dd : Int32) (ee : Int32) (x : XC) (g : LG) (k : LG) (tp : TP) (pl : PL) : Int32 :=
  if (rX2_hasRoom tp) = 0 then
    (-1)
  else
    rX3_feed_g_4 a b cc dd ee x g k tp pl (sX2_push a tp)
set_option maxHeartbeats 4000000 in
set_option maxRecDepth 100000 in
theorem kX3_feed (l : Launch) (dC : Nat → ClassId) (dI : Nat → Nat → Nat) (cI cJ : ClassId) (h0 n0 k0 t0 p0 n1 n2 n3 k1 k2 k3 t1 p1 p2 p3 p4 p5 : Nat) (sz : Nat) (a : Int32) (b : Int32) (cc : Int32) (dd : Int32) (ee : Int32) (x : XC) (g : LG) (k : LG) (tp : TP) (pl : PL) (htp : 0 ≤ tp.2) : Met l yX3_feed wsX3_feed ({ frames := 1, cells := 0, slots := 0, locals := 22 }) (va_Pc [.ref h0, .int a, .int b, .int cc, .int dd, .int ee] (fun U => U.heap.size = sz ∧ va_P (dC, dI) vwCl [cX0 h0 n0 k0 t0 p0 x, cL0 n0 n1 n2 n3 g, cL1 cJ n1 g, cL2 cI n2 g, cL3 cI n3 g, cL0 k0 k1 k2 k3 k, cL1 cJ k1 k, cL2 cI k2 k, cL3 cI k3 k, cT0 t0 t1 tp, cT1 cI t1 tp, cP0 p0 p1 p2 p3 p4 p5 pl, cP1 cI p1 pl, cP2 cI p2 pl, cP3 cI p3 pl, cP4 cI p4 pl, cP5 cI p5 pl] U.heap ∧ va_K (dC, dI) vwCl [(cI, .int), (cJ, .long)] U ∧ va_D (fun _ => True) [cX0 h0 n0 k0 t0 p0 x, cL0 n0 n1 n2 n3 g, cL1 cJ n1 g, cL2 cI n2 g, cL3 cI n3 g, cL0 k0 k1 k2 k3 k, cL1 cJ k1 k, cL2 cI k2 k, cL3 cI k3 k, cT0 t0 t1 tp, cT1 cI t1 tp, cP0 p0 p1 p2 p3 p4 p5 pl, cP1 cI p1 pl, cP2 cI p2 pl, cP3 cI p3 pl, cP4 cI p4 pl, cP5 cI p5 pl] ∧ nw U)) (va_Qi (fun (r : Int32) (_ : Unit) => r = rX3_feed a b cc dd ee x g k tp pl) (fun _ t => va_P (dC, dI) vwCl [cX0 h0 n0 k0 t0 p0 x, cL0 n0 n1 n2 n3 g, cL1 cJ n1 g, cL2 cI n2 g, cL3 cI n3 g, cL0 k0 k1 k2 k3 k, cL1 cJ k1 k, cL2 cI k2 k, cL3 cI k3 k, cT0 t0 t1 (sX3_feed a b cc dd ee x g k tp pl), cT1 cI t1 (sX3_feed a b cc dd ee x g k tp pl), cP0 p0 p1 p2 p3 p4 p5 pl, cP1 cI p1 pl, cP2 cI p2 pl, cP3 cI p3 pl, cP4 cI p4 pl, cP5 cI p5 pl] t.heap ∧ va_K (dC, dI) vwCl [(cI, .int), (cJ, .long)] t ∧ va_D (va_A [cX0 h0 n0 k0 t0 p0 x, cL0 n0 n1 n2 n3 g, cL1 cJ n1 g, cL2 cI n2 g, cL3 cI n3 g, cL0 k0 k1 k2 k3 k, cL1 cJ k1 k, cL2 cI k2 k, cL3 cI k3 k, cT0 t0 t1 tp, cT1 cI t1 tp, cP0 p0 p1 p2 p3 p4 p5 pl, cP1 cI p1 pl, cP2 cI p2 pl, cP3 cI p3 pl, cP4 cI p4 pl, cP5 cI p5 pl] sz) [cX0 h0 n0 k0 t0 p0 x, cL0 n0 n1 n2 n3 g, cL1 cJ n1 g, cL2 cI n2 g, cL3 cI n3 g, cL0 k0 k1 k2 k3 k, cL1 cJ k1 k, cL2 cI k2 k, cL3 cI k3 k, cT0 t0 t1 (sX3_feed a b cc dd ee x g k tp pl), cT1 cI t1 (sX3_feed a b cc dd ee x g k tp pl), cP0 p0 p1 p2 p3 p4 p5 pl, cP1 cI p1 pl, cP2 cI p2 pl, cP3 cI p3 pl, cP4 cI p4 pl, cP5 cI p5 pl]) (va_A [cX0 h0 n0 k0 t0 p0 x, cL0 n0 n1 n2 n3 g, cL1 cJ n1 g, cL2 cI n2 g, cL3 cI n3 g, cL0 k0 k1 k2 k3 k, cL1 cJ k1 k, cL2 cI k2 k, cL3 cI k3 k, cT0 t0 t1 tp, cT1 cI t1 tp, cP0 p0 p1 p2 p3 p4 p5 pl, cP1 cI p1 pl, cP2 cI p2 pl, cP3 cI p3 pl, cP4 cI p4 pl, cP5 cI p5 pl] sz)) 0 0 (va_A [cX0 h0 n0 k0 t0 p0 x, cL0 n0 n1 n2 n3 g, cL1 cJ n1 g, cL2 cI n2 g, cL3 cI n3 g, cL0 k0 k1 k2 k3 k, cL1 cJ k1 k, cL2 cI k2 k, cL3 cI k3 k, cT0 t0 t1 tp, cT1 cI t1 tp, cP0 p0 p1 p2 p3 p4 p5 pl, cP1 cI p1 pl, cP2 cI p2 pl, cP3 cI p3 pl, cP4 cI p4 pl, cP5 cI p5 pl] sz) := by
  refine Met.ofW (cc := cX3_feed) (maxL := 6) (ret := (some .int)) (by decide) rfl ?_
  intro p e s m args below meth c s₁ B hml hv
  obtain ⟨rfl, hsz, hP, hK, hD0, hN⟩ := hv
  have hx := B.exec
  have hb := B.bytes
  have hr := B.returns
  have hts := atoms_spec (ws := wsX3_feed) B.pre
  have hown : s.vm.findClass RX3 = some m.cls := findClass_of_methodNamed B.named
  have hlocks := B.notSynchronized
  have hiX3 : ∀ w ∈ u_ws RX3 TX3 12, w ∈ wsX3_feed := by decide +kernel
  have hiX2 : ∀ w ∈ u_ws RX2 TX2 2, w ∈ wsX3_feed := by decide +kernel
  subst hsz
  have hD := hD0.self (sz := s.heap.size)
  generalize hAe : va_A [cX0 h0 n0 k0 t0 p0 x, cL0 n0 n1 n2 n3 g, cL1 cJ n1 g, cL2 cI n2 g, cL3 cI n3 g, cL0 k0 k1 k2 k3 k, cL1 cJ k1 k, cL2 cI k2 k, cL3 cI k3 k, cT0 t0 t1 tp, cT1 cI t1 tp, cP0 p0 p1 p2 p3 p4 p5 pl, cP1 cI p1 pl, cP2 cI p2 pl, cP3 cI p3 pl, cP4 cI p4 pl, cP5 cI p5 pl] s.heap.size = A at hD ⊢
  have hA : ∀ q : Nat, s.heap.size ≤ q → A q := fun q h => by rw [← hAe]; exact Or.inr h
  have hS : va_S A s.heap s.heap [] := va_S.rf
  have hl := lv_entry ([.ref h0, .int a, .int b, .int cc, .int dd, .int ee]) (n := 6) (Nat.le_of_ble_eq_true rfl)
  rw [lg_entry_eq]
  generalize (lg_sl ([.ref h0, .int a, .int b, .int cc, .int dd, .int ee]) ++ List.replicate (6 - (lg_sl ([.ref h0, .int a, .int b, .int cc, .int dd, .int ee])).length) Slot.unset).toArray = ls at hl ⊢
  have hl : lv_has ls 6 [(0, .ref h0), (1, .int a), (2, .int b), (3, .int cc), (4, .int dd), (5, .int ee)] := hl
  have hP : va_P (dC, dI) vwCl [cX0 h0 n0 k0 t0 p0 x, cL0 n0 n1 n2 n3 g, cL1 cJ n1 g, cL2 cI n2 g, cL3 cI n3 g, cL0 k0 k1 k2 k3 k, cL1 cJ k1 k, cL2 cI k2 k, cL3 cI k3 k, cT0 t0 t1 tp, cT1 cI t1 tp, cP0 p0 p1 p2 p3 p4 p5 pl, cP1 cI p1 pl, cP2 cI p2 pl, cP3 cI p3 pl, cP4 cI p4 pl, cP5 cI p5 pl] s.heap := hP
  refine lv_aload_n hx hb dX3_feed_0 rfl (lv_at hl 0 rfl) ?_
  refine va_get (D := (dC, dI)) (ci := 3) (v := .ref t0) (C := RX3) (T := TX3) (N := 12) hx hb hts hiX3 hown hK hP 0 rfl rfl 2 (by decide) (hts (.fieldLink RX3 22 "TripReckoner" "tape" "LTripReckoner$Tape;") (by decide +kernel)) (fun _ h9 => h9) rfl dX3_feed_1 ?_
  have hPc := hP.sub (ws' := [cT0 t0 t1 tp, cT1 cI t1 tp]) [9, 10] rfl
  have hDc := hD.sub (ws' := [cT0 t0 t1 tp, cT1 cI t1 tp]) [9, 10] (by decide) rfl
  have hFc := va_free (wc := [cT0 t0 t1 tp, cT1 cI t1 tp]) hD hS hA [9, 10] rfl
  refine va_calli (va_runVN (As := []) (rest := []) ⟨hx, hb, hml, hown, hts⟩ (kX2_hasRoom l dC dI cI cJ t0 t1 s.heap.size tp) ⟨va_cnB 0 hts gX3_feed_X2_hasRoom_n64 rfl rfl rfl (nw_m hN (.methodLinkNest RX3 64 yX2_hasRoom "TripReckoner") (by decide +kernel)) (hts (.initialized RX2) (by decide +kernel)) (by decide +kernel) ⟨Nat.le_of_ble_eq_true rfl, Nat.le_of_ble_eq_true rfl⟩, (hts (.instanceMethod yX2_hasRoom) (by decide +kernel)), (hts (.selects RX2 yX2_hasRoom yX2_hasRoom) (by decide +kernel))⟩ ⟨fun a U g mk q => by obtain ⟨q0, q1, qP, qK, qD⟩ := q; exact ⟨q0, q1, qP, va_K.moved (u := U) (U := U.calling g mk a) (Vm.Alike.refl U.vm) qK, qD⟩, va_recv hK hPc (ci := 2) (q0 := 0) rfl rfl, fun U hU hW => ⟨rfl, by rw [hU], by rw [hU]; exact hPc, va_K.moved hW.alike hK, hDc.weaken (fun _ _ _ _ => trivial)⟩⟩ rfl rfl hl.1 rfl (lv_room (Nat.le_of_ble_eq_true rfl)) dX3_feed_4 ⟨Nat.le_of_ble_eq_true rfl, Nat.le_of_ble_eq_true rfl⟩) hS (fun q _ h => hFc q h) hFc (fun r_1 _ t H1 locs ht hvm hw hB hz1 hk1 hS => ?_)
  obtain ⟨hP1, hK1, hD1⟩ := hB
  rw [ht] at hP1
  obtain ⟨hP, hD⟩ := va_join (wr := [cX0 h0 n0 k0 t0 p0 x, cL0 n0 n1 n2 n3 g, cL1 cJ n1 g, cL2 cI n2 g, cL3 cI n3 g, cL0 k0 k1 k2 k3 k, cL1 cJ k1 k, cL2 cI k2 k, cL3 cI k3 k, cP0 p0 p1 p2 p3 p4 p5 pl, cP1 cI p1 pl, cP2 cI p2 pl, cP3 cI p3 pl, cP4 cI p4 pl, cP5 cI p5 pl]) (w1 := [cT0 t0 t1 tp, cT1 cI t1 tp]) hP hD [9, 10] [0, 1, 2, 3, 4, 5, 6, 7, 8, 11, 12, 13, 14, 15, 16] rfl rfl (by decide) (by decide) hk1 hFc hP1 hD1
  generalize H1 = H at hP hS ⊢
  have hP := hP.sub (ws' := [cX0 h0 n0 k0 t0 p0 x, cL0 n0 n1 n2 n3 g, cL1 cJ n1 g, cL2 cI n2 g, cL3 cI n3 g, cL0 k0 k1 k2 k3 k, cL1 cJ k1 k, cL2 cI k2 k, cL3 cI k3 k, cT0 t0 t1 tp, cT1 cI t1 tp, cP0 p0 p1 p2 p3 p4 p5 pl, cP1 cI p1 pl, cP2 cI p2 pl, cP3 cI p3 pl, cP4 cI p4 pl, cP5 cI p5 pl]) [0, 1, 2, 3, 4, 5, 6, 7, 8, 15, 16, 9, 10, 11, 12, 13, 14] rfl
  have hD := hD.sub (ws' := [cX0 h0 n0 k0 t0 p0 x, cL0 n0 n1 n2 n3 g, cL1 cJ n1 g, cL2 cI n2 g, cL3 cI n3 g, cL0 k0 k1 k2 k3 k, cL1 cJ k1 k, cL2 cI k2 k, cL3 cI k3 k, cT0 t0 t1 tp, cT1 cI t1 tp, cP0 p0 p1 p2 p3 p4 p5 pl, cP1 cI p1 pl, cP2 cI p2 pl, cP3 cI p3 pl, cP4 cI p4 pl, cP5 cI p5 pl]) [0, 1, 2, 3, 4, 5, 6, 7, 8, 15, 16, 9, 10, 11, 12, 13, 14] (by decide) rfl
  subst hw
  refine lv_if_ne (tgt := 12) hx hb dX3_feed_7 (by decide) (fun c_2 => ?_) (fun c_2 => ?_)
  · refine lv_aload_n hx hb dX3_feed_12 rfl (lv_at hl 0 rfl) ?_
    refine va_get (D := (dC, dI)) (ci := 3) (v := .ref t0) (C := RX3) (T := TX3) (N := 12) hx hb hts hiX3 hown hK hP 0 rfl rfl 2 (by decide) (hts (.fieldLink RX3 22 "TripReckoner" "tape" "LTripReckoner$Tape;") (by decide +kernel)) (fun _ h9 => h9) rfl dX3_feed_13 ?_
    refine lv_iload_n hx hb dX3_feed_16 rfl (lv_at hl 1 rfl) ?_
    have hPc := hP.sub (ws' := [cT0 t0 t1 tp, cT1 cI t1 tp]) [9, 10] rfl
    have hDc := hD.sub (ws' := [cT0 t0 t1 tp, cT1 cI t1 tp]) [9, 10] (by decide) rfl
    have hFc := va_free (wc := [cT0 t0 t1 tp, cT1 cI t1 tp]) hD hS hA [9, 10] rfl
    refine va_callv (va_runVN (As := [.int a]) (rest := []) ⟨hx, hb, hml, hown, hts⟩ (kX2_push l dC dI cI cJ t0 t1 H.size a tp htp) ⟨va_cnB 1 hts gX3_feed_X2_push_n68 rfl rfl rfl (nw_m hN (.methodLinkNest RX3 68 yX2_push "TripReckoner") (by decide +kernel)) (hts (.initialized RX2) (by decide +kernel)) (by decide +kernel) ⟨Nat.le_of_ble_eq_true rfl, Nat.le_of_ble_eq_true rfl⟩, (hts (.instanceMethod yX2_push) (by decide +kernel)), (hts (.selects RX2 yX2_push yX2_push) (by decide +kernel))⟩ ⟨fun a U g mk q => by obtain ⟨q0, q1, qP, qK, qD⟩ := q; exact ⟨q0, q1, qP, va_K.moved (u := U) (U := U.calling g mk a) (Vm.Alike.refl U.vm) qK, qD⟩, va_recv hK hPc (ci := 2) (q0 := 0) rfl rfl, fun U hU hW => ⟨rfl, by rw [hU], by rw [hU]; exact hPc, va_K.moved hW.alike hK, hDc.weaken (fun _ _ _ _ => trivial)⟩⟩ rfl rfl hl.1 rfl (lv_room (Nat.le_of_ble_eq_true rfl)) dX3_feed_17 ⟨Nat.le_of_ble_eq_true rfl, Nat.le_of_ble_eq_true rfl⟩) hS (fun q _ h => hFc q h) hFc (fun _ t H1 locs ht hvm hw hB hz1 hk1 hS => ?_)
    obtain ⟨hP1, hK1, hD1⟩ := hB
    rw [ht] at hP1
    obtain ⟨g_4, eg_4⟩ : ∃ z, z = sX2_push a tp := ⟨_, rfl⟩
    rw [← eg_4] at hP1 hD1
    obtain ⟨hP, hD⟩ := va_join (wr := [cX0 h0 n0 k0 t0 p0 x, cL0 n0 n1 n2 n3 g, cL1 cJ n1 g, cL2 cI n2 g, cL3 cI n3 g, cL0 k0 k1 k2 k3 k, cL1 cJ k1 k, cL2 cI k2 k, cL3 cI k3 k, cP0 p0 p1 p2 p3 p4 p5 pl, cP1 cI p1 pl, cP2 cI p2 pl, cP3 cI p3 pl, cP4 cI p4 pl, cP5 cI p5 pl]) (w1 := [cT0 t0 t1 g_4, cT1 cI t1 g_4]) hP hD [9, 10] [0, 1, 2, 3, 4, 5, 6, 7, 8, 11, 12, 13, 14, 15, 16] rfl rfl (by decide) (by decide) hk1 hFc hP1 hD1
    generalize H1 = H at hP hS ⊢
    have hP := hP.sub (ws' := [cX0 h0 n0 k0 t0 p0 x, cL0 n0 n1 n2 n3 g, cL1 cJ n1 g, cL2 cI n2 g, cL3 cI n3 g, cL0 k0 k1 k2 k3 k, cL1 cJ k1 k, cL2 cI k2 k, cL3 cI k3 k, cT0 t0 t1 g_4, cT1 cI t1 g_4, cP0 p0 p1 p2 p3 p4 p5 pl, cP1 cI p1 pl, cP2 cI p2 pl, cP3 cI p3 pl, cP4 cI p4 pl, cP5 cI p5 pl]) [0, 1, 2, 3, 4, 5, 6, 7, 8, 15, 16, 9, 10, 11, 12, 13, 14] rfl
    have hD := hD.sub (ws' := [cX0 h0 n0 k0 t0 p0 x, cL0 n0 n1 n2 n3 g, cL1 cJ n1 g, cL2 cI n2 g, cL3 cI n3 g, cL0 k0 k1 k2 k3 k, cL1 cJ k1 k, cL2 cI k2 k, cL3 cI k3 k, cT0 t0 t1 g_4, cT1 cI t1 g_4, cP0 p0 p1 p2 p3 p4 p5 pl, cP1 cI p1 pl, cP2 cI p2 pl, cP3 cI p3 pl, cP4 cI p4 pl, cP5 cI p5 pl]) [0, 1, 2, 3, 4, 5, 6, 7, 8, 15, 16, 9, 10, 11, 12, 13, 14] (by decide) rfl
    refine lv_aload_n hx hb dX3_feed_20 rfl (lv_at hl 0 rfl) ?_
    refine va_get (D := (dC, dI)) (ci := 3) (v := .ref t0) (C := RX3) (T := TX3) (N := 12) hx hb hts hiX3 hown hK hP 0 rfl rfl 2 (by decide) (hts (.fieldLink RX3 22 "TripReckoner" "tape" "LTripReckoner$Tape;") (by decide +kernel)) (fun _ h9 => h9) rfl dX3_feed_21 ?_
    refine lv_iload_n hx hb dX3_feed_24 rfl (lv_at hl 2 rfl) ?_
    have hPc := hP.sub (ws' := [cT0 t0 t1 g_4, cT1 cI t1 g_4]) [9, 10] rfl
    have hDc := hD.sub (ws' := [cT0 t0 t1 g_4, cT1 cI t1 g_4]) [9, 10] (by decide) rfl
    have hFc := va_free (wc := [cT0 t0 t1 g_4, cT1 cI t1 g_4]) hD hS hA [9, 10] rfl
    refine va_callv (va_runVN (As := [.int b]) (rest := []) ⟨hx, hb, hml, hown, hts⟩ (kX2_push l dC dI cI cJ t0 t1 H.size b g_4 (by rw [eg_4]; exact push_ge0 htp)) ⟨va_cnB 1 hts gX3_feed_X2_push_n68 rfl rfl rfl (nw_m hN (.methodLinkNest RX3 68 yX2_push "TripReckoner") (by decide +kernel)) (hts (.initialized RX2) (by decide +kernel)) (by decide +kernel) ⟨Nat.le_of_ble_eq_true rfl, Nat.le_of_ble_eq_true rfl⟩, (hts (.instanceMethod yX2_push) (by decide +kernel)), (hts (.selects RX2 yX2_push yX2_push) (by decide +kernel))⟩ ⟨fun a U g mk q => by obtain ⟨q0, q1, qP, qK, qD⟩ := q; exact ⟨q0, q1, qP, va_K.moved (u := U) (U := U.calling g mk a) (Vm.Alike.refl U.vm) qK, qD⟩, va_recv hK hPc (ci := 2) (q0 := 0) rfl rfl, fun U hU hW => ⟨rfl, by rw [hU], by rw [hU]; exact hPc, va_K.moved hW.alike hK, hDc.weaken (fun _ _ _ _ => trivial)⟩⟩ rfl rfl hl.1 rfl (lv_room (Nat.le_of_ble_eq_true rfl)) dX3_feed_25 ⟨Nat.le_of_ble_eq_true rfl, Nat.le_of_ble_eq_true rfl⟩) hS (fun q _ h => hFc q h) hFc (fun _ t H1 locs ht hvm hw hB hz1 hk1 hS => ?_)
    obtain ⟨hP1, hK1, hD1⟩ := hB
    rw [ht] at hP1
    obtain ⟨g_6, eg_6⟩ : ∃ z, z = sX2_push b g_4 := ⟨_, rfl⟩
    rw [← eg_6] at hP1 hD1
    obtain ⟨hP, hD⟩ := va_join (wr := [cX0 h0 n0 k0 t0 p0 x, cL0 n0 n1 n2 n3 g, cL1 cJ n1 g, cL2 cI n2 g, cL3 cI n3 g, cL0 k0 k1 k2 k3 k, cL1 cJ k1 k, cL2 cI k2 k, cL3 cI k3 k, cP0 p0 p1 p2 p3 p4 p5 pl, cP1 cI p1 pl, cP2 cI p2 pl, cP3 cI p3 pl, cP4 cI p4 pl, cP5 cI p5 pl]) (w1 := [cT0 t0 t1 g_6, cT1 cI t1 g_6]) hP hD [9, 10] [0, 1, 2, 3, 4, 5, 6, 7, 8, 11, 12, 13, 14, 15, 16] rfl rfl (by decide) (by decide) hk1 hFc hP1 hD1
    generalize H1 = H at hP hS ⊢
    have hP := hP.sub (ws' := [cX0 h0 n0 k0 t0 p0 x, cL0 n0 n1 n2 n3 g, cL1 cJ n1 g, cL2 cI n2 g, cL3 cI n3 g, cL0 k0 k1 k2 k3 k, cL1 cJ k1 k, cL2 cI k2 k, cL3 cI k3 k, cT0 t0 t1 g_6, cT1 cI t1 g_6, cP0 p0 p1 p2 p3 p4 p5 pl, cP1 cI p1 pl, cP2 cI p2 pl, cP3 cI p3 pl, cP4 cI p4 pl, cP5 cI p5 pl]) [0, 1, 2, 3, 4, 5, 6, 7, 8, 15, 16, 9, 10, 11, 12, 13, 14] rfl
    have hD := hD.sub (ws' := [cX0 h0 n0 k0 t0 p0 x, cL0 n0 n1 n2 n3 g, cL1 cJ n1 g, cL2 cI n2 g, cL3 cI n3 g, cL0 k0 k1 k2 k3 k, cL1 cJ k1 k, cL2 cI k2 k, cL3 cI k3 k, cT0 t0 t1 g_6, cT1 cI t1 g_6, cP0 p0 p1 p2 p3 p4 p5 pl, cP1 cI p1 pl, cP2 cI p2 pl, cP3 cI p3 pl, cP4 cI p4 pl, cP5 cI p5 pl]) [0, 1, 2, 3, 4, 5, 6, 7, 8, 15, 16, 9, 10, 11, 12, 13, 14] (by decide) rfl
    refine lv_aload_n hx hb dX3_feed_28 rfl (lv_at hl 0 rfl) ?_
    refine va_get (D := (dC, dI)) (ci := 3) (v := .ref t0) (C := RX3) (T := TX3) (N := 12) hx hb hts hiX3 hown hK hP 0 rfl rfl 2 (by decide) (hts (.fieldLink RX3 22 "TripReckoner" "tape" "LTripReckoner$Tape;") (by decide +kernel)) (fun _ h9 => h9) rfl dX3_feed_29 ?_
    refine lv_iload_n hx hb dX3_feed_32 rfl (lv_at hl 3 rfl) ?_
    have hPc := hP.sub (ws' := [cT0 t0 t1 g_6, cT1 cI t1 g_6]) [9, 10] rfl
    have hDc := hD.sub (ws' := [cT0 t0 t1 g_6, cT1 cI t1 g_6]) [9, 10] (by decide) rfl
    have hFc := va_free (wc := [cT0 t0 t1 g_6, cT1 cI t1 g_6]) hD hS hA [9, 10] rfl
    refine va_callv (va_runVN (As := [.int cc]) (rest := []) ⟨hx, hb, hml, hown, hts⟩ (kX2_push l dC dI cI cJ t0 t1 H.size cc g_6 (by rw [eg_6]; exact push_ge0 (by rw [eg_4]; exact push_ge0 htp))) ⟨va_cnB 1 hts gX3_feed_X2_push_n68 rfl rfl rfl (nw_m hN (.methodLinkNest RX3 68 yX2_push "TripReckoner") (by decide +kernel)) (hts (.initialized RX2) (by decide +kernel)) (by decide +kernel) ⟨Nat.le_of_ble_eq_true rfl, Nat.le_of_ble_eq_true rfl⟩, (hts (.instanceMethod yX2_push) (by decide +kernel)), (hts (.selects RX2 yX2_push yX2_push) (by decide +kernel))⟩ ⟨fun a U g mk q => by obtain ⟨q0, q1, qP, qK, qD⟩ := q; exact ⟨q0, q1, qP, va_K.moved (u := U) (U := U.calling g mk a) (Vm.Alike.refl U.vm) qK, qD⟩, va_recv hK hPc (ci := 2) (q0 := 0) rfl rfl, fun U hU hW => ⟨rfl, by rw [hU], by rw [hU]; exact hPc, va_K.moved hW.alike hK, hDc.weaken (fun _ _ _ _ => trivial)⟩⟩ rfl rfl hl.1 rfl (lv_room (Nat.le_of_ble_eq_true rfl)) dX3_feed_33 ⟨Nat.le_of_ble_eq_true rfl, Nat.le_of_ble_eq_true rfl⟩) hS (fun q _ h => hFc q h) hFc (fun _ t H1 locs ht hvm hw hB hz1 hk1 hS => ?_)
    obtain ⟨hP1, hK1, hD1⟩ := hB
    rw [ht] at hP1
    obtain ⟨g_8, eg_8⟩ : ∃ z, z = sX2_push cc g_6 := ⟨_, rfl⟩
    rw [← eg_8] at hP1 hD1
    obtain ⟨hP, hD⟩ := va_join (wr := [cX0 h0 n0 k0 t0 p0 x, cL0 n0 n1 n2 n3 g, cL1 cJ n1 g, cL2 cI n2 g, cL3 cI n3 g, cL0 k0 k1 k2 k3 k, cL1 cJ k1 k, cL2 cI k2 k, cL3 cI k3 k, cP0 p0 p1 p2 p3 p4 p5 pl, cP1 cI p1 pl, cP2 cI p2 pl, cP3 cI p3 pl, cP4 cI p4 pl, cP5 cI p5 pl]) (w1 := [cT0 t0 t1 g_8, cT1 cI t1 g_8]) hP hD [9, 10] [0, 1, 2, 3, 4, 5, 6, 7, 8, 11, 12, 13, 14, 15, 16] rfl rfl (by decide) (by decide) hk1 hFc hP1 hD1
    generalize H1 = H at hP hS ⊢
    have hP := hP.sub (ws' := [cX0 h0 n0 k0 t0 p0 x, cL0 n0 n1 n2 n3 g, cL1 cJ n1 g, cL2 cI n2 g, cL3 cI n3 g, cL0 k0 k1 k2 k3 k, cL1 cJ k1 k, cL2 cI k2 k, cL3 cI k3 k, cT0 t0 t1 g_8, cT1 cI t1 g_8, cP0 p0 p1 p2 p3 p4 p5 pl, cP1 cI p1 pl, cP2 cI p2 pl, cP3 cI p3 pl, cP4 cI p4 pl, cP5 cI p5 pl]) [0, 1, 2, 3, 4, 5, 6, 7, 8, 15, 16, 9, 10, 11, 12, 13, 14] rfl
    have hD := hD.sub (ws' := [cX0 h0 n0 k0 t0 p0 x, cL0 n0 n1 n2 n3 g, cL1 cJ n1 g, cL2 cI n2 g, cL3 cI n3 g, cL0 k0 k1 k2 k3 k, cL1 cJ k1 k, cL2 cI k2 k, cL3 cI k3 k, cT0 t0 t1 g_8, cT1 cI t1 g_8, cP0 p0 p1 p2 p3 p4 p5 pl, cP1 cI p1 pl, cP2 cI p2 pl, cP3 cI p3 pl, cP4 cI p4 pl, cP5 cI p5 pl]) [0, 1, 2, 3, 4, 5, 6, 7, 8, 15, 16, 9, 10, 11, 12, 13, 14] (by decide) rfl
    refine lv_aload_n hx hb dX3_feed_36 rfl (lv_at hl 0 rfl) ?_
    refine va_get (D := (dC, dI)) (ci := 3) (v := .ref t0) (C := RX3) (T := TX3) (N := 12) hx hb hts hiX3 hown hK hP 0 rfl rfl 2 (by decide) (hts (.fieldLink RX3 22 "TripReckoner" "tape" "LTripReckoner$Tape;") (by decide +kernel)) (fun _ h9 => h9) rfl dX3_feed_37 ?_
    refine lv_iload hx hb dX3_feed_40 (lv_at hl 4 rfl) ?_
    have hPc := hP.sub (ws' := [cT0 t0 t1 g_8, cT1 cI t1 g_8]) [9, 10] rfl
    have hDc := hD.sub (ws' := [cT0 t0 t1 g_8, cT1 cI t1 g_8]) [9, 10] (by decide) rfl
    have hFc := va_free (wc := [cT0 t0 t1 g_8, cT1 cI t1 g_8]) hD hS hA [9, 10] rfl
    refine va_callv (va_runVN (As := [.int dd]) (rest := []) ⟨hx, hb, hml, hown, hts⟩ (kX2_push l dC dI cI cJ t0 t1 H.size dd g_8 (by rw [eg_8]; exact push_ge0 (by rw [eg_6]; exact push_ge0 (by rw [eg_4]; exact push_ge0 htp)))) ⟨va_cnB 1 hts gX3_feed_X2_push_n68 rfl rfl rfl (nw_m hN (.methodLinkNest RX3 68 yX2_push "TripReckoner") (by decide +kernel)) (hts (.initialized RX2) (by decide +kernel)) (by decide +kernel) ⟨Nat.le_of_ble_eq_true rfl, Nat.le_of_ble_eq_true rfl⟩, (hts (.instanceMethod yX2_push) (by decide +kernel)), (hts (.selects RX2 yX2_push yX2_push) (by decide +kernel))⟩ ⟨fun a U g mk q => by obtain ⟨q0, q1, qP, qK, qD⟩ := q; exact ⟨q0, q1, qP, va_K.moved (u := U) (U := U.calling g mk a) (Vm.Alike.refl U.vm) qK, qD⟩, va_recv hK hPc (ci := 2) (q0 := 0) rfl rfl, fun U hU hW => ⟨rfl, by rw [hU], by rw [hU]; exact hPc, va_K.moved hW.alike hK, hDc.weaken (fun _ _ _ _ => trivial)⟩⟩ rfl rfl hl.1 rfl (lv_room (Nat.le_of_ble_eq_true rfl)) dX3_feed_42 ⟨Nat.le_of_ble_eq_true rfl, Nat.le_of_ble_eq_true rfl⟩) hS (fun q _ h => hFc q h) hFc (fun _ t H1 locs ht hvm hw hB hz1 hk1 hS => ?_)
    obtain ⟨hP1, hK1, hD1⟩ := hB
    rw [ht] at hP1
    obtain ⟨g_10, eg_10⟩ : ∃ z, z = sX2_push dd g_8 := ⟨_, rfl⟩
    rw [← eg_10] at hP1 hD1
    obtain ⟨hP, hD⟩ := va_join (wr := [cX0 h0 n0 k0 t0 p0 x, cL0 n0 n1 n2 n3 g, cL1 cJ n1 g, cL2 cI n2 g, cL3 cI n3 g, cL0 k0 k1 k2 k3 k, cL1 cJ k1 k, cL2 cI k2 k, cL3 cI k3 k, cP0 p0 p1 p2 p3 p4 p5 pl, cP1 cI p1 pl, cP2 cI p2 pl, cP3 cI p3 pl, cP4 cI p4 pl, cP5 cI p5 pl]) (w1 := [cT0 t0 t1 g_10, cT1 cI t1 g_10]) hP hD [9, 10] [0, 1, 2, 3, 4, 5, 6, 7, 8, 11, 12, 13, 14, 15, 16] rfl rfl (by decide) (by decide) hk1 hFc hP1 hD1
    generalize H1 = H at hP hS ⊢
    have hP := hP.sub (ws' := [cX0 h0 n0 k0 t0 p0 x, cL0 n0 n1 n2 n3 g, cL1 cJ n1 g, cL2 cI n2 g, cL3 cI n3 g, cL0 k0 k1 k2 k3 k, cL1 cJ k1 k, cL2 cI k2 k, cL3 cI k3 k, cT0 t0 t1 g_10, cT1 cI t1 g_10, cP0 p0 p1 p2 p3 p4 p5 pl, cP1 cI p1 pl, cP2 cI p2 pl, cP3 cI p3 pl, cP4 cI p4 pl, cP5 cI p5 pl]) [0, 1, 2, 3, 4, 5, 6, 7, 8, 15, 16, 9, 10, 11, 12, 13, 14] rfl
    have hD := hD.sub (ws' := [cX0 h0 n0 k0 t0 p0 x, cL0 n0 n1 n2 n3 g, cL1 cJ n1 g, cL2 cI n2 g, cL3 cI n3 g, cL0 k0 k1 k2 k3 k, cL1 cJ k1 k, cL2 cI k2 k, cL3 cI k3 k, cT0 t0 t1 g_10, cT1 cI t1 g_10, cP0 p0 p1 p2 p3 p4 p5 pl, cP1 cI p1 pl, cP2 cI p2 pl, cP3 cI p3 pl, cP4 cI p4 pl, cP5 cI p5 pl]) [0, 1, 2, 3, 4, 5, 6, 7, 8, 15, 16, 9, 10, 11, 12, 13, 14] (by decide) rfl
    refine lv_aload_n hx hb dX3_feed_45 rfl (lv_at hl 0 rfl) ?_
    refine va_get (D := (dC, dI)) (ci := 3) (v := .ref t0) (C := RX3) (T := TX3) (N := 12) hx hb hts hiX3 hown hK hP 0 rfl rfl 2 (by decide) (hts (.fieldLink RX3 22 "TripReckoner" "tape" "LTripReckoner$Tape;") (by decide +kernel)) (fun _ h9 => h9) rfl dX3_feed_46 ?_
    refine lv_iload hx hb dX3_feed_49 (lv_at hl 5 rfl) ?_
    have hPc := hP.sub (ws' := [cT0 t0 t1 g_10, cT1 cI t1 g_10]) [9, 10] rfl
    have hDc := hD.sub (ws' := [cT0 t0 t1 g_10, cT1 cI t1 g_10]) [9, 10] (by decide) rfl
    have hFc := va_free (wc := [cT0 t0 t1 g_10, cT1 cI t1 g_10]) hD hS hA [9, 10] rfl
    refine va_callv (va_runVN (As := [.int ee]) (rest := []) ⟨hx, hb, hml, hown, hts⟩ (kX2_push l dC dI cI cJ t0 t1 H.size ee g_10 (by rw [eg_10]; exact push_ge0 (by rw [eg_8]; exact push_ge0 (by rw [eg_6]; exact push_ge0 (by rw [eg_4]; exact push_ge0 htp))))) ⟨va_cnB 1 hts gX3_feed_X2_push_n68 rfl rfl rfl (nw_m hN (.methodLinkNest RX3 68 yX2_push "TripReckoner") (by decide +kernel)) (hts (.initialized RX2) (by decide +kernel)) (by decide +kernel) ⟨Nat.le_of_ble_eq_true rfl, Nat.le_of_ble_eq_true rfl⟩, (hts (.instanceMethod yX2_push) (by decide +kernel)), (hts (.selects RX2 yX2_push yX2_push) (by decide +kernel))⟩ ⟨fun a U g mk q => by obtain ⟨q0, q1, qP, qK, qD⟩ := q; exact ⟨q0, q1, qP, va_K.moved (u := U) (U := U.calling g mk a) (Vm.Alike.refl U.vm) qK, qD⟩, va_recv hK hPc (ci := 2) (q0 := 0) rfl rfl, fun U hU hW => ⟨rfl, by rw [hU], by rw [hU]; exact hPc, va_K.moved hW.alike hK, hDc.weaken (fun _ _ _ _ => trivial)⟩⟩ rfl rfl hl.1 rfl (lv_room (Nat.le_of_ble_eq_true rfl)) dX3_feed_51 ⟨Nat.le_of_ble_eq_true rfl, Nat.le_of_ble_eq_true rfl⟩) hS (fun q _ h => hFc q h) hFc (fun _ t H1 locs ht hvm hw hB hz1 hk1 hS => ?_)
    obtain ⟨hP1, hK1, hD1⟩ := hB
    rw [ht] at hP1
    obtain ⟨g_12, eg_12⟩ : ∃ z, z = sX2_push ee g_10 := ⟨_, rfl⟩
    rw [← eg_12] at hP1 hD1
    obtain ⟨hP, hD⟩ := va_join (wr := [cX0 h0 n0 k0 t0 p0 x, cL0 n0 n1 n2 n3 g, cL1 cJ n1 g, cL2 cI n2 g, cL3 cI n3 g, cL0 k0 k1 k2 k3 k, cL1 cJ k1 k, cL2 cI k2 k, cL3 cI k3 k, cP0 p0 p1 p2 p3 p4 p5 pl, cP1 cI p1 pl, cP2 cI p2 pl, cP3 cI p3 pl, cP4 cI p4 pl, cP5 cI p5 pl]) (w1 := [cT0 t0 t1 g_12, cT1 cI t1 g_12]) hP hD [9, 10] [0, 1, 2, 3, 4, 5, 6, 7, 8, 11, 12, 13, 14, 15, 16] rfl rfl (by decide) (by decide) hk1 hFc hP1 hD1
    generalize H1 = H at hP hS ⊢
    have hP := hP.sub (ws' := [cX0 h0 n0 k0 t0 p0 x, cL0 n0 n1 n2 n3 g, cL1 cJ n1 g, cL2 cI n2 g, cL3 cI n3 g, cL0 k0 k1 k2 k3 k, cL1 cJ k1 k, cL2 cI k2 k, cL3 cI k3 k, cT0 t0 t1 g_12, cT1 cI t1 g_12, cP0 p0 p1 p2 p3 p4 p5 pl, cP1 cI p1 pl, cP2 cI p2 pl, cP3 cI p3 pl, cP4 cI p4 pl, cP5 cI p5 pl]) [0, 1, 2, 3, 4, 5, 6, 7, 8, 15, 16, 9, 10, 11, 12, 13, 14] rfl
    have hD := hD.sub (ws' := [cX0 h0 n0 k0 t0 p0 x, cL0 n0 n1 n2 n3 g, cL1 cJ n1 g, cL2 cI n2 g, cL3 cI n3 g, cL0 k0 k1 k2 k3 k, cL1 cJ k1 k, cL2 cI k2 k, cL3 cI k3 k, cT0 t0 t1 g_12, cT1 cI t1 g_12, cP0 p0 p1 p2 p3 p4 p5 pl, cP1 cI p1 pl, cP2 cI p2 pl, cP3 cI p3 pl, cP4 cI p4 pl, cP5 cI p5 pl]) [0, 1, 2, 3, 4, 5, 6, 7, 8, 15, 16, 9, 10, 11, 12, 13, 14] (by decide) rfl
    refine lv_aload_n hx hb dX3_feed_54 rfl (lv_at hl 0 rfl) ?_
    refine va_get (D := (dC, dI)) (ci := 3) (v := .ref t0) (C := RX3) (T := TX3) (N := 12) hx hb hts hiX3 hown hK hP 0 rfl rfl 2 (by decide) (hts (.fieldLink RX3 22 "TripReckoner" "tape" "LTripReckoner$Tape;") (by decide +kernel)) (fun _ h9 => h9) rfl dX3_feed_55 ?_
    refine va_getN (D := (dC, dI)) (ci := 2) (v := .int g_12.2) (C := RX2) (T := TX2) (N := 2) hx hb hts hiX2 hown hK hP 9 rfl rfl 1 (by decide) (nw_f hN (.fieldLinkNest RX3 71 "TripReckoner$Tape" "size" "I" "TripReckoner") (by decide +kernel) rfl) (fun _ h9 => h9) rfl dX3_feed_58 ?_
    have es3 : sX3_feed a b cc dd ee x g k tp pl = g_12 := by rw [sX3_feed, if_neg c_2, ← eg_4, sX3_feed_g_4, ← eg_6, sX3_feed_g_6, ← eg_8, sX3_feed_g_8, ← eg_10, sX3_feed_g_10, ← eg_12, sX3_feed_g_12]
    have er : g_12.2 = rX3_feed a b cc dd ee x g k tp pl := by rw [rX3_feed, if_neg c_2, ← eg_4, rX3_feed_g_4, ← eg_6, rX3_feed_g_6, ← eg_8, rX3_feed_g_8, ← eg_10, rX3_feed_g_10, ← eg_12, rX3_feed_g_12]
    refine W.iret (v := g_12.2) hx hb hr (fun t ht hW => ⟨⟨g_12.2, (), rfl, er, ?_⟩, hS.F ht⟩) hS.2.2 dX3_feed_61
    rw [es3]; exact ⟨by rw [ht]; exact hP, va_K.moved hW.alike hK, hD⟩
  · refine lv_iconst (v := (-1)) hx hb dX3_feed_10 (by decide) ?_
    have es3 : sX3_feed a b cc dd ee x g k tp pl = tp := by rw [sX3_feed, if_pos c_2]
    have er : (-1) = rX3_feed a b cc dd ee x g k tp pl := by rw [rX3_feed, if_pos c_2]
    refine W.iret (v := (-1)) hx hb hr (fun t ht hW => ⟨⟨(-1), (), rfl, er, ?_⟩, hS.F ht⟩) hS.2.2 dX3_feed_11
    rw [es3]; exact ⟨by rw [ht]; exact hP, va_K.moved hW.alike hK, hD⟩

def sX3_end_g_2 (n : Int32) (x : XC) (g : LG) (k : LG) (tp : TP) (pl : PL) (g_2 : TP) : TP :=
  g_2
def sX3_end (n : Int32) (x : XC) (g : LG) (k : LG) (tp : TP) (pl : PL) : TP :=
  sX3_end_g_2 n x g k tp pl (sX2_shorten n tp)
def rX3_end_g_2 (n : Int32) (x : XC) (g : LG) (k : LG) (tp : TP) (pl : PL) (g_2 : TP) : Int32 :=
  rX2_shorten n tp
def rX3_end (n : Int32) (x : XC) (g : LG) (k : LG) (tp : TP) (pl : PL) : Int32 :=
  rX3_end_g_2 n x g k tp pl (sX2_shorten n tp)
set_option maxHeartbeats 4000000 in
set_option maxRecDepth 100000 in
theorem kX3_end (l : Launch) (dC : Nat → ClassId) (dI : Nat → Nat → Nat) (cI cJ : ClassId) (h0 n0 k0 t0 p0 n1 n2 n3 k1 k2 k3 t1 p1 p2 p3 p4 p5 : Nat) (sz : Nat) (n : Int32) (x : XC) (g : LG) (k : LG) (tp : TP) (pl : PL) : Met l yX3_end wsX3_end ({ frames := 1, cells := 0, slots := 0, locals := 21 }) (va_Pc [.ref h0, .int n] (fun U => U.heap.size = sz ∧ va_P (dC, dI) vwCl [cX0 h0 n0 k0 t0 p0 x, cL0 n0 n1 n2 n3 g, cL1 cJ n1 g, cL2 cI n2 g, cL3 cI n3 g, cL0 k0 k1 k2 k3 k, cL1 cJ k1 k, cL2 cI k2 k, cL3 cI k3 k, cT0 t0 t1 tp, cT1 cI t1 tp, cP0 p0 p1 p2 p3 p4 p5 pl, cP1 cI p1 pl, cP2 cI p2 pl, cP3 cI p3 pl, cP4 cI p4 pl, cP5 cI p5 pl] U.heap ∧ va_K (dC, dI) vwCl [(cI, .int), (cJ, .long)] U ∧ va_D (fun _ => True) [cX0 h0 n0 k0 t0 p0 x, cL0 n0 n1 n2 n3 g, cL1 cJ n1 g, cL2 cI n2 g, cL3 cI n3 g, cL0 k0 k1 k2 k3 k, cL1 cJ k1 k, cL2 cI k2 k, cL3 cI k3 k, cT0 t0 t1 tp, cT1 cI t1 tp, cP0 p0 p1 p2 p3 p4 p5 pl, cP1 cI p1 pl, cP2 cI p2 pl, cP3 cI p3 pl, cP4 cI p4 pl, cP5 cI p5 pl] ∧ nw U)) (va_Qi (fun (r : Int32) (_ : Unit) => r = rX3_end n x g k tp pl) (fun _ t => va_P (dC, dI) vwCl [cX0 h0 n0 k0 t0 p0 x, cL0 n0 n1 n2 n3 g, cL1 cJ n1 g, cL2 cI n2 g, cL3 cI n3 g, cL0 k0 k1 k2 k3 k, cL1 cJ k1 k, cL2 cI k2 k, cL3 cI k3 k, cT0 t0 t1 (sX3_end n x g k tp pl), cT1 cI t1 (sX3_end n x g k tp pl), cP0 p0 p1 p2 p3 p4 p5 pl, cP1 cI p1 pl, cP2 cI p2 pl, cP3 cI p3 pl, cP4 cI p4 pl, cP5 cI p5 pl] t.heap ∧ va_K (dC, dI) vwCl [(cI, .int), (cJ, .long)] t ∧ va_D (va_A [cX0 h0 n0 k0 t0 p0 x, cL0 n0 n1 n2 n3 g, cL1 cJ n1 g, cL2 cI n2 g, cL3 cI n3 g, cL0 k0 k1 k2 k3 k, cL1 cJ k1 k, cL2 cI k2 k, cL3 cI k3 k, cT0 t0 t1 tp, cT1 cI t1 tp, cP0 p0 p1 p2 p3 p4 p5 pl, cP1 cI p1 pl, cP2 cI p2 pl, cP3 cI p3 pl, cP4 cI p4 pl, cP5 cI p5 pl] sz) [cX0 h0 n0 k0 t0 p0 x, cL0 n0 n1 n2 n3 g, cL1 cJ n1 g, cL2 cI n2 g, cL3 cI n3 g, cL0 k0 k1 k2 k3 k, cL1 cJ k1 k, cL2 cI k2 k, cL3 cI k3 k, cT0 t0 t1 (sX3_end n x g k tp pl), cT1 cI t1 (sX3_end n x g k tp pl), cP0 p0 p1 p2 p3 p4 p5 pl, cP1 cI p1 pl, cP2 cI p2 pl, cP3 cI p3 pl, cP4 cI p4 pl, cP5 cI p5 pl]) (va_A [cX0 h0 n0 k0 t0 p0 x, cL0 n0 n1 n2 n3 g, cL1 cJ n1 g, cL2 cI n2 g, cL3 cI n3 g, cL0 k0 k1 k2 k3 k, cL1 cJ k1 k, cL2 cI k2 k, cL3 cI k3 k, cT0 t0 t1 tp, cT1 cI t1 tp, cP0 p0 p1 p2 p3 p4 p5 pl, cP1 cI p1 pl, cP2 cI p2 pl, cP3 cI p3 pl, cP4 cI p4 pl, cP5 cI p5 pl] sz)) 0 0 (va_A [cX0 h0 n0 k0 t0 p0 x, cL0 n0 n1 n2 n3 g, cL1 cJ n1 g, cL2 cI n2 g, cL3 cI n3 g, cL0 k0 k1 k2 k3 k, cL1 cJ k1 k, cL2 cI k2 k, cL3 cI k3 k, cT0 t0 t1 tp, cT1 cI t1 tp, cP0 p0 p1 p2 p3 p4 p5 pl, cP1 cI p1 pl, cP2 cI p2 pl, cP3 cI p3 pl, cP4 cI p4 pl, cP5 cI p5 pl] sz) := by
  refine Met.ofW (cc := cX3_end) (maxL := 2) (ret := (some .boolean)) (by decide) rfl ?_
  intro p e s m args below meth c s₁ B hml hv
  obtain ⟨rfl, hsz, hP, hK, hD0, hN⟩ := hv
  have hx := B.exec
  have hb := B.bytes
  have hr := B.returns
  have hts := atoms_spec (ws := wsX3_end) B.pre
  have hown : s.vm.findClass RX3 = some m.cls := findClass_of_methodNamed B.named
  have hlocks := B.notSynchronized
  have hiX3 : ∀ w ∈ u_ws RX3 TX3 12, w ∈ wsX3_end := by decide +kernel
  subst hsz
  have hD := hD0.self (sz := s.heap.size)
  generalize hAe : va_A [cX0 h0 n0 k0 t0 p0 x, cL0 n0 n1 n2 n3 g, cL1 cJ n1 g, cL2 cI n2 g, cL3 cI n3 g, cL0 k0 k1 k2 k3 k, cL1 cJ k1 k, cL2 cI k2 k, cL3 cI k3 k, cT0 t0 t1 tp, cT1 cI t1 tp, cP0 p0 p1 p2 p3 p4 p5 pl, cP1 cI p1 pl, cP2 cI p2 pl, cP3 cI p3 pl, cP4 cI p4 pl, cP5 cI p5 pl] s.heap.size = A at hD ⊢
  have hA : ∀ q : Nat, s.heap.size ≤ q → A q := fun q h => by rw [← hAe]; exact Or.inr h
  have hS : va_S A s.heap s.heap [] := va_S.rf
  have hl := lv_entry ([.ref h0, .int n]) (n := 2) (Nat.le_of_ble_eq_true rfl)
  rw [lg_entry_eq]
  generalize (lg_sl ([.ref h0, .int n]) ++ List.replicate (2 - (lg_sl ([.ref h0, .int n])).length) Slot.unset).toArray = ls at hl ⊢
  have hl : lv_has ls 2 [(0, .ref h0), (1, .int n)] := hl
  have hP : va_P (dC, dI) vwCl [cX0 h0 n0 k0 t0 p0 x, cL0 n0 n1 n2 n3 g, cL1 cJ n1 g, cL2 cI n2 g, cL3 cI n3 g, cL0 k0 k1 k2 k3 k, cL1 cJ k1 k, cL2 cI k2 k, cL3 cI k3 k, cT0 t0 t1 tp, cT1 cI t1 tp, cP0 p0 p1 p2 p3 p4 p5 pl, cP1 cI p1 pl, cP2 cI p2 pl, cP3 cI p3 pl, cP4 cI p4 pl, cP5 cI p5 pl] s.heap := hP
  refine lv_aload_n hx hb dX3_end_0 rfl (lv_at hl 0 rfl) ?_
  refine va_get (D := (dC, dI)) (ci := 3) (v := .ref t0) (C := RX3) (T := TX3) (N := 12) hx hb hts hiX3 hown hK hP 0 rfl rfl 2 (by decide) (hts (.fieldLink RX3 22 "TripReckoner" "tape" "LTripReckoner$Tape;") (by decide +kernel)) (fun _ h9 => h9) rfl dX3_end_1 ?_
  refine lv_iload_n hx hb dX3_end_4 rfl (lv_at hl 1 rfl) ?_
  have hPc := hP.sub (ws' := [cT0 t0 t1 tp, cT1 cI t1 tp]) [9, 10] rfl
  have hDc := hD.sub (ws' := [cT0 t0 t1 tp, cT1 cI t1 tp]) [9, 10] (by decide) rfl
  have hFc := va_free (wc := [cT0 t0 t1 tp, cT1 cI t1 tp]) hD hS hA [9, 10] rfl
  refine va_calli (va_runVN (As := [.int n]) (rest := []) ⟨hx, hb, hml, hown, hts⟩ (kX2_shorten l dC dI cI cJ t0 t1 s.heap.size n tp) ⟨va_cnB 1 hts gX3_end_X2_shorten_n74 rfl rfl rfl (nw_m hN (.methodLinkNest RX3 74 yX2_shorten "TripReckoner") (by decide +kernel)) (hts (.initialized RX2) (by decide +kernel)) (by decide +kernel) ⟨Nat.le_of_ble_eq_true rfl, Nat.le_of_ble_eq_true rfl⟩, (hts (.instanceMethod yX2_shorten) (by decide +kernel)), (hts (.selects RX2 yX2_shorten yX2_shorten) (by decide +kernel))⟩ ⟨fun a U g mk q => by obtain ⟨q0, q1, qP, qK, qD⟩ := q; exact ⟨q0, q1, qP, va_K.moved (u := U) (U := U.calling g mk a) (Vm.Alike.refl U.vm) qK, qD⟩, va_recv hK hPc (ci := 2) (q0 := 0) rfl rfl, fun U hU hW => ⟨rfl, by rw [hU], by rw [hU]; exact hPc, va_K.moved hW.alike hK, hDc.weaken (fun _ _ _ _ => trivial)⟩⟩ rfl rfl hl.1 rfl (lv_room (Nat.le_of_ble_eq_true rfl)) dX3_end_5 ⟨Nat.le_of_ble_eq_true rfl, Nat.le_of_ble_eq_true rfl⟩) hS (fun q _ h => hFc q h) hFc (fun r_1 _ t H1 locs ht hvm hw hB hz1 hk1 hS => ?_)
  obtain ⟨hP1, hK1, hD1⟩ := hB
  rw [ht] at hP1
  obtain ⟨g_2, eg_2⟩ : ∃ z, z = sX2_shorten n tp := ⟨_, rfl⟩
  rw [← eg_2] at hP1 hD1
  obtain ⟨hP, hD⟩ := va_join (wr := [cX0 h0 n0 k0 t0 p0 x, cL0 n0 n1 n2 n3 g, cL1 cJ n1 g, cL2 cI n2 g, cL3 cI n3 g, cL0 k0 k1 k2 k3 k, cL1 cJ k1 k, cL2 cI k2 k, cL3 cI k3 k, cP0 p0 p1 p2 p3 p4 p5 pl, cP1 cI p1 pl, cP2 cI p2 pl, cP3 cI p3 pl, cP4 cI p4 pl, cP5 cI p5 pl]) (w1 := [cT0 t0 t1 g_2, cT1 cI t1 g_2]) hP hD [9, 10] [0, 1, 2, 3, 4, 5, 6, 7, 8, 11, 12, 13, 14, 15, 16] rfl rfl (by decide) (by decide) hk1 hFc hP1 hD1
  generalize H1 = H at hP hS ⊢
  have hP := hP.sub (ws' := [cX0 h0 n0 k0 t0 p0 x, cL0 n0 n1 n2 n3 g, cL1 cJ n1 g, cL2 cI n2 g, cL3 cI n3 g, cL0 k0 k1 k2 k3 k, cL1 cJ k1 k, cL2 cI k2 k, cL3 cI k3 k, cT0 t0 t1 g_2, cT1 cI t1 g_2, cP0 p0 p1 p2 p3 p4 p5 pl, cP1 cI p1 pl, cP2 cI p2 pl, cP3 cI p3 pl, cP4 cI p4 pl, cP5 cI p5 pl]) [0, 1, 2, 3, 4, 5, 6, 7, 8, 15, 16, 9, 10, 11, 12, 13, 14] rfl
  have hD := hD.sub (ws' := [cX0 h0 n0 k0 t0 p0 x, cL0 n0 n1 n2 n3 g, cL1 cJ n1 g, cL2 cI n2 g, cL3 cI n3 g, cL0 k0 k1 k2 k3 k, cL1 cJ k1 k, cL2 cI k2 k, cL3 cI k3 k, cT0 t0 t1 g_2, cT1 cI t1 g_2, cP0 p0 p1 p2 p3 p4 p5 pl, cP1 cI p1 pl, cP2 cI p2 pl, cP3 cI p3 pl, cP4 cI p4 pl, cP5 cI p5 pl]) [0, 1, 2, 3, 4, 5, 6, 7, 8, 15, 16, 9, 10, 11, 12, 13, 14] (by decide) rfl
  subst hw
  have es3 : sX3_end n x g k tp pl = g_2 := by rw [sX3_end, ← eg_2, sX3_end_g_2]
  have er : rX2_shorten n tp = rX3_end n x g k tp pl := by rw [rX3_end, ← eg_2, rX3_end_g_2]
  refine W.zret (ty := .boolean) (v := rX2_shorten n tp) hx hb hr (by unfold rX2_shorten; (repeat' split) <;> rfl) (fun t ht hW => ⟨⟨rX2_shorten n tp, (), rfl, er, ?_⟩, hS.F ht⟩) hS.2.2 dX3_end_8
  rw [es3]; exact ⟨by rw [ht]; exact hP, va_K.moved hW.alike hK, hD⟩

def sX3_car_x_g_10 (cap : Int32) (me : Int32) (sl : Int32) (x : XC) (g : LG) (k : LG) (tp : TP) (pl : PL) (g_8 : LG) (g_10 : LG) : XC :=
  (cap, me, sl, x.2.2.2.1, x.2.2.2.2.1, x.2.2.2.2.2.1, x.2.2.2.2.2.2.1, 0)
def sX3_car_x_g_8 (cap : Int32) (me : Int32) (sl : Int32) (x : XC) (g : LG) (k : LG) (tp : TP) (pl : PL) (g_8 : LG) : XC :=
  sX3_car_x_g_10 cap me sl x g k tp pl g_8 (sX0_begin cap k)
def sX3_car_x (cap : Int32) (me : Int32) (sl : Int32) (x : XC) (g : LG) (k : LG) (tp : TP) (pl : PL) : XC :=
  if (rX3_within cap 1000 120000) = 0 then
    x
  else
    if (rX3_within me 1 1000) = 0 then
      x
    else
      if (rX3_within sl 0 60) = 0 then
        x
      else
        sX3_car_x_g_8 cap me sl x g k tp pl (sX0_begin cap g)
def sX3_car_g_g_10 (cap : Int32) (me : Int32) (sl : Int32) (x : XC) (g : LG) (k : LG) (tp : TP) (pl : PL) (g_8 : LG) (g_10 : LG) : LG :=
  g_8
def sX3_car_g_g_8 (cap : Int32) (me : Int32) (sl : Int32) (x : XC) (g : LG) (k : LG) (tp : TP) (pl : PL) (g_8 : LG) : LG :=
  sX3_car_g_g_10 cap me sl x g k tp pl g_8 (sX0_begin cap k)
def sX3_car_g (cap : Int32) (me : Int32) (sl : Int32) (x : XC) (g : LG) (k : LG) (tp : TP) (pl : PL) : LG :=
  if (rX3_within cap 1000 120000) = 0 then
    g
  else
    if (rX3_within me 1 1000) = 0 then
      g
    else
      if (rX3_within sl 0 60) = 0 then
        g
      else
        sX3_car_g_g_8 cap me sl x g k tp pl (sX0_begin cap g)
def sX3_car_k_g_10 (cap : Int32) (me : Int32) (sl : Int32) (x : XC) (g : LG) (k : LG) (tp : TP) (pl : PL) (g_8 : LG) (g_10 : LG) : LG :=
  g_10
def sX3_car_k_g_8 (cap : Int32) (me : Int32) (sl : Int32) (x : XC) (g : LG) (k : LG) (tp : TP) (pl : PL) (g_8 : LG) : LG :=
  sX3_car_k_g_10 cap me sl x g k tp pl g_8 (sX0_begin cap k)
def sX3_car_k (cap : Int32) (me : Int32) (sl : Int32) (x : XC) (g : LG) (k : LG) (tp : TP) (pl : PL) : LG :=
  if (rX3_within cap 1000 120000) = 0 then
    k
  else
    if (rX3_within me 1 1000) = 0 then
      k
    else
      if (rX3_within sl 0 60) = 0 then
        k
      else
        sX3_car_k_g_8 cap me sl x g k tp pl (sX0_begin cap g)
def rX3_car_g_10 (cap : Int32) (me : Int32) (sl : Int32) (x : XC) (g : LG) (k : LG) (tp : TP) (pl : PL) (g_8 : LG) (g_10 : LG) : Int32 :=
  1
def rX3_car_g_8 (cap : Int32) (me : Int32) (sl : Int32) (x : XC) (g : LG) (k : LG) (tp : TP) (pl : PL) (g_8 : LG) : Int32 :=
  rX3_car_g_10 cap me sl x g k tp pl g_8 (sX0_begin cap k)
def rX3_car (cap : Int32) (me : Int32) (sl : Int32) (x : XC) (g : LG) (k : LG) (tp : TP) (pl : PL) : Int32 :=
  if (rX3_within cap 1000 120000) = 0 then
    0
  else
    if (rX3_within me 1 1000) = 0 then
      0
    else
      if (rX3_within sl 0 60) = 0 then
        0
      else
        rX3_car_g_8 cap me sl x g k tp pl (sX0_begin cap g)
set_option maxHeartbeats 4000000 in
set_option maxRecDepth 100000 in
theorem kX3_car (l : Launch) (dC : Nat → ClassId) (dI : Nat → Nat → Nat) (cI cJ : ClassId) (h0 n0 k0 t0 p0 n1 n2 n3 k1 k2 k3 t1 p1 p2 p3 p4 p5 : Nat) (sz : Nat) (cap : Int32) (me : Int32) (sl : Int32) (x : XC) (g : LG) (k : LG) (tp : TP) (pl : PL) : Met l yX3_car wsX3_car ({ frames := 2, cells := 0, slots := 0, locals := 44 }) (va_Pc [.ref h0, .int cap, .int me, .int sl] (fun U => U.heap.size = sz ∧ va_P (dC, dI) vwCl [cX0 h0 n0 k0 t0 p0 x, cL0 n0 n1 n2 n3 g, cL1 cJ n1 g, cL2 cI n2 g, cL3 cI n3 g, cL0 k0 k1 k2 k3 k, cL1 cJ k1 k, cL2 cI k2 k, cL3 cI k3 k, cT0 t0 t1 tp, cT1 cI t1 tp, cP0 p0 p1 p2 p3 p4 p5 pl, cP1 cI p1 pl, cP2 cI p2 pl, cP3 cI p3 pl, cP4 cI p4 pl, cP5 cI p5 pl] U.heap ∧ va_K (dC, dI) vwCl [(cI, .int), (cJ, .long)] U ∧ va_D (fun _ => True) [cX0 h0 n0 k0 t0 p0 x, cL0 n0 n1 n2 n3 g, cL1 cJ n1 g, cL2 cI n2 g, cL3 cI n3 g, cL0 k0 k1 k2 k3 k, cL1 cJ k1 k, cL2 cI k2 k, cL3 cI k3 k, cT0 t0 t1 tp, cT1 cI t1 tp, cP0 p0 p1 p2 p3 p4 p5 pl, cP1 cI p1 pl, cP2 cI p2 pl, cP3 cI p3 pl, cP4 cI p4 pl, cP5 cI p5 pl] ∧ nw U)) (va_Qi (fun (r : Int32) (_ : Unit) => r = rX3_car cap me sl x g k tp pl) (fun _ t => va_P (dC, dI) vwCl [cX0 h0 n0 k0 t0 p0 (sX3_car_x cap me sl x g k tp pl), cL0 n0 n1 n2 n3 (sX3_car_g cap me sl x g k tp pl), cL1 cJ n1 (sX3_car_g cap me sl x g k tp pl), cL2 cI n2 (sX3_car_g cap me sl x g k tp pl), cL3 cI n3 (sX3_car_g cap me sl x g k tp pl), cL0 k0 k1 k2 k3 (sX3_car_k cap me sl x g k tp pl), cL1 cJ k1 (sX3_car_k cap me sl x g k tp pl), cL2 cI k2 (sX3_car_k cap me sl x g k tp pl), cL3 cI k3 (sX3_car_k cap me sl x g k tp pl), cT0 t0 t1 tp, cT1 cI t1 tp, cP0 p0 p1 p2 p3 p4 p5 pl, cP1 cI p1 pl, cP2 cI p2 pl, cP3 cI p3 pl, cP4 cI p4 pl, cP5 cI p5 pl] t.heap ∧ va_K (dC, dI) vwCl [(cI, .int), (cJ, .long)] t ∧ va_D (va_A [cX0 h0 n0 k0 t0 p0 x, cL0 n0 n1 n2 n3 g, cL1 cJ n1 g, cL2 cI n2 g, cL3 cI n3 g, cL0 k0 k1 k2 k3 k, cL1 cJ k1 k, cL2 cI k2 k, cL3 cI k3 k, cT0 t0 t1 tp, cT1 cI t1 tp, cP0 p0 p1 p2 p3 p4 p5 pl, cP1 cI p1 pl, cP2 cI p2 pl, cP3 cI p3 pl, cP4 cI p4 pl, cP5 cI p5 pl] sz) [cX0 h0 n0 k0 t0 p0 (sX3_car_x cap me sl x g k tp pl), cL0 n0 n1 n2 n3 (sX3_car_g cap me sl x g k tp pl), cL1 cJ n1 (sX3_car_g cap me sl x g k tp pl), cL2 cI n2 (sX3_car_g cap me sl x g k tp pl), cL3 cI n3 (sX3_car_g cap me sl x g k tp pl), cL0 k0 k1 k2 k3 (sX3_car_k cap me sl x g k tp pl), cL1 cJ k1 (sX3_car_k cap me sl x g k tp pl), cL2 cI k2 (sX3_car_k cap me sl x g k tp pl), cL3 cI k3 (sX3_car_k cap me sl x g k tp pl), cT0 t0 t1 tp, cT1 cI t1 tp, cP0 p0 p1 p2 p3 p4 p5 pl, cP1 cI p1 pl, cP2 cI p2 pl, cP3 cI p3 pl, cP4 cI p4 pl, cP5 cI p5 pl]) (va_A [cX0 h0 n0 k0 t0 p0 x, cL0 n0 n1 n2 n3 g, cL1 cJ n1 g, cL2 cI n2 g, cL3 cI n3 g, cL0 k0 k1 k2 k3 k, cL1 cJ k1 k, cL2 cI k2 k, cL3 cI k3 k, cT0 t0 t1 tp, cT1 cI t1 tp, cP0 p0 p1 p2 p3 p4 p5 pl, cP1 cI p1 pl, cP2 cI p2 pl, cP3 cI p3 pl, cP4 cI p4 pl, cP5 cI p5 pl] sz)) 0 0 (va_A [cX0 h0 n0 k0 t0 p0 x, cL0 n0 n1 n2 n3 g, cL1 cJ n1 g, cL2 cI n2 g, cL3 cI n3 g, cL0 k0 k1 k2 k3 k, cL1 cJ k1 k, cL2 cI k2 k, cL3 cI k3 k, cT0 t0 t1 tp, cT1 cI t1 tp, cP0 p0 p1 p2 p3 p4 p5 pl, cP1 cI p1 pl, cP2 cI p2 pl, cP3 cI p3 pl, cP4 cI p4 pl, cP5 cI p5 pl] sz) := by
  refine Met.ofW (cc := cX3_car) (maxL := 4) (ret := (some .boolean)) (by decide) rfl ?_
  intro p e s m args below meth c s₁ B hml hv
  obtain ⟨rfl, hsz, hP, hK, hD0, hN⟩ := hv
  have hx := B.exec
  have hb := B.bytes
  have hr := B.returns
  have hts := atoms_spec (ws := wsX3_car) B.pre
  have hown : s.vm.findClass RX3 = some m.cls := findClass_of_methodNamed B.named
  have hlocks := B.notSynchronized
  have hiX3 : ∀ w ∈ u_ws RX3 TX3 12, w ∈ wsX3_car := by decide +kernel
  subst hsz
  have hD := hD0.self (sz := s.heap.size)
  generalize hAe : va_A [cX0 h0 n0 k0 t0 p0 x, cL0 n0 n1 n2 n3 g, cL1 cJ n1 g, cL2 cI n2 g, cL3 cI n3 g, cL0 k0 k1 k2 k3 k, cL1 cJ k1 k, cL2 cI k2 k, cL3 cI k3 k, cT0 t0 t1 tp, cT1 cI t1 tp, cP0 p0 p1 p2 p3 p4 p5 pl, cP1 cI p1 pl, cP2 cI p2 pl, cP3 cI p3 pl, cP4 cI p4 pl, cP5 cI p5 pl] s.heap.size = A at hD ⊢
  have hA : ∀ q : Nat, s.heap.size ≤ q → A q := fun q h => by rw [← hAe]; exact Or.inr h
  have hS : va_S A s.heap s.heap [] := va_S.rf
  have hl := lv_entry ([.ref h0, .int cap, .int me, .int sl]) (n := 4) (Nat.le_of_ble_eq_true rfl)
  rw [lg_entry_eq]
  generalize (lg_sl ([.ref h0, .int cap, .int me, .int sl]) ++ List.replicate (4 - (lg_sl ([.ref h0, .int cap, .int me, .int sl])).length) Slot.unset).toArray = ls at hl ⊢
  have hl : lv_has ls 4 [(0, .ref h0), (1, .int cap), (2, .int me), (3, .int sl)] := hl
  have hP : va_P (dC, dI) vwCl [cX0 h0 n0 k0 t0 p0 x, cL0 n0 n1 n2 n3 g, cL1 cJ n1 g, cL2 cI n2 g, cL3 cI n3 g, cL0 k0 k1 k2 k3 k, cL1 cJ k1 k, cL2 cI k2 k, cL3 cI k3 k, cT0 t0 t1 tp, cT1 cI t1 tp, cP0 p0 p1 p2 p3 p4 p5 pl, cP1 cI p1 pl, cP2 cI p2 pl, cP3 cI p3 pl, cP4 cI p4 pl, cP5 cI p5 pl] s.heap := hP
  refine lv_iload_n hx hb dX3_car_0 rfl (lv_at hl 1 rfl) ?_
  refine lv_sipush (v := 1000) hx hb dX3_car_1 (by decide) ?_
  refine lv_ldc hx hb hown (hts (.constant RX3 78 (120000)) (by decide +kernel)) dX3_car_4 ?_
  have hPc := hP.sub (ws' := []) [] rfl
  have hDc := hD.sub (ws' := []) [] (by decide) rfl
  have hFc := va_free (wc := []) hD hS hA [] rfl
  refine va_calli (va_runS (As := [.int cap, .int 1000, .int 120000]) (rest := []) ⟨hx, hb, hml, hown, hts⟩ (kX3_within l dC dI cI cJ s.heap.size cap 1000 120000) (va_cwS 3 hts gX3_car_X3_within rfl rfl rfl (by decide +kernel) ⟨Nat.le_of_ble_eq_true rfl, Nat.le_of_ble_eq_true rfl⟩) ⟨fun a U g mk q => by obtain ⟨q0, q1, qP, qK, qD⟩ := q; exact ⟨q0, q1, qP, va_K.moved (u := U) (U := U.calling g mk a) (Vm.Alike.refl U.vm) qK, qD⟩, fun U hU hW => ⟨rfl, by rw [hU], by rw [hU]; exact hPc, va_K.moved hW.alike hK, hDc.weaken (fun _ _ _ _ => trivial)⟩⟩ rfl rfl hl.1 rfl (lv_room (Nat.le_of_ble_eq_true rfl)) dX3_car_6 ⟨Nat.le_of_ble_eq_true rfl, Nat.le_of_ble_eq_true rfl⟩) hS (fun q _ h => hFc q h) hFc (fun r_1 _ t H1 locs ht hvm hw hB hz1 hk1 hS => ?_)
  obtain ⟨hP1, hK1, hD1⟩ := hB
  rw [ht] at hP1
  obtain ⟨hP, hD⟩ := va_join (wr := [cX0 h0 n0 k0 t0 p0 x, cL0 n0 n1 n2 n3 g, cL1 cJ n1 g, cL2 cI n2 g, cL3 cI n3 g, cL0 k0 k1 k2 k3 k, cL1 cJ k1 k, cL2 cI k2 k, cL3 cI k3 k, cT0 t0 t1 tp, cT1 cI t1 tp, cP0 p0 p1 p2 p3 p4 p5 pl, cP1 cI p1 pl, cP2 cI p2 pl, cP3 cI p3 pl, cP4 cI p4 pl, cP5 cI p5 pl]) (w1 := []) hP hD [] [0, 1, 2, 3, 4, 5, 6, 7, 8, 9, 10, 11, 12, 13, 14, 15, 16] rfl rfl (by decide) (by decide) hk1 hFc hP1 hD1
  generalize H1 = H at hP hS ⊢
  have hP : va_P (dC, dI) vwCl [cX0 h0 n0 k0 t0 p0 x, cL0 n0 n1 n2 n3 g, cL1 cJ n1 g, cL2 cI n2 g, cL3 cI n3 g, cL0 k0 k1 k2 k3 k, cL1 cJ k1 k, cL2 cI k2 k, cL3 cI k3 k, cT0 t0 t1 tp, cT1 cI t1 tp, cP0 p0 p1 p2 p3 p4 p5 pl, cP1 cI p1 pl, cP2 cI p2 pl, cP3 cI p3 pl, cP4 cI p4 pl, cP5 cI p5 pl] H := hP
  have hD : va_D A [cX0 h0 n0 k0 t0 p0 x, cL0 n0 n1 n2 n3 g, cL1 cJ n1 g, cL2 cI n2 g, cL3 cI n3 g, cL0 k0 k1 k2 k3 k, cL1 cJ k1 k, cL2 cI k2 k, cL3 cI k3 k, cT0 t0 t1 tp, cT1 cI t1 tp, cP0 p0 p1 p2 p3 p4 p5 pl, cP1 cI p1 pl, cP2 cI p2 pl, cP3 cI p3 pl, cP4 cI p4 pl, cP5 cI p5 pl] := hD
  subst hw
  refine lv_if_eq (tgt := 33) hx hb dX3_car_9 (by decide) (fun c_2 => ?_) (fun c_2 => ?_)
  · refine lv_iconst (v := 0) hx hb dX3_car_33 (by decide) ?_
    have es0 : sX3_car_x cap me sl x g k tp pl = x := by rw [sX3_car_x, if_pos c_2]
    have es1 : sX3_car_g cap me sl x g k tp pl = g := by rw [sX3_car_g, if_pos c_2]
    have es2 : sX3_car_k cap me sl x g k tp pl = k := by rw [sX3_car_k, if_pos c_2]
    have er : 0 = rX3_car cap me sl x g k tp pl := by rw [rX3_car, if_pos c_2]
    refine W.zret (ty := .boolean) (v := 0) hx hb hr rfl (fun t ht hW => ⟨⟨0, (), rfl, er, ?_⟩, hS.F ht⟩) hS.2.2 dX3_car_34
    rw [es0]; rw [es1]; rw [es2]; exact ⟨by rw [ht]; exact hP, va_K.moved hW.alike hK, hD⟩
  · refine lv_iload_n hx hb dX3_car_12 rfl (lv_at hl 2 rfl) ?_
    refine lv_iconst (v := 1) hx hb dX3_car_13 (by decide) ?_
    refine lv_sipush (v := 1000) hx hb dX3_car_14 (by decide) ?_
    have hPc := hP.sub (ws' := []) [] rfl
    have hDc := hD.sub (ws' := []) [] (by decide) rfl
    have hFc := va_free (wc := []) hD hS hA [] rfl
    refine va_calli (va_runS (As := [.int me, .int 1, .int 1000]) (rest := []) ⟨hx, hb, hml, hown, hts⟩ (kX3_within l dC dI cI cJ H.size me 1 1000) (va_cwS 3 hts gX3_car_X3_within rfl rfl rfl (by decide +kernel) ⟨Nat.le_of_ble_eq_true rfl, Nat.le_of_ble_eq_true rfl⟩) ⟨fun a U g mk q => by obtain ⟨q0, q1, qP, qK, qD⟩ := q; exact ⟨q0, q1, qP, va_K.moved (u := U) (U := U.calling g mk a) (Vm.Alike.refl U.vm) qK, qD⟩, fun U hU hW => ⟨rfl, by rw [hU], by rw [hU]; exact hPc, va_K.moved hW.alike hK, hDc.weaken (fun _ _ _ _ => trivial)⟩⟩ rfl rfl hl.1 rfl (lv_room (Nat.le_of_ble_eq_true rfl)) dX3_car_17 ⟨Nat.le_of_ble_eq_true rfl, Nat.le_of_ble_eq_true rfl⟩) hS (fun q _ h => hFc q h) hFc (fun r_3 _ t H1 locs ht hvm hw hB hz1 hk1 hS => ?_)
    obtain ⟨hP1, hK1, hD1⟩ := hB
    rw [ht] at hP1
    obtain ⟨hP, hD⟩ := va_join (wr := [cX0 h0 n0 k0 t0 p0 x, cL0 n0 n1 n2 n3 g, cL1 cJ n1 g, cL2 cI n2 g, cL3 cI n3 g, cL0 k0 k1 k2 k3 k, cL1 cJ k1 k, cL2 cI k2 k, cL3 cI k3 k, cT0 t0 t1 tp, cT1 cI t1 tp, cP0 p0 p1 p2 p3 p4 p5 pl, cP1 cI p1 pl, cP2 cI p2 pl, cP3 cI p3 pl, cP4 cI p4 pl, cP5 cI p5 pl]) (w1 := []) hP hD [] [0, 1, 2, 3, 4, 5, 6, 7, 8, 9, 10, 11, 12, 13, 14, 15, 16] rfl rfl (by decide) (by decide) hk1 hFc hP1 hD1
    generalize H1 = H at hP hS ⊢
    have hP : va_P (dC, dI) vwCl [cX0 h0 n0 k0 t0 p0 x, cL0 n0 n1 n2 n3 g, cL1 cJ n1 g, cL2 cI n2 g, cL3 cI n3 g, cL0 k0 k1 k2 k3 k, cL1 cJ k1 k, cL2 cI k2 k, cL3 cI k3 k, cT0 t0 t1 tp, cT1 cI t1 tp, cP0 p0 p1 p2 p3 p4 p5 pl, cP1 cI p1 pl, cP2 cI p2 pl, cP3 cI p3 pl, cP4 cI p4 pl, cP5 cI p5 pl] H := hP
    have hD : va_D A [cX0 h0 n0 k0 t0 p0 x, cL0 n0 n1 n2 n3 g, cL1 cJ n1 g, cL2 cI n2 g, cL3 cI n3 g, cL0 k0 k1 k2 k3 k, cL1 cJ k1 k, cL2 cI k2 k, cL3 cI k3 k, cT0 t0 t1 tp, cT1 cI t1 tp, cP0 p0 p1 p2 p3 p4 p5 pl, cP1 cI p1 pl, cP2 cI p2 pl, cP3 cI p3 pl, cP4 cI p4 pl, cP5 cI p5 pl] := hD
    subst hw
    refine lv_if_eq (tgt := 33) hx hb dX3_car_20 (by decide) (fun c_4 => ?_) (fun c_4 => ?_)
    · refine lv_iconst (v := 0) hx hb dX3_car_33 (by decide) ?_
      have es0 : sX3_car_x cap me sl x g k tp pl = x := by rw [sX3_car_x, if_neg c_2, if_pos c_4]
      have es1 : sX3_car_g cap me sl x g k tp pl = g := by rw [sX3_car_g, if_neg c_2, if_pos c_4]
      have es2 : sX3_car_k cap me sl x g k tp pl = k := by rw [sX3_car_k, if_neg c_2, if_pos c_4]
      have er : 0 = rX3_car cap me sl x g k tp pl := by rw [rX3_car, if_neg c_2, if_pos c_4]
      refine W.zret (ty := .boolean) (v := 0) hx hb hr rfl (fun t ht hW => ⟨⟨0, (), rfl, er, ?_⟩, hS.F ht⟩) hS.2.2 dX3_car_34
      rw [es0]; rw [es1]; rw [es2]; exact ⟨by rw [ht]; exact hP, va_K.moved hW.alike hK, hD⟩
    · refine lv_iload_n hx hb dX3_car_23 rfl (lv_at hl 3 rfl) ?_
      refine lv_iconst (v := 0) hx hb dX3_car_24 (by decide) ?_
      refine lv_bipush (v := 60) hx hb dX3_car_25 (by decide) ?_
      have hPc := hP.sub (ws' := []) [] rfl
      have hDc := hD.sub (ws' := []) [] (by decide) rfl
      have hFc := va_free (wc := []) hD hS hA [] rfl
      refine va_calli (va_runS (As := [.int sl, .int 0, .int 60]) (rest := []) ⟨hx, hb, hml, hown, hts⟩ (kX3_within l dC dI cI cJ H.size sl 0 60) (va_cwS 3 hts gX3_car_X3_within rfl rfl rfl (by decide +kernel) ⟨Nat.le_of_ble_eq_true rfl, Nat.le_of_ble_eq_true rfl⟩) ⟨fun a U g mk q => by obtain ⟨q0, q1, qP, qK, qD⟩ := q; exact ⟨q0, q1, qP, va_K.moved (u := U) (U := U.calling g mk a) (Vm.Alike.refl U.vm) qK, qD⟩, fun U hU hW => ⟨rfl, by rw [hU], by rw [hU]; exact hPc, va_K.moved hW.alike hK, hDc.weaken (fun _ _ _ _ => trivial)⟩⟩ rfl rfl hl.1 rfl (lv_room (Nat.le_of_ble_eq_true rfl)) dX3_car_27 ⟨Nat.le_of_ble_eq_true rfl, Nat.le_of_ble_eq_true rfl⟩) hS (fun q _ h => hFc q h) hFc (fun r_5 _ t H1 locs ht hvm hw hB hz1 hk1 hS => ?_)
      obtain ⟨hP1, hK1, hD1⟩ := hB
      rw [ht] at hP1
      obtain ⟨hP, hD⟩ := va_join (wr := [cX0 h0 n0 k0 t0 p0 x, cL0 n0 n1 n2 n3 g, cL1 cJ n1 g, cL2 cI n2 g, cL3 cI n3 g, cL0 k0 k1 k2 k3 k, cL1 cJ k1 k, cL2 cI k2 k, cL3 cI k3 k, cT0 t0 t1 tp, cT1 cI t1 tp, cP0 p0 p1 p2 p3 p4 p5 pl, cP1 cI p1 pl, cP2 cI p2 pl, cP3 cI p3 pl, cP4 cI p4 pl, cP5 cI p5 pl]) (w1 := []) hP hD [] [0, 1, 2, 3, 4, 5, 6, 7, 8, 9, 10, 11, 12, 13, 14, 15, 16] rfl rfl (by decide) (by decide) hk1 hFc hP1 hD1
      generalize H1 = H at hP hS ⊢
      have hP : va_P (dC, dI) vwCl [cX0 h0 n0 k0 t0 p0 x, cL0 n0 n1 n2 n3 g, cL1 cJ n1 g, cL2 cI n2 g, cL3 cI n3 g, cL0 k0 k1 k2 k3 k, cL1 cJ k1 k, cL2 cI k2 k, cL3 cI k3 k, cT0 t0 t1 tp, cT1 cI t1 tp, cP0 p0 p1 p2 p3 p4 p5 pl, cP1 cI p1 pl, cP2 cI p2 pl, cP3 cI p3 pl, cP4 cI p4 pl, cP5 cI p5 pl] H := hP
      have hD : va_D A [cX0 h0 n0 k0 t0 p0 x, cL0 n0 n1 n2 n3 g, cL1 cJ n1 g, cL2 cI n2 g, cL3 cI n3 g, cL0 k0 k1 k2 k3 k, cL1 cJ k1 k, cL2 cI k2 k, cL3 cI k3 k, cT0 t0 t1 tp, cT1 cI t1 tp, cP0 p0 p1 p2 p3 p4 p5 pl, cP1 cI p1 pl, cP2 cI p2 pl, cP3 cI p3 pl, cP4 cI p4 pl, cP5 cI p5 pl] := hD
      subst hw
      refine lv_if_ne (tgt := 35) hx hb dX3_car_30 (by decide) (fun c_6 => ?_) (fun c_6 => ?_)
      · refine lv_aload_n hx hb dX3_car_35 rfl (lv_at hl 0 rfl) ?_
        refine lv_iload_n hx hb dX3_car_36 rfl (lv_at hl 1 rfl) ?_
        refine va_put (D := (dC, dI)) (ci := 3) (v := .int cap) (ty := .int) (C := RX3) (T := TX3) (N := 12) hx hb hts hiX3 tyX3 tyX3_ok nmX3 hown hK hP hD hS 0 rfl rfl 4 (by decide) (hts (.fieldLink RX3 34 "TripReckoner" "tankSize" "I") (by decide +kernel)) (fun _ h9 => h9) rfl (by decide +kernel) rfl rfl (Nat.le_of_ble_eq_true rfl) dX3_car_37 (fun H locs hP hD hS => ?_)
        have hP : va_P (dC, dI) vwCl [(h0, .inr (3, [.ref n0, .ref k0, .ref t0, .ref p0, .int cap, .int x.2.1, .int x.2.2.1, .int x.2.2.2.1, .int x.2.2.2.2.1, .int x.2.2.2.2.2.1, .int x.2.2.2.2.2.2.1, .long x.2.2.2.2.2.2.2])), cL0 n0 n1 n2 n3 g, cL1 cJ n1 g, cL2 cI n2 g, cL3 cI n3 g, cL0 k0 k1 k2 k3 k, cL1 cJ k1 k, cL2 cI k2 k, cL3 cI k3 k, cT0 t0 t1 tp, cT1 cI t1 tp, cP0 p0 p1 p2 p3 p4 p5 pl, cP1 cI p1 pl, cP2 cI p2 pl, cP3 cI p3 pl, cP4 cI p4 pl, cP5 cI p5 pl] H := hP
        have hD : va_D A [(h0, .inr (3, [.ref n0, .ref k0, .ref t0, .ref p0, .int cap, .int x.2.1, .int x.2.2.1, .int x.2.2.2.1, .int x.2.2.2.2.1, .int x.2.2.2.2.2.1, .int x.2.2.2.2.2.2.1, .long x.2.2.2.2.2.2.2])), cL0 n0 n1 n2 n3 g, cL1 cJ n1 g, cL2 cI n2 g, cL3 cI n3 g, cL0 k0 k1 k2 k3 k, cL1 cJ k1 k, cL2 cI k2 k, cL3 cI k3 k, cT0 t0 t1 tp, cT1 cI t1 tp, cP0 p0 p1 p2 p3 p4 p5 pl, cP1 cI p1 pl, cP2 cI p2 pl, cP3 cI p3 pl, cP4 cI p4 pl, cP5 cI p5 pl] := hD
        refine lv_aload_n hx hb dX3_car_40 rfl (lv_at hl 0 rfl) ?_
        refine lv_iload_n hx hb dX3_car_41 rfl (lv_at hl 2 rfl) ?_
        refine va_put (D := (dC, dI)) (ci := 3) (v := .int me) (ty := .int) (C := RX3) (T := TX3) (N := 12) hx hb hts hiX3 tyX3 tyX3_ok nmX3 hown hK hP hD hS 0 rfl rfl 5 (by decide) (hts (.fieldLink RX3 38 "TripReckoner" "metresPerHundred" "I") (by decide +kernel)) (fun _ h9 => h9) rfl (by decide +kernel) rfl rfl (Nat.le_of_ble_eq_true rfl) dX3_car_42 (fun H locs hP hD hS => ?_)
        have hP : va_P (dC, dI) vwCl [(h0, .inr (3, [.ref n0, .ref k0, .ref t0, .ref p0, .int cap, .int me, .int x.2.2.1, .int x.2.2.2.1, .int x.2.2.2.2.1, .int x.2.2.2.2.2.1, .int x.2.2.2.2.2.2.1, .long x.2.2.2.2.2.2.2])), cL0 n0 n1 n2 n3 g, cL1 cJ n1 g, cL2 cI n2 g, cL3 cI n3 g, cL0 k0 k1 k2 k3 k, cL1 cJ k1 k, cL2 cI k2 k, cL3 cI k3 k, cT0 t0 t1 tp, cT1 cI t1 tp, cP0 p0 p1 p2 p3 p4 p5 pl, cP1 cI p1 pl, cP2 cI p2 pl, cP3 cI p3 pl, cP4 cI p4 pl, cP5 cI p5 pl] H := hP
        have hD : va_D A [(h0, .inr (3, [.ref n0, .ref k0, .ref t0, .ref p0, .int cap, .int me, .int x.2.2.1, .int x.2.2.2.1, .int x.2.2.2.2.1, .int x.2.2.2.2.2.1, .int x.2.2.2.2.2.2.1, .long x.2.2.2.2.2.2.2])), cL0 n0 n1 n2 n3 g, cL1 cJ n1 g, cL2 cI n2 g, cL3 cI n3 g, cL0 k0 k1 k2 k3 k, cL1 cJ k1 k, cL2 cI k2 k, cL3 cI k3 k, cT0 t0 t1 tp, cT1 cI t1 tp, cP0 p0 p1 p2 p3 p4 p5 pl, cP1 cI p1 pl, cP2 cI p2 pl, cP3 cI p3 pl, cP4 cI p4 pl, cP5 cI p5 pl] := hD
        refine lv_aload_n hx hb dX3_car_45 rfl (lv_at hl 0 rfl) ?_
        refine lv_iload_n hx hb dX3_car_46 rfl (lv_at hl 3 rfl) ?_
        refine va_put (D := (dC, dI)) (ci := 3) (v := .int sl) (ty := .int) (C := RX3) (T := TX3) (N := 12) hx hb hts hiX3 tyX3 tyX3_ok nmX3 hown hK hP hD hS 0 rfl rfl 6 (by decide) (hts (.fieldLink RX3 41 "TripReckoner" "floatSlop" "I") (by decide +kernel)) (fun _ h9 => h9) rfl (by decide +kernel) rfl rfl (Nat.le_of_ble_eq_true rfl) dX3_car_47 (fun H locs hP hD hS => ?_)
        have hP : va_P (dC, dI) vwCl [(h0, .inr (3, [.ref n0, .ref k0, .ref t0, .ref p0, .int cap, .int me, .int sl, .int x.2.2.2.1, .int x.2.2.2.2.1, .int x.2.2.2.2.2.1, .int x.2.2.2.2.2.2.1, .long x.2.2.2.2.2.2.2])), cL0 n0 n1 n2 n3 g, cL1 cJ n1 g, cL2 cI n2 g, cL3 cI n3 g, cL0 k0 k1 k2 k3 k, cL1 cJ k1 k, cL2 cI k2 k, cL3 cI k3 k, cT0 t0 t1 tp, cT1 cI t1 tp, cP0 p0 p1 p2 p3 p4 p5 pl, cP1 cI p1 pl, cP2 cI p2 pl, cP3 cI p3 pl, cP4 cI p4 pl, cP5 cI p5 pl] H := hP
        have hD : va_D A [(h0, .inr (3, [.ref n0, .ref k0, .ref t0, .ref p0, .int cap, .int me, .int sl, .int x.2.2.2.1, .int x.2.2.2.2.1, .int x.2.2.2.2.2.1, .int x.2.2.2.2.2.2.1, .long x.2.2.2.2.2.2.2])), cL0 n0 n1 n2 n3 g, cL1 cJ n1 g, cL2 cI n2 g, cL3 cI n3 g, cL0 k0 k1 k2 k3 k, cL1 cJ k1 k, cL2 cI k2 k, cL3 cI k3 k, cT0 t0 t1 tp, cT1 cI t1 tp, cP0 p0 p1 p2 p3 p4 p5 pl, cP1 cI p1 pl, cP2 cI p2 pl, cP3 cI p3 pl, cP4 cI p4 pl, cP5 cI p5 pl] := hD
        refine lv_aload_n hx hb dX3_car_50 rfl (lv_at hl 0 rfl) ?_
        refine lv_lconst (v := 0) hx hb dX3_car_51 (by decide) ?_
        refine va_put (D := (dC, dI)) (ci := 3) (v := .long 0) (ty := .long) (C := RX3) (T := TX3) (N := 12) hx hb hts hiX3 tyX3 tyX3_ok nmX3 hown hK hP hD hS 0 rfl rfl 11 (by decide) (hts (.fieldLink RX3 56 "TripReckoner" "pulsesInAll" "J") (by decide +kernel)) (fun _ h9 => h9) rfl (by decide +kernel) rfl rfl (Nat.le_of_ble_eq_true rfl) dX3_car_52 (fun H locs hP hD hS => ?_)
        have hP : va_P (dC, dI) vwCl [(h0, .inr (3, [.ref n0, .ref k0, .ref t0, .ref p0, .int cap, .int me, .int sl, .int x.2.2.2.1, .int x.2.2.2.2.1, .int x.2.2.2.2.2.1, .int x.2.2.2.2.2.2.1, .long 0])), cL0 n0 n1 n2 n3 g, cL1 cJ n1 g, cL2 cI n2 g, cL3 cI n3 g, cL0 k0 k1 k2 k3 k, cL1 cJ k1 k, cL2 cI k2 k, cL3 cI k3 k, cT0 t0 t1 tp, cT1 cI t1 tp, cP0 p0 p1 p2 p3 p4 p5 pl, cP1 cI p1 pl, cP2 cI p2 pl, cP3 cI p3 pl, cP4 cI p4 pl, cP5 cI p5 pl] H := hP
        have hD : va_D A [(h0, .inr (3, [.ref n0, .ref k0, .ref t0, .ref p0, .int cap, .int me, .int sl, .int x.2.2.2.1, .int x.2.2.2.2.1, .int x.2.2.2.2.2.1, .int x.2.2.2.2.2.2.1, .long 0])), cL0 n0 n1 n2 n3 g, cL1 cJ n1 g, cL2 cI n2 g, cL3 cI n3 g, cL0 k0 k1 k2 k3 k, cL1 cJ k1 k, cL2 cI k2 k, cL3 cI k3 k, cT0 t0 t1 tp, cT1 cI t1 tp, cP0 p0 p1 p2 p3 p4 p5 pl, cP1 cI p1 pl, cP2 cI p2 pl, cP3 cI p3 pl, cP4 cI p4 pl, cP5 cI p5 pl] := hD
        refine lv_aload_n hx hb dX3_car_55 rfl (lv_at hl 0 rfl) ?_
        refine va_get (D := (dC, dI)) (ci := 3) (v := .ref n0) (C := RX3) (T := TX3) (N := 12) hx hb hts hiX3 hown hK hP 0 rfl rfl 0 (by decide) (hts (.fieldLink RX3 10 "TripReckoner" "now" "LTripReckoner$Ledger;") (by decide +kernel)) (fun _ h9 => h9) rfl dX3_car_56 ?_
        refine lv_iload_n hx hb dX3_car_59 rfl (lv_at hl 1 rfl) ?_
        have hPc := hP.sub (ws' := [cL0 n0 n1 n2 n3 g, cL1 cJ n1 g, cL2 cI n2 g, cL3 cI n3 g]) [1, 2, 3, 4] rfl
        have hDc := hD.sub (ws' := [cL0 n0 n1 n2 n3 g, cL1 cJ n1 g, cL2 cI n2 g, cL3 cI n3 g]) [1, 2, 3, 4] (by decide) rfl
        have hFc := va_free (wc := [cL0 n0 n1 n2 n3 g, cL1 cJ n1 g, cL2 cI n2 g, cL3 cI n3 g]) hD hS hA [1, 2, 3, 4] rfl
        refine va_callv (va_runVN (As := [.int cap]) (rest := []) ⟨hx, hb, hml, hown, hts⟩ (kX0_begin l dC dI cI cJ n0 n1 n2 n3 H.size cap g) ⟨va_cnB 1 hts gX3_car_X0_begin_n60 rfl rfl rfl (nw_m hN (.methodLinkNest RX3 60 yX0_begin "TripReckoner") (by decide +kernel)) (hts (.initialized RX0) (by decide +kernel)) (by decide +kernel) ⟨Nat.le_of_ble_eq_true rfl, Nat.le_of_ble_eq_true rfl⟩, (hts (.instanceMethod yX0_begin) (by decide +kernel)), (hts (.selects RX0 yX0_begin yX0_begin) (by decide +kernel))⟩ ⟨fun a U g mk q => by obtain ⟨q0, q1, qP, qK, qD⟩ := q; exact ⟨q0, q1, qP, va_K.moved (u := U) (U := U.calling g mk a) (Vm.Alike.refl U.vm) qK, qD⟩, va_recv hK hPc (ci := 0) (q0 := 0) rfl rfl, fun U hU hW => ⟨rfl, by rw [hU], by rw [hU]; exact hPc, va_K.moved hW.alike hK, hDc.weaken (fun _ _ _ _ => trivial)⟩⟩ rfl rfl hl.1 rfl (lv_room (Nat.le_of_ble_eq_true rfl)) dX3_car_60 ⟨Nat.le_of_ble_eq_true rfl, Nat.le_of_ble_eq_true rfl⟩) hS (fun q _ h => hFc q h) hFc (fun _ t H1 locs ht hvm hw hB hz1 hk1 hS => ?_)
        obtain ⟨hP1, hK1, hD1⟩ := hB
        rw [ht] at hP1
        obtain ⟨g_8, eg_8⟩ : ∃ z, z = sX0_begin cap g := ⟨_, rfl⟩
        rw [← eg_8] at hP1 hD1
        obtain ⟨hP, hD⟩ := va_join (wr := [(h0, .inr (3, [.ref n0, .ref k0, .ref t0, .ref p0, .int cap, .int me, .int sl, .int x.2.2.2.1, .int x.2.2.2.2.1, .int x.2.2.2.2.2.1, .int x.2.2.2.2.2.2.1, .long 0])), cL0 k0 k1 k2 k3 k, cL1 cJ k1 k, cL2 cI k2 k, cL3 cI k3 k, cT0 t0 t1 tp, cT1 cI t1 tp, cP0 p0 p1 p2 p3 p4 p5 pl, cP1 cI p1 pl, cP2 cI p2 pl, cP3 cI p3 pl, cP4 cI p4 pl, cP5 cI p5 pl]) (w1 := [cL0 n0 n1 n2 n3 g_8, cL1 cJ n1 g_8, cL2 cI n2 g_8, cL3 cI n3 g_8]) hP hD [1, 2, 3, 4] [0, 5, 6, 7, 8, 9, 10, 11, 12, 13, 14, 15, 16] rfl rfl (by decide) (by decide) hk1 hFc hP1 hD1
        generalize H1 = H at hP hS ⊢
        have hP := hP.sub (ws' := [(h0, .inr (3, [.ref n0, .ref k0, .ref t0, .ref p0, .int cap, .int me, .int sl, .int x.2.2.2.1, .int x.2.2.2.2.1, .int x.2.2.2.2.2.1, .int x.2.2.2.2.2.2.1, .long 0])), cL0 n0 n1 n2 n3 g_8, cL1 cJ n1 g_8, cL2 cI n2 g_8, cL3 cI n3 g_8, cL0 k0 k1 k2 k3 k, cL1 cJ k1 k, cL2 cI k2 k, cL3 cI k3 k, cT0 t0 t1 tp, cT1 cI t1 tp, cP0 p0 p1 p2 p3 p4 p5 pl, cP1 cI p1 pl, cP2 cI p2 pl, cP3 cI p3 pl, cP4 cI p4 pl, cP5 cI p5 pl]) [0, 13, 14, 15, 16, 1, 2, 3, 4, 5, 6, 7, 8, 9, 10, 11, 12] rfl
        have hD := hD.sub (ws' := [(h0, .inr (3, [.ref n0, .ref k0, .ref t0, .ref p0, .int cap, .int me, .int sl, .int x.2.2.2.1, .int x.2.2.2.2.1, .int x.2.2.2.2.2.1, .int x.2.2.2.2.2.2.1, .long 0])), cL0 n0 n1 n2 n3 g_8, cL1 cJ n1 g_8, cL2 cI n2 g_8, cL3 cI n3 g_8, cL0 k0 k1 k2 k3 k, cL1 cJ k1 k, cL2 cI k2 k, cL3 cI k3 k, cT0 t0 t1 tp, cT1 cI t1 tp, cP0 p0 p1 p2 p3 p4 p5 pl, cP1 cI p1 pl, cP2 cI p2 pl, cP3 cI p3 pl, cP4 cI p4 pl, cP5 cI p5 pl]) [0, 13, 14, 15, 16, 1, 2, 3, 4, 5, 6, 7, 8, 9, 10, 11, 12] (by decide) rfl
        refine lv_aload_n hx hb dX3_car_63 rfl (lv_at hl 0 rfl) ?_
        refine va_get (D := (dC, dI)) (ci := 3) (v := .ref k0) (C := RX3) (T := TX3) (N := 12) hx hb hts hiX3 hown hK hP 0 rfl rfl 1 (by decide) (hts (.fieldLink RX3 16 "TripReckoner" "kept" "LTripReckoner$Ledger;") (by decide +kernel)) (fun _ h9 => h9) rfl dX3_car_64 ?_
        refine lv_iload_n hx hb dX3_car_67 rfl (lv_at hl 1 rfl) ?_
        have hPc := hP.sub (ws' := [cL0 k0 k1 k2 k3 k, cL1 cJ k1 k, cL2 cI k2 k, cL3 cI k3 k]) [5, 6, 7, 8] rfl
        have hDc := hD.sub (ws' := [cL0 k0 k1 k2 k3 k, cL1 cJ k1 k, cL2 cI k2 k, cL3 cI k3 k]) [5, 6, 7, 8] (by decide) rfl
        have hFc := va_free (wc := [cL0 k0 k1 k2 k3 k, cL1 cJ k1 k, cL2 cI k2 k, cL3 cI k3 k]) hD hS hA [5, 6, 7, 8] rfl
        refine va_callv (va_runVN (As := [.int cap]) (rest := []) ⟨hx, hb, hml, hown, hts⟩ (kX0_begin l dC dI cI cJ k0 k1 k2 k3 H.size cap k) ⟨va_cnB 1 hts gX3_car_X0_begin_n60 rfl rfl rfl (nw_m hN (.methodLinkNest RX3 60 yX0_begin "TripReckoner") (by decide +kernel)) (hts (.initialized RX0) (by decide +kernel)) (by decide +kernel) ⟨Nat.le_of_ble_eq_true rfl, Nat.le_of_ble_eq_true rfl⟩, (hts (.instanceMethod yX0_begin) (by decide +kernel)), (hts (.selects RX0 yX0_begin yX0_begin) (by decide +kernel))⟩ ⟨fun a U g mk q => by obtain ⟨q0, q1, qP, qK, qD⟩ := q; exact ⟨q0, q1, qP, va_K.moved (u := U) (U := U.calling g mk a) (Vm.Alike.refl U.vm) qK, qD⟩, va_recv hK hPc (ci := 0) (q0 := 0) rfl rfl, fun U hU hW => ⟨rfl, by rw [hU], by rw [hU]; exact hPc, va_K.moved hW.alike hK, hDc.weaken (fun _ _ _ _ => trivial)⟩⟩ rfl rfl hl.1 rfl (lv_room (Nat.le_of_ble_eq_true rfl)) dX3_car_68 ⟨Nat.le_of_ble_eq_true rfl, Nat.le_of_ble_eq_true rfl⟩) hS (fun q _ h => hFc q h) hFc (fun _ t H1 locs ht hvm hw hB hz1 hk1 hS => ?_)
        obtain ⟨hP1, hK1, hD1⟩ := hB
        rw [ht] at hP1
        obtain ⟨g_10, eg_10⟩ : ∃ z, z = sX0_begin cap k := ⟨_, rfl⟩
        rw [← eg_10] at hP1 hD1
        obtain ⟨hP, hD⟩ := va_join (wr := [(h0, .inr (3, [.ref n0, .ref k0, .ref t0, .ref p0, .int cap, .int me, .int sl, .int x.2.2.2.1, .int x.2.2.2.2.1, .int x.2.2.2.2.2.1, .int x.2.2.2.2.2.2.1, .long 0])), cL0 n0 n1 n2 n3 g_8, cL1 cJ n1 g_8, cL2 cI n2 g_8, cL3 cI n3 g_8, cT0 t0 t1 tp, cT1 cI t1 tp, cP0 p0 p1 p2 p3 p4 p5 pl, cP1 cI p1 pl, cP2 cI p2 pl, cP3 cI p3 pl, cP4 cI p4 pl, cP5 cI p5 pl]) (w1 := [cL0 k0 k1 k2 k3 g_10, cL1 cJ k1 g_10, cL2 cI k2 g_10, cL3 cI k3 g_10]) hP hD [5, 6, 7, 8] [0, 1, 2, 3, 4, 9, 10, 11, 12, 13, 14, 15, 16] rfl rfl (by decide) (by decide) hk1 hFc hP1 hD1
        generalize H1 = H at hP hS ⊢
        have hP := hP.sub (ws' := [(h0, .inr (3, [.ref n0, .ref k0, .ref t0, .ref p0, .int cap, .int me, .int sl, .int x.2.2.2.1, .int x.2.2.2.2.1, .int x.2.2.2.2.2.1, .int x.2.2.2.2.2.2.1, .long 0])), cL0 n0 n1 n2 n3 g_8, cL1 cJ n1 g_8, cL2 cI n2 g_8, cL3 cI n3 g_8, cL0 k0 k1 k2 k3 g_10, cL1 cJ k1 g_10, cL2 cI k2 g_10, cL3 cI k3 g_10, cT0 t0 t1 tp, cT1 cI t1 tp, cP0 p0 p1 p2 p3 p4 p5 pl, cP1 cI p1 pl, cP2 cI p2 pl, cP3 cI p3 pl, cP4 cI p4 pl, cP5 cI p5 pl]) [0, 1, 2, 3, 4, 13, 14, 15, 16, 5, 6, 7, 8, 9, 10, 11, 12] rfl
        have hD := hD.sub (ws' := [(h0, .inr (3, [.ref n0, .ref k0, .ref t0, .ref p0, .int cap, .int me, .int sl, .int x.2.2.2.1, .int x.2.2.2.2.1, .int x.2.2.2.2.2.1, .int x.2.2.2.2.2.2.1, .long 0])), cL0 n0 n1 n2 n3 g_8, cL1 cJ n1 g_8, cL2 cI n2 g_8, cL3 cI n3 g_8, cL0 k0 k1 k2 k3 g_10, cL1 cJ k1 g_10, cL2 cI k2 g_10, cL3 cI k3 g_10, cT0 t0 t1 tp, cT1 cI t1 tp, cP0 p0 p1 p2 p3 p4 p5 pl, cP1 cI p1 pl, cP2 cI p2 pl, cP3 cI p3 pl, cP4 cI p4 pl, cP5 cI p5 pl]) [0, 1, 2, 3, 4, 13, 14, 15, 16, 5, 6, 7, 8, 9, 10, 11, 12] (by decide) rfl
        refine lv_iconst (v := 1) hx hb dX3_car_71 (by decide) ?_
        have es0 : sX3_car_x cap me sl x g k tp pl = (cap, me, sl, x.2.2.2.1, x.2.2.2.2.1, x.2.2.2.2.2.1, x.2.2.2.2.2.2.1, 0) := by rw [sX3_car_x, if_neg c_2, if_neg c_4, if_neg c_6, ← eg_8, sX3_car_x_g_8, ← eg_10, sX3_car_x_g_10]
        have es1 : sX3_car_g cap me sl x g k tp pl = g_8 := by rw [sX3_car_g, if_neg c_2, if_neg c_4, if_neg c_6, ← eg_8, sX3_car_g_g_8, ← eg_10, sX3_car_g_g_10]
        have es2 : sX3_car_k cap me sl x g k tp pl = g_10 := by rw [sX3_car_k, if_neg c_2, if_neg c_4, if_neg c_6, ← eg_8, sX3_car_k_g_8, ← eg_10, sX3_car_k_g_10]
        have er : 1 = rX3_car cap me sl x g k tp pl := by rw [rX3_car, if_neg c_2, if_neg c_4, if_neg c_6, ← eg_8, rX3_car_g_8, ← eg_10, rX3_car_g_10]
        refine W.zret (ty := .boolean) (v := 1) hx hb hr rfl (fun t ht hW => ⟨⟨1, (), rfl, er, ?_⟩, hS.F ht⟩) hS.2.2 dX3_car_72
        rw [es0]; rw [es1]; rw [es2]; exact ⟨by rw [ht]; exact hP, va_K.moved hW.alike hK, hD⟩
      · refine lv_iconst (v := 0) hx hb dX3_car_33 (by decide) ?_
        have es0 : sX3_car_x cap me sl x g k tp pl = x := by rw [sX3_car_x, if_neg c_2, if_neg c_4, if_pos c_6]
        have es1 : sX3_car_g cap me sl x g k tp pl = g := by rw [sX3_car_g, if_neg c_2, if_neg c_4, if_pos c_6]
        have es2 : sX3_car_k cap me sl x g k tp pl = k := by rw [sX3_car_k, if_neg c_2, if_neg c_4, if_pos c_6]
        have er : 0 = rX3_car cap me sl x g k tp pl := by rw [rX3_car, if_neg c_2, if_neg c_4, if_pos c_6]
        refine W.zret (ty := .boolean) (v := 0) hx hb hr rfl (fun t ht hW => ⟨⟨0, (), rfl, er, ?_⟩, hS.F ht⟩) hS.2.2 dX3_car_34
        rw [es0]; rw [es1]; rw [es2]; exact ⟨by rw [ht]; exact hP, va_K.moved hW.alike hK, hD⟩

def sX3_bounds (fa : Int32) (th : Int32) (lo : Int32) (hi : Int32) (x : XC) (g : LG) (k : LG) (tp : TP) (pl : PL) : XC :=
  if (rX3_checkedBounds fa th lo hi) = 0 then
    x
  else
    (x.1, x.2.1, x.2.2.1, fa, th, lo, hi, x.2.2.2.2.2.2.2)
def rX3_bounds (fa : Int32) (th : Int32) (lo : Int32) (hi : Int32) (x : XC) (g : LG) (k : LG) (tp : TP) (pl : PL) : Int32 :=
  if (rX3_checkedBounds fa th lo hi) = 0 then
    0
  else
    1
set_option maxHeartbeats 4000000 in
set_option maxRecDepth 100000 in
theorem kX3_bounds (l : Launch) (dC : Nat → ClassId) (dI : Nat → Nat → Nat) (cI cJ : ClassId) (h0 n0 k0 t0 p0 n1 n2 n3 k1 k2 k3 t1 p1 p2 p3 p4 p5 : Nat) (sz : Nat) (fa : Int32) (th : Int32) (lo : Int32) (hi : Int32) (x : XC) (g : LG) (k : LG) (tp : TP) (pl : PL) : Met l yX3_bounds wsX3_bounds ({ frames := 2, cells := 0, slots := 0, locals := 45 }) (va_Pc [.ref h0, .int fa, .int th, .int lo, .int hi] (fun U => U.heap.size = sz ∧ va_P (dC, dI) vwCl [cX0 h0 n0 k0 t0 p0 x, cL0 n0 n1 n2 n3 g, cL1 cJ n1 g, cL2 cI n2 g, cL3 cI n3 g, cL0 k0 k1 k2 k3 k, cL1 cJ k1 k, cL2 cI k2 k, cL3 cI k3 k, cT0 t0 t1 tp, cT1 cI t1 tp, cP0 p0 p1 p2 p3 p4 p5 pl, cP1 cI p1 pl, cP2 cI p2 pl, cP3 cI p3 pl, cP4 cI p4 pl, cP5 cI p5 pl] U.heap ∧ va_K (dC, dI) vwCl [(cI, .int), (cJ, .long)] U ∧ va_D (fun _ => True) [cX0 h0 n0 k0 t0 p0 x, cL0 n0 n1 n2 n3 g, cL1 cJ n1 g, cL2 cI n2 g, cL3 cI n3 g, cL0 k0 k1 k2 k3 k, cL1 cJ k1 k, cL2 cI k2 k, cL3 cI k3 k, cT0 t0 t1 tp, cT1 cI t1 tp, cP0 p0 p1 p2 p3 p4 p5 pl, cP1 cI p1 pl, cP2 cI p2 pl, cP3 cI p3 pl, cP4 cI p4 pl, cP5 cI p5 pl] ∧ nw U)) (va_Qi (fun (r : Int32) (_ : Unit) => r = rX3_bounds fa th lo hi x g k tp pl) (fun _ t => va_P (dC, dI) vwCl [cX0 h0 n0 k0 t0 p0 (sX3_bounds fa th lo hi x g k tp pl), cL0 n0 n1 n2 n3 g, cL1 cJ n1 g, cL2 cI n2 g, cL3 cI n3 g, cL0 k0 k1 k2 k3 k, cL1 cJ k1 k, cL2 cI k2 k, cL3 cI k3 k, cT0 t0 t1 tp, cT1 cI t1 tp, cP0 p0 p1 p2 p3 p4 p5 pl, cP1 cI p1 pl, cP2 cI p2 pl, cP3 cI p3 pl, cP4 cI p4 pl, cP5 cI p5 pl] t.heap ∧ va_K (dC, dI) vwCl [(cI, .int), (cJ, .long)] t ∧ va_D (va_A [cX0 h0 n0 k0 t0 p0 x, cL0 n0 n1 n2 n3 g, cL1 cJ n1 g, cL2 cI n2 g, cL3 cI n3 g, cL0 k0 k1 k2 k3 k, cL1 cJ k1 k, cL2 cI k2 k, cL3 cI k3 k, cT0 t0 t1 tp, cT1 cI t1 tp, cP0 p0 p1 p2 p3 p4 p5 pl, cP1 cI p1 pl, cP2 cI p2 pl, cP3 cI p3 pl, cP4 cI p4 pl, cP5 cI p5 pl] sz) [cX0 h0 n0 k0 t0 p0 (sX3_bounds fa th lo hi x g k tp pl), cL0 n0 n1 n2 n3 g, cL1 cJ n1 g, cL2 cI n2 g, cL3 cI n3 g, cL0 k0 k1 k2 k3 k, cL1 cJ k1 k, cL2 cI k2 k, cL3 cI k3 k, cT0 t0 t1 tp, cT1 cI t1 tp, cP0 p0 p1 p2 p3 p4 p5 pl, cP1 cI p1 pl, cP2 cI p2 pl, cP3 cI p3 pl, cP4 cI p4 pl, cP5 cI p5 pl]) (va_A [cX0 h0 n0 k0 t0 p0 x, cL0 n0 n1 n2 n3 g, cL1 cJ n1 g, cL2 cI n2 g, cL3 cI n3 g, cL0 k0 k1 k2 k3 k, cL1 cJ k1 k, cL2 cI k2 k, cL3 cI k3 k, cT0 t0 t1 tp, cT1 cI t1 tp, cP0 p0 p1 p2 p3 p4 p5 pl, cP1 cI p1 pl, cP2 cI p2 pl, cP3 cI p3 pl, cP4 cI p4 pl, cP5 cI p5 pl] sz)) 0 0 (va_A [cX0 h0 n0 k0 t0 p0 x, cL0 n0 n1 n2 n3 g, cL1 cJ n1 g, cL2 cI n2 g, cL3 cI n3 g, cL0 k0 k1 k2 k3 k, cL1 cJ k1 k, cL2 cI k2 k, cL3 cI k3 k, cT0 t0 t1 tp, cT1 cI t1 tp, cP0 p0 p1 p2 p3 p4 p5 pl, cP1 cI p1 pl, cP2 cI p2 pl, cP3 cI p3 pl, cP4 cI p4 pl, cP5 cI p5 pl] sz) := by
  refine Met.ofW (cc := cX3_bounds) (maxL := 5) (ret := (some .boolean)) (by decide) rfl ?_
  intro p e s m args below meth c s₁ B hml hv
  obtain ⟨rfl, hsz, hP, hK, hD0, hN⟩ := hv
  have hx := B.exec
  have hb := B.bytes
  have hr := B.returns
  have hts := atoms_spec (ws := wsX3_bounds) B.pre
  have hown : s.vm.findClass RX3 = some m.cls := findClass_of_methodNamed B.named
  have hlocks := B.notSynchronized
  have hiX3 : ∀ w ∈ u_ws RX3 TX3 12, w ∈ wsX3_bounds := by decide +kernel
  subst hsz
  have hD := hD0.self (sz := s.heap.size)
  generalize hAe : va_A [cX0 h0 n0 k0 t0 p0 x, cL0 n0 n1 n2 n3 g, cL1 cJ n1 g, cL2 cI n2 g, cL3 cI n3 g, cL0 k0 k1 k2 k3 k, cL1 cJ k1 k, cL2 cI k2 k, cL3 cI k3 k, cT0 t0 t1 tp, cT1 cI t1 tp, cP0 p0 p1 p2 p3 p4 p5 pl, cP1 cI p1 pl, cP2 cI p2 pl, cP3 cI p3 pl, cP4 cI p4 pl, cP5 cI p5 pl] s.heap.size = A at hD ⊢
  have hA : ∀ q : Nat, s.heap.size ≤ q → A q := fun q h => by rw [← hAe]; exact Or.inr h
  have hS : va_S A s.heap s.heap [] := va_S.rf
  have hl := lv_entry ([.ref h0, .int fa, .int th, .int lo, .int hi]) (n := 5) (Nat.le_of_ble_eq_true rfl)
  rw [lg_entry_eq]
  generalize (lg_sl ([.ref h0, .int fa, .int th, .int lo, .int hi]) ++ List.replicate (5 - (lg_sl ([.ref h0, .int fa, .int th, .int lo, .int hi])).length) Slot.unset).toArray = ls at hl ⊢
  have hl : lv_has ls 5 [(0, .ref h0), (1, .int fa), (2, .int th), (3, .int lo), (4, .int hi)] := hl
  have hP : va_P (dC, dI) vwCl [cX0 h0 n0 k0 t0 p0 x, cL0 n0 n1 n2 n3 g, cL1 cJ n1 g, cL2 cI n2 g, cL3 cI n3 g, cL0 k0 k1 k2 k3 k, cL1 cJ k1 k, cL2 cI k2 k, cL3 cI k3 k, cT0 t0 t1 tp, cT1 cI t1 tp, cP0 p0 p1 p2 p3 p4 p5 pl, cP1 cI p1 pl, cP2 cI p2 pl, cP3 cI p3 pl, cP4 cI p4 pl, cP5 cI p5 pl] s.heap := hP
  refine lv_iload_n hx hb dX3_bounds_0 rfl (lv_at hl 1 rfl) ?_
  refine lv_iload_n hx hb dX3_bounds_1 rfl (lv_at hl 2 rfl) ?_
  refine lv_iload_n hx hb dX3_bounds_2 rfl (lv_at hl 3 rfl) ?_
  refine lv_iload hx hb dX3_bounds_3 (lv_at hl 4 rfl) ?_
  have hPc := hP.sub (ws' := []) [] rfl
  have hDc := hD.sub (ws' := []) [] (by decide) rfl
  have hFc := va_free (wc := []) hD hS hA [] rfl
  refine va_calli (va_runS (As := [.int fa, .int th, .int lo, .int hi]) (rest := []) ⟨hx, hb, hml, hown, hts⟩ (kX3_checkedBounds l dC dI cI cJ s.heap.size fa th lo hi) (va_cwS 4 hts gX3_bounds_X3_checkedBounds rfl rfl rfl (by decide +kernel) ⟨Nat.le_of_ble_eq_true rfl, Nat.le_of_ble_eq_true rfl⟩) ⟨fun a U g mk q => by obtain ⟨q0, q1, qP, qK, qD⟩ := q; exact ⟨q0, q1, qP, va_K.moved (u := U) (U := U.calling g mk a) (Vm.Alike.refl U.vm) qK, qD⟩, fun U hU hW => ⟨rfl, by rw [hU], by rw [hU]; exact hPc, va_K.moved hW.alike hK, hDc.weaken (fun _ _ _ _ => trivial)⟩⟩ rfl rfl hl.1 rfl (lv_room (Nat.le_of_ble_eq_true rfl)) dX3_bounds_5 ⟨Nat.le_of_ble_eq_true rfl, Nat.le_of_ble_eq_true rfl⟩) hS (fun q _ h => hFc q h) hFc (fun r_1 _ t H1 locs ht hvm hw hB hz1 hk1 hS => ?_)
  obtain ⟨hP1, hK1, hD1⟩ := hB
  rw [ht] at hP1
  obtain ⟨hP, hD⟩ := va_join (wr := [cX0 h0 n0 k0 t0 p0 x, cL0 n0 n1 n2 n3 g, cL1 cJ n1 g, cL2 cI n2 g, cL3 cI n3 g, cL0 k0 k1 k2 k3 k, cL1 cJ k1 k, cL2 cI k2 k, cL3 cI k3 k, cT0 t0 t1 tp, cT1 cI t1 tp, cP0 p0 p1 p2 p3 p4 p5 pl, cP1 cI p1 pl, cP2 cI p2 pl, cP3 cI p3 pl, cP4 cI p4 pl, cP5 cI p5 pl]) (w1 := []) hP hD [] [0, 1, 2, 3, 4, 5, 6, 7, 8, 9, 10, 11, 12, 13, 14, 15, 16] rfl rfl (by decide) (by decide) hk1 hFc hP1 hD1
  generalize H1 = H at hP hS ⊢
  have hP : va_P (dC, dI) vwCl [cX0 h0 n0 k0 t0 p0 x, cL0 n0 n1 n2 n3 g, cL1 cJ n1 g, cL2 cI n2 g, cL3 cI n3 g, cL0 k0 k1 k2 k3 k, cL1 cJ k1 k, cL2 cI k2 k, cL3 cI k3 k, cT0 t0 t1 tp, cT1 cI t1 tp, cP0 p0 p1 p2 p3 p4 p5 pl, cP1 cI p1 pl, cP2 cI p2 pl, cP3 cI p3 pl, cP4 cI p4 pl, cP5 cI p5 pl] H := hP
  have hD : va_D A [cX0 h0 n0 k0 t0 p0 x, cL0 n0 n1 n2 n3 g, cL1 cJ n1 g, cL2 cI n2 g, cL3 cI n3 g, cL0 k0 k1 k2 k3 k, cL1 cJ k1 k, cL2 cI k2 k, cL3 cI k3 k, cT0 t0 t1 tp, cT1 cI t1 tp, cP0 p0 p1 p2 p3 p4 p5 pl, cP1 cI p1 pl, cP2 cI p2 pl, cP3 cI p3 pl, cP4 cI p4 pl, cP5 cI p5 pl] := hD
  subst hw
  refine lv_if_ne (tgt := 13) hx hb dX3_bounds_8 (by decide) (fun c_2 => ?_) (fun c_2 => ?_)
  · refine lv_aload_n hx hb dX3_bounds_13 rfl (lv_at hl 0 rfl) ?_
    refine lv_iload_n hx hb dX3_bounds_14 rfl (lv_at hl 1 rfl) ?_
    refine va_put (D := (dC, dI)) (ci := 3) (v := .int fa) (ty := .int) (C := RX3) (T := TX3) (N := 12) hx hb hts hiX3 tyX3 tyX3_ok nmX3 hown hK hP hD hS 0 rfl rfl 7 (by decide) (hts (.fieldLink RX3 44 "TripReckoner" "fastest" "I") (by decide +kernel)) (fun _ h9 => h9) rfl (by decide +kernel) rfl rfl (Nat.le_of_ble_eq_true rfl) dX3_bounds_15 (fun H locs hP hD hS => ?_)
    have hP : va_P (dC, dI) vwCl [(h0, .inr (3, [.ref n0, .ref k0, .ref t0, .ref p0, .int x.1, .int x.2.1, .int x.2.2.1, .int fa, .int x.2.2.2.2.1, .int x.2.2.2.2.2.1, .int x.2.2.2.2.2.2.1, .long x.2.2.2.2.2.2.2])), cL0 n0 n1 n2 n3 g, cL1 cJ n1 g, cL2 cI n2 g, cL3 cI n3 g, cL0 k0 k1 k2 k3 k, cL1 cJ k1 k, cL2 cI k2 k, cL3 cI k3 k, cT0 t0 t1 tp, cT1 cI t1 tp, cP0 p0 p1 p2 p3 p4 p5 pl, cP1 cI p1 pl, cP2 cI p2 pl, cP3 cI p3 pl, cP4 cI p4 pl, cP5 cI p5 pl] H := hP
    have hD : va_D A [(h0, .inr (3, [.ref n0, .ref k0, .ref t0, .ref p0, .int x.1, .int x.2.1, .int x.2.2.1, .int fa, .int x.2.2.2.2.1, .int x.2.2.2.2.2.1, .int x.2.2.2.2.2.2.1, .long x.2.2.2.2.2.2.2])), cL0 n0 n1 n2 n3 g, cL1 cJ n1 g, cL2 cI n2 g, cL3 cI n3 g, cL0 k0 k1 k2 k3 k, cL1 cJ k1 k, cL2 cI k2 k, cL3 cI k3 k, cT0 t0 t1 tp, cT1 cI t1 tp, cP0 p0 p1 p2 p3 p4 p5 pl, cP1 cI p1 pl, cP2 cI p2 pl, cP3 cI p3 pl, cP4 cI p4 pl, cP5 cI p5 pl] := hD
    refine lv_aload_n hx hb dX3_bounds_18 rfl (lv_at hl 0 rfl) ?_
    refine lv_iload_n hx hb dX3_bounds_19 rfl (lv_at hl 2 rfl) ?_
    refine va_put (D := (dC, dI)) (ci := 3) (v := .int th) (ty := .int) (C := RX3) (T := TX3) (N := 12) hx hb hts hiX3 tyX3 tyX3_ok nmX3 hown hK hP hD hS 0 rfl rfl 8 (by decide) (hts (.fieldLink RX3 47 "TripReckoner" "thirstiest" "I") (by decide +kernel)) (fun _ h9 => h9) rfl (by decide +kernel) rfl rfl (Nat.le_of_ble_eq_true rfl) dX3_bounds_20 (fun H locs hP hD hS => ?_)
    have hP : va_P (dC, dI) vwCl [(h0, .inr (3, [.ref n0, .ref k0, .ref t0, .ref p0, .int x.1, .int x.2.1, .int x.2.2.1, .int fa, .int th, .int x.2.2.2.2.2.1, .int x.2.2.2.2.2.2.1, .long x.2.2.2.2.2.2.2])), cL0 n0 n1 n2 n3 g, cL1 cJ n1 g, cL2 cI n2 g, cL3 cI n3 g, cL0 k0 k1 k2 k3 k, cL1 cJ k1 k, cL2 cI k2 k, cL3 cI k3 k, cT0 t0 t1 tp, cT1 cI t1 tp, cP0 p0 p1 p2 p3 p4 p5 pl, cP1 cI p1 pl, cP2 cI p2 pl, cP3 cI p3 pl, cP4 cI p4 pl, cP5 cI p5 pl] H := hP
    have hD : va_D A [(h0, .inr (3, [.ref n0, .ref k0, .ref t0, .ref p0, .int x.1, .int x.2.1, .int x.2.2.1, .int fa, .int th, .int x.2.2.2.2.2.1, .int x.2.2.2.2.2.2.1, .long x.2.2.2.2.2.2.2])), cL0 n0 n1 n2 n3 g, cL1 cJ n1 g, cL2 cI n2 g, cL3 cI n3 g, cL0 k0 k1 k2 k3 k, cL1 cJ k1 k, cL2 cI k2 k, cL3 cI k3 k, cT0 t0 t1 tp, cT1 cI t1 tp, cP0 p0 p1 p2 p3 p4 p5 pl, cP1 cI p1 pl, cP2 cI p2 pl, cP3 cI p3 pl, cP4 cI p4 pl, cP5 cI p5 pl] := hD
    refine lv_aload_n hx hb dX3_bounds_23 rfl (lv_at hl 0 rfl) ?_
    refine lv_iload_n hx hb dX3_bounds_24 rfl (lv_at hl 3 rfl) ?_
    refine va_put (D := (dC, dI)) (ci := 3) (v := .int lo) (ty := .int) (C := RX3) (T := TX3) (N := 12) hx hb hts hiX3 tyX3 tyX3_ok nmX3 hown hK hP hD hS 0 rfl rfl 9 (by decide) (hts (.fieldLink RX3 50 "TripReckoner" "lowUse" "I") (by decide +kernel)) (fun _ h9 => h9) rfl (by decide +kernel) rfl rfl (Nat.le_of_ble_eq_true rfl) dX3_bounds_25 (fun H locs hP hD hS => ?_)
    have hP : va_P (dC, dI) vwCl [(h0, .inr (3, [.ref n0, .ref k0, .ref t0, .ref p0, .int x.1, .int x.2.1, .int x.2.2.1, .int fa, .int th, .int lo, .int x.2.2.2.2.2.2.1, .long x.2.2.2.2.2.2.2])), cL0 n0 n1 n2 n3 g, cL1 cJ n1 g, cL2 cI n2 g, cL3 cI n3 g, cL0 k0 k1 k2 k3 k, cL1 cJ k1 k, cL2 cI k2 k, cL3 cI k3 k, cT0 t0 t1 tp, cT1 cI t1 tp, cP0 p0 p1 p2 p3 p4 p5 pl, cP1 cI p1 pl, cP2 cI p2 pl, cP3 cI p3 pl, cP4 cI p4 pl, cP5 cI p5 pl] H := hP
    have hD : va_D A [(h0, .inr (3, [.ref n0, .ref k0, .ref t0, .ref p0, .int x.1, .int x.2.1, .int x.2.2.1, .int fa, .int th, .int lo, .int x.2.2.2.2.2.2.1, .long x.2.2.2.2.2.2.2])), cL0 n0 n1 n2 n3 g, cL1 cJ n1 g, cL2 cI n2 g, cL3 cI n3 g, cL0 k0 k1 k2 k3 k, cL1 cJ k1 k, cL2 cI k2 k, cL3 cI k3 k, cT0 t0 t1 tp, cT1 cI t1 tp, cP0 p0 p1 p2 p3 p4 p5 pl, cP1 cI p1 pl, cP2 cI p2 pl, cP3 cI p3 pl, cP4 cI p4 pl, cP5 cI p5 pl] := hD
    refine lv_aload_n hx hb dX3_bounds_28 rfl (lv_at hl 0 rfl) ?_
    refine lv_iload hx hb dX3_bounds_29 (lv_at hl 4 rfl) ?_
    refine va_put (D := (dC, dI)) (ci := 3) (v := .int hi) (ty := .int) (C := RX3) (T := TX3) (N := 12) hx hb hts hiX3 tyX3 tyX3_ok nmX3 hown hK hP hD hS 0 rfl rfl 10 (by decide) (hts (.fieldLink RX3 53 "TripReckoner" "highUse" "I") (by decide +kernel)) (fun _ h9 => h9) rfl (by decide +kernel) rfl rfl (Nat.le_of_ble_eq_true rfl) dX3_bounds_31 (fun H locs hP hD hS => ?_)
    have hP : va_P (dC, dI) vwCl [(h0, .inr (3, [.ref n0, .ref k0, .ref t0, .ref p0, .int x.1, .int x.2.1, .int x.2.2.1, .int fa, .int th, .int lo, .int hi, .long x.2.2.2.2.2.2.2])), cL0 n0 n1 n2 n3 g, cL1 cJ n1 g, cL2 cI n2 g, cL3 cI n3 g, cL0 k0 k1 k2 k3 k, cL1 cJ k1 k, cL2 cI k2 k, cL3 cI k3 k, cT0 t0 t1 tp, cT1 cI t1 tp, cP0 p0 p1 p2 p3 p4 p5 pl, cP1 cI p1 pl, cP2 cI p2 pl, cP3 cI p3 pl, cP4 cI p4 pl, cP5 cI p5 pl] H := hP
    have hD : va_D A [(h0, .inr (3, [.ref n0, .ref k0, .ref t0, .ref p0, .int x.1, .int x.2.1, .int x.2.2.1, .int fa, .int th, .int lo, .int hi, .long x.2.2.2.2.2.2.2])), cL0 n0 n1 n2 n3 g, cL1 cJ n1 g, cL2 cI n2 g, cL3 cI n3 g, cL0 k0 k1 k2 k3 k, cL1 cJ k1 k, cL2 cI k2 k, cL3 cI k3 k, cT0 t0 t1 tp, cT1 cI t1 tp, cP0 p0 p1 p2 p3 p4 p5 pl, cP1 cI p1 pl, cP2 cI p2 pl, cP3 cI p3 pl, cP4 cI p4 pl, cP5 cI p5 pl] := hD
    refine lv_iconst (v := 1) hx hb dX3_bounds_34 (by decide) ?_
    have es0 : sX3_bounds fa th lo hi x g k tp pl = (x.1, x.2.1, x.2.2.1, fa, th, lo, hi, x.2.2.2.2.2.2.2) := by rw [sX3_bounds, if_neg c_2]
    have er : 1 = rX3_bounds fa th lo hi x g k tp pl := by rw [rX3_bounds, if_neg c_2]
    refine W.zret (ty := .boolean) (v := 1) hx hb hr rfl (fun t ht hW => ⟨⟨1, (), rfl, er, ?_⟩, hS.F ht⟩) hS.2.2 dX3_bounds_35
    rw [es0]; exact ⟨by rw [ht]; exact hP, va_K.moved hW.alike hK, hD⟩
  · refine lv_iconst (v := 0) hx hb dX3_bounds_11 (by decide) ?_
    have es0 : sX3_bounds fa th lo hi x g k tp pl = x := by rw [sX3_bounds, if_pos c_2]
    have er : 0 = rX3_bounds fa th lo hi x g k tp pl := by rw [rX3_bounds, if_pos c_2]
    refine W.zret (ty := .boolean) (v := 0) hx hb hr rfl (fun t ht hW => ⟨⟨0, (), rfl, er, ?_⟩, hS.F ht⟩) hS.2.2 dX3_bounds_12
    rw [es0]; exact ⟨by rw [ht]; exact hP, va_K.moved hW.alike hK, hD⟩

def sX3_drive_x_g_13 (pu : Int32) (fu : Int32) (se : Int32) (x : XC) (g : LG) (k : LG) (tp : TP) (pl : PL) (g_9 : LG) (g_11 : LG) (g_13 : LG) : XC :=
  (x.1, x.2.1, x.2.2.1, x.2.2.2.1, x.2.2.2.2.1, x.2.2.2.2.2.1, x.2.2.2.2.2.2.1, x.2.2.2.2.2.2.2 + pu.toInt64)
def sX3_drive_x_g_11 (pu : Int32) (fu : Int32) (se : Int32) (x : XC) (g : LG) (k : LG) (tp : TP) (pl : PL) (g_9 : LG) (g_11 : LG) : XC :=
  sX3_drive_x_g_13 pu fu se x g k tp pl g_9 g_11 (sX0_showStep g_11)
def sX3_drive_x_g_9 (pu : Int32) (fu : Int32) (se : Int32) (x : XC) (g : LG) (k : LG) (tp : TP) (pl : PL) (g_9 : LG) : XC :=
  sX3_drive_x_g_11 pu fu se x g k tp pl g_9 (sX0_burn fu g_9)
def sX3_drive_x (pu : Int32) (fu : Int32) (se : Int32) (x : XC) (g : LG) (k : LG) (tp : TP) (pl : PL) : XC :=
  if (rX3_within pu 0 100000) = 0 then
    x
  else
    if (rX3_within fu 0 10000) = 0 then
      x
    else
      if (rX3_within se 1 3600) = 0 then
        x
      else
        if (lg_cmp (x.2.2.2.2.2.2.2 + pu.toInt64) 100000000) ≤ 0 then
          sX3_drive_x_g_9 pu fu se x g k tp pl (sX0_pass pu pu fu fu se g)
        else
          x
def sX3_drive_g_g_13 (pu : Int32) (fu : Int32) (se : Int32) (x : XC) (g : LG) (k : LG) (tp : TP) (pl : PL) (g_9 : LG) (g_11 : LG) (g_13 : LG) : LG :=
  g_13
def sX3_drive_g_g_11 (pu : Int32) (fu : Int32) (se : Int32) (x : XC) (g : LG) (k : LG) (tp : TP) (pl : PL) (g_9 : LG) (g_11 : LG) : LG :=
  sX3_drive_g_g_13 pu fu se x g k tp pl g_9 g_11 (sX0_showStep g_11)
def sX3_drive_g_g_9 (pu : Int32) (fu : Int32) (se : Int32) (x : XC) (g : LG) (k : LG) (tp : TP) (pl : PL) (g_9 : LG) : LG :=
  sX3_drive_g_g_11 pu fu se x g k tp pl g_9 (sX0_burn fu g_9)
def sX3_drive_g (pu : Int32) (fu : Int32) (se : Int32) (x : XC) (g : LG) (k : LG) (tp : TP) (pl : PL) : LG :=
  if (rX3_within pu 0 100000) = 0 then
    g
  else
    if (rX3_within fu 0 10000) = 0 then
      g
    else
      if (rX3_within se 1 3600) = 0 then
        g
      else
        if (lg_cmp (x.2.2.2.2.2.2.2 + pu.toInt64) 100000000) ≤ 0 then
          sX3_drive_g_g_9 pu fu se x g k tp pl (sX0_pass pu pu fu fu se g)
        else
          g
def rX3_drive_g_13 (pu : Int32) (fu : Int32) (se : Int32) (x : XC) (g : LG) (k : LG) (tp : TP) (pl : PL) (g_9 : LG) (g_11 : LG) (g_13 : LG) : Int32 :=
  1
def rX3_drive_g_11 (pu : Int32) (fu : Int32) (se : Int32) (x : XC) (g : LG) (k : LG) (tp : TP) (pl : PL) (g_9 : LG) (g_11 : LG) : Int32 :=
  rX3_drive_g_13 pu fu se x g k tp pl g_9 g_11 (sX0_showStep g_11)
def rX3_drive_g_9 (pu : Int32) (fu : Int32) (se : Int32) (x : XC) (g : LG) (k : LG) (tp : TP) (pl : PL) (g_9 : LG) : Int32 :=
  rX3_drive_g_11 pu fu se x g k tp pl g_9 (sX0_burn fu g_9)
def rX3_drive (pu : Int32) (fu : Int32) (se : Int32) (x : XC) (g : LG) (k : LG) (tp : TP) (pl : PL) : Int32 :=
  if (rX3_within pu 0 100000) = 0 then
    0
  else
    if (rX3_within fu 0 10000) = 0 then
      0
    else
      if (rX3_within se 1 3600) = 0 then
        0
      else
        if (lg_cmp (x.2.2.2.2.2.2.2 + pu.toInt64) 100000000) ≤ 0 then
          rX3_drive_g_9 pu fu se x g k tp pl (sX0_pass pu pu fu fu se g)
        else
          0
set_option maxHeartbeats 4000000 in
set_option maxRecDepth 100000 in
theorem kX3_drive (l : Launch) (dC : Nat → ClassId) (dI : Nat → Nat → Nat) (cI cJ : ClassId) (h0 n0 k0 t0 p0 n1 n2 n3 k1 k2 k3 t1 p1 p2 p3 p4 p5 : Nat) (sz : Nat) (pu : Int32) (fu : Int32) (se : Int32) (x : XC) (g : LG) (k : LG) (tp : TP) (pl : PL) : Met l yX3_drive wsX3_drive ({ frames := 2, cells := 0, slots := 0, locals := 44 }) (va_Pc [.ref h0, .int pu, .int fu, .int se] (fun U => U.heap.size = sz ∧ va_P (dC, dI) vwCl [cX0 h0 n0 k0 t0 p0 x, cL0 n0 n1 n2 n3 g, cL1 cJ n1 g, cL2 cI n2 g, cL3 cI n3 g, cL0 k0 k1 k2 k3 k, cL1 cJ k1 k, cL2 cI k2 k, cL3 cI k3 k, cT0 t0 t1 tp, cT1 cI t1 tp, cP0 p0 p1 p2 p3 p4 p5 pl, cP1 cI p1 pl, cP2 cI p2 pl, cP3 cI p3 pl, cP4 cI p4 pl, cP5 cI p5 pl] U.heap ∧ va_K (dC, dI) vwCl [(cI, .int), (cJ, .long)] U ∧ va_D (fun _ => True) [cX0 h0 n0 k0 t0 p0 x, cL0 n0 n1 n2 n3 g, cL1 cJ n1 g, cL2 cI n2 g, cL3 cI n3 g, cL0 k0 k1 k2 k3 k, cL1 cJ k1 k, cL2 cI k2 k, cL3 cI k3 k, cT0 t0 t1 tp, cT1 cI t1 tp, cP0 p0 p1 p2 p3 p4 p5 pl, cP1 cI p1 pl, cP2 cI p2 pl, cP3 cI p3 pl, cP4 cI p4 pl, cP5 cI p5 pl] ∧ nw U)) (va_Qi (fun (r : Int32) (_ : Unit) => r = rX3_drive pu fu se x g k tp pl) (fun _ t => va_P (dC, dI) vwCl [cX0 h0 n0 k0 t0 p0 (sX3_drive_x pu fu se x g k tp pl), cL0 n0 n1 n2 n3 (sX3_drive_g pu fu se x g k tp pl), cL1 cJ n1 (sX3_drive_g pu fu se x g k tp pl), cL2 cI n2 (sX3_drive_g pu fu se x g k tp pl), cL3 cI n3 (sX3_drive_g pu fu se x g k tp pl), cL0 k0 k1 k2 k3 k, cL1 cJ k1 k, cL2 cI k2 k, cL3 cI k3 k, cT0 t0 t1 tp, cT1 cI t1 tp, cP0 p0 p1 p2 p3 p4 p5 pl, cP1 cI p1 pl, cP2 cI p2 pl, cP3 cI p3 pl, cP4 cI p4 pl, cP5 cI p5 pl] t.heap ∧ va_K (dC, dI) vwCl [(cI, .int), (cJ, .long)] t ∧ va_D (va_A [cX0 h0 n0 k0 t0 p0 x, cL0 n0 n1 n2 n3 g, cL1 cJ n1 g, cL2 cI n2 g, cL3 cI n3 g, cL0 k0 k1 k2 k3 k, cL1 cJ k1 k, cL2 cI k2 k, cL3 cI k3 k, cT0 t0 t1 tp, cT1 cI t1 tp, cP0 p0 p1 p2 p3 p4 p5 pl, cP1 cI p1 pl, cP2 cI p2 pl, cP3 cI p3 pl, cP4 cI p4 pl, cP5 cI p5 pl] sz) [cX0 h0 n0 k0 t0 p0 (sX3_drive_x pu fu se x g k tp pl), cL0 n0 n1 n2 n3 (sX3_drive_g pu fu se x g k tp pl), cL1 cJ n1 (sX3_drive_g pu fu se x g k tp pl), cL2 cI n2 (sX3_drive_g pu fu se x g k tp pl), cL3 cI n3 (sX3_drive_g pu fu se x g k tp pl), cL0 k0 k1 k2 k3 k, cL1 cJ k1 k, cL2 cI k2 k, cL3 cI k3 k, cT0 t0 t1 tp, cT1 cI t1 tp, cP0 p0 p1 p2 p3 p4 p5 pl, cP1 cI p1 pl, cP2 cI p2 pl, cP3 cI p3 pl, cP4 cI p4 pl, cP5 cI p5 pl]) (va_A [cX0 h0 n0 k0 t0 p0 x, cL0 n0 n1 n2 n3 g, cL1 cJ n1 g, cL2 cI n2 g, cL3 cI n3 g, cL0 k0 k1 k2 k3 k, cL1 cJ k1 k, cL2 cI k2 k, cL3 cI k3 k, cT0 t0 t1 tp, cT1 cI t1 tp, cP0 p0 p1 p2 p3 p4 p5 pl, cP1 cI p1 pl, cP2 cI p2 pl, cP3 cI p3 pl, cP4 cI p4 pl, cP5 cI p5 pl] sz)) 0 0 (va_A [cX0 h0 n0 k0 t0 p0 x, cL0 n0 n1 n2 n3 g, cL1 cJ n1 g, cL2 cI n2 g, cL3 cI n3 g, cL0 k0 k1 k2 k3 k, cL1 cJ k1 k, cL2 cI k2 k, cL3 cI k3 k, cT0 t0 t1 tp, cT1 cI t1 tp, cP0 p0 p1 p2 p3 p4 p5 pl, cP1 cI p1 pl, cP2 cI p2 pl, cP3 cI p3 pl, cP4 cI p4 pl, cP5 cI p5 pl] sz) := by
  refine Met.ofW (cc := cX3_drive) (maxL := 4) (ret := (some .boolean)) (by decide) rfl ?_
  intro p e s m args below meth c s₁ B hml hv
  obtain ⟨rfl, hsz, hP, hK, hD0, hN⟩ := hv
  have hx := B.exec
  have hb := B.bytes
  have hr := B.returns
  have hts := atoms_spec (ws := wsX3_drive) B.pre
  have hown : s.vm.findClass RX3 = some m.cls := findClass_of_methodNamed B.named
  have hlocks := B.notSynchronized
  have hiX3 : ∀ w ∈ u_ws RX3 TX3 12, w ∈ wsX3_drive := by decide +kernel
  subst hsz
  have hD := hD0.self (sz := s.heap.size)
  generalize hAe : va_A [cX0 h0 n0 k0 t0 p0 x, cL0 n0 n1 n2 n3 g, cL1 cJ n1 g, cL2 cI n2 g, cL3 cI n3 g, cL0 k0 k1 k2 k3 k, cL1 cJ k1 k, cL2 cI k2 k, cL3 cI k3 k, cT0 t0 t1 tp, cT1 cI t1 tp, cP0 p0 p1 p2 p3 p4 p5 pl, cP1 cI p1 pl, cP2 cI p2 pl, cP3 cI p3 pl, cP4 cI p4 pl, cP5 cI p5 pl] s.heap.size = A at hD ⊢
  have hA : ∀ q : Nat, s.heap.size ≤ q → A q := fun q h => by rw [← hAe]; exact Or.inr h
  have hS : va_S A s.heap s.heap [] := va_S.rf
  have hl := lv_entry ([.ref h0, .int pu, .int fu, .int se]) (n := 4) (Nat.le_of_ble_eq_true rfl)
  rw [lg_entry_eq]
  generalize (lg_sl ([.ref h0, .int pu, .int fu, .int se]) ++ List.replicate (4 - (lg_sl ([.ref h0, .int pu, .int fu, .int se])).length) Slot.unset).toArray = ls at hl ⊢
  have hl : lv_has ls 4 [(0, .ref h0), (1, .int pu), (2, .int fu), (3, .int se)] := hl
  have hP : va_P (dC, dI) vwCl [cX0 h0 n0 k0 t0 p0 x, cL0 n0 n1 n2 n3 g, cL1 cJ n1 g, cL2 cI n2 g, cL3 cI n3 g, cL0 k0 k1 k2 k3 k, cL1 cJ k1 k, cL2 cI k2 k, cL3 cI k3 k, cT0 t0 t1 tp, cT1 cI t1 tp, cP0 p0 p1 p2 p3 p4 p5 pl, cP1 cI p1 pl, cP2 cI p2 pl, cP3 cI p3 pl, cP4 cI p4 pl, cP5 cI p5 pl] s.heap := hP
  refine lv_iload_n hx hb dX3_drive_0 rfl (lv_at hl 1 rfl) ?_
  refine lv_iconst (v := 0) hx hb dX3_drive_1 (by decide) ?_
  refine lv_ldc hx hb hown (hts (.constant RX3 87 (100000)) (by decide +kernel)) dX3_drive_2 ?_
  have hPc := hP.sub (ws' := []) [] rfl
  have hDc := hD.sub (ws' := []) [] (by decide) rfl
  have hFc := va_free (wc := []) hD hS hA [] rfl
  refine va_calli (va_runS (As := [.int pu, .int 0, .int 100000]) (rest := []) ⟨hx, hb, hml, hown, hts⟩ (kX3_within l dC dI cI cJ s.heap.size pu 0 100000) (va_cwS 3 hts gX3_drive_X3_within rfl rfl rfl (by decide +kernel) ⟨Nat.le_of_ble_eq_true rfl, Nat.le_of_ble_eq_true rfl⟩) ⟨fun a U g mk q => by obtain ⟨q0, q1, qP, qK, qD⟩ := q; exact ⟨q0, q1, qP, va_K.moved (u := U) (U := U.calling g mk a) (Vm.Alike.refl U.vm) qK, qD⟩, fun U hU hW => ⟨rfl, by rw [hU], by rw [hU]; exact hPc, va_K.moved hW.alike hK, hDc.weaken (fun _ _ _ _ => trivial)⟩⟩ rfl rfl hl.1 rfl (lv_room (Nat.le_of_ble_eq_true rfl)) dX3_drive_4 ⟨Nat.le_of_ble_eq_true rfl, Nat.le_of_ble_eq_true rfl⟩) hS (fun q _ h => hFc q h) hFc (fun r_1 _ t H1 locs ht hvm hw hB hz1 hk1 hS => ?_)
  obtain ⟨hP1, hK1, hD1⟩ := hB
  rw [ht] at hP1
  obtain ⟨hP, hD⟩ := va_join (wr := [cX0 h0 n0 k0 t0 p0 x, cL0 n0 n1 n2 n3 g, cL1 cJ n1 g, cL2 cI n2 g, cL3 cI n3 g, cL0 k0 k1 k2 k3 k, cL1 cJ k1 k, cL2 cI k2 k, cL3 cI k3 k, cT0 t0 t1 tp, cT1 cI t1 tp, cP0 p0 p1 p2 p3 p4 p5 pl, cP1 cI p1 pl, cP2 cI p2 pl, cP3 cI p3 pl, cP4 cI p4 pl, cP5 cI p5 pl]) (w1 := []) hP hD [] [0, 1, 2, 3, 4, 5, 6, 7, 8, 9, 10, 11, 12, 13, 14, 15, 16] rfl rfl (by decide) (by decide) hk1 hFc hP1 hD1
  generalize H1 = H at hP hS ⊢
  have hP : va_P (dC, dI) vwCl [cX0 h0 n0 k0 t0 p0 x, cL0 n0 n1 n2 n3 g, cL1 cJ n1 g, cL2 cI n2 g, cL3 cI n3 g, cL0 k0 k1 k2 k3 k, cL1 cJ k1 k, cL2 cI k2 k, cL3 cI k3 k, cT0 t0 t1 tp, cT1 cI t1 tp, cP0 p0 p1 p2 p3 p4 p5 pl, cP1 cI p1 pl, cP2 cI p2 pl, cP3 cI p3 pl, cP4 cI p4 pl, cP5 cI p5 pl] H := hP
  have hD : va_D A [cX0 h0 n0 k0 t0 p0 x, cL0 n0 n1 n2 n3 g, cL1 cJ n1 g, cL2 cI n2 g, cL3 cI n3 g, cL0 k0 k1 k2 k3 k, cL1 cJ k1 k, cL2 cI k2 k, cL3 cI k3 k, cT0 t0 t1 tp, cT1 cI t1 tp, cP0 p0 p1 p2 p3 p4 p5 pl, cP1 cI p1 pl, cP2 cI p2 pl, cP3 cI p3 pl, cP4 cI p4 pl, cP5 cI p5 pl] := hD
  subst hw
  refine lv_if_eq (tgt := 32) hx hb dX3_drive_7 (by decide) (fun c_2 => ?_) (fun c_2 => ?_)
  · refine lv_iconst (v := 0) hx hb dX3_drive_32 (by decide) ?_
    have es0 : sX3_drive_x pu fu se x g k tp pl = x := by rw [sX3_drive_x, if_pos c_2]
    have es1 : sX3_drive_g pu fu se x g k tp pl = g := by rw [sX3_drive_g, if_pos c_2]
    have er : 0 = rX3_drive pu fu se x g k tp pl := by rw [rX3_drive, if_pos c_2]
    refine W.zret (ty := .boolean) (v := 0) hx hb hr rfl (fun t ht hW => ⟨⟨0, (), rfl, er, ?_⟩, hS.F ht⟩) hS.2.2 dX3_drive_33
    rw [es0]; rw [es1]; exact ⟨by rw [ht]; exact hP, va_K.moved hW.alike hK, hD⟩
  · refine lv_iload_n hx hb dX3_drive_10 rfl (lv_at hl 2 rfl) ?_
    refine lv_iconst (v := 0) hx hb dX3_drive_11 (by decide) ?_
    refine lv_sipush (v := 10000) hx hb dX3_drive_12 (by decide) ?_
    have hPc := hP.sub (ws' := []) [] rfl
    have hDc := hD.sub (ws' := []) [] (by decide) rfl
    have hFc := va_free (wc := []) hD hS hA [] rfl
    refine va_calli (va_runS (As := [.int fu, .int 0, .int 10000]) (rest := []) ⟨hx, hb, hml, hown, hts⟩ (kX3_within l dC dI cI cJ H.size fu 0 10000) (va_cwS 3 hts gX3_drive_X3_within rfl rfl rfl (by decide +kernel) ⟨Nat.le_of_ble_eq_true rfl, Nat.le_of_ble_eq_true rfl⟩) ⟨fun a U g mk q => by obtain ⟨q0, q1, qP, qK, qD⟩ := q; exact ⟨q0, q1, qP, va_K.moved (u := U) (U := U.calling g mk a) (Vm.Alike.refl U.vm) qK, qD⟩, fun U hU hW => ⟨rfl, by rw [hU], by rw [hU]; exact hPc, va_K.moved hW.alike hK, hDc.weaken (fun _ _ _ _ => trivial)⟩⟩ rfl rfl hl.1 rfl (lv_room (Nat.le_of_ble_eq_true rfl)) dX3_drive_15 ⟨Nat.le_of_ble_eq_true rfl, Nat.le_of_ble_eq_true rfl⟩) hS (fun q _ h => hFc q h) hFc (fun r_3 _ t H1 locs ht hvm hw hB hz1 hk1 hS => ?_)
    obtain ⟨hP1, hK1, hD1⟩ := hB
    rw [ht] at hP1
    obtain ⟨hP, hD⟩ := va_join (wr := [cX0 h0 n0 k0 t0 p0 x, cL0 n0 n1 n2 n3 g, cL1 cJ n1 g, cL2 cI n2 g, cL3 cI n3 g, cL0 k0 k1 k2 k3 k, cL1 cJ k1 k, cL2 cI k2 k, cL3 cI k3 k, cT0 t0 t1 tp, cT1 cI t1 tp, cP0 p0 p1 p2 p3 p4 p5 pl, cP1 cI p1 pl, cP2 cI p2 pl, cP3 cI p3 pl, cP4 cI p4 pl, cP5 cI p5 pl]) (w1 := []) hP hD [] [0, 1, 2, 3, 4, 5, 6, 7, 8, 9, 10, 11, 12, 13, 14, 15, 16] rfl rfl (by decide) (by decide) hk1 hFc hP1 hD1
    generalize H1 = H at hP hS ⊢
    have hP : va_P (dC, dI) vwCl [cX0 h0 n0 k0 t0 p0 x, cL0 n0 n1 n2 n3 g, cL1 cJ n1 g, cL2 cI n2 g, cL3 cI n3 g, cL0 k0 k1 k2 k3 k, cL1 cJ k1 k, cL2 cI k2 k, cL3 cI k3 k, cT0 t0 t1 tp, cT1 cI t1 tp, cP0 p0 p1 p2 p3 p4 p5 pl, cP1 cI p1 pl, cP2 cI p2 pl, cP3 cI p3 pl, cP4 cI p4 pl, cP5 cI p5 pl] H := hP
    have hD : va_D A [cX0 h0 n0 k0 t0 p0 x, cL0 n0 n1 n2 n3 g, cL1 cJ n1 g, cL2 cI n2 g, cL3 cI n3 g, cL0 k0 k1 k2 k3 k, cL1 cJ k1 k, cL2 cI k2 k, cL3 cI k3 k, cT0 t0 t1 tp, cT1 cI t1 tp, cP0 p0 p1 p2 p3 p4 p5 pl, cP1 cI p1 pl, cP2 cI p2 pl, cP3 cI p3 pl, cP4 cI p4 pl, cP5 cI p5 pl] := hD
    subst hw
    refine lv_if_eq (tgt := 32) hx hb dX3_drive_18 (by decide) (fun c_4 => ?_) (fun c_4 => ?_)
    · refine lv_iconst (v := 0) hx hb dX3_drive_32 (by decide) ?_
      have es0 : sX3_drive_x pu fu se x g k tp pl = x := by rw [sX3_drive_x, if_neg c_2, if_pos c_4]
      have es1 : sX3_drive_g pu fu se x g k tp pl = g := by rw [sX3_drive_g, if_neg c_2, if_pos c_4]
      have er : 0 = rX3_drive pu fu se x g k tp pl := by rw [rX3_drive, if_neg c_2, if_pos c_4]
      refine W.zret (ty := .boolean) (v := 0) hx hb hr rfl (fun t ht hW => ⟨⟨0, (), rfl, er, ?_⟩, hS.F ht⟩) hS.2.2 dX3_drive_33
      rw [es0]; rw [es1]; exact ⟨by rw [ht]; exact hP, va_K.moved hW.alike hK, hD⟩
    · refine lv_iload_n hx hb dX3_drive_21 rfl (lv_at hl 3 rfl) ?_
      refine lv_iconst (v := 1) hx hb dX3_drive_22 (by decide) ?_
      refine lv_sipush (v := 3600) hx hb dX3_drive_23 (by decide) ?_
      have hPc := hP.sub (ws' := []) [] rfl
      have hDc := hD.sub (ws' := []) [] (by decide) rfl
      have hFc := va_free (wc := []) hD hS hA [] rfl
      refine va_calli (va_runS (As := [.int se, .int 1, .int 3600]) (rest := []) ⟨hx, hb, hml, hown, hts⟩ (kX3_within l dC dI cI cJ H.size se 1 3600) (va_cwS 3 hts gX3_drive_X3_within rfl rfl rfl (by decide +kernel) ⟨Nat.le_of_ble_eq_true rfl, Nat.le_of_ble_eq_true rfl⟩) ⟨fun a U g mk q => by obtain ⟨q0, q1, qP, qK, qD⟩ := q; exact ⟨q0, q1, qP, va_K.moved (u := U) (U := U.calling g mk a) (Vm.Alike.refl U.vm) qK, qD⟩, fun U hU hW => ⟨rfl, by rw [hU], by rw [hU]; exact hPc, va_K.moved hW.alike hK, hDc.weaken (fun _ _ _ _ => trivial)⟩⟩ rfl rfl hl.1 rfl (lv_room (Nat.le_of_ble_eq_true rfl)) dX3_drive_26 ⟨Nat.le_of_ble_eq_true rfl, Nat.le_of_ble_eq_true rfl⟩) hS (fun q _ h => hFc q h) hFc (fun r_5 _ t H1 locs ht hvm hw hB hz1 hk1 hS => ?_)
      obtain ⟨hP1, hK1, hD1⟩ := hB
      rw [ht] at hP1
      obtain ⟨hP, hD⟩ := va_join (wr := [cX0 h0 n0 k0 t0 p0 x, cL0 n0 n1 n2 n3 g, cL1 cJ n1 g, cL2 cI n2 g, cL3 cI n3 g, cL0 k0 k1 k2 k3 k, cL1 cJ k1 k, cL2 cI k2 k, cL3 cI k3 k, cT0 t0 t1 tp, cT1 cI t1 tp, cP0 p0 p1 p2 p3 p4 p5 pl, cP1 cI p1 pl, cP2 cI p2 pl, cP3 cI p3 pl, cP4 cI p4 pl, cP5 cI p5 pl]) (w1 := []) hP hD [] [0, 1, 2, 3, 4, 5, 6, 7, 8, 9, 10, 11, 12, 13, 14, 15, 16] rfl rfl (by decide) (by decide) hk1 hFc hP1 hD1
      generalize H1 = H at hP hS ⊢
      have hP : va_P (dC, dI) vwCl [cX0 h0 n0 k0 t0 p0 x, cL0 n0 n1 n2 n3 g, cL1 cJ n1 g, cL2 cI n2 g, cL3 cI n3 g, cL0 k0 k1 k2 k3 k, cL1 cJ k1 k, cL2 cI k2 k, cL3 cI k3 k, cT0 t0 t1 tp, cT1 cI t1 tp, cP0 p0 p1 p2 p3 p4 p5 pl, cP1 cI p1 pl, cP2 cI p2 pl, cP3 cI p3 pl, cP4 cI p4 pl, cP5 cI p5 pl] H := hP
      have hD : va_D A [cX0 h0 n0 k0 t0 p0 x, cL0 n0 n1 n2 n3 g, cL1 cJ n1 g, cL2 cI n2 g, cL3 cI n3 g, cL0 k0 k1 k2 k3 k, cL1 cJ k1 k, cL2 cI k2 k, cL3 cI k3 k, cT0 t0 t1 tp, cT1 cI t1 tp, cP0 p0 p1 p2 p3 p4 p5 pl, cP1 cI p1 pl, cP2 cI p2 pl, cP3 cI p3 pl, cP4 cI p4 pl, cP5 cI p5 pl] := hD
      subst hw
      refine lv_if_ne (tgt := 34) hx hb dX3_drive_29 (by decide) (fun c_6 => ?_) (fun c_6 => ?_)
      · refine lv_aload_n hx hb dX3_drive_34 rfl (lv_at hl 0 rfl) ?_
        refine va_get (D := (dC, dI)) (ci := 3) (v := .long x.2.2.2.2.2.2.2) (C := RX3) (T := TX3) (N := 12) hx hb hts hiX3 hown hK hP 0 rfl rfl 11 (by decide) (hts (.fieldLink RX3 56 "TripReckoner" "pulsesInAll" "J") (by decide +kernel)) (fun _ h9 => h9) rfl dX3_drive_35 ?_
        refine lv_iload_n hx hb dX3_drive_38 rfl (lv_at hl 1 rfl) ?_
        refine lv_i2l (v := pu.toInt64) hx hb dX3_drive_39 rfl ?_
        refine lv_ladd hx hb dX3_drive_40 ?_
        refine lv_ldc2 hx hb hown (hts (.constantLong RX3 88 (100000000)) (by decide +kernel)) dX3_drive_41 ?_
        refine W.lcmp hx hb dX3_drive_44 ?_
        refine lv_if_le (tgt := 50) hx hb dX3_drive_45 (by decide) (fun c_7 => ?_) (fun c_7 => ?_)
        · refine lv_aload_n hx hb dX3_drive_50 rfl (lv_at hl 0 rfl) ?_
          refine lv_dup hx hb dX3_drive_51 rfl ?_
          refine va_get (D := (dC, dI)) (ci := 3) (v := .long x.2.2.2.2.2.2.2) (C := RX3) (T := TX3) (N := 12) hx hb hts hiX3 hown hK hP 0 rfl rfl 11 (by decide) (hts (.fieldLink RX3 56 "TripReckoner" "pulsesInAll" "J") (by decide +kernel)) (fun _ h9 => h9) rfl dX3_drive_52 ?_
          refine lv_iload_n hx hb dX3_drive_55 rfl (lv_at hl 1 rfl) ?_
          refine lv_i2l (v := pu.toInt64) hx hb dX3_drive_56 rfl ?_
          refine lv_ladd hx hb dX3_drive_57 ?_
          refine va_put (D := (dC, dI)) (ci := 3) (v := .long (x.2.2.2.2.2.2.2 + pu.toInt64)) (ty := .long) (C := RX3) (T := TX3) (N := 12) hx hb hts hiX3 tyX3 tyX3_ok nmX3 hown hK hP hD hS 0 rfl rfl 11 (by decide) (hts (.fieldLink RX3 56 "TripReckoner" "pulsesInAll" "J") (by decide +kernel)) (fun _ h9 => h9) rfl (by decide +kernel) rfl rfl (Nat.le_of_ble_eq_true rfl) dX3_drive_58 (fun H locs hP hD hS => ?_)
          have hP : va_P (dC, dI) vwCl [(h0, .inr (3, [.ref n0, .ref k0, .ref t0, .ref p0, .int x.1, .int x.2.1, .int x.2.2.1, .int x.2.2.2.1, .int x.2.2.2.2.1, .int x.2.2.2.2.2.1, .int x.2.2.2.2.2.2.1, .long (x.2.2.2.2.2.2.2 + pu.toInt64)])), cL0 n0 n1 n2 n3 g, cL1 cJ n1 g, cL2 cI n2 g, cL3 cI n3 g, cL0 k0 k1 k2 k3 k, cL1 cJ k1 k, cL2 cI k2 k, cL3 cI k3 k, cT0 t0 t1 tp, cT1 cI t1 tp, cP0 p0 p1 p2 p3 p4 p5 pl, cP1 cI p1 pl, cP2 cI p2 pl, cP3 cI p3 pl, cP4 cI p4 pl, cP5 cI p5 pl] H := hP
          have hD : va_D A [(h0, .inr (3, [.ref n0, .ref k0, .ref t0, .ref p0, .int x.1, .int x.2.1, .int x.2.2.1, .int x.2.2.2.1, .int x.2.2.2.2.1, .int x.2.2.2.2.2.1, .int x.2.2.2.2.2.2.1, .long (x.2.2.2.2.2.2.2 + pu.toInt64)])), cL0 n0 n1 n2 n3 g, cL1 cJ n1 g, cL2 cI n2 g, cL3 cI n3 g, cL0 k0 k1 k2 k3 k, cL1 cJ k1 k, cL2 cI k2 k, cL3 cI k3 k, cT0 t0 t1 tp, cT1 cI t1 tp, cP0 p0 p1 p2 p3 p4 p5 pl, cP1 cI p1 pl, cP2 cI p2 pl, cP3 cI p3 pl, cP4 cI p4 pl, cP5 cI p5 pl] := hD
          refine lv_aload_n hx hb dX3_drive_61 rfl (lv_at hl 0 rfl) ?_
          refine va_get (D := (dC, dI)) (ci := 3) (v := .ref n0) (C := RX3) (T := TX3) (N := 12) hx hb hts hiX3 hown hK hP 0 rfl rfl 0 (by decide) (hts (.fieldLink RX3 10 "TripReckoner" "now" "LTripReckoner$Ledger;") (by decide +kernel)) (fun _ h9 => h9) rfl dX3_drive_62 ?_
          refine lv_iload_n hx hb dX3_drive_65 rfl (lv_at hl 1 rfl) ?_
          refine lv_iload_n hx hb dX3_drive_66 rfl (lv_at hl 1 rfl) ?_
          refine lv_iload_n hx hb dX3_drive_67 rfl (lv_at hl 2 rfl) ?_
          refine lv_iload_n hx hb dX3_drive_68 rfl (lv_at hl 2 rfl) ?_
          refine lv_iload_n hx hb dX3_drive_69 rfl (lv_at hl 3 rfl) ?_
          have hPc := hP.sub (ws' := [cL0 n0 n1 n2 n3 g, cL1 cJ n1 g, cL2 cI n2 g, cL3 cI n3 g]) [1, 2, 3, 4] rfl
          have hDc := hD.sub (ws' := [cL0 n0 n1 n2 n3 g, cL1 cJ n1 g, cL2 cI n2 g, cL3 cI n3 g]) [1, 2, 3, 4] (by decide) rfl
          have hFc := va_free (wc := [cL0 n0 n1 n2 n3 g, cL1 cJ n1 g, cL2 cI n2 g, cL3 cI n3 g]) hD hS hA [1, 2, 3, 4] rfl
          refine va_callv (va_runVN (As := [.int pu, .int pu, .int fu, .int fu, .int se]) (rest := []) ⟨hx, hb, hml, hown, hts⟩ (kX0_pass l dC dI cI cJ n0 n1 n2 n3 H.size pu pu fu fu se g) ⟨va_cnB 5 hts gX3_drive_X0_pass_n90 rfl rfl rfl (nw_m hN (.methodLinkNest RX3 90 yX0_pass "TripReckoner") (by decide +kernel)) (hts (.initialized RX0) (by decide +kernel)) (by decide +kernel) ⟨Nat.le_of_ble_eq_true rfl, Nat.le_of_ble_eq_true rfl⟩, (hts (.instanceMethod yX0_pass) (by decide +kernel)), (hts (.selects RX0 yX0_pass yX0_pass) (by decide +kernel))⟩ ⟨fun a U g mk q => by obtain ⟨q0, q1, qP, qK, qD⟩ := q; exact ⟨q0, q1, qP, va_K.moved (u := U) (U := U.calling g mk a) (Vm.Alike.refl U.vm) qK, qD⟩, va_recv hK hPc (ci := 0) (q0 := 0) rfl rfl, fun U hU hW => ⟨rfl, by rw [hU], by rw [hU]; exact hPc, va_K.moved hW.alike hK, hDc.weaken (fun _ _ _ _ => trivial)⟩⟩ rfl rfl hl.1 rfl (lv_room (Nat.le_of_ble_eq_true rfl)) dX3_drive_70 ⟨Nat.le_of_ble_eq_true rfl, Nat.le_of_ble_eq_true rfl⟩) hS (fun q _ h => hFc q h) hFc (fun _ t H1 locs ht hvm hw hB hz1 hk1 hS => ?_)
          obtain ⟨hP1, hK1, hD1⟩ := hB
          rw [ht] at hP1
          obtain ⟨g_9, eg_9⟩ : ∃ z, z = sX0_pass pu pu fu fu se g := ⟨_, rfl⟩
          rw [← eg_9] at hP1 hD1
          obtain ⟨hP, hD⟩ := va_join (wr := [(h0, .inr (3, [.ref n0, .ref k0, .ref t0, .ref p0, .int x.1, .int x.2.1, .int x.2.2.1, .int x.2.2.2.1, .int x.2.2.2.2.1, .int x.2.2.2.2.2.1, .int x.2.2.2.2.2.2.1, .long (x.2.2.2.2.2.2.2 + pu.toInt64)])), cL0 k0 k1 k2 k3 k, cL1 cJ k1 k, cL2 cI k2 k, cL3 cI k3 k, cT0 t0 t1 tp, cT1 cI t1 tp, cP0 p0 p1 p2 p3 p4 p5 pl, cP1 cI p1 pl, cP2 cI p2 pl, cP3 cI p3 pl, cP4 cI p4 pl, cP5 cI p5 pl]) (w1 := [cL0 n0 n1 n2 n3 g_9, cL1 cJ n1 g_9, cL2 cI n2 g_9, cL3 cI n3 g_9]) hP hD [1, 2, 3, 4] [0, 5, 6, 7, 8, 9, 10, 11, 12, 13, 14, 15, 16] rfl rfl (by decide) (by decide) hk1 hFc hP1 hD1
          generalize H1 = H at hP hS ⊢
          have hP := hP.sub (ws' := [(h0, .inr (3, [.ref n0, .ref k0, .ref t0, .ref p0, .int x.1, .int x.2.1, .int x.2.2.1, .int x.2.2.2.1, .int x.2.2.2.2.1, .int x.2.2.2.2.2.1, .int x.2.2.2.2.2.2.1, .long (x.2.2.2.2.2.2.2 + pu.toInt64)])), cL0 n0 n1 n2 n3 g_9, cL1 cJ n1 g_9, cL2 cI n2 g_9, cL3 cI n3 g_9, cL0 k0 k1 k2 k3 k, cL1 cJ k1 k, cL2 cI k2 k, cL3 cI k3 k, cT0 t0 t1 tp, cT1 cI t1 tp, cP0 p0 p1 p2 p3 p4 p5 pl, cP1 cI p1 pl, cP2 cI p2 pl, cP3 cI p3 pl, cP4 cI p4 pl, cP5 cI p5 pl]) [0, 13, 14, 15, 16, 1, 2, 3, 4, 5, 6, 7, 8, 9, 10, 11, 12] rfl
          have hD := hD.sub (ws' := [(h0, .inr (3, [.ref n0, .ref k0, .ref t0, .ref p0, .int x.1, .int x.2.1, .int x.2.2.1, .int x.2.2.2.1, .int x.2.2.2.2.1, .int x.2.2.2.2.2.1, .int x.2.2.2.2.2.2.1, .long (x.2.2.2.2.2.2.2 + pu.toInt64)])), cL0 n0 n1 n2 n3 g_9, cL1 cJ n1 g_9, cL2 cI n2 g_9, cL3 cI n3 g_9, cL0 k0 k1 k2 k3 k, cL1 cJ k1 k, cL2 cI k2 k, cL3 cI k3 k, cT0 t0 t1 tp, cT1 cI t1 tp, cP0 p0 p1 p2 p3 p4 p5 pl, cP1 cI p1 pl, cP2 cI p2 pl, cP3 cI p3 pl, cP4 cI p4 pl, cP5 cI p5 pl]) [0, 13, 14, 15, 16, 1, 2, 3, 4, 5, 6, 7, 8, 9, 10, 11, 12] (by decide) rfl
          refine lv_aload_n hx hb dX3_drive_73 rfl (lv_at hl 0 rfl) ?_
          refine va_get (D := (dC, dI)) (ci := 3) (v := .ref n0) (C := RX3) (T := TX3) (N := 12) hx hb hts hiX3 hown hK hP 0 rfl rfl 0 (by decide) (hts (.fieldLink RX3 10 "TripReckoner" "now" "LTripReckoner$Ledger;") (by decide +kernel)) (fun _ h9 => h9) rfl dX3_drive_74 ?_
          refine lv_iload_n hx hb dX3_drive_77 rfl (lv_at hl 2 rfl) ?_
          have hPc := hP.sub (ws' := [cL0 n0 n1 n2 n3 g_9, cL1 cJ n1 g_9, cL2 cI n2 g_9, cL3 cI n3 g_9]) [1, 2, 3, 4] rfl
          have hDc := hD.sub (ws' := [cL0 n0 n1 n2 n3 g_9, cL1 cJ n1 g_9, cL2 cI n2 g_9, cL3 cI n3 g_9]) [1, 2, 3, 4] (by decide) rfl
          have hFc := va_free (wc := [cL0 n0 n1 n2 n3 g_9, cL1 cJ n1 g_9, cL2 cI n2 g_9, cL3 cI n3 g_9]) hD hS hA [1, 2, 3, 4] rfl
          refine va_callv (va_runVN (As := [.int fu]) (rest := []) ⟨hx, hb, hml, hown, hts⟩ (kX0_burn l dC dI cI cJ n0 n1 n2 n3 H.size fu g_9) ⟨va_cnB 1 hts gX3_drive_X0_burn_n94 rfl rfl rfl (nw_m hN (.methodLinkNest RX3 94 yX0_burn "TripReckoner") (by decide +kernel)) (hts (.initialized RX0) (by decide +kernel)) (by decide +kernel) ⟨Nat.le_of_ble_eq_true rfl, Nat.le_of_ble_eq_true rfl⟩, (hts (.instanceMethod yX0_burn) (by decide +kernel)), (hts (.selects RX0 yX0_burn yX0_burn) (by decide +kernel))⟩ ⟨fun a U g mk q => by obtain ⟨q0, q1, qP, qK, qD⟩ := q; exact ⟨q0, q1, qP, va_K.moved (u := U) (U := U.calling g mk a) (Vm.Alike.refl U.vm) qK, qD⟩, va_recv hK hPc (ci := 0) (q0 := 0) rfl rfl, fun U hU hW => ⟨rfl, by rw [hU], by rw [hU]; exact hPc, va_K.moved hW.alike hK, hDc.weaken (fun _ _ _ _ => trivial)⟩⟩ rfl rfl hl.1 rfl (lv_room (Nat.le_of_ble_eq_true rfl)) dX3_drive_78 ⟨Nat.le_of_ble_eq_true rfl, Nat.le_of_ble_eq_true rfl⟩) hS (fun q _ h => hFc q h) hFc (fun _ t H1 locs ht hvm hw hB hz1 hk1 hS => ?_)
          obtain ⟨hP1, hK1, hD1⟩ := hB
          rw [ht] at hP1
          obtain ⟨g_11, eg_11⟩ : ∃ z, z = sX0_burn fu g_9 := ⟨_, rfl⟩
          rw [← eg_11] at hP1 hD1
          obtain ⟨hP, hD⟩ := va_join (wr := [(h0, .inr (3, [.ref n0, .ref k0, .ref t0, .ref p0, .int x.1, .int x.2.1, .int x.2.2.1, .int x.2.2.2.1, .int x.2.2.2.2.1, .int x.2.2.2.2.2.1, .int x.2.2.2.2.2.2.1, .long (x.2.2.2.2.2.2.2 + pu.toInt64)])), cL0 k0 k1 k2 k3 k, cL1 cJ k1 k, cL2 cI k2 k, cL3 cI k3 k, cT0 t0 t1 tp, cT1 cI t1 tp, cP0 p0 p1 p2 p3 p4 p5 pl, cP1 cI p1 pl, cP2 cI p2 pl, cP3 cI p3 pl, cP4 cI p4 pl, cP5 cI p5 pl]) (w1 := [cL0 n0 n1 n2 n3 g_11, cL1 cJ n1 g_11, cL2 cI n2 g_11, cL3 cI n3 g_11]) hP hD [1, 2, 3, 4] [0, 5, 6, 7, 8, 9, 10, 11, 12, 13, 14, 15, 16] rfl rfl (by decide) (by decide) hk1 hFc hP1 hD1
          generalize H1 = H at hP hS ⊢
          have hP := hP.sub (ws' := [(h0, .inr (3, [.ref n0, .ref k0, .ref t0, .ref p0, .int x.1, .int x.2.1, .int x.2.2.1, .int x.2.2.2.1, .int x.2.2.2.2.1, .int x.2.2.2.2.2.1, .int x.2.2.2.2.2.2.1, .long (x.2.2.2.2.2.2.2 + pu.toInt64)])), cL0 n0 n1 n2 n3 g_11, cL1 cJ n1 g_11, cL2 cI n2 g_11, cL3 cI n3 g_11, cL0 k0 k1 k2 k3 k, cL1 cJ k1 k, cL2 cI k2 k, cL3 cI k3 k, cT0 t0 t1 tp, cT1 cI t1 tp, cP0 p0 p1 p2 p3 p4 p5 pl, cP1 cI p1 pl, cP2 cI p2 pl, cP3 cI p3 pl, cP4 cI p4 pl, cP5 cI p5 pl]) [0, 13, 14, 15, 16, 1, 2, 3, 4, 5, 6, 7, 8, 9, 10, 11, 12] rfl
          have hD := hD.sub (ws' := [(h0, .inr (3, [.ref n0, .ref k0, .ref t0, .ref p0, .int x.1, .int x.2.1, .int x.2.2.1, .int x.2.2.2.1, .int x.2.2.2.2.1, .int x.2.2.2.2.2.1, .int x.2.2.2.2.2.2.1, .long (x.2.2.2.2.2.2.2 + pu.toInt64)])), cL0 n0 n1 n2 n3 g_11, cL1 cJ n1 g_11, cL2 cI n2 g_11, cL3 cI n3 g_11, cL0 k0 k1 k2 k3 k, cL1 cJ k1 k, cL2 cI k2 k, cL3 cI k3 k, cT0 t0 t1 tp, cT1 cI t1 tp, cP0 p0 p1 p2 p3 p4 p5 pl, cP1 cI p1 pl, cP2 cI p2 pl, cP3 cI p3 pl, cP4 cI p4 pl, cP5 cI p5 pl]) [0, 13, 14, 15, 16, 1, 2, 3, 4, 5, 6, 7, 8, 9, 10, 11, 12] (by decide) rfl
          refine lv_aload_n hx hb dX3_drive_81 rfl (lv_at hl 0 rfl) ?_
          refine va_get (D := (dC, dI)) (ci := 3) (v := .ref n0) (C := RX3) (T := TX3) (N := 12) hx hb hts hiX3 hown hK hP 0 rfl rfl 0 (by decide) (hts (.fieldLink RX3 10 "TripReckoner" "now" "LTripReckoner$Ledger;") (by decide +kernel)) (fun _ h9 => h9) rfl dX3_drive_82 ?_
          have hPc := hP.sub (ws' := [cL0 n0 n1 n2 n3 g_11, cL1 cJ n1 g_11, cL2 cI n2 g_11, cL3 cI n3 g_11]) [1, 2, 3, 4] rfl
          have hDc := hD.sub (ws' := [cL0 n0 n1 n2 n3 g_11, cL1 cJ n1 g_11, cL2 cI n2 g_11, cL3 cI n3 g_11]) [1, 2, 3, 4] (by decide) rfl
          have hFc := va_free (wc := [cL0 n0 n1 n2 n3 g_11, cL1 cJ n1 g_11, cL2 cI n2 g_11, cL3 cI n3 g_11]) hD hS hA [1, 2, 3, 4] rfl
          refine va_callv (va_runVN (As := []) (rest := []) ⟨hx, hb, hml, hown, hts⟩ (kX0_showStep l dC dI cI cJ n0 n1 n2 n3 H.size g_11) ⟨va_cnB 0 hts gX3_drive_X0_showStep_n97 rfl rfl rfl (nw_m hN (.methodLinkNest RX3 97 yX0_showStep "TripReckoner") (by decide +kernel)) (hts (.initialized RX0) (by decide +kernel)) (by decide +kernel) ⟨Nat.le_of_ble_eq_true rfl, Nat.le_of_ble_eq_true rfl⟩, (hts (.instanceMethod yX0_showStep) (by decide +kernel)), (hts (.selects RX0 yX0_showStep yX0_showStep) (by decide +kernel))⟩ ⟨fun a U g mk q => by obtain ⟨q0, q1, qP, qK, qD⟩ := q; exact ⟨q0, q1, qP, va_K.moved (u := U) (U := U.calling g mk a) (Vm.Alike.refl U.vm) qK, qD⟩, va_recv hK hPc (ci := 0) (q0 := 0) rfl rfl, fun U hU hW => ⟨rfl, by rw [hU], by rw [hU]; exact hPc, va_K.moved hW.alike hK, hDc.weaken (fun _ _ _ _ => trivial)⟩⟩ rfl rfl hl.1 rfl (lv_room (Nat.le_of_ble_eq_true rfl)) dX3_drive_85 ⟨Nat.le_of_ble_eq_true rfl, Nat.le_of_ble_eq_true rfl⟩) hS (fun q _ h => hFc q h) hFc (fun _ t H1 locs ht hvm hw hB hz1 hk1 hS => ?_)
          obtain ⟨hP1, hK1, hD1⟩ := hB
          rw [ht] at hP1
          obtain ⟨g_13, eg_13⟩ : ∃ z, z = sX0_showStep g_11 := ⟨_, rfl⟩
          rw [← eg_13] at hP1 hD1
          obtain ⟨hP, hD⟩ := va_join (wr := [(h0, .inr (3, [.ref n0, .ref k0, .ref t0, .ref p0, .int x.1, .int x.2.1, .int x.2.2.1, .int x.2.2.2.1, .int x.2.2.2.2.1, .int x.2.2.2.2.2.1, .int x.2.2.2.2.2.2.1, .long (x.2.2.2.2.2.2.2 + pu.toInt64)])), cL0 k0 k1 k2 k3 k, cL1 cJ k1 k, cL2 cI k2 k, cL3 cI k3 k, cT0 t0 t1 tp, cT1 cI t1 tp, cP0 p0 p1 p2 p3 p4 p5 pl, cP1 cI p1 pl, cP2 cI p2 pl, cP3 cI p3 pl, cP4 cI p4 pl, cP5 cI p5 pl]) (w1 := [cL0 n0 n1 n2 n3 g_13, cL1 cJ n1 g_13, cL2 cI n2 g_13, cL3 cI n3 g_13]) hP hD [1, 2, 3, 4] [0, 5, 6, 7, 8, 9, 10, 11, 12, 13, 14, 15, 16] rfl rfl (by decide) (by decide) hk1 hFc hP1 hD1
          generalize H1 = H at hP hS ⊢
          have hP := hP.sub (ws' := [(h0, .inr (3, [.ref n0, .ref k0, .ref t0, .ref p0, .int x.1, .int x.2.1, .int x.2.2.1, .int x.2.2.2.1, .int x.2.2.2.2.1, .int x.2.2.2.2.2.1, .int x.2.2.2.2.2.2.1, .long (x.2.2.2.2.2.2.2 + pu.toInt64)])), cL0 n0 n1 n2 n3 g_13, cL1 cJ n1 g_13, cL2 cI n2 g_13, cL3 cI n3 g_13, cL0 k0 k1 k2 k3 k, cL1 cJ k1 k, cL2 cI k2 k, cL3 cI k3 k, cT0 t0 t1 tp, cT1 cI t1 tp, cP0 p0 p1 p2 p3 p4 p5 pl, cP1 cI p1 pl, cP2 cI p2 pl, cP3 cI p3 pl, cP4 cI p4 pl, cP5 cI p5 pl]) [0, 13, 14, 15, 16, 1, 2, 3, 4, 5, 6, 7, 8, 9, 10, 11, 12] rfl
          have hD := hD.sub (ws' := [(h0, .inr (3, [.ref n0, .ref k0, .ref t0, .ref p0, .int x.1, .int x.2.1, .int x.2.2.1, .int x.2.2.2.1, .int x.2.2.2.2.1, .int x.2.2.2.2.2.1, .int x.2.2.2.2.2.2.1, .long (x.2.2.2.2.2.2.2 + pu.toInt64)])), cL0 n0 n1 n2 n3 g_13, cL1 cJ n1 g_13, cL2 cI n2 g_13, cL3 cI n3 g_13, cL0 k0 k1 k2 k3 k, cL1 cJ k1 k, cL2 cI k2 k, cL3 cI k3 k, cT0 t0 t1 tp, cT1 cI t1 tp, cP0 p0 p1 p2 p3 p4 p5 pl, cP1 cI p1 pl, cP2 cI p2 pl, cP3 cI p3 pl, cP4 cI p4 pl, cP5 cI p5 pl]) [0, 13, 14, 15, 16, 1, 2, 3, 4, 5, 6, 7, 8, 9, 10, 11, 12] (by decide) rfl
          refine lv_iconst (v := 1) hx hb dX3_drive_88 (by decide) ?_
          have es0 : sX3_drive_x pu fu se x g k tp pl = (x.1, x.2.1, x.2.2.1, x.2.2.2.1, x.2.2.2.2.1, x.2.2.2.2.2.1, x.2.2.2.2.2.2.1, x.2.2.2.2.2.2.2 + pu.toInt64) := by rw [sX3_drive_x, if_neg c_2, if_neg c_4, if_neg c_6, if_pos c_7, ← eg_9, sX3_drive_x_g_9, ← eg_11, sX3_drive_x_g_11, ← eg_13, sX3_drive_x_g_13]
          have es1 : sX3_drive_g pu fu se x g k tp pl = g_13 := by rw [sX3_drive_g, if_neg c_2, if_neg c_4, if_neg c_6, if_pos c_7, ← eg_9, sX3_drive_g_g_9, ← eg_11, sX3_drive_g_g_11, ← eg_13, sX3_drive_g_g_13]
          have er : 1 = rX3_drive pu fu se x g k tp pl := by rw [rX3_drive, if_neg c_2, if_neg c_4, if_neg c_6, if_pos c_7, ← eg_9, rX3_drive_g_9, ← eg_11, rX3_drive_g_11, ← eg_13, rX3_drive_g_13]
          refine W.zret (ty := .boolean) (v := 1) hx hb hr rfl (fun t ht hW => ⟨⟨1, (), rfl, er, ?_⟩, hS.F ht⟩) hS.2.2 dX3_drive_89
          rw [es0]; rw [es1]; exact ⟨by rw [ht]; exact hP, va_K.moved hW.alike hK, hD⟩
        · refine lv_iconst (v := 0) hx hb dX3_drive_48 (by decide) ?_
          have es0 : sX3_drive_x pu fu se x g k tp pl = x := by rw [sX3_drive_x, if_neg c_2, if_neg c_4, if_neg c_6, if_neg c_7]
          have es1 : sX3_drive_g pu fu se x g k tp pl = g := by rw [sX3_drive_g, if_neg c_2, if_neg c_4, if_neg c_6, if_neg c_7]
          have er : 0 = rX3_drive pu fu se x g k tp pl := by rw [rX3_drive, if_neg c_2, if_neg c_4, if_neg c_6, if_neg c_7]
          refine W.zret (ty := .boolean) (v := 0) hx hb hr rfl (fun t ht hW => ⟨⟨0, (), rfl, er, ?_⟩, hS.F ht⟩) hS.2.2 dX3_drive_49
          rw [es0]; rw [es1]; exact ⟨by rw [ht]; exact hP, va_K.moved hW.alike hK, hD⟩
      · refine lv_iconst (v := 0) hx hb dX3_drive_32 (by decide) ?_
        have es0 : sX3_drive_x pu fu se x g k tp pl = x := by rw [sX3_drive_x, if_neg c_2, if_neg c_4, if_pos c_6]
        have es1 : sX3_drive_g pu fu se x g k tp pl = g := by rw [sX3_drive_g, if_neg c_2, if_neg c_4, if_pos c_6]
        have er : 0 = rX3_drive pu fu se x g k tp pl := by rw [rX3_drive, if_neg c_2, if_neg c_4, if_pos c_6]
        refine W.zret (ty := .boolean) (v := 0) hx hb hr rfl (fun t ht hW => ⟨⟨0, (), rfl, er, ?_⟩, hS.F ht⟩) hS.2.2 dX3_drive_33
        rw [es0]; rw [es1]; exact ⟨by rw [ht]; exact hP, va_K.moved hW.alike hK, hD⟩

def rX3_gapFits (se : Int32) (x : XC) (g : LG) (k : LG) (tp : TP) (pl : PL) : Int32 :=
  if (rX3_within se 1 36000) = 0 then
    0
  else
    if 0 < (lg_cmp (x.2.2.2.2.2.2.2 + (x.2.2.2.1.toInt64 * se.toInt64)) 100000000) then
      0
    else
      1
set_option maxHeartbeats 4000000 in
set_option maxRecDepth 100000 in
theorem kX3_gapFits (l : Launch) (dC : Nat → ClassId) (dI : Nat → Nat → Nat) (cI cJ : ClassId) (h0 n0 k0 t0 p0 n1 n2 n3 k1 k2 k3 t1 p1 p2 p3 p4 p5 : Nat) (sz : Nat) (se : Int32) (x : XC) (g : LG) (k : LG) (tp : TP) (pl : PL) : Met l yX3_gapFits wsX3_gapFits ({ frames := 1, cells := 0, slots := 0, locals := 22 }) (va_Pc [.ref h0, .int se] (fun U => U.heap.size = sz ∧ va_P (dC, dI) vwCl [cX0 h0 n0 k0 t0 p0 x, cL0 n0 n1 n2 n3 g, cL1 cJ n1 g, cL2 cI n2 g, cL3 cI n3 g, cL0 k0 k1 k2 k3 k, cL1 cJ k1 k, cL2 cI k2 k, cL3 cI k3 k, cT0 t0 t1 tp, cT1 cI t1 tp, cP0 p0 p1 p2 p3 p4 p5 pl, cP1 cI p1 pl, cP2 cI p2 pl, cP3 cI p3 pl, cP4 cI p4 pl, cP5 cI p5 pl] U.heap ∧ va_K (dC, dI) vwCl [(cI, .int), (cJ, .long)] U ∧ va_D (fun _ => True) [cX0 h0 n0 k0 t0 p0 x, cL0 n0 n1 n2 n3 g, cL1 cJ n1 g, cL2 cI n2 g, cL3 cI n3 g, cL0 k0 k1 k2 k3 k, cL1 cJ k1 k, cL2 cI k2 k, cL3 cI k3 k, cT0 t0 t1 tp, cT1 cI t1 tp, cP0 p0 p1 p2 p3 p4 p5 pl, cP1 cI p1 pl, cP2 cI p2 pl, cP3 cI p3 pl, cP4 cI p4 pl, cP5 cI p5 pl] ∧ nw U)) (va_Qi (fun (r : Int32) (_ : Unit) => r = rX3_gapFits se x g k tp pl) (fun _ t => va_P (dC, dI) vwCl [cX0 h0 n0 k0 t0 p0 x, cL0 n0 n1 n2 n3 g, cL1 cJ n1 g, cL2 cI n2 g, cL3 cI n3 g, cL0 k0 k1 k2 k3 k, cL1 cJ k1 k, cL2 cI k2 k, cL3 cI k3 k, cT0 t0 t1 tp, cT1 cI t1 tp, cP0 p0 p1 p2 p3 p4 p5 pl, cP1 cI p1 pl, cP2 cI p2 pl, cP3 cI p3 pl, cP4 cI p4 pl, cP5 cI p5 pl] t.heap ∧ va_K (dC, dI) vwCl [(cI, .int), (cJ, .long)] t ∧ va_D (va_A [cX0 h0 n0 k0 t0 p0 x, cL0 n0 n1 n2 n3 g, cL1 cJ n1 g, cL2 cI n2 g, cL3 cI n3 g, cL0 k0 k1 k2 k3 k, cL1 cJ k1 k, cL2 cI k2 k, cL3 cI k3 k, cT0 t0 t1 tp, cT1 cI t1 tp, cP0 p0 p1 p2 p3 p4 p5 pl, cP1 cI p1 pl, cP2 cI p2 pl, cP3 cI p3 pl, cP4 cI p4 pl, cP5 cI p5 pl] sz) [cX0 h0 n0 k0 t0 p0 x, cL0 n0 n1 n2 n3 g, cL1 cJ n1 g, cL2 cI n2 g, cL3 cI n3 g, cL0 k0 k1 k2 k3 k, cL1 cJ k1 k, cL2 cI k2 k, cL3 cI k3 k, cT0 t0 t1 tp, cT1 cI t1 tp, cP0 p0 p1 p2 p3 p4 p5 pl, cP1 cI p1 pl, cP2 cI p2 pl, cP3 cI p3 pl, cP4 cI p4 pl, cP5 cI p5 pl]) (va_A [cX0 h0 n0 k0 t0 p0 x, cL0 n0 n1 n2 n3 g, cL1 cJ n1 g, cL2 cI n2 g, cL3 cI n3 g, cL0 k0 k1 k2 k3 k, cL1 cJ k1 k, cL2 cI k2 k, cL3 cI k3 k, cT0 t0 t1 tp, cT1 cI t1 tp, cP0 p0 p1 p2 p3 p4 p5 pl, cP1 cI p1 pl, cP2 cI p2 pl, cP3 cI p3 pl, cP4 cI p4 pl, cP5 cI p5 pl] sz)) 0 0 (va_A [cX0 h0 n0 k0 t0 p0 x, cL0 n0 n1 n2 n3 g, cL1 cJ n1 g, cL2 cI n2 g, cL3 cI n3 g, cL0 k0 k1 k2 k3 k, cL1 cJ k1 k, cL2 cI k2 k, cL3 cI k3 k, cT0 t0 t1 tp, cT1 cI t1 tp, cP0 p0 p1 p2 p3 p4 p5 pl, cP1 cI p1 pl, cP2 cI p2 pl, cP3 cI p3 pl, cP4 cI p4 pl, cP5 cI p5 pl] sz) := by
  refine Met.ofW (cc := cX3_gapFits) (maxL := 2) (ret := (some .boolean)) (by decide) rfl ?_
  intro p e s m args below meth c s₁ B hml hv
  obtain ⟨rfl, hsz, hP, hK, hD0, hN⟩ := hv
  have hx := B.exec
  have hb := B.bytes
  have hr := B.returns
  have hts := atoms_spec (ws := wsX3_gapFits) B.pre
  have hown : s.vm.findClass RX3 = some m.cls := findClass_of_methodNamed B.named
  have hlocks := B.notSynchronized
  have hiX3 : ∀ w ∈ u_ws RX3 TX3 12, w ∈ wsX3_gapFits := by decide +kernel
  subst hsz
  have hD := hD0.self (sz := s.heap.size)
  generalize hAe : va_A [cX0 h0 n0 k0 t0 p0 x, cL0 n0 n1 n2 n3 g, cL1 cJ n1 g, cL2 cI n2 g, cL3 cI n3 g, cL0 k0 k1 k2 k3 k, cL1 cJ k1 k, cL2 cI k2 k, cL3 cI k3 k, cT0 t0 t1 tp, cT1 cI t1 tp, cP0 p0 p1 p2 p3 p4 p5 pl, cP1 cI p1 pl, cP2 cI p2 pl, cP3 cI p3 pl, cP4 cI p4 pl, cP5 cI p5 pl] s.heap.size = A at hD ⊢
  have hA : ∀ q : Nat, s.heap.size ≤ q → A q := fun q h => by rw [← hAe]; exact Or.inr h
  have hS : va_S A s.heap s.heap [] := va_S.rf
  have hl := lv_entry ([.ref h0, .int se]) (n := 2) (Nat.le_of_ble_eq_true rfl)
  rw [lg_entry_eq]
  generalize (lg_sl ([.ref h0, .int se]) ++ List.replicate (2 - (lg_sl ([.ref h0, .int se])).length) Slot.unset).toArray = ls at hl ⊢
  have hl : lv_has ls 2 [(0, .ref h0), (1, .int se)] := hl
  have hP : va_P (dC, dI) vwCl [cX0 h0 n0 k0 t0 p0 x, cL0 n0 n1 n2 n3 g, cL1 cJ n1 g, cL2 cI n2 g, cL3 cI n3 g, cL0 k0 k1 k2 k3 k, cL1 cJ k1 k, cL2 cI k2 k, cL3 cI k3 k, cT0 t0 t1 tp, cT1 cI t1 tp, cP0 p0 p1 p2 p3 p4 p5 pl, cP1 cI p1 pl, cP2 cI p2 pl, cP3 cI p3 pl, cP4 cI p4 pl, cP5 cI p5 pl] s.heap := hP
  refine lv_iload_n hx hb dX3_gapFits_0 rfl (lv_at hl 1 rfl) ?_
  refine lv_iconst (v := 1) hx hb dX3_gapFits_1 (by decide) ?_
  refine lv_ldc hx hb hown (hts (.constant RX3 206 (36000)) (by decide +kernel)) dX3_gapFits_2 ?_
  have hPc := hP.sub (ws' := []) [] rfl
  have hDc := hD.sub (ws' := []) [] (by decide) rfl
  have hFc := va_free (wc := []) hD hS hA [] rfl
  refine va_calli (va_runS (As := [.int se, .int 1, .int 36000]) (rest := []) ⟨hx, hb, hml, hown, hts⟩ (kX3_within l dC dI cI cJ s.heap.size se 1 36000) (va_cwS 3 hts gX3_gapFits_X3_within rfl rfl rfl (by decide +kernel) ⟨Nat.le_of_ble_eq_true rfl, Nat.le_of_ble_eq_true rfl⟩) ⟨fun a U g mk q => by obtain ⟨q0, q1, qP, qK, qD⟩ := q; exact ⟨q0, q1, qP, va_K.moved (u := U) (U := U.calling g mk a) (Vm.Alike.refl U.vm) qK, qD⟩, fun U hU hW => ⟨rfl, by rw [hU], by rw [hU]; exact hPc, va_K.moved hW.alike hK, hDc.weaken (fun _ _ _ _ => trivial)⟩⟩ rfl rfl hl.1 rfl (lv_room (Nat.le_of_ble_eq_true rfl)) dX3_gapFits_4 ⟨Nat.le_of_ble_eq_true rfl, Nat.le_of_ble_eq_true rfl⟩) hS (fun q _ h => hFc q h) hFc (fun r_1 _ t H1 locs ht hvm hw hB hz1 hk1 hS => ?_)
  obtain ⟨hP1, hK1, hD1⟩ := hB
  rw [ht] at hP1
  obtain ⟨hP, hD⟩ := va_join (wr := [cX0 h0 n0 k0 t0 p0 x, cL0 n0 n1 n2 n3 g, cL1 cJ n1 g, cL2 cI n2 g, cL3 cI n3 g, cL0 k0 k1 k2 k3 k, cL1 cJ k1 k, cL2 cI k2 k, cL3 cI k3 k, cT0 t0 t1 tp, cT1 cI t1 tp, cP0 p0 p1 p2 p3 p4 p5 pl, cP1 cI p1 pl, cP2 cI p2 pl, cP3 cI p3 pl, cP4 cI p4 pl, cP5 cI p5 pl]) (w1 := []) hP hD [] [0, 1, 2, 3, 4, 5, 6, 7, 8, 9, 10, 11, 12, 13, 14, 15, 16] rfl rfl (by decide) (by decide) hk1 hFc hP1 hD1
  generalize H1 = H at hP hS ⊢
  have hP : va_P (dC, dI) vwCl [cX0 h0 n0 k0 t0 p0 x, cL0 n0 n1 n2 n3 g, cL1 cJ n1 g, cL2 cI n2 g, cL3 cI n3 g, cL0 k0 k1 k2 k3 k, cL1 cJ k1 k, cL2 cI k2 k, cL3 cI k3 k, cT0 t0 t1 tp, cT1 cI t1 tp, cP0 p0 p1 p2 p3 p4 p5 pl, cP1 cI p1 pl, cP2 cI p2 pl, cP3 cI p3 pl, cP4 cI p4 pl, cP5 cI p5 pl] H := hP
  have hD : va_D A [cX0 h0 n0 k0 t0 p0 x, cL0 n0 n1 n2 n3 g, cL1 cJ n1 g, cL2 cI n2 g, cL3 cI n3 g, cL0 k0 k1 k2 k3 k, cL1 cJ k1 k, cL2 cI k2 k, cL3 cI k3 k, cT0 t0 t1 tp, cT1 cI t1 tp, cP0 p0 p1 p2 p3 p4 p5 pl, cP1 cI p1 pl, cP2 cI p2 pl, cP3 cI p3 pl, cP4 cI p4 pl, cP5 cI p5 pl] := hD
  subst hw
  refine lv_if_eq (tgt := 34) hx hb dX3_gapFits_7 (by decide) (fun c_2 => ?_) (fun c_2 => ?_)
  · refine lv_iconst (v := 0) hx hb dX3_gapFits_34 (by decide) ?_
    have er : 0 = rX3_gapFits se x g k tp pl := by rw [rX3_gapFits, if_pos c_2]
    refine W.zret (ty := .boolean) (v := 0) hx hb hr rfl (fun t ht hW => ⟨⟨0, (), rfl, er, ?_⟩, hS.F ht⟩) hS.2.2 dX3_gapFits_35
    exact ⟨by rw [ht]; exact hP, va_K.moved hW.alike hK, hD⟩
  · refine lv_aload_n hx hb dX3_gapFits_10 rfl (lv_at hl 0 rfl) ?_
    refine va_get (D := (dC, dI)) (ci := 3) (v := .long x.2.2.2.2.2.2.2) (C := RX3) (T := TX3) (N := 12) hx hb hts hiX3 hown hK hP 0 rfl rfl 11 (by decide) (hts (.fieldLink RX3 56 "TripReckoner" "pulsesInAll" "J") (by decide +kernel)) (fun _ h9 => h9) rfl dX3_gapFits_11 ?_
    refine lv_aload_n hx hb dX3_gapFits_14 rfl (lv_at hl 0 rfl) ?_
    refine va_get (D := (dC, dI)) (ci := 3) (v := .int x.2.2.2.1) (C := RX3) (T := TX3) (N := 12) hx hb hts hiX3 hown hK hP 0 rfl rfl 7 (by decide) (hts (.fieldLink RX3 44 "TripReckoner" "fastest" "I") (by decide +kernel)) (fun _ h9 => h9) rfl dX3_gapFits_15 ?_
    refine lv_i2l (v := x.2.2.2.1.toInt64) hx hb dX3_gapFits_18 rfl ?_
    refine lv_iload_n hx hb dX3_gapFits_19 rfl (lv_at hl 1 rfl) ?_
    refine lv_i2l (v := se.toInt64) hx hb dX3_gapFits_20 rfl ?_
    refine lv_lmul hx hb dX3_gapFits_21 ?_
    refine lv_ladd hx hb dX3_gapFits_22 ?_
    refine lv_ldc2 hx hb hown (hts (.constantLong RX3 88 (100000000)) (by decide +kernel)) dX3_gapFits_23 ?_
    refine W.lcmp hx hb dX3_gapFits_26 ?_
    refine lv_if_gt (tgt := 34) hx hb dX3_gapFits_27 (by decide) (fun c_3 => ?_) (fun c_3 => ?_)
    · refine lv_iconst (v := 0) hx hb dX3_gapFits_34 (by decide) ?_
      have er : 0 = rX3_gapFits se x g k tp pl := by rw [rX3_gapFits, if_neg c_2, if_pos c_3]
      refine W.zret (ty := .boolean) (v := 0) hx hb hr rfl (fun t ht hW => ⟨⟨0, (), rfl, er, ?_⟩, hS.F ht⟩) hS.2.2 dX3_gapFits_35
      exact ⟨by rw [ht]; exact hP, va_K.moved hW.alike hK, hD⟩
    · refine lv_iconst (v := 1) hx hb dX3_gapFits_30 (by decide) ?_
      refine lv_goto (tgt := 35) hx hb dX3_gapFits_31 (by decide) ?_
      have er : 1 = rX3_gapFits se x g k tp pl := by rw [rX3_gapFits, if_neg c_2, if_neg c_3]
      refine W.zret (ty := .boolean) (v := 1) hx hb hr rfl (fun t ht hW => ⟨⟨1, (), rfl, er, ?_⟩, hS.F ht⟩) hS.2.2 dX3_gapFits_35
      exact ⟨by rw [ht]; exact hP, va_K.moved hW.alike hK, hD⟩

def sX3_passGap_x_g_6 (se : Int32) (x : XC) (g : LG) (k : LG) (tp : TP) (pl : PL) (g_2 : LG) (g_4 : LG) (g_6 : LG) : XC :=
  (x.1, x.2.1, x.2.2.1, x.2.2.2.1, x.2.2.2.2.1, x.2.2.2.2.2.1, x.2.2.2.2.2.2.1, x.2.2.2.2.2.2.2 + ((x.2.2.2.1 * se).toInt64))
def sX3_passGap_x_g_4 (se : Int32) (x : XC) (g : LG) (k : LG) (tp : TP) (pl : PL) (g_2 : LG) (g_4 : LG) : XC :=
  sX3_passGap_x_g_6 se x g k tp pl g_2 g_4 (sX0_showStep g_4)
def sX3_passGap_x_g_2 (se : Int32) (x : XC) (g : LG) (k : LG) (tp : TP) (pl : PL) (g_2 : LG) : XC :=
  sX3_passGap_x_g_4 se x g k tp pl g_2 (sX0_doubt (x.2.2.2.2.1 * se) g_2)
def sX3_passGap_x (se : Int32) (x : XC) (g : LG) (k : LG) (tp : TP) (pl : PL) : XC :=
  sX3_passGap_x_g_2 se x g k tp pl (sX0_pass 0 (x.2.2.2.1 * se) 0 (x.2.2.2.2.1 * se) se g)
def sX3_passGap_g_g_6 (se : Int32) (x : XC) (g : LG) (k : LG) (tp : TP) (pl : PL) (g_2 : LG) (g_4 : LG) (g_6 : LG) : LG :=
  g_6
def sX3_passGap_g_g_4 (se : Int32) (x : XC) (g : LG) (k : LG) (tp : TP) (pl : PL) (g_2 : LG) (g_4 : LG) : LG :=
  sX3_passGap_g_g_6 se x g k tp pl g_2 g_4 (sX0_showStep g_4)
def sX3_passGap_g_g_2 (se : Int32) (x : XC) (g : LG) (k : LG) (tp : TP) (pl : PL) (g_2 : LG) : LG :=
  sX3_passGap_g_g_4 se x g k tp pl g_2 (sX0_doubt (x.2.2.2.2.1 * se) g_2)
def sX3_passGap_g (se : Int32) (x : XC) (g : LG) (k : LG) (tp : TP) (pl : PL) : LG :=
  sX3_passGap_g_g_2 se x g k tp pl (sX0_pass 0 (x.2.2.2.1 * se) 0 (x.2.2.2.2.1 * se) se g)
set_option maxHeartbeats 4000000 in
set_option maxRecDepth 100000 in
theorem kX3_passGap (l : Launch) (dC : Nat → ClassId) (dI : Nat → Nat → Nat) (cI cJ : ClassId) (h0 n0 k0 t0 p0 n1 n2 n3 k1 k2 k3 t1 p1 p2 p3 p4 p5 : Nat) (sz : Nat) (se : Int32) (x : XC) (g : LG) (k : LG) (tp : TP) (pl : PL) : Met l yX3_passGap wsX3_passGap ({ frames := 2, cells := 0, slots := 0, locals := 44 }) (va_Pc [.ref h0, .int se] (fun U => U.heap.size = sz ∧ va_P (dC, dI) vwCl [cX0 h0 n0 k0 t0 p0 x, cL0 n0 n1 n2 n3 g, cL1 cJ n1 g, cL2 cI n2 g, cL3 cI n3 g, cL0 k0 k1 k2 k3 k, cL1 cJ k1 k, cL2 cI k2 k, cL3 cI k3 k, cT0 t0 t1 tp, cT1 cI t1 tp, cP0 p0 p1 p2 p3 p4 p5 pl, cP1 cI p1 pl, cP2 cI p2 pl, cP3 cI p3 pl, cP4 cI p4 pl, cP5 cI p5 pl] U.heap ∧ va_K (dC, dI) vwCl [(cI, .int), (cJ, .long)] U ∧ va_D (fun _ => True) [cX0 h0 n0 k0 t0 p0 x, cL0 n0 n1 n2 n3 g, cL1 cJ n1 g, cL2 cI n2 g, cL3 cI n3 g, cL0 k0 k1 k2 k3 k, cL1 cJ k1 k, cL2 cI k2 k, cL3 cI k3 k, cT0 t0 t1 tp, cT1 cI t1 tp, cP0 p0 p1 p2 p3 p4 p5 pl, cP1 cI p1 pl, cP2 cI p2 pl, cP3 cI p3 pl, cP4 cI p4 pl, cP5 cI p5 pl] ∧ nw U)) (va_Qv (fun _ : Unit => True) (fun _ t => va_P (dC, dI) vwCl [cX0 h0 n0 k0 t0 p0 (sX3_passGap_x se x g k tp pl), cL0 n0 n1 n2 n3 (sX3_passGap_g se x g k tp pl), cL1 cJ n1 (sX3_passGap_g se x g k tp pl), cL2 cI n2 (sX3_passGap_g se x g k tp pl), cL3 cI n3 (sX3_passGap_g se x g k tp pl), cL0 k0 k1 k2 k3 k, cL1 cJ k1 k, cL2 cI k2 k, cL3 cI k3 k, cT0 t0 t1 tp, cT1 cI t1 tp, cP0 p0 p1 p2 p3 p4 p5 pl, cP1 cI p1 pl, cP2 cI p2 pl, cP3 cI p3 pl, cP4 cI p4 pl, cP5 cI p5 pl] t.heap ∧ va_K (dC, dI) vwCl [(cI, .int), (cJ, .long)] t ∧ va_D (va_A [cX0 h0 n0 k0 t0 p0 x, cL0 n0 n1 n2 n3 g, cL1 cJ n1 g, cL2 cI n2 g, cL3 cI n3 g, cL0 k0 k1 k2 k3 k, cL1 cJ k1 k, cL2 cI k2 k, cL3 cI k3 k, cT0 t0 t1 tp, cT1 cI t1 tp, cP0 p0 p1 p2 p3 p4 p5 pl, cP1 cI p1 pl, cP2 cI p2 pl, cP3 cI p3 pl, cP4 cI p4 pl, cP5 cI p5 pl] sz) [cX0 h0 n0 k0 t0 p0 (sX3_passGap_x se x g k tp pl), cL0 n0 n1 n2 n3 (sX3_passGap_g se x g k tp pl), cL1 cJ n1 (sX3_passGap_g se x g k tp pl), cL2 cI n2 (sX3_passGap_g se x g k tp pl), cL3 cI n3 (sX3_passGap_g se x g k tp pl), cL0 k0 k1 k2 k3 k, cL1 cJ k1 k, cL2 cI k2 k, cL3 cI k3 k, cT0 t0 t1 tp, cT1 cI t1 tp, cP0 p0 p1 p2 p3 p4 p5 pl, cP1 cI p1 pl, cP2 cI p2 pl, cP3 cI p3 pl, cP4 cI p4 pl, cP5 cI p5 pl]) (va_A [cX0 h0 n0 k0 t0 p0 x, cL0 n0 n1 n2 n3 g, cL1 cJ n1 g, cL2 cI n2 g, cL3 cI n3 g, cL0 k0 k1 k2 k3 k, cL1 cJ k1 k, cL2 cI k2 k, cL3 cI k3 k, cT0 t0 t1 tp, cT1 cI t1 tp, cP0 p0 p1 p2 p3 p4 p5 pl, cP1 cI p1 pl, cP2 cI p2 pl, cP3 cI p3 pl, cP4 cI p4 pl, cP5 cI p5 pl] sz)) 0 0 (va_A [cX0 h0 n0 k0 t0 p0 x, cL0 n0 n1 n2 n3 g, cL1 cJ n1 g, cL2 cI n2 g, cL3 cI n3 g, cL0 k0 k1 k2 k3 k, cL1 cJ k1 k, cL2 cI k2 k, cL3 cI k3 k, cT0 t0 t1 tp, cT1 cI t1 tp, cP0 p0 p1 p2 p3 p4 p5 pl, cP1 cI p1 pl, cP2 cI p2 pl, cP3 cI p3 pl, cP4 cI p4 pl, cP5 cI p5 pl] sz) := by
  refine Met.ofW (cc := cX3_passGap) (maxL := 4) (ret := none) (by decide) rfl ?_
  intro p e s m args below meth c s₁ B hml hv
  obtain ⟨rfl, hsz, hP, hK, hD0, hN⟩ := hv
  have hx := B.exec
  have hb := B.bytes
  have hr := B.returns
  have hts := atoms_spec (ws := wsX3_passGap) B.pre
  have hown : s.vm.findClass RX3 = some m.cls := findClass_of_methodNamed B.named
  have hlocks := B.notSynchronized
  have hiX3 : ∀ w ∈ u_ws RX3 TX3 12, w ∈ wsX3_passGap := by decide +kernel
  subst hsz
  have hD := hD0.self (sz := s.heap.size)
  generalize hAe : va_A [cX0 h0 n0 k0 t0 p0 x, cL0 n0 n1 n2 n3 g, cL1 cJ n1 g, cL2 cI n2 g, cL3 cI n3 g, cL0 k0 k1 k2 k3 k, cL1 cJ k1 k, cL2 cI k2 k, cL3 cI k3 k, cT0 t0 t1 tp, cT1 cI t1 tp, cP0 p0 p1 p2 p3 p4 p5 pl, cP1 cI p1 pl, cP2 cI p2 pl, cP3 cI p3 pl, cP4 cI p4 pl, cP5 cI p5 pl] s.heap.size = A at hD ⊢
  have hA : ∀ q : Nat, s.heap.size ≤ q → A q := fun q h => by rw [← hAe]; exact Or.inr h
  have hS : va_S A s.heap s.heap [] := va_S.rf
  have hl := lv_entry ([.ref h0, .int se]) (n := 4) (Nat.le_of_ble_eq_true rfl)
  rw [lg_entry_eq]
  generalize (lg_sl ([.ref h0, .int se]) ++ List.replicate (4 - (lg_sl ([.ref h0, .int se])).length) Slot.unset).toArray = ls at hl ⊢
  have hl : lv_has ls 4 [(0, .ref h0), (1, .int se)] := hl
  have hP : va_P (dC, dI) vwCl [cX0 h0 n0 k0 t0 p0 x, cL0 n0 n1 n2 n3 g, cL1 cJ n1 g, cL2 cI n2 g, cL3 cI n3 g, cL0 k0 k1 k2 k3 k, cL1 cJ k1 k, cL2 cI k2 k, cL3 cI k3 k, cT0 t0 t1 tp, cT1 cI t1 tp, cP0 p0 p1 p2 p3 p4 p5 pl, cP1 cI p1 pl, cP2 cI p2 pl, cP3 cI p3 pl, cP4 cI p4 pl, cP5 cI p5 pl] s.heap := hP
  refine lv_aload_n hx hb dX3_passGap_0 rfl (lv_at hl 0 rfl) ?_
  refine va_get (D := (dC, dI)) (ci := 3) (v := .int x.2.2.2.1) (C := RX3) (T := TX3) (N := 12) hx hb hts hiX3 hown hK hP 0 rfl rfl 7 (by decide) (hts (.fieldLink RX3 44 "TripReckoner" "fastest" "I") (by decide +kernel)) (fun _ h9 => h9) rfl dX3_passGap_1 ?_
  refine lv_iload_n hx hb dX3_passGap_4 rfl (lv_at hl 1 rfl) ?_
  refine lv_imul hx hb dX3_passGap_5 ?_
  refine lv_istore_n (lv' := [(2, .int (x.2.2.2.1 * se)), (0, .ref h0), (1, .int se)]) hx hb dX3_passGap_6 rfl hl (by decide) rfl (fun ls hl => ?_)
  refine lv_aload_n hx hb dX3_passGap_7 rfl (lv_at hl 1 rfl) ?_
  refine va_get (D := (dC, dI)) (ci := 3) (v := .int x.2.2.2.2.1) (C := RX3) (T := TX3) (N := 12) hx hb hts hiX3 hown hK hP 0 rfl rfl 8 (by decide) (hts (.fieldLink RX3 47 "TripReckoner" "thirstiest" "I") (by decide +kernel)) (fun _ h9 => h9) rfl dX3_passGap_8 ?_
  refine lv_iload_n hx hb dX3_passGap_11 rfl (lv_at hl 2 rfl) ?_
  refine lv_imul hx hb dX3_passGap_12 ?_
  refine lv_istore_n (lv' := [(3, .int (x.2.2.2.2.1 * se)), (2, .int (x.2.2.2.1 * se)), (0, .ref h0), (1, .int se)]) hx hb dX3_passGap_13 rfl hl (by decide) rfl (fun ls hl => ?_)
  refine lv_aload_n hx hb dX3_passGap_14 rfl (lv_at hl 2 rfl) ?_
  refine lv_dup hx hb dX3_passGap_15 rfl ?_
  refine va_get (D := (dC, dI)) (ci := 3) (v := .long x.2.2.2.2.2.2.2) (C := RX3) (T := TX3) (N := 12) hx hb hts hiX3 hown hK hP 0 rfl rfl 11 (by decide) (hts (.fieldLink RX3 56 "TripReckoner" "pulsesInAll" "J") (by decide +kernel)) (fun _ h9 => h9) rfl dX3_passGap_16 ?_
  refine lv_iload_n hx hb dX3_passGap_19 rfl (lv_at hl 1 rfl) ?_
  refine lv_i2l (v := (x.2.2.2.1 * se).toInt64) hx hb dX3_passGap_20 rfl ?_
  refine lv_ladd hx hb dX3_passGap_21 ?_
  refine va_put (D := (dC, dI)) (ci := 3) (v := .long (x.2.2.2.2.2.2.2 + ((x.2.2.2.1 * se).toInt64))) (ty := .long) (C := RX3) (T := TX3) (N := 12) hx hb hts hiX3 tyX3 tyX3_ok nmX3 hown hK hP hD hS 0 rfl rfl 11 (by decide) (hts (.fieldLink RX3 56 "TripReckoner" "pulsesInAll" "J") (by decide +kernel)) (fun _ h9 => h9) rfl (by decide +kernel) rfl rfl (Nat.le_of_ble_eq_true rfl) dX3_passGap_22 (fun H locs hP hD hS => ?_)
  have hP : va_P (dC, dI) vwCl [(h0, .inr (3, [.ref n0, .ref k0, .ref t0, .ref p0, .int x.1, .int x.2.1, .int x.2.2.1, .int x.2.2.2.1, .int x.2.2.2.2.1, .int x.2.2.2.2.2.1, .int x.2.2.2.2.2.2.1, .long (x.2.2.2.2.2.2.2 + ((x.2.2.2.1 * se).toInt64))])), cL0 n0 n1 n2 n3 g, cL1 cJ n1 g, cL2 cI n2 g, cL3 cI n3 g, cL0 k0 k1 k2 k3 k, cL1 cJ k1 k, cL2 cI k2 k, cL3 cI k3 k, cT0 t0 t1 tp, cT1 cI t1 tp, cP0 p0 p1 p2 p3 p4 p5 pl, cP1 cI p1 pl, cP2 cI p2 pl, cP3 cI p3 pl, cP4 cI p4 pl, cP5 cI p5 pl] H := hP
  have hD : va_D A [(h0, .inr (3, [.ref n0, .ref k0, .ref t0, .ref p0, .int x.1, .int x.2.1, .int x.2.2.1, .int x.2.2.2.1, .int x.2.2.2.2.1, .int x.2.2.2.2.2.1, .int x.2.2.2.2.2.2.1, .long (x.2.2.2.2.2.2.2 + ((x.2.2.2.1 * se).toInt64))])), cL0 n0 n1 n2 n3 g, cL1 cJ n1 g, cL2 cI n2 g, cL3 cI n3 g, cL0 k0 k1 k2 k3 k, cL1 cJ k1 k, cL2 cI k2 k, cL3 cI k3 k, cT0 t0 t1 tp, cT1 cI t1 tp, cP0 p0 p1 p2 p3 p4 p5 pl, cP1 cI p1 pl, cP2 cI p2 pl, cP3 cI p3 pl, cP4 cI p4 pl, cP5 cI p5 pl] := hD
  refine lv_aload_n hx hb dX3_passGap_25 rfl (lv_at hl 2 rfl) ?_
  refine va_get (D := (dC, dI)) (ci := 3) (v := .ref n0) (C := RX3) (T := TX3) (N := 12) hx hb hts hiX3 hown hK hP 0 rfl rfl 0 (by decide) (hts (.fieldLink RX3 10 "TripReckoner" "now" "LTripReckoner$Ledger;") (by decide +kernel)) (fun _ h9 => h9) rfl dX3_passGap_26 ?_
  refine lv_iconst (v := 0) hx hb dX3_passGap_29 (by decide) ?_
  refine lv_iload_n hx hb dX3_passGap_30 rfl (lv_at hl 1 rfl) ?_
  refine lv_iconst (v := 0) hx hb dX3_passGap_31 (by decide) ?_
  refine lv_iload_n hx hb dX3_passGap_32 rfl (lv_at hl 0 rfl) ?_
  refine lv_iload_n hx hb dX3_passGap_33 rfl (lv_at hl 3 rfl) ?_
  have hPc := hP.sub (ws' := [cL0 n0 n1 n2 n3 g, cL1 cJ n1 g, cL2 cI n2 g, cL3 cI n3 g]) [1, 2, 3, 4] rfl
  have hDc := hD.sub (ws' := [cL0 n0 n1 n2 n3 g, cL1 cJ n1 g, cL2 cI n2 g, cL3 cI n3 g]) [1, 2, 3, 4] (by decide) rfl
  have hFc := va_free (wc := [cL0 n0 n1 n2 n3 g, cL1 cJ n1 g, cL2 cI n2 g, cL3 cI n3 g]) hD hS hA [1, 2, 3, 4] rfl
  refine va_callv (va_runVN (As := [.int 0, .int (x.2.2.2.1 * se), .int 0, .int (x.2.2.2.2.1 * se), .int se]) (rest := []) ⟨hx, hb, hml, hown, hts⟩ (kX0_pass l dC dI cI cJ n0 n1 n2 n3 H.size 0 (x.2.2.2.1 * se) 0 (x.2.2.2.2.1 * se) se g) ⟨va_cnB 5 hts gX3_passGap_X0_pass_n90 rfl rfl rfl (nw_m hN (.methodLinkNest RX3 90 yX0_pass "TripReckoner") (by decide +kernel)) (hts (.initialized RX0) (by decide +kernel)) (by decide +kernel) ⟨Nat.le_of_ble_eq_true rfl, Nat.le_of_ble_eq_true rfl⟩, (hts (.instanceMethod yX0_pass) (by decide +kernel)), (hts (.selects RX0 yX0_pass yX0_pass) (by decide +kernel))⟩ ⟨fun a U g mk q => by obtain ⟨q0, q1, qP, qK, qD⟩ := q; exact ⟨q0, q1, qP, va_K.moved (u := U) (U := U.calling g mk a) (Vm.Alike.refl U.vm) qK, qD⟩, va_recv hK hPc (ci := 0) (q0 := 0) rfl rfl, fun U hU hW => ⟨rfl, by rw [hU], by rw [hU]; exact hPc, va_K.moved hW.alike hK, hDc.weaken (fun _ _ _ _ => trivial)⟩⟩ rfl rfl hl.1 rfl (lv_room (Nat.le_of_ble_eq_true rfl)) dX3_passGap_34 ⟨Nat.le_of_ble_eq_true rfl, Nat.le_of_ble_eq_true rfl⟩) hS (fun q _ h => hFc q h) hFc (fun _ t H1 locs ht hvm hw hB hz1 hk1 hS => ?_)
  obtain ⟨hP1, hK1, hD1⟩ := hB
  rw [ht] at hP1
  obtain ⟨g_2, eg_2⟩ : ∃ z, z = sX0_pass 0 (x.2.2.2.1 * se) 0 (x.2.2.2.2.1 * se) se g := ⟨_, rfl⟩
  rw [← eg_2] at hP1 hD1
  obtain ⟨hP, hD⟩ := va_join (wr := [(h0, .inr (3, [.ref n0, .ref k0, .ref t0, .ref p0, .int x.1, .int x.2.1, .int x.2.2.1, .int x.2.2.2.1, .int x.2.2.2.2.1, .int x.2.2.2.2.2.1, .int x.2.2.2.2.2.2.1, .long (x.2.2.2.2.2.2.2 + ((x.2.2.2.1 * se).toInt64))])), cL0 k0 k1 k2 k3 k, cL1 cJ k1 k, cL2 cI k2 k, cL3 cI k3 k, cT0 t0 t1 tp, cT1 cI t1 tp, cP0 p0 p1 p2 p3 p4 p5 pl, cP1 cI p1 pl, cP2 cI p2 pl, cP3 cI p3 pl, cP4 cI p4 pl, cP5 cI p5 pl]) (w1 := [cL0 n0 n1 n2 n3 g_2, cL1 cJ n1 g_2, cL2 cI n2 g_2, cL3 cI n3 g_2]) hP hD [1, 2, 3, 4] [0, 5, 6, 7, 8, 9, 10, 11, 12, 13, 14, 15, 16] rfl rfl (by decide) (by decide) hk1 hFc hP1 hD1
  generalize H1 = H at hP hS ⊢
  have hP := hP.sub (ws' := [(h0, .inr (3, [.ref n0, .ref k0, .ref t0, .ref p0, .int x.1, .int x.2.1, .int x.2.2.1, .int x.2.2.2.1, .int x.2.2.2.2.1, .int x.2.2.2.2.2.1, .int x.2.2.2.2.2.2.1, .long (x.2.2.2.2.2.2.2 + ((x.2.2.2.1 * se).toInt64))])), cL0 n0 n1 n2 n3 g_2, cL1 cJ n1 g_2, cL2 cI n2 g_2, cL3 cI n3 g_2, cL0 k0 k1 k2 k3 k, cL1 cJ k1 k, cL2 cI k2 k, cL3 cI k3 k, cT0 t0 t1 tp, cT1 cI t1 tp, cP0 p0 p1 p2 p3 p4 p5 pl, cP1 cI p1 pl, cP2 cI p2 pl, cP3 cI p3 pl, cP4 cI p4 pl, cP5 cI p5 pl]) [0, 13, 14, 15, 16, 1, 2, 3, 4, 5, 6, 7, 8, 9, 10, 11, 12] rfl
  have hD := hD.sub (ws' := [(h0, .inr (3, [.ref n0, .ref k0, .ref t0, .ref p0, .int x.1, .int x.2.1, .int x.2.2.1, .int x.2.2.2.1, .int x.2.2.2.2.1, .int x.2.2.2.2.2.1, .int x.2.2.2.2.2.2.1, .long (x.2.2.2.2.2.2.2 + ((x.2.2.2.1 * se).toInt64))])), cL0 n0 n1 n2 n3 g_2, cL1 cJ n1 g_2, cL2 cI n2 g_2, cL3 cI n3 g_2, cL0 k0 k1 k2 k3 k, cL1 cJ k1 k, cL2 cI k2 k, cL3 cI k3 k, cT0 t0 t1 tp, cT1 cI t1 tp, cP0 p0 p1 p2 p3 p4 p5 pl, cP1 cI p1 pl, cP2 cI p2 pl, cP3 cI p3 pl, cP4 cI p4 pl, cP5 cI p5 pl]) [0, 13, 14, 15, 16, 1, 2, 3, 4, 5, 6, 7, 8, 9, 10, 11, 12] (by decide) rfl
  refine lv_aload_n hx hb dX3_passGap_37 rfl (lv_at hl 2 rfl) ?_
  refine va_get (D := (dC, dI)) (ci := 3) (v := .ref n0) (C := RX3) (T := TX3) (N := 12) hx hb hts hiX3 hown hK hP 0 rfl rfl 0 (by decide) (hts (.fieldLink RX3 10 "TripReckoner" "now" "LTripReckoner$Ledger;") (by decide +kernel)) (fun _ h9 => h9) rfl dX3_passGap_38 ?_
  refine lv_iload_n hx hb dX3_passGap_41 rfl (lv_at hl 0 rfl) ?_
  have hPc := hP.sub (ws' := [cL0 n0 n1 n2 n3 g_2, cL1 cJ n1 g_2, cL2 cI n2 g_2, cL3 cI n3 g_2]) [1, 2, 3, 4] rfl
  have hDc := hD.sub (ws' := [cL0 n0 n1 n2 n3 g_2, cL1 cJ n1 g_2, cL2 cI n2 g_2, cL3 cI n3 g_2]) [1, 2, 3, 4] (by decide) rfl
  have hFc := va_free (wc := [cL0 n0 n1 n2 n3 g_2, cL1 cJ n1 g_2, cL2 cI n2 g_2, cL3 cI n3 g_2]) hD hS hA [1, 2, 3, 4] rfl
  refine va_callv (va_runVN (As := [.int (x.2.2.2.2.1 * se)]) (rest := []) ⟨hx, hb, hml, hown, hts⟩ (kX0_doubt l dC dI cI cJ n0 n1 n2 n3 H.size (x.2.2.2.2.1 * se) g_2) ⟨va_cnB 1 hts gX3_passGap_X0_doubt_n207 rfl rfl rfl (nw_m hN (.methodLinkNest RX3 207 yX0_doubt "TripReckoner") (by decide +kernel)) (hts (.initialized RX0) (by decide +kernel)) (by decide +kernel) ⟨Nat.le_of_ble_eq_true rfl, Nat.le_of_ble_eq_true rfl⟩, (hts (.instanceMethod yX0_doubt) (by decide +kernel)), (hts (.selects RX0 yX0_doubt yX0_doubt) (by decide +kernel))⟩ ⟨fun a U g mk q => by obtain ⟨q0, q1, qP, qK, qD⟩ := q; exact ⟨q0, q1, qP, va_K.moved (u := U) (U := U.calling g mk a) (Vm.Alike.refl U.vm) qK, qD⟩, va_recv hK hPc (ci := 0) (q0 := 0) rfl rfl, fun U hU hW => ⟨rfl, by rw [hU], by rw [hU]; exact hPc, va_K.moved hW.alike hK, hDc.weaken (fun _ _ _ _ => trivial)⟩⟩ rfl rfl hl.1 rfl (lv_room (Nat.le_of_ble_eq_true rfl)) dX3_passGap_42 ⟨Nat.le_of_ble_eq_true rfl, Nat.le_of_ble_eq_true rfl⟩) hS (fun q _ h => hFc q h) hFc (fun _ t H1 locs ht hvm hw hB hz1 hk1 hS => ?_)
  obtain ⟨hP1, hK1, hD1⟩ := hB
  rw [ht] at hP1
  obtain ⟨g_4, eg_4⟩ : ∃ z, z = sX0_doubt (x.2.2.2.2.1 * se) g_2 := ⟨_, rfl⟩
  rw [← eg_4] at hP1 hD1
  obtain ⟨hP, hD⟩ := va_join (wr := [(h0, .inr (3, [.ref n0, .ref k0, .ref t0, .ref p0, .int x.1, .int x.2.1, .int x.2.2.1, .int x.2.2.2.1, .int x.2.2.2.2.1, .int x.2.2.2.2.2.1, .int x.2.2.2.2.2.2.1, .long (x.2.2.2.2.2.2.2 + ((x.2.2.2.1 * se).toInt64))])), cL0 k0 k1 k2 k3 k, cL1 cJ k1 k, cL2 cI k2 k, cL3 cI k3 k, cT0 t0 t1 tp, cT1 cI t1 tp, cP0 p0 p1 p2 p3 p4 p5 pl, cP1 cI p1 pl, cP2 cI p2 pl, cP3 cI p3 pl, cP4 cI p4 pl, cP5 cI p5 pl]) (w1 := [cL0 n0 n1 n2 n3 g_4, cL1 cJ n1 g_4, cL2 cI n2 g_4, cL3 cI n3 g_4]) hP hD [1, 2, 3, 4] [0, 5, 6, 7, 8, 9, 10, 11, 12, 13, 14, 15, 16] rfl rfl (by decide) (by decide) hk1 hFc hP1 hD1
  generalize H1 = H at hP hS ⊢
  have hP := hP.sub (ws' := [(h0, .inr (3, [.ref n0, .ref k0, .ref t0, .ref p0, .int x.1, .int x.2.1, .int x.2.2.1, .int x.2.2.2.1, .int x.2.2.2.2.1, .int x.2.2.2.2.2.1, .int x.2.2.2.2.2.2.1, .long (x.2.2.2.2.2.2.2 + ((x.2.2.2.1 * se).toInt64))])), cL0 n0 n1 n2 n3 g_4, cL1 cJ n1 g_4, cL2 cI n2 g_4, cL3 cI n3 g_4, cL0 k0 k1 k2 k3 k, cL1 cJ k1 k, cL2 cI k2 k, cL3 cI k3 k, cT0 t0 t1 tp, cT1 cI t1 tp, cP0 p0 p1 p2 p3 p4 p5 pl, cP1 cI p1 pl, cP2 cI p2 pl, cP3 cI p3 pl, cP4 cI p4 pl, cP5 cI p5 pl]) [0, 13, 14, 15, 16, 1, 2, 3, 4, 5, 6, 7, 8, 9, 10, 11, 12] rfl
  have hD := hD.sub (ws' := [(h0, .inr (3, [.ref n0, .ref k0, .ref t0, .ref p0, .int x.1, .int x.2.1, .int x.2.2.1, .int x.2.2.2.1, .int x.2.2.2.2.1, .int x.2.2.2.2.2.1, .int x.2.2.2.2.2.2.1, .long (x.2.2.2.2.2.2.2 + ((x.2.2.2.1 * se).toInt64))])), cL0 n0 n1 n2 n3 g_4, cL1 cJ n1 g_4, cL2 cI n2 g_4, cL3 cI n3 g_4, cL0 k0 k1 k2 k3 k, cL1 cJ k1 k, cL2 cI k2 k, cL3 cI k3 k, cT0 t0 t1 tp, cT1 cI t1 tp, cP0 p0 p1 p2 p3 p4 p5 pl, cP1 cI p1 pl, cP2 cI p2 pl, cP3 cI p3 pl, cP4 cI p4 pl, cP5 cI p5 pl]) [0, 13, 14, 15, 16, 1, 2, 3, 4, 5, 6, 7, 8, 9, 10, 11, 12] (by decide) rfl
  refine lv_aload_n hx hb dX3_passGap_45 rfl (lv_at hl 2 rfl) ?_
  refine va_get (D := (dC, dI)) (ci := 3) (v := .ref n0) (C := RX3) (T := TX3) (N := 12) hx hb hts hiX3 hown hK hP 0 rfl rfl 0 (by decide) (hts (.fieldLink RX3 10 "TripReckoner" "now" "LTripReckoner$Ledger;") (by decide +kernel)) (fun _ h9 => h9) rfl dX3_passGap_46 ?_
  have hPc := hP.sub (ws' := [cL0 n0 n1 n2 n3 g_4, cL1 cJ n1 g_4, cL2 cI n2 g_4, cL3 cI n3 g_4]) [1, 2, 3, 4] rfl
  have hDc := hD.sub (ws' := [cL0 n0 n1 n2 n3 g_4, cL1 cJ n1 g_4, cL2 cI n2 g_4, cL3 cI n3 g_4]) [1, 2, 3, 4] (by decide) rfl
  have hFc := va_free (wc := [cL0 n0 n1 n2 n3 g_4, cL1 cJ n1 g_4, cL2 cI n2 g_4, cL3 cI n3 g_4]) hD hS hA [1, 2, 3, 4] rfl
  refine va_callv (va_runVN (As := []) (rest := []) ⟨hx, hb, hml, hown, hts⟩ (kX0_showStep l dC dI cI cJ n0 n1 n2 n3 H.size g_4) ⟨va_cnB 0 hts gX3_passGap_X0_showStep_n97 rfl rfl rfl (nw_m hN (.methodLinkNest RX3 97 yX0_showStep "TripReckoner") (by decide +kernel)) (hts (.initialized RX0) (by decide +kernel)) (by decide +kernel) ⟨Nat.le_of_ble_eq_true rfl, Nat.le_of_ble_eq_true rfl⟩, (hts (.instanceMethod yX0_showStep) (by decide +kernel)), (hts (.selects RX0 yX0_showStep yX0_showStep) (by decide +kernel))⟩ ⟨fun a U g mk q => by obtain ⟨q0, q1, qP, qK, qD⟩ := q; exact ⟨q0, q1, qP, va_K.moved (u := U) (U := U.calling g mk a) (Vm.Alike.refl U.vm) qK, qD⟩, va_recv hK hPc (ci := 0) (q0 := 0) rfl rfl, fun U hU hW => ⟨rfl, by rw [hU], by rw [hU]; exact hPc, va_K.moved hW.alike hK, hDc.weaken (fun _ _ _ _ => trivial)⟩⟩ rfl rfl hl.1 rfl (lv_room (Nat.le_of_ble_eq_true rfl)) dX3_passGap_49 ⟨Nat.le_of_ble_eq_true rfl, Nat.le_of_ble_eq_true rfl⟩) hS (fun q _ h => hFc q h) hFc (fun _ t H1 locs ht hvm hw hB hz1 hk1 hS => ?_)
  obtain ⟨hP1, hK1, hD1⟩ := hB
  rw [ht] at hP1
  obtain ⟨g_6, eg_6⟩ : ∃ z, z = sX0_showStep g_4 := ⟨_, rfl⟩
  rw [← eg_6] at hP1 hD1
  obtain ⟨hP, hD⟩ := va_join (wr := [(h0, .inr (3, [.ref n0, .ref k0, .ref t0, .ref p0, .int x.1, .int x.2.1, .int x.2.2.1, .int x.2.2.2.1, .int x.2.2.2.2.1, .int x.2.2.2.2.2.1, .int x.2.2.2.2.2.2.1, .long (x.2.2.2.2.2.2.2 + ((x.2.2.2.1 * se).toInt64))])), cL0 k0 k1 k2 k3 k, cL1 cJ k1 k, cL2 cI k2 k, cL3 cI k3 k, cT0 t0 t1 tp, cT1 cI t1 tp, cP0 p0 p1 p2 p3 p4 p5 pl, cP1 cI p1 pl, cP2 cI p2 pl, cP3 cI p3 pl, cP4 cI p4 pl, cP5 cI p5 pl]) (w1 := [cL0 n0 n1 n2 n3 g_6, cL1 cJ n1 g_6, cL2 cI n2 g_6, cL3 cI n3 g_6]) hP hD [1, 2, 3, 4] [0, 5, 6, 7, 8, 9, 10, 11, 12, 13, 14, 15, 16] rfl rfl (by decide) (by decide) hk1 hFc hP1 hD1
  generalize H1 = H at hP hS ⊢
  have hP := hP.sub (ws' := [(h0, .inr (3, [.ref n0, .ref k0, .ref t0, .ref p0, .int x.1, .int x.2.1, .int x.2.2.1, .int x.2.2.2.1, .int x.2.2.2.2.1, .int x.2.2.2.2.2.1, .int x.2.2.2.2.2.2.1, .long (x.2.2.2.2.2.2.2 + ((x.2.2.2.1 * se).toInt64))])), cL0 n0 n1 n2 n3 g_6, cL1 cJ n1 g_6, cL2 cI n2 g_6, cL3 cI n3 g_6, cL0 k0 k1 k2 k3 k, cL1 cJ k1 k, cL2 cI k2 k, cL3 cI k3 k, cT0 t0 t1 tp, cT1 cI t1 tp, cP0 p0 p1 p2 p3 p4 p5 pl, cP1 cI p1 pl, cP2 cI p2 pl, cP3 cI p3 pl, cP4 cI p4 pl, cP5 cI p5 pl]) [0, 13, 14, 15, 16, 1, 2, 3, 4, 5, 6, 7, 8, 9, 10, 11, 12] rfl
  have hD := hD.sub (ws' := [(h0, .inr (3, [.ref n0, .ref k0, .ref t0, .ref p0, .int x.1, .int x.2.1, .int x.2.2.1, .int x.2.2.2.1, .int x.2.2.2.2.1, .int x.2.2.2.2.2.1, .int x.2.2.2.2.2.2.1, .long (x.2.2.2.2.2.2.2 + ((x.2.2.2.1 * se).toInt64))])), cL0 n0 n1 n2 n3 g_6, cL1 cJ n1 g_6, cL2 cI n2 g_6, cL3 cI n3 g_6, cL0 k0 k1 k2 k3 k, cL1 cJ k1 k, cL2 cI k2 k, cL3 cI k3 k, cT0 t0 t1 tp, cT1 cI t1 tp, cP0 p0 p1 p2 p3 p4 p5 pl, cP1 cI p1 pl, cP2 cI p2 pl, cP3 cI p3 pl, cP4 cI p4 pl, cP5 cI p5 pl]) [0, 13, 14, 15, 16, 1, 2, 3, 4, 5, 6, 7, 8, 9, 10, 11, 12] (by decide) rfl
  have es0 : sX3_passGap_x se x g k tp pl = (x.1, x.2.1, x.2.2.1, x.2.2.2.1, x.2.2.2.2.1, x.2.2.2.2.2.1, x.2.2.2.2.2.2.1, x.2.2.2.2.2.2.2 + ((x.2.2.2.1 * se).toInt64)) := by rw [sX3_passGap_x, ← eg_2, sX3_passGap_x_g_2, ← eg_4, sX3_passGap_x_g_4, ← eg_6, sX3_passGap_x_g_6]
  have es1 : sX3_passGap_g se x g k tp pl = g_6 := by rw [sX3_passGap_g, ← eg_2, sX3_passGap_g_g_2, ← eg_4, sX3_passGap_g_g_4, ← eg_6, sX3_passGap_g_g_6]
  refine W.vret hx hb hr (fun t ht hW => ⟨⟨(), rfl, trivial, ?_⟩, hS.F ht⟩) hS.2.2 dX3_passGap_52
  rw [es0]; rw [es1]; exact ⟨by rw [ht]; exact hP, va_K.moved hW.alike hK, hD⟩

def sX3_gap_x_g_5 (se : Int32) (x : XC) (g : LG) (k : LG) (tp : TP) (pl : PL) (g_4 : XC) (g_5 : LG) : XC :=
  g_4
def sX3_gap_x_g_4 (se : Int32) (x : XC) (g : LG) (k : LG) (tp : TP) (pl : PL) (g_4 : XC) : XC :=
  sX3_gap_x_g_5 se x g k tp pl g_4 (sX3_passGap_g se x g k tp pl)
def sX3_gap_x (se : Int32) (x : XC) (g : LG) (k : LG) (tp : TP) (pl : PL) : XC :=
  if (rX3_gapFits se x g k tp pl) = 0 then
    x
  else
    sX3_gap_x_g_4 se x g k tp pl (sX3_passGap_x se x g k tp pl)
def sX3_gap_g_g_5 (se : Int32) (x : XC) (g : LG) (k : LG) (tp : TP) (pl : PL) (g_4 : XC) (g_5 : LG) : LG :=
  g_5
def sX3_gap_g_g_4 (se : Int32) (x : XC) (g : LG) (k : LG) (tp : TP) (pl : PL) (g_4 : XC) : LG :=
  sX3_gap_g_g_5 se x g k tp pl g_4 (sX3_passGap_g se x g k tp pl)
def sX3_gap_g (se : Int32) (x : XC) (g : LG) (k : LG) (tp : TP) (pl : PL) : LG :=
  if (rX3_gapFits se x g k tp pl) = 0 then
    g
  else
    sX3_gap_g_g_4 se x g k tp pl (sX3_passGap_x se x g k tp pl)
def rX3_gap_g_5 (se : Int32) (x : XC) (g : LG) (k : LG) (tp : TP) (pl : PL) (g_4 : XC) (g_5 : LG) : Int32 :=
  1
def rX3_gap_g_4 (se : Int32) (x : XC) (g : LG) (k : LG) (tp : TP) (pl : PL) (g_4 : XC) : Int32 :=
  rX3_gap_g_5 se x g k tp pl g_4 (sX3_passGap_g se x g k tp pl)
def rX3_gap (se : Int32) (x : XC) (g : LG) (k : LG) (tp : TP) (pl : PL) : Int32 :=
  if (rX3_gapFits se x g k tp pl) = 0 then
    0
  else
    rX3_gap_g_4 se x g k tp pl (sX3_passGap_x se x g k tp pl)
set_option maxHeartbeats 4000000 in
set_option maxRecDepth 100000 in
theorem kX3_gap (l : Launch) (dC : Nat → ClassId) (dI : Nat → Nat → Nat) (cI cJ : ClassId) (h0 n0 k0 t0 p0 n1 n2 n3 k1 k2 k3 t1 p1 p2 p3 p4 p5 : Nat) (sz : Nat) (se : Int32) (x : XC) (g : LG) (k : LG) (tp : TP) (pl : PL) : Met l yX3_gap wsX3_gap ({ frames := 3, cells := 0, slots := 0, locals := 67 }) (va_Pc [.ref h0, .int se] (fun U => U.heap.size = sz ∧ va_P (dC, dI) vwCl [cX0 h0 n0 k0 t0 p0 x, cL0 n0 n1 n2 n3 g, cL1 cJ n1 g, cL2 cI n2 g, cL3 cI n3 g, cL0 k0 k1 k2 k3 k, cL1 cJ k1 k, cL2 cI k2 k, cL3 cI k3 k, cT0 t0 t1 tp, cT1 cI t1 tp, cP0 p0 p1 p2 p3 p4 p5 pl, cP1 cI p1 pl, cP2 cI p2 pl, cP3 cI p3 pl, cP4 cI p4 pl, cP5 cI p5 pl] U.heap ∧ va_K (dC, dI) vwCl [(cI, .int), (cJ, .long)] U ∧ va_D (fun _ => True) [cX0 h0 n0 k0 t0 p0 x, cL0 n0 n1 n2 n3 g, cL1 cJ n1 g, cL2 cI n2 g, cL3 cI n3 g, cL0 k0 k1 k2 k3 k, cL1 cJ k1 k, cL2 cI k2 k, cL3 cI k3 k, cT0 t0 t1 tp, cT1 cI t1 tp, cP0 p0 p1 p2 p3 p4 p5 pl, cP1 cI p1 pl, cP2 cI p2 pl, cP3 cI p3 pl, cP4 cI p4 pl, cP5 cI p5 pl] ∧ nw U)) (va_Qi (fun (r : Int32) (_ : Unit) => r = rX3_gap se x g k tp pl) (fun _ t => va_P (dC, dI) vwCl [cX0 h0 n0 k0 t0 p0 (sX3_gap_x se x g k tp pl), cL0 n0 n1 n2 n3 (sX3_gap_g se x g k tp pl), cL1 cJ n1 (sX3_gap_g se x g k tp pl), cL2 cI n2 (sX3_gap_g se x g k tp pl), cL3 cI n3 (sX3_gap_g se x g k tp pl), cL0 k0 k1 k2 k3 k, cL1 cJ k1 k, cL2 cI k2 k, cL3 cI k3 k, cT0 t0 t1 tp, cT1 cI t1 tp, cP0 p0 p1 p2 p3 p4 p5 pl, cP1 cI p1 pl, cP2 cI p2 pl, cP3 cI p3 pl, cP4 cI p4 pl, cP5 cI p5 pl] t.heap ∧ va_K (dC, dI) vwCl [(cI, .int), (cJ, .long)] t ∧ va_D (va_A [cX0 h0 n0 k0 t0 p0 x, cL0 n0 n1 n2 n3 g, cL1 cJ n1 g, cL2 cI n2 g, cL3 cI n3 g, cL0 k0 k1 k2 k3 k, cL1 cJ k1 k, cL2 cI k2 k, cL3 cI k3 k, cT0 t0 t1 tp, cT1 cI t1 tp, cP0 p0 p1 p2 p3 p4 p5 pl, cP1 cI p1 pl, cP2 cI p2 pl, cP3 cI p3 pl, cP4 cI p4 pl, cP5 cI p5 pl] sz) [cX0 h0 n0 k0 t0 p0 (sX3_gap_x se x g k tp pl), cL0 n0 n1 n2 n3 (sX3_gap_g se x g k tp pl), cL1 cJ n1 (sX3_gap_g se x g k tp pl), cL2 cI n2 (sX3_gap_g se x g k tp pl), cL3 cI n3 (sX3_gap_g se x g k tp pl), cL0 k0 k1 k2 k3 k, cL1 cJ k1 k, cL2 cI k2 k, cL3 cI k3 k, cT0 t0 t1 tp, cT1 cI t1 tp, cP0 p0 p1 p2 p3 p4 p5 pl, cP1 cI p1 pl, cP2 cI p2 pl, cP3 cI p3 pl, cP4 cI p4 pl, cP5 cI p5 pl]) (va_A [cX0 h0 n0 k0 t0 p0 x, cL0 n0 n1 n2 n3 g, cL1 cJ n1 g, cL2 cI n2 g, cL3 cI n3 g, cL0 k0 k1 k2 k3 k, cL1 cJ k1 k, cL2 cI k2 k, cL3 cI k3 k, cT0 t0 t1 tp, cT1 cI t1 tp, cP0 p0 p1 p2 p3 p4 p5 pl, cP1 cI p1 pl, cP2 cI p2 pl, cP3 cI p3 pl, cP4 cI p4 pl, cP5 cI p5 pl] sz)) 0 0 (va_A [cX0 h0 n0 k0 t0 p0 x, cL0 n0 n1 n2 n3 g, cL1 cJ n1 g, cL2 cI n2 g, cL3 cI n3 g, cL0 k0 k1 k2 k3 k, cL1 cJ k1 k, cL2 cI k2 k, cL3 cI k3 k, cT0 t0 t1 tp, cT1 cI t1 tp, cP0 p0 p1 p2 p3 p4 p5 pl, cP1 cI p1 pl, cP2 cI p2 pl, cP3 cI p3 pl, cP4 cI p4 pl, cP5 cI p5 pl] sz) := by
  refine Met.ofW (cc := cX3_gap) (maxL := 2) (ret := (some .boolean)) (by decide) rfl ?_
  intro p e s m args below meth c s₁ B hml hv
  obtain ⟨rfl, hsz, hP, hK, hD0, hN⟩ := hv
  have hx := B.exec
  have hb := B.bytes
  have hr := B.returns
  have hts := atoms_spec (ws := wsX3_gap) B.pre
  have hown : s.vm.findClass RX3 = some m.cls := findClass_of_methodNamed B.named
  have hlocks := B.notSynchronized
  subst hsz
  have hD := hD0.self (sz := s.heap.size)
  generalize hAe : va_A [cX0 h0 n0 k0 t0 p0 x, cL0 n0 n1 n2 n3 g, cL1 cJ n1 g, cL2 cI n2 g, cL3 cI n3 g, cL0 k0 k1 k2 k3 k, cL1 cJ k1 k, cL2 cI k2 k, cL3 cI k3 k, cT0 t0 t1 tp, cT1 cI t1 tp, cP0 p0 p1 p2 p3 p4 p5 pl, cP1 cI p1 pl, cP2 cI p2 pl, cP3 cI p3 pl, cP4 cI p4 pl, cP5 cI p5 pl] s.heap.size = A at hD ⊢
  have hA : ∀ q : Nat, s.heap.size ≤ q → A q := fun q h => by rw [← hAe]; exact Or.inr h
  have hS : va_S A s.heap s.heap [] := va_S.rf
  have hl := lv_entry ([.ref h0, .int se]) (n := 2) (Nat.le_of_ble_eq_true rfl)
  rw [lg_entry_eq]
  generalize (lg_sl ([.ref h0, .int se]) ++ List.replicate (2 - (lg_sl ([.ref h0, .int se])).length) Slot.unset).toArray = ls at hl ⊢
  have hl : lv_has ls 2 [(0, .ref h0), (1, .int se)] := hl
  have hP : va_P (dC, dI) vwCl [cX0 h0 n0 k0 t0 p0 x, cL0 n0 n1 n2 n3 g, cL1 cJ n1 g, cL2 cI n2 g, cL3 cI n3 g, cL0 k0 k1 k2 k3 k, cL1 cJ k1 k, cL2 cI k2 k, cL3 cI k3 k, cT0 t0 t1 tp, cT1 cI t1 tp, cP0 p0 p1 p2 p3 p4 p5 pl, cP1 cI p1 pl, cP2 cI p2 pl, cP3 cI p3 pl, cP4 cI p4 pl, cP5 cI p5 pl] s.heap := hP
  refine lv_aload_n hx hb dX3_gap_0 rfl (lv_at hl 0 rfl) ?_
  refine lv_iload_n hx hb dX3_gap_1 rfl (lv_at hl 1 rfl) ?_
  have hPc := hP.sub (ws' := [cX0 h0 n0 k0 t0 p0 x, cL0 n0 n1 n2 n3 g, cL1 cJ n1 g, cL2 cI n2 g, cL3 cI n3 g, cL0 k0 k1 k2 k3 k, cL1 cJ k1 k, cL2 cI k2 k, cL3 cI k3 k, cT0 t0 t1 tp, cT1 cI t1 tp, cP0 p0 p1 p2 p3 p4 p5 pl, cP1 cI p1 pl, cP2 cI p2 pl, cP3 cI p3 pl, cP4 cI p4 pl, cP5 cI p5 pl]) [0, 1, 2, 3, 4, 5, 6, 7, 8, 9, 10, 11, 12, 13, 14, 15, 16] rfl
  have hDc := hD.sub (ws' := [cX0 h0 n0 k0 t0 p0 x, cL0 n0 n1 n2 n3 g, cL1 cJ n1 g, cL2 cI n2 g, cL3 cI n3 g, cL0 k0 k1 k2 k3 k, cL1 cJ k1 k, cL2 cI k2 k, cL3 cI k3 k, cT0 t0 t1 tp, cT1 cI t1 tp, cP0 p0 p1 p2 p3 p4 p5 pl, cP1 cI p1 pl, cP2 cI p2 pl, cP3 cI p3 pl, cP4 cI p4 pl, cP5 cI p5 pl]) [0, 1, 2, 3, 4, 5, 6, 7, 8, 9, 10, 11, 12, 13, 14, 15, 16] (by decide) rfl
  have hFc := va_free (wc := [cX0 h0 n0 k0 t0 p0 x, cL0 n0 n1 n2 n3 g, cL1 cJ n1 g, cL2 cI n2 g, cL3 cI n3 g, cL0 k0 k1 k2 k3 k, cL1 cJ k1 k, cL2 cI k2 k, cL3 cI k3 k, cT0 t0 t1 tp, cT1 cI t1 tp, cP0 p0 p1 p2 p3 p4 p5 pl, cP1 cI p1 pl, cP2 cI p2 pl, cP3 cI p3 pl, cP4 cI p4 pl, cP5 cI p5 pl]) hD hS hA [0, 1, 2, 3, 4, 5, 6, 7, 8, 9, 10, 11, 12, 13, 14, 15, 16] rfl
  refine va_calli (va_runV (As := [.int se]) (rest := []) ⟨hx, hb, hml, hown, hts⟩ (kX3_gapFits l dC dI cI cJ h0 n0 k0 t0 p0 n1 n2 n3 k1 k2 k3 t1 p1 p2 p3 p4 p5 s.heap.size se x g k tp pl) (cwV 1 hts gX3_gap_X3_gapFits rfl rfl rfl (by decide +kernel) ⟨Nat.le_of_ble_eq_true rfl, Nat.le_of_ble_eq_true rfl⟩) ⟨fun a U g mk q => by obtain ⟨q0, q1, qP, qK, qD, qN⟩ := q; exact ⟨q0, q1, qP, va_K.moved (u := U) (U := U.calling g mk a) (Vm.Alike.refl U.vm) qK, qD, nw_same (s := U) (U := U.calling g mk a) rfl qN⟩, va_recv hK hPc (ci := 3) (q0 := 0) rfl rfl, fun U hU hW => ⟨rfl, by rw [hU], by rw [hU]; exact hPc, va_K.moved hW.alike hK, hDc.weaken (fun _ _ _ _ => trivial), nw_warm hW hN⟩⟩ rfl rfl hl.1 rfl (lv_room (Nat.le_of_ble_eq_true rfl)) dX3_gap_2 ⟨Nat.le_of_ble_eq_true rfl, Nat.le_of_ble_eq_true rfl⟩) hS (fun q _ h => hFc q h) hFc (fun r_1 _ t H1 locs ht hvm hw hB hz1 hk1 hS => ?_)
  obtain ⟨hP1, hK1, hD1⟩ := hB
  rw [ht] at hP1
  obtain ⟨hP, hD⟩ := va_join (wr := []) (w1 := [cX0 h0 n0 k0 t0 p0 x, cL0 n0 n1 n2 n3 g, cL1 cJ n1 g, cL2 cI n2 g, cL3 cI n3 g, cL0 k0 k1 k2 k3 k, cL1 cJ k1 k, cL2 cI k2 k, cL3 cI k3 k, cT0 t0 t1 tp, cT1 cI t1 tp, cP0 p0 p1 p2 p3 p4 p5 pl, cP1 cI p1 pl, cP2 cI p2 pl, cP3 cI p3 pl, cP4 cI p4 pl, cP5 cI p5 pl]) hP hD [0, 1, 2, 3, 4, 5, 6, 7, 8, 9, 10, 11, 12, 13, 14, 15, 16] [] rfl rfl (by decide) (by decide) hk1 hFc hP1 hD1
  generalize H1 = H at hP hS ⊢
  have hP : va_P (dC, dI) vwCl [cX0 h0 n0 k0 t0 p0 x, cL0 n0 n1 n2 n3 g, cL1 cJ n1 g, cL2 cI n2 g, cL3 cI n3 g, cL0 k0 k1 k2 k3 k, cL1 cJ k1 k, cL2 cI k2 k, cL3 cI k3 k, cT0 t0 t1 tp, cT1 cI t1 tp, cP0 p0 p1 p2 p3 p4 p5 pl, cP1 cI p1 pl, cP2 cI p2 pl, cP3 cI p3 pl, cP4 cI p4 pl, cP5 cI p5 pl] H := hP
  have hD : va_D A [cX0 h0 n0 k0 t0 p0 x, cL0 n0 n1 n2 n3 g, cL1 cJ n1 g, cL2 cI n2 g, cL3 cI n3 g, cL0 k0 k1 k2 k3 k, cL1 cJ k1 k, cL2 cI k2 k, cL3 cI k3 k, cT0 t0 t1 tp, cT1 cI t1 tp, cP0 p0 p1 p2 p3 p4 p5 pl, cP1 cI p1 pl, cP2 cI p2 pl, cP3 cI p3 pl, cP4 cI p4 pl, cP5 cI p5 pl] := hD
  subst hw
  refine lv_if_ne (tgt := 10) hx hb dX3_gap_5 (by decide) (fun c_2 => ?_) (fun c_2 => ?_)
  · refine lv_aload_n hx hb dX3_gap_10 rfl (lv_at hl 0 rfl) ?_
    refine lv_iload_n hx hb dX3_gap_11 rfl (lv_at hl 1 rfl) ?_
    have hPc := hP.sub (ws' := [cX0 h0 n0 k0 t0 p0 x, cL0 n0 n1 n2 n3 g, cL1 cJ n1 g, cL2 cI n2 g, cL3 cI n3 g, cL0 k0 k1 k2 k3 k, cL1 cJ k1 k, cL2 cI k2 k, cL3 cI k3 k, cT0 t0 t1 tp, cT1 cI t1 tp, cP0 p0 p1 p2 p3 p4 p5 pl, cP1 cI p1 pl, cP2 cI p2 pl, cP3 cI p3 pl, cP4 cI p4 pl, cP5 cI p5 pl]) [0, 1, 2, 3, 4, 5, 6, 7, 8, 9, 10, 11, 12, 13, 14, 15, 16] rfl
    have hDc := hD.sub (ws' := [cX0 h0 n0 k0 t0 p0 x, cL0 n0 n1 n2 n3 g, cL1 cJ n1 g, cL2 cI n2 g, cL3 cI n3 g, cL0 k0 k1 k2 k3 k, cL1 cJ k1 k, cL2 cI k2 k, cL3 cI k3 k, cT0 t0 t1 tp, cT1 cI t1 tp, cP0 p0 p1 p2 p3 p4 p5 pl, cP1 cI p1 pl, cP2 cI p2 pl, cP3 cI p3 pl, cP4 cI p4 pl, cP5 cI p5 pl]) [0, 1, 2, 3, 4, 5, 6, 7, 8, 9, 10, 11, 12, 13, 14, 15, 16] (by decide) rfl
    have hFc := va_free (wc := [cX0 h0 n0 k0 t0 p0 x, cL0 n0 n1 n2 n3 g, cL1 cJ n1 g, cL2 cI n2 g, cL3 cI n3 g, cL0 k0 k1 k2 k3 k, cL1 cJ k1 k, cL2 cI k2 k, cL3 cI k3 k, cT0 t0 t1 tp, cT1 cI t1 tp, cP0 p0 p1 p2 p3 p4 p5 pl, cP1 cI p1 pl, cP2 cI p2 pl, cP3 cI p3 pl, cP4 cI p4 pl, cP5 cI p5 pl]) hD hS hA [0, 1, 2, 3, 4, 5, 6, 7, 8, 9, 10, 11, 12, 13, 14, 15, 16] rfl
    refine va_callv (va_runV (As := [.int se]) (rest := []) ⟨hx, hb, hml, hown, hts⟩ (kX3_passGap l dC dI cI cJ h0 n0 k0 t0 p0 n1 n2 n3 k1 k2 k3 t1 p1 p2 p3 p4 p5 H.size se x g k tp pl) (cwV 1 hts gX3_gap_X3_passGap rfl rfl rfl (by decide +kernel) ⟨Nat.le_of_ble_eq_true rfl, Nat.le_of_ble_eq_true rfl⟩) ⟨fun a U g mk q => by obtain ⟨q0, q1, qP, qK, qD, qN⟩ := q; exact ⟨q0, q1, qP, va_K.moved (u := U) (U := U.calling g mk a) (Vm.Alike.refl U.vm) qK, qD, nw_same (s := U) (U := U.calling g mk a) rfl qN⟩, va_recv hK hPc (ci := 3) (q0 := 0) rfl rfl, fun U hU hW => ⟨rfl, by rw [hU], by rw [hU]; exact hPc, va_K.moved hW.alike hK, hDc.weaken (fun _ _ _ _ => trivial), nw_warm hW hN⟩⟩ rfl rfl hl.1 rfl (lv_room (Nat.le_of_ble_eq_true rfl)) dX3_gap_12 ⟨Nat.le_of_ble_eq_true rfl, Nat.le_of_ble_eq_true rfl⟩) hS (fun q _ h => hFc q h) hFc (fun _ t H1 locs ht hvm hw hB hz1 hk1 hS => ?_)
    obtain ⟨hP1, hK1, hD1⟩ := hB
    rw [ht] at hP1
    obtain ⟨g_4, eg_4⟩ : ∃ z, z = sX3_passGap_x se x g k tp pl := ⟨_, rfl⟩
    rw [← eg_4] at hP1 hD1
    obtain ⟨g_5, eg_5⟩ : ∃ z, z = sX3_passGap_g se x g k tp pl := ⟨_, rfl⟩
    rw [← eg_5] at hP1 hD1
    obtain ⟨hP, hD⟩ := va_join (wr := []) (w1 := [cX0 h0 n0 k0 t0 p0 g_4, cL0 n0 n1 n2 n3 g_5, cL1 cJ n1 g_5, cL2 cI n2 g_5, cL3 cI n3 g_5, cL0 k0 k1 k2 k3 k, cL1 cJ k1 k, cL2 cI k2 k, cL3 cI k3 k, cT0 t0 t1 tp, cT1 cI t1 tp, cP0 p0 p1 p2 p3 p4 p5 pl, cP1 cI p1 pl, cP2 cI p2 pl, cP3 cI p3 pl, cP4 cI p4 pl, cP5 cI p5 pl]) hP hD [0, 1, 2, 3, 4, 5, 6, 7, 8, 9, 10, 11, 12, 13, 14, 15, 16] [] rfl rfl (by decide) (by decide) hk1 hFc hP1 hD1
    generalize H1 = H at hP hS ⊢
    have hP : va_P (dC, dI) vwCl [cX0 h0 n0 k0 t0 p0 g_4, cL0 n0 n1 n2 n3 g_5, cL1 cJ n1 g_5, cL2 cI n2 g_5, cL3 cI n3 g_5, cL0 k0 k1 k2 k3 k, cL1 cJ k1 k, cL2 cI k2 k, cL3 cI k3 k, cT0 t0 t1 tp, cT1 cI t1 tp, cP0 p0 p1 p2 p3 p4 p5 pl, cP1 cI p1 pl, cP2 cI p2 pl, cP3 cI p3 pl, cP4 cI p4 pl, cP5 cI p5 pl] H := hP
    have hD : va_D A [cX0 h0 n0 k0 t0 p0 g_4, cL0 n0 n1 n2 n3 g_5, cL1 cJ n1 g_5, cL2 cI n2 g_5, cL3 cI n3 g_5, cL0 k0 k1 k2 k3 k, cL1 cJ k1 k, cL2 cI k2 k, cL3 cI k3 k, cT0 t0 t1 tp, cT1 cI t1 tp, cP0 p0 p1 p2 p3 p4 p5 pl, cP1 cI p1 pl, cP2 cI p2 pl, cP3 cI p3 pl, cP4 cI p4 pl, cP5 cI p5 pl] := hD
    refine lv_iconst (v := 1) hx hb dX3_gap_15 (by decide) ?_
    have es0 : sX3_gap_x se x g k tp pl = g_4 := by rw [sX3_gap_x, if_neg c_2, ← eg_4, sX3_gap_x_g_4, ← eg_5, sX3_gap_x_g_5]
    have es1 : sX3_gap_g se x g k tp pl = g_5 := by rw [sX3_gap_g, if_neg c_2, ← eg_4, sX3_gap_g_g_4, ← eg_5, sX3_gap_g_g_5]
    have er : 1 = rX3_gap se x g k tp pl := by rw [rX3_gap, if_neg c_2, ← eg_4, rX3_gap_g_4, ← eg_5, rX3_gap_g_5]
    refine W.zret (ty := .boolean) (v := 1) hx hb hr rfl (fun t ht hW => ⟨⟨1, (), rfl, er, ?_⟩, hS.F ht⟩) hS.2.2 dX3_gap_16
    rw [es0]; rw [es1]; exact ⟨by rw [ht]; exact hP, va_K.moved hW.alike hK, hD⟩
  · refine lv_iconst (v := 0) hx hb dX3_gap_8 (by decide) ?_
    have es0 : sX3_gap_x se x g k tp pl = x := by rw [sX3_gap_x, if_pos c_2]
    have es1 : sX3_gap_g se x g k tp pl = g := by rw [sX3_gap_g, if_pos c_2]
    have er : 0 = rX3_gap se x g k tp pl := by rw [rX3_gap, if_pos c_2]
    refine W.zret (ty := .boolean) (v := 0) hx hb hr rfl (fun t ht hW => ⟨⟨0, (), rfl, er, ?_⟩, hS.F ht⟩) hS.2.2 dX3_gap_9
    rw [es0]; rw [es1]; exact ⟨by rw [ht]; exact hP, va_K.moved hW.alike hK, hD⟩
