def sX3_tells_g_6 (v : Int32) (x : XC) (g : LG) (k : LG) (tp : TP) (pl : PL) (g_6 : LG) : LG :=
  g_6
def sX3_tells_g_8 (v : Int32) (x : XC) (g : LG) (k : LG) (tp : TP) (pl : PL) (g_8 : LG) : LG :=
  g_8
def sX3_tells_g_10 (v : Int32) (x : XC) (g : LG) (k : LG) (tp : TP) (pl : PL) (g_10 : LG) : LG :=
  g_10
def sX3_tells (v : Int32) (x : XC) (g : LG) (k : LG) (tp : TP) (pl : PL) : LG :=
  if (rX3_within v 0 255) = 0 then
    g
  else
    if (if 0 < ((x.1 * (v - x.2.2.1)) / 255) then ((x.1 * (v - x.2.2.1)) / 255) else 0) ≤ g.2.1 then
      if g.1 ≤ (if ((x.1 * ((v + 1) + x.2.2.1)) / 255) < x.1 then ((x.1 * ((v + 1) + x.2.2.1)) / 255) else x.1) then
        sX3_tells_g_6 v x g k tp pl (sX0_narrow (if 0 < ((x.1 * (v - x.2.2.1)) / 255) then ((x.1 * (v - x.2.2.1)) / 255) else 0) (if ((x.1 * ((v + 1) + x.2.2.1)) / 255) < x.1 then ((x.1 * ((v + 1) + x.2.2.1)) / 255) else x.1) g)
      else
        sX3_tells_g_8 v x g k tp pl (sX0_takeLoss (if 0 < ((x.1 * (v - x.2.2.1)) / 255) then ((x.1 * (v - x.2.2.1)) / 255) else 0) (if ((x.1 * ((v + 1) + x.2.2.1)) / 255) < x.1 then ((x.1 * ((v + 1) + x.2.2.1)) / 255) else x.1) g)
    else
      sX3_tells_g_10 v x g k tp pl (sX0_takeRefill (if 0 < ((x.1 * (v - x.2.2.1)) / 255) then ((x.1 * (v - x.2.2.1)) / 255) else 0) (if ((x.1 * ((v + 1) + x.2.2.1)) / 255) < x.1 then ((x.1 * ((v + 1) + x.2.2.1)) / 255) else x.1) g)
def rX3_tells_g_6 (v : Int32) (x : XC) (g : LG) (k : LG) (tp : TP) (pl : PL) (g_6 : LG) : Int32 :=
  0
def rX3_tells_g_8 (v : Int32) (x : XC) (g : LG) (k : LG) (tp : TP) (pl : PL) (g_8 : LG) : Int32 :=
  2
def rX3_tells_g_10 (v : Int32) (x : XC) (g : LG) (k : LG) (tp : TP) (pl : PL) (g_10 : LG) : Int32 :=
  1
def rX3_tells (v : Int32) (x : XC) (g : LG) (k : LG) (tp : TP) (pl : PL) : Int32 :=
  if (rX3_within v 0 255) = 0 then
    (-1)
  else
    if (if 0 < ((x.1 * (v - x.2.2.1)) / 255) then ((x.1 * (v - x.2.2.1)) / 255) else 0) ≤ g.2.1 then
      if g.1 ≤ (if ((x.1 * ((v + 1) + x.2.2.1)) / 255) < x.1 then ((x.1 * ((v + 1) + x.2.2.1)) / 255) else x.1) then
        rX3_tells_g_6 v x g k tp pl (sX0_narrow (if 0 < ((x.1 * (v - x.2.2.1)) / 255) then ((x.1 * (v - x.2.2.1)) / 255) else 0) (if ((x.1 * ((v + 1) + x.2.2.1)) / 255) < x.1 then ((x.1 * ((v + 1) + x.2.2.1)) / 255) else x.1) g)
      else
        rX3_tells_g_8 v x g k tp pl (sX0_takeLoss (if 0 < ((x.1 * (v - x.2.2.1)) / 255) then ((x.1 * (v - x.2.2.1)) / 255) else 0) (if ((x.1 * ((v + 1) + x.2.2.1)) / 255) < x.1 then ((x.1 * ((v + 1) + x.2.2.1)) / 255) else x.1) g)
    else
      rX3_tells_g_10 v x g k tp pl (sX0_takeRefill (if 0 < ((x.1 * (v - x.2.2.1)) / 255) then ((x.1 * (v - x.2.2.1)) / 255) else 0) (if ((x.1 * ((v + 1) + x.2.2.1)) / 255) < x.1 then ((x.1 * ((v + 1) + x.2.2.1)) / 255) else x.1) g)
set_option maxHeartbeats 4000000 in
set_option maxRecDepth 100000 in
theorem kX3_tells (l : Launch) (dC : Nat → ClassId) (dI : Nat → Nat → Nat) (cI cJ : ClassId) (h0 n0 k0 t0 p0 n1 n2 n3 k1 k2 k3 t1 p1 p2 p3 p4 p5 : Nat) (sz : Nat) (v : Int32) (x : XC) (g : LG) (k : LG) (tp : TP) (pl : PL) (hrf : 0 ≤ g.2.2.1) : Met l yX3_tells wsX3_tells ({ frames := 4, cells := 0, slots := 0, locals := 89 }) (va_Pc [.ref h0, .int v] (fun U => U.heap.size = sz ∧ va_P (dC, dI) vwCl [cX0 h0 n0 k0 t0 p0 x, cL0 n0 n1 n2 n3 g, cL1 cJ n1 g, cL2 cI n2 g, cL3 cI n3 g, cL0 k0 k1 k2 k3 k, cL1 cJ k1 k, cL2 cI k2 k, cL3 cI k3 k, cT0 t0 t1 tp, cT1 cI t1 tp, cP0 p0 p1 p2 p3 p4 p5 pl, cP1 cI p1 pl, cP2 cI p2 pl, cP3 cI p3 pl, cP4 cI p4 pl, cP5 cI p5 pl] U.heap ∧ va_K (dC, dI) vwCl [(cI, .int), (cJ, .long)] U ∧ va_D (fun _ => True) [cX0 h0 n0 k0 t0 p0 x, cL0 n0 n1 n2 n3 g, cL1 cJ n1 g, cL2 cI n2 g, cL3 cI n3 g, cL0 k0 k1 k2 k3 k, cL1 cJ k1 k, cL2 cI k2 k, cL3 cI k3 k, cT0 t0 t1 tp, cT1 cI t1 tp, cP0 p0 p1 p2 p3 p4 p5 pl, cP1 cI p1 pl, cP2 cI p2 pl, cP3 cI p3 pl, cP4 cI p4 pl, cP5 cI p5 pl] ∧ nw U)) (va_Qi (fun (r : Int32) (_ : Unit) => r = rX3_tells v x g k tp pl) (fun _ t => va_P (dC, dI) vwCl [cX0 h0 n0 k0 t0 p0 x, cL0 n0 n1 n2 n3 (sX3_tells v x g k tp pl), cL1 cJ n1 (sX3_tells v x g k tp pl), cL2 cI n2 (sX3_tells v x g k tp pl), cL3 cI n3 (sX3_tells v x g k tp pl), cL0 k0 k1 k2 k3 k, cL1 cJ k1 k, cL2 cI k2 k, cL3 cI k3 k, cT0 t0 t1 tp, cT1 cI t1 tp, cP0 p0 p1 p2 p3 p4 p5 pl, cP1 cI p1 pl, cP2 cI p2 pl, cP3 cI p3 pl, cP4 cI p4 pl, cP5 cI p5 pl] t.heap ∧ va_K (dC, dI) vwCl [(cI, .int), (cJ, .long)] t ∧ va_D (va_A [cX0 h0 n0 k0 t0 p0 x, cL0 n0 n1 n2 n3 g, cL1 cJ n1 g, cL2 cI n2 g, cL3 cI n3 g, cL0 k0 k1 k2 k3 k, cL1 cJ k1 k, cL2 cI k2 k, cL3 cI k3 k, cT0 t0 t1 tp, cT1 cI t1 tp, cP0 p0 p1 p2 p3 p4 p5 pl, cP1 cI p1 pl, cP2 cI p2 pl, cP3 cI p3 pl, cP4 cI p4 pl, cP5 cI p5 pl] sz) [cX0 h0 n0 k0 t0 p0 x, cL0 n0 n1 n2 n3 (sX3_tells v x g k tp pl), cL1 cJ n1 (sX3_tells v x g k tp pl), cL2 cI n2 (sX3_tells v x g k tp pl), cL3 cI n3 (sX3_tells v x g k tp pl), cL0 k0 k1 k2 k3 k, cL1 cJ k1 k, cL2 cI k2 k, cL3 cI k3 k, cT0 t0 t1 tp, cT1 cI t1 tp, cP0 p0 p1 p2 p3 p4 p5 pl, cP1 cI p1 pl, cP2 cI p2 pl, cP3 cI p3 pl, cP4 cI p4 pl, cP5 cI p5 pl]) (va_A [cX0 h0 n0 k0 t0 p0 x, cL0 n0 n1 n2 n3 g, cL1 cJ n1 g, cL2 cI n2 g, cL3 cI n3 g, cL0 k0 k1 k2 k3 k, cL1 cJ k1 k, cL2 cI k2 k, cL3 cI k3 k, cT0 t0 t1 tp, cT1 cI t1 tp, cP0 p0 p1 p2 p3 p4 p5 pl, cP1 cI p1 pl, cP2 cI p2 pl, cP3 cI p3 pl, cP4 cI p4 pl, cP5 cI p5 pl] sz)) 0 0 (va_A [cX0 h0 n0 k0 t0 p0 x, cL0 n0 n1 n2 n3 g, cL1 cJ n1 g, cL2 cI n2 g, cL3 cI n3 g, cL0 k0 k1 k2 k3 k, cL1 cJ k1 k, cL2 cI k2 k, cL3 cI k3 k, cT0 t0 t1 tp, cT1 cI t1 tp, cP0 p0 p1 p2 p3 p4 p5 pl, cP1 cI p1 pl, cP2 cI p2 pl, cP3 cI p3 pl, cP4 cI p4 pl, cP5 cI p5 pl] sz) := by
  refine Met.ofW (cc := cX3_tells) (maxL := 4) (ret := (some .int)) (by decide) rfl ?_
  intro p e s m args below meth c s₁ B hml hv
  obtain ⟨rfl, hsz, hP, hK, hD0, hN⟩ := hv
  have hx := B.exec
  have hb := B.bytes
  have hr := B.returns
  have hts := atoms_spec (ws := wsX3_tells) B.pre
  have hown : s.vm.findClass RX3 = some m.cls := findClass_of_methodNamed B.named
  have hlocks := B.notSynchronized
  have hiX3 : ∀ w ∈ u_ws RX3 TX3 12, w ∈ wsX3_tells := by decide +kernel
  have hiX0 : ∀ w ∈ u_ws RX0 TX0 15, w ∈ wsX3_tells := by decide +kernel
  subst hsz
  have hD := hD0.self (sz := s.heap.size)
  generalize hAe : va_A [cX0 h0 n0 k0 t0 p0 x, cL0 n0 n1 n2 n3 g, cL1 cJ n1 g, cL2 cI n2 g, cL3 cI n3 g, cL0 k0 k1 k2 k3 k, cL1 cJ k1 k, cL2 cI k2 k, cL3 cI k3 k, cT0 t0 t1 tp, cT1 cI t1 tp, cP0 p0 p1 p2 p3 p4 p5 pl, cP1 cI p1 pl, cP2 cI p2 pl, cP3 cI p3 pl, cP4 cI p4 pl, cP5 cI p5 pl] s.heap.size = A at hD ⊢
  have hA : ∀ q : Nat, s.heap.size ≤ q → A q := fun q h => by rw [← hAe]; exact Or.inr h
  have hS : va_S A s.heap s.heap [] := va_S.rf
  have hl := lv_entry ([.ref h0, .int v]) (n := 4) (Nat.le_of_ble_eq_true rfl)
  rw [lg_entry_eq]
  generalize (lg_sl ([.ref h0, .int v]) ++ List.replicate (4 - (lg_sl ([.ref h0, .int v])).length) Slot.unset).toArray = ls at hl ⊢
  have hl : lv_has ls 4 [(0, .ref h0), (1, .int v)] := hl
  have hP : va_P (dC, dI) vwCl [cX0 h0 n0 k0 t0 p0 x, cL0 n0 n1 n2 n3 g, cL1 cJ n1 g, cL2 cI n2 g, cL3 cI n3 g, cL0 k0 k1 k2 k3 k, cL1 cJ k1 k, cL2 cI k2 k, cL3 cI k3 k, cT0 t0 t1 tp, cT1 cI t1 tp, cP0 p0 p1 p2 p3 p4 p5 pl, cP1 cI p1 pl, cP2 cI p2 pl, cP3 cI p3 pl, cP4 cI p4 pl, cP5 cI p5 pl] s.heap := hP
  refine lv_iload_n hx hb dX3_tells_0 rfl (lv_at hl 1 rfl) ?_
  refine lv_iconst (v := 0) hx hb dX3_tells_1 (by decide) ?_
  refine lv_sipush (v := 255) hx hb dX3_tells_2 (by decide) ?_
  have hPc := hP.sub (ws' := []) [] rfl
  have hDc := hD.sub (ws' := []) [] (by decide) rfl
  have hFc := va_free (wc := []) hD hS hA [] rfl
  refine va_calli (va_runS (As := [.int v, .int 0, .int 255]) (rest := []) ⟨hx, hb, hml, hown, hts⟩ (kX3_within l dC dI cI cJ s.heap.size v 0 255) (va_cwS 3 hts gX3_tells_X3_within rfl rfl rfl (by decide +kernel) ⟨Nat.le_of_ble_eq_true rfl, Nat.le_of_ble_eq_true rfl⟩) ⟨fun a U g mk q => by obtain ⟨q0, q1, qP, qK, qD⟩ := q; exact ⟨q0, q1, qP, va_K.moved (u := U) (U := U.calling g mk a) (Vm.Alike.refl U.vm) qK, qD⟩, fun U hU hW => ⟨rfl, by rw [hU], by rw [hU]; exact hPc, va_K.moved hW.alike hK, hDc.weaken (fun _ _ _ _ => trivial)⟩⟩ rfl rfl hl.1 rfl (lv_room (Nat.le_of_ble_eq_true rfl)) dX3_tells_5 ⟨Nat.le_of_ble_eq_true rfl, Nat.le_of_ble_eq_true rfl⟩) hS (fun q _ h => hFc q h) hFc (fun r_1 _ t H1 locs ht hvm hw hB hz1 hk1 hS => ?_)
  obtain ⟨hP1, hK1, hD1⟩ := hB
  rw [ht] at hP1
  obtain ⟨hP, hD⟩ := va_join (wr := [cX0 h0 n0 k0 t0 p0 x, cL0 n0 n1 n2 n3 g, cL1 cJ n1 g, cL2 cI n2 g, cL3 cI n3 g, cL0 k0 k1 k2 k3 k, cL1 cJ k1 k, cL2 cI k2 k, cL3 cI k3 k, cT0 t0 t1 tp, cT1 cI t1 tp, cP0 p0 p1 p2 p3 p4 p5 pl, cP1 cI p1 pl, cP2 cI p2 pl, cP3 cI p3 pl, cP4 cI p4 pl, cP5 cI p5 pl]) (w1 := []) hP hD [] [0, 1, 2, 3, 4, 5, 6, 7, 8, 9, 10, 11, 12, 13, 14, 15, 16] rfl rfl (by decide) (by decide) hk1 hFc hP1 hD1
  generalize H1 = H at hP hS ⊢
  have hP : va_P (dC, dI) vwCl [cX0 h0 n0 k0 t0 p0 x, cL0 n0 n1 n2 n3 g, cL1 cJ n1 g, cL2 cI n2 g, cL3 cI n3 g, cL0 k0 k1 k2 k3 k, cL1 cJ k1 k, cL2 cI k2 k, cL3 cI k3 k, cT0 t0 t1 tp, cT1 cI t1 tp, cP0 p0 p1 p2 p3 p4 p5 pl, cP1 cI p1 pl, cP2 cI p2 pl, cP3 cI p3 pl, cP4 cI p4 pl, cP5 cI p5 pl] H := hP
  have hD : va_D A [cX0 h0 n0 k0 t0 p0 x, cL0 n0 n1 n2 n3 g, cL1 cJ n1 g, cL2 cI n2 g, cL3 cI n3 g, cL0 k0 k1 k2 k3 k, cL1 cJ k1 k, cL2 cI k2 k, cL3 cI k3 k, cT0 t0 t1 tp, cT1 cI t1 tp, cP0 p0 p1 p2 p3 p4 p5 pl, cP1 cI p1 pl, cP2 cI p2 pl, cP3 cI p3 pl, cP4 cI p4 pl, cP5 cI p5 pl] := hD
  subst hw
  refine lv_if_ne (tgt := 13) hx hb dX3_tells_8 (by decide) (fun c_2 => ?_) (fun c_2 => ?_)
  · refine lv_iconst (v := 0) hx hb dX3_tells_13 (by decide) ?_
    refine lv_aload_n hx hb dX3_tells_14 rfl (lv_at hl 0 rfl) ?_
    refine va_get (D := (dC, dI)) (ci := 3) (v := .int x.1) (C := RX3) (T := TX3) (N := 12) hx hb hts hiX3 hown hK hP 0 rfl rfl 4 (by decide) (hts (.fieldLink RX3 34 "TripReckoner" "tankSize" "I") (by decide +kernel)) (fun _ h9 => h9) rfl dX3_tells_15 ?_
    refine lv_iload_n hx hb dX3_tells_18 rfl (lv_at hl 1 rfl) ?_
    refine lv_aload_n hx hb dX3_tells_19 rfl (lv_at hl 0 rfl) ?_
    refine va_get (D := (dC, dI)) (ci := 3) (v := .int x.2.2.1) (C := RX3) (T := TX3) (N := 12) hx hb hts hiX3 hown hK hP 0 rfl rfl 6 (by decide) (hts (.fieldLink RX3 41 "TripReckoner" "floatSlop" "I") (by decide +kernel)) (fun _ h9 => h9) rfl dX3_tells_20 ?_
    refine lv_isub hx hb dX3_tells_23 ?_
    refine lv_imul hx hb dX3_tells_24 ?_
    refine lv_sipush (v := 255) hx hb dX3_tells_25 (by decide) ?_
    refine lv_idiv hx hb dX3_tells_28 (by decide) ?_
    refine va_mmax hx hb (by rw [hml]; exact hl.1.symm) hown (hts (.methodLink RX3 106 Lib.Math.max.name) (by decide +kernel)) (hts (.static Lib.Math.max.name) (by decide +kernel)) (hts (.initialized "java/lang/Math") (by decide +kernel)) (hts (.code Lib.Math.max.name Lib.Math.max.code 2 (some .int)) (by decide +kernel)) (Nat.le_of_ble_eq_true rfl) (Nat.le_of_ble_eq_true rfl) (Nat.zero_le _) (Nat.zero_le _) dX3_tells_29 ?_
    refine lv_istore_n (lv' := [(2, .int (if 0 < ((x.1 * (v - x.2.2.1)) / 255) then ((x.1 * (v - x.2.2.1)) / 255) else 0)), (0, .ref h0), (1, .int v)]) hx hb dX3_tells_32 rfl hl (by decide) rfl (fun ls hl => ?_)
    refine lv_aload_n hx hb dX3_tells_33 rfl (lv_at hl 1 rfl) ?_
    refine va_get (D := (dC, dI)) (ci := 3) (v := .int x.1) (C := RX3) (T := TX3) (N := 12) hx hb hts hiX3 hown hK hP 0 rfl rfl 4 (by decide) (hts (.fieldLink RX3 34 "TripReckoner" "tankSize" "I") (by decide +kernel)) (fun _ h9 => h9) rfl dX3_tells_34 ?_
    refine lv_aload_n hx hb dX3_tells_37 rfl (lv_at hl 1 rfl) ?_
    refine va_get (D := (dC, dI)) (ci := 3) (v := .int x.1) (C := RX3) (T := TX3) (N := 12) hx hb hts hiX3 hown hK hP 0 rfl rfl 4 (by decide) (hts (.fieldLink RX3 34 "TripReckoner" "tankSize" "I") (by decide +kernel)) (fun _ h9 => h9) rfl dX3_tells_38 ?_
    refine lv_iload_n hx hb dX3_tells_41 rfl (lv_at hl 2 rfl) ?_
    refine lv_iconst (v := 1) hx hb dX3_tells_42 (by decide) ?_
    refine lv_iadd hx hb dX3_tells_43 ?_
    refine lv_aload_n hx hb dX3_tells_44 rfl (lv_at hl 1 rfl) ?_
    refine va_get (D := (dC, dI)) (ci := 3) (v := .int x.2.2.1) (C := RX3) (T := TX3) (N := 12) hx hb hts hiX3 hown hK hP 0 rfl rfl 6 (by decide) (hts (.fieldLink RX3 41 "TripReckoner" "floatSlop" "I") (by decide +kernel)) (fun _ h9 => h9) rfl dX3_tells_45 ?_
    refine lv_iadd hx hb dX3_tells_48 ?_
    refine lv_imul hx hb dX3_tells_49 ?_
    refine lv_sipush (v := 255) hx hb dX3_tells_50 (by decide) ?_
    refine lv_idiv hx hb dX3_tells_53 (by decide) ?_
    refine va_mmin hx hb (by rw [hml]; exact hl.1.symm) hown (hts (.methodLink RX3 112 Lib.Math.min.name) (by decide +kernel)) (hts (.static Lib.Math.min.name) (by decide +kernel)) (hts (.initialized "java/lang/Math") (by decide +kernel)) (hts (.code Lib.Math.min.name Lib.Math.min.code 2 (some .int)) (by decide +kernel)) (Nat.le_of_ble_eq_true rfl) (Nat.le_of_ble_eq_true rfl) (Nat.zero_le _) (Nat.zero_le _) dX3_tells_54 ?_
    refine lv_istore_n (lv' := [(3, .int (if ((x.1 * ((v + 1) + x.2.2.1)) / 255) < x.1 then ((x.1 * ((v + 1) + x.2.2.1)) / 255) else x.1)), (2, .int (if 0 < ((x.1 * (v - x.2.2.1)) / 255) then ((x.1 * (v - x.2.2.1)) / 255) else 0)), (0, .ref h0), (1, .int v)]) hx hb dX3_tells_57 rfl hl (by decide) rfl (fun ls hl => ?_)
    refine lv_iload_n hx hb dX3_tells_58 rfl (lv_at hl 1 rfl) ?_
    refine lv_aload_n hx hb dX3_tells_59 rfl (lv_at hl 2 rfl) ?_
    refine va_get (D := (dC, dI)) (ci := 3) (v := .ref n0) (C := RX3) (T := TX3) (N := 12) hx hb hts hiX3 hown hK hP 0 rfl rfl 0 (by decide) (hts (.fieldLink RX3 10 "TripReckoner" "now" "LTripReckoner$Ledger;") (by decide +kernel)) (fun _ h9 => h9) rfl dX3_tells_60 ?_
    refine va_getN (D := (dC, dI)) (ci := 0) (v := .int g.2.1) (C := RX0) (T := TX0) (N := 15) hx hb hts hiX0 hown hK hP 1 rfl rfl 1 (by decide) (nw_f hN (.fieldLinkNest RX3 115 "TripReckoner$Ledger" "spanGreatest" "I" "TripReckoner") (by decide +kernel) rfl) (fun _ h9 => h9) rfl dX3_tells_63 ?_
    refine lv_icmp_le (tgt := 80) hx hb dX3_tells_66 (by decide) (fun c_3 => ?_) (fun c_3 => ?_)
    · refine lv_iload_n hx hb dX3_tells_80 rfl (lv_at hl 0 rfl) ?_
      refine lv_aload_n hx hb dX3_tells_81 rfl (lv_at hl 2 rfl) ?_
      refine va_get (D := (dC, dI)) (ci := 3) (v := .ref n0) (C := RX3) (T := TX3) (N := 12) hx hb hts hiX3 hown hK hP 0 rfl rfl 0 (by decide) (hts (.fieldLink RX3 10 "TripReckoner" "now" "LTripReckoner$Ledger;") (by decide +kernel)) (fun _ h9 => h9) rfl dX3_tells_82 ?_
      refine va_getN (D := (dC, dI)) (ci := 0) (v := .int g.1) (C := RX0) (T := TX0) (N := 15) hx hb hts hiX0 hown hK hP 1 rfl rfl 0 (by decide) (nw_f hN (.fieldLinkNest RX3 122 "TripReckoner$Ledger" "spanLeast" "I" "TripReckoner") (by decide +kernel) rfl) (fun _ h9 => h9) rfl dX3_tells_85 ?_
      refine lv_icmp_ge (tgt := 102) hx hb dX3_tells_88 (by decide) (fun c_4 => ?_) (fun c_4 => ?_)
      · refine lv_aload_n hx hb dX3_tells_102 rfl (lv_at hl 2 rfl) ?_
        refine va_get (D := (dC, dI)) (ci := 3) (v := .ref n0) (C := RX3) (T := TX3) (N := 12) hx hb hts hiX3 hown hK hP 0 rfl rfl 0 (by decide) (hts (.fieldLink RX3 10 "TripReckoner" "now" "LTripReckoner$Ledger;") (by decide +kernel)) (fun _ h9 => h9) rfl dX3_tells_103 ?_
        refine lv_iload_n hx hb dX3_tells_106 rfl (lv_at hl 1 rfl) ?_
        refine lv_iload_n hx hb dX3_tells_107 rfl (lv_at hl 0 rfl) ?_
        have hPc := hP.sub (ws' := [cL0 n0 n1 n2 n3 g, cL1 cJ n1 g, cL2 cI n2 g, cL3 cI n3 g]) [1, 2, 3, 4] rfl
        have hDc := hD.sub (ws' := [cL0 n0 n1 n2 n3 g, cL1 cJ n1 g, cL2 cI n2 g, cL3 cI n3 g]) [1, 2, 3, 4] (by decide) rfl
        have hFc := va_free (wc := [cL0 n0 n1 n2 n3 g, cL1 cJ n1 g, cL2 cI n2 g, cL3 cI n3 g]) hD hS hA [1, 2, 3, 4] rfl
        refine va_callv (va_runVN (As := [.int (if 0 < ((x.1 * (v - x.2.2.1)) / 255) then ((x.1 * (v - x.2.2.1)) / 255) else 0), .int (if ((x.1 * ((v + 1) + x.2.2.1)) / 255) < x.1 then ((x.1 * ((v + 1) + x.2.2.1)) / 255) else x.1)]) (rest := []) ⟨hx, hb, hml, hown, hts⟩ (kX0_narrow l dC dI cI cJ n0 n1 n2 n3 H.size (if 0 < ((x.1 * (v - x.2.2.1)) / 255) then ((x.1 * (v - x.2.2.1)) / 255) else 0) (if ((x.1 * ((v + 1) + x.2.2.1)) / 255) < x.1 then ((x.1 * ((v + 1) + x.2.2.1)) / 255) else x.1) g) ⟨va_cnB 2 hts gX3_tells_X0_narrow_n128 rfl rfl rfl (nw_m hN (.methodLinkNest RX3 128 yX0_narrow "TripReckoner") (by decide +kernel)) (hts (.initialized RX0) (by decide +kernel)) (by decide +kernel) ⟨Nat.le_of_ble_eq_true rfl, Nat.le_of_ble_eq_true rfl⟩, (hts (.instanceMethod yX0_narrow) (by decide +kernel)), (hts (.selects RX0 yX0_narrow yX0_narrow) (by decide +kernel))⟩ ⟨fun a U g mk q => by obtain ⟨q0, q1, qP, qK, qD⟩ := q; exact ⟨q0, q1, qP, va_K.moved (u := U) (U := U.calling g mk a) (Vm.Alike.refl U.vm) qK, qD⟩, va_recv hK hPc (ci := 0) (q0 := 0) rfl rfl, fun U hU hW => ⟨rfl, by rw [hU], by rw [hU]; exact hPc, va_K.moved hW.alike hK, hDc.weaken (fun _ _ _ _ => trivial)⟩⟩ rfl rfl hl.1 rfl (lv_room (Nat.le_of_ble_eq_true rfl)) dX3_tells_108 ⟨Nat.le_of_ble_eq_true rfl, Nat.le_of_ble_eq_true rfl⟩) hS (fun q _ h => hFc q h) hFc (fun _ t H1 locs ht hvm hw hB hz1 hk1 hS => ?_)
        obtain ⟨hP1, hK1, hD1⟩ := hB
        rw [ht] at hP1
        obtain ⟨g_6, eg_6⟩ : ∃ z, z = sX0_narrow (if 0 < ((x.1 * (v - x.2.2.1)) / 255) then ((x.1 * (v - x.2.2.1)) / 255) else 0) (if ((x.1 * ((v + 1) + x.2.2.1)) / 255) < x.1 then ((x.1 * ((v + 1) + x.2.2.1)) / 255) else x.1) g := ⟨_, rfl⟩
        rw [← eg_6] at hP1 hD1
        obtain ⟨hP, hD⟩ := va_join (wr := [cX0 h0 n0 k0 t0 p0 x, cL0 k0 k1 k2 k3 k, cL1 cJ k1 k, cL2 cI k2 k, cL3 cI k3 k, cT0 t0 t1 tp, cT1 cI t1 tp, cP0 p0 p1 p2 p3 p4 p5 pl, cP1 cI p1 pl, cP2 cI p2 pl, cP3 cI p3 pl, cP4 cI p4 pl, cP5 cI p5 pl]) (w1 := [cL0 n0 n1 n2 n3 g_6, cL1 cJ n1 g_6, cL2 cI n2 g_6, cL3 cI n3 g_6]) hP hD [1, 2, 3, 4] [0, 5, 6, 7, 8, 9, 10, 11, 12, 13, 14, 15, 16] rfl rfl (by decide) (by decide) hk1 hFc hP1 hD1
        generalize H1 = H at hP hS ⊢
        have hP := hP.sub (ws' := [cX0 h0 n0 k0 t0 p0 x, cL0 n0 n1 n2 n3 g_6, cL1 cJ n1 g_6, cL2 cI n2 g_6, cL3 cI n3 g_6, cL0 k0 k1 k2 k3 k, cL1 cJ k1 k, cL2 cI k2 k, cL3 cI k3 k, cT0 t0 t1 tp, cT1 cI t1 tp, cP0 p0 p1 p2 p3 p4 p5 pl, cP1 cI p1 pl, cP2 cI p2 pl, cP3 cI p3 pl, cP4 cI p4 pl, cP5 cI p5 pl]) [0, 13, 14, 15, 16, 1, 2, 3, 4, 5, 6, 7, 8, 9, 10, 11, 12] rfl
        have hD := hD.sub (ws' := [cX0 h0 n0 k0 t0 p0 x, cL0 n0 n1 n2 n3 g_6, cL1 cJ n1 g_6, cL2 cI n2 g_6, cL3 cI n3 g_6, cL0 k0 k1 k2 k3 k, cL1 cJ k1 k, cL2 cI k2 k, cL3 cI k3 k, cT0 t0 t1 tp, cT1 cI t1 tp, cP0 p0 p1 p2 p3 p4 p5 pl, cP1 cI p1 pl, cP2 cI p2 pl, cP3 cI p3 pl, cP4 cI p4 pl, cP5 cI p5 pl]) [0, 13, 14, 15, 16, 1, 2, 3, 4, 5, 6, 7, 8, 9, 10, 11, 12] (by decide) rfl
        refine lv_iconst (v := 0) hx hb dX3_tells_111 (by decide) ?_
        have es1 : sX3_tells v x g k tp pl = g_6 := by rw [sX3_tells, if_neg c_2, if_pos c_3, if_pos c_4, ← eg_6, sX3_tells_g_6]
        have er : 0 = rX3_tells v x g k tp pl := by rw [rX3_tells, if_neg c_2, if_pos c_3, if_pos c_4, ← eg_6, rX3_tells_g_6]
        refine W.iret (v := 0) hx hb hr (fun t ht hW => ⟨⟨0, (), rfl, er, ?_⟩, hS.F ht⟩) hS.2.2 dX3_tells_112
        rw [es1]; exact ⟨by rw [ht]; exact hP, va_K.moved hW.alike hK, hD⟩
      · refine lv_aload_n hx hb dX3_tells_91 rfl (lv_at hl 2 rfl) ?_
        refine va_get (D := (dC, dI)) (ci := 3) (v := .ref n0) (C := RX3) (T := TX3) (N := 12) hx hb hts hiX3 hown hK hP 0 rfl rfl 0 (by decide) (hts (.fieldLink RX3 10 "TripReckoner" "now" "LTripReckoner$Ledger;") (by decide +kernel)) (fun _ h9 => h9) rfl dX3_tells_92 ?_
        refine lv_iload_n hx hb dX3_tells_95 rfl (lv_at hl 1 rfl) ?_
        refine lv_iload_n hx hb dX3_tells_96 rfl (lv_at hl 0 rfl) ?_
        have hPc := hP.sub (ws' := [cL0 n0 n1 n2 n3 g, cL1 cJ n1 g, cL2 cI n2 g, cL3 cI n3 g]) [1, 2, 3, 4] rfl
        have hDc := hD.sub (ws' := [cL0 n0 n1 n2 n3 g, cL1 cJ n1 g, cL2 cI n2 g, cL3 cI n3 g]) [1, 2, 3, 4] (by decide) rfl
        have hFc := va_free (wc := [cL0 n0 n1 n2 n3 g, cL1 cJ n1 g, cL2 cI n2 g, cL3 cI n3 g]) hD hS hA [1, 2, 3, 4] rfl
        refine va_callv (va_runVN (As := [.int (if 0 < ((x.1 * (v - x.2.2.1)) / 255) then ((x.1 * (v - x.2.2.1)) / 255) else 0), .int (if ((x.1 * ((v + 1) + x.2.2.1)) / 255) < x.1 then ((x.1 * ((v + 1) + x.2.2.1)) / 255) else x.1)]) (rest := []) ⟨hx, hb, hml, hown, hts⟩ (kX0_takeLoss l dC dI cI cJ n0 n1 n2 n3 H.size (if 0 < ((x.1 * (v - x.2.2.1)) / 255) then ((x.1 * (v - x.2.2.1)) / 255) else 0) (if ((x.1 * ((v + 1) + x.2.2.1)) / 255) < x.1 then ((x.1 * ((v + 1) + x.2.2.1)) / 255) else x.1) g) ⟨va_cnB 2 hts gX3_tells_X0_takeLoss_n125 rfl rfl rfl (nw_m hN (.methodLinkNest RX3 125 yX0_takeLoss "TripReckoner") (by decide +kernel)) (hts (.initialized RX0) (by decide +kernel)) (by decide +kernel) ⟨Nat.le_of_ble_eq_true rfl, Nat.le_of_ble_eq_true rfl⟩, (hts (.instanceMethod yX0_takeLoss) (by decide +kernel)), (hts (.selects RX0 yX0_takeLoss yX0_takeLoss) (by decide +kernel))⟩ ⟨fun a U g mk q => by obtain ⟨q0, q1, qP, qK, qD⟩ := q; exact ⟨q0, q1, qP, va_K.moved (u := U) (U := U.calling g mk a) (Vm.Alike.refl U.vm) qK, qD⟩, va_recv hK hPc (ci := 0) (q0 := 0) rfl rfl, fun U hU hW => ⟨rfl, by rw [hU], by rw [hU]; exact hPc, va_K.moved hW.alike hK, hDc.weaken (fun _ _ _ _ => trivial)⟩⟩ rfl rfl hl.1 rfl (lv_room (Nat.le_of_ble_eq_true rfl)) dX3_tells_97 ⟨Nat.le_of_ble_eq_true rfl, Nat.le_of_ble_eq_true rfl⟩) hS (fun q _ h => hFc q h) hFc (fun _ t H1 locs ht hvm hw hB hz1 hk1 hS => ?_)
        obtain ⟨hP1, hK1, hD1⟩ := hB
        rw [ht] at hP1
        obtain ⟨g_8, eg_8⟩ : ∃ z, z = sX0_takeLoss (if 0 < ((x.1 * (v - x.2.2.1)) / 255) then ((x.1 * (v - x.2.2.1)) / 255) else 0) (if ((x.1 * ((v + 1) + x.2.2.1)) / 255) < x.1 then ((x.1 * ((v + 1) + x.2.2.1)) / 255) else x.1) g := ⟨_, rfl⟩
        rw [← eg_8] at hP1 hD1
        obtain ⟨hP, hD⟩ := va_join (wr := [cX0 h0 n0 k0 t0 p0 x, cL0 k0 k1 k2 k3 k, cL1 cJ k1 k, cL2 cI k2 k, cL3 cI k3 k, cT0 t0 t1 tp, cT1 cI t1 tp, cP0 p0 p1 p2 p3 p4 p5 pl, cP1 cI p1 pl, cP2 cI p2 pl, cP3 cI p3 pl, cP4 cI p4 pl, cP5 cI p5 pl]) (w1 := [cL0 n0 n1 n2 n3 g_8, cL1 cJ n1 g_8, cL2 cI n2 g_8, cL3 cI n3 g_8]) hP hD [1, 2, 3, 4] [0, 5, 6, 7, 8, 9, 10, 11, 12, 13, 14, 15, 16] rfl rfl (by decide) (by decide) hk1 hFc hP1 hD1
        generalize H1 = H at hP hS ⊢
        have hP := hP.sub (ws' := [cX0 h0 n0 k0 t0 p0 x, cL0 n0 n1 n2 n3 g_8, cL1 cJ n1 g_8, cL2 cI n2 g_8, cL3 cI n3 g_8, cL0 k0 k1 k2 k3 k, cL1 cJ k1 k, cL2 cI k2 k, cL3 cI k3 k, cT0 t0 t1 tp, cT1 cI t1 tp, cP0 p0 p1 p2 p3 p4 p5 pl, cP1 cI p1 pl, cP2 cI p2 pl, cP3 cI p3 pl, cP4 cI p4 pl, cP5 cI p5 pl]) [0, 13, 14, 15, 16, 1, 2, 3, 4, 5, 6, 7, 8, 9, 10, 11, 12] rfl
        have hD := hD.sub (ws' := [cX0 h0 n0 k0 t0 p0 x, cL0 n0 n1 n2 n3 g_8, cL1 cJ n1 g_8, cL2 cI n2 g_8, cL3 cI n3 g_8, cL0 k0 k1 k2 k3 k, cL1 cJ k1 k, cL2 cI k2 k, cL3 cI k3 k, cT0 t0 t1 tp, cT1 cI t1 tp, cP0 p0 p1 p2 p3 p4 p5 pl, cP1 cI p1 pl, cP2 cI p2 pl, cP3 cI p3 pl, cP4 cI p4 pl, cP5 cI p5 pl]) [0, 13, 14, 15, 16, 1, 2, 3, 4, 5, 6, 7, 8, 9, 10, 11, 12] (by decide) rfl
        refine lv_iconst (v := 2) hx hb dX3_tells_100 (by decide) ?_
        have es1 : sX3_tells v x g k tp pl = g_8 := by rw [sX3_tells, if_neg c_2, if_pos c_3, if_neg c_4, ← eg_8, sX3_tells_g_8]
        have er : 2 = rX3_tells v x g k tp pl := by rw [rX3_tells, if_neg c_2, if_pos c_3, if_neg c_4, ← eg_8, rX3_tells_g_8]
        refine W.iret (v := 2) hx hb hr (fun t ht hW => ⟨⟨2, (), rfl, er, ?_⟩, hS.F ht⟩) hS.2.2 dX3_tells_101
        rw [es1]; exact ⟨by rw [ht]; exact hP, va_K.moved hW.alike hK, hD⟩
    · refine lv_aload_n hx hb dX3_tells_69 rfl (lv_at hl 2 rfl) ?_
      refine va_get (D := (dC, dI)) (ci := 3) (v := .ref n0) (C := RX3) (T := TX3) (N := 12) hx hb hts hiX3 hown hK hP 0 rfl rfl 0 (by decide) (hts (.fieldLink RX3 10 "TripReckoner" "now" "LTripReckoner$Ledger;") (by decide +kernel)) (fun _ h9 => h9) rfl dX3_tells_70 ?_
      refine lv_iload_n hx hb dX3_tells_73 rfl (lv_at hl 1 rfl) ?_
      refine lv_iload_n hx hb dX3_tells_74 rfl (lv_at hl 0 rfl) ?_
      have hPc := hP.sub (ws' := [cL0 n0 n1 n2 n3 g, cL1 cJ n1 g, cL2 cI n2 g, cL3 cI n3 g]) [1, 2, 3, 4] rfl
      have hDc := hD.sub (ws' := [cL0 n0 n1 n2 n3 g, cL1 cJ n1 g, cL2 cI n2 g, cL3 cI n3 g]) [1, 2, 3, 4] (by decide) rfl
      have hFc := va_free (wc := [cL0 n0 n1 n2 n3 g, cL1 cJ n1 g, cL2 cI n2 g, cL3 cI n3 g]) hD hS hA [1, 2, 3, 4] rfl
      refine va_callv (va_runVN (As := [.int (if 0 < ((x.1 * (v - x.2.2.1)) / 255) then ((x.1 * (v - x.2.2.1)) / 255) else 0), .int (if ((x.1 * ((v + 1) + x.2.2.1)) / 255) < x.1 then ((x.1 * ((v + 1) + x.2.2.1)) / 255) else x.1)]) (rest := []) ⟨hx, hb, hml, hown, hts⟩ (kX0_takeRefill l dC dI cI cJ n0 n1 n2 n3 H.size (if 0 < ((x.1 * (v - x.2.2.1)) / 255) then ((x.1 * (v - x.2.2.1)) / 255) else 0) (if ((x.1 * ((v + 1) + x.2.2.1)) / 255) < x.1 then ((x.1 * ((v + 1) + x.2.2.1)) / 255) else x.1) g hrf) ⟨va_cnB 2 hts gX3_tells_X0_takeRefill_n118 rfl rfl rfl (nw_m hN (.methodLinkNest RX3 118 yX0_takeRefill "TripReckoner") (by decide +kernel)) (hts (.initialized RX0) (by decide +kernel)) (by decide +kernel) ⟨Nat.le_of_ble_eq_true rfl, Nat.le_of_ble_eq_true rfl⟩, (hts (.instanceMethod yX0_takeRefill) (by decide +kernel)), (hts (.selects RX0 yX0_takeRefill yX0_takeRefill) (by decide +kernel))⟩ ⟨fun a U g mk q => by obtain ⟨q0, q1, qP, qK, qD⟩ := q; exact ⟨q0, q1, qP, va_K.moved (u := U) (U := U.calling g mk a) (Vm.Alike.refl U.vm) qK, qD⟩, va_recv hK hPc (ci := 0) (q0 := 0) rfl rfl, fun U hU hW => ⟨rfl, by rw [hU], by rw [hU]; exact hPc, va_K.moved hW.alike hK, hDc.weaken (fun _ _ _ _ => trivial)⟩⟩ rfl rfl hl.1 rfl (lv_room (Nat.le_of_ble_eq_true rfl)) dX3_tells_75 ⟨Nat.le_of_ble_eq_true rfl, Nat.le_of_ble_eq_true rfl⟩) hS (fun q _ h => hFc q h) hFc (fun _ t H1 locs ht hvm hw hB hz1 hk1 hS => ?_)
      obtain ⟨hP1, hK1, hD1⟩ := hB
      rw [ht] at hP1
      obtain ⟨g_10, eg_10⟩ : ∃ z, z = sX0_takeRefill (if 0 < ((x.1 * (v - x.2.2.1)) / 255) then ((x.1 * (v - x.2.2.1)) / 255) else 0) (if ((x.1 * ((v + 1) + x.2.2.1)) / 255) < x.1 then ((x.1 * ((v + 1) + x.2.2.1)) / 255) else x.1) g := ⟨_, rfl⟩
      rw [← eg_10] at hP1 hD1
      obtain ⟨hP, hD⟩ := va_join (wr := [cX0 h0 n0 k0 t0 p0 x, cL0 k0 k1 k2 k3 k, cL1 cJ k1 k, cL2 cI k2 k, cL3 cI k3 k, cT0 t0 t1 tp, cT1 cI t1 tp, cP0 p0 p1 p2 p3 p4 p5 pl, cP1 cI p1 pl, cP2 cI p2 pl, cP3 cI p3 pl, cP4 cI p4 pl, cP5 cI p5 pl]) (w1 := [cL0 n0 n1 n2 n3 g_10, cL1 cJ n1 g_10, cL2 cI n2 g_10, cL3 cI n3 g_10]) hP hD [1, 2, 3, 4] [0, 5, 6, 7, 8, 9, 10, 11, 12, 13, 14, 15, 16] rfl rfl (by decide) (by decide) hk1 hFc hP1 hD1
      generalize H1 = H at hP hS ⊢
      have hP := hP.sub (ws' := [cX0 h0 n0 k0 t0 p0 x, cL0 n0 n1 n2 n3 g_10, cL1 cJ n1 g_10, cL2 cI n2 g_10, cL3 cI n3 g_10, cL0 k0 k1 k2 k3 k, cL1 cJ k1 k, cL2 cI k2 k, cL3 cI k3 k, cT0 t0 t1 tp, cT1 cI t1 tp, cP0 p0 p1 p2 p3 p4 p5 pl, cP1 cI p1 pl, cP2 cI p2 pl, cP3 cI p3 pl, cP4 cI p4 pl, cP5 cI p5 pl]) [0, 13, 14, 15, 16, 1, 2, 3, 4, 5, 6, 7, 8, 9, 10, 11, 12] rfl
      have hD := hD.sub (ws' := [cX0 h0 n0 k0 t0 p0 x, cL0 n0 n1 n2 n3 g_10, cL1 cJ n1 g_10, cL2 cI n2 g_10, cL3 cI n3 g_10, cL0 k0 k1 k2 k3 k, cL1 cJ k1 k, cL2 cI k2 k, cL3 cI k3 k, cT0 t0 t1 tp, cT1 cI t1 tp, cP0 p0 p1 p2 p3 p4 p5 pl, cP1 cI p1 pl, cP2 cI p2 pl, cP3 cI p3 pl, cP4 cI p4 pl, cP5 cI p5 pl]) [0, 13, 14, 15, 16, 1, 2, 3, 4, 5, 6, 7, 8, 9, 10, 11, 12] (by decide) rfl
      refine lv_iconst (v := 1) hx hb dX3_tells_78 (by decide) ?_
      have es1 : sX3_tells v x g k tp pl = g_10 := by rw [sX3_tells, if_neg c_2, if_neg c_3, ← eg_10, sX3_tells_g_10]
      have er : 1 = rX3_tells v x g k tp pl := by rw [rX3_tells, if_neg c_2, if_neg c_3, ← eg_10, rX3_tells_g_10]
      refine W.iret (v := 1) hx hb hr (fun t ht hW => ⟨⟨1, (), rfl, er, ?_⟩, hS.F ht⟩) hS.2.2 dX3_tells_79
      rw [es1]; exact ⟨by rw [ht]; exact hP, va_K.moved hW.alike hK, hD⟩
  · refine lv_iconst (v := (-1)) hx hb dX3_tells_11 (by decide) ?_
    have es1 : sX3_tells v x g k tp pl = g := by rw [sX3_tells, if_pos c_2]
    have er : (-1) = rX3_tells v x g k tp pl := by rw [rX3_tells, if_pos c_2]
    refine W.iret (v := (-1)) hx hb hr (fun t ht hW => ⟨⟨(-1), (), rfl, er, ?_⟩, hS.F ht⟩) hS.2.2 dX3_tells_12
    rw [es1]; exact ⟨by rw [ht]; exact hP, va_K.moved hW.alike hK, hD⟩

def sX3_set_g_4 (i : Int32) (x : XC) (g : LG) (k : LG) (tp : TP) (pl : PL) (g_4 : LG) : LG :=
  g_4
def sX3_set (i : Int32) (x : XC) (g : LG) (k : LG) (tp : TP) (pl : PL) : LG :=
  if (rX3_isMark i) = 0 then
    g
  else
    sX3_set_g_4 i x g k tp pl (sX0_clearMark i g)
def rX3_set_g_4 (i : Int32) (x : XC) (g : LG) (k : LG) (tp : TP) (pl : PL) (g_4 : LG) : Int32 :=
  1
def rX3_set (i : Int32) (x : XC) (g : LG) (k : LG) (tp : TP) (pl : PL) : Int32 :=
  if (rX3_isMark i) = 0 then
    0
  else
    rX3_set_g_4 i x g k tp pl (sX0_clearMark i g)
set_option maxHeartbeats 4000000 in
set_option maxRecDepth 100000 in
theorem kX3_set (l : Launch) (dC : Nat → ClassId) (dI : Nat → Nat → Nat) (cI cJ : ClassId) (h0 n0 k0 t0 p0 n1 n2 n3 k1 k2 k3 t1 p1 p2 p3 p4 p5 : Nat) (sz : Nat) (i : Int32) (x : XC) (g : LG) (k : LG) (tp : TP) (pl : PL) : Met l yX3_set wsX3_set ({ frames := 2, cells := 0, slots := 0, locals := 42 }) (va_Pc [.ref h0, .int i] (fun U => U.heap.size = sz ∧ va_P (dC, dI) vwCl [cX0 h0 n0 k0 t0 p0 x, cL0 n0 n1 n2 n3 g, cL1 cJ n1 g, cL2 cI n2 g, cL3 cI n3 g, cL0 k0 k1 k2 k3 k, cL1 cJ k1 k, cL2 cI k2 k, cL3 cI k3 k, cT0 t0 t1 tp, cT1 cI t1 tp, cP0 p0 p1 p2 p3 p4 p5 pl, cP1 cI p1 pl, cP2 cI p2 pl, cP3 cI p3 pl, cP4 cI p4 pl, cP5 cI p5 pl] U.heap ∧ va_K (dC, dI) vwCl [(cI, .int), (cJ, .long)] U ∧ va_D (fun _ => True) [cX0 h0 n0 k0 t0 p0 x, cL0 n0 n1 n2 n3 g, cL1 cJ n1 g, cL2 cI n2 g, cL3 cI n3 g, cL0 k0 k1 k2 k3 k, cL1 cJ k1 k, cL2 cI k2 k, cL3 cI k3 k, cT0 t0 t1 tp, cT1 cI t1 tp, cP0 p0 p1 p2 p3 p4 p5 pl, cP1 cI p1 pl, cP2 cI p2 pl, cP3 cI p3 pl, cP4 cI p4 pl, cP5 cI p5 pl] ∧ nw U)) (va_Qi (fun (r : Int32) (_ : Unit) => r = rX3_set i x g k tp pl) (fun _ t => va_P (dC, dI) vwCl [cX0 h0 n0 k0 t0 p0 x, cL0 n0 n1 n2 n3 (sX3_set i x g k tp pl), cL1 cJ n1 (sX3_set i x g k tp pl), cL2 cI n2 (sX3_set i x g k tp pl), cL3 cI n3 (sX3_set i x g k tp pl), cL0 k0 k1 k2 k3 k, cL1 cJ k1 k, cL2 cI k2 k, cL3 cI k3 k, cT0 t0 t1 tp, cT1 cI t1 tp, cP0 p0 p1 p2 p3 p4 p5 pl, cP1 cI p1 pl, cP2 cI p2 pl, cP3 cI p3 pl, cP4 cI p4 pl, cP5 cI p5 pl] t.heap ∧ va_K (dC, dI) vwCl [(cI, .int), (cJ, .long)] t ∧ va_D (va_A [cX0 h0 n0 k0 t0 p0 x, cL0 n0 n1 n2 n3 g, cL1 cJ n1 g, cL2 cI n2 g, cL3 cI n3 g, cL0 k0 k1 k2 k3 k, cL1 cJ k1 k, cL2 cI k2 k, cL3 cI k3 k, cT0 t0 t1 tp, cT1 cI t1 tp, cP0 p0 p1 p2 p3 p4 p5 pl, cP1 cI p1 pl, cP2 cI p2 pl, cP3 cI p3 pl, cP4 cI p4 pl, cP5 cI p5 pl] sz) [cX0 h0 n0 k0 t0 p0 x, cL0 n0 n1 n2 n3 (sX3_set i x g k tp pl), cL1 cJ n1 (sX3_set i x g k tp pl), cL2 cI n2 (sX3_set i x g k tp pl), cL3 cI n3 (sX3_set i x g k tp pl), cL0 k0 k1 k2 k3 k, cL1 cJ k1 k, cL2 cI k2 k, cL3 cI k3 k, cT0 t0 t1 tp, cT1 cI t1 tp, cP0 p0 p1 p2 p3 p4 p5 pl, cP1 cI p1 pl, cP2 cI p2 pl, cP3 cI p3 pl, cP4 cI p4 pl, cP5 cI p5 pl]) (va_A [cX0 h0 n0 k0 t0 p0 x, cL0 n0 n1 n2 n3 g, cL1 cJ n1 g, cL2 cI n2 g, cL3 cI n3 g, cL0 k0 k1 k2 k3 k, cL1 cJ k1 k, cL2 cI k2 k, cL3 cI k3 k, cT0 t0 t1 tp, cT1 cI t1 tp, cP0 p0 p1 p2 p3 p4 p5 pl, cP1 cI p1 pl, cP2 cI p2 pl, cP3 cI p3 pl, cP4 cI p4 pl, cP5 cI p5 pl] sz)) 0 0 (va_A [cX0 h0 n0 k0 t0 p0 x, cL0 n0 n1 n2 n3 g, cL1 cJ n1 g, cL2 cI n2 g, cL3 cI n3 g, cL0 k0 k1 k2 k3 k, cL1 cJ k1 k, cL2 cI k2 k, cL3 cI k3 k, cT0 t0 t1 tp, cT1 cI t1 tp, cP0 p0 p1 p2 p3 p4 p5 pl, cP1 cI p1 pl, cP2 cI p2 pl, cP3 cI p3 pl, cP4 cI p4 pl, cP5 cI p5 pl] sz) := by
  refine Met.ofW (cc := cX3_set) (maxL := 2) (ret := (some .boolean)) (by decide) rfl ?_
  intro p e s m args below meth c s₁ B hml hv
  obtain ⟨rfl, hsz, hP, hK, hD0, hN⟩ := hv
  have hx := B.exec
  have hb := B.bytes
  have hr := B.returns
  have hts := atoms_spec (ws := wsX3_set) B.pre
  have hown : s.vm.findClass RX3 = some m.cls := findClass_of_methodNamed B.named
  have hlocks := B.notSynchronized
  have hiX3 : ∀ w ∈ u_ws RX3 TX3 12, w ∈ wsX3_set := by decide +kernel
  subst hsz
  have hD := hD0.self (sz := s.heap.size)
  generalize hAe : va_A [cX0 h0 n0 k0 t0 p0 x, cL0 n0 n1 n2 n3 g, cL1 cJ n1 g, cL2 cI n2 g, cL3 cI n3 g, cL0 k0 k1 k2 k3 k, cL1 cJ k1 k, cL2 cI k2 k, cL3 cI k3 k, cT0 t0 t1 tp, cT1 cI t1 tp, cP0 p0 p1 p2 p3 p4 p5 pl, cP1 cI p1 pl, cP2 cI p2 pl, cP3 cI p3 pl, cP4 cI p4 pl, cP5 cI p5 pl] s.heap.size = A at hD ⊢
  have hA : ∀ q : Nat, s.heap.size ≤ q → A q := fun q h => by rw [← hAe]; exact Or.inr h
  have hS : va_S A s.heap s.heap [] := va_S.rf
  have hl := lv_entry ([.ref h0, .int i]) (n := 2) (Nat.le_of_ble_eq_true rfl)
  rw [lg_entry_eq]
  generalize (lg_sl ([.ref h0, .int i]) ++ List.replicate (2 - (lg_sl ([.ref h0, .int i])).length) Slot.unset).toArray = ls at hl ⊢
  have hl : lv_has ls 2 [(0, .ref h0), (1, .int i)] := hl
  have hP : va_P (dC, dI) vwCl [cX0 h0 n0 k0 t0 p0 x, cL0 n0 n1 n2 n3 g, cL1 cJ n1 g, cL2 cI n2 g, cL3 cI n3 g, cL0 k0 k1 k2 k3 k, cL1 cJ k1 k, cL2 cI k2 k, cL3 cI k3 k, cT0 t0 t1 tp, cT1 cI t1 tp, cP0 p0 p1 p2 p3 p4 p5 pl, cP1 cI p1 pl, cP2 cI p2 pl, cP3 cI p3 pl, cP4 cI p4 pl, cP5 cI p5 pl] s.heap := hP
  refine lv_iload_n hx hb dX3_set_0 rfl (lv_at hl 1 rfl) ?_
  have hPc := hP.sub (ws' := []) [] rfl
  have hDc := hD.sub (ws' := []) [] (by decide) rfl
  have hFc := va_free (wc := []) hD hS hA [] rfl
  refine va_calli (va_runS (As := [.int i]) (rest := []) ⟨hx, hb, hml, hown, hts⟩ (kX3_isMark l dC dI cI cJ s.heap.size i) (va_cwS 1 hts gX3_set_X3_isMark rfl rfl rfl (by decide +kernel) ⟨Nat.le_of_ble_eq_true rfl, Nat.le_of_ble_eq_true rfl⟩) ⟨fun a U g mk q => by obtain ⟨q0, q1, qP, qK, qD⟩ := q; exact ⟨q0, q1, qP, va_K.moved (u := U) (U := U.calling g mk a) (Vm.Alike.refl U.vm) qK, qD⟩, fun U hU hW => ⟨rfl, by rw [hU], by rw [hU]; exact hPc, va_K.moved hW.alike hK, hDc.weaken (fun _ _ _ _ => trivial)⟩⟩ rfl rfl hl.1 rfl (lv_room (Nat.le_of_ble_eq_true rfl)) dX3_set_1 ⟨Nat.le_of_ble_eq_true rfl, Nat.le_of_ble_eq_true rfl⟩) hS (fun q _ h => hFc q h) hFc (fun r_1 _ t H1 locs ht hvm hw hB hz1 hk1 hS => ?_)
  obtain ⟨hP1, hK1, hD1⟩ := hB
  rw [ht] at hP1
  obtain ⟨hP, hD⟩ := va_join (wr := [cX0 h0 n0 k0 t0 p0 x, cL0 n0 n1 n2 n3 g, cL1 cJ n1 g, cL2 cI n2 g, cL3 cI n3 g, cL0 k0 k1 k2 k3 k, cL1 cJ k1 k, cL2 cI k2 k, cL3 cI k3 k, cT0 t0 t1 tp, cT1 cI t1 tp, cP0 p0 p1 p2 p3 p4 p5 pl, cP1 cI p1 pl, cP2 cI p2 pl, cP3 cI p3 pl, cP4 cI p4 pl, cP5 cI p5 pl]) (w1 := []) hP hD [] [0, 1, 2, 3, 4, 5, 6, 7, 8, 9, 10, 11, 12, 13, 14, 15, 16] rfl rfl (by decide) (by decide) hk1 hFc hP1 hD1
  generalize H1 = H at hP hS ⊢
  have hP : va_P (dC, dI) vwCl [cX0 h0 n0 k0 t0 p0 x, cL0 n0 n1 n2 n3 g, cL1 cJ n1 g, cL2 cI n2 g, cL3 cI n3 g, cL0 k0 k1 k2 k3 k, cL1 cJ k1 k, cL2 cI k2 k, cL3 cI k3 k, cT0 t0 t1 tp, cT1 cI t1 tp, cP0 p0 p1 p2 p3 p4 p5 pl, cP1 cI p1 pl, cP2 cI p2 pl, cP3 cI p3 pl, cP4 cI p4 pl, cP5 cI p5 pl] H := hP
  have hD : va_D A [cX0 h0 n0 k0 t0 p0 x, cL0 n0 n1 n2 n3 g, cL1 cJ n1 g, cL2 cI n2 g, cL3 cI n3 g, cL0 k0 k1 k2 k3 k, cL1 cJ k1 k, cL2 cI k2 k, cL3 cI k3 k, cT0 t0 t1 tp, cT1 cI t1 tp, cP0 p0 p1 p2 p3 p4 p5 pl, cP1 cI p1 pl, cP2 cI p2 pl, cP3 cI p3 pl, cP4 cI p4 pl, cP5 cI p5 pl] := hD
  subst hw
  refine lv_if_ne (tgt := 9) hx hb dX3_set_4 (by decide) (fun c_2 => ?_) (fun c_2 => ?_)
  · refine lv_aload_n hx hb dX3_set_9 rfl (lv_at hl 0 rfl) ?_
    refine va_get (D := (dC, dI)) (ci := 3) (v := .ref n0) (C := RX3) (T := TX3) (N := 12) hx hb hts hiX3 hown hK hP 0 rfl rfl 0 (by decide) (hts (.fieldLink RX3 10 "TripReckoner" "now" "LTripReckoner$Ledger;") (by decide +kernel)) (fun _ h9 => h9) rfl dX3_set_10 ?_
    refine lv_iload_n hx hb dX3_set_13 rfl (lv_at hl 1 rfl) ?_
    have hPc := hP.sub (ws' := [cL0 n0 n1 n2 n3 g, cL1 cJ n1 g, cL2 cI n2 g, cL3 cI n3 g]) [1, 2, 3, 4] rfl
    have hDc := hD.sub (ws' := [cL0 n0 n1 n2 n3 g, cL1 cJ n1 g, cL2 cI n2 g, cL3 cI n3 g]) [1, 2, 3, 4] (by decide) rfl
    have hFc := va_free (wc := [cL0 n0 n1 n2 n3 g, cL1 cJ n1 g, cL2 cI n2 g, cL3 cI n3 g]) hD hS hA [1, 2, 3, 4] rfl
    refine va_callv (va_runVN (As := [.int i]) (rest := []) ⟨hx, hb, hml, hown, hts⟩ (kX0_clearMark l dC dI cI cJ n0 n1 n2 n3 H.size i g (isMark_in c_2)) ⟨va_cnB 1 hts gX3_set_X0_clearMark_n134 rfl rfl rfl (nw_m hN (.methodLinkNest RX3 134 yX0_clearMark "TripReckoner") (by decide +kernel)) (hts (.initialized RX0) (by decide +kernel)) (by decide +kernel) ⟨Nat.le_of_ble_eq_true rfl, Nat.le_of_ble_eq_true rfl⟩, (hts (.instanceMethod yX0_clearMark) (by decide +kernel)), (hts (.selects RX0 yX0_clearMark yX0_clearMark) (by decide +kernel))⟩ ⟨fun a U g mk q => by obtain ⟨q0, q1, qP, qK, qD⟩ := q; exact ⟨q0, q1, qP, va_K.moved (u := U) (U := U.calling g mk a) (Vm.Alike.refl U.vm) qK, qD⟩, va_recv hK hPc (ci := 0) (q0 := 0) rfl rfl, fun U hU hW => ⟨rfl, by rw [hU], by rw [hU]; exact hPc, va_K.moved hW.alike hK, hDc.weaken (fun _ _ _ _ => trivial)⟩⟩ rfl rfl hl.1 rfl (lv_room (Nat.le_of_ble_eq_true rfl)) dX3_set_14 ⟨Nat.le_of_ble_eq_true rfl, Nat.le_of_ble_eq_true rfl⟩) hS (fun q _ h => hFc q h) hFc (fun _ t H1 locs ht hvm hw hB hz1 hk1 hS => ?_)
    obtain ⟨hP1, hK1, hD1⟩ := hB
    rw [ht] at hP1
    obtain ⟨g_4, eg_4⟩ : ∃ z, z = sX0_clearMark i g := ⟨_, rfl⟩
    rw [← eg_4] at hP1 hD1
    obtain ⟨hP, hD⟩ := va_join (wr := [cX0 h0 n0 k0 t0 p0 x, cL0 k0 k1 k2 k3 k, cL1 cJ k1 k, cL2 cI k2 k, cL3 cI k3 k, cT0 t0 t1 tp, cT1 cI t1 tp, cP0 p0 p1 p2 p3 p4 p5 pl, cP1 cI p1 pl, cP2 cI p2 pl, cP3 cI p3 pl, cP4 cI p4 pl, cP5 cI p5 pl]) (w1 := [cL0 n0 n1 n2 n3 g_4, cL1 cJ n1 g_4, cL2 cI n2 g_4, cL3 cI n3 g_4]) hP hD [1, 2, 3, 4] [0, 5, 6, 7, 8, 9, 10, 11, 12, 13, 14, 15, 16] rfl rfl (by decide) (by decide) hk1 hFc hP1 hD1
    generalize H1 = H at hP hS ⊢
    have hP := hP.sub (ws' := [cX0 h0 n0 k0 t0 p0 x, cL0 n0 n1 n2 n3 g_4, cL1 cJ n1 g_4, cL2 cI n2 g_4, cL3 cI n3 g_4, cL0 k0 k1 k2 k3 k, cL1 cJ k1 k, cL2 cI k2 k, cL3 cI k3 k, cT0 t0 t1 tp, cT1 cI t1 tp, cP0 p0 p1 p2 p3 p4 p5 pl, cP1 cI p1 pl, cP2 cI p2 pl, cP3 cI p3 pl, cP4 cI p4 pl, cP5 cI p5 pl]) [0, 13, 14, 15, 16, 1, 2, 3, 4, 5, 6, 7, 8, 9, 10, 11, 12] rfl
    have hD := hD.sub (ws' := [cX0 h0 n0 k0 t0 p0 x, cL0 n0 n1 n2 n3 g_4, cL1 cJ n1 g_4, cL2 cI n2 g_4, cL3 cI n3 g_4, cL0 k0 k1 k2 k3 k, cL1 cJ k1 k, cL2 cI k2 k, cL3 cI k3 k, cT0 t0 t1 tp, cT1 cI t1 tp, cP0 p0 p1 p2 p3 p4 p5 pl, cP1 cI p1 pl, cP2 cI p2 pl, cP3 cI p3 pl, cP4 cI p4 pl, cP5 cI p5 pl]) [0, 13, 14, 15, 16, 1, 2, 3, 4, 5, 6, 7, 8, 9, 10, 11, 12] (by decide) rfl
    refine lv_iconst (v := 1) hx hb dX3_set_17 (by decide) ?_
    have es1 : sX3_set i x g k tp pl = g_4 := by rw [sX3_set, if_neg c_2, ← eg_4, sX3_set_g_4]
    have er : 1 = rX3_set i x g k tp pl := by rw [rX3_set, if_neg c_2, ← eg_4, rX3_set_g_4]
    refine W.zret (ty := .boolean) (v := 1) hx hb hr rfl (fun t ht hW => ⟨⟨1, (), rfl, er, ?_⟩, hS.F ht⟩) hS.2.2 dX3_set_18
    rw [es1]; exact ⟨by rw [ht]; exact hP, va_K.moved hW.alike hK, hD⟩
  · refine lv_iconst (v := 0) hx hb dX3_set_7 (by decide) ?_
    have es1 : sX3_set i x g k tp pl = g := by rw [sX3_set, if_pos c_2]
    have er : 0 = rX3_set i x g k tp pl := by rw [rX3_set, if_pos c_2]
    refine W.zret (ty := .boolean) (v := 0) hx hb hr rfl (fun t ht hW => ⟨⟨0, (), rfl, er, ?_⟩, hS.F ht⟩) hS.2.2 dX3_set_8
    rw [es1]; exact ⟨by rw [ht]; exact hP, va_K.moved hW.alike hK, hD⟩

def sX3_keep_g_2 (x : XC) (g : LG) (k : LG) (tp : TP) (pl : PL) (g_2 : LG) : LG :=
  g_2
def sX3_keep (x : XC) (g : LG) (k : LG) (tp : TP) (pl : PL) : LG :=
  sX3_keep_g_2 x g k tp pl (sX0_copyFrom k g)
set_option maxHeartbeats 4000000 in
set_option maxRecDepth 100000 in
theorem kX3_keep (l : Launch) (dC : Nat → ClassId) (dI : Nat → Nat → Nat) (cI cJ : ClassId) (h0 n0 k0 t0 p0 n1 n2 n3 k1 k2 k3 t1 p1 p2 p3 p4 p5 : Nat) (sz : Nat)  (x : XC) (g : LG) (k : LG) (tp : TP) (pl : PL) (hz : narrow .boolean (.int g.2.2.2.2.2.2.2.1) = .int g.2.2.2.2.2.2.2.1 ∧ fits .boolean (.int g.2.2.2.2.2.2.2.1) = true) : Met l yX3_keep wsX3_keep ({ frames := 2, cells := 0, slots := 0, locals := 69 }) (va_Pc [.ref h0] (fun U => U.heap.size = sz ∧ va_P (dC, dI) vwCl [cX0 h0 n0 k0 t0 p0 x, cL0 n0 n1 n2 n3 g, cL1 cJ n1 g, cL2 cI n2 g, cL3 cI n3 g, cL0 k0 k1 k2 k3 k, cL1 cJ k1 k, cL2 cI k2 k, cL3 cI k3 k, cT0 t0 t1 tp, cT1 cI t1 tp, cP0 p0 p1 p2 p3 p4 p5 pl, cP1 cI p1 pl, cP2 cI p2 pl, cP3 cI p3 pl, cP4 cI p4 pl, cP5 cI p5 pl] U.heap ∧ va_K (dC, dI) vwCl [(cI, .int), (cJ, .long)] U ∧ va_D (fun _ => True) [cX0 h0 n0 k0 t0 p0 x, cL0 n0 n1 n2 n3 g, cL1 cJ n1 g, cL2 cI n2 g, cL3 cI n3 g, cL0 k0 k1 k2 k3 k, cL1 cJ k1 k, cL2 cI k2 k, cL3 cI k3 k, cT0 t0 t1 tp, cT1 cI t1 tp, cP0 p0 p1 p2 p3 p4 p5 pl, cP1 cI p1 pl, cP2 cI p2 pl, cP3 cI p3 pl, cP4 cI p4 pl, cP5 cI p5 pl] ∧ nw U)) (va_Qv (fun _ : Unit => True) (fun _ t => va_P (dC, dI) vwCl [cX0 h0 n0 k0 t0 p0 x, cL0 n0 n1 n2 n3 g, cL1 cJ n1 g, cL2 cI n2 g, cL3 cI n3 g, cL0 k0 k1 k2 k3 (sX3_keep x g k tp pl), cL1 cJ k1 (sX3_keep x g k tp pl), cL2 cI k2 (sX3_keep x g k tp pl), cL3 cI k3 (sX3_keep x g k tp pl), cT0 t0 t1 tp, cT1 cI t1 tp, cP0 p0 p1 p2 p3 p4 p5 pl, cP1 cI p1 pl, cP2 cI p2 pl, cP3 cI p3 pl, cP4 cI p4 pl, cP5 cI p5 pl] t.heap ∧ va_K (dC, dI) vwCl [(cI, .int), (cJ, .long)] t ∧ va_D (va_A [cX0 h0 n0 k0 t0 p0 x, cL0 n0 n1 n2 n3 g, cL1 cJ n1 g, cL2 cI n2 g, cL3 cI n3 g, cL0 k0 k1 k2 k3 k, cL1 cJ k1 k, cL2 cI k2 k, cL3 cI k3 k, cT0 t0 t1 tp, cT1 cI t1 tp, cP0 p0 p1 p2 p3 p4 p5 pl, cP1 cI p1 pl, cP2 cI p2 pl, cP3 cI p3 pl, cP4 cI p4 pl, cP5 cI p5 pl] sz) [cX0 h0 n0 k0 t0 p0 x, cL0 n0 n1 n2 n3 g, cL1 cJ n1 g, cL2 cI n2 g, cL3 cI n3 g, cL0 k0 k1 k2 k3 (sX3_keep x g k tp pl), cL1 cJ k1 (sX3_keep x g k tp pl), cL2 cI k2 (sX3_keep x g k tp pl), cL3 cI k3 (sX3_keep x g k tp pl), cT0 t0 t1 tp, cT1 cI t1 tp, cP0 p0 p1 p2 p3 p4 p5 pl, cP1 cI p1 pl, cP2 cI p2 pl, cP3 cI p3 pl, cP4 cI p4 pl, cP5 cI p5 pl]) (va_A [cX0 h0 n0 k0 t0 p0 x, cL0 n0 n1 n2 n3 g, cL1 cJ n1 g, cL2 cI n2 g, cL3 cI n3 g, cL0 k0 k1 k2 k3 k, cL1 cJ k1 k, cL2 cI k2 k, cL3 cI k3 k, cT0 t0 t1 tp, cT1 cI t1 tp, cP0 p0 p1 p2 p3 p4 p5 pl, cP1 cI p1 pl, cP2 cI p2 pl, cP3 cI p3 pl, cP4 cI p4 pl, cP5 cI p5 pl] sz)) 0 0 (va_A [cX0 h0 n0 k0 t0 p0 x, cL0 n0 n1 n2 n3 g, cL1 cJ n1 g, cL2 cI n2 g, cL3 cI n3 g, cL0 k0 k1 k2 k3 k, cL1 cJ k1 k, cL2 cI k2 k, cL3 cI k3 k, cT0 t0 t1 tp, cT1 cI t1 tp, cP0 p0 p1 p2 p3 p4 p5 pl, cP1 cI p1 pl, cP2 cI p2 pl, cP3 cI p3 pl, cP4 cI p4 pl, cP5 cI p5 pl] sz) := by
  refine Met.ofW (cc := cX3_keep) (maxL := 1) (ret := none) (by decide) rfl ?_
  intro p e s m args below meth c s₁ B hml hv
  obtain ⟨rfl, hsz, hP, hK, hD0, hN⟩ := hv
  have hx := B.exec
  have hb := B.bytes
  have hr := B.returns
  have hts := atoms_spec (ws := wsX3_keep) B.pre
  have hown : s.vm.findClass RX3 = some m.cls := findClass_of_methodNamed B.named
  have hlocks := B.notSynchronized
  have hiX3 : ∀ w ∈ u_ws RX3 TX3 12, w ∈ wsX3_keep := by decide +kernel
  subst hsz
  have hD := hD0.self (sz := s.heap.size)
  generalize hAe : va_A [cX0 h0 n0 k0 t0 p0 x, cL0 n0 n1 n2 n3 g, cL1 cJ n1 g, cL2 cI n2 g, cL3 cI n3 g, cL0 k0 k1 k2 k3 k, cL1 cJ k1 k, cL2 cI k2 k, cL3 cI k3 k, cT0 t0 t1 tp, cT1 cI t1 tp, cP0 p0 p1 p2 p3 p4 p5 pl, cP1 cI p1 pl, cP2 cI p2 pl, cP3 cI p3 pl, cP4 cI p4 pl, cP5 cI p5 pl] s.heap.size = A at hD ⊢
  have hA : ∀ q : Nat, s.heap.size ≤ q → A q := fun q h => by rw [← hAe]; exact Or.inr h
  have hS : va_S A s.heap s.heap [] := va_S.rf
  have hl := lv_entry ([.ref h0]) (n := 1) (Nat.le_of_ble_eq_true rfl)
  rw [lg_entry_eq]
  generalize (lg_sl ([.ref h0]) ++ List.replicate (1 - (lg_sl ([.ref h0])).length) Slot.unset).toArray = ls at hl ⊢
  have hl : lv_has ls 1 [(0, .ref h0)] := hl
  have hP : va_P (dC, dI) vwCl [cX0 h0 n0 k0 t0 p0 x, cL0 n0 n1 n2 n3 g, cL1 cJ n1 g, cL2 cI n2 g, cL3 cI n3 g, cL0 k0 k1 k2 k3 k, cL1 cJ k1 k, cL2 cI k2 k, cL3 cI k3 k, cT0 t0 t1 tp, cT1 cI t1 tp, cP0 p0 p1 p2 p3 p4 p5 pl, cP1 cI p1 pl, cP2 cI p2 pl, cP3 cI p3 pl, cP4 cI p4 pl, cP5 cI p5 pl] s.heap := hP
  refine lv_aload_n hx hb dX3_keep_0 rfl (lv_at hl 0 rfl) ?_
  refine va_get (D := (dC, dI)) (ci := 3) (v := .ref k0) (C := RX3) (T := TX3) (N := 12) hx hb hts hiX3 hown hK hP 0 rfl rfl 1 (by decide) (hts (.fieldLink RX3 16 "TripReckoner" "kept" "LTripReckoner$Ledger;") (by decide +kernel)) (fun _ h9 => h9) rfl dX3_keep_1 ?_
  refine lv_aload_n hx hb dX3_keep_4 rfl (lv_at hl 0 rfl) ?_
  refine va_get (D := (dC, dI)) (ci := 3) (v := .ref n0) (C := RX3) (T := TX3) (N := 12) hx hb hts hiX3 hown hK hP 0 rfl rfl 0 (by decide) (hts (.fieldLink RX3 10 "TripReckoner" "now" "LTripReckoner$Ledger;") (by decide +kernel)) (fun _ h9 => h9) rfl dX3_keep_5 ?_
  have hPc := hP.sub (ws' := [cL0 k0 k1 k2 k3 k, cL1 cJ k1 k, cL2 cI k2 k, cL3 cI k3 k, cL0 n0 n1 n2 n3 g, cL1 cJ n1 g, cL2 cI n2 g, cL3 cI n3 g]) [5, 6, 7, 8, 1, 2, 3, 4] rfl
  have hDc := hD.sub (ws' := [cL0 k0 k1 k2 k3 k, cL1 cJ k1 k, cL2 cI k2 k, cL3 cI k3 k, cL0 n0 n1 n2 n3 g, cL1 cJ n1 g, cL2 cI n2 g, cL3 cI n3 g]) [5, 6, 7, 8, 1, 2, 3, 4] (by decide) rfl
  have hFc := va_free (wc := [cL0 k0 k1 k2 k3 k, cL1 cJ k1 k, cL2 cI k2 k, cL3 cI k3 k, cL0 n0 n1 n2 n3 g, cL1 cJ n1 g, cL2 cI n2 g, cL3 cI n3 g]) hD hS hA [5, 6, 7, 8, 1, 2, 3, 4] rfl
  refine va_callv (va_runVN (As := [.ref n0]) (rest := []) ⟨hx, hb, hml, hown, hts⟩ (kX0_copyFrom l dC dI cI cJ k0 k1 k2 k3 n0 n1 n2 n3 s.heap.size k g hz) ⟨va_cnB 1 hts gX3_keep_X0_copyFrom_n137 rfl rfl rfl (nw_m hN (.methodLinkNest RX3 137 yX0_copyFrom "TripReckoner") (by decide +kernel)) (hts (.initialized RX0) (by decide +kernel)) (by decide +kernel) ⟨Nat.le_of_ble_eq_true rfl, Nat.le_of_ble_eq_true rfl⟩, (hts (.instanceMethod yX0_copyFrom) (by decide +kernel)), (hts (.selects RX0 yX0_copyFrom yX0_copyFrom) (by decide +kernel))⟩ ⟨fun a U g mk q => by obtain ⟨q0, q1, qP, qK, qD⟩ := q; exact ⟨q0, q1, qP, va_K.moved (u := U) (U := U.calling g mk a) (Vm.Alike.refl U.vm) qK, qD⟩, va_recv hK hPc (ci := 0) (q0 := 0) rfl rfl, fun U hU hW => ⟨rfl, by rw [hU], by rw [hU]; exact hPc, va_K.moved hW.alike hK, hDc.weaken (fun _ _ _ _ => trivial)⟩⟩ rfl rfl hl.1 rfl (lv_room (Nat.le_of_ble_eq_true rfl)) dX3_keep_8 ⟨Nat.le_of_ble_eq_true rfl, Nat.le_of_ble_eq_true rfl⟩) hS (fun q _ h => hFc q h) hFc (fun _ t H1 locs ht hvm hw hB hz1 hk1 hS => ?_)
  obtain ⟨hP1, hK1, hD1⟩ := hB
  rw [ht] at hP1
  obtain ⟨g_2, eg_2⟩ : ∃ z, z = sX0_copyFrom k g := ⟨_, rfl⟩
  rw [← eg_2] at hP1 hD1
  obtain ⟨hP, hD⟩ := va_join (wr := [cX0 h0 n0 k0 t0 p0 x, cT0 t0 t1 tp, cT1 cI t1 tp, cP0 p0 p1 p2 p3 p4 p5 pl, cP1 cI p1 pl, cP2 cI p2 pl, cP3 cI p3 pl, cP4 cI p4 pl, cP5 cI p5 pl]) (w1 := [cL0 k0 k1 k2 k3 g_2, cL1 cJ k1 g_2, cL2 cI k2 g_2, cL3 cI k3 g_2, cL0 n0 n1 n2 n3 g, cL1 cJ n1 g, cL2 cI n2 g, cL3 cI n3 g]) hP hD [5, 6, 7, 8, 1, 2, 3, 4] [0, 9, 10, 11, 12, 13, 14, 15, 16] rfl rfl (by decide) (by decide) hk1 hFc hP1 hD1
  generalize H1 = H at hP hS ⊢
  have hP := hP.sub (ws' := [cX0 h0 n0 k0 t0 p0 x, cL0 n0 n1 n2 n3 g, cL1 cJ n1 g, cL2 cI n2 g, cL3 cI n3 g, cL0 k0 k1 k2 k3 g_2, cL1 cJ k1 g_2, cL2 cI k2 g_2, cL3 cI k3 g_2, cT0 t0 t1 tp, cT1 cI t1 tp, cP0 p0 p1 p2 p3 p4 p5 pl, cP1 cI p1 pl, cP2 cI p2 pl, cP3 cI p3 pl, cP4 cI p4 pl, cP5 cI p5 pl]) [0, 13, 14, 15, 16, 9, 10, 11, 12, 1, 2, 3, 4, 5, 6, 7, 8] rfl
  have hD := hD.sub (ws' := [cX0 h0 n0 k0 t0 p0 x, cL0 n0 n1 n2 n3 g, cL1 cJ n1 g, cL2 cI n2 g, cL3 cI n3 g, cL0 k0 k1 k2 k3 g_2, cL1 cJ k1 g_2, cL2 cI k2 g_2, cL3 cI k3 g_2, cT0 t0 t1 tp, cT1 cI t1 tp, cP0 p0 p1 p2 p3 p4 p5 pl, cP1 cI p1 pl, cP2 cI p2 pl, cP3 cI p3 pl, cP4 cI p4 pl, cP5 cI p5 pl]) [0, 13, 14, 15, 16, 9, 10, 11, 12, 1, 2, 3, 4, 5, 6, 7, 8] (by decide) rfl
  have es2 : sX3_keep x g k tp pl = g_2 := by rw [sX3_keep, ← eg_2, sX3_keep_g_2]
  refine W.vret hx hb hr (fun t ht hW => ⟨⟨(), rfl, trivial, ?_⟩, hS.F ht⟩) hS.2.2 dX3_keep_11
  rw [es2]; exact ⟨by rw [ht]; exact hP, va_K.moved hW.alike hK, hD⟩

def sX3_dead_x_g_7 (se : Int32) (x : XC) (g : LG) (k : LG) (tp : TP) (pl : PL) (g_4 : LG) (g_6 : XC) (g_7 : LG) : XC :=
  g_6
def sX3_dead_x_g_6 (se : Int32) (x : XC) (g : LG) (k : LG) (tp : TP) (pl : PL) (g_4 : LG) (g_6 : XC) : XC :=
  sX3_dead_x_g_7 se x g k tp pl g_4 g_6 (sX3_passGap_g se x g_4 k tp pl)
def sX3_dead_x_g_4 (se : Int32) (x : XC) (g : LG) (k : LG) (tp : TP) (pl : PL) (g_4 : LG) : XC :=
  sX3_dead_x_g_6 se x g k tp pl g_4 (sX3_passGap_x se x g_4 k tp pl)
def sX3_dead_x (se : Int32) (x : XC) (g : LG) (k : LG) (tp : TP) (pl : PL) : XC :=
  if (rX3_gapFits se x g k tp pl) = 0 then
    x
  else
    sX3_dead_x_g_4 se x g k tp pl (sX0_copyFrom g k)
def sX3_dead_g_g_7 (se : Int32) (x : XC) (g : LG) (k : LG) (tp : TP) (pl : PL) (g_4 : LG) (g_6 : XC) (g_7 : LG) : LG :=
  g_7
def sX3_dead_g_g_6 (se : Int32) (x : XC) (g : LG) (k : LG) (tp : TP) (pl : PL) (g_4 : LG) (g_6 : XC) : LG :=
  sX3_dead_g_g_7 se x g k tp pl g_4 g_6 (sX3_passGap_g se x g_4 k tp pl)
def sX3_dead_g_g_4 (se : Int32) (x : XC) (g : LG) (k : LG) (tp : TP) (pl : PL) (g_4 : LG) : LG :=
  sX3_dead_g_g_6 se x g k tp pl g_4 (sX3_passGap_x se x g_4 k tp pl)
def sX3_dead_g (se : Int32) (x : XC) (g : LG) (k : LG) (tp : TP) (pl : PL) : LG :=
  if (rX3_gapFits se x g k tp pl) = 0 then
    g
  else
    sX3_dead_g_g_4 se x g k tp pl (sX0_copyFrom g k)
def rX3_dead_g_7 (se : Int32) (x : XC) (g : LG) (k : LG) (tp : TP) (pl : PL) (g_4 : LG) (g_6 : XC) (g_7 : LG) : Int32 :=
  1
def rX3_dead_g_6 (se : Int32) (x : XC) (g : LG) (k : LG) (tp : TP) (pl : PL) (g_4 : LG) (g_6 : XC) : Int32 :=
  rX3_dead_g_7 se x g k tp pl g_4 g_6 (sX3_passGap_g se x g_4 k tp pl)
def rX3_dead_g_4 (se : Int32) (x : XC) (g : LG) (k : LG) (tp : TP) (pl : PL) (g_4 : LG) : Int32 :=
  rX3_dead_g_6 se x g k tp pl g_4 (sX3_passGap_x se x g_4 k tp pl)
def rX3_dead (se : Int32) (x : XC) (g : LG) (k : LG) (tp : TP) (pl : PL) : Int32 :=
  if (rX3_gapFits se x g k tp pl) = 0 then
    0
  else
    rX3_dead_g_4 se x g k tp pl (sX0_copyFrom g k)
set_option maxHeartbeats 4000000 in
set_option maxRecDepth 100000 in
theorem kX3_dead (l : Launch) (dC : Nat → ClassId) (dI : Nat → Nat → Nat) (cI cJ : ClassId) (h0 n0 k0 t0 p0 n1 n2 n3 k1 k2 k3 t1 p1 p2 p3 p4 p5 : Nat) (sz : Nat) (se : Int32) (x : XC) (g : LG) (k : LG) (tp : TP) (pl : PL) (hz : narrow .boolean (.int k.2.2.2.2.2.2.2.1) = .int k.2.2.2.2.2.2.2.1 ∧ fits .boolean (.int k.2.2.2.2.2.2.2.1) = true) : Met l yX3_dead wsX3_dead ({ frames := 3, cells := 0, slots := 0, locals := 69 }) (va_Pc [.ref h0, .int se] (fun U => U.heap.size = sz ∧ va_P (dC, dI) vwCl [cX0 h0 n0 k0 t0 p0 x, cL0 n0 n1 n2 n3 g, cL1 cJ n1 g, cL2 cI n2 g, cL3 cI n3 g, cL0 k0 k1 k2 k3 k, cL1 cJ k1 k, cL2 cI k2 k, cL3 cI k3 k, cT0 t0 t1 tp, cT1 cI t1 tp, cP0 p0 p1 p2 p3 p4 p5 pl, cP1 cI p1 pl, cP2 cI p2 pl, cP3 cI p3 pl, cP4 cI p4 pl, cP5 cI p5 pl] U.heap ∧ va_K (dC, dI) vwCl [(cI, .int), (cJ, .long)] U ∧ va_D (fun _ => True) [cX0 h0 n0 k0 t0 p0 x, cL0 n0 n1 n2 n3 g, cL1 cJ n1 g, cL2 cI n2 g, cL3 cI n3 g, cL0 k0 k1 k2 k3 k, cL1 cJ k1 k, cL2 cI k2 k, cL3 cI k3 k, cT0 t0 t1 tp, cT1 cI t1 tp, cP0 p0 p1 p2 p3 p4 p5 pl, cP1 cI p1 pl, cP2 cI p2 pl, cP3 cI p3 pl, cP4 cI p4 pl, cP5 cI p5 pl] ∧ nw U)) (va_Qi (fun (r : Int32) (_ : Unit) => r = rX3_dead se x g k tp pl) (fun _ t => va_P (dC, dI) vwCl [cX0 h0 n0 k0 t0 p0 (sX3_dead_x se x g k tp pl), cL0 n0 n1 n2 n3 (sX3_dead_g se x g k tp pl), cL1 cJ n1 (sX3_dead_g se x g k tp pl), cL2 cI n2 (sX3_dead_g se x g k tp pl), cL3 cI n3 (sX3_dead_g se x g k tp pl), cL0 k0 k1 k2 k3 k, cL1 cJ k1 k, cL2 cI k2 k, cL3 cI k3 k, cT0 t0 t1 tp, cT1 cI t1 tp, cP0 p0 p1 p2 p3 p4 p5 pl, cP1 cI p1 pl, cP2 cI p2 pl, cP3 cI p3 pl, cP4 cI p4 pl, cP5 cI p5 pl] t.heap ∧ va_K (dC, dI) vwCl [(cI, .int), (cJ, .long)] t ∧ va_D (va_A [cX0 h0 n0 k0 t0 p0 x, cL0 n0 n1 n2 n3 g, cL1 cJ n1 g, cL2 cI n2 g, cL3 cI n3 g, cL0 k0 k1 k2 k3 k, cL1 cJ k1 k, cL2 cI k2 k, cL3 cI k3 k, cT0 t0 t1 tp, cT1 cI t1 tp, cP0 p0 p1 p2 p3 p4 p5 pl, cP1 cI p1 pl, cP2 cI p2 pl, cP3 cI p3 pl, cP4 cI p4 pl, cP5 cI p5 pl] sz) [cX0 h0 n0 k0 t0 p0 (sX3_dead_x se x g k tp pl), cL0 n0 n1 n2 n3 (sX3_dead_g se x g k tp pl), cL1 cJ n1 (sX3_dead_g se x g k tp pl), cL2 cI n2 (sX3_dead_g se x g k tp pl), cL3 cI n3 (sX3_dead_g se x g k tp pl), cL0 k0 k1 k2 k3 k, cL1 cJ k1 k, cL2 cI k2 k, cL3 cI k3 k, cT0 t0 t1 tp, cT1 cI t1 tp, cP0 p0 p1 p2 p3 p4 p5 pl, cP1 cI p1 pl, cP2 cI p2 pl, cP3 cI p3 pl, cP4 cI p4 pl, cP5 cI p5 pl]) (va_A [cX0 h0 n0 k0 t0 p0 x, cL0 n0 n1 n2 n3 g, cL1 cJ n1 g, cL2 cI n2 g, cL3 cI n3 g, cL0 k0 k1 k2 k3 k, cL1 cJ k1 k, cL2 cI k2 k, cL3 cI k3 k, cT0 t0 t1 tp, cT1 cI t1 tp, cP0 p0 p1 p2 p3 p4 p5 pl, cP1 cI p1 pl, cP2 cI p2 pl, cP3 cI p3 pl, cP4 cI p4 pl, cP5 cI p5 pl] sz)) 0 0 (va_A [cX0 h0 n0 k0 t0 p0 x, cL0 n0 n1 n2 n3 g, cL1 cJ n1 g, cL2 cI n2 g, cL3 cI n3 g, cL0 k0 k1 k2 k3 k, cL1 cJ k1 k, cL2 cI k2 k, cL3 cI k3 k, cT0 t0 t1 tp, cT1 cI t1 tp, cP0 p0 p1 p2 p3 p4 p5 pl, cP1 cI p1 pl, cP2 cI p2 pl, cP3 cI p3 pl, cP4 cI p4 pl, cP5 cI p5 pl] sz) := by
  refine Met.ofW (cc := cX3_dead) (maxL := 2) (ret := (some .boolean)) (by decide) rfl ?_
  intro p e s m args below meth c s₁ B hml hv
  obtain ⟨rfl, hsz, hP, hK, hD0, hN⟩ := hv
  have hx := B.exec
  have hb := B.bytes
  have hr := B.returns
  have hts := atoms_spec (ws := wsX3_dead) B.pre
  have hown : s.vm.findClass RX3 = some m.cls := findClass_of_methodNamed B.named
  have hlocks := B.notSynchronized
  have hiX3 : ∀ w ∈ u_ws RX3 TX3 12, w ∈ wsX3_dead := by decide +kernel
  subst hsz
  have hD := hD0.self (sz := s.heap.size)
  generalize hAe : va_A [cX0 h0 n0 k0 t0 p0 x, cL0 n0 n1 n2 n3 g, cL1 cJ n1 g, cL2 cI n2 g, cL3 cI n3 g, cL0 k0 k1 k2 k3 k, cL1 cJ k1 k, cL2 cI k2 k, cL3 cI k3 k, cT0 t0 t1 tp, cT1 cI t1 tp, cP0 p0 p1 p2 p3 p4 p5 pl, cP1 cI p1 pl, cP2 cI p2 pl, cP3 cI p3 pl, cP4 cI p4 pl, cP5 cI p5 pl] s.heap.size = A at hD ⊢
  have hA : ∀ q : Nat, s.heap.size ≤ q → A q := fun q h => by rw [← hAe]; exact Or.inr h
  have hS : va_S A s.heap s.heap [] := va_S.rf
  have hl := lv_entry ([.ref h0, .int se]) (n := 2) (Nat.le_of_ble_eq_true rfl)
  rw [lg_entry_eq]
  generalize (lg_sl ([.ref h0, .int se]) ++ List.replicate (2 - (lg_sl ([.ref h0, .int se])).length) Slot.unset).toArray = ls at hl ⊢
  have hl : lv_has ls 2 [(0, .ref h0), (1, .int se)] := hl
  have hP : va_P (dC, dI) vwCl [cX0 h0 n0 k0 t0 p0 x, cL0 n0 n1 n2 n3 g, cL1 cJ n1 g, cL2 cI n2 g, cL3 cI n3 g, cL0 k0 k1 k2 k3 k, cL1 cJ k1 k, cL2 cI k2 k, cL3 cI k3 k, cT0 t0 t1 tp, cT1 cI t1 tp, cP0 p0 p1 p2 p3 p4 p5 pl, cP1 cI p1 pl, cP2 cI p2 pl, cP3 cI p3 pl, cP4 cI p4 pl, cP5 cI p5 pl] s.heap := hP
  refine lv_aload_n hx hb dX3_dead_0 rfl (lv_at hl 0 rfl) ?_
  refine lv_iload_n hx hb dX3_dead_1 rfl (lv_at hl 1 rfl) ?_
  have hPc := hP.sub (ws' := [cX0 h0 n0 k0 t0 p0 x, cL0 n0 n1 n2 n3 g, cL1 cJ n1 g, cL2 cI n2 g, cL3 cI n3 g, cL0 k0 k1 k2 k3 k, cL1 cJ k1 k, cL2 cI k2 k, cL3 cI k3 k, cT0 t0 t1 tp, cT1 cI t1 tp, cP0 p0 p1 p2 p3 p4 p5 pl, cP1 cI p1 pl, cP2 cI p2 pl, cP3 cI p3 pl, cP4 cI p4 pl, cP5 cI p5 pl]) [0, 1, 2, 3, 4, 5, 6, 7, 8, 9, 10, 11, 12, 13, 14, 15, 16] rfl
  have hDc := hD.sub (ws' := [cX0 h0 n0 k0 t0 p0 x, cL0 n0 n1 n2 n3 g, cL1 cJ n1 g, cL2 cI n2 g, cL3 cI n3 g, cL0 k0 k1 k2 k3 k, cL1 cJ k1 k, cL2 cI k2 k, cL3 cI k3 k, cT0 t0 t1 tp, cT1 cI t1 tp, cP0 p0 p1 p2 p3 p4 p5 pl, cP1 cI p1 pl, cP2 cI p2 pl, cP3 cI p3 pl, cP4 cI p4 pl, cP5 cI p5 pl]) [0, 1, 2, 3, 4, 5, 6, 7, 8, 9, 10, 11, 12, 13, 14, 15, 16] (by decide) rfl
  have hFc := va_free (wc := [cX0 h0 n0 k0 t0 p0 x, cL0 n0 n1 n2 n3 g, cL1 cJ n1 g, cL2 cI n2 g, cL3 cI n3 g, cL0 k0 k1 k2 k3 k, cL1 cJ k1 k, cL2 cI k2 k, cL3 cI k3 k, cT0 t0 t1 tp, cT1 cI t1 tp, cP0 p0 p1 p2 p3 p4 p5 pl, cP1 cI p1 pl, cP2 cI p2 pl, cP3 cI p3 pl, cP4 cI p4 pl, cP5 cI p5 pl]) hD hS hA [0, 1, 2, 3, 4, 5, 6, 7, 8, 9, 10, 11, 12, 13, 14, 15, 16] rfl
  refine va_calli (va_runV (As := [.int se]) (rest := []) ⟨hx, hb, hml, hown, hts⟩ (kX3_gapFits l dC dI cI cJ h0 n0 k0 t0 p0 n1 n2 n3 k1 k2 k3 t1 p1 p2 p3 p4 p5 s.heap.size se x g k tp pl) (cwV 1 hts gX3_dead_X3_gapFits rfl rfl rfl (by decide +kernel) ⟨Nat.le_of_ble_eq_true rfl, Nat.le_of_ble_eq_true rfl⟩) ⟨fun a U g mk q => by obtain ⟨q0, q1, qP, qK, qD, qN⟩ := q; exact ⟨q0, q1, qP, va_K.moved (u := U) (U := U.calling g mk a) (Vm.Alike.refl U.vm) qK, qD, nw_same (s := U) (U := U.calling g mk a) rfl qN⟩, va_recv hK hPc (ci := 3) (q0 := 0) rfl rfl, fun U hU hW => ⟨rfl, by rw [hU], by rw [hU]; exact hPc, va_K.moved hW.alike hK, hDc.weaken (fun _ _ _ _ => trivial), nw_warm hW hN⟩⟩ rfl rfl hl.1 rfl (lv_room (Nat.le_of_ble_eq_true rfl)) dX3_dead_2 ⟨Nat.le_of_ble_eq_true rfl, Nat.le_of_ble_eq_true rfl⟩) hS (fun q _ h => hFc q h) hFc (fun r_1 _ t H1 locs ht hvm hw hB hz1 hk1 hS => ?_)
  obtain ⟨hP1, hK1, hD1⟩ := hB
  rw [ht] at hP1
  obtain ⟨hP, hD⟩ := va_join (wr := []) (w1 := [cX0 h0 n0 k0 t0 p0 x, cL0 n0 n1 n2 n3 g, cL1 cJ n1 g, cL2 cI n2 g, cL3 cI n3 g, cL0 k0 k1 k2 k3 k, cL1 cJ k1 k, cL2 cI k2 k, cL3 cI k3 k, cT0 t0 t1 tp, cT1 cI t1 tp, cP0 p0 p1 p2 p3 p4 p5 pl, cP1 cI p1 pl, cP2 cI p2 pl, cP3 cI p3 pl, cP4 cI p4 pl, cP5 cI p5 pl]) hP hD [0, 1, 2, 3, 4, 5, 6, 7, 8, 9, 10, 11, 12, 13, 14, 15, 16] [] rfl rfl (by decide) (by decide) hk1 hFc hP1 hD1
  generalize H1 = H at hP hS ⊢
  have hP : va_P (dC, dI) vwCl [cX0 h0 n0 k0 t0 p0 x, cL0 n0 n1 n2 n3 g, cL1 cJ n1 g, cL2 cI n2 g, cL3 cI n3 g, cL0 k0 k1 k2 k3 k, cL1 cJ k1 k, cL2 cI k2 k, cL3 cI k3 k, cT0 t0 t1 tp, cT1 cI t1 tp, cP0 p0 p1 p2 p3 p4 p5 pl, cP1 cI p1 pl, cP2 cI p2 pl, cP3 cI p3 pl, cP4 cI p4 pl, cP5 cI p5 pl] H := hP
  have hD : va_D A [cX0 h0 n0 k0 t0 p0 x, cL0 n0 n1 n2 n3 g, cL1 cJ n1 g, cL2 cI n2 g, cL3 cI n3 g, cL0 k0 k1 k2 k3 k, cL1 cJ k1 k, cL2 cI k2 k, cL3 cI k3 k, cT0 t0 t1 tp, cT1 cI t1 tp, cP0 p0 p1 p2 p3 p4 p5 pl, cP1 cI p1 pl, cP2 cI p2 pl, cP3 cI p3 pl, cP4 cI p4 pl, cP5 cI p5 pl] := hD
  subst hw
  refine lv_if_ne (tgt := 10) hx hb dX3_dead_5 (by decide) (fun c_2 => ?_) (fun c_2 => ?_)
  · refine lv_aload_n hx hb dX3_dead_10 rfl (lv_at hl 0 rfl) ?_
    refine va_get (D := (dC, dI)) (ci := 3) (v := .ref n0) (C := RX3) (T := TX3) (N := 12) hx hb hts hiX3 hown hK hP 0 rfl rfl 0 (by decide) (hts (.fieldLink RX3 10 "TripReckoner" "now" "LTripReckoner$Ledger;") (by decide +kernel)) (fun _ h9 => h9) rfl dX3_dead_11 ?_
    refine lv_aload_n hx hb dX3_dead_14 rfl (lv_at hl 0 rfl) ?_
    refine va_get (D := (dC, dI)) (ci := 3) (v := .ref k0) (C := RX3) (T := TX3) (N := 12) hx hb hts hiX3 hown hK hP 0 rfl rfl 1 (by decide) (hts (.fieldLink RX3 16 "TripReckoner" "kept" "LTripReckoner$Ledger;") (by decide +kernel)) (fun _ h9 => h9) rfl dX3_dead_15 ?_
    have hPc := hP.sub (ws' := [cL0 n0 n1 n2 n3 g, cL1 cJ n1 g, cL2 cI n2 g, cL3 cI n3 g, cL0 k0 k1 k2 k3 k, cL1 cJ k1 k, cL2 cI k2 k, cL3 cI k3 k]) [1, 2, 3, 4, 5, 6, 7, 8] rfl
    have hDc := hD.sub (ws' := [cL0 n0 n1 n2 n3 g, cL1 cJ n1 g, cL2 cI n2 g, cL3 cI n3 g, cL0 k0 k1 k2 k3 k, cL1 cJ k1 k, cL2 cI k2 k, cL3 cI k3 k]) [1, 2, 3, 4, 5, 6, 7, 8] (by decide) rfl
    have hFc := va_free (wc := [cL0 n0 n1 n2 n3 g, cL1 cJ n1 g, cL2 cI n2 g, cL3 cI n3 g, cL0 k0 k1 k2 k3 k, cL1 cJ k1 k, cL2 cI k2 k, cL3 cI k3 k]) hD hS hA [1, 2, 3, 4, 5, 6, 7, 8] rfl
    refine va_callv (va_runVN (As := [.ref k0]) (rest := []) ⟨hx, hb, hml, hown, hts⟩ (kX0_copyFrom l dC dI cI cJ n0 n1 n2 n3 k0 k1 k2 k3 H.size g k hz) ⟨va_cnB 1 hts gX3_dead_X0_copyFrom_n137 rfl rfl rfl (nw_m hN (.methodLinkNest RX3 137 yX0_copyFrom "TripReckoner") (by decide +kernel)) (hts (.initialized RX0) (by decide +kernel)) (by decide +kernel) ⟨Nat.le_of_ble_eq_true rfl, Nat.le_of_ble_eq_true rfl⟩, (hts (.instanceMethod yX0_copyFrom) (by decide +kernel)), (hts (.selects RX0 yX0_copyFrom yX0_copyFrom) (by decide +kernel))⟩ ⟨fun a U g mk q => by obtain ⟨q0, q1, qP, qK, qD⟩ := q; exact ⟨q0, q1, qP, va_K.moved (u := U) (U := U.calling g mk a) (Vm.Alike.refl U.vm) qK, qD⟩, va_recv hK hPc (ci := 0) (q0 := 0) rfl rfl, fun U hU hW => ⟨rfl, by rw [hU], by rw [hU]; exact hPc, va_K.moved hW.alike hK, hDc.weaken (fun _ _ _ _ => trivial)⟩⟩ rfl rfl hl.1 rfl (lv_room (Nat.le_of_ble_eq_true rfl)) dX3_dead_18 ⟨Nat.le_of_ble_eq_true rfl, Nat.le_of_ble_eq_true rfl⟩) hS (fun q _ h => hFc q h) hFc (fun _ t H1 locs ht hvm hw hB hz1 hk1 hS => ?_)
    obtain ⟨hP1, hK1, hD1⟩ := hB
    rw [ht] at hP1
    obtain ⟨g_4, eg_4⟩ : ∃ z, z = sX0_copyFrom g k := ⟨_, rfl⟩
    rw [← eg_4] at hP1 hD1
    obtain ⟨hP, hD⟩ := va_join (wr := [cX0 h0 n0 k0 t0 p0 x, cT0 t0 t1 tp, cT1 cI t1 tp, cP0 p0 p1 p2 p3 p4 p5 pl, cP1 cI p1 pl, cP2 cI p2 pl, cP3 cI p3 pl, cP4 cI p4 pl, cP5 cI p5 pl]) (w1 := [cL0 n0 n1 n2 n3 g_4, cL1 cJ n1 g_4, cL2 cI n2 g_4, cL3 cI n3 g_4, cL0 k0 k1 k2 k3 k, cL1 cJ k1 k, cL2 cI k2 k, cL3 cI k3 k]) hP hD [1, 2, 3, 4, 5, 6, 7, 8] [0, 9, 10, 11, 12, 13, 14, 15, 16] rfl rfl (by decide) (by decide) hk1 hFc hP1 hD1
    generalize H1 = H at hP hS ⊢
    have hP := hP.sub (ws' := [cX0 h0 n0 k0 t0 p0 x, cL0 n0 n1 n2 n3 g_4, cL1 cJ n1 g_4, cL2 cI n2 g_4, cL3 cI n3 g_4, cL0 k0 k1 k2 k3 k, cL1 cJ k1 k, cL2 cI k2 k, cL3 cI k3 k, cT0 t0 t1 tp, cT1 cI t1 tp, cP0 p0 p1 p2 p3 p4 p5 pl, cP1 cI p1 pl, cP2 cI p2 pl, cP3 cI p3 pl, cP4 cI p4 pl, cP5 cI p5 pl]) [0, 9, 10, 11, 12, 13, 14, 15, 16, 1, 2, 3, 4, 5, 6, 7, 8] rfl
    have hD := hD.sub (ws' := [cX0 h0 n0 k0 t0 p0 x, cL0 n0 n1 n2 n3 g_4, cL1 cJ n1 g_4, cL2 cI n2 g_4, cL3 cI n3 g_4, cL0 k0 k1 k2 k3 k, cL1 cJ k1 k, cL2 cI k2 k, cL3 cI k3 k, cT0 t0 t1 tp, cT1 cI t1 tp, cP0 p0 p1 p2 p3 p4 p5 pl, cP1 cI p1 pl, cP2 cI p2 pl, cP3 cI p3 pl, cP4 cI p4 pl, cP5 cI p5 pl]) [0, 9, 10, 11, 12, 13, 14, 15, 16, 1, 2, 3, 4, 5, 6, 7, 8] (by decide) rfl
    refine lv_aload_n hx hb dX3_dead_21 rfl (lv_at hl 0 rfl) ?_
    refine lv_iload_n hx hb dX3_dead_22 rfl (lv_at hl 1 rfl) ?_
    have hPc := hP.sub (ws' := [cX0 h0 n0 k0 t0 p0 x, cL0 n0 n1 n2 n3 g_4, cL1 cJ n1 g_4, cL2 cI n2 g_4, cL3 cI n3 g_4, cL0 k0 k1 k2 k3 k, cL1 cJ k1 k, cL2 cI k2 k, cL3 cI k3 k, cT0 t0 t1 tp, cT1 cI t1 tp, cP0 p0 p1 p2 p3 p4 p5 pl, cP1 cI p1 pl, cP2 cI p2 pl, cP3 cI p3 pl, cP4 cI p4 pl, cP5 cI p5 pl]) [0, 1, 2, 3, 4, 5, 6, 7, 8, 9, 10, 11, 12, 13, 14, 15, 16] rfl
    have hDc := hD.sub (ws' := [cX0 h0 n0 k0 t0 p0 x, cL0 n0 n1 n2 n3 g_4, cL1 cJ n1 g_4, cL2 cI n2 g_4, cL3 cI n3 g_4, cL0 k0 k1 k2 k3 k, cL1 cJ k1 k, cL2 cI k2 k, cL3 cI k3 k, cT0 t0 t1 tp, cT1 cI t1 tp, cP0 p0 p1 p2 p3 p4 p5 pl, cP1 cI p1 pl, cP2 cI p2 pl, cP3 cI p3 pl, cP4 cI p4 pl, cP5 cI p5 pl]) [0, 1, 2, 3, 4, 5, 6, 7, 8, 9, 10, 11, 12, 13, 14, 15, 16] (by decide) rfl
    have hFc := va_free (wc := [cX0 h0 n0 k0 t0 p0 x, cL0 n0 n1 n2 n3 g_4, cL1 cJ n1 g_4, cL2 cI n2 g_4, cL3 cI n3 g_4, cL0 k0 k1 k2 k3 k, cL1 cJ k1 k, cL2 cI k2 k, cL3 cI k3 k, cT0 t0 t1 tp, cT1 cI t1 tp, cP0 p0 p1 p2 p3 p4 p5 pl, cP1 cI p1 pl, cP2 cI p2 pl, cP3 cI p3 pl, cP4 cI p4 pl, cP5 cI p5 pl]) hD hS hA [0, 1, 2, 3, 4, 5, 6, 7, 8, 9, 10, 11, 12, 13, 14, 15, 16] rfl
    refine va_callv (va_runV (As := [.int se]) (rest := []) ⟨hx, hb, hml, hown, hts⟩ (kX3_passGap l dC dI cI cJ h0 n0 k0 t0 p0 n1 n2 n3 k1 k2 k3 t1 p1 p2 p3 p4 p5 H.size se x g_4 k tp pl) (cwV 1 hts gX3_dead_X3_passGap rfl rfl rfl (by decide +kernel) ⟨Nat.le_of_ble_eq_true rfl, Nat.le_of_ble_eq_true rfl⟩) ⟨fun a U g mk q => by obtain ⟨q0, q1, qP, qK, qD, qN⟩ := q; exact ⟨q0, q1, qP, va_K.moved (u := U) (U := U.calling g mk a) (Vm.Alike.refl U.vm) qK, qD, nw_same (s := U) (U := U.calling g mk a) rfl qN⟩, va_recv hK hPc (ci := 3) (q0 := 0) rfl rfl, fun U hU hW => ⟨rfl, by rw [hU], by rw [hU]; exact hPc, va_K.moved hW.alike hK, hDc.weaken (fun _ _ _ _ => trivial), nw_warm hW hN⟩⟩ rfl rfl hl.1 rfl (lv_room (Nat.le_of_ble_eq_true rfl)) dX3_dead_23 ⟨Nat.le_of_ble_eq_true rfl, Nat.le_of_ble_eq_true rfl⟩) hS (fun q _ h => hFc q h) hFc (fun _ t H1 locs ht hvm hw hB hz1 hk1 hS => ?_)
    obtain ⟨hP1, hK1, hD1⟩ := hB
    rw [ht] at hP1
    obtain ⟨g_6, eg_6⟩ : ∃ z, z = sX3_passGap_x se x g_4 k tp pl := ⟨_, rfl⟩
    rw [← eg_6] at hP1 hD1
    obtain ⟨g_7, eg_7⟩ : ∃ z, z = sX3_passGap_g se x g_4 k tp pl := ⟨_, rfl⟩
    rw [← eg_7] at hP1 hD1
    obtain ⟨hP, hD⟩ := va_join (wr := []) (w1 := [cX0 h0 n0 k0 t0 p0 g_6, cL0 n0 n1 n2 n3 g_7, cL1 cJ n1 g_7, cL2 cI n2 g_7, cL3 cI n3 g_7, cL0 k0 k1 k2 k3 k, cL1 cJ k1 k, cL2 cI k2 k, cL3 cI k3 k, cT0 t0 t1 tp, cT1 cI t1 tp, cP0 p0 p1 p2 p3 p4 p5 pl, cP1 cI p1 pl, cP2 cI p2 pl, cP3 cI p3 pl, cP4 cI p4 pl, cP5 cI p5 pl]) hP hD [0, 1, 2, 3, 4, 5, 6, 7, 8, 9, 10, 11, 12, 13, 14, 15, 16] [] rfl rfl (by decide) (by decide) hk1 hFc hP1 hD1
    generalize H1 = H at hP hS ⊢
    have hP : va_P (dC, dI) vwCl [cX0 h0 n0 k0 t0 p0 g_6, cL0 n0 n1 n2 n3 g_7, cL1 cJ n1 g_7, cL2 cI n2 g_7, cL3 cI n3 g_7, cL0 k0 k1 k2 k3 k, cL1 cJ k1 k, cL2 cI k2 k, cL3 cI k3 k, cT0 t0 t1 tp, cT1 cI t1 tp, cP0 p0 p1 p2 p3 p4 p5 pl, cP1 cI p1 pl, cP2 cI p2 pl, cP3 cI p3 pl, cP4 cI p4 pl, cP5 cI p5 pl] H := hP
    have hD : va_D A [cX0 h0 n0 k0 t0 p0 g_6, cL0 n0 n1 n2 n3 g_7, cL1 cJ n1 g_7, cL2 cI n2 g_7, cL3 cI n3 g_7, cL0 k0 k1 k2 k3 k, cL1 cJ k1 k, cL2 cI k2 k, cL3 cI k3 k, cT0 t0 t1 tp, cT1 cI t1 tp, cP0 p0 p1 p2 p3 p4 p5 pl, cP1 cI p1 pl, cP2 cI p2 pl, cP3 cI p3 pl, cP4 cI p4 pl, cP5 cI p5 pl] := hD
    refine lv_iconst (v := 1) hx hb dX3_dead_26 (by decide) ?_
    have es0 : sX3_dead_x se x g k tp pl = g_6 := by rw [sX3_dead_x, if_neg c_2, ← eg_4, sX3_dead_x_g_4, ← eg_6, sX3_dead_x_g_6, ← eg_7, sX3_dead_x_g_7]
    have es1 : sX3_dead_g se x g k tp pl = g_7 := by rw [sX3_dead_g, if_neg c_2, ← eg_4, sX3_dead_g_g_4, ← eg_6, sX3_dead_g_g_6, ← eg_7, sX3_dead_g_g_7]
    have er : 1 = rX3_dead se x g k tp pl := by rw [rX3_dead, if_neg c_2, ← eg_4, rX3_dead_g_4, ← eg_6, rX3_dead_g_6, ← eg_7, rX3_dead_g_7]
    refine W.zret (ty := .boolean) (v := 1) hx hb hr rfl (fun t ht hW => ⟨⟨1, (), rfl, er, ?_⟩, hS.F ht⟩) hS.2.2 dX3_dead_27
    rw [es0]; rw [es1]; exact ⟨by rw [ht]; exact hP, va_K.moved hW.alike hK, hD⟩
  · refine lv_iconst (v := 0) hx hb dX3_dead_8 (by decide) ?_
    have es0 : sX3_dead_x se x g k tp pl = x := by rw [sX3_dead_x, if_pos c_2]
    have es1 : sX3_dead_g se x g k tp pl = g := by rw [sX3_dead_g, if_pos c_2]
    have er : 0 = rX3_dead se x g k tp pl := by rw [rX3_dead, if_pos c_2]
    refine W.zret (ty := .boolean) (v := 0) hx hb hr rfl (fun t ht hW => ⟨⟨0, (), rfl, er, ?_⟩, hS.F ht⟩) hS.2.2 dX3_dead_9
    rw [es0]; rw [es1]; exact ⟨by rw [ht]; exact hP, va_K.moved hW.alike hK, hD⟩

def rX3_span (z : Int32) (x : XC) (g : LG) (k : LG) (tp : TP) (pl : PL) : Int32 :=
  if z = 0 then
    g.1
  else
    g.2.1
set_option maxHeartbeats 4000000 in
set_option maxRecDepth 100000 in
theorem kX3_span (l : Launch) (dC : Nat → ClassId) (dI : Nat → Nat → Nat) (cI cJ : ClassId) (h0 n0 k0 t0 p0 n1 n2 n3 k1 k2 k3 t1 p1 p2 p3 p4 p5 : Nat) (sz : Nat) (z : Int32) (x : XC) (g : LG) (k : LG) (tp : TP) (pl : PL) : Met l yX3_span wsX3_span ({ frames := 0, cells := 0, slots := 0, locals := 0 }) (va_Pc [.ref h0, .int z] (fun U => U.heap.size = sz ∧ va_P (dC, dI) vwCl [cX0 h0 n0 k0 t0 p0 x, cL0 n0 n1 n2 n3 g, cL1 cJ n1 g, cL2 cI n2 g, cL3 cI n3 g, cL0 k0 k1 k2 k3 k, cL1 cJ k1 k, cL2 cI k2 k, cL3 cI k3 k, cT0 t0 t1 tp, cT1 cI t1 tp, cP0 p0 p1 p2 p3 p4 p5 pl, cP1 cI p1 pl, cP2 cI p2 pl, cP3 cI p3 pl, cP4 cI p4 pl, cP5 cI p5 pl] U.heap ∧ va_K (dC, dI) vwCl [(cI, .int), (cJ, .long)] U ∧ va_D (fun _ => True) [cX0 h0 n0 k0 t0 p0 x, cL0 n0 n1 n2 n3 g, cL1 cJ n1 g, cL2 cI n2 g, cL3 cI n3 g, cL0 k0 k1 k2 k3 k, cL1 cJ k1 k, cL2 cI k2 k, cL3 cI k3 k, cT0 t0 t1 tp, cT1 cI t1 tp, cP0 p0 p1 p2 p3 p4 p5 pl, cP1 cI p1 pl, cP2 cI p2 pl, cP3 cI p3 pl, cP4 cI p4 pl, cP5 cI p5 pl] ∧ nw U)) (va_Qi (fun (r : Int32) (_ : Unit) => r = rX3_span z x g k tp pl) (fun _ t => va_P (dC, dI) vwCl [cX0 h0 n0 k0 t0 p0 x, cL0 n0 n1 n2 n3 g, cL1 cJ n1 g, cL2 cI n2 g, cL3 cI n3 g, cL0 k0 k1 k2 k3 k, cL1 cJ k1 k, cL2 cI k2 k, cL3 cI k3 k, cT0 t0 t1 tp, cT1 cI t1 tp, cP0 p0 p1 p2 p3 p4 p5 pl, cP1 cI p1 pl, cP2 cI p2 pl, cP3 cI p3 pl, cP4 cI p4 pl, cP5 cI p5 pl] t.heap ∧ va_K (dC, dI) vwCl [(cI, .int), (cJ, .long)] t ∧ va_D (va_A [cX0 h0 n0 k0 t0 p0 x, cL0 n0 n1 n2 n3 g, cL1 cJ n1 g, cL2 cI n2 g, cL3 cI n3 g, cL0 k0 k1 k2 k3 k, cL1 cJ k1 k, cL2 cI k2 k, cL3 cI k3 k, cT0 t0 t1 tp, cT1 cI t1 tp, cP0 p0 p1 p2 p3 p4 p5 pl, cP1 cI p1 pl, cP2 cI p2 pl, cP3 cI p3 pl, cP4 cI p4 pl, cP5 cI p5 pl] sz) [cX0 h0 n0 k0 t0 p0 x, cL0 n0 n1 n2 n3 g, cL1 cJ n1 g, cL2 cI n2 g, cL3 cI n3 g, cL0 k0 k1 k2 k3 k, cL1 cJ k1 k, cL2 cI k2 k, cL3 cI k3 k, cT0 t0 t1 tp, cT1 cI t1 tp, cP0 p0 p1 p2 p3 p4 p5 pl, cP1 cI p1 pl, cP2 cI p2 pl, cP3 cI p3 pl, cP4 cI p4 pl, cP5 cI p5 pl]) (va_A [cX0 h0 n0 k0 t0 p0 x, cL0 n0 n1 n2 n3 g, cL1 cJ n1 g, cL2 cI n2 g, cL3 cI n3 g, cL0 k0 k1 k2 k3 k, cL1 cJ k1 k, cL2 cI k2 k, cL3 cI k3 k, cT0 t0 t1 tp, cT1 cI t1 tp, cP0 p0 p1 p2 p3 p4 p5 pl, cP1 cI p1 pl, cP2 cI p2 pl, cP3 cI p3 pl, cP4 cI p4 pl, cP5 cI p5 pl] sz)) 0 0 (va_A [cX0 h0 n0 k0 t0 p0 x, cL0 n0 n1 n2 n3 g, cL1 cJ n1 g, cL2 cI n2 g, cL3 cI n3 g, cL0 k0 k1 k2 k3 k, cL1 cJ k1 k, cL2 cI k2 k, cL3 cI k3 k, cT0 t0 t1 tp, cT1 cI t1 tp, cP0 p0 p1 p2 p3 p4 p5 pl, cP1 cI p1 pl, cP2 cI p2 pl, cP3 cI p3 pl, cP4 cI p4 pl, cP5 cI p5 pl] sz) := by
  refine Met.ofW (cc := cX3_span) (maxL := 2) (ret := (some .int)) (by decide) rfl ?_
  intro p e s m args below meth c s₁ B hml hv
  obtain ⟨rfl, hsz, hP, hK, hD0, hN⟩ := hv
  have hx := B.exec
  have hb := B.bytes
  have hr := B.returns
  have hts := atoms_spec (ws := wsX3_span) B.pre
  have hown : s.vm.findClass RX3 = some m.cls := findClass_of_methodNamed B.named
  have hlocks := B.notSynchronized
  have hiX3 : ∀ w ∈ u_ws RX3 TX3 12, w ∈ wsX3_span := by decide +kernel
  have hiX0 : ∀ w ∈ u_ws RX0 TX0 15, w ∈ wsX3_span := by decide +kernel
  subst hsz
  have hD := hD0.self (sz := s.heap.size)
  generalize hAe : va_A [cX0 h0 n0 k0 t0 p0 x, cL0 n0 n1 n2 n3 g, cL1 cJ n1 g, cL2 cI n2 g, cL3 cI n3 g, cL0 k0 k1 k2 k3 k, cL1 cJ k1 k, cL2 cI k2 k, cL3 cI k3 k, cT0 t0 t1 tp, cT1 cI t1 tp, cP0 p0 p1 p2 p3 p4 p5 pl, cP1 cI p1 pl, cP2 cI p2 pl, cP3 cI p3 pl, cP4 cI p4 pl, cP5 cI p5 pl] s.heap.size = A at hD ⊢
  have hA : ∀ q : Nat, s.heap.size ≤ q → A q := fun q h => by rw [← hAe]; exact Or.inr h
  have hS : va_S A s.heap s.heap [] := va_S.rf
  have hl := lv_entry ([.ref h0, .int z]) (n := 2) (Nat.le_of_ble_eq_true rfl)
  rw [lg_entry_eq]
  generalize (lg_sl ([.ref h0, .int z]) ++ List.replicate (2 - (lg_sl ([.ref h0, .int z])).length) Slot.unset).toArray = ls at hl ⊢
  have hl : lv_has ls 2 [(0, .ref h0), (1, .int z)] := hl
  have hP : va_P (dC, dI) vwCl [cX0 h0 n0 k0 t0 p0 x, cL0 n0 n1 n2 n3 g, cL1 cJ n1 g, cL2 cI n2 g, cL3 cI n3 g, cL0 k0 k1 k2 k3 k, cL1 cJ k1 k, cL2 cI k2 k, cL3 cI k3 k, cT0 t0 t1 tp, cT1 cI t1 tp, cP0 p0 p1 p2 p3 p4 p5 pl, cP1 cI p1 pl, cP2 cI p2 pl, cP3 cI p3 pl, cP4 cI p4 pl, cP5 cI p5 pl] s.heap := hP
  refine lv_iload_n hx hb dX3_span_0 rfl (lv_at hl 1 rfl) ?_
  refine lv_if_eq (tgt := 14) hx hb dX3_span_1 (by decide) (fun c_1 => ?_) (fun c_1 => ?_)
  · refine lv_aload_n hx hb dX3_span_14 rfl (lv_at hl 0 rfl) ?_
    refine va_get (D := (dC, dI)) (ci := 3) (v := .ref n0) (C := RX3) (T := TX3) (N := 12) hx hb hts hiX3 hown hK hP 0 rfl rfl 0 (by decide) (hts (.fieldLink RX3 10 "TripReckoner" "now" "LTripReckoner$Ledger;") (by decide +kernel)) (fun _ h9 => h9) rfl dX3_span_15 ?_
    refine va_getN (D := (dC, dI)) (ci := 0) (v := .int g.1) (C := RX0) (T := TX0) (N := 15) hx hb hts hiX0 hown hK hP 1 rfl rfl 0 (by decide) (nw_f hN (.fieldLinkNest RX3 122 "TripReckoner$Ledger" "spanLeast" "I" "TripReckoner") (by decide +kernel) rfl) (fun _ h9 => h9) rfl dX3_span_18 ?_
    have er : g.1 = rX3_span z x g k tp pl := by rw [rX3_span, if_pos c_1]
    refine W.iret (v := g.1) hx hb hr (fun t ht hW => ⟨⟨g.1, (), rfl, er, ?_⟩, hS.F ht⟩) hS.2.2 dX3_span_21
    exact ⟨by rw [ht]; exact hP, va_K.moved hW.alike hK, hD⟩
  · refine lv_aload_n hx hb dX3_span_4 rfl (lv_at hl 0 rfl) ?_
    refine va_get (D := (dC, dI)) (ci := 3) (v := .ref n0) (C := RX3) (T := TX3) (N := 12) hx hb hts hiX3 hown hK hP 0 rfl rfl 0 (by decide) (hts (.fieldLink RX3 10 "TripReckoner" "now" "LTripReckoner$Ledger;") (by decide +kernel)) (fun _ h9 => h9) rfl dX3_span_5 ?_
    refine va_getN (D := (dC, dI)) (ci := 0) (v := .int g.2.1) (C := RX0) (T := TX0) (N := 15) hx hb hts hiX0 hown hK hP 1 rfl rfl 1 (by decide) (nw_f hN (.fieldLinkNest RX3 115 "TripReckoner$Ledger" "spanGreatest" "I" "TripReckoner") (by decide +kernel) rfl) (fun _ h9 => h9) rfl dX3_span_8 ?_
    refine lv_goto (tgt := 21) hx hb dX3_span_11 (by decide) ?_
    have er : g.2.1 = rX3_span z x g k tp pl := by rw [rX3_span, if_neg c_1]
    refine W.iret (v := g.2.1) hx hb hr (fun t ht hW => ⟨⟨g.2.1, (), rfl, er, ?_⟩, hS.F ht⟩) hS.2.2 dX3_span_21
    exact ⟨by rw [ht]; exact hP, va_K.moved hW.alike hK, hD⟩

theorem ge1_ne0 {x : Int32} (h : 1 ≤ x) : ¬ x = 0 := fun e => by subst e; exact absurd h (by decide)

def rX3_kilometresOn (fu : Int32) (us : Int32) : Int32 :=
  if 1 ≤ us then
    fu / us
  else
    0
set_option maxHeartbeats 4000000 in
set_option maxRecDepth 100000 in
theorem kX3_kilometresOn (l : Launch) (dC : Nat → ClassId) (dI : Nat → Nat → Nat) (cI cJ : ClassId) (sz : Nat) (fu : Int32) (us : Int32)  : Met l yX3_kilometresOn wsX3_kilometresOn ({ frames := 0, cells := 0, slots := 0, locals := 0 }) (va_Pc [.int fu, .int us] (fun U => U.heap.size = sz ∧ va_P (dC, dI) vwCl [] U.heap ∧ va_K (dC, dI) vwCl [(cI, .int), (cJ, .long)] U ∧ va_D (fun _ => True) [])) (va_Qi (fun (r : Int32) (_ : Unit) => r = rX3_kilometresOn fu us) (fun _ t => va_P (dC, dI) vwCl [] t.heap ∧ va_K (dC, dI) vwCl [(cI, .int), (cJ, .long)] t ∧ va_D (va_A [] sz) []) (va_A [] sz)) 0 0 (va_A [] sz) := by
  refine Met.ofW (cc := cX3_kilometresOn) (maxL := 2) (ret := (some .int)) (by decide) rfl ?_
  intro p e s m args below meth c s₁ B hml hv
  obtain ⟨rfl, hsz, hP, hK, hD0⟩ := hv
  have hx := B.exec
  have hb := B.bytes
  have hr := B.returns
  have hts := atoms_spec (ws := wsX3_kilometresOn) B.pre
  have hown : s.vm.findClass RX3 = some m.cls := findClass_of_methodNamed B.named
  have hlocks := B.notSynchronized
  subst hsz
  have hD := hD0.self (sz := s.heap.size)
  generalize hAe : va_A [] s.heap.size = A at hD ⊢
  have hA : ∀ q : Nat, s.heap.size ≤ q → A q := fun q h => by rw [← hAe]; exact Or.inr h
  have hS : va_S A s.heap s.heap [] := va_S.rf
  have hl := lv_entry ([.int fu, .int us]) (n := 2) (Nat.le_of_ble_eq_true rfl)
  rw [lg_entry_eq]
  generalize (lg_sl ([.int fu, .int us]) ++ List.replicate (2 - (lg_sl ([.int fu, .int us])).length) Slot.unset).toArray = ls at hl ⊢
  have hl : lv_has ls 2 [(0, .int fu), (1, .int us)] := hl
  have hP : va_P (dC, dI) vwCl [] s.heap := hP
  refine lv_iload_n hx hb dX3_kilometresOn_0 rfl (lv_at hl 1 rfl) ?_
  refine lv_iconst (v := 1) hx hb dX3_kilometresOn_1 (by decide) ?_
  refine lv_icmp_ge (tgt := 9) hx hb dX3_kilometresOn_2 (by decide) (fun c_1 => ?_) (fun c_1 => ?_)
  · refine lv_iload_n hx hb dX3_kilometresOn_9 rfl (lv_at hl 0 rfl) ?_
    refine lv_iload_n hx hb dX3_kilometresOn_10 rfl (lv_at hl 1 rfl) ?_
    refine lv_idiv hx hb dX3_kilometresOn_11 (ge1_ne0 c_1) ?_
    have er : fu / us = rX3_kilometresOn fu us := by rw [rX3_kilometresOn, if_pos c_1]
    refine W.iret (v := fu / us) hx hb hr (fun t ht hW => ⟨⟨fu / us, (), rfl, er, ?_⟩, hS.F ht⟩) hS.2.2 dX3_kilometresOn_12
    exact ⟨by rw [ht]; exact hP, va_K.moved hW.alike hK, hD⟩
  · refine lv_iconst (v := 0) hx hb dX3_kilometresOn_5 (by decide) ?_
    refine lv_goto (tgt := 12) hx hb dX3_kilometresOn_6 (by decide) ?_
    have er : 0 = rX3_kilometresOn fu us := by rw [rX3_kilometresOn, if_neg c_1]
    refine W.iret (v := 0) hx hb hr (fun t ht hW => ⟨⟨0, (), rfl, er, ?_⟩, hS.F ht⟩) hS.2.2 dX3_kilometresOn_12
    exact ⟨by rw [ht]; exact hP, va_K.moved hW.alike hK, hD⟩

def rX3_range (z : Int32) (x : XC) (g : LG) (k : LG) (tp : TP) (pl : PL) : Int32 :=
  if z = 0 then
    rX3_kilometresOn g.1 x.2.2.2.2.2.2.1
  else
    rX3_kilometresOn g.2.1 x.2.2.2.2.2.1
set_option maxHeartbeats 4000000 in
set_option maxRecDepth 100000 in
theorem kX3_range (l : Launch) (dC : Nat → ClassId) (dI : Nat → Nat → Nat) (cI cJ : ClassId) (h0 n0 k0 t0 p0 n1 n2 n3 k1 k2 k3 t1 p1 p2 p3 p4 p5 : Nat) (sz : Nat) (z : Int32) (x : XC) (g : LG) (k : LG) (tp : TP) (pl : PL) : Met l yX3_range wsX3_range ({ frames := 1, cells := 0, slots := 0, locals := 21 }) (va_Pc [.ref h0, .int z] (fun U => U.heap.size = sz ∧ va_P (dC, dI) vwCl [cX0 h0 n0 k0 t0 p0 x, cL0 n0 n1 n2 n3 g, cL1 cJ n1 g, cL2 cI n2 g, cL3 cI n3 g, cL0 k0 k1 k2 k3 k, cL1 cJ k1 k, cL2 cI k2 k, cL3 cI k3 k, cT0 t0 t1 tp, cT1 cI t1 tp, cP0 p0 p1 p2 p3 p4 p5 pl, cP1 cI p1 pl, cP2 cI p2 pl, cP3 cI p3 pl, cP4 cI p4 pl, cP5 cI p5 pl] U.heap ∧ va_K (dC, dI) vwCl [(cI, .int), (cJ, .long)] U ∧ va_D (fun _ => True) [cX0 h0 n0 k0 t0 p0 x, cL0 n0 n1 n2 n3 g, cL1 cJ n1 g, cL2 cI n2 g, cL3 cI n3 g, cL0 k0 k1 k2 k3 k, cL1 cJ k1 k, cL2 cI k2 k, cL3 cI k3 k, cT0 t0 t1 tp, cT1 cI t1 tp, cP0 p0 p1 p2 p3 p4 p5 pl, cP1 cI p1 pl, cP2 cI p2 pl, cP3 cI p3 pl, cP4 cI p4 pl, cP5 cI p5 pl] ∧ nw U)) (va_Qi (fun (r : Int32) (_ : Unit) => r = rX3_range z x g k tp pl) (fun _ t => va_P (dC, dI) vwCl [cX0 h0 n0 k0 t0 p0 x, cL0 n0 n1 n2 n3 g, cL1 cJ n1 g, cL2 cI n2 g, cL3 cI n3 g, cL0 k0 k1 k2 k3 k, cL1 cJ k1 k, cL2 cI k2 k, cL3 cI k3 k, cT0 t0 t1 tp, cT1 cI t1 tp, cP0 p0 p1 p2 p3 p4 p5 pl, cP1 cI p1 pl, cP2 cI p2 pl, cP3 cI p3 pl, cP4 cI p4 pl, cP5 cI p5 pl] t.heap ∧ va_K (dC, dI) vwCl [(cI, .int), (cJ, .long)] t ∧ va_D (va_A [cX0 h0 n0 k0 t0 p0 x, cL0 n0 n1 n2 n3 g, cL1 cJ n1 g, cL2 cI n2 g, cL3 cI n3 g, cL0 k0 k1 k2 k3 k, cL1 cJ k1 k, cL2 cI k2 k, cL3 cI k3 k, cT0 t0 t1 tp, cT1 cI t1 tp, cP0 p0 p1 p2 p3 p4 p5 pl, cP1 cI p1 pl, cP2 cI p2 pl, cP3 cI p3 pl, cP4 cI p4 pl, cP5 cI p5 pl] sz) [cX0 h0 n0 k0 t0 p0 x, cL0 n0 n1 n2 n3 g, cL1 cJ n1 g, cL2 cI n2 g, cL3 cI n3 g, cL0 k0 k1 k2 k3 k, cL1 cJ k1 k, cL2 cI k2 k, cL3 cI k3 k, cT0 t0 t1 tp, cT1 cI t1 tp, cP0 p0 p1 p2 p3 p4 p5 pl, cP1 cI p1 pl, cP2 cI p2 pl, cP3 cI p3 pl, cP4 cI p4 pl, cP5 cI p5 pl]) (va_A [cX0 h0 n0 k0 t0 p0 x, cL0 n0 n1 n2 n3 g, cL1 cJ n1 g, cL2 cI n2 g, cL3 cI n3 g, cL0 k0 k1 k2 k3 k, cL1 cJ k1 k, cL2 cI k2 k, cL3 cI k3 k, cT0 t0 t1 tp, cT1 cI t1 tp, cP0 p0 p1 p2 p3 p4 p5 pl, cP1 cI p1 pl, cP2 cI p2 pl, cP3 cI p3 pl, cP4 cI p4 pl, cP5 cI p5 pl] sz)) 0 0 (va_A [cX0 h0 n0 k0 t0 p0 x, cL0 n0 n1 n2 n3 g, cL1 cJ n1 g, cL2 cI n2 g, cL3 cI n3 g, cL0 k0 k1 k2 k3 k, cL1 cJ k1 k, cL2 cI k2 k, cL3 cI k3 k, cT0 t0 t1 tp, cT1 cI t1 tp, cP0 p0 p1 p2 p3 p4 p5 pl, cP1 cI p1 pl, cP2 cI p2 pl, cP3 cI p3 pl, cP4 cI p4 pl, cP5 cI p5 pl] sz) := by
  refine Met.ofW (cc := cX3_range) (maxL := 2) (ret := (some .int)) (by decide) rfl ?_
  intro p e s m args below meth c s₁ B hml hv
  obtain ⟨rfl, hsz, hP, hK, hD0, hN⟩ := hv
  have hx := B.exec
  have hb := B.bytes
  have hr := B.returns
  have hts := atoms_spec (ws := wsX3_range) B.pre
  have hown : s.vm.findClass RX3 = some m.cls := findClass_of_methodNamed B.named
  have hlocks := B.notSynchronized
  have hiX3 : ∀ w ∈ u_ws RX3 TX3 12, w ∈ wsX3_range := by decide +kernel
  have hiX0 : ∀ w ∈ u_ws RX0 TX0 15, w ∈ wsX3_range := by decide +kernel
  subst hsz
  have hD := hD0.self (sz := s.heap.size)
  generalize hAe : va_A [cX0 h0 n0 k0 t0 p0 x, cL0 n0 n1 n2 n3 g, cL1 cJ n1 g, cL2 cI n2 g, cL3 cI n3 g, cL0 k0 k1 k2 k3 k, cL1 cJ k1 k, cL2 cI k2 k, cL3 cI k3 k, cT0 t0 t1 tp, cT1 cI t1 tp, cP0 p0 p1 p2 p3 p4 p5 pl, cP1 cI p1 pl, cP2 cI p2 pl, cP3 cI p3 pl, cP4 cI p4 pl, cP5 cI p5 pl] s.heap.size = A at hD ⊢
  have hA : ∀ q : Nat, s.heap.size ≤ q → A q := fun q h => by rw [← hAe]; exact Or.inr h
  have hS : va_S A s.heap s.heap [] := va_S.rf
  have hl := lv_entry ([.ref h0, .int z]) (n := 2) (Nat.le_of_ble_eq_true rfl)
  rw [lg_entry_eq]
  generalize (lg_sl ([.ref h0, .int z]) ++ List.replicate (2 - (lg_sl ([.ref h0, .int z])).length) Slot.unset).toArray = ls at hl ⊢
  have hl : lv_has ls 2 [(0, .ref h0), (1, .int z)] := hl
  have hP : va_P (dC, dI) vwCl [cX0 h0 n0 k0 t0 p0 x, cL0 n0 n1 n2 n3 g, cL1 cJ n1 g, cL2 cI n2 g, cL3 cI n3 g, cL0 k0 k1 k2 k3 k, cL1 cJ k1 k, cL2 cI k2 k, cL3 cI k3 k, cT0 t0 t1 tp, cT1 cI t1 tp, cP0 p0 p1 p2 p3 p4 p5 pl, cP1 cI p1 pl, cP2 cI p2 pl, cP3 cI p3 pl, cP4 cI p4 pl, cP5 cI p5 pl] s.heap := hP
  refine lv_iload_n hx hb dX3_range_0 rfl (lv_at hl 1 rfl) ?_
  refine lv_if_eq (tgt := 21) hx hb dX3_range_1 (by decide) (fun c_1 => ?_) (fun c_1 => ?_)
  · refine lv_aload_n hx hb dX3_range_21 rfl (lv_at hl 0 rfl) ?_
    refine va_get (D := (dC, dI)) (ci := 3) (v := .ref n0) (C := RX3) (T := TX3) (N := 12) hx hb hts hiX3 hown hK hP 0 rfl rfl 0 (by decide) (hts (.fieldLink RX3 10 "TripReckoner" "now" "LTripReckoner$Ledger;") (by decide +kernel)) (fun _ h9 => h9) rfl dX3_range_22 ?_
    refine va_getN (D := (dC, dI)) (ci := 0) (v := .int g.1) (C := RX0) (T := TX0) (N := 15) hx hb hts hiX0 hown hK hP 1 rfl rfl 0 (by decide) (nw_f hN (.fieldLinkNest RX3 122 "TripReckoner$Ledger" "spanLeast" "I" "TripReckoner") (by decide +kernel) rfl) (fun _ h9 => h9) rfl dX3_range_25 ?_
    refine lv_aload_n hx hb dX3_range_28 rfl (lv_at hl 0 rfl) ?_
    refine va_get (D := (dC, dI)) (ci := 3) (v := .int x.2.2.2.2.2.2.1) (C := RX3) (T := TX3) (N := 12) hx hb hts hiX3 hown hK hP 0 rfl rfl 10 (by decide) (hts (.fieldLink RX3 53 "TripReckoner" "highUse" "I") (by decide +kernel)) (fun _ h9 => h9) rfl dX3_range_29 ?_
    have hPc := hP.sub (ws' := []) [] rfl
    have hDc := hD.sub (ws' := []) [] (by decide) rfl
    have hFc := va_free (wc := []) hD hS hA [] rfl
    refine va_calli (va_runS (As := [.int g.1, .int x.2.2.2.2.2.2.1]) (rest := []) ⟨hx, hb, hml, hown, hts⟩ (kX3_kilometresOn l dC dI cI cJ s.heap.size g.1 x.2.2.2.2.2.2.1) (va_cwS 2 hts gX3_range_X3_kilometresOn rfl rfl rfl (by decide +kernel) ⟨Nat.le_of_ble_eq_true rfl, Nat.le_of_ble_eq_true rfl⟩) ⟨fun a U g mk q => by obtain ⟨q0, q1, qP, qK, qD⟩ := q; exact ⟨q0, q1, qP, va_K.moved (u := U) (U := U.calling g mk a) (Vm.Alike.refl U.vm) qK, qD⟩, fun U hU hW => ⟨rfl, by rw [hU], by rw [hU]; exact hPc, va_K.moved hW.alike hK, hDc.weaken (fun _ _ _ _ => trivial)⟩⟩ rfl rfl hl.1 rfl (lv_room (Nat.le_of_ble_eq_true rfl)) dX3_range_32 ⟨Nat.le_of_ble_eq_true rfl, Nat.le_of_ble_eq_true rfl⟩) hS (fun q _ h => hFc q h) hFc (fun r_2 _ t H1 locs ht hvm hw hB hz1 hk1 hS => ?_)
    obtain ⟨hP1, hK1, hD1⟩ := hB
    rw [ht] at hP1
    obtain ⟨hP, hD⟩ := va_join (wr := [cX0 h0 n0 k0 t0 p0 x, cL0 n0 n1 n2 n3 g, cL1 cJ n1 g, cL2 cI n2 g, cL3 cI n3 g, cL0 k0 k1 k2 k3 k, cL1 cJ k1 k, cL2 cI k2 k, cL3 cI k3 k, cT0 t0 t1 tp, cT1 cI t1 tp, cP0 p0 p1 p2 p3 p4 p5 pl, cP1 cI p1 pl, cP2 cI p2 pl, cP3 cI p3 pl, cP4 cI p4 pl, cP5 cI p5 pl]) (w1 := []) hP hD [] [0, 1, 2, 3, 4, 5, 6, 7, 8, 9, 10, 11, 12, 13, 14, 15, 16] rfl rfl (by decide) (by decide) hk1 hFc hP1 hD1
    generalize H1 = H at hP hS ⊢
    have hP : va_P (dC, dI) vwCl [cX0 h0 n0 k0 t0 p0 x, cL0 n0 n1 n2 n3 g, cL1 cJ n1 g, cL2 cI n2 g, cL3 cI n3 g, cL0 k0 k1 k2 k3 k, cL1 cJ k1 k, cL2 cI k2 k, cL3 cI k3 k, cT0 t0 t1 tp, cT1 cI t1 tp, cP0 p0 p1 p2 p3 p4 p5 pl, cP1 cI p1 pl, cP2 cI p2 pl, cP3 cI p3 pl, cP4 cI p4 pl, cP5 cI p5 pl] H := hP
    have hD : va_D A [cX0 h0 n0 k0 t0 p0 x, cL0 n0 n1 n2 n3 g, cL1 cJ n1 g, cL2 cI n2 g, cL3 cI n3 g, cL0 k0 k1 k2 k3 k, cL1 cJ k1 k, cL2 cI k2 k, cL3 cI k3 k, cT0 t0 t1 tp, cT1 cI t1 tp, cP0 p0 p1 p2 p3 p4 p5 pl, cP1 cI p1 pl, cP2 cI p2 pl, cP3 cI p3 pl, cP4 cI p4 pl, cP5 cI p5 pl] := hD
    subst hw
    have er : rX3_kilometresOn g.1 x.2.2.2.2.2.2.1 = rX3_range z x g k tp pl := by rw [rX3_range, if_pos c_1]
    refine W.iret (v := rX3_kilometresOn g.1 x.2.2.2.2.2.2.1) hx hb hr (fun t ht hW => ⟨⟨rX3_kilometresOn g.1 x.2.2.2.2.2.2.1, (), rfl, er, ?_⟩, hS.F ht⟩) hS.2.2 dX3_range_35
    exact ⟨by rw [ht]; exact hP, va_K.moved hW.alike hK, hD⟩
  · refine lv_aload_n hx hb dX3_range_4 rfl (lv_at hl 0 rfl) ?_
    refine va_get (D := (dC, dI)) (ci := 3) (v := .ref n0) (C := RX3) (T := TX3) (N := 12) hx hb hts hiX3 hown hK hP 0 rfl rfl 0 (by decide) (hts (.fieldLink RX3 10 "TripReckoner" "now" "LTripReckoner$Ledger;") (by decide +kernel)) (fun _ h9 => h9) rfl dX3_range_5 ?_
    refine va_getN (D := (dC, dI)) (ci := 0) (v := .int g.2.1) (C := RX0) (T := TX0) (N := 15) hx hb hts hiX0 hown hK hP 1 rfl rfl 1 (by decide) (nw_f hN (.fieldLinkNest RX3 115 "TripReckoner$Ledger" "spanGreatest" "I" "TripReckoner") (by decide +kernel) rfl) (fun _ h9 => h9) rfl dX3_range_8 ?_
    refine lv_aload_n hx hb dX3_range_11 rfl (lv_at hl 0 rfl) ?_
    refine va_get (D := (dC, dI)) (ci := 3) (v := .int x.2.2.2.2.2.1) (C := RX3) (T := TX3) (N := 12) hx hb hts hiX3 hown hK hP 0 rfl rfl 9 (by decide) (hts (.fieldLink RX3 50 "TripReckoner" "lowUse" "I") (by decide +kernel)) (fun _ h9 => h9) rfl dX3_range_12 ?_
    have hPc := hP.sub (ws' := []) [] rfl
    have hDc := hD.sub (ws' := []) [] (by decide) rfl
    have hFc := va_free (wc := []) hD hS hA [] rfl
    refine va_calli (va_runS (As := [.int g.2.1, .int x.2.2.2.2.2.1]) (rest := []) ⟨hx, hb, hml, hown, hts⟩ (kX3_kilometresOn l dC dI cI cJ s.heap.size g.2.1 x.2.2.2.2.2.1) (va_cwS 2 hts gX3_range_X3_kilometresOn rfl rfl rfl (by decide +kernel) ⟨Nat.le_of_ble_eq_true rfl, Nat.le_of_ble_eq_true rfl⟩) ⟨fun a U g mk q => by obtain ⟨q0, q1, qP, qK, qD⟩ := q; exact ⟨q0, q1, qP, va_K.moved (u := U) (U := U.calling g mk a) (Vm.Alike.refl U.vm) qK, qD⟩, fun U hU hW => ⟨rfl, by rw [hU], by rw [hU]; exact hPc, va_K.moved hW.alike hK, hDc.weaken (fun _ _ _ _ => trivial)⟩⟩ rfl rfl hl.1 rfl (lv_room (Nat.le_of_ble_eq_true rfl)) dX3_range_15 ⟨Nat.le_of_ble_eq_true rfl, Nat.le_of_ble_eq_true rfl⟩) hS (fun q _ h => hFc q h) hFc (fun r_3 _ t H1 locs ht hvm hw hB hz1 hk1 hS => ?_)
    obtain ⟨hP1, hK1, hD1⟩ := hB
    rw [ht] at hP1
    obtain ⟨hP, hD⟩ := va_join (wr := [cX0 h0 n0 k0 t0 p0 x, cL0 n0 n1 n2 n3 g, cL1 cJ n1 g, cL2 cI n2 g, cL3 cI n3 g, cL0 k0 k1 k2 k3 k, cL1 cJ k1 k, cL2 cI k2 k, cL3 cI k3 k, cT0 t0 t1 tp, cT1 cI t1 tp, cP0 p0 p1 p2 p3 p4 p5 pl, cP1 cI p1 pl, cP2 cI p2 pl, cP3 cI p3 pl, cP4 cI p4 pl, cP5 cI p5 pl]) (w1 := []) hP hD [] [0, 1, 2, 3, 4, 5, 6, 7, 8, 9, 10, 11, 12, 13, 14, 15, 16] rfl rfl (by decide) (by decide) hk1 hFc hP1 hD1
    generalize H1 = H at hP hS ⊢
    have hP : va_P (dC, dI) vwCl [cX0 h0 n0 k0 t0 p0 x, cL0 n0 n1 n2 n3 g, cL1 cJ n1 g, cL2 cI n2 g, cL3 cI n3 g, cL0 k0 k1 k2 k3 k, cL1 cJ k1 k, cL2 cI k2 k, cL3 cI k3 k, cT0 t0 t1 tp, cT1 cI t1 tp, cP0 p0 p1 p2 p3 p4 p5 pl, cP1 cI p1 pl, cP2 cI p2 pl, cP3 cI p3 pl, cP4 cI p4 pl, cP5 cI p5 pl] H := hP
    have hD : va_D A [cX0 h0 n0 k0 t0 p0 x, cL0 n0 n1 n2 n3 g, cL1 cJ n1 g, cL2 cI n2 g, cL3 cI n3 g, cL0 k0 k1 k2 k3 k, cL1 cJ k1 k, cL2 cI k2 k, cL3 cI k3 k, cT0 t0 t1 tp, cT1 cI t1 tp, cP0 p0 p1 p2 p3 p4 p5 pl, cP1 cI p1 pl, cP2 cI p2 pl, cP3 cI p3 pl, cP4 cI p4 pl, cP5 cI p5 pl] := hD
    subst hw
    refine lv_goto (tgt := 35) hx hb dX3_range_18 (by decide) ?_
    have er : rX3_kilometresOn g.2.1 x.2.2.2.2.2.1 = rX3_range z x g k tp pl := by rw [rX3_range, if_neg c_1]
    refine W.iret (v := rX3_kilometresOn g.2.1 x.2.2.2.2.2.1) hx hb hr (fun t ht hW => ⟨⟨rX3_kilometresOn g.2.1 x.2.2.2.2.2.1, (), rfl, er, ?_⟩, hS.F ht⟩) hS.2.2 dX3_range_35
    exact ⟨by rw [ht]; exact hP, va_K.moved hW.alike hK, hD⟩

def rX3_shown (x : XC) (g : LG) (k : LG) (tp : TP) (pl : PL) : Int32 :=
  g.2.2.2.2.2.2.1
set_option maxHeartbeats 4000000 in
set_option maxRecDepth 100000 in
theorem kX3_shown (l : Launch) (dC : Nat → ClassId) (dI : Nat → Nat → Nat) (cI cJ : ClassId) (h0 n0 k0 t0 p0 n1 n2 n3 k1 k2 k3 t1 p1 p2 p3 p4 p5 : Nat) (sz : Nat)  (x : XC) (g : LG) (k : LG) (tp : TP) (pl : PL) : Met l yX3_shown wsX3_shown ({ frames := 0, cells := 0, slots := 0, locals := 0 }) (va_Pc [.ref h0] (fun U => U.heap.size = sz ∧ va_P (dC, dI) vwCl [cX0 h0 n0 k0 t0 p0 x, cL0 n0 n1 n2 n3 g, cL1 cJ n1 g, cL2 cI n2 g, cL3 cI n3 g, cL0 k0 k1 k2 k3 k, cL1 cJ k1 k, cL2 cI k2 k, cL3 cI k3 k, cT0 t0 t1 tp, cT1 cI t1 tp, cP0 p0 p1 p2 p3 p4 p5 pl, cP1 cI p1 pl, cP2 cI p2 pl, cP3 cI p3 pl, cP4 cI p4 pl, cP5 cI p5 pl] U.heap ∧ va_K (dC, dI) vwCl [(cI, .int), (cJ, .long)] U ∧ va_D (fun _ => True) [cX0 h0 n0 k0 t0 p0 x, cL0 n0 n1 n2 n3 g, cL1 cJ n1 g, cL2 cI n2 g, cL3 cI n3 g, cL0 k0 k1 k2 k3 k, cL1 cJ k1 k, cL2 cI k2 k, cL3 cI k3 k, cT0 t0 t1 tp, cT1 cI t1 tp, cP0 p0 p1 p2 p3 p4 p5 pl, cP1 cI p1 pl, cP2 cI p2 pl, cP3 cI p3 pl, cP4 cI p4 pl, cP5 cI p5 pl] ∧ nw U)) (va_Qi (fun (r : Int32) (_ : Unit) => r = rX3_shown x g k tp pl) (fun _ t => va_P (dC, dI) vwCl [cX0 h0 n0 k0 t0 p0 x, cL0 n0 n1 n2 n3 g, cL1 cJ n1 g, cL2 cI n2 g, cL3 cI n3 g, cL0 k0 k1 k2 k3 k, cL1 cJ k1 k, cL2 cI k2 k, cL3 cI k3 k, cT0 t0 t1 tp, cT1 cI t1 tp, cP0 p0 p1 p2 p3 p4 p5 pl, cP1 cI p1 pl, cP2 cI p2 pl, cP3 cI p3 pl, cP4 cI p4 pl, cP5 cI p5 pl] t.heap ∧ va_K (dC, dI) vwCl [(cI, .int), (cJ, .long)] t ∧ va_D (va_A [cX0 h0 n0 k0 t0 p0 x, cL0 n0 n1 n2 n3 g, cL1 cJ n1 g, cL2 cI n2 g, cL3 cI n3 g, cL0 k0 k1 k2 k3 k, cL1 cJ k1 k, cL2 cI k2 k, cL3 cI k3 k, cT0 t0 t1 tp, cT1 cI t1 tp, cP0 p0 p1 p2 p3 p4 p5 pl, cP1 cI p1 pl, cP2 cI p2 pl, cP3 cI p3 pl, cP4 cI p4 pl, cP5 cI p5 pl] sz) [cX0 h0 n0 k0 t0 p0 x, cL0 n0 n1 n2 n3 g, cL1 cJ n1 g, cL2 cI n2 g, cL3 cI n3 g, cL0 k0 k1 k2 k3 k, cL1 cJ k1 k, cL2 cI k2 k, cL3 cI k3 k, cT0 t0 t1 tp, cT1 cI t1 tp, cP0 p0 p1 p2 p3 p4 p5 pl, cP1 cI p1 pl, cP2 cI p2 pl, cP3 cI p3 pl, cP4 cI p4 pl, cP5 cI p5 pl]) (va_A [cX0 h0 n0 k0 t0 p0 x, cL0 n0 n1 n2 n3 g, cL1 cJ n1 g, cL2 cI n2 g, cL3 cI n3 g, cL0 k0 k1 k2 k3 k, cL1 cJ k1 k, cL2 cI k2 k, cL3 cI k3 k, cT0 t0 t1 tp, cT1 cI t1 tp, cP0 p0 p1 p2 p3 p4 p5 pl, cP1 cI p1 pl, cP2 cI p2 pl, cP3 cI p3 pl, cP4 cI p4 pl, cP5 cI p5 pl] sz)) 0 0 (va_A [cX0 h0 n0 k0 t0 p0 x, cL0 n0 n1 n2 n3 g, cL1 cJ n1 g, cL2 cI n2 g, cL3 cI n3 g, cL0 k0 k1 k2 k3 k, cL1 cJ k1 k, cL2 cI k2 k, cL3 cI k3 k, cT0 t0 t1 tp, cT1 cI t1 tp, cP0 p0 p1 p2 p3 p4 p5 pl, cP1 cI p1 pl, cP2 cI p2 pl, cP3 cI p3 pl, cP4 cI p4 pl, cP5 cI p5 pl] sz) := by
  refine Met.ofW (cc := cX3_shown) (maxL := 1) (ret := (some .int)) (by decide) rfl ?_
  intro p e s m args below meth c s₁ B hml hv
  obtain ⟨rfl, hsz, hP, hK, hD0, hN⟩ := hv
  have hx := B.exec
  have hb := B.bytes
  have hr := B.returns
  have hts := atoms_spec (ws := wsX3_shown) B.pre
  have hown : s.vm.findClass RX3 = some m.cls := findClass_of_methodNamed B.named
  have hlocks := B.notSynchronized
  have hiX3 : ∀ w ∈ u_ws RX3 TX3 12, w ∈ wsX3_shown := by decide +kernel
  have hiX0 : ∀ w ∈ u_ws RX0 TX0 15, w ∈ wsX3_shown := by decide +kernel
  subst hsz
  have hD := hD0.self (sz := s.heap.size)
  generalize hAe : va_A [cX0 h0 n0 k0 t0 p0 x, cL0 n0 n1 n2 n3 g, cL1 cJ n1 g, cL2 cI n2 g, cL3 cI n3 g, cL0 k0 k1 k2 k3 k, cL1 cJ k1 k, cL2 cI k2 k, cL3 cI k3 k, cT0 t0 t1 tp, cT1 cI t1 tp, cP0 p0 p1 p2 p3 p4 p5 pl, cP1 cI p1 pl, cP2 cI p2 pl, cP3 cI p3 pl, cP4 cI p4 pl, cP5 cI p5 pl] s.heap.size = A at hD ⊢
  have hA : ∀ q : Nat, s.heap.size ≤ q → A q := fun q h => by rw [← hAe]; exact Or.inr h
  have hS : va_S A s.heap s.heap [] := va_S.rf
  have hl := lv_entry ([.ref h0]) (n := 1) (Nat.le_of_ble_eq_true rfl)
  rw [lg_entry_eq]
  generalize (lg_sl ([.ref h0]) ++ List.replicate (1 - (lg_sl ([.ref h0])).length) Slot.unset).toArray = ls at hl ⊢
  have hl : lv_has ls 1 [(0, .ref h0)] := hl
  have hP : va_P (dC, dI) vwCl [cX0 h0 n0 k0 t0 p0 x, cL0 n0 n1 n2 n3 g, cL1 cJ n1 g, cL2 cI n2 g, cL3 cI n3 g, cL0 k0 k1 k2 k3 k, cL1 cJ k1 k, cL2 cI k2 k, cL3 cI k3 k, cT0 t0 t1 tp, cT1 cI t1 tp, cP0 p0 p1 p2 p3 p4 p5 pl, cP1 cI p1 pl, cP2 cI p2 pl, cP3 cI p3 pl, cP4 cI p4 pl, cP5 cI p5 pl] s.heap := hP
  refine lv_aload_n hx hb dX3_shown_0 rfl (lv_at hl 0 rfl) ?_
  refine va_get (D := (dC, dI)) (ci := 3) (v := .ref n0) (C := RX3) (T := TX3) (N := 12) hx hb hts hiX3 hown hK hP 0 rfl rfl 0 (by decide) (hts (.fieldLink RX3 10 "TripReckoner" "now" "LTripReckoner$Ledger;") (by decide +kernel)) (fun _ h9 => h9) rfl dX3_shown_1 ?_
  refine va_getN (D := (dC, dI)) (ci := 0) (v := .int g.2.2.2.2.2.2.1) (C := RX0) (T := TX0) (N := 15) hx hb hts hiX0 hown hK hP 1 rfl rfl 6 (by decide) (nw_f hN (.fieldLinkNest RX3 171 "TripReckoner$Ledger" "shownLitres" "I" "TripReckoner") (by decide +kernel) rfl) (fun _ h9 => h9) rfl dX3_shown_4 ?_
  have er : g.2.2.2.2.2.2.1 = rX3_shown x g k tp pl := by rw [rX3_shown]
  refine W.iret (v := g.2.2.2.2.2.2.1) hx hb hr (fun t ht hW => ⟨⟨g.2.2.2.2.2.2.1, (), rfl, er, ?_⟩, hS.F ht⟩) hS.2.2 dX3_shown_7
  exact ⟨by rw [ht]; exact hP, va_K.moved hW.alike hK, hD⟩

def rX3_buys (i : Int32) (x : XC) (g : LG) (k : LG) (tp : TP) (pl : PL) : Int32 :=
  rX1_boughtAt i pl
set_option maxHeartbeats 4000000 in
set_option maxRecDepth 100000 in
theorem kX3_buys (l : Launch) (dC : Nat → ClassId) (dI : Nat → Nat → Nat) (cI cJ : ClassId) (h0 n0 k0 t0 p0 n1 n2 n3 k1 k2 k3 t1 p1 p2 p3 p4 p5 : Nat) (sz : Nat) (i : Int32) (x : XC) (g : LG) (k : LG) (tp : TP) (pl : PL) (hp : pl.2.2.2.2.2.2.toInt ≤ 12) : Met l yX3_buys wsX3_buys ({ frames := 1, cells := 0, slots := 0, locals := 21 }) (va_Pc [.ref h0, .int i] (fun U => U.heap.size = sz ∧ va_P (dC, dI) vwCl [cX0 h0 n0 k0 t0 p0 x, cL0 n0 n1 n2 n3 g, cL1 cJ n1 g, cL2 cI n2 g, cL3 cI n3 g, cL0 k0 k1 k2 k3 k, cL1 cJ k1 k, cL2 cI k2 k, cL3 cI k3 k, cT0 t0 t1 tp, cT1 cI t1 tp, cP0 p0 p1 p2 p3 p4 p5 pl, cP1 cI p1 pl, cP2 cI p2 pl, cP3 cI p3 pl, cP4 cI p4 pl, cP5 cI p5 pl] U.heap ∧ va_K (dC, dI) vwCl [(cI, .int), (cJ, .long)] U ∧ va_D (fun _ => True) [cX0 h0 n0 k0 t0 p0 x, cL0 n0 n1 n2 n3 g, cL1 cJ n1 g, cL2 cI n2 g, cL3 cI n3 g, cL0 k0 k1 k2 k3 k, cL1 cJ k1 k, cL2 cI k2 k, cL3 cI k3 k, cT0 t0 t1 tp, cT1 cI t1 tp, cP0 p0 p1 p2 p3 p4 p5 pl, cP1 cI p1 pl, cP2 cI p2 pl, cP3 cI p3 pl, cP4 cI p4 pl, cP5 cI p5 pl] ∧ nw U)) (va_Qi (fun (r : Int32) (_ : Unit) => r = rX3_buys i x g k tp pl) (fun _ t => va_P (dC, dI) vwCl [cX0 h0 n0 k0 t0 p0 x, cL0 n0 n1 n2 n3 g, cL1 cJ n1 g, cL2 cI n2 g, cL3 cI n3 g, cL0 k0 k1 k2 k3 k, cL1 cJ k1 k, cL2 cI k2 k, cL3 cI k3 k, cT0 t0 t1 tp, cT1 cI t1 tp, cP0 p0 p1 p2 p3 p4 p5 pl, cP1 cI p1 pl, cP2 cI p2 pl, cP3 cI p3 pl, cP4 cI p4 pl, cP5 cI p5 pl] t.heap ∧ va_K (dC, dI) vwCl [(cI, .int), (cJ, .long)] t ∧ va_D (va_A [cX0 h0 n0 k0 t0 p0 x, cL0 n0 n1 n2 n3 g, cL1 cJ n1 g, cL2 cI n2 g, cL3 cI n3 g, cL0 k0 k1 k2 k3 k, cL1 cJ k1 k, cL2 cI k2 k, cL3 cI k3 k, cT0 t0 t1 tp, cT1 cI t1 tp, cP0 p0 p1 p2 p3 p4 p5 pl, cP1 cI p1 pl, cP2 cI p2 pl, cP3 cI p3 pl, cP4 cI p4 pl, cP5 cI p5 pl] sz) [cX0 h0 n0 k0 t0 p0 x, cL0 n0 n1 n2 n3 g, cL1 cJ n1 g, cL2 cI n2 g, cL3 cI n3 g, cL0 k0 k1 k2 k3 k, cL1 cJ k1 k, cL2 cI k2 k, cL3 cI k3 k, cT0 t0 t1 tp, cT1 cI t1 tp, cP0 p0 p1 p2 p3 p4 p5 pl, cP1 cI p1 pl, cP2 cI p2 pl, cP3 cI p3 pl, cP4 cI p4 pl, cP5 cI p5 pl]) (va_A [cX0 h0 n0 k0 t0 p0 x, cL0 n0 n1 n2 n3 g, cL1 cJ n1 g, cL2 cI n2 g, cL3 cI n3 g, cL0 k0 k1 k2 k3 k, cL1 cJ k1 k, cL2 cI k2 k, cL3 cI k3 k, cT0 t0 t1 tp, cT1 cI t1 tp, cP0 p0 p1 p2 p3 p4 p5 pl, cP1 cI p1 pl, cP2 cI p2 pl, cP3 cI p3 pl, cP4 cI p4 pl, cP5 cI p5 pl] sz)) 0 0 (va_A [cX0 h0 n0 k0 t0 p0 x, cL0 n0 n1 n2 n3 g, cL1 cJ n1 g, cL2 cI n2 g, cL3 cI n3 g, cL0 k0 k1 k2 k3 k, cL1 cJ k1 k, cL2 cI k2 k, cL3 cI k3 k, cT0 t0 t1 tp, cT1 cI t1 tp, cP0 p0 p1 p2 p3 p4 p5 pl, cP1 cI p1 pl, cP2 cI p2 pl, cP3 cI p3 pl, cP4 cI p4 pl, cP5 cI p5 pl] sz) := by
  refine Met.ofW (cc := cX3_buys) (maxL := 2) (ret := (some .int)) (by decide) rfl ?_
  intro p e s m args below meth c s₁ B hml hv
  obtain ⟨rfl, hsz, hP, hK, hD0, hN⟩ := hv
  have hx := B.exec
  have hb := B.bytes
  have hr := B.returns
  have hts := atoms_spec (ws := wsX3_buys) B.pre
  have hown : s.vm.findClass RX3 = some m.cls := findClass_of_methodNamed B.named
  have hlocks := B.notSynchronized
  have hiX3 : ∀ w ∈ u_ws RX3 TX3 12, w ∈ wsX3_buys := by decide +kernel
  subst hsz
  have hD := hD0.self (sz := s.heap.size)
  generalize hAe : va_A [cX0 h0 n0 k0 t0 p0 x, cL0 n0 n1 n2 n3 g, cL1 cJ n1 g, cL2 cI n2 g, cL3 cI n3 g, cL0 k0 k1 k2 k3 k, cL1 cJ k1 k, cL2 cI k2 k, cL3 cI k3 k, cT0 t0 t1 tp, cT1 cI t1 tp, cP0 p0 p1 p2 p3 p4 p5 pl, cP1 cI p1 pl, cP2 cI p2 pl, cP3 cI p3 pl, cP4 cI p4 pl, cP5 cI p5 pl] s.heap.size = A at hD ⊢
  have hA : ∀ q : Nat, s.heap.size ≤ q → A q := fun q h => by rw [← hAe]; exact Or.inr h
  have hS : va_S A s.heap s.heap [] := va_S.rf
  have hl := lv_entry ([.ref h0, .int i]) (n := 2) (Nat.le_of_ble_eq_true rfl)
  rw [lg_entry_eq]
  generalize (lg_sl ([.ref h0, .int i]) ++ List.replicate (2 - (lg_sl ([.ref h0, .int i])).length) Slot.unset).toArray = ls at hl ⊢
  have hl : lv_has ls 2 [(0, .ref h0), (1, .int i)] := hl
  have hP : va_P (dC, dI) vwCl [cX0 h0 n0 k0 t0 p0 x, cL0 n0 n1 n2 n3 g, cL1 cJ n1 g, cL2 cI n2 g, cL3 cI n3 g, cL0 k0 k1 k2 k3 k, cL1 cJ k1 k, cL2 cI k2 k, cL3 cI k3 k, cT0 t0 t1 tp, cT1 cI t1 tp, cP0 p0 p1 p2 p3 p4 p5 pl, cP1 cI p1 pl, cP2 cI p2 pl, cP3 cI p3 pl, cP4 cI p4 pl, cP5 cI p5 pl] s.heap := hP
  refine lv_aload_n hx hb dX3_buys_0 rfl (lv_at hl 0 rfl) ?_
  refine va_get (D := (dC, dI)) (ci := 3) (v := .ref p0) (C := RX3) (T := TX3) (N := 12) hx hb hts hiX3 hown hK hP 0 rfl rfl 3 (by decide) (hts (.fieldLink RX3 29 "TripReckoner" "planner" "LTripReckoner$Planner;") (by decide +kernel)) (fun _ h9 => h9) rfl dX3_buys_1 ?_
  refine lv_iload_n hx hb dX3_buys_4 rfl (lv_at hl 1 rfl) ?_
  have hPc := hP.sub (ws' := [cP0 p0 p1 p2 p3 p4 p5 pl, cP1 cI p1 pl, cP2 cI p2 pl, cP3 cI p3 pl, cP4 cI p4 pl, cP5 cI p5 pl]) [11, 12, 13, 14, 15, 16] rfl
  have hDc := hD.sub (ws' := [cP0 p0 p1 p2 p3 p4 p5 pl, cP1 cI p1 pl, cP2 cI p2 pl, cP3 cI p3 pl, cP4 cI p4 pl, cP5 cI p5 pl]) [11, 12, 13, 14, 15, 16] (by decide) rfl
  have hFc := va_free (wc := [cP0 p0 p1 p2 p3 p4 p5 pl, cP1 cI p1 pl, cP2 cI p2 pl, cP3 cI p3 pl, cP4 cI p4 pl, cP5 cI p5 pl]) hD hS hA [11, 12, 13, 14, 15, 16] rfl
  refine va_calli (va_runVN (As := [.int i]) (rest := []) ⟨hx, hb, hml, hown, hts⟩ (kX1_boughtAt l dC dI cI cJ p0 p1 p2 p3 p4 p5 s.heap.size i pl hp) ⟨va_cnB 1 hts gX3_buys_X1_boughtAt_n190 rfl rfl rfl (nw_m hN (.methodLinkNest RX3 190 yX1_boughtAt "TripReckoner") (by decide +kernel)) (hts (.initialized RX1) (by decide +kernel)) (by decide +kernel) ⟨Nat.le_of_ble_eq_true rfl, Nat.le_of_ble_eq_true rfl⟩, (hts (.instanceMethod yX1_boughtAt) (by decide +kernel)), (hts (.selects RX1 yX1_boughtAt yX1_boughtAt) (by decide +kernel))⟩ ⟨fun a U g mk q => by obtain ⟨q0, q1, qP, qK, qD⟩ := q; exact ⟨q0, q1, qP, va_K.moved (u := U) (U := U.calling g mk a) (Vm.Alike.refl U.vm) qK, qD⟩, va_recv hK hPc (ci := 1) (q0 := 0) rfl rfl, fun U hU hW => ⟨rfl, by rw [hU], by rw [hU]; exact hPc, va_K.moved hW.alike hK, hDc.weaken (fun _ _ _ _ => trivial)⟩⟩ rfl rfl hl.1 rfl (lv_room (Nat.le_of_ble_eq_true rfl)) dX3_buys_5 ⟨Nat.le_of_ble_eq_true rfl, Nat.le_of_ble_eq_true rfl⟩) hS (fun q _ h => hFc q h) hFc (fun r_1 _ t H1 locs ht hvm hw hB hz1 hk1 hS => ?_)
  obtain ⟨hP1, hK1, hD1⟩ := hB
  rw [ht] at hP1
  obtain ⟨hP, hD⟩ := va_join (wr := [cX0 h0 n0 k0 t0 p0 x, cL0 n0 n1 n2 n3 g, cL1 cJ n1 g, cL2 cI n2 g, cL3 cI n3 g, cL0 k0 k1 k2 k3 k, cL1 cJ k1 k, cL2 cI k2 k, cL3 cI k3 k, cT0 t0 t1 tp, cT1 cI t1 tp]) (w1 := [cP0 p0 p1 p2 p3 p4 p5 pl, cP1 cI p1 pl, cP2 cI p2 pl, cP3 cI p3 pl, cP4 cI p4 pl, cP5 cI p5 pl]) hP hD [11, 12, 13, 14, 15, 16] [0, 1, 2, 3, 4, 5, 6, 7, 8, 9, 10] rfl rfl (by decide) (by decide) hk1 hFc hP1 hD1
  generalize H1 = H at hP hS ⊢
  have hP : va_P (dC, dI) vwCl [cX0 h0 n0 k0 t0 p0 x, cL0 n0 n1 n2 n3 g, cL1 cJ n1 g, cL2 cI n2 g, cL3 cI n3 g, cL0 k0 k1 k2 k3 k, cL1 cJ k1 k, cL2 cI k2 k, cL3 cI k3 k, cT0 t0 t1 tp, cT1 cI t1 tp, cP0 p0 p1 p2 p3 p4 p5 pl, cP1 cI p1 pl, cP2 cI p2 pl, cP3 cI p3 pl, cP4 cI p4 pl, cP5 cI p5 pl] H := hP
  have hD : va_D A [cX0 h0 n0 k0 t0 p0 x, cL0 n0 n1 n2 n3 g, cL1 cJ n1 g, cL2 cI n2 g, cL3 cI n3 g, cL0 k0 k1 k2 k3 k, cL1 cJ k1 k, cL2 cI k2 k, cL3 cI k3 k, cT0 t0 t1 tp, cT1 cI t1 tp, cP0 p0 p1 p2 p3 p4 p5 pl, cP1 cI p1 pl, cP2 cI p2 pl, cP3 cI p3 pl, cP4 cI p4 pl, cP5 cI p5 pl] := hD
  subst hw
  have er : rX1_boughtAt i pl = rX3_buys i x g k tp pl := by rw [rX3_buys]
  refine W.iret (v := rX1_boughtAt i pl) hx hb hr (fun t ht hW => ⟨⟨rX1_boughtAt i pl, (), rfl, er, ?_⟩, hS.F ht⟩) hS.2.2 dX3_buys_8
  exact ⟨by rw [ht]; exact hP, va_K.moved hW.alike hK, hD⟩

def rX3_count (w : Int32) (x : XC) (g : LG) (k : LG) (tp : TP) (pl : PL) : Int32 :=
  if w = 0 then
    g.2.2.1
  else
    if w = 1 then
      g.2.2.2.1
    else
      if w = 2 then
        g.2.2.2.2.1
      else
        if w = 3 then
          g.2.2.2.2.2.1
        else
          if w = 4 then
            tp.2
          else
            (-1)
set_option maxHeartbeats 4000000 in
set_option maxRecDepth 100000 in
theorem kX3_count (l : Launch) (dC : Nat → ClassId) (dI : Nat → Nat → Nat) (cI cJ : ClassId) (h0 n0 k0 t0 p0 n1 n2 n3 k1 k2 k3 t1 p1 p2 p3 p4 p5 : Nat) (sz : Nat) (w : Int32) (x : XC) (g : LG) (k : LG) (tp : TP) (pl : PL) : Met l yX3_count wsX3_count ({ frames := 0, cells := 0, slots := 0, locals := 0 }) (va_Pc [.ref h0, .int w] (fun U => U.heap.size = sz ∧ va_P (dC, dI) vwCl [cX0 h0 n0 k0 t0 p0 x, cL0 n0 n1 n2 n3 g, cL1 cJ n1 g, cL2 cI n2 g, cL3 cI n3 g, cL0 k0 k1 k2 k3 k, cL1 cJ k1 k, cL2 cI k2 k, cL3 cI k3 k, cT0 t0 t1 tp, cT1 cI t1 tp, cP0 p0 p1 p2 p3 p4 p5 pl, cP1 cI p1 pl, cP2 cI p2 pl, cP3 cI p3 pl, cP4 cI p4 pl, cP5 cI p5 pl] U.heap ∧ va_K (dC, dI) vwCl [(cI, .int), (cJ, .long)] U ∧ va_D (fun _ => True) [cX0 h0 n0 k0 t0 p0 x, cL0 n0 n1 n2 n3 g, cL1 cJ n1 g, cL2 cI n2 g, cL3 cI n3 g, cL0 k0 k1 k2 k3 k, cL1 cJ k1 k, cL2 cI k2 k, cL3 cI k3 k, cT0 t0 t1 tp, cT1 cI t1 tp, cP0 p0 p1 p2 p3 p4 p5 pl, cP1 cI p1 pl, cP2 cI p2 pl, cP3 cI p3 pl, cP4 cI p4 pl, cP5 cI p5 pl] ∧ nw U)) (va_Qi (fun (r : Int32) (_ : Unit) => r = rX3_count w x g k tp pl) (fun _ t => va_P (dC, dI) vwCl [cX0 h0 n0 k0 t0 p0 x, cL0 n0 n1 n2 n3 g, cL1 cJ n1 g, cL2 cI n2 g, cL3 cI n3 g, cL0 k0 k1 k2 k3 k, cL1 cJ k1 k, cL2 cI k2 k, cL3 cI k3 k, cT0 t0 t1 tp, cT1 cI t1 tp, cP0 p0 p1 p2 p3 p4 p5 pl, cP1 cI p1 pl, cP2 cI p2 pl, cP3 cI p3 pl, cP4 cI p4 pl, cP5 cI p5 pl] t.heap ∧ va_K (dC, dI) vwCl [(cI, .int), (cJ, .long)] t ∧ va_D (va_A [cX0 h0 n0 k0 t0 p0 x, cL0 n0 n1 n2 n3 g, cL1 cJ n1 g, cL2 cI n2 g, cL3 cI n3 g, cL0 k0 k1 k2 k3 k, cL1 cJ k1 k, cL2 cI k2 k, cL3 cI k3 k, cT0 t0 t1 tp, cT1 cI t1 tp, cP0 p0 p1 p2 p3 p4 p5 pl, cP1 cI p1 pl, cP2 cI p2 pl, cP3 cI p3 pl, cP4 cI p4 pl, cP5 cI p5 pl] sz) [cX0 h0 n0 k0 t0 p0 x, cL0 n0 n1 n2 n3 g, cL1 cJ n1 g, cL2 cI n2 g, cL3 cI n3 g, cL0 k0 k1 k2 k3 k, cL1 cJ k1 k, cL2 cI k2 k, cL3 cI k3 k, cT0 t0 t1 tp, cT1 cI t1 tp, cP0 p0 p1 p2 p3 p4 p5 pl, cP1 cI p1 pl, cP2 cI p2 pl, cP3 cI p3 pl, cP4 cI p4 pl, cP5 cI p5 pl]) (va_A [cX0 h0 n0 k0 t0 p0 x, cL0 n0 n1 n2 n3 g, cL1 cJ n1 g, cL2 cI n2 g, cL3 cI n3 g, cL0 k0 k1 k2 k3 k, cL1 cJ k1 k, cL2 cI k2 k, cL3 cI k3 k, cT0 t0 t1 tp, cT1 cI t1 tp, cP0 p0 p1 p2 p3 p4 p5 pl, cP1 cI p1 pl, cP2 cI p2 pl, cP3 cI p3 pl, cP4 cI p4 pl, cP5 cI p5 pl] sz)) 0 0 (va_A [cX0 h0 n0 k0 t0 p0 x, cL0 n0 n1 n2 n3 g, cL1 cJ n1 g, cL2 cI n2 g, cL3 cI n3 g, cL0 k0 k1 k2 k3 k, cL1 cJ k1 k, cL2 cI k2 k, cL3 cI k3 k, cT0 t0 t1 tp, cT1 cI t1 tp, cP0 p0 p1 p2 p3 p4 p5 pl, cP1 cI p1 pl, cP2 cI p2 pl, cP3 cI p3 pl, cP4 cI p4 pl, cP5 cI p5 pl] sz) := by
  refine Met.ofW (cc := cX3_count) (maxL := 2) (ret := (some .int)) (by decide) rfl ?_
  intro p e s m args below meth c s₁ B hml hv
  obtain ⟨rfl, hsz, hP, hK, hD0, hN⟩ := hv
  have hx := B.exec
  have hb := B.bytes
  have hr := B.returns
  have hts := atoms_spec (ws := wsX3_count) B.pre
  have hown : s.vm.findClass RX3 = some m.cls := findClass_of_methodNamed B.named
  have hlocks := B.notSynchronized
  have hiX3 : ∀ w ∈ u_ws RX3 TX3 12, w ∈ wsX3_count := by decide +kernel
  have hiX0 : ∀ w ∈ u_ws RX0 TX0 15, w ∈ wsX3_count := by decide +kernel
  have hiX2 : ∀ w ∈ u_ws RX2 TX2 2, w ∈ wsX3_count := by decide +kernel
  subst hsz
  have hD := hD0.self (sz := s.heap.size)
  generalize hAe : va_A [cX0 h0 n0 k0 t0 p0 x, cL0 n0 n1 n2 n3 g, cL1 cJ n1 g, cL2 cI n2 g, cL3 cI n3 g, cL0 k0 k1 k2 k3 k, cL1 cJ k1 k, cL2 cI k2 k, cL3 cI k3 k, cT0 t0 t1 tp, cT1 cI t1 tp, cP0 p0 p1 p2 p3 p4 p5 pl, cP1 cI p1 pl, cP2 cI p2 pl, cP3 cI p3 pl, cP4 cI p4 pl, cP5 cI p5 pl] s.heap.size = A at hD ⊢
  have hA : ∀ q : Nat, s.heap.size ≤ q → A q := fun q h => by rw [← hAe]; exact Or.inr h
  have hS : va_S A s.heap s.heap [] := va_S.rf
  have hl := lv_entry ([.ref h0, .int w]) (n := 2) (Nat.le_of_ble_eq_true rfl)
  rw [lg_entry_eq]
  generalize (lg_sl ([.ref h0, .int w]) ++ List.replicate (2 - (lg_sl ([.ref h0, .int w])).length) Slot.unset).toArray = ls at hl ⊢
  have hl : lv_has ls 2 [(0, .ref h0), (1, .int w)] := hl
  have hP : va_P (dC, dI) vwCl [cX0 h0 n0 k0 t0 p0 x, cL0 n0 n1 n2 n3 g, cL1 cJ n1 g, cL2 cI n2 g, cL3 cI n3 g, cL0 k0 k1 k2 k3 k, cL1 cJ k1 k, cL2 cI k2 k, cL3 cI k3 k, cT0 t0 t1 tp, cT1 cI t1 tp, cP0 p0 p1 p2 p3 p4 p5 pl, cP1 cI p1 pl, cP2 cI p2 pl, cP3 cI p3 pl, cP4 cI p4 pl, cP5 cI p5 pl] s.heap := hP
  refine lv_iload_n hx hb dX3_count_0 rfl (lv_at hl 1 rfl) ?_
  by_cases c_1 : w = 0
  · refine lv_tableIn (off := 35) (tgt := 36) hx hb dX3_count_1 (by rw [c_1]; decide) (by rw [c_1]; decide) (by rw [c_1]; rfl) (by decide) ?_
    refine lv_aload_n hx hb dX3_count_36 rfl (lv_at hl 0 rfl) ?_
    refine va_get (D := (dC, dI)) (ci := 3) (v := .ref n0) (C := RX3) (T := TX3) (N := 12) hx hb hts hiX3 hown hK hP 0 rfl rfl 0 (by decide) (hts (.fieldLink RX3 10 "TripReckoner" "now" "LTripReckoner$Ledger;") (by decide +kernel)) (fun _ h9 => h9) rfl dX3_count_37 ?_
    refine va_getN (D := (dC, dI)) (ci := 0) (v := .int g.2.2.1) (C := RX0) (T := TX0) (N := 15) hx hb hts hiX0 hown hK hP 1 rfl rfl 2 (by decide) (nw_f hN (.fieldLinkNest RX3 194 "TripReckoner$Ledger" "refills" "I" "TripReckoner") (by decide +kernel) rfl) (fun _ h9 => h9) rfl dX3_count_40 ?_
    have er : g.2.2.1 = rX3_count w x g k tp pl := by rw [rX3_count, if_pos c_1]
    refine W.iret (v := g.2.2.1) hx hb hr (fun t ht hW => ⟨⟨g.2.2.1, (), rfl, er, ?_⟩, hS.F ht⟩) hS.2.2 dX3_count_43
    exact ⟨by rw [ht]; exact hP, va_K.moved hW.alike hK, hD⟩
  by_cases c_2 : w = 1
  · refine lv_tableIn (off := 43) (tgt := 44) hx hb dX3_count_1 (by rw [c_2]; decide) (by rw [c_2]; decide) (by rw [c_2]; rfl) (by decide) ?_
    refine lv_aload_n hx hb dX3_count_44 rfl (lv_at hl 0 rfl) ?_
    refine va_get (D := (dC, dI)) (ci := 3) (v := .ref n0) (C := RX3) (T := TX3) (N := 12) hx hb hts hiX3 hown hK hP 0 rfl rfl 0 (by decide) (hts (.fieldLink RX3 10 "TripReckoner" "now" "LTripReckoner$Ledger;") (by decide +kernel)) (fun _ h9 => h9) rfl dX3_count_45 ?_
    refine va_getN (D := (dC, dI)) (ci := 0) (v := .int g.2.2.2.1) (C := RX0) (T := TX0) (N := 15) hx hb hts hiX0 hown hK hP 1 rfl rfl 3 (by decide) (nw_f hN (.fieldLinkNest RX3 197 "TripReckoner$Ledger" "losses" "I" "TripReckoner") (by decide +kernel) rfl) (fun _ h9 => h9) rfl dX3_count_48 ?_
    have er : g.2.2.2.1 = rX3_count w x g k tp pl := by rw [rX3_count, if_neg c_1, if_pos c_2]
    refine W.iret (v := g.2.2.2.1) hx hb hr (fun t ht hW => ⟨⟨g.2.2.2.1, (), rfl, er, ?_⟩, hS.F ht⟩) hS.2.2 dX3_count_51
    exact ⟨by rw [ht]; exact hP, va_K.moved hW.alike hK, hD⟩
  by_cases c_3 : w = 2
  · refine lv_tableIn (off := 51) (tgt := 52) hx hb dX3_count_1 (by rw [c_3]; decide) (by rw [c_3]; decide) (by rw [c_3]; rfl) (by decide) ?_
    refine lv_aload_n hx hb dX3_count_52 rfl (lv_at hl 0 rfl) ?_
    refine va_get (D := (dC, dI)) (ci := 3) (v := .ref n0) (C := RX3) (T := TX3) (N := 12) hx hb hts hiX3 hown hK hP 0 rfl rfl 0 (by decide) (hts (.fieldLink RX3 10 "TripReckoner" "now" "LTripReckoner$Ledger;") (by decide +kernel)) (fun _ h9 => h9) rfl dX3_count_53 ?_
    refine va_getN (D := (dC, dI)) (ci := 0) (v := .int g.2.2.2.2.1) (C := RX0) (T := TX0) (N := 15) hx hb hts hiX0 hown hK hP 1 rfl rfl 4 (by decide) (nw_f hN (.fieldLinkNest RX3 200 "TripReckoner$Ledger" "lies" "I" "TripReckoner") (by decide +kernel) rfl) (fun _ h9 => h9) rfl dX3_count_56 ?_
    have er : g.2.2.2.2.1 = rX3_count w x g k tp pl := by rw [rX3_count, if_neg c_1, if_neg c_2, if_pos c_3]
    refine W.iret (v := g.2.2.2.2.1) hx hb hr (fun t ht hW => ⟨⟨g.2.2.2.2.1, (), rfl, er, ?_⟩, hS.F ht⟩) hS.2.2 dX3_count_59
    exact ⟨by rw [ht]; exact hP, va_K.moved hW.alike hK, hD⟩
  by_cases c_4 : w = 3
  · refine lv_tableIn (off := 59) (tgt := 60) hx hb dX3_count_1 (by rw [c_4]; decide) (by rw [c_4]; decide) (by rw [c_4]; rfl) (by decide) ?_
    refine lv_aload_n hx hb dX3_count_60 rfl (lv_at hl 0 rfl) ?_
    refine va_get (D := (dC, dI)) (ci := 3) (v := .ref n0) (C := RX3) (T := TX3) (N := 12) hx hb hts hiX3 hown hK hP 0 rfl rfl 0 (by decide) (hts (.fieldLink RX3 10 "TripReckoner" "now" "LTripReckoner$Ledger;") (by decide +kernel)) (fun _ h9 => h9) rfl dX3_count_61 ?_
    refine va_getN (D := (dC, dI)) (ci := 0) (v := .int g.2.2.2.2.2.1) (C := RX0) (T := TX0) (N := 15) hx hb hts hiX0 hown hK hP 1 rfl rfl 5 (by decide) (nw_f hN (.fieldLinkNest RX3 203 "TripReckoner$Ledger" "jumps" "I" "TripReckoner") (by decide +kernel) rfl) (fun _ h9 => h9) rfl dX3_count_64 ?_
    have er : g.2.2.2.2.2.1 = rX3_count w x g k tp pl := by rw [rX3_count, if_neg c_1, if_neg c_2, if_neg c_3, if_pos c_4]
    refine W.iret (v := g.2.2.2.2.2.1) hx hb hr (fun t ht hW => ⟨⟨g.2.2.2.2.2.1, (), rfl, er, ?_⟩, hS.F ht⟩) hS.2.2 dX3_count_67
    exact ⟨by rw [ht]; exact hP, va_K.moved hW.alike hK, hD⟩
  by_cases c_5 : w = 4
  · refine lv_tableIn (off := 67) (tgt := 68) hx hb dX3_count_1 (by rw [c_5]; decide) (by rw [c_5]; decide) (by rw [c_5]; rfl) (by decide) ?_
    refine lv_aload_n hx hb dX3_count_68 rfl (lv_at hl 0 rfl) ?_
    refine va_get (D := (dC, dI)) (ci := 3) (v := .ref t0) (C := RX3) (T := TX3) (N := 12) hx hb hts hiX3 hown hK hP 0 rfl rfl 2 (by decide) (hts (.fieldLink RX3 22 "TripReckoner" "tape" "LTripReckoner$Tape;") (by decide +kernel)) (fun _ h9 => h9) rfl dX3_count_69 ?_
    refine va_getN (D := (dC, dI)) (ci := 2) (v := .int tp.2) (C := RX2) (T := TX2) (N := 2) hx hb hts hiX2 hown hK hP 9 rfl rfl 1 (by decide) (nw_f hN (.fieldLinkNest RX3 71 "TripReckoner$Tape" "size" "I" "TripReckoner") (by decide +kernel) rfl) (fun _ h9 => h9) rfl dX3_count_72 ?_
    have er : tp.2 = rX3_count w x g k tp pl := by rw [rX3_count, if_neg c_1, if_neg c_2, if_neg c_3, if_neg c_4, if_pos c_5]
    refine W.iret (v := tp.2) hx hb hr (fun t ht hW => ⟨⟨tp.2, (), rfl, er, ?_⟩, hS.F ht⟩) hS.2.2 dX3_count_75
    exact ⟨by rw [ht]; exact hP, va_K.moved hW.alike hK, hD⟩
  refine lv_tableOut (tgt := 76) hx hb dX3_count_1 (sw_out4 _ c_1 c_2 c_3 c_4 c_5) (by decide) ?_
  refine lv_iconst (v := (-1)) hx hb dX3_count_76 (by decide) ?_
  have er : (-1) = rX3_count w x g k tp pl := by rw [rX3_count, if_neg c_1, if_neg c_2, if_neg c_3, if_neg c_4, if_neg c_5]
  refine W.iret (v := (-1)) hx hb hr (fun t ht hW => ⟨⟨(-1), (), rfl, er, ?_⟩, hS.F ht⟩) hS.2.2 dX3_count_77
  exact ⟨by rw [ht]; exact hP, va_K.moved hW.alike hK, hD⟩
