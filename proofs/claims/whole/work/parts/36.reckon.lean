def sX1_reckon_g_9 (a : Nat) (b : Nat) (pl : PL) (g_6 : PL) (g_9 : PL) : PL :=
  g_9
def sX1_reckon_g_6 (a : Nat) (b : Nat) (pl : PL) (g_6 : PL) : PL :=
  if (g_6.2.2.1 (((nI a) - (pl.1 0)).toNatClampNeg)) < 1000000000 then
    sX1_reckon_g_9 a b pl g_6 (sX1_buyForwards ((nI a) - (pl.1 0)) g_6)
  else
    g_6
def sX1_reckon (a : Nat) (b : Nat) (pl : PL) : PL :=
  if 0 ≤ ((nI a) - (pl.1 0)) then
    sX1_reckon_g_6 a b pl (sX1_reckonBackwards b pl)
  else
    pl
def rX1_reckon_g_9 (a : Nat) (b : Nat) (pl : PL) (g_6 : PL) (g_9 : PL) : Int32 :=
  g_6.2.2.1 (((nI a) - (pl.1 0)).toNatClampNeg)
def rX1_reckon_g_6 (a : Nat) (b : Nat) (pl : PL) (g_6 : PL) : Int32 :=
  if (g_6.2.2.1 (((nI a) - (pl.1 0)).toNatClampNeg)) < 1000000000 then
    rX1_reckon_g_9 a b pl g_6 (sX1_buyForwards ((nI a) - (pl.1 0)) g_6)
  else
    (-1)
def rX1_reckon (a : Nat) (b : Nat) (pl : PL) : Int32 :=
  if 0 ≤ ((nI a) - (pl.1 0)) then
    rX1_reckon_g_6 a b pl (sX1_reckonBackwards b pl)
  else
    (-1)
set_option maxHeartbeats 4000000 in
set_option maxRecDepth 100000 in
theorem kX1_reckon (l : Launch) (dC : Nat → ClassId) (dI : Nat → Nat → Nat) (cI cJ : ClassId) (p0 p1 p2 p3 p4 p5 : Nat) (sz : Nat) (a : Nat) (b : Nat) (pl : PL) (ha9 : a ≤ b) (hb9 : b ≤ 120) (hs0 : 0 ≤ pl.2.2.2.2.2.1) (hs12 : pl.2.2.2.2.2.1.toNatClampNeg ≤ 12) (hz : ∀ j, j ≤ pl.2.2.2.2.2.1.toNatClampNeg → 0 ≤ pl.1 j) (hf : ∀ u : PL, u = sX1_reckonBackwards b pl → 0 ≤ u.2.2.2.2.2.1 ∧ u.2.2.2.2.2.1.toNatClampNeg ≤ 12 ∧ (0 ≤ ((nI a) - (pl.1 0)) → u.2.2.1 (((nI a) - (pl.1 0)).toNatClampNeg) < 1000000000 → ∀ i, i < u.2.2.2.2.2.1.toNatClampNeg → vp_in (bf_l u ((nI a) - (pl.1 0)) i) 121)) : Met l yX1_reckon wsX1_reckon ({ frames := 2, cells := 0, slots := 0, locals := 51 }) (va_Pc [.ref p0, .int (nI a), .int (nI b)] (fun U => U.heap.size = sz ∧ va_P (dC, dI) vwCl [cP0 p0 p1 p2 p3 p4 p5 pl, cP1 cI p1 pl, cP2 cI p2 pl, cP3 cI p3 pl, cP4 cI p4 pl, cP5 cI p5 pl] U.heap ∧ va_K (dC, dI) vwCl [(cI, .int), (cJ, .long)] U ∧ va_D (fun _ => True) [cP0 p0 p1 p2 p3 p4 p5 pl, cP1 cI p1 pl, cP2 cI p2 pl, cP3 cI p3 pl, cP4 cI p4 pl, cP5 cI p5 pl] ∧ nw U)) (va_Qi (fun (r : Int32) (_ : Unit) => r = rX1_reckon a b pl) (fun _ t => va_P (dC, dI) vwCl [cP0 p0 p1 p2 p3 p4 p5 (sX1_reckon a b pl), cP1 cI p1 (sX1_reckon a b pl), cP2 cI p2 (sX1_reckon a b pl), cP3 cI p3 (sX1_reckon a b pl), cP4 cI p4 (sX1_reckon a b pl), cP5 cI p5 (sX1_reckon a b pl)] t.heap ∧ va_K (dC, dI) vwCl [(cI, .int), (cJ, .long)] t ∧ va_D (va_A [cP0 p0 p1 p2 p3 p4 p5 pl, cP1 cI p1 pl, cP2 cI p2 pl, cP3 cI p3 pl, cP4 cI p4 pl, cP5 cI p5 pl] sz) [cP0 p0 p1 p2 p3 p4 p5 (sX1_reckon a b pl), cP1 cI p1 (sX1_reckon a b pl), cP2 cI p2 (sX1_reckon a b pl), cP3 cI p3 (sX1_reckon a b pl), cP4 cI p4 (sX1_reckon a b pl), cP5 cI p5 (sX1_reckon a b pl)]) (va_A [cP0 p0 p1 p2 p3 p4 p5 pl, cP1 cI p1 pl, cP2 cI p2 pl, cP3 cI p3 pl, cP4 cI p4 pl, cP5 cI p5 pl] sz)) 0 0 (va_A [cP0 p0 p1 p2 p3 p4 p5 pl, cP1 cI p1 pl, cP2 cI p2 pl, cP3 cI p3 pl, cP4 cI p4 pl, cP5 cI p5 pl] sz) := by
  refine Met.ofW (cc := cX1_reckon) (maxL := 6) (ret := (some .int)) (by decide) rfl ?_
  intro p e s m args below meth c s₁ B hml hv
  obtain ⟨rfl, hsz, hP, hK, hD0, hN⟩ := hv
  have hx := B.exec
  have hb := B.bytes
  have hr := B.returns
  have hts := atoms_spec (ws := wsX1_reckon) B.pre
  have hown : s.vm.findClass RX1 = some m.cls := findClass_of_methodNamed B.named
  have hlocks := B.notSynchronized
  have hiX1 : ∀ w ∈ u_ws RX1 TX1 7, w ∈ wsX1_reckon := by decide +kernel
  subst hsz
  have hD := hD0.self (sz := s.heap.size)
  generalize hAe : va_A [cP0 p0 p1 p2 p3 p4 p5 pl, cP1 cI p1 pl, cP2 cI p2 pl, cP3 cI p3 pl, cP4 cI p4 pl, cP5 cI p5 pl] s.heap.size = A at hD ⊢
  have hA : ∀ q : Nat, s.heap.size ≤ q → A q := fun q h => by rw [← hAe]; exact Or.inr h
  have hS : va_S A s.heap s.heap [] := va_S.rf
  have hl := lv_entry ([.ref p0, .int (nI a), .int (nI b)]) (n := 6) (Nat.le_of_ble_eq_true rfl)
  rw [lg_entry_eq]
  generalize (lg_sl ([.ref p0, .int (nI a), .int (nI b)]) ++ List.replicate (6 - (lg_sl ([.ref p0, .int (nI a), .int (nI b)])).length) Slot.unset).toArray = ls at hl ⊢
  have hl : lv_has ls 6 [(0, .ref p0), (1, .int (nI a)), (2, .int (nI b))] := hl
  have hP : va_P (dC, dI) vwCl [cP0 p0 p1 p2 p3 p4 p5 pl, cP1 cI p1 pl, cP2 cI p2 pl, cP3 cI p3 pl, cP4 cI p4 pl, cP5 cI p5 pl] s.heap := hP
  refine lv_iload_n hx hb dX1_reckon_0 rfl (lv_at hl 2 rfl) ?_
  refine lv_bipush (v := 120) hx hb dX1_reckon_1 (by decide) ?_
  refine va_mmin hx hb (by rw [hml]; exact hl.1.symm) hown (hts (.methodLink RX1 42 Lib.Math.min.name) (by decide +kernel)) (hts (.static Lib.Math.min.name) (by decide +kernel)) (hts (.initialized "java/lang/Math") (by decide +kernel)) (hts (.code Lib.Math.min.name Lib.Math.min.code 2 (some .int)) (by decide +kernel)) (Nat.le_of_ble_eq_true rfl) (Nat.le_of_ble_eq_true rfl) (Nat.zero_le _) (Nat.zero_le _) dX1_reckon_3 ?_
  refine lv_topi (fun z_1 ez_1 => ?_)
  obtain rfl : z_1 = nI b := ez_1.trans (mn120 hb9)
  refine lv_istore_n (lv' := [(3, .int (nI b)), (0, .ref p0), (1, .int (nI a)), (2, .int (nI b))]) hx hb dX1_reckon_6 rfl hl (by decide) rfl (fun ls hl => ?_)
  refine lv_iload_n hx hb dX1_reckon_7 rfl (lv_at hl 2 rfl) ?_
  refine lv_iload_n hx hb dX1_reckon_8 rfl (lv_at hl 0 rfl) ?_
  refine va_mmin hx hb (by rw [hml]; exact hl.1.symm) hown (hts (.methodLink RX1 42 Lib.Math.min.name) (by decide +kernel)) (hts (.static Lib.Math.min.name) (by decide +kernel)) (hts (.initialized "java/lang/Math") (by decide +kernel)) (hts (.code Lib.Math.min.name Lib.Math.min.code 2 (some .int)) (by decide +kernel)) (Nat.le_of_ble_eq_true rfl) (Nat.le_of_ble_eq_true rfl) (Nat.zero_le _) (Nat.zero_le _) dX1_reckon_9 ?_
  refine lv_topi (fun z_2 ez_2 => ?_)
  obtain rfl : z_2 = nI a := ez_2.trans (mnab ha9 hb9)
  refine lv_aload_n hx hb dX1_reckon_12 rfl (lv_at hl 1 rfl) ?_
  refine va_get (D := (dC, dI)) (ci := 1) (v := .ref p1) (C := RX1) (T := TX1) (N := 7) hx hb hts hiX1 hown hK hP 0 rfl rfl 0 (by decide) (hts (.fieldLink RX1 11 "TripReckoner$Planner" "legs" "[I") (by decide +kernel)) (fun _ h9 => h9) rfl dX1_reckon_13 ?_
  refine lv_iconst (v := 0) hx hb dX1_reckon_16 (by decide) ?_
  refine va_iald hx hb hK hP 1 0 rfl rfl (vd (by decide +kernel)) dX1_reckon_17 ?_
  refine lv_topi (fun z_3 ez_3 => ?_)
  have ez_3 : z_3 = pl.1 0 := ez_3
  subst ez_3
  refine lv_isub hx hb dX1_reckon_18 ?_
  refine lv_istore (lv' := [(4, .int ((nI a) - (pl.1 0))), (3, .int (nI b)), (0, .ref p0), (1, .int (nI a)), (2, .int (nI b))]) hx hb dX1_reckon_19 hl (by decide) rfl (fun ls hl => ?_)
  refine lv_iload hx hb dX1_reckon_21 (lv_at hl 0 rfl) ?_
  refine lv_if_ge (tgt := 28) hx hb dX1_reckon_23 (by decide) (fun c_4 => ?_) (fun c_4 => ?_)
  · refine lv_aload_n hx hb dX1_reckon_28 rfl (lv_at hl 2 rfl) ?_
    refine lv_iload_n hx hb dX1_reckon_29 rfl (lv_at hl 1 rfl) ?_
    have hPc := hP.sub (ws' := [cP0 p0 p1 p2 p3 p4 p5 pl, cP1 cI p1 pl, cP2 cI p2 pl, cP3 cI p3 pl, cP4 cI p4 pl, cP5 cI p5 pl]) [0, 1, 2, 3, 4, 5] rfl
    have hDc := hD.sub (ws' := [cP0 p0 p1 p2 p3 p4 p5 pl, cP1 cI p1 pl, cP2 cI p2 pl, cP3 cI p3 pl, cP4 cI p4 pl, cP5 cI p5 pl]) [0, 1, 2, 3, 4, 5] (by decide) rfl
    have hFc := va_free (wc := [cP0 p0 p1 p2 p3 p4 p5 pl, cP1 cI p1 pl, cP2 cI p2 pl, cP3 cI p3 pl, cP4 cI p4 pl, cP5 cI p5 pl]) hD hS hA [0, 1, 2, 3, 4, 5] rfl
    refine va_callv (va_runV (As := [.int (nI b)]) (rest := []) ⟨hx, hb, hml, hown, hts⟩ (kX1_reckonBackwards l dC dI cI cJ p0 p1 p2 p3 p4 p5 s.heap.size b pl hb9 hs0 hs12 hz) (cwV 1 hts gX1_reckon_X1_reckonBackwards rfl rfl rfl (by decide +kernel) ⟨Nat.le_of_ble_eq_true rfl, Nat.le_of_ble_eq_true rfl⟩) ⟨fun a U g mk q => by obtain ⟨q0, q1, qP, qK, qD⟩ := q; exact ⟨q0, q1, qP, va_K.moved (u := U) (U := U.calling g mk a) (Vm.Alike.refl U.vm) qK, qD⟩, va_recv hK hPc (ci := 1) (q0 := 0) rfl rfl, fun U hU hW => ⟨rfl, by rw [hU], by rw [hU]; exact hPc, va_K.moved hW.alike hK, hDc.weaken (fun _ _ _ _ => trivial)⟩⟩ rfl rfl hl.1 rfl (lv_room (Nat.le_of_ble_eq_true rfl)) dX1_reckon_30 ⟨Nat.le_of_ble_eq_true rfl, Nat.le_of_ble_eq_true rfl⟩) hS (fun q _ h => hFc q h) hFc (fun _ t H1 locs ht hvm hw hB hz1 hk1 hS => ?_)
    obtain ⟨hP1, hK1, hD1⟩ := hB
    rw [ht] at hP1
    obtain ⟨g_6, eg_6⟩ : ∃ z, z = sX1_reckonBackwards b pl := ⟨_, rfl⟩
    rw [← eg_6] at hP1 hD1
    obtain ⟨hP, hD⟩ := va_join (wr := []) (w1 := [cP0 p0 p1 p2 p3 p4 p5 g_6, cP1 cI p1 g_6, cP2 cI p2 g_6, cP3 cI p3 g_6, cP4 cI p4 g_6, cP5 cI p5 g_6]) hP hD [0, 1, 2, 3, 4, 5] [] rfl rfl (by decide) (by decide) hk1 hFc hP1 hD1
    generalize H1 = H at hP hS ⊢
    have hP : va_P (dC, dI) vwCl [cP0 p0 p1 p2 p3 p4 p5 g_6, cP1 cI p1 g_6, cP2 cI p2 g_6, cP3 cI p3 g_6, cP4 cI p4 g_6, cP5 cI p5 g_6] H := hP
    have hD : va_D A [cP0 p0 p1 p2 p3 p4 p5 g_6, cP1 cI p1 g_6, cP2 cI p2 g_6, cP3 cI p3 g_6, cP4 cI p4 g_6, cP5 cI p5 g_6] := hD
    refine lv_aload_n hx hb dX1_reckon_33 rfl (lv_at hl 2 rfl) ?_
    refine va_get (D := (dC, dI)) (ci := 1) (v := .ref p3) (C := RX1) (T := TX1) (N := 7) hx hb hts hiX1 hown hK hP 0 rfl rfl 2 (by decide) (hts (.fieldLink RX1 18 "TripReckoner$Planner" "toGo" "[I") (by decide +kernel)) (fun _ h9 => h9) rfl dX1_reckon_34 ?_
    refine lv_iload hx hb dX1_reckon_37 (lv_at hl 0 rfl) ?_
    refine va_iald hx hb hK hP 3 0 rfl rfl (dif_in0 (hz 0 (Nat.zero_le _)) c_4 (by omega) (by decide)) dX1_reckon_39 ?_
    refine lv_istore (lv' := [(5, .int (g_6.2.2.1 (((nI a) - (pl.1 0)).toNatClampNeg))), (4, .int ((nI a) - (pl.1 0))), (3, .int (nI b)), (0, .ref p0), (1, .int (nI a)), (2, .int (nI b))]) hx hb dX1_reckon_40 hl (by decide) rfl (fun ls hl => ?_)
    refine lv_iload hx hb dX1_reckon_42 (lv_at hl 0 rfl) ?_
    refine lv_ldc hx hb hown (hts (.constant RX1 52 (1000000000)) (by decide +kernel)) dX1_reckon_44 ?_
    refine lv_icmp_lt (tgt := 51) hx hb dX1_reckon_46 (by decide) (fun c_7 => ?_) (fun c_7 => ?_)
    · refine lv_aload_n hx hb dX1_reckon_51 rfl (lv_at hl 3 rfl) ?_
      refine lv_iload hx hb dX1_reckon_52 (lv_at hl 1 rfl) ?_
      have hPc := hP.sub (ws' := [cP0 p0 p1 p2 p3 p4 p5 g_6, cP1 cI p1 g_6, cP2 cI p2 g_6, cP3 cI p3 g_6, cP4 cI p4 g_6, cP5 cI p5 g_6]) [0, 1, 2, 3, 4, 5] rfl
      have hDc := hD.sub (ws' := [cP0 p0 p1 p2 p3 p4 p5 g_6, cP1 cI p1 g_6, cP2 cI p2 g_6, cP3 cI p3 g_6, cP4 cI p4 g_6, cP5 cI p5 g_6]) [0, 1, 2, 3, 4, 5] (by decide) rfl
      have hFc := va_free (wc := [cP0 p0 p1 p2 p3 p4 p5 g_6, cP1 cI p1 g_6, cP2 cI p2 g_6, cP3 cI p3 g_6, cP4 cI p4 g_6, cP5 cI p5 g_6]) hD hS hA [0, 1, 2, 3, 4, 5] rfl
      refine va_callv (va_runV (As := [.int ((nI a) - (pl.1 0))]) (rest := []) ⟨hx, hb, hml, hown, hts⟩ (kX1_buyForwards l dC dI cI cJ p0 p1 p2 p3 p4 p5 H.size ((nI a) - (pl.1 0)) g_6 (hf _ eg_6).1 (hf _ eg_6).2.1 ((hf _ eg_6).2.2 c_4 c_7)) (cwV 1 hts gX1_reckon_X1_buyForwards rfl rfl rfl (by decide +kernel) ⟨Nat.le_of_ble_eq_true rfl, Nat.le_of_ble_eq_true rfl⟩) ⟨fun a U g mk q => by obtain ⟨q0, q1, qP, qK, qD, qN⟩ := q; exact ⟨q0, q1, qP, va_K.moved (u := U) (U := U.calling g mk a) (Vm.Alike.refl U.vm) qK, qD, nw_same (s := U) (U := U.calling g mk a) rfl qN⟩, va_recv hK hPc (ci := 1) (q0 := 0) rfl rfl, fun U hU hW => ⟨rfl, by rw [hU], by rw [hU]; exact hPc, va_K.moved hW.alike hK, hDc.weaken (fun _ _ _ _ => trivial), nw_warm hW hN⟩⟩ rfl rfl hl.1 rfl (lv_room (Nat.le_of_ble_eq_true rfl)) dX1_reckon_54 ⟨Nat.le_of_ble_eq_true rfl, Nat.le_of_ble_eq_true rfl⟩) hS (fun q _ h => hFc q h) hFc (fun _ t H1 locs ht hvm hw hB hz1 hk1 hS => ?_)
      obtain ⟨hP1, hK1, hD1⟩ := hB
      rw [ht] at hP1
      obtain ⟨g_9, eg_9⟩ : ∃ z, z = sX1_buyForwards ((nI a) - (pl.1 0)) g_6 := ⟨_, rfl⟩
      rw [← eg_9] at hP1 hD1
      obtain ⟨hP, hD⟩ := va_join (wr := []) (w1 := [cP0 p0 p1 p2 p3 p4 p5 g_9, cP1 cI p1 g_9, cP2 cI p2 g_9, cP3 cI p3 g_9, cP4 cI p4 g_9, cP5 cI p5 g_9]) hP hD [0, 1, 2, 3, 4, 5] [] rfl rfl (by decide) (by decide) hk1 hFc hP1 hD1
      generalize H1 = H at hP hS ⊢
      have hP : va_P (dC, dI) vwCl [cP0 p0 p1 p2 p3 p4 p5 g_9, cP1 cI p1 g_9, cP2 cI p2 g_9, cP3 cI p3 g_9, cP4 cI p4 g_9, cP5 cI p5 g_9] H := hP
      have hD : va_D A [cP0 p0 p1 p2 p3 p4 p5 g_9, cP1 cI p1 g_9, cP2 cI p2 g_9, cP3 cI p3 g_9, cP4 cI p4 g_9, cP5 cI p5 g_9] := hD
      refine lv_iload hx hb dX1_reckon_57 (lv_at hl 0 rfl) ?_
      have es0 : sX1_reckon a b pl = g_9 := by rw [sX1_reckon, if_pos c_4, ← eg_6, sX1_reckon_g_6, if_pos c_7, ← eg_9, sX1_reckon_g_9]
      have er : g_6.2.2.1 (((nI a) - (pl.1 0)).toNatClampNeg) = rX1_reckon a b pl := by rw [rX1_reckon, if_pos c_4, ← eg_6, rX1_reckon_g_6, if_pos c_7, ← eg_9, rX1_reckon_g_9]
      refine W.iret (v := g_6.2.2.1 (((nI a) - (pl.1 0)).toNatClampNeg)) hx hb hr (fun t ht hW => ⟨⟨g_6.2.2.1 (((nI a) - (pl.1 0)).toNatClampNeg), (), rfl, er, ?_⟩, hS.F ht⟩) hS.2.2 dX1_reckon_59
      rw [es0]; exact ⟨by rw [ht]; exact hP, va_K.moved hW.alike hK, hD⟩
    · refine lv_iconst (v := (-1)) hx hb dX1_reckon_49 (by decide) ?_
      have es0 : sX1_reckon a b pl = g_6 := by rw [sX1_reckon, if_pos c_4, ← eg_6, sX1_reckon_g_6, if_neg c_7]
      have er : (-1) = rX1_reckon a b pl := by rw [rX1_reckon, if_pos c_4, ← eg_6, rX1_reckon_g_6, if_neg c_7]
      refine W.iret (v := (-1)) hx hb hr (fun t ht hW => ⟨⟨(-1), (), rfl, er, ?_⟩, hS.F ht⟩) hS.2.2 dX1_reckon_50
      rw [es0]; exact ⟨by rw [ht]; exact hP, va_K.moved hW.alike hK, hD⟩
  · refine lv_iconst (v := (-1)) hx hb dX1_reckon_26 (by decide) ?_
    have es0 : sX1_reckon a b pl = pl := by rw [sX1_reckon, if_neg c_4]
    have er : (-1) = rX1_reckon a b pl := by rw [rX1_reckon, if_neg c_4]
    refine W.iret (v := (-1)) hx hb hr (fun t ht hW => ⟨⟨(-1), (), rfl, er, ?_⟩, hS.F ht⟩) hS.2.2 dX1_reckon_27
    rw [es0]; exact ⟨by rw [ht]; exact hP, va_K.moved hW.alike hK, hD⟩
