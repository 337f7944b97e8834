def wsY_X3_average : List Cond := .code yX3_average cX3_average 10 (some .long) :: ((wsX3_average_r1 ++ wsX3_average_r2) ++ wsX30 ++ wsX00 ++ xgL)
set_option maxRecDepth 20000 in
theorem qX3_average_X3_isMark_131 : GoodIn wsY_X3_average (va_wsS RX3 131 yX3_isMark wsX3_isMark) := goodIn_of _ (by decide +kernel)
set_option maxRecDepth 20000 in
theorem qX3_average_X3_within_79 : GoodIn wsY_X3_average (va_wsS RX3 79 yX3_within wsX3_within) := goodIn_of _ (by decide +kernel)
set_option maxRecDepth 20000 in
theorem qX3_average_X3_wayInHundredths_154 : GoodIn wsY_X3_average (wsV RX3 154 RX3 yX3_wayInHundredths wsX3_wayInHundredths) := goodIn_of _ (by decide +kernel)
set_option maxRecDepth 20000 in
theorem qX3_average_X0_marked_148 : GoodIn wsY_X3_average (wsX0_marked) := goodIn_of _ (by decide +kernel)
set_option maxRecDepth 20000 in
theorem qX3_average_X3_commonDivisor_164 : GoodIn wsY_X3_average (va_wsS RX3 164 yX3_commonDivisor wsX3_commonDivisor) := goodIn_of _ (by decide +kernel)
def rX3_average (i : Int32) (z : Int32) (wh : Int32) (x : XC) (g : LG) (k : LG) (tp : TP) (pl : PL) : Int64 :=
  if (rX3_isMark i) = 0 then
    0
  else
    if (rX3_within wh 0 1) = 0 then
      0
    else
      if z = 0 then
        if 0 ≤ (lg_cmp (rX3_wayInHundredths i 1 x g k tp pl) 1) then
          if wh = 0 then
            ((rX0_marked i 2 g) * 100000) / (rX3_commonDivisor (rX3_wayInHundredths i 1 x g k tp pl) ((rX0_marked i 2 g) * 100000))
          else
            (rX3_wayInHundredths i 1 x g k tp pl) / (rX3_commonDivisor (rX3_wayInHundredths i 1 x g k tp pl) ((rX0_marked i 2 g) * 100000))
        else
          0
      else
        if 0 ≤ (lg_cmp (rX3_wayInHundredths i 0 x g k tp pl) 1) then
          if wh = 0 then
            ((rX0_marked i 3 g) * 100000) / (rX3_commonDivisor (rX3_wayInHundredths i 0 x g k tp pl) ((rX0_marked i 3 g) * 100000))
          else
            (rX3_wayInHundredths i 0 x g k tp pl) / (rX3_commonDivisor (rX3_wayInHundredths i 0 x g k tp pl) ((rX0_marked i 3 g) * 100000))
        else
          0
def tX3_average (i : Int32) (z : Int32) (wh : Int32) (x : XC) (g : LG) (k : LG) (tp : TP) (pl : PL) : Int32 :=
  if (rX3_isMark i) = 0 then
    1
  else
    if (rX3_within wh 0 1) = 0 then
      1
    else
      if z = 0 then
        if 0 ≤ (lg_cmp (rX3_wayInHundredths i 1 x g k tp pl) 1) then
          if wh = 0 then
            0
          else
            0
        else
          1
      else
        if 0 ≤ (lg_cmp (rX3_wayInHundredths i 0 x g k tp pl) 1) then
          if wh = 0 then
            0
          else
            0
        else
          1
set_option maxHeartbeats 4000000 in
set_option maxRecDepth 100000 in
theorem kX3_average (l : Launch) (hl9 : l.stackTraces = false) (dC : Nat → ClassId) (dI : Nat → Nat → Nat) (cI cJ : ClassId) (h0 n0 k0 t0 p0 n1 n2 n3 k1 k2 k3 t1 p1 p2 p3 p4 p5 : Nat) (sz : Nat) (i : Int32) (z : Int32) (wh : Int32) (x : XC) (g : LG) (k : LG) (tp : TP) (pl : PL) (hm : vp_in i 4 → (∀ z : Int32, 0 ≤ rX3_wayInHundredths i z x g k tp pl) ∧ (∀ w : Int32, vp_in w 5 → 0 ≤ rX0_marked i w g * 100000) ∧ (∀ z w : Int32, vp_in w 5 → lT (rX3_wayInHundredths i z x g k tp pl) * lT (rX0_marked i w g * 100000) < 2 ^ 90)) : vx_Met l yX3_average wsY_X3_average ({ frames := 6, cells := 1, slots := 6, locals := 90 }) (va_Pc [.ref h0, .int i, .int z, .int wh] (fun U => U.heap.size = sz ∧ va_P (dC, dI) vwCl [cX0 h0 n0 k0 t0 p0 x, cL0 n0 n1 n2 n3 g, cL1 cJ n1 g, cL2 cI n2 g, cL3 cI n3 g, cL0 k0 k1 k2 k3 k, cL1 cJ k1 k, cL2 cI k2 k, cL3 cI k3 k, cT0 t0 t1 tp, cT1 cI t1 tp, cP0 p0 p1 p2 p3 p4 p5 pl, cP1 cI p1 pl, cP2 cI p2 pl, cP3 cI p3 pl, cP4 cI p4 pl, cP5 cI p5 pl] U.heap ∧ va_K (dC, dI) vwCl [(cI, .int), (cJ, .long)] U ∧ va_D (fun _ => True) [cX0 h0 n0 k0 t0 p0 x, cL0 n0 n1 n2 n3 g, cL1 cJ n1 g, cL2 cI n2 g, cL3 cI n3 g, cL0 k0 k1 k2 k3 k, cL1 cJ k1 k, cL2 cI k2 k, cL3 cI k3 k, cT0 t0 t1 tp, cT1 cI t1 tp, cP0 p0 p1 p2 p3 p4 p5 pl, cP1 cI p1 pl, cP2 cI p2 pl, cP3 cI p3 pl, cP4 cI p4 pl, cP5 cI p5 pl] ∧ nw U ∧ xq (va_A [cX0 h0 n0 k0 t0 p0 x, cL0 n0 n1 n2 n3 g, cL1 cJ n1 g, cL2 cI n2 g, cL3 cI n3 g, cL0 k0 k1 k2 k3 k, cL1 cJ k1 k, cL2 cI k2 k, cL3 cI k3 k, cT0 t0 t1 tp, cT1 cI t1 tp, cP0 p0 p1 p2 p3 p4 p5 pl, cP1 cI p1 pl, cP2 cI p2 pl, cP3 cI p3 pl, cP4 cI p4 pl, cP5 cI p5 pl] sz) U)) (va_Ql (fun (r : Int64) (_ : Unit) => r = rX3_average i z wh x g k tp pl ∧ tX3_average i z wh x g k tp pl = 0) (fun _ t => va_P (dC, dI) vwCl [cX0 h0 n0 k0 t0 p0 x, cL0 n0 n1 n2 n3 g, cL1 cJ n1 g, cL2 cI n2 g, cL3 cI n3 g, cL0 k0 k1 k2 k3 k, cL1 cJ k1 k, cL2 cI k2 k, cL3 cI k3 k, cT0 t0 t1 tp, cT1 cI t1 tp, cP0 p0 p1 p2 p3 p4 p5 pl, cP1 cI p1 pl, cP2 cI p2 pl, cP3 cI p3 pl, cP4 cI p4 pl, cP5 cI p5 pl] t.heap ∧ va_K (dC, dI) vwCl [(cI, .int), (cJ, .long)] t ∧ va_D (va_A [cX0 h0 n0 k0 t0 p0 x, cL0 n0 n1 n2 n3 g, cL1 cJ n1 g, cL2 cI n2 g, cL3 cI n3 g, cL0 k0 k1 k2 k3 k, cL1 cJ k1 k, cL2 cI k2 k, cL3 cI k3 k, cT0 t0 t1 tp, cT1 cI t1 tp, cP0 p0 p1 p2 p3 p4 p5 pl, cP1 cI p1 pl, cP2 cI p2 pl, cP3 cI p3 pl, cP4 cI p4 pl, cP5 cI p5 pl] sz) [cX0 h0 n0 k0 t0 p0 x, cL0 n0 n1 n2 n3 g, cL1 cJ n1 g, cL2 cI n2 g, cL3 cI n3 g, cL0 k0 k1 k2 k3 k, cL1 cJ k1 k, cL2 cI k2 k, cL3 cI k3 k, cT0 t0 t1 tp, cT1 cI t1 tp, cP0 p0 p1 p2 p3 p4 p5 pl, cP1 cI p1 pl, cP2 cI p2 pl, cP3 cI p3 pl, cP4 cI p4 pl, cP5 cI p5 pl]) (va_A [cX0 h0 n0 k0 t0 p0 x, cL0 n0 n1 n2 n3 g, cL1 cJ n1 g, cL2 cI n2 g, cL3 cI n3 g, cL0 k0 k1 k2 k3 k, cL1 cJ k1 k, cL2 cI k2 k, cL3 cI k3 k, cT0 t0 t1 tp, cT1 cI t1 tp, cP0 p0 p1 p2 p3 p4 p5 pl, cP1 cI p1 pl, cP2 cI p2 pl, cP3 cI p3 pl, cP4 cI p4 pl, cP5 cI p5 pl] sz)) (vx_X (fun _ : Unit => tX3_average i z wh x g k tp pl = 1) (fun E _ t => E = xtN ∧ va_P (dC, dI) vwCl [cX0 h0 n0 k0 t0 p0 x, cL0 n0 n1 n2 n3 g, cL1 cJ n1 g, cL2 cI n2 g, cL3 cI n3 g, cL0 k0 k1 k2 k3 k, cL1 cJ k1 k, cL2 cI k2 k, cL3 cI k3 k, cT0 t0 t1 tp, cT1 cI t1 tp, cP0 p0 p1 p2 p3 p4 p5 pl, cP1 cI p1 pl, cP2 cI p2 pl, cP3 cI p3 pl, cP4 cI p4 pl, cP5 cI p5 pl] t.heap ∧ va_K (dC, dI) vwCl [(cI, .int), (cJ, .long)] t ∧ va_D (va_A [cX0 h0 n0 k0 t0 p0 x, cL0 n0 n1 n2 n3 g, cL1 cJ n1 g, cL2 cI n2 g, cL3 cI n3 g, cL0 k0 k1 k2 k3 k, cL1 cJ k1 k, cL2 cI k2 k, cL3 cI k3 k, cT0 t0 t1 tp, cT1 cI t1 tp, cP0 p0 p1 p2 p3 p4 p5 pl, cP1 cI p1 pl, cP2 cI p2 pl, cP3 cI p3 pl, cP4 cI p4 pl, cP5 cI p5 pl] sz) [cX0 h0 n0 k0 t0 p0 x, cL0 n0 n1 n2 n3 g, cL1 cJ n1 g, cL2 cI n2 g, cL3 cI n3 g, cL0 k0 k1 k2 k3 k, cL1 cJ k1 k, cL2 cI k2 k, cL3 cI k3 k, cT0 t0 t1 tp, cT1 cI t1 tp, cP0 p0 p1 p2 p3 p4 p5 pl, cP1 cI p1 pl, cP2 cI p2 pl, cP3 cI p3 pl, cP4 cI p4 pl, cP5 cI p5 pl]) (va_A [cX0 h0 n0 k0 t0 p0 x, cL0 n0 n1 n2 n3 g, cL1 cJ n1 g, cL2 cI n2 g, cL3 cI n3 g, cL0 k0 k1 k2 k3 k, cL1 cJ k1 k, cL2 cI k2 k, cL3 cI k3 k, cT0 t0 t1 tp, cT1 cI t1 tp, cP0 p0 p1 p2 p3 p4 p5 pl, cP1 cI p1 pl, cP2 cI p2 pl, cP3 cI p3 pl, cP4 cI p4 pl, cP5 cI p5 pl] sz)) 1 6 (va_A [cX0 h0 n0 k0 t0 p0 x, cL0 n0 n1 n2 n3 g, cL1 cJ n1 g, cL2 cI n2 g, cL3 cI n3 g, cL0 k0 k1 k2 k3 k, cL1 cJ k1 k, cL2 cI k2 k, cL3 cI k3 k, cT0 t0 t1 tp, cT1 cI t1 tp, cP0 p0 p1 p2 p3 p4 p5 pl, cP1 cI p1 pl, cP2 cI p2 pl, cP3 cI p3 pl, cP4 cI p4 pl, cP5 cI p5 pl] sz) := by
  refine vx_ofW (cc := cX3_average) (maxL := 10) (ret := (some .long)) (by decide) rfl ?_
  intro p e s m args below meth c s₁ B hml hEx hv
  obtain ⟨rfl, hsz, hP, hK, hD0, hN, hQ⟩ := hv
  have hx := B.exec
  have hb := B.bytes
  have hr := B.returns
  have hts := atoms_spec (ws := wsY_X3_average) B.pre
  have hown : s.vm.findClass RX3 = some m.cls := findClass_of_methodNamed B.named
  have hlocks := B.notSynchronized
  have hiX3 : ∀ w ∈ u_ws RX3 TX3 12, w ∈ wsY_X3_average := by decide +kernel
  subst hsz
  have hD := hD0.self (sz := s.heap.size)
  generalize hAe : va_A [cX0 h0 n0 k0 t0 p0 x, cL0 n0 n1 n2 n3 g, cL1 cJ n1 g, cL2 cI n2 g, cL3 cI n3 g, cL0 k0 k1 k2 k3 k, cL1 cJ k1 k, cL2 cI k2 k, cL3 cI k3 k, cT0 t0 t1 tp, cT1 cI t1 tp, cP0 p0 p1 p2 p3 p4 p5 pl, cP1 cI p1 pl, cP2 cI p2 pl, cP3 cI p3 pl, cP4 cI p4 pl, cP5 cI p5 pl] s.heap.size = A at hD hQ ⊢
  have hA : ∀ q : Nat, s.heap.size ≤ q → A q := fun q h => by rw [← hAe]; exact Or.inr h
  have hS : va_S A s.heap s.heap [] := va_S.rf
  have hl := lv_entry ([.ref h0, .int i, .int z, .int wh]) (n := 10) (Nat.le_of_ble_eq_true rfl)
  rw [lg_entry_eq]
  generalize (lg_sl ([.ref h0, .int i, .int z, .int wh]) ++ List.replicate (10 - (lg_sl ([.ref h0, .int i, .int z, .int wh])).length) Slot.unset).toArray = ls at hl ⊢
  have hl : lv_has ls 10 [(0, .ref h0), (1, .int i), (2, .int z), (3, .int wh)] := hl
  have hP : va_P (dC, dI) vwCl [cX0 h0 n0 k0 t0 p0 x, cL0 n0 n1 n2 n3 g, cL1 cJ n1 g, cL2 cI n2 g, cL3 cI n3 g, cL0 k0 k1 k2 k3 k, cL1 cJ k1 k, cL2 cI k2 k, cL3 cI k3 k, cT0 t0 t1 tp, cT1 cI t1 tp, cP0 p0 p1 p2 p3 p4 p5 pl, cP1 cI p1 pl, cP2 cI p2 pl, cP3 cI p3 pl, cP4 cI p4 pl, cP5 cI p5 pl] s.heap := hP
  refine lv_iload_n hx hb dX3_average_0 rfl (lv_at hl 1 rfl) ?_
  have hPc := hP.sub (ws' := []) [] rfl
  have hDc := hD.sub (ws' := []) [] (by decide) rfl
  have hFc := va_free (wc := []) hD hS hA [] rfl
  refine va_calli (va_runS (As := [.int i]) (rest := []) ⟨hx, hb, hml, hown, hts⟩ (kX3_isMark l dC dI cI cJ s.heap.size i) (va_cwS 1 hts qX3_average_X3_isMark_131 rfl rfl rfl (by decide +kernel) ⟨Nat.le_of_ble_eq_true rfl, Nat.le_of_ble_eq_true rfl⟩) ⟨fun a U g mk q => by obtain ⟨q0, q1, qP, qK, qD⟩ := q; exact ⟨q0, q1, qP, va_K.moved (u := U) (U := U.calling g mk a) (Vm.Alike.refl U.vm) qK, qD⟩, fun U hU hW => ⟨rfl, by rw [hU], by rw [hU]; exact hPc, va_K.moved hW.alike hK, hDc.weaken (fun _ _ _ _ => trivial)⟩⟩ rfl rfl hl.1 rfl (lv_room (Nat.le_of_ble_eq_true rfl)) dX3_average_1 ⟨Nat.le_of_ble_eq_true rfl, Nat.le_of_ble_eq_true rfl⟩) hS (fun q _ h => hFc q h) hFc (fun r_1 _ t H1 locs ht hvm hw hB hz1 hk1 hS => ?_)
  obtain ⟨hP1, hK1, hD1⟩ := hB
  rw [ht] at hP1
  obtain ⟨hP, hD⟩ := va_join (wr := [cX0 h0 n0 k0 t0 p0 x, cL0 n0 n1 n2 n3 g, cL1 cJ n1 g, cL2 cI n2 g, cL3 cI n3 g, cL0 k0 k1 k2 k3 k, cL1 cJ k1 k, cL2 cI k2 k, cL3 cI k3 k, cT0 t0 t1 tp, cT1 cI t1 tp, cP0 p0 p1 p2 p3 p4 p5 pl, cP1 cI p1 pl, cP2 cI p2 pl, cP3 cI p3 pl, cP4 cI p4 pl, cP5 cI p5 pl]) (w1 := []) hP hD [] [0, 1, 2, 3, 4, 5, 6, 7, 8, 9, 10, 11, 12, 13, 14, 15, 16] rfl rfl (by decide) (by decide) hk1 hFc hP1 hD1
  generalize H1 = H at hP hS ⊢
  have hP : va_P (dC, dI) vwCl [cX0 h0 n0 k0 t0 p0 x, cL0 n0 n1 n2 n3 g, cL1 cJ n1 g, cL2 cI n2 g, cL3 cI n3 g, cL0 k0 k1 k2 k3 k, cL1 cJ k1 k, cL2 cI k2 k, cL3 cI k3 k, cT0 t0 t1 tp, cT1 cI t1 tp, cP0 p0 p1 p2 p3 p4 p5 pl, cP1 cI p1 pl, cP2 cI p2 pl, cP3 cI p3 pl, cP4 cI p4 pl, cP5 cI p5 pl] H := hP
  have hD : va_D A [cX0 h0 n0 k0 t0 p0 x, cL0 n0 n1 n2 n3 g, cL1 cJ n1 g, cL2 cI n2 g, cL3 cI n3 g, cL0 k0 k1 k2 k3 k, cL1 cJ k1 k, cL2 cI k2 k, cL3 cI k3 k, cT0 t0 t1 tp, cT1 cI t1 tp, cP0 p0 p1 p2 p3 p4 p5 pl, cP1 cI p1 pl, cP2 cI p2 pl, cP3 cI p3 pl, cP4 cI p4 pl, cP5 cI p5 pl] := hD
  subst hw
  refine lv_if_eq (tgt := 16) hx hb dX3_average_4 (by decide) (fun c_2 => ?_) (fun c_2 => ?_)
  · have et : tX3_average i z wh x g k tp pl = 1 := by rw [tX3_average, if_pos c_2]
    obtain ⟨sa, hsa⟩ := hQ.2.1
    exact xt_throw hx hb hl9 hown (hts (.classLink RX3 141 xtN) (by decide +kernel)) (hts (.initialized xtN) (by decide +kernel)) hsa (xb_hat (fun w9 h9 => hts w9 (List.mem_cons_of_mem _ (List.mem_append_right _ h9))) hQ.1) xt_good hQ.2.2.2.2.2.1 hQ.2.2.2.2.2.2 hS (by rw [hml]; exact hl.1) dX3_average_16 dX3_average_19 dX3_average_20 dX3_average_22 dX3_average_25 (fun x hx9 => (hEx x hx9).elim) (Nat.le_of_ble_eq_true rfl) (Nat.le_of_ble_eq_true rfl) (Nat.le_of_ble_eq_true rfl) (Nat.le_of_ble_eq_true rfl) hlocks (fun t hvm hz hk => ⟨(), et, ⟨rfl, hP.kept (fun k x hk9 => hk x.1 (hP k x hk9).lt), va_K.moved hvm hK, hD⟩, ⟨Nat.le_trans hS.1 hz, fun q h1 h2 => (hk q (Nat.lt_of_lt_of_le h1 hS.1)).trans (hS.2.1 q h1 h2)⟩⟩) hS.2.2 (Nat.le_of_ble_eq_true rfl) (Nat.le_of_ble_eq_true rfl)
  · refine lv_iload_n hx hb dX3_average_7 rfl (lv_at hl 3 rfl) ?_
    refine lv_iconst (v := 0) hx hb dX3_average_8 (by decide) ?_
    refine lv_iconst (v := 1) hx hb dX3_average_9 (by decide) ?_
    have hPc := hP.sub (ws' := []) [] rfl
    have hDc := hD.sub (ws' := []) [] (by decide) rfl
    have hFc := va_free (wc := []) hD hS hA [] rfl
    refine va_calli (va_runS (As := [.int wh, .int 0, .int 1]) (rest := []) ⟨hx, hb, hml, hown, hts⟩ (kX3_within l dC dI cI cJ H.size wh 0 1) (va_cwS 3 hts qX3_average_X3_within_79 rfl rfl rfl (by decide +kernel) ⟨Nat.le_of_ble_eq_true rfl, Nat.le_of_ble_eq_true rfl⟩) ⟨fun a U g mk q => by obtain ⟨q0, q1, qP, qK, qD⟩ := q; exact ⟨q0, q1, qP, va_K.moved (u := U) (U := U.calling g mk a) (Vm.Alike.refl U.vm) qK, qD⟩, fun U hU hW => ⟨rfl, by rw [hU], by rw [hU]; exact hPc, va_K.moved hW.alike hK, hDc.weaken (fun _ _ _ _ => trivial)⟩⟩ rfl rfl hl.1 rfl (lv_room (Nat.le_of_ble_eq_true rfl)) dX3_average_10 ⟨Nat.le_of_ble_eq_true rfl, Nat.le_of_ble_eq_true rfl⟩) hS (fun q _ h => hFc q h) hFc (fun r_3 _ t H1 locs ht hvm hw hB hz1 hk1 hS => ?_)
    obtain ⟨hP1, hK1, hD1⟩ := hB
    rw [ht] at hP1
    obtain ⟨hP, hD⟩ := va_join (wr := [cX0 h0 n0 k0 t0 p0 x, cL0 n0 n1 n2 n3 g, cL1 cJ n1 g, cL2 cI n2 g, cL3 cI n3 g, cL0 k0 k1 k2 k3 k, cL1 cJ k1 k, cL2 cI k2 k, cL3 cI k3 k, cT0 t0 t1 tp, cT1 cI t1 tp, cP0 p0 p1 p2 p3 p4 p5 pl, cP1 cI p1 pl, cP2 cI p2 pl, cP3 cI p3 pl, cP4 cI p4 pl, cP5 cI p5 pl]) (w1 := []) hP hD [] [0, 1, 2, 3, 4, 5, 6, 7, 8, 9, 10, 11, 12, 13, 14, 15, 16] rfl rfl (by decide) (by decide) hk1 hFc hP1 hD1
    generalize H1 = H at hP hS ⊢
    have hP : va_P (dC, dI) vwCl [cX0 h0 n0 k0 t0 p0 x, cL0 n0 n1 n2 n3 g, cL1 cJ n1 g, cL2 cI n2 g, cL3 cI n3 g, cL0 k0 k1 k2 k3 k, cL1 cJ k1 k, cL2 cI k2 k, cL3 cI k3 k, cT0 t0 t1 tp, cT1 cI t1 tp, cP0 p0 p1 p2 p3 p4 p5 pl, cP1 cI p1 pl, cP2 cI p2 pl, cP3 cI p3 pl, cP4 cI p4 pl, cP5 cI p5 pl] H := hP
    have hD : va_D A [cX0 h0 n0 k0 t0 p0 x, cL0 n0 n1 n2 n3 g, cL1 cJ n1 g, cL2 cI n2 g, cL3 cI n3 g, cL0 k0 k1 k2 k3 k, cL1 cJ k1 k, cL2 cI k2 k, cL3 cI k3 k, cT0 t0 t1 tp, cT1 cI t1 tp, cP0 p0 p1 p2 p3 p4 p5 pl, cP1 cI p1 pl, cP2 cI p2 pl, cP3 cI p3 pl, cP4 cI p4 pl, cP5 cI p5 pl] := hD
    subst hw
    refine lv_if_ne (tgt := 26) hx hb dX3_average_13 (by decide) (fun c_4 => ?_) (fun c_4 => ?_)
    · refine lv_aload_n hx hb dX3_average_26 rfl (lv_at hl 0 rfl) ?_
      refine lv_iload_n hx hb dX3_average_27 rfl (lv_at hl 1 rfl) ?_
      refine lv_iload_n hx hb dX3_average_28 rfl (lv_at hl 2 rfl) ?_
      refine lv_if_ne (tgt := 36) hx hb dX3_average_29 (by decide) (fun c_5 => ?_) (fun c_5 => ?_)
      · refine lv_iconst (v := 0) hx hb dX3_average_36 (by decide) ?_
        have hPc := hP.sub (ws' := [cX0 h0 n0 k0 t0 p0 x, cL0 n0 n1 n2 n3 g, cL1 cJ n1 g, cL2 cI n2 g, cL3 cI n3 g, cL0 k0 k1 k2 k3 k, cL1 cJ k1 k, cL2 cI k2 k, cL3 cI k3 k, cT0 t0 t1 tp, cT1 cI t1 tp, cP0 p0 p1 p2 p3 p4 p5 pl, cP1 cI p1 pl, cP2 cI p2 pl, cP3 cI p3 pl, cP4 cI p4 pl, cP5 cI p5 pl]) [0, 1, 2, 3, 4, 5, 6, 7, 8, 9, 10, 11, 12, 13, 14, 15, 16] rfl
        have hDc := hD.sub (ws' := [cX0 h0 n0 k0 t0 p0 x, cL0 n0 n1 n2 n3 g, cL1 cJ n1 g, cL2 cI n2 g, cL3 cI n3 g, cL0 k0 k1 k2 k3 k, cL1 cJ k1 k, cL2 cI k2 k, cL3 cI k3 k, cT0 t0 t1 tp, cT1 cI t1 tp, cP0 p0 p1 p2 p3 p4 p5 pl, cP1 cI p1 pl, cP2 cI p2 pl, cP3 cI p3 pl, cP4 cI p4 pl, cP5 cI p5 pl]) [0, 1, 2, 3, 4, 5, 6, 7, 8, 9, 10, 11, 12, 13, 14, 15, 16] (by decide) rfl
        have hFc := va_free (wc := [cX0 h0 n0 k0 t0 p0 x, cL0 n0 n1 n2 n3 g, cL1 cJ n1 g, cL2 cI n2 g, cL3 cI n3 g, cL0 k0 k1 k2 k3 k, cL1 cJ k1 k, cL2 cI k2 k, cL3 cI k3 k, cT0 t0 t1 tp, cT1 cI t1 tp, cP0 p0 p1 p2 p3 p4 p5 pl, cP1 cI p1 pl, cP2 cI p2 pl, cP3 cI p3 pl, cP4 cI p4 pl, cP5 cI p5 pl]) hD hS hA [0, 1, 2, 3, 4, 5, 6, 7, 8, 9, 10, 11, 12, 13, 14, 15, 16] rfl
        refine va_calll (va_runV (As := [.int i, .int 0]) (rest := []) ⟨hx, hb, hml, hown, hts⟩ (kX3_wayInHundredths l dC dI cI cJ h0 n0 k0 t0 p0 n1 n2 n3 k1 k2 k3 t1 p1 p2 p3 p4 p5 H.size i 0 x g k tp pl (isMark_in c_2)) (cwV 2 hts qX3_average_X3_wayInHundredths_154 rfl rfl rfl (by decide +kernel) ⟨Nat.le_of_ble_eq_true rfl, Nat.le_of_ble_eq_true rfl⟩) ⟨fun a U g mk q => by obtain ⟨q0, q1, qP, qK, qD, qN⟩ := q; exact ⟨q0, q1, qP, va_K.moved (u := U) (U := U.calling g mk a) (Vm.Alike.refl U.vm) qK, qD, nw_same (s := U) (U := U.calling g mk a) rfl qN⟩, va_recv hK hPc (ci := 3) (q0 := 0) rfl rfl, fun U hU hW => ⟨rfl, by rw [hU], by rw [hU]; exact hPc, va_K.moved hW.alike hK, hDc.weaken (fun _ _ _ _ => trivial), nw_warm hW hN⟩⟩ rfl rfl hl.1 rfl (lv_room (Nat.le_of_ble_eq_true rfl)) dX3_average_37 ⟨Nat.le_of_ble_eq_true rfl, Nat.le_of_ble_eq_true rfl⟩) hS (fun q _ h => hFc q h) hFc (fun r_6 _ t H1 locs ht hvm hw hB hz1 hk1 hS => ?_)
        obtain ⟨hP1, hK1, hD1⟩ := hB
        rw [ht] at hP1
        obtain ⟨hP, hD⟩ := va_join (wr := []) (w1 := [cX0 h0 n0 k0 t0 p0 x, cL0 n0 n1 n2 n3 g, cL1 cJ n1 g, cL2 cI n2 g, cL3 cI n3 g, cL0 k0 k1 k2 k3 k, cL1 cJ k1 k, cL2 cI k2 k, cL3 cI k3 k, cT0 t0 t1 tp, cT1 cI t1 tp, cP0 p0 p1 p2 p3 p4 p5 pl, cP1 cI p1 pl, cP2 cI p2 pl, cP3 cI p3 pl, cP4 cI p4 pl, cP5 cI p5 pl]) hP hD [0, 1, 2, 3, 4, 5, 6, 7, 8, 9, 10, 11, 12, 13, 14, 15, 16] [] rfl rfl (by decide) (by decide) hk1 hFc hP1 hD1
        generalize H1 = H at hP hS ⊢
        have hP : va_P (dC, dI) vwCl [cX0 h0 n0 k0 t0 p0 x, cL0 n0 n1 n2 n3 g, cL1 cJ n1 g, cL2 cI n2 g, cL3 cI n3 g, cL0 k0 k1 k2 k3 k, cL1 cJ k1 k, cL2 cI k2 k, cL3 cI k3 k, cT0 t0 t1 tp, cT1 cI t1 tp, cP0 p0 p1 p2 p3 p4 p5 pl, cP1 cI p1 pl, cP2 cI p2 pl, cP3 cI p3 pl, cP4 cI p4 pl, cP5 cI p5 pl] H := hP
        have hD : va_D A [cX0 h0 n0 k0 t0 p0 x, cL0 n0 n1 n2 n3 g, cL1 cJ n1 g, cL2 cI n2 g, cL3 cI n3 g, cL0 k0 k1 k2 k3 k, cL1 cJ k1 k, cL2 cI k2 k, cL3 cI k3 k, cT0 t0 t1 tp, cT1 cI t1 tp, cP0 p0 p1 p2 p3 p4 p5 pl, cP1 cI p1 pl, cP2 cI p2 pl, cP3 cI p3 pl, cP4 cI p4 pl, cP5 cI p5 pl] := hD
        subst hw
        refine lv_lstore (lv' := [(4, .long (rX3_wayInHundredths i 0 x g k tp pl)), (0, .ref h0), (1, .int i), (2, .int z), (3, .int wh)]) hx hb dX3_average_40 hl (by decide) rfl (fun ls hl => ?_)
        refine lv_lload hx hb dX3_average_42 (lv_at hl 0 rfl) ?_
        refine lv_lconst (v := 1) hx hb dX3_average_44 (by decide) ?_
        refine W.lcmp hx hb dX3_average_45 ?_
        refine lv_if_ge (tgt := 59) hx hb dX3_average_46 (by decide) (fun c_7 => ?_) (fun c_7 => ?_)
        · refine lv_aload_n hx hb dX3_average_59 rfl (lv_at hl 1 rfl) ?_
          refine va_get (D := (dC, dI)) (ci := 3) (v := .ref n0) (C := RX3) (T := TX3) (N := 12) hx hb hts hiX3 hown hK hP 0 rfl rfl 0 (by decide) (hts (.fieldLink RX3 10 "TripReckoner" "now" "LTripReckoner$Ledger;") (by decide +kernel)) (fun _ h9 => h9) rfl dX3_average_60 ?_
          refine lv_iload_n hx hb dX3_average_63 rfl (lv_at hl 2 rfl) ?_
          refine lv_iload_n hx hb dX3_average_64 rfl (lv_at hl 3 rfl) ?_
          refine lv_if_eq (tgt := 72) hx hb dX3_average_65 (by decide) (fun c_8 => absurd c_8 c_5) (fun c_8 => ?_)
          refine lv_iconst (v := 3) hx hb dX3_average_68 (by decide) ?_
          refine lv_goto (tgt := 73) hx hb dX3_average_69 (by decide) ?_
          have hPc := hP.sub (ws' := [cL0 n0 n1 n2 n3 g, cL1 cJ n1 g, cL2 cI n2 g, cL3 cI n3 g]) [1, 2, 3, 4] rfl
          have hDc := hD.sub (ws' := [cL0 n0 n1 n2 n3 g, cL1 cJ n1 g, cL2 cI n2 g, cL3 cI n3 g]) [1, 2, 3, 4] (by decide) rfl
          have hFc := va_free (wc := [cL0 n0 n1 n2 n3 g, cL1 cJ n1 g, cL2 cI n2 g, cL3 cI n3 g]) hD hS hA [1, 2, 3, 4] rfl
          refine va_calll (va_runVN (As := [.int i, .int 3]) (rest := []) ⟨hx, hb, hml, hown, hts⟩ (kX0_marked l dC dI cI cJ n0 n1 n2 n3 H.size i 3 g (mk_in (isMark_in c_2) (vd (by decide +kernel)))) ⟨va_cnB 2 hts qX3_average_X0_marked_148 rfl rfl rfl (nw_m hN (.methodLinkNest RX3 148 yX0_marked "TripReckoner") (by decide +kernel)) (hts (.initialized RX0) (by decide +kernel)) (by decide +kernel) ⟨Nat.le_of_ble_eq_true rfl, Nat.le_of_ble_eq_true rfl⟩, (hts (.instanceMethod yX0_marked) (by decide +kernel)), (hts (.selects RX0 yX0_marked yX0_marked) (by decide +kernel))⟩ ⟨fun a U g mk q => by obtain ⟨q0, q1, qP, qK, qD⟩ := q; exact ⟨q0, q1, qP, va_K.moved (u := U) (U := U.calling g mk a) (Vm.Alike.refl U.vm) qK, qD⟩, va_recv hK hPc (ci := 0) (q0 := 0) rfl rfl, fun U hU hW => ⟨rfl, by rw [hU], by rw [hU]; exact hPc, va_K.moved hW.alike hK, hDc.weaken (fun _ _ _ _ => trivial)⟩⟩ rfl rfl hl.1 rfl (lv_room (Nat.le_of_ble_eq_true rfl)) dX3_average_73 ⟨Nat.le_of_ble_eq_true rfl, Nat.le_of_ble_eq_true rfl⟩) hS (fun q _ h => hFc q h) hFc (fun r_9 _ t H1 locs ht hvm hw hB hz1 hk1 hS => ?_)
          obtain ⟨hP1, hK1, hD1⟩ := hB
          rw [ht] at hP1
          obtain ⟨hP, hD⟩ := va_join (wr := [cX0 h0 n0 k0 t0 p0 x, cL0 k0 k1 k2 k3 k, cL1 cJ k1 k, cL2 cI k2 k, cL3 cI k3 k, cT0 t0 t1 tp, cT1 cI t1 tp, cP0 p0 p1 p2 p3 p4 p5 pl, cP1 cI p1 pl, cP2 cI p2 pl, cP3 cI p3 pl, cP4 cI p4 pl, cP5 cI p5 pl]) (w1 := [cL0 n0 n1 n2 n3 g, cL1 cJ n1 g, cL2 cI n2 g, cL3 cI n3 g]) hP hD [1, 2, 3, 4] [0, 5, 6, 7, 8, 9, 10, 11, 12, 13, 14, 15, 16] rfl rfl (by decide) (by decide) hk1 hFc hP1 hD1
          generalize H1 = H at hP hS ⊢
          have hP := hP.sub (ws' := [cX0 h0 n0 k0 t0 p0 x, cL0 n0 n1 n2 n3 g, cL1 cJ n1 g, cL2 cI n2 g, cL3 cI n3 g, cL0 k0 k1 k2 k3 k, cL1 cJ k1 k, cL2 cI k2 k, cL3 cI k3 k, cT0 t0 t1 tp, cT1 cI t1 tp, cP0 p0 p1 p2 p3 p4 p5 pl, cP1 cI p1 pl, cP2 cI p2 pl, cP3 cI p3 pl, cP4 cI p4 pl, cP5 cI p5 pl]) [0, 13, 14, 15, 16, 1, 2, 3, 4, 5, 6, 7, 8, 9, 10, 11, 12] rfl
          have hD := hD.sub (ws' := [cX0 h0 n0 k0 t0 p0 x, cL0 n0 n1 n2 n3 g, cL1 cJ n1 g, cL2 cI n2 g, cL3 cI n3 g, cL0 k0 k1 k2 k3 k, cL1 cJ k1 k, cL2 cI k2 k, cL3 cI k3 k, cT0 t0 t1 tp, cT1 cI t1 tp, cP0 p0 p1 p2 p3 p4 p5 pl, cP1 cI p1 pl, cP2 cI p2 pl, cP3 cI p3 pl, cP4 cI p4 pl, cP5 cI p5 pl]) [0, 13, 14, 15, 16, 1, 2, 3, 4, 5, 6, 7, 8, 9, 10, 11, 12] (by decide) rfl
          subst hw
          refine lv_ldc2 hx hb hown (hts (.constantLong RX3 162 (100000)) (by decide +kernel)) dX3_average_76 ?_
          refine lv_lmul hx hb dX3_average_79 ?_
          refine lv_lstore (lv' := [(6, .long ((rX0_marked i 3 g) * 100000)), (4, .long (rX3_wayInHundredths i 0 x g k tp pl)), (0, .ref h0), (1, .int i), (2, .int z), (3, .int wh)]) hx hb dX3_average_80 hl (by decide) rfl (fun ls hl => ?_)
          refine lv_lload hx hb dX3_average_82 (lv_at hl 1 rfl) ?_
          refine lv_lload hx hb dX3_average_84 (lv_at hl 0 rfl) ?_
          have hPc := hP.sub (ws' := []) [] rfl
          have hDc := hD.sub (ws' := []) [] (by decide) rfl
          have hFc := va_free (wc := []) hD hS hA [] rfl
          refine va_calll (va_runS (As := [.long (rX3_wayInHundredths i 0 x g k tp pl), .long ((rX0_marked i 3 g) * 100000)]) (rest := []) ⟨hx, hb, hml, hown, hts⟩ (kX3_commonDivisor l dC dI cI cJ H.size (rX3_wayInHundredths i 0 x g k tp pl) ((rX0_marked i 3 g) * 100000) ((hm (isMark_in c_2)).1 _) ((hm (isMark_in c_2)).2.1 _ (vd (by decide +kernel))) ((hm (isMark_in c_2)).2.2 _ _ (vd (by decide +kernel)))) (va_cwS 2 hts qX3_average_X3_commonDivisor_164 rfl rfl rfl (by decide +kernel) ⟨Nat.le_of_ble_eq_true rfl, Nat.le_of_ble_eq_true rfl⟩) ⟨fun a U g mk q => by obtain ⟨q0, q1, qP, qK, qD⟩ := q; exact ⟨q0, q1, qP, va_K.moved (u := U) (U := U.calling g mk a) (Vm.Alike.refl U.vm) qK, qD⟩, fun U hU hW => ⟨rfl, by rw [hU], by rw [hU]; exact hPc, va_K.moved hW.alike hK, hDc.weaken (fun _ _ _ _ => trivial)⟩⟩ rfl rfl hl.1 rfl (lv_room (Nat.le_of_ble_eq_true rfl)) dX3_average_86 ⟨Nat.le_of_ble_eq_true rfl, Nat.le_of_ble_eq_true rfl⟩) hS (fun q _ h => hFc q h) hFc (fun r_10 _ t H1 locs ht hvm hw hB hz1 hk1 hS => ?_)
          obtain ⟨hP1, hK1, hD1⟩ := hB
          rw [ht] at hP1
          obtain ⟨hP, hD⟩ := va_join (wr := [cX0 h0 n0 k0 t0 p0 x, cL0 n0 n1 n2 n3 g, cL1 cJ n1 g, cL2 cI n2 g, cL3 cI n3 g, cL0 k0 k1 k2 k3 k, cL1 cJ k1 k, cL2 cI k2 k, cL3 cI k3 k, cT0 t0 t1 tp, cT1 cI t1 tp, cP0 p0 p1 p2 p3 p4 p5 pl, cP1 cI p1 pl, cP2 cI p2 pl, cP3 cI p3 pl, cP4 cI p4 pl, cP5 cI p5 pl]) (w1 := []) hP hD [] [0, 1, 2, 3, 4, 5, 6, 7, 8, 9, 10, 11, 12, 13, 14, 15, 16] rfl rfl (by decide) (by decide) hk1 hFc hP1 hD1
          generalize H1 = H at hP hS ⊢
          have hP : va_P (dC, dI) vwCl [cX0 h0 n0 k0 t0 p0 x, cL0 n0 n1 n2 n3 g, cL1 cJ n1 g, cL2 cI n2 g, cL3 cI n3 g, cL0 k0 k1 k2 k3 k, cL1 cJ k1 k, cL2 cI k2 k, cL3 cI k3 k, cT0 t0 t1 tp, cT1 cI t1 tp, cP0 p0 p1 p2 p3 p4 p5 pl, cP1 cI p1 pl, cP2 cI p2 pl, cP3 cI p3 pl, cP4 cI p4 pl, cP5 cI p5 pl] H := hP
          have hD : va_D A [cX0 h0 n0 k0 t0 p0 x, cL0 n0 n1 n2 n3 g, cL1 cJ n1 g, cL2 cI n2 g, cL3 cI n3 g, cL0 k0 k1 k2 k3 k, cL1 cJ k1 k, cL2 cI k2 k, cL3 cI k3 k, cT0 t0 t1 tp, cT1 cI t1 tp, cP0 p0 p1 p2 p3 p4 p5 pl, cP1 cI p1 pl, cP2 cI p2 pl, cP3 cI p3 pl, cP4 cI p4 pl, cP5 cI p5 pl] := hD
          subst hw
          refine lv_lstore (lv' := [(8, .long (rX3_commonDivisor (rX3_wayInHundredths i 0 x g k tp pl) ((rX0_marked i 3 g) * 100000))), (6, .long ((rX0_marked i 3 g) * 100000)), (4, .long (rX3_wayInHundredths i 0 x g k tp pl)), (0, .ref h0), (1, .int i), (2, .int z), (3, .int wh)]) hx hb dX3_average_89 hl (by decide) rfl (fun ls hl => ?_)
          refine lv_iload_n hx hb dX3_average_91 rfl (lv_at hl 6 rfl) ?_
          refine lv_if_ne (tgt := 103) hx hb dX3_average_92 (by decide) (fun c_11 => ?_) (fun c_11 => ?_)
          · refine lv_lload hx hb dX3_average_103 (lv_at hl 2 rfl) ?_
            refine lv_lload hx hb dX3_average_105 (lv_at hl 0 rfl) ?_
            refine lv_ldiv hx hb dX3_average_107 (cd_ne0 ((hm (isMark_in c_2)).1 _) c_7) ?_
            have et : tX3_average i z wh x g k tp pl = 0 := by rw [tX3_average, if_neg c_2, if_neg c_4, if_neg c_5, if_pos c_7, if_neg c_11]
            have er : (rX3_wayInHundredths i 0 x g k tp pl) / (rX3_commonDivisor (rX3_wayInHundredths i 0 x g k tp pl) ((rX0_marked i 3 g) * 100000)) = rX3_average i z wh x g k tp pl := by rw [rX3_average, if_neg c_2, if_neg c_4, if_neg c_5, if_pos c_7, if_neg c_11]
            refine vx_ret (W.widen (k := 1) (n := 6) (Nat.le_of_ble_eq_true rfl) (Nat.le_of_ble_eq_true rfl) ?_)
            refine W.lret (v := (rX3_wayInHundredths i 0 x g k tp pl) / (rX3_commonDivisor (rX3_wayInHundredths i 0 x g k tp pl) ((rX0_marked i 3 g) * 100000))) hx hb hr (fun t ht hW => ⟨⟨(rX3_wayInHundredths i 0 x g k tp pl) / (rX3_commonDivisor (rX3_wayInHundredths i 0 x g k tp pl) ((rX0_marked i 3 g) * 100000)), (), rfl, ⟨er, et⟩, ?_⟩, hS.F ht⟩) hS.2.2 dX3_average_108
            exact ⟨by rw [ht]; exact hP, va_K.moved hW.alike hK, hD⟩
          · refine lv_lload hx hb dX3_average_95 (lv_at hl 1 rfl) ?_
            refine lv_lload hx hb dX3_average_97 (lv_at hl 0 rfl) ?_
            refine lv_ldiv hx hb dX3_average_99 (cd_ne0 ((hm (isMark_in c_2)).1 _) c_7) ?_
            refine lv_goto (tgt := 108) hx hb dX3_average_100 (by decide) ?_
            have et : tX3_average i z wh x g k tp pl = 0 := by rw [tX3_average, if_neg c_2, if_neg c_4, if_neg c_5, if_pos c_7, if_pos c_11]
            have er : ((rX0_marked i 3 g) * 100000) / (rX3_commonDivisor (rX3_wayInHundredths i 0 x g k tp pl) ((rX0_marked i 3 g) * 100000)) = rX3_average i z wh x g k tp pl := by rw [rX3_average, if_neg c_2, if_neg c_4, if_neg c_5, if_pos c_7, if_pos c_11]
            refine vx_ret (W.widen (k := 1) (n := 6) (Nat.le_of_ble_eq_true rfl) (Nat.le_of_ble_eq_true rfl) ?_)
            refine W.lret (v := ((rX0_marked i 3 g) * 100000) / (rX3_commonDivisor (rX3_wayInHundredths i 0 x g k tp pl) ((rX0_marked i 3 g) * 100000))) hx hb hr (fun t ht hW => ⟨⟨((rX0_marked i 3 g) * 100000) / (rX3_commonDivisor (rX3_wayInHundredths i 0 x g k tp pl) ((rX0_marked i 3 g) * 100000)), (), rfl, ⟨er, et⟩, ?_⟩, hS.F ht⟩) hS.2.2 dX3_average_108
            exact ⟨by rw [ht]; exact hP, va_K.moved hW.alike hK, hD⟩
        · have et : tX3_average i z wh x g k tp pl = 1 := by rw [tX3_average, if_neg c_2, if_neg c_4, if_neg c_5, if_neg c_7]
          obtain ⟨sa, hsa⟩ := hQ.2.2.2.1
          exact xt_throw hx hb hl9 hown (hts (.classLink RX3 141 xtN) (by decide +kernel)) (hts (.initialized xtN) (by decide +kernel)) hsa (xb_hat (fun w9 h9 => hts w9 (List.mem_cons_of_mem _ (List.mem_append_right _ h9))) hQ.1) xt_good hQ.2.2.2.2.2.1 hQ.2.2.2.2.2.2 hS (by rw [hml]; exact hl.1) dX3_average_49 dX3_average_52 dX3_average_53 dX3_average_55 dX3_average_58 (fun x hx9 => (hEx x hx9).elim) (Nat.le_of_ble_eq_true rfl) (Nat.le_of_ble_eq_true rfl) (Nat.le_of_ble_eq_true rfl) (Nat.le_of_ble_eq_true rfl) hlocks (fun t hvm hz hk => ⟨(), et, ⟨rfl, hP.kept (fun k x hk9 => hk x.1 (hP k x hk9).lt), va_K.moved hvm hK, hD⟩, ⟨Nat.le_trans hS.1 hz, fun q h1 h2 => (hk q (Nat.lt_of_lt_of_le h1 hS.1)).trans (hS.2.1 q h1 h2)⟩⟩) hS.2.2 (Nat.le_of_ble_eq_true rfl) (Nat.le_of_ble_eq_true rfl)
      · refine lv_iconst (v := 1) hx hb dX3_average_32 (by decide) ?_
        refine lv_goto (tgt := 37) hx hb dX3_average_33 (by decide) ?_
        have hPc := hP.sub (ws' := [cX0 h0 n0 k0 t0 p0 x, cL0 n0 n1 n2 n3 g, cL1 cJ n1 g, cL2 cI n2 g, cL3 cI n3 g, cL0 k0 k1 k2 k3 k, cL1 cJ k1 k, cL2 cI k2 k, cL3 cI k3 k, cT0 t0 t1 tp, cT1 cI t1 tp, cP0 p0 p1 p2 p3 p4 p5 pl, cP1 cI p1 pl, cP2 cI p2 pl, cP3 cI p3 pl, cP4 cI p4 pl, cP5 cI p5 pl]) [0, 1, 2, 3, 4, 5, 6, 7, 8, 9, 10, 11, 12, 13, 14, 15, 16] rfl
        have hDc := hD.sub (ws' := [cX0 h0 n0 k0 t0 p0 x, cL0 n0 n1 n2 n3 g, cL1 cJ n1 g, cL2 cI n2 g, cL3 cI n3 g, cL0 k0 k1 k2 k3 k, cL1 cJ k1 k, cL2 cI k2 k, cL3 cI k3 k, cT0 t0 t1 tp, cT1 cI t1 tp, cP0 p0 p1 p2 p3 p4 p5 pl, cP1 cI p1 pl, cP2 cI p2 pl, cP3 cI p3 pl, cP4 cI p4 pl, cP5 cI p5 pl]) [0, 1, 2, 3, 4, 5, 6, 7, 8, 9, 10, 11, 12, 13, 14, 15, 16] (by decide) rfl
        have hFc := va_free (wc := [cX0 h0 n0 k0 t0 p0 x, cL0 n0 n1 n2 n3 g, cL1 cJ n1 g, cL2 cI n2 g, cL3 cI n3 g, cL0 k0 k1 k2 k3 k, cL1 cJ k1 k, cL2 cI k2 k, cL3 cI k3 k, cT0 t0 t1 tp, cT1 cI t1 tp, cP0 p0 p1 p2 p3 p4 p5 pl, cP1 cI p1 pl, cP2 cI p2 pl, cP3 cI p3 pl, cP4 cI p4 pl, cP5 cI p5 pl]) hD hS hA [0, 1, 2, 3, 4, 5, 6, 7, 8, 9, 10, 11, 12, 13, 14, 15, 16] rfl
        refine va_calll (va_runV (As := [.int i, .int 1]) (rest := []) ⟨hx, hb, hml, hown, hts⟩ (kX3_wayInHundredths l dC dI cI cJ h0 n0 k0 t0 p0 n1 n2 n3 k1 k2 k3 t1 p1 p2 p3 p4 p5 H.size i 1 x g k tp pl (isMark_in c_2)) (cwV 2 hts qX3_average_X3_wayInHundredths_154 rfl rfl rfl (by decide +kernel) ⟨Nat.le_of_ble_eq_true rfl, Nat.le_of_ble_eq_true rfl⟩) ⟨fun a U g mk q => by obtain ⟨q0, q1, qP, qK, qD, qN⟩ := q; exact ⟨q0, q1, qP, va_K.moved (u := U) (U := U.calling g mk a) (Vm.Alike.refl U.vm) qK, qD, nw_same (s := U) (U := U.calling g mk a) rfl qN⟩, va_recv hK hPc (ci := 3) (q0 := 0) rfl rfl, fun U hU hW => ⟨rfl, by rw [hU], by rw [hU]; exact hPc, va_K.moved hW.alike hK, hDc.weaken (fun _ _ _ _ => trivial), nw_warm hW hN⟩⟩ rfl rfl hl.1 rfl (lv_room (Nat.le_of_ble_eq_true rfl)) dX3_average_37 ⟨Nat.le_of_ble_eq_true rfl, Nat.le_of_ble_eq_true rfl⟩) hS (fun q _ h => hFc q h) hFc (fun r_12 _ t H1 locs ht hvm hw hB hz1 hk1 hS => ?_)
        obtain ⟨hP1, hK1, hD1⟩ := hB
        rw [ht] at hP1
        obtain ⟨hP, hD⟩ := va_join (wr := []) (w1 := [cX0 h0 n0 k0 t0 p0 x, cL0 n0 n1 n2 n3 g, cL1 cJ n1 g, cL2 cI n2 g, cL3 cI n3 g, cL0 k0 k1 k2 k3 k, cL1 cJ k1 k, cL2 cI k2 k, cL3 cI k3 k, cT0 t0 t1 tp, cT1 cI t1 tp, cP0 p0 p1 p2 p3 p4 p5 pl, cP1 cI p1 pl, cP2 cI p2 pl, cP3 cI p3 pl, cP4 cI p4 pl, cP5 cI p5 pl]) hP hD [0, 1, 2, 3, 4, 5, 6, 7, 8, 9, 10, 11, 12, 13, 14, 15, 16] [] rfl rfl (by decide) (by decide) hk1 hFc hP1 hD1
        generalize H1 = H at hP hS ⊢
        have hP : va_P (dC, dI) vwCl [cX0 h0 n0 k0 t0 p0 x, cL0 n0 n1 n2 n3 g, cL1 cJ n1 g, cL2 cI n2 g, cL3 cI n3 g, cL0 k0 k1 k2 k3 k, cL1 cJ k1 k, cL2 cI k2 k, cL3 cI k3 k, cT0 t0 t1 tp, cT1 cI t1 tp, cP0 p0 p1 p2 p3 p4 p5 pl, cP1 cI p1 pl, cP2 cI p2 pl, cP3 cI p3 pl, cP4 cI p4 pl, cP5 cI p5 pl] H := hP
        have hD : va_D A [cX0 h0 n0 k0 t0 p0 x, cL0 n0 n1 n2 n3 g, cL1 cJ n1 g, cL2 cI n2 g, cL3 cI n3 g, cL0 k0 k1 k2 k3 k, cL1 cJ k1 k, cL2 cI k2 k, cL3 cI k3 k, cT0 t0 t1 tp, cT1 cI t1 tp, cP0 p0 p1 p2 p3 p4 p5 pl, cP1 cI p1 pl, cP2 cI p2 pl, cP3 cI p3 pl, cP4 cI p4 pl, cP5 cI p5 pl] := hD
        subst hw
        refine lv_lstore (lv' := [(4, .long (rX3_wayInHundredths i 1 x g k tp pl)), (0, .ref h0), (1, .int i), (2, .int z), (3, .int wh)]) hx hb dX3_average_40 hl (by decide) rfl (fun ls hl => ?_)
        refine lv_lload hx hb dX3_average_42 (lv_at hl 0 rfl) ?_
        refine lv_lconst (v := 1) hx hb dX3_average_44 (by decide) ?_
        refine W.lcmp hx hb dX3_average_45 ?_
        refine lv_if_ge (tgt := 59) hx hb dX3_average_46 (by decide) (fun c_13 => ?_) (fun c_13 => ?_)
        · refine lv_aload_n hx hb dX3_average_59 rfl (lv_at hl 1 rfl) ?_
          refine va_get (D := (dC, dI)) (ci := 3) (v := .ref n0) (C := RX3) (T := TX3) (N := 12) hx hb hts hiX3 hown hK hP 0 rfl rfl 0 (by decide) (hts (.fieldLink RX3 10 "TripReckoner" "now" "LTripReckoner$Ledger;") (by decide +kernel)) (fun _ h9 => h9) rfl dX3_average_60 ?_
          refine lv_iload_n hx hb dX3_average_63 rfl (lv_at hl 2 rfl) ?_
          refine lv_iload_n hx hb dX3_average_64 rfl (lv_at hl 3 rfl) ?_
          refine lv_if_eq (tgt := 72) hx hb dX3_average_65 (by decide) (fun c_14 => ?_) (fun c_14 => absurd c_5 c_14)
          refine lv_iconst (v := 2) hx hb dX3_average_72 (by decide) ?_
          have hPc := hP.sub (ws' := [cL0 n0 n1 n2 n3 g, cL1 cJ n1 g, cL2 cI n2 g, cL3 cI n3 g]) [1, 2, 3, 4] rfl
          have hDc := hD.sub (ws' := [cL0 n0 n1 n2 n3 g, cL1 cJ n1 g, cL2 cI n2 g, cL3 cI n3 g]) [1, 2, 3, 4] (by decide) rfl
          have hFc := va_free (wc := [cL0 n0 n1 n2 n3 g, cL1 cJ n1 g, cL2 cI n2 g, cL3 cI n3 g]) hD hS hA [1, 2, 3, 4] rfl
          refine va_calll (va_runVN (As := [.int i, .int 2]) (rest := []) ⟨hx, hb, hml, hown, hts⟩ (kX0_marked l dC dI cI cJ n0 n1 n2 n3 H.size i 2 g (mk_in (isMark_in c_2) (vd (by decide +kernel)))) ⟨va_cnB 2 hts qX3_average_X0_marked_148 rfl rfl rfl (nw_m hN (.methodLinkNest RX3 148 yX0_marked "TripReckoner") (by decide +kernel)) (hts (.initialized RX0) (by decide +kernel)) (by decide +kernel) ⟨Nat.le_of_ble_eq_true rfl, Nat.le_of_ble_eq_true rfl⟩, (hts (.instanceMethod yX0_marked) (by decide +kernel)), (hts (.selects RX0 yX0_marked yX0_marked) (by decide +kernel))⟩ ⟨fun a U g mk q => by obtain ⟨q0, q1, qP, qK, qD⟩ := q; exact ⟨q0, q1, qP, va_K.moved (u := U) (U := U.calling g mk a) (Vm.Alike.refl U.vm) qK, qD⟩, va_recv hK hPc (ci := 0) (q0 := 0) rfl rfl, fun U hU hW => ⟨rfl, by rw [hU], by rw [hU]; exact hPc, va_K.moved hW.alike hK, hDc.weaken (fun _ _ _ _ => trivial)⟩⟩ rfl rfl hl.1 rfl (lv_room (Nat.le_of_ble_eq_true rfl)) dX3_average_73 ⟨Nat.le_of_ble_eq_true rfl, Nat.le_of_ble_eq_true rfl⟩) hS (fun q _ h => hFc q h) hFc (fun r_15 _ t H1 locs ht hvm hw hB hz1 hk1 hS => ?_)
          obtain ⟨hP1, hK1, hD1⟩ := hB
          rw [ht] at hP1
          obtain ⟨hP, hD⟩ := va_join (wr := [cX0 h0 n0 k0 t0 p0 x, cL0 k0 k1 k2 k3 k, cL1 cJ k1 k, cL2 cI k2 k, cL3 cI k3 k, cT0 t0 t1 tp, cT1 cI t1 tp, cP0 p0 p1 p2 p3 p4 p5 pl, cP1 cI p1 pl, cP2 cI p2 pl, cP3 cI p3 pl, cP4 cI p4 pl, cP5 cI p5 pl]) (w1 := [cL0 n0 n1 n2 n3 g, cL1 cJ n1 g, cL2 cI n2 g, cL3 cI n3 g]) hP hD [1, 2, 3, 4] [0, 5, 6, 7, 8, 9, 10, 11, 12, 13, 14, 15, 16] rfl rfl (by decide) (by decide) hk1 hFc hP1 hD1
          generalize H1 = H at hP hS ⊢
          have hP := hP.sub (ws' := [cX0 h0 n0 k0 t0 p0 x, cL0 n0 n1 n2 n3 g, cL1 cJ n1 g, cL2 cI n2 g, cL3 cI n3 g, cL0 k0 k1 k2 k3 k, cL1 cJ k1 k, cL2 cI k2 k, cL3 cI k3 k, cT0 t0 t1 tp, cT1 cI t1 tp, cP0 p0 p1 p2 p3 p4 p5 pl, cP1 cI p1 pl, cP2 cI p2 pl, cP3 cI p3 pl, cP4 cI p4 pl, cP5 cI p5 pl]) [0, 13, 14, 15, 16, 1, 2, 3, 4, 5, 6, 7, 8, 9, 10, 11, 12] rfl
          have hD := hD.sub (ws' := [cX0 h0 n0 k0 t0 p0 x, cL0 n0 n1 n2 n3 g, cL1 cJ n1 g, cL2 cI n2 g, cL3 cI n3 g, cL0 k0 k1 k2 k3 k, cL1 cJ k1 k, cL2 cI k2 k, cL3 cI k3 k, cT0 t0 t1 tp, cT1 cI t1 tp, cP0 p0 p1 p2 p3 p4 p5 pl, cP1 cI p1 pl, cP2 cI p2 pl, cP3 cI p3 pl, cP4 cI p4 pl, cP5 cI p5 pl]) [0, 13, 14, 15, 16, 1, 2, 3, 4, 5, 6, 7, 8, 9, 10, 11, 12] (by decide) rfl
          subst hw
          refine lv_ldc2 hx hb hown (hts (.constantLong RX3 162 (100000)) (by decide +kernel)) dX3_average_76 ?_
          refine lv_lmul hx hb dX3_average_79 ?_
          refine lv_lstore (lv' := [(6, .long ((rX0_marked i 2 g) * 100000)), (4, .long (rX3_wayInHundredths i 1 x g k tp pl)), (0, .ref h0), (1, .int i), (2, .int z), (3, .int wh)]) hx hb dX3_average_80 hl (by decide) rfl (fun ls hl => ?_)
          refine lv_lload hx hb dX3_average_82 (lv_at hl 1 rfl) ?_
          refine lv_lload hx hb dX3_average_84 (lv_at hl 0 rfl) ?_
          have hPc := hP.sub (ws' := []) [] rfl
          have hDc := hD.sub (ws' := []) [] (by decide) rfl
          have hFc := va_free (wc := []) hD hS hA [] rfl
          refine va_calll (va_runS (As := [.long (rX3_wayInHundredths i 1 x g k tp pl), .long ((rX0_marked i 2 g) * 100000)]) (rest := []) ⟨hx, hb, hml, hown, hts⟩ (kX3_commonDivisor l dC dI cI cJ H.size (rX3_wayInHundredths i 1 x g k tp pl) ((rX0_marked i 2 g) * 100000) ((hm (isMark_in c_2)).1 _) ((hm (isMark_in c_2)).2.1 _ (vd (by decide +kernel))) ((hm (isMark_in c_2)).2.2 _ _ (vd (by decide +kernel)))) (va_cwS 2 hts qX3_average_X3_commonDivisor_164 rfl rfl rfl (by decide +kernel) ⟨Nat.le_of_ble_eq_true rfl, Nat.le_of_ble_eq_true rfl⟩) ⟨fun a U g mk q => by obtain ⟨q0, q1, qP, qK, qD⟩ := q; exact ⟨q0, q1, qP, va_K.moved (u := U) (U := U.calling g mk a) (Vm.Alike.refl U.vm) qK, qD⟩, fun U hU hW => ⟨rfl, by rw [hU], by rw [hU]; exact hPc, va_K.moved hW.alike hK, hDc.weaken (fun _ _ _ _ => trivial)⟩⟩ rfl rfl hl.1 rfl (lv_room (Nat.le_of_ble_eq_true rfl)) dX3_average_86 ⟨Nat.le_of_ble_eq_true rfl, Nat.le_of_ble_eq_true rfl⟩) hS (fun q _ h => hFc q h) hFc (fun r_16 _ t H1 locs ht hvm hw hB hz1 hk1 hS => ?_)
          obtain ⟨hP1, hK1, hD1⟩ := hB
          rw [ht] at hP1
          obtain ⟨hP, hD⟩ := va_join (wr := [cX0 h0 n0 k0 t0 p0 x, cL0 n0 n1 n2 n3 g, cL1 cJ n1 g, cL2 cI n2 g, cL3 cI n3 g, cL0 k0 k1 k2 k3 k, cL1 cJ k1 k, cL2 cI k2 k, cL3 cI k3 k, cT0 t0 t1 tp, cT1 cI t1 tp, cP0 p0 p1 p2 p3 p4 p5 pl, cP1 cI p1 pl, cP2 cI p2 pl, cP3 cI p3 pl, cP4 cI p4 pl, cP5 cI p5 pl]) (w1 := []) hP hD [] [0, 1, 2, 3, 4, 5, 6, 7, 8, 9, 10, 11, 12, 13, 14, 15, 16] rfl rfl (by decide) (by decide) hk1 hFc hP1 hD1
          generalize H1 = H at hP hS ⊢
          have hP : va_P (dC, dI) vwCl [cX0 h0 n0 k0 t0 p0 x, cL0 n0 n1 n2 n3 g, cL1 cJ n1 g, cL2 cI n2 g, cL3 cI n3 g, cL0 k0 k1 k2 k3 k, cL1 cJ k1 k, cL2 cI k2 k, cL3 cI k3 k, cT0 t0 t1 tp, cT1 cI t1 tp, cP0 p0 p1 p2 p3 p4 p5 pl, cP1 cI p1 pl, cP2 cI p2 pl, cP3 cI p3 pl, cP4 cI p4 pl, cP5 cI p5 pl] H := hP
          have hD : va_D A [cX0 h0 n0 k0 t0 p0 x, cL0 n0 n1 n2 n3 g, cL1 cJ n1 g, cL2 cI n2 g, cL3 cI n3 g, cL0 k0 k1 k2 k3 k, cL1 cJ k1 k, cL2 cI k2 k, cL3 cI k3 k, cT0 t0 t1 tp, cT1 cI t1 tp, cP0 p0 p1 p2 p3 p4 p5 pl, cP1 cI p1 pl, cP2 cI p2 pl, cP3 cI p3 pl, cP4 cI p4 pl, cP5 cI p5 pl] := hD
          subst hw
          refine lv_lstore (lv' := [(8, .long (rX3_commonDivisor (rX3_wayInHundredths i 1 x g k tp pl) ((rX0_marked i 2 g) * 100000))), (6, .long ((rX0_marked i 2 g) * 100000)), (4, .long (rX3_wayInHundredths i 1 x g k tp pl)), (0, .ref h0), (1, .int i), (2, .int z), (3, .int wh)]) hx hb dX3_average_89 hl (by decide) rfl (fun ls hl => ?_)
          refine lv_iload_n hx hb dX3_average_91 rfl (lv_at hl 6 rfl) ?_
          refine lv_if_ne (tgt := 103) hx hb dX3_average_92 (by decide) (fun c_17 => ?_) (fun c_17 => ?_)
          · refine lv_lload hx hb dX3_average_103 (lv_at hl 2 rfl) ?_
            refine lv_lload hx hb dX3_average_105 (lv_at hl 0 rfl) ?_
            refine lv_ldiv hx hb dX3_average_107 (cd_ne0 ((hm (isMark_in c_2)).1 _) c_13) ?_
            have et : tX3_average i z wh x g k tp pl = 0 := by rw [tX3_average, if_neg c_2, if_neg c_4, if_pos c_5, if_pos c_13, if_neg c_17]
            have er : (rX3_wayInHundredths i 1 x g k tp pl) / (rX3_commonDivisor (rX3_wayInHundredths i 1 x g k tp pl) ((rX0_marked i 2 g) * 100000)) = rX3_average i z wh x g k tp pl := by rw [rX3_average, if_neg c_2, if_neg c_4, if_pos c_5, if_pos c_13, if_neg c_17]
            refine vx_ret (W.widen (k := 1) (n := 6) (Nat.le_of_ble_eq_true rfl) (Nat.le_of_ble_eq_true rfl) ?_)
            refine W.lret (v := (rX3_wayInHundredths i 1 x g k tp pl) / (rX3_commonDivisor (rX3_wayInHundredths i 1 x g k tp pl) ((rX0_marked i 2 g) * 100000))) hx hb hr (fun t ht hW => ⟨⟨(rX3_wayInHundredths i 1 x g k tp pl) / (rX3_commonDivisor (rX3_wayInHundredths i 1 x g k tp pl) ((rX0_marked i 2 g) * 100000)), (), rfl, ⟨er, et⟩, ?_⟩, hS.F ht⟩) hS.2.2 dX3_average_108
            exact ⟨by rw [ht]; exact hP, va_K.moved hW.alike hK, hD⟩
          · refine lv_lload hx hb dX3_average_95 (lv_at hl 1 rfl) ?_
            refine lv_lload hx hb dX3_average_97 (lv_at hl 0 rfl) ?_
            refine lv_ldiv hx hb dX3_average_99 (cd_ne0 ((hm (isMark_in c_2)).1 _) c_13) ?_
            refine lv_goto (tgt := 108) hx hb dX3_average_100 (by decide) ?_
            have et : tX3_average i z wh x g k tp pl = 0 := by rw [tX3_average, if_neg c_2, if_neg c_4, if_pos c_5, if_pos c_13, if_pos c_17]
            have er : ((rX0_marked i 2 g) * 100000) / (rX3_commonDivisor (rX3_wayInHundredths i 1 x g k tp pl) ((rX0_marked i 2 g) * 100000)) = rX3_average i z wh x g k tp pl := by rw [rX3_average, if_neg c_2, if_neg c_4, if_pos c_5, if_pos c_13, if_pos c_17]
            refine vx_ret (W.widen (k := 1) (n := 6) (Nat.le_of_ble_eq_true rfl) (Nat.le_of_ble_eq_true rfl) ?_)
            refine W.lret (v := ((rX0_marked i 2 g) * 100000) / (rX3_commonDivisor (rX3_wayInHundredths i 1 x g k tp pl) ((rX0_marked i 2 g) * 100000))) hx hb hr (fun t ht hW => ⟨⟨((rX0_marked i 2 g) * 100000) / (rX3_commonDivisor (rX3_wayInHundredths i 1 x g k tp pl) ((rX0_marked i 2 g) * 100000)), (), rfl, ⟨er, et⟩, ?_⟩, hS.F ht⟩) hS.2.2 dX3_average_108
            exact ⟨by rw [ht]; exact hP, va_K.moved hW.alike hK, hD⟩
        · have et : tX3_average i z wh x g k tp pl = 1 := by rw [tX3_average, if_neg c_2, if_neg c_4, if_pos c_5, if_neg c_13]
          obtain ⟨sa, hsa⟩ := hQ.2.2.2.1
          exact xt_throw hx hb hl9 hown (hts (.classLink RX3 141 xtN) (by decide +kernel)) (hts (.initialized xtN) (by decide +kernel)) hsa (xb_hat (fun w9 h9 => hts w9 (List.mem_cons_of_mem _ (List.mem_append_right _ h9))) hQ.1) xt_good hQ.2.2.2.2.2.1 hQ.2.2.2.2.2.2 hS (by rw [hml]; exact hl.1) dX3_average_49 dX3_average_52 dX3_average_53 dX3_average_55 dX3_average_58 (fun x hx9 => (hEx x hx9).elim) (Nat.le_of_ble_eq_true rfl) (Nat.le_of_ble_eq_true rfl) (Nat.le_of_ble_eq_true rfl) (Nat.le_of_ble_eq_true rfl) hlocks (fun t hvm hz hk => ⟨(), et, ⟨rfl, hP.kept (fun k x hk9 => hk x.1 (hP k x hk9).lt), va_K.moved hvm hK, hD⟩, ⟨Nat.le_trans hS.1 hz, fun q h1 h2 => (hk q (Nat.lt_of_lt_of_le h1 hS.1)).trans (hS.2.1 q h1 h2)⟩⟩) hS.2.2 (Nat.le_of_ble_eq_true rfl) (Nat.le_of_ble_eq_true rfl)
    · have et : tX3_average i z wh x g k tp pl = 1 := by rw [tX3_average, if_neg c_2, if_pos c_4]
      obtain ⟨sa, hsa⟩ := hQ.2.1
      exact xt_throw hx hb hl9 hown (hts (.classLink RX3 141 xtN) (by decide +kernel)) (hts (.initialized xtN) (by decide +kernel)) hsa (xb_hat (fun w9 h9 => hts w9 (List.mem_cons_of_mem _ (List.mem_append_right _ h9))) hQ.1) xt_good hQ.2.2.2.2.2.1 hQ.2.2.2.2.2.2 hS (by rw [hml]; exact hl.1) dX3_average_16 dX3_average_19 dX3_average_20 dX3_average_22 dX3_average_25 (fun x hx9 => (hEx x hx9).elim) (Nat.le_of_ble_eq_true rfl) (Nat.le_of_ble_eq_true rfl) (Nat.le_of_ble_eq_true rfl) (Nat.le_of_ble_eq_true rfl) hlocks (fun t hvm hz hk => ⟨(), et, ⟨rfl, hP.kept (fun k x hk9 => hk x.1 (hP k x hk9).lt), va_K.moved hvm hK, hD⟩, ⟨Nat.le_trans hS.1 hz, fun q h1 h2 => (hk q (Nat.lt_of_lt_of_le h1 hS.1)).trans (hS.2.1 q h1 h2)⟩⟩) hS.2.2 (Nat.le_of_ble_eq_true rfl) (Nat.le_of_ble_eq_true rfl)
