def rJ6_compare_7cf53 (x : Int32) (y : Int32) : Int32 :=
  if y ≤ x then
    if x = y then
      0
    else
      1
  else
    (-1)
set_option maxHeartbeats 4000000 in
set_option maxRecDepth 100000 in
theorem kJ6_compare_7cf53 (l : Launch) (dC : Nat → ClassId) (dI : Nat → Nat → Nat) (cI cJ : ClassId) (sz : Nat) (x : Int32) (y : Int32)  : Met l yJ6_compare_7cf53 wsJ6_compare_7cf53 ({ frames := 0, cells := 0, slots := 0, locals := 0 }) (va_Pc [.int x, .int y] (fun U => U.heap.size = sz ∧ va_P (dC, dI) vwCl [] U.heap ∧ va_K (dC, dI) vwCl [(cI, .int), (cJ, .long)] U ∧ va_D (fun _ => True) [])) (va_Qi (fun (r : Int32) (_ : Unit) => r = rJ6_compare_7cf53 x y) (fun _ t => va_P (dC, dI) vwCl [] t.heap ∧ va_K (dC, dI) vwCl [(cI, .int), (cJ, .long)] t ∧ va_D (va_A [] sz) []) (va_A [] sz)) 0 0 (va_A [] sz) := by
  refine Met.ofW (cc := cJ6_compare_7cf53) (maxL := 2) (ret := (some .int)) (by decide) rfl ?_
  intro p e s m args below meth c s₁ B hml hv
  obtain ⟨rfl, hsz, hP, hK, hD0⟩ := hv
  have hx := B.exec
  have hb := B.bytes
  have hr := B.returns
  have hts := atoms_spec (ws := wsJ6_compare_7cf53) B.pre
  have hown : s.vm.findClass RJ6 = some m.cls := findClass_of_methodNamed B.named
  have hlocks := B.notSynchronized
  subst hsz
  have hD := hD0.self (sz := s.heap.size)
  generalize hAe : va_A [] s.heap.size = A at hD ⊢
  have hA : ∀ q : Nat, s.heap.size ≤ q → A q := fun q h => by rw [← hAe]; exact Or.inr h
  have hS : va_S A s.heap s.heap [] := va_S.rf
  have hl := lv_entry ([.int x, .int y]) (n := 2) (Nat.le_of_ble_eq_true rfl)
  rw [lg_entry_eq]
  generalize (lg_sl ([.int x, .int y]) ++ List.replicate (2 - (lg_sl ([.int x, .int y])).length) Slot.unset).toArray = ls at hl ⊢
  have hl : lv_has ls 2 [(0, .int x), (1, .int y)] := hl
  have hP : va_P (dC, dI) vwCl [] s.heap := hP
  refine lv_iload_n hx hb dJ6_compare_7cf53_0 rfl (lv_at hl 0 rfl) ?_
  refine lv_iload_n hx hb dJ6_compare_7cf53_1 rfl (lv_at hl 1 rfl) ?_
  refine lv_icmp_ge (tgt := 9) hx hb dJ6_compare_7cf53_2 (by decide) (fun c_1 => ?_) (fun c_1 => ?_)
  · refine lv_iload_n hx hb dJ6_compare_7cf53_9 rfl (lv_at hl 0 rfl) ?_
    refine lv_iload_n hx hb dJ6_compare_7cf53_10 rfl (lv_at hl 1 rfl) ?_
    refine lv_icmp_ne (tgt := 18) hx hb dJ6_compare_7cf53_11 (by decide) (fun c_2 => ?_) (fun c_2 => ?_)
    · refine lv_iconst (v := 1) hx hb dJ6_compare_7cf53_18 (by decide) ?_
      have er : 1 = rJ6_compare_7cf53 x y := by rw [rJ6_compare_7cf53, if_pos c_1, if_neg c_2]
      refine W.iret (v := 1) hx hb hr (fun t ht hW => ⟨⟨1, (), rfl, er, ?_⟩, hS.F ht⟩) hS.2.2 dJ6_compare_7cf53_19
      exact ⟨by rw [ht]; exact hP, va_K.moved hW.alike hK, hD⟩
    · refine lv_iconst (v := 0) hx hb dJ6_compare_7cf53_14 (by decide) ?_
      refine lv_goto (tgt := 19) hx hb dJ6_compare_7cf53_15 (by decide) ?_
      have er : 0 = rJ6_compare_7cf53 x y := by rw [rJ6_compare_7cf53, if_pos c_1, if_pos c_2]
      refine W.iret (v := 0) hx hb hr (fun t ht hW => ⟨⟨0, (), rfl, er, ?_⟩, hS.F ht⟩) hS.2.2 dJ6_compare_7cf53_19
      exact ⟨by rw [ht]; exact hP, va_K.moved hW.alike hK, hD⟩
  · refine lv_iconst (v := (-1)) hx hb dJ6_compare_7cf53_5 (by decide) ?_
    refine lv_goto (tgt := 19) hx hb dJ6_compare_7cf53_6 (by decide) ?_
    have er : (-1) = rJ6_compare_7cf53 x y := by rw [rJ6_compare_7cf53, if_neg c_1]
    refine W.iret (v := (-1)) hx hb hr (fun t ht hW => ⟨⟨(-1), (), rfl, er, ?_⟩, hS.F ht⟩) hS.2.2 dJ6_compare_7cf53_19
    exact ⟨by rw [ht]; exact hP, va_K.moved hW.alike hK, hD⟩

def rX0_truth (g : LG) : Int32 :=
  (g.1 + g.2.1) / 2000
set_option maxHeartbeats 4000000 in
set_option maxRecDepth 100000 in
theorem kX0_truth (l : Launch) (dC : Nat → ClassId) (dI : Nat → Nat → Nat) (cI cJ : ClassId) (h0 h1 h2 h3 : Nat) (sz : Nat)  (g : LG) : Met l yX0_truth wsX0_truth ({ frames := 0, cells := 0, slots := 0, locals := 0 }) (va_Pc [.ref h0] (fun U => U.heap.size = sz ∧ va_P (dC, dI) vwCl [cL0 h0 h1 h2 h3 g, cL1 cJ h1 g, cL2 cI h2 g, cL3 cI h3 g] U.heap ∧ va_K (dC, dI) vwCl [(cI, .int), (cJ, .long)] U ∧ va_D (fun _ => True) [cL0 h0 h1 h2 h3 g, cL1 cJ h1 g, cL2 cI h2 g, cL3 cI h3 g])) (va_Qi (fun (r : Int32) (_ : Unit) => r = rX0_truth g) (fun _ t => va_P (dC, dI) vwCl [cL0 h0 h1 h2 h3 g, cL1 cJ h1 g, cL2 cI h2 g, cL3 cI h3 g] t.heap ∧ va_K (dC, dI) vwCl [(cI, .int), (cJ, .long)] t ∧ va_D (va_A [cL0 h0 h1 h2 h3 g, cL1 cJ h1 g, cL2 cI h2 g, cL3 cI h3 g] sz) [cL0 h0 h1 h2 h3 g, cL1 cJ h1 g, cL2 cI h2 g, cL3 cI h3 g]) (va_A [cL0 h0 h1 h2 h3 g, cL1 cJ h1 g, cL2 cI h2 g, cL3 cI h3 g] sz)) 0 0 (va_A [cL0 h0 h1 h2 h3 g, cL1 cJ h1 g, cL2 cI h2 g, cL3 cI h3 g] sz) := by
  refine Met.ofW (cc := cX0_truth) (maxL := 1) (ret := (some .int)) (by decide) rfl ?_
  intro p e s m args below meth c s₁ B hml hv
  obtain ⟨rfl, hsz, hP, hK, hD0⟩ := hv
  have hx := B.exec
  have hb := B.bytes
  have hr := B.returns
  have hts := atoms_spec (ws := wsX0_truth) B.pre
  have hown : s.vm.findClass RX0 = some m.cls := findClass_of_methodNamed B.named
  have hlocks := B.notSynchronized
  have hiX0 : ∀ w ∈ u_ws RX0 TX0 15, w ∈ wsX0_truth := by decide +kernel
  subst hsz
  have hD := hD0.self (sz := s.heap.size)
  generalize hAe : va_A [cL0 h0 h1 h2 h3 g, cL1 cJ h1 g, cL2 cI h2 g, cL3 cI h3 g] s.heap.size = A at hD ⊢
  have hA : ∀ q : Nat, s.heap.size ≤ q → A q := fun q h => by rw [← hAe]; exact Or.inr h
  have hS : va_S A s.heap s.heap [] := va_S.rf
  have hl := lv_entry ([.ref h0]) (n := 1) (Nat.le_of_ble_eq_true rfl)
  rw [lg_entry_eq]
  generalize (lg_sl ([.ref h0]) ++ List.replicate (1 - (lg_sl ([.ref h0])).length) Slot.unset).toArray = ls at hl ⊢
  have hl : lv_has ls 1 [(0, .ref h0)] := hl
  have hP : va_P (dC, dI) vwCl [cL0 h0 h1 h2 h3 g, cL1 cJ h1 g, cL2 cI h2 g, cL3 cI h3 g] s.heap := hP
  refine lv_aload_n hx hb dX0_truth_0 rfl (lv_at hl 0 rfl) ?_
  refine va_get (D := (dC, dI)) (ci := 0) (v := .int g.1) (C := RX0) (T := TX0) (N := 15) hx hb hts hiX0 hown hK hP 0 rfl rfl 0 (by decide) (hts (.fieldLink RX0 22 "TripReckoner$Ledger" "spanLeast" "I") (by decide +kernel)) (fun _ h9 => h9) rfl dX0_truth_1 ?_
  refine lv_aload_n hx hb dX0_truth_4 rfl (lv_at hl 0 rfl) ?_
  refine va_get (D := (dC, dI)) (ci := 0) (v := .int g.2.1) (C := RX0) (T := TX0) (N := 15) hx hb hts hiX0 hown hK hP 0 rfl rfl 1 (by decide) (hts (.fieldLink RX0 26 "TripReckoner$Ledger" "spanGreatest" "I") (by decide +kernel)) (fun _ h9 => h9) rfl dX0_truth_5 ?_
  refine lv_iadd hx hb dX0_truth_8 ?_
  refine lv_sipush (v := 2000) hx hb dX0_truth_9 (by decide) ?_
  refine lv_idiv hx hb dX0_truth_12 (by decide) ?_
  have er : (g.1 + g.2.1) / 2000 = rX0_truth g := by rw [rX0_truth]
  refine W.iret (v := (g.1 + g.2.1) / 2000) hx hb hr (fun t ht hW => ⟨⟨(g.1 + g.2.1) / 2000, (), rfl, er, ?_⟩, hS.F ht⟩) hS.2.2 dX0_truth_13
  exact ⟨by rw [ht]; exact hP, va_K.moved hW.alike hK, hD⟩

def sX0_showStep (g : LG) : LG :=
  (g.1, g.2.1, g.2.2.1, g.2.2.2.1, g.2.2.2.2.1, g.2.2.2.2.2.1, g.2.2.2.2.2.2.1 + (rJ6_compare_7cf53 (rX0_truth g) g.2.2.2.2.2.2.1), g.2.2.2.2.2.2.2.1, g.2.2.2.2.2.2.2.2.1, g.2.2.2.2.2.2.2.2.2.1, g.2.2.2.2.2.2.2.2.2.2.1, g.2.2.2.2.2.2.2.2.2.2.2.1, g.2.2.2.2.2.2.2.2.2.2.2.2.1, g.2.2.2.2.2.2.2.2.2.2.2.2.2.1, g.2.2.2.2.2.2.2.2.2.2.2.2.2.2)
set_option maxHeartbeats 4000000 in
set_option maxRecDepth 100000 in
theorem kX0_showStep (l : Launch) (dC : Nat → ClassId) (dI : Nat → Nat → Nat) (cI cJ : ClassId) (h0 h1 h2 h3 : Nat) (sz : Nat)  (g : LG) : Met l yX0_showStep wsX0_showStep ({ frames := 1, cells := 0, slots := 0, locals := 21 }) (va_Pc [.ref h0] (fun U => U.heap.size = sz ∧ va_P (dC, dI) vwCl [cL0 h0 h1 h2 h3 g, cL1 cJ h1 g, cL2 cI h2 g, cL3 cI h3 g] U.heap ∧ va_K (dC, dI) vwCl [(cI, .int), (cJ, .long)] U ∧ va_D (fun _ => True) [cL0 h0 h1 h2 h3 g, cL1 cJ h1 g, cL2 cI h2 g, cL3 cI h3 g])) (va_Qv (fun _ : Unit => True) (fun _ t => va_P (dC, dI) vwCl [cL0 h0 h1 h2 h3 (sX0_showStep g), cL1 cJ h1 (sX0_showStep g), cL2 cI h2 (sX0_showStep g), cL3 cI h3 (sX0_showStep g)] t.heap ∧ va_K (dC, dI) vwCl [(cI, .int), (cJ, .long)] t ∧ va_D (va_A [cL0 h0 h1 h2 h3 g, cL1 cJ h1 g, cL2 cI h2 g, cL3 cI h3 g] sz) [cL0 h0 h1 h2 h3 (sX0_showStep g), cL1 cJ h1 (sX0_showStep g), cL2 cI h2 (sX0_showStep g), cL3 cI h3 (sX0_showStep g)]) (va_A [cL0 h0 h1 h2 h3 g, cL1 cJ h1 g, cL2 cI h2 g, cL3 cI h3 g] sz)) 0 0 (va_A [cL0 h0 h1 h2 h3 g, cL1 cJ h1 g, cL2 cI h2 g, cL3 cI h3 g] sz) := by
  refine Met.ofW (cc := cX0_showStep) (maxL := 1) (ret := none) (by decide) rfl ?_
  intro p e s m args below meth c s₁ B hml hv
  obtain ⟨rfl, hsz, hP, hK, hD0⟩ := hv
  have hx := B.exec
  have hb := B.bytes
  have hr := B.returns
  have hts := atoms_spec (ws := wsX0_showStep) B.pre
  have hown : s.vm.findClass RX0 = some m.cls := findClass_of_methodNamed B.named
  have hlocks := B.notSynchronized
  have hiX0 : ∀ w ∈ u_ws RX0 TX0 15, w ∈ wsX0_showStep := by decide +kernel
  subst hsz
  have hD := hD0.self (sz := s.heap.size)
  generalize hAe : va_A [cL0 h0 h1 h2 h3 g, cL1 cJ h1 g, cL2 cI h2 g, cL3 cI h3 g] s.heap.size = A at hD ⊢
  have hA : ∀ q : Nat, s.heap.size ≤ q → A q := fun q h => by rw [← hAe]; exact Or.inr h
  have hS : va_S A s.heap s.heap [] := va_S.rf
  have hl := lv_entry ([.ref h0]) (n := 1) (Nat.le_of_ble_eq_true rfl)
  rw [lg_entry_eq]
  generalize (lg_sl ([.ref h0]) ++ List.replicate (1 - (lg_sl ([.ref h0])).length) Slot.unset).toArray = ls at hl ⊢
  have hl : lv_has ls 1 [(0, .ref h0)] := hl
  have hP : va_P (dC, dI) vwCl [cL0 h0 h1 h2 h3 g, cL1 cJ h1 g, cL2 cI h2 g, cL3 cI h3 g] s.heap := hP
  refine lv_aload_n hx hb dX0_showStep_0 rfl (lv_at hl 0 rfl) ?_
  refine lv_dup hx hb dX0_showStep_1 rfl ?_
  refine va_get (D := (dC, dI)) (ci := 0) (v := .int g.2.2.2.2.2.2.1) (C := RX0) (T := TX0) (N := 15) hx hb hts hiX0 hown hK hP 0 rfl rfl 6 (by decide) (hts (.fieldLink RX0 41 "TripReckoner$Ledger" "shownLitres" "I") (by decide +kernel)) (fun _ h9 => h9) rfl dX0_showStep_2 ?_
  refine lv_aload_n hx hb dX0_showStep_5 rfl (lv_at hl 0 rfl) ?_
  have hPc := hP.sub (ws' := [cL0 h0 h1 h2 h3 g, cL1 cJ h1 g, cL2 cI h2 g, cL3 cI h3 g]) [0, 1, 2, 3] rfl
  have hDc := hD.sub (ws' := [cL0 h0 h1 h2 h3 g, cL1 cJ h1 g, cL2 cI h2 g, cL3 cI h3 g]) [0, 1, 2, 3] (by decide) rfl
  have hFc := va_free (wc := [cL0 h0 h1 h2 h3 g, cL1 cJ h1 g, cL2 cI h2 g, cL3 cI h3 g]) hD hS hA [0, 1, 2, 3] rfl
  refine va_calli (va_runV (As := []) (rest := [.int g.2.2.2.2.2.2.1, .ref h0]) ⟨hx, hb, hml, hown, hts⟩ (kX0_truth l dC dI cI cJ h0 h1 h2 h3 s.heap.size g) (cwV 0 hts gX0_showStep_X0_truth rfl rfl rfl (by decide +kernel) ⟨Nat.le_of_ble_eq_true rfl, Nat.le_of_ble_eq_true rfl⟩) ⟨fun a U g mk q => by obtain ⟨q0, q1, qP, qK, qD⟩ := q; exact ⟨q0, q1, qP, va_K.moved (u := U) (U := U.calling g mk a) (Vm.Alike.refl U.vm) qK, qD⟩, va_recv hK hPc (ci := 0) (q0 := 0) rfl rfl, fun U hU hW => ⟨rfl, by rw [hU], by rw [hU]; exact hPc, va_K.moved hW.alike hK, hDc.weaken (fun _ _ _ _ => trivial)⟩⟩ rfl rfl hl.1 rfl (lv_room (Nat.le_of_ble_eq_true rfl)) dX0_showStep_6 ⟨Nat.le_of_ble_eq_true rfl, Nat.le_of_ble_eq_true rfl⟩) hS (fun q _ h => hFc q h) hFc (fun r_1 _ t H1 locs ht hvm hw hB hz1 hk1 hS => ?_)
  obtain ⟨hP1, hK1, hD1⟩ := hB
  rw [ht] at hP1
  obtain ⟨hP, hD⟩ := va_join (wr := []) (w1 := [cL0 h0 h1 h2 h3 g, cL1 cJ h1 g, cL2 cI h2 g, cL3 cI h3 g]) hP hD [0, 1, 2, 3] [] rfl rfl (by decide) (by decide) hk1 hFc hP1 hD1
  generalize H1 = H at hP hS ⊢
  have hP : va_P (dC, dI) vwCl [cL0 h0 h1 h2 h3 g, cL1 cJ h1 g, cL2 cI h2 g, cL3 cI h3 g] H := hP
  have hD : va_D A [cL0 h0 h1 h2 h3 g, cL1 cJ h1 g, cL2 cI h2 g, cL3 cI h3 g] := hD
  subst hw
  refine lv_aload_n hx hb dX0_showStep_9 rfl (lv_at hl 0 rfl) ?_
  refine va_get (D := (dC, dI)) (ci := 0) (v := .int g.2.2.2.2.2.2.1) (C := RX0) (T := TX0) (N := 15) hx hb hts hiX0 hown hK hP 0 rfl rfl 6 (by decide) (hts (.fieldLink RX0 41 "TripReckoner$Ledger" "shownLitres" "I") (by decide +kernel)) (fun _ h9 => h9) rfl dX0_showStep_10 ?_
  have hPc := hP.sub (ws' := []) [] rfl
  have hDc := hD.sub (ws' := []) [] (by decide) rfl
  have hFc := va_free (wc := []) hD hS hA [] rfl
  refine va_calli (va_runS (As := [.int (rX0_truth g), .int g.2.2.2.2.2.2.1]) (rest := [.int g.2.2.2.2.2.2.1, .ref h0]) ⟨hx, hb, hml, hown, hts⟩ (kJ6_compare_7cf53 l dC dI cI cJ H.size (rX0_truth g) g.2.2.2.2.2.2.1) (va_cwS 2 hts gX0_showStep_J6_compare_7cf53 rfl rfl rfl (by decide +kernel) ⟨Nat.le_of_ble_eq_true rfl, Nat.le_of_ble_eq_true rfl⟩) ⟨fun a U g mk q => by obtain ⟨q0, q1, qP, qK, qD⟩ := q; exact ⟨q0, q1, qP, va_K.moved (u := U) (U := U.calling g mk a) (Vm.Alike.refl U.vm) qK, qD⟩, fun U hU hW => ⟨rfl, by rw [hU], by rw [hU]; exact hPc, va_K.moved hW.alike hK, hDc.weaken (fun _ _ _ _ => trivial)⟩⟩ rfl rfl hl.1 rfl (lv_room (Nat.le_of_ble_eq_true rfl)) dX0_showStep_13 ⟨Nat.le_of_ble_eq_true rfl, Nat.le_of_ble_eq_true rfl⟩) hS (fun q _ h => hFc q h) hFc (fun r_2 _ t H1 locs ht hvm hw hB hz1 hk1 hS => ?_)
  obtain ⟨hP1, hK1, hD1⟩ := hB
  rw [ht] at hP1
  obtain ⟨hP, hD⟩ := va_join (wr := [cL0 h0 h1 h2 h3 g, cL1 cJ h1 g, cL2 cI h2 g, cL3 cI h3 g]) (w1 := []) hP hD [] [0, 1, 2, 3] rfl rfl (by decide) (by decide) hk1 hFc hP1 hD1
  generalize H1 = H at hP hS ⊢
  have hP : va_P (dC, dI) vwCl [cL0 h0 h1 h2 h3 g, cL1 cJ h1 g, cL2 cI h2 g, cL3 cI h3 g] H := hP
  have hD : va_D A [cL0 h0 h1 h2 h3 g, cL1 cJ h1 g, cL2 cI h2 g, cL3 cI h3 g] := hD
  subst hw
  refine lv_iadd hx hb dX0_showStep_16 ?_
  refine va_put (D := (dC, dI)) (ci := 0) (v := .int (g.2.2.2.2.2.2.1 + (rJ6_compare_7cf53 (rX0_truth g) g.2.2.2.2.2.2.1))) (ty := .int) (C := RX0) (T := TX0) (N := 15) hx hb hts hiX0 tyX0 tyX0_ok nmX0 hown hK hP hD hS 0 rfl rfl 6 (by decide) (hts (.fieldLink RX0 41 "TripReckoner$Ledger" "shownLitres" "I") (by decide +kernel)) (fun _ h9 => h9) rfl (by decide +kernel) rfl rfl (Nat.le_of_ble_eq_true rfl) dX0_showStep_17 (fun H locs hP hD hS => ?_)
  have hP : va_P (dC, dI) vwCl [(h0, .inr (0, [.int g.1, .int g.2.1, .int g.2.2.1, .int g.2.2.2.1, .int g.2.2.2.2.1, .int g.2.2.2.2.2.1, .int (g.2.2.2.2.2.2.1 + (rJ6_compare_7cf53 (rX0_truth g) g.2.2.2.2.2.2.1)), .int g.2.2.2.2.2.2.2.1, .int g.2.2.2.2.2.2.2.2.1, .int g.2.2.2.2.2.2.2.2.2.1, .long g.2.2.2.2.2.2.2.2.2.2.1, .long g.2.2.2.2.2.2.2.2.2.2.2.1, .ref h1, .ref h2, .ref h3])), (h1, .inl (cJ, 20, .inr (.inl g.2.2.2.2.2.2.2.2.2.2.2.2.1))), (h2, .inl (cI, 30, .inl g.2.2.2.2.2.2.2.2.2.2.2.2.2.1)), (h3, .inl (cI, 30, .inl g.2.2.2.2.2.2.2.2.2.2.2.2.2.2))] H := hP
  have hD : va_D A [(h0, .inr (0, [.int g.1, .int g.2.1, .int g.2.2.1, .int g.2.2.2.1, .int g.2.2.2.2.1, .int g.2.2.2.2.2.1, .int (g.2.2.2.2.2.2.1 + (rJ6_compare_7cf53 (rX0_truth g) g.2.2.2.2.2.2.1)), .int g.2.2.2.2.2.2.2.1, .int g.2.2.2.2.2.2.2.2.1, .int g.2.2.2.2.2.2.2.2.2.1, .long g.2.2.2.2.2.2.2.2.2.2.1, .long g.2.2.2.2.2.2.2.2.2.2.2.1, .ref h1, .ref h2, .ref h3])), (h1, .inl (cJ, 20, .inr (.inl g.2.2.2.2.2.2.2.2.2.2.2.2.1))), (h2, .inl (cI, 30, .inl g.2.2.2.2.2.2.2.2.2.2.2.2.2.1)), (h3, .inl (cI, 30, .inl g.2.2.2.2.2.2.2.2.2.2.2.2.2.2))] := hD
  have es0 : sX0_showStep g = (g.1, g.2.1, g.2.2.1, g.2.2.2.1, g.2.2.2.2.1, g.2.2.2.2.2.1, g.2.2.2.2.2.2.1 + (rJ6_compare_7cf53 (rX0_truth g) g.2.2.2.2.2.2.1), g.2.2.2.2.2.2.2.1, g.2.2.2.2.2.2.2.2.1, g.2.2.2.2.2.2.2.2.2.1, g.2.2.2.2.2.2.2.2.2.2.1, g.2.2.2.2.2.2.2.2.2.2.2.1, g.2.2.2.2.2.2.2.2.2.2.2.2.1, g.2.2.2.2.2.2.2.2.2.2.2.2.2.1, g.2.2.2.2.2.2.2.2.2.2.2.2.2.2) := by rw [sX0_showStep]
  refine W.vret hx hb hr (fun t ht hW => ⟨⟨(), rfl, trivial, ?_⟩, hS.F ht⟩) hS.2.2 dX0_showStep_20
  rw [es0]; exact ⟨by rw [ht]; exact hP, va_K.moved hW.alike hK, hD⟩

def sX0_burn (fuel : Int32) (g : LG) : LG :=
  if fuel ≤ g.2.1 then
    (if 0 < (g.1 - fuel) then (g.1 - fuel) else 0, if 0 < (g.2.1 - fuel) then (g.2.1 - fuel) else 0, g.2.2.1, g.2.2.2.1, g.2.2.2.2.1, g.2.2.2.2.2.1, g.2.2.2.2.2.2.1, g.2.2.2.2.2.2.2.1, g.2.2.2.2.2.2.2.2.1, g.2.2.2.2.2.2.2.2.2.1, g.2.2.2.2.2.2.2.2.2.2.1, g.2.2.2.2.2.2.2.2.2.2.2.1, g.2.2.2.2.2.2.2.2.2.2.2.2.1, g.2.2.2.2.2.2.2.2.2.2.2.2.2.1, g.2.2.2.2.2.2.2.2.2.2.2.2.2.2)
  else
    (if 0 < (g.1 - fuel) then (g.1 - fuel) else 0, if 0 < (g.2.1 - fuel) then (g.2.1 - fuel) else 0, g.2.2.1, g.2.2.2.1, g.2.2.2.2.1 + 1, g.2.2.2.2.2.1, g.2.2.2.2.2.2.1, 0, g.2.2.2.2.2.2.2.2.1, g.2.2.2.2.2.2.2.2.2.1, g.2.2.2.2.2.2.2.2.2.2.1, g.2.2.2.2.2.2.2.2.2.2.2.1, g.2.2.2.2.2.2.2.2.2.2.2.2.1, g.2.2.2.2.2.2.2.2.2.2.2.2.2.1, g.2.2.2.2.2.2.2.2.2.2.2.2.2.2)
set_option maxHeartbeats 4000000 in
set_option maxRecDepth 100000 in
theorem kX0_burn (l : Launch) (dC : Nat → ClassId) (dI : Nat → Nat → Nat) (cI cJ : ClassId) (h0 h1 h2 h3 : Nat) (sz : Nat) (fuel : Int32) (g : LG) : Met l yX0_burn wsX0_burn ({ frames := 1, cells := 0, slots := 0, locals := 23 }) (va_Pc [.ref h0, .int fuel] (fun U => U.heap.size = sz ∧ va_P (dC, dI) vwCl [cL0 h0 h1 h2 h3 g, cL1 cJ h1 g, cL2 cI h2 g, cL3 cI h3 g] U.heap ∧ va_K (dC, dI) vwCl [(cI, .int), (cJ, .long)] U ∧ va_D (fun _ => True) [cL0 h0 h1 h2 h3 g, cL1 cJ h1 g, cL2 cI h2 g, cL3 cI h3 g])) (va_Qv (fun _ : Unit => True) (fun _ t => va_P (dC, dI) vwCl [cL0 h0 h1 h2 h3 (sX0_burn fuel g), cL1 cJ h1 (sX0_burn fuel g), cL2 cI h2 (sX0_burn fuel g), cL3 cI h3 (sX0_burn fuel g)] t.heap ∧ va_K (dC, dI) vwCl [(cI, .int), (cJ, .long)] t ∧ va_D (va_A [cL0 h0 h1 h2 h3 g, cL1 cJ h1 g, cL2 cI h2 g, cL3 cI h3 g] sz) [cL0 h0 h1 h2 h3 (sX0_burn fuel g), cL1 cJ h1 (sX0_burn fuel g), cL2 cI h2 (sX0_burn fuel g), cL3 cI h3 (sX0_burn fuel g)]) (va_A [cL0 h0 h1 h2 h3 g, cL1 cJ h1 g, cL2 cI h2 g, cL3 cI h3 g] sz)) 0 0 (va_A [cL0 h0 h1 h2 h3 g, cL1 cJ h1 g, cL2 cI h2 g, cL3 cI h3 g] sz) := by
  refine Met.ofW (cc := cX0_burn) (maxL := 2) (ret := none) (by decide) rfl ?_
  intro p e s m args below meth c s₁ B hml hv
  obtain ⟨rfl, hsz, hP, hK, hD0⟩ := hv
  have hx := B.exec
  have hb := B.bytes
  have hr := B.returns
  have hts := atoms_spec (ws := wsX0_burn) B.pre
  have hown : s.vm.findClass RX0 = some m.cls := findClass_of_methodNamed B.named
  have hlocks := B.notSynchronized
  have hiX0 : ∀ w ∈ u_ws RX0 TX0 15, w ∈ wsX0_burn := by decide +kernel
  subst hsz
  have hD := hD0.self (sz := s.heap.size)
  generalize hAe : va_A [cL0 h0 h1 h2 h3 g, cL1 cJ h1 g, cL2 cI h2 g, cL3 cI h3 g] s.heap.size = A at hD ⊢
  have hA : ∀ q : Nat, s.heap.size ≤ q → A q := fun q h => by rw [← hAe]; exact Or.inr h
  have hS : va_S A s.heap s.heap [] := va_S.rf
  have hl := lv_entry ([.ref h0, .int fuel]) (n := 2) (Nat.le_of_ble_eq_true rfl)
  rw [lg_entry_eq]
  generalize (lg_sl ([.ref h0, .int fuel]) ++ List.replicate (2 - (lg_sl ([.ref h0, .int fuel])).length) Slot.unset).toArray = ls at hl ⊢
  have hl : lv_has ls 2 [(0, .ref h0), (1, .int fuel)] := hl
  have hP : va_P (dC, dI) vwCl [cL0 h0 h1 h2 h3 g, cL1 cJ h1 g, cL2 cI h2 g, cL3 cI h3 g] s.heap := hP
  refine lv_iload_n hx hb dX0_burn_0 rfl (lv_at hl 1 rfl) ?_
  refine lv_aload_n hx hb dX0_burn_1 rfl (lv_at hl 0 rfl) ?_
  refine va_get (D := (dC, dI)) (ci := 0) (v := .int g.2.1) (C := RX0) (T := TX0) (N := 15) hx hb hts hiX0 hown hK hP 0 rfl rfl 1 (by decide) (hts (.fieldLink RX0 26 "TripReckoner$Ledger" "spanGreatest" "I") (by decide +kernel)) (fun _ h9 => h9) rfl dX0_burn_2 ?_
  refine lv_icmp_le (tgt := 23) hx hb dX0_burn_5 (by decide) (fun c_1 => ?_) (fun c_1 => ?_)
  · refine lv_aload_n hx hb dX0_burn_23 rfl (lv_at hl 0 rfl) ?_
    refine lv_iconst (v := 0) hx hb dX0_burn_24 (by decide) ?_
    refine lv_aload_n hx hb dX0_burn_25 rfl (lv_at hl 0 rfl) ?_
    refine va_get (D := (dC, dI)) (ci := 0) (v := .int g.1) (C := RX0) (T := TX0) (N := 15) hx hb hts hiX0 hown hK hP 0 rfl rfl 0 (by decide) (hts (.fieldLink RX0 22 "TripReckoner$Ledger" "spanLeast" "I") (by decide +kernel)) (fun _ h9 => h9) rfl dX0_burn_26 ?_
    refine lv_iload_n hx hb dX0_burn_29 rfl (lv_at hl 1 rfl) ?_
    refine lv_isub hx hb dX0_burn_30 ?_
    refine va_mmax hx hb (by rw [hml]; exact hl.1.symm) hown (hts (.methodLink RX0 71 Lib.Math.max.name) (by decide +kernel)) (hts (.static Lib.Math.max.name) (by decide +kernel)) (hts (.initialized "java/lang/Math") (by decide +kernel)) (hts (.code Lib.Math.max.name Lib.Math.max.code 2 (some .int)) (by decide +kernel)) (Nat.le_of_ble_eq_true rfl) (Nat.le_of_ble_eq_true rfl) (Nat.zero_le _) (Nat.zero_le _) dX0_burn_31 ?_
    refine va_put (D := (dC, dI)) (ci := 0) (v := .int (if 0 < (g.1 - fuel) then (g.1 - fuel) else 0)) (ty := .int) (C := RX0) (T := TX0) (N := 15) hx hb hts hiX0 tyX0 tyX0_ok nmX0 hown hK hP hD hS 0 rfl rfl 0 (by decide) (hts (.fieldLink RX0 22 "TripReckoner$Ledger" "spanLeast" "I") (by decide +kernel)) (fun _ h9 => h9) rfl (by decide +kernel) rfl rfl (Nat.le_of_ble_eq_true rfl) dX0_burn_34 (fun H locs hP hD hS => ?_)
    have hP : va_P (dC, dI) vwCl [(h0, .inr (0, [.int (if 0 < (g.1 - fuel) then (g.1 - fuel) else 0), .int g.2.1, .int g.2.2.1, .int g.2.2.2.1, .int g.2.2.2.2.1, .int g.2.2.2.2.2.1, .int g.2.2.2.2.2.2.1, .int g.2.2.2.2.2.2.2.1, .int g.2.2.2.2.2.2.2.2.1, .int g.2.2.2.2.2.2.2.2.2.1, .long g.2.2.2.2.2.2.2.2.2.2.1, .long g.2.2.2.2.2.2.2.2.2.2.2.1, .ref h1, .ref h2, .ref h3])), (h1, .inl (cJ, 20, .inr (.inl g.2.2.2.2.2.2.2.2.2.2.2.2.1))), (h2, .inl (cI, 30, .inl g.2.2.2.2.2.2.2.2.2.2.2.2.2.1)), (h3, .inl (cI, 30, .inl g.2.2.2.2.2.2.2.2.2.2.2.2.2.2))] H := hP
    have hD : va_D A [(h0, .inr (0, [.int (if 0 < (g.1 - fuel) then (g.1 - fuel) else 0), .int g.2.1, .int g.2.2.1, .int g.2.2.2.1, .int g.2.2.2.2.1, .int g.2.2.2.2.2.1, .int g.2.2.2.2.2.2.1, .int g.2.2.2.2.2.2.2.1, .int g.2.2.2.2.2.2.2.2.1, .int g.2.2.2.2.2.2.2.2.2.1, .long g.2.2.2.2.2.2.2.2.2.2.1, .long g.2.2.2.2.2.2.2.2.2.2.2.1, .ref h1, .ref h2, .ref h3])), (h1, .inl (cJ, 20, .inr (.inl g.2.2.2.2.2.2.2.2.2.2.2.2.1))), (h2, .inl (cI, 30, .inl g.2.2.2.2.2.2.2.2.2.2.2.2.2.1)), (h3, .inl (cI, 30, .inl g.2.2.2.2.2.2.2.2.2.2.2.2.2.2))] := hD
    refine lv_aload_n hx hb dX0_burn_37 rfl (lv_at hl 0 rfl) ?_
    refine lv_iconst (v := 0) hx hb dX0_burn_38 (by decide) ?_
    refine lv_aload_n hx hb dX0_burn_39 rfl (lv_at hl 0 rfl) ?_
    refine va_get (D := (dC, dI)) (ci := 0) (v := .int g.2.1) (C := RX0) (T := TX0) (N := 15) hx hb hts hiX0 hown hK hP 0 rfl rfl 1 (by decide) (hts (.fieldLink RX0 26 "TripReckoner$Ledger" "spanGreatest" "I") (by decide +kernel)) (fun _ h9 => h9) rfl dX0_burn_40 ?_
    refine lv_iload_n hx hb dX0_burn_43 rfl (lv_at hl 1 rfl) ?_
    refine lv_isub hx hb dX0_burn_44 ?_
    refine va_mmax hx hb (by rw [hml]; exact hl.1.symm) hown (hts (.methodLink RX0 71 Lib.Math.max.name) (by decide +kernel)) (hts (.static Lib.Math.max.name) (by decide +kernel)) (hts (.initialized "java/lang/Math") (by decide +kernel)) (hts (.code Lib.Math.max.name Lib.Math.max.code 2 (some .int)) (by decide +kernel)) (Nat.le_of_ble_eq_true rfl) (Nat.le_of_ble_eq_true rfl) (Nat.zero_le _) (Nat.zero_le _) dX0_burn_45 ?_
    refine va_put (D := (dC, dI)) (ci := 0) (v := .int (if 0 < (g.2.1 - fuel) then (g.2.1 - fuel) else 0)) (ty := .int) (C := RX0) (T := TX0) (N := 15) hx hb hts hiX0 tyX0 tyX0_ok nmX0 hown hK hP hD hS 0 rfl rfl 1 (by decide) (hts (.fieldLink RX0 26 "TripReckoner$Ledger" "spanGreatest" "I") (by decide +kernel)) (fun _ h9 => h9) rfl (by decide +kernel) rfl rfl (Nat.le_of_ble_eq_true rfl) dX0_burn_48 (fun H locs hP hD hS => ?_)
    have hP : va_P (dC, dI) vwCl [(h0, .inr (0, [.int (if 0 < (g.1 - fuel) then (g.1 - fuel) else 0), .int (if 0 < (g.2.1 - fuel) then (g.2.1 - fuel) else 0), .int g.2.2.1, .int g.2.2.2.1, .int g.2.2.2.2.1, .int g.2.2.2.2.2.1, .int g.2.2.2.2.2.2.1, .int g.2.2.2.2.2.2.2.1, .int g.2.2.2.2.2.2.2.2.1, .int g.2.2.2.2.2.2.2.2.2.1, .long g.2.2.2.2.2.2.2.2.2.2.1, .long g.2.2.2.2.2.2.2.2.2.2.2.1, .ref h1, .ref h2, .ref h3])), (h1, .inl (cJ, 20, .inr (.inl g.2.2.2.2.2.2.2.2.2.2.2.2.1))), (h2, .inl (cI, 30, .inl g.2.2.2.2.2.2.2.2.2.2.2.2.2.1)), (h3, .inl (cI, 30, .inl g.2.2.2.2.2.2.2.2.2.2.2.2.2.2))] H := hP
    have hD : va_D A [(h0, .inr (0, [.int (if 0 < (g.1 - fuel) then (g.1 - fuel) else 0), .int (if 0 < (g.2.1 - fuel) then (g.2.1 - fuel) else 0), .int g.2.2.1, .int g.2.2.2.1, .int g.2.2.2.2.1, .int g.2.2.2.2.2.1, .int g.2.2.2.2.2.2.1, .int g.2.2.2.2.2.2.2.1, .int g.2.2.2.2.2.2.2.2.1, .int g.2.2.2.2.2.2.2.2.2.1, .long g.2.2.2.2.2.2.2.2.2.2.1, .long g.2.2.2.2.2.2.2.2.2.2.2.1, .ref h1, .ref h2, .ref h3])), (h1, .inl (cJ, 20, .inr (.inl g.2.2.2.2.2.2.2.2.2.2.2.2.1))), (h2, .inl (cI, 30, .inl g.2.2.2.2.2.2.2.2.2.2.2.2.2.1)), (h3, .inl (cI, 30, .inl g.2.2.2.2.2.2.2.2.2.2.2.2.2.2))] := hD
    have es0 : sX0_burn fuel g = (if 0 < (g.1 - fuel) then (g.1 - fuel) else 0, if 0 < (g.2.1 - fuel) then (g.2.1 - fuel) else 0, g.2.2.1, g.2.2.2.1, g.2.2.2.2.1, g.2.2.2.2.2.1, g.2.2.2.2.2.2.1, g.2.2.2.2.2.2.2.1, g.2.2.2.2.2.2.2.2.1, g.2.2.2.2.2.2.2.2.2.1, g.2.2.2.2.2.2.2.2.2.2.1, g.2.2.2.2.2.2.2.2.2.2.2.1, g.2.2.2.2.2.2.2.2.2.2.2.2.1, g.2.2.2.2.2.2.2.2.2.2.2.2.2.1, g.2.2.2.2.2.2.2.2.2.2.2.2.2.2) := by rw [sX0_burn, if_pos c_1]
    refine W.vret hx hb hr (fun t ht hW => ⟨⟨(), rfl, trivial, ?_⟩, hS.F ht⟩) hS.2.2 dX0_burn_51
    rw [es0]; exact ⟨by rw [ht]; exact hP, va_K.moved hW.alike hK, hD⟩
  · refine lv_aload_n hx hb dX0_burn_8 rfl (lv_at hl 0 rfl) ?_
    refine lv_dup hx hb dX0_burn_9 rfl ?_
    refine va_get (D := (dC, dI)) (ci := 0) (v := .int g.2.2.2.2.1) (C := RX0) (T := TX0) (N := 15) hx hb hts hiX0 hown hK hP 0 rfl rfl 4 (by decide) (hts (.fieldLink RX0 35 "TripReckoner$Ledger" "lies" "I") (by decide +kernel)) (fun _ h9 => h9) rfl dX0_burn_10 ?_
    refine lv_iconst (v := 1) hx hb dX0_burn_13 (by decide) ?_
    refine lv_iadd hx hb dX0_burn_14 ?_
    refine va_put (D := (dC, dI)) (ci := 0) (v := .int (g.2.2.2.2.1 + 1)) (ty := .int) (C := RX0) (T := TX0) (N := 15) hx hb hts hiX0 tyX0 tyX0_ok nmX0 hown hK hP hD hS 0 rfl rfl 4 (by decide) (hts (.fieldLink RX0 35 "TripReckoner$Ledger" "lies" "I") (by decide +kernel)) (fun _ h9 => h9) rfl (by decide +kernel) rfl rfl (Nat.le_of_ble_eq_true rfl) dX0_burn_15 (fun H locs hP hD hS => ?_)
    have hP : va_P (dC, dI) vwCl [(h0, .inr (0, [.int g.1, .int g.2.1, .int g.2.2.1, .int g.2.2.2.1, .int (g.2.2.2.2.1 + 1), .int g.2.2.2.2.2.1, .int g.2.2.2.2.2.2.1, .int g.2.2.2.2.2.2.2.1, .int g.2.2.2.2.2.2.2.2.1, .int g.2.2.2.2.2.2.2.2.2.1, .long g.2.2.2.2.2.2.2.2.2.2.1, .long g.2.2.2.2.2.2.2.2.2.2.2.1, .ref h1, .ref h2, .ref h3])), (h1, .inl (cJ, 20, .inr (.inl g.2.2.2.2.2.2.2.2.2.2.2.2.1))), (h2, .inl (cI, 30, .inl g.2.2.2.2.2.2.2.2.2.2.2.2.2.1)), (h3, .inl (cI, 30, .inl g.2.2.2.2.2.2.2.2.2.2.2.2.2.2))] H := hP
    have hD : va_D A [(h0, .inr (0, [.int g.1, .int g.2.1, .int g.2.2.1, .int g.2.2.2.1, .int (g.2.2.2.2.1 + 1), .int g.2.2.2.2.2.1, .int g.2.2.2.2.2.2.1, .int g.2.2.2.2.2.2.2.1, .int g.2.2.2.2.2.2.2.2.1, .int g.2.2.2.2.2.2.2.2.2.1, .long g.2.2.2.2.2.2.2.2.2.2.1, .long g.2.2.2.2.2.2.2.2.2.2.2.1, .ref h1, .ref h2, .ref h3])), (h1, .inl (cJ, 20, .inr (.inl g.2.2.2.2.2.2.2.2.2.2.2.2.1))), (h2, .inl (cI, 30, .inl g.2.2.2.2.2.2.2.2.2.2.2.2.2.1)), (h3, .inl (cI, 30, .inl g.2.2.2.2.2.2.2.2.2.2.2.2.2.2))] := hD
    refine lv_aload_n hx hb dX0_burn_18 rfl (lv_at hl 0 rfl) ?_
    refine lv_iconst (v := 0) hx hb dX0_burn_19 (by decide) ?_
    refine va_put (D := (dC, dI)) (ci := 0) (v := .int 0) (ty := .boolean) (C := RX0) (T := TX0) (N := 15) hx hb hts hiX0 tyX0 tyX0_ok nmX0 hown hK hP hD hS 0 rfl rfl 7 (by decide) (hts (.fieldLink RX0 44 "TripReckoner$Ledger" "settling" "Z") (by decide +kernel)) (fun _ h9 => h9) rfl (by decide +kernel) rfl rfl (Nat.le_of_ble_eq_true rfl) dX0_burn_20 (fun H locs hP hD hS => ?_)
    have hP : va_P (dC, dI) vwCl [(h0, .inr (0, [.int g.1, .int g.2.1, .int g.2.2.1, .int g.2.2.2.1, .int (g.2.2.2.2.1 + 1), .int g.2.2.2.2.2.1, .int g.2.2.2.2.2.2.1, .int 0, .int g.2.2.2.2.2.2.2.2.1, .int g.2.2.2.2.2.2.2.2.2.1, .long g.2.2.2.2.2.2.2.2.2.2.1, .long g.2.2.2.2.2.2.2.2.2.2.2.1, .ref h1, .ref h2, .ref h3])), (h1, .inl (cJ, 20, .inr (.inl g.2.2.2.2.2.2.2.2.2.2.2.2.1))), (h2, .inl (cI, 30, .inl g.2.2.2.2.2.2.2.2.2.2.2.2.2.1)), (h3, .inl (cI, 30, .inl g.2.2.2.2.2.2.2.2.2.2.2.2.2.2))] H := hP
    have hD : va_D A [(h0, .inr (0, [.int g.1, .int g.2.1, .int g.2.2.1, .int g.2.2.2.1, .int (g.2.2.2.2.1 + 1), .int g.2.2.2.2.2.1, .int g.2.2.2.2.2.2.1, .int 0, .int g.2.2.2.2.2.2.2.2.1, .int g.2.2.2.2.2.2.2.2.2.1, .long g.2.2.2.2.2.2.2.2.2.2.1, .long g.2.2.2.2.2.2.2.2.2.2.2.1, .ref h1, .ref h2, .ref h3])), (h1, .inl (cJ, 20, .inr (.inl g.2.2.2.2.2.2.2.2.2.2.2.2.1))), (h2, .inl (cI, 30, .inl g.2.2.2.2.2.2.2.2.2.2.2.2.2.1)), (h3, .inl (cI, 30, .inl g.2.2.2.2.2.2.2.2.2.2.2.2.2.2))] := hD
    refine lv_aload_n hx hb dX0_burn_23 rfl (lv_at hl 0 rfl) ?_
    refine lv_iconst (v := 0) hx hb dX0_burn_24 (by decide) ?_
    refine lv_aload_n hx hb dX0_burn_25 rfl (lv_at hl 0 rfl) ?_
    refine va_get (D := (dC, dI)) (ci := 0) (v := .int g.1) (C := RX0) (T := TX0) (N := 15) hx hb hts hiX0 hown hK hP 0 rfl rfl 0 (by decide) (hts (.fieldLink RX0 22 "TripReckoner$Ledger" "spanLeast" "I") (by decide +kernel)) (fun _ h9 => h9) rfl dX0_burn_26 ?_
    refine lv_iload_n hx hb dX0_burn_29 rfl (lv_at hl 1 rfl) ?_
    refine lv_isub hx hb dX0_burn_30 ?_
    refine va_mmax hx hb (by rw [hml]; exact hl.1.symm) hown (hts (.methodLink RX0 71 Lib.Math.max.name) (by decide +kernel)) (hts (.static Lib.Math.max.name) (by decide +kernel)) (hts (.initialized "java/lang/Math") (by decide +kernel)) (hts (.code Lib.Math.max.name Lib.Math.max.code 2 (some .int)) (by decide +kernel)) (Nat.le_of_ble_eq_true rfl) (Nat.le_of_ble_eq_true rfl) (Nat.zero_le _) (Nat.zero_le _) dX0_burn_31 ?_
    refine va_put (D := (dC, dI)) (ci := 0) (v := .int (if 0 < (g.1 - fuel) then (g.1 - fuel) else 0)) (ty := .int) (C := RX0) (T := TX0) (N := 15) hx hb hts hiX0 tyX0 tyX0_ok nmX0 hown hK hP hD hS 0 rfl rfl 0 (by decide) (hts (.fieldLink RX0 22 "TripReckoner$Ledger" "spanLeast" "I") (by decide +kernel)) (fun _ h9 => h9) rfl (by decide +kernel) rfl rfl (Nat.le_of_ble_eq_true rfl) dX0_burn_34 (fun H locs hP hD hS => ?_)
    have hP : va_P (dC, dI) vwCl [(h0, .inr (0, [.int (if 0 < (g.1 - fuel) then (g.1 - fuel) else 0), .int g.2.1, .int g.2.2.1, .int g.2.2.2.1, .int (g.2.2.2.2.1 + 1), .int g.2.2.2.2.2.1, .int g.2.2.2.2.2.2.1, .int 0, .int g.2.2.2.2.2.2.2.2.1, .int g.2.2.2.2.2.2.2.2.2.1, .long g.2.2.2.2.2.2.2.2.2.2.1, .long g.2.2.2.2.2.2.2.2.2.2.2.1, .ref h1, .ref h2, .ref h3])), (h1, .inl (cJ, 20, .inr (.inl g.2.2.2.2.2.2.2.2.2.2.2.2.1))), (h2, .inl (cI, 30, .inl g.2.2.2.2.2.2.2.2.2.2.2.2.2.1)), (h3, .inl (cI, 30, .inl g.2.2.2.2.2.2.2.2.2.2.2.2.2.2))] H := hP
    have hD : va_D A [(h0, .inr (0, [.int (if 0 < (g.1 - fuel) then (g.1 - fuel) else 0), .int g.2.1, .int g.2.2.1, .int g.2.2.2.1, .int (g.2.2.2.2.1 + 1), .int g.2.2.2.2.2.1, .int g.2.2.2.2.2.2.1, .int 0, .int g.2.2.2.2.2.2.2.2.1, .int g.2.2.2.2.2.2.2.2.2.1, .long g.2.2.2.2.2.2.2.2.2.2.1, .long g.2.2.2.2.2.2.2.2.2.2.2.1, .ref h1, .ref h2, .ref h3])), (h1, .inl (cJ, 20, .inr (.inl g.2.2.2.2.2.2.2.2.2.2.2.2.1))), (h2, .inl (cI, 30, .inl g.2.2.2.2.2.2.2.2.2.2.2.2.2.1)), (h3, .inl (cI, 30, .inl g.2.2.2.2.2.2.2.2.2.2.2.2.2.2))] := hD
    refine lv_aload_n hx hb dX0_burn_37 rfl (lv_at hl 0 rfl) ?_
    refine lv_iconst (v := 0) hx hb dX0_burn_38 (by decide) ?_
    refine lv_aload_n hx hb dX0_burn_39 rfl (lv_at hl 0 rfl) ?_
    refine va_get (D := (dC, dI)) (ci := 0) (v := .int g.2.1) (C := RX0) (T := TX0) (N := 15) hx hb hts hiX0 hown hK hP 0 rfl rfl 1 (by decide) (hts (.fieldLink RX0 26 "TripReckoner$Ledger" "spanGreatest" "I") (by decide +kernel)) (fun _ h9 => h9) rfl dX0_burn_40 ?_
    refine lv_iload_n hx hb dX0_burn_43 rfl (lv_at hl 1 rfl) ?_
    refine lv_isub hx hb dX0_burn_44 ?_
    refine va_mmax hx hb (by rw [hml]; exact hl.1.symm) hown (hts (.methodLink RX0 71 Lib.Math.max.name) (by decide +kernel)) (hts (.static Lib.Math.max.name) (by decide +kernel)) (hts (.initialized "java/lang/Math") (by decide +kernel)) (hts (.code Lib.Math.max.name Lib.Math.max.code 2 (some .int)) (by decide +kernel)) (Nat.le_of_ble_eq_true rfl) (Nat.le_of_ble_eq_true rfl) (Nat.zero_le _) (Nat.zero_le _) dX0_burn_45 ?_
    refine va_put (D := (dC, dI)) (ci := 0) (v := .int (if 0 < (g.2.1 - fuel) then (g.2.1 - fuel) else 0)) (ty := .int) (C := RX0) (T := TX0) (N := 15) hx hb hts hiX0 tyX0 tyX0_ok nmX0 hown hK hP hD hS 0 rfl rfl 1 (by decide) (hts (.fieldLink RX0 26 "TripReckoner$Ledger" "spanGreatest" "I") (by decide +kernel)) (fun _ h9 => h9) rfl (by decide +kernel) rfl rfl (Nat.le_of_ble_eq_true rfl) dX0_burn_48 (fun H locs hP hD hS => ?_)
    have hP : va_P (dC, dI) vwCl [(h0, .inr (0, [.int (if 0 < (g.1 - fuel) then (g.1 - fuel) else 0), .int (if 0 < (g.2.1 - fuel) then (g.2.1 - fuel) else 0), .int g.2.2.1, .int g.2.2.2.1, .int (g.2.2.2.2.1 + 1), .int g.2.2.2.2.2.1, .int g.2.2.2.2.2.2.1, .int 0, .int g.2.2.2.2.2.2.2.2.1, .int g.2.2.2.2.2.2.2.2.2.1, .long g.2.2.2.2.2.2.2.2.2.2.1, .long g.2.2.2.2.2.2.2.2.2.2.2.1, .ref h1, .ref h2, .ref h3])), (h1, .inl (cJ, 20, .inr (.inl g.2.2.2.2.2.2.2.2.2.2.2.2.1))), (h2, .inl (cI, 30, .inl g.2.2.2.2.2.2.2.2.2.2.2.2.2.1)), (h3, .inl (cI, 30, .inl g.2.2.2.2.2.2.2.2.2.2.2.2.2.2))] H := hP
    have hD : va_D A [(h0, .inr (0, [.int (if 0 < (g.1 - fuel) then (g.1 - fuel) else 0), .int (if 0 < (g.2.1 - fuel) then (g.2.1 - fuel) else 0), .int g.2.2.1, .int g.2.2.2.1, .int (g.2.2.2.2.1 + 1), .int g.2.2.2.2.2.1, .int g.2.2.2.2.2.2.1, .int 0, .int g.2.2.2.2.2.2.2.2.1, .int g.2.2.2.2.2.2.2.2.2.1, .long g.2.2.2.2.2.2.2.2.2.2.1, .long g.2.2.2.2.2.2.2.2.2.2.2.1, .ref h1, .ref h2, .ref h3])), (h1, .inl (cJ, 20, .inr (.inl g.2.2.2.2.2.2.2.2.2.2.2.2.1))), (h2, .inl (cI, 30, .inl g.2.2.2.2.2.2.2.2.2.2.2.2.2.1)), (h3, .inl (cI, 30, .inl g.2.2.2.2.2.2.2.2.2.2.2.2.2.2))] := hD
    have es0 : sX0_burn fuel g = (if 0 < (g.1 - fuel) then (g.1 - fuel) else 0, if 0 < (g.2.1 - fuel) then (g.2.1 - fuel) else 0, g.2.2.1, g.2.2.2.1, g.2.2.2.2.1 + 1, g.2.2.2.2.2.1, g.2.2.2.2.2.2.1, 0, g.2.2.2.2.2.2.2.2.1, g.2.2.2.2.2.2.2.2.2.1, g.2.2.2.2.2.2.2.2.2.2.1, g.2.2.2.2.2.2.2.2.2.2.2.1, g.2.2.2.2.2.2.2.2.2.2.2.2.1, g.2.2.2.2.2.2.2.2.2.2.2.2.2.1, g.2.2.2.2.2.2.2.2.2.2.2.2.2.2) := by rw [sX0_burn, if_neg c_1]
    refine W.vret hx hb hr (fun t ht hW => ⟨⟨(), rfl, trivial, ?_⟩, hS.F ht⟩) hS.2.2 dX0_burn_51
    rw [es0]; exact ⟨by rw [ht]; exact hP, va_K.moved hW.alike hK, hD⟩

def sX0_doubt (fuel : Int32) (g : LG) : LG :=
  (if 0 < (g.1 - fuel) then (g.1 - fuel) else 0, g.2.1, g.2.2.1, g.2.2.2.1, g.2.2.2.2.1, g.2.2.2.2.2.1, g.2.2.2.2.2.2.1, g.2.2.2.2.2.2.2.1, g.2.2.2.2.2.2.2.2.1, g.2.2.2.2.2.2.2.2.2.1, g.2.2.2.2.2.2.2.2.2.2.1, g.2.2.2.2.2.2.2.2.2.2.2.1, g.2.2.2.2.2.2.2.2.2.2.2.2.1, g.2.2.2.2.2.2.2.2.2.2.2.2.2.1, g.2.2.2.2.2.2.2.2.2.2.2.2.2.2)
set_option maxHeartbeats 4000000 in
set_option maxRecDepth 100000 in
theorem kX0_doubt (l : Launch) (dC : Nat → ClassId) (dI : Nat → Nat → Nat) (cI cJ : ClassId) (h0 h1 h2 h3 : Nat) (sz : Nat) (fuel : Int32) (g : LG) : Met l yX0_doubt wsX0_doubt ({ frames := 1, cells := 0, slots := 0, locals := 23 }) (va_Pc [.ref h0, .int fuel] (fun U => U.heap.size = sz ∧ va_P (dC, dI) vwCl [cL0 h0 h1 h2 h3 g, cL1 cJ h1 g, cL2 cI h2 g, cL3 cI h3 g] U.heap ∧ va_K (dC, dI) vwCl [(cI, .int), (cJ, .long)] U ∧ va_D (fun _ => True) [cL0 h0 h1 h2 h3 g, cL1 cJ h1 g, cL2 cI h2 g, cL3 cI h3 g])) (va_Qv (fun _ : Unit => True) (fun _ t => va_P (dC, dI) vwCl [cL0 h0 h1 h2 h3 (sX0_doubt fuel g), cL1 cJ h1 (sX0_doubt fuel g), cL2 cI h2 (sX0_doubt fuel g), cL3 cI h3 (sX0_doubt fuel g)] t.heap ∧ va_K (dC, dI) vwCl [(cI, .int), (cJ, .long)] t ∧ va_D (va_A [cL0 h0 h1 h2 h3 g, cL1 cJ h1 g, cL2 cI h2 g, cL3 cI h3 g] sz) [cL0 h0 h1 h2 h3 (sX0_doubt fuel g), cL1 cJ h1 (sX0_doubt fuel g), cL2 cI h2 (sX0_doubt fuel g), cL3 cI h3 (sX0_doubt fuel g)]) (va_A [cL0 h0 h1 h2 h3 g, cL1 cJ h1 g, cL2 cI h2 g, cL3 cI h3 g] sz)) 0 0 (va_A [cL0 h0 h1 h2 h3 g, cL1 cJ h1 g, cL2 cI h2 g, cL3 cI h3 g] sz) := by
  refine Met.ofW (cc := cX0_doubt) (maxL := 2) (ret := none) (by decide) rfl ?_
  intro p e s m args below meth c s₁ B hml hv
  obtain ⟨rfl, hsz, hP, hK, hD0⟩ := hv
  have hx := B.exec
  have hb := B.bytes
  have hr := B.returns
  have hts := atoms_spec (ws := wsX0_doubt) B.pre
  have hown : s.vm.findClass RX0 = some m.cls := findClass_of_methodNamed B.named
  have hlocks := B.notSynchronized
  have hiX0 : ∀ w ∈ u_ws RX0 TX0 15, w ∈ wsX0_doubt := by decide +kernel
  subst hsz
  have hD := hD0.self (sz := s.heap.size)
  generalize hAe : va_A [cL0 h0 h1 h2 h3 g, cL1 cJ h1 g, cL2 cI h2 g, cL3 cI h3 g] s.heap.size = A at hD ⊢
  have hA : ∀ q : Nat, s.heap.size ≤ q → A q := fun q h => by rw [← hAe]; exact Or.inr h
  have hS : va_S A s.heap s.heap [] := va_S.rf
  have hl := lv_entry ([.ref h0, .int fuel]) (n := 2) (Nat.le_of_ble_eq_true rfl)
  rw [lg_entry_eq]
  generalize (lg_sl ([.ref h0, .int fuel]) ++ List.replicate (2 - (lg_sl ([.ref h0, .int fuel])).length) Slot.unset).toArray = ls at hl ⊢
  have hl : lv_has ls 2 [(0, .ref h0), (1, .int fuel)] := hl
  have hP : va_P (dC, dI) vwCl [cL0 h0 h1 h2 h3 g, cL1 cJ h1 g, cL2 cI h2 g, cL3 cI h3 g] s.heap := hP
  refine lv_aload_n hx hb dX0_doubt_0 rfl (lv_at hl 0 rfl) ?_
  refine lv_iconst (v := 0) hx hb dX0_doubt_1 (by decide) ?_
  refine lv_aload_n hx hb dX0_doubt_2 rfl (lv_at hl 0 rfl) ?_
  refine va_get (D := (dC, dI)) (ci := 0) (v := .int g.1) (C := RX0) (T := TX0) (N := 15) hx hb hts hiX0 hown hK hP 0 rfl rfl 0 (by decide) (hts (.fieldLink RX0 22 "TripReckoner$Ledger" "spanLeast" "I") (by decide +kernel)) (fun _ h9 => h9) rfl dX0_doubt_3 ?_
  refine lv_iload_n hx hb dX0_doubt_6 rfl (lv_at hl 1 rfl) ?_
  refine lv_isub hx hb dX0_doubt_7 ?_
  refine va_mmax hx hb (by rw [hml]; exact hl.1.symm) hown (hts (.methodLink RX0 71 Lib.Math.max.name) (by decide +kernel)) (hts (.static Lib.Math.max.name) (by decide +kernel)) (hts (.initialized "java/lang/Math") (by decide +kernel)) (hts (.code Lib.Math.max.name Lib.Math.max.code 2 (some .int)) (by decide +kernel)) (Nat.le_of_ble_eq_true rfl) (Nat.le_of_ble_eq_true rfl) (Nat.zero_le _) (Nat.zero_le _) dX0_doubt_8 ?_
  refine va_put (D := (dC, dI)) (ci := 0) (v := .int (if 0 < (g.1 - fuel) then (g.1 - fuel) else 0)) (ty := .int) (C := RX0) (T := TX0) (N := 15) hx hb hts hiX0 tyX0 tyX0_ok nmX0 hown hK hP hD hS 0 rfl rfl 0 (by decide) (hts (.fieldLink RX0 22 "TripReckoner$Ledger" "spanLeast" "I") (by decide +kernel)) (fun _ h9 => h9) rfl (by decide +kernel) rfl rfl (Nat.le_of_ble_eq_true rfl) dX0_doubt_11 (fun H locs hP hD hS => ?_)
  have hP : va_P (dC, dI) vwCl [(h0, .inr (0, [.int (if 0 < (g.1 - fuel) then (g.1 - fuel) else 0), .int g.2.1, .int g.2.2.1, .int g.2.2.2.1, .int g.2.2.2.2.1, .int g.2.2.2.2.2.1, .int g.2.2.2.2.2.2.1, .int g.2.2.2.2.2.2.2.1, .int g.2.2.2.2.2.2.2.2.1, .int g.2.2.2.2.2.2.2.2.2.1, .long g.2.2.2.2.2.2.2.2.2.2.1, .long g.2.2.2.2.2.2.2.2.2.2.2.1, .ref h1, .ref h2, .ref h3])), (h1, .inl (cJ, 20, .inr (.inl g.2.2.2.2.2.2.2.2.2.2.2.2.1))), (h2, .inl (cI, 30, .inl g.2.2.2.2.2.2.2.2.2.2.2.2.2.1)), (h3, .inl (cI, 30, .inl g.2.2.2.2.2.2.2.2.2.2.2.2.2.2))] H := hP
  have hD : va_D A [(h0, .inr (0, [.int (if 0 < (g.1 - fuel) then (g.1 - fuel) else 0), .int g.2.1, .int g.2.2.1, .int g.2.2.2.1, .int g.2.2.2.2.1, .int g.2.2.2.2.2.1, .int g.2.2.2.2.2.2.1, .int g.2.2.2.2.2.2.2.1, .int g.2.2.2.2.2.2.2.2.1, .int g.2.2.2.2.2.2.2.2.2.1, .long g.2.2.2.2.2.2.2.2.2.2.1, .long g.2.2.2.2.2.2.2.2.2.2.2.1, .ref h1, .ref h2, .ref h3])), (h1, .inl (cJ, 20, .inr (.inl g.2.2.2.2.2.2.2.2.2.2.2.2.1))), (h2, .inl (cI, 30, .inl g.2.2.2.2.2.2.2.2.2.2.2.2.2.1)), (h3, .inl (cI, 30, .inl g.2.2.2.2.2.2.2.2.2.2.2.2.2.2))] := hD
  have es0 : sX0_doubt fuel g = (if 0 < (g.1 - fuel) then (g.1 - fuel) else 0, g.2.1, g.2.2.1, g.2.2.2.1, g.2.2.2.2.1, g.2.2.2.2.2.1, g.2.2.2.2.2.2.1, g.2.2.2.2.2.2.2.1, g.2.2.2.2.2.2.2.2.1, g.2.2.2.2.2.2.2.2.2.1, g.2.2.2.2.2.2.2.2.2.2.1, g.2.2.2.2.2.2.2.2.2.2.2.1, g.2.2.2.2.2.2.2.2.2.2.2.2.1, g.2.2.2.2.2.2.2.2.2.2.2.2.2.1, g.2.2.2.2.2.2.2.2.2.2.2.2.2.2) := by rw [sX0_doubt]
  refine W.vret hx hb hr (fun t ht hW => ⟨⟨(), rfl, trivial, ?_⟩, hS.F ht⟩) hS.2.2 dX0_doubt_14
  rw [es0]; exact ⟨by rw [ht]; exact hP, va_K.moved hW.alike hK, hD⟩

def sX0_takeFloat (lo : Int32) (hi : Int32) (g : LG) : LG :=
  if g.2.2.2.2.2.2.1 = (rX0_truth (lo, hi, g.2.2.1, g.2.2.2.1, g.2.2.2.2.1, g.2.2.2.2.2.1, g.2.2.2.2.2.2.1, g.2.2.2.2.2.2.2.1, g.2.2.2.2.2.2.2.2.1, g.2.2.2.2.2.2.2.2.2.1, g.2.2.2.2.2.2.2.2.2.2.1, g.2.2.2.2.2.2.2.2.2.2.2.1, g.2.2.2.2.2.2.2.2.2.2.2.2.1, g.2.2.2.2.2.2.2.2.2.2.2.2.2.1, g.2.2.2.2.2.2.2.2.2.2.2.2.2.2)) then
    (lo, hi, g.2.2.1, g.2.2.2.1, g.2.2.2.2.1, g.2.2.2.2.2.1, g.2.2.2.2.2.2.1, g.2.2.2.2.2.2.2.1, g.2.2.2.2.2.2.2.2.1, g.2.2.2.2.2.2.2.2.2.1, g.2.2.2.2.2.2.2.2.2.2.1, g.2.2.2.2.2.2.2.2.2.2.2.1, g.2.2.2.2.2.2.2.2.2.2.2.2.1, g.2.2.2.2.2.2.2.2.2.2.2.2.2.1, g.2.2.2.2.2.2.2.2.2.2.2.2.2.2)
  else
    (lo, hi, g.2.2.1, g.2.2.2.1, g.2.2.2.2.1, g.2.2.2.2.2.1 + 1, rX0_truth (lo, hi, g.2.2.1, g.2.2.2.1, g.2.2.2.2.1, g.2.2.2.2.2.1 + 1, g.2.2.2.2.2.2.1, g.2.2.2.2.2.2.2.1, g.2.2.2.2.2.2.2.2.1, g.2.2.2.2.2.2.2.2.2.1, g.2.2.2.2.2.2.2.2.2.2.1, g.2.2.2.2.2.2.2.2.2.2.2.1, g.2.2.2.2.2.2.2.2.2.2.2.2.1, g.2.2.2.2.2.2.2.2.2.2.2.2.2.1, g.2.2.2.2.2.2.2.2.2.2.2.2.2.2), g.2.2.2.2.2.2.2.1, g.2.2.2.2.2.2.2.2.1, g.2.2.2.2.2.2.2.2.2.1, g.2.2.2.2.2.2.2.2.2.2.1, g.2.2.2.2.2.2.2.2.2.2.2.1, g.2.2.2.2.2.2.2.2.2.2.2.2.1, g.2.2.2.2.2.2.2.2.2.2.2.2.2.1, g.2.2.2.2.2.2.2.2.2.2.2.2.2.2)
set_option maxHeartbeats 4000000 in
set_option maxRecDepth 100000 in
theorem kX0_takeFloat (l : Launch) (dC : Nat → ClassId) (dI : Nat → Nat → Nat) (cI cJ : ClassId) (h0 h1 h2 h3 : Nat) (sz : Nat) (lo : Int32) (hi : Int32) (g : LG) : Met l yX0_takeFloat wsX0_takeFloat ({ frames := 1, cells := 0, slots := 0, locals := 20 }) (va_Pc [.ref h0, .int lo, .int hi] (fun U => U.heap.size = sz ∧ va_P (dC, dI) vwCl [cL0 h0 h1 h2 h3 g, cL1 cJ h1 g, cL2 cI h2 g, cL3 cI h3 g] U.heap ∧ va_K (dC, dI) vwCl [(cI, .int), (cJ, .long)] U ∧ va_D (fun _ => True) [cL0 h0 h1 h2 h3 g, cL1 cJ h1 g, cL2 cI h2 g, cL3 cI h3 g])) (va_Qv (fun _ : Unit => True) (fun _ t => va_P (dC, dI) vwCl [cL0 h0 h1 h2 h3 (sX0_takeFloat lo hi g), cL1 cJ h1 (sX0_takeFloat lo hi g), cL2 cI h2 (sX0_takeFloat lo hi g), cL3 cI h3 (sX0_takeFloat lo hi g)] t.heap ∧ va_K (dC, dI) vwCl [(cI, .int), (cJ, .long)] t ∧ va_D (va_A [cL0 h0 h1 h2 h3 g, cL1 cJ h1 g, cL2 cI h2 g, cL3 cI h3 g] sz) [cL0 h0 h1 h2 h3 (sX0_takeFloat lo hi g), cL1 cJ h1 (sX0_takeFloat lo hi g), cL2 cI h2 (sX0_takeFloat lo hi g), cL3 cI h3 (sX0_takeFloat lo hi g)]) (va_A [cL0 h0 h1 h2 h3 g, cL1 cJ h1 g, cL2 cI h2 g, cL3 cI h3 g] sz)) 0 0 (va_A [cL0 h0 h1 h2 h3 g, cL1 cJ h1 g, cL2 cI h2 g, cL3 cI h3 g] sz) := by
  refine Met.ofW (cc := cX0_takeFloat) (maxL := 3) (ret := none) (by decide) rfl ?_
  intro p e s m args below meth c s₁ B hml hv
  obtain ⟨rfl, hsz, hP, hK, hD0⟩ := hv
  have hx := B.exec
  have hb := B.bytes
  have hr := B.returns
  have hts := atoms_spec (ws := wsX0_takeFloat) B.pre
  have hown : s.vm.findClass RX0 = some m.cls := findClass_of_methodNamed B.named
  have hlocks := B.notSynchronized
  have hiX0 : ∀ w ∈ u_ws RX0 TX0 15, w ∈ wsX0_takeFloat := by decide +kernel
  subst hsz
  have hD := hD0.self (sz := s.heap.size)
  generalize hAe : va_A [cL0 h0 h1 h2 h3 g, cL1 cJ h1 g, cL2 cI h2 g, cL3 cI h3 g] s.heap.size = A at hD ⊢
  have hA : ∀ q : Nat, s.heap.size ≤ q → A q := fun q h => by rw [← hAe]; exact Or.inr h
  have hS : va_S A s.heap s.heap [] := va_S.rf
  have hl := lv_entry ([.ref h0, .int lo, .int hi]) (n := 3) (Nat.le_of_ble_eq_true rfl)
  rw [lg_entry_eq]
  generalize (lg_sl ([.ref h0, .int lo, .int hi]) ++ List.replicate (3 - (lg_sl ([.ref h0, .int lo, .int hi])).length) Slot.unset).toArray = ls at hl ⊢
  have hl : lv_has ls 3 [(0, .ref h0), (1, .int lo), (2, .int hi)] := hl
  have hP : va_P (dC, dI) vwCl [cL0 h0 h1 h2 h3 g, cL1 cJ h1 g, cL2 cI h2 g, cL3 cI h3 g] s.heap := hP
  refine lv_aload_n hx hb dX0_takeFloat_0 rfl (lv_at hl 0 rfl) ?_
  refine lv_iload_n hx hb dX0_takeFloat_1 rfl (lv_at hl 1 rfl) ?_
  refine va_put (D := (dC, dI)) (ci := 0) (v := .int lo) (ty := .int) (C := RX0) (T := TX0) (N := 15) hx hb hts hiX0 tyX0 tyX0_ok nmX0 hown hK hP hD hS 0 rfl rfl 0 (by decide) (hts (.fieldLink RX0 22 "TripReckoner$Ledger" "spanLeast" "I") (by decide +kernel)) (fun _ h9 => h9) rfl (by decide +kernel) rfl rfl (Nat.le_of_ble_eq_true rfl) dX0_takeFloat_2 (fun H locs hP hD hS => ?_)
  have hP : va_P (dC, dI) vwCl [(h0, .inr (0, [.int lo, .int g.2.1, .int g.2.2.1, .int g.2.2.2.1, .int g.2.2.2.2.1, .int g.2.2.2.2.2.1, .int g.2.2.2.2.2.2.1, .int g.2.2.2.2.2.2.2.1, .int g.2.2.2.2.2.2.2.2.1, .int g.2.2.2.2.2.2.2.2.2.1, .long g.2.2.2.2.2.2.2.2.2.2.1, .long g.2.2.2.2.2.2.2.2.2.2.2.1, .ref h1, .ref h2, .ref h3])), (h1, .inl (cJ, 20, .inr (.inl g.2.2.2.2.2.2.2.2.2.2.2.2.1))), (h2, .inl (cI, 30, .inl g.2.2.2.2.2.2.2.2.2.2.2.2.2.1)), (h3, .inl (cI, 30, .inl g.2.2.2.2.2.2.2.2.2.2.2.2.2.2))] H := hP
  have hD : va_D A [(h0, .inr (0, [.int lo, .int g.2.1, .int g.2.2.1, .int g.2.2.2.1, .int g.2.2.2.2.1, .int g.2.2.2.2.2.1, .int g.2.2.2.2.2.2.1, .int g.2.2.2.2.2.2.2.1, .int g.2.2.2.2.2.2.2.2.1, .int g.2.2.2.2.2.2.2.2.2.1, .long g.2.2.2.2.2.2.2.2.2.2.1, .long g.2.2.2.2.2.2.2.2.2.2.2.1, .ref h1, .ref h2, .ref h3])), (h1, .inl (cJ, 20, .inr (.inl g.2.2.2.2.2.2.2.2.2.2.2.2.1))), (h2, .inl (cI, 30, .inl g.2.2.2.2.2.2.2.2.2.2.2.2.2.1)), (h3, .inl (cI, 30, .inl g.2.2.2.2.2.2.2.2.2.2.2.2.2.2))] := hD
  refine lv_aload_n hx hb dX0_takeFloat_5 rfl (lv_at hl 0 rfl) ?_
  refine lv_iload_n hx hb dX0_takeFloat_6 rfl (lv_at hl 2 rfl) ?_
  refine va_put (D := (dC, dI)) (ci := 0) (v := .int hi) (ty := .int) (C := RX0) (T := TX0) (N := 15) hx hb hts hiX0 tyX0 tyX0_ok nmX0 hown hK hP hD hS 0 rfl rfl 1 (by decide) (hts (.fieldLink RX0 26 "TripReckoner$Ledger" "spanGreatest" "I") (by decide +kernel)) (fun _ h9 => h9) rfl (by decide +kernel) rfl rfl (Nat.le_of_ble_eq_true rfl) dX0_takeFloat_7 (fun H locs hP hD hS => ?_)
  have hP : va_P (dC, dI) vwCl [(h0, .inr (0, [.int lo, .int hi, .int g.2.2.1, .int g.2.2.2.1, .int g.2.2.2.2.1, .int g.2.2.2.2.2.1, .int g.2.2.2.2.2.2.1, .int g.2.2.2.2.2.2.2.1, .int g.2.2.2.2.2.2.2.2.1, .int g.2.2.2.2.2.2.2.2.2.1, .long g.2.2.2.2.2.2.2.2.2.2.1, .long g.2.2.2.2.2.2.2.2.2.2.2.1, .ref h1, .ref h2, .ref h3])), (h1, .inl (cJ, 20, .inr (.inl g.2.2.2.2.2.2.2.2.2.2.2.2.1))), (h2, .inl (cI, 30, .inl g.2.2.2.2.2.2.2.2.2.2.2.2.2.1)), (h3, .inl (cI, 30, .inl g.2.2.2.2.2.2.2.2.2.2.2.2.2.2))] H := hP
  have hD : va_D A [(h0, .inr (0, [.int lo, .int hi, .int g.2.2.1, .int g.2.2.2.1, .int g.2.2.2.2.1, .int g.2.2.2.2.2.1, .int g.2.2.2.2.2.2.1, .int g.2.2.2.2.2.2.2.1, .int g.2.2.2.2.2.2.2.2.1, .int g.2.2.2.2.2.2.2.2.2.1, .long g.2.2.2.2.2.2.2.2.2.2.1, .long g.2.2.2.2.2.2.2.2.2.2.2.1, .ref h1, .ref h2, .ref h3])), (h1, .inl (cJ, 20, .inr (.inl g.2.2.2.2.2.2.2.2.2.2.2.2.1))), (h2, .inl (cI, 30, .inl g.2.2.2.2.2.2.2.2.2.2.2.2.2.1)), (h3, .inl (cI, 30, .inl g.2.2.2.2.2.2.2.2.2.2.2.2.2.2))] := hD
  refine lv_aload_n hx hb dX0_takeFloat_10 rfl (lv_at hl 0 rfl) ?_
  refine va_get (D := (dC, dI)) (ci := 0) (v := .int g.2.2.2.2.2.2.1) (C := RX0) (T := TX0) (N := 15) hx hb hts hiX0 hown hK hP 0 rfl rfl 6 (by decide) (hts (.fieldLink RX0 41 "TripReckoner$Ledger" "shownLitres" "I") (by decide +kernel)) (fun _ h9 => h9) rfl dX0_takeFloat_11 ?_
  refine lv_aload_n hx hb dX0_takeFloat_14 rfl (lv_at hl 0 rfl) ?_
  have hPc := hP.sub (ws' := [(h0, .inr (0, [.int lo, .int hi, .int g.2.2.1, .int g.2.2.2.1, .int g.2.2.2.2.1, .int g.2.2.2.2.2.1, .int g.2.2.2.2.2.2.1, .int g.2.2.2.2.2.2.2.1, .int g.2.2.2.2.2.2.2.2.1, .int g.2.2.2.2.2.2.2.2.2.1, .long g.2.2.2.2.2.2.2.2.2.2.1, .long g.2.2.2.2.2.2.2.2.2.2.2.1, .ref h1, .ref h2, .ref h3])), (h1, .inl (cJ, 20, .inr (.inl g.2.2.2.2.2.2.2.2.2.2.2.2.1))), (h2, .inl (cI, 30, .inl g.2.2.2.2.2.2.2.2.2.2.2.2.2.1)), (h3, .inl (cI, 30, .inl g.2.2.2.2.2.2.2.2.2.2.2.2.2.2))]) [0, 1, 2, 3] rfl
  have hDc := hD.sub (ws' := [(h0, .inr (0, [.int lo, .int hi, .int g.2.2.1, .int g.2.2.2.1, .int g.2.2.2.2.1, .int g.2.2.2.2.2.1, .int g.2.2.2.2.2.2.1, .int g.2.2.2.2.2.2.2.1, .int g.2.2.2.2.2.2.2.2.1, .int g.2.2.2.2.2.2.2.2.2.1, .long g.2.2.2.2.2.2.2.2.2.2.1, .long g.2.2.2.2.2.2.2.2.2.2.2.1, .ref h1, .ref h2, .ref h3])), (h1, .inl (cJ, 20, .inr (.inl g.2.2.2.2.2.2.2.2.2.2.2.2.1))), (h2, .inl (cI, 30, .inl g.2.2.2.2.2.2.2.2.2.2.2.2.2.1)), (h3, .inl (cI, 30, .inl g.2.2.2.2.2.2.2.2.2.2.2.2.2.2))]) [0, 1, 2, 3] (by decide) rfl
  have hFc := va_free (wc := [(h0, .inr (0, [.int lo, .int hi, .int g.2.2.1, .int g.2.2.2.1, .int g.2.2.2.2.1, .int g.2.2.2.2.2.1, .int g.2.2.2.2.2.2.1, .int g.2.2.2.2.2.2.2.1, .int g.2.2.2.2.2.2.2.2.1, .int g.2.2.2.2.2.2.2.2.2.1, .long g.2.2.2.2.2.2.2.2.2.2.1, .long g.2.2.2.2.2.2.2.2.2.2.2.1, .ref h1, .ref h2, .ref h3])), (h1, .inl (cJ, 20, .inr (.inl g.2.2.2.2.2.2.2.2.2.2.2.2.1))), (h2, .inl (cI, 30, .inl g.2.2.2.2.2.2.2.2.2.2.2.2.2.1)), (h3, .inl (cI, 30, .inl g.2.2.2.2.2.2.2.2.2.2.2.2.2.2))]) hD hS hA [0, 1, 2, 3] rfl
  refine va_calli (va_runV (As := []) (rest := [.int g.2.2.2.2.2.2.1]) ⟨hx, hb, hml, hown, hts⟩ (kX0_truth l dC dI cI cJ h0 h1 h2 h3 H.size (lo, hi, g.2.2.1, g.2.2.2.1, g.2.2.2.2.1, g.2.2.2.2.2.1, g.2.2.2.2.2.2.1, g.2.2.2.2.2.2.2.1, g.2.2.2.2.2.2.2.2.1, g.2.2.2.2.2.2.2.2.2.1, g.2.2.2.2.2.2.2.2.2.2.1, g.2.2.2.2.2.2.2.2.2.2.2.1, g.2.2.2.2.2.2.2.2.2.2.2.2.1, g.2.2.2.2.2.2.2.2.2.2.2.2.2.1, g.2.2.2.2.2.2.2.2.2.2.2.2.2.2)) (cwV 0 hts gX0_takeFloat_X0_truth rfl rfl rfl (by decide +kernel) ⟨Nat.le_of_ble_eq_true rfl, Nat.le_of_ble_eq_true rfl⟩) ⟨fun a U g mk q => by obtain ⟨q0, q1, qP, qK, qD⟩ := q; exact ⟨q0, q1, qP, va_K.moved (u := U) (U := U.calling g mk a) (Vm.Alike.refl U.vm) qK, qD⟩, va_recv hK hPc (ci := 0) (q0 := 0) rfl rfl, fun U hU hW => ⟨rfl, by rw [hU], by rw [hU]; exact hPc, va_K.moved hW.alike hK, hDc.weaken (fun _ _ _ _ => trivial)⟩⟩ rfl rfl hl.1 rfl (lv_room (Nat.le_of_ble_eq_true rfl)) dX0_takeFloat_15 ⟨Nat.le_of_ble_eq_true rfl, Nat.le_of_ble_eq_true rfl⟩) hS (fun q _ h => hFc q h) hFc (fun r_1 _ t H1 locs ht hvm hw hB hz1 hk1 hS => ?_)
  obtain ⟨hP1, hK1, hD1⟩ := hB
  rw [ht] at hP1
  obtain ⟨hP, hD⟩ := va_join (wr := []) (w1 := [(h0, .inr (0, [.int lo, .int hi, .int g.2.2.1, .int g.2.2.2.1, .int g.2.2.2.2.1, .int g.2.2.2.2.2.1, .int g.2.2.2.2.2.2.1, .int g.2.2.2.2.2.2.2.1, .int g.2.2.2.2.2.2.2.2.1, .int g.2.2.2.2.2.2.2.2.2.1, .long g.2.2.2.2.2.2.2.2.2.2.1, .long g.2.2.2.2.2.2.2.2.2.2.2.1, .ref h1, .ref h2, .ref h3])), (h1, .inl (cJ, 20, .inr (.inl g.2.2.2.2.2.2.2.2.2.2.2.2.1))), (h2, .inl (cI, 30, .inl g.2.2.2.2.2.2.2.2.2.2.2.2.2.1)), (h3, .inl (cI, 30, .inl g.2.2.2.2.2.2.2.2.2.2.2.2.2.2))]) hP hD [0, 1, 2, 3] [] rfl rfl (by decide) (by decide) hk1 hFc hP1 hD1
  generalize H1 = H at hP hS ⊢
  have hP : va_P (dC, dI) vwCl [(h0, .inr (0, [.int lo, .int hi, .int g.2.2.1, .int g.2.2.2.1, .int g.2.2.2.2.1, .int g.2.2.2.2.2.1, .int g.2.2.2.2.2.2.1, .int g.2.2.2.2.2.2.2.1, .int g.2.2.2.2.2.2.2.2.1, .int g.2.2.2.2.2.2.2.2.2.1, .long g.2.2.2.2.2.2.2.2.2.2.1, .long g.2.2.2.2.2.2.2.2.2.2.2.1, .ref h1, .ref h2, .ref h3])), (h1, .inl (cJ, 20, .inr (.inl g.2.2.2.2.2.2.2.2.2.2.2.2.1))), (h2, .inl (cI, 30, .inl g.2.2.2.2.2.2.2.2.2.2.2.2.2.1)), (h3, .inl (cI, 30, .inl g.2.2.2.2.2.2.2.2.2.2.2.2.2.2))] H := hP
  have hD : va_D A [(h0, .inr (0, [.int lo, .int hi, .int g.2.2.1, .int g.2.2.2.1, .int g.2.2.2.2.1, .int g.2.2.2.2.2.1, .int g.2.2.2.2.2.2.1, .int g.2.2.2.2.2.2.2.1, .int g.2.2.2.2.2.2.2.2.1, .int g.2.2.2.2.2.2.2.2.2.1, .long g.2.2.2.2.2.2.2.2.2.2.1, .long g.2.2.2.2.2.2.2.2.2.2.2.1, .ref h1, .ref h2, .ref h3])), (h1, .inl (cJ, 20, .inr (.inl g.2.2.2.2.2.2.2.2.2.2.2.2.1))), (h2, .inl (cI, 30, .inl g.2.2.2.2.2.2.2.2.2.2.2.2.2.1)), (h3, .inl (cI, 30, .inl g.2.2.2.2.2.2.2.2.2.2.2.2.2.2))] := hD
  subst hw
  refine lv_icmp_eq (tgt := 39) hx hb dX0_takeFloat_18 (by decide) (fun c_2 => ?_) (fun c_2 => ?_)
  · have es0 : sX0_takeFloat lo hi g = (lo, hi, g.2.2.1, g.2.2.2.1, g.2.2.2.2.1, g.2.2.2.2.2.1, g.2.2.2.2.2.2.1, g.2.2.2.2.2.2.2.1, g.2.2.2.2.2.2.2.2.1, g.2.2.2.2.2.2.2.2.2.1, g.2.2.2.2.2.2.2.2.2.2.1, g.2.2.2.2.2.2.2.2.2.2.2.1, g.2.2.2.2.2.2.2.2.2.2.2.2.1, g.2.2.2.2.2.2.2.2.2.2.2.2.2.1, g.2.2.2.2.2.2.2.2.2.2.2.2.2.2) := by rw [sX0_takeFloat, if_pos c_2]
    refine W.vret hx hb hr (fun t ht hW => ⟨⟨(), rfl, trivial, ?_⟩, hS.F ht⟩) hS.2.2 dX0_takeFloat_39
    rw [es0]; exact ⟨by rw [ht]; exact hP, va_K.moved hW.alike hK, hD⟩
  · refine lv_aload_n hx hb dX0_takeFloat_21 rfl (lv_at hl 0 rfl) ?_
    refine lv_dup hx hb dX0_takeFloat_22 rfl ?_
    refine va_get (D := (dC, dI)) (ci := 0) (v := .int g.2.2.2.2.2.1) (C := RX0) (T := TX0) (N := 15) hx hb hts hiX0 hown hK hP 0 rfl rfl 5 (by decide) (hts (.fieldLink RX0 38 "TripReckoner$Ledger" "jumps" "I") (by decide +kernel)) (fun _ h9 => h9) rfl dX0_takeFloat_23 ?_
    refine lv_iconst (v := 1) hx hb dX0_takeFloat_26 (by decide) ?_
    refine lv_iadd hx hb dX0_takeFloat_27 ?_
    refine va_put (D := (dC, dI)) (ci := 0) (v := .int (g.2.2.2.2.2.1 + 1)) (ty := .int) (C := RX0) (T := TX0) (N := 15) hx hb hts hiX0 tyX0 tyX0_ok nmX0 hown hK hP hD hS 0 rfl rfl 5 (by decide) (hts (.fieldLink RX0 38 "TripReckoner$Ledger" "jumps" "I") (by decide +kernel)) (fun _ h9 => h9) rfl (by decide +kernel) rfl rfl (Nat.le_of_ble_eq_true rfl) dX0_takeFloat_28 (fun H locs hP hD hS => ?_)
    have hP : va_P (dC, dI) vwCl [(h0, .inr (0, [.int lo, .int hi, .int g.2.2.1, .int g.2.2.2.1, .int g.2.2.2.2.1, .int (g.2.2.2.2.2.1 + 1), .int g.2.2.2.2.2.2.1, .int g.2.2.2.2.2.2.2.1, .int g.2.2.2.2.2.2.2.2.1, .int g.2.2.2.2.2.2.2.2.2.1, .long g.2.2.2.2.2.2.2.2.2.2.1, .long g.2.2.2.2.2.2.2.2.2.2.2.1, .ref h1, .ref h2, .ref h3])), (h1, .inl (cJ, 20, .inr (.inl g.2.2.2.2.2.2.2.2.2.2.2.2.1))), (h2, .inl (cI, 30, .inl g.2.2.2.2.2.2.2.2.2.2.2.2.2.1)), (h3, .inl (cI, 30, .inl g.2.2.2.2.2.2.2.2.2.2.2.2.2.2))] H := hP
    have hD : va_D A [(h0, .inr (0, [.int lo, .int hi, .int g.2.2.1, .int g.2.2.2.1, .int g.2.2.2.2.1, .int (g.2.2.2.2.2.1 + 1), .int g.2.2.2.2.2.2.1, .int g.2.2.2.2.2.2.2.1, .int g.2.2.2.2.2.2.2.2.1, .int g.2.2.2.2.2.2.2.2.2.1, .long g.2.2.2.2.2.2.2.2.2.2.1, .long g.2.2.2.2.2.2.2.2.2.2.2.1, .ref h1, .ref h2, .ref h3])), (h1, .inl (cJ, 20, .inr (.inl g.2.2.2.2.2.2.2.2.2.2.2.2.1))), (h2, .inl (cI, 30, .inl g.2.2.2.2.2.2.2.2.2.2.2.2.2.1)), (h3, .inl (cI, 30, .inl g.2.2.2.2.2.2.2.2.2.2.2.2.2.2))] := hD
    refine lv_aload_n hx hb dX0_takeFloat_31 rfl (lv_at hl 0 rfl) ?_
    refine lv_aload_n hx hb dX0_takeFloat_32 rfl (lv_at hl 0 rfl) ?_
    have hPc := hP.sub (ws' := [(h0, .inr (0, [.int lo, .int hi, .int g.2.2.1, .int g.2.2.2.1, .int g.2.2.2.2.1, .int (g.2.2.2.2.2.1 + 1), .int g.2.2.2.2.2.2.1, .int g.2.2.2.2.2.2.2.1, .int g.2.2.2.2.2.2.2.2.1, .int g.2.2.2.2.2.2.2.2.2.1, .long g.2.2.2.2.2.2.2.2.2.2.1, .long g.2.2.2.2.2.2.2.2.2.2.2.1, .ref h1, .ref h2, .ref h3])), (h1, .inl (cJ, 20, .inr (.inl g.2.2.2.2.2.2.2.2.2.2.2.2.1))), (h2, .inl (cI, 30, .inl g.2.2.2.2.2.2.2.2.2.2.2.2.2.1)), (h3, .inl (cI, 30, .inl g.2.2.2.2.2.2.2.2.2.2.2.2.2.2))]) [0, 1, 2, 3] rfl
    have hDc := hD.sub (ws' := [(h0, .inr (0, [.int lo, .int hi, .int g.2.2.1, .int g.2.2.2.1, .int g.2.2.2.2.1, .int (g.2.2.2.2.2.1 + 1), .int g.2.2.2.2.2.2.1, .int g.2.2.2.2.2.2.2.1, .int g.2.2.2.2.2.2.2.2.1, .int g.2.2.2.2.2.2.2.2.2.1, .long g.2.2.2.2.2.2.2.2.2.2.1, .long g.2.2.2.2.2.2.2.2.2.2.2.1, .ref h1, .ref h2, .ref h3])), (h1, .inl (cJ, 20, .inr (.inl g.2.2.2.2.2.2.2.2.2.2.2.2.1))), (h2, .inl (cI, 30, .inl g.2.2.2.2.2.2.2.2.2.2.2.2.2.1)), (h3, .inl (cI, 30, .inl g.2.2.2.2.2.2.2.2.2.2.2.2.2.2))]) [0, 1, 2, 3] (by decide) rfl
    have hFc := va_free (wc := [(h0, .inr (0, [.int lo, .int hi, .int g.2.2.1, .int g.2.2.2.1, .int g.2.2.2.2.1, .int (g.2.2.2.2.2.1 + 1), .int g.2.2.2.2.2.2.1, .int g.2.2.2.2.2.2.2.1, .int g.2.2.2.2.2.2.2.2.1, .int g.2.2.2.2.2.2.2.2.2.1, .long g.2.2.2.2.2.2.2.2.2.2.1, .long g.2.2.2.2.2.2.2.2.2.2.2.1, .ref h1, .ref h2, .ref h3])), (h1, .inl (cJ, 20, .inr (.inl g.2.2.2.2.2.2.2.2.2.2.2.2.1))), (h2, .inl (cI, 30, .inl g.2.2.2.2.2.2.2.2.2.2.2.2.2.1)), (h3, .inl (cI, 30, .inl g.2.2.2.2.2.2.2.2.2.2.2.2.2.2))]) hD hS hA [0, 1, 2, 3] rfl
    refine va_calli (va_runV (As := []) (rest := [.ref h0]) ⟨hx, hb, hml, hown, hts⟩ (kX0_truth l dC dI cI cJ h0 h1 h2 h3 H.size (lo, hi, g.2.2.1, g.2.2.2.1, g.2.2.2.2.1, g.2.2.2.2.2.1 + 1, g.2.2.2.2.2.2.1, g.2.2.2.2.2.2.2.1, g.2.2.2.2.2.2.2.2.1, g.2.2.2.2.2.2.2.2.2.1, g.2.2.2.2.2.2.2.2.2.2.1, g.2.2.2.2.2.2.2.2.2.2.2.1, g.2.2.2.2.2.2.2.2.2.2.2.2.1, g.2.2.2.2.2.2.2.2.2.2.2.2.2.1, g.2.2.2.2.2.2.2.2.2.2.2.2.2.2)) (cwV 0 hts gX0_takeFloat_X0_truth rfl rfl rfl (by decide +kernel) ⟨Nat.le_of_ble_eq_true rfl, Nat.le_of_ble_eq_true rfl⟩) ⟨fun a U g mk q => by obtain ⟨q0, q1, qP, qK, qD⟩ := q; exact ⟨q0, q1, qP, va_K.moved (u := U) (U := U.calling g mk a) (Vm.Alike.refl U.vm) qK, qD⟩, va_recv hK hPc (ci := 0) (q0 := 0) rfl rfl, fun U hU hW => ⟨rfl, by rw [hU], by rw [hU]; exact hPc, va_K.moved hW.alike hK, hDc.weaken (fun _ _ _ _ => trivial)⟩⟩ rfl rfl hl.1 rfl (lv_room (Nat.le_of_ble_eq_true rfl)) dX0_takeFloat_33 ⟨Nat.le_of_ble_eq_true rfl, Nat.le_of_ble_eq_true rfl⟩) hS (fun q _ h => hFc q h) hFc (fun r_3 _ t H1 locs ht hvm hw hB hz1 hk1 hS => ?_)
    obtain ⟨hP1, hK1, hD1⟩ := hB
    rw [ht] at hP1
    obtain ⟨hP, hD⟩ := va_join (wr := []) (w1 := [(h0, .inr (0, [.int lo, .int hi, .int g.2.2.1, .int g.2.2.2.1, .int g.2.2.2.2.1, .int (g.2.2.2.2.2.1 + 1), .int g.2.2.2.2.2.2.1, .int g.2.2.2.2.2.2.2.1, .int g.2.2.2.2.2.2.2.2.1, .int g.2.2.2.2.2.2.2.2.2.1, .long g.2.2.2.2.2.2.2.2.2.2.1, .long g.2.2.2.2.2.2.2.2.2.2.2.1, .ref h1, .ref h2, .ref h3])), (h1, .inl (cJ, 20, .inr (.inl g.2.2.2.2.2.2.2.2.2.2.2.2.1))), (h2, .inl (cI, 30, .inl g.2.2.2.2.2.2.2.2.2.2.2.2.2.1)), (h3, .inl (cI, 30, .inl g.2.2.2.2.2.2.2.2.2.2.2.2.2.2))]) hP hD [0, 1, 2, 3] [] rfl rfl (by decide) (by decide) hk1 hFc hP1 hD1
    generalize H1 = H at hP hS ⊢
    have hP : va_P (dC, dI) vwCl [(h0, .inr (0, [.int lo, .int hi, .int g.2.2.1, .int g.2.2.2.1, .int g.2.2.2.2.1, .int (g.2.2.2.2.2.1 + 1), .int g.2.2.2.2.2.2.1, .int g.2.2.2.2.2.2.2.1, .int g.2.2.2.2.2.2.2.2.1, .int g.2.2.2.2.2.2.2.2.2.1, .long g.2.2.2.2.2.2.2.2.2.2.1, .long g.2.2.2.2.2.2.2.2.2.2.2.1, .ref h1, .ref h2, .ref h3])), (h1, .inl (cJ, 20, .inr (.inl g.2.2.2.2.2.2.2.2.2.2.2.2.1))), (h2, .inl (cI, 30, .inl g.2.2.2.2.2.2.2.2.2.2.2.2.2.1)), (h3, .inl (cI, 30, .inl g.2.2.2.2.2.2.2.2.2.2.2.2.2.2))] H := hP
    have hD : va_D A [(h0, .inr (0, [.int lo, .int hi, .int g.2.2.1, .int g.2.2.2.1, .int g.2.2.2.2.1, .int (g.2.2.2.2.2.1 + 1), .int g.2.2.2.2.2.2.1, .int g.2.2.2.2.2.2.2.1, .int g.2.2.2.2.2.2.2.2.1, .int g.2.2.2.2.2.2.2.2.2.1, .long g.2.2.2.2.2.2.2.2.2.2.1, .long g.2.2.2.2.2.2.2.2.2.2.2.1, .ref h1, .ref h2, .ref h3])), (h1, .inl (cJ, 20, .inr (.inl g.2.2.2.2.2.2.2.2.2.2.2.2.1))), (h2, .inl (cI, 30, .inl g.2.2.2.2.2.2.2.2.2.2.2.2.2.1)), (h3, .inl (cI, 30, .inl g.2.2.2.2.2.2.2.2.2.2.2.2.2.2))] := hD
    subst hw
    refine va_put (D := (dC, dI)) (ci := 0) (v := .int (rX0_truth (lo, hi, g.2.2.1, g.2.2.2.1, g.2.2.2.2.1, g.2.2.2.2.2.1 + 1, g.2.2.2.2.2.2.1, g.2.2.2.2.2.2.2.1, g.2.2.2.2.2.2.2.2.1, g.2.2.2.2.2.2.2.2.2.1, g.2.2.2.2.2.2.2.2.2.2.1, g.2.2.2.2.2.2.2.2.2.2.2.1, g.2.2.2.2.2.2.2.2.2.2.2.2.1, g.2.2.2.2.2.2.2.2.2.2.2.2.2.1, g.2.2.2.2.2.2.2.2.2.2.2.2.2.2))) (ty := .int) (C := RX0) (T := TX0) (N := 15) hx hb hts hiX0 tyX0 tyX0_ok nmX0 hown hK hP hD hS 0 rfl rfl 6 (by decide) (hts (.fieldLink RX0 41 "TripReckoner$Ledger" "shownLitres" "I") (by decide +kernel)) (fun _ h9 => h9) rfl (by decide +kernel) rfl rfl (Nat.le_of_ble_eq_true rfl) dX0_takeFloat_36 (fun H locs hP hD hS => ?_)
    have hP : va_P (dC, dI) vwCl [(h0, .inr (0, [.int lo, .int hi, .int g.2.2.1, .int g.2.2.2.1, .int g.2.2.2.2.1, .int (g.2.2.2.2.2.1 + 1), .int (rX0_truth (lo, hi, g.2.2.1, g.2.2.2.1, g.2.2.2.2.1, g.2.2.2.2.2.1 + 1, g.2.2.2.2.2.2.1, g.2.2.2.2.2.2.2.1, g.2.2.2.2.2.2.2.2.1, g.2.2.2.2.2.2.2.2.2.1, g.2.2.2.2.2.2.2.2.2.2.1, g.2.2.2.2.2.2.2.2.2.2.2.1, g.2.2.2.2.2.2.2.2.2.2.2.2.1, g.2.2.2.2.2.2.2.2.2.2.2.2.2.1, g.2.2.2.2.2.2.2.2.2.2.2.2.2.2)), .int g.2.2.2.2.2.2.2.1, .int g.2.2.2.2.2.2.2.2.1, .int g.2.2.2.2.2.2.2.2.2.1, .long g.2.2.2.2.2.2.2.2.2.2.1, .long g.2.2.2.2.2.2.2.2.2.2.2.1, .ref h1, .ref h2, .ref h3])), (h1, .inl (cJ, 20, .inr (.inl g.2.2.2.2.2.2.2.2.2.2.2.2.1))), (h2, .inl (cI, 30, .inl g.2.2.2.2.2.2.2.2.2.2.2.2.2.1)), (h3, .inl (cI, 30, .inl g.2.2.2.2.2.2.2.2.2.2.2.2.2.2))] H := hP
    have hD : va_D A [(h0, .inr (0, [.int lo, .int hi, .int g.2.2.1, .int g.2.2.2.1, .int g.2.2.2.2.1, .int (g.2.2.2.2.2.1 + 1), .int (rX0_truth (lo, hi, g.2.2.1, g.2.2.2.1, g.2.2.2.2.1, g.2.2.2.2.2.1 + 1, g.2.2.2.2.2.2.1, g.2.2.2.2.2.2.2.1, g.2.2.2.2.2.2.2.2.1, g.2.2.2.2.2.2.2.2.2.1, g.2.2.2.2.2.2.2.2.2.2.1, g.2.2.2.2.2.2.2.2.2.2.2.1, g.2.2.2.2.2.2.2.2.2.2.2.2.1, g.2.2.2.2.2.2.2.2.2.2.2.2.2.1, g.2.2.2.2.2.2.2.2.2.2.2.2.2.2)), .int g.2.2.2.2.2.2.2.1, .int g.2.2.2.2.2.2.2.2.1, .int g.2.2.2.2.2.2.2.2.2.1, .long g.2.2.2.2.2.2.2.2.2.2.1, .long g.2.2.2.2.2.2.2.2.2.2.2.1, .ref h1, .ref h2, .ref h3])), (h1, .inl (cJ, 20, .inr (.inl g.2.2.2.2.2.2.2.2.2.2.2.2.1))), (h2, .inl (cI, 30, .inl g.2.2.2.2.2.2.2.2.2.2.2.2.2.1)), (h3, .inl (cI, 30, .inl g.2.2.2.2.2.2.2.2.2.2.2.2.2.2))] := hD
    have es0 : sX0_takeFloat lo hi g = (lo, hi, g.2.2.1, g.2.2.2.1, g.2.2.2.2.1, g.2.2.2.2.2.1 + 1, rX0_truth (lo, hi, g.2.2.1, g.2.2.2.1, g.2.2.2.2.1, g.2.2.2.2.2.1 + 1, g.2.2.2.2.2.2.1, g.2.2.2.2.2.2.2.1, g.2.2.2.2.2.2.2.2.1, g.2.2.2.2.2.2.2.2.2.1, g.2.2.2.2.2.2.2.2.2.2.1, g.2.2.2.2.2.2.2.2.2.2.2.1, g.2.2.2.2.2.2.2.2.2.2.2.2.1, g.2.2.2.2.2.2.2.2.2.2.2.2.2.1, g.2.2.2.2.2.2.2.2.2.2.2.2.2.2), g.2.2.2.2.2.2.2.1, g.2.2.2.2.2.2.2.2.1, g.2.2.2.2.2.2.2.2.2.1, g.2.2.2.2.2.2.2.2.2.2.1, g.2.2.2.2.2.2.2.2.2.2.2.1, g.2.2.2.2.2.2.2.2.2.2.2.2.1, g.2.2.2.2.2.2.2.2.2.2.2.2.2.1, g.2.2.2.2.2.2.2.2.2.2.2.2.2.2) := by rw [sX0_takeFloat, if_neg c_2]
    refine W.vret hx hb hr (fun t ht hW => ⟨⟨(), rfl, trivial, ?_⟩, hS.F ht⟩) hS.2.2 dX0_takeFloat_39
    rw [es0]; exact ⟨by rw [ht]; exact hP, va_K.moved hW.alike hK, hD⟩

def sX0_takeLoss_g_2 (lo : Int32) (hi : Int32) (g : LG) (g_2 : LG) : LG :=
  g_2
def sX0_takeLoss (lo : Int32) (hi : Int32) (g : LG) : LG :=
  sX0_takeLoss_g_2 lo hi g (sX0_takeFloat lo hi (g.1, g.2.1, g.2.2.1, g.2.2.2.1 + 1, g.2.2.2.2.1, g.2.2.2.2.2.1, g.2.2.2.2.2.2.1, 0, g.2.2.2.2.2.2.2.2.1, g.2.2.2.2.2.2.2.2.2.1, g.2.2.2.2.2.2.2.2.2.2.1, g.2.2.2.2.2.2.2.2.2.2.2.1, g.2.2.2.2.2.2.2.2.2.2.2.2.1, g.2.2.2.2.2.2.2.2.2.2.2.2.2.1, g.2.2.2.2.2.2.2.2.2.2.2.2.2.2))
set_option maxHeartbeats 4000000 in
set_option maxRecDepth 100000 in
theorem kX0_takeLoss (l : Launch) (dC : Nat → ClassId) (dI : Nat → Nat → Nat) (cI cJ : ClassId) (h0 h1 h2 h3 : Nat) (sz : Nat) (lo : Int32) (hi : Int32) (g : LG) : Met l yX0_takeLoss wsX0_takeLoss ({ frames := 2, cells := 0, slots := 0, locals := 42 }) (va_Pc [.ref h0, .int lo, .int hi] (fun U => U.heap.size = sz ∧ va_P (dC, dI) vwCl [cL0 h0 h1 h2 h3 g, cL1 cJ h1 g, cL2 cI h2 g, cL3 cI h3 g] U.heap ∧ va_K (dC, dI) vwCl [(cI, .int), (cJ, .long)] U ∧ va_D (fun _ => True) [cL0 h0 h1 h2 h3 g, cL1 cJ h1 g, cL2 cI h2 g, cL3 cI h3 g])) (va_Qv (fun _ : Unit => True) (fun _ t => va_P (dC, dI) vwCl [cL0 h0 h1 h2 h3 (sX0_takeLoss lo hi g), cL1 cJ h1 (sX0_takeLoss lo hi g), cL2 cI h2 (sX0_takeLoss lo hi g), cL3 cI h3 (sX0_takeLoss lo hi g)] t.heap ∧ va_K (dC, dI) vwCl [(cI, .int), (cJ, .long)] t ∧ va_D (va_A [cL0 h0 h1 h2 h3 g, cL1 cJ h1 g, cL2 cI h2 g, cL3 cI h3 g] sz) [cL0 h0 h1 h2 h3 (sX0_takeLoss lo hi g), cL1 cJ h1 (sX0_takeLoss lo hi g), cL2 cI h2 (sX0_takeLoss lo hi g), cL3 cI h3 (sX0_takeLoss lo hi g)]) (va_A [cL0 h0 h1 h2 h3 g, cL1 cJ h1 g, cL2 cI h2 g, cL3 cI h3 g] sz)) 0 0 (va_A [cL0 h0 h1 h2 h3 g, cL1 cJ h1 g, cL2 cI h2 g, cL3 cI h3 g] sz) := by
  refine Met.ofW (cc := cX0_takeLoss) (maxL := 3) (ret := none) (by decide) rfl ?_
  intro p e s m args below meth c s₁ B hml hv
  obtain ⟨rfl, hsz, hP, hK, hD0⟩ := hv
  have hx := B.exec
  have hb := B.bytes
  have hr := B.returns
  have hts := atoms_spec (ws := wsX0_takeLoss) B.pre
  have hown : s.vm.findClass RX0 = some m.cls := findClass_of_methodNamed B.named
  have hlocks := B.notSynchronized
  have hiX0 : ∀ w ∈ u_ws RX0 TX0 15, w ∈ wsX0_takeLoss := by decide +kernel
  subst hsz
  have hD := hD0.self (sz := s.heap.size)
  generalize hAe : va_A [cL0 h0 h1 h2 h3 g, cL1 cJ h1 g, cL2 cI h2 g, cL3 cI h3 g] s.heap.size = A at hD ⊢
  have hA : ∀ q : Nat, s.heap.size ≤ q → A q := fun q h => by rw [← hAe]; exact Or.inr h
  have hS : va_S A s.heap s.heap [] := va_S.rf
  have hl := lv_entry ([.ref h0, .int lo, .int hi]) (n := 3) (Nat.le_of_ble_eq_true rfl)
  rw [lg_entry_eq]
  generalize (lg_sl ([.ref h0, .int lo, .int hi]) ++ List.replicate (3 - (lg_sl ([.ref h0, .int lo, .int hi])).length) Slot.unset).toArray = ls at hl ⊢
  have hl : lv_has ls 3 [(0, .ref h0), (1, .int lo), (2, .int hi)] := hl
  have hP : va_P (dC, dI) vwCl [cL0 h0 h1 h2 h3 g, cL1 cJ h1 g, cL2 cI h2 g, cL3 cI h3 g] s.heap := hP
  refine lv_aload_n hx hb dX0_takeLoss_0 rfl (lv_at hl 0 rfl) ?_
  refine lv_dup hx hb dX0_takeLoss_1 rfl ?_
  refine va_get (D := (dC, dI)) (ci := 0) (v := .int g.2.2.2.1) (C := RX0) (T := TX0) (N := 15) hx hb hts hiX0 hown hK hP 0 rfl rfl 3 (by decide) (hts (.fieldLink RX0 32 "TripReckoner$Ledger" "losses" "I") (by decide +kernel)) (fun _ h9 => h9) rfl dX0_takeLoss_2 ?_
  refine lv_iconst (v := 1) hx hb dX0_takeLoss_5 (by decide) ?_
  refine lv_iadd hx hb dX0_takeLoss_6 ?_
  refine va_put (D := (dC, dI)) (ci := 0) (v := .int (g.2.2.2.1 + 1)) (ty := .int) (C := RX0) (T := TX0) (N := 15) hx hb hts hiX0 tyX0 tyX0_ok nmX0 hown hK hP hD hS 0 rfl rfl 3 (by decide) (hts (.fieldLink RX0 32 "TripReckoner$Ledger" "losses" "I") (by decide +kernel)) (fun _ h9 => h9) rfl (by decide +kernel) rfl rfl (Nat.le_of_ble_eq_true rfl) dX0_takeLoss_7 (fun H locs hP hD hS => ?_)
  have hP : va_P (dC, dI) vwCl [(h0, .inr (0, [.int g.1, .int g.2.1, .int g.2.2.1, .int (g.2.2.2.1 + 1), .int g.2.2.2.2.1, .int g.2.2.2.2.2.1, .int g.2.2.2.2.2.2.1, .int g.2.2.2.2.2.2.2.1, .int g.2.2.2.2.2.2.2.2.1, .int g.2.2.2.2.2.2.2.2.2.1, .long g.2.2.2.2.2.2.2.2.2.2.1, .long g.2.2.2.2.2.2.2.2.2.2.2.1, .ref h1, .ref h2, .ref h3])), (h1, .inl (cJ, 20, .inr (.inl g.2.2.2.2.2.2.2.2.2.2.2.2.1))), (h2, .inl (cI, 30, .inl g.2.2.2.2.2.2.2.2.2.2.2.2.2.1)), (h3, .inl (cI, 30, .inl g.2.2.2.2.2.2.2.2.2.2.2.2.2.2))] H := hP
  have hD : va_D A [(h0, .inr (0, [.int g.1, .int g.2.1, .int g.2.2.1, .int (g.2.2.2.1 + 1), .int g.2.2.2.2.1, .int g.2.2.2.2.2.1, .int g.2.2.2.2.2.2.1, .int g.2.2.2.2.2.2.2.1, .int g.2.2.2.2.2.2.2.2.1, .int g.2.2.2.2.2.2.2.2.2.1, .long g.2.2.2.2.2.2.2.2.2.2.1, .long g.2.2.2.2.2.2.2.2.2.2.2.1, .ref h1, .ref h2, .ref h3])), (h1, .inl (cJ, 20, .inr (.inl g.2.2.2.2.2.2.2.2.2.2.2.2.1))), (h2, .inl (cI, 30, .inl g.2.2.2.2.2.2.2.2.2.2.2.2.2.1)), (h3, .inl (cI, 30, .inl g.2.2.2.2.2.2.2.2.2.2.2.2.2.2))] := hD
  refine lv_aload_n hx hb dX0_takeLoss_10 rfl (lv_at hl 0 rfl) ?_
  refine lv_iconst (v := 0) hx hb dX0_takeLoss_11 (by decide) ?_
  refine va_put (D := (dC, dI)) (ci := 0) (v := .int 0) (ty := .boolean) (C := RX0) (T := TX0) (N := 15) hx hb hts hiX0 tyX0 tyX0_ok nmX0 hown hK hP hD hS 0 rfl rfl 7 (by decide) (hts (.fieldLink RX0 44 "TripReckoner$Ledger" "settling" "Z") (by decide +kernel)) (fun _ h9 => h9) rfl (by decide +kernel) rfl rfl (Nat.le_of_ble_eq_true rfl) dX0_takeLoss_12 (fun H locs hP hD hS => ?_)
  have hP : va_P (dC, dI) vwCl [(h0, .inr (0, [.int g.1, .int g.2.1, .int g.2.2.1, .int (g.2.2.2.1 + 1), .int g.2.2.2.2.1, .int g.2.2.2.2.2.1, .int g.2.2.2.2.2.2.1, .int 0, .int g.2.2.2.2.2.2.2.2.1, .int g.2.2.2.2.2.2.2.2.2.1, .long g.2.2.2.2.2.2.2.2.2.2.1, .long g.2.2.2.2.2.2.2.2.2.2.2.1, .ref h1, .ref h2, .ref h3])), (h1, .inl (cJ, 20, .inr (.inl g.2.2.2.2.2.2.2.2.2.2.2.2.1))), (h2, .inl (cI, 30, .inl g.2.2.2.2.2.2.2.2.2.2.2.2.2.1)), (h3, .inl (cI, 30, .inl g.2.2.2.2.2.2.2.2.2.2.2.2.2.2))] H := hP
  have hD : va_D A [(h0, .inr (0, [.int g.1, .int g.2.1, .int g.2.2.1, .int (g.2.2.2.1 + 1), .int g.2.2.2.2.1, .int g.2.2.2.2.2.1, .int g.2.2.2.2.2.2.1, .int 0, .int g.2.2.2.2.2.2.2.2.1, .int g.2.2.2.2.2.2.2.2.2.1, .long g.2.2.2.2.2.2.2.2.2.2.1, .long g.2.2.2.2.2.2.2.2.2.2.2.1, .ref h1, .ref h2, .ref h3])), (h1, .inl (cJ, 20, .inr (.inl g.2.2.2.2.2.2.2.2.2.2.2.2.1))), (h2, .inl (cI, 30, .inl g.2.2.2.2.2.2.2.2.2.2.2.2.2.1)), (h3, .inl (cI, 30, .inl g.2.2.2.2.2.2.2.2.2.2.2.2.2.2))] := hD
  refine lv_aload_n hx hb dX0_takeLoss_15 rfl (lv_at hl 0 rfl) ?_
  refine lv_iload_n hx hb dX0_takeLoss_16 rfl (lv_at hl 1 rfl) ?_
  refine lv_iload_n hx hb dX0_takeLoss_17 rfl (lv_at hl 2 rfl) ?_
  have hPc := hP.sub (ws' := [(h0, .inr (0, [.int g.1, .int g.2.1, .int g.2.2.1, .int (g.2.2.2.1 + 1), .int g.2.2.2.2.1, .int g.2.2.2.2.2.1, .int g.2.2.2.2.2.2.1, .int 0, .int g.2.2.2.2.2.2.2.2.1, .int g.2.2.2.2.2.2.2.2.2.1, .long g.2.2.2.2.2.2.2.2.2.2.1, .long g.2.2.2.2.2.2.2.2.2.2.2.1, .ref h1, .ref h2, .ref h3])), (h1, .inl (cJ, 20, .inr (.inl g.2.2.2.2.2.2.2.2.2.2.2.2.1))), (h2, .inl (cI, 30, .inl g.2.2.2.2.2.2.2.2.2.2.2.2.2.1)), (h3, .inl (cI, 30, .inl g.2.2.2.2.2.2.2.2.2.2.2.2.2.2))]) [0, 1, 2, 3] rfl
  have hDc := hD.sub (ws' := [(h0, .inr (0, [.int g.1, .int g.2.1, .int g.2.2.1, .int (g.2.2.2.1 + 1), .int g.2.2.2.2.1, .int g.2.2.2.2.2.1, .int g.2.2.2.2.2.2.1, .int 0, .int g.2.2.2.2.2.2.2.2.1, .int g.2.2.2.2.2.2.2.2.2.1, .long g.2.2.2.2.2.2.2.2.2.2.1, .long g.2.2.2.2.2.2.2.2.2.2.2.1, .ref h1, .ref h2, .ref h3])), (h1, .inl (cJ, 20, .inr (.inl g.2.2.2.2.2.2.2.2.2.2.2.2.1))), (h2, .inl (cI, 30, .inl g.2.2.2.2.2.2.2.2.2.2.2.2.2.1)), (h3, .inl (cI, 30, .inl g.2.2.2.2.2.2.2.2.2.2.2.2.2.2))]) [0, 1, 2, 3] (by decide) rfl
  have hFc := va_free (wc := [(h0, .inr (0, [.int g.1, .int g.2.1, .int g.2.2.1, .int (g.2.2.2.1 + 1), .int g.2.2.2.2.1, .int g.2.2.2.2.2.1, .int g.2.2.2.2.2.2.1, .int 0, .int g.2.2.2.2.2.2.2.2.1, .int g.2.2.2.2.2.2.2.2.2.1, .long g.2.2.2.2.2.2.2.2.2.2.1, .long g.2.2.2.2.2.2.2.2.2.2.2.1, .ref h1, .ref h2, .ref h3])), (h1, .inl (cJ, 20, .inr (.inl g.2.2.2.2.2.2.2.2.2.2.2.2.1))), (h2, .inl (cI, 30, .inl g.2.2.2.2.2.2.2.2.2.2.2.2.2.1)), (h3, .inl (cI, 30, .inl g.2.2.2.2.2.2.2.2.2.2.2.2.2.2))]) hD hS hA [0, 1, 2, 3] rfl
  refine va_callv (va_runV (As := [.int lo, .int hi]) (rest := []) ⟨hx, hb, hml, hown, hts⟩ (kX0_takeFloat l dC dI cI cJ h0 h1 h2 h3 H.size lo hi (g.1, g.2.1, g.2.2.1, g.2.2.2.1 + 1, g.2.2.2.2.1, g.2.2.2.2.2.1, g.2.2.2.2.2.2.1, 0, g.2.2.2.2.2.2.2.2.1, g.2.2.2.2.2.2.2.2.2.1, g.2.2.2.2.2.2.2.2.2.2.1, g.2.2.2.2.2.2.2.2.2.2.2.1, g.2.2.2.2.2.2.2.2.2.2.2.2.1, g.2.2.2.2.2.2.2.2.2.2.2.2.2.1, g.2.2.2.2.2.2.2.2.2.2.2.2.2.2)) (cwV 2 hts gX0_takeLoss_X0_takeFloat rfl rfl rfl (by decide +kernel) ⟨Nat.le_of_ble_eq_true rfl, Nat.le_of_ble_eq_true rfl⟩) ⟨fun a U g mk q => by obtain ⟨q0, q1, qP, qK, qD⟩ := q; exact ⟨q0, q1, qP, va_K.moved (u := U) (U := U.calling g mk a) (Vm.Alike.refl U.vm) qK, qD⟩, va_recv hK hPc (ci := 0) (q0 := 0) rfl rfl, fun U hU hW => ⟨rfl, by rw [hU], by rw [hU]; exact hPc, va_K.moved hW.alike hK, hDc.weaken (fun _ _ _ _ => trivial)⟩⟩ rfl rfl hl.1 rfl (lv_room (Nat.le_of_ble_eq_true rfl)) dX0_takeLoss_18 ⟨Nat.le_of_ble_eq_true rfl, Nat.le_of_ble_eq_true rfl⟩) hS (fun q _ h => hFc q h) hFc (fun _ t H1 locs ht hvm hw hB hz1 hk1 hS => ?_)
  obtain ⟨hP1, hK1, hD1⟩ := hB
  rw [ht] at hP1
  obtain ⟨g_2, eg_2⟩ : ∃ z, z = sX0_takeFloat lo hi (g.1, g.2.1, g.2.2.1, g.2.2.2.1 + 1, g.2.2.2.2.1, g.2.2.2.2.2.1, g.2.2.2.2.2.2.1, 0, g.2.2.2.2.2.2.2.2.1, g.2.2.2.2.2.2.2.2.2.1, g.2.2.2.2.2.2.2.2.2.2.1, g.2.2.2.2.2.2.2.2.2.2.2.1, g.2.2.2.2.2.2.2.2.2.2.2.2.1, g.2.2.2.2.2.2.2.2.2.2.2.2.2.1, g.2.2.2.2.2.2.2.2.2.2.2.2.2.2) := ⟨_, rfl⟩
  rw [← eg_2] at hP1 hD1
  obtain ⟨hP, hD⟩ := va_join (wr := []) (w1 := [cL0 h0 h1 h2 h3 g_2, cL1 cJ h1 g_2, cL2 cI h2 g_2, cL3 cI h3 g_2]) hP hD [0, 1, 2, 3] [] rfl rfl (by decide) (by decide) hk1 hFc hP1 hD1
  generalize H1 = H at hP hS ⊢
  have hP : va_P (dC, dI) vwCl [cL0 h0 h1 h2 h3 g_2, cL1 cJ h1 g_2, cL2 cI h2 g_2, cL3 cI h3 g_2] H := hP
  have hD : va_D A [cL0 h0 h1 h2 h3 g_2, cL1 cJ h1 g_2, cL2 cI h2 g_2, cL3 cI h3 g_2] := hD
  have es0 : sX0_takeLoss lo hi g = g_2 := by rw [sX0_takeLoss, ← eg_2, sX0_takeLoss_g_2]
  refine W.vret hx hb hr (fun t ht hW => ⟨⟨(), rfl, trivial, ?_⟩, hS.F ht⟩) hS.2.2 dX0_takeLoss_21
  rw [es0]; exact ⟨by rw [ht]; exact hP, va_K.moved hW.alike hK, hD⟩

def rX0_tellsRefill (k : Int32) (g : LG) : Int32 :=
  if k < 0 then
    0
  else
    if g.2.2.1 ≤ k then
      0
    else
      if k < (g.2.2.1 - 30) then
        0
      else
        1
set_option maxHeartbeats 4000000 in
set_option maxRecDepth 100000 in
theorem kX0_tellsRefill (l : Launch) (dC : Nat → ClassId) (dI : Nat → Nat → Nat) (cI cJ : ClassId) (h0 h1 h2 h3 : Nat) (sz : Nat) (k : Int32) (g : LG) : Met l yX0_tellsRefill wsX0_tellsRefill ({ frames := 0, cells := 0, slots := 0, locals := 0 }) (va_Pc [.ref h0, .int k] (fun U => U.heap.size = sz ∧ va_P (dC, dI) vwCl [cL0 h0 h1 h2 h3 g, cL1 cJ h1 g, cL2 cI h2 g, cL3 cI h3 g] U.heap ∧ va_K (dC, dI) vwCl [(cI, .int), (cJ, .long)] U ∧ va_D (fun _ => True) [cL0 h0 h1 h2 h3 g, cL1 cJ h1 g, cL2 cI h2 g, cL3 cI h3 g])) (va_Qi (fun (r : Int32) (_ : Unit) => r = rX0_tellsRefill k g) (fun _ t => va_P (dC, dI) vwCl [cL0 h0 h1 h2 h3 g, cL1 cJ h1 g, cL2 cI h2 g, cL3 cI h3 g] t.heap ∧ va_K (dC, dI) vwCl [(cI, .int), (cJ, .long)] t ∧ va_D (va_A [cL0 h0 h1 h2 h3 g, cL1 cJ h1 g, cL2 cI h2 g, cL3 cI h3 g] sz) [cL0 h0 h1 h2 h3 g, cL1 cJ h1 g, cL2 cI h2 g, cL3 cI h3 g]) (va_A [cL0 h0 h1 h2 h3 g, cL1 cJ h1 g, cL2 cI h2 g, cL3 cI h3 g] sz)) 0 0 (va_A [cL0 h0 h1 h2 h3 g, cL1 cJ h1 g, cL2 cI h2 g, cL3 cI h3 g] sz) := by
  refine Met.ofW (cc := cX0_tellsRefill) (maxL := 2) (ret := (some .boolean)) (by decide) rfl ?_
  intro p e s m args below meth c s₁ B hml hv
  obtain ⟨rfl, hsz, hP, hK, hD0⟩ := hv
  have hx := B.exec
  have hb := B.bytes
  have hr := B.returns
  have hts := atoms_spec (ws := wsX0_tellsRefill) B.pre
  have hown : s.vm.findClass RX0 = some m.cls := findClass_of_methodNamed B.named
  have hlocks := B.notSynchronized
  have hiX0 : ∀ w ∈ u_ws RX0 TX0 15, w ∈ wsX0_tellsRefill := by decide +kernel
  subst hsz
  have hD := hD0.self (sz := s.heap.size)
  generalize hAe : va_A [cL0 h0 h1 h2 h3 g, cL1 cJ h1 g, cL2 cI h2 g, cL3 cI h3 g] s.heap.size = A at hD ⊢
  have hA : ∀ q : Nat, s.heap.size ≤ q → A q := fun q h => by rw [← hAe]; exact Or.inr h
  have hS : va_S A s.heap s.heap [] := va_S.rf
  have hl := lv_entry ([.ref h0, .int k]) (n := 2) (Nat.le_of_ble_eq_true rfl)
  rw [lg_entry_eq]
  generalize (lg_sl ([.ref h0, .int k]) ++ List.replicate (2 - (lg_sl ([.ref h0, .int k])).length) Slot.unset).toArray = ls at hl ⊢
  have hl : lv_has ls 2 [(0, .ref h0), (1, .int k)] := hl
  have hP : va_P (dC, dI) vwCl [cL0 h0 h1 h2 h3 g, cL1 cJ h1 g, cL2 cI h2 g, cL3 cI h3 g] s.heap := hP
  refine lv_iload_n hx hb dX0_tellsRefill_0 rfl (lv_at hl 1 rfl) ?_
  refine lv_if_lt (tgt := 27) hx hb dX0_tellsRefill_1 (by decide) (fun c_1 => ?_) (fun c_1 => ?_)
  · refine lv_iconst (v := 0) hx hb dX0_tellsRefill_27 (by decide) ?_
    have er : 0 = rX0_tellsRefill k g := by rw [rX0_tellsRefill, if_pos c_1]
    refine W.zret (ty := .boolean) (v := 0) hx hb hr rfl (fun t ht hW => ⟨⟨0, (), rfl, er, ?_⟩, hS.F ht⟩) hS.2.2 dX0_tellsRefill_28
    exact ⟨by rw [ht]; exact hP, va_K.moved hW.alike hK, hD⟩
  · refine lv_iload_n hx hb dX0_tellsRefill_4 rfl (lv_at hl 1 rfl) ?_
    refine lv_aload_n hx hb dX0_tellsRefill_5 rfl (lv_at hl 0 rfl) ?_
    refine va_get (D := (dC, dI)) (ci := 0) (v := .int g.2.2.1) (C := RX0) (T := TX0) (N := 15) hx hb hts hiX0 hown hK hP 0 rfl rfl 2 (by decide) (hts (.fieldLink RX0 29 "TripReckoner$Ledger" "refills" "I") (by decide +kernel)) (fun _ h9 => h9) rfl dX0_tellsRefill_6 ?_
    refine lv_icmp_ge (tgt := 27) hx hb dX0_tellsRefill_9 (by decide) (fun c_2 => ?_) (fun c_2 => ?_)
    · refine lv_iconst (v := 0) hx hb dX0_tellsRefill_27 (by decide) ?_
      have er : 0 = rX0_tellsRefill k g := by rw [rX0_tellsRefill, if_neg c_1, if_pos c_2]
      refine W.zret (ty := .boolean) (v := 0) hx hb hr rfl (fun t ht hW => ⟨⟨0, (), rfl, er, ?_⟩, hS.F ht⟩) hS.2.2 dX0_tellsRefill_28
      exact ⟨by rw [ht]; exact hP, va_K.moved hW.alike hK, hD⟩
    · refine lv_iload_n hx hb dX0_tellsRefill_12 rfl (lv_at hl 1 rfl) ?_
      refine lv_aload_n hx hb dX0_tellsRefill_13 rfl (lv_at hl 0 rfl) ?_
      refine va_get (D := (dC, dI)) (ci := 0) (v := .int g.2.2.1) (C := RX0) (T := TX0) (N := 15) hx hb hts hiX0 hown hK hP 0 rfl rfl 2 (by decide) (hts (.fieldLink RX0 29 "TripReckoner$Ledger" "refills" "I") (by decide +kernel)) (fun _ h9 => h9) rfl dX0_tellsRefill_14 ?_
      refine lv_bipush (v := 30) hx hb dX0_tellsRefill_17 (by decide) ?_
      refine lv_isub hx hb dX0_tellsRefill_19 ?_
      refine lv_icmp_lt (tgt := 27) hx hb dX0_tellsRefill_20 (by decide) (fun c_3 => ?_) (fun c_3 => ?_)
      · refine lv_iconst (v := 0) hx hb dX0_tellsRefill_27 (by decide) ?_
        have er : 0 = rX0_tellsRefill k g := by rw [rX0_tellsRefill, if_neg c_1, if_neg c_2, if_pos c_3]
        refine W.zret (ty := .boolean) (v := 0) hx hb hr rfl (fun t ht hW => ⟨⟨0, (), rfl, er, ?_⟩, hS.F ht⟩) hS.2.2 dX0_tellsRefill_28
        exact ⟨by rw [ht]; exact hP, va_K.moved hW.alike hK, hD⟩
      · refine lv_iconst (v := 1) hx hb dX0_tellsRefill_23 (by decide) ?_
        refine lv_goto (tgt := 28) hx hb dX0_tellsRefill_24 (by decide) ?_
        have er : 1 = rX0_tellsRefill k g := by rw [rX0_tellsRefill, if_neg c_1, if_neg c_2, if_neg c_3]
        refine W.zret (ty := .boolean) (v := 1) hx hb hr rfl (fun t ht hW => ⟨⟨1, (), rfl, er, ?_⟩, hS.F ht⟩) hS.2.2 dX0_tellsRefill_28
        exact ⟨by rw [ht]; exact hP, va_K.moved hW.alike hK, hD⟩
