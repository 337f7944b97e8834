def rX4_need (leg : Int32) (v : MS) : Int32 :=
  (((v.2.1 ((2 * leg).toNatClampNeg)) * v.2.2.2.2.2.2.2.2.2.2.2.1) + 999) / 1000
set_option maxHeartbeats 4000000 in
set_option maxRecDepth 100000 in
theorem kX4_need (l : Launch) (dC : Nat → ClassId) (dI : Nat → Nat → Nat) (cI cJ : ClassId) (m0 m1 m2 m3 m4 m5 : Nat) (sz : Nat) (leg : Int32) (v : MS) (hn : vp_in (2 * leg) 60) : Met l yX4_need wsX4_need ({ frames := 0, cells := 0, slots := 0, locals := 0 }) (va_Pc [.ref m0, .int leg] (fun U => U.heap.size = sz ∧ va_P (dC, dI) vwCl [cM0 m0 m1 m2 m3 m4 m5 v, cM1 cI m1 v, cM2 cJ m2 v, cM3 cJ m3 v, cM4 cI m4 v, cM5 cI m5 v] U.heap ∧ va_K (dC, dI) vwCl [(cI, .int), (cJ, .long)] U ∧ va_D (fun _ => True) [cM0 m0 m1 m2 m3 m4 m5 v, cM1 cI m1 v, cM2 cJ m2 v, cM3 cJ m3 v, cM4 cI m4 v, cM5 cI m5 v])) (va_Qi (fun (r : Int32) (_ : Unit) => r = rX4_need leg v) (fun _ t => va_P (dC, dI) vwCl [cM0 m0 m1 m2 m3 m4 m5 v, cM1 cI m1 v, cM2 cJ m2 v, cM3 cJ m3 v, cM4 cI m4 v, cM5 cI m5 v] t.heap ∧ va_K (dC, dI) vwCl [(cI, .int), (cJ, .long)] t ∧ va_D (va_A [cM0 m0 m1 m2 m3 m4 m5 v, cM1 cI m1 v, cM2 cJ m2 v, cM3 cJ m3 v, cM4 cI m4 v, cM5 cI m5 v] sz) [cM0 m0 m1 m2 m3 m4 m5 v, cM1 cI m1 v, cM2 cJ m2 v, cM3 cJ m3 v, cM4 cI m4 v, cM5 cI m5 v]) (va_A [cM0 m0 m1 m2 m3 m4 m5 v, cM1 cI m1 v, cM2 cJ m2 v, cM3 cJ m3 v, cM4 cI m4 v, cM5 cI m5 v] sz)) 0 0 (va_A [cM0 m0 m1 m2 m3 m4 m5 v, cM1 cI m1 v, cM2 cJ m2 v, cM3 cJ m3 v, cM4 cI m4 v, cM5 cI m5 v] sz) := by
  refine Met.ofW (cc := cX4_need) (maxL := 2) (ret := (some .int)) (by decide) rfl ?_
  intro p e s m args below meth c s₁ B hml hv
  obtain ⟨rfl, hsz, hP, hK, hD0⟩ := hv
  have hx := B.exec
  have hb := B.bytes
  have hr := B.returns
  have hts := atoms_spec (ws := wsX4_need) B.pre
  have hown : s.vm.findClass RX4 = some m.cls := findClass_of_methodNamed B.named
  have hlocks := B.notSynchronized
  have hiX4 : ∀ w ∈ u_ws RX4 TX4 17, w ∈ wsX4_need := by decide +kernel
  subst hsz
  have hD := hD0.self (sz := s.heap.size)
  generalize hAe : va_A [cM0 m0 m1 m2 m3 m4 m5 v, cM1 cI m1 v, cM2 cJ m2 v, cM3 cJ m3 v, cM4 cI m4 v, cM5 cI m5 v] s.heap.size = A at hD ⊢
  have hA : ∀ q : Nat, s.heap.size ≤ q → A q := fun q h => by rw [← hAe]; exact Or.inr h
  have hS : va_S A s.heap s.heap [] := va_S.rf
  have hl := lv_entry ([.ref m0, .int leg]) (n := 2) (Nat.le_of_ble_eq_true rfl)
  rw [lg_entry_eq]
  generalize (lg_sl ([.ref m0, .int leg]) ++ List.replicate (2 - (lg_sl ([.ref m0, .int leg])).length) Slot.unset).toArray = ls at hl ⊢
  have hl : lv_has ls 2 [(0, .ref m0), (1, .int leg)] := hl
  have hP : va_P (dC, dI) vwCl [cM0 m0 m1 m2 m3 m4 m5 v, cM1 cI m1 v, cM2 cJ m2 v, cM3 cJ m3 v, cM4 cI m4 v, cM5 cI m5 v] s.heap := hP
  refine lv_aload_n hx hb dX4_need_0 rfl (lv_at hl 0 rfl) ?_
  refine va_get (D := (dC, dI)) (ci := 4) (v := .ref m1) (C := RX4) (T := TX4) (N := 17) hx hb hts hiX4 hown hK hP 0 rfl rfl 1 (by decide) (hts (.fieldLink RX4 7 "TripReckonerModel" "tape" "[I") (by decide +kernel)) (fun _ h9 => h9) rfl dX4_need_1 ?_
  refine lv_iconst (v := 2) hx hb dX4_need_4 (by decide) ?_
  refine lv_iload_n hx hb dX4_need_5 rfl (lv_at hl 1 rfl) ?_
  refine lv_imul hx hb dX4_need_6 ?_
  refine va_iald hx hb hK hP 1 0 rfl rfl hn dX4_need_7 ?_
  refine lv_aload_n hx hb dX4_need_8 rfl (lv_at hl 0 rfl) ?_
  refine va_get (D := (dC, dI)) (ci := 4) (v := .int v.2.2.2.2.2.2.2.2.2.2.2.1) (C := RX4) (T := TX4) (N := 17) hx hb hts hiX4 hown hK hP 0 rfl rfl 11 (by decide) (hts (.fieldLink RX4 40 "TripReckonerModel" "high" "I") (by decide +kernel)) (fun _ h9 => h9) rfl dX4_need_9 ?_
  refine lv_imul hx hb dX4_need_12 ?_
  refine lv_sipush (v := 999) hx hb dX4_need_13 (by decide) ?_
  refine lv_iadd hx hb dX4_need_16 ?_
  refine lv_sipush (v := 1000) hx hb dX4_need_17 (by decide) ?_
  refine lv_idiv hx hb dX4_need_20 (by decide) ?_
  have er : (((v.2.1 ((2 * leg).toNatClampNeg)) * v.2.2.2.2.2.2.2.2.2.2.2.1) + 999) / 1000 = rX4_need leg v := by rw [rX4_need]
  refine W.iret (v := (((v.2.1 ((2 * leg).toNatClampNeg)) * v.2.2.2.2.2.2.2.2.2.2.2.1) + 999) / 1000) hx hb hr (fun t ht hW => ⟨⟨(((v.2.1 ((2 * leg).toNatClampNeg)) * v.2.2.2.2.2.2.2.2.2.2.2.1) + 999) / 1000, (), rfl, er, ?_⟩, hS.F ht⟩) hS.2.2 dX4_need_21
  exact ⟨by rw [ht]; exact hP, va_K.moved hW.alike hK, hD⟩

def rX4_behind (leg : Int32) (li : Int32) (legs : Int32) (v : MS) : Int32 :=
  if 0 ≤ (li - (rX4_need leg v)) then
    if leg = (legs - 1) then
      0
    else
      v.2.2.2.2.2.2.2.2.2.2.2.2.2.2.1 (((121 * leg) + (li - (rX4_need leg v))).toNatClampNeg)
  else
    1000000000
set_option maxHeartbeats 4000000 in
set_option maxRecDepth 100000 in
theorem kX4_behind (l : Launch) (dC : Nat → ClassId) (dI : Nat → Nat → Nat) (cI cJ : ClassId) (m0 m1 m2 m3 m4 m5 : Nat) (sz : Nat) (leg : Int32) (li : Int32) (legs : Int32) (v : MS) (hn : vp_in (2 * leg) 60) (hc : 0 ≤ li - rX4_need leg v → ¬ leg = legs - 1 → vp_in (121 * leg + (li - rX4_need leg v)) 1573) : Met l yX4_behind wsX4_behind ({ frames := 1, cells := 0, slots := 0, locals := 21 }) (va_Pc [.ref m0, .int leg, .int li, .int legs] (fun U => U.heap.size = sz ∧ va_P (dC, dI) vwCl [cM0 m0 m1 m2 m3 m4 m5 v, cM1 cI m1 v, cM2 cJ m2 v, cM3 cJ m3 v, cM4 cI m4 v, cM5 cI m5 v] U.heap ∧ va_K (dC, dI) vwCl [(cI, .int), (cJ, .long)] U ∧ va_D (fun _ => True) [cM0 m0 m1 m2 m3 m4 m5 v, cM1 cI m1 v, cM2 cJ m2 v, cM3 cJ m3 v, cM4 cI m4 v, cM5 cI m5 v])) (va_Qi (fun (r : Int32) (_ : Unit) => r = rX4_behind leg li legs v) (fun _ t => va_P (dC, dI) vwCl [cM0 m0 m1 m2 m3 m4 m5 v, cM1 cI m1 v, cM2 cJ m2 v, cM3 cJ m3 v, cM4 cI m4 v, cM5 cI m5 v] t.heap ∧ va_K (dC, dI) vwCl [(cI, .int), (cJ, .long)] t ∧ va_D (va_A [cM0 m0 m1 m2 m3 m4 m5 v, cM1 cI m1 v, cM2 cJ m2 v, cM3 cJ m3 v, cM4 cI m4 v, cM5 cI m5 v] sz) [cM0 m0 m1 m2 m3 m4 m5 v, cM1 cI m1 v, cM2 cJ m2 v, cM3 cJ m3 v, cM4 cI m4 v, cM5 cI m5 v]) (va_A [cM0 m0 m1 m2 m3 m4 m5 v, cM1 cI m1 v, cM2 cJ m2 v, cM3 cJ m3 v, cM4 cI m4 v, cM5 cI m5 v] sz)) 0 0 (va_A [cM0 m0 m1 m2 m3 m4 m5 v, cM1 cI m1 v, cM2 cJ m2 v, cM3 cJ m3 v, cM4 cI m4 v, cM5 cI m5 v] sz) := by
  refine Met.ofW (cc := cX4_behind) (maxL := 5) (ret := (some .int)) (by decide) rfl ?_
  intro p e s m args below meth c s₁ B hml hv
  obtain ⟨rfl, hsz, hP, hK, hD0⟩ := hv
  have hx := B.exec
  have hb := B.bytes
  have hr := B.returns
  have hts := atoms_spec (ws := wsX4_behind) B.pre
  have hown : s.vm.findClass RX4 = some m.cls := findClass_of_methodNamed B.named
  have hlocks := B.notSynchronized
  have hiX4 : ∀ w ∈ u_ws RX4 TX4 17, w ∈ wsX4_behind := by decide +kernel
  subst hsz
  have hD := hD0.self (sz := s.heap.size)
  generalize hAe : va_A [cM0 m0 m1 m2 m3 m4 m5 v, cM1 cI m1 v, cM2 cJ m2 v, cM3 cJ m3 v, cM4 cI m4 v, cM5 cI m5 v] s.heap.size = A at hD ⊢
  have hA : ∀ q : Nat, s.heap.size ≤ q → A q := fun q h => by rw [← hAe]; exact Or.inr h
  have hS : va_S A s.heap s.heap [] := va_S.rf
  have hl := lv_entry ([.ref m0, .int leg, .int li, .int legs]) (n := 5) (Nat.le_of_ble_eq_true rfl)
  rw [lg_entry_eq]
  generalize (lg_sl ([.ref m0, .int leg, .int li, .int legs]) ++ List.replicate (5 - (lg_sl ([.ref m0, .int leg, .int li, .int legs])).length) Slot.unset).toArray = ls at hl ⊢
  have hl : lv_has ls 5 [(0, .ref m0), (1, .int leg), (2, .int li), (3, .int legs)] := hl
  have hP : va_P (dC, dI) vwCl [cM0 m0 m1 m2 m3 m4 m5 v, cM1 cI m1 v, cM2 cJ m2 v, cM3 cJ m3 v, cM4 cI m4 v, cM5 cI m5 v] s.heap := hP
  refine lv_iload_n hx hb dX4_behind_0 rfl (lv_at hl 2 rfl) ?_
  refine lv_aload_n hx hb dX4_behind_1 rfl (lv_at hl 0 rfl) ?_
  refine lv_iload_n hx hb dX4_behind_2 rfl (lv_at hl 1 rfl) ?_
  have hPc := hP.sub (ws' := [cM0 m0 m1 m2 m3 m4 m5 v, cM1 cI m1 v, cM2 cJ m2 v, cM3 cJ m3 v, cM4 cI m4 v, cM5 cI m5 v]) [0, 1, 2, 3, 4, 5] rfl
  have hDc := hD.sub (ws' := [cM0 m0 m1 m2 m3 m4 m5 v, cM1 cI m1 v, cM2 cJ m2 v, cM3 cJ m3 v, cM4 cI m4 v, cM5 cI m5 v]) [0, 1, 2, 3, 4, 5] (by decide) rfl
  have hFc := va_free (wc := [cM0 m0 m1 m2 m3 m4 m5 v, cM1 cI m1 v, cM2 cJ m2 v, cM3 cJ m3 v, cM4 cI m4 v, cM5 cI m5 v]) hD hS hA [0, 1, 2, 3, 4, 5] rfl
  refine va_calli (va_runV (As := [.int leg]) (rest := [.int li]) ⟨hx, hb, hml, hown, hts⟩ (kX4_need l dC dI cI cJ m0 m1 m2 m3 m4 m5 s.heap.size leg v hn) (cwV 1 hts gX4_behind_X4_need rfl rfl rfl (by decide +kernel) ⟨Nat.le_of_ble_eq_true rfl, Nat.le_of_ble_eq_true rfl⟩) ⟨fun a U g mk q => by obtain ⟨q0, q1, qP, qK, qD⟩ := q; exact ⟨q0, q1, qP, va_K.moved (u := U) (U := U.calling g mk a) (Vm.Alike.refl U.vm) qK, qD⟩, va_recv hK hPc (ci := 4) (q0 := 0) rfl rfl, fun U hU hW => ⟨rfl, by rw [hU], by rw [hU]; exact hPc, va_K.moved hW.alike hK, hDc.weaken (fun _ _ _ _ => trivial)⟩⟩ rfl rfl hl.1 rfl (lv_room (Nat.le_of_ble_eq_true rfl)) dX4_behind_3 ⟨Nat.le_of_ble_eq_true rfl, Nat.le_of_ble_eq_true rfl⟩) hS (fun q _ h => hFc q h) hFc (fun r_1 _ t H1 locs ht hvm hw hB hz1 hk1 hS => ?_)
  obtain ⟨hP1, hK1, hD1⟩ := hB
  rw [ht] at hP1
  obtain ⟨hP, hD⟩ := va_join (wr := []) (w1 := [cM0 m0 m1 m2 m3 m4 m5 v, cM1 cI m1 v, cM2 cJ m2 v, cM3 cJ m3 v, cM4 cI m4 v, cM5 cI m5 v]) hP hD [0, 1, 2, 3, 4, 5] [] rfl rfl (by decide) (by decide) hk1 hFc hP1 hD1
  generalize H1 = H at hP hS ⊢
  have hP : va_P (dC, dI) vwCl [cM0 m0 m1 m2 m3 m4 m5 v, cM1 cI m1 v, cM2 cJ m2 v, cM3 cJ m3 v, cM4 cI m4 v, cM5 cI m5 v] H := hP
  have hD : va_D A [cM0 m0 m1 m2 m3 m4 m5 v, cM1 cI m1 v, cM2 cJ m2 v, cM3 cJ m3 v, cM4 cI m4 v, cM5 cI m5 v] := hD
  subst hw
  refine lv_isub hx hb dX4_behind_6 ?_
  refine lv_istore (lv' := [(4, .int (li - (rX4_need leg v))), (0, .ref m0), (1, .int leg), (2, .int li), (3, .int legs)]) hx hb dX4_behind_7 hl (by decide) rfl (fun ls hl => ?_)
  refine lv_iload hx hb dX4_behind_9 (lv_at hl 0 rfl) ?_
  refine lv_if_ge (tgt := 17) hx hb dX4_behind_11 (by decide) (fun c_2 => ?_) (fun c_2 => ?_)
  · refine lv_iload_n hx hb dX4_behind_17 rfl (lv_at hl 2 rfl) ?_
    refine lv_iload_n hx hb dX4_behind_18 rfl (lv_at hl 4 rfl) ?_
    refine lv_iconst (v := 1) hx hb dX4_behind_19 (by decide) ?_
    refine lv_isub hx hb dX4_behind_20 ?_
    refine lv_icmp_ne (tgt := 28) hx hb dX4_behind_21 (by decide) (fun c_3 => ?_) (fun c_3 => ?_)
    · refine lv_aload_n hx hb dX4_behind_28 rfl (lv_at hl 1 rfl) ?_
      refine va_get (D := (dC, dI)) (ci := 4) (v := .ref m4) (C := RX4) (T := TX4) (N := 17) hx hb hts hiX4 hown hK hP 0 rfl rfl 14 (by decide) (hts (.fieldLink RX4 43 "TripReckonerModel" "cost" "[I") (by decide +kernel)) (fun _ h9 => h9) rfl dX4_behind_29 ?_
      refine lv_bipush (v := 121) hx hb dX4_behind_32 (by decide) ?_
      refine lv_iload_n hx hb dX4_behind_34 rfl (lv_at hl 2 rfl) ?_
      refine lv_imul hx hb dX4_behind_35 ?_
      refine lv_iload hx hb dX4_behind_36 (lv_at hl 0 rfl) ?_
      refine lv_iadd hx hb dX4_behind_38 ?_
      refine va_iald hx hb hK hP 4 0 rfl rfl (hc c_2 c_3) dX4_behind_39 ?_
      have er : v.2.2.2.2.2.2.2.2.2.2.2.2.2.2.1 (((121 * leg) + (li - (rX4_need leg v))).toNatClampNeg) = rX4_behind leg li legs v := by rw [rX4_behind, if_pos c_2, if_neg c_3]
      refine W.iret (v := v.2.2.2.2.2.2.2.2.2.2.2.2.2.2.1 (((121 * leg) + (li - (rX4_need leg v))).toNatClampNeg)) hx hb hr (fun t ht hW => ⟨⟨v.2.2.2.2.2.2.2.2.2.2.2.2.2.2.1 (((121 * leg) + (li - (rX4_need leg v))).toNatClampNeg), (), rfl, er, ?_⟩, hS.F ht⟩) hS.2.2 dX4_behind_40
      exact ⟨by rw [ht]; exact hP, va_K.moved hW.alike hK, hD⟩
    · refine lv_iconst (v := 0) hx hb dX4_behind_24 (by decide) ?_
      refine lv_goto (tgt := 40) hx hb dX4_behind_25 (by decide) ?_
      have er : 0 = rX4_behind leg li legs v := by rw [rX4_behind, if_pos c_2, if_pos c_3]
      refine W.iret (v := 0) hx hb hr (fun t ht hW => ⟨⟨0, (), rfl, er, ?_⟩, hS.F ht⟩) hS.2.2 dX4_behind_40
      exact ⟨by rw [ht]; exact hP, va_K.moved hW.alike hK, hD⟩
  · refine lv_ldc hx hb hown (hts (.constant RX4 141 (1000000000)) (by decide +kernel)) dX4_behind_14 ?_
    have er : 1000000000 = rX4_behind leg li legs v := by rw [rX4_behind, if_neg c_2]
    refine W.iret (v := 1000000000) hx hb hr (fun t ht hW => ⟨⟨1000000000, (), rfl, er, ?_⟩, hS.F ht⟩) hS.2.2 dX4_behind_16
    exact ⟨by rw [ht]; exact hP, va_K.moved hW.alike hK, hD⟩

def rX4_isBest (i : Int32) (x : Int32) (b : Int32) (legs : Int32) (v : MS) : Int32 :=
  if 1000000000 ≤ (rX4_behind (i + 1) (x + b) legs v) then
    0
  else
    if ((rX4_behind (i + 1) (x + b) legs v) + (b * (v.2.1 (((2 * i) + 1).toNatClampNeg)))) = (v.2.2.2.2.2.2.2.2.2.2.2.2.2.2.1 (((121 * i) + x).toNatClampNeg)) then
      1
    else
      0
set_option maxHeartbeats 4000000 in
set_option maxRecDepth 100000 in
theorem kX4_isBest (l : Launch) (dC : Nat → ClassId) (dI : Nat → Nat → Nat) (cI cJ : ClassId) (m0 m1 m2 m3 m4 m5 : Nat) (sz : Nat) (i : Int32) (x : Int32) (b : Int32) (legs : Int32) (v : MS) (hn : vp_in (2 * (i + 1)) 60) (hc : 0 ≤ (x + b) - rX4_need (i + 1) v → ¬ (i + 1) = legs - 1 → vp_in (121 * (i + 1) + ((x + b) - rX4_need (i + 1) v)) 1573) (h3 : vp_in (2 * i + 1) 60) (h4 : vp_in (121 * i + x) 1573) : Met l yX4_isBest wsX4_isBest ({ frames := 2, cells := 0, slots := 0, locals := 45 }) (va_Pc [.ref m0, .int i, .int x, .int b, .int legs] (fun U => U.heap.size = sz ∧ va_P (dC, dI) vwCl [cM0 m0 m1 m2 m3 m4 m5 v, cM1 cI m1 v, cM2 cJ m2 v, cM3 cJ m3 v, cM4 cI m4 v, cM5 cI m5 v] U.heap ∧ va_K (dC, dI) vwCl [(cI, .int), (cJ, .long)] U ∧ va_D (fun _ => True) [cM0 m0 m1 m2 m3 m4 m5 v, cM1 cI m1 v, cM2 cJ m2 v, cM3 cJ m3 v, cM4 cI m4 v, cM5 cI m5 v])) (va_Qi (fun (r : Int32) (_ : Unit) => r = rX4_isBest i x b legs v) (fun _ t => va_P (dC, dI) vwCl [cM0 m0 m1 m2 m3 m4 m5 v, cM1 cI m1 v, cM2 cJ m2 v, cM3 cJ m3 v, cM4 cI m4 v, cM5 cI m5 v] t.heap ∧ va_K (dC, dI) vwCl [(cI, .int), (cJ, .long)] t ∧ va_D (va_A [cM0 m0 m1 m2 m3 m4 m5 v, cM1 cI m1 v, cM2 cJ m2 v, cM3 cJ m3 v, cM4 cI m4 v, cM5 cI m5 v] sz) [cM0 m0 m1 m2 m3 m4 m5 v, cM1 cI m1 v, cM2 cJ m2 v, cM3 cJ m3 v, cM4 cI m4 v, cM5 cI m5 v]) (va_A [cM0 m0 m1 m2 m3 m4 m5 v, cM1 cI m1 v, cM2 cJ m2 v, cM3 cJ m3 v, cM4 cI m4 v, cM5 cI m5 v] sz)) 0 0 (va_A [cM0 m0 m1 m2 m3 m4 m5 v, cM1 cI m1 v, cM2 cJ m2 v, cM3 cJ m3 v, cM4 cI m4 v, cM5 cI m5 v] sz) := by
  refine Met.ofW (cc := cX4_isBest) (maxL := 6) (ret := (some .boolean)) (by decide) rfl ?_
  intro p e s m args below meth c s₁ B hml hv
  obtain ⟨rfl, hsz, hP, hK, hD0⟩ := hv
  have hx := B.exec
  have hb := B.bytes
  have hr := B.returns
  have hts := atoms_spec (ws := wsX4_isBest) B.pre
  have hown : s.vm.findClass RX4 = some m.cls := findClass_of_methodNamed B.named
  have hlocks := B.notSynchronized
  have hiX4 : ∀ w ∈ u_ws RX4 TX4 17, w ∈ wsX4_isBest := by decide +kernel
  subst hsz
  have hD := hD0.self (sz := s.heap.size)
  generalize hAe : va_A [cM0 m0 m1 m2 m3 m4 m5 v, cM1 cI m1 v, cM2 cJ m2 v, cM3 cJ m3 v, cM4 cI m4 v, cM5 cI m5 v] s.heap.size = A at hD ⊢
  have hA : ∀ q : Nat, s.heap.size ≤ q → A q := fun q h => by rw [← hAe]; exact Or.inr h
  have hS : va_S A s.heap s.heap [] := va_S.rf
  have hl := lv_entry ([.ref m0, .int i, .int x, .int b, .int legs]) (n := 6) (Nat.le_of_ble_eq_true rfl)
  rw [lg_entry_eq]
  generalize (lg_sl ([.ref m0, .int i, .int x, .int b, .int legs]) ++ List.replicate (6 - (lg_sl ([.ref m0, .int i, .int x, .int b, .int legs])).length) Slot.unset).toArray = ls at hl ⊢
  have hl : lv_has ls 6 [(0, .ref m0), (1, .int i), (2, .int x), (3, .int b), (4, .int legs)] := hl
  have hP : va_P (dC, dI) vwCl [cM0 m0 m1 m2 m3 m4 m5 v, cM1 cI m1 v, cM2 cJ m2 v, cM3 cJ m3 v, cM4 cI m4 v, cM5 cI m5 v] s.heap := hP
  refine lv_aload_n hx hb dX4_isBest_0 rfl (lv_at hl 0 rfl) ?_
  refine lv_iload_n hx hb dX4_isBest_1 rfl (lv_at hl 1 rfl) ?_
  refine lv_iconst (v := 1) hx hb dX4_isBest_2 (by decide) ?_
  refine lv_iadd hx hb dX4_isBest_3 ?_
  refine lv_iload_n hx hb dX4_isBest_4 rfl (lv_at hl 2 rfl) ?_
  refine lv_iload_n hx hb dX4_isBest_5 rfl (lv_at hl 3 rfl) ?_
  refine lv_iadd hx hb dX4_isBest_6 ?_
  refine lv_iload hx hb dX4_isBest_7 (lv_at hl 4 rfl) ?_
  have hPc := hP.sub (ws' := [cM0 m0 m1 m2 m3 m4 m5 v, cM1 cI m1 v, cM2 cJ m2 v, cM3 cJ m3 v, cM4 cI m4 v, cM5 cI m5 v]) [0, 1, 2, 3, 4, 5] rfl
  have hDc := hD.sub (ws' := [cM0 m0 m1 m2 m3 m4 m5 v, cM1 cI m1 v, cM2 cJ m2 v, cM3 cJ m3 v, cM4 cI m4 v, cM5 cI m5 v]) [0, 1, 2, 3, 4, 5] (by decide) rfl
  have hFc := va_free (wc := [cM0 m0 m1 m2 m3 m4 m5 v, cM1 cI m1 v, cM2 cJ m2 v, cM3 cJ m3 v, cM4 cI m4 v, cM5 cI m5 v]) hD hS hA [0, 1, 2, 3, 4, 5] rfl
  refine va_calli (va_runV (As := [.int (i + 1), .int (x + b), .int legs]) (rest := []) ⟨hx, hb, hml, hown, hts⟩ (kX4_behind l dC dI cI cJ m0 m1 m2 m3 m4 m5 s.heap.size (i + 1) (x + b) legs v hn hc) (cwV 3 hts gX4_isBest_X4_behind rfl rfl rfl (by decide +kernel) ⟨Nat.le_of_ble_eq_true rfl, Nat.le_of_ble_eq_true rfl⟩) ⟨fun a U g mk q => by obtain ⟨q0, q1, qP, qK, qD⟩ := q; exact ⟨q0, q1, qP, va_K.moved (u := U) (U := U.calling g mk a) (Vm.Alike.refl U.vm) qK, qD⟩, va_recv hK hPc (ci := 4) (q0 := 0) rfl rfl, fun U hU hW => ⟨rfl, by rw [hU], by rw [hU]; exact hPc, va_K.moved hW.alike hK, hDc.weaken (fun _ _ _ _ => trivial)⟩⟩ rfl rfl hl.1 rfl (lv_room (Nat.le_of_ble_eq_true rfl)) dX4_isBest_9 ⟨Nat.le_of_ble_eq_true rfl, Nat.le_of_ble_eq_true rfl⟩) hS (fun q _ h => hFc q h) hFc (fun r_1 _ t H1 locs ht hvm hw hB hz1 hk1 hS => ?_)
  obtain ⟨hP1, hK1, hD1⟩ := hB
  rw [ht] at hP1
  obtain ⟨hP, hD⟩ := va_join (wr := []) (w1 := [cM0 m0 m1 m2 m3 m4 m5 v, cM1 cI m1 v, cM2 cJ m2 v, cM3 cJ m3 v, cM4 cI m4 v, cM5 cI m5 v]) hP hD [0, 1, 2, 3, 4, 5] [] rfl rfl (by decide) (by decide) hk1 hFc hP1 hD1
  generalize H1 = H at hP hS ⊢
  have hP : va_P (dC, dI) vwCl [cM0 m0 m1 m2 m3 m4 m5 v, cM1 cI m1 v, cM2 cJ m2 v, cM3 cJ m3 v, cM4 cI m4 v, cM5 cI m5 v] H := hP
  have hD : va_D A [cM0 m0 m1 m2 m3 m4 m5 v, cM1 cI m1 v, cM2 cJ m2 v, cM3 cJ m3 v, cM4 cI m4 v, cM5 cI m5 v] := hD
  subst hw
  refine lv_istore (lv' := [(5, .int (rX4_behind (i + 1) (x + b) legs v)), (0, .ref m0), (1, .int i), (2, .int x), (3, .int b), (4, .int legs)]) hx hb dX4_isBest_12 hl (by decide) rfl (fun ls hl => ?_)
  refine lv_iload hx hb dX4_isBest_14 (lv_at hl 0 rfl) ?_
  refine lv_ldc hx hb hown (hts (.constant RX4 141 (1000000000)) (by decide +kernel)) dX4_isBest_16 ?_
  refine lv_icmp_ge (tgt := 54) hx hb dX4_isBest_18 (by decide) (fun c_2 => ?_) (fun c_2 => ?_)
  · refine lv_iconst (v := 0) hx hb dX4_isBest_54 (by decide) ?_
    have er : 0 = rX4_isBest i x b legs v := by rw [rX4_isBest, if_pos c_2]
    refine W.zret (ty := .boolean) (v := 0) hx hb hr rfl (fun t ht hW => ⟨⟨0, (), rfl, er, ?_⟩, hS.F ht⟩) hS.2.2 dX4_isBest_55
    exact ⟨by rw [ht]; exact hP, va_K.moved hW.alike hK, hD⟩
  · refine lv_iload hx hb dX4_isBest_21 (lv_at hl 0 rfl) ?_
    refine lv_iload_n hx hb dX4_isBest_23 rfl (lv_at hl 4 rfl) ?_
    refine lv_aload_n hx hb dX4_isBest_24 rfl (lv_at hl 1 rfl) ?_
    refine va_get (D := (dC, dI)) (ci := 4) (v := .ref m1) (C := RX4) (T := TX4) (N := 17) hx hb hts hiX4 hown hK hP 0 rfl rfl 1 (by decide) (hts (.fieldLink RX4 7 "TripReckonerModel" "tape" "[I") (by decide +kernel)) (fun _ h9 => h9) rfl dX4_isBest_25 ?_
    refine lv_iconst (v := 2) hx hb dX4_isBest_28 (by decide) ?_
    refine lv_iload_n hx hb dX4_isBest_29 rfl (lv_at hl 2 rfl) ?_
    refine lv_imul hx hb dX4_isBest_30 ?_
    refine lv_iconst (v := 1) hx hb dX4_isBest_31 (by decide) ?_
    refine lv_iadd hx hb dX4_isBest_32 ?_
    refine va_iald hx hb hK hP 1 0 rfl rfl h3 dX4_isBest_33 ?_
    refine lv_imul hx hb dX4_isBest_34 ?_
    refine lv_iadd hx hb dX4_isBest_35 ?_
    refine lv_aload_n hx hb dX4_isBest_36 rfl (lv_at hl 1 rfl) ?_
    refine va_get (D := (dC, dI)) (ci := 4) (v := .ref m4) (C := RX4) (T := TX4) (N := 17) hx hb hts hiX4 hown hK hP 0 rfl rfl 14 (by decide) (hts (.fieldLink RX4 43 "TripReckonerModel" "cost" "[I") (by decide +kernel)) (fun _ h9 => h9) rfl dX4_isBest_37 ?_
    refine lv_bipush (v := 121) hx hb dX4_isBest_40 (by decide) ?_
    refine lv_iload_n hx hb dX4_isBest_42 rfl (lv_at hl 2 rfl) ?_
    refine lv_imul hx hb dX4_isBest_43 ?_
    refine lv_iload_n hx hb dX4_isBest_44 rfl (lv_at hl 3 rfl) ?_
    refine lv_iadd hx hb dX4_isBest_45 ?_
    refine va_iald hx hb hK hP 4 0 rfl rfl h4 dX4_isBest_46 ?_
    refine lv_icmp_ne (tgt := 54) hx hb dX4_isBest_47 (by decide) (fun c_3 => ?_) (fun c_3 => ?_)
    · refine lv_iconst (v := 0) hx hb dX4_isBest_54 (by decide) ?_
      have er : 0 = rX4_isBest i x b legs v := by rw [rX4_isBest, if_neg c_2, if_neg c_3]
      refine W.zret (ty := .boolean) (v := 0) hx hb hr rfl (fun t ht hW => ⟨⟨0, (), rfl, er, ?_⟩, hS.F ht⟩) hS.2.2 dX4_isBest_55
      exact ⟨by rw [ht]; exact hP, va_K.moved hW.alike hK, hD⟩
    · refine lv_iconst (v := 1) hx hb dX4_isBest_50 (by decide) ?_
      refine lv_goto (tgt := 55) hx hb dX4_isBest_51 (by decide) ?_
      have er : 1 = rX4_isBest i x b legs v := by rw [rX4_isBest, if_neg c_2, if_pos c_3]
      refine W.zret (ty := .boolean) (v := 1) hx hb hr rfl (fun t ht hW => ⟨⟨1, (), rfl, er, ?_⟩, hS.F ht⟩) hS.2.2 dX4_isBest_55
      exact ⟨by rw [ht]; exact hP, va_K.moved hW.alike hK, hD⟩
