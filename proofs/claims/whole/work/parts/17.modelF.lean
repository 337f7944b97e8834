def sX4_span_g_2 (z : Int32) (v : MS) (g_2 : MS) : MS :=
  if z = 0 then
    g_2
  else
    g_2
def sX4_span (z : Int32) (v : MS) : MS :=
  sX4_span_g_2 z v (sX4_begin (0, v.2.1, v.2.2.1, v.2.2.2.1, v.2.2.2.2.1, v.2.2.2.2.2.1, v.2.2.2.2.2.2.1, v.2.2.2.2.2.2.2.1, v.2.2.2.2.2.2.2.2.1, v.2.2.2.2.2.2.2.2.2.1, v.2.2.2.2.2.2.2.2.2.2.1, v.2.2.2.2.2.2.2.2.2.2.2.1, v.2.2.2.2.2.2.2.2.2.2.2.2.1, v.2.2.2.2.2.2.2.2.2.2.2.2.2.1, v.2.2.2.2.2.2.2.2.2.2.2.2.2.2.1, v.2.2.2.2.2.2.2.2.2.2.2.2.2.2.2.1, v.2.2.2.2.2.2.2.2.2.2.2.2.2.2.2.2))
def rX4_span_g_2 (z : Int32) (v : MS) (g_2 : MS) : Int32 :=
  if z = 0 then
    (g_2.2.2.2.1 0).toInt32
  else
    (g_2.2.2.2.1 1).toInt32
def rX4_span (z : Int32) (v : MS) : Int32 :=
  rX4_span_g_2 z v (sX4_begin (0, v.2.1, v.2.2.1, v.2.2.2.1, v.2.2.2.2.1, v.2.2.2.2.2.1, v.2.2.2.2.2.2.1, v.2.2.2.2.2.2.2.1, v.2.2.2.2.2.2.2.2.1, v.2.2.2.2.2.2.2.2.2.1, v.2.2.2.2.2.2.2.2.2.2.1, v.2.2.2.2.2.2.2.2.2.2.2.1, v.2.2.2.2.2.2.2.2.2.2.2.2.1, v.2.2.2.2.2.2.2.2.2.2.2.2.2.1, v.2.2.2.2.2.2.2.2.2.2.2.2.2.2.1, v.2.2.2.2.2.2.2.2.2.2.2.2.2.2.2.1, v.2.2.2.2.2.2.2.2.2.2.2.2.2.2.2.2))
set_option maxHeartbeats 4000000 in
set_option maxRecDepth 100000 in
theorem kX4_span (l : Launch) (dC : Nat → ClassId) (dI : Nat → Nat → Nat) (cI cJ : ClassId) (m0 m1 m2 m3 m4 m5 : Nat) (sz : Nat) (z : Int32) (v : MS) : Met l yX4_span wsX4_span ({ frames := 2, cells := 0, slots := 0, locals := 42 }) (va_Pc [.ref m0, .int z] (fun U => U.heap.size = sz ∧ va_P (dC, dI) vwCl [cM0 m0 m1 m2 m3 m4 m5 v, cM1 cI m1 v, cM2 cJ m2 v, cM3 cJ m3 v, cM4 cI m4 v, cM5 cI m5 v] U.heap ∧ va_K (dC, dI) vwCl [(cI, .int), (cJ, .long)] U ∧ va_D (fun _ => True) [cM0 m0 m1 m2 m3 m4 m5 v, cM1 cI m1 v, cM2 cJ m2 v, cM3 cJ m3 v, cM4 cI m4 v, cM5 cI m5 v])) (va_Qi (fun (r : Int32) (_ : Unit) => r = rX4_span z v) (fun _ t => va_P (dC, dI) vwCl [cM0 m0 m1 m2 m3 m4 m5 (sX4_span z v), cM1 cI m1 (sX4_span z v), cM2 cJ m2 (sX4_span z v), cM3 cJ m3 (sX4_span z v), cM4 cI m4 (sX4_span z v), cM5 cI m5 (sX4_span z v)] t.heap ∧ va_K (dC, dI) vwCl [(cI, .int), (cJ, .long)] t ∧ va_D (va_A [cM0 m0 m1 m2 m3 m4 m5 v, cM1 cI m1 v, cM2 cJ m2 v, cM3 cJ m3 v, cM4 cI m4 v, cM5 cI m5 v] sz) [cM0 m0 m1 m2 m3 m4 m5 (sX4_span z v), cM1 cI m1 (sX4_span z v), cM2 cJ m2 (sX4_span z v), cM3 cJ m3 (sX4_span z v), cM4 cI m4 (sX4_span z v), cM5 cI m5 (sX4_span z v)]) (va_A [cM0 m0 m1 m2 m3 m4 m5 v, cM1 cI m1 v, cM2 cJ m2 v, cM3 cJ m3 v, cM4 cI m4 v, cM5 cI m5 v] sz)) 0 0 (va_A [cM0 m0 m1 m2 m3 m4 m5 v, cM1 cI m1 v, cM2 cJ m2 v, cM3 cJ m3 v, cM4 cI m4 v, cM5 cI m5 v] sz) := by
  refine Met.ofW (cc := cX4_span) (maxL := 2) (ret := (some .int)) (by decide) rfl ?_
  intro p e s m args below meth c s₁ B hml hv
  obtain ⟨rfl, hsz, hP, hK, hD0⟩ := hv
  have hx := B.exec
  have hb := B.bytes
  have hr := B.returns
  have hts := atoms_spec (ws := wsX4_span) B.pre
  have hown : s.vm.findClass RX4 = some m.cls := findClass_of_methodNamed B.named
  have hlocks := B.notSynchronized
  have hiX4 : ∀ w ∈ u_ws RX4 TX4 17, w ∈ wsX4_span := by decide +kernel
  subst hsz
  have hD := hD0.self (sz := s.heap.size)
  generalize hAe : va_A [cM0 m0 m1 m2 m3 m4 m5 v, cM1 cI m1 v, cM2 cJ m2 v, cM3 cJ m3 v, cM4 cI m4 v, cM5 cI m5 v] s.heap.size = A at hD ⊢
  have hA : ∀ q : Nat, s.heap.size ≤ q → A q := fun q h => by rw [← hAe]; exact Or.inr h
  have hS : va_S A s.heap s.heap [] := va_S.rf
  have hl := lv_entry ([.ref m0, .int z]) (n := 2) (Nat.le_of_ble_eq_true rfl)
  rw [lg_entry_eq]
  generalize (lg_sl ([.ref m0, .int z]) ++ List.replicate (2 - (lg_sl ([.ref m0, .int z])).length) Slot.unset).toArray = ls at hl ⊢
  have hl : lv_has ls 2 [(0, .ref m0), (1, .int z)] := hl
  have hP : va_P (dC, dI) vwCl [cM0 m0 m1 m2 m3 m4 m5 v, cM1 cI m1 v, cM2 cJ m2 v, cM3 cJ m3 v, cM4 cI m4 v, cM5 cI m5 v] s.heap := hP
  refine lv_aload_n hx hb dX4_span_0 rfl (lv_at hl 0 rfl) ?_
  refine lv_iconst (v := 0) hx hb dX4_span_1 (by decide) ?_
  refine va_put (D := (dC, dI)) (ci := 4) (v := .int 0) (ty := .int) (C := RX4) (T := TX4) (N := 17) hx hb hts hiX4 tyX4 tyX4_ok nmX4 hown hK hP hD hS 0 rfl rfl 0 (by decide) (hts (.fieldLink RX4 49 "TripReckonerModel" "thrown" "I") (by decide +kernel)) (fun _ h9 => h9) rfl (by decide +kernel) rfl rfl (Nat.le_of_ble_eq_true rfl) dX4_span_2 (fun H locs hP hD hS => ?_)
  have hP : va_P (dC, dI) vwCl [(m0, .inr (4, [.int 0, .ref m1, .int v.2.2.1, .ref m2, .ref m3, .int v.2.2.2.2.2.1, .int v.2.2.2.2.2.2.1, .int v.2.2.2.2.2.2.2.1, .int v.2.2.2.2.2.2.2.2.1, .int v.2.2.2.2.2.2.2.2.2.1, .int v.2.2.2.2.2.2.2.2.2.2.1, .int v.2.2.2.2.2.2.2.2.2.2.2.1, .long v.2.2.2.2.2.2.2.2.2.2.2.2.1, .int v.2.2.2.2.2.2.2.2.2.2.2.2.2.1, .ref m4, .ref m5, .int v.2.2.2.2.2.2.2.2.2.2.2.2.2.2.2.2])), (m1, .inl (cI, 60, .inl v.2.1)), (m2, .inl (cJ, 92, .inr (.inl v.2.2.2.1))), (m3, .inl (cJ, 92, .inr (.inl v.2.2.2.2.1))), (m4, .inl (cI, 1573, .inl v.2.2.2.2.2.2.2.2.2.2.2.2.2.2.1)), (m5, .inl (cI, 12, .inl v.2.2.2.2.2.2.2.2.2.2.2.2.2.2.2.1))] H := hP
  have hD : va_D A [(m0, .inr (4, [.int 0, .ref m1, .int v.2.2.1, .ref m2, .ref m3, .int v.2.2.2.2.2.1, .int v.2.2.2.2.2.2.1, .int v.2.2.2.2.2.2.2.1, .int v.2.2.2.2.2.2.2.2.1, .int v.2.2.2.2.2.2.2.2.2.1, .int v.2.2.2.2.2.2.2.2.2.2.1, .int v.2.2.2.2.2.2.2.2.2.2.2.1, .long v.2.2.2.2.2.2.2.2.2.2.2.2.1, .int v.2.2.2.2.2.2.2.2.2.2.2.2.2.1, .ref m4, .ref m5, .int v.2.2.2.2.2.2.2.2.2.2.2.2.2.2.2.2])), (m1, .inl (cI, 60, .inl v.2.1)), (m2, .inl (cJ, 92, .inr (.inl v.2.2.2.1))), (m3, .inl (cJ, 92, .inr (.inl v.2.2.2.2.1))), (m4, .inl (cI, 1573, .inl v.2.2.2.2.2.2.2.2.2.2.2.2.2.2.1)), (m5, .inl (cI, 12, .inl v.2.2.2.2.2.2.2.2.2.2.2.2.2.2.2.1))] := hD
  refine lv_aload_n hx hb dX4_span_5 rfl (lv_at hl 0 rfl) ?_
  have hPc := hP.sub (ws' := [(m0, .inr (4, [.int 0, .ref m1, .int v.2.2.1, .ref m2, .ref m3, .int v.2.2.2.2.2.1, .int v.2.2.2.2.2.2.1, .int v.2.2.2.2.2.2.2.1, .int v.2.2.2.2.2.2.2.2.1, .int v.2.2.2.2.2.2.2.2.2.1, .int v.2.2.2.2.2.2.2.2.2.2.1, .int v.2.2.2.2.2.2.2.2.2.2.2.1, .long v.2.2.2.2.2.2.2.2.2.2.2.2.1, .int v.2.2.2.2.2.2.2.2.2.2.2.2.2.1, .ref m4, .ref m5, .int v.2.2.2.2.2.2.2.2.2.2.2.2.2.2.2.2])), (m1, .inl (cI, 60, .inl v.2.1)), (m2, .inl (cJ, 92, .inr (.inl v.2.2.2.1))), (m3, .inl (cJ, 92, .inr (.inl v.2.2.2.2.1))), (m4, .inl (cI, 1573, .inl v.2.2.2.2.2.2.2.2.2.2.2.2.2.2.1)), (m5, .inl (cI, 12, .inl v.2.2.2.2.2.2.2.2.2.2.2.2.2.2.2.1))]) [0, 1, 2, 3, 4, 5] rfl
  have hDc := hD.sub (ws' := [(m0, .inr (4, [.int 0, .ref m1, .int v.2.2.1, .ref m2, .ref m3, .int v.2.2.2.2.2.1, .int v.2.2.2.2.2.2.1, .int v.2.2.2.2.2.2.2.1, .int v.2.2.2.2.2.2.2.2.1, .int v.2.2.2.2.2.2.2.2.2.1, .int v.2.2.2.2.2.2.2.2.2.2.1, .int v.2.2.2.2.2.2.2.2.2.2.2.1, .long v.2.2.2.2.2.2.2.2.2.2.2.2.1, .int v.2.2.2.2.2.2.2.2.2.2.2.2.2.1, .ref m4, .ref m5, .int v.2.2.2.2.2.2.2.2.2.2.2.2.2.2.2.2])), (m1, .inl (cI, 60, .inl v.2.1)), (m2, .inl (cJ, 92, .inr (.inl v.2.2.2.1))), (m3, .inl (cJ, 92, .inr (.inl v.2.2.2.2.1))), (m4, .inl (cI, 1573, .inl v.2.2.2.2.2.2.2.2.2.2.2.2.2.2.1)), (m5, .inl (cI, 12, .inl v.2.2.2.2.2.2.2.2.2.2.2.2.2.2.2.1))]) [0, 1, 2, 3, 4, 5] (by decide) rfl
  have hFc := va_free (wc := [(m0, .inr (4, [.int 0, .ref m1, .int v.2.2.1, .ref m2, .ref m3, .int v.2.2.2.2.2.1, .int v.2.2.2.2.2.2.1, .int v.2.2.2.2.2.2.2.1, .int v.2.2.2.2.2.2.2.2.1, .int v.2.2.2.2.2.2.2.2.2.1, .int v.2.2.2.2.2.2.2.2.2.2.1, .int v.2.2.2.2.2.2.2.2.2.2.2.1, .long v.2.2.2.2.2.2.2.2.2.2.2.2.1, .int v.2.2.2.2.2.2.2.2.2.2.2.2.2.1, .ref m4, .ref m5, .int v.2.2.2.2.2.2.2.2.2.2.2.2.2.2.2.2])), (m1, .inl (cI, 60, .inl v.2.1)), (m2, .inl (cJ, 92, .inr (.inl v.2.2.2.1))), (m3, .inl (cJ, 92, .inr (.inl v.2.2.2.2.1))), (m4, .inl (cI, 1573, .inl v.2.2.2.2.2.2.2.2.2.2.2.2.2.2.1)), (m5, .inl (cI, 12, .inl v.2.2.2.2.2.2.2.2.2.2.2.2.2.2.2.1))]) hD hS hA [0, 1, 2, 3, 4, 5] rfl
  refine va_callv (va_runV (As := []) (rest := []) ⟨hx, hb, hml, hown, hts⟩ (kX4_begin l dC dI cI cJ m0 m1 m2 m3 m4 m5 H.size (0, v.2.1, v.2.2.1, v.2.2.2.1, v.2.2.2.2.1, v.2.2.2.2.2.1, v.2.2.2.2.2.2.1, v.2.2.2.2.2.2.2.1, v.2.2.2.2.2.2.2.2.1, v.2.2.2.2.2.2.2.2.2.1, v.2.2.2.2.2.2.2.2.2.2.1, v.2.2.2.2.2.2.2.2.2.2.2.1, v.2.2.2.2.2.2.2.2.2.2.2.2.1, v.2.2.2.2.2.2.2.2.2.2.2.2.2.1, v.2.2.2.2.2.2.2.2.2.2.2.2.2.2.1, v.2.2.2.2.2.2.2.2.2.2.2.2.2.2.2.1, v.2.2.2.2.2.2.2.2.2.2.2.2.2.2.2.2)) (cwV 0 hts gX4_span_X4_begin rfl rfl rfl (by decide +kernel) ⟨Nat.le_of_ble_eq_true rfl, Nat.le_of_ble_eq_true rfl⟩) ⟨fun a U g mk q => by obtain ⟨q0, q1, qP, qK, qD⟩ := q; exact ⟨q0, q1, qP, va_K.moved (u := U) (U := U.calling g mk a) (Vm.Alike.refl U.vm) qK, qD⟩, va_recv hK hPc (ci := 4) (q0 := 0) rfl rfl, fun U hU hW => ⟨rfl, by rw [hU], by rw [hU]; exact hPc, va_K.moved hW.alike hK, hDc.weaken (fun _ _ _ _ => trivial)⟩⟩ rfl rfl hl.1 rfl (lv_room (Nat.le_of_ble_eq_true rfl)) dX4_span_6 ⟨Nat.le_of_ble_eq_true rfl, Nat.le_of_ble_eq_true rfl⟩) hS (fun q _ h => hFc q h) hFc (fun _ t H1 locs ht hvm hw hB hz1 hk1 hS => ?_)
  obtain ⟨hP1, hK1, hD1⟩ := hB
  rw [ht] at hP1
  obtain ⟨g_2, eg_2⟩ : ∃ z, z = sX4_begin (0, v.2.1, v.2.2.1, v.2.2.2.1, v.2.2.2.2.1, v.2.2.2.2.2.1, v.2.2.2.2.2.2.1, v.2.2.2.2.2.2.2.1, v.2.2.2.2.2.2.2.2.1, v.2.2.2.2.2.2.2.2.2.1, v.2.2.2.2.2.2.2.2.2.2.1, v.2.2.2.2.2.2.2.2.2.2.2.1, v.2.2.2.2.2.2.2.2.2.2.2.2.1, v.2.2.2.2.2.2.2.2.2.2.2.2.2.1, v.2.2.2.2.2.2.2.2.2.2.2.2.2.2.1, v.2.2.2.2.2.2.2.2.2.2.2.2.2.2.2.1, v.2.2.2.2.2.2.2.2.2.2.2.2.2.2.2.2) := ⟨_, rfl⟩
  rw [← eg_2] at hP1 hD1
  obtain ⟨hP, hD⟩ := va_join (wr := []) (w1 := [cM0 m0 m1 m2 m3 m4 m5 g_2, cM1 cI m1 g_2, cM2 cJ m2 g_2, cM3 cJ m3 g_2, cM4 cI m4 g_2, cM5 cI m5 g_2]) hP hD [0, 1, 2, 3, 4, 5] [] rfl rfl (by decide) (by decide) hk1 hFc hP1 hD1
  generalize H1 = H at hP hS ⊢
  have hP : va_P (dC, dI) vwCl [cM0 m0 m1 m2 m3 m4 m5 g_2, cM1 cI m1 g_2, cM2 cJ m2 g_2, cM3 cJ m3 g_2, cM4 cI m4 g_2, cM5 cI m5 g_2] H := hP
  have hD : va_D A [cM0 m0 m1 m2 m3 m4 m5 g_2, cM1 cI m1 g_2, cM2 cJ m2 g_2, cM3 cJ m3 g_2, cM4 cI m4 g_2, cM5 cI m5 g_2] := hD
  refine lv_aload_n hx hb dX4_span_9 rfl (lv_at hl 0 rfl) ?_
  refine va_get (D := (dC, dI)) (ci := 4) (v := .ref m2) (C := RX4) (T := TX4) (N := 17) hx hb hts hiX4 hown hK hP 0 rfl rfl 3 (by decide) (hts (.fieldLink RX4 13 "TripReckonerModel" "now" "[J") (by decide +kernel)) (fun _ h9 => h9) rfl dX4_span_10 ?_
  refine lv_iload_n hx hb dX4_span_13 rfl (lv_at hl 1 rfl) ?_
  refine lv_if_eq (tgt := 21) hx hb dX4_span_14 (by decide) (fun c_3 => ?_) (fun c_3 => ?_)
  · refine lv_iconst (v := 0) hx hb dX4_span_21 (by decide) ?_
    refine va_lald hx hb hK hP 2 1 rfl rfl (vd (by decide +kernel)) dX4_span_22 ?_
    refine lv_topl (fun z_4 ez_4 => ?_)
    have ez_4 : z_4 = g_2.2.2.2.1 0 := ez_4
    subst ez_4
    refine lv_l2i (v := (g_2.2.2.2.1 0).toInt32) hx hb dX4_span_23 rfl ?_
    have es0 : sX4_span z v = g_2 := by rw [sX4_span, ← eg_2, sX4_span_g_2, if_pos c_3]
    have er : (g_2.2.2.2.1 0).toInt32 = rX4_span z v := by rw [rX4_span, ← eg_2, rX4_span_g_2, if_pos c_3]
    refine W.iret (v := (g_2.2.2.2.1 0).toInt32) hx hb hr (fun t ht hW => ⟨⟨(g_2.2.2.2.1 0).toInt32, (), rfl, er, ?_⟩, hS.F ht⟩) hS.2.2 dX4_span_24
    rw [es0]; exact ⟨by rw [ht]; exact hP, va_K.moved hW.alike hK, hD⟩
  · refine lv_iconst (v := 1) hx hb dX4_span_17 (by decide) ?_
    refine lv_goto (tgt := 22) hx hb dX4_span_18 (by decide) ?_
    refine va_lald hx hb hK hP 2 1 rfl rfl (vd (by decide +kernel)) dX4_span_22 ?_
    refine lv_topl (fun z_5 ez_5 => ?_)
    have ez_5 : z_5 = g_2.2.2.2.1 1 := ez_5
    subst ez_5
    refine lv_l2i (v := (g_2.2.2.2.1 1).toInt32) hx hb dX4_span_23 rfl ?_
    have es0 : sX4_span z v = g_2 := by rw [sX4_span, ← eg_2, sX4_span_g_2, if_neg c_3]
    have er : (g_2.2.2.2.1 1).toInt32 = rX4_span z v := by rw [rX4_span, ← eg_2, rX4_span_g_2, if_neg c_3]
    refine W.iret (v := (g_2.2.2.2.1 1).toInt32) hx hb hr (fun t ht hW => ⟨⟨(g_2.2.2.2.1 1).toInt32, (), rfl, er, ?_⟩, hS.F ht⟩) hS.2.2 dX4_span_24
    rw [es0]; exact ⟨by rw [ht]; exact hP, va_K.moved hW.alike hK, hD⟩

def rX4_isMark (k : Int32) : Int32 :=
  if k < 0 then
    0
  else
    if 4 ≤ k then
      0
    else
      1
set_option maxHeartbeats 4000000 in
set_option maxRecDepth 100000 in
theorem kX4_isMark (l : Launch) (dC : Nat → ClassId) (dI : Nat → Nat → Nat) (cI cJ : ClassId) (sz : Nat) (k : Int32)  : Met l yX4_isMark wsX4_isMark ({ frames := 0, cells := 0, slots := 0, locals := 0 }) (va_Pc [.int k] (fun U => U.heap.size = sz ∧ va_P (dC, dI) vwCl [] U.heap ∧ va_K (dC, dI) vwCl [(cI, .int), (cJ, .long)] U ∧ va_D (fun _ => True) [])) (va_Qi (fun (r : Int32) (_ : Unit) => r = rX4_isMark k) (fun _ t => va_P (dC, dI) vwCl [] t.heap ∧ va_K (dC, dI) vwCl [(cI, .int), (cJ, .long)] t ∧ va_D (va_A [] sz) []) (va_A [] sz)) 0 0 (va_A [] sz) := by
  refine Met.ofW (cc := cX4_isMark) (maxL := 1) (ret := (some .boolean)) (by decide) rfl ?_
  intro p e s m args below meth c s₁ B hml hv
  obtain ⟨rfl, hsz, hP, hK, hD0⟩ := hv
  have hx := B.exec
  have hb := B.bytes
  have hr := B.returns
  have hts := atoms_spec (ws := wsX4_isMark) B.pre
  have hown : s.vm.findClass RX4 = some m.cls := findClass_of_methodNamed B.named
  have hlocks := B.notSynchronized
  subst hsz
  have hD := hD0.self (sz := s.heap.size)
  generalize hAe : va_A [] s.heap.size = A at hD ⊢
  have hA : ∀ q : Nat, s.heap.size ≤ q → A q := fun q h => by rw [← hAe]; exact Or.inr h
  have hS : va_S A s.heap s.heap [] := va_S.rf
  have hl := lv_entry ([.int k]) (n := 1) (Nat.le_of_ble_eq_true rfl)
  rw [lg_entry_eq]
  generalize (lg_sl ([.int k]) ++ List.replicate (1 - (lg_sl ([.int k])).length) Slot.unset).toArray = ls at hl ⊢
  have hl : lv_has ls 1 [(0, .int k)] := hl
  have hP : va_P (dC, dI) vwCl [] s.heap := hP
  refine lv_iload_n hx hb dX4_isMark_0 rfl (lv_at hl 0 rfl) ?_
  refine lv_if_lt (tgt := 13) hx hb dX4_isMark_1 (by decide) (fun c_1 => ?_) (fun c_1 => ?_)
  · refine lv_iconst (v := 0) hx hb dX4_isMark_13 (by decide) ?_
    have er : 0 = rX4_isMark k := by rw [rX4_isMark, if_pos c_1]
    refine W.zret (ty := .boolean) (v := 0) hx hb hr rfl (fun t ht hW => ⟨⟨0, (), rfl, er, ?_⟩, hS.F ht⟩) hS.2.2 dX4_isMark_14
    exact ⟨by rw [ht]; exact hP, va_K.moved hW.alike hK, hD⟩
  · refine lv_iload_n hx hb dX4_isMark_4 rfl (lv_at hl 0 rfl) ?_
    refine lv_iconst (v := 4) hx hb dX4_isMark_5 (by decide) ?_
    refine lv_icmp_ge (tgt := 13) hx hb dX4_isMark_6 (by decide) (fun c_2 => ?_) (fun c_2 => ?_)
    · refine lv_iconst (v := 0) hx hb dX4_isMark_13 (by decide) ?_
      have er : 0 = rX4_isMark k := by rw [rX4_isMark, if_neg c_1, if_pos c_2]
      refine W.zret (ty := .boolean) (v := 0) hx hb hr rfl (fun t ht hW => ⟨⟨0, (), rfl, er, ?_⟩, hS.F ht⟩) hS.2.2 dX4_isMark_14
      exact ⟨by rw [ht]; exact hP, va_K.moved hW.alike hK, hD⟩
    · refine lv_iconst (v := 1) hx hb dX4_isMark_9 (by decide) ?_
      refine lv_goto (tgt := 14) hx hb dX4_isMark_10 (by decide) ?_
      have er : 1 = rX4_isMark k := by rw [rX4_isMark, if_neg c_1, if_neg c_2]
      refine W.zret (ty := .boolean) (v := 1) hx hb hr rfl (fun t ht hW => ⟨⟨1, (), rfl, er, ?_⟩, hS.F ht⟩) hS.2.2 dX4_isMark_14
      exact ⟨by rw [ht]; exact hP, va_K.moved hW.alike hK, hD⟩

theorem isMark4_in {k : Int32} (h : ¬ rX4_isMark k = 0) : vp_in k 4 := by
  unfold rX4_isMark at h
  have h3 : (4 : Int32).toInt = 4 := by decide
  have h0 : (0 : Int32).toInt = 0 := by decide
  split at h
  · exact absurd rfl h
  rename_i h1
  split at h
  · exact absurd rfl h
  rename_i h2
  rw [fa_lt] at h1
  rw [fa_le] at h2
  exact vp_in_iff.mpr ⟨by omega, by omega⟩

def sX4_mark_g_6 (k : Int32) (wh : Int32) (v : MS) (g_2 : MS) (g_6 : MS) : MS :=
  g_6
def sX4_mark_g_9 (k : Int32) (wh : Int32) (v : MS) (g_2 : MS) (g_9 : MS) : MS :=
  g_9
def sX4_mark_g_12 (k : Int32) (wh : Int32) (v : MS) (g_2 : MS) (g_12 : MS) : MS :=
  g_12
def sX4_mark_g_2 (k : Int32) (wh : Int32) (v : MS) (g_2 : MS) : MS :=
  if (rX4_isMark k) = 0 then
    sX4_mark_g_6 k wh v g_2 (sX4_refuse g_2)
  else
    if wh < 0 then
      sX4_mark_g_9 k wh v g_2 (sX4_refuse g_2)
    else
      if wh ≤ 4 then
        (0, g_2.2.1, g_2.2.2.1, g_2.2.2.2.1, g_2.2.2.2.2.1, g_2.2.2.2.2.2.1, g_2.2.2.2.2.2.2.1, g_2.2.2.2.2.2.2.2.1, g_2.2.2.2.2.2.2.2.2.1, g_2.2.2.2.2.2.2.2.2.2.1, g_2.2.2.2.2.2.2.2.2.2.2.1, g_2.2.2.2.2.2.2.2.2.2.2.2.1, g_2.2.2.2.2.2.2.2.2.2.2.2.2.1, g_2.2.2.2.2.2.2.2.2.2.2.2.2.2.1, g_2.2.2.2.2.2.2.2.2.2.2.2.2.2.2.1, g_2.2.2.2.2.2.2.2.2.2.2.2.2.2.2.2.1, g_2.2.2.2.2.2.2.2.2.2.2.2.2.2.2.2.2)
      else
        sX4_mark_g_12 k wh v g_2 (sX4_refuse g_2)
def sX4_mark (k : Int32) (wh : Int32) (v : MS) : MS :=
  sX4_mark_g_2 k wh v (sX4_begin v)
def rX4_mark_g_6 (k : Int32) (wh : Int32) (v : MS) (g_2 : MS) (g_6 : MS) : Int64 :=
  (rX4_refuse g_2).toInt64
def rX4_mark_g_9 (k : Int32) (wh : Int32) (v : MS) (g_2 : MS) (g_9 : MS) : Int64 :=
  (rX4_refuse g_2).toInt64
def rX4_mark_g_12 (k : Int32) (wh : Int32) (v : MS) (g_2 : MS) (g_12 : MS) : Int64 :=
  (rX4_refuse g_2).toInt64
def rX4_mark_g_2 (k : Int32) (wh : Int32) (v : MS) (g_2 : MS) : Int64 :=
  if (rX4_isMark k) = 0 then
    rX4_mark_g_6 k wh v g_2 (sX4_refuse g_2)
  else
    if wh < 0 then
      rX4_mark_g_9 k wh v g_2 (sX4_refuse g_2)
    else
      if wh ≤ 4 then
        g_2.2.2.2.1 (((2 + (5 * k)) + wh).toNatClampNeg)
      else
        rX4_mark_g_12 k wh v g_2 (sX4_refuse g_2)
def rX4_mark (k : Int32) (wh : Int32) (v : MS) : Int64 :=
  rX4_mark_g_2 k wh v (sX4_begin v)
set_option maxHeartbeats 4000000 in
set_option maxRecDepth 100000 in
theorem kX4_mark (l : Launch) (dC : Nat → ClassId) (dI : Nat → Nat → Nat) (cI cJ : ClassId) (m0 m1 m2 m3 m4 m5 : Nat) (sz : Nat) (k : Int32) (wh : Int32) (v : MS) : Met l yX4_mark wsX4_mark ({ frames := 2, cells := 0, slots := 0, locals := 42 }) (va_Pc [.ref m0, .int k, .int wh] (fun U => U.heap.size = sz ∧ va_P (dC, dI) vwCl [cM0 m0 m1 m2 m3 m4 m5 v, cM1 cI m1 v, cM2 cJ m2 v, cM3 cJ m3 v, cM4 cI m4 v, cM5 cI m5 v] U.heap ∧ va_K (dC, dI) vwCl [(cI, .int), (cJ, .long)] U ∧ va_D (fun _ => True) [cM0 m0 m1 m2 m3 m4 m5 v, cM1 cI m1 v, cM2 cJ m2 v, cM3 cJ m3 v, cM4 cI m4 v, cM5 cI m5 v])) (va_Ql (fun (r : Int64) (_ : Unit) => r = rX4_mark k wh v) (fun _ t => va_P (dC, dI) vwCl [cM0 m0 m1 m2 m3 m4 m5 (sX4_mark k wh v), cM1 cI m1 (sX4_mark k wh v), cM2 cJ m2 (sX4_mark k wh v), cM3 cJ m3 (sX4_mark k wh v), cM4 cI m4 (sX4_mark k wh v), cM5 cI m5 (sX4_mark k wh v)] t.heap ∧ va_K (dC, dI) vwCl [(cI, .int), (cJ, .long)] t ∧ va_D (va_A [cM0 m0 m1 m2 m3 m4 m5 v, cM1 cI m1 v, cM2 cJ m2 v, cM3 cJ m3 v, cM4 cI m4 v, cM5 cI m5 v] sz) [cM0 m0 m1 m2 m3 m4 m5 (sX4_mark k wh v), cM1 cI m1 (sX4_mark k wh v), cM2 cJ m2 (sX4_mark k wh v), cM3 cJ m3 (sX4_mark k wh v), cM4 cI m4 (sX4_mark k wh v), cM5 cI m5 (sX4_mark k wh v)]) (va_A [cM0 m0 m1 m2 m3 m4 m5 v, cM1 cI m1 v, cM2 cJ m2 v, cM3 cJ m3 v, cM4 cI m4 v, cM5 cI m5 v] sz)) 0 0 (va_A [cM0 m0 m1 m2 m3 m4 m5 v, cM1 cI m1 v, cM2 cJ m2 v, cM3 cJ m3 v, cM4 cI m4 v, cM5 cI m5 v] sz) := by
  refine Met.ofW (cc := cX4_mark) (maxL := 3) (ret := (some .long)) (by decide) rfl ?_
  intro p e s m args below meth c s₁ B hml hv
  obtain ⟨rfl, hsz, hP, hK, hD0⟩ := hv
  have hx := B.exec
  have hb := B.bytes
  have hr := B.returns
  have hts := atoms_spec (ws := wsX4_mark) B.pre
  have hown : s.vm.findClass RX4 = some m.cls := findClass_of_methodNamed B.named
  have hlocks := B.notSynchronized
  have hiX4 : ∀ w ∈ u_ws RX4 TX4 17, w ∈ wsX4_mark := by decide +kernel
  subst hsz
  have hD := hD0.self (sz := s.heap.size)
  generalize hAe : va_A [cM0 m0 m1 m2 m3 m4 m5 v, cM1 cI m1 v, cM2 cJ m2 v, cM3 cJ m3 v, cM4 cI m4 v, cM5 cI m5 v] s.heap.size = A at hD ⊢
  have hA : ∀ q : Nat, s.heap.size ≤ q → A q := fun q h => by rw [← hAe]; exact Or.inr h
  have hS : va_S A s.heap s.heap [] := va_S.rf
  have hl := lv_entry ([.ref m0, .int k, .int wh]) (n := 3) (Nat.le_of_ble_eq_true rfl)
  rw [lg_entry_eq]
  generalize (lg_sl ([.ref m0, .int k, .int wh]) ++ List.replicate (3 - (lg_sl ([.ref m0, .int k, .int wh])).length) Slot.unset).toArray = ls at hl ⊢
  have hl : lv_has ls 3 [(0, .ref m0), (1, .int k), (2, .int wh)] := hl
  have hP : va_P (dC, dI) vwCl [cM0 m0 m1 m2 m3 m4 m5 v, cM1 cI m1 v, cM2 cJ m2 v, cM3 cJ m3 v, cM4 cI m4 v, cM5 cI m5 v] s.heap := hP
  refine lv_aload_n hx hb dX4_mark_0 rfl (lv_at hl 0 rfl) ?_
  have hPc := hP.sub (ws' := [cM0 m0 m1 m2 m3 m4 m5 v, cM1 cI m1 v, cM2 cJ m2 v, cM3 cJ m3 v, cM4 cI m4 v, cM5 cI m5 v]) [0, 1, 2, 3, 4, 5] rfl
  have hDc := hD.sub (ws' := [cM0 m0 m1 m2 m3 m4 m5 v, cM1 cI m1 v, cM2 cJ m2 v, cM3 cJ m3 v, cM4 cI m4 v, cM5 cI m5 v]) [0, 1, 2, 3, 4, 5] (by decide) rfl
  have hFc := va_free (wc := [cM0 m0 m1 m2 m3 m4 m5 v, cM1 cI m1 v, cM2 cJ m2 v, cM3 cJ m3 v, cM4 cI m4 v, cM5 cI m5 v]) hD hS hA [0, 1, 2, 3, 4, 5] rfl
  refine va_callv (va_runV (As := []) (rest := []) ⟨hx, hb, hml, hown, hts⟩ (kX4_begin l dC dI cI cJ m0 m1 m2 m3 m4 m5 s.heap.size v) (cwV 0 hts gX4_mark_X4_begin rfl rfl rfl (by decide +kernel) ⟨Nat.le_of_ble_eq_true rfl, Nat.le_of_ble_eq_true rfl⟩) ⟨fun a U g mk q => by obtain ⟨q0, q1, qP, qK, qD⟩ := q; exact ⟨q0, q1, qP, va_K.moved (u := U) (U := U.calling g mk a) (Vm.Alike.refl U.vm) qK, qD⟩, va_recv hK hPc (ci := 4) (q0 := 0) rfl rfl, fun U hU hW => ⟨rfl, by rw [hU], by rw [hU]; exact hPc, va_K.moved hW.alike hK, hDc.weaken (fun _ _ _ _ => trivial)⟩⟩ rfl rfl hl.1 rfl (lv_room (Nat.le_of_ble_eq_true rfl)) dX4_mark_1 ⟨Nat.le_of_ble_eq_true rfl, Nat.le_of_ble_eq_true rfl⟩) hS (fun q _ h => hFc q h) hFc (fun _ t H1 locs ht hvm hw hB hz1 hk1 hS => ?_)
  obtain ⟨hP1, hK1, hD1⟩ := hB
  rw [ht] at hP1
  obtain ⟨g_2, eg_2⟩ : ∃ z, z = sX4_begin v := ⟨_, rfl⟩
  rw [← eg_2] at hP1 hD1
  obtain ⟨hP, hD⟩ := va_join (wr := []) (w1 := [cM0 m0 m1 m2 m3 m4 m5 g_2, cM1 cI m1 g_2, cM2 cJ m2 g_2, cM3 cJ m3 g_2, cM4 cI m4 g_2, cM5 cI m5 g_2]) hP hD [0, 1, 2, 3, 4, 5] [] rfl rfl (by decide) (by decide) hk1 hFc hP1 hD1
  generalize H1 = H at hP hS ⊢
  have hP : va_P (dC, dI) vwCl [cM0 m0 m1 m2 m3 m4 m5 g_2, cM1 cI m1 g_2, cM2 cJ m2 g_2, cM3 cJ m3 g_2, cM4 cI m4 g_2, cM5 cI m5 g_2] H := hP
  have hD : va_D A [cM0 m0 m1 m2 m3 m4 m5 g_2, cM1 cI m1 g_2, cM2 cJ m2 g_2, cM3 cJ m3 g_2, cM4 cI m4 g_2, cM5 cI m5 g_2] := hD
  refine lv_iload_n hx hb dX4_mark_4 rfl (lv_at hl 1 rfl) ?_
  have hPc := hP.sub (ws' := []) [] rfl
  have hDc := hD.sub (ws' := []) [] (by decide) rfl
  have hFc := va_free (wc := []) hD hS hA [] rfl
  refine va_calli (va_runS (As := [.int k]) (rest := []) ⟨hx, hb, hml, hown, hts⟩ (kX4_isMark l dC dI cI cJ H.size k) (va_cwS 1 hts gX4_mark_X4_isMark rfl rfl rfl (by decide +kernel) ⟨Nat.le_of_ble_eq_true rfl, Nat.le_of_ble_eq_true rfl⟩) ⟨fun a U g mk q => by obtain ⟨q0, q1, qP, qK, qD⟩ := q; exact ⟨q0, q1, qP, va_K.moved (u := U) (U := U.calling g mk a) (Vm.Alike.refl U.vm) qK, qD⟩, fun U hU hW => ⟨rfl, by rw [hU], by rw [hU]; exact hPc, va_K.moved hW.alike hK, hDc.weaken (fun _ _ _ _ => trivial)⟩⟩ rfl rfl hl.1 rfl (lv_room (Nat.le_of_ble_eq_true rfl)) dX4_mark_5 ⟨Nat.le_of_ble_eq_true rfl, Nat.le_of_ble_eq_true rfl⟩) hS (fun q _ h => hFc q h) hFc (fun r_3 _ t H1 locs ht hvm hw hB hz1 hk1 hS => ?_)
  obtain ⟨hP1, hK1, hD1⟩ := hB
  rw [ht] at hP1
  obtain ⟨hP, hD⟩ := va_join (wr := [cM0 m0 m1 m2 m3 m4 m5 g_2, cM1 cI m1 g_2, cM2 cJ m2 g_2, cM3 cJ m3 g_2, cM4 cI m4 g_2, cM5 cI m5 g_2]) (w1 := []) hP hD [] [0, 1, 2, 3, 4, 5] rfl rfl (by decide) (by decide) hk1 hFc hP1 hD1
  generalize H1 = H at hP hS ⊢
  have hP : va_P (dC, dI) vwCl [cM0 m0 m1 m2 m3 m4 m5 g_2, cM1 cI m1 g_2, cM2 cJ m2 g_2, cM3 cJ m3 g_2, cM4 cI m4 g_2, cM5 cI m5 g_2] H := hP
  have hD : va_D A [cM0 m0 m1 m2 m3 m4 m5 g_2, cM1 cI m1 g_2, cM2 cJ m2 g_2, cM3 cJ m3 g_2, cM4 cI m4 g_2, cM5 cI m5 g_2] := hD
  subst hw
  refine lv_if_eq (tgt := 20) hx hb dX4_mark_8 (by decide) (fun c_4 => ?_) (fun c_4 => ?_)
  · refine lv_aload_n hx hb dX4_mark_20 rfl (lv_at hl 0 rfl) ?_
    have hPc := hP.sub (ws' := [cM0 m0 m1 m2 m3 m4 m5 g_2, cM1 cI m1 g_2, cM2 cJ m2 g_2, cM3 cJ m3 g_2, cM4 cI m4 g_2, cM5 cI m5 g_2]) [0, 1, 2, 3, 4, 5] rfl
    have hDc := hD.sub (ws' := [cM0 m0 m1 m2 m3 m4 m5 g_2, cM1 cI m1 g_2, cM2 cJ m2 g_2, cM3 cJ m3 g_2, cM4 cI m4 g_2, cM5 cI m5 g_2]) [0, 1, 2, 3, 4, 5] (by decide) rfl
    have hFc := va_free (wc := [cM0 m0 m1 m2 m3 m4 m5 g_2, cM1 cI m1 g_2, cM2 cJ m2 g_2, cM3 cJ m3 g_2, cM4 cI m4 g_2, cM5 cI m5 g_2]) hD hS hA [0, 1, 2, 3, 4, 5] rfl
    refine va_calli (va_runV (As := []) (rest := []) ⟨hx, hb, hml, hown, hts⟩ (kX4_refuse l dC dI cI cJ m0 m1 m2 m3 m4 m5 H.size g_2) (cwV 0 hts gX4_mark_X4_refuse rfl rfl rfl (by decide +kernel) ⟨Nat.le_of_ble_eq_true rfl, Nat.le_of_ble_eq_true rfl⟩) ⟨fun a U g mk q => by obtain ⟨q0, q1, qP, qK, qD⟩ := q; exact ⟨q0, q1, qP, va_K.moved (u := U) (U := U.calling g mk a) (Vm.Alike.refl U.vm) qK, qD⟩, va_recv hK hPc (ci := 4) (q0 := 0) rfl rfl, fun U hU hW => ⟨rfl, by rw [hU], by rw [hU]; exact hPc, va_K.moved hW.alike hK, hDc.weaken (fun _ _ _ _ => trivial)⟩⟩ rfl rfl hl.1 rfl (lv_room (Nat.le_of_ble_eq_true rfl)) dX4_mark_21 ⟨Nat.le_of_ble_eq_true rfl, Nat.le_of_ble_eq_true rfl⟩) hS (fun q _ h => hFc q h) hFc (fun r_5 _ t H1 locs ht hvm hw hB hz1 hk1 hS => ?_)
    obtain ⟨hP1, hK1, hD1⟩ := hB
    rw [ht] at hP1
    obtain ⟨g_6, eg_6⟩ : ∃ z, z = sX4_refuse g_2 := ⟨_, rfl⟩
    rw [← eg_6] at hP1 hD1
    obtain ⟨hP, hD⟩ := va_join (wr := []) (w1 := [cM0 m0 m1 m2 m3 m4 m5 g_6, cM1 cI m1 g_6, cM2 cJ m2 g_6, cM3 cJ m3 g_6, cM4 cI m4 g_6, cM5 cI m5 g_6]) hP hD [0, 1, 2, 3, 4, 5] [] rfl rfl (by decide) (by decide) hk1 hFc hP1 hD1
    generalize H1 = H at hP hS ⊢
    have hP : va_P (dC, dI) vwCl [cM0 m0 m1 m2 m3 m4 m5 g_6, cM1 cI m1 g_6, cM2 cJ m2 g_6, cM3 cJ m3 g_6, cM4 cI m4 g_6, cM5 cI m5 g_6] H := hP
    have hD : va_D A [cM0 m0 m1 m2 m3 m4 m5 g_6, cM1 cI m1 g_6, cM2 cJ m2 g_6, cM3 cJ m3 g_6, cM4 cI m4 g_6, cM5 cI m5 g_6] := hD
    subst hw
    refine lv_i2l (v := (rX4_refuse g_2).toInt64) hx hb dX4_mark_24 rfl ?_
    have es0 : sX4_mark k wh v = g_6 := by rw [sX4_mark, ← eg_2, sX4_mark_g_2, if_pos c_4, ← eg_6, sX4_mark_g_6]
    have er : (rX4_refuse g_2).toInt64 = rX4_mark k wh v := by rw [rX4_mark, ← eg_2, rX4_mark_g_2, if_pos c_4, ← eg_6, rX4_mark_g_6]
    refine W.lret (v := (rX4_refuse g_2).toInt64) hx hb hr (fun t ht hW => ⟨⟨(rX4_refuse g_2).toInt64, (), rfl, er, ?_⟩, hS.F ht⟩) hS.2.2 dX4_mark_25
    rw [es0]; exact ⟨by rw [ht]; exact hP, va_K.moved hW.alike hK, hD⟩
  · refine lv_iload_n hx hb dX4_mark_11 rfl (lv_at hl 2 rfl) ?_
    refine lv_if_lt (tgt := 20) hx hb dX4_mark_12 (by decide) (fun c_7 => ?_) (fun c_7 => ?_)
    · refine lv_aload_n hx hb dX4_mark_20 rfl (lv_at hl 0 rfl) ?_
      have hPc := hP.sub (ws' := [cM0 m0 m1 m2 m3 m4 m5 g_2, cM1 cI m1 g_2, cM2 cJ m2 g_2, cM3 cJ m3 g_2, cM4 cI m4 g_2, cM5 cI m5 g_2]) [0, 1, 2, 3, 4, 5] rfl
      have hDc := hD.sub (ws' := [cM0 m0 m1 m2 m3 m4 m5 g_2, cM1 cI m1 g_2, cM2 cJ m2 g_2, cM3 cJ m3 g_2, cM4 cI m4 g_2, cM5 cI m5 g_2]) [0, 1, 2, 3, 4, 5] (by decide) rfl
      have hFc := va_free (wc := [cM0 m0 m1 m2 m3 m4 m5 g_2, cM1 cI m1 g_2, cM2 cJ m2 g_2, cM3 cJ m3 g_2, cM4 cI m4 g_2, cM5 cI m5 g_2]) hD hS hA [0, 1, 2, 3, 4, 5] rfl
      refine va_calli (va_runV (As := []) (rest := []) ⟨hx, hb, hml, hown, hts⟩ (kX4_refuse l dC dI cI cJ m0 m1 m2 m3 m4 m5 H.size g_2) (cwV 0 hts gX4_mark_X4_refuse rfl rfl rfl (by decide +kernel) ⟨Nat.le_of_ble_eq_true rfl, Nat.le_of_ble_eq_true rfl⟩) ⟨fun a U g mk q => by obtain ⟨q0, q1, qP, qK, qD⟩ := q; exact ⟨q0, q1, qP, va_K.moved (u := U) (U := U.calling g mk a) (Vm.Alike.refl U.vm) qK, qD⟩, va_recv hK hPc (ci := 4) (q0 := 0) rfl rfl, fun U hU hW => ⟨rfl, by rw [hU], by rw [hU]; exact hPc, va_K.moved hW.alike hK, hDc.weaken (fun _ _ _ _ => trivial)⟩⟩ rfl rfl hl.1 rfl (lv_room (Nat.le_of_ble_eq_true rfl)) dX4_mark_21 ⟨Nat.le_of_ble_eq_true rfl, Nat.le_of_ble_eq_true rfl⟩) hS (fun q _ h => hFc q h) hFc (fun r_8 _ t H1 locs ht hvm hw hB hz1 hk1 hS => ?_)
      obtain ⟨hP1, hK1, hD1⟩ := hB
      rw [ht] at hP1
      obtain ⟨g_9, eg_9⟩ : ∃ z, z = sX4_refuse g_2 := ⟨_, rfl⟩
      rw [← eg_9] at hP1 hD1
      obtain ⟨hP, hD⟩ := va_join (wr := []) (w1 := [cM0 m0 m1 m2 m3 m4 m5 g_9, cM1 cI m1 g_9, cM2 cJ m2 g_9, cM3 cJ m3 g_9, cM4 cI m4 g_9, cM5 cI m5 g_9]) hP hD [0, 1, 2, 3, 4, 5] [] rfl rfl (by decide) (by decide) hk1 hFc hP1 hD1
      generalize H1 = H at hP hS ⊢
      have hP : va_P (dC, dI) vwCl [cM0 m0 m1 m2 m3 m4 m5 g_9, cM1 cI m1 g_9, cM2 cJ m2 g_9, cM3 cJ m3 g_9, cM4 cI m4 g_9, cM5 cI m5 g_9] H := hP
      have hD : va_D A [cM0 m0 m1 m2 m3 m4 m5 g_9, cM1 cI m1 g_9, cM2 cJ m2 g_9, cM3 cJ m3 g_9, cM4 cI m4 g_9, cM5 cI m5 g_9] := hD
      subst hw
      refine lv_i2l (v := (rX4_refuse g_2).toInt64) hx hb dX4_mark_24 rfl ?_
      have es0 : sX4_mark k wh v = g_9 := by rw [sX4_mark, ← eg_2, sX4_mark_g_2, if_neg c_4, if_pos c_7, ← eg_9, sX4_mark_g_9]
      have er : (rX4_refuse g_2).toInt64 = rX4_mark k wh v := by rw [rX4_mark, ← eg_2, rX4_mark_g_2, if_neg c_4, if_pos c_7, ← eg_9, rX4_mark_g_9]
      refine W.lret (v := (rX4_refuse g_2).toInt64) hx hb hr (fun t ht hW => ⟨⟨(rX4_refuse g_2).toInt64, (), rfl, er, ?_⟩, hS.F ht⟩) hS.2.2 dX4_mark_25
      rw [es0]; exact ⟨by rw [ht]; exact hP, va_K.moved hW.alike hK, hD⟩
    · refine lv_iload_n hx hb dX4_mark_15 rfl (lv_at hl 2 rfl) ?_
      refine lv_iconst (v := 4) hx hb dX4_mark_16 (by decide) ?_
      refine lv_icmp_le (tgt := 26) hx hb dX4_mark_17 (by decide) (fun c_10 => ?_) (fun c_10 => ?_)
      · refine lv_aload_n hx hb dX4_mark_26 rfl (lv_at hl 0 rfl) ?_
        refine lv_iconst (v := 0) hx hb dX4_mark_27 (by decide) ?_
        refine va_put (D := (dC, dI)) (ci := 4) (v := .int 0) (ty := .int) (C := RX4) (T := TX4) (N := 17) hx hb hts hiX4 tyX4 tyX4_ok nmX4 hown hK hP hD hS 0 rfl rfl 0 (by decide) (hts (.fieldLink RX4 49 "TripReckonerModel" "thrown" "I") (by decide +kernel)) (fun _ h9 => h9) rfl (by decide +kernel) rfl rfl (Nat.le_of_ble_eq_true rfl) dX4_mark_28 (fun H locs hP hD hS => ?_)
        have hP : va_P (dC, dI) vwCl [(m0, .inr (4, [.int 0, .ref m1, .int g_2.2.2.1, .ref m2, .ref m3, .int g_2.2.2.2.2.2.1, .int g_2.2.2.2.2.2.2.1, .int g_2.2.2.2.2.2.2.2.1, .int g_2.2.2.2.2.2.2.2.2.1, .int g_2.2.2.2.2.2.2.2.2.2.1, .int g_2.2.2.2.2.2.2.2.2.2.2.1, .int g_2.2.2.2.2.2.2.2.2.2.2.2.1, .long g_2.2.2.2.2.2.2.2.2.2.2.2.2.1, .int g_2.2.2.2.2.2.2.2.2.2.2.2.2.2.1, .ref m4, .ref m5, .int g_2.2.2.2.2.2.2.2.2.2.2.2.2.2.2.2.2])), (m1, .inl (cI, 60, .inl g_2.2.1)), (m2, .inl (cJ, 92, .inr (.inl g_2.2.2.2.1))), (m3, .inl (cJ, 92, .inr (.inl g_2.2.2.2.2.1))), (m4, .inl (cI, 1573, .inl g_2.2.2.2.2.2.2.2.2.2.2.2.2.2.2.1)), (m5, .inl (cI, 12, .inl g_2.2.2.2.2.2.2.2.2.2.2.2.2.2.2.2.1))] H := hP
        have hD : va_D A [(m0, .inr (4, [.int 0, .ref m1, .int g_2.2.2.1, .ref m2, .ref m3, .int g_2.2.2.2.2.2.1, .int g_2.2.2.2.2.2.2.1, .int g_2.2.2.2.2.2.2.2.1, .int g_2.2.2.2.2.2.2.2.2.1, .int g_2.2.2.2.2.2.2.2.2.2.1, .int g_2.2.2.2.2.2.2.2.2.2.2.1, .int g_2.2.2.2.2.2.2.2.2.2.2.2.1, .long g_2.2.2.2.2.2.2.2.2.2.2.2.2.1, .int g_2.2.2.2.2.2.2.2.2.2.2.2.2.2.1, .ref m4, .ref m5, .int g_2.2.2.2.2.2.2.2.2.2.2.2.2.2.2.2.2])), (m1, .inl (cI, 60, .inl g_2.2.1)), (m2, .inl (cJ, 92, .inr (.inl g_2.2.2.2.1))), (m3, .inl (cJ, 92, .inr (.inl g_2.2.2.2.2.1))), (m4, .inl (cI, 1573, .inl g_2.2.2.2.2.2.2.2.2.2.2.2.2.2.2.1)), (m5, .inl (cI, 12, .inl g_2.2.2.2.2.2.2.2.2.2.2.2.2.2.2.2.1))] := hD
        refine lv_aload_n hx hb dX4_mark_31 rfl (lv_at hl 0 rfl) ?_
        refine va_get (D := (dC, dI)) (ci := 4) (v := .ref m2) (C := RX4) (T := TX4) (N := 17) hx hb hts hiX4 hown hK hP 0 rfl rfl 3 (by decide) (hts (.fieldLink RX4 13 "TripReckonerModel" "now" "[J") (by decide +kernel)) (fun _ h9 => h9) rfl dX4_mark_32 ?_
        refine lv_iconst (v := 2) hx hb dX4_mark_35 (by decide) ?_
        refine lv_iconst (v := 5) hx hb dX4_mark_36 (by decide) ?_
        refine lv_iload_n hx hb dX4_mark_37 rfl (lv_at hl 1 rfl) ?_
        refine lv_imul hx hb dX4_mark_38 ?_
        refine lv_iadd hx hb dX4_mark_39 ?_
        refine lv_iload_n hx hb dX4_mark_40 rfl (lv_at hl 2 rfl) ?_
        refine lv_iadd hx hb dX4_mark_41 ?_
        refine va_lald hx hb hK hP 2 1 rfl rfl (mk_in2 (isMark4_in c_4) (what_in c_7 c_10)) dX4_mark_42 ?_
        have es0 : sX4_mark k wh v = (0, g_2.2.1, g_2.2.2.1, g_2.2.2.2.1, g_2.2.2.2.2.1, g_2.2.2.2.2.2.1, g_2.2.2.2.2.2.2.1, g_2.2.2.2.2.2.2.2.1, g_2.2.2.2.2.2.2.2.2.1, g_2.2.2.2.2.2.2.2.2.2.1, g_2.2.2.2.2.2.2.2.2.2.2.1, g_2.2.2.2.2.2.2.2.2.2.2.2.1, g_2.2.2.2.2.2.2.2.2.2.2.2.2.1, g_2.2.2.2.2.2.2.2.2.2.2.2.2.2.1, g_2.2.2.2.2.2.2.2.2.2.2.2.2.2.2.1, g_2.2.2.2.2.2.2.2.2.2.2.2.2.2.2.2.1, g_2.2.2.2.2.2.2.2.2.2.2.2.2.2.2.2.2) := by rw [sX4_mark, ← eg_2, sX4_mark_g_2, if_neg c_4, if_neg c_7, if_pos c_10]
        have er : g_2.2.2.2.1 (((2 + (5 * k)) + wh).toNatClampNeg) = rX4_mark k wh v := by rw [rX4_mark, ← eg_2, rX4_mark_g_2, if_neg c_4, if_neg c_7, if_pos c_10]
        refine W.lret (v := g_2.2.2.2.1 (((2 + (5 * k)) + wh).toNatClampNeg)) hx hb hr (fun t ht hW => ⟨⟨g_2.2.2.2.1 (((2 + (5 * k)) + wh).toNatClampNeg), (), rfl, er, ?_⟩, hS.F ht⟩) hS.2.2 dX4_mark_43
        rw [es0]; exact ⟨by rw [ht]; exact hP, va_K.moved hW.alike hK, hD⟩
      · refine lv_aload_n hx hb dX4_mark_20 rfl (lv_at hl 0 rfl) ?_
        have hPc := hP.sub (ws' := [cM0 m0 m1 m2 m3 m4 m5 g_2, cM1 cI m1 g_2, cM2 cJ m2 g_2, cM3 cJ m3 g_2, cM4 cI m4 g_2, cM5 cI m5 g_2]) [0, 1, 2, 3, 4, 5] rfl
        have hDc := hD.sub (ws' := [cM0 m0 m1 m2 m3 m4 m5 g_2, cM1 cI m1 g_2, cM2 cJ m2 g_2, cM3 cJ m3 g_2, cM4 cI m4 g_2, cM5 cI m5 g_2]) [0, 1, 2, 3, 4, 5] (by decide) rfl
        have hFc := va_free (wc := [cM0 m0 m1 m2 m3 m4 m5 g_2, cM1 cI m1 g_2, cM2 cJ m2 g_2, cM3 cJ m3 g_2, cM4 cI m4 g_2, cM5 cI m5 g_2]) hD hS hA [0, 1, 2, 3, 4, 5] rfl
        refine va_calli (va_runV (As := []) (rest := []) ⟨hx, hb, hml, hown, hts⟩ (kX4_refuse l dC dI cI cJ m0 m1 m2 m3 m4 m5 H.size g_2) (cwV 0 hts gX4_mark_X4_refuse rfl rfl rfl (by decide +kernel) ⟨Nat.le_of_ble_eq_true rfl, Nat.le_of_ble_eq_true rfl⟩) ⟨fun a U g mk q => by obtain ⟨q0, q1, qP, qK, qD⟩ := q; exact ⟨q0, q1, qP, va_K.moved (u := U) (U := U.calling g mk a) (Vm.Alike.refl U.vm) qK, qD⟩, va_recv hK hPc (ci := 4) (q0 := 0) rfl rfl, fun U hU hW => ⟨rfl, by rw [hU], by rw [hU]; exact hPc, va_K.moved hW.alike hK, hDc.weaken (fun _ _ _ _ => trivial)⟩⟩ rfl rfl hl.1 rfl (lv_room (Nat.le_of_ble_eq_true rfl)) dX4_mark_21 ⟨Nat.le_of_ble_eq_true rfl, Nat.le_of_ble_eq_true rfl⟩) hS (fun q _ h => hFc q h) hFc (fun r_11 _ t H1 locs ht hvm hw hB hz1 hk1 hS => ?_)
        obtain ⟨hP1, hK1, hD1⟩ := hB
        rw [ht] at hP1
        obtain ⟨g_12, eg_12⟩ : ∃ z, z = sX4_refuse g_2 := ⟨_, rfl⟩
        rw [← eg_12] at hP1 hD1
        obtain ⟨hP, hD⟩ := va_join (wr := []) (w1 := [cM0 m0 m1 m2 m3 m4 m5 g_12, cM1 cI m1 g_12, cM2 cJ m2 g_12, cM3 cJ m3 g_12, cM4 cI m4 g_12, cM5 cI m5 g_12]) hP hD [0, 1, 2, 3, 4, 5] [] rfl rfl (by decide) (by decide) hk1 hFc hP1 hD1
        generalize H1 = H at hP hS ⊢
        have hP : va_P (dC, dI) vwCl [cM0 m0 m1 m2 m3 m4 m5 g_12, cM1 cI m1 g_12, cM2 cJ m2 g_12, cM3 cJ m3 g_12, cM4 cI m4 g_12, cM5 cI m5 g_12] H := hP
        have hD : va_D A [cM0 m0 m1 m2 m3 m4 m5 g_12, cM1 cI m1 g_12, cM2 cJ m2 g_12, cM3 cJ m3 g_12, cM4 cI m4 g_12, cM5 cI m5 g_12] := hD
        subst hw
        refine lv_i2l (v := (rX4_refuse g_2).toInt64) hx hb dX4_mark_24 rfl ?_
        have es0 : sX4_mark k wh v = g_12 := by rw [sX4_mark, ← eg_2, sX4_mark_g_2, if_neg c_4, if_neg c_7, if_neg c_10, ← eg_12, sX4_mark_g_12]
        have er : (rX4_refuse g_2).toInt64 = rX4_mark k wh v := by rw [rX4_mark, ← eg_2, rX4_mark_g_2, if_neg c_4, if_neg c_7, if_neg c_10, ← eg_12, rX4_mark_g_12]
        refine W.lret (v := (rX4_refuse g_2).toInt64) hx hb hr (fun t ht hW => ⟨⟨(rX4_refuse g_2).toInt64, (), rfl, er, ?_⟩, hS.F ht⟩) hS.2.2 dX4_mark_25
        rw [es0]; exact ⟨by rw [ht]; exact hP, va_K.moved hW.alike hK, hD⟩

def sX4_metres_g_7 (k : Int32) (z : Int32) (v : MS) (g_2 : MS) (g_7 : MS) : MS :=
  g_7
def sX4_metres_g_2 (k : Int32) (z : Int32) (v : MS) (g_2 : MS) : MS :=
  if (rX4_isMark k) = 0 then
    sX4_metres_g_7 k z v g_2 (sX4_refuse g_2)
  else
    if z = 0 then
      (0, g_2.2.1, g_2.2.2.1, g_2.2.2.2.1, g_2.2.2.2.2.1, g_2.2.2.2.2.2.1, g_2.2.2.2.2.2.2.1, g_2.2.2.2.2.2.2.2.1, g_2.2.2.2.2.2.2.2.2.1, g_2.2.2.2.2.2.2.2.2.2.1, g_2.2.2.2.2.2.2.2.2.2.2.1, g_2.2.2.2.2.2.2.2.2.2.2.2.1, g_2.2.2.2.2.2.2.2.2.2.2.2.2.1, g_2.2.2.2.2.2.2.2.2.2.2.2.2.2.1, g_2.2.2.2.2.2.2.2.2.2.2.2.2.2.2.1, g_2.2.2.2.2.2.2.2.2.2.2.2.2.2.2.2.1, g_2.2.2.2.2.2.2.2.2.2.2.2.2.2.2.2.2)
    else
      (0, g_2.2.1, g_2.2.2.1, g_2.2.2.2.1, g_2.2.2.2.2.1, g_2.2.2.2.2.2.1, g_2.2.2.2.2.2.2.1, g_2.2.2.2.2.2.2.2.1, g_2.2.2.2.2.2.2.2.2.1, g_2.2.2.2.2.2.2.2.2.2.1, g_2.2.2.2.2.2.2.2.2.2.2.1, g_2.2.2.2.2.2.2.2.2.2.2.2.1, g_2.2.2.2.2.2.2.2.2.2.2.2.2.1, g_2.2.2.2.2.2.2.2.2.2.2.2.2.2.1, g_2.2.2.2.2.2.2.2.2.2.2.2.2.2.2.1, g_2.2.2.2.2.2.2.2.2.2.2.2.2.2.2.2.1, g_2.2.2.2.2.2.2.2.2.2.2.2.2.2.2.2.2)
def sX4_metres (k : Int32) (z : Int32) (v : MS) : MS :=
  sX4_metres_g_2 k z v (sX4_begin v)
def rX4_metres_g_7 (k : Int32) (z : Int32) (v : MS) (g_2 : MS) (g_7 : MS) : Int64 :=
  (rX4_refuse g_2).toInt64
def rX4_metres_g_2 (k : Int32) (z : Int32) (v : MS) (g_2 : MS) : Int64 :=
  if (rX4_isMark k) = 0 then
    rX4_metres_g_7 k z v g_2 (sX4_refuse g_2)
  else
    if z = 0 then
      ((g_2.2.2.2.1 (((2 + (5 * k)) + 0).toNatClampNeg)) * g_2.2.2.2.2.2.2.1.toInt64) / 100
    else
      ((g_2.2.2.2.1 (((2 + (5 * k)) + 1).toNatClampNeg)) * g_2.2.2.2.2.2.2.1.toInt64) / 100
def rX4_metres (k : Int32) (z : Int32) (v : MS) : Int64 :=
  rX4_metres_g_2 k z v (sX4_begin v)
set_option maxHeartbeats 4000000 in
set_option maxRecDepth 100000 in
theorem kX4_metres (l : Launch) (dC : Nat → ClassId) (dI : Nat → Nat → Nat) (cI cJ : ClassId) (m0 m1 m2 m3 m4 m5 : Nat) (sz : Nat) (k : Int32) (z : Int32) (v : MS) : Met l yX4_metres wsX4_metres ({ frames := 2, cells := 0, slots := 0, locals := 42 }) (va_Pc [.ref m0, .int k, .int z] (fun U => U.heap.size = sz ∧ va_P (dC, dI) vwCl [cM0 m0 m1 m2 m3 m4 m5 v, cM1 cI m1 v, cM2 cJ m2 v, cM3 cJ m3 v, cM4 cI m4 v, cM5 cI m5 v] U.heap ∧ va_K (dC, dI) vwCl [(cI, .int), (cJ, .long)] U ∧ va_D (fun _ => True) [cM0 m0 m1 m2 m3 m4 m5 v, cM1 cI m1 v, cM2 cJ m2 v, cM3 cJ m3 v, cM4 cI m4 v, cM5 cI m5 v])) (va_Ql (fun (r : Int64) (_ : Unit) => r = rX4_metres k z v) (fun _ t => va_P (dC, dI) vwCl [cM0 m0 m1 m2 m3 m4 m5 (sX4_metres k z v), cM1 cI m1 (sX4_metres k z v), cM2 cJ m2 (sX4_metres k z v), cM3 cJ m3 (sX4_metres k z v), cM4 cI m4 (sX4_metres k z v), cM5 cI m5 (sX4_metres k z v)] t.heap ∧ va_K (dC, dI) vwCl [(cI, .int), (cJ, .long)] t ∧ va_D (va_A [cM0 m0 m1 m2 m3 m4 m5 v, cM1 cI m1 v, cM2 cJ m2 v, cM3 cJ m3 v, cM4 cI m4 v, cM5 cI m5 v] sz) [cM0 m0 m1 m2 m3 m4 m5 (sX4_metres k z v), cM1 cI m1 (sX4_metres k z v), cM2 cJ m2 (sX4_metres k z v), cM3 cJ m3 (sX4_metres k z v), cM4 cI m4 (sX4_metres k z v), cM5 cI m5 (sX4_metres k z v)]) (va_A [cM0 m0 m1 m2 m3 m4 m5 v, cM1 cI m1 v, cM2 cJ m2 v, cM3 cJ m3 v, cM4 cI m4 v, cM5 cI m5 v] sz)) 0 0 (va_A [cM0 m0 m1 m2 m3 m4 m5 v, cM1 cI m1 v, cM2 cJ m2 v, cM3 cJ m3 v, cM4 cI m4 v, cM5 cI m5 v] sz) := by
  refine Met.ofW (cc := cX4_metres) (maxL := 3) (ret := (some .long)) (by decide) rfl ?_
  intro p e s m args below meth c s₁ B hml hv
  obtain ⟨rfl, hsz, hP, hK, hD0⟩ := hv
  have hx := B.exec
  have hb := B.bytes
  have hr := B.returns
  have hts := atoms_spec (ws := wsX4_metres) B.pre
  have hown : s.vm.findClass RX4 = some m.cls := findClass_of_methodNamed B.named
  have hlocks := B.notSynchronized
  have hiX4 : ∀ w ∈ u_ws RX4 TX4 17, w ∈ wsX4_metres := by decide +kernel
  subst hsz
  have hD := hD0.self (sz := s.heap.size)
  generalize hAe : va_A [cM0 m0 m1 m2 m3 m4 m5 v, cM1 cI m1 v, cM2 cJ m2 v, cM3 cJ m3 v, cM4 cI m4 v, cM5 cI m5 v] s.heap.size = A at hD ⊢
  have hA : ∀ q : Nat, s.heap.size ≤ q → A q := fun q h => by rw [← hAe]; exact Or.inr h
  have hS : va_S A s.heap s.heap [] := va_S.rf
  have hl := lv_entry ([.ref m0, .int k, .int z]) (n := 3) (Nat.le_of_ble_eq_true rfl)
  rw [lg_entry_eq]
  generalize (lg_sl ([.ref m0, .int k, .int z]) ++ List.replicate (3 - (lg_sl ([.ref m0, .int k, .int z])).length) Slot.unset).toArray = ls at hl ⊢
  have hl : lv_has ls 3 [(0, .ref m0), (1, .int k), (2, .int z)] := hl
  have hP : va_P (dC, dI) vwCl [cM0 m0 m1 m2 m3 m4 m5 v, cM1 cI m1 v, cM2 cJ m2 v, cM3 cJ m3 v, cM4 cI m4 v, cM5 cI m5 v] s.heap := hP
  refine lv_aload_n hx hb dX4_metres_0 rfl (lv_at hl 0 rfl) ?_
  have hPc := hP.sub (ws' := [cM0 m0 m1 m2 m3 m4 m5 v, cM1 cI m1 v, cM2 cJ m2 v, cM3 cJ m3 v, cM4 cI m4 v, cM5 cI m5 v]) [0, 1, 2, 3, 4, 5] rfl
  have hDc := hD.sub (ws' := [cM0 m0 m1 m2 m3 m4 m5 v, cM1 cI m1 v, cM2 cJ m2 v, cM3 cJ m3 v, cM4 cI m4 v, cM5 cI m5 v]) [0, 1, 2, 3, 4, 5] (by decide) rfl
  have hFc := va_free (wc := [cM0 m0 m1 m2 m3 m4 m5 v, cM1 cI m1 v, cM2 cJ m2 v, cM3 cJ m3 v, cM4 cI m4 v, cM5 cI m5 v]) hD hS hA [0, 1, 2, 3, 4, 5] rfl
  refine va_callv (va_runV (As := []) (rest := []) ⟨hx, hb, hml, hown, hts⟩ (kX4_begin l dC dI cI cJ m0 m1 m2 m3 m4 m5 s.heap.size v) (cwV 0 hts gX4_metres_X4_begin rfl rfl rfl (by decide +kernel) ⟨Nat.le_of_ble_eq_true rfl, Nat.le_of_ble_eq_true rfl⟩) ⟨fun a U g mk q => by obtain ⟨q0, q1, qP, qK, qD⟩ := q; exact ⟨q0, q1, qP, va_K.moved (u := U) (U := U.calling g mk a) (Vm.Alike.refl U.vm) qK, qD⟩, va_recv hK hPc (ci := 4) (q0 := 0) rfl rfl, fun U hU hW => ⟨rfl, by rw [hU], by rw [hU]; exact hPc, va_K.moved hW.alike hK, hDc.weaken (fun _ _ _ _ => trivial)⟩⟩ rfl rfl hl.1 rfl (lv_room (Nat.le_of_ble_eq_true rfl)) dX4_metres_1 ⟨Nat.le_of_ble_eq_true rfl, Nat.le_of_ble_eq_true rfl⟩) hS (fun q _ h => hFc q h) hFc (fun _ t H1 locs ht hvm hw hB hz1 hk1 hS => ?_)
  obtain ⟨hP1, hK1, hD1⟩ := hB
  rw [ht] at hP1
  obtain ⟨g_2, eg_2⟩ : ∃ z, z = sX4_begin v := ⟨_, rfl⟩
  rw [← eg_2] at hP1 hD1
  obtain ⟨hP, hD⟩ := va_join (wr := []) (w1 := [cM0 m0 m1 m2 m3 m4 m5 g_2, cM1 cI m1 g_2, cM2 cJ m2 g_2, cM3 cJ m3 g_2, cM4 cI m4 g_2, cM5 cI m5 g_2]) hP hD [0, 1, 2, 3, 4, 5] [] rfl rfl (by decide) (by decide) hk1 hFc hP1 hD1
  generalize H1 = H at hP hS ⊢
  have hP : va_P (dC, dI) vwCl [cM0 m0 m1 m2 m3 m4 m5 g_2, cM1 cI m1 g_2, cM2 cJ m2 g_2, cM3 cJ m3 g_2, cM4 cI m4 g_2, cM5 cI m5 g_2] H := hP
  have hD : va_D A [cM0 m0 m1 m2 m3 m4 m5 g_2, cM1 cI m1 g_2, cM2 cJ m2 g_2, cM3 cJ m3 g_2, cM4 cI m4 g_2, cM5 cI m5 g_2] := hD
  refine lv_iload_n hx hb dX4_metres_4 rfl (lv_at hl 1 rfl) ?_
  have hPc := hP.sub (ws' := []) [] rfl
  have hDc := hD.sub (ws' := []) [] (by decide) rfl
  have hFc := va_free (wc := []) hD hS hA [] rfl
  refine va_calli (va_runS (As := [.int k]) (rest := []) ⟨hx, hb, hml, hown, hts⟩ (kX4_isMark l dC dI cI cJ H.size k) (va_cwS 1 hts gX4_metres_X4_isMark rfl rfl rfl (by decide +kernel) ⟨Nat.le_of_ble_eq_true rfl, Nat.le_of_ble_eq_true rfl⟩) ⟨fun a U g mk q => by obtain ⟨q0, q1, qP, qK, qD⟩ := q; exact ⟨q0, q1, qP, va_K.moved (u := U) (U := U.calling g mk a) (Vm.Alike.refl U.vm) qK, qD⟩, fun U hU hW => ⟨rfl, by rw [hU], by rw [hU]; exact hPc, va_K.moved hW.alike hK, hDc.weaken (fun _ _ _ _ => trivial)⟩⟩ rfl rfl hl.1 rfl (lv_room (Nat.le_of_ble_eq_true rfl)) dX4_metres_5 ⟨Nat.le_of_ble_eq_true rfl, Nat.le_of_ble_eq_true rfl⟩) hS (fun q _ h => hFc q h) hFc (fun r_3 _ t H1 locs ht hvm hw hB hz1 hk1 hS => ?_)
  obtain ⟨hP1, hK1, hD1⟩ := hB
  rw [ht] at hP1
  obtain ⟨hP, hD⟩ := va_join (wr := [cM0 m0 m1 m2 m3 m4 m5 g_2, cM1 cI m1 g_2, cM2 cJ m2 g_2, cM3 cJ m3 g_2, cM4 cI m4 g_2, cM5 cI m5 g_2]) (w1 := []) hP hD [] [0, 1, 2, 3, 4, 5] rfl rfl (by decide) (by decide) hk1 hFc hP1 hD1
  generalize H1 = H at hP hS ⊢
  have hP : va_P (dC, dI) vwCl [cM0 m0 m1 m2 m3 m4 m5 g_2, cM1 cI m1 g_2, cM2 cJ m2 g_2, cM3 cJ m3 g_2, cM4 cI m4 g_2, cM5 cI m5 g_2] H := hP
  have hD : va_D A [cM0 m0 m1 m2 m3 m4 m5 g_2, cM1 cI m1 g_2, cM2 cJ m2 g_2, cM3 cJ m3 g_2, cM4 cI m4 g_2, cM5 cI m5 g_2] := hD
  subst hw
  refine lv_if_ne (tgt := 17) hx hb dX4_metres_8 (by decide) (fun c_4 => ?_) (fun c_4 => ?_)
  · refine lv_aload_n hx hb dX4_metres_17 rfl (lv_at hl 0 rfl) ?_
    refine lv_iconst (v := 0) hx hb dX4_metres_18 (by decide) ?_
    refine va_put (D := (dC, dI)) (ci := 4) (v := .int 0) (ty := .int) (C := RX4) (T := TX4) (N := 17) hx hb hts hiX4 tyX4 tyX4_ok nmX4 hown hK hP hD hS 0 rfl rfl 0 (by decide) (hts (.fieldLink RX4 49 "TripReckonerModel" "thrown" "I") (by decide +kernel)) (fun _ h9 => h9) rfl (by decide +kernel) rfl rfl (Nat.le_of_ble_eq_true rfl) dX4_metres_19 (fun H locs hP hD hS => ?_)
    have hP : va_P (dC, dI) vwCl [(m0, .inr (4, [.int 0, .ref m1, .int g_2.2.2.1, .ref m2, .ref m3, .int g_2.2.2.2.2.2.1, .int g_2.2.2.2.2.2.2.1, .int g_2.2.2.2.2.2.2.2.1, .int g_2.2.2.2.2.2.2.2.2.1, .int g_2.2.2.2.2.2.2.2.2.2.1, .int g_2.2.2.2.2.2.2.2.2.2.2.1, .int g_2.2.2.2.2.2.2.2.2.2.2.2.1, .long g_2.2.2.2.2.2.2.2.2.2.2.2.2.1, .int g_2.2.2.2.2.2.2.2.2.2.2.2.2.2.1, .ref m4, .ref m5, .int g_2.2.2.2.2.2.2.2.2.2.2.2.2.2.2.2.2])), (m1, .inl (cI, 60, .inl g_2.2.1)), (m2, .inl (cJ, 92, .inr (.inl g_2.2.2.2.1))), (m3, .inl (cJ, 92, .inr (.inl g_2.2.2.2.2.1))), (m4, .inl (cI, 1573, .inl g_2.2.2.2.2.2.2.2.2.2.2.2.2.2.2.1)), (m5, .inl (cI, 12, .inl g_2.2.2.2.2.2.2.2.2.2.2.2.2.2.2.2.1))] H := hP
    have hD : va_D A [(m0, .inr (4, [.int 0, .ref m1, .int g_2.2.2.1, .ref m2, .ref m3, .int g_2.2.2.2.2.2.1, .int g_2.2.2.2.2.2.2.1, .int g_2.2.2.2.2.2.2.2.1, .int g_2.2.2.2.2.2.2.2.2.1, .int g_2.2.2.2.2.2.2.2.2.2.1, .int g_2.2.2.2.2.2.2.2.2.2.2.1, .int g_2.2.2.2.2.2.2.2.2.2.2.2.1, .long g_2.2.2.2.2.2.2.2.2.2.2.2.2.1, .int g_2.2.2.2.2.2.2.2.2.2.2.2.2.2.1, .ref m4, .ref m5, .int g_2.2.2.2.2.2.2.2.2.2.2.2.2.2.2.2.2])), (m1, .inl (cI, 60, .inl g_2.2.1)), (m2, .inl (cJ, 92, .inr (.inl g_2.2.2.2.1))), (m3, .inl (cJ, 92, .inr (.inl g_2.2.2.2.2.1))), (m4, .inl (cI, 1573, .inl g_2.2.2.2.2.2.2.2.2.2.2.2.2.2.2.1)), (m5, .inl (cI, 12, .inl g_2.2.2.2.2.2.2.2.2.2.2.2.2.2.2.2.1))] := hD
    refine lv_aload_n hx hb dX4_metres_22 rfl (lv_at hl 0 rfl) ?_
    refine va_get (D := (dC, dI)) (ci := 4) (v := .ref m2) (C := RX4) (T := TX4) (N := 17) hx hb hts hiX4 hown hK hP 0 rfl rfl 3 (by decide) (hts (.fieldLink RX4 13 "TripReckonerModel" "now" "[J") (by decide +kernel)) (fun _ h9 => h9) rfl dX4_metres_23 ?_
    refine lv_iconst (v := 2) hx hb dX4_metres_26 (by decide) ?_
    refine lv_iconst (v := 5) hx hb dX4_metres_27 (by decide) ?_
    refine lv_iload_n hx hb dX4_metres_28 rfl (lv_at hl 1 rfl) ?_
    refine lv_imul hx hb dX4_metres_29 ?_
    refine lv_iadd hx hb dX4_metres_30 ?_
    refine lv_iload_n hx hb dX4_metres_31 rfl (lv_at hl 2 rfl) ?_
    refine lv_if_eq (tgt := 39) hx hb dX4_metres_32 (by decide) (fun c_5 => ?_) (fun c_5 => ?_)
    · refine lv_iconst (v := 0) hx hb dX4_metres_39 (by decide) ?_
      refine lv_iadd hx hb dX4_metres_40 ?_
      refine va_lald hx hb hK hP 2 1 rfl rfl (mk_in2 (isMark4_in c_4) (vd (by decide +kernel))) dX4_metres_41 ?_
      refine lv_aload_n hx hb dX4_metres_42 rfl (lv_at hl 0 rfl) ?_
      refine va_get (D := (dC, dI)) (ci := 4) (v := .int g_2.2.2.2.2.2.2.1) (C := RX4) (T := TX4) (N := 17) hx hb hts hiX4 hown hK hP 0 rfl rfl 6 (by decide) (hts (.fieldLink RX4 25 "TripReckonerModel" "metres" "I") (by decide +kernel)) (fun _ h9 => h9) rfl dX4_metres_43 ?_
      refine lv_i2l (v := g_2.2.2.2.2.2.2.1.toInt64) hx hb dX4_metres_46 rfl ?_
      refine lv_lmul hx hb dX4_metres_47 ?_
      refine lv_ldc2 hx hb hown (hts (.constantLong RX4 130 (100)) (by decide +kernel)) dX4_metres_48 ?_
      refine lv_ldiv hx hb dX4_metres_51 (by decide) ?_
      have es0 : sX4_metres k z v = (0, g_2.2.1, g_2.2.2.1, g_2.2.2.2.1, g_2.2.2.2.2.1, g_2.2.2.2.2.2.1, g_2.2.2.2.2.2.2.1, g_2.2.2.2.2.2.2.2.1, g_2.2.2.2.2.2.2.2.2.1, g_2.2.2.2.2.2.2.2.2.2.1, g_2.2.2.2.2.2.2.2.2.2.2.1, g_2.2.2.2.2.2.2.2.2.2.2.2.1, g_2.2.2.2.2.2.2.2.2.2.2.2.2.1, g_2.2.2.2.2.2.2.2.2.2.2.2.2.2.1, g_2.2.2.2.2.2.2.2.2.2.2.2.2.2.2.1, g_2.2.2.2.2.2.2.2.2.2.2.2.2.2.2.2.1, g_2.2.2.2.2.2.2.2.2.2.2.2.2.2.2.2.2) := by rw [sX4_metres, ← eg_2, sX4_metres_g_2, if_neg c_4, if_pos c_5]
      have er : ((g_2.2.2.2.1 (((2 + (5 * k)) + 0).toNatClampNeg)) * g_2.2.2.2.2.2.2.1.toInt64) / 100 = rX4_metres k z v := by rw [rX4_metres, ← eg_2, rX4_metres_g_2, if_neg c_4, if_pos c_5]
      refine W.lret (v := ((g_2.2.2.2.1 (((2 + (5 * k)) + 0).toNatClampNeg)) * g_2.2.2.2.2.2.2.1.toInt64) / 100) hx hb hr (fun t ht hW => ⟨⟨((g_2.2.2.2.1 (((2 + (5 * k)) + 0).toNatClampNeg)) * g_2.2.2.2.2.2.2.1.toInt64) / 100, (), rfl, er, ?_⟩, hS.F ht⟩) hS.2.2 dX4_metres_52
      rw [es0]; exact ⟨by rw [ht]; exact hP, va_K.moved hW.alike hK, hD⟩
    · refine lv_iconst (v := 1) hx hb dX4_metres_35 (by decide) ?_
      refine lv_goto (tgt := 40) hx hb dX4_metres_36 (by decide) ?_
      refine lv_iadd hx hb dX4_metres_40 ?_
      refine va_lald hx hb hK hP 2 1 rfl rfl (mk_in2 (isMark4_in c_4) (vd (by decide +kernel))) dX4_metres_41 ?_
      refine lv_aload_n hx hb dX4_metres_42 rfl (lv_at hl 0 rfl) ?_
      refine va_get (D := (dC, dI)) (ci := 4) (v := .int g_2.2.2.2.2.2.2.1) (C := RX4) (T := TX4) (N := 17) hx hb hts hiX4 hown hK hP 0 rfl rfl 6 (by decide) (hts (.fieldLink RX4 25 "TripReckonerModel" "metres" "I") (by decide +kernel)) (fun _ h9 => h9) rfl dX4_metres_43 ?_
      refine lv_i2l (v := g_2.2.2.2.2.2.2.1.toInt64) hx hb dX4_metres_46 rfl ?_
      refine lv_lmul hx hb dX4_metres_47 ?_
      refine lv_ldc2 hx hb hown (hts (.constantLong RX4 130 (100)) (by decide +kernel)) dX4_metres_48 ?_
      refine lv_ldiv hx hb dX4_metres_51 (by decide) ?_
      have es0 : sX4_metres k z v = (0, g_2.2.1, g_2.2.2.1, g_2.2.2.2.1, g_2.2.2.2.2.1, g_2.2.2.2.2.2.1, g_2.2.2.2.2.2.2.1, g_2.2.2.2.2.2.2.2.1, g_2.2.2.2.2.2.2.2.2.1, g_2.2.2.2.2.2.2.2.2.2.1, g_2.2.2.2.2.2.2.2.2.2.2.1, g_2.2.2.2.2.2.2.2.2.2.2.2.1, g_2.2.2.2.2.2.2.2.2.2.2.2.2.1, g_2.2.2.2.2.2.2.2.2.2.2.2.2.2.1, g_2.2.2.2.2.2.2.2.2.2.2.2.2.2.2.1, g_2.2.2.2.2.2.2.2.2.2.2.2.2.2.2.2.1, g_2.2.2.2.2.2.2.2.2.2.2.2.2.2.2.2.2) := by rw [sX4_metres, ← eg_2, sX4_metres_g_2, if_neg c_4, if_neg c_5]
      have er : ((g_2.2.2.2.1 (((2 + (5 * k)) + 1).toNatClampNeg)) * g_2.2.2.2.2.2.2.1.toInt64) / 100 = rX4_metres k z v := by rw [rX4_metres, ← eg_2, rX4_metres_g_2, if_neg c_4, if_neg c_5]
      refine W.lret (v := ((g_2.2.2.2.1 (((2 + (5 * k)) + 1).toNatClampNeg)) * g_2.2.2.2.2.2.2.1.toInt64) / 100) hx hb hr (fun t ht hW => ⟨⟨((g_2.2.2.2.1 (((2 + (5 * k)) + 1).toNatClampNeg)) * g_2.2.2.2.2.2.2.1.toInt64) / 100, (), rfl, er, ?_⟩, hS.F ht⟩) hS.2.2 dX4_metres_52
      rw [es0]; exact ⟨by rw [ht]; exact hP, va_K.moved hW.alike hK, hD⟩
  · refine lv_aload_n hx hb dX4_metres_11 rfl (lv_at hl 0 rfl) ?_
    have hPc := hP.sub (ws' := [cM0 m0 m1 m2 m3 m4 m5 g_2, cM1 cI m1 g_2, cM2 cJ m2 g_2, cM3 cJ m3 g_2, cM4 cI m4 g_2, cM5 cI m5 g_2]) [0, 1, 2, 3, 4, 5] rfl
    have hDc := hD.sub (ws' := [cM0 m0 m1 m2 m3 m4 m5 g_2, cM1 cI m1 g_2, cM2 cJ m2 g_2, cM3 cJ m3 g_2, cM4 cI m4 g_2, cM5 cI m5 g_2]) [0, 1, 2, 3, 4, 5] (by decide) rfl
    have hFc := va_free (wc := [cM0 m0 m1 m2 m3 m4 m5 g_2, cM1 cI m1 g_2, cM2 cJ m2 g_2, cM3 cJ m3 g_2, cM4 cI m4 g_2, cM5 cI m5 g_2]) hD hS hA [0, 1, 2, 3, 4, 5] rfl
    refine va_calli (va_runV (As := []) (rest := []) ⟨hx, hb, hml, hown, hts⟩ (kX4_refuse l dC dI cI cJ m0 m1 m2 m3 m4 m5 H.size g_2) (cwV 0 hts gX4_metres_X4_refuse rfl rfl rfl (by decide +kernel) ⟨Nat.le_of_ble_eq_true rfl, Nat.le_of_ble_eq_true rfl⟩) ⟨fun a U g mk q => by obtain ⟨q0, q1, qP, qK, qD⟩ := q; exact ⟨q0, q1, qP, va_K.moved (u := U) (U := U.calling g mk a) (Vm.Alike.refl U.vm) qK, qD⟩, va_recv hK hPc (ci := 4) (q0 := 0) rfl rfl, fun U hU hW => ⟨rfl, by rw [hU], by rw [hU]; exact hPc, va_K.moved hW.alike hK, hDc.weaken (fun _ _ _ _ => trivial)⟩⟩ rfl rfl hl.1 rfl (lv_room (Nat.le_of_ble_eq_true rfl)) dX4_metres_12 ⟨Nat.le_of_ble_eq_true rfl, Nat.le_of_ble_eq_true rfl⟩) hS (fun q _ h => hFc q h) hFc (fun r_6 _ t H1 locs ht hvm hw hB hz1 hk1 hS => ?_)
    obtain ⟨hP1, hK1, hD1⟩ := hB
    rw [ht] at hP1
    obtain ⟨g_7, eg_7⟩ : ∃ z, z = sX4_refuse g_2 := ⟨_, rfl⟩
    rw [← eg_7] at hP1 hD1
    obtain ⟨hP, hD⟩ := va_join (wr := []) (w1 := [cM0 m0 m1 m2 m3 m4 m5 g_7, cM1 cI m1 g_7, cM2 cJ m2 g_7, cM3 cJ m3 g_7, cM4 cI m4 g_7, cM5 cI m5 g_7]) hP hD [0, 1, 2, 3, 4, 5] [] rfl rfl (by decide) (by decide) hk1 hFc hP1 hD1
    generalize H1 = H at hP hS ⊢
    have hP : va_P (dC, dI) vwCl [cM0 m0 m1 m2 m3 m4 m5 g_7, cM1 cI m1 g_7, cM2 cJ m2 g_7, cM3 cJ m3 g_7, cM4 cI m4 g_7, cM5 cI m5 g_7] H := hP
    have hD : va_D A [cM0 m0 m1 m2 m3 m4 m5 g_7, cM1 cI m1 g_7, cM2 cJ m2 g_7, cM3 cJ m3 g_7, cM4 cI m4 g_7, cM5 cI m5 g_7] := hD
    subst hw
    refine lv_i2l (v := (rX4_refuse g_2).toInt64) hx hb dX4_metres_15 rfl ?_
    have es0 : sX4_metres k z v = g_7 := by rw [sX4_metres, ← eg_2, sX4_metres_g_2, if_pos c_4, ← eg_7, sX4_metres_g_7]
    have er : (rX4_refuse g_2).toInt64 = rX4_metres k z v := by rw [rX4_metres, ← eg_2, rX4_metres_g_2, if_pos c_4, ← eg_7, rX4_metres_g_7]
    refine W.lret (v := (rX4_refuse g_2).toInt64) hx hb hr (fun t ht hW => ⟨⟨(rX4_refuse g_2).toInt64, (), rfl, er, ?_⟩, hS.F ht⟩) hS.2.2 dX4_metres_16
    rw [es0]; exact ⟨by rw [ht]; exact hP, va_K.moved hW.alike hK, hD⟩

def sX4_range_g_2 (z : Int32) (v : MS) (g_2 : MS) : MS :=
  if z = 0 then
    g_2
  else
    g_2
def sX4_range (z : Int32) (v : MS) : MS :=
  sX4_range_g_2 z v (sX4_begin (0, v.2.1, v.2.2.1, v.2.2.2.1, v.2.2.2.2.1, v.2.2.2.2.2.1, v.2.2.2.2.2.2.1, v.2.2.2.2.2.2.2.1, v.2.2.2.2.2.2.2.2.1, v.2.2.2.2.2.2.2.2.2.1, v.2.2.2.2.2.2.2.2.2.2.1, v.2.2.2.2.2.2.2.2.2.2.2.1, v.2.2.2.2.2.2.2.2.2.2.2.2.1, v.2.2.2.2.2.2.2.2.2.2.2.2.2.1, v.2.2.2.2.2.2.2.2.2.2.2.2.2.2.1, v.2.2.2.2.2.2.2.2.2.2.2.2.2.2.2.1, v.2.2.2.2.2.2.2.2.2.2.2.2.2.2.2.2))
def rX4_range_g_2 (z : Int32) (v : MS) (g_2 : MS) : Int32 :=
  if z = 0 then
    ((g_2.2.2.2.1 0) / g_2.2.2.2.2.2.2.2.2.2.2.2.1.toInt64).toInt32
  else
    ((g_2.2.2.2.1 1) / g_2.2.2.2.2.2.2.2.2.2.2.1.toInt64).toInt32
def rX4_range (z : Int32) (v : MS) : Int32 :=
  rX4_range_g_2 z v (sX4_begin (0, v.2.1, v.2.2.1, v.2.2.2.1, v.2.2.2.2.1, v.2.2.2.2.2.1, v.2.2.2.2.2.2.1, v.2.2.2.2.2.2.2.1, v.2.2.2.2.2.2.2.2.1, v.2.2.2.2.2.2.2.2.2.1, v.2.2.2.2.2.2.2.2.2.2.1, v.2.2.2.2.2.2.2.2.2.2.2.1, v.2.2.2.2.2.2.2.2.2.2.2.2.1, v.2.2.2.2.2.2.2.2.2.2.2.2.2.1, v.2.2.2.2.2.2.2.2.2.2.2.2.2.2.1, v.2.2.2.2.2.2.2.2.2.2.2.2.2.2.2.1, v.2.2.2.2.2.2.2.2.2.2.2.2.2.2.2.2))
set_option maxHeartbeats 4000000 in
set_option maxRecDepth 100000 in
theorem kX4_range (l : Launch) (dC : Nat → ClassId) (dI : Nat → Nat → Nat) (cI cJ : ClassId) (m0 m1 m2 m3 m4 m5 : Nat) (sz : Nat) (z : Int32) (v : MS) (hlo : ∀ u : MS, u = sX4_begin (0, v.2) → ¬ u.2.2.2.2.2.2.2.2.2.2.1.toInt64 = 0) (hhi : ∀ u : MS, u = sX4_begin (0, v.2) → ¬ u.2.2.2.2.2.2.2.2.2.2.2.1.toInt64 = 0) : Met l yX4_range wsX4_range ({ frames := 2, cells := 0, slots := 0, locals := 42 }) (va_Pc [.ref m0, .int z] (fun U => U.heap.size = sz ∧ va_P (dC, dI) vwCl [cM0 m0 m1 m2 m3 m4 m5 v, cM1 cI m1 v, cM2 cJ m2 v, cM3 cJ m3 v, cM4 cI m4 v, cM5 cI m5 v] U.heap ∧ va_K (dC, dI) vwCl [(cI, .int), (cJ, .long)] U ∧ va_D (fun _ => True) [cM0 m0 m1 m2 m3 m4 m5 v, cM1 cI m1 v, cM2 cJ m2 v, cM3 cJ m3 v, cM4 cI m4 v, cM5 cI m5 v])) (va_Qi (fun (r : Int32) (_ : Unit) => r = rX4_range z v) (fun _ t => va_P (dC, dI) vwCl [cM0 m0 m1 m2 m3 m4 m5 (sX4_range z v), cM1 cI m1 (sX4_range z v), cM2 cJ m2 (sX4_range z v), cM3 cJ m3 (sX4_range z v), cM4 cI m4 (sX4_range z v), cM5 cI m5 (sX4_range z v)] t.heap ∧ va_K (dC, dI) vwCl [(cI, .int), (cJ, .long)] t ∧ va_D (va_A [cM0 m0 m1 m2 m3 m4 m5 v, cM1 cI m1 v, cM2 cJ m2 v, cM3 cJ m3 v, cM4 cI m4 v, cM5 cI m5 v] sz) [cM0 m0 m1 m2 m3 m4 m5 (sX4_range z v), cM1 cI m1 (sX4_range z v), cM2 cJ m2 (sX4_range z v), cM3 cJ m3 (sX4_range z v), cM4 cI m4 (sX4_range z v), cM5 cI m5 (sX4_range z v)]) (va_A [cM0 m0 m1 m2 m3 m4 m5 v, cM1 cI m1 v, cM2 cJ m2 v, cM3 cJ m3 v, cM4 cI m4 v, cM5 cI m5 v] sz)) 0 0 (va_A [cM0 m0 m1 m2 m3 m4 m5 v, cM1 cI m1 v, cM2 cJ m2 v, cM3 cJ m3 v, cM4 cI m4 v, cM5 cI m5 v] sz) := by
  refine Met.ofW (cc := cX4_range) (maxL := 2) (ret := (some .int)) (by decide) rfl ?_
  intro p e s m args below meth c s₁ B hml hv
  obtain ⟨rfl, hsz, hP, hK, hD0⟩ := hv
  have hx := B.exec
  have hb := B.bytes
  have hr := B.returns
  have hts := atoms_spec (ws := wsX4_range) B.pre
  have hown : s.vm.findClass RX4 = some m.cls := findClass_of_methodNamed B.named
  have hlocks := B.notSynchronized
  have hiX4 : ∀ w ∈ u_ws RX4 TX4 17, w ∈ wsX4_range := by decide +kernel
  subst hsz
  have hD := hD0.self (sz := s.heap.size)
  generalize hAe : va_A [cM0 m0 m1 m2 m3 m4 m5 v, cM1 cI m1 v, cM2 cJ m2 v, cM3 cJ m3 v, cM4 cI m4 v, cM5 cI m5 v] s.heap.size = A at hD ⊢
  have hA : ∀ q : Nat, s.heap.size ≤ q → A q := fun q h => by rw [← hAe]; exact Or.inr h
  have hS : va_S A s.heap s.heap [] := va_S.rf
  have hl := lv_entry ([.ref m0, .int z]) (n := 2) (Nat.le_of_ble_eq_true rfl)
  rw [lg_entry_eq]
  generalize (lg_sl ([.ref m0, .int z]) ++ List.replicate (2 - (lg_sl ([.ref m0, .int z])).length) Slot.unset).toArray = ls at hl ⊢
  have hl : lv_has ls 2 [(0, .ref m0), (1, .int z)] := hl
  have hP : va_P (dC, dI) vwCl [cM0 m0 m1 m2 m3 m4 m5 v, cM1 cI m1 v, cM2 cJ m2 v, cM3 cJ m3 v, cM4 cI m4 v, cM5 cI m5 v] s.heap := hP
  refine lv_aload_n hx hb dX4_range_0 rfl (lv_at hl 0 rfl) ?_
  refine lv_iconst (v := 0) hx hb dX4_range_1 (by decide) ?_
  refine va_put (D := (dC, dI)) (ci := 4) (v := .int 0) (ty := .int) (C := RX4) (T := TX4) (N := 17) hx hb hts hiX4 tyX4 tyX4_ok nmX4 hown hK hP hD hS 0 rfl rfl 0 (by decide) (hts (.fieldLink RX4 49 "TripReckonerModel" "thrown" "I") (by decide +kernel)) (fun _ h9 => h9) rfl (by decide +kernel) rfl rfl (Nat.le_of_ble_eq_true rfl) dX4_range_2 (fun H locs hP hD hS => ?_)
  have hP : va_P (dC, dI) vwCl [(m0, .inr (4, [.int 0, .ref m1, .int v.2.2.1, .ref m2, .ref m3, .int v.2.2.2.2.2.1, .int v.2.2.2.2.2.2.1, .int v.2.2.2.2.2.2.2.1, .int v.2.2.2.2.2.2.2.2.1, .int v.2.2.2.2.2.2.2.2.2.1, .int v.2.2.2.2.2.2.2.2.2.2.1, .int v.2.2.2.2.2.2.2.2.2.2.2.1, .long v.2.2.2.2.2.2.2.2.2.2.2.2.1, .int v.2.2.2.2.2.2.2.2.2.2.2.2.2.1, .ref m4, .ref m5, .int v.2.2.2.2.2.2.2.2.2.2.2.2.2.2.2.2])), (m1, .inl (cI, 60, .inl v.2.1)), (m2, .inl (cJ, 92, .inr (.inl v.2.2.2.1))), (m3, .inl (cJ, 92, .inr (.inl v.2.2.2.2.1))), (m4, .inl (cI, 1573, .inl v.2.2.2.2.2.2.2.2.2.2.2.2.2.2.1)), (m5, .inl (cI, 12, .inl v.2.2.2.2.2.2.2.2.2.2.2.2.2.2.2.1))] H := hP
  have hD : va_D A [(m0, .inr (4, [.int 0, .ref m1, .int v.2.2.1, .ref m2, .ref m3, .int v.2.2.2.2.2.1, .int v.2.2.2.2.2.2.1, .int v.2.2.2.2.2.2.2.1, .int v.2.2.2.2.2.2.2.2.1, .int v.2.2.2.2.2.2.2.2.2.1, .int v.2.2.2.2.2.2.2.2.2.2.1, .int v.2.2.2.2.2.2.2.2.2.2.2.1, .long v.2.2.2.2.2.2.2.2.2.2.2.2.1, .int v.2.2.2.2.2.2.2.2.2.2.2.2.2.1, .ref m4, .ref m5, .int v.2.2.2.2.2.2.2.2.2.2.2.2.2.2.2.2])), (m1, .inl (cI, 60, .inl v.2.1)), (m2, .inl (cJ, 92, .inr (.inl v.2.2.2.1))), (m3, .inl (cJ, 92, .inr (.inl v.2.2.2.2.1))), (m4, .inl (cI, 1573, .inl v.2.2.2.2.2.2.2.2.2.2.2.2.2.2.1)), (m5, .inl (cI, 12, .inl v.2.2.2.2.2.2.2.2.2.2.2.2.2.2.2.1))] := hD
  refine lv_aload_n hx hb dX4_range_5 rfl (lv_at hl 0 rfl) ?_
  have hPc := hP.sub (ws' := [(m0, .inr (4, [.int 0, .ref m1, .int v.2.2.1, .ref m2, .ref m3, .int v.2.2.2.2.2.1, .int v.2.2.2.2.2.2.1, .int v.2.2.2.2.2.2.2.1, .int v.2.2.2.2.2.2.2.2.1, .int v.2.2.2.2.2.2.2.2.2.1, .int v.2.2.2.2.2.2.2.2.2.2.1, .int v.2.2.2.2.2.2.2.2.2.2.2.1, .long v.2.2.2.2.2.2.2.2.2.2.2.2.1, .int v.2.2.2.2.2.2.2.2.2.2.2.2.2.1, .ref m4, .ref m5, .int v.2.2.2.2.2.2.2.2.2.2.2.2.2.2.2.2])), (m1, .inl (cI, 60, .inl v.2.1)), (m2, .inl (cJ, 92, .inr (.inl v.2.2.2.1))), (m3, .inl (cJ, 92, .inr (.inl v.2.2.2.2.1))), (m4, .inl (cI, 1573, .inl v.2.2.2.2.2.2.2.2.2.2.2.2.2.2.1)), (m5, .inl (cI, 12, .inl v.2.2.2.2.2.2.2.2.2.2.2.2.2.2.2.1))]) [0, 1, 2, 3, 4, 5] rfl
  have hDc := hD.sub (ws' := [(m0, .inr (4, [.int 0, .ref m1, .int v.2.2.1, .ref m2, .ref m3, .int v.2.2.2.2.2.1, .int v.2.2.2.2.2.2.1, .int v.2.2.2.2.2.2.2.1, .int v.2.2.2.2.2.2.2.2.1, .int v.2.2.2.2.2.2.2.2.2.1, .int v.2.2.2.2.2.2.2.2.2.2.1, .int v.2.2.2.2.2.2.2.2.2.2.2.1, .long v.2.2.2.2.2.2.2.2.2.2.2.2.1, .int v.2.2.2.2.2.2.2.2.2.2.2.2.2.1, .ref m4, .ref m5, .int v.2.2.2.2.2.2.2.2.2.2.2.2.2.2.2.2])), (m1, .inl (cI, 60, .inl v.2.1)), (m2, .inl (cJ, 92, .inr (.inl v.2.2.2.1))), (m3, .inl (cJ, 92, .inr (.inl v.2.2.2.2.1))), (m4, .inl (cI, 1573, .inl v.2.2.2.2.2.2.2.2.2.2.2.2.2.2.1)), (m5, .inl (cI, 12, .inl v.2.2.2.2.2.2.2.2.2.2.2.2.2.2.2.1))]) [0, 1, 2, 3, 4, 5] (by decide) rfl
  have hFc := va_free (wc := [(m0, .inr (4, [.int 0, .ref m1, .int v.2.2.1, .ref m2, .ref m3, .int v.2.2.2.2.2.1, .int v.2.2.2.2.2.2.1, .int v.2.2.2.2.2.2.2.1, .int v.2.2.2.2.2.2.2.2.1, .int v.2.2.2.2.2.2.2.2.2.1, .int v.2.2.2.2.2.2.2.2.2.2.1, .int v.2.2.2.2.2.2.2.2.2.2.2.1, .long v.2.2.2.2.2.2.2.2.2.2.2.2.1, .int v.2.2.2.2.2.2.2.2.2.2.2.2.2.1, .ref m4, .ref m5, .int v.2.2.2.2.2.2.2.2.2.2.2.2.2.2.2.2])), (m1, .inl (cI, 60, .inl v.2.1)), (m2, .inl (cJ, 92, .inr (.inl v.2.2.2.1))), (m3, .inl (cJ, 92, .inr (.inl v.2.2.2.2.1))), (m4, .inl (cI, 1573, .inl v.2.2.2.2.2.2.2.2.2.2.2.2.2.2.1)), (m5, .inl (cI, 12, .inl v.2.2.2.2.2.2.2.2.2.2.2.2.2.2.2.1))]) hD hS hA [0, 1, 2, 3, 4, 5] rfl
  refine va_callv (va_runV (As := []) (rest := []) ⟨hx, hb, hml, hown, hts⟩ (kX4_begin l dC dI cI cJ m0 m1 m2 m3 m4 m5 H.size (0, v.2.1, v.2.2.1, v.2.2.2.1, v.2.2.2.2.1, v.2.2.2.2.2.1, v.2.2.2.2.2.2.1, v.2.2.2.2.2.2.2.1, v.2.2.2.2.2.2.2.2.1, v.2.2.2.2.2.2.2.2.2.1, v.2.2.2.2.2.2.2.2.2.2.1, v.2.2.2.2.2.2.2.2.2.2.2.1, v.2.2.2.2.2.2.2.2.2.2.2.2.1, v.2.2.2.2.2.2.2.2.2.2.2.2.2.1, v.2.2.2.2.2.2.2.2.2.2.2.2.2.2.1, v.2.2.2.2.2.2.2.2.2.2.2.2.2.2.2.1, v.2.2.2.2.2.2.2.2.2.2.2.2.2.2.2.2)) (cwV 0 hts gX4_range_X4_begin rfl rfl rfl (by decide +kernel) ⟨Nat.le_of_ble_eq_true rfl, Nat.le_of_ble_eq_true rfl⟩) ⟨fun a U g mk q => by obtain ⟨q0, q1, qP, qK, qD⟩ := q; exact ⟨q0, q1, qP, va_K.moved (u := U) (U := U.calling g mk a) (Vm.Alike.refl U.vm) qK, qD⟩, va_recv hK hPc (ci := 4) (q0 := 0) rfl rfl, fun U hU hW => ⟨rfl, by rw [hU], by rw [hU]; exact hPc, va_K.moved hW.alike hK, hDc.weaken (fun _ _ _ _ => trivial)⟩⟩ rfl rfl hl.1 rfl (lv_room (Nat.le_of_ble_eq_true rfl)) dX4_range_6 ⟨Nat.le_of_ble_eq_true rfl, Nat.le_of_ble_eq_true rfl⟩) hS (fun q _ h => hFc q h) hFc (fun _ t H1 locs ht hvm hw hB hz1 hk1 hS => ?_)
  obtain ⟨hP1, hK1, hD1⟩ := hB
  rw [ht] at hP1
  obtain ⟨g_2, eg_2⟩ : ∃ z, z = sX4_begin (0, v.2.1, v.2.2.1, v.2.2.2.1, v.2.2.2.2.1, v.2.2.2.2.2.1, v.2.2.2.2.2.2.1, v.2.2.2.2.2.2.2.1, v.2.2.2.2.2.2.2.2.1, v.2.2.2.2.2.2.2.2.2.1, v.2.2.2.2.2.2.2.2.2.2.1, v.2.2.2.2.2.2.2.2.2.2.2.1, v.2.2.2.2.2.2.2.2.2.2.2.2.1, v.2.2.2.2.2.2.2.2.2.2.2.2.2.1, v.2.2.2.2.2.2.2.2.2.2.2.2.2.2.1, v.2.2.2.2.2.2.2.2.2.2.2.2.2.2.2.1, v.2.2.2.2.2.2.2.2.2.2.2.2.2.2.2.2) := ⟨_, rfl⟩
  rw [← eg_2] at hP1 hD1
  obtain ⟨hP, hD⟩ := va_join (wr := []) (w1 := [cM0 m0 m1 m2 m3 m4 m5 g_2, cM1 cI m1 g_2, cM2 cJ m2 g_2, cM3 cJ m3 g_2, cM4 cI m4 g_2, cM5 cI m5 g_2]) hP hD [0, 1, 2, 3, 4, 5] [] rfl rfl (by decide) (by decide) hk1 hFc hP1 hD1
  generalize H1 = H at hP hS ⊢
  have hP : va_P (dC, dI) vwCl [cM0 m0 m1 m2 m3 m4 m5 g_2, cM1 cI m1 g_2, cM2 cJ m2 g_2, cM3 cJ m3 g_2, cM4 cI m4 g_2, cM5 cI m5 g_2] H := hP
  have hD : va_D A [cM0 m0 m1 m2 m3 m4 m5 g_2, cM1 cI m1 g_2, cM2 cJ m2 g_2, cM3 cJ m3 g_2, cM4 cI m4 g_2, cM5 cI m5 g_2] := hD
  refine lv_iload_n hx hb dX4_range_9 rfl (lv_at hl 1 rfl) ?_
  refine lv_if_eq (tgt := 28) hx hb dX4_range_10 (by decide) (fun c_3 => ?_) (fun c_3 => ?_)
  · refine lv_aload_n hx hb dX4_range_28 rfl (lv_at hl 0 rfl) ?_
    refine va_get (D := (dC, dI)) (ci := 4) (v := .ref m2) (C := RX4) (T := TX4) (N := 17) hx hb hts hiX4 hown hK hP 0 rfl rfl 3 (by decide) (hts (.fieldLink RX4 13 "TripReckonerModel" "now" "[J") (by decide +kernel)) (fun _ h9 => h9) rfl dX4_range_29 ?_
    refine lv_iconst (v := 0) hx hb dX4_range_32 (by decide) ?_
    refine va_lald hx hb hK hP 2 1 rfl rfl (vd (by decide +kernel)) dX4_range_33 ?_
    refine lv_topl (fun z_4 ez_4 => ?_)
    have ez_4 : z_4 = g_2.2.2.2.1 0 := ez_4
    subst ez_4
    refine lv_aload_n hx hb dX4_range_34 rfl (lv_at hl 0 rfl) ?_
    refine va_get (D := (dC, dI)) (ci := 4) (v := .int g_2.2.2.2.2.2.2.2.2.2.2.2.1) (C := RX4) (T := TX4) (N := 17) hx hb hts hiX4 hown hK hP 0 rfl rfl 11 (by decide) (hts (.fieldLink RX4 40 "TripReckonerModel" "high" "I") (by decide +kernel)) (fun _ h9 => h9) rfl dX4_range_35 ?_
    refine lv_i2l (v := g_2.2.2.2.2.2.2.2.2.2.2.2.1.toInt64) hx hb dX4_range_38 rfl ?_
    refine lv_ldiv hx hb dX4_range_39 (hhi _ eg_2) ?_
    refine lv_l2i (v := ((g_2.2.2.2.1 0) / g_2.2.2.2.2.2.2.2.2.2.2.2.1.toInt64).toInt32) hx hb dX4_range_40 rfl ?_
    have es0 : sX4_range z v = g_2 := by rw [sX4_range, ← eg_2, sX4_range_g_2, if_pos c_3]
    have er : ((g_2.2.2.2.1 0) / g_2.2.2.2.2.2.2.2.2.2.2.2.1.toInt64).toInt32 = rX4_range z v := by rw [rX4_range, ← eg_2, rX4_range_g_2, if_pos c_3]
    refine W.iret (v := ((g_2.2.2.2.1 0) / g_2.2.2.2.2.2.2.2.2.2.2.2.1.toInt64).toInt32) hx hb hr (fun t ht hW => ⟨⟨((g_2.2.2.2.1 0) / g_2.2.2.2.2.2.2.2.2.2.2.2.1.toInt64).toInt32, (), rfl, er, ?_⟩, hS.F ht⟩) hS.2.2 dX4_range_41
    rw [es0]; exact ⟨by rw [ht]; exact hP, va_K.moved hW.alike hK, hD⟩
  · refine lv_aload_n hx hb dX4_range_13 rfl (lv_at hl 0 rfl) ?_
    refine va_get (D := (dC, dI)) (ci := 4) (v := .ref m2) (C := RX4) (T := TX4) (N := 17) hx hb hts hiX4 hown hK hP 0 rfl rfl 3 (by decide) (hts (.fieldLink RX4 13 "TripReckonerModel" "now" "[J") (by decide +kernel)) (fun _ h9 => h9) rfl dX4_range_14 ?_
    refine lv_iconst (v := 1) hx hb dX4_range_17 (by decide) ?_
    refine va_lald hx hb hK hP 2 1 rfl rfl (vd (by decide +kernel)) dX4_range_18 ?_
    refine lv_topl (fun z_5 ez_5 => ?_)
    have ez_5 : z_5 = g_2.2.2.2.1 1 := ez_5
    subst ez_5
    refine lv_aload_n hx hb dX4_range_19 rfl (lv_at hl 0 rfl) ?_
    refine va_get (D := (dC, dI)) (ci := 4) (v := .int g_2.2.2.2.2.2.2.2.2.2.2.1) (C := RX4) (T := TX4) (N := 17) hx hb hts hiX4 hown hK hP 0 rfl rfl 10 (by decide) (hts (.fieldLink RX4 37 "TripReckonerModel" "low" "I") (by decide +kernel)) (fun _ h9 => h9) rfl dX4_range_20 ?_
    refine lv_i2l (v := g_2.2.2.2.2.2.2.2.2.2.2.1.toInt64) hx hb dX4_range_23 rfl ?_
    refine lv_ldiv hx hb dX4_range_24 (hlo _ eg_2) ?_
    refine lv_goto (tgt := 40) hx hb dX4_range_25 (by decide) ?_
    refine lv_l2i (v := ((g_2.2.2.2.1 1) / g_2.2.2.2.2.2.2.2.2.2.2.1.toInt64).toInt32) hx hb dX4_range_40 rfl ?_
    have es0 : sX4_range z v = g_2 := by rw [sX4_range, ← eg_2, sX4_range_g_2, if_neg c_3]
    have er : ((g_2.2.2.2.1 1) / g_2.2.2.2.2.2.2.2.2.2.2.1.toInt64).toInt32 = rX4_range z v := by rw [rX4_range, ← eg_2, rX4_range_g_2, if_neg c_3]
    refine W.iret (v := ((g_2.2.2.2.1 1) / g_2.2.2.2.2.2.2.2.2.2.2.1.toInt64).toInt32) hx hb hr (fun t ht hW => ⟨⟨((g_2.2.2.2.1 1) / g_2.2.2.2.2.2.2.2.2.2.2.1.toInt64).toInt32, (), rfl, er, ?_⟩, hS.F ht⟩) hS.2.2 dX4_range_41
    rw [es0]; exact ⟨by rw [ht]; exact hP, va_K.moved hW.alike hK, hD⟩

def sX4_shown_g_2 (v : MS) (g_2 : MS) : MS :=
  g_2
def sX4_shown (v : MS) : MS :=
  sX4_shown_g_2 v (sX4_begin (0, v.2.1, v.2.2.1, v.2.2.2.1, v.2.2.2.2.1, v.2.2.2.2.2.1, v.2.2.2.2.2.2.1, v.2.2.2.2.2.2.2.1, v.2.2.2.2.2.2.2.2.1, v.2.2.2.2.2.2.2.2.2.1, v.2.2.2.2.2.2.2.2.2.2.1, v.2.2.2.2.2.2.2.2.2.2.2.1, v.2.2.2.2.2.2.2.2.2.2.2.2.1, v.2.2.2.2.2.2.2.2.2.2.2.2.2.1, v.2.2.2.2.2.2.2.2.2.2.2.2.2.2.1, v.2.2.2.2.2.2.2.2.2.2.2.2.2.2.2.1, v.2.2.2.2.2.2.2.2.2.2.2.2.2.2.2.2))
def rX4_shown_g_2 (v : MS) (g_2 : MS) : Int32 :=
  (g_2.2.2.2.1 25).toInt32
def rX4_shown (v : MS) : Int32 :=
  rX4_shown_g_2 v (sX4_begin (0, v.2.1, v.2.2.1, v.2.2.2.1, v.2.2.2.2.1, v.2.2.2.2.2.1, v.2.2.2.2.2.2.1, v.2.2.2.2.2.2.2.1, v.2.2.2.2.2.2.2.2.1, v.2.2.2.2.2.2.2.2.2.1, v.2.2.2.2.2.2.2.2.2.2.1, v.2.2.2.2.2.2.2.2.2.2.2.1, v.2.2.2.2.2.2.2.2.2.2.2.2.1, v.2.2.2.2.2.2.2.2.2.2.2.2.2.1, v.2.2.2.2.2.2.2.2.2.2.2.2.2.2.1, v.2.2.2.2.2.2.2.2.2.2.2.2.2.2.2.1, v.2.2.2.2.2.2.2.2.2.2.2.2.2.2.2.2))
set_option maxHeartbeats 4000000 in
set_option maxRecDepth 100000 in
theorem kX4_shown (l : Launch) (dC : Nat → ClassId) (dI : Nat → Nat → Nat) (cI cJ : ClassId) (m0 m1 m2 m3 m4 m5 : Nat) (sz : Nat)  (v : MS) : Met l yX4_shown wsX4_shown ({ frames := 2, cells := 0, slots := 0, locals := 42 }) (va_Pc [.ref m0] (fun U => U.heap.size = sz ∧ va_P (dC, dI) vwCl [cM0 m0 m1 m2 m3 m4 m5 v, cM1 cI m1 v, cM2 cJ m2 v, cM3 cJ m3 v, cM4 cI m4 v, cM5 cI m5 v] U.heap ∧ va_K (dC, dI) vwCl [(cI, .int), (cJ, .long)] U ∧ va_D (fun _ => True) [cM0 m0 m1 m2 m3 m4 m5 v, cM1 cI m1 v, cM2 cJ m2 v, cM3 cJ m3 v, cM4 cI m4 v, cM5 cI m5 v])) (va_Qi (fun (r : Int32) (_ : Unit) => r = rX4_shown v) (fun _ t => va_P (dC, dI) vwCl [cM0 m0 m1 m2 m3 m4 m5 (sX4_shown v), cM1 cI m1 (sX4_shown v), cM2 cJ m2 (sX4_shown v), cM3 cJ m3 (sX4_shown v), cM4 cI m4 (sX4_shown v), cM5 cI m5 (sX4_shown v)] t.heap ∧ va_K (dC, dI) vwCl [(cI, .int), (cJ, .long)] t ∧ va_D (va_A [cM0 m0 m1 m2 m3 m4 m5 v, cM1 cI m1 v, cM2 cJ m2 v, cM3 cJ m3 v, cM4 cI m4 v, cM5 cI m5 v] sz) [cM0 m0 m1 m2 m3 m4 m5 (sX4_shown v), cM1 cI m1 (sX4_shown v), cM2 cJ m2 (sX4_shown v), cM3 cJ m3 (sX4_shown v), cM4 cI m4 (sX4_shown v), cM5 cI m5 (sX4_shown v)]) (va_A [cM0 m0 m1 m2 m3 m4 m5 v, cM1 cI m1 v, cM2 cJ m2 v, cM3 cJ m3 v, cM4 cI m4 v, cM5 cI m5 v] sz)) 0 0 (va_A [cM0 m0 m1 m2 m3 m4 m5 v, cM1 cI m1 v, cM2 cJ m2 v, cM3 cJ m3 v, cM4 cI m4 v, cM5 cI m5 v] sz) := by
  refine Met.ofW (cc := cX4_shown) (maxL := 1) (ret := (some .int)) (by decide) rfl ?_
  intro p e s m args below meth c s₁ B hml hv
  obtain ⟨rfl, hsz, hP, hK, hD0⟩ := hv
  have hx := B.exec
  have hb := B.bytes
  have hr := B.returns
  have hts := atoms_spec (ws := wsX4_shown) B.pre
  have hown : s.vm.findClass RX4 = some m.cls := findClass_of_methodNamed B.named
  have hlocks := B.notSynchronized
  have hiX4 : ∀ w ∈ u_ws RX4 TX4 17, w ∈ wsX4_shown := by decide +kernel
  subst hsz
  have hD := hD0.self (sz := s.heap.size)
  generalize hAe : va_A [cM0 m0 m1 m2 m3 m4 m5 v, cM1 cI m1 v, cM2 cJ m2 v, cM3 cJ m3 v, cM4 cI m4 v, cM5 cI m5 v] s.heap.size = A at hD ⊢
  have hA : ∀ q : Nat, s.heap.size ≤ q → A q := fun q h => by rw [← hAe]; exact Or.inr h
  have hS : va_S A s.heap s.heap [] := va_S.rf
  have hl := lv_entry ([.ref m0]) (n := 1) (Nat.le_of_ble_eq_true rfl)
  rw [lg_entry_eq]
  generalize (lg_sl ([.ref m0]) ++ List.replicate (1 - (lg_sl ([.ref m0])).length) Slot.unset).toArray = ls at hl ⊢
  have hl : lv_has ls 1 [(0, .ref m0)] := hl
  have hP : va_P (dC, dI) vwCl [cM0 m0 m1 m2 m3 m4 m5 v, cM1 cI m1 v, cM2 cJ m2 v, cM3 cJ m3 v, cM4 cI m4 v, cM5 cI m5 v] s.heap := hP
  refine lv_aload_n hx hb dX4_shown_0 rfl (lv_at hl 0 rfl) ?_
  refine lv_iconst (v := 0) hx hb dX4_shown_1 (by decide) ?_
  refine va_put (D := (dC, dI)) (ci := 4) (v := .int 0) (ty := .int) (C := RX4) (T := TX4) (N := 17) hx hb hts hiX4 tyX4 tyX4_ok nmX4 hown hK hP hD hS 0 rfl rfl 0 (by decide) (hts (.fieldLink RX4 49 "TripReckonerModel" "thrown" "I") (by decide +kernel)) (fun _ h9 => h9) rfl (by decide +kernel) rfl rfl (Nat.le_of_ble_eq_true rfl) dX4_shown_2 (fun H locs hP hD hS => ?_)
  have hP : va_P (dC, dI) vwCl [(m0, .inr (4, [.int 0, .ref m1, .int v.2.2.1, .ref m2, .ref m3, .int v.2.2.2.2.2.1, .int v.2.2.2.2.2.2.1, .int v.2.2.2.2.2.2.2.1, .int v.2.2.2.2.2.2.2.2.1, .int v.2.2.2.2.2.2.2.2.2.1, .int v.2.2.2.2.2.2.2.2.2.2.1, .int v.2.2.2.2.2.2.2.2.2.2.2.1, .long v.2.2.2.2.2.2.2.2.2.2.2.2.1, .int v.2.2.2.2.2.2.2.2.2.2.2.2.2.1, .ref m4, .ref m5, .int v.2.2.2.2.2.2.2.2.2.2.2.2.2.2.2.2])), (m1, .inl (cI, 60, .inl v.2.1)), (m2, .inl (cJ, 92, .inr (.inl v.2.2.2.1))), (m3, .inl (cJ, 92, .inr (.inl v.2.2.2.2.1))), (m4, .inl (cI, 1573, .inl v.2.2.2.2.2.2.2.2.2.2.2.2.2.2.1)), (m5, .inl (cI, 12, .inl v.2.2.2.2.2.2.2.2.2.2.2.2.2.2.2.1))] H := hP
  have hD : va_D A [(m0, .inr (4, [.int 0, .ref m1, .int v.2.2.1, .ref m2, .ref m3, .int v.2.2.2.2.2.1, .int v.2.2.2.2.2.2.1, .int v.2.2.2.2.2.2.2.1, .int v.2.2.2.2.2.2.2.2.1, .int v.2.2.2.2.2.2.2.2.2.1, .int v.2.2.2.2.2.2.2.2.2.2.1, .int v.2.2.2.2.2.2.2.2.2.2.2.1, .long v.2.2.2.2.2.2.2.2.2.2.2.2.1, .int v.2.2.2.2.2.2.2.2.2.2.2.2.2.1, .ref m4, .ref m5, .int v.2.2.2.2.2.2.2.2.2.2.2.2.2.2.2.2])), (m1, .inl (cI, 60, .inl v.2.1)), (m2, .inl (cJ, 92, .inr (.inl v.2.2.2.1))), (m3, .inl (cJ, 92, .inr (.inl v.2.2.2.2.1))), (m4, .inl (cI, 1573, .inl v.2.2.2.2.2.2.2.2.2.2.2.2.2.2.1)), (m5, .inl (cI, 12, .inl v.2.2.2.2.2.2.2.2.2.2.2.2.2.2.2.1))] := hD
  refine lv_aload_n hx hb dX4_shown_5 rfl (lv_at hl 0 rfl) ?_
  have hPc := hP.sub (ws' := [(m0, .inr (4, [.int 0, .ref m1, .int v.2.2.1, .ref m2, .ref m3, .int v.2.2.2.2.2.1, .int v.2.2.2.2.2.2.1, .int v.2.2.2.2.2.2.2.1, .int v.2.2.2.2.2.2.2.2.1, .int v.2.2.2.2.2.2.2.2.2.1, .int v.2.2.2.2.2.2.2.2.2.2.1, .int v.2.2.2.2.2.2.2.2.2.2.2.1, .long v.2.2.2.2.2.2.2.2.2.2.2.2.1, .int v.2.2.2.2.2.2.2.2.2.2.2.2.2.1, .ref m4, .ref m5, .int v.2.2.2.2.2.2.2.2.2.2.2.2.2.2.2.2])), (m1, .inl (cI, 60, .inl v.2.1)), (m2, .inl (cJ, 92, .inr (.inl v.2.2.2.1))), (m3, .inl (cJ, 92, .inr (.inl v.2.2.2.2.1))), (m4, .inl (cI, 1573, .inl v.2.2.2.2.2.2.2.2.2.2.2.2.2.2.1)), (m5, .inl (cI, 12, .inl v.2.2.2.2.2.2.2.2.2.2.2.2.2.2.2.1))]) [0, 1, 2, 3, 4, 5] rfl
  have hDc := hD.sub (ws' := [(m0, .inr (4, [.int 0, .ref m1, .int v.2.2.1, .ref m2, .ref m3, .int v.2.2.2.2.2.1, .int v.2.2.2.2.2.2.1, .int v.2.2.2.2.2.2.2.1, .int v.2.2.2.2.2.2.2.2.1, .int v.2.2.2.2.2.2.2.2.2.1, .int v.2.2.2.2.2.2.2.2.2.2.1, .int v.2.2.2.2.2.2.2.2.2.2.2.1, .long v.2.2.2.2.2.2.2.2.2.2.2.2.1, .int v.2.2.2.2.2.2.2.2.2.2.2.2.2.1, .ref m4, .ref m5, .int v.2.2.2.2.2.2.2.2.2.2.2.2.2.2.2.2])), (m1, .inl (cI, 60, .inl v.2.1)), (m2, .inl (cJ, 92, .inr (.inl v.2.2.2.1))), (m3, .inl (cJ, 92, .inr (.inl v.2.2.2.2.1))), (m4, .inl (cI, 1573, .inl v.2.2.2.2.2.2.2.2.2.2.2.2.2.2.1)), (m5, .inl (cI, 12, .inl v.2.2.2.2.2.2.2.2.2.2.2.2.2.2.2.1))]) [0, 1, 2, 3, 4, 5] (by decide) rfl
  have hFc := va_free (wc := [(m0, .inr (4, [.int 0, .ref m1, .int v.2.2.1, .ref m2, .ref m3, .int v.2.2.2.2.2.1, .int v.2.2.2.2.2.2.1, .int v.2.2.2.2.2.2.2.1, .int v.2.2.2.2.2.2.2.2.1, .int v.2.2.2.2.2.2.2.2.2.1, .int v.2.2.2.2.2.2.2.2.2.2.1, .int v.2.2.2.2.2.2.2.2.2.2.2.1, .long v.2.2.2.2.2.2.2.2.2.2.2.2.1, .int v.2.2.2.2.2.2.2.2.2.2.2.2.2.1, .ref m4, .ref m5, .int v.2.2.2.2.2.2.2.2.2.2.2.2.2.2.2.2])), (m1, .inl (cI, 60, .inl v.2.1)), (m2, .inl (cJ, 92, .inr (.inl v.2.2.2.1))), (m3, .inl (cJ, 92, .inr (.inl v.2.2.2.2.1))), (m4, .inl (cI, 1573, .inl v.2.2.2.2.2.2.2.2.2.2.2.2.2.2.1)), (m5, .inl (cI, 12, .inl v.2.2.2.2.2.2.2.2.2.2.2.2.2.2.2.1))]) hD hS hA [0, 1, 2, 3, 4, 5] rfl
  refine va_callv (va_runV (As := []) (rest := []) ⟨hx, hb, hml, hown, hts⟩ (kX4_begin l dC dI cI cJ m0 m1 m2 m3 m4 m5 H.size (0, v.2.1, v.2.2.1, v.2.2.2.1, v.2.2.2.2.1, v.2.2.2.2.2.1, v.2.2.2.2.2.2.1, v.2.2.2.2.2.2.2.1, v.2.2.2.2.2.2.2.2.1, v.2.2.2.2.2.2.2.2.2.1, v.2.2.2.2.2.2.2.2.2.2.1, v.2.2.2.2.2.2.2.2.2.2.2.1, v.2.2.2.2.2.2.2.2.2.2.2.2.1, v.2.2.2.2.2.2.2.2.2.2.2.2.2.1, v.2.2.2.2.2.2.2.2.2.2.2.2.2.2.1, v.2.2.2.2.2.2.2.2.2.2.2.2.2.2.2.1, v.2.2.2.2.2.2.2.2.2.2.2.2.2.2.2.2)) (cwV 0 hts gX4_shown_X4_begin rfl rfl rfl (by decide +kernel) ⟨Nat.le_of_ble_eq_true rfl, Nat.le_of_ble_eq_true rfl⟩) ⟨fun a U g mk q => by obtain ⟨q0, q1, qP, qK, qD⟩ := q; exact ⟨q0, q1, qP, va_K.moved (u := U) (U := U.calling g mk a) (Vm.Alike.refl U.vm) qK, qD⟩, va_recv hK hPc (ci := 4) (q0 := 0) rfl rfl, fun U hU hW => ⟨rfl, by rw [hU], by rw [hU]; exact hPc, va_K.moved hW.alike hK, hDc.weaken (fun _ _ _ _ => trivial)⟩⟩ rfl rfl hl.1 rfl (lv_room (Nat.le_of_ble_eq_true rfl)) dX4_shown_6 ⟨Nat.le_of_ble_eq_true rfl, Nat.le_of_ble_eq_true rfl⟩) hS (fun q _ h => hFc q h) hFc (fun _ t H1 locs ht hvm hw hB hz1 hk1 hS => ?_)
  obtain ⟨hP1, hK1, hD1⟩ := hB
  rw [ht] at hP1
  obtain ⟨g_2, eg_2⟩ : ∃ z, z = sX4_begin (0, v.2.1, v.2.2.1, v.2.2.2.1, v.2.2.2.2.1, v.2.2.2.2.2.1, v.2.2.2.2.2.2.1, v.2.2.2.2.2.2.2.1, v.2.2.2.2.2.2.2.2.1, v.2.2.2.2.2.2.2.2.2.1, v.2.2.2.2.2.2.2.2.2.2.1, v.2.2.2.2.2.2.2.2.2.2.2.1, v.2.2.2.2.2.2.2.2.2.2.2.2.1, v.2.2.2.2.2.2.2.2.2.2.2.2.2.1, v.2.2.2.2.2.2.2.2.2.2.2.2.2.2.1, v.2.2.2.2.2.2.2.2.2.2.2.2.2.2.2.1, v.2.2.2.2.2.2.2.2.2.2.2.2.2.2.2.2) := ⟨_, rfl⟩
  rw [← eg_2] at hP1 hD1
  obtain ⟨hP, hD⟩ := va_join (wr := []) (w1 := [cM0 m0 m1 m2 m3 m4 m5 g_2, cM1 cI m1 g_2, cM2 cJ m2 g_2, cM3 cJ m3 g_2, cM4 cI m4 g_2, cM5 cI m5 g_2]) hP hD [0, 1, 2, 3, 4, 5] [] rfl rfl (by decide) (by decide) hk1 hFc hP1 hD1
  generalize H1 = H at hP hS ⊢
  have hP : va_P (dC, dI) vwCl [cM0 m0 m1 m2 m3 m4 m5 g_2, cM1 cI m1 g_2, cM2 cJ m2 g_2, cM3 cJ m3 g_2, cM4 cI m4 g_2, cM5 cI m5 g_2] H := hP
  have hD : va_D A [cM0 m0 m1 m2 m3 m4 m5 g_2, cM1 cI m1 g_2, cM2 cJ m2 g_2, cM3 cJ m3 g_2, cM4 cI m4 g_2, cM5 cI m5 g_2] := hD
  refine lv_aload_n hx hb dX4_shown_9 rfl (lv_at hl 0 rfl) ?_
  refine va_get (D := (dC, dI)) (ci := 4) (v := .ref m2) (C := RX4) (T := TX4) (N := 17) hx hb hts hiX4 hown hK hP 0 rfl rfl 3 (by decide) (hts (.fieldLink RX4 13 "TripReckonerModel" "now" "[J") (by decide +kernel)) (fun _ h9 => h9) rfl dX4_shown_10 ?_
  refine lv_bipush (v := 25) hx hb dX4_shown_13 (by decide) ?_
  refine va_lald hx hb hK hP 2 1 rfl rfl (vd (by decide +kernel)) dX4_shown_15 ?_
  refine lv_topl (fun z_3 ez_3 => ?_)
  have ez_3 : z_3 = g_2.2.2.2.1 25 := ez_3
  subst ez_3
  refine lv_l2i (v := (g_2.2.2.2.1 25).toInt32) hx hb dX4_shown_16 rfl ?_
  have es0 : sX4_shown v = g_2 := by rw [sX4_shown, ← eg_2, sX4_shown_g_2]
  have er : (g_2.2.2.2.1 25).toInt32 = rX4_shown v := by rw [rX4_shown, ← eg_2, rX4_shown_g_2]
  refine W.iret (v := (g_2.2.2.2.1 25).toInt32) hx hb hr (fun t ht hW => ⟨⟨(g_2.2.2.2.1 25).toInt32, (), rfl, er, ?_⟩, hS.F ht⟩) hS.2.2 dX4_shown_17
  rw [es0]; exact ⟨by rw [ht]; exact hP, va_K.moved hW.alike hK, hD⟩

def sX4_refill_g_5 (k : Int32) (z : Int32) (v : MS) (g_2 : MS) (g_5 : MS) : MS :=
  g_5
def sX4_refill_g_9 (k : Int32) (z : Int32) (v : MS) (g_2 : MS) (g_9 : MS) : MS :=
  g_9
def sX4_refill_g_15 (k : Int32) (z : Int32) (v : MS) (g_2 : MS) (g_15 : MS) : MS :=
  g_15
def sX4_refill_g_2 (k : Int32) (z : Int32) (v : MS) (g_2 : MS) : MS :=
  if k < 0 then
    sX4_refill_g_5 k z v g_2 (sX4_refuse g_2)
  else
    if 0 ≤ (lg_cmp k.toInt64 (g_2.2.2.2.1 22)) then
      sX4_refill_g_9 k z v g_2 (sX4_refuse g_2)
    else
      if 0 ≤ (lg_cmp k.toInt64 ((g_2.2.2.2.1 22) - 30)) then
        if z = 0 then
          (0, g_2.2.1, g_2.2.2.1, g_2.2.2.2.1, g_2.2.2.2.2.1, g_2.2.2.2.2.2.1, g_2.2.2.2.2.2.2.1, g_2.2.2.2.2.2.2.2.1, g_2.2.2.2.2.2.2.2.2.1, g_2.2.2.2.2.2.2.2.2.2.1, g_2.2.2.2.2.2.2.2.2.2.2.1, g_2.2.2.2.2.2.2.2.2.2.2.2.1, g_2.2.2.2.2.2.2.2.2.2.2.2.2.1, g_2.2.2.2.2.2.2.2.2.2.2.2.2.2.1, g_2.2.2.2.2.2.2.2.2.2.2.2.2.2.2.1, g_2.2.2.2.2.2.2.2.2.2.2.2.2.2.2.2.1, g_2.2.2.2.2.2.2.2.2.2.2.2.2.2.2.2.2)
        else
          (0, g_2.2.1, g_2.2.2.1, g_2.2.2.2.1, g_2.2.2.2.2.1, g_2.2.2.2.2.2.1, g_2.2.2.2.2.2.2.1, g_2.2.2.2.2.2.2.2.1, g_2.2.2.2.2.2.2.2.2.1, g_2.2.2.2.2.2.2.2.2.2.1, g_2.2.2.2.2.2.2.2.2.2.2.1, g_2.2.2.2.2.2.2.2.2.2.2.2.1, g_2.2.2.2.2.2.2.2.2.2.2.2.2.1, g_2.2.2.2.2.2.2.2.2.2.2.2.2.2.1, g_2.2.2.2.2.2.2.2.2.2.2.2.2.2.2.1, g_2.2.2.2.2.2.2.2.2.2.2.2.2.2.2.2.1, g_2.2.2.2.2.2.2.2.2.2.2.2.2.2.2.2.2)
      else
        sX4_refill_g_15 k z v g_2 (sX4_refuse g_2)
def sX4_refill (k : Int32) (z : Int32) (v : MS) : MS :=
  sX4_refill_g_2 k z v (sX4_begin v)
def rX4_refill_g_5 (k : Int32) (z : Int32) (v : MS) (g_2 : MS) (g_5 : MS) : Int32 :=
  rX4_refuse g_2
def rX4_refill_g_9 (k : Int32) (z : Int32) (v : MS) (g_2 : MS) (g_9 : MS) : Int32 :=
  rX4_refuse g_2
def rX4_refill_g_15 (k : Int32) (z : Int32) (v : MS) (g_2 : MS) (g_15 : MS) : Int32 :=
  rX4_refuse g_2
def rX4_refill_g_2 (k : Int32) (z : Int32) (v : MS) (g_2 : MS) : Int32 :=
  if k < 0 then
    rX4_refill_g_5 k z v g_2 (sX4_refuse g_2)
  else
    if 0 ≤ (lg_cmp k.toInt64 (g_2.2.2.2.1 22)) then
      rX4_refill_g_9 k z v g_2 (sX4_refuse g_2)
    else
      if 0 ≤ (lg_cmp k.toInt64 ((g_2.2.2.2.1 22) - 30)) then
        if z = 0 then
          (g_2.2.2.2.1 (((rX4_place k.toInt64) + 0).toNatClampNeg)).toInt32
        else
          (g_2.2.2.2.1 (((rX4_place k.toInt64) + 1).toNatClampNeg)).toInt32
      else
        rX4_refill_g_15 k z v g_2 (sX4_refuse g_2)
def rX4_refill (k : Int32) (z : Int32) (v : MS) : Int32 :=
  rX4_refill_g_2 k z v (sX4_begin v)
set_option maxHeartbeats 4000000 in
set_option maxRecDepth 100000 in
theorem kX4_refill (l : Launch) (dC : Nat → ClassId) (dI : Nat → Nat → Nat) (cI cJ : ClassId) (m0 m1 m2 m3 m4 m5 : Nat) (sz : Nat) (k : Int32) (z : Int32) (v : MS) : Met l yX4_refill wsX4_refill ({ frames := 2, cells := 0, slots := 0, locals := 42 }) (va_Pc [.ref m0, .int k, .int z] (fun U => U.heap.size = sz ∧ va_P (dC, dI) vwCl [cM0 m0 m1 m2 m3 m4 m5 v, cM1 cI m1 v, cM2 cJ m2 v, cM3 cJ m3 v, cM4 cI m4 v, cM5 cI m5 v] U.heap ∧ va_K (dC, dI) vwCl [(cI, .int), (cJ, .long)] U ∧ va_D (fun _ => True) [cM0 m0 m1 m2 m3 m4 m5 v, cM1 cI m1 v, cM2 cJ m2 v, cM3 cJ m3 v, cM4 cI m4 v, cM5 cI m5 v])) (va_Qi (fun (r : Int32) (_ : Unit) => r = rX4_refill k z v) (fun _ t => va_P (dC, dI) vwCl [cM0 m0 m1 m2 m3 m4 m5 (sX4_refill k z v), cM1 cI m1 (sX4_refill k z v), cM2 cJ m2 (sX4_refill k z v), cM3 cJ m3 (sX4_refill k z v), cM4 cI m4 (sX4_refill k z v), cM5 cI m5 (sX4_refill k z v)] t.heap ∧ va_K (dC, dI) vwCl [(cI, .int), (cJ, .long)] t ∧ va_D (va_A [cM0 m0 m1 m2 m3 m4 m5 v, cM1 cI m1 v, cM2 cJ m2 v, cM3 cJ m3 v, cM4 cI m4 v, cM5 cI m5 v] sz) [cM0 m0 m1 m2 m3 m4 m5 (sX4_refill k z v), cM1 cI m1 (sX4_refill k z v), cM2 cJ m2 (sX4_refill k z v), cM3 cJ m3 (sX4_refill k z v), cM4 cI m4 (sX4_refill k z v), cM5 cI m5 (sX4_refill k z v)]) (va_A [cM0 m0 m1 m2 m3 m4 m5 v, cM1 cI m1 v, cM2 cJ m2 v, cM3 cJ m3 v, cM4 cI m4 v, cM5 cI m5 v] sz)) 0 0 (va_A [cM0 m0 m1 m2 m3 m4 m5 v, cM1 cI m1 v, cM2 cJ m2 v, cM3 cJ m3 v, cM4 cI m4 v, cM5 cI m5 v] sz) := by
  refine Met.ofW (cc := cX4_refill) (maxL := 3) (ret := (some .int)) (by decide) rfl ?_
  intro p e s m args below meth c s₁ B hml hv
  obtain ⟨rfl, hsz, hP, hK, hD0⟩ := hv
  have hx := B.exec
  have hb := B.bytes
  have hr := B.returns
  have hts := atoms_spec (ws := wsX4_refill) B.pre
  have hown : s.vm.findClass RX4 = some m.cls := findClass_of_methodNamed B.named
  have hlocks := B.notSynchronized
  have hiX4 : ∀ w ∈ u_ws RX4 TX4 17, w ∈ wsX4_refill := by decide +kernel
  subst hsz
  have hD := hD0.self (sz := s.heap.size)
  generalize hAe : va_A [cM0 m0 m1 m2 m3 m4 m5 v, cM1 cI m1 v, cM2 cJ m2 v, cM3 cJ m3 v, cM4 cI m4 v, cM5 cI m5 v] s.heap.size = A at hD ⊢
  have hA : ∀ q : Nat, s.heap.size ≤ q → A q := fun q h => by rw [← hAe]; exact Or.inr h
  have hS : va_S A s.heap s.heap [] := va_S.rf
  have hl := lv_entry ([.ref m0, .int k, .int z]) (n := 3) (Nat.le_of_ble_eq_true rfl)
  rw [lg_entry_eq]
  generalize (lg_sl ([.ref m0, .int k, .int z]) ++ List.replicate (3 - (lg_sl ([.ref m0, .int k, .int z])).length) Slot.unset).toArray = ls at hl ⊢
  have hl : lv_has ls 3 [(0, .ref m0), (1, .int k), (2, .int z)] := hl
  have hP : va_P (dC, dI) vwCl [cM0 m0 m1 m2 m3 m4 m5 v, cM1 cI m1 v, cM2 cJ m2 v, cM3 cJ m3 v, cM4 cI m4 v, cM5 cI m5 v] s.heap := hP
  refine lv_aload_n hx hb dX4_refill_0 rfl (lv_at hl 0 rfl) ?_
  have hPc := hP.sub (ws' := [cM0 m0 m1 m2 m3 m4 m5 v, cM1 cI m1 v, cM2 cJ m2 v, cM3 cJ m3 v, cM4 cI m4 v, cM5 cI m5 v]) [0, 1, 2, 3, 4, 5] rfl
  have hDc := hD.sub (ws' := [cM0 m0 m1 m2 m3 m4 m5 v, cM1 cI m1 v, cM2 cJ m2 v, cM3 cJ m3 v, cM4 cI m4 v, cM5 cI m5 v]) [0, 1, 2, 3, 4, 5] (by decide) rfl
  have hFc := va_free (wc := [cM0 m0 m1 m2 m3 m4 m5 v, cM1 cI m1 v, cM2 cJ m2 v, cM3 cJ m3 v, cM4 cI m4 v, cM5 cI m5 v]) hD hS hA [0, 1, 2, 3, 4, 5] rfl
  refine va_callv (va_runV (As := []) (rest := []) ⟨hx, hb, hml, hown, hts⟩ (kX4_begin l dC dI cI cJ m0 m1 m2 m3 m4 m5 s.heap.size v) (cwV 0 hts gX4_refill_X4_begin rfl rfl rfl (by decide +kernel) ⟨Nat.le_of_ble_eq_true rfl, Nat.le_of_ble_eq_true rfl⟩) ⟨fun a U g mk q => by obtain ⟨q0, q1, qP, qK, qD⟩ := q; exact ⟨q0, q1, qP, va_K.moved (u := U) (U := U.calling g mk a) (Vm.Alike.refl U.vm) qK, qD⟩, va_recv hK hPc (ci := 4) (q0 := 0) rfl rfl, fun U hU hW => ⟨rfl, by rw [hU], by rw [hU]; exact hPc, va_K.moved hW.alike hK, hDc.weaken (fun _ _ _ _ => trivial)⟩⟩ rfl rfl hl.1 rfl (lv_room (Nat.le_of_ble_eq_true rfl)) dX4_refill_1 ⟨Nat.le_of_ble_eq_true rfl, Nat.le_of_ble_eq_true rfl⟩) hS (fun q _ h => hFc q h) hFc (fun _ t H1 locs ht hvm hw hB hz1 hk1 hS => ?_)
  obtain ⟨hP1, hK1, hD1⟩ := hB
  rw [ht] at hP1
  obtain ⟨g_2, eg_2⟩ : ∃ z, z = sX4_begin v := ⟨_, rfl⟩
  rw [← eg_2] at hP1 hD1
  obtain ⟨hP, hD⟩ := va_join (wr := []) (w1 := [cM0 m0 m1 m2 m3 m4 m5 g_2, cM1 cI m1 g_2, cM2 cJ m2 g_2, cM3 cJ m3 g_2, cM4 cI m4 g_2, cM5 cI m5 g_2]) hP hD [0, 1, 2, 3, 4, 5] [] rfl rfl (by decide) (by decide) hk1 hFc hP1 hD1
  generalize H1 = H at hP hS ⊢
  have hP : va_P (dC, dI) vwCl [cM0 m0 m1 m2 m3 m4 m5 g_2, cM1 cI m1 g_2, cM2 cJ m2 g_2, cM3 cJ m3 g_2, cM4 cI m4 g_2, cM5 cI m5 g_2] H := hP
  have hD : va_D A [cM0 m0 m1 m2 m3 m4 m5 g_2, cM1 cI m1 g_2, cM2 cJ m2 g_2, cM3 cJ m3 g_2, cM4 cI m4 g_2, cM5 cI m5 g_2] := hD
  refine lv_iload_n hx hb dX4_refill_4 rfl (lv_at hl 1 rfl) ?_
  refine lv_if_lt (tgt := 38) hx hb dX4_refill_5 (by decide) (fun c_3 => ?_) (fun c_3 => ?_)
  · refine lv_aload_n hx hb dX4_refill_38 rfl (lv_at hl 0 rfl) ?_
    have hPc := hP.sub (ws' := [cM0 m0 m1 m2 m3 m4 m5 g_2, cM1 cI m1 g_2, cM2 cJ m2 g_2, cM3 cJ m3 g_2, cM4 cI m4 g_2, cM5 cI m5 g_2]) [0, 1, 2, 3, 4, 5] rfl
    have hDc := hD.sub (ws' := [cM0 m0 m1 m2 m3 m4 m5 g_2, cM1 cI m1 g_2, cM2 cJ m2 g_2, cM3 cJ m3 g_2, cM4 cI m4 g_2, cM5 cI m5 g_2]) [0, 1, 2, 3, 4, 5] (by decide) rfl
    have hFc := va_free (wc := [cM0 m0 m1 m2 m3 m4 m5 g_2, cM1 cI m1 g_2, cM2 cJ m2 g_2, cM3 cJ m3 g_2, cM4 cI m4 g_2, cM5 cI m5 g_2]) hD hS hA [0, 1, 2, 3, 4, 5] rfl
    refine va_calli (va_runV (As := []) (rest := []) ⟨hx, hb, hml, hown, hts⟩ (kX4_refuse l dC dI cI cJ m0 m1 m2 m3 m4 m5 H.size g_2) (cwV 0 hts gX4_refill_X4_refuse rfl rfl rfl (by decide +kernel) ⟨Nat.le_of_ble_eq_true rfl, Nat.le_of_ble_eq_true rfl⟩) ⟨fun a U g mk q => by obtain ⟨q0, q1, qP, qK, qD⟩ := q; exact ⟨q0, q1, qP, va_K.moved (u := U) (U := U.calling g mk a) (Vm.Alike.refl U.vm) qK, qD⟩, va_recv hK hPc (ci := 4) (q0 := 0) rfl rfl, fun U hU hW => ⟨rfl, by rw [hU], by rw [hU]; exact hPc, va_K.moved hW.alike hK, hDc.weaken (fun _ _ _ _ => trivial)⟩⟩ rfl rfl hl.1 rfl (lv_room (Nat.le_of_ble_eq_true rfl)) dX4_refill_39 ⟨Nat.le_of_ble_eq_true rfl, Nat.le_of_ble_eq_true rfl⟩) hS (fun q _ h => hFc q h) hFc (fun r_4 _ t H1 locs ht hvm hw hB hz1 hk1 hS => ?_)
    obtain ⟨hP1, hK1, hD1⟩ := hB
    rw [ht] at hP1
    obtain ⟨g_5, eg_5⟩ : ∃ z, z = sX4_refuse g_2 := ⟨_, rfl⟩
    rw [← eg_5] at hP1 hD1
    obtain ⟨hP, hD⟩ := va_join (wr := []) (w1 := [cM0 m0 m1 m2 m3 m4 m5 g_5, cM1 cI m1 g_5, cM2 cJ m2 g_5, cM3 cJ m3 g_5, cM4 cI m4 g_5, cM5 cI m5 g_5]) hP hD [0, 1, 2, 3, 4, 5] [] rfl rfl (by decide) (by decide) hk1 hFc hP1 hD1
    generalize H1 = H at hP hS ⊢
    have hP : va_P (dC, dI) vwCl [cM0 m0 m1 m2 m3 m4 m5 g_5, cM1 cI m1 g_5, cM2 cJ m2 g_5, cM3 cJ m3 g_5, cM4 cI m4 g_5, cM5 cI m5 g_5] H := hP
    have hD : va_D A [cM0 m0 m1 m2 m3 m4 m5 g_5, cM1 cI m1 g_5, cM2 cJ m2 g_5, cM3 cJ m3 g_5, cM4 cI m4 g_5, cM5 cI m5 g_5] := hD
    subst hw
    have es0 : sX4_refill k z v = g_5 := by rw [sX4_refill, ← eg_2, sX4_refill_g_2, if_pos c_3, ← eg_5, sX4_refill_g_5]
    have er : rX4_refuse g_2 = rX4_refill k z v := by rw [rX4_refill, ← eg_2, rX4_refill_g_2, if_pos c_3, ← eg_5, rX4_refill_g_5]
    refine W.iret (v := rX4_refuse g_2) hx hb hr (fun t ht hW => ⟨⟨rX4_refuse g_2, (), rfl, er, ?_⟩, hS.F ht⟩) hS.2.2 dX4_refill_42
    rw [es0]; exact ⟨by rw [ht]; exact hP, va_K.moved hW.alike hK, hD⟩
  · refine lv_iload_n hx hb dX4_refill_8 rfl (lv_at hl 1 rfl) ?_
    refine lv_i2l (v := k.toInt64) hx hb dX4_refill_9 rfl ?_
    refine lv_aload_n hx hb dX4_refill_10 rfl (lv_at hl 0 rfl) ?_
    refine va_get (D := (dC, dI)) (ci := 4) (v := .ref m2) (C := RX4) (T := TX4) (N := 17) hx hb hts hiX4 hown hK hP 0 rfl rfl 3 (by decide) (hts (.fieldLink RX4 13 "TripReckonerModel" "now" "[J") (by decide +kernel)) (fun _ h9 => h9) rfl dX4_refill_11 ?_
    refine lv_bipush (v := 22) hx hb dX4_refill_14 (by decide) ?_
    refine va_lald hx hb hK hP 2 1 rfl rfl (vd (by decide +kernel)) dX4_refill_16 ?_
    refine lv_topl (fun z_6 ez_6 => ?_)
    have ez_6 : z_6 = g_2.2.2.2.1 22 := ez_6
    subst ez_6
    refine W.lcmp hx hb dX4_refill_17 ?_
    refine lv_if_ge (tgt := 38) hx hb dX4_refill_18 (by decide) (fun c_7 => ?_) (fun c_7 => ?_)
    · refine lv_aload_n hx hb dX4_refill_38 rfl (lv_at hl 0 rfl) ?_
      have hPc := hP.sub (ws' := [cM0 m0 m1 m2 m3 m4 m5 g_2, cM1 cI m1 g_2, cM2 cJ m2 g_2, cM3 cJ m3 g_2, cM4 cI m4 g_2, cM5 cI m5 g_2]) [0, 1, 2, 3, 4, 5] rfl
      have hDc := hD.sub (ws' := [cM0 m0 m1 m2 m3 m4 m5 g_2, cM1 cI m1 g_2, cM2 cJ m2 g_2, cM3 cJ m3 g_2, cM4 cI m4 g_2, cM5 cI m5 g_2]) [0, 1, 2, 3, 4, 5] (by decide) rfl
      have hFc := va_free (wc := [cM0 m0 m1 m2 m3 m4 m5 g_2, cM1 cI m1 g_2, cM2 cJ m2 g_2, cM3 cJ m3 g_2, cM4 cI m4 g_2, cM5 cI m5 g_2]) hD hS hA [0, 1, 2, 3, 4, 5] rfl
      refine va_calli (va_runV (As := []) (rest := []) ⟨hx, hb, hml, hown, hts⟩ (kX4_refuse l dC dI cI cJ m0 m1 m2 m3 m4 m5 H.size g_2) (cwV 0 hts gX4_refill_X4_refuse rfl rfl rfl (by decide +kernel) ⟨Nat.le_of_ble_eq_true rfl, Nat.le_of_ble_eq_true rfl⟩) ⟨fun a U g mk q => by obtain ⟨q0, q1, qP, qK, qD⟩ := q; exact ⟨q0, q1, qP, va_K.moved (u := U) (U := U.calling g mk a) (Vm.Alike.refl U.vm) qK, qD⟩, va_recv hK hPc (ci := 4) (q0 := 0) rfl rfl, fun U hU hW => ⟨rfl, by rw [hU], by rw [hU]; exact hPc, va_K.moved hW.alike hK, hDc.weaken (fun _ _ _ _ => trivial)⟩⟩ rfl rfl hl.1 rfl (lv_room (Nat.le_of_ble_eq_true rfl)) dX4_refill_39 ⟨Nat.le_of_ble_eq_true rfl, Nat.le_of_ble_eq_true rfl⟩) hS (fun q _ h => hFc q h) hFc (fun r_8 _ t H1 locs ht hvm hw hB hz1 hk1 hS => ?_)
      obtain ⟨hP1, hK1, hD1⟩ := hB
      rw [ht] at hP1
      obtain ⟨g_9, eg_9⟩ : ∃ z, z = sX4_refuse g_2 := ⟨_, rfl⟩
      rw [← eg_9] at hP1 hD1
      obtain ⟨hP, hD⟩ := va_join (wr := []) (w1 := [cM0 m0 m1 m2 m3 m4 m5 g_9, cM1 cI m1 g_9, cM2 cJ m2 g_9, cM3 cJ m3 g_9, cM4 cI m4 g_9, cM5 cI m5 g_9]) hP hD [0, 1, 2, 3, 4, 5] [] rfl rfl (by decide) (by decide) hk1 hFc hP1 hD1
      generalize H1 = H at hP hS ⊢
      have hP : va_P (dC, dI) vwCl [cM0 m0 m1 m2 m3 m4 m5 g_9, cM1 cI m1 g_9, cM2 cJ m2 g_9, cM3 cJ m3 g_9, cM4 cI m4 g_9, cM5 cI m5 g_9] H := hP
      have hD : va_D A [cM0 m0 m1 m2 m3 m4 m5 g_9, cM1 cI m1 g_9, cM2 cJ m2 g_9, cM3 cJ m3 g_9, cM4 cI m4 g_9, cM5 cI m5 g_9] := hD
      subst hw
      have es0 : sX4_refill k z v = g_9 := by rw [sX4_refill, ← eg_2, sX4_refill_g_2, if_neg c_3, if_pos c_7, ← eg_9, sX4_refill_g_9]
      have er : rX4_refuse g_2 = rX4_refill k z v := by rw [rX4_refill, ← eg_2, rX4_refill_g_2, if_neg c_3, if_pos c_7, ← eg_9, rX4_refill_g_9]
      refine W.iret (v := rX4_refuse g_2) hx hb hr (fun t ht hW => ⟨⟨rX4_refuse g_2, (), rfl, er, ?_⟩, hS.F ht⟩) hS.2.2 dX4_refill_42
      rw [es0]; exact ⟨by rw [ht]; exact hP, va_K.moved hW.alike hK, hD⟩
    · refine lv_iload_n hx hb dX4_refill_21 rfl (lv_at hl 1 rfl) ?_
      refine lv_i2l (v := k.toInt64) hx hb dX4_refill_22 rfl ?_
      refine lv_aload_n hx hb dX4_refill_23 rfl (lv_at hl 0 rfl) ?_
      refine va_get (D := (dC, dI)) (ci := 4) (v := .ref m2) (C := RX4) (T := TX4) (N := 17) hx hb hts hiX4 hown hK hP 0 rfl rfl 3 (by decide) (hts (.fieldLink RX4 13 "TripReckonerModel" "now" "[J") (by decide +kernel)) (fun _ h9 => h9) rfl dX4_refill_24 ?_
      refine lv_bipush (v := 22) hx hb dX4_refill_27 (by decide) ?_
      refine va_lald hx hb hK hP 2 1 rfl rfl (vd (by decide +kernel)) dX4_refill_29 ?_
      refine lv_topl (fun z_10 ez_10 => ?_)
      have ez_10 : z_10 = g_2.2.2.2.1 22 := ez_10
      subst ez_10
      refine lv_ldc2 hx hb hown (hts (.constantLong RX4 109 (30)) (by decide +kernel)) dX4_refill_30 ?_
      refine lv_lsub hx hb dX4_refill_33 ?_
      refine W.lcmp hx hb dX4_refill_34 ?_
      refine lv_if_ge (tgt := 43) hx hb dX4_refill_35 (by decide) (fun c_11 => ?_) (fun c_11 => ?_)
      · refine lv_aload_n hx hb dX4_refill_43 rfl (lv_at hl 0 rfl) ?_
        refine lv_iconst (v := 0) hx hb dX4_refill_44 (by decide) ?_
        refine va_put (D := (dC, dI)) (ci := 4) (v := .int 0) (ty := .int) (C := RX4) (T := TX4) (N := 17) hx hb hts hiX4 tyX4 tyX4_ok nmX4 hown hK hP hD hS 0 rfl rfl 0 (by decide) (hts (.fieldLink RX4 49 "TripReckonerModel" "thrown" "I") (by decide +kernel)) (fun _ h9 => h9) rfl (by decide +kernel) rfl rfl (Nat.le_of_ble_eq_true rfl) dX4_refill_45 (fun H locs hP hD hS => ?_)
        have hP : va_P (dC, dI) vwCl [(m0, .inr (4, [.int 0, .ref m1, .int g_2.2.2.1, .ref m2, .ref m3, .int g_2.2.2.2.2.2.1, .int g_2.2.2.2.2.2.2.1, .int g_2.2.2.2.2.2.2.2.1, .int g_2.2.2.2.2.2.2.2.2.1, .int g_2.2.2.2.2.2.2.2.2.2.1, .int g_2.2.2.2.2.2.2.2.2.2.2.1, .int g_2.2.2.2.2.2.2.2.2.2.2.2.1, .long g_2.2.2.2.2.2.2.2.2.2.2.2.2.1, .int g_2.2.2.2.2.2.2.2.2.2.2.2.2.2.1, .ref m4, .ref m5, .int g_2.2.2.2.2.2.2.2.2.2.2.2.2.2.2.2.2])), (m1, .inl (cI, 60, .inl g_2.2.1)), (m2, .inl (cJ, 92, .inr (.inl g_2.2.2.2.1))), (m3, .inl (cJ, 92, .inr (.inl g_2.2.2.2.2.1))), (m4, .inl (cI, 1573, .inl g_2.2.2.2.2.2.2.2.2.2.2.2.2.2.2.1)), (m5, .inl (cI, 12, .inl g_2.2.2.2.2.2.2.2.2.2.2.2.2.2.2.2.1))] H := hP
        have hD : va_D A [(m0, .inr (4, [.int 0, .ref m1, .int g_2.2.2.1, .ref m2, .ref m3, .int g_2.2.2.2.2.2.1, .int g_2.2.2.2.2.2.2.1, .int g_2.2.2.2.2.2.2.2.1, .int g_2.2.2.2.2.2.2.2.2.1, .int g_2.2.2.2.2.2.2.2.2.2.1, .int g_2.2.2.2.2.2.2.2.2.2.2.1, .int g_2.2.2.2.2.2.2.2.2.2.2.2.1, .long g_2.2.2.2.2.2.2.2.2.2.2.2.2.1, .int g_2.2.2.2.2.2.2.2.2.2.2.2.2.2.1, .ref m4, .ref m5, .int g_2.2.2.2.2.2.2.2.2.2.2.2.2.2.2.2.2])), (m1, .inl (cI, 60, .inl g_2.2.1)), (m2, .inl (cJ, 92, .inr (.inl g_2.2.2.2.1))), (m3, .inl (cJ, 92, .inr (.inl g_2.2.2.2.2.1))), (m4, .inl (cI, 1573, .inl g_2.2.2.2.2.2.2.2.2.2.2.2.2.2.2.1)), (m5, .inl (cI, 12, .inl g_2.2.2.2.2.2.2.2.2.2.2.2.2.2.2.2.1))] := hD
        refine lv_aload_n hx hb dX4_refill_48 rfl (lv_at hl 0 rfl) ?_
        refine va_get (D := (dC, dI)) (ci := 4) (v := .ref m2) (C := RX4) (T := TX4) (N := 17) hx hb hts hiX4 hown hK hP 0 rfl rfl 3 (by decide) (hts (.fieldLink RX4 13 "TripReckonerModel" "now" "[J") (by decide +kernel)) (fun _ h9 => h9) rfl dX4_refill_49 ?_
        refine lv_iload_n hx hb dX4_refill_52 rfl (lv_at hl 1 rfl) ?_
        refine lv_i2l (v := k.toInt64) hx hb dX4_refill_53 rfl ?_
        have hPc := hP.sub (ws' := []) [] rfl
        have hDc := hD.sub (ws' := []) [] (by decide) rfl
        have hFc := va_free (wc := []) hD hS hA [] rfl
        refine va_calli (va_runS (As := [.long k.toInt64]) (rest := [.ref m2]) ⟨hx, hb, hml, hown, hts⟩ (kX4_place l dC dI cI cJ H.size k.toInt64) (va_cwS 1 hts gX4_refill_X4_place rfl rfl rfl (by decide +kernel) ⟨Nat.le_of_ble_eq_true rfl, Nat.le_of_ble_eq_true rfl⟩) ⟨fun a U g mk q => by obtain ⟨q0, q1, qP, qK, qD⟩ := q; exact ⟨q0, q1, qP, va_K.moved (u := U) (U := U.calling g mk a) (Vm.Alike.refl U.vm) qK, qD⟩, fun U hU hW => ⟨rfl, by rw [hU], by rw [hU]; exact hPc, va_K.moved hW.alike hK, hDc.weaken (fun _ _ _ _ => trivial)⟩⟩ rfl rfl hl.1 rfl (lv_room (Nat.le_of_ble_eq_true rfl)) dX4_refill_54 ⟨Nat.le_of_ble_eq_true rfl, Nat.le_of_ble_eq_true rfl⟩) hS (fun q _ h => hFc q h) hFc (fun r_12 _ t H1 locs ht hvm hw hB hz1 hk1 hS => ?_)
        obtain ⟨hP1, hK1, hD1⟩ := hB
        rw [ht] at hP1
        obtain ⟨hP, hD⟩ := va_join (wr := [(m0, .inr (4, [.int 0, .ref m1, .int g_2.2.2.1, .ref m2, .ref m3, .int g_2.2.2.2.2.2.1, .int g_2.2.2.2.2.2.2.1, .int g_2.2.2.2.2.2.2.2.1, .int g_2.2.2.2.2.2.2.2.2.1, .int g_2.2.2.2.2.2.2.2.2.2.1, .int g_2.2.2.2.2.2.2.2.2.2.2.1, .int g_2.2.2.2.2.2.2.2.2.2.2.2.1, .long g_2.2.2.2.2.2.2.2.2.2.2.2.2.1, .int g_2.2.2.2.2.2.2.2.2.2.2.2.2.2.1, .ref m4, .ref m5, .int g_2.2.2.2.2.2.2.2.2.2.2.2.2.2.2.2.2])), (m1, .inl (cI, 60, .inl g_2.2.1)), (m2, .inl (cJ, 92, .inr (.inl g_2.2.2.2.1))), (m3, .inl (cJ, 92, .inr (.inl g_2.2.2.2.2.1))), (m4, .inl (cI, 1573, .inl g_2.2.2.2.2.2.2.2.2.2.2.2.2.2.2.1)), (m5, .inl (cI, 12, .inl g_2.2.2.2.2.2.2.2.2.2.2.2.2.2.2.2.1))]) (w1 := []) hP hD [] [0, 1, 2, 3, 4, 5] rfl rfl (by decide) (by decide) hk1 hFc hP1 hD1
        generalize H1 = H at hP hS ⊢
        have hP : va_P (dC, dI) vwCl [(m0, .inr (4, [.int 0, .ref m1, .int g_2.2.2.1, .ref m2, .ref m3, .int g_2.2.2.2.2.2.1, .int g_2.2.2.2.2.2.2.1, .int g_2.2.2.2.2.2.2.2.1, .int g_2.2.2.2.2.2.2.2.2.1, .int g_2.2.2.2.2.2.2.2.2.2.1, .int g_2.2.2.2.2.2.2.2.2.2.2.1, .int g_2.2.2.2.2.2.2.2.2.2.2.2.1, .long g_2.2.2.2.2.2.2.2.2.2.2.2.2.1, .int g_2.2.2.2.2.2.2.2.2.2.2.2.2.2.1, .ref m4, .ref m5, .int g_2.2.2.2.2.2.2.2.2.2.2.2.2.2.2.2.2])), (m1, .inl (cI, 60, .inl g_2.2.1)), (m2, .inl (cJ, 92, .inr (.inl g_2.2.2.2.1))), (m3, .inl (cJ, 92, .inr (.inl g_2.2.2.2.2.1))), (m4, .inl (cI, 1573, .inl g_2.2.2.2.2.2.2.2.2.2.2.2.2.2.2.1)), (m5, .inl (cI, 12, .inl g_2.2.2.2.2.2.2.2.2.2.2.2.2.2.2.2.1))] H := hP
        have hD : va_D A [(m0, .inr (4, [.int 0, .ref m1, .int g_2.2.2.1, .ref m2, .ref m3, .int g_2.2.2.2.2.2.1, .int g_2.2.2.2.2.2.2.1, .int g_2.2.2.2.2.2.2.2.1, .int g_2.2.2.2.2.2.2.2.2.1, .int g_2.2.2.2.2.2.2.2.2.2.1, .int g_2.2.2.2.2.2.2.2.2.2.2.1, .int g_2.2.2.2.2.2.2.2.2.2.2.2.1, .long g_2.2.2.2.2.2.2.2.2.2.2.2.2.1, .int g_2.2.2.2.2.2.2.2.2.2.2.2.2.2.1, .ref m4, .ref m5, .int g_2.2.2.2.2.2.2.2.2.2.2.2.2.2.2.2.2])), (m1, .inl (cI, 60, .inl g_2.2.1)), (m2, .inl (cJ, 92, .inr (.inl g_2.2.2.2.1))), (m3, .inl (cJ, 92, .inr (.inl g_2.2.2.2.2.1))), (m4, .inl (cI, 1573, .inl g_2.2.2.2.2.2.2.2.2.2.2.2.2.2.2.1)), (m5, .inl (cI, 12, .inl g_2.2.2.2.2.2.2.2.2.2.2.2.2.2.2.2.1))] := hD
        subst hw
        refine lv_iload_n hx hb dX4_refill_57 rfl (lv_at hl 2 rfl) ?_
        refine lv_if_eq (tgt := 65) hx hb dX4_refill_58 (by decide) (fun c_13 => ?_) (fun c_13 => ?_)
        · refine lv_iconst (v := 0) hx hb dX4_refill_65 (by decide) ?_
          refine lv_iadd hx hb dX4_refill_66 ?_
          refine va_lald hx hb hK hP 2 1 rfl rfl (place_in (i2l_ge0 c_3)).2.2 dX4_refill_67 ?_
          refine lv_l2i (v := (g_2.2.2.2.1 (((rX4_place k.toInt64) + 0).toNatClampNeg)).toInt32) hx hb dX4_refill_68 rfl ?_
          have es0 : sX4_refill k z v = (0, g_2.2.1, g_2.2.2.1, g_2.2.2.2.1, g_2.2.2.2.2.1, g_2.2.2.2.2.2.1, g_2.2.2.2.2.2.2.1, g_2.2.2.2.2.2.2.2.1, g_2.2.2.2.2.2.2.2.2.1, g_2.2.2.2.2.2.2.2.2.2.1, g_2.2.2.2.2.2.2.2.2.2.2.1, g_2.2.2.2.2.2.2.2.2.2.2.2.1, g_2.2.2.2.2.2.2.2.2.2.2.2.2.1, g_2.2.2.2.2.2.2.2.2.2.2.2.2.2.1, g_2.2.2.2.2.2.2.2.2.2.2.2.2.2.2.1, g_2.2.2.2.2.2.2.2.2.2.2.2.2.2.2.2.1, g_2.2.2.2.2.2.2.2.2.2.2.2.2.2.2.2.2) := by rw [sX4_refill, ← eg_2, sX4_refill_g_2, if_neg c_3, if_neg c_7, if_pos c_11, if_pos c_13]
          have er : (g_2.2.2.2.1 (((rX4_place k.toInt64) + 0).toNatClampNeg)).toInt32 = rX4_refill k z v := by rw [rX4_refill, ← eg_2, rX4_refill_g_2, if_neg c_3, if_neg c_7, if_pos c_11, if_pos c_13]
          refine W.iret (v := (g_2.2.2.2.1 (((rX4_place k.toInt64) + 0).toNatClampNeg)).toInt32) hx hb hr (fun t ht hW => ⟨⟨(g_2.2.2.2.1 (((rX4_place k.toInt64) + 0).toNatClampNeg)).toInt32, (), rfl, er, ?_⟩, hS.F ht⟩) hS.2.2 dX4_refill_69
          rw [es0]; exact ⟨by rw [ht]; exact hP, va_K.moved hW.alike hK, hD⟩
        · refine lv_iconst (v := 1) hx hb dX4_refill_61 (by decide) ?_
          refine lv_goto (tgt := 66) hx hb dX4_refill_62 (by decide) ?_
          refine lv_iadd hx hb dX4_refill_66 ?_
          refine va_lald hx hb hK hP 2 1 rfl rfl (place_in (i2l_ge0 c_3)).2.1 dX4_refill_67 ?_
          refine lv_l2i (v := (g_2.2.2.2.1 (((rX4_place k.toInt64) + 1).toNatClampNeg)).toInt32) hx hb dX4_refill_68 rfl ?_
          have es0 : sX4_refill k z v = (0, g_2.2.1, g_2.2.2.1, g_2.2.2.2.1, g_2.2.2.2.2.1, g_2.2.2.2.2.2.1, g_2.2.2.2.2.2.2.1, g_2.2.2.2.2.2.2.2.1, g_2.2.2.2.2.2.2.2.2.1, g_2.2.2.2.2.2.2.2.2.2.1, g_2.2.2.2.2.2.2.2.2.2.2.1, g_2.2.2.2.2.2.2.2.2.2.2.2.1, g_2.2.2.2.2.2.2.2.2.2.2.2.2.1, g_2.2.2.2.2.2.2.2.2.2.2.2.2.2.1, g_2.2.2.2.2.2.2.2.2.2.2.2.2.2.2.1, g_2.2.2.2.2.2.2.2.2.2.2.2.2.2.2.2.1, g_2.2.2.2.2.2.2.2.2.2.2.2.2.2.2.2.2) := by rw [sX4_refill, ← eg_2, sX4_refill_g_2, if_neg c_3, if_neg c_7, if_pos c_11, if_neg c_13]
          have er : (g_2.2.2.2.1 (((rX4_place k.toInt64) + 1).toNatClampNeg)).toInt32 = rX4_refill k z v := by rw [rX4_refill, ← eg_2, rX4_refill_g_2, if_neg c_3, if_neg c_7, if_pos c_11, if_neg c_13]
          refine W.iret (v := (g_2.2.2.2.1 (((rX4_place k.toInt64) + 1).toNatClampNeg)).toInt32) hx hb hr (fun t ht hW => ⟨⟨(g_2.2.2.2.1 (((rX4_place k.toInt64) + 1).toNatClampNeg)).toInt32, (), rfl, er, ?_⟩, hS.F ht⟩) hS.2.2 dX4_refill_69
          rw [es0]; exact ⟨by rw [ht]; exact hP, va_K.moved hW.alike hK, hD⟩
      · refine lv_aload_n hx hb dX4_refill_38 rfl (lv_at hl 0 rfl) ?_
        have hPc := hP.sub (ws' := [cM0 m0 m1 m2 m3 m4 m5 g_2, cM1 cI m1 g_2, cM2 cJ m2 g_2, cM3 cJ m3 g_2, cM4 cI m4 g_2, cM5 cI m5 g_2]) [0, 1, 2, 3, 4, 5] rfl
        have hDc := hD.sub (ws' := [cM0 m0 m1 m2 m3 m4 m5 g_2, cM1 cI m1 g_2, cM2 cJ m2 g_2, cM3 cJ m3 g_2, cM4 cI m4 g_2, cM5 cI m5 g_2]) [0, 1, 2, 3, 4, 5] (by decide) rfl
        have hFc := va_free (wc := [cM0 m0 m1 m2 m3 m4 m5 g_2, cM1 cI m1 g_2, cM2 cJ m2 g_2, cM3 cJ m3 g_2, cM4 cI m4 g_2, cM5 cI m5 g_2]) hD hS hA [0, 1, 2, 3, 4, 5] rfl
        refine va_calli (va_runV (As := []) (rest := []) ⟨hx, hb, hml, hown, hts⟩ (kX4_refuse l dC dI cI cJ m0 m1 m2 m3 m4 m5 H.size g_2) (cwV 0 hts gX4_refill_X4_refuse rfl rfl rfl (by decide +kernel) ⟨Nat.le_of_ble_eq_true rfl, Nat.le_of_ble_eq_true rfl⟩) ⟨fun a U g mk q => by obtain ⟨q0, q1, qP, qK, qD⟩ := q; exact ⟨q0, q1, qP, va_K.moved (u := U) (U := U.calling g mk a) (Vm.Alike.refl U.vm) qK, qD⟩, va_recv hK hPc (ci := 4) (q0 := 0) rfl rfl, fun U hU hW => ⟨rfl, by rw [hU], by rw [hU]; exact hPc, va_K.moved hW.alike hK, hDc.weaken (fun _ _ _ _ => trivial)⟩⟩ rfl rfl hl.1 rfl (lv_room (Nat.le_of_ble_eq_true rfl)) dX4_refill_39 ⟨Nat.le_of_ble_eq_true rfl, Nat.le_of_ble_eq_true rfl⟩) hS (fun q _ h => hFc q h) hFc (fun r_14 _ t H1 locs ht hvm hw hB hz1 hk1 hS => ?_)
        obtain ⟨hP1, hK1, hD1⟩ := hB
        rw [ht] at hP1
        obtain ⟨g_15, eg_15⟩ : ∃ z, z = sX4_refuse g_2 := ⟨_, rfl⟩
        rw [← eg_15] at hP1 hD1
        obtain ⟨hP, hD⟩ := va_join (wr := []) (w1 := [cM0 m0 m1 m2 m3 m4 m5 g_15, cM1 cI m1 g_15, cM2 cJ m2 g_15, cM3 cJ m3 g_15, cM4 cI m4 g_15, cM5 cI m5 g_15]) hP hD [0, 1, 2, 3, 4, 5] [] rfl rfl (by decide) (by decide) hk1 hFc hP1 hD1
        generalize H1 = H at hP hS ⊢
        have hP : va_P (dC, dI) vwCl [cM0 m0 m1 m2 m3 m4 m5 g_15, cM1 cI m1 g_15, cM2 cJ m2 g_15, cM3 cJ m3 g_15, cM4 cI m4 g_15, cM5 cI m5 g_15] H := hP
        have hD : va_D A [cM0 m0 m1 m2 m3 m4 m5 g_15, cM1 cI m1 g_15, cM2 cJ m2 g_15, cM3 cJ m3 g_15, cM4 cI m4 g_15, cM5 cI m5 g_15] := hD
        subst hw
        have es0 : sX4_refill k z v = g_15 := by rw [sX4_refill, ← eg_2, sX4_refill_g_2, if_neg c_3, if_neg c_7, if_neg c_11, ← eg_15, sX4_refill_g_15]
        have er : rX4_refuse g_2 = rX4_refill k z v := by rw [rX4_refill, ← eg_2, rX4_refill_g_2, if_neg c_3, if_neg c_7, if_neg c_11, ← eg_15, rX4_refill_g_15]
        refine W.iret (v := rX4_refuse g_2) hx hb hr (fun t ht hW => ⟨⟨rX4_refuse g_2, (), rfl, er, ?_⟩, hS.F ht⟩) hS.2.2 dX4_refill_42
        rw [es0]; exact ⟨by rw [ht]; exact hP, va_K.moved hW.alike hK, hD⟩

def sX4_buys (i : Int32) (v : MS) : MS :=
  if i < 0 then
    (0, v.2.1, v.2.2.1, v.2.2.2.1, v.2.2.2.2.1, v.2.2.2.2.2.1, v.2.2.2.2.2.2.1, v.2.2.2.2.2.2.2.1, v.2.2.2.2.2.2.2.2.1, v.2.2.2.2.2.2.2.2.2.1, v.2.2.2.2.2.2.2.2.2.2.1, v.2.2.2.2.2.2.2.2.2.2.2.1, v.2.2.2.2.2.2.2.2.2.2.2.2.1, v.2.2.2.2.2.2.2.2.2.2.2.2.2.1, v.2.2.2.2.2.2.2.2.2.2.2.2.2.2.1, v.2.2.2.2.2.2.2.2.2.2.2.2.2.2.2.1, v.2.2.2.2.2.2.2.2.2.2.2.2.2.2.2.2)
  else
    if i < v.2.2.2.2.2.2.2.2.2.2.2.2.2.2.2.2 then
      (0, v.2.1, v.2.2.1, v.2.2.2.1, v.2.2.2.2.1, v.2.2.2.2.2.1, v.2.2.2.2.2.2.1, v.2.2.2.2.2.2.2.1, v.2.2.2.2.2.2.2.2.1, v.2.2.2.2.2.2.2.2.2.1, v.2.2.2.2.2.2.2.2.2.2.1, v.2.2.2.2.2.2.2.2.2.2.2.1, v.2.2.2.2.2.2.2.2.2.2.2.2.1, v.2.2.2.2.2.2.2.2.2.2.2.2.2.1, v.2.2.2.2.2.2.2.2.2.2.2.2.2.2.1, v.2.2.2.2.2.2.2.2.2.2.2.2.2.2.2.1, v.2.2.2.2.2.2.2.2.2.2.2.2.2.2.2.2)
    else
      (0, v.2.1, v.2.2.1, v.2.2.2.1, v.2.2.2.2.1, v.2.2.2.2.2.1, v.2.2.2.2.2.2.1, v.2.2.2.2.2.2.2.1, v.2.2.2.2.2.2.2.2.1, v.2.2.2.2.2.2.2.2.2.1, v.2.2.2.2.2.2.2.2.2.2.1, v.2.2.2.2.2.2.2.2.2.2.2.1, v.2.2.2.2.2.2.2.2.2.2.2.2.1, v.2.2.2.2.2.2.2.2.2.2.2.2.2.1, v.2.2.2.2.2.2.2.2.2.2.2.2.2.2.1, v.2.2.2.2.2.2.2.2.2.2.2.2.2.2.2.1, v.2.2.2.2.2.2.2.2.2.2.2.2.2.2.2.2)
def rX4_buys (i : Int32) (v : MS) : Int32 :=
  if i < 0 then
    (-1)
  else
    if i < v.2.2.2.2.2.2.2.2.2.2.2.2.2.2.2.2 then
      v.2.2.2.2.2.2.2.2.2.2.2.2.2.2.2.1 i.toNatClampNeg
    else
      (-1)
set_option maxHeartbeats 4000000 in
set_option maxRecDepth 100000 in
theorem kX4_buys (l : Launch) (dC : Nat → ClassId) (dI : Nat → Nat → Nat) (cI cJ : ClassId) (m0 m1 m2 m3 m4 m5 : Nat) (sz : Nat) (i : Int32) (v : MS) (hp : v.2.2.2.2.2.2.2.2.2.2.2.2.2.2.2.2.toInt ≤ 12) : Met l yX4_buys wsX4_buys ({ frames := 0, cells := 0, slots := 0, locals := 0 }) (va_Pc [.ref m0, .int i] (fun U => U.heap.size = sz ∧ va_P (dC, dI) vwCl [cM0 m0 m1 m2 m3 m4 m5 v, cM1 cI m1 v, cM2 cJ m2 v, cM3 cJ m3 v, cM4 cI m4 v, cM5 cI m5 v] U.heap ∧ va_K (dC, dI) vwCl [(cI, .int), (cJ, .long)] U ∧ va_D (fun _ => True) [cM0 m0 m1 m2 m3 m4 m5 v, cM1 cI m1 v, cM2 cJ m2 v, cM3 cJ m3 v, cM4 cI m4 v, cM5 cI m5 v])) (va_Qi (fun (r : Int32) (_ : Unit) => r = rX4_buys i v) (fun _ t => va_P (dC, dI) vwCl [cM0 m0 m1 m2 m3 m4 m5 (sX4_buys i v), cM1 cI m1 (sX4_buys i v), cM2 cJ m2 (sX4_buys i v), cM3 cJ m3 (sX4_buys i v), cM4 cI m4 (sX4_buys i v), cM5 cI m5 (sX4_buys i v)] t.heap ∧ va_K (dC, dI) vwCl [(cI, .int), (cJ, .long)] t ∧ va_D (va_A [cM0 m0 m1 m2 m3 m4 m5 v, cM1 cI m1 v, cM2 cJ m2 v, cM3 cJ m3 v, cM4 cI m4 v, cM5 cI m5 v] sz) [cM0 m0 m1 m2 m3 m4 m5 (sX4_buys i v), cM1 cI m1 (sX4_buys i v), cM2 cJ m2 (sX4_buys i v), cM3 cJ m3 (sX4_buys i v), cM4 cI m4 (sX4_buys i v), cM5 cI m5 (sX4_buys i v)]) (va_A [cM0 m0 m1 m2 m3 m4 m5 v, cM1 cI m1 v, cM2 cJ m2 v, cM3 cJ m3 v, cM4 cI m4 v, cM5 cI m5 v] sz)) 0 0 (va_A [cM0 m0 m1 m2 m3 m4 m5 v, cM1 cI m1 v, cM2 cJ m2 v, cM3 cJ m3 v, cM4 cI m4 v, cM5 cI m5 v] sz) := by
  refine Met.ofW (cc := cX4_buys) (maxL := 2) (ret := (some .int)) (by decide) rfl ?_
  intro p e s m args below meth c s₁ B hml hv
  obtain ⟨rfl, hsz, hP, hK, hD0⟩ := hv
  have hx := B.exec
  have hb := B.bytes
  have hr := B.returns
  have hts := atoms_spec (ws := wsX4_buys) B.pre
  have hown : s.vm.findClass RX4 = some m.cls := findClass_of_methodNamed B.named
  have hlocks := B.notSynchronized
  have hiX4 : ∀ w ∈ u_ws RX4 TX4 17, w ∈ wsX4_buys := by decide +kernel
  subst hsz
  have hD := hD0.self (sz := s.heap.size)
  generalize hAe : va_A [cM0 m0 m1 m2 m3 m4 m5 v, cM1 cI m1 v, cM2 cJ m2 v, cM3 cJ m3 v, cM4 cI m4 v, cM5 cI m5 v] s.heap.size = A at hD ⊢
  have hA : ∀ q : Nat, s.heap.size ≤ q → A q := fun q h => by rw [← hAe]; exact Or.inr h
  have hS : va_S A s.heap s.heap [] := va_S.rf
  have hl := lv_entry ([.ref m0, .int i]) (n := 2) (Nat.le_of_ble_eq_true rfl)
  rw [lg_entry_eq]
  generalize (lg_sl ([.ref m0, .int i]) ++ List.replicate (2 - (lg_sl ([.ref m0, .int i])).length) Slot.unset).toArray = ls at hl ⊢
  have hl : lv_has ls 2 [(0, .ref m0), (1, .int i)] := hl
  have hP : va_P (dC, dI) vwCl [cM0 m0 m1 m2 m3 m4 m5 v, cM1 cI m1 v, cM2 cJ m2 v, cM3 cJ m3 v, cM4 cI m4 v, cM5 cI m5 v] s.heap := hP
  refine lv_aload_n hx hb dX4_buys_0 rfl (lv_at hl 0 rfl) ?_
  refine lv_iconst (v := 0) hx hb dX4_buys_1 (by decide) ?_
  refine va_put (D := (dC, dI)) (ci := 4) (v := .int 0) (ty := .int) (C := RX4) (T := TX4) (N := 17) hx hb hts hiX4 tyX4 tyX4_ok nmX4 hown hK hP hD hS 0 rfl rfl 0 (by decide) (hts (.fieldLink RX4 49 "TripReckonerModel" "thrown" "I") (by decide +kernel)) (fun _ h9 => h9) rfl (by decide +kernel) rfl rfl (Nat.le_of_ble_eq_true rfl) dX4_buys_2 (fun H locs hP hD hS => ?_)
  have hP : va_P (dC, dI) vwCl [(m0, .inr (4, [.int 0, .ref m1, .int v.2.2.1, .ref m2, .ref m3, .int v.2.2.2.2.2.1, .int v.2.2.2.2.2.2.1, .int v.2.2.2.2.2.2.2.1, .int v.2.2.2.2.2.2.2.2.1, .int v.2.2.2.2.2.2.2.2.2.1, .int v.2.2.2.2.2.2.2.2.2.2.1, .int v.2.2.2.2.2.2.2.2.2.2.2.1, .long v.2.2.2.2.2.2.2.2.2.2.2.2.1, .int v.2.2.2.2.2.2.2.2.2.2.2.2.2.1, .ref m4, .ref m5, .int v.2.2.2.2.2.2.2.2.2.2.2.2.2.2.2.2])), (m1, .inl (cI, 60, .inl v.2.1)), (m2, .inl (cJ, 92, .inr (.inl v.2.2.2.1))), (m3, .inl (cJ, 92, .inr (.inl v.2.2.2.2.1))), (m4, .inl (cI, 1573, .inl v.2.2.2.2.2.2.2.2.2.2.2.2.2.2.1)), (m5, .inl (cI, 12, .inl v.2.2.2.2.2.2.2.2.2.2.2.2.2.2.2.1))] H := hP
  have hD : va_D A [(m0, .inr (4, [.int 0, .ref m1, .int v.2.2.1, .ref m2, .ref m3, .int v.2.2.2.2.2.1, .int v.2.2.2.2.2.2.1, .int v.2.2.2.2.2.2.2.1, .int v.2.2.2.2.2.2.2.2.1, .int v.2.2.2.2.2.2.2.2.2.1, .int v.2.2.2.2.2.2.2.2.2.2.1, .int v.2.2.2.2.2.2.2.2.2.2.2.1, .long v.2.2.2.2.2.2.2.2.2.2.2.2.1, .int v.2.2.2.2.2.2.2.2.2.2.2.2.2.1, .ref m4, .ref m5, .int v.2.2.2.2.2.2.2.2.2.2.2.2.2.2.2.2])), (m1, .inl (cI, 60, .inl v.2.1)), (m2, .inl (cJ, 92, .inr (.inl v.2.2.2.1))), (m3, .inl (cJ, 92, .inr (.inl v.2.2.2.2.1))), (m4, .inl (cI, 1573, .inl v.2.2.2.2.2.2.2.2.2.2.2.2.2.2.1)), (m5, .inl (cI, 12, .inl v.2.2.2.2.2.2.2.2.2.2.2.2.2.2.2.1))] := hD
  refine lv_iload_n hx hb dX4_buys_5 rfl (lv_at hl 1 rfl) ?_
  refine lv_if_lt (tgt := 17) hx hb dX4_buys_6 (by decide) (fun c_1 => ?_) (fun c_1 => ?_)
  · refine lv_iconst (v := (-1)) hx hb dX4_buys_17 (by decide) ?_
    refine lv_goto (tgt := 27) hx hb dX4_buys_18 (by decide) ?_
    have es0 : sX4_buys i v = (0, v.2.1, v.2.2.1, v.2.2.2.1, v.2.2.2.2.1, v.2.2.2.2.2.1, v.2.2.2.2.2.2.1, v.2.2.2.2.2.2.2.1, v.2.2.2.2.2.2.2.2.1, v.2.2.2.2.2.2.2.2.2.1, v.2.2.2.2.2.2.2.2.2.2.1, v.2.2.2.2.2.2.2.2.2.2.2.1, v.2.2.2.2.2.2.2.2.2.2.2.2.1, v.2.2.2.2.2.2.2.2.2.2.2.2.2.1, v.2.2.2.2.2.2.2.2.2.2.2.2.2.2.1, v.2.2.2.2.2.2.2.2.2.2.2.2.2.2.2.1, v.2.2.2.2.2.2.2.2.2.2.2.2.2.2.2.2) := by rw [sX4_buys, if_pos c_1]
    have er : (-1) = rX4_buys i v := by rw [rX4_buys, if_pos c_1]
    refine W.iret (v := (-1)) hx hb hr (fun t ht hW => ⟨⟨(-1), (), rfl, er, ?_⟩, hS.F ht⟩) hS.2.2 dX4_buys_27
    rw [es0]; exact ⟨by rw [ht]; exact hP, va_K.moved hW.alike hK, hD⟩
  · refine lv_iload_n hx hb dX4_buys_9 rfl (lv_at hl 1 rfl) ?_
    refine lv_aload_n hx hb dX4_buys_10 rfl (lv_at hl 0 rfl) ?_
    refine va_get (D := (dC, dI)) (ci := 4) (v := .int v.2.2.2.2.2.2.2.2.2.2.2.2.2.2.2.2) (C := RX4) (T := TX4) (N := 17) hx hb hts hiX4 hown hK hP 0 rfl rfl 16 (by decide) (hts (.fieldLink RX4 146 "TripReckonerModel" "stops" "I") (by decide +kernel)) (fun _ h9 => h9) rfl dX4_buys_11 ?_
    refine lv_icmp_lt (tgt := 21) hx hb dX4_buys_14 (by decide) (fun c_2 => ?_) (fun c_2 => ?_)
    · refine lv_aload_n hx hb dX4_buys_21 rfl (lv_at hl 0 rfl) ?_
      refine va_get (D := (dC, dI)) (ci := 4) (v := .ref m5) (C := RX4) (T := TX4) (N := 17) hx hb hts hiX4 hown hK hP 0 rfl rfl 15 (by decide) (hts (.fieldLink RX4 46 "TripReckonerModel" "bought" "[I") (by decide +kernel)) (fun _ h9 => h9) rfl dX4_buys_22 ?_
      refine lv_iload_n hx hb dX4_buys_25 rfl (lv_at hl 1 rfl) ?_
      refine va_iald hx hb hK hP 5 0 rfl rfl (lt_in c_1 (Int32.not_le.mpr c_2) hp) dX4_buys_26 ?_
      have es0 : sX4_buys i v = (0, v.2.1, v.2.2.1, v.2.2.2.1, v.2.2.2.2.1, v.2.2.2.2.2.1, v.2.2.2.2.2.2.1, v.2.2.2.2.2.2.2.1, v.2.2.2.2.2.2.2.2.1, v.2.2.2.2.2.2.2.2.2.1, v.2.2.2.2.2.2.2.2.2.2.1, v.2.2.2.2.2.2.2.2.2.2.2.1, v.2.2.2.2.2.2.2.2.2.2.2.2.1, v.2.2.2.2.2.2.2.2.2.2.2.2.2.1, v.2.2.2.2.2.2.2.2.2.2.2.2.2.2.1, v.2.2.2.2.2.2.2.2.2.2.2.2.2.2.2.1, v.2.2.2.2.2.2.2.2.2.2.2.2.2.2.2.2) := by rw [sX4_buys, if_neg c_1, if_pos c_2]
      have er : v.2.2.2.2.2.2.2.2.2.2.2.2.2.2.2.1 i.toNatClampNeg = rX4_buys i v := by rw [rX4_buys, if_neg c_1, if_pos c_2]
      refine W.iret (v := v.2.2.2.2.2.2.2.2.2.2.2.2.2.2.2.1 i.toNatClampNeg) hx hb hr (fun t ht hW => ⟨⟨v.2.2.2.2.2.2.2.2.2.2.2.2.2.2.2.1 i.toNatClampNeg, (), rfl, er, ?_⟩, hS.F ht⟩) hS.2.2 dX4_buys_27
      rw [es0]; exact ⟨by rw [ht]; exact hP, va_K.moved hW.alike hK, hD⟩
    · refine lv_iconst (v := (-1)) hx hb dX4_buys_17 (by decide) ?_
      refine lv_goto (tgt := 27) hx hb dX4_buys_18 (by decide) ?_
      have es0 : sX4_buys i v = (0, v.2.1, v.2.2.1, v.2.2.2.1, v.2.2.2.2.1, v.2.2.2.2.2.1, v.2.2.2.2.2.2.1, v.2.2.2.2.2.2.2.1, v.2.2.2.2.2.2.2.2.1, v.2.2.2.2.2.2.2.2.2.1, v.2.2.2.2.2.2.2.2.2.2.1, v.2.2.2.2.2.2.2.2.2.2.2.1, v.2.2.2.2.2.2.2.2.2.2.2.2.1, v.2.2.2.2.2.2.2.2.2.2.2.2.2.1, v.2.2.2.2.2.2.2.2.2.2.2.2.2.2.1, v.2.2.2.2.2.2.2.2.2.2.2.2.2.2.2.1, v.2.2.2.2.2.2.2.2.2.2.2.2.2.2.2.2) := by rw [sX4_buys, if_neg c_1, if_neg c_2]
      have er : (-1) = rX4_buys i v := by rw [rX4_buys, if_neg c_1, if_neg c_2]
      refine W.iret (v := (-1)) hx hb hr (fun t ht hW => ⟨⟨(-1), (), rfl, er, ?_⟩, hS.F ht⟩) hS.2.2 dX4_buys_27
      rw [es0]; exact ⟨by rw [ht]; exact hP, va_K.moved hW.alike hK, hD⟩

def sX4_count_g_2 (w : Int32) (v : MS) (g_2 : MS) : MS :=
  if w = 0 then
    g_2
  else
    if w = 1 then
      g_2
    else
      if w = 2 then
        g_2
      else
        if w = 3 then
          g_2
        else
          if w = 4 then
            g_2
          else
            g_2
def sX4_count (w : Int32) (v : MS) : MS :=
  sX4_count_g_2 w v (sX4_begin (0, v.2.1, v.2.2.1, v.2.2.2.1, v.2.2.2.2.1, v.2.2.2.2.2.1, v.2.2.2.2.2.2.1, v.2.2.2.2.2.2.2.1, v.2.2.2.2.2.2.2.2.1, v.2.2.2.2.2.2.2.2.2.1, v.2.2.2.2.2.2.2.2.2.2.1, v.2.2.2.2.2.2.2.2.2.2.2.1, v.2.2.2.2.2.2.2.2.2.2.2.2.1, v.2.2.2.2.2.2.2.2.2.2.2.2.2.1, v.2.2.2.2.2.2.2.2.2.2.2.2.2.2.1, v.2.2.2.2.2.2.2.2.2.2.2.2.2.2.2.1, v.2.2.2.2.2.2.2.2.2.2.2.2.2.2.2.2))
def rX4_count_g_2 (w : Int32) (v : MS) (g_2 : MS) : Int32 :=
  if w = 0 then
    (g_2.2.2.2.1 22).toInt32
  else
    if w = 1 then
      (g_2.2.2.2.1 23).toInt32
    else
      if w = 2 then
        (g_2.2.2.2.1 24).toInt32
      else
        if w = 3 then
          (g_2.2.2.2.1 26).toInt32
        else
          if w = 4 then
            g_2.2.2.1
          else
            (-1)
def rX4_count (w : Int32) (v : MS) : Int32 :=
  rX4_count_g_2 w v (sX4_begin (0, v.2.1, v.2.2.1, v.2.2.2.1, v.2.2.2.2.1, v.2.2.2.2.2.1, v.2.2.2.2.2.2.1, v.2.2.2.2.2.2.2.1, v.2.2.2.2.2.2.2.2.1, v.2.2.2.2.2.2.2.2.2.1, v.2.2.2.2.2.2.2.2.2.2.1, v.2.2.2.2.2.2.2.2.2.2.2.1, v.2.2.2.2.2.2.2.2.2.2.2.2.1, v.2.2.2.2.2.2.2.2.2.2.2.2.2.1, v.2.2.2.2.2.2.2.2.2.2.2.2.2.2.1, v.2.2.2.2.2.2.2.2.2.2.2.2.2.2.2.1, v.2.2.2.2.2.2.2.2.2.2.2.2.2.2.2.2))
set_option maxHeartbeats 4000000 in
set_option maxRecDepth 100000 in
theorem kX4_count (l : Launch) (dC : Nat → ClassId) (dI : Nat → Nat → Nat) (cI cJ : ClassId) (m0 m1 m2 m3 m4 m5 : Nat) (sz : Nat) (w : Int32) (v : MS) : Met l yX4_count wsX4_count ({ frames := 2, cells := 0, slots := 0, locals := 42 }) (va_Pc [.ref m0, .int w] (fun U => U.heap.size = sz ∧ va_P (dC, dI) vwCl [cM0 m0 m1 m2 m3 m4 m5 v, cM1 cI m1 v, cM2 cJ m2 v, cM3 cJ m3 v, cM4 cI m4 v, cM5 cI m5 v] U.heap ∧ va_K (dC, dI) vwCl [(cI, .int), (cJ, .long)] U ∧ va_D (fun _ => True) [cM0 m0 m1 m2 m3 m4 m5 v, cM1 cI m1 v, cM2 cJ m2 v, cM3 cJ m3 v, cM4 cI m4 v, cM5 cI m5 v])) (va_Qi (fun (r : Int32) (_ : Unit) => r = rX4_count w v) (fun _ t => va_P (dC, dI) vwCl [cM0 m0 m1 m2 m3 m4 m5 (sX4_count w v), cM1 cI m1 (sX4_count w v), cM2 cJ m2 (sX4_count w v), cM3 cJ m3 (sX4_count w v), cM4 cI m4 (sX4_count w v), cM5 cI m5 (sX4_count w v)] t.heap ∧ va_K (dC, dI) vwCl [(cI, .int), (cJ, .long)] t ∧ va_D (va_A [cM0 m0 m1 m2 m3 m4 m5 v, cM1 cI m1 v, cM2 cJ m2 v, cM3 cJ m3 v, cM4 cI m4 v, cM5 cI m5 v] sz) [cM0 m0 m1 m2 m3 m4 m5 (sX4_count w v), cM1 cI m1 (sX4_count w v), cM2 cJ m2 (sX4_count w v), cM3 cJ m3 (sX4_count w v), cM4 cI m4 (sX4_count w v), cM5 cI m5 (sX4_count w v)]) (va_A [cM0 m0 m1 m2 m3 m4 m5 v, cM1 cI m1 v, cM2 cJ m2 v, cM3 cJ m3 v, cM4 cI m4 v, cM5 cI m5 v] sz)) 0 0 (va_A [cM0 m0 m1 m2 m3 m4 m5 v, cM1 cI m1 v, cM2 cJ m2 v, cM3 cJ m3 v, cM4 cI m4 v, cM5 cI m5 v] sz) := by
  refine Met.ofW (cc := cX4_count) (maxL := 2) (ret := (some .int)) (by decide) rfl ?_
  intro p e s m args below meth c s₁ B hml hv
  obtain ⟨rfl, hsz, hP, hK, hD0⟩ := hv
  have hx := B.exec
  have hb := B.bytes
  have hr := B.returns
  have hts := atoms_spec (ws := wsX4_count) B.pre
  have hown : s.vm.findClass RX4 = some m.cls := findClass_of_methodNamed B.named
  have hlocks := B.notSynchronized
  have hiX4 : ∀ w ∈ u_ws RX4 TX4 17, w ∈ wsX4_count := by decide +kernel
  subst hsz
  have hD := hD0.self (sz := s.heap.size)
  generalize hAe : va_A [cM0 m0 m1 m2 m3 m4 m5 v, cM1 cI m1 v, cM2 cJ m2 v, cM3 cJ m3 v, cM4 cI m4 v, cM5 cI m5 v] s.heap.size = A at hD ⊢
  have hA : ∀ q : Nat, s.heap.size ≤ q → A q := fun q h => by rw [← hAe]; exact Or.inr h
  have hS : va_S A s.heap s.heap [] := va_S.rf
  have hl := lv_entry ([.ref m0, .int w]) (n := 2) (Nat.le_of_ble_eq_true rfl)
  rw [lg_entry_eq]
  generalize (lg_sl ([.ref m0, .int w]) ++ List.replicate (2 - (lg_sl ([.ref m0, .int w])).length) Slot.unset).toArray = ls at hl ⊢
  have hl : lv_has ls 2 [(0, .ref m0), (1, .int w)] := hl
  have hP : va_P (dC, dI) vwCl [cM0 m0 m1 m2 m3 m4 m5 v, cM1 cI m1 v, cM2 cJ m2 v, cM3 cJ m3 v, cM4 cI m4 v, cM5 cI m5 v] s.heap := hP
  refine lv_aload_n hx hb dX4_count_0 rfl (lv_at hl 0 rfl) ?_
  refine lv_iconst (v := 0) hx hb dX4_count_1 (by decide) ?_
  refine va_put (D := (dC, dI)) (ci := 4) (v := .int 0) (ty := .int) (C := RX4) (T := TX4) (N := 17) hx hb hts hiX4 tyX4 tyX4_ok nmX4 hown hK hP hD hS 0 rfl rfl 0 (by decide) (hts (.fieldLink RX4 49 "TripReckonerModel" "thrown" "I") (by decide +kernel)) (fun _ h9 => h9) rfl (by decide +kernel) rfl rfl (Nat.le_of_ble_eq_true rfl) dX4_count_2 (fun H locs hP hD hS => ?_)
  have hP : va_P (dC, dI) vwCl [(m0, .inr (4, [.int 0, .ref m1, .int v.2.2.1, .ref m2, .ref m3, .int v.2.2.2.2.2.1, .int v.2.2.2.2.2.2.1, .int v.2.2.2.2.2.2.2.1, .int v.2.2.2.2.2.2.2.2.1, .int v.2.2.2.2.2.2.2.2.2.1, .int v.2.2.2.2.2.2.2.2.2.2.1, .int v.2.2.2.2.2.2.2.2.2.2.2.1, .long v.2.2.2.2.2.2.2.2.2.2.2.2.1, .int v.2.2.2.2.2.2.2.2.2.2.2.2.2.1, .ref m4, .ref m5, .int v.2.2.2.2.2.2.2.2.2.2.2.2.2.2.2.2])), (m1, .inl (cI, 60, .inl v.2.1)), (m2, .inl (cJ, 92, .inr (.inl v.2.2.2.1))), (m3, .inl (cJ, 92, .inr (.inl v.2.2.2.2.1))), (m4, .inl (cI, 1573, .inl v.2.2.2.2.2.2.2.2.2.2.2.2.2.2.1)), (m5, .inl (cI, 12, .inl v.2.2.2.2.2.2.2.2.2.2.2.2.2.2.2.1))] H := hP
  have hD : va_D A [(m0, .inr (4, [.int 0, .ref m1, .int v.2.2.1, .ref m2, .ref m3, .int v.2.2.2.2.2.1, .int v.2.2.2.2.2.2.1, .int v.2.2.2.2.2.2.2.1, .int v.2.2.2.2.2.2.2.2.1, .int v.2.2.2.2.2.2.2.2.2.1, .int v.2.2.2.2.2.2.2.2.2.2.1, .int v.2.2.2.2.2.2.2.2.2.2.2.1, .long v.2.2.2.2.2.2.2.2.2.2.2.2.1, .int v.2.2.2.2.2.2.2.2.2.2.2.2.2.1, .ref m4, .ref m5, .int v.2.2.2.2.2.2.2.2.2.2.2.2.2.2.2.2])), (m1, .inl (cI, 60, .inl v.2.1)), (m2, .inl (cJ, 92, .inr (.inl v.2.2.2.1))), (m3, .inl (cJ, 92, .inr (.inl v.2.2.2.2.1))), (m4, .inl (cI, 1573, .inl v.2.2.2.2.2.2.2.2.2.2.2.2.2.2.1)), (m5, .inl (cI, 12, .inl v.2.2.2.2.2.2.2.2.2.2.2.2.2.2.2.1))] := hD
  refine lv_aload_n hx hb dX4_count_5 rfl (lv_at hl 0 rfl) ?_
  have hPc := hP.sub (ws' := [(m0, .inr (4, [.int 0, .ref m1, .int v.2.2.1, .ref m2, .ref m3, .int v.2.2.2.2.2.1, .int v.2.2.2.2.2.2.1, .int v.2.2.2.2.2.2.2.1, .int v.2.2.2.2.2.2.2.2.1, .int v.2.2.2.2.2.2.2.2.2.1, .int v.2.2.2.2.2.2.2.2.2.2.1, .int v.2.2.2.2.2.2.2.2.2.2.2.1, .long v.2.2.2.2.2.2.2.2.2.2.2.2.1, .int v.2.2.2.2.2.2.2.2.2.2.2.2.2.1, .ref m4, .ref m5, .int v.2.2.2.2.2.2.2.2.2.2.2.2.2.2.2.2])), (m1, .inl (cI, 60, .inl v.2.1)), (m2, .inl (cJ, 92, .inr (.inl v.2.2.2.1))), (m3, .inl (cJ, 92, .inr (.inl v.2.2.2.2.1))), (m4, .inl (cI, 1573, .inl v.2.2.2.2.2.2.2.2.2.2.2.2.2.2.1)), (m5, .inl (cI, 12, .inl v.2.2.2.2.2.2.2.2.2.2.2.2.2.2.2.1))]) [0, 1, 2, 3, 4, 5] rfl
  have hDc := hD.sub (ws' := [(m0, .inr (4, [.int 0, .ref m1, .int v.2.2.1, .ref m2, .ref m3, .int v.2.2.2.2.2.1, .int v.2.2.2.2.2.2.1, .int v.2.2.2.2.2.2.2.1, .int v.2.2.2.2.2.2.2.2.1, .int v.2.2.2.2.2.2.2.2.2.1, .int v.2.2.2.2.2.2.2.2.2.2.1, .int v.2.2.2.2.2.2.2.2.2.2.2.1, .long v.2.2.2.2.2.2.2.2.2.2.2.2.1, .int v.2.2.2.2.2.2.2.2.2.2.2.2.2.1, .ref m4, .ref m5, .int v.2.2.2.2.2.2.2.2.2.2.2.2.2.2.2.2])), (m1, .inl (cI, 60, .inl v.2.1)), (m2, .inl (cJ, 92, .inr (.inl v.2.2.2.1))), (m3, .inl (cJ, 92, .inr (.inl v.2.2.2.2.1))), (m4, .inl (cI, 1573, .inl v.2.2.2.2.2.2.2.2.2.2.2.2.2.2.1)), (m5, .inl (cI, 12, .inl v.2.2.2.2.2.2.2.2.2.2.2.2.2.2.2.1))]) [0, 1, 2, 3, 4, 5] (by decide) rfl
  have hFc := va_free (wc := [(m0, .inr (4, [.int 0, .ref m1, .int v.2.2.1, .ref m2, .ref m3, .int v.2.2.2.2.2.1, .int v.2.2.2.2.2.2.1, .int v.2.2.2.2.2.2.2.1, .int v.2.2.2.2.2.2.2.2.1, .int v.2.2.2.2.2.2.2.2.2.1, .int v.2.2.2.2.2.2.2.2.2.2.1, .int v.2.2.2.2.2.2.2.2.2.2.2.1, .long v.2.2.2.2.2.2.2.2.2.2.2.2.1, .int v.2.2.2.2.2.2.2.2.2.2.2.2.2.1, .ref m4, .ref m5, .int v.2.2.2.2.2.2.2.2.2.2.2.2.2.2.2.2])), (m1, .inl (cI, 60, .inl v.2.1)), (m2, .inl (cJ, 92, .inr (.inl v.2.2.2.1))), (m3, .inl (cJ, 92, .inr (.inl v.2.2.2.2.1))), (m4, .inl (cI, 1573, .inl v.2.2.2.2.2.2.2.2.2.2.2.2.2.2.1)), (m5, .inl (cI, 12, .inl v.2.2.2.2.2.2.2.2.2.2.2.2.2.2.2.1))]) hD hS hA [0, 1, 2, 3, 4, 5] rfl
  refine va_callv (va_runV (As := []) (rest := []) ⟨hx, hb, hml, hown, hts⟩ (kX4_begin l dC dI cI cJ m0 m1 m2 m3 m4 m5 H.size (0, v.2.1, v.2.2.1, v.2.2.2.1, v.2.2.2.2.1, v.2.2.2.2.2.1, v.2.2.2.2.2.2.1, v.2.2.2.2.2.2.2.1, v.2.2.2.2.2.2.2.2.1, v.2.2.2.2.2.2.2.2.2.1, v.2.2.2.2.2.2.2.2.2.2.1, v.2.2.2.2.2.2.2.2.2.2.2.1, v.2.2.2.2.2.2.2.2.2.2.2.2.1, v.2.2.2.2.2.2.2.2.2.2.2.2.2.1, v.2.2.2.2.2.2.2.2.2.2.2.2.2.2.1, v.2.2.2.2.2.2.2.2.2.2.2.2.2.2.2.1, v.2.2.2.2.2.2.2.2.2.2.2.2.2.2.2.2)) (cwV 0 hts gX4_count_X4_begin rfl rfl rfl (by decide +kernel) ⟨Nat.le_of_ble_eq_true rfl, Nat.le_of_ble_eq_true rfl⟩) ⟨fun a U g mk q => by obtain ⟨q0, q1, qP, qK, qD⟩ := q; exact ⟨q0, q1, qP, va_K.moved (u := U) (U := U.calling g mk a) (Vm.Alike.refl U.vm) qK, qD⟩, va_recv hK hPc (ci := 4) (q0 := 0) rfl rfl, fun U hU hW => ⟨rfl, by rw [hU], by rw [hU]; exact hPc, va_K.moved hW.alike hK, hDc.weaken (fun _ _ _ _ => trivial)⟩⟩ rfl rfl hl.1 rfl (lv_room (Nat.le_of_ble_eq_true rfl)) dX4_count_6 ⟨Nat.le_of_ble_eq_true rfl, Nat.le_of_ble_eq_true rfl⟩) hS (fun q _ h => hFc q h) hFc (fun _ t H1 locs ht hvm hw hB hz1 hk1 hS => ?_)
  obtain ⟨hP1, hK1, hD1⟩ := hB
  rw [ht] at hP1
  obtain ⟨g_2, eg_2⟩ : ∃ z, z = sX4_begin (0, v.2.1, v.2.2.1, v.2.2.2.1, v.2.2.2.2.1, v.2.2.2.2.2.1, v.2.2.2.2.2.2.1, v.2.2.2.2.2.2.2.1, v.2.2.2.2.2.2.2.2.1, v.2.2.2.2.2.2.2.2.2.1, v.2.2.2.2.2.2.2.2.2.2.1, v.2.2.2.2.2.2.2.2.2.2.2.1, v.2.2.2.2.2.2.2.2.2.2.2.2.1, v.2.2.2.2.2.2.2.2.2.2.2.2.2.1, v.2.2.2.2.2.2.2.2.2.2.2.2.2.2.1, v.2.2.2.2.2.2.2.2.2.2.2.2.2.2.2.1, v.2.2.2.2.2.2.2.2.2.2.2.2.2.2.2.2) := ⟨_, rfl⟩
  rw [← eg_2] at hP1 hD1
  obtain ⟨hP, hD⟩ := va_join (wr := []) (w1 := [cM0 m0 m1 m2 m3 m4 m5 g_2, cM1 cI m1 g_2, cM2 cJ m2 g_2, cM3 cJ m3 g_2, cM4 cI m4 g_2, cM5 cI m5 g_2]) hP hD [0, 1, 2, 3, 4, 5] [] rfl rfl (by decide) (by decide) hk1 hFc hP1 hD1
  generalize H1 = H at hP hS ⊢
  have hP : va_P (dC, dI) vwCl [cM0 m0 m1 m2 m3 m4 m5 g_2, cM1 cI m1 g_2, cM2 cJ m2 g_2, cM3 cJ m3 g_2, cM4 cI m4 g_2, cM5 cI m5 g_2] H := hP
  have hD : va_D A [cM0 m0 m1 m2 m3 m4 m5 g_2, cM1 cI m1 g_2, cM2 cJ m2 g_2, cM3 cJ m3 g_2, cM4 cI m4 g_2, cM5 cI m5 g_2] := hD
  refine lv_iload_n hx hb dX4_count_9 rfl (lv_at hl 1 rfl) ?_
  by_cases c_3 : w = 0
  · refine lv_tableIn (off := 34) (tgt := 44) hx hb dX4_count_10 (by rw [c_3]; decide) (by rw [c_3]; decide) (by rw [c_3]; rfl) (by decide) ?_
    refine lv_aload_n hx hb dX4_count_44 rfl (lv_at hl 0 rfl) ?_
    refine va_get (D := (dC, dI)) (ci := 4) (v := .ref m2) (C := RX4) (T := TX4) (N := 17) hx hb hts hiX4 hown hK hP 0 rfl rfl 3 (by decide) (hts (.fieldLink RX4 13 "TripReckonerModel" "now" "[J") (by decide +kernel)) (fun _ h9 => h9) rfl dX4_count_45 ?_
    refine lv_bipush (v := 22) hx hb dX4_count_48 (by decide) ?_
    refine va_lald hx hb hK hP 2 1 rfl rfl (vd (by decide +kernel)) dX4_count_50 ?_
    refine lv_topl (fun z_4 ez_4 => ?_)
    have ez_4 : z_4 = g_2.2.2.2.1 22 := ez_4
    subst ez_4
    refine lv_l2i (v := (g_2.2.2.2.1 22).toInt32) hx hb dX4_count_51 rfl ?_
    have es0 : sX4_count w v = g_2 := by rw [sX4_count, ← eg_2, sX4_count_g_2, if_pos c_3]
    have er : (g_2.2.2.2.1 22).toInt32 = rX4_count w v := by rw [rX4_count, ← eg_2, rX4_count_g_2, if_pos c_3]
    refine W.iret (v := (g_2.2.2.2.1 22).toInt32) hx hb hr (fun t ht hW => ⟨⟨(g_2.2.2.2.1 22).toInt32, (), rfl, er, ?_⟩, hS.F ht⟩) hS.2.2 dX4_count_52
    rw [es0]; exact ⟨by rw [ht]; exact hP, va_K.moved hW.alike hK, hD⟩
  by_cases c_5 : w = 1
  · refine lv_tableIn (off := 43) (tgt := 53) hx hb dX4_count_10 (by rw [c_5]; decide) (by rw [c_5]; decide) (by rw [c_5]; rfl) (by decide) ?_
    refine lv_aload_n hx hb dX4_count_53 rfl (lv_at hl 0 rfl) ?_
    refine va_get (D := (dC, dI)) (ci := 4) (v := .ref m2) (C := RX4) (T := TX4) (N := 17) hx hb hts hiX4 hown hK hP 0 rfl rfl 3 (by decide) (hts (.fieldLink RX4 13 "TripReckonerModel" "now" "[J") (by decide +kernel)) (fun _ h9 => h9) rfl dX4_count_54 ?_
    refine lv_bipush (v := 23) hx hb dX4_count_57 (by decide) ?_
    refine va_lald hx hb hK hP 2 1 rfl rfl (vd (by decide +kernel)) dX4_count_59 ?_
    refine lv_topl (fun z_6 ez_6 => ?_)
    have ez_6 : z_6 = g_2.2.2.2.1 23 := ez_6
    subst ez_6
    refine lv_l2i (v := (g_2.2.2.2.1 23).toInt32) hx hb dX4_count_60 rfl ?_
    have es0 : sX4_count w v = g_2 := by rw [sX4_count, ← eg_2, sX4_count_g_2, if_neg c_3, if_pos c_5]
    have er : (g_2.2.2.2.1 23).toInt32 = rX4_count w v := by rw [rX4_count, ← eg_2, rX4_count_g_2, if_neg c_3, if_pos c_5]
    refine W.iret (v := (g_2.2.2.2.1 23).toInt32) hx hb hr (fun t ht hW => ⟨⟨(g_2.2.2.2.1 23).toInt32, (), rfl, er, ?_⟩, hS.F ht⟩) hS.2.2 dX4_count_61
    rw [es0]; exact ⟨by rw [ht]; exact hP, va_K.moved hW.alike hK, hD⟩
  by_cases c_7 : w = 2
  · refine lv_tableIn (off := 52) (tgt := 62) hx hb dX4_count_10 (by rw [c_7]; decide) (by rw [c_7]; decide) (by rw [c_7]; rfl) (by decide) ?_
    refine lv_aload_n hx hb dX4_count_62 rfl (lv_at hl 0 rfl) ?_
    refine va_get (D := (dC, dI)) (ci := 4) (v := .ref m2) (C := RX4) (T := TX4) (N := 17) hx hb hts hiX4 hown hK hP 0 rfl rfl 3 (by decide) (hts (.fieldLink RX4 13 "TripReckonerModel" "now" "[J") (by decide +kernel)) (fun _ h9 => h9) rfl dX4_count_63 ?_
    refine lv_bipush (v := 24) hx hb dX4_count_66 (by decide) ?_
    refine va_lald hx hb hK hP 2 1 rfl rfl (vd (by decide +kernel)) dX4_count_68 ?_
    refine lv_topl (fun z_8 ez_8 => ?_)
    have ez_8 : z_8 = g_2.2.2.2.1 24 := ez_8
    subst ez_8
    refine lv_l2i (v := (g_2.2.2.2.1 24).toInt32) hx hb dX4_count_69 rfl ?_
    have es0 : sX4_count w v = g_2 := by rw [sX4_count, ← eg_2, sX4_count_g_2, if_neg c_3, if_neg c_5, if_pos c_7]
    have er : (g_2.2.2.2.1 24).toInt32 = rX4_count w v := by rw [rX4_count, ← eg_2, rX4_count_g_2, if_neg c_3, if_neg c_5, if_pos c_7]
    refine W.iret (v := (g_2.2.2.2.1 24).toInt32) hx hb hr (fun t ht hW => ⟨⟨(g_2.2.2.2.1 24).toInt32, (), rfl, er, ?_⟩, hS.F ht⟩) hS.2.2 dX4_count_70
    rw [es0]; exact ⟨by rw [ht]; exact hP, va_K.moved hW.alike hK, hD⟩
  by_cases c_9 : w = 3
  · refine lv_tableIn (off := 61) (tgt := 71) hx hb dX4_count_10 (by rw [c_9]; decide) (by rw [c_9]; decide) (by rw [c_9]; rfl) (by decide) ?_
    refine lv_aload_n hx hb dX4_count_71 rfl (lv_at hl 0 rfl) ?_
    refine va_get (D := (dC, dI)) (ci := 4) (v := .ref m2) (C := RX4) (T := TX4) (N := 17) hx hb hts hiX4 hown hK hP 0 rfl rfl 3 (by decide) (hts (.fieldLink RX4 13 "TripReckonerModel" "now" "[J") (by decide +kernel)) (fun _ h9 => h9) rfl dX4_count_72 ?_
    refine lv_bipush (v := 26) hx hb dX4_count_75 (by decide) ?_
    refine va_lald hx hb hK hP 2 1 rfl rfl (vd (by decide +kernel)) dX4_count_77 ?_
    refine lv_topl (fun z_10 ez_10 => ?_)
    have ez_10 : z_10 = g_2.2.2.2.1 26 := ez_10
    subst ez_10
    refine lv_l2i (v := (g_2.2.2.2.1 26).toInt32) hx hb dX4_count_78 rfl ?_
    have es0 : sX4_count w v = g_2 := by rw [sX4_count, ← eg_2, sX4_count_g_2, if_neg c_3, if_neg c_5, if_neg c_7, if_pos c_9]
    have er : (g_2.2.2.2.1 26).toInt32 = rX4_count w v := by rw [rX4_count, ← eg_2, rX4_count_g_2, if_neg c_3, if_neg c_5, if_neg c_7, if_pos c_9]
    refine W.iret (v := (g_2.2.2.2.1 26).toInt32) hx hb hr (fun t ht hW => ⟨⟨(g_2.2.2.2.1 26).toInt32, (), rfl, er, ?_⟩, hS.F ht⟩) hS.2.2 dX4_count_79
    rw [es0]; exact ⟨by rw [ht]; exact hP, va_K.moved hW.alike hK, hD⟩
  by_cases c_11 : w = 4
  · refine lv_tableIn (off := 70) (tgt := 80) hx hb dX4_count_10 (by rw [c_11]; decide) (by rw [c_11]; decide) (by rw [c_11]; rfl) (by decide) ?_
    refine lv_aload_n hx hb dX4_count_80 rfl (lv_at hl 0 rfl) ?_
    refine va_get (D := (dC, dI)) (ci := 4) (v := .int g_2.2.2.1) (C := RX4) (T := TX4) (N := 17) hx hb hts hiX4 hown hK hP 0 rfl rfl 2 (by decide) (hts (.fieldLink RX4 52 "TripReckonerModel" "taped" "I") (by decide +kernel)) (fun _ h9 => h9) rfl dX4_count_81 ?_
    have es0 : sX4_count w v = g_2 := by rw [sX4_count, ← eg_2, sX4_count_g_2, if_neg c_3, if_neg c_5, if_neg c_7, if_neg c_9, if_pos c_11]
    have er : g_2.2.2.1 = rX4_count w v := by rw [rX4_count, ← eg_2, rX4_count_g_2, if_neg c_3, if_neg c_5, if_neg c_7, if_neg c_9, if_pos c_11]
    refine W.iret (v := g_2.2.2.1) hx hb hr (fun t ht hW => ⟨⟨g_2.2.2.1, (), rfl, er, ?_⟩, hS.F ht⟩) hS.2.2 dX4_count_84
    rw [es0]; exact ⟨by rw [ht]; exact hP, va_K.moved hW.alike hK, hD⟩
  refine lv_tableOut (tgt := 85) hx hb dX4_count_10 (sw_out4 _ c_3 c_5 c_7 c_9 c_11) (by decide) ?_
  refine lv_iconst (v := (-1)) hx hb dX4_count_85 (by decide) ?_
  have es0 : sX4_count w v = g_2 := by rw [sX4_count, ← eg_2, sX4_count_g_2, if_neg c_3, if_neg c_5, if_neg c_7, if_neg c_9, if_neg c_11]
  have er : (-1) = rX4_count w v := by rw [rX4_count, ← eg_2, rX4_count_g_2, if_neg c_3, if_neg c_5, if_neg c_7, if_neg c_9, if_neg c_11]
  refine W.iret (v := (-1)) hx hb hr (fun t ht hW => ⟨⟨(-1), (), rfl, er, ?_⟩, hS.F ht⟩) hS.2.2 dX4_count_86
  rw [es0]; exact ⟨by rw [ht]; exact hP, va_K.moved hW.alike hK, hD⟩
