def sX4_settle (v : MS) : MS :=
  if (lg_cmp (((v.2.2.2.1 0) + (v.2.2.2.1 28)) - (v.2.2.2.1 31)) (v.2.2.2.1 ((rX4_place ((v.2.2.2.1 22) - 1)).toNatClampNeg))) ≤ 0 then
    if 0 ≤ (lg_cmp (((v.2.2.2.1 1) + (v.2.2.2.1 29)) - (v.2.2.2.1 30)) (v.2.2.2.1 (((rX4_place ((v.2.2.2.1 22) - 1)) + 1).toNatClampNeg))) then
      v
    else
      (v.1, v.2.1, v.2.2.1, vp_updL v.2.2.2.1 (((rX4_place ((v.2.2.2.1 22) - 1)) + 1).toNatClampNeg) (((v.2.2.2.1 1) + (v.2.2.2.1 29)) - (v.2.2.2.1 30)), v.2.2.2.2.1, v.2.2.2.2.2.1, v.2.2.2.2.2.2.1, v.2.2.2.2.2.2.2.1, v.2.2.2.2.2.2.2.2.1, v.2.2.2.2.2.2.2.2.2.1, v.2.2.2.2.2.2.2.2.2.2.1, v.2.2.2.2.2.2.2.2.2.2.2.1, v.2.2.2.2.2.2.2.2.2.2.2.2.1, v.2.2.2.2.2.2.2.2.2.2.2.2.2.1, v.2.2.2.2.2.2.2.2.2.2.2.2.2.2.1, v.2.2.2.2.2.2.2.2.2.2.2.2.2.2.2.1, v.2.2.2.2.2.2.2.2.2.2.2.2.2.2.2.2)
  else
    if 0 ≤ (lg_cmp (((v.2.2.2.1 1) + (v.2.2.2.1 29)) - (v.2.2.2.1 30)) ((vp_updL v.2.2.2.1 ((rX4_place ((v.2.2.2.1 22) - 1)).toNatClampNeg) (((v.2.2.2.1 0) + (v.2.2.2.1 28)) - (v.2.2.2.1 31))) (((rX4_place ((v.2.2.2.1 22) - 1)) + 1).toNatClampNeg))) then
      (v.1, v.2.1, v.2.2.1, vp_updL v.2.2.2.1 ((rX4_place ((v.2.2.2.1 22) - 1)).toNatClampNeg) (((v.2.2.2.1 0) + (v.2.2.2.1 28)) - (v.2.2.2.1 31)), v.2.2.2.2.1, v.2.2.2.2.2.1, v.2.2.2.2.2.2.1, v.2.2.2.2.2.2.2.1, v.2.2.2.2.2.2.2.2.1, v.2.2.2.2.2.2.2.2.2.1, v.2.2.2.2.2.2.2.2.2.2.1, v.2.2.2.2.2.2.2.2.2.2.2.1, v.2.2.2.2.2.2.2.2.2.2.2.2.1, v.2.2.2.2.2.2.2.2.2.2.2.2.2.1, v.2.2.2.2.2.2.2.2.2.2.2.2.2.2.1, v.2.2.2.2.2.2.2.2.2.2.2.2.2.2.2.1, v.2.2.2.2.2.2.2.2.2.2.2.2.2.2.2.2)
    else
      (v.1, v.2.1, v.2.2.1, vp_updL (vp_updL v.2.2.2.1 ((rX4_place ((v.2.2.2.1 22) - 1)).toNatClampNeg) (((v.2.2.2.1 0) + (v.2.2.2.1 28)) - (v.2.2.2.1 31))) (((rX4_place ((v.2.2.2.1 22) - 1)) + 1).toNatClampNeg) (((v.2.2.2.1 1) + (v.2.2.2.1 29)) - (v.2.2.2.1 30)), v.2.2.2.2.1, v.2.2.2.2.2.1, v.2.2.2.2.2.2.1, v.2.2.2.2.2.2.2.1, v.2.2.2.2.2.2.2.2.1, v.2.2.2.2.2.2.2.2.2.1, v.2.2.2.2.2.2.2.2.2.2.1, v.2.2.2.2.2.2.2.2.2.2.2.1, v.2.2.2.2.2.2.2.2.2.2.2.2.1, v.2.2.2.2.2.2.2.2.2.2.2.2.2.1, v.2.2.2.2.2.2.2.2.2.2.2.2.2.2.1, v.2.2.2.2.2.2.2.2.2.2.2.2.2.2.2.1, v.2.2.2.2.2.2.2.2.2.2.2.2.2.2.2.2)
set_option maxHeartbeats 4000000 in
set_option maxRecDepth 100000 in
theorem kX4_settle (l : Launch) (dC : Nat → ClassId) (dI : Nat → Nat → Nat) (cI cJ : ClassId) (m0 m1 m2 m3 m4 m5 : Nat) (sz : Nat)  (v : MS) (hs : 0 ≤ v.2.2.2.1 22 - 1) : Met l yX4_settle wsX4_settle ({ frames := 1, cells := 0, slots := 0, locals := 21 }) (va_Pc [.ref m0] (fun U => U.heap.size = sz ∧ va_P (dC, dI) vwCl [cM0 m0 m1 m2 m3 m4 m5 v, cM1 cI m1 v, cM2 cJ m2 v, cM3 cJ m3 v, cM4 cI m4 v, cM5 cI m5 v] U.heap ∧ va_K (dC, dI) vwCl [(cI, .int), (cJ, .long)] U ∧ va_D (fun _ => True) [cM0 m0 m1 m2 m3 m4 m5 v, cM1 cI m1 v, cM2 cJ m2 v, cM3 cJ m3 v, cM4 cI m4 v, cM5 cI m5 v])) (va_Qv (fun _ : Unit => True) (fun _ t => va_P (dC, dI) vwCl [cM0 m0 m1 m2 m3 m4 m5 (sX4_settle v), cM1 cI m1 (sX4_settle v), cM2 cJ m2 (sX4_settle v), cM3 cJ m3 (sX4_settle v), cM4 cI m4 (sX4_settle v), cM5 cI m5 (sX4_settle v)] t.heap ∧ va_K (dC, dI) vwCl [(cI, .int), (cJ, .long)] t ∧ va_D (va_A [cM0 m0 m1 m2 m3 m4 m5 v, cM1 cI m1 v, cM2 cJ m2 v, cM3 cJ m3 v, cM4 cI m4 v, cM5 cI m5 v] sz) [cM0 m0 m1 m2 m3 m4 m5 (sX4_settle v), cM1 cI m1 (sX4_settle v), cM2 cJ m2 (sX4_settle v), cM3 cJ m3 (sX4_settle v), cM4 cI m4 (sX4_settle v), cM5 cI m5 (sX4_settle v)]) (va_A [cM0 m0 m1 m2 m3 m4 m5 v, cM1 cI m1 v, cM2 cJ m2 v, cM3 cJ m3 v, cM4 cI m4 v, cM5 cI m5 v] sz)) 0 0 (va_A [cM0 m0 m1 m2 m3 m4 m5 v, cM1 cI m1 v, cM2 cJ m2 v, cM3 cJ m3 v, cM4 cI m4 v, cM5 cI m5 v] sz) := by
  refine Met.ofW (cc := cX4_settle) (maxL := 6) (ret := none) (by decide) rfl ?_
  intro p e s m args below meth c s₁ B hml hv
  obtain ⟨rfl, hsz, hP, hK, hD0⟩ := hv
  have hx := B.exec
  have hb := B.bytes
  have hr := B.returns
  have hts := atoms_spec (ws := wsX4_settle) B.pre
  have hown : s.vm.findClass RX4 = some m.cls := findClass_of_methodNamed B.named
  have hlocks := B.notSynchronized
  have hiX4 : ∀ w ∈ u_ws RX4 TX4 17, w ∈ wsX4_settle := by decide +kernel
  subst hsz
  have hD := hD0.self (sz := s.heap.size)
  generalize hAe : va_A [cM0 m0 m1 m2 m3 m4 m5 v, cM1 cI m1 v, cM2 cJ m2 v, cM3 cJ m3 v, cM4 cI m4 v, cM5 cI m5 v] s.heap.size = A at hD ⊢
  have hA : ∀ q : Nat, s.heap.size ≤ q → A q := fun q h => by rw [← hAe]; exact Or.inr h
  have hS : va_S A s.heap s.heap [] := va_S.rf
  have hl := lv_entry ([.ref m0]) (n := 6) (Nat.le_of_ble_eq_true rfl)
  rw [lg_entry_eq]
  generalize (lg_sl ([.ref m0]) ++ List.replicate (6 - (lg_sl ([.ref m0])).length) Slot.unset).toArray = ls at hl ⊢
  have hl : lv_has ls 6 [(0, .ref m0)] := hl
  have hP : va_P (dC, dI) vwCl [cM0 m0 m1 m2 m3 m4 m5 v, cM1 cI m1 v, cM2 cJ m2 v, cM3 cJ m3 v, cM4 cI m4 v, cM5 cI m5 v] s.heap := hP
  refine lv_aload_n hx hb dX4_settle_0 rfl (lv_at hl 0 rfl) ?_
  refine va_get (D := (dC, dI)) (ci := 4) (v := .ref m2) (C := RX4) (T := TX4) (N := 17) hx hb hts hiX4 hown hK hP 0 rfl rfl 3 (by decide) (hts (.fieldLink RX4 13 "TripReckonerModel" "now" "[J") (by decide +kernel)) (fun _ h9 => h9) rfl dX4_settle_1 ?_
  refine lv_bipush (v := 22) hx hb dX4_settle_4 (by decide) ?_
  refine va_lald hx hb hK hP 2 1 rfl rfl (vd (by decide +kernel)) dX4_settle_6 ?_
  refine lv_topl (fun z_1 ez_1 => ?_)
  have ez_1 : z_1 = v.2.2.2.1 22 := ez_1
  subst ez_1
  refine lv_lconst (v := 1) hx hb dX4_settle_7 (by decide) ?_
  refine lv_lsub hx hb dX4_settle_8 ?_
  have hPc := hP.sub (ws' := []) [] rfl
  have hDc := hD.sub (ws' := []) [] (by decide) rfl
  have hFc := va_free (wc := []) hD hS hA [] rfl
  refine va_calli (va_runS (As := [.long ((v.2.2.2.1 22) - 1)]) (rest := []) ⟨hx, hb, hml, hown, hts⟩ (kX4_place l dC dI cI cJ s.heap.size ((v.2.2.2.1 22) - 1)) (va_cwS 1 hts gX4_settle_X4_place rfl rfl rfl (by decide +kernel) ⟨Nat.le_of_ble_eq_true rfl, Nat.le_of_ble_eq_true rfl⟩) ⟨fun a U g mk q => by obtain ⟨q0, q1, qP, qK, qD⟩ := q; exact ⟨q0, q1, qP, va_K.moved (u := U) (U := U.calling g mk a) (Vm.Alike.refl U.vm) qK, qD⟩, fun U hU hW => ⟨rfl, by rw [hU], by rw [hU]; exact hPc, va_K.moved hW.alike hK, hDc.weaken (fun _ _ _ _ => trivial)⟩⟩ rfl rfl hl.1 rfl (lv_room (Nat.le_of_ble_eq_true rfl)) dX4_settle_9 ⟨Nat.le_of_ble_eq_true rfl, Nat.le_of_ble_eq_true rfl⟩) hS (fun q _ h => hFc q h) hFc (fun r_2 _ t H1 locs ht hvm hw hB hz1 hk1 hS => ?_)
  obtain ⟨hP1, hK1, hD1⟩ := hB
  rw [ht] at hP1
  obtain ⟨hP, hD⟩ := va_join (wr := [cM0 m0 m1 m2 m3 m4 m5 v, cM1 cI m1 v, cM2 cJ m2 v, cM3 cJ m3 v, cM4 cI m4 v, cM5 cI m5 v]) (w1 := []) hP hD [] [0, 1, 2, 3, 4, 5] rfl rfl (by decide) (by decide) hk1 hFc hP1 hD1
  generalize H1 = H at hP hS ⊢
  have hP : va_P (dC, dI) vwCl [cM0 m0 m1 m2 m3 m4 m5 v, cM1 cI m1 v, cM2 cJ m2 v, cM3 cJ m3 v, cM4 cI m4 v, cM5 cI m5 v] H := hP
  have hD : va_D A [cM0 m0 m1 m2 m3 m4 m5 v, cM1 cI m1 v, cM2 cJ m2 v, cM3 cJ m3 v, cM4 cI m4 v, cM5 cI m5 v] := hD
  subst hw
  refine lv_istore_n (lv' := [(1, .int (rX4_place ((v.2.2.2.1 22) - 1))), (0, .ref m0)]) hx hb dX4_settle_12 rfl hl (by decide) rfl (fun ls hl => ?_)
  refine lv_aload_n hx hb dX4_settle_13 rfl (lv_at hl 1 rfl) ?_
  refine va_get (D := (dC, dI)) (ci := 4) (v := .ref m2) (C := RX4) (T := TX4) (N := 17) hx hb hts hiX4 hown hK hP 0 rfl rfl 3 (by decide) (hts (.fieldLink RX4 13 "TripReckonerModel" "now" "[J") (by decide +kernel)) (fun _ h9 => h9) rfl dX4_settle_14 ?_
  refine lv_iconst (v := 0) hx hb dX4_settle_17 (by decide) ?_
  refine va_lald hx hb hK hP 2 1 rfl rfl (vd (by decide +kernel)) dX4_settle_18 ?_
  refine lv_topl (fun z_3 ez_3 => ?_)
  have ez_3 : z_3 = v.2.2.2.1 0 := ez_3
  subst ez_3
  refine lv_aload_n hx hb dX4_settle_19 rfl (lv_at hl 1 rfl) ?_
  refine va_get (D := (dC, dI)) (ci := 4) (v := .ref m2) (C := RX4) (T := TX4) (N := 17) hx hb hts hiX4 hown hK hP 0 rfl rfl 3 (by decide) (hts (.fieldLink RX4 13 "TripReckonerModel" "now" "[J") (by decide +kernel)) (fun _ h9 => h9) rfl dX4_settle_20 ?_
  refine lv_bipush (v := 28) hx hb dX4_settle_23 (by decide) ?_
  refine va_lald hx hb hK hP 2 1 rfl rfl (vd (by decide +kernel)) dX4_settle_25 ?_
  refine lv_topl (fun z_4 ez_4 => ?_)
  have ez_4 : z_4 = v.2.2.2.1 28 := ez_4
  subst ez_4
  refine lv_ladd hx hb dX4_settle_26 ?_
  refine lv_aload_n hx hb dX4_settle_27 rfl (lv_at hl 1 rfl) ?_
  refine va_get (D := (dC, dI)) (ci := 4) (v := .ref m2) (C := RX4) (T := TX4) (N := 17) hx hb hts hiX4 hown hK hP 0 rfl rfl 3 (by decide) (hts (.fieldLink RX4 13 "TripReckonerModel" "now" "[J") (by decide +kernel)) (fun _ h9 => h9) rfl dX4_settle_28 ?_
  refine lv_bipush (v := 31) hx hb dX4_settle_31 (by decide) ?_
  refine va_lald hx hb hK hP 2 1 rfl rfl (vd (by decide +kernel)) dX4_settle_33 ?_
  refine lv_topl (fun z_5 ez_5 => ?_)
  have ez_5 : z_5 = v.2.2.2.1 31 := ez_5
  subst ez_5
  refine lv_lsub hx hb dX4_settle_34 ?_
  refine lv_lstore_n (lv' := [(2, .long (((v.2.2.2.1 0) + (v.2.2.2.1 28)) - (v.2.2.2.1 31))), (1, .int (rX4_place ((v.2.2.2.1 22) - 1))), (0, .ref m0)]) hx hb dX4_settle_35 rfl hl (by decide) rfl (fun ls hl => ?_)
  refine lv_aload_n hx hb dX4_settle_36 rfl (lv_at hl 2 rfl) ?_
  refine va_get (D := (dC, dI)) (ci := 4) (v := .ref m2) (C := RX4) (T := TX4) (N := 17) hx hb hts hiX4 hown hK hP 0 rfl rfl 3 (by decide) (hts (.fieldLink RX4 13 "TripReckonerModel" "now" "[J") (by decide +kernel)) (fun _ h9 => h9) rfl dX4_settle_37 ?_
  refine lv_iconst (v := 1) hx hb dX4_settle_40 (by decide) ?_
  refine va_lald hx hb hK hP 2 1 rfl rfl (vd (by decide +kernel)) dX4_settle_41 ?_
  refine lv_topl (fun z_6 ez_6 => ?_)
  have ez_6 : z_6 = v.2.2.2.1 1 := ez_6
  subst ez_6
  refine lv_aload_n hx hb dX4_settle_42 rfl (lv_at hl 2 rfl) ?_
  refine va_get (D := (dC, dI)) (ci := 4) (v := .ref m2) (C := RX4) (T := TX4) (N := 17) hx hb hts hiX4 hown hK hP 0 rfl rfl 3 (by decide) (hts (.fieldLink RX4 13 "TripReckonerModel" "now" "[J") (by decide +kernel)) (fun _ h9 => h9) rfl dX4_settle_43 ?_
  refine lv_bipush (v := 29) hx hb dX4_settle_46 (by decide) ?_
  refine va_lald hx hb hK hP 2 1 rfl rfl (vd (by decide +kernel)) dX4_settle_48 ?_
  refine lv_topl (fun z_7 ez_7 => ?_)
  have ez_7 : z_7 = v.2.2.2.1 29 := ez_7
  subst ez_7
  refine lv_ladd hx hb dX4_settle_49 ?_
  refine lv_aload_n hx hb dX4_settle_50 rfl (lv_at hl 2 rfl) ?_
  refine va_get (D := (dC, dI)) (ci := 4) (v := .ref m2) (C := RX4) (T := TX4) (N := 17) hx hb hts hiX4 hown hK hP 0 rfl rfl 3 (by decide) (hts (.fieldLink RX4 13 "TripReckonerModel" "now" "[J") (by decide +kernel)) (fun _ h9 => h9) rfl dX4_settle_51 ?_
  refine lv_bipush (v := 30) hx hb dX4_settle_54 (by decide) ?_
  refine va_lald hx hb hK hP 2 1 rfl rfl (vd (by decide +kernel)) dX4_settle_56 ?_
  refine lv_topl (fun z_8 ez_8 => ?_)
  have ez_8 : z_8 = v.2.2.2.1 30 := ez_8
  subst ez_8
  refine lv_lsub hx hb dX4_settle_57 ?_
  refine lv_lstore (lv' := [(4, .long (((v.2.2.2.1 1) + (v.2.2.2.1 29)) - (v.2.2.2.1 30))), (2, .long (((v.2.2.2.1 0) + (v.2.2.2.1 28)) - (v.2.2.2.1 31))), (1, .int (rX4_place ((v.2.2.2.1 22) - 1))), (0, .ref m0)]) hx hb dX4_settle_58 hl (by decide) rfl (fun ls hl => ?_)
  refine lv_lload_n hx hb dX4_settle_60 rfl (lv_at hl 1 rfl) ?_
  refine lv_aload_n hx hb dX4_settle_61 rfl (lv_at hl 3 rfl) ?_
  refine va_get (D := (dC, dI)) (ci := 4) (v := .ref m2) (C := RX4) (T := TX4) (N := 17) hx hb hts hiX4 hown hK hP 0 rfl rfl 3 (by decide) (hts (.fieldLink RX4 13 "TripReckonerModel" "now" "[J") (by decide +kernel)) (fun _ h9 => h9) rfl dX4_settle_62 ?_
  refine lv_iload_n hx hb dX4_settle_65 rfl (lv_at hl 2 rfl) ?_
  refine va_lald hx hb hK hP 2 1 rfl rfl (place_in hs).1 dX4_settle_66 ?_
  refine W.lcmp hx hb dX4_settle_67 ?_
  refine lv_if_le (tgt := 78) hx hb dX4_settle_68 (by decide) (fun c_9 => ?_) (fun c_9 => ?_)
  · refine lv_lload hx hb dX4_settle_78 (lv_at hl 0 rfl) ?_
    refine lv_aload_n hx hb dX4_settle_80 rfl (lv_at hl 3 rfl) ?_
    refine va_get (D := (dC, dI)) (ci := 4) (v := .ref m2) (C := RX4) (T := TX4) (N := 17) hx hb hts hiX4 hown hK hP 0 rfl rfl 3 (by decide) (hts (.fieldLink RX4 13 "TripReckonerModel" "now" "[J") (by decide +kernel)) (fun _ h9 => h9) rfl dX4_settle_81 ?_
    refine lv_iload_n hx hb dX4_settle_84 rfl (lv_at hl 2 rfl) ?_
    refine lv_iconst (v := 1) hx hb dX4_settle_85 (by decide) ?_
    refine lv_iadd hx hb dX4_settle_86 ?_
    refine va_lald hx hb hK hP 2 1 rfl rfl (place_in hs).2.1 dX4_settle_87 ?_
    refine W.lcmp hx hb dX4_settle_88 ?_
    refine lv_if_ge (tgt := 102) hx hb dX4_settle_89 (by decide) (fun c_10 => ?_) (fun c_10 => ?_)
    · have es0 : sX4_settle v = v := by rw [sX4_settle, if_pos c_9, if_pos c_10]
      refine W.vret hx hb hr (fun t ht hW => ⟨⟨(), rfl, trivial, ?_⟩, hS.F ht⟩) hS.2.2 dX4_settle_102
      rw [es0]; exact ⟨by rw [ht]; exact hP, va_K.moved hW.alike hK, hD⟩
    · refine lv_aload_n hx hb dX4_settle_92 rfl (lv_at hl 3 rfl) ?_
      refine va_get (D := (dC, dI)) (ci := 4) (v := .ref m2) (C := RX4) (T := TX4) (N := 17) hx hb hts hiX4 hown hK hP 0 rfl rfl 3 (by decide) (hts (.fieldLink RX4 13 "TripReckonerModel" "now" "[J") (by decide +kernel)) (fun _ h9 => h9) rfl dX4_settle_93 ?_
      refine lv_iload_n hx hb dX4_settle_96 rfl (lv_at hl 2 rfl) ?_
      refine lv_iconst (v := 1) hx hb dX4_settle_97 (by decide) ?_
      refine lv_iadd hx hb dX4_settle_98 ?_
      refine lv_lload hx hb dX4_settle_99 (lv_at hl 0 rfl) ?_
      refine va_last hx hb hK hP hD hS 2 1 rfl rfl (place_in hs).2.1 dX4_settle_101 (fun H locs hP hD hS => ?_)
      have hP : va_P (dC, dI) vwCl [(m0, .inr (4, [.int v.1, .ref m1, .int v.2.2.1, .ref m2, .ref m3, .int v.2.2.2.2.2.1, .int v.2.2.2.2.2.2.1, .int v.2.2.2.2.2.2.2.1, .int v.2.2.2.2.2.2.2.2.1, .int v.2.2.2.2.2.2.2.2.2.1, .int v.2.2.2.2.2.2.2.2.2.2.1, .int v.2.2.2.2.2.2.2.2.2.2.2.1, .long v.2.2.2.2.2.2.2.2.2.2.2.2.1, .int v.2.2.2.2.2.2.2.2.2.2.2.2.2.1, .ref m4, .ref m5, .int v.2.2.2.2.2.2.2.2.2.2.2.2.2.2.2.2])), (m1, .inl (cI, 60, .inl v.2.1)), (m2, .inl (cJ, 92, .inr (.inl (vp_updL v.2.2.2.1 (((rX4_place ((v.2.2.2.1 22) - 1)) + 1).toNatClampNeg) (((v.2.2.2.1 1) + (v.2.2.2.1 29)) - (v.2.2.2.1 30)))))), (m3, .inl (cJ, 92, .inr (.inl v.2.2.2.2.1))), (m4, .inl (cI, 1573, .inl v.2.2.2.2.2.2.2.2.2.2.2.2.2.2.1)), (m5, .inl (cI, 12, .inl v.2.2.2.2.2.2.2.2.2.2.2.2.2.2.2.1))] H := hP
      have hD : va_D A [(m0, .inr (4, [.int v.1, .ref m1, .int v.2.2.1, .ref m2, .ref m3, .int v.2.2.2.2.2.1, .int v.2.2.2.2.2.2.1, .int v.2.2.2.2.2.2.2.1, .int v.2.2.2.2.2.2.2.2.1, .int v.2.2.2.2.2.2.2.2.2.1, .int v.2.2.2.2.2.2.2.2.2.2.1, .int v.2.2.2.2.2.2.2.2.2.2.2.1, .long v.2.2.2.2.2.2.2.2.2.2.2.2.1, .int v.2.2.2.2.2.2.2.2.2.2.2.2.2.1, .ref m4, .ref m5, .int v.2.2.2.2.2.2.2.2.2.2.2.2.2.2.2.2])), (m1, .inl (cI, 60, .inl v.2.1)), (m2, .inl (cJ, 92, .inr (.inl (vp_updL v.2.2.2.1 (((rX4_place ((v.2.2.2.1 22) - 1)) + 1).toNatClampNeg) (((v.2.2.2.1 1) + (v.2.2.2.1 29)) - (v.2.2.2.1 30)))))), (m3, .inl (cJ, 92, .inr (.inl v.2.2.2.2.1))), (m4, .inl (cI, 1573, .inl v.2.2.2.2.2.2.2.2.2.2.2.2.2.2.1)), (m5, .inl (cI, 12, .inl v.2.2.2.2.2.2.2.2.2.2.2.2.2.2.2.1))] := hD
      have es0 : sX4_settle v = (v.1, v.2.1, v.2.2.1, vp_updL v.2.2.2.1 (((rX4_place ((v.2.2.2.1 22) - 1)) + 1).toNatClampNeg) (((v.2.2.2.1 1) + (v.2.2.2.1 29)) - (v.2.2.2.1 30)), v.2.2.2.2.1, v.2.2.2.2.2.1, v.2.2.2.2.2.2.1, v.2.2.2.2.2.2.2.1, v.2.2.2.2.2.2.2.2.1, v.2.2.2.2.2.2.2.2.2.1, v.2.2.2.2.2.2.2.2.2.2.1, v.2.2.2.2.2.2.2.2.2.2.2.1, v.2.2.2.2.2.2.2.2.2.2.2.2.1, v.2.2.2.2.2.2.2.2.2.2.2.2.2.1, v.2.2.2.2.2.2.2.2.2.2.2.2.2.2.1, v.2.2.2.2.2.2.2.2.2.2.2.2.2.2.2.1, v.2.2.2.2.2.2.2.2.2.2.2.2.2.2.2.2) := by rw [sX4_settle, if_pos c_9, if_neg c_10]
      refine W.vret hx hb hr (fun t ht hW => ⟨⟨(), rfl, trivial, ?_⟩, hS.F ht⟩) hS.2.2 dX4_settle_102
      rw [es0]; exact ⟨by rw [ht]; exact hP, va_K.moved hW.alike hK, hD⟩
  · refine lv_aload_n hx hb dX4_settle_71 rfl (lv_at hl 3 rfl) ?_
    refine va_get (D := (dC, dI)) (ci := 4) (v := .ref m2) (C := RX4) (T := TX4) (N := 17) hx hb hts hiX4 hown hK hP 0 rfl rfl 3 (by decide) (hts (.fieldLink RX4 13 "TripReckonerModel" "now" "[J") (by decide +kernel)) (fun _ h9 => h9) rfl dX4_settle_72 ?_
    refine lv_iload_n hx hb dX4_settle_75 rfl (lv_at hl 2 rfl) ?_
    refine lv_lload_n hx hb dX4_settle_76 rfl (lv_at hl 1 rfl) ?_
    refine va_last hx hb hK hP hD hS 2 1 rfl rfl (place_in hs).1 dX4_settle_77 (fun H locs hP hD hS => ?_)
    have hP : va_P (dC, dI) vwCl [(m0, .inr (4, [.int v.1, .ref m1, .int v.2.2.1, .ref m2, .ref m3, .int v.2.2.2.2.2.1, .int v.2.2.2.2.2.2.1, .int v.2.2.2.2.2.2.2.1, .int v.2.2.2.2.2.2.2.2.1, .int v.2.2.2.2.2.2.2.2.2.1, .int v.2.2.2.2.2.2.2.2.2.2.1, .int v.2.2.2.2.2.2.2.2.2.2.2.1, .long v.2.2.2.2.2.2.2.2.2.2.2.2.1, .int v.2.2.2.2.2.2.2.2.2.2.2.2.2.1, .ref m4, .ref m5, .int v.2.2.2.2.2.2.2.2.2.2.2.2.2.2.2.2])), (m1, .inl (cI, 60, .inl v.2.1)), (m2, .inl (cJ, 92, .inr (.inl (vp_updL v.2.2.2.1 ((rX4_place ((v.2.2.2.1 22) - 1)).toNatClampNeg) (((v.2.2.2.1 0) + (v.2.2.2.1 28)) - (v.2.2.2.1 31)))))), (m3, .inl (cJ, 92, .inr (.inl v.2.2.2.2.1))), (m4, .inl (cI, 1573, .inl v.2.2.2.2.2.2.2.2.2.2.2.2.2.2.1)), (m5, .inl (cI, 12, .inl v.2.2.2.2.2.2.2.2.2.2.2.2.2.2.2.1))] H := hP
    have hD : va_D A [(m0, .inr (4, [.int v.1, .ref m1, .int v.2.2.1, .ref m2, .ref m3, .int v.2.2.2.2.2.1, .int v.2.2.2.2.2.2.1, .int v.2.2.2.2.2.2.2.1, .int v.2.2.2.2.2.2.2.2.1, .int v.2.2.2.2.2.2.2.2.2.1, .int v.2.2.2.2.2.2.2.2.2.2.1, .int v.2.2.2.2.2.2.2.2.2.2.2.1, .long v.2.2.2.2.2.2.2.2.2.2.2.2.1, .int v.2.2.2.2.2.2.2.2.2.2.2.2.2.1, .ref m4, .ref m5, .int v.2.2.2.2.2.2.2.2.2.2.2.2.2.2.2.2])), (m1, .inl (cI, 60, .inl v.2.1)), (m2, .inl (cJ, 92, .inr (.inl (vp_updL v.2.2.2.1 ((rX4_place ((v.2.2.2.1 22) - 1)).toNatClampNeg) (((v.2.2.2.1 0) + (v.2.2.2.1 28)) - (v.2.2.2.1 31)))))), (m3, .inl (cJ, 92, .inr (.inl v.2.2.2.2.1))), (m4, .inl (cI, 1573, .inl v.2.2.2.2.2.2.2.2.2.2.2.2.2.2.1)), (m5, .inl (cI, 12, .inl v.2.2.2.2.2.2.2.2.2.2.2.2.2.2.2.1))] := hD
    refine lv_lload hx hb dX4_settle_78 (lv_at hl 0 rfl) ?_
    refine lv_aload_n hx hb dX4_settle_80 rfl (lv_at hl 3 rfl) ?_
    refine va_get (D := (dC, dI)) (ci := 4) (v := .ref m2) (C := RX4) (T := TX4) (N := 17) hx hb hts hiX4 hown hK hP 0 rfl rfl 3 (by decide) (hts (.fieldLink RX4 13 "TripReckonerModel" "now" "[J") (by decide +kernel)) (fun _ h9 => h9) rfl dX4_settle_81 ?_
    refine lv_iload_n hx hb dX4_settle_84 rfl (lv_at hl 2 rfl) ?_
    refine lv_iconst (v := 1) hx hb dX4_settle_85 (by decide) ?_
    refine lv_iadd hx hb dX4_settle_86 ?_
    refine va_lald hx hb hK hP 2 1 rfl rfl (place_in hs).2.1 dX4_settle_87 ?_
    refine W.lcmp hx hb dX4_settle_88 ?_
    refine lv_if_ge (tgt := 102) hx hb dX4_settle_89 (by decide) (fun c_11 => ?_) (fun c_11 => ?_)
    · have es0 : sX4_settle v = (v.1, v.2.1, v.2.2.1, vp_updL v.2.2.2.1 ((rX4_place ((v.2.2.2.1 22) - 1)).toNatClampNeg) (((v.2.2.2.1 0) + (v.2.2.2.1 28)) - (v.2.2.2.1 31)), v.2.2.2.2.1, v.2.2.2.2.2.1, v.2.2.2.2.2.2.1, v.2.2.2.2.2.2.2.1, v.2.2.2.2.2.2.2.2.1, v.2.2.2.2.2.2.2.2.2.1, v.2.2.2.2.2.2.2.2.2.2.1, v.2.2.2.2.2.2.2.2.2.2.2.1, v.2.2.2.2.2.2.2.2.2.2.2.2.1, v.2.2.2.2.2.2.2.2.2.2.2.2.2.1, v.2.2.2.2.2.2.2.2.2.2.2.2.2.2.1, v.2.2.2.2.2.2.2.2.2.2.2.2.2.2.2.1, v.2.2.2.2.2.2.2.2.2.2.2.2.2.2.2.2) := by rw [sX4_settle, if_neg c_9, if_pos c_11]
      refine W.vret hx hb hr (fun t ht hW => ⟨⟨(), rfl, trivial, ?_⟩, hS.F ht⟩) hS.2.2 dX4_settle_102
      rw [es0]; exact ⟨by rw [ht]; exact hP, va_K.moved hW.alike hK, hD⟩
    · refine lv_aload_n hx hb dX4_settle_92 rfl (lv_at hl 3 rfl) ?_
      refine va_get (D := (dC, dI)) (ci := 4) (v := .ref m2) (C := RX4) (T := TX4) (N := 17) hx hb hts hiX4 hown hK hP 0 rfl rfl 3 (by decide) (hts (.fieldLink RX4 13 "TripReckonerModel" "now" "[J") (by decide +kernel)) (fun _ h9 => h9) rfl dX4_settle_93 ?_
      refine lv_iload_n hx hb dX4_settle_96 rfl (lv_at hl 2 rfl) ?_
      refine lv_iconst (v := 1) hx hb dX4_settle_97 (by decide) ?_
      refine lv_iadd hx hb dX4_settle_98 ?_
      refine lv_lload hx hb dX4_settle_99 (lv_at hl 0 rfl) ?_
      refine va_last hx hb hK hP hD hS 2 1 rfl rfl (place_in hs).2.1 dX4_settle_101 (fun H locs hP hD hS => ?_)
      have hP : va_P (dC, dI) vwCl [(m0, .inr (4, [.int v.1, .ref m1, .int v.2.2.1, .ref m2, .ref m3, .int v.2.2.2.2.2.1, .int v.2.2.2.2.2.2.1, .int v.2.2.2.2.2.2.2.1, .int v.2.2.2.2.2.2.2.2.1, .int v.2.2.2.2.2.2.2.2.2.1, .int v.2.2.2.2.2.2.2.2.2.2.1, .int v.2.2.2.2.2.2.2.2.2.2.2.1, .long v.2.2.2.2.2.2.2.2.2.2.2.2.1, .int v.2.2.2.2.2.2.2.2.2.2.2.2.2.1, .ref m4, .ref m5, .int v.2.2.2.2.2.2.2.2.2.2.2.2.2.2.2.2])), (m1, .inl (cI, 60, .inl v.2.1)), (m2, .inl (cJ, 92, .inr (.inl (vp_updL (vp_updL v.2.2.2.1 ((rX4_place ((v.2.2.2.1 22) - 1)).toNatClampNeg) (((v.2.2.2.1 0) + (v.2.2.2.1 28)) - (v.2.2.2.1 31))) (((rX4_place ((v.2.2.2.1 22) - 1)) + 1).toNatClampNeg) (((v.2.2.2.1 1) + (v.2.2.2.1 29)) - (v.2.2.2.1 30)))))), (m3, .inl (cJ, 92, .inr (.inl v.2.2.2.2.1))), (m4, .inl (cI, 1573, .inl v.2.2.2.2.2.2.2.2.2.2.2.2.2.2.1)), (m5, .inl (cI, 12, .inl v.2.2.2.2.2.2.2.2.2.2.2.2.2.2.2.1))] H := hP
      have hD : va_D A [(m0, .inr (4, [.int v.1, .ref m1, .int v.2.2.1, .ref m2, .ref m3, .int v.2.2.2.2.2.1, .int v.2.2.2.2.2.2.1, .int v.2.2.2.2.2.2.2.1, .int v.2.2.2.2.2.2.2.2.1, .int v.2.2.2.2.2.2.2.2.2.1, .int v.2.2.2.2.2.2.2.2.2.2.1, .int v.2.2.2.2.2.2.2.2.2.2.2.1, .long v.2.2.2.2.2.2.2.2.2.2.2.2.1, .int v.2.2.2.2.2.2.2.2.2.2.2.2.2.1, .ref m4, .ref m5, .int v.2.2.2.2.2.2.2.2.2.2.2.2.2.2.2.2])), (m1, .inl (cI, 60, .inl v.2.1)), (m2, .inl (cJ, 92, .inr (.inl (vp_updL (vp_updL v.2.2.2.1 ((rX4_place ((v.2.2.2.1 22) - 1)).toNatClampNeg) (((v.2.2.2.1 0) + (v.2.2.2.1 28)) - (v.2.2.2.1 31))) (((rX4_place ((v.2.2.2.1 22) - 1)) + 1).toNatClampNeg) (((v.2.2.2.1 1) + (v.2.2.2.1 29)) - (v.2.2.2.1 30)))))), (m3, .inl (cJ, 92, .inr (.inl v.2.2.2.2.1))), (m4, .inl (cI, 1573, .inl v.2.2.2.2.2.2.2.2.2.2.2.2.2.2.1)), (m5, .inl (cI, 12, .inl v.2.2.2.2.2.2.2.2.2.2.2.2.2.2.2.1))] := hD
      have es0 : sX4_settle v = (v.1, v.2.1, v.2.2.1, vp_updL (vp_updL v.2.2.2.1 ((rX4_place ((v.2.2.2.1 22) - 1)).toNatClampNeg) (((v.2.2.2.1 0) + (v.2.2.2.1 28)) - (v.2.2.2.1 31))) (((rX4_place ((v.2.2.2.1 22) - 1)) + 1).toNatClampNeg) (((v.2.2.2.1 1) + (v.2.2.2.1 29)) - (v.2.2.2.1 30)), v.2.2.2.2.1, v.2.2.2.2.2.1, v.2.2.2.2.2.2.1, v.2.2.2.2.2.2.2.1, v.2.2.2.2.2.2.2.2.1, v.2.2.2.2.2.2.2.2.2.1, v.2.2.2.2.2.2.2.2.2.2.1, v.2.2.2.2.2.2.2.2.2.2.2.1, v.2.2.2.2.2.2.2.2.2.2.2.2.1, v.2.2.2.2.2.2.2.2.2.2.2.2.2.1, v.2.2.2.2.2.2.2.2.2.2.2.2.2.2.1, v.2.2.2.2.2.2.2.2.2.2.2.2.2.2.2.1, v.2.2.2.2.2.2.2.2.2.2.2.2.2.2.2.2) := by rw [sX4_settle, if_neg c_9, if_neg c_11]
      refine W.vret hx hb hr (fun t ht hW => ⟨⟨(), rfl, trivial, ?_⟩, hS.F ht⟩) hS.2.2 dX4_settle_102
      rw [es0]; exact ⟨by rw [ht]; exact hP, va_K.moved hW.alike hK, hD⟩

def sf_tells1 (x : Int32) (a : Int64) (b : Int64) (mo : Int32) (q : Int32) (v : MS) : MS :=
  (v.1, v.2.1, v.2.2.1, vp_updL (vp_updL v.2.2.2.1 q.toNatClampNeg (a - (v.2.2.2.1 1))) ((q + 1).toNatClampNeg) (b - ((vp_updL v.2.2.2.1 q.toNatClampNeg (a - (v.2.2.2.1 1))) 0)), v.2.2.2.2.1, v.2.2.2.2.2.1, v.2.2.2.2.2.2.1, v.2.2.2.2.2.2.2.1, v.2.2.2.2.2.2.2.2.1, v.2.2.2.2.2.2.2.2.2.1, v.2.2.2.2.2.2.2.2.2.2.1, v.2.2.2.2.2.2.2.2.2.2.2.1, v.2.2.2.2.2.2.2.2.2.2.2.2.1, v.2.2.2.2.2.2.2.2.2.2.2.2.2.1, v.2.2.2.2.2.2.2.2.2.2.2.2.2.2.1, v.2.2.2.2.2.2.2.2.2.2.2.2.2.2.2.1, v.2.2.2.2.2.2.2.2.2.2.2.2.2.2.2.2)
set_option maxHeartbeats 4000000 in
set_option maxRecDepth 100000 in
theorem f_tells1 {p : Program} {l : Launch} {e : Env} {s : State} {m : MethodId} {args : Array Value} {below : List Frame} {meth : Method} {c : Code} {Q : State → Prop} {H0 : Heap} {A : Nat → Prop} {dC : Nat → ClassId} {dI : Nat → Nat → Nat} {cI cJ : ClassId} (hx : p.tables.exec = Jvm.exec) (hb : c.code = cX4_tells) (hml : c.maxLocals = 8) (hown : s.vm.findClass RX4 = some m.cls) (hts : ∀ w ∈ wsX4_tells, w.before args s = true) (hA : ∀ q : Nat, H0.size ≤ q → A q) (hK : va_K (dC, dI) vwCl [(cI, .int), (cJ, .long)] s) {m0 m1 m2 m3 m4 m5 : Nat} (x : Int32) (a : Int64) (b : Int64) (mo : Int32) (q : Int32) (v : MS) (hp : vp_in q 92) (hp1 : vp_in (q + 1) 92) (kk : ∀ (H : Heap) (locs : List Loc) (ls : Array Slot), va_P (dC, dI) vwCl [cM0 m0 m1 m2 m3 m4 m5 (sf_tells1 x a b mo q v), cM1 cI m1 (sf_tells1 x a b mo q v), cM2 cJ m2 (sf_tells1 x a b mo q v), cM3 cJ m3 (sf_tells1 x a b mo q v), cM4 cI m4 (sf_tells1 x a b mo q v), cM5 cI m5 (sf_tells1 x a b mo q v)] H → va_D A [cM0 m0 m1 m2 m3 m4 m5 (sf_tells1 x a b mo q v), cM1 cI m1 (sf_tells1 x a b mo q v), cM2 cJ m2 (sf_tells1 x a b mo q v), cM3 cJ m3 (sf_tells1 x a b mo q v), cM4 cI m4 (sf_tells1 x a b mo q v), cM5 cI m5 (sf_tells1 x a b mo q v)] → va_S A H0 H locs → lv_has ls 8 [(0, .ref m0), (1, .int x), (2, .long a), (4, .long b), (6, .int mo)] → W p l e ({ frames := 3, cells := 0, slots := 0, locals := 80 } : Room) s m args below meth c H locs 0 0 Q (F0 m 242 ls [])) (H : Heap) (locs : List Loc) (ls : Array Slot) (hP : va_P (dC, dI) vwCl [cM0 m0 m1 m2 m3 m4 m5 v, cM1 cI m1 v, cM2 cJ m2 v, cM3 cJ m3 v, cM4 cI m4 v, cM5 cI m5 v] H) (hD : va_D A [cM0 m0 m1 m2 m3 m4 m5 v, cM1 cI m1 v, cM2 cJ m2 v, cM3 cJ m3 v, cM4 cI m4 v, cM5 cI m5 v]) (hS : va_S A H0 H locs) (hl : lv_has ls 8 [(0, .ref m0), (1, .int x), (2, .long a), (4, .long b), (6, .int mo), (7, .int q)]) : W p l e ({ frames := 3, cells := 0, slots := 0, locals := 80 } : Room) s m args below meth c H locs 0 0 Q (F0 m 209 ls []) := by
  have hiX4 : ∀ w ∈ u_ws RX4 TX4 17, w ∈ wsX4_tells := by decide +kernel
  refine lv_aload_n hx hb dX4_tells_209 rfl (lv_at hl 0 rfl) ?_
  refine va_get (D := (dC, dI)) (ci := 4) (v := .ref m2) (C := RX4) (T := TX4) (N := 17) hx hb hts hiX4 hown hK hP 0 rfl rfl 3 (by decide) (hts (.fieldLink RX4 13 "TripReckonerModel" "now" "[J") (by decide +kernel)) (fun _ h9 => h9) rfl dX4_tells_210 ?_
  refine lv_iload hx hb dX4_tells_213 (lv_at hl 5 rfl) ?_
  refine lv_lload_n hx hb dX4_tells_215 rfl (lv_at hl 2 rfl) ?_
  refine lv_aload_n hx hb dX4_tells_216 rfl (lv_at hl 0 rfl) ?_
  refine va_get (D := (dC, dI)) (ci := 4) (v := .ref m2) (C := RX4) (T := TX4) (N := 17) hx hb hts hiX4 hown hK hP 0 rfl rfl 3 (by decide) (hts (.fieldLink RX4 13 "TripReckonerModel" "now" "[J") (by decide +kernel)) (fun _ h9 => h9) rfl dX4_tells_217 ?_
  refine lv_iconst (v := 1) hx hb dX4_tells_220 (by decide) ?_
  refine va_lald hx hb hK hP 2 1 rfl rfl (vd (by decide +kernel)) dX4_tells_221 ?_
  refine lv_topl (fun z_1 ez_1 => ?_)
  have ez_1 : z_1 = v.2.2.2.1 1 := ez_1
  subst ez_1
  refine lv_lsub hx hb dX4_tells_222 ?_
  refine va_last hx hb hK hP hD hS 2 1 rfl rfl hp dX4_tells_223 (fun H locs hP hD hS => ?_)
  have hP : va_P (dC, dI) vwCl [(m0, .inr (4, [.int v.1, .ref m1, .int v.2.2.1, .ref m2, .ref m3, .int v.2.2.2.2.2.1, .int v.2.2.2.2.2.2.1, .int v.2.2.2.2.2.2.2.1, .int v.2.2.2.2.2.2.2.2.1, .int v.2.2.2.2.2.2.2.2.2.1, .int v.2.2.2.2.2.2.2.2.2.2.1, .int v.2.2.2.2.2.2.2.2.2.2.2.1, .long v.2.2.2.2.2.2.2.2.2.2.2.2.1, .int v.2.2.2.2.2.2.2.2.2.2.2.2.2.1, .ref m4, .ref m5, .int v.2.2.2.2.2.2.2.2.2.2.2.2.2.2.2.2])), (m1, .inl (cI, 60, .inl v.2.1)), (m2, .inl (cJ, 92, .inr (.inl (vp_updL v.2.2.2.1 q.toNatClampNeg (a - (v.2.2.2.1 1)))))), (m3, .inl (cJ, 92, .inr (.inl v.2.2.2.2.1))), (m4, .inl (cI, 1573, .inl v.2.2.2.2.2.2.2.2.2.2.2.2.2.2.1)), (m5, .inl (cI, 12, .inl v.2.2.2.2.2.2.2.2.2.2.2.2.2.2.2.1))] H := hP
  have hD : va_D A [(m0, .inr (4, [.int v.1, .ref m1, .int v.2.2.1, .ref m2, .ref m3, .int v.2.2.2.2.2.1, .int v.2.2.2.2.2.2.1, .int v.2.2.2.2.2.2.2.1, .int v.2.2.2.2.2.2.2.2.1, .int v.2.2.2.2.2.2.2.2.2.1, .int v.2.2.2.2.2.2.2.2.2.2.1, .int v.2.2.2.2.2.2.2.2.2.2.2.1, .long v.2.2.2.2.2.2.2.2.2.2.2.2.1, .int v.2.2.2.2.2.2.2.2.2.2.2.2.2.1, .ref m4, .ref m5, .int v.2.2.2.2.2.2.2.2.2.2.2.2.2.2.2.2])), (m1, .inl (cI, 60, .inl v.2.1)), (m2, .inl (cJ, 92, .inr (.inl (vp_updL v.2.2.2.1 q.toNatClampNeg (a - (v.2.2.2.1 1)))))), (m3, .inl (cJ, 92, .inr (.inl v.2.2.2.2.1))), (m4, .inl (cI, 1573, .inl v.2.2.2.2.2.2.2.2.2.2.2.2.2.2.1)), (m5, .inl (cI, 12, .inl v.2.2.2.2.2.2.2.2.2.2.2.2.2.2.2.1))] := hD
  refine lv_aload_n hx hb dX4_tells_224 rfl (lv_at hl 0 rfl) ?_
  refine va_get (D := (dC, dI)) (ci := 4) (v := .ref m2) (C := RX4) (T := TX4) (N := 17) hx hb hts hiX4 hown hK hP 0 rfl rfl 3 (by decide) (hts (.fieldLink RX4 13 "TripReckonerModel" "now" "[J") (by decide +kernel)) (fun _ h9 => h9) rfl dX4_tells_225 ?_
  refine lv_iload hx hb dX4_tells_228 (lv_at hl 5 rfl) ?_
  refine lv_iconst (v := 1) hx hb dX4_tells_230 (by decide) ?_
  refine lv_iadd hx hb dX4_tells_231 ?_
  refine lv_lload hx hb dX4_tells_232 (lv_at hl 3 rfl) ?_
  refine lv_aload_n hx hb dX4_tells_234 rfl (lv_at hl 0 rfl) ?_
  refine va_get (D := (dC, dI)) (ci := 4) (v := .ref m2) (C := RX4) (T := TX4) (N := 17) hx hb hts hiX4 hown hK hP 0 rfl rfl 3 (by decide) (hts (.fieldLink RX4 13 "TripReckonerModel" "now" "[J") (by decide +kernel)) (fun _ h9 => h9) rfl dX4_tells_235 ?_
  refine lv_iconst (v := 0) hx hb dX4_tells_238 (by decide) ?_
  refine va_lald hx hb hK hP 2 1 rfl rfl (vd (by decide +kernel)) dX4_tells_239 ?_
  refine lv_topl (fun z_2 ez_2 => ?_)
  have ez_2 : z_2 = (vp_updL v.2.2.2.1 q.toNatClampNeg (a - (v.2.2.2.1 1))) 0 := ez_2
  subst ez_2
  refine lv_lsub hx hb dX4_tells_240 ?_
  refine va_last hx hb hK hP hD hS 2 1 rfl rfl hp1 dX4_tells_241 (fun H locs hP hD hS => ?_)
  have hP : va_P (dC, dI) vwCl [(m0, .inr (4, [.int v.1, .ref m1, .int v.2.2.1, .ref m2, .ref m3, .int v.2.2.2.2.2.1, .int v.2.2.2.2.2.2.1, .int v.2.2.2.2.2.2.2.1, .int v.2.2.2.2.2.2.2.2.1, .int v.2.2.2.2.2.2.2.2.2.1, .int v.2.2.2.2.2.2.2.2.2.2.1, .int v.2.2.2.2.2.2.2.2.2.2.2.1, .long v.2.2.2.2.2.2.2.2.2.2.2.2.1, .int v.2.2.2.2.2.2.2.2.2.2.2.2.2.1, .ref m4, .ref m5, .int v.2.2.2.2.2.2.2.2.2.2.2.2.2.2.2.2])), (m1, .inl (cI, 60, .inl v.2.1)), (m2, .inl (cJ, 92, .inr (.inl (vp_updL (vp_updL v.2.2.2.1 q.toNatClampNeg (a - (v.2.2.2.1 1))) ((q + 1).toNatClampNeg) (b - ((vp_updL v.2.2.2.1 q.toNatClampNeg (a - (v.2.2.2.1 1))) 0)))))), (m3, .inl (cJ, 92, .inr (.inl v.2.2.2.2.1))), (m4, .inl (cI, 1573, .inl v.2.2.2.2.2.2.2.2.2.2.2.2.2.2.1)), (m5, .inl (cI, 12, .inl v.2.2.2.2.2.2.2.2.2.2.2.2.2.2.2.1))] H := hP
  have hD : va_D A [(m0, .inr (4, [.int v.1, .ref m1, .int v.2.2.1, .ref m2, .ref m3, .int v.2.2.2.2.2.1, .int v.2.2.2.2.2.2.1, .int v.2.2.2.2.2.2.2.1, .int v.2.2.2.2.2.2.2.2.1, .int v.2.2.2.2.2.2.2.2.2.1, .int v.2.2.2.2.2.2.2.2.2.2.1, .int v.2.2.2.2.2.2.2.2.2.2.2.1, .long v.2.2.2.2.2.2.2.2.2.2.2.2.1, .int v.2.2.2.2.2.2.2.2.2.2.2.2.2.1, .ref m4, .ref m5, .int v.2.2.2.2.2.2.2.2.2.2.2.2.2.2.2.2])), (m1, .inl (cI, 60, .inl v.2.1)), (m2, .inl (cJ, 92, .inr (.inl (vp_updL (vp_updL v.2.2.2.1 q.toNatClampNeg (a - (v.2.2.2.1 1))) ((q + 1).toNatClampNeg) (b - ((vp_updL v.2.2.2.1 q.toNatClampNeg (a - (v.2.2.2.1 1))) 0)))))), (m3, .inl (cJ, 92, .inr (.inl v.2.2.2.2.1))), (m4, .inl (cI, 1573, .inl v.2.2.2.2.2.2.2.2.2.2.2.2.2.2.1)), (m5, .inl (cI, 12, .inl v.2.2.2.2.2.2.2.2.2.2.2.2.2.2.2.1))] := hD
  exact kk _ _ _ hP hD hS (lv_sub hl [0, 1, 2, 3, 4] rfl)

def sf_tells2 (x : Int32) (a : Int64) (b : Int64) (mo : Int32) (v : MS) : MS :=
  (v.1, v.2.1, v.2.2.1, vp_updL (vp_updL (vp_updL (vp_updL (vp_updL v.2.2.2.1 22 ((v.2.2.2.1 22) + 1)) 30 (v.2.2.2.1 0)) 31 (v.2.2.2.1 1)) 28 0) 29 0, v.2.2.2.2.1, v.2.2.2.2.2.1, v.2.2.2.2.2.2.1, v.2.2.2.2.2.2.2.1, v.2.2.2.2.2.2.2.2.1, v.2.2.2.2.2.2.2.2.2.1, v.2.2.2.2.2.2.2.2.2.2.1, v.2.2.2.2.2.2.2.2.2.2.2.1, v.2.2.2.2.2.2.2.2.2.2.2.2.1, v.2.2.2.2.2.2.2.2.2.2.2.2.2.1, v.2.2.2.2.2.2.2.2.2.2.2.2.2.2.1, v.2.2.2.2.2.2.2.2.2.2.2.2.2.2.2.1, v.2.2.2.2.2.2.2.2.2.2.2.2.2.2.2.2)
set_option maxHeartbeats 4000000 in
set_option maxRecDepth 100000 in
theorem f_tells2 {p : Program} {l : Launch} {e : Env} {s : State} {m : MethodId} {args : Array Value} {below : List Frame} {meth : Method} {c : Code} {Q : State → Prop} {H0 : Heap} {A : Nat → Prop} {dC : Nat → ClassId} {dI : Nat → Nat → Nat} {cI cJ : ClassId} (hx : p.tables.exec = Jvm.exec) (hb : c.code = cX4_tells) (hml : c.maxLocals = 8) (hown : s.vm.findClass RX4 = some m.cls) (hts : ∀ w ∈ wsX4_tells, w.before args s = true) (hA : ∀ q : Nat, H0.size ≤ q → A q) (hK : va_K (dC, dI) vwCl [(cI, .int), (cJ, .long)] s) {m0 m1 m2 m3 m4 m5 : Nat} (x : Int32) (a : Int64) (b : Int64) (mo : Int32) (v : MS) (kk : ∀ (H : Heap) (locs : List Loc) (ls : Array Slot), va_P (dC, dI) vwCl [cM0 m0 m1 m2 m3 m4 m5 (sf_tells2 x a b mo v), cM1 cI m1 (sf_tells2 x a b mo v), cM2 cJ m2 (sf_tells2 x a b mo v), cM3 cJ m3 (sf_tells2 x a b mo v), cM4 cI m4 (sf_tells2 x a b mo v), cM5 cI m5 (sf_tells2 x a b mo v)] H → va_D A [cM0 m0 m1 m2 m3 m4 m5 (sf_tells2 x a b mo v), cM1 cI m1 (sf_tells2 x a b mo v), cM2 cJ m2 (sf_tells2 x a b mo v), cM3 cJ m3 (sf_tells2 x a b mo v), cM4 cI m4 (sf_tells2 x a b mo v), cM5 cI m5 (sf_tells2 x a b mo v)] → va_S A H0 H locs → lv_has ls 8 [(0, .ref m0), (1, .int x), (2, .long a), (4, .long b), (6, .int mo)] → W p l e ({ frames := 3, cells := 0, slots := 0, locals := 80 } : Room) s m args below meth c H locs 0 0 Q (F0 m 295 ls [])) (H : Heap) (locs : List Loc) (ls : Array Slot) (hP : va_P (dC, dI) vwCl [cM0 m0 m1 m2 m3 m4 m5 v, cM1 cI m1 v, cM2 cJ m2 v, cM3 cJ m3 v, cM4 cI m4 v, cM5 cI m5 v] H) (hD : va_D A [cM0 m0 m1 m2 m3 m4 m5 v, cM1 cI m1 v, cM2 cJ m2 v, cM3 cJ m3 v, cM4 cI m4 v, cM5 cI m5 v]) (hS : va_S A H0 H locs) (hl : lv_has ls 8 [(0, .ref m0), (1, .int x), (2, .long a), (4, .long b), (6, .int mo)]) : W p l e ({ frames := 3, cells := 0, slots := 0, locals := 80 } : Room) s m args below meth c H locs 0 0 Q (F0 m 242 ls []) := by
  have hiX4 : ∀ w ∈ u_ws RX4 TX4 17, w ∈ wsX4_tells := by decide +kernel
  refine lv_aload_n hx hb dX4_tells_242 rfl (lv_at hl 0 rfl) ?_
  refine va_get (D := (dC, dI)) (ci := 4) (v := .ref m2) (C := RX4) (T := TX4) (N := 17) hx hb hts hiX4 hown hK hP 0 rfl rfl 3 (by decide) (hts (.fieldLink RX4 13 "TripReckonerModel" "now" "[J") (by decide +kernel)) (fun _ h9 => h9) rfl dX4_tells_243 ?_
  refine lv_bipush (v := 22) hx hb dX4_tells_246 (by decide) ?_
  refine lv_dup2_11 hx hb dX4_tells_248 rfl rfl ?_
  refine va_lald hx hb hK hP 2 1 rfl rfl (vd (by decide +kernel)) dX4_tells_249 ?_
  refine lv_topl (fun z_1 ez_1 => ?_)
  have ez_1 : z_1 = v.2.2.2.1 22 := ez_1
  subst ez_1
  refine lv_lconst (v := 1) hx hb dX4_tells_250 (by decide) ?_
  refine lv_ladd hx hb dX4_tells_251 ?_
  refine va_last hx hb hK hP hD hS 2 1 rfl rfl (vd (by decide +kernel)) dX4_tells_252 (fun H locs hP hD hS => ?_)
  have hP : va_P (dC, dI) vwCl [(m0, .inr (4, [.int v.1, .ref m1, .int v.2.2.1, .ref m2, .ref m3, .int v.2.2.2.2.2.1, .int v.2.2.2.2.2.2.1, .int v.2.2.2.2.2.2.2.1, .int v.2.2.2.2.2.2.2.2.1, .int v.2.2.2.2.2.2.2.2.2.1, .int v.2.2.2.2.2.2.2.2.2.2.1, .int v.2.2.2.2.2.2.2.2.2.2.2.1, .long v.2.2.2.2.2.2.2.2.2.2.2.2.1, .int v.2.2.2.2.2.2.2.2.2.2.2.2.2.1, .ref m4, .ref m5, .int v.2.2.2.2.2.2.2.2.2.2.2.2.2.2.2.2])), (m1, .inl (cI, 60, .inl v.2.1)), (m2, .inl (cJ, 92, .inr (.inl (vp_updL v.2.2.2.1 22 ((v.2.2.2.1 22) + 1))))), (m3, .inl (cJ, 92, .inr (.inl v.2.2.2.2.1))), (m4, .inl (cI, 1573, .inl v.2.2.2.2.2.2.2.2.2.2.2.2.2.2.1)), (m5, .inl (cI, 12, .inl v.2.2.2.2.2.2.2.2.2.2.2.2.2.2.2.1))] H := hP
  have hD : va_D A [(m0, .inr (4, [.int v.1, .ref m1, .int v.2.2.1, .ref m2, .ref m3, .int v.2.2.2.2.2.1, .int v.2.2.2.2.2.2.1, .int v.2.2.2.2.2.2.2.1, .int v.2.2.2.2.2.2.2.2.1, .int v.2.2.2.2.2.2.2.2.2.1, .int v.2.2.2.2.2.2.2.2.2.2.1, .int v.2.2.2.2.2.2.2.2.2.2.2.1, .long v.2.2.2.2.2.2.2.2.2.2.2.2.1, .int v.2.2.2.2.2.2.2.2.2.2.2.2.2.1, .ref m4, .ref m5, .int v.2.2.2.2.2.2.2.2.2.2.2.2.2.2.2.2])), (m1, .inl (cI, 60, .inl v.2.1)), (m2, .inl (cJ, 92, .inr (.inl (vp_updL v.2.2.2.1 22 ((v.2.2.2.1 22) + 1))))), (m3, .inl (cJ, 92, .inr (.inl v.2.2.2.2.1))), (m4, .inl (cI, 1573, .inl v.2.2.2.2.2.2.2.2.2.2.2.2.2.2.1)), (m5, .inl (cI, 12, .inl v.2.2.2.2.2.2.2.2.2.2.2.2.2.2.2.1))] := hD
  refine lv_aload_n hx hb dX4_tells_253 rfl (lv_at hl 0 rfl) ?_
  refine va_get (D := (dC, dI)) (ci := 4) (v := .ref m2) (C := RX4) (T := TX4) (N := 17) hx hb hts hiX4 hown hK hP 0 rfl rfl 3 (by decide) (hts (.fieldLink RX4 13 "TripReckonerModel" "now" "[J") (by decide +kernel)) (fun _ h9 => h9) rfl dX4_tells_254 ?_
  refine lv_bipush (v := 30) hx hb dX4_tells_257 (by decide) ?_
  refine lv_aload_n hx hb dX4_tells_259 rfl (lv_at hl 0 rfl) ?_
  refine va_get (D := (dC, dI)) (ci := 4) (v := .ref m2) (C := RX4) (T := TX4) (N := 17) hx hb hts hiX4 hown hK hP 0 rfl rfl 3 (by decide) (hts (.fieldLink RX4 13 "TripReckonerModel" "now" "[J") (by decide +kernel)) (fun _ h9 => h9) rfl dX4_tells_260 ?_
  refine lv_iconst (v := 0) hx hb dX4_tells_263 (by decide) ?_
  refine va_lald hx hb hK hP 2 1 rfl rfl (vd (by decide +kernel)) dX4_tells_264 ?_
  refine lv_topl (fun z_2 ez_2 => ?_)
  have ez_2 : z_2 = v.2.2.2.1 0 := ez_2
  subst ez_2
  refine va_last hx hb hK hP hD hS 2 1 rfl rfl (vd (by decide +kernel)) dX4_tells_265 (fun H locs hP hD hS => ?_)
  have hP : va_P (dC, dI) vwCl [(m0, .inr (4, [.int v.1, .ref m1, .int v.2.2.1, .ref m2, .ref m3, .int v.2.2.2.2.2.1, .int v.2.2.2.2.2.2.1, .int v.2.2.2.2.2.2.2.1, .int v.2.2.2.2.2.2.2.2.1, .int v.2.2.2.2.2.2.2.2.2.1, .int v.2.2.2.2.2.2.2.2.2.2.1, .int v.2.2.2.2.2.2.2.2.2.2.2.1, .long v.2.2.2.2.2.2.2.2.2.2.2.2.1, .int v.2.2.2.2.2.2.2.2.2.2.2.2.2.1, .ref m4, .ref m5, .int v.2.2.2.2.2.2.2.2.2.2.2.2.2.2.2.2])), (m1, .inl (cI, 60, .inl v.2.1)), (m2, .inl (cJ, 92, .inr (.inl (vp_updL (vp_updL v.2.2.2.1 22 ((v.2.2.2.1 22) + 1)) 30 (v.2.2.2.1 0))))), (m3, .inl (cJ, 92, .inr (.inl v.2.2.2.2.1))), (m4, .inl (cI, 1573, .inl v.2.2.2.2.2.2.2.2.2.2.2.2.2.2.1)), (m5, .inl (cI, 12, .inl v.2.2.2.2.2.2.2.2.2.2.2.2.2.2.2.1))] H := hP
  have hD : va_D A [(m0, .inr (4, [.int v.1, .ref m1, .int v.2.2.1, .ref m2, .ref m3, .int v.2.2.2.2.2.1, .int v.2.2.2.2.2.2.1, .int v.2.2.2.2.2.2.2.1, .int v.2.2.2.2.2.2.2.2.1, .int v.2.2.2.2.2.2.2.2.2.1, .int v.2.2.2.2.2.2.2.2.2.2.1, .int v.2.2.2.2.2.2.2.2.2.2.2.1, .long v.2.2.2.2.2.2.2.2.2.2.2.2.1, .int v.2.2.2.2.2.2.2.2.2.2.2.2.2.1, .ref m4, .ref m5, .int v.2.2.2.2.2.2.2.2.2.2.2.2.2.2.2.2])), (m1, .inl (cI, 60, .inl v.2.1)), (m2, .inl (cJ, 92, .inr (.inl (vp_updL (vp_updL v.2.2.2.1 22 ((v.2.2.2.1 22) + 1)) 30 (v.2.2.2.1 0))))), (m3, .inl (cJ, 92, .inr (.inl v.2.2.2.2.1))), (m4, .inl (cI, 1573, .inl v.2.2.2.2.2.2.2.2.2.2.2.2.2.2.1)), (m5, .inl (cI, 12, .inl v.2.2.2.2.2.2.2.2.2.2.2.2.2.2.2.1))] := hD
  refine lv_aload_n hx hb dX4_tells_266 rfl (lv_at hl 0 rfl) ?_
  refine va_get (D := (dC, dI)) (ci := 4) (v := .ref m2) (C := RX4) (T := TX4) (N := 17) hx hb hts hiX4 hown hK hP 0 rfl rfl 3 (by decide) (hts (.fieldLink RX4 13 "TripReckonerModel" "now" "[J") (by decide +kernel)) (fun _ h9 => h9) rfl dX4_tells_267 ?_
  refine lv_bipush (v := 31) hx hb dX4_tells_270 (by decide) ?_
  refine lv_aload_n hx hb dX4_tells_272 rfl (lv_at hl 0 rfl) ?_
  refine va_get (D := (dC, dI)) (ci := 4) (v := .ref m2) (C := RX4) (T := TX4) (N := 17) hx hb hts hiX4 hown hK hP 0 rfl rfl 3 (by decide) (hts (.fieldLink RX4 13 "TripReckonerModel" "now" "[J") (by decide +kernel)) (fun _ h9 => h9) rfl dX4_tells_273 ?_
  refine lv_iconst (v := 1) hx hb dX4_tells_276 (by decide) ?_
  refine va_lald hx hb hK hP 2 1 rfl rfl (vd (by decide +kernel)) dX4_tells_277 ?_
  refine lv_topl (fun z_3 ez_3 => ?_)
  have ez_3 : z_3 = v.2.2.2.1 1 := ez_3
  subst ez_3
  refine va_last hx hb hK hP hD hS 2 1 rfl rfl (vd (by decide +kernel)) dX4_tells_278 (fun H locs hP hD hS => ?_)
  have hP : va_P (dC, dI) vwCl [(m0, .inr (4, [.int v.1, .ref m1, .int v.2.2.1, .ref m2, .ref m3, .int v.2.2.2.2.2.1, .int v.2.2.2.2.2.2.1, .int v.2.2.2.2.2.2.2.1, .int v.2.2.2.2.2.2.2.2.1, .int v.2.2.2.2.2.2.2.2.2.1, .int v.2.2.2.2.2.2.2.2.2.2.1, .int v.2.2.2.2.2.2.2.2.2.2.2.1, .long v.2.2.2.2.2.2.2.2.2.2.2.2.1, .int v.2.2.2.2.2.2.2.2.2.2.2.2.2.1, .ref m4, .ref m5, .int v.2.2.2.2.2.2.2.2.2.2.2.2.2.2.2.2])), (m1, .inl (cI, 60, .inl v.2.1)), (m2, .inl (cJ, 92, .inr (.inl (vp_updL (vp_updL (vp_updL v.2.2.2.1 22 ((v.2.2.2.1 22) + 1)) 30 (v.2.2.2.1 0)) 31 (v.2.2.2.1 1))))), (m3, .inl (cJ, 92, .inr (.inl v.2.2.2.2.1))), (m4, .inl (cI, 1573, .inl v.2.2.2.2.2.2.2.2.2.2.2.2.2.2.1)), (m5, .inl (cI, 12, .inl v.2.2.2.2.2.2.2.2.2.2.2.2.2.2.2.1))] H := hP
  have hD : va_D A [(m0, .inr (4, [.int v.1, .ref m1, .int v.2.2.1, .ref m2, .ref m3, .int v.2.2.2.2.2.1, .int v.2.2.2.2.2.2.1, .int v.2.2.2.2.2.2.2.1, .int v.2.2.2.2.2.2.2.2.1, .int v.2.2.2.2.2.2.2.2.2.1, .int v.2.2.2.2.2.2.2.2.2.2.1, .int v.2.2.2.2.2.2.2.2.2.2.2.1, .long v.2.2.2.2.2.2.2.2.2.2.2.2.1, .int v.2.2.2.2.2.2.2.2.2.2.2.2.2.1, .ref m4, .ref m5, .int v.2.2.2.2.2.2.2.2.2.2.2.2.2.2.2.2])), (m1, .inl (cI, 60, .inl v.2.1)), (m2, .inl (cJ, 92, .inr (.inl (vp_updL (vp_updL (vp_updL v.2.2.2.1 22 ((v.2.2.2.1 22) + 1)) 30 (v.2.2.2.1 0)) 31 (v.2.2.2.1 1))))), (m3, .inl (cJ, 92, .inr (.inl v.2.2.2.2.1))), (m4, .inl (cI, 1573, .inl v.2.2.2.2.2.2.2.2.2.2.2.2.2.2.1)), (m5, .inl (cI, 12, .inl v.2.2.2.2.2.2.2.2.2.2.2.2.2.2.2.1))] := hD
  refine lv_aload_n hx hb dX4_tells_279 rfl (lv_at hl 0 rfl) ?_
  refine va_get (D := (dC, dI)) (ci := 4) (v := .ref m2) (C := RX4) (T := TX4) (N := 17) hx hb hts hiX4 hown hK hP 0 rfl rfl 3 (by decide) (hts (.fieldLink RX4 13 "TripReckonerModel" "now" "[J") (by decide +kernel)) (fun _ h9 => h9) rfl dX4_tells_280 ?_
  refine lv_bipush (v := 28) hx hb dX4_tells_283 (by decide) ?_
  refine lv_lconst (v := 0) hx hb dX4_tells_285 (by decide) ?_
  refine va_last hx hb hK hP hD hS 2 1 rfl rfl (vd (by decide +kernel)) dX4_tells_286 (fun H locs hP hD hS => ?_)
  have hP : va_P (dC, dI) vwCl [(m0, .inr (4, [.int v.1, .ref m1, .int v.2.2.1, .ref m2, .ref m3, .int v.2.2.2.2.2.1, .int v.2.2.2.2.2.2.1, .int v.2.2.2.2.2.2.2.1, .int v.2.2.2.2.2.2.2.2.1, .int v.2.2.2.2.2.2.2.2.2.1, .int v.2.2.2.2.2.2.2.2.2.2.1, .int v.2.2.2.2.2.2.2.2.2.2.2.1, .long v.2.2.2.2.2.2.2.2.2.2.2.2.1, .int v.2.2.2.2.2.2.2.2.2.2.2.2.2.1, .ref m4, .ref m5, .int v.2.2.2.2.2.2.2.2.2.2.2.2.2.2.2.2])), (m1, .inl (cI, 60, .inl v.2.1)), (m2, .inl (cJ, 92, .inr (.inl (vp_updL (vp_updL (vp_updL (vp_updL v.2.2.2.1 22 ((v.2.2.2.1 22) + 1)) 30 (v.2.2.2.1 0)) 31 (v.2.2.2.1 1)) 28 0)))), (m3, .inl (cJ, 92, .inr (.inl v.2.2.2.2.1))), (m4, .inl (cI, 1573, .inl v.2.2.2.2.2.2.2.2.2.2.2.2.2.2.1)), (m5, .inl (cI, 12, .inl v.2.2.2.2.2.2.2.2.2.2.2.2.2.2.2.1))] H := hP
  have hD : va_D A [(m0, .inr (4, [.int v.1, .ref m1, .int v.2.2.1, .ref m2, .ref m3, .int v.2.2.2.2.2.1, .int v.2.2.2.2.2.2.1, .int v.2.2.2.2.2.2.2.1, .int v.2.2.2.2.2.2.2.2.1, .int v.2.2.2.2.2.2.2.2.2.1, .int v.2.2.2.2.2.2.2.2.2.2.1, .int v.2.2.2.2.2.2.2.2.2.2.2.1, .long v.2.2.2.2.2.2.2.2.2.2.2.2.1, .int v.2.2.2.2.2.2.2.2.2.2.2.2.2.1, .ref m4, .ref m5, .int v.2.2.2.2.2.2.2.2.2.2.2.2.2.2.2.2])), (m1, .inl (cI, 60, .inl v.2.1)), (m2, .inl (cJ, 92, .inr (.inl (vp_updL (vp_updL (vp_updL (vp_updL v.2.2.2.1 22 ((v.2.2.2.1 22) + 1)) 30 (v.2.2.2.1 0)) 31 (v.2.2.2.1 1)) 28 0)))), (m3, .inl (cJ, 92, .inr (.inl v.2.2.2.2.1))), (m4, .inl (cI, 1573, .inl v.2.2.2.2.2.2.2.2.2.2.2.2.2.2.1)), (m5, .inl (cI, 12, .inl v.2.2.2.2.2.2.2.2.2.2.2.2.2.2.2.1))] := hD
  refine lv_aload_n hx hb dX4_tells_287 rfl (lv_at hl 0 rfl) ?_
  refine va_get (D := (dC, dI)) (ci := 4) (v := .ref m2) (C := RX4) (T := TX4) (N := 17) hx hb hts hiX4 hown hK hP 0 rfl rfl 3 (by decide) (hts (.fieldLink RX4 13 "TripReckonerModel" "now" "[J") (by decide +kernel)) (fun _ h9 => h9) rfl dX4_tells_288 ?_
  refine lv_bipush (v := 29) hx hb dX4_tells_291 (by decide) ?_
  refine lv_lconst (v := 0) hx hb dX4_tells_293 (by decide) ?_
  refine va_last hx hb hK hP hD hS 2 1 rfl rfl (vd (by decide +kernel)) dX4_tells_294 (fun H locs hP hD hS => ?_)
  have hP : va_P (dC, dI) vwCl [(m0, .inr (4, [.int v.1, .ref m1, .int v.2.2.1, .ref m2, .ref m3, .int v.2.2.2.2.2.1, .int v.2.2.2.2.2.2.1, .int v.2.2.2.2.2.2.2.1, .int v.2.2.2.2.2.2.2.2.1, .int v.2.2.2.2.2.2.2.2.2.1, .int v.2.2.2.2.2.2.2.2.2.2.1, .int v.2.2.2.2.2.2.2.2.2.2.2.1, .long v.2.2.2.2.2.2.2.2.2.2.2.2.1, .int v.2.2.2.2.2.2.2.2.2.2.2.2.2.1, .ref m4, .ref m5, .int v.2.2.2.2.2.2.2.2.2.2.2.2.2.2.2.2])), (m1, .inl (cI, 60, .inl v.2.1)), (m2, .inl (cJ, 92, .inr (.inl (vp_updL (vp_updL (vp_updL (vp_updL (vp_updL v.2.2.2.1 22 ((v.2.2.2.1 22) + 1)) 30 (v.2.2.2.1 0)) 31 (v.2.2.2.1 1)) 28 0) 29 0)))), (m3, .inl (cJ, 92, .inr (.inl v.2.2.2.2.1))), (m4, .inl (cI, 1573, .inl v.2.2.2.2.2.2.2.2.2.2.2.2.2.2.1)), (m5, .inl (cI, 12, .inl v.2.2.2.2.2.2.2.2.2.2.2.2.2.2.2.1))] H := hP
  have hD : va_D A [(m0, .inr (4, [.int v.1, .ref m1, .int v.2.2.1, .ref m2, .ref m3, .int v.2.2.2.2.2.1, .int v.2.2.2.2.2.2.1, .int v.2.2.2.2.2.2.2.1, .int v.2.2.2.2.2.2.2.2.1, .int v.2.2.2.2.2.2.2.2.2.1, .int v.2.2.2.2.2.2.2.2.2.2.1, .int v.2.2.2.2.2.2.2.2.2.2.2.1, .long v.2.2.2.2.2.2.2.2.2.2.2.2.1, .int v.2.2.2.2.2.2.2.2.2.2.2.2.2.1, .ref m4, .ref m5, .int v.2.2.2.2.2.2.2.2.2.2.2.2.2.2.2.2])), (m1, .inl (cI, 60, .inl v.2.1)), (m2, .inl (cJ, 92, .inr (.inl (vp_updL (vp_updL (vp_updL (vp_updL (vp_updL v.2.2.2.1 22 ((v.2.2.2.1 22) + 1)) 30 (v.2.2.2.1 0)) 31 (v.2.2.2.1 1)) 28 0) 29 0)))), (m3, .inl (cJ, 92, .inr (.inl v.2.2.2.2.1))), (m4, .inl (cI, 1573, .inl v.2.2.2.2.2.2.2.2.2.2.2.2.2.2.1)), (m5, .inl (cI, 12, .inl v.2.2.2.2.2.2.2.2.2.2.2.2.2.2.2.1))] := hD
  exact kk _ _ _ hP hD hS (lv_sub hl [0, 1, 2, 3, 4] rfl)

def sX4_tells_g_22 (x : Int32) (v : MS) (g_2 : MS) (n_6 : Int64) (n_10 : Int64) (n_15 : Int32) (g_22 : MS) : MS :=
  g_22
def sX4_tells_g_32 (x : Int32) (v : MS) (g_2 : MS) (n_6 : Int64) (n_10 : Int64) (n_15 : Int32) (g_26 : MS) (g_27 : MS) (g_29 : MS) (g_32 : MS) : MS :=
  g_32
def sX4_tells_g_29 (x : Int32) (v : MS) (g_2 : MS) (n_6 : Int64) (n_10 : Int64) (n_15 : Int32) (g_26 : MS) (g_27 : MS) (g_29 : MS) : MS :=
  sX4_tells_g_32 x v g_2 n_6 n_10 n_15 g_26 g_27 g_29 (sX4_jump (g_29.1, g_29.2.1, g_29.2.2.1, vp_updL (vp_updL (vp_updL g_29.2.2.2.1 27 1) 0 n_6) 1 n_10, g_29.2.2.2.2.1, g_29.2.2.2.2.2.1, g_29.2.2.2.2.2.2.1, g_29.2.2.2.2.2.2.2.1, g_29.2.2.2.2.2.2.2.2.1, g_29.2.2.2.2.2.2.2.2.2.1, g_29.2.2.2.2.2.2.2.2.2.2.1, g_29.2.2.2.2.2.2.2.2.2.2.2.1, g_29.2.2.2.2.2.2.2.2.2.2.2.2.1, g_29.2.2.2.2.2.2.2.2.2.2.2.2.2.1, g_29.2.2.2.2.2.2.2.2.2.2.2.2.2.2.1, g_29.2.2.2.2.2.2.2.2.2.2.2.2.2.2.2.1, g_29.2.2.2.2.2.2.2.2.2.2.2.2.2.2.2.2))
def sX4_tells_g_27 (x : Int32) (v : MS) (g_2 : MS) (n_6 : Int64) (n_10 : Int64) (n_15 : Int32) (g_26 : MS) (g_27 : MS) : MS :=
  sX4_tells_g_29 x v g_2 n_6 n_10 n_15 g_26 g_27 (sX4_clear 3 g_27)
def sX4_tells_g_26 (x : Int32) (v : MS) (g_2 : MS) (n_6 : Int64) (n_10 : Int64) (n_15 : Int32) (g_26 : MS) : MS :=
  sX4_tells_g_27 x v g_2 n_6 n_10 n_15 g_26 (sf_tells2 x n_6 n_10 n_15 g_26)
def sX4_tells_n_15 (x : Int32) (v : MS) (g_2 : MS) (n_6 : Int64) (n_10 : Int64) (n_15 : Int32) : MS :=
  if n_15 = 0 then
    sX4_tells_g_22 x v g_2 n_6 n_10 n_15 (sX4_jump (g_2.1, g_2.2.1, g_2.2.2.1, vp_updL (vp_updL (vp_updL (vp_updL g_2.2.2.2.1 23 ((g_2.2.2.2.1 23) + 1)) 27 0) 0 n_6) 1 n_10, g_2.2.2.2.2.1, g_2.2.2.2.2.2.1, g_2.2.2.2.2.2.2.1, g_2.2.2.2.2.2.2.2.1, g_2.2.2.2.2.2.2.2.2.1, g_2.2.2.2.2.2.2.2.2.2.1, g_2.2.2.2.2.2.2.2.2.2.2.1, g_2.2.2.2.2.2.2.2.2.2.2.2.1, g_2.2.2.2.2.2.2.2.2.2.2.2.2.1, g_2.2.2.2.2.2.2.2.2.2.2.2.2.2.1, g_2.2.2.2.2.2.2.2.2.2.2.2.2.2.2.1, g_2.2.2.2.2.2.2.2.2.2.2.2.2.2.2.2.1, g_2.2.2.2.2.2.2.2.2.2.2.2.2.2.2.2.2))
  else
    sX4_tells_g_26 x v g_2 n_6 n_10 n_15 (sf_tells1 x n_6 n_10 n_15 (rX4_place (g_2.2.2.2.1 22)) g_2)
def sX4_tells_g_45 (x : Int32) (v : MS) (g_2 : MS) (n_6 : Int64) (n_10 : Int64) (n_38 : Int32) (g_45 : MS) : MS :=
  g_45
def sX4_tells_g_55 (x : Int32) (v : MS) (g_2 : MS) (n_6 : Int64) (n_10 : Int64) (n_38 : Int32) (g_49 : MS) (g_50 : MS) (g_52 : MS) (g_55 : MS) : MS :=
  g_55
def sX4_tells_g_52 (x : Int32) (v : MS) (g_2 : MS) (n_6 : Int64) (n_10 : Int64) (n_38 : Int32) (g_49 : MS) (g_50 : MS) (g_52 : MS) : MS :=
  sX4_tells_g_55 x v g_2 n_6 n_10 n_38 g_49 g_50 g_52 (sX4_jump (g_52.1, g_52.2.1, g_52.2.2.1, vp_updL (vp_updL (vp_updL g_52.2.2.2.1 27 1) 0 n_6) 1 n_10, g_52.2.2.2.2.1, g_52.2.2.2.2.2.1, g_52.2.2.2.2.2.2.1, g_52.2.2.2.2.2.2.2.1, g_52.2.2.2.2.2.2.2.2.1, g_52.2.2.2.2.2.2.2.2.2.1, g_52.2.2.2.2.2.2.2.2.2.2.1, g_52.2.2.2.2.2.2.2.2.2.2.2.1, g_52.2.2.2.2.2.2.2.2.2.2.2.2.1, g_52.2.2.2.2.2.2.2.2.2.2.2.2.2.1, g_52.2.2.2.2.2.2.2.2.2.2.2.2.2.2.1, g_52.2.2.2.2.2.2.2.2.2.2.2.2.2.2.2.1, g_52.2.2.2.2.2.2.2.2.2.2.2.2.2.2.2.2))
def sX4_tells_g_50 (x : Int32) (v : MS) (g_2 : MS) (n_6 : Int64) (n_10 : Int64) (n_38 : Int32) (g_49 : MS) (g_50 : MS) : MS :=
  sX4_tells_g_52 x v g_2 n_6 n_10 n_38 g_49 g_50 (sX4_clear 3 g_50)
def sX4_tells_g_49 (x : Int32) (v : MS) (g_2 : MS) (n_6 : Int64) (n_10 : Int64) (n_38 : Int32) (g_49 : MS) : MS :=
  sX4_tells_g_50 x v g_2 n_6 n_10 n_38 g_49 (sf_tells2 x n_6 n_10 n_38 g_49)
def sX4_tells_n_38 (x : Int32) (v : MS) (g_2 : MS) (n_6 : Int64) (n_10 : Int64) (n_38 : Int32) : MS :=
  if n_38 = 0 then
    sX4_tells_g_45 x v g_2 n_6 n_10 n_38 (sX4_jump (g_2.1, g_2.2.1, g_2.2.2.1, vp_updL (vp_updL (vp_updL (vp_updL g_2.2.2.2.1 23 ((g_2.2.2.2.1 23) + 1)) 27 0) 0 n_6) 1 n_10, g_2.2.2.2.2.1, g_2.2.2.2.2.2.1, g_2.2.2.2.2.2.2.1, g_2.2.2.2.2.2.2.2.1, g_2.2.2.2.2.2.2.2.2.1, g_2.2.2.2.2.2.2.2.2.2.1, g_2.2.2.2.2.2.2.2.2.2.2.1, g_2.2.2.2.2.2.2.2.2.2.2.2.1, g_2.2.2.2.2.2.2.2.2.2.2.2.2.1, g_2.2.2.2.2.2.2.2.2.2.2.2.2.2.1, g_2.2.2.2.2.2.2.2.2.2.2.2.2.2.2.1, g_2.2.2.2.2.2.2.2.2.2.2.2.2.2.2.2.1, g_2.2.2.2.2.2.2.2.2.2.2.2.2.2.2.2.2))
  else
    sX4_tells_g_49 x v g_2 n_6 n_10 n_38 (sf_tells1 x n_6 n_10 n_38 (rX4_place (g_2.2.2.2.1 22)) g_2)
def sX4_tells_g_69 (x : Int32) (v : MS) (g_2 : MS) (n_6 : Int64) (n_10 : Int64) (n_59 : (Nat → Int64)) (n_62 : (Nat → Int64)) (n_65 : MS) (g_69 : MS) : MS :=
  g_69
def sX4_tells_n_65 (x : Int32) (v : MS) (g_2 : MS) (n_6 : Int64) (n_10 : Int64) (n_59 : (Nat → Int64)) (n_62 : (Nat → Int64)) (n_65 : MS) : MS :=
  sX4_tells_g_69 x v g_2 n_6 n_10 n_59 n_62 n_65 (sX4_step n_65)
def sX4_tells_n_62 (x : Int32) (v : MS) (g_2 : MS) (n_6 : Int64) (n_10 : Int64) (n_59 : (Nat → Int64)) (n_62 : (Nat → Int64)) : MS :=
  sX4_tells_n_65 x v g_2 n_6 n_10 n_59 n_62 (if (lg_cmp (n_62 27) 1) = 0 then (sX4_settle (g_2.1, g_2.2.1, g_2.2.2.1, n_62, g_2.2.2.2.2.1, g_2.2.2.2.2.2.1, g_2.2.2.2.2.2.2.1, g_2.2.2.2.2.2.2.2.1, g_2.2.2.2.2.2.2.2.2.1, g_2.2.2.2.2.2.2.2.2.2.1, g_2.2.2.2.2.2.2.2.2.2.2.1, g_2.2.2.2.2.2.2.2.2.2.2.2.1, g_2.2.2.2.2.2.2.2.2.2.2.2.2.1, g_2.2.2.2.2.2.2.2.2.2.2.2.2.2.1, g_2.2.2.2.2.2.2.2.2.2.2.2.2.2.2.1, g_2.2.2.2.2.2.2.2.2.2.2.2.2.2.2.2.1, g_2.2.2.2.2.2.2.2.2.2.2.2.2.2.2.2.2)) else (g_2.1, g_2.2.1, g_2.2.2.1, n_62, g_2.2.2.2.2.1, g_2.2.2.2.2.2.1, g_2.2.2.2.2.2.2.1, g_2.2.2.2.2.2.2.2.1, g_2.2.2.2.2.2.2.2.2.1, g_2.2.2.2.2.2.2.2.2.2.1, g_2.2.2.2.2.2.2.2.2.2.2.1, g_2.2.2.2.2.2.2.2.2.2.2.2.1, g_2.2.2.2.2.2.2.2.2.2.2.2.2.1, g_2.2.2.2.2.2.2.2.2.2.2.2.2.2.1, g_2.2.2.2.2.2.2.2.2.2.2.2.2.2.2.1, g_2.2.2.2.2.2.2.2.2.2.2.2.2.2.2.2.1, g_2.2.2.2.2.2.2.2.2.2.2.2.2.2.2.2.2))
def sX4_tells_n_59 (x : Int32) (v : MS) (g_2 : MS) (n_6 : Int64) (n_10 : Int64) (n_59 : (Nat → Int64)) : MS :=
  sX4_tells_n_62 x v g_2 n_6 n_10 n_59 (if 0 ≤ (lg_cmp n_10 (n_59 1)) then n_59 else vp_updL n_59 1 n_10)
def sX4_tells_n_10 (x : Int32) (v : MS) (g_2 : MS) (n_6 : Int64) (n_10 : Int64) : MS :=
  if 0 < (lg_cmp n_6 (g_2.2.2.2.1 1)) then
    sX4_tells_n_15 x v g_2 n_6 n_10 (if (lg_cmp n_6 (g_2.2.2.2.1 1)) ≤ 0 then 0 else 1)
  else
    if (lg_cmp n_10 (g_2.2.2.2.1 0)) < 0 then
      sX4_tells_n_38 x v g_2 n_6 n_10 (if (lg_cmp n_6 (g_2.2.2.2.1 1)) ≤ 0 then 0 else 1)
    else
      sX4_tells_n_59 x v g_2 n_6 n_10 (if (lg_cmp n_6 (g_2.2.2.2.1 0)) ≤ 0 then g_2.2.2.2.1 else vp_updL g_2.2.2.2.1 0 n_6)
def sX4_tells_n_6 (x : Int32) (v : MS) (g_2 : MS) (n_6 : Int64) : MS :=
  sX4_tells_n_10 x v g_2 n_6 (if (lg_cmp ((g_2.2.2.2.2.2.1.toInt64 * (((x + 1) + g_2.2.2.2.2.2.2.2.1).toInt64)) / 255) g_2.2.2.2.2.2.1.toInt64) ≤ 0 then (g_2.2.2.2.2.2.1.toInt64 * (((x + 1) + g_2.2.2.2.2.2.2.2.1).toInt64)) / 255 else g_2.2.2.2.2.2.1.toInt64)
def sX4_tells_g_2 (x : Int32) (v : MS) (g_2 : MS) : MS :=
  if (rX4_isIn x 0 255) = 0 then
    g_2
  else
    sX4_tells_n_6 x v g_2 (if x ≤ g_2.2.2.2.2.2.2.2.1 then 0 else (g_2.2.2.2.2.2.1.toInt64 * ((x - g_2.2.2.2.2.2.2.2.1).toInt64)) / 255)
def sX4_tells (x : Int32) (v : MS) : MS :=
  sX4_tells_g_2 x v (sX4_begin (0, v.2.1, v.2.2.1, v.2.2.2.1, v.2.2.2.2.1, v.2.2.2.2.2.1, v.2.2.2.2.2.2.1, v.2.2.2.2.2.2.2.1, v.2.2.2.2.2.2.2.2.1, v.2.2.2.2.2.2.2.2.2.1, v.2.2.2.2.2.2.2.2.2.2.1, v.2.2.2.2.2.2.2.2.2.2.2.1, v.2.2.2.2.2.2.2.2.2.2.2.2.1, v.2.2.2.2.2.2.2.2.2.2.2.2.2.1, v.2.2.2.2.2.2.2.2.2.2.2.2.2.2.1, v.2.2.2.2.2.2.2.2.2.2.2.2.2.2.2.1, v.2.2.2.2.2.2.2.2.2.2.2.2.2.2.2.2))
def rX4_tells_g_22 (x : Int32) (v : MS) (g_2 : MS) (n_6 : Int64) (n_10 : Int64) (n_15 : Int32) (g_22 : MS) : Int32 :=
  2
def rX4_tells_g_32 (x : Int32) (v : MS) (g_2 : MS) (n_6 : Int64) (n_10 : Int64) (n_15 : Int32) (g_26 : MS) (g_27 : MS) (g_29 : MS) (g_32 : MS) : Int32 :=
  1
def rX4_tells_g_29 (x : Int32) (v : MS) (g_2 : MS) (n_6 : Int64) (n_10 : Int64) (n_15 : Int32) (g_26 : MS) (g_27 : MS) (g_29 : MS) : Int32 :=
  rX4_tells_g_32 x v g_2 n_6 n_10 n_15 g_26 g_27 g_29 (sX4_jump (g_29.1, g_29.2.1, g_29.2.2.1, vp_updL (vp_updL (vp_updL g_29.2.2.2.1 27 1) 0 n_6) 1 n_10, g_29.2.2.2.2.1, g_29.2.2.2.2.2.1, g_29.2.2.2.2.2.2.1, g_29.2.2.2.2.2.2.2.1, g_29.2.2.2.2.2.2.2.2.1, g_29.2.2.2.2.2.2.2.2.2.1, g_29.2.2.2.2.2.2.2.2.2.2.1, g_29.2.2.2.2.2.2.2.2.2.2.2.1, g_29.2.2.2.2.2.2.2.2.2.2.2.2.1, g_29.2.2.2.2.2.2.2.2.2.2.2.2.2.1, g_29.2.2.2.2.2.2.2.2.2.2.2.2.2.2.1, g_29.2.2.2.2.2.2.2.2.2.2.2.2.2.2.2.1, g_29.2.2.2.2.2.2.2.2.2.2.2.2.2.2.2.2))
def rX4_tells_g_27 (x : Int32) (v : MS) (g_2 : MS) (n_6 : Int64) (n_10 : Int64) (n_15 : Int32) (g_26 : MS) (g_27 : MS) : Int32 :=
  rX4_tells_g_29 x v g_2 n_6 n_10 n_15 g_26 g_27 (sX4_clear 3 g_27)
def rX4_tells_g_26 (x : Int32) (v : MS) (g_2 : MS) (n_6 : Int64) (n_10 : Int64) (n_15 : Int32) (g_26 : MS) : Int32 :=
  rX4_tells_g_27 x v g_2 n_6 n_10 n_15 g_26 (sf_tells2 x n_6 n_10 n_15 g_26)
def rX4_tells_n_15 (x : Int32) (v : MS) (g_2 : MS) (n_6 : Int64) (n_10 : Int64) (n_15 : Int32) : Int32 :=
  if n_15 = 0 then
    rX4_tells_g_22 x v g_2 n_6 n_10 n_15 (sX4_jump (g_2.1, g_2.2.1, g_2.2.2.1, vp_updL (vp_updL (vp_updL (vp_updL g_2.2.2.2.1 23 ((g_2.2.2.2.1 23) + 1)) 27 0) 0 n_6) 1 n_10, g_2.2.2.2.2.1, g_2.2.2.2.2.2.1, g_2.2.2.2.2.2.2.1, g_2.2.2.2.2.2.2.2.1, g_2.2.2.2.2.2.2.2.2.1, g_2.2.2.2.2.2.2.2.2.2.1, g_2.2.2.2.2.2.2.2.2.2.2.1, g_2.2.2.2.2.2.2.2.2.2.2.2.1, g_2.2.2.2.2.2.2.2.2.2.2.2.2.1, g_2.2.2.2.2.2.2.2.2.2.2.2.2.2.1, g_2.2.2.2.2.2.2.2.2.2.2.2.2.2.2.1, g_2.2.2.2.2.2.2.2.2.2.2.2.2.2.2.2.1, g_2.2.2.2.2.2.2.2.2.2.2.2.2.2.2.2.2))
  else
    rX4_tells_g_26 x v g_2 n_6 n_10 n_15 (sf_tells1 x n_6 n_10 n_15 (rX4_place (g_2.2.2.2.1 22)) g_2)
def rX4_tells_g_45 (x : Int32) (v : MS) (g_2 : MS) (n_6 : Int64) (n_10 : Int64) (n_38 : Int32) (g_45 : MS) : Int32 :=
  2
def rX4_tells_g_55 (x : Int32) (v : MS) (g_2 : MS) (n_6 : Int64) (n_10 : Int64) (n_38 : Int32) (g_49 : MS) (g_50 : MS) (g_52 : MS) (g_55 : MS) : Int32 :=
  1
def rX4_tells_g_52 (x : Int32) (v : MS) (g_2 : MS) (n_6 : Int64) (n_10 : Int64) (n_38 : Int32) (g_49 : MS) (g_50 : MS) (g_52 : MS) : Int32 :=
  rX4_tells_g_55 x v g_2 n_6 n_10 n_38 g_49 g_50 g_52 (sX4_jump (g_52.1, g_52.2.1, g_52.2.2.1, vp_updL (vp_updL (vp_updL g_52.2.2.2.1 27 1) 0 n_6) 1 n_10, g_52.2.2.2.2.1, g_52.2.2.2.2.2.1, g_52.2.2.2.2.2.2.1, g_52.2.2.2.2.2.2.2.1, g_52.2.2.2.2.2.2.2.2.1, g_52.2.2.2.2.2.2.2.2.2.1, g_52.2.2.2.2.2.2.2.2.2.2.1, g_52.2.2.2.2.2.2.2.2.2.2.2.1, g_52.2.2.2.2.2.2.2.2.2.2.2.2.1, g_52.2.2.2.2.2.2.2.2.2.2.2.2.2.1, g_52.2.2.2.2.2.2.2.2.2.2.2.2.2.2.1, g_52.2.2.2.2.2.2.2.2.2.2.2.2.2.2.2.1, g_52.2.2.2.2.2.2.2.2.2.2.2.2.2.2.2.2))
def rX4_tells_g_50 (x : Int32) (v : MS) (g_2 : MS) (n_6 : Int64) (n_10 : Int64) (n_38 : Int32) (g_49 : MS) (g_50 : MS) : Int32 :=
  rX4_tells_g_52 x v g_2 n_6 n_10 n_38 g_49 g_50 (sX4_clear 3 g_50)
def rX4_tells_g_49 (x : Int32) (v : MS) (g_2 : MS) (n_6 : Int64) (n_10 : Int64) (n_38 : Int32) (g_49 : MS) : Int32 :=
  rX4_tells_g_50 x v g_2 n_6 n_10 n_38 g_49 (sf_tells2 x n_6 n_10 n_38 g_49)
def rX4_tells_n_38 (x : Int32) (v : MS) (g_2 : MS) (n_6 : Int64) (n_10 : Int64) (n_38 : Int32) : Int32 :=
  if n_38 = 0 then
    rX4_tells_g_45 x v g_2 n_6 n_10 n_38 (sX4_jump (g_2.1, g_2.2.1, g_2.2.2.1, vp_updL (vp_updL (vp_updL (vp_updL g_2.2.2.2.1 23 ((g_2.2.2.2.1 23) + 1)) 27 0) 0 n_6) 1 n_10, g_2.2.2.2.2.1, g_2.2.2.2.2.2.1, g_2.2.2.2.2.2.2.1, g_2.2.2.2.2.2.2.2.1, g_2.2.2.2.2.2.2.2.2.1, g_2.2.2.2.2.2.2.2.2.2.1, g_2.2.2.2.2.2.2.2.2.2.2.1, g_2.2.2.2.2.2.2.2.2.2.2.2.1, g_2.2.2.2.2.2.2.2.2.2.2.2.2.1, g_2.2.2.2.2.2.2.2.2.2.2.2.2.2.1, g_2.2.2.2.2.2.2.2.2.2.2.2.2.2.2.1, g_2.2.2.2.2.2.2.2.2.2.2.2.2.2.2.2.1, g_2.2.2.2.2.2.2.2.2.2.2.2.2.2.2.2.2))
  else
    rX4_tells_g_49 x v g_2 n_6 n_10 n_38 (sf_tells1 x n_6 n_10 n_38 (rX4_place (g_2.2.2.2.1 22)) g_2)
def rX4_tells_g_69 (x : Int32) (v : MS) (g_2 : MS) (n_6 : Int64) (n_10 : Int64) (n_59 : (Nat → Int64)) (n_62 : (Nat → Int64)) (n_65 : MS) (g_69 : MS) : Int32 :=
  0
def rX4_tells_n_65 (x : Int32) (v : MS) (g_2 : MS) (n_6 : Int64) (n_10 : Int64) (n_59 : (Nat → Int64)) (n_62 : (Nat → Int64)) (n_65 : MS) : Int32 :=
  rX4_tells_g_69 x v g_2 n_6 n_10 n_59 n_62 n_65 (sX4_step n_65)
def rX4_tells_n_62 (x : Int32) (v : MS) (g_2 : MS) (n_6 : Int64) (n_10 : Int64) (n_59 : (Nat → Int64)) (n_62 : (Nat → Int64)) : Int32 :=
  rX4_tells_n_65 x v g_2 n_6 n_10 n_59 n_62 (if (lg_cmp (n_62 27) 1) = 0 then (sX4_settle (g_2.1, g_2.2.1, g_2.2.2.1, n_62, g_2.2.2.2.2.1, g_2.2.2.2.2.2.1, g_2.2.2.2.2.2.2.1, g_2.2.2.2.2.2.2.2.1, g_2.2.2.2.2.2.2.2.2.1, g_2.2.2.2.2.2.2.2.2.2.1, g_2.2.2.2.2.2.2.2.2.2.2.1, g_2.2.2.2.2.2.2.2.2.2.2.2.1, g_2.2.2.2.2.2.2.2.2.2.2.2.2.1, g_2.2.2.2.2.2.2.2.2.2.2.2.2.2.1, g_2.2.2.2.2.2.2.2.2.2.2.2.2.2.2.1, g_2.2.2.2.2.2.2.2.2.2.2.2.2.2.2.2.1, g_2.2.2.2.2.2.2.2.2.2.2.2.2.2.2.2.2)) else (g_2.1, g_2.2.1, g_2.2.2.1, n_62, g_2.2.2.2.2.1, g_2.2.2.2.2.2.1, g_2.2.2.2.2.2.2.1, g_2.2.2.2.2.2.2.2.1, g_2.2.2.2.2.2.2.2.2.1, g_2.2.2.2.2.2.2.2.2.2.1, g_2.2.2.2.2.2.2.2.2.2.2.1, g_2.2.2.2.2.2.2.2.2.2.2.2.1, g_2.2.2.2.2.2.2.2.2.2.2.2.2.1, g_2.2.2.2.2.2.2.2.2.2.2.2.2.2.1, g_2.2.2.2.2.2.2.2.2.2.2.2.2.2.2.1, g_2.2.2.2.2.2.2.2.2.2.2.2.2.2.2.2.1, g_2.2.2.2.2.2.2.2.2.2.2.2.2.2.2.2.2))
def rX4_tells_n_59 (x : Int32) (v : MS) (g_2 : MS) (n_6 : Int64) (n_10 : Int64) (n_59 : (Nat → Int64)) : Int32 :=
  rX4_tells_n_62 x v g_2 n_6 n_10 n_59 (if 0 ≤ (lg_cmp n_10 (n_59 1)) then n_59 else vp_updL n_59 1 n_10)
def rX4_tells_n_10 (x : Int32) (v : MS) (g_2 : MS) (n_6 : Int64) (n_10 : Int64) : Int32 :=
  if 0 < (lg_cmp n_6 (g_2.2.2.2.1 1)) then
    rX4_tells_n_15 x v g_2 n_6 n_10 (if (lg_cmp n_6 (g_2.2.2.2.1 1)) ≤ 0 then 0 else 1)
  else
    if (lg_cmp n_10 (g_2.2.2.2.1 0)) < 0 then
      rX4_tells_n_38 x v g_2 n_6 n_10 (if (lg_cmp n_6 (g_2.2.2.2.1 1)) ≤ 0 then 0 else 1)
    else
      rX4_tells_n_59 x v g_2 n_6 n_10 (if (lg_cmp n_6 (g_2.2.2.2.1 0)) ≤ 0 then g_2.2.2.2.1 else vp_updL g_2.2.2.2.1 0 n_6)
def rX4_tells_n_6 (x : Int32) (v : MS) (g_2 : MS) (n_6 : Int64) : Int32 :=
  rX4_tells_n_10 x v g_2 n_6 (if (lg_cmp ((g_2.2.2.2.2.2.1.toInt64 * (((x + 1) + g_2.2.2.2.2.2.2.2.1).toInt64)) / 255) g_2.2.2.2.2.2.1.toInt64) ≤ 0 then (g_2.2.2.2.2.2.1.toInt64 * (((x + 1) + g_2.2.2.2.2.2.2.2.1).toInt64)) / 255 else g_2.2.2.2.2.2.1.toInt64)
def rX4_tells_g_2 (x : Int32) (v : MS) (g_2 : MS) : Int32 :=
  if (rX4_isIn x 0 255) = 0 then
    (-1)
  else
    rX4_tells_n_6 x v g_2 (if x ≤ g_2.2.2.2.2.2.2.2.1 then 0 else (g_2.2.2.2.2.2.1.toInt64 * ((x - g_2.2.2.2.2.2.2.2.1).toInt64)) / 255)
def rX4_tells (x : Int32) (v : MS) : Int32 :=
  rX4_tells_g_2 x v (sX4_begin (0, v.2.1, v.2.2.1, v.2.2.2.1, v.2.2.2.2.1, v.2.2.2.2.2.1, v.2.2.2.2.2.2.1, v.2.2.2.2.2.2.2.1, v.2.2.2.2.2.2.2.2.1, v.2.2.2.2.2.2.2.2.2.1, v.2.2.2.2.2.2.2.2.2.2.1, v.2.2.2.2.2.2.2.2.2.2.2.1, v.2.2.2.2.2.2.2.2.2.2.2.2.1, v.2.2.2.2.2.2.2.2.2.2.2.2.2.1, v.2.2.2.2.2.2.2.2.2.2.2.2.2.2.1, v.2.2.2.2.2.2.2.2.2.2.2.2.2.2.2.1, v.2.2.2.2.2.2.2.2.2.2.2.2.2.2.2.2))
set_option maxHeartbeats 4000000 in
set_option maxRecDepth 100000 in
theorem kX4_tells (l : Launch) (dC : Nat → ClassId) (dI : Nat → Nat → Nat) (cI cJ : ClassId) (m0 m1 m2 m3 m4 m5 : Nat) (sz : Nat) (x : Int32) (v : MS) (hp : ∀ u : MS, u = sX4_begin (0, v.2) → 0 ≤ u.2.2.2.1 22) (hs : ∀ u : MS, u = sX4_begin (0, v.2) → u.2.2.2.1 27 = 1 → 0 ≤ u.2.2.2.1 22 - 1) : Met l yX4_tells wsX4_tells ({ frames := 3, cells := 0, slots := 0, locals := 80 }) (va_Pc [.ref m0, .int x] (fun U => U.heap.size = sz ∧ va_P (dC, dI) vwCl [cM0 m0 m1 m2 m3 m4 m5 v, cM1 cI m1 v, cM2 cJ m2 v, cM3 cJ m3 v, cM4 cI m4 v, cM5 cI m5 v] U.heap ∧ va_K (dC, dI) vwCl [(cI, .int), (cJ, .long)] U ∧ va_D (fun _ => True) [cM0 m0 m1 m2 m3 m4 m5 v, cM1 cI m1 v, cM2 cJ m2 v, cM3 cJ m3 v, cM4 cI m4 v, cM5 cI m5 v])) (va_Qi (fun (r : Int32) (_ : Unit) => r = rX4_tells x v) (fun _ t => va_P (dC, dI) vwCl [cM0 m0 m1 m2 m3 m4 m5 (sX4_tells x v), cM1 cI m1 (sX4_tells x v), cM2 cJ m2 (sX4_tells x v), cM3 cJ m3 (sX4_tells x v), cM4 cI m4 (sX4_tells x v), cM5 cI m5 (sX4_tells x v)] t.heap ∧ va_K (dC, dI) vwCl [(cI, .int), (cJ, .long)] t ∧ va_D (va_A [cM0 m0 m1 m2 m3 m4 m5 v, cM1 cI m1 v, cM2 cJ m2 v, cM3 cJ m3 v, cM4 cI m4 v, cM5 cI m5 v] sz) [cM0 m0 m1 m2 m3 m4 m5 (sX4_tells x v), cM1 cI m1 (sX4_tells x v), cM2 cJ m2 (sX4_tells x v), cM3 cJ m3 (sX4_tells x v), cM4 cI m4 (sX4_tells x v), cM5 cI m5 (sX4_tells x v)]) (va_A [cM0 m0 m1 m2 m3 m4 m5 v, cM1 cI m1 v, cM2 cJ m2 v, cM3 cJ m3 v, cM4 cI m4 v, cM5 cI m5 v] sz)) 0 0 (va_A [cM0 m0 m1 m2 m3 m4 m5 v, cM1 cI m1 v, cM2 cJ m2 v, cM3 cJ m3 v, cM4 cI m4 v, cM5 cI m5 v] sz) := by
  refine Met.ofW (cc := cX4_tells) (maxL := 8) (ret := (some .int)) (by decide) rfl ?_
  intro p e s m args below meth c s₁ B hml hv
  obtain ⟨rfl, hsz, hP, hK, hD0⟩ := hv
  have hx := B.exec
  have hb := B.bytes
  have hr := B.returns
  have hts := atoms_spec (ws := wsX4_tells) B.pre
  have hown : s.vm.findClass RX4 = some m.cls := findClass_of_methodNamed B.named
  have hlocks := B.notSynchronized
  have hiX4 : ∀ w ∈ u_ws RX4 TX4 17, w ∈ wsX4_tells := by decide +kernel
  subst hsz
  have hD := hD0.self (sz := s.heap.size)
  generalize hAe : va_A [cM0 m0 m1 m2 m3 m4 m5 v, cM1 cI m1 v, cM2 cJ m2 v, cM3 cJ m3 v, cM4 cI m4 v, cM5 cI m5 v] s.heap.size = A at hD ⊢
  have hA : ∀ q : Nat, s.heap.size ≤ q → A q := fun q h => by rw [← hAe]; exact Or.inr h
  have hS : va_S A s.heap s.heap [] := va_S.rf
  have hl := lv_entry ([.ref m0, .int x]) (n := 8) (Nat.le_of_ble_eq_true rfl)
  rw [lg_entry_eq]
  generalize (lg_sl ([.ref m0, .int x]) ++ List.replicate (8 - (lg_sl ([.ref m0, .int x])).length) Slot.unset).toArray = ls at hl ⊢
  have hl : lv_has ls 8 [(0, .ref m0), (1, .int x)] := hl
  have hP : va_P (dC, dI) vwCl [cM0 m0 m1 m2 m3 m4 m5 v, cM1 cI m1 v, cM2 cJ m2 v, cM3 cJ m3 v, cM4 cI m4 v, cM5 cI m5 v] s.heap := hP
  refine lv_aload_n hx hb dX4_tells_0 rfl (lv_at hl 0 rfl) ?_
  refine lv_iconst (v := 0) hx hb dX4_tells_1 (by decide) ?_
  refine va_put (D := (dC, dI)) (ci := 4) (v := .int 0) (ty := .int) (C := RX4) (T := TX4) (N := 17) hx hb hts hiX4 tyX4 tyX4_ok nmX4 hown hK hP hD hS 0 rfl rfl 0 (by decide) (hts (.fieldLink RX4 49 "TripReckonerModel" "thrown" "I") (by decide +kernel)) (fun _ h9 => h9) rfl (by decide +kernel) rfl rfl (Nat.le_of_ble_eq_true rfl) dX4_tells_2 (fun H locs hP hD hS => ?_)
  have hP : va_P (dC, dI) vwCl [(m0, .inr (4, [.int 0, .ref m1, .int v.2.2.1, .ref m2, .ref m3, .int v.2.2.2.2.2.1, .int v.2.2.2.2.2.2.1, .int v.2.2.2.2.2.2.2.1, .int v.2.2.2.2.2.2.2.2.1, .int v.2.2.2.2.2.2.2.2.2.1, .int v.2.2.2.2.2.2.2.2.2.2.1, .int v.2.2.2.2.2.2.2.2.2.2.2.1, .long v.2.2.2.2.2.2.2.2.2.2.2.2.1, .int v.2.2.2.2.2.2.2.2.2.2.2.2.2.1, .ref m4, .ref m5, .int v.2.2.2.2.2.2.2.2.2.2.2.2.2.2.2.2])), (m1, .inl (cI, 60, .inl v.2.1)), (m2, .inl (cJ, 92, .inr (.inl v.2.2.2.1))), (m3, .inl (cJ, 92, .inr (.inl v.2.2.2.2.1))), (m4, .inl (cI, 1573, .inl v.2.2.2.2.2.2.2.2.2.2.2.2.2.2.1)), (m5, .inl (cI, 12, .inl v.2.2.2.2.2.2.2.2.2.2.2.2.2.2.2.1))] H := hP
  have hD : va_D A [(m0, .inr (4, [.int 0, .ref m1, .int v.2.2.1, .ref m2, .ref m3, .int v.2.2.2.2.2.1, .int v.2.2.2.2.2.2.1, .int v.2.2.2.2.2.2.2.1, .int v.2.2.2.2.2.2.2.2.1, .int v.2.2.2.2.2.2.2.2.2.1, .int v.2.2.2.2.2.2.2.2.2.2.1, .int v.2.2.2.2.2.2.2.2.2.2.2.1, .long v.2.2.2.2.2.2.2.2.2.2.2.2.1, .int v.2.2.2.2.2.2.2.2.2.2.2.2.2.1, .ref m4, .ref m5, .int v.2.2.2.2.2.2.2.2.2.2.2.2.2.2.2.2])), (m1, .inl (cI, 60, .inl v.2.1)), (m2, .inl (cJ, 92, .inr (.inl v.2.2.2.1))), (m3, .inl (cJ, 92, .inr (.inl v.2.2.2.2.1))), (m4, .inl (cI, 1573, .inl v.2.2.2.2.2.2.2.2.2.2.2.2.2.2.1)), (m5, .inl (cI, 12, .inl v.2.2.2.2.2.2.2.2.2.2.2.2.2.2.2.1))] := hD
  refine lv_aload_n hx hb dX4_tells_5 rfl (lv_at hl 0 rfl) ?_
  have hPc := hP.sub (ws' := [(m0, .inr (4, [.int 0, .ref m1, .int v.2.2.1, .ref m2, .ref m3, .int v.2.2.2.2.2.1, .int v.2.2.2.2.2.2.1, .int v.2.2.2.2.2.2.2.1, .int v.2.2.2.2.2.2.2.2.1, .int v.2.2.2.2.2.2.2.2.2.1, .int v.2.2.2.2.2.2.2.2.2.2.1, .int v.2.2.2.2.2.2.2.2.2.2.2.1, .long v.2.2.2.2.2.2.2.2.2.2.2.2.1, .int v.2.2.2.2.2.2.2.2.2.2.2.2.2.1, .ref m4, .ref m5, .int v.2.2.2.2.2.2.2.2.2.2.2.2.2.2.2.2])), (m1, .inl (cI, 60, .inl v.2.1)), (m2, .inl (cJ, 92, .inr (.inl v.2.2.2.1))), (m3, .inl (cJ, 92, .inr (.inl v.2.2.2.2.1))), (m4, .inl (cI, 1573, .inl v.2.2.2.2.2.2.2.2.2.2.2.2.2.2.1)), (m5, .inl (cI, 12, .inl v.2.2.2.2.2.2.2.2.2.2.2.2.2.2.2.1))]) [0, 1, 2, 3, 4, 5] rfl
  have hDc := hD.sub (ws' := [(m0, .inr (4, [.int 0, .ref m1, .int v.2.2.1, .ref m2, .ref m3, .int v.2.2.2.2.2.1, .int v.2.2.2.2.2.2.1, .int v.2.2.2.2.2.2.2.1, .int v.2.2.2.2.2.2.2.2.1, .int v.2.2.2.2.2.2.2.2.2.1, .int v.2.2.2.2.2.2.2.2.2.2.1, .int v.2.2.2.2.2.2.2.2.2.2.2.1, .long v.2.2.2.2.2.2.2.2.2.2.2.2.1, .int v.2.2.2.2.2.2.2.2.2.2.2.2.2.1, .ref m4, .ref m5, .int v.2.2.2.2.2.2.2.2.2.2.2.2.2.2.2.2])), (m1, .inl (cI, 60, .inl v.2.1)), (m2, .inl (cJ, 92, .inr (.inl v.2.2.2.1))), (m3, .inl (cJ, 92, .inr (.inl v.2.2.2.2.1))), (m4, .inl (cI, 1573, .inl v.2.2.2.2.2.2.2.2.2.2.2.2.2.2.1)), (m5, .inl (cI, 12, .inl v.2.2.2.2.2.2.2.2.2.2.2.2.2.2.2.1))]) [0, 1, 2, 3, 4, 5] (by decide) rfl
  have hFc := va_free (wc := [(m0, .inr (4, [.int 0, .ref m1, .int v.2.2.1, .ref m2, .ref m3, .int v.2.2.2.2.2.1, .int v.2.2.2.2.2.2.1, .int v.2.2.2.2.2.2.2.1, .int v.2.2.2.2.2.2.2.2.1, .int v.2.2.2.2.2.2.2.2.2.1, .int v.2.2.2.2.2.2.2.2.2.2.1, .int v.2.2.2.2.2.2.2.2.2.2.2.1, .long v.2.2.2.2.2.2.2.2.2.2.2.2.1, .int v.2.2.2.2.2.2.2.2.2.2.2.2.2.1, .ref m4, .ref m5, .int v.2.2.2.2.2.2.2.2.2.2.2.2.2.2.2.2])), (m1, .inl (cI, 60, .inl v.2.1)), (m2, .inl (cJ, 92, .inr (.inl v.2.2.2.1))), (m3, .inl (cJ, 92, .inr (.inl v.2.2.2.2.1))), (m4, .inl (cI, 1573, .inl v.2.2.2.2.2.2.2.2.2.2.2.2.2.2.1)), (m5, .inl (cI, 12, .inl v.2.2.2.2.2.2.2.2.2.2.2.2.2.2.2.1))]) hD hS hA [0, 1, 2, 3, 4, 5] rfl
  refine va_callv (va_runV (As := []) (rest := []) ⟨hx, hb, hml, hown, hts⟩ (kX4_begin l dC dI cI cJ m0 m1 m2 m3 m4 m5 H.size (0, v.2.1, v.2.2.1, v.2.2.2.1, v.2.2.2.2.1, v.2.2.2.2.2.1, v.2.2.2.2.2.2.1, v.2.2.2.2.2.2.2.1, v.2.2.2.2.2.2.2.2.1, v.2.2.2.2.2.2.2.2.2.1, v.2.2.2.2.2.2.2.2.2.2.1, v.2.2.2.2.2.2.2.2.2.2.2.1, v.2.2.2.2.2.2.2.2.2.2.2.2.1, v.2.2.2.2.2.2.2.2.2.2.2.2.2.1, v.2.2.2.2.2.2.2.2.2.2.2.2.2.2.1, v.2.2.2.2.2.2.2.2.2.2.2.2.2.2.2.1, v.2.2.2.2.2.2.2.2.2.2.2.2.2.2.2.2)) (cwV 0 hts gX4_tells_X4_begin rfl rfl rfl (by decide +kernel) ⟨Nat.le_of_ble_eq_true rfl, Nat.le_of_ble_eq_true rfl⟩) ⟨fun a U g mk q => by obtain ⟨q0, q1, qP, qK, qD⟩ := q; exact ⟨q0, q1, qP, va_K.moved (u := U) (U := U.calling g mk a) (Vm.Alike.refl U.vm) qK, qD⟩, va_recv hK hPc (ci := 4) (q0 := 0) rfl rfl, fun U hU hW => ⟨rfl, by rw [hU], by rw [hU]; exact hPc, va_K.moved hW.alike hK, hDc.weaken (fun _ _ _ _ => trivial)⟩⟩ rfl rfl hl.1 rfl (lv_room (Nat.le_of_ble_eq_true rfl)) dX4_tells_6 ⟨Nat.le_of_ble_eq_true rfl, Nat.le_of_ble_eq_true rfl⟩) hS (fun q _ h => hFc q h) hFc (fun _ t H1 locs ht hvm hw hB hz1 hk1 hS => ?_)
  obtain ⟨hP1, hK1, hD1⟩ := hB
  rw [ht] at hP1
  obtain ⟨g_2, eg_2⟩ : ∃ z, z = sX4_begin (0, v.2.1, v.2.2.1, v.2.2.2.1, v.2.2.2.2.1, v.2.2.2.2.2.1, v.2.2.2.2.2.2.1, v.2.2.2.2.2.2.2.1, v.2.2.2.2.2.2.2.2.1, v.2.2.2.2.2.2.2.2.2.1, v.2.2.2.2.2.2.2.2.2.2.1, v.2.2.2.2.2.2.2.2.2.2.2.1, v.2.2.2.2.2.2.2.2.2.2.2.2.1, v.2.2.2.2.2.2.2.2.2.2.2.2.2.1, v.2.2.2.2.2.2.2.2.2.2.2.2.2.2.1, v.2.2.2.2.2.2.2.2.2.2.2.2.2.2.2.1, v.2.2.2.2.2.2.2.2.2.2.2.2.2.2.2.2) := ⟨_, rfl⟩
  rw [← eg_2] at hP1 hD1
  obtain ⟨hP, hD⟩ := va_join (wr := []) (w1 := [cM0 m0 m1 m2 m3 m4 m5 g_2, cM1 cI m1 g_2, cM2 cJ m2 g_2, cM3 cJ m3 g_2, cM4 cI m4 g_2, cM5 cI m5 g_2]) hP hD [0, 1, 2, 3, 4, 5] [] rfl rfl (by decide) (by decide) hk1 hFc hP1 hD1
  generalize H1 = H at hP hS ⊢
  have hP : va_P (dC, dI) vwCl [cM0 m0 m1 m2 m3 m4 m5 g_2, cM1 cI m1 g_2, cM2 cJ m2 g_2, cM3 cJ m3 g_2, cM4 cI m4 g_2, cM5 cI m5 g_2] H := hP
  have hD : va_D A [cM0 m0 m1 m2 m3 m4 m5 g_2, cM1 cI m1 g_2, cM2 cJ m2 g_2, cM3 cJ m3 g_2, cM4 cI m4 g_2, cM5 cI m5 g_2] := hD
  refine lv_iload_n hx hb dX4_tells_9 rfl (lv_at hl 1 rfl) ?_
  refine lv_iconst (v := 0) hx hb dX4_tells_10 (by decide) ?_
  refine lv_sipush (v := 255) hx hb dX4_tells_11 (by decide) ?_
  have hPc := hP.sub (ws' := []) [] rfl
  have hDc := hD.sub (ws' := []) [] (by decide) rfl
  have hFc := va_free (wc := []) hD hS hA [] rfl
  refine va_calli (va_runS (As := [.int x, .int 0, .int 255]) (rest := []) ⟨hx, hb, hml, hown, hts⟩ (kX4_isIn l dC dI cI cJ H.size x 0 255) (va_cwS 3 hts gX4_tells_X4_isIn rfl rfl rfl (by decide +kernel) ⟨Nat.le_of_ble_eq_true rfl, Nat.le_of_ble_eq_true rfl⟩) ⟨fun a U g mk q => by obtain ⟨q0, q1, qP, qK, qD⟩ := q; exact ⟨q0, q1, qP, va_K.moved (u := U) (U := U.calling g mk a) (Vm.Alike.refl U.vm) qK, qD⟩, fun U hU hW => ⟨rfl, by rw [hU], by rw [hU]; exact hPc, va_K.moved hW.alike hK, hDc.weaken (fun _ _ _ _ => trivial)⟩⟩ rfl rfl hl.1 rfl (lv_room (Nat.le_of_ble_eq_true rfl)) dX4_tells_14 ⟨Nat.le_of_ble_eq_true rfl, Nat.le_of_ble_eq_true rfl⟩) hS (fun q _ h => hFc q h) hFc (fun r_3 _ t H1 locs ht hvm hw hB hz1 hk1 hS => ?_)
  obtain ⟨hP1, hK1, hD1⟩ := hB
  rw [ht] at hP1
  obtain ⟨hP, hD⟩ := va_join (wr := [cM0 m0 m1 m2 m3 m4 m5 g_2, cM1 cI m1 g_2, cM2 cJ m2 g_2, cM3 cJ m3 g_2, cM4 cI m4 g_2, cM5 cI m5 g_2]) (w1 := []) hP hD [] [0, 1, 2, 3, 4, 5] rfl rfl (by decide) (by decide) hk1 hFc hP1 hD1
  generalize H1 = H at hP hS ⊢
  have hP : va_P (dC, dI) vwCl [cM0 m0 m1 m2 m3 m4 m5 g_2, cM1 cI m1 g_2, cM2 cJ m2 g_2, cM3 cJ m3 g_2, cM4 cI m4 g_2, cM5 cI m5 g_2] H := hP
  have hD : va_D A [cM0 m0 m1 m2 m3 m4 m5 g_2, cM1 cI m1 g_2, cM2 cJ m2 g_2, cM3 cJ m3 g_2, cM4 cI m4 g_2, cM5 cI m5 g_2] := hD
  subst hw
  refine lv_if_ne (tgt := 22) hx hb dX4_tells_17 (by decide) (fun c_4 => ?_) (fun c_4 => ?_)
  · refine lv_iload_n hx hb dX4_tells_22 rfl (lv_at hl 1 rfl) ?_
    refine lv_aload_n hx hb dX4_tells_23 rfl (lv_at hl 0 rfl) ?_
    refine va_get (D := (dC, dI)) (ci := 4) (v := .int g_2.2.2.2.2.2.2.2.1) (C := RX4) (T := TX4) (N := 17) hx hb hts hiX4 hown hK hP 0 rfl rfl 7 (by decide) (hts (.fieldLink RX4 28 "TripReckonerModel" "slop" "I") (by decide +kernel)) (fun _ h9 => h9) rfl dX4_tells_24 ?_
    obtain ⟨n_6, en_6⟩ : ∃ z : Int64, z = (if x ≤ g_2.2.2.2.2.2.2.2.1 then 0 else (g_2.2.2.2.2.2.1.toInt64 * ((x - g_2.2.2.2.2.2.2.2.1).toInt64)) / 255) := ⟨_, rfl⟩
    refine w_cut (fun WW => ∀ (H : Heap) (locs : List Loc) (ls : Array Slot), va_P (dC, dI) vwCl [cM0 m0 m1 m2 m3 m4 m5 g_2, cM1 cI m1 g_2, cM2 cJ m2 g_2, cM3 cJ m3 g_2, cM4 cI m4 g_2, cM5 cI m5 g_2] H → va_D A [cM0 m0 m1 m2 m3 m4 m5 g_2, cM1 cI m1 g_2, cM2 cJ m2 g_2, cM3 cJ m3 g_2, cM4 cI m4 g_2, cM5 cI m5 g_2] → va_S A s.heap H locs → lv_has ls 8 [(0, .ref m0), (1, .int x)] → WW H locs (F0 m 51 ls [.long n_6])) (fun K => ?_) (fun H locs ls hP hD hS hl => ?_)
    · refine lv_icmp_le (tgt := 50) hx hb dX4_tells_27 (by decide) (fun c_5 => ?_) (fun c_5 => ?_)
      · refine lv_lconst (v := 0) hx hb dX4_tells_50 (by decide) ?_
        refine lv_topl (fun z_7 ez_7 => ?_)
        obtain rfl : z_7 = n_6 := ez_7.trans (by simp only [en_6, if_pos c_5])
        exact K _ _ _ hP hD hS (lv_sub hl [0, 1] rfl)
      · refine lv_aload_n hx hb dX4_tells_30 rfl (lv_at hl 0 rfl) ?_
        refine va_get (D := (dC, dI)) (ci := 4) (v := .int g_2.2.2.2.2.2.1) (C := RX4) (T := TX4) (N := 17) hx hb hts hiX4 hown hK hP 0 rfl rfl 5 (by decide) (hts (.fieldLink RX4 21 "TripReckonerModel" "cap" "I") (by decide +kernel)) (fun _ h9 => h9) rfl dX4_tells_31 ?_
        refine lv_i2l (v := g_2.2.2.2.2.2.1.toInt64) hx hb dX4_tells_34 rfl ?_
        refine lv_iload_n hx hb dX4_tells_35 rfl (lv_at hl 1 rfl) ?_
        refine lv_aload_n hx hb dX4_tells_36 rfl (lv_at hl 0 rfl) ?_
        refine va_get (D := (dC, dI)) (ci := 4) (v := .int g_2.2.2.2.2.2.2.2.1) (C := RX4) (T := TX4) (N := 17) hx hb hts hiX4 hown hK hP 0 rfl rfl 7 (by decide) (hts (.fieldLink RX4 28 "TripReckonerModel" "slop" "I") (by decide +kernel)) (fun _ h9 => h9) rfl dX4_tells_37 ?_
        refine lv_isub hx hb dX4_tells_40 ?_
        refine lv_i2l (v := (x - g_2.2.2.2.2.2.2.2.1).toInt64) hx hb dX4_tells_41 rfl ?_
        refine lv_lmul hx hb dX4_tells_42 ?_
        refine lv_ldc2 hx hb hown (hts (.constantLong RX4 111 (255)) (by decide +kernel)) dX4_tells_43 ?_
        refine lv_ldiv hx hb dX4_tells_46 (by decide) ?_
        refine lv_goto (tgt := 51) hx hb dX4_tells_47 (by decide) ?_
        refine lv_topl (fun z_8 ez_8 => ?_)
        obtain rfl : z_8 = n_6 := ez_8.trans (by simp only [en_6, if_neg c_5])
        exact K _ _ _ hP hD hS (lv_sub hl [0, 1] rfl)
    refine lv_lstore_n (lv' := [(2, .long n_6), (0, .ref m0), (1, .int x)]) hx hb dX4_tells_51 rfl hl (by decide) rfl (fun ls hl => ?_)
    refine lv_aload_n hx hb dX4_tells_52 rfl (lv_at hl 1 rfl) ?_
    refine va_get (D := (dC, dI)) (ci := 4) (v := .int g_2.2.2.2.2.2.1) (C := RX4) (T := TX4) (N := 17) hx hb hts hiX4 hown hK hP 0 rfl rfl 5 (by decide) (hts (.fieldLink RX4 21 "TripReckonerModel" "cap" "I") (by decide +kernel)) (fun _ h9 => h9) rfl dX4_tells_53 ?_
    refine lv_i2l (v := g_2.2.2.2.2.2.1.toInt64) hx hb dX4_tells_56 rfl ?_
    refine lv_iload_n hx hb dX4_tells_57 rfl (lv_at hl 2 rfl) ?_
    refine lv_iconst (v := 1) hx hb dX4_tells_58 (by decide) ?_
    refine lv_iadd hx hb dX4_tells_59 ?_
    refine lv_aload_n hx hb dX4_tells_60 rfl (lv_at hl 1 rfl) ?_
    refine va_get (D := (dC, dI)) (ci := 4) (v := .int g_2.2.2.2.2.2.2.2.1) (C := RX4) (T := TX4) (N := 17) hx hb hts hiX4 hown hK hP 0 rfl rfl 7 (by decide) (hts (.fieldLink RX4 28 "TripReckonerModel" "slop" "I") (by decide +kernel)) (fun _ h9 => h9) rfl dX4_tells_61 ?_
    refine lv_iadd hx hb dX4_tells_64 ?_
    refine lv_i2l (v := ((x + 1) + g_2.2.2.2.2.2.2.2.1).toInt64) hx hb dX4_tells_65 rfl ?_
    refine lv_lmul hx hb dX4_tells_66 ?_
    refine lv_ldc2 hx hb hown (hts (.constantLong RX4 111 (255)) (by decide +kernel)) dX4_tells_67 ?_
    refine lv_ldiv hx hb dX4_tells_70 (by decide) ?_
    refine lv_lstore (lv' := [(4, .long ((g_2.2.2.2.2.2.1.toInt64 * (((x + 1) + g_2.2.2.2.2.2.2.2.1).toInt64)) / 255)), (2, .long n_6), (0, .ref m0), (1, .int x)]) hx hb dX4_tells_71 hl (by decide) rfl (fun ls hl => ?_)
    refine lv_lload hx hb dX4_tells_73 (lv_at hl 0 rfl) ?_
    refine lv_aload_n hx hb dX4_tells_75 rfl (lv_at hl 2 rfl) ?_
    refine va_get (D := (dC, dI)) (ci := 4) (v := .int g_2.2.2.2.2.2.1) (C := RX4) (T := TX4) (N := 17) hx hb hts hiX4 hown hK hP 0 rfl rfl 5 (by decide) (hts (.fieldLink RX4 21 "TripReckonerModel" "cap" "I") (by decide +kernel)) (fun _ h9 => h9) rfl dX4_tells_76 ?_
    refine lv_i2l (v := g_2.2.2.2.2.2.1.toInt64) hx hb dX4_tells_79 rfl ?_
    refine W.lcmp hx hb dX4_tells_80 ?_
    obtain ⟨n_10, en_10⟩ : ∃ z : Int64, z = (if (lg_cmp ((g_2.2.2.2.2.2.1.toInt64 * (((x + 1) + g_2.2.2.2.2.2.2.2.1).toInt64)) / 255) g_2.2.2.2.2.2.1.toInt64) ≤ 0 then (g_2.2.2.2.2.2.1.toInt64 * (((x + 1) + g_2.2.2.2.2.2.2.2.1).toInt64)) / 255 else g_2.2.2.2.2.2.1.toInt64) := ⟨_, rfl⟩
    refine w_cut (fun WW => ∀ (H : Heap) (locs : List Loc) (ls : Array Slot), va_P (dC, dI) vwCl [cM0 m0 m1 m2 m3 m4 m5 g_2, cM1 cI m1 g_2, cM2 cJ m2 g_2, cM3 cJ m3 g_2, cM4 cI m4 g_2, cM5 cI m5 g_2] H → va_D A [cM0 m0 m1 m2 m3 m4 m5 g_2, cM1 cI m1 g_2, cM2 cJ m2 g_2, cM3 cJ m3 g_2, cM4 cI m4 g_2, cM5 cI m5 g_2] → va_S A s.heap H locs → lv_has ls 8 [(4, .long n_10), (2, .long n_6), (0, .ref m0), (1, .int x)] → WW H locs (F0 m 91 ls [])) (fun K => ?_) (fun H locs ls hP hD hS hl => ?_)
    · refine lv_if_le (tgt := 91) hx hb dX4_tells_81 (by decide) (fun c_9 => ?_) (fun c_9 => ?_)
      · exact K _ _ _ hP hD hS (by simp only [en_10, if_pos c_9]; exact (lv_sub hl [0, 1, 2, 3] rfl))
      · refine lv_aload_n hx hb dX4_tells_84 rfl (lv_at hl 2 rfl) ?_
        refine va_get (D := (dC, dI)) (ci := 4) (v := .int g_2.2.2.2.2.2.1) (C := RX4) (T := TX4) (N := 17) hx hb hts hiX4 hown hK hP 0 rfl rfl 5 (by decide) (hts (.fieldLink RX4 21 "TripReckonerModel" "cap" "I") (by decide +kernel)) (fun _ h9 => h9) rfl dX4_tells_85 ?_
        refine lv_i2l (v := g_2.2.2.2.2.2.1.toInt64) hx hb dX4_tells_88 rfl ?_
        refine lv_lstore (lv' := [(4, .long g_2.2.2.2.2.2.1.toInt64), (2, .long n_6), (0, .ref m0), (1, .int x)]) hx hb dX4_tells_89 hl (by decide) rfl (fun ls hl => ?_)
        exact K _ _ _ hP hD hS (by simp only [en_10, if_neg c_9]; exact (lv_sub hl [0, 1, 2, 3] rfl))
    refine lv_lload_n hx hb dX4_tells_91 rfl (lv_at hl 1 rfl) ?_
    refine lv_aload_n hx hb dX4_tells_92 rfl (lv_at hl 2 rfl) ?_
    refine va_get (D := (dC, dI)) (ci := 4) (v := .ref m2) (C := RX4) (T := TX4) (N := 17) hx hb hts hiX4 hown hK hP 0 rfl rfl 3 (by decide) (hts (.fieldLink RX4 13 "TripReckonerModel" "now" "[J") (by decide +kernel)) (fun _ h9 => h9) rfl dX4_tells_93 ?_
    refine lv_iconst (v := 1) hx hb dX4_tells_96 (by decide) ?_
    refine va_lald hx hb hK hP 2 1 rfl rfl (vd (by decide +kernel)) dX4_tells_97 ?_
    refine lv_topl (fun z_11 ez_11 => ?_)
    have ez_11 : z_11 = g_2.2.2.2.1 1 := ez_11
    subst ez_11
    refine W.lcmp hx hb dX4_tells_98 ?_
    refine lv_if_gt (tgt := 174) hx hb dX4_tells_99 (by decide) (fun c_12 => ?_) (fun c_12 => ?_)
    · refine lv_lload_n hx hb dX4_tells_174 rfl (lv_at hl 1 rfl) ?_
      refine lv_aload_n hx hb dX4_tells_175 rfl (lv_at hl 2 rfl) ?_
      refine va_get (D := (dC, dI)) (ci := 4) (v := .ref m2) (C := RX4) (T := TX4) (N := 17) hx hb hts hiX4 hown hK hP 0 rfl rfl 3 (by decide) (hts (.fieldLink RX4 13 "TripReckonerModel" "now" "[J") (by decide +kernel)) (fun _ h9 => h9) rfl dX4_tells_176 ?_
      refine lv_iconst (v := 1) hx hb dX4_tells_179 (by decide) ?_
      refine va_lald hx hb hK hP 2 1 rfl rfl (vd (by decide +kernel)) dX4_tells_180 ?_
      refine lv_topl (fun z_13 ez_13 => ?_)
      have ez_13 : z_13 = g_2.2.2.2.1 1 := ez_13
      subst ez_13
      refine W.lcmp hx hb dX4_tells_181 ?_
      obtain ⟨n_15, en_15⟩ : ∃ z : Int32, z = (if (lg_cmp n_6 (g_2.2.2.2.1 1)) ≤ 0 then 0 else 1) := ⟨_, rfl⟩
      refine w_cut (fun WW => ∀ (H : Heap) (locs : List Loc) (ls : Array Slot), va_P (dC, dI) vwCl [cM0 m0 m1 m2 m3 m4 m5 g_2, cM1 cI m1 g_2, cM2 cJ m2 g_2, cM3 cJ m3 g_2, cM4 cI m4 g_2, cM5 cI m5 g_2] H → va_D A [cM0 m0 m1 m2 m3 m4 m5 g_2, cM1 cI m1 g_2, cM2 cJ m2 g_2, cM3 cJ m3 g_2, cM4 cI m4 g_2, cM5 cI m5 g_2] → va_S A s.heap H locs → lv_has ls 8 [(4, .long n_10), (2, .long n_6), (0, .ref m0), (1, .int x)] → WW H locs (F0 m 190 ls [.int n_15])) (fun K => ?_) (fun H locs ls hP hD hS hl => ?_)
      · refine lv_if_le (tgt := 189) hx hb dX4_tells_182 (by decide) (fun c_14 => ?_) (fun c_14 => ?_)
        · refine lv_iconst (v := 0) hx hb dX4_tells_189 (by decide) ?_
          refine lv_topi (fun z_16 ez_16 => ?_)
          obtain rfl : z_16 = n_15 := ez_16.trans (by simp only [en_15, if_pos c_14])
          exact K _ _ _ hP hD hS (lv_sub hl [0, 1, 2, 3] rfl)
        · refine lv_iconst (v := 1) hx hb dX4_tells_185 (by decide) ?_
          refine lv_goto (tgt := 190) hx hb dX4_tells_186 (by decide) ?_
          refine lv_topi (fun z_17 ez_17 => ?_)
          obtain rfl : z_17 = n_15 := ez_17.trans (by simp only [en_15, if_neg c_14])
          exact K _ _ _ hP hD hS (lv_sub hl [0, 1, 2, 3] rfl)
      refine lv_istore (lv' := [(6, .int n_15), (4, .long n_10), (2, .long n_6), (0, .ref m0), (1, .int x)]) hx hb dX4_tells_190 hl (by decide) rfl (fun ls hl => ?_)
      refine lv_iload hx hb dX4_tells_192 (lv_at hl 0 rfl) ?_
      refine lv_if_eq (tgt := 303) hx hb dX4_tells_194 (by decide) (fun c_18 => ?_) (fun c_18 => ?_)
      · refine lv_aload_n hx hb dX4_tells_303 rfl (lv_at hl 3 rfl) ?_
        refine va_get (D := (dC, dI)) (ci := 4) (v := .ref m2) (C := RX4) (T := TX4) (N := 17) hx hb hts hiX4 hown hK hP 0 rfl rfl 3 (by decide) (hts (.fieldLink RX4 13 "TripReckonerModel" "now" "[J") (by decide +kernel)) (fun _ h9 => h9) rfl dX4_tells_304 ?_
        refine lv_bipush (v := 23) hx hb dX4_tells_307 (by decide) ?_
        refine lv_dup2_11 hx hb dX4_tells_309 rfl rfl ?_
        refine va_lald hx hb hK hP 2 1 rfl rfl (vd (by decide +kernel)) dX4_tells_310 ?_
        refine lv_topl (fun z_19 ez_19 => ?_)
        have ez_19 : z_19 = g_2.2.2.2.1 23 := ez_19
        subst ez_19
        refine lv_lconst (v := 1) hx hb dX4_tells_311 (by decide) ?_
        refine lv_ladd hx hb dX4_tells_312 ?_
        refine va_last hx hb hK hP hD hS 2 1 rfl rfl (vd (by decide +kernel)) dX4_tells_313 (fun H locs hP hD hS => ?_)
        have hP : va_P (dC, dI) vwCl [(m0, .inr (4, [.int g_2.1, .ref m1, .int g_2.2.2.1, .ref m2, .ref m3, .int g_2.2.2.2.2.2.1, .int g_2.2.2.2.2.2.2.1, .int g_2.2.2.2.2.2.2.2.1, .int g_2.2.2.2.2.2.2.2.2.1, .int g_2.2.2.2.2.2.2.2.2.2.1, .int g_2.2.2.2.2.2.2.2.2.2.2.1, .int g_2.2.2.2.2.2.2.2.2.2.2.2.1, .long g_2.2.2.2.2.2.2.2.2.2.2.2.2.1, .int g_2.2.2.2.2.2.2.2.2.2.2.2.2.2.1, .ref m4, .ref m5, .int g_2.2.2.2.2.2.2.2.2.2.2.2.2.2.2.2.2])), (m1, .inl (cI, 60, .inl g_2.2.1)), (m2, .inl (cJ, 92, .inr (.inl (vp_updL g_2.2.2.2.1 23 ((g_2.2.2.2.1 23) + 1))))), (m3, .inl (cJ, 92, .inr (.inl g_2.2.2.2.2.1))), (m4, .inl (cI, 1573, .inl g_2.2.2.2.2.2.2.2.2.2.2.2.2.2.2.1)), (m5, .inl (cI, 12, .inl g_2.2.2.2.2.2.2.2.2.2.2.2.2.2.2.2.1))] H := hP
        have hD : va_D A [(m0, .inr (4, [.int g_2.1, .ref m1, .int g_2.2.2.1, .ref m2, .ref m3, .int g_2.2.2.2.2.2.1, .int g_2.2.2.2.2.2.2.1, .int g_2.2.2.2.2.2.2.2.1, .int g_2.2.2.2.2.2.2.2.2.1, .int g_2.2.2.2.2.2.2.2.2.2.1, .int g_2.2.2.2.2.2.2.2.2.2.2.1, .int g_2.2.2.2.2.2.2.2.2.2.2.2.1, .long g_2.2.2.2.2.2.2.2.2.2.2.2.2.1, .int g_2.2.2.2.2.2.2.2.2.2.2.2.2.2.1, .ref m4, .ref m5, .int g_2.2.2.2.2.2.2.2.2.2.2.2.2.2.2.2.2])), (m1, .inl (cI, 60, .inl g_2.2.1)), (m2, .inl (cJ, 92, .inr (.inl (vp_updL g_2.2.2.2.1 23 ((g_2.2.2.2.1 23) + 1))))), (m3, .inl (cJ, 92, .inr (.inl g_2.2.2.2.2.1))), (m4, .inl (cI, 1573, .inl g_2.2.2.2.2.2.2.2.2.2.2.2.2.2.2.1)), (m5, .inl (cI, 12, .inl g_2.2.2.2.2.2.2.2.2.2.2.2.2.2.2.2.1))] := hD
        refine lv_aload_n hx hb dX4_tells_314 rfl (lv_at hl 3 rfl) ?_
        refine va_get (D := (dC, dI)) (ci := 4) (v := .ref m2) (C := RX4) (T := TX4) (N := 17) hx hb hts hiX4 hown hK hP 0 rfl rfl 3 (by decide) (hts (.fieldLink RX4 13 "TripReckonerModel" "now" "[J") (by decide +kernel)) (fun _ h9 => h9) rfl dX4_tells_315 ?_
        refine lv_bipush (v := 27) hx hb dX4_tells_318 (by decide) ?_
        refine lv_iload hx hb dX4_tells_320 (lv_at hl 0 rfl) ?_
        refine lv_if_eq (tgt := 329) hx hb dX4_tells_322 (by decide) (fun c_20 => ?_) (fun c_20 => absurd c_18 c_20)
        refine lv_lconst (v := 0) hx hb dX4_tells_329 (by decide) ?_
        refine va_last hx hb hK hP hD hS 2 1 rfl rfl (vd (by decide +kernel)) dX4_tells_330 (fun H locs hP hD hS => ?_)
        have hP : va_P (dC, dI) vwCl [(m0, .inr (4, [.int g_2.1, .ref m1, .int g_2.2.2.1, .ref m2, .ref m3, .int g_2.2.2.2.2.2.1, .int g_2.2.2.2.2.2.2.1, .int g_2.2.2.2.2.2.2.2.1, .int g_2.2.2.2.2.2.2.2.2.1, .int g_2.2.2.2.2.2.2.2.2.2.1, .int g_2.2.2.2.2.2.2.2.2.2.2.1, .int g_2.2.2.2.2.2.2.2.2.2.2.2.1, .long g_2.2.2.2.2.2.2.2.2.2.2.2.2.1, .int g_2.2.2.2.2.2.2.2.2.2.2.2.2.2.1, .ref m4, .ref m5, .int g_2.2.2.2.2.2.2.2.2.2.2.2.2.2.2.2.2])), (m1, .inl (cI, 60, .inl g_2.2.1)), (m2, .inl (cJ, 92, .inr (.inl (vp_updL (vp_updL g_2.2.2.2.1 23 ((g_2.2.2.2.1 23) + 1)) 27 0)))), (m3, .inl (cJ, 92, .inr (.inl g_2.2.2.2.2.1))), (m4, .inl (cI, 1573, .inl g_2.2.2.2.2.2.2.2.2.2.2.2.2.2.2.1)), (m5, .inl (cI, 12, .inl g_2.2.2.2.2.2.2.2.2.2.2.2.2.2.2.2.1))] H := hP
        have hD : va_D A [(m0, .inr (4, [.int g_2.1, .ref m1, .int g_2.2.2.1, .ref m2, .ref m3, .int g_2.2.2.2.2.2.1, .int g_2.2.2.2.2.2.2.1, .int g_2.2.2.2.2.2.2.2.1, .int g_2.2.2.2.2.2.2.2.2.1, .int g_2.2.2.2.2.2.2.2.2.2.1, .int g_2.2.2.2.2.2.2.2.2.2.2.1, .int g_2.2.2.2.2.2.2.2.2.2.2.2.1, .long g_2.2.2.2.2.2.2.2.2.2.2.2.2.1, .int g_2.2.2.2.2.2.2.2.2.2.2.2.2.2.1, .ref m4, .ref m5, .int g_2.2.2.2.2.2.2.2.2.2.2.2.2.2.2.2.2])), (m1, .inl (cI, 60, .inl g_2.2.1)), (m2, .inl (cJ, 92, .inr (.inl (vp_updL (vp_updL g_2.2.2.2.1 23 ((g_2.2.2.2.1 23) + 1)) 27 0)))), (m3, .inl (cJ, 92, .inr (.inl g_2.2.2.2.2.1))), (m4, .inl (cI, 1573, .inl g_2.2.2.2.2.2.2.2.2.2.2.2.2.2.2.1)), (m5, .inl (cI, 12, .inl g_2.2.2.2.2.2.2.2.2.2.2.2.2.2.2.2.1))] := hD
        refine lv_aload_n hx hb dX4_tells_331 rfl (lv_at hl 3 rfl) ?_
        refine va_get (D := (dC, dI)) (ci := 4) (v := .ref m2) (C := RX4) (T := TX4) (N := 17) hx hb hts hiX4 hown hK hP 0 rfl rfl 3 (by decide) (hts (.fieldLink RX4 13 "TripReckonerModel" "now" "[J") (by decide +kernel)) (fun _ h9 => h9) rfl dX4_tells_332 ?_
        refine lv_iconst (v := 0) hx hb dX4_tells_335 (by decide) ?_
        refine lv_lload_n hx hb dX4_tells_336 rfl (lv_at hl 2 rfl) ?_
        refine va_last hx hb hK hP hD hS 2 1 rfl rfl (vd (by decide +kernel)) dX4_tells_337 (fun H locs hP hD hS => ?_)
        have hP : va_P (dC, dI) vwCl [(m0, .inr (4, [.int g_2.1, .ref m1, .int g_2.2.2.1, .ref m2, .ref m3, .int g_2.2.2.2.2.2.1, .int g_2.2.2.2.2.2.2.1, .int g_2.2.2.2.2.2.2.2.1, .int g_2.2.2.2.2.2.2.2.2.1, .int g_2.2.2.2.2.2.2.2.2.2.1, .int g_2.2.2.2.2.2.2.2.2.2.2.1, .int g_2.2.2.2.2.2.2.2.2.2.2.2.1, .long g_2.2.2.2.2.2.2.2.2.2.2.2.2.1, .int g_2.2.2.2.2.2.2.2.2.2.2.2.2.2.1, .ref m4, .ref m5, .int g_2.2.2.2.2.2.2.2.2.2.2.2.2.2.2.2.2])), (m1, .inl (cI, 60, .inl g_2.2.1)), (m2, .inl (cJ, 92, .inr (.inl (vp_updL (vp_updL (vp_updL g_2.2.2.2.1 23 ((g_2.2.2.2.1 23) + 1)) 27 0) 0 n_6)))), (m3, .inl (cJ, 92, .inr (.inl g_2.2.2.2.2.1))), (m4, .inl (cI, 1573, .inl g_2.2.2.2.2.2.2.2.2.2.2.2.2.2.2.1)), (m5, .inl (cI, 12, .inl g_2.2.2.2.2.2.2.2.2.2.2.2.2.2.2.2.1))] H := hP
        have hD : va_D A [(m0, .inr (4, [.int g_2.1, .ref m1, .int g_2.2.2.1, .ref m2, .ref m3, .int g_2.2.2.2.2.2.1, .int g_2.2.2.2.2.2.2.1, .int g_2.2.2.2.2.2.2.2.1, .int g_2.2.2.2.2.2.2.2.2.1, .int g_2.2.2.2.2.2.2.2.2.2.1, .int g_2.2.2.2.2.2.2.2.2.2.2.1, .int g_2.2.2.2.2.2.2.2.2.2.2.2.1, .long g_2.2.2.2.2.2.2.2.2.2.2.2.2.1, .int g_2.2.2.2.2.2.2.2.2.2.2.2.2.2.1, .ref m4, .ref m5, .int g_2.2.2.2.2.2.2.2.2.2.2.2.2.2.2.2.2])), (m1, .inl (cI, 60, .inl g_2.2.1)), (m2, .inl (cJ, 92, .inr (.inl (vp_updL (vp_updL (vp_updL g_2.2.2.2.1 23 ((g_2.2.2.2.1 23) + 1)) 27 0) 0 n_6)))), (m3, .inl (cJ, 92, .inr (.inl g_2.2.2.2.2.1))), (m4, .inl (cI, 1573, .inl g_2.2.2.2.2.2.2.2.2.2.2.2.2.2.2.1)), (m5, .inl (cI, 12, .inl g_2.2.2.2.2.2.2.2.2.2.2.2.2.2.2.2.1))] := hD
        refine lv_aload_n hx hb dX4_tells_338 rfl (lv_at hl 3 rfl) ?_
        refine va_get (D := (dC, dI)) (ci := 4) (v := .ref m2) (C := RX4) (T := TX4) (N := 17) hx hb hts hiX4 hown hK hP 0 rfl rfl 3 (by decide) (hts (.fieldLink RX4 13 "TripReckonerModel" "now" "[J") (by decide +kernel)) (fun _ h9 => h9) rfl dX4_tells_339 ?_
        refine lv_iconst (v := 1) hx hb dX4_tells_342 (by decide) ?_
        refine lv_lload hx hb dX4_tells_343 (lv_at hl 1 rfl) ?_
        refine va_last hx hb hK hP hD hS 2 1 rfl rfl (vd (by decide +kernel)) dX4_tells_345 (fun H locs hP hD hS => ?_)
        have hP : va_P (dC, dI) vwCl [(m0, .inr (4, [.int g_2.1, .ref m1, .int g_2.2.2.1, .ref m2, .ref m3, .int g_2.2.2.2.2.2.1, .int g_2.2.2.2.2.2.2.1, .int g_2.2.2.2.2.2.2.2.1, .int g_2.2.2.2.2.2.2.2.2.1, .int g_2.2.2.2.2.2.2.2.2.2.1, .int g_2.2.2.2.2.2.2.2.2.2.2.1, .int g_2.2.2.2.2.2.2.2.2.2.2.2.1, .long g_2.2.2.2.2.2.2.2.2.2.2.2.2.1, .int g_2.2.2.2.2.2.2.2.2.2.2.2.2.2.1, .ref m4, .ref m5, .int g_2.2.2.2.2.2.2.2.2.2.2.2.2.2.2.2.2])), (m1, .inl (cI, 60, .inl g_2.2.1)), (m2, .inl (cJ, 92, .inr (.inl (vp_updL (vp_updL (vp_updL (vp_updL g_2.2.2.2.1 23 ((g_2.2.2.2.1 23) + 1)) 27 0) 0 n_6) 1 n_10)))), (m3, .inl (cJ, 92, .inr (.inl g_2.2.2.2.2.1))), (m4, .inl (cI, 1573, .inl g_2.2.2.2.2.2.2.2.2.2.2.2.2.2.2.1)), (m5, .inl (cI, 12, .inl g_2.2.2.2.2.2.2.2.2.2.2.2.2.2.2.2.1))] H := hP
        have hD : va_D A [(m0, .inr (4, [.int g_2.1, .ref m1, .int g_2.2.2.1, .ref m2, .ref m3, .int g_2.2.2.2.2.2.1, .int g_2.2.2.2.2.2.2.1, .int g_2.2.2.2.2.2.2.2.1, .int g_2.2.2.2.2.2.2.2.2.1, .int g_2.2.2.2.2.2.2.2.2.2.1, .int g_2.2.2.2.2.2.2.2.2.2.2.1, .int g_2.2.2.2.2.2.2.2.2.2.2.2.1, .long g_2.2.2.2.2.2.2.2.2.2.2.2.2.1, .int g_2.2.2.2.2.2.2.2.2.2.2.2.2.2.1, .ref m4, .ref m5, .int g_2.2.2.2.2.2.2.2.2.2.2.2.2.2.2.2.2])), (m1, .inl (cI, 60, .inl g_2.2.1)), (m2, .inl (cJ, 92, .inr (.inl (vp_updL (vp_updL (vp_updL (vp_updL g_2.2.2.2.1 23 ((g_2.2.2.2.1 23) + 1)) 27 0) 0 n_6) 1 n_10)))), (m3, .inl (cJ, 92, .inr (.inl g_2.2.2.2.2.1))), (m4, .inl (cI, 1573, .inl g_2.2.2.2.2.2.2.2.2.2.2.2.2.2.2.1)), (m5, .inl (cI, 12, .inl g_2.2.2.2.2.2.2.2.2.2.2.2.2.2.2.2.1))] := hD
        refine lv_aload_n hx hb dX4_tells_346 rfl (lv_at hl 3 rfl) ?_
        have hPc := hP.sub (ws' := [(m0, .inr (4, [.int g_2.1, .ref m1, .int g_2.2.2.1, .ref m2, .ref m3, .int g_2.2.2.2.2.2.1, .int g_2.2.2.2.2.2.2.1, .int g_2.2.2.2.2.2.2.2.1, .int g_2.2.2.2.2.2.2.2.2.1, .int g_2.2.2.2.2.2.2.2.2.2.1, .int g_2.2.2.2.2.2.2.2.2.2.2.1, .int g_2.2.2.2.2.2.2.2.2.2.2.2.1, .long g_2.2.2.2.2.2.2.2.2.2.2.2.2.1, .int g_2.2.2.2.2.2.2.2.2.2.2.2.2.2.1, .ref m4, .ref m5, .int g_2.2.2.2.2.2.2.2.2.2.2.2.2.2.2.2.2])), (m1, .inl (cI, 60, .inl g_2.2.1)), (m2, .inl (cJ, 92, .inr (.inl (vp_updL (vp_updL (vp_updL (vp_updL g_2.2.2.2.1 23 ((g_2.2.2.2.1 23) + 1)) 27 0) 0 n_6) 1 n_10)))), (m3, .inl (cJ, 92, .inr (.inl g_2.2.2.2.2.1))), (m4, .inl (cI, 1573, .inl g_2.2.2.2.2.2.2.2.2.2.2.2.2.2.2.1)), (m5, .inl (cI, 12, .inl g_2.2.2.2.2.2.2.2.2.2.2.2.2.2.2.2.1))]) [0, 1, 2, 3, 4, 5] rfl
        have hDc := hD.sub (ws' := [(m0, .inr (4, [.int g_2.1, .ref m1, .int g_2.2.2.1, .ref m2, .ref m3, .int g_2.2.2.2.2.2.1, .int g_2.2.2.2.2.2.2.1, .int g_2.2.2.2.2.2.2.2.1, .int g_2.2.2.2.2.2.2.2.2.1, .int g_2.2.2.2.2.2.2.2.2.2.1, .int g_2.2.2.2.2.2.2.2.2.2.2.1, .int g_2.2.2.2.2.2.2.2.2.2.2.2.1, .long g_2.2.2.2.2.2.2.2.2.2.2.2.2.1, .int g_2.2.2.2.2.2.2.2.2.2.2.2.2.2.1, .ref m4, .ref m5, .int g_2.2.2.2.2.2.2.2.2.2.2.2.2.2.2.2.2])), (m1, .inl (cI, 60, .inl g_2.2.1)), (m2, .inl (cJ, 92, .inr (.inl (vp_updL (vp_updL (vp_updL (vp_updL g_2.2.2.2.1 23 ((g_2.2.2.2.1 23) + 1)) 27 0) 0 n_6) 1 n_10)))), (m3, .inl (cJ, 92, .inr (.inl g_2.2.2.2.2.1))), (m4, .inl (cI, 1573, .inl g_2.2.2.2.2.2.2.2.2.2.2.2.2.2.2.1)), (m5, .inl (cI, 12, .inl g_2.2.2.2.2.2.2.2.2.2.2.2.2.2.2.2.1))]) [0, 1, 2, 3, 4, 5] (by decide) rfl
        have hFc := va_free (wc := [(m0, .inr (4, [.int g_2.1, .ref m1, .int g_2.2.2.1, .ref m2, .ref m3, .int g_2.2.2.2.2.2.1, .int g_2.2.2.2.2.2.2.1, .int g_2.2.2.2.2.2.2.2.1, .int g_2.2.2.2.2.2.2.2.2.1, .int g_2.2.2.2.2.2.2.2.2.2.1, .int g_2.2.2.2.2.2.2.2.2.2.2.1, .int g_2.2.2.2.2.2.2.2.2.2.2.2.1, .long g_2.2.2.2.2.2.2.2.2.2.2.2.2.1, .int g_2.2.2.2.2.2.2.2.2.2.2.2.2.2.1, .ref m4, .ref m5, .int g_2.2.2.2.2.2.2.2.2.2.2.2.2.2.2.2.2])), (m1, .inl (cI, 60, .inl g_2.2.1)), (m2, .inl (cJ, 92, .inr (.inl (vp_updL (vp_updL (vp_updL (vp_updL g_2.2.2.2.1 23 ((g_2.2.2.2.1 23) + 1)) 27 0) 0 n_6) 1 n_10)))), (m3, .inl (cJ, 92, .inr (.inl g_2.2.2.2.2.1))), (m4, .inl (cI, 1573, .inl g_2.2.2.2.2.2.2.2.2.2.2.2.2.2.2.1)), (m5, .inl (cI, 12, .inl g_2.2.2.2.2.2.2.2.2.2.2.2.2.2.2.2.1))]) hD hS hA [0, 1, 2, 3, 4, 5] rfl
        refine va_callv (va_runV (As := []) (rest := []) ⟨hx, hb, hml, hown, hts⟩ (kX4_jump l dC dI cI cJ m0 m1 m2 m3 m4 m5 H.size (g_2.1, g_2.2.1, g_2.2.2.1, vp_updL (vp_updL (vp_updL (vp_updL g_2.2.2.2.1 23 ((g_2.2.2.2.1 23) + 1)) 27 0) 0 n_6) 1 n_10, g_2.2.2.2.2.1, g_2.2.2.2.2.2.1, g_2.2.2.2.2.2.2.1, g_2.2.2.2.2.2.2.2.1, g_2.2.2.2.2.2.2.2.2.1, g_2.2.2.2.2.2.2.2.2.2.1, g_2.2.2.2.2.2.2.2.2.2.2.1, g_2.2.2.2.2.2.2.2.2.2.2.2.1, g_2.2.2.2.2.2.2.2.2.2.2.2.2.1, g_2.2.2.2.2.2.2.2.2.2.2.2.2.2.1, g_2.2.2.2.2.2.2.2.2.2.2.2.2.2.2.1, g_2.2.2.2.2.2.2.2.2.2.2.2.2.2.2.2.1, g_2.2.2.2.2.2.2.2.2.2.2.2.2.2.2.2.2)) (cwV 0 hts gX4_tells_X4_jump rfl rfl rfl (by decide +kernel) ⟨Nat.le_of_ble_eq_true rfl, Nat.le_of_ble_eq_true rfl⟩) ⟨fun a U g mk q => by obtain ⟨q0, q1, qP, qK, qD⟩ := q; exact ⟨q0, q1, qP, va_K.moved (u := U) (U := U.calling g mk a) (Vm.Alike.refl U.vm) qK, qD⟩, va_recv hK hPc (ci := 4) (q0 := 0) rfl rfl, fun U hU hW => ⟨rfl, by rw [hU], by rw [hU]; exact hPc, va_K.moved hW.alike hK, hDc.weaken (fun _ _ _ _ => trivial)⟩⟩ rfl rfl hl.1 rfl (lv_room (Nat.le_of_ble_eq_true rfl)) dX4_tells_347 ⟨Nat.le_of_ble_eq_true rfl, Nat.le_of_ble_eq_true rfl⟩) hS (fun q _ h => hFc q h) hFc (fun _ t H1 locs ht hvm hw hB hz1 hk1 hS => ?_)
        obtain ⟨hP1, hK1, hD1⟩ := hB
        rw [ht] at hP1
        obtain ⟨g_22, eg_22⟩ : ∃ z, z = sX4_jump (g_2.1, g_2.2.1, g_2.2.2.1, vp_updL (vp_updL (vp_updL (vp_updL g_2.2.2.2.1 23 ((g_2.2.2.2.1 23) + 1)) 27 0) 0 n_6) 1 n_10, g_2.2.2.2.2.1, g_2.2.2.2.2.2.1, g_2.2.2.2.2.2.2.1, g_2.2.2.2.2.2.2.2.1, g_2.2.2.2.2.2.2.2.2.1, g_2.2.2.2.2.2.2.2.2.2.1, g_2.2.2.2.2.2.2.2.2.2.2.1, g_2.2.2.2.2.2.2.2.2.2.2.2.1, g_2.2.2.2.2.2.2.2.2.2.2.2.2.1, g_2.2.2.2.2.2.2.2.2.2.2.2.2.2.1, g_2.2.2.2.2.2.2.2.2.2.2.2.2.2.2.1, g_2.2.2.2.2.2.2.2.2.2.2.2.2.2.2.2.1, g_2.2.2.2.2.2.2.2.2.2.2.2.2.2.2.2.2) := ⟨_, rfl⟩
        rw [← eg_22] at hP1 hD1
        obtain ⟨hP, hD⟩ := va_join (wr := []) (w1 := [cM0 m0 m1 m2 m3 m4 m5 g_22, cM1 cI m1 g_22, cM2 cJ m2 g_22, cM3 cJ m3 g_22, cM4 cI m4 g_22, cM5 cI m5 g_22]) hP hD [0, 1, 2, 3, 4, 5] [] rfl rfl (by decide) (by decide) hk1 hFc hP1 hD1
        generalize H1 = H at hP hS ⊢
        have hP : va_P (dC, dI) vwCl [cM0 m0 m1 m2 m3 m4 m5 g_22, cM1 cI m1 g_22, cM2 cJ m2 g_22, cM3 cJ m3 g_22, cM4 cI m4 g_22, cM5 cI m5 g_22] H := hP
        have hD : va_D A [cM0 m0 m1 m2 m3 m4 m5 g_22, cM1 cI m1 g_22, cM2 cJ m2 g_22, cM3 cJ m3 g_22, cM4 cI m4 g_22, cM5 cI m5 g_22] := hD
        refine lv_iload hx hb dX4_tells_350 (lv_at hl 0 rfl) ?_
        refine lv_if_eq (tgt := 359) hx hb dX4_tells_352 (by decide) (fun c_23 => ?_) (fun c_23 => absurd c_18 c_23)
        refine lv_iconst (v := 2) hx hb dX4_tells_359 (by decide) ?_
        have es0 : sX4_tells x v = g_22 := by rw [sX4_tells, ← eg_2, sX4_tells_g_2, if_neg c_4, ← en_6, sX4_tells_n_6, ← en_10, sX4_tells_n_10, if_pos c_12, ← en_15, sX4_tells_n_15, if_pos c_18, ← eg_22, sX4_tells_g_22]
        have er : 2 = rX4_tells x v := by rw [rX4_tells, ← eg_2, rX4_tells_g_2, if_neg c_4, ← en_6, rX4_tells_n_6, ← en_10, rX4_tells_n_10, if_pos c_12, ← en_15, rX4_tells_n_15, if_pos c_18, ← eg_22, rX4_tells_g_22]
        refine W.iret (v := 2) hx hb hr (fun t ht hW => ⟨⟨2, (), rfl, er, ?_⟩, hS.F ht⟩) hS.2.2 dX4_tells_360
        rw [es0]; exact ⟨by rw [ht]; exact hP, va_K.moved hW.alike hK, hD⟩
      · refine lv_aload_n hx hb dX4_tells_197 rfl (lv_at hl 3 rfl) ?_
        refine va_get (D := (dC, dI)) (ci := 4) (v := .ref m2) (C := RX4) (T := TX4) (N := 17) hx hb hts hiX4 hown hK hP 0 rfl rfl 3 (by decide) (hts (.fieldLink RX4 13 "TripReckonerModel" "now" "[J") (by decide +kernel)) (fun _ h9 => h9) rfl dX4_tells_198 ?_
        refine lv_bipush (v := 22) hx hb dX4_tells_201 (by decide) ?_
        refine va_lald hx hb hK hP 2 1 rfl rfl (vd (by decide +kernel)) dX4_tells_203 ?_
        refine lv_topl (fun z_24 ez_24 => ?_)
        have ez_24 : z_24 = g_2.2.2.2.1 22 := ez_24
        subst ez_24
        have hPc := hP.sub (ws' := []) [] rfl
        have hDc := hD.sub (ws' := []) [] (by decide) rfl
        have hFc := va_free (wc := []) hD hS hA [] rfl
        refine va_calli (va_runS (As := [.long (g_2.2.2.2.1 22)]) (rest := []) ⟨hx, hb, hml, hown, hts⟩ (kX4_place l dC dI cI cJ H.size (g_2.2.2.2.1 22)) (va_cwS 1 hts gX4_tells_X4_place rfl rfl rfl (by decide +kernel) ⟨Nat.le_of_ble_eq_true rfl, Nat.le_of_ble_eq_true rfl⟩) ⟨fun a U g mk q => by obtain ⟨q0, q1, qP, qK, qD⟩ := q; exact ⟨q0, q1, qP, va_K.moved (u := U) (U := U.calling g mk a) (Vm.Alike.refl U.vm) qK, qD⟩, fun U hU hW => ⟨rfl, by rw [hU], by rw [hU]; exact hPc, va_K.moved hW.alike hK, hDc.weaken (fun _ _ _ _ => trivial)⟩⟩ rfl rfl hl.1 rfl (lv_room (Nat.le_of_ble_eq_true rfl)) dX4_tells_204 ⟨Nat.le_of_ble_eq_true rfl, Nat.le_of_ble_eq_true rfl⟩) hS (fun q _ h => hFc q h) hFc (fun r_25 _ t H1 locs ht hvm hw hB hz1 hk1 hS => ?_)
        obtain ⟨hP1, hK1, hD1⟩ := hB
        rw [ht] at hP1
        obtain ⟨hP, hD⟩ := va_join (wr := [cM0 m0 m1 m2 m3 m4 m5 g_2, cM1 cI m1 g_2, cM2 cJ m2 g_2, cM3 cJ m3 g_2, cM4 cI m4 g_2, cM5 cI m5 g_2]) (w1 := []) hP hD [] [0, 1, 2, 3, 4, 5] rfl rfl (by decide) (by decide) hk1 hFc hP1 hD1
        generalize H1 = H at hP hS ⊢
        have hP : va_P (dC, dI) vwCl [cM0 m0 m1 m2 m3 m4 m5 g_2, cM1 cI m1 g_2, cM2 cJ m2 g_2, cM3 cJ m3 g_2, cM4 cI m4 g_2, cM5 cI m5 g_2] H := hP
        have hD : va_D A [cM0 m0 m1 m2 m3 m4 m5 g_2, cM1 cI m1 g_2, cM2 cJ m2 g_2, cM3 cJ m3 g_2, cM4 cI m4 g_2, cM5 cI m5 g_2] := hD
        subst hw
        refine lv_istore (lv' := [(7, .int (rX4_place (g_2.2.2.2.1 22))), (6, .int n_15), (4, .long n_10), (2, .long n_6), (0, .ref m0), (1, .int x)]) hx hb dX4_tells_207 hl (by decide) rfl (fun ls hl => ?_)
        have hP : va_P (dC, dI) vwCl [cM0 m0 m1 m2 m3 m4 m5 g_2, cM1 cI m1 g_2, cM2 cJ m2 g_2, cM3 cJ m3 g_2, cM4 cI m4 g_2, cM5 cI m5 g_2] H := hP
        refine f_tells1 hx hb hml hown hts hA hK x n_6 n_10 n_15 (rX4_place (g_2.2.2.2.1 22)) g_2 (place_in (hp _ eg_2)).1 (place_in (hp _ eg_2)).2.1 (fun H locs ls hP hD hS hl => ?_) _ _ _ hP hD hS (lv_sub hl [4, 5, 3, 2, 1, 0] rfl)
        obtain ⟨g_26, eg_26⟩ : ∃ z, z = sf_tells1 x n_6 n_10 n_15 (rX4_place (g_2.2.2.2.1 22)) g_2 := ⟨_, rfl⟩
        rw [← eg_26] at hP hD
        have hP : va_P (dC, dI) vwCl [cM0 m0 m1 m2 m3 m4 m5 g_26, cM1 cI m1 g_26, cM2 cJ m2 g_26, cM3 cJ m3 g_26, cM4 cI m4 g_26, cM5 cI m5 g_26] H := hP
        have hD : va_D A [cM0 m0 m1 m2 m3 m4 m5 g_26, cM1 cI m1 g_26, cM2 cJ m2 g_26, cM3 cJ m3 g_26, cM4 cI m4 g_26, cM5 cI m5 g_26] := hD
        have hP : va_P (dC, dI) vwCl [cM0 m0 m1 m2 m3 m4 m5 g_26, cM1 cI m1 g_26, cM2 cJ m2 g_26, cM3 cJ m3 g_26, cM4 cI m4 g_26, cM5 cI m5 g_26] H := hP
        refine f_tells2 hx hb hml hown hts hA hK x n_6 n_10 n_15 g_26  (fun H locs ls hP hD hS hl => ?_) _ _ _ hP hD hS (lv_sub hl [0, 1, 2, 3, 4] rfl)
        obtain ⟨g_27, eg_27⟩ : ∃ z, z = sf_tells2 x n_6 n_10 n_15 g_26 := ⟨_, rfl⟩
        rw [← eg_27] at hP hD
        have hP : va_P (dC, dI) vwCl [cM0 m0 m1 m2 m3 m4 m5 g_27, cM1 cI m1 g_27, cM2 cJ m2 g_27, cM3 cJ m3 g_27, cM4 cI m4 g_27, cM5 cI m5 g_27] H := hP
        have hD : va_D A [cM0 m0 m1 m2 m3 m4 m5 g_27, cM1 cI m1 g_27, cM2 cJ m2 g_27, cM3 cJ m3 g_27, cM4 cI m4 g_27, cM5 cI m5 g_27] := hD
        refine lv_aload_n hx hb dX4_tells_295 rfl (lv_at hl 0 rfl) ?_
        refine lv_iconst (v := 3) hx hb dX4_tells_296 (by decide) ?_
        have hPc := hP.sub (ws' := [cM0 m0 m1 m2 m3 m4 m5 g_27, cM1 cI m1 g_27, cM2 cJ m2 g_27, cM3 cJ m3 g_27, cM4 cI m4 g_27, cM5 cI m5 g_27]) [0, 1, 2, 3, 4, 5] rfl
        have hDc := hD.sub (ws' := [cM0 m0 m1 m2 m3 m4 m5 g_27, cM1 cI m1 g_27, cM2 cJ m2 g_27, cM3 cJ m3 g_27, cM4 cI m4 g_27, cM5 cI m5 g_27]) [0, 1, 2, 3, 4, 5] (by decide) rfl
        have hFc := va_free (wc := [cM0 m0 m1 m2 m3 m4 m5 g_27, cM1 cI m1 g_27, cM2 cJ m2 g_27, cM3 cJ m3 g_27, cM4 cI m4 g_27, cM5 cI m5 g_27]) hD hS hA [0, 1, 2, 3, 4, 5] rfl
        refine va_callv (va_runV (As := [.int 3]) (rest := []) ⟨hx, hb, hml, hown, hts⟩ (kX4_clear l dC dI cI cJ m0 m1 m2 m3 m4 m5 H.size 3 g_27 (vd (by decide +kernel))) (cwV 1 hts gX4_tells_X4_clear rfl rfl rfl (by decide +kernel) ⟨Nat.le_of_ble_eq_true rfl, Nat.le_of_ble_eq_true rfl⟩) ⟨fun a U g mk q => by obtain ⟨q0, q1, qP, qK, qD⟩ := q; exact ⟨q0, q1, qP, va_K.moved (u := U) (U := U.calling g mk a) (Vm.Alike.refl U.vm) qK, qD⟩, va_recv hK hPc (ci := 4) (q0 := 0) rfl rfl, fun U hU hW => ⟨rfl, by rw [hU], by rw [hU]; exact hPc, va_K.moved hW.alike hK, hDc.weaken (fun _ _ _ _ => trivial)⟩⟩ rfl rfl hl.1 rfl (lv_room (Nat.le_of_ble_eq_true rfl)) dX4_tells_297 ⟨Nat.le_of_ble_eq_true rfl, Nat.le_of_ble_eq_true rfl⟩) hS (fun q _ h => hFc q h) hFc (fun _ t H1 locs ht hvm hw hB hz1 hk1 hS => ?_)
        obtain ⟨hP1, hK1, hD1⟩ := hB
        rw [ht] at hP1
        obtain ⟨g_29, eg_29⟩ : ∃ z, z = sX4_clear 3 g_27 := ⟨_, rfl⟩
        rw [← eg_29] at hP1 hD1
        obtain ⟨hP, hD⟩ := va_join (wr := []) (w1 := [cM0 m0 m1 m2 m3 m4 m5 g_29, cM1 cI m1 g_29, cM2 cJ m2 g_29, cM3 cJ m3 g_29, cM4 cI m4 g_29, cM5 cI m5 g_29]) hP hD [0, 1, 2, 3, 4, 5] [] rfl rfl (by decide) (by decide) hk1 hFc hP1 hD1
        generalize H1 = H at hP hS ⊢
        have hP : va_P (dC, dI) vwCl [cM0 m0 m1 m2 m3 m4 m5 g_29, cM1 cI m1 g_29, cM2 cJ m2 g_29, cM3 cJ m3 g_29, cM4 cI m4 g_29, cM5 cI m5 g_29] H := hP
        have hD : va_D A [cM0 m0 m1 m2 m3 m4 m5 g_29, cM1 cI m1 g_29, cM2 cJ m2 g_29, cM3 cJ m3 g_29, cM4 cI m4 g_29, cM5 cI m5 g_29] := hD
        refine lv_goto (tgt := 314) hx hb dX4_tells_300 (by decide) ?_
        refine lv_aload_n hx hb dX4_tells_314 rfl (lv_at hl 0 rfl) ?_
        refine va_get (D := (dC, dI)) (ci := 4) (v := .ref m2) (C := RX4) (T := TX4) (N := 17) hx hb hts hiX4 hown hK hP 0 rfl rfl 3 (by decide) (hts (.fieldLink RX4 13 "TripReckonerModel" "now" "[J") (by decide +kernel)) (fun _ h9 => h9) rfl dX4_tells_315 ?_
        refine lv_bipush (v := 27) hx hb dX4_tells_318 (by decide) ?_
        refine lv_iload hx hb dX4_tells_320 (lv_at hl 4 rfl) ?_
        refine lv_if_eq (tgt := 329) hx hb dX4_tells_322 (by decide) (fun c_30 => absurd c_30 c_18) (fun c_30 => ?_)
        refine lv_lconst (v := 1) hx hb dX4_tells_325 (by decide) ?_
        refine lv_goto (tgt := 330) hx hb dX4_tells_326 (by decide) ?_
        refine va_last hx hb hK hP hD hS 2 1 rfl rfl (vd (by decide +kernel)) dX4_tells_330 (fun H locs hP hD hS => ?_)
        have hP : va_P (dC, dI) vwCl [(m0, .inr (4, [.int g_29.1, .ref m1, .int g_29.2.2.1, .ref m2, .ref m3, .int g_29.2.2.2.2.2.1, .int g_29.2.2.2.2.2.2.1, .int g_29.2.2.2.2.2.2.2.1, .int g_29.2.2.2.2.2.2.2.2.1, .int g_29.2.2.2.2.2.2.2.2.2.1, .int g_29.2.2.2.2.2.2.2.2.2.2.1, .int g_29.2.2.2.2.2.2.2.2.2.2.2.1, .long g_29.2.2.2.2.2.2.2.2.2.2.2.2.1, .int g_29.2.2.2.2.2.2.2.2.2.2.2.2.2.1, .ref m4, .ref m5, .int g_29.2.2.2.2.2.2.2.2.2.2.2.2.2.2.2.2])), (m1, .inl (cI, 60, .inl g_29.2.1)), (m2, .inl (cJ, 92, .inr (.inl (vp_updL g_29.2.2.2.1 27 1)))), (m3, .inl (cJ, 92, .inr (.inl g_29.2.2.2.2.1))), (m4, .inl (cI, 1573, .inl g_29.2.2.2.2.2.2.2.2.2.2.2.2.2.2.1)), (m5, .inl (cI, 12, .inl g_29.2.2.2.2.2.2.2.2.2.2.2.2.2.2.2.1))] H := hP
        have hD : va_D A [(m0, .inr (4, [.int g_29.1, .ref m1, .int g_29.2.2.1, .ref m2, .ref m3, .int g_29.2.2.2.2.2.1, .int g_29.2.2.2.2.2.2.1, .int g_29.2.2.2.2.2.2.2.1, .int g_29.2.2.2.2.2.2.2.2.1, .int g_29.2.2.2.2.2.2.2.2.2.1, .int g_29.2.2.2.2.2.2.2.2.2.2.1, .int g_29.2.2.2.2.2.2.2.2.2.2.2.1, .long g_29.2.2.2.2.2.2.2.2.2.2.2.2.1, .int g_29.2.2.2.2.2.2.2.2.2.2.2.2.2.1, .ref m4, .ref m5, .int g_29.2.2.2.2.2.2.2.2.2.2.2.2.2.2.2.2])), (m1, .inl (cI, 60, .inl g_29.2.1)), (m2, .inl (cJ, 92, .inr (.inl (vp_updL g_29.2.2.2.1 27 1)))), (m3, .inl (cJ, 92, .inr (.inl g_29.2.2.2.2.1))), (m4, .inl (cI, 1573, .inl g_29.2.2.2.2.2.2.2.2.2.2.2.2.2.2.1)), (m5, .inl (cI, 12, .inl g_29.2.2.2.2.2.2.2.2.2.2.2.2.2.2.2.1))] := hD
        refine lv_aload_n hx hb dX4_tells_331 rfl (lv_at hl 0 rfl) ?_
        refine va_get (D := (dC, dI)) (ci := 4) (v := .ref m2) (C := RX4) (T := TX4) (N := 17) hx hb hts hiX4 hown hK hP 0 rfl rfl 3 (by decide) (hts (.fieldLink RX4 13 "TripReckonerModel" "now" "[J") (by decide +kernel)) (fun _ h9 => h9) rfl dX4_tells_332 ?_
        refine lv_iconst (v := 0) hx hb dX4_tells_335 (by decide) ?_
        refine lv_lload_n hx hb dX4_tells_336 rfl (lv_at hl 2 rfl) ?_
        refine va_last hx hb hK hP hD hS 2 1 rfl rfl (vd (by decide +kernel)) dX4_tells_337 (fun H locs hP hD hS => ?_)
        have hP : va_P (dC, dI) vwCl [(m0, .inr (4, [.int g_29.1, .ref m1, .int g_29.2.2.1, .ref m2, .ref m3, .int g_29.2.2.2.2.2.1, .int g_29.2.2.2.2.2.2.1, .int g_29.2.2.2.2.2.2.2.1, .int g_29.2.2.2.2.2.2.2.2.1, .int g_29.2.2.2.2.2.2.2.2.2.1, .int g_29.2.2.2.2.2.2.2.2.2.2.1, .int g_29.2.2.2.2.2.2.2.2.2.2.2.1, .long g_29.2.2.2.2.2.2.2.2.2.2.2.2.1, .int g_29.2.2.2.2.2.2.2.2.2.2.2.2.2.1, .ref m4, .ref m5, .int g_29.2.2.2.2.2.2.2.2.2.2.2.2.2.2.2.2])), (m1, .inl (cI, 60, .inl g_29.2.1)), (m2, .inl (cJ, 92, .inr (.inl (vp_updL (vp_updL g_29.2.2.2.1 27 1) 0 n_6)))), (m3, .inl (cJ, 92, .inr (.inl g_29.2.2.2.2.1))), (m4, .inl (cI, 1573, .inl g_29.2.2.2.2.2.2.2.2.2.2.2.2.2.2.1)), (m5, .inl (cI, 12, .inl g_29.2.2.2.2.2.2.2.2.2.2.2.2.2.2.2.1))] H := hP
        have hD : va_D A [(m0, .inr (4, [.int g_29.1, .ref m1, .int g_29.2.2.1, .ref m2, .ref m3, .int g_29.2.2.2.2.2.1, .int g_29.2.2.2.2.2.2.1, .int g_29.2.2.2.2.2.2.2.1, .int g_29.2.2.2.2.2.2.2.2.1, .int g_29.2.2.2.2.2.2.2.2.2.1, .int g_29.2.2.2.2.2.2.2.2.2.2.1, .int g_29.2.2.2.2.2.2.2.2.2.2.2.1, .long g_29.2.2.2.2.2.2.2.2.2.2.2.2.1, .int g_29.2.2.2.2.2.2.2.2.2.2.2.2.2.1, .ref m4, .ref m5, .int g_29.2.2.2.2.2.2.2.2.2.2.2.2.2.2.2.2])), (m1, .inl (cI, 60, .inl g_29.2.1)), (m2, .inl (cJ, 92, .inr (.inl (vp_updL (vp_updL g_29.2.2.2.1 27 1) 0 n_6)))), (m3, .inl (cJ, 92, .inr (.inl g_29.2.2.2.2.1))), (m4, .inl (cI, 1573, .inl g_29.2.2.2.2.2.2.2.2.2.2.2.2.2.2.1)), (m5, .inl (cI, 12, .inl g_29.2.2.2.2.2.2.2.2.2.2.2.2.2.2.2.1))] := hD
        refine lv_aload_n hx hb dX4_tells_338 rfl (lv_at hl 0 rfl) ?_
        refine va_get (D := (dC, dI)) (ci := 4) (v := .ref m2) (C := RX4) (T := TX4) (N := 17) hx hb hts hiX4 hown hK hP 0 rfl rfl 3 (by decide) (hts (.fieldLink RX4 13 "TripReckonerModel" "now" "[J") (by decide +kernel)) (fun _ h9 => h9) rfl dX4_tells_339 ?_
        refine lv_iconst (v := 1) hx hb dX4_tells_342 (by decide) ?_
        refine lv_lload hx hb dX4_tells_343 (lv_at hl 3 rfl) ?_
        refine va_last hx hb hK hP hD hS 2 1 rfl rfl (vd (by decide +kernel)) dX4_tells_345 (fun H locs hP hD hS => ?_)
        have hP : va_P (dC, dI) vwCl [(m0, .inr (4, [.int g_29.1, .ref m1, .int g_29.2.2.1, .ref m2, .ref m3, .int g_29.2.2.2.2.2.1, .int g_29.2.2.2.2.2.2.1, .int g_29.2.2.2.2.2.2.2.1, .int g_29.2.2.2.2.2.2.2.2.1, .int g_29.2.2.2.2.2.2.2.2.2.1, .int g_29.2.2.2.2.2.2.2.2.2.2.1, .int g_29.2.2.2.2.2.2.2.2.2.2.2.1, .long g_29.2.2.2.2.2.2.2.2.2.2.2.2.1, .int g_29.2.2.2.2.2.2.2.2.2.2.2.2.2.1, .ref m4, .ref m5, .int g_29.2.2.2.2.2.2.2.2.2.2.2.2.2.2.2.2])), (m1, .inl (cI, 60, .inl g_29.2.1)), (m2, .inl (cJ, 92, .inr (.inl (vp_updL (vp_updL (vp_updL g_29.2.2.2.1 27 1) 0 n_6) 1 n_10)))), (m3, .inl (cJ, 92, .inr (.inl g_29.2.2.2.2.1))), (m4, .inl (cI, 1573, .inl g_29.2.2.2.2.2.2.2.2.2.2.2.2.2.2.1)), (m5, .inl (cI, 12, .inl g_29.2.2.2.2.2.2.2.2.2.2.2.2.2.2.2.1))] H := hP
        have hD : va_D A [(m0, .inr (4, [.int g_29.1, .ref m1, .int g_29.2.2.1, .ref m2, .ref m3, .int g_29.2.2.2.2.2.1, .int g_29.2.2.2.2.2.2.1, .int g_29.2.2.2.2.2.2.2.1, .int g_29.2.2.2.2.2.2.2.2.1, .int g_29.2.2.2.2.2.2.2.2.2.1, .int g_29.2.2.2.2.2.2.2.2.2.2.1, .int g_29.2.2.2.2.2.2.2.2.2.2.2.1, .long g_29.2.2.2.2.2.2.2.2.2.2.2.2.1, .int g_29.2.2.2.2.2.2.2.2.2.2.2.2.2.1, .ref m4, .ref m5, .int g_29.2.2.2.2.2.2.2.2.2.2.2.2.2.2.2.2])), (m1, .inl (cI, 60, .inl g_29.2.1)), (m2, .inl (cJ, 92, .inr (.inl (vp_updL (vp_updL (vp_updL g_29.2.2.2.1 27 1) 0 n_6) 1 n_10)))), (m3, .inl (cJ, 92, .inr (.inl g_29.2.2.2.2.1))), (m4, .inl (cI, 1573, .inl g_29.2.2.2.2.2.2.2.2.2.2.2.2.2.2.1)), (m5, .inl (cI, 12, .inl g_29.2.2.2.2.2.2.2.2.2.2.2.2.2.2.2.1))] := hD
        refine lv_aload_n hx hb dX4_tells_346 rfl (lv_at hl 0 rfl) ?_
        have hPc := hP.sub (ws' := [(m0, .inr (4, [.int g_29.1, .ref m1, .int g_29.2.2.1, .ref m2, .ref m3, .int g_29.2.2.2.2.2.1, .int g_29.2.2.2.2.2.2.1, .int g_29.2.2.2.2.2.2.2.1, .int g_29.2.2.2.2.2.2.2.2.1, .int g_29.2.2.2.2.2.2.2.2.2.1, .int g_29.2.2.2.2.2.2.2.2.2.2.1, .int g_29.2.2.2.2.2.2.2.2.2.2.2.1, .long g_29.2.2.2.2.2.2.2.2.2.2.2.2.1, .int g_29.2.2.2.2.2.2.2.2.2.2.2.2.2.1, .ref m4, .ref m5, .int g_29.2.2.2.2.2.2.2.2.2.2.2.2.2.2.2.2])), (m1, .inl (cI, 60, .inl g_29.2.1)), (m2, .inl (cJ, 92, .inr (.inl (vp_updL (vp_updL (vp_updL g_29.2.2.2.1 27 1) 0 n_6) 1 n_10)))), (m3, .inl (cJ, 92, .inr (.inl g_29.2.2.2.2.1))), (m4, .inl (cI, 1573, .inl g_29.2.2.2.2.2.2.2.2.2.2.2.2.2.2.1)), (m5, .inl (cI, 12, .inl g_29.2.2.2.2.2.2.2.2.2.2.2.2.2.2.2.1))]) [0, 1, 2, 3, 4, 5] rfl
        have hDc := hD.sub (ws' := [(m0, .inr (4, [.int g_29.1, .ref m1, .int g_29.2.2.1, .ref m2, .ref m3, .int g_29.2.2.2.2.2.1, .int g_29.2.2.2.2.2.2.1, .int g_29.2.2.2.2.2.2.2.1, .int g_29.2.2.2.2.2.2.2.2.1, .int g_29.2.2.2.2.2.2.2.2.2.1, .int g_29.2.2.2.2.2.2.2.2.2.2.1, .int g_29.2.2.2.2.2.2.2.2.2.2.2.1, .long g_29.2.2.2.2.2.2.2.2.2.2.2.2.1, .int g_29.2.2.2.2.2.2.2.2.2.2.2.2.2.1, .ref m4, .ref m5, .int g_29.2.2.2.2.2.2.2.2.2.2.2.2.2.2.2.2])), (m1, .inl (cI, 60, .inl g_29.2.1)), (m2, .inl (cJ, 92, .inr (.inl (vp_updL (vp_updL (vp_updL g_29.2.2.2.1 27 1) 0 n_6) 1 n_10)))), (m3, .inl (cJ, 92, .inr (.inl g_29.2.2.2.2.1))), (m4, .inl (cI, 1573, .inl g_29.2.2.2.2.2.2.2.2.2.2.2.2.2.2.1)), (m5, .inl (cI, 12, .inl g_29.2.2.2.2.2.2.2.2.2.2.2.2.2.2.2.1))]) [0, 1, 2, 3, 4, 5] (by decide) rfl
        have hFc := va_free (wc := [(m0, .inr (4, [.int g_29.1, .ref m1, .int g_29.2.2.1, .ref m2, .ref m3, .int g_29.2.2.2.2.2.1, .int g_29.2.2.2.2.2.2.1, .int g_29.2.2.2.2.2.2.2.1, .int g_29.2.2.2.2.2.2.2.2.1, .int g_29.2.2.2.2.2.2.2.2.2.1, .int g_29.2.2.2.2.2.2.2.2.2.2.1, .int g_29.2.2.2.2.2.2.2.2.2.2.2.1, .long g_29.2.2.2.2.2.2.2.2.2.2.2.2.1, .int g_29.2.2.2.2.2.2.2.2.2.2.2.2.2.1, .ref m4, .ref m5, .int g_29.2.2.2.2.2.2.2.2.2.2.2.2.2.2.2.2])), (m1, .inl (cI, 60, .inl g_29.2.1)), (m2, .inl (cJ, 92, .inr (.inl (vp_updL (vp_updL (vp_updL g_29.2.2.2.1 27 1) 0 n_6) 1 n_10)))), (m3, .inl (cJ, 92, .inr (.inl g_29.2.2.2.2.1))), (m4, .inl (cI, 1573, .inl g_29.2.2.2.2.2.2.2.2.2.2.2.2.2.2.1)), (m5, .inl (cI, 12, .inl g_29.2.2.2.2.2.2.2.2.2.2.2.2.2.2.2.1))]) hD hS hA [0, 1, 2, 3, 4, 5] rfl
        refine va_callv (va_runV (As := []) (rest := []) ⟨hx, hb, hml, hown, hts⟩ (kX4_jump l dC dI cI cJ m0 m1 m2 m3 m4 m5 H.size (g_29.1, g_29.2.1, g_29.2.2.1, vp_updL (vp_updL (vp_updL g_29.2.2.2.1 27 1) 0 n_6) 1 n_10, g_29.2.2.2.2.1, g_29.2.2.2.2.2.1, g_29.2.2.2.2.2.2.1, g_29.2.2.2.2.2.2.2.1, g_29.2.2.2.2.2.2.2.2.1, g_29.2.2.2.2.2.2.2.2.2.1, g_29.2.2.2.2.2.2.2.2.2.2.1, g_29.2.2.2.2.2.2.2.2.2.2.2.1, g_29.2.2.2.2.2.2.2.2.2.2.2.2.1, g_29.2.2.2.2.2.2.2.2.2.2.2.2.2.1, g_29.2.2.2.2.2.2.2.2.2.2.2.2.2.2.1, g_29.2.2.2.2.2.2.2.2.2.2.2.2.2.2.2.1, g_29.2.2.2.2.2.2.2.2.2.2.2.2.2.2.2.2)) (cwV 0 hts gX4_tells_X4_jump rfl rfl rfl (by decide +kernel) ⟨Nat.le_of_ble_eq_true rfl, Nat.le_of_ble_eq_true rfl⟩) ⟨fun a U g mk q => by obtain ⟨q0, q1, qP, qK, qD⟩ := q; exact ⟨q0, q1, qP, va_K.moved (u := U) (U := U.calling g mk a) (Vm.Alike.refl U.vm) qK, qD⟩, va_recv hK hPc (ci := 4) (q0 := 0) rfl rfl, fun U hU hW => ⟨rfl, by rw [hU], by rw [hU]; exact hPc, va_K.moved hW.alike hK, hDc.weaken (fun _ _ _ _ => trivial)⟩⟩ rfl rfl hl.1 rfl (lv_room (Nat.le_of_ble_eq_true rfl)) dX4_tells_347 ⟨Nat.le_of_ble_eq_true rfl, Nat.le_of_ble_eq_true rfl⟩) hS (fun q _ h => hFc q h) hFc (fun _ t H1 locs ht hvm hw hB hz1 hk1 hS => ?_)
        obtain ⟨hP1, hK1, hD1⟩ := hB
        rw [ht] at hP1
        obtain ⟨g_32, eg_32⟩ : ∃ z, z = sX4_jump (g_29.1, g_29.2.1, g_29.2.2.1, vp_updL (vp_updL (vp_updL g_29.2.2.2.1 27 1) 0 n_6) 1 n_10, g_29.2.2.2.2.1, g_29.2.2.2.2.2.1, g_29.2.2.2.2.2.2.1, g_29.2.2.2.2.2.2.2.1, g_29.2.2.2.2.2.2.2.2.1, g_29.2.2.2.2.2.2.2.2.2.1, g_29.2.2.2.2.2.2.2.2.2.2.1, g_29.2.2.2.2.2.2.2.2.2.2.2.1, g_29.2.2.2.2.2.2.2.2.2.2.2.2.1, g_29.2.2.2.2.2.2.2.2.2.2.2.2.2.1, g_29.2.2.2.2.2.2.2.2.2.2.2.2.2.2.1, g_29.2.2.2.2.2.2.2.2.2.2.2.2.2.2.2.1, g_29.2.2.2.2.2.2.2.2.2.2.2.2.2.2.2.2) := ⟨_, rfl⟩
        rw [← eg_32] at hP1 hD1
        obtain ⟨hP, hD⟩ := va_join (wr := []) (w1 := [cM0 m0 m1 m2 m3 m4 m5 g_32, cM1 cI m1 g_32, cM2 cJ m2 g_32, cM3 cJ m3 g_32, cM4 cI m4 g_32, cM5 cI m5 g_32]) hP hD [0, 1, 2, 3, 4, 5] [] rfl rfl (by decide) (by decide) hk1 hFc hP1 hD1
        generalize H1 = H at hP hS ⊢
        have hP : va_P (dC, dI) vwCl [cM0 m0 m1 m2 m3 m4 m5 g_32, cM1 cI m1 g_32, cM2 cJ m2 g_32, cM3 cJ m3 g_32, cM4 cI m4 g_32, cM5 cI m5 g_32] H := hP
        have hD : va_D A [cM0 m0 m1 m2 m3 m4 m5 g_32, cM1 cI m1 g_32, cM2 cJ m2 g_32, cM3 cJ m3 g_32, cM4 cI m4 g_32, cM5 cI m5 g_32] := hD
        refine lv_iload hx hb dX4_tells_350 (lv_at hl 4 rfl) ?_
        refine lv_if_eq (tgt := 359) hx hb dX4_tells_352 (by decide) (fun c_33 => absurd c_33 c_18) (fun c_33 => ?_)
        refine lv_iconst (v := 1) hx hb dX4_tells_355 (by decide) ?_
        refine lv_goto (tgt := 360) hx hb dX4_tells_356 (by decide) ?_
        have es0 : sX4_tells x v = g_32 := by rw [sX4_tells, ← eg_2, sX4_tells_g_2, if_neg c_4, ← en_6, sX4_tells_n_6, ← en_10, sX4_tells_n_10, if_pos c_12, ← en_15, sX4_tells_n_15, if_neg c_18, ← eg_26, sX4_tells_g_26, ← eg_27, sX4_tells_g_27, ← eg_29, sX4_tells_g_29, ← eg_32, sX4_tells_g_32]
        have er : 1 = rX4_tells x v := by rw [rX4_tells, ← eg_2, rX4_tells_g_2, if_neg c_4, ← en_6, rX4_tells_n_6, ← en_10, rX4_tells_n_10, if_pos c_12, ← en_15, rX4_tells_n_15, if_neg c_18, ← eg_26, rX4_tells_g_26, ← eg_27, rX4_tells_g_27, ← eg_29, rX4_tells_g_29, ← eg_32, rX4_tells_g_32]
        refine W.iret (v := 1) hx hb hr (fun t ht hW => ⟨⟨1, (), rfl, er, ?_⟩, hS.F ht⟩) hS.2.2 dX4_tells_360
        rw [es0]; exact ⟨by rw [ht]; exact hP, va_K.moved hW.alike hK, hD⟩
    · refine lv_lload hx hb dX4_tells_102 (lv_at hl 0 rfl) ?_
      refine lv_aload_n hx hb dX4_tells_104 rfl (lv_at hl 2 rfl) ?_
      refine va_get (D := (dC, dI)) (ci := 4) (v := .ref m2) (C := RX4) (T := TX4) (N := 17) hx hb hts hiX4 hown hK hP 0 rfl rfl 3 (by decide) (hts (.fieldLink RX4 13 "TripReckonerModel" "now" "[J") (by decide +kernel)) (fun _ h9 => h9) rfl dX4_tells_105 ?_
      refine lv_iconst (v := 0) hx hb dX4_tells_108 (by decide) ?_
      refine va_lald hx hb hK hP 2 1 rfl rfl (vd (by decide +kernel)) dX4_tells_109 ?_
      refine lv_topl (fun z_34 ez_34 => ?_)
      have ez_34 : z_34 = g_2.2.2.2.1 0 := ez_34
      subst ez_34
      refine W.lcmp hx hb dX4_tells_110 ?_
      refine lv_if_lt (tgt := 174) hx hb dX4_tells_111 (by decide) (fun c_35 => ?_) (fun c_35 => ?_)
      · refine lv_lload_n hx hb dX4_tells_174 rfl (lv_at hl 1 rfl) ?_
        refine lv_aload_n hx hb dX4_tells_175 rfl (lv_at hl 2 rfl) ?_
        refine va_get (D := (dC, dI)) (ci := 4) (v := .ref m2) (C := RX4) (T := TX4) (N := 17) hx hb hts hiX4 hown hK hP 0 rfl rfl 3 (by decide) (hts (.fieldLink RX4 13 "TripReckonerModel" "now" "[J") (by decide +kernel)) (fun _ h9 => h9) rfl dX4_tells_176 ?_
        refine lv_iconst (v := 1) hx hb dX4_tells_179 (by decide) ?_
        refine va_lald hx hb hK hP 2 1 rfl rfl (vd (by decide +kernel)) dX4_tells_180 ?_
        refine lv_topl (fun z_36 ez_36 => ?_)
        have ez_36 : z_36 = g_2.2.2.2.1 1 := ez_36
        subst ez_36
        refine W.lcmp hx hb dX4_tells_181 ?_
        obtain ⟨n_38, en_38⟩ : ∃ z : Int32, z = (if (lg_cmp n_6 (g_2.2.2.2.1 1)) ≤ 0 then 0 else 1) := ⟨_, rfl⟩
        refine w_cut (fun WW => ∀ (H : Heap) (locs : List Loc) (ls : Array Slot), va_P (dC, dI) vwCl [cM0 m0 m1 m2 m3 m4 m5 g_2, cM1 cI m1 g_2, cM2 cJ m2 g_2, cM3 cJ m3 g_2, cM4 cI m4 g_2, cM5 cI m5 g_2] H → va_D A [cM0 m0 m1 m2 m3 m4 m5 g_2, cM1 cI m1 g_2, cM2 cJ m2 g_2, cM3 cJ m3 g_2, cM4 cI m4 g_2, cM5 cI m5 g_2] → va_S A s.heap H locs → lv_has ls 8 [(4, .long n_10), (2, .long n_6), (0, .ref m0), (1, .int x)] → WW H locs (F0 m 190 ls [.int n_38])) (fun K => ?_) (fun H locs ls hP hD hS hl => ?_)
        · refine lv_if_le (tgt := 189) hx hb dX4_tells_182 (by decide) (fun c_37 => ?_) (fun c_37 => ?_)
          · refine lv_iconst (v := 0) hx hb dX4_tells_189 (by decide) ?_
            refine lv_topi (fun z_39 ez_39 => ?_)
            obtain rfl : z_39 = n_38 := ez_39.trans (by simp only [en_38, if_pos c_37])
            exact K _ _ _ hP hD hS (lv_sub hl [0, 1, 2, 3] rfl)
          · refine lv_iconst (v := 1) hx hb dX4_tells_185 (by decide) ?_
            refine lv_goto (tgt := 190) hx hb dX4_tells_186 (by decide) ?_
            refine lv_topi (fun z_40 ez_40 => ?_)
            obtain rfl : z_40 = n_38 := ez_40.trans (by simp only [en_38, if_neg c_37])
            exact K _ _ _ hP hD hS (lv_sub hl [0, 1, 2, 3] rfl)
        refine lv_istore (lv' := [(6, .int n_38), (4, .long n_10), (2, .long n_6), (0, .ref m0), (1, .int x)]) hx hb dX4_tells_190 hl (by decide) rfl (fun ls hl => ?_)
        refine lv_iload hx hb dX4_tells_192 (lv_at hl 0 rfl) ?_
        refine lv_if_eq (tgt := 303) hx hb dX4_tells_194 (by decide) (fun c_41 => ?_) (fun c_41 => ?_)
        · refine lv_aload_n hx hb dX4_tells_303 rfl (lv_at hl 3 rfl) ?_
          refine va_get (D := (dC, dI)) (ci := 4) (v := .ref m2) (C := RX4) (T := TX4) (N := 17) hx hb hts hiX4 hown hK hP 0 rfl rfl 3 (by decide) (hts (.fieldLink RX4 13 "TripReckonerModel" "now" "[J") (by decide +kernel)) (fun _ h9 => h9) rfl dX4_tells_304 ?_
          refine lv_bipush (v := 23) hx hb dX4_tells_307 (by decide) ?_
          refine lv_dup2_11 hx hb dX4_tells_309 rfl rfl ?_
          refine va_lald hx hb hK hP 2 1 rfl rfl (vd (by decide +kernel)) dX4_tells_310 ?_
          refine lv_topl (fun z_42 ez_42 => ?_)
          have ez_42 : z_42 = g_2.2.2.2.1 23 := ez_42
          subst ez_42
          refine lv_lconst (v := 1) hx hb dX4_tells_311 (by decide) ?_
          refine lv_ladd hx hb dX4_tells_312 ?_
          refine va_last hx hb hK hP hD hS 2 1 rfl rfl (vd (by decide +kernel)) dX4_tells_313 (fun H locs hP hD hS => ?_)
          have hP : va_P (dC, dI) vwCl [(m0, .inr (4, [.int g_2.1, .ref m1, .int g_2.2.2.1, .ref m2, .ref m3, .int g_2.2.2.2.2.2.1, .int g_2.2.2.2.2.2.2.1, .int g_2.2.2.2.2.2.2.2.1, .int g_2.2.2.2.2.2.2.2.2.1, .int g_2.2.2.2.2.2.2.2.2.2.1, .int g_2.2.2.2.2.2.2.2.2.2.2.1, .int g_2.2.2.2.2.2.2.2.2.2.2.2.1, .long g_2.2.2.2.2.2.2.2.2.2.2.2.2.1, .int g_2.2.2.2.2.2.2.2.2.2.2.2.2.2.1, .ref m4, .ref m5, .int g_2.2.2.2.2.2.2.2.2.2.2.2.2.2.2.2.2])), (m1, .inl (cI, 60, .inl g_2.2.1)), (m2, .inl (cJ, 92, .inr (.inl (vp_updL g_2.2.2.2.1 23 ((g_2.2.2.2.1 23) + 1))))), (m3, .inl (cJ, 92, .inr (.inl g_2.2.2.2.2.1))), (m4, .inl (cI, 1573, .inl g_2.2.2.2.2.2.2.2.2.2.2.2.2.2.2.1)), (m5, .inl (cI, 12, .inl g_2.2.2.2.2.2.2.2.2.2.2.2.2.2.2.2.1))] H := hP
          have hD : va_D A [(m0, .inr (4, [.int g_2.1, .ref m1, .int g_2.2.2.1, .ref m2, .ref m3, .int g_2.2.2.2.2.2.1, .int g_2.2.2.2.2.2.2.1, .int g_2.2.2.2.2.2.2.2.1, .int g_2.2.2.2.2.2.2.2.2.1, .int g_2.2.2.2.2.2.2.2.2.2.1, .int g_2.2.2.2.2.2.2.2.2.2.2.1, .int g_2.2.2.2.2.2.2.2.2.2.2.2.1, .long g_2.2.2.2.2.2.2.2.2.2.2.2.2.1, .int g_2.2.2.2.2.2.2.2.2.2.2.2.2.2.1, .ref m4, .ref m5, .int g_2.2.2.2.2.2.2.2.2.2.2.2.2.2.2.2.2])), (m1, .inl (cI, 60, .inl g_2.2.1)), (m2, .inl (cJ, 92, .inr (.inl (vp_updL g_2.2.2.2.1 23 ((g_2.2.2.2.1 23) + 1))))), (m3, .inl (cJ, 92, .inr (.inl g_2.2.2.2.2.1))), (m4, .inl (cI, 1573, .inl g_2.2.2.2.2.2.2.2.2.2.2.2.2.2.2.1)), (m5, .inl (cI, 12, .inl g_2.2.2.2.2.2.2.2.2.2.2.2.2.2.2.2.1))] := hD
          refine lv_aload_n hx hb dX4_tells_314 rfl (lv_at hl 3 rfl) ?_
          refine va_get (D := (dC, dI)) (ci := 4) (v := .ref m2) (C := RX4) (T := TX4) (N := 17) hx hb hts hiX4 hown hK hP 0 rfl rfl 3 (by decide) (hts (.fieldLink RX4 13 "TripReckonerModel" "now" "[J") (by decide +kernel)) (fun _ h9 => h9) rfl dX4_tells_315 ?_
          refine lv_bipush (v := 27) hx hb dX4_tells_318 (by decide) ?_
          refine lv_iload hx hb dX4_tells_320 (lv_at hl 0 rfl) ?_
          refine lv_if_eq (tgt := 329) hx hb dX4_tells_322 (by decide) (fun c_43 => ?_) (fun c_43 => absurd c_41 c_43)
          refine lv_lconst (v := 0) hx hb dX4_tells_329 (by decide) ?_
          refine va_last hx hb hK hP hD hS 2 1 rfl rfl (vd (by decide +kernel)) dX4_tells_330 (fun H locs hP hD hS => ?_)
          have hP : va_P (dC, dI) vwCl [(m0, .inr (4, [.int g_2.1, .ref m1, .int g_2.2.2.1, .ref m2, .ref m3, .int g_2.2.2.2.2.2.1, .int g_2.2.2.2.2.2.2.1, .int g_2.2.2.2.2.2.2.2.1, .int g_2.2.2.2.2.2.2.2.2.1, .int g_2.2.2.2.2.2.2.2.2.2.1, .int g_2.2.2.2.2.2.2.2.2.2.2.1, .int g_2.2.2.2.2.2.2.2.2.2.2.2.1, .long g_2.2.2.2.2.2.2.2.2.2.2.2.2.1, .int g_2.2.2.2.2.2.2.2.2.2.2.2.2.2.1, .ref m4, .ref m5, .int g_2.2.2.2.2.2.2.2.2.2.2.2.2.2.2.2.2])), (m1, .inl (cI, 60, .inl g_2.2.1)), (m2, .inl (cJ, 92, .inr (.inl (vp_updL (vp_updL g_2.2.2.2.1 23 ((g_2.2.2.2.1 23) + 1)) 27 0)))), (m3, .inl (cJ, 92, .inr (.inl g_2.2.2.2.2.1))), (m4, .inl (cI, 1573, .inl g_2.2.2.2.2.2.2.2.2.2.2.2.2.2.2.1)), (m5, .inl (cI, 12, .inl g_2.2.2.2.2.2.2.2.2.2.2.2.2.2.2.2.1))] H := hP
          have hD : va_D A [(m0, .inr (4, [.int g_2.1, .ref m1, .int g_2.2.2.1, .ref m2, .ref m3, .int g_2.2.2.2.2.2.1, .int g_2.2.2.2.2.2.2.1, .int g_2.2.2.2.2.2.2.2.1, .int g_2.2.2.2.2.2.2.2.2.1, .int g_2.2.2.2.2.2.2.2.2.2.1, .int g_2.2.2.2.2.2.2.2.2.2.2.1, .int g_2.2.2.2.2.2.2.2.2.2.2.2.1, .long g_2.2.2.2.2.2.2.2.2.2.2.2.2.1, .int g_2.2.2.2.2.2.2.2.2.2.2.2.2.2.1, .ref m4, .ref m5, .int g_2.2.2.2.2.2.2.2.2.2.2.2.2.2.2.2.2])), (m1, .inl (cI, 60, .inl g_2.2.1)), (m2, .inl (cJ, 92, .inr (.inl (vp_updL (vp_updL g_2.2.2.2.1 23 ((g_2.2.2.2.1 23) + 1)) 27 0)))), (m3, .inl (cJ, 92, .inr (.inl g_2.2.2.2.2.1))), (m4, .inl (cI, 1573, .inl g_2.2.2.2.2.2.2.2.2.2.2.2.2.2.2.1)), (m5, .inl (cI, 12, .inl g_2.2.2.2.2.2.2.2.2.2.2.2.2.2.2.2.1))] := hD
          refine lv_aload_n hx hb dX4_tells_331 rfl (lv_at hl 3 rfl) ?_
          refine va_get (D := (dC, dI)) (ci := 4) (v := .ref m2) (C := RX4) (T := TX4) (N := 17) hx hb hts hiX4 hown hK hP 0 rfl rfl 3 (by decide) (hts (.fieldLink RX4 13 "TripReckonerModel" "now" "[J") (by decide +kernel)) (fun _ h9 => h9) rfl dX4_tells_332 ?_
          refine lv_iconst (v := 0) hx hb dX4_tells_335 (by decide) ?_
          refine lv_lload_n hx hb dX4_tells_336 rfl (lv_at hl 2 rfl) ?_
          refine va_last hx hb hK hP hD hS 2 1 rfl rfl (vd (by decide +kernel)) dX4_tells_337 (fun H locs hP hD hS => ?_)
          have hP : va_P (dC, dI) vwCl [(m0, .inr (4, [.int g_2.1, .ref m1, .int g_2.2.2.1, .ref m2, .ref m3, .int g_2.2.2.2.2.2.1, .int g_2.2.2.2.2.2.2.1, .int g_2.2.2.2.2.2.2.2.1, .int g_2.2.2.2.2.2.2.2.2.1, .int g_2.2.2.2.2.2.2.2.2.2.1, .int g_2.2.2.2.2.2.2.2.2.2.2.1, .int g_2.2.2.2.2.2.2.2.2.2.2.2.1, .long g_2.2.2.2.2.2.2.2.2.2.2.2.2.1, .int g_2.2.2.2.2.2.2.2.2.2.2.2.2.2.1, .ref m4, .ref m5, .int g_2.2.2.2.2.2.2.2.2.2.2.2.2.2.2.2.2])), (m1, .inl (cI, 60, .inl g_2.2.1)), (m2, .inl (cJ, 92, .inr (.inl (vp_updL (vp_updL (vp_updL g_2.2.2.2.1 23 ((g_2.2.2.2.1 23) + 1)) 27 0) 0 n_6)))), (m3, .inl (cJ, 92, .inr (.inl g_2.2.2.2.2.1))), (m4, .inl (cI, 1573, .inl g_2.2.2.2.2.2.2.2.2.2.2.2.2.2.2.1)), (m5, .inl (cI, 12, .inl g_2.2.2.2.2.2.2.2.2.2.2.2.2.2.2.2.1))] H := hP
          have hD : va_D A [(m0, .inr (4, [.int g_2.1, .ref m1, .int g_2.2.2.1, .ref m2, .ref m3, .int g_2.2.2.2.2.2.1, .int g_2.2.2.2.2.2.2.1, .int g_2.2.2.2.2.2.2.2.1, .int g_2.2.2.2.2.2.2.2.2.1, .int g_2.2.2.2.2.2.2.2.2.2.1, .int g_2.2.2.2.2.2.2.2.2.2.2.1, .int g_2.2.2.2.2.2.2.2.2.2.2.2.1, .long g_2.2.2.2.2.2.2.2.2.2.2.2.2.1, .int g_2.2.2.2.2.2.2.2.2.2.2.2.2.2.1, .ref m4, .ref m5, .int g_2.2.2.2.2.2.2.2.2.2.2.2.2.2.2.2.2])), (m1, .inl (cI, 60, .inl g_2.2.1)), (m2, .inl (cJ, 92, .inr (.inl (vp_updL (vp_updL (vp_updL g_2.2.2.2.1 23 ((g_2.2.2.2.1 23) + 1)) 27 0) 0 n_6)))), (m3, .inl (cJ, 92, .inr (.inl g_2.2.2.2.2.1))), (m4, .inl (cI, 1573, .inl g_2.2.2.2.2.2.2.2.2.2.2.2.2.2.2.1)), (m5, .inl (cI, 12, .inl g_2.2.2.2.2.2.2.2.2.2.2.2.2.2.2.2.1))] := hD
          refine lv_aload_n hx hb dX4_tells_338 rfl (lv_at hl 3 rfl) ?_
          refine va_get (D := (dC, dI)) (ci := 4) (v := .ref m2) (C := RX4) (T := TX4) (N := 17) hx hb hts hiX4 hown hK hP 0 rfl rfl 3 (by decide) (hts (.fieldLink RX4 13 "TripReckonerModel" "now" "[J") (by decide +kernel)) (fun _ h9 => h9) rfl dX4_tells_339 ?_
          refine lv_iconst (v := 1) hx hb dX4_tells_342 (by decide) ?_
          refine lv_lload hx hb dX4_tells_343 (lv_at hl 1 rfl) ?_
          refine va_last hx hb hK hP hD hS 2 1 rfl rfl (vd (by decide +kernel)) dX4_tells_345 (fun H locs hP hD hS => ?_)
          have hP : va_P (dC, dI) vwCl [(m0, .inr (4, [.int g_2.1, .ref m1, .int g_2.2.2.1, .ref m2, .ref m3, .int g_2.2.2.2.2.2.1, .int g_2.2.2.2.2.2.2.1, .int g_2.2.2.2.2.2.2.2.1, .int g_2.2.2.2.2.2.2.2.2.1, .int g_2.2.2.2.2.2.2.2.2.2.1, .int g_2.2.2.2.2.2.2.2.2.2.2.1, .int g_2.2.2.2.2.2.2.2.2.2.2.2.1, .long g_2.2.2.2.2.2.2.2.2.2.2.2.2.1, .int g_2.2.2.2.2.2.2.2.2.2.2.2.2.2.1, .ref m4, .ref m5, .int g_2.2.2.2.2.2.2.2.2.2.2.2.2.2.2.2.2])), (m1, .inl (cI, 60, .inl g_2.2.1)), (m2, .inl (cJ, 92, .inr (.inl (vp_updL (vp_updL (vp_updL (vp_updL g_2.2.2.2.1 23 ((g_2.2.2.2.1 23) + 1)) 27 0) 0 n_6) 1 n_10)))), (m3, .inl (cJ, 92, .inr (.inl g_2.2.2.2.2.1))), (m4, .inl (cI, 1573, .inl g_2.2.2.2.2.2.2.2.2.2.2.2.2.2.2.1)), (m5, .inl (cI, 12, .inl g_2.2.2.2.2.2.2.2.2.2.2.2.2.2.2.2.1))] H := hP
          have hD : va_D A [(m0, .inr (4, [.int g_2.1, .ref m1, .int g_2.2.2.1, .ref m2, .ref m3, .int g_2.2.2.2.2.2.1, .int g_2.2.2.2.2.2.2.1, .int g_2.2.2.2.2.2.2.2.1, .int g_2.2.2.2.2.2.2.2.2.1, .int g_2.2.2.2.2.2.2.2.2.2.1, .int g_2.2.2.2.2.2.2.2.2.2.2.1, .int g_2.2.2.2.2.2.2.2.2.2.2.2.1, .long g_2.2.2.2.2.2.2.2.2.2.2.2.2.1, .int g_2.2.2.2.2.2.2.2.2.2.2.2.2.2.1, .ref m4, .ref m5, .int g_2.2.2.2.2.2.2.2.2.2.2.2.2.2.2.2.2])), (m1, .inl (cI, 60, .inl g_2.2.1)), (m2, .inl (cJ, 92, .inr (.inl (vp_updL (vp_updL (vp_updL (vp_updL g_2.2.2.2.1 23 ((g_2.2.2.2.1 23) + 1)) 27 0) 0 n_6) 1 n_10)))), (m3, .inl (cJ, 92, .inr (.inl g_2.2.2.2.2.1))), (m4, .inl (cI, 1573, .inl g_2.2.2.2.2.2.2.2.2.2.2.2.2.2.2.1)), (m5, .inl (cI, 12, .inl g_2.2.2.2.2.2.2.2.2.2.2.2.2.2.2.2.1))] := hD
          refine lv_aload_n hx hb dX4_tells_346 rfl (lv_at hl 3 rfl) ?_
          have hPc := hP.sub (ws' := [(m0, .inr (4, [.int g_2.1, .ref m1, .int g_2.2.2.1, .ref m2, .ref m3, .int g_2.2.2.2.2.2.1, .int g_2.2.2.2.2.2.2.1, .int g_2.2.2.2.2.2.2.2.1, .int g_2.2.2.2.2.2.2.2.2.1, .int g_2.2.2.2.2.2.2.2.2.2.1, .int g_2.2.2.2.2.2.2.2.2.2.2.1, .int g_2.2.2.2.2.2.2.2.2.2.2.2.1, .long g_2.2.2.2.2.2.2.2.2.2.2.2.2.1, .int g_2.2.2.2.2.2.2.2.2.2.2.2.2.2.1, .ref m4, .ref m5, .int g_2.2.2.2.2.2.2.2.2.2.2.2.2.2.2.2.2])), (m1, .inl (cI, 60, .inl g_2.2.1)), (m2, .inl (cJ, 92, .inr (.inl (vp_updL (vp_updL (vp_updL (vp_updL g_2.2.2.2.1 23 ((g_2.2.2.2.1 23) + 1)) 27 0) 0 n_6) 1 n_10)))), (m3, .inl (cJ, 92, .inr (.inl g_2.2.2.2.2.1))), (m4, .inl (cI, 1573, .inl g_2.2.2.2.2.2.2.2.2.2.2.2.2.2.2.1)), (m5, .inl (cI, 12, .inl g_2.2.2.2.2.2.2.2.2.2.2.2.2.2.2.2.1))]) [0, 1, 2, 3, 4, 5] rfl
          have hDc := hD.sub (ws' := [(m0, .inr (4, [.int g_2.1, .ref m1, .int g_2.2.2.1, .ref m2, .ref m3, .int g_2.2.2.2.2.2.1, .int g_2.2.2.2.2.2.2.1, .int g_2.2.2.2.2.2.2.2.1, .int g_2.2.2.2.2.2.2.2.2.1, .int g_2.2.2.2.2.2.2.2.2.2.1, .int g_2.2.2.2.2.2.2.2.2.2.2.1, .int g_2.2.2.2.2.2.2.2.2.2.2.2.1, .long g_2.2.2.2.2.2.2.2.2.2.2.2.2.1, .int g_2.2.2.2.2.2.2.2.2.2.2.2.2.2.1, .ref m4, .ref m5, .int g_2.2.2.2.2.2.2.2.2.2.2.2.2.2.2.2.2])), (m1, .inl (cI, 60, .inl g_2.2.1)), (m2, .inl (cJ, 92, .inr (.inl (vp_updL (vp_updL (vp_updL (vp_updL g_2.2.2.2.1 23 ((g_2.2.2.2.1 23) + 1)) 27 0) 0 n_6) 1 n_10)))), (m3, .inl (cJ, 92, .inr (.inl g_2.2.2.2.2.1))), (m4, .inl (cI, 1573, .inl g_2.2.2.2.2.2.2.2.2.2.2.2.2.2.2.1)), (m5, .inl (cI, 12, .inl g_2.2.2.2.2.2.2.2.2.2.2.2.2.2.2.2.1))]) [0, 1, 2, 3, 4, 5] (by decide) rfl
          have hFc := va_free (wc := [(m0, .inr (4, [.int g_2.1, .ref m1, .int g_2.2.2.1, .ref m2, .ref m3, .int g_2.2.2.2.2.2.1, .int g_2.2.2.2.2.2.2.1, .int g_2.2.2.2.2.2.2.2.1, .int g_2.2.2.2.2.2.2.2.2.1, .int g_2.2.2.2.2.2.2.2.2.2.1, .int g_2.2.2.2.2.2.2.2.2.2.2.1, .int g_2.2.2.2.2.2.2.2.2.2.2.2.1, .long g_2.2.2.2.2.2.2.2.2.2.2.2.2.1, .int g_2.2.2.2.2.2.2.2.2.2.2.2.2.2.1, .ref m4, .ref m5, .int g_2.2.2.2.2.2.2.2.2.2.2.2.2.2.2.2.2])), (m1, .inl (cI, 60, .inl g_2.2.1)), (m2, .inl (cJ, 92, .inr (.inl (vp_updL (vp_updL (vp_updL (vp_updL g_2.2.2.2.1 23 ((g_2.2.2.2.1 23) + 1)) 27 0) 0 n_6) 1 n_10)))), (m3, .inl (cJ, 92, .inr (.inl g_2.2.2.2.2.1))), (m4, .inl (cI, 1573, .inl g_2.2.2.2.2.2.2.2.2.2.2.2.2.2.2.1)), (m5, .inl (cI, 12, .inl g_2.2.2.2.2.2.2.2.2.2.2.2.2.2.2.2.1))]) hD hS hA [0, 1, 2, 3, 4, 5] rfl
          refine va_callv (va_runV (As := []) (rest := []) ⟨hx, hb, hml, hown, hts⟩ (kX4_jump l dC dI cI cJ m0 m1 m2 m3 m4 m5 H.size (g_2.1, g_2.2.1, g_2.2.2.1, vp_updL (vp_updL (vp_updL (vp_updL g_2.2.2.2.1 23 ((g_2.2.2.2.1 23) + 1)) 27 0) 0 n_6) 1 n_10, g_2.2.2.2.2.1, g_2.2.2.2.2.2.1, g_2.2.2.2.2.2.2.1, g_2.2.2.2.2.2.2.2.1, g_2.2.2.2.2.2.2.2.2.1, g_2.2.2.2.2.2.2.2.2.2.1, g_2.2.2.2.2.2.2.2.2.2.2.1, g_2.2.2.2.2.2.2.2.2.2.2.2.1, g_2.2.2.2.2.2.2.2.2.2.2.2.2.1, g_2.2.2.2.2.2.2.2.2.2.2.2.2.2.1, g_2.2.2.2.2.2.2.2.2.2.2.2.2.2.2.1, g_2.2.2.2.2.2.2.2.2.2.2.2.2.2.2.2.1, g_2.2.2.2.2.2.2.2.2.2.2.2.2.2.2.2.2)) (cwV 0 hts gX4_tells_X4_jump rfl rfl rfl (by decide +kernel) ⟨Nat.le_of_ble_eq_true rfl, Nat.le_of_ble_eq_true rfl⟩) ⟨fun a U g mk q => by obtain ⟨q0, q1, qP, qK, qD⟩ := q; exact ⟨q0, q1, qP, va_K.moved (u := U) (U := U.calling g mk a) (Vm.Alike.refl U.vm) qK, qD⟩, va_recv hK hPc (ci := 4) (q0 := 0) rfl rfl, fun U hU hW => ⟨rfl, by rw [hU], by rw [hU]; exact hPc, va_K.moved hW.alike hK, hDc.weaken (fun _ _ _ _ => trivial)⟩⟩ rfl rfl hl.1 rfl (lv_room (Nat.le_of_ble_eq_true rfl)) dX4_tells_347 ⟨Nat.le_of_ble_eq_true rfl, Nat.le_of_ble_eq_true rfl⟩) hS (fun q _ h => hFc q h) hFc (fun _ t H1 locs ht hvm hw hB hz1 hk1 hS => ?_)
          obtain ⟨hP1, hK1, hD1⟩ := hB
          rw [ht] at hP1
          obtain ⟨g_45, eg_45⟩ : ∃ z, z = sX4_jump (g_2.1, g_2.2.1, g_2.2.2.1, vp_updL (vp_updL (vp_updL (vp_updL g_2.2.2.2.1 23 ((g_2.2.2.2.1 23) + 1)) 27 0) 0 n_6) 1 n_10, g_2.2.2.2.2.1, g_2.2.2.2.2.2.1, g_2.2.2.2.2.2.2.1, g_2.2.2.2.2.2.2.2.1, g_2.2.2.2.2.2.2.2.2.1, g_2.2.2.2.2.2.2.2.2.2.1, g_2.2.2.2.2.2.2.2.2.2.2.1, g_2.2.2.2.2.2.2.2.2.2.2.2.1, g_2.2.2.2.2.2.2.2.2.2.2.2.2.1, g_2.2.2.2.2.2.2.2.2.2.2.2.2.2.1, g_2.2.2.2.2.2.2.2.2.2.2.2.2.2.2.1, g_2.2.2.2.2.2.2.2.2.2.2.2.2.2.2.2.1, g_2.2.2.2.2.2.2.2.2.2.2.2.2.2.2.2.2) := ⟨_, rfl⟩
          rw [← eg_45] at hP1 hD1
          obtain ⟨hP, hD⟩ := va_join (wr := []) (w1 := [cM0 m0 m1 m2 m3 m4 m5 g_45, cM1 cI m1 g_45, cM2 cJ m2 g_45, cM3 cJ m3 g_45, cM4 cI m4 g_45, cM5 cI m5 g_45]) hP hD [0, 1, 2, 3, 4, 5] [] rfl rfl (by decide) (by decide) hk1 hFc hP1 hD1
          generalize H1 = H at hP hS ⊢
          have hP : va_P (dC, dI) vwCl [cM0 m0 m1 m2 m3 m4 m5 g_45, cM1 cI m1 g_45, cM2 cJ m2 g_45, cM3 cJ m3 g_45, cM4 cI m4 g_45, cM5 cI m5 g_45] H := hP
          have hD : va_D A [cM0 m0 m1 m2 m3 m4 m5 g_45, cM1 cI m1 g_45, cM2 cJ m2 g_45, cM3 cJ m3 g_45, cM4 cI m4 g_45, cM5 cI m5 g_45] := hD
          refine lv_iload hx hb dX4_tells_350 (lv_at hl 0 rfl) ?_
          refine lv_if_eq (tgt := 359) hx hb dX4_tells_352 (by decide) (fun c_46 => ?_) (fun c_46 => absurd c_41 c_46)
          refine lv_iconst (v := 2) hx hb dX4_tells_359 (by decide) ?_
          have es0 : sX4_tells x v = g_45 := by rw [sX4_tells, ← eg_2, sX4_tells_g_2, if_neg c_4, ← en_6, sX4_tells_n_6, ← en_10, sX4_tells_n_10, if_neg c_12, if_pos c_35, ← en_38, sX4_tells_n_38, if_pos c_41, ← eg_45, sX4_tells_g_45]
          have er : 2 = rX4_tells x v := by rw [rX4_tells, ← eg_2, rX4_tells_g_2, if_neg c_4, ← en_6, rX4_tells_n_6, ← en_10, rX4_tells_n_10, if_neg c_12, if_pos c_35, ← en_38, rX4_tells_n_38, if_pos c_41, ← eg_45, rX4_tells_g_45]
          refine W.iret (v := 2) hx hb hr (fun t ht hW => ⟨⟨2, (), rfl, er, ?_⟩, hS.F ht⟩) hS.2.2 dX4_tells_360
          rw [es0]; exact ⟨by rw [ht]; exact hP, va_K.moved hW.alike hK, hD⟩
        · refine lv_aload_n hx hb dX4_tells_197 rfl (lv_at hl 3 rfl) ?_
          refine va_get (D := (dC, dI)) (ci := 4) (v := .ref m2) (C := RX4) (T := TX4) (N := 17) hx hb hts hiX4 hown hK hP 0 rfl rfl 3 (by decide) (hts (.fieldLink RX4 13 "TripReckonerModel" "now" "[J") (by decide +kernel)) (fun _ h9 => h9) rfl dX4_tells_198 ?_
          refine lv_bipush (v := 22) hx hb dX4_tells_201 (by decide) ?_
          refine va_lald hx hb hK hP 2 1 rfl rfl (vd (by decide +kernel)) dX4_tells_203 ?_
          refine lv_topl (fun z_47 ez_47 => ?_)
          have ez_47 : z_47 = g_2.2.2.2.1 22 := ez_47
          subst ez_47
          have hPc := hP.sub (ws' := []) [] rfl
          have hDc := hD.sub (ws' := []) [] (by decide) rfl
          have hFc := va_free (wc := []) hD hS hA [] rfl
          refine va_calli (va_runS (As := [.long (g_2.2.2.2.1 22)]) (rest := []) ⟨hx, hb, hml, hown, hts⟩ (kX4_place l dC dI cI cJ H.size (g_2.2.2.2.1 22)) (va_cwS 1 hts gX4_tells_X4_place rfl rfl rfl (by decide +kernel) ⟨Nat.le_of_ble_eq_true rfl, Nat.le_of_ble_eq_true rfl⟩) ⟨fun a U g mk q => by obtain ⟨q0, q1, qP, qK, qD⟩ := q; exact ⟨q0, q1, qP, va_K.moved (u := U) (U := U.calling g mk a) (Vm.Alike.refl U.vm) qK, qD⟩, fun U hU hW => ⟨rfl, by rw [hU], by rw [hU]; exact hPc, va_K.moved hW.alike hK, hDc.weaken (fun _ _ _ _ => trivial)⟩⟩ rfl rfl hl.1 rfl (lv_room (Nat.le_of_ble_eq_true rfl)) dX4_tells_204 ⟨Nat.le_of_ble_eq_true rfl, Nat.le_of_ble_eq_true rfl⟩) hS (fun q _ h => hFc q h) hFc (fun r_48 _ t H1 locs ht hvm hw hB hz1 hk1 hS => ?_)
          obtain ⟨hP1, hK1, hD1⟩ := hB
          rw [ht] at hP1
          obtain ⟨hP, hD⟩ := va_join (wr := [cM0 m0 m1 m2 m3 m4 m5 g_2, cM1 cI m1 g_2, cM2 cJ m2 g_2, cM3 cJ m3 g_2, cM4 cI m4 g_2, cM5 cI m5 g_2]) (w1 := []) hP hD [] [0, 1, 2, 3, 4, 5] rfl rfl (by decide) (by decide) hk1 hFc hP1 hD1
          generalize H1 = H at hP hS ⊢
          have hP : va_P (dC, dI) vwCl [cM0 m0 m1 m2 m3 m4 m5 g_2, cM1 cI m1 g_2, cM2 cJ m2 g_2, cM3 cJ m3 g_2, cM4 cI m4 g_2, cM5 cI m5 g_2] H := hP
          have hD : va_D A [cM0 m0 m1 m2 m3 m4 m5 g_2, cM1 cI m1 g_2, cM2 cJ m2 g_2, cM3 cJ m3 g_2, cM4 cI m4 g_2, cM5 cI m5 g_2] := hD
          subst hw
          refine lv_istore (lv' := [(7, .int (rX4_place (g_2.2.2.2.1 22))), (6, .int n_38), (4, .long n_10), (2, .long n_6), (0, .ref m0), (1, .int x)]) hx hb dX4_tells_207 hl (by decide) rfl (fun ls hl => ?_)
          have hP : va_P (dC, dI) vwCl [cM0 m0 m1 m2 m3 m4 m5 g_2, cM1 cI m1 g_2, cM2 cJ m2 g_2, cM3 cJ m3 g_2, cM4 cI m4 g_2, cM5 cI m5 g_2] H := hP
          refine f_tells1 hx hb hml hown hts hA hK x n_6 n_10 n_38 (rX4_place (g_2.2.2.2.1 22)) g_2 (place_in (hp _ eg_2)).1 (place_in (hp _ eg_2)).2.1 (fun H locs ls hP hD hS hl => ?_) _ _ _ hP hD hS (lv_sub hl [4, 5, 3, 2, 1, 0] rfl)
          obtain ⟨g_49, eg_49⟩ : ∃ z, z = sf_tells1 x n_6 n_10 n_38 (rX4_place (g_2.2.2.2.1 22)) g_2 := ⟨_, rfl⟩
          rw [← eg_49] at hP hD
          have hP : va_P (dC, dI) vwCl [cM0 m0 m1 m2 m3 m4 m5 g_49, cM1 cI m1 g_49, cM2 cJ m2 g_49, cM3 cJ m3 g_49, cM4 cI m4 g_49, cM5 cI m5 g_49] H := hP
          have hD : va_D A [cM0 m0 m1 m2 m3 m4 m5 g_49, cM1 cI m1 g_49, cM2 cJ m2 g_49, cM3 cJ m3 g_49, cM4 cI m4 g_49, cM5 cI m5 g_49] := hD
          have hP : va_P (dC, dI) vwCl [cM0 m0 m1 m2 m3 m4 m5 g_49, cM1 cI m1 g_49, cM2 cJ m2 g_49, cM3 cJ m3 g_49, cM4 cI m4 g_49, cM5 cI m5 g_49] H := hP
          refine f_tells2 hx hb hml hown hts hA hK x n_6 n_10 n_38 g_49  (fun H locs ls hP hD hS hl => ?_) _ _ _ hP hD hS (lv_sub hl [0, 1, 2, 3, 4] rfl)
          obtain ⟨g_50, eg_50⟩ : ∃ z, z = sf_tells2 x n_6 n_10 n_38 g_49 := ⟨_, rfl⟩
          rw [← eg_50] at hP hD
          have hP : va_P (dC, dI) vwCl [cM0 m0 m1 m2 m3 m4 m5 g_50, cM1 cI m1 g_50, cM2 cJ m2 g_50, cM3 cJ m3 g_50, cM4 cI m4 g_50, cM5 cI m5 g_50] H := hP
          have hD : va_D A [cM0 m0 m1 m2 m3 m4 m5 g_50, cM1 cI m1 g_50, cM2 cJ m2 g_50, cM3 cJ m3 g_50, cM4 cI m4 g_50, cM5 cI m5 g_50] := hD
          refine lv_aload_n hx hb dX4_tells_295 rfl (lv_at hl 0 rfl) ?_
          refine lv_iconst (v := 3) hx hb dX4_tells_296 (by decide) ?_
          have hPc := hP.sub (ws' := [cM0 m0 m1 m2 m3 m4 m5 g_50, cM1 cI m1 g_50, cM2 cJ m2 g_50, cM3 cJ m3 g_50, cM4 cI m4 g_50, cM5 cI m5 g_50]) [0, 1, 2, 3, 4, 5] rfl
          have hDc := hD.sub (ws' := [cM0 m0 m1 m2 m3 m4 m5 g_50, cM1 cI m1 g_50, cM2 cJ m2 g_50, cM3 cJ m3 g_50, cM4 cI m4 g_50, cM5 cI m5 g_50]) [0, 1, 2, 3, 4, 5] (by decide) rfl
          have hFc := va_free (wc := [cM0 m0 m1 m2 m3 m4 m5 g_50, cM1 cI m1 g_50, cM2 cJ m2 g_50, cM3 cJ m3 g_50, cM4 cI m4 g_50, cM5 cI m5 g_50]) hD hS hA [0, 1, 2, 3, 4, 5] rfl
          refine va_callv (va_runV (As := [.int 3]) (rest := []) ⟨hx, hb, hml, hown, hts⟩ (kX4_clear l dC dI cI cJ m0 m1 m2 m3 m4 m5 H.size 3 g_50 (vd (by decide +kernel))) (cwV 1 hts gX4_tells_X4_clear rfl rfl rfl (by decide +kernel) ⟨Nat.le_of_ble_eq_true rfl, Nat.le_of_ble_eq_true rfl⟩) ⟨fun a U g mk q => by obtain ⟨q0, q1, qP, qK, qD⟩ := q; exact ⟨q0, q1, qP, va_K.moved (u := U) (U := U.calling g mk a) (Vm.Alike.refl U.vm) qK, qD⟩, va_recv hK hPc (ci := 4) (q0 := 0) rfl rfl, fun U hU hW => ⟨rfl, by rw [hU], by rw [hU]; exact hPc, va_K.moved hW.alike hK, hDc.weaken (fun _ _ _ _ => trivial)⟩⟩ rfl rfl hl.1 rfl (lv_room (Nat.le_of_ble_eq_true rfl)) dX4_tells_297 ⟨Nat.le_of_ble_eq_true rfl, Nat.le_of_ble_eq_true rfl⟩) hS (fun q _ h => hFc q h) hFc (fun _ t H1 locs ht hvm hw hB hz1 hk1 hS => ?_)
          obtain ⟨hP1, hK1, hD1⟩ := hB
          rw [ht] at hP1
          obtain ⟨g_52, eg_52⟩ : ∃ z, z = sX4_clear 3 g_50 := ⟨_, rfl⟩
          rw [← eg_52] at hP1 hD1
          obtain ⟨hP, hD⟩ := va_join (wr := []) (w1 := [cM0 m0 m1 m2 m3 m4 m5 g_52, cM1 cI m1 g_52, cM2 cJ m2 g_52, cM3 cJ m3 g_52, cM4 cI m4 g_52, cM5 cI m5 g_52]) hP hD [0, 1, 2, 3, 4, 5] [] rfl rfl (by decide) (by decide) hk1 hFc hP1 hD1
          generalize H1 = H at hP hS ⊢
          have hP : va_P (dC, dI) vwCl [cM0 m0 m1 m2 m3 m4 m5 g_52, cM1 cI m1 g_52, cM2 cJ m2 g_52, cM3 cJ m3 g_52, cM4 cI m4 g_52, cM5 cI m5 g_52] H := hP
          have hD : va_D A [cM0 m0 m1 m2 m3 m4 m5 g_52, cM1 cI m1 g_52, cM2 cJ m2 g_52, cM3 cJ m3 g_52, cM4 cI m4 g_52, cM5 cI m5 g_52] := hD
          refine lv_goto (tgt := 314) hx hb dX4_tells_300 (by decide) ?_
          refine lv_aload_n hx hb dX4_tells_314 rfl (lv_at hl 0 rfl) ?_
          refine va_get (D := (dC, dI)) (ci := 4) (v := .ref m2) (C := RX4) (T := TX4) (N := 17) hx hb hts hiX4 hown hK hP 0 rfl rfl 3 (by decide) (hts (.fieldLink RX4 13 "TripReckonerModel" "now" "[J") (by decide +kernel)) (fun _ h9 => h9) rfl dX4_tells_315 ?_
          refine lv_bipush (v := 27) hx hb dX4_tells_318 (by decide) ?_
          refine lv_iload hx hb dX4_tells_320 (lv_at hl 4 rfl) ?_
          refine lv_if_eq (tgt := 329) hx hb dX4_tells_322 (by decide) (fun c_53 => absurd c_53 c_41) (fun c_53 => ?_)
          refine lv_lconst (v := 1) hx hb dX4_tells_325 (by decide) ?_
          refine lv_goto (tgt := 330) hx hb dX4_tells_326 (by decide) ?_
          refine va_last hx hb hK hP hD hS 2 1 rfl rfl (vd (by decide +kernel)) dX4_tells_330 (fun H locs hP hD hS => ?_)
          have hP : va_P (dC, dI) vwCl [(m0, .inr (4, [.int g_52.1, .ref m1, .int g_52.2.2.1, .ref m2, .ref m3, .int g_52.2.2.2.2.2.1, .int g_52.2.2.2.2.2.2.1, .int g_52.2.2.2.2.2.2.2.1, .int g_52.2.2.2.2.2.2.2.2.1, .int g_52.2.2.2.2.2.2.2.2.2.1, .int g_52.2.2.2.2.2.2.2.2.2.2.1, .int g_52.2.2.2.2.2.2.2.2.2.2.2.1, .long g_52.2.2.2.2.2.2.2.2.2.2.2.2.1, .int g_52.2.2.2.2.2.2.2.2.2.2.2.2.2.1, .ref m4, .ref m5, .int g_52.2.2.2.2.2.2.2.2.2.2.2.2.2.2.2.2])), (m1, .inl (cI, 60, .inl g_52.2.1)), (m2, .inl (cJ, 92, .inr (.inl (vp_updL g_52.2.2.2.1 27 1)))), (m3, .inl (cJ, 92, .inr (.inl g_52.2.2.2.2.1))), (m4, .inl (cI, 1573, .inl g_52.2.2.2.2.2.2.2.2.2.2.2.2.2.2.1)), (m5, .inl (cI, 12, .inl g_52.2.2.2.2.2.2.2.2.2.2.2.2.2.2.2.1))] H := hP
          have hD : va_D A [(m0, .inr (4, [.int g_52.1, .ref m1, .int g_52.2.2.1, .ref m2, .ref m3, .int g_52.2.2.2.2.2.1, .int g_52.2.2.2.2.2.2.1, .int g_52.2.2.2.2.2.2.2.1, .int g_52.2.2.2.2.2.2.2.2.1, .int g_52.2.2.2.2.2.2.2.2.2.1, .int g_52.2.2.2.2.2.2.2.2.2.2.1, .int g_52.2.2.2.2.2.2.2.2.2.2.2.1, .long g_52.2.2.2.2.2.2.2.2.2.2.2.2.1, .int g_52.2.2.2.2.2.2.2.2.2.2.2.2.2.1, .ref m4, .ref m5, .int g_52.2.2.2.2.2.2.2.2.2.2.2.2.2.2.2.2])), (m1, .inl (cI, 60, .inl g_52.2.1)), (m2, .inl (cJ, 92, .inr (.inl (vp_updL g_52.2.2.2.1 27 1)))), (m3, .inl (cJ, 92, .inr (.inl g_52.2.2.2.2.1))), (m4, .inl (cI, 1573, .inl g_52.2.2.2.2.2.2.2.2.2.2.2.2.2.2.1)), (m5, .inl (cI, 12, .inl g_52.2.2.2.2.2.2.2.2.2.2.2.2.2.2.2.1))] := hD
          refine lv_aload_n hx hb dX4_tells_331 rfl (lv_at hl 0 rfl) ?_
          refine va_get (D := (dC, dI)) (ci := 4) (v := .ref m2) (C := RX4) (T := TX4) (N := 17) hx hb hts hiX4 hown hK hP 0 rfl rfl 3 (by decide) (hts (.fieldLink RX4 13 "TripReckonerModel" "now" "[J") (by decide +kernel)) (fun _ h9 => h9) rfl dX4_tells_332 ?_
          refine lv_iconst (v := 0) hx hb dX4_tells_335 (by decide) ?_
          refine lv_lload_n hx hb dX4_tells_336 rfl (lv_at hl 2 rfl) ?_
          refine va_last hx hb hK hP hD hS 2 1 rfl rfl (vd (by decide +kernel)) dX4_tells_337 (fun H locs hP hD hS => ?_)
          have hP : va_P (dC, dI) vwCl [(m0, .inr (4, [.int g_52.1, .ref m1, .int g_52.2.2.1, .ref m2, .ref m3, .int g_52.2.2.2.2.2.1, .int g_52.2.2.2.2.2.2.1, .int g_52.2.2.2.2.2.2.2.1, .int g_52.2.2.2.2.2.2.2.2.1, .int g_52.2.2.2.2.2.2.2.2.2.1, .int g_52.2.2.2.2.2.2.2.2.2.2.1, .int g_52.2.2.2.2.2.2.2.2.2.2.2.1, .long g_52.2.2.2.2.2.2.2.2.2.2.2.2.1, .int g_52.2.2.2.2.2.2.2.2.2.2.2.2.2.1, .ref m4, .ref m5, .int g_52.2.2.2.2.2.2.2.2.2.2.2.2.2.2.2.2])), (m1, .inl (cI, 60, .inl g_52.2.1)), (m2, .inl (cJ, 92, .inr (.inl (vp_updL (vp_updL g_52.2.2.2.1 27 1) 0 n_6)))), (m3, .inl (cJ, 92, .inr (.inl g_52.2.2.2.2.1))), (m4, .inl (cI, 1573, .inl g_52.2.2.2.2.2.2.2.2.2.2.2.2.2.2.1)), (m5, .inl (cI, 12, .inl g_52.2.2.2.2.2.2.2.2.2.2.2.2.2.2.2.1))] H := hP
          have hD : va_D A [(m0, .inr (4, [.int g_52.1, .ref m1, .int g_52.2.2.1, .ref m2, .ref m3, .int g_52.2.2.2.2.2.1, .int g_52.2.2.2.2.2.2.1, .int g_52.2.2.2.2.2.2.2.1, .int g_52.2.2.2.2.2.2.2.2.1, .int g_52.2.2.2.2.2.2.2.2.2.1, .int g_52.2.2.2.2.2.2.2.2.2.2.1, .int g_52.2.2.2.2.2.2.2.2.2.2.2.1, .long g_52.2.2.2.2.2.2.2.2.2.2.2.2.1, .int g_52.2.2.2.2.2.2.2.2.2.2.2.2.2.1, .ref m4, .ref m5, .int g_52.2.2.2.2.2.2.2.2.2.2.2.2.2.2.2.2])), (m1, .inl (cI, 60, .inl g_52.2.1)), (m2, .inl (cJ, 92, .inr (.inl (vp_updL (vp_updL g_52.2.2.2.1 27 1) 0 n_6)))), (m3, .inl (cJ, 92, .inr (.inl g_52.2.2.2.2.1))), (m4, .inl (cI, 1573, .inl g_52.2.2.2.2.2.2.2.2.2.2.2.2.2.2.1)), (m5, .inl (cI, 12, .inl g_52.2.2.2.2.2.2.2.2.2.2.2.2.2.2.2.1))] := hD
          refine lv_aload_n hx hb dX4_tells_338 rfl (lv_at hl 0 rfl) ?_
          refine va_get (D := (dC, dI)) (ci := 4) (v := .ref m2) (C := RX4) (T := TX4) (N := 17) hx hb hts hiX4 hown hK hP 0 rfl rfl 3 (by decide) (hts (.fieldLink RX4 13 "TripReckonerModel" "now" "[J") (by decide +kernel)) (fun _ h9 => h9) rfl dX4_tells_339 ?_
          refine lv_iconst (v := 1) hx hb dX4_tells_342 (by decide) ?_
          refine lv_lload hx hb dX4_tells_343 (lv_at hl 3 rfl) ?_
          refine va_last hx hb hK hP hD hS 2 1 rfl rfl (vd (by decide +kernel)) dX4_tells_345 (fun H locs hP hD hS => ?_)
          have hP : va_P (dC, dI) vwCl [(m0, .inr (4, [.int g_52.1, .ref m1, .int g_52.2.2.1, .ref m2, .ref m3, .int g_52.2.2.2.2.2.1, .int g_52.2.2.2.2.2.2.1, .int g_52.2.2.2.2.2.2.2.1, .int g_52.2.2.2.2.2.2.2.2.1, .int g_52.2.2.2.2.2.2.2.2.2.1, .int g_52.2.2.2.2.2.2.2.2.2.2.1, .int g_52.2.2.2.2.2.2.2.2.2.2.2.1, .long g_52.2.2.2.2.2.2.2.2.2.2.2.2.1, .int g_52.2.2.2.2.2.2.2.2.2.2.2.2.2.1, .ref m4, .ref m5, .int g_52.2.2.2.2.2.2.2.2.2.2.2.2.2.2.2.2])), (m1, .inl (cI, 60, .inl g_52.2.1)), (m2, .inl (cJ, 92, .inr (.inl (vp_updL (vp_updL (vp_updL g_52.2.2.2.1 27 1) 0 n_6) 1 n_10)))), (m3, .inl (cJ, 92, .inr (.inl g_52.2.2.2.2.1))), (m4, .inl (cI, 1573, .inl g_52.2.2.2.2.2.2.2.2.2.2.2.2.2.2.1)), (m5, .inl (cI, 12, .inl g_52.2.2.2.2.2.2.2.2.2.2.2.2.2.2.2.1))] H := hP
          have hD : va_D A [(m0, .inr (4, [.int g_52.1, .ref m1, .int g_52.2.2.1, .ref m2, .ref m3, .int g_52.2.2.2.2.2.1, .int g_52.2.2.2.2.2.2.1, .int g_52.2.2.2.2.2.2.2.1, .int g_52.2.2.2.2.2.2.2.2.1, .int g_52.2.2.2.2.2.2.2.2.2.1, .int g_52.2.2.2.2.2.2.2.2.2.2.1, .int g_52.2.2.2.2.2.2.2.2.2.2.2.1, .long g_52.2.2.2.2.2.2.2.2.2.2.2.2.1, .int g_52.2.2.2.2.2.2.2.2.2.2.2.2.2.1, .ref m4, .ref m5, .int g_52.2.2.2.2.2.2.2.2.2.2.2.2.2.2.2.2])), (m1, .inl (cI, 60, .inl g_52.2.1)), (m2, .inl (cJ, 92, .inr (.inl (vp_updL (vp_updL (vp_updL g_52.2.2.2.1 27 1) 0 n_6) 1 n_10)))), (m3, .inl (cJ, 92, .inr (.inl g_52.2.2.2.2.1))), (m4, .inl (cI, 1573, .inl g_52.2.2.2.2.2.2.2.2.2.2.2.2.2.2.1)), (m5, .inl (cI, 12, .inl g_52.2.2.2.2.2.2.2.2.2.2.2.2.2.2.2.1))] := hD
          refine lv_aload_n hx hb dX4_tells_346 rfl (lv_at hl 0 rfl) ?_
          have hPc := hP.sub (ws' := [(m0, .inr (4, [.int g_52.1, .ref m1, .int g_52.2.2.1, .ref m2, .ref m3, .int g_52.2.2.2.2.2.1, .int g_52.2.2.2.2.2.2.1, .int g_52.2.2.2.2.2.2.2.1, .int g_52.2.2.2.2.2.2.2.2.1, .int g_52.2.2.2.2.2.2.2.2.2.1, .int g_52.2.2.2.2.2.2.2.2.2.2.1, .int g_52.2.2.2.2.2.2.2.2.2.2.2.1, .long g_52.2.2.2.2.2.2.2.2.2.2.2.2.1, .int g_52.2.2.2.2.2.2.2.2.2.2.2.2.2.1, .ref m4, .ref m5, .int g_52.2.2.2.2.2.2.2.2.2.2.2.2.2.2.2.2])), (m1, .inl (cI, 60, .inl g_52.2.1)), (m2, .inl (cJ, 92, .inr (.inl (vp_updL (vp_updL (vp_updL g_52.2.2.2.1 27 1) 0 n_6) 1 n_10)))), (m3, .inl (cJ, 92, .inr (.inl g_52.2.2.2.2.1))), (m4, .inl (cI, 1573, .inl g_52.2.2.2.2.2.2.2.2.2.2.2.2.2.2.1)), (m5, .inl (cI, 12, .inl g_52.2.2.2.2.2.2.2.2.2.2.2.2.2.2.2.1))]) [0, 1, 2, 3, 4, 5] rfl
          have hDc := hD.sub (ws' := [(m0, .inr (4, [.int g_52.1, .ref m1, .int g_52.2.2.1, .ref m2, .ref m3, .int g_52.2.2.2.2.2.1, .int g_52.2.2.2.2.2.2.1, .int g_52.2.2.2.2.2.2.2.1, .int g_52.2.2.2.2.2.2.2.2.1, .int g_52.2.2.2.2.2.2.2.2.2.1, .int g_52.2.2.2.2.2.2.2.2.2.2.1, .int g_52.2.2.2.2.2.2.2.2.2.2.2.1, .long g_52.2.2.2.2.2.2.2.2.2.2.2.2.1, .int g_52.2.2.2.2.2.2.2.2.2.2.2.2.2.1, .ref m4, .ref m5, .int g_52.2.2.2.2.2.2.2.2.2.2.2.2.2.2.2.2])), (m1, .inl (cI, 60, .inl g_52.2.1)), (m2, .inl (cJ, 92, .inr (.inl (vp_updL (vp_updL (vp_updL g_52.2.2.2.1 27 1) 0 n_6) 1 n_10)))), (m3, .inl (cJ, 92, .inr (.inl g_52.2.2.2.2.1))), (m4, .inl (cI, 1573, .inl g_52.2.2.2.2.2.2.2.2.2.2.2.2.2.2.1)), (m5, .inl (cI, 12, .inl g_52.2.2.2.2.2.2.2.2.2.2.2.2.2.2.2.1))]) [0, 1, 2, 3, 4, 5] (by decide) rfl
          have hFc := va_free (wc := [(m0, .inr (4, [.int g_52.1, .ref m1, .int g_52.2.2.1, .ref m2, .ref m3, .int g_52.2.2.2.2.2.1, .int g_52.2.2.2.2.2.2.1, .int g_52.2.2.2.2.2.2.2.1, .int g_52.2.2.2.2.2.2.2.2.1, .int g_52.2.2.2.2.2.2.2.2.2.1, .int g_52.2.2.2.2.2.2.2.2.2.2.1, .int g_52.2.2.2.2.2.2.2.2.2.2.2.1, .long g_52.2.2.2.2.2.2.2.2.2.2.2.2.1, .int g_52.2.2.2.2.2.2.2.2.2.2.2.2.2.1, .ref m4, .ref m5, .int g_52.2.2.2.2.2.2.2.2.2.2.2.2.2.2.2.2])), (m1, .inl (cI, 60, .inl g_52.2.1)), (m2, .inl (cJ, 92, .inr (.inl (vp_updL (vp_updL (vp_updL g_52.2.2.2.1 27 1) 0 n_6) 1 n_10)))), (m3, .inl (cJ, 92, .inr (.inl g_52.2.2.2.2.1))), (m4, .inl (cI, 1573, .inl g_52.2.2.2.2.2.2.2.2.2.2.2.2.2.2.1)), (m5, .inl (cI, 12, .inl g_52.2.2.2.2.2.2.2.2.2.2.2.2.2.2.2.1))]) hD hS hA [0, 1, 2, 3, 4, 5] rfl
          refine va_callv (va_runV (As := []) (rest := []) ⟨hx, hb, hml, hown, hts⟩ (kX4_jump l dC dI cI cJ m0 m1 m2 m3 m4 m5 H.size (g_52.1, g_52.2.1, g_52.2.2.1, vp_updL (vp_updL (vp_updL g_52.2.2.2.1 27 1) 0 n_6) 1 n_10, g_52.2.2.2.2.1, g_52.2.2.2.2.2.1, g_52.2.2.2.2.2.2.1, g_52.2.2.2.2.2.2.2.1, g_52.2.2.2.2.2.2.2.2.1, g_52.2.2.2.2.2.2.2.2.2.1, g_52.2.2.2.2.2.2.2.2.2.2.1, g_52.2.2.2.2.2.2.2.2.2.2.2.1, g_52.2.2.2.2.2.2.2.2.2.2.2.2.1, g_52.2.2.2.2.2.2.2.2.2.2.2.2.2.1, g_52.2.2.2.2.2.2.2.2.2.2.2.2.2.2.1, g_52.2.2.2.2.2.2.2.2.2.2.2.2.2.2.2.1, g_52.2.2.2.2.2.2.2.2.2.2.2.2.2.2.2.2)) (cwV 0 hts gX4_tells_X4_jump rfl rfl rfl (by decide +kernel) ⟨Nat.le_of_ble_eq_true rfl, Nat.le_of_ble_eq_true rfl⟩) ⟨fun a U g mk q => by obtain ⟨q0, q1, qP, qK, qD⟩ := q; exact ⟨q0, q1, qP, va_K.moved (u := U) (U := U.calling g mk a) (Vm.Alike.refl U.vm) qK, qD⟩, va_recv hK hPc (ci := 4) (q0 := 0) rfl rfl, fun U hU hW => ⟨rfl, by rw [hU], by rw [hU]; exact hPc, va_K.moved hW.alike hK, hDc.weaken (fun _ _ _ _ => trivial)⟩⟩ rfl rfl hl.1 rfl (lv_room (Nat.le_of_ble_eq_true rfl)) dX4_tells_347 ⟨Nat.le_of_ble_eq_true rfl, Nat.le_of_ble_eq_true rfl⟩) hS (fun q _ h => hFc q h) hFc (fun _ t H1 locs ht hvm hw hB hz1 hk1 hS => ?_)
          obtain ⟨hP1, hK1, hD1⟩ := hB
          rw [ht] at hP1
          obtain ⟨g_55, eg_55⟩ : ∃ z, z = sX4_jump (g_52.1, g_52.2.1, g_52.2.2.1, vp_updL (vp_updL (vp_updL g_52.2.2.2.1 27 1) 0 n_6) 1 n_10, g_52.2.2.2.2.1, g_52.2.2.2.2.2.1, g_52.2.2.2.2.2.2.1, g_52.2.2.2.2.2.2.2.1, g_52.2.2.2.2.2.2.2.2.1, g_52.2.2.2.2.2.2.2.2.2.1, g_52.2.2.2.2.2.2.2.2.2.2.1, g_52.2.2.2.2.2.2.2.2.2.2.2.1, g_52.2.2.2.2.2.2.2.2.2.2.2.2.1, g_52.2.2.2.2.2.2.2.2.2.2.2.2.2.1, g_52.2.2.2.2.2.2.2.2.2.2.2.2.2.2.1, g_52.2.2.2.2.2.2.2.2.2.2.2.2.2.2.2.1, g_52.2.2.2.2.2.2.2.2.2.2.2.2.2.2.2.2) := ⟨_, rfl⟩
          rw [← eg_55] at hP1 hD1
          obtain ⟨hP, hD⟩ := va_join (wr := []) (w1 := [cM0 m0 m1 m2 m3 m4 m5 g_55, cM1 cI m1 g_55, cM2 cJ m2 g_55, cM3 cJ m3 g_55, cM4 cI m4 g_55, cM5 cI m5 g_55]) hP hD [0, 1, 2, 3, 4, 5] [] rfl rfl (by decide) (by decide) hk1 hFc hP1 hD1
          generalize H1 = H at hP hS ⊢
          have hP : va_P (dC, dI) vwCl [cM0 m0 m1 m2 m3 m4 m5 g_55, cM1 cI m1 g_55, cM2 cJ m2 g_55, cM3 cJ m3 g_55, cM4 cI m4 g_55, cM5 cI m5 g_55] H := hP
          have hD : va_D A [cM0 m0 m1 m2 m3 m4 m5 g_55, cM1 cI m1 g_55, cM2 cJ m2 g_55, cM3 cJ m3 g_55, cM4 cI m4 g_55, cM5 cI m5 g_55] := hD
          refine lv_iload hx hb dX4_tells_350 (lv_at hl 4 rfl) ?_
          refine lv_if_eq (tgt := 359) hx hb dX4_tells_352 (by decide) (fun c_56 => absurd c_56 c_41) (fun c_56 => ?_)
          refine lv_iconst (v := 1) hx hb dX4_tells_355 (by decide) ?_
          refine lv_goto (tgt := 360) hx hb dX4_tells_356 (by decide) ?_
          have es0 : sX4_tells x v = g_55 := by rw [sX4_tells, ← eg_2, sX4_tells_g_2, if_neg c_4, ← en_6, sX4_tells_n_6, ← en_10, sX4_tells_n_10, if_neg c_12, if_pos c_35, ← en_38, sX4_tells_n_38, if_neg c_41, ← eg_49, sX4_tells_g_49, ← eg_50, sX4_tells_g_50, ← eg_52, sX4_tells_g_52, ← eg_55, sX4_tells_g_55]
          have er : 1 = rX4_tells x v := by rw [rX4_tells, ← eg_2, rX4_tells_g_2, if_neg c_4, ← en_6, rX4_tells_n_6, ← en_10, rX4_tells_n_10, if_neg c_12, if_pos c_35, ← en_38, rX4_tells_n_38, if_neg c_41, ← eg_49, rX4_tells_g_49, ← eg_50, rX4_tells_g_50, ← eg_52, rX4_tells_g_52, ← eg_55, rX4_tells_g_55]
          refine W.iret (v := 1) hx hb hr (fun t ht hW => ⟨⟨1, (), rfl, er, ?_⟩, hS.F ht⟩) hS.2.2 dX4_tells_360
          rw [es0]; exact ⟨by rw [ht]; exact hP, va_K.moved hW.alike hK, hD⟩
      · refine lv_lload_n hx hb dX4_tells_114 rfl (lv_at hl 1 rfl) ?_
        refine lv_aload_n hx hb dX4_tells_115 rfl (lv_at hl 2 rfl) ?_
        refine va_get (D := (dC, dI)) (ci := 4) (v := .ref m2) (C := RX4) (T := TX4) (N := 17) hx hb hts hiX4 hown hK hP 0 rfl rfl 3 (by decide) (hts (.fieldLink RX4 13 "TripReckonerModel" "now" "[J") (by decide +kernel)) (fun _ h9 => h9) rfl dX4_tells_116 ?_
        refine lv_iconst (v := 0) hx hb dX4_tells_119 (by decide) ?_
        refine va_lald hx hb hK hP 2 1 rfl rfl (vd (by decide +kernel)) dX4_tells_120 ?_
        refine lv_topl (fun z_57 ez_57 => ?_)
        have ez_57 : z_57 = g_2.2.2.2.1 0 := ez_57
        subst ez_57
        refine W.lcmp hx hb dX4_tells_121 ?_
        obtain ⟨n_59, en_59⟩ : ∃ z : (Nat → Int64), z = (if (lg_cmp n_6 (g_2.2.2.2.1 0)) ≤ 0 then g_2.2.2.2.1 else vp_updL g_2.2.2.2.1 0 n_6) := ⟨_, rfl⟩
        refine w_cut (fun WW => ∀ (H : Heap) (locs : List Loc) (ls : Array Slot), va_P (dC, dI) vwCl [(m0, .inr (4, [.int g_2.1, .ref m1, .int g_2.2.2.1, .ref m2, .ref m3, .int g_2.2.2.2.2.2.1, .int g_2.2.2.2.2.2.2.1, .int g_2.2.2.2.2.2.2.2.1, .int g_2.2.2.2.2.2.2.2.2.1, .int g_2.2.2.2.2.2.2.2.2.2.1, .int g_2.2.2.2.2.2.2.2.2.2.2.1, .int g_2.2.2.2.2.2.2.2.2.2.2.2.1, .long g_2.2.2.2.2.2.2.2.2.2.2.2.2.1, .int g_2.2.2.2.2.2.2.2.2.2.2.2.2.2.1, .ref m4, .ref m5, .int g_2.2.2.2.2.2.2.2.2.2.2.2.2.2.2.2.2])), (m1, .inl (cI, 60, .inl g_2.2.1)), (m2, .inl (cJ, 92, .inr (.inl n_59))), (m3, .inl (cJ, 92, .inr (.inl g_2.2.2.2.2.1))), (m4, .inl (cI, 1573, .inl g_2.2.2.2.2.2.2.2.2.2.2.2.2.2.2.1)), (m5, .inl (cI, 12, .inl g_2.2.2.2.2.2.2.2.2.2.2.2.2.2.2.2.1))] H → va_D A [(m0, .inr (4, [.int g_2.1, .ref m1, .int g_2.2.2.1, .ref m2, .ref m3, .int g_2.2.2.2.2.2.1, .int g_2.2.2.2.2.2.2.1, .int g_2.2.2.2.2.2.2.2.1, .int g_2.2.2.2.2.2.2.2.2.1, .int g_2.2.2.2.2.2.2.2.2.2.1, .int g_2.2.2.2.2.2.2.2.2.2.2.1, .int g_2.2.2.2.2.2.2.2.2.2.2.2.1, .long g_2.2.2.2.2.2.2.2.2.2.2.2.2.1, .int g_2.2.2.2.2.2.2.2.2.2.2.2.2.2.1, .ref m4, .ref m5, .int g_2.2.2.2.2.2.2.2.2.2.2.2.2.2.2.2.2])), (m1, .inl (cI, 60, .inl g_2.2.1)), (m2, .inl (cJ, 92, .inr (.inl n_59))), (m3, .inl (cJ, 92, .inr (.inl g_2.2.2.2.2.1))), (m4, .inl (cI, 1573, .inl g_2.2.2.2.2.2.2.2.2.2.2.2.2.2.2.1)), (m5, .inl (cI, 12, .inl g_2.2.2.2.2.2.2.2.2.2.2.2.2.2.2.2.1))] → va_S A s.heap H locs → lv_has ls 8 [(4, .long n_10), (2, .long n_6), (0, .ref m0), (1, .int x)] → WW H locs (F0 m 132 ls [])) (fun K => ?_) (fun H locs ls hP hD hS hl => ?_)
        · refine lv_if_le (tgt := 132) hx hb dX4_tells_122 (by decide) (fun c_58 => ?_) (fun c_58 => ?_)
          · exact K _ _ _ (by simp only [en_59, if_pos c_58]; exact hP) (by simp only [en_59, if_pos c_58]; exact hD) hS (lv_sub hl [0, 1, 2, 3] rfl)
          · refine lv_aload_n hx hb dX4_tells_125 rfl (lv_at hl 2 rfl) ?_
            refine va_get (D := (dC, dI)) (ci := 4) (v := .ref m2) (C := RX4) (T := TX4) (N := 17) hx hb hts hiX4 hown hK hP 0 rfl rfl 3 (by decide) (hts (.fieldLink RX4 13 "TripReckonerModel" "now" "[J") (by decide +kernel)) (fun _ h9 => h9) rfl dX4_tells_126 ?_
            refine lv_iconst (v := 0) hx hb dX4_tells_129 (by decide) ?_
            refine lv_lload_n hx hb dX4_tells_130 rfl (lv_at hl 1 rfl) ?_
            refine va_last hx hb hK hP hD hS 2 1 rfl rfl (vd (by decide +kernel)) dX4_tells_131 (fun H locs hP hD hS => ?_)
            have hP : va_P (dC, dI) vwCl [(m0, .inr (4, [.int g_2.1, .ref m1, .int g_2.2.2.1, .ref m2, .ref m3, .int g_2.2.2.2.2.2.1, .int g_2.2.2.2.2.2.2.1, .int g_2.2.2.2.2.2.2.2.1, .int g_2.2.2.2.2.2.2.2.2.1, .int g_2.2.2.2.2.2.2.2.2.2.1, .int g_2.2.2.2.2.2.2.2.2.2.2.1, .int g_2.2.2.2.2.2.2.2.2.2.2.2.1, .long g_2.2.2.2.2.2.2.2.2.2.2.2.2.1, .int g_2.2.2.2.2.2.2.2.2.2.2.2.2.2.1, .ref m4, .ref m5, .int g_2.2.2.2.2.2.2.2.2.2.2.2.2.2.2.2.2])), (m1, .inl (cI, 60, .inl g_2.2.1)), (m2, .inl (cJ, 92, .inr (.inl (vp_updL g_2.2.2.2.1 0 n_6)))), (m3, .inl (cJ, 92, .inr (.inl g_2.2.2.2.2.1))), (m4, .inl (cI, 1573, .inl g_2.2.2.2.2.2.2.2.2.2.2.2.2.2.2.1)), (m5, .inl (cI, 12, .inl g_2.2.2.2.2.2.2.2.2.2.2.2.2.2.2.2.1))] H := hP
            have hD : va_D A [(m0, .inr (4, [.int g_2.1, .ref m1, .int g_2.2.2.1, .ref m2, .ref m3, .int g_2.2.2.2.2.2.1, .int g_2.2.2.2.2.2.2.1, .int g_2.2.2.2.2.2.2.2.1, .int g_2.2.2.2.2.2.2.2.2.1, .int g_2.2.2.2.2.2.2.2.2.2.1, .int g_2.2.2.2.2.2.2.2.2.2.2.1, .int g_2.2.2.2.2.2.2.2.2.2.2.2.1, .long g_2.2.2.2.2.2.2.2.2.2.2.2.2.1, .int g_2.2.2.2.2.2.2.2.2.2.2.2.2.2.1, .ref m4, .ref m5, .int g_2.2.2.2.2.2.2.2.2.2.2.2.2.2.2.2.2])), (m1, .inl (cI, 60, .inl g_2.2.1)), (m2, .inl (cJ, 92, .inr (.inl (vp_updL g_2.2.2.2.1 0 n_6)))), (m3, .inl (cJ, 92, .inr (.inl g_2.2.2.2.2.1))), (m4, .inl (cI, 1573, .inl g_2.2.2.2.2.2.2.2.2.2.2.2.2.2.2.1)), (m5, .inl (cI, 12, .inl g_2.2.2.2.2.2.2.2.2.2.2.2.2.2.2.2.1))] := hD
            exact K _ _ _ (by simp only [en_59, if_neg c_58]; exact hP) (by simp only [en_59, if_neg c_58]; exact hD) hS (lv_sub hl [0, 1, 2, 3] rfl)
        refine lv_lload hx hb dX4_tells_132 (lv_at hl 0 rfl) ?_
        refine lv_aload_n hx hb dX4_tells_134 rfl (lv_at hl 2 rfl) ?_
        refine va_get (D := (dC, dI)) (ci := 4) (v := .ref m2) (C := RX4) (T := TX4) (N := 17) hx hb hts hiX4 hown hK hP 0 rfl rfl 3 (by decide) (hts (.fieldLink RX4 13 "TripReckonerModel" "now" "[J") (by decide +kernel)) (fun _ h9 => h9) rfl dX4_tells_135 ?_
        refine lv_iconst (v := 1) hx hb dX4_tells_138 (by decide) ?_
        refine va_lald hx hb hK hP 2 1 rfl rfl (vd (by decide +kernel)) dX4_tells_139 ?_
        refine lv_topl (fun z_60 ez_60 => ?_)
        have ez_60 : z_60 = n_59 1 := ez_60
        subst ez_60
        refine W.lcmp hx hb dX4_tells_140 ?_
        obtain ⟨n_62, en_62⟩ : ∃ z : (Nat → Int64), z = (if 0 ≤ (lg_cmp n_10 (n_59 1)) then n_59 else vp_updL n_59 1 n_10) := ⟨_, rfl⟩
        refine w_cut (fun WW => ∀ (H : Heap) (locs : List Loc) (ls : Array Slot), va_P (dC, dI) vwCl [(m0, .inr (4, [.int g_2.1, .ref m1, .int g_2.2.2.1, .ref m2, .ref m3, .int g_2.2.2.2.2.2.1, .int g_2.2.2.2.2.2.2.1, .int g_2.2.2.2.2.2.2.2.1, .int g_2.2.2.2.2.2.2.2.2.1, .int g_2.2.2.2.2.2.2.2.2.2.1, .int g_2.2.2.2.2.2.2.2.2.2.2.1, .int g_2.2.2.2.2.2.2.2.2.2.2.2.1, .long g_2.2.2.2.2.2.2.2.2.2.2.2.2.1, .int g_2.2.2.2.2.2.2.2.2.2.2.2.2.2.1, .ref m4, .ref m5, .int g_2.2.2.2.2.2.2.2.2.2.2.2.2.2.2.2.2])), (m1, .inl (cI, 60, .inl g_2.2.1)), (m2, .inl (cJ, 92, .inr (.inl n_62))), (m3, .inl (cJ, 92, .inr (.inl g_2.2.2.2.2.1))), (m4, .inl (cI, 1573, .inl g_2.2.2.2.2.2.2.2.2.2.2.2.2.2.2.1)), (m5, .inl (cI, 12, .inl g_2.2.2.2.2.2.2.2.2.2.2.2.2.2.2.2.1))] H → va_D A [(m0, .inr (4, [.int g_2.1, .ref m1, .int g_2.2.2.1, .ref m2, .ref m3, .int g_2.2.2.2.2.2.1, .int g_2.2.2.2.2.2.2.1, .int g_2.2.2.2.2.2.2.2.1, .int g_2.2.2.2.2.2.2.2.2.1, .int g_2.2.2.2.2.2.2.2.2.2.1, .int g_2.2.2.2.2.2.2.2.2.2.2.1, .int g_2.2.2.2.2.2.2.2.2.2.2.2.1, .long g_2.2.2.2.2.2.2.2.2.2.2.2.2.1, .int g_2.2.2.2.2.2.2.2.2.2.2.2.2.2.1, .ref m4, .ref m5, .int g_2.2.2.2.2.2.2.2.2.2.2.2.2.2.2.2.2])), (m1, .inl (cI, 60, .inl g_2.2.1)), (m2, .inl (cJ, 92, .inr (.inl n_62))), (m3, .inl (cJ, 92, .inr (.inl g_2.2.2.2.2.1))), (m4, .inl (cI, 1573, .inl g_2.2.2.2.2.2.2.2.2.2.2.2.2.2.2.1)), (m5, .inl (cI, 12, .inl g_2.2.2.2.2.2.2.2.2.2.2.2.2.2.2.2.1))] → va_S A s.heap H locs → lv_has ls 8 [(4, .long n_10), (2, .long n_6), (0, .ref m0), (1, .int x)] → WW H locs (F0 m 152 ls [])) (fun K => ?_) (fun H locs ls hP hD hS hl => ?_)
        · refine lv_if_ge (tgt := 152) hx hb dX4_tells_141 (by decide) (fun c_61 => ?_) (fun c_61 => ?_)
          · exact K _ _ _ (by simp only [en_62, if_pos c_61]; exact hP) (by simp only [en_62, if_pos c_61]; exact hD) hS (lv_sub hl [0, 1, 2, 3] rfl)
          · refine lv_aload_n hx hb dX4_tells_144 rfl (lv_at hl 2 rfl) ?_
            refine va_get (D := (dC, dI)) (ci := 4) (v := .ref m2) (C := RX4) (T := TX4) (N := 17) hx hb hts hiX4 hown hK hP 0 rfl rfl 3 (by decide) (hts (.fieldLink RX4 13 "TripReckonerModel" "now" "[J") (by decide +kernel)) (fun _ h9 => h9) rfl dX4_tells_145 ?_
            refine lv_iconst (v := 1) hx hb dX4_tells_148 (by decide) ?_
            refine lv_lload hx hb dX4_tells_149 (lv_at hl 0 rfl) ?_
            refine va_last hx hb hK hP hD hS 2 1 rfl rfl (vd (by decide +kernel)) dX4_tells_151 (fun H locs hP hD hS => ?_)
            have hP : va_P (dC, dI) vwCl [(m0, .inr (4, [.int g_2.1, .ref m1, .int g_2.2.2.1, .ref m2, .ref m3, .int g_2.2.2.2.2.2.1, .int g_2.2.2.2.2.2.2.1, .int g_2.2.2.2.2.2.2.2.1, .int g_2.2.2.2.2.2.2.2.2.1, .int g_2.2.2.2.2.2.2.2.2.2.1, .int g_2.2.2.2.2.2.2.2.2.2.2.1, .int g_2.2.2.2.2.2.2.2.2.2.2.2.1, .long g_2.2.2.2.2.2.2.2.2.2.2.2.2.1, .int g_2.2.2.2.2.2.2.2.2.2.2.2.2.2.1, .ref m4, .ref m5, .int g_2.2.2.2.2.2.2.2.2.2.2.2.2.2.2.2.2])), (m1, .inl (cI, 60, .inl g_2.2.1)), (m2, .inl (cJ, 92, .inr (.inl (vp_updL n_59 1 n_10)))), (m3, .inl (cJ, 92, .inr (.inl g_2.2.2.2.2.1))), (m4, .inl (cI, 1573, .inl g_2.2.2.2.2.2.2.2.2.2.2.2.2.2.2.1)), (m5, .inl (cI, 12, .inl g_2.2.2.2.2.2.2.2.2.2.2.2.2.2.2.2.1))] H := hP
            have hD : va_D A [(m0, .inr (4, [.int g_2.1, .ref m1, .int g_2.2.2.1, .ref m2, .ref m3, .int g_2.2.2.2.2.2.1, .int g_2.2.2.2.2.2.2.1, .int g_2.2.2.2.2.2.2.2.1, .int g_2.2.2.2.2.2.2.2.2.1, .int g_2.2.2.2.2.2.2.2.2.2.1, .int g_2.2.2.2.2.2.2.2.2.2.2.1, .int g_2.2.2.2.2.2.2.2.2.2.2.2.1, .long g_2.2.2.2.2.2.2.2.2.2.2.2.2.1, .int g_2.2.2.2.2.2.2.2.2.2.2.2.2.2.1, .ref m4, .ref m5, .int g_2.2.2.2.2.2.2.2.2.2.2.2.2.2.2.2.2])), (m1, .inl (cI, 60, .inl g_2.2.1)), (m2, .inl (cJ, 92, .inr (.inl (vp_updL n_59 1 n_10)))), (m3, .inl (cJ, 92, .inr (.inl g_2.2.2.2.2.1))), (m4, .inl (cI, 1573, .inl g_2.2.2.2.2.2.2.2.2.2.2.2.2.2.2.1)), (m5, .inl (cI, 12, .inl g_2.2.2.2.2.2.2.2.2.2.2.2.2.2.2.2.1))] := hD
            exact K _ _ _ (by simp only [en_62, if_neg c_61]; exact hP) (by simp only [en_62, if_neg c_61]; exact hD) hS (lv_sub hl [0, 1, 2, 3] rfl)
        refine lv_aload_n hx hb dX4_tells_152 rfl (lv_at hl 2 rfl) ?_
        refine va_get (D := (dC, dI)) (ci := 4) (v := .ref m2) (C := RX4) (T := TX4) (N := 17) hx hb hts hiX4 hown hK hP 0 rfl rfl 3 (by decide) (hts (.fieldLink RX4 13 "TripReckonerModel" "now" "[J") (by decide +kernel)) (fun _ h9 => h9) rfl dX4_tells_153 ?_
        refine lv_bipush (v := 27) hx hb dX4_tells_156 (by decide) ?_
        refine va_lald hx hb hK hP 2 1 rfl rfl (vd (by decide +kernel)) dX4_tells_158 ?_
        refine lv_topl (fun z_63 ez_63 => ?_)
        have ez_63 : z_63 = n_62 27 := ez_63
        subst ez_63
        refine lv_lconst (v := 1) hx hb dX4_tells_159 (by decide) ?_
        refine W.lcmp hx hb dX4_tells_160 ?_
        obtain ⟨n_65, en_65⟩ : ∃ z : MS, z = (if (lg_cmp (n_62 27) 1) = 0 then (sX4_settle (g_2.1, g_2.2.1, g_2.2.2.1, n_62, g_2.2.2.2.2.1, g_2.2.2.2.2.2.1, g_2.2.2.2.2.2.2.1, g_2.2.2.2.2.2.2.2.1, g_2.2.2.2.2.2.2.2.2.1, g_2.2.2.2.2.2.2.2.2.2.1, g_2.2.2.2.2.2.2.2.2.2.2.1, g_2.2.2.2.2.2.2.2.2.2.2.2.1, g_2.2.2.2.2.2.2.2.2.2.2.2.2.1, g_2.2.2.2.2.2.2.2.2.2.2.2.2.2.1, g_2.2.2.2.2.2.2.2.2.2.2.2.2.2.2.1, g_2.2.2.2.2.2.2.2.2.2.2.2.2.2.2.2.1, g_2.2.2.2.2.2.2.2.2.2.2.2.2.2.2.2.2)) else (g_2.1, g_2.2.1, g_2.2.2.1, n_62, g_2.2.2.2.2.1, g_2.2.2.2.2.2.1, g_2.2.2.2.2.2.2.1, g_2.2.2.2.2.2.2.2.1, g_2.2.2.2.2.2.2.2.2.1, g_2.2.2.2.2.2.2.2.2.2.1, g_2.2.2.2.2.2.2.2.2.2.2.1, g_2.2.2.2.2.2.2.2.2.2.2.2.1, g_2.2.2.2.2.2.2.2.2.2.2.2.2.1, g_2.2.2.2.2.2.2.2.2.2.2.2.2.2.1, g_2.2.2.2.2.2.2.2.2.2.2.2.2.2.2.1, g_2.2.2.2.2.2.2.2.2.2.2.2.2.2.2.2.1, g_2.2.2.2.2.2.2.2.2.2.2.2.2.2.2.2.2)) := ⟨_, rfl⟩
        refine w_cut (fun WW => ∀ (H : Heap) (locs : List Loc) (ls : Array Slot), va_P (dC, dI) vwCl [cM0 m0 m1 m2 m3 m4 m5 n_65, cM1 cI m1 n_65, cM2 cJ m2 n_65, cM3 cJ m3 n_65, cM4 cI m4 n_65, cM5 cI m5 n_65] H → va_D A [cM0 m0 m1 m2 m3 m4 m5 n_65, cM1 cI m1 n_65, cM2 cJ m2 n_65, cM3 cJ m3 n_65, cM4 cI m4 n_65, cM5 cI m5 n_65] → va_S A s.heap H locs → lv_has ls 8 [(4, .long n_10), (2, .long n_6), (0, .ref m0), (1, .int x)] → WW H locs (F0 m 168 ls [])) (fun K => ?_) (fun H locs ls hP hD hS hl => ?_)
        · refine lv_if_ne (tgt := 168) hx hb dX4_tells_161 (by decide) (fun c_64 => ?_) (fun c_64 => ?_)
          · exact K _ _ _ (by simp only [en_65, if_neg c_64]; exact hP) (by simp only [en_65, if_neg c_64]; exact hD) hS (lv_sub hl [0, 1, 2, 3] rfl)
          · refine lv_aload_n hx hb dX4_tells_164 rfl (lv_at hl 2 rfl) ?_
            have hPc := hP.sub (ws' := [(m0, .inr (4, [.int g_2.1, .ref m1, .int g_2.2.2.1, .ref m2, .ref m3, .int g_2.2.2.2.2.2.1, .int g_2.2.2.2.2.2.2.1, .int g_2.2.2.2.2.2.2.2.1, .int g_2.2.2.2.2.2.2.2.2.1, .int g_2.2.2.2.2.2.2.2.2.2.1, .int g_2.2.2.2.2.2.2.2.2.2.2.1, .int g_2.2.2.2.2.2.2.2.2.2.2.2.1, .long g_2.2.2.2.2.2.2.2.2.2.2.2.2.1, .int g_2.2.2.2.2.2.2.2.2.2.2.2.2.2.1, .ref m4, .ref m5, .int g_2.2.2.2.2.2.2.2.2.2.2.2.2.2.2.2.2])), (m1, .inl (cI, 60, .inl g_2.2.1)), (m2, .inl (cJ, 92, .inr (.inl n_62))), (m3, .inl (cJ, 92, .inr (.inl g_2.2.2.2.2.1))), (m4, .inl (cI, 1573, .inl g_2.2.2.2.2.2.2.2.2.2.2.2.2.2.2.1)), (m5, .inl (cI, 12, .inl g_2.2.2.2.2.2.2.2.2.2.2.2.2.2.2.2.1))]) [0, 1, 2, 3, 4, 5] rfl
            have hDc := hD.sub (ws' := [(m0, .inr (4, [.int g_2.1, .ref m1, .int g_2.2.2.1, .ref m2, .ref m3, .int g_2.2.2.2.2.2.1, .int g_2.2.2.2.2.2.2.1, .int g_2.2.2.2.2.2.2.2.1, .int g_2.2.2.2.2.2.2.2.2.1, .int g_2.2.2.2.2.2.2.2.2.2.1, .int g_2.2.2.2.2.2.2.2.2.2.2.1, .int g_2.2.2.2.2.2.2.2.2.2.2.2.1, .long g_2.2.2.2.2.2.2.2.2.2.2.2.2.1, .int g_2.2.2.2.2.2.2.2.2.2.2.2.2.2.1, .ref m4, .ref m5, .int g_2.2.2.2.2.2.2.2.2.2.2.2.2.2.2.2.2])), (m1, .inl (cI, 60, .inl g_2.2.1)), (m2, .inl (cJ, 92, .inr (.inl n_62))), (m3, .inl (cJ, 92, .inr (.inl g_2.2.2.2.2.1))), (m4, .inl (cI, 1573, .inl g_2.2.2.2.2.2.2.2.2.2.2.2.2.2.2.1)), (m5, .inl (cI, 12, .inl g_2.2.2.2.2.2.2.2.2.2.2.2.2.2.2.2.1))]) [0, 1, 2, 3, 4, 5] (by decide) rfl
            have hFc := va_free (wc := [(m0, .inr (4, [.int g_2.1, .ref m1, .int g_2.2.2.1, .ref m2, .ref m3, .int g_2.2.2.2.2.2.1, .int g_2.2.2.2.2.2.2.1, .int g_2.2.2.2.2.2.2.2.1, .int g_2.2.2.2.2.2.2.2.2.1, .int g_2.2.2.2.2.2.2.2.2.2.1, .int g_2.2.2.2.2.2.2.2.2.2.2.1, .int g_2.2.2.2.2.2.2.2.2.2.2.2.1, .long g_2.2.2.2.2.2.2.2.2.2.2.2.2.1, .int g_2.2.2.2.2.2.2.2.2.2.2.2.2.2.1, .ref m4, .ref m5, .int g_2.2.2.2.2.2.2.2.2.2.2.2.2.2.2.2.2])), (m1, .inl (cI, 60, .inl g_2.2.1)), (m2, .inl (cJ, 92, .inr (.inl n_62))), (m3, .inl (cJ, 92, .inr (.inl g_2.2.2.2.2.1))), (m4, .inl (cI, 1573, .inl g_2.2.2.2.2.2.2.2.2.2.2.2.2.2.2.1)), (m5, .inl (cI, 12, .inl g_2.2.2.2.2.2.2.2.2.2.2.2.2.2.2.2.1))]) hD hS hA [0, 1, 2, 3, 4, 5] rfl
            refine va_callv (va_runV (As := []) (rest := []) ⟨hx, hb, hml, hown, hts⟩ (kX4_settle l dC dI cI cJ m0 m1 m2 m3 m4 m5 H.size (g_2.1, g_2.2.1, g_2.2.2.1, n_62, g_2.2.2.2.2.1, g_2.2.2.2.2.2.1, g_2.2.2.2.2.2.2.1, g_2.2.2.2.2.2.2.2.1, g_2.2.2.2.2.2.2.2.2.1, g_2.2.2.2.2.2.2.2.2.2.1, g_2.2.2.2.2.2.2.2.2.2.2.1, g_2.2.2.2.2.2.2.2.2.2.2.2.1, g_2.2.2.2.2.2.2.2.2.2.2.2.2.1, g_2.2.2.2.2.2.2.2.2.2.2.2.2.2.1, g_2.2.2.2.2.2.2.2.2.2.2.2.2.2.2.1, g_2.2.2.2.2.2.2.2.2.2.2.2.2.2.2.2.1, g_2.2.2.2.2.2.2.2.2.2.2.2.2.2.2.2.2) (by have q1 : ∀ j : Nat, j ≠ 0 → n_59 j = g_2.2.2.2.1 j := fun j h => (by rw [en_59]; split <;> first | rfl | exact pk_uLn h); have q2 : ∀ j : Nat, j ≠ 1 → n_62 j = n_59 j := fun j h => (by rw [en_62]; split <;> first | rfl | exact pk_uLn h); have q3 := (lg_cmp_eq _ _).mp c_64; rw [q2 27 (by decide), q1 27 (by decide)] at q3; show 0 ≤ n_62 22 - 1; rw [q2 22 (by decide), q1 22 (by decide)]; exact hs _ eg_2 q3)) (cwV 0 hts gX4_tells_X4_settle rfl rfl rfl (by decide +kernel) ⟨Nat.le_of_ble_eq_true rfl, Nat.le_of_ble_eq_true rfl⟩) ⟨fun a U g mk q => by obtain ⟨q0, q1, qP, qK, qD⟩ := q; exact ⟨q0, q1, qP, va_K.moved (u := U) (U := U.calling g mk a) (Vm.Alike.refl U.vm) qK, qD⟩, va_recv hK hPc (ci := 4) (q0 := 0) rfl rfl, fun U hU hW => ⟨rfl, by rw [hU], by rw [hU]; exact hPc, va_K.moved hW.alike hK, hDc.weaken (fun _ _ _ _ => trivial)⟩⟩ rfl rfl hl.1 rfl (lv_room (Nat.le_of_ble_eq_true rfl)) dX4_tells_165 ⟨Nat.le_of_ble_eq_true rfl, Nat.le_of_ble_eq_true rfl⟩) hS (fun q _ h => hFc q h) hFc (fun _ t H1 locs ht hvm hw hB hz1 hk1 hS => ?_)
            obtain ⟨hP1, hK1, hD1⟩ := hB
            rw [ht] at hP1
            obtain ⟨g_67, eg_67⟩ : ∃ z, z = sX4_settle (g_2.1, g_2.2.1, g_2.2.2.1, n_62, g_2.2.2.2.2.1, g_2.2.2.2.2.2.1, g_2.2.2.2.2.2.2.1, g_2.2.2.2.2.2.2.2.1, g_2.2.2.2.2.2.2.2.2.1, g_2.2.2.2.2.2.2.2.2.2.1, g_2.2.2.2.2.2.2.2.2.2.2.1, g_2.2.2.2.2.2.2.2.2.2.2.2.1, g_2.2.2.2.2.2.2.2.2.2.2.2.2.1, g_2.2.2.2.2.2.2.2.2.2.2.2.2.2.1, g_2.2.2.2.2.2.2.2.2.2.2.2.2.2.2.1, g_2.2.2.2.2.2.2.2.2.2.2.2.2.2.2.2.1, g_2.2.2.2.2.2.2.2.2.2.2.2.2.2.2.2.2) := ⟨_, rfl⟩
            rw [← eg_67] at hP1 hD1
            obtain ⟨hP, hD⟩ := va_join (wr := []) (w1 := [cM0 m0 m1 m2 m3 m4 m5 g_67, cM1 cI m1 g_67, cM2 cJ m2 g_67, cM3 cJ m3 g_67, cM4 cI m4 g_67, cM5 cI m5 g_67]) hP hD [0, 1, 2, 3, 4, 5] [] rfl rfl (by decide) (by decide) hk1 hFc hP1 hD1
            generalize H1 = H at hP hS ⊢
            have hP : va_P (dC, dI) vwCl [cM0 m0 m1 m2 m3 m4 m5 g_67, cM1 cI m1 g_67, cM2 cJ m2 g_67, cM3 cJ m3 g_67, cM4 cI m4 g_67, cM5 cI m5 g_67] H := hP
            have hD : va_D A [cM0 m0 m1 m2 m3 m4 m5 g_67, cM1 cI m1 g_67, cM2 cJ m2 g_67, cM3 cJ m3 g_67, cM4 cI m4 g_67, cM5 cI m5 g_67] := hD
            exact K _ _ _ (by subst eg_67; simp only [en_65, if_pos c_64]; exact hP) (by subst eg_67; simp only [en_65, if_pos c_64]; exact hD) hS (lv_sub hl [0, 1, 2, 3] rfl)
        refine lv_aload_n hx hb dX4_tells_168 rfl (lv_at hl 2 rfl) ?_
        have hPc := hP.sub (ws' := [cM0 m0 m1 m2 m3 m4 m5 n_65, cM1 cI m1 n_65, cM2 cJ m2 n_65, cM3 cJ m3 n_65, cM4 cI m4 n_65, cM5 cI m5 n_65]) [0, 1, 2, 3, 4, 5] rfl
        have hDc := hD.sub (ws' := [cM0 m0 m1 m2 m3 m4 m5 n_65, cM1 cI m1 n_65, cM2 cJ m2 n_65, cM3 cJ m3 n_65, cM4 cI m4 n_65, cM5 cI m5 n_65]) [0, 1, 2, 3, 4, 5] (by decide) rfl
        have hFc := va_free (wc := [cM0 m0 m1 m2 m3 m4 m5 n_65, cM1 cI m1 n_65, cM2 cJ m2 n_65, cM3 cJ m3 n_65, cM4 cI m4 n_65, cM5 cI m5 n_65]) hD hS hA [0, 1, 2, 3, 4, 5] rfl
        refine va_callv (va_runV (As := []) (rest := []) ⟨hx, hb, hml, hown, hts⟩ (kX4_step l dC dI cI cJ m0 m1 m2 m3 m4 m5 H.size n_65) (cwV 0 hts gX4_tells_X4_step rfl rfl rfl (by decide +kernel) ⟨Nat.le_of_ble_eq_true rfl, Nat.le_of_ble_eq_true rfl⟩) ⟨fun a U g mk q => by obtain ⟨q0, q1, qP, qK, qD⟩ := q; exact ⟨q0, q1, qP, va_K.moved (u := U) (U := U.calling g mk a) (Vm.Alike.refl U.vm) qK, qD⟩, va_recv hK hPc (ci := 4) (q0 := 0) rfl rfl, fun U hU hW => ⟨rfl, by rw [hU], by rw [hU]; exact hPc, va_K.moved hW.alike hK, hDc.weaken (fun _ _ _ _ => trivial)⟩⟩ rfl rfl hl.1 rfl (lv_room (Nat.le_of_ble_eq_true rfl)) dX4_tells_169 ⟨Nat.le_of_ble_eq_true rfl, Nat.le_of_ble_eq_true rfl⟩) hS (fun q _ h => hFc q h) hFc (fun _ t H1 locs ht hvm hw hB hz1 hk1 hS => ?_)
        obtain ⟨hP1, hK1, hD1⟩ := hB
        rw [ht] at hP1
        obtain ⟨g_69, eg_69⟩ : ∃ z, z = sX4_step n_65 := ⟨_, rfl⟩
        rw [← eg_69] at hP1 hD1
        obtain ⟨hP, hD⟩ := va_join (wr := []) (w1 := [cM0 m0 m1 m2 m3 m4 m5 g_69, cM1 cI m1 g_69, cM2 cJ m2 g_69, cM3 cJ m3 g_69, cM4 cI m4 g_69, cM5 cI m5 g_69]) hP hD [0, 1, 2, 3, 4, 5] [] rfl rfl (by decide) (by decide) hk1 hFc hP1 hD1
        generalize H1 = H at hP hS ⊢
        have hP : va_P (dC, dI) vwCl [cM0 m0 m1 m2 m3 m4 m5 g_69, cM1 cI m1 g_69, cM2 cJ m2 g_69, cM3 cJ m3 g_69, cM4 cI m4 g_69, cM5 cI m5 g_69] H := hP
        have hD : va_D A [cM0 m0 m1 m2 m3 m4 m5 g_69, cM1 cI m1 g_69, cM2 cJ m2 g_69, cM3 cJ m3 g_69, cM4 cI m4 g_69, cM5 cI m5 g_69] := hD
        refine lv_iconst (v := 0) hx hb dX4_tells_172 (by decide) ?_
        have es0 : sX4_tells x v = g_69 := by rw [sX4_tells, ← eg_2, sX4_tells_g_2, if_neg c_4, ← en_6, sX4_tells_n_6, ← en_10, sX4_tells_n_10, if_neg c_12, if_neg c_35, ← en_59, sX4_tells_n_59, ← en_62, sX4_tells_n_62, ← en_65, sX4_tells_n_65, ← eg_69, sX4_tells_g_69]
        have er : 0 = rX4_tells x v := by rw [rX4_tells, ← eg_2, rX4_tells_g_2, if_neg c_4, ← en_6, rX4_tells_n_6, ← en_10, rX4_tells_n_10, if_neg c_12, if_neg c_35, ← en_59, rX4_tells_n_59, ← en_62, rX4_tells_n_62, ← en_65, rX4_tells_n_65, ← eg_69, rX4_tells_g_69]
        refine W.iret (v := 0) hx hb hr (fun t ht hW => ⟨⟨0, (), rfl, er, ?_⟩, hS.F ht⟩) hS.2.2 dX4_tells_173
        rw [es0]; exact ⟨by rw [ht]; exact hP, va_K.moved hW.alike hK, hD⟩
  · refine lv_iconst (v := (-1)) hx hb dX4_tells_20 (by decide) ?_
    have es0 : sX4_tells x v = g_2 := by rw [sX4_tells, ← eg_2, sX4_tells_g_2, if_pos c_4]
    have er : (-1) = rX4_tells x v := by rw [rX4_tells, ← eg_2, rX4_tells_g_2, if_pos c_4]
    refine W.iret (v := (-1)) hx hb hr (fun t ht hW => ⟨⟨(-1), (), rfl, er, ?_⟩, hS.F ht⟩) hS.2.2 dX4_tells_21
    rw [es0]; exact ⟨by rw [ht]; exact hP, va_K.moved hW.alike hK, hD⟩
