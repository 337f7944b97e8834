def rX2_hasRoom (tp : TP) : Int32 :=
  if 60 < (tp.2 + 20) then
    0
  else
    1
set_option maxHeartbeats 4000000 in
set_option maxRecDepth 100000 in
theorem kX2_hasRoom (l : Launch) (dC : Nat → ClassId) (dI : Nat → Nat → Nat) (cI cJ : ClassId) (t0 t1 : Nat) (sz : Nat)  (tp : TP) : Met l yX2_hasRoom wsX2_hasRoom ({ frames := 0, cells := 0, slots := 0, locals := 0 }) (va_Pc [.ref t0] (fun U => U.heap.size = sz ∧ va_P (dC, dI) vwCl [cT0 t0 t1 tp, cT1 cI t1 tp] U.heap ∧ va_K (dC, dI) vwCl [(cI, .int), (cJ, .long)] U ∧ va_D (fun _ => True) [cT0 t0 t1 tp, cT1 cI t1 tp])) (va_Qi (fun (r : Int32) (_ : Unit) => r = rX2_hasRoom tp) (fun _ t => va_P (dC, dI) vwCl [cT0 t0 t1 tp, cT1 cI t1 tp] t.heap ∧ va_K (dC, dI) vwCl [(cI, .int), (cJ, .long)] t ∧ va_D (va_A [cT0 t0 t1 tp, cT1 cI t1 tp] sz) [cT0 t0 t1 tp, cT1 cI t1 tp]) (va_A [cT0 t0 t1 tp, cT1 cI t1 tp] sz)) 0 0 (va_A [cT0 t0 t1 tp, cT1 cI t1 tp] sz) := by
  refine Met.ofW (cc := cX2_hasRoom) (maxL := 1) (ret := (some .boolean)) (by decide) rfl ?_
  intro p e s m args below meth c s₁ B hml hv
  obtain ⟨rfl, hsz, hP, hK, hD0⟩ := hv
  have hx := B.exec
  have hb := B.bytes
  have hr := B.returns
  have hts := atoms_spec (ws := wsX2_hasRoom) B.pre
  have hown : s.vm.findClass RX2 = some m.cls := findClass_of_methodNamed B.named
  have hlocks := B.notSynchronized
  have hiX2 : ∀ w ∈ u_ws RX2 TX2 2, w ∈ wsX2_hasRoom := by decide +kernel
  subst hsz
  have hD := hD0.self (sz := s.heap.size)
  generalize hAe : va_A [cT0 t0 t1 tp, cT1 cI t1 tp] s.heap.size = A at hD ⊢
  have hA : ∀ q : Nat, s.heap.size ≤ q → A q := fun q h => by rw [← hAe]; exact Or.inr h
  have hS : va_S A s.heap s.heap [] := va_S.rf
  have hl := lv_entry ([.ref t0]) (n := 1) (Nat.le_of_ble_eq_true rfl)
  rw [lg_entry_eq]
  generalize (lg_sl ([.ref t0]) ++ List.replicate (1 - (lg_sl ([.ref t0])).length) Slot.unset).toArray = ls at hl ⊢
  have hl : lv_has ls 1 [(0, .ref t0)] := hl
  have hP : va_P (dC, dI) vwCl [cT0 t0 t1 tp, cT1 cI t1 tp] s.heap := hP
  refine lv_aload_n hx hb dX2_hasRoom_0 rfl (lv_at hl 0 rfl) ?_
  refine va_get (D := (dC, dI)) (ci := 2) (v := .int tp.2) (C := RX2) (T := TX2) (N := 2) hx hb hts hiX2 hown hK hP 0 rfl rfl 1 (by decide) (hts (.fieldLink RX2 13 "TripReckoner$Tape" "size" "I") (by decide +kernel)) (fun _ h9 => h9) rfl dX2_hasRoom_1 ?_
  refine lv_bipush (v := 20) hx hb dX2_hasRoom_4 (by decide) ?_
  refine lv_iadd hx hb dX2_hasRoom_6 ?_
  refine lv_bipush (v := 60) hx hb dX2_hasRoom_7 (by decide) ?_
  refine lv_icmp_gt (tgt := 16) hx hb dX2_hasRoom_9 (by decide) (fun c_1 => ?_) (fun c_1 => ?_)
  · refine lv_iconst (v := 0) hx hb dX2_hasRoom_16 (by decide) ?_
    have er : 0 = rX2_hasRoom tp := by rw [rX2_hasRoom, if_pos c_1]
    refine W.zret (ty := .boolean) (v := 0) hx hb hr rfl (fun t ht hW => ⟨⟨0, (), rfl, er, ?_⟩, hS.F ht⟩) hS.2.2 dX2_hasRoom_17
    exact ⟨by rw [ht]; exact hP, va_K.moved hW.alike hK, hD⟩
  · refine lv_iconst (v := 1) hx hb dX2_hasRoom_12 (by decide) ?_
    refine lv_goto (tgt := 17) hx hb dX2_hasRoom_13 (by decide) ?_
    have er : 1 = rX2_hasRoom tp := by rw [rX2_hasRoom, if_neg c_1]
    refine W.zret (ty := .boolean) (v := 1) hx hb hr rfl (fun t ht hW => ⟨⟨1, (), rfl, er, ?_⟩, hS.F ht⟩) hS.2.2 dX2_hasRoom_17
    exact ⟨by rw [ht]; exact hP, va_K.moved hW.alike hK, hD⟩

def sX2_push (w : Int32) (tp : TP) : TP :=
  if 60 ≤ tp.2 then
    tp
  else
    if 60 ≤ (tp.2 + 1) then
      (upd tp.1 tp.2.toNatClampNeg (((w.toUInt32 >>> ((24 : Int32).toUInt32 &&& Int32.toUInt32 31)).toInt32) &&& 255), tp.2 + 1)
    else
      if 60 ≤ ((tp.2 + 1) + 1) then
        (upd (upd tp.1 tp.2.toNatClampNeg (((w.toUInt32 >>> ((24 : Int32).toUInt32 &&& Int32.toUInt32 31)).toInt32) &&& 255)) ((tp.2 + 1).toNatClampNeg) (((w.toUInt32 >>> ((16 : Int32).toUInt32 &&& Int32.toUInt32 31)).toInt32) &&& 255), (tp.2 + 1) + 1)
      else
        if 60 ≤ (((tp.2 + 1) + 1) + 1) then
          (upd (upd (upd tp.1 tp.2.toNatClampNeg (((w.toUInt32 >>> ((24 : Int32).toUInt32 &&& Int32.toUInt32 31)).toInt32) &&& 255)) ((tp.2 + 1).toNatClampNeg) (((w.toUInt32 >>> ((16 : Int32).toUInt32 &&& Int32.toUInt32 31)).toInt32) &&& 255)) (((tp.2 + 1) + 1).toNatClampNeg) (((w.toUInt32 >>> ((8 : Int32).toUInt32 &&& Int32.toUInt32 31)).toInt32) &&& 255), ((tp.2 + 1) + 1) + 1)
        else
          (upd (upd (upd (upd tp.1 tp.2.toNatClampNeg (((w.toUInt32 >>> ((24 : Int32).toUInt32 &&& Int32.toUInt32 31)).toInt32) &&& 255)) ((tp.2 + 1).toNatClampNeg) (((w.toUInt32 >>> ((16 : Int32).toUInt32 &&& Int32.toUInt32 31)).toInt32) &&& 255)) (((tp.2 + 1) + 1).toNatClampNeg) (((w.toUInt32 >>> ((8 : Int32).toUInt32 &&& Int32.toUInt32 31)).toInt32) &&& 255)) ((((tp.2 + 1) + 1) + 1).toNatClampNeg) (((w.toUInt32 >>> ((0 : Int32).toUInt32 &&& Int32.toUInt32 31)).toInt32) &&& 255), (((tp.2 + 1) + 1) + 1) + 1)
set_option maxHeartbeats 4000000 in
set_option maxRecDepth 100000 in
theorem kX2_push (l : Launch) (dC : Nat → ClassId) (dI : Nat → Nat → Nat) (cI cJ : ClassId) (t0 t1 : Nat) (sz : Nat) (w : Int32) (tp : TP) (h0 : 0 ≤ tp.2) : Met l yX2_push wsX2_push ({ frames := 0, cells := 0, slots := 0, locals := 0 }) (va_Pc [.ref t0, .int w] (fun U => U.heap.size = sz ∧ va_P (dC, dI) vwCl [cT0 t0 t1 tp, cT1 cI t1 tp] U.heap ∧ va_K (dC, dI) vwCl [(cI, .int), (cJ, .long)] U ∧ va_D (fun _ => True) [cT0 t0 t1 tp, cT1 cI t1 tp])) (va_Qv (fun _ : Unit => True) (fun _ t => va_P (dC, dI) vwCl [cT0 t0 t1 (sX2_push w tp), cT1 cI t1 (sX2_push w tp)] t.heap ∧ va_K (dC, dI) vwCl [(cI, .int), (cJ, .long)] t ∧ va_D (va_A [cT0 t0 t1 tp, cT1 cI t1 tp] sz) [cT0 t0 t1 (sX2_push w tp), cT1 cI t1 (sX2_push w tp)]) (va_A [cT0 t0 t1 tp, cT1 cI t1 tp] sz)) 0 0 (va_A [cT0 t0 t1 tp, cT1 cI t1 tp] sz) := by
  refine Met.ofW (cc := cX2_push) (maxL := 3) (ret := none) (by decide) rfl ?_
  intro p e s m args below meth c s₁ B hml hv
  obtain ⟨rfl, hsz, hP, hK, hD0⟩ := hv
  have hx := B.exec
  have hb := B.bytes
  have hr := B.returns
  have hts := atoms_spec (ws := wsX2_push) B.pre
  have hown : s.vm.findClass RX2 = some m.cls := findClass_of_methodNamed B.named
  have hlocks := B.notSynchronized
  have hiX2 : ∀ w ∈ u_ws RX2 TX2 2, w ∈ wsX2_push := by decide +kernel
  subst hsz
  have hD := hD0.self (sz := s.heap.size)
  generalize hAe : va_A [cT0 t0 t1 tp, cT1 cI t1 tp] s.heap.size = A at hD ⊢
  have hA : ∀ q : Nat, s.heap.size ≤ q → A q := fun q h => by rw [← hAe]; exact Or.inr h
  have hS : va_S A s.heap s.heap [] := va_S.rf
  have hl := lv_entry ([.ref t0, .int w]) (n := 3) (Nat.le_of_ble_eq_true rfl)
  rw [lg_entry_eq]
  generalize (lg_sl ([.ref t0, .int w]) ++ List.replicate (3 - (lg_sl ([.ref t0, .int w])).length) Slot.unset).toArray = ls at hl ⊢
  have hl : lv_has ls 3 [(0, .ref t0), (1, .int w)] := hl
  have hP : va_P (dC, dI) vwCl [cT0 t0 t1 tp, cT1 cI t1 tp] s.heap := hP
  refine lv_bipush (v := 24) hx hb dX2_push_0 (by decide) ?_
  refine lv_istore_n (lv' := [(2, .int 24), (0, .ref t0), (1, .int w)]) hx hb dX2_push_2 rfl hl (by decide) rfl (fun ls hl => ?_)
  refine lv_iload_n hx hb dX2_push_3 rfl (lv_at hl 0 rfl) ?_
  refine lv_if_lt (tgt := 48) hx hb dX2_push_4 (by decide) (fun c_1 => absurd c_1 (by decide)) (fun c_1 => ?_)
  refine lv_aload_n hx hb dX2_push_7 rfl (lv_at hl 1 rfl) ?_
  refine va_get (D := (dC, dI)) (ci := 2) (v := .int tp.2) (C := RX2) (T := TX2) (N := 2) hx hb hts hiX2 hown hK hP 0 rfl rfl 1 (by decide) (hts (.fieldLink RX2 13 "TripReckoner$Tape" "size" "I") (by decide +kernel)) (fun _ h9 => h9) rfl dX2_push_8 ?_
  refine lv_bipush (v := 60) hx hb dX2_push_11 (by decide) ?_
  refine lv_icmp_ge (tgt := 48) hx hb dX2_push_13 (by decide) (fun c_2 => ?_) (fun c_2 => ?_)
  · have es0 : sX2_push w tp = tp := by rw [sX2_push, if_pos c_2]
    refine W.vret hx hb hr (fun t ht hW => ⟨⟨(), rfl, trivial, ?_⟩, hS.F ht⟩) hS.2.2 dX2_push_48
    rw [es0]; exact ⟨by rw [ht]; exact hP, va_K.moved hW.alike hK, hD⟩
  · refine lv_aload_n hx hb dX2_push_16 rfl (lv_at hl 1 rfl) ?_
    refine va_get (D := (dC, dI)) (ci := 2) (v := .ref t1) (C := RX2) (T := TX2) (N := 2) hx hb hts hiX2 hown hK hP 0 rfl rfl 0 (by decide) (hts (.fieldLink RX2 9 "TripReckoner$Tape" "bytes" "[I") (by decide +kernel)) (fun _ h9 => h9) rfl dX2_push_17 ?_
    refine lv_aload_n hx hb dX2_push_20 rfl (lv_at hl 1 rfl) ?_
    refine va_get (D := (dC, dI)) (ci := 2) (v := .int tp.2) (C := RX2) (T := TX2) (N := 2) hx hb hts hiX2 hown hK hP 0 rfl rfl 1 (by decide) (hts (.fieldLink RX2 13 "TripReckoner$Tape" "size" "I") (by decide +kernel)) (fun _ h9 => h9) rfl dX2_push_21 ?_
    refine lv_iload_n hx hb dX2_push_24 rfl (lv_at hl 2 rfl) ?_
    refine lv_iload_n hx hb dX2_push_25 rfl (lv_at hl 0 rfl) ?_
    refine lv_iushr (v := (w.toUInt32 >>> ((24 : Int32).toUInt32 &&& Int32.toUInt32 31)).toInt32) hx hb dX2_push_26 rfl ?_
    refine lv_sipush (v := 255) hx hb dX2_push_27 (by decide) ?_
    refine lv_iand hx hb dX2_push_30 ?_
    refine va_iast hx hb hK hP hD hS 1 0 rfl rfl (lt60 h0 c_2) dX2_push_31 (fun H locs hP hD hS => ?_)
    have hP : va_P (dC, dI) vwCl [(t0, .inr (2, [.ref t1, .int tp.2])), (t1, .inl (cI, 60, .inl (upd tp.1 tp.2.toNatClampNeg (((w.toUInt32 >>> ((24 : Int32).toUInt32 &&& Int32.toUInt32 31)).toInt32) &&& 255))))] H := hP
    have hD : va_D A [(t0, .inr (2, [.ref t1, .int tp.2])), (t1, .inl (cI, 60, .inl (upd tp.1 tp.2.toNatClampNeg (((w.toUInt32 >>> ((24 : Int32).toUInt32 &&& Int32.toUInt32 31)).toInt32) &&& 255))))] := hD
    refine lv_aload_n hx hb dX2_push_32 rfl (lv_at hl 1 rfl) ?_
    refine lv_dup hx hb dX2_push_33 rfl ?_
    refine va_get (D := (dC, dI)) (ci := 2) (v := .int tp.2) (C := RX2) (T := TX2) (N := 2) hx hb hts hiX2 hown hK hP 0 rfl rfl 1 (by decide) (hts (.fieldLink RX2 13 "TripReckoner$Tape" "size" "I") (by decide +kernel)) (fun _ h9 => h9) rfl dX2_push_34 ?_
    refine lv_iconst (v := 1) hx hb dX2_push_37 (by decide) ?_
    refine lv_iadd hx hb dX2_push_38 ?_
    refine va_put (D := (dC, dI)) (ci := 2) (v := .int (tp.2 + 1)) (ty := .int) (C := RX2) (T := TX2) (N := 2) hx hb hts hiX2 tyX2 tyX2_ok nmX2 hown hK hP hD hS 0 rfl rfl 1 (by decide) (hts (.fieldLink RX2 13 "TripReckoner$Tape" "size" "I") (by decide +kernel)) (fun _ h9 => h9) rfl (by decide +kernel) rfl rfl (Nat.le_of_ble_eq_true rfl) dX2_push_39 (fun H locs hP hD hS => ?_)
    have hP : va_P (dC, dI) vwCl [(t0, .inr (2, [.ref t1, .int (tp.2 + 1)])), (t1, .inl (cI, 60, .inl (upd tp.1 tp.2.toNatClampNeg (((w.toUInt32 >>> ((24 : Int32).toUInt32 &&& Int32.toUInt32 31)).toInt32) &&& 255))))] H := hP
    have hD : va_D A [(t0, .inr (2, [.ref t1, .int (tp.2 + 1)])), (t1, .inl (cI, 60, .inl (upd tp.1 tp.2.toNatClampNeg (((w.toUInt32 >>> ((24 : Int32).toUInt32 &&& Int32.toUInt32 31)).toInt32) &&& 255))))] := hD
    refine lv_iinc (v := 16) (lv' := [(2, .int 16), (0, .ref t0), (1, .int w)]) hx hb dX2_push_42 hl (k := 0) rfl (by decide) (by decide) rfl (fun ls hl => ?_)
    refine lv_goto (tgt := 3) hx hb dX2_push_45 (by decide) ?_
    refine lv_iload_n hx hb dX2_push_3 rfl (lv_at hl 0 rfl) ?_
    refine lv_if_lt (tgt := 48) hx hb dX2_push_4 (by decide) (fun c_3 => absurd c_3 (by decide)) (fun c_3 => ?_)
    refine lv_aload_n hx hb dX2_push_7 rfl (lv_at hl 1 rfl) ?_
    refine va_get (D := (dC, dI)) (ci := 2) (v := .int (tp.2 + 1)) (C := RX2) (T := TX2) (N := 2) hx hb hts hiX2 hown hK hP 0 rfl rfl 1 (by decide) (hts (.fieldLink RX2 13 "TripReckoner$Tape" "size" "I") (by decide +kernel)) (fun _ h9 => h9) rfl dX2_push_8 ?_
    refine lv_bipush (v := 60) hx hb dX2_push_11 (by decide) ?_
    refine lv_icmp_ge (tgt := 48) hx hb dX2_push_13 (by decide) (fun c_4 => ?_) (fun c_4 => ?_)
    · have es0 : sX2_push w tp = (upd tp.1 tp.2.toNatClampNeg (((w.toUInt32 >>> ((24 : Int32).toUInt32 &&& Int32.toUInt32 31)).toInt32) &&& 255), tp.2 + 1) := by rw [sX2_push, if_neg c_2, if_pos c_4]
      refine W.vret hx hb hr (fun t ht hW => ⟨⟨(), rfl, trivial, ?_⟩, hS.F ht⟩) hS.2.2 dX2_push_48
      rw [es0]; exact ⟨by rw [ht]; exact hP, va_K.moved hW.alike hK, hD⟩
    · refine lv_aload_n hx hb dX2_push_16 rfl (lv_at hl 1 rfl) ?_
      refine va_get (D := (dC, dI)) (ci := 2) (v := .ref t1) (C := RX2) (T := TX2) (N := 2) hx hb hts hiX2 hown hK hP 0 rfl rfl 0 (by decide) (hts (.fieldLink RX2 9 "TripReckoner$Tape" "bytes" "[I") (by decide +kernel)) (fun _ h9 => h9) rfl dX2_push_17 ?_
      refine lv_aload_n hx hb dX2_push_20 rfl (lv_at hl 1 rfl) ?_
      refine va_get (D := (dC, dI)) (ci := 2) (v := .int (tp.2 + 1)) (C := RX2) (T := TX2) (N := 2) hx hb hts hiX2 hown hK hP 0 rfl rfl 1 (by decide) (hts (.fieldLink RX2 13 "TripReckoner$Tape" "size" "I") (by decide +kernel)) (fun _ h9 => h9) rfl dX2_push_21 ?_
      refine lv_iload_n hx hb dX2_push_24 rfl (lv_at hl 2 rfl) ?_
      refine lv_iload_n hx hb dX2_push_25 rfl (lv_at hl 0 rfl) ?_
      refine lv_iushr (v := (w.toUInt32 >>> ((16 : Int32).toUInt32 &&& Int32.toUInt32 31)).toInt32) hx hb dX2_push_26 rfl ?_
      refine lv_sipush (v := 255) hx hb dX2_push_27 (by decide) ?_
      refine lv_iand hx hb dX2_push_30 ?_
      refine va_iast hx hb hK hP hD hS 1 0 rfl rfl (lt60 (suc60 h0 c_2) c_4) dX2_push_31 (fun H locs hP hD hS => ?_)
      have hP : va_P (dC, dI) vwCl [(t0, .inr (2, [.ref t1, .int (tp.2 + 1)])), (t1, .inl (cI, 60, .inl (upd (upd tp.1 tp.2.toNatClampNeg (((w.toUInt32 >>> ((24 : Int32).toUInt32 &&& Int32.toUInt32 31)).toInt32) &&& 255)) ((tp.2 + 1).toNatClampNeg) (((w.toUInt32 >>> ((16 : Int32).toUInt32 &&& Int32.toUInt32 31)).toInt32) &&& 255))))] H := hP
      have hD : va_D A [(t0, .inr (2, [.ref t1, .int (tp.2 + 1)])), (t1, .inl (cI, 60, .inl (upd (upd tp.1 tp.2.toNatClampNeg (((w.toUInt32 >>> ((24 : Int32).toUInt32 &&& Int32.toUInt32 31)).toInt32) &&& 255)) ((tp.2 + 1).toNatClampNeg) (((w.toUInt32 >>> ((16 : Int32).toUInt32 &&& Int32.toUInt32 31)).toInt32) &&& 255))))] := hD
      refine lv_aload_n hx hb dX2_push_32 rfl (lv_at hl 1 rfl) ?_
      refine lv_dup hx hb dX2_push_33 rfl ?_
      refine va_get (D := (dC, dI)) (ci := 2) (v := .int (tp.2 + 1)) (C := RX2) (T := TX2) (N := 2) hx hb hts hiX2 hown hK hP 0 rfl rfl 1 (by decide) (hts (.fieldLink RX2 13 "TripReckoner$Tape" "size" "I") (by decide +kernel)) (fun _ h9 => h9) rfl dX2_push_34 ?_
      refine lv_iconst (v := 1) hx hb dX2_push_37 (by decide) ?_
      refine lv_iadd hx hb dX2_push_38 ?_
      refine va_put (D := (dC, dI)) (ci := 2) (v := .int ((tp.2 + 1) + 1)) (ty := .int) (C := RX2) (T := TX2) (N := 2) hx hb hts hiX2 tyX2 tyX2_ok nmX2 hown hK hP hD hS 0 rfl rfl 1 (by decide) (hts (.fieldLink RX2 13 "TripReckoner$Tape" "size" "I") (by decide +kernel)) (fun _ h9 => h9) rfl (by decide +kernel) rfl rfl (Nat.le_of_ble_eq_true rfl) dX2_push_39 (fun H locs hP hD hS => ?_)
      have hP : va_P (dC, dI) vwCl [(t0, .inr (2, [.ref t1, .int ((tp.2 + 1) + 1)])), (t1, .inl (cI, 60, .inl (upd (upd tp.1 tp.2.toNatClampNeg (((w.toUInt32 >>> ((24 : Int32).toUInt32 &&& Int32.toUInt32 31)).toInt32) &&& 255)) ((tp.2 + 1).toNatClampNeg) (((w.toUInt32 >>> ((16 : Int32).toUInt32 &&& Int32.toUInt32 31)).toInt32) &&& 255))))] H := hP
      have hD : va_D A [(t0, .inr (2, [.ref t1, .int ((tp.2 + 1) + 1)])), (t1, .inl (cI, 60, .inl (upd (upd tp.1 tp.2.toNatClampNeg (((w.toUInt32 >>> ((24 : Int32).toUInt32 &&& Int32.toUInt32 31)).toInt32) &&& 255)) ((tp.2 + 1).toNatClampNeg) (((w.toUInt32 >>> ((16 : Int32).toUInt32 &&& Int32.toUInt32 31)).toInt32) &&& 255))))] := hD
      refine lv_iinc (v := 8) (lv' := [(2, .int 8), (0, .ref t0), (1, .int w)]) hx hb dX2_push_42 hl (k := 0) rfl (by decide) (by decide) rfl (fun ls hl => ?_)
      refine lv_goto (tgt := 3) hx hb dX2_push_45 (by decide) ?_
      refine lv_iload_n hx hb dX2_push_3 rfl (lv_at hl 0 rfl) ?_
      refine lv_if_lt (tgt := 48) hx hb dX2_push_4 (by decide) (fun c_5 => absurd c_5 (by decide)) (fun c_5 => ?_)
      refine lv_aload_n hx hb dX2_push_7 rfl (lv_at hl 1 rfl) ?_
      refine va_get (D := (dC, dI)) (ci := 2) (v := .int ((tp.2 + 1) + 1)) (C := RX2) (T := TX2) (N := 2) hx hb hts hiX2 hown hK hP 0 rfl rfl 1 (by decide) (hts (.fieldLink RX2 13 "TripReckoner$Tape" "size" "I") (by decide +kernel)) (fun _ h9 => h9) rfl dX2_push_8 ?_
      refine lv_bipush (v := 60) hx hb dX2_push_11 (by decide) ?_
      refine lv_icmp_ge (tgt := 48) hx hb dX2_push_13 (by decide) (fun c_6 => ?_) (fun c_6 => ?_)
      · have es0 : sX2_push w tp = (upd (upd tp.1 tp.2.toNatClampNeg (((w.toUInt32 >>> ((24 : Int32).toUInt32 &&& Int32.toUInt32 31)).toInt32) &&& 255)) ((tp.2 + 1).toNatClampNeg) (((w.toUInt32 >>> ((16 : Int32).toUInt32 &&& Int32.toUInt32 31)).toInt32) &&& 255), (tp.2 + 1) + 1) := by rw [sX2_push, if_neg c_2, if_neg c_4, if_pos c_6]
        refine W.vret hx hb hr (fun t ht hW => ⟨⟨(), rfl, trivial, ?_⟩, hS.F ht⟩) hS.2.2 dX2_push_48
        rw [es0]; exact ⟨by rw [ht]; exact hP, va_K.moved hW.alike hK, hD⟩
      · refine lv_aload_n hx hb dX2_push_16 rfl (lv_at hl 1 rfl) ?_
        refine va_get (D := (dC, dI)) (ci := 2) (v := .ref t1) (C := RX2) (T := TX2) (N := 2) hx hb hts hiX2 hown hK hP 0 rfl rfl 0 (by decide) (hts (.fieldLink RX2 9 "TripReckoner$Tape" "bytes" "[I") (by decide +kernel)) (fun _ h9 => h9) rfl dX2_push_17 ?_
        refine lv_aload_n hx hb dX2_push_20 rfl (lv_at hl 1 rfl) ?_
        refine va_get (D := (dC, dI)) (ci := 2) (v := .int ((tp.2 + 1) + 1)) (C := RX2) (T := TX2) (N := 2) hx hb hts hiX2 hown hK hP 0 rfl rfl 1 (by decide) (hts (.fieldLink RX2 13 "TripReckoner$Tape" "size" "I") (by decide +kernel)) (fun _ h9 => h9) rfl dX2_push_21 ?_
        refine lv_iload_n hx hb dX2_push_24 rfl (lv_at hl 2 rfl) ?_
        refine lv_iload_n hx hb dX2_push_25 rfl (lv_at hl 0 rfl) ?_
        refine lv_iushr (v := (w.toUInt32 >>> ((8 : Int32).toUInt32 &&& Int32.toUInt32 31)).toInt32) hx hb dX2_push_26 rfl ?_
        refine lv_sipush (v := 255) hx hb dX2_push_27 (by decide) ?_
        refine lv_iand hx hb dX2_push_30 ?_
        refine va_iast hx hb hK hP hD hS 1 0 rfl rfl (lt60 (suc60 (suc60 h0 c_2) c_4) c_6) dX2_push_31 (fun H locs hP hD hS => ?_)
        have hP : va_P (dC, dI) vwCl [(t0, .inr (2, [.ref t1, .int ((tp.2 + 1) + 1)])), (t1, .inl (cI, 60, .inl (upd (upd (upd tp.1 tp.2.toNatClampNeg (((w.toUInt32 >>> ((24 : Int32).toUInt32 &&& Int32.toUInt32 31)).toInt32) &&& 255)) ((tp.2 + 1).toNatClampNeg) (((w.toUInt32 >>> ((16 : Int32).toUInt32 &&& Int32.toUInt32 31)).toInt32) &&& 255)) (((tp.2 + 1) + 1).toNatClampNeg) (((w.toUInt32 >>> ((8 : Int32).toUInt32 &&& Int32.toUInt32 31)).toInt32) &&& 255))))] H := hP
        have hD : va_D A [(t0, .inr (2, [.ref t1, .int ((tp.2 + 1) + 1)])), (t1, .inl (cI, 60, .inl (upd (upd (upd tp.1 tp.2.toNatClampNeg (((w.toUInt32 >>> ((24 : Int32).toUInt32 &&& Int32.toUInt32 31)).toInt32) &&& 255)) ((tp.2 + 1).toNatClampNeg) (((w.toUInt32 >>> ((16 : Int32).toUInt32 &&& Int32.toUInt32 31)).toInt32) &&& 255)) (((tp.2 + 1) + 1).toNatClampNeg) (((w.toUInt32 >>> ((8 : Int32).toUInt32 &&& Int32.toUInt32 31)).toInt32) &&& 255))))] := hD
        refine lv_aload_n hx hb dX2_push_32 rfl (lv_at hl 1 rfl) ?_
        refine lv_dup hx hb dX2_push_33 rfl ?_
        refine va_get (D := (dC, dI)) (ci := 2) (v := .int ((tp.2 + 1) + 1)) (C := RX2) (T := TX2) (N := 2) hx hb hts hiX2 hown hK hP 0 rfl rfl 1 (by decide) (hts (.fieldLink RX2 13 "TripReckoner$Tape" "size" "I") (by decide +kernel)) (fun _ h9 => h9) rfl dX2_push_34 ?_
        refine lv_iconst (v := 1) hx hb dX2_push_37 (by decide) ?_
        refine lv_iadd hx hb dX2_push_38 ?_
        refine va_put (D := (dC, dI)) (ci := 2) (v := .int (((tp.2 + 1) + 1) + 1)) (ty := .int) (C := RX2) (T := TX2) (N := 2) hx hb hts hiX2 tyX2 tyX2_ok nmX2 hown hK hP hD hS 0 rfl rfl 1 (by decide) (hts (.fieldLink RX2 13 "TripReckoner$Tape" "size" "I") (by decide +kernel)) (fun _ h9 => h9) rfl (by decide +kernel) rfl rfl (Nat.le_of_ble_eq_true rfl) dX2_push_39 (fun H locs hP hD hS => ?_)
        have hP : va_P (dC, dI) vwCl [(t0, .inr (2, [.ref t1, .int (((tp.2 + 1) + 1) + 1)])), (t1, .inl (cI, 60, .inl (upd (upd (upd tp.1 tp.2.toNatClampNeg (((w.toUInt32 >>> ((24 : Int32).toUInt32 &&& Int32.toUInt32 31)).toInt32) &&& 255)) ((tp.2 + 1).toNatClampNeg) (((w.toUInt32 >>> ((16 : Int32).toUInt32 &&& Int32.toUInt32 31)).toInt32) &&& 255)) (((tp.2 + 1) + 1).toNatClampNeg) (((w.toUInt32 >>> ((8 : Int32).toUInt32 &&& Int32.toUInt32 31)).toInt32) &&& 255))))] H := hP
        have hD : va_D A [(t0, .inr (2, [.ref t1, .int (((tp.2 + 1) + 1) + 1)])), (t1, .inl (cI, 60, .inl (upd (upd (upd tp.1 tp.2.toNatClampNeg (((w.toUInt32 >>> ((24 : Int32).toUInt32 &&& Int32.toUInt32 31)).toInt32) &&& 255)) ((tp.2 + 1).toNatClampNeg) (((w.toUInt32 >>> ((16 : Int32).toUInt32 &&& Int32.toUInt32 31)).toInt32) &&& 255)) (((tp.2 + 1) + 1).toNatClampNeg) (((w.toUInt32 >>> ((8 : Int32).toUInt32 &&& Int32.toUInt32 31)).toInt32) &&& 255))))] := hD
        refine lv_iinc (v := 0) (lv' := [(2, .int 0), (0, .ref t0), (1, .int w)]) hx hb dX2_push_42 hl (k := 0) rfl (by decide) (by decide) rfl (fun ls hl => ?_)
        refine lv_goto (tgt := 3) hx hb dX2_push_45 (by decide) ?_
        refine lv_iload_n hx hb dX2_push_3 rfl (lv_at hl 0 rfl) ?_
        refine lv_if_lt (tgt := 48) hx hb dX2_push_4 (by decide) (fun c_7 => absurd c_7 (by decide)) (fun c_7 => ?_)
        refine lv_aload_n hx hb dX2_push_7 rfl (lv_at hl 1 rfl) ?_
        refine va_get (D := (dC, dI)) (ci := 2) (v := .int (((tp.2 + 1) + 1) + 1)) (C := RX2) (T := TX2) (N := 2) hx hb hts hiX2 hown hK hP 0 rfl rfl 1 (by decide) (hts (.fieldLink RX2 13 "TripReckoner$Tape" "size" "I") (by decide +kernel)) (fun _ h9 => h9) rfl dX2_push_8 ?_
        refine lv_bipush (v := 60) hx hb dX2_push_11 (by decide) ?_
        refine lv_icmp_ge (tgt := 48) hx hb dX2_push_13 (by decide) (fun c_8 => ?_) (fun c_8 => ?_)
        · have es0 : sX2_push w tp = (upd (upd (upd tp.1 tp.2.toNatClampNeg (((w.toUInt32 >>> ((24 : Int32).toUInt32 &&& Int32.toUInt32 31)).toInt32) &&& 255)) ((tp.2 + 1).toNatClampNeg) (((w.toUInt32 >>> ((16 : Int32).toUInt32 &&& Int32.toUInt32 31)).toInt32) &&& 255)) (((tp.2 + 1) + 1).toNatClampNeg) (((w.toUInt32 >>> ((8 : Int32).toUInt32 &&& Int32.toUInt32 31)).toInt32) &&& 255), ((tp.2 + 1) + 1) + 1) := by rw [sX2_push, if_neg c_2, if_neg c_4, if_neg c_6, if_pos c_8]
          refine W.vret hx hb hr (fun t ht hW => ⟨⟨(), rfl, trivial, ?_⟩, hS.F ht⟩) hS.2.2 dX2_push_48
          rw [es0]; exact ⟨by rw [ht]; exact hP, va_K.moved hW.alike hK, hD⟩
        · refine lv_aload_n hx hb dX2_push_16 rfl (lv_at hl 1 rfl) ?_
          refine va_get (D := (dC, dI)) (ci := 2) (v := .ref t1) (C := RX2) (T := TX2) (N := 2) hx hb hts hiX2 hown hK hP 0 rfl rfl 0 (by decide) (hts (.fieldLink RX2 9 "TripReckoner$Tape" "bytes" "[I") (by decide +kernel)) (fun _ h9 => h9) rfl dX2_push_17 ?_
          refine lv_aload_n hx hb dX2_push_20 rfl (lv_at hl 1 rfl) ?_
          refine va_get (D := (dC, dI)) (ci := 2) (v := .int (((tp.2 + 1) + 1) + 1)) (C := RX2) (T := TX2) (N := 2) hx hb hts hiX2 hown hK hP 0 rfl rfl 1 (by decide) (hts (.fieldLink RX2 13 "TripReckoner$Tape" "size" "I") (by decide +kernel)) (fun _ h9 => h9) rfl dX2_push_21 ?_
          refine lv_iload_n hx hb dX2_push_24 rfl (lv_at hl 2 rfl) ?_
          refine lv_iload_n hx hb dX2_push_25 rfl (lv_at hl 0 rfl) ?_
          refine lv_iushr (v := (w.toUInt32 >>> ((0 : Int32).toUInt32 &&& Int32.toUInt32 31)).toInt32) hx hb dX2_push_26 rfl ?_
          refine lv_sipush (v := 255) hx hb dX2_push_27 (by decide) ?_
          refine lv_iand hx hb dX2_push_30 ?_
          refine va_iast hx hb hK hP hD hS 1 0 rfl rfl (lt60 (suc60 (suc60 (suc60 h0 c_2) c_4) c_6) c_8) dX2_push_31 (fun H locs hP hD hS => ?_)
          have hP : va_P (dC, dI) vwCl [(t0, .inr (2, [.ref t1, .int (((tp.2 + 1) + 1) + 1)])), (t1, .inl (cI, 60, .inl (upd (upd (upd (upd tp.1 tp.2.toNatClampNeg (((w.toUInt32 >>> ((24 : Int32).toUInt32 &&& Int32.toUInt32 31)).toInt32) &&& 255)) ((tp.2 + 1).toNatClampNeg) (((w.toUInt32 >>> ((16 : Int32).toUInt32 &&& Int32.toUInt32 31)).toInt32) &&& 255)) (((tp.2 + 1) + 1).toNatClampNeg) (((w.toUInt32 >>> ((8 : Int32).toUInt32 &&& Int32.toUInt32 31)).toInt32) &&& 255)) ((((tp.2 + 1) + 1) + 1).toNatClampNeg) (((w.toUInt32 >>> ((0 : Int32).toUInt32 &&& Int32.toUInt32 31)).toInt32) &&& 255))))] H := hP
          have hD : va_D A [(t0, .inr (2, [.ref t1, .int (((tp.2 + 1) + 1) + 1)])), (t1, .inl (cI, 60, .inl (upd (upd (upd (upd tp.1 tp.2.toNatClampNeg (((w.toUInt32 >>> ((24 : Int32).toUInt32 &&& Int32.toUInt32 31)).toInt32) &&& 255)) ((tp.2 + 1).toNatClampNeg) (((w.toUInt32 >>> ((16 : Int32).toUInt32 &&& Int32.toUInt32 31)).toInt32) &&& 255)) (((tp.2 + 1) + 1).toNatClampNeg) (((w.toUInt32 >>> ((8 : Int32).toUInt32 &&& Int32.toUInt32 31)).toInt32) &&& 255)) ((((tp.2 + 1) + 1) + 1).toNatClampNeg) (((w.toUInt32 >>> ((0 : Int32).toUInt32 &&& Int32.toUInt32 31)).toInt32) &&& 255))))] := hD
          refine lv_aload_n hx hb dX2_push_32 rfl (lv_at hl 1 rfl) ?_
          refine lv_dup hx hb dX2_push_33 rfl ?_
          refine va_get (D := (dC, dI)) (ci := 2) (v := .int (((tp.2 + 1) + 1) + 1)) (C := RX2) (T := TX2) (N := 2) hx hb hts hiX2 hown hK hP 0 rfl rfl 1 (by decide) (hts (.fieldLink RX2 13 "TripReckoner$Tape" "size" "I") (by decide +kernel)) (fun _ h9 => h9) rfl dX2_push_34 ?_
          refine lv_iconst (v := 1) hx hb dX2_push_37 (by decide) ?_
          refine lv_iadd hx hb dX2_push_38 ?_
          refine va_put (D := (dC, dI)) (ci := 2) (v := .int ((((tp.2 + 1) + 1) + 1) + 1)) (ty := .int) (C := RX2) (T := TX2) (N := 2) hx hb hts hiX2 tyX2 tyX2_ok nmX2 hown hK hP hD hS 0 rfl rfl 1 (by decide) (hts (.fieldLink RX2 13 "TripReckoner$Tape" "size" "I") (by decide +kernel)) (fun _ h9 => h9) rfl (by decide +kernel) rfl rfl (Nat.le_of_ble_eq_true rfl) dX2_push_39 (fun H locs hP hD hS => ?_)
          have hP : va_P (dC, dI) vwCl [(t0, .inr (2, [.ref t1, .int ((((tp.2 + 1) + 1) + 1) + 1)])), (t1, .inl (cI, 60, .inl (upd (upd (upd (upd tp.1 tp.2.toNatClampNeg (((w.toUInt32 >>> ((24 : Int32).toUInt32 &&& Int32.toUInt32 31)).toInt32) &&& 255)) ((tp.2 + 1).toNatClampNeg) (((w.toUInt32 >>> ((16 : Int32).toUInt32 &&& Int32.toUInt32 31)).toInt32) &&& 255)) (((tp.2 + 1) + 1).toNatClampNeg) (((w.toUInt32 >>> ((8 : Int32).toUInt32 &&& Int32.toUInt32 31)).toInt32) &&& 255)) ((((tp.2 + 1) + 1) + 1).toNatClampNeg) (((w.toUInt32 >>> ((0 : Int32).toUInt32 &&& Int32.toUInt32 31)).toInt32) &&& 255))))] H := hP
          have hD : va_D A [(t0, .inr (2, [.ref t1, .int ((((tp.2 + 1) + 1) + 1) + 1)])), (t1, .inl (cI, 60, .inl (upd (upd (upd (upd tp.1 tp.2.toNatClampNeg (((w.toUInt32 >>> ((24 : Int32).toUInt32 &&& Int32.toUInt32 31)).toInt32) &&& 255)) ((tp.2 + 1).toNatClampNeg) (((w.toUInt32 >>> ((16 : Int32).toUInt32 &&& Int32.toUInt32 31)).toInt32) &&& 255)) (((tp.2 + 1) + 1).toNatClampNeg) (((w.toUInt32 >>> ((8 : Int32).toUInt32 &&& Int32.toUInt32 31)).toInt32) &&& 255)) ((((tp.2 + 1) + 1) + 1).toNatClampNeg) (((w.toUInt32 >>> ((0 : Int32).toUInt32 &&& Int32.toUInt32 31)).toInt32) &&& 255))))] := hD
          refine lv_iinc (v := (-8)) (lv' := [(2, .int (-8)), (0, .ref t0), (1, .int w)]) hx hb dX2_push_42 hl (k := 0) rfl (by decide) (by decide) rfl (fun ls hl => ?_)
          refine lv_goto (tgt := 3) hx hb dX2_push_45 (by decide) ?_
          refine lv_iload_n hx hb dX2_push_3 rfl (lv_at hl 0 rfl) ?_
          refine lv_if_lt (tgt := 48) hx hb dX2_push_4 (by decide) (fun c_9 => ?_) (fun c_9 => absurd (by decide) c_9)
          have es0 : sX2_push w tp = (upd (upd (upd (upd tp.1 tp.2.toNatClampNeg (((w.toUInt32 >>> ((24 : Int32).toUInt32 &&& Int32.toUInt32 31)).toInt32) &&& 255)) ((tp.2 + 1).toNatClampNeg) (((w.toUInt32 >>> ((16 : Int32).toUInt32 &&& Int32.toUInt32 31)).toInt32) &&& 255)) (((tp.2 + 1) + 1).toNatClampNeg) (((w.toUInt32 >>> ((8 : Int32).toUInt32 &&& Int32.toUInt32 31)).toInt32) &&& 255)) ((((tp.2 + 1) + 1) + 1).toNatClampNeg) (((w.toUInt32 >>> ((0 : Int32).toUInt32 &&& Int32.toUInt32 31)).toInt32) &&& 255), (((tp.2 + 1) + 1) + 1) + 1) := by rw [sX2_push, if_neg c_2, if_neg c_4, if_neg c_6, if_neg c_8]
          refine W.vret hx hb hr (fun t ht hW => ⟨⟨(), rfl, trivial, ?_⟩, hS.F ht⟩) hS.2.2 dX2_push_48
          rw [es0]; exact ⟨by rw [ht]; exact hP, va_K.moved hW.alike hK, hD⟩

def sX2_shorten (n : Int32) (tp : TP) : TP :=
  if n < 0 then
    tp
  else
    if n ≤ tp.2 then
      (tp.1, n)
    else
      tp
def rX2_shorten (n : Int32) (tp : TP) : Int32 :=
  if n < 0 then
    0
  else
    if n ≤ tp.2 then
      1
    else
      0
set_option maxHeartbeats 4000000 in
set_option maxRecDepth 100000 in
theorem kX2_shorten (l : Launch) (dC : Nat → ClassId) (dI : Nat → Nat → Nat) (cI cJ : ClassId) (t0 t1 : Nat) (sz : Nat) (n : Int32) (tp : TP) : Met l yX2_shorten wsX2_shorten ({ frames := 0, cells := 0, slots := 0, locals := 0 }) (va_Pc [.ref t0, .int n] (fun U => U.heap.size = sz ∧ va_P (dC, dI) vwCl [cT0 t0 t1 tp, cT1 cI t1 tp] U.heap ∧ va_K (dC, dI) vwCl [(cI, .int), (cJ, .long)] U ∧ va_D (fun _ => True) [cT0 t0 t1 tp, cT1 cI t1 tp])) (va_Qi (fun (r : Int32) (_ : Unit) => r = rX2_shorten n tp) (fun _ t => va_P (dC, dI) vwCl [cT0 t0 t1 (sX2_shorten n tp), cT1 cI t1 (sX2_shorten n tp)] t.heap ∧ va_K (dC, dI) vwCl [(cI, .int), (cJ, .long)] t ∧ va_D (va_A [cT0 t0 t1 tp, cT1 cI t1 tp] sz) [cT0 t0 t1 (sX2_shorten n tp), cT1 cI t1 (sX2_shorten n tp)]) (va_A [cT0 t0 t1 tp, cT1 cI t1 tp] sz)) 0 0 (va_A [cT0 t0 t1 tp, cT1 cI t1 tp] sz) := by
  refine Met.ofW (cc := cX2_shorten) (maxL := 2) (ret := (some .boolean)) (by decide) rfl ?_
  intro p e s m args below meth c s₁ B hml hv
  obtain ⟨rfl, hsz, hP, hK, hD0⟩ := hv
  have hx := B.exec
  have hb := B.bytes
  have hr := B.returns
  have hts := atoms_spec (ws := wsX2_shorten) B.pre
  have hown : s.vm.findClass RX2 = some m.cls := findClass_of_methodNamed B.named
  have hlocks := B.notSynchronized
  have hiX2 : ∀ w ∈ u_ws RX2 TX2 2, w ∈ wsX2_shorten := by decide +kernel
  subst hsz
  have hD := hD0.self (sz := s.heap.size)
  generalize hAe : va_A [cT0 t0 t1 tp, cT1 cI t1 tp] s.heap.size = A at hD ⊢
  have hA : ∀ q : Nat, s.heap.size ≤ q → A q := fun q h => by rw [← hAe]; exact Or.inr h
  have hS : va_S A s.heap s.heap [] := va_S.rf
  have hl := lv_entry ([.ref t0, .int n]) (n := 2) (Nat.le_of_ble_eq_true rfl)
  rw [lg_entry_eq]
  generalize (lg_sl ([.ref t0, .int n]) ++ List.replicate (2 - (lg_sl ([.ref t0, .int n])).length) Slot.unset).toArray = ls at hl ⊢
  have hl : lv_has ls 2 [(0, .ref t0), (1, .int n)] := hl
  have hP : va_P (dC, dI) vwCl [cT0 t0 t1 tp, cT1 cI t1 tp] s.heap := hP
  refine lv_iload_n hx hb dX2_shorten_0 rfl (lv_at hl 1 rfl) ?_
  refine lv_if_lt (tgt := 12) hx hb dX2_shorten_1 (by decide) (fun c_1 => ?_) (fun c_1 => ?_)
  · refine lv_iconst (v := 0) hx hb dX2_shorten_12 (by decide) ?_
    have es0 : sX2_shorten n tp = tp := by rw [sX2_shorten, if_pos c_1]
    have er : 0 = rX2_shorten n tp := by rw [rX2_shorten, if_pos c_1]
    refine W.zret (ty := .boolean) (v := 0) hx hb hr rfl (fun t ht hW => ⟨⟨0, (), rfl, er, ?_⟩, hS.F ht⟩) hS.2.2 dX2_shorten_13
    rw [es0]; exact ⟨by rw [ht]; exact hP, va_K.moved hW.alike hK, hD⟩
  · refine lv_iload_n hx hb dX2_shorten_4 rfl (lv_at hl 1 rfl) ?_
    refine lv_aload_n hx hb dX2_shorten_5 rfl (lv_at hl 0 rfl) ?_
    refine va_get (D := (dC, dI)) (ci := 2) (v := .int tp.2) (C := RX2) (T := TX2) (N := 2) hx hb hts hiX2 hown hK hP 0 rfl rfl 1 (by decide) (hts (.fieldLink RX2 13 "TripReckoner$Tape" "size" "I") (by decide +kernel)) (fun _ h9 => h9) rfl dX2_shorten_6 ?_
    refine lv_icmp_le (tgt := 14) hx hb dX2_shorten_9 (by decide) (fun c_2 => ?_) (fun c_2 => ?_)
    · refine lv_aload_n hx hb dX2_shorten_14 rfl (lv_at hl 0 rfl) ?_
      refine lv_iload_n hx hb dX2_shorten_15 rfl (lv_at hl 1 rfl) ?_
      refine va_put (D := (dC, dI)) (ci := 2) (v := .int n) (ty := .int) (C := RX2) (T := TX2) (N := 2) hx hb hts hiX2 tyX2 tyX2_ok nmX2 hown hK hP hD hS 0 rfl rfl 1 (by decide) (hts (.fieldLink RX2 13 "TripReckoner$Tape" "size" "I") (by decide +kernel)) (fun _ h9 => h9) rfl (by decide +kernel) rfl rfl (Nat.le_of_ble_eq_true rfl) dX2_shorten_16 (fun H locs hP hD hS => ?_)
      have hP : va_P (dC, dI) vwCl [(t0, .inr (2, [.ref t1, .int n])), (t1, .inl (cI, 60, .inl tp.1))] H := hP
      have hD : va_D A [(t0, .inr (2, [.ref t1, .int n])), (t1, .inl (cI, 60, .inl tp.1))] := hD
      refine lv_iconst (v := 1) hx hb dX2_shorten_19 (by decide) ?_
      have es0 : sX2_shorten n tp = (tp.1, n) := by rw [sX2_shorten, if_neg c_1, if_pos c_2]
      have er : 1 = rX2_shorten n tp := by rw [rX2_shorten, if_neg c_1, if_pos c_2]
      refine W.zret (ty := .boolean) (v := 1) hx hb hr rfl (fun t ht hW => ⟨⟨1, (), rfl, er, ?_⟩, hS.F ht⟩) hS.2.2 dX2_shorten_20
      rw [es0]; exact ⟨by rw [ht]; exact hP, va_K.moved hW.alike hK, hD⟩
    · refine lv_iconst (v := 0) hx hb dX2_shorten_12 (by decide) ?_
      have es0 : sX2_shorten n tp = tp := by rw [sX2_shorten, if_neg c_1, if_neg c_2]
      have er : 0 = rX2_shorten n tp := by rw [rX2_shorten, if_neg c_1, if_neg c_2]
      refine W.zret (ty := .boolean) (v := 0) hx hb hr rfl (fun t ht hW => ⟨⟨0, (), rfl, er, ?_⟩, hS.F ht⟩) hS.2.2 dX2_shorten_13
      rw [es0]; exact ⟨by rw [ht]; exact hP, va_K.moved hW.alike hK, hD⟩

def rX1_boughtAt (i : Int32) (pl : PL) : Int32 :=
  if i < 0 then
    (-1)
  else
    if pl.2.2.2.2.2.2 ≤ i then
      (-1)
    else
      pl.2.2.2.2.1 i.toNatClampNeg
set_option maxHeartbeats 4000000 in
set_option maxRecDepth 100000 in
theorem kX1_boughtAt (l : Launch) (dC : Nat → ClassId) (dI : Nat → Nat → Nat) (cI cJ : ClassId) (p0 p1 p2 p3 p4 p5 : Nat) (sz : Nat) (i : Int32) (pl : PL) (hp : pl.2.2.2.2.2.2.toInt ≤ 12) : Met l yX1_boughtAt wsX1_boughtAt ({ frames := 0, cells := 0, slots := 0, locals := 0 }) (va_Pc [.ref p0, .int i] (fun U => U.heap.size = sz ∧ va_P (dC, dI) vwCl [cP0 p0 p1 p2 p3 p4 p5 pl, cP1 cI p1 pl, cP2 cI p2 pl, cP3 cI p3 pl, cP4 cI p4 pl, cP5 cI p5 pl] U.heap ∧ va_K (dC, dI) vwCl [(cI, .int), (cJ, .long)] U ∧ va_D (fun _ => True) [cP0 p0 p1 p2 p3 p4 p5 pl, cP1 cI p1 pl, cP2 cI p2 pl, cP3 cI p3 pl, cP4 cI p4 pl, cP5 cI p5 pl])) (va_Qi (fun (r : Int32) (_ : Unit) => r = rX1_boughtAt i pl) (fun _ t => va_P (dC, dI) vwCl [cP0 p0 p1 p2 p3 p4 p5 pl, cP1 cI p1 pl, cP2 cI p2 pl, cP3 cI p3 pl, cP4 cI p4 pl, cP5 cI p5 pl] t.heap ∧ va_K (dC, dI) vwCl [(cI, .int), (cJ, .long)] t ∧ va_D (va_A [cP0 p0 p1 p2 p3 p4 p5 pl, cP1 cI p1 pl, cP2 cI p2 pl, cP3 cI p3 pl, cP4 cI p4 pl, cP5 cI p5 pl] sz) [cP0 p0 p1 p2 p3 p4 p5 pl, cP1 cI p1 pl, cP2 cI p2 pl, cP3 cI p3 pl, cP4 cI p4 pl, cP5 cI p5 pl]) (va_A [cP0 p0 p1 p2 p3 p4 p5 pl, cP1 cI p1 pl, cP2 cI p2 pl, cP3 cI p3 pl, cP4 cI p4 pl, cP5 cI p5 pl] sz)) 0 0 (va_A [cP0 p0 p1 p2 p3 p4 p5 pl, cP1 cI p1 pl, cP2 cI p2 pl, cP3 cI p3 pl, cP4 cI p4 pl, cP5 cI p5 pl] sz) := by
  refine Met.ofW (cc := cX1_boughtAt) (maxL := 2) (ret := (some .int)) (by decide) rfl ?_
  intro p e s m args below meth c s₁ B hml hv
  obtain ⟨rfl, hsz, hP, hK, hD0⟩ := hv
  have hx := B.exec
  have hb := B.bytes
  have hr := B.returns
  have hts := atoms_spec (ws := wsX1_boughtAt) B.pre
  have hown : s.vm.findClass RX1 = some m.cls := findClass_of_methodNamed B.named
  have hlocks := B.notSynchronized
  have hiX1 : ∀ w ∈ u_ws RX1 TX1 7, w ∈ wsX1_boughtAt := by decide +kernel
  subst hsz
  have hD := hD0.self (sz := s.heap.size)
  generalize hAe : va_A [cP0 p0 p1 p2 p3 p4 p5 pl, cP1 cI p1 pl, cP2 cI p2 pl, cP3 cI p3 pl, cP4 cI p4 pl, cP5 cI p5 pl] s.heap.size = A at hD ⊢
  have hA : ∀ q : Nat, s.heap.size ≤ q → A q := fun q h => by rw [← hAe]; exact Or.inr h
  have hS : va_S A s.heap s.heap [] := va_S.rf
  have hl := lv_entry ([.ref p0, .int i]) (n := 2) (Nat.le_of_ble_eq_true rfl)
  rw [lg_entry_eq]
  generalize (lg_sl ([.ref p0, .int i]) ++ List.replicate (2 - (lg_sl ([.ref p0, .int i])).length) Slot.unset).toArray = ls at hl ⊢
  have hl : lv_has ls 2 [(0, .ref p0), (1, .int i)] := hl
  have hP : va_P (dC, dI) vwCl [cP0 p0 p1 p2 p3 p4 p5 pl, cP1 cI p1 pl, cP2 cI p2 pl, cP3 cI p3 pl, cP4 cI p4 pl, cP5 cI p5 pl] s.heap := hP
  refine lv_iload_n hx hb dX1_boughtAt_0 rfl (lv_at hl 1 rfl) ?_
  refine lv_if_lt (tgt := 21) hx hb dX1_boughtAt_1 (by decide) (fun c_1 => ?_) (fun c_1 => ?_)
  · refine lv_iconst (v := (-1)) hx hb dX1_boughtAt_21 (by decide) ?_
    have er : (-1) = rX1_boughtAt i pl := by rw [rX1_boughtAt, if_pos c_1]
    refine W.iret (v := (-1)) hx hb hr (fun t ht hW => ⟨⟨(-1), (), rfl, er, ?_⟩, hS.F ht⟩) hS.2.2 dX1_boughtAt_22
    exact ⟨by rw [ht]; exact hP, va_K.moved hW.alike hK, hD⟩
  · refine lv_iload_n hx hb dX1_boughtAt_4 rfl (lv_at hl 1 rfl) ?_
    refine lv_aload_n hx hb dX1_boughtAt_5 rfl (lv_at hl 0 rfl) ?_
    refine va_get (D := (dC, dI)) (ci := 1) (v := .int pl.2.2.2.2.2.2) (C := RX1) (T := TX1) (N := 7) hx hb hts hiX1 hown hK hP 0 rfl rfl 6 (by decide) (hts (.fieldLink RX1 31 "TripReckoner$Planner" "plannedStations" "I") (by decide +kernel)) (fun _ h9 => h9) rfl dX1_boughtAt_6 ?_
    refine lv_icmp_ge (tgt := 21) hx hb dX1_boughtAt_9 (by decide) (fun c_2 => ?_) (fun c_2 => ?_)
    · refine lv_iconst (v := (-1)) hx hb dX1_boughtAt_21 (by decide) ?_
      have er : (-1) = rX1_boughtAt i pl := by rw [rX1_boughtAt, if_neg c_1, if_pos c_2]
      refine W.iret (v := (-1)) hx hb hr (fun t ht hW => ⟨⟨(-1), (), rfl, er, ?_⟩, hS.F ht⟩) hS.2.2 dX1_boughtAt_22
      exact ⟨by rw [ht]; exact hP, va_K.moved hW.alike hK, hD⟩
    · refine lv_aload_n hx hb dX1_boughtAt_12 rfl (lv_at hl 0 rfl) ?_
      refine va_get (D := (dC, dI)) (ci := 1) (v := .ref p5) (C := RX1) (T := TX1) (N := 7) hx hb hts hiX1 hown hK hP 0 rfl rfl 4 (by decide) (hts (.fieldLink RX1 24 "TripReckoner$Planner" "bought" "[I") (by decide +kernel)) (fun _ h9 => h9) rfl dX1_boughtAt_13 ?_
      refine lv_iload_n hx hb dX1_boughtAt_16 rfl (lv_at hl 1 rfl) ?_
      refine va_iald hx hb hK hP 5 0 rfl rfl (lt_in c_1 c_2 hp) dX1_boughtAt_17 ?_
      refine lv_goto (tgt := 22) hx hb dX1_boughtAt_18 (by decide) ?_
      have er : pl.2.2.2.2.1 i.toNatClampNeg = rX1_boughtAt i pl := by rw [rX1_boughtAt, if_neg c_1, if_neg c_2]
      refine W.iret (v := pl.2.2.2.2.1 i.toNatClampNeg) hx hb hr (fun t ht hW => ⟨⟨pl.2.2.2.2.1 i.toNatClampNeg, (), rfl, er, ?_⟩, hS.F ht⟩) hS.2.2 dX1_boughtAt_22
      exact ⟨by rw [ht]; exact hP, va_K.moved hW.alike hK, hD⟩

theorem push_ge0 {w : Int32} {tp : TP} (h0 : 0 ≤ tp.2) : 0 ≤ (sX2_push w tp).2 := by
  by_cases c1 : 60 ≤ tp.2
  · simp only [sX2_push, if_pos c1]; exact h0
  have d1 := suc60 h0 c1
  by_cases c2 : 60 ≤ tp.2 + 1
  · simp only [sX2_push, if_neg c1, if_pos c2]; exact d1
  have d2 := suc60 d1 c2
  by_cases c3 : 60 ≤ tp.2 + 1 + 1
  · simp only [sX2_push, if_neg c1, if_neg c2, if_pos c3]; exact d2
  have d3 := suc60 d2 c3
  by_cases c4 : 60 ≤ tp.2 + 1 + 1 + 1
  · simp only [sX2_push, if_neg c1, if_neg c2, if_neg c3, if_pos c4]; exact d3
  have d4 := suc60 d3 c4
  simp only [sX2_push, if_neg c1, if_neg c2, if_neg c3, if_neg c4]; exact d4
