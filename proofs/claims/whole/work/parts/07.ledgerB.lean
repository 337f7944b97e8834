def sX0_clearMark (k : Int32) (g : LG) : LG :=
  (g.1, g.2.1, g.2.2.1, g.2.2.2.1, g.2.2.2.2.1, g.2.2.2.2.2.1, g.2.2.2.2.2.2.1, g.2.2.2.2.2.2.2.1, g.2.2.2.2.2.2.2.2.1, g.2.2.2.2.2.2.2.2.2.1, g.2.2.2.2.2.2.2.2.2.2.1, g.2.2.2.2.2.2.2.2.2.2.2.1, vp_updL (vp_updL (vp_updL (vp_updL (vp_updL g.2.2.2.2.2.2.2.2.2.2.2.2.1 (((k * 5) + 0).toNatClampNeg) 0) (((k * 5) + 1).toNatClampNeg) 0) (((k * 5) + 2).toNatClampNeg) 0) (((k * 5) + 3).toNatClampNeg) 0) (((k * 5) + 4).toNatClampNeg) 0, g.2.2.2.2.2.2.2.2.2.2.2.2.2.1, g.2.2.2.2.2.2.2.2.2.2.2.2.2.2)
set_option maxHeartbeats 4000000 in
set_option maxRecDepth 100000 in
theorem kX0_clearMark (l : Launch) (dC : Nat → ClassId) (dI : Nat → Nat → Nat) (cI cJ : ClassId) (h0 h1 h2 h3 : Nat) (sz : Nat) (k : Int32) (g : LG) (hk : vp_in k 4) : Met l yX0_clearMark wsX0_clearMark ({ frames := 0, cells := 0, slots := 0, locals := 0 }) (va_Pc [.ref h0, .int k] (fun U => U.heap.size = sz ∧ va_P (dC, dI) vwCl [cL0 h0 h1 h2 h3 g, cL1 cJ h1 g, cL2 cI h2 g, cL3 cI h3 g] U.heap ∧ va_K (dC, dI) vwCl [(cI, .int), (cJ, .long)] U ∧ va_D (fun _ => True) [cL0 h0 h1 h2 h3 g, cL1 cJ h1 g, cL2 cI h2 g, cL3 cI h3 g])) (va_Qv (fun _ : Unit => True) (fun _ t => va_P (dC, dI) vwCl [cL0 h0 h1 h2 h3 (sX0_clearMark k g), cL1 cJ h1 (sX0_clearMark k g), cL2 cI h2 (sX0_clearMark k g), cL3 cI h3 (sX0_clearMark k g)] t.heap ∧ va_K (dC, dI) vwCl [(cI, .int), (cJ, .long)] t ∧ va_D (va_A [cL0 h0 h1 h2 h3 g, cL1 cJ h1 g, cL2 cI h2 g, cL3 cI h3 g] sz) [cL0 h0 h1 h2 h3 (sX0_clearMark k g), cL1 cJ h1 (sX0_clearMark k g), cL2 cI h2 (sX0_clearMark k g), cL3 cI h3 (sX0_clearMark k g)]) (va_A [cL0 h0 h1 h2 h3 g, cL1 cJ h1 g, cL2 cI h2 g, cL3 cI h3 g] sz)) 0 0 (va_A [cL0 h0 h1 h2 h3 g, cL1 cJ h1 g, cL2 cI h2 g, cL3 cI h3 g] sz) := by
  refine Met.ofW (cc := cX0_clearMark) (maxL := 3) (ret := none) (by decide) rfl ?_
  intro p e s m args below meth c s₁ B hml hv
  obtain ⟨rfl, hsz, hP, hK, hD0⟩ := hv
  have hx := B.exec
  have hb := B.bytes
  have hr := B.returns
  have hts := atoms_spec (ws := wsX0_clearMark) B.pre
  have hown : s.vm.findClass RX0 = some m.cls := findClass_of_methodNamed B.named
  have hlocks := B.notSynchronized
  have hiX0 : ∀ w ∈ u_ws RX0 TX0 15, w ∈ wsX0_clearMark := by decide +kernel
  subst hsz
  have hD := hD0.self (sz := s.heap.size)
  generalize hAe : va_A [cL0 h0 h1 h2 h3 g, cL1 cJ h1 g, cL2 cI h2 g, cL3 cI h3 g] s.heap.size = A at hD ⊢
  have hA : ∀ q : Nat, s.heap.size ≤ q → A q := fun q h => by rw [← hAe]; exact Or.inr h
  have hS : va_S A s.heap s.heap [] := va_S.rf
  have hl := lv_entry ([.ref h0, .int k]) (n := 3) (Nat.le_of_ble_eq_true rfl)
  rw [lg_entry_eq]
  generalize (lg_sl ([.ref h0, .int k]) ++ List.replicate (3 - (lg_sl ([.ref h0, .int k])).length) Slot.unset).toArray = ls at hl ⊢
  have hl : lv_has ls 3 [(0, .ref h0), (1, .int k)] := hl
  have hP : va_P (dC, dI) vwCl [cL0 h0 h1 h2 h3 g, cL1 cJ h1 g, cL2 cI h2 g, cL3 cI h3 g] s.heap := hP
  refine lv_iconst (v := 0) hx hb dX0_clearMark_0 (by decide) ?_
  refine lv_istore_n (lv' := [(2, .int 0), (0, .ref h0), (1, .int k)]) hx hb dX0_clearMark_1 rfl hl (by decide) rfl (fun ls hl => ?_)
  refine lv_iload_n hx hb dX0_clearMark_2 rfl (lv_at hl 0 rfl) ?_
  refine lv_iconst (v := 5) hx hb dX0_clearMark_3 (by decide) ?_
  refine lv_icmp_ge (tgt := 24) hx hb dX0_clearMark_4 (by decide) (fun c_1 => absurd c_1 (by decide)) (fun c_1 => ?_)
  refine lv_aload_n hx hb dX0_clearMark_7 rfl (lv_at hl 1 rfl) ?_
  refine va_get (D := (dC, dI)) (ci := 0) (v := .ref h1) (C := RX0) (T := TX0) (N := 15) hx hb hts hiX0 hown hK hP 0 rfl rfl 12 (by decide) (hts (.fieldLink RX0 9 "TripReckoner$Ledger" "marks" "[J") (by decide +kernel)) (fun _ h9 => h9) rfl dX0_clearMark_8 ?_
  refine lv_iload_n hx hb dX0_clearMark_11 rfl (lv_at hl 2 rfl) ?_
  refine lv_iconst (v := 5) hx hb dX0_clearMark_12 (by decide) ?_
  refine lv_imul hx hb dX0_clearMark_13 ?_
  refine lv_iload_n hx hb dX0_clearMark_14 rfl (lv_at hl 0 rfl) ?_
  refine lv_iadd hx hb dX0_clearMark_15 ?_
  refine lv_lconst (v := 0) hx hb dX0_clearMark_16 (by decide) ?_
  refine va_last hx hb hK hP hD hS 1 1 rfl rfl (mk_in hk (vd (by decide +kernel))) dX0_clearMark_17 (fun H locs hP hD hS => ?_)
  have hP : va_P (dC, dI) vwCl [(h0, .inr (0, [.int g.1, .int g.2.1, .int g.2.2.1, .int g.2.2.2.1, .int g.2.2.2.2.1, .int g.2.2.2.2.2.1, .int g.2.2.2.2.2.2.1, .int g.2.2.2.2.2.2.2.1, .int g.2.2.2.2.2.2.2.2.1, .int g.2.2.2.2.2.2.2.2.2.1, .long g.2.2.2.2.2.2.2.2.2.2.1, .long g.2.2.2.2.2.2.2.2.2.2.2.1, .ref h1, .ref h2, .ref h3])), (h1, .inl (cJ, 20, .inr (.inl (vp_updL g.2.2.2.2.2.2.2.2.2.2.2.2.1 (((k * 5) + 0).toNatClampNeg) 0)))), (h2, .inl (cI, 30, .inl g.2.2.2.2.2.2.2.2.2.2.2.2.2.1)), (h3, .inl (cI, 30, .inl g.2.2.2.2.2.2.2.2.2.2.2.2.2.2))] H := hP
  have hD : va_D A [(h0, .inr (0, [.int g.1, .int g.2.1, .int g.2.2.1, .int g.2.2.2.1, .int g.2.2.2.2.1, .int g.2.2.2.2.2.1, .int g.2.2.2.2.2.2.1, .int g.2.2.2.2.2.2.2.1, .int g.2.2.2.2.2.2.2.2.1, .int g.2.2.2.2.2.2.2.2.2.1, .long g.2.2.2.2.2.2.2.2.2.2.1, .long g.2.2.2.2.2.2.2.2.2.2.2.1, .ref h1, .ref h2, .ref h3])), (h1, .inl (cJ, 20, .inr (.inl (vp_updL g.2.2.2.2.2.2.2.2.2.2.2.2.1 (((k * 5) + 0).toNatClampNeg) 0)))), (h2, .inl (cI, 30, .inl g.2.2.2.2.2.2.2.2.2.2.2.2.2.1)), (h3, .inl (cI, 30, .inl g.2.2.2.2.2.2.2.2.2.2.2.2.2.2))] := hD
  refine lv_iinc (v := 1) (lv' := [(2, .int 1), (0, .ref h0), (1, .int k)]) hx hb dX0_clearMark_18 hl (k := 0) rfl (by decide) (by decide) rfl (fun ls hl => ?_)
  refine lv_goto (tgt := 2) hx hb dX0_clearMark_21 (by decide) ?_
  refine lv_iload_n hx hb dX0_clearMark_2 rfl (lv_at hl 0 rfl) ?_
  refine lv_iconst (v := 5) hx hb dX0_clearMark_3 (by decide) ?_
  refine lv_icmp_ge (tgt := 24) hx hb dX0_clearMark_4 (by decide) (fun c_2 => absurd c_2 (by decide)) (fun c_2 => ?_)
  refine lv_aload_n hx hb dX0_clearMark_7 rfl (lv_at hl 1 rfl) ?_
  refine va_get (D := (dC, dI)) (ci := 0) (v := .ref h1) (C := RX0) (T := TX0) (N := 15) hx hb hts hiX0 hown hK hP 0 rfl rfl 12 (by decide) (hts (.fieldLink RX0 9 "TripReckoner$Ledger" "marks" "[J") (by decide +kernel)) (fun _ h9 => h9) rfl dX0_clearMark_8 ?_
  refine lv_iload_n hx hb dX0_clearMark_11 rfl (lv_at hl 2 rfl) ?_
  refine lv_iconst (v := 5) hx hb dX0_clearMark_12 (by decide) ?_
  refine lv_imul hx hb dX0_clearMark_13 ?_
  refine lv_iload_n hx hb dX0_clearMark_14 rfl (lv_at hl 0 rfl) ?_
  refine lv_iadd hx hb dX0_clearMark_15 ?_
  refine lv_lconst (v := 0) hx hb dX0_clearMark_16 (by decide) ?_
  refine va_last hx hb hK hP hD hS 1 1 rfl rfl (mk_in hk (vd (by decide +kernel))) dX0_clearMark_17 (fun H locs hP hD hS => ?_)
  have hP : va_P (dC, dI) vwCl [(h0, .inr (0, [.int g.1, .int g.2.1, .int g.2.2.1, .int g.2.2.2.1, .int g.2.2.2.2.1, .int g.2.2.2.2.2.1, .int g.2.2.2.2.2.2.1, .int g.2.2.2.2.2.2.2.1, .int g.2.2.2.2.2.2.2.2.1, .int g.2.2.2.2.2.2.2.2.2.1, .long g.2.2.2.2.2.2.2.2.2.2.1, .long g.2.2.2.2.2.2.2.2.2.2.2.1, .ref h1, .ref h2, .ref h3])), (h1, .inl (cJ, 20, .inr (.inl (vp_updL (vp_updL g.2.2.2.2.2.2.2.2.2.2.2.2.1 (((k * 5) + 0).toNatClampNeg) 0) (((k * 5) + 1).toNatClampNeg) 0)))), (h2, .inl (cI, 30, .inl g.2.2.2.2.2.2.2.2.2.2.2.2.2.1)), (h3, .inl (cI, 30, .inl g.2.2.2.2.2.2.2.2.2.2.2.2.2.2))] H := hP
  have hD : va_D A [(h0, .inr (0, [.int g.1, .int g.2.1, .int g.2.2.1, .int g.2.2.2.1, .int g.2.2.2.2.1, .int g.2.2.2.2.2.1, .int g.2.2.2.2.2.2.1, .int g.2.2.2.2.2.2.2.1, .int g.2.2.2.2.2.2.2.2.1, .int g.2.2.2.2.2.2.2.2.2.1, .long g.2.2.2.2.2.2.2.2.2.2.1, .long g.2.2.2.2.2.2.2.2.2.2.2.1, .ref h1, .ref h2, .ref h3])), (h1, .inl (cJ, 20, .inr (.inl (vp_updL (vp_updL g.2.2.2.2.2.2.2.2.2.2.2.2.1 (((k * 5) + 0).toNatClampNeg) 0) (((k * 5) + 1).toNatClampNeg) 0)))), (h2, .inl (cI, 30, .inl g.2.2.2.2.2.2.2.2.2.2.2.2.2.1)), (h3, .inl (cI, 30, .inl g.2.2.2.2.2.2.2.2.2.2.2.2.2.2))] := hD
  refine lv_iinc (v := 2) (lv' := [(2, .int 2), (0, .ref h0), (1, .int k)]) hx hb dX0_clearMark_18 hl (k := 0) rfl (by decide) (by decide) rfl (fun ls hl => ?_)
  refine lv_goto (tgt := 2) hx hb dX0_clearMark_21 (by decide) ?_
  refine lv_iload_n hx hb dX0_clearMark_2 rfl (lv_at hl 0 rfl) ?_
  refine lv_iconst (v := 5) hx hb dX0_clearMark_3 (by decide) ?_
  refine lv_icmp_ge (tgt := 24) hx hb dX0_clearMark_4 (by decide) (fun c_3 => absurd c_3 (by decide)) (fun c_3 => ?_)
  refine lv_aload_n hx hb dX0_clearMark_7 rfl (lv_at hl 1 rfl) ?_
  refine va_get (D := (dC, dI)) (ci := 0) (v := .ref h1) (C := RX0) (T := TX0) (N := 15) hx hb hts hiX0 hown hK hP 0 rfl rfl 12 (by decide) (hts (.fieldLink RX0 9 "TripReckoner$Ledger" "marks" "[J") (by decide +kernel)) (fun _ h9 => h9) rfl dX0_clearMark_8 ?_
  refine lv_iload_n hx hb dX0_clearMark_11 rfl (lv_at hl 2 rfl) ?_
  refine lv_iconst (v := 5) hx hb dX0_clearMark_12 (by decide) ?_
  refine lv_imul hx hb dX0_clearMark_13 ?_
  refine lv_iload_n hx hb dX0_clearMark_14 rfl (lv_at hl 0 rfl) ?_
  refine lv_iadd hx hb dX0_clearMark_15 ?_
  refine lv_lconst (v := 0) hx hb dX0_clearMark_16 (by decide) ?_
  refine va_last hx hb hK hP hD hS 1 1 rfl rfl (mk_in hk (vd (by decide +kernel))) dX0_clearMark_17 (fun H locs hP hD hS => ?_)
  have hP : va_P (dC, dI) vwCl [(h0, .inr (0, [.int g.1, .int g.2.1, .int g.2.2.1, .int g.2.2.2.1, .int g.2.2.2.2.1, .int g.2.2.2.2.2.1, .int g.2.2.2.2.2.2.1, .int g.2.2.2.2.2.2.2.1, .int g.2.2.2.2.2.2.2.2.1, .int g.2.2.2.2.2.2.2.2.2.1, .long g.2.2.2.2.2.2.2.2.2.2.1, .long g.2.2.2.2.2.2.2.2.2.2.2.1, .ref h1, .ref h2, .ref h3])), (h1, .inl (cJ, 20, .inr (.inl (vp_updL (vp_updL (vp_updL g.2.2.2.2.2.2.2.2.2.2.2.2.1 (((k * 5) + 0).toNatClampNeg) 0) (((k * 5) + 1).toNatClampNeg) 0) (((k * 5) + 2).toNatClampNeg) 0)))), (h2, .inl (cI, 30, .inl g.2.2.2.2.2.2.2.2.2.2.2.2.2.1)), (h3, .inl (cI, 30, .inl g.2.2.2.2.2.2.2.2.2.2.2.2.2.2))] H := hP
  have hD : va_D A [(h0, .inr (0, [.int g.1, .int g.2.1, .int g.2.2.1, .int g.2.2.2.1, .int g.2.2.2.2.1, .int g.2.2.2.2.2.1, .int g.2.2.2.2.2.2.1, .int g.2.2.2.2.2.2.2.1, .int g.2.2.2.2.2.2.2.2.1, .int g.2.2.2.2.2.2.2.2.2.1, .long g.2.2.2.2.2.2.2.2.2.2.1, .long g.2.2.2.2.2.2.2.2.2.2.2.1, .ref h1, .ref h2, .ref h3])), (h1, .inl (cJ, 20, .inr (.inl (vp_updL (vp_updL (vp_updL g.2.2.2.2.2.2.2.2.2.2.2.2.1 (((k * 5) + 0).toNatClampNeg) 0) (((k * 5) + 1).toNatClampNeg) 0) (((k * 5) + 2).toNatClampNeg) 0)))), (h2, .inl (cI, 30, .inl g.2.2.2.2.2.2.2.2.2.2.2.2.2.1)), (h3, .inl (cI, 30, .inl g.2.2.2.2.2.2.2.2.2.2.2.2.2.2))] := hD
  refine lv_iinc (v := 3) (lv' := [(2, .int 3), (0, .ref h0), (1, .int k)]) hx hb dX0_clearMark_18 hl (k := 0) rfl (by decide) (by decide) rfl (fun ls hl => ?_)
  refine lv_goto (tgt := 2) hx hb dX0_clearMark_21 (by decide) ?_
  refine lv_iload_n hx hb dX0_clearMark_2 rfl (lv_at hl 0 rfl) ?_
  refine lv_iconst (v := 5) hx hb dX0_clearMark_3 (by decide) ?_
  refine lv_icmp_ge (tgt := 24) hx hb dX0_clearMark_4 (by decide) (fun c_4 => absurd c_4 (by decide)) (fun c_4 => ?_)
  refine lv_aload_n hx hb dX0_clearMark_7 rfl (lv_at hl 1 rfl) ?_
  refine va_get (D := (dC, dI)) (ci := 0) (v := .ref h1) (C := RX0) (T := TX0) (N := 15) hx hb hts hiX0 hown hK hP 0 rfl rfl 12 (by decide) (hts (.fieldLink RX0 9 "TripReckoner$Ledger" "marks" "[J") (by decide +kernel)) (fun _ h9 => h9) rfl dX0_clearMark_8 ?_
  refine lv_iload_n hx hb dX0_clearMark_11 rfl (lv_at hl 2 rfl) ?_
  refine lv_iconst (v := 5) hx hb dX0_clearMark_12 (by decide) ?_
  refine lv_imul hx hb dX0_clearMark_13 ?_
  refine lv_iload_n hx hb dX0_clearMark_14 rfl (lv_at hl 0 rfl) ?_
  refine lv_iadd hx hb dX0_clearMark_15 ?_
  refine lv_lconst (v := 0) hx hb dX0_clearMark_16 (by decide) ?_
  refine va_last hx hb hK hP hD hS 1 1 rfl rfl (mk_in hk (vd (by decide +kernel))) dX0_clearMark_17 (fun H locs hP hD hS => ?_)
  have hP : va_P (dC, dI) vwCl [(h0, .inr (0, [.int g.1, .int g.2.1, .int g.2.2.1, .int g.2.2.2.1, .int g.2.2.2.2.1, .int g.2.2.2.2.2.1, .int g.2.2.2.2.2.2.1, .int g.2.2.2.2.2.2.2.1, .int g.2.2.2.2.2.2.2.2.1, .int g.2.2.2.2.2.2.2.2.2.1, .long g.2.2.2.2.2.2.2.2.2.2.1, .long g.2.2.2.2.2.2.2.2.2.2.2.1, .ref h1, .ref h2, .ref h3])), (h1, .inl (cJ, 20, .inr (.inl (vp_updL (vp_updL (vp_updL (vp_updL g.2.2.2.2.2.2.2.2.2.2.2.2.1 (((k * 5) + 0).toNatClampNeg) 0) (((k * 5) + 1).toNatClampNeg) 0) (((k * 5) + 2).toNatClampNeg) 0) (((k * 5) + 3).toNatClampNeg) 0)))), (h2, .inl (cI, 30, .inl g.2.2.2.2.2.2.2.2.2.2.2.2.2.1)), (h3, .inl (cI, 30, .inl g.2.2.2.2.2.2.2.2.2.2.2.2.2.2))] H := hP
  have hD : va_D A [(h0, .inr (0, [.int g.1, .int g.2.1, .int g.2.2.1, .int g.2.2.2.1, .int g.2.2.2.2.1, .int g.2.2.2.2.2.1, .int g.2.2.2.2.2.2.1, .int g.2.2.2.2.2.2.2.1, .int g.2.2.2.2.2.2.2.2.1, .int g.2.2.2.2.2.2.2.2.2.1, .long g.2.2.2.2.2.2.2.2.2.2.1, .long g.2.2.2.2.2.2.2.2.2.2.2.1, .ref h1, .ref h2, .ref h3])), (h1, .inl (cJ, 20, .inr (.inl (vp_updL (vp_updL (vp_updL (vp_updL g.2.2.2.2.2.2.2.2.2.2.2.2.1 (((k * 5) + 0).toNatClampNeg) 0) (((k * 5) + 1).toNatClampNeg) 0) (((k * 5) + 2).toNatClampNeg) 0) (((k * 5) + 3).toNatClampNeg) 0)))), (h2, .inl (cI, 30, .inl g.2.2.2.2.2.2.2.2.2.2.2.2.2.1)), (h3, .inl (cI, 30, .inl g.2.2.2.2.2.2.2.2.2.2.2.2.2.2))] := hD
  refine lv_iinc (v := 4) (lv' := [(2, .int 4), (0, .ref h0), (1, .int k)]) hx hb dX0_clearMark_18 hl (k := 0) rfl (by decide) (by decide) rfl (fun ls hl => ?_)
  refine lv_goto (tgt := 2) hx hb dX0_clearMark_21 (by decide) ?_
  refine lv_iload_n hx hb dX0_clearMark_2 rfl (lv_at hl 0 rfl) ?_
  refine lv_iconst (v := 5) hx hb dX0_clearMark_3 (by decide) ?_
  refine lv_icmp_ge (tgt := 24) hx hb dX0_clearMark_4 (by decide) (fun c_5 => absurd c_5 (by decide)) (fun c_5 => ?_)
  refine lv_aload_n hx hb dX0_clearMark_7 rfl (lv_at hl 1 rfl) ?_
  refine va_get (D := (dC, dI)) (ci := 0) (v := .ref h1) (C := RX0) (T := TX0) (N := 15) hx hb hts hiX0 hown hK hP 0 rfl rfl 12 (by decide) (hts (.fieldLink RX0 9 "TripReckoner$Ledger" "marks" "[J") (by decide +kernel)) (fun _ h9 => h9) rfl dX0_clearMark_8 ?_
  refine lv_iload_n hx hb dX0_clearMark_11 rfl (lv_at hl 2 rfl) ?_
  refine lv_iconst (v := 5) hx hb dX0_clearMark_12 (by decide) ?_
  refine lv_imul hx hb dX0_clearMark_13 ?_
  refine lv_iload_n hx hb dX0_clearMark_14 rfl (lv_at hl 0 rfl) ?_
  refine lv_iadd hx hb dX0_clearMark_15 ?_
  refine lv_lconst (v := 0) hx hb dX0_clearMark_16 (by decide) ?_
  refine va_last hx hb hK hP hD hS 1 1 rfl rfl (mk_in hk (vd (by decide +kernel))) dX0_clearMark_17 (fun H locs hP hD hS => ?_)
  have hP : va_P (dC, dI) vwCl [(h0, .inr (0, [.int g.1, .int g.2.1, .int g.2.2.1, .int g.2.2.2.1, .int g.2.2.2.2.1, .int g.2.2.2.2.2.1, .int g.2.2.2.2.2.2.1, .int g.2.2.2.2.2.2.2.1, .int g.2.2.2.2.2.2.2.2.1, .int g.2.2.2.2.2.2.2.2.2.1, .long g.2.2.2.2.2.2.2.2.2.2.1, .long g.2.2.2.2.2.2.2.2.2.2.2.1, .ref h1, .ref h2, .ref h3])), (h1, .inl (cJ, 20, .inr (.inl (vp_updL (vp_updL (vp_updL (vp_updL (vp_updL g.2.2.2.2.2.2.2.2.2.2.2.2.1 (((k * 5) + 0).toNatClampNeg) 0) (((k * 5) + 1).toNatClampNeg) 0) (((k * 5) + 2).toNatClampNeg) 0) (((k * 5) + 3).toNatClampNeg) 0) (((k * 5) + 4).toNatClampNeg) 0)))), (h2, .inl (cI, 30, .inl g.2.2.2.2.2.2.2.2.2.2.2.2.2.1)), (h3, .inl (cI, 30, .inl g.2.2.2.2.2.2.2.2.2.2.2.2.2.2))] H := hP
  have hD : va_D A [(h0, .inr (0, [.int g.1, .int g.2.1, .int g.2.2.1, .int g.2.2.2.1, .int g.2.2.2.2.1, .int g.2.2.2.2.2.1, .int g.2.2.2.2.2.2.1, .int g.2.2.2.2.2.2.2.1, .int g.2.2.2.2.2.2.2.2.1, .int g.2.2.2.2.2.2.2.2.2.1, .long g.2.2.2.2.2.2.2.2.2.2.1, .long g.2.2.2.2.2.2.2.2.2.2.2.1, .ref h1, .ref h2, .ref h3])), (h1, .inl (cJ, 20, .inr (.inl (vp_updL (vp_updL (vp_updL (vp_updL (vp_updL g.2.2.2.2.2.2.2.2.2.2.2.2.1 (((k * 5) + 0).toNatClampNeg) 0) (((k * 5) + 1).toNatClampNeg) 0) (((k * 5) + 2).toNatClampNeg) 0) (((k * 5) + 3).toNatClampNeg) 0) (((k * 5) + 4).toNatClampNeg) 0)))), (h2, .inl (cI, 30, .inl g.2.2.2.2.2.2.2.2.2.2.2.2.2.1)), (h3, .inl (cI, 30, .inl g.2.2.2.2.2.2.2.2.2.2.2.2.2.2))] := hD
  refine lv_iinc (v := 5) (lv' := [(2, .int 5), (0, .ref h0), (1, .int k)]) hx hb dX0_clearMark_18 hl (k := 0) rfl (by decide) (by decide) rfl (fun ls hl => ?_)
  refine lv_goto (tgt := 2) hx hb dX0_clearMark_21 (by decide) ?_
  refine lv_iload_n hx hb dX0_clearMark_2 rfl (lv_at hl 0 rfl) ?_
  refine lv_iconst (v := 5) hx hb dX0_clearMark_3 (by decide) ?_
  refine lv_icmp_ge (tgt := 24) hx hb dX0_clearMark_4 (by decide) (fun c_6 => ?_) (fun c_6 => absurd (by decide) c_6)
  have es0 : sX0_clearMark k g = (g.1, g.2.1, g.2.2.1, g.2.2.2.1, g.2.2.2.2.1, g.2.2.2.2.2.1, g.2.2.2.2.2.2.1, g.2.2.2.2.2.2.2.1, g.2.2.2.2.2.2.2.2.1, g.2.2.2.2.2.2.2.2.2.1, g.2.2.2.2.2.2.2.2.2.2.1, g.2.2.2.2.2.2.2.2.2.2.2.1, vp_updL (vp_updL (vp_updL (vp_updL (vp_updL g.2.2.2.2.2.2.2.2.2.2.2.2.1 (((k * 5) + 0).toNatClampNeg) 0) (((k * 5) + 1).toNatClampNeg) 0) (((k * 5) + 2).toNatClampNeg) 0) (((k * 5) + 3).toNatClampNeg) 0) (((k * 5) + 4).toNatClampNeg) 0, g.2.2.2.2.2.2.2.2.2.2.2.2.2.1, g.2.2.2.2.2.2.2.2.2.2.2.2.2.2) := by rw [sX0_clearMark]
  refine W.vret hx hb hr (fun t ht hW => ⟨⟨(), rfl, trivial, ?_⟩, hS.F ht⟩) hS.2.2 dX0_clearMark_24
  rw [es0]; exact ⟨by rw [ht]; exact hP, va_K.moved hW.alike hK, hD⟩

def rX0_marked (k : Int32) (what : Int32) (g : LG) : Int64 :=
  g.2.2.2.2.2.2.2.2.2.2.2.2.1 (((k * 5) + what).toNatClampNeg)
set_option maxHeartbeats 4000000 in
set_option maxRecDepth 100000 in
theorem kX0_marked (l : Launch) (dC : Nat → ClassId) (dI : Nat → Nat → Nat) (cI cJ : ClassId) (h0 h1 h2 h3 : Nat) (sz : Nat) (k : Int32) (what : Int32) (g : LG) (hin : vp_in (k * 5 + what) 20) : Met l yX0_marked wsX0_marked ({ frames := 0, cells := 0, slots := 0, locals := 0 }) (va_Pc [.ref h0, .int k, .int what] (fun U => U.heap.size = sz ∧ va_P (dC, dI) vwCl [cL0 h0 h1 h2 h3 g, cL1 cJ h1 g, cL2 cI h2 g, cL3 cI h3 g] U.heap ∧ va_K (dC, dI) vwCl [(cI, .int), (cJ, .long)] U ∧ va_D (fun _ => True) [cL0 h0 h1 h2 h3 g, cL1 cJ h1 g, cL2 cI h2 g, cL3 cI h3 g])) (va_Ql (fun (r : Int64) (_ : Unit) => r = rX0_marked k what g) (fun _ t => va_P (dC, dI) vwCl [cL0 h0 h1 h2 h3 g, cL1 cJ h1 g, cL2 cI h2 g, cL3 cI h3 g] t.heap ∧ va_K (dC, dI) vwCl [(cI, .int), (cJ, .long)] t ∧ va_D (va_A [cL0 h0 h1 h2 h3 g, cL1 cJ h1 g, cL2 cI h2 g, cL3 cI h3 g] sz) [cL0 h0 h1 h2 h3 g, cL1 cJ h1 g, cL2 cI h2 g, cL3 cI h3 g]) (va_A [cL0 h0 h1 h2 h3 g, cL1 cJ h1 g, cL2 cI h2 g, cL3 cI h3 g] sz)) 0 0 (va_A [cL0 h0 h1 h2 h3 g, cL1 cJ h1 g, cL2 cI h2 g, cL3 cI h3 g] sz) := by
  refine Met.ofW (cc := cX0_marked) (maxL := 3) (ret := (some .long)) (by decide) rfl ?_
  intro p e s m args below meth c s₁ B hml hv
  obtain ⟨rfl, hsz, hP, hK, hD0⟩ := hv
  have hx := B.exec
  have hb := B.bytes
  have hr := B.returns
  have hts := atoms_spec (ws := wsX0_marked) B.pre
  have hown : s.vm.findClass RX0 = some m.cls := findClass_of_methodNamed B.named
  have hlocks := B.notSynchronized
  have hiX0 : ∀ w ∈ u_ws RX0 TX0 15, w ∈ wsX0_marked := by decide +kernel
  subst hsz
  have hD := hD0.self (sz := s.heap.size)
  generalize hAe : va_A [cL0 h0 h1 h2 h3 g, cL1 cJ h1 g, cL2 cI h2 g, cL3 cI h3 g] s.heap.size = A at hD ⊢
  have hA : ∀ q : Nat, s.heap.size ≤ q → A q := fun q h => by rw [← hAe]; exact Or.inr h
  have hS : va_S A s.heap s.heap [] := va_S.rf
  have hl := lv_entry ([.ref h0, .int k, .int what]) (n := 3) (Nat.le_of_ble_eq_true rfl)
  rw [lg_entry_eq]
  generalize (lg_sl ([.ref h0, .int k, .int what]) ++ List.replicate (3 - (lg_sl ([.ref h0, .int k, .int what])).length) Slot.unset).toArray = ls at hl ⊢
  have hl : lv_has ls 3 [(0, .ref h0), (1, .int k), (2, .int what)] := hl
  have hP : va_P (dC, dI) vwCl [cL0 h0 h1 h2 h3 g, cL1 cJ h1 g, cL2 cI h2 g, cL3 cI h3 g] s.heap := hP
  refine lv_aload_n hx hb dX0_marked_0 rfl (lv_at hl 0 rfl) ?_
  refine va_get (D := (dC, dI)) (ci := 0) (v := .ref h1) (C := RX0) (T := TX0) (N := 15) hx hb hts hiX0 hown hK hP 0 rfl rfl 12 (by decide) (hts (.fieldLink RX0 9 "TripReckoner$Ledger" "marks" "[J") (by decide +kernel)) (fun _ h9 => h9) rfl dX0_marked_1 ?_
  refine lv_iload_n hx hb dX0_marked_4 rfl (lv_at hl 1 rfl) ?_
  refine lv_iconst (v := 5) hx hb dX0_marked_5 (by decide) ?_
  refine lv_imul hx hb dX0_marked_6 ?_
  refine lv_iload_n hx hb dX0_marked_7 rfl (lv_at hl 2 rfl) ?_
  refine lv_iadd hx hb dX0_marked_8 ?_
  refine va_lald hx hb hK hP 1 1 rfl rfl hin dX0_marked_9 ?_
  have er : g.2.2.2.2.2.2.2.2.2.2.2.2.1 (((k * 5) + what).toNatClampNeg) = rX0_marked k what g := by rw [rX0_marked]
  refine W.lret (v := g.2.2.2.2.2.2.2.2.2.2.2.2.1 (((k * 5) + what).toNatClampNeg)) hx hb hr (fun t ht hW => ⟨⟨g.2.2.2.2.2.2.2.2.2.2.2.2.1 (((k * 5) + what).toNatClampNeg), (), rfl, er, ?_⟩, hS.F ht⟩) hS.2.2 dX0_marked_10
  exact ⟨by rw [ht]; exact hP, va_K.moved hW.alike hK, hD⟩

def sX0_begin_g_12 (cap : Int32) (g : LG) (g_3 : LG) (g_6 : LG) (g_9 : LG) (g_12 : LG) : LG :=
  g_12
def sX0_begin_g_9 (cap : Int32) (g : LG) (g_3 : LG) (g_6 : LG) (g_9 : LG) : LG :=
  sX0_begin_g_12 cap g g_3 g_6 g_9 (sX0_clearMark 3 g_9)
def sX0_begin_g_6 (cap : Int32) (g : LG) (g_3 : LG) (g_6 : LG) : LG :=
  sX0_begin_g_9 cap g g_3 g_6 (sX0_clearMark 2 g_6)
def sX0_begin_g_3 (cap : Int32) (g : LG) (g_3 : LG) : LG :=
  sX0_begin_g_6 cap g g_3 (sX0_clearMark 1 g_3)
def sX0_begin (cap : Int32) (g : LG) : LG :=
  sX0_begin_g_3 cap g (sX0_clearMark 0 (0, cap, 0, 0, 0, 0, 0, 0, g.2.2.2.2.2.2.2.2.1, g.2.2.2.2.2.2.2.2.2.1, g.2.2.2.2.2.2.2.2.2.2.1, g.2.2.2.2.2.2.2.2.2.2.2.1, g.2.2.2.2.2.2.2.2.2.2.2.2.1, g.2.2.2.2.2.2.2.2.2.2.2.2.2.1, g.2.2.2.2.2.2.2.2.2.2.2.2.2.2))
set_option maxHeartbeats 4000000 in
set_option maxRecDepth 100000 in
theorem kX0_begin (l : Launch) (dC : Nat → ClassId) (dI : Nat → Nat → Nat) (cI cJ : ClassId) (h0 h1 h2 h3 : Nat) (sz : Nat) (cap : Int32) (g : LG) : Met l yX0_begin wsX0_begin ({ frames := 1, cells := 0, slots := 0, locals := 22 }) (va_Pc [.ref h0, .int cap] (fun U => U.heap.size = sz ∧ va_P (dC, dI) vwCl [cL0 h0 h1 h2 h3 g, cL1 cJ h1 g, cL2 cI h2 g, cL3 cI h3 g] U.heap ∧ va_K (dC, dI) vwCl [(cI, .int), (cJ, .long)] U ∧ va_D (fun _ => True) [cL0 h0 h1 h2 h3 g, cL1 cJ h1 g, cL2 cI h2 g, cL3 cI h3 g])) (va_Qv (fun _ : Unit => True) (fun _ t => va_P (dC, dI) vwCl [cL0 h0 h1 h2 h3 (sX0_begin cap g), cL1 cJ h1 (sX0_begin cap g), cL2 cI h2 (sX0_begin cap g), cL3 cI h3 (sX0_begin cap g)] t.heap ∧ va_K (dC, dI) vwCl [(cI, .int), (cJ, .long)] t ∧ va_D (va_A [cL0 h0 h1 h2 h3 g, cL1 cJ h1 g, cL2 cI h2 g, cL3 cI h3 g] sz) [cL0 h0 h1 h2 h3 (sX0_begin cap g), cL1 cJ h1 (sX0_begin cap g), cL2 cI h2 (sX0_begin cap g), cL3 cI h3 (sX0_begin cap g)]) (va_A [cL0 h0 h1 h2 h3 g, cL1 cJ h1 g, cL2 cI h2 g, cL3 cI h3 g] sz)) 0 0 (va_A [cL0 h0 h1 h2 h3 g, cL1 cJ h1 g, cL2 cI h2 g, cL3 cI h3 g] sz) := by
  refine Met.ofW (cc := cX0_begin) (maxL := 3) (ret := none) (by decide) rfl ?_
  intro p e s m args below meth c s₁ B hml hv
  obtain ⟨rfl, hsz, hP, hK, hD0⟩ := hv
  have hx := B.exec
  have hb := B.bytes
  have hr := B.returns
  have hts := atoms_spec (ws := wsX0_begin) B.pre
  have hown : s.vm.findClass RX0 = some m.cls := findClass_of_methodNamed B.named
  have hlocks := B.notSynchronized
  have hiX0 : ∀ w ∈ u_ws RX0 TX0 15, w ∈ wsX0_begin := by decide +kernel
  subst hsz
  have hD := hD0.self (sz := s.heap.size)
  generalize hAe : va_A [cL0 h0 h1 h2 h3 g, cL1 cJ h1 g, cL2 cI h2 g, cL3 cI h3 g] s.heap.size = A at hD ⊢
  have hA : ∀ q : Nat, s.heap.size ≤ q → A q := fun q h => by rw [← hAe]; exact Or.inr h
  have hS : va_S A s.heap s.heap [] := va_S.rf
  have hl := lv_entry ([.ref h0, .int cap]) (n := 3) (Nat.le_of_ble_eq_true rfl)
  rw [lg_entry_eq]
  generalize (lg_sl ([.ref h0, .int cap]) ++ List.replicate (3 - (lg_sl ([.ref h0, .int cap])).length) Slot.unset).toArray = ls at hl ⊢
  have hl : lv_has ls 3 [(0, .ref h0), (1, .int cap)] := hl
  have hP : va_P (dC, dI) vwCl [cL0 h0 h1 h2 h3 g, cL1 cJ h1 g, cL2 cI h2 g, cL3 cI h3 g] s.heap := hP
  refine lv_aload_n hx hb dX0_begin_0 rfl (lv_at hl 0 rfl) ?_
  refine lv_iconst (v := 0) hx hb dX0_begin_1 (by decide) ?_
  refine va_put (D := (dC, dI)) (ci := 0) (v := .int 0) (ty := .int) (C := RX0) (T := TX0) (N := 15) hx hb hts hiX0 tyX0 tyX0_ok nmX0 hown hK hP hD hS 0 rfl rfl 0 (by decide) (hts (.fieldLink RX0 22 "TripReckoner$Ledger" "spanLeast" "I") (by decide +kernel)) (fun _ h9 => h9) rfl (by decide +kernel) rfl rfl (Nat.le_of_ble_eq_true rfl) dX0_begin_2 (fun H locs hP hD hS => ?_)
  have hP : va_P (dC, dI) vwCl [(h0, .inr (0, [.int 0, .int g.2.1, .int g.2.2.1, .int g.2.2.2.1, .int g.2.2.2.2.1, .int g.2.2.2.2.2.1, .int g.2.2.2.2.2.2.1, .int g.2.2.2.2.2.2.2.1, .int g.2.2.2.2.2.2.2.2.1, .int g.2.2.2.2.2.2.2.2.2.1, .long g.2.2.2.2.2.2.2.2.2.2.1, .long g.2.2.2.2.2.2.2.2.2.2.2.1, .ref h1, .ref h2, .ref h3])), (h1, .inl (cJ, 20, .inr (.inl g.2.2.2.2.2.2.2.2.2.2.2.2.1))), (h2, .inl (cI, 30, .inl g.2.2.2.2.2.2.2.2.2.2.2.2.2.1)), (h3, .inl (cI, 30, .inl g.2.2.2.2.2.2.2.2.2.2.2.2.2.2))] H := hP
  have hD : va_D A [(h0, .inr (0, [.int 0, .int g.2.1, .int g.2.2.1, .int g.2.2.2.1, .int g.2.2.2.2.1, .int g.2.2.2.2.2.1, .int g.2.2.2.2.2.2.1, .int g.2.2.2.2.2.2.2.1, .int g.2.2.2.2.2.2.2.2.1, .int g.2.2.2.2.2.2.2.2.2.1, .long g.2.2.2.2.2.2.2.2.2.2.1, .long g.2.2.2.2.2.2.2.2.2.2.2.1, .ref h1, .ref h2, .ref h3])), (h1, .inl (cJ, 20, .inr (.inl g.2.2.2.2.2.2.2.2.2.2.2.2.1))), (h2, .inl (cI, 30, .inl g.2.2.2.2.2.2.2.2.2.2.2.2.2.1)), (h3, .inl (cI, 30, .inl g.2.2.2.2.2.2.2.2.2.2.2.2.2.2))] := hD
  refine lv_aload_n hx hb dX0_begin_5 rfl (lv_at hl 0 rfl) ?_
  refine lv_iload_n hx hb dX0_begin_6 rfl (lv_at hl 1 rfl) ?_
  refine va_put (D := (dC, dI)) (ci := 0) (v := .int cap) (ty := .int) (C := RX0) (T := TX0) (N := 15) hx hb hts hiX0 tyX0 tyX0_ok nmX0 hown hK hP hD hS 0 rfl rfl 1 (by decide) (hts (.fieldLink RX0 26 "TripReckoner$Ledger" "spanGreatest" "I") (by decide +kernel)) (fun _ h9 => h9) rfl (by decide +kernel) rfl rfl (Nat.le_of_ble_eq_true rfl) dX0_begin_7 (fun H locs hP hD hS => ?_)
  have hP : va_P (dC, dI) vwCl [(h0, .inr (0, [.int 0, .int cap, .int g.2.2.1, .int g.2.2.2.1, .int g.2.2.2.2.1, .int g.2.2.2.2.2.1, .int g.2.2.2.2.2.2.1, .int g.2.2.2.2.2.2.2.1, .int g.2.2.2.2.2.2.2.2.1, .int g.2.2.2.2.2.2.2.2.2.1, .long g.2.2.2.2.2.2.2.2.2.2.1, .long g.2.2.2.2.2.2.2.2.2.2.2.1, .ref h1, .ref h2, .ref h3])), (h1, .inl (cJ, 20, .inr (.inl g.2.2.2.2.2.2.2.2.2.2.2.2.1))), (h2, .inl (cI, 30, .inl g.2.2.2.2.2.2.2.2.2.2.2.2.2.1)), (h3, .inl (cI, 30, .inl g.2.2.2.2.2.2.2.2.2.2.2.2.2.2))] H := hP
  have hD : va_D A [(h0, .inr (0, [.int 0, .int cap, .int g.2.2.1, .int g.2.2.2.1, .int g.2.2.2.2.1, .int g.2.2.2.2.2.1, .int g.2.2.2.2.2.2.1, .int g.2.2.2.2.2.2.2.1, .int g.2.2.2.2.2.2.2.2.1, .int g.2.2.2.2.2.2.2.2.2.1, .long g.2.2.2.2.2.2.2.2.2.2.1, .long g.2.2.2.2.2.2.2.2.2.2.2.1, .ref h1, .ref h2, .ref h3])), (h1, .inl (cJ, 20, .inr (.inl g.2.2.2.2.2.2.2.2.2.2.2.2.1))), (h2, .inl (cI, 30, .inl g.2.2.2.2.2.2.2.2.2.2.2.2.2.1)), (h3, .inl (cI, 30, .inl g.2.2.2.2.2.2.2.2.2.2.2.2.2.2))] := hD
  refine lv_aload_n hx hb dX0_begin_10 rfl (lv_at hl 0 rfl) ?_
  refine lv_iconst (v := 0) hx hb dX0_begin_11 (by decide) ?_
  refine va_put (D := (dC, dI)) (ci := 0) (v := .int 0) (ty := .int) (C := RX0) (T := TX0) (N := 15) hx hb hts hiX0 tyX0 tyX0_ok nmX0 hown hK hP hD hS 0 rfl rfl 2 (by decide) (hts (.fieldLink RX0 29 "TripReckoner$Ledger" "refills" "I") (by decide +kernel)) (fun _ h9 => h9) rfl (by decide +kernel) rfl rfl (Nat.le_of_ble_eq_true rfl) dX0_begin_12 (fun H locs hP hD hS => ?_)
  have hP : va_P (dC, dI) vwCl [(h0, .inr (0, [.int 0, .int cap, .int 0, .int g.2.2.2.1, .int g.2.2.2.2.1, .int g.2.2.2.2.2.1, .int g.2.2.2.2.2.2.1, .int g.2.2.2.2.2.2.2.1, .int g.2.2.2.2.2.2.2.2.1, .int g.2.2.2.2.2.2.2.2.2.1, .long g.2.2.2.2.2.2.2.2.2.2.1, .long g.2.2.2.2.2.2.2.2.2.2.2.1, .ref h1, .ref h2, .ref h3])), (h1, .inl (cJ, 20, .inr (.inl g.2.2.2.2.2.2.2.2.2.2.2.2.1))), (h2, .inl (cI, 30, .inl g.2.2.2.2.2.2.2.2.2.2.2.2.2.1)), (h3, .inl (cI, 30, .inl g.2.2.2.2.2.2.2.2.2.2.2.2.2.2))] H := hP
  have hD : va_D A [(h0, .inr (0, [.int 0, .int cap, .int 0, .int g.2.2.2.1, .int g.2.2.2.2.1, .int g.2.2.2.2.2.1, .int g.2.2.2.2.2.2.1, .int g.2.2.2.2.2.2.2.1, .int g.2.2.2.2.2.2.2.2.1, .int g.2.2.2.2.2.2.2.2.2.1, .long g.2.2.2.2.2.2.2.2.2.2.1, .long g.2.2.2.2.2.2.2.2.2.2.2.1, .ref h1, .ref h2, .ref h3])), (h1, .inl (cJ, 20, .inr (.inl g.2.2.2.2.2.2.2.2.2.2.2.2.1))), (h2, .inl (cI, 30, .inl g.2.2.2.2.2.2.2.2.2.2.2.2.2.1)), (h3, .inl (cI, 30, .inl g.2.2.2.2.2.2.2.2.2.2.2.2.2.2))] := hD
  refine lv_aload_n hx hb dX0_begin_15 rfl (lv_at hl 0 rfl) ?_
  refine lv_iconst (v := 0) hx hb dX0_begin_16 (by decide) ?_
  refine va_put (D := (dC, dI)) (ci := 0) (v := .int 0) (ty := .int) (C := RX0) (T := TX0) (N := 15) hx hb hts hiX0 tyX0 tyX0_ok nmX0 hown hK hP hD hS 0 rfl rfl 3 (by decide) (hts (.fieldLink RX0 32 "TripReckoner$Ledger" "losses" "I") (by decide +kernel)) (fun _ h9 => h9) rfl (by decide +kernel) rfl rfl (Nat.le_of_ble_eq_true rfl) dX0_begin_17 (fun H locs hP hD hS => ?_)
  have hP : va_P (dC, dI) vwCl [(h0, .inr (0, [.int 0, .int cap, .int 0, .int 0, .int g.2.2.2.2.1, .int g.2.2.2.2.2.1, .int g.2.2.2.2.2.2.1, .int g.2.2.2.2.2.2.2.1, .int g.2.2.2.2.2.2.2.2.1, .int g.2.2.2.2.2.2.2.2.2.1, .long g.2.2.2.2.2.2.2.2.2.2.1, .long g.2.2.2.2.2.2.2.2.2.2.2.1, .ref h1, .ref h2, .ref h3])), (h1, .inl (cJ, 20, .inr (.inl g.2.2.2.2.2.2.2.2.2.2.2.2.1))), (h2, .inl (cI, 30, .inl g.2.2.2.2.2.2.2.2.2.2.2.2.2.1)), (h3, .inl (cI, 30, .inl g.2.2.2.2.2.2.2.2.2.2.2.2.2.2))] H := hP
  have hD : va_D A [(h0, .inr (0, [.int 0, .int cap, .int 0, .int 0, .int g.2.2.2.2.1, .int g.2.2.2.2.2.1, .int g.2.2.2.2.2.2.1, .int g.2.2.2.2.2.2.2.1, .int g.2.2.2.2.2.2.2.2.1, .int g.2.2.2.2.2.2.2.2.2.1, .long g.2.2.2.2.2.2.2.2.2.2.1, .long g.2.2.2.2.2.2.2.2.2.2.2.1, .ref h1, .ref h2, .ref h3])), (h1, .inl (cJ, 20, .inr (.inl g.2.2.2.2.2.2.2.2.2.2.2.2.1))), (h2, .inl (cI, 30, .inl g.2.2.2.2.2.2.2.2.2.2.2.2.2.1)), (h3, .inl (cI, 30, .inl g.2.2.2.2.2.2.2.2.2.2.2.2.2.2))] := hD
  refine lv_aload_n hx hb dX0_begin_20 rfl (lv_at hl 0 rfl) ?_
  refine lv_iconst (v := 0) hx hb dX0_begin_21 (by decide) ?_
  refine va_put (D := (dC, dI)) (ci := 0) (v := .int 0) (ty := .int) (C := RX0) (T := TX0) (N := 15) hx hb hts hiX0 tyX0 tyX0_ok nmX0 hown hK hP hD hS 0 rfl rfl 4 (by decide) (hts (.fieldLink RX0 35 "TripReckoner$Ledger" "lies" "I") (by decide +kernel)) (fun _ h9 => h9) rfl (by decide +kernel) rfl rfl (Nat.le_of_ble_eq_true rfl) dX0_begin_22 (fun H locs hP hD hS => ?_)
  have hP : va_P (dC, dI) vwCl [(h0, .inr (0, [.int 0, .int cap, .int 0, .int 0, .int 0, .int g.2.2.2.2.2.1, .int g.2.2.2.2.2.2.1, .int g.2.2.2.2.2.2.2.1, .int g.2.2.2.2.2.2.2.2.1, .int g.2.2.2.2.2.2.2.2.2.1, .long g.2.2.2.2.2.2.2.2.2.2.1, .long g.2.2.2.2.2.2.2.2.2.2.2.1, .ref h1, .ref h2, .ref h3])), (h1, .inl (cJ, 20, .inr (.inl g.2.2.2.2.2.2.2.2.2.2.2.2.1))), (h2, .inl (cI, 30, .inl g.2.2.2.2.2.2.2.2.2.2.2.2.2.1)), (h3, .inl (cI, 30, .inl g.2.2.2.2.2.2.2.2.2.2.2.2.2.2))] H := hP
  have hD : va_D A [(h0, .inr (0, [.int 0, .int cap, .int 0, .int 0, .int 0, .int g.2.2.2.2.2.1, .int g.2.2.2.2.2.2.1, .int g.2.2.2.2.2.2.2.1, .int g.2.2.2.2.2.2.2.2.1, .int g.2.2.2.2.2.2.2.2.2.1, .long g.2.2.2.2.2.2.2.2.2.2.1, .long g.2.2.2.2.2.2.2.2.2.2.2.1, .ref h1, .ref h2, .ref h3])), (h1, .inl (cJ, 20, .inr (.inl g.2.2.2.2.2.2.2.2.2.2.2.2.1))), (h2, .inl (cI, 30, .inl g.2.2.2.2.2.2.2.2.2.2.2.2.2.1)), (h3, .inl (cI, 30, .inl g.2.2.2.2.2.2.2.2.2.2.2.2.2.2))] := hD
  refine lv_aload_n hx hb dX0_begin_25 rfl (lv_at hl 0 rfl) ?_
  refine lv_iconst (v := 0) hx hb dX0_begin_26 (by decide) ?_
  refine va_put (D := (dC, dI)) (ci := 0) (v := .int 0) (ty := .int) (C := RX0) (T := TX0) (N := 15) hx hb hts hiX0 tyX0 tyX0_ok nmX0 hown hK hP hD hS 0 rfl rfl 5 (by decide) (hts (.fieldLink RX0 38 "TripReckoner$Ledger" "jumps" "I") (by decide +kernel)) (fun _ h9 => h9) rfl (by decide +kernel) rfl rfl (Nat.le_of_ble_eq_true rfl) dX0_begin_27 (fun H locs hP hD hS => ?_)
  have hP : va_P (dC, dI) vwCl [(h0, .inr (0, [.int 0, .int cap, .int 0, .int 0, .int 0, .int 0, .int g.2.2.2.2.2.2.1, .int g.2.2.2.2.2.2.2.1, .int g.2.2.2.2.2.2.2.2.1, .int g.2.2.2.2.2.2.2.2.2.1, .long g.2.2.2.2.2.2.2.2.2.2.1, .long g.2.2.2.2.2.2.2.2.2.2.2.1, .ref h1, .ref h2, .ref h3])), (h1, .inl (cJ, 20, .inr (.inl g.2.2.2.2.2.2.2.2.2.2.2.2.1))), (h2, .inl (cI, 30, .inl g.2.2.2.2.2.2.2.2.2.2.2.2.2.1)), (h3, .inl (cI, 30, .inl g.2.2.2.2.2.2.2.2.2.2.2.2.2.2))] H := hP
  have hD : va_D A [(h0, .inr (0, [.int 0, .int cap, .int 0, .int 0, .int 0, .int 0, .int g.2.2.2.2.2.2.1, .int g.2.2.2.2.2.2.2.1, .int g.2.2.2.2.2.2.2.2.1, .int g.2.2.2.2.2.2.2.2.2.1, .long g.2.2.2.2.2.2.2.2.2.2.1, .long g.2.2.2.2.2.2.2.2.2.2.2.1, .ref h1, .ref h2, .ref h3])), (h1, .inl (cJ, 20, .inr (.inl g.2.2.2.2.2.2.2.2.2.2.2.2.1))), (h2, .inl (cI, 30, .inl g.2.2.2.2.2.2.2.2.2.2.2.2.2.1)), (h3, .inl (cI, 30, .inl g.2.2.2.2.2.2.2.2.2.2.2.2.2.2))] := hD
  refine lv_aload_n hx hb dX0_begin_30 rfl (lv_at hl 0 rfl) ?_
  refine lv_iconst (v := 0) hx hb dX0_begin_31 (by decide) ?_
  refine va_put (D := (dC, dI)) (ci := 0) (v := .int 0) (ty := .int) (C := RX0) (T := TX0) (N := 15) hx hb hts hiX0 tyX0 tyX0_ok nmX0 hown hK hP hD hS 0 rfl rfl 6 (by decide) (hts (.fieldLink RX0 41 "TripReckoner$Ledger" "shownLitres" "I") (by decide +kernel)) (fun _ h9 => h9) rfl (by decide +kernel) rfl rfl (Nat.le_of_ble_eq_true rfl) dX0_begin_32 (fun H locs hP hD hS => ?_)
  have hP : va_P (dC, dI) vwCl [(h0, .inr (0, [.int 0, .int cap, .int 0, .int 0, .int 0, .int 0, .int 0, .int g.2.2.2.2.2.2.2.1, .int g.2.2.2.2.2.2.2.2.1, .int g.2.2.2.2.2.2.2.2.2.1, .long g.2.2.2.2.2.2.2.2.2.2.1, .long g.2.2.2.2.2.2.2.2.2.2.2.1, .ref h1, .ref h2, .ref h3])), (h1, .inl (cJ, 20, .inr (.inl g.2.2.2.2.2.2.2.2.2.2.2.2.1))), (h2, .inl (cI, 30, .inl g.2.2.2.2.2.2.2.2.2.2.2.2.2.1)), (h3, .inl (cI, 30, .inl g.2.2.2.2.2.2.2.2.2.2.2.2.2.2))] H := hP
  have hD : va_D A [(h0, .inr (0, [.int 0, .int cap, .int 0, .int 0, .int 0, .int 0, .int 0, .int g.2.2.2.2.2.2.2.1, .int g.2.2.2.2.2.2.2.2.1, .int g.2.2.2.2.2.2.2.2.2.1, .long g.2.2.2.2.2.2.2.2.2.2.1, .long g.2.2.2.2.2.2.2.2.2.2.2.1, .ref h1, .ref h2, .ref h3])), (h1, .inl (cJ, 20, .inr (.inl g.2.2.2.2.2.2.2.2.2.2.2.2.1))), (h2, .inl (cI, 30, .inl g.2.2.2.2.2.2.2.2.2.2.2.2.2.1)), (h3, .inl (cI, 30, .inl g.2.2.2.2.2.2.2.2.2.2.2.2.2.2))] := hD
  refine lv_aload_n hx hb dX0_begin_35 rfl (lv_at hl 0 rfl) ?_
  refine lv_iconst (v := 0) hx hb dX0_begin_36 (by decide) ?_
  refine va_put (D := (dC, dI)) (ci := 0) (v := .int 0) (ty := .boolean) (C := RX0) (T := TX0) (N := 15) hx hb hts hiX0 tyX0 tyX0_ok nmX0 hown hK hP hD hS 0 rfl rfl 7 (by decide) (hts (.fieldLink RX0 44 "TripReckoner$Ledger" "settling" "Z") (by decide +kernel)) (fun _ h9 => h9) rfl (by decide +kernel) rfl rfl (Nat.le_of_ble_eq_true rfl) dX0_begin_37 (fun H locs hP hD hS => ?_)
  have hP : va_P (dC, dI) vwCl [(h0, .inr (0, [.int 0, .int cap, .int 0, .int 0, .int 0, .int 0, .int 0, .int 0, .int g.2.2.2.2.2.2.2.2.1, .int g.2.2.2.2.2.2.2.2.2.1, .long g.2.2.2.2.2.2.2.2.2.2.1, .long g.2.2.2.2.2.2.2.2.2.2.2.1, .ref h1, .ref h2, .ref h3])), (h1, .inl (cJ, 20, .inr (.inl g.2.2.2.2.2.2.2.2.2.2.2.2.1))), (h2, .inl (cI, 30, .inl g.2.2.2.2.2.2.2.2.2.2.2.2.2.1)), (h3, .inl (cI, 30, .inl g.2.2.2.2.2.2.2.2.2.2.2.2.2.2))] H := hP
  have hD : va_D A [(h0, .inr (0, [.int 0, .int cap, .int 0, .int 0, .int 0, .int 0, .int 0, .int 0, .int g.2.2.2.2.2.2.2.2.1, .int g.2.2.2.2.2.2.2.2.2.1, .long g.2.2.2.2.2.2.2.2.2.2.1, .long g.2.2.2.2.2.2.2.2.2.2.2.1, .ref h1, .ref h2, .ref h3])), (h1, .inl (cJ, 20, .inr (.inl g.2.2.2.2.2.2.2.2.2.2.2.2.1))), (h2, .inl (cI, 30, .inl g.2.2.2.2.2.2.2.2.2.2.2.2.2.1)), (h3, .inl (cI, 30, .inl g.2.2.2.2.2.2.2.2.2.2.2.2.2.2))] := hD
  refine lv_iconst (v := 0) hx hb dX0_begin_40 (by decide) ?_
  refine lv_istore_n (lv' := [(2, .int 0), (0, .ref h0), (1, .int cap)]) hx hb dX0_begin_41 rfl hl (by decide) rfl (fun ls hl => ?_)
  refine lv_iload_n hx hb dX0_begin_42 rfl (lv_at hl 0 rfl) ?_
  refine lv_iconst (v := 4) hx hb dX0_begin_43 (by decide) ?_
  refine lv_icmp_ge (tgt := 58) hx hb dX0_begin_44 (by decide) (fun c_1 => absurd c_1 (by decide)) (fun c_1 => ?_)
  refine lv_aload_n hx hb dX0_begin_47 rfl (lv_at hl 1 rfl) ?_
  refine lv_iload_n hx hb dX0_begin_48 rfl (lv_at hl 0 rfl) ?_
  have hPc := hP.sub (ws' := [(h0, .inr (0, [.int 0, .int cap, .int 0, .int 0, .int 0, .int 0, .int 0, .int 0, .int g.2.2.2.2.2.2.2.2.1, .int g.2.2.2.2.2.2.2.2.2.1, .long g.2.2.2.2.2.2.2.2.2.2.1, .long g.2.2.2.2.2.2.2.2.2.2.2.1, .ref h1, .ref h2, .ref h3])), (h1, .inl (cJ, 20, .inr (.inl g.2.2.2.2.2.2.2.2.2.2.2.2.1))), (h2, .inl (cI, 30, .inl g.2.2.2.2.2.2.2.2.2.2.2.2.2.1)), (h3, .inl (cI, 30, .inl g.2.2.2.2.2.2.2.2.2.2.2.2.2.2))]) [0, 1, 2, 3] rfl
  have hDc := hD.sub (ws' := [(h0, .inr (0, [.int 0, .int cap, .int 0, .int 0, .int 0, .int 0, .int 0, .int 0, .int g.2.2.2.2.2.2.2.2.1, .int g.2.2.2.2.2.2.2.2.2.1, .long g.2.2.2.2.2.2.2.2.2.2.1, .long g.2.2.2.2.2.2.2.2.2.2.2.1, .ref h1, .ref h2, .ref h3])), (h1, .inl (cJ, 20, .inr (.inl g.2.2.2.2.2.2.2.2.2.2.2.2.1))), (h2, .inl (cI, 30, .inl g.2.2.2.2.2.2.2.2.2.2.2.2.2.1)), (h3, .inl (cI, 30, .inl g.2.2.2.2.2.2.2.2.2.2.2.2.2.2))]) [0, 1, 2, 3] (by decide) rfl
  have hFc := va_free (wc := [(h0, .inr (0, [.int 0, .int cap, .int 0, .int 0, .int 0, .int 0, .int 0, .int 0, .int g.2.2.2.2.2.2.2.2.1, .int g.2.2.2.2.2.2.2.2.2.1, .long g.2.2.2.2.2.2.2.2.2.2.1, .long g.2.2.2.2.2.2.2.2.2.2.2.1, .ref h1, .ref h2, .ref h3])), (h1, .inl (cJ, 20, .inr (.inl g.2.2.2.2.2.2.2.2.2.2.2.2.1))), (h2, .inl (cI, 30, .inl g.2.2.2.2.2.2.2.2.2.2.2.2.2.1)), (h3, .inl (cI, 30, .inl g.2.2.2.2.2.2.2.2.2.2.2.2.2.2))]) hD hS hA [0, 1, 2, 3] rfl
  refine va_callv (va_runV (As := [.int 0]) (rest := []) ⟨hx, hb, hml, hown, hts⟩ (kX0_clearMark l dC dI cI cJ h0 h1 h2 h3 H.size 0 (0, cap, 0, 0, 0, 0, 0, 0, g.2.2.2.2.2.2.2.2.1, g.2.2.2.2.2.2.2.2.2.1, g.2.2.2.2.2.2.2.2.2.2.1, g.2.2.2.2.2.2.2.2.2.2.2.1, g.2.2.2.2.2.2.2.2.2.2.2.2.1, g.2.2.2.2.2.2.2.2.2.2.2.2.2.1, g.2.2.2.2.2.2.2.2.2.2.2.2.2.2) (vd (by decide +kernel))) (cwV 1 hts gX0_begin_X0_clearMark rfl rfl rfl (by decide +kernel) ⟨Nat.le_of_ble_eq_true rfl, Nat.le_of_ble_eq_true rfl⟩) ⟨fun a U g mk q => by obtain ⟨q0, q1, qP, qK, qD⟩ := q; exact ⟨q0, q1, qP, va_K.moved (u := U) (U := U.calling g mk a) (Vm.Alike.refl U.vm) qK, qD⟩, va_recv hK hPc (ci := 0) (q0 := 0) rfl rfl, fun U hU hW => ⟨rfl, by rw [hU], by rw [hU]; exact hPc, va_K.moved hW.alike hK, hDc.weaken (fun _ _ _ _ => trivial)⟩⟩ rfl rfl hl.1 rfl (lv_room (Nat.le_of_ble_eq_true rfl)) dX0_begin_49 ⟨Nat.le_of_ble_eq_true rfl, Nat.le_of_ble_eq_true rfl⟩) hS (fun q _ h => hFc q h) hFc (fun _ t H1 locs ht hvm hw hB hz1 hk1 hS => ?_)
  obtain ⟨hP1, hK1, hD1⟩ := hB
  rw [ht] at hP1
  obtain ⟨g_3, eg_3⟩ : ∃ z, z = sX0_clearMark 0 (0, cap, 0, 0, 0, 0, 0, 0, g.2.2.2.2.2.2.2.2.1, g.2.2.2.2.2.2.2.2.2.1, g.2.2.2.2.2.2.2.2.2.2.1, g.2.2.2.2.2.2.2.2.2.2.2.1, g.2.2.2.2.2.2.2.2.2.2.2.2.1, g.2.2.2.2.2.2.2.2.2.2.2.2.2.1, g.2.2.2.2.2.2.2.2.2.2.2.2.2.2) := ⟨_, rfl⟩
  rw [← eg_3] at hP1 hD1
  obtain ⟨hP, hD⟩ := va_join (wr := []) (w1 := [cL0 h0 h1 h2 h3 g_3, cL1 cJ h1 g_3, cL2 cI h2 g_3, cL3 cI h3 g_3]) hP hD [0, 1, 2, 3] [] rfl rfl (by decide) (by decide) hk1 hFc hP1 hD1
  generalize H1 = H at hP hS ⊢
  have hP : va_P (dC, dI) vwCl [cL0 h0 h1 h2 h3 g_3, cL1 cJ h1 g_3, cL2 cI h2 g_3, cL3 cI h3 g_3] H := hP
  have hD : va_D A [cL0 h0 h1 h2 h3 g_3, cL1 cJ h1 g_3, cL2 cI h2 g_3, cL3 cI h3 g_3] := hD
  refine lv_iinc (v := 1) (lv' := [(2, .int 1), (0, .ref h0), (1, .int cap)]) hx hb dX0_begin_52 hl (k := 0) rfl (by decide) (by decide) rfl (fun ls hl => ?_)
  refine lv_goto (tgt := 42) hx hb dX0_begin_55 (by decide) ?_
  refine lv_iload_n hx hb dX0_begin_42 rfl (lv_at hl 0 rfl) ?_
  refine lv_iconst (v := 4) hx hb dX0_begin_43 (by decide) ?_
  refine lv_icmp_ge (tgt := 58) hx hb dX0_begin_44 (by decide) (fun c_4 => absurd c_4 (by decide)) (fun c_4 => ?_)
  refine lv_aload_n hx hb dX0_begin_47 rfl (lv_at hl 1 rfl) ?_
  refine lv_iload_n hx hb dX0_begin_48 rfl (lv_at hl 0 rfl) ?_
  have hPc := hP.sub (ws' := [cL0 h0 h1 h2 h3 g_3, cL1 cJ h1 g_3, cL2 cI h2 g_3, cL3 cI h3 g_3]) [0, 1, 2, 3] rfl
  have hDc := hD.sub (ws' := [cL0 h0 h1 h2 h3 g_3, cL1 cJ h1 g_3, cL2 cI h2 g_3, cL3 cI h3 g_3]) [0, 1, 2, 3] (by decide) rfl
  have hFc := va_free (wc := [cL0 h0 h1 h2 h3 g_3, cL1 cJ h1 g_3, cL2 cI h2 g_3, cL3 cI h3 g_3]) hD hS hA [0, 1, 2, 3] rfl
  refine va_callv (va_runV (As := [.int 1]) (rest := []) ⟨hx, hb, hml, hown, hts⟩ (kX0_clearMark l dC dI cI cJ h0 h1 h2 h3 H.size 1 g_3 (vd (by decide +kernel))) (cwV 1 hts gX0_begin_X0_clearMark rfl rfl rfl (by decide +kernel) ⟨Nat.le_of_ble_eq_true rfl, Nat.le_of_ble_eq_true rfl⟩) ⟨fun a U g mk q => by obtain ⟨q0, q1, qP, qK, qD⟩ := q; exact ⟨q0, q1, qP, va_K.moved (u := U) (U := U.calling g mk a) (Vm.Alike.refl U.vm) qK, qD⟩, va_recv hK hPc (ci := 0) (q0 := 0) rfl rfl, fun U hU hW => ⟨rfl, by rw [hU], by rw [hU]; exact hPc, va_K.moved hW.alike hK, hDc.weaken (fun _ _ _ _ => trivial)⟩⟩ rfl rfl hl.1 rfl (lv_room (Nat.le_of_ble_eq_true rfl)) dX0_begin_49 ⟨Nat.le_of_ble_eq_true rfl, Nat.le_of_ble_eq_true rfl⟩) hS (fun q _ h => hFc q h) hFc (fun _ t H1 locs ht hvm hw hB hz1 hk1 hS => ?_)
  obtain ⟨hP1, hK1, hD1⟩ := hB
  rw [ht] at hP1
  obtain ⟨g_6, eg_6⟩ : ∃ z, z = sX0_clearMark 1 g_3 := ⟨_, rfl⟩
  rw [← eg_6] at hP1 hD1
  obtain ⟨hP, hD⟩ := va_join (wr := []) (w1 := [cL0 h0 h1 h2 h3 g_6, cL1 cJ h1 g_6, cL2 cI h2 g_6, cL3 cI h3 g_6]) hP hD [0, 1, 2, 3] [] rfl rfl (by decide) (by decide) hk1 hFc hP1 hD1
  generalize H1 = H at hP hS ⊢
  have hP : va_P (dC, dI) vwCl [cL0 h0 h1 h2 h3 g_6, cL1 cJ h1 g_6, cL2 cI h2 g_6, cL3 cI h3 g_6] H := hP
  have hD : va_D A [cL0 h0 h1 h2 h3 g_6, cL1 cJ h1 g_6, cL2 cI h2 g_6, cL3 cI h3 g_6] := hD
  refine lv_iinc (v := 2) (lv' := [(2, .int 2), (0, .ref h0), (1, .int cap)]) hx hb dX0_begin_52 hl (k := 0) rfl (by decide) (by decide) rfl (fun ls hl => ?_)
  refine lv_goto (tgt := 42) hx hb dX0_begin_55 (by decide) ?_
  refine lv_iload_n hx hb dX0_begin_42 rfl (lv_at hl 0 rfl) ?_
  refine lv_iconst (v := 4) hx hb dX0_begin_43 (by decide) ?_
  refine lv_icmp_ge (tgt := 58) hx hb dX0_begin_44 (by decide) (fun c_7 => absurd c_7 (by decide)) (fun c_7 => ?_)
  refine lv_aload_n hx hb dX0_begin_47 rfl (lv_at hl 1 rfl) ?_
  refine lv_iload_n hx hb dX0_begin_48 rfl (lv_at hl 0 rfl) ?_
  have hPc := hP.sub (ws' := [cL0 h0 h1 h2 h3 g_6, cL1 cJ h1 g_6, cL2 cI h2 g_6, cL3 cI h3 g_6]) [0, 1, 2, 3] rfl
  have hDc := hD.sub (ws' := [cL0 h0 h1 h2 h3 g_6, cL1 cJ h1 g_6, cL2 cI h2 g_6, cL3 cI h3 g_6]) [0, 1, 2, 3] (by decide) rfl
  have hFc := va_free (wc := [cL0 h0 h1 h2 h3 g_6, cL1 cJ h1 g_6, cL2 cI h2 g_6, cL3 cI h3 g_6]) hD hS hA [0, 1, 2, 3] rfl
  refine va_callv (va_runV (As := [.int 2]) (rest := []) ⟨hx, hb, hml, hown, hts⟩ (kX0_clearMark l dC dI cI cJ h0 h1 h2 h3 H.size 2 g_6 (vd (by decide +kernel))) (cwV 1 hts gX0_begin_X0_clearMark rfl rfl rfl (by decide +kernel) ⟨Nat.le_of_ble_eq_true rfl, Nat.le_of_ble_eq_true rfl⟩) ⟨fun a U g mk q => by obtain ⟨q0, q1, qP, qK, qD⟩ := q; exact ⟨q0, q1, qP, va_K.moved (u := U) (U := U.calling g mk a) (Vm.Alike.refl U.vm) qK, qD⟩, va_recv hK hPc (ci := 0) (q0 := 0) rfl rfl, fun U hU hW => ⟨rfl, by rw [hU], by rw [hU]; exact hPc, va_K.moved hW.alike hK, hDc.weaken (fun _ _ _ _ => trivial)⟩⟩ rfl rfl hl.1 rfl (lv_room (Nat.le_of_ble_eq_true rfl)) dX0_begin_49 ⟨Nat.le_of_ble_eq_true rfl, Nat.le_of_ble_eq_true rfl⟩) hS (fun q _ h => hFc q h) hFc (fun _ t H1 locs ht hvm hw hB hz1 hk1 hS => ?_)
  obtain ⟨hP1, hK1, hD1⟩ := hB
  rw [ht] at hP1
  obtain ⟨g_9, eg_9⟩ : ∃ z, z = sX0_clearMark 2 g_6 := ⟨_, rfl⟩
  rw [← eg_9] at hP1 hD1
  obtain ⟨hP, hD⟩ := va_join (wr := []) (w1 := [cL0 h0 h1 h2 h3 g_9, cL1 cJ h1 g_9, cL2 cI h2 g_9, cL3 cI h3 g_9]) hP hD [0, 1, 2, 3] [] rfl rfl (by decide) (by decide) hk1 hFc hP1 hD1
  generalize H1 = H at hP hS ⊢
  have hP : va_P (dC, dI) vwCl [cL0 h0 h1 h2 h3 g_9, cL1 cJ h1 g_9, cL2 cI h2 g_9, cL3 cI h3 g_9] H := hP
  have hD : va_D A [cL0 h0 h1 h2 h3 g_9, cL1 cJ h1 g_9, cL2 cI h2 g_9, cL3 cI h3 g_9] := hD
  refine lv_iinc (v := 3) (lv' := [(2, .int 3), (0, .ref h0), (1, .int cap)]) hx hb dX0_begin_52 hl (k := 0) rfl (by decide) (by decide) rfl (fun ls hl => ?_)
  refine lv_goto (tgt := 42) hx hb dX0_begin_55 (by decide) ?_
  refine lv_iload_n hx hb dX0_begin_42 rfl (lv_at hl 0 rfl) ?_
  refine lv_iconst (v := 4) hx hb dX0_begin_43 (by decide) ?_
  refine lv_icmp_ge (tgt := 58) hx hb dX0_begin_44 (by decide) (fun c_10 => absurd c_10 (by decide)) (fun c_10 => ?_)
  refine lv_aload_n hx hb dX0_begin_47 rfl (lv_at hl 1 rfl) ?_
  refine lv_iload_n hx hb dX0_begin_48 rfl (lv_at hl 0 rfl) ?_
  have hPc := hP.sub (ws' := [cL0 h0 h1 h2 h3 g_9, cL1 cJ h1 g_9, cL2 cI h2 g_9, cL3 cI h3 g_9]) [0, 1, 2, 3] rfl
  have hDc := hD.sub (ws' := [cL0 h0 h1 h2 h3 g_9, cL1 cJ h1 g_9, cL2 cI h2 g_9, cL3 cI h3 g_9]) [0, 1, 2, 3] (by decide) rfl
  have hFc := va_free (wc := [cL0 h0 h1 h2 h3 g_9, cL1 cJ h1 g_9, cL2 cI h2 g_9, cL3 cI h3 g_9]) hD hS hA [0, 1, 2, 3] rfl
  refine va_callv (va_runV (As := [.int 3]) (rest := []) ⟨hx, hb, hml, hown, hts⟩ (kX0_clearMark l dC dI cI cJ h0 h1 h2 h3 H.size 3 g_9 (vd (by decide +kernel))) (cwV 1 hts gX0_begin_X0_clearMark rfl rfl rfl (by decide +kernel) ⟨Nat.le_of_ble_eq_true rfl, Nat.le_of_ble_eq_true rfl⟩) ⟨fun a U g mk q => by obtain ⟨q0, q1, qP, qK, qD⟩ := q; exact ⟨q0, q1, qP, va_K.moved (u := U) (U := U.calling g mk a) (Vm.Alike.refl U.vm) qK, qD⟩, va_recv hK hPc (ci := 0) (q0 := 0) rfl rfl, fun U hU hW => ⟨rfl, by rw [hU], by rw [hU]; exact hPc, va_K.moved hW.alike hK, hDc.weaken (fun _ _ _ _ => trivial)⟩⟩ rfl rfl hl.1 rfl (lv_room (Nat.le_of_ble_eq_true rfl)) dX0_begin_49 ⟨Nat.le_of_ble_eq_true rfl, Nat.le_of_ble_eq_true rfl⟩) hS (fun q _ h => hFc q h) hFc (fun _ t H1 locs ht hvm hw hB hz1 hk1 hS => ?_)
  obtain ⟨hP1, hK1, hD1⟩ := hB
  rw [ht] at hP1
  obtain ⟨g_12, eg_12⟩ : ∃ z, z = sX0_clearMark 3 g_9 := ⟨_, rfl⟩
  rw [← eg_12] at hP1 hD1
  obtain ⟨hP, hD⟩ := va_join (wr := []) (w1 := [cL0 h0 h1 h2 h3 g_12, cL1 cJ h1 g_12, cL2 cI h2 g_12, cL3 cI h3 g_12]) hP hD [0, 1, 2, 3] [] rfl rfl (by decide) (by decide) hk1 hFc hP1 hD1
  generalize H1 = H at hP hS ⊢
  have hP : va_P (dC, dI) vwCl [cL0 h0 h1 h2 h3 g_12, cL1 cJ h1 g_12, cL2 cI h2 g_12, cL3 cI h3 g_12] H := hP
  have hD : va_D A [cL0 h0 h1 h2 h3 g_12, cL1 cJ h1 g_12, cL2 cI h2 g_12, cL3 cI h3 g_12] := hD
  refine lv_iinc (v := 4) (lv' := [(2, .int 4), (0, .ref h0), (1, .int cap)]) hx hb dX0_begin_52 hl (k := 0) rfl (by decide) (by decide) rfl (fun ls hl => ?_)
  refine lv_goto (tgt := 42) hx hb dX0_begin_55 (by decide) ?_
  refine lv_iload_n hx hb dX0_begin_42 rfl (lv_at hl 0 rfl) ?_
  refine lv_iconst (v := 4) hx hb dX0_begin_43 (by decide) ?_
  refine lv_icmp_ge (tgt := 58) hx hb dX0_begin_44 (by decide) (fun c_13 => ?_) (fun c_13 => absurd (by decide) c_13)
  have es0 : sX0_begin cap g = g_12 := by rw [sX0_begin, ← eg_3, sX0_begin_g_3, ← eg_6, sX0_begin_g_6, ← eg_9, sX0_begin_g_9, ← eg_12, sX0_begin_g_12]
  refine W.vret hx hb hr (fun t ht hW => ⟨⟨(), rfl, trivial, ?_⟩, hS.F ht⟩) hS.2.2 dX0_begin_58
  rw [es0]; exact ⟨by rw [ht]; exact hP, va_K.moved hW.alike hK, hD⟩

def sX0_copyFrom (g : LG) (k : LG) : LG :=
  (k.1, k.2.1, k.2.2.1, k.2.2.2.1, k.2.2.2.2.1, k.2.2.2.2.2.1, k.2.2.2.2.2.2.1, k.2.2.2.2.2.2.2.1, k.2.2.2.2.2.2.2.2.1, k.2.2.2.2.2.2.2.2.2.1, k.2.2.2.2.2.2.2.2.2.2.1, k.2.2.2.2.2.2.2.2.2.2.2.1, va_cpy k.2.2.2.2.2.2.2.2.2.2.2.2.1 g.2.2.2.2.2.2.2.2.2.2.2.2.1 0 0 20, va_cpy k.2.2.2.2.2.2.2.2.2.2.2.2.2.1 g.2.2.2.2.2.2.2.2.2.2.2.2.2.1 0 0 30, va_cpy k.2.2.2.2.2.2.2.2.2.2.2.2.2.2 g.2.2.2.2.2.2.2.2.2.2.2.2.2.2 0 0 30)
set_option maxHeartbeats 4000000 in
set_option maxRecDepth 100000 in
theorem kX0_copyFrom (l : Launch) (dC : Nat → ClassId) (dI : Nat → Nat → Nat) (cI cJ : ClassId) (h0 h1 h2 h3 k0 k1 k2 k3 : Nat) (sz : Nat)  (g : LG) (k : LG) (hz : narrow .boolean (.int k.2.2.2.2.2.2.2.1) = .int k.2.2.2.2.2.2.2.1 ∧ fits .boolean (.int k.2.2.2.2.2.2.2.1) = true) : Met l yX0_copyFrom wsX0_copyFrom ({ frames := 1, cells := 0, slots := 0, locals := 48 }) (va_Pc [.ref h0, .ref k0] (fun U => U.heap.size = sz ∧ va_P (dC, dI) vwCl [cL0 h0 h1 h2 h3 g, cL1 cJ h1 g, cL2 cI h2 g, cL3 cI h3 g, cL0 k0 k1 k2 k3 k, cL1 cJ k1 k, cL2 cI k2 k, cL3 cI k3 k] U.heap ∧ va_K (dC, dI) vwCl [(cI, .int), (cJ, .long)] U ∧ va_D (fun _ => True) [cL0 h0 h1 h2 h3 g, cL1 cJ h1 g, cL2 cI h2 g, cL3 cI h3 g, cL0 k0 k1 k2 k3 k, cL1 cJ k1 k, cL2 cI k2 k, cL3 cI k3 k])) (va_Qv (fun _ : Unit => True) (fun _ t => va_P (dC, dI) vwCl [cL0 h0 h1 h2 h3 (sX0_copyFrom g k), cL1 cJ h1 (sX0_copyFrom g k), cL2 cI h2 (sX0_copyFrom g k), cL3 cI h3 (sX0_copyFrom g k), cL0 k0 k1 k2 k3 k, cL1 cJ k1 k, cL2 cI k2 k, cL3 cI k3 k] t.heap ∧ va_K (dC, dI) vwCl [(cI, .int), (cJ, .long)] t ∧ va_D (va_A [cL0 h0 h1 h2 h3 g, cL1 cJ h1 g, cL2 cI h2 g, cL3 cI h3 g, cL0 k0 k1 k2 k3 k, cL1 cJ k1 k, cL2 cI k2 k, cL3 cI k3 k] sz) [cL0 h0 h1 h2 h3 (sX0_copyFrom g k), cL1 cJ h1 (sX0_copyFrom g k), cL2 cI h2 (sX0_copyFrom g k), cL3 cI h3 (sX0_copyFrom g k), cL0 k0 k1 k2 k3 k, cL1 cJ k1 k, cL2 cI k2 k, cL3 cI k3 k]) (va_A [cL0 h0 h1 h2 h3 g, cL1 cJ h1 g, cL2 cI h2 g, cL3 cI h3 g, cL0 k0 k1 k2 k3 k, cL1 cJ k1 k, cL2 cI k2 k, cL3 cI k3 k] sz)) 0 0 (va_A [cL0 h0 h1 h2 h3 g, cL1 cJ h1 g, cL2 cI h2 g, cL3 cI h3 g, cL0 k0 k1 k2 k3 k, cL1 cJ k1 k, cL2 cI k2 k, cL3 cI k3 k] sz) := by
  refine Met.ofW (cc := cX0_copyFrom) (maxL := 2) (ret := none) (by decide) rfl ?_
  intro p e s m args below meth c s₁ B hml hv
  obtain ⟨rfl, hsz, hP, hK, hD0⟩ := hv
  have hx := B.exec
  have hb := B.bytes
  have hr := B.returns
  have hts := atoms_spec (ws := wsX0_copyFrom) B.pre
  have hown : s.vm.findClass RX0 = some m.cls := findClass_of_methodNamed B.named
  have hlocks := B.notSynchronized
  have hiX0 : ∀ w ∈ u_ws RX0 TX0 15, w ∈ wsX0_copyFrom := by decide +kernel
  subst hsz
  have hD := hD0.self (sz := s.heap.size)
  generalize hAe : va_A [cL0 h0 h1 h2 h3 g, cL1 cJ h1 g, cL2 cI h2 g, cL3 cI h3 g, cL0 k0 k1 k2 k3 k, cL1 cJ k1 k, cL2 cI k2 k, cL3 cI k3 k] s.heap.size = A at hD ⊢
  have hA : ∀ q : Nat, s.heap.size ≤ q → A q := fun q h => by rw [← hAe]; exact Or.inr h
  have hS : va_S A s.heap s.heap [] := va_S.rf
  have hl := lv_entry ([.ref h0, .ref k0]) (n := 2) (Nat.le_of_ble_eq_true rfl)
  rw [lg_entry_eq]
  generalize (lg_sl ([.ref h0, .ref k0]) ++ List.replicate (2 - (lg_sl ([.ref h0, .ref k0])).length) Slot.unset).toArray = ls at hl ⊢
  have hl : lv_has ls 2 [(0, .ref h0), (1, .ref k0)] := hl
  have hP : va_P (dC, dI) vwCl [cL0 h0 h1 h2 h3 g, cL1 cJ h1 g, cL2 cI h2 g, cL3 cI h3 g, cL0 k0 k1 k2 k3 k, cL1 cJ k1 k, cL2 cI k2 k, cL3 cI k3 k] s.heap := hP
  refine lv_aload_n hx hb dX0_copyFrom_0 rfl (lv_at hl 0 rfl) ?_
  refine lv_aload_n hx hb dX0_copyFrom_1 rfl (lv_at hl 1 rfl) ?_
  refine va_get (D := (dC, dI)) (ci := 0) (v := .int k.1) (C := RX0) (T := TX0) (N := 15) hx hb hts hiX0 hown hK hP 4 rfl rfl 0 (by decide) (hts (.fieldLink RX0 22 "TripReckoner$Ledger" "spanLeast" "I") (by decide +kernel)) (fun _ h9 => h9) rfl dX0_copyFrom_2 ?_
  refine va_put (D := (dC, dI)) (ci := 0) (v := .int k.1) (ty := .int) (C := RX0) (T := TX0) (N := 15) hx hb hts hiX0 tyX0 tyX0_ok nmX0 hown hK hP hD hS 0 rfl rfl 0 (by decide) (hts (.fieldLink RX0 22 "TripReckoner$Ledger" "spanLeast" "I") (by decide +kernel)) (fun _ h9 => h9) rfl (by decide +kernel) rfl rfl (Nat.le_of_ble_eq_true rfl) dX0_copyFrom_5 (fun H locs hP hD hS => ?_)
  have hP : va_P (dC, dI) vwCl [(h0, .inr (0, [.int k.1, .int g.2.1, .int g.2.2.1, .int g.2.2.2.1, .int g.2.2.2.2.1, .int g.2.2.2.2.2.1, .int g.2.2.2.2.2.2.1, .int g.2.2.2.2.2.2.2.1, .int g.2.2.2.2.2.2.2.2.1, .int g.2.2.2.2.2.2.2.2.2.1, .long g.2.2.2.2.2.2.2.2.2.2.1, .long g.2.2.2.2.2.2.2.2.2.2.2.1, .ref h1, .ref h2, .ref h3])), (h1, .inl (cJ, 20, .inr (.inl g.2.2.2.2.2.2.2.2.2.2.2.2.1))), (h2, .inl (cI, 30, .inl g.2.2.2.2.2.2.2.2.2.2.2.2.2.1)), (h3, .inl (cI, 30, .inl g.2.2.2.2.2.2.2.2.2.2.2.2.2.2)), cL0 k0 k1 k2 k3 k, cL1 cJ k1 k, cL2 cI k2 k, cL3 cI k3 k] H := hP
  have hD : va_D A [(h0, .inr (0, [.int k.1, .int g.2.1, .int g.2.2.1, .int g.2.2.2.1, .int g.2.2.2.2.1, .int g.2.2.2.2.2.1, .int g.2.2.2.2.2.2.1, .int g.2.2.2.2.2.2.2.1, .int g.2.2.2.2.2.2.2.2.1, .int g.2.2.2.2.2.2.2.2.2.1, .long g.2.2.2.2.2.2.2.2.2.2.1, .long g.2.2.2.2.2.2.2.2.2.2.2.1, .ref h1, .ref h2, .ref h3])), (h1, .inl (cJ, 20, .inr (.inl g.2.2.2.2.2.2.2.2.2.2.2.2.1))), (h2, .inl (cI, 30, .inl g.2.2.2.2.2.2.2.2.2.2.2.2.2.1)), (h3, .inl (cI, 30, .inl g.2.2.2.2.2.2.2.2.2.2.2.2.2.2)), cL0 k0 k1 k2 k3 k, cL1 cJ k1 k, cL2 cI k2 k, cL3 cI k3 k] := hD
  refine lv_aload_n hx hb dX0_copyFrom_8 rfl (lv_at hl 0 rfl) ?_
  refine lv_aload_n hx hb dX0_copyFrom_9 rfl (lv_at hl 1 rfl) ?_
  refine va_get (D := (dC, dI)) (ci := 0) (v := .int k.2.1) (C := RX0) (T := TX0) (N := 15) hx hb hts hiX0 hown hK hP 4 rfl rfl 1 (by decide) (hts (.fieldLink RX0 26 "TripReckoner$Ledger" "spanGreatest" "I") (by decide +kernel)) (fun _ h9 => h9) rfl dX0_copyFrom_10 ?_
  refine va_put (D := (dC, dI)) (ci := 0) (v := .int k.2.1) (ty := .int) (C := RX0) (T := TX0) (N := 15) hx hb hts hiX0 tyX0 tyX0_ok nmX0 hown hK hP hD hS 0 rfl rfl 1 (by decide) (hts (.fieldLink RX0 26 "TripReckoner$Ledger" "spanGreatest" "I") (by decide +kernel)) (fun _ h9 => h9) rfl (by decide +kernel) rfl rfl (Nat.le_of_ble_eq_true rfl) dX0_copyFrom_13 (fun H locs hP hD hS => ?_)
  have hP : va_P (dC, dI) vwCl [(h0, .inr (0, [.int k.1, .int k.2.1, .int g.2.2.1, .int g.2.2.2.1, .int g.2.2.2.2.1, .int g.2.2.2.2.2.1, .int g.2.2.2.2.2.2.1, .int g.2.2.2.2.2.2.2.1, .int g.2.2.2.2.2.2.2.2.1, .int g.2.2.2.2.2.2.2.2.2.1, .long g.2.2.2.2.2.2.2.2.2.2.1, .long g.2.2.2.2.2.2.2.2.2.2.2.1, .ref h1, .ref h2, .ref h3])), (h1, .inl (cJ, 20, .inr (.inl g.2.2.2.2.2.2.2.2.2.2.2.2.1))), (h2, .inl (cI, 30, .inl g.2.2.2.2.2.2.2.2.2.2.2.2.2.1)), (h3, .inl (cI, 30, .inl g.2.2.2.2.2.2.2.2.2.2.2.2.2.2)), cL0 k0 k1 k2 k3 k, cL1 cJ k1 k, cL2 cI k2 k, cL3 cI k3 k] H := hP
  have hD : va_D A [(h0, .inr (0, [.int k.1, .int k.2.1, .int g.2.2.1, .int g.2.2.2.1, .int g.2.2.2.2.1, .int g.2.2.2.2.2.1, .int g.2.2.2.2.2.2.1, .int g.2.2.2.2.2.2.2.1, .int g.2.2.2.2.2.2.2.2.1, .int g.2.2.2.2.2.2.2.2.2.1, .long g.2.2.2.2.2.2.2.2.2.2.1, .long g.2.2.2.2.2.2.2.2.2.2.2.1, .ref h1, .ref h2, .ref h3])), (h1, .inl (cJ, 20, .inr (.inl g.2.2.2.2.2.2.2.2.2.2.2.2.1))), (h2, .inl (cI, 30, .inl g.2.2.2.2.2.2.2.2.2.2.2.2.2.1)), (h3, .inl (cI, 30, .inl g.2.2.2.2.2.2.2.2.2.2.2.2.2.2)), cL0 k0 k1 k2 k3 k, cL1 cJ k1 k, cL2 cI k2 k, cL3 cI k3 k] := hD
  refine lv_aload_n hx hb dX0_copyFrom_16 rfl (lv_at hl 0 rfl) ?_
  refine lv_aload_n hx hb dX0_copyFrom_17 rfl (lv_at hl 1 rfl) ?_
  refine va_get (D := (dC, dI)) (ci := 0) (v := .int k.2.2.1) (C := RX0) (T := TX0) (N := 15) hx hb hts hiX0 hown hK hP 4 rfl rfl 2 (by decide) (hts (.fieldLink RX0 29 "TripReckoner$Ledger" "refills" "I") (by decide +kernel)) (fun _ h9 => h9) rfl dX0_copyFrom_18 ?_
  refine va_put (D := (dC, dI)) (ci := 0) (v := .int k.2.2.1) (ty := .int) (C := RX0) (T := TX0) (N := 15) hx hb hts hiX0 tyX0 tyX0_ok nmX0 hown hK hP hD hS 0 rfl rfl 2 (by decide) (hts (.fieldLink RX0 29 "TripReckoner$Ledger" "refills" "I") (by decide +kernel)) (fun _ h9 => h9) rfl (by decide +kernel) rfl rfl (Nat.le_of_ble_eq_true rfl) dX0_copyFrom_21 (fun H locs hP hD hS => ?_)
  have hP : va_P (dC, dI) vwCl [(h0, .inr (0, [.int k.1, .int k.2.1, .int k.2.2.1, .int g.2.2.2.1, .int g.2.2.2.2.1, .int g.2.2.2.2.2.1, .int g.2.2.2.2.2.2.1, .int g.2.2.2.2.2.2.2.1, .int g.2.2.2.2.2.2.2.2.1, .int g.2.2.2.2.2.2.2.2.2.1, .long g.2.2.2.2.2.2.2.2.2.2.1, .long g.2.2.2.2.2.2.2.2.2.2.2.1, .ref h1, .ref h2, .ref h3])), (h1, .inl (cJ, 20, .inr (.inl g.2.2.2.2.2.2.2.2.2.2.2.2.1))), (h2, .inl (cI, 30, .inl g.2.2.2.2.2.2.2.2.2.2.2.2.2.1)), (h3, .inl (cI, 30, .inl g.2.2.2.2.2.2.2.2.2.2.2.2.2.2)), cL0 k0 k1 k2 k3 k, cL1 cJ k1 k, cL2 cI k2 k, cL3 cI k3 k] H := hP
  have hD : va_D A [(h0, .inr (0, [.int k.1, .int k.2.1, .int k.2.2.1, .int g.2.2.2.1, .int g.2.2.2.2.1, .int g.2.2.2.2.2.1, .int g.2.2.2.2.2.2.1, .int g.2.2.2.2.2.2.2.1, .int g.2.2.2.2.2.2.2.2.1, .int g.2.2.2.2.2.2.2.2.2.1, .long g.2.2.2.2.2.2.2.2.2.2.1, .long g.2.2.2.2.2.2.2.2.2.2.2.1, .ref h1, .ref h2, .ref h3])), (h1, .inl (cJ, 20, .inr (.inl g.2.2.2.2.2.2.2.2.2.2.2.2.1))), (h2, .inl (cI, 30, .inl g.2.2.2.2.2.2.2.2.2.2.2.2.2.1)), (h3, .inl (cI, 30, .inl g.2.2.2.2.2.2.2.2.2.2.2.2.2.2)), cL0 k0 k1 k2 k3 k, cL1 cJ k1 k, cL2 cI k2 k, cL3 cI k3 k] := hD
  refine lv_aload_n hx hb dX0_copyFrom_24 rfl (lv_at hl 0 rfl) ?_
  refine lv_aload_n hx hb dX0_copyFrom_25 rfl (lv_at hl 1 rfl) ?_
  refine va_get (D := (dC, dI)) (ci := 0) (v := .int k.2.2.2.1) (C := RX0) (T := TX0) (N := 15) hx hb hts hiX0 hown hK hP 4 rfl rfl 3 (by decide) (hts (.fieldLink RX0 32 "TripReckoner$Ledger" "losses" "I") (by decide +kernel)) (fun _ h9 => h9) rfl dX0_copyFrom_26 ?_
  refine va_put (D := (dC, dI)) (ci := 0) (v := .int k.2.2.2.1) (ty := .int) (C := RX0) (T := TX0) (N := 15) hx hb hts hiX0 tyX0 tyX0_ok nmX0 hown hK hP hD hS 0 rfl rfl 3 (by decide) (hts (.fieldLink RX0 32 "TripReckoner$Ledger" "losses" "I") (by decide +kernel)) (fun _ h9 => h9) rfl (by decide +kernel) rfl rfl (Nat.le_of_ble_eq_true rfl) dX0_copyFrom_29 (fun H locs hP hD hS => ?_)
  have hP : va_P (dC, dI) vwCl [(h0, .inr (0, [.int k.1, .int k.2.1, .int k.2.2.1, .int k.2.2.2.1, .int g.2.2.2.2.1, .int g.2.2.2.2.2.1, .int g.2.2.2.2.2.2.1, .int g.2.2.2.2.2.2.2.1, .int g.2.2.2.2.2.2.2.2.1, .int g.2.2.2.2.2.2.2.2.2.1, .long g.2.2.2.2.2.2.2.2.2.2.1, .long g.2.2.2.2.2.2.2.2.2.2.2.1, .ref h1, .ref h2, .ref h3])), (h1, .inl (cJ, 20, .inr (.inl g.2.2.2.2.2.2.2.2.2.2.2.2.1))), (h2, .inl (cI, 30, .inl g.2.2.2.2.2.2.2.2.2.2.2.2.2.1)), (h3, .inl (cI, 30, .inl g.2.2.2.2.2.2.2.2.2.2.2.2.2.2)), cL0 k0 k1 k2 k3 k, cL1 cJ k1 k, cL2 cI k2 k, cL3 cI k3 k] H := hP
  have hD : va_D A [(h0, .inr (0, [.int k.1, .int k.2.1, .int k.2.2.1, .int k.2.2.2.1, .int g.2.2.2.2.1, .int g.2.2.2.2.2.1, .int g.2.2.2.2.2.2.1, .int g.2.2.2.2.2.2.2.1, .int g.2.2.2.2.2.2.2.2.1, .int g.2.2.2.2.2.2.2.2.2.1, .long g.2.2.2.2.2.2.2.2.2.2.1, .long g.2.2.2.2.2.2.2.2.2.2.2.1, .ref h1, .ref h2, .ref h3])), (h1, .inl (cJ, 20, .inr (.inl g.2.2.2.2.2.2.2.2.2.2.2.2.1))), (h2, .inl (cI, 30, .inl g.2.2.2.2.2.2.2.2.2.2.2.2.2.1)), (h3, .inl (cI, 30, .inl g.2.2.2.2.2.2.2.2.2.2.2.2.2.2)), cL0 k0 k1 k2 k3 k, cL1 cJ k1 k, cL2 cI k2 k, cL3 cI k3 k] := hD
  refine lv_aload_n hx hb dX0_copyFrom_32 rfl (lv_at hl 0 rfl) ?_
  refine lv_aload_n hx hb dX0_copyFrom_33 rfl (lv_at hl 1 rfl) ?_
  refine va_get (D := (dC, dI)) (ci := 0) (v := .int k.2.2.2.2.1) (C := RX0) (T := TX0) (N := 15) hx hb hts hiX0 hown hK hP 4 rfl rfl 4 (by decide) (hts (.fieldLink RX0 35 "TripReckoner$Ledger" "lies" "I") (by decide +kernel)) (fun _ h9 => h9) rfl dX0_copyFrom_34 ?_
  refine va_put (D := (dC, dI)) (ci := 0) (v := .int k.2.2.2.2.1) (ty := .int) (C := RX0) (T := TX0) (N := 15) hx hb hts hiX0 tyX0 tyX0_ok nmX0 hown hK hP hD hS 0 rfl rfl 4 (by decide) (hts (.fieldLink RX0 35 "TripReckoner$Ledger" "lies" "I") (by decide +kernel)) (fun _ h9 => h9) rfl (by decide +kernel) rfl rfl (Nat.le_of_ble_eq_true rfl) dX0_copyFrom_37 (fun H locs hP hD hS => ?_)
  have hP : va_P (dC, dI) vwCl [(h0, .inr (0, [.int k.1, .int k.2.1, .int k.2.2.1, .int k.2.2.2.1, .int k.2.2.2.2.1, .int g.2.2.2.2.2.1, .int g.2.2.2.2.2.2.1, .int g.2.2.2.2.2.2.2.1, .int g.2.2.2.2.2.2.2.2.1, .int g.2.2.2.2.2.2.2.2.2.1, .long g.2.2.2.2.2.2.2.2.2.2.1, .long g.2.2.2.2.2.2.2.2.2.2.2.1, .ref h1, .ref h2, .ref h3])), (h1, .inl (cJ, 20, .inr (.inl g.2.2.2.2.2.2.2.2.2.2.2.2.1))), (h2, .inl (cI, 30, .inl g.2.2.2.2.2.2.2.2.2.2.2.2.2.1)), (h3, .inl (cI, 30, .inl g.2.2.2.2.2.2.2.2.2.2.2.2.2.2)), cL0 k0 k1 k2 k3 k, cL1 cJ k1 k, cL2 cI k2 k, cL3 cI k3 k] H := hP
  have hD : va_D A [(h0, .inr (0, [.int k.1, .int k.2.1, .int k.2.2.1, .int k.2.2.2.1, .int k.2.2.2.2.1, .int g.2.2.2.2.2.1, .int g.2.2.2.2.2.2.1, .int g.2.2.2.2.2.2.2.1, .int g.2.2.2.2.2.2.2.2.1, .int g.2.2.2.2.2.2.2.2.2.1, .long g.2.2.2.2.2.2.2.2.2.2.1, .long g.2.2.2.2.2.2.2.2.2.2.2.1, .ref h1, .ref h2, .ref h3])), (h1, .inl (cJ, 20, .inr (.inl g.2.2.2.2.2.2.2.2.2.2.2.2.1))), (h2, .inl (cI, 30, .inl g.2.2.2.2.2.2.2.2.2.2.2.2.2.1)), (h3, .inl (cI, 30, .inl g.2.2.2.2.2.2.2.2.2.2.2.2.2.2)), cL0 k0 k1 k2 k3 k, cL1 cJ k1 k, cL2 cI k2 k, cL3 cI k3 k] := hD
  refine lv_aload_n hx hb dX0_copyFrom_40 rfl (lv_at hl 0 rfl) ?_
  refine lv_aload_n hx hb dX0_copyFrom_41 rfl (lv_at hl 1 rfl) ?_
  refine va_get (D := (dC, dI)) (ci := 0) (v := .int k.2.2.2.2.2.1) (C := RX0) (T := TX0) (N := 15) hx hb hts hiX0 hown hK hP 4 rfl rfl 5 (by decide) (hts (.fieldLink RX0 38 "TripReckoner$Ledger" "jumps" "I") (by decide +kernel)) (fun _ h9 => h9) rfl dX0_copyFrom_42 ?_
  refine va_put (D := (dC, dI)) (ci := 0) (v := .int k.2.2.2.2.2.1) (ty := .int) (C := RX0) (T := TX0) (N := 15) hx hb hts hiX0 tyX0 tyX0_ok nmX0 hown hK hP hD hS 0 rfl rfl 5 (by decide) (hts (.fieldLink RX0 38 "TripReckoner$Ledger" "jumps" "I") (by decide +kernel)) (fun _ h9 => h9) rfl (by decide +kernel) rfl rfl (Nat.le_of_ble_eq_true rfl) dX0_copyFrom_45 (fun H locs hP hD hS => ?_)
  have hP : va_P (dC, dI) vwCl [(h0, .inr (0, [.int k.1, .int k.2.1, .int k.2.2.1, .int k.2.2.2.1, .int k.2.2.2.2.1, .int k.2.2.2.2.2.1, .int g.2.2.2.2.2.2.1, .int g.2.2.2.2.2.2.2.1, .int g.2.2.2.2.2.2.2.2.1, .int g.2.2.2.2.2.2.2.2.2.1, .long g.2.2.2.2.2.2.2.2.2.2.1, .long g.2.2.2.2.2.2.2.2.2.2.2.1, .ref h1, .ref h2, .ref h3])), (h1, .inl (cJ, 20, .inr (.inl g.2.2.2.2.2.2.2.2.2.2.2.2.1))), (h2, .inl (cI, 30, .inl g.2.2.2.2.2.2.2.2.2.2.2.2.2.1)), (h3, .inl (cI, 30, .inl g.2.2.2.2.2.2.2.2.2.2.2.2.2.2)), cL0 k0 k1 k2 k3 k, cL1 cJ k1 k, cL2 cI k2 k, cL3 cI k3 k] H := hP
  have hD : va_D A [(h0, .inr (0, [.int k.1, .int k.2.1, .int k.2.2.1, .int k.2.2.2.1, .int k.2.2.2.2.1, .int k.2.2.2.2.2.1, .int g.2.2.2.2.2.2.1, .int g.2.2.2.2.2.2.2.1, .int g.2.2.2.2.2.2.2.2.1, .int g.2.2.2.2.2.2.2.2.2.1, .long g.2.2.2.2.2.2.2.2.2.2.1, .long g.2.2.2.2.2.2.2.2.2.2.2.1, .ref h1, .ref h2, .ref h3])), (h1, .inl (cJ, 20, .inr (.inl g.2.2.2.2.2.2.2.2.2.2.2.2.1))), (h2, .inl (cI, 30, .inl g.2.2.2.2.2.2.2.2.2.2.2.2.2.1)), (h3, .inl (cI, 30, .inl g.2.2.2.2.2.2.2.2.2.2.2.2.2.2)), cL0 k0 k1 k2 k3 k, cL1 cJ k1 k, cL2 cI k2 k, cL3 cI k3 k] := hD
  refine lv_aload_n hx hb dX0_copyFrom_48 rfl (lv_at hl 0 rfl) ?_
  refine lv_aload_n hx hb dX0_copyFrom_49 rfl (lv_at hl 1 rfl) ?_
  refine va_get (D := (dC, dI)) (ci := 0) (v := .int k.2.2.2.2.2.2.1) (C := RX0) (T := TX0) (N := 15) hx hb hts hiX0 hown hK hP 4 rfl rfl 6 (by decide) (hts (.fieldLink RX0 41 "TripReckoner$Ledger" "shownLitres" "I") (by decide +kernel)) (fun _ h9 => h9) rfl dX0_copyFrom_50 ?_
  refine va_put (D := (dC, dI)) (ci := 0) (v := .int k.2.2.2.2.2.2.1) (ty := .int) (C := RX0) (T := TX0) (N := 15) hx hb hts hiX0 tyX0 tyX0_ok nmX0 hown hK hP hD hS 0 rfl rfl 6 (by decide) (hts (.fieldLink RX0 41 "TripReckoner$Ledger" "shownLitres" "I") (by decide +kernel)) (fun _ h9 => h9) rfl (by decide +kernel) rfl rfl (Nat.le_of_ble_eq_true rfl) dX0_copyFrom_53 (fun H locs hP hD hS => ?_)
  have hP : va_P (dC, dI) vwCl [(h0, .inr (0, [.int k.1, .int k.2.1, .int k.2.2.1, .int k.2.2.2.1, .int k.2.2.2.2.1, .int k.2.2.2.2.2.1, .int k.2.2.2.2.2.2.1, .int g.2.2.2.2.2.2.2.1, .int g.2.2.2.2.2.2.2.2.1, .int g.2.2.2.2.2.2.2.2.2.1, .long g.2.2.2.2.2.2.2.2.2.2.1, .long g.2.2.2.2.2.2.2.2.2.2.2.1, .ref h1, .ref h2, .ref h3])), (h1, .inl (cJ, 20, .inr (.inl g.2.2.2.2.2.2.2.2.2.2.2.2.1))), (h2, .inl (cI, 30, .inl g.2.2.2.2.2.2.2.2.2.2.2.2.2.1)), (h3, .inl (cI, 30, .inl g.2.2.2.2.2.2.2.2.2.2.2.2.2.2)), cL0 k0 k1 k2 k3 k, cL1 cJ k1 k, cL2 cI k2 k, cL3 cI k3 k] H := hP
  have hD : va_D A [(h0, .inr (0, [.int k.1, .int k.2.1, .int k.2.2.1, .int k.2.2.2.1, .int k.2.2.2.2.1, .int k.2.2.2.2.2.1, .int k.2.2.2.2.2.2.1, .int g.2.2.2.2.2.2.2.1, .int g.2.2.2.2.2.2.2.2.1, .int g.2.2.2.2.2.2.2.2.2.1, .long g.2.2.2.2.2.2.2.2.2.2.1, .long g.2.2.2.2.2.2.2.2.2.2.2.1, .ref h1, .ref h2, .ref h3])), (h1, .inl (cJ, 20, .inr (.inl g.2.2.2.2.2.2.2.2.2.2.2.2.1))), (h2, .inl (cI, 30, .inl g.2.2.2.2.2.2.2.2.2.2.2.2.2.1)), (h3, .inl (cI, 30, .inl g.2.2.2.2.2.2.2.2.2.2.2.2.2.2)), cL0 k0 k1 k2 k3 k, cL1 cJ k1 k, cL2 cI k2 k, cL3 cI k3 k] := hD
  refine lv_aload_n hx hb dX0_copyFrom_56 rfl (lv_at hl 0 rfl) ?_
  refine lv_aload_n hx hb dX0_copyFrom_57 rfl (lv_at hl 1 rfl) ?_
  refine va_get (D := (dC, dI)) (ci := 0) (v := .int k.2.2.2.2.2.2.2.1) (C := RX0) (T := TX0) (N := 15) hx hb hts hiX0 hown hK hP 4 rfl rfl 7 (by decide) (hts (.fieldLink RX0 44 "TripReckoner$Ledger" "settling" "Z") (by decide +kernel)) (fun _ h9 => h9) rfl dX0_copyFrom_58 ?_
  refine va_put (D := (dC, dI)) (ci := 0) (v := .int k.2.2.2.2.2.2.2.1) (ty := .boolean) (C := RX0) (T := TX0) (N := 15) hx hb hts hiX0 tyX0 tyX0_ok nmX0 hown hK hP hD hS 0 rfl rfl 7 (by decide) (hts (.fieldLink RX0 44 "TripReckoner$Ledger" "settling" "Z") (by decide +kernel)) (fun _ h9 => h9) rfl (by decide +kernel) hz.1 hz.2 (Nat.le_of_ble_eq_true rfl) dX0_copyFrom_61 (fun H locs hP hD hS => ?_)
  have hP : va_P (dC, dI) vwCl [(h0, .inr (0, [.int k.1, .int k.2.1, .int k.2.2.1, .int k.2.2.2.1, .int k.2.2.2.2.1, .int k.2.2.2.2.2.1, .int k.2.2.2.2.2.2.1, .int k.2.2.2.2.2.2.2.1, .int g.2.2.2.2.2.2.2.2.1, .int g.2.2.2.2.2.2.2.2.2.1, .long g.2.2.2.2.2.2.2.2.2.2.1, .long g.2.2.2.2.2.2.2.2.2.2.2.1, .ref h1, .ref h2, .ref h3])), (h1, .inl (cJ, 20, .inr (.inl g.2.2.2.2.2.2.2.2.2.2.2.2.1))), (h2, .inl (cI, 30, .inl g.2.2.2.2.2.2.2.2.2.2.2.2.2.1)), (h3, .inl (cI, 30, .inl g.2.2.2.2.2.2.2.2.2.2.2.2.2.2)), cL0 k0 k1 k2 k3 k, cL1 cJ k1 k, cL2 cI k2 k, cL3 cI k3 k] H := hP
  have hD : va_D A [(h0, .inr (0, [.int k.1, .int k.2.1, .int k.2.2.1, .int k.2.2.2.1, .int k.2.2.2.2.1, .int k.2.2.2.2.2.1, .int k.2.2.2.2.2.2.1, .int k.2.2.2.2.2.2.2.1, .int g.2.2.2.2.2.2.2.2.1, .int g.2.2.2.2.2.2.2.2.2.1, .long g.2.2.2.2.2.2.2.2.2.2.1, .long g.2.2.2.2.2.2.2.2.2.2.2.1, .ref h1, .ref h2, .ref h3])), (h1, .inl (cJ, 20, .inr (.inl g.2.2.2.2.2.2.2.2.2.2.2.2.1))), (h2, .inl (cI, 30, .inl g.2.2.2.2.2.2.2.2.2.2.2.2.2.1)), (h3, .inl (cI, 30, .inl g.2.2.2.2.2.2.2.2.2.2.2.2.2.2)), cL0 k0 k1 k2 k3 k, cL1 cJ k1 k, cL2 cI k2 k, cL3 cI k3 k] := hD
  refine lv_aload_n hx hb dX0_copyFrom_64 rfl (lv_at hl 0 rfl) ?_
  refine lv_aload_n hx hb dX0_copyFrom_65 rfl (lv_at hl 1 rfl) ?_
  refine va_get (D := (dC, dI)) (ci := 0) (v := .int k.2.2.2.2.2.2.2.2.1) (C := RX0) (T := TX0) (N := 15) hx hb hts hiX0 hown hK hP 4 rfl rfl 8 (by decide) (hts (.fieldLink RX0 52 "TripReckoner$Ledger" "aheadLeast" "I") (by decide +kernel)) (fun _ h9 => h9) rfl dX0_copyFrom_66 ?_
  refine va_put (D := (dC, dI)) (ci := 0) (v := .int k.2.2.2.2.2.2.2.2.1) (ty := .int) (C := RX0) (T := TX0) (N := 15) hx hb hts hiX0 tyX0 tyX0_ok nmX0 hown hK hP hD hS 0 rfl rfl 8 (by decide) (hts (.fieldLink RX0 52 "TripReckoner$Ledger" "aheadLeast" "I") (by decide +kernel)) (fun _ h9 => h9) rfl (by decide +kernel) rfl rfl (Nat.le_of_ble_eq_true rfl) dX0_copyFrom_69 (fun H locs hP hD hS => ?_)
  have hP : va_P (dC, dI) vwCl [(h0, .inr (0, [.int k.1, .int k.2.1, .int k.2.2.1, .int k.2.2.2.1, .int k.2.2.2.2.1, .int k.2.2.2.2.2.1, .int k.2.2.2.2.2.2.1, .int k.2.2.2.2.2.2.2.1, .int k.2.2.2.2.2.2.2.2.1, .int g.2.2.2.2.2.2.2.2.2.1, .long g.2.2.2.2.2.2.2.2.2.2.1, .long g.2.2.2.2.2.2.2.2.2.2.2.1, .ref h1, .ref h2, .ref h3])), (h1, .inl (cJ, 20, .inr (.inl g.2.2.2.2.2.2.2.2.2.2.2.2.1))), (h2, .inl (cI, 30, .inl g.2.2.2.2.2.2.2.2.2.2.2.2.2.1)), (h3, .inl (cI, 30, .inl g.2.2.2.2.2.2.2.2.2.2.2.2.2.2)), cL0 k0 k1 k2 k3 k, cL1 cJ k1 k, cL2 cI k2 k, cL3 cI k3 k] H := hP
  have hD : va_D A [(h0, .inr (0, [.int k.1, .int k.2.1, .int k.2.2.1, .int k.2.2.2.1, .int k.2.2.2.2.1, .int k.2.2.2.2.2.1, .int k.2.2.2.2.2.2.1, .int k.2.2.2.2.2.2.2.1, .int k.2.2.2.2.2.2.2.2.1, .int g.2.2.2.2.2.2.2.2.2.1, .long g.2.2.2.2.2.2.2.2.2.2.1, .long g.2.2.2.2.2.2.2.2.2.2.2.1, .ref h1, .ref h2, .ref h3])), (h1, .inl (cJ, 20, .inr (.inl g.2.2.2.2.2.2.2.2.2.2.2.2.1))), (h2, .inl (cI, 30, .inl g.2.2.2.2.2.2.2.2.2.2.2.2.2.1)), (h3, .inl (cI, 30, .inl g.2.2.2.2.2.2.2.2.2.2.2.2.2.2)), cL0 k0 k1 k2 k3 k, cL1 cJ k1 k, cL2 cI k2 k, cL3 cI k3 k] := hD
  refine lv_aload_n hx hb dX0_copyFrom_72 rfl (lv_at hl 0 rfl) ?_
  refine lv_aload_n hx hb dX0_copyFrom_73 rfl (lv_at hl 1 rfl) ?_
  refine va_get (D := (dC, dI)) (ci := 0) (v := .int k.2.2.2.2.2.2.2.2.2.1) (C := RX0) (T := TX0) (N := 15) hx hb hts hiX0 hown hK hP 4 rfl rfl 9 (by decide) (hts (.fieldLink RX0 55 "TripReckoner$Ledger" "aheadGreatest" "I") (by decide +kernel)) (fun _ h9 => h9) rfl dX0_copyFrom_74 ?_
  refine va_put (D := (dC, dI)) (ci := 0) (v := .int k.2.2.2.2.2.2.2.2.2.1) (ty := .int) (C := RX0) (T := TX0) (N := 15) hx hb hts hiX0 tyX0 tyX0_ok nmX0 hown hK hP hD hS 0 rfl rfl 9 (by decide) (hts (.fieldLink RX0 55 "TripReckoner$Ledger" "aheadGreatest" "I") (by decide +kernel)) (fun _ h9 => h9) rfl (by decide +kernel) rfl rfl (Nat.le_of_ble_eq_true rfl) dX0_copyFrom_77 (fun H locs hP hD hS => ?_)
  have hP : va_P (dC, dI) vwCl [(h0, .inr (0, [.int k.1, .int k.2.1, .int k.2.2.1, .int k.2.2.2.1, .int k.2.2.2.2.1, .int k.2.2.2.2.2.1, .int k.2.2.2.2.2.2.1, .int k.2.2.2.2.2.2.2.1, .int k.2.2.2.2.2.2.2.2.1, .int k.2.2.2.2.2.2.2.2.2.1, .long g.2.2.2.2.2.2.2.2.2.2.1, .long g.2.2.2.2.2.2.2.2.2.2.2.1, .ref h1, .ref h2, .ref h3])), (h1, .inl (cJ, 20, .inr (.inl g.2.2.2.2.2.2.2.2.2.2.2.2.1))), (h2, .inl (cI, 30, .inl g.2.2.2.2.2.2.2.2.2.2.2.2.2.1)), (h3, .inl (cI, 30, .inl g.2.2.2.2.2.2.2.2.2.2.2.2.2.2)), cL0 k0 k1 k2 k3 k, cL1 cJ k1 k, cL2 cI k2 k, cL3 cI k3 k] H := hP
  have hD : va_D A [(h0, .inr (0, [.int k.1, .int k.2.1, .int k.2.2.1, .int k.2.2.2.1, .int k.2.2.2.2.1, .int k.2.2.2.2.2.1, .int k.2.2.2.2.2.2.1, .int k.2.2.2.2.2.2.2.1, .int k.2.2.2.2.2.2.2.2.1, .int k.2.2.2.2.2.2.2.2.2.1, .long g.2.2.2.2.2.2.2.2.2.2.1, .long g.2.2.2.2.2.2.2.2.2.2.2.1, .ref h1, .ref h2, .ref h3])), (h1, .inl (cJ, 20, .inr (.inl g.2.2.2.2.2.2.2.2.2.2.2.2.1))), (h2, .inl (cI, 30, .inl g.2.2.2.2.2.2.2.2.2.2.2.2.2.1)), (h3, .inl (cI, 30, .inl g.2.2.2.2.2.2.2.2.2.2.2.2.2.2)), cL0 k0 k1 k2 k3 k, cL1 cJ k1 k, cL2 cI k2 k, cL3 cI k3 k] := hD
  refine lv_aload_n hx hb dX0_copyFrom_80 rfl (lv_at hl 0 rfl) ?_
  refine lv_aload_n hx hb dX0_copyFrom_81 rfl (lv_at hl 1 rfl) ?_
  refine va_get (D := (dC, dI)) (ci := 0) (v := .long k.2.2.2.2.2.2.2.2.2.2.1) (C := RX0) (T := TX0) (N := 15) hx hb hts hiX0 hown hK hP 4 rfl rfl 10 (by decide) (hts (.fieldLink RX0 58 "TripReckoner$Ledger" "usedLeast" "J") (by decide +kernel)) (fun _ h9 => h9) rfl dX0_copyFrom_82 ?_
  refine va_put (D := (dC, dI)) (ci := 0) (v := .long k.2.2.2.2.2.2.2.2.2.2.1) (ty := .long) (C := RX0) (T := TX0) (N := 15) hx hb hts hiX0 tyX0 tyX0_ok nmX0 hown hK hP hD hS 0 rfl rfl 10 (by decide) (hts (.fieldLink RX0 58 "TripReckoner$Ledger" "usedLeast" "J") (by decide +kernel)) (fun _ h9 => h9) rfl (by decide +kernel) rfl rfl (Nat.le_of_ble_eq_true rfl) dX0_copyFrom_85 (fun H locs hP hD hS => ?_)
  have hP : va_P (dC, dI) vwCl [(h0, .inr (0, [.int k.1, .int k.2.1, .int k.2.2.1, .int k.2.2.2.1, .int k.2.2.2.2.1, .int k.2.2.2.2.2.1, .int k.2.2.2.2.2.2.1, .int k.2.2.2.2.2.2.2.1, .int k.2.2.2.2.2.2.2.2.1, .int k.2.2.2.2.2.2.2.2.2.1, .long k.2.2.2.2.2.2.2.2.2.2.1, .long g.2.2.2.2.2.2.2.2.2.2.2.1, .ref h1, .ref h2, .ref h3])), (h1, .inl (cJ, 20, .inr (.inl g.2.2.2.2.2.2.2.2.2.2.2.2.1))), (h2, .inl (cI, 30, .inl g.2.2.2.2.2.2.2.2.2.2.2.2.2.1)), (h3, .inl (cI, 30, .inl g.2.2.2.2.2.2.2.2.2.2.2.2.2.2)), cL0 k0 k1 k2 k3 k, cL1 cJ k1 k, cL2 cI k2 k, cL3 cI k3 k] H := hP
  have hD : va_D A [(h0, .inr (0, [.int k.1, .int k.2.1, .int k.2.2.1, .int k.2.2.2.1, .int k.2.2.2.2.1, .int k.2.2.2.2.2.1, .int k.2.2.2.2.2.2.1, .int k.2.2.2.2.2.2.2.1, .int k.2.2.2.2.2.2.2.2.1, .int k.2.2.2.2.2.2.2.2.2.1, .long k.2.2.2.2.2.2.2.2.2.2.1, .long g.2.2.2.2.2.2.2.2.2.2.2.1, .ref h1, .ref h2, .ref h3])), (h1, .inl (cJ, 20, .inr (.inl g.2.2.2.2.2.2.2.2.2.2.2.2.1))), (h2, .inl (cI, 30, .inl g.2.2.2.2.2.2.2.2.2.2.2.2.2.1)), (h3, .inl (cI, 30, .inl g.2.2.2.2.2.2.2.2.2.2.2.2.2.2)), cL0 k0 k1 k2 k3 k, cL1 cJ k1 k, cL2 cI k2 k, cL3 cI k3 k] := hD
  refine lv_aload_n hx hb dX0_copyFrom_88 rfl (lv_at hl 0 rfl) ?_
  refine lv_aload_n hx hb dX0_copyFrom_89 rfl (lv_at hl 1 rfl) ?_
  refine va_get (D := (dC, dI)) (ci := 0) (v := .long k.2.2.2.2.2.2.2.2.2.2.2.1) (C := RX0) (T := TX0) (N := 15) hx hb hts hiX0 hown hK hP 4 rfl rfl 11 (by decide) (hts (.fieldLink RX0 62 "TripReckoner$Ledger" "usedMost" "J") (by decide +kernel)) (fun _ h9 => h9) rfl dX0_copyFrom_90 ?_
  refine va_put (D := (dC, dI)) (ci := 0) (v := .long k.2.2.2.2.2.2.2.2.2.2.2.1) (ty := .long) (C := RX0) (T := TX0) (N := 15) hx hb hts hiX0 tyX0 tyX0_ok nmX0 hown hK hP hD hS 0 rfl rfl 11 (by decide) (hts (.fieldLink RX0 62 "TripReckoner$Ledger" "usedMost" "J") (by decide +kernel)) (fun _ h9 => h9) rfl (by decide +kernel) rfl rfl (Nat.le_of_ble_eq_true rfl) dX0_copyFrom_93 (fun H locs hP hD hS => ?_)
  have hP : va_P (dC, dI) vwCl [(h0, .inr (0, [.int k.1, .int k.2.1, .int k.2.2.1, .int k.2.2.2.1, .int k.2.2.2.2.1, .int k.2.2.2.2.2.1, .int k.2.2.2.2.2.2.1, .int k.2.2.2.2.2.2.2.1, .int k.2.2.2.2.2.2.2.2.1, .int k.2.2.2.2.2.2.2.2.2.1, .long k.2.2.2.2.2.2.2.2.2.2.1, .long k.2.2.2.2.2.2.2.2.2.2.2.1, .ref h1, .ref h2, .ref h3])), (h1, .inl (cJ, 20, .inr (.inl g.2.2.2.2.2.2.2.2.2.2.2.2.1))), (h2, .inl (cI, 30, .inl g.2.2.2.2.2.2.2.2.2.2.2.2.2.1)), (h3, .inl (cI, 30, .inl g.2.2.2.2.2.2.2.2.2.2.2.2.2.2)), cL0 k0 k1 k2 k3 k, cL1 cJ k1 k, cL2 cI k2 k, cL3 cI k3 k] H := hP
  have hD : va_D A [(h0, .inr (0, [.int k.1, .int k.2.1, .int k.2.2.1, .int k.2.2.2.1, .int k.2.2.2.2.1, .int k.2.2.2.2.2.1, .int k.2.2.2.2.2.2.1, .int k.2.2.2.2.2.2.2.1, .int k.2.2.2.2.2.2.2.2.1, .int k.2.2.2.2.2.2.2.2.2.1, .long k.2.2.2.2.2.2.2.2.2.2.1, .long k.2.2.2.2.2.2.2.2.2.2.2.1, .ref h1, .ref h2, .ref h3])), (h1, .inl (cJ, 20, .inr (.inl g.2.2.2.2.2.2.2.2.2.2.2.2.1))), (h2, .inl (cI, 30, .inl g.2.2.2.2.2.2.2.2.2.2.2.2.2.1)), (h3, .inl (cI, 30, .inl g.2.2.2.2.2.2.2.2.2.2.2.2.2.2)), cL0 k0 k1 k2 k3 k, cL1 cJ k1 k, cL2 cI k2 k, cL3 cI k3 k] := hD
  refine lv_aload_n hx hb dX0_copyFrom_96 rfl (lv_at hl 1 rfl) ?_
  refine va_get (D := (dC, dI)) (ci := 0) (v := .ref k1) (C := RX0) (T := TX0) (N := 15) hx hb hts hiX0 hown hK hP 4 rfl rfl 12 (by decide) (hts (.fieldLink RX0 9 "TripReckoner$Ledger" "marks" "[J") (by decide +kernel)) (fun _ h9 => h9) rfl dX0_copyFrom_97 ?_
  refine lv_iconst (v := 0) hx hb dX0_copyFrom_100 (by decide) ?_
  refine lv_aload_n hx hb dX0_copyFrom_101 rfl (lv_at hl 0 rfl) ?_
  refine va_get (D := (dC, dI)) (ci := 0) (v := .ref h1) (C := RX0) (T := TX0) (N := 15) hx hb hts hiX0 hown hK hP 0 rfl rfl 12 (by decide) (hts (.fieldLink RX0 9 "TripReckoner$Ledger" "marks" "[J") (by decide +kernel)) (fun _ h9 => h9) rfl dX0_copyFrom_102 ?_
  refine lv_iconst (v := 0) hx hb dX0_copyFrom_105 (by decide) ?_
  refine lv_bipush (v := 20) hx hb dX0_copyFrom_106 (by decide) ?_
  refine va_copyl (ty := .long) hx hb (by rw [hml]; exact hl.1.symm) hown (hts (.methodLink RX0 65 arraycopyName) (by decide +kernel)) (hts (.native arraycopyName) (by decide +kernel)) (hts (.static arraycopyName) (by decide +kernel)) (hts (.initialized "java/lang/System") (by decide +kernel)) hK hP hD hS 5 1 1 1 rfl rfl rfl rfl rfl (by decide) (by decide) (by decide) (by decide +kernel) (by decide +kernel) (fun _ _ => rfl) (Nat.le_of_ble_eq_true rfl) (by decide +kernel) dX0_copyFrom_108 (fun H locs hP hD hS => ?_)
  have hP : va_P (dC, dI) vwCl [(h0, .inr (0, [.int k.1, .int k.2.1, .int k.2.2.1, .int k.2.2.2.1, .int k.2.2.2.2.1, .int k.2.2.2.2.2.1, .int k.2.2.2.2.2.2.1, .int k.2.2.2.2.2.2.2.1, .int k.2.2.2.2.2.2.2.2.1, .int k.2.2.2.2.2.2.2.2.2.1, .long k.2.2.2.2.2.2.2.2.2.2.1, .long k.2.2.2.2.2.2.2.2.2.2.2.1, .ref h1, .ref h2, .ref h3])), (h1, .inl (cJ, 20, .inr (.inl (va_cpy k.2.2.2.2.2.2.2.2.2.2.2.2.1 g.2.2.2.2.2.2.2.2.2.2.2.2.1 0 0 20)))), (h2, .inl (cI, 30, .inl g.2.2.2.2.2.2.2.2.2.2.2.2.2.1)), (h3, .inl (cI, 30, .inl g.2.2.2.2.2.2.2.2.2.2.2.2.2.2)), cL0 k0 k1 k2 k3 k, cL1 cJ k1 k, cL2 cI k2 k, cL3 cI k3 k] H := hP
  have hD : va_D A [(h0, .inr (0, [.int k.1, .int k.2.1, .int k.2.2.1, .int k.2.2.2.1, .int k.2.2.2.2.1, .int k.2.2.2.2.2.1, .int k.2.2.2.2.2.2.1, .int k.2.2.2.2.2.2.2.1, .int k.2.2.2.2.2.2.2.2.1, .int k.2.2.2.2.2.2.2.2.2.1, .long k.2.2.2.2.2.2.2.2.2.2.1, .long k.2.2.2.2.2.2.2.2.2.2.2.1, .ref h1, .ref h2, .ref h3])), (h1, .inl (cJ, 20, .inr (.inl (va_cpy k.2.2.2.2.2.2.2.2.2.2.2.2.1 g.2.2.2.2.2.2.2.2.2.2.2.2.1 0 0 20)))), (h2, .inl (cI, 30, .inl g.2.2.2.2.2.2.2.2.2.2.2.2.2.1)), (h3, .inl (cI, 30, .inl g.2.2.2.2.2.2.2.2.2.2.2.2.2.2)), cL0 k0 k1 k2 k3 k, cL1 cJ k1 k, cL2 cI k2 k, cL3 cI k3 k] := hD
  refine lv_aload_n hx hb dX0_copyFrom_111 rfl (lv_at hl 1 rfl) ?_
  refine va_get (D := (dC, dI)) (ci := 0) (v := .ref k2) (C := RX0) (T := TX0) (N := 15) hx hb hts hiX0 hown hK hP 4 rfl rfl 13 (by decide) (hts (.fieldLink RX0 15 "TripReckoner$Ledger" "amountsLeast" "[I") (by decide +kernel)) (fun _ h9 => h9) rfl dX0_copyFrom_112 ?_
  refine lv_iconst (v := 0) hx hb dX0_copyFrom_115 (by decide) ?_
  refine lv_aload_n hx hb dX0_copyFrom_116 rfl (lv_at hl 0 rfl) ?_
  refine va_get (D := (dC, dI)) (ci := 0) (v := .ref h2) (C := RX0) (T := TX0) (N := 15) hx hb hts hiX0 hown hK hP 0 rfl rfl 13 (by decide) (hts (.fieldLink RX0 15 "TripReckoner$Ledger" "amountsLeast" "[I") (by decide +kernel)) (fun _ h9 => h9) rfl dX0_copyFrom_117 ?_
  refine lv_iconst (v := 0) hx hb dX0_copyFrom_120 (by decide) ?_
  refine lv_bipush (v := 30) hx hb dX0_copyFrom_121 (by decide) ?_
  refine va_copyi (ty := .int) hx hb (by rw [hml]; exact hl.1.symm) hown (hts (.methodLink RX0 65 arraycopyName) (by decide +kernel)) (hts (.native arraycopyName) (by decide +kernel)) (hts (.static arraycopyName) (by decide +kernel)) (hts (.initialized "java/lang/System") (by decide +kernel)) hK hP hD hS 6 2 0 0 rfl rfl rfl rfl rfl (by decide) (by decide) (by decide) (by decide +kernel) (by decide +kernel) (fun _ _ => rfl) (Nat.le_of_ble_eq_true rfl) (by decide +kernel) dX0_copyFrom_123 (fun H locs hP hD hS => ?_)
  have hP : va_P (dC, dI) vwCl [(h0, .inr (0, [.int k.1, .int k.2.1, .int k.2.2.1, .int k.2.2.2.1, .int k.2.2.2.2.1, .int k.2.2.2.2.2.1, .int k.2.2.2.2.2.2.1, .int k.2.2.2.2.2.2.2.1, .int k.2.2.2.2.2.2.2.2.1, .int k.2.2.2.2.2.2.2.2.2.1, .long k.2.2.2.2.2.2.2.2.2.2.1, .long k.2.2.2.2.2.2.2.2.2.2.2.1, .ref h1, .ref h2, .ref h3])), (h1, .inl (cJ, 20, .inr (.inl (va_cpy k.2.2.2.2.2.2.2.2.2.2.2.2.1 g.2.2.2.2.2.2.2.2.2.2.2.2.1 0 0 20)))), (h2, .inl (cI, 30, .inl (va_cpy k.2.2.2.2.2.2.2.2.2.2.2.2.2.1 g.2.2.2.2.2.2.2.2.2.2.2.2.2.1 0 0 30))), (h3, .inl (cI, 30, .inl g.2.2.2.2.2.2.2.2.2.2.2.2.2.2)), cL0 k0 k1 k2 k3 k, cL1 cJ k1 k, cL2 cI k2 k, cL3 cI k3 k] H := hP
  have hD : va_D A [(h0, .inr (0, [.int k.1, .int k.2.1, .int k.2.2.1, .int k.2.2.2.1, .int k.2.2.2.2.1, .int k.2.2.2.2.2.1, .int k.2.2.2.2.2.2.1, .int k.2.2.2.2.2.2.2.1, .int k.2.2.2.2.2.2.2.2.1, .int k.2.2.2.2.2.2.2.2.2.1, .long k.2.2.2.2.2.2.2.2.2.2.1, .long k.2.2.2.2.2.2.2.2.2.2.2.1, .ref h1, .ref h2, .ref h3])), (h1, .inl (cJ, 20, .inr (.inl (va_cpy k.2.2.2.2.2.2.2.2.2.2.2.2.1 g.2.2.2.2.2.2.2.2.2.2.2.2.1 0 0 20)))), (h2, .inl (cI, 30, .inl (va_cpy k.2.2.2.2.2.2.2.2.2.2.2.2.2.1 g.2.2.2.2.2.2.2.2.2.2.2.2.2.1 0 0 30))), (h3, .inl (cI, 30, .inl g.2.2.2.2.2.2.2.2.2.2.2.2.2.2)), cL0 k0 k1 k2 k3 k, cL1 cJ k1 k, cL2 cI k2 k, cL3 cI k3 k] := hD
  refine lv_aload_n hx hb dX0_copyFrom_126 rfl (lv_at hl 1 rfl) ?_
  refine va_get (D := (dC, dI)) (ci := 0) (v := .ref k3) (C := RX0) (T := TX0) (N := 15) hx hb hts hiX0 hown hK hP 4 rfl rfl 14 (by decide) (hts (.fieldLink RX0 19 "TripReckoner$Ledger" "amountsGreatest" "[I") (by decide +kernel)) (fun _ h9 => h9) rfl dX0_copyFrom_127 ?_
  refine lv_iconst (v := 0) hx hb dX0_copyFrom_130 (by decide) ?_
  refine lv_aload_n hx hb dX0_copyFrom_131 rfl (lv_at hl 0 rfl) ?_
  refine va_get (D := (dC, dI)) (ci := 0) (v := .ref h3) (C := RX0) (T := TX0) (N := 15) hx hb hts hiX0 hown hK hP 0 rfl rfl 14 (by decide) (hts (.fieldLink RX0 19 "TripReckoner$Ledger" "amountsGreatest" "[I") (by decide +kernel)) (fun _ h9 => h9) rfl dX0_copyFrom_132 ?_
  refine lv_iconst (v := 0) hx hb dX0_copyFrom_135 (by decide) ?_
  refine lv_bipush (v := 30) hx hb dX0_copyFrom_136 (by decide) ?_
  refine va_copyi (ty := .int) hx hb (by rw [hml]; exact hl.1.symm) hown (hts (.methodLink RX0 65 arraycopyName) (by decide +kernel)) (hts (.native arraycopyName) (by decide +kernel)) (hts (.static arraycopyName) (by decide +kernel)) (hts (.initialized "java/lang/System") (by decide +kernel)) hK hP hD hS 7 3 0 0 rfl rfl rfl rfl rfl (by decide) (by decide) (by decide) (by decide +kernel) (by decide +kernel) (fun _ _ => rfl) (Nat.le_of_ble_eq_true rfl) (by decide +kernel) dX0_copyFrom_138 (fun H locs hP hD hS => ?_)
  have hP : va_P (dC, dI) vwCl [(h0, .inr (0, [.int k.1, .int k.2.1, .int k.2.2.1, .int k.2.2.2.1, .int k.2.2.2.2.1, .int k.2.2.2.2.2.1, .int k.2.2.2.2.2.2.1, .int k.2.2.2.2.2.2.2.1, .int k.2.2.2.2.2.2.2.2.1, .int k.2.2.2.2.2.2.2.2.2.1, .long k.2.2.2.2.2.2.2.2.2.2.1, .long k.2.2.2.2.2.2.2.2.2.2.2.1, .ref h1, .ref h2, .ref h3])), (h1, .inl (cJ, 20, .inr (.inl (va_cpy k.2.2.2.2.2.2.2.2.2.2.2.2.1 g.2.2.2.2.2.2.2.2.2.2.2.2.1 0 0 20)))), (h2, .inl (cI, 30, .inl (va_cpy k.2.2.2.2.2.2.2.2.2.2.2.2.2.1 g.2.2.2.2.2.2.2.2.2.2.2.2.2.1 0 0 30))), (h3, .inl (cI, 30, .inl (va_cpy k.2.2.2.2.2.2.2.2.2.2.2.2.2.2 g.2.2.2.2.2.2.2.2.2.2.2.2.2.2 0 0 30))), cL0 k0 k1 k2 k3 k, cL1 cJ k1 k, cL2 cI k2 k, cL3 cI k3 k] H := hP
  have hD : va_D A [(h0, .inr (0, [.int k.1, .int k.2.1, .int k.2.2.1, .int k.2.2.2.1, .int k.2.2.2.2.1, .int k.2.2.2.2.2.1, .int k.2.2.2.2.2.2.1, .int k.2.2.2.2.2.2.2.1, .int k.2.2.2.2.2.2.2.2.1, .int k.2.2.2.2.2.2.2.2.2.1, .long k.2.2.2.2.2.2.2.2.2.2.1, .long k.2.2.2.2.2.2.2.2.2.2.2.1, .ref h1, .ref h2, .ref h3])), (h1, .inl (cJ, 20, .inr (.inl (va_cpy k.2.2.2.2.2.2.2.2.2.2.2.2.1 g.2.2.2.2.2.2.2.2.2.2.2.2.1 0 0 20)))), (h2, .inl (cI, 30, .inl (va_cpy k.2.2.2.2.2.2.2.2.2.2.2.2.2.1 g.2.2.2.2.2.2.2.2.2.2.2.2.2.1 0 0 30))), (h3, .inl (cI, 30, .inl (va_cpy k.2.2.2.2.2.2.2.2.2.2.2.2.2.2 g.2.2.2.2.2.2.2.2.2.2.2.2.2.2 0 0 30))), cL0 k0 k1 k2 k3 k, cL1 cJ k1 k, cL2 cI k2 k, cL3 cI k3 k] := hD
  have es0 : sX0_copyFrom g k = (k.1, k.2.1, k.2.2.1, k.2.2.2.1, k.2.2.2.2.1, k.2.2.2.2.2.1, k.2.2.2.2.2.2.1, k.2.2.2.2.2.2.2.1, k.2.2.2.2.2.2.2.2.1, k.2.2.2.2.2.2.2.2.2.1, k.2.2.2.2.2.2.2.2.2.2.1, k.2.2.2.2.2.2.2.2.2.2.2.1, va_cpy k.2.2.2.2.2.2.2.2.2.2.2.2.1 g.2.2.2.2.2.2.2.2.2.2.2.2.1 0 0 20, va_cpy k.2.2.2.2.2.2.2.2.2.2.2.2.2.1 g.2.2.2.2.2.2.2.2.2.2.2.2.2.1 0 0 30, va_cpy k.2.2.2.2.2.2.2.2.2.2.2.2.2.2 g.2.2.2.2.2.2.2.2.2.2.2.2.2.2 0 0 30) := by rw [sX0_copyFrom]
  refine W.vret hx hb hr (fun t ht hW => ⟨⟨(), rfl, trivial, ?_⟩, hS.F ht⟩) hS.2.2 dX0_copyFrom_141
  rw [es0]; exact ⟨by rw [ht]; exact hP, va_K.moved hW.alike hK, hD⟩

def rJ9_floorMod_7cf53 (x : Int32) (y : Int32) : Int32 :=
  if 0 ≤ (x ^^^ y) then
    x - x / y * y
  else
    if (x - x / y * y) = 0 then
      x - x / y * y
    else
      (x - x / y * y) + y
set_option maxHeartbeats 4000000 in
set_option maxRecDepth 100000 in
theorem kJ9_floorMod_7cf53 (l : Launch) (dC : Nat → ClassId) (dI : Nat → Nat → Nat) (cI cJ : ClassId) (sz : Nat) (x : Int32) (y : Int32)  (hy : ¬ y = 0) : Met l yJ9_floorMod_7cf53 wsJ9_floorMod_7cf53 ({ frames := 0, cells := 0, slots := 0, locals := 0 }) (va_Pc [.int x, .int y] (fun U => U.heap.size = sz ∧ va_P (dC, dI) vwCl [] U.heap ∧ va_K (dC, dI) vwCl [(cI, .int), (cJ, .long)] U ∧ va_D (fun _ => True) [])) (va_Qi (fun (r : Int32) (_ : Unit) => r = rJ9_floorMod_7cf53 x y) (fun _ t => va_P (dC, dI) vwCl [] t.heap ∧ va_K (dC, dI) vwCl [(cI, .int), (cJ, .long)] t ∧ va_D (va_A [] sz) []) (va_A [] sz)) 0 0 (va_A [] sz) := by
  refine xm_ofW (cc := cJ9_floorMod_7cf53) (maxL := 3) (ret := (some .int)) (by decide +kernel) rfl ?_
  intro p e s m args below meth c s₁ B hml hv
  obtain ⟨rfl, hsz, hP, hK, hD0⟩ := hv
  have hx := B.exec
  have hb := B.bytes
  have hr := B.returns
  have hts := atoms_spec (ws := wsJ9_floorMod_7cf53) B.pre
  have hown : s.vm.findClass RJ9 = some m.cls := findClass_of_methodNamed B.named
  have hlocks := B.notSynchronized
  subst hsz
  have hD := hD0.self (sz := s.heap.size)
  generalize hAe : va_A [] s.heap.size = A at hD ⊢
  have hA : ∀ q : Nat, s.heap.size ≤ q → A q := fun q h => by rw [← hAe]; exact Or.inr h
  have hS : va_S A s.heap s.heap [] := va_S.rf
  have hl := lv_entry ([.int x, .int y]) (n := 3) (Nat.le_of_ble_eq_true rfl)
  rw [lg_entry_eq]
  generalize (lg_sl ([.int x, .int y]) ++ List.replicate (3 - (lg_sl ([.int x, .int y])).length) Slot.unset).toArray = ls at hl ⊢
  have hl : lv_has ls 3 [(0, .int x), (1, .int y)] := hl
  have hP : va_P (dC, dI) vwCl [] s.heap := hP
  refine lv_iload_n hx hb dJ9_floorMod_7cf53_0 rfl (lv_at hl 0 rfl) ?_
  refine lv_iload_n hx hb dJ9_floorMod_7cf53_1 rfl (lv_at hl 1 rfl) ?_
  refine lv_irem hx hb dJ9_floorMod_7cf53_2 hy ?_
  refine lv_istore_n (lv' := [(2, .int (x - x / y * y)), (0, .int x), (1, .int y)]) hx hb dJ9_floorMod_7cf53_3 rfl hl (by decide) rfl (fun ls hl => ?_)
  refine lv_iload_n hx hb dJ9_floorMod_7cf53_4 rfl (lv_at hl 1 rfl) ?_
  refine lv_iload_n hx hb dJ9_floorMod_7cf53_5 rfl (lv_at hl 2 rfl) ?_
  refine lv_ixor hx hb dJ9_floorMod_7cf53_6 ?_
  refine lv_if_ge (tgt := 18) hx hb dJ9_floorMod_7cf53_7 (by decide) (fun c_1 => ?_) (fun c_1 => ?_)
  · refine lv_iload_n hx hb dJ9_floorMod_7cf53_18 rfl (lv_at hl 0 rfl) ?_
    have er : x - x / y * y = rJ9_floorMod_7cf53 x y := by rw [rJ9_floorMod_7cf53, if_pos c_1]
    refine W.iret (v := x - x / y * y) hx hb hr (fun t ht hW => ⟨⟨x - x / y * y, (), rfl, er, ?_⟩, hS.F ht⟩) hS.2.2 dJ9_floorMod_7cf53_19
    exact ⟨by rw [ht]; exact hP, va_K.moved hW.alike hK, hD⟩
  · refine lv_iload_n hx hb dJ9_floorMod_7cf53_10 rfl (lv_at hl 0 rfl) ?_
    refine lv_if_eq (tgt := 18) hx hb dJ9_floorMod_7cf53_11 (by decide) (fun c_2 => ?_) (fun c_2 => ?_)
    · refine lv_iload_n hx hb dJ9_floorMod_7cf53_18 rfl (lv_at hl 0 rfl) ?_
      have er : x - x / y * y = rJ9_floorMod_7cf53 x y := by rw [rJ9_floorMod_7cf53, if_neg c_1, if_pos c_2]
      refine W.iret (v := x - x / y * y) hx hb hr (fun t ht hW => ⟨⟨x - x / y * y, (), rfl, er, ?_⟩, hS.F ht⟩) hS.2.2 dJ9_floorMod_7cf53_19
      exact ⟨by rw [ht]; exact hP, va_K.moved hW.alike hK, hD⟩
    · refine lv_iload_n hx hb dJ9_floorMod_7cf53_14 rfl (lv_at hl 0 rfl) ?_
      refine lv_iload_n hx hb dJ9_floorMod_7cf53_15 rfl (lv_at hl 2 rfl) ?_
      refine lv_iadd hx hb dJ9_floorMod_7cf53_16 ?_
      have er : (x - x / y * y) + y = rJ9_floorMod_7cf53 x y := by rw [rJ9_floorMod_7cf53, if_neg c_1, if_neg c_2]
      refine W.iret (v := (x - x / y * y) + y) hx hb hr (fun t ht hW => ⟨⟨(x - x / y * y) + y, (), rfl, er, ?_⟩, hS.F ht⟩) hS.2.2 dJ9_floorMod_7cf53_17
      exact ⟨by rw [ht]; exact hP, va_K.moved hW.alike hK, hD⟩

def rX0_placeOf (k : Int32) : Int32 :=
  rJ9_floorMod_7cf53 k 30
set_option maxHeartbeats 4000000 in
set_option maxRecDepth 100000 in
theorem kX0_placeOf (l : Launch) (dC : Nat → ClassId) (dI : Nat → Nat → Nat) (cI cJ : ClassId) (sz : Nat) (k : Int32)  : Met l yX0_placeOf wsX0_placeOf ({ frames := 1, cells := 0, slots := 0, locals := 22 }) (va_Pc [.int k] (fun U => U.heap.size = sz ∧ va_P (dC, dI) vwCl [] U.heap ∧ va_K (dC, dI) vwCl [(cI, .int), (cJ, .long)] U ∧ va_D (fun _ => True) [])) (va_Qi (fun (r : Int32) (_ : Unit) => r = rX0_placeOf k) (fun _ t => va_P (dC, dI) vwCl [] t.heap ∧ va_K (dC, dI) vwCl [(cI, .int), (cJ, .long)] t ∧ va_D (va_A [] sz) []) (va_A [] sz)) 0 0 (va_A [] sz) := by
  refine Met.ofW (cc := cX0_placeOf) (maxL := 1) (ret := (some .int)) (by decide) rfl ?_
  intro p e s m args below meth c s₁ B hml hv
  obtain ⟨rfl, hsz, hP, hK, hD0⟩ := hv
  have hx := B.exec
  have hb := B.bytes
  have hr := B.returns
  have hts := atoms_spec (ws := wsX0_placeOf) B.pre
  have hown : s.vm.findClass RX0 = some m.cls := findClass_of_methodNamed B.named
  have hlocks := B.notSynchronized
  subst hsz
  have hD := hD0.self (sz := s.heap.size)
  generalize hAe : va_A [] s.heap.size = A at hD ⊢
  have hA : ∀ q : Nat, s.heap.size ≤ q → A q := fun q h => by rw [← hAe]; exact Or.inr h
  have hS : va_S A s.heap s.heap [] := va_S.rf
  have hl := lv_entry ([.int k]) (n := 1) (Nat.le_of_ble_eq_true rfl)
  rw [lg_entry_eq]
  generalize (lg_sl ([.int k]) ++ List.replicate (1 - (lg_sl ([.int k])).length) Slot.unset).toArray = ls at hl ⊢
  have hl : lv_has ls 1 [(0, .int k)] := hl
  have hP : va_P (dC, dI) vwCl [] s.heap := hP
  refine lv_iload_n hx hb dX0_placeOf_0 rfl (lv_at hl 0 rfl) ?_
  refine lv_bipush (v := 30) hx hb dX0_placeOf_1 (by decide) ?_
  have hPc := hP.sub (ws' := []) [] rfl
  have hDc := hD.sub (ws' := []) [] (by decide) rfl
  have hFc := va_free (wc := []) hD hS hA [] rfl
  refine va_calli (va_runS (As := [.int k, .int 30]) (rest := []) ⟨hx, hb, hml, hown, hts⟩ (kJ9_floorMod_7cf53 l dC dI cI cJ s.heap.size k 30 (by decide)) (va_cwS 2 hts gX0_placeOf_J9_floorMod_7cf53 rfl rfl rfl (by decide +kernel) ⟨Nat.le_of_ble_eq_true rfl, Nat.le_of_ble_eq_true rfl⟩) ⟨fun a U g mk q => by obtain ⟨q0, q1, qP, qK, qD⟩ := q; exact ⟨q0, q1, qP, va_K.moved (u := U) (U := U.calling g mk a) (Vm.Alike.refl U.vm) qK, qD⟩, fun U hU hW => ⟨rfl, by rw [hU], by rw [hU]; exact hPc, va_K.moved hW.alike hK, hDc.weaken (fun _ _ _ _ => trivial)⟩⟩ rfl rfl hl.1 rfl (lv_room (Nat.le_of_ble_eq_true rfl)) dX0_placeOf_3 ⟨Nat.le_of_ble_eq_true rfl, Nat.le_of_ble_eq_true rfl⟩) hS (fun q _ h => hFc q h) hFc (fun r_1 _ t H1 locs ht hvm hw hB hz1 hk1 hS => ?_)
  obtain ⟨hP1, hK1, hD1⟩ := hB
  rw [ht] at hP1
  obtain ⟨hP, hD⟩ := va_join (wr := []) (w1 := []) hP hD [] [] rfl rfl (by decide) (by decide) hk1 hFc hP1 hD1
  generalize H1 = H at hP hS ⊢
  have hP : va_P (dC, dI) vwCl [] H := hP
  have hD : va_D A [] := hD
  subst hw
  have er : rJ9_floorMod_7cf53 k 30 = rX0_placeOf k := by rw [rX0_placeOf]
  refine W.iret (v := rJ9_floorMod_7cf53 k 30) hx hb hr (fun t ht hW => ⟨⟨rJ9_floorMod_7cf53 k 30, (), rfl, er, ?_⟩, hS.F ht⟩) hS.2.2 dX0_placeOf_6
  exact ⟨by rw [ht]; exact hP, va_K.moved hW.alike hK, hD⟩

theorem placeOf_in (k : Int32) : vp_in (rX0_placeOf k) 30 := floor30_in k
theorem placeOf_rem {k : Int32} (h : 0 ≤ k) : rX0_placeOf k = k - k / 30 * 30 := by
  unfold rX0_placeOf rJ9_floorMod_7cf53
  exact if_pos ((sgn_xor30 k).mpr h)

def sX0_settle (g : LG) : LG :=
  if g.2.2.2.2.2.2.2.1 = 0 then
    g
  else
    (g.1, g.2.1, g.2.2.1, g.2.2.2.1, g.2.2.2.2.1, g.2.2.2.2.2.1, g.2.2.2.2.2.2.1, g.2.2.2.2.2.2.2.1, g.2.2.2.2.2.2.2.2.1, g.2.2.2.2.2.2.2.2.2.1, g.2.2.2.2.2.2.2.2.2.2.1, g.2.2.2.2.2.2.2.2.2.2.2.1, g.2.2.2.2.2.2.2.2.2.2.2.2.1, upd g.2.2.2.2.2.2.2.2.2.2.2.2.2.1 ((rX0_placeOf (g.2.2.1 - 1)).toNatClampNeg) ((if ((g.1.toInt64 + g.2.2.2.2.2.2.2.2.2.2.1) - g.2.2.2.2.2.2.2.2.2.1.toInt64) < ((g.2.2.2.2.2.2.2.2.2.2.2.2.2.1 ((rX0_placeOf (g.2.2.1 - 1)).toNatClampNeg)).toInt64) then ((g.2.2.2.2.2.2.2.2.2.2.2.2.2.1 ((rX0_placeOf (g.2.2.1 - 1)).toNatClampNeg)).toInt64) else ((g.1.toInt64 + g.2.2.2.2.2.2.2.2.2.2.1) - g.2.2.2.2.2.2.2.2.2.1.toInt64)).toInt32), upd g.2.2.2.2.2.2.2.2.2.2.2.2.2.2 ((rX0_placeOf (g.2.2.1 - 1)).toNatClampNeg) ((if ((g.2.1.toInt64 + g.2.2.2.2.2.2.2.2.2.2.2.1) - g.2.2.2.2.2.2.2.2.1.toInt64) < ((g.2.2.2.2.2.2.2.2.2.2.2.2.2.2 ((rX0_placeOf (g.2.2.1 - 1)).toNatClampNeg)).toInt64) then ((g.2.1.toInt64 + g.2.2.2.2.2.2.2.2.2.2.2.1) - g.2.2.2.2.2.2.2.2.1.toInt64) else ((g.2.2.2.2.2.2.2.2.2.2.2.2.2.2 ((rX0_placeOf (g.2.2.1 - 1)).toNatClampNeg)).toInt64)).toInt32))
set_option maxHeartbeats 4000000 in
set_option maxRecDepth 100000 in
theorem kX0_settle (l : Launch) (dC : Nat → ClassId) (dI : Nat → Nat → Nat) (cI cJ : ClassId) (h0 h1 h2 h3 : Nat) (sz : Nat)  (g : LG) : Met l yX0_settle wsX0_settle ({ frames := 2, cells := 0, slots := 0, locals := 42 }) (va_Pc [.ref h0] (fun U => U.heap.size = sz ∧ va_P (dC, dI) vwCl [cL0 h0 h1 h2 h3 g, cL1 cJ h1 g, cL2 cI h2 g, cL3 cI h3 g] U.heap ∧ va_K (dC, dI) vwCl [(cI, .int), (cJ, .long)] U ∧ va_D (fun _ => True) [cL0 h0 h1 h2 h3 g, cL1 cJ h1 g, cL2 cI h2 g, cL3 cI h3 g])) (va_Qv (fun _ : Unit => True) (fun _ t => va_P (dC, dI) vwCl [cL0 h0 h1 h2 h3 (sX0_settle g), cL1 cJ h1 (sX0_settle g), cL2 cI h2 (sX0_settle g), cL3 cI h3 (sX0_settle g)] t.heap ∧ va_K (dC, dI) vwCl [(cI, .int), (cJ, .long)] t ∧ va_D (va_A [cL0 h0 h1 h2 h3 g, cL1 cJ h1 g, cL2 cI h2 g, cL3 cI h3 g] sz) [cL0 h0 h1 h2 h3 (sX0_settle g), cL1 cJ h1 (sX0_settle g), cL2 cI h2 (sX0_settle g), cL3 cI h3 (sX0_settle g)]) (va_A [cL0 h0 h1 h2 h3 g, cL1 cJ h1 g, cL2 cI h2 g, cL3 cI h3 g] sz)) 0 0 (va_A [cL0 h0 h1 h2 h3 g, cL1 cJ h1 g, cL2 cI h2 g, cL3 cI h3 g] sz) := by
  refine Met.ofW (cc := cX0_settle) (maxL := 6) (ret := none) (by decide) rfl ?_
  intro p e s m args below meth c s₁ B hml hv
  obtain ⟨rfl, hsz, hP, hK, hD0⟩ := hv
  have hx := B.exec
  have hb := B.bytes
  have hr := B.returns
  have hts := atoms_spec (ws := wsX0_settle) B.pre
  have hown : s.vm.findClass RX0 = some m.cls := findClass_of_methodNamed B.named
  have hlocks := B.notSynchronized
  have hiX0 : ∀ w ∈ u_ws RX0 TX0 15, w ∈ wsX0_settle := by decide +kernel
  subst hsz
  have hD := hD0.self (sz := s.heap.size)
  generalize hAe : va_A [cL0 h0 h1 h2 h3 g, cL1 cJ h1 g, cL2 cI h2 g, cL3 cI h3 g] s.heap.size = A at hD ⊢
  have hA : ∀ q : Nat, s.heap.size ≤ q → A q := fun q h => by rw [← hAe]; exact Or.inr h
  have hS : va_S A s.heap s.heap [] := va_S.rf
  have hl := lv_entry ([.ref h0]) (n := 6) (Nat.le_of_ble_eq_true rfl)
  rw [lg_entry_eq]
  generalize (lg_sl ([.ref h0]) ++ List.replicate (6 - (lg_sl ([.ref h0])).length) Slot.unset).toArray = ls at hl ⊢
  have hl : lv_has ls 6 [(0, .ref h0)] := hl
  have hP : va_P (dC, dI) vwCl [cL0 h0 h1 h2 h3 g, cL1 cJ h1 g, cL2 cI h2 g, cL3 cI h3 g] s.heap := hP
  refine lv_aload_n hx hb dX0_settle_0 rfl (lv_at hl 0 rfl) ?_
  refine va_get (D := (dC, dI)) (ci := 0) (v := .int g.2.2.2.2.2.2.2.1) (C := RX0) (T := TX0) (N := 15) hx hb hts hiX0 hown hK hP 0 rfl rfl 7 (by decide) (hts (.fieldLink RX0 44 "TripReckoner$Ledger" "settling" "Z") (by decide +kernel)) (fun _ h9 => h9) rfl dX0_settle_1 ?_
  refine lv_if_ne (tgt := 8) hx hb dX0_settle_4 (by decide) (fun c_1 => ?_) (fun c_1 => ?_)
  · refine lv_aload_n hx hb dX0_settle_8 rfl (lv_at hl 0 rfl) ?_
    refine va_get (D := (dC, dI)) (ci := 0) (v := .int g.2.2.1) (C := RX0) (T := TX0) (N := 15) hx hb hts hiX0 hown hK hP 0 rfl rfl 2 (by decide) (hts (.fieldLink RX0 29 "TripReckoner$Ledger" "refills" "I") (by decide +kernel)) (fun _ h9 => h9) rfl dX0_settle_9 ?_
    refine lv_iconst (v := 1) hx hb dX0_settle_12 (by decide) ?_
    refine lv_isub hx hb dX0_settle_13 ?_
    have hPc := hP.sub (ws' := []) [] rfl
    have hDc := hD.sub (ws' := []) [] (by decide) rfl
    have hFc := va_free (wc := []) hD hS hA [] rfl
    refine va_calli (va_runS (As := [.int (g.2.2.1 - 1)]) (rest := []) ⟨hx, hb, hml, hown, hts⟩ (kX0_placeOf l dC dI cI cJ s.heap.size (g.2.2.1 - 1)) (va_cwS 1 hts gX0_settle_X0_placeOf rfl rfl rfl (by decide +kernel) ⟨Nat.le_of_ble_eq_true rfl, Nat.le_of_ble_eq_true rfl⟩) ⟨fun a U g mk q => by obtain ⟨q0, q1, qP, qK, qD⟩ := q; exact ⟨q0, q1, qP, va_K.moved (u := U) (U := U.calling g mk a) (Vm.Alike.refl U.vm) qK, qD⟩, fun U hU hW => ⟨rfl, by rw [hU], by rw [hU]; exact hPc, va_K.moved hW.alike hK, hDc.weaken (fun _ _ _ _ => trivial)⟩⟩ rfl rfl hl.1 rfl (lv_room (Nat.le_of_ble_eq_true rfl)) dX0_settle_14 ⟨Nat.le_of_ble_eq_true rfl, Nat.le_of_ble_eq_true rfl⟩) hS (fun q _ h => hFc q h) hFc (fun r_2 _ t H1 locs ht hvm hw hB hz1 hk1 hS => ?_)
    obtain ⟨hP1, hK1, hD1⟩ := hB
    rw [ht] at hP1
    obtain ⟨hP, hD⟩ := va_join (wr := [cL0 h0 h1 h2 h3 g, cL1 cJ h1 g, cL2 cI h2 g, cL3 cI h3 g]) (w1 := []) hP hD [] [0, 1, 2, 3] rfl rfl (by decide) (by decide) hk1 hFc hP1 hD1
    generalize H1 = H at hP hS ⊢
    have hP : va_P (dC, dI) vwCl [cL0 h0 h1 h2 h3 g, cL1 cJ h1 g, cL2 cI h2 g, cL3 cI h3 g] H := hP
    have hD : va_D A [cL0 h0 h1 h2 h3 g, cL1 cJ h1 g, cL2 cI h2 g, cL3 cI h3 g] := hD
    subst hw
    refine lv_istore_n (lv' := [(1, .int (rX0_placeOf (g.2.2.1 - 1))), (0, .ref h0)]) hx hb dX0_settle_17 rfl hl (by decide) rfl (fun ls hl => ?_)
    refine lv_aload_n hx hb dX0_settle_18 rfl (lv_at hl 1 rfl) ?_
    refine va_get (D := (dC, dI)) (ci := 0) (v := .int g.1) (C := RX0) (T := TX0) (N := 15) hx hb hts hiX0 hown hK hP 0 rfl rfl 0 (by decide) (hts (.fieldLink RX0 22 "TripReckoner$Ledger" "spanLeast" "I") (by decide +kernel)) (fun _ h9 => h9) rfl dX0_settle_19 ?_
    refine lv_i2l (v := g.1.toInt64) hx hb dX0_settle_22 rfl ?_
    refine lv_aload_n hx hb dX0_settle_23 rfl (lv_at hl 1 rfl) ?_
    refine va_get (D := (dC, dI)) (ci := 0) (v := .long g.2.2.2.2.2.2.2.2.2.2.1) (C := RX0) (T := TX0) (N := 15) hx hb hts hiX0 hown hK hP 0 rfl rfl 10 (by decide) (hts (.fieldLink RX0 58 "TripReckoner$Ledger" "usedLeast" "J") (by decide +kernel)) (fun _ h9 => h9) rfl dX0_settle_24 ?_
    refine lv_ladd hx hb dX0_settle_27 ?_
    refine lv_aload_n hx hb dX0_settle_28 rfl (lv_at hl 1 rfl) ?_
    refine va_get (D := (dC, dI)) (ci := 0) (v := .int g.2.2.2.2.2.2.2.2.2.1) (C := RX0) (T := TX0) (N := 15) hx hb hts hiX0 hown hK hP 0 rfl rfl 9 (by decide) (hts (.fieldLink RX0 55 "TripReckoner$Ledger" "aheadGreatest" "I") (by decide +kernel)) (fun _ h9 => h9) rfl dX0_settle_29 ?_
    refine lv_i2l (v := g.2.2.2.2.2.2.2.2.2.1.toInt64) hx hb dX0_settle_32 rfl ?_
    refine lv_lsub hx hb dX0_settle_33 ?_
    refine lv_lstore_n (lv' := [(2, .long ((g.1.toInt64 + g.2.2.2.2.2.2.2.2.2.2.1) - g.2.2.2.2.2.2.2.2.2.1.toInt64)), (1, .int (rX0_placeOf (g.2.2.1 - 1))), (0, .ref h0)]) hx hb dX0_settle_34 rfl hl (by decide) rfl (fun ls hl => ?_)
    refine lv_aload_n hx hb dX0_settle_35 rfl (lv_at hl 2 rfl) ?_
    refine va_get (D := (dC, dI)) (ci := 0) (v := .int g.2.1) (C := RX0) (T := TX0) (N := 15) hx hb hts hiX0 hown hK hP 0 rfl rfl 1 (by decide) (hts (.fieldLink RX0 26 "TripReckoner$Ledger" "spanGreatest" "I") (by decide +kernel)) (fun _ h9 => h9) rfl dX0_settle_36 ?_
    refine lv_i2l (v := g.2.1.toInt64) hx hb dX0_settle_39 rfl ?_
    refine lv_aload_n hx hb dX0_settle_40 rfl (lv_at hl 2 rfl) ?_
    refine va_get (D := (dC, dI)) (ci := 0) (v := .long g.2.2.2.2.2.2.2.2.2.2.2.1) (C := RX0) (T := TX0) (N := 15) hx hb hts hiX0 hown hK hP 0 rfl rfl 11 (by decide) (hts (.fieldLink RX0 62 "TripReckoner$Ledger" "usedMost" "J") (by decide +kernel)) (fun _ h9 => h9) rfl dX0_settle_41 ?_
    refine lv_ladd hx hb dX0_settle_44 ?_
    refine lv_aload_n hx hb dX0_settle_45 rfl (lv_at hl 2 rfl) ?_
    refine va_get (D := (dC, dI)) (ci := 0) (v := .int g.2.2.2.2.2.2.2.2.1) (C := RX0) (T := TX0) (N := 15) hx hb hts hiX0 hown hK hP 0 rfl rfl 8 (by decide) (hts (.fieldLink RX0 52 "TripReckoner$Ledger" "aheadLeast" "I") (by decide +kernel)) (fun _ h9 => h9) rfl dX0_settle_46 ?_
    refine lv_i2l (v := g.2.2.2.2.2.2.2.2.1.toInt64) hx hb dX0_settle_49 rfl ?_
    refine lv_lsub hx hb dX0_settle_50 ?_
    refine lv_lstore (lv' := [(4, .long ((g.2.1.toInt64 + g.2.2.2.2.2.2.2.2.2.2.2.1) - g.2.2.2.2.2.2.2.2.1.toInt64)), (2, .long ((g.1.toInt64 + g.2.2.2.2.2.2.2.2.2.2.1) - g.2.2.2.2.2.2.2.2.2.1.toInt64)), (1, .int (rX0_placeOf (g.2.2.1 - 1))), (0, .ref h0)]) hx hb dX0_settle_51 hl (by decide) rfl (fun ls hl => ?_)
    refine lv_aload_n hx hb dX0_settle_53 rfl (lv_at hl 3 rfl) ?_
    refine va_get (D := (dC, dI)) (ci := 0) (v := .ref h2) (C := RX0) (T := TX0) (N := 15) hx hb hts hiX0 hown hK hP 0 rfl rfl 13 (by decide) (hts (.fieldLink RX0 15 "TripReckoner$Ledger" "amountsLeast" "[I") (by decide +kernel)) (fun _ h9 => h9) rfl dX0_settle_54 ?_
    refine lv_iload_n hx hb dX0_settle_57 rfl (lv_at hl 2 rfl) ?_
    refine lv_aload_n hx hb dX0_settle_58 rfl (lv_at hl 3 rfl) ?_
    refine va_get (D := (dC, dI)) (ci := 0) (v := .ref h2) (C := RX0) (T := TX0) (N := 15) hx hb hts hiX0 hown hK hP 0 rfl rfl 13 (by decide) (hts (.fieldLink RX0 15 "TripReckoner$Ledger" "amountsLeast" "[I") (by decide +kernel)) (fun _ h9 => h9) rfl dX0_settle_59 ?_
    refine lv_iload_n hx hb dX0_settle_62 rfl (lv_at hl 2 rfl) ?_
    refine va_iald hx hb hK hP 2 0 rfl rfl (placeOf_in _) dX0_settle_63 ?_
    refine lv_i2l (v := (g.2.2.2.2.2.2.2.2.2.2.2.2.2.1 ((rX0_placeOf (g.2.2.1 - 1)).toNatClampNeg)).toInt64) hx hb dX0_settle_64 rfl ?_
    refine lv_lload_n hx hb dX0_settle_65 rfl (lv_at hl 1 rfl) ?_
    refine va_mmax_long hx hb (by rw [hml]; exact hl.1.symm) hown (hts (.methodLink RX0 90 Lib.MathLoose.max_long.x) (by decide +kernel)) (hts (.static Lib.MathLoose.max_long.x) (by decide +kernel)) (hts (.initialized "java/lang/Math") (by decide +kernel)) (hts (.code Lib.MathLoose.max_long.x Lib.MathLoose.max_long.code 4 (some .long)) (by decide +kernel)) (Nat.le_of_ble_eq_true rfl) (Nat.le_of_ble_eq_true rfl) (Nat.zero_le _) (Nat.zero_le _) dX0_settle_66 ?_
    refine lv_l2i (v := (if ((g.1.toInt64 + g.2.2.2.2.2.2.2.2.2.2.1) - g.2.2.2.2.2.2.2.2.2.1.toInt64) < ((g.2.2.2.2.2.2.2.2.2.2.2.2.2.1 ((rX0_placeOf (g.2.2.1 - 1)).toNatClampNeg)).toInt64) then ((g.2.2.2.2.2.2.2.2.2.2.2.2.2.1 ((rX0_placeOf (g.2.2.1 - 1)).toNatClampNeg)).toInt64) else ((g.1.toInt64 + g.2.2.2.2.2.2.2.2.2.2.1) - g.2.2.2.2.2.2.2.2.2.1.toInt64)).toInt32) hx hb dX0_settle_69 rfl ?_
    refine va_iast hx hb hK hP hD hS 2 0 rfl rfl (placeOf_in _) dX0_settle_70 (fun H locs hP hD hS => ?_)
    have hP : va_P (dC, dI) vwCl [(h0, .inr (0, [.int g.1, .int g.2.1, .int g.2.2.1, .int g.2.2.2.1, .int g.2.2.2.2.1, .int g.2.2.2.2.2.1, .int g.2.2.2.2.2.2.1, .int g.2.2.2.2.2.2.2.1, .int g.2.2.2.2.2.2.2.2.1, .int g.2.2.2.2.2.2.2.2.2.1, .long g.2.2.2.2.2.2.2.2.2.2.1, .long g.2.2.2.2.2.2.2.2.2.2.2.1, .ref h1, .ref h2, .ref h3])), (h1, .inl (cJ, 20, .inr (.inl g.2.2.2.2.2.2.2.2.2.2.2.2.1))), (h2, .inl (cI, 30, .inl (upd g.2.2.2.2.2.2.2.2.2.2.2.2.2.1 ((rX0_placeOf (g.2.2.1 - 1)).toNatClampNeg) ((if ((g.1.toInt64 + g.2.2.2.2.2.2.2.2.2.2.1) - g.2.2.2.2.2.2.2.2.2.1.toInt64) < ((g.2.2.2.2.2.2.2.2.2.2.2.2.2.1 ((rX0_placeOf (g.2.2.1 - 1)).toNatClampNeg)).toInt64) then ((g.2.2.2.2.2.2.2.2.2.2.2.2.2.1 ((rX0_placeOf (g.2.2.1 - 1)).toNatClampNeg)).toInt64) else ((g.1.toInt64 + g.2.2.2.2.2.2.2.2.2.2.1) - g.2.2.2.2.2.2.2.2.2.1.toInt64)).toInt32)))), (h3, .inl (cI, 30, .inl g.2.2.2.2.2.2.2.2.2.2.2.2.2.2))] H := hP
    have hD : va_D A [(h0, .inr (0, [.int g.1, .int g.2.1, .int g.2.2.1, .int g.2.2.2.1, .int g.2.2.2.2.1, .int g.2.2.2.2.2.1, .int g.2.2.2.2.2.2.1, .int g.2.2.2.2.2.2.2.1, .int g.2.2.2.2.2.2.2.2.1, .int g.2.2.2.2.2.2.2.2.2.1, .long g.2.2.2.2.2.2.2.2.2.2.1, .long g.2.2.2.2.2.2.2.2.2.2.2.1, .ref h1, .ref h2, .ref h3])), (h1, .inl (cJ, 20, .inr (.inl g.2.2.2.2.2.2.2.2.2.2.2.2.1))), (h2, .inl (cI, 30, .inl (upd g.2.2.2.2.2.2.2.2.2.2.2.2.2.1 ((rX0_placeOf (g.2.2.1 - 1)).toNatClampNeg) ((if ((g.1.toInt64 + g.2.2.2.2.2.2.2.2.2.2.1) - g.2.2.2.2.2.2.2.2.2.1.toInt64) < ((g.2.2.2.2.2.2.2.2.2.2.2.2.2.1 ((rX0_placeOf (g.2.2.1 - 1)).toNatClampNeg)).toInt64) then ((g.2.2.2.2.2.2.2.2.2.2.2.2.2.1 ((rX0_placeOf (g.2.2.1 - 1)).toNatClampNeg)).toInt64) else ((g.1.toInt64 + g.2.2.2.2.2.2.2.2.2.2.1) - g.2.2.2.2.2.2.2.2.2.1.toInt64)).toInt32)))), (h3, .inl (cI, 30, .inl g.2.2.2.2.2.2.2.2.2.2.2.2.2.2))] := hD
    refine lv_aload_n hx hb dX0_settle_71 rfl (lv_at hl 3 rfl) ?_
    refine va_get (D := (dC, dI)) (ci := 0) (v := .ref h3) (C := RX0) (T := TX0) (N := 15) hx hb hts hiX0 hown hK hP 0 rfl rfl 14 (by decide) (hts (.fieldLink RX0 19 "TripReckoner$Ledger" "amountsGreatest" "[I") (by decide +kernel)) (fun _ h9 => h9) rfl dX0_settle_72 ?_
    refine lv_iload_n hx hb dX0_settle_75 rfl (lv_at hl 2 rfl) ?_
    refine lv_aload_n hx hb dX0_settle_76 rfl (lv_at hl 3 rfl) ?_
    refine va_get (D := (dC, dI)) (ci := 0) (v := .ref h3) (C := RX0) (T := TX0) (N := 15) hx hb hts hiX0 hown hK hP 0 rfl rfl 14 (by decide) (hts (.fieldLink RX0 19 "TripReckoner$Ledger" "amountsGreatest" "[I") (by decide +kernel)) (fun _ h9 => h9) rfl dX0_settle_77 ?_
    refine lv_iload_n hx hb dX0_settle_80 rfl (lv_at hl 2 rfl) ?_
    refine va_iald hx hb hK hP 3 0 rfl rfl (placeOf_in _) dX0_settle_81 ?_
    refine lv_i2l (v := (g.2.2.2.2.2.2.2.2.2.2.2.2.2.2 ((rX0_placeOf (g.2.2.1 - 1)).toNatClampNeg)).toInt64) hx hb dX0_settle_82 rfl ?_
    refine lv_lload hx hb dX0_settle_83 (lv_at hl 0 rfl) ?_
    refine va_mmin_long hx hb (by rw [hml]; exact hl.1.symm) hown (hts (.methodLink RX0 93 Lib.MathLoose.min_long.x) (by decide +kernel)) (hts (.static Lib.MathLoose.min_long.x) (by decide +kernel)) (hts (.initialized "java/lang/Math") (by decide +kernel)) (hts (.code Lib.MathLoose.min_long.x Lib.MathLoose.min_long.code 4 (some .long)) (by decide +kernel)) (Nat.le_of_ble_eq_true rfl) (Nat.le_of_ble_eq_true rfl) (Nat.zero_le _) (Nat.zero_le _) dX0_settle_85 ?_
    refine lv_l2i (v := (if ((g.2.1.toInt64 + g.2.2.2.2.2.2.2.2.2.2.2.1) - g.2.2.2.2.2.2.2.2.1.toInt64) < ((g.2.2.2.2.2.2.2.2.2.2.2.2.2.2 ((rX0_placeOf (g.2.2.1 - 1)).toNatClampNeg)).toInt64) then ((g.2.1.toInt64 + g.2.2.2.2.2.2.2.2.2.2.2.1) - g.2.2.2.2.2.2.2.2.1.toInt64) else ((g.2.2.2.2.2.2.2.2.2.2.2.2.2.2 ((rX0_placeOf (g.2.2.1 - 1)).toNatClampNeg)).toInt64)).toInt32) hx hb dX0_settle_88 rfl ?_
    refine va_iast hx hb hK hP hD hS 3 0 rfl rfl (placeOf_in _) dX0_settle_89 (fun H locs hP hD hS => ?_)
    have hP : va_P (dC, dI) vwCl [(h0, .inr (0, [.int g.1, .int g.2.1, .int g.2.2.1, .int g.2.2.2.1, .int g.2.2.2.2.1, .int g.2.2.2.2.2.1, .int g.2.2.2.2.2.2.1, .int g.2.2.2.2.2.2.2.1, .int g.2.2.2.2.2.2.2.2.1, .int g.2.2.2.2.2.2.2.2.2.1, .long g.2.2.2.2.2.2.2.2.2.2.1, .long g.2.2.2.2.2.2.2.2.2.2.2.1, .ref h1, .ref h2, .ref h3])), (h1, .inl (cJ, 20, .inr (.inl g.2.2.2.2.2.2.2.2.2.2.2.2.1))), (h2, .inl (cI, 30, .inl (upd g.2.2.2.2.2.2.2.2.2.2.2.2.2.1 ((rX0_placeOf (g.2.2.1 - 1)).toNatClampNeg) ((if ((g.1.toInt64 + g.2.2.2.2.2.2.2.2.2.2.1) - g.2.2.2.2.2.2.2.2.2.1.toInt64) < ((g.2.2.2.2.2.2.2.2.2.2.2.2.2.1 ((rX0_placeOf (g.2.2.1 - 1)).toNatClampNeg)).toInt64) then ((g.2.2.2.2.2.2.2.2.2.2.2.2.2.1 ((rX0_placeOf (g.2.2.1 - 1)).toNatClampNeg)).toInt64) else ((g.1.toInt64 + g.2.2.2.2.2.2.2.2.2.2.1) - g.2.2.2.2.2.2.2.2.2.1.toInt64)).toInt32)))), (h3, .inl (cI, 30, .inl (upd g.2.2.2.2.2.2.2.2.2.2.2.2.2.2 ((rX0_placeOf (g.2.2.1 - 1)).toNatClampNeg) ((if ((g.2.1.toInt64 + g.2.2.2.2.2.2.2.2.2.2.2.1) - g.2.2.2.2.2.2.2.2.1.toInt64) < ((g.2.2.2.2.2.2.2.2.2.2.2.2.2.2 ((rX0_placeOf (g.2.2.1 - 1)).toNatClampNeg)).toInt64) then ((g.2.1.toInt64 + g.2.2.2.2.2.2.2.2.2.2.2.1) - g.2.2.2.2.2.2.2.2.1.toInt64) else ((g.2.2.2.2.2.2.2.2.2.2.2.2.2.2 ((rX0_placeOf (g.2.2.1 - 1)).toNatClampNeg)).toInt64)).toInt32))))] H := hP
    have hD : va_D A [(h0, .inr (0, [.int g.1, .int g.2.1, .int g.2.2.1, .int g.2.2.2.1, .int g.2.2.2.2.1, .int g.2.2.2.2.2.1, .int g.2.2.2.2.2.2.1, .int g.2.2.2.2.2.2.2.1, .int g.2.2.2.2.2.2.2.2.1, .int g.2.2.2.2.2.2.2.2.2.1, .long g.2.2.2.2.2.2.2.2.2.2.1, .long g.2.2.2.2.2.2.2.2.2.2.2.1, .ref h1, .ref h2, .ref h3])), (h1, .inl (cJ, 20, .inr (.inl g.2.2.2.2.2.2.2.2.2.2.2.2.1))), (h2, .inl (cI, 30, .inl (upd g.2.2.2.2.2.2.2.2.2.2.2.2.2.1 ((rX0_placeOf (g.2.2.1 - 1)).toNatClampNeg) ((if ((g.1.toInt64 + g.2.2.2.2.2.2.2.2.2.2.1) - g.2.2.2.2.2.2.2.2.2.1.toInt64) < ((g.2.2.2.2.2.2.2.2.2.2.2.2.2.1 ((rX0_placeOf (g.2.2.1 - 1)).toNatClampNeg)).toInt64) then ((g.2.2.2.2.2.2.2.2.2.2.2.2.2.1 ((rX0_placeOf (g.2.2.1 - 1)).toNatClampNeg)).toInt64) else ((g.1.toInt64 + g.2.2.2.2.2.2.2.2.2.2.1) - g.2.2.2.2.2.2.2.2.2.1.toInt64)).toInt32)))), (h3, .inl (cI, 30, .inl (upd g.2.2.2.2.2.2.2.2.2.2.2.2.2.2 ((rX0_placeOf (g.2.2.1 - 1)).toNatClampNeg) ((if ((g.2.1.toInt64 + g.2.2.2.2.2.2.2.2.2.2.2.1) - g.2.2.2.2.2.2.2.2.1.toInt64) < ((g.2.2.2.2.2.2.2.2.2.2.2.2.2.2 ((rX0_placeOf (g.2.2.1 - 1)).toNatClampNeg)).toInt64) then ((g.2.1.toInt64 + g.2.2.2.2.2.2.2.2.2.2.2.1) - g.2.2.2.2.2.2.2.2.1.toInt64) else ((g.2.2.2.2.2.2.2.2.2.2.2.2.2.2 ((rX0_placeOf (g.2.2.1 - 1)).toNatClampNeg)).toInt64)).toInt32))))] := hD
    have es0 : sX0_settle g = (g.1, g.2.1, g.2.2.1, g.2.2.2.1, g.2.2.2.2.1, g.2.2.2.2.2.1, g.2.2.2.2.2.2.1, g.2.2.2.2.2.2.2.1, g.2.2.2.2.2.2.2.2.1, g.2.2.2.2.2.2.2.2.2.1, g.2.2.2.2.2.2.2.2.2.2.1, g.2.2.2.2.2.2.2.2.2.2.2.1, g.2.2.2.2.2.2.2.2.2.2.2.2.1, upd g.2.2.2.2.2.2.2.2.2.2.2.2.2.1 ((rX0_placeOf (g.2.2.1 - 1)).toNatClampNeg) ((if ((g.1.toInt64 + g.2.2.2.2.2.2.2.2.2.2.1) - g.2.2.2.2.2.2.2.2.2.1.toInt64) < ((g.2.2.2.2.2.2.2.2.2.2.2.2.2.1 ((rX0_placeOf (g.2.2.1 - 1)).toNatClampNeg)).toInt64) then ((g.2.2.2.2.2.2.2.2.2.2.2.2.2.1 ((rX0_placeOf (g.2.2.1 - 1)).toNatClampNeg)).toInt64) else ((g.1.toInt64 + g.2.2.2.2.2.2.2.2.2.2.1) - g.2.2.2.2.2.2.2.2.2.1.toInt64)).toInt32), upd g.2.2.2.2.2.2.2.2.2.2.2.2.2.2 ((rX0_placeOf (g.2.2.1 - 1)).toNatClampNeg) ((if ((g.2.1.toInt64 + g.2.2.2.2.2.2.2.2.2.2.2.1) - g.2.2.2.2.2.2.2.2.1.toInt64) < ((g.2.2.2.2.2.2.2.2.2.2.2.2.2.2 ((rX0_placeOf (g.2.2.1 - 1)).toNatClampNeg)).toInt64) then ((g.2.1.toInt64 + g.2.2.2.2.2.2.2.2.2.2.2.1) - g.2.2.2.2.2.2.2.2.1.toInt64) else ((g.2.2.2.2.2.2.2.2.2.2.2.2.2.2 ((rX0_placeOf (g.2.2.1 - 1)).toNatClampNeg)).toInt64)).toInt32)) := by rw [sX0_settle, if_neg c_1]
    refine W.vret hx hb hr (fun t ht hW => ⟨⟨(), rfl, trivial, ?_⟩, hS.F ht⟩) hS.2.2 dX0_settle_90
    rw [es0]; exact ⟨by rw [ht]; exact hP, va_K.moved hW.alike hK, hD⟩
  · have es0 : sX0_settle g = g := by rw [sX0_settle, if_pos c_1]
    refine W.vret hx hb hr (fun t ht hW => ⟨⟨(), rfl, trivial, ?_⟩, hS.F ht⟩) hS.2.2 dX0_settle_7
    rw [es0]; exact ⟨by rw [ht]; exact hP, va_K.moved hW.alike hK, hD⟩

def sX0_narrow_g_4 (lo : Int32) (hi : Int32) (g : LG) (g_2 : LG) (g_4 : LG) : LG :=
  g_4
def sX0_narrow_g_2 (lo : Int32) (hi : Int32) (g : LG) (g_2 : LG) : LG :=
  sX0_narrow_g_4 lo hi g g_2 (sX0_showStep g_2)
def sX0_narrow (lo : Int32) (hi : Int32) (g : LG) : LG :=
  sX0_narrow_g_2 lo hi g (sX0_settle (if g.1 < lo then lo else g.1, if hi < g.2.1 then hi else g.2.1, g.2.2.1, g.2.2.2.1, g.2.2.2.2.1, g.2.2.2.2.2.1, g.2.2.2.2.2.2.1, g.2.2.2.2.2.2.2.1, g.2.2.2.2.2.2.2.2.1, g.2.2.2.2.2.2.2.2.2.1, g.2.2.2.2.2.2.2.2.2.2.1, g.2.2.2.2.2.2.2.2.2.2.2.1, g.2.2.2.2.2.2.2.2.2.2.2.2.1, g.2.2.2.2.2.2.2.2.2.2.2.2.2.1, g.2.2.2.2.2.2.2.2.2.2.2.2.2.2))
set_option maxHeartbeats 4000000 in
set_option maxRecDepth 100000 in
theorem kX0_narrow (l : Launch) (dC : Nat → ClassId) (dI : Nat → Nat → Nat) (cI cJ : ClassId) (h0 h1 h2 h3 : Nat) (sz : Nat) (lo : Int32) (hi : Int32) (g : LG) : Met l yX0_narrow wsX0_narrow ({ frames := 3, cells := 0, slots := 0, locals := 67 }) (va_Pc [.ref h0, .int lo, .int hi] (fun U => U.heap.size = sz ∧ va_P (dC, dI) vwCl [cL0 h0 h1 h2 h3 g, cL1 cJ h1 g, cL2 cI h2 g, cL3 cI h3 g] U.heap ∧ va_K (dC, dI) vwCl [(cI, .int), (cJ, .long)] U ∧ va_D (fun _ => True) [cL0 h0 h1 h2 h3 g, cL1 cJ h1 g, cL2 cI h2 g, cL3 cI h3 g])) (va_Qv (fun _ : Unit => True) (fun _ t => va_P (dC, dI) vwCl [cL0 h0 h1 h2 h3 (sX0_narrow lo hi g), cL1 cJ h1 (sX0_narrow lo hi g), cL2 cI h2 (sX0_narrow lo hi g), cL3 cI h3 (sX0_narrow lo hi g)] t.heap ∧ va_K (dC, dI) vwCl [(cI, .int), (cJ, .long)] t ∧ va_D (va_A [cL0 h0 h1 h2 h3 g, cL1 cJ h1 g, cL2 cI h2 g, cL3 cI h3 g] sz) [cL0 h0 h1 h2 h3 (sX0_narrow lo hi g), cL1 cJ h1 (sX0_narrow lo hi g), cL2 cI h2 (sX0_narrow lo hi g), cL3 cI h3 (sX0_narrow lo hi g)]) (va_A [cL0 h0 h1 h2 h3 g, cL1 cJ h1 g, cL2 cI h2 g, cL3 cI h3 g] sz)) 0 0 (va_A [cL0 h0 h1 h2 h3 g, cL1 cJ h1 g, cL2 cI h2 g, cL3 cI h3 g] sz) := by
  refine Met.ofW (cc := cX0_narrow) (maxL := 3) (ret := none) (by decide) rfl ?_
  intro p e s m args below meth c s₁ B hml hv
  obtain ⟨rfl, hsz, hP, hK, hD0⟩ := hv
  have hx := B.exec
  have hb := B.bytes
  have hr := B.returns
  have hts := atoms_spec (ws := wsX0_narrow) B.pre
  have hown : s.vm.findClass RX0 = some m.cls := findClass_of_methodNamed B.named
  have hlocks := B.notSynchronized
  have hiX0 : ∀ w ∈ u_ws RX0 TX0 15, w ∈ wsX0_narrow := by decide +kernel
  subst hsz
  have hD := hD0.self (sz := s.heap.size)
  generalize hAe : va_A [cL0 h0 h1 h2 h3 g, cL1 cJ h1 g, cL2 cI h2 g, cL3 cI h3 g] s.heap.size = A at hD ⊢
  have hA : ∀ q : Nat, s.heap.size ≤ q → A q := fun q h => by rw [← hAe]; exact Or.inr h
  have hS : va_S A s.heap s.heap [] := va_S.rf
  have hl := lv_entry ([.ref h0, .int lo, .int hi]) (n := 3) (Nat.le_of_ble_eq_true rfl)
  rw [lg_entry_eq]
  generalize (lg_sl ([.ref h0, .int lo, .int hi]) ++ List.replicate (3 - (lg_sl ([.ref h0, .int lo, .int hi])).length) Slot.unset).toArray = ls at hl ⊢
  have hl : lv_has ls 3 [(0, .ref h0), (1, .int lo), (2, .int hi)] := hl
  have hP : va_P (dC, dI) vwCl [cL0 h0 h1 h2 h3 g, cL1 cJ h1 g, cL2 cI h2 g, cL3 cI h3 g] s.heap := hP
  refine lv_aload_n hx hb dX0_narrow_0 rfl (lv_at hl 0 rfl) ?_
  refine lv_aload_n hx hb dX0_narrow_1 rfl (lv_at hl 0 rfl) ?_
  refine va_get (D := (dC, dI)) (ci := 0) (v := .int g.1) (C := RX0) (T := TX0) (N := 15) hx hb hts hiX0 hown hK hP 0 rfl rfl 0 (by decide) (hts (.fieldLink RX0 22 "TripReckoner$Ledger" "spanLeast" "I") (by decide +kernel)) (fun _ h9 => h9) rfl dX0_narrow_2 ?_
  refine lv_iload_n hx hb dX0_narrow_5 rfl (lv_at hl 1 rfl) ?_
  refine va_mmax hx hb (by rw [hml]; exact hl.1.symm) hown (hts (.methodLink RX0 71 Lib.Math.max.name) (by decide +kernel)) (hts (.static Lib.Math.max.name) (by decide +kernel)) (hts (.initialized "java/lang/Math") (by decide +kernel)) (hts (.code Lib.Math.max.name Lib.Math.max.code 2 (some .int)) (by decide +kernel)) (Nat.le_of_ble_eq_true rfl) (Nat.le_of_ble_eq_true rfl) (Nat.zero_le _) (Nat.zero_le _) dX0_narrow_6 ?_
  refine va_put (D := (dC, dI)) (ci := 0) (v := .int (if g.1 < lo then lo else g.1)) (ty := .int) (C := RX0) (T := TX0) (N := 15) hx hb hts hiX0 tyX0 tyX0_ok nmX0 hown hK hP hD hS 0 rfl rfl 0 (by decide) (hts (.fieldLink RX0 22 "TripReckoner$Ledger" "spanLeast" "I") (by decide +kernel)) (fun _ h9 => h9) rfl (by decide +kernel) rfl rfl (Nat.le_of_ble_eq_true rfl) dX0_narrow_9 (fun H locs hP hD hS => ?_)
  have hP : va_P (dC, dI) vwCl [(h0, .inr (0, [.int (if g.1 < lo then lo else g.1), .int g.2.1, .int g.2.2.1, .int g.2.2.2.1, .int g.2.2.2.2.1, .int g.2.2.2.2.2.1, .int g.2.2.2.2.2.2.1, .int g.2.2.2.2.2.2.2.1, .int g.2.2.2.2.2.2.2.2.1, .int g.2.2.2.2.2.2.2.2.2.1, .long g.2.2.2.2.2.2.2.2.2.2.1, .long g.2.2.2.2.2.2.2.2.2.2.2.1, .ref h1, .ref h2, .ref h3])), (h1, .inl (cJ, 20, .inr (.inl g.2.2.2.2.2.2.2.2.2.2.2.2.1))), (h2, .inl (cI, 30, .inl g.2.2.2.2.2.2.2.2.2.2.2.2.2.1)), (h3, .inl (cI, 30, .inl g.2.2.2.2.2.2.2.2.2.2.2.2.2.2))] H := hP
  have hD : va_D A [(h0, .inr (0, [.int (if g.1 < lo then lo else g.1), .int g.2.1, .int g.2.2.1, .int g.2.2.2.1, .int g.2.2.2.2.1, .int g.2.2.2.2.2.1, .int g.2.2.2.2.2.2.1, .int g.2.2.2.2.2.2.2.1, .int g.2.2.2.2.2.2.2.2.1, .int g.2.2.2.2.2.2.2.2.2.1, .long g.2.2.2.2.2.2.2.2.2.2.1, .long g.2.2.2.2.2.2.2.2.2.2.2.1, .ref h1, .ref h2, .ref h3])), (h1, .inl (cJ, 20, .inr (.inl g.2.2.2.2.2.2.2.2.2.2.2.2.1))), (h2, .inl (cI, 30, .inl g.2.2.2.2.2.2.2.2.2.2.2.2.2.1)), (h3, .inl (cI, 30, .inl g.2.2.2.2.2.2.2.2.2.2.2.2.2.2))] := hD
  refine lv_aload_n hx hb dX0_narrow_12 rfl (lv_at hl 0 rfl) ?_
  refine lv_aload_n hx hb dX0_narrow_13 rfl (lv_at hl 0 rfl) ?_
  refine va_get (D := (dC, dI)) (ci := 0) (v := .int g.2.1) (C := RX0) (T := TX0) (N := 15) hx hb hts hiX0 hown hK hP 0 rfl rfl 1 (by decide) (hts (.fieldLink RX0 26 "TripReckoner$Ledger" "spanGreatest" "I") (by decide +kernel)) (fun _ h9 => h9) rfl dX0_narrow_14 ?_
  refine lv_iload_n hx hb dX0_narrow_17 rfl (lv_at hl 2 rfl) ?_
  refine va_mmin hx hb (by rw [hml]; exact hl.1.symm) hown (hts (.methodLink RX0 77 Lib.Math.min.name) (by decide +kernel)) (hts (.static Lib.Math.min.name) (by decide +kernel)) (hts (.initialized "java/lang/Math") (by decide +kernel)) (hts (.code Lib.Math.min.name Lib.Math.min.code 2 (some .int)) (by decide +kernel)) (Nat.le_of_ble_eq_true rfl) (Nat.le_of_ble_eq_true rfl) (Nat.zero_le _) (Nat.zero_le _) dX0_narrow_18 ?_
  refine va_put (D := (dC, dI)) (ci := 0) (v := .int (if hi < g.2.1 then hi else g.2.1)) (ty := .int) (C := RX0) (T := TX0) (N := 15) hx hb hts hiX0 tyX0 tyX0_ok nmX0 hown hK hP hD hS 0 rfl rfl 1 (by decide) (hts (.fieldLink RX0 26 "TripReckoner$Ledger" "spanGreatest" "I") (by decide +kernel)) (fun _ h9 => h9) rfl (by decide +kernel) rfl rfl (Nat.le_of_ble_eq_true rfl) dX0_narrow_21 (fun H locs hP hD hS => ?_)
  have hP : va_P (dC, dI) vwCl [(h0, .inr (0, [.int (if g.1 < lo then lo else g.1), .int (if hi < g.2.1 then hi else g.2.1), .int g.2.2.1, .int g.2.2.2.1, .int g.2.2.2.2.1, .int g.2.2.2.2.2.1, .int g.2.2.2.2.2.2.1, .int g.2.2.2.2.2.2.2.1, .int g.2.2.2.2.2.2.2.2.1, .int g.2.2.2.2.2.2.2.2.2.1, .long g.2.2.2.2.2.2.2.2.2.2.1, .long g.2.2.2.2.2.2.2.2.2.2.2.1, .ref h1, .ref h2, .ref h3])), (h1, .inl (cJ, 20, .inr (.inl g.2.2.2.2.2.2.2.2.2.2.2.2.1))), (h2, .inl (cI, 30, .inl g.2.2.2.2.2.2.2.2.2.2.2.2.2.1)), (h3, .inl (cI, 30, .inl g.2.2.2.2.2.2.2.2.2.2.2.2.2.2))] H := hP
  have hD : va_D A [(h0, .inr (0, [.int (if g.1 < lo then lo else g.1), .int (if hi < g.2.1 then hi else g.2.1), .int g.2.2.1, .int g.2.2.2.1, .int g.2.2.2.2.1, .int g.2.2.2.2.2.1, .int g.2.2.2.2.2.2.1, .int g.2.2.2.2.2.2.2.1, .int g.2.2.2.2.2.2.2.2.1, .int g.2.2.2.2.2.2.2.2.2.1, .long g.2.2.2.2.2.2.2.2.2.2.1, .long g.2.2.2.2.2.2.2.2.2.2.2.1, .ref h1, .ref h2, .ref h3])), (h1, .inl (cJ, 20, .inr (.inl g.2.2.2.2.2.2.2.2.2.2.2.2.1))), (h2, .inl (cI, 30, .inl g.2.2.2.2.2.2.2.2.2.2.2.2.2.1)), (h3, .inl (cI, 30, .inl g.2.2.2.2.2.2.2.2.2.2.2.2.2.2))] := hD
  refine lv_aload_n hx hb dX0_narrow_24 rfl (lv_at hl 0 rfl) ?_
  have hPc := hP.sub (ws' := [(h0, .inr (0, [.int (if g.1 < lo then lo else g.1), .int (if hi < g.2.1 then hi else g.2.1), .int g.2.2.1, .int g.2.2.2.1, .int g.2.2.2.2.1, .int g.2.2.2.2.2.1, .int g.2.2.2.2.2.2.1, .int g.2.2.2.2.2.2.2.1, .int g.2.2.2.2.2.2.2.2.1, .int g.2.2.2.2.2.2.2.2.2.1, .long g.2.2.2.2.2.2.2.2.2.2.1, .long g.2.2.2.2.2.2.2.2.2.2.2.1, .ref h1, .ref h2, .ref h3])), (h1, .inl (cJ, 20, .inr (.inl g.2.2.2.2.2.2.2.2.2.2.2.2.1))), (h2, .inl (cI, 30, .inl g.2.2.2.2.2.2.2.2.2.2.2.2.2.1)), (h3, .inl (cI, 30, .inl g.2.2.2.2.2.2.2.2.2.2.2.2.2.2))]) [0, 1, 2, 3] rfl
  have hDc := hD.sub (ws' := [(h0, .inr (0, [.int (if g.1 < lo then lo else g.1), .int (if hi < g.2.1 then hi else g.2.1), .int g.2.2.1, .int g.2.2.2.1, .int g.2.2.2.2.1, .int g.2.2.2.2.2.1, .int g.2.2.2.2.2.2.1, .int g.2.2.2.2.2.2.2.1, .int g.2.2.2.2.2.2.2.2.1, .int g.2.2.2.2.2.2.2.2.2.1, .long g.2.2.2.2.2.2.2.2.2.2.1, .long g.2.2.2.2.2.2.2.2.2.2.2.1, .ref h1, .ref h2, .ref h3])), (h1, .inl (cJ, 20, .inr (.inl g.2.2.2.2.2.2.2.2.2.2.2.2.1))), (h2, .inl (cI, 30, .inl g.2.2.2.2.2.2.2.2.2.2.2.2.2.1)), (h3, .inl (cI, 30, .inl g.2.2.2.2.2.2.2.2.2.2.2.2.2.2))]) [0, 1, 2, 3] (by decide) rfl
  have hFc := va_free (wc := [(h0, .inr (0, [.int (if g.1 < lo then lo else g.1), .int (if hi < g.2.1 then hi else g.2.1), .int g.2.2.1, .int g.2.2.2.1, .int g.2.2.2.2.1, .int g.2.2.2.2.2.1, .int g.2.2.2.2.2.2.1, .int g.2.2.2.2.2.2.2.1, .int g.2.2.2.2.2.2.2.2.1, .int g.2.2.2.2.2.2.2.2.2.1, .long g.2.2.2.2.2.2.2.2.2.2.1, .long g.2.2.2.2.2.2.2.2.2.2.2.1, .ref h1, .ref h2, .ref h3])), (h1, .inl (cJ, 20, .inr (.inl g.2.2.2.2.2.2.2.2.2.2.2.2.1))), (h2, .inl (cI, 30, .inl g.2.2.2.2.2.2.2.2.2.2.2.2.2.1)), (h3, .inl (cI, 30, .inl g.2.2.2.2.2.2.2.2.2.2.2.2.2.2))]) hD hS hA [0, 1, 2, 3] rfl
  refine va_callv (va_runV (As := []) (rest := []) ⟨hx, hb, hml, hown, hts⟩ (kX0_settle l dC dI cI cJ h0 h1 h2 h3 H.size (if g.1 < lo then lo else g.1, if hi < g.2.1 then hi else g.2.1, g.2.2.1, g.2.2.2.1, g.2.2.2.2.1, g.2.2.2.2.2.1, g.2.2.2.2.2.2.1, g.2.2.2.2.2.2.2.1, g.2.2.2.2.2.2.2.2.1, g.2.2.2.2.2.2.2.2.2.1, g.2.2.2.2.2.2.2.2.2.2.1, g.2.2.2.2.2.2.2.2.2.2.2.1, g.2.2.2.2.2.2.2.2.2.2.2.2.1, g.2.2.2.2.2.2.2.2.2.2.2.2.2.1, g.2.2.2.2.2.2.2.2.2.2.2.2.2.2)) (cwV 0 hts gX0_narrow_X0_settle rfl rfl rfl (by decide +kernel) ⟨Nat.le_of_ble_eq_true rfl, Nat.le_of_ble_eq_true rfl⟩) ⟨fun a U g mk q => by obtain ⟨q0, q1, qP, qK, qD⟩ := q; exact ⟨q0, q1, qP, va_K.moved (u := U) (U := U.calling g mk a) (Vm.Alike.refl U.vm) qK, qD⟩, va_recv hK hPc (ci := 0) (q0 := 0) rfl rfl, fun U hU hW => ⟨rfl, by rw [hU], by rw [hU]; exact hPc, va_K.moved hW.alike hK, hDc.weaken (fun _ _ _ _ => trivial)⟩⟩ rfl rfl hl.1 rfl (lv_room (Nat.le_of_ble_eq_true rfl)) dX0_narrow_25 ⟨Nat.le_of_ble_eq_true rfl, Nat.le_of_ble_eq_true rfl⟩) hS (fun q _ h => hFc q h) hFc (fun _ t H1 locs ht hvm hw hB hz1 hk1 hS => ?_)
  obtain ⟨hP1, hK1, hD1⟩ := hB
  rw [ht] at hP1
  obtain ⟨g_2, eg_2⟩ : ∃ z, z = sX0_settle (if g.1 < lo then lo else g.1, if hi < g.2.1 then hi else g.2.1, g.2.2.1, g.2.2.2.1, g.2.2.2.2.1, g.2.2.2.2.2.1, g.2.2.2.2.2.2.1, g.2.2.2.2.2.2.2.1, g.2.2.2.2.2.2.2.2.1, g.2.2.2.2.2.2.2.2.2.1, g.2.2.2.2.2.2.2.2.2.2.1, g.2.2.2.2.2.2.2.2.2.2.2.1, g.2.2.2.2.2.2.2.2.2.2.2.2.1, g.2.2.2.2.2.2.2.2.2.2.2.2.2.1, g.2.2.2.2.2.2.2.2.2.2.2.2.2.2) := ⟨_, rfl⟩
  rw [← eg_2] at hP1 hD1
  obtain ⟨hP, hD⟩ := va_join (wr := []) (w1 := [cL0 h0 h1 h2 h3 g_2, cL1 cJ h1 g_2, cL2 cI h2 g_2, cL3 cI h3 g_2]) hP hD [0, 1, 2, 3] [] rfl rfl (by decide) (by decide) hk1 hFc hP1 hD1
  generalize H1 = H at hP hS ⊢
  have hP : va_P (dC, dI) vwCl [cL0 h0 h1 h2 h3 g_2, cL1 cJ h1 g_2, cL2 cI h2 g_2, cL3 cI h3 g_2] H := hP
  have hD : va_D A [cL0 h0 h1 h2 h3 g_2, cL1 cJ h1 g_2, cL2 cI h2 g_2, cL3 cI h3 g_2] := hD
  refine lv_aload_n hx hb dX0_narrow_28 rfl (lv_at hl 0 rfl) ?_
  have hPc := hP.sub (ws' := [cL0 h0 h1 h2 h3 g_2, cL1 cJ h1 g_2, cL2 cI h2 g_2, cL3 cI h3 g_2]) [0, 1, 2, 3] rfl
  have hDc := hD.sub (ws' := [cL0 h0 h1 h2 h3 g_2, cL1 cJ h1 g_2, cL2 cI h2 g_2, cL3 cI h3 g_2]) [0, 1, 2, 3] (by decide) rfl
  have hFc := va_free (wc := [cL0 h0 h1 h2 h3 g_2, cL1 cJ h1 g_2, cL2 cI h2 g_2, cL3 cI h3 g_2]) hD hS hA [0, 1, 2, 3] rfl
  refine va_callv (va_runV (As := []) (rest := []) ⟨hx, hb, hml, hown, hts⟩ (kX0_showStep l dC dI cI cJ h0 h1 h2 h3 H.size g_2) (cwV 0 hts gX0_narrow_X0_showStep rfl rfl rfl (by decide +kernel) ⟨Nat.le_of_ble_eq_true rfl, Nat.le_of_ble_eq_true rfl⟩) ⟨fun a U g mk q => by obtain ⟨q0, q1, qP, qK, qD⟩ := q; exact ⟨q0, q1, qP, va_K.moved (u := U) (U := U.calling g mk a) (Vm.Alike.refl U.vm) qK, qD⟩, va_recv hK hPc (ci := 0) (q0 := 0) rfl rfl, fun U hU hW => ⟨rfl, by rw [hU], by rw [hU]; exact hPc, va_K.moved hW.alike hK, hDc.weaken (fun _ _ _ _ => trivial)⟩⟩ rfl rfl hl.1 rfl (lv_room (Nat.le_of_ble_eq_true rfl)) dX0_narrow_29 ⟨Nat.le_of_ble_eq_true rfl, Nat.le_of_ble_eq_true rfl⟩) hS (fun q _ h => hFc q h) hFc (fun _ t H1 locs ht hvm hw hB hz1 hk1 hS => ?_)
  obtain ⟨hP1, hK1, hD1⟩ := hB
  rw [ht] at hP1
  obtain ⟨g_4, eg_4⟩ : ∃ z, z = sX0_showStep g_2 := ⟨_, rfl⟩
  rw [← eg_4] at hP1 hD1
  obtain ⟨hP, hD⟩ := va_join (wr := []) (w1 := [cL0 h0 h1 h2 h3 g_4, cL1 cJ h1 g_4, cL2 cI h2 g_4, cL3 cI h3 g_4]) hP hD [0, 1, 2, 3] [] rfl rfl (by decide) (by decide) hk1 hFc hP1 hD1
  generalize H1 = H at hP hS ⊢
  have hP : va_P (dC, dI) vwCl [cL0 h0 h1 h2 h3 g_4, cL1 cJ h1 g_4, cL2 cI h2 g_4, cL3 cI h3 g_4] H := hP
  have hD : va_D A [cL0 h0 h1 h2 h3 g_4, cL1 cJ h1 g_4, cL2 cI h2 g_4, cL3 cI h3 g_4] := hD
  have es0 : sX0_narrow lo hi g = g_4 := by rw [sX0_narrow, ← eg_2, sX0_narrow_g_2, ← eg_4, sX0_narrow_g_4]
  refine W.vret hx hb hr (fun t ht hW => ⟨⟨(), rfl, trivial, ?_⟩, hS.F ht⟩) hS.2.2 dX0_narrow_32
  rw [es0]; exact ⟨by rw [ht]; exact hP, va_K.moved hW.alike hK, hD⟩

def sX0_takeRefill_g_5 (lo : Int32) (hi : Int32) (g : LG) (g_3 : LG) (g_5 : LG) : LG :=
  g_5
def sX0_takeRefill_g_3 (lo : Int32) (hi : Int32) (g : LG) (g_3 : LG) : LG :=
  sX0_takeRefill_g_5 lo hi g g_3 (sX0_takeFloat lo hi g_3)
def sX0_takeRefill (lo : Int32) (hi : Int32) (g : LG) : LG :=
  sX0_takeRefill_g_3 lo hi g (sX0_clearMark 3 (g.1, g.2.1, g.2.2.1 + 1, g.2.2.2.1, g.2.2.2.2.1, g.2.2.2.2.2.1, g.2.2.2.2.2.2.1, 1, g.1, g.2.1, 0, 0, g.2.2.2.2.2.2.2.2.2.2.2.2.1, upd g.2.2.2.2.2.2.2.2.2.2.2.2.2.1 ((rX0_placeOf g.2.2.1).toNatClampNeg) (lo - g.2.1), upd g.2.2.2.2.2.2.2.2.2.2.2.2.2.2 ((rX0_placeOf g.2.2.1).toNatClampNeg) (hi - g.1)))
set_option maxHeartbeats 4000000 in
set_option maxRecDepth 100000 in
theorem kX0_takeRefill (l : Launch) (dC : Nat → ClassId) (dI : Nat → Nat → Nat) (cI cJ : ClassId) (h0 h1 h2 h3 : Nat) (sz : Nat) (lo : Int32) (hi : Int32) (g : LG) (hrf : 0 ≤ g.2.2.1) : Met l yX0_takeRefill wsX0_takeRefill ({ frames := 2, cells := 0, slots := 0, locals := 42 }) (va_Pc [.ref h0, .int lo, .int hi] (fun U => U.heap.size = sz ∧ va_P (dC, dI) vwCl [cL0 h0 h1 h2 h3 g, cL1 cJ h1 g, cL2 cI h2 g, cL3 cI h3 g] U.heap ∧ va_K (dC, dI) vwCl [(cI, .int), (cJ, .long)] U ∧ va_D (fun _ => True) [cL0 h0 h1 h2 h3 g, cL1 cJ h1 g, cL2 cI h2 g, cL3 cI h3 g])) (va_Qv (fun _ : Unit => True) (fun _ t => va_P (dC, dI) vwCl [cL0 h0 h1 h2 h3 (sX0_takeRefill lo hi g), cL1 cJ h1 (sX0_takeRefill lo hi g), cL2 cI h2 (sX0_takeRefill lo hi g), cL3 cI h3 (sX0_takeRefill lo hi g)] t.heap ∧ va_K (dC, dI) vwCl [(cI, .int), (cJ, .long)] t ∧ va_D (va_A [cL0 h0 h1 h2 h3 g, cL1 cJ h1 g, cL2 cI h2 g, cL3 cI h3 g] sz) [cL0 h0 h1 h2 h3 (sX0_takeRefill lo hi g), cL1 cJ h1 (sX0_takeRefill lo hi g), cL2 cI h2 (sX0_takeRefill lo hi g), cL3 cI h3 (sX0_takeRefill lo hi g)]) (va_A [cL0 h0 h1 h2 h3 g, cL1 cJ h1 g, cL2 cI h2 g, cL3 cI h3 g] sz)) 0 0 (va_A [cL0 h0 h1 h2 h3 g, cL1 cJ h1 g, cL2 cI h2 g, cL3 cI h3 g] sz) := by
  refine Met.ofW (cc := cX0_takeRefill) (maxL := 4) (ret := none) (by decide) rfl ?_
  intro p e s m args below meth c s₁ B hml hv
  obtain ⟨rfl, hsz, hP, hK, hD0⟩ := hv
  have hx := B.exec
  have hb := B.bytes
  have hr := B.returns
  have hts := atoms_spec (ws := wsX0_takeRefill) B.pre
  have hown : s.vm.findClass RX0 = some m.cls := findClass_of_methodNamed B.named
  have hlocks := B.notSynchronized
  have hiX0 : ∀ w ∈ u_ws RX0 TX0 15, w ∈ wsX0_takeRefill := by decide +kernel
  subst hsz
  have hD := hD0.self (sz := s.heap.size)
  generalize hAe : va_A [cL0 h0 h1 h2 h3 g, cL1 cJ h1 g, cL2 cI h2 g, cL3 cI h3 g] s.heap.size = A at hD ⊢
  have hA : ∀ q : Nat, s.heap.size ≤ q → A q := fun q h => by rw [← hAe]; exact Or.inr h
  have hS : va_S A s.heap s.heap [] := va_S.rf
  have hl := lv_entry ([.ref h0, .int lo, .int hi]) (n := 4) (Nat.le_of_ble_eq_true rfl)
  rw [lg_entry_eq]
  generalize (lg_sl ([.ref h0, .int lo, .int hi]) ++ List.replicate (4 - (lg_sl ([.ref h0, .int lo, .int hi])).length) Slot.unset).toArray = ls at hl ⊢
  have hl : lv_has ls 4 [(0, .ref h0), (1, .int lo), (2, .int hi)] := hl
  have hP : va_P (dC, dI) vwCl [cL0 h0 h1 h2 h3 g, cL1 cJ h1 g, cL2 cI h2 g, cL3 cI h3 g] s.heap := hP
  refine lv_aload_n hx hb dX0_takeRefill_0 rfl (lv_at hl 0 rfl) ?_
  refine va_get (D := (dC, dI)) (ci := 0) (v := .int g.2.2.1) (C := RX0) (T := TX0) (N := 15) hx hb hts hiX0 hown hK hP 0 rfl rfl 2 (by decide) (hts (.fieldLink RX0 29 "TripReckoner$Ledger" "refills" "I") (by decide +kernel)) (fun _ h9 => h9) rfl dX0_takeRefill_1 ?_
  have hPc := hP.sub (ws' := []) [] rfl
  have hDc := hD.sub (ws' := []) [] (by decide) rfl
  have hFc := va_free (wc := []) hD hS hA [] rfl
  refine va_calli (va_runS (As := [.int g.2.2.1]) (rest := []) ⟨hx, hb, hml, hown, hts⟩ (kX0_placeOf l dC dI cI cJ s.heap.size g.2.2.1) (va_cwS 1 hts gX0_takeRefill_X0_placeOf rfl rfl rfl (by decide +kernel) ⟨Nat.le_of_ble_eq_true rfl, Nat.le_of_ble_eq_true rfl⟩) ⟨fun a U g mk q => by obtain ⟨q0, q1, qP, qK, qD⟩ := q; exact ⟨q0, q1, qP, va_K.moved (u := U) (U := U.calling g mk a) (Vm.Alike.refl U.vm) qK, qD⟩, fun U hU hW => ⟨rfl, by rw [hU], by rw [hU]; exact hPc, va_K.moved hW.alike hK, hDc.weaken (fun _ _ _ _ => trivial)⟩⟩ rfl rfl hl.1 rfl (lv_room (Nat.le_of_ble_eq_true rfl)) dX0_takeRefill_4 ⟨Nat.le_of_ble_eq_true rfl, Nat.le_of_ble_eq_true rfl⟩) hS (fun q _ h => hFc q h) hFc (fun r_1 _ t H1 locs ht hvm hw hB hz1 hk1 hS => ?_)
  obtain ⟨hP1, hK1, hD1⟩ := hB
  rw [ht] at hP1
  obtain ⟨hP, hD⟩ := va_join (wr := [cL0 h0 h1 h2 h3 g, cL1 cJ h1 g, cL2 cI h2 g, cL3 cI h3 g]) (w1 := []) hP hD [] [0, 1, 2, 3] rfl rfl (by decide) (by decide) hk1 hFc hP1 hD1
  generalize H1 = H at hP hS ⊢
  have hP : va_P (dC, dI) vwCl [cL0 h0 h1 h2 h3 g, cL1 cJ h1 g, cL2 cI h2 g, cL3 cI h3 g] H := hP
  have hD : va_D A [cL0 h0 h1 h2 h3 g, cL1 cJ h1 g, cL2 cI h2 g, cL3 cI h3 g] := hD
  subst hw
  refine lv_istore_n (lv' := [(3, .int (rX0_placeOf g.2.2.1)), (0, .ref h0), (1, .int lo), (2, .int hi)]) hx hb dX0_takeRefill_7 rfl hl (by decide) rfl (fun ls hl => ?_)
  refine lv_aload_n hx hb dX0_takeRefill_8 rfl (lv_at hl 1 rfl) ?_
  refine va_get (D := (dC, dI)) (ci := 0) (v := .ref h2) (C := RX0) (T := TX0) (N := 15) hx hb hts hiX0 hown hK hP 0 rfl rfl 13 (by decide) (hts (.fieldLink RX0 15 "TripReckoner$Ledger" "amountsLeast" "[I") (by decide +kernel)) (fun _ h9 => h9) rfl dX0_takeRefill_9 ?_
  refine lv_iload_n hx hb dX0_takeRefill_12 rfl (lv_at hl 0 rfl) ?_
  refine lv_iload_n hx hb dX0_takeRefill_13 rfl (lv_at hl 2 rfl) ?_
  refine lv_aload_n hx hb dX0_takeRefill_14 rfl (lv_at hl 1 rfl) ?_
  refine va_get (D := (dC, dI)) (ci := 0) (v := .int g.2.1) (C := RX0) (T := TX0) (N := 15) hx hb hts hiX0 hown hK hP 0 rfl rfl 1 (by decide) (hts (.fieldLink RX0 26 "TripReckoner$Ledger" "spanGreatest" "I") (by decide +kernel)) (fun _ h9 => h9) rfl dX0_takeRefill_15 ?_
  refine lv_isub hx hb dX0_takeRefill_18 ?_
  refine va_iast hx hb hK hP hD hS 2 0 rfl rfl (placeOf_in _) dX0_takeRefill_19 (fun H locs hP hD hS => ?_)
  have hP : va_P (dC, dI) vwCl [(h0, .inr (0, [.int g.1, .int g.2.1, .int g.2.2.1, .int g.2.2.2.1, .int g.2.2.2.2.1, .int g.2.2.2.2.2.1, .int g.2.2.2.2.2.2.1, .int g.2.2.2.2.2.2.2.1, .int g.2.2.2.2.2.2.2.2.1, .int g.2.2.2.2.2.2.2.2.2.1, .long g.2.2.2.2.2.2.2.2.2.2.1, .long g.2.2.2.2.2.2.2.2.2.2.2.1, .ref h1, .ref h2, .ref h3])), (h1, .inl (cJ, 20, .inr (.inl g.2.2.2.2.2.2.2.2.2.2.2.2.1))), (h2, .inl (cI, 30, .inl (upd g.2.2.2.2.2.2.2.2.2.2.2.2.2.1 ((rX0_placeOf g.2.2.1).toNatClampNeg) (lo - g.2.1)))), (h3, .inl (cI, 30, .inl g.2.2.2.2.2.2.2.2.2.2.2.2.2.2))] H := hP
  have hD : va_D A [(h0, .inr (0, [.int g.1, .int g.2.1, .int g.2.2.1, .int g.2.2.2.1, .int g.2.2.2.2.1, .int g.2.2.2.2.2.1, .int g.2.2.2.2.2.2.1, .int g.2.2.2.2.2.2.2.1, .int g.2.2.2.2.2.2.2.2.1, .int g.2.2.2.2.2.2.2.2.2.1, .long g.2.2.2.2.2.2.2.2.2.2.1, .long g.2.2.2.2.2.2.2.2.2.2.2.1, .ref h1, .ref h2, .ref h3])), (h1, .inl (cJ, 20, .inr (.inl g.2.2.2.2.2.2.2.2.2.2.2.2.1))), (h2, .inl (cI, 30, .inl (upd g.2.2.2.2.2.2.2.2.2.2.2.2.2.1 ((rX0_placeOf g.2.2.1).toNatClampNeg) (lo - g.2.1)))), (h3, .inl (cI, 30, .inl g.2.2.2.2.2.2.2.2.2.2.2.2.2.2))] := hD
  refine lv_aload_n hx hb dX0_takeRefill_20 rfl (lv_at hl 1 rfl) ?_
  refine va_get (D := (dC, dI)) (ci := 0) (v := .ref h3) (C := RX0) (T := TX0) (N := 15) hx hb hts hiX0 hown hK hP 0 rfl rfl 14 (by decide) (hts (.fieldLink RX0 19 "TripReckoner$Ledger" "amountsGreatest" "[I") (by decide +kernel)) (fun _ h9 => h9) rfl dX0_takeRefill_21 ?_
  refine lv_iload_n hx hb dX0_takeRefill_24 rfl (lv_at hl 0 rfl) ?_
  refine lv_iload_n hx hb dX0_takeRefill_25 rfl (lv_at hl 3 rfl) ?_
  refine lv_aload_n hx hb dX0_takeRefill_26 rfl (lv_at hl 1 rfl) ?_
  refine va_get (D := (dC, dI)) (ci := 0) (v := .int g.1) (C := RX0) (T := TX0) (N := 15) hx hb hts hiX0 hown hK hP 0 rfl rfl 0 (by decide) (hts (.fieldLink RX0 22 "TripReckoner$Ledger" "spanLeast" "I") (by decide +kernel)) (fun _ h9 => h9) rfl dX0_takeRefill_27 ?_
  refine lv_isub hx hb dX0_takeRefill_30 ?_
  refine va_iast hx hb hK hP hD hS 3 0 rfl rfl (placeOf_in _) dX0_takeRefill_31 (fun H locs hP hD hS => ?_)
  have hP : va_P (dC, dI) vwCl [(h0, .inr (0, [.int g.1, .int g.2.1, .int g.2.2.1, .int g.2.2.2.1, .int g.2.2.2.2.1, .int g.2.2.2.2.2.1, .int g.2.2.2.2.2.2.1, .int g.2.2.2.2.2.2.2.1, .int g.2.2.2.2.2.2.2.2.1, .int g.2.2.2.2.2.2.2.2.2.1, .long g.2.2.2.2.2.2.2.2.2.2.1, .long g.2.2.2.2.2.2.2.2.2.2.2.1, .ref h1, .ref h2, .ref h3])), (h1, .inl (cJ, 20, .inr (.inl g.2.2.2.2.2.2.2.2.2.2.2.2.1))), (h2, .inl (cI, 30, .inl (upd g.2.2.2.2.2.2.2.2.2.2.2.2.2.1 ((rX0_placeOf g.2.2.1).toNatClampNeg) (lo - g.2.1)))), (h3, .inl (cI, 30, .inl (upd g.2.2.2.2.2.2.2.2.2.2.2.2.2.2 ((rX0_placeOf g.2.2.1).toNatClampNeg) (hi - g.1))))] H := hP
  have hD : va_D A [(h0, .inr (0, [.int g.1, .int g.2.1, .int g.2.2.1, .int g.2.2.2.1, .int g.2.2.2.2.1, .int g.2.2.2.2.2.1, .int g.2.2.2.2.2.2.1, .int g.2.2.2.2.2.2.2.1, .int g.2.2.2.2.2.2.2.2.1, .int g.2.2.2.2.2.2.2.2.2.1, .long g.2.2.2.2.2.2.2.2.2.2.1, .long g.2.2.2.2.2.2.2.2.2.2.2.1, .ref h1, .ref h2, .ref h3])), (h1, .inl (cJ, 20, .inr (.inl g.2.2.2.2.2.2.2.2.2.2.2.2.1))), (h2, .inl (cI, 30, .inl (upd g.2.2.2.2.2.2.2.2.2.2.2.2.2.1 ((rX0_placeOf g.2.2.1).toNatClampNeg) (lo - g.2.1)))), (h3, .inl (cI, 30, .inl (upd g.2.2.2.2.2.2.2.2.2.2.2.2.2.2 ((rX0_placeOf g.2.2.1).toNatClampNeg) (hi - g.1))))] := hD
  refine lv_aload_n hx hb dX0_takeRefill_32 rfl (lv_at hl 1 rfl) ?_
  refine lv_dup hx hb dX0_takeRefill_33 rfl ?_
  refine va_get (D := (dC, dI)) (ci := 0) (v := .int g.2.2.1) (C := RX0) (T := TX0) (N := 15) hx hb hts hiX0 hown hK hP 0 rfl rfl 2 (by decide) (hts (.fieldLink RX0 29 "TripReckoner$Ledger" "refills" "I") (by decide +kernel)) (fun _ h9 => h9) rfl dX0_takeRefill_34 ?_
  refine lv_iconst (v := 1) hx hb dX0_takeRefill_37 (by decide) ?_
  refine lv_iadd hx hb dX0_takeRefill_38 ?_
  refine va_put (D := (dC, dI)) (ci := 0) (v := .int (g.2.2.1 + 1)) (ty := .int) (C := RX0) (T := TX0) (N := 15) hx hb hts hiX0 tyX0 tyX0_ok nmX0 hown hK hP hD hS 0 rfl rfl 2 (by decide) (hts (.fieldLink RX0 29 "TripReckoner$Ledger" "refills" "I") (by decide +kernel)) (fun _ h9 => h9) rfl (by decide +kernel) rfl rfl (Nat.le_of_ble_eq_true rfl) dX0_takeRefill_39 (fun H locs hP hD hS => ?_)
  have hP : va_P (dC, dI) vwCl [(h0, .inr (0, [.int g.1, .int g.2.1, .int (g.2.2.1 + 1), .int g.2.2.2.1, .int g.2.2.2.2.1, .int g.2.2.2.2.2.1, .int g.2.2.2.2.2.2.1, .int g.2.2.2.2.2.2.2.1, .int g.2.2.2.2.2.2.2.2.1, .int g.2.2.2.2.2.2.2.2.2.1, .long g.2.2.2.2.2.2.2.2.2.2.1, .long g.2.2.2.2.2.2.2.2.2.2.2.1, .ref h1, .ref h2, .ref h3])), (h1, .inl (cJ, 20, .inr (.inl g.2.2.2.2.2.2.2.2.2.2.2.2.1))), (h2, .inl (cI, 30, .inl (upd g.2.2.2.2.2.2.2.2.2.2.2.2.2.1 ((rX0_placeOf g.2.2.1).toNatClampNeg) (lo - g.2.1)))), (h3, .inl (cI, 30, .inl (upd g.2.2.2.2.2.2.2.2.2.2.2.2.2.2 ((rX0_placeOf g.2.2.1).toNatClampNeg) (hi - g.1))))] H := hP
  have hD : va_D A [(h0, .inr (0, [.int g.1, .int g.2.1, .int (g.2.2.1 + 1), .int g.2.2.2.1, .int g.2.2.2.2.1, .int g.2.2.2.2.2.1, .int g.2.2.2.2.2.2.1, .int g.2.2.2.2.2.2.2.1, .int g.2.2.2.2.2.2.2.2.1, .int g.2.2.2.2.2.2.2.2.2.1, .long g.2.2.2.2.2.2.2.2.2.2.1, .long g.2.2.2.2.2.2.2.2.2.2.2.1, .ref h1, .ref h2, .ref h3])), (h1, .inl (cJ, 20, .inr (.inl g.2.2.2.2.2.2.2.2.2.2.2.2.1))), (h2, .inl (cI, 30, .inl (upd g.2.2.2.2.2.2.2.2.2.2.2.2.2.1 ((rX0_placeOf g.2.2.1).toNatClampNeg) (lo - g.2.1)))), (h3, .inl (cI, 30, .inl (upd g.2.2.2.2.2.2.2.2.2.2.2.2.2.2 ((rX0_placeOf g.2.2.1).toNatClampNeg) (hi - g.1))))] := hD
  refine lv_aload_n hx hb dX0_takeRefill_42 rfl (lv_at hl 1 rfl) ?_
  refine lv_iconst (v := 1) hx hb dX0_takeRefill_43 (by decide) ?_
  refine va_put (D := (dC, dI)) (ci := 0) (v := .int 1) (ty := .boolean) (C := RX0) (T := TX0) (N := 15) hx hb hts hiX0 tyX0 tyX0_ok nmX0 hown hK hP hD hS 0 rfl rfl 7 (by decide) (hts (.fieldLink RX0 44 "TripReckoner$Ledger" "settling" "Z") (by decide +kernel)) (fun _ h9 => h9) rfl (by decide +kernel) rfl rfl (Nat.le_of_ble_eq_true rfl) dX0_takeRefill_44 (fun H locs hP hD hS => ?_)
  have hP : va_P (dC, dI) vwCl [(h0, .inr (0, [.int g.1, .int g.2.1, .int (g.2.2.1 + 1), .int g.2.2.2.1, .int g.2.2.2.2.1, .int g.2.2.2.2.2.1, .int g.2.2.2.2.2.2.1, .int 1, .int g.2.2.2.2.2.2.2.2.1, .int g.2.2.2.2.2.2.2.2.2.1, .long g.2.2.2.2.2.2.2.2.2.2.1, .long g.2.2.2.2.2.2.2.2.2.2.2.1, .ref h1, .ref h2, .ref h3])), (h1, .inl (cJ, 20, .inr (.inl g.2.2.2.2.2.2.2.2.2.2.2.2.1))), (h2, .inl (cI, 30, .inl (upd g.2.2.2.2.2.2.2.2.2.2.2.2.2.1 ((rX0_placeOf g.2.2.1).toNatClampNeg) (lo - g.2.1)))), (h3, .inl (cI, 30, .inl (upd g.2.2.2.2.2.2.2.2.2.2.2.2.2.2 ((rX0_placeOf g.2.2.1).toNatClampNeg) (hi - g.1))))] H := hP
  have hD : va_D A [(h0, .inr (0, [.int g.1, .int g.2.1, .int (g.2.2.1 + 1), .int g.2.2.2.1, .int g.2.2.2.2.1, .int g.2.2.2.2.2.1, .int g.2.2.2.2.2.2.1, .int 1, .int g.2.2.2.2.2.2.2.2.1, .int g.2.2.2.2.2.2.2.2.2.1, .long g.2.2.2.2.2.2.2.2.2.2.1, .long g.2.2.2.2.2.2.2.2.2.2.2.1, .ref h1, .ref h2, .ref h3])), (h1, .inl (cJ, 20, .inr (.inl g.2.2.2.2.2.2.2.2.2.2.2.2.1))), (h2, .inl (cI, 30, .inl (upd g.2.2.2.2.2.2.2.2.2.2.2.2.2.1 ((rX0_placeOf g.2.2.1).toNatClampNeg) (lo - g.2.1)))), (h3, .inl (cI, 30, .inl (upd g.2.2.2.2.2.2.2.2.2.2.2.2.2.2 ((rX0_placeOf g.2.2.1).toNatClampNeg) (hi - g.1))))] := hD
  refine lv_aload_n hx hb dX0_takeRefill_47 rfl (lv_at hl 1 rfl) ?_
  refine lv_aload_n hx hb dX0_takeRefill_48 rfl (lv_at hl 1 rfl) ?_
  refine va_get (D := (dC, dI)) (ci := 0) (v := .int g.1) (C := RX0) (T := TX0) (N := 15) hx hb hts hiX0 hown hK hP 0 rfl rfl 0 (by decide) (hts (.fieldLink RX0 22 "TripReckoner$Ledger" "spanLeast" "I") (by decide +kernel)) (fun _ h9 => h9) rfl dX0_takeRefill_49 ?_
  refine va_put (D := (dC, dI)) (ci := 0) (v := .int g.1) (ty := .int) (C := RX0) (T := TX0) (N := 15) hx hb hts hiX0 tyX0 tyX0_ok nmX0 hown hK hP hD hS 0 rfl rfl 8 (by decide) (hts (.fieldLink RX0 52 "TripReckoner$Ledger" "aheadLeast" "I") (by decide +kernel)) (fun _ h9 => h9) rfl (by decide +kernel) rfl rfl (Nat.le_of_ble_eq_true rfl) dX0_takeRefill_52 (fun H locs hP hD hS => ?_)
  have hP : va_P (dC, dI) vwCl [(h0, .inr (0, [.int g.1, .int g.2.1, .int (g.2.2.1 + 1), .int g.2.2.2.1, .int g.2.2.2.2.1, .int g.2.2.2.2.2.1, .int g.2.2.2.2.2.2.1, .int 1, .int g.1, .int g.2.2.2.2.2.2.2.2.2.1, .long g.2.2.2.2.2.2.2.2.2.2.1, .long g.2.2.2.2.2.2.2.2.2.2.2.1, .ref h1, .ref h2, .ref h3])), (h1, .inl (cJ, 20, .inr (.inl g.2.2.2.2.2.2.2.2.2.2.2.2.1))), (h2, .inl (cI, 30, .inl (upd g.2.2.2.2.2.2.2.2.2.2.2.2.2.1 ((rX0_placeOf g.2.2.1).toNatClampNeg) (lo - g.2.1)))), (h3, .inl (cI, 30, .inl (upd g.2.2.2.2.2.2.2.2.2.2.2.2.2.2 ((rX0_placeOf g.2.2.1).toNatClampNeg) (hi - g.1))))] H := hP
  have hD : va_D A [(h0, .inr (0, [.int g.1, .int g.2.1, .int (g.2.2.1 + 1), .int g.2.2.2.1, .int g.2.2.2.2.1, .int g.2.2.2.2.2.1, .int g.2.2.2.2.2.2.1, .int 1, .int g.1, .int g.2.2.2.2.2.2.2.2.2.1, .long g.2.2.2.2.2.2.2.2.2.2.1, .long g.2.2.2.2.2.2.2.2.2.2.2.1, .ref h1, .ref h2, .ref h3])), (h1, .inl (cJ, 20, .inr (.inl g.2.2.2.2.2.2.2.2.2.2.2.2.1))), (h2, .inl (cI, 30, .inl (upd g.2.2.2.2.2.2.2.2.2.2.2.2.2.1 ((rX0_placeOf g.2.2.1).toNatClampNeg) (lo - g.2.1)))), (h3, .inl (cI, 30, .inl (upd g.2.2.2.2.2.2.2.2.2.2.2.2.2.2 ((rX0_placeOf g.2.2.1).toNatClampNeg) (hi - g.1))))] := hD
  refine lv_aload_n hx hb dX0_takeRefill_55 rfl (lv_at hl 1 rfl) ?_
  refine lv_aload_n hx hb dX0_takeRefill_56 rfl (lv_at hl 1 rfl) ?_
  refine va_get (D := (dC, dI)) (ci := 0) (v := .int g.2.1) (C := RX0) (T := TX0) (N := 15) hx hb hts hiX0 hown hK hP 0 rfl rfl 1 (by decide) (hts (.fieldLink RX0 26 "TripReckoner$Ledger" "spanGreatest" "I") (by decide +kernel)) (fun _ h9 => h9) rfl dX0_takeRefill_57 ?_
  refine va_put (D := (dC, dI)) (ci := 0) (v := .int g.2.1) (ty := .int) (C := RX0) (T := TX0) (N := 15) hx hb hts hiX0 tyX0 tyX0_ok nmX0 hown hK hP hD hS 0 rfl rfl 9 (by decide) (hts (.fieldLink RX0 55 "TripReckoner$Ledger" "aheadGreatest" "I") (by decide +kernel)) (fun _ h9 => h9) rfl (by decide +kernel) rfl rfl (Nat.le_of_ble_eq_true rfl) dX0_takeRefill_60 (fun H locs hP hD hS => ?_)
  have hP : va_P (dC, dI) vwCl [(h0, .inr (0, [.int g.1, .int g.2.1, .int (g.2.2.1 + 1), .int g.2.2.2.1, .int g.2.2.2.2.1, .int g.2.2.2.2.2.1, .int g.2.2.2.2.2.2.1, .int 1, .int g.1, .int g.2.1, .long g.2.2.2.2.2.2.2.2.2.2.1, .long g.2.2.2.2.2.2.2.2.2.2.2.1, .ref h1, .ref h2, .ref h3])), (h1, .inl (cJ, 20, .inr (.inl g.2.2.2.2.2.2.2.2.2.2.2.2.1))), (h2, .inl (cI, 30, .inl (upd g.2.2.2.2.2.2.2.2.2.2.2.2.2.1 ((rX0_placeOf g.2.2.1).toNatClampNeg) (lo - g.2.1)))), (h3, .inl (cI, 30, .inl (upd g.2.2.2.2.2.2.2.2.2.2.2.2.2.2 ((rX0_placeOf g.2.2.1).toNatClampNeg) (hi - g.1))))] H := hP
  have hD : va_D A [(h0, .inr (0, [.int g.1, .int g.2.1, .int (g.2.2.1 + 1), .int g.2.2.2.1, .int g.2.2.2.2.1, .int g.2.2.2.2.2.1, .int g.2.2.2.2.2.2.1, .int 1, .int g.1, .int g.2.1, .long g.2.2.2.2.2.2.2.2.2.2.1, .long g.2.2.2.2.2.2.2.2.2.2.2.1, .ref h1, .ref h2, .ref h3])), (h1, .inl (cJ, 20, .inr (.inl g.2.2.2.2.2.2.2.2.2.2.2.2.1))), (h2, .inl (cI, 30, .inl (upd g.2.2.2.2.2.2.2.2.2.2.2.2.2.1 ((rX0_placeOf g.2.2.1).toNatClampNeg) (lo - g.2.1)))), (h3, .inl (cI, 30, .inl (upd g.2.2.2.2.2.2.2.2.2.2.2.2.2.2 ((rX0_placeOf g.2.2.1).toNatClampNeg) (hi - g.1))))] := hD
  refine lv_aload_n hx hb dX0_takeRefill_63 rfl (lv_at hl 1 rfl) ?_
  refine lv_lconst (v := 0) hx hb dX0_takeRefill_64 (by decide) ?_
  refine va_put (D := (dC, dI)) (ci := 0) (v := .long 0) (ty := .long) (C := RX0) (T := TX0) (N := 15) hx hb hts hiX0 tyX0 tyX0_ok nmX0 hown hK hP hD hS 0 rfl rfl 10 (by decide) (hts (.fieldLink RX0 58 "TripReckoner$Ledger" "usedLeast" "J") (by decide +kernel)) (fun _ h9 => h9) rfl (by decide +kernel) rfl rfl (Nat.le_of_ble_eq_true rfl) dX0_takeRefill_65 (fun H locs hP hD hS => ?_)
  have hP : va_P (dC, dI) vwCl [(h0, .inr (0, [.int g.1, .int g.2.1, .int (g.2.2.1 + 1), .int g.2.2.2.1, .int g.2.2.2.2.1, .int g.2.2.2.2.2.1, .int g.2.2.2.2.2.2.1, .int 1, .int g.1, .int g.2.1, .long 0, .long g.2.2.2.2.2.2.2.2.2.2.2.1, .ref h1, .ref h2, .ref h3])), (h1, .inl (cJ, 20, .inr (.inl g.2.2.2.2.2.2.2.2.2.2.2.2.1))), (h2, .inl (cI, 30, .inl (upd g.2.2.2.2.2.2.2.2.2.2.2.2.2.1 ((rX0_placeOf g.2.2.1).toNatClampNeg) (lo - g.2.1)))), (h3, .inl (cI, 30, .inl (upd g.2.2.2.2.2.2.2.2.2.2.2.2.2.2 ((rX0_placeOf g.2.2.1).toNatClampNeg) (hi - g.1))))] H := hP
  have hD : va_D A [(h0, .inr (0, [.int g.1, .int g.2.1, .int (g.2.2.1 + 1), .int g.2.2.2.1, .int g.2.2.2.2.1, .int g.2.2.2.2.2.1, .int g.2.2.2.2.2.2.1, .int 1, .int g.1, .int g.2.1, .long 0, .long g.2.2.2.2.2.2.2.2.2.2.2.1, .ref h1, .ref h2, .ref h3])), (h1, .inl (cJ, 20, .inr (.inl g.2.2.2.2.2.2.2.2.2.2.2.2.1))), (h2, .inl (cI, 30, .inl (upd g.2.2.2.2.2.2.2.2.2.2.2.2.2.1 ((rX0_placeOf g.2.2.1).toNatClampNeg) (lo - g.2.1)))), (h3, .inl (cI, 30, .inl (upd g.2.2.2.2.2.2.2.2.2.2.2.2.2.2 ((rX0_placeOf g.2.2.1).toNatClampNeg) (hi - g.1))))] := hD
  refine lv_aload_n hx hb dX0_takeRefill_68 rfl (lv_at hl 1 rfl) ?_
  refine lv_lconst (v := 0) hx hb dX0_takeRefill_69 (by decide) ?_
  refine va_put (D := (dC, dI)) (ci := 0) (v := .long 0) (ty := .long) (C := RX0) (T := TX0) (N := 15) hx hb hts hiX0 tyX0 tyX0_ok nmX0 hown hK hP hD hS 0 rfl rfl 11 (by decide) (hts (.fieldLink RX0 62 "TripReckoner$Ledger" "usedMost" "J") (by decide +kernel)) (fun _ h9 => h9) rfl (by decide +kernel) rfl rfl (Nat.le_of_ble_eq_true rfl) dX0_takeRefill_70 (fun H locs hP hD hS => ?_)
  have hP : va_P (dC, dI) vwCl [(h0, .inr (0, [.int g.1, .int g.2.1, .int (g.2.2.1 + 1), .int g.2.2.2.1, .int g.2.2.2.2.1, .int g.2.2.2.2.2.1, .int g.2.2.2.2.2.2.1, .int 1, .int g.1, .int g.2.1, .long 0, .long 0, .ref h1, .ref h2, .ref h3])), (h1, .inl (cJ, 20, .inr (.inl g.2.2.2.2.2.2.2.2.2.2.2.2.1))), (h2, .inl (cI, 30, .inl (upd g.2.2.2.2.2.2.2.2.2.2.2.2.2.1 ((rX0_placeOf g.2.2.1).toNatClampNeg) (lo - g.2.1)))), (h3, .inl (cI, 30, .inl (upd g.2.2.2.2.2.2.2.2.2.2.2.2.2.2 ((rX0_placeOf g.2.2.1).toNatClampNeg) (hi - g.1))))] H := hP
  have hD : va_D A [(h0, .inr (0, [.int g.1, .int g.2.1, .int (g.2.2.1 + 1), .int g.2.2.2.1, .int g.2.2.2.2.1, .int g.2.2.2.2.2.1, .int g.2.2.2.2.2.2.1, .int 1, .int g.1, .int g.2.1, .long 0, .long 0, .ref h1, .ref h2, .ref h3])), (h1, .inl (cJ, 20, .inr (.inl g.2.2.2.2.2.2.2.2.2.2.2.2.1))), (h2, .inl (cI, 30, .inl (upd g.2.2.2.2.2.2.2.2.2.2.2.2.2.1 ((rX0_placeOf g.2.2.1).toNatClampNeg) (lo - g.2.1)))), (h3, .inl (cI, 30, .inl (upd g.2.2.2.2.2.2.2.2.2.2.2.2.2.2 ((rX0_placeOf g.2.2.1).toNatClampNeg) (hi - g.1))))] := hD
  refine lv_aload_n hx hb dX0_takeRefill_73 rfl (lv_at hl 1 rfl) ?_
  refine lv_iconst (v := 3) hx hb dX0_takeRefill_74 (by decide) ?_
  have hPc := hP.sub (ws' := [(h0, .inr (0, [.int g.1, .int g.2.1, .int (g.2.2.1 + 1), .int g.2.2.2.1, .int g.2.2.2.2.1, .int g.2.2.2.2.2.1, .int g.2.2.2.2.2.2.1, .int 1, .int g.1, .int g.2.1, .long 0, .long 0, .ref h1, .ref h2, .ref h3])), (h1, .inl (cJ, 20, .inr (.inl g.2.2.2.2.2.2.2.2.2.2.2.2.1))), (h2, .inl (cI, 30, .inl (upd g.2.2.2.2.2.2.2.2.2.2.2.2.2.1 ((rX0_placeOf g.2.2.1).toNatClampNeg) (lo - g.2.1)))), (h3, .inl (cI, 30, .inl (upd g.2.2.2.2.2.2.2.2.2.2.2.2.2.2 ((rX0_placeOf g.2.2.1).toNatClampNeg) (hi - g.1))))]) [0, 1, 2, 3] rfl
  have hDc := hD.sub (ws' := [(h0, .inr (0, [.int g.1, .int g.2.1, .int (g.2.2.1 + 1), .int g.2.2.2.1, .int g.2.2.2.2.1, .int g.2.2.2.2.2.1, .int g.2.2.2.2.2.2.1, .int 1, .int g.1, .int g.2.1, .long 0, .long 0, .ref h1, .ref h2, .ref h3])), (h1, .inl (cJ, 20, .inr (.inl g.2.2.2.2.2.2.2.2.2.2.2.2.1))), (h2, .inl (cI, 30, .inl (upd g.2.2.2.2.2.2.2.2.2.2.2.2.2.1 ((rX0_placeOf g.2.2.1).toNatClampNeg) (lo - g.2.1)))), (h3, .inl (cI, 30, .inl (upd g.2.2.2.2.2.2.2.2.2.2.2.2.2.2 ((rX0_placeOf g.2.2.1).toNatClampNeg) (hi - g.1))))]) [0, 1, 2, 3] (by decide) rfl
  have hFc := va_free (wc := [(h0, .inr (0, [.int g.1, .int g.2.1, .int (g.2.2.1 + 1), .int g.2.2.2.1, .int g.2.2.2.2.1, .int g.2.2.2.2.2.1, .int g.2.2.2.2.2.2.1, .int 1, .int g.1, .int g.2.1, .long 0, .long 0, .ref h1, .ref h2, .ref h3])), (h1, .inl (cJ, 20, .inr (.inl g.2.2.2.2.2.2.2.2.2.2.2.2.1))), (h2, .inl (cI, 30, .inl (upd g.2.2.2.2.2.2.2.2.2.2.2.2.2.1 ((rX0_placeOf g.2.2.1).toNatClampNeg) (lo - g.2.1)))), (h3, .inl (cI, 30, .inl (upd g.2.2.2.2.2.2.2.2.2.2.2.2.2.2 ((rX0_placeOf g.2.2.1).toNatClampNeg) (hi - g.1))))]) hD hS hA [0, 1, 2, 3] rfl
  refine va_callv (va_runV (As := [.int 3]) (rest := []) ⟨hx, hb, hml, hown, hts⟩ (kX0_clearMark l dC dI cI cJ h0 h1 h2 h3 H.size 3 (g.1, g.2.1, g.2.2.1 + 1, g.2.2.2.1, g.2.2.2.2.1, g.2.2.2.2.2.1, g.2.2.2.2.2.2.1, 1, g.1, g.2.1, 0, 0, g.2.2.2.2.2.2.2.2.2.2.2.2.1, upd g.2.2.2.2.2.2.2.2.2.2.2.2.2.1 ((rX0_placeOf g.2.2.1).toNatClampNeg) (lo - g.2.1), upd g.2.2.2.2.2.2.2.2.2.2.2.2.2.2 ((rX0_placeOf g.2.2.1).toNatClampNeg) (hi - g.1)) (vd (by decide +kernel))) (cwV 1 hts gX0_takeRefill_X0_clearMark rfl rfl rfl (by decide +kernel) ⟨Nat.le_of_ble_eq_true rfl, Nat.le_of_ble_eq_true rfl⟩) ⟨fun a U g mk q => by obtain ⟨q0, q1, qP, qK, qD⟩ := q; exact ⟨q0, q1, qP, va_K.moved (u := U) (U := U.calling g mk a) (Vm.Alike.refl U.vm) qK, qD⟩, va_recv hK hPc (ci := 0) (q0 := 0) rfl rfl, fun U hU hW => ⟨rfl, by rw [hU], by rw [hU]; exact hPc, va_K.moved hW.alike hK, hDc.weaken (fun _ _ _ _ => trivial)⟩⟩ rfl rfl hl.1 rfl (lv_room (Nat.le_of_ble_eq_true rfl)) dX0_takeRefill_75 ⟨Nat.le_of_ble_eq_true rfl, Nat.le_of_ble_eq_true rfl⟩) hS (fun q _ h => hFc q h) hFc (fun _ t H1 locs ht hvm hw hB hz1 hk1 hS => ?_)
  obtain ⟨hP1, hK1, hD1⟩ := hB
  rw [ht] at hP1
  obtain ⟨g_3, eg_3⟩ : ∃ z, z = sX0_clearMark 3 (g.1, g.2.1, g.2.2.1 + 1, g.2.2.2.1, g.2.2.2.2.1, g.2.2.2.2.2.1, g.2.2.2.2.2.2.1, 1, g.1, g.2.1, 0, 0, g.2.2.2.2.2.2.2.2.2.2.2.2.1, upd g.2.2.2.2.2.2.2.2.2.2.2.2.2.1 ((rX0_placeOf g.2.2.1).toNatClampNeg) (lo - g.2.1), upd g.2.2.2.2.2.2.2.2.2.2.2.2.2.2 ((rX0_placeOf g.2.2.1).toNatClampNeg) (hi - g.1)) := ⟨_, rfl⟩
  rw [← eg_3] at hP1 hD1
  obtain ⟨hP, hD⟩ := va_join (wr := []) (w1 := [cL0 h0 h1 h2 h3 g_3, cL1 cJ h1 g_3, cL2 cI h2 g_3, cL3 cI h3 g_3]) hP hD [0, 1, 2, 3] [] rfl rfl (by decide) (by decide) hk1 hFc hP1 hD1
  generalize H1 = H at hP hS ⊢
  have hP : va_P (dC, dI) vwCl [cL0 h0 h1 h2 h3 g_3, cL1 cJ h1 g_3, cL2 cI h2 g_3, cL3 cI h3 g_3] H := hP
  have hD : va_D A [cL0 h0 h1 h2 h3 g_3, cL1 cJ h1 g_3, cL2 cI h2 g_3, cL3 cI h3 g_3] := hD
  refine lv_aload_n hx hb dX0_takeRefill_78 rfl (lv_at hl 1 rfl) ?_
  refine lv_iload_n hx hb dX0_takeRefill_79 rfl (lv_at hl 2 rfl) ?_
  refine lv_iload_n hx hb dX0_takeRefill_80 rfl (lv_at hl 3 rfl) ?_
  have hPc := hP.sub (ws' := [cL0 h0 h1 h2 h3 g_3, cL1 cJ h1 g_3, cL2 cI h2 g_3, cL3 cI h3 g_3]) [0, 1, 2, 3] rfl
  have hDc := hD.sub (ws' := [cL0 h0 h1 h2 h3 g_3, cL1 cJ h1 g_3, cL2 cI h2 g_3, cL3 cI h3 g_3]) [0, 1, 2, 3] (by decide) rfl
  have hFc := va_free (wc := [cL0 h0 h1 h2 h3 g_3, cL1 cJ h1 g_3, cL2 cI h2 g_3, cL3 cI h3 g_3]) hD hS hA [0, 1, 2, 3] rfl
  refine va_callv (va_runV (As := [.int lo, .int hi]) (rest := []) ⟨hx, hb, hml, hown, hts⟩ (kX0_takeFloat l dC dI cI cJ h0 h1 h2 h3 H.size lo hi g_3) (cwV 2 hts gX0_takeRefill_X0_takeFloat rfl rfl rfl (by decide +kernel) ⟨Nat.le_of_ble_eq_true rfl, Nat.le_of_ble_eq_true rfl⟩) ⟨fun a U g mk q => by obtain ⟨q0, q1, qP, qK, qD⟩ := q; exact ⟨q0, q1, qP, va_K.moved (u := U) (U := U.calling g mk a) (Vm.Alike.refl U.vm) qK, qD⟩, va_recv hK hPc (ci := 0) (q0 := 0) rfl rfl, fun U hU hW => ⟨rfl, by rw [hU], by rw [hU]; exact hPc, va_K.moved hW.alike hK, hDc.weaken (fun _ _ _ _ => trivial)⟩⟩ rfl rfl hl.1 rfl (lv_room (Nat.le_of_ble_eq_true rfl)) dX0_takeRefill_81 ⟨Nat.le_of_ble_eq_true rfl, Nat.le_of_ble_eq_true rfl⟩) hS (fun q _ h => hFc q h) hFc (fun _ t H1 locs ht hvm hw hB hz1 hk1 hS => ?_)
  obtain ⟨hP1, hK1, hD1⟩ := hB
  rw [ht] at hP1
  obtain ⟨g_5, eg_5⟩ : ∃ z, z = sX0_takeFloat lo hi g_3 := ⟨_, rfl⟩
  rw [← eg_5] at hP1 hD1
  obtain ⟨hP, hD⟩ := va_join (wr := []) (w1 := [cL0 h0 h1 h2 h3 g_5, cL1 cJ h1 g_5, cL2 cI h2 g_5, cL3 cI h3 g_5]) hP hD [0, 1, 2, 3] [] rfl rfl (by decide) (by decide) hk1 hFc hP1 hD1
  generalize H1 = H at hP hS ⊢
  have hP : va_P (dC, dI) vwCl [cL0 h0 h1 h2 h3 g_5, cL1 cJ h1 g_5, cL2 cI h2 g_5, cL3 cI h3 g_5] H := hP
  have hD : va_D A [cL0 h0 h1 h2 h3 g_5, cL1 cJ h1 g_5, cL2 cI h2 g_5, cL3 cI h3 g_5] := hD
  have es0 : sX0_takeRefill lo hi g = g_5 := by rw [sX0_takeRefill, ← eg_3, sX0_takeRefill_g_3, ← eg_5, sX0_takeRefill_g_5]
  refine W.vret hx hb hr (fun t ht hW => ⟨⟨(), rfl, trivial, ?_⟩, hS.F ht⟩) hS.2.2 dX0_takeRefill_84
  rw [es0]; exact ⟨by rw [ht]; exact hP, va_K.moved hW.alike hK, hD⟩

def rX0_amount (k : Int32) (z : Int32) (g : LG) : Int32 :=
  if z = 0 then
    g.2.2.2.2.2.2.2.2.2.2.2.2.2.1 ((rX0_placeOf k).toNatClampNeg)
  else
    g.2.2.2.2.2.2.2.2.2.2.2.2.2.2 ((rX0_placeOf k).toNatClampNeg)
set_option maxHeartbeats 4000000 in
set_option maxRecDepth 100000 in
theorem kX0_amount (l : Launch) (dC : Nat → ClassId) (dI : Nat → Nat → Nat) (cI cJ : ClassId) (h0 h1 h2 h3 : Nat) (sz : Nat) (k : Int32) (z : Int32) (g : LG) (hk : 0 ≤ k) : Met l yX0_amount wsX0_amount ({ frames := 2, cells := 0, slots := 0, locals := 42 }) (va_Pc [.ref h0, .int k, .int z] (fun U => U.heap.size = sz ∧ va_P (dC, dI) vwCl [cL0 h0 h1 h2 h3 g, cL1 cJ h1 g, cL2 cI h2 g, cL3 cI h3 g] U.heap ∧ va_K (dC, dI) vwCl [(cI, .int), (cJ, .long)] U ∧ va_D (fun _ => True) [cL0 h0 h1 h2 h3 g, cL1 cJ h1 g, cL2 cI h2 g, cL3 cI h3 g])) (va_Qi (fun (r : Int32) (_ : Unit) => r = rX0_amount k z g) (fun _ t => va_P (dC, dI) vwCl [cL0 h0 h1 h2 h3 g, cL1 cJ h1 g, cL2 cI h2 g, cL3 cI h3 g] t.heap ∧ va_K (dC, dI) vwCl [(cI, .int), (cJ, .long)] t ∧ va_D (va_A [cL0 h0 h1 h2 h3 g, cL1 cJ h1 g, cL2 cI h2 g, cL3 cI h3 g] sz) [cL0 h0 h1 h2 h3 g, cL1 cJ h1 g, cL2 cI h2 g, cL3 cI h3 g]) (va_A [cL0 h0 h1 h2 h3 g, cL1 cJ h1 g, cL2 cI h2 g, cL3 cI h3 g] sz)) 0 0 (va_A [cL0 h0 h1 h2 h3 g, cL1 cJ h1 g, cL2 cI h2 g, cL3 cI h3 g] sz) := by
  refine Met.ofW (cc := cX0_amount) (maxL := 4) (ret := (some .int)) (by decide) rfl ?_
  intro p e s m args below meth c s₁ B hml hv
  obtain ⟨rfl, hsz, hP, hK, hD0⟩ := hv
  have hx := B.exec
  have hb := B.bytes
  have hr := B.returns
  have hts := atoms_spec (ws := wsX0_amount) B.pre
  have hown : s.vm.findClass RX0 = some m.cls := findClass_of_methodNamed B.named
  have hlocks := B.notSynchronized
  have hiX0 : ∀ w ∈ u_ws RX0 TX0 15, w ∈ wsX0_amount := by decide +kernel
  subst hsz
  have hD := hD0.self (sz := s.heap.size)
  generalize hAe : va_A [cL0 h0 h1 h2 h3 g, cL1 cJ h1 g, cL2 cI h2 g, cL3 cI h3 g] s.heap.size = A at hD ⊢
  have hA : ∀ q : Nat, s.heap.size ≤ q → A q := fun q h => by rw [← hAe]; exact Or.inr h
  have hS : va_S A s.heap s.heap [] := va_S.rf
  have hl := lv_entry ([.ref h0, .int k, .int z]) (n := 4) (Nat.le_of_ble_eq_true rfl)
  rw [lg_entry_eq]
  generalize (lg_sl ([.ref h0, .int k, .int z]) ++ List.replicate (4 - (lg_sl ([.ref h0, .int k, .int z])).length) Slot.unset).toArray = ls at hl ⊢
  have hl : lv_has ls 4 [(0, .ref h0), (1, .int k), (2, .int z)] := hl
  have hP : va_P (dC, dI) vwCl [cL0 h0 h1 h2 h3 g, cL1 cJ h1 g, cL2 cI h2 g, cL3 cI h3 g] s.heap := hP
  refine lv_iload_n hx hb dX0_amount_0 rfl (lv_at hl 1 rfl) ?_
  have hPc := hP.sub (ws' := []) [] rfl
  have hDc := hD.sub (ws' := []) [] (by decide) rfl
  have hFc := va_free (wc := []) hD hS hA [] rfl
  refine va_calli (va_runS (As := [.int k]) (rest := []) ⟨hx, hb, hml, hown, hts⟩ (kX0_placeOf l dC dI cI cJ s.heap.size k) (va_cwS 1 hts gX0_amount_X0_placeOf rfl rfl rfl (by decide +kernel) ⟨Nat.le_of_ble_eq_true rfl, Nat.le_of_ble_eq_true rfl⟩) ⟨fun a U g mk q => by obtain ⟨q0, q1, qP, qK, qD⟩ := q; exact ⟨q0, q1, qP, va_K.moved (u := U) (U := U.calling g mk a) (Vm.Alike.refl U.vm) qK, qD⟩, fun U hU hW => ⟨rfl, by rw [hU], by rw [hU]; exact hPc, va_K.moved hW.alike hK, hDc.weaken (fun _ _ _ _ => trivial)⟩⟩ rfl rfl hl.1 rfl (lv_room (Nat.le_of_ble_eq_true rfl)) dX0_amount_1 ⟨Nat.le_of_ble_eq_true rfl, Nat.le_of_ble_eq_true rfl⟩) hS (fun q _ h => hFc q h) hFc (fun r_1 _ t H1 locs ht hvm hw hB hz1 hk1 hS => ?_)
  obtain ⟨hP1, hK1, hD1⟩ := hB
  rw [ht] at hP1
  obtain ⟨hP, hD⟩ := va_join (wr := [cL0 h0 h1 h2 h3 g, cL1 cJ h1 g, cL2 cI h2 g, cL3 cI h3 g]) (w1 := []) hP hD [] [0, 1, 2, 3] rfl rfl (by decide) (by decide) hk1 hFc hP1 hD1
  generalize H1 = H at hP hS ⊢
  have hP : va_P (dC, dI) vwCl [cL0 h0 h1 h2 h3 g, cL1 cJ h1 g, cL2 cI h2 g, cL3 cI h3 g] H := hP
  have hD : va_D A [cL0 h0 h1 h2 h3 g, cL1 cJ h1 g, cL2 cI h2 g, cL3 cI h3 g] := hD
  subst hw
  refine lv_istore_n (lv' := [(3, .int (rX0_placeOf k)), (0, .ref h0), (1, .int k), (2, .int z)]) hx hb dX0_amount_4 rfl hl (by decide) rfl (fun ls hl => ?_)
  refine lv_iload_n hx hb dX0_amount_5 rfl (lv_at hl 3 rfl) ?_
  refine lv_if_eq (tgt := 18) hx hb dX0_amount_6 (by decide) (fun c_2 => ?_) (fun c_2 => ?_)
  · refine lv_aload_n hx hb dX0_amount_18 rfl (lv_at hl 1 rfl) ?_
    refine va_get (D := (dC, dI)) (ci := 0) (v := .ref h2) (C := RX0) (T := TX0) (N := 15) hx hb hts hiX0 hown hK hP 0 rfl rfl 13 (by decide) (hts (.fieldLink RX0 15 "TripReckoner$Ledger" "amountsLeast" "[I") (by decide +kernel)) (fun _ h9 => h9) rfl dX0_amount_19 ?_
    refine lv_iload_n hx hb dX0_amount_22 rfl (lv_at hl 0 rfl) ?_
    refine va_iald hx hb hK hP 2 0 rfl rfl (placeOf_in _) dX0_amount_23 ?_
    have er : g.2.2.2.2.2.2.2.2.2.2.2.2.2.1 ((rX0_placeOf k).toNatClampNeg) = rX0_amount k z g := by rw [rX0_amount, if_pos c_2]
    refine W.iret (v := g.2.2.2.2.2.2.2.2.2.2.2.2.2.1 ((rX0_placeOf k).toNatClampNeg)) hx hb hr (fun t ht hW => ⟨⟨g.2.2.2.2.2.2.2.2.2.2.2.2.2.1 ((rX0_placeOf k).toNatClampNeg), (), rfl, er, ?_⟩, hS.F ht⟩) hS.2.2 dX0_amount_24
    exact ⟨by rw [ht]; exact hP, va_K.moved hW.alike hK, hD⟩
  · refine lv_aload_n hx hb dX0_amount_9 rfl (lv_at hl 1 rfl) ?_
    refine va_get (D := (dC, dI)) (ci := 0) (v := .ref h3) (C := RX0) (T := TX0) (N := 15) hx hb hts hiX0 hown hK hP 0 rfl rfl 14 (by decide) (hts (.fieldLink RX0 19 "TripReckoner$Ledger" "amountsGreatest" "[I") (by decide +kernel)) (fun _ h9 => h9) rfl dX0_amount_10 ?_
    refine lv_iload_n hx hb dX0_amount_13 rfl (lv_at hl 0 rfl) ?_
    refine va_iald hx hb hK hP 3 0 rfl rfl (placeOf_in _) dX0_amount_14 ?_
    refine lv_goto (tgt := 24) hx hb dX0_amount_15 (by decide) ?_
    have er : g.2.2.2.2.2.2.2.2.2.2.2.2.2.2 ((rX0_placeOf k).toNatClampNeg) = rX0_amount k z g := by rw [rX0_amount, if_neg c_2]
    refine W.iret (v := g.2.2.2.2.2.2.2.2.2.2.2.2.2.2 ((rX0_placeOf k).toNatClampNeg)) hx hb hr (fun t ht hW => ⟨⟨g.2.2.2.2.2.2.2.2.2.2.2.2.2.2 ((rX0_placeOf k).toNatClampNeg), (), rfl, er, ?_⟩, hS.F ht⟩) hS.2.2 dX0_amount_24
    exact ⟨by rw [ht]; exact hP, va_K.moved hW.alike hK, hD⟩

def sX0_pass (pl : Int32) (pm : Int32) (fl : Int32) (fm : Int32) (sec : Int32) (g : LG) : LG :=
  (g.1, g.2.1, g.2.2.1, g.2.2.2.1, g.2.2.2.2.1, g.2.2.2.2.2.1, g.2.2.2.2.2.2.1, g.2.2.2.2.2.2.2.1, g.2.2.2.2.2.2.2.2.1, g.2.2.2.2.2.2.2.2.2.1, g.2.2.2.2.2.2.2.2.2.2.1 + fl.toInt64, g.2.2.2.2.2.2.2.2.2.2.2.1 + fm.toInt64, vp_updL (vp_updL (vp_updL (vp_updL (vp_updL (vp_updL (vp_updL (vp_updL (vp_updL (vp_updL (vp_updL (vp_updL (vp_updL (vp_updL (vp_updL (vp_updL (vp_updL (vp_updL (vp_updL (vp_updL g.2.2.2.2.2.2.2.2.2.2.2.2.1 0 ((g.2.2.2.2.2.2.2.2.2.2.2.2.1 0) + pl.toInt64)) 1 ((g.2.2.2.2.2.2.2.2.2.2.2.2.1 1) + pm.toInt64)) 2 ((g.2.2.2.2.2.2.2.2.2.2.2.2.1 2) + fl.toInt64)) 3 ((g.2.2.2.2.2.2.2.2.2.2.2.2.1 3) + fm.toInt64)) 4 ((g.2.2.2.2.2.2.2.2.2.2.2.2.1 4) + sec.toInt64)) 5 ((g.2.2.2.2.2.2.2.2.2.2.2.2.1 5) + pl.toInt64)) 6 ((g.2.2.2.2.2.2.2.2.2.2.2.2.1 6) + pm.toInt64)) 7 ((g.2.2.2.2.2.2.2.2.2.2.2.2.1 7) + fl.toInt64)) 8 ((g.2.2.2.2.2.2.2.2.2.2.2.2.1 8) + fm.toInt64)) 9 ((g.2.2.2.2.2.2.2.2.2.2.2.2.1 9) + sec.toInt64)) 10 ((g.2.2.2.2.2.2.2.2.2.2.2.2.1 10) + pl.toInt64)) 11 ((g.2.2.2.2.2.2.2.2.2.2.2.2.1 11) + pm.toInt64)) 12 ((g.2.2.2.2.2.2.2.2.2.2.2.2.1 12) + fl.toInt64)) 13 ((g.2.2.2.2.2.2.2.2.2.2.2.2.1 13) + fm.toInt64)) 14 ((g.2.2.2.2.2.2.2.2.2.2.2.2.1 14) + sec.toInt64)) 15 ((g.2.2.2.2.2.2.2.2.2.2.2.2.1 15) + pl.toInt64)) 16 ((g.2.2.2.2.2.2.2.2.2.2.2.2.1 16) + pm.toInt64)) 17 ((g.2.2.2.2.2.2.2.2.2.2.2.2.1 17) + fl.toInt64)) 18 ((g.2.2.2.2.2.2.2.2.2.2.2.2.1 18) + fm.toInt64)) 19 ((g.2.2.2.2.2.2.2.2.2.2.2.2.1 19) + sec.toInt64), g.2.2.2.2.2.2.2.2.2.2.2.2.2.1, g.2.2.2.2.2.2.2.2.2.2.2.2.2.2)
set_option maxHeartbeats 4000000 in
set_option maxRecDepth 100000 in
theorem kX0_pass (l : Launch) (dC : Nat → ClassId) (dI : Nat → Nat → Nat) (cI cJ : ClassId) (h0 h1 h2 h3 : Nat) (sz : Nat) (pl : Int32) (pm : Int32) (fl : Int32) (fm : Int32) (sec : Int32) (g : LG) : Met l yX0_pass wsX0_pass ({ frames := 0, cells := 0, slots := 0, locals := 0 }) (va_Pc [.ref h0, .int pl, .int pm, .int fl, .int fm, .int sec] (fun U => U.heap.size = sz ∧ va_P (dC, dI) vwCl [cL0 h0 h1 h2 h3 g, cL1 cJ h1 g, cL2 cI h2 g, cL3 cI h3 g] U.heap ∧ va_K (dC, dI) vwCl [(cI, .int), (cJ, .long)] U ∧ va_D (fun _ => True) [cL0 h0 h1 h2 h3 g, cL1 cJ h1 g, cL2 cI h2 g, cL3 cI h3 g])) (va_Qv (fun _ : Unit => True) (fun _ t => va_P (dC, dI) vwCl [cL0 h0 h1 h2 h3 (sX0_pass pl pm fl fm sec g), cL1 cJ h1 (sX0_pass pl pm fl fm sec g), cL2 cI h2 (sX0_pass pl pm fl fm sec g), cL3 cI h3 (sX0_pass pl pm fl fm sec g)] t.heap ∧ va_K (dC, dI) vwCl [(cI, .int), (cJ, .long)] t ∧ va_D (va_A [cL0 h0 h1 h2 h3 g, cL1 cJ h1 g, cL2 cI h2 g, cL3 cI h3 g] sz) [cL0 h0 h1 h2 h3 (sX0_pass pl pm fl fm sec g), cL1 cJ h1 (sX0_pass pl pm fl fm sec g), cL2 cI h2 (sX0_pass pl pm fl fm sec g), cL3 cI h3 (sX0_pass pl pm fl fm sec g)]) (va_A [cL0 h0 h1 h2 h3 g, cL1 cJ h1 g, cL2 cI h2 g, cL3 cI h3 g] sz)) 0 0 (va_A [cL0 h0 h1 h2 h3 g, cL1 cJ h1 g, cL2 cI h2 g, cL3 cI h3 g] sz) := by
  refine Met.ofW (cc := cX0_pass) (maxL := 8) (ret := none) (by decide) rfl ?_
  intro p e s m args below meth c s₁ B hml hv
  obtain ⟨rfl, hsz, hP, hK, hD0⟩ := hv
  have hx := B.exec
  have hb := B.bytes
  have hr := B.returns
  have hts := atoms_spec (ws := wsX0_pass) B.pre
  have hown : s.vm.findClass RX0 = some m.cls := findClass_of_methodNamed B.named
  have hlocks := B.notSynchronized
  have hiX0 : ∀ w ∈ u_ws RX0 TX0 15, w ∈ wsX0_pass := by decide +kernel
  subst hsz
  have hD := hD0.self (sz := s.heap.size)
  generalize hAe : va_A [cL0 h0 h1 h2 h3 g, cL1 cJ h1 g, cL2 cI h2 g, cL3 cI h3 g] s.heap.size = A at hD ⊢
  have hA : ∀ q : Nat, s.heap.size ≤ q → A q := fun q h => by rw [← hAe]; exact Or.inr h
  have hS : va_S A s.heap s.heap [] := va_S.rf
  have hl := lv_entry ([.ref h0, .int pl, .int pm, .int fl, .int fm, .int sec]) (n := 8) (Nat.le_of_ble_eq_true rfl)
  rw [lg_entry_eq]
  generalize (lg_sl ([.ref h0, .int pl, .int pm, .int fl, .int fm, .int sec]) ++ List.replicate (8 - (lg_sl ([.ref h0, .int pl, .int pm, .int fl, .int fm, .int sec])).length) Slot.unset).toArray = ls at hl ⊢
  have hl : lv_has ls 8 [(0, .ref h0), (1, .int pl), (2, .int pm), (3, .int fl), (4, .int fm), (5, .int sec)] := hl
  have hP : va_P (dC, dI) vwCl [cL0 h0 h1 h2 h3 g, cL1 cJ h1 g, cL2 cI h2 g, cL3 cI h3 g] s.heap := hP
  refine lv_iconst (v := 0) hx hb dX0_pass_0 (by decide) ?_
  refine lv_istore (lv' := [(6, .int 0), (0, .ref h0), (1, .int pl), (2, .int pm), (3, .int fl), (4, .int fm), (5, .int sec)]) hx hb dX0_pass_1 hl (by decide) rfl (fun ls hl => ?_)
  refine lv_iload hx hb dX0_pass_3 (lv_at hl 0 rfl) ?_
  refine lv_iconst (v := 4) hx hb dX0_pass_5 (by decide) ?_
  refine lv_icmp_ge (tgt := 93) hx hb dX0_pass_6 (by decide) (fun c_1 => absurd c_1 (by decide)) (fun c_1 => ?_)
  refine lv_iload hx hb dX0_pass_9 (lv_at hl 0 rfl) ?_
  refine lv_iconst (v := 5) hx hb dX0_pass_11 (by decide) ?_
  refine lv_imul hx hb dX0_pass_12 ?_
  refine lv_topi (fun z_2 ez_2 => ?_)
  obtain rfl : z_2 = 0 := ez_2.trans (by decide +kernel)
  refine lv_istore (lv' := [(7, .int 0), (6, .int 0), (0, .ref h0), (1, .int pl), (2, .int pm), (3, .int fl), (4, .int fm), (5, .int sec)]) hx hb dX0_pass_13 hl (by decide) rfl (fun ls hl => ?_)
  refine lv_aload_n hx hb dX0_pass_15 rfl (lv_at hl 2 rfl) ?_
  refine va_get (D := (dC, dI)) (ci := 0) (v := .ref h1) (C := RX0) (T := TX0) (N := 15) hx hb hts hiX0 hown hK hP 0 rfl rfl 12 (by decide) (hts (.fieldLink RX0 9 "TripReckoner$Ledger" "marks" "[J") (by decide +kernel)) (fun _ h9 => h9) rfl dX0_pass_16 ?_
  refine lv_iload hx hb dX0_pass_19 (lv_at hl 0 rfl) ?_
  refine lv_iconst (v := 0) hx hb dX0_pass_21 (by decide) ?_
  refine lv_iadd hx hb dX0_pass_22 ?_
  refine lv_topi (fun z_3 ez_3 => ?_)
  obtain rfl : z_3 = 0 := ez_3.trans (by decide +kernel)
  refine lv_dup2_11 hx hb dX0_pass_23 rfl rfl ?_
  refine va_lald hx hb hK hP 1 1 rfl rfl (vd (by decide +kernel)) dX0_pass_24 ?_
  refine lv_topl (fun z_4 ez_4 => ?_)
  have ez_4 : z_4 = g.2.2.2.2.2.2.2.2.2.2.2.2.1 0 := ez_4
  subst ez_4
  refine lv_iload_n hx hb dX0_pass_25 rfl (lv_at hl 3 rfl) ?_
  refine lv_i2l (v := pl.toInt64) hx hb dX0_pass_26 rfl ?_
  refine lv_ladd hx hb dX0_pass_27 ?_
  refine va_last hx hb hK hP hD hS 1 1 rfl rfl (vd (by decide +kernel)) dX0_pass_28 (fun H locs hP hD hS => ?_)
  have hP : va_P (dC, dI) vwCl [(h0, .inr (0, [.int g.1, .int g.2.1, .int g.2.2.1, .int g.2.2.2.1, .int g.2.2.2.2.1, .int g.2.2.2.2.2.1, .int g.2.2.2.2.2.2.1, .int g.2.2.2.2.2.2.2.1, .int g.2.2.2.2.2.2.2.2.1, .int g.2.2.2.2.2.2.2.2.2.1, .long g.2.2.2.2.2.2.2.2.2.2.1, .long g.2.2.2.2.2.2.2.2.2.2.2.1, .ref h1, .ref h2, .ref h3])), (h1, .inl (cJ, 20, .inr (.inl (vp_updL g.2.2.2.2.2.2.2.2.2.2.2.2.1 0 ((g.2.2.2.2.2.2.2.2.2.2.2.2.1 0) + pl.toInt64))))), (h2, .inl (cI, 30, .inl g.2.2.2.2.2.2.2.2.2.2.2.2.2.1)), (h3, .inl (cI, 30, .inl g.2.2.2.2.2.2.2.2.2.2.2.2.2.2))] H := hP
  have hD : va_D A [(h0, .inr (0, [.int g.1, .int g.2.1, .int g.2.2.1, .int g.2.2.2.1, .int g.2.2.2.2.1, .int g.2.2.2.2.2.1, .int g.2.2.2.2.2.2.1, .int g.2.2.2.2.2.2.2.1, .int g.2.2.2.2.2.2.2.2.1, .int g.2.2.2.2.2.2.2.2.2.1, .long g.2.2.2.2.2.2.2.2.2.2.1, .long g.2.2.2.2.2.2.2.2.2.2.2.1, .ref h1, .ref h2, .ref h3])), (h1, .inl (cJ, 20, .inr (.inl (vp_updL g.2.2.2.2.2.2.2.2.2.2.2.2.1 0 ((g.2.2.2.2.2.2.2.2.2.2.2.2.1 0) + pl.toInt64))))), (h2, .inl (cI, 30, .inl g.2.2.2.2.2.2.2.2.2.2.2.2.2.1)), (h3, .inl (cI, 30, .inl g.2.2.2.2.2.2.2.2.2.2.2.2.2.2))] := hD
  refine lv_aload_n hx hb dX0_pass_29 rfl (lv_at hl 2 rfl) ?_
  refine va_get (D := (dC, dI)) (ci := 0) (v := .ref h1) (C := RX0) (T := TX0) (N := 15) hx hb hts hiX0 hown hK hP 0 rfl rfl 12 (by decide) (hts (.fieldLink RX0 9 "TripReckoner$Ledger" "marks" "[J") (by decide +kernel)) (fun _ h9 => h9) rfl dX0_pass_30 ?_
  refine lv_iload hx hb dX0_pass_33 (lv_at hl 0 rfl) ?_
  refine lv_iconst (v := 1) hx hb dX0_pass_35 (by decide) ?_
  refine lv_iadd hx hb dX0_pass_36 ?_
  refine lv_topi (fun z_5 ez_5 => ?_)
  obtain rfl : z_5 = 1 := ez_5.trans (by decide +kernel)
  refine lv_dup2_11 hx hb dX0_pass_37 rfl rfl ?_
  refine va_lald hx hb hK hP 1 1 rfl rfl (vd (by decide +kernel)) dX0_pass_38 ?_
  refine lv_topl (fun z_6 ez_6 => ?_)
  have ez_6 : z_6 = g.2.2.2.2.2.2.2.2.2.2.2.2.1 1 := ez_6
  subst ez_6
  refine lv_iload_n hx hb dX0_pass_39 rfl (lv_at hl 4 rfl) ?_
  refine lv_i2l (v := pm.toInt64) hx hb dX0_pass_40 rfl ?_
  refine lv_ladd hx hb dX0_pass_41 ?_
  refine va_last hx hb hK hP hD hS 1 1 rfl rfl (vd (by decide +kernel)) dX0_pass_42 (fun H locs hP hD hS => ?_)
  have hP : va_P (dC, dI) vwCl [(h0, .inr (0, [.int g.1, .int g.2.1, .int g.2.2.1, .int g.2.2.2.1, .int g.2.2.2.2.1, .int g.2.2.2.2.2.1, .int g.2.2.2.2.2.2.1, .int g.2.2.2.2.2.2.2.1, .int g.2.2.2.2.2.2.2.2.1, .int g.2.2.2.2.2.2.2.2.2.1, .long g.2.2.2.2.2.2.2.2.2.2.1, .long g.2.2.2.2.2.2.2.2.2.2.2.1, .ref h1, .ref h2, .ref h3])), (h1, .inl (cJ, 20, .inr (.inl (vp_updL (vp_updL g.2.2.2.2.2.2.2.2.2.2.2.2.1 0 ((g.2.2.2.2.2.2.2.2.2.2.2.2.1 0) + pl.toInt64)) 1 ((g.2.2.2.2.2.2.2.2.2.2.2.2.1 1) + pm.toInt64))))), (h2, .inl (cI, 30, .inl g.2.2.2.2.2.2.2.2.2.2.2.2.2.1)), (h3, .inl (cI, 30, .inl g.2.2.2.2.2.2.2.2.2.2.2.2.2.2))] H := hP
  have hD : va_D A [(h0, .inr (0, [.int g.1, .int g.2.1, .int g.2.2.1, .int g.2.2.2.1, .int g.2.2.2.2.1, .int g.2.2.2.2.2.1, .int g.2.2.2.2.2.2.1, .int g.2.2.2.2.2.2.2.1, .int g.2.2.2.2.2.2.2.2.1, .int g.2.2.2.2.2.2.2.2.2.1, .long g.2.2.2.2.2.2.2.2.2.2.1, .long g.2.2.2.2.2.2.2.2.2.2.2.1, .ref h1, .ref h2, .ref h3])), (h1, .inl (cJ, 20, .inr (.inl (vp_updL (vp_updL g.2.2.2.2.2.2.2.2.2.2.2.2.1 0 ((g.2.2.2.2.2.2.2.2.2.2.2.2.1 0) + pl.toInt64)) 1 ((g.2.2.2.2.2.2.2.2.2.2.2.2.1 1) + pm.toInt64))))), (h2, .inl (cI, 30, .inl g.2.2.2.2.2.2.2.2.2.2.2.2.2.1)), (h3, .inl (cI, 30, .inl g.2.2.2.2.2.2.2.2.2.2.2.2.2.2))] := hD
  refine lv_aload_n hx hb dX0_pass_43 rfl (lv_at hl 2 rfl) ?_
  refine va_get (D := (dC, dI)) (ci := 0) (v := .ref h1) (C := RX0) (T := TX0) (N := 15) hx hb hts hiX0 hown hK hP 0 rfl rfl 12 (by decide) (hts (.fieldLink RX0 9 "TripReckoner$Ledger" "marks" "[J") (by decide +kernel)) (fun _ h9 => h9) rfl dX0_pass_44 ?_
  refine lv_iload hx hb dX0_pass_47 (lv_at hl 0 rfl) ?_
  refine lv_iconst (v := 2) hx hb dX0_pass_49 (by decide) ?_
  refine lv_iadd hx hb dX0_pass_50 ?_
  refine lv_topi (fun z_7 ez_7 => ?_)
  obtain rfl : z_7 = 2 := ez_7.trans (by decide +kernel)
  refine lv_dup2_11 hx hb dX0_pass_51 rfl rfl ?_
  refine va_lald hx hb hK hP 1 1 rfl rfl (vd (by decide +kernel)) dX0_pass_52 ?_
  refine lv_topl (fun z_8 ez_8 => ?_)
  have ez_8 : z_8 = g.2.2.2.2.2.2.2.2.2.2.2.2.1 2 := ez_8
  subst ez_8
  refine lv_iload_n hx hb dX0_pass_53 rfl (lv_at hl 5 rfl) ?_
  refine lv_i2l (v := fl.toInt64) hx hb dX0_pass_54 rfl ?_
  refine lv_ladd hx hb dX0_pass_55 ?_
  refine va_last hx hb hK hP hD hS 1 1 rfl rfl (vd (by decide +kernel)) dX0_pass_56 (fun H locs hP hD hS => ?_)
  have hP : va_P (dC, dI) vwCl [(h0, .inr (0, [.int g.1, .int g.2.1, .int g.2.2.1, .int g.2.2.2.1, .int g.2.2.2.2.1, .int g.2.2.2.2.2.1, .int g.2.2.2.2.2.2.1, .int g.2.2.2.2.2.2.2.1, .int g.2.2.2.2.2.2.2.2.1, .int g.2.2.2.2.2.2.2.2.2.1, .long g.2.2.2.2.2.2.2.2.2.2.1, .long g.2.2.2.2.2.2.2.2.2.2.2.1, .ref h1, .ref h2, .ref h3])), (h1, .inl (cJ, 20, .inr (.inl (vp_updL (vp_updL (vp_updL g.2.2.2.2.2.2.2.2.2.2.2.2.1 0 ((g.2.2.2.2.2.2.2.2.2.2.2.2.1 0) + pl.toInt64)) 1 ((g.2.2.2.2.2.2.2.2.2.2.2.2.1 1) + pm.toInt64)) 2 ((g.2.2.2.2.2.2.2.2.2.2.2.2.1 2) + fl.toInt64))))), (h2, .inl (cI, 30, .inl g.2.2.2.2.2.2.2.2.2.2.2.2.2.1)), (h3, .inl (cI, 30, .inl g.2.2.2.2.2.2.2.2.2.2.2.2.2.2))] H := hP
  have hD : va_D A [(h0, .inr (0, [.int g.1, .int g.2.1, .int g.2.2.1, .int g.2.2.2.1, .int g.2.2.2.2.1, .int g.2.2.2.2.2.1, .int g.2.2.2.2.2.2.1, .int g.2.2.2.2.2.2.2.1, .int g.2.2.2.2.2.2.2.2.1, .int g.2.2.2.2.2.2.2.2.2.1, .long g.2.2.2.2.2.2.2.2.2.2.1, .long g.2.2.2.2.2.2.2.2.2.2.2.1, .ref h1, .ref h2, .ref h3])), (h1, .inl (cJ, 20, .inr (.inl (vp_updL (vp_updL (vp_updL g.2.2.2.2.2.2.2.2.2.2.2.2.1 0 ((g.2.2.2.2.2.2.2.2.2.2.2.2.1 0) + pl.toInt64)) 1 ((g.2.2.2.2.2.2.2.2.2.2.2.2.1 1) + pm.toInt64)) 2 ((g.2.2.2.2.2.2.2.2.2.2.2.2.1 2) + fl.toInt64))))), (h2, .inl (cI, 30, .inl g.2.2.2.2.2.2.2.2.2.2.2.2.2.1)), (h3, .inl (cI, 30, .inl g.2.2.2.2.2.2.2.2.2.2.2.2.2.2))] := hD
  refine lv_aload_n hx hb dX0_pass_57 rfl (lv_at hl 2 rfl) ?_
  refine va_get (D := (dC, dI)) (ci := 0) (v := .ref h1) (C := RX0) (T := TX0) (N := 15) hx hb hts hiX0 hown hK hP 0 rfl rfl 12 (by decide) (hts (.fieldLink RX0 9 "TripReckoner$Ledger" "marks" "[J") (by decide +kernel)) (fun _ h9 => h9) rfl dX0_pass_58 ?_
  refine lv_iload hx hb dX0_pass_61 (lv_at hl 0 rfl) ?_
  refine lv_iconst (v := 3) hx hb dX0_pass_63 (by decide) ?_
  refine lv_iadd hx hb dX0_pass_64 ?_
  refine lv_topi (fun z_9 ez_9 => ?_)
  obtain rfl : z_9 = 3 := ez_9.trans (by decide +kernel)
  refine lv_dup2_11 hx hb dX0_pass_65 rfl rfl ?_
  refine va_lald hx hb hK hP 1 1 rfl rfl (vd (by decide +kernel)) dX0_pass_66 ?_
  refine lv_topl (fun z_10 ez_10 => ?_)
  have ez_10 : z_10 = g.2.2.2.2.2.2.2.2.2.2.2.2.1 3 := ez_10
  subst ez_10
  refine lv_iload hx hb dX0_pass_67 (lv_at hl 6 rfl) ?_
  refine lv_i2l (v := fm.toInt64) hx hb dX0_pass_69 rfl ?_
  refine lv_ladd hx hb dX0_pass_70 ?_
  refine va_last hx hb hK hP hD hS 1 1 rfl rfl (vd (by decide +kernel)) dX0_pass_71 (fun H locs hP hD hS => ?_)
  have hP : va_P (dC, dI) vwCl [(h0, .inr (0, [.int g.1, .int g.2.1, .int g.2.2.1, .int g.2.2.2.1, .int g.2.2.2.2.1, .int g.2.2.2.2.2.1, .int g.2.2.2.2.2.2.1, .int g.2.2.2.2.2.2.2.1, .int g.2.2.2.2.2.2.2.2.1, .int g.2.2.2.2.2.2.2.2.2.1, .long g.2.2.2.2.2.2.2.2.2.2.1, .long g.2.2.2.2.2.2.2.2.2.2.2.1, .ref h1, .ref h2, .ref h3])), (h1, .inl (cJ, 20, .inr (.inl (vp_updL (vp_updL (vp_updL (vp_updL g.2.2.2.2.2.2.2.2.2.2.2.2.1 0 ((g.2.2.2.2.2.2.2.2.2.2.2.2.1 0) + pl.toInt64)) 1 ((g.2.2.2.2.2.2.2.2.2.2.2.2.1 1) + pm.toInt64)) 2 ((g.2.2.2.2.2.2.2.2.2.2.2.2.1 2) + fl.toInt64)) 3 ((g.2.2.2.2.2.2.2.2.2.2.2.2.1 3) + fm.toInt64))))), (h2, .inl (cI, 30, .inl g.2.2.2.2.2.2.2.2.2.2.2.2.2.1)), (h3, .inl (cI, 30, .inl g.2.2.2.2.2.2.2.2.2.2.2.2.2.2))] H := hP
  have hD : va_D A [(h0, .inr (0, [.int g.1, .int g.2.1, .int g.2.2.1, .int g.2.2.2.1, .int g.2.2.2.2.1, .int g.2.2.2.2.2.1, .int g.2.2.2.2.2.2.1, .int g.2.2.2.2.2.2.2.1, .int g.2.2.2.2.2.2.2.2.1, .int g.2.2.2.2.2.2.2.2.2.1, .long g.2.2.2.2.2.2.2.2.2.2.1, .long g.2.2.2.2.2.2.2.2.2.2.2.1, .ref h1, .ref h2, .ref h3])), (h1, .inl (cJ, 20, .inr (.inl (vp_updL (vp_updL (vp_updL (vp_updL g.2.2.2.2.2.2.2.2.2.2.2.2.1 0 ((g.2.2.2.2.2.2.2.2.2.2.2.2.1 0) + pl.toInt64)) 1 ((g.2.2.2.2.2.2.2.2.2.2.2.2.1 1) + pm.toInt64)) 2 ((g.2.2.2.2.2.2.2.2.2.2.2.2.1 2) + fl.toInt64)) 3 ((g.2.2.2.2.2.2.2.2.2.2.2.2.1 3) + fm.toInt64))))), (h2, .inl (cI, 30, .inl g.2.2.2.2.2.2.2.2.2.2.2.2.2.1)), (h3, .inl (cI, 30, .inl g.2.2.2.2.2.2.2.2.2.2.2.2.2.2))] := hD
  refine lv_aload_n hx hb dX0_pass_72 rfl (lv_at hl 2 rfl) ?_
  refine va_get (D := (dC, dI)) (ci := 0) (v := .ref h1) (C := RX0) (T := TX0) (N := 15) hx hb hts hiX0 hown hK hP 0 rfl rfl 12 (by decide) (hts (.fieldLink RX0 9 "TripReckoner$Ledger" "marks" "[J") (by decide +kernel)) (fun _ h9 => h9) rfl dX0_pass_73 ?_
  refine lv_iload hx hb dX0_pass_76 (lv_at hl 0 rfl) ?_
  refine lv_iconst (v := 4) hx hb dX0_pass_78 (by decide) ?_
  refine lv_iadd hx hb dX0_pass_79 ?_
  refine lv_topi (fun z_11 ez_11 => ?_)
  obtain rfl : z_11 = 4 := ez_11.trans (by decide +kernel)
  refine lv_dup2_11 hx hb dX0_pass_80 rfl rfl ?_
  refine va_lald hx hb hK hP 1 1 rfl rfl (vd (by decide +kernel)) dX0_pass_81 ?_
  refine lv_topl (fun z_12 ez_12 => ?_)
  have ez_12 : z_12 = g.2.2.2.2.2.2.2.2.2.2.2.2.1 4 := ez_12
  subst ez_12
  refine lv_iload hx hb dX0_pass_82 (lv_at hl 7 rfl) ?_
  refine lv_i2l (v := sec.toInt64) hx hb dX0_pass_84 rfl ?_
  refine lv_ladd hx hb dX0_pass_85 ?_
  refine va_last hx hb hK hP hD hS 1 1 rfl rfl (vd (by decide +kernel)) dX0_pass_86 (fun H locs hP hD hS => ?_)
  have hP : va_P (dC, dI) vwCl [(h0, .inr (0, [.int g.1, .int g.2.1, .int g.2.2.1, .int g.2.2.2.1, .int g.2.2.2.2.1, .int g.2.2.2.2.2.1, .int g.2.2.2.2.2.2.1, .int g.2.2.2.2.2.2.2.1, .int g.2.2.2.2.2.2.2.2.1, .int g.2.2.2.2.2.2.2.2.2.1, .long g.2.2.2.2.2.2.2.2.2.2.1, .long g.2.2.2.2.2.2.2.2.2.2.2.1, .ref h1, .ref h2, .ref h3])), (h1, .inl (cJ, 20, .inr (.inl (vp_updL (vp_updL (vp_updL (vp_updL (vp_updL g.2.2.2.2.2.2.2.2.2.2.2.2.1 0 ((g.2.2.2.2.2.2.2.2.2.2.2.2.1 0) + pl.toInt64)) 1 ((g.2.2.2.2.2.2.2.2.2.2.2.2.1 1) + pm.toInt64)) 2 ((g.2.2.2.2.2.2.2.2.2.2.2.2.1 2) + fl.toInt64)) 3 ((g.2.2.2.2.2.2.2.2.2.2.2.2.1 3) + fm.toInt64)) 4 ((g.2.2.2.2.2.2.2.2.2.2.2.2.1 4) + sec.toInt64))))), (h2, .inl (cI, 30, .inl g.2.2.2.2.2.2.2.2.2.2.2.2.2.1)), (h3, .inl (cI, 30, .inl g.2.2.2.2.2.2.2.2.2.2.2.2.2.2))] H := hP
  have hD : va_D A [(h0, .inr (0, [.int g.1, .int g.2.1, .int g.2.2.1, .int g.2.2.2.1, .int g.2.2.2.2.1, .int g.2.2.2.2.2.1, .int g.2.2.2.2.2.2.1, .int g.2.2.2.2.2.2.2.1, .int g.2.2.2.2.2.2.2.2.1, .int g.2.2.2.2.2.2.2.2.2.1, .long g.2.2.2.2.2.2.2.2.2.2.1, .long g.2.2.2.2.2.2.2.2.2.2.2.1, .ref h1, .ref h2, .ref h3])), (h1, .inl (cJ, 20, .inr (.inl (vp_updL (vp_updL (vp_updL (vp_updL (vp_updL g.2.2.2.2.2.2.2.2.2.2.2.2.1 0 ((g.2.2.2.2.2.2.2.2.2.2.2.2.1 0) + pl.toInt64)) 1 ((g.2.2.2.2.2.2.2.2.2.2.2.2.1 1) + pm.toInt64)) 2 ((g.2.2.2.2.2.2.2.2.2.2.2.2.1 2) + fl.toInt64)) 3 ((g.2.2.2.2.2.2.2.2.2.2.2.2.1 3) + fm.toInt64)) 4 ((g.2.2.2.2.2.2.2.2.2.2.2.2.1 4) + sec.toInt64))))), (h2, .inl (cI, 30, .inl g.2.2.2.2.2.2.2.2.2.2.2.2.2.1)), (h3, .inl (cI, 30, .inl g.2.2.2.2.2.2.2.2.2.2.2.2.2.2))] := hD
  refine lv_iinc (v := 1) (lv' := [(6, .int 1), (7, .int 0), (0, .ref h0), (1, .int pl), (2, .int pm), (3, .int fl), (4, .int fm), (5, .int sec)]) hx hb dX0_pass_87 hl (k := 1) rfl (by decide) (by decide) rfl (fun ls hl => ?_)
  refine lv_goto (tgt := 3) hx hb dX0_pass_90 (by decide) ?_
  refine lv_iload hx hb dX0_pass_3 (lv_at hl 0 rfl) ?_
  refine lv_iconst (v := 4) hx hb dX0_pass_5 (by decide) ?_
  refine lv_icmp_ge (tgt := 93) hx hb dX0_pass_6 (by decide) (fun c_13 => absurd c_13 (by decide)) (fun c_13 => ?_)
  refine lv_iload hx hb dX0_pass_9 (lv_at hl 0 rfl) ?_
  refine lv_iconst (v := 5) hx hb dX0_pass_11 (by decide) ?_
  refine lv_imul hx hb dX0_pass_12 ?_
  refine lv_topi (fun z_14 ez_14 => ?_)
  obtain rfl : z_14 = 5 := ez_14.trans (by decide +kernel)
  refine lv_istore (lv' := [(7, .int 5), (6, .int 1), (0, .ref h0), (1, .int pl), (2, .int pm), (3, .int fl), (4, .int fm), (5, .int sec)]) hx hb dX0_pass_13 hl (by decide) rfl (fun ls hl => ?_)
  refine lv_aload_n hx hb dX0_pass_15 rfl (lv_at hl 2 rfl) ?_
  refine va_get (D := (dC, dI)) (ci := 0) (v := .ref h1) (C := RX0) (T := TX0) (N := 15) hx hb hts hiX0 hown hK hP 0 rfl rfl 12 (by decide) (hts (.fieldLink RX0 9 "TripReckoner$Ledger" "marks" "[J") (by decide +kernel)) (fun _ h9 => h9) rfl dX0_pass_16 ?_
  refine lv_iload hx hb dX0_pass_19 (lv_at hl 0 rfl) ?_
  refine lv_iconst (v := 0) hx hb dX0_pass_21 (by decide) ?_
  refine lv_iadd hx hb dX0_pass_22 ?_
  refine lv_topi (fun z_15 ez_15 => ?_)
  obtain rfl : z_15 = 5 := ez_15.trans (by decide +kernel)
  refine lv_dup2_11 hx hb dX0_pass_23 rfl rfl ?_
  refine va_lald hx hb hK hP 1 1 rfl rfl (vd (by decide +kernel)) dX0_pass_24 ?_
  refine lv_topl (fun z_16 ez_16 => ?_)
  have ez_16 : z_16 = g.2.2.2.2.2.2.2.2.2.2.2.2.1 5 := ez_16
  subst ez_16
  refine lv_iload_n hx hb dX0_pass_25 rfl (lv_at hl 3 rfl) ?_
  refine lv_i2l (v := pl.toInt64) hx hb dX0_pass_26 rfl ?_
  refine lv_ladd hx hb dX0_pass_27 ?_
  refine va_last hx hb hK hP hD hS 1 1 rfl rfl (vd (by decide +kernel)) dX0_pass_28 (fun H locs hP hD hS => ?_)
  have hP : va_P (dC, dI) vwCl [(h0, .inr (0, [.int g.1, .int g.2.1, .int g.2.2.1, .int g.2.2.2.1, .int g.2.2.2.2.1, .int g.2.2.2.2.2.1, .int g.2.2.2.2.2.2.1, .int g.2.2.2.2.2.2.2.1, .int g.2.2.2.2.2.2.2.2.1, .int g.2.2.2.2.2.2.2.2.2.1, .long g.2.2.2.2.2.2.2.2.2.2.1, .long g.2.2.2.2.2.2.2.2.2.2.2.1, .ref h1, .ref h2, .ref h3])), (h1, .inl (cJ, 20, .inr (.inl (vp_updL (vp_updL (vp_updL (vp_updL (vp_updL (vp_updL g.2.2.2.2.2.2.2.2.2.2.2.2.1 0 ((g.2.2.2.2.2.2.2.2.2.2.2.2.1 0) + pl.toInt64)) 1 ((g.2.2.2.2.2.2.2.2.2.2.2.2.1 1) + pm.toInt64)) 2 ((g.2.2.2.2.2.2.2.2.2.2.2.2.1 2) + fl.toInt64)) 3 ((g.2.2.2.2.2.2.2.2.2.2.2.2.1 3) + fm.toInt64)) 4 ((g.2.2.2.2.2.2.2.2.2.2.2.2.1 4) + sec.toInt64)) 5 ((g.2.2.2.2.2.2.2.2.2.2.2.2.1 5) + pl.toInt64))))), (h2, .inl (cI, 30, .inl g.2.2.2.2.2.2.2.2.2.2.2.2.2.1)), (h3, .inl (cI, 30, .inl g.2.2.2.2.2.2.2.2.2.2.2.2.2.2))] H := hP
  have hD : va_D A [(h0, .inr (0, [.int g.1, .int g.2.1, .int g.2.2.1, .int g.2.2.2.1, .int g.2.2.2.2.1, .int g.2.2.2.2.2.1, .int g.2.2.2.2.2.2.1, .int g.2.2.2.2.2.2.2.1, .int g.2.2.2.2.2.2.2.2.1, .int g.2.2.2.2.2.2.2.2.2.1, .long g.2.2.2.2.2.2.2.2.2.2.1, .long g.2.2.2.2.2.2.2.2.2.2.2.1, .ref h1, .ref h2, .ref h3])), (h1, .inl (cJ, 20, .inr (.inl (vp_updL (vp_updL (vp_updL (vp_updL (vp_updL (vp_updL g.2.2.2.2.2.2.2.2.2.2.2.2.1 0 ((g.2.2.2.2.2.2.2.2.2.2.2.2.1 0) + pl.toInt64)) 1 ((g.2.2.2.2.2.2.2.2.2.2.2.2.1 1) + pm.toInt64)) 2 ((g.2.2.2.2.2.2.2.2.2.2.2.2.1 2) + fl.toInt64)) 3 ((g.2.2.2.2.2.2.2.2.2.2.2.2.1 3) + fm.toInt64)) 4 ((g.2.2.2.2.2.2.2.2.2.2.2.2.1 4) + sec.toInt64)) 5 ((g.2.2.2.2.2.2.2.2.2.2.2.2.1 5) + pl.toInt64))))), (h2, .inl (cI, 30, .inl g.2.2.2.2.2.2.2.2.2.2.2.2.2.1)), (h3, .inl (cI, 30, .inl g.2.2.2.2.2.2.2.2.2.2.2.2.2.2))] := hD
  refine lv_aload_n hx hb dX0_pass_29 rfl (lv_at hl 2 rfl) ?_
  refine va_get (D := (dC, dI)) (ci := 0) (v := .ref h1) (C := RX0) (T := TX0) (N := 15) hx hb hts hiX0 hown hK hP 0 rfl rfl 12 (by decide) (hts (.fieldLink RX0 9 "TripReckoner$Ledger" "marks" "[J") (by decide +kernel)) (fun _ h9 => h9) rfl dX0_pass_30 ?_
  refine lv_iload hx hb dX0_pass_33 (lv_at hl 0 rfl) ?_
  refine lv_iconst (v := 1) hx hb dX0_pass_35 (by decide) ?_
  refine lv_iadd hx hb dX0_pass_36 ?_
  refine lv_topi (fun z_17 ez_17 => ?_)
  obtain rfl : z_17 = 6 := ez_17.trans (by decide +kernel)
  refine lv_dup2_11 hx hb dX0_pass_37 rfl rfl ?_
  refine va_lald hx hb hK hP 1 1 rfl rfl (vd (by decide +kernel)) dX0_pass_38 ?_
  refine lv_topl (fun z_18 ez_18 => ?_)
  have ez_18 : z_18 = g.2.2.2.2.2.2.2.2.2.2.2.2.1 6 := ez_18
  subst ez_18
  refine lv_iload_n hx hb dX0_pass_39 rfl (lv_at hl 4 rfl) ?_
  refine lv_i2l (v := pm.toInt64) hx hb dX0_pass_40 rfl ?_
  refine lv_ladd hx hb dX0_pass_41 ?_
  refine va_last hx hb hK hP hD hS 1 1 rfl rfl (vd (by decide +kernel)) dX0_pass_42 (fun H locs hP hD hS => ?_)
  have hP : va_P (dC, dI) vwCl [(h0, .inr (0, [.int g.1, .int g.2.1, .int g.2.2.1, .int g.2.2.2.1, .int g.2.2.2.2.1, .int g.2.2.2.2.2.1, .int g.2.2.2.2.2.2.1, .int g.2.2.2.2.2.2.2.1, .int g.2.2.2.2.2.2.2.2.1, .int g.2.2.2.2.2.2.2.2.2.1, .long g.2.2.2.2.2.2.2.2.2.2.1, .long g.2.2.2.2.2.2.2.2.2.2.2.1, .ref h1, .ref h2, .ref h3])), (h1, .inl (cJ, 20, .inr (.inl (vp_updL (vp_updL (vp_updL (vp_updL (vp_updL (vp_updL (vp_updL g.2.2.2.2.2.2.2.2.2.2.2.2.1 0 ((g.2.2.2.2.2.2.2.2.2.2.2.2.1 0) + pl.toInt64)) 1 ((g.2.2.2.2.2.2.2.2.2.2.2.2.1 1) + pm.toInt64)) 2 ((g.2.2.2.2.2.2.2.2.2.2.2.2.1 2) + fl.toInt64)) 3 ((g.2.2.2.2.2.2.2.2.2.2.2.2.1 3) + fm.toInt64)) 4 ((g.2.2.2.2.2.2.2.2.2.2.2.2.1 4) + sec.toInt64)) 5 ((g.2.2.2.2.2.2.2.2.2.2.2.2.1 5) + pl.toInt64)) 6 ((g.2.2.2.2.2.2.2.2.2.2.2.2.1 6) + pm.toInt64))))), (h2, .inl (cI, 30, .inl g.2.2.2.2.2.2.2.2.2.2.2.2.2.1)), (h3, .inl (cI, 30, .inl g.2.2.2.2.2.2.2.2.2.2.2.2.2.2))] H := hP
  have hD : va_D A [(h0, .inr (0, [.int g.1, .int g.2.1, .int g.2.2.1, .int g.2.2.2.1, .int g.2.2.2.2.1, .int g.2.2.2.2.2.1, .int g.2.2.2.2.2.2.1, .int g.2.2.2.2.2.2.2.1, .int g.2.2.2.2.2.2.2.2.1, .int g.2.2.2.2.2.2.2.2.2.1, .long g.2.2.2.2.2.2.2.2.2.2.1, .long g.2.2.2.2.2.2.2.2.2.2.2.1, .ref h1, .ref h2, .ref h3])), (h1, .inl (cJ, 20, .inr (.inl (vp_updL (vp_updL (vp_updL (vp_updL (vp_updL (vp_updL (vp_updL g.2.2.2.2.2.2.2.2.2.2.2.2.1 0 ((g.2.2.2.2.2.2.2.2.2.2.2.2.1 0) + pl.toInt64)) 1 ((g.2.2.2.2.2.2.2.2.2.2.2.2.1 1) + pm.toInt64)) 2 ((g.2.2.2.2.2.2.2.2.2.2.2.2.1 2) + fl.toInt64)) 3 ((g.2.2.2.2.2.2.2.2.2.2.2.2.1 3) + fm.toInt64)) 4 ((g.2.2.2.2.2.2.2.2.2.2.2.2.1 4) + sec.toInt64)) 5 ((g.2.2.2.2.2.2.2.2.2.2.2.2.1 5) + pl.toInt64)) 6 ((g.2.2.2.2.2.2.2.2.2.2.2.2.1 6) + pm.toInt64))))), (h2, .inl (cI, 30, .inl g.2.2.2.2.2.2.2.2.2.2.2.2.2.1)), (h3, .inl (cI, 30, .inl g.2.2.2.2.2.2.2.2.2.2.2.2.2.2))] := hD
  refine lv_aload_n hx hb dX0_pass_43 rfl (lv_at hl 2 rfl) ?_
  refine va_get (D := (dC, dI)) (ci := 0) (v := .ref h1) (C := RX0) (T := TX0) (N := 15) hx hb hts hiX0 hown hK hP 0 rfl rfl 12 (by decide) (hts (.fieldLink RX0 9 "TripReckoner$Ledger" "marks" "[J") (by decide +kernel)) (fun _ h9 => h9) rfl dX0_pass_44 ?_
  refine lv_iload hx hb dX0_pass_47 (lv_at hl 0 rfl) ?_
  refine lv_iconst (v := 2) hx hb dX0_pass_49 (by decide) ?_
  refine lv_iadd hx hb dX0_pass_50 ?_
  refine lv_topi (fun z_19 ez_19 => ?_)
  obtain rfl : z_19 = 7 := ez_19.trans (by decide +kernel)
  refine lv_dup2_11 hx hb dX0_pass_51 rfl rfl ?_
  refine va_lald hx hb hK hP 1 1 rfl rfl (vd (by decide +kernel)) dX0_pass_52 ?_
  refine lv_topl (fun z_20 ez_20 => ?_)
  have ez_20 : z_20 = g.2.2.2.2.2.2.2.2.2.2.2.2.1 7 := ez_20
  subst ez_20
  refine lv_iload_n hx hb dX0_pass_53 rfl (lv_at hl 5 rfl) ?_
  refine lv_i2l (v := fl.toInt64) hx hb dX0_pass_54 rfl ?_
  refine lv_ladd hx hb dX0_pass_55 ?_
  refine va_last hx hb hK hP hD hS 1 1 rfl rfl (vd (by decide +kernel)) dX0_pass_56 (fun H locs hP hD hS => ?_)
  have hP : va_P (dC, dI) vwCl [(h0, .inr (0, [.int g.1, .int g.2.1, .int g.2.2.1, .int g.2.2.2.1, .int g.2.2.2.2.1, .int g.2.2.2.2.2.1, .int g.2.2.2.2.2.2.1, .int g.2.2.2.2.2.2.2.1, .int g.2.2.2.2.2.2.2.2.1, .int g.2.2.2.2.2.2.2.2.2.1, .long g.2.2.2.2.2.2.2.2.2.2.1, .long g.2.2.2.2.2.2.2.2.2.2.2.1, .ref h1, .ref h2, .ref h3])), (h1, .inl (cJ, 20, .inr (.inl (vp_updL (vp_updL (vp_updL (vp_updL (vp_updL (vp_updL (vp_updL (vp_updL g.2.2.2.2.2.2.2.2.2.2.2.2.1 0 ((g.2.2.2.2.2.2.2.2.2.2.2.2.1 0) + pl.toInt64)) 1 ((g.2.2.2.2.2.2.2.2.2.2.2.2.1 1) + pm.toInt64)) 2 ((g.2.2.2.2.2.2.2.2.2.2.2.2.1 2) + fl.toInt64)) 3 ((g.2.2.2.2.2.2.2.2.2.2.2.2.1 3) + fm.toInt64)) 4 ((g.2.2.2.2.2.2.2.2.2.2.2.2.1 4) + sec.toInt64)) 5 ((g.2.2.2.2.2.2.2.2.2.2.2.2.1 5) + pl.toInt64)) 6 ((g.2.2.2.2.2.2.2.2.2.2.2.2.1 6) + pm.toInt64)) 7 ((g.2.2.2.2.2.2.2.2.2.2.2.2.1 7) + fl.toInt64))))), (h2, .inl (cI, 30, .inl g.2.2.2.2.2.2.2.2.2.2.2.2.2.1)), (h3, .inl (cI, 30, .inl g.2.2.2.2.2.2.2.2.2.2.2.2.2.2))] H := hP
  have hD : va_D A [(h0, .inr (0, [.int g.1, .int g.2.1, .int g.2.2.1, .int g.2.2.2.1, .int g.2.2.2.2.1, .int g.2.2.2.2.2.1, .int g.2.2.2.2.2.2.1, .int g.2.2.2.2.2.2.2.1, .int g.2.2.2.2.2.2.2.2.1, .int g.2.2.2.2.2.2.2.2.2.1, .long g.2.2.2.2.2.2.2.2.2.2.1, .long g.2.2.2.2.2.2.2.2.2.2.2.1, .ref h1, .ref h2, .ref h3])), (h1, .inl (cJ, 20, .inr (.inl (vp_updL (vp_updL (vp_updL (vp_updL (vp_updL (vp_updL (vp_updL (vp_updL g.2.2.2.2.2.2.2.2.2.2.2.2.1 0 ((g.2.2.2.2.2.2.2.2.2.2.2.2.1 0) + pl.toInt64)) 1 ((g.2.2.2.2.2.2.2.2.2.2.2.2.1 1) + pm.toInt64)) 2 ((g.2.2.2.2.2.2.2.2.2.2.2.2.1 2) + fl.toInt64)) 3 ((g.2.2.2.2.2.2.2.2.2.2.2.2.1 3) + fm.toInt64)) 4 ((g.2.2.2.2.2.2.2.2.2.2.2.2.1 4) + sec.toInt64)) 5 ((g.2.2.2.2.2.2.2.2.2.2.2.2.1 5) + pl.toInt64)) 6 ((g.2.2.2.2.2.2.2.2.2.2.2.2.1 6) + pm.toInt64)) 7 ((g.2.2.2.2.2.2.2.2.2.2.2.2.1 7) + fl.toInt64))))), (h2, .inl (cI, 30, .inl g.2.2.2.2.2.2.2.2.2.2.2.2.2.1)), (h3, .inl (cI, 30, .inl g.2.2.2.2.2.2.2.2.2.2.2.2.2.2))] := hD
  refine lv_aload_n hx hb dX0_pass_57 rfl (lv_at hl 2 rfl) ?_
  refine va_get (D := (dC, dI)) (ci := 0) (v := .ref h1) (C := RX0) (T := TX0) (N := 15) hx hb hts hiX0 hown hK hP 0 rfl rfl 12 (by decide) (hts (.fieldLink RX0 9 "TripReckoner$Ledger" "marks" "[J") (by decide +kernel)) (fun _ h9 => h9) rfl dX0_pass_58 ?_
  refine lv_iload hx hb dX0_pass_61 (lv_at hl 0 rfl) ?_
  refine lv_iconst (v := 3) hx hb dX0_pass_63 (by decide) ?_
  refine lv_iadd hx hb dX0_pass_64 ?_
  refine lv_topi (fun z_21 ez_21 => ?_)
  obtain rfl : z_21 = 8 := ez_21.trans (by decide +kernel)
  refine lv_dup2_11 hx hb dX0_pass_65 rfl rfl ?_
  refine va_lald hx hb hK hP 1 1 rfl rfl (vd (by decide +kernel)) dX0_pass_66 ?_
  refine lv_topl (fun z_22 ez_22 => ?_)
  have ez_22 : z_22 = g.2.2.2.2.2.2.2.2.2.2.2.2.1 8 := ez_22
  subst ez_22
  refine lv_iload hx hb dX0_pass_67 (lv_at hl 6 rfl) ?_
  refine lv_i2l (v := fm.toInt64) hx hb dX0_pass_69 rfl ?_
  refine lv_ladd hx hb dX0_pass_70 ?_
  refine va_last hx hb hK hP hD hS 1 1 rfl rfl (vd (by decide +kernel)) dX0_pass_71 (fun H locs hP hD hS => ?_)
  have hP : va_P (dC, dI) vwCl [(h0, .inr (0, [.int g.1, .int g.2.1, .int g.2.2.1, .int g.2.2.2.1, .int g.2.2.2.2.1, .int g.2.2.2.2.2.1, .int g.2.2.2.2.2.2.1, .int g.2.2.2.2.2.2.2.1, .int g.2.2.2.2.2.2.2.2.1, .int g.2.2.2.2.2.2.2.2.2.1, .long g.2.2.2.2.2.2.2.2.2.2.1, .long g.2.2.2.2.2.2.2.2.2.2.2.1, .ref h1, .ref h2, .ref h3])), (h1, .inl (cJ, 20, .inr (.inl (vp_updL (vp_updL (vp_updL (vp_updL (vp_updL (vp_updL (vp_updL (vp_updL (vp_updL g.2.2.2.2.2.2.2.2.2.2.2.2.1 0 ((g.2.2.2.2.2.2.2.2.2.2.2.2.1 0) + pl.toInt64)) 1 ((g.2.2.2.2.2.2.2.2.2.2.2.2.1 1) + pm.toInt64)) 2 ((g.2.2.2.2.2.2.2.2.2.2.2.2.1 2) + fl.toInt64)) 3 ((g.2.2.2.2.2.2.2.2.2.2.2.2.1 3) + fm.toInt64)) 4 ((g.2.2.2.2.2.2.2.2.2.2.2.2.1 4) + sec.toInt64)) 5 ((g.2.2.2.2.2.2.2.2.2.2.2.2.1 5) + pl.toInt64)) 6 ((g.2.2.2.2.2.2.2.2.2.2.2.2.1 6) + pm.toInt64)) 7 ((g.2.2.2.2.2.2.2.2.2.2.2.2.1 7) + fl.toInt64)) 8 ((g.2.2.2.2.2.2.2.2.2.2.2.2.1 8) + fm.toInt64))))), (h2, .inl (cI, 30, .inl g.2.2.2.2.2.2.2.2.2.2.2.2.2.1)), (h3, .inl (cI, 30, .inl g.2.2.2.2.2.2.2.2.2.2.2.2.2.2))] H := hP
  have hD : va_D A [(h0, .inr (0, [.int g.1, .int g.2.1, .int g.2.2.1, .int g.2.2.2.1, .int g.2.2.2.2.1, .int g.2.2.2.2.2.1, .int g.2.2.2.2.2.2.1, .int g.2.2.2.2.2.2.2.1, .int g.2.2.2.2.2.2.2.2.1, .int g.2.2.2.2.2.2.2.2.2.1, .long g.2.2.2.2.2.2.2.2.2.2.1, .long g.2.2.2.2.2.2.2.2.2.2.2.1, .ref h1, .ref h2, .ref h3])), (h1, .inl (cJ, 20, .inr (.inl (vp_updL (vp_updL (vp_updL (vp_updL (vp_updL (vp_updL (vp_updL (vp_updL (vp_updL g.2.2.2.2.2.2.2.2.2.2.2.2.1 0 ((g.2.2.2.2.2.2.2.2.2.2.2.2.1 0) + pl.toInt64)) 1 ((g.2.2.2.2.2.2.2.2.2.2.2.2.1 1) + pm.toInt64)) 2 ((g.2.2.2.2.2.2.2.2.2.2.2.2.1 2) + fl.toInt64)) 3 ((g.2.2.2.2.2.2.2.2.2.2.2.2.1 3) + fm.toInt64)) 4 ((g.2.2.2.2.2.2.2.2.2.2.2.2.1 4) + sec.toInt64)) 5 ((g.2.2.2.2.2.2.2.2.2.2.2.2.1 5) + pl.toInt64)) 6 ((g.2.2.2.2.2.2.2.2.2.2.2.2.1 6) + pm.toInt64)) 7 ((g.2.2.2.2.2.2.2.2.2.2.2.2.1 7) + fl.toInt64)) 8 ((g.2.2.2.2.2.2.2.2.2.2.2.2.1 8) + fm.toInt64))))), (h2, .inl (cI, 30, .inl g.2.2.2.2.2.2.2.2.2.2.2.2.2.1)), (h3, .inl (cI, 30, .inl g.2.2.2.2.2.2.2.2.2.2.2.2.2.2))] := hD
  refine lv_aload_n hx hb dX0_pass_72 rfl (lv_at hl 2 rfl) ?_
  refine va_get (D := (dC, dI)) (ci := 0) (v := .ref h1) (C := RX0) (T := TX0) (N := 15) hx hb hts hiX0 hown hK hP 0 rfl rfl 12 (by decide) (hts (.fieldLink RX0 9 "TripReckoner$Ledger" "marks" "[J") (by decide +kernel)) (fun _ h9 => h9) rfl dX0_pass_73 ?_
  refine lv_iload hx hb dX0_pass_76 (lv_at hl 0 rfl) ?_
  refine lv_iconst (v := 4) hx hb dX0_pass_78 (by decide) ?_
  refine lv_iadd hx hb dX0_pass_79 ?_
  refine lv_topi (fun z_23 ez_23 => ?_)
  obtain rfl : z_23 = 9 := ez_23.trans (by decide +kernel)
  refine lv_dup2_11 hx hb dX0_pass_80 rfl rfl ?_
  refine va_lald hx hb hK hP 1 1 rfl rfl (vd (by decide +kernel)) dX0_pass_81 ?_
  refine lv_topl (fun z_24 ez_24 => ?_)
  have ez_24 : z_24 = g.2.2.2.2.2.2.2.2.2.2.2.2.1 9 := ez_24
  subst ez_24
  refine lv_iload hx hb dX0_pass_82 (lv_at hl 7 rfl) ?_
  refine lv_i2l (v := sec.toInt64) hx hb dX0_pass_84 rfl ?_
  refine lv_ladd hx hb dX0_pass_85 ?_
  refine va_last hx hb hK hP hD hS 1 1 rfl rfl (vd (by decide +kernel)) dX0_pass_86 (fun H locs hP hD hS => ?_)
  have hP : va_P (dC, dI) vwCl [(h0, .inr (0, [.int g.1, .int g.2.1, .int g.2.2.1, .int g.2.2.2.1, .int g.2.2.2.2.1, .int g.2.2.2.2.2.1, .int g.2.2.2.2.2.2.1, .int g.2.2.2.2.2.2.2.1, .int g.2.2.2.2.2.2.2.2.1, .int g.2.2.2.2.2.2.2.2.2.1, .long g.2.2.2.2.2.2.2.2.2.2.1, .long g.2.2.2.2.2.2.2.2.2.2.2.1, .ref h1, .ref h2, .ref h3])), (h1, .inl (cJ, 20, .inr (.inl (vp_updL (vp_updL (vp_updL (vp_updL (vp_updL (vp_updL (vp_updL (vp_updL (vp_updL (vp_updL g.2.2.2.2.2.2.2.2.2.2.2.2.1 0 ((g.2.2.2.2.2.2.2.2.2.2.2.2.1 0) + pl.toInt64)) 1 ((g.2.2.2.2.2.2.2.2.2.2.2.2.1 1) + pm.toInt64)) 2 ((g.2.2.2.2.2.2.2.2.2.2.2.2.1 2) + fl.toInt64)) 3 ((g.2.2.2.2.2.2.2.2.2.2.2.2.1 3) + fm.toInt64)) 4 ((g.2.2.2.2.2.2.2.2.2.2.2.2.1 4) + sec.toInt64)) 5 ((g.2.2.2.2.2.2.2.2.2.2.2.2.1 5) + pl.toInt64)) 6 ((g.2.2.2.2.2.2.2.2.2.2.2.2.1 6) + pm.toInt64)) 7 ((g.2.2.2.2.2.2.2.2.2.2.2.2.1 7) + fl.toInt64)) 8 ((g.2.2.2.2.2.2.2.2.2.2.2.2.1 8) + fm.toInt64)) 9 ((g.2.2.2.2.2.2.2.2.2.2.2.2.1 9) + sec.toInt64))))), (h2, .inl (cI, 30, .inl g.2.2.2.2.2.2.2.2.2.2.2.2.2.1)), (h3, .inl (cI, 30, .inl g.2.2.2.2.2.2.2.2.2.2.2.2.2.2))] H := hP
  have hD : va_D A [(h0, .inr (0, [.int g.1, .int g.2.1, .int g.2.2.1, .int g.2.2.2.1, .int g.2.2.2.2.1, .int g.2.2.2.2.2.1, .int g.2.2.2.2.2.2.1, .int g.2.2.2.2.2.2.2.1, .int g.2.2.2.2.2.2.2.2.1, .int g.2.2.2.2.2.2.2.2.2.1, .long g.2.2.2.2.2.2.2.2.2.2.1, .long g.2.2.2.2.2.2.2.2.2.2.2.1, .ref h1, .ref h2, .ref h3])), (h1, .inl (cJ, 20, .inr (.inl (vp_updL (vp_updL (vp_updL (vp_updL (vp_updL (vp_updL (vp_updL (vp_updL (vp_updL (vp_updL g.2.2.2.2.2.2.2.2.2.2.2.2.1 0 ((g.2.2.2.2.2.2.2.2.2.2.2.2.1 0) + pl.toInt64)) 1 ((g.2.2.2.2.2.2.2.2.2.2.2.2.1 1) + pm.toInt64)) 2 ((g.2.2.2.2.2.2.2.2.2.2.2.2.1 2) + fl.toInt64)) 3 ((g.2.2.2.2.2.2.2.2.2.2.2.2.1 3) + fm.toInt64)) 4 ((g.2.2.2.2.2.2.2.2.2.2.2.2.1 4) + sec.toInt64)) 5 ((g.2.2.2.2.2.2.2.2.2.2.2.2.1 5) + pl.toInt64)) 6 ((g.2.2.2.2.2.2.2.2.2.2.2.2.1 6) + pm.toInt64)) 7 ((g.2.2.2.2.2.2.2.2.2.2.2.2.1 7) + fl.toInt64)) 8 ((g.2.2.2.2.2.2.2.2.2.2.2.2.1 8) + fm.toInt64)) 9 ((g.2.2.2.2.2.2.2.2.2.2.2.2.1 9) + sec.toInt64))))), (h2, .inl (cI, 30, .inl g.2.2.2.2.2.2.2.2.2.2.2.2.2.1)), (h3, .inl (cI, 30, .inl g.2.2.2.2.2.2.2.2.2.2.2.2.2.2))] := hD
  refine lv_iinc (v := 2) (lv' := [(6, .int 2), (7, .int 5), (0, .ref h0), (1, .int pl), (2, .int pm), (3, .int fl), (4, .int fm), (5, .int sec)]) hx hb dX0_pass_87 hl (k := 1) rfl (by decide) (by decide) rfl (fun ls hl => ?_)
  refine lv_goto (tgt := 3) hx hb dX0_pass_90 (by decide) ?_
  refine lv_iload hx hb dX0_pass_3 (lv_at hl 0 rfl) ?_
  refine lv_iconst (v := 4) hx hb dX0_pass_5 (by decide) ?_
  refine lv_icmp_ge (tgt := 93) hx hb dX0_pass_6 (by decide) (fun c_25 => absurd c_25 (by decide)) (fun c_25 => ?_)
  refine lv_iload hx hb dX0_pass_9 (lv_at hl 0 rfl) ?_
  refine lv_iconst (v := 5) hx hb dX0_pass_11 (by decide) ?_
  refine lv_imul hx hb dX0_pass_12 ?_
  refine lv_topi (fun z_26 ez_26 => ?_)
  obtain rfl : z_26 = 10 := ez_26.trans (by decide +kernel)
  refine lv_istore (lv' := [(7, .int 10), (6, .int 2), (0, .ref h0), (1, .int pl), (2, .int pm), (3, .int fl), (4, .int fm), (5, .int sec)]) hx hb dX0_pass_13 hl (by decide) rfl (fun ls hl => ?_)
  refine lv_aload_n hx hb dX0_pass_15 rfl (lv_at hl 2 rfl) ?_
  refine va_get (D := (dC, dI)) (ci := 0) (v := .ref h1) (C := RX0) (T := TX0) (N := 15) hx hb hts hiX0 hown hK hP 0 rfl rfl 12 (by decide) (hts (.fieldLink RX0 9 "TripReckoner$Ledger" "marks" "[J") (by decide +kernel)) (fun _ h9 => h9) rfl dX0_pass_16 ?_
  refine lv_iload hx hb dX0_pass_19 (lv_at hl 0 rfl) ?_
  refine lv_iconst (v := 0) hx hb dX0_pass_21 (by decide) ?_
  refine lv_iadd hx hb dX0_pass_22 ?_
  refine lv_topi (fun z_27 ez_27 => ?_)
  obtain rfl : z_27 = 10 := ez_27.trans (by decide +kernel)
  refine lv_dup2_11 hx hb dX0_pass_23 rfl rfl ?_
  refine va_lald hx hb hK hP 1 1 rfl rfl (vd (by decide +kernel)) dX0_pass_24 ?_
  refine lv_topl (fun z_28 ez_28 => ?_)
  have ez_28 : z_28 = g.2.2.2.2.2.2.2.2.2.2.2.2.1 10 := ez_28
  subst ez_28
  refine lv_iload_n hx hb dX0_pass_25 rfl (lv_at hl 3 rfl) ?_
  refine lv_i2l (v := pl.toInt64) hx hb dX0_pass_26 rfl ?_
  refine lv_ladd hx hb dX0_pass_27 ?_
  refine va_last hx hb hK hP hD hS 1 1 rfl rfl (vd (by decide +kernel)) dX0_pass_28 (fun H locs hP hD hS => ?_)
  have hP : va_P (dC, dI) vwCl [(h0, .inr (0, [.int g.1, .int g.2.1, .int g.2.2.1, .int g.2.2.2.1, .int g.2.2.2.2.1, .int g.2.2.2.2.2.1, .int g.2.2.2.2.2.2.1, .int g.2.2.2.2.2.2.2.1, .int g.2.2.2.2.2.2.2.2.1, .int g.2.2.2.2.2.2.2.2.2.1, .long g.2.2.2.2.2.2.2.2.2.2.1, .long g.2.2.2.2.2.2.2.2.2.2.2.1, .ref h1, .ref h2, .ref h3])), (h1, .inl (cJ, 20, .inr (.inl (vp_updL (vp_updL (vp_updL (vp_updL (vp_updL (vp_updL (vp_updL (vp_updL (vp_updL (vp_updL (vp_updL g.2.2.2.2.2.2.2.2.2.2.2.2.1 0 ((g.2.2.2.2.2.2.2.2.2.2.2.2.1 0) + pl.toInt64)) 1 ((g.2.2.2.2.2.2.2.2.2.2.2.2.1 1) + pm.toInt64)) 2 ((g.2.2.2.2.2.2.2.2.2.2.2.2.1 2) + fl.toInt64)) 3 ((g.2.2.2.2.2.2.2.2.2.2.2.2.1 3) + fm.toInt64)) 4 ((g.2.2.2.2.2.2.2.2.2.2.2.2.1 4) + sec.toInt64)) 5 ((g.2.2.2.2.2.2.2.2.2.2.2.2.1 5) + pl.toInt64)) 6 ((g.2.2.2.2.2.2.2.2.2.2.2.2.1 6) + pm.toInt64)) 7 ((g.2.2.2.2.2.2.2.2.2.2.2.2.1 7) + fl.toInt64)) 8 ((g.2.2.2.2.2.2.2.2.2.2.2.2.1 8) + fm.toInt64)) 9 ((g.2.2.2.2.2.2.2.2.2.2.2.2.1 9) + sec.toInt64)) 10 ((g.2.2.2.2.2.2.2.2.2.2.2.2.1 10) + pl.toInt64))))), (h2, .inl (cI, 30, .inl g.2.2.2.2.2.2.2.2.2.2.2.2.2.1)), (h3, .inl (cI, 30, .inl g.2.2.2.2.2.2.2.2.2.2.2.2.2.2))] H := hP
  have hD : va_D A [(h0, .inr (0, [.int g.1, .int g.2.1, .int g.2.2.1, .int g.2.2.2.1, .int g.2.2.2.2.1, .int g.2.2.2.2.2.1, .int g.2.2.2.2.2.2.1, .int g.2.2.2.2.2.2.2.1, .int g.2.2.2.2.2.2.2.2.1, .int g.2.2.2.2.2.2.2.2.2.1, .long g.2.2.2.2.2.2.2.2.2.2.1, .long g.2.2.2.2.2.2.2.2.2.2.2.1, .ref h1, .ref h2, .ref h3])), (h1, .inl (cJ, 20, .inr (.inl (vp_updL (vp_updL (vp_updL (vp_updL (vp_updL (vp_updL (vp_updL (vp_updL (vp_updL (vp_updL (vp_updL g.2.2.2.2.2.2.2.2.2.2.2.2.1 0 ((g.2.2.2.2.2.2.2.2.2.2.2.2.1 0) + pl.toInt64)) 1 ((g.2.2.2.2.2.2.2.2.2.2.2.2.1 1) + pm.toInt64)) 2 ((g.2.2.2.2.2.2.2.2.2.2.2.2.1 2) + fl.toInt64)) 3 ((g.2.2.2.2.2.2.2.2.2.2.2.2.1 3) + fm.toInt64)) 4 ((g.2.2.2.2.2.2.2.2.2.2.2.2.1 4) + sec.toInt64)) 5 ((g.2.2.2.2.2.2.2.2.2.2.2.2.1 5) + pl.toInt64)) 6 ((g.2.2.2.2.2.2.2.2.2.2.2.2.1 6) + pm.toInt64)) 7 ((g.2.2.2.2.2.2.2.2.2.2.2.2.1 7) + fl.toInt64)) 8 ((g.2.2.2.2.2.2.2.2.2.2.2.2.1 8) + fm.toInt64)) 9 ((g.2.2.2.2.2.2.2.2.2.2.2.2.1 9) + sec.toInt64)) 10 ((g.2.2.2.2.2.2.2.2.2.2.2.2.1 10) + pl.toInt64))))), (h2, .inl (cI, 30, .inl g.2.2.2.2.2.2.2.2.2.2.2.2.2.1)), (h3, .inl (cI, 30, .inl g.2.2.2.2.2.2.2.2.2.2.2.2.2.2))] := hD
  refine lv_aload_n hx hb dX0_pass_29 rfl (lv_at hl 2 rfl) ?_
  refine va_get (D := (dC, dI)) (ci := 0) (v := .ref h1) (C := RX0) (T := TX0) (N := 15) hx hb hts hiX0 hown hK hP 0 rfl rfl 12 (by decide) (hts (.fieldLink RX0 9 "TripReckoner$Ledger" "marks" "[J") (by decide +kernel)) (fun _ h9 => h9) rfl dX0_pass_30 ?_
  refine lv_iload hx hb dX0_pass_33 (lv_at hl 0 rfl) ?_
  refine lv_iconst (v := 1) hx hb dX0_pass_35 (by decide) ?_
  refine lv_iadd hx hb dX0_pass_36 ?_
  refine lv_topi (fun z_29 ez_29 => ?_)
  obtain rfl : z_29 = 11 := ez_29.trans (by decide +kernel)
  refine lv_dup2_11 hx hb dX0_pass_37 rfl rfl ?_
  refine va_lald hx hb hK hP 1 1 rfl rfl (vd (by decide +kernel)) dX0_pass_38 ?_
  refine lv_topl (fun z_30 ez_30 => ?_)
  have ez_30 : z_30 = g.2.2.2.2.2.2.2.2.2.2.2.2.1 11 := ez_30
  subst ez_30
  refine lv_iload_n hx hb dX0_pass_39 rfl (lv_at hl 4 rfl) ?_
  refine lv_i2l (v := pm.toInt64) hx hb dX0_pass_40 rfl ?_
  refine lv_ladd hx hb dX0_pass_41 ?_
  refine va_last hx hb hK hP hD hS 1 1 rfl rfl (vd (by decide +kernel)) dX0_pass_42 (fun H locs hP hD hS => ?_)
  have hP : va_P (dC, dI) vwCl [(h0, .inr (0, [.int g.1, .int g.2.1, .int g.2.2.1, .int g.2.2.2.1, .int g.2.2.2.2.1, .int g.2.2.2.2.2.1, .int g.2.2.2.2.2.2.1, .int g.2.2.2.2.2.2.2.1, .int g.2.2.2.2.2.2.2.2.1, .int g.2.2.2.2.2.2.2.2.2.1, .long g.2.2.2.2.2.2.2.2.2.2.1, .long g.2.2.2.2.2.2.2.2.2.2.2.1, .ref h1, .ref h2, .ref h3])), (h1, .inl (cJ, 20, .inr (.inl (vp_updL (vp_updL (vp_updL (vp_updL (vp_updL (vp_updL (vp_updL (vp_updL (vp_updL (vp_updL (vp_updL (vp_updL g.2.2.2.2.2.2.2.2.2.2.2.2.1 0 ((g.2.2.2.2.2.2.2.2.2.2.2.2.1 0) + pl.toInt64)) 1 ((g.2.2.2.2.2.2.2.2.2.2.2.2.1 1) + pm.toInt64)) 2 ((g.2.2.2.2.2.2.2.2.2.2.2.2.1 2) + fl.toInt64)) 3 ((g.2.2.2.2.2.2.2.2.2.2.2.2.1 3) + fm.toInt64)) 4 ((g.2.2.2.2.2.2.2.2.2.2.2.2.1 4) + sec.toInt64)) 5 ((g.2.2.2.2.2.2.2.2.2.2.2.2.1 5) + pl.toInt64)) 6 ((g.2.2.2.2.2.2.2.2.2.2.2.2.1 6) + pm.toInt64)) 7 ((g.2.2.2.2.2.2.2.2.2.2.2.2.1 7) + fl.toInt64)) 8 ((g.2.2.2.2.2.2.2.2.2.2.2.2.1 8) + fm.toInt64)) 9 ((g.2.2.2.2.2.2.2.2.2.2.2.2.1 9) + sec.toInt64)) 10 ((g.2.2.2.2.2.2.2.2.2.2.2.2.1 10) + pl.toInt64)) 11 ((g.2.2.2.2.2.2.2.2.2.2.2.2.1 11) + pm.toInt64))))), (h2, .inl (cI, 30, .inl g.2.2.2.2.2.2.2.2.2.2.2.2.2.1)), (h3, .inl (cI, 30, .inl g.2.2.2.2.2.2.2.2.2.2.2.2.2.2))] H := hP
  have hD : va_D A [(h0, .inr (0, [.int g.1, .int g.2.1, .int g.2.2.1, .int g.2.2.2.1, .int g.2.2.2.2.1, .int g.2.2.2.2.2.1, .int g.2.2.2.2.2.2.1, .int g.2.2.2.2.2.2.2.1, .int g.2.2.2.2.2.2.2.2.1, .int g.2.2.2.2.2.2.2.2.2.1, .long g.2.2.2.2.2.2.2.2.2.2.1, .long g.2.2.2.2.2.2.2.2.2.2.2.1, .ref h1, .ref h2, .ref h3])), (h1, .inl (cJ, 20, .inr (.inl (vp_updL (vp_updL (vp_updL (vp_updL (vp_updL (vp_updL (vp_updL (vp_updL (vp_updL (vp_updL (vp_updL (vp_updL g.2.2.2.2.2.2.2.2.2.2.2.2.1 0 ((g.2.2.2.2.2.2.2.2.2.2.2.2.1 0) + pl.toInt64)) 1 ((g.2.2.2.2.2.2.2.2.2.2.2.2.1 1) + pm.toInt64)) 2 ((g.2.2.2.2.2.2.2.2.2.2.2.2.1 2) + fl.toInt64)) 3 ((g.2.2.2.2.2.2.2.2.2.2.2.2.1 3) + fm.toInt64)) 4 ((g.2.2.2.2.2.2.2.2.2.2.2.2.1 4) + sec.toInt64)) 5 ((g.2.2.2.2.2.2.2.2.2.2.2.2.1 5) + pl.toInt64)) 6 ((g.2.2.2.2.2.2.2.2.2.2.2.2.1 6) + pm.toInt64)) 7 ((g.2.2.2.2.2.2.2.2.2.2.2.2.1 7) + fl.toInt64)) 8 ((g.2.2.2.2.2.2.2.2.2.2.2.2.1 8) + fm.toInt64)) 9 ((g.2.2.2.2.2.2.2.2.2.2.2.2.1 9) + sec.toInt64)) 10 ((g.2.2.2.2.2.2.2.2.2.2.2.2.1 10) + pl.toInt64)) 11 ((g.2.2.2.2.2.2.2.2.2.2.2.2.1 11) + pm.toInt64))))), (h2, .inl (cI, 30, .inl g.2.2.2.2.2.2.2.2.2.2.2.2.2.1)), (h3, .inl (cI, 30, .inl g.2.2.2.2.2.2.2.2.2.2.2.2.2.2))] := hD
  refine lv_aload_n hx hb dX0_pass_43 rfl (lv_at hl 2 rfl) ?_
  refine va_get (D := (dC, dI)) (ci := 0) (v := .ref h1) (C := RX0) (T := TX0) (N := 15) hx hb hts hiX0 hown hK hP 0 rfl rfl 12 (by decide) (hts (.fieldLink RX0 9 "TripReckoner$Ledger" "marks" "[J") (by decide +kernel)) (fun _ h9 => h9) rfl dX0_pass_44 ?_
  refine lv_iload hx hb dX0_pass_47 (lv_at hl 0 rfl) ?_
  refine lv_iconst (v := 2) hx hb dX0_pass_49 (by decide) ?_
  refine lv_iadd hx hb dX0_pass_50 ?_
  refine lv_topi (fun z_31 ez_31 => ?_)
  obtain rfl : z_31 = 12 := ez_31.trans (by decide +kernel)
  refine lv_dup2_11 hx hb dX0_pass_51 rfl rfl ?_
  refine va_lald hx hb hK hP 1 1 rfl rfl (vd (by decide +kernel)) dX0_pass_52 ?_
  refine lv_topl (fun z_32 ez_32 => ?_)
  have ez_32 : z_32 = g.2.2.2.2.2.2.2.2.2.2.2.2.1 12 := ez_32
  subst ez_32
  refine lv_iload_n hx hb dX0_pass_53 rfl (lv_at hl 5 rfl) ?_
  refine lv_i2l (v := fl.toInt64) hx hb dX0_pass_54 rfl ?_
  refine lv_ladd hx hb dX0_pass_55 ?_
  refine va_last hx hb hK hP hD hS 1 1 rfl rfl (vd (by decide +kernel)) dX0_pass_56 (fun H locs hP hD hS => ?_)
  have hP : va_P (dC, dI) vwCl [(h0, .inr (0, [.int g.1, .int g.2.1, .int g.2.2.1, .int g.2.2.2.1, .int g.2.2.2.2.1, .int g.2.2.2.2.2.1, .int g.2.2.2.2.2.2.1, .int g.2.2.2.2.2.2.2.1, .int g.2.2.2.2.2.2.2.2.1, .int g.2.2.2.2.2.2.2.2.2.1, .long g.2.2.2.2.2.2.2.2.2.2.1, .long g.2.2.2.2.2.2.2.2.2.2.2.1, .ref h1, .ref h2, .ref h3])), (h1, .inl (cJ, 20, .inr (.inl (vp_updL (vp_updL (vp_updL (vp_updL (vp_updL (vp_updL (vp_updL (vp_updL (vp_updL (vp_updL (vp_updL (vp_updL (vp_updL g.2.2.2.2.2.2.2.2.2.2.2.2.1 0 ((g.2.2.2.2.2.2.2.2.2.2.2.2.1 0) + pl.toInt64)) 1 ((g.2.2.2.2.2.2.2.2.2.2.2.2.1 1) + pm.toInt64)) 2 ((g.2.2.2.2.2.2.2.2.2.2.2.2.1 2) + fl.toInt64)) 3 ((g.2.2.2.2.2.2.2.2.2.2.2.2.1 3) + fm.toInt64)) 4 ((g.2.2.2.2.2.2.2.2.2.2.2.2.1 4) + sec.toInt64)) 5 ((g.2.2.2.2.2.2.2.2.2.2.2.2.1 5) + pl.toInt64)) 6 ((g.2.2.2.2.2.2.2.2.2.2.2.2.1 6) + pm.toInt64)) 7 ((g.2.2.2.2.2.2.2.2.2.2.2.2.1 7) + fl.toInt64)) 8 ((g.2.2.2.2.2.2.2.2.2.2.2.2.1 8) + fm.toInt64)) 9 ((g.2.2.2.2.2.2.2.2.2.2.2.2.1 9) + sec.toInt64)) 10 ((g.2.2.2.2.2.2.2.2.2.2.2.2.1 10) + pl.toInt64)) 11 ((g.2.2.2.2.2.2.2.2.2.2.2.2.1 11) + pm.toInt64)) 12 ((g.2.2.2.2.2.2.2.2.2.2.2.2.1 12) + fl.toInt64))))), (h2, .inl (cI, 30, .inl g.2.2.2.2.2.2.2.2.2.2.2.2.2.1)), (h3, .inl (cI, 30, .inl g.2.2.2.2.2.2.2.2.2.2.2.2.2.2))] H := hP
  have hD : va_D A [(h0, .inr (0, [.int g.1, .int g.2.1, .int g.2.2.1, .int g.2.2.2.1, .int g.2.2.2.2.1, .int g.2.2.2.2.2.1, .int g.2.2.2.2.2.2.1, .int g.2.2.2.2.2.2.2.1, .int g.2.2.2.2.2.2.2.2.1, .int g.2.2.2.2.2.2.2.2.2.1, .long g.2.2.2.2.2.2.2.2.2.2.1, .long g.2.2.2.2.2.2.2.2.2.2.2.1, .ref h1, .ref h2, .ref h3])), (h1, .inl (cJ, 20, .inr (.inl (vp_updL (vp_updL (vp_updL (vp_updL (vp_updL (vp_updL (vp_updL (vp_updL (vp_updL (vp_updL (vp_updL (vp_updL (vp_updL g.2.2.2.2.2.2.2.2.2.2.2.2.1 0 ((g.2.2.2.2.2.2.2.2.2.2.2.2.1 0) + pl.toInt64)) 1 ((g.2.2.2.2.2.2.2.2.2.2.2.2.1 1) + pm.toInt64)) 2 ((g.2.2.2.2.2.2.2.2.2.2.2.2.1 2) + fl.toInt64)) 3 ((g.2.2.2.2.2.2.2.2.2.2.2.2.1 3) + fm.toInt64)) 4 ((g.2.2.2.2.2.2.2.2.2.2.2.2.1 4) + sec.toInt64)) 5 ((g.2.2.2.2.2.2.2.2.2.2.2.2.1 5) + pl.toInt64)) 6 ((g.2.2.2.2.2.2.2.2.2.2.2.2.1 6) + pm.toInt64)) 7 ((g.2.2.2.2.2.2.2.2.2.2.2.2.1 7) + fl.toInt64)) 8 ((g.2.2.2.2.2.2.2.2.2.2.2.2.1 8) + fm.toInt64)) 9 ((g.2.2.2.2.2.2.2.2.2.2.2.2.1 9) + sec.toInt64)) 10 ((g.2.2.2.2.2.2.2.2.2.2.2.2.1 10) + pl.toInt64)) 11 ((g.2.2.2.2.2.2.2.2.2.2.2.2.1 11) + pm.toInt64)) 12 ((g.2.2.2.2.2.2.2.2.2.2.2.2.1 12) + fl.toInt64))))), (h2, .inl (cI, 30, .inl g.2.2.2.2.2.2.2.2.2.2.2.2.2.1)), (h3, .inl (cI, 30, .inl g.2.2.2.2.2.2.2.2.2.2.2.2.2.2))] := hD
  refine lv_aload_n hx hb dX0_pass_57 rfl (lv_at hl 2 rfl) ?_
  refine va_get (D := (dC, dI)) (ci := 0) (v := .ref h1) (C := RX0) (T := TX0) (N := 15) hx hb hts hiX0 hown hK hP 0 rfl rfl 12 (by decide) (hts (.fieldLink RX0 9 "TripReckoner$Ledger" "marks" "[J") (by decide +kernel)) (fun _ h9 => h9) rfl dX0_pass_58 ?_
  refine lv_iload hx hb dX0_pass_61 (lv_at hl 0 rfl) ?_
  refine lv_iconst (v := 3) hx hb dX0_pass_63 (by decide) ?_
  refine lv_iadd hx hb dX0_pass_64 ?_
  refine lv_topi (fun z_33 ez_33 => ?_)
  obtain rfl : z_33 = 13 := ez_33.trans (by decide +kernel)
  refine lv_dup2_11 hx hb dX0_pass_65 rfl rfl ?_
  refine va_lald hx hb hK hP 1 1 rfl rfl (vd (by decide +kernel)) dX0_pass_66 ?_
  refine lv_topl (fun z_34 ez_34 => ?_)
  have ez_34 : z_34 = g.2.2.2.2.2.2.2.2.2.2.2.2.1 13 := ez_34
  subst ez_34
  refine lv_iload hx hb dX0_pass_67 (lv_at hl 6 rfl) ?_
  refine lv_i2l (v := fm.toInt64) hx hb dX0_pass_69 rfl ?_
  refine lv_ladd hx hb dX0_pass_70 ?_
  refine va_last hx hb hK hP hD hS 1 1 rfl rfl (vd (by decide +kernel)) dX0_pass_71 (fun H locs hP hD hS => ?_)
  have hP : va_P (dC, dI) vwCl [(h0, .inr (0, [.int g.1, .int g.2.1, .int g.2.2.1, .int g.2.2.2.1, .int g.2.2.2.2.1, .int g.2.2.2.2.2.1, .int g.2.2.2.2.2.2.1, .int g.2.2.2.2.2.2.2.1, .int g.2.2.2.2.2.2.2.2.1, .int g.2.2.2.2.2.2.2.2.2.1, .long g.2.2.2.2.2.2.2.2.2.2.1, .long g.2.2.2.2.2.2.2.2.2.2.2.1, .ref h1, .ref h2, .ref h3])), (h1, .inl (cJ, 20, .inr (.inl (vp_updL (vp_updL (vp_updL (vp_updL (vp_updL (vp_updL (vp_updL (vp_updL (vp_updL (vp_updL (vp_updL (vp_updL (vp_updL (vp_updL g.2.2.2.2.2.2.2.2.2.2.2.2.1 0 ((g.2.2.2.2.2.2.2.2.2.2.2.2.1 0) + pl.toInt64)) 1 ((g.2.2.2.2.2.2.2.2.2.2.2.2.1 1) + pm.toInt64)) 2 ((g.2.2.2.2.2.2.2.2.2.2.2.2.1 2) + fl.toInt64)) 3 ((g.2.2.2.2.2.2.2.2.2.2.2.2.1 3) + fm.toInt64)) 4 ((g.2.2.2.2.2.2.2.2.2.2.2.2.1 4) + sec.toInt64)) 5 ((g.2.2.2.2.2.2.2.2.2.2.2.2.1 5) + pl.toInt64)) 6 ((g.2.2.2.2.2.2.2.2.2.2.2.2.1 6) + pm.toInt64)) 7 ((g.2.2.2.2.2.2.2.2.2.2.2.2.1 7) + fl.toInt64)) 8 ((g.2.2.2.2.2.2.2.2.2.2.2.2.1 8) + fm.toInt64)) 9 ((g.2.2.2.2.2.2.2.2.2.2.2.2.1 9) + sec.toInt64)) 10 ((g.2.2.2.2.2.2.2.2.2.2.2.2.1 10) + pl.toInt64)) 11 ((g.2.2.2.2.2.2.2.2.2.2.2.2.1 11) + pm.toInt64)) 12 ((g.2.2.2.2.2.2.2.2.2.2.2.2.1 12) + fl.toInt64)) 13 ((g.2.2.2.2.2.2.2.2.2.2.2.2.1 13) + fm.toInt64))))), (h2, .inl (cI, 30, .inl g.2.2.2.2.2.2.2.2.2.2.2.2.2.1)), (h3, .inl (cI, 30, .inl g.2.2.2.2.2.2.2.2.2.2.2.2.2.2))] H := hP
  have hD : va_D A [(h0, .inr (0, [.int g.1, .int g.2.1, .int g.2.2.1, .int g.2.2.2.1, .int g.2.2.2.2.1, .int g.2.2.2.2.2.1, .int g.2.2.2.2.2.2.1, .int g.2.2.2.2.2.2.2.1, .int g.2.2.2.2.2.2.2.2.1, .int g.2.2.2.2.2.2.2.2.2.1, .long g.2.2.2.2.2.2.2.2.2.2.1, .long g.2.2.2.2.2.2.2.2.2.2.2.1, .ref h1, .ref h2, .ref h3])), (h1, .inl (cJ, 20, .inr (.inl (vp_updL (vp_updL (vp_updL (vp_updL (vp_updL (vp_updL (vp_updL (vp_updL (vp_updL (vp_updL (vp_updL (vp_updL (vp_updL (vp_updL g.2.2.2.2.2.2.2.2.2.2.2.2.1 0 ((g.2.2.2.2.2.2.2.2.2.2.2.2.1 0) + pl.toInt64)) 1 ((g.2.2.2.2.2.2.2.2.2.2.2.2.1 1) + pm.toInt64)) 2 ((g.2.2.2.2.2.2.2.2.2.2.2.2.1 2) + fl.toInt64)) 3 ((g.2.2.2.2.2.2.2.2.2.2.2.2.1 3) + fm.toInt64)) 4 ((g.2.2.2.2.2.2.2.2.2.2.2.2.1 4) + sec.toInt64)) 5 ((g.2.2.2.2.2.2.2.2.2.2.2.2.1 5) + pl.toInt64)) 6 ((g.2.2.2.2.2.2.2.2.2.2.2.2.1 6) + pm.toInt64)) 7 ((g.2.2.2.2.2.2.2.2.2.2.2.2.1 7) + fl.toInt64)) 8 ((g.2.2.2.2.2.2.2.2.2.2.2.2.1 8) + fm.toInt64)) 9 ((g.2.2.2.2.2.2.2.2.2.2.2.2.1 9) + sec.toInt64)) 10 ((g.2.2.2.2.2.2.2.2.2.2.2.2.1 10) + pl.toInt64)) 11 ((g.2.2.2.2.2.2.2.2.2.2.2.2.1 11) + pm.toInt64)) 12 ((g.2.2.2.2.2.2.2.2.2.2.2.2.1 12) + fl.toInt64)) 13 ((g.2.2.2.2.2.2.2.2.2.2.2.2.1 13) + fm.toInt64))))), (h2, .inl (cI, 30, .inl g.2.2.2.2.2.2.2.2.2.2.2.2.2.1)), (h3, .inl (cI, 30, .inl g.2.2.2.2.2.2.2.2.2.2.2.2.2.2))] := hD
  refine lv_aload_n hx hb dX0_pass_72 rfl (lv_at hl 2 rfl) ?_
  refine va_get (D := (dC, dI)) (ci := 0) (v := .ref h1) (C := RX0) (T := TX0) (N := 15) hx hb hts hiX0 hown hK hP 0 rfl rfl 12 (by decide) (hts (.fieldLink RX0 9 "TripReckoner$Ledger" "marks" "[J") (by decide +kernel)) (fun _ h9 => h9) rfl dX0_pass_73 ?_
  refine lv_iload hx hb dX0_pass_76 (lv_at hl 0 rfl) ?_
  refine lv_iconst (v := 4) hx hb dX0_pass_78 (by decide) ?_
  refine lv_iadd hx hb dX0_pass_79 ?_
  refine lv_topi (fun z_35 ez_35 => ?_)
  obtain rfl : z_35 = 14 := ez_35.trans (by decide +kernel)
  refine lv_dup2_11 hx hb dX0_pass_80 rfl rfl ?_
  refine va_lald hx hb hK hP 1 1 rfl rfl (vd (by decide +kernel)) dX0_pass_81 ?_
  refine lv_topl (fun z_36 ez_36 => ?_)
  have ez_36 : z_36 = g.2.2.2.2.2.2.2.2.2.2.2.2.1 14 := ez_36
  subst ez_36
  refine lv_iload hx hb dX0_pass_82 (lv_at hl 7 rfl) ?_
  refine lv_i2l (v := sec.toInt64) hx hb dX0_pass_84 rfl ?_
  refine lv_ladd hx hb dX0_pass_85 ?_
  refine va_last hx hb hK hP hD hS 1 1 rfl rfl (vd (by decide +kernel)) dX0_pass_86 (fun H locs hP hD hS => ?_)
  have hP : va_P (dC, dI) vwCl [(h0, .inr (0, [.int g.1, .int g.2.1, .int g.2.2.1, .int g.2.2.2.1, .int g.2.2.2.2.1, .int g.2.2.2.2.2.1, .int g.2.2.2.2.2.2.1, .int g.2.2.2.2.2.2.2.1, .int g.2.2.2.2.2.2.2.2.1, .int g.2.2.2.2.2.2.2.2.2.1, .long g.2.2.2.2.2.2.2.2.2.2.1, .long g.2.2.2.2.2.2.2.2.2.2.2.1, .ref h1, .ref h2, .ref h3])), (h1, .inl (cJ, 20, .inr (.inl (vp_updL (vp_updL (vp_updL (vp_updL (vp_updL (vp_updL (vp_updL (vp_updL (vp_updL (vp_updL (vp_updL (vp_updL (vp_updL (vp_updL (vp_updL g.2.2.2.2.2.2.2.2.2.2.2.2.1 0 ((g.2.2.2.2.2.2.2.2.2.2.2.2.1 0) + pl.toInt64)) 1 ((g.2.2.2.2.2.2.2.2.2.2.2.2.1 1) + pm.toInt64)) 2 ((g.2.2.2.2.2.2.2.2.2.2.2.2.1 2) + fl.toInt64)) 3 ((g.2.2.2.2.2.2.2.2.2.2.2.2.1 3) + fm.toInt64)) 4 ((g.2.2.2.2.2.2.2.2.2.2.2.2.1 4) + sec.toInt64)) 5 ((g.2.2.2.2.2.2.2.2.2.2.2.2.1 5) + pl.toInt64)) 6 ((g.2.2.2.2.2.2.2.2.2.2.2.2.1 6) + pm.toInt64)) 7 ((g.2.2.2.2.2.2.2.2.2.2.2.2.1 7) + fl.toInt64)) 8 ((g.2.2.2.2.2.2.2.2.2.2.2.2.1 8) + fm.toInt64)) 9 ((g.2.2.2.2.2.2.2.2.2.2.2.2.1 9) + sec.toInt64)) 10 ((g.2.2.2.2.2.2.2.2.2.2.2.2.1 10) + pl.toInt64)) 11 ((g.2.2.2.2.2.2.2.2.2.2.2.2.1 11) + pm.toInt64)) 12 ((g.2.2.2.2.2.2.2.2.2.2.2.2.1 12) + fl.toInt64)) 13 ((g.2.2.2.2.2.2.2.2.2.2.2.2.1 13) + fm.toInt64)) 14 ((g.2.2.2.2.2.2.2.2.2.2.2.2.1 14) + sec.toInt64))))), (h2, .inl (cI, 30, .inl g.2.2.2.2.2.2.2.2.2.2.2.2.2.1)), (h3, .inl (cI, 30, .inl g.2.2.2.2.2.2.2.2.2.2.2.2.2.2))] H := hP
  have hD : va_D A [(h0, .inr (0, [.int g.1, .int g.2.1, .int g.2.2.1, .int g.2.2.2.1, .int g.2.2.2.2.1, .int g.2.2.2.2.2.1, .int g.2.2.2.2.2.2.1, .int g.2.2.2.2.2.2.2.1, .int g.2.2.2.2.2.2.2.2.1, .int g.2.2.2.2.2.2.2.2.2.1, .long g.2.2.2.2.2.2.2.2.2.2.1, .long g.2.2.2.2.2.2.2.2.2.2.2.1, .ref h1, .ref h2, .ref h3])), (h1, .inl (cJ, 20, .inr (.inl (vp_updL (vp_updL (vp_updL (vp_updL (vp_updL (vp_updL (vp_updL (vp_updL (vp_updL (vp_updL (vp_updL (vp_updL (vp_updL (vp_updL (vp_updL g.2.2.2.2.2.2.2.2.2.2.2.2.1 0 ((g.2.2.2.2.2.2.2.2.2.2.2.2.1 0) + pl.toInt64)) 1 ((g.2.2.2.2.2.2.2.2.2.2.2.2.1 1) + pm.toInt64)) 2 ((g.2.2.2.2.2.2.2.2.2.2.2.2.1 2) + fl.toInt64)) 3 ((g.2.2.2.2.2.2.2.2.2.2.2.2.1 3) + fm.toInt64)) 4 ((g.2.2.2.2.2.2.2.2.2.2.2.2.1 4) + sec.toInt64)) 5 ((g.2.2.2.2.2.2.2.2.2.2.2.2.1 5) + pl.toInt64)) 6 ((g.2.2.2.2.2.2.2.2.2.2.2.2.1 6) + pm.toInt64)) 7 ((g.2.2.2.2.2.2.2.2.2.2.2.2.1 7) + fl.toInt64)) 8 ((g.2.2.2.2.2.2.2.2.2.2.2.2.1 8) + fm.toInt64)) 9 ((g.2.2.2.2.2.2.2.2.2.2.2.2.1 9) + sec.toInt64)) 10 ((g.2.2.2.2.2.2.2.2.2.2.2.2.1 10) + pl.toInt64)) 11 ((g.2.2.2.2.2.2.2.2.2.2.2.2.1 11) + pm.toInt64)) 12 ((g.2.2.2.2.2.2.2.2.2.2.2.2.1 12) + fl.toInt64)) 13 ((g.2.2.2.2.2.2.2.2.2.2.2.2.1 13) + fm.toInt64)) 14 ((g.2.2.2.2.2.2.2.2.2.2.2.2.1 14) + sec.toInt64))))), (h2, .inl (cI, 30, .inl g.2.2.2.2.2.2.2.2.2.2.2.2.2.1)), (h3, .inl (cI, 30, .inl g.2.2.2.2.2.2.2.2.2.2.2.2.2.2))] := hD
  refine lv_iinc (v := 3) (lv' := [(6, .int 3), (7, .int 10), (0, .ref h0), (1, .int pl), (2, .int pm), (3, .int fl), (4, .int fm), (5, .int sec)]) hx hb dX0_pass_87 hl (k := 1) rfl (by decide) (by decide) rfl (fun ls hl => ?_)
  refine lv_goto (tgt := 3) hx hb dX0_pass_90 (by decide) ?_
  refine lv_iload hx hb dX0_pass_3 (lv_at hl 0 rfl) ?_
  refine lv_iconst (v := 4) hx hb dX0_pass_5 (by decide) ?_
  refine lv_icmp_ge (tgt := 93) hx hb dX0_pass_6 (by decide) (fun c_37 => absurd c_37 (by decide)) (fun c_37 => ?_)
  refine lv_iload hx hb dX0_pass_9 (lv_at hl 0 rfl) ?_
  refine lv_iconst (v := 5) hx hb dX0_pass_11 (by decide) ?_
  refine lv_imul hx hb dX0_pass_12 ?_
  refine lv_topi (fun z_38 ez_38 => ?_)
  obtain rfl : z_38 = 15 := ez_38.trans (by decide +kernel)
  refine lv_istore (lv' := [(7, .int 15), (6, .int 3), (0, .ref h0), (1, .int pl), (2, .int pm), (3, .int fl), (4, .int fm), (5, .int sec)]) hx hb dX0_pass_13 hl (by decide) rfl (fun ls hl => ?_)
  refine lv_aload_n hx hb dX0_pass_15 rfl (lv_at hl 2 rfl) ?_
  refine va_get (D := (dC, dI)) (ci := 0) (v := .ref h1) (C := RX0) (T := TX0) (N := 15) hx hb hts hiX0 hown hK hP 0 rfl rfl 12 (by decide) (hts (.fieldLink RX0 9 "TripReckoner$Ledger" "marks" "[J") (by decide +kernel)) (fun _ h9 => h9) rfl dX0_pass_16 ?_
  refine lv_iload hx hb dX0_pass_19 (lv_at hl 0 rfl) ?_
  refine lv_iconst (v := 0) hx hb dX0_pass_21 (by decide) ?_
  refine lv_iadd hx hb dX0_pass_22 ?_
  refine lv_topi (fun z_39 ez_39 => ?_)
  obtain rfl : z_39 = 15 := ez_39.trans (by decide +kernel)
  refine lv_dup2_11 hx hb dX0_pass_23 rfl rfl ?_
  refine va_lald hx hb hK hP 1 1 rfl rfl (vd (by decide +kernel)) dX0_pass_24 ?_
  refine lv_topl (fun z_40 ez_40 => ?_)
  have ez_40 : z_40 = g.2.2.2.2.2.2.2.2.2.2.2.2.1 15 := ez_40
  subst ez_40
  refine lv_iload_n hx hb dX0_pass_25 rfl (lv_at hl 3 rfl) ?_
  refine lv_i2l (v := pl.toInt64) hx hb dX0_pass_26 rfl ?_
  refine lv_ladd hx hb dX0_pass_27 ?_
  refine va_last hx hb hK hP hD hS 1 1 rfl rfl (vd (by decide +kernel)) dX0_pass_28 (fun H locs hP hD hS => ?_)
  have hP : va_P (dC, dI) vwCl [(h0, .inr (0, [.int g.1, .int g.2.1, .int g.2.2.1, .int g.2.2.2.1, .int g.2.2.2.2.1, .int g.2.2.2.2.2.1, .int g.2.2.2.2.2.2.1, .int g.2.2.2.2.2.2.2.1, .int g.2.2.2.2.2.2.2.2.1, .int g.2.2.2.2.2.2.2.2.2.1, .long g.2.2.2.2.2.2.2.2.2.2.1, .long g.2.2.2.2.2.2.2.2.2.2.2.1, .ref h1, .ref h2, .ref h3])), (h1, .inl (cJ, 20, .inr (.inl (vp_updL (vp_updL (vp_updL (vp_updL (vp_updL (vp_updL (vp_updL (vp_updL (vp_updL (vp_updL (vp_updL (vp_updL (vp_updL (vp_updL (vp_updL (vp_updL g.2.2.2.2.2.2.2.2.2.2.2.2.1 0 ((g.2.2.2.2.2.2.2.2.2.2.2.2.1 0) + pl.toInt64)) 1 ((g.2.2.2.2.2.2.2.2.2.2.2.2.1 1) + pm.toInt64)) 2 ((g.2.2.2.2.2.2.2.2.2.2.2.2.1 2) + fl.toInt64)) 3 ((g.2.2.2.2.2.2.2.2.2.2.2.2.1 3) + fm.toInt64)) 4 ((g.2.2.2.2.2.2.2.2.2.2.2.2.1 4) + sec.toInt64)) 5 ((g.2.2.2.2.2.2.2.2.2.2.2.2.1 5) + pl.toInt64)) 6 ((g.2.2.2.2.2.2.2.2.2.2.2.2.1 6) + pm.toInt64)) 7 ((g.2.2.2.2.2.2.2.2.2.2.2.2.1 7) + fl.toInt64)) 8 ((g.2.2.2.2.2.2.2.2.2.2.2.2.1 8) + fm.toInt64)) 9 ((g.2.2.2.2.2.2.2.2.2.2.2.2.1 9) + sec.toInt64)) 10 ((g.2.2.2.2.2.2.2.2.2.2.2.2.1 10) + pl.toInt64)) 11 ((g.2.2.2.2.2.2.2.2.2.2.2.2.1 11) + pm.toInt64)) 12 ((g.2.2.2.2.2.2.2.2.2.2.2.2.1 12) + fl.toInt64)) 13 ((g.2.2.2.2.2.2.2.2.2.2.2.2.1 13) + fm.toInt64)) 14 ((g.2.2.2.2.2.2.2.2.2.2.2.2.1 14) + sec.toInt64)) 15 ((g.2.2.2.2.2.2.2.2.2.2.2.2.1 15) + pl.toInt64))))), (h2, .inl (cI, 30, .inl g.2.2.2.2.2.2.2.2.2.2.2.2.2.1)), (h3, .inl (cI, 30, .inl g.2.2.2.2.2.2.2.2.2.2.2.2.2.2))] H := hP
  have hD : va_D A [(h0, .inr (0, [.int g.1, .int g.2.1, .int g.2.2.1, .int g.2.2.2.1, .int g.2.2.2.2.1, .int g.2.2.2.2.2.1, .int g.2.2.2.2.2.2.1, .int g.2.2.2.2.2.2.2.1, .int g.2.2.2.2.2.2.2.2.1, .int g.2.2.2.2.2.2.2.2.2.1, .long g.2.2.2.2.2.2.2.2.2.2.1, .long g.2.2.2.2.2.2.2.2.2.2.2.1, .ref h1, .ref h2, .ref h3])), (h1, .inl (cJ, 20, .inr (.inl (vp_updL (vp_updL (vp_updL (vp_updL (vp_updL (vp_updL (vp_updL (vp_updL (vp_updL (vp_updL (vp_updL (vp_updL (vp_updL (vp_updL (vp_updL (vp_updL g.2.2.2.2.2.2.2.2.2.2.2.2.1 0 ((g.2.2.2.2.2.2.2.2.2.2.2.2.1 0) + pl.toInt64)) 1 ((g.2.2.2.2.2.2.2.2.2.2.2.2.1 1) + pm.toInt64)) 2 ((g.2.2.2.2.2.2.2.2.2.2.2.2.1 2) + fl.toInt64)) 3 ((g.2.2.2.2.2.2.2.2.2.2.2.2.1 3) + fm.toInt64)) 4 ((g.2.2.2.2.2.2.2.2.2.2.2.2.1 4) + sec.toInt64)) 5 ((g.2.2.2.2.2.2.2.2.2.2.2.2.1 5) + pl.toInt64)) 6 ((g.2.2.2.2.2.2.2.2.2.2.2.2.1 6) + pm.toInt64)) 7 ((g.2.2.2.2.2.2.2.2.2.2.2.2.1 7) + fl.toInt64)) 8 ((g.2.2.2.2.2.2.2.2.2.2.2.2.1 8) + fm.toInt64)) 9 ((g.2.2.2.2.2.2.2.2.2.2.2.2.1 9) + sec.toInt64)) 10 ((g.2.2.2.2.2.2.2.2.2.2.2.2.1 10) + pl.toInt64)) 11 ((g.2.2.2.2.2.2.2.2.2.2.2.2.1 11) + pm.toInt64)) 12 ((g.2.2.2.2.2.2.2.2.2.2.2.2.1 12) + fl.toInt64)) 13 ((g.2.2.2.2.2.2.2.2.2.2.2.2.1 13) + fm.toInt64)) 14 ((g.2.2.2.2.2.2.2.2.2.2.2.2.1 14) + sec.toInt64)) 15 ((g.2.2.2.2.2.2.2.2.2.2.2.2.1 15) + pl.toInt64))))), (h2, .inl (cI, 30, .inl g.2.2.2.2.2.2.2.2.2.2.2.2.2.1)), (h3, .inl (cI, 30, .inl g.2.2.2.2.2.2.2.2.2.2.2.2.2.2))] := hD
  refine lv_aload_n hx hb dX0_pass_29 rfl (lv_at hl 2 rfl) ?_
  refine va_get (D := (dC, dI)) (ci := 0) (v := .ref h1) (C := RX0) (T := TX0) (N := 15) hx hb hts hiX0 hown hK hP 0 rfl rfl 12 (by decide) (hts (.fieldLink RX0 9 "TripReckoner$Ledger" "marks" "[J") (by decide +kernel)) (fun _ h9 => h9) rfl dX0_pass_30 ?_
  refine lv_iload hx hb dX0_pass_33 (lv_at hl 0 rfl) ?_
  refine lv_iconst (v := 1) hx hb dX0_pass_35 (by decide) ?_
  refine lv_iadd hx hb dX0_pass_36 ?_
  refine lv_topi (fun z_41 ez_41 => ?_)
  obtain rfl : z_41 = 16 := ez_41.trans (by decide +kernel)
  refine lv_dup2_11 hx hb dX0_pass_37 rfl rfl ?_
  refine va_lald hx hb hK hP 1 1 rfl rfl (vd (by decide +kernel)) dX0_pass_38 ?_
  refine lv_topl (fun z_42 ez_42 => ?_)
  have ez_42 : z_42 = g.2.2.2.2.2.2.2.2.2.2.2.2.1 16 := ez_42
  subst ez_42
  refine lv_iload_n hx hb dX0_pass_39 rfl (lv_at hl 4 rfl) ?_
  refine lv_i2l (v := pm.toInt64) hx hb dX0_pass_40 rfl ?_
  refine lv_ladd hx hb dX0_pass_41 ?_
  refine va_last hx hb hK hP hD hS 1 1 rfl rfl (vd (by decide +kernel)) dX0_pass_42 (fun H locs hP hD hS => ?_)
  have hP : va_P (dC, dI) vwCl [(h0, .inr (0, [.int g.1, .int g.2.1, .int g.2.2.1, .int g.2.2.2.1, .int g.2.2.2.2.1, .int g.2.2.2.2.2.1, .int g.2.2.2.2.2.2.1, .int g.2.2.2.2.2.2.2.1, .int g.2.2.2.2.2.2.2.2.1, .int g.2.2.2.2.2.2.2.2.2.1, .long g.2.2.2.2.2.2.2.2.2.2.1, .long g.2.2.2.2.2.2.2.2.2.2.2.1, .ref h1, .ref h2, .ref h3])), (h1, .inl (cJ, 20, .inr (.inl (vp_updL (vp_updL (vp_updL (vp_updL (vp_updL (vp_updL (vp_updL (vp_updL (vp_updL (vp_updL (vp_updL (vp_updL (vp_updL (vp_updL (vp_updL (vp_updL (vp_updL g.2.2.2.2.2.2.2.2.2.2.2.2.1 0 ((g.2.2.2.2.2.2.2.2.2.2.2.2.1 0) + pl.toInt64)) 1 ((g.2.2.2.2.2.2.2.2.2.2.2.2.1 1) + pm.toInt64)) 2 ((g.2.2.2.2.2.2.2.2.2.2.2.2.1 2) + fl.toInt64)) 3 ((g.2.2.2.2.2.2.2.2.2.2.2.2.1 3) + fm.toInt64)) 4 ((g.2.2.2.2.2.2.2.2.2.2.2.2.1 4) + sec.toInt64)) 5 ((g.2.2.2.2.2.2.2.2.2.2.2.2.1 5) + pl.toInt64)) 6 ((g.2.2.2.2.2.2.2.2.2.2.2.2.1 6) + pm.toInt64)) 7 ((g.2.2.2.2.2.2.2.2.2.2.2.2.1 7) + fl.toInt64)) 8 ((g.2.2.2.2.2.2.2.2.2.2.2.2.1 8) + fm.toInt64)) 9 ((g.2.2.2.2.2.2.2.2.2.2.2.2.1 9) + sec.toInt64)) 10 ((g.2.2.2.2.2.2.2.2.2.2.2.2.1 10) + pl.toInt64)) 11 ((g.2.2.2.2.2.2.2.2.2.2.2.2.1 11) + pm.toInt64)) 12 ((g.2.2.2.2.2.2.2.2.2.2.2.2.1 12) + fl.toInt64)) 13 ((g.2.2.2.2.2.2.2.2.2.2.2.2.1 13) + fm.toInt64)) 14 ((g.2.2.2.2.2.2.2.2.2.2.2.2.1 14) + sec.toInt64)) 15 ((g.2.2.2.2.2.2.2.2.2.2.2.2.1 15) + pl.toInt64)) 16 ((g.2.2.2.2.2.2.2.2.2.2.2.2.1 16) + pm.toInt64))))), (h2, .inl (cI, 30, .inl g.2.2.2.2.2.2.2.2.2.2.2.2.2.1)), (h3, .inl (cI, 30, .inl g.2.2.2.2.2.2.2.2.2.2.2.2.2.2))] H := hP
  have hD : va_D A [(h0, .inr (0, [.int g.1, .int g.2.1, .int g.2.2.1, .int g.2.2.2.1, .int g.2.2.2.2.1, .int g.2.2.2.2.2.1, .int g.2.2.2.2.2.2.1, .int g.2.2.2.2.2.2.2.1, .int g.2.2.2.2.2.2.2.2.1, .int g.2.2.2.2.2.2.2.2.2.1, .long g.2.2.2.2.2.2.2.2.2.2.1, .long g.2.2.2.2.2.2.2.2.2.2.2.1, .ref h1, .ref h2, .ref h3])), (h1, .inl (cJ, 20, .inr (.inl (vp_updL (vp_updL (vp_updL (vp_updL (vp_updL (vp_updL (vp_updL (vp_updL (vp_updL (vp_updL (vp_updL (vp_updL (vp_updL (vp_updL (vp_updL (vp_updL (vp_updL g.2.2.2.2.2.2.2.2.2.2.2.2.1 0 ((g.2.2.2.2.2.2.2.2.2.2.2.2.1 0) + pl.toInt64)) 1 ((g.2.2.2.2.2.2.2.2.2.2.2.2.1 1) + pm.toInt64)) 2 ((g.2.2.2.2.2.2.2.2.2.2.2.2.1 2) + fl.toInt64)) 3 ((g.2.2.2.2.2.2.2.2.2.2.2.2.1 3) + fm.toInt64)) 4 ((g.2.2.2.2.2.2.2.2.2.2.2.2.1 4) + sec.toInt64)) 5 ((g.2.2.2.2.2.2.2.2.2.2.2.2.1 5) + pl.toInt64)) 6 ((g.2.2.2.2.2.2.2.2.2.2.2.2.1 6) + pm.toInt64)) 7 ((g.2.2.2.2.2.2.2.2.2.2.2.2.1 7) + fl.toInt64)) 8 ((g.2.2.2.2.2.2.2.2.2.2.2.2.1 8) + fm.toInt64)) 9 ((g.2.2.2.2.2.2.2.2.2.2.2.2.1 9) + sec.toInt64)) 10 ((g.2.2.2.2.2.2.2.2.2.2.2.2.1 10) + pl.toInt64)) 11 ((g.2.2.2.2.2.2.2.2.2.2.2.2.1 11) + pm.toInt64)) 12 ((g.2.2.2.2.2.2.2.2.2.2.2.2.1 12) + fl.toInt64)) 13 ((g.2.2.2.2.2.2.2.2.2.2.2.2.1 13) + fm.toInt64)) 14 ((g.2.2.2.2.2.2.2.2.2.2.2.2.1 14) + sec.toInt64)) 15 ((g.2.2.2.2.2.2.2.2.2.2.2.2.1 15) + pl.toInt64)) 16 ((g.2.2.2.2.2.2.2.2.2.2.2.2.1 16) + pm.toInt64))))), (h2, .inl (cI, 30, .inl g.2.2.2.2.2.2.2.2.2.2.2.2.2.1)), (h3, .inl (cI, 30, .inl g.2.2.2.2.2.2.2.2.2.2.2.2.2.2))] := hD
  refine lv_aload_n hx hb dX0_pass_43 rfl (lv_at hl 2 rfl) ?_
  refine va_get (D := (dC, dI)) (ci := 0) (v := .ref h1) (C := RX0) (T := TX0) (N := 15) hx hb hts hiX0 hown hK hP 0 rfl rfl 12 (by decide) (hts (.fieldLink RX0 9 "TripReckoner$Ledger" "marks" "[J") (by decide +kernel)) (fun _ h9 => h9) rfl dX0_pass_44 ?_
  refine lv_iload hx hb dX0_pass_47 (lv_at hl 0 rfl) ?_
  refine lv_iconst (v := 2) hx hb dX0_pass_49 (by decide) ?_
  refine lv_iadd hx hb dX0_pass_50 ?_
  refine lv_topi (fun z_43 ez_43 => ?_)
  obtain rfl : z_43 = 17 := ez_43.trans (by decide +kernel)
  refine lv_dup2_11 hx hb dX0_pass_51 rfl rfl ?_
  refine va_lald hx hb hK hP 1 1 rfl rfl (vd (by decide +kernel)) dX0_pass_52 ?_
  refine lv_topl (fun z_44 ez_44 => ?_)
  have ez_44 : z_44 = g.2.2.2.2.2.2.2.2.2.2.2.2.1 17 := ez_44
  subst ez_44
  refine lv_iload_n hx hb dX0_pass_53 rfl (lv_at hl 5 rfl) ?_
  refine lv_i2l (v := fl.toInt64) hx hb dX0_pass_54 rfl ?_
  refine lv_ladd hx hb dX0_pass_55 ?_
  refine va_last hx hb hK hP hD hS 1 1 rfl rfl (vd (by decide +kernel)) dX0_pass_56 (fun H locs hP hD hS => ?_)
  have hP : va_P (dC, dI) vwCl [(h0, .inr (0, [.int g.1, .int g.2.1, .int g.2.2.1, .int g.2.2.2.1, .int g.2.2.2.2.1, .int g.2.2.2.2.2.1, .int g.2.2.2.2.2.2.1, .int g.2.2.2.2.2.2.2.1, .int g.2.2.2.2.2.2.2.2.1, .int g.2.2.2.2.2.2.2.2.2.1, .long g.2.2.2.2.2.2.2.2.2.2.1, .long g.2.2.2.2.2.2.2.2.2.2.2.1, .ref h1, .ref h2, .ref h3])), (h1, .inl (cJ, 20, .inr (.inl (vp_updL (vp_updL (vp_updL (vp_updL (vp_updL (vp_updL (vp_updL (vp_updL (vp_updL (vp_updL (vp_updL (vp_updL (vp_updL (vp_updL (vp_updL (vp_updL (vp_updL (vp_updL g.2.2.2.2.2.2.2.2.2.2.2.2.1 0 ((g.2.2.2.2.2.2.2.2.2.2.2.2.1 0) + pl.toInt64)) 1 ((g.2.2.2.2.2.2.2.2.2.2.2.2.1 1) + pm.toInt64)) 2 ((g.2.2.2.2.2.2.2.2.2.2.2.2.1 2) + fl.toInt64)) 3 ((g.2.2.2.2.2.2.2.2.2.2.2.2.1 3) + fm.toInt64)) 4 ((g.2.2.2.2.2.2.2.2.2.2.2.2.1 4) + sec.toInt64)) 5 ((g.2.2.2.2.2.2.2.2.2.2.2.2.1 5) + pl.toInt64)) 6 ((g.2.2.2.2.2.2.2.2.2.2.2.2.1 6) + pm.toInt64)) 7 ((g.2.2.2.2.2.2.2.2.2.2.2.2.1 7) + fl.toInt64)) 8 ((g.2.2.2.2.2.2.2.2.2.2.2.2.1 8) + fm.toInt64)) 9 ((g.2.2.2.2.2.2.2.2.2.2.2.2.1 9) + sec.toInt64)) 10 ((g.2.2.2.2.2.2.2.2.2.2.2.2.1 10) + pl.toInt64)) 11 ((g.2.2.2.2.2.2.2.2.2.2.2.2.1 11) + pm.toInt64)) 12 ((g.2.2.2.2.2.2.2.2.2.2.2.2.1 12) + fl.toInt64)) 13 ((g.2.2.2.2.2.2.2.2.2.2.2.2.1 13) + fm.toInt64)) 14 ((g.2.2.2.2.2.2.2.2.2.2.2.2.1 14) + sec.toInt64)) 15 ((g.2.2.2.2.2.2.2.2.2.2.2.2.1 15) + pl.toInt64)) 16 ((g.2.2.2.2.2.2.2.2.2.2.2.2.1 16) + pm.toInt64)) 17 ((g.2.2.2.2.2.2.2.2.2.2.2.2.1 17) + fl.toInt64))))), (h2, .inl (cI, 30, .inl g.2.2.2.2.2.2.2.2.2.2.2.2.2.1)), (h3, .inl (cI, 30, .inl g.2.2.2.2.2.2.2.2.2.2.2.2.2.2))] H := hP
  have hD : va_D A [(h0, .inr (0, [.int g.1, .int g.2.1, .int g.2.2.1, .int g.2.2.2.1, .int g.2.2.2.2.1, .int g.2.2.2.2.2.1, .int g.2.2.2.2.2.2.1, .int g.2.2.2.2.2.2.2.1, .int g.2.2.2.2.2.2.2.2.1, .int g.2.2.2.2.2.2.2.2.2.1, .long g.2.2.2.2.2.2.2.2.2.2.1, .long g.2.2.2.2.2.2.2.2.2.2.2.1, .ref h1, .ref h2, .ref h3])), (h1, .inl (cJ, 20, .inr (.inl (vp_updL (vp_updL (vp_updL (vp_updL (vp_updL (vp_updL (vp_updL (vp_updL (vp_updL (vp_updL (vp_updL (vp_updL (vp_updL (vp_updL (vp_updL (vp_updL (vp_updL (vp_updL g.2.2.2.2.2.2.2.2.2.2.2.2.1 0 ((g.2.2.2.2.2.2.2.2.2.2.2.2.1 0) + pl.toInt64)) 1 ((g.2.2.2.2.2.2.2.2.2.2.2.2.1 1) + pm.toInt64)) 2 ((g.2.2.2.2.2.2.2.2.2.2.2.2.1 2) + fl.toInt64)) 3 ((g.2.2.2.2.2.2.2.2.2.2.2.2.1 3) + fm.toInt64)) 4 ((g.2.2.2.2.2.2.2.2.2.2.2.2.1 4) + sec.toInt64)) 5 ((g.2.2.2.2.2.2.2.2.2.2.2.2.1 5) + pl.toInt64)) 6 ((g.2.2.2.2.2.2.2.2.2.2.2.2.1 6) + pm.toInt64)) 7 ((g.2.2.2.2.2.2.2.2.2.2.2.2.1 7) + fl.toInt64)) 8 ((g.2.2.2.2.2.2.2.2.2.2.2.2.1 8) + fm.toInt64)) 9 ((g.2.2.2.2.2.2.2.2.2.2.2.2.1 9) + sec.toInt64)) 10 ((g.2.2.2.2.2.2.2.2.2.2.2.2.1 10) + pl.toInt64)) 11 ((g.2.2.2.2.2.2.2.2.2.2.2.2.1 11) + pm.toInt64)) 12 ((g.2.2.2.2.2.2.2.2.2.2.2.2.1 12) + fl.toInt64)) 13 ((g.2.2.2.2.2.2.2.2.2.2.2.2.1 13) + fm.toInt64)) 14 ((g.2.2.2.2.2.2.2.2.2.2.2.2.1 14) + sec.toInt64)) 15 ((g.2.2.2.2.2.2.2.2.2.2.2.2.1 15) + pl.toInt64)) 16 ((g.2.2.2.2.2.2.2.2.2.2.2.2.1 16) + pm.toInt64)) 17 ((g.2.2.2.2.2.2.2.2.2.2.2.2.1 17) + fl.toInt64))))), (h2, .inl (cI, 30, .inl g.2.2.2.2.2.2.2.2.2.2.2.2.2.1)), (h3, .inl (cI, 30, .inl g.2.2.2.2.2.2.2.2.2.2.2.2.2.2))] := hD
  refine lv_aload_n hx hb dX0_pass_57 rfl (lv_at hl 2 rfl) ?_
  refine va_get (D := (dC, dI)) (ci := 0) (v := .ref h1) (C := RX0) (T := TX0) (N := 15) hx hb hts hiX0 hown hK hP 0 rfl rfl 12 (by decide) (hts (.fieldLink RX0 9 "TripReckoner$Ledger" "marks" "[J") (by decide +kernel)) (fun _ h9 => h9) rfl dX0_pass_58 ?_
  refine lv_iload hx hb dX0_pass_61 (lv_at hl 0 rfl) ?_
  refine lv_iconst (v := 3) hx hb dX0_pass_63 (by decide) ?_
  refine lv_iadd hx hb dX0_pass_64 ?_
  refine lv_topi (fun z_45 ez_45 => ?_)
  obtain rfl : z_45 = 18 := ez_45.trans (by decide +kernel)
  refine lv_dup2_11 hx hb dX0_pass_65 rfl rfl ?_
  refine va_lald hx hb hK hP 1 1 rfl rfl (vd (by decide +kernel)) dX0_pass_66 ?_
  refine lv_topl (fun z_46 ez_46 => ?_)
  have ez_46 : z_46 = g.2.2.2.2.2.2.2.2.2.2.2.2.1 18 := ez_46
  subst ez_46
  refine lv_iload hx hb dX0_pass_67 (lv_at hl 6 rfl) ?_
  refine lv_i2l (v := fm.toInt64) hx hb dX0_pass_69 rfl ?_
  refine lv_ladd hx hb dX0_pass_70 ?_
  refine va_last hx hb hK hP hD hS 1 1 rfl rfl (vd (by decide +kernel)) dX0_pass_71 (fun H locs hP hD hS => ?_)
  have hP : va_P (dC, dI) vwCl [(h0, .inr (0, [.int g.1, .int g.2.1, .int g.2.2.1, .int g.2.2.2.1, .int g.2.2.2.2.1, .int g.2.2.2.2.2.1, .int g.2.2.2.2.2.2.1, .int g.2.2.2.2.2.2.2.1, .int g.2.2.2.2.2.2.2.2.1, .int g.2.2.2.2.2.2.2.2.2.1, .long g.2.2.2.2.2.2.2.2.2.2.1, .long g.2.2.2.2.2.2.2.2.2.2.2.1, .ref h1, .ref h2, .ref h3])), (h1, .inl (cJ, 20, .inr (.inl (vp_updL (vp_updL (vp_updL (vp_updL (vp_updL (vp_updL (vp_updL (vp_updL (vp_updL (vp_updL (vp_updL (vp_updL (vp_updL (vp_updL (vp_updL (vp_updL (vp_updL (vp_updL (vp_updL g.2.2.2.2.2.2.2.2.2.2.2.2.1 0 ((g.2.2.2.2.2.2.2.2.2.2.2.2.1 0) + pl.toInt64)) 1 ((g.2.2.2.2.2.2.2.2.2.2.2.2.1 1) + pm.toInt64)) 2 ((g.2.2.2.2.2.2.2.2.2.2.2.2.1 2) + fl.toInt64)) 3 ((g.2.2.2.2.2.2.2.2.2.2.2.2.1 3) + fm.toInt64)) 4 ((g.2.2.2.2.2.2.2.2.2.2.2.2.1 4) + sec.toInt64)) 5 ((g.2.2.2.2.2.2.2.2.2.2.2.2.1 5) + pl.toInt64)) 6 ((g.2.2.2.2.2.2.2.2.2.2.2.2.1 6) + pm.toInt64)) 7 ((g.2.2.2.2.2.2.2.2.2.2.2.2.1 7) + fl.toInt64)) 8 ((g.2.2.2.2.2.2.2.2.2.2.2.2.1 8) + fm.toInt64)) 9 ((g.2.2.2.2.2.2.2.2.2.2.2.2.1 9) + sec.toInt64)) 10 ((g.2.2.2.2.2.2.2.2.2.2.2.2.1 10) + pl.toInt64)) 11 ((g.2.2.2.2.2.2.2.2.2.2.2.2.1 11) + pm.toInt64)) 12 ((g.2.2.2.2.2.2.2.2.2.2.2.2.1 12) + fl.toInt64)) 13 ((g.2.2.2.2.2.2.2.2.2.2.2.2.1 13) + fm.toInt64)) 14 ((g.2.2.2.2.2.2.2.2.2.2.2.2.1 14) + sec.toInt64)) 15 ((g.2.2.2.2.2.2.2.2.2.2.2.2.1 15) + pl.toInt64)) 16 ((g.2.2.2.2.2.2.2.2.2.2.2.2.1 16) + pm.toInt64)) 17 ((g.2.2.2.2.2.2.2.2.2.2.2.2.1 17) + fl.toInt64)) 18 ((g.2.2.2.2.2.2.2.2.2.2.2.2.1 18) + fm.toInt64))))), (h2, .inl (cI, 30, .inl g.2.2.2.2.2.2.2.2.2.2.2.2.2.1)), (h3, .inl (cI, 30, .inl g.2.2.2.2.2.2.2.2.2.2.2.2.2.2))] H := hP
  have hD : va_D A [(h0, .inr (0, [.int g.1, .int g.2.1, .int g.2.2.1, .int g.2.2.2.1, .int g.2.2.2.2.1, .int g.2.2.2.2.2.1, .int g.2.2.2.2.2.2.1, .int g.2.2.2.2.2.2.2.1, .int g.2.2.2.2.2.2.2.2.1, .int g.2.2.2.2.2.2.2.2.2.1, .long g.2.2.2.2.2.2.2.2.2.2.1, .long g.2.2.2.2.2.2.2.2.2.2.2.1, .ref h1, .ref h2, .ref h3])), (h1, .inl (cJ, 20, .inr (.inl (vp_updL (vp_updL (vp_updL (vp_updL (vp_updL (vp_updL (vp_updL (vp_updL (vp_updL (vp_updL (vp_updL (vp_updL (vp_updL (vp_updL (vp_updL (vp_updL (vp_updL (vp_updL (vp_updL g.2.2.2.2.2.2.2.2.2.2.2.2.1 0 ((g.2.2.2.2.2.2.2.2.2.2.2.2.1 0) + pl.toInt64)) 1 ((g.2.2.2.2.2.2.2.2.2.2.2.2.1 1) + pm.toInt64)) 2 ((g.2.2.2.2.2.2.2.2.2.2.2.2.1 2) + fl.toInt64)) 3 ((g.2.2.2.2.2.2.2.2.2.2.2.2.1 3) + fm.toInt64)) 4 ((g.2.2.2.2.2.2.2.2.2.2.2.2.1 4) + sec.toInt64)) 5 ((g.2.2.2.2.2.2.2.2.2.2.2.2.1 5) + pl.toInt64)) 6 ((g.2.2.2.2.2.2.2.2.2.2.2.2.1 6) + pm.toInt64)) 7 ((g.2.2.2.2.2.2.2.2.2.2.2.2.1 7) + fl.toInt64)) 8 ((g.2.2.2.2.2.2.2.2.2.2.2.2.1 8) + fm.toInt64)) 9 ((g.2.2.2.2.2.2.2.2.2.2.2.2.1 9) + sec.toInt64)) 10 ((g.2.2.2.2.2.2.2.2.2.2.2.2.1 10) + pl.toInt64)) 11 ((g.2.2.2.2.2.2.2.2.2.2.2.2.1 11) + pm.toInt64)) 12 ((g.2.2.2.2.2.2.2.2.2.2.2.2.1 12) + fl.toInt64)) 13 ((g.2.2.2.2.2.2.2.2.2.2.2.2.1 13) + fm.toInt64)) 14 ((g.2.2.2.2.2.2.2.2.2.2.2.2.1 14) + sec.toInt64)) 15 ((g.2.2.2.2.2.2.2.2.2.2.2.2.1 15) + pl.toInt64)) 16 ((g.2.2.2.2.2.2.2.2.2.2.2.2.1 16) + pm.toInt64)) 17 ((g.2.2.2.2.2.2.2.2.2.2.2.2.1 17) + fl.toInt64)) 18 ((g.2.2.2.2.2.2.2.2.2.2.2.2.1 18) + fm.toInt64))))), (h2, .inl (cI, 30, .inl g.2.2.2.2.2.2.2.2.2.2.2.2.2.1)), (h3, .inl (cI, 30, .inl g.2.2.2.2.2.2.2.2.2.2.2.2.2.2))] := hD
  refine lv_aload_n hx hb dX0_pass_72 rfl (lv_at hl 2 rfl) ?_
  refine va_get (D := (dC, dI)) (ci := 0) (v := .ref h1) (C := RX0) (T := TX0) (N := 15) hx hb hts hiX0 hown hK hP 0 rfl rfl 12 (by decide) (hts (.fieldLink RX0 9 "TripReckoner$Ledger" "marks" "[J") (by decide +kernel)) (fun _ h9 => h9) rfl dX0_pass_73 ?_
  refine lv_iload hx hb dX0_pass_76 (lv_at hl 0 rfl) ?_
  refine lv_iconst (v := 4) hx hb dX0_pass_78 (by decide) ?_
  refine lv_iadd hx hb dX0_pass_79 ?_
  refine lv_topi (fun z_47 ez_47 => ?_)
  obtain rfl : z_47 = 19 := ez_47.trans (by decide +kernel)
  refine lv_dup2_11 hx hb dX0_pass_80 rfl rfl ?_
  refine va_lald hx hb hK hP 1 1 rfl rfl (vd (by decide +kernel)) dX0_pass_81 ?_
  refine lv_topl (fun z_48 ez_48 => ?_)
  have ez_48 : z_48 = g.2.2.2.2.2.2.2.2.2.2.2.2.1 19 := ez_48
  subst ez_48
  refine lv_iload hx hb dX0_pass_82 (lv_at hl 7 rfl) ?_
  refine lv_i2l (v := sec.toInt64) hx hb dX0_pass_84 rfl ?_
  refine lv_ladd hx hb dX0_pass_85 ?_
  refine va_last hx hb hK hP hD hS 1 1 rfl rfl (vd (by decide +kernel)) dX0_pass_86 (fun H locs hP hD hS => ?_)
  have hP : va_P (dC, dI) vwCl [(h0, .inr (0, [.int g.1, .int g.2.1, .int g.2.2.1, .int g.2.2.2.1, .int g.2.2.2.2.1, .int g.2.2.2.2.2.1, .int g.2.2.2.2.2.2.1, .int g.2.2.2.2.2.2.2.1, .int g.2.2.2.2.2.2.2.2.1, .int g.2.2.2.2.2.2.2.2.2.1, .long g.2.2.2.2.2.2.2.2.2.2.1, .long g.2.2.2.2.2.2.2.2.2.2.2.1, .ref h1, .ref h2, .ref h3])), (h1, .inl (cJ, 20, .inr (.inl (vp_updL (vp_updL (vp_updL (vp_updL (vp_updL (vp_updL (vp_updL (vp_updL (vp_updL (vp_updL (vp_updL (vp_updL (vp_updL (vp_updL (vp_updL (vp_updL (vp_updL (vp_updL (vp_updL (vp_updL g.2.2.2.2.2.2.2.2.2.2.2.2.1 0 ((g.2.2.2.2.2.2.2.2.2.2.2.2.1 0) + pl.toInt64)) 1 ((g.2.2.2.2.2.2.2.2.2.2.2.2.1 1) + pm.toInt64)) 2 ((g.2.2.2.2.2.2.2.2.2.2.2.2.1 2) + fl.toInt64)) 3 ((g.2.2.2.2.2.2.2.2.2.2.2.2.1 3) + fm.toInt64)) 4 ((g.2.2.2.2.2.2.2.2.2.2.2.2.1 4) + sec.toInt64)) 5 ((g.2.2.2.2.2.2.2.2.2.2.2.2.1 5) + pl.toInt64)) 6 ((g.2.2.2.2.2.2.2.2.2.2.2.2.1 6) + pm.toInt64)) 7 ((g.2.2.2.2.2.2.2.2.2.2.2.2.1 7) + fl.toInt64)) 8 ((g.2.2.2.2.2.2.2.2.2.2.2.2.1 8) + fm.toInt64)) 9 ((g.2.2.2.2.2.2.2.2.2.2.2.2.1 9) + sec.toInt64)) 10 ((g.2.2.2.2.2.2.2.2.2.2.2.2.1 10) + pl.toInt64)) 11 ((g.2.2.2.2.2.2.2.2.2.2.2.2.1 11) + pm.toInt64)) 12 ((g.2.2.2.2.2.2.2.2.2.2.2.2.1 12) + fl.toInt64)) 13 ((g.2.2.2.2.2.2.2.2.2.2.2.2.1 13) + fm.toInt64)) 14 ((g.2.2.2.2.2.2.2.2.2.2.2.2.1 14) + sec.toInt64)) 15 ((g.2.2.2.2.2.2.2.2.2.2.2.2.1 15) + pl.toInt64)) 16 ((g.2.2.2.2.2.2.2.2.2.2.2.2.1 16) + pm.toInt64)) 17 ((g.2.2.2.2.2.2.2.2.2.2.2.2.1 17) + fl.toInt64)) 18 ((g.2.2.2.2.2.2.2.2.2.2.2.2.1 18) + fm.toInt64)) 19 ((g.2.2.2.2.2.2.2.2.2.2.2.2.1 19) + sec.toInt64))))), (h2, .inl (cI, 30, .inl g.2.2.2.2.2.2.2.2.2.2.2.2.2.1)), (h3, .inl (cI, 30, .inl g.2.2.2.2.2.2.2.2.2.2.2.2.2.2))] H := hP
  have hD : va_D A [(h0, .inr (0, [.int g.1, .int g.2.1, .int g.2.2.1, .int g.2.2.2.1, .int g.2.2.2.2.1, .int g.2.2.2.2.2.1, .int g.2.2.2.2.2.2.1, .int g.2.2.2.2.2.2.2.1, .int g.2.2.2.2.2.2.2.2.1, .int g.2.2.2.2.2.2.2.2.2.1, .long g.2.2.2.2.2.2.2.2.2.2.1, .long g.2.2.2.2.2.2.2.2.2.2.2.1, .ref h1, .ref h2, .ref h3])), (h1, .inl (cJ, 20, .inr (.inl (vp_updL (vp_updL (vp_updL (vp_updL (vp_updL (vp_updL (vp_updL (vp_updL (vp_updL (vp_updL (vp_updL (vp_updL (vp_updL (vp_updL (vp_updL (vp_updL (vp_updL (vp_updL (vp_updL (vp_updL g.2.2.2.2.2.2.2.2.2.2.2.2.1 0 ((g.2.2.2.2.2.2.2.2.2.2.2.2.1 0) + pl.toInt64)) 1 ((g.2.2.2.2.2.2.2.2.2.2.2.2.1 1) + pm.toInt64)) 2 ((g.2.2.2.2.2.2.2.2.2.2.2.2.1 2) + fl.toInt64)) 3 ((g.2.2.2.2.2.2.2.2.2.2.2.2.1 3) + fm.toInt64)) 4 ((g.2.2.2.2.2.2.2.2.2.2.2.2.1 4) + sec.toInt64)) 5 ((g.2.2.2.2.2.2.2.2.2.2.2.2.1 5) + pl.toInt64)) 6 ((g.2.2.2.2.2.2.2.2.2.2.2.2.1 6) + pm.toInt64)) 7 ((g.2.2.2.2.2.2.2.2.2.2.2.2.1 7) + fl.toInt64)) 8 ((g.2.2.2.2.2.2.2.2.2.2.2.2.1 8) + fm.toInt64)) 9 ((g.2.2.2.2.2.2.2.2.2.2.2.2.1 9) + sec.toInt64)) 10 ((g.2.2.2.2.2.2.2.2.2.2.2.2.1 10) + pl.toInt64)) 11 ((g.2.2.2.2.2.2.2.2.2.2.2.2.1 11) + pm.toInt64)) 12 ((g.2.2.2.2.2.2.2.2.2.2.2.2.1 12) + fl.toInt64)) 13 ((g.2.2.2.2.2.2.2.2.2.2.2.2.1 13) + fm.toInt64)) 14 ((g.2.2.2.2.2.2.2.2.2.2.2.2.1 14) + sec.toInt64)) 15 ((g.2.2.2.2.2.2.2.2.2.2.2.2.1 15) + pl.toInt64)) 16 ((g.2.2.2.2.2.2.2.2.2.2.2.2.1 16) + pm.toInt64)) 17 ((g.2.2.2.2.2.2.2.2.2.2.2.2.1 17) + fl.toInt64)) 18 ((g.2.2.2.2.2.2.2.2.2.2.2.2.1 18) + fm.toInt64)) 19 ((g.2.2.2.2.2.2.2.2.2.2.2.2.1 19) + sec.toInt64))))), (h2, .inl (cI, 30, .inl g.2.2.2.2.2.2.2.2.2.2.2.2.2.1)), (h3, .inl (cI, 30, .inl g.2.2.2.2.2.2.2.2.2.2.2.2.2.2))] := hD
  refine lv_iinc (v := 4) (lv' := [(6, .int 4), (7, .int 15), (0, .ref h0), (1, .int pl), (2, .int pm), (3, .int fl), (4, .int fm), (5, .int sec)]) hx hb dX0_pass_87 hl (k := 1) rfl (by decide) (by decide) rfl (fun ls hl => ?_)
  refine lv_goto (tgt := 3) hx hb dX0_pass_90 (by decide) ?_
  refine lv_iload hx hb dX0_pass_3 (lv_at hl 0 rfl) ?_
  refine lv_iconst (v := 4) hx hb dX0_pass_5 (by decide) ?_
  refine lv_icmp_ge (tgt := 93) hx hb dX0_pass_6 (by decide) (fun c_49 => ?_) (fun c_49 => absurd (by decide) c_49)
  refine lv_aload_n hx hb dX0_pass_93 rfl (lv_at hl 2 rfl) ?_
  refine lv_dup hx hb dX0_pass_94 rfl ?_
  refine va_get (D := (dC, dI)) (ci := 0) (v := .long g.2.2.2.2.2.2.2.2.2.2.1) (C := RX0) (T := TX0) (N := 15) hx hb hts hiX0 hown hK hP 0 rfl rfl 10 (by decide) (hts (.fieldLink RX0 58 "TripReckoner$Ledger" "usedLeast" "J") (by decide +kernel)) (fun _ h9 => h9) rfl dX0_pass_95 ?_
  refine lv_iload_n hx hb dX0_pass_98 rfl (lv_at hl 5 rfl) ?_
  refine lv_i2l (v := fl.toInt64) hx hb dX0_pass_99 rfl ?_
  refine lv_ladd hx hb dX0_pass_100 ?_
  refine va_put (D := (dC, dI)) (ci := 0) (v := .long (g.2.2.2.2.2.2.2.2.2.2.1 + fl.toInt64)) (ty := .long) (C := RX0) (T := TX0) (N := 15) hx hb hts hiX0 tyX0 tyX0_ok nmX0 hown hK hP hD hS 0 rfl rfl 10 (by decide) (hts (.fieldLink RX0 58 "TripReckoner$Ledger" "usedLeast" "J") (by decide +kernel)) (fun _ h9 => h9) rfl (by decide +kernel) rfl rfl (Nat.le_of_ble_eq_true rfl) dX0_pass_101 (fun H locs hP hD hS => ?_)
  have hP : va_P (dC, dI) vwCl [(h0, .inr (0, [.int g.1, .int g.2.1, .int g.2.2.1, .int g.2.2.2.1, .int g.2.2.2.2.1, .int g.2.2.2.2.2.1, .int g.2.2.2.2.2.2.1, .int g.2.2.2.2.2.2.2.1, .int g.2.2.2.2.2.2.2.2.1, .int g.2.2.2.2.2.2.2.2.2.1, .long (g.2.2.2.2.2.2.2.2.2.2.1 + fl.toInt64), .long g.2.2.2.2.2.2.2.2.2.2.2.1, .ref h1, .ref h2, .ref h3])), (h1, .inl (cJ, 20, .inr (.inl (vp_updL (vp_updL (vp_updL (vp_updL (vp_updL (vp_updL (vp_updL (vp_updL (vp_updL (vp_updL (vp_updL (vp_updL (vp_updL (vp_updL (vp_updL (vp_updL (vp_updL (vp_updL (vp_updL (vp_updL g.2.2.2.2.2.2.2.2.2.2.2.2.1 0 ((g.2.2.2.2.2.2.2.2.2.2.2.2.1 0) + pl.toInt64)) 1 ((g.2.2.2.2.2.2.2.2.2.2.2.2.1 1) + pm.toInt64)) 2 ((g.2.2.2.2.2.2.2.2.2.2.2.2.1 2) + fl.toInt64)) 3 ((g.2.2.2.2.2.2.2.2.2.2.2.2.1 3) + fm.toInt64)) 4 ((g.2.2.2.2.2.2.2.2.2.2.2.2.1 4) + sec.toInt64)) 5 ((g.2.2.2.2.2.2.2.2.2.2.2.2.1 5) + pl.toInt64)) 6 ((g.2.2.2.2.2.2.2.2.2.2.2.2.1 6) + pm.toInt64)) 7 ((g.2.2.2.2.2.2.2.2.2.2.2.2.1 7) + fl.toInt64)) 8 ((g.2.2.2.2.2.2.2.2.2.2.2.2.1 8) + fm.toInt64)) 9 ((g.2.2.2.2.2.2.2.2.2.2.2.2.1 9) + sec.toInt64)) 10 ((g.2.2.2.2.2.2.2.2.2.2.2.2.1 10) + pl.toInt64)) 11 ((g.2.2.2.2.2.2.2.2.2.2.2.2.1 11) + pm.toInt64)) 12 ((g.2.2.2.2.2.2.2.2.2.2.2.2.1 12) + fl.toInt64)) 13 ((g.2.2.2.2.2.2.2.2.2.2.2.2.1 13) + fm.toInt64)) 14 ((g.2.2.2.2.2.2.2.2.2.2.2.2.1 14) + sec.toInt64)) 15 ((g.2.2.2.2.2.2.2.2.2.2.2.2.1 15) + pl.toInt64)) 16 ((g.2.2.2.2.2.2.2.2.2.2.2.2.1 16) + pm.toInt64)) 17 ((g.2.2.2.2.2.2.2.2.2.2.2.2.1 17) + fl.toInt64)) 18 ((g.2.2.2.2.2.2.2.2.2.2.2.2.1 18) + fm.toInt64)) 19 ((g.2.2.2.2.2.2.2.2.2.2.2.2.1 19) + sec.toInt64))))), (h2, .inl (cI, 30, .inl g.2.2.2.2.2.2.2.2.2.2.2.2.2.1)), (h3, .inl (cI, 30, .inl g.2.2.2.2.2.2.2.2.2.2.2.2.2.2))] H := hP
  have hD : va_D A [(h0, .inr (0, [.int g.1, .int g.2.1, .int g.2.2.1, .int g.2.2.2.1, .int g.2.2.2.2.1, .int g.2.2.2.2.2.1, .int g.2.2.2.2.2.2.1, .int g.2.2.2.2.2.2.2.1, .int g.2.2.2.2.2.2.2.2.1, .int g.2.2.2.2.2.2.2.2.2.1, .long (g.2.2.2.2.2.2.2.2.2.2.1 + fl.toInt64), .long g.2.2.2.2.2.2.2.2.2.2.2.1, .ref h1, .ref h2, .ref h3])), (h1, .inl (cJ, 20, .inr (.inl (vp_updL (vp_updL (vp_updL (vp_updL (vp_updL (vp_updL (vp_updL (vp_updL (vp_updL (vp_updL (vp_updL (vp_updL (vp_updL (vp_updL (vp_updL (vp_updL (vp_updL (vp_updL (vp_updL (vp_updL g.2.2.2.2.2.2.2.2.2.2.2.2.1 0 ((g.2.2.2.2.2.2.2.2.2.2.2.2.1 0) + pl.toInt64)) 1 ((g.2.2.2.2.2.2.2.2.2.2.2.2.1 1) + pm.toInt64)) 2 ((g.2.2.2.2.2.2.2.2.2.2.2.2.1 2) + fl.toInt64)) 3 ((g.2.2.2.2.2.2.2.2.2.2.2.2.1 3) + fm.toInt64)) 4 ((g.2.2.2.2.2.2.2.2.2.2.2.2.1 4) + sec.toInt64)) 5 ((g.2.2.2.2.2.2.2.2.2.2.2.2.1 5) + pl.toInt64)) 6 ((g.2.2.2.2.2.2.2.2.2.2.2.2.1 6) + pm.toInt64)) 7 ((g.2.2.2.2.2.2.2.2.2.2.2.2.1 7) + fl.toInt64)) 8 ((g.2.2.2.2.2.2.2.2.2.2.2.2.1 8) + fm.toInt64)) 9 ((g.2.2.2.2.2.2.2.2.2.2.2.2.1 9) + sec.toInt64)) 10 ((g.2.2.2.2.2.2.2.2.2.2.2.2.1 10) + pl.toInt64)) 11 ((g.2.2.2.2.2.2.2.2.2.2.2.2.1 11) + pm.toInt64)) 12 ((g.2.2.2.2.2.2.2.2.2.2.2.2.1 12) + fl.toInt64)) 13 ((g.2.2.2.2.2.2.2.2.2.2.2.2.1 13) + fm.toInt64)) 14 ((g.2.2.2.2.2.2.2.2.2.2.2.2.1 14) + sec.toInt64)) 15 ((g.2.2.2.2.2.2.2.2.2.2.2.2.1 15) + pl.toInt64)) 16 ((g.2.2.2.2.2.2.2.2.2.2.2.2.1 16) + pm.toInt64)) 17 ((g.2.2.2.2.2.2.2.2.2.2.2.2.1 17) + fl.toInt64)) 18 ((g.2.2.2.2.2.2.2.2.2.2.2.2.1 18) + fm.toInt64)) 19 ((g.2.2.2.2.2.2.2.2.2.2.2.2.1 19) + sec.toInt64))))), (h2, .inl (cI, 30, .inl g.2.2.2.2.2.2.2.2.2.2.2.2.2.1)), (h3, .inl (cI, 30, .inl g.2.2.2.2.2.2.2.2.2.2.2.2.2.2))] := hD
  refine lv_aload_n hx hb dX0_pass_104 rfl (lv_at hl 2 rfl) ?_
  refine lv_dup hx hb dX0_pass_105 rfl ?_
  refine va_get (D := (dC, dI)) (ci := 0) (v := .long g.2.2.2.2.2.2.2.2.2.2.2.1) (C := RX0) (T := TX0) (N := 15) hx hb hts hiX0 hown hK hP 0 rfl rfl 11 (by decide) (hts (.fieldLink RX0 62 "TripReckoner$Ledger" "usedMost" "J") (by decide +kernel)) (fun _ h9 => h9) rfl dX0_pass_106 ?_
  refine lv_iload hx hb dX0_pass_109 (lv_at hl 6 rfl) ?_
  refine lv_i2l (v := fm.toInt64) hx hb dX0_pass_111 rfl ?_
  refine lv_ladd hx hb dX0_pass_112 ?_
  refine va_put (D := (dC, dI)) (ci := 0) (v := .long (g.2.2.2.2.2.2.2.2.2.2.2.1 + fm.toInt64)) (ty := .long) (C := RX0) (T := TX0) (N := 15) hx hb hts hiX0 tyX0 tyX0_ok nmX0 hown hK hP hD hS 0 rfl rfl 11 (by decide) (hts (.fieldLink RX0 62 "TripReckoner$Ledger" "usedMost" "J") (by decide +kernel)) (fun _ h9 => h9) rfl (by decide +kernel) rfl rfl (Nat.le_of_ble_eq_true rfl) dX0_pass_113 (fun H locs hP hD hS => ?_)
  have hP : va_P (dC, dI) vwCl [(h0, .inr (0, [.int g.1, .int g.2.1, .int g.2.2.1, .int g.2.2.2.1, .int g.2.2.2.2.1, .int g.2.2.2.2.2.1, .int g.2.2.2.2.2.2.1, .int g.2.2.2.2.2.2.2.1, .int g.2.2.2.2.2.2.2.2.1, .int g.2.2.2.2.2.2.2.2.2.1, .long (g.2.2.2.2.2.2.2.2.2.2.1 + fl.toInt64), .long (g.2.2.2.2.2.2.2.2.2.2.2.1 + fm.toInt64), .ref h1, .ref h2, .ref h3])), (h1, .inl (cJ, 20, .inr (.inl (vp_updL (vp_updL (vp_updL (vp_updL (vp_updL (vp_updL (vp_updL (vp_updL (vp_updL (vp_updL (vp_updL (vp_updL (vp_updL (vp_updL (vp_updL (vp_updL (vp_updL (vp_updL (vp_updL (vp_updL g.2.2.2.2.2.2.2.2.2.2.2.2.1 0 ((g.2.2.2.2.2.2.2.2.2.2.2.2.1 0) + pl.toInt64)) 1 ((g.2.2.2.2.2.2.2.2.2.2.2.2.1 1) + pm.toInt64)) 2 ((g.2.2.2.2.2.2.2.2.2.2.2.2.1 2) + fl.toInt64)) 3 ((g.2.2.2.2.2.2.2.2.2.2.2.2.1 3) + fm.toInt64)) 4 ((g.2.2.2.2.2.2.2.2.2.2.2.2.1 4) + sec.toInt64)) 5 ((g.2.2.2.2.2.2.2.2.2.2.2.2.1 5) + pl.toInt64)) 6 ((g.2.2.2.2.2.2.2.2.2.2.2.2.1 6) + pm.toInt64)) 7 ((g.2.2.2.2.2.2.2.2.2.2.2.2.1 7) + fl.toInt64)) 8 ((g.2.2.2.2.2.2.2.2.2.2.2.2.1 8) + fm.toInt64)) 9 ((g.2.2.2.2.2.2.2.2.2.2.2.2.1 9) + sec.toInt64)) 10 ((g.2.2.2.2.2.2.2.2.2.2.2.2.1 10) + pl.toInt64)) 11 ((g.2.2.2.2.2.2.2.2.2.2.2.2.1 11) + pm.toInt64)) 12 ((g.2.2.2.2.2.2.2.2.2.2.2.2.1 12) + fl.toInt64)) 13 ((g.2.2.2.2.2.2.2.2.2.2.2.2.1 13) + fm.toInt64)) 14 ((g.2.2.2.2.2.2.2.2.2.2.2.2.1 14) + sec.toInt64)) 15 ((g.2.2.2.2.2.2.2.2.2.2.2.2.1 15) + pl.toInt64)) 16 ((g.2.2.2.2.2.2.2.2.2.2.2.2.1 16) + pm.toInt64)) 17 ((g.2.2.2.2.2.2.2.2.2.2.2.2.1 17) + fl.toInt64)) 18 ((g.2.2.2.2.2.2.2.2.2.2.2.2.1 18) + fm.toInt64)) 19 ((g.2.2.2.2.2.2.2.2.2.2.2.2.1 19) + sec.toInt64))))), (h2, .inl (cI, 30, .inl g.2.2.2.2.2.2.2.2.2.2.2.2.2.1)), (h3, .inl (cI, 30, .inl g.2.2.2.2.2.2.2.2.2.2.2.2.2.2))] H := hP
  have hD : va_D A [(h0, .inr (0, [.int g.1, .int g.2.1, .int g.2.2.1, .int g.2.2.2.1, .int g.2.2.2.2.1, .int g.2.2.2.2.2.1, .int g.2.2.2.2.2.2.1, .int g.2.2.2.2.2.2.2.1, .int g.2.2.2.2.2.2.2.2.1, .int g.2.2.2.2.2.2.2.2.2.1, .long (g.2.2.2.2.2.2.2.2.2.2.1 + fl.toInt64), .long (g.2.2.2.2.2.2.2.2.2.2.2.1 + fm.toInt64), .ref h1, .ref h2, .ref h3])), (h1, .inl (cJ, 20, .inr (.inl (vp_updL (vp_updL (vp_updL (vp_updL (vp_updL (vp_updL (vp_updL (vp_updL (vp_updL (vp_updL (vp_updL (vp_updL (vp_updL (vp_updL (vp_updL (vp_updL (vp_updL (vp_updL (vp_updL (vp_updL g.2.2.2.2.2.2.2.2.2.2.2.2.1 0 ((g.2.2.2.2.2.2.2.2.2.2.2.2.1 0) + pl.toInt64)) 1 ((g.2.2.2.2.2.2.2.2.2.2.2.2.1 1) + pm.toInt64)) 2 ((g.2.2.2.2.2.2.2.2.2.2.2.2.1 2) + fl.toInt64)) 3 ((g.2.2.2.2.2.2.2.2.2.2.2.2.1 3) + fm.toInt64)) 4 ((g.2.2.2.2.2.2.2.2.2.2.2.2.1 4) + sec.toInt64)) 5 ((g.2.2.2.2.2.2.2.2.2.2.2.2.1 5) + pl.toInt64)) 6 ((g.2.2.2.2.2.2.2.2.2.2.2.2.1 6) + pm.toInt64)) 7 ((g.2.2.2.2.2.2.2.2.2.2.2.2.1 7) + fl.toInt64)) 8 ((g.2.2.2.2.2.2.2.2.2.2.2.2.1 8) + fm.toInt64)) 9 ((g.2.2.2.2.2.2.2.2.2.2.2.2.1 9) + sec.toInt64)) 10 ((g.2.2.2.2.2.2.2.2.2.2.2.2.1 10) + pl.toInt64)) 11 ((g.2.2.2.2.2.2.2.2.2.2.2.2.1 11) + pm.toInt64)) 12 ((g.2.2.2.2.2.2.2.2.2.2.2.2.1 12) + fl.toInt64)) 13 ((g.2.2.2.2.2.2.2.2.2.2.2.2.1 13) + fm.toInt64)) 14 ((g.2.2.2.2.2.2.2.2.2.2.2.2.1 14) + sec.toInt64)) 15 ((g.2.2.2.2.2.2.2.2.2.2.2.2.1 15) + pl.toInt64)) 16 ((g.2.2.2.2.2.2.2.2.2.2.2.2.1 16) + pm.toInt64)) 17 ((g.2.2.2.2.2.2.2.2.2.2.2.2.1 17) + fl.toInt64)) 18 ((g.2.2.2.2.2.2.2.2.2.2.2.2.1 18) + fm.toInt64)) 19 ((g.2.2.2.2.2.2.2.2.2.2.2.2.1 19) + sec.toInt64))))), (h2, .inl (cI, 30, .inl g.2.2.2.2.2.2.2.2.2.2.2.2.2.1)), (h3, .inl (cI, 30, .inl g.2.2.2.2.2.2.2.2.2.2.2.2.2.2))] := hD
  have es0 : sX0_pass pl pm fl fm sec g = (g.1, g.2.1, g.2.2.1, g.2.2.2.1, g.2.2.2.2.1, g.2.2.2.2.2.1, g.2.2.2.2.2.2.1, g.2.2.2.2.2.2.2.1, g.2.2.2.2.2.2.2.2.1, g.2.2.2.2.2.2.2.2.2.1, g.2.2.2.2.2.2.2.2.2.2.1 + fl.toInt64, g.2.2.2.2.2.2.2.2.2.2.2.1 + fm.toInt64, vp_updL (vp_updL (vp_updL (vp_updL (vp_updL (vp_updL (vp_updL (vp_updL (vp_updL (vp_updL (vp_updL (vp_updL (vp_updL (vp_updL (vp_updL (vp_updL (vp_updL (vp_updL (vp_updL (vp_updL g.2.2.2.2.2.2.2.2.2.2.2.2.1 0 ((g.2.2.2.2.2.2.2.2.2.2.2.2.1 0) + pl.toInt64)) 1 ((g.2.2.2.2.2.2.2.2.2.2.2.2.1 1) + pm.toInt64)) 2 ((g.2.2.2.2.2.2.2.2.2.2.2.2.1 2) + fl.toInt64)) 3 ((g.2.2.2.2.2.2.2.2.2.2.2.2.1 3) + fm.toInt64)) 4 ((g.2.2.2.2.2.2.2.2.2.2.2.2.1 4) + sec.toInt64)) 5 ((g.2.2.2.2.2.2.2.2.2.2.2.2.1 5) + pl.toInt64)) 6 ((g.2.2.2.2.2.2.2.2.2.2.2.2.1 6) + pm.toInt64)) 7 ((g.2.2.2.2.2.2.2.2.2.2.2.2.1 7) + fl.toInt64)) 8 ((g.2.2.2.2.2.2.2.2.2.2.2.2.1 8) + fm.toInt64)) 9 ((g.2.2.2.2.2.2.2.2.2.2.2.2.1 9) + sec.toInt64)) 10 ((g.2.2.2.2.2.2.2.2.2.2.2.2.1 10) + pl.toInt64)) 11 ((g.2.2.2.2.2.2.2.2.2.2.2.2.1 11) + pm.toInt64)) 12 ((g.2.2.2.2.2.2.2.2.2.2.2.2.1 12) + fl.toInt64)) 13 ((g.2.2.2.2.2.2.2.2.2.2.2.2.1 13) + fm.toInt64)) 14 ((g.2.2.2.2.2.2.2.2.2.2.2.2.1 14) + sec.toInt64)) 15 ((g.2.2.2.2.2.2.2.2.2.2.2.2.1 15) + pl.toInt64)) 16 ((g.2.2.2.2.2.2.2.2.2.2.2.2.1 16) + pm.toInt64)) 17 ((g.2.2.2.2.2.2.2.2.2.2.2.2.1 17) + fl.toInt64)) 18 ((g.2.2.2.2.2.2.2.2.2.2.2.2.1 18) + fm.toInt64)) 19 ((g.2.2.2.2.2.2.2.2.2.2.2.2.1 19) + sec.toInt64), g.2.2.2.2.2.2.2.2.2.2.2.2.2.1, g.2.2.2.2.2.2.2.2.2.2.2.2.2.2) := by rw [sX0_pass]
  refine W.vret hx hb hr (fun t ht hW => ⟨⟨(), rfl, trivial, ?_⟩, hS.F ht⟩) hS.2.2 dX0_pass_116
  rw [es0]; exact ⟨by rw [ht]; exact hP, va_K.moved hW.alike hK, hD⟩
