theorem common_ne0 {a b : Int64} (h2 : 0 ≤ b) (c : ¬ lg_cmp b 0 = 0) : ¬ rX4_common a b = 0 := by
  unfold rX4_common
  have hb : 0 < lT b := by
    rcases Nat.eq_zero_or_pos (lT b) with q | q
    · exact absurd ((lg_cmp_eq _ _).mpr (by rw [lN_lT h2, q]; rfl)) c
    · exact q
  have hg : Nat.gcd (lT a) (lT b) ≤ lT b := Nat.gcd_le_right _ hb
  exact lN_ne0 (Nat.gcd_pos_of_pos_right _ hb) (by have := lT_lt b; omega)

def sX4_average_g_6 (k : Int32) (z : Int32) (wh : Int32) (v : MS) (g_2 : MS) (g_6 : MS) : MS :=
  g_6
def sX4_average_g_9 (k : Int32) (z : Int32) (wh : Int32) (v : MS) (g_2 : MS) (g_9 : MS) : MS :=
  g_9
def sX4_average_g_18 (k : Int32) (z : Int32) (wh : Int32) (v : MS) (g_2 : MS) (g_18 : MS) : MS :=
  g_18
def sX4_average_g_25 (k : Int32) (z : Int32) (wh : Int32) (v : MS) (g_2 : MS) (g_25 : MS) : MS :=
  g_25
def sX4_average_g_27 (k : Int32) (z : Int32) (wh : Int32) (v : MS) (g_2 : MS) (g_27 : MS) : MS :=
  g_27
def sX4_average_g_2 (k : Int32) (z : Int32) (wh : Int32) (v : MS) (g_2 : MS) : MS :=
  if (rX4_isMark k) = 0 then
    sX4_average_g_6 k z wh v g_2 (sX4_refuse g_2)
  else
    if wh < 0 then
      sX4_average_g_9 k z wh v g_2 (sX4_refuse g_2)
    else
      if wh ≤ 1 then
        if z = 0 then
          if (lg_cmp ((g_2.2.2.2.1 (((2 + (5 * k)) + 1).toNatClampNeg)) * g_2.2.2.2.2.2.2.1.toInt64) 0) = 0 then
            sX4_average_g_18 k z wh v g_2 (sX4_refuse g_2)
          else
            if wh = 0 then
              (0, g_2.2.1, g_2.2.2.1, g_2.2.2.2.1, g_2.2.2.2.2.1, g_2.2.2.2.2.2.1, g_2.2.2.2.2.2.2.1, g_2.2.2.2.2.2.2.2.1, g_2.2.2.2.2.2.2.2.2.1, g_2.2.2.2.2.2.2.2.2.2.1, g_2.2.2.2.2.2.2.2.2.2.2.1, g_2.2.2.2.2.2.2.2.2.2.2.2.1, g_2.2.2.2.2.2.2.2.2.2.2.2.2.1, g_2.2.2.2.2.2.2.2.2.2.2.2.2.2.1, g_2.2.2.2.2.2.2.2.2.2.2.2.2.2.2.1, g_2.2.2.2.2.2.2.2.2.2.2.2.2.2.2.2.1, g_2.2.2.2.2.2.2.2.2.2.2.2.2.2.2.2.2)
            else
              (0, g_2.2.1, g_2.2.2.1, g_2.2.2.2.1, g_2.2.2.2.2.1, g_2.2.2.2.2.2.1, g_2.2.2.2.2.2.2.1, g_2.2.2.2.2.2.2.2.1, g_2.2.2.2.2.2.2.2.2.1, g_2.2.2.2.2.2.2.2.2.2.1, g_2.2.2.2.2.2.2.2.2.2.2.1, g_2.2.2.2.2.2.2.2.2.2.2.2.1, g_2.2.2.2.2.2.2.2.2.2.2.2.2.1, g_2.2.2.2.2.2.2.2.2.2.2.2.2.2.1, g_2.2.2.2.2.2.2.2.2.2.2.2.2.2.2.1, g_2.2.2.2.2.2.2.2.2.2.2.2.2.2.2.2.1, g_2.2.2.2.2.2.2.2.2.2.2.2.2.2.2.2.2)
        else
          if (lg_cmp ((g_2.2.2.2.1 (((2 + (5 * k)) + 0).toNatClampNeg)) * g_2.2.2.2.2.2.2.1.toInt64) 0) = 0 then
            sX4_average_g_25 k z wh v g_2 (sX4_refuse g_2)
          else
            if wh = 0 then
              (0, g_2.2.1, g_2.2.2.1, g_2.2.2.2.1, g_2.2.2.2.2.1, g_2.2.2.2.2.2.1, g_2.2.2.2.2.2.2.1, g_2.2.2.2.2.2.2.2.1, g_2.2.2.2.2.2.2.2.2.1, g_2.2.2.2.2.2.2.2.2.2.1, g_2.2.2.2.2.2.2.2.2.2.2.1, g_2.2.2.2.2.2.2.2.2.2.2.2.1, g_2.2.2.2.2.2.2.2.2.2.2.2.2.1, g_2.2.2.2.2.2.2.2.2.2.2.2.2.2.1, g_2.2.2.2.2.2.2.2.2.2.2.2.2.2.2.1, g_2.2.2.2.2.2.2.2.2.2.2.2.2.2.2.2.1, g_2.2.2.2.2.2.2.2.2.2.2.2.2.2.2.2.2)
            else
              (0, g_2.2.1, g_2.2.2.1, g_2.2.2.2.1, g_2.2.2.2.2.1, g_2.2.2.2.2.2.1, g_2.2.2.2.2.2.2.1, g_2.2.2.2.2.2.2.2.1, g_2.2.2.2.2.2.2.2.2.1, g_2.2.2.2.2.2.2.2.2.2.1, g_2.2.2.2.2.2.2.2.2.2.2.1, g_2.2.2.2.2.2.2.2.2.2.2.2.1, g_2.2.2.2.2.2.2.2.2.2.2.2.2.1, g_2.2.2.2.2.2.2.2.2.2.2.2.2.2.1, g_2.2.2.2.2.2.2.2.2.2.2.2.2.2.2.1, g_2.2.2.2.2.2.2.2.2.2.2.2.2.2.2.2.1, g_2.2.2.2.2.2.2.2.2.2.2.2.2.2.2.2.2)
      else
        sX4_average_g_27 k z wh v g_2 (sX4_refuse g_2)
def sX4_average (k : Int32) (z : Int32) (wh : Int32) (v : MS) : MS :=
  sX4_average_g_2 k z wh v (sX4_begin v)
def rX4_average_g_6 (k : Int32) (z : Int32) (wh : Int32) (v : MS) (g_2 : MS) (g_6 : MS) : Int64 :=
  (rX4_refuse g_2).toInt64
def rX4_average_g_9 (k : Int32) (z : Int32) (wh : Int32) (v : MS) (g_2 : MS) (g_9 : MS) : Int64 :=
  (rX4_refuse g_2).toInt64
def rX4_average_g_18 (k : Int32) (z : Int32) (wh : Int32) (v : MS) (g_2 : MS) (g_18 : MS) : Int64 :=
  (rX4_refuse g_2).toInt64
def rX4_average_g_25 (k : Int32) (z : Int32) (wh : Int32) (v : MS) (g_2 : MS) (g_25 : MS) : Int64 :=
  (rX4_refuse g_2).toInt64
def rX4_average_g_27 (k : Int32) (z : Int32) (wh : Int32) (v : MS) (g_2 : MS) (g_27 : MS) : Int64 :=
  (rX4_refuse g_2).toInt64
def rX4_average_g_2 (k : Int32) (z : Int32) (wh : Int32) (v : MS) (g_2 : MS) : Int64 :=
  if (rX4_isMark k) = 0 then
    rX4_average_g_6 k z wh v g_2 (sX4_refuse g_2)
  else
    if wh < 0 then
      rX4_average_g_9 k z wh v g_2 (sX4_refuse g_2)
    else
      if wh ≤ 1 then
        if z = 0 then
          if (lg_cmp ((g_2.2.2.2.1 (((2 + (5 * k)) + 1).toNatClampNeg)) * g_2.2.2.2.2.2.2.1.toInt64) 0) = 0 then
            rX4_average_g_18 k z wh v g_2 (sX4_refuse g_2)
          else
            if wh = 0 then
              ((g_2.2.2.2.1 (((2 + (5 * k)) + 2).toNatClampNeg)) * 100000) / (rX4_common ((g_2.2.2.2.1 (((2 + (5 * k)) + 2).toNatClampNeg)) * 100000) ((g_2.2.2.2.1 (((2 + (5 * k)) + 1).toNatClampNeg)) * g_2.2.2.2.2.2.2.1.toInt64))
            else
              ((g_2.2.2.2.1 (((2 + (5 * k)) + 1).toNatClampNeg)) * g_2.2.2.2.2.2.2.1.toInt64) / (rX4_common ((g_2.2.2.2.1 (((2 + (5 * k)) + 2).toNatClampNeg)) * 100000) ((g_2.2.2.2.1 (((2 + (5 * k)) + 1).toNatClampNeg)) * g_2.2.2.2.2.2.2.1.toInt64))
        else
          if (lg_cmp ((g_2.2.2.2.1 (((2 + (5 * k)) + 0).toNatClampNeg)) * g_2.2.2.2.2.2.2.1.toInt64) 0) = 0 then
            rX4_average_g_25 k z wh v g_2 (sX4_refuse g_2)
          else
            if wh = 0 then
              ((g_2.2.2.2.1 (((2 + (5 * k)) + 3).toNatClampNeg)) * 100000) / (rX4_common ((g_2.2.2.2.1 (((2 + (5 * k)) + 3).toNatClampNeg)) * 100000) ((g_2.2.2.2.1 (((2 + (5 * k)) + 0).toNatClampNeg)) * g_2.2.2.2.2.2.2.1.toInt64))
            else
              ((g_2.2.2.2.1 (((2 + (5 * k)) + 0).toNatClampNeg)) * g_2.2.2.2.2.2.2.1.toInt64) / (rX4_common ((g_2.2.2.2.1 (((2 + (5 * k)) + 3).toNatClampNeg)) * 100000) ((g_2.2.2.2.1 (((2 + (5 * k)) + 0).toNatClampNeg)) * g_2.2.2.2.2.2.2.1.toInt64))
      else
        rX4_average_g_27 k z wh v g_2 (sX4_refuse g_2)
def rX4_average (k : Int32) (z : Int32) (wh : Int32) (v : MS) : Int64 :=
  rX4_average_g_2 k z wh v (sX4_begin v)
set_option maxHeartbeats 4000000 in
set_option maxRecDepth 100000 in
theorem kX4_average (l : Launch) (dC : Nat → ClassId) (dI : Nat → Nat → Nat) (cI cJ : ClassId) (m0 m1 m2 m3 m4 m5 : Nat) (sz : Nat) (k : Int32) (z : Int32) (wh : Int32) (v : MS) (hm : ∀ u : MS, u = sX4_begin v → ∀ k w : Int32, vp_in k 4 → vp_in w 5 → 0 ≤ u.2.2.2.1 ((2 + 5 * k) + w).toNatClampNeg * u.2.2.2.2.2.2.1.toInt64 ∧ 0 ≤ u.2.2.2.1 ((2 + 5 * k) + w).toNatClampNeg * 100000) : Met l yX4_average wsX4_average ({ frames := 2, cells := 0, slots := 0, locals := 42 }) (va_Pc [.ref m0, .int k, .int z, .int wh] (fun U => U.heap.size = sz ∧ va_P (dC, dI) vwCl [cM0 m0 m1 m2 m3 m4 m5 v, cM1 cI m1 v, cM2 cJ m2 v, cM3 cJ m3 v, cM4 cI m4 v, cM5 cI m5 v] U.heap ∧ va_K (dC, dI) vwCl [(cI, .int), (cJ, .long)] U ∧ va_D (fun _ => True) [cM0 m0 m1 m2 m3 m4 m5 v, cM1 cI m1 v, cM2 cJ m2 v, cM3 cJ m3 v, cM4 cI m4 v, cM5 cI m5 v])) (va_Ql (fun (r : Int64) (_ : Unit) => r = rX4_average k z wh v) (fun _ t => va_P (dC, dI) vwCl [cM0 m0 m1 m2 m3 m4 m5 (sX4_average k z wh v), cM1 cI m1 (sX4_average k z wh v), cM2 cJ m2 (sX4_average k z wh v), cM3 cJ m3 (sX4_average k z wh v), cM4 cI m4 (sX4_average k z wh v), cM5 cI m5 (sX4_average k z wh v)] t.heap ∧ va_K (dC, dI) vwCl [(cI, .int), (cJ, .long)] t ∧ va_D (va_A [cM0 m0 m1 m2 m3 m4 m5 v, cM1 cI m1 v, cM2 cJ m2 v, cM3 cJ m3 v, cM4 cI m4 v, cM5 cI m5 v] sz) [cM0 m0 m1 m2 m3 m4 m5 (sX4_average k z wh v), cM1 cI m1 (sX4_average k z wh v), cM2 cJ m2 (sX4_average k z wh v), cM3 cJ m3 (sX4_average k z wh v), cM4 cI m4 (sX4_average k z wh v), cM5 cI m5 (sX4_average k z wh v)]) (va_A [cM0 m0 m1 m2 m3 m4 m5 v, cM1 cI m1 v, cM2 cJ m2 v, cM3 cJ m3 v, cM4 cI m4 v, cM5 cI m5 v] sz)) 0 0 (va_A [cM0 m0 m1 m2 m3 m4 m5 v, cM1 cI m1 v, cM2 cJ m2 v, cM3 cJ m3 v, cM4 cI m4 v, cM5 cI m5 v] sz) := by
  refine Met.ofW (cc := cX4_average) (maxL := 8) (ret := (some .long)) (by decide) rfl ?_
  intro p e s m args below meth c s₁ B hml hv
  obtain ⟨rfl, hsz, hP, hK, hD0⟩ := hv
  have hx := B.exec
  have hb := B.bytes
  have hr := B.returns
  have hts := atoms_spec (ws := wsX4_average) B.pre
  have hown : s.vm.findClass RX4 = some m.cls := findClass_of_methodNamed B.named
  have hlocks := B.notSynchronized
  have hiX4 : ∀ w ∈ u_ws RX4 TX4 17, w ∈ wsX4_average := by decide +kernel
  subst hsz
  have hD := hD0.self (sz := s.heap.size)
  generalize hAe : va_A [cM0 m0 m1 m2 m3 m4 m5 v, cM1 cI m1 v, cM2 cJ m2 v, cM3 cJ m3 v, cM4 cI m4 v, cM5 cI m5 v] s.heap.size = A at hD ⊢
  have hA : ∀ q : Nat, s.heap.size ≤ q → A q := fun q h => by rw [← hAe]; exact Or.inr h
  have hS : va_S A s.heap s.heap [] := va_S.rf
  have hl := lv_entry ([.ref m0, .int k, .int z, .int wh]) (n := 8) (Nat.le_of_ble_eq_true rfl)
  rw [lg_entry_eq]
  generalize (lg_sl ([.ref m0, .int k, .int z, .int wh]) ++ List.replicate (8 - (lg_sl ([.ref m0, .int k, .int z, .int wh])).length) Slot.unset).toArray = ls at hl ⊢
  have hl : lv_has ls 8 [(0, .ref m0), (1, .int k), (2, .int z), (3, .int wh)] := hl
  have hP : va_P (dC, dI) vwCl [cM0 m0 m1 m2 m3 m4 m5 v, cM1 cI m1 v, cM2 cJ m2 v, cM3 cJ m3 v, cM4 cI m4 v, cM5 cI m5 v] s.heap := hP
  refine lv_aload_n hx hb dX4_average_0 rfl (lv_at hl 0 rfl) ?_
  have hPc := hP.sub (ws' := [cM0 m0 m1 m2 m3 m4 m5 v, cM1 cI m1 v, cM2 cJ m2 v, cM3 cJ m3 v, cM4 cI m4 v, cM5 cI m5 v]) [0, 1, 2, 3, 4, 5] rfl
  have hDc := hD.sub (ws' := [cM0 m0 m1 m2 m3 m4 m5 v, cM1 cI m1 v, cM2 cJ m2 v, cM3 cJ m3 v, cM4 cI m4 v, cM5 cI m5 v]) [0, 1, 2, 3, 4, 5] (by decide) rfl
  have hFc := va_free (wc := [cM0 m0 m1 m2 m3 m4 m5 v, cM1 cI m1 v, cM2 cJ m2 v, cM3 cJ m3 v, cM4 cI m4 v, cM5 cI m5 v]) hD hS hA [0, 1, 2, 3, 4, 5] rfl
  refine va_callv (va_runV (As := []) (rest := []) ⟨hx, hb, hml, hown, hts⟩ (kX4_begin l dC dI cI cJ m0 m1 m2 m3 m4 m5 s.heap.size v) (cwV 0 hts gX4_average_X4_begin rfl rfl rfl (by decide +kernel) ⟨Nat.le_of_ble_eq_true rfl, Nat.le_of_ble_eq_true rfl⟩) ⟨fun a U g mk q => by obtain ⟨q0, q1, qP, qK, qD⟩ := q; exact ⟨q0, q1, qP, va_K.moved (u := U) (U := U.calling g mk a) (Vm.Alike.refl U.vm) qK, qD⟩, va_recv hK hPc (ci := 4) (q0 := 0) rfl rfl, fun U hU hW => ⟨rfl, by rw [hU], by rw [hU]; exact hPc, va_K.moved hW.alike hK, hDc.weaken (fun _ _ _ _ => trivial)⟩⟩ rfl rfl hl.1 rfl (lv_room (Nat.le_of_ble_eq_true rfl)) dX4_average_1 ⟨Nat.le_of_ble_eq_true rfl, Nat.le_of_ble_eq_true rfl⟩) hS (fun q _ h => hFc q h) hFc (fun _ t H1 locs ht hvm hw hB hz1 hk1 hS => ?_)
  obtain ⟨hP1, hK1, hD1⟩ := hB
  rw [ht] at hP1
  obtain ⟨g_2, eg_2⟩ : ∃ z, z = sX4_begin v := ⟨_, rfl⟩
  rw [← eg_2] at hP1 hD1
  obtain ⟨hP, hD⟩ := va_join (wr := []) (w1 := [cM0 m0 m1 m2 m3 m4 m5 g_2, cM1 cI m1 g_2, cM2 cJ m2 g_2, cM3 cJ m3 g_2, cM4 cI m4 g_2, cM5 cI m5 g_2]) hP hD [0, 1, 2, 3, 4, 5] [] rfl rfl (by decide) (by decide) hk1 hFc hP1 hD1
  generalize H1 = H at hP hS ⊢
  have hP : va_P (dC, dI) vwCl [cM0 m0 m1 m2 m3 m4 m5 g_2, cM1 cI m1 g_2, cM2 cJ m2 g_2, cM3 cJ m3 g_2, cM4 cI m4 g_2, cM5 cI m5 g_2] H := hP
  have hD : va_D A [cM0 m0 m1 m2 m3 m4 m5 g_2, cM1 cI m1 g_2, cM2 cJ m2 g_2, cM3 cJ m3 g_2, cM4 cI m4 g_2, cM5 cI m5 g_2] := hD
  refine lv_iload_n hx hb dX4_average_4 rfl (lv_at hl 1 rfl) ?_
  have hPc := hP.sub (ws' := []) [] rfl
  have hDc := hD.sub (ws' := []) [] (by decide) rfl
  have hFc := va_free (wc := []) hD hS hA [] rfl
  refine va_calli (va_runS (As := [.int k]) (rest := []) ⟨hx, hb, hml, hown, hts⟩ (kX4_isMark l dC dI cI cJ H.size k) (va_cwS 1 hts gX4_average_X4_isMark rfl rfl rfl (by decide +kernel) ⟨Nat.le_of_ble_eq_true rfl, Nat.le_of_ble_eq_true rfl⟩) ⟨fun a U g mk q => by obtain ⟨q0, q1, qP, qK, qD⟩ := q; exact ⟨q0, q1, qP, va_K.moved (u := U) (U := U.calling g mk a) (Vm.Alike.refl U.vm) qK, qD⟩, fun U hU hW => ⟨rfl, by rw [hU], by rw [hU]; exact hPc, va_K.moved hW.alike hK, hDc.weaken (fun _ _ _ _ => trivial)⟩⟩ rfl rfl hl.1 rfl (lv_room (Nat.le_of_ble_eq_true rfl)) dX4_average_5 ⟨Nat.le_of_ble_eq_true rfl, Nat.le_of_ble_eq_true rfl⟩) hS (fun q _ h => hFc q h) hFc (fun r_3 _ t H1 locs ht hvm hw hB hz1 hk1 hS => ?_)
  obtain ⟨hP1, hK1, hD1⟩ := hB
  rw [ht] at hP1
  obtain ⟨hP, hD⟩ := va_join (wr := [cM0 m0 m1 m2 m3 m4 m5 g_2, cM1 cI m1 g_2, cM2 cJ m2 g_2, cM3 cJ m3 g_2, cM4 cI m4 g_2, cM5 cI m5 g_2]) (w1 := []) hP hD [] [0, 1, 2, 3, 4, 5] rfl rfl (by decide) (by decide) hk1 hFc hP1 hD1
  generalize H1 = H at hP hS ⊢
  have hP : va_P (dC, dI) vwCl [cM0 m0 m1 m2 m3 m4 m5 g_2, cM1 cI m1 g_2, cM2 cJ m2 g_2, cM3 cJ m3 g_2, cM4 cI m4 g_2, cM5 cI m5 g_2] H := hP
  have hD : va_D A [cM0 m0 m1 m2 m3 m4 m5 g_2, cM1 cI m1 g_2, cM2 cJ m2 g_2, cM3 cJ m3 g_2, cM4 cI m4 g_2, cM5 cI m5 g_2] := hD
  subst hw
  refine lv_if_eq (tgt := 20) hx hb dX4_average_8 (by decide) (fun c_4 => ?_) (fun c_4 => ?_)
  · refine lv_aload_n hx hb dX4_average_20 rfl (lv_at hl 0 rfl) ?_
    have hPc := hP.sub (ws' := [cM0 m0 m1 m2 m3 m4 m5 g_2, cM1 cI m1 g_2, cM2 cJ m2 g_2, cM3 cJ m3 g_2, cM4 cI m4 g_2, cM5 cI m5 g_2]) [0, 1, 2, 3, 4, 5] rfl
    have hDc := hD.sub (ws' := [cM0 m0 m1 m2 m3 m4 m5 g_2, cM1 cI m1 g_2, cM2 cJ m2 g_2, cM3 cJ m3 g_2, cM4 cI m4 g_2, cM5 cI m5 g_2]) [0, 1, 2, 3, 4, 5] (by decide) rfl
    have hFc := va_free (wc := [cM0 m0 m1 m2 m3 m4 m5 g_2, cM1 cI m1 g_2, cM2 cJ m2 g_2, cM3 cJ m3 g_2, cM4 cI m4 g_2, cM5 cI m5 g_2]) hD hS hA [0, 1, 2, 3, 4, 5] rfl
    refine va_calli (va_runV (As := []) (rest := []) ⟨hx, hb, hml, hown, hts⟩ (kX4_refuse l dC dI cI cJ m0 m1 m2 m3 m4 m5 H.size g_2) (cwV 0 hts gX4_average_X4_refuse rfl rfl rfl (by decide +kernel) ⟨Nat.le_of_ble_eq_true rfl, Nat.le_of_ble_eq_true rfl⟩) ⟨fun a U g mk q => by obtain ⟨q0, q1, qP, qK, qD⟩ := q; exact ⟨q0, q1, qP, va_K.moved (u := U) (U := U.calling g mk a) (Vm.Alike.refl U.vm) qK, qD⟩, va_recv hK hPc (ci := 4) (q0 := 0) rfl rfl, fun U hU hW => ⟨rfl, by rw [hU], by rw [hU]; exact hPc, va_K.moved hW.alike hK, hDc.weaken (fun _ _ _ _ => trivial)⟩⟩ rfl rfl hl.1 rfl (lv_room (Nat.le_of_ble_eq_true rfl)) dX4_average_21 ⟨Nat.le_of_ble_eq_true rfl, Nat.le_of_ble_eq_true rfl⟩) hS (fun q _ h => hFc q h) hFc (fun r_5 _ t H1 locs ht hvm hw hB hz1 hk1 hS => ?_)
    obtain ⟨hP1, hK1, hD1⟩ := hB
    rw [ht] at hP1
    obtain ⟨g_6, eg_6⟩ : ∃ z, z = sX4_refuse g_2 := ⟨_, rfl⟩
    rw [← eg_6] at hP1 hD1
    obtain ⟨hP, hD⟩ := va_join (wr := []) (w1 := [cM0 m0 m1 m2 m3 m4 m5 g_6, cM1 cI m1 g_6, cM2 cJ m2 g_6, cM3 cJ m3 g_6, cM4 cI m4 g_6, cM5 cI m5 g_6]) hP hD [0, 1, 2, 3, 4, 5] [] rfl rfl (by decide) (by decide) hk1 hFc hP1 hD1
    generalize H1 = H at hP hS ⊢
    have hP : va_P (dC, dI) vwCl [cM0 m0 m1 m2 m3 m4 m5 g_6, cM1 cI m1 g_6, cM2 cJ m2 g_6, cM3 cJ m3 g_6, cM4 cI m4 g_6, cM5 cI m5 g_6] H := hP
    have hD : va_D A [cM0 m0 m1 m2 m3 m4 m5 g_6, cM1 cI m1 g_6, cM2 cJ m2 g_6, cM3 cJ m3 g_6, cM4 cI m4 g_6, cM5 cI m5 g_6] := hD
    subst hw
    refine lv_i2l (v := (rX4_refuse g_2).toInt64) hx hb dX4_average_24 rfl ?_
    have es0 : sX4_average k z wh v = g_6 := by rw [sX4_average, ← eg_2, sX4_average_g_2, if_pos c_4, ← eg_6, sX4_average_g_6]
    have er : (rX4_refuse g_2).toInt64 = rX4_average k z wh v := by rw [rX4_average, ← eg_2, rX4_average_g_2, if_pos c_4, ← eg_6, rX4_average_g_6]
    refine W.lret (v := (rX4_refuse g_2).toInt64) hx hb hr (fun t ht hW => ⟨⟨(rX4_refuse g_2).toInt64, (), rfl, er, ?_⟩, hS.F ht⟩) hS.2.2 dX4_average_25
    rw [es0]; exact ⟨by rw [ht]; exact hP, va_K.moved hW.alike hK, hD⟩
  · refine lv_iload_n hx hb dX4_average_11 rfl (lv_at hl 3 rfl) ?_
    refine lv_if_lt (tgt := 20) hx hb dX4_average_12 (by decide) (fun c_7 => ?_) (fun c_7 => ?_)
    · refine lv_aload_n hx hb dX4_average_20 rfl (lv_at hl 0 rfl) ?_
      have hPc := hP.sub (ws' := [cM0 m0 m1 m2 m3 m4 m5 g_2, cM1 cI m1 g_2, cM2 cJ m2 g_2, cM3 cJ m3 g_2, cM4 cI m4 g_2, cM5 cI m5 g_2]) [0, 1, 2, 3, 4, 5] rfl
      have hDc := hD.sub (ws' := [cM0 m0 m1 m2 m3 m4 m5 g_2, cM1 cI m1 g_2, cM2 cJ m2 g_2, cM3 cJ m3 g_2, cM4 cI m4 g_2, cM5 cI m5 g_2]) [0, 1, 2, 3, 4, 5] (by decide) rfl
      have hFc := va_free (wc := [cM0 m0 m1 m2 m3 m4 m5 g_2, cM1 cI m1 g_2, cM2 cJ m2 g_2, cM3 cJ m3 g_2, cM4 cI m4 g_2, cM5 cI m5 g_2]) hD hS hA [0, 1, 2, 3, 4, 5] rfl
      refine va_calli (va_runV (As := []) (rest := []) ⟨hx, hb, hml, hown, hts⟩ (kX4_refuse l dC dI cI cJ m0 m1 m2 m3 m4 m5 H.size g_2) (cwV 0 hts gX4_average_X4_refuse rfl rfl rfl (by decide +kernel) ⟨Nat.le_of_ble_eq_true rfl, Nat.le_of_ble_eq_true rfl⟩) ⟨fun a U g mk q => by obtain ⟨q0, q1, qP, qK, qD⟩ := q; exact ⟨q0, q1, qP, va_K.moved (u := U) (U := U.calling g mk a) (Vm.Alike.refl U.vm) qK, qD⟩, va_recv hK hPc (ci := 4) (q0 := 0) rfl rfl, fun U hU hW => ⟨rfl, by rw [hU], by rw [hU]; exact hPc, va_K.moved hW.alike hK, hDc.weaken (fun _ _ _ _ => trivial)⟩⟩ rfl rfl hl.1 rfl (lv_room (Nat.le_of_ble_eq_true rfl)) dX4_average_21 ⟨Nat.le_of_ble_eq_true rfl, Nat.le_of_ble_eq_true rfl⟩) hS (fun q _ h => hFc q h) hFc (fun r_8 _ t H1 locs ht hvm hw hB hz1 hk1 hS => ?_)
      obtain ⟨hP1, hK1, hD1⟩ := hB
      rw [ht] at hP1
      obtain ⟨g_9, eg_9⟩ : ∃ z, z = sX4_refuse g_2 := ⟨_, rfl⟩
      rw [← eg_9] at hP1 hD1
      obtain ⟨hP, hD⟩ := va_join (wr := []) (w1 := [cM0 m0 m1 m2 m3 m4 m5 g_9, cM1 cI m1 g_9, cM2 cJ m2 g_9, cM3 cJ m3 g_9, cM4 cI m4 g_9, cM5 cI m5 g_9]) hP hD [0, 1, 2, 3, 4, 5] [] rfl rfl (by decide) (by decide) hk1 hFc hP1 hD1
      generalize H1 = H at hP hS ⊢
      have hP : va_P (dC, dI) vwCl [cM0 m0 m1 m2 m3 m4 m5 g_9, cM1 cI m1 g_9, cM2 cJ m2 g_9, cM3 cJ m3 g_9, cM4 cI m4 g_9, cM5 cI m5 g_9] H := hP
      have hD : va_D A [cM0 m0 m1 m2 m3 m4 m5 g_9, cM1 cI m1 g_9, cM2 cJ m2 g_9, cM3 cJ m3 g_9, cM4 cI m4 g_9, cM5 cI m5 g_9] := hD
      subst hw
      refine lv_i2l (v := (rX4_refuse g_2).toInt64) hx hb dX4_average_24 rfl ?_
      have es0 : sX4_average k z wh v = g_9 := by rw [sX4_average, ← eg_2, sX4_average_g_2, if_neg c_4, if_pos c_7, ← eg_9, sX4_average_g_9]
      have er : (rX4_refuse g_2).toInt64 = rX4_average k z wh v := by rw [rX4_average, ← eg_2, rX4_average_g_2, if_neg c_4, if_pos c_7, ← eg_9, rX4_average_g_9]
      refine W.lret (v := (rX4_refuse g_2).toInt64) hx hb hr (fun t ht hW => ⟨⟨(rX4_refuse g_2).toInt64, (), rfl, er, ?_⟩, hS.F ht⟩) hS.2.2 dX4_average_25
      rw [es0]; exact ⟨by rw [ht]; exact hP, va_K.moved hW.alike hK, hD⟩
    · refine lv_iload_n hx hb dX4_average_15 rfl (lv_at hl 3 rfl) ?_
      refine lv_iconst (v := 1) hx hb dX4_average_16 (by decide) ?_
      refine lv_icmp_le (tgt := 26) hx hb dX4_average_17 (by decide) (fun c_10 => ?_) (fun c_10 => ?_)
      · refine lv_aload_n hx hb dX4_average_26 rfl (lv_at hl 0 rfl) ?_
        refine va_get (D := (dC, dI)) (ci := 4) (v := .ref m2) (C := RX4) (T := TX4) (N := 17) hx hb hts hiX4 hown hK hP 0 rfl rfl 3 (by decide) (hts (.fieldLink RX4 13 "TripReckonerModel" "now" "[J") (by decide +kernel)) (fun _ h9 => h9) rfl dX4_average_27 ?_
        refine lv_iconst (v := 2) hx hb dX4_average_30 (by decide) ?_
        refine lv_iconst (v := 5) hx hb dX4_average_31 (by decide) ?_
        refine lv_iload_n hx hb dX4_average_32 rfl (lv_at hl 1 rfl) ?_
        refine lv_imul hx hb dX4_average_33 ?_
        refine lv_iadd hx hb dX4_average_34 ?_
        refine lv_iload_n hx hb dX4_average_35 rfl (lv_at hl 2 rfl) ?_
        refine lv_if_eq (tgt := 43) hx hb dX4_average_36 (by decide) (fun c_11 => ?_) (fun c_11 => ?_)
        · refine lv_iconst (v := 1) hx hb dX4_average_43 (by decide) ?_
          refine lv_iadd hx hb dX4_average_44 ?_
          refine va_lald hx hb hK hP 2 1 rfl rfl (mk_in2 (isMark4_in c_4) (vd (by decide +kernel))) dX4_average_45 ?_
          refine lv_aload_n hx hb dX4_average_46 rfl (lv_at hl 0 rfl) ?_
          refine va_get (D := (dC, dI)) (ci := 4) (v := .int g_2.2.2.2.2.2.2.1) (C := RX4) (T := TX4) (N := 17) hx hb hts hiX4 hown hK hP 0 rfl rfl 6 (by decide) (hts (.fieldLink RX4 25 "TripReckonerModel" "metres" "I") (by decide +kernel)) (fun _ h9 => h9) rfl dX4_average_47 ?_
          refine lv_i2l (v := g_2.2.2.2.2.2.2.1.toInt64) hx hb dX4_average_50 rfl ?_
          refine lv_lmul hx hb dX4_average_51 ?_
          refine lv_lstore (lv' := [(4, .long ((g_2.2.2.2.1 (((2 + (5 * k)) + 1).toNatClampNeg)) * g_2.2.2.2.2.2.2.1.toInt64)), (0, .ref m0), (1, .int k), (2, .int z), (3, .int wh)]) hx hb dX4_average_52 hl (by decide) rfl (fun ls hl => ?_)
          refine lv_lload hx hb dX4_average_54 (lv_at hl 0 rfl) ?_
          refine lv_lconst (v := 0) hx hb dX4_average_56 (by decide) ?_
          refine W.lcmp hx hb dX4_average_57 ?_
          refine lv_if_ne (tgt := 67) hx hb dX4_average_58 (by decide) (fun c_12 => ?_) (fun c_12 => ?_)
          · refine lv_aload_n hx hb dX4_average_67 rfl (lv_at hl 1 rfl) ?_
            refine lv_iconst (v := 0) hx hb dX4_average_68 (by decide) ?_
            refine va_put (D := (dC, dI)) (ci := 4) (v := .int 0) (ty := .int) (C := RX4) (T := TX4) (N := 17) hx hb hts hiX4 tyX4 tyX4_ok nmX4 hown hK hP hD hS 0 rfl rfl 0 (by decide) (hts (.fieldLink RX4 49 "TripReckonerModel" "thrown" "I") (by decide +kernel)) (fun _ h9 => h9) rfl (by decide +kernel) rfl rfl (Nat.le_of_ble_eq_true rfl) dX4_average_69 (fun H locs hP hD hS => ?_)
            have hP : va_P (dC, dI) vwCl [(m0, .inr (4, [.int 0, .ref m1, .int g_2.2.2.1, .ref m2, .ref m3, .int g_2.2.2.2.2.2.1, .int g_2.2.2.2.2.2.2.1, .int g_2.2.2.2.2.2.2.2.1, .int g_2.2.2.2.2.2.2.2.2.1, .int g_2.2.2.2.2.2.2.2.2.2.1, .int g_2.2.2.2.2.2.2.2.2.2.2.1, .int g_2.2.2.2.2.2.2.2.2.2.2.2.1, .long g_2.2.2.2.2.2.2.2.2.2.2.2.2.1, .int g_2.2.2.2.2.2.2.2.2.2.2.2.2.2.1, .ref m4, .ref m5, .int g_2.2.2.2.2.2.2.2.2.2.2.2.2.2.2.2.2])), (m1, .inl (cI, 60, .inl g_2.2.1)), (m2, .inl (cJ, 92, .inr (.inl g_2.2.2.2.1))), (m3, .inl (cJ, 92, .inr (.inl g_2.2.2.2.2.1))), (m4, .inl (cI, 1573, .inl g_2.2.2.2.2.2.2.2.2.2.2.2.2.2.2.1)), (m5, .inl (cI, 12, .inl g_2.2.2.2.2.2.2.2.2.2.2.2.2.2.2.2.1))] H := hP
            have hD : va_D A [(m0, .inr (4, [.int 0, .ref m1, .int g_2.2.2.1, .ref m2, .ref m3, .int g_2.2.2.2.2.2.1, .int g_2.2.2.2.2.2.2.1, .int g_2.2.2.2.2.2.2.2.1, .int g_2.2.2.2.2.2.2.2.2.1, .int g_2.2.2.2.2.2.2.2.2.2.1, .int g_2.2.2.2.2.2.2.2.2.2.2.1, .int g_2.2.2.2.2.2.2.2.2.2.2.2.1, .long g_2.2.2.2.2.2.2.2.2.2.2.2.2.1, .int g_2.2.2.2.2.2.2.2.2.2.2.2.2.2.1, .ref m4, .ref m5, .int g_2.2.2.2.2.2.2.2.2.2.2.2.2.2.2.2.2])), (m1, .inl (cI, 60, .inl g_2.2.1)), (m2, .inl (cJ, 92, .inr (.inl g_2.2.2.2.1))), (m3, .inl (cJ, 92, .inr (.inl g_2.2.2.2.2.1))), (m4, .inl (cI, 1573, .inl g_2.2.2.2.2.2.2.2.2.2.2.2.2.2.2.1)), (m5, .inl (cI, 12, .inl g_2.2.2.2.2.2.2.2.2.2.2.2.2.2.2.2.1))] := hD
            refine lv_aload_n hx hb dX4_average_72 rfl (lv_at hl 1 rfl) ?_
            refine va_get (D := (dC, dI)) (ci := 4) (v := .ref m2) (C := RX4) (T := TX4) (N := 17) hx hb hts hiX4 hown hK hP 0 rfl rfl 3 (by decide) (hts (.fieldLink RX4 13 "TripReckonerModel" "now" "[J") (by decide +kernel)) (fun _ h9 => h9) rfl dX4_average_73 ?_
            refine lv_iconst (v := 2) hx hb dX4_average_76 (by decide) ?_
            refine lv_iconst (v := 5) hx hb dX4_average_77 (by decide) ?_
            refine lv_iload_n hx hb dX4_average_78 rfl (lv_at hl 2 rfl) ?_
            refine lv_imul hx hb dX4_average_79 ?_
            refine lv_iadd hx hb dX4_average_80 ?_
            refine lv_iload_n hx hb dX4_average_81 rfl (lv_at hl 3 rfl) ?_
            refine lv_if_eq (tgt := 89) hx hb dX4_average_82 (by decide) (fun c_13 => ?_) (fun c_13 => absurd c_11 c_13)
            refine lv_iconst (v := 2) hx hb dX4_average_89 (by decide) ?_
            refine lv_iadd hx hb dX4_average_90 ?_
            refine va_lald hx hb hK hP 2 1 rfl rfl (mk_in2 (isMark4_in c_4) (vd (by decide +kernel))) dX4_average_91 ?_
            refine lv_ldc2 hx hb hown (hts (.constantLong RX4 132 (100000)) (by decide +kernel)) dX4_average_92 ?_
            refine lv_lmul hx hb dX4_average_95 ?_
            refine lv_lstore (lv' := [(6, .long ((g_2.2.2.2.1 (((2 + (5 * k)) + 2).toNatClampNeg)) * 100000)), (4, .long ((g_2.2.2.2.1 (((2 + (5 * k)) + 1).toNatClampNeg)) * g_2.2.2.2.2.2.2.1.toInt64)), (0, .ref m0), (1, .int k), (2, .int z), (3, .int wh)]) hx hb dX4_average_96 hl (by decide) rfl (fun ls hl => ?_)
            refine lv_iload_n hx hb dX4_average_98 rfl (lv_at hl 5 rfl) ?_
            refine lv_if_ne (tgt := 107) hx hb dX4_average_99 (by decide) (fun c_14 => ?_) (fun c_14 => ?_)
            · refine lv_lload hx hb dX4_average_107 (lv_at hl 1 rfl) ?_
              refine lv_lload hx hb dX4_average_109 (lv_at hl 0 rfl) ?_
              refine lv_lload hx hb dX4_average_111 (lv_at hl 1 rfl) ?_
              have hPc := hP.sub (ws' := []) [] rfl
              have hDc := hD.sub (ws' := []) [] (by decide) rfl
              have hFc := va_free (wc := []) hD hS hA [] rfl
              refine va_calll (va_runS (As := [.long ((g_2.2.2.2.1 (((2 + (5 * k)) + 2).toNatClampNeg)) * 100000), .long ((g_2.2.2.2.1 (((2 + (5 * k)) + 1).toNatClampNeg)) * g_2.2.2.2.2.2.2.1.toInt64)]) (rest := [.long ((g_2.2.2.2.1 (((2 + (5 * k)) + 1).toNatClampNeg)) * g_2.2.2.2.2.2.2.1.toInt64)]) ⟨hx, hb, hml, hown, hts⟩ (kX4_common l dC dI cI cJ H.size ((g_2.2.2.2.1 (((2 + (5 * k)) + 2).toNatClampNeg)) * 100000) ((g_2.2.2.2.1 (((2 + (5 * k)) + 1).toNatClampNeg)) * g_2.2.2.2.2.2.2.1.toInt64) (hm _ eg_2 k 2 (isMark4_in c_4) (vd (by decide +kernel))).2 (hm _ eg_2 k 1 (isMark4_in c_4) (vd (by decide +kernel))).1) (va_cwS 2 hts gX4_average_X4_common rfl rfl rfl (by decide +kernel) ⟨Nat.le_of_ble_eq_true rfl, Nat.le_of_ble_eq_true rfl⟩) ⟨fun a U g mk q => by obtain ⟨q0, q1, qP, qK, qD⟩ := q; exact ⟨q0, q1, qP, va_K.moved (u := U) (U := U.calling g mk a) (Vm.Alike.refl U.vm) qK, qD⟩, fun U hU hW => ⟨rfl, by rw [hU], by rw [hU]; exact hPc, va_K.moved hW.alike hK, hDc.weaken (fun _ _ _ _ => trivial)⟩⟩ rfl rfl hl.1 rfl (lv_room (Nat.le_of_ble_eq_true rfl)) dX4_average_113 ⟨Nat.le_of_ble_eq_true rfl, Nat.le_of_ble_eq_true rfl⟩) hS (fun q _ h => hFc q h) hFc (fun r_15 _ t H1 locs ht hvm hw hB hz1 hk1 hS => ?_)
              obtain ⟨hP1, hK1, hD1⟩ := hB
              rw [ht] at hP1
              obtain ⟨hP, hD⟩ := va_join (wr := [(m0, .inr (4, [.int 0, .ref m1, .int g_2.2.2.1, .ref m2, .ref m3, .int g_2.2.2.2.2.2.1, .int g_2.2.2.2.2.2.2.1, .int g_2.2.2.2.2.2.2.2.1, .int g_2.2.2.2.2.2.2.2.2.1, .int g_2.2.2.2.2.2.2.2.2.2.1, .int g_2.2.2.2.2.2.2.2.2.2.2.1, .int g_2.2.2.2.2.2.2.2.2.2.2.2.1, .long g_2.2.2.2.2.2.2.2.2.2.2.2.2.1, .int g_2.2.2.2.2.2.2.2.2.2.2.2.2.2.1, .ref m4, .ref m5, .int g_2.2.2.2.2.2.2.2.2.2.2.2.2.2.2.2.2])), (m1, .inl (cI, 60, .inl g_2.2.1)), (m2, .inl (cJ, 92, .inr (.inl g_2.2.2.2.1))), (m3, .inl (cJ, 92, .inr (.inl g_2.2.2.2.2.1))), (m4, .inl (cI, 1573, .inl g_2.2.2.2.2.2.2.2.2.2.2.2.2.2.2.1)), (m5, .inl (cI, 12, .inl g_2.2.2.2.2.2.2.2.2.2.2.2.2.2.2.2.1))]) (w1 := []) hP hD [] [0, 1, 2, 3, 4, 5] rfl rfl (by decide) (by decide) hk1 hFc hP1 hD1
              generalize H1 = H at hP hS ⊢
              have hP : va_P (dC, dI) vwCl [(m0, .inr (4, [.int 0, .ref m1, .int g_2.2.2.1, .ref m2, .ref m3, .int g_2.2.2.2.2.2.1, .int g_2.2.2.2.2.2.2.1, .int g_2.2.2.2.2.2.2.2.1, .int g_2.2.2.2.2.2.2.2.2.1, .int g_2.2.2.2.2.2.2.2.2.2.1, .int g_2.2.2.2.2.2.2.2.2.2.2.1, .int g_2.2.2.2.2.2.2.2.2.2.2.2.1, .long g_2.2.2.2.2.2.2.2.2.2.2.2.2.1, .int g_2.2.2.2.2.2.2.2.2.2.2.2.2.2.1, .ref m4, .ref m5, .int g_2.2.2.2.2.2.2.2.2.2.2.2.2.2.2.2.2])), (m1, .inl (cI, 60, .inl g_2.2.1)), (m2, .inl (cJ, 92, .inr (.inl g_2.2.2.2.1))), (m3, .inl (cJ, 92, .inr (.inl g_2.2.2.2.2.1))), (m4, .inl (cI, 1573, .inl g_2.2.2.2.2.2.2.2.2.2.2.2.2.2.2.1)), (m5, .inl (cI, 12, .inl g_2.2.2.2.2.2.2.2.2.2.2.2.2.2.2.2.1))] H := hP
              have hD : va_D A [(m0, .inr (4, [.int 0, .ref m1, .int g_2.2.2.1, .ref m2, .ref m3, .int g_2.2.2.2.2.2.1, .int g_2.2.2.2.2.2.2.1, .int g_2.2.2.2.2.2.2.2.1, .int g_2.2.2.2.2.2.2.2.2.1, .int g_2.2.2.2.2.2.2.2.2.2.1, .int g_2.2.2.2.2.2.2.2.2.2.2.1, .int g_2.2.2.2.2.2.2.2.2.2.2.2.1, .long g_2.2.2.2.2.2.2.2.2.2.2.2.2.1, .int g_2.2.2.2.2.2.2.2.2.2.2.2.2.2.1, .ref m4, .ref m5, .int g_2.2.2.2.2.2.2.2.2.2.2.2.2.2.2.2.2])), (m1, .inl (cI, 60, .inl g_2.2.1)), (m2, .inl (cJ, 92, .inr (.inl g_2.2.2.2.1))), (m3, .inl (cJ, 92, .inr (.inl g_2.2.2.2.2.1))), (m4, .inl (cI, 1573, .inl g_2.2.2.2.2.2.2.2.2.2.2.2.2.2.2.1)), (m5, .inl (cI, 12, .inl g_2.2.2.2.2.2.2.2.2.2.2.2.2.2.2.2.1))] := hD
              subst hw
              refine lv_ldiv hx hb dX4_average_116 (common_ne0 (hm _ eg_2 k 1 (isMark4_in c_4) (vd (by decide +kernel))).1 c_12) ?_
              have es0 : sX4_average k z wh v = (0, g_2.2.1, g_2.2.2.1, g_2.2.2.2.1, g_2.2.2.2.2.1, g_2.2.2.2.2.2.1, g_2.2.2.2.2.2.2.1, g_2.2.2.2.2.2.2.2.1, g_2.2.2.2.2.2.2.2.2.1, g_2.2.2.2.2.2.2.2.2.2.1, g_2.2.2.2.2.2.2.2.2.2.2.1, g_2.2.2.2.2.2.2.2.2.2.2.2.1, g_2.2.2.2.2.2.2.2.2.2.2.2.2.1, g_2.2.2.2.2.2.2.2.2.2.2.2.2.2.1, g_2.2.2.2.2.2.2.2.2.2.2.2.2.2.2.1, g_2.2.2.2.2.2.2.2.2.2.2.2.2.2.2.2.1, g_2.2.2.2.2.2.2.2.2.2.2.2.2.2.2.2.2) := by rw [sX4_average, ← eg_2, sX4_average_g_2, if_neg c_4, if_neg c_7, if_pos c_10, if_pos c_11, if_neg c_12, if_neg c_14]
              have er : ((g_2.2.2.2.1 (((2 + (5 * k)) + 1).toNatClampNeg)) * g_2.2.2.2.2.2.2.1.toInt64) / (rX4_common ((g_2.2.2.2.1 (((2 + (5 * k)) + 2).toNatClampNeg)) * 100000) ((g_2.2.2.2.1 (((2 + (5 * k)) + 1).toNatClampNeg)) * g_2.2.2.2.2.2.2.1.toInt64)) = rX4_average k z wh v := by rw [rX4_average, ← eg_2, rX4_average_g_2, if_neg c_4, if_neg c_7, if_pos c_10, if_pos c_11, if_neg c_12, if_neg c_14]
              refine W.lret (v := ((g_2.2.2.2.1 (((2 + (5 * k)) + 1).toNatClampNeg)) * g_2.2.2.2.2.2.2.1.toInt64) / (rX4_common ((g_2.2.2.2.1 (((2 + (5 * k)) + 2).toNatClampNeg)) * 100000) ((g_2.2.2.2.1 (((2 + (5 * k)) + 1).toNatClampNeg)) * g_2.2.2.2.2.2.2.1.toInt64))) hx hb hr (fun t ht hW => ⟨⟨((g_2.2.2.2.1 (((2 + (5 * k)) + 1).toNatClampNeg)) * g_2.2.2.2.2.2.2.1.toInt64) / (rX4_common ((g_2.2.2.2.1 (((2 + (5 * k)) + 2).toNatClampNeg)) * 100000) ((g_2.2.2.2.1 (((2 + (5 * k)) + 1).toNatClampNeg)) * g_2.2.2.2.2.2.2.1.toInt64)), (), rfl, er, ?_⟩, hS.F ht⟩) hS.2.2 dX4_average_117
              rw [es0]; exact ⟨by rw [ht]; exact hP, va_K.moved hW.alike hK, hD⟩
            · refine lv_lload hx hb dX4_average_102 (lv_at hl 0 rfl) ?_
              refine lv_goto (tgt := 109) hx hb dX4_average_104 (by decide) ?_
              refine lv_lload hx hb dX4_average_109 (lv_at hl 0 rfl) ?_
              refine lv_lload hx hb dX4_average_111 (lv_at hl 1 rfl) ?_
              have hPc := hP.sub (ws' := []) [] rfl
              have hDc := hD.sub (ws' := []) [] (by decide) rfl
              have hFc := va_free (wc := []) hD hS hA [] rfl
              refine va_calll (va_runS (As := [.long ((g_2.2.2.2.1 (((2 + (5 * k)) + 2).toNatClampNeg)) * 100000), .long ((g_2.2.2.2.1 (((2 + (5 * k)) + 1).toNatClampNeg)) * g_2.2.2.2.2.2.2.1.toInt64)]) (rest := [.long ((g_2.2.2.2.1 (((2 + (5 * k)) + 2).toNatClampNeg)) * 100000)]) ⟨hx, hb, hml, hown, hts⟩ (kX4_common l dC dI cI cJ H.size ((g_2.2.2.2.1 (((2 + (5 * k)) + 2).toNatClampNeg)) * 100000) ((g_2.2.2.2.1 (((2 + (5 * k)) + 1).toNatClampNeg)) * g_2.2.2.2.2.2.2.1.toInt64) (hm _ eg_2 k 2 (isMark4_in c_4) (vd (by decide +kernel))).2 (hm _ eg_2 k 1 (isMark4_in c_4) (vd (by decide +kernel))).1) (va_cwS 2 hts gX4_average_X4_common rfl rfl rfl (by decide +kernel) ⟨Nat.le_of_ble_eq_true rfl, Nat.le_of_ble_eq_true rfl⟩) ⟨fun a U g mk q => by obtain ⟨q0, q1, qP, qK, qD⟩ := q; exact ⟨q0, q1, qP, va_K.moved (u := U) (U := U.calling g mk a) (Vm.Alike.refl U.vm) qK, qD⟩, fun U hU hW => ⟨rfl, by rw [hU], by rw [hU]; exact hPc, va_K.moved hW.alike hK, hDc.weaken (fun _ _ _ _ => trivial)⟩⟩ rfl rfl hl.1 rfl (lv_room (Nat.le_of_ble_eq_true rfl)) dX4_average_113 ⟨Nat.le_of_ble_eq_true rfl, Nat.le_of_ble_eq_true rfl⟩) hS (fun q _ h => hFc q h) hFc (fun r_16 _ t H1 locs ht hvm hw hB hz1 hk1 hS => ?_)
              obtain ⟨hP1, hK1, hD1⟩ := hB
              rw [ht] at hP1
              obtain ⟨hP, hD⟩ := va_join (wr := [(m0, .inr (4, [.int 0, .ref m1, .int g_2.2.2.1, .ref m2, .ref m3, .int g_2.2.2.2.2.2.1, .int g_2.2.2.2.2.2.2.1, .int g_2.2.2.2.2.2.2.2.1, .int g_2.2.2.2.2.2.2.2.2.1, .int g_2.2.2.2.2.2.2.2.2.2.1, .int g_2.2.2.2.2.2.2.2.2.2.2.1, .int g_2.2.2.2.2.2.2.2.2.2.2.2.1, .long g_2.2.2.2.2.2.2.2.2.2.2.2.2.1, .int g_2.2.2.2.2.2.2.2.2.2.2.2.2.2.1, .ref m4, .ref m5, .int g_2.2.2.2.2.2.2.2.2.2.2.2.2.2.2.2.2])), (m1, .inl (cI, 60, .inl g_2.2.1)), (m2, .inl (cJ, 92, .inr (.inl g_2.2.2.2.1))), (m3, .inl (cJ, 92, .inr (.inl g_2.2.2.2.2.1))), (m4, .inl (cI, 1573, .inl g_2.2.2.2.2.2.2.2.2.2.2.2.2.2.2.1)), (m5, .inl (cI, 12, .inl g_2.2.2.2.2.2.2.2.2.2.2.2.2.2.2.2.1))]) (w1 := []) hP hD [] [0, 1, 2, 3, 4, 5] rfl rfl (by decide) (by decide) hk1 hFc hP1 hD1
              generalize H1 = H at hP hS ⊢
              have hP : va_P (dC, dI) vwCl [(m0, .inr (4, [.int 0, .ref m1, .int g_2.2.2.1, .ref m2, .ref m3, .int g_2.2.2.2.2.2.1, .int g_2.2.2.2.2.2.2.1, .int g_2.2.2.2.2.2.2.2.1, .int g_2.2.2.2.2.2.2.2.2.1, .int g_2.2.2.2.2.2.2.2.2.2.1, .int g_2.2.2.2.2.2.2.2.2.2.2.1, .int g_2.2.2.2.2.2.2.2.2.2.2.2.1, .long g_2.2.2.2.2.2.2.2.2.2.2.2.2.1, .int g_2.2.2.2.2.2.2.2.2.2.2.2.2.2.1, .ref m4, .ref m5, .int g_2.2.2.2.2.2.2.2.2.2.2.2.2.2.2.2.2])), (m1, .inl (cI, 60, .inl g_2.2.1)), (m2, .inl (cJ, 92, .inr (.inl g_2.2.2.2.1))), (m3, .inl (cJ, 92, .inr (.inl g_2.2.2.2.2.1))), (m4, .inl (cI, 1573, .inl g_2.2.2.2.2.2.2.2.2.2.2.2.2.2.2.1)), (m5, .inl (cI, 12, .inl g_2.2.2.2.2.2.2.2.2.2.2.2.2.2.2.2.1))] H := hP
              have hD : va_D A [(m0, .inr (4, [.int 0, .ref m1, .int g_2.2.2.1, .ref m2, .ref m3, .int g_2.2.2.2.2.2.1, .int g_2.2.2.2.2.2.2.1, .int g_2.2.2.2.2.2.2.2.1, .int g_2.2.2.2.2.2.2.2.2.1, .int g_2.2.2.2.2.2.2.2.2.2.1, .int g_2.2.2.2.2.2.2.2.2.2.2.1, .int g_2.2.2.2.2.2.2.2.2.2.2.2.1, .long g_2.2.2.2.2.2.2.2.2.2.2.2.2.1, .int g_2.2.2.2.2.2.2.2.2.2.2.2.2.2.1, .ref m4, .ref m5, .int g_2.2.2.2.2.2.2.2.2.2.2.2.2.2.2.2.2])), (m1, .inl (cI, 60, .inl g_2.2.1)), (m2, .inl (cJ, 92, .inr (.inl g_2.2.2.2.1))), (m3, .inl (cJ, 92, .inr (.inl g_2.2.2.2.2.1))), (m4, .inl (cI, 1573, .inl g_2.2.2.2.2.2.2.2.2.2.2.2.2.2.2.1)), (m5, .inl (cI, 12, .inl g_2.2.2.2.2.2.2.2.2.2.2.2.2.2.2.2.1))] := hD
              subst hw
              refine lv_ldiv hx hb dX4_average_116 (common_ne0 (hm _ eg_2 k 1 (isMark4_in c_4) (vd (by decide +kernel))).1 c_12) ?_
              have es0 : sX4_average k z wh v = (0, g_2.2.1, g_2.2.2.1, g_2.2.2.2.1, g_2.2.2.2.2.1, g_2.2.2.2.2.2.1, g_2.2.2.2.2.2.2.1, g_2.2.2.2.2.2.2.2.1, g_2.2.2.2.2.2.2.2.2.1, g_2.2.2.2.2.2.2.2.2.2.1, g_2.2.2.2.2.2.2.2.2.2.2.1, g_2.2.2.2.2.2.2.2.2.2.2.2.1, g_2.2.2.2.2.2.2.2.2.2.2.2.2.1, g_2.2.2.2.2.2.2.2.2.2.2.2.2.2.1, g_2.2.2.2.2.2.2.2.2.2.2.2.2.2.2.1, g_2.2.2.2.2.2.2.2.2.2.2.2.2.2.2.2.1, g_2.2.2.2.2.2.2.2.2.2.2.2.2.2.2.2.2) := by rw [sX4_average, ← eg_2, sX4_average_g_2, if_neg c_4, if_neg c_7, if_pos c_10, if_pos c_11, if_neg c_12, if_pos c_14]
              have er : ((g_2.2.2.2.1 (((2 + (5 * k)) + 2).toNatClampNeg)) * 100000) / (rX4_common ((g_2.2.2.2.1 (((2 + (5 * k)) + 2).toNatClampNeg)) * 100000) ((g_2.2.2.2.1 (((2 + (5 * k)) + 1).toNatClampNeg)) * g_2.2.2.2.2.2.2.1.toInt64)) = rX4_average k z wh v := by rw [rX4_average, ← eg_2, rX4_average_g_2, if_neg c_4, if_neg c_7, if_pos c_10, if_pos c_11, if_neg c_12, if_pos c_14]
              refine W.lret (v := ((g_2.2.2.2.1 (((2 + (5 * k)) + 2).toNatClampNeg)) * 100000) / (rX4_common ((g_2.2.2.2.1 (((2 + (5 * k)) + 2).toNatClampNeg)) * 100000) ((g_2.2.2.2.1 (((2 + (5 * k)) + 1).toNatClampNeg)) * g_2.2.2.2.2.2.2.1.toInt64))) hx hb hr (fun t ht hW => ⟨⟨((g_2.2.2.2.1 (((2 + (5 * k)) + 2).toNatClampNeg)) * 100000) / (rX4_common ((g_2.2.2.2.1 (((2 + (5 * k)) + 2).toNatClampNeg)) * 100000) ((g_2.2.2.2.1 (((2 + (5 * k)) + 1).toNatClampNeg)) * g_2.2.2.2.2.2.2.1.toInt64)), (), rfl, er, ?_⟩, hS.F ht⟩) hS.2.2 dX4_average_117
              rw [es0]; exact ⟨by rw [ht]; exact hP, va_K.moved hW.alike hK, hD⟩
          · refine lv_aload_n hx hb dX4_average_61 rfl (lv_at hl 1 rfl) ?_
            have hPc := hP.sub (ws' := [cM0 m0 m1 m2 m3 m4 m5 g_2, cM1 cI m1 g_2, cM2 cJ m2 g_2, cM3 cJ m3 g_2, cM4 cI m4 g_2, cM5 cI m5 g_2]) [0, 1, 2, 3, 4, 5] rfl
            have hDc := hD.sub (ws' := [cM0 m0 m1 m2 m3 m4 m5 g_2, cM1 cI m1 g_2, cM2 cJ m2 g_2, cM3 cJ m3 g_2, cM4 cI m4 g_2, cM5 cI m5 g_2]) [0, 1, 2, 3, 4, 5] (by decide) rfl
            have hFc := va_free (wc := [cM0 m0 m1 m2 m3 m4 m5 g_2, cM1 cI m1 g_2, cM2 cJ m2 g_2, cM3 cJ m3 g_2, cM4 cI m4 g_2, cM5 cI m5 g_2]) hD hS hA [0, 1, 2, 3, 4, 5] rfl
            refine va_calli (va_runV (As := []) (rest := []) ⟨hx, hb, hml, hown, hts⟩ (kX4_refuse l dC dI cI cJ m0 m1 m2 m3 m4 m5 H.size g_2) (cwV 0 hts gX4_average_X4_refuse rfl rfl rfl (by decide +kernel) ⟨Nat.le_of_ble_eq_true rfl, Nat.le_of_ble_eq_true rfl⟩) ⟨fun a U g mk q => by obtain ⟨q0, q1, qP, qK, qD⟩ := q; exact ⟨q0, q1, qP, va_K.moved (u := U) (U := U.calling g mk a) (Vm.Alike.refl U.vm) qK, qD⟩, va_recv hK hPc (ci := 4) (q0 := 0) rfl rfl, fun U hU hW => ⟨rfl, by rw [hU], by rw [hU]; exact hPc, va_K.moved hW.alike hK, hDc.weaken (fun _ _ _ _ => trivial)⟩⟩ rfl rfl hl.1 rfl (lv_room (Nat.le_of_ble_eq_true rfl)) dX4_average_62 ⟨Nat.le_of_ble_eq_true rfl, Nat.le_of_ble_eq_true rfl⟩) hS (fun q _ h => hFc q h) hFc (fun r_17 _ t H1 locs ht hvm hw hB hz1 hk1 hS => ?_)
            obtain ⟨hP1, hK1, hD1⟩ := hB
            rw [ht] at hP1
            obtain ⟨g_18, eg_18⟩ : ∃ z, z = sX4_refuse g_2 := ⟨_, rfl⟩
            rw [← eg_18] at hP1 hD1
            obtain ⟨hP, hD⟩ := va_join (wr := []) (w1 := [cM0 m0 m1 m2 m3 m4 m5 g_18, cM1 cI m1 g_18, cM2 cJ m2 g_18, cM3 cJ m3 g_18, cM4 cI m4 g_18, cM5 cI m5 g_18]) hP hD [0, 1, 2, 3, 4, 5] [] rfl rfl (by decide) (by decide) hk1 hFc hP1 hD1
            generalize H1 = H at hP hS ⊢
            have hP : va_P (dC, dI) vwCl [cM0 m0 m1 m2 m3 m4 m5 g_18, cM1 cI m1 g_18, cM2 cJ m2 g_18, cM3 cJ m3 g_18, cM4 cI m4 g_18, cM5 cI m5 g_18] H := hP
            have hD : va_D A [cM0 m0 m1 m2 m3 m4 m5 g_18, cM1 cI m1 g_18, cM2 cJ m2 g_18, cM3 cJ m3 g_18, cM4 cI m4 g_18, cM5 cI m5 g_18] := hD
            subst hw
            refine lv_i2l (v := (rX4_refuse g_2).toInt64) hx hb dX4_average_65 rfl ?_
            have es0 : sX4_average k z wh v = g_18 := by rw [sX4_average, ← eg_2, sX4_average_g_2, if_neg c_4, if_neg c_7, if_pos c_10, if_pos c_11, if_pos c_12, ← eg_18, sX4_average_g_18]
            have er : (rX4_refuse g_2).toInt64 = rX4_average k z wh v := by rw [rX4_average, ← eg_2, rX4_average_g_2, if_neg c_4, if_neg c_7, if_pos c_10, if_pos c_11, if_pos c_12, ← eg_18, rX4_average_g_18]
            refine W.lret (v := (rX4_refuse g_2).toInt64) hx hb hr (fun t ht hW => ⟨⟨(rX4_refuse g_2).toInt64, (), rfl, er, ?_⟩, hS.F ht⟩) hS.2.2 dX4_average_66
            rw [es0]; exact ⟨by rw [ht]; exact hP, va_K.moved hW.alike hK, hD⟩
        · refine lv_iconst (v := 0) hx hb dX4_average_39 (by decide) ?_
          refine lv_goto (tgt := 44) hx hb dX4_average_40 (by decide) ?_
          refine lv_iadd hx hb dX4_average_44 ?_
          refine va_lald hx hb hK hP 2 1 rfl rfl (mk_in2 (isMark4_in c_4) (vd (by decide +kernel))) dX4_average_45 ?_
          refine lv_aload_n hx hb dX4_average_46 rfl (lv_at hl 0 rfl) ?_
          refine va_get (D := (dC, dI)) (ci := 4) (v := .int g_2.2.2.2.2.2.2.1) (C := RX4) (T := TX4) (N := 17) hx hb hts hiX4 hown hK hP 0 rfl rfl 6 (by decide) (hts (.fieldLink RX4 25 "TripReckonerModel" "metres" "I") (by decide +kernel)) (fun _ h9 => h9) rfl dX4_average_47 ?_
          refine lv_i2l (v := g_2.2.2.2.2.2.2.1.toInt64) hx hb dX4_average_50 rfl ?_
          refine lv_lmul hx hb dX4_average_51 ?_
          refine lv_lstore (lv' := [(4, .long ((g_2.2.2.2.1 (((2 + (5 * k)) + 0).toNatClampNeg)) * g_2.2.2.2.2.2.2.1.toInt64)), (0, .ref m0), (1, .int k), (2, .int z), (3, .int wh)]) hx hb dX4_average_52 hl (by decide) rfl (fun ls hl => ?_)
          refine lv_lload hx hb dX4_average_54 (lv_at hl 0 rfl) ?_
          refine lv_lconst (v := 0) hx hb dX4_average_56 (by decide) ?_
          refine W.lcmp hx hb dX4_average_57 ?_
          refine lv_if_ne (tgt := 67) hx hb dX4_average_58 (by decide) (fun c_19 => ?_) (fun c_19 => ?_)
          · refine lv_aload_n hx hb dX4_average_67 rfl (lv_at hl 1 rfl) ?_
            refine lv_iconst (v := 0) hx hb dX4_average_68 (by decide) ?_
            refine va_put (D := (dC, dI)) (ci := 4) (v := .int 0) (ty := .int) (C := RX4) (T := TX4) (N := 17) hx hb hts hiX4 tyX4 tyX4_ok nmX4 hown hK hP hD hS 0 rfl rfl 0 (by decide) (hts (.fieldLink RX4 49 "TripReckonerModel" "thrown" "I") (by decide +kernel)) (fun _ h9 => h9) rfl (by decide +kernel) rfl rfl (Nat.le_of_ble_eq_true rfl) dX4_average_69 (fun H locs hP hD hS => ?_)
            have hP : va_P (dC, dI) vwCl [(m0, .inr (4, [.int 0, .ref m1, .int g_2.2.2.1, .ref m2, .ref m3, .int g_2.2.2.2.2.2.1, .int g_2.2.2.2.2.2.2.1, .int g_2.2.2.2.2.2.2.2.1, .int g_2.2.2.2.2.2.2.2.2.1, .int g_2.2.2.2.2.2.2.2.2.2.1, .int g_2.2.2.2.2.2.2.2.2.2.2.1, .int g_2.2.2.2.2.2.2.2.2.2.2.2.1, .long g_2.2.2.2.2.2.2.2.2.2.2.2.2.1, .int g_2.2.2.2.2.2.2.2.2.2.2.2.2.2.1, .ref m4, .ref m5, .int g_2.2.2.2.2.2.2.2.2.2.2.2.2.2.2.2.2])), (m1, .inl (cI, 60, .inl g_2.2.1)), (m2, .inl (cJ, 92, .inr (.inl g_2.2.2.2.1))), (m3, .inl (cJ, 92, .inr (.inl g_2.2.2.2.2.1))), (m4, .inl (cI, 1573, .inl g_2.2.2.2.2.2.2.2.2.2.2.2.2.2.2.1)), (m5, .inl (cI, 12, .inl g_2.2.2.2.2.2.2.2.2.2.2.2.2.2.2.2.1))] H := hP
            have hD : va_D A [(m0, .inr (4, [.int 0, .ref m1, .int g_2.2.2.1, .ref m2, .ref m3, .int g_2.2.2.2.2.2.1, .int g_2.2.2.2.2.2.2.1, .int g_2.2.2.2.2.2.2.2.1, .int g_2.2.2.2.2.2.2.2.2.1, .int g_2.2.2.2.2.2.2.2.2.2.1, .int g_2.2.2.2.2.2.2.2.2.2.2.1, .int g_2.2.2.2.2.2.2.2.2.2.2.2.1, .long g_2.2.2.2.2.2.2.2.2.2.2.2.2.1, .int g_2.2.2.2.2.2.2.2.2.2.2.2.2.2.1, .ref m4, .ref m5, .int g_2.2.2.2.2.2.2.2.2.2.2.2.2.2.2.2.2])), (m1, .inl (cI, 60, .inl g_2.2.1)), (m2, .inl (cJ, 92, .inr (.inl g_2.2.2.2.1))), (m3, .inl (cJ, 92, .inr (.inl g_2.2.2.2.2.1))), (m4, .inl (cI, 1573, .inl g_2.2.2.2.2.2.2.2.2.2.2.2.2.2.2.1)), (m5, .inl (cI, 12, .inl g_2.2.2.2.2.2.2.2.2.2.2.2.2.2.2.2.1))] := hD
            refine lv_aload_n hx hb dX4_average_72 rfl (lv_at hl 1 rfl) ?_
            refine va_get (D := (dC, dI)) (ci := 4) (v := .ref m2) (C := RX4) (T := TX4) (N := 17) hx hb hts hiX4 hown hK hP 0 rfl rfl 3 (by decide) (hts (.fieldLink RX4 13 "TripReckonerModel" "now" "[J") (by decide +kernel)) (fun _ h9 => h9) rfl dX4_average_73 ?_
            refine lv_iconst (v := 2) hx hb dX4_average_76 (by decide) ?_
            refine lv_iconst (v := 5) hx hb dX4_average_77 (by decide) ?_
            refine lv_iload_n hx hb dX4_average_78 rfl (lv_at hl 2 rfl) ?_
            refine lv_imul hx hb dX4_average_79 ?_
            refine lv_iadd hx hb dX4_average_80 ?_
            refine lv_iload_n hx hb dX4_average_81 rfl (lv_at hl 3 rfl) ?_
            refine lv_if_eq (tgt := 89) hx hb dX4_average_82 (by decide) (fun c_20 => absurd c_20 c_11) (fun c_20 => ?_)
            refine lv_iconst (v := 3) hx hb dX4_average_85 (by decide) ?_
            refine lv_goto (tgt := 90) hx hb dX4_average_86 (by decide) ?_
            refine lv_iadd hx hb dX4_average_90 ?_
            refine va_lald hx hb hK hP 2 1 rfl rfl (mk_in2 (isMark4_in c_4) (vd (by decide +kernel))) dX4_average_91 ?_
            refine lv_ldc2 hx hb hown (hts (.constantLong RX4 132 (100000)) (by decide +kernel)) dX4_average_92 ?_
            refine lv_lmul hx hb dX4_average_95 ?_
            refine lv_lstore (lv' := [(6, .long ((g_2.2.2.2.1 (((2 + (5 * k)) + 3).toNatClampNeg)) * 100000)), (4, .long ((g_2.2.2.2.1 (((2 + (5 * k)) + 0).toNatClampNeg)) * g_2.2.2.2.2.2.2.1.toInt64)), (0, .ref m0), (1, .int k), (2, .int z), (3, .int wh)]) hx hb dX4_average_96 hl (by decide) rfl (fun ls hl => ?_)
            refine lv_iload_n hx hb dX4_average_98 rfl (lv_at hl 5 rfl) ?_
            refine lv_if_ne (tgt := 107) hx hb dX4_average_99 (by decide) (fun c_21 => ?_) (fun c_21 => ?_)
            · refine lv_lload hx hb dX4_average_107 (lv_at hl 1 rfl) ?_
              refine lv_lload hx hb dX4_average_109 (lv_at hl 0 rfl) ?_
              refine lv_lload hx hb dX4_average_111 (lv_at hl 1 rfl) ?_
              have hPc := hP.sub (ws' := []) [] rfl
              have hDc := hD.sub (ws' := []) [] (by decide) rfl
              have hFc := va_free (wc := []) hD hS hA [] rfl
              refine va_calll (va_runS (As := [.long ((g_2.2.2.2.1 (((2 + (5 * k)) + 3).toNatClampNeg)) * 100000), .long ((g_2.2.2.2.1 (((2 + (5 * k)) + 0).toNatClampNeg)) * g_2.2.2.2.2.2.2.1.toInt64)]) (rest := [.long ((g_2.2.2.2.1 (((2 + (5 * k)) + 0).toNatClampNeg)) * g_2.2.2.2.2.2.2.1.toInt64)]) ⟨hx, hb, hml, hown, hts⟩ (kX4_common l dC dI cI cJ H.size ((g_2.2.2.2.1 (((2 + (5 * k)) + 3).toNatClampNeg)) * 100000) ((g_2.2.2.2.1 (((2 + (5 * k)) + 0).toNatClampNeg)) * g_2.2.2.2.2.2.2.1.toInt64) (hm _ eg_2 k 3 (isMark4_in c_4) (vd (by decide +kernel))).2 (hm _ eg_2 k 0 (isMark4_in c_4) (vd (by decide +kernel))).1) (va_cwS 2 hts gX4_average_X4_common rfl rfl rfl (by decide +kernel) ⟨Nat.le_of_ble_eq_true rfl, Nat.le_of_ble_eq_true rfl⟩) ⟨fun a U g mk q => by obtain ⟨q0, q1, qP, qK, qD⟩ := q; exact ⟨q0, q1, qP, va_K.moved (u := U) (U := U.calling g mk a) (Vm.Alike.refl U.vm) qK, qD⟩, fun U hU hW => ⟨rfl, by rw [hU], by rw [hU]; exact hPc, va_K.moved hW.alike hK, hDc.weaken (fun _ _ _ _ => trivial)⟩⟩ rfl rfl hl.1 rfl (lv_room (Nat.le_of_ble_eq_true rfl)) dX4_average_113 ⟨Nat.le_of_ble_eq_true rfl, Nat.le_of_ble_eq_true rfl⟩) hS (fun q _ h => hFc q h) hFc (fun r_22 _ t H1 locs ht hvm hw hB hz1 hk1 hS => ?_)
              obtain ⟨hP1, hK1, hD1⟩ := hB
              rw [ht] at hP1
              obtain ⟨hP, hD⟩ := va_join (wr := [(m0, .inr (4, [.int 0, .ref m1, .int g_2.2.2.1, .ref m2, .ref m3, .int g_2.2.2.2.2.2.1, .int g_2.2.2.2.2.2.2.1, .int g_2.2.2.2.2.2.2.2.1, .int g_2.2.2.2.2.2.2.2.2.1, .int g_2.2.2.2.2.2.2.2.2.2.1, .int g_2.2.2.2.2.2.2.2.2.2.2.1, .int g_2.2.2.2.2.2.2.2.2.2.2.2.1, .long g_2.2.2.2.2.2.2.2.2.2.2.2.2.1, .int g_2.2.2.2.2.2.2.2.2.2.2.2.2.2.1, .ref m4, .ref m5, .int g_2.2.2.2.2.2.2.2.2.2.2.2.2.2.2.2.2])), (m1, .inl (cI, 60, .inl g_2.2.1)), (m2, .inl (cJ, 92, .inr (.inl g_2.2.2.2.1))), (m3, .inl (cJ, 92, .inr (.inl g_2.2.2.2.2.1))), (m4, .inl (cI, 1573, .inl g_2.2.2.2.2.2.2.2.2.2.2.2.2.2.2.1)), (m5, .inl (cI, 12, .inl g_2.2.2.2.2.2.2.2.2.2.2.2.2.2.2.2.1))]) (w1 := []) hP hD [] [0, 1, 2, 3, 4, 5] rfl rfl (by decide) (by decide) hk1 hFc hP1 hD1
              generalize H1 = H at hP hS ⊢
              have hP : va_P (dC, dI) vwCl [(m0, .inr (4, [.int 0, .ref m1, .int g_2.2.2.1, .ref m2, .ref m3, .int g_2.2.2.2.2.2.1, .int g_2.2.2.2.2.2.2.1, .int g_2.2.2.2.2.2.2.2.1, .int g_2.2.2.2.2.2.2.2.2.1, .int g_2.2.2.2.2.2.2.2.2.2.1, .int g_2.2.2.2.2.2.2.2.2.2.2.1, .int g_2.2.2.2.2.2.2.2.2.2.2.2.1, .long g_2.2.2.2.2.2.2.2.2.2.2.2.2.1, .int g_2.2.2.2.2.2.2.2.2.2.2.2.2.2.1, .ref m4, .ref m5, .int g_2.2.2.2.2.2.2.2.2.2.2.2.2.2.2.2.2])), (m1, .inl (cI, 60, .inl g_2.2.1)), (m2, .inl (cJ, 92, .inr (.inl g_2.2.2.2.1))), (m3, .inl (cJ, 92, .inr (.inl g_2.2.2.2.2.1))), (m4, .inl (cI, 1573, .inl g_2.2.2.2.2.2.2.2.2.2.2.2.2.2.2.1)), (m5, .inl (cI, 12, .inl g_2.2.2.2.2.2.2.2.2.2.2.2.2.2.2.2.1))] H := hP
              have hD : va_D A [(m0, .inr (4, [.int 0, .ref m1, .int g_2.2.2.1, .ref m2, .ref m3, .int g_2.2.2.2.2.2.1, .int g_2.2.2.2.2.2.2.1, .int g_2.2.2.2.2.2.2.2.1, .int g_2.2.2.2.2.2.2.2.2.1, .int g_2.2.2.2.2.2.2.2.2.2.1, .int g_2.2.2.2.2.2.2.2.2.2.2.1, .int g_2.2.2.2.2.2.2.2.2.2.2.2.1, .long g_2.2.2.2.2.2.2.2.2.2.2.2.2.1, .int g_2.2.2.2.2.2.2.2.2.2.2.2.2.2.1, .ref m4, .ref m5, .int g_2.2.2.2.2.2.2.2.2.2.2.2.2.2.2.2.2])), (m1, .inl (cI, 60, .inl g_2.2.1)), (m2, .inl (cJ, 92, .inr (.inl g_2.2.2.2.1))), (m3, .inl (cJ, 92, .inr (.inl g_2.2.2.2.2.1))), (m4, .inl (cI, 1573, .inl g_2.2.2.2.2.2.2.2.2.2.2.2.2.2.2.1)), (m5, .inl (cI, 12, .inl g_2.2.2.2.2.2.2.2.2.2.2.2.2.2.2.2.1))] := hD
              subst hw
              refine lv_ldiv hx hb dX4_average_116 (common_ne0 (hm _ eg_2 k 0 (isMark4_in c_4) (vd (by decide +kernel))).1 c_19) ?_
              have es0 : sX4_average k z wh v = (0, g_2.2.1, g_2.2.2.1, g_2.2.2.2.1, g_2.2.2.2.2.1, g_2.2.2.2.2.2.1, g_2.2.2.2.2.2.2.1, g_2.2.2.2.2.2.2.2.1, g_2.2.2.2.2.2.2.2.2.1, g_2.2.2.2.2.2.2.2.2.2.1, g_2.2.2.2.2.2.2.2.2.2.2.1, g_2.2.2.2.2.2.2.2.2.2.2.2.1, g_2.2.2.2.2.2.2.2.2.2.2.2.2.1, g_2.2.2.2.2.2.2.2.2.2.2.2.2.2.1, g_2.2.2.2.2.2.2.2.2.2.2.2.2.2.2.1, g_2.2.2.2.2.2.2.2.2.2.2.2.2.2.2.2.1, g_2.2.2.2.2.2.2.2.2.2.2.2.2.2.2.2.2) := by rw [sX4_average, ← eg_2, sX4_average_g_2, if_neg c_4, if_neg c_7, if_pos c_10, if_neg c_11, if_neg c_19, if_neg c_21]
              have er : ((g_2.2.2.2.1 (((2 + (5 * k)) + 0).toNatClampNeg)) * g_2.2.2.2.2.2.2.1.toInt64) / (rX4_common ((g_2.2.2.2.1 (((2 + (5 * k)) + 3).toNatClampNeg)) * 100000) ((g_2.2.2.2.1 (((2 + (5 * k)) + 0).toNatClampNeg)) * g_2.2.2.2.2.2.2.1.toInt64)) = rX4_average k z wh v := by rw [rX4_average, ← eg_2, rX4_average_g_2, if_neg c_4, if_neg c_7, if_pos c_10, if_neg c_11, if_neg c_19, if_neg c_21]
              refine W.lret (v := ((g_2.2.2.2.1 (((2 + (5 * k)) + 0).toNatClampNeg)) * g_2.2.2.2.2.2.2.1.toInt64) / (rX4_common ((g_2.2.2.2.1 (((2 + (5 * k)) + 3).toNatClampNeg)) * 100000) ((g_2.2.2.2.1 (((2 + (5 * k)) + 0).toNatClampNeg)) * g_2.2.2.2.2.2.2.1.toInt64))) hx hb hr (fun t ht hW => ⟨⟨((g_2.2.2.2.1 (((2 + (5 * k)) + 0).toNatClampNeg)) * g_2.2.2.2.2.2.2.1.toInt64) / (rX4_common ((g_2.2.2.2.1 (((2 + (5 * k)) + 3).toNatClampNeg)) * 100000) ((g_2.2.2.2.1 (((2 + (5 * k)) + 0).toNatClampNeg)) * g_2.2.2.2.2.2.2.1.toInt64)), (), rfl, er, ?_⟩, hS.F ht⟩) hS.2.2 dX4_average_117
              rw [es0]; exact ⟨by rw [ht]; exact hP, va_K.moved hW.alike hK, hD⟩
            · refine lv_lload hx hb dX4_average_102 (lv_at hl 0 rfl) ?_
              refine lv_goto (tgt := 109) hx hb dX4_average_104 (by decide) ?_
              refine lv_lload hx hb dX4_average_109 (lv_at hl 0 rfl) ?_
              refine lv_lload hx hb dX4_average_111 (lv_at hl 1 rfl) ?_
              have hPc := hP.sub (ws' := []) [] rfl
              have hDc := hD.sub (ws' := []) [] (by decide) rfl
              have hFc := va_free (wc := []) hD hS hA [] rfl
              refine va_calll (va_runS (As := [.long ((g_2.2.2.2.1 (((2 + (5 * k)) + 3).toNatClampNeg)) * 100000), .long ((g_2.2.2.2.1 (((2 + (5 * k)) + 0).toNatClampNeg)) * g_2.2.2.2.2.2.2.1.toInt64)]) (rest := [.long ((g_2.2.2.2.1 (((2 + (5 * k)) + 3).toNatClampNeg)) * 100000)]) ⟨hx, hb, hml, hown, hts⟩ (kX4_common l dC dI cI cJ H.size ((g_2.2.2.2.1 (((2 + (5 * k)) + 3).toNatClampNeg)) * 100000) ((g_2.2.2.2.1 (((2 + (5 * k)) + 0).toNatClampNeg)) * g_2.2.2.2.2.2.2.1.toInt64) (hm _ eg_2 k 3 (isMark4_in c_4) (vd (by decide +kernel))).2 (hm _ eg_2 k 0 (isMark4_in c_4) (vd (by decide +kernel))).1) (va_cwS 2 hts gX4_average_X4_common rfl rfl rfl (by decide +kernel) ⟨Nat.le_of_ble_eq_true rfl, Nat.le_of_ble_eq_true rfl⟩) ⟨fun a U g mk q => by obtain ⟨q0, q1, qP, qK, qD⟩ := q; exact ⟨q0, q1, qP, va_K.moved (u := U) (U := U.calling g mk a) (Vm.Alike.refl U.vm) qK, qD⟩, fun U hU hW => ⟨rfl, by rw [hU], by rw [hU]; exact hPc, va_K.moved hW.alike hK, hDc.weaken (fun _ _ _ _ => trivial)⟩⟩ rfl rfl hl.1 rfl (lv_room (Nat.le_of_ble_eq_true rfl)) dX4_average_113 ⟨Nat.le_of_ble_eq_true rfl, Nat.le_of_ble_eq_true rfl⟩) hS (fun q _ h => hFc q h) hFc (fun r_23 _ t H1 locs ht hvm hw hB hz1 hk1 hS => ?_)
              obtain ⟨hP1, hK1, hD1⟩ := hB
              rw [ht] at hP1
              obtain ⟨hP, hD⟩ := va_join (wr := [(m0, .inr (4, [.int 0, .ref m1, .int g_2.2.2.1, .ref m2, .ref m3, .int g_2.2.2.2.2.2.1, .int g_2.2.2.2.2.2.2.1, .int g_2.2.2.2.2.2.2.2.1, .int g_2.2.2.2.2.2.2.2.2.1, .int g_2.2.2.2.2.2.2.2.2.2.1, .int g_2.2.2.2.2.2.2.2.2.2.2.1, .int g_2.2.2.2.2.2.2.2.2.2.2.2.1, .long g_2.2.2.2.2.2.2.2.2.2.2.2.2.1, .int g_2.2.2.2.2.2.2.2.2.2.2.2.2.2.1, .ref m4, .ref m5, .int g_2.2.2.2.2.2.2.2.2.2.2.2.2.2.2.2.2])), (m1, .inl (cI, 60, .inl g_2.2.1)), (m2, .inl (cJ, 92, .inr (.inl g_2.2.2.2.1))), (m3, .inl (cJ, 92, .inr (.inl g_2.2.2.2.2.1))), (m4, .inl (cI, 1573, .inl g_2.2.2.2.2.2.2.2.2.2.2.2.2.2.2.1)), (m5, .inl (cI, 12, .inl g_2.2.2.2.2.2.2.2.2.2.2.2.2.2.2.2.1))]) (w1 := []) hP hD [] [0, 1, 2, 3, 4, 5] rfl rfl (by decide) (by decide) hk1 hFc hP1 hD1
              generalize H1 = H at hP hS ⊢
              have hP : va_P (dC, dI) vwCl [(m0, .inr (4, [.int 0, .ref m1, .int g_2.2.2.1, .ref m2, .ref m3, .int g_2.2.2.2.2.2.1, .int g_2.2.2.2.2.2.2.1, .int g_2.2.2.2.2.2.2.2.1, .int g_2.2.2.2.2.2.2.2.2.1, .int g_2.2.2.2.2.2.2.2.2.2.1, .int g_2.2.2.2.2.2.2.2.2.2.2.1, .int g_2.2.2.2.2.2.2.2.2.2.2.2.1, .long g_2.2.2.2.2.2.2.2.2.2.2.2.2.1, .int g_2.2.2.2.2.2.2.2.2.2.2.2.2.2.1, .ref m4, .ref m5, .int g_2.2.2.2.2.2.2.2.2.2.2.2.2.2.2.2.2])), (m1, .inl (cI, 60, .inl g_2.2.1)), (m2, .inl (cJ, 92, .inr (.inl g_2.2.2.2.1))), (m3, .inl (cJ, 92, .inr (.inl g_2.2.2.2.2.1))), (m4, .inl (cI, 1573, .inl g_2.2.2.2.2.2.2.2.2.2.2.2.2.2.2.1)), (m5, .inl (cI, 12, .inl g_2.2.2.2.2.2.2.2.2.2.2.2.2.2.2.2.1))] H := hP
              have hD : va_D A [(m0, .inr (4, [.int 0, .ref m1, .int g_2.2.2.1, .ref m2, .ref m3, .int g_2.2.2.2.2.2.1, .int g_2.2.2.2.2.2.2.1, .int g_2.2.2.2.2.2.2.2.1, .int g_2.2.2.2.2.2.2.2.2.1, .int g_2.2.2.2.2.2.2.2.2.2.1, .int g_2.2.2.2.2.2.2.2.2.2.2.1, .int g_2.2.2.2.2.2.2.2.2.2.2.2.1, .long g_2.2.2.2.2.2.2.2.2.2.2.2.2.1, .int g_2.2.2.2.2.2.2.2.2.2.2.2.2.2.1, .ref m4, .ref m5, .int g_2.2.2.2.2.2.2.2.2.2.2.2.2.2.2.2.2])), (m1, .inl (cI, 60, .inl g_2.2.1)), (m2, .inl (cJ, 92, .inr (.inl g_2.2.2.2.1))), (m3, .inl (cJ, 92, .inr (.inl g_2.2.2.2.2.1))), (m4, .inl (cI, 1573, .inl g_2.2.2.2.2.2.2.2.2.2.2.2.2.2.2.1)), (m5, .inl (cI, 12, .inl g_2.2.2.2.2.2.2.2.2.2.2.2.2.2.2.2.1))] := hD
              subst hw
              refine lv_ldiv hx hb dX4_average_116 (common_ne0 (hm _ eg_2 k 0 (isMark4_in c_4) (vd (by decide +kernel))).1 c_19) ?_
              have es0 : sX4_average k z wh v = (0, g_2.2.1, g_2.2.2.1, g_2.2.2.2.1, g_2.2.2.2.2.1, g_2.2.2.2.2.2.1, g_2.2.2.2.2.2.2.1, g_2.2.2.2.2.2.2.2.1, g_2.2.2.2.2.2.2.2.2.1, g_2.2.2.2.2.2.2.2.2.2.1, g_2.2.2.2.2.2.2.2.2.2.2.1, g_2.2.2.2.2.2.2.2.2.2.2.2.1, g_2.2.2.2.2.2.2.2.2.2.2.2.2.1, g_2.2.2.2.2.2.2.2.2.2.2.2.2.2.1, g_2.2.2.2.2.2.2.2.2.2.2.2.2.2.2.1, g_2.2.2.2.2.2.2.2.2.2.2.2.2.2.2.2.1, g_2.2.2.2.2.2.2.2.2.2.2.2.2.2.2.2.2) := by rw [sX4_average, ← eg_2, sX4_average_g_2, if_neg c_4, if_neg c_7, if_pos c_10, if_neg c_11, if_neg c_19, if_pos c_21]
              have er : ((g_2.2.2.2.1 (((2 + (5 * k)) + 3).toNatClampNeg)) * 100000) / (rX4_common ((g_2.2.2.2.1 (((2 + (5 * k)) + 3).toNatClampNeg)) * 100000) ((g_2.2.2.2.1 (((2 + (5 * k)) + 0).toNatClampNeg)) * g_2.2.2.2.2.2.2.1.toInt64)) = rX4_average k z wh v := by rw [rX4_average, ← eg_2, rX4_average_g_2, if_neg c_4, if_neg c_7, if_pos c_10, if_neg c_11, if_neg c_19, if_pos c_21]
              refine W.lret (v := ((g_2.2.2.2.1 (((2 + (5 * k)) + 3).toNatClampNeg)) * 100000) / (rX4_common ((g_2.2.2.2.1 (((2 + (5 * k)) + 3).toNatClampNeg)) * 100000) ((g_2.2.2.2.1 (((2 + (5 * k)) + 0).toNatClampNeg)) * g_2.2.2.2.2.2.2.1.toInt64))) hx hb hr (fun t ht hW => ⟨⟨((g_2.2.2.2.1 (((2 + (5 * k)) + 3).toNatClampNeg)) * 100000) / (rX4_common ((g_2.2.2.2.1 (((2 + (5 * k)) + 3).toNatClampNeg)) * 100000) ((g_2.2.2.2.1 (((2 + (5 * k)) + 0).toNatClampNeg)) * g_2.2.2.2.2.2.2.1.toInt64)), (), rfl, er, ?_⟩, hS.F ht⟩) hS.2.2 dX4_average_117
              rw [es0]; exact ⟨by rw [ht]; exact hP, va_K.moved hW.alike hK, hD⟩
          · refine lv_aload_n hx hb dX4_average_61 rfl (lv_at hl 1 rfl) ?_
            have hPc := hP.sub (ws' := [cM0 m0 m1 m2 m3 m4 m5 g_2, cM1 cI m1 g_2, cM2 cJ m2 g_2, cM3 cJ m3 g_2, cM4 cI m4 g_2, cM5 cI m5 g_2]) [0, 1, 2, 3, 4, 5] rfl
            have hDc := hD.sub (ws' := [cM0 m0 m1 m2 m3 m4 m5 g_2, cM1 cI m1 g_2, cM2 cJ m2 g_2, cM3 cJ m3 g_2, cM4 cI m4 g_2, cM5 cI m5 g_2]) [0, 1, 2, 3, 4, 5] (by decide) rfl
            have hFc := va_free (wc := [cM0 m0 m1 m2 m3 m4 m5 g_2, cM1 cI m1 g_2, cM2 cJ m2 g_2, cM3 cJ m3 g_2, cM4 cI m4 g_2, cM5 cI m5 g_2]) hD hS hA [0, 1, 2, 3, 4, 5] rfl
            refine va_calli (va_runV (As := []) (rest := []) ⟨hx, hb, hml, hown, hts⟩ (kX4_refuse l dC dI cI cJ m0 m1 m2 m3 m4 m5 H.size g_2) (cwV 0 hts gX4_average_X4_refuse rfl rfl rfl (by decide +kernel) ⟨Nat.le_of_ble_eq_true rfl, Nat.le_of_ble_eq_true rfl⟩) ⟨fun a U g mk q => by obtain ⟨q0, q1, qP, qK, qD⟩ := q; exact ⟨q0, q1, qP, va_K.moved (u := U) (U := U.calling g mk a) (Vm.Alike.refl U.vm) qK, qD⟩, va_recv hK hPc (ci := 4) (q0 := 0) rfl rfl, fun U hU hW => ⟨rfl, by rw [hU], by rw [hU]; exact hPc, va_K.moved hW.alike hK, hDc.weaken (fun _ _ _ _ => trivial)⟩⟩ rfl rfl hl.1 rfl (lv_room (Nat.le_of_ble_eq_true rfl)) dX4_average_62 ⟨Nat.le_of_ble_eq_true rfl, Nat.le_of_ble_eq_true rfl⟩) hS (fun q _ h => hFc q h) hFc (fun r_24 _ t H1 locs ht hvm hw hB hz1 hk1 hS => ?_)
            obtain ⟨hP1, hK1, hD1⟩ := hB
            rw [ht] at hP1
            obtain ⟨g_25, eg_25⟩ : ∃ z, z = sX4_refuse g_2 := ⟨_, rfl⟩
            rw [← eg_25] at hP1 hD1
            obtain ⟨hP, hD⟩ := va_join (wr := []) (w1 := [cM0 m0 m1 m2 m3 m4 m5 g_25, cM1 cI m1 g_25, cM2 cJ m2 g_25, cM3 cJ m3 g_25, cM4 cI m4 g_25, cM5 cI m5 g_25]) hP hD [0, 1, 2, 3, 4, 5] [] rfl rfl (by decide) (by decide) hk1 hFc hP1 hD1
            generalize H1 = H at hP hS ⊢
            have hP : va_P (dC, dI) vwCl [cM0 m0 m1 m2 m3 m4 m5 g_25, cM1 cI m1 g_25, cM2 cJ m2 g_25, cM3 cJ m3 g_25, cM4 cI m4 g_25, cM5 cI m5 g_25] H := hP
            have hD : va_D A [cM0 m0 m1 m2 m3 m4 m5 g_25, cM1 cI m1 g_25, cM2 cJ m2 g_25, cM3 cJ m3 g_25, cM4 cI m4 g_25, cM5 cI m5 g_25] := hD
            subst hw
            refine lv_i2l (v := (rX4_refuse g_2).toInt64) hx hb dX4_average_65 rfl ?_
            have es0 : sX4_average k z wh v = g_25 := by rw [sX4_average, ← eg_2, sX4_average_g_2, if_neg c_4, if_neg c_7, if_pos c_10, if_neg c_11, if_pos c_19, ← eg_25, sX4_average_g_25]
            have er : (rX4_refuse g_2).toInt64 = rX4_average k z wh v := by rw [rX4_average, ← eg_2, rX4_average_g_2, if_neg c_4, if_neg c_7, if_pos c_10, if_neg c_11, if_pos c_19, ← eg_25, rX4_average_g_25]
            refine W.lret (v := (rX4_refuse g_2).toInt64) hx hb hr (fun t ht hW => ⟨⟨(rX4_refuse g_2).toInt64, (), rfl, er, ?_⟩, hS.F ht⟩) hS.2.2 dX4_average_66
            rw [es0]; exact ⟨by rw [ht]; exact hP, va_K.moved hW.alike hK, hD⟩
      · refine lv_aload_n hx hb dX4_average_20 rfl (lv_at hl 0 rfl) ?_
        have hPc := hP.sub (ws' := [cM0 m0 m1 m2 m3 m4 m5 g_2, cM1 cI m1 g_2, cM2 cJ m2 g_2, cM3 cJ m3 g_2, cM4 cI m4 g_2, cM5 cI m5 g_2]) [0, 1, 2, 3, 4, 5] rfl
        have hDc := hD.sub (ws' := [cM0 m0 m1 m2 m3 m4 m5 g_2, cM1 cI m1 g_2, cM2 cJ m2 g_2, cM3 cJ m3 g_2, cM4 cI m4 g_2, cM5 cI m5 g_2]) [0, 1, 2, 3, 4, 5] (by decide) rfl
        have hFc := va_free (wc := [cM0 m0 m1 m2 m3 m4 m5 g_2, cM1 cI m1 g_2, cM2 cJ m2 g_2, cM3 cJ m3 g_2, cM4 cI m4 g_2, cM5 cI m5 g_2]) hD hS hA [0, 1, 2, 3, 4, 5] rfl
        refine va_calli (va_runV (As := []) (rest := []) ⟨hx, hb, hml, hown, hts⟩ (kX4_refuse l dC dI cI cJ m0 m1 m2 m3 m4 m5 H.size g_2) (cwV 0 hts gX4_average_X4_refuse rfl rfl rfl (by decide +kernel) ⟨Nat.le_of_ble_eq_true rfl, Nat.le_of_ble_eq_true rfl⟩) ⟨fun a U g mk q => by obtain ⟨q0, q1, qP, qK, qD⟩ := q; exact ⟨q0, q1, qP, va_K.moved (u := U) (U := U.calling g mk a) (Vm.Alike.refl U.vm) qK, qD⟩, va_recv hK hPc (ci := 4) (q0 := 0) rfl rfl, fun U hU hW => ⟨rfl, by rw [hU], by rw [hU]; exact hPc, va_K.moved hW.alike hK, hDc.weaken (fun _ _ _ _ => trivial)⟩⟩ rfl rfl hl.1 rfl (lv_room (Nat.le_of_ble_eq_true rfl)) dX4_average_21 ⟨Nat.le_of_ble_eq_true rfl, Nat.le_of_ble_eq_true rfl⟩) hS (fun q _ h => hFc q h) hFc (fun r_26 _ t H1 locs ht hvm hw hB hz1 hk1 hS => ?_)
        obtain ⟨hP1, hK1, hD1⟩ := hB
        rw [ht] at hP1
        obtain ⟨g_27, eg_27⟩ : ∃ z, z = sX4_refuse g_2 := ⟨_, rfl⟩
        rw [← eg_27] at hP1 hD1
        obtain ⟨hP, hD⟩ := va_join (wr := []) (w1 := [cM0 m0 m1 m2 m3 m4 m5 g_27, cM1 cI m1 g_27, cM2 cJ m2 g_27, cM3 cJ m3 g_27, cM4 cI m4 g_27, cM5 cI m5 g_27]) hP hD [0, 1, 2, 3, 4, 5] [] rfl rfl (by decide) (by decide) hk1 hFc hP1 hD1
        generalize H1 = H at hP hS ⊢
        have hP : va_P (dC, dI) vwCl [cM0 m0 m1 m2 m3 m4 m5 g_27, cM1 cI m1 g_27, cM2 cJ m2 g_27, cM3 cJ m3 g_27, cM4 cI m4 g_27, cM5 cI m5 g_27] H := hP
        have hD : va_D A [cM0 m0 m1 m2 m3 m4 m5 g_27, cM1 cI m1 g_27, cM2 cJ m2 g_27, cM3 cJ m3 g_27, cM4 cI m4 g_27, cM5 cI m5 g_27] := hD
        subst hw
        refine lv_i2l (v := (rX4_refuse g_2).toInt64) hx hb dX4_average_24 rfl ?_
        have es0 : sX4_average k z wh v = g_27 := by rw [sX4_average, ← eg_2, sX4_average_g_2, if_neg c_4, if_neg c_7, if_neg c_10, ← eg_27, sX4_average_g_27]
        have er : (rX4_refuse g_2).toInt64 = rX4_average k z wh v := by rw [rX4_average, ← eg_2, rX4_average_g_2, if_neg c_4, if_neg c_7, if_neg c_10, ← eg_27, rX4_average_g_27]
        refine W.lret (v := (rX4_refuse g_2).toInt64) hx hb hr (fun t ht hW => ⟨⟨(rX4_refuse g_2).toInt64, (), rfl, er, ?_⟩, hS.F ht⟩) hS.2.2 dX4_average_25
        rw [es0]; exact ⟨by rw [ht]; exact hP, va_K.moved hW.alike hK, hD⟩

def rX3_wayInHundredths (i : Int32) (z : Int32) (x : XC) (g : LG) (k : LG) (tp : TP) (pl : PL) : Int64 :=
  if z = 0 then
    (rX0_marked i 0 g) * x.2.1.toInt64
  else
    (rX0_marked i 1 g) * x.2.1.toInt64
set_option maxHeartbeats 4000000 in
set_option maxRecDepth 100000 in
theorem kX3_wayInHundredths (l : Launch) (dC : Nat → ClassId) (dI : Nat → Nat → Nat) (cI cJ : ClassId) (h0 n0 k0 t0 p0 n1 n2 n3 k1 k2 k3 t1 p1 p2 p3 p4 p5 : Nat) (sz : Nat) (i : Int32) (z : Int32) (x : XC) (g : LG) (k : LG) (tp : TP) (pl : PL) (hk : vp_in i 4) : Met l yX3_wayInHundredths wsX3_wayInHundredths ({ frames := 1, cells := 0, slots := 0, locals := 22 }) (va_Pc [.ref h0, .int i, .int z] (fun U => U.heap.size = sz ∧ va_P (dC, dI) vwCl [cX0 h0 n0 k0 t0 p0 x, cL0 n0 n1 n2 n3 g, cL1 cJ n1 g, cL2 cI n2 g, cL3 cI n3 g, cL0 k0 k1 k2 k3 k, cL1 cJ k1 k, cL2 cI k2 k, cL3 cI k3 k, cT0 t0 t1 tp, cT1 cI t1 tp, cP0 p0 p1 p2 p3 p4 p5 pl, cP1 cI p1 pl, cP2 cI p2 pl, cP3 cI p3 pl, cP4 cI p4 pl, cP5 cI p5 pl] U.heap ∧ va_K (dC, dI) vwCl [(cI, .int), (cJ, .long)] U ∧ va_D (fun _ => True) [cX0 h0 n0 k0 t0 p0 x, cL0 n0 n1 n2 n3 g, cL1 cJ n1 g, cL2 cI n2 g, cL3 cI n3 g, cL0 k0 k1 k2 k3 k, cL1 cJ k1 k, cL2 cI k2 k, cL3 cI k3 k, cT0 t0 t1 tp, cT1 cI t1 tp, cP0 p0 p1 p2 p3 p4 p5 pl, cP1 cI p1 pl, cP2 cI p2 pl, cP3 cI p3 pl, cP4 cI p4 pl, cP5 cI p5 pl] ∧ nw U)) (va_Ql (fun (r : Int64) (_ : Unit) => r = rX3_wayInHundredths i z x g k tp pl) (fun _ t => va_P (dC, dI) vwCl [cX0 h0 n0 k0 t0 p0 x, cL0 n0 n1 n2 n3 g, cL1 cJ n1 g, cL2 cI n2 g, cL3 cI n3 g, cL0 k0 k1 k2 k3 k, cL1 cJ k1 k, cL2 cI k2 k, cL3 cI k3 k, cT0 t0 t1 tp, cT1 cI t1 tp, cP0 p0 p1 p2 p3 p4 p5 pl, cP1 cI p1 pl, cP2 cI p2 pl, cP3 cI p3 pl, cP4 cI p4 pl, cP5 cI p5 pl] t.heap ∧ va_K (dC, dI) vwCl [(cI, .int), (cJ, .long)] t ∧ va_D (va_A [cX0 h0 n0 k0 t0 p0 x, cL0 n0 n1 n2 n3 g, cL1 cJ n1 g, cL2 cI n2 g, cL3 cI n3 g, cL0 k0 k1 k2 k3 k, cL1 cJ k1 k, cL2 cI k2 k, cL3 cI k3 k, cT0 t0 t1 tp, cT1 cI t1 tp, cP0 p0 p1 p2 p3 p4 p5 pl, cP1 cI p1 pl, cP2 cI p2 pl, cP3 cI p3 pl, cP4 cI p4 pl, cP5 cI p5 pl] sz) [cX0 h0 n0 k0 t0 p0 x, cL0 n0 n1 n2 n3 g, cL1 cJ n1 g, cL2 cI n2 g, cL3 cI n3 g, cL0 k0 k1 k2 k3 k, cL1 cJ k1 k, cL2 cI k2 k, cL3 cI k3 k, cT0 t0 t1 tp, cT1 cI t1 tp, cP0 p0 p1 p2 p3 p4 p5 pl, cP1 cI p1 pl, cP2 cI p2 pl, cP3 cI p3 pl, cP4 cI p4 pl, cP5 cI p5 pl]) (va_A [cX0 h0 n0 k0 t0 p0 x, cL0 n0 n1 n2 n3 g, cL1 cJ n1 g, cL2 cI n2 g, cL3 cI n3 g, cL0 k0 k1 k2 k3 k, cL1 cJ k1 k, cL2 cI k2 k, cL3 cI k3 k, cT0 t0 t1 tp, cT1 cI t1 tp, cP0 p0 p1 p2 p3 p4 p5 pl, cP1 cI p1 pl, cP2 cI p2 pl, cP3 cI p3 pl, cP4 cI p4 pl, cP5 cI p5 pl] sz)) 0 0 (va_A [cX0 h0 n0 k0 t0 p0 x, cL0 n0 n1 n2 n3 g, cL1 cJ n1 g, cL2 cI n2 g, cL3 cI n3 g, cL0 k0 k1 k2 k3 k, cL1 cJ k1 k, cL2 cI k2 k, cL3 cI k3 k, cT0 t0 t1 tp, cT1 cI t1 tp, cP0 p0 p1 p2 p3 p4 p5 pl, cP1 cI p1 pl, cP2 cI p2 pl, cP3 cI p3 pl, cP4 cI p4 pl, cP5 cI p5 pl] sz) := by
  refine Met.ofW (cc := cX3_wayInHundredths) (maxL := 3) (ret := (some .long)) (by decide) rfl ?_
  intro p e s m args below meth c s₁ B hml hv
  obtain ⟨rfl, hsz, hP, hK, hD0, hN⟩ := hv
  have hx := B.exec
  have hb := B.bytes
  have hr := B.returns
  have hts := atoms_spec (ws := wsX3_wayInHundredths) B.pre
  have hown : s.vm.findClass RX3 = some m.cls := findClass_of_methodNamed B.named
  have hlocks := B.notSynchronized
  have hiX3 : ∀ w ∈ u_ws RX3 TX3 12, w ∈ wsX3_wayInHundredths := by decide +kernel
  subst hsz
  have hD := hD0.self (sz := s.heap.size)
  generalize hAe : va_A [cX0 h0 n0 k0 t0 p0 x, cL0 n0 n1 n2 n3 g, cL1 cJ n1 g, cL2 cI n2 g, cL3 cI n3 g, cL0 k0 k1 k2 k3 k, cL1 cJ k1 k, cL2 cI k2 k, cL3 cI k3 k, cT0 t0 t1 tp, cT1 cI t1 tp, cP0 p0 p1 p2 p3 p4 p5 pl, cP1 cI p1 pl, cP2 cI p2 pl, cP3 cI p3 pl, cP4 cI p4 pl, cP5 cI p5 pl] s.heap.size = A at hD ⊢
  have hA : ∀ q : Nat, s.heap.size ≤ q → A q := fun q h => by rw [← hAe]; exact Or.inr h
  have hS : va_S A s.heap s.heap [] := va_S.rf
  have hl := lv_entry ([.ref h0, .int i, .int z]) (n := 3) (Nat.le_of_ble_eq_true rfl)
  rw [lg_entry_eq]
  generalize (lg_sl ([.ref h0, .int i, .int z]) ++ List.replicate (3 - (lg_sl ([.ref h0, .int i, .int z])).length) Slot.unset).toArray = ls at hl ⊢
  have hl : lv_has ls 3 [(0, .ref h0), (1, .int i), (2, .int z)] := hl
  have hP : va_P (dC, dI) vwCl [cX0 h0 n0 k0 t0 p0 x, cL0 n0 n1 n2 n3 g, cL1 cJ n1 g, cL2 cI n2 g, cL3 cI n3 g, cL0 k0 k1 k2 k3 k, cL1 cJ k1 k, cL2 cI k2 k, cL3 cI k3 k, cT0 t0 t1 tp, cT1 cI t1 tp, cP0 p0 p1 p2 p3 p4 p5 pl, cP1 cI p1 pl, cP2 cI p2 pl, cP3 cI p3 pl, cP4 cI p4 pl, cP5 cI p5 pl] s.heap := hP
  refine lv_aload_n hx hb dX3_wayInHundredths_0 rfl (lv_at hl 0 rfl) ?_
  refine va_get (D := (dC, dI)) (ci := 3) (v := .ref n0) (C := RX3) (T := TX3) (N := 12) hx hb hts hiX3 hown hK hP 0 rfl rfl 0 (by decide) (hts (.fieldLink RX3 10 "TripReckoner" "now" "LTripReckoner$Ledger;") (by decide +kernel)) (fun _ h9 => h9) rfl dX3_wayInHundredths_1 ?_
  refine lv_iload_n hx hb dX3_wayInHundredths_4 rfl (lv_at hl 1 rfl) ?_
  refine lv_iload_n hx hb dX3_wayInHundredths_5 rfl (lv_at hl 2 rfl) ?_
  refine lv_if_eq (tgt := 13) hx hb dX3_wayInHundredths_6 (by decide) (fun c_1 => ?_) (fun c_1 => ?_)
  · refine lv_iconst (v := 0) hx hb dX3_wayInHundredths_13 (by decide) ?_
    have hPc := hP.sub (ws' := [cL0 n0 n1 n2 n3 g, cL1 cJ n1 g, cL2 cI n2 g, cL3 cI n3 g]) [1, 2, 3, 4] rfl
    have hDc := hD.sub (ws' := [cL0 n0 n1 n2 n3 g, cL1 cJ n1 g, cL2 cI n2 g, cL3 cI n3 g]) [1, 2, 3, 4] (by decide) rfl
    have hFc := va_free (wc := [cL0 n0 n1 n2 n3 g, cL1 cJ n1 g, cL2 cI n2 g, cL3 cI n3 g]) hD hS hA [1, 2, 3, 4] rfl
    refine va_calll (va_runVN (As := [.int i, .int 0]) (rest := []) ⟨hx, hb, hml, hown, hts⟩ (kX0_marked l dC dI cI cJ n0 n1 n2 n3 s.heap.size i 0 g (mk_in hk (vd (by decide +kernel)))) ⟨va_cnB 2 hts gX3_wayInHundredths_X0_marked_n148 rfl rfl rfl (nw_m hN (.methodLinkNest RX3 148 yX0_marked "TripReckoner") (by decide +kernel)) (hts (.initialized RX0) (by decide +kernel)) (by decide +kernel) ⟨Nat.le_of_ble_eq_true rfl, Nat.le_of_ble_eq_true rfl⟩, (hts (.instanceMethod yX0_marked) (by decide +kernel)), (hts (.selects RX0 yX0_marked yX0_marked) (by decide +kernel))⟩ ⟨fun a U g mk q => by obtain ⟨q0, q1, qP, qK, qD⟩ := q; exact ⟨q0, q1, qP, va_K.moved (u := U) (U := U.calling g mk a) (Vm.Alike.refl U.vm) qK, qD⟩, va_recv hK hPc (ci := 0) (q0 := 0) rfl rfl, fun U hU hW => ⟨rfl, by rw [hU], by rw [hU]; exact hPc, va_K.moved hW.alike hK, hDc.weaken (fun _ _ _ _ => trivial)⟩⟩ rfl rfl hl.1 rfl (lv_room (Nat.le_of_ble_eq_true rfl)) dX3_wayInHundredths_14 ⟨Nat.le_of_ble_eq_true rfl, Nat.le_of_ble_eq_true rfl⟩) hS (fun q _ h => hFc q h) hFc (fun r_2 _ t H1 locs ht hvm hw hB hz1 hk1 hS => ?_)
    obtain ⟨hP1, hK1, hD1⟩ := hB
    rw [ht] at hP1
    obtain ⟨hP, hD⟩ := va_join (wr := [cX0 h0 n0 k0 t0 p0 x, cL0 k0 k1 k2 k3 k, cL1 cJ k1 k, cL2 cI k2 k, cL3 cI k3 k, cT0 t0 t1 tp, cT1 cI t1 tp, cP0 p0 p1 p2 p3 p4 p5 pl, cP1 cI p1 pl, cP2 cI p2 pl, cP3 cI p3 pl, cP4 cI p4 pl, cP5 cI p5 pl]) (w1 := [cL0 n0 n1 n2 n3 g, cL1 cJ n1 g, cL2 cI n2 g, cL3 cI n3 g]) hP hD [1, 2, 3, 4] [0, 5, 6, 7, 8, 9, 10, 11, 12, 13, 14, 15, 16] rfl rfl (by decide) (by decide) hk1 hFc hP1 hD1
    generalize H1 = H at hP hS ⊢
    have hP := hP.sub (ws' := [cX0 h0 n0 k0 t0 p0 x, cL0 n0 n1 n2 n3 g, cL1 cJ n1 g, cL2 cI n2 g, cL3 cI n3 g, cL0 k0 k1 k2 k3 k, cL1 cJ k1 k, cL2 cI k2 k, cL3 cI k3 k, cT0 t0 t1 tp, cT1 cI t1 tp, cP0 p0 p1 p2 p3 p4 p5 pl, cP1 cI p1 pl, cP2 cI p2 pl, cP3 cI p3 pl, cP4 cI p4 pl, cP5 cI p5 pl]) [0, 13, 14, 15, 16, 1, 2, 3, 4, 5, 6, 7, 8, 9, 10, 11, 12] rfl
    have hD := hD.sub (ws' := [cX0 h0 n0 k0 t0 p0 x, cL0 n0 n1 n2 n3 g, cL1 cJ n1 g, cL2 cI n2 g, cL3 cI n3 g, cL0 k0 k1 k2 k3 k, cL1 cJ k1 k, cL2 cI k2 k, cL3 cI k3 k, cT0 t0 t1 tp, cT1 cI t1 tp, cP0 p0 p1 p2 p3 p4 p5 pl, cP1 cI p1 pl, cP2 cI p2 pl, cP3 cI p3 pl, cP4 cI p4 pl, cP5 cI p5 pl]) [0, 13, 14, 15, 16, 1, 2, 3, 4, 5, 6, 7, 8, 9, 10, 11, 12] (by decide) rfl
    subst hw
    refine lv_aload_n hx hb dX3_wayInHundredths_17 rfl (lv_at hl 0 rfl) ?_
    refine va_get (D := (dC, dI)) (ci := 3) (v := .int x.2.1) (C := RX3) (T := TX3) (N := 12) hx hb hts hiX3 hown hK hP 0 rfl rfl 5 (by decide) (hts (.fieldLink RX3 38 "TripReckoner" "metresPerHundred" "I") (by decide +kernel)) (fun _ h9 => h9) rfl dX3_wayInHundredths_18 ?_
    refine lv_i2l (v := x.2.1.toInt64) hx hb dX3_wayInHundredths_21 rfl ?_
    refine lv_lmul hx hb dX3_wayInHundredths_22 ?_
    have er : (rX0_marked i 0 g) * x.2.1.toInt64 = rX3_wayInHundredths i z x g k tp pl := by rw [rX3_wayInHundredths, if_pos c_1]
    refine W.lret (v := (rX0_marked i 0 g) * x.2.1.toInt64) hx hb hr (fun t ht hW => ⟨⟨(rX0_marked i 0 g) * x.2.1.toInt64, (), rfl, er, ?_⟩, hS.F ht⟩) hS.2.2 dX3_wayInHundredths_23
    exact ⟨by rw [ht]; exact hP, va_K.moved hW.alike hK, hD⟩
  · refine lv_iconst (v := 1) hx hb dX3_wayInHundredths_9 (by decide) ?_
    refine lv_goto (tgt := 14) hx hb dX3_wayInHundredths_10 (by decide) ?_
    have hPc := hP.sub (ws' := [cL0 n0 n1 n2 n3 g, cL1 cJ n1 g, cL2 cI n2 g, cL3 cI n3 g]) [1, 2, 3, 4] rfl
    have hDc := hD.sub (ws' := [cL0 n0 n1 n2 n3 g, cL1 cJ n1 g, cL2 cI n2 g, cL3 cI n3 g]) [1, 2, 3, 4] (by decide) rfl
    have hFc := va_free (wc := [cL0 n0 n1 n2 n3 g, cL1 cJ n1 g, cL2 cI n2 g, cL3 cI n3 g]) hD hS hA [1, 2, 3, 4] rfl
    refine va_calll (va_runVN (As := [.int i, .int 1]) (rest := []) ⟨hx, hb, hml, hown, hts⟩ (kX0_marked l dC dI cI cJ n0 n1 n2 n3 s.heap.size i 1 g (mk_in hk (vd (by decide +kernel)))) ⟨va_cnB 2 hts gX3_wayInHundredths_X0_marked_n148 rfl rfl rfl (nw_m hN (.methodLinkNest RX3 148 yX0_marked "TripReckoner") (by decide +kernel)) (hts (.initialized RX0) (by decide +kernel)) (by decide +kernel) ⟨Nat.le_of_ble_eq_true rfl, Nat.le_of_ble_eq_true rfl⟩, (hts (.instanceMethod yX0_marked) (by decide +kernel)), (hts (.selects RX0 yX0_marked yX0_marked) (by decide +kernel))⟩ ⟨fun a U g mk q => by obtain ⟨q0, q1, qP, qK, qD⟩ := q; exact ⟨q0, q1, qP, va_K.moved (u := U) (U := U.calling g mk a) (Vm.Alike.refl U.vm) qK, qD⟩, va_recv hK hPc (ci := 0) (q0 := 0) rfl rfl, fun U hU hW => ⟨rfl, by rw [hU], by rw [hU]; exact hPc, va_K.moved hW.alike hK, hDc.weaken (fun _ _ _ _ => trivial)⟩⟩ rfl rfl hl.1 rfl (lv_room (Nat.le_of_ble_eq_true rfl)) dX3_wayInHundredths_14 ⟨Nat.le_of_ble_eq_true rfl, Nat.le_of_ble_eq_true rfl⟩) hS (fun q _ h => hFc q h) hFc (fun r_3 _ t H1 locs ht hvm hw hB hz1 hk1 hS => ?_)
    obtain ⟨hP1, hK1, hD1⟩ := hB
    rw [ht] at hP1
    obtain ⟨hP, hD⟩ := va_join (wr := [cX0 h0 n0 k0 t0 p0 x, cL0 k0 k1 k2 k3 k, cL1 cJ k1 k, cL2 cI k2 k, cL3 cI k3 k, cT0 t0 t1 tp, cT1 cI t1 tp, cP0 p0 p1 p2 p3 p4 p5 pl, cP1 cI p1 pl, cP2 cI p2 pl, cP3 cI p3 pl, cP4 cI p4 pl, cP5 cI p5 pl]) (w1 := [cL0 n0 n1 n2 n3 g, cL1 cJ n1 g, cL2 cI n2 g, cL3 cI n3 g]) hP hD [1, 2, 3, 4] [0, 5, 6, 7, 8, 9, 10, 11, 12, 13, 14, 15, 16] rfl rfl (by decide) (by decide) hk1 hFc hP1 hD1
    generalize H1 = H at hP hS ⊢
    have hP := hP.sub (ws' := [cX0 h0 n0 k0 t0 p0 x, cL0 n0 n1 n2 n3 g, cL1 cJ n1 g, cL2 cI n2 g, cL3 cI n3 g, cL0 k0 k1 k2 k3 k, cL1 cJ k1 k, cL2 cI k2 k, cL3 cI k3 k, cT0 t0 t1 tp, cT1 cI t1 tp, cP0 p0 p1 p2 p3 p4 p5 pl, cP1 cI p1 pl, cP2 cI p2 pl, cP3 cI p3 pl, cP4 cI p4 pl, cP5 cI p5 pl]) [0, 13, 14, 15, 16, 1, 2, 3, 4, 5, 6, 7, 8, 9, 10, 11, 12] rfl
    have hD := hD.sub (ws' := [cX0 h0 n0 k0 t0 p0 x, cL0 n0 n1 n2 n3 g, cL1 cJ n1 g, cL2 cI n2 g, cL3 cI n3 g, cL0 k0 k1 k2 k3 k, cL1 cJ k1 k, cL2 cI k2 k, cL3 cI k3 k, cT0 t0 t1 tp, cT1 cI t1 tp, cP0 p0 p1 p2 p3 p4 p5 pl, cP1 cI p1 pl, cP2 cI p2 pl, cP3 cI p3 pl, cP4 cI p4 pl, cP5 cI p5 pl]) [0, 13, 14, 15, 16, 1, 2, 3, 4, 5, 6, 7, 8, 9, 10, 11, 12] (by decide) rfl
    subst hw
    refine lv_aload_n hx hb dX3_wayInHundredths_17 rfl (lv_at hl 0 rfl) ?_
    refine va_get (D := (dC, dI)) (ci := 3) (v := .int x.2.1) (C := RX3) (T := TX3) (N := 12) hx hb hts hiX3 hown hK hP 0 rfl rfl 5 (by decide) (hts (.fieldLink RX3 38 "TripReckoner" "metresPerHundred" "I") (by decide +kernel)) (fun _ h9 => h9) rfl dX3_wayInHundredths_18 ?_
    refine lv_i2l (v := x.2.1.toInt64) hx hb dX3_wayInHundredths_21 rfl ?_
    refine lv_lmul hx hb dX3_wayInHundredths_22 ?_
    have er : (rX0_marked i 1 g) * x.2.1.toInt64 = rX3_wayInHundredths i z x g k tp pl := by rw [rX3_wayInHundredths, if_neg c_1]
    refine W.lret (v := (rX0_marked i 1 g) * x.2.1.toInt64) hx hb hr (fun t ht hW => ⟨⟨(rX0_marked i 1 g) * x.2.1.toInt64, (), rfl, er, ?_⟩, hS.F ht⟩) hS.2.2 dX3_wayInHundredths_23
    exact ⟨by rw [ht]; exact hP, va_K.moved hW.alike hK, hD⟩
