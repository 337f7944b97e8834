def pl_W (v : MS) : MS := wc (wt0 v) (out_run (pS v + 1) (pmo v) (wt0 v) (pS v) v.2.2.2.2.2.2.2.2.2.2.2.2.2.2.1)
/-- what Model's plan asks of the state behind begin -/
def pm_ok (xs bs : Nat → Nat) (u : MS) : Prop := 0 ≤ u.2.2.1 ∧ u.2.2.1.toNatClampNeg ≤ 60 ∧ 0 ≤ u.2.2.2.2.2.1 / 1000 ∧ pmo u ≤ 120 ∧ 0 ≤ (u.2.2.2.1 0).toInt32 / 1000 ∧ pha u ≤ 120 ∧ (∀ j, j ≤ 12 → 0 ≤ rX4_need (nI j) u) ∧ (¬ u.2.2.1 - u.2.2.1 / 2 * 2 = 0 → u.2.2.1 ≤ 25 → nz_b u.2.1 u.2.2.1.toNatClampNeg = true → ¬ rX4_behind 0 (nI (pha u)) (nI (pS u + 1)) (pl_W u) = 1000000000 → nI (pha u) - rX4_need 0 (wsp (pl_W u) (nI (pS u))) = nI (xs 0) ∧ bq (pS u + 1) (pS u) xs bs (wsp (pl_W u) (nI (pS u))))
theorem need_wt0 (j : Int32) (u : MS) : rX4_need j (wt0 u) = rX4_need j u := by unfold rX4_need; rfl
theorem need_W (j : Int32) (u : MS) : rX4_need j (pl_W u) = rX4_need j u := by unfold rX4_need; rfl
theorem need_S (j so : Int32) (u : MS) : rX4_need j (wsp u so) = rX4_need j u := by unfold rX4_need; rfl

def sX4_plan_g_2 (xs : Nat → Nat) (bs : Nat → Nat) (v : MS) (g_2 : MS) : MS :=
  if (g_2.2.2.1 - g_2.2.2.1 / 2 * 2) = 0 then
    (g_2.1, g_2.2.1, 0, g_2.2.2.2.1, g_2.2.2.2.2.1, g_2.2.2.2.2.2.1, g_2.2.2.2.2.2.2.1, g_2.2.2.2.2.2.2.2.1, g_2.2.2.2.2.2.2.2.2.1, g_2.2.2.2.2.2.2.2.2.2.1, g_2.2.2.2.2.2.2.2.2.2.2.1, g_2.2.2.2.2.2.2.2.2.2.2.2.1, g_2.2.2.2.2.2.2.2.2.2.2.2.2.1, g_2.2.2.2.2.2.2.2.2.2.2.2.2.2.1, g_2.2.2.2.2.2.2.2.2.2.2.2.2.2.2.1, g_2.2.2.2.2.2.2.2.2.2.2.2.2.2.2.2.1, g_2.2.2.2.2.2.2.2.2.2.2.2.2.2.2.2.2)
  else
    if g_2.2.2.1 ≤ 25 then
      if nz_b g_2.2.1 g_2.2.2.1.toNatClampNeg = true then
        if (rX4_behind 0 (nI (pha g_2)) (nI (pS g_2 + 1)) (pl_W g_2)) = 1000000000 then
          (pl_W g_2)
        else
          ((wsp (pl_W g_2) (nI (pS g_2))).1, (wsp (pl_W g_2) (nI (pS g_2))).2.1, (wsp (pl_W g_2) (nI (pS g_2))).2.2.1, (wsp (pl_W g_2) (nI (pS g_2))).2.2.2.1, (wsp (pl_W g_2) (nI (pS g_2))).2.2.2.2.1, (wsp (pl_W g_2) (nI (pS g_2))).2.2.2.2.2.1, (wsp (pl_W g_2) (nI (pS g_2))).2.2.2.2.2.2.1, (wsp (pl_W g_2) (nI (pS g_2))).2.2.2.2.2.2.2.1, (wsp (pl_W g_2) (nI (pS g_2))).2.2.2.2.2.2.2.2.1, (wsp (pl_W g_2) (nI (pS g_2))).2.2.2.2.2.2.2.2.2.1, (wsp (pl_W g_2) (nI (pS g_2))).2.2.2.2.2.2.2.2.2.2.1, (wsp (pl_W g_2) (nI (pS g_2))).2.2.2.2.2.2.2.2.2.2.2.1, (wsp (pl_W g_2) (nI (pS g_2))).2.2.2.2.2.2.2.2.2.2.2.2.1, (wsp (pl_W g_2) (nI (pS g_2))).2.2.2.2.2.2.2.2.2.2.2.2.2.1, (wsp (pl_W g_2) (nI (pS g_2))).2.2.2.2.2.2.2.2.2.2.2.2.2.2.1, fa_fill (fun j => nI (bs j)) (wsp (pl_W g_2) (nI (pS g_2))).2.2.2.2.2.2.2.2.2.2.2.2.2.2.2.1 (pS g_2), (wsp (pl_W g_2) (nI (pS g_2))).2.2.2.2.2.2.2.2.2.2.2.2.2.2.2.2)
      else
        (wt0 g_2)
    else
      (g_2.1, g_2.2.1, 0, g_2.2.2.2.1, g_2.2.2.2.2.1, g_2.2.2.2.2.2.1, g_2.2.2.2.2.2.2.1, g_2.2.2.2.2.2.2.2.1, g_2.2.2.2.2.2.2.2.2.1, g_2.2.2.2.2.2.2.2.2.2.1, g_2.2.2.2.2.2.2.2.2.2.2.1, g_2.2.2.2.2.2.2.2.2.2.2.2.1, g_2.2.2.2.2.2.2.2.2.2.2.2.2.1, g_2.2.2.2.2.2.2.2.2.2.2.2.2.2.1, g_2.2.2.2.2.2.2.2.2.2.2.2.2.2.2.1, g_2.2.2.2.2.2.2.2.2.2.2.2.2.2.2.2.1, g_2.2.2.2.2.2.2.2.2.2.2.2.2.2.2.2.2)
def sX4_plan (xs : Nat → Nat) (bs : Nat → Nat) (v : MS) : MS :=
  sX4_plan_g_2 xs bs v (sX4_begin (0, v.2.1, v.2.2.1, v.2.2.2.1, v.2.2.2.2.1, v.2.2.2.2.2.1, v.2.2.2.2.2.2.1, v.2.2.2.2.2.2.2.1, v.2.2.2.2.2.2.2.2.1, v.2.2.2.2.2.2.2.2.2.1, v.2.2.2.2.2.2.2.2.2.2.1, v.2.2.2.2.2.2.2.2.2.2.2.1, v.2.2.2.2.2.2.2.2.2.2.2.2.1, v.2.2.2.2.2.2.2.2.2.2.2.2.2.1, v.2.2.2.2.2.2.2.2.2.2.2.2.2.2.1, v.2.2.2.2.2.2.2.2.2.2.2.2.2.2.2.1, v.2.2.2.2.2.2.2.2.2.2.2.2.2.2.2.2))
def rX4_plan_g_2 (xs : Nat → Nat) (bs : Nat → Nat) (v : MS) (g_2 : MS) : Int32 :=
  if (g_2.2.2.1 - g_2.2.2.1 / 2 * 2) = 0 then
    (-2)
  else
    if g_2.2.2.1 ≤ 25 then
      if nz_b g_2.2.1 g_2.2.2.1.toNatClampNeg = true then
        if (rX4_behind 0 (nI (pha g_2)) (nI (pS g_2 + 1)) (pl_W g_2)) = 1000000000 then
          (-1)
        else
          rX4_behind 0 (nI (pha g_2)) (nI (pS g_2 + 1)) (pl_W g_2)
      else
        (-2)
    else
      (-2)
def rX4_plan (xs : Nat → Nat) (bs : Nat → Nat) (v : MS) : Int32 :=
  rX4_plan_g_2 xs bs v (sX4_begin (0, v.2.1, v.2.2.1, v.2.2.2.1, v.2.2.2.2.1, v.2.2.2.2.2.1, v.2.2.2.2.2.2.1, v.2.2.2.2.2.2.2.1, v.2.2.2.2.2.2.2.2.1, v.2.2.2.2.2.2.2.2.2.1, v.2.2.2.2.2.2.2.2.2.2.1, v.2.2.2.2.2.2.2.2.2.2.2.1, v.2.2.2.2.2.2.2.2.2.2.2.2.1, v.2.2.2.2.2.2.2.2.2.2.2.2.2.1, v.2.2.2.2.2.2.2.2.2.2.2.2.2.2.1, v.2.2.2.2.2.2.2.2.2.2.2.2.2.2.2.1, v.2.2.2.2.2.2.2.2.2.2.2.2.2.2.2.2))
set_option maxHeartbeats 4000000 in
set_option maxRecDepth 100000 in
theorem kX4_plan (l : Launch) (dC : Nat → ClassId) (dI : Nat → Nat → Nat) (cI cJ : ClassId) (m0 m1 m2 m3 m4 m5 : Nat) (sz : Nat) (xs : Nat → Nat) (bs : Nat → Nat) (v : MS) (hu : ∀ u : MS, u = sX4_begin (0, v.2) → pm_ok xs bs u) : Met l yX4_plan wsX4_plan ({ frames := 3, cells := 0, slots := 0, locals := 100 }) (va_Pc [.ref m0] (fun U => U.heap.size = sz ∧ va_P (dC, dI) vwCl [cM0 m0 m1 m2 m3 m4 m5 v, cM1 cI m1 v, cM2 cJ m2 v, cM3 cJ m3 v, cM4 cI m4 v, cM5 cI m5 v] U.heap ∧ va_K (dC, dI) vwCl [(cI, .int), (cJ, .long)] U ∧ va_D (fun _ => True) [cM0 m0 m1 m2 m3 m4 m5 v, cM1 cI m1 v, cM2 cJ m2 v, cM3 cJ m3 v, cM4 cI m4 v, cM5 cI m5 v])) (va_Qi (fun (r : Int32) (_ : Unit) => r = rX4_plan xs bs v) (fun _ t => va_P (dC, dI) vwCl [cM0 m0 m1 m2 m3 m4 m5 (sX4_plan xs bs v), cM1 cI m1 (sX4_plan xs bs v), cM2 cJ m2 (sX4_plan xs bs v), cM3 cJ m3 (sX4_plan xs bs v), cM4 cI m4 (sX4_plan xs bs v), cM5 cI m5 (sX4_plan xs bs v)] t.heap ∧ va_K (dC, dI) vwCl [(cI, .int), (cJ, .long)] t ∧ va_D (va_A [cM0 m0 m1 m2 m3 m4 m5 v, cM1 cI m1 v, cM2 cJ m2 v, cM3 cJ m3 v, cM4 cI m4 v, cM5 cI m5 v] sz) [cM0 m0 m1 m2 m3 m4 m5 (sX4_plan xs bs v), cM1 cI m1 (sX4_plan xs bs v), cM2 cJ m2 (sX4_plan xs bs v), cM3 cJ m3 (sX4_plan xs bs v), cM4 cI m4 (sX4_plan xs bs v), cM5 cI m5 (sX4_plan xs bs v)]) (va_A [cM0 m0 m1 m2 m3 m4 m5 v, cM1 cI m1 v, cM2 cJ m2 v, cM3 cJ m3 v, cM4 cI m4 v, cM5 cI m5 v] sz)) 0 0 (va_A [cM0 m0 m1 m2 m3 m4 m5 v, cM1 cI m1 v, cM2 cJ m2 v, cM3 cJ m3 v, cM4 cI m4 v, cM5 cI m5 v] sz) := by
  refine Met.ofW (cc := cX4_plan) (maxL := 10) (ret := (some .int)) (by decide) rfl ?_
  intro p e s m args below meth c s₁ B hml hv
  obtain ⟨rfl, hsz, hP, hK, hD0⟩ := hv
  have hx := B.exec
  have hb := B.bytes
  have hr := B.returns
  have hts := atoms_spec (ws := wsX4_plan) B.pre
  have hown : s.vm.findClass RX4 = some m.cls := findClass_of_methodNamed B.named
  have hlocks := B.notSynchronized
  have hiX4 : ∀ w ∈ u_ws RX4 TX4 17, w ∈ wsX4_plan := by decide +kernel
  subst hsz
  have hD := hD0.self (sz := s.heap.size)
  generalize hAe : va_A [cM0 m0 m1 m2 m3 m4 m5 v, cM1 cI m1 v, cM2 cJ m2 v, cM3 cJ m3 v, cM4 cI m4 v, cM5 cI m5 v] s.heap.size = A at hD ⊢
  have hA : ∀ q : Nat, s.heap.size ≤ q → A q := fun q h => by rw [← hAe]; exact Or.inr h
  have hS : va_S A s.heap s.heap [] := va_S.rf
  have hl := lv_entry ([.ref m0]) (n := 10) (Nat.le_of_ble_eq_true rfl)
  rw [lg_entry_eq]
  generalize (lg_sl ([.ref m0]) ++ List.replicate (10 - (lg_sl ([.ref m0])).length) Slot.unset).toArray = ls at hl ⊢
  have hl : lv_has ls 10 [(0, .ref m0)] := hl
  have hP : va_P (dC, dI) vwCl [cM0 m0 m1 m2 m3 m4 m5 v, cM1 cI m1 v, cM2 cJ m2 v, cM3 cJ m3 v, cM4 cI m4 v, cM5 cI m5 v] s.heap := hP
  refine lv_aload_n hx hb dX4_plan_0 rfl (lv_at hl 0 rfl) ?_
  refine lv_iconst (v := 0) hx hb dX4_plan_1 (by decide) ?_
  refine va_put (D := (dC, dI)) (ci := 4) (v := .int 0) (ty := .int) (C := RX4) (T := TX4) (N := 17) hx hb hts hiX4 tyX4 tyX4_ok nmX4 hown hK hP hD hS 0 rfl rfl 0 (by decide) (hts (.fieldLink RX4 49 "TripReckonerModel" "thrown" "I") (by decide +kernel)) (fun _ h9 => h9) rfl (by decide +kernel) rfl rfl (Nat.le_of_ble_eq_true rfl) dX4_plan_2 (fun H locs hP hD hS => ?_)
  have hP : va_P (dC, dI) vwCl [(m0, .inr (4, [.int 0, .ref m1, .int v.2.2.1, .ref m2, .ref m3, .int v.2.2.2.2.2.1, .int v.2.2.2.2.2.2.1, .int v.2.2.2.2.2.2.2.1, .int v.2.2.2.2.2.2.2.2.1, .int v.2.2.2.2.2.2.2.2.2.1, .int v.2.2.2.2.2.2.2.2.2.2.1, .int v.2.2.2.2.2.2.2.2.2.2.2.1, .long v.2.2.2.2.2.2.2.2.2.2.2.2.1, .int v.2.2.2.2.2.2.2.2.2.2.2.2.2.1, .ref m4, .ref m5, .int v.2.2.2.2.2.2.2.2.2.2.2.2.2.2.2.2])), (m1, .inl (cI, 60, .inl v.2.1)), (m2, .inl (cJ, 92, .inr (.inl v.2.2.2.1))), (m3, .inl (cJ, 92, .inr (.inl v.2.2.2.2.1))), (m4, .inl (cI, 1573, .inl v.2.2.2.2.2.2.2.2.2.2.2.2.2.2.1)), (m5, .inl (cI, 12, .inl v.2.2.2.2.2.2.2.2.2.2.2.2.2.2.2.1))] H := hP
  have hD : va_D A [(m0, .inr (4, [.int 0, .ref m1, .int v.2.2.1, .ref m2, .ref m3, .int v.2.2.2.2.2.1, .int v.2.2.2.2.2.2.1, .int v.2.2.2.2.2.2.2.1, .int v.2.2.2.2.2.2.2.2.1, .int v.2.2.2.2.2.2.2.2.2.1, .int v.2.2.2.2.2.2.2.2.2.2.1, .int v.2.2.2.2.2.2.2.2.2.2.2.1, .long v.2.2.2.2.2.2.2.2.2.2.2.2.1, .int v.2.2.2.2.2.2.2.2.2.2.2.2.2.1, .ref m4, .ref m5, .int v.2.2.2.2.2.2.2.2.2.2.2.2.2.2.2.2])), (m1, .inl (cI, 60, .inl v.2.1)), (m2, .inl (cJ, 92, .inr (.inl v.2.2.2.1))), (m3, .inl (cJ, 92, .inr (.inl v.2.2.2.2.1))), (m4, .inl (cI, 1573, .inl v.2.2.2.2.2.2.2.2.2.2.2.2.2.2.1)), (m5, .inl (cI, 12, .inl v.2.2.2.2.2.2.2.2.2.2.2.2.2.2.2.1))] := hD
  refine lv_aload_n hx hb dX4_plan_5 rfl (lv_at hl 0 rfl) ?_
  have hPc := hP.sub (ws' := [(m0, .inr (4, [.int 0, .ref m1, .int v.2.2.1, .ref m2, .ref m3, .int v.2.2.2.2.2.1, .int v.2.2.2.2.2.2.1, .int v.2.2.2.2.2.2.2.1, .int v.2.2.2.2.2.2.2.2.1, .int v.2.2.2.2.2.2.2.2.2.1, .int v.2.2.2.2.2.2.2.2.2.2.1, .int v.2.2.2.2.2.2.2.2.2.2.2.1, .long v.2.2.2.2.2.2.2.2.2.2.2.2.1, .int v.2.2.2.2.2.2.2.2.2.2.2.2.2.1, .ref m4, .ref m5, .int v.2.2.2.2.2.2.2.2.2.2.2.2.2.2.2.2])), (m1, .inl (cI, 60, .inl v.2.1)), (m2, .inl (cJ, 92, .inr (.inl v.2.2.2.1))), (m3, .inl (cJ, 92, .inr (.inl v.2.2.2.2.1))), (m4, .inl (cI, 1573, .inl v.2.2.2.2.2.2.2.2.2.2.2.2.2.2.1)), (m5, .inl (cI, 12, .inl v.2.2.2.2.2.2.2.2.2.2.2.2.2.2.2.1))]) [0, 1, 2, 3, 4, 5] rfl
  have hDc := hD.sub (ws' := [(m0, .inr (4, [.int 0, .ref m1, .int v.2.2.1, .ref m2, .ref m3, .int v.2.2.2.2.2.1, .int v.2.2.2.2.2.2.1, .int v.2.2.2.2.2.2.2.1, .int v.2.2.2.2.2.2.2.2.1, .int v.2.2.2.2.2.2.2.2.2.1, .int v.2.2.2.2.2.2.2.2.2.2.1, .int v.2.2.2.2.2.2.2.2.2.2.2.1, .long v.2.2.2.2.2.2.2.2.2.2.2.2.1, .int v.2.2.2.2.2.2.2.2.2.2.2.2.2.1, .ref m4, .ref m5, .int v.2.2.2.2.2.2.2.2.2.2.2.2.2.2.2.2])), (m1, .inl (cI, 60, .inl v.2.1)), (m2, .inl (cJ, 92, .inr (.inl v.2.2.2.1))), (m3, .inl (cJ, 92, .inr (.inl v.2.2.2.2.1))), (m4, .inl (cI, 1573, .inl v.2.2.2.2.2.2.2.2.2.2.2.2.2.2.1)), (m5, .inl (cI, 12, .inl v.2.2.2.2.2.2.2.2.2.2.2.2.2.2.2.1))]) [0, 1, 2, 3, 4, 5] (by decide) rfl
  have hFc := va_free (wc := [(m0, .inr (4, [.int 0, .ref m1, .int v.2.2.1, .ref m2, .ref m3, .int v.2.2.2.2.2.1, .int v.2.2.2.2.2.2.1, .int v.2.2.2.2.2.2.2.1, .int v.2.2.2.2.2.2.2.2.1, .int v.2.2.2.2.2.2.2.2.2.1, .int v.2.2.2.2.2.2.2.2.2.2.1, .int v.2.2.2.2.2.2.2.2.2.2.2.1, .long v.2.2.2.2.2.2.2.2.2.2.2.2.1, .int v.2.2.2.2.2.2.2.2.2.2.2.2.2.1, .ref m4, .ref m5, .int v.2.2.2.2.2.2.2.2.2.2.2.2.2.2.2.2])), (m1, .inl (cI, 60, .inl v.2.1)), (m2, .inl (cJ, 92, .inr (.inl v.2.2.2.1))), (m3, .inl (cJ, 92, .inr (.inl v.2.2.2.2.1))), (m4, .inl (cI, 1573, .inl v.2.2.2.2.2.2.2.2.2.2.2.2.2.2.1)), (m5, .inl (cI, 12, .inl v.2.2.2.2.2.2.2.2.2.2.2.2.2.2.2.1))]) hD hS hA [0, 1, 2, 3, 4, 5] rfl
  refine va_callv (va_runV (As := []) (rest := []) ⟨hx, hb, hml, hown, hts⟩ (kX4_begin l dC dI cI cJ m0 m1 m2 m3 m4 m5 H.size (0, v.2.1, v.2.2.1, v.2.2.2.1, v.2.2.2.2.1, v.2.2.2.2.2.1, v.2.2.2.2.2.2.1, v.2.2.2.2.2.2.2.1, v.2.2.2.2.2.2.2.2.1, v.2.2.2.2.2.2.2.2.2.1, v.2.2.2.2.2.2.2.2.2.2.1, v.2.2.2.2.2.2.2.2.2.2.2.1, v.2.2.2.2.2.2.2.2.2.2.2.2.1, v.2.2.2.2.2.2.2.2.2.2.2.2.2.1, v.2.2.2.2.2.2.2.2.2.2.2.2.2.2.1, v.2.2.2.2.2.2.2.2.2.2.2.2.2.2.2.1, v.2.2.2.2.2.2.2.2.2.2.2.2.2.2.2.2)) (cwV 0 hts gX4_plan_X4_begin rfl rfl rfl (by decide +kernel) ⟨Nat.le_of_ble_eq_true rfl, Nat.le_of_ble_eq_true rfl⟩) ⟨fun a U g mk q => by obtain ⟨q0, q1, qP, qK, qD⟩ := q; exact ⟨q0, q1, qP, va_K.moved (u := U) (U := U.calling g mk a) (Vm.Alike.refl U.vm) qK, qD⟩, va_recv hK hPc (ci := 4) (q0 := 0) rfl rfl, fun U hU hW => ⟨rfl, by rw [hU], by rw [hU]; exact hPc, va_K.moved hW.alike hK, hDc.weaken (fun _ _ _ _ => trivial)⟩⟩ rfl rfl hl.1 rfl (lv_room (Nat.le_of_ble_eq_true rfl)) dX4_plan_6 ⟨Nat.le_of_ble_eq_true rfl, Nat.le_of_ble_eq_true rfl⟩) hS (fun q _ h => hFc q h) hFc (fun _ t H1 locs ht hvm hw hB hz1 hk1 hS => ?_)
  obtain ⟨hP1, hK1, hD1⟩ := hB
  rw [ht] at hP1
  obtain ⟨g_2, eg_2⟩ : ∃ z, z = sX4_begin (0, v.2.1, v.2.2.1, v.2.2.2.1, v.2.2.2.2.1, v.2.2.2.2.2.1, v.2.2.2.2.2.2.1, v.2.2.2.2.2.2.2.1, v.2.2.2.2.2.2.2.2.1, v.2.2.2.2.2.2.2.2.2.1, v.2.2.2.2.2.2.2.2.2.2.1, v.2.2.2.2.2.2.2.2.2.2.2.1, v.2.2.2.2.2.2.2.2.2.2.2.2.1, v.2.2.2.2.2.2.2.2.2.2.2.2.2.1, v.2.2.2.2.2.2.2.2.2.2.2.2.2.2.1, v.2.2.2.2.2.2.2.2.2.2.2.2.2.2.2.1, v.2.2.2.2.2.2.2.2.2.2.2.2.2.2.2.2) := ⟨_, rfl⟩
  rw [← eg_2] at hP1 hD1
  obtain ⟨hP, hD⟩ := va_join (wr := []) (w1 := [cM0 m0 m1 m2 m3 m4 m5 g_2, cM1 cI m1 g_2, cM2 cJ m2 g_2, cM3 cJ m3 g_2, cM4 cI m4 g_2, cM5 cI m5 g_2]) hP hD [0, 1, 2, 3, 4, 5] [] rfl rfl (by decide) (by decide) hk1 hFc hP1 hD1
  generalize H1 = H at hP hS ⊢
  have hP : va_P (dC, dI) vwCl [cM0 m0 m1 m2 m3 m4 m5 g_2, cM1 cI m1 g_2, cM2 cJ m2 g_2, cM3 cJ m3 g_2, cM4 cI m4 g_2, cM5 cI m5 g_2] H := hP
  have hD : va_D A [cM0 m0 m1 m2 m3 m4 m5 g_2, cM1 cI m1 g_2, cM2 cJ m2 g_2, cM3 cJ m3 g_2, cM4 cI m4 g_2, cM5 cI m5 g_2] := hD
  refine lv_aload_n hx hb dX4_plan_9 rfl (lv_at hl 0 rfl) ?_
  refine va_get (D := (dC, dI)) (ci := 4) (v := .int g_2.2.2.1) (C := RX4) (T := TX4) (N := 17) hx hb hts hiX4 hown hK hP 0 rfl rfl 2 (by decide) (hts (.fieldLink RX4 52 "TripReckonerModel" "taped" "I") (by decide +kernel)) (fun _ h9 => h9) rfl dX4_plan_10 ?_
  refine lv_istore_n (lv' := [(1, .int g_2.2.2.1), (0, .ref m0)]) hx hb dX4_plan_13 rfl hl (by decide) rfl (fun ls hl => ?_)
  refine lv_aload_n hx hb dX4_plan_14 rfl (lv_at hl 1 rfl) ?_
  refine lv_iconst (v := 0) hx hb dX4_plan_15 (by decide) ?_
  refine va_put (D := (dC, dI)) (ci := 4) (v := .int 0) (ty := .int) (C := RX4) (T := TX4) (N := 17) hx hb hts hiX4 tyX4 tyX4_ok nmX4 hown hK hP hD hS 0 rfl rfl 2 (by decide) (hts (.fieldLink RX4 52 "TripReckonerModel" "taped" "I") (by decide +kernel)) (fun _ h9 => h9) rfl (by decide +kernel) rfl rfl (Nat.le_of_ble_eq_true rfl) dX4_plan_16 (fun H locs hP hD hS => ?_)
  have hP : va_P (dC, dI) vwCl [(m0, .inr (4, [.int g_2.1, .ref m1, .int 0, .ref m2, .ref m3, .int g_2.2.2.2.2.2.1, .int g_2.2.2.2.2.2.2.1, .int g_2.2.2.2.2.2.2.2.1, .int g_2.2.2.2.2.2.2.2.2.1, .int g_2.2.2.2.2.2.2.2.2.2.1, .int g_2.2.2.2.2.2.2.2.2.2.2.1, .int g_2.2.2.2.2.2.2.2.2.2.2.2.1, .long g_2.2.2.2.2.2.2.2.2.2.2.2.2.1, .int g_2.2.2.2.2.2.2.2.2.2.2.2.2.2.1, .ref m4, .ref m5, .int g_2.2.2.2.2.2.2.2.2.2.2.2.2.2.2.2.2])), (m1, .inl (cI, 60, .inl g_2.2.1)), (m2, .inl (cJ, 92, .inr (.inl g_2.2.2.2.1))), (m3, .inl (cJ, 92, .inr (.inl g_2.2.2.2.2.1))), (m4, .inl (cI, 1573, .inl g_2.2.2.2.2.2.2.2.2.2.2.2.2.2.2.1)), (m5, .inl (cI, 12, .inl g_2.2.2.2.2.2.2.2.2.2.2.2.2.2.2.2.1))] H := hP
  have hD : va_D A [(m0, .inr (4, [.int g_2.1, .ref m1, .int 0, .ref m2, .ref m3, .int g_2.2.2.2.2.2.1, .int g_2.2.2.2.2.2.2.1, .int g_2.2.2.2.2.2.2.2.1, .int g_2.2.2.2.2.2.2.2.2.1, .int g_2.2.2.2.2.2.2.2.2.2.1, .int g_2.2.2.2.2.2.2.2.2.2.2.1, .int g_2.2.2.2.2.2.2.2.2.2.2.2.1, .long g_2.2.2.2.2.2.2.2.2.2.2.2.2.1, .int g_2.2.2.2.2.2.2.2.2.2.2.2.2.2.1, .ref m4, .ref m5, .int g_2.2.2.2.2.2.2.2.2.2.2.2.2.2.2.2.2])), (m1, .inl (cI, 60, .inl g_2.2.1)), (m2, .inl (cJ, 92, .inr (.inl g_2.2.2.2.1))), (m3, .inl (cJ, 92, .inr (.inl g_2.2.2.2.2.1))), (m4, .inl (cI, 1573, .inl g_2.2.2.2.2.2.2.2.2.2.2.2.2.2.2.1)), (m5, .inl (cI, 12, .inl g_2.2.2.2.2.2.2.2.2.2.2.2.2.2.2.2.1))] := hD
  refine lv_iload_n hx hb dX4_plan_19 rfl (lv_at hl 0 rfl) ?_
  refine lv_iconst (v := 2) hx hb dX4_plan_20 (by decide) ?_
  refine lv_irem hx hb dX4_plan_21 (by decide) ?_
  refine lv_if_eq (tgt := 31) hx hb dX4_plan_22 (by decide) (fun c_3 => ?_) (fun c_3 => ?_)
  · refine lv_bipush (v := (-2)) hx hb dX4_plan_31 (by decide) ?_
    have es0 : sX4_plan xs bs v = (g_2.1, g_2.2.1, 0, g_2.2.2.2.1, g_2.2.2.2.2.1, g_2.2.2.2.2.2.1, g_2.2.2.2.2.2.2.1, g_2.2.2.2.2.2.2.2.1, g_2.2.2.2.2.2.2.2.2.1, g_2.2.2.2.2.2.2.2.2.2.1, g_2.2.2.2.2.2.2.2.2.2.2.1, g_2.2.2.2.2.2.2.2.2.2.2.2.1, g_2.2.2.2.2.2.2.2.2.2.2.2.2.1, g_2.2.2.2.2.2.2.2.2.2.2.2.2.2.1, g_2.2.2.2.2.2.2.2.2.2.2.2.2.2.2.1, g_2.2.2.2.2.2.2.2.2.2.2.2.2.2.2.2.1, g_2.2.2.2.2.2.2.2.2.2.2.2.2.2.2.2.2) := by rw [sX4_plan, ← eg_2, sX4_plan_g_2, if_pos c_3]
    have er : (-2) = rX4_plan xs bs v := by rw [rX4_plan, ← eg_2, rX4_plan_g_2, if_pos c_3]
    refine W.iret (v := (-2)) hx hb hr (fun t ht hW => ⟨⟨(-2), (), rfl, er, ?_⟩, hS.F ht⟩) hS.2.2 dX4_plan_33
    rw [es0]; exact ⟨by rw [ht]; exact hP, va_K.moved hW.alike hK, hD⟩
  · refine lv_iload_n hx hb dX4_plan_25 rfl (lv_at hl 0 rfl) ?_
    refine lv_bipush (v := 25) hx hb dX4_plan_26 (by decide) ?_
    refine lv_icmp_le (tgt := 34) hx hb dX4_plan_28 (by decide) (fun c_4 => ?_) (fun c_4 => ?_)
    · refine lv_iconst (v := 0) hx hb dX4_plan_34 (by decide) ?_
      refine lv_istore_n (lv' := [(2, .int 0), (1, .int g_2.2.2.1), (0, .ref m0)]) hx hb dX4_plan_35 rfl hl (by decide) rfl (fun ls hl => ?_)
      have hnd0 := (hu _ eg_2).2.2.2.2.2.2.1
      have hnd1 : ∀ j, j ≤ 12 → 0 ≤ rX4_need (nI j) (wt0 g_2) := fun j hj => by rw [need_wt0]; exact hnd0 j hj
      have hnd2 : ∀ j, j ≤ 12 → 0 ≤ rX4_need (nI j) (pl_W g_2) := fun j hj => by rw [need_W]; exact hnd0 j hj
      have hnd3 : ∀ j, j ≤ 12 → 0 ≤ rX4_need (nI j) (wsp (pl_W g_2) (nI (pS g_2))) := fun j hj => by rw [need_S, need_W]; exact hnd0 j hj
      have hP : va_P (dC, dI) vwCl [cM0 m0 m1 m2 m3 m4 m5 (wt0 g_2), cM1 cI m1 (wt0 g_2), cM2 cJ m2 (wt0 g_2), cM3 cJ m3 (wt0 g_2), cM4 cI m4 (wt0 g_2), cM5 cI m5 (wt0 g_2)] H := hP
      have hD : va_D A [cM0 m0 m1 m2 m3 m4 m5 (wt0 g_2), cM1 cI m1 (wt0 g_2), cM2 cJ m2 (wt0 g_2), cM3 cJ m3 (wt0 g_2), cM4 cI m4 (wt0 g_2), cM5 cI m5 (wt0 g_2)] := hD
      refine f_scanM hx hb hml hown hts hA hK (i_cl (hu _ eg_2).1) (hu _ eg_2).2.1 (g_2.2.2.1.toNatClampNeg) 0 (by omega) (fun j hj => absurd hj (Nat.not_lt_zero j)) (fun hz9 H locs ls hP hD hS hl => ?_) (fun j9 hj9 hz9 H locs ls hP hD hS hl => ?_) _ _ _ hP hD hS (lv_sub hl [2, 1, 0] rfl)
      · have c_5 : nz_b g_2.2.1 g_2.2.2.1.toNatClampNeg = true := nz_t hz9
        refine lv_iload_n hx hb dX4_plan_59 rfl (lv_at hl 1 rfl) ?_
        refine lv_iconst (v := 1) hx hb dX4_plan_60 (by decide) ?_
        refine lv_iadd hx hb dX4_plan_61 ?_
        refine lv_iconst (v := 2) hx hb dX4_plan_62 (by decide) ?_
        refine lv_idiv hx hb dX4_plan_63 (by decide) ?_
        refine lv_topi (fun z_6 ez_6 => ?_)
        obtain rfl : z_6 = nI (pS g_2 + 1) := ez_6.trans (pS_ok (hu _ eg_2).1 c_3 c_4)
        refine lv_istore_n (lv' := [(2, .int (nI (pS g_2 + 1))), (0, .ref m0), (1, .int g_2.2.2.1)]) hx hb dX4_plan_64 rfl hl (by decide) rfl (fun ls hl => ?_)
        refine lv_aload_n hx hb dX4_plan_65 rfl (lv_at hl 1 rfl) ?_
        refine va_get (D := (dC, dI)) (ci := 4) (v := .int ((wt0 g_2).2.2.2.2.2.1)) (C := RX4) (T := TX4) (N := 17) hx hb hts hiX4 hown hK hP 0 rfl rfl 5 (by decide) (hts (.fieldLink RX4 21 "TripReckonerModel" "cap" "I") (by decide +kernel)) (fun _ h9 => h9) rfl dX4_plan_66 ?_
        refine lv_sipush (v := 1000) hx hb dX4_plan_69 (by decide) ?_
        refine lv_idiv hx hb dX4_plan_72 (by decide) ?_
        refine lv_topi (fun z_7 ez_7 => ?_)
        obtain rfl : z_7 = nI (pmo g_2) := ez_7.trans (i_cl (hu _ eg_2).2.2.1)
        refine lv_istore_n (lv' := [(3, .int (nI (pmo g_2))), (2, .int (nI (pS g_2 + 1))), (0, .ref m0), (1, .int g_2.2.2.1)]) hx hb dX4_plan_73 rfl hl (by decide) rfl (fun ls hl => ?_)
        refine lv_aload_n hx hb dX4_plan_74 rfl (lv_at hl 2 rfl) ?_
        refine va_get (D := (dC, dI)) (ci := 4) (v := .ref m2) (C := RX4) (T := TX4) (N := 17) hx hb hts hiX4 hown hK hP 0 rfl rfl 3 (by decide) (hts (.fieldLink RX4 13 "TripReckonerModel" "now" "[J") (by decide +kernel)) (fun _ h9 => h9) rfl dX4_plan_75 ?_
        refine lv_iconst (v := 0) hx hb dX4_plan_78 (by decide) ?_
        refine va_lald hx hb hK hP 2 1 rfl rfl (vd (by decide +kernel)) dX4_plan_79 ?_
        refine lv_topl (fun z_8 ez_8 => ?_)
        have ez_8 : z_8 = ((wt0 g_2).2.2.2.1) 0 := ez_8
        subst ez_8
        refine lv_l2i (v := (((wt0 g_2).2.2.2.1) 0).toInt32) hx hb dX4_plan_80 rfl ?_
        refine lv_sipush (v := 1000) hx hb dX4_plan_81 (by decide) ?_
        refine lv_idiv hx hb dX4_plan_84 (by decide) ?_
        refine lv_topi (fun z_9 ez_9 => ?_)
        obtain rfl : z_9 = nI (pha g_2) := ez_9.trans (i_cl (hu _ eg_2).2.2.2.2.1)
        refine lv_istore (lv' := [(4, .int (nI (pha g_2))), (3, .int (nI (pmo g_2))), (2, .int (nI (pS g_2 + 1))), (0, .ref m0), (1, .int g_2.2.2.1)]) hx hb dX4_plan_85 hl (by decide) rfl (fun ls hl => ?_)
        refine lv_iload_n hx hb dX4_plan_87 rfl (lv_at hl 2 rfl) ?_
        refine lv_iconst (v := 2) hx hb dX4_plan_88 (by decide) ?_
        refine lv_isub hx hb dX4_plan_89 ?_
        refine lv_topi (fun z_10 ez_10 => ?_)
        obtain rfl : z_10 = nM (pS g_2) := ez_10.trans (nM_2 _)
        refine lv_istore (lv' := [(5, .int (nM (pS g_2))), (4, .int (nI (pha g_2))), (3, .int (nI (pmo g_2))), (2, .int (nI (pS g_2 + 1))), (0, .ref m0), (1, .int g_2.2.2.1)]) hx hb dX4_plan_90 hl (by decide) rfl (fun ls hl => ?_)
        have hP : va_P (dC, dI) vwCl [(m0, .inr (4, [.int ((wt0 g_2).1), .ref m1, .int ((wt0 g_2).2.2.1), .ref m2, .ref m3, .int ((wt0 g_2).2.2.2.2.2.1), .int ((wt0 g_2).2.2.2.2.2.2.1), .int ((wt0 g_2).2.2.2.2.2.2.2.1), .int ((wt0 g_2).2.2.2.2.2.2.2.2.1), .int ((wt0 g_2).2.2.2.2.2.2.2.2.2.1), .int ((wt0 g_2).2.2.2.2.2.2.2.2.2.2.1), .int ((wt0 g_2).2.2.2.2.2.2.2.2.2.2.2.1), .long ((wt0 g_2).2.2.2.2.2.2.2.2.2.2.2.2.1), .int ((wt0 g_2).2.2.2.2.2.2.2.2.2.2.2.2.2.1), .ref m4, .ref m5, .int ((wt0 g_2).2.2.2.2.2.2.2.2.2.2.2.2.2.2.2.2)])), (m1, .inl (cI, 60, .inl ((wt0 g_2).2.1))), (m2, .inl (cJ, 92, .inr (.inl ((wt0 g_2).2.2.2.1)))), (m3, .inl (cJ, 92, .inr (.inl ((wt0 g_2).2.2.2.2.1)))), (m4, .inl (cI, 1573, .inl ((wt0 g_2).2.2.2.2.2.2.2.2.2.2.2.2.2.2.1))), (m5, .inl (cI, 12, .inl ((wt0 g_2).2.2.2.2.2.2.2.2.2.2.2.2.2.2.2.1)))] H := hP
        have hD : va_D A [(m0, .inr (4, [.int ((wt0 g_2).1), .ref m1, .int ((wt0 g_2).2.2.1), .ref m2, .ref m3, .int ((wt0 g_2).2.2.2.2.2.1), .int ((wt0 g_2).2.2.2.2.2.2.1), .int ((wt0 g_2).2.2.2.2.2.2.2.1), .int ((wt0 g_2).2.2.2.2.2.2.2.2.1), .int ((wt0 g_2).2.2.2.2.2.2.2.2.2.1), .int ((wt0 g_2).2.2.2.2.2.2.2.2.2.2.1), .int ((wt0 g_2).2.2.2.2.2.2.2.2.2.2.2.1), .long ((wt0 g_2).2.2.2.2.2.2.2.2.2.2.2.2.1), .int ((wt0 g_2).2.2.2.2.2.2.2.2.2.2.2.2.2.1), .ref m4, .ref m5, .int ((wt0 g_2).2.2.2.2.2.2.2.2.2.2.2.2.2.2.2.2)])), (m1, .inl (cI, 60, .inl ((wt0 g_2).2.1))), (m2, .inl (cJ, 92, .inr (.inl ((wt0 g_2).2.2.2.1)))), (m3, .inl (cJ, 92, .inr (.inl ((wt0 g_2).2.2.2.2.1)))), (m4, .inl (cI, 1573, .inl ((wt0 g_2).2.2.2.2.2.2.2.2.2.2.2.2.2.2.1))), (m5, .inl (cI, 12, .inl ((wt0 g_2).2.2.2.2.2.2.2.2.2.2.2.2.2.2.2.1)))] := hD
        refine f_out (v := (wt0 g_2)) hx hb hml hown hts hA hK (hu _ eg_2).2.2.2.1 hnd1 (pS g_2) (wt0 g_2).2.2.2.2.2.2.2.2.2.2.2.2.2.2.1 (pS_12 (hu _ eg_2).1 c_4) (fun H locs ls hP hD hS hl => ?_) _ _ _ hP hD hS (lv_sub hl [4, 3, 2, 1, 0] rfl)
        have hP : va_P (dC, dI) vwCl [cM0 m0 m1 m2 m3 m4 m5 (pl_W g_2), cM1 cI m1 (pl_W g_2), cM2 cJ m2 (pl_W g_2), cM3 cJ m3 (pl_W g_2), cM4 cI m4 (pl_W g_2), cM5 cI m5 (pl_W g_2)] H := hP
        have hD : va_D A [cM0 m0 m1 m2 m3 m4 m5 (pl_W g_2), cM1 cI m1 (pl_W g_2), cM2 cJ m2 (pl_W g_2), cM3 cJ m3 (pl_W g_2), cM4 cI m4 (pl_W g_2), cM5 cI m5 (pl_W g_2)] := hD
        refine lv_aload_n hx hb dX4_plan_219 rfl (lv_at hl 0 rfl) ?_
        refine lv_iconst (v := 0) hx hb dX4_plan_220 (by decide) ?_
        refine lv_iload hx hb dX4_plan_221 (lv_at hl 3 rfl) ?_
        refine lv_iload_n hx hb dX4_plan_223 rfl (lv_at hl 1 rfl) ?_
        have hPc := hP.sub (ws' := [cM0 m0 m1 m2 m3 m4 m5 (pl_W g_2), cM1 cI m1 (pl_W g_2), cM2 cJ m2 (pl_W g_2), cM3 cJ m3 (pl_W g_2), cM4 cI m4 (pl_W g_2), cM5 cI m5 (pl_W g_2)]) [0, 1, 2, 3, 4, 5] rfl
        have hDc := hD.sub (ws' := [cM0 m0 m1 m2 m3 m4 m5 (pl_W g_2), cM1 cI m1 (pl_W g_2), cM2 cJ m2 (pl_W g_2), cM3 cJ m3 (pl_W g_2), cM4 cI m4 (pl_W g_2), cM5 cI m5 (pl_W g_2)]) [0, 1, 2, 3, 4, 5] (by decide) rfl
        have hFc := va_free (wc := [cM0 m0 m1 m2 m3 m4 m5 (pl_W g_2), cM1 cI m1 (pl_W g_2), cM2 cJ m2 (pl_W g_2), cM3 cJ m3 (pl_W g_2), cM4 cI m4 (pl_W g_2), cM5 cI m5 (pl_W g_2)]) hD hS hA [0, 1, 2, 3, 4, 5] rfl
        refine va_calli (va_runV (As := [.int 0, .int (nI (pha g_2)), .int (nI (pS g_2 + 1))]) (rest := []) ⟨hx, hb, hml, hown, hts⟩ (kX4_behind l dC dI cI cJ m0 m1 m2 m3 m4 m5 H.size 0 (nI (pha g_2)) (nI (pS g_2 + 1)) (pl_W g_2) (vd (by decide +kernel)) (fun h1 h2 => bh_in (j := 0) (v := pl_W g_2) (hnd2 0 (by omega)) (by omega) (hu _ eg_2).2.2.2.2.2.1 h1 h2)) (cwV 3 hts gX4_plan_X4_behind rfl rfl rfl (by decide +kernel) ⟨Nat.le_of_ble_eq_true rfl, Nat.le_of_ble_eq_true rfl⟩) ⟨fun a U g mk q => by obtain ⟨q0, q1, qP, qK, qD⟩ := q; exact ⟨q0, q1, qP, va_K.moved (u := U) (U := U.calling g mk a) (Vm.Alike.refl U.vm) qK, qD⟩, va_recv hK hPc (ci := 4) (q0 := 0) rfl rfl, fun U hU hW => ⟨rfl, by rw [hU], by rw [hU]; exact hPc, va_K.moved hW.alike hK, hDc.weaken (fun _ _ _ _ => trivial)⟩⟩ rfl rfl hl.1 rfl (lv_room (Nat.le_of_ble_eq_true rfl)) dX4_plan_224 ⟨Nat.le_of_ble_eq_true rfl, Nat.le_of_ble_eq_true rfl⟩) hS (fun q _ h => hFc q h) hFc (fun r_11 _ t H1 locs ht hvm hw hB hz1 hk1 hS => ?_)
        obtain ⟨hP1, hK1, hD1⟩ := hB
        rw [ht] at hP1
        obtain ⟨hP, hD⟩ := va_join (wr := []) (w1 := [cM0 m0 m1 m2 m3 m4 m5 (pl_W g_2), cM1 cI m1 (pl_W g_2), cM2 cJ m2 (pl_W g_2), cM3 cJ m3 (pl_W g_2), cM4 cI m4 (pl_W g_2), cM5 cI m5 (pl_W g_2)]) hP hD [0, 1, 2, 3, 4, 5] [] rfl rfl (by decide) (by decide) hk1 hFc hP1 hD1
        generalize H1 = H at hP hS ⊢
        have hP : va_P (dC, dI) vwCl [cM0 m0 m1 m2 m3 m4 m5 (pl_W g_2), cM1 cI m1 (pl_W g_2), cM2 cJ m2 (pl_W g_2), cM3 cJ m3 (pl_W g_2), cM4 cI m4 (pl_W g_2), cM5 cI m5 (pl_W g_2)] H := hP
        have hD : va_D A [cM0 m0 m1 m2 m3 m4 m5 (pl_W g_2), cM1 cI m1 (pl_W g_2), cM2 cJ m2 (pl_W g_2), cM3 cJ m3 (pl_W g_2), cM4 cI m4 (pl_W g_2), cM5 cI m5 (pl_W g_2)] := hD
        subst hw
        refine lv_istore (lv' := [(5, .int (rX4_behind 0 (nI (pha g_2)) (nI (pS g_2 + 1)) (pl_W g_2))), (0, .ref m0), (2, .int (nI (pS g_2 + 1))), (3, .int (nI (pmo g_2))), (4, .int (nI (pha g_2)))]) hx hb dX4_plan_227 hl (by decide) rfl (fun ls hl => ?_)
        refine lv_iload hx hb dX4_plan_229 (lv_at hl 0 rfl) ?_
        refine lv_ldc hx hb hown (hts (.constant RX4 141 (1000000000)) (by decide +kernel)) dX4_plan_231 ?_
        refine lv_icmp_ne (tgt := 238) hx hb dX4_plan_233 (by decide) (fun c_12 => ?_) (fun c_12 => ?_)
        · refine lv_aload_n hx hb dX4_plan_238 rfl (lv_at hl 1 rfl) ?_
          refine lv_iload_n hx hb dX4_plan_239 rfl (lv_at hl 2 rfl) ?_
          refine lv_iconst (v := 1) hx hb dX4_plan_240 (by decide) ?_
          refine lv_isub hx hb dX4_plan_241 ?_
          refine lv_topi (fun z_13 ez_13 => ?_)
          obtain rfl : z_13 = nI (pS g_2) := ez_13.trans (nI_pred _)
          refine va_put (D := (dC, dI)) (ci := 4) (v := .int (nI (pS g_2))) (ty := .int) (C := RX4) (T := TX4) (N := 17) hx hb hts hiX4 tyX4 tyX4_ok nmX4 hown hK hP hD hS 0 rfl rfl 16 (by decide) (hts (.fieldLink RX4 146 "TripReckonerModel" "stops" "I") (by decide +kernel)) (fun _ h9 => h9) rfl (by decide +kernel) rfl rfl (Nat.le_of_ble_eq_true rfl) dX4_plan_242 (fun H locs hP hD hS => ?_)
          have hP : va_P (dC, dI) vwCl [(m0, .inr (4, [.int ((pl_W g_2).1), .ref m1, .int ((pl_W g_2).2.2.1), .ref m2, .ref m3, .int ((pl_W g_2).2.2.2.2.2.1), .int ((pl_W g_2).2.2.2.2.2.2.1), .int ((pl_W g_2).2.2.2.2.2.2.2.1), .int ((pl_W g_2).2.2.2.2.2.2.2.2.1), .int ((pl_W g_2).2.2.2.2.2.2.2.2.2.1), .int ((pl_W g_2).2.2.2.2.2.2.2.2.2.2.1), .int ((pl_W g_2).2.2.2.2.2.2.2.2.2.2.2.1), .long ((pl_W g_2).2.2.2.2.2.2.2.2.2.2.2.2.1), .int ((pl_W g_2).2.2.2.2.2.2.2.2.2.2.2.2.2.1), .ref m4, .ref m5, .int (nI (pS g_2))])), (m1, .inl (cI, 60, .inl ((pl_W g_2).2.1))), (m2, .inl (cJ, 92, .inr (.inl ((pl_W g_2).2.2.2.1)))), (m3, .inl (cJ, 92, .inr (.inl ((pl_W g_2).2.2.2.2.1)))), (m4, .inl (cI, 1573, .inl ((pl_W g_2).2.2.2.2.2.2.2.2.2.2.2.2.2.2.1))), (m5, .inl (cI, 12, .inl ((pl_W g_2).2.2.2.2.2.2.2.2.2.2.2.2.2.2.2.1)))] H := hP
          have hD : va_D A [(m0, .inr (4, [.int ((pl_W g_2).1), .ref m1, .int ((pl_W g_2).2.2.1), .ref m2, .ref m3, .int ((pl_W g_2).2.2.2.2.2.1), .int ((pl_W g_2).2.2.2.2.2.2.1), .int ((pl_W g_2).2.2.2.2.2.2.2.1), .int ((pl_W g_2).2.2.2.2.2.2.2.2.1), .int ((pl_W g_2).2.2.2.2.2.2.2.2.2.1), .int ((pl_W g_2).2.2.2.2.2.2.2.2.2.2.1), .int ((pl_W g_2).2.2.2.2.2.2.2.2.2.2.2.1), .long ((pl_W g_2).2.2.2.2.2.2.2.2.2.2.2.2.1), .int ((pl_W g_2).2.2.2.2.2.2.2.2.2.2.2.2.2.1), .ref m4, .ref m5, .int (nI (pS g_2))])), (m1, .inl (cI, 60, .inl ((pl_W g_2).2.1))), (m2, .inl (cJ, 92, .inr (.inl ((pl_W g_2).2.2.2.1)))), (m3, .inl (cJ, 92, .inr (.inl ((pl_W g_2).2.2.2.2.1)))), (m4, .inl (cI, 1573, .inl ((pl_W g_2).2.2.2.2.2.2.2.2.2.2.2.2.2.2.1))), (m5, .inl (cI, 12, .inl ((pl_W g_2).2.2.2.2.2.2.2.2.2.2.2.2.2.2.2.1)))] := hD
          have hP : va_P (dC, dI) vwCl [cM0 m0 m1 m2 m3 m4 m5 (wsp (pl_W g_2) (nI (pS g_2))), cM1 cI m1 (wsp (pl_W g_2) (nI (pS g_2))), cM2 cJ m2 (wsp (pl_W g_2) (nI (pS g_2))), cM3 cJ m3 (wsp (pl_W g_2) (nI (pS g_2))), cM4 cI m4 (wsp (pl_W g_2) (nI (pS g_2))), cM5 cI m5 (wsp (pl_W g_2) (nI (pS g_2)))] H := hP
          have hD : va_D A [cM0 m0 m1 m2 m3 m4 m5 (wsp (pl_W g_2) (nI (pS g_2))), cM1 cI m1 (wsp (pl_W g_2) (nI (pS g_2))), cM2 cJ m2 (wsp (pl_W g_2) (nI (pS g_2))), cM3 cJ m3 (wsp (pl_W g_2) (nI (pS g_2))), cM4 cI m4 (wsp (pl_W g_2) (nI (pS g_2))), cM5 cI m5 (wsp (pl_W g_2) (nI (pS g_2)))] := hD
          refine lv_iload hx hb dX4_plan_245 (lv_at hl 4 rfl) ?_
          refine lv_aload_n hx hb dX4_plan_247 rfl (lv_at hl 1 rfl) ?_
          refine lv_iconst (v := 0) hx hb dX4_plan_248 (by decide) ?_
          have hPc := hP.sub (ws' := [cM0 m0 m1 m2 m3 m4 m5 (wsp (pl_W g_2) (nI (pS g_2))), cM1 cI m1 (wsp (pl_W g_2) (nI (pS g_2))), cM2 cJ m2 (wsp (pl_W g_2) (nI (pS g_2))), cM3 cJ m3 (wsp (pl_W g_2) (nI (pS g_2))), cM4 cI m4 (wsp (pl_W g_2) (nI (pS g_2))), cM5 cI m5 (wsp (pl_W g_2) (nI (pS g_2)))]) [0, 1, 2, 3, 4, 5] rfl
          have hDc := hD.sub (ws' := [cM0 m0 m1 m2 m3 m4 m5 (wsp (pl_W g_2) (nI (pS g_2))), cM1 cI m1 (wsp (pl_W g_2) (nI (pS g_2))), cM2 cJ m2 (wsp (pl_W g_2) (nI (pS g_2))), cM3 cJ m3 (wsp (pl_W g_2) (nI (pS g_2))), cM4 cI m4 (wsp (pl_W g_2) (nI (pS g_2))), cM5 cI m5 (wsp (pl_W g_2) (nI (pS g_2)))]) [0, 1, 2, 3, 4, 5] (by decide) rfl
          have hFc := va_free (wc := [cM0 m0 m1 m2 m3 m4 m5 (wsp (pl_W g_2) (nI (pS g_2))), cM1 cI m1 (wsp (pl_W g_2) (nI (pS g_2))), cM2 cJ m2 (wsp (pl_W g_2) (nI (pS g_2))), cM3 cJ m3 (wsp (pl_W g_2) (nI (pS g_2))), cM4 cI m4 (wsp (pl_W g_2) (nI (pS g_2))), cM5 cI m5 (wsp (pl_W g_2) (nI (pS g_2)))]) hD hS hA [0, 1, 2, 3, 4, 5] rfl
          refine va_calli (va_runV (As := [.int 0]) (rest := [.int (nI (pha g_2))]) ⟨hx, hb, hml, hown, hts⟩ (kX4_need l dC dI cI cJ m0 m1 m2 m3 m4 m5 H.size 0 (wsp (pl_W g_2) (nI (pS g_2))) (vd (by decide +kernel))) (cwV 1 hts gX4_plan_X4_need rfl rfl rfl (by decide +kernel) ⟨Nat.le_of_ble_eq_true rfl, Nat.le_of_ble_eq_true rfl⟩) ⟨fun a U g mk q => by obtain ⟨q0, q1, qP, qK, qD⟩ := q; exact ⟨q0, q1, qP, va_K.moved (u := U) (U := U.calling g mk a) (Vm.Alike.refl U.vm) qK, qD⟩, va_recv hK hPc (ci := 4) (q0 := 0) rfl rfl, fun U hU hW => ⟨rfl, by rw [hU], by rw [hU]; exact hPc, va_K.moved hW.alike hK, hDc.weaken (fun _ _ _ _ => trivial)⟩⟩ rfl rfl hl.1 rfl (lv_room (Nat.le_of_ble_eq_true rfl)) dX4_plan_249 ⟨Nat.le_of_ble_eq_true rfl, Nat.le_of_ble_eq_true rfl⟩) hS (fun q _ h => hFc q h) hFc (fun r_14 _ t H1 locs ht hvm hw hB hz1 hk1 hS => ?_)
          obtain ⟨hP1, hK1, hD1⟩ := hB
          rw [ht] at hP1
          obtain ⟨hP, hD⟩ := va_join (wr := []) (w1 := [cM0 m0 m1 m2 m3 m4 m5 (wsp (pl_W g_2) (nI (pS g_2))), cM1 cI m1 (wsp (pl_W g_2) (nI (pS g_2))), cM2 cJ m2 (wsp (pl_W g_2) (nI (pS g_2))), cM3 cJ m3 (wsp (pl_W g_2) (nI (pS g_2))), cM4 cI m4 (wsp (pl_W g_2) (nI (pS g_2))), cM5 cI m5 (wsp (pl_W g_2) (nI (pS g_2)))]) hP hD [0, 1, 2, 3, 4, 5] [] rfl rfl (by decide) (by decide) hk1 hFc hP1 hD1
          generalize H1 = H at hP hS ⊢
          have hP : va_P (dC, dI) vwCl [cM0 m0 m1 m2 m3 m4 m5 (wsp (pl_W g_2) (nI (pS g_2))), cM1 cI m1 (wsp (pl_W g_2) (nI (pS g_2))), cM2 cJ m2 (wsp (pl_W g_2) (nI (pS g_2))), cM3 cJ m3 (wsp (pl_W g_2) (nI (pS g_2))), cM4 cI m4 (wsp (pl_W g_2) (nI (pS g_2))), cM5 cI m5 (wsp (pl_W g_2) (nI (pS g_2)))] H := hP
          have hD : va_D A [cM0 m0 m1 m2 m3 m4 m5 (wsp (pl_W g_2) (nI (pS g_2))), cM1 cI m1 (wsp (pl_W g_2) (nI (pS g_2))), cM2 cJ m2 (wsp (pl_W g_2) (nI (pS g_2))), cM3 cJ m3 (wsp (pl_W g_2) (nI (pS g_2))), cM4 cI m4 (wsp (pl_W g_2) (nI (pS g_2))), cM5 cI m5 (wsp (pl_W g_2) (nI (pS g_2)))] := hD
          subst hw
          refine lv_isub hx hb dX4_plan_252 ?_
          refine lv_topi (fun z_15 ez_15 => ?_)
          obtain rfl : z_15 = nI (xs 0) := ez_15.trans ((hu _ eg_2).2.2.2.2.2.2.2 c_3 c_4 c_5 c_12).1
          refine lv_istore (lv' := [(6, .int (nI (xs 0))), (5, .int (rX4_behind 0 (nI (pha g_2)) (nI (pS g_2 + 1)) (pl_W g_2))), (0, .ref m0), (2, .int (nI (pS g_2 + 1))), (3, .int (nI (pmo g_2))), (4, .int (nI (pha g_2)))]) hx hb dX4_plan_253 hl (by decide) rfl (fun ls hl => ?_)
          refine lv_iconst (v := 0) hx hb dX4_plan_255 (by decide) ?_
          refine lv_istore (lv' := [(7, .int 0), (6, .int (nI (xs 0))), (5, .int (rX4_behind 0 (nI (pha g_2)) (nI (pS g_2 + 1)) (pl_W g_2))), (0, .ref m0), (2, .int (nI (pS g_2 + 1))), (3, .int (nI (pmo g_2))), (4, .int (nI (pha g_2)))]) hx hb dX4_plan_256 hl (by decide) rfl (fun ls hl => ?_)
          have hP : va_P (dC, dI) vwCl [(m0, .inr (4, [.int ((wsp (pl_W g_2) (nI (pS g_2))).1), .ref m1, .int ((wsp (pl_W g_2) (nI (pS g_2))).2.2.1), .ref m2, .ref m3, .int ((wsp (pl_W g_2) (nI (pS g_2))).2.2.2.2.2.1), .int ((wsp (pl_W g_2) (nI (pS g_2))).2.2.2.2.2.2.1), .int ((wsp (pl_W g_2) (nI (pS g_2))).2.2.2.2.2.2.2.1), .int ((wsp (pl_W g_2) (nI (pS g_2))).2.2.2.2.2.2.2.2.1), .int ((wsp (pl_W g_2) (nI (pS g_2))).2.2.2.2.2.2.2.2.2.1), .int ((wsp (pl_W g_2) (nI (pS g_2))).2.2.2.2.2.2.2.2.2.2.1), .int ((wsp (pl_W g_2) (nI (pS g_2))).2.2.2.2.2.2.2.2.2.2.2.1), .long ((wsp (pl_W g_2) (nI (pS g_2))).2.2.2.2.2.2.2.2.2.2.2.2.1), .int ((wsp (pl_W g_2) (nI (pS g_2))).2.2.2.2.2.2.2.2.2.2.2.2.2.1), .ref m4, .ref m5, .int ((wsp (pl_W g_2) (nI (pS g_2))).2.2.2.2.2.2.2.2.2.2.2.2.2.2.2.2)])), (m1, .inl (cI, 60, .inl ((wsp (pl_W g_2) (nI (pS g_2))).2.1))), (m2, .inl (cJ, 92, .inr (.inl ((wsp (pl_W g_2) (nI (pS g_2))).2.2.2.1)))), (m3, .inl (cJ, 92, .inr (.inl ((wsp (pl_W g_2) (nI (pS g_2))).2.2.2.2.1)))), (m4, .inl (cI, 1573, .inl ((wsp (pl_W g_2) (nI (pS g_2))).2.2.2.2.2.2.2.2.2.2.2.2.2.2.1))), (m5, .inl (cI, 12, .inl (fa_fill (fun j => nI (bs j)) (wsp (pl_W g_2) (nI (pS g_2))).2.2.2.2.2.2.2.2.2.2.2.2.2.2.2.1 0)))] H := hP
          have hD : va_D A [(m0, .inr (4, [.int ((wsp (pl_W g_2) (nI (pS g_2))).1), .ref m1, .int ((wsp (pl_W g_2) (nI (pS g_2))).2.2.1), .ref m2, .ref m3, .int ((wsp (pl_W g_2) (nI (pS g_2))).2.2.2.2.2.1), .int ((wsp (pl_W g_2) (nI (pS g_2))).2.2.2.2.2.2.1), .int ((wsp (pl_W g_2) (nI (pS g_2))).2.2.2.2.2.2.2.1), .int ((wsp (pl_W g_2) (nI (pS g_2))).2.2.2.2.2.2.2.2.1), .int ((wsp (pl_W g_2) (nI (pS g_2))).2.2.2.2.2.2.2.2.2.1), .int ((wsp (pl_W g_2) (nI (pS g_2))).2.2.2.2.2.2.2.2.2.2.1), .int ((wsp (pl_W g_2) (nI (pS g_2))).2.2.2.2.2.2.2.2.2.2.2.1), .long ((wsp (pl_W g_2) (nI (pS g_2))).2.2.2.2.2.2.2.2.2.2.2.2.1), .int ((wsp (pl_W g_2) (nI (pS g_2))).2.2.2.2.2.2.2.2.2.2.2.2.2.1), .ref m4, .ref m5, .int ((wsp (pl_W g_2) (nI (pS g_2))).2.2.2.2.2.2.2.2.2.2.2.2.2.2.2.2)])), (m1, .inl (cI, 60, .inl ((wsp (pl_W g_2) (nI (pS g_2))).2.1))), (m2, .inl (cJ, 92, .inr (.inl ((wsp (pl_W g_2) (nI (pS g_2))).2.2.2.1)))), (m3, .inl (cJ, 92, .inr (.inl ((wsp (pl_W g_2) (nI (pS g_2))).2.2.2.2.1)))), (m4, .inl (cI, 1573, .inl ((wsp (pl_W g_2) (nI (pS g_2))).2.2.2.2.2.2.2.2.2.2.2.2.2.2.1))), (m5, .inl (cI, 12, .inl (fa_fill (fun j => nI (bs j)) (wsp (pl_W g_2) (nI (pS g_2))).2.2.2.2.2.2.2.2.2.2.2.2.2.2.2.1 0)))] := hD
          refine f_buyM (v := (wsp (pl_W g_2) (nI (pS g_2)))) (S := pS g_2) hx hb hml hown hts hA hK rfl (pS_12 (hu _ eg_2).1 c_4) hnd3 ((hu _ eg_2).2.2.2.2.2.2.2 c_3 c_4 c_5 c_12).2 (pS g_2) 0 (by omega) (fun H locs ls hP hD hS hl => ?_) _ _ _ hP hD hS (lv_sub hl [3, 4, 2, 1, 0] rfl)
          refine lv_iload hx hb dX4_plan_321 (lv_at hl 1 rfl) ?_
          have es0 : sX4_plan xs bs v = ((wsp (pl_W g_2) (nI (pS g_2))).1, (wsp (pl_W g_2) (nI (pS g_2))).2.1, (wsp (pl_W g_2) (nI (pS g_2))).2.2.1, (wsp (pl_W g_2) (nI (pS g_2))).2.2.2.1, (wsp (pl_W g_2) (nI (pS g_2))).2.2.2.2.1, (wsp (pl_W g_2) (nI (pS g_2))).2.2.2.2.2.1, (wsp (pl_W g_2) (nI (pS g_2))).2.2.2.2.2.2.1, (wsp (pl_W g_2) (nI (pS g_2))).2.2.2.2.2.2.2.1, (wsp (pl_W g_2) (nI (pS g_2))).2.2.2.2.2.2.2.2.1, (wsp (pl_W g_2) (nI (pS g_2))).2.2.2.2.2.2.2.2.2.1, (wsp (pl_W g_2) (nI (pS g_2))).2.2.2.2.2.2.2.2.2.2.1, (wsp (pl_W g_2) (nI (pS g_2))).2.2.2.2.2.2.2.2.2.2.2.1, (wsp (pl_W g_2) (nI (pS g_2))).2.2.2.2.2.2.2.2.2.2.2.2.1, (wsp (pl_W g_2) (nI (pS g_2))).2.2.2.2.2.2.2.2.2.2.2.2.2.1, (wsp (pl_W g_2) (nI (pS g_2))).2.2.2.2.2.2.2.2.2.2.2.2.2.2.1, fa_fill (fun j => nI (bs j)) (wsp (pl_W g_2) (nI (pS g_2))).2.2.2.2.2.2.2.2.2.2.2.2.2.2.2.1 (pS g_2), (wsp (pl_W g_2) (nI (pS g_2))).2.2.2.2.2.2.2.2.2.2.2.2.2.2.2.2) := by rw [sX4_plan, ← eg_2, sX4_plan_g_2, if_neg c_3, if_pos c_4, if_pos c_5, if_neg c_12]
          have er : rX4_behind 0 (nI (pha g_2)) (nI (pS g_2 + 1)) (pl_W g_2) = rX4_plan xs bs v := by rw [rX4_plan, ← eg_2, rX4_plan_g_2, if_neg c_3, if_pos c_4, if_pos c_5, if_neg c_12]
          refine W.iret (v := rX4_behind 0 (nI (pha g_2)) (nI (pS g_2 + 1)) (pl_W g_2)) hx hb hr (fun t ht hW => ⟨⟨rX4_behind 0 (nI (pha g_2)) (nI (pS g_2 + 1)) (pl_W g_2), (), rfl, er, ?_⟩, hS.F ht⟩) hS.2.2 dX4_plan_323
          rw [es0]; exact ⟨by rw [ht]; exact hP, va_K.moved hW.alike hK, hD⟩
        · refine lv_iconst (v := (-1)) hx hb dX4_plan_236 (by decide) ?_
          have es0 : sX4_plan xs bs v = (pl_W g_2) := by rw [sX4_plan, ← eg_2, sX4_plan_g_2, if_neg c_3, if_pos c_4, if_pos c_5, if_pos c_12]
          have er : (-1) = rX4_plan xs bs v := by rw [rX4_plan, ← eg_2, rX4_plan_g_2, if_neg c_3, if_pos c_4, if_pos c_5, if_pos c_12]
          refine W.iret (v := (-1)) hx hb hr (fun t ht hW => ⟨⟨(-1), (), rfl, er, ?_⟩, hS.F ht⟩) hS.2.2 dX4_plan_237
          rw [es0]; exact ⟨by rw [ht]; exact hP, va_K.moved hW.alike hK, hD⟩
      · have c_5 : ¬ nz_b g_2.2.1 g_2.2.2.1.toNatClampNeg = true := nz_f hj9 hz9
        refine lv_bipush (v := (-2)) hx hb dX4_plan_50 (by decide) ?_
        have es0 : sX4_plan xs bs v = (wt0 g_2) := by rw [sX4_plan, ← eg_2, sX4_plan_g_2, if_neg c_3, if_pos c_4, if_neg c_5]
        have er : (-2) = rX4_plan xs bs v := by rw [rX4_plan, ← eg_2, rX4_plan_g_2, if_neg c_3, if_pos c_4, if_neg c_5]
        refine W.iret (v := (-2)) hx hb hr (fun t ht hW => ⟨⟨(-2), (), rfl, er, ?_⟩, hS.F ht⟩) hS.2.2 dX4_plan_52
        rw [es0]; exact ⟨by rw [ht]; exact hP, va_K.moved hW.alike hK, hD⟩
    · refine lv_bipush (v := (-2)) hx hb dX4_plan_31 (by decide) ?_
      have es0 : sX4_plan xs bs v = (g_2.1, g_2.2.1, 0, g_2.2.2.2.1, g_2.2.2.2.2.1, g_2.2.2.2.2.2.1, g_2.2.2.2.2.2.2.1, g_2.2.2.2.2.2.2.2.1, g_2.2.2.2.2.2.2.2.2.1, g_2.2.2.2.2.2.2.2.2.2.1, g_2.2.2.2.2.2.2.2.2.2.2.1, g_2.2.2.2.2.2.2.2.2.2.2.2.1, g_2.2.2.2.2.2.2.2.2.2.2.2.2.1, g_2.2.2.2.2.2.2.2.2.2.2.2.2.2.1, g_2.2.2.2.2.2.2.2.2.2.2.2.2.2.2.1, g_2.2.2.2.2.2.2.2.2.2.2.2.2.2.2.2.1, g_2.2.2.2.2.2.2.2.2.2.2.2.2.2.2.2.2) := by rw [sX4_plan, ← eg_2, sX4_plan_g_2, if_neg c_3, if_neg c_4]
      have er : (-2) = rX4_plan xs bs v := by rw [rX4_plan, ← eg_2, rX4_plan_g_2, if_neg c_3, if_neg c_4]
      refine W.iret (v := (-2)) hx hb hr (fun t ht hW => ⟨⟨(-2), (), rfl, er, ?_⟩, hS.F ht⟩) hS.2.2 dX4_plan_33
      rw [es0]; exact ⟨by rw [ht]; exact hP, va_K.moved hW.alike hK, hD⟩
