theorem fa_z (g : Nat → Int32) (i : Nat) : upd (fa_fill (fun _ => 0) g i) i 0 = fa_fill (fun _ => 0) g (i + 1) := fa_fill_succ (fun _ => 0) g i

set_option maxHeartbeats 4000000 in
set_option maxRecDepth 100000 in
theorem f_zero {p : Program} {l : Launch} {e : Env} {R : Room} {s : State} {m : MethodId} {args : Array Value} {below : List Frame} {meth : Method} {c : Code} {cells slots : Nat} {Q : State → Prop} {H0 : Heap} {A : Nat → Prop} {dC : Nat → ClassId} {dI : Nat → Nat → Nat} {cI cJ : ClassId} (hx : p.tables.exec = Jvm.exec) (hb : c.code = cX1_reckonBackwards) (hml : c.maxLocals = 3) (hown : s.vm.findClass RX1 = some m.cls) (hts : ∀ w ∈ wsX1_reckonBackwards, w.before args s = true) (hA : ∀ q : Nat, H0.size ≤ q → A q) (hK : va_K (dC, dI) vwCl [(cI, .int), (cJ, .long)] s) {p0 p1 p2 p3 p4 p5 : Nat} {pl : PL} {r : Nat} (hr : r ≤ 120) (kk : ∀ (H : Heap) (locs : List Loc) (ls : Array Slot), va_P (dC, dI) vwCl [(p0, .inr (1, [.ref p1, .ref p2, .ref p3, .ref p4, .ref p5, .int pl.2.2.2.2.2.1, .int pl.2.2.2.2.2.2])), (p1, .inl (cI, 13, .inl pl.1)), (p2, .inl (cI, 12, .inl pl.2.1)), (p3, .inl (cI, 121, .inl (fa_fill (fun _ => 0) pl.2.2.1 (r + 1)))), (p4, .inl (cI, 1452, .inl pl.2.2.2.1)), (p5, .inl (cI, 12, .inl pl.2.2.2.2.1))] H → va_D A [(p0, .inr (1, [.ref p1, .ref p2, .ref p3, .ref p4, .ref p5, .int pl.2.2.2.2.2.1, .int pl.2.2.2.2.2.2])), (p1, .inl (cI, 13, .inl pl.1)), (p2, .inl (cI, 12, .inl pl.2.1)), (p3, .inl (cI, 121, .inl (fa_fill (fun _ => 0) pl.2.2.1 (r + 1)))), (p4, .inl (cI, 1452, .inl pl.2.2.2.1)), (p5, .inl (cI, 12, .inl pl.2.2.2.2.1))] → va_S A H0 H locs → lv_has ls 3 [(0, .ref p0), (1, .int (nI r)), (2, .int (nI (r + 1)))] → W p l e R s m args below meth c H locs cells slots Q (F0 m 20 ls [])) : ∀ (n i : Nat) (H : Heap) (locs : List Loc) (ls : Array Slot), i + n = r + 1 → va_P (dC, dI) vwCl [(p0, .inr (1, [.ref p1, .ref p2, .ref p3, .ref p4, .ref p5, .int pl.2.2.2.2.2.1, .int pl.2.2.2.2.2.2])), (p1, .inl (cI, 13, .inl pl.1)), (p2, .inl (cI, 12, .inl pl.2.1)), (p3, .inl (cI, 121, .inl (fa_fill (fun _ => 0) pl.2.2.1 i))), (p4, .inl (cI, 1452, .inl pl.2.2.2.1)), (p5, .inl (cI, 12, .inl pl.2.2.2.2.1))] H → va_D A [(p0, .inr (1, [.ref p1, .ref p2, .ref p3, .ref p4, .ref p5, .int pl.2.2.2.2.2.1, .int pl.2.2.2.2.2.2])), (p1, .inl (cI, 13, .inl pl.1)), (p2, .inl (cI, 12, .inl pl.2.1)), (p3, .inl (cI, 121, .inl (fa_fill (fun _ => 0) pl.2.2.1 i))), (p4, .inl (cI, 1452, .inl pl.2.2.2.1)), (p5, .inl (cI, 12, .inl pl.2.2.2.2.1))] → va_S A H0 H locs → lv_has ls 3 [(0, .ref p0), (1, .int (nI r)), (2, .int (nI i))] → W p l e R s m args below meth c H locs cells slots Q (F0 m 2 ls []) := by
  have hiX1 : ∀ w ∈ u_ws RX1 TX1 7, w ∈ wsX1_reckonBackwards := by decide +kernel
  intro n
  induction n with
  | zero =>
    intro i H locs ls hi hP hD hS hl
    obtain rfl : i = r + 1 := by omega
    refine lv_iload_n hx hb dX1_reckonBackwards_2 rfl (lv_at hl 2 rfl) ?_
    refine lv_iload_n hx hb dX1_reckonBackwards_3 rfl (lv_at hl 1 rfl) ?_
    refine lv_icmp_gt (tgt := 20) hx hb dX1_reckonBackwards_4 (by decide) (fun c_1 => ?_) (fun c_1 => absurd (nI_lt (a := r) (b := r + 1) (by omega) (by omega)) c_1)
    exact kk _ _ _ hP hD hS (lv_sub hl [0, 1, 2] rfl)
  | succ n ih =>
    intro i H locs ls hi hP hD hS hl
    refine lv_iload_n hx hb dX1_reckonBackwards_2 rfl (lv_at hl 2 rfl) ?_
    refine lv_iload_n hx hb dX1_reckonBackwards_3 rfl (lv_at hl 1 rfl) ?_
    refine lv_icmp_gt (tgt := 20) hx hb dX1_reckonBackwards_4 (by decide) (fun c_1 => absurd c_1 (nI_nlt (a := r) (b := i) (by omega) (by omega))) (fun c_1 => ?_)
    refine lv_aload_n hx hb dX1_reckonBackwards_7 rfl (lv_at hl 0 rfl) ?_
    refine va_get (D := (dC, dI)) (ci := 1) (v := .ref p3) (C := RX1) (T := TX1) (N := 7) hx hb hts hiX1 hown hK hP 0 rfl rfl 2 (by decide) (hts (.fieldLink RX1 18 "TripReckoner$Planner" "toGo" "[I") (by decide +kernel)) (fun _ h9 => h9) rfl dX1_reckonBackwards_8 ?_
    refine lv_iload_n hx hb dX1_reckonBackwards_11 rfl (lv_at hl 2 rfl) ?_
    refine lv_iconst (v := 0) hx hb dX1_reckonBackwards_12 (by decide) ?_
    refine va_iast hx hb hK hP hD hS 3 0 rfl rfl (vp_in_nI (by omega) (by decide)) dX1_reckonBackwards_13 (fun H locs hP hD hS => ?_)
    rw [(nI_clamp (n := i) (by omega))] at hP hD
    have hP : va_P (dC, dI) vwCl [(p0, .inr (1, [.ref p1, .ref p2, .ref p3, .ref p4, .ref p5, .int pl.2.2.2.2.2.1, .int pl.2.2.2.2.2.2])), (p1, .inl (cI, 13, .inl pl.1)), (p2, .inl (cI, 12, .inl pl.2.1)), (p3, .inl (cI, 121, .inl (upd (fa_fill (fun _ => 0) pl.2.2.1 i) i 0))), (p4, .inl (cI, 1452, .inl pl.2.2.2.1)), (p5, .inl (cI, 12, .inl pl.2.2.2.2.1))] H := hP
    have hD : va_D A [(p0, .inr (1, [.ref p1, .ref p2, .ref p3, .ref p4, .ref p5, .int pl.2.2.2.2.2.1, .int pl.2.2.2.2.2.2])), (p1, .inl (cI, 13, .inl pl.1)), (p2, .inl (cI, 12, .inl pl.2.1)), (p3, .inl (cI, 121, .inl (upd (fa_fill (fun _ => 0) pl.2.2.1 i) i 0))), (p4, .inl (cI, 1452, .inl pl.2.2.2.1)), (p5, .inl (cI, 12, .inl pl.2.2.2.2.1))] := hD
    refine lv_iinc (v := nI (i + 1)) (lv' := [(2, .int (nI (i + 1))), (0, .ref p0), (1, .int (nI r))]) hx hb dX1_reckonBackwards_14 hl (k := 2) rfl (nI_1 i) (by decide) rfl (fun ls hl => ?_)
    refine lv_goto (tgt := 2) hx hb dX1_reckonBackwards_17 (by decide) ?_
    have hP : va_P (dC, dI) vwCl [(p0, .inr (1, [.ref p1, .ref p2, .ref p3, .ref p4, .ref p5, .int pl.2.2.2.2.2.1, .int pl.2.2.2.2.2.2])), (p1, .inl (cI, 13, .inl pl.1)), (p2, .inl (cI, 12, .inl pl.2.1)), (p3, .inl (cI, 121, .inl (fa_fill (fun _ => 0) pl.2.2.1 (i + 1)))), (p4, .inl (cI, 1452, .inl pl.2.2.2.1)), (p5, .inl (cI, 12, .inl pl.2.2.2.2.1))] H := by
      rw [← fa_z]
      exact hP
    have hD : va_D A [(p0, .inr (1, [.ref p1, .ref p2, .ref p3, .ref p4, .ref p5, .int pl.2.2.2.2.2.1, .int pl.2.2.2.2.2.2])), (p1, .inl (cI, 13, .inl pl.1)), (p2, .inl (cI, 12, .inl pl.2.1)), (p3, .inl (cI, 121, .inl (fa_fill (fun _ => 0) pl.2.2.1 (i + 1)))), (p4, .inl (cI, 1452, .inl pl.2.2.2.1)), (p5, .inl (cI, 12, .inl pl.2.2.2.2.1))] := by
      rw [← fa_z]
      exact hD
    exact ih (i + 1)  _ _ _ (by omega) hP hD hS (lv_sub hl [1, 2, 0] rfl)
