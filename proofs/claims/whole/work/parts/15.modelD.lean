set_option maxHeartbeats 4000000 in
set_option maxRecDepth 100000 in
theorem f_dead {p : Program} {l : Launch} {e : Env} {R : Room} {s : State} {m : MethodId} {args : Array Value} {below : List Frame} {meth : Method} {c : Code} {cells slots : Nat} {Q : State → Prop} {H0 : Heap} {A : Nat → Prop} {dC : Nat → ClassId} {dI : Nat → Nat → Nat} {cI cJ : ClassId} (hx : p.tables.exec = Jvm.exec) (hb : c.code = cX4_dead) (hml : c.maxLocals = 3) (hown : s.vm.findClass RX4 = some m.cls) (hts : ∀ w ∈ wsX4_dead, w.before args s = true) (hA : ∀ q : Nat, H0.size ≤ q → A q) (hK : va_K (dC, dI) vwCl [(cI, .int), (cJ, .long)] s) {m0 m1 m2 m3 m4 m5 : Nat} {v : MS} {se : Int32} (kk : ∀ (H : Heap) (locs : List Loc) (ls : Array Slot), va_P (dC, dI) vwCl [(m0, .inr (4, [.int v.1, .ref m1, .int v.2.2.1, .ref m2, .ref m3, .int v.2.2.2.2.2.1, .int v.2.2.2.2.2.2.1, .int v.2.2.2.2.2.2.2.1, .int v.2.2.2.2.2.2.2.2.1, .int v.2.2.2.2.2.2.2.2.2.1, .int v.2.2.2.2.2.2.2.2.2.2.1, .int v.2.2.2.2.2.2.2.2.2.2.2.1, .long v.2.2.2.2.2.2.2.2.2.2.2.2.1, .int v.2.2.2.2.2.2.2.2.2.2.2.2.2.1, .ref m4, .ref m5, .int v.2.2.2.2.2.2.2.2.2.2.2.2.2.2.2.2])), (m1, .inl (cI, 60, .inl v.2.1)), (m2, .inl (cJ, 92, .inr (.inl (cfL v.2.2.2.2.1 v.2.2.2.1 92)))), (m3, .inl (cJ, 92, .inr (.inl v.2.2.2.2.1))), (m4, .inl (cI, 1573, .inl v.2.2.2.2.2.2.2.2.2.2.2.2.2.2.1)), (m5, .inl (cI, 12, .inl v.2.2.2.2.2.2.2.2.2.2.2.2.2.2.2.1))] H → va_D A [(m0, .inr (4, [.int v.1, .ref m1, .int v.2.2.1, .ref m2, .ref m3, .int v.2.2.2.2.2.1, .int v.2.2.2.2.2.2.1, .int v.2.2.2.2.2.2.2.1, .int v.2.2.2.2.2.2.2.2.1, .int v.2.2.2.2.2.2.2.2.2.1, .int v.2.2.2.2.2.2.2.2.2.2.1, .int v.2.2.2.2.2.2.2.2.2.2.2.1, .long v.2.2.2.2.2.2.2.2.2.2.2.2.1, .int v.2.2.2.2.2.2.2.2.2.2.2.2.2.1, .ref m4, .ref m5, .int v.2.2.2.2.2.2.2.2.2.2.2.2.2.2.2.2])), (m1, .inl (cI, 60, .inl v.2.1)), (m2, .inl (cJ, 92, .inr (.inl (cfL v.2.2.2.2.1 v.2.2.2.1 92)))), (m3, .inl (cJ, 92, .inr (.inl v.2.2.2.2.1))), (m4, .inl (cI, 1573, .inl v.2.2.2.2.2.2.2.2.2.2.2.2.2.2.1)), (m5, .inl (cI, 12, .inl v.2.2.2.2.2.2.2.2.2.2.2.2.2.2.2.1))] → va_S A H0 H locs → lv_has ls 3 [(0, .ref m0), (1, .int se), (2, .int (nI 92))] → W p l e R s m args below meth c H locs cells slots Q (F0 m 45 ls [])) : ∀ (n i : Nat) (H : Heap) (locs : List Loc) (ls : Array Slot), i + n = 92 → va_P (dC, dI) vwCl [(m0, .inr (4, [.int v.1, .ref m1, .int v.2.2.1, .ref m2, .ref m3, .int v.2.2.2.2.2.1, .int v.2.2.2.2.2.2.1, .int v.2.2.2.2.2.2.2.1, .int v.2.2.2.2.2.2.2.2.1, .int v.2.2.2.2.2.2.2.2.2.1, .int v.2.2.2.2.2.2.2.2.2.2.1, .int v.2.2.2.2.2.2.2.2.2.2.2.1, .long v.2.2.2.2.2.2.2.2.2.2.2.2.1, .int v.2.2.2.2.2.2.2.2.2.2.2.2.2.1, .ref m4, .ref m5, .int v.2.2.2.2.2.2.2.2.2.2.2.2.2.2.2.2])), (m1, .inl (cI, 60, .inl v.2.1)), (m2, .inl (cJ, 92, .inr (.inl (cfL v.2.2.2.2.1 v.2.2.2.1 i)))), (m3, .inl (cJ, 92, .inr (.inl v.2.2.2.2.1))), (m4, .inl (cI, 1573, .inl v.2.2.2.2.2.2.2.2.2.2.2.2.2.2.1)), (m5, .inl (cI, 12, .inl v.2.2.2.2.2.2.2.2.2.2.2.2.2.2.2.1))] H → va_D A [(m0, .inr (4, [.int v.1, .ref m1, .int v.2.2.1, .ref m2, .ref m3, .int v.2.2.2.2.2.1, .int v.2.2.2.2.2.2.1, .int v.2.2.2.2.2.2.2.1, .int v.2.2.2.2.2.2.2.2.1, .int v.2.2.2.2.2.2.2.2.2.1, .int v.2.2.2.2.2.2.2.2.2.2.1, .int v.2.2.2.2.2.2.2.2.2.2.2.1, .long v.2.2.2.2.2.2.2.2.2.2.2.2.1, .int v.2.2.2.2.2.2.2.2.2.2.2.2.2.1, .ref m4, .ref m5, .int v.2.2.2.2.2.2.2.2.2.2.2.2.2.2.2.2])), (m1, .inl (cI, 60, .inl v.2.1)), (m2, .inl (cJ, 92, .inr (.inl (cfL v.2.2.2.2.1 v.2.2.2.1 i)))), (m3, .inl (cJ, 92, .inr (.inl v.2.2.2.2.1))), (m4, .inl (cI, 1573, .inl v.2.2.2.2.2.2.2.2.2.2.2.2.2.2.1)), (m5, .inl (cI, 12, .inl v.2.2.2.2.2.2.2.2.2.2.2.2.2.2.2.1))] → va_S A H0 H locs → lv_has ls 3 [(0, .ref m0), (1, .int se), (2, .int (nI i))] → W p l e R s m args below meth c H locs cells slots Q (F0 m 21 ls []) := by
  have hiX4 : ∀ w ∈ u_ws RX4 TX4 17, w ∈ wsX4_dead := by decide +kernel
  intro n
  induction n with
  | zero =>
    intro i H locs ls hi hP hD hS hl
    obtain rfl : i = 92 := by omega
    refine lv_iload_n hx hb dX4_dead_21 rfl (lv_at hl 2 rfl) ?_
    refine lv_bipush (v := 92) hx hb dX4_dead_22 (by decide) ?_
    refine lv_icmp_ge (tgt := 45) hx hb dX4_dead_24 (by decide) (fun c_1 => ?_) (fun c_1 => absurd (by decide +kernel) c_1)
    exact kk _ _ _ hP hD hS (lv_sub hl [0, 1, 2] rfl)
  | succ n ih =>
    intro i H locs ls hi hP hD hS hl
    refine lv_iload_n hx hb dX4_dead_21 rfl (lv_at hl 2 rfl) ?_
    refine lv_bipush (v := 92) hx hb dX4_dead_22 (by decide) ?_
    refine lv_icmp_ge (tgt := 45) hx hb dX4_dead_24 (by decide) (fun c_1 => absurd c_1 (nI_ge (a := i) (b := 92) (by omega) (by decide))) (fun c_1 => ?_)
    refine lv_aload_n hx hb dX4_dead_27 rfl (lv_at hl 0 rfl) ?_
    refine va_get (D := (dC, dI)) (ci := 4) (v := .ref m2) (C := RX4) (T := TX4) (N := 17) hx hb hts hiX4 hown hK hP 0 rfl rfl 3 (by decide) (hts (.fieldLink RX4 13 "TripReckonerModel" "now" "[J") (by decide +kernel)) (fun _ h9 => h9) rfl dX4_dead_28 ?_
    refine lv_iload_n hx hb dX4_dead_31 rfl (lv_at hl 2 rfl) ?_
    refine lv_aload_n hx hb dX4_dead_32 rfl (lv_at hl 0 rfl) ?_
    refine va_get (D := (dC, dI)) (ci := 4) (v := .ref m3) (C := RX4) (T := TX4) (N := 17) hx hb hts hiX4 hown hK hP 0 rfl rfl 4 (by decide) (hts (.fieldLink RX4 17 "TripReckonerModel" "kept" "[J") (by decide +kernel)) (fun _ h9 => h9) rfl dX4_dead_33 ?_
    refine lv_iload_n hx hb dX4_dead_36 rfl (lv_at hl 2 rfl) ?_
    refine va_lald hx hb hK hP 3 1 rfl rfl (vp_in_nI (by omega) (by decide)) dX4_dead_37 ?_
    refine lv_topl (fun z_2 ez_2 => ?_)
    rw [(nI_clamp (n := i) (by omega))] at ez_2
    subst ez_2
    refine va_last hx hb hK hP hD hS 2 1 rfl rfl (vp_in_nI (by omega) (by decide)) dX4_dead_38 (fun H locs hP hD hS => ?_)
    rw [(nI_clamp (n := i) (by omega))] at hP hD
    have hP : va_P (dC, dI) vwCl [(m0, .inr (4, [.int v.1, .ref m1, .int v.2.2.1, .ref m2, .ref m3, .int v.2.2.2.2.2.1, .int v.2.2.2.2.2.2.1, .int v.2.2.2.2.2.2.2.1, .int v.2.2.2.2.2.2.2.2.1, .int v.2.2.2.2.2.2.2.2.2.1, .int v.2.2.2.2.2.2.2.2.2.2.1, .int v.2.2.2.2.2.2.2.2.2.2.2.1, .long v.2.2.2.2.2.2.2.2.2.2.2.2.1, .int v.2.2.2.2.2.2.2.2.2.2.2.2.2.1, .ref m4, .ref m5, .int v.2.2.2.2.2.2.2.2.2.2.2.2.2.2.2.2])), (m1, .inl (cI, 60, .inl v.2.1)), (m2, .inl (cJ, 92, .inr (.inl (vp_updL (cfL v.2.2.2.2.1 v.2.2.2.1 i) i (v.2.2.2.2.1 i))))), (m3, .inl (cJ, 92, .inr (.inl v.2.2.2.2.1))), (m4, .inl (cI, 1573, .inl v.2.2.2.2.2.2.2.2.2.2.2.2.2.2.1)), (m5, .inl (cI, 12, .inl v.2.2.2.2.2.2.2.2.2.2.2.2.2.2.2.1))] H := hP
    have hD : va_D A [(m0, .inr (4, [.int v.1, .ref m1, .int v.2.2.1, .ref m2, .ref m3, .int v.2.2.2.2.2.1, .int v.2.2.2.2.2.2.1, .int v.2.2.2.2.2.2.2.1, .int v.2.2.2.2.2.2.2.2.1, .int v.2.2.2.2.2.2.2.2.2.1, .int v.2.2.2.2.2.2.2.2.2.2.1, .int v.2.2.2.2.2.2.2.2.2.2.2.1, .long v.2.2.2.2.2.2.2.2.2.2.2.2.1, .int v.2.2.2.2.2.2.2.2.2.2.2.2.2.1, .ref m4, .ref m5, .int v.2.2.2.2.2.2.2.2.2.2.2.2.2.2.2.2])), (m1, .inl (cI, 60, .inl v.2.1)), (m2, .inl (cJ, 92, .inr (.inl (vp_updL (cfL v.2.2.2.2.1 v.2.2.2.1 i) i (v.2.2.2.2.1 i))))), (m3, .inl (cJ, 92, .inr (.inl v.2.2.2.2.1))), (m4, .inl (cI, 1573, .inl v.2.2.2.2.2.2.2.2.2.2.2.2.2.2.1)), (m5, .inl (cI, 12, .inl v.2.2.2.2.2.2.2.2.2.2.2.2.2.2.2.1))] := hD
    refine lv_iinc (v := nI (i + 1)) (lv' := [(2, .int (nI (i + 1))), (0, .ref m0), (1, .int se)]) hx hb dX4_dead_39 hl (k := 2) rfl (nI_1 i) (by decide) rfl (fun ls hl => ?_)
    refine lv_goto (tgt := 21) hx hb dX4_dead_42 (by decide) ?_
    have hP : va_P (dC, dI) vwCl [(m0, .inr (4, [.int v.1, .ref m1, .int v.2.2.1, .ref m2, .ref m3, .int v.2.2.2.2.2.1, .int v.2.2.2.2.2.2.1, .int v.2.2.2.2.2.2.2.1, .int v.2.2.2.2.2.2.2.2.1, .int v.2.2.2.2.2.2.2.2.2.1, .int v.2.2.2.2.2.2.2.2.2.2.1, .int v.2.2.2.2.2.2.2.2.2.2.2.1, .long v.2.2.2.2.2.2.2.2.2.2.2.2.1, .int v.2.2.2.2.2.2.2.2.2.2.2.2.2.1, .ref m4, .ref m5, .int v.2.2.2.2.2.2.2.2.2.2.2.2.2.2.2.2])), (m1, .inl (cI, 60, .inl v.2.1)), (m2, .inl (cJ, 92, .inr (.inl (cfL v.2.2.2.2.1 v.2.2.2.1 (i + 1))))), (m3, .inl (cJ, 92, .inr (.inl v.2.2.2.2.1))), (m4, .inl (cI, 1573, .inl v.2.2.2.2.2.2.2.2.2.2.2.2.2.2.1)), (m5, .inl (cI, 12, .inl v.2.2.2.2.2.2.2.2.2.2.2.2.2.2.2.1))] H := by
      rw [← cfL_step]
      exact hP
    have hD : va_D A [(m0, .inr (4, [.int v.1, .ref m1, .int v.2.2.1, .ref m2, .ref m3, .int v.2.2.2.2.2.1, .int v.2.2.2.2.2.2.1, .int v.2.2.2.2.2.2.2.1, .int v.2.2.2.2.2.2.2.2.1, .int v.2.2.2.2.2.2.2.2.2.1, .int v.2.2.2.2.2.2.2.2.2.2.1, .int v.2.2.2.2.2.2.2.2.2.2.2.1, .long v.2.2.2.2.2.2.2.2.2.2.2.2.1, .int v.2.2.2.2.2.2.2.2.2.2.2.2.2.1, .ref m4, .ref m5, .int v.2.2.2.2.2.2.2.2.2.2.2.2.2.2.2.2])), (m1, .inl (cI, 60, .inl v.2.1)), (m2, .inl (cJ, 92, .inr (.inl (cfL v.2.2.2.2.1 v.2.2.2.1 (i + 1))))), (m3, .inl (cJ, 92, .inr (.inl v.2.2.2.2.1))), (m4, .inl (cI, 1573, .inl v.2.2.2.2.2.2.2.2.2.2.2.2.2.2.1)), (m5, .inl (cI, 12, .inl v.2.2.2.2.2.2.2.2.2.2.2.2.2.2.2.1))] := by
      rw [← cfL_step]
      exact hD
    exact ih (i + 1)  _ _ _ (by omega) hP hD hS (lv_sub hl [1, 2, 0] rfl)

def sX4_dead_g_6 (se : Int32) (v : MS) (g_2 : MS) (g_6 : MS) : MS :=
  g_6
def sX4_dead_g_2 (se : Int32) (v : MS) (g_2 : MS) : MS :=
  if (rX4_mayGap se g_2) = 0 then
    g_2
  else
    sX4_dead_g_6 se v g_2 (sX4_gaps se (g_2.1, g_2.2.1, g_2.2.2.1, cfL g_2.2.2.2.2.1 g_2.2.2.2.1 92, g_2.2.2.2.2.1, g_2.2.2.2.2.2.1, g_2.2.2.2.2.2.2.1, g_2.2.2.2.2.2.2.2.1, g_2.2.2.2.2.2.2.2.2.1, g_2.2.2.2.2.2.2.2.2.2.1, g_2.2.2.2.2.2.2.2.2.2.2.1, g_2.2.2.2.2.2.2.2.2.2.2.2.1, g_2.2.2.2.2.2.2.2.2.2.2.2.2.1, g_2.2.2.2.2.2.2.2.2.2.2.2.2.2.1, g_2.2.2.2.2.2.2.2.2.2.2.2.2.2.2.1, g_2.2.2.2.2.2.2.2.2.2.2.2.2.2.2.2.1, g_2.2.2.2.2.2.2.2.2.2.2.2.2.2.2.2.2))
def sX4_dead (se : Int32) (v : MS) : MS :=
  sX4_dead_g_2 se v (sX4_begin (0, v.2.1, v.2.2.1, v.2.2.2.1, v.2.2.2.2.1, v.2.2.2.2.2.1, v.2.2.2.2.2.2.1, v.2.2.2.2.2.2.2.1, v.2.2.2.2.2.2.2.2.1, v.2.2.2.2.2.2.2.2.2.1, v.2.2.2.2.2.2.2.2.2.2.1, v.2.2.2.2.2.2.2.2.2.2.2.1, v.2.2.2.2.2.2.2.2.2.2.2.2.1, v.2.2.2.2.2.2.2.2.2.2.2.2.2.1, v.2.2.2.2.2.2.2.2.2.2.2.2.2.2.1, v.2.2.2.2.2.2.2.2.2.2.2.2.2.2.2.1, v.2.2.2.2.2.2.2.2.2.2.2.2.2.2.2.2))
def rX4_dead_g_6 (se : Int32) (v : MS) (g_2 : MS) (g_6 : MS) : Int32 :=
  1
def rX4_dead_g_2 (se : Int32) (v : MS) (g_2 : MS) : Int32 :=
  if (rX4_mayGap se g_2) = 0 then
    0
  else
    rX4_dead_g_6 se v g_2 (sX4_gaps se (g_2.1, g_2.2.1, g_2.2.2.1, cfL g_2.2.2.2.2.1 g_2.2.2.2.1 92, g_2.2.2.2.2.1, g_2.2.2.2.2.2.1, g_2.2.2.2.2.2.2.1, g_2.2.2.2.2.2.2.2.1, g_2.2.2.2.2.2.2.2.2.1, g_2.2.2.2.2.2.2.2.2.2.1, g_2.2.2.2.2.2.2.2.2.2.2.1, g_2.2.2.2.2.2.2.2.2.2.2.2.1, g_2.2.2.2.2.2.2.2.2.2.2.2.2.1, g_2.2.2.2.2.2.2.2.2.2.2.2.2.2.1, g_2.2.2.2.2.2.2.2.2.2.2.2.2.2.2.1, g_2.2.2.2.2.2.2.2.2.2.2.2.2.2.2.2.1, g_2.2.2.2.2.2.2.2.2.2.2.2.2.2.2.2.2))
def rX4_dead (se : Int32) (v : MS) : Int32 :=
  rX4_dead_g_2 se v (sX4_begin (0, v.2.1, v.2.2.1, v.2.2.2.1, v.2.2.2.2.1, v.2.2.2.2.2.1, v.2.2.2.2.2.2.1, v.2.2.2.2.2.2.2.1, v.2.2.2.2.2.2.2.2.1, v.2.2.2.2.2.2.2.2.2.1, v.2.2.2.2.2.2.2.2.2.2.1, v.2.2.2.2.2.2.2.2.2.2.2.1, v.2.2.2.2.2.2.2.2.2.2.2.2.1, v.2.2.2.2.2.2.2.2.2.2.2.2.2.1, v.2.2.2.2.2.2.2.2.2.2.2.2.2.2.1, v.2.2.2.2.2.2.2.2.2.2.2.2.2.2.2.1, v.2.2.2.2.2.2.2.2.2.2.2.2.2.2.2.2))
set_option maxHeartbeats 4000000 in
set_option maxRecDepth 100000 in
theorem kX4_dead (l : Launch) (dC : Nat → ClassId) (dI : Nat → Nat → Nat) (cI cJ : ClassId) (m0 m1 m2 m3 m4 m5 : Nat) (sz : Nat) (se : Int32) (v : MS) : Met l yX4_dead wsX4_dead ({ frames := 3, cells := 0, slots := 0, locals := 63 }) (va_Pc [.ref m0, .int se] (fun U => U.heap.size = sz ∧ va_P (dC, dI) vwCl [cM0 m0 m1 m2 m3 m4 m5 v, cM1 cI m1 v, cM2 cJ m2 v, cM3 cJ m3 v, cM4 cI m4 v, cM5 cI m5 v] U.heap ∧ va_K (dC, dI) vwCl [(cI, .int), (cJ, .long)] U ∧ va_D (fun _ => True) [cM0 m0 m1 m2 m3 m4 m5 v, cM1 cI m1 v, cM2 cJ m2 v, cM3 cJ m3 v, cM4 cI m4 v, cM5 cI m5 v])) (va_Qi (fun (r : Int32) (_ : Unit) => r = rX4_dead se v) (fun _ t => va_P (dC, dI) vwCl [cM0 m0 m1 m2 m3 m4 m5 (sX4_dead se v), cM1 cI m1 (sX4_dead se v), cM2 cJ m2 (sX4_dead se v), cM3 cJ m3 (sX4_dead se v), cM4 cI m4 (sX4_dead se v), cM5 cI m5 (sX4_dead se v)] t.heap ∧ va_K (dC, dI) vwCl [(cI, .int), (cJ, .long)] t ∧ va_D (va_A [cM0 m0 m1 m2 m3 m4 m5 v, cM1 cI m1 v, cM2 cJ m2 v, cM3 cJ m3 v, cM4 cI m4 v, cM5 cI m5 v] sz) [cM0 m0 m1 m2 m3 m4 m5 (sX4_dead se v), cM1 cI m1 (sX4_dead se v), cM2 cJ m2 (sX4_dead se v), cM3 cJ m3 (sX4_dead se v), cM4 cI m4 (sX4_dead se v), cM5 cI m5 (sX4_dead se v)]) (va_A [cM0 m0 m1 m2 m3 m4 m5 v, cM1 cI m1 v, cM2 cJ m2 v, cM3 cJ m3 v, cM4 cI m4 v, cM5 cI m5 v] sz)) 0 0 (va_A [cM0 m0 m1 m2 m3 m4 m5 v, cM1 cI m1 v, cM2 cJ m2 v, cM3 cJ m3 v, cM4 cI m4 v, cM5 cI m5 v] sz) := by
  refine Met.ofW (cc := cX4_dead) (maxL := 3) (ret := (some .boolean)) (by decide) rfl ?_
  intro p e s m args below meth c s₁ B hml hv
  obtain ⟨rfl, hsz, hP, hK, hD0⟩ := hv
  have hx := B.exec
  have hb := B.bytes
  have hr := B.returns
  have hts := atoms_spec (ws := wsX4_dead) B.pre
  have hown : s.vm.findClass RX4 = some m.cls := findClass_of_methodNamed B.named
  have hlocks := B.notSynchronized
  have hiX4 : ∀ w ∈ u_ws RX4 TX4 17, w ∈ wsX4_dead := by decide +kernel
  subst hsz
  have hD := hD0.self (sz := s.heap.size)
  generalize hAe : va_A [cM0 m0 m1 m2 m3 m4 m5 v, cM1 cI m1 v, cM2 cJ m2 v, cM3 cJ m3 v, cM4 cI m4 v, cM5 cI m5 v] s.heap.size = A at hD ⊢
  have hA : ∀ q : Nat, s.heap.size ≤ q → A q := fun q h => by rw [← hAe]; exact Or.inr h
  have hS : va_S A s.heap s.heap [] := va_S.rf
  have hl := lv_entry ([.ref m0, .int se]) (n := 3) (Nat.le_of_ble_eq_true rfl)
  rw [lg_entry_eq]
  generalize (lg_sl ([.ref m0, .int se]) ++ List.replicate (3 - (lg_sl ([.ref m0, .int se])).length) Slot.unset).toArray = ls at hl ⊢
  have hl : lv_has ls 3 [(0, .ref m0), (1, .int se)] := hl
  have hP : va_P (dC, dI) vwCl [cM0 m0 m1 m2 m3 m4 m5 v, cM1 cI m1 v, cM2 cJ m2 v, cM3 cJ m3 v, cM4 cI m4 v, cM5 cI m5 v] s.heap := hP
  refine lv_aload_n hx hb dX4_dead_0 rfl (lv_at hl 0 rfl) ?_
  refine lv_iconst (v := 0) hx hb dX4_dead_1 (by decide) ?_
  refine va_put (D := (dC, dI)) (ci := 4) (v := .int 0) (ty := .int) (C := RX4) (T := TX4) (N := 17) hx hb hts hiX4 tyX4 tyX4_ok nmX4 hown hK hP hD hS 0 rfl rfl 0 (by decide) (hts (.fieldLink RX4 49 "TripReckonerModel" "thrown" "I") (by decide +kernel)) (fun _ h9 => h9) rfl (by decide +kernel) rfl rfl (Nat.le_of_ble_eq_true rfl) dX4_dead_2 (fun H locs hP hD hS => ?_)
  have hP : va_P (dC, dI) vwCl [(m0, .inr (4, [.int 0, .ref m1, .int v.2.2.1, .ref m2, .ref m3, .int v.2.2.2.2.2.1, .int v.2.2.2.2.2.2.1, .int v.2.2.2.2.2.2.2.1, .int v.2.2.2.2.2.2.2.2.1, .int v.2.2.2.2.2.2.2.2.2.1, .int v.2.2.2.2.2.2.2.2.2.2.1, .int v.2.2.2.2.2.2.2.2.2.2.2.1, .long v.2.2.2.2.2.2.2.2.2.2.2.2.1, .int v.2.2.2.2.2.2.2.2.2.2.2.2.2.1, .ref m4, .ref m5, .int v.2.2.2.2.2.2.2.2.2.2.2.2.2.2.2.2])), (m1, .inl (cI, 60, .inl v.2.1)), (m2, .inl (cJ, 92, .inr (.inl v.2.2.2.1))), (m3, .inl (cJ, 92, .inr (.inl v.2.2.2.2.1))), (m4, .inl (cI, 1573, .inl v.2.2.2.2.2.2.2.2.2.2.2.2.2.2.1)), (m5, .inl (cI, 12, .inl v.2.2.2.2.2.2.2.2.2.2.2.2.2.2.2.1))] H := hP
  have hD : va_D A [(m0, .inr (4, [.int 0, .ref m1, .int v.2.2.1, .ref m2, .ref m3, .int v.2.2.2.2.2.1, .int v.2.2.2.2.2.2.1, .int v.2.2.2.2.2.2.2.1, .int v.2.2.2.2.2.2.2.2.1, .int v.2.2.2.2.2.2.2.2.2.1, .int v.2.2.2.2.2.2.2.2.2.2.1, .int v.2.2.2.2.2.2.2.2.2.2.2.1, .long v.2.2.2.2.2.2.2.2.2.2.2.2.1, .int v.2.2.2.2.2.2.2.2.2.2.2.2.2.1, .ref m4, .ref m5, .int v.2.2.2.2.2.2.2.2.2.2.2.2.2.2.2.2])), (m1, .inl (cI, 60, .inl v.2.1)), (m2, .inl (cJ, 92, .inr (.inl v.2.2.2.1))), (m3, .inl (cJ, 92, .inr (.inl v.2.2.2.2.1))), (m4, .inl (cI, 1573, .inl v.2.2.2.2.2.2.2.2.2.2.2.2.2.2.1)), (m5, .inl (cI, 12, .inl v.2.2.2.2.2.2.2.2.2.2.2.2.2.2.2.1))] := hD
  refine lv_aload_n hx hb dX4_dead_5 rfl (lv_at hl 0 rfl) ?_
  have hPc := hP.sub (ws' := [(m0, .inr (4, [.int 0, .ref m1, .int v.2.2.1, .ref m2, .ref m3, .int v.2.2.2.2.2.1, .int v.2.2.2.2.2.2.1, .int v.2.2.2.2.2.2.2.1, .int v.2.2.2.2.2.2.2.2.1, .int v.2.2.2.2.2.2.2.2.2.1, .int v.2.2.2.2.2.2.2.2.2.2.1, .int v.2.2.2.2.2.2.2.2.2.2.2.1, .long v.2.2.2.2.2.2.2.2.2.2.2.2.1, .int v.2.2.2.2.2.2.2.2.2.2.2.2.2.1, .ref m4, .ref m5, .int v.2.2.2.2.2.2.2.2.2.2.2.2.2.2.2.2])), (m1, .inl (cI, 60, .inl v.2.1)), (m2, .inl (cJ, 92, .inr (.inl v.2.2.2.1))), (m3, .inl (cJ, 92, .inr (.inl v.2.2.2.2.1))), (m4, .inl (cI, 1573, .inl v.2.2.2.2.2.2.2.2.2.2.2.2.2.2.1)), (m5, .inl (cI, 12, .inl v.2.2.2.2.2.2.2.2.2.2.2.2.2.2.2.1))]) [0, 1, 2, 3, 4, 5] rfl
  have hDc := hD.sub (ws' := [(m0, .inr (4, [.int 0, .ref m1, .int v.2.2.1, .ref m2, .ref m3, .int v.2.2.2.2.2.1, .int v.2.2.2.2.2.2.1, .int v.2.2.2.2.2.2.2.1, .int v.2.2.2.2.2.2.2.2.1, .int v.2.2.2.2.2.2.2.2.2.1, .int v.2.2.2.2.2.2.2.2.2.2.1, .int v.2.2.2.2.2.2.2.2.2.2.2.1, .long v.2.2.2.2.2.2.2.2.2.2.2.2.1, .int v.2.2.2.2.2.2.2.2.2.2.2.2.2.1, .ref m4, .ref m5, .int v.2.2.2.2.2.2.2.2.2.2.2.2.2.2.2.2])), (m1, .inl (cI, 60, .inl v.2.1)), (m2, .inl (cJ, 92, .inr (.inl v.2.2.2.1))), (m3, .inl (cJ, 92, .inr (.inl v.2.2.2.2.1))), (m4, .inl (cI, 1573, .inl v.2.2.2.2.2.2.2.2.2.2.2.2.2.2.1)), (m5, .inl (cI, 12, .inl v.2.2.2.2.2.2.2.2.2.2.2.2.2.2.2.1))]) [0, 1, 2, 3, 4, 5] (by decide) rfl
  have hFc := va_free (wc := [(m0, .inr (4, [.int 0, .ref m1, .int v.2.2.1, .ref m2, .ref m3, .int v.2.2.2.2.2.1, .int v.2.2.2.2.2.2.1, .int v.2.2.2.2.2.2.2.1, .int v.2.2.2.2.2.2.2.2.1, .int v.2.2.2.2.2.2.2.2.2.1, .int v.2.2.2.2.2.2.2.2.2.2.1, .int v.2.2.2.2.2.2.2.2.2.2.2.1, .long v.2.2.2.2.2.2.2.2.2.2.2.2.1, .int v.2.2.2.2.2.2.2.2.2.2.2.2.2.1, .ref m4, .ref m5, .int v.2.2.2.2.2.2.2.2.2.2.2.2.2.2.2.2])), (m1, .inl (cI, 60, .inl v.2.1)), (m2, .inl (cJ, 92, .inr (.inl v.2.2.2.1))), (m3, .inl (cJ, 92, .inr (.inl v.2.2.2.2.1))), (m4, .inl (cI, 1573, .inl v.2.2.2.2.2.2.2.2.2.2.2.2.2.2.1)), (m5, .inl (cI, 12, .inl v.2.2.2.2.2.2.2.2.2.2.2.2.2.2.2.1))]) hD hS hA [0, 1, 2, 3, 4, 5] rfl
  refine va_callv (va_runV (As := []) (rest := []) ⟨hx, hb, hml, hown, hts⟩ (kX4_begin l dC dI cI cJ m0 m1 m2 m3 m4 m5 H.size (0, v.2.1, v.2.2.1, v.2.2.2.1, v.2.2.2.2.1, v.2.2.2.2.2.1, v.2.2.2.2.2.2.1, v.2.2.2.2.2.2.2.1, v.2.2.2.2.2.2.2.2.1, v.2.2.2.2.2.2.2.2.2.1, v.2.2.2.2.2.2.2.2.2.2.1, v.2.2.2.2.2.2.2.2.2.2.2.1, v.2.2.2.2.2.2.2.2.2.2.2.2.1, v.2.2.2.2.2.2.2.2.2.2.2.2.2.1, v.2.2.2.2.2.2.2.2.2.2.2.2.2.2.1, v.2.2.2.2.2.2.2.2.2.2.2.2.2.2.2.1, v.2.2.2.2.2.2.2.2.2.2.2.2.2.2.2.2)) (cwV 0 hts gX4_dead_X4_begin rfl rfl rfl (by decide +kernel) ⟨Nat.le_of_ble_eq_true rfl, Nat.le_of_ble_eq_true rfl⟩) ⟨fun a U g mk q => by obtain ⟨q0, q1, qP, qK, qD⟩ := q; exact ⟨q0, q1, qP, va_K.moved (u := U) (U := U.calling g mk a) (Vm.Alike.refl U.vm) qK, qD⟩, va_recv hK hPc (ci := 4) (q0 := 0) rfl rfl, fun U hU hW => ⟨rfl, by rw [hU], by rw [hU]; exact hPc, va_K.moved hW.alike hK, hDc.weaken (fun _ _ _ _ => trivial)⟩⟩ rfl rfl hl.1 rfl (lv_room (Nat.le_of_ble_eq_true rfl)) dX4_dead_6 ⟨Nat.le_of_ble_eq_true rfl, Nat.le_of_ble_eq_true rfl⟩) hS (fun q _ h => hFc q h) hFc (fun _ t H1 locs ht hvm hw hB hz1 hk1 hS => ?_)
  obtain ⟨hP1, hK1, hD1⟩ := hB
  rw [ht] at hP1
  obtain ⟨g_2, eg_2⟩ : ∃ z, z = sX4_begin (0, v.2.1, v.2.2.1, v.2.2.2.1, v.2.2.2.2.1, v.2.2.2.2.2.1, v.2.2.2.2.2.2.1, v.2.2.2.2.2.2.2.1, v.2.2.2.2.2.2.2.2.1, v.2.2.2.2.2.2.2.2.2.1, v.2.2.2.2.2.2.2.2.2.2.1, v.2.2.2.2.2.2.2.2.2.2.2.1, v.2.2.2.2.2.2.2.2.2.2.2.2.1, v.2.2.2.2.2.2.2.2.2.2.2.2.2.1, v.2.2.2.2.2.2.2.2.2.2.2.2.2.2.1, v.2.2.2.2.2.2.2.2.2.2.2.2.2.2.2.1, v.2.2.2.2.2.2.2.2.2.2.2.2.2.2.2.2) := ⟨_, rfl⟩
  rw [← eg_2] at hP1 hD1
  obtain ⟨hP, hD⟩ := va_join (wr := []) (w1 := [cM0 m0 m1 m2 m3 m4 m5 g_2, cM1 cI m1 g_2, cM2 cJ m2 g_2, cM3 cJ m3 g_2, cM4 cI m4 g_2, cM5 cI m5 g_2]) hP hD [0, 1, 2, 3, 4, 5] [] rfl rfl (by decide) (by decide) hk1 hFc hP1 hD1
  generalize H1 = H at hP hS ⊢
  have hP : va_P (dC, dI) vwCl [cM0 m0 m1 m2 m3 m4 m5 g_2, cM1 cI m1 g_2, cM2 cJ m2 g_2, cM3 cJ m3 g_2, cM4 cI m4 g_2, cM5 cI m5 g_2] H := hP
  have hD : va_D A [cM0 m0 m1 m2 m3 m4 m5 g_2, cM1 cI m1 g_2, cM2 cJ m2 g_2, cM3 cJ m3 g_2, cM4 cI m4 g_2, cM5 cI m5 g_2] := hD
  refine lv_aload_n hx hb dX4_dead_9 rfl (lv_at hl 0 rfl) ?_
  refine lv_iload_n hx hb dX4_dead_10 rfl (lv_at hl 1 rfl) ?_
  have hPc := hP.sub (ws' := [cM0 m0 m1 m2 m3 m4 m5 g_2, cM1 cI m1 g_2, cM2 cJ m2 g_2, cM3 cJ m3 g_2, cM4 cI m4 g_2, cM5 cI m5 g_2]) [0, 1, 2, 3, 4, 5] rfl
  have hDc := hD.sub (ws' := [cM0 m0 m1 m2 m3 m4 m5 g_2, cM1 cI m1 g_2, cM2 cJ m2 g_2, cM3 cJ m3 g_2, cM4 cI m4 g_2, cM5 cI m5 g_2]) [0, 1, 2, 3, 4, 5] (by decide) rfl
  have hFc := va_free (wc := [cM0 m0 m1 m2 m3 m4 m5 g_2, cM1 cI m1 g_2, cM2 cJ m2 g_2, cM3 cJ m3 g_2, cM4 cI m4 g_2, cM5 cI m5 g_2]) hD hS hA [0, 1, 2, 3, 4, 5] rfl
  refine va_calli (va_runV (As := [.int se]) (rest := []) ⟨hx, hb, hml, hown, hts⟩ (kX4_mayGap l dC dI cI cJ m0 m1 m2 m3 m4 m5 H.size se g_2) (cwV 1 hts gX4_dead_X4_mayGap rfl rfl rfl (by decide +kernel) ⟨Nat.le_of_ble_eq_true rfl, Nat.le_of_ble_eq_true rfl⟩) ⟨fun a U g mk q => by obtain ⟨q0, q1, qP, qK, qD⟩ := q; exact ⟨q0, q1, qP, va_K.moved (u := U) (U := U.calling g mk a) (Vm.Alike.refl U.vm) qK, qD⟩, va_recv hK hPc (ci := 4) (q0 := 0) rfl rfl, fun U hU hW => ⟨rfl, by rw [hU], by rw [hU]; exact hPc, va_K.moved hW.alike hK, hDc.weaken (fun _ _ _ _ => trivial)⟩⟩ rfl rfl hl.1 rfl (lv_room (Nat.le_of_ble_eq_true rfl)) dX4_dead_11 ⟨Nat.le_of_ble_eq_true rfl, Nat.le_of_ble_eq_true rfl⟩) hS (fun q _ h => hFc q h) hFc (fun r_3 _ t H1 locs ht hvm hw hB hz1 hk1 hS => ?_)
  obtain ⟨hP1, hK1, hD1⟩ := hB
  rw [ht] at hP1
  obtain ⟨hP, hD⟩ := va_join (wr := []) (w1 := [cM0 m0 m1 m2 m3 m4 m5 g_2, cM1 cI m1 g_2, cM2 cJ m2 g_2, cM3 cJ m3 g_2, cM4 cI m4 g_2, cM5 cI m5 g_2]) hP hD [0, 1, 2, 3, 4, 5] [] rfl rfl (by decide) (by decide) hk1 hFc hP1 hD1
  generalize H1 = H at hP hS ⊢
  have hP : va_P (dC, dI) vwCl [cM0 m0 m1 m2 m3 m4 m5 g_2, cM1 cI m1 g_2, cM2 cJ m2 g_2, cM3 cJ m3 g_2, cM4 cI m4 g_2, cM5 cI m5 g_2] H := hP
  have hD : va_D A [cM0 m0 m1 m2 m3 m4 m5 g_2, cM1 cI m1 g_2, cM2 cJ m2 g_2, cM3 cJ m3 g_2, cM4 cI m4 g_2, cM5 cI m5 g_2] := hD
  subst hw
  refine lv_if_ne (tgt := 19) hx hb dX4_dead_14 (by decide) (fun c_4 => ?_) (fun c_4 => ?_)
  · refine lv_iconst (v := 0) hx hb dX4_dead_19 (by decide) ?_
    refine lv_istore_n (lv' := [(2, .int 0), (0, .ref m0), (1, .int se)]) hx hb dX4_dead_20 rfl hl (by decide) rfl (fun ls hl => ?_)
    have hP : va_P (dC, dI) vwCl [(m0, .inr (4, [.int g_2.1, .ref m1, .int g_2.2.2.1, .ref m2, .ref m3, .int g_2.2.2.2.2.2.1, .int g_2.2.2.2.2.2.2.1, .int g_2.2.2.2.2.2.2.2.1, .int g_2.2.2.2.2.2.2.2.2.1, .int g_2.2.2.2.2.2.2.2.2.2.1, .int g_2.2.2.2.2.2.2.2.2.2.2.1, .int g_2.2.2.2.2.2.2.2.2.2.2.2.1, .long g_2.2.2.2.2.2.2.2.2.2.2.2.2.1, .int g_2.2.2.2.2.2.2.2.2.2.2.2.2.2.1, .ref m4, .ref m5, .int g_2.2.2.2.2.2.2.2.2.2.2.2.2.2.2.2.2])), (m1, .inl (cI, 60, .inl g_2.2.1)), (m2, .inl (cJ, 92, .inr (.inl (cfL g_2.2.2.2.2.1 g_2.2.2.2.1 0)))), (m3, .inl (cJ, 92, .inr (.inl g_2.2.2.2.2.1))), (m4, .inl (cI, 1573, .inl g_2.2.2.2.2.2.2.2.2.2.2.2.2.2.2.1)), (m5, .inl (cI, 12, .inl g_2.2.2.2.2.2.2.2.2.2.2.2.2.2.2.2.1))] H := hP
    have hD : va_D A [(m0, .inr (4, [.int g_2.1, .ref m1, .int g_2.2.2.1, .ref m2, .ref m3, .int g_2.2.2.2.2.2.1, .int g_2.2.2.2.2.2.2.1, .int g_2.2.2.2.2.2.2.2.1, .int g_2.2.2.2.2.2.2.2.2.1, .int g_2.2.2.2.2.2.2.2.2.2.1, .int g_2.2.2.2.2.2.2.2.2.2.2.1, .int g_2.2.2.2.2.2.2.2.2.2.2.2.1, .long g_2.2.2.2.2.2.2.2.2.2.2.2.2.1, .int g_2.2.2.2.2.2.2.2.2.2.2.2.2.2.1, .ref m4, .ref m5, .int g_2.2.2.2.2.2.2.2.2.2.2.2.2.2.2.2.2])), (m1, .inl (cI, 60, .inl g_2.2.1)), (m2, .inl (cJ, 92, .inr (.inl (cfL g_2.2.2.2.2.1 g_2.2.2.2.1 0)))), (m3, .inl (cJ, 92, .inr (.inl g_2.2.2.2.2.1))), (m4, .inl (cI, 1573, .inl g_2.2.2.2.2.2.2.2.2.2.2.2.2.2.2.1)), (m5, .inl (cI, 12, .inl g_2.2.2.2.2.2.2.2.2.2.2.2.2.2.2.2.1))] := hD
    refine f_dead hx hb hml hown hts hA hK (fun H locs ls hP hD hS hl => ?_) 92 0 _ _ _ (by omega) hP hD hS (lv_sub hl [1, 2, 0] rfl)
    refine lv_aload_n hx hb dX4_dead_45 rfl (lv_at hl 0 rfl) ?_
    refine lv_iload_n hx hb dX4_dead_46 rfl (lv_at hl 1 rfl) ?_
    have hPc := hP.sub (ws' := [(m0, .inr (4, [.int g_2.1, .ref m1, .int g_2.2.2.1, .ref m2, .ref m3, .int g_2.2.2.2.2.2.1, .int g_2.2.2.2.2.2.2.1, .int g_2.2.2.2.2.2.2.2.1, .int g_2.2.2.2.2.2.2.2.2.1, .int g_2.2.2.2.2.2.2.2.2.2.1, .int g_2.2.2.2.2.2.2.2.2.2.2.1, .int g_2.2.2.2.2.2.2.2.2.2.2.2.1, .long g_2.2.2.2.2.2.2.2.2.2.2.2.2.1, .int g_2.2.2.2.2.2.2.2.2.2.2.2.2.2.1, .ref m4, .ref m5, .int g_2.2.2.2.2.2.2.2.2.2.2.2.2.2.2.2.2])), (m1, .inl (cI, 60, .inl g_2.2.1)), (m2, .inl (cJ, 92, .inr (.inl (cfL g_2.2.2.2.2.1 g_2.2.2.2.1 92)))), (m3, .inl (cJ, 92, .inr (.inl g_2.2.2.2.2.1))), (m4, .inl (cI, 1573, .inl g_2.2.2.2.2.2.2.2.2.2.2.2.2.2.2.1)), (m5, .inl (cI, 12, .inl g_2.2.2.2.2.2.2.2.2.2.2.2.2.2.2.2.1))]) [0, 1, 2, 3, 4, 5] rfl
    have hDc := hD.sub (ws' := [(m0, .inr (4, [.int g_2.1, .ref m1, .int g_2.2.2.1, .ref m2, .ref m3, .int g_2.2.2.2.2.2.1, .int g_2.2.2.2.2.2.2.1, .int g_2.2.2.2.2.2.2.2.1, .int g_2.2.2.2.2.2.2.2.2.1, .int g_2.2.2.2.2.2.2.2.2.2.1, .int g_2.2.2.2.2.2.2.2.2.2.2.1, .int g_2.2.2.2.2.2.2.2.2.2.2.2.1, .long g_2.2.2.2.2.2.2.2.2.2.2.2.2.1, .int g_2.2.2.2.2.2.2.2.2.2.2.2.2.2.1, .ref m4, .ref m5, .int g_2.2.2.2.2.2.2.2.2.2.2.2.2.2.2.2.2])), (m1, .inl (cI, 60, .inl g_2.2.1)), (m2, .inl (cJ, 92, .inr (.inl (cfL g_2.2.2.2.2.1 g_2.2.2.2.1 92)))), (m3, .inl (cJ, 92, .inr (.inl g_2.2.2.2.2.1))), (m4, .inl (cI, 1573, .inl g_2.2.2.2.2.2.2.2.2.2.2.2.2.2.2.1)), (m5, .inl (cI, 12, .inl g_2.2.2.2.2.2.2.2.2.2.2.2.2.2.2.2.1))]) [0, 1, 2, 3, 4, 5] (by decide) rfl
    have hFc := va_free (wc := [(m0, .inr (4, [.int g_2.1, .ref m1, .int g_2.2.2.1, .ref m2, .ref m3, .int g_2.2.2.2.2.2.1, .int g_2.2.2.2.2.2.2.1, .int g_2.2.2.2.2.2.2.2.1, .int g_2.2.2.2.2.2.2.2.2.1, .int g_2.2.2.2.2.2.2.2.2.2.1, .int g_2.2.2.2.2.2.2.2.2.2.2.1, .int g_2.2.2.2.2.2.2.2.2.2.2.2.1, .long g_2.2.2.2.2.2.2.2.2.2.2.2.2.1, .int g_2.2.2.2.2.2.2.2.2.2.2.2.2.2.1, .ref m4, .ref m5, .int g_2.2.2.2.2.2.2.2.2.2.2.2.2.2.2.2.2])), (m1, .inl (cI, 60, .inl g_2.2.1)), (m2, .inl (cJ, 92, .inr (.inl (cfL g_2.2.2.2.2.1 g_2.2.2.2.1 92)))), (m3, .inl (cJ, 92, .inr (.inl g_2.2.2.2.2.1))), (m4, .inl (cI, 1573, .inl g_2.2.2.2.2.2.2.2.2.2.2.2.2.2.2.1)), (m5, .inl (cI, 12, .inl g_2.2.2.2.2.2.2.2.2.2.2.2.2.2.2.2.1))]) hD hS hA [0, 1, 2, 3, 4, 5] rfl
    refine va_callv (va_runV (As := [.int se]) (rest := []) ⟨hx, hb, hml, hown, hts⟩ (kX4_gaps l dC dI cI cJ m0 m1 m2 m3 m4 m5 H.size se (g_2.1, g_2.2.1, g_2.2.2.1, cfL g_2.2.2.2.2.1 g_2.2.2.2.1 92, g_2.2.2.2.2.1, g_2.2.2.2.2.2.1, g_2.2.2.2.2.2.2.1, g_2.2.2.2.2.2.2.2.1, g_2.2.2.2.2.2.2.2.2.1, g_2.2.2.2.2.2.2.2.2.2.1, g_2.2.2.2.2.2.2.2.2.2.2.1, g_2.2.2.2.2.2.2.2.2.2.2.2.1, g_2.2.2.2.2.2.2.2.2.2.2.2.2.1, g_2.2.2.2.2.2.2.2.2.2.2.2.2.2.1, g_2.2.2.2.2.2.2.2.2.2.2.2.2.2.2.1, g_2.2.2.2.2.2.2.2.2.2.2.2.2.2.2.2.1, g_2.2.2.2.2.2.2.2.2.2.2.2.2.2.2.2.2)) (cwV 1 hts gX4_dead_X4_gaps rfl rfl rfl (by decide +kernel) ⟨Nat.le_of_ble_eq_true rfl, Nat.le_of_ble_eq_true rfl⟩) ⟨fun a U g mk q => by obtain ⟨q0, q1, qP, qK, qD⟩ := q; exact ⟨q0, q1, qP, va_K.moved (u := U) (U := U.calling g mk a) (Vm.Alike.refl U.vm) qK, qD⟩, va_recv hK hPc (ci := 4) (q0 := 0) rfl rfl, fun U hU hW => ⟨rfl, by rw [hU], by rw [hU]; exact hPc, va_K.moved hW.alike hK, hDc.weaken (fun _ _ _ _ => trivial)⟩⟩ rfl rfl hl.1 rfl (lv_room (Nat.le_of_ble_eq_true rfl)) dX4_dead_47 ⟨Nat.le_of_ble_eq_true rfl, Nat.le_of_ble_eq_true rfl⟩) hS (fun q _ h => hFc q h) hFc (fun _ t H1 locs ht hvm hw hB hz1 hk1 hS => ?_)
    obtain ⟨hP1, hK1, hD1⟩ := hB
    rw [ht] at hP1
    obtain ⟨g_6, eg_6⟩ : ∃ z, z = sX4_gaps se (g_2.1, g_2.2.1, g_2.2.2.1, cfL g_2.2.2.2.2.1 g_2.2.2.2.1 92, g_2.2.2.2.2.1, g_2.2.2.2.2.2.1, g_2.2.2.2.2.2.2.1, g_2.2.2.2.2.2.2.2.1, g_2.2.2.2.2.2.2.2.2.1, g_2.2.2.2.2.2.2.2.2.2.1, g_2.2.2.2.2.2.2.2.2.2.2.1, g_2.2.2.2.2.2.2.2.2.2.2.2.1, g_2.2.2.2.2.2.2.2.2.2.2.2.2.1, g_2.2.2.2.2.2.2.2.2.2.2.2.2.2.1, g_2.2.2.2.2.2.2.2.2.2.2.2.2.2.2.1, g_2.2.2.2.2.2.2.2.2.2.2.2.2.2.2.2.1, g_2.2.2.2.2.2.2.2.2.2.2.2.2.2.2.2.2) := ⟨_, rfl⟩
    rw [← eg_6] at hP1 hD1
    obtain ⟨hP, hD⟩ := va_join (wr := []) (w1 := [cM0 m0 m1 m2 m3 m4 m5 g_6, cM1 cI m1 g_6, cM2 cJ m2 g_6, cM3 cJ m3 g_6, cM4 cI m4 g_6, cM5 cI m5 g_6]) hP hD [0, 1, 2, 3, 4, 5] [] rfl rfl (by decide) (by decide) hk1 hFc hP1 hD1
    generalize H1 = H at hP hS ⊢
    have hP : va_P (dC, dI) vwCl [cM0 m0 m1 m2 m3 m4 m5 g_6, cM1 cI m1 g_6, cM2 cJ m2 g_6, cM3 cJ m3 g_6, cM4 cI m4 g_6, cM5 cI m5 g_6] H := hP
    have hD : va_D A [cM0 m0 m1 m2 m3 m4 m5 g_6, cM1 cI m1 g_6, cM2 cJ m2 g_6, cM3 cJ m3 g_6, cM4 cI m4 g_6, cM5 cI m5 g_6] := hD
    refine lv_iconst (v := 1) hx hb dX4_dead_50 (by decide) ?_
    have es0 : sX4_dead se v = g_6 := by rw [sX4_dead, ← eg_2, sX4_dead_g_2, if_neg c_4, ← eg_6, sX4_dead_g_6]
    have er : 1 = rX4_dead se v := by rw [rX4_dead, ← eg_2, rX4_dead_g_2, if_neg c_4, ← eg_6, rX4_dead_g_6]
    refine W.zret (ty := .boolean) (v := 1) hx hb hr rfl (fun t ht hW => ⟨⟨1, (), rfl, er, ?_⟩, hS.F ht⟩) hS.2.2 dX4_dead_51
    rw [es0]; exact ⟨by rw [ht]; exact hP, va_K.moved hW.alike hK, hD⟩
  · refine lv_iconst (v := 0) hx hb dX4_dead_17 (by decide) ?_
    have es0 : sX4_dead se v = g_2 := by rw [sX4_dead, ← eg_2, sX4_dead_g_2, if_pos c_4]
    have er : 0 = rX4_dead se v := by rw [rX4_dead, ← eg_2, rX4_dead_g_2, if_pos c_4]
    refine W.zret (ty := .boolean) (v := 0) hx hb hr rfl (fun t ht hW => ⟨⟨0, (), rfl, er, ?_⟩, hS.F ht⟩) hS.2.2 dX4_dead_18
    rw [es0]; exact ⟨by rw [ht]; exact hP, va_K.moved hW.alike hK, hD⟩

def sX4_clear (k : Int32) (v : MS) : MS :=
  (v.1, v.2.1, v.2.2.1, vp_updL (vp_updL (vp_updL (vp_updL (vp_updL v.2.2.2.1 (((2 + (5 * k)) + 0).toNatClampNeg) 0) (((2 + (5 * k)) + 1).toNatClampNeg) 0) (((2 + (5 * k)) + 2).toNatClampNeg) 0) (((2 + (5 * k)) + 3).toNatClampNeg) 0) (((2 + (5 * k)) + 4).toNatClampNeg) 0, v.2.2.2.2.1, v.2.2.2.2.2.1, v.2.2.2.2.2.2.1, v.2.2.2.2.2.2.2.1, v.2.2.2.2.2.2.2.2.1, v.2.2.2.2.2.2.2.2.2.1, v.2.2.2.2.2.2.2.2.2.2.1, v.2.2.2.2.2.2.2.2.2.2.2.1, v.2.2.2.2.2.2.2.2.2.2.2.2.1, v.2.2.2.2.2.2.2.2.2.2.2.2.2.1, v.2.2.2.2.2.2.2.2.2.2.2.2.2.2.1, v.2.2.2.2.2.2.2.2.2.2.2.2.2.2.2.1, v.2.2.2.2.2.2.2.2.2.2.2.2.2.2.2.2)
set_option maxHeartbeats 4000000 in
set_option maxRecDepth 100000 in
theorem kX4_clear (l : Launch) (dC : Nat → ClassId) (dI : Nat → Nat → Nat) (cI cJ : ClassId) (m0 m1 m2 m3 m4 m5 : Nat) (sz : Nat) (k : Int32) (v : MS) (hk : vp_in k 4) : Met l yX4_clear wsX4_clear ({ frames := 0, cells := 0, slots := 0, locals := 0 }) (va_Pc [.ref m0, .int k] (fun U => U.heap.size = sz ∧ va_P (dC, dI) vwCl [cM0 m0 m1 m2 m3 m4 m5 v, cM1 cI m1 v, cM2 cJ m2 v, cM3 cJ m3 v, cM4 cI m4 v, cM5 cI m5 v] U.heap ∧ va_K (dC, dI) vwCl [(cI, .int), (cJ, .long)] U ∧ va_D (fun _ => True) [cM0 m0 m1 m2 m3 m4 m5 v, cM1 cI m1 v, cM2 cJ m2 v, cM3 cJ m3 v, cM4 cI m4 v, cM5 cI m5 v])) (va_Qv (fun _ : Unit => True) (fun _ t => va_P (dC, dI) vwCl [cM0 m0 m1 m2 m3 m4 m5 (sX4_clear k v), cM1 cI m1 (sX4_clear k v), cM2 cJ m2 (sX4_clear k v), cM3 cJ m3 (sX4_clear k v), cM4 cI m4 (sX4_clear k v), cM5 cI m5 (sX4_clear k v)] t.heap ∧ va_K (dC, dI) vwCl [(cI, .int), (cJ, .long)] t ∧ va_D (va_A [cM0 m0 m1 m2 m3 m4 m5 v, cM1 cI m1 v, cM2 cJ m2 v, cM3 cJ m3 v, cM4 cI m4 v, cM5 cI m5 v] sz) [cM0 m0 m1 m2 m3 m4 m5 (sX4_clear k v), cM1 cI m1 (sX4_clear k v), cM2 cJ m2 (sX4_clear k v), cM3 cJ m3 (sX4_clear k v), cM4 cI m4 (sX4_clear k v), cM5 cI m5 (sX4_clear k v)]) (va_A [cM0 m0 m1 m2 m3 m4 m5 v, cM1 cI m1 v, cM2 cJ m2 v, cM3 cJ m3 v, cM4 cI m4 v, cM5 cI m5 v] sz)) 0 0 (va_A [cM0 m0 m1 m2 m3 m4 m5 v, cM1 cI m1 v, cM2 cJ m2 v, cM3 cJ m3 v, cM4 cI m4 v, cM5 cI m5 v] sz) := by
  refine Met.ofW (cc := cX4_clear) (maxL := 3) (ret := none) (by decide) rfl ?_
  intro p e s m args below meth c s₁ B hml hv
  obtain ⟨rfl, hsz, hP, hK, hD0⟩ := hv
  have hx := B.exec
  have hb := B.bytes
  have hr := B.returns
  have hts := atoms_spec (ws := wsX4_clear) B.pre
  have hown : s.vm.findClass RX4 = some m.cls := findClass_of_methodNamed B.named
  have hlocks := B.notSynchronized
  have hiX4 : ∀ w ∈ u_ws RX4 TX4 17, w ∈ wsX4_clear := by decide +kernel
  subst hsz
  have hD := hD0.self (sz := s.heap.size)
  generalize hAe : va_A [cM0 m0 m1 m2 m3 m4 m5 v, cM1 cI m1 v, cM2 cJ m2 v, cM3 cJ m3 v, cM4 cI m4 v, cM5 cI m5 v] s.heap.size = A at hD ⊢
  have hA : ∀ q : Nat, s.heap.size ≤ q → A q := fun q h => by rw [← hAe]; exact Or.inr h
  have hS : va_S A s.heap s.heap [] := va_S.rf
  have hl := lv_entry ([.ref m0, .int k]) (n := 3) (Nat.le_of_ble_eq_true rfl)
  rw [lg_entry_eq]
  generalize (lg_sl ([.ref m0, .int k]) ++ List.replicate (3 - (lg_sl ([.ref m0, .int k])).length) Slot.unset).toArray = ls at hl ⊢
  have hl : lv_has ls 3 [(0, .ref m0), (1, .int k)] := hl
  have hP : va_P (dC, dI) vwCl [cM0 m0 m1 m2 m3 m4 m5 v, cM1 cI m1 v, cM2 cJ m2 v, cM3 cJ m3 v, cM4 cI m4 v, cM5 cI m5 v] s.heap := hP
  refine lv_iconst (v := 0) hx hb dX4_clear_0 (by decide) ?_
  refine lv_istore_n (lv' := [(2, .int 0), (0, .ref m0), (1, .int k)]) hx hb dX4_clear_1 rfl hl (by decide) rfl (fun ls hl => ?_)
  refine lv_iload_n hx hb dX4_clear_2 rfl (lv_at hl 0 rfl) ?_
  refine lv_iconst (v := 5) hx hb dX4_clear_3 (by decide) ?_
  refine lv_icmp_ge (tgt := 26) hx hb dX4_clear_4 (by decide) (fun c_1 => absurd c_1 (by decide)) (fun c_1 => ?_)
  refine lv_aload_n hx hb dX4_clear_7 rfl (lv_at hl 1 rfl) ?_
  refine va_get (D := (dC, dI)) (ci := 4) (v := .ref m2) (C := RX4) (T := TX4) (N := 17) hx hb hts hiX4 hown hK hP 0 rfl rfl 3 (by decide) (hts (.fieldLink RX4 13 "TripReckonerModel" "now" "[J") (by decide +kernel)) (fun _ h9 => h9) rfl dX4_clear_8 ?_
  refine lv_iconst (v := 2) hx hb dX4_clear_11 (by decide) ?_
  refine lv_iconst (v := 5) hx hb dX4_clear_12 (by decide) ?_
  refine lv_iload_n hx hb dX4_clear_13 rfl (lv_at hl 2 rfl) ?_
  refine lv_imul hx hb dX4_clear_14 ?_
  refine lv_iadd hx hb dX4_clear_15 ?_
  refine lv_iload_n hx hb dX4_clear_16 rfl (lv_at hl 0 rfl) ?_
  refine lv_iadd hx hb dX4_clear_17 ?_
  refine lv_lconst (v := 0) hx hb dX4_clear_18 (by decide) ?_
  refine va_last hx hb hK hP hD hS 2 1 rfl rfl (mk_in2 hk (vd (by decide +kernel))) dX4_clear_19 (fun H locs hP hD hS => ?_)
  have hP : va_P (dC, dI) vwCl [(m0, .inr (4, [.int v.1, .ref m1, .int v.2.2.1, .ref m2, .ref m3, .int v.2.2.2.2.2.1, .int v.2.2.2.2.2.2.1, .int v.2.2.2.2.2.2.2.1, .int v.2.2.2.2.2.2.2.2.1, .int v.2.2.2.2.2.2.2.2.2.1, .int v.2.2.2.2.2.2.2.2.2.2.1, .int v.2.2.2.2.2.2.2.2.2.2.2.1, .long v.2.2.2.2.2.2.2.2.2.2.2.2.1, .int v.2.2.2.2.2.2.2.2.2.2.2.2.2.1, .ref m4, .ref m5, .int v.2.2.2.2.2.2.2.2.2.2.2.2.2.2.2.2])), (m1, .inl (cI, 60, .inl v.2.1)), (m2, .inl (cJ, 92, .inr (.inl (vp_updL v.2.2.2.1 (((2 + (5 * k)) + 0).toNatClampNeg) 0)))), (m3, .inl (cJ, 92, .inr (.inl v.2.2.2.2.1))), (m4, .inl (cI, 1573, .inl v.2.2.2.2.2.2.2.2.2.2.2.2.2.2.1)), (m5, .inl (cI, 12, .inl v.2.2.2.2.2.2.2.2.2.2.2.2.2.2.2.1))] H := hP
  have hD : va_D A [(m0, .inr (4, [.int v.1, .ref m1, .int v.2.2.1, .ref m2, .ref m3, .int v.2.2.2.2.2.1, .int v.2.2.2.2.2.2.1, .int v.2.2.2.2.2.2.2.1, .int v.2.2.2.2.2.2.2.2.1, .int v.2.2.2.2.2.2.2.2.2.1, .int v.2.2.2.2.2.2.2.2.2.2.1, .int v.2.2.2.2.2.2.2.2.2.2.2.1, .long v.2.2.2.2.2.2.2.2.2.2.2.2.1, .int v.2.2.2.2.2.2.2.2.2.2.2.2.2.1, .ref m4, .ref m5, .int v.2.2.2.2.2.2.2.2.2.2.2.2.2.2.2.2])), (m1, .inl (cI, 60, .inl v.2.1)), (m2, .inl (cJ, 92, .inr (.inl (vp_updL v.2.2.2.1 (((2 + (5 * k)) + 0).toNatClampNeg) 0)))), (m3, .inl (cJ, 92, .inr (.inl v.2.2.2.2.1))), (m4, .inl (cI, 1573, .inl v.2.2.2.2.2.2.2.2.2.2.2.2.2.2.1)), (m5, .inl (cI, 12, .inl v.2.2.2.2.2.2.2.2.2.2.2.2.2.2.2.1))] := hD
  refine lv_iinc (v := 1) (lv' := [(2, .int 1), (0, .ref m0), (1, .int k)]) hx hb dX4_clear_20 hl (k := 0) rfl (by decide) (by decide) rfl (fun ls hl => ?_)
  refine lv_goto (tgt := 2) hx hb dX4_clear_23 (by decide) ?_
  refine lv_iload_n hx hb dX4_clear_2 rfl (lv_at hl 0 rfl) ?_
  refine lv_iconst (v := 5) hx hb dX4_clear_3 (by decide) ?_
  refine lv_icmp_ge (tgt := 26) hx hb dX4_clear_4 (by decide) (fun c_2 => absurd c_2 (by decide)) (fun c_2 => ?_)
  refine lv_aload_n hx hb dX4_clear_7 rfl (lv_at hl 1 rfl) ?_
  refine va_get (D := (dC, dI)) (ci := 4) (v := .ref m2) (C := RX4) (T := TX4) (N := 17) hx hb hts hiX4 hown hK hP 0 rfl rfl 3 (by decide) (hts (.fieldLink RX4 13 "TripReckonerModel" "now" "[J") (by decide +kernel)) (fun _ h9 => h9) rfl dX4_clear_8 ?_
  refine lv_iconst (v := 2) hx hb dX4_clear_11 (by decide) ?_
  refine lv_iconst (v := 5) hx hb dX4_clear_12 (by decide) ?_
  refine lv_iload_n hx hb dX4_clear_13 rfl (lv_at hl 2 rfl) ?_
  refine lv_imul hx hb dX4_clear_14 ?_
  refine lv_iadd hx hb dX4_clear_15 ?_
  refine lv_iload_n hx hb dX4_clear_16 rfl (lv_at hl 0 rfl) ?_
  refine lv_iadd hx hb dX4_clear_17 ?_
  refine lv_lconst (v := 0) hx hb dX4_clear_18 (by decide) ?_
  refine va_last hx hb hK hP hD hS 2 1 rfl rfl (mk_in2 hk (vd (by decide +kernel))) dX4_clear_19 (fun H locs hP hD hS => ?_)
  have hP : va_P (dC, dI) vwCl [(m0, .inr (4, [.int v.1, .ref m1, .int v.2.2.1, .ref m2, .ref m3, .int v.2.2.2.2.2.1, .int v.2.2.2.2.2.2.1, .int v.2.2.2.2.2.2.2.1, .int v.2.2.2.2.2.2.2.2.1, .int v.2.2.2.2.2.2.2.2.2.1, .int v.2.2.2.2.2.2.2.2.2.2.1, .int v.2.2.2.2.2.2.2.2.2.2.2.1, .long v.2.2.2.2.2.2.2.2.2.2.2.2.1, .int v.2.2.2.2.2.2.2.2.2.2.2.2.2.1, .ref m4, .ref m5, .int v.2.2.2.2.2.2.2.2.2.2.2.2.2.2.2.2])), (m1, .inl (cI, 60, .inl v.2.1)), (m2, .inl (cJ, 92, .inr (.inl (vp_updL (vp_updL v.2.2.2.1 (((2 + (5 * k)) + 0).toNatClampNeg) 0) (((2 + (5 * k)) + 1).toNatClampNeg) 0)))), (m3, .inl (cJ, 92, .inr (.inl v.2.2.2.2.1))), (m4, .inl (cI, 1573, .inl v.2.2.2.2.2.2.2.2.2.2.2.2.2.2.1)), (m5, .inl (cI, 12, .inl v.2.2.2.2.2.2.2.2.2.2.2.2.2.2.2.1))] H := hP
  have hD : va_D A [(m0, .inr (4, [.int v.1, .ref m1, .int v.2.2.1, .ref m2, .ref m3, .int v.2.2.2.2.2.1, .int v.2.2.2.2.2.2.1, .int v.2.2.2.2.2.2.2.1, .int v.2.2.2.2.2.2.2.2.1, .int v.2.2.2.2.2.2.2.2.2.1, .int v.2.2.2.2.2.2.2.2.2.2.1, .int v.2.2.2.2.2.2.2.2.2.2.2.1, .long v.2.2.2.2.2.2.2.2.2.2.2.2.1, .int v.2.2.2.2.2.2.2.2.2.2.2.2.2.1, .ref m4, .ref m5, .int v.2.2.2.2.2.2.2.2.2.2.2.2.2.2.2.2])), (m1, .inl (cI, 60, .inl v.2.1)), (m2, .inl (cJ, 92, .inr (.inl (vp_updL (vp_updL v.2.2.2.1 (((2 + (5 * k)) + 0).toNatClampNeg) 0) (((2 + (5 * k)) + 1).toNatClampNeg) 0)))), (m3, .inl (cJ, 92, .inr (.inl v.2.2.2.2.1))), (m4, .inl (cI, 1573, .inl v.2.2.2.2.2.2.2.2.2.2.2.2.2.2.1)), (m5, .inl (cI, 12, .inl v.2.2.2.2.2.2.2.2.2.2.2.2.2.2.2.1))] := hD
  refine lv_iinc (v := 2) (lv' := [(2, .int 2), (0, .ref m0), (1, .int k)]) hx hb dX4_clear_20 hl (k := 0) rfl (by decide) (by decide) rfl (fun ls hl => ?_)
  refine lv_goto (tgt := 2) hx hb dX4_clear_23 (by decide) ?_
  refine lv_iload_n hx hb dX4_clear_2 rfl (lv_at hl 0 rfl) ?_
  refine lv_iconst (v := 5) hx hb dX4_clear_3 (by decide) ?_
  refine lv_icmp_ge (tgt := 26) hx hb dX4_clear_4 (by decide) (fun c_3 => absurd c_3 (by decide)) (fun c_3 => ?_)
  refine lv_aload_n hx hb dX4_clear_7 rfl (lv_at hl 1 rfl) ?_
  refine va_get (D := (dC, dI)) (ci := 4) (v := .ref m2) (C := RX4) (T := TX4) (N := 17) hx hb hts hiX4 hown hK hP 0 rfl rfl 3 (by decide) (hts (.fieldLink RX4 13 "TripReckonerModel" "now" "[J") (by decide +kernel)) (fun _ h9 => h9) rfl dX4_clear_8 ?_
  refine lv_iconst (v := 2) hx hb dX4_clear_11 (by decide) ?_
  refine lv_iconst (v := 5) hx hb dX4_clear_12 (by decide) ?_
  refine lv_iload_n hx hb dX4_clear_13 rfl (lv_at hl 2 rfl) ?_
  refine lv_imul hx hb dX4_clear_14 ?_
  refine lv_iadd hx hb dX4_clear_15 ?_
  refine lv_iload_n hx hb dX4_clear_16 rfl (lv_at hl 0 rfl) ?_
  refine lv_iadd hx hb dX4_clear_17 ?_
  refine lv_lconst (v := 0) hx hb dX4_clear_18 (by decide) ?_
  refine va_last hx hb hK hP hD hS 2 1 rfl rfl (mk_in2 hk (vd (by decide +kernel))) dX4_clear_19 (fun H locs hP hD hS => ?_)
  have hP : va_P (dC, dI) vwCl [(m0, .inr (4, [.int v.1, .ref m1, .int v.2.2.1, .ref m2, .ref m3, .int v.2.2.2.2.2.1, .int v.2.2.2.2.2.2.1, .int v.2.2.2.2.2.2.2.1, .int v.2.2.2.2.2.2.2.2.1, .int v.2.2.2.2.2.2.2.2.2.1, .int v.2.2.2.2.2.2.2.2.2.2.1, .int v.2.2.2.2.2.2.2.2.2.2.2.1, .long v.2.2.2.2.2.2.2.2.2.2.2.2.1, .int v.2.2.2.2.2.2.2.2.2.2.2.2.2.1, .ref m4, .ref m5, .int v.2.2.2.2.2.2.2.2.2.2.2.2.2.2.2.2])), (m1, .inl (cI, 60, .inl v.2.1)), (m2, .inl (cJ, 92, .inr (.inl (vp_updL (vp_updL (vp_updL v.2.2.2.1 (((2 + (5 * k)) + 0).toNatClampNeg) 0) (((2 + (5 * k)) + 1).toNatClampNeg) 0) (((2 + (5 * k)) + 2).toNatClampNeg) 0)))), (m3, .inl (cJ, 92, .inr (.inl v.2.2.2.2.1))), (m4, .inl (cI, 1573, .inl v.2.2.2.2.2.2.2.2.2.2.2.2.2.2.1)), (m5, .inl (cI, 12, .inl v.2.2.2.2.2.2.2.2.2.2.2.2.2.2.2.1))] H := hP
  have hD : va_D A [(m0, .inr (4, [.int v.1, .ref m1, .int v.2.2.1, .ref m2, .ref m3, .int v.2.2.2.2.2.1, .int v.2.2.2.2.2.2.1, .int v.2.2.2.2.2.2.2.1, .int v.2.2.2.2.2.2.2.2.1, .int v.2.2.2.2.2.2.2.2.2.1, .int v.2.2.2.2.2.2.2.2.2.2.1, .int v.2.2.2.2.2.2.2.2.2.2.2.1, .long v.2.2.2.2.2.2.2.2.2.2.2.2.1, .int v.2.2.2.2.2.2.2.2.2.2.2.2.2.1, .ref m4, .ref m5, .int v.2.2.2.2.2.2.2.2.2.2.2.2.2.2.2.2])), (m1, .inl (cI, 60, .inl v.2.1)), (m2, .inl (cJ, 92, .inr (.inl (vp_updL (vp_updL (vp_updL v.2.2.2.1 (((2 + (5 * k)) + 0).toNatClampNeg) 0) (((2 + (5 * k)) + 1).toNatClampNeg) 0) (((2 + (5 * k)) + 2).toNatClampNeg) 0)))), (m3, .inl (cJ, 92, .inr (.inl v.2.2.2.2.1))), (m4, .inl (cI, 1573, .inl v.2.2.2.2.2.2.2.2.2.2.2.2.2.2.1)), (m5, .inl (cI, 12, .inl v.2.2.2.2.2.2.2.2.2.2.2.2.2.2.2.1))] := hD
  refine lv_iinc (v := 3) (lv' := [(2, .int 3), (0, .ref m0), (1, .int k)]) hx hb dX4_clear_20 hl (k := 0) rfl (by decide) (by decide) rfl (fun ls hl => ?_)
  refine lv_goto (tgt := 2) hx hb dX4_clear_23 (by decide) ?_
  refine lv_iload_n hx hb dX4_clear_2 rfl (lv_at hl 0 rfl) ?_
  refine lv_iconst (v := 5) hx hb dX4_clear_3 (by decide) ?_
  refine lv_icmp_ge (tgt := 26) hx hb dX4_clear_4 (by decide) (fun c_4 => absurd c_4 (by decide)) (fun c_4 => ?_)
  refine lv_aload_n hx hb dX4_clear_7 rfl (lv_at hl 1 rfl) ?_
  refine va_get (D := (dC, dI)) (ci := 4) (v := .ref m2) (C := RX4) (T := TX4) (N := 17) hx hb hts hiX4 hown hK hP 0 rfl rfl 3 (by decide) (hts (.fieldLink RX4 13 "TripReckonerModel" "now" "[J") (by decide +kernel)) (fun _ h9 => h9) rfl dX4_clear_8 ?_
  refine lv_iconst (v := 2) hx hb dX4_clear_11 (by decide) ?_
  refine lv_iconst (v := 5) hx hb dX4_clear_12 (by decide) ?_
  refine lv_iload_n hx hb dX4_clear_13 rfl (lv_at hl 2 rfl) ?_
  refine lv_imul hx hb dX4_clear_14 ?_
  refine lv_iadd hx hb dX4_clear_15 ?_
  refine lv_iload_n hx hb dX4_clear_16 rfl (lv_at hl 0 rfl) ?_
  refine lv_iadd hx hb dX4_clear_17 ?_
  refine lv_lconst (v := 0) hx hb dX4_clear_18 (by decide) ?_
  refine va_last hx hb hK hP hD hS 2 1 rfl rfl (mk_in2 hk (vd (by decide +kernel))) dX4_clear_19 (fun H locs hP hD hS => ?_)
  have hP : va_P (dC, dI) vwCl [(m0, .inr (4, [.int v.1, .ref m1, .int v.2.2.1, .ref m2, .ref m3, .int v.2.2.2.2.2.1, .int v.2.2.2.2.2.2.1, .int v.2.2.2.2.2.2.2.1, .int v.2.2.2.2.2.2.2.2.1, .int v.2.2.2.2.2.2.2.2.2.1, .int v.2.2.2.2.2.2.2.2.2.2.1, .int v.2.2.2.2.2.2.2.2.2.2.2.1, .long v.2.2.2.2.2.2.2.2.2.2.2.2.1, .int v.2.2.2.2.2.2.2.2.2.2.2.2.2.1, .ref m4, .ref m5, .int v.2.2.2.2.2.2.2.2.2.2.2.2.2.2.2.2])), (m1, .inl (cI, 60, .inl v.2.1)), (m2, .inl (cJ, 92, .inr (.inl (vp_updL (vp_updL (vp_updL (vp_updL v.2.2.2.1 (((2 + (5 * k)) + 0).toNatClampNeg) 0) (((2 + (5 * k)) + 1).toNatClampNeg) 0) (((2 + (5 * k)) + 2).toNatClampNeg) 0) (((2 + (5 * k)) + 3).toNatClampNeg) 0)))), (m3, .inl (cJ, 92, .inr (.inl v.2.2.2.2.1))), (m4, .inl (cI, 1573, .inl v.2.2.2.2.2.2.2.2.2.2.2.2.2.2.1)), (m5, .inl (cI, 12, .inl v.2.2.2.2.2.2.2.2.2.2.2.2.2.2.2.1))] H := hP
  have hD : va_D A [(m0, .inr (4, [.int v.1, .ref m1, .int v.2.2.1, .ref m2, .ref m3, .int v.2.2.2.2.2.1, .int v.2.2.2.2.2.2.1, .int v.2.2.2.2.2.2.2.1, .int v.2.2.2.2.2.2.2.2.1, .int v.2.2.2.2.2.2.2.2.2.1, .int v.2.2.2.2.2.2.2.2.2.2.1, .int v.2.2.2.2.2.2.2.2.2.2.2.1, .long v.2.2.2.2.2.2.2.2.2.2.2.2.1, .int v.2.2.2.2.2.2.2.2.2.2.2.2.2.1, .ref m4, .ref m5, .int v.2.2.2.2.2.2.2.2.2.2.2.2.2.2.2.2])), (m1, .inl (cI, 60, .inl v.2.1)), (m2, .inl (cJ, 92, .inr (.inl (vp_updL (vp_updL (vp_updL (vp_updL v.2.2.2.1 (((2 + (5 * k)) + 0).toNatClampNeg) 0) (((2 + (5 * k)) + 1).toNatClampNeg) 0) (((2 + (5 * k)) + 2).toNatClampNeg) 0) (((2 + (5 * k)) + 3).toNatClampNeg) 0)))), (m3, .inl (cJ, 92, .inr (.inl v.2.2.2.2.1))), (m4, .inl (cI, 1573, .inl v.2.2.2.2.2.2.2.2.2.2.2.2.2.2.1)), (m5, .inl (cI, 12, .inl v.2.2.2.2.2.2.2.2.2.2.2.2.2.2.2.1))] := hD
  refine lv_iinc (v := 4) (lv' := [(2, .int 4), (0, .ref m0), (1, .int k)]) hx hb dX4_clear_20 hl (k := 0) rfl (by decide) (by decide) rfl (fun ls hl => ?_)
  refine lv_goto (tgt := 2) hx hb dX4_clear_23 (by decide) ?_
  refine lv_iload_n hx hb dX4_clear_2 rfl (lv_at hl 0 rfl) ?_
  refine lv_iconst (v := 5) hx hb dX4_clear_3 (by decide) ?_
  refine lv_icmp_ge (tgt := 26) hx hb dX4_clear_4 (by decide) (fun c_5 => absurd c_5 (by decide)) (fun c_5 => ?_)
  refine lv_aload_n hx hb dX4_clear_7 rfl (lv_at hl 1 rfl) ?_
  refine va_get (D := (dC, dI)) (ci := 4) (v := .ref m2) (C := RX4) (T := TX4) (N := 17) hx hb hts hiX4 hown hK hP 0 rfl rfl 3 (by decide) (hts (.fieldLink RX4 13 "TripReckonerModel" "now" "[J") (by decide +kernel)) (fun _ h9 => h9) rfl dX4_clear_8 ?_
  refine lv_iconst (v := 2) hx hb dX4_clear_11 (by decide) ?_
  refine lv_iconst (v := 5) hx hb dX4_clear_12 (by decide) ?_
  refine lv_iload_n hx hb dX4_clear_13 rfl (lv_at hl 2 rfl) ?_
  refine lv_imul hx hb dX4_clear_14 ?_
  refine lv_iadd hx hb dX4_clear_15 ?_
  refine lv_iload_n hx hb dX4_clear_16 rfl (lv_at hl 0 rfl) ?_
  refine lv_iadd hx hb dX4_clear_17 ?_
  refine lv_lconst (v := 0) hx hb dX4_clear_18 (by decide) ?_
  refine va_last hx hb hK hP hD hS 2 1 rfl rfl (mk_in2 hk (vd (by decide +kernel))) dX4_clear_19 (fun H locs hP hD hS => ?_)
  have hP : va_P (dC, dI) vwCl [(m0, .inr (4, [.int v.1, .ref m1, .int v.2.2.1, .ref m2, .ref m3, .int v.2.2.2.2.2.1, .int v.2.2.2.2.2.2.1, .int v.2.2.2.2.2.2.2.1, .int v.2.2.2.2.2.2.2.2.1, .int v.2.2.2.2.2.2.2.2.2.1, .int v.2.2.2.2.2.2.2.2.2.2.1, .int v.2.2.2.2.2.2.2.2.2.2.2.1, .long v.2.2.2.2.2.2.2.2.2.2.2.2.1, .int v.2.2.2.2.2.2.2.2.2.2.2.2.2.1, .ref m4, .ref m5, .int v.2.2.2.2.2.2.2.2.2.2.2.2.2.2.2.2])), (m1, .inl (cI, 60, .inl v.2.1)), (m2, .inl (cJ, 92, .inr (.inl (vp_updL (vp_updL (vp_updL (vp_updL (vp_updL v.2.2.2.1 (((2 + (5 * k)) + 0).toNatClampNeg) 0) (((2 + (5 * k)) + 1).toNatClampNeg) 0) (((2 + (5 * k)) + 2).toNatClampNeg) 0) (((2 + (5 * k)) + 3).toNatClampNeg) 0) (((2 + (5 * k)) + 4).toNatClampNeg) 0)))), (m3, .inl (cJ, 92, .inr (.inl v.2.2.2.2.1))), (m4, .inl (cI, 1573, .inl v.2.2.2.2.2.2.2.2.2.2.2.2.2.2.1)), (m5, .inl (cI, 12, .inl v.2.2.2.2.2.2.2.2.2.2.2.2.2.2.2.1))] H := hP
  have hD : va_D A [(m0, .inr (4, [.int v.1, .ref m1, .int v.2.2.1, .ref m2, .ref m3, .int v.2.2.2.2.2.1, .int v.2.2.2.2.2.2.1, .int v.2.2.2.2.2.2.2.1, .int v.2.2.2.2.2.2.2.2.1, .int v.2.2.2.2.2.2.2.2.2.1, .int v.2.2.2.2.2.2.2.2.2.2.1, .int v.2.2.2.2.2.2.2.2.2.2.2.1, .long v.2.2.2.2.2.2.2.2.2.2.2.2.1, .int v.2.2.2.2.2.2.2.2.2.2.2.2.2.1, .ref m4, .ref m5, .int v.2.2.2.2.2.2.2.2.2.2.2.2.2.2.2.2])), (m1, .inl (cI, 60, .inl v.2.1)), (m2, .inl (cJ, 92, .inr (.inl (vp_updL (vp_updL (vp_updL (vp_updL (vp_updL v.2.2.2.1 (((2 + (5 * k)) + 0).toNatClampNeg) 0) (((2 + (5 * k)) + 1).toNatClampNeg) 0) (((2 + (5 * k)) + 2).toNatClampNeg) 0) (((2 + (5 * k)) + 3).toNatClampNeg) 0) (((2 + (5 * k)) + 4).toNatClampNeg) 0)))), (m3, .inl (cJ, 92, .inr (.inl v.2.2.2.2.1))), (m4, .inl (cI, 1573, .inl v.2.2.2.2.2.2.2.2.2.2.2.2.2.2.1)), (m5, .inl (cI, 12, .inl v.2.2.2.2.2.2.2.2.2.2.2.2.2.2.2.1))] := hD
  refine lv_iinc (v := 5) (lv' := [(2, .int 5), (0, .ref m0), (1, .int k)]) hx hb dX4_clear_20 hl (k := 0) rfl (by decide) (by decide) rfl (fun ls hl => ?_)
  refine lv_goto (tgt := 2) hx hb dX4_clear_23 (by decide) ?_
  refine lv_iload_n hx hb dX4_clear_2 rfl (lv_at hl 0 rfl) ?_
  refine lv_iconst (v := 5) hx hb dX4_clear_3 (by decide) ?_
  refine lv_icmp_ge (tgt := 26) hx hb dX4_clear_4 (by decide) (fun c_6 => ?_) (fun c_6 => absurd (by decide) c_6)
  have es0 : sX4_clear k v = (v.1, v.2.1, v.2.2.1, vp_updL (vp_updL (vp_updL (vp_updL (vp_updL v.2.2.2.1 (((2 + (5 * k)) + 0).toNatClampNeg) 0) (((2 + (5 * k)) + 1).toNatClampNeg) 0) (((2 + (5 * k)) + 2).toNatClampNeg) 0) (((2 + (5 * k)) + 3).toNatClampNeg) 0) (((2 + (5 * k)) + 4).toNatClampNeg) 0, v.2.2.2.2.1, v.2.2.2.2.2.1, v.2.2.2.2.2.2.1, v.2.2.2.2.2.2.2.1, v.2.2.2.2.2.2.2.2.1, v.2.2.2.2.2.2.2.2.2.1, v.2.2.2.2.2.2.2.2.2.2.1, v.2.2.2.2.2.2.2.2.2.2.2.1, v.2.2.2.2.2.2.2.2.2.2.2.2.1, v.2.2.2.2.2.2.2.2.2.2.2.2.2.1, v.2.2.2.2.2.2.2.2.2.2.2.2.2.2.1, v.2.2.2.2.2.2.2.2.2.2.2.2.2.2.2.1, v.2.2.2.2.2.2.2.2.2.2.2.2.2.2.2.2) := by rw [sX4_clear]
  refine W.vret hx hb hr (fun t ht hW => ⟨⟨(), rfl, trivial, ?_⟩, hS.F ht⟩) hS.2.2 dX4_clear_26
  rw [es0]; exact ⟨by rw [ht]; exact hP, va_K.moved hW.alike hK, hD⟩

theorem i2l_ge0 {k : Int32} (h : ¬ k < 0) : 0 ≤ k.toInt64 := by
  obtain ⟨j, hj, rfl⟩ := nI_of h
  rw [nI_l hj]
  exact (pk_lLE (a := 0) (b := j) (by decide) (by omega)).mpr (Nat.zero_le _)
theorem set_in {k : Int32} (h1 : ¬ k < 0) (h2 : k ≤ 3) : vp_in k 4 := by
  rw [fa_lt] at h1
  rw [fa_le] at h2
  have h3 : (3 : Int32).toInt = 3 := by decide
  have h0 : (0 : Int32).toInt = 0 := by decide
  exact vp_in_iff.mpr ⟨by omega, by omega⟩
theorem what_in {k : Int32} (h1 : ¬ k < 0) (h2 : k ≤ 4) : vp_in k 5 := by
  rw [fa_lt] at h1
  rw [fa_le] at h2
  have h3 : (4 : Int32).toInt = 4 := by decide
  have h0 : (0 : Int32).toInt = 0 := by decide
  exact vp_in_iff.mpr ⟨by omega, by omega⟩

def sX4_set_g_6 (k : Int32) (v : MS) (g_2 : MS) (g_6 : MS) : MS :=
  g_6
def sX4_set_g_2 (k : Int32) (v : MS) (g_2 : MS) : MS :=
  if k < 0 then
    g_2
  else
    if k ≤ 3 then
      sX4_set_g_6 k v g_2 (sX4_clear k g_2)
    else
      g_2
def sX4_set (k : Int32) (v : MS) : MS :=
  sX4_set_g_2 k v (sX4_begin (0, v.2.1, v.2.2.1, v.2.2.2.1, v.2.2.2.2.1, v.2.2.2.2.2.1, v.2.2.2.2.2.2.1, v.2.2.2.2.2.2.2.1, v.2.2.2.2.2.2.2.2.1, v.2.2.2.2.2.2.2.2.2.1, v.2.2.2.2.2.2.2.2.2.2.1, v.2.2.2.2.2.2.2.2.2.2.2.1, v.2.2.2.2.2.2.2.2.2.2.2.2.1, v.2.2.2.2.2.2.2.2.2.2.2.2.2.1, v.2.2.2.2.2.2.2.2.2.2.2.2.2.2.1, v.2.2.2.2.2.2.2.2.2.2.2.2.2.2.2.1, v.2.2.2.2.2.2.2.2.2.2.2.2.2.2.2.2))
def rX4_set_g_6 (k : Int32) (v : MS) (g_2 : MS) (g_6 : MS) : Int32 :=
  1
def rX4_set_g_2 (k : Int32) (v : MS) (g_2 : MS) : Int32 :=
  if k < 0 then
    0
  else
    if k ≤ 3 then
      rX4_set_g_6 k v g_2 (sX4_clear k g_2)
    else
      0
def rX4_set (k : Int32) (v : MS) : Int32 :=
  rX4_set_g_2 k v (sX4_begin (0, v.2.1, v.2.2.1, v.2.2.2.1, v.2.2.2.2.1, v.2.2.2.2.2.1, v.2.2.2.2.2.2.1, v.2.2.2.2.2.2.2.1, v.2.2.2.2.2.2.2.2.1, v.2.2.2.2.2.2.2.2.2.1, v.2.2.2.2.2.2.2.2.2.2.1, v.2.2.2.2.2.2.2.2.2.2.2.1, v.2.2.2.2.2.2.2.2.2.2.2.2.1, v.2.2.2.2.2.2.2.2.2.2.2.2.2.1, v.2.2.2.2.2.2.2.2.2.2.2.2.2.2.1, v.2.2.2.2.2.2.2.2.2.2.2.2.2.2.2.1, v.2.2.2.2.2.2.2.2.2.2.2.2.2.2.2.2))
set_option maxHeartbeats 4000000 in
set_option maxRecDepth 100000 in
theorem kX4_set (l : Launch) (dC : Nat → ClassId) (dI : Nat → Nat → Nat) (cI cJ : ClassId) (m0 m1 m2 m3 m4 m5 : Nat) (sz : Nat) (k : Int32) (v : MS) : Met l yX4_set wsX4_set ({ frames := 2, cells := 0, slots := 0, locals := 42 }) (va_Pc [.ref m0, .int k] (fun U => U.heap.size = sz ∧ va_P (dC, dI) vwCl [cM0 m0 m1 m2 m3 m4 m5 v, cM1 cI m1 v, cM2 cJ m2 v, cM3 cJ m3 v, cM4 cI m4 v, cM5 cI m5 v] U.heap ∧ va_K (dC, dI) vwCl [(cI, .int), (cJ, .long)] U ∧ va_D (fun _ => True) [cM0 m0 m1 m2 m3 m4 m5 v, cM1 cI m1 v, cM2 cJ m2 v, cM3 cJ m3 v, cM4 cI m4 v, cM5 cI m5 v])) (va_Qi (fun (r : Int32) (_ : Unit) => r = rX4_set k v) (fun _ t => va_P (dC, dI) vwCl [cM0 m0 m1 m2 m3 m4 m5 (sX4_set k v), cM1 cI m1 (sX4_set k v), cM2 cJ m2 (sX4_set k v), cM3 cJ m3 (sX4_set k v), cM4 cI m4 (sX4_set k v), cM5 cI m5 (sX4_set k v)] t.heap ∧ va_K (dC, dI) vwCl [(cI, .int), (cJ, .long)] t ∧ va_D (va_A [cM0 m0 m1 m2 m3 m4 m5 v, cM1 cI m1 v, cM2 cJ m2 v, cM3 cJ m3 v, cM4 cI m4 v, cM5 cI m5 v] sz) [cM0 m0 m1 m2 m3 m4 m5 (sX4_set k v), cM1 cI m1 (sX4_set k v), cM2 cJ m2 (sX4_set k v), cM3 cJ m3 (sX4_set k v), cM4 cI m4 (sX4_set k v), cM5 cI m5 (sX4_set k v)]) (va_A [cM0 m0 m1 m2 m3 m4 m5 v, cM1 cI m1 v, cM2 cJ m2 v, cM3 cJ m3 v, cM4 cI m4 v, cM5 cI m5 v] sz)) 0 0 (va_A [cM0 m0 m1 m2 m3 m4 m5 v, cM1 cI m1 v, cM2 cJ m2 v, cM3 cJ m3 v, cM4 cI m4 v, cM5 cI m5 v] sz) := by
  refine Met.ofW (cc := cX4_set) (maxL := 2) (ret := (some .boolean)) (by decide) rfl ?_
  intro p e s m args below meth c s₁ B hml hv
  obtain ⟨rfl, hsz, hP, hK, hD0⟩ := hv
  have hx := B.exec
  have hb := B.bytes
  have hr := B.returns
  have hts := atoms_spec (ws := wsX4_set) B.pre
  have hown : s.vm.findClass RX4 = some m.cls := findClass_of_methodNamed B.named
  have hlocks := B.notSynchronized
  have hiX4 : ∀ w ∈ u_ws RX4 TX4 17, w ∈ wsX4_set := by decide +kernel
  subst hsz
  have hD := hD0.self (sz := s.heap.size)
  generalize hAe : va_A [cM0 m0 m1 m2 m3 m4 m5 v, cM1 cI m1 v, cM2 cJ m2 v, cM3 cJ m3 v, cM4 cI m4 v, cM5 cI m5 v] s.heap.size = A at hD ⊢
  have hA : ∀ q : Nat, s.heap.size ≤ q → A q := fun q h => by rw [← hAe]; exact Or.inr h
  have hS : va_S A s.heap s.heap [] := va_S.rf
  have hl := lv_entry ([.ref m0, .int k]) (n := 2) (Nat.le_of_ble_eq_true rfl)
  rw [lg_entry_eq]
  generalize (lg_sl ([.ref m0, .int k]) ++ List.replicate (2 - (lg_sl ([.ref m0, .int k])).length) Slot.unset).toArray = ls at hl ⊢
  have hl : lv_has ls 2 [(0, .ref m0), (1, .int k)] := hl
  have hP : va_P (dC, dI) vwCl [cM0 m0 m1 m2 m3 m4 m5 v, cM1 cI m1 v, cM2 cJ m2 v, cM3 cJ m3 v, cM4 cI m4 v, cM5 cI m5 v] s.heap := hP
  refine lv_aload_n hx hb dX4_set_0 rfl (lv_at hl 0 rfl) ?_
  refine lv_iconst (v := 0) hx hb dX4_set_1 (by decide) ?_
  refine va_put (D := (dC, dI)) (ci := 4) (v := .int 0) (ty := .int) (C := RX4) (T := TX4) (N := 17) hx hb hts hiX4 tyX4 tyX4_ok nmX4 hown hK hP hD hS 0 rfl rfl 0 (by decide) (hts (.fieldLink RX4 49 "TripReckonerModel" "thrown" "I") (by decide +kernel)) (fun _ h9 => h9) rfl (by decide +kernel) rfl rfl (Nat.le_of_ble_eq_true rfl) dX4_set_2 (fun H locs hP hD hS => ?_)
  have hP : va_P (dC, dI) vwCl [(m0, .inr (4, [.int 0, .ref m1, .int v.2.2.1, .ref m2, .ref m3, .int v.2.2.2.2.2.1, .int v.2.2.2.2.2.2.1, .int v.2.2.2.2.2.2.2.1, .int v.2.2.2.2.2.2.2.2.1, .int v.2.2.2.2.2.2.2.2.2.1, .int v.2.2.2.2.2.2.2.2.2.2.1, .int v.2.2.2.2.2.2.2.2.2.2.2.1, .long v.2.2.2.2.2.2.2.2.2.2.2.2.1, .int v.2.2.2.2.2.2.2.2.2.2.2.2.2.1, .ref m4, .ref m5, .int v.2.2.2.2.2.2.2.2.2.2.2.2.2.2.2.2])), (m1, .inl (cI, 60, .inl v.2.1)), (m2, .inl (cJ, 92, .inr (.inl v.2.2.2.1))), (m3, .inl (cJ, 92, .inr (.inl v.2.2.2.2.1))), (m4, .inl (cI, 1573, .inl v.2.2.2.2.2.2.2.2.2.2.2.2.2.2.1)), (m5, .inl (cI, 12, .inl v.2.2.2.2.2.2.2.2.2.2.2.2.2.2.2.1))] H := hP
  have hD : va_D A [(m0, .inr (4, [.int 0, .ref m1, .int v.2.2.1, .ref m2, .ref m3, .int v.2.2.2.2.2.1, .int v.2.2.2.2.2.2.1, .int v.2.2.2.2.2.2.2.1, .int v.2.2.2.2.2.2.2.2.1, .int v.2.2.2.2.2.2.2.2.2.1, .int v.2.2.2.2.2.2.2.2.2.2.1, .int v.2.2.2.2.2.2.2.2.2.2.2.1, .long v.2.2.2.2.2.2.2.2.2.2.2.2.1, .int v.2.2.2.2.2.2.2.2.2.2.2.2.2.1, .ref m4, .ref m5, .int v.2.2.2.2.2.2.2.2.2.2.2.2.2.2.2.2])), (m1, .inl (cI, 60, .inl v.2.1)), (m2, .inl (cJ, 92, .inr (.inl v.2.2.2.1))), (m3, .inl (cJ, 92, .inr (.inl v.2.2.2.2.1))), (m4, .inl (cI, 1573, .inl v.2.2.2.2.2.2.2.2.2.2.2.2.2.2.1)), (m5, .inl (cI, 12, .inl v.2.2.2.2.2.2.2.2.2.2.2.2.2.2.2.1))] := hD
  refine lv_aload_n hx hb dX4_set_5 rfl (lv_at hl 0 rfl) ?_
  have hPc := hP.sub (ws' := [(m0, .inr (4, [.int 0, .ref m1, .int v.2.2.1, .ref m2, .ref m3, .int v.2.2.2.2.2.1, .int v.2.2.2.2.2.2.1, .int v.2.2.2.2.2.2.2.1, .int v.2.2.2.2.2.2.2.2.1, .int v.2.2.2.2.2.2.2.2.2.1, .int v.2.2.2.2.2.2.2.2.2.2.1, .int v.2.2.2.2.2.2.2.2.2.2.2.1, .long v.2.2.2.2.2.2.2.2.2.2.2.2.1, .int v.2.2.2.2.2.2.2.2.2.2.2.2.2.1, .ref m4, .ref m5, .int v.2.2.2.2.2.2.2.2.2.2.2.2.2.2.2.2])), (m1, .inl (cI, 60, .inl v.2.1)), (m2, .inl (cJ, 92, .inr (.inl v.2.2.2.1))), (m3, .inl (cJ, 92, .inr (.inl v.2.2.2.2.1))), (m4, .inl (cI, 1573, .inl v.2.2.2.2.2.2.2.2.2.2.2.2.2.2.1)), (m5, .inl (cI, 12, .inl v.2.2.2.2.2.2.2.2.2.2.2.2.2.2.2.1))]) [0, 1, 2, 3, 4, 5] rfl
  have hDc := hD.sub (ws' := [(m0, .inr (4, [.int 0, .ref m1, .int v.2.2.1, .ref m2, .ref m3, .int v.2.2.2.2.2.1, .int v.2.2.2.2.2.2.1, .int v.2.2.2.2.2.2.2.1, .int v.2.2.2.2.2.2.2.2.1, .int v.2.2.2.2.2.2.2.2.2.1, .int v.2.2.2.2.2.2.2.2.2.2.1, .int v.2.2.2.2.2.2.2.2.2.2.2.1, .long v.2.2.2.2.2.2.2.2.2.2.2.2.1, .int v.2.2.2.2.2.2.2.2.2.2.2.2.2.1, .ref m4, .ref m5, .int v.2.2.2.2.2.2.2.2.2.2.2.2.2.2.2.2])), (m1, .inl (cI, 60, .inl v.2.1)), (m2, .inl (cJ, 92, .inr (.inl v.2.2.2.1))), (m3, .inl (cJ, 92, .inr (.inl v.2.2.2.2.1))), (m4, .inl (cI, 1573, .inl v.2.2.2.2.2.2.2.2.2.2.2.2.2.2.1)), (m5, .inl (cI, 12, .inl v.2.2.2.2.2.2.2.2.2.2.2.2.2.2.2.1))]) [0, 1, 2, 3, 4, 5] (by decide) rfl
  have hFc := va_free (wc := [(m0, .inr (4, [.int 0, .ref m1, .int v.2.2.1, .ref m2, .ref m3, .int v.2.2.2.2.2.1, .int v.2.2.2.2.2.2.1, .int v.2.2.2.2.2.2.2.1, .int v.2.2.2.2.2.2.2.2.1, .int v.2.2.2.2.2.2.2.2.2.1, .int v.2.2.2.2.2.2.2.2.2.2.1, .int v.2.2.2.2.2.2.2.2.2.2.2.1, .long v.2.2.2.2.2.2.2.2.2.2.2.2.1, .int v.2.2.2.2.2.2.2.2.2.2.2.2.2.1, .ref m4, .ref m5, .int v.2.2.2.2.2.2.2.2.2.2.2.2.2.2.2.2])), (m1, .inl (cI, 60, .inl v.2.1)), (m2, .inl (cJ, 92, .inr (.inl v.2.2.2.1))), (m3, .inl (cJ, 92, .inr (.inl v.2.2.2.2.1))), (m4, .inl (cI, 1573, .inl v.2.2.2.2.2.2.2.2.2.2.2.2.2.2.1)), (m5, .inl (cI, 12, .inl v.2.2.2.2.2.2.2.2.2.2.2.2.2.2.2.1))]) hD hS hA [0, 1, 2, 3, 4, 5] rfl
  refine va_callv (va_runV (As := []) (rest := []) ⟨hx, hb, hml, hown, hts⟩ (kX4_begin l dC dI cI cJ m0 m1 m2 m3 m4 m5 H.size (0, v.2.1, v.2.2.1, v.2.2.2.1, v.2.2.2.2.1, v.2.2.2.2.2.1, v.2.2.2.2.2.2.1, v.2.2.2.2.2.2.2.1, v.2.2.2.2.2.2.2.2.1, v.2.2.2.2.2.2.2.2.2.1, v.2.2.2.2.2.2.2.2.2.2.1, v.2.2.2.2.2.2.2.2.2.2.2.1, v.2.2.2.2.2.2.2.2.2.2.2.2.1, v.2.2.2.2.2.2.2.2.2.2.2.2.2.1, v.2.2.2.2.2.2.2.2.2.2.2.2.2.2.1, v.2.2.2.2.2.2.2.2.2.2.2.2.2.2.2.1, v.2.2.2.2.2.2.2.2.2.2.2.2.2.2.2.2)) (cwV 0 hts gX4_set_X4_begin rfl rfl rfl (by decide +kernel) ⟨Nat.le_of_ble_eq_true rfl, Nat.le_of_ble_eq_true rfl⟩) ⟨fun a U g mk q => by obtain ⟨q0, q1, qP, qK, qD⟩ := q; exact ⟨q0, q1, qP, va_K.moved (u := U) (U := U.calling g mk a) (Vm.Alike.refl U.vm) qK, qD⟩, va_recv hK hPc (ci := 4) (q0 := 0) rfl rfl, fun U hU hW => ⟨rfl, by rw [hU], by rw [hU]; exact hPc, va_K.moved hW.alike hK, hDc.weaken (fun _ _ _ _ => trivial)⟩⟩ rfl rfl hl.1 rfl (lv_room (Nat.le_of_ble_eq_true rfl)) dX4_set_6 ⟨Nat.le_of_ble_eq_true rfl, Nat.le_of_ble_eq_true rfl⟩) hS (fun q _ h => hFc q h) hFc (fun _ t H1 locs ht hvm hw hB hz1 hk1 hS => ?_)
  obtain ⟨hP1, hK1, hD1⟩ := hB
  rw [ht] at hP1
  obtain ⟨g_2, eg_2⟩ : ∃ z, z = sX4_begin (0, v.2.1, v.2.2.1, v.2.2.2.1, v.2.2.2.2.1, v.2.2.2.2.2.1, v.2.2.2.2.2.2.1, v.2.2.2.2.2.2.2.1, v.2.2.2.2.2.2.2.2.1, v.2.2.2.2.2.2.2.2.2.1, v.2.2.2.2.2.2.2.2.2.2.1, v.2.2.2.2.2.2.2.2.2.2.2.1, v.2.2.2.2.2.2.2.2.2.2.2.2.1, v.2.2.2.2.2.2.2.2.2.2.2.2.2.1, v.2.2.2.2.2.2.2.2.2.2.2.2.2.2.1, v.2.2.2.2.2.2.2.2.2.2.2.2.2.2.2.1, v.2.2.2.2.2.2.2.2.2.2.2.2.2.2.2.2) := ⟨_, rfl⟩
  rw [← eg_2] at hP1 hD1
  obtain ⟨hP, hD⟩ := va_join (wr := []) (w1 := [cM0 m0 m1 m2 m3 m4 m5 g_2, cM1 cI m1 g_2, cM2 cJ m2 g_2, cM3 cJ m3 g_2, cM4 cI m4 g_2, cM5 cI m5 g_2]) hP hD [0, 1, 2, 3, 4, 5] [] rfl rfl (by decide) (by decide) hk1 hFc hP1 hD1
  generalize H1 = H at hP hS ⊢
  have hP : va_P (dC, dI) vwCl [cM0 m0 m1 m2 m3 m4 m5 g_2, cM1 cI m1 g_2, cM2 cJ m2 g_2, cM3 cJ m3 g_2, cM4 cI m4 g_2, cM5 cI m5 g_2] H := hP
  have hD : va_D A [cM0 m0 m1 m2 m3 m4 m5 g_2, cM1 cI m1 g_2, cM2 cJ m2 g_2, cM3 cJ m3 g_2, cM4 cI m4 g_2, cM5 cI m5 g_2] := hD
  refine lv_iload_n hx hb dX4_set_9 rfl (lv_at hl 1 rfl) ?_
  refine lv_if_lt (tgt := 18) hx hb dX4_set_10 (by decide) (fun c_3 => ?_) (fun c_3 => ?_)
  · refine lv_iconst (v := 0) hx hb dX4_set_18 (by decide) ?_
    have es0 : sX4_set k v = g_2 := by rw [sX4_set, ← eg_2, sX4_set_g_2, if_pos c_3]
    have er : 0 = rX4_set k v := by rw [rX4_set, ← eg_2, rX4_set_g_2, if_pos c_3]
    refine W.zret (ty := .boolean) (v := 0) hx hb hr rfl (fun t ht hW => ⟨⟨0, (), rfl, er, ?_⟩, hS.F ht⟩) hS.2.2 dX4_set_19
    rw [es0]; exact ⟨by rw [ht]; exact hP, va_K.moved hW.alike hK, hD⟩
  · refine lv_iload_n hx hb dX4_set_13 rfl (lv_at hl 1 rfl) ?_
    refine lv_iconst (v := 3) hx hb dX4_set_14 (by decide) ?_
    refine lv_icmp_le (tgt := 20) hx hb dX4_set_15 (by decide) (fun c_4 => ?_) (fun c_4 => ?_)
    · refine lv_aload_n hx hb dX4_set_20 rfl (lv_at hl 0 rfl) ?_
      refine lv_iload_n hx hb dX4_set_21 rfl (lv_at hl 1 rfl) ?_
      have hPc := hP.sub (ws' := [cM0 m0 m1 m2 m3 m4 m5 g_2, cM1 cI m1 g_2, cM2 cJ m2 g_2, cM3 cJ m3 g_2, cM4 cI m4 g_2, cM5 cI m5 g_2]) [0, 1, 2, 3, 4, 5] rfl
      have hDc := hD.sub (ws' := [cM0 m0 m1 m2 m3 m4 m5 g_2, cM1 cI m1 g_2, cM2 cJ m2 g_2, cM3 cJ m3 g_2, cM4 cI m4 g_2, cM5 cI m5 g_2]) [0, 1, 2, 3, 4, 5] (by decide) rfl
      have hFc := va_free (wc := [cM0 m0 m1 m2 m3 m4 m5 g_2, cM1 cI m1 g_2, cM2 cJ m2 g_2, cM3 cJ m3 g_2, cM4 cI m4 g_2, cM5 cI m5 g_2]) hD hS hA [0, 1, 2, 3, 4, 5] rfl
      refine va_callv (va_runV (As := [.int k]) (rest := []) ⟨hx, hb, hml, hown, hts⟩ (kX4_clear l dC dI cI cJ m0 m1 m2 m3 m4 m5 H.size k g_2 (set_in c_3 c_4)) (cwV 1 hts gX4_set_X4_clear rfl rfl rfl (by decide +kernel) ⟨Nat.le_of_ble_eq_true rfl, Nat.le_of_ble_eq_true rfl⟩) ⟨fun a U g mk q => by obtain ⟨q0, q1, qP, qK, qD⟩ := q; exact ⟨q0, q1, qP, va_K.moved (u := U) (U := U.calling g mk a) (Vm.Alike.refl U.vm) qK, qD⟩, va_recv hK hPc (ci := 4) (q0 := 0) rfl rfl, fun U hU hW => ⟨rfl, by rw [hU], by rw [hU]; exact hPc, va_K.moved hW.alike hK, hDc.weaken (fun _ _ _ _ => trivial)⟩⟩ rfl rfl hl.1 rfl (lv_room (Nat.le_of_ble_eq_true rfl)) dX4_set_22 ⟨Nat.le_of_ble_eq_true rfl, Nat.le_of_ble_eq_true rfl⟩) hS (fun q _ h => hFc q h) hFc (fun _ t H1 locs ht hvm hw hB hz1 hk1 hS => ?_)
      obtain ⟨hP1, hK1, hD1⟩ := hB
      rw [ht] at hP1
      obtain ⟨g_6, eg_6⟩ : ∃ z, z = sX4_clear k g_2 := ⟨_, rfl⟩
      rw [← eg_6] at hP1 hD1
      obtain ⟨hP, hD⟩ := va_join (wr := []) (w1 := [cM0 m0 m1 m2 m3 m4 m5 g_6, cM1 cI m1 g_6, cM2 cJ m2 g_6, cM3 cJ m3 g_6, cM4 cI m4 g_6, cM5 cI m5 g_6]) hP hD [0, 1, 2, 3, 4, 5] [] rfl rfl (by decide) (by decide) hk1 hFc hP1 hD1
      generalize H1 = H at hP hS ⊢
      have hP : va_P (dC, dI) vwCl [cM0 m0 m1 m2 m3 m4 m5 g_6, cM1 cI m1 g_6, cM2 cJ m2 g_6, cM3 cJ m3 g_6, cM4 cI m4 g_6, cM5 cI m5 g_6] H := hP
      have hD : va_D A [cM0 m0 m1 m2 m3 m4 m5 g_6, cM1 cI m1 g_6, cM2 cJ m2 g_6, cM3 cJ m3 g_6, cM4 cI m4 g_6, cM5 cI m5 g_6] := hD
      refine lv_iconst (v := 1) hx hb dX4_set_25 (by decide) ?_
      have es0 : sX4_set k v = g_6 := by rw [sX4_set, ← eg_2, sX4_set_g_2, if_neg c_3, if_pos c_4, ← eg_6, sX4_set_g_6]
      have er : 1 = rX4_set k v := by rw [rX4_set, ← eg_2, rX4_set_g_2, if_neg c_3, if_pos c_4, ← eg_6, rX4_set_g_6]
      refine W.zret (ty := .boolean) (v := 1) hx hb hr rfl (fun t ht hW => ⟨⟨1, (), rfl, er, ?_⟩, hS.F ht⟩) hS.2.2 dX4_set_26
      rw [es0]; exact ⟨by rw [ht]; exact hP, va_K.moved hW.alike hK, hD⟩
    · refine lv_iconst (v := 0) hx hb dX4_set_18 (by decide) ?_
      have es0 : sX4_set k v = g_2 := by rw [sX4_set, ← eg_2, sX4_set_g_2, if_neg c_3, if_neg c_4]
      have er : 0 = rX4_set k v := by rw [rX4_set, ← eg_2, rX4_set_g_2, if_neg c_3, if_neg c_4]
      refine W.zret (ty := .boolean) (v := 0) hx hb hr rfl (fun t ht hW => ⟨⟨0, (), rfl, er, ?_⟩, hS.F ht⟩) hS.2.2 dX4_set_19
      rw [es0]; exact ⟨by rw [ht]; exact hP, va_K.moved hW.alike hK, hD⟩

def rX4_place (x : Int64) : Int32 :=
  32 + (2 * ((x - x / 30 * 30).toInt32))
set_option maxHeartbeats 4000000 in
set_option maxRecDepth 100000 in
theorem kX4_place (l : Launch) (dC : Nat → ClassId) (dI : Nat → Nat → Nat) (cI cJ : ClassId) (sz : Nat) (x : Int64)  : Met l yX4_place wsX4_place ({ frames := 0, cells := 0, slots := 0, locals := 0 }) (va_Pc [.long x] (fun U => U.heap.size = sz ∧ va_P (dC, dI) vwCl [] U.heap ∧ va_K (dC, dI) vwCl [(cI, .int), (cJ, .long)] U ∧ va_D (fun _ => True) [])) (va_Qi (fun (r : Int32) (_ : Unit) => r = rX4_place x) (fun _ t => va_P (dC, dI) vwCl [] t.heap ∧ va_K (dC, dI) vwCl [(cI, .int), (cJ, .long)] t ∧ va_D (va_A [] sz) []) (va_A [] sz)) 0 0 (va_A [] sz) := by
  refine Met.ofW (cc := cX4_place) (maxL := 2) (ret := (some .int)) (by decide) rfl ?_
  intro p e s m args below meth c s₁ B hml hv
  obtain ⟨rfl, hsz, hP, hK, hD0⟩ := hv
  have hx := B.exec
  have hb := B.bytes
  have hr := B.returns
  have hts := atoms_spec (ws := wsX4_place) B.pre
  have hown : s.vm.findClass RX4 = some m.cls := findClass_of_methodNamed B.named
  have hlocks := B.notSynchronized
  subst hsz
  have hD := hD0.self (sz := s.heap.size)
  generalize hAe : va_A [] s.heap.size = A at hD ⊢
  have hA : ∀ q : Nat, s.heap.size ≤ q → A q := fun q h => by rw [← hAe]; exact Or.inr h
  have hS : va_S A s.heap s.heap [] := va_S.rf
  have hl := lv_entry ([.long x]) (n := 2) (Nat.le_of_ble_eq_true rfl)
  rw [lg_entry_eq]
  generalize (lg_sl ([.long x]) ++ List.replicate (2 - (lg_sl ([.long x])).length) Slot.unset).toArray = ls at hl ⊢
  have hl : lv_has ls 2 [(0, .long x)] := hl
  have hP : va_P (dC, dI) vwCl [] s.heap := hP
  refine lv_bipush (v := 32) hx hb dX4_place_0 (by decide) ?_
  refine lv_iconst (v := 2) hx hb dX4_place_2 (by decide) ?_
  refine lv_lload_n hx hb dX4_place_3 rfl (lv_at hl 0 rfl) ?_
  refine lv_ldc2 hx hb hown (hts (.constantLong RX4 109 (30)) (by decide +kernel)) dX4_place_4 ?_
  refine lv_lrem hx hb dX4_place_7 (by decide) ?_
  refine lv_l2i (v := (x - x / 30 * 30).toInt32) hx hb dX4_place_8 rfl ?_
  refine lv_imul hx hb dX4_place_9 ?_
  refine lv_iadd hx hb dX4_place_10 ?_
  have er : 32 + (2 * ((x - x / 30 * 30).toInt32)) = rX4_place x := by rw [rX4_place]
  refine W.iret (v := 32 + (2 * ((x - x / 30 * 30).toInt32))) hx hb hr (fun t ht hW => ⟨⟨32 + (2 * ((x - x / 30 * 30).toInt32)), (), rfl, er, ?_⟩, hS.F ht⟩) hS.2.2 dX4_place_11
  exact ⟨by rw [ht]; exact hP, va_K.moved hW.alike hK, hD⟩

theorem place_in {x : Int64} (h : 0 ≤ x) : vp_in (rX4_place x) 92 ∧ vp_in (rX4_place x + 1) 92 ∧ vp_in (rX4_place x + 0) 92 := by
  obtain ⟨j, hj, rfl⟩ := pk_lOf (x := x) (by intro h2; exact absurd h (Int64.not_le.mpr h2))
  unfold rX4_place
  have e : lN j - lN j / 30 * 30 = lN (j % 30) := pk_lRem hj (by decide) (by decide)
  rw [e, lN_i]
  have e2 : (32 : Int32) + 2 * nI (j % 30) = nI (32 + 2 * (j % 30)) := by
    show nI 32 + nI 2 * nI (j % 30) = _
    rw [pk_mul, nI_add]
  have e3 : nI (32 + 2 * (j % 30)) + 0 = nI (32 + 2 * (j % 30)) := nI_add _ 0
  rw [e2, nI_1, e3]
  have := Nat.mod_lt j (show 0 < 30 by decide)
  exact ⟨vp_in_nI (by omega) (by decide), vp_in_nI (by omega) (by decide), vp_in_nI (by omega) (by decide)⟩
