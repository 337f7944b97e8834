def wt0 (v : MS) : MS := (v.1, v.2.1, 0, v.2.2.2.1, v.2.2.2.2.1, v.2.2.2.2.2.1, v.2.2.2.2.2.2.1, v.2.2.2.2.2.2.2.1, v.2.2.2.2.2.2.2.2.1, v.2.2.2.2.2.2.2.2.2.1, v.2.2.2.2.2.2.2.2.2.2.1, v.2.2.2.2.2.2.2.2.2.2.2.1, v.2.2.2.2.2.2.2.2.2.2.2.2.1, v.2.2.2.2.2.2.2.2.2.2.2.2.2.1, v.2.2.2.2.2.2.2.2.2.2.2.2.2.2.1, v.2.2.2.2.2.2.2.2.2.2.2.2.2.2.2.1, v.2.2.2.2.2.2.2.2.2.2.2.2.2.2.2.2)

def wc (v : MS) (co : Nat → Int32) : MS := (v.1, v.2.1, v.2.2.1, v.2.2.2.1, v.2.2.2.2.1, v.2.2.2.2.2.1, v.2.2.2.2.2.2.1, v.2.2.2.2.2.2.2.1, v.2.2.2.2.2.2.2.2.1, v.2.2.2.2.2.2.2.2.2.1, v.2.2.2.2.2.2.2.2.2.2.1, v.2.2.2.2.2.2.2.2.2.2.2.1, v.2.2.2.2.2.2.2.2.2.2.2.2.1, v.2.2.2.2.2.2.2.2.2.2.2.2.2.1, co, v.2.2.2.2.2.2.2.2.2.2.2.2.2.2.2.1, v.2.2.2.2.2.2.2.2.2.2.2.2.2.2.2.2)
def wb (v : MS) (bo : Nat → Int32) : MS := (v.1, v.2.1, v.2.2.1, v.2.2.2.1, v.2.2.2.2.1, v.2.2.2.2.2.1, v.2.2.2.2.2.2.1, v.2.2.2.2.2.2.2.1, v.2.2.2.2.2.2.2.2.1, v.2.2.2.2.2.2.2.2.2.1, v.2.2.2.2.2.2.2.2.2.2.1, v.2.2.2.2.2.2.2.2.2.2.2.1, v.2.2.2.2.2.2.2.2.2.2.2.2.1, v.2.2.2.2.2.2.2.2.2.2.2.2.2.1, v.2.2.2.2.2.2.2.2.2.2.2.2.2.2.1, bo, v.2.2.2.2.2.2.2.2.2.2.2.2.2.2.2.2)
def wsp (v : MS) (so : Int32) : MS := (v.1, v.2.1, v.2.2.1, v.2.2.2.1, v.2.2.2.2.1, v.2.2.2.2.2.1, v.2.2.2.2.2.2.1, v.2.2.2.2.2.2.2.1, v.2.2.2.2.2.2.2.2.1, v.2.2.2.2.2.2.2.2.2.1, v.2.2.2.2.2.2.2.2.2.2.1, v.2.2.2.2.2.2.2.2.2.2.2.1, v.2.2.2.2.2.2.2.2.2.2.2.2.1, v.2.2.2.2.2.2.2.2.2.2.2.2.2.1, v.2.2.2.2.2.2.2.2.2.2.2.2.2.2.1, v.2.2.2.2.2.2.2.2.2.2.2.2.2.2.2.1, so)

theorem c121_in {i x n : Nat} (h : 121 * i + x < n) (hn : n < 2 ^ 31) : vp_in (121 * nI i + nI x) n := by
  show vp_in (nI 121 * nI i + nI x) n
  rw [pk_mul, nI_add]
  exact vp_in_nI h hn
theorem c121_cl {i x : Nat} (h : 121 * i + x < 2 ^ 31) : (121 * nI i + nI x).toNatClampNeg = 121 * i + x := by
  show (nI 121 * nI i + nI x).toNatClampNeg = 121 * i + x
  rw [pk_mul, nI_add]
  exact nI_clamp h
theorem bh_in {j a : Nat} {L' : Int32} {v : MS} (h0 : 0 ≤ rX4_need (nI j) v) (hj : j ≤ 12) (ha : a ≤ 120) (h1 : 0 ≤ nI a - rX4_need (nI j) v) (_ : ¬ nI j = L' - 1) : vp_in (121 * nI j + (nI a - rX4_need (nI j) v)) 1573 := by
  obtain ⟨b, hb, e⟩ := vp_in_of (dif_in0 h0 h1 (n := 121) (by omega) (by decide)) (by decide)
  rw [e]
  exact c121_in (by omega) (by decide)
theorem nM_2 (n : Nat) : nI (n + 1) - 2 = nM n := by
  unfold nM
  rw [← nI_1, Int32.sub_eq_add_neg, Int32.add_assoc, Int32.sub_eq_add_neg]
  have e : (1 : Int32) + -2 = -1 := by decide
  rw [e]
def pS (v : MS) : Nat := (v.2.2.1 / 2).toNatClampNeg
def pmo (v : MS) : Nat := (v.2.2.2.2.2.1 / 1000).toNatClampNeg
def pha (v : MS) : Nat := ((v.2.2.2.1 0).toInt32 / 1000).toNatClampNeg
theorem pS_ok {v : MS} (h0 : 0 ≤ v.2.2.1) (c : ¬ v.2.2.1 - v.2.2.1 / 2 * 2 = 0) (h25 : v.2.2.1 ≤ 25) : (v.2.2.1 + 1) / 2 = nI (pS v + 1) := by
  unfold pS
  obtain ⟨j, hj, e⟩ := i_ge0 h0
  rw [e] at c h25 ⊢
  have h2 : j ≤ 25 := (nI_leI hj (by decide)).mp (show nI j ≤ nI 25 from h25)
  have c2 : ¬ nI j - nI j / nI 2 * nI 2 = 0 := c
  rw [pk_rem hj (by decide) (by decide)] at c2
  have h3 : j % 2 ≠ 0 := fun q => c2 (by rw [q]; rfl)
  rw [nI_1]
  show nI (j + 1) / nI 2 = nI ((nI j / nI 2).toNatClampNeg + 1)
  rw [pk_div (by omega) (by decide) (by decide), pk_div hj (by decide) (by decide), nI_clamp (by omega)]
  congr 1
  omega
theorem pS_12 {v : MS} (h0 : 0 ≤ v.2.2.1) (h25 : v.2.2.1 ≤ 25) : pS v ≤ 12 := by
  unfold pS
  obtain ⟨j, hj, e⟩ := i_ge0 h0
  rw [e] at h25 ⊢
  have h2 : j ≤ 25 := (nI_leI hj (by decide)).mp (show nI j ≤ nI 25 from h25)
  show (nI j / nI 2).toNatClampNeg ≤ 12
  rw [pk_div hj (by decide) (by decide), nI_clamp (by omega)]
  omega

set_option maxHeartbeats 4000000 in
set_option maxRecDepth 100000 in
theorem f_scanM {p : Program} {l : Launch} {e : Env} {R : Room} {s : State} {m : MethodId} {args : Array Value} {below : List Frame} {meth : Method} {c : Code} {cells slots : Nat} {Q : State → Prop} {H0 : Heap} {A : Nat → Prop} {dC : Nat → ClassId} {dI : Nat → Nat → Nat} {cI cJ : ClassId} (hx : p.tables.exec = Jvm.exec) (hb : c.code = cX4_plan) (hml : c.maxLocals = 10) (hown : s.vm.findClass RX4 = some m.cls) (hts : ∀ w ∈ wsX4_plan, w.before args s = true) (hA : ∀ q : Nat, H0.size ≤ q → A q) (hK : va_K (dC, dI) vwCl [(cI, .int), (cJ, .long)] s) {m0 m1 m2 m3 m4 m5 : Nat} {v : MS} {nt : Int32} {N : Nat} (hn : nt = nI N) (hN60 : N ≤ 60) : ∀ (n : Nat) (i : Nat), (i + n = N) → (∀ j, j < i → ¬ v.2.1 j = 0) → ((∀ j, j < N → ¬ v.2.1 j = 0) → ∀ (H : Heap) (locs : List Loc) (ls : Array Slot), va_P (dC, dI) vwCl [cM0 m0 m1 m2 m3 m4 m5 v, cM1 cI m1 v, cM2 cJ m2 v, cM3 cJ m3 v, cM4 cI m4 v, cM5 cI m5 v] H → va_D A [cM0 m0 m1 m2 m3 m4 m5 v, cM1 cI m1 v, cM2 cJ m2 v, cM3 cJ m3 v, cM4 cI m4 v, cM5 cI m5 v] → va_S A H0 H locs → lv_has ls 10 [(0, .ref m0), (1, .int nt), (2, .int (nI N))] → W p l e R s m args below meth c H locs cells slots Q (F0 m 59 ls [])) → (∀ (j : Nat) (_ : j < N) (_ : v.2.1 j = 0) (H : Heap) (locs : List Loc) (ls : Array Slot), va_P (dC, dI) vwCl [cM0 m0 m1 m2 m3 m4 m5 v, cM1 cI m1 v, cM2 cJ m2 v, cM3 cJ m3 v, cM4 cI m4 v, cM5 cI m5 v] H → va_D A [cM0 m0 m1 m2 m3 m4 m5 v, cM1 cI m1 v, cM2 cJ m2 v, cM3 cJ m3 v, cM4 cI m4 v, cM5 cI m5 v] → va_S A H0 H locs → lv_has ls 10 [(0, .ref m0), (1, .int nt)] → W p l e R s m args below meth c H locs cells slots Q (F0 m 50 ls [])) → ∀ (H : Heap) (locs : List Loc) (ls : Array Slot), va_P (dC, dI) vwCl [cM0 m0 m1 m2 m3 m4 m5 v, cM1 cI m1 v, cM2 cJ m2 v, cM3 cJ m3 v, cM4 cI m4 v, cM5 cI m5 v] H → va_D A [cM0 m0 m1 m2 m3 m4 m5 v, cM1 cI m1 v, cM2 cJ m2 v, cM3 cJ m3 v, cM4 cI m4 v, cM5 cI m5 v] → va_S A H0 H locs → lv_has ls 10 [(0, .ref m0), (1, .int nt), (2, .int (nI i))] → W p l e R s m args below meth c H locs cells slots Q (F0 m 36 ls []) := by
  have hiX4 : ∀ w ∈ u_ws RX4 TX4 17, w ∈ wsX4_plan := by decide +kernel
  intro n
  induction n with
  | zero =>
    intro i hi hz kk k2 H locs ls hP hD hS hl
    obtain rfl : i = N := by omega
    refine lv_iload_n hx hb dX4_plan_36 rfl (lv_at hl 2 rfl) ?_
    refine lv_iload_n hx hb dX4_plan_37 rfl (lv_at hl 1 rfl) ?_
    refine lv_icmp_ge (tgt := 59) hx hb dX4_plan_38 (by decide) (fun c_1 => ?_) (fun c_1 => absurd (by rw [hn]; exact nI_le (Nat.le_refl _) (by omega)) c_1)
    exact kk (fun j hj => hz j (by omega)) _ _ _ hP hD hS (lv_sub hl [0, 1, 2] rfl)
  | succ n ih =>
    intro i hi hz kk k2 H locs ls hP hD hS hl
    refine lv_iload_n hx hb dX4_plan_36 rfl (lv_at hl 2 rfl) ?_
    refine lv_iload_n hx hb dX4_plan_37 rfl (lv_at hl 1 rfl) ?_
    refine lv_icmp_ge (tgt := 59) hx hb dX4_plan_38 (by decide) (fun c_1 => absurd c_1 (by rw [hn]; exact nI_ge (by omega) (by omega))) (fun c_1 => ?_)
    refine lv_aload_n hx hb dX4_plan_41 rfl (lv_at hl 0 rfl) ?_
    refine va_get (D := (dC, dI)) (ci := 4) (v := .ref m1) (C := RX4) (T := TX4) (N := 17) hx hb hts hiX4 hown hK hP 0 rfl rfl 1 (by decide) (hts (.fieldLink RX4 7 "TripReckonerModel" "tape" "[I") (by decide +kernel)) (fun _ h9 => h9) rfl dX4_plan_42 ?_
    refine lv_iload_n hx hb dX4_plan_45 rfl (lv_at hl 2 rfl) ?_
    refine va_iald hx hb hK hP 1 0 rfl rfl (vp_in_nI (by omega) (by decide)) dX4_plan_46 ?_
    refine lv_topi (fun z_2 ez_2 => ?_)
    rw [(nI_clamp (n := i) (by omega))] at ez_2
    subst ez_2
    refine lv_if_ne (tgt := 53) hx hb dX4_plan_47 (by decide) (fun c_3 => ?_) (fun c_3 => ?_)
    · refine lv_iinc (v := nI (i + 1)) (lv' := [(2, .int (nI (i + 1))), (0, .ref m0), (1, .int nt)]) hx hb dX4_plan_53 hl (k := 2) rfl (nI_1 i) (by decide) rfl (fun ls hl => ?_)
      refine lv_goto (tgt := 36) hx hb dX4_plan_56 (by decide) ?_
      exact ih (i + 1) (by omega) (fun j hj => (Nat.lt_or_eq_of_le (Nat.le_of_lt_succ hj)).elim (hz j) (fun e9 => by rw [e9]; exact c_3)) kk k2 _ _ _ hP hD hS (lv_sub hl [1, 2, 0] rfl)
    · exact k2 i (by omega) c_3 _ _ _ hP hD hS (lv_sub hl [0, 1] rfl)

def in_step (L : Nat) (i : Nat) (x : Nat) (b : Nat) (v : MS) (be : Int32) : Int32 :=
  if 1000000000 ≤ (rX4_behind (nI (i + 1)) (nI (x + b)) (nI L) v) then
    be
  else
    if be ≤ ((rX4_behind (nI (i + 1)) (nI (x + b)) (nI L) v) + ((nI b) * (v.2.1 (2 * i + 1)))) then
      be
    else
      (rX4_behind (nI (i + 1)) (nI (x + b)) (nI L) v) + ((nI b) * (v.2.1 (2 * i + 1)))

def in_run (L i x : Nat) (v : MS) : Nat → Nat → Int32 → Int32
  | 0, _, be => be
  | n + 1, b, be => in_run L i x v n (b + 1) (in_step L i x b v be)
theorem in_run_s (L i x : Nat) (v : MS) (n b : Nat) (be : Int32) : in_run L i x v (n + 1) b be = in_run L i x v n (b + 1) (in_step L i x b v be) := rfl

set_option maxHeartbeats 4000000 in
set_option maxRecDepth 100000 in
theorem f_in {p : Program} {l : Launch} {e : Env} {s : State} {m : MethodId} {args : Array Value} {below : List Frame} {meth : Method} {c : Code} {Q : State → Prop} {H0 : Heap} {A : Nat → Prop} {dC : Nat → ClassId} {dI : Nat → Nat → Nat} {cI cJ : ClassId} (hx : p.tables.exec = Jvm.exec) (hb : c.code = cX4_plan) (hml : c.maxLocals = 10) (hown : s.vm.findClass RX4 = some m.cls) (hts : ∀ w ∈ wsX4_plan, w.before args s = true) (hA : ∀ q : Nat, H0.size ≤ q → A q) (hK : va_K (dC, dI) vwCl [(cI, .int), (cJ, .long)] s) {m0 m1 m2 m3 m4 m5 : Nat} {v : MS} {L mo i x : Nat} {hs : Int32} (hi : i < 12) (hmo : mo ≤ 120) (hxm : x ≤ mo) (hnd : ∀ j, j ≤ 12 → 0 ≤ rX4_need (nI j) v) : ∀ (n : Nat) (b : Nat) (be : Int32), (x + b + n = mo + 1) → (∀ (H : Heap) (locs : List Loc) (ls : Array Slot), va_P (dC, dI) vwCl [cM0 m0 m1 m2 m3 m4 m5 v, cM1 cI m1 v, cM2 cJ m2 v, cM3 cJ m3 v, cM4 cI m4 v, cM5 cI m5 v] H → va_D A [cM0 m0 m1 m2 m3 m4 m5 v, cM1 cI m1 v, cM2 cJ m2 v, cM3 cJ m3 v, cM4 cI m4 v, cM5 cI m5 v] → va_S A H0 H locs → lv_has ls 10 [(0, .ref m0), (2, .int (nI L)), (3, .int (nI mo)), (4, .int hs), (5, .int (nI i)), (6, .int (nI x)), (7, .int (in_run L i x v n b be))] → W p l e ({ frames := 3, cells := 0, slots := 0, locals := 100 } : Room) s m args below meth c H locs 0 0 Q (F0 m 192 ls [])) → ∀ (H : Heap) (locs : List Loc) (ls : Array Slot), va_P (dC, dI) vwCl [cM0 m0 m1 m2 m3 m4 m5 v, cM1 cI m1 v, cM2 cJ m2 v, cM3 cJ m3 v, cM4 cI m4 v, cM5 cI m5 v] H → va_D A [cM0 m0 m1 m2 m3 m4 m5 v, cM1 cI m1 v, cM2 cJ m2 v, cM3 cJ m3 v, cM4 cI m4 v, cM5 cI m5 v] → va_S A H0 H locs → lv_has ls 10 [(0, .ref m0), (2, .int (nI L)), (3, .int (nI mo)), (4, .int hs), (5, .int (nI i)), (6, .int (nI x)), (7, .int be), (8, .int (nI b))] → W p l e ({ frames := 3, cells := 0, slots := 0, locals := 100 } : Room) s m args below meth c H locs 0 0 Q (F0 m 113 ls []) := by
  have hiX4 : ∀ w ∈ u_ws RX4 TX4 17, w ∈ wsX4_plan := by decide +kernel
  intro n
  induction n with
  | zero =>
    intro b be hbn kk H locs ls hP hD hS hl
    refine lv_iload hx hb dX4_plan_113 (lv_at hl 5 rfl) ?_
    refine lv_iload hx hb dX4_plan_115 (lv_at hl 7 rfl) ?_
    refine lv_iadd hx hb dX4_plan_117 ?_
    refine lv_topi (fun z_1 ez_1 => ?_)
    obtain rfl : z_1 = nI (x + b) := ez_1.trans (nI_add x b)
    refine lv_iload_n hx hb dX4_plan_118 rfl (lv_at hl 2 rfl) ?_
    refine lv_icmp_gt (tgt := 192) hx hb dX4_plan_119 (by decide) (fun c_2 => ?_) (fun c_2 => absurd (nI_lt (a := mo) (b := x + b) (by omega) (by omega)) c_2)
    exact kk _ _ _ hP hD hS (lv_sub hl [0, 1, 2, 3, 4, 5, 6] rfl)
  | succ n ih =>
    intro b be hbn kk H locs ls hP hD hS hl
    refine lv_iload hx hb dX4_plan_113 (lv_at hl 5 rfl) ?_
    refine lv_iload hx hb dX4_plan_115 (lv_at hl 7 rfl) ?_
    refine lv_iadd hx hb dX4_plan_117 ?_
    refine lv_topi (fun z_1 ez_1 => ?_)
    obtain rfl : z_1 = nI (x + b) := ez_1.trans (nI_add x b)
    refine lv_iload_n hx hb dX4_plan_118 rfl (lv_at hl 2 rfl) ?_
    refine lv_icmp_gt (tgt := 192) hx hb dX4_plan_119 (by decide) (fun c_2 => absurd c_2 (nI_nlt (a := mo) (b := x + b) (by omega) (by omega))) (fun c_2 => ?_)
    refine lv_aload_n hx hb dX4_plan_122 rfl (lv_at hl 0 rfl) ?_
    refine lv_iload hx hb dX4_plan_123 (lv_at hl 4 rfl) ?_
    refine lv_iconst (v := 1) hx hb dX4_plan_125 (by decide) ?_
    refine lv_iadd hx hb dX4_plan_126 ?_
    refine lv_topi (fun z_3 ez_3 => ?_)
    obtain rfl : z_3 = nI (i + 1) := ez_3.trans (nI_1 i)
    refine lv_iload hx hb dX4_plan_127 (lv_at hl 5 rfl) ?_
    refine lv_iload hx hb dX4_plan_129 (lv_at hl 7 rfl) ?_
    refine lv_iadd hx hb dX4_plan_131 ?_
    refine lv_topi (fun z_4 ez_4 => ?_)
    obtain rfl : z_4 = nI (x + b) := ez_4.trans (nI_add x b)
    refine lv_iload_n hx hb dX4_plan_132 rfl (lv_at hl 1 rfl) ?_
    have hPc := hP.sub (ws' := [cM0 m0 m1 m2 m3 m4 m5 v, cM1 cI m1 v, cM2 cJ m2 v, cM3 cJ m3 v, cM4 cI m4 v, cM5 cI m5 v]) [0, 1, 2, 3, 4, 5] rfl
    have hDc := hD.sub (ws' := [cM0 m0 m1 m2 m3 m4 m5 v, cM1 cI m1 v, cM2 cJ m2 v, cM3 cJ m3 v, cM4 cI m4 v, cM5 cI m5 v]) [0, 1, 2, 3, 4, 5] (by decide) rfl
    have hFc := va_free (wc := [cM0 m0 m1 m2 m3 m4 m5 v, cM1 cI m1 v, cM2 cJ m2 v, cM3 cJ m3 v, cM4 cI m4 v, cM5 cI m5 v]) hD hS hA [0, 1, 2, 3, 4, 5] rfl
    refine va_calli (va_runV (As := [.int (nI (i + 1)), .int (nI (x + b)), .int (nI L)]) (rest := []) ⟨hx, hb, hml, hown, hts⟩ (kX4_behind l dC dI cI cJ m0 m1 m2 m3 m4 m5 H.size (nI (i + 1)) (nI (x + b)) (nI L) v (two_in (by omega) (by decide)) (bh_in (hnd (i + 1) (by omega)) (by omega) (by omega))) (cwV 3 hts gX4_plan_X4_behind rfl rfl rfl (by decide +kernel) ⟨Nat.le_of_ble_eq_true rfl, Nat.le_of_ble_eq_true rfl⟩) ⟨fun a U g mk q => by obtain ⟨q0, q1, qP, qK, qD⟩ := q; exact ⟨q0, q1, qP, va_K.moved (u := U) (U := U.calling g mk a) (Vm.Alike.refl U.vm) qK, qD⟩, va_recv hK hPc (ci := 4) (q0 := 0) rfl rfl, fun U hU hW => ⟨rfl, by rw [hU], by rw [hU]; exact hPc, va_K.moved hW.alike hK, hDc.weaken (fun _ _ _ _ => trivial)⟩⟩ rfl rfl hl.1 rfl (lv_room (Nat.le_of_ble_eq_true rfl)) dX4_plan_133 ⟨Nat.le_of_ble_eq_true rfl, Nat.le_of_ble_eq_true rfl⟩) hS (fun q _ h => hFc q h) hFc (fun r_5 _ t H1 locs ht hvm hw hB hz1 hk1 hS => ?_)
    obtain ⟨hP1, hK1, hD1⟩ := hB
    rw [ht] at hP1
    obtain ⟨hP, hD⟩ := va_join (wr := []) (w1 := [cM0 m0 m1 m2 m3 m4 m5 v, cM1 cI m1 v, cM2 cJ m2 v, cM3 cJ m3 v, cM4 cI m4 v, cM5 cI m5 v]) hP hD [0, 1, 2, 3, 4, 5] [] rfl rfl (by decide) (by decide) hk1 hFc hP1 hD1
    generalize H1 = H at hP hS ⊢
    have hP : va_P (dC, dI) vwCl [cM0 m0 m1 m2 m3 m4 m5 v, cM1 cI m1 v, cM2 cJ m2 v, cM3 cJ m3 v, cM4 cI m4 v, cM5 cI m5 v] H := hP
    have hD : va_D A [cM0 m0 m1 m2 m3 m4 m5 v, cM1 cI m1 v, cM2 cJ m2 v, cM3 cJ m3 v, cM4 cI m4 v, cM5 cI m5 v] := hD
    subst hw
    refine lv_istore (lv' := [(9, .int (rX4_behind (nI (i + 1)) (nI (x + b)) (nI L) v)), (0, .ref m0), (2, .int (nI L)), (3, .int (nI mo)), (4, .int hs), (5, .int (nI i)), (6, .int (nI x)), (7, .int be), (8, .int (nI b))]) hx hb dX4_plan_136 hl (by decide) rfl (fun ls hl => ?_)
    refine lv_iload hx hb dX4_plan_138 (lv_at hl 0 rfl) ?_
    refine lv_ldc hx hb hown (hts (.constant RX4 141 (1000000000)) (by decide +kernel)) dX4_plan_140 ?_
    refine lv_icmp_ge (tgt := 186) hx hb dX4_plan_142 (by decide) (fun c_6 => ?_) (fun c_6 => ?_)
    · refine lv_iinc (v := nI (b + 1)) (lv' := [(8, .int (nI (b + 1))), (9, .int (rX4_behind (nI (i + 1)) (nI (x + b)) (nI L) v)), (0, .ref m0), (2, .int (nI L)), (3, .int (nI mo)), (4, .int hs), (5, .int (nI i)), (6, .int (nI x)), (7, .int be)]) hx hb dX4_plan_186 hl (k := 8) rfl (nI_1 b) (by decide) rfl (fun ls hl => ?_)
      refine lv_goto (tgt := 113) hx hb dX4_plan_189 (by decide) ?_
      have es : in_step L i x b v be = be := by rw [in_step, if_pos c_6]
      exact ih (b + 1) be (by omega) (by have k9 := kk; rw [in_run_s, es] at k9; exact k9) _ _ _ hP hD hS (lv_sub hl [2, 3, 4, 5, 6, 7, 8, 0] rfl)
    · refine lv_iload hx hb dX4_plan_145 (lv_at hl 0 rfl) ?_
      refine lv_iload hx hb dX4_plan_147 (lv_at hl 8 rfl) ?_
      refine lv_aload_n hx hb dX4_plan_149 rfl (lv_at hl 1 rfl) ?_
      refine va_get (D := (dC, dI)) (ci := 4) (v := .ref m1) (C := RX4) (T := TX4) (N := 17) hx hb hts hiX4 hown hK hP 0 rfl rfl 1 (by decide) (hts (.fieldLink RX4 7 "TripReckonerModel" "tape" "[I") (by decide +kernel)) (fun _ h9 => h9) rfl dX4_plan_150 ?_
      refine lv_iconst (v := 2) hx hb dX4_plan_153 (by decide) ?_
      refine lv_iload hx hb dX4_plan_154 (lv_at hl 5 rfl) ?_
      refine lv_imul hx hb dX4_plan_156 ?_
      refine lv_iconst (v := 1) hx hb dX4_plan_157 (by decide) ?_
      refine lv_iadd hx hb dX4_plan_158 ?_
      refine va_iald hx hb hK hP 1 0 rfl rfl (two1_in (by omega) (by decide)) dX4_plan_159 ?_
      refine lv_topi (fun z_7 ez_7 => ?_)
      rw [(two1_cl (by omega))] at ez_7
      subst ez_7
      refine lv_imul hx hb dX4_plan_160 ?_
      refine lv_iadd hx hb dX4_plan_161 ?_
      refine lv_iload hx hb dX4_plan_162 (lv_at hl 7 rfl) ?_
      refine lv_icmp_ge (tgt := 186) hx hb dX4_plan_164 (by decide) (fun c_8 => ?_) (fun c_8 => ?_)
      · refine lv_iinc (v := nI (b + 1)) (lv' := [(8, .int (nI (b + 1))), (9, .int (rX4_behind (nI (i + 1)) (nI (x + b)) (nI L) v)), (0, .ref m0), (2, .int (nI L)), (3, .int (nI mo)), (4, .int hs), (5, .int (nI i)), (6, .int (nI x)), (7, .int be)]) hx hb dX4_plan_186 hl (k := 8) rfl (nI_1 b) (by decide) rfl (fun ls hl => ?_)
        refine lv_goto (tgt := 113) hx hb dX4_plan_189 (by decide) ?_
        have es : in_step L i x b v be = be := by rw [in_step, if_neg c_6, if_pos c_8]
        exact ih (b + 1) be (by omega) (by have k9 := kk; rw [in_run_s, es] at k9; exact k9) _ _ _ hP hD hS (lv_sub hl [2, 3, 4, 5, 6, 7, 8, 0] rfl)
      · refine lv_iload hx hb dX4_plan_167 (lv_at hl 0 rfl) ?_
        refine lv_iload hx hb dX4_plan_169 (lv_at hl 8 rfl) ?_
        refine lv_aload_n hx hb dX4_plan_171 rfl (lv_at hl 1 rfl) ?_
        refine va_get (D := (dC, dI)) (ci := 4) (v := .ref m1) (C := RX4) (T := TX4) (N := 17) hx hb hts hiX4 hown hK hP 0 rfl rfl 1 (by decide) (hts (.fieldLink RX4 7 "TripReckonerModel" "tape" "[I") (by decide +kernel)) (fun _ h9 => h9) rfl dX4_plan_172 ?_
        refine lv_iconst (v := 2) hx hb dX4_plan_175 (by decide) ?_
        refine lv_iload hx hb dX4_plan_176 (lv_at hl 5 rfl) ?_
        refine lv_imul hx hb dX4_plan_178 ?_
        refine lv_iconst (v := 1) hx hb dX4_plan_179 (by decide) ?_
        refine lv_iadd hx hb dX4_plan_180 ?_
        refine va_iald hx hb hK hP 1 0 rfl rfl (two1_in (by omega) (by decide)) dX4_plan_181 ?_
        refine lv_topi (fun z_9 ez_9 => ?_)
        rw [(two1_cl (by omega))] at ez_9
        subst ez_9
        refine lv_imul hx hb dX4_plan_182 ?_
        refine lv_iadd hx hb dX4_plan_183 ?_
        refine lv_istore (lv' := [(7, .int ((rX4_behind (nI (i + 1)) (nI (x + b)) (nI L) v) + ((nI b) * (v.2.1 (2 * i + 1))))), (9, .int (rX4_behind (nI (i + 1)) (nI (x + b)) (nI L) v)), (0, .ref m0), (2, .int (nI L)), (3, .int (nI mo)), (4, .int hs), (5, .int (nI i)), (6, .int (nI x)), (8, .int (nI b))]) hx hb dX4_plan_184 hl (by decide) rfl (fun ls hl => ?_)
        refine lv_iinc (v := nI (b + 1)) (lv' := [(8, .int (nI (b + 1))), (7, .int ((rX4_behind (nI (i + 1)) (nI (x + b)) (nI L) v) + ((nI b) * (v.2.1 (2 * i + 1))))), (9, .int (rX4_behind (nI (i + 1)) (nI (x + b)) (nI L) v)), (0, .ref m0), (2, .int (nI L)), (3, .int (nI mo)), (4, .int hs), (5, .int (nI i)), (6, .int (nI x))]) hx hb dX4_plan_186 hl (k := 8) rfl (nI_1 b) (by decide) rfl (fun ls hl => ?_)
        refine lv_goto (tgt := 113) hx hb dX4_plan_189 (by decide) ?_
        have es : in_step L i x b v be = (rX4_behind (nI (i + 1)) (nI (x + b)) (nI L) v) + ((nI b) * (v.2.1 (2 * i + 1))) := by rw [in_step, if_neg c_6, if_neg c_8]
        exact ih (b + 1) ((rX4_behind (nI (i + 1)) (nI (x + b)) (nI L) v) + ((nI b) * (v.2.1 (2 * i + 1)))) (by omega) (by have k9 := kk; rw [in_run_s, es] at k9; exact k9) _ _ _ hP hD hS (lv_sub hl [3, 4, 5, 6, 7, 8, 1, 0] rfl)

def mid_run (L i mo : Nat) (v : MS) : Nat → Nat → (Nat → Int32) → (Nat → Int32)
  | 0, _, co => co
  | n + 1, x, co => mid_run L i mo v n (x + 1) (upd co (121 * i + x) (in_run L i x (wc v co) (mo + 1 - x) 0 1000000000))
theorem mid_run_s (L i mo : Nat) (v : MS) (n x : Nat) (co : Nat → Int32) : mid_run L i mo v (n + 1) x co = mid_run L i mo v n (x + 1) (upd co (121 * i + x) (in_run L i x (wc v co) (mo + 1 - x) 0 1000000000)) := rfl

set_option maxHeartbeats 4000000 in
set_option maxRecDepth 100000 in
theorem f_mid {p : Program} {l : Launch} {e : Env} {s : State} {m : MethodId} {args : Array Value} {below : List Frame} {meth : Method} {c : Code} {Q : State → Prop} {H0 : Heap} {A : Nat → Prop} {dC : Nat → ClassId} {dI : Nat → Nat → Nat} {cI cJ : ClassId} (hx : p.tables.exec = Jvm.exec) (hb : c.code = cX4_plan) (hml : c.maxLocals = 10) (hown : s.vm.findClass RX4 = some m.cls) (hts : ∀ w ∈ wsX4_plan, w.before args s = true) (hA : ∀ q : Nat, H0.size ≤ q → A q) (hK : va_K (dC, dI) vwCl [(cI, .int), (cJ, .long)] s) {m0 m1 m2 m3 m4 m5 : Nat} {v : MS} {L mo i : Nat} {hs : Int32} (hi : i < 12) (hmo : mo ≤ 120) (hnd : ∀ j, j ≤ 12 → 0 ≤ rX4_need (nI j) v) : ∀ (n : Nat) (x : Nat) (co : Nat → Int32), (x + n = mo + 1) → (∀ (H : Heap) (locs : List Loc) (ls : Array Slot), va_P (dC, dI) vwCl [(m0, .inr (4, [.int v.1, .ref m1, .int v.2.2.1, .ref m2, .ref m3, .int v.2.2.2.2.2.1, .int v.2.2.2.2.2.2.1, .int v.2.2.2.2.2.2.2.1, .int v.2.2.2.2.2.2.2.2.1, .int v.2.2.2.2.2.2.2.2.2.1, .int v.2.2.2.2.2.2.2.2.2.2.1, .int v.2.2.2.2.2.2.2.2.2.2.2.1, .long v.2.2.2.2.2.2.2.2.2.2.2.2.1, .int v.2.2.2.2.2.2.2.2.2.2.2.2.2.1, .ref m4, .ref m5, .int v.2.2.2.2.2.2.2.2.2.2.2.2.2.2.2.2])), (m1, .inl (cI, 60, .inl v.2.1)), (m2, .inl (cJ, 92, .inr (.inl v.2.2.2.1))), (m3, .inl (cJ, 92, .inr (.inl v.2.2.2.2.1))), (m4, .inl (cI, 1573, .inl (mid_run L i mo v n x co))), (m5, .inl (cI, 12, .inl v.2.2.2.2.2.2.2.2.2.2.2.2.2.2.2.1))] H → va_D A [(m0, .inr (4, [.int v.1, .ref m1, .int v.2.2.1, .ref m2, .ref m3, .int v.2.2.2.2.2.1, .int v.2.2.2.2.2.2.1, .int v.2.2.2.2.2.2.2.1, .int v.2.2.2.2.2.2.2.2.1, .int v.2.2.2.2.2.2.2.2.2.1, .int v.2.2.2.2.2.2.2.2.2.2.1, .int v.2.2.2.2.2.2.2.2.2.2.2.1, .long v.2.2.2.2.2.2.2.2.2.2.2.2.1, .int v.2.2.2.2.2.2.2.2.2.2.2.2.2.1, .ref m4, .ref m5, .int v.2.2.2.2.2.2.2.2.2.2.2.2.2.2.2.2])), (m1, .inl (cI, 60, .inl v.2.1)), (m2, .inl (cJ, 92, .inr (.inl v.2.2.2.1))), (m3, .inl (cJ, 92, .inr (.inl v.2.2.2.2.1))), (m4, .inl (cI, 1573, .inl (mid_run L i mo v n x co))), (m5, .inl (cI, 12, .inl v.2.2.2.2.2.2.2.2.2.2.2.2.2.2.2.1))] → va_S A H0 H locs → lv_has ls 10 [(0, .ref m0), (2, .int (nI L)), (3, .int (nI mo)), (4, .int hs), (5, .int (nI i))] → W p l e ({ frames := 3, cells := 0, slots := 0, locals := 100 } : Room) s m args below meth c H locs 0 0 Q (F0 m 213 ls [])) → ∀ (H : Heap) (locs : List Loc) (ls : Array Slot), va_P (dC, dI) vwCl [(m0, .inr (4, [.int v.1, .ref m1, .int v.2.2.1, .ref m2, .ref m3, .int v.2.2.2.2.2.1, .int v.2.2.2.2.2.2.1, .int v.2.2.2.2.2.2.2.1, .int v.2.2.2.2.2.2.2.2.1, .int v.2.2.2.2.2.2.2.2.2.1, .int v.2.2.2.2.2.2.2.2.2.2.1, .int v.2.2.2.2.2.2.2.2.2.2.2.1, .long v.2.2.2.2.2.2.2.2.2.2.2.2.1, .int v.2.2.2.2.2.2.2.2.2.2.2.2.2.1, .ref m4, .ref m5, .int v.2.2.2.2.2.2.2.2.2.2.2.2.2.2.2.2])), (m1, .inl (cI, 60, .inl v.2.1)), (m2, .inl (cJ, 92, .inr (.inl v.2.2.2.1))), (m3, .inl (cJ, 92, .inr (.inl v.2.2.2.2.1))), (m4, .inl (cI, 1573, .inl co)), (m5, .inl (cI, 12, .inl v.2.2.2.2.2.2.2.2.2.2.2.2.2.2.2.1))] H → va_D A [(m0, .inr (4, [.int v.1, .ref m1, .int v.2.2.1, .ref m2, .ref m3, .int v.2.2.2.2.2.1, .int v.2.2.2.2.2.2.1, .int v.2.2.2.2.2.2.2.1, .int v.2.2.2.2.2.2.2.2.1, .int v.2.2.2.2.2.2.2.2.2.1, .int v.2.2.2.2.2.2.2.2.2.2.1, .int v.2.2.2.2.2.2.2.2.2.2.2.1, .long v.2.2.2.2.2.2.2.2.2.2.2.2.1, .int v.2.2.2.2.2.2.2.2.2.2.2.2.2.1, .ref m4, .ref m5, .int v.2.2.2.2.2.2.2.2.2.2.2.2.2.2.2.2])), (m1, .inl (cI, 60, .inl v.2.1)), (m2, .inl (cJ, 92, .inr (.inl v.2.2.2.1))), (m3, .inl (cJ, 92, .inr (.inl v.2.2.2.2.1))), (m4, .inl (cI, 1573, .inl co)), (m5, .inl (cI, 12, .inl v.2.2.2.2.2.2.2.2.2.2.2.2.2.2.2.1))] → va_S A H0 H locs → lv_has ls 10 [(0, .ref m0), (2, .int (nI L)), (3, .int (nI mo)), (4, .int hs), (5, .int (nI i)), (6, .int (nI x))] → W p l e ({ frames := 3, cells := 0, slots := 0, locals := 100 } : Room) s m args below meth c H locs 0 0 Q (F0 m 100 ls []) := by
  have hiX4 : ∀ w ∈ u_ws RX4 TX4 17, w ∈ wsX4_plan := by decide +kernel
  intro n
  induction n with
  | zero =>
    intro x co hxn kk H locs ls hP hD hS hl
    refine lv_iload hx hb dX4_plan_100 (lv_at hl 5 rfl) ?_
    refine lv_iload_n hx hb dX4_plan_102 rfl (lv_at hl 2 rfl) ?_
    refine lv_icmp_gt (tgt := 213) hx hb dX4_plan_103 (by decide) (fun c_1 => ?_) (fun c_1 => absurd (nI_lt (a := mo) (b := x) (by omega) (by omega)) c_1)
    exact kk _ _ _ hP hD hS (lv_sub hl [0, 1, 2, 3, 4] rfl)
  | succ n ih =>
    intro x co hxn kk H locs ls hP hD hS hl
    refine lv_iload hx hb dX4_plan_100 (lv_at hl 5 rfl) ?_
    refine lv_iload_n hx hb dX4_plan_102 rfl (lv_at hl 2 rfl) ?_
    refine lv_icmp_gt (tgt := 213) hx hb dX4_plan_103 (by decide) (fun c_1 => absurd c_1 (nI_nlt (a := mo) (b := x) (by omega) (by omega))) (fun c_1 => ?_)
    refine lv_ldc hx hb hown (hts (.constant RX4 141 (1000000000)) (by decide +kernel)) dX4_plan_106 ?_
    refine lv_istore (lv' := [(7, .int 1000000000), (0, .ref m0), (2, .int (nI L)), (3, .int (nI mo)), (4, .int hs), (5, .int (nI i)), (6, .int (nI x))]) hx hb dX4_plan_108 hl (by decide) rfl (fun ls hl => ?_)
    refine lv_iconst (v := 0) hx hb dX4_plan_110 (by decide) ?_
    refine lv_istore (lv' := [(8, .int 0), (7, .int 1000000000), (0, .ref m0), (2, .int (nI L)), (3, .int (nI mo)), (4, .int hs), (5, .int (nI i)), (6, .int (nI x))]) hx hb dX4_plan_111 hl (by decide) rfl (fun ls hl => ?_)
    have hP : va_P (dC, dI) vwCl [cM0 m0 m1 m2 m3 m4 m5 (wc v co), cM1 cI m1 (wc v co), cM2 cJ m2 (wc v co), cM3 cJ m3 (wc v co), cM4 cI m4 (wc v co), cM5 cI m5 (wc v co)] H := hP
    have hD : va_D A [cM0 m0 m1 m2 m3 m4 m5 (wc v co), cM1 cI m1 (wc v co), cM2 cJ m2 (wc v co), cM3 cJ m3 (wc v co), cM4 cI m4 (wc v co), cM5 cI m5 (wc v co)] := hD
    refine f_in (v := wc v co) hx hb hml hown hts hA hK hi hmo (by omega) (fun j hj => hnd j hj) (mo + 1 - x) 0 1000000000 (by omega) (fun H locs ls hP hD hS hl => ?_) _ _ _ hP hD hS (lv_sub hl [2, 3, 4, 5, 6, 7, 1, 0] rfl)
    have hP : va_P (dC, dI) vwCl [(m0, .inr (4, [.int v.1, .ref m1, .int v.2.2.1, .ref m2, .ref m3, .int v.2.2.2.2.2.1, .int v.2.2.2.2.2.2.1, .int v.2.2.2.2.2.2.2.1, .int v.2.2.2.2.2.2.2.2.1, .int v.2.2.2.2.2.2.2.2.2.1, .int v.2.2.2.2.2.2.2.2.2.2.1, .int v.2.2.2.2.2.2.2.2.2.2.2.1, .long v.2.2.2.2.2.2.2.2.2.2.2.2.1, .int v.2.2.2.2.2.2.2.2.2.2.2.2.2.1, .ref m4, .ref m5, .int v.2.2.2.2.2.2.2.2.2.2.2.2.2.2.2.2])), (m1, .inl (cI, 60, .inl v.2.1)), (m2, .inl (cJ, 92, .inr (.inl v.2.2.2.1))), (m3, .inl (cJ, 92, .inr (.inl v.2.2.2.2.1))), (m4, .inl (cI, 1573, .inl co)), (m5, .inl (cI, 12, .inl v.2.2.2.2.2.2.2.2.2.2.2.2.2.2.2.1))] H := hP
    have hD : va_D A [(m0, .inr (4, [.int v.1, .ref m1, .int v.2.2.1, .ref m2, .ref m3, .int v.2.2.2.2.2.1, .int v.2.2.2.2.2.2.1, .int v.2.2.2.2.2.2.2.1, .int v.2.2.2.2.2.2.2.2.1, .int v.2.2.2.2.2.2.2.2.2.1, .int v.2.2.2.2.2.2.2.2.2.2.1, .int v.2.2.2.2.2.2.2.2.2.2.2.1, .long v.2.2.2.2.2.2.2.2.2.2.2.2.1, .int v.2.2.2.2.2.2.2.2.2.2.2.2.2.1, .ref m4, .ref m5, .int v.2.2.2.2.2.2.2.2.2.2.2.2.2.2.2.2])), (m1, .inl (cI, 60, .inl v.2.1)), (m2, .inl (cJ, 92, .inr (.inl v.2.2.2.1))), (m3, .inl (cJ, 92, .inr (.inl v.2.2.2.2.1))), (m4, .inl (cI, 1573, .inl co)), (m5, .inl (cI, 12, .inl v.2.2.2.2.2.2.2.2.2.2.2.2.2.2.2.1))] := hD
    refine lv_aload_n hx hb dX4_plan_192 rfl (lv_at hl 0 rfl) ?_
    refine va_get (D := (dC, dI)) (ci := 4) (v := .ref m4) (C := RX4) (T := TX4) (N := 17) hx hb hts hiX4 hown hK hP 0 rfl rfl 14 (by decide) (hts (.fieldLink RX4 43 "TripReckonerModel" "cost" "[I") (by decide +kernel)) (fun _ h9 => h9) rfl dX4_plan_193 ?_
    refine lv_bipush (v := 121) hx hb dX4_plan_196 (by decide) ?_
    refine lv_iload hx hb dX4_plan_198 (lv_at hl 4 rfl) ?_
    refine lv_imul hx hb dX4_plan_200 ?_
    refine lv_iload hx hb dX4_plan_201 (lv_at hl 5 rfl) ?_
    refine lv_iadd hx hb dX4_plan_203 ?_
    refine lv_iload hx hb dX4_plan_204 (lv_at hl 6 rfl) ?_
    refine va_iast hx hb hK hP hD hS 4 0 rfl rfl (c121_in (by omega) (by decide)) dX4_plan_206 (fun H locs hP hD hS => ?_)
    rw [(c121_cl (by omega))] at hP hD
    have hP : va_P (dC, dI) vwCl [(m0, .inr (4, [.int v.1, .ref m1, .int v.2.2.1, .ref m2, .ref m3, .int v.2.2.2.2.2.1, .int v.2.2.2.2.2.2.1, .int v.2.2.2.2.2.2.2.1, .int v.2.2.2.2.2.2.2.2.1, .int v.2.2.2.2.2.2.2.2.2.1, .int v.2.2.2.2.2.2.2.2.2.2.1, .int v.2.2.2.2.2.2.2.2.2.2.2.1, .long v.2.2.2.2.2.2.2.2.2.2.2.2.1, .int v.2.2.2.2.2.2.2.2.2.2.2.2.2.1, .ref m4, .ref m5, .int v.2.2.2.2.2.2.2.2.2.2.2.2.2.2.2.2])), (m1, .inl (cI, 60, .inl v.2.1)), (m2, .inl (cJ, 92, .inr (.inl v.2.2.2.1))), (m3, .inl (cJ, 92, .inr (.inl v.2.2.2.2.1))), (m4, .inl (cI, 1573, .inl (upd co (121 * i + x) (in_run L i x (wc v co) (mo + 1 - x) 0 1000000000)))), (m5, .inl (cI, 12, .inl v.2.2.2.2.2.2.2.2.2.2.2.2.2.2.2.1))] H := hP
    have hD : va_D A [(m0, .inr (4, [.int v.1, .ref m1, .int v.2.2.1, .ref m2, .ref m3, .int v.2.2.2.2.2.1, .int v.2.2.2.2.2.2.1, .int v.2.2.2.2.2.2.2.1, .int v.2.2.2.2.2.2.2.2.1, .int v.2.2.2.2.2.2.2.2.2.1, .int v.2.2.2.2.2.2.2.2.2.2.1, .int v.2.2.2.2.2.2.2.2.2.2.2.1, .long v.2.2.2.2.2.2.2.2.2.2.2.2.1, .int v.2.2.2.2.2.2.2.2.2.2.2.2.2.1, .ref m4, .ref m5, .int v.2.2.2.2.2.2.2.2.2.2.2.2.2.2.2.2])), (m1, .inl (cI, 60, .inl v.2.1)), (m2, .inl (cJ, 92, .inr (.inl v.2.2.2.1))), (m3, .inl (cJ, 92, .inr (.inl v.2.2.2.2.1))), (m4, .inl (cI, 1573, .inl (upd co (121 * i + x) (in_run L i x (wc v co) (mo + 1 - x) 0 1000000000)))), (m5, .inl (cI, 12, .inl v.2.2.2.2.2.2.2.2.2.2.2.2.2.2.2.1))] := hD
    refine lv_iinc (v := nI (x + 1)) (lv' := [(6, .int (nI (x + 1))), (0, .ref m0), (2, .int (nI L)), (3, .int (nI mo)), (4, .int hs), (5, .int (nI i)), (7, .int (in_run L i x (wc v co) (mo + 1 - x) 0 1000000000))]) hx hb dX4_plan_207 hl (k := 5) rfl (nI_1 x) (by decide) rfl (fun ls hl => ?_)
    refine lv_goto (tgt := 100) hx hb dX4_plan_210 (by decide) ?_
    have hP : va_P (dC, dI) vwCl [(m0, .inr (4, [.int v.1, .ref m1, .int v.2.2.1, .ref m2, .ref m3, .int v.2.2.2.2.2.1, .int v.2.2.2.2.2.2.1, .int v.2.2.2.2.2.2.2.1, .int v.2.2.2.2.2.2.2.2.1, .int v.2.2.2.2.2.2.2.2.2.1, .int v.2.2.2.2.2.2.2.2.2.2.1, .int v.2.2.2.2.2.2.2.2.2.2.2.1, .long v.2.2.2.2.2.2.2.2.2.2.2.2.1, .int v.2.2.2.2.2.2.2.2.2.2.2.2.2.1, .ref m4, .ref m5, .int v.2.2.2.2.2.2.2.2.2.2.2.2.2.2.2.2])), (m1, .inl (cI, 60, .inl v.2.1)), (m2, .inl (cJ, 92, .inr (.inl v.2.2.2.1))), (m3, .inl (cJ, 92, .inr (.inl v.2.2.2.2.1))), (m4, .inl (cI, 1573, .inl (upd co (121 * i + x) (in_run L i x (wc v co) (mo + 1 - x) 0 1000000000)))), (m5, .inl (cI, 12, .inl v.2.2.2.2.2.2.2.2.2.2.2.2.2.2.2.1))] H := hP
    have hD : va_D A [(m0, .inr (4, [.int v.1, .ref m1, .int v.2.2.1, .ref m2, .ref m3, .int v.2.2.2.2.2.1, .int v.2.2.2.2.2.2.1, .int v.2.2.2.2.2.2.2.1, .int v.2.2.2.2.2.2.2.2.1, .int v.2.2.2.2.2.2.2.2.2.1, .int v.2.2.2.2.2.2.2.2.2.2.1, .int v.2.2.2.2.2.2.2.2.2.2.2.1, .long v.2.2.2.2.2.2.2.2.2.2.2.2.1, .int v.2.2.2.2.2.2.2.2.2.2.2.2.2.1, .ref m4, .ref m5, .int v.2.2.2.2.2.2.2.2.2.2.2.2.2.2.2.2])), (m1, .inl (cI, 60, .inl v.2.1)), (m2, .inl (cJ, 92, .inr (.inl v.2.2.2.1))), (m3, .inl (cJ, 92, .inr (.inl v.2.2.2.2.1))), (m4, .inl (cI, 1573, .inl (upd co (121 * i + x) (in_run L i x (wc v co) (mo + 1 - x) 0 1000000000)))), (m5, .inl (cI, 12, .inl v.2.2.2.2.2.2.2.2.2.2.2.2.2.2.2.1))] := hD
    exact ih (x + 1) (upd co (121 * i + x) (in_run L i x (wc v co) (mo + 1 - x) 0 1000000000)) (by omega) (by have k9 := kk; rw [mid_run_s] at k9; exact k9) _ _ _ hP hD hS (lv_sub hl [1, 2, 3, 4, 5, 0] rfl)

def out_run (L mo : Nat) (v : MS) : Nat → (Nat → Int32) → (Nat → Int32)
  | 0, co => co
  | n + 1, co => out_run L mo v n (mid_run L n mo v (mo + 1) 0 co)
theorem out_run_s (L mo : Nat) (v : MS) (n : Nat) (co : Nat → Int32) : out_run L mo v (n + 1) co = out_run L mo v n (mid_run L n mo v (mo + 1) 0 co) := rfl

set_option maxHeartbeats 4000000 in
set_option maxRecDepth 100000 in
theorem f_out {p : Program} {l : Launch} {e : Env} {s : State} {m : MethodId} {args : Array Value} {below : List Frame} {meth : Method} {c : Code} {Q : State → Prop} {H0 : Heap} {A : Nat → Prop} {dC : Nat → ClassId} {dI : Nat → Nat → Nat} {cI cJ : ClassId} (hx : p.tables.exec = Jvm.exec) (hb : c.code = cX4_plan) (hml : c.maxLocals = 10) (hown : s.vm.findClass RX4 = some m.cls) (hts : ∀ w ∈ wsX4_plan, w.before args s = true) (hA : ∀ q : Nat, H0.size ≤ q → A q) (hK : va_K (dC, dI) vwCl [(cI, .int), (cJ, .long)] s) {m0 m1 m2 m3 m4 m5 : Nat} {v : MS} {L mo : Nat} {hs : Int32} (hmo : mo ≤ 120) (hnd : ∀ j, j ≤ 12 → 0 ≤ rX4_need (nI j) v) : ∀ (n : Nat) (co : Nat → Int32), (n ≤ 12) → (∀ (H : Heap) (locs : List Loc) (ls : Array Slot), va_P (dC, dI) vwCl [(m0, .inr (4, [.int v.1, .ref m1, .int v.2.2.1, .ref m2, .ref m3, .int v.2.2.2.2.2.1, .int v.2.2.2.2.2.2.1, .int v.2.2.2.2.2.2.2.1, .int v.2.2.2.2.2.2.2.2.1, .int v.2.2.2.2.2.2.2.2.2.1, .int v.2.2.2.2.2.2.2.2.2.2.1, .int v.2.2.2.2.2.2.2.2.2.2.2.1, .long v.2.2.2.2.2.2.2.2.2.2.2.2.1, .int v.2.2.2.2.2.2.2.2.2.2.2.2.2.1, .ref m4, .ref m5, .int v.2.2.2.2.2.2.2.2.2.2.2.2.2.2.2.2])), (m1, .inl (cI, 60, .inl v.2.1)), (m2, .inl (cJ, 92, .inr (.inl v.2.2.2.1))), (m3, .inl (cJ, 92, .inr (.inl v.2.2.2.2.1))), (m4, .inl (cI, 1573, .inl (out_run L mo v n co))), (m5, .inl (cI, 12, .inl v.2.2.2.2.2.2.2.2.2.2.2.2.2.2.2.1))] H → va_D A [(m0, .inr (4, [.int v.1, .ref m1, .int v.2.2.1, .ref m2, .ref m3, .int v.2.2.2.2.2.1, .int v.2.2.2.2.2.2.1, .int v.2.2.2.2.2.2.2.1, .int v.2.2.2.2.2.2.2.2.1, .int v.2.2.2.2.2.2.2.2.2.1, .int v.2.2.2.2.2.2.2.2.2.2.1, .int v.2.2.2.2.2.2.2.2.2.2.2.1, .long v.2.2.2.2.2.2.2.2.2.2.2.2.1, .int v.2.2.2.2.2.2.2.2.2.2.2.2.2.1, .ref m4, .ref m5, .int v.2.2.2.2.2.2.2.2.2.2.2.2.2.2.2.2])), (m1, .inl (cI, 60, .inl v.2.1)), (m2, .inl (cJ, 92, .inr (.inl v.2.2.2.1))), (m3, .inl (cJ, 92, .inr (.inl v.2.2.2.2.1))), (m4, .inl (cI, 1573, .inl (out_run L mo v n co))), (m5, .inl (cI, 12, .inl v.2.2.2.2.2.2.2.2.2.2.2.2.2.2.2.1))] → va_S A H0 H locs → lv_has ls 10 [(0, .ref m0), (2, .int (nI L)), (3, .int (nI mo)), (4, .int hs)] → W p l e ({ frames := 3, cells := 0, slots := 0, locals := 100 } : Room) s m args below meth c H locs 0 0 Q (F0 m 219 ls [])) → ∀ (H : Heap) (locs : List Loc) (ls : Array Slot), va_P (dC, dI) vwCl [(m0, .inr (4, [.int v.1, .ref m1, .int v.2.2.1, .ref m2, .ref m3, .int v.2.2.2.2.2.1, .int v.2.2.2.2.2.2.1, .int v.2.2.2.2.2.2.2.1, .int v.2.2.2.2.2.2.2.2.1, .int v.2.2.2.2.2.2.2.2.2.1, .int v.2.2.2.2.2.2.2.2.2.2.1, .int v.2.2.2.2.2.2.2.2.2.2.2.1, .long v.2.2.2.2.2.2.2.2.2.2.2.2.1, .int v.2.2.2.2.2.2.2.2.2.2.2.2.2.1, .ref m4, .ref m5, .int v.2.2.2.2.2.2.2.2.2.2.2.2.2.2.2.2])), (m1, .inl (cI, 60, .inl v.2.1)), (m2, .inl (cJ, 92, .inr (.inl v.2.2.2.1))), (m3, .inl (cJ, 92, .inr (.inl v.2.2.2.2.1))), (m4, .inl (cI, 1573, .inl co)), (m5, .inl (cI, 12, .inl v.2.2.2.2.2.2.2.2.2.2.2.2.2.2.2.1))] H → va_D A [(m0, .inr (4, [.int v.1, .ref m1, .int v.2.2.1, .ref m2, .ref m3, .int v.2.2.2.2.2.1, .int v.2.2.2.2.2.2.1, .int v.2.2.2.2.2.2.2.1, .int v.2.2.2.2.2.2.2.2.1, .int v.2.2.2.2.2.2.2.2.2.1, .int v.2.2.2.2.2.2.2.2.2.2.1, .int v.2.2.2.2.2.2.2.2.2.2.2.1, .long v.2.2.2.2.2.2.2.2.2.2.2.2.1, .int v.2.2.2.2.2.2.2.2.2.2.2.2.2.1, .ref m4, .ref m5, .int v.2.2.2.2.2.2.2.2.2.2.2.2.2.2.2.2])), (m1, .inl (cI, 60, .inl v.2.1)), (m2, .inl (cJ, 92, .inr (.inl v.2.2.2.1))), (m3, .inl (cJ, 92, .inr (.inl v.2.2.2.2.1))), (m4, .inl (cI, 1573, .inl co)), (m5, .inl (cI, 12, .inl v.2.2.2.2.2.2.2.2.2.2.2.2.2.2.2.1))] → va_S A H0 H locs → lv_has ls 10 [(0, .ref m0), (2, .int (nI L)), (3, .int (nI mo)), (4, .int hs), (5, .int (nM n))] → W p l e ({ frames := 3, cells := 0, slots := 0, locals := 100 } : Room) s m args below meth c H locs 0 0 Q (F0 m 92 ls []) := by
  intro n
  induction n with
  | zero =>
    intro co hn kk H locs ls hP hD hS hl
    rw [nM_0] at hl
    refine lv_iload hx hb dX4_plan_92 (lv_at hl 4 rfl) ?_
    refine lv_if_lt (tgt := 219) hx hb dX4_plan_94 (by decide) (fun c_1 => ?_) (fun c_1 => absurd (by decide) c_1)
    exact kk _ _ _ hP hD hS (lv_sub hl [0, 1, 2, 3] rfl)
  | succ n ih =>
    intro co hn kk H locs ls hP hD hS hl
    rw [nM_s] at hl
    refine lv_iload hx hb dX4_plan_92 (lv_at hl 4 rfl) ?_
    refine lv_if_lt (tgt := 219) hx hb dX4_plan_94 (by decide) (fun c_1 => absurd c_1 (nI_pos (n := n) (by omega))) (fun c_1 => ?_)
    refine lv_iconst (v := 0) hx hb dX4_plan_97 (by decide) ?_
    refine lv_istore (lv' := [(6, .int 0), (0, .ref m0), (2, .int (nI L)), (3, .int (nI mo)), (4, .int hs), (5, .int (nI n))]) hx hb dX4_plan_98 hl (by decide) rfl (fun ls hl => ?_)
    refine f_mid (v := v) hx hb hml hown hts hA hK (i := n) (by omega) hmo hnd (mo + 1) 0 co (by omega) (fun H locs ls hP hD hS hl => ?_) _ _ _ hP hD hS (lv_sub hl [1, 2, 3, 4, 5, 0] rfl)
    refine lv_iinc (v := nM n) (lv' := [(5, .int (nM n)), (0, .ref m0), (2, .int (nI L)), (3, .int (nI mo)), (4, .int hs)]) hx hb dX4_plan_213 hl (k := 4) rfl (nM_1 n) (by decide) rfl (fun ls hl => ?_)
    refine lv_goto (tgt := 92) hx hb dX4_plan_216 (by decide) ?_
    exact ih (mid_run L n mo v (mo + 1) 0 co) (by omega) (by have k9 := kk; rw [out_run_s] at k9; exact k9) _ _ _ hP hD hS (lv_sub hl [1, 2, 3, 4, 0] rfl)
