theorem i_cl {x : Int32} (h : 0 ≤ x) : x = nI x.toNatClampNeg := by
  obtain ⟨j, hj, rfl⟩ := i_ge0 h
  rw [nI_clamp hj]
theorem cl_lt (x : Int32) : x.toNatClampNeg < 2 ^ 31 := by
  by_cases h : x < 0
  · have h1 : x.toInt < 0 := (fa_lt _ _).mp h
    have h2 : x.toNatClampNeg = x.toInt.toNat := rfl
    omega
  · obtain ⟨j, hj, rfl⟩ := nI_of h
    rw [nI_clamp hj]
    exact hj
/-- n less 1, which at 0 is the int -1 -/
def nM (n : Nat) : Int32 := nI n - 1
theorem nM_0 : nM 0 = (-1) := by decide +kernel
theorem nM_s (n : Nat) : nM (n + 1) = nI n := nI_pred n
theorem nM_1 (n : Nat) : nI n + (-1) = nM n := by
  unfold nM
  rw [Int32.sub_eq_add_neg]
theorem two_in {i n : Nat} (h : 2 * i < n) (hn : n < 2 ^ 31) : vp_in (2 * nI i) n := by
  show vp_in (nI 2 * nI i) n
  rw [pk_mul]
  exact vp_in_nI h hn
theorem two_cl {i : Nat} (h : 2 * i < 2 ^ 31) : (2 * nI i).toNatClampNeg = 2 * i := by
  show (nI 2 * nI i).toNatClampNeg = 2 * i
  rw [pk_mul]
  exact nI_clamp h
theorem two1_in {i n : Nat} (h : 2 * i + 1 < n) (hn : n < 2 ^ 31) : vp_in (2 * nI i + 1) n := by
  show vp_in (nI 2 * nI i + nI 1) n
  rw [pk_mul, nI_add]
  exact vp_in_nI h hn
theorem two1_cl {i : Nat} (h : 2 * i + 1 < 2 ^ 31) : (2 * nI i + 1).toNatClampNeg = 2 * i + 1 := by
  show (nI 2 * nI i + nI 1).toNatClampNeg = 2 * i + 1
  rw [pk_mul, nI_add]
  exact nI_clamp h
theorem sum_in {a b n : Nat} (h : a + b < n) (hn : n < 2 ^ 31) : vp_in (nI a + nI b) n := by
  rw [nI_add]
  exact vp_in_nI h hn
theorem sum_cl {a b : Nat} (h : a + b < 2 ^ 31) : (nI a + nI b).toNatClampNeg = a + b := by
  rw [nI_add]
  exact nI_clamp h
theorem dif_in {a b n : Nat} (c : ¬ nI a < nI b) (ha : a < n) (hn : n < 2 ^ 31) (hb : b < 2 ^ 31) : vp_in (nI a - nI b) n := by
  have h : b ≤ a := Nat.le_of_not_lt (fun q => c (nI_lt q hb))
  rw [pk_sub h]
  exact vp_in_nI (by omega) hn
theorem dif_in0 {a n : Nat} {x : Int32} (h0 : 0 ≤ x) (c : 0 ≤ nI a - x) (ha : a < n) (hn : n ≤ 1000000) : vp_in (nI a - x) n := by
  rw [fa_le] at h0 c
  have e0 : (0 : Int32).toInt = 0 := by decide
  have ea := nI_toInt (n := a) (by omega)
  have hr := fb_rng x
  rw [fb_subI (by omega) (by omega)] at c
  exact vp_in_iff.mpr ⟨by rw [fb_subI (by omega) (by omega)]; omega, by rw [fb_subI (by omega) (by omega)]; omega⟩
theorem mn120 {b : Nat} (h : b ≤ 120) : (if (120 : Int32) < nI b then 120 else nI b) = nI b := if_neg (nI_nlt (a := 120) (b := b) h (by decide))
theorem mnab {a b : Nat} (h : a ≤ b) (hb : b ≤ 120) : (if nI b < nI a then nI b else nI a) = nI a := if_neg (nI_nlt (a := b) (b := a) h (by omega))
/-- no 0 among the first places -/
def nz_b (f : Nat → Int32) (n : Nat) : Bool := decide (∀ j, j < n → ¬ f j = 0)
theorem nz_t {f : Nat → Int32} {n : Nat} (h : ∀ j, j < n → ¬ f j = 0) : nz_b f n = true := decide_eq_true h
theorem nz_f {f : Nat → Int32} {n j : Nat} (hj : j < n) (h : f j = 0) : ¬ nz_b f n = true := fun h2 => (of_decide_eq_true h2) j hj h
def rd_leg (tp : TP) (hu : Int32) (j : Nat) : Int32 := ((tp.1 (2 * j)) * hu + 999) / 1000
def rd_pr (tp : TP) (j : Nat) : Int32 := tp.1 (2 * j + 1)
def rd_q (tp : TP) : Nat := (tp.2 / 2).toNatClampNeg

set_option maxHeartbeats 4000000 in
set_option maxRecDepth 100000 in
theorem f_scanX {p : Program} {l : Launch} {e : Env} {R : Room} {s : State} {m : MethodId} {args : Array Value} {below : List Frame} {meth : Method} {c : Code} {cells slots : Nat} {Q : State → Prop} {H0 : Heap} {A : Nat → Prop} {dC : Nat → ClassId} {dI : Nat → Nat → Nat} {cI cJ : ClassId} (hx : p.tables.exec = Jvm.exec) (hb : c.code = cX1_read) (hml : c.maxLocals = 4) (hown : s.vm.findClass RX1 = some m.cls) (hts : ∀ w ∈ wsX1_read, w.before args s = true) (hA : ∀ q : Nat, H0.size ≤ q → A q) (hK : va_K (dC, dI) vwCl [(cI, .int), (cJ, .long)] s) {p0 p1 p2 p3 p4 p5 t0 t1 : Nat} (hN : nw s) {pl : PL} {tp : TP} {hu : Int32} {N : Nat} (hn : tp.2 = nI N) (hN60 : N ≤ 60) : ∀ (n : Nat) (i : Nat), (i + n = N) → (∀ j, j < i → ¬ tp.1 j = 0) → ((∀ j, j < N → ¬ tp.1 j = 0) → ∀ (H : Heap) (locs : List Loc) (ls : Array Slot), va_P (dC, dI) vwCl [cP0 p0 p1 p2 p3 p4 p5 pl, cP1 cI p1 pl, cP2 cI p2 pl, cP3 cI p3 pl, cP4 cI p4 pl, cP5 cI p5 pl, cT0 t0 t1 tp, cT1 cI t1 tp] H → va_D A [cP0 p0 p1 p2 p3 p4 p5 pl, cP1 cI p1 pl, cP2 cI p2 pl, cP3 cI p3 pl, cP4 cI p4 pl, cP5 cI p5 pl, cT0 t0 t1 tp, cT1 cI t1 tp] → va_S A H0 H locs → lv_has ls 4 [(0, .ref p0), (1, .ref t0), (2, .int hu), (3, .int (nI N))] → W p l e R s m args below meth c H locs cells slots Q (F0 m 47 ls [])) → (∀ (j : Nat) (_ : j < N) (_ : tp.1 j = 0) (H : Heap) (locs : List Loc) (ls : Array Slot), va_P (dC, dI) vwCl [cP0 p0 p1 p2 p3 p4 p5 pl, cP1 cI p1 pl, cP2 cI p2 pl, cP3 cI p3 pl, cP4 cI p4 pl, cP5 cI p5 pl, cT0 t0 t1 tp, cT1 cI t1 tp] H → va_D A [cP0 p0 p1 p2 p3 p4 p5 pl, cP1 cI p1 pl, cP2 cI p2 pl, cP3 cI p3 pl, cP4 cI p4 pl, cP5 cI p5 pl, cT0 t0 t1 tp, cT1 cI t1 tp] → va_S A H0 H locs → lv_has ls 4 [(0, .ref p0), (1, .ref t0), (2, .int hu)] → W p l e R s m args below meth c H locs cells slots Q (F0 m 39 ls [])) → ∀ (H : Heap) (locs : List Loc) (ls : Array Slot), va_P (dC, dI) vwCl [cP0 p0 p1 p2 p3 p4 p5 pl, cP1 cI p1 pl, cP2 cI p2 pl, cP3 cI p3 pl, cP4 cI p4 pl, cP5 cI p5 pl, cT0 t0 t1 tp, cT1 cI t1 tp] H → va_D A [cP0 p0 p1 p2 p3 p4 p5 pl, cP1 cI p1 pl, cP2 cI p2 pl, cP3 cI p3 pl, cP4 cI p4 pl, cP5 cI p5 pl, cT0 t0 t1 tp, cT1 cI t1 tp] → va_S A H0 H locs → lv_has ls 4 [(0, .ref p0), (1, .ref t0), (2, .int hu), (3, .int (nI i))] → W p l e R s m args below meth c H locs cells slots Q (F0 m 22 ls []) := by
  have hiX2 : ∀ w ∈ u_ws RX2 TX2 2, w ∈ wsX1_read := by decide +kernel
  intro n
  induction n with
  | zero =>
    intro i hi hz kk k2 H locs ls hP hD hS hl
    obtain rfl : i = N := by omega
    refine lv_iload_n hx hb dX1_read_22 rfl (lv_at hl 3 rfl) ?_
    refine lv_aload_n hx hb dX1_read_23 rfl (lv_at hl 1 rfl) ?_
    refine va_getN (D := (dC, dI)) (ci := 2) (v := .int tp.2) (C := RX2) (T := TX2) (N := 2) hx hb hts hiX2 hown hK hP 6 rfl rfl 1 (by decide) (nw_f hN (.fieldLinkNest RX1 34 "TripReckoner$Tape" "size" "I" "TripReckoner") (by decide +kernel) rfl) (fun _ h9 => h9) rfl dX1_read_24 ?_
    refine lv_icmp_ge (tgt := 47) hx hb dX1_read_27 (by decide) (fun c_1 => ?_) (fun c_1 => absurd (by rw [hn]; exact nI_le (Nat.le_refl _) (by omega)) c_1)
    exact kk (fun j hj => hz j (by omega)) _ _ _ hP hD hS (lv_sub hl [0, 1, 2, 3] rfl)
  | succ n ih =>
    intro i hi hz kk k2 H locs ls hP hD hS hl
    refine lv_iload_n hx hb dX1_read_22 rfl (lv_at hl 3 rfl) ?_
    refine lv_aload_n hx hb dX1_read_23 rfl (lv_at hl 1 rfl) ?_
    refine va_getN (D := (dC, dI)) (ci := 2) (v := .int tp.2) (C := RX2) (T := TX2) (N := 2) hx hb hts hiX2 hown hK hP 6 rfl rfl 1 (by decide) (nw_f hN (.fieldLinkNest RX1 34 "TripReckoner$Tape" "size" "I" "TripReckoner") (by decide +kernel) rfl) (fun _ h9 => h9) rfl dX1_read_24 ?_
    refine lv_icmp_ge (tgt := 47) hx hb dX1_read_27 (by decide) (fun c_1 => absurd c_1 (by rw [hn]; exact nI_ge (by omega) (by omega))) (fun c_1 => ?_)
    refine lv_aload_n hx hb dX1_read_30 rfl (lv_at hl 1 rfl) ?_
    refine va_getN (D := (dC, dI)) (ci := 2) (v := .ref t1) (C := RX2) (T := TX2) (N := 2) hx hb hts hiX2 hown hK hP 6 rfl rfl 0 (by decide) (nw_f hN (.fieldLinkNest RX1 39 "TripReckoner$Tape" "bytes" "[I" "TripReckoner") (by decide +kernel) rfl) (fun _ h9 => h9) rfl dX1_read_31 ?_
    refine lv_iload_n hx hb dX1_read_34 rfl (lv_at hl 3 rfl) ?_
    refine va_iald hx hb hK hP 7 0 rfl rfl (vp_in_nI (by omega) (by decide)) dX1_read_35 ?_
    refine lv_topi (fun z_2 ez_2 => ?_)
    rw [(nI_clamp (n := i) (by omega))] at ez_2
    subst ez_2
    refine lv_if_ne (tgt := 41) hx hb dX1_read_36 (by decide) (fun c_3 => ?_) (fun c_3 => ?_)
    · refine lv_iinc (v := nI (i + 1)) (lv' := [(3, .int (nI (i + 1))), (0, .ref p0), (1, .ref t0), (2, .int hu)]) hx hb dX1_read_41 hl (k := 3) rfl (nI_1 i) (by decide) rfl (fun ls hl => ?_)
      refine lv_goto (tgt := 22) hx hb dX1_read_44 (by decide) ?_
      exact ih (i + 1) (by omega) (fun j hj => (Nat.lt_or_eq_of_le (Nat.le_of_lt_succ hj)).elim (hz j) (fun e9 => by rw [e9]; exact c_3)) kk k2 _ _ _ hP hD hS (lv_sub hl [1, 2, 3, 0] rfl)
    · exact k2 i (by omega) c_3 _ _ _ hP hD hS (lv_sub hl [0, 1, 2] rfl)

def wst (pl : PL) (s : Int32) : PL := (pl.1, pl.2.1, pl.2.2.1, pl.2.2.2.1, pl.2.2.2.2.1, s, pl.2.2.2.2.2.2)
theorem rd_ok {tp : TP} (h0 : 0 ≤ tp.2) : tp.2 / 2 = nI (rd_q tp) := by
  unfold rd_q
  obtain ⟨j, hj, e⟩ := i_ge0 h0
  rw [e]
  show nI j / nI 2 = nI (nI j / nI 2).toNatClampNeg
  rw [pk_div hj (by decide) (by decide), nI_clamp (by omega)]
theorem rd_12 {tp : TP} (h0 : 0 ≤ tp.2) (c : tp.2 ≤ 25) : rd_q tp ≤ 12 := by
  unfold rd_q
  obtain ⟨j, hj, e⟩ := i_ge0 h0
  rw [e] at c ⊢
  have h2 : j ≤ 25 := (nI_leI hj (by decide)).mp (show nI j ≤ nI 25 from c)
  show (nI j / nI 2).toNatClampNeg ≤ 12
  rw [pk_div hj (by decide) (by decide), nI_clamp (by omega)]
  omega

set_option maxHeartbeats 4000000 in
set_option maxRecDepth 100000 in
theorem f_legs {p : Program} {l : Launch} {e : Env} {R : Room} {s : State} {m : MethodId} {args : Array Value} {below : List Frame} {meth : Method} {c : Code} {cells slots : Nat} {Q : State → Prop} {H0 : Heap} {A : Nat → Prop} {dC : Nat → ClassId} {dI : Nat → Nat → Nat} {cI cJ : ClassId} (hx : p.tables.exec = Jvm.exec) (hb : c.code = cX1_read) (hml : c.maxLocals = 4) (hown : s.vm.findClass RX1 = some m.cls) (hts : ∀ w ∈ wsX1_read, w.before args s = true) (hA : ∀ q : Nat, H0.size ≤ q → A q) (hK : va_K (dC, dI) vwCl [(cI, .int), (cJ, .long)] s) {p0 p1 p2 p3 p4 p5 t0 t1 : Nat} (hN : nw s) {pl : PL} {tp : TP} {hu : Int32} {q : Nat} (hq : pl.2.2.2.2.2.1 = nI q) (hq12 : q ≤ 12) (kk : ∀ (H : Heap) (locs : List Loc) (ls : Array Slot), va_P (dC, dI) vwCl [(p0, .inr (1, [.ref p1, .ref p2, .ref p3, .ref p4, .ref p5, .int pl.2.2.2.2.2.1, .int pl.2.2.2.2.2.2])), (p1, .inl (cI, 13, .inl (fa_fill (rd_leg tp hu) pl.1 (q + 1)))), (p2, .inl (cI, 12, .inl pl.2.1)), (p3, .inl (cI, 121, .inl pl.2.2.1)), (p4, .inl (cI, 1452, .inl pl.2.2.2.1)), (p5, .inl (cI, 12, .inl pl.2.2.2.2.1)), cT0 t0 t1 tp, cT1 cI t1 tp] H → va_D A [(p0, .inr (1, [.ref p1, .ref p2, .ref p3, .ref p4, .ref p5, .int pl.2.2.2.2.2.1, .int pl.2.2.2.2.2.2])), (p1, .inl (cI, 13, .inl (fa_fill (rd_leg tp hu) pl.1 (q + 1)))), (p2, .inl (cI, 12, .inl pl.2.1)), (p3, .inl (cI, 121, .inl pl.2.2.1)), (p4, .inl (cI, 1452, .inl pl.2.2.2.1)), (p5, .inl (cI, 12, .inl pl.2.2.2.2.1)), cT0 t0 t1 tp, cT1 cI t1 tp] → va_S A H0 H locs → lv_has ls 4 [(0, .ref p0), (1, .ref t0), (2, .int hu), (3, .int (nI (q + 1)))] → W p l e R s m args below meth c H locs cells slots Q (F0 m 97 ls [])) : ∀ (n i : Nat) (H : Heap) (locs : List Loc) (ls : Array Slot), i + n = q + 1 → va_P (dC, dI) vwCl [(p0, .inr (1, [.ref p1, .ref p2, .ref p3, .ref p4, .ref p5, .int pl.2.2.2.2.2.1, .int pl.2.2.2.2.2.2])), (p1, .inl (cI, 13, .inl (fa_fill (rd_leg tp hu) pl.1 i))), (p2, .inl (cI, 12, .inl pl.2.1)), (p3, .inl (cI, 121, .inl pl.2.2.1)), (p4, .inl (cI, 1452, .inl pl.2.2.2.1)), (p5, .inl (cI, 12, .inl pl.2.2.2.2.1)), cT0 t0 t1 tp, cT1 cI t1 tp] H → va_D A [(p0, .inr (1, [.ref p1, .ref p2, .ref p3, .ref p4, .ref p5, .int pl.2.2.2.2.2.1, .int pl.2.2.2.2.2.2])), (p1, .inl (cI, 13, .inl (fa_fill (rd_leg tp hu) pl.1 i))), (p2, .inl (cI, 12, .inl pl.2.1)), (p3, .inl (cI, 121, .inl pl.2.2.1)), (p4, .inl (cI, 1452, .inl pl.2.2.2.1)), (p5, .inl (cI, 12, .inl pl.2.2.2.2.1)), cT0 t0 t1 tp, cT1 cI t1 tp] → va_S A H0 H locs → lv_has ls 4 [(0, .ref p0), (1, .ref t0), (2, .int hu), (3, .int (nI i))] → W p l e R s m args below meth c H locs cells slots Q (F0 m 59 ls []) := by
  have hiX1 : ∀ w ∈ u_ws RX1 TX1 7, w ∈ wsX1_read := by decide +kernel
  have hiX2 : ∀ w ∈ u_ws RX2 TX2 2, w ∈ wsX1_read := by decide +kernel
  intro n
  induction n with
  | zero =>
    intro i H locs ls hi hP hD hS hl
    obtain rfl : i = q + 1 := by omega
    refine lv_iload_n hx hb dX1_read_59 rfl (lv_at hl 3 rfl) ?_
    refine lv_aload_n hx hb dX1_read_60 rfl (lv_at hl 0 rfl) ?_
    refine va_get (D := (dC, dI)) (ci := 1) (v := .int pl.2.2.2.2.2.1) (C := RX1) (T := TX1) (N := 7) hx hb hts hiX1 hown hK hP 0 rfl rfl 5 (by decide) (hts (.fieldLink RX1 27 "TripReckoner$Planner" "stations" "I") (by decide +kernel)) (fun _ h9 => h9) rfl dX1_read_61 ?_
    refine lv_icmp_gt (tgt := 97) hx hb dX1_read_64 (by decide) (fun c_1 => ?_) (fun c_1 => absurd (by rw [hq]; exact nI_lt (by omega) (by omega)) c_1)
    exact kk _ _ _ hP hD hS (lv_sub hl [0, 1, 2, 3] rfl)
  | succ n ih =>
    intro i H locs ls hi hP hD hS hl
    refine lv_iload_n hx hb dX1_read_59 rfl (lv_at hl 3 rfl) ?_
    refine lv_aload_n hx hb dX1_read_60 rfl (lv_at hl 0 rfl) ?_
    refine va_get (D := (dC, dI)) (ci := 1) (v := .int pl.2.2.2.2.2.1) (C := RX1) (T := TX1) (N := 7) hx hb hts hiX1 hown hK hP 0 rfl rfl 5 (by decide) (hts (.fieldLink RX1 27 "TripReckoner$Planner" "stations" "I") (by decide +kernel)) (fun _ h9 => h9) rfl dX1_read_61 ?_
    refine lv_icmp_gt (tgt := 97) hx hb dX1_read_64 (by decide) (fun c_1 => absurd c_1 (by rw [hq]; exact nI_nlt (by omega) (by omega))) (fun c_1 => ?_)
    refine lv_aload_n hx hb dX1_read_67 rfl (lv_at hl 0 rfl) ?_
    refine va_get (D := (dC, dI)) (ci := 1) (v := .ref p1) (C := RX1) (T := TX1) (N := 7) hx hb hts hiX1 hown hK hP 0 rfl rfl 0 (by decide) (hts (.fieldLink RX1 11 "TripReckoner$Planner" "legs" "[I") (by decide +kernel)) (fun _ h9 => h9) rfl dX1_read_68 ?_
    refine lv_iload_n hx hb dX1_read_71 rfl (lv_at hl 3 rfl) ?_
    refine lv_aload_n hx hb dX1_read_72 rfl (lv_at hl 1 rfl) ?_
    refine va_getN (D := (dC, dI)) (ci := 2) (v := .ref t1) (C := RX2) (T := TX2) (N := 2) hx hb hts hiX2 hown hK hP 6 rfl rfl 0 (by decide) (nw_f hN (.fieldLinkNest RX1 39 "TripReckoner$Tape" "bytes" "[I" "TripReckoner") (by decide +kernel) rfl) (fun _ h9 => h9) rfl dX1_read_73 ?_
    refine lv_iconst (v := 2) hx hb dX1_read_76 (by decide) ?_
    refine lv_iload_n hx hb dX1_read_77 rfl (lv_at hl 3 rfl) ?_
    refine lv_imul hx hb dX1_read_78 ?_
    refine va_iald hx hb hK hP 7 0 rfl rfl (two_in (by omega) (by decide)) dX1_read_79 ?_
    refine lv_topi (fun z_2 ez_2 => ?_)
    rw [(two_cl (by omega))] at ez_2
    subst ez_2
    refine lv_iload_n hx hb dX1_read_80 rfl (lv_at hl 2 rfl) ?_
    refine lv_imul hx hb dX1_read_81 ?_
    refine lv_sipush (v := 999) hx hb dX1_read_82 (by decide) ?_
    refine lv_iadd hx hb dX1_read_85 ?_
    refine lv_sipush (v := 1000) hx hb dX1_read_86 (by decide) ?_
    refine lv_idiv hx hb dX1_read_89 (by decide) ?_
    refine va_iast hx hb hK hP hD hS 1 0 rfl rfl (vp_in_nI (by omega) (by decide)) dX1_read_90 (fun H locs hP hD hS => ?_)
    rw [(nI_clamp (n := i) (by omega))] at hP hD
    have hP : va_P (dC, dI) vwCl [(p0, .inr (1, [.ref p1, .ref p2, .ref p3, .ref p4, .ref p5, .int pl.2.2.2.2.2.1, .int pl.2.2.2.2.2.2])), (p1, .inl (cI, 13, .inl (upd (fa_fill (rd_leg tp hu) pl.1 i) i ((((tp.1 (2 * i)) * hu) + 999) / 1000)))), (p2, .inl (cI, 12, .inl pl.2.1)), (p3, .inl (cI, 121, .inl pl.2.2.1)), (p4, .inl (cI, 1452, .inl pl.2.2.2.1)), (p5, .inl (cI, 12, .inl pl.2.2.2.2.1)), cT0 t0 t1 tp, cT1 cI t1 tp] H := hP
    have hD : va_D A [(p0, .inr (1, [.ref p1, .ref p2, .ref p3, .ref p4, .ref p5, .int pl.2.2.2.2.2.1, .int pl.2.2.2.2.2.2])), (p1, .inl (cI, 13, .inl (upd (fa_fill (rd_leg tp hu) pl.1 i) i ((((tp.1 (2 * i)) * hu) + 999) / 1000)))), (p2, .inl (cI, 12, .inl pl.2.1)), (p3, .inl (cI, 121, .inl pl.2.2.1)), (p4, .inl (cI, 1452, .inl pl.2.2.2.1)), (p5, .inl (cI, 12, .inl pl.2.2.2.2.1)), cT0 t0 t1 tp, cT1 cI t1 tp] := hD
    refine lv_iinc (v := nI (i + 1)) (lv' := [(3, .int (nI (i + 1))), (0, .ref p0), (1, .ref t0), (2, .int hu)]) hx hb dX1_read_91 hl (k := 3) rfl (nI_1 i) (by decide) rfl (fun ls hl => ?_)
    refine lv_goto (tgt := 59) hx hb dX1_read_94 (by decide) ?_
    have hP : va_P (dC, dI) vwCl [(p0, .inr (1, [.ref p1, .ref p2, .ref p3, .ref p4, .ref p5, .int pl.2.2.2.2.2.1, .int pl.2.2.2.2.2.2])), (p1, .inl (cI, 13, .inl (fa_fill (rd_leg tp hu) pl.1 (i + 1)))), (p2, .inl (cI, 12, .inl pl.2.1)), (p3, .inl (cI, 121, .inl pl.2.2.1)), (p4, .inl (cI, 1452, .inl pl.2.2.2.1)), (p5, .inl (cI, 12, .inl pl.2.2.2.2.1)), cT0 t0 t1 tp, cT1 cI t1 tp] H := by
      rw [← fa_fill_succ]
      exact hP
    have hD : va_D A [(p0, .inr (1, [.ref p1, .ref p2, .ref p3, .ref p4, .ref p5, .int pl.2.2.2.2.2.1, .int pl.2.2.2.2.2.2])), (p1, .inl (cI, 13, .inl (fa_fill (rd_leg tp hu) pl.1 (i + 1)))), (p2, .inl (cI, 12, .inl pl.2.1)), (p3, .inl (cI, 121, .inl pl.2.2.1)), (p4, .inl (cI, 1452, .inl pl.2.2.2.1)), (p5, .inl (cI, 12, .inl pl.2.2.2.2.1)), cT0 t0 t1 tp, cT1 cI t1 tp] := by
      rw [← fa_fill_succ]
      exact hD
    exact ih (i + 1)  _ _ _ (by omega) hP hD hS (lv_sub hl [1, 2, 3, 0] rfl)

set_option maxHeartbeats 4000000 in
set_option maxRecDepth 100000 in
theorem f_prices {p : Program} {l : Launch} {e : Env} {R : Room} {s : State} {m : MethodId} {args : Array Value} {below : List Frame} {meth : Method} {c : Code} {cells slots : Nat} {Q : State → Prop} {H0 : Heap} {A : Nat → Prop} {dC : Nat → ClassId} {dI : Nat → Nat → Nat} {cI cJ : ClassId} (hx : p.tables.exec = Jvm.exec) (hb : c.code = cX1_read) (hml : c.maxLocals = 4) (hown : s.vm.findClass RX1 = some m.cls) (hts : ∀ w ∈ wsX1_read, w.before args s = true) (hA : ∀ q : Nat, H0.size ≤ q → A q) (hK : va_K (dC, dI) vwCl [(cI, .int), (cJ, .long)] s) {p0 p1 p2 p3 p4 p5 t0 t1 : Nat} (hN : nw s) {pl : PL} {tp : TP} {hu : Int32} {q : Nat} (hq : pl.2.2.2.2.2.1 = nI q) (hq12 : q ≤ 12) (kk : ∀ (H : Heap) (locs : List Loc) (ls : Array Slot), va_P (dC, dI) vwCl [(p0, .inr (1, [.ref p1, .ref p2, .ref p3, .ref p4, .ref p5, .int pl.2.2.2.2.2.1, .int pl.2.2.2.2.2.2])), (p1, .inl (cI, 13, .inl pl.1)), (p2, .inl (cI, 12, .inl (fa_fill (rd_pr tp) pl.2.1 q))), (p3, .inl (cI, 121, .inl pl.2.2.1)), (p4, .inl (cI, 1452, .inl pl.2.2.2.1)), (p5, .inl (cI, 12, .inl pl.2.2.2.2.1)), cT0 t0 t1 tp, cT1 cI t1 tp] H → va_D A [(p0, .inr (1, [.ref p1, .ref p2, .ref p3, .ref p4, .ref p5, .int pl.2.2.2.2.2.1, .int pl.2.2.2.2.2.2])), (p1, .inl (cI, 13, .inl pl.1)), (p2, .inl (cI, 12, .inl (fa_fill (rd_pr tp) pl.2.1 q))), (p3, .inl (cI, 121, .inl pl.2.2.1)), (p4, .inl (cI, 1452, .inl pl.2.2.2.1)), (p5, .inl (cI, 12, .inl pl.2.2.2.2.1)), cT0 t0 t1 tp, cT1 cI t1 tp] → va_S A H0 H locs → lv_has ls 4 [(0, .ref p0), (1, .ref t0), (2, .int hu), (3, .int (nI q))] → W p l e R s m args below meth c H locs cells slots Q (F0 m 129 ls [])) : ∀ (n i : Nat) (H : Heap) (locs : List Loc) (ls : Array Slot), i + n = q → va_P (dC, dI) vwCl [(p0, .inr (1, [.ref p1, .ref p2, .ref p3, .ref p4, .ref p5, .int pl.2.2.2.2.2.1, .int pl.2.2.2.2.2.2])), (p1, .inl (cI, 13, .inl pl.1)), (p2, .inl (cI, 12, .inl (fa_fill (rd_pr tp) pl.2.1 i))), (p3, .inl (cI, 121, .inl pl.2.2.1)), (p4, .inl (cI, 1452, .inl pl.2.2.2.1)), (p5, .inl (cI, 12, .inl pl.2.2.2.2.1)), cT0 t0 t1 tp, cT1 cI t1 tp] H → va_D A [(p0, .inr (1, [.ref p1, .ref p2, .ref p3, .ref p4, .ref p5, .int pl.2.2.2.2.2.1, .int pl.2.2.2.2.2.2])), (p1, .inl (cI, 13, .inl pl.1)), (p2, .inl (cI, 12, .inl (fa_fill (rd_pr tp) pl.2.1 i))), (p3, .inl (cI, 121, .inl pl.2.2.1)), (p4, .inl (cI, 1452, .inl pl.2.2.2.1)), (p5, .inl (cI, 12, .inl pl.2.2.2.2.1)), cT0 t0 t1 tp, cT1 cI t1 tp] → va_S A H0 H locs → lv_has ls 4 [(0, .ref p0), (1, .ref t0), (2, .int hu), (3, .int (nI i))] → W p l e R s m args below meth c H locs cells slots Q (F0 m 99 ls []) := by
  have hiX1 : ∀ w ∈ u_ws RX1 TX1 7, w ∈ wsX1_read := by decide +kernel
  have hiX2 : ∀ w ∈ u_ws RX2 TX2 2, w ∈ wsX1_read := by decide +kernel
  intro n
  induction n with
  | zero =>
    intro i H locs ls hi hP hD hS hl
    obtain rfl : i = q := by omega
    refine lv_iload_n hx hb dX1_read_99 rfl (lv_at hl 3 rfl) ?_
    refine lv_aload_n hx hb dX1_read_100 rfl (lv_at hl 0 rfl) ?_
    refine va_get (D := (dC, dI)) (ci := 1) (v := .int pl.2.2.2.2.2.1) (C := RX1) (T := TX1) (N := 7) hx hb hts hiX1 hown hK hP 0 rfl rfl 5 (by decide) (hts (.fieldLink RX1 27 "TripReckoner$Planner" "stations" "I") (by decide +kernel)) (fun _ h9 => h9) rfl dX1_read_101 ?_
    refine lv_icmp_ge (tgt := 129) hx hb dX1_read_104 (by decide) (fun c_1 => ?_) (fun c_1 => absurd (by rw [hq]; exact nI_le (by omega) (by omega)) c_1)
    exact kk _ _ _ hP hD hS (lv_sub hl [0, 1, 2, 3] rfl)
  | succ n ih =>
    intro i H locs ls hi hP hD hS hl
    refine lv_iload_n hx hb dX1_read_99 rfl (lv_at hl 3 rfl) ?_
    refine lv_aload_n hx hb dX1_read_100 rfl (lv_at hl 0 rfl) ?_
    refine va_get (D := (dC, dI)) (ci := 1) (v := .int pl.2.2.2.2.2.1) (C := RX1) (T := TX1) (N := 7) hx hb hts hiX1 hown hK hP 0 rfl rfl 5 (by decide) (hts (.fieldLink RX1 27 "TripReckoner$Planner" "stations" "I") (by decide +kernel)) (fun _ h9 => h9) rfl dX1_read_101 ?_
    refine lv_icmp_ge (tgt := 129) hx hb dX1_read_104 (by decide) (fun c_1 => absurd c_1 (by rw [hq]; exact nI_ge (by omega) (by omega))) (fun c_1 => ?_)
    refine lv_aload_n hx hb dX1_read_107 rfl (lv_at hl 0 rfl) ?_
    refine va_get (D := (dC, dI)) (ci := 1) (v := .ref p2) (C := RX1) (T := TX1) (N := 7) hx hb hts hiX1 hown hK hP 0 rfl rfl 1 (by decide) (hts (.fieldLink RX1 15 "TripReckoner$Planner" "prices" "[I") (by decide +kernel)) (fun _ h9 => h9) rfl dX1_read_108 ?_
    refine lv_iload_n hx hb dX1_read_111 rfl (lv_at hl 3 rfl) ?_
    refine lv_aload_n hx hb dX1_read_112 rfl (lv_at hl 1 rfl) ?_
    refine va_getN (D := (dC, dI)) (ci := 2) (v := .ref t1) (C := RX2) (T := TX2) (N := 2) hx hb hts hiX2 hown hK hP 6 rfl rfl 0 (by decide) (nw_f hN (.fieldLinkNest RX1 39 "TripReckoner$Tape" "bytes" "[I" "TripReckoner") (by decide +kernel) rfl) (fun _ h9 => h9) rfl dX1_read_113 ?_
    refine lv_iconst (v := 2) hx hb dX1_read_116 (by decide) ?_
    refine lv_iload_n hx hb dX1_read_117 rfl (lv_at hl 3 rfl) ?_
    refine lv_imul hx hb dX1_read_118 ?_
    refine lv_iconst (v := 1) hx hb dX1_read_119 (by decide) ?_
    refine lv_iadd hx hb dX1_read_120 ?_
    refine va_iald hx hb hK hP 7 0 rfl rfl (two1_in (by omega) (by decide)) dX1_read_121 ?_
    refine lv_topi (fun z_2 ez_2 => ?_)
    rw [(two1_cl (by omega))] at ez_2
    subst ez_2
    refine va_iast hx hb hK hP hD hS 2 0 rfl rfl (vp_in_nI (by omega) (by decide)) dX1_read_122 (fun H locs hP hD hS => ?_)
    rw [(nI_clamp (n := i) (by omega))] at hP hD
    have hP : va_P (dC, dI) vwCl [(p0, .inr (1, [.ref p1, .ref p2, .ref p3, .ref p4, .ref p5, .int pl.2.2.2.2.2.1, .int pl.2.2.2.2.2.2])), (p1, .inl (cI, 13, .inl pl.1)), (p2, .inl (cI, 12, .inl (upd (fa_fill (rd_pr tp) pl.2.1 i) i (tp.1 (2 * i + 1))))), (p3, .inl (cI, 121, .inl pl.2.2.1)), (p4, .inl (cI, 1452, .inl pl.2.2.2.1)), (p5, .inl (cI, 12, .inl pl.2.2.2.2.1)), cT0 t0 t1 tp, cT1 cI t1 tp] H := hP
    have hD : va_D A [(p0, .inr (1, [.ref p1, .ref p2, .ref p3, .ref p4, .ref p5, .int pl.2.2.2.2.2.1, .int pl.2.2.2.2.2.2])), (p1, .inl (cI, 13, .inl pl.1)), (p2, .inl (cI, 12, .inl (upd (fa_fill (rd_pr tp) pl.2.1 i) i (tp.1 (2 * i + 1))))), (p3, .inl (cI, 121, .inl pl.2.2.1)), (p4, .inl (cI, 1452, .inl pl.2.2.2.1)), (p5, .inl (cI, 12, .inl pl.2.2.2.2.1)), cT0 t0 t1 tp, cT1 cI t1 tp] := hD
    refine lv_iinc (v := nI (i + 1)) (lv' := [(3, .int (nI (i + 1))), (0, .ref p0), (1, .ref t0), (2, .int hu)]) hx hb dX1_read_123 hl (k := 3) rfl (nI_1 i) (by decide) rfl (fun ls hl => ?_)
    refine lv_goto (tgt := 99) hx hb dX1_read_126 (by decide) ?_
    have hP : va_P (dC, dI) vwCl [(p0, .inr (1, [.ref p1, .ref p2, .ref p3, .ref p4, .ref p5, .int pl.2.2.2.2.2.1, .int pl.2.2.2.2.2.2])), (p1, .inl (cI, 13, .inl pl.1)), (p2, .inl (cI, 12, .inl (fa_fill (rd_pr tp) pl.2.1 (i + 1)))), (p3, .inl (cI, 121, .inl pl.2.2.1)), (p4, .inl (cI, 1452, .inl pl.2.2.2.1)), (p5, .inl (cI, 12, .inl pl.2.2.2.2.1)), cT0 t0 t1 tp, cT1 cI t1 tp] H := by
      rw [← fa_fill_succ]
      exact hP
    have hD : va_D A [(p0, .inr (1, [.ref p1, .ref p2, .ref p3, .ref p4, .ref p5, .int pl.2.2.2.2.2.1, .int pl.2.2.2.2.2.2])), (p1, .inl (cI, 13, .inl pl.1)), (p2, .inl (cI, 12, .inl (fa_fill (rd_pr tp) pl.2.1 (i + 1)))), (p3, .inl (cI, 121, .inl pl.2.2.1)), (p4, .inl (cI, 1452, .inl pl.2.2.2.1)), (p5, .inl (cI, 12, .inl pl.2.2.2.2.1)), cT0 t0 t1 tp, cT1 cI t1 tp] := by
      rw [← fa_fill_succ]
      exact hD
    exact ih (i + 1)  _ _ _ (by omega) hP hD hS (lv_sub hl [1, 2, 3, 0] rfl)

def wlg (pl : PL) (f : Nat → Int32) : PL := (f, pl.2.1, pl.2.2.1, pl.2.2.2.1, pl.2.2.2.2.1, pl.2.2.2.2.2.1, pl.2.2.2.2.2.2)

def sX1_read (hu : Int32) (pl : PL) (tp : TP) : PL :=
  if (tp.2 - tp.2 / 2 * 2) = 0 then
    pl
  else
    if tp.2 ≤ 25 then
      if nz_b tp.1 tp.2.toNatClampNeg = true then
        ((wlg (wst pl (tp.2 / 2)) (fa_fill (rd_leg tp hu) pl.1 (rd_q tp + 1))).1, fa_fill (rd_pr tp) (wlg (wst pl (tp.2 / 2)) (fa_fill (rd_leg tp hu) pl.1 (rd_q tp + 1))).2.1 (rd_q tp), (wlg (wst pl (tp.2 / 2)) (fa_fill (rd_leg tp hu) pl.1 (rd_q tp + 1))).2.2.1, (wlg (wst pl (tp.2 / 2)) (fa_fill (rd_leg tp hu) pl.1 (rd_q tp + 1))).2.2.2.1, (wlg (wst pl (tp.2 / 2)) (fa_fill (rd_leg tp hu) pl.1 (rd_q tp + 1))).2.2.2.2.1, (wlg (wst pl (tp.2 / 2)) (fa_fill (rd_leg tp hu) pl.1 (rd_q tp + 1))).2.2.2.2.2.1, (wlg (wst pl (tp.2 / 2)) (fa_fill (rd_leg tp hu) pl.1 (rd_q tp + 1))).2.2.2.2.2.2)
      else
        pl
    else
      pl
def rX1_read (hu : Int32) (pl : PL) (tp : TP) : Int32 :=
  if (tp.2 - tp.2 / 2 * 2) = 0 then
    0
  else
    if tp.2 ≤ 25 then
      if nz_b tp.1 tp.2.toNatClampNeg = true then
        1
      else
        0
    else
      0
set_option maxHeartbeats 4000000 in
set_option maxRecDepth 100000 in
theorem kX1_read (l : Launch) (dC : Nat → ClassId) (dI : Nat → Nat → Nat) (cI cJ : ClassId) (p0 p1 p2 p3 p4 p5 t0 t1 : Nat) (sz : Nat) (hu : Int32) (pl : PL) (tp : TP) (h0 : 0 ≤ tp.2) (h60 : tp.2.toNatClampNeg ≤ 60) : Met l yX1_read wsX1_read ({ frames := 0, cells := 0, slots := 0, locals := 0 }) (va_Pc [.ref p0, .ref t0, .int hu] (fun U => U.heap.size = sz ∧ va_P (dC, dI) vwCl [cP0 p0 p1 p2 p3 p4 p5 pl, cP1 cI p1 pl, cP2 cI p2 pl, cP3 cI p3 pl, cP4 cI p4 pl, cP5 cI p5 pl, cT0 t0 t1 tp, cT1 cI t1 tp] U.heap ∧ va_K (dC, dI) vwCl [(cI, .int), (cJ, .long)] U ∧ va_D (fun _ => True) [cP0 p0 p1 p2 p3 p4 p5 pl, cP1 cI p1 pl, cP2 cI p2 pl, cP3 cI p3 pl, cP4 cI p4 pl, cP5 cI p5 pl, cT0 t0 t1 tp, cT1 cI t1 tp] ∧ nw U)) (va_Qi (fun (r : Int32) (_ : Unit) => r = rX1_read hu pl tp) (fun _ t => va_P (dC, dI) vwCl [cP0 p0 p1 p2 p3 p4 p5 (sX1_read hu pl tp), cP1 cI p1 (sX1_read hu pl tp), cP2 cI p2 (sX1_read hu pl tp), cP3 cI p3 (sX1_read hu pl tp), cP4 cI p4 (sX1_read hu pl tp), cP5 cI p5 (sX1_read hu pl tp), cT0 t0 t1 tp, cT1 cI t1 tp] t.heap ∧ va_K (dC, dI) vwCl [(cI, .int), (cJ, .long)] t ∧ va_D (va_A [cP0 p0 p1 p2 p3 p4 p5 pl, cP1 cI p1 pl, cP2 cI p2 pl, cP3 cI p3 pl, cP4 cI p4 pl, cP5 cI p5 pl, cT0 t0 t1 tp, cT1 cI t1 tp] sz) [cP0 p0 p1 p2 p3 p4 p5 (sX1_read hu pl tp), cP1 cI p1 (sX1_read hu pl tp), cP2 cI p2 (sX1_read hu pl tp), cP3 cI p3 (sX1_read hu pl tp), cP4 cI p4 (sX1_read hu pl tp), cP5 cI p5 (sX1_read hu pl tp), cT0 t0 t1 tp, cT1 cI t1 tp]) (va_A [cP0 p0 p1 p2 p3 p4 p5 pl, cP1 cI p1 pl, cP2 cI p2 pl, cP3 cI p3 pl, cP4 cI p4 pl, cP5 cI p5 pl, cT0 t0 t1 tp, cT1 cI t1 tp] sz)) 0 0 (va_A [cP0 p0 p1 p2 p3 p4 p5 pl, cP1 cI p1 pl, cP2 cI p2 pl, cP3 cI p3 pl, cP4 cI p4 pl, cP5 cI p5 pl, cT0 t0 t1 tp, cT1 cI t1 tp] sz) := by
  refine Met.ofW (cc := cX1_read) (maxL := 4) (ret := (some .boolean)) (by decide) rfl ?_
  intro p e s m args below meth c s₁ B hml hv
  obtain ⟨rfl, hsz, hP, hK, hD0, hN⟩ := hv
  have hx := B.exec
  have hb := B.bytes
  have hr := B.returns
  have hts := atoms_spec (ws := wsX1_read) B.pre
  have hown : s.vm.findClass RX1 = some m.cls := findClass_of_methodNamed B.named
  have hlocks := B.notSynchronized
  have hiX2 : ∀ w ∈ u_ws RX2 TX2 2, w ∈ wsX1_read := by decide +kernel
  have hiX1 : ∀ w ∈ u_ws RX1 TX1 7, w ∈ wsX1_read := by decide +kernel
  subst hsz
  have hD := hD0.self (sz := s.heap.size)
  generalize hAe : va_A [cP0 p0 p1 p2 p3 p4 p5 pl, cP1 cI p1 pl, cP2 cI p2 pl, cP3 cI p3 pl, cP4 cI p4 pl, cP5 cI p5 pl, cT0 t0 t1 tp, cT1 cI t1 tp] s.heap.size = A at hD ⊢
  have hA : ∀ q : Nat, s.heap.size ≤ q → A q := fun q h => by rw [← hAe]; exact Or.inr h
  have hS : va_S A s.heap s.heap [] := va_S.rf
  have hl := lv_entry ([.ref p0, .ref t0, .int hu]) (n := 4) (Nat.le_of_ble_eq_true rfl)
  rw [lg_entry_eq]
  generalize (lg_sl ([.ref p0, .ref t0, .int hu]) ++ List.replicate (4 - (lg_sl ([.ref p0, .ref t0, .int hu])).length) Slot.unset).toArray = ls at hl ⊢
  have hl : lv_has ls 4 [(0, .ref p0), (1, .ref t0), (2, .int hu)] := hl
  have hP : va_P (dC, dI) vwCl [cP0 p0 p1 p2 p3 p4 p5 pl, cP1 cI p1 pl, cP2 cI p2 pl, cP3 cI p3 pl, cP4 cI p4 pl, cP5 cI p5 pl, cT0 t0 t1 tp, cT1 cI t1 tp] s.heap := hP
  refine lv_aload_n hx hb dX1_read_0 rfl (lv_at hl 1 rfl) ?_
  refine va_getN (D := (dC, dI)) (ci := 2) (v := .int tp.2) (C := RX2) (T := TX2) (N := 2) hx hb hts hiX2 hown hK hP 6 rfl rfl 1 (by decide) (nw_f hN (.fieldLinkNest RX1 34 "TripReckoner$Tape" "size" "I" "TripReckoner") (by decide +kernel) rfl) (fun _ h9 => h9) rfl dX1_read_1 ?_
  refine lv_iconst (v := 2) hx hb dX1_read_4 (by decide) ?_
  refine lv_irem hx hb dX1_read_5 (by decide) ?_
  refine lv_if_eq (tgt := 18) hx hb dX1_read_6 (by decide) (fun c_1 => ?_) (fun c_1 => ?_)
  · refine lv_iconst (v := 0) hx hb dX1_read_18 (by decide) ?_
    have es0 : sX1_read hu pl tp = pl := by rw [sX1_read, if_pos c_1]
    have er : 0 = rX1_read hu pl tp := by rw [rX1_read, if_pos c_1]
    refine W.zret (ty := .boolean) (v := 0) hx hb hr rfl (fun t ht hW => ⟨⟨0, (), rfl, er, ?_⟩, hS.F ht⟩) hS.2.2 dX1_read_19
    rw [es0]; exact ⟨by rw [ht]; exact hP, va_K.moved hW.alike hK, hD⟩
  · refine lv_aload_n hx hb dX1_read_9 rfl (lv_at hl 1 rfl) ?_
    refine va_getN (D := (dC, dI)) (ci := 2) (v := .int tp.2) (C := RX2) (T := TX2) (N := 2) hx hb hts hiX2 hown hK hP 6 rfl rfl 1 (by decide) (nw_f hN (.fieldLinkNest RX1 34 "TripReckoner$Tape" "size" "I" "TripReckoner") (by decide +kernel) rfl) (fun _ h9 => h9) rfl dX1_read_10 ?_
    refine lv_bipush (v := 25) hx hb dX1_read_13 (by decide) ?_
    refine lv_icmp_le (tgt := 20) hx hb dX1_read_15 (by decide) (fun c_2 => ?_) (fun c_2 => ?_)
    · refine lv_iconst (v := 0) hx hb dX1_read_20 (by decide) ?_
      refine lv_istore_n (lv' := [(3, .int 0), (0, .ref p0), (1, .ref t0), (2, .int hu)]) hx hb dX1_read_21 rfl hl (by decide) rfl (fun ls hl => ?_)
      refine f_scanX hx hb hml hown hts hA hK hN (i_cl h0) h60 (tp.2.toNatClampNeg) 0 (by omega) (fun j hj => absurd hj (Nat.not_lt_zero j)) (fun hz9 H locs ls hP hD hS hl => ?_) (fun j9 hj9 hz9 H locs ls hP hD hS hl => ?_) _ _ _ hP hD hS (lv_sub hl [1, 2, 3, 0] rfl)
      · have c_3 : nz_b tp.1 tp.2.toNatClampNeg = true := nz_t hz9
        refine lv_aload_n hx hb dX1_read_47 rfl (lv_at hl 0 rfl) ?_
        refine lv_aload_n hx hb dX1_read_48 rfl (lv_at hl 1 rfl) ?_
        refine va_getN (D := (dC, dI)) (ci := 2) (v := .int tp.2) (C := RX2) (T := TX2) (N := 2) hx hb hts hiX2 hown hK hP 6 rfl rfl 1 (by decide) (nw_f hN (.fieldLinkNest RX1 34 "TripReckoner$Tape" "size" "I" "TripReckoner") (by decide +kernel) rfl) (fun _ h9 => h9) rfl dX1_read_49 ?_
        refine lv_iconst (v := 2) hx hb dX1_read_52 (by decide) ?_
        refine lv_idiv hx hb dX1_read_53 (by decide) ?_
        refine va_put (D := (dC, dI)) (ci := 1) (v := .int (tp.2 / 2)) (ty := .int) (C := RX1) (T := TX1) (N := 7) hx hb hts hiX1 tyX1 tyX1_ok nmX1 hown hK hP hD hS 0 rfl rfl 5 (by decide) (hts (.fieldLink RX1 27 "TripReckoner$Planner" "stations" "I") (by decide +kernel)) (fun _ h9 => h9) rfl (by decide +kernel) rfl rfl (Nat.le_of_ble_eq_true rfl) dX1_read_54 (fun H locs hP hD hS => ?_)
        have hP : va_P (dC, dI) vwCl [(p0, .inr (1, [.ref p1, .ref p2, .ref p3, .ref p4, .ref p5, .int (tp.2 / 2), .int pl.2.2.2.2.2.2])), (p1, .inl (cI, 13, .inl pl.1)), (p2, .inl (cI, 12, .inl pl.2.1)), (p3, .inl (cI, 121, .inl pl.2.2.1)), (p4, .inl (cI, 1452, .inl pl.2.2.2.1)), (p5, .inl (cI, 12, .inl pl.2.2.2.2.1)), cT0 t0 t1 tp, cT1 cI t1 tp] H := hP
        have hD : va_D A [(p0, .inr (1, [.ref p1, .ref p2, .ref p3, .ref p4, .ref p5, .int (tp.2 / 2), .int pl.2.2.2.2.2.2])), (p1, .inl (cI, 13, .inl pl.1)), (p2, .inl (cI, 12, .inl pl.2.1)), (p3, .inl (cI, 121, .inl pl.2.2.1)), (p4, .inl (cI, 1452, .inl pl.2.2.2.1)), (p5, .inl (cI, 12, .inl pl.2.2.2.2.1)), cT0 t0 t1 tp, cT1 cI t1 tp] := hD
        refine lv_iconst (v := 0) hx hb dX1_read_57 (by decide) ?_
        refine lv_istore_n (lv' := [(3, .int 0), (0, .ref p0), (1, .ref t0), (2, .int hu)]) hx hb dX1_read_58 rfl hl (by decide) rfl (fun ls hl => ?_)
        have hP : va_P (dC, dI) vwCl [(p0, .inr (1, [.ref p1, .ref p2, .ref p3, .ref p4, .ref p5, .int ((wst pl (tp.2 / 2)).2.2.2.2.2.1), .int ((wst pl (tp.2 / 2)).2.2.2.2.2.2)])), (p1, .inl (cI, 13, .inl (fa_fill (rd_leg tp hu) (wst pl (tp.2 / 2)).1 0))), (p2, .inl (cI, 12, .inl ((wst pl (tp.2 / 2)).2.1))), (p3, .inl (cI, 121, .inl ((wst pl (tp.2 / 2)).2.2.1))), (p4, .inl (cI, 1452, .inl ((wst pl (tp.2 / 2)).2.2.2.1))), (p5, .inl (cI, 12, .inl ((wst pl (tp.2 / 2)).2.2.2.2.1))), cT0 t0 t1 tp, cT1 cI t1 tp] H := hP
        have hD : va_D A [(p0, .inr (1, [.ref p1, .ref p2, .ref p3, .ref p4, .ref p5, .int ((wst pl (tp.2 / 2)).2.2.2.2.2.1), .int ((wst pl (tp.2 / 2)).2.2.2.2.2.2)])), (p1, .inl (cI, 13, .inl (fa_fill (rd_leg tp hu) (wst pl (tp.2 / 2)).1 0))), (p2, .inl (cI, 12, .inl ((wst pl (tp.2 / 2)).2.1))), (p3, .inl (cI, 121, .inl ((wst pl (tp.2 / 2)).2.2.1))), (p4, .inl (cI, 1452, .inl ((wst pl (tp.2 / 2)).2.2.2.1))), (p5, .inl (cI, 12, .inl ((wst pl (tp.2 / 2)).2.2.2.2.1))), cT0 t0 t1 tp, cT1 cI t1 tp] := hD
        refine f_legs hx hb hml hown hts hA hK hN (rd_ok h0) (rd_12 h0 c_2) (fun H locs ls hP hD hS hl => ?_) (rd_q tp + 1) 0 _ _ _ (by omega) hP hD hS (lv_sub hl [1, 2, 3, 0] rfl)
        refine lv_iconst (v := 0) hx hb dX1_read_97 (by decide) ?_
        refine lv_istore_n (lv' := [(3, .int 0), (0, .ref p0), (1, .ref t0), (2, .int hu)]) hx hb dX1_read_98 rfl hl (by decide) rfl (fun ls hl => ?_)
        have hP : va_P (dC, dI) vwCl [(p0, .inr (1, [.ref p1, .ref p2, .ref p3, .ref p4, .ref p5, .int ((wlg (wst pl (tp.2 / 2)) (fa_fill (rd_leg tp hu) pl.1 (rd_q tp + 1))).2.2.2.2.2.1), .int ((wlg (wst pl (tp.2 / 2)) (fa_fill (rd_leg tp hu) pl.1 (rd_q tp + 1))).2.2.2.2.2.2)])), (p1, .inl (cI, 13, .inl ((wlg (wst pl (tp.2 / 2)) (fa_fill (rd_leg tp hu) pl.1 (rd_q tp + 1))).1))), (p2, .inl (cI, 12, .inl (fa_fill (rd_pr tp) (wlg (wst pl (tp.2 / 2)) (fa_fill (rd_leg tp hu) pl.1 (rd_q tp + 1))).2.1 0))), (p3, .inl (cI, 121, .inl ((wlg (wst pl (tp.2 / 2)) (fa_fill (rd_leg tp hu) pl.1 (rd_q tp + 1))).2.2.1))), (p4, .inl (cI, 1452, .inl ((wlg (wst pl (tp.2 / 2)) (fa_fill (rd_leg tp hu) pl.1 (rd_q tp + 1))).2.2.2.1))), (p5, .inl (cI, 12, .inl ((wlg (wst pl (tp.2 / 2)) (fa_fill (rd_leg tp hu) pl.1 (rd_q tp + 1))).2.2.2.2.1))), cT0 t0 t1 tp, cT1 cI t1 tp] H := hP
        have hD : va_D A [(p0, .inr (1, [.ref p1, .ref p2, .ref p3, .ref p4, .ref p5, .int ((wlg (wst pl (tp.2 / 2)) (fa_fill (rd_leg tp hu) pl.1 (rd_q tp + 1))).2.2.2.2.2.1), .int ((wlg (wst pl (tp.2 / 2)) (fa_fill (rd_leg tp hu) pl.1 (rd_q tp + 1))).2.2.2.2.2.2)])), (p1, .inl (cI, 13, .inl ((wlg (wst pl (tp.2 / 2)) (fa_fill (rd_leg tp hu) pl.1 (rd_q tp + 1))).1))), (p2, .inl (cI, 12, .inl (fa_fill (rd_pr tp) (wlg (wst pl (tp.2 / 2)) (fa_fill (rd_leg tp hu) pl.1 (rd_q tp + 1))).2.1 0))), (p3, .inl (cI, 121, .inl ((wlg (wst pl (tp.2 / 2)) (fa_fill (rd_leg tp hu) pl.1 (rd_q tp + 1))).2.2.1))), (p4, .inl (cI, 1452, .inl ((wlg (wst pl (tp.2 / 2)) (fa_fill (rd_leg tp hu) pl.1 (rd_q tp + 1))).2.2.2.1))), (p5, .inl (cI, 12, .inl ((wlg (wst pl (tp.2 / 2)) (fa_fill (rd_leg tp hu) pl.1 (rd_q tp + 1))).2.2.2.2.1))), cT0 t0 t1 tp, cT1 cI t1 tp] := hD
        refine f_prices hx hb hml hown hts hA hK hN (rd_ok h0) (rd_12 h0 c_2) (fun H locs ls hP hD hS hl => ?_) (rd_q tp) 0 _ _ _ (by omega) hP hD hS (lv_sub hl [1, 2, 3, 0] rfl)
        refine lv_iconst (v := 1) hx hb dX1_read_129 (by decide) ?_
        have es0 : sX1_read hu pl tp = ((wlg (wst pl (tp.2 / 2)) (fa_fill (rd_leg tp hu) pl.1 (rd_q tp + 1))).1, fa_fill (rd_pr tp) (wlg (wst pl (tp.2 / 2)) (fa_fill (rd_leg tp hu) pl.1 (rd_q tp + 1))).2.1 (rd_q tp), (wlg (wst pl (tp.2 / 2)) (fa_fill (rd_leg tp hu) pl.1 (rd_q tp + 1))).2.2.1, (wlg (wst pl (tp.2 / 2)) (fa_fill (rd_leg tp hu) pl.1 (rd_q tp + 1))).2.2.2.1, (wlg (wst pl (tp.2 / 2)) (fa_fill (rd_leg tp hu) pl.1 (rd_q tp + 1))).2.2.2.2.1, (wlg (wst pl (tp.2 / 2)) (fa_fill (rd_leg tp hu) pl.1 (rd_q tp + 1))).2.2.2.2.2.1, (wlg (wst pl (tp.2 / 2)) (fa_fill (rd_leg tp hu) pl.1 (rd_q tp + 1))).2.2.2.2.2.2) := by rw [sX1_read, if_neg c_1, if_pos c_2, if_pos c_3]
        have er : 1 = rX1_read hu pl tp := by rw [rX1_read, if_neg c_1, if_pos c_2, if_pos c_3]
        refine W.zret (ty := .boolean) (v := 1) hx hb hr rfl (fun t ht hW => ⟨⟨1, (), rfl, er, ?_⟩, hS.F ht⟩) hS.2.2 dX1_read_130
        rw [es0]; exact ⟨by rw [ht]; exact hP, va_K.moved hW.alike hK, hD⟩
      · have c_3 : ¬ nz_b tp.1 tp.2.toNatClampNeg = true := nz_f hj9 hz9
        refine lv_iconst (v := 0) hx hb dX1_read_39 (by decide) ?_
        have es0 : sX1_read hu pl tp = pl := by rw [sX1_read, if_neg c_1, if_pos c_2, if_neg c_3]
        have er : 0 = rX1_read hu pl tp := by rw [rX1_read, if_neg c_1, if_pos c_2, if_neg c_3]
        refine W.zret (ty := .boolean) (v := 0) hx hb hr rfl (fun t ht hW => ⟨⟨0, (), rfl, er, ?_⟩, hS.F ht⟩) hS.2.2 dX1_read_40
        rw [es0]; exact ⟨by rw [ht]; exact hP, va_K.moved hW.alike hK, hD⟩
    · refine lv_iconst (v := 0) hx hb dX1_read_18 (by decide) ?_
      have es0 : sX1_read hu pl tp = pl := by rw [sX1_read, if_neg c_1, if_neg c_2]
      have er : 0 = rX1_read hu pl tp := by rw [rX1_read, if_neg c_1, if_neg c_2]
      refine W.zret (ty := .boolean) (v := 0) hx hb hr rfl (fun t ht hW => ⟨⟨0, (), rfl, er, ?_⟩, hS.F ht⟩) hS.2.2 dX1_read_19
      rw [es0]; exact ⟨by rw [ht]; exact hP, va_K.moved hW.alike hK, hD⟩
