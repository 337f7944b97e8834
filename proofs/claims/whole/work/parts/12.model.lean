/-- the first i places are f's, the others g's -/
def cfL (f g : Nat → Int64) (i : Nat) : Nat → Int64 := fun j => if j < i then f j else g j
theorem cfL_0 (f g : Nat → Int64) : cfL f g 0 = g := rfl
theorem cfL_step (f g : Nat → Int64) (i : Nat) : vp_updL (cfL f g i) i (f i) = cfL f g (i + 1) := by
  funext j
  unfold vp_updL cfL
  by_cases h : j = i
  · subst h; simp
  · by_cases h2 : j < i
    · have h3 : j < i + 1 := by omega
      simp [h, h2, h3]
    · have h3 : ¬ j < i + 1 := by omega
      simp [h, h2, h3]
theorem cfL_z (g : Nat → Int64) (i : Nat) : vp_updL (cfL (fun _ => 0) g i) i 0 = cfL (fun _ => 0) g (i + 1) := cfL_step (fun _ => 0) g i
theorem mk_in2 {k w : Int32} (hk : vp_in k 4) (hw : vp_in w 5) : vp_in ((2 + 5 * k) + w) 92 := by
  obtain ⟨a, ha, rfl⟩ := vp_in_of hk (by decide)
  obtain ⟨b, hb, rfl⟩ := vp_in_of hw (by decide)
  show vp_in ((nI 2 + nI 5 * nI a) + nI b) 92
  rw [pk_mul, nI_add, nI_add]
  exact vp_in_nI (by omega) (by decide)
theorem t_in {x : Int32} {n : Nat} (hx : x = nI n) (h : n ≤ 59) : vp_in x 60 := by
  subst hx
  exact vp_in_nI (by omega) (by decide)
theorem t_s {x : Int32} {n : Nat} (hx : x = nI n) : x + 1 = nI (n + 1) := by rw [hx, nI_1]

set_option maxHeartbeats 4000000 in
set_option maxRecDepth 100000 in
theorem f_copy {p : Program} {l : Launch} {e : Env} {R : Room} {s : State} {m : MethodId} {args : Array Value} {below : List Frame} {meth : Method} {c : Code} {cells slots : Nat} {Q : State → Prop} {H0 : Heap} {A : Nat → Prop} {dC : Nat → ClassId} {dI : Nat → Nat → Nat} {cI cJ : ClassId} (hx : p.tables.exec = Jvm.exec) (hb : c.code = cX4_copy) (hml : c.maxLocals = 2) (hown : s.vm.findClass RX4 = some m.cls) (hts : ∀ w ∈ wsX4_copy, w.before args s = true) (hA : ∀ q : Nat, H0.size ≤ q → A q) (hK : va_K (dC, dI) vwCl [(cI, .int), (cJ, .long)] s) {m0 m1 m2 m3 m4 m5 : Nat} {v : MS} (kk : ∀ (H : Heap) (locs : List Loc) (ls : Array Slot), va_P (dC, dI) vwCl [(m0, .inr (4, [.int v.1, .ref m1, .int v.2.2.1, .ref m2, .ref m3, .int v.2.2.2.2.2.1, .int v.2.2.2.2.2.2.1, .int v.2.2.2.2.2.2.2.1, .int v.2.2.2.2.2.2.2.2.1, .int v.2.2.2.2.2.2.2.2.2.1, .int v.2.2.2.2.2.2.2.2.2.2.1, .int v.2.2.2.2.2.2.2.2.2.2.2.1, .long v.2.2.2.2.2.2.2.2.2.2.2.2.1, .int v.2.2.2.2.2.2.2.2.2.2.2.2.2.1, .ref m4, .ref m5, .int v.2.2.2.2.2.2.2.2.2.2.2.2.2.2.2.2])), (m1, .inl (cI, 60, .inl v.2.1)), (m2, .inl (cJ, 92, .inr (.inl v.2.2.2.1))), (m3, .inl (cJ, 92, .inr (.inl (cfL v.2.2.2.1 v.2.2.2.2.1 92)))), (m4, .inl (cI, 1573, .inl v.2.2.2.2.2.2.2.2.2.2.2.2.2.2.1)), (m5, .inl (cI, 12, .inl v.2.2.2.2.2.2.2.2.2.2.2.2.2.2.2.1))] H → va_D A [(m0, .inr (4, [.int v.1, .ref m1, .int v.2.2.1, .ref m2, .ref m3, .int v.2.2.2.2.2.1, .int v.2.2.2.2.2.2.1, .int v.2.2.2.2.2.2.2.1, .int v.2.2.2.2.2.2.2.2.1, .int v.2.2.2.2.2.2.2.2.2.1, .int v.2.2.2.2.2.2.2.2.2.2.1, .int v.2.2.2.2.2.2.2.2.2.2.2.1, .long v.2.2.2.2.2.2.2.2.2.2.2.2.1, .int v.2.2.2.2.2.2.2.2.2.2.2.2.2.1, .ref m4, .ref m5, .int v.2.2.2.2.2.2.2.2.2.2.2.2.2.2.2.2])), (m1, .inl (cI, 60, .inl v.2.1)), (m2, .inl (cJ, 92, .inr (.inl v.2.2.2.1))), (m3, .inl (cJ, 92, .inr (.inl (cfL v.2.2.2.1 v.2.2.2.2.1 92)))), (m4, .inl (cI, 1573, .inl v.2.2.2.2.2.2.2.2.2.2.2.2.2.2.1)), (m5, .inl (cI, 12, .inl v.2.2.2.2.2.2.2.2.2.2.2.2.2.2.2.1))] → va_S A H0 H locs → lv_has ls 2 [(0, .ref m0), (1, .int (nI 92))] → W p l e R s m args below meth c H locs cells slots Q (F0 m 26 ls [])) : ∀ (n i : Nat) (H : Heap) (locs : List Loc) (ls : Array Slot), i + n = 92 → va_P (dC, dI) vwCl [(m0, .inr (4, [.int v.1, .ref m1, .int v.2.2.1, .ref m2, .ref m3, .int v.2.2.2.2.2.1, .int v.2.2.2.2.2.2.1, .int v.2.2.2.2.2.2.2.1, .int v.2.2.2.2.2.2.2.2.1, .int v.2.2.2.2.2.2.2.2.2.1, .int v.2.2.2.2.2.2.2.2.2.2.1, .int v.2.2.2.2.2.2.2.2.2.2.2.1, .long v.2.2.2.2.2.2.2.2.2.2.2.2.1, .int v.2.2.2.2.2.2.2.2.2.2.2.2.2.1, .ref m4, .ref m5, .int v.2.2.2.2.2.2.2.2.2.2.2.2.2.2.2.2])), (m1, .inl (cI, 60, .inl v.2.1)), (m2, .inl (cJ, 92, .inr (.inl v.2.2.2.1))), (m3, .inl (cJ, 92, .inr (.inl (cfL v.2.2.2.1 v.2.2.2.2.1 i)))), (m4, .inl (cI, 1573, .inl v.2.2.2.2.2.2.2.2.2.2.2.2.2.2.1)), (m5, .inl (cI, 12, .inl v.2.2.2.2.2.2.2.2.2.2.2.2.2.2.2.1))] H → va_D A [(m0, .inr (4, [.int v.1, .ref m1, .int v.2.2.1, .ref m2, .ref m3, .int v.2.2.2.2.2.1, .int v.2.2.2.2.2.2.1, .int v.2.2.2.2.2.2.2.1, .int v.2.2.2.2.2.2.2.2.1, .int v.2.2.2.2.2.2.2.2.2.1, .int v.2.2.2.2.2.2.2.2.2.2.1, .int v.2.2.2.2.2.2.2.2.2.2.2.1, .long v.2.2.2.2.2.2.2.2.2.2.2.2.1, .int v.2.2.2.2.2.2.2.2.2.2.2.2.2.1, .ref m4, .ref m5, .int v.2.2.2.2.2.2.2.2.2.2.2.2.2.2.2.2])), (m1, .inl (cI, 60, .inl v.2.1)), (m2, .inl (cJ, 92, .inr (.inl v.2.2.2.1))), (m3, .inl (cJ, 92, .inr (.inl (cfL v.2.2.2.1 v.2.2.2.2.1 i)))), (m4, .inl (cI, 1573, .inl v.2.2.2.2.2.2.2.2.2.2.2.2.2.2.1)), (m5, .inl (cI, 12, .inl v.2.2.2.2.2.2.2.2.2.2.2.2.2.2.2.1))] → va_S A H0 H locs → lv_has ls 2 [(0, .ref m0), (1, .int (nI i))] → W p l e R s m args below meth c H locs cells slots Q (F0 m 2 ls []) := by
  have hiX4 : ∀ w ∈ u_ws RX4 TX4 17, w ∈ wsX4_copy := by decide +kernel
  intro n
  induction n with
  | zero =>
    intro i H locs ls hi hP hD hS hl
    obtain rfl : i = 92 := by omega
    refine lv_iload_n hx hb dX4_copy_2 rfl (lv_at hl 1 rfl) ?_
    refine lv_bipush (v := 92) hx hb dX4_copy_3 (by decide) ?_
    refine lv_icmp_ge (tgt := 26) hx hb dX4_copy_5 (by decide) (fun c_1 => ?_) (fun c_1 => absurd (by decide +kernel) c_1)
    exact kk _ _ _ hP hD hS (lv_sub hl [0, 1] rfl)
  | succ n ih =>
    intro i H locs ls hi hP hD hS hl
    refine lv_iload_n hx hb dX4_copy_2 rfl (lv_at hl 1 rfl) ?_
    refine lv_bipush (v := 92) hx hb dX4_copy_3 (by decide) ?_
    refine lv_icmp_ge (tgt := 26) hx hb dX4_copy_5 (by decide) (fun c_1 => absurd c_1 (nI_ge (a := i) (b := 92) (by omega) (by decide))) (fun c_1 => ?_)
    refine lv_aload_n hx hb dX4_copy_8 rfl (lv_at hl 0 rfl) ?_
    refine va_get (D := (dC, dI)) (ci := 4) (v := .ref m3) (C := RX4) (T := TX4) (N := 17) hx hb hts hiX4 hown hK hP 0 rfl rfl 4 (by decide) (hts (.fieldLink RX4 17 "TripReckonerModel" "kept" "[J") (by decide +kernel)) (fun _ h9 => h9) rfl dX4_copy_9 ?_
    refine lv_iload_n hx hb dX4_copy_12 rfl (lv_at hl 1 rfl) ?_
    refine lv_aload_n hx hb dX4_copy_13 rfl (lv_at hl 0 rfl) ?_
    refine va_get (D := (dC, dI)) (ci := 4) (v := .ref m2) (C := RX4) (T := TX4) (N := 17) hx hb hts hiX4 hown hK hP 0 rfl rfl 3 (by decide) (hts (.fieldLink RX4 13 "TripReckonerModel" "now" "[J") (by decide +kernel)) (fun _ h9 => h9) rfl dX4_copy_14 ?_
    refine lv_iload_n hx hb dX4_copy_17 rfl (lv_at hl 1 rfl) ?_
    refine va_lald hx hb hK hP 2 1 rfl rfl (vp_in_nI (by omega) (by decide)) dX4_copy_18 ?_
    refine lv_topl (fun z_2 ez_2 => ?_)
    rw [(nI_clamp (n := i) (by omega))] at ez_2
    subst ez_2
    refine va_last hx hb hK hP hD hS 3 1 rfl rfl (vp_in_nI (by omega) (by decide)) dX4_copy_19 (fun H locs hP hD hS => ?_)
    rw [(nI_clamp (n := i) (by omega))] at hP hD
    have hP : va_P (dC, dI) vwCl [(m0, .inr (4, [.int v.1, .ref m1, .int v.2.2.1, .ref m2, .ref m3, .int v.2.2.2.2.2.1, .int v.2.2.2.2.2.2.1, .int v.2.2.2.2.2.2.2.1, .int v.2.2.2.2.2.2.2.2.1, .int v.2.2.2.2.2.2.2.2.2.1, .int v.2.2.2.2.2.2.2.2.2.2.1, .int v.2.2.2.2.2.2.2.2.2.2.2.1, .long v.2.2.2.2.2.2.2.2.2.2.2.2.1, .int v.2.2.2.2.2.2.2.2.2.2.2.2.2.1, .ref m4, .ref m5, .int v.2.2.2.2.2.2.2.2.2.2.2.2.2.2.2.2])), (m1, .inl (cI, 60, .inl v.2.1)), (m2, .inl (cJ, 92, .inr (.inl v.2.2.2.1))), (m3, .inl (cJ, 92, .inr (.inl (vp_updL (cfL v.2.2.2.1 v.2.2.2.2.1 i) i (v.2.2.2.1 i))))), (m4, .inl (cI, 1573, .inl v.2.2.2.2.2.2.2.2.2.2.2.2.2.2.1)), (m5, .inl (cI, 12, .inl v.2.2.2.2.2.2.2.2.2.2.2.2.2.2.2.1))] H := hP
    have hD : va_D A [(m0, .inr (4, [.int v.1, .ref m1, .int v.2.2.1, .ref m2, .ref m3, .int v.2.2.2.2.2.1, .int v.2.2.2.2.2.2.1, .int v.2.2.2.2.2.2.2.1, .int v.2.2.2.2.2.2.2.2.1, .int v.2.2.2.2.2.2.2.2.2.1, .int v.2.2.2.2.2.2.2.2.2.2.1, .int v.2.2.2.2.2.2.2.2.2.2.2.1, .long v.2.2.2.2.2.2.2.2.2.2.2.2.1, .int v.2.2.2.2.2.2.2.2.2.2.2.2.2.1, .ref m4, .ref m5, .int v.2.2.2.2.2.2.2.2.2.2.2.2.2.2.2.2])), (m1, .inl (cI, 60, .inl v.2.1)), (m2, .inl (cJ, 92, .inr (.inl v.2.2.2.1))), (m3, .inl (cJ, 92, .inr (.inl (vp_updL (cfL v.2.2.2.1 v.2.2.2.2.1 i) i (v.2.2.2.1 i))))), (m4, .inl (cI, 1573, .inl v.2.2.2.2.2.2.2.2.2.2.2.2.2.2.1)), (m5, .inl (cI, 12, .inl v.2.2.2.2.2.2.2.2.2.2.2.2.2.2.2.1))] := hD
    refine lv_iinc (v := nI (i + 1)) (lv' := [(1, .int (nI (i + 1))), (0, .ref m0)]) hx hb dX4_copy_20 hl (k := 1) rfl (nI_1 i) (by decide) rfl (fun ls hl => ?_)
    refine lv_goto (tgt := 2) hx hb dX4_copy_23 (by decide) ?_
    have hP : va_P (dC, dI) vwCl [(m0, .inr (4, [.int v.1, .ref m1, .int v.2.2.1, .ref m2, .ref m3, .int v.2.2.2.2.2.1, .int v.2.2.2.2.2.2.1, .int v.2.2.2.2.2.2.2.1, .int v.2.2.2.2.2.2.2.2.1, .int v.2.2.2.2.2.2.2.2.2.1, .int v.2.2.2.2.2.2.2.2.2.2.1, .int v.2.2.2.2.2.2.2.2.2.2.2.1, .long v.2.2.2.2.2.2.2.2.2.2.2.2.1, .int v.2.2.2.2.2.2.2.2.2.2.2.2.2.1, .ref m4, .ref m5, .int v.2.2.2.2.2.2.2.2.2.2.2.2.2.2.2.2])), (m1, .inl (cI, 60, .inl v.2.1)), (m2, .inl (cJ, 92, .inr (.inl v.2.2.2.1))), (m3, .inl (cJ, 92, .inr (.inl (cfL v.2.2.2.1 v.2.2.2.2.1 (i + 1))))), (m4, .inl (cI, 1573, .inl v.2.2.2.2.2.2.2.2.2.2.2.2.2.2.1)), (m5, .inl (cI, 12, .inl v.2.2.2.2.2.2.2.2.2.2.2.2.2.2.2.1))] H := by
      rw [← cfL_step]
      exact hP
    have hD : va_D A [(m0, .inr (4, [.int v.1, .ref m1, .int v.2.2.1, .ref m2, .ref m3, .int v.2.2.2.2.2.1, .int v.2.2.2.2.2.2.1, .int v.2.2.2.2.2.2.2.1, .int v.2.2.2.2.2.2.2.2.1, .int v.2.2.2.2.2.2.2.2.2.1, .int v.2.2.2.2.2.2.2.2.2.2.1, .int v.2.2.2.2.2.2.2.2.2.2.2.1, .long v.2.2.2.2.2.2.2.2.2.2.2.2.1, .int v.2.2.2.2.2.2.2.2.2.2.2.2.2.1, .ref m4, .ref m5, .int v.2.2.2.2.2.2.2.2.2.2.2.2.2.2.2.2])), (m1, .inl (cI, 60, .inl v.2.1)), (m2, .inl (cJ, 92, .inr (.inl v.2.2.2.1))), (m3, .inl (cJ, 92, .inr (.inl (cfL v.2.2.2.1 v.2.2.2.2.1 (i + 1))))), (m4, .inl (cI, 1573, .inl v.2.2.2.2.2.2.2.2.2.2.2.2.2.2.1)), (m5, .inl (cI, 12, .inl v.2.2.2.2.2.2.2.2.2.2.2.2.2.2.2.1))] := by
      rw [← cfL_step]
      exact hD
    exact ih (i + 1)  _ _ _ (by omega) hP hD hS (lv_sub hl [1, 0] rfl)

def sX4_copy (v : MS) : MS :=
  (v.1, v.2.1, v.2.2.1, v.2.2.2.1, cfL v.2.2.2.1 v.2.2.2.2.1 92, v.2.2.2.2.2.1, v.2.2.2.2.2.2.1, v.2.2.2.2.2.2.2.1, v.2.2.2.2.2.2.2.2.1, v.2.2.2.2.2.2.2.2.2.1, v.2.2.2.2.2.2.2.2.2.2.1, v.2.2.2.2.2.2.2.2.2.2.2.1, v.2.2.2.2.2.2.2.2.2.2.2.2.1, v.2.2.2.2.2.2.2.2.2.2.2.2.2.1, v.2.2.2.2.2.2.2.2.2.2.2.2.2.2.1, v.2.2.2.2.2.2.2.2.2.2.2.2.2.2.2.1, v.2.2.2.2.2.2.2.2.2.2.2.2.2.2.2.2)
set_option maxHeartbeats 4000000 in
set_option maxRecDepth 100000 in
theorem kX4_copy (l : Launch) (dC : Nat → ClassId) (dI : Nat → Nat → Nat) (cI cJ : ClassId) (m0 m1 m2 m3 m4 m5 : Nat) (sz : Nat)  (v : MS) : Met l yX4_copy wsX4_copy ({ frames := 0, cells := 0, slots := 0, locals := 0 }) (va_Pc [.ref m0] (fun U => U.heap.size = sz ∧ va_P (dC, dI) vwCl [cM0 m0 m1 m2 m3 m4 m5 v, cM1 cI m1 v, cM2 cJ m2 v, cM3 cJ m3 v, cM4 cI m4 v, cM5 cI m5 v] U.heap ∧ va_K (dC, dI) vwCl [(cI, .int), (cJ, .long)] U ∧ va_D (fun _ => True) [cM0 m0 m1 m2 m3 m4 m5 v, cM1 cI m1 v, cM2 cJ m2 v, cM3 cJ m3 v, cM4 cI m4 v, cM5 cI m5 v])) (va_Qv (fun _ : Unit => True) (fun _ t => va_P (dC, dI) vwCl [cM0 m0 m1 m2 m3 m4 m5 (sX4_copy v), cM1 cI m1 (sX4_copy v), cM2 cJ m2 (sX4_copy v), cM3 cJ m3 (sX4_copy v), cM4 cI m4 (sX4_copy v), cM5 cI m5 (sX4_copy v)] t.heap ∧ va_K (dC, dI) vwCl [(cI, .int), (cJ, .long)] t ∧ va_D (va_A [cM0 m0 m1 m2 m3 m4 m5 v, cM1 cI m1 v, cM2 cJ m2 v, cM3 cJ m3 v, cM4 cI m4 v, cM5 cI m5 v] sz) [cM0 m0 m1 m2 m3 m4 m5 (sX4_copy v), cM1 cI m1 (sX4_copy v), cM2 cJ m2 (sX4_copy v), cM3 cJ m3 (sX4_copy v), cM4 cI m4 (sX4_copy v), cM5 cI m5 (sX4_copy v)]) (va_A [cM0 m0 m1 m2 m3 m4 m5 v, cM1 cI m1 v, cM2 cJ m2 v, cM3 cJ m3 v, cM4 cI m4 v, cM5 cI m5 v] sz)) 0 0 (va_A [cM0 m0 m1 m2 m3 m4 m5 v, cM1 cI m1 v, cM2 cJ m2 v, cM3 cJ m3 v, cM4 cI m4 v, cM5 cI m5 v] sz) := by
  refine Met.ofW (cc := cX4_copy) (maxL := 2) (ret := none) (by decide) rfl ?_
  intro p e s m args below meth c s₁ B hml hv
  obtain ⟨rfl, hsz, hP, hK, hD0⟩ := hv
  have hx := B.exec
  have hb := B.bytes
  have hr := B.returns
  have hts := atoms_spec (ws := wsX4_copy) B.pre
  have hown : s.vm.findClass RX4 = some m.cls := findClass_of_methodNamed B.named
  have hlocks := B.notSynchronized
  subst hsz
  have hD := hD0.self (sz := s.heap.size)
  generalize hAe : va_A [cM0 m0 m1 m2 m3 m4 m5 v, cM1 cI m1 v, cM2 cJ m2 v, cM3 cJ m3 v, cM4 cI m4 v, cM5 cI m5 v] s.heap.size = A at hD ⊢
  have hA : ∀ q : Nat, s.heap.size ≤ q → A q := fun q h => by rw [← hAe]; exact Or.inr h
  have hS : va_S A s.heap s.heap [] := va_S.rf
  have hl := lv_entry ([.ref m0]) (n := 2) (Nat.le_of_ble_eq_true rfl)
  rw [lg_entry_eq]
  generalize (lg_sl ([.ref m0]) ++ List.replicate (2 - (lg_sl ([.ref m0])).length) Slot.unset).toArray = ls at hl ⊢
  have hl : lv_has ls 2 [(0, .ref m0)] := hl
  have hP : va_P (dC, dI) vwCl [cM0 m0 m1 m2 m3 m4 m5 v, cM1 cI m1 v, cM2 cJ m2 v, cM3 cJ m3 v, cM4 cI m4 v, cM5 cI m5 v] s.heap := hP
  refine lv_iconst (v := 0) hx hb dX4_copy_0 (by decide) ?_
  refine lv_istore_n (lv' := [(1, .int 0), (0, .ref m0)]) hx hb dX4_copy_1 rfl hl (by decide) rfl (fun ls hl => ?_)
  have hP : va_P (dC, dI) vwCl [(m0, .inr (4, [.int v.1, .ref m1, .int v.2.2.1, .ref m2, .ref m3, .int v.2.2.2.2.2.1, .int v.2.2.2.2.2.2.1, .int v.2.2.2.2.2.2.2.1, .int v.2.2.2.2.2.2.2.2.1, .int v.2.2.2.2.2.2.2.2.2.1, .int v.2.2.2.2.2.2.2.2.2.2.1, .int v.2.2.2.2.2.2.2.2.2.2.2.1, .long v.2.2.2.2.2.2.2.2.2.2.2.2.1, .int v.2.2.2.2.2.2.2.2.2.2.2.2.2.1, .ref m4, .ref m5, .int v.2.2.2.2.2.2.2.2.2.2.2.2.2.2.2.2])), (m1, .inl (cI, 60, .inl v.2.1)), (m2, .inl (cJ, 92, .inr (.inl v.2.2.2.1))), (m3, .inl (cJ, 92, .inr (.inl (cfL v.2.2.2.1 v.2.2.2.2.1 0)))), (m4, .inl (cI, 1573, .inl v.2.2.2.2.2.2.2.2.2.2.2.2.2.2.1)), (m5, .inl (cI, 12, .inl v.2.2.2.2.2.2.2.2.2.2.2.2.2.2.2.1))] s.heap := hP
  have hD : va_D A [(m0, .inr (4, [.int v.1, .ref m1, .int v.2.2.1, .ref m2, .ref m3, .int v.2.2.2.2.2.1, .int v.2.2.2.2.2.2.1, .int v.2.2.2.2.2.2.2.1, .int v.2.2.2.2.2.2.2.2.1, .int v.2.2.2.2.2.2.2.2.2.1, .int v.2.2.2.2.2.2.2.2.2.2.1, .int v.2.2.2.2.2.2.2.2.2.2.2.1, .long v.2.2.2.2.2.2.2.2.2.2.2.2.1, .int v.2.2.2.2.2.2.2.2.2.2.2.2.2.1, .ref m4, .ref m5, .int v.2.2.2.2.2.2.2.2.2.2.2.2.2.2.2.2])), (m1, .inl (cI, 60, .inl v.2.1)), (m2, .inl (cJ, 92, .inr (.inl v.2.2.2.1))), (m3, .inl (cJ, 92, .inr (.inl (cfL v.2.2.2.1 v.2.2.2.2.1 0)))), (m4, .inl (cI, 1573, .inl v.2.2.2.2.2.2.2.2.2.2.2.2.2.2.1)), (m5, .inl (cI, 12, .inl v.2.2.2.2.2.2.2.2.2.2.2.2.2.2.2.1))] := hD
  refine f_copy hx hb hml hown hts hA hK (fun H locs ls hP hD hS hl => ?_) 92 0 _ _ _ (by omega) hP hD hS (lv_sub hl [1, 0] rfl)
  have es0 : sX4_copy v = (v.1, v.2.1, v.2.2.1, v.2.2.2.1, cfL v.2.2.2.1 v.2.2.2.2.1 92, v.2.2.2.2.2.1, v.2.2.2.2.2.2.1, v.2.2.2.2.2.2.2.1, v.2.2.2.2.2.2.2.2.1, v.2.2.2.2.2.2.2.2.2.1, v.2.2.2.2.2.2.2.2.2.2.1, v.2.2.2.2.2.2.2.2.2.2.2.1, v.2.2.2.2.2.2.2.2.2.2.2.2.1, v.2.2.2.2.2.2.2.2.2.2.2.2.2.1, v.2.2.2.2.2.2.2.2.2.2.2.2.2.2.1, v.2.2.2.2.2.2.2.2.2.2.2.2.2.2.2.1, v.2.2.2.2.2.2.2.2.2.2.2.2.2.2.2.2) := by rw [sX4_copy]
  refine W.vret hx hb hr (fun t ht hW => ⟨⟨(), rfl, trivial, ?_⟩, hS.F ht⟩) hS.2.2 dX4_copy_26
  rw [es0]; exact ⟨by rw [ht]; exact hP, va_K.moved hW.alike hK, hD⟩

set_option maxHeartbeats 4000000 in
set_option maxRecDepth 100000 in
theorem f_begin {p : Program} {l : Launch} {e : Env} {R : Room} {s : State} {m : MethodId} {args : Array Value} {below : List Frame} {meth : Method} {c : Code} {cells slots : Nat} {Q : State → Prop} {H0 : Heap} {A : Nat → Prop} {dC : Nat → ClassId} {dI : Nat → Nat → Nat} {cI cJ : ClassId} (hx : p.tables.exec = Jvm.exec) (hb : c.code = cX4_begin) (hml : c.maxLocals = 2) (hown : s.vm.findClass RX4 = some m.cls) (hts : ∀ w ∈ wsX4_begin, w.before args s = true) (hA : ∀ q : Nat, H0.size ≤ q → A q) (hK : va_K (dC, dI) vwCl [(cI, .int), (cJ, .long)] s) {m0 m1 m2 m3 m4 m5 : Nat} {v : MS} (kk : ∀ (H : Heap) (locs : List Loc) (ls : Array Slot), va_P (dC, dI) vwCl [(m0, .inr (4, [.int v.1, .ref m1, .int v.2.2.1, .ref m2, .ref m3, .int v.2.2.2.2.2.1, .int v.2.2.2.2.2.2.1, .int v.2.2.2.2.2.2.2.1, .int v.2.2.2.2.2.2.2.2.1, .int v.2.2.2.2.2.2.2.2.2.1, .int v.2.2.2.2.2.2.2.2.2.2.1, .int v.2.2.2.2.2.2.2.2.2.2.2.1, .long v.2.2.2.2.2.2.2.2.2.2.2.2.1, .int 1, .ref m4, .ref m5, .int v.2.2.2.2.2.2.2.2.2.2.2.2.2.2.2.2])), (m1, .inl (cI, 60, .inl v.2.1)), (m2, .inl (cJ, 92, .inr (.inl (cfL (fun _ => 0) v.2.2.2.1 92)))), (m3, .inl (cJ, 92, .inr (.inl v.2.2.2.2.1))), (m4, .inl (cI, 1573, .inl v.2.2.2.2.2.2.2.2.2.2.2.2.2.2.1)), (m5, .inl (cI, 12, .inl v.2.2.2.2.2.2.2.2.2.2.2.2.2.2.2.1))] H → va_D A [(m0, .inr (4, [.int v.1, .ref m1, .int v.2.2.1, .ref m2, .ref m3, .int v.2.2.2.2.2.1, .int v.2.2.2.2.2.2.1, .int v.2.2.2.2.2.2.2.1, .int v.2.2.2.2.2.2.2.2.1, .int v.2.2.2.2.2.2.2.2.2.1, .int v.2.2.2.2.2.2.2.2.2.2.1, .int v.2.2.2.2.2.2.2.2.2.2.2.1, .long v.2.2.2.2.2.2.2.2.2.2.2.2.1, .int 1, .ref m4, .ref m5, .int v.2.2.2.2.2.2.2.2.2.2.2.2.2.2.2.2])), (m1, .inl (cI, 60, .inl v.2.1)), (m2, .inl (cJ, 92, .inr (.inl (cfL (fun _ => 0) v.2.2.2.1 92)))), (m3, .inl (cJ, 92, .inr (.inl v.2.2.2.2.1))), (m4, .inl (cI, 1573, .inl v.2.2.2.2.2.2.2.2.2.2.2.2.2.2.1)), (m5, .inl (cI, 12, .inl v.2.2.2.2.2.2.2.2.2.2.2.2.2.2.2.1))] → va_S A H0 H locs → lv_has ls 2 [(0, .ref m0), (1, .int (nI 92))] → W p l e R s m args below meth c H locs cells slots Q (F0 m 34 ls [])) : ∀ (n i : Nat) (H : Heap) (locs : List Loc) (ls : Array Slot), i + n = 92 → va_P (dC, dI) vwCl [(m0, .inr (4, [.int v.1, .ref m1, .int v.2.2.1, .ref m2, .ref m3, .int v.2.2.2.2.2.1, .int v.2.2.2.2.2.2.1, .int v.2.2.2.2.2.2.2.1, .int v.2.2.2.2.2.2.2.2.1, .int v.2.2.2.2.2.2.2.2.2.1, .int v.2.2.2.2.2.2.2.2.2.2.1, .int v.2.2.2.2.2.2.2.2.2.2.2.1, .long v.2.2.2.2.2.2.2.2.2.2.2.2.1, .int 1, .ref m4, .ref m5, .int v.2.2.2.2.2.2.2.2.2.2.2.2.2.2.2.2])), (m1, .inl (cI, 60, .inl v.2.1)), (m2, .inl (cJ, 92, .inr (.inl (cfL (fun _ => 0) v.2.2.2.1 i)))), (m3, .inl (cJ, 92, .inr (.inl v.2.2.2.2.1))), (m4, .inl (cI, 1573, .inl v.2.2.2.2.2.2.2.2.2.2.2.2.2.2.1)), (m5, .inl (cI, 12, .inl v.2.2.2.2.2.2.2.2.2.2.2.2.2.2.2.1))] H → va_D A [(m0, .inr (4, [.int v.1, .ref m1, .int v.2.2.1, .ref m2, .ref m3, .int v.2.2.2.2.2.1, .int v.2.2.2.2.2.2.1, .int v.2.2.2.2.2.2.2.1, .int v.2.2.2.2.2.2.2.2.1, .int v.2.2.2.2.2.2.2.2.2.1, .int v.2.2.2.2.2.2.2.2.2.2.1, .int v.2.2.2.2.2.2.2.2.2.2.2.1, .long v.2.2.2.2.2.2.2.2.2.2.2.2.1, .int 1, .ref m4, .ref m5, .int v.2.2.2.2.2.2.2.2.2.2.2.2.2.2.2.2])), (m1, .inl (cI, 60, .inl v.2.1)), (m2, .inl (cJ, 92, .inr (.inl (cfL (fun _ => 0) v.2.2.2.1 i)))), (m3, .inl (cJ, 92, .inr (.inl v.2.2.2.2.1))), (m4, .inl (cI, 1573, .inl v.2.2.2.2.2.2.2.2.2.2.2.2.2.2.1)), (m5, .inl (cI, 12, .inl v.2.2.2.2.2.2.2.2.2.2.2.2.2.2.2.1))] → va_S A H0 H locs → lv_has ls 2 [(0, .ref m0), (1, .int (nI i))] → W p l e R s m args below meth c H locs cells slots Q (F0 m 15 ls []) := by
  have hiX4 : ∀ w ∈ u_ws RX4 TX4 17, w ∈ wsX4_begin := by decide +kernel
  intro n
  induction n with
  | zero =>
    intro i H locs ls hi hP hD hS hl
    obtain rfl : i = 92 := by omega
    refine lv_iload_n hx hb dX4_begin_15 rfl (lv_at hl 1 rfl) ?_
    refine lv_bipush (v := 92) hx hb dX4_begin_16 (by decide) ?_
    refine lv_icmp_ge (tgt := 34) hx hb dX4_begin_18 (by decide) (fun c_1 => ?_) (fun c_1 => absurd (by decide +kernel) c_1)
    exact kk _ _ _ hP hD hS (lv_sub hl [0, 1] rfl)
  | succ n ih =>
    intro i H locs ls hi hP hD hS hl
    refine lv_iload_n hx hb dX4_begin_15 rfl (lv_at hl 1 rfl) ?_
    refine lv_bipush (v := 92) hx hb dX4_begin_16 (by decide) ?_
    refine lv_icmp_ge (tgt := 34) hx hb dX4_begin_18 (by decide) (fun c_1 => absurd c_1 (nI_ge (a := i) (b := 92) (by omega) (by decide))) (fun c_1 => ?_)
    refine lv_aload_n hx hb dX4_begin_21 rfl (lv_at hl 0 rfl) ?_
    refine va_get (D := (dC, dI)) (ci := 4) (v := .ref m2) (C := RX4) (T := TX4) (N := 17) hx hb hts hiX4 hown hK hP 0 rfl rfl 3 (by decide) (hts (.fieldLink RX4 13 "TripReckonerModel" "now" "[J") (by decide +kernel)) (fun _ h9 => h9) rfl dX4_begin_22 ?_
    refine lv_iload_n hx hb dX4_begin_25 rfl (lv_at hl 1 rfl) ?_
    refine lv_lconst (v := 0) hx hb dX4_begin_26 (by decide) ?_
    refine va_last hx hb hK hP hD hS 2 1 rfl rfl (vp_in_nI (by omega) (by decide)) dX4_begin_27 (fun H locs hP hD hS => ?_)
    rw [(nI_clamp (n := i) (by omega))] at hP hD
    have hP : va_P (dC, dI) vwCl [(m0, .inr (4, [.int v.1, .ref m1, .int v.2.2.1, .ref m2, .ref m3, .int v.2.2.2.2.2.1, .int v.2.2.2.2.2.2.1, .int v.2.2.2.2.2.2.2.1, .int v.2.2.2.2.2.2.2.2.1, .int v.2.2.2.2.2.2.2.2.2.1, .int v.2.2.2.2.2.2.2.2.2.2.1, .int v.2.2.2.2.2.2.2.2.2.2.2.1, .long v.2.2.2.2.2.2.2.2.2.2.2.2.1, .int 1, .ref m4, .ref m5, .int v.2.2.2.2.2.2.2.2.2.2.2.2.2.2.2.2])), (m1, .inl (cI, 60, .inl v.2.1)), (m2, .inl (cJ, 92, .inr (.inl (vp_updL (cfL (fun _ => 0) v.2.2.2.1 i) i 0)))), (m3, .inl (cJ, 92, .inr (.inl v.2.2.2.2.1))), (m4, .inl (cI, 1573, .inl v.2.2.2.2.2.2.2.2.2.2.2.2.2.2.1)), (m5, .inl (cI, 12, .inl v.2.2.2.2.2.2.2.2.2.2.2.2.2.2.2.1))] H := hP
    have hD : va_D A [(m0, .inr (4, [.int v.1, .ref m1, .int v.2.2.1, .ref m2, .ref m3, .int v.2.2.2.2.2.1, .int v.2.2.2.2.2.2.1, .int v.2.2.2.2.2.2.2.1, .int v.2.2.2.2.2.2.2.2.1, .int v.2.2.2.2.2.2.2.2.2.1, .int v.2.2.2.2.2.2.2.2.2.2.1, .int v.2.2.2.2.2.2.2.2.2.2.2.1, .long v.2.2.2.2.2.2.2.2.2.2.2.2.1, .int 1, .ref m4, .ref m5, .int v.2.2.2.2.2.2.2.2.2.2.2.2.2.2.2.2])), (m1, .inl (cI, 60, .inl v.2.1)), (m2, .inl (cJ, 92, .inr (.inl (vp_updL (cfL (fun _ => 0) v.2.2.2.1 i) i 0)))), (m3, .inl (cJ, 92, .inr (.inl v.2.2.2.2.1))), (m4, .inl (cI, 1573, .inl v.2.2.2.2.2.2.2.2.2.2.2.2.2.2.1)), (m5, .inl (cI, 12, .inl v.2.2.2.2.2.2.2.2.2.2.2.2.2.2.2.1))] := hD
    refine lv_iinc (v := nI (i + 1)) (lv' := [(1, .int (nI (i + 1))), (0, .ref m0)]) hx hb dX4_begin_28 hl (k := 1) rfl (nI_1 i) (by decide) rfl (fun ls hl => ?_)
    refine lv_goto (tgt := 15) hx hb dX4_begin_31 (by decide) ?_
    have hP : va_P (dC, dI) vwCl [(m0, .inr (4, [.int v.1, .ref m1, .int v.2.2.1, .ref m2, .ref m3, .int v.2.2.2.2.2.1, .int v.2.2.2.2.2.2.1, .int v.2.2.2.2.2.2.2.1, .int v.2.2.2.2.2.2.2.2.1, .int v.2.2.2.2.2.2.2.2.2.1, .int v.2.2.2.2.2.2.2.2.2.2.1, .int v.2.2.2.2.2.2.2.2.2.2.2.1, .long v.2.2.2.2.2.2.2.2.2.2.2.2.1, .int 1, .ref m4, .ref m5, .int v.2.2.2.2.2.2.2.2.2.2.2.2.2.2.2.2])), (m1, .inl (cI, 60, .inl v.2.1)), (m2, .inl (cJ, 92, .inr (.inl (cfL (fun _ => 0) v.2.2.2.1 (i + 1))))), (m3, .inl (cJ, 92, .inr (.inl v.2.2.2.2.1))), (m4, .inl (cI, 1573, .inl v.2.2.2.2.2.2.2.2.2.2.2.2.2.2.1)), (m5, .inl (cI, 12, .inl v.2.2.2.2.2.2.2.2.2.2.2.2.2.2.2.1))] H := by
      rw [← cfL_z]
      exact hP
    have hD : va_D A [(m0, .inr (4, [.int v.1, .ref m1, .int v.2.2.1, .ref m2, .ref m3, .int v.2.2.2.2.2.1, .int v.2.2.2.2.2.2.1, .int v.2.2.2.2.2.2.2.1, .int v.2.2.2.2.2.2.2.2.1, .int v.2.2.2.2.2.2.2.2.2.1, .int v.2.2.2.2.2.2.2.2.2.2.1, .int v.2.2.2.2.2.2.2.2.2.2.2.1, .long v.2.2.2.2.2.2.2.2.2.2.2.2.1, .int 1, .ref m4, .ref m5, .int v.2.2.2.2.2.2.2.2.2.2.2.2.2.2.2.2])), (m1, .inl (cI, 60, .inl v.2.1)), (m2, .inl (cJ, 92, .inr (.inl (cfL (fun _ => 0) v.2.2.2.1 (i + 1))))), (m3, .inl (cJ, 92, .inr (.inl v.2.2.2.2.1))), (m4, .inl (cI, 1573, .inl v.2.2.2.2.2.2.2.2.2.2.2.2.2.2.1)), (m5, .inl (cI, 12, .inl v.2.2.2.2.2.2.2.2.2.2.2.2.2.2.2.1))] := by
      rw [← cfL_z]
      exact hD
    exact ih (i + 1)  _ _ _ (by omega) hP hD hS (lv_sub hl [1, 0] rfl)

def sX4_begin_g_3 (v : MS) (g_3 : MS) : MS :=
  (g_3.1, g_3.2.1, g_3.2.2.1, g_3.2.2.2.1, g_3.2.2.2.2.1, g_3.2.2.2.2.2.1, g_3.2.2.2.2.2.2.1, g_3.2.2.2.2.2.2.2.1, g_3.2.2.2.2.2.2.2.2.1, g_3.2.2.2.2.2.2.2.2.2.1, g_3.2.2.2.2.2.2.2.2.2.2.1, g_3.2.2.2.2.2.2.2.2.2.2.2.1, 0, g_3.2.2.2.2.2.2.2.2.2.2.2.2.2.1, g_3.2.2.2.2.2.2.2.2.2.2.2.2.2.2.1, g_3.2.2.2.2.2.2.2.2.2.2.2.2.2.2.2.1, g_3.2.2.2.2.2.2.2.2.2.2.2.2.2.2.2.2)
def sX4_begin (v : MS) : MS :=
  if v.2.2.2.2.2.2.2.2.2.2.2.2.2.1 = 0 then
    sX4_begin_g_3 v (sX4_copy (v.1, v.2.1, v.2.2.1, vp_updL (cfL (fun _ => 0) v.2.2.2.1 92) 1 v.2.2.2.2.2.1.toInt64, v.2.2.2.2.1, v.2.2.2.2.2.1, v.2.2.2.2.2.2.1, v.2.2.2.2.2.2.2.1, v.2.2.2.2.2.2.2.2.1, v.2.2.2.2.2.2.2.2.2.1, v.2.2.2.2.2.2.2.2.2.2.1, v.2.2.2.2.2.2.2.2.2.2.2.1, v.2.2.2.2.2.2.2.2.2.2.2.2.1, 1, v.2.2.2.2.2.2.2.2.2.2.2.2.2.2.1, v.2.2.2.2.2.2.2.2.2.2.2.2.2.2.2.1, v.2.2.2.2.2.2.2.2.2.2.2.2.2.2.2.2))
  else
    v
set_option maxHeartbeats 4000000 in
set_option maxRecDepth 100000 in
theorem kX4_begin (l : Launch) (dC : Nat → ClassId) (dI : Nat → Nat → Nat) (cI cJ : ClassId) (m0 m1 m2 m3 m4 m5 : Nat) (sz : Nat)  (v : MS) : Met l yX4_begin wsX4_begin ({ frames := 1, cells := 0, slots := 0, locals := 21 }) (va_Pc [.ref m0] (fun U => U.heap.size = sz ∧ va_P (dC, dI) vwCl [cM0 m0 m1 m2 m3 m4 m5 v, cM1 cI m1 v, cM2 cJ m2 v, cM3 cJ m3 v, cM4 cI m4 v, cM5 cI m5 v] U.heap ∧ va_K (dC, dI) vwCl [(cI, .int), (cJ, .long)] U ∧ va_D (fun _ => True) [cM0 m0 m1 m2 m3 m4 m5 v, cM1 cI m1 v, cM2 cJ m2 v, cM3 cJ m3 v, cM4 cI m4 v, cM5 cI m5 v])) (va_Qv (fun _ : Unit => True) (fun _ t => va_P (dC, dI) vwCl [cM0 m0 m1 m2 m3 m4 m5 (sX4_begin v), cM1 cI m1 (sX4_begin v), cM2 cJ m2 (sX4_begin v), cM3 cJ m3 (sX4_begin v), cM4 cI m4 (sX4_begin v), cM5 cI m5 (sX4_begin v)] t.heap ∧ va_K (dC, dI) vwCl [(cI, .int), (cJ, .long)] t ∧ va_D (va_A [cM0 m0 m1 m2 m3 m4 m5 v, cM1 cI m1 v, cM2 cJ m2 v, cM3 cJ m3 v, cM4 cI m4 v, cM5 cI m5 v] sz) [cM0 m0 m1 m2 m3 m4 m5 (sX4_begin v), cM1 cI m1 (sX4_begin v), cM2 cJ m2 (sX4_begin v), cM3 cJ m3 (sX4_begin v), cM4 cI m4 (sX4_begin v), cM5 cI m5 (sX4_begin v)]) (va_A [cM0 m0 m1 m2 m3 m4 m5 v, cM1 cI m1 v, cM2 cJ m2 v, cM3 cJ m3 v, cM4 cI m4 v, cM5 cI m5 v] sz)) 0 0 (va_A [cM0 m0 m1 m2 m3 m4 m5 v, cM1 cI m1 v, cM2 cJ m2 v, cM3 cJ m3 v, cM4 cI m4 v, cM5 cI m5 v] sz) := by
  refine Met.ofW (cc := cX4_begin) (maxL := 2) (ret := none) (by decide) rfl ?_
  intro p e s m args below meth c s₁ B hml hv
  obtain ⟨rfl, hsz, hP, hK, hD0⟩ := hv
  have hx := B.exec
  have hb := B.bytes
  have hr := B.returns
  have hts := atoms_spec (ws := wsX4_begin) B.pre
  have hown : s.vm.findClass RX4 = some m.cls := findClass_of_methodNamed B.named
  have hlocks := B.notSynchronized
  have hiX4 : ∀ w ∈ u_ws RX4 TX4 17, w ∈ wsX4_begin := by decide +kernel
  subst hsz
  have hD := hD0.self (sz := s.heap.size)
  generalize hAe : va_A [cM0 m0 m1 m2 m3 m4 m5 v, cM1 cI m1 v, cM2 cJ m2 v, cM3 cJ m3 v, cM4 cI m4 v, cM5 cI m5 v] s.heap.size = A at hD ⊢
  have hA : ∀ q : Nat, s.heap.size ≤ q → A q := fun q h => by rw [← hAe]; exact Or.inr h
  have hS : va_S A s.heap s.heap [] := va_S.rf
  have hl := lv_entry ([.ref m0]) (n := 2) (Nat.le_of_ble_eq_true rfl)
  rw [lg_entry_eq]
  generalize (lg_sl ([.ref m0]) ++ List.replicate (2 - (lg_sl ([.ref m0])).length) Slot.unset).toArray = ls at hl ⊢
  have hl : lv_has ls 2 [(0, .ref m0)] := hl
  have hP : va_P (dC, dI) vwCl [cM0 m0 m1 m2 m3 m4 m5 v, cM1 cI m1 v, cM2 cJ m2 v, cM3 cJ m3 v, cM4 cI m4 v, cM5 cI m5 v] s.heap := hP
  refine lv_aload_n hx hb dX4_begin_0 rfl (lv_at hl 0 rfl) ?_
  refine va_get (D := (dC, dI)) (ci := 4) (v := .int v.2.2.2.2.2.2.2.2.2.2.2.2.2.1) (C := RX4) (T := TX4) (N := 17) hx hb hts hiX4 hown hK hP 0 rfl rfl 13 (by decide) (hts (.fieldLink RX4 59 "TripReckonerModel" "begun" "Z") (by decide +kernel)) (fun _ h9 => h9) rfl dX4_begin_1 ?_
  refine lv_if_eq (tgt := 8) hx hb dX4_begin_4 (by decide) (fun c_1 => ?_) (fun c_1 => ?_)
  · refine lv_aload_n hx hb dX4_begin_8 rfl (lv_at hl 0 rfl) ?_
    refine lv_iconst (v := 1) hx hb dX4_begin_9 (by decide) ?_
    refine va_put (D := (dC, dI)) (ci := 4) (v := .int 1) (ty := .boolean) (C := RX4) (T := TX4) (N := 17) hx hb hts hiX4 tyX4 tyX4_ok nmX4 hown hK hP hD hS 0 rfl rfl 13 (by decide) (hts (.fieldLink RX4 59 "TripReckonerModel" "begun" "Z") (by decide +kernel)) (fun _ h9 => h9) rfl (by decide +kernel) rfl rfl (Nat.le_of_ble_eq_true rfl) dX4_begin_10 (fun H locs hP hD hS => ?_)
    have hP : va_P (dC, dI) vwCl [(m0, .inr (4, [.int v.1, .ref m1, .int v.2.2.1, .ref m2, .ref m3, .int v.2.2.2.2.2.1, .int v.2.2.2.2.2.2.1, .int v.2.2.2.2.2.2.2.1, .int v.2.2.2.2.2.2.2.2.1, .int v.2.2.2.2.2.2.2.2.2.1, .int v.2.2.2.2.2.2.2.2.2.2.1, .int v.2.2.2.2.2.2.2.2.2.2.2.1, .long v.2.2.2.2.2.2.2.2.2.2.2.2.1, .int 1, .ref m4, .ref m5, .int v.2.2.2.2.2.2.2.2.2.2.2.2.2.2.2.2])), (m1, .inl (cI, 60, .inl v.2.1)), (m2, .inl (cJ, 92, .inr (.inl v.2.2.2.1))), (m3, .inl (cJ, 92, .inr (.inl v.2.2.2.2.1))), (m4, .inl (cI, 1573, .inl v.2.2.2.2.2.2.2.2.2.2.2.2.2.2.1)), (m5, .inl (cI, 12, .inl v.2.2.2.2.2.2.2.2.2.2.2.2.2.2.2.1))] H := hP
    have hD : va_D A [(m0, .inr (4, [.int v.1, .ref m1, .int v.2.2.1, .ref m2, .ref m3, .int v.2.2.2.2.2.1, .int v.2.2.2.2.2.2.1, .int v.2.2.2.2.2.2.2.1, .int v.2.2.2.2.2.2.2.2.1, .int v.2.2.2.2.2.2.2.2.2.1, .int v.2.2.2.2.2.2.2.2.2.2.1, .int v.2.2.2.2.2.2.2.2.2.2.2.1, .long v.2.2.2.2.2.2.2.2.2.2.2.2.1, .int 1, .ref m4, .ref m5, .int v.2.2.2.2.2.2.2.2.2.2.2.2.2.2.2.2])), (m1, .inl (cI, 60, .inl v.2.1)), (m2, .inl (cJ, 92, .inr (.inl v.2.2.2.1))), (m3, .inl (cJ, 92, .inr (.inl v.2.2.2.2.1))), (m4, .inl (cI, 1573, .inl v.2.2.2.2.2.2.2.2.2.2.2.2.2.2.1)), (m5, .inl (cI, 12, .inl v.2.2.2.2.2.2.2.2.2.2.2.2.2.2.2.1))] := hD
    refine lv_iconst (v := 0) hx hb dX4_begin_13 (by decide) ?_
    refine lv_istore_n (lv' := [(1, .int 0), (0, .ref m0)]) hx hb dX4_begin_14 rfl hl (by decide) rfl (fun ls hl => ?_)
    have hP : va_P (dC, dI) vwCl [(m0, .inr (4, [.int v.1, .ref m1, .int v.2.2.1, .ref m2, .ref m3, .int v.2.2.2.2.2.1, .int v.2.2.2.2.2.2.1, .int v.2.2.2.2.2.2.2.1, .int v.2.2.2.2.2.2.2.2.1, .int v.2.2.2.2.2.2.2.2.2.1, .int v.2.2.2.2.2.2.2.2.2.2.1, .int v.2.2.2.2.2.2.2.2.2.2.2.1, .long v.2.2.2.2.2.2.2.2.2.2.2.2.1, .int 1, .ref m4, .ref m5, .int v.2.2.2.2.2.2.2.2.2.2.2.2.2.2.2.2])), (m1, .inl (cI, 60, .inl v.2.1)), (m2, .inl (cJ, 92, .inr (.inl (cfL (fun _ => 0) v.2.2.2.1 0)))), (m3, .inl (cJ, 92, .inr (.inl v.2.2.2.2.1))), (m4, .inl (cI, 1573, .inl v.2.2.2.2.2.2.2.2.2.2.2.2.2.2.1)), (m5, .inl (cI, 12, .inl v.2.2.2.2.2.2.2.2.2.2.2.2.2.2.2.1))] H := hP
    have hD : va_D A [(m0, .inr (4, [.int v.1, .ref m1, .int v.2.2.1, .ref m2, .ref m3, .int v.2.2.2.2.2.1, .int v.2.2.2.2.2.2.1, .int v.2.2.2.2.2.2.2.1, .int v.2.2.2.2.2.2.2.2.1, .int v.2.2.2.2.2.2.2.2.2.1, .int v.2.2.2.2.2.2.2.2.2.2.1, .int v.2.2.2.2.2.2.2.2.2.2.2.1, .long v.2.2.2.2.2.2.2.2.2.2.2.2.1, .int 1, .ref m4, .ref m5, .int v.2.2.2.2.2.2.2.2.2.2.2.2.2.2.2.2])), (m1, .inl (cI, 60, .inl v.2.1)), (m2, .inl (cJ, 92, .inr (.inl (cfL (fun _ => 0) v.2.2.2.1 0)))), (m3, .inl (cJ, 92, .inr (.inl v.2.2.2.2.1))), (m4, .inl (cI, 1573, .inl v.2.2.2.2.2.2.2.2.2.2.2.2.2.2.1)), (m5, .inl (cI, 12, .inl v.2.2.2.2.2.2.2.2.2.2.2.2.2.2.2.1))] := hD
    refine f_begin hx hb hml hown hts hA hK (fun H locs ls hP hD hS hl => ?_) 92 0 _ _ _ (by omega) hP hD hS (lv_sub hl [1, 0] rfl)
    refine lv_aload_n hx hb dX4_begin_34 rfl (lv_at hl 0 rfl) ?_
    refine va_get (D := (dC, dI)) (ci := 4) (v := .ref m2) (C := RX4) (T := TX4) (N := 17) hx hb hts hiX4 hown hK hP 0 rfl rfl 3 (by decide) (hts (.fieldLink RX4 13 "TripReckonerModel" "now" "[J") (by decide +kernel)) (fun _ h9 => h9) rfl dX4_begin_35 ?_
    refine lv_iconst (v := 1) hx hb dX4_begin_38 (by decide) ?_
    refine lv_aload_n hx hb dX4_begin_39 rfl (lv_at hl 0 rfl) ?_
    refine va_get (D := (dC, dI)) (ci := 4) (v := .int v.2.2.2.2.2.1) (C := RX4) (T := TX4) (N := 17) hx hb hts hiX4 hown hK hP 0 rfl rfl 5 (by decide) (hts (.fieldLink RX4 21 "TripReckonerModel" "cap" "I") (by decide +kernel)) (fun _ h9 => h9) rfl dX4_begin_40 ?_
    refine lv_i2l (v := v.2.2.2.2.2.1.toInt64) hx hb dX4_begin_43 rfl ?_
    refine va_last hx hb hK hP hD hS 2 1 rfl rfl (vd (by decide +kernel)) dX4_begin_44 (fun H locs hP hD hS => ?_)
    have hP : va_P (dC, dI) vwCl [(m0, .inr (4, [.int v.1, .ref m1, .int v.2.2.1, .ref m2, .ref m3, .int v.2.2.2.2.2.1, .int v.2.2.2.2.2.2.1, .int v.2.2.2.2.2.2.2.1, .int v.2.2.2.2.2.2.2.2.1, .int v.2.2.2.2.2.2.2.2.2.1, .int v.2.2.2.2.2.2.2.2.2.2.1, .int v.2.2.2.2.2.2.2.2.2.2.2.1, .long v.2.2.2.2.2.2.2.2.2.2.2.2.1, .int 1, .ref m4, .ref m5, .int v.2.2.2.2.2.2.2.2.2.2.2.2.2.2.2.2])), (m1, .inl (cI, 60, .inl v.2.1)), (m2, .inl (cJ, 92, .inr (.inl (vp_updL (cfL (fun _ => 0) v.2.2.2.1 92) 1 v.2.2.2.2.2.1.toInt64)))), (m3, .inl (cJ, 92, .inr (.inl v.2.2.2.2.1))), (m4, .inl (cI, 1573, .inl v.2.2.2.2.2.2.2.2.2.2.2.2.2.2.1)), (m5, .inl (cI, 12, .inl v.2.2.2.2.2.2.2.2.2.2.2.2.2.2.2.1))] H := hP
    have hD : va_D A [(m0, .inr (4, [.int v.1, .ref m1, .int v.2.2.1, .ref m2, .ref m3, .int v.2.2.2.2.2.1, .int v.2.2.2.2.2.2.1, .int v.2.2.2.2.2.2.2.1, .int v.2.2.2.2.2.2.2.2.1, .int v.2.2.2.2.2.2.2.2.2.1, .int v.2.2.2.2.2.2.2.2.2.2.1, .int v.2.2.2.2.2.2.2.2.2.2.2.1, .long v.2.2.2.2.2.2.2.2.2.2.2.2.1, .int 1, .ref m4, .ref m5, .int v.2.2.2.2.2.2.2.2.2.2.2.2.2.2.2.2])), (m1, .inl (cI, 60, .inl v.2.1)), (m2, .inl (cJ, 92, .inr (.inl (vp_updL (cfL (fun _ => 0) v.2.2.2.1 92) 1 v.2.2.2.2.2.1.toInt64)))), (m3, .inl (cJ, 92, .inr (.inl v.2.2.2.2.1))), (m4, .inl (cI, 1573, .inl v.2.2.2.2.2.2.2.2.2.2.2.2.2.2.1)), (m5, .inl (cI, 12, .inl v.2.2.2.2.2.2.2.2.2.2.2.2.2.2.2.1))] := hD
    refine lv_aload_n hx hb dX4_begin_45 rfl (lv_at hl 0 rfl) ?_
    have hPc := hP.sub (ws' := [(m0, .inr (4, [.int v.1, .ref m1, .int v.2.2.1, .ref m2, .ref m3, .int v.2.2.2.2.2.1, .int v.2.2.2.2.2.2.1, .int v.2.2.2.2.2.2.2.1, .int v.2.2.2.2.2.2.2.2.1, .int v.2.2.2.2.2.2.2.2.2.1, .int v.2.2.2.2.2.2.2.2.2.2.1, .int v.2.2.2.2.2.2.2.2.2.2.2.1, .long v.2.2.2.2.2.2.2.2.2.2.2.2.1, .int 1, .ref m4, .ref m5, .int v.2.2.2.2.2.2.2.2.2.2.2.2.2.2.2.2])), (m1, .inl (cI, 60, .inl v.2.1)), (m2, .inl (cJ, 92, .inr (.inl (vp_updL (cfL (fun _ => 0) v.2.2.2.1 92) 1 v.2.2.2.2.2.1.toInt64)))), (m3, .inl (cJ, 92, .inr (.inl v.2.2.2.2.1))), (m4, .inl (cI, 1573, .inl v.2.2.2.2.2.2.2.2.2.2.2.2.2.2.1)), (m5, .inl (cI, 12, .inl v.2.2.2.2.2.2.2.2.2.2.2.2.2.2.2.1))]) [0, 1, 2, 3, 4, 5] rfl
    have hDc := hD.sub (ws' := [(m0, .inr (4, [.int v.1, .ref m1, .int v.2.2.1, .ref m2, .ref m3, .int v.2.2.2.2.2.1, .int v.2.2.2.2.2.2.1, .int v.2.2.2.2.2.2.2.1, .int v.2.2.2.2.2.2.2.2.1, .int v.2.2.2.2.2.2.2.2.2.1, .int v.2.2.2.2.2.2.2.2.2.2.1, .int v.2.2.2.2.2.2.2.2.2.2.2.1, .long v.2.2.2.2.2.2.2.2.2.2.2.2.1, .int 1, .ref m4, .ref m5, .int v.2.2.2.2.2.2.2.2.2.2.2.2.2.2.2.2])), (m1, .inl (cI, 60, .inl v.2.1)), (m2, .inl (cJ, 92, .inr (.inl (vp_updL (cfL (fun _ => 0) v.2.2.2.1 92) 1 v.2.2.2.2.2.1.toInt64)))), (m3, .inl (cJ, 92, .inr (.inl v.2.2.2.2.1))), (m4, .inl (cI, 1573, .inl v.2.2.2.2.2.2.2.2.2.2.2.2.2.2.1)), (m5, .inl (cI, 12, .inl v.2.2.2.2.2.2.2.2.2.2.2.2.2.2.2.1))]) [0, 1, 2, 3, 4, 5] (by decide) rfl
    have hFc := va_free (wc := [(m0, .inr (4, [.int v.1, .ref m1, .int v.2.2.1, .ref m2, .ref m3, .int v.2.2.2.2.2.1, .int v.2.2.2.2.2.2.1, .int v.2.2.2.2.2.2.2.1, .int v.2.2.2.2.2.2.2.2.1, .int v.2.2.2.2.2.2.2.2.2.1, .int v.2.2.2.2.2.2.2.2.2.2.1, .int v.2.2.2.2.2.2.2.2.2.2.2.1, .long v.2.2.2.2.2.2.2.2.2.2.2.2.1, .int 1, .ref m4, .ref m5, .int v.2.2.2.2.2.2.2.2.2.2.2.2.2.2.2.2])), (m1, .inl (cI, 60, .inl v.2.1)), (m2, .inl (cJ, 92, .inr (.inl (vp_updL (cfL (fun _ => 0) v.2.2.2.1 92) 1 v.2.2.2.2.2.1.toInt64)))), (m3, .inl (cJ, 92, .inr (.inl v.2.2.2.2.1))), (m4, .inl (cI, 1573, .inl v.2.2.2.2.2.2.2.2.2.2.2.2.2.2.1)), (m5, .inl (cI, 12, .inl v.2.2.2.2.2.2.2.2.2.2.2.2.2.2.2.1))]) hD hS hA [0, 1, 2, 3, 4, 5] rfl
    refine va_callv (va_runV (As := []) (rest := []) ⟨hx, hb, hml, hown, hts⟩ (kX4_copy l dC dI cI cJ m0 m1 m2 m3 m4 m5 H.size (v.1, v.2.1, v.2.2.1, vp_updL (cfL (fun _ => 0) v.2.2.2.1 92) 1 v.2.2.2.2.2.1.toInt64, v.2.2.2.2.1, v.2.2.2.2.2.1, v.2.2.2.2.2.2.1, v.2.2.2.2.2.2.2.1, v.2.2.2.2.2.2.2.2.1, v.2.2.2.2.2.2.2.2.2.1, v.2.2.2.2.2.2.2.2.2.2.1, v.2.2.2.2.2.2.2.2.2.2.2.1, v.2.2.2.2.2.2.2.2.2.2.2.2.1, 1, v.2.2.2.2.2.2.2.2.2.2.2.2.2.2.1, v.2.2.2.2.2.2.2.2.2.2.2.2.2.2.2.1, v.2.2.2.2.2.2.2.2.2.2.2.2.2.2.2.2)) (cwV 0 hts gX4_begin_X4_copy rfl rfl rfl (by decide +kernel) ⟨Nat.le_of_ble_eq_true rfl, Nat.le_of_ble_eq_true rfl⟩) ⟨fun a U g mk q => by obtain ⟨q0, q1, qP, qK, qD⟩ := q; exact ⟨q0, q1, qP, va_K.moved (u := U) (U := U.calling g mk a) (Vm.Alike.refl U.vm) qK, qD⟩, va_recv hK hPc (ci := 4) (q0 := 0) rfl rfl, fun U hU hW => ⟨rfl, by rw [hU], by rw [hU]; exact hPc, va_K.moved hW.alike hK, hDc.weaken (fun _ _ _ _ => trivial)⟩⟩ rfl rfl hl.1 rfl (lv_room (Nat.le_of_ble_eq_true rfl)) dX4_begin_46 ⟨Nat.le_of_ble_eq_true rfl, Nat.le_of_ble_eq_true rfl⟩) hS (fun q _ h => hFc q h) hFc (fun _ t H1 locs ht hvm hw hB hz1 hk1 hS => ?_)
    obtain ⟨hP1, hK1, hD1⟩ := hB
    rw [ht] at hP1
    obtain ⟨g_3, eg_3⟩ : ∃ z, z = sX4_copy (v.1, v.2.1, v.2.2.1, vp_updL (cfL (fun _ => 0) v.2.2.2.1 92) 1 v.2.2.2.2.2.1.toInt64, v.2.2.2.2.1, v.2.2.2.2.2.1, v.2.2.2.2.2.2.1, v.2.2.2.2.2.2.2.1, v.2.2.2.2.2.2.2.2.1, v.2.2.2.2.2.2.2.2.2.1, v.2.2.2.2.2.2.2.2.2.2.1, v.2.2.2.2.2.2.2.2.2.2.2.1, v.2.2.2.2.2.2.2.2.2.2.2.2.1, 1, v.2.2.2.2.2.2.2.2.2.2.2.2.2.2.1, v.2.2.2.2.2.2.2.2.2.2.2.2.2.2.2.1, v.2.2.2.2.2.2.2.2.2.2.2.2.2.2.2.2) := ⟨_, rfl⟩
    rw [← eg_3] at hP1 hD1
    obtain ⟨hP, hD⟩ := va_join (wr := []) (w1 := [cM0 m0 m1 m2 m3 m4 m5 g_3, cM1 cI m1 g_3, cM2 cJ m2 g_3, cM3 cJ m3 g_3, cM4 cI m4 g_3, cM5 cI m5 g_3]) hP hD [0, 1, 2, 3, 4, 5] [] rfl rfl (by decide) (by decide) hk1 hFc hP1 hD1
    generalize H1 = H at hP hS ⊢
    have hP : va_P (dC, dI) vwCl [cM0 m0 m1 m2 m3 m4 m5 g_3, cM1 cI m1 g_3, cM2 cJ m2 g_3, cM3 cJ m3 g_3, cM4 cI m4 g_3, cM5 cI m5 g_3] H := hP
    have hD : va_D A [cM0 m0 m1 m2 m3 m4 m5 g_3, cM1 cI m1 g_3, cM2 cJ m2 g_3, cM3 cJ m3 g_3, cM4 cI m4 g_3, cM5 cI m5 g_3] := hD
    refine lv_aload_n hx hb dX4_begin_49 rfl (lv_at hl 0 rfl) ?_
    refine lv_lconst (v := 0) hx hb dX4_begin_50 (by decide) ?_
    refine va_put (D := (dC, dI)) (ci := 4) (v := .long 0) (ty := .long) (C := RX4) (T := TX4) (N := 17) hx hb hts hiX4 tyX4 tyX4_ok nmX4 hown hK hP hD hS 0 rfl rfl 12 (by decide) (hts (.fieldLink RX4 66 "TripReckonerModel" "all" "J") (by decide +kernel)) (fun _ h9 => h9) rfl (by decide +kernel) rfl rfl (Nat.le_of_ble_eq_true rfl) dX4_begin_51 (fun H locs hP hD hS => ?_)
    have hP : va_P (dC, dI) vwCl [(m0, .inr (4, [.int g_3.1, .ref m1, .int g_3.2.2.1, .ref m2, .ref m3, .int g_3.2.2.2.2.2.1, .int g_3.2.2.2.2.2.2.1, .int g_3.2.2.2.2.2.2.2.1, .int g_3.2.2.2.2.2.2.2.2.1, .int g_3.2.2.2.2.2.2.2.2.2.1, .int g_3.2.2.2.2.2.2.2.2.2.2.1, .int g_3.2.2.2.2.2.2.2.2.2.2.2.1, .long 0, .int g_3.2.2.2.2.2.2.2.2.2.2.2.2.2.1, .ref m4, .ref m5, .int g_3.2.2.2.2.2.2.2.2.2.2.2.2.2.2.2.2])), (m1, .inl (cI, 60, .inl g_3.2.1)), (m2, .inl (cJ, 92, .inr (.inl g_3.2.2.2.1))), (m3, .inl (cJ, 92, .inr (.inl g_3.2.2.2.2.1))), (m4, .inl (cI, 1573, .inl g_3.2.2.2.2.2.2.2.2.2.2.2.2.2.2.1)), (m5, .inl (cI, 12, .inl g_3.2.2.2.2.2.2.2.2.2.2.2.2.2.2.2.1))] H := hP
    have hD : va_D A [(m0, .inr (4, [.int g_3.1, .ref m1, .int g_3.2.2.1, .ref m2, .ref m3, .int g_3.2.2.2.2.2.1, .int g_3.2.2.2.2.2.2.1, .int g_3.2.2.2.2.2.2.2.1, .int g_3.2.2.2.2.2.2.2.2.1, .int g_3.2.2.2.2.2.2.2.2.2.1, .int g_3.2.2.2.2.2.2.2.2.2.2.1, .int g_3.2.2.2.2.2.2.2.2.2.2.2.1, .long 0, .int g_3.2.2.2.2.2.2.2.2.2.2.2.2.2.1, .ref m4, .ref m5, .int g_3.2.2.2.2.2.2.2.2.2.2.2.2.2.2.2.2])), (m1, .inl (cI, 60, .inl g_3.2.1)), (m2, .inl (cJ, 92, .inr (.inl g_3.2.2.2.1))), (m3, .inl (cJ, 92, .inr (.inl g_3.2.2.2.2.1))), (m4, .inl (cI, 1573, .inl g_3.2.2.2.2.2.2.2.2.2.2.2.2.2.2.1)), (m5, .inl (cI, 12, .inl g_3.2.2.2.2.2.2.2.2.2.2.2.2.2.2.2.1))] := hD
    have es0 : sX4_begin v = (g_3.1, g_3.2.1, g_3.2.2.1, g_3.2.2.2.1, g_3.2.2.2.2.1, g_3.2.2.2.2.2.1, g_3.2.2.2.2.2.2.1, g_3.2.2.2.2.2.2.2.1, g_3.2.2.2.2.2.2.2.2.1, g_3.2.2.2.2.2.2.2.2.2.1, g_3.2.2.2.2.2.2.2.2.2.2.1, g_3.2.2.2.2.2.2.2.2.2.2.2.1, 0, g_3.2.2.2.2.2.2.2.2.2.2.2.2.2.1, g_3.2.2.2.2.2.2.2.2.2.2.2.2.2.2.1, g_3.2.2.2.2.2.2.2.2.2.2.2.2.2.2.2.1, g_3.2.2.2.2.2.2.2.2.2.2.2.2.2.2.2.2) := by rw [sX4_begin, if_pos c_1, ← eg_3, sX4_begin_g_3]
    refine W.vret hx hb hr (fun t ht hW => ⟨⟨(), rfl, trivial, ?_⟩, hS.F ht⟩) hS.2.2 dX4_begin_54
    rw [es0]; exact ⟨by rw [ht]; exact hP, va_K.moved hW.alike hK, hD⟩
  · have es0 : sX4_begin v = v := by rw [sX4_begin, if_neg c_1]
    refine W.vret hx hb hr (fun t ht hW => ⟨⟨(), rfl, trivial, ?_⟩, hS.F ht⟩) hS.2.2 dX4_begin_7
    rw [es0]; exact ⟨by rw [ht]; exact hP, va_K.moved hW.alike hK, hD⟩

def rX4_thrown (v : MS) : Int32 :=
  v.1
set_option maxHeartbeats 4000000 in
set_option maxRecDepth 100000 in
theorem kX4_thrown (l : Launch) (dC : Nat → ClassId) (dI : Nat → Nat → Nat) (cI cJ : ClassId) (m0 m1 m2 m3 m4 m5 : Nat) (sz : Nat)  (v : MS) : Met l yX4_thrown wsX4_thrown ({ frames := 0, cells := 0, slots := 0, locals := 0 }) (va_Pc [.ref m0] (fun U => U.heap.size = sz ∧ va_P (dC, dI) vwCl [cM0 m0 m1 m2 m3 m4 m5 v, cM1 cI m1 v, cM2 cJ m2 v, cM3 cJ m3 v, cM4 cI m4 v, cM5 cI m5 v] U.heap ∧ va_K (dC, dI) vwCl [(cI, .int), (cJ, .long)] U ∧ va_D (fun _ => True) [cM0 m0 m1 m2 m3 m4 m5 v, cM1 cI m1 v, cM2 cJ m2 v, cM3 cJ m3 v, cM4 cI m4 v, cM5 cI m5 v])) (va_Qi (fun (r : Int32) (_ : Unit) => r = rX4_thrown v) (fun _ t => va_P (dC, dI) vwCl [cM0 m0 m1 m2 m3 m4 m5 v, cM1 cI m1 v, cM2 cJ m2 v, cM3 cJ m3 v, cM4 cI m4 v, cM5 cI m5 v] t.heap ∧ va_K (dC, dI) vwCl [(cI, .int), (cJ, .long)] t ∧ va_D (va_A [cM0 m0 m1 m2 m3 m4 m5 v, cM1 cI m1 v, cM2 cJ m2 v, cM3 cJ m3 v, cM4 cI m4 v, cM5 cI m5 v] sz) [cM0 m0 m1 m2 m3 m4 m5 v, cM1 cI m1 v, cM2 cJ m2 v, cM3 cJ m3 v, cM4 cI m4 v, cM5 cI m5 v]) (va_A [cM0 m0 m1 m2 m3 m4 m5 v, cM1 cI m1 v, cM2 cJ m2 v, cM3 cJ m3 v, cM4 cI m4 v, cM5 cI m5 v] sz)) 0 0 (va_A [cM0 m0 m1 m2 m3 m4 m5 v, cM1 cI m1 v, cM2 cJ m2 v, cM3 cJ m3 v, cM4 cI m4 v, cM5 cI m5 v] sz) := by
  refine Met.ofW (cc := cX4_thrown) (maxL := 1) (ret := (some .int)) (by decide) rfl ?_
  intro p e s m args below meth c s₁ B hml hv
  obtain ⟨rfl, hsz, hP, hK, hD0⟩ := hv
  have hx := B.exec
  have hb := B.bytes
  have hr := B.returns
  have hts := atoms_spec (ws := wsX4_thrown) B.pre
  have hown : s.vm.findClass RX4 = some m.cls := findClass_of_methodNamed B.named
  have hlocks := B.notSynchronized
  have hiX4 : ∀ w ∈ u_ws RX4 TX4 17, w ∈ wsX4_thrown := by decide +kernel
  subst hsz
  have hD := hD0.self (sz := s.heap.size)
  generalize hAe : va_A [cM0 m0 m1 m2 m3 m4 m5 v, cM1 cI m1 v, cM2 cJ m2 v, cM3 cJ m3 v, cM4 cI m4 v, cM5 cI m5 v] s.heap.size = A at hD ⊢
  have hA : ∀ q : Nat, s.heap.size ≤ q → A q := fun q h => by rw [← hAe]; exact Or.inr h
  have hS : va_S A s.heap s.heap [] := va_S.rf
  have hl := lv_entry ([.ref m0]) (n := 1) (Nat.le_of_ble_eq_true rfl)
  rw [lg_entry_eq]
  generalize (lg_sl ([.ref m0]) ++ List.replicate (1 - (lg_sl ([.ref m0])).length) Slot.unset).toArray = ls at hl ⊢
  have hl : lv_has ls 1 [(0, .ref m0)] := hl
  have hP : va_P (dC, dI) vwCl [cM0 m0 m1 m2 m3 m4 m5 v, cM1 cI m1 v, cM2 cJ m2 v, cM3 cJ m3 v, cM4 cI m4 v, cM5 cI m5 v] s.heap := hP
  refine lv_aload_n hx hb dX4_thrown_0 rfl (lv_at hl 0 rfl) ?_
  refine va_get (D := (dC, dI)) (ci := 4) (v := .int v.1) (C := RX4) (T := TX4) (N := 17) hx hb hts hiX4 hown hK hP 0 rfl rfl 0 (by decide) (hts (.fieldLink RX4 49 "TripReckonerModel" "thrown" "I") (by decide +kernel)) (fun _ h9 => h9) rfl dX4_thrown_1 ?_
  have er : v.1 = rX4_thrown v := by rw [rX4_thrown]
  refine W.iret (v := v.1) hx hb hr (fun t ht hW => ⟨⟨v.1, (), rfl, er, ?_⟩, hS.F ht⟩) hS.2.2 dX4_thrown_4
  exact ⟨by rw [ht]; exact hP, va_K.moved hW.alike hK, hD⟩

def sX4_refuse (v : MS) : MS :=
  (1, v.2.1, v.2.2.1, v.2.2.2.1, v.2.2.2.2.1, v.2.2.2.2.2.1, v.2.2.2.2.2.2.1, v.2.2.2.2.2.2.2.1, v.2.2.2.2.2.2.2.2.1, v.2.2.2.2.2.2.2.2.2.1, v.2.2.2.2.2.2.2.2.2.2.1, v.2.2.2.2.2.2.2.2.2.2.2.1, v.2.2.2.2.2.2.2.2.2.2.2.2.1, v.2.2.2.2.2.2.2.2.2.2.2.2.2.1, v.2.2.2.2.2.2.2.2.2.2.2.2.2.2.1, v.2.2.2.2.2.2.2.2.2.2.2.2.2.2.2.1, v.2.2.2.2.2.2.2.2.2.2.2.2.2.2.2.2)
def rX4_refuse (v : MS) : Int32 :=
  0
set_option maxHeartbeats 4000000 in
set_option maxRecDepth 100000 in
theorem kX4_refuse (l : Launch) (dC : Nat → ClassId) (dI : Nat → Nat → Nat) (cI cJ : ClassId) (m0 m1 m2 m3 m4 m5 : Nat) (sz : Nat)  (v : MS) : Met l yX4_refuse wsX4_refuse ({ frames := 0, cells := 0, slots := 0, locals := 0 }) (va_Pc [.ref m0] (fun U => U.heap.size = sz ∧ va_P (dC, dI) vwCl [cM0 m0 m1 m2 m3 m4 m5 v, cM1 cI m1 v, cM2 cJ m2 v, cM3 cJ m3 v, cM4 cI m4 v, cM5 cI m5 v] U.heap ∧ va_K (dC, dI) vwCl [(cI, .int), (cJ, .long)] U ∧ va_D (fun _ => True) [cM0 m0 m1 m2 m3 m4 m5 v, cM1 cI m1 v, cM2 cJ m2 v, cM3 cJ m3 v, cM4 cI m4 v, cM5 cI m5 v])) (va_Qi (fun (r : Int32) (_ : Unit) => r = rX4_refuse v) (fun _ t => va_P (dC, dI) vwCl [cM0 m0 m1 m2 m3 m4 m5 (sX4_refuse v), cM1 cI m1 (sX4_refuse v), cM2 cJ m2 (sX4_refuse v), cM3 cJ m3 (sX4_refuse v), cM4 cI m4 (sX4_refuse v), cM5 cI m5 (sX4_refuse v)] t.heap ∧ va_K (dC, dI) vwCl [(cI, .int), (cJ, .long)] t ∧ va_D (va_A [cM0 m0 m1 m2 m3 m4 m5 v, cM1 cI m1 v, cM2 cJ m2 v, cM3 cJ m3 v, cM4 cI m4 v, cM5 cI m5 v] sz) [cM0 m0 m1 m2 m3 m4 m5 (sX4_refuse v), cM1 cI m1 (sX4_refuse v), cM2 cJ m2 (sX4_refuse v), cM3 cJ m3 (sX4_refuse v), cM4 cI m4 (sX4_refuse v), cM5 cI m5 (sX4_refuse v)]) (va_A [cM0 m0 m1 m2 m3 m4 m5 v, cM1 cI m1 v, cM2 cJ m2 v, cM3 cJ m3 v, cM4 cI m4 v, cM5 cI m5 v] sz)) 0 0 (va_A [cM0 m0 m1 m2 m3 m4 m5 v, cM1 cI m1 v, cM2 cJ m2 v, cM3 cJ m3 v, cM4 cI m4 v, cM5 cI m5 v] sz) := by
  refine Met.ofW (cc := cX4_refuse) (maxL := 1) (ret := (some .int)) (by decide) rfl ?_
  intro p e s m args below meth c s₁ B hml hv
  obtain ⟨rfl, hsz, hP, hK, hD0⟩ := hv
  have hx := B.exec
  have hb := B.bytes
  have hr := B.returns
  have hts := atoms_spec (ws := wsX4_refuse) B.pre
  have hown : s.vm.findClass RX4 = some m.cls := findClass_of_methodNamed B.named
  have hlocks := B.notSynchronized
  have hiX4 : ∀ w ∈ u_ws RX4 TX4 17, w ∈ wsX4_refuse := by decide +kernel
  subst hsz
  have hD := hD0.self (sz := s.heap.size)
  generalize hAe : va_A [cM0 m0 m1 m2 m3 m4 m5 v, cM1 cI m1 v, cM2 cJ m2 v, cM3 cJ m3 v, cM4 cI m4 v, cM5 cI m5 v] s.heap.size = A at hD ⊢
  have hA : ∀ q : Nat, s.heap.size ≤ q → A q := fun q h => by rw [← hAe]; exact Or.inr h
  have hS : va_S A s.heap s.heap [] := va_S.rf
  have hl := lv_entry ([.ref m0]) (n := 1) (Nat.le_of_ble_eq_true rfl)
  rw [lg_entry_eq]
  generalize (lg_sl ([.ref m0]) ++ List.replicate (1 - (lg_sl ([.ref m0])).length) Slot.unset).toArray = ls at hl ⊢
  have hl : lv_has ls 1 [(0, .ref m0)] := hl
  have hP : va_P (dC, dI) vwCl [cM0 m0 m1 m2 m3 m4 m5 v, cM1 cI m1 v, cM2 cJ m2 v, cM3 cJ m3 v, cM4 cI m4 v, cM5 cI m5 v] s.heap := hP
  refine lv_aload_n hx hb dX4_refuse_0 rfl (lv_at hl 0 rfl) ?_
  refine lv_iconst (v := 1) hx hb dX4_refuse_1 (by decide) ?_
  refine va_put (D := (dC, dI)) (ci := 4) (v := .int 1) (ty := .int) (C := RX4) (T := TX4) (N := 17) hx hb hts hiX4 tyX4 tyX4_ok nmX4 hown hK hP hD hS 0 rfl rfl 0 (by decide) (hts (.fieldLink RX4 49 "TripReckonerModel" "thrown" "I") (by decide +kernel)) (fun _ h9 => h9) rfl (by decide +kernel) rfl rfl (Nat.le_of_ble_eq_true rfl) dX4_refuse_2 (fun H locs hP hD hS => ?_)
  have hP : va_P (dC, dI) vwCl [(m0, .inr (4, [.int 1, .ref m1, .int v.2.2.1, .ref m2, .ref m3, .int v.2.2.2.2.2.1, .int v.2.2.2.2.2.2.1, .int v.2.2.2.2.2.2.2.1, .int v.2.2.2.2.2.2.2.2.1, .int v.2.2.2.2.2.2.2.2.2.1, .int v.2.2.2.2.2.2.2.2.2.2.1, .int v.2.2.2.2.2.2.2.2.2.2.2.1, .long v.2.2.2.2.2.2.2.2.2.2.2.2.1, .int v.2.2.2.2.2.2.2.2.2.2.2.2.2.1, .ref m4, .ref m5, .int v.2.2.2.2.2.2.2.2.2.2.2.2.2.2.2.2])), (m1, .inl (cI, 60, .inl v.2.1)), (m2, .inl (cJ, 92, .inr (.inl v.2.2.2.1))), (m3, .inl (cJ, 92, .inr (.inl v.2.2.2.2.1))), (m4, .inl (cI, 1573, .inl v.2.2.2.2.2.2.2.2.2.2.2.2.2.2.1)), (m5, .inl (cI, 12, .inl v.2.2.2.2.2.2.2.2.2.2.2.2.2.2.2.1))] H := hP
  have hD : va_D A [(m0, .inr (4, [.int 1, .ref m1, .int v.2.2.1, .ref m2, .ref m3, .int v.2.2.2.2.2.1, .int v.2.2.2.2.2.2.1, .int v.2.2.2.2.2.2.2.1, .int v.2.2.2.2.2.2.2.2.1, .int v.2.2.2.2.2.2.2.2.2.1, .int v.2.2.2.2.2.2.2.2.2.2.1, .int v.2.2.2.2.2.2.2.2.2.2.2.1, .long v.2.2.2.2.2.2.2.2.2.2.2.2.1, .int v.2.2.2.2.2.2.2.2.2.2.2.2.2.1, .ref m4, .ref m5, .int v.2.2.2.2.2.2.2.2.2.2.2.2.2.2.2.2])), (m1, .inl (cI, 60, .inl v.2.1)), (m2, .inl (cJ, 92, .inr (.inl v.2.2.2.1))), (m3, .inl (cJ, 92, .inr (.inl v.2.2.2.2.1))), (m4, .inl (cI, 1573, .inl v.2.2.2.2.2.2.2.2.2.2.2.2.2.2.1)), (m5, .inl (cI, 12, .inl v.2.2.2.2.2.2.2.2.2.2.2.2.2.2.2.1))] := hD
  refine lv_iconst (v := 0) hx hb dX4_refuse_5 (by decide) ?_
  have es0 : sX4_refuse v = (1, v.2.1, v.2.2.1, v.2.2.2.1, v.2.2.2.2.1, v.2.2.2.2.2.1, v.2.2.2.2.2.2.1, v.2.2.2.2.2.2.2.1, v.2.2.2.2.2.2.2.2.1, v.2.2.2.2.2.2.2.2.2.1, v.2.2.2.2.2.2.2.2.2.2.1, v.2.2.2.2.2.2.2.2.2.2.2.1, v.2.2.2.2.2.2.2.2.2.2.2.2.1, v.2.2.2.2.2.2.2.2.2.2.2.2.2.1, v.2.2.2.2.2.2.2.2.2.2.2.2.2.2.1, v.2.2.2.2.2.2.2.2.2.2.2.2.2.2.2.1, v.2.2.2.2.2.2.2.2.2.2.2.2.2.2.2.2) := by rw [sX4_refuse]
  have er : 0 = rX4_refuse v := by rw [rX4_refuse]
  refine W.iret (v := 0) hx hb hr (fun t ht hW => ⟨⟨0, (), rfl, er, ?_⟩, hS.F ht⟩) hS.2.2 dX4_refuse_6
  rw [es0]; exact ⟨by rw [ht]; exact hP, va_K.moved hW.alike hK, hD⟩

def sX4_come (w : Int32) (v : MS) : MS :=
  (v.1, upd (upd (upd (upd v.2.1 v.2.2.1.toNatClampNeg (((w.toUInt32 >>> ((24 : Int32).toUInt32 &&& Int32.toUInt32 31)).toInt32) &&& 255)) ((v.2.2.1 + 1).toNatClampNeg) (((w.toUInt32 >>> ((16 : Int32).toUInt32 &&& Int32.toUInt32 31)).toInt32) &&& 255)) (((v.2.2.1 + 1) + 1).toNatClampNeg) (((w.toUInt32 >>> ((8 : Int32).toUInt32 &&& Int32.toUInt32 31)).toInt32) &&& 255)) ((((v.2.2.1 + 1) + 1) + 1).toNatClampNeg) (((w.toUInt32 >>> ((0 : Int32).toUInt32 &&& Int32.toUInt32 31)).toInt32) &&& 255), (((v.2.2.1 + 1) + 1) + 1) + 1, v.2.2.2.1, v.2.2.2.2.1, v.2.2.2.2.2.1, v.2.2.2.2.2.2.1, v.2.2.2.2.2.2.2.1, v.2.2.2.2.2.2.2.2.1, v.2.2.2.2.2.2.2.2.2.1, v.2.2.2.2.2.2.2.2.2.2.1, v.2.2.2.2.2.2.2.2.2.2.2.1, v.2.2.2.2.2.2.2.2.2.2.2.2.1, v.2.2.2.2.2.2.2.2.2.2.2.2.2.1, v.2.2.2.2.2.2.2.2.2.2.2.2.2.2.1, v.2.2.2.2.2.2.2.2.2.2.2.2.2.2.2.1, v.2.2.2.2.2.2.2.2.2.2.2.2.2.2.2.2)
set_option maxHeartbeats 4000000 in
set_option maxRecDepth 100000 in
theorem kX4_come (l : Launch) (dC : Nat → ClassId) (dI : Nat → Nat → Nat) (cI cJ : ClassId) (m0 m1 m2 m3 m4 m5 : Nat) (sz : Nat) (w : Int32) (v : MS) (n : Nat) (hn : v.2.2.1 = nI n) (h56 : n ≤ 56) : Met l yX4_come wsX4_come ({ frames := 0, cells := 0, slots := 0, locals := 0 }) (va_Pc [.ref m0, .int w] (fun U => U.heap.size = sz ∧ va_P (dC, dI) vwCl [cM0 m0 m1 m2 m3 m4 m5 v, cM1 cI m1 v, cM2 cJ m2 v, cM3 cJ m3 v, cM4 cI m4 v, cM5 cI m5 v] U.heap ∧ va_K (dC, dI) vwCl [(cI, .int), (cJ, .long)] U ∧ va_D (fun _ => True) [cM0 m0 m1 m2 m3 m4 m5 v, cM1 cI m1 v, cM2 cJ m2 v, cM3 cJ m3 v, cM4 cI m4 v, cM5 cI m5 v])) (va_Qv (fun _ : Unit => True) (fun _ t => va_P (dC, dI) vwCl [cM0 m0 m1 m2 m3 m4 m5 (sX4_come w v), cM1 cI m1 (sX4_come w v), cM2 cJ m2 (sX4_come w v), cM3 cJ m3 (sX4_come w v), cM4 cI m4 (sX4_come w v), cM5 cI m5 (sX4_come w v)] t.heap ∧ va_K (dC, dI) vwCl [(cI, .int), (cJ, .long)] t ∧ va_D (va_A [cM0 m0 m1 m2 m3 m4 m5 v, cM1 cI m1 v, cM2 cJ m2 v, cM3 cJ m3 v, cM4 cI m4 v, cM5 cI m5 v] sz) [cM0 m0 m1 m2 m3 m4 m5 (sX4_come w v), cM1 cI m1 (sX4_come w v), cM2 cJ m2 (sX4_come w v), cM3 cJ m3 (sX4_come w v), cM4 cI m4 (sX4_come w v), cM5 cI m5 (sX4_come w v)]) (va_A [cM0 m0 m1 m2 m3 m4 m5 v, cM1 cI m1 v, cM2 cJ m2 v, cM3 cJ m3 v, cM4 cI m4 v, cM5 cI m5 v] sz)) 0 0 (va_A [cM0 m0 m1 m2 m3 m4 m5 v, cM1 cI m1 v, cM2 cJ m2 v, cM3 cJ m3 v, cM4 cI m4 v, cM5 cI m5 v] sz) := by
  refine Met.ofW (cc := cX4_come) (maxL := 3) (ret := none) (by decide) rfl ?_
  intro p e s m args below meth c s₁ B hml hv
  obtain ⟨rfl, hsz, hP, hK, hD0⟩ := hv
  have hx := B.exec
  have hb := B.bytes
  have hr := B.returns
  have hts := atoms_spec (ws := wsX4_come) B.pre
  have hown : s.vm.findClass RX4 = some m.cls := findClass_of_methodNamed B.named
  have hlocks := B.notSynchronized
  have hiX4 : ∀ w ∈ u_ws RX4 TX4 17, w ∈ wsX4_come := by decide +kernel
  subst hsz
  have hD := hD0.self (sz := s.heap.size)
  generalize hAe : va_A [cM0 m0 m1 m2 m3 m4 m5 v, cM1 cI m1 v, cM2 cJ m2 v, cM3 cJ m3 v, cM4 cI m4 v, cM5 cI m5 v] s.heap.size = A at hD ⊢
  have hA : ∀ q : Nat, s.heap.size ≤ q → A q := fun q h => by rw [← hAe]; exact Or.inr h
  have hS : va_S A s.heap s.heap [] := va_S.rf
  have hl := lv_entry ([.ref m0, .int w]) (n := 3) (Nat.le_of_ble_eq_true rfl)
  rw [lg_entry_eq]
  generalize (lg_sl ([.ref m0, .int w]) ++ List.replicate (3 - (lg_sl ([.ref m0, .int w])).length) Slot.unset).toArray = ls at hl ⊢
  have hl : lv_has ls 3 [(0, .ref m0), (1, .int w)] := hl
  have hP : va_P (dC, dI) vwCl [cM0 m0 m1 m2 m3 m4 m5 v, cM1 cI m1 v, cM2 cJ m2 v, cM3 cJ m3 v, cM4 cI m4 v, cM5 cI m5 v] s.heap := hP
  refine lv_bipush (v := 24) hx hb dX4_come_0 (by decide) ?_
  refine lv_istore_n (lv' := [(2, .int 24), (0, .ref m0), (1, .int w)]) hx hb dX4_come_2 rfl hl (by decide) rfl (fun ls hl => ?_)
  refine lv_iload_n hx hb dX4_come_3 rfl (lv_at hl 0 rfl) ?_
  refine lv_if_lt (tgt := 39) hx hb dX4_come_4 (by decide) (fun c_1 => absurd c_1 (by decide)) (fun c_1 => ?_)
  refine lv_aload_n hx hb dX4_come_7 rfl (lv_at hl 1 rfl) ?_
  refine va_get (D := (dC, dI)) (ci := 4) (v := .ref m1) (C := RX4) (T := TX4) (N := 17) hx hb hts hiX4 hown hK hP 0 rfl rfl 1 (by decide) (hts (.fieldLink RX4 7 "TripReckonerModel" "tape" "[I") (by decide +kernel)) (fun _ h9 => h9) rfl dX4_come_8 ?_
  refine lv_aload_n hx hb dX4_come_11 rfl (lv_at hl 1 rfl) ?_
  refine va_get (D := (dC, dI)) (ci := 4) (v := .int v.2.2.1) (C := RX4) (T := TX4) (N := 17) hx hb hts hiX4 hown hK hP 0 rfl rfl 2 (by decide) (hts (.fieldLink RX4 52 "TripReckonerModel" "taped" "I") (by decide +kernel)) (fun _ h9 => h9) rfl dX4_come_12 ?_
  refine lv_iload_n hx hb dX4_come_15 rfl (lv_at hl 2 rfl) ?_
  refine lv_iload_n hx hb dX4_come_16 rfl (lv_at hl 0 rfl) ?_
  refine lv_iushr (v := (w.toUInt32 >>> ((24 : Int32).toUInt32 &&& Int32.toUInt32 31)).toInt32) hx hb dX4_come_17 rfl ?_
  refine lv_sipush (v := 255) hx hb dX4_come_18 (by decide) ?_
  refine lv_iand hx hb dX4_come_21 ?_
  refine va_iast hx hb hK hP hD hS 1 0 rfl rfl (t_in hn (by omega)) dX4_come_22 (fun H locs hP hD hS => ?_)
  have hP : va_P (dC, dI) vwCl [(m0, .inr (4, [.int v.1, .ref m1, .int v.2.2.1, .ref m2, .ref m3, .int v.2.2.2.2.2.1, .int v.2.2.2.2.2.2.1, .int v.2.2.2.2.2.2.2.1, .int v.2.2.2.2.2.2.2.2.1, .int v.2.2.2.2.2.2.2.2.2.1, .int v.2.2.2.2.2.2.2.2.2.2.1, .int v.2.2.2.2.2.2.2.2.2.2.2.1, .long v.2.2.2.2.2.2.2.2.2.2.2.2.1, .int v.2.2.2.2.2.2.2.2.2.2.2.2.2.1, .ref m4, .ref m5, .int v.2.2.2.2.2.2.2.2.2.2.2.2.2.2.2.2])), (m1, .inl (cI, 60, .inl (upd v.2.1 v.2.2.1.toNatClampNeg (((w.toUInt32 >>> ((24 : Int32).toUInt32 &&& Int32.toUInt32 31)).toInt32) &&& 255)))), (m2, .inl (cJ, 92, .inr (.inl v.2.2.2.1))), (m3, .inl (cJ, 92, .inr (.inl v.2.2.2.2.1))), (m4, .inl (cI, 1573, .inl v.2.2.2.2.2.2.2.2.2.2.2.2.2.2.1)), (m5, .inl (cI, 12, .inl v.2.2.2.2.2.2.2.2.2.2.2.2.2.2.2.1))] H := hP
  have hD : va_D A [(m0, .inr (4, [.int v.1, .ref m1, .int v.2.2.1, .ref m2, .ref m3, .int v.2.2.2.2.2.1, .int v.2.2.2.2.2.2.1, .int v.2.2.2.2.2.2.2.1, .int v.2.2.2.2.2.2.2.2.1, .int v.2.2.2.2.2.2.2.2.2.1, .int v.2.2.2.2.2.2.2.2.2.2.1, .int v.2.2.2.2.2.2.2.2.2.2.2.1, .long v.2.2.2.2.2.2.2.2.2.2.2.2.1, .int v.2.2.2.2.2.2.2.2.2.2.2.2.2.1, .ref m4, .ref m5, .int v.2.2.2.2.2.2.2.2.2.2.2.2.2.2.2.2])), (m1, .inl (cI, 60, .inl (upd v.2.1 v.2.2.1.toNatClampNeg (((w.toUInt32 >>> ((24 : Int32).toUInt32 &&& Int32.toUInt32 31)).toInt32) &&& 255)))), (m2, .inl (cJ, 92, .inr (.inl v.2.2.2.1))), (m3, .inl (cJ, 92, .inr (.inl v.2.2.2.2.1))), (m4, .inl (cI, 1573, .inl v.2.2.2.2.2.2.2.2.2.2.2.2.2.2.1)), (m5, .inl (cI, 12, .inl v.2.2.2.2.2.2.2.2.2.2.2.2.2.2.2.1))] := hD
  refine lv_aload_n hx hb dX4_come_23 rfl (lv_at hl 1 rfl) ?_
  refine lv_dup hx hb dX4_come_24 rfl ?_
  refine va_get (D := (dC, dI)) (ci := 4) (v := .int v.2.2.1) (C := RX4) (T := TX4) (N := 17) hx hb hts hiX4 hown hK hP 0 rfl rfl 2 (by decide) (hts (.fieldLink RX4 52 "TripReckonerModel" "taped" "I") (by decide +kernel)) (fun _ h9 => h9) rfl dX4_come_25 ?_
  refine lv_iconst (v := 1) hx hb dX4_come_28 (by decide) ?_
  refine lv_iadd hx hb dX4_come_29 ?_
  refine va_put (D := (dC, dI)) (ci := 4) (v := .int (v.2.2.1 + 1)) (ty := .int) (C := RX4) (T := TX4) (N := 17) hx hb hts hiX4 tyX4 tyX4_ok nmX4 hown hK hP hD hS 0 rfl rfl 2 (by decide) (hts (.fieldLink RX4 52 "TripReckonerModel" "taped" "I") (by decide +kernel)) (fun _ h9 => h9) rfl (by decide +kernel) rfl rfl (Nat.le_of_ble_eq_true rfl) dX4_come_30 (fun H locs hP hD hS => ?_)
  have hP : va_P (dC, dI) vwCl [(m0, .inr (4, [.int v.1, .ref m1, .int (v.2.2.1 + 1), .ref m2, .ref m3, .int v.2.2.2.2.2.1, .int v.2.2.2.2.2.2.1, .int v.2.2.2.2.2.2.2.1, .int v.2.2.2.2.2.2.2.2.1, .int v.2.2.2.2.2.2.2.2.2.1, .int v.2.2.2.2.2.2.2.2.2.2.1, .int v.2.2.2.2.2.2.2.2.2.2.2.1, .long v.2.2.2.2.2.2.2.2.2.2.2.2.1, .int v.2.2.2.2.2.2.2.2.2.2.2.2.2.1, .ref m4, .ref m5, .int v.2.2.2.2.2.2.2.2.2.2.2.2.2.2.2.2])), (m1, .inl (cI, 60, .inl (upd v.2.1 v.2.2.1.toNatClampNeg (((w.toUInt32 >>> ((24 : Int32).toUInt32 &&& Int32.toUInt32 31)).toInt32) &&& 255)))), (m2, .inl (cJ, 92, .inr (.inl v.2.2.2.1))), (m3, .inl (cJ, 92, .inr (.inl v.2.2.2.2.1))), (m4, .inl (cI, 1573, .inl v.2.2.2.2.2.2.2.2.2.2.2.2.2.2.1)), (m5, .inl (cI, 12, .inl v.2.2.2.2.2.2.2.2.2.2.2.2.2.2.2.1))] H := hP
  have hD : va_D A [(m0, .inr (4, [.int v.1, .ref m1, .int (v.2.2.1 + 1), .ref m2, .ref m3, .int v.2.2.2.2.2.1, .int v.2.2.2.2.2.2.1, .int v.2.2.2.2.2.2.2.1, .int v.2.2.2.2.2.2.2.2.1, .int v.2.2.2.2.2.2.2.2.2.1, .int v.2.2.2.2.2.2.2.2.2.2.1, .int v.2.2.2.2.2.2.2.2.2.2.2.1, .long v.2.2.2.2.2.2.2.2.2.2.2.2.1, .int v.2.2.2.2.2.2.2.2.2.2.2.2.2.1, .ref m4, .ref m5, .int v.2.2.2.2.2.2.2.2.2.2.2.2.2.2.2.2])), (m1, .inl (cI, 60, .inl (upd v.2.1 v.2.2.1.toNatClampNeg (((w.toUInt32 >>> ((24 : Int32).toUInt32 &&& Int32.toUInt32 31)).toInt32) &&& 255)))), (m2, .inl (cJ, 92, .inr (.inl v.2.2.2.1))), (m3, .inl (cJ, 92, .inr (.inl v.2.2.2.2.1))), (m4, .inl (cI, 1573, .inl v.2.2.2.2.2.2.2.2.2.2.2.2.2.2.1)), (m5, .inl (cI, 12, .inl v.2.2.2.2.2.2.2.2.2.2.2.2.2.2.2.1))] := hD
  refine lv_iinc (v := 16) (lv' := [(2, .int 16), (0, .ref m0), (1, .int w)]) hx hb dX4_come_33 hl (k := 0) rfl (by decide) (by decide) rfl (fun ls hl => ?_)
  refine lv_goto (tgt := 3) hx hb dX4_come_36 (by decide) ?_
  refine lv_iload_n hx hb dX4_come_3 rfl (lv_at hl 0 rfl) ?_
  refine lv_if_lt (tgt := 39) hx hb dX4_come_4 (by decide) (fun c_2 => absurd c_2 (by decide)) (fun c_2 => ?_)
  refine lv_aload_n hx hb dX4_come_7 rfl (lv_at hl 1 rfl) ?_
  refine va_get (D := (dC, dI)) (ci := 4) (v := .ref m1) (C := RX4) (T := TX4) (N := 17) hx hb hts hiX4 hown hK hP 0 rfl rfl 1 (by decide) (hts (.fieldLink RX4 7 "TripReckonerModel" "tape" "[I") (by decide +kernel)) (fun _ h9 => h9) rfl dX4_come_8 ?_
  refine lv_aload_n hx hb dX4_come_11 rfl (lv_at hl 1 rfl) ?_
  refine va_get (D := (dC, dI)) (ci := 4) (v := .int (v.2.2.1 + 1)) (C := RX4) (T := TX4) (N := 17) hx hb hts hiX4 hown hK hP 0 rfl rfl 2 (by decide) (hts (.fieldLink RX4 52 "TripReckonerModel" "taped" "I") (by decide +kernel)) (fun _ h9 => h9) rfl dX4_come_12 ?_
  refine lv_iload_n hx hb dX4_come_15 rfl (lv_at hl 2 rfl) ?_
  refine lv_iload_n hx hb dX4_come_16 rfl (lv_at hl 0 rfl) ?_
  refine lv_iushr (v := (w.toUInt32 >>> ((16 : Int32).toUInt32 &&& Int32.toUInt32 31)).toInt32) hx hb dX4_come_17 rfl ?_
  refine lv_sipush (v := 255) hx hb dX4_come_18 (by decide) ?_
  refine lv_iand hx hb dX4_come_21 ?_
  refine va_iast hx hb hK hP hD hS 1 0 rfl rfl (t_in (t_s hn) (by omega)) dX4_come_22 (fun H locs hP hD hS => ?_)
  have hP : va_P (dC, dI) vwCl [(m0, .inr (4, [.int v.1, .ref m1, .int (v.2.2.1 + 1), .ref m2, .ref m3, .int v.2.2.2.2.2.1, .int v.2.2.2.2.2.2.1, .int v.2.2.2.2.2.2.2.1, .int v.2.2.2.2.2.2.2.2.1, .int v.2.2.2.2.2.2.2.2.2.1, .int v.2.2.2.2.2.2.2.2.2.2.1, .int v.2.2.2.2.2.2.2.2.2.2.2.1, .long v.2.2.2.2.2.2.2.2.2.2.2.2.1, .int v.2.2.2.2.2.2.2.2.2.2.2.2.2.1, .ref m4, .ref m5, .int v.2.2.2.2.2.2.2.2.2.2.2.2.2.2.2.2])), (m1, .inl (cI, 60, .inl (upd (upd v.2.1 v.2.2.1.toNatClampNeg (((w.toUInt32 >>> ((24 : Int32).toUInt32 &&& Int32.toUInt32 31)).toInt32) &&& 255)) ((v.2.2.1 + 1).toNatClampNeg) (((w.toUInt32 >>> ((16 : Int32).toUInt32 &&& Int32.toUInt32 31)).toInt32) &&& 255)))), (m2, .inl (cJ, 92, .inr (.inl v.2.2.2.1))), (m3, .inl (cJ, 92, .inr (.inl v.2.2.2.2.1))), (m4, .inl (cI, 1573, .inl v.2.2.2.2.2.2.2.2.2.2.2.2.2.2.1)), (m5, .inl (cI, 12, .inl v.2.2.2.2.2.2.2.2.2.2.2.2.2.2.2.1))] H := hP
  have hD : va_D A [(m0, .inr (4, [.int v.1, .ref m1, .int (v.2.2.1 + 1), .ref m2, .ref m3, .int v.2.2.2.2.2.1, .int v.2.2.2.2.2.2.1, .int v.2.2.2.2.2.2.2.1, .int v.2.2.2.2.2.2.2.2.1, .int v.2.2.2.2.2.2.2.2.2.1, .int v.2.2.2.2.2.2.2.2.2.2.1, .int v.2.2.2.2.2.2.2.2.2.2.2.1, .long v.2.2.2.2.2.2.2.2.2.2.2.2.1, .int v.2.2.2.2.2.2.2.2.2.2.2.2.2.1, .ref m4, .ref m5, .int v.2.2.2.2.2.2.2.2.2.2.2.2.2.2.2.2])), (m1, .inl (cI, 60, .inl (upd (upd v.2.1 v.2.2.1.toNatClampNeg (((w.toUInt32 >>> ((24 : Int32).toUInt32 &&& Int32.toUInt32 31)).toInt32) &&& 255)) ((v.2.2.1 + 1).toNatClampNeg) (((w.toUInt32 >>> ((16 : Int32).toUInt32 &&& Int32.toUInt32 31)).toInt32) &&& 255)))), (m2, .inl (cJ, 92, .inr (.inl v.2.2.2.1))), (m3, .inl (cJ, 92, .inr (.inl v.2.2.2.2.1))), (m4, .inl (cI, 1573, .inl v.2.2.2.2.2.2.2.2.2.2.2.2.2.2.1)), (m5, .inl (cI, 12, .inl v.2.2.2.2.2.2.2.2.2.2.2.2.2.2.2.1))] := hD
  refine lv_aload_n hx hb dX4_come_23 rfl (lv_at hl 1 rfl) ?_
  refine lv_dup hx hb dX4_come_24 rfl ?_
  refine va_get (D := (dC, dI)) (ci := 4) (v := .int (v.2.2.1 + 1)) (C := RX4) (T := TX4) (N := 17) hx hb hts hiX4 hown hK hP 0 rfl rfl 2 (by decide) (hts (.fieldLink RX4 52 "TripReckonerModel" "taped" "I") (by decide +kernel)) (fun _ h9 => h9) rfl dX4_come_25 ?_
  refine lv_iconst (v := 1) hx hb dX4_come_28 (by decide) ?_
  refine lv_iadd hx hb dX4_come_29 ?_
  refine va_put (D := (dC, dI)) (ci := 4) (v := .int ((v.2.2.1 + 1) + 1)) (ty := .int) (C := RX4) (T := TX4) (N := 17) hx hb hts hiX4 tyX4 tyX4_ok nmX4 hown hK hP hD hS 0 rfl rfl 2 (by decide) (hts (.fieldLink RX4 52 "TripReckonerModel" "taped" "I") (by decide +kernel)) (fun _ h9 => h9) rfl (by decide +kernel) rfl rfl (Nat.le_of_ble_eq_true rfl) dX4_come_30 (fun H locs hP hD hS => ?_)
  have hP : va_P (dC, dI) vwCl [(m0, .inr (4, [.int v.1, .ref m1, .int ((v.2.2.1 + 1) + 1), .ref m2, .ref m3, .int v.2.2.2.2.2.1, .int v.2.2.2.2.2.2.1, .int v.2.2.2.2.2.2.2.1, .int v.2.2.2.2.2.2.2.2.1, .int v.2.2.2.2.2.2.2.2.2.1, .int v.2.2.2.2.2.2.2.2.2.2.1, .int v.2.2.2.2.2.2.2.2.2.2.2.1, .long v.2.2.2.2.2.2.2.2.2.2.2.2.1, .int v.2.2.2.2.2.2.2.2.2.2.2.2.2.1, .ref m4, .ref m5, .int v.2.2.2.2.2.2.2.2.2.2.2.2.2.2.2.2])), (m1, .inl (cI, 60, .inl (upd (upd v.2.1 v.2.2.1.toNatClampNeg (((w.toUInt32 >>> ((24 : Int32).toUInt32 &&& Int32.toUInt32 31)).toInt32) &&& 255)) ((v.2.2.1 + 1).toNatClampNeg) (((w.toUInt32 >>> ((16 : Int32).toUInt32 &&& Int32.toUInt32 31)).toInt32) &&& 255)))), (m2, .inl (cJ, 92, .inr (.inl v.2.2.2.1))), (m3, .inl (cJ, 92, .inr (.inl v.2.2.2.2.1))), (m4, .inl (cI, 1573, .inl v.2.2.2.2.2.2.2.2.2.2.2.2.2.2.1)), (m5, .inl (cI, 12, .inl v.2.2.2.2.2.2.2.2.2.2.2.2.2.2.2.1))] H := hP
  have hD : va_D A [(m0, .inr (4, [.int v.1, .ref m1, .int ((v.2.2.1 + 1) + 1), .ref m2, .ref m3, .int v.2.2.2.2.2.1, .int v.2.2.2.2.2.2.1, .int v.2.2.2.2.2.2.2.1, .int v.2.2.2.2.2.2.2.2.1, .int v.2.2.2.2.2.2.2.2.2.1, .int v.2.2.2.2.2.2.2.2.2.2.1, .int v.2.2.2.2.2.2.2.2.2.2.2.1, .long v.2.2.2.2.2.2.2.2.2.2.2.2.1, .int v.2.2.2.2.2.2.2.2.2.2.2.2.2.1, .ref m4, .ref m5, .int v.2.2.2.2.2.2.2.2.2.2.2.2.2.2.2.2])), (m1, .inl (cI, 60, .inl (upd (upd v.2.1 v.2.2.1.toNatClampNeg (((w.toUInt32 >>> ((24 : Int32).toUInt32 &&& Int32.toUInt32 31)).toInt32) &&& 255)) ((v.2.2.1 + 1).toNatClampNeg) (((w.toUInt32 >>> ((16 : Int32).toUInt32 &&& Int32.toUInt32 31)).toInt32) &&& 255)))), (m2, .inl (cJ, 92, .inr (.inl v.2.2.2.1))), (m3, .inl (cJ, 92, .inr (.inl v.2.2.2.2.1))), (m4, .inl (cI, 1573, .inl v.2.2.2.2.2.2.2.2.2.2.2.2.2.2.1)), (m5, .inl (cI, 12, .inl v.2.2.2.2.2.2.2.2.2.2.2.2.2.2.2.1))] := hD
  refine lv_iinc (v := 8) (lv' := [(2, .int 8), (0, .ref m0), (1, .int w)]) hx hb dX4_come_33 hl (k := 0) rfl (by decide) (by decide) rfl (fun ls hl => ?_)
  refine lv_goto (tgt := 3) hx hb dX4_come_36 (by decide) ?_
  refine lv_iload_n hx hb dX4_come_3 rfl (lv_at hl 0 rfl) ?_
  refine lv_if_lt (tgt := 39) hx hb dX4_come_4 (by decide) (fun c_3 => absurd c_3 (by decide)) (fun c_3 => ?_)
  refine lv_aload_n hx hb dX4_come_7 rfl (lv_at hl 1 rfl) ?_
  refine va_get (D := (dC, dI)) (ci := 4) (v := .ref m1) (C := RX4) (T := TX4) (N := 17) hx hb hts hiX4 hown hK hP 0 rfl rfl 1 (by decide) (hts (.fieldLink RX4 7 "TripReckonerModel" "tape" "[I") (by decide +kernel)) (fun _ h9 => h9) rfl dX4_come_8 ?_
  refine lv_aload_n hx hb dX4_come_11 rfl (lv_at hl 1 rfl) ?_
  refine va_get (D := (dC, dI)) (ci := 4) (v := .int ((v.2.2.1 + 1) + 1)) (C := RX4) (T := TX4) (N := 17) hx hb hts hiX4 hown hK hP 0 rfl rfl 2 (by decide) (hts (.fieldLink RX4 52 "TripReckonerModel" "taped" "I") (by decide +kernel)) (fun _ h9 => h9) rfl dX4_come_12 ?_
  refine lv_iload_n hx hb dX4_come_15 rfl (lv_at hl 2 rfl) ?_
  refine lv_iload_n hx hb dX4_come_16 rfl (lv_at hl 0 rfl) ?_
  refine lv_iushr (v := (w.toUInt32 >>> ((8 : Int32).toUInt32 &&& Int32.toUInt32 31)).toInt32) hx hb dX4_come_17 rfl ?_
  refine lv_sipush (v := 255) hx hb dX4_come_18 (by decide) ?_
  refine lv_iand hx hb dX4_come_21 ?_
  refine va_iast hx hb hK hP hD hS 1 0 rfl rfl (t_in (t_s (t_s hn)) (by omega)) dX4_come_22 (fun H locs hP hD hS => ?_)
  have hP : va_P (dC, dI) vwCl [(m0, .inr (4, [.int v.1, .ref m1, .int ((v.2.2.1 + 1) + 1), .ref m2, .ref m3, .int v.2.2.2.2.2.1, .int v.2.2.2.2.2.2.1, .int v.2.2.2.2.2.2.2.1, .int v.2.2.2.2.2.2.2.2.1, .int v.2.2.2.2.2.2.2.2.2.1, .int v.2.2.2.2.2.2.2.2.2.2.1, .int v.2.2.2.2.2.2.2.2.2.2.2.1, .long v.2.2.2.2.2.2.2.2.2.2.2.2.1, .int v.2.2.2.2.2.2.2.2.2.2.2.2.2.1, .ref m4, .ref m5, .int v.2.2.2.2.2.2.2.2.2.2.2.2.2.2.2.2])), (m1, .inl (cI, 60, .inl (upd (upd (upd v.2.1 v.2.2.1.toNatClampNeg (((w.toUInt32 >>> ((24 : Int32).toUInt32 &&& Int32.toUInt32 31)).toInt32) &&& 255)) ((v.2.2.1 + 1).toNatClampNeg) (((w.toUInt32 >>> ((16 : Int32).toUInt32 &&& Int32.toUInt32 31)).toInt32) &&& 255)) (((v.2.2.1 + 1) + 1).toNatClampNeg) (((w.toUInt32 >>> ((8 : Int32).toUInt32 &&& Int32.toUInt32 31)).toInt32) &&& 255)))), (m2, .inl (cJ, 92, .inr (.inl v.2.2.2.1))), (m3, .inl (cJ, 92, .inr (.inl v.2.2.2.2.1))), (m4, .inl (cI, 1573, .inl v.2.2.2.2.2.2.2.2.2.2.2.2.2.2.1)), (m5, .inl (cI, 12, .inl v.2.2.2.2.2.2.2.2.2.2.2.2.2.2.2.1))] H := hP
  have hD : va_D A [(m0, .inr (4, [.int v.1, .ref m1, .int ((v.2.2.1 + 1) + 1), .ref m2, .ref m3, .int v.2.2.2.2.2.1, .int v.2.2.2.2.2.2.1, .int v.2.2.2.2.2.2.2.1, .int v.2.2.2.2.2.2.2.2.1, .int v.2.2.2.2.2.2.2.2.2.1, .int v.2.2.2.2.2.2.2.2.2.2.1, .int v.2.2.2.2.2.2.2.2.2.2.2.1, .long v.2.2.2.2.2.2.2.2.2.2.2.2.1, .int v.2.2.2.2.2.2.2.2.2.2.2.2.2.1, .ref m4, .ref m5, .int v.2.2.2.2.2.2.2.2.2.2.2.2.2.2.2.2])), (m1, .inl (cI, 60, .inl (upd (upd (upd v.2.1 v.2.2.1.toNatClampNeg (((w.toUInt32 >>> ((24 : Int32).toUInt32 &&& Int32.toUInt32 31)).toInt32) &&& 255)) ((v.2.2.1 + 1).toNatClampNeg) (((w.toUInt32 >>> ((16 : Int32).toUInt32 &&& Int32.toUInt32 31)).toInt32) &&& 255)) (((v.2.2.1 + 1) + 1).toNatClampNeg) (((w.toUInt32 >>> ((8 : Int32).toUInt32 &&& Int32.toUInt32 31)).toInt32) &&& 255)))), (m2, .inl (cJ, 92, .inr (.inl v.2.2.2.1))), (m3, .inl (cJ, 92, .inr (.inl v.2.2.2.2.1))), (m4, .inl (cI, 1573, .inl v.2.2.2.2.2.2.2.2.2.2.2.2.2.2.1)), (m5, .inl (cI, 12, .inl v.2.2.2.2.2.2.2.2.2.2.2.2.2.2.2.1))] := hD
  refine lv_aload_n hx hb dX4_come_23 rfl (lv_at hl 1 rfl) ?_
  refine lv_dup hx hb dX4_come_24 rfl ?_
  refine va_get (D := (dC, dI)) (ci := 4) (v := .int ((v.2.2.1 + 1) + 1)) (C := RX4) (T := TX4) (N := 17) hx hb hts hiX4 hown hK hP 0 rfl rfl 2 (by decide) (hts (.fieldLink RX4 52 "TripReckonerModel" "taped" "I") (by decide +kernel)) (fun _ h9 => h9) rfl dX4_come_25 ?_
  refine lv_iconst (v := 1) hx hb dX4_come_28 (by decide) ?_
  refine lv_iadd hx hb dX4_come_29 ?_
  refine va_put (D := (dC, dI)) (ci := 4) (v := .int (((v.2.2.1 + 1) + 1) + 1)) (ty := .int) (C := RX4) (T := TX4) (N := 17) hx hb hts hiX4 tyX4 tyX4_ok nmX4 hown hK hP hD hS 0 rfl rfl 2 (by decide) (hts (.fieldLink RX4 52 "TripReckonerModel" "taped" "I") (by decide +kernel)) (fun _ h9 => h9) rfl (by decide +kernel) rfl rfl (Nat.le_of_ble_eq_true rfl) dX4_come_30 (fun H locs hP hD hS => ?_)
  have hP : va_P (dC, dI) vwCl [(m0, .inr (4, [.int v.1, .ref m1, .int (((v.2.2.1 + 1) + 1) + 1), .ref m2, .ref m3, .int v.2.2.2.2.2.1, .int v.2.2.2.2.2.2.1, .int v.2.2.2.2.2.2.2.1, .int v.2.2.2.2.2.2.2.2.1, .int v.2.2.2.2.2.2.2.2.2.1, .int v.2.2.2.2.2.2.2.2.2.2.1, .int v.2.2.2.2.2.2.2.2.2.2.2.1, .long v.2.2.2.2.2.2.2.2.2.2.2.2.1, .int v.2.2.2.2.2.2.2.2.2.2.2.2.2.1, .ref m4, .ref m5, .int v.2.2.2.2.2.2.2.2.2.2.2.2.2.2.2.2])), (m1, .inl (cI, 60, .inl (upd (upd (upd v.2.1 v.2.2.1.toNatClampNeg (((w.toUInt32 >>> ((24 : Int32).toUInt32 &&& Int32.toUInt32 31)).toInt32) &&& 255)) ((v.2.2.1 + 1).toNatClampNeg) (((w.toUInt32 >>> ((16 : Int32).toUInt32 &&& Int32.toUInt32 31)).toInt32) &&& 255)) (((v.2.2.1 + 1) + 1).toNatClampNeg) (((w.toUInt32 >>> ((8 : Int32).toUInt32 &&& Int32.toUInt32 31)).toInt32) &&& 255)))), (m2, .inl (cJ, 92, .inr (.inl v.2.2.2.1))), (m3, .inl (cJ, 92, .inr (.inl v.2.2.2.2.1))), (m4, .inl (cI, 1573, .inl v.2.2.2.2.2.2.2.2.2.2.2.2.2.2.1)), (m5, .inl (cI, 12, .inl v.2.2.2.2.2.2.2.2.2.2.2.2.2.2.2.1))] H := hP
  have hD : va_D A [(m0, .inr (4, [.int v.1, .ref m1, .int (((v.2.2.1 + 1) + 1) + 1), .ref m2, .ref m3, .int v.2.2.2.2.2.1, .int v.2.2.2.2.2.2.1, .int v.2.2.2.2.2.2.2.1, .int v.2.2.2.2.2.2.2.2.1, .int v.2.2.2.2.2.2.2.2.2.1, .int v.2.2.2.2.2.2.2.2.2.2.1, .int v.2.2.2.2.2.2.2.2.2.2.2.1, .long v.2.2.2.2.2.2.2.2.2.2.2.2.1, .int v.2.2.2.2.2.2.2.2.2.2.2.2.2.1, .ref m4, .ref m5, .int v.2.2.2.2.2.2.2.2.2.2.2.2.2.2.2.2])), (m1, .inl (cI, 60, .inl (upd (upd (upd v.2.1 v.2.2.1.toNatClampNeg (((w.toUInt32 >>> ((24 : Int32).toUInt32 &&& Int32.toUInt32 31)).toInt32) &&& 255)) ((v.2.2.1 + 1).toNatClampNeg) (((w.toUInt32 >>> ((16 : Int32).toUInt32 &&& Int32.toUInt32 31)).toInt32) &&& 255)) (((v.2.2.1 + 1) + 1).toNatClampNeg) (((w.toUInt32 >>> ((8 : Int32).toUInt32 &&& Int32.toUInt32 31)).toInt32) &&& 255)))), (m2, .inl (cJ, 92, .inr (.inl v.2.2.2.1))), (m3, .inl (cJ, 92, .inr (.inl v.2.2.2.2.1))), (m4, .inl (cI, 1573, .inl v.2.2.2.2.2.2.2.2.2.2.2.2.2.2.1)), (m5, .inl (cI, 12, .inl v.2.2.2.2.2.2.2.2.2.2.2.2.2.2.2.1))] := hD
  refine lv_iinc (v := 0) (lv' := [(2, .int 0), (0, .ref m0), (1, .int w)]) hx hb dX4_come_33 hl (k := 0) rfl (by decide) (by decide) rfl (fun ls hl => ?_)
  refine lv_goto (tgt := 3) hx hb dX4_come_36 (by decide) ?_
  refine lv_iload_n hx hb dX4_come_3 rfl (lv_at hl 0 rfl) ?_
  refine lv_if_lt (tgt := 39) hx hb dX4_come_4 (by decide) (fun c_4 => absurd c_4 (by decide)) (fun c_4 => ?_)
  refine lv_aload_n hx hb dX4_come_7 rfl (lv_at hl 1 rfl) ?_
  refine va_get (D := (dC, dI)) (ci := 4) (v := .ref m1) (C := RX4) (T := TX4) (N := 17) hx hb hts hiX4 hown hK hP 0 rfl rfl 1 (by decide) (hts (.fieldLink RX4 7 "TripReckonerModel" "tape" "[I") (by decide +kernel)) (fun _ h9 => h9) rfl dX4_come_8 ?_
  refine lv_aload_n hx hb dX4_come_11 rfl (lv_at hl 1 rfl) ?_
  refine va_get (D := (dC, dI)) (ci := 4) (v := .int (((v.2.2.1 + 1) + 1) + 1)) (C := RX4) (T := TX4) (N := 17) hx hb hts hiX4 hown hK hP 0 rfl rfl 2 (by decide) (hts (.fieldLink RX4 52 "TripReckonerModel" "taped" "I") (by decide +kernel)) (fun _ h9 => h9) rfl dX4_come_12 ?_
  refine lv_iload_n hx hb dX4_come_15 rfl (lv_at hl 2 rfl) ?_
  refine lv_iload_n hx hb dX4_come_16 rfl (lv_at hl 0 rfl) ?_
  refine lv_iushr (v := (w.toUInt32 >>> ((0 : Int32).toUInt32 &&& Int32.toUInt32 31)).toInt32) hx hb dX4_come_17 rfl ?_
  refine lv_sipush (v := 255) hx hb dX4_come_18 (by decide) ?_
  refine lv_iand hx hb dX4_come_21 ?_
  refine va_iast hx hb hK hP hD hS 1 0 rfl rfl (t_in (t_s (t_s (t_s hn))) (by omega)) dX4_come_22 (fun H locs hP hD hS => ?_)
  have hP : va_P (dC, dI) vwCl [(m0, .inr (4, [.int v.1, .ref m1, .int (((v.2.2.1 + 1) + 1) + 1), .ref m2, .ref m3, .int v.2.2.2.2.2.1, .int v.2.2.2.2.2.2.1, .int v.2.2.2.2.2.2.2.1, .int v.2.2.2.2.2.2.2.2.1, .int v.2.2.2.2.2.2.2.2.2.1, .int v.2.2.2.2.2.2.2.2.2.2.1, .int v.2.2.2.2.2.2.2.2.2.2.2.1, .long v.2.2.2.2.2.2.2.2.2.2.2.2.1, .int v.2.2.2.2.2.2.2.2.2.2.2.2.2.1, .ref m4, .ref m5, .int v.2.2.2.2.2.2.2.2.2.2.2.2.2.2.2.2])), (m1, .inl (cI, 60, .inl (upd (upd (upd (upd v.2.1 v.2.2.1.toNatClampNeg (((w.toUInt32 >>> ((24 : Int32).toUInt32 &&& Int32.toUInt32 31)).toInt32) &&& 255)) ((v.2.2.1 + 1).toNatClampNeg) (((w.toUInt32 >>> ((16 : Int32).toUInt32 &&& Int32.toUInt32 31)).toInt32) &&& 255)) (((v.2.2.1 + 1) + 1).toNatClampNeg) (((w.toUInt32 >>> ((8 : Int32).toUInt32 &&& Int32.toUInt32 31)).toInt32) &&& 255)) ((((v.2.2.1 + 1) + 1) + 1).toNatClampNeg) (((w.toUInt32 >>> ((0 : Int32).toUInt32 &&& Int32.toUInt32 31)).toInt32) &&& 255)))), (m2, .inl (cJ, 92, .inr (.inl v.2.2.2.1))), (m3, .inl (cJ, 92, .inr (.inl v.2.2.2.2.1))), (m4, .inl (cI, 1573, .inl v.2.2.2.2.2.2.2.2.2.2.2.2.2.2.1)), (m5, .inl (cI, 12, .inl v.2.2.2.2.2.2.2.2.2.2.2.2.2.2.2.1))] H := hP
  have hD : va_D A [(m0, .inr (4, [.int v.1, .ref m1, .int (((v.2.2.1 + 1) + 1) + 1), .ref m2, .ref m3, .int v.2.2.2.2.2.1, .int v.2.2.2.2.2.2.1, .int v.2.2.2.2.2.2.2.1, .int v.2.2.2.2.2.2.2.2.1, .int v.2.2.2.2.2.2.2.2.2.1, .int v.2.2.2.2.2.2.2.2.2.2.1, .int v.2.2.2.2.2.2.2.2.2.2.2.1, .long v.2.2.2.2.2.2.2.2.2.2.2.2.1, .int v.2.2.2.2.2.2.2.2.2.2.2.2.2.1, .ref m4, .ref m5, .int v.2.2.2.2.2.2.2.2.2.2.2.2.2.2.2.2])), (m1, .inl (cI, 60, .inl (upd (upd (upd (upd v.2.1 v.2.2.1.toNatClampNeg (((w.toUInt32 >>> ((24 : Int32).toUInt32 &&& Int32.toUInt32 31)).toInt32) &&& 255)) ((v.2.2.1 + 1).toNatClampNeg) (((w.toUInt32 >>> ((16 : Int32).toUInt32 &&& Int32.toUInt32 31)).toInt32) &&& 255)) (((v.2.2.1 + 1) + 1).toNatClampNeg) (((w.toUInt32 >>> ((8 : Int32).toUInt32 &&& Int32.toUInt32 31)).toInt32) &&& 255)) ((((v.2.2.1 + 1) + 1) + 1).toNatClampNeg) (((w.toUInt32 >>> ((0 : Int32).toUInt32 &&& Int32.toUInt32 31)).toInt32) &&& 255)))), (m2, .inl (cJ, 92, .inr (.inl v.2.2.2.1))), (m3, .inl (cJ, 92, .inr (.inl v.2.2.2.2.1))), (m4, .inl (cI, 1573, .inl v.2.2.2.2.2.2.2.2.2.2.2.2.2.2.1)), (m5, .inl (cI, 12, .inl v.2.2.2.2.2.2.2.2.2.2.2.2.2.2.2.1))] := hD
  refine lv_aload_n hx hb dX4_come_23 rfl (lv_at hl 1 rfl) ?_
  refine lv_dup hx hb dX4_come_24 rfl ?_
  refine va_get (D := (dC, dI)) (ci := 4) (v := .int (((v.2.2.1 + 1) + 1) + 1)) (C := RX4) (T := TX4) (N := 17) hx hb hts hiX4 hown hK hP 0 rfl rfl 2 (by decide) (hts (.fieldLink RX4 52 "TripReckonerModel" "taped" "I") (by decide +kernel)) (fun _ h9 => h9) rfl dX4_come_25 ?_
  refine lv_iconst (v := 1) hx hb dX4_come_28 (by decide) ?_
  refine lv_iadd hx hb dX4_come_29 ?_
  refine va_put (D := (dC, dI)) (ci := 4) (v := .int ((((v.2.2.1 + 1) + 1) + 1) + 1)) (ty := .int) (C := RX4) (T := TX4) (N := 17) hx hb hts hiX4 tyX4 tyX4_ok nmX4 hown hK hP hD hS 0 rfl rfl 2 (by decide) (hts (.fieldLink RX4 52 "TripReckonerModel" "taped" "I") (by decide +kernel)) (fun _ h9 => h9) rfl (by decide +kernel) rfl rfl (Nat.le_of_ble_eq_true rfl) dX4_come_30 (fun H locs hP hD hS => ?_)
  have hP : va_P (dC, dI) vwCl [(m0, .inr (4, [.int v.1, .ref m1, .int ((((v.2.2.1 + 1) + 1) + 1) + 1), .ref m2, .ref m3, .int v.2.2.2.2.2.1, .int v.2.2.2.2.2.2.1, .int v.2.2.2.2.2.2.2.1, .int v.2.2.2.2.2.2.2.2.1, .int v.2.2.2.2.2.2.2.2.2.1, .int v.2.2.2.2.2.2.2.2.2.2.1, .int v.2.2.2.2.2.2.2.2.2.2.2.1, .long v.2.2.2.2.2.2.2.2.2.2.2.2.1, .int v.2.2.2.2.2.2.2.2.2.2.2.2.2.1, .ref m4, .ref m5, .int v.2.2.2.2.2.2.2.2.2.2.2.2.2.2.2.2])), (m1, .inl (cI, 60, .inl (upd (upd (upd (upd v.2.1 v.2.2.1.toNatClampNeg (((w.toUInt32 >>> ((24 : Int32).toUInt32 &&& Int32.toUInt32 31)).toInt32) &&& 255)) ((v.2.2.1 + 1).toNatClampNeg) (((w.toUInt32 >>> ((16 : Int32).toUInt32 &&& Int32.toUInt32 31)).toInt32) &&& 255)) (((v.2.2.1 + 1) + 1).toNatClampNeg) (((w.toUInt32 >>> ((8 : Int32).toUInt32 &&& Int32.toUInt32 31)).toInt32) &&& 255)) ((((v.2.2.1 + 1) + 1) + 1).toNatClampNeg) (((w.toUInt32 >>> ((0 : Int32).toUInt32 &&& Int32.toUInt32 31)).toInt32) &&& 255)))), (m2, .inl (cJ, 92, .inr (.inl v.2.2.2.1))), (m3, .inl (cJ, 92, .inr (.inl v.2.2.2.2.1))), (m4, .inl (cI, 1573, .inl v.2.2.2.2.2.2.2.2.2.2.2.2.2.2.1)), (m5, .inl (cI, 12, .inl v.2.2.2.2.2.2.2.2.2.2.2.2.2.2.2.1))] H := hP
  have hD : va_D A [(m0, .inr (4, [.int v.1, .ref m1, .int ((((v.2.2.1 + 1) + 1) + 1) + 1), .ref m2, .ref m3, .int v.2.2.2.2.2.1, .int v.2.2.2.2.2.2.1, .int v.2.2.2.2.2.2.2.1, .int v.2.2.2.2.2.2.2.2.1, .int v.2.2.2.2.2.2.2.2.2.1, .int v.2.2.2.2.2.2.2.2.2.2.1, .int v.2.2.2.2.2.2.2.2.2.2.2.1, .long v.2.2.2.2.2.2.2.2.2.2.2.2.1, .int v.2.2.2.2.2.2.2.2.2.2.2.2.2.1, .ref m4, .ref m5, .int v.2.2.2.2.2.2.2.2.2.2.2.2.2.2.2.2])), (m1, .inl (cI, 60, .inl (upd (upd (upd (upd v.2.1 v.2.2.1.toNatClampNeg (((w.toUInt32 >>> ((24 : Int32).toUInt32 &&& Int32.toUInt32 31)).toInt32) &&& 255)) ((v.2.2.1 + 1).toNatClampNeg) (((w.toUInt32 >>> ((16 : Int32).toUInt32 &&& Int32.toUInt32 31)).toInt32) &&& 255)) (((v.2.2.1 + 1) + 1).toNatClampNeg) (((w.toUInt32 >>> ((8 : Int32).toUInt32 &&& Int32.toUInt32 31)).toInt32) &&& 255)) ((((v.2.2.1 + 1) + 1) + 1).toNatClampNeg) (((w.toUInt32 >>> ((0 : Int32).toUInt32 &&& Int32.toUInt32 31)).toInt32) &&& 255)))), (m2, .inl (cJ, 92, .inr (.inl v.2.2.2.1))), (m3, .inl (cJ, 92, .inr (.inl v.2.2.2.2.1))), (m4, .inl (cI, 1573, .inl v.2.2.2.2.2.2.2.2.2.2.2.2.2.2.1)), (m5, .inl (cI, 12, .inl v.2.2.2.2.2.2.2.2.2.2.2.2.2.2.2.1))] := hD
  refine lv_iinc (v := (-8)) (lv' := [(2, .int (-8)), (0, .ref m0), (1, .int w)]) hx hb dX4_come_33 hl (k := 0) rfl (by decide) (by decide) rfl (fun ls hl => ?_)
  refine lv_goto (tgt := 3) hx hb dX4_come_36 (by decide) ?_
  refine lv_iload_n hx hb dX4_come_3 rfl (lv_at hl 0 rfl) ?_
  refine lv_if_lt (tgt := 39) hx hb dX4_come_4 (by decide) (fun c_5 => ?_) (fun c_5 => absurd (by decide) c_5)
  have es0 : sX4_come w v = (v.1, upd (upd (upd (upd v.2.1 v.2.2.1.toNatClampNeg (((w.toUInt32 >>> ((24 : Int32).toUInt32 &&& Int32.toUInt32 31)).toInt32) &&& 255)) ((v.2.2.1 + 1).toNatClampNeg) (((w.toUInt32 >>> ((16 : Int32).toUInt32 &&& Int32.toUInt32 31)).toInt32) &&& 255)) (((v.2.2.1 + 1) + 1).toNatClampNeg) (((w.toUInt32 >>> ((8 : Int32).toUInt32 &&& Int32.toUInt32 31)).toInt32) &&& 255)) ((((v.2.2.1 + 1) + 1) + 1).toNatClampNeg) (((w.toUInt32 >>> ((0 : Int32).toUInt32 &&& Int32.toUInt32 31)).toInt32) &&& 255), (((v.2.2.1 + 1) + 1) + 1) + 1, v.2.2.2.1, v.2.2.2.2.1, v.2.2.2.2.2.1, v.2.2.2.2.2.2.1, v.2.2.2.2.2.2.2.1, v.2.2.2.2.2.2.2.2.1, v.2.2.2.2.2.2.2.2.2.1, v.2.2.2.2.2.2.2.2.2.2.1, v.2.2.2.2.2.2.2.2.2.2.2.1, v.2.2.2.2.2.2.2.2.2.2.2.2.1, v.2.2.2.2.2.2.2.2.2.2.2.2.2.1, v.2.2.2.2.2.2.2.2.2.2.2.2.2.2.1, v.2.2.2.2.2.2.2.2.2.2.2.2.2.2.2.1, v.2.2.2.2.2.2.2.2.2.2.2.2.2.2.2.2) := by rw [sX4_come]
  refine W.vret hx hb hr (fun t ht hW => ⟨⟨(), rfl, trivial, ?_⟩, hS.F ht⟩) hS.2.2 dX4_come_39
  rw [es0]; exact ⟨by rw [ht]; exact hP, va_K.moved hW.alike hK, hD⟩

theorem come_t {w : Int32} {v : MS} {n : Nat} (hn : v.2.2.1 = nI n) : (sX4_come w v).2.2.1 = nI (n + 4) := t_s (t_s (t_s (t_s hn)))
theorem feed_n {x : Int32} {n : Nat} (hn : x = nI n) (h : n ≤ 60) (c : x + 20 ≤ 60) : n ≤ 40 := by
  subst hn
  have e : nI n + 20 = nI (n + 20) := nI_add n 20
  rw [e] at c
  rcases Nat.lt_or_ge 40 n with q | q
  · exact absurd (show nI (n + 20) ≤ nI 60 from c) (nI_ge (by omega) (by omega))
  · exact q

def sX4_feed_g_11 (a : Int32) (b : Int32) (cc : Int32) (dd : Int32) (ee : Int32) (v : MS) (g_3 : MS) (g_5 : MS) (g_7 : MS) (g_9 : MS) (g_11 : MS) : MS :=
  g_11
def sX4_feed_g_9 (a : Int32) (b : Int32) (cc : Int32) (dd : Int32) (ee : Int32) (v : MS) (g_3 : MS) (g_5 : MS) (g_7 : MS) (g_9 : MS) : MS :=
  sX4_feed_g_11 a b cc dd ee v g_3 g_5 g_7 g_9 (sX4_come ee g_9)
def sX4_feed_g_7 (a : Int32) (b : Int32) (cc : Int32) (dd : Int32) (ee : Int32) (v : MS) (g_3 : MS) (g_5 : MS) (g_7 : MS) : MS :=
  sX4_feed_g_9 a b cc dd ee v g_3 g_5 g_7 (sX4_come dd g_7)
def sX4_feed_g_5 (a : Int32) (b : Int32) (cc : Int32) (dd : Int32) (ee : Int32) (v : MS) (g_3 : MS) (g_5 : MS) : MS :=
  sX4_feed_g_7 a b cc dd ee v g_3 g_5 (sX4_come cc g_5)
def sX4_feed_g_3 (a : Int32) (b : Int32) (cc : Int32) (dd : Int32) (ee : Int32) (v : MS) (g_3 : MS) : MS :=
  sX4_feed_g_5 a b cc dd ee v g_3 (sX4_come b g_3)
def sX4_feed (a : Int32) (b : Int32) (cc : Int32) (dd : Int32) (ee : Int32) (v : MS) : MS :=
  if (v.2.2.1 + 20) ≤ 60 then
    sX4_feed_g_3 a b cc dd ee v (sX4_come a (0, v.2.1, v.2.2.1, v.2.2.2.1, v.2.2.2.2.1, v.2.2.2.2.2.1, v.2.2.2.2.2.2.1, v.2.2.2.2.2.2.2.1, v.2.2.2.2.2.2.2.2.1, v.2.2.2.2.2.2.2.2.2.1, v.2.2.2.2.2.2.2.2.2.2.1, v.2.2.2.2.2.2.2.2.2.2.2.1, v.2.2.2.2.2.2.2.2.2.2.2.2.1, v.2.2.2.2.2.2.2.2.2.2.2.2.2.1, v.2.2.2.2.2.2.2.2.2.2.2.2.2.2.1, v.2.2.2.2.2.2.2.2.2.2.2.2.2.2.2.1, v.2.2.2.2.2.2.2.2.2.2.2.2.2.2.2.2))
  else
    (0, v.2.1, v.2.2.1, v.2.2.2.1, v.2.2.2.2.1, v.2.2.2.2.2.1, v.2.2.2.2.2.2.1, v.2.2.2.2.2.2.2.1, v.2.2.2.2.2.2.2.2.1, v.2.2.2.2.2.2.2.2.2.1, v.2.2.2.2.2.2.2.2.2.2.1, v.2.2.2.2.2.2.2.2.2.2.2.1, v.2.2.2.2.2.2.2.2.2.2.2.2.1, v.2.2.2.2.2.2.2.2.2.2.2.2.2.1, v.2.2.2.2.2.2.2.2.2.2.2.2.2.2.1, v.2.2.2.2.2.2.2.2.2.2.2.2.2.2.2.1, v.2.2.2.2.2.2.2.2.2.2.2.2.2.2.2.2)
def rX4_feed_g_11 (a : Int32) (b : Int32) (cc : Int32) (dd : Int32) (ee : Int32) (v : MS) (g_3 : MS) (g_5 : MS) (g_7 : MS) (g_9 : MS) (g_11 : MS) : Int32 :=
  g_11.2.2.1
def rX4_feed_g_9 (a : Int32) (b : Int32) (cc : Int32) (dd : Int32) (ee : Int32) (v : MS) (g_3 : MS) (g_5 : MS) (g_7 : MS) (g_9 : MS) : Int32 :=
  rX4_feed_g_11 a b cc dd ee v g_3 g_5 g_7 g_9 (sX4_come ee g_9)
def rX4_feed_g_7 (a : Int32) (b : Int32) (cc : Int32) (dd : Int32) (ee : Int32) (v : MS) (g_3 : MS) (g_5 : MS) (g_7 : MS) : Int32 :=
  rX4_feed_g_9 a b cc dd ee v g_3 g_5 g_7 (sX4_come dd g_7)
def rX4_feed_g_5 (a : Int32) (b : Int32) (cc : Int32) (dd : Int32) (ee : Int32) (v : MS) (g_3 : MS) (g_5 : MS) : Int32 :=
  rX4_feed_g_7 a b cc dd ee v g_3 g_5 (sX4_come cc g_5)
def rX4_feed_g_3 (a : Int32) (b : Int32) (cc : Int32) (dd : Int32) (ee : Int32) (v : MS) (g_3 : MS) : Int32 :=
  rX4_feed_g_5 a b cc dd ee v g_3 (sX4_come b g_3)
def rX4_feed (a : Int32) (b : Int32) (cc : Int32) (dd : Int32) (ee : Int32) (v : MS) : Int32 :=
  if (v.2.2.1 + 20) ≤ 60 then
    rX4_feed_g_3 a b cc dd ee v (sX4_come a (0, v.2.1, v.2.2.1, v.2.2.2.1, v.2.2.2.2.1, v.2.2.2.2.2.1, v.2.2.2.2.2.2.1, v.2.2.2.2.2.2.2.1, v.2.2.2.2.2.2.2.2.1, v.2.2.2.2.2.2.2.2.2.1, v.2.2.2.2.2.2.2.2.2.2.1, v.2.2.2.2.2.2.2.2.2.2.2.1, v.2.2.2.2.2.2.2.2.2.2.2.2.1, v.2.2.2.2.2.2.2.2.2.2.2.2.2.1, v.2.2.2.2.2.2.2.2.2.2.2.2.2.2.1, v.2.2.2.2.2.2.2.2.2.2.2.2.2.2.2.1, v.2.2.2.2.2.2.2.2.2.2.2.2.2.2.2.2))
  else
    (-1)
set_option maxHeartbeats 4000000 in
set_option maxRecDepth 100000 in
theorem kX4_feed (l : Launch) (dC : Nat → ClassId) (dI : Nat → Nat → Nat) (cI cJ : ClassId) (m0 m1 m2 m3 m4 m5 : Nat) (sz : Nat) (a : Int32) (b : Int32) (cc : Int32) (dd : Int32) (ee : Int32) (v : MS) (n : Nat) (hn : v.2.2.1 = nI n) (hn60 : n ≤ 60) : Met l yX4_feed wsX4_feed ({ frames := 1, cells := 0, slots := 0, locals := 22 }) (va_Pc [.ref m0, .int a, .int b, .int cc, .int dd, .int ee] (fun U => U.heap.size = sz ∧ va_P (dC, dI) vwCl [cM0 m0 m1 m2 m3 m4 m5 v, cM1 cI m1 v, cM2 cJ m2 v, cM3 cJ m3 v, cM4 cI m4 v, cM5 cI m5 v] U.heap ∧ va_K (dC, dI) vwCl [(cI, .int), (cJ, .long)] U ∧ va_D (fun _ => True) [cM0 m0 m1 m2 m3 m4 m5 v, cM1 cI m1 v, cM2 cJ m2 v, cM3 cJ m3 v, cM4 cI m4 v, cM5 cI m5 v])) (va_Qi (fun (r : Int32) (_ : Unit) => r = rX4_feed a b cc dd ee v) (fun _ t => va_P (dC, dI) vwCl [cM0 m0 m1 m2 m3 m4 m5 (sX4_feed a b cc dd ee v), cM1 cI m1 (sX4_feed a b cc dd ee v), cM2 cJ m2 (sX4_feed a b cc dd ee v), cM3 cJ m3 (sX4_feed a b cc dd ee v), cM4 cI m4 (sX4_feed a b cc dd ee v), cM5 cI m5 (sX4_feed a b cc dd ee v)] t.heap ∧ va_K (dC, dI) vwCl [(cI, .int), (cJ, .long)] t ∧ va_D (va_A [cM0 m0 m1 m2 m3 m4 m5 v, cM1 cI m1 v, cM2 cJ m2 v, cM3 cJ m3 v, cM4 cI m4 v, cM5 cI m5 v] sz) [cM0 m0 m1 m2 m3 m4 m5 (sX4_feed a b cc dd ee v), cM1 cI m1 (sX4_feed a b cc dd ee v), cM2 cJ m2 (sX4_feed a b cc dd ee v), cM3 cJ m3 (sX4_feed a b cc dd ee v), cM4 cI m4 (sX4_feed a b cc dd ee v), cM5 cI m5 (sX4_feed a b cc dd ee v)]) (va_A [cM0 m0 m1 m2 m3 m4 m5 v, cM1 cI m1 v, cM2 cJ m2 v, cM3 cJ m3 v, cM4 cI m4 v, cM5 cI m5 v] sz)) 0 0 (va_A [cM0 m0 m1 m2 m3 m4 m5 v, cM1 cI m1 v, cM2 cJ m2 v, cM3 cJ m3 v, cM4 cI m4 v, cM5 cI m5 v] sz) := by
  refine Met.ofW (cc := cX4_feed) (maxL := 6) (ret := (some .int)) (by decide) rfl ?_
  intro p e s m args below meth c s₁ B hml hv
  obtain ⟨rfl, hsz, hP, hK, hD0⟩ := hv
  have hx := B.exec
  have hb := B.bytes
  have hr := B.returns
  have hts := atoms_spec (ws := wsX4_feed) B.pre
  have hown : s.vm.findClass RX4 = some m.cls := findClass_of_methodNamed B.named
  have hlocks := B.notSynchronized
  have hiX4 : ∀ w ∈ u_ws RX4 TX4 17, w ∈ wsX4_feed := by decide +kernel
  subst hsz
  have hD := hD0.self (sz := s.heap.size)
  generalize hAe : va_A [cM0 m0 m1 m2 m3 m4 m5 v, cM1 cI m1 v, cM2 cJ m2 v, cM3 cJ m3 v, cM4 cI m4 v, cM5 cI m5 v] s.heap.size = A at hD ⊢
  have hA : ∀ q : Nat, s.heap.size ≤ q → A q := fun q h => by rw [← hAe]; exact Or.inr h
  have hS : va_S A s.heap s.heap [] := va_S.rf
  have hl := lv_entry ([.ref m0, .int a, .int b, .int cc, .int dd, .int ee]) (n := 6) (Nat.le_of_ble_eq_true rfl)
  rw [lg_entry_eq]
  generalize (lg_sl ([.ref m0, .int a, .int b, .int cc, .int dd, .int ee]) ++ List.replicate (6 - (lg_sl ([.ref m0, .int a, .int b, .int cc, .int dd, .int ee])).length) Slot.unset).toArray = ls at hl ⊢
  have hl : lv_has ls 6 [(0, .ref m0), (1, .int a), (2, .int b), (3, .int cc), (4, .int dd), (5, .int ee)] := hl
  have hP : va_P (dC, dI) vwCl [cM0 m0 m1 m2 m3 m4 m5 v, cM1 cI m1 v, cM2 cJ m2 v, cM3 cJ m3 v, cM4 cI m4 v, cM5 cI m5 v] s.heap := hP
  refine lv_aload_n hx hb dX4_feed_0 rfl (lv_at hl 0 rfl) ?_
  refine lv_iconst (v := 0) hx hb dX4_feed_1 (by decide) ?_
  refine va_put (D := (dC, dI)) (ci := 4) (v := .int 0) (ty := .int) (C := RX4) (T := TX4) (N := 17) hx hb hts hiX4 tyX4 tyX4_ok nmX4 hown hK hP hD hS 0 rfl rfl 0 (by decide) (hts (.fieldLink RX4 49 "TripReckonerModel" "thrown" "I") (by decide +kernel)) (fun _ h9 => h9) rfl (by decide +kernel) rfl rfl (Nat.le_of_ble_eq_true rfl) dX4_feed_2 (fun H locs hP hD hS => ?_)
  have hP : va_P (dC, dI) vwCl [(m0, .inr (4, [.int 0, .ref m1, .int v.2.2.1, .ref m2, .ref m3, .int v.2.2.2.2.2.1, .int v.2.2.2.2.2.2.1, .int v.2.2.2.2.2.2.2.1, .int v.2.2.2.2.2.2.2.2.1, .int v.2.2.2.2.2.2.2.2.2.1, .int v.2.2.2.2.2.2.2.2.2.2.1, .int v.2.2.2.2.2.2.2.2.2.2.2.1, .long v.2.2.2.2.2.2.2.2.2.2.2.2.1, .int v.2.2.2.2.2.2.2.2.2.2.2.2.2.1, .ref m4, .ref m5, .int v.2.2.2.2.2.2.2.2.2.2.2.2.2.2.2.2])), (m1, .inl (cI, 60, .inl v.2.1)), (m2, .inl (cJ, 92, .inr (.inl v.2.2.2.1))), (m3, .inl (cJ, 92, .inr (.inl v.2.2.2.2.1))), (m4, .inl (cI, 1573, .inl v.2.2.2.2.2.2.2.2.2.2.2.2.2.2.1)), (m5, .inl (cI, 12, .inl v.2.2.2.2.2.2.2.2.2.2.2.2.2.2.2.1))] H := hP
  have hD : va_D A [(m0, .inr (4, [.int 0, .ref m1, .int v.2.2.1, .ref m2, .ref m3, .int v.2.2.2.2.2.1, .int v.2.2.2.2.2.2.1, .int v.2.2.2.2.2.2.2.1, .int v.2.2.2.2.2.2.2.2.1, .int v.2.2.2.2.2.2.2.2.2.1, .int v.2.2.2.2.2.2.2.2.2.2.1, .int v.2.2.2.2.2.2.2.2.2.2.2.1, .long v.2.2.2.2.2.2.2.2.2.2.2.2.1, .int v.2.2.2.2.2.2.2.2.2.2.2.2.2.1, .ref m4, .ref m5, .int v.2.2.2.2.2.2.2.2.2.2.2.2.2.2.2.2])), (m1, .inl (cI, 60, .inl v.2.1)), (m2, .inl (cJ, 92, .inr (.inl v.2.2.2.1))), (m3, .inl (cJ, 92, .inr (.inl v.2.2.2.2.1))), (m4, .inl (cI, 1573, .inl v.2.2.2.2.2.2.2.2.2.2.2.2.2.2.1)), (m5, .inl (cI, 12, .inl v.2.2.2.2.2.2.2.2.2.2.2.2.2.2.2.1))] := hD
  refine lv_aload_n hx hb dX4_feed_5 rfl (lv_at hl 0 rfl) ?_
  refine va_get (D := (dC, dI)) (ci := 4) (v := .int v.2.2.1) (C := RX4) (T := TX4) (N := 17) hx hb hts hiX4 hown hK hP 0 rfl rfl 2 (by decide) (hts (.fieldLink RX4 52 "TripReckonerModel" "taped" "I") (by decide +kernel)) (fun _ h9 => h9) rfl dX4_feed_6 ?_
  refine lv_bipush (v := 20) hx hb dX4_feed_9 (by decide) ?_
  refine lv_iadd hx hb dX4_feed_11 ?_
  refine lv_bipush (v := 60) hx hb dX4_feed_12 (by decide) ?_
  refine lv_icmp_le (tgt := 19) hx hb dX4_feed_14 (by decide) (fun c_1 => ?_) (fun c_1 => ?_)
  · refine lv_aload_n hx hb dX4_feed_19 rfl (lv_at hl 0 rfl) ?_
    refine lv_iload_n hx hb dX4_feed_20 rfl (lv_at hl 1 rfl) ?_
    have hPc := hP.sub (ws' := [(m0, .inr (4, [.int 0, .ref m1, .int v.2.2.1, .ref m2, .ref m3, .int v.2.2.2.2.2.1, .int v.2.2.2.2.2.2.1, .int v.2.2.2.2.2.2.2.1, .int v.2.2.2.2.2.2.2.2.1, .int v.2.2.2.2.2.2.2.2.2.1, .int v.2.2.2.2.2.2.2.2.2.2.1, .int v.2.2.2.2.2.2.2.2.2.2.2.1, .long v.2.2.2.2.2.2.2.2.2.2.2.2.1, .int v.2.2.2.2.2.2.2.2.2.2.2.2.2.1, .ref m4, .ref m5, .int v.2.2.2.2.2.2.2.2.2.2.2.2.2.2.2.2])), (m1, .inl (cI, 60, .inl v.2.1)), (m2, .inl (cJ, 92, .inr (.inl v.2.2.2.1))), (m3, .inl (cJ, 92, .inr (.inl v.2.2.2.2.1))), (m4, .inl (cI, 1573, .inl v.2.2.2.2.2.2.2.2.2.2.2.2.2.2.1)), (m5, .inl (cI, 12, .inl v.2.2.2.2.2.2.2.2.2.2.2.2.2.2.2.1))]) [0, 1, 2, 3, 4, 5] rfl
    have hDc := hD.sub (ws' := [(m0, .inr (4, [.int 0, .ref m1, .int v.2.2.1, .ref m2, .ref m3, .int v.2.2.2.2.2.1, .int v.2.2.2.2.2.2.1, .int v.2.2.2.2.2.2.2.1, .int v.2.2.2.2.2.2.2.2.1, .int v.2.2.2.2.2.2.2.2.2.1, .int v.2.2.2.2.2.2.2.2.2.2.1, .int v.2.2.2.2.2.2.2.2.2.2.2.1, .long v.2.2.2.2.2.2.2.2.2.2.2.2.1, .int v.2.2.2.2.2.2.2.2.2.2.2.2.2.1, .ref m4, .ref m5, .int v.2.2.2.2.2.2.2.2.2.2.2.2.2.2.2.2])), (m1, .inl (cI, 60, .inl v.2.1)), (m2, .inl (cJ, 92, .inr (.inl v.2.2.2.1))), (m3, .inl (cJ, 92, .inr (.inl v.2.2.2.2.1))), (m4, .inl (cI, 1573, .inl v.2.2.2.2.2.2.2.2.2.2.2.2.2.2.1)), (m5, .inl (cI, 12, .inl v.2.2.2.2.2.2.2.2.2.2.2.2.2.2.2.1))]) [0, 1, 2, 3, 4, 5] (by decide) rfl
    have hFc := va_free (wc := [(m0, .inr (4, [.int 0, .ref m1, .int v.2.2.1, .ref m2, .ref m3, .int v.2.2.2.2.2.1, .int v.2.2.2.2.2.2.1, .int v.2.2.2.2.2.2.2.1, .int v.2.2.2.2.2.2.2.2.1, .int v.2.2.2.2.2.2.2.2.2.1, .int v.2.2.2.2.2.2.2.2.2.2.1, .int v.2.2.2.2.2.2.2.2.2.2.2.1, .long v.2.2.2.2.2.2.2.2.2.2.2.2.1, .int v.2.2.2.2.2.2.2.2.2.2.2.2.2.1, .ref m4, .ref m5, .int v.2.2.2.2.2.2.2.2.2.2.2.2.2.2.2.2])), (m1, .inl (cI, 60, .inl v.2.1)), (m2, .inl (cJ, 92, .inr (.inl v.2.2.2.1))), (m3, .inl (cJ, 92, .inr (.inl v.2.2.2.2.1))), (m4, .inl (cI, 1573, .inl v.2.2.2.2.2.2.2.2.2.2.2.2.2.2.1)), (m5, .inl (cI, 12, .inl v.2.2.2.2.2.2.2.2.2.2.2.2.2.2.2.1))]) hD hS hA [0, 1, 2, 3, 4, 5] rfl
    refine va_callv (va_runV (As := [.int a]) (rest := []) ⟨hx, hb, hml, hown, hts⟩ (kX4_come l dC dI cI cJ m0 m1 m2 m3 m4 m5 H.size a (0, v.2.1, v.2.2.1, v.2.2.2.1, v.2.2.2.2.1, v.2.2.2.2.2.1, v.2.2.2.2.2.2.1, v.2.2.2.2.2.2.2.1, v.2.2.2.2.2.2.2.2.1, v.2.2.2.2.2.2.2.2.2.1, v.2.2.2.2.2.2.2.2.2.2.1, v.2.2.2.2.2.2.2.2.2.2.2.1, v.2.2.2.2.2.2.2.2.2.2.2.2.1, v.2.2.2.2.2.2.2.2.2.2.2.2.2.1, v.2.2.2.2.2.2.2.2.2.2.2.2.2.2.1, v.2.2.2.2.2.2.2.2.2.2.2.2.2.2.2.1, v.2.2.2.2.2.2.2.2.2.2.2.2.2.2.2.2) n hn (by have := feed_n hn hn60 c_1; omega)) (cwV 1 hts gX4_feed_X4_come rfl rfl rfl (by decide +kernel) ⟨Nat.le_of_ble_eq_true rfl, Nat.le_of_ble_eq_true rfl⟩) ⟨fun a U g mk q => by obtain ⟨q0, q1, qP, qK, qD⟩ := q; exact ⟨q0, q1, qP, va_K.moved (u := U) (U := U.calling g mk a) (Vm.Alike.refl U.vm) qK, qD⟩, va_recv hK hPc (ci := 4) (q0 := 0) rfl rfl, fun U hU hW => ⟨rfl, by rw [hU], by rw [hU]; exact hPc, va_K.moved hW.alike hK, hDc.weaken (fun _ _ _ _ => trivial)⟩⟩ rfl rfl hl.1 rfl (lv_room (Nat.le_of_ble_eq_true rfl)) dX4_feed_21 ⟨Nat.le_of_ble_eq_true rfl, Nat.le_of_ble_eq_true rfl⟩) hS (fun q _ h => hFc q h) hFc (fun _ t H1 locs ht hvm hw hB hz1 hk1 hS => ?_)
    obtain ⟨hP1, hK1, hD1⟩ := hB
    rw [ht] at hP1
    obtain ⟨g_3, eg_3⟩ : ∃ z, z = sX4_come a (0, v.2.1, v.2.2.1, v.2.2.2.1, v.2.2.2.2.1, v.2.2.2.2.2.1, v.2.2.2.2.2.2.1, v.2.2.2.2.2.2.2.1, v.2.2.2.2.2.2.2.2.1, v.2.2.2.2.2.2.2.2.2.1, v.2.2.2.2.2.2.2.2.2.2.1, v.2.2.2.2.2.2.2.2.2.2.2.1, v.2.2.2.2.2.2.2.2.2.2.2.2.1, v.2.2.2.2.2.2.2.2.2.2.2.2.2.1, v.2.2.2.2.2.2.2.2.2.2.2.2.2.2.1, v.2.2.2.2.2.2.2.2.2.2.2.2.2.2.2.1, v.2.2.2.2.2.2.2.2.2.2.2.2.2.2.2.2) := ⟨_, rfl⟩
    rw [← eg_3] at hP1 hD1
    obtain ⟨hP, hD⟩ := va_join (wr := []) (w1 := [cM0 m0 m1 m2 m3 m4 m5 g_3, cM1 cI m1 g_3, cM2 cJ m2 g_3, cM3 cJ m3 g_3, cM4 cI m4 g_3, cM5 cI m5 g_3]) hP hD [0, 1, 2, 3, 4, 5] [] rfl rfl (by decide) (by decide) hk1 hFc hP1 hD1
    generalize H1 = H at hP hS ⊢
    have hP : va_P (dC, dI) vwCl [cM0 m0 m1 m2 m3 m4 m5 g_3, cM1 cI m1 g_3, cM2 cJ m2 g_3, cM3 cJ m3 g_3, cM4 cI m4 g_3, cM5 cI m5 g_3] H := hP
    have hD : va_D A [cM0 m0 m1 m2 m3 m4 m5 g_3, cM1 cI m1 g_3, cM2 cJ m2 g_3, cM3 cJ m3 g_3, cM4 cI m4 g_3, cM5 cI m5 g_3] := hD
    refine lv_aload_n hx hb dX4_feed_24 rfl (lv_at hl 0 rfl) ?_
    refine lv_iload_n hx hb dX4_feed_25 rfl (lv_at hl 2 rfl) ?_
    have hPc := hP.sub (ws' := [cM0 m0 m1 m2 m3 m4 m5 g_3, cM1 cI m1 g_3, cM2 cJ m2 g_3, cM3 cJ m3 g_3, cM4 cI m4 g_3, cM5 cI m5 g_3]) [0, 1, 2, 3, 4, 5] rfl
    have hDc := hD.sub (ws' := [cM0 m0 m1 m2 m3 m4 m5 g_3, cM1 cI m1 g_3, cM2 cJ m2 g_3, cM3 cJ m3 g_3, cM4 cI m4 g_3, cM5 cI m5 g_3]) [0, 1, 2, 3, 4, 5] (by decide) rfl
    have hFc := va_free (wc := [cM0 m0 m1 m2 m3 m4 m5 g_3, cM1 cI m1 g_3, cM2 cJ m2 g_3, cM3 cJ m3 g_3, cM4 cI m4 g_3, cM5 cI m5 g_3]) hD hS hA [0, 1, 2, 3, 4, 5] rfl
    refine va_callv (va_runV (As := [.int b]) (rest := []) ⟨hx, hb, hml, hown, hts⟩ (kX4_come l dC dI cI cJ m0 m1 m2 m3 m4 m5 H.size b g_3 (n + 4) (by rw [eg_3]; exact come_t hn) (by have := feed_n hn hn60 c_1; omega)) (cwV 1 hts gX4_feed_X4_come rfl rfl rfl (by decide +kernel) ⟨Nat.le_of_ble_eq_true rfl, Nat.le_of_ble_eq_true rfl⟩) ⟨fun a U g mk q => by obtain ⟨q0, q1, qP, qK, qD⟩ := q; exact ⟨q0, q1, qP, va_K.moved (u := U) (U := U.calling g mk a) (Vm.Alike.refl U.vm) qK, qD⟩, va_recv hK hPc (ci := 4) (q0 := 0) rfl rfl, fun U hU hW => ⟨rfl, by rw [hU], by rw [hU]; exact hPc, va_K.moved hW.alike hK, hDc.weaken (fun _ _ _ _ => trivial)⟩⟩ rfl rfl hl.1 rfl (lv_room (Nat.le_of_ble_eq_true rfl)) dX4_feed_26 ⟨Nat.le_of_ble_eq_true rfl, Nat.le_of_ble_eq_true rfl⟩) hS (fun q _ h => hFc q h) hFc (fun _ t H1 locs ht hvm hw hB hz1 hk1 hS => ?_)
    obtain ⟨hP1, hK1, hD1⟩ := hB
    rw [ht] at hP1
    obtain ⟨g_5, eg_5⟩ : ∃ z, z = sX4_come b g_3 := ⟨_, rfl⟩
    rw [← eg_5] at hP1 hD1
    obtain ⟨hP, hD⟩ := va_join (wr := []) (w1 := [cM0 m0 m1 m2 m3 m4 m5 g_5, cM1 cI m1 g_5, cM2 cJ m2 g_5, cM3 cJ m3 g_5, cM4 cI m4 g_5, cM5 cI m5 g_5]) hP hD [0, 1, 2, 3, 4, 5] [] rfl rfl (by decide) (by decide) hk1 hFc hP1 hD1
    generalize H1 = H at hP hS ⊢
    have hP : va_P (dC, dI) vwCl [cM0 m0 m1 m2 m3 m4 m5 g_5, cM1 cI m1 g_5, cM2 cJ m2 g_5, cM3 cJ m3 g_5, cM4 cI m4 g_5, cM5 cI m5 g_5] H := hP
    have hD : va_D A [cM0 m0 m1 m2 m3 m4 m5 g_5, cM1 cI m1 g_5, cM2 cJ m2 g_5, cM3 cJ m3 g_5, cM4 cI m4 g_5, cM5 cI m5 g_5] := hD
    refine lv_aload_n hx hb dX4_feed_29 rfl (lv_at hl 0 rfl) ?_
    refine lv_iload_n hx hb dX4_feed_30 rfl (lv_at hl 3 rfl) ?_
    have hPc := hP.sub (ws' := [cM0 m0 m1 m2 m3 m4 m5 g_5, cM1 cI m1 g_5, cM2 cJ m2 g_5, cM3 cJ m3 g_5, cM4 cI m4 g_5, cM5 cI m5 g_5]) [0, 1, 2, 3, 4, 5] rfl
    have hDc := hD.sub (ws' := [cM0 m0 m1 m2 m3 m4 m5 g_5, cM1 cI m1 g_5, cM2 cJ m2 g_5, cM3 cJ m3 g_5, cM4 cI m4 g_5, cM5 cI m5 g_5]) [0, 1, 2, 3, 4, 5] (by decide) rfl
    have hFc := va_free (wc := [cM0 m0 m1 m2 m3 m4 m5 g_5, cM1 cI m1 g_5, cM2 cJ m2 g_5, cM3 cJ m3 g_5, cM4 cI m4 g_5, cM5 cI m5 g_5]) hD hS hA [0, 1, 2, 3, 4, 5] rfl
    refine va_callv (va_runV (As := [.int cc]) (rest := []) ⟨hx, hb, hml, hown, hts⟩ (kX4_come l dC dI cI cJ m0 m1 m2 m3 m4 m5 H.size cc g_5 (n + 4 + 4) (by rw [eg_5]; exact come_t (by rw [eg_3]; exact come_t hn)) (by have := feed_n hn hn60 c_1; omega)) (cwV 1 hts gX4_feed_X4_come rfl rfl rfl (by decide +kernel) ⟨Nat.le_of_ble_eq_true rfl, Nat.le_of_ble_eq_true rfl⟩) ⟨fun a U g mk q => by obtain ⟨q0, q1, qP, qK, qD⟩ := q; exact ⟨q0, q1, qP, va_K.moved (u := U) (U := U.calling g mk a) (Vm.Alike.refl U.vm) qK, qD⟩, va_recv hK hPc (ci := 4) (q0 := 0) rfl rfl, fun U hU hW => ⟨rfl, by rw [hU], by rw [hU]; exact hPc, va_K.moved hW.alike hK, hDc.weaken (fun _ _ _ _ => trivial)⟩⟩ rfl rfl hl.1 rfl (lv_room (Nat.le_of_ble_eq_true rfl)) dX4_feed_31 ⟨Nat.le_of_ble_eq_true rfl, Nat.le_of_ble_eq_true rfl⟩) hS (fun q _ h => hFc q h) hFc (fun _ t H1 locs ht hvm hw hB hz1 hk1 hS => ?_)
    obtain ⟨hP1, hK1, hD1⟩ := hB
    rw [ht] at hP1
    obtain ⟨g_7, eg_7⟩ : ∃ z, z = sX4_come cc g_5 := ⟨_, rfl⟩
    rw [← eg_7] at hP1 hD1
    obtain ⟨hP, hD⟩ := va_join (wr := []) (w1 := [cM0 m0 m1 m2 m3 m4 m5 g_7, cM1 cI m1 g_7, cM2 cJ m2 g_7, cM3 cJ m3 g_7, cM4 cI m4 g_7, cM5 cI m5 g_7]) hP hD [0, 1, 2, 3, 4, 5] [] rfl rfl (by decide) (by decide) hk1 hFc hP1 hD1
    generalize H1 = H at hP hS ⊢
    have hP : va_P (dC, dI) vwCl [cM0 m0 m1 m2 m3 m4 m5 g_7, cM1 cI m1 g_7, cM2 cJ m2 g_7, cM3 cJ m3 g_7, cM4 cI m4 g_7, cM5 cI m5 g_7] H := hP
    have hD : va_D A [cM0 m0 m1 m2 m3 m4 m5 g_7, cM1 cI m1 g_7, cM2 cJ m2 g_7, cM3 cJ m3 g_7, cM4 cI m4 g_7, cM5 cI m5 g_7] := hD
    refine lv_aload_n hx hb dX4_feed_34 rfl (lv_at hl 0 rfl) ?_
    refine lv_iload hx hb dX4_feed_35 (lv_at hl 4 rfl) ?_
    have hPc := hP.sub (ws' := [cM0 m0 m1 m2 m3 m4 m5 g_7, cM1 cI m1 g_7, cM2 cJ m2 g_7, cM3 cJ m3 g_7, cM4 cI m4 g_7, cM5 cI m5 g_7]) [0, 1, 2, 3, 4, 5] rfl
    have hDc := hD.sub (ws' := [cM0 m0 m1 m2 m3 m4 m5 g_7, cM1 cI m1 g_7, cM2 cJ m2 g_7, cM3 cJ m3 g_7, cM4 cI m4 g_7, cM5 cI m5 g_7]) [0, 1, 2, 3, 4, 5] (by decide) rfl
    have hFc := va_free (wc := [cM0 m0 m1 m2 m3 m4 m5 g_7, cM1 cI m1 g_7, cM2 cJ m2 g_7, cM3 cJ m3 g_7, cM4 cI m4 g_7, cM5 cI m5 g_7]) hD hS hA [0, 1, 2, 3, 4, 5] rfl
    refine va_callv (va_runV (As := [.int dd]) (rest := []) ⟨hx, hb, hml, hown, hts⟩ (kX4_come l dC dI cI cJ m0 m1 m2 m3 m4 m5 H.size dd g_7 (n + 4 + 4 + 4) (by rw [eg_7]; exact come_t (by rw [eg_5]; exact come_t (by rw [eg_3]; exact come_t hn))) (by have := feed_n hn hn60 c_1; omega)) (cwV 1 hts gX4_feed_X4_come rfl rfl rfl (by decide +kernel) ⟨Nat.le_of_ble_eq_true rfl, Nat.le_of_ble_eq_true rfl⟩) ⟨fun a U g mk q => by obtain ⟨q0, q1, qP, qK, qD⟩ := q; exact ⟨q0, q1, qP, va_K.moved (u := U) (U := U.calling g mk a) (Vm.Alike.refl U.vm) qK, qD⟩, va_recv hK hPc (ci := 4) (q0 := 0) rfl rfl, fun U hU hW => ⟨rfl, by rw [hU], by rw [hU]; exact hPc, va_K.moved hW.alike hK, hDc.weaken (fun _ _ _ _ => trivial)⟩⟩ rfl rfl hl.1 rfl (lv_room (Nat.le_of_ble_eq_true rfl)) dX4_feed_37 ⟨Nat.le_of_ble_eq_true rfl, Nat.le_of_ble_eq_true rfl⟩) hS (fun q _ h => hFc q h) hFc (fun _ t H1 locs ht hvm hw hB hz1 hk1 hS => ?_)
    obtain ⟨hP1, hK1, hD1⟩ := hB
    rw [ht] at hP1
    obtain ⟨g_9, eg_9⟩ : ∃ z, z = sX4_come dd g_7 := ⟨_, rfl⟩
    rw [← eg_9] at hP1 hD1
    obtain ⟨hP, hD⟩ := va_join (wr := []) (w1 := [cM0 m0 m1 m2 m3 m4 m5 g_9, cM1 cI m1 g_9, cM2 cJ m2 g_9, cM3 cJ m3 g_9, cM4 cI m4 g_9, cM5 cI m5 g_9]) hP hD [0, 1, 2, 3, 4, 5] [] rfl rfl (by decide) (by decide) hk1 hFc hP1 hD1
    generalize H1 = H at hP hS ⊢
    have hP : va_P (dC, dI) vwCl [cM0 m0 m1 m2 m3 m4 m5 g_9, cM1 cI m1 g_9, cM2 cJ m2 g_9, cM3 cJ m3 g_9, cM4 cI m4 g_9, cM5 cI m5 g_9] H := hP
    have hD : va_D A [cM0 m0 m1 m2 m3 m4 m5 g_9, cM1 cI m1 g_9, cM2 cJ m2 g_9, cM3 cJ m3 g_9, cM4 cI m4 g_9, cM5 cI m5 g_9] := hD
    refine lv_aload_n hx hb dX4_feed_40 rfl (lv_at hl 0 rfl) ?_
    refine lv_iload hx hb dX4_feed_41 (lv_at hl 5 rfl) ?_
    have hPc := hP.sub (ws' := [cM0 m0 m1 m2 m3 m4 m5 g_9, cM1 cI m1 g_9, cM2 cJ m2 g_9, cM3 cJ m3 g_9, cM4 cI m4 g_9, cM5 cI m5 g_9]) [0, 1, 2, 3, 4, 5] rfl
    have hDc := hD.sub (ws' := [cM0 m0 m1 m2 m3 m4 m5 g_9, cM1 cI m1 g_9, cM2 cJ m2 g_9, cM3 cJ m3 g_9, cM4 cI m4 g_9, cM5 cI m5 g_9]) [0, 1, 2, 3, 4, 5] (by decide) rfl
    have hFc := va_free (wc := [cM0 m0 m1 m2 m3 m4 m5 g_9, cM1 cI m1 g_9, cM2 cJ m2 g_9, cM3 cJ m3 g_9, cM4 cI m4 g_9, cM5 cI m5 g_9]) hD hS hA [0, 1, 2, 3, 4, 5] rfl
    refine va_callv (va_runV (As := [.int ee]) (rest := []) ⟨hx, hb, hml, hown, hts⟩ (kX4_come l dC dI cI cJ m0 m1 m2 m3 m4 m5 H.size ee g_9 (n + 4 + 4 + 4 + 4) (by rw [eg_9]; exact come_t (by rw [eg_7]; exact come_t (by rw [eg_5]; exact come_t (by rw [eg_3]; exact come_t hn)))) (by have := feed_n hn hn60 c_1; omega)) (cwV 1 hts gX4_feed_X4_come rfl rfl rfl (by decide +kernel) ⟨Nat.le_of_ble_eq_true rfl, Nat.le_of_ble_eq_true rfl⟩) ⟨fun a U g mk q => by obtain ⟨q0, q1, qP, qK, qD⟩ := q; exact ⟨q0, q1, qP, va_K.moved (u := U) (U := U.calling g mk a) (Vm.Alike.refl U.vm) qK, qD⟩, va_recv hK hPc (ci := 4) (q0 := 0) rfl rfl, fun U hU hW => ⟨rfl, by rw [hU], by rw [hU]; exact hPc, va_K.moved hW.alike hK, hDc.weaken (fun _ _ _ _ => trivial)⟩⟩ rfl rfl hl.1 rfl (lv_room (Nat.le_of_ble_eq_true rfl)) dX4_feed_43 ⟨Nat.le_of_ble_eq_true rfl, Nat.le_of_ble_eq_true rfl⟩) hS (fun q _ h => hFc q h) hFc (fun _ t H1 locs ht hvm hw hB hz1 hk1 hS => ?_)
    obtain ⟨hP1, hK1, hD1⟩ := hB
    rw [ht] at hP1
    obtain ⟨g_11, eg_11⟩ : ∃ z, z = sX4_come ee g_9 := ⟨_, rfl⟩
    rw [← eg_11] at hP1 hD1
    obtain ⟨hP, hD⟩ := va_join (wr := []) (w1 := [cM0 m0 m1 m2 m3 m4 m5 g_11, cM1 cI m1 g_11, cM2 cJ m2 g_11, cM3 cJ m3 g_11, cM4 cI m4 g_11, cM5 cI m5 g_11]) hP hD [0, 1, 2, 3, 4, 5] [] rfl rfl (by decide) (by decide) hk1 hFc hP1 hD1
    generalize H1 = H at hP hS ⊢
    have hP : va_P (dC, dI) vwCl [cM0 m0 m1 m2 m3 m4 m5 g_11, cM1 cI m1 g_11, cM2 cJ m2 g_11, cM3 cJ m3 g_11, cM4 cI m4 g_11, cM5 cI m5 g_11] H := hP
    have hD : va_D A [cM0 m0 m1 m2 m3 m4 m5 g_11, cM1 cI m1 g_11, cM2 cJ m2 g_11, cM3 cJ m3 g_11, cM4 cI m4 g_11, cM5 cI m5 g_11] := hD
    refine lv_aload_n hx hb dX4_feed_46 rfl (lv_at hl 0 rfl) ?_
    refine va_get (D := (dC, dI)) (ci := 4) (v := .int g_11.2.2.1) (C := RX4) (T := TX4) (N := 17) hx hb hts hiX4 hown hK hP 0 rfl rfl 2 (by decide) (hts (.fieldLink RX4 52 "TripReckonerModel" "taped" "I") (by decide +kernel)) (fun _ h9 => h9) rfl dX4_feed_47 ?_
    have es0 : sX4_feed a b cc dd ee v = g_11 := by rw [sX4_feed, if_pos c_1, ← eg_3, sX4_feed_g_3, ← eg_5, sX4_feed_g_5, ← eg_7, sX4_feed_g_7, ← eg_9, sX4_feed_g_9, ← eg_11, sX4_feed_g_11]
    have er : g_11.2.2.1 = rX4_feed a b cc dd ee v := by rw [rX4_feed, if_pos c_1, ← eg_3, rX4_feed_g_3, ← eg_5, rX4_feed_g_5, ← eg_7, rX4_feed_g_7, ← eg_9, rX4_feed_g_9, ← eg_11, rX4_feed_g_11]
    refine W.iret (v := g_11.2.2.1) hx hb hr (fun t ht hW => ⟨⟨g_11.2.2.1, (), rfl, er, ?_⟩, hS.F ht⟩) hS.2.2 dX4_feed_50
    rw [es0]; exact ⟨by rw [ht]; exact hP, va_K.moved hW.alike hK, hD⟩
  · refine lv_iconst (v := (-1)) hx hb dX4_feed_17 (by decide) ?_
    have es0 : sX4_feed a b cc dd ee v = (0, v.2.1, v.2.2.1, v.2.2.2.1, v.2.2.2.2.1, v.2.2.2.2.2.1, v.2.2.2.2.2.2.1, v.2.2.2.2.2.2.2.1, v.2.2.2.2.2.2.2.2.1, v.2.2.2.2.2.2.2.2.2.1, v.2.2.2.2.2.2.2.2.2.2.1, v.2.2.2.2.2.2.2.2.2.2.2.1, v.2.2.2.2.2.2.2.2.2.2.2.2.1, v.2.2.2.2.2.2.2.2.2.2.2.2.2.1, v.2.2.2.2.2.2.2.2.2.2.2.2.2.2.1, v.2.2.2.2.2.2.2.2.2.2.2.2.2.2.2.1, v.2.2.2.2.2.2.2.2.2.2.2.2.2.2.2.2) := by rw [sX4_feed, if_neg c_1]
    have er : (-1) = rX4_feed a b cc dd ee v := by rw [rX4_feed, if_neg c_1]
    refine W.iret (v := (-1)) hx hb hr (fun t ht hW => ⟨⟨(-1), (), rfl, er, ?_⟩, hS.F ht⟩) hS.2.2 dX4_feed_18
    rw [es0]; exact ⟨by rw [ht]; exact hP, va_K.moved hW.alike hK, hD⟩

def sX4_end (n : Int32) (v : MS) : MS :=
  if n < 0 then
    (0, v.2.1, v.2.2.1, v.2.2.2.1, v.2.2.2.2.1, v.2.2.2.2.2.1, v.2.2.2.2.2.2.1, v.2.2.2.2.2.2.2.1, v.2.2.2.2.2.2.2.2.1, v.2.2.2.2.2.2.2.2.2.1, v.2.2.2.2.2.2.2.2.2.2.1, v.2.2.2.2.2.2.2.2.2.2.2.1, v.2.2.2.2.2.2.2.2.2.2.2.2.1, v.2.2.2.2.2.2.2.2.2.2.2.2.2.1, v.2.2.2.2.2.2.2.2.2.2.2.2.2.2.1, v.2.2.2.2.2.2.2.2.2.2.2.2.2.2.2.1, v.2.2.2.2.2.2.2.2.2.2.2.2.2.2.2.2)
  else
    if n ≤ v.2.2.1 then
      (0, v.2.1, n, v.2.2.2.1, v.2.2.2.2.1, v.2.2.2.2.2.1, v.2.2.2.2.2.2.1, v.2.2.2.2.2.2.2.1, v.2.2.2.2.2.2.2.2.1, v.2.2.2.2.2.2.2.2.2.1, v.2.2.2.2.2.2.2.2.2.2.1, v.2.2.2.2.2.2.2.2.2.2.2.1, v.2.2.2.2.2.2.2.2.2.2.2.2.1, v.2.2.2.2.2.2.2.2.2.2.2.2.2.1, v.2.2.2.2.2.2.2.2.2.2.2.2.2.2.1, v.2.2.2.2.2.2.2.2.2.2.2.2.2.2.2.1, v.2.2.2.2.2.2.2.2.2.2.2.2.2.2.2.2)
    else
      (0, v.2.1, v.2.2.1, v.2.2.2.1, v.2.2.2.2.1, v.2.2.2.2.2.1, v.2.2.2.2.2.2.1, v.2.2.2.2.2.2.2.1, v.2.2.2.2.2.2.2.2.1, v.2.2.2.2.2.2.2.2.2.1, v.2.2.2.2.2.2.2.2.2.2.1, v.2.2.2.2.2.2.2.2.2.2.2.1, v.2.2.2.2.2.2.2.2.2.2.2.2.1, v.2.2.2.2.2.2.2.2.2.2.2.2.2.1, v.2.2.2.2.2.2.2.2.2.2.2.2.2.2.1, v.2.2.2.2.2.2.2.2.2.2.2.2.2.2.2.1, v.2.2.2.2.2.2.2.2.2.2.2.2.2.2.2.2)
def rX4_end (n : Int32) (v : MS) : Int32 :=
  if n < 0 then
    0
  else
    if n ≤ v.2.2.1 then
      1
    else
      0
set_option maxHeartbeats 4000000 in
set_option maxRecDepth 100000 in
theorem kX4_end (l : Launch) (dC : Nat → ClassId) (dI : Nat → Nat → Nat) (cI cJ : ClassId) (m0 m1 m2 m3 m4 m5 : Nat) (sz : Nat) (n : Int32) (v : MS) : Met l yX4_end wsX4_end ({ frames := 0, cells := 0, slots := 0, locals := 0 }) (va_Pc [.ref m0, .int n] (fun U => U.heap.size = sz ∧ va_P (dC, dI) vwCl [cM0 m0 m1 m2 m3 m4 m5 v, cM1 cI m1 v, cM2 cJ m2 v, cM3 cJ m3 v, cM4 cI m4 v, cM5 cI m5 v] U.heap ∧ va_K (dC, dI) vwCl [(cI, .int), (cJ, .long)] U ∧ va_D (fun _ => True) [cM0 m0 m1 m2 m3 m4 m5 v, cM1 cI m1 v, cM2 cJ m2 v, cM3 cJ m3 v, cM4 cI m4 v, cM5 cI m5 v])) (va_Qi (fun (r : Int32) (_ : Unit) => r = rX4_end n v) (fun _ t => va_P (dC, dI) vwCl [cM0 m0 m1 m2 m3 m4 m5 (sX4_end n v), cM1 cI m1 (sX4_end n v), cM2 cJ m2 (sX4_end n v), cM3 cJ m3 (sX4_end n v), cM4 cI m4 (sX4_end n v), cM5 cI m5 (sX4_end n v)] t.heap ∧ va_K (dC, dI) vwCl [(cI, .int), (cJ, .long)] t ∧ va_D (va_A [cM0 m0 m1 m2 m3 m4 m5 v, cM1 cI m1 v, cM2 cJ m2 v, cM3 cJ m3 v, cM4 cI m4 v, cM5 cI m5 v] sz) [cM0 m0 m1 m2 m3 m4 m5 (sX4_end n v), cM1 cI m1 (sX4_end n v), cM2 cJ m2 (sX4_end n v), cM3 cJ m3 (sX4_end n v), cM4 cI m4 (sX4_end n v), cM5 cI m5 (sX4_end n v)]) (va_A [cM0 m0 m1 m2 m3 m4 m5 v, cM1 cI m1 v, cM2 cJ m2 v, cM3 cJ m3 v, cM4 cI m4 v, cM5 cI m5 v] sz)) 0 0 (va_A [cM0 m0 m1 m2 m3 m4 m5 v, cM1 cI m1 v, cM2 cJ m2 v, cM3 cJ m3 v, cM4 cI m4 v, cM5 cI m5 v] sz) := by
  refine Met.ofW (cc := cX4_end) (maxL := 2) (ret := (some .boolean)) (by decide) rfl ?_
  intro p e s m args below meth c s₁ B hml hv
  obtain ⟨rfl, hsz, hP, hK, hD0⟩ := hv
  have hx := B.exec
  have hb := B.bytes
  have hr := B.returns
  have hts := atoms_spec (ws := wsX4_end) B.pre
  have hown : s.vm.findClass RX4 = some m.cls := findClass_of_methodNamed B.named
  have hlocks := B.notSynchronized
  have hiX4 : ∀ w ∈ u_ws RX4 TX4 17, w ∈ wsX4_end := by decide +kernel
  subst hsz
  have hD := hD0.self (sz := s.heap.size)
  generalize hAe : va_A [cM0 m0 m1 m2 m3 m4 m5 v, cM1 cI m1 v, cM2 cJ m2 v, cM3 cJ m3 v, cM4 cI m4 v, cM5 cI m5 v] s.heap.size = A at hD ⊢
  have hA : ∀ q : Nat, s.heap.size ≤ q → A q := fun q h => by rw [← hAe]; exact Or.inr h
  have hS : va_S A s.heap s.heap [] := va_S.rf
  have hl := lv_entry ([.ref m0, .int n]) (n := 2) (Nat.le_of_ble_eq_true rfl)
  rw [lg_entry_eq]
  generalize (lg_sl ([.ref m0, .int n]) ++ List.replicate (2 - (lg_sl ([.ref m0, .int n])).length) Slot.unset).toArray = ls at hl ⊢
  have hl : lv_has ls 2 [(0, .ref m0), (1, .int n)] := hl
  have hP : va_P (dC, dI) vwCl [cM0 m0 m1 m2 m3 m4 m5 v, cM1 cI m1 v, cM2 cJ m2 v, cM3 cJ m3 v, cM4 cI m4 v, cM5 cI m5 v] s.heap := hP
  refine lv_aload_n hx hb dX4_end_0 rfl (lv_at hl 0 rfl) ?_
  refine lv_iconst (v := 0) hx hb dX4_end_1 (by decide) ?_
  refine va_put (D := (dC, dI)) (ci := 4) (v := .int 0) (ty := .int) (C := RX4) (T := TX4) (N := 17) hx hb hts hiX4 tyX4 tyX4_ok nmX4 hown hK hP hD hS 0 rfl rfl 0 (by decide) (hts (.fieldLink RX4 49 "TripReckonerModel" "thrown" "I") (by decide +kernel)) (fun _ h9 => h9) rfl (by decide +kernel) rfl rfl (Nat.le_of_ble_eq_true rfl) dX4_end_2 (fun H locs hP hD hS => ?_)
  have hP : va_P (dC, dI) vwCl [(m0, .inr (4, [.int 0, .ref m1, .int v.2.2.1, .ref m2, .ref m3, .int v.2.2.2.2.2.1, .int v.2.2.2.2.2.2.1, .int v.2.2.2.2.2.2.2.1, .int v.2.2.2.2.2.2.2.2.1, .int v.2.2.2.2.2.2.2.2.2.1, .int v.2.2.2.2.2.2.2.2.2.2.1, .int v.2.2.2.2.2.2.2.2.2.2.2.1, .long v.2.2.2.2.2.2.2.2.2.2.2.2.1, .int v.2.2.2.2.2.2.2.2.2.2.2.2.2.1, .ref m4, .ref m5, .int v.2.2.2.2.2.2.2.2.2.2.2.2.2.2.2.2])), (m1, .inl (cI, 60, .inl v.2.1)), (m2, .inl (cJ, 92, .inr (.inl v.2.2.2.1))), (m3, .inl (cJ, 92, .inr (.inl v.2.2.2.2.1))), (m4, .inl (cI, 1573, .inl v.2.2.2.2.2.2.2.2.2.2.2.2.2.2.1)), (m5, .inl (cI, 12, .inl v.2.2.2.2.2.2.2.2.2.2.2.2.2.2.2.1))] H := hP
  have hD : va_D A [(m0, .inr (4, [.int 0, .ref m1, .int v.2.2.1, .ref m2, .ref m3, .int v.2.2.2.2.2.1, .int v.2.2.2.2.2.2.1, .int v.2.2.2.2.2.2.2.1, .int v.2.2.2.2.2.2.2.2.1, .int v.2.2.2.2.2.2.2.2.2.1, .int v.2.2.2.2.2.2.2.2.2.2.1, .int v.2.2.2.2.2.2.2.2.2.2.2.1, .long v.2.2.2.2.2.2.2.2.2.2.2.2.1, .int v.2.2.2.2.2.2.2.2.2.2.2.2.2.1, .ref m4, .ref m5, .int v.2.2.2.2.2.2.2.2.2.2.2.2.2.2.2.2])), (m1, .inl (cI, 60, .inl v.2.1)), (m2, .inl (cJ, 92, .inr (.inl v.2.2.2.1))), (m3, .inl (cJ, 92, .inr (.inl v.2.2.2.2.1))), (m4, .inl (cI, 1573, .inl v.2.2.2.2.2.2.2.2.2.2.2.2.2.2.1)), (m5, .inl (cI, 12, .inl v.2.2.2.2.2.2.2.2.2.2.2.2.2.2.2.1))] := hD
  refine lv_iload_n hx hb dX4_end_5 rfl (lv_at hl 1 rfl) ?_
  refine lv_if_lt (tgt := 17) hx hb dX4_end_6 (by decide) (fun c_1 => ?_) (fun c_1 => ?_)
  · refine lv_iconst (v := 0) hx hb dX4_end_17 (by decide) ?_
    have es0 : sX4_end n v = (0, v.2.1, v.2.2.1, v.2.2.2.1, v.2.2.2.2.1, v.2.2.2.2.2.1, v.2.2.2.2.2.2.1, v.2.2.2.2.2.2.2.1, v.2.2.2.2.2.2.2.2.1, v.2.2.2.2.2.2.2.2.2.1, v.2.2.2.2.2.2.2.2.2.2.1, v.2.2.2.2.2.2.2.2.2.2.2.1, v.2.2.2.2.2.2.2.2.2.2.2.2.1, v.2.2.2.2.2.2.2.2.2.2.2.2.2.1, v.2.2.2.2.2.2.2.2.2.2.2.2.2.2.1, v.2.2.2.2.2.2.2.2.2.2.2.2.2.2.2.1, v.2.2.2.2.2.2.2.2.2.2.2.2.2.2.2.2) := by rw [sX4_end, if_pos c_1]
    have er : 0 = rX4_end n v := by rw [rX4_end, if_pos c_1]
    refine W.zret (ty := .boolean) (v := 0) hx hb hr rfl (fun t ht hW => ⟨⟨0, (), rfl, er, ?_⟩, hS.F ht⟩) hS.2.2 dX4_end_18
    rw [es0]; exact ⟨by rw [ht]; exact hP, va_K.moved hW.alike hK, hD⟩
  · refine lv_iload_n hx hb dX4_end_9 rfl (lv_at hl 1 rfl) ?_
    refine lv_aload_n hx hb dX4_end_10 rfl (lv_at hl 0 rfl) ?_
    refine va_get (D := (dC, dI)) (ci := 4) (v := .int v.2.2.1) (C := RX4) (T := TX4) (N := 17) hx hb hts hiX4 hown hK hP 0 rfl rfl 2 (by decide) (hts (.fieldLink RX4 52 "TripReckonerModel" "taped" "I") (by decide +kernel)) (fun _ h9 => h9) rfl dX4_end_11 ?_
    refine lv_icmp_le (tgt := 19) hx hb dX4_end_14 (by decide) (fun c_2 => ?_) (fun c_2 => ?_)
    · refine lv_aload_n hx hb dX4_end_19 rfl (lv_at hl 0 rfl) ?_
      refine lv_iload_n hx hb dX4_end_20 rfl (lv_at hl 1 rfl) ?_
      refine va_put (D := (dC, dI)) (ci := 4) (v := .int n) (ty := .int) (C := RX4) (T := TX4) (N := 17) hx hb hts hiX4 tyX4 tyX4_ok nmX4 hown hK hP hD hS 0 rfl rfl 2 (by decide) (hts (.fieldLink RX4 52 "TripReckonerModel" "taped" "I") (by decide +kernel)) (fun _ h9 => h9) rfl (by decide +kernel) rfl rfl (Nat.le_of_ble_eq_true rfl) dX4_end_21 (fun H locs hP hD hS => ?_)
      have hP : va_P (dC, dI) vwCl [(m0, .inr (4, [.int 0, .ref m1, .int n, .ref m2, .ref m3, .int v.2.2.2.2.2.1, .int v.2.2.2.2.2.2.1, .int v.2.2.2.2.2.2.2.1, .int v.2.2.2.2.2.2.2.2.1, .int v.2.2.2.2.2.2.2.2.2.1, .int v.2.2.2.2.2.2.2.2.2.2.1, .int v.2.2.2.2.2.2.2.2.2.2.2.1, .long v.2.2.2.2.2.2.2.2.2.2.2.2.1, .int v.2.2.2.2.2.2.2.2.2.2.2.2.2.1, .ref m4, .ref m5, .int v.2.2.2.2.2.2.2.2.2.2.2.2.2.2.2.2])), (m1, .inl (cI, 60, .inl v.2.1)), (m2, .inl (cJ, 92, .inr (.inl v.2.2.2.1))), (m3, .inl (cJ, 92, .inr (.inl v.2.2.2.2.1))), (m4, .inl (cI, 1573, .inl v.2.2.2.2.2.2.2.2.2.2.2.2.2.2.1)), (m5, .inl (cI, 12, .inl v.2.2.2.2.2.2.2.2.2.2.2.2.2.2.2.1))] H := hP
      have hD : va_D A [(m0, .inr (4, [.int 0, .ref m1, .int n, .ref m2, .ref m3, .int v.2.2.2.2.2.1, .int v.2.2.2.2.2.2.1, .int v.2.2.2.2.2.2.2.1, .int v.2.2.2.2.2.2.2.2.1, .int v.2.2.2.2.2.2.2.2.2.1, .int v.2.2.2.2.2.2.2.2.2.2.1, .int v.2.2.2.2.2.2.2.2.2.2.2.1, .long v.2.2.2.2.2.2.2.2.2.2.2.2.1, .int v.2.2.2.2.2.2.2.2.2.2.2.2.2.1, .ref m4, .ref m5, .int v.2.2.2.2.2.2.2.2.2.2.2.2.2.2.2.2])), (m1, .inl (cI, 60, .inl v.2.1)), (m2, .inl (cJ, 92, .inr (.inl v.2.2.2.1))), (m3, .inl (cJ, 92, .inr (.inl v.2.2.2.2.1))), (m4, .inl (cI, 1573, .inl v.2.2.2.2.2.2.2.2.2.2.2.2.2.2.1)), (m5, .inl (cI, 12, .inl v.2.2.2.2.2.2.2.2.2.2.2.2.2.2.2.1))] := hD
      refine lv_iconst (v := 1) hx hb dX4_end_24 (by decide) ?_
      have es0 : sX4_end n v = (0, v.2.1, n, v.2.2.2.1, v.2.2.2.2.1, v.2.2.2.2.2.1, v.2.2.2.2.2.2.1, v.2.2.2.2.2.2.2.1, v.2.2.2.2.2.2.2.2.1, v.2.2.2.2.2.2.2.2.2.1, v.2.2.2.2.2.2.2.2.2.2.1, v.2.2.2.2.2.2.2.2.2.2.2.1, v.2.2.2.2.2.2.2.2.2.2.2.2.1, v.2.2.2.2.2.2.2.2.2.2.2.2.2.1, v.2.2.2.2.2.2.2.2.2.2.2.2.2.2.1, v.2.2.2.2.2.2.2.2.2.2.2.2.2.2.2.1, v.2.2.2.2.2.2.2.2.2.2.2.2.2.2.2.2) := by rw [sX4_end, if_neg c_1, if_pos c_2]
      have er : 1 = rX4_end n v := by rw [rX4_end, if_neg c_1, if_pos c_2]
      refine W.zret (ty := .boolean) (v := 1) hx hb hr rfl (fun t ht hW => ⟨⟨1, (), rfl, er, ?_⟩, hS.F ht⟩) hS.2.2 dX4_end_25
      rw [es0]; exact ⟨by rw [ht]; exact hP, va_K.moved hW.alike hK, hD⟩
    · refine lv_iconst (v := 0) hx hb dX4_end_17 (by decide) ?_
      have es0 : sX4_end n v = (0, v.2.1, v.2.2.1, v.2.2.2.1, v.2.2.2.2.1, v.2.2.2.2.2.1, v.2.2.2.2.2.2.1, v.2.2.2.2.2.2.2.1, v.2.2.2.2.2.2.2.2.1, v.2.2.2.2.2.2.2.2.2.1, v.2.2.2.2.2.2.2.2.2.2.1, v.2.2.2.2.2.2.2.2.2.2.2.1, v.2.2.2.2.2.2.2.2.2.2.2.2.1, v.2.2.2.2.2.2.2.2.2.2.2.2.2.1, v.2.2.2.2.2.2.2.2.2.2.2.2.2.2.1, v.2.2.2.2.2.2.2.2.2.2.2.2.2.2.2.1, v.2.2.2.2.2.2.2.2.2.2.2.2.2.2.2.2) := by rw [sX4_end, if_neg c_1, if_neg c_2]
      have er : 0 = rX4_end n v := by rw [rX4_end, if_neg c_1, if_neg c_2]
      refine W.zret (ty := .boolean) (v := 0) hx hb hr rfl (fun t ht hW => ⟨⟨0, (), rfl, er, ?_⟩, hS.F ht⟩) hS.2.2 dX4_end_18
      rw [es0]; exact ⟨by rw [ht]; exact hP, va_K.moved hW.alike hK, hD⟩
