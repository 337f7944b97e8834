def rb_run (r : Nat) : Nat → PL → PL
  | 0, z => z
  | n + 1, z => rb_run r n (sX1_reckonStation n r z)
theorem rb_run_s (r n : Nat) (z : PL) : rb_run r (n + 1) z = rb_run r n (sX1_reckonStation n r z) := rfl

set_option maxHeartbeats 4000000 in
set_option maxRecDepth 100000 in
theorem f_back {p : Program} {l : Launch} {e : Env} {s : State} {m : MethodId} {args : Array Value} {below : List Frame} {meth : Method} {c : Code} {Q : State → Prop} {H0 : Heap} {A : Nat → Prop} {dC : Nat → ClassId} {dI : Nat → Nat → Nat} {cI cJ : ClassId} (hx : p.tables.exec = Jvm.exec) (hb : c.code = cX1_reckonBackwards) (hml : c.maxLocals = 3) (hown : s.vm.findClass RX1 = some m.cls) (hts : ∀ w ∈ wsX1_reckonBackwards, w.before args s = true) (hA : ∀ q : Nat, H0.size ≤ q → A q) (hK : va_K (dC, dI) vwCl [(cI, .int), (cJ, .long)] s) {p0 p1 p2 p3 p4 p5 : Nat} {r S : Nat} (hr : r ≤ 120) (hS12 : S ≤ 12) : ∀ (n : Nat) (zz : PL), (n ≤ S) → (∀ j, j ≤ S → 0 ≤ zz.1 j) → (∀ (H : Heap) (locs : List Loc) (ls : Array Slot), va_P (dC, dI) vwCl [cP0 p0 p1 p2 p3 p4 p5 (rb_run r n zz), cP1 cI p1 (rb_run r n zz), cP2 cI p2 (rb_run r n zz), cP3 cI p3 (rb_run r n zz), cP4 cI p4 (rb_run r n zz), cP5 cI p5 (rb_run r n zz)] H → va_D A [cP0 p0 p1 p2 p3 p4 p5 (rb_run r n zz), cP1 cI p1 (rb_run r n zz), cP2 cI p2 (rb_run r n zz), cP3 cI p3 (rb_run r n zz), cP4 cI p4 (rb_run r n zz), cP5 cI p5 (rb_run r n zz)] → va_S A H0 H locs → lv_has ls 3 [(0, .ref p0)] → W p l e ({ frames := 1, cells := 0, slots := 0, locals := 29 } : Room) s m args below meth c H locs 0 0 Q (F0 m 43 ls [])) → ∀ (H : Heap) (locs : List Loc) (ls : Array Slot), va_P (dC, dI) vwCl [cP0 p0 p1 p2 p3 p4 p5 zz, cP1 cI p1 zz, cP2 cI p2 zz, cP3 cI p3 zz, cP4 cI p4 zz, cP5 cI p5 zz] H → va_D A [cP0 p0 p1 p2 p3 p4 p5 zz, cP1 cI p1 zz, cP2 cI p2 zz, cP3 cI p3 zz, cP4 cI p4 zz, cP5 cI p5 zz] → va_S A H0 H locs → lv_has ls 3 [(0, .ref p0), (1, .int (nI r)), (2, .int (nM n))] → W p l e ({ frames := 1, cells := 0, slots := 0, locals := 29 } : Room) s m args below meth c H locs 0 0 Q (F0 m 27 ls []) := by
  intro n
  induction n with
  | zero =>
    intro zz hn hz kk H locs ls hP hD hS hl
    rw [nM_0] at hl
    refine lv_iload_n hx hb dX1_reckonBackwards_27 rfl (lv_at hl 2 rfl) ?_
    refine lv_if_lt (tgt := 43) hx hb dX1_reckonBackwards_28 (by decide) (fun c_1 => ?_) (fun c_1 => absurd (by decide) c_1)
    exact kk _ _ _ hP hD hS (lv_sub hl [0] rfl)
  | succ n ih =>
    intro zz hn hz kk H locs ls hP hD hS hl
    rw [nM_s] at hl
    refine lv_iload_n hx hb dX1_reckonBackwards_27 rfl (lv_at hl 2 rfl) ?_
    refine lv_if_lt (tgt := 43) hx hb dX1_reckonBackwards_28 (by decide) (fun c_1 => absurd c_1 (nI_pos (n := n) (by omega))) (fun c_1 => ?_)
    refine lv_aload_n hx hb dX1_reckonBackwards_31 rfl (lv_at hl 0 rfl) ?_
    refine lv_iload_n hx hb dX1_reckonBackwards_32 rfl (lv_at hl 2 rfl) ?_
    refine lv_iload_n hx hb dX1_reckonBackwards_33 rfl (lv_at hl 1 rfl) ?_
    have hPc := hP.sub (ws' := [cP0 p0 p1 p2 p3 p4 p5 zz, cP1 cI p1 zz, cP2 cI p2 zz, cP3 cI p3 zz, cP4 cI p4 zz, cP5 cI p5 zz]) [0, 1, 2, 3, 4, 5] rfl
    have hDc := hD.sub (ws' := [cP0 p0 p1 p2 p3 p4 p5 zz, cP1 cI p1 zz, cP2 cI p2 zz, cP3 cI p3 zz, cP4 cI p4 zz, cP5 cI p5 zz]) [0, 1, 2, 3, 4, 5] (by decide) rfl
    have hFc := va_free (wc := [cP0 p0 p1 p2 p3 p4 p5 zz, cP1 cI p1 zz, cP2 cI p2 zz, cP3 cI p3 zz, cP4 cI p4 zz, cP5 cI p5 zz]) hD hS hA [0, 1, 2, 3, 4, 5] rfl
    refine va_callv (va_runV (As := [.int (nI n), .int (nI r)]) (rest := []) ⟨hx, hb, hml, hown, hts⟩ (kX1_reckonStation l dC dI cI cJ p0 p1 p2 p3 p4 p5 H.size n r zz (by omega) hr (hz (n + 1) (by omega))) (cwV 2 hts gX1_reckonBackwards_X1_reckonStation rfl rfl rfl (by decide +kernel) ⟨Nat.le_of_ble_eq_true rfl, Nat.le_of_ble_eq_true rfl⟩) ⟨fun a U g mk q => by obtain ⟨q0, q1, qP, qK, qD⟩ := q; exact ⟨q0, q1, qP, va_K.moved (u := U) (U := U.calling g mk a) (Vm.Alike.refl U.vm) qK, qD⟩, va_recv hK hPc (ci := 1) (q0 := 0) rfl rfl, fun U hU hW => ⟨rfl, by rw [hU], by rw [hU]; exact hPc, va_K.moved hW.alike hK, hDc.weaken (fun _ _ _ _ => trivial)⟩⟩ rfl rfl hl.1 rfl (lv_room (Nat.le_of_ble_eq_true rfl)) dX1_reckonBackwards_34 ⟨Nat.le_of_ble_eq_true rfl, Nat.le_of_ble_eq_true rfl⟩) hS (fun q _ h => hFc q h) hFc (fun _ t H1 locs ht hvm hw hB hz1 hk1 hS => ?_)
    obtain ⟨hP1, hK1, hD1⟩ := hB
    rw [ht] at hP1
    obtain ⟨g_3, eg_3⟩ : ∃ z, z = sX1_reckonStation n r zz := ⟨_, rfl⟩
    rw [← eg_3] at hP1 hD1
    obtain ⟨hP, hD⟩ := va_join (wr := []) (w1 := [cP0 p0 p1 p2 p3 p4 p5 g_3, cP1 cI p1 g_3, cP2 cI p2 g_3, cP3 cI p3 g_3, cP4 cI p4 g_3, cP5 cI p5 g_3]) hP hD [0, 1, 2, 3, 4, 5] [] rfl rfl (by decide) (by decide) hk1 hFc hP1 hD1
    generalize H1 = H at hP hS ⊢
    have hP : va_P (dC, dI) vwCl [cP0 p0 p1 p2 p3 p4 p5 g_3, cP1 cI p1 g_3, cP2 cI p2 g_3, cP3 cI p3 g_3, cP4 cI p4 g_3, cP5 cI p5 g_3] H := hP
    have hD : va_D A [cP0 p0 p1 p2 p3 p4 p5 g_3, cP1 cI p1 g_3, cP2 cI p2 g_3, cP3 cI p3 g_3, cP4 cI p4 g_3, cP5 cI p5 g_3] := hD
    refine lv_iinc (v := nM n) (lv' := [(2, .int (nM n)), (0, .ref p0), (1, .int (nI r))]) hx hb dX1_reckonBackwards_37 hl (k := 2) rfl (nM_1 n) (by decide) rfl (fun ls hl => ?_)
    refine lv_goto (tgt := 27) hx hb dX1_reckonBackwards_40 (by decide) ?_
    subst eg_3
    exact ih (sX1_reckonStation n r zz) (by omega) (fun j hj => hz j hj) (by have k9 := kk; rw [rb_run_s] at k9; exact k9) _ _ _ hP hD hS (lv_sub hl [1, 2, 0] rfl)

def wtg (pl : PL) (f : Nat → Int32) : PL := (pl.1, pl.2.1, f, pl.2.2.2.1, pl.2.2.2.2.1, pl.2.2.2.2.2.1, pl.2.2.2.2.2.2)
def bk_Z (r : Nat) (pl : PL) : PL := rb_run r pl.2.2.2.2.2.1.toNatClampNeg (wtg pl (fa_fill (fun _ => 0) pl.2.2.1 (r + 1)))

def sX1_reckonBackwards (r : Nat) (pl : PL) : PL :=
  (bk_Z r pl)
set_option maxHeartbeats 4000000 in
set_option maxRecDepth 100000 in
theorem kX1_reckonBackwards (l : Launch) (dC : Nat → ClassId) (dI : Nat → Nat → Nat) (cI cJ : ClassId) (p0 p1 p2 p3 p4 p5 : Nat) (sz : Nat) (r : Nat) (pl : PL) (hr9 : r ≤ 120) (hs0 : 0 ≤ pl.2.2.2.2.2.1) (hs12 : pl.2.2.2.2.2.1.toNatClampNeg ≤ 12) (hz : ∀ j, j ≤ pl.2.2.2.2.2.1.toNatClampNeg → 0 ≤ pl.1 j) : Met l yX1_reckonBackwards wsX1_reckonBackwards ({ frames := 1, cells := 0, slots := 0, locals := 29 }) (va_Pc [.ref p0, .int (nI r)] (fun U => U.heap.size = sz ∧ va_P (dC, dI) vwCl [cP0 p0 p1 p2 p3 p4 p5 pl, cP1 cI p1 pl, cP2 cI p2 pl, cP3 cI p3 pl, cP4 cI p4 pl, cP5 cI p5 pl] U.heap ∧ va_K (dC, dI) vwCl [(cI, .int), (cJ, .long)] U ∧ va_D (fun _ => True) [cP0 p0 p1 p2 p3 p4 p5 pl, cP1 cI p1 pl, cP2 cI p2 pl, cP3 cI p3 pl, cP4 cI p4 pl, cP5 cI p5 pl])) (va_Qv (fun _ : Unit => True) (fun _ t => va_P (dC, dI) vwCl [cP0 p0 p1 p2 p3 p4 p5 (sX1_reckonBackwards r pl), cP1 cI p1 (sX1_reckonBackwards r pl), cP2 cI p2 (sX1_reckonBackwards r pl), cP3 cI p3 (sX1_reckonBackwards r pl), cP4 cI p4 (sX1_reckonBackwards r pl), cP5 cI p5 (sX1_reckonBackwards r pl)] t.heap ∧ va_K (dC, dI) vwCl [(cI, .int), (cJ, .long)] t ∧ va_D (va_A [cP0 p0 p1 p2 p3 p4 p5 pl, cP1 cI p1 pl, cP2 cI p2 pl, cP3 cI p3 pl, cP4 cI p4 pl, cP5 cI p5 pl] sz) [cP0 p0 p1 p2 p3 p4 p5 (sX1_reckonBackwards r pl), cP1 cI p1 (sX1_reckonBackwards r pl), cP2 cI p2 (sX1_reckonBackwards r pl), cP3 cI p3 (sX1_reckonBackwards r pl), cP4 cI p4 (sX1_reckonBackwards r pl), cP5 cI p5 (sX1_reckonBackwards r pl)]) (va_A [cP0 p0 p1 p2 p3 p4 p5 pl, cP1 cI p1 pl, cP2 cI p2 pl, cP3 cI p3 pl, cP4 cI p4 pl, cP5 cI p5 pl] sz)) 0 0 (va_A [cP0 p0 p1 p2 p3 p4 p5 pl, cP1 cI p1 pl, cP2 cI p2 pl, cP3 cI p3 pl, cP4 cI p4 pl, cP5 cI p5 pl] sz) := by
  refine Met.ofW (cc := cX1_reckonBackwards) (maxL := 3) (ret := none) (by decide) rfl ?_
  intro p e s m args below meth c s₁ B hml hv
  obtain ⟨rfl, hsz, hP, hK, hD0⟩ := hv
  have hx := B.exec
  have hb := B.bytes
  have hr := B.returns
  have hts := atoms_spec (ws := wsX1_reckonBackwards) B.pre
  have hown : s.vm.findClass RX1 = some m.cls := findClass_of_methodNamed B.named
  have hlocks := B.notSynchronized
  have hiX1 : ∀ w ∈ u_ws RX1 TX1 7, w ∈ wsX1_reckonBackwards := by decide +kernel
  subst hsz
  have hD := hD0.self (sz := s.heap.size)
  generalize hAe : va_A [cP0 p0 p1 p2 p3 p4 p5 pl, cP1 cI p1 pl, cP2 cI p2 pl, cP3 cI p3 pl, cP4 cI p4 pl, cP5 cI p5 pl] s.heap.size = A at hD ⊢
  have hA : ∀ q : Nat, s.heap.size ≤ q → A q := fun q h => by rw [← hAe]; exact Or.inr h
  have hS : va_S A s.heap s.heap [] := va_S.rf
  have hl := lv_entry ([.ref p0, .int (nI r)]) (n := 3) (Nat.le_of_ble_eq_true rfl)
  rw [lg_entry_eq]
  generalize (lg_sl ([.ref p0, .int (nI r)]) ++ List.replicate (3 - (lg_sl ([.ref p0, .int (nI r)])).length) Slot.unset).toArray = ls at hl ⊢
  have hl : lv_has ls 3 [(0, .ref p0), (1, .int (nI r))] := hl
  have hP : va_P (dC, dI) vwCl [cP0 p0 p1 p2 p3 p4 p5 pl, cP1 cI p1 pl, cP2 cI p2 pl, cP3 cI p3 pl, cP4 cI p4 pl, cP5 cI p5 pl] s.heap := hP
  refine lv_iconst (v := 0) hx hb dX1_reckonBackwards_0 (by decide) ?_
  refine lv_istore_n (lv' := [(2, .int 0), (0, .ref p0), (1, .int (nI r))]) hx hb dX1_reckonBackwards_1 rfl hl (by decide) rfl (fun ls hl => ?_)
  have hP : va_P (dC, dI) vwCl [(p0, .inr (1, [.ref p1, .ref p2, .ref p3, .ref p4, .ref p5, .int pl.2.2.2.2.2.1, .int pl.2.2.2.2.2.2])), (p1, .inl (cI, 13, .inl pl.1)), (p2, .inl (cI, 12, .inl pl.2.1)), (p3, .inl (cI, 121, .inl (fa_fill (fun _ => 0) pl.2.2.1 0))), (p4, .inl (cI, 1452, .inl pl.2.2.2.1)), (p5, .inl (cI, 12, .inl pl.2.2.2.2.1))] s.heap := hP
  have hD : va_D A [(p0, .inr (1, [.ref p1, .ref p2, .ref p3, .ref p4, .ref p5, .int pl.2.2.2.2.2.1, .int pl.2.2.2.2.2.2])), (p1, .inl (cI, 13, .inl pl.1)), (p2, .inl (cI, 12, .inl pl.2.1)), (p3, .inl (cI, 121, .inl (fa_fill (fun _ => 0) pl.2.2.1 0))), (p4, .inl (cI, 1452, .inl pl.2.2.2.1)), (p5, .inl (cI, 12, .inl pl.2.2.2.2.1))] := hD
  refine f_zero hx hb hml hown hts hA hK hr9 (fun H locs ls hP hD hS hl => ?_) (r + 1) 0 _ _ _ (by omega) hP hD hS (lv_sub hl [1, 2, 0] rfl)
  refine lv_aload_n hx hb dX1_reckonBackwards_20 rfl (lv_at hl 0 rfl) ?_
  refine va_get (D := (dC, dI)) (ci := 1) (v := .int pl.2.2.2.2.2.1) (C := RX1) (T := TX1) (N := 7) hx hb hts hiX1 hown hK hP 0 rfl rfl 5 (by decide) (hts (.fieldLink RX1 27 "TripReckoner$Planner" "stations" "I") (by decide +kernel)) (fun _ h9 => h9) rfl dX1_reckonBackwards_21 ?_
  refine lv_iconst (v := 1) hx hb dX1_reckonBackwards_24 (by decide) ?_
  refine lv_isub hx hb dX1_reckonBackwards_25 ?_
  refine lv_istore_n (lv' := [(2, .int (pl.2.2.2.2.2.1 - 1)), (0, .ref p0), (1, .int (nI r))]) hx hb dX1_reckonBackwards_26 rfl hl (by decide) rfl (fun ls hl => ?_)
  have hl : lv_has ls 3 [(0, .ref p0), (1, .int (nI r)), (2, .int (pl.2.2.2.2.2.1 - 1))] := lv_sub hl [1, 2, 0] rfl
  rw [i_cl hs0] at hl
  refine f_back hx hb hml hown hts hA hK hr9 hs12 pl.2.2.2.2.2.1.toNatClampNeg (wtg pl (fa_fill (fun _ => 0) pl.2.2.1 (r + 1))) (Nat.le_refl _) hz (fun H locs ls hP hD hS hl => ?_) _ _ _ hP hD hS hl
  have hP : va_P (dC, dI) vwCl [cP0 p0 p1 p2 p3 p4 p5 (bk_Z r pl), cP1 cI p1 (bk_Z r pl), cP2 cI p2 (bk_Z r pl), cP3 cI p3 (bk_Z r pl), cP4 cI p4 (bk_Z r pl), cP5 cI p5 (bk_Z r pl)] H := hP
  have hD : va_D A [cP0 p0 p1 p2 p3 p4 p5 (bk_Z r pl), cP1 cI p1 (bk_Z r pl), cP2 cI p2 (bk_Z r pl), cP3 cI p3 (bk_Z r pl), cP4 cI p4 (bk_Z r pl), cP5 cI p5 (bk_Z r pl)] := hD
  have es0 : sX1_reckonBackwards r pl = (bk_Z r pl) := by rw [sX1_reckonBackwards]
  refine W.vret hx hb hr (fun t ht hW => ⟨⟨(), rfl, trivial, ?_⟩, hS.F ht⟩) hS.2.2 dX1_reckonBackwards_43
  rw [es0]; exact ⟨by rw [ht]; exact hP, va_K.moved hW.alike hK, hD⟩

/-- the litres at each station on the way -/
def bf_l (pl : PL) (fi : Int32) : Nat → Int32
  | 0 => fi
  | i + 1 => pl.2.2.2.1 (((nI i) * 121) + (bf_l pl fi i)).toNatClampNeg - pl.1 (i + 1)
def bf_b (pl : PL) (fi : Int32) (i : Nat) : Int32 := pl.2.2.2.1 (((nI i) * 121) + (bf_l pl fi i)).toNatClampNeg - bf_l pl fi i
theorem wi120 {x : Int32} (h : vp_in x 121) : ¬ rX3_within x 0 120 = 0 := by
  obtain ⟨h1, h2⟩ := vp_in_iff.mp h
  have e0 : (0 : Int32).toInt = 0 := by decide
  have e1 : (120 : Int32).toInt = 120 := by decide
  unfold rX3_within
  rw [if_neg (fun q => by rw [fa_lt] at q; omega), if_neg (fun q => by rw [fa_lt] at q; omega)]
  decide
theorem bf_in {i : Nat} {x : Int32} (hi : i < 12) (hx : vp_in x 121) : vp_in (((nI i) * 121) + x) 1452 := by
  obtain ⟨a, ha, rfl⟩ := vp_in_of hx (by decide)
  show vp_in (nI i * nI 121 + nI a) 1452
  rw [pk_mul, nI_add]
  exact vp_in_nI (by omega) (by decide)

set_option maxHeartbeats 4000000 in
set_option maxRecDepth 100000 in
theorem f_buy {p : Program} {l : Launch} {e : Env} {s : State} {m : MethodId} {args : Array Value} {below : List Frame} {meth : Method} {c : Code} {Q : State → Prop} {H0 : Heap} {A : Nat → Prop} {dC : Nat → ClassId} {dI : Nat → Nat → Nat} {cI cJ : ClassId} (hx : p.tables.exec = Jvm.exec) (hb : c.code = cX1_buyForwards) (hml : c.maxLocals = 5) (hown : s.vm.findClass RX1 = some m.cls) (hts : ∀ w ∈ wsX1_buyForwards, w.before args s = true) (hA : ∀ q : Nat, H0.size ≤ q → A q) (hK : va_K (dC, dI) vwCl [(cI, .int), (cJ, .long)] s) {p0 p1 p2 p3 p4 p5 : Nat} (hN : nw s) {pl : PL} {fi : Int32} {S : Nat} (hst : pl.2.2.2.2.2.1 = nI S) (hS12 : S ≤ 12) (hbl : ∀ i, i < S → vp_in (bf_l pl fi i) 121) : ∀ (n : Nat) (i : Nat), (i + n = S) → (∀ (H : Heap) (locs : List Loc) (ls : Array Slot), va_P (dC, dI) vwCl [(p0, .inr (1, [.ref p1, .ref p2, .ref p3, .ref p4, .ref p5, .int pl.2.2.2.2.2.1, .int pl.2.2.2.2.2.2])), (p1, .inl (cI, 13, .inl pl.1)), (p2, .inl (cI, 12, .inl pl.2.1)), (p3, .inl (cI, 121, .inl pl.2.2.1)), (p4, .inl (cI, 1452, .inl pl.2.2.2.1)), (p5, .inl (cI, 12, .inl (fa_fill (bf_b pl fi) pl.2.2.2.2.1 S)))] H → va_D A [(p0, .inr (1, [.ref p1, .ref p2, .ref p3, .ref p4, .ref p5, .int pl.2.2.2.2.2.1, .int pl.2.2.2.2.2.2])), (p1, .inl (cI, 13, .inl pl.1)), (p2, .inl (cI, 12, .inl pl.2.1)), (p3, .inl (cI, 121, .inl pl.2.2.1)), (p4, .inl (cI, 1452, .inl pl.2.2.2.1)), (p5, .inl (cI, 12, .inl (fa_fill (bf_b pl fi) pl.2.2.2.2.1 S)))] → va_S A H0 H locs → lv_has ls 5 [(0, .ref p0)] → W p l e ({ frames := 1, cells := 0, slots := 0, locals := 22 } : Room) s m args below meth c H locs 0 0 Q (F0 m 63 ls [])) → ∀ (H : Heap) (locs : List Loc) (ls : Array Slot), va_P (dC, dI) vwCl [(p0, .inr (1, [.ref p1, .ref p2, .ref p3, .ref p4, .ref p5, .int pl.2.2.2.2.2.1, .int pl.2.2.2.2.2.2])), (p1, .inl (cI, 13, .inl pl.1)), (p2, .inl (cI, 12, .inl pl.2.1)), (p3, .inl (cI, 121, .inl pl.2.2.1)), (p4, .inl (cI, 1452, .inl pl.2.2.2.1)), (p5, .inl (cI, 12, .inl (fa_fill (bf_b pl fi) pl.2.2.2.2.1 i)))] H → va_D A [(p0, .inr (1, [.ref p1, .ref p2, .ref p3, .ref p4, .ref p5, .int pl.2.2.2.2.2.1, .int pl.2.2.2.2.2.2])), (p1, .inl (cI, 13, .inl pl.1)), (p2, .inl (cI, 12, .inl pl.2.1)), (p3, .inl (cI, 121, .inl pl.2.2.1)), (p4, .inl (cI, 1452, .inl pl.2.2.2.1)), (p5, .inl (cI, 12, .inl (fa_fill (bf_b pl fi) pl.2.2.2.2.1 i)))] → va_S A H0 H locs → lv_has ls 5 [(0, .ref p0), (2, .int (bf_l pl fi i)), (3, .int (nI i))] → W p l e ({ frames := 1, cells := 0, slots := 0, locals := 22 } : Room) s m args below meth c H locs 0 0 Q (F0 m 4 ls []) := by
  have hiX1 : ∀ w ∈ u_ws RX1 TX1 7, w ∈ wsX1_buyForwards := by decide +kernel
  intro n
  induction n with
  | zero =>
    intro i hi kk H locs ls hP hD hS hl
    obtain rfl : i = S := by omega
    refine lv_iload_n hx hb dX1_buyForwards_4 rfl (lv_at hl 2 rfl) ?_
    refine lv_aload_n hx hb dX1_buyForwards_5 rfl (lv_at hl 0 rfl) ?_
    refine va_get (D := (dC, dI)) (ci := 1) (v := .int pl.2.2.2.2.2.1) (C := RX1) (T := TX1) (N := 7) hx hb hts hiX1 hown hK hP 0 rfl rfl 5 (by decide) (hts (.fieldLink RX1 27 "TripReckoner$Planner" "stations" "I") (by decide +kernel)) (fun _ h9 => h9) rfl dX1_buyForwards_6 ?_
    refine lv_icmp_ge (tgt := 63) hx hb dX1_buyForwards_9 (by decide) (fun c_1 => ?_) (fun c_1 => absurd (by rw [hst]; exact nI_le (Nat.le_refl _) (by omega)) c_1)
    exact kk _ _ _ hP hD hS (lv_sub hl [0] rfl)
  | succ n ih =>
    intro i hi kk H locs ls hP hD hS hl
    refine lv_iload_n hx hb dX1_buyForwards_4 rfl (lv_at hl 2 rfl) ?_
    refine lv_aload_n hx hb dX1_buyForwards_5 rfl (lv_at hl 0 rfl) ?_
    refine va_get (D := (dC, dI)) (ci := 1) (v := .int pl.2.2.2.2.2.1) (C := RX1) (T := TX1) (N := 7) hx hb hts hiX1 hown hK hP 0 rfl rfl 5 (by decide) (hts (.fieldLink RX1 27 "TripReckoner$Planner" "stations" "I") (by decide +kernel)) (fun _ h9 => h9) rfl dX1_buyForwards_6 ?_
    refine lv_icmp_ge (tgt := 63) hx hb dX1_buyForwards_9 (by decide) (fun c_1 => absurd c_1 (by rw [hst]; exact nI_ge (by omega) (by omega))) (fun c_1 => ?_)
    refine lv_iload_n hx hb dX1_buyForwards_12 rfl (lv_at hl 1 rfl) ?_
    refine lv_iconst (v := 0) hx hb dX1_buyForwards_13 (by decide) ?_
    refine lv_bipush (v := 120) hx hb dX1_buyForwards_14 (by decide) ?_
    have hPc := hP.sub (ws' := []) [] rfl
    have hDc := hD.sub (ws' := []) [] (by decide) rfl
    have hFc := va_free (wc := []) hD hS hA [] rfl
    refine va_calli (va_runSN (As := [.int (bf_l pl fi i), .int 0, .int 120]) (rest := []) ⟨hx, hb, hml, hown, hts⟩ (kX3_within l dC dI cI cJ H.size (bf_l pl fi i) 0 120) ⟨va_cnB 3 hts gX1_buyForwards_X3_within_n60 rfl rfl rfl (nw_m hN (.methodLinkNest RX1 60 yX3_within "TripReckoner") (by decide +kernel)) (hts (.initialized RX3) (by decide +kernel)) (by decide +kernel) ⟨Nat.le_of_ble_eq_true rfl, Nat.le_of_ble_eq_true rfl⟩, (hts (.static yX3_within) (by decide +kernel)), trivial⟩ ⟨fun a U g mk q => by obtain ⟨q0, q1, qP, qK, qD⟩ := q; exact ⟨q0, q1, qP, va_K.moved (u := U) (U := U.calling g mk a) (Vm.Alike.refl U.vm) qK, qD⟩, fun U hU hW => ⟨rfl, by rw [hU], by rw [hU]; exact hPc, va_K.moved hW.alike hK, hDc.weaken (fun _ _ _ _ => trivial)⟩⟩ rfl rfl hl.1 rfl (lv_room (Nat.le_of_ble_eq_true rfl)) dX1_buyForwards_16 ⟨Nat.le_of_ble_eq_true rfl, Nat.le_of_ble_eq_true rfl⟩) hS (fun q _ h => hFc q h) hFc (fun r_2 _ t H1 locs ht hvm hw hB hz1 hk1 hS => ?_)
    obtain ⟨hP1, hK1, hD1⟩ := hB
    rw [ht] at hP1
    obtain ⟨hP, hD⟩ := va_join (wr := [(p0, .inr (1, [.ref p1, .ref p2, .ref p3, .ref p4, .ref p5, .int pl.2.2.2.2.2.1, .int pl.2.2.2.2.2.2])), (p1, .inl (cI, 13, .inl pl.1)), (p2, .inl (cI, 12, .inl pl.2.1)), (p3, .inl (cI, 121, .inl pl.2.2.1)), (p4, .inl (cI, 1452, .inl pl.2.2.2.1)), (p5, .inl (cI, 12, .inl (fa_fill (bf_b pl fi) pl.2.2.2.2.1 i)))]) (w1 := []) hP hD [] [0, 1, 2, 3, 4, 5] rfl rfl (by decide) (by decide) hk1 hFc hP1 hD1
    generalize H1 = H at hP hS ⊢
    have hP : va_P (dC, dI) vwCl [(p0, .inr (1, [.ref p1, .ref p2, .ref p3, .ref p4, .ref p5, .int pl.2.2.2.2.2.1, .int pl.2.2.2.2.2.2])), (p1, .inl (cI, 13, .inl pl.1)), (p2, .inl (cI, 12, .inl pl.2.1)), (p3, .inl (cI, 121, .inl pl.2.2.1)), (p4, .inl (cI, 1452, .inl pl.2.2.2.1)), (p5, .inl (cI, 12, .inl (fa_fill (bf_b pl fi) pl.2.2.2.2.1 i)))] H := hP
    have hD : va_D A [(p0, .inr (1, [.ref p1, .ref p2, .ref p3, .ref p4, .ref p5, .int pl.2.2.2.2.2.1, .int pl.2.2.2.2.2.2])), (p1, .inl (cI, 13, .inl pl.1)), (p2, .inl (cI, 12, .inl pl.2.1)), (p3, .inl (cI, 121, .inl pl.2.2.1)), (p4, .inl (cI, 1452, .inl pl.2.2.2.1)), (p5, .inl (cI, 12, .inl (fa_fill (bf_b pl fi) pl.2.2.2.2.1 i)))] := hD
    subst hw
    refine lv_if_eq (tgt := 63) hx hb dX1_buyForwards_19 (by decide) (fun c_3 => absurd c_3 (wi120 (hbl i (by omega)))) (fun c_3 => ?_)
    refine lv_aload_n hx hb dX1_buyForwards_22 rfl (lv_at hl 0 rfl) ?_
    refine va_get (D := (dC, dI)) (ci := 1) (v := .ref p4) (C := RX1) (T := TX1) (N := 7) hx hb hts hiX1 hown hK hP 0 rfl rfl 3 (by decide) (hts (.fieldLink RX1 21 "TripReckoner$Planner" "fillTo" "[I") (by decide +kernel)) (fun _ h9 => h9) rfl dX1_buyForwards_23 ?_
    refine lv_iload_n hx hb dX1_buyForwards_26 rfl (lv_at hl 2 rfl) ?_
    refine lv_bipush (v := 121) hx hb dX1_buyForwards_27 (by decide) ?_
    refine lv_imul hx hb dX1_buyForwards_29 ?_
    refine lv_iload_n hx hb dX1_buyForwards_30 rfl (lv_at hl 1 rfl) ?_
    refine lv_iadd hx hb dX1_buyForwards_31 ?_
    refine va_iald hx hb hK hP 4 0 rfl rfl (bf_in (by omega) (hbl i (by omega))) dX1_buyForwards_32 ?_
    refine lv_istore (lv' := [(4, .int (pl.2.2.2.1 ((((nI i) * 121) + (bf_l pl fi i)).toNatClampNeg))), (0, .ref p0), (2, .int (bf_l pl fi i)), (3, .int (nI i))]) hx hb dX1_buyForwards_33 hl (by decide) rfl (fun ls hl => ?_)
    refine lv_aload_n hx hb dX1_buyForwards_35 rfl (lv_at hl 1 rfl) ?_
    refine va_get (D := (dC, dI)) (ci := 1) (v := .ref p5) (C := RX1) (T := TX1) (N := 7) hx hb hts hiX1 hown hK hP 0 rfl rfl 4 (by decide) (hts (.fieldLink RX1 24 "TripReckoner$Planner" "bought" "[I") (by decide +kernel)) (fun _ h9 => h9) rfl dX1_buyForwards_36 ?_
    refine lv_iload_n hx hb dX1_buyForwards_39 rfl (lv_at hl 3 rfl) ?_
    refine lv_iload hx hb dX1_buyForwards_40 (lv_at hl 0 rfl) ?_
    refine lv_iload_n hx hb dX1_buyForwards_42 rfl (lv_at hl 2 rfl) ?_
    refine lv_isub hx hb dX1_buyForwards_43 ?_
    refine va_iast hx hb hK hP hD hS 5 0 rfl rfl (vp_in_nI (by omega) (by decide)) dX1_buyForwards_44 (fun H locs hP hD hS => ?_)
    rw [(nI_clamp (n := i) (by omega))] at hP hD
    have hP : va_P (dC, dI) vwCl [(p0, .inr (1, [.ref p1, .ref p2, .ref p3, .ref p4, .ref p5, .int pl.2.2.2.2.2.1, .int pl.2.2.2.2.2.2])), (p1, .inl (cI, 13, .inl pl.1)), (p2, .inl (cI, 12, .inl pl.2.1)), (p3, .inl (cI, 121, .inl pl.2.2.1)), (p4, .inl (cI, 1452, .inl pl.2.2.2.1)), (p5, .inl (cI, 12, .inl (upd (fa_fill (bf_b pl fi) pl.2.2.2.2.1 i) i ((pl.2.2.2.1 ((((nI i) * 121) + (bf_l pl fi i)).toNatClampNeg)) - (bf_l pl fi i)))))] H := hP
    have hD : va_D A [(p0, .inr (1, [.ref p1, .ref p2, .ref p3, .ref p4, .ref p5, .int pl.2.2.2.2.2.1, .int pl.2.2.2.2.2.2])), (p1, .inl (cI, 13, .inl pl.1)), (p2, .inl (cI, 12, .inl pl.2.1)), (p3, .inl (cI, 121, .inl pl.2.2.1)), (p4, .inl (cI, 1452, .inl pl.2.2.2.1)), (p5, .inl (cI, 12, .inl (upd (fa_fill (bf_b pl fi) pl.2.2.2.2.1 i) i ((pl.2.2.2.1 ((((nI i) * 121) + (bf_l pl fi i)).toNatClampNeg)) - (bf_l pl fi i)))))] := hD
    refine lv_iload hx hb dX1_buyForwards_45 (lv_at hl 0 rfl) ?_
    refine lv_aload_n hx hb dX1_buyForwards_47 rfl (lv_at hl 1 rfl) ?_
    refine va_get (D := (dC, dI)) (ci := 1) (v := .ref p1) (C := RX1) (T := TX1) (N := 7) hx hb hts hiX1 hown hK hP 0 rfl rfl 0 (by decide) (hts (.fieldLink RX1 11 "TripReckoner$Planner" "legs" "[I") (by decide +kernel)) (fun _ h9 => h9) rfl dX1_buyForwards_48 ?_
    refine lv_iload_n hx hb dX1_buyForwards_51 rfl (lv_at hl 3 rfl) ?_
    refine lv_iconst (v := 1) hx hb dX1_buyForwards_52 (by decide) ?_
    refine lv_iadd hx hb dX1_buyForwards_53 ?_
    refine lv_topi (fun z_4 ez_4 => ?_)
    obtain rfl : z_4 = nI (i + 1) := ez_4.trans (nI_1 i)
    refine va_iald hx hb hK hP 1 0 rfl rfl (vp_in_nI (by omega) (by decide)) dX1_buyForwards_54 ?_
    refine lv_topi (fun z_5 ez_5 => ?_)
    rw [(nI_clamp (n := i + 1) (by omega))] at ez_5
    subst ez_5
    refine lv_isub hx hb dX1_buyForwards_55 ?_
    refine lv_istore_n (lv' := [(2, .int ((pl.2.2.2.1 ((((nI i) * 121) + (bf_l pl fi i)).toNatClampNeg)) - (pl.1 (i + 1)))), (4, .int (pl.2.2.2.1 ((((nI i) * 121) + (bf_l pl fi i)).toNatClampNeg))), (0, .ref p0), (3, .int (nI i))]) hx hb dX1_buyForwards_56 rfl hl (by decide) rfl (fun ls hl => ?_)
    refine lv_iinc (v := nI (i + 1)) (lv' := [(3, .int (nI (i + 1))), (2, .int ((pl.2.2.2.1 ((((nI i) * 121) + (bf_l pl fi i)).toNatClampNeg)) - (pl.1 (i + 1)))), (4, .int (pl.2.2.2.1 ((((nI i) * 121) + (bf_l pl fi i)).toNatClampNeg))), (0, .ref p0)]) hx hb dX1_buyForwards_57 hl (k := 3) rfl (nI_1 i) (by decide) rfl (fun ls hl => ?_)
    refine lv_goto (tgt := 4) hx hb dX1_buyForwards_60 (by decide) ?_
    have hP : va_P (dC, dI) vwCl [(p0, .inr (1, [.ref p1, .ref p2, .ref p3, .ref p4, .ref p5, .int pl.2.2.2.2.2.1, .int pl.2.2.2.2.2.2])), (p1, .inl (cI, 13, .inl pl.1)), (p2, .inl (cI, 12, .inl pl.2.1)), (p3, .inl (cI, 121, .inl pl.2.2.1)), (p4, .inl (cI, 1452, .inl pl.2.2.2.1)), (p5, .inl (cI, 12, .inl (fa_fill (bf_b pl fi) pl.2.2.2.2.1 (i + 1))))] H := by rw [← fa_fill_succ]; exact hP
    have hD : va_D A [(p0, .inr (1, [.ref p1, .ref p2, .ref p3, .ref p4, .ref p5, .int pl.2.2.2.2.2.1, .int pl.2.2.2.2.2.2])), (p1, .inl (cI, 13, .inl pl.1)), (p2, .inl (cI, 12, .inl pl.2.1)), (p3, .inl (cI, 121, .inl pl.2.2.1)), (p4, .inl (cI, 1452, .inl pl.2.2.2.1)), (p5, .inl (cI, 12, .inl (fa_fill (bf_b pl fi) pl.2.2.2.2.1 (i + 1))))] := by rw [← fa_fill_succ]; exact hD
    exact ih (i + 1) (by omega) kk _ _ _ hP hD hS (lv_sub hl [3, 1, 0] rfl)

def sX1_buyForwards (fi : Int32) (pl : PL) : PL :=
  (pl.1, pl.2.1, pl.2.2.1, pl.2.2.2.1, fa_fill (bf_b pl fi) pl.2.2.2.2.1 pl.2.2.2.2.2.1.toNatClampNeg, pl.2.2.2.2.2.1, pl.2.2.2.2.2.1)
set_option maxHeartbeats 4000000 in
set_option maxRecDepth 100000 in
theorem kX1_buyForwards (l : Launch) (dC : Nat → ClassId) (dI : Nat → Nat → Nat) (cI cJ : ClassId) (p0 p1 p2 p3 p4 p5 : Nat) (sz : Nat) (fi : Int32) (pl : PL) (hs0 : 0 ≤ pl.2.2.2.2.2.1) (hs12 : pl.2.2.2.2.2.1.toNatClampNeg ≤ 12) (hbl : ∀ i, i < pl.2.2.2.2.2.1.toNatClampNeg → vp_in (bf_l pl fi i) 121) : Met l yX1_buyForwards wsX1_buyForwards ({ frames := 1, cells := 0, slots := 0, locals := 22 }) (va_Pc [.ref p0, .int fi] (fun U => U.heap.size = sz ∧ va_P (dC, dI) vwCl [cP0 p0 p1 p2 p3 p4 p5 pl, cP1 cI p1 pl, cP2 cI p2 pl, cP3 cI p3 pl, cP4 cI p4 pl, cP5 cI p5 pl] U.heap ∧ va_K (dC, dI) vwCl [(cI, .int), (cJ, .long)] U ∧ va_D (fun _ => True) [cP0 p0 p1 p2 p3 p4 p5 pl, cP1 cI p1 pl, cP2 cI p2 pl, cP3 cI p3 pl, cP4 cI p4 pl, cP5 cI p5 pl] ∧ nw U)) (va_Qv (fun _ : Unit => True) (fun _ t => va_P (dC, dI) vwCl [cP0 p0 p1 p2 p3 p4 p5 (sX1_buyForwards fi pl), cP1 cI p1 (sX1_buyForwards fi pl), cP2 cI p2 (sX1_buyForwards fi pl), cP3 cI p3 (sX1_buyForwards fi pl), cP4 cI p4 (sX1_buyForwards fi pl), cP5 cI p5 (sX1_buyForwards fi pl)] t.heap ∧ va_K (dC, dI) vwCl [(cI, .int), (cJ, .long)] t ∧ va_D (va_A [cP0 p0 p1 p2 p3 p4 p5 pl, cP1 cI p1 pl, cP2 cI p2 pl, cP3 cI p3 pl, cP4 cI p4 pl, cP5 cI p5 pl] sz) [cP0 p0 p1 p2 p3 p4 p5 (sX1_buyForwards fi pl), cP1 cI p1 (sX1_buyForwards fi pl), cP2 cI p2 (sX1_buyForwards fi pl), cP3 cI p3 (sX1_buyForwards fi pl), cP4 cI p4 (sX1_buyForwards fi pl), cP5 cI p5 (sX1_buyForwards fi pl)]) (va_A [cP0 p0 p1 p2 p3 p4 p5 pl, cP1 cI p1 pl, cP2 cI p2 pl, cP3 cI p3 pl, cP4 cI p4 pl, cP5 cI p5 pl] sz)) 0 0 (va_A [cP0 p0 p1 p2 p3 p4 p5 pl, cP1 cI p1 pl, cP2 cI p2 pl, cP3 cI p3 pl, cP4 cI p4 pl, cP5 cI p5 pl] sz) := by
  refine Met.ofW (cc := cX1_buyForwards) (maxL := 5) (ret := none) (by decide) rfl ?_
  intro p e s m args below meth c s₁ B hml hv
  obtain ⟨rfl, hsz, hP, hK, hD0, hN⟩ := hv
  have hx := B.exec
  have hb := B.bytes
  have hr := B.returns
  have hts := atoms_spec (ws := wsX1_buyForwards) B.pre
  have hown : s.vm.findClass RX1 = some m.cls := findClass_of_methodNamed B.named
  have hlocks := B.notSynchronized
  have hiX1 : ∀ w ∈ u_ws RX1 TX1 7, w ∈ wsX1_buyForwards := by decide +kernel
  subst hsz
  have hD := hD0.self (sz := s.heap.size)
  generalize hAe : va_A [cP0 p0 p1 p2 p3 p4 p5 pl, cP1 cI p1 pl, cP2 cI p2 pl, cP3 cI p3 pl, cP4 cI p4 pl, cP5 cI p5 pl] s.heap.size = A at hD ⊢
  have hA : ∀ q : Nat, s.heap.size ≤ q → A q := fun q h => by rw [← hAe]; exact Or.inr h
  have hS : va_S A s.heap s.heap [] := va_S.rf
  have hl := lv_entry ([.ref p0, .int fi]) (n := 5) (Nat.le_of_ble_eq_true rfl)
  rw [lg_entry_eq]
  generalize (lg_sl ([.ref p0, .int fi]) ++ List.replicate (5 - (lg_sl ([.ref p0, .int fi])).length) Slot.unset).toArray = ls at hl ⊢
  have hl : lv_has ls 5 [(0, .ref p0), (1, .int fi)] := hl
  have hP : va_P (dC, dI) vwCl [cP0 p0 p1 p2 p3 p4 p5 pl, cP1 cI p1 pl, cP2 cI p2 pl, cP3 cI p3 pl, cP4 cI p4 pl, cP5 cI p5 pl] s.heap := hP
  refine lv_iload_n hx hb dX1_buyForwards_0 rfl (lv_at hl 1 rfl) ?_
  refine lv_istore_n (lv' := [(2, .int fi), (0, .ref p0), (1, .int fi)]) hx hb dX1_buyForwards_1 rfl hl (by decide) rfl (fun ls hl => ?_)
  refine lv_iconst (v := 0) hx hb dX1_buyForwards_2 (by decide) ?_
  refine lv_istore_n (lv' := [(3, .int 0), (2, .int fi), (0, .ref p0), (1, .int fi)]) hx hb dX1_buyForwards_3 rfl hl (by decide) rfl (fun ls hl => ?_)
  have hP : va_P (dC, dI) vwCl [(p0, .inr (1, [.ref p1, .ref p2, .ref p3, .ref p4, .ref p5, .int pl.2.2.2.2.2.1, .int pl.2.2.2.2.2.2])), (p1, .inl (cI, 13, .inl pl.1)), (p2, .inl (cI, 12, .inl pl.2.1)), (p3, .inl (cI, 121, .inl pl.2.2.1)), (p4, .inl (cI, 1452, .inl pl.2.2.2.1)), (p5, .inl (cI, 12, .inl (fa_fill (bf_b pl fi) pl.2.2.2.2.1 0)))] s.heap := hP
  have hD : va_D A [(p0, .inr (1, [.ref p1, .ref p2, .ref p3, .ref p4, .ref p5, .int pl.2.2.2.2.2.1, .int pl.2.2.2.2.2.2])), (p1, .inl (cI, 13, .inl pl.1)), (p2, .inl (cI, 12, .inl pl.2.1)), (p3, .inl (cI, 121, .inl pl.2.2.1)), (p4, .inl (cI, 1452, .inl pl.2.2.2.1)), (p5, .inl (cI, 12, .inl (fa_fill (bf_b pl fi) pl.2.2.2.2.1 0)))] := hD
  refine f_buy hx hb hml hown hts hA hK hN (i_cl hs0) hs12 hbl pl.2.2.2.2.2.1.toNatClampNeg 0 (by omega) (fun H locs ls hP hD hS hl => ?_) _ _ _ hP hD hS (lv_sub hl [2, 1, 0] rfl)
  refine lv_aload_n hx hb dX1_buyForwards_63 rfl (lv_at hl 0 rfl) ?_
  refine lv_aload_n hx hb dX1_buyForwards_64 rfl (lv_at hl 0 rfl) ?_
  refine va_get (D := (dC, dI)) (ci := 1) (v := .int pl.2.2.2.2.2.1) (C := RX1) (T := TX1) (N := 7) hx hb hts hiX1 hown hK hP 0 rfl rfl 5 (by decide) (hts (.fieldLink RX1 27 "TripReckoner$Planner" "stations" "I") (by decide +kernel)) (fun _ h9 => h9) rfl dX1_buyForwards_65 ?_
  refine va_put (D := (dC, dI)) (ci := 1) (v := .int pl.2.2.2.2.2.1) (ty := .int) (C := RX1) (T := TX1) (N := 7) hx hb hts hiX1 tyX1 tyX1_ok nmX1 hown hK hP hD hS 0 rfl rfl 6 (by decide) (hts (.fieldLink RX1 31 "TripReckoner$Planner" "plannedStations" "I") (by decide +kernel)) (fun _ h9 => h9) rfl (by decide +kernel) rfl rfl (Nat.le_of_ble_eq_true rfl) dX1_buyForwards_68 (fun H locs hP hD hS => ?_)
  have hP : va_P (dC, dI) vwCl [(p0, .inr (1, [.ref p1, .ref p2, .ref p3, .ref p4, .ref p5, .int pl.2.2.2.2.2.1, .int pl.2.2.2.2.2.1])), (p1, .inl (cI, 13, .inl pl.1)), (p2, .inl (cI, 12, .inl pl.2.1)), (p3, .inl (cI, 121, .inl pl.2.2.1)), (p4, .inl (cI, 1452, .inl pl.2.2.2.1)), (p5, .inl (cI, 12, .inl (fa_fill (bf_b pl fi) pl.2.2.2.2.1 pl.2.2.2.2.2.1.toNatClampNeg)))] H := hP
  have hD : va_D A [(p0, .inr (1, [.ref p1, .ref p2, .ref p3, .ref p4, .ref p5, .int pl.2.2.2.2.2.1, .int pl.2.2.2.2.2.1])), (p1, .inl (cI, 13, .inl pl.1)), (p2, .inl (cI, 12, .inl pl.2.1)), (p3, .inl (cI, 121, .inl pl.2.2.1)), (p4, .inl (cI, 1452, .inl pl.2.2.2.1)), (p5, .inl (cI, 12, .inl (fa_fill (bf_b pl fi) pl.2.2.2.2.1 pl.2.2.2.2.2.1.toNatClampNeg)))] := hD
  have es0 : sX1_buyForwards fi pl = (pl.1, pl.2.1, pl.2.2.1, pl.2.2.2.1, fa_fill (bf_b pl fi) pl.2.2.2.2.1 pl.2.2.2.2.2.1.toNatClampNeg, pl.2.2.2.2.2.1, pl.2.2.2.2.2.1) := by rw [sX1_buyForwards]
  refine W.vret hx hb hr (fun t ht hW => ⟨⟨(), rfl, trivial, ?_⟩, hS.F ht⟩) hS.2.2 dX1_buyForwards_71
  rw [es0]; exact ⟨by rw [ht]; exact hP, va_K.moved hW.alike hK, hD⟩
