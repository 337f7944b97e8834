set_option maxHeartbeats 4000000 in
set_option maxRecDepth 100000 in
theorem lc_span {p : Program} {l : Launch} {e : Env} {s : State} {m : MethodId} {below : List Frame} {meth : Method} {c : Code} {A : Nat → Prop} {dC : Nat → ClassId} {dI : Nat → Nat → Nat} {cI cJ : ClassId} {b L : Nat} {xs : Nat → Int32} {h0 n0 k0 t0 p0 n1 n2 n3 k1 k2 k3 t1 p1 p2 p3 p4 p5 m0 m1 m2 m3 m4 m5 o0 : Nat} {cells slots n i : Nat} {x : XC} {g k : LG} {tp : TP} {pl : PL} {v : MS} {f : Nat → Int64} (C1 : lwC p s m c A dC dI cI cJ b L xs) (hL : L ≤ 3072) (hl9 : l.stackTraces = false) (hn : n ≤ 600) (hi : i + 6 ≤ L) (hc : cells + 1 ≤ 1053) (hs : slots + 6 ≤ 11950) (hR : RR n x g k tp pl v) (kk : ∀ (x : XC) (g k : LG) (tp : TP) (pl : PL) (v : MS) (f : Nat → Int64) (H : Heap) (locs : List Loc) (ls : Array Slot), RR (n + 1) x g k tp pl v → va_P (dC, dI) vwCl [cX0 h0 n0 k0 t0 p0 x, cL0 n0 n1 n2 n3 g, cL1 cJ n1 g, cL2 cI n2 g, cL3 cI n3 g, cL0 k0 k1 k2 k3 k, cL1 cJ k1 k, cL2 cI k2 k, cL3 cI k3 k, cT0 t0 t1 tp, cT1 cI t1 tp, cP0 p0 p1 p2 p3 p4 p5 pl, cP1 cI p1 pl, cP2 cI p2 pl, cP3 cI p3 pl, cP4 cI p4 pl, cP5 cI p5 pl, cM0 m0 m1 m2 m3 m4 m5 v, cM1 cI m1 v, cM2 cJ m2 v, cM3 cJ m3 v, cM4 cI m4 v, cM5 cI m5 v, (o0, .inl (cJ, 1, .inr (.inl f)))] H → va_D A [cX0 h0 n0 k0 t0 p0 x, cL0 n0 n1 n2 n3 g, cL1 cJ n1 g, cL2 cI n2 g, cL3 cI n3 g, cL0 k0 k1 k2 k3 k, cL1 cJ k1 k, cL2 cI k2 k, cL3 cI k3 k, cT0 t0 t1 tp, cT1 cI t1 tp, cP0 p0 p1 p2 p3 p4 p5 pl, cP1 cI p1 pl, cP2 cI p2 pl, cP3 cI p3 pl, cP4 cI p4 pl, cP5 cI p5 pl, cM0 m0 m1 m2 m3 m4 m5 v, cM1 cI m1 v, cM2 cJ m2 v, cM3 cJ m3 v, cM4 cI m4 v, cM5 cI m5 v, (o0, .inl (cJ, 1, .inr (.inl f)))] → va_S A s.heap H locs → lv_has ls 8 [(0, .ref b), (1, .ref h0), (2, .ref m0), (3, .ref o0), (4, .int (nI i))] → W p l e room_1 s m #[Value.ref b] below meth c H locs (cells + 1) (slots + 6) (lw_Z below #[Value.ref b] s) (F0 m 991 ls [])) (H : Heap) (locs : List Loc) (ls : Array Slot) (hP : va_P (dC, dI) vwCl [cX0 h0 n0 k0 t0 p0 x, cL0 n0 n1 n2 n3 g, cL1 cJ n1 g, cL2 cI n2 g, cL3 cI n3 g, cL0 k0 k1 k2 k3 k, cL1 cJ k1 k, cL2 cI k2 k, cL3 cI k3 k, cT0 t0 t1 tp, cT1 cI t1 tp, cP0 p0 p1 p2 p3 p4 p5 pl, cP1 cI p1 pl, cP2 cI p2 pl, cP3 cI p3 pl, cP4 cI p4 pl, cP5 cI p5 pl, cM0 m0 m1 m2 m3 m4 m5 v, cM1 cI m1 v, cM2 cJ m2 v, cM3 cJ m3 v, cM4 cI m4 v, cM5 cI m5 v, (o0, .inl (cJ, 1, .inr (.inl f)))] H) (hD : va_D A [cX0 h0 n0 k0 t0 p0 x, cL0 n0 n1 n2 n3 g, cL1 cJ n1 g, cL2 cI n2 g, cL3 cI n3 g, cL0 k0 k1 k2 k3 k, cL1 cJ k1 k, cL2 cI k2 k, cL3 cI k3 k, cT0 t0 t1 tp, cT1 cI t1 tp, cP0 p0 p1 p2 p3 p4 p5 pl, cP1 cI p1 pl, cP2 cI p2 pl, cP3 cI p3 pl, cP4 cI p4 pl, cP5 cI p5 pl, cM0 m0 m1 m2 m3 m4 m5 v, cM1 cI m1 v, cM2 cJ m2 v, cM3 cJ m3 v, cM4 cI m4 v, cM5 cI m5 v, (o0, .inl (cJ, 1, .inr (.inl f)))]) (hS : va_S A s.heap H locs) (hl : lv_has ls 8 [(0, .ref b), (1, .ref h0), (2, .ref m0), (3, .ref o0), (4, .int (nI i))]) : W p l e room_1 s m #[Value.ref b] below meth c H locs cells slots (lw_Z below #[Value.ref b] s) (F0 m 504 ls []) := by
  obtain ⟨hx, hb, hml, hown, hts, hX, hbl, hbA, hA, hK, hN, hQ⟩ := C1
  refine lv_aload_n hx hb dL_law_504 rfl (lv_at hl 1 rfl) ?_
  refine lv_aload_n hx hb dL_law_505 rfl (lv_at hl 0 rfl) ?_
  refine lv_iload hx hb dL_law_506 (lv_at hl 4 rfl) ?_
  refine lv_iconst (v := 1) hx hb dL_law_508 (by decide) ?_
  refine lv_iadd hx hb dL_law_509 ?_
  refine lv_topi (fun z_1 ez_1 => ?_)
  obtain rfl : z_1 = nI (i + 1) := ez_1.trans (nI_add i 1)
  refine va_sld hx hb hX hbl hbA hS (vp_in_nI (by omega) (by omega)) dL_law_510 ?_
  refine lv_topi (fun z_2 ez_2 => ?_)
  rw [nI_clamp (by omega)] at ez_2
  subst ez_2
  refine lv_if_eq (tgt := 518) hx hb dL_law_511 (by decide) (fun c_3 => ?_) (fun c_3 => ?_)
  · refine lv_iconst (v := 0) hx hb dL_law_518 (by decide) ?_
    have hPc := hP.sub (ws' := [cX0 h0 n0 k0 t0 p0 x, cL0 n0 n1 n2 n3 g, cL1 cJ n1 g, cL2 cI n2 g, cL3 cI n3 g, cL0 k0 k1 k2 k3 k, cL1 cJ k1 k, cL2 cI k2 k, cL3 cI k3 k, cT0 t0 t1 tp, cT1 cI t1 tp, cP0 p0 p1 p2 p3 p4 p5 pl, cP1 cI p1 pl, cP2 cI p2 pl, cP3 cI p3 pl, cP4 cI p4 pl, cP5 cI p5 pl]) [0, 1, 2, 3, 4, 5, 6, 7, 8, 9, 10, 11, 12, 13, 14, 15, 16] rfl
    have hDc := hD.sub (ws' := [cX0 h0 n0 k0 t0 p0 x, cL0 n0 n1 n2 n3 g, cL1 cJ n1 g, cL2 cI n2 g, cL3 cI n3 g, cL0 k0 k1 k2 k3 k, cL1 cJ k1 k, cL2 cI k2 k, cL3 cI k3 k, cT0 t0 t1 tp, cT1 cI t1 tp, cP0 p0 p1 p2 p3 p4 p5 pl, cP1 cI p1 pl, cP2 cI p2 pl, cP3 cI p3 pl, cP4 cI p4 pl, cP5 cI p5 pl]) [0, 1, 2, 3, 4, 5, 6, 7, 8, 9, 10, 11, 12, 13, 14, 15, 16] (by decide) rfl
    have hFc := va_free (wc := [cX0 h0 n0 k0 t0 p0 x, cL0 n0 n1 n2 n3 g, cL1 cJ n1 g, cL2 cI n2 g, cL3 cI n3 g, cL0 k0 k1 k2 k3 k, cL1 cJ k1 k, cL2 cI k2 k, cL3 cI k3 k, cT0 t0 t1 tp, cT1 cI t1 tp, cP0 p0 p1 p2 p3 p4 p5 pl, cP1 cI p1 pl, cP2 cI p2 pl, cP3 cI p3 pl, cP4 cI p4 pl, cP5 cI p5 pl]) hD hS hA [0, 1, 2, 3, 4, 5, 6, 7, 8, 9, 10, 11, 12, 13, 14, 15, 16] rfl
    refine va_calli (va_runV (As := [.int 0]) (rest := []) ⟨hx, hb, hml, hown, hts⟩ (kX3_span l dC dI cI cJ h0 n0 k0 t0 p0 n1 n2 n3 k1 k2 k3 t1 p1 p2 p3 p4 p5 H.size 0 x g k tp pl) (cwV 1 hts gY_X3_span rfl rfl rfl (by decide +kernel) ⟨Nat.le_of_ble_eq_true rfl, Nat.le_of_ble_eq_true rfl⟩) ⟨fun a U g mk q => by obtain ⟨q0, q1, qP, qK, qD, qN⟩ := q; exact ⟨q0, q1, qP, va_K.moved (u := U) (U := U.calling g mk a) (Vm.Alike.refl U.vm) qK, qD, nw_same (s := U) (U := U.calling g mk a) rfl qN⟩, va_recv hK hPc (ci := 3) (q0 := 0) rfl rfl, fun U hU hW => ⟨rfl, by rw [hU], by rw [hU]; exact hPc, va_K.moved hW.alike hK, hDc.weaken (fun _ _ _ _ => trivial), nw_warm hW hN⟩⟩ rfl rfl hl.1 rfl (lv_room (Nat.le_of_ble_eq_true rfl)) dL_law_519 ⟨(by show _ ≤ (1053 : Nat); omega), (by show _ ≤ (11950 : Nat); omega)⟩) hS (fun q _ h => hFc q h) hFc (fun r_4 _ t H1 locs ht hvm hw hB hz1 hk1 hS => ?_)
    obtain ⟨hP1, hK1, hD1⟩ := hB
    rw [ht] at hP1
    obtain ⟨hP, hD⟩ := va_join (wr := [cM0 m0 m1 m2 m3 m4 m5 v, cM1 cI m1 v, cM2 cJ m2 v, cM3 cJ m3 v, cM4 cI m4 v, cM5 cI m5 v, (o0, .inl (cJ, 1, .inr (.inl f)))]) (w1 := [cX0 h0 n0 k0 t0 p0 x, cL0 n0 n1 n2 n3 g, cL1 cJ n1 g, cL2 cI n2 g, cL3 cI n3 g, cL0 k0 k1 k2 k3 k, cL1 cJ k1 k, cL2 cI k2 k, cL3 cI k3 k, cT0 t0 t1 tp, cT1 cI t1 tp, cP0 p0 p1 p2 p3 p4 p5 pl, cP1 cI p1 pl, cP2 cI p2 pl, cP3 cI p3 pl, cP4 cI p4 pl, cP5 cI p5 pl]) hP hD [0, 1, 2, 3, 4, 5, 6, 7, 8, 9, 10, 11, 12, 13, 14, 15, 16] [17, 18, 19, 20, 21, 22, 23] rfl rfl (by decide) (by decide) hk1 hFc hP1 hD1
    generalize H1 = H at hP hS ⊢
    have hP := hP.sub (ws' := [cX0 h0 n0 k0 t0 p0 x, cL0 n0 n1 n2 n3 g, cL1 cJ n1 g, cL2 cI n2 g, cL3 cI n3 g, cL0 k0 k1 k2 k3 k, cL1 cJ k1 k, cL2 cI k2 k, cL3 cI k3 k, cT0 t0 t1 tp, cT1 cI t1 tp, cP0 p0 p1 p2 p3 p4 p5 pl, cP1 cI p1 pl, cP2 cI p2 pl, cP3 cI p3 pl, cP4 cI p4 pl, cP5 cI p5 pl, cM0 m0 m1 m2 m3 m4 m5 v, cM1 cI m1 v, cM2 cJ m2 v, cM3 cJ m3 v, cM4 cI m4 v, cM5 cI m5 v, (o0, .inl (cJ, 1, .inr (.inl f)))]) [7, 8, 9, 10, 11, 12, 13, 14, 15, 16, 17, 18, 19, 20, 21, 22, 23, 0, 1, 2, 3, 4, 5, 6] rfl
    have hD := hD.sub (ws' := [cX0 h0 n0 k0 t0 p0 x, cL0 n0 n1 n2 n3 g, cL1 cJ n1 g, cL2 cI n2 g, cL3 cI n3 g, cL0 k0 k1 k2 k3 k, cL1 cJ k1 k, cL2 cI k2 k, cL3 cI k3 k, cT0 t0 t1 tp, cT1 cI t1 tp, cP0 p0 p1 p2 p3 p4 p5 pl, cP1 cI p1 pl, cP2 cI p2 pl, cP3 cI p3 pl, cP4 cI p4 pl, cP5 cI p5 pl, cM0 m0 m1 m2 m3 m4 m5 v, cM1 cI m1 v, cM2 cJ m2 v, cM3 cJ m3 v, cM4 cI m4 v, cM5 cI m5 v, (o0, .inl (cJ, 1, .inr (.inl f)))]) [7, 8, 9, 10, 11, 12, 13, 14, 15, 16, 17, 18, 19, 20, 21, 22, 23, 0, 1, 2, 3, 4, 5, 6] (by decide) rfl
    subst hw
    refine lv_aload_n hx hb dL_law_522 rfl (lv_at hl 2 rfl) ?_
    refine lv_aload_n hx hb dL_law_523 rfl (lv_at hl 0 rfl) ?_
    refine lv_iload hx hb dL_law_524 (lv_at hl 4 rfl) ?_
    refine lv_iconst (v := 1) hx hb dL_law_526 (by decide) ?_
    refine lv_iadd hx hb dL_law_527 ?_
    refine lv_topi (fun z_5 ez_5 => ?_)
    obtain rfl : z_5 = nI (i + 1) := ez_5.trans (nI_add i 1)
    refine va_sld hx hb hX hbl hbA hS (vp_in_nI (by omega) (by omega)) dL_law_528 ?_
    refine lv_topi (fun z_6 ez_6 => ?_)
    rw [nI_clamp (by omega)] at ez_6
    subst ez_6
    refine lv_if_eq (tgt := 536) hx hb dL_law_529 (by decide) (fun c_7 => ?_) (fun c_7 => absurd c_3 c_7)
    refine lv_iconst (v := 0) hx hb dL_law_536 (by decide) ?_
    have hPc := hP.sub (ws' := [cM0 m0 m1 m2 m3 m4 m5 v, cM1 cI m1 v, cM2 cJ m2 v, cM3 cJ m3 v, cM4 cI m4 v, cM5 cI m5 v]) [17, 18, 19, 20, 21, 22] rfl
    have hDc := hD.sub (ws' := [cM0 m0 m1 m2 m3 m4 m5 v, cM1 cI m1 v, cM2 cJ m2 v, cM3 cJ m3 v, cM4 cI m4 v, cM5 cI m5 v]) [17, 18, 19, 20, 21, 22] (by decide) rfl
    have hFc := va_free (wc := [cM0 m0 m1 m2 m3 m4 m5 v, cM1 cI m1 v, cM2 cJ m2 v, cM3 cJ m3 v, cM4 cI m4 v, cM5 cI m5 v]) hD hS hA [17, 18, 19, 20, 21, 22] rfl
    refine va_calli (va_runV (As := [.int 0]) (rest := [.int (rX3_span 0 x g k tp pl)]) ⟨hx, hb, hml, hown, hts⟩ (kX4_span l dC dI cI cJ m0 m1 m2 m3 m4 m5 H.size 0 v) (cwV 1 hts gY_X4_span rfl rfl rfl (by decide +kernel) ⟨Nat.le_of_ble_eq_true rfl, Nat.le_of_ble_eq_true rfl⟩) ⟨fun a U g mk q => by obtain ⟨q0, q1, qP, qK, qD⟩ := q; exact ⟨q0, q1, qP, va_K.moved (u := U) (U := U.calling g mk a) (Vm.Alike.refl U.vm) qK, qD⟩, va_recv hK hPc (ci := 4) (q0 := 0) rfl rfl, fun U hU hW => ⟨rfl, by rw [hU], by rw [hU]; exact hPc, va_K.moved hW.alike hK, hDc.weaken (fun _ _ _ _ => trivial)⟩⟩ rfl rfl hl.1 rfl (lv_room (Nat.le_of_ble_eq_true rfl)) dL_law_537 ⟨(by show _ ≤ (1053 : Nat); omega), (by show _ ≤ (11950 : Nat); omega)⟩) hS (fun q _ h => hFc q h) hFc (fun r_8 _ t H1 locs ht hvm hw hB hz1 hk1 hS => ?_)
    obtain ⟨hP1, hK1, hD1⟩ := hB
    rw [ht] at hP1
    obtain ⟨g_9, eg_9⟩ : ∃ z, z = sX4_span 0 v := ⟨_, rfl⟩
    rw [← eg_9] at hP1 hD1
    obtain ⟨hP, hD⟩ := va_join (wr := [cX0 h0 n0 k0 t0 p0 x, cL0 n0 n1 n2 n3 g, cL1 cJ n1 g, cL2 cI n2 g, cL3 cI n3 g, cL0 k0 k1 k2 k3 k, cL1 cJ k1 k, cL2 cI k2 k, cL3 cI k3 k, cT0 t0 t1 tp, cT1 cI t1 tp, cP0 p0 p1 p2 p3 p4 p5 pl, cP1 cI p1 pl, cP2 cI p2 pl, cP3 cI p3 pl, cP4 cI p4 pl, cP5 cI p5 pl, (o0, .inl (cJ, 1, .inr (.inl f)))]) (w1 := [cM0 m0 m1 m2 m3 m4 m5 g_9, cM1 cI m1 g_9, cM2 cJ m2 g_9, cM3 cJ m3 g_9, cM4 cI m4 g_9, cM5 cI m5 g_9]) hP hD [17, 18, 19, 20, 21, 22] [0, 1, 2, 3, 4, 5, 6, 7, 8, 9, 10, 11, 12, 13, 14, 15, 16, 23] rfl rfl (by decide) (by decide) hk1 hFc hP1 hD1
    generalize H1 = H at hP hS ⊢
    have hP := hP.sub (ws' := [cX0 h0 n0 k0 t0 p0 x, cL0 n0 n1 n2 n3 g, cL1 cJ n1 g, cL2 cI n2 g, cL3 cI n3 g, cL0 k0 k1 k2 k3 k, cL1 cJ k1 k, cL2 cI k2 k, cL3 cI k3 k, cT0 t0 t1 tp, cT1 cI t1 tp, cP0 p0 p1 p2 p3 p4 p5 pl, cP1 cI p1 pl, cP2 cI p2 pl, cP3 cI p3 pl, cP4 cI p4 pl, cP5 cI p5 pl, cM0 m0 m1 m2 m3 m4 m5 g_9, cM1 cI m1 g_9, cM2 cJ m2 g_9, cM3 cJ m3 g_9, cM4 cI m4 g_9, cM5 cI m5 g_9, (o0, .inl (cJ, 1, .inr (.inl f)))]) [0, 1, 2, 3, 4, 5, 6, 7, 8, 9, 10, 11, 12, 13, 14, 15, 16, 18, 19, 20, 21, 22, 23, 17] rfl
    have hD := hD.sub (ws' := [cX0 h0 n0 k0 t0 p0 x, cL0 n0 n1 n2 n3 g, cL1 cJ n1 g, cL2 cI n2 g, cL3 cI n3 g, cL0 k0 k1 k2 k3 k, cL1 cJ k1 k, cL2 cI k2 k, cL3 cI k3 k, cT0 t0 t1 tp, cT1 cI t1 tp, cP0 p0 p1 p2 p3 p4 p5 pl, cP1 cI p1 pl, cP2 cI p2 pl, cP3 cI p3 pl, cP4 cI p4 pl, cP5 cI p5 pl, cM0 m0 m1 m2 m3 m4 m5 g_9, cM1 cI m1 g_9, cM2 cJ m2 g_9, cM3 cJ m3 g_9, cM4 cI m4 g_9, cM5 cI m5 g_9, (o0, .inl (cJ, 1, .inr (.inl f)))]) [0, 1, 2, 3, 4, 5, 6, 7, 8, 9, 10, 11, 12, 13, 14, 15, 16, 18, 19, 20, 21, 22, 23, 17] (by decide) rfl
    subst hw
    refine lv_icmp_eq (tgt := 991) hx hb dL_law_540 (by decide) (fun c_10 => ?_) (fun c_10 => absurd (R_span hR hn _).1 c_10)
    subst eg_9
    refine W.widen (k := cells + 1) (n := slots + 6) (by omega) (by omega) ?_
    exact kk _ _ _ _ _ _ _ _ _ _ (R_span hR hn _).2 hP hD hS (lv_sub hl [0, 1, 2, 3, 4] rfl)
  · refine lv_iconst (v := 1) hx hb dL_law_514 (by decide) ?_
    refine lv_goto (tgt := 519) hx hb dL_law_515 (by decide) ?_
    have hPc := hP.sub (ws' := [cX0 h0 n0 k0 t0 p0 x, cL0 n0 n1 n2 n3 g, cL1 cJ n1 g, cL2 cI n2 g, cL3 cI n3 g, cL0 k0 k1 k2 k3 k, cL1 cJ k1 k, cL2 cI k2 k, cL3 cI k3 k, cT0 t0 t1 tp, cT1 cI t1 tp, cP0 p0 p1 p2 p3 p4 p5 pl, cP1 cI p1 pl, cP2 cI p2 pl, cP3 cI p3 pl, cP4 cI p4 pl, cP5 cI p5 pl]) [0, 1, 2, 3, 4, 5, 6, 7, 8, 9, 10, 11, 12, 13, 14, 15, 16] rfl
    have hDc := hD.sub (ws' := [cX0 h0 n0 k0 t0 p0 x, cL0 n0 n1 n2 n3 g, cL1 cJ n1 g, cL2 cI n2 g, cL3 cI n3 g, cL0 k0 k1 k2 k3 k, cL1 cJ k1 k, cL2 cI k2 k, cL3 cI k3 k, cT0 t0 t1 tp, cT1 cI t1 tp, cP0 p0 p1 p2 p3 p4 p5 pl, cP1 cI p1 pl, cP2 cI p2 pl, cP3 cI p3 pl, cP4 cI p4 pl, cP5 cI p5 pl]) [0, 1, 2, 3, 4, 5, 6, 7, 8, 9, 10, 11, 12, 13, 14, 15, 16] (by decide) rfl
    have hFc := va_free (wc := [cX0 h0 n0 k0 t0 p0 x, cL0 n0 n1 n2 n3 g, cL1 cJ n1 g, cL2 cI n2 g, cL3 cI n3 g, cL0 k0 k1 k2 k3 k, cL1 cJ k1 k, cL2 cI k2 k, cL3 cI k3 k, cT0 t0 t1 tp, cT1 cI t1 tp, cP0 p0 p1 p2 p3 p4 p5 pl, cP1 cI p1 pl, cP2 cI p2 pl, cP3 cI p3 pl, cP4 cI p4 pl, cP5 cI p5 pl]) hD hS hA [0, 1, 2, 3, 4, 5, 6, 7, 8, 9, 10, 11, 12, 13, 14, 15, 16] rfl
    refine va_calli (va_runV (As := [.int 1]) (rest := []) ⟨hx, hb, hml, hown, hts⟩ (kX3_span l dC dI cI cJ h0 n0 k0 t0 p0 n1 n2 n3 k1 k2 k3 t1 p1 p2 p3 p4 p5 H.size 1 x g k tp pl) (cwV 1 hts gY_X3_span rfl rfl rfl (by decide +kernel) ⟨Nat.le_of_ble_eq_true rfl, Nat.le_of_ble_eq_true rfl⟩) ⟨fun a U g mk q => by obtain ⟨q0, q1, qP, qK, qD, qN⟩ := q; exact ⟨q0, q1, qP, va_K.moved (u := U) (U := U.calling g mk a) (Vm.Alike.refl U.vm) qK, qD, nw_same (s := U) (U := U.calling g mk a) rfl qN⟩, va_recv hK hPc (ci := 3) (q0 := 0) rfl rfl, fun U hU hW => ⟨rfl, by rw [hU], by rw [hU]; exact hPc, va_K.moved hW.alike hK, hDc.weaken (fun _ _ _ _ => trivial), nw_warm hW hN⟩⟩ rfl rfl hl.1 rfl (lv_room (Nat.le_of_ble_eq_true rfl)) dL_law_519 ⟨(by show _ ≤ (1053 : Nat); omega), (by show _ ≤ (11950 : Nat); omega)⟩) hS (fun q _ h => hFc q h) hFc (fun r_11 _ t H1 locs ht hvm hw hB hz1 hk1 hS => ?_)
    obtain ⟨hP1, hK1, hD1⟩ := hB
    rw [ht] at hP1
    obtain ⟨hP, hD⟩ := va_join (wr := [cM0 m0 m1 m2 m3 m4 m5 v, cM1 cI m1 v, cM2 cJ m2 v, cM3 cJ m3 v, cM4 cI m4 v, cM5 cI m5 v, (o0, .inl (cJ, 1, .inr (.inl f)))]) (w1 := [cX0 h0 n0 k0 t0 p0 x, cL0 n0 n1 n2 n3 g, cL1 cJ n1 g, cL2 cI n2 g, cL3 cI n3 g, cL0 k0 k1 k2 k3 k, cL1 cJ k1 k, cL2 cI k2 k, cL3 cI k3 k, cT0 t0 t1 tp, cT1 cI t1 tp, cP0 p0 p1 p2 p3 p4 p5 pl, cP1 cI p1 pl, cP2 cI p2 pl, cP3 cI p3 pl, cP4 cI p4 pl, cP5 cI p5 pl]) hP hD [0, 1, 2, 3, 4, 5, 6, 7, 8, 9, 10, 11, 12, 13, 14, 15, 16] [17, 18, 19, 20, 21, 22, 23] rfl rfl (by decide) (by decide) hk1 hFc hP1 hD1
    generalize H1 = H at hP hS ⊢
    have hP := hP.sub (ws' := [cX0 h0 n0 k0 t0 p0 x, cL0 n0 n1 n2 n3 g, cL1 cJ n1 g, cL2 cI n2 g, cL3 cI n3 g, cL0 k0 k1 k2 k3 k, cL1 cJ k1 k, cL2 cI k2 k, cL3 cI k3 k, cT0 t0 t1 tp, cT1 cI t1 tp, cP0 p0 p1 p2 p3 p4 p5 pl, cP1 cI p1 pl, cP2 cI p2 pl, cP3 cI p3 pl, cP4 cI p4 pl, cP5 cI p5 pl, cM0 m0 m1 m2 m3 m4 m5 v, cM1 cI m1 v, cM2 cJ m2 v, cM3 cJ m3 v, cM4 cI m4 v, cM5 cI m5 v, (o0, .inl (cJ, 1, .inr (.inl f)))]) [7, 8, 9, 10, 11, 12, 13, 14, 15, 16, 17, 18, 19, 20, 21, 22, 23, 0, 1, 2, 3, 4, 5, 6] rfl
    have hD := hD.sub (ws' := [cX0 h0 n0 k0 t0 p0 x, cL0 n0 n1 n2 n3 g, cL1 cJ n1 g, cL2 cI n2 g, cL3 cI n3 g, cL0 k0 k1 k2 k3 k, cL1 cJ k1 k, cL2 cI k2 k, cL3 cI k3 k, cT0 t0 t1 tp, cT1 cI t1 tp, cP0 p0 p1 p2 p3 p4 p5 pl, cP1 cI p1 pl, cP2 cI p2 pl, cP3 cI p3 pl, cP4 cI p4 pl, cP5 cI p5 pl, cM0 m0 m1 m2 m3 m4 m5 v, cM1 cI m1 v, cM2 cJ m2 v, cM3 cJ m3 v, cM4 cI m4 v, cM5 cI m5 v, (o0, .inl (cJ, 1, .inr (.inl f)))]) [7, 8, 9, 10, 11, 12, 13, 14, 15, 16, 17, 18, 19, 20, 21, 22, 23, 0, 1, 2, 3, 4, 5, 6] (by decide) rfl
    subst hw
    refine lv_aload_n hx hb dL_law_522 rfl (lv_at hl 2 rfl) ?_
    refine lv_aload_n hx hb dL_law_523 rfl (lv_at hl 0 rfl) ?_
    refine lv_iload hx hb dL_law_524 (lv_at hl 4 rfl) ?_
    refine lv_iconst (v := 1) hx hb dL_law_526 (by decide) ?_
    refine lv_iadd hx hb dL_law_527 ?_
    refine lv_topi (fun z_12 ez_12 => ?_)
    obtain rfl : z_12 = nI (i + 1) := ez_12.trans (nI_add i 1)
    refine va_sld hx hb hX hbl hbA hS (vp_in_nI (by omega) (by omega)) dL_law_528 ?_
    refine lv_topi (fun z_13 ez_13 => ?_)
    rw [nI_clamp (by omega)] at ez_13
    subst ez_13
    refine lv_if_eq (tgt := 536) hx hb dL_law_529 (by decide) (fun c_14 => absurd c_14 c_3) (fun c_14 => ?_)
    refine lv_iconst (v := 1) hx hb dL_law_532 (by decide) ?_
    refine lv_goto (tgt := 537) hx hb dL_law_533 (by decide) ?_
    have hPc := hP.sub (ws' := [cM0 m0 m1 m2 m3 m4 m5 v, cM1 cI m1 v, cM2 cJ m2 v, cM3 cJ m3 v, cM4 cI m4 v, cM5 cI m5 v]) [17, 18, 19, 20, 21, 22] rfl
    have hDc := hD.sub (ws' := [cM0 m0 m1 m2 m3 m4 m5 v, cM1 cI m1 v, cM2 cJ m2 v, cM3 cJ m3 v, cM4 cI m4 v, cM5 cI m5 v]) [17, 18, 19, 20, 21, 22] (by decide) rfl
    have hFc := va_free (wc := [cM0 m0 m1 m2 m3 m4 m5 v, cM1 cI m1 v, cM2 cJ m2 v, cM3 cJ m3 v, cM4 cI m4 v, cM5 cI m5 v]) hD hS hA [17, 18, 19, 20, 21, 22] rfl
    refine va_calli (va_runV (As := [.int 1]) (rest := [.int (rX3_span 1 x g k tp pl)]) ⟨hx, hb, hml, hown, hts⟩ (kX4_span l dC dI cI cJ m0 m1 m2 m3 m4 m5 H.size 1 v) (cwV 1 hts gY_X4_span rfl rfl rfl (by decide +kernel) ⟨Nat.le_of_ble_eq_true rfl, Nat.le_of_ble_eq_true rfl⟩) ⟨fun a U g mk q => by obtain ⟨q0, q1, qP, qK, qD⟩ := q; exact ⟨q0, q1, qP, va_K.moved (u := U) (U := U.calling g mk a) (Vm.Alike.refl U.vm) qK, qD⟩, va_recv hK hPc (ci := 4) (q0 := 0) rfl rfl, fun U hU hW => ⟨rfl, by rw [hU], by rw [hU]; exact hPc, va_K.moved hW.alike hK, hDc.weaken (fun _ _ _ _ => trivial)⟩⟩ rfl rfl hl.1 rfl (lv_room (Nat.le_of_ble_eq_true rfl)) dL_law_537 ⟨(by show _ ≤ (1053 : Nat); omega), (by show _ ≤ (11950 : Nat); omega)⟩) hS (fun q _ h => hFc q h) hFc (fun r_15 _ t H1 locs ht hvm hw hB hz1 hk1 hS => ?_)
    obtain ⟨hP1, hK1, hD1⟩ := hB
    rw [ht] at hP1
    obtain ⟨g_16, eg_16⟩ : ∃ z, z = sX4_span 1 v := ⟨_, rfl⟩
    rw [← eg_16] at hP1 hD1
    obtain ⟨hP, hD⟩ := va_join (wr := [cX0 h0 n0 k0 t0 p0 x, cL0 n0 n1 n2 n3 g, cL1 cJ n1 g, cL2 cI n2 g, cL3 cI n3 g, cL0 k0 k1 k2 k3 k, cL1 cJ k1 k, cL2 cI k2 k, cL3 cI k3 k, cT0 t0 t1 tp, cT1 cI t1 tp, cP0 p0 p1 p2 p3 p4 p5 pl, cP1 cI p1 pl, cP2 cI p2 pl, cP3 cI p3 pl, cP4 cI p4 pl, cP5 cI p5 pl, (o0, .inl (cJ, 1, .inr (.inl f)))]) (w1 := [cM0 m0 m1 m2 m3 m4 m5 g_16, cM1 cI m1 g_16, cM2 cJ m2 g_16, cM3 cJ m3 g_16, cM4 cI m4 g_16, cM5 cI m5 g_16]) hP hD [17, 18, 19, 20, 21, 22] [0, 1, 2, 3, 4, 5, 6, 7, 8, 9, 10, 11, 12, 13, 14, 15, 16, 23] rfl rfl (by decide) (by decide) hk1 hFc hP1 hD1
    generalize H1 = H at hP hS ⊢
    have hP := hP.sub (ws' := [cX0 h0 n0 k0 t0 p0 x, cL0 n0 n1 n2 n3 g, cL1 cJ n1 g, cL2 cI n2 g, cL3 cI n3 g, cL0 k0 k1 k2 k3 k, cL1 cJ k1 k, cL2 cI k2 k, cL3 cI k3 k, cT0 t0 t1 tp, cT1 cI t1 tp, cP0 p0 p1 p2 p3 p4 p5 pl, cP1 cI p1 pl, cP2 cI p2 pl, cP3 cI p3 pl, cP4 cI p4 pl, cP5 cI p5 pl, cM0 m0 m1 m2 m3 m4 m5 g_16, cM1 cI m1 g_16, cM2 cJ m2 g_16, cM3 cJ m3 g_16, cM4 cI m4 g_16, cM5 cI m5 g_16, (o0, .inl (cJ, 1, .inr (.inl f)))]) [0, 1, 2, 3, 4, 5, 6, 7, 8, 9, 10, 11, 12, 13, 14, 15, 16, 18, 19, 20, 21, 22, 23, 17] rfl
    have hD := hD.sub (ws' := [cX0 h0 n0 k0 t0 p0 x, cL0 n0 n1 n2 n3 g, cL1 cJ n1 g, cL2 cI n2 g, cL3 cI n3 g, cL0 k0 k1 k2 k3 k, cL1 cJ k1 k, cL2 cI k2 k, cL3 cI k3 k, cT0 t0 t1 tp, cT1 cI t1 tp, cP0 p0 p1 p2 p3 p4 p5 pl, cP1 cI p1 pl, cP2 cI p2 pl, cP3 cI p3 pl, cP4 cI p4 pl, cP5 cI p5 pl, cM0 m0 m1 m2 m3 m4 m5 g_16, cM1 cI m1 g_16, cM2 cJ m2 g_16, cM3 cJ m3 g_16, cM4 cI m4 g_16, cM5 cI m5 g_16, (o0, .inl (cJ, 1, .inr (.inl f)))]) [0, 1, 2, 3, 4, 5, 6, 7, 8, 9, 10, 11, 12, 13, 14, 15, 16, 18, 19, 20, 21, 22, 23, 17] (by decide) rfl
    subst hw
    refine lv_icmp_eq (tgt := 991) hx hb dL_law_540 (by decide) (fun c_17 => ?_) (fun c_17 => absurd (R_span hR hn _).1 c_17)
    subst eg_16
    refine W.widen (k := cells + 1) (n := slots + 6) (by omega) (by omega) ?_
    exact kk _ _ _ _ _ _ _ _ _ _ (R_span hR hn _).2 hP hD hS (lv_sub hl [0, 1, 2, 3, 4] rfl)

set_option maxHeartbeats 4000000 in
set_option maxRecDepth 100000 in
theorem lc_mark {p : Program} {l : Launch} {e : Env} {s : State} {m : MethodId} {below : List Frame} {meth : Method} {c : Code} {A : Nat → Prop} {dC : Nat → ClassId} {dI : Nat → Nat → Nat} {cI cJ : ClassId} {b L : Nat} {xs : Nat → Int32} {h0 n0 k0 t0 p0 n1 n2 n3 k1 k2 k3 t1 p1 p2 p3 p4 p5 m0 m1 m2 m3 m4 m5 o0 : Nat} {cells slots n i : Nat} {x : XC} {g k : LG} {tp : TP} {pl : PL} {v : MS} {f : Nat → Int64} (C1 : lwC p s m c A dC dI cI cJ b L xs) (hL : L ≤ 3072) (hl9 : l.stackTraces = false) (hn : n ≤ 600) (hi : i + 6 ≤ L) (hc : cells + 1 ≤ 1053) (hs : slots + 6 ≤ 11950) (hR : RR n x g k tp pl v) (kk : ∀ (x : XC) (g k : LG) (tp : TP) (pl : PL) (v : MS) (f : Nat → Int64) (H : Heap) (locs : List Loc) (ls : Array Slot), RR (n + 1) x g k tp pl v → va_P (dC, dI) vwCl [cX0 h0 n0 k0 t0 p0 x, cL0 n0 n1 n2 n3 g, cL1 cJ n1 g, cL2 cI n2 g, cL3 cI n3 g, cL0 k0 k1 k2 k3 k, cL1 cJ k1 k, cL2 cI k2 k, cL3 cI k3 k, cT0 t0 t1 tp, cT1 cI t1 tp, cP0 p0 p1 p2 p3 p4 p5 pl, cP1 cI p1 pl, cP2 cI p2 pl, cP3 cI p3 pl, cP4 cI p4 pl, cP5 cI p5 pl, cM0 m0 m1 m2 m3 m4 m5 v, cM1 cI m1 v, cM2 cJ m2 v, cM3 cJ m3 v, cM4 cI m4 v, cM5 cI m5 v, (o0, .inl (cJ, 1, .inr (.inl f)))] H → va_D A [cX0 h0 n0 k0 t0 p0 x, cL0 n0 n1 n2 n3 g, cL1 cJ n1 g, cL2 cI n2 g, cL3 cI n3 g, cL0 k0 k1 k2 k3 k, cL1 cJ k1 k, cL2 cI k2 k, cL3 cI k3 k, cT0 t0 t1 tp, cT1 cI t1 tp, cP0 p0 p1 p2 p3 p4 p5 pl, cP1 cI p1 pl, cP2 cI p2 pl, cP3 cI p3 pl, cP4 cI p4 pl, cP5 cI p5 pl, cM0 m0 m1 m2 m3 m4 m5 v, cM1 cI m1 v, cM2 cJ m2 v, cM3 cJ m3 v, cM4 cI m4 v, cM5 cI m5 v, (o0, .inl (cJ, 1, .inr (.inl f)))] → va_S A s.heap H locs → lv_has ls 8 [(0, .ref b), (1, .ref h0), (2, .ref m0), (3, .ref o0), (4, .int (nI i))] → W p l e room_1 s m #[Value.ref b] below meth c H locs (cells + 1) (slots + 6) (lw_Z below #[Value.ref b] s) (F0 m 991 ls [])) (H : Heap) (locs : List Loc) (ls : Array Slot) (hP : va_P (dC, dI) vwCl [cX0 h0 n0 k0 t0 p0 x, cL0 n0 n1 n2 n3 g, cL1 cJ n1 g, cL2 cI n2 g, cL3 cI n3 g, cL0 k0 k1 k2 k3 k, cL1 cJ k1 k, cL2 cI k2 k, cL3 cI k3 k, cT0 t0 t1 tp, cT1 cI t1 tp, cP0 p0 p1 p2 p3 p4 p5 pl, cP1 cI p1 pl, cP2 cI p2 pl, cP3 cI p3 pl, cP4 cI p4 pl, cP5 cI p5 pl, cM0 m0 m1 m2 m3 m4 m5 v, cM1 cI m1 v, cM2 cJ m2 v, cM3 cJ m3 v, cM4 cI m4 v, cM5 cI m5 v, (o0, .inl (cJ, 1, .inr (.inl f)))] H) (hD : va_D A [cX0 h0 n0 k0 t0 p0 x, cL0 n0 n1 n2 n3 g, cL1 cJ n1 g, cL2 cI n2 g, cL3 cI n3 g, cL0 k0 k1 k2 k3 k, cL1 cJ k1 k, cL2 cI k2 k, cL3 cI k3 k, cT0 t0 t1 tp, cT1 cI t1 tp, cP0 p0 p1 p2 p3 p4 p5 pl, cP1 cI p1 pl, cP2 cI p2 pl, cP3 cI p3 pl, cP4 cI p4 pl, cP5 cI p5 pl, cM0 m0 m1 m2 m3 m4 m5 v, cM1 cI m1 v, cM2 cJ m2 v, cM3 cJ m3 v, cM4 cI m4 v, cM5 cI m5 v, (o0, .inl (cJ, 1, .inr (.inl f)))]) (hS : va_S A s.heap H locs) (hl : lv_has ls 8 [(0, .ref b), (1, .ref h0), (2, .ref m0), (3, .ref o0), (4, .int (nI i))]) : W p l e room_1 s m #[Value.ref b] below meth c H locs cells slots (lw_Z below #[Value.ref b] s) (F0 m 545 ls []) := by
  obtain ⟨hx, hb, hml, hown, hts, hX, hbl, hbA, hA, hK, hN, hQ⟩ := C1
  refine lv_aload_n hx hb dL_law_545 rfl (lv_at hl 1 rfl) ?_
  refine lv_aload_n hx hb dL_law_546 rfl (lv_at hl 0 rfl) ?_
  refine lv_iload hx hb dL_law_547 (lv_at hl 4 rfl) ?_
  refine lv_iconst (v := 1) hx hb dL_law_549 (by decide) ?_
  refine lv_iadd hx hb dL_law_550 ?_
  refine lv_topi (fun z_1 ez_1 => ?_)
  obtain rfl : z_1 = nI (i + 1) := ez_1.trans (nI_add i 1)
  refine va_sld hx hb hX hbl hbA hS (vp_in_nI (by omega) (by omega)) dL_law_551 ?_
  refine lv_topi (fun z_2 ez_2 => ?_)
  rw [nI_clamp (by omega)] at ez_2
  subst ez_2
  refine lv_aload_n hx hb dL_law_552 rfl (lv_at hl 0 rfl) ?_
  refine lv_iload hx hb dL_law_553 (lv_at hl 4 rfl) ?_
  refine lv_iconst (v := 2) hx hb dL_law_555 (by decide) ?_
  refine lv_iadd hx hb dL_law_556 ?_
  refine lv_topi (fun z_3 ez_3 => ?_)
  obtain rfl : z_3 = nI (i + 2) := ez_3.trans (nI_add i 2)
  refine va_sld hx hb hX hbl hbA hS (vp_in_nI (by omega) (by omega)) dL_law_557 ?_
  refine lv_topi (fun z_4 ez_4 => ?_)
  rw [nI_clamp (by omega)] at ez_4
  subst ez_4
  refine lv_aload_n hx hb dL_law_558 rfl (lv_at hl 3 rfl) ?_
  have hPc := hP.sub (ws' := [cX0 h0 n0 k0 t0 p0 x, cL0 n0 n1 n2 n3 g, cL1 cJ n1 g, cL2 cI n2 g, cL3 cI n3 g, cL0 k0 k1 k2 k3 k, cL1 cJ k1 k, cL2 cI k2 k, cL3 cI k3 k, cT0 t0 t1 tp, cT1 cI t1 tp, cP0 p0 p1 p2 p3 p4 p5 pl, cP1 cI p1 pl, cP2 cI p2 pl, cP3 cI p3 pl, cP4 cI p4 pl, cP5 cI p5 pl, (o0, .inl (cJ, 1, .inr (.inl f)))]) [0, 1, 2, 3, 4, 5, 6, 7, 8, 9, 10, 11, 12, 13, 14, 15, 16, 23] rfl
  have hDc := hD.sub (ws' := [cX0 h0 n0 k0 t0 p0 x, cL0 n0 n1 n2 n3 g, cL1 cJ n1 g, cL2 cI n2 g, cL3 cI n3 g, cL0 k0 k1 k2 k3 k, cL1 cJ k1 k, cL2 cI k2 k, cL3 cI k3 k, cT0 t0 t1 tp, cT1 cI t1 tp, cP0 p0 p1 p2 p3 p4 p5 pl, cP1 cI p1 pl, cP2 cI p2 pl, cP3 cI p3 pl, cP4 cI p4 pl, cP5 cI p5 pl, (o0, .inl (cJ, 1, .inr (.inl f)))]) [0, 1, 2, 3, 4, 5, 6, 7, 8, 9, 10, 11, 12, 13, 14, 15, 16, 23] (by decide) rfl
  have hFc := va_free (wc := [cX0 h0 n0 k0 t0 p0 x, cL0 n0 n1 n2 n3 g, cL1 cJ n1 g, cL2 cI n2 g, cL3 cI n3 g, cL0 k0 k1 k2 k3 k, cL1 cJ k1 k, cL2 cI k2 k, cL3 cI k3 k, cT0 t0 t1 tp, cT1 cI t1 tp, cP0 p0 p1 p2 p3 p4 p5 pl, cP1 cI p1 pl, cP2 cI p2 pl, cP3 cI p3 pl, cP4 cI p4 pl, cP5 cI p5 pl, (o0, .inl (cJ, 1, .inr (.inl f)))]) hD hS hA [0, 1, 2, 3, 4, 5, 6, 7, 8, 9, 10, 11, 12, 13, 14, 15, 16, 23] rfl
  refine vx_calli (vx_runSX (As := [.ref h0, .int (xs (i + 1)), .int (xs (i + 2)), .ref o0]) (rest := []) ⟨hx, hb, hml, hown, hts⟩ (kL_mark l hl9 dC dI cI cJ h0 n0 k0 t0 p0 n1 n2 n3 k1 k2 k3 t1 p1 p2 p3 p4 p5 o0 H.size (xs (i + 1)) (xs (i + 2)) x g k tp pl f) (vx_cwSW 4 hts gY_L_mark rfl rfl rfl (by decide +kernel) ⟨Nat.le_of_ble_eq_true rfl, Nat.le_of_ble_eq_true rfl⟩) ⟨fun a U g mk q => by obtain ⟨q0, q1, qP, qK, qD, qN, qX⟩ := q; exact ⟨q0, q1, qP, va_K.moved (u := U) (U := U.calling g mk a) (Vm.Alike.refl U.vm) qK, qD, nw_same (s := U) (U := U.calling g mk a) rfl qN, qX.same (u := U) (U := U.calling g mk a) rfl rfl⟩, fun U hU hW => ⟨rfl, by rw [hU], by rw [hU]; exact hPc, va_K.moved hW.alike hK, hDc.weaken (fun _ _ _ _ => trivial), nw_warm hW hN, hQ.at hS hU hW hFc⟩⟩ rfl rfl hl.1 rfl (lv_room (Nat.le_of_ble_eq_true rfl)) dL_law_559 ⟨(by show _ ≤ (1053 : Nat); omega), (by show _ ≤ (11950 : Nat); omega)⟩) hS (fun q _ h => hFc q h) hFc (fun q _ h => hFc q h) (fun _ _ _ _ _ _ _ _ _ hw => hw.elim) (fun r_9 _ t H1 locs ht hvm hw hB hz1 hk1 hS => ?_)
  obtain ⟨hP1, hK1, hD1⟩ := hB
  rw [ht] at hP1
  obtain ⟨hP, hD⟩ := va_join (wr := [cM0 m0 m1 m2 m3 m4 m5 v, cM1 cI m1 v, cM2 cJ m2 v, cM3 cJ m3 v, cM4 cI m4 v, cM5 cI m5 v]) (w1 := [cX0 h0 n0 k0 t0 p0 x, cL0 n0 n1 n2 n3 g, cL1 cJ n1 g, cL2 cI n2 g, cL3 cI n3 g, cL0 k0 k1 k2 k3 k, cL1 cJ k1 k, cL2 cI k2 k, cL3 cI k3 k, cT0 t0 t1 tp, cT1 cI t1 tp, cP0 p0 p1 p2 p3 p4 p5 pl, cP1 cI p1 pl, cP2 cI p2 pl, cP3 cI p3 pl, cP4 cI p4 pl, cP5 cI p5 pl, (o0, .inl (cJ, 1, .inr (.inl (if tX3_mark (xs (i + 1)) (xs (i + 2)) x g k tp pl = 0 then vp_updL f 0 (rX3_mark (xs (i + 1)) (xs (i + 2)) x g k tp pl) else f))))]) hP hD [0, 1, 2, 3, 4, 5, 6, 7, 8, 9, 10, 11, 12, 13, 14, 15, 16, 23] [17, 18, 19, 20, 21, 22] rfl rfl (by decide) (by decide) hk1 hFc hP1 hD1
  generalize H1 = H at hP hS ⊢
  have hP := hP.sub (ws' := [cX0 h0 n0 k0 t0 p0 x, cL0 n0 n1 n2 n3 g, cL1 cJ n1 g, cL2 cI n2 g, cL3 cI n3 g, cL0 k0 k1 k2 k3 k, cL1 cJ k1 k, cL2 cI k2 k, cL3 cI k3 k, cT0 t0 t1 tp, cT1 cI t1 tp, cP0 p0 p1 p2 p3 p4 p5 pl, cP1 cI p1 pl, cP2 cI p2 pl, cP3 cI p3 pl, cP4 cI p4 pl, cP5 cI p5 pl, cM0 m0 m1 m2 m3 m4 m5 v, cM1 cI m1 v, cM2 cJ m2 v, cM3 cJ m3 v, cM4 cI m4 v, cM5 cI m5 v, (o0, .inl (cJ, 1, .inr (.inl (if tX3_mark (xs (i + 1)) (xs (i + 2)) x g k tp pl = 0 then vp_updL f 0 (rX3_mark (xs (i + 1)) (xs (i + 2)) x g k tp pl) else f))))]) [6, 7, 8, 9, 10, 11, 12, 13, 14, 15, 16, 17, 18, 19, 20, 21, 22, 0, 1, 2, 3, 4, 5, 23] rfl
  have hD := hD.sub (ws' := [cX0 h0 n0 k0 t0 p0 x, cL0 n0 n1 n2 n3 g, cL1 cJ n1 g, cL2 cI n2 g, cL3 cI n3 g, cL0 k0 k1 k2 k3 k, cL1 cJ k1 k, cL2 cI k2 k, cL3 cI k3 k, cT0 t0 t1 tp, cT1 cI t1 tp, cP0 p0 p1 p2 p3 p4 p5 pl, cP1 cI p1 pl, cP2 cI p2 pl, cP3 cI p3 pl, cP4 cI p4 pl, cP5 cI p5 pl, cM0 m0 m1 m2 m3 m4 m5 v, cM1 cI m1 v, cM2 cJ m2 v, cM3 cJ m3 v, cM4 cI m4 v, cM5 cI m5 v, (o0, .inl (cJ, 1, .inr (.inl (if tX3_mark (xs (i + 1)) (xs (i + 2)) x g k tp pl = 0 then vp_updL f 0 (rX3_mark (xs (i + 1)) (xs (i + 2)) x g k tp pl) else f))))]) [6, 7, 8, 9, 10, 11, 12, 13, 14, 15, 16, 17, 18, 19, 20, 21, 22, 0, 1, 2, 3, 4, 5, 23] (by decide) rfl
  subst hw
  refine lv_istore (lv' := [(5, .int (tX3_mark (xs (i + 1)) (xs (i + 2)) x g k tp pl)), (0, .ref b), (1, .ref h0), (2, .ref m0), (3, .ref o0), (4, .int (nI i))]) hx hb dL_law_562 hl (by decide) rfl (fun ls hl => ?_)
  refine lv_aload_n hx hb dL_law_564 rfl (lv_at hl 3 rfl) ?_
  refine lv_aload_n hx hb dL_law_565 rfl (lv_at hl 1 rfl) ?_
  refine lv_iload hx hb dL_law_566 (lv_at hl 5 rfl) ?_
  refine lv_iconst (v := 1) hx hb dL_law_568 (by decide) ?_
  refine lv_iadd hx hb dL_law_569 ?_
  refine lv_topi (fun z_5 ez_5 => ?_)
  obtain rfl : z_5 = nI (i + 1) := ez_5.trans (nI_add i 1)
  refine va_sld hx hb hX hbl hbA hS (vp_in_nI (by omega) (by omega)) dL_law_570 ?_
  refine lv_topi (fun z_6 ez_6 => ?_)
  rw [nI_clamp (by omega)] at ez_6
  subst ez_6
  refine lv_aload_n hx hb dL_law_571 rfl (lv_at hl 1 rfl) ?_
  refine lv_iload hx hb dL_law_572 (lv_at hl 5 rfl) ?_
  refine lv_iconst (v := 2) hx hb dL_law_574 (by decide) ?_
  refine lv_iadd hx hb dL_law_575 ?_
  refine lv_topi (fun z_7 ez_7 => ?_)
  obtain rfl : z_7 = nI (i + 2) := ez_7.trans (nI_add i 2)
  refine va_sld hx hb hX hbl hbA hS (vp_in_nI (by omega) (by omega)) dL_law_576 ?_
  refine lv_topi (fun z_8 ez_8 => ?_)
  rw [nI_clamp (by omega)] at ez_8
  subst ez_8
  have hPc := hP.sub (ws' := [cM0 m0 m1 m2 m3 m4 m5 v, cM1 cI m1 v, cM2 cJ m2 v, cM3 cJ m3 v, cM4 cI m4 v, cM5 cI m5 v]) [17, 18, 19, 20, 21, 22] rfl
  have hDc := hD.sub (ws' := [cM0 m0 m1 m2 m3 m4 m5 v, cM1 cI m1 v, cM2 cJ m2 v, cM3 cJ m3 v, cM4 cI m4 v, cM5 cI m5 v]) [17, 18, 19, 20, 21, 22] (by decide) rfl
  have hFc := va_free (wc := [cM0 m0 m1 m2 m3 m4 m5 v, cM1 cI m1 v, cM2 cJ m2 v, cM3 cJ m3 v, cM4 cI m4 v, cM5 cI m5 v]) hD hS hA [17, 18, 19, 20, 21, 22] rfl
  refine va_calll (va_runV (As := [.int (xs (i + 1)), .int (xs (i + 2))]) (rest := []) ⟨hx, hb, hml, hown, hts⟩ (kX4_mark l dC dI cI cJ m0 m1 m2 m3 m4 m5 H.size (xs (i + 1)) (xs (i + 2)) v) (cwV 2 hts gY_X4_mark rfl rfl rfl (by decide +kernel) ⟨Nat.le_of_ble_eq_true rfl, Nat.le_of_ble_eq_true rfl⟩) ⟨fun a U g mk q => by obtain ⟨q0, q1, qP, qK, qD⟩ := q; exact ⟨q0, q1, qP, va_K.moved (u := U) (U := U.calling g mk a) (Vm.Alike.refl U.vm) qK, qD⟩, va_recv hK hPc (ci := 4) (q0 := 0) rfl rfl, fun U hU hW => ⟨rfl, by rw [hU], by rw [hU]; exact hPc, va_K.moved hW.alike hK, hDc.weaken (fun _ _ _ _ => trivial)⟩⟩ rfl rfl hl.1 rfl (lv_room (Nat.le_of_ble_eq_true rfl)) dL_law_577 ⟨(by show _ ≤ (1053 : Nat); omega), (by show _ ≤ (11950 : Nat); omega)⟩) hS (fun q _ h => hFc q h) hFc (fun r_9 _ t H1 locs ht hvm hw hB hz1 hk1 hS => ?_)
  obtain ⟨hP1, hK1, hD1⟩ := hB
  rw [ht] at hP1
  obtain ⟨g_10, eg_10⟩ : ∃ z, z = sX4_mark (xs (i + 1)) (xs (i + 2)) v := ⟨_, rfl⟩
  rw [← eg_10] at hP1 hD1
  obtain ⟨hP, hD⟩ := va_join (wr := [cX0 h0 n0 k0 t0 p0 x, cL0 n0 n1 n2 n3 g, cL1 cJ n1 g, cL2 cI n2 g, cL3 cI n3 g, cL0 k0 k1 k2 k3 k, cL1 cJ k1 k, cL2 cI k2 k, cL3 cI k3 k, cT0 t0 t1 tp, cT1 cI t1 tp, cP0 p0 p1 p2 p3 p4 p5 pl, cP1 cI p1 pl, cP2 cI p2 pl, cP3 cI p3 pl, cP4 cI p4 pl, cP5 cI p5 pl, (o0, .inl (cJ, 1, .inr (.inl (if tX3_mark (xs (i + 1)) (xs (i + 2)) x g k tp pl = 0 then vp_updL f 0 (rX3_mark (xs (i + 1)) (xs (i + 2)) x g k tp pl) else f))))]) (w1 := [cM0 m0 m1 m2 m3 m4 m5 g_10, cM1 cI m1 g_10, cM2 cJ m2 g_10, cM3 cJ m3 g_10, cM4 cI m4 g_10, cM5 cI m5 g_10]) hP hD [17, 18, 19, 20, 21, 22] [0, 1, 2, 3, 4, 5, 6, 7, 8, 9, 10, 11, 12, 13, 14, 15, 16, 23] rfl rfl (by decide) (by decide) hk1 hFc hP1 hD1
  generalize H1 = H at hP hS ⊢
  have hP := hP.sub (ws' := [cX0 h0 n0 k0 t0 p0 x, cL0 n0 n1 n2 n3 g, cL1 cJ n1 g, cL2 cI n2 g, cL3 cI n3 g, cL0 k0 k1 k2 k3 k, cL1 cJ k1 k, cL2 cI k2 k, cL3 cI k3 k, cT0 t0 t1 tp, cT1 cI t1 tp, cP0 p0 p1 p2 p3 p4 p5 pl, cP1 cI p1 pl, cP2 cI p2 pl, cP3 cI p3 pl, cP4 cI p4 pl, cP5 cI p5 pl, cM0 m0 m1 m2 m3 m4 m5 g_10, cM1 cI m1 g_10, cM2 cJ m2 g_10, cM3 cJ m3 g_10, cM4 cI m4 g_10, cM5 cI m5 g_10, (o0, .inl (cJ, 1, .inr (.inl (if tX3_mark (xs (i + 1)) (xs (i + 2)) x g k tp pl = 0 then vp_updL f 0 (rX3_mark (xs (i + 1)) (xs (i + 2)) x g k tp pl) else f))))]) [0, 1, 2, 3, 4, 5, 6, 7, 8, 9, 10, 11, 12, 13, 14, 15, 16, 18, 19, 20, 21, 22, 23, 17] rfl
  have hD := hD.sub (ws' := [cX0 h0 n0 k0 t0 p0 x, cL0 n0 n1 n2 n3 g, cL1 cJ n1 g, cL2 cI n2 g, cL3 cI n3 g, cL0 k0 k1 k2 k3 k, cL1 cJ k1 k, cL2 cI k2 k, cL3 cI k3 k, cT0 t0 t1 tp, cT1 cI t1 tp, cP0 p0 p1 p2 p3 p4 p5 pl, cP1 cI p1 pl, cP2 cI p2 pl, cP3 cI p3 pl, cP4 cI p4 pl, cP5 cI p5 pl, cM0 m0 m1 m2 m3 m4 m5 g_10, cM1 cI m1 g_10, cM2 cJ m2 g_10, cM3 cJ m3 g_10, cM4 cI m4 g_10, cM5 cI m5 g_10, (o0, .inl (cJ, 1, .inr (.inl (if tX3_mark (xs (i + 1)) (xs (i + 2)) x g k tp pl = 0 then vp_updL f 0 (rX3_mark (xs (i + 1)) (xs (i + 2)) x g k tp pl) else f))))]) [0, 1, 2, 3, 4, 5, 6, 7, 8, 9, 10, 11, 12, 13, 14, 15, 16, 18, 19, 20, 21, 22, 23, 17] (by decide) rfl
  subst hw
  refine lv_lstore (lv' := [(6, .long (rX4_mark (xs (i + 1)) (xs (i + 2)) v)), (5, .int (tX3_mark (xs (i + 1)) (xs (i + 2)) x g k tp pl)), (0, .ref b), (1, .ref h0), (2, .ref m0), (3, .ref o0), (4, .int (nI i))]) hx hb dL_law_580 hl (by decide) rfl (fun ls hl => ?_)
  refine lv_aload_n hx hb dL_law_582 rfl (lv_at hl 4 rfl) ?_
  have hPc := hP.sub (ws' := [cM0 m0 m1 m2 m3 m4 m5 g_10, cM1 cI m1 g_10, cM2 cJ m2 g_10, cM3 cJ m3 g_10, cM4 cI m4 g_10, cM5 cI m5 g_10]) [17, 18, 19, 20, 21, 22] rfl
  have hDc := hD.sub (ws' := [cM0 m0 m1 m2 m3 m4 m5 g_10, cM1 cI m1 g_10, cM2 cJ m2 g_10, cM3 cJ m3 g_10, cM4 cI m4 g_10, cM5 cI m5 g_10]) [17, 18, 19, 20, 21, 22] (by decide) rfl
  have hFc := va_free (wc := [cM0 m0 m1 m2 m3 m4 m5 g_10, cM1 cI m1 g_10, cM2 cJ m2 g_10, cM3 cJ m3 g_10, cM4 cI m4 g_10, cM5 cI m5 g_10]) hD hS hA [17, 18, 19, 20, 21, 22] rfl
  refine va_calli (va_runV (As := []) (rest := []) ⟨hx, hb, hml, hown, hts⟩ (kX4_thrown l dC dI cI cJ m0 m1 m2 m3 m4 m5 H.size g_10) (cwV 0 hts gY_X4_thrown rfl rfl rfl (by decide +kernel) ⟨Nat.le_of_ble_eq_true rfl, Nat.le_of_ble_eq_true rfl⟩) ⟨fun a U g mk q => by obtain ⟨q0, q1, qP, qK, qD⟩ := q; exact ⟨q0, q1, qP, va_K.moved (u := U) (U := U.calling g mk a) (Vm.Alike.refl U.vm) qK, qD⟩, va_recv hK hPc (ci := 4) (q0 := 0) rfl rfl, fun U hU hW => ⟨rfl, by rw [hU], by rw [hU]; exact hPc, va_K.moved hW.alike hK, hDc.weaken (fun _ _ _ _ => trivial)⟩⟩ rfl rfl hl.1 rfl (lv_room (Nat.le_of_ble_eq_true rfl)) dL_law_583 ⟨(by show _ ≤ (1053 : Nat); omega), (by show _ ≤ (11950 : Nat); omega)⟩) hS (fun q _ h => hFc q h) hFc (fun r_11 _ t H1 locs ht hvm hw hB hz1 hk1 hS => ?_)
  obtain ⟨hP1, hK1, hD1⟩ := hB
  rw [ht] at hP1
  obtain ⟨hP, hD⟩ := va_join (wr := [cX0 h0 n0 k0 t0 p0 x, cL0 n0 n1 n2 n3 g, cL1 cJ n1 g, cL2 cI n2 g, cL3 cI n3 g, cL0 k0 k1 k2 k3 k, cL1 cJ k1 k, cL2 cI k2 k, cL3 cI k3 k, cT0 t0 t1 tp, cT1 cI t1 tp, cP0 p0 p1 p2 p3 p4 p5 pl, cP1 cI p1 pl, cP2 cI p2 pl, cP3 cI p3 pl, cP4 cI p4 pl, cP5 cI p5 pl, (o0, .inl (cJ, 1, .inr (.inl (if tX3_mark (xs (i + 1)) (xs (i + 2)) x g k tp pl = 0 then vp_updL f 0 (rX3_mark (xs (i + 1)) (xs (i + 2)) x g k tp pl) else f))))]) (w1 := [cM0 m0 m1 m2 m3 m4 m5 g_10, cM1 cI m1 g_10, cM2 cJ m2 g_10, cM3 cJ m3 g_10, cM4 cI m4 g_10, cM5 cI m5 g_10]) hP hD [17, 18, 19, 20, 21, 22] [0, 1, 2, 3, 4, 5, 6, 7, 8, 9, 10, 11, 12, 13, 14, 15, 16, 23] rfl rfl (by decide) (by decide) hk1 hFc hP1 hD1
  generalize H1 = H at hP hS ⊢
  have hP := hP.sub (ws' := [cX0 h0 n0 k0 t0 p0 x, cL0 n0 n1 n2 n3 g, cL1 cJ n1 g, cL2 cI n2 g, cL3 cI n3 g, cL0 k0 k1 k2 k3 k, cL1 cJ k1 k, cL2 cI k2 k, cL3 cI k3 k, cT0 t0 t1 tp, cT1 cI t1 tp, cP0 p0 p1 p2 p3 p4 p5 pl, cP1 cI p1 pl, cP2 cI p2 pl, cP3 cI p3 pl, cP4 cI p4 pl, cP5 cI p5 pl, cM0 m0 m1 m2 m3 m4 m5 g_10, cM1 cI m1 g_10, cM2 cJ m2 g_10, cM3 cJ m3 g_10, cM4 cI m4 g_10, cM5 cI m5 g_10, (o0, .inl (cJ, 1, .inr (.inl (if tX3_mark (xs (i + 1)) (xs (i + 2)) x g k tp pl = 0 then vp_updL f 0 (rX3_mark (xs (i + 1)) (xs (i + 2)) x g k tp pl) else f))))]) [0, 1, 2, 3, 4, 5, 6, 7, 8, 9, 10, 11, 12, 13, 14, 15, 16, 18, 19, 20, 21, 22, 23, 17] rfl
  have hD := hD.sub (ws' := [cX0 h0 n0 k0 t0 p0 x, cL0 n0 n1 n2 n3 g, cL1 cJ n1 g, cL2 cI n2 g, cL3 cI n3 g, cL0 k0 k1 k2 k3 k, cL1 cJ k1 k, cL2 cI k2 k, cL3 cI k3 k, cT0 t0 t1 tp, cT1 cI t1 tp, cP0 p0 p1 p2 p3 p4 p5 pl, cP1 cI p1 pl, cP2 cI p2 pl, cP3 cI p3 pl, cP4 cI p4 pl, cP5 cI p5 pl, cM0 m0 m1 m2 m3 m4 m5 g_10, cM1 cI m1 g_10, cM2 cJ m2 g_10, cM3 cJ m3 g_10, cM4 cI m4 g_10, cM5 cI m5 g_10, (o0, .inl (cJ, 1, .inr (.inl (if tX3_mark (xs (i + 1)) (xs (i + 2)) x g k tp pl = 0 then vp_updL f 0 (rX3_mark (xs (i + 1)) (xs (i + 2)) x g k tp pl) else f))))]) [0, 1, 2, 3, 4, 5, 6, 7, 8, 9, 10, 11, 12, 13, 14, 15, 16, 18, 19, 20, 21, 22, 23, 17] (by decide) rfl
  subst hw
  refine lv_iload hx hb dL_law_586 (lv_at hl 1 rfl) ?_
  refine lv_icmp_eq (tgt := 593) hx hb dL_law_588 (by decide) (fun c_12 => ?_) (fun c_12 => absurd (by rw [eg_10]; exact (R_mark hR hn _ _).1) c_12)
  refine lv_iload hx hb dL_law_593 (lv_at hl 1 rfl) ?_
  refine lv_if_ne (tgt := 609) hx hb dL_law_595 (by decide) (fun c_13 => ?_) (fun c_13 => ?_)
  · refine lv_goto (tgt := 991) hx hb dL_law_609 (by decide) ?_
    subst eg_10
    refine W.widen (k := cells + 1) (n := slots + 6) (by omega) (by omega) ?_
    exact kk _ _ _ _ _ _ _ _ _ _ (R_mark hR hn _ _).2.2 hP hD hS (lv_sub hl [2, 3, 4, 5, 6] rfl)
  · refine lv_aload_n hx hb dL_law_598 rfl (lv_at hl 5 rfl) ?_
    refine lv_iconst (v := 0) hx hb dL_law_599 (by decide) ?_
    refine va_lald hx hb hK hP 23 1 rfl rfl (vd (by decide +kernel)) dL_law_600 ?_
    refine lv_lload hx hb dL_law_601 (lv_at hl 0 rfl) ?_
    refine W.lcmp hx hb dL_law_603 ?_
    refine lv_if_eq (tgt := 609) hx hb dL_law_604 (by decide) (fun c_14 => ?_) (fun c_14 => absurd ((lg_cmp_eq _ _).mpr (by rw [if_pos c_13, show (0 : Int32).toNatClampNeg = 0 from by decide, pk_uLs]; exact (R_mark hR hn _ _).2.1 c_13)) c_14)
    refine lv_goto (tgt := 991) hx hb dL_law_609 (by decide) ?_
    subst eg_10
    refine W.widen (k := cells + 1) (n := slots + 6) (by omega) (by omega) ?_
    exact kk _ _ _ _ _ _ _ _ _ _ (R_mark hR hn _ _).2.2 hP hD hS (lv_sub hl [2, 3, 4, 5, 6] rfl)

set_option maxHeartbeats 4000000 in
set_option maxRecDepth 100000 in
theorem lc_metres {p : Program} {l : Launch} {e : Env} {s : State} {m : MethodId} {below : List Frame} {meth : Method} {c : Code} {A : Nat → Prop} {dC : Nat → ClassId} {dI : Nat → Nat → Nat} {cI cJ : ClassId} {b L : Nat} {xs : Nat → Int32} {h0 n0 k0 t0 p0 n1 n2 n3 k1 k2 k3 t1 p1 p2 p3 p4 p5 m0 m1 m2 m3 m4 m5 o0 : Nat} {cells slots n i : Nat} {x : XC} {g k : LG} {tp : TP} {pl : PL} {v : MS} {f : Nat → Int64} (C1 : lwC p s m c A dC dI cI cJ b L xs) (hL : L ≤ 3072) (hl9 : l.stackTraces = false) (hn : n ≤ 600) (hi : i + 6 ≤ L) (hc : cells + 1 ≤ 1053) (hs : slots + 6 ≤ 11950) (hR : RR n x g k tp pl v) (kk : ∀ (x : XC) (g k : LG) (tp : TP) (pl : PL) (v : MS) (f : Nat → Int64) (H : Heap) (locs : List Loc) (ls : Array Slot), RR (n + 1) x g k tp pl v → va_P (dC, dI) vwCl [cX0 h0 n0 k0 t0 p0 x, cL0 n0 n1 n2 n3 g, cL1 cJ n1 g, cL2 cI n2 g, cL3 cI n3 g, cL0 k0 k1 k2 k3 k, cL1 cJ k1 k, cL2 cI k2 k, cL3 cI k3 k, cT0 t0 t1 tp, cT1 cI t1 tp, cP0 p0 p1 p2 p3 p4 p5 pl, cP1 cI p1 pl, cP2 cI p2 pl, cP3 cI p3 pl, cP4 cI p4 pl, cP5 cI p5 pl, cM0 m0 m1 m2 m3 m4 m5 v, cM1 cI m1 v, cM2 cJ m2 v, cM3 cJ m3 v, cM4 cI m4 v, cM5 cI m5 v, (o0, .inl (cJ, 1, .inr (.inl f)))] H → va_D A [cX0 h0 n0 k0 t0 p0 x, cL0 n0 n1 n2 n3 g, cL1 cJ n1 g, cL2 cI n2 g, cL3 cI n3 g, cL0 k0 k1 k2 k3 k, cL1 cJ k1 k, cL2 cI k2 k, cL3 cI k3 k, cT0 t0 t1 tp, cT1 cI t1 tp, cP0 p0 p1 p2 p3 p4 p5 pl, cP1 cI p1 pl, cP2 cI p2 pl, cP3 cI p3 pl, cP4 cI p4 pl, cP5 cI p5 pl, cM0 m0 m1 m2 m3 m4 m5 v, cM1 cI m1 v, cM2 cJ m2 v, cM3 cJ m3 v, cM4 cI m4 v, cM5 cI m5 v, (o0, .inl (cJ, 1, .inr (.inl f)))] → va_S A s.heap H locs → lv_has ls 8 [(0, .ref b), (1, .ref h0), (2, .ref m0), (3, .ref o0), (4, .int (nI i))] → W p l e room_1 s m #[Value.ref b] below meth c H locs (cells + 1) (slots + 6) (lw_Z below #[Value.ref b] s) (F0 m 991 ls [])) (H : Heap) (locs : List Loc) (ls : Array Slot) (hP : va_P (dC, dI) vwCl [cX0 h0 n0 k0 t0 p0 x, cL0 n0 n1 n2 n3 g, cL1 cJ n1 g, cL2 cI n2 g, cL3 cI n3 g, cL0 k0 k1 k2 k3 k, cL1 cJ k1 k, cL2 cI k2 k, cL3 cI k3 k, cT0 t0 t1 tp, cT1 cI t1 tp, cP0 p0 p1 p2 p3 p4 p5 pl, cP1 cI p1 pl, cP2 cI p2 pl, cP3 cI p3 pl, cP4 cI p4 pl, cP5 cI p5 pl, cM0 m0 m1 m2 m3 m4 m5 v, cM1 cI m1 v, cM2 cJ m2 v, cM3 cJ m3 v, cM4 cI m4 v, cM5 cI m5 v, (o0, .inl (cJ, 1, .inr (.inl f)))] H) (hD : va_D A [cX0 h0 n0 k0 t0 p0 x, cL0 n0 n1 n2 n3 g, cL1 cJ n1 g, cL2 cI n2 g, cL3 cI n3 g, cL0 k0 k1 k2 k3 k, cL1 cJ k1 k, cL2 cI k2 k, cL3 cI k3 k, cT0 t0 t1 tp, cT1 cI t1 tp, cP0 p0 p1 p2 p3 p4 p5 pl, cP1 cI p1 pl, cP2 cI p2 pl, cP3 cI p3 pl, cP4 cI p4 pl, cP5 cI p5 pl, cM0 m0 m1 m2 m3 m4 m5 v, cM1 cI m1 v, cM2 cJ m2 v, cM3 cJ m3 v, cM4 cI m4 v, cM5 cI m5 v, (o0, .inl (cJ, 1, .inr (.inl f)))]) (hS : va_S A s.heap H locs) (hl : lv_has ls 8 [(0, .ref b), (1, .ref h0), (2, .ref m0), (3, .ref o0), (4, .int (nI i))]) : W p l e room_1 s m #[Value.ref b] below meth c H locs cells slots (lw_Z below #[Value.ref b] s) (F0 m 612 ls []) := by
  obtain ⟨hx, hb, hml, hown, hts, hX, hbl, hbA, hA, hK, hN, hQ⟩ := C1
  refine lv_aload_n hx hb dL_law_612 rfl (lv_at hl 1 rfl) ?_
  refine lv_aload_n hx hb dL_law_613 rfl (lv_at hl 0 rfl) ?_
  refine lv_iload hx hb dL_law_614 (lv_at hl 4 rfl) ?_
  refine lv_iconst (v := 1) hx hb dL_law_616 (by decide) ?_
  refine lv_iadd hx hb dL_law_617 ?_
  refine lv_topi (fun z_1 ez_1 => ?_)
  obtain rfl : z_1 = nI (i + 1) := ez_1.trans (nI_add i 1)
  refine va_sld hx hb hX hbl hbA hS (vp_in_nI (by omega) (by omega)) dL_law_618 ?_
  refine lv_topi (fun z_2 ez_2 => ?_)
  rw [nI_clamp (by omega)] at ez_2
  subst ez_2
  refine lv_aload_n hx hb dL_law_619 rfl (lv_at hl 0 rfl) ?_
  refine lv_iload hx hb dL_law_620 (lv_at hl 4 rfl) ?_
  refine lv_iconst (v := 2) hx hb dL_law_622 (by decide) ?_
  refine lv_iadd hx hb dL_law_623 ?_
  refine lv_topi (fun z_3 ez_3 => ?_)
  obtain rfl : z_3 = nI (i + 2) := ez_3.trans (nI_add i 2)
  refine va_sld hx hb hX hbl hbA hS (vp_in_nI (by omega) (by omega)) dL_law_624 ?_
  refine lv_topi (fun z_4 ez_4 => ?_)
  rw [nI_clamp (by omega)] at ez_4
  subst ez_4
  refine lv_if_eq (tgt := 632) hx hb dL_law_625 (by decide) (fun c_5 => ?_) (fun c_5 => ?_)
  · refine lv_iconst (v := 0) hx hb dL_law_632 (by decide) ?_
    refine lv_aload_n hx hb dL_law_633 rfl (lv_at hl 3 rfl) ?_
    have hPc := hP.sub (ws' := [cX0 h0 n0 k0 t0 p0 x, cL0 n0 n1 n2 n3 g, cL1 cJ n1 g, cL2 cI n2 g, cL3 cI n3 g, cL0 k0 k1 k2 k3 k, cL1 cJ k1 k, cL2 cI k2 k, cL3 cI k3 k, cT0 t0 t1 tp, cT1 cI t1 tp, cP0 p0 p1 p2 p3 p4 p5 pl, cP1 cI p1 pl, cP2 cI p2 pl, cP3 cI p3 pl, cP4 cI p4 pl, cP5 cI p5 pl, (o0, .inl (cJ, 1, .inr (.inl f)))]) [0, 1, 2, 3, 4, 5, 6, 7, 8, 9, 10, 11, 12, 13, 14, 15, 16, 23] rfl
    have hDc := hD.sub (ws' := [cX0 h0 n0 k0 t0 p0 x, cL0 n0 n1 n2 n3 g, cL1 cJ n1 g, cL2 cI n2 g, cL3 cI n3 g, cL0 k0 k1 k2 k3 k, cL1 cJ k1 k, cL2 cI k2 k, cL3 cI k3 k, cT0 t0 t1 tp, cT1 cI t1 tp, cP0 p0 p1 p2 p3 p4 p5 pl, cP1 cI p1 pl, cP2 cI p2 pl, cP3 cI p3 pl, cP4 cI p4 pl, cP5 cI p5 pl, (o0, .inl (cJ, 1, .inr (.inl f)))]) [0, 1, 2, 3, 4, 5, 6, 7, 8, 9, 10, 11, 12, 13, 14, 15, 16, 23] (by decide) rfl
    have hFc := va_free (wc := [cX0 h0 n0 k0 t0 p0 x, cL0 n0 n1 n2 n3 g, cL1 cJ n1 g, cL2 cI n2 g, cL3 cI n3 g, cL0 k0 k1 k2 k3 k, cL1 cJ k1 k, cL2 cI k2 k, cL3 cI k3 k, cT0 t0 t1 tp, cT1 cI t1 tp, cP0 p0 p1 p2 p3 p4 p5 pl, cP1 cI p1 pl, cP2 cI p2 pl, cP3 cI p3 pl, cP4 cI p4 pl, cP5 cI p5 pl, (o0, .inl (cJ, 1, .inr (.inl f)))]) hD hS hA [0, 1, 2, 3, 4, 5, 6, 7, 8, 9, 10, 11, 12, 13, 14, 15, 16, 23] rfl
    refine vx_calli (vx_runSX (As := [.ref h0, .int (xs (i + 1)), .int 0, .ref o0]) (rest := []) ⟨hx, hb, hml, hown, hts⟩ (kL_metres l hl9 dC dI cI cJ h0 n0 k0 t0 p0 n1 n2 n3 k1 k2 k3 t1 p1 p2 p3 p4 p5 o0 H.size (xs (i + 1)) 0 x g k tp pl f) (vx_cwSW 4 hts gY_L_metres rfl rfl rfl (by decide +kernel) ⟨Nat.le_of_ble_eq_true rfl, Nat.le_of_ble_eq_true rfl⟩) ⟨fun a U g mk q => by obtain ⟨q0, q1, qP, qK, qD, qN, qX⟩ := q; exact ⟨q0, q1, qP, va_K.moved (u := U) (U := U.calling g mk a) (Vm.Alike.refl U.vm) qK, qD, nw_same (s := U) (U := U.calling g mk a) rfl qN, qX.same (u := U) (U := U.calling g mk a) rfl rfl⟩, fun U hU hW => ⟨rfl, by rw [hU], by rw [hU]; exact hPc, va_K.moved hW.alike hK, hDc.weaken (fun _ _ _ _ => trivial), nw_warm hW hN, hQ.at hS hU hW hFc⟩⟩ rfl rfl hl.1 rfl (lv_room (Nat.le_of_ble_eq_true rfl)) dL_law_634 ⟨(by show _ ≤ (1053 : Nat); omega), (by show _ ≤ (11950 : Nat); omega)⟩) hS (fun q _ h => hFc q h) hFc (fun q _ h => hFc q h) (fun _ _ _ _ _ _ _ _ _ hw => hw.elim) (fun r_9 _ t H1 locs ht hvm hw hB hz1 hk1 hS => ?_)
    obtain ⟨hP1, hK1, hD1⟩ := hB
    rw [ht] at hP1
    obtain ⟨hP, hD⟩ := va_join (wr := [cM0 m0 m1 m2 m3 m4 m5 v, cM1 cI m1 v, cM2 cJ m2 v, cM3 cJ m3 v, cM4 cI m4 v, cM5 cI m5 v]) (w1 := [cX0 h0 n0 k0 t0 p0 x, cL0 n0 n1 n2 n3 g, cL1 cJ n1 g, cL2 cI n2 g, cL3 cI n3 g, cL0 k0 k1 k2 k3 k, cL1 cJ k1 k, cL2 cI k2 k, cL3 cI k3 k, cT0 t0 t1 tp, cT1 cI t1 tp, cP0 p0 p1 p2 p3 p4 p5 pl, cP1 cI p1 pl, cP2 cI p2 pl, cP3 cI p3 pl, cP4 cI p4 pl, cP5 cI p5 pl, (o0, .inl (cJ, 1, .inr (.inl (if tX3_metres (xs (i + 1)) 0 x g k tp pl = 0 then vp_updL f 0 (rX3_metres (xs (i + 1)) 0 x g k tp pl) else f))))]) hP hD [0, 1, 2, 3, 4, 5, 6, 7, 8, 9, 10, 11, 12, 13, 14, 15, 16, 23] [17, 18, 19, 20, 21, 22] rfl rfl (by decide) (by decide) hk1 hFc hP1 hD1
    generalize H1 = H at hP hS ⊢
    have hP := hP.sub (ws' := [cX0 h0 n0 k0 t0 p0 x, cL0 n0 n1 n2 n3 g, cL1 cJ n1 g, cL2 cI n2 g, cL3 cI n3 g, cL0 k0 k1 k2 k3 k, cL1 cJ k1 k, cL2 cI k2 k, cL3 cI k3 k, cT0 t0 t1 tp, cT1 cI t1 tp, cP0 p0 p1 p2 p3 p4 p5 pl, cP1 cI p1 pl, cP2 cI p2 pl, cP3 cI p3 pl, cP4 cI p4 pl, cP5 cI p5 pl, cM0 m0 m1 m2 m3 m4 m5 v, cM1 cI m1 v, cM2 cJ m2 v, cM3 cJ m3 v, cM4 cI m4 v, cM5 cI m5 v, (o0, .inl (cJ, 1, .inr (.inl (if tX3_metres (xs (i + 1)) 0 x g k tp pl = 0 then vp_updL f 0 (rX3_metres (xs (i + 1)) 0 x g k tp pl) else f))))]) [6, 7, 8, 9, 10, 11, 12, 13, 14, 15, 16, 17, 18, 19, 20, 21, 22, 0, 1, 2, 3, 4, 5, 23] rfl
    have hD := hD.sub (ws' := [cX0 h0 n0 k0 t0 p0 x, cL0 n0 n1 n2 n3 g, cL1 cJ n1 g, cL2 cI n2 g, cL3 cI n3 g, cL0 k0 k1 k2 k3 k, cL1 cJ k1 k, cL2 cI k2 k, cL3 cI k3 k, cT0 t0 t1 tp, cT1 cI t1 tp, cP0 p0 p1 p2 p3 p4 p5 pl, cP1 cI p1 pl, cP2 cI p2 pl, cP3 cI p3 pl, cP4 cI p4 pl, cP5 cI p5 pl, cM0 m0 m1 m2 m3 m4 m5 v, cM1 cI m1 v, cM2 cJ m2 v, cM3 cJ m3 v, cM4 cI m4 v, cM5 cI m5 v, (o0, .inl (cJ, 1, .inr (.inl (if tX3_metres (xs (i + 1)) 0 x g k tp pl = 0 then vp_updL f 0 (rX3_metres (xs (i + 1)) 0 x g k tp pl) else f))))]) [6, 7, 8, 9, 10, 11, 12, 13, 14, 15, 16, 17, 18, 19, 20, 21, 22, 0, 1, 2, 3, 4, 5, 23] (by decide) rfl
    subst hw
    refine lv_istore (lv' := [(5, .int (tX3_metres (xs (i + 1)) 0 x g k tp pl)), (0, .ref b), (1, .ref h0), (2, .ref m0), (3, .ref o0), (4, .int (nI i))]) hx hb dL_law_637 hl (by decide) rfl (fun ls hl => ?_)
    refine lv_aload_n hx hb dL_law_639 rfl (lv_at hl 3 rfl) ?_
    refine lv_aload_n hx hb dL_law_640 rfl (lv_at hl 1 rfl) ?_
    refine lv_iload hx hb dL_law_641 (lv_at hl 5 rfl) ?_
    refine lv_iconst (v := 1) hx hb dL_law_643 (by decide) ?_
    refine lv_iadd hx hb dL_law_644 ?_
    refine lv_topi (fun z_6 ez_6 => ?_)
    obtain rfl : z_6 = nI (i + 1) := ez_6.trans (nI_add i 1)
    refine va_sld hx hb hX hbl hbA hS (vp_in_nI (by omega) (by omega)) dL_law_645 ?_
    refine lv_topi (fun z_7 ez_7 => ?_)
    rw [nI_clamp (by omega)] at ez_7
    subst ez_7
    refine lv_aload_n hx hb dL_law_646 rfl (lv_at hl 1 rfl) ?_
    refine lv_iload hx hb dL_law_647 (lv_at hl 5 rfl) ?_
    refine lv_iconst (v := 2) hx hb dL_law_649 (by decide) ?_
    refine lv_iadd hx hb dL_law_650 ?_
    refine lv_topi (fun z_8 ez_8 => ?_)
    obtain rfl : z_8 = nI (i + 2) := ez_8.trans (nI_add i 2)
    refine va_sld hx hb hX hbl hbA hS (vp_in_nI (by omega) (by omega)) dL_law_651 ?_
    refine lv_topi (fun z_9 ez_9 => ?_)
    rw [nI_clamp (by omega)] at ez_9
    subst ez_9
    refine lv_if_eq (tgt := 659) hx hb dL_law_652 (by decide) (fun c_10 => ?_) (fun c_10 => absurd c_5 c_10)
    refine lv_iconst (v := 0) hx hb dL_law_659 (by decide) ?_
    have hPc := hP.sub (ws' := [cM0 m0 m1 m2 m3 m4 m5 v, cM1 cI m1 v, cM2 cJ m2 v, cM3 cJ m3 v, cM4 cI m4 v, cM5 cI m5 v]) [17, 18, 19, 20, 21, 22] rfl
    have hDc := hD.sub (ws' := [cM0 m0 m1 m2 m3 m4 m5 v, cM1 cI m1 v, cM2 cJ m2 v, cM3 cJ m3 v, cM4 cI m4 v, cM5 cI m5 v]) [17, 18, 19, 20, 21, 22] (by decide) rfl
    have hFc := va_free (wc := [cM0 m0 m1 m2 m3 m4 m5 v, cM1 cI m1 v, cM2 cJ m2 v, cM3 cJ m3 v, cM4 cI m4 v, cM5 cI m5 v]) hD hS hA [17, 18, 19, 20, 21, 22] rfl
    refine va_calll (va_runV (As := [.int (xs (i + 1)), .int 0]) (rest := []) ⟨hx, hb, hml, hown, hts⟩ (kX4_metres l dC dI cI cJ m0 m1 m2 m3 m4 m5 H.size (xs (i + 1)) 0 v) (cwV 2 hts gY_X4_metres rfl rfl rfl (by decide +kernel) ⟨Nat.le_of_ble_eq_true rfl, Nat.le_of_ble_eq_true rfl⟩) ⟨fun a U g mk q => by obtain ⟨q0, q1, qP, qK, qD⟩ := q; exact ⟨q0, q1, qP, va_K.moved (u := U) (U := U.calling g mk a) (Vm.Alike.refl U.vm) qK, qD⟩, va_recv hK hPc (ci := 4) (q0 := 0) rfl rfl, fun U hU hW => ⟨rfl, by rw [hU], by rw [hU]; exact hPc, va_K.moved hW.alike hK, hDc.weaken (fun _ _ _ _ => trivial)⟩⟩ rfl rfl hl.1 rfl (lv_room (Nat.le_of_ble_eq_true rfl)) dL_law_660 ⟨(by show _ ≤ (1053 : Nat); omega), (by show _ ≤ (11950 : Nat); omega)⟩) hS (fun q _ h => hFc q h) hFc (fun r_11 _ t H1 locs ht hvm hw hB hz1 hk1 hS => ?_)
    obtain ⟨hP1, hK1, hD1⟩ := hB
    rw [ht] at hP1
    obtain ⟨g_12, eg_12⟩ : ∃ z, z = sX4_metres (xs (i + 1)) 0 v := ⟨_, rfl⟩
    rw [← eg_12] at hP1 hD1
    obtain ⟨hP, hD⟩ := va_join (wr := [cX0 h0 n0 k0 t0 p0 x, cL0 n0 n1 n2 n3 g, cL1 cJ n1 g, cL2 cI n2 g, cL3 cI n3 g, cL0 k0 k1 k2 k3 k, cL1 cJ k1 k, cL2 cI k2 k, cL3 cI k3 k, cT0 t0 t1 tp, cT1 cI t1 tp, cP0 p0 p1 p2 p3 p4 p5 pl, cP1 cI p1 pl, cP2 cI p2 pl, cP3 cI p3 pl, cP4 cI p4 pl, cP5 cI p5 pl, (o0, .inl (cJ, 1, .inr (.inl (if tX3_metres (xs (i + 1)) 0 x g k tp pl = 0 then vp_updL f 0 (rX3_metres (xs (i + 1)) 0 x g k tp pl) else f))))]) (w1 := [cM0 m0 m1 m2 m3 m4 m5 g_12, cM1 cI m1 g_12, cM2 cJ m2 g_12, cM3 cJ m3 g_12, cM4 cI m4 g_12, cM5 cI m5 g_12]) hP hD [17, 18, 19, 20, 21, 22] [0, 1, 2, 3, 4, 5, 6, 7, 8, 9, 10, 11, 12, 13, 14, 15, 16, 23] rfl rfl (by decide) (by decide) hk1 hFc hP1 hD1
    generalize H1 = H at hP hS ⊢
    have hP := hP.sub (ws' := [cX0 h0 n0 k0 t0 p0 x, cL0 n0 n1 n2 n3 g, cL1 cJ n1 g, cL2 cI n2 g, cL3 cI n3 g, cL0 k0 k1 k2 k3 k, cL1 cJ k1 k, cL2 cI k2 k, cL3 cI k3 k, cT0 t0 t1 tp, cT1 cI t1 tp, cP0 p0 p1 p2 p3 p4 p5 pl, cP1 cI p1 pl, cP2 cI p2 pl, cP3 cI p3 pl, cP4 cI p4 pl, cP5 cI p5 pl, cM0 m0 m1 m2 m3 m4 m5 g_12, cM1 cI m1 g_12, cM2 cJ m2 g_12, cM3 cJ m3 g_12, cM4 cI m4 g_12, cM5 cI m5 g_12, (o0, .inl (cJ, 1, .inr (.inl (if tX3_metres (xs (i + 1)) 0 x g k tp pl = 0 then vp_updL f 0 (rX3_metres (xs (i + 1)) 0 x g k tp pl) else f))))]) [0, 1, 2, 3, 4, 5, 6, 7, 8, 9, 10, 11, 12, 13, 14, 15, 16, 18, 19, 20, 21, 22, 23, 17] rfl
    have hD := hD.sub (ws' := [cX0 h0 n0 k0 t0 p0 x, cL0 n0 n1 n2 n3 g, cL1 cJ n1 g, cL2 cI n2 g, cL3 cI n3 g, cL0 k0 k1 k2 k3 k, cL1 cJ k1 k, cL2 cI k2 k, cL3 cI k3 k, cT0 t0 t1 tp, cT1 cI t1 tp, cP0 p0 p1 p2 p3 p4 p5 pl, cP1 cI p1 pl, cP2 cI p2 pl, cP3 cI p3 pl, cP4 cI p4 pl, cP5 cI p5 pl, cM0 m0 m1 m2 m3 m4 m5 g_12, cM1 cI m1 g_12, cM2 cJ m2 g_12, cM3 cJ m3 g_12, cM4 cI m4 g_12, cM5 cI m5 g_12, (o0, .inl (cJ, 1, .inr (.inl (if tX3_metres (xs (i + 1)) 0 x g k tp pl = 0 then vp_updL f 0 (rX3_metres (xs (i + 1)) 0 x g k tp pl) else f))))]) [0, 1, 2, 3, 4, 5, 6, 7, 8, 9, 10, 11, 12, 13, 14, 15, 16, 18, 19, 20, 21, 22, 23, 17] (by decide) rfl
    subst hw
    refine lv_lstore (lv' := [(6, .long (rX4_metres (xs (i + 1)) 0 v)), (5, .int (tX3_metres (xs (i + 1)) 0 x g k tp pl)), (0, .ref b), (1, .ref h0), (2, .ref m0), (3, .ref o0), (4, .int (nI i))]) hx hb dL_law_663 hl (by decide) rfl (fun ls hl => ?_)
    refine lv_aload_n hx hb dL_law_665 rfl (lv_at hl 4 rfl) ?_
    have hPc := hP.sub (ws' := [cM0 m0 m1 m2 m3 m4 m5 g_12, cM1 cI m1 g_12, cM2 cJ m2 g_12, cM3 cJ m3 g_12, cM4 cI m4 g_12, cM5 cI m5 g_12]) [17, 18, 19, 20, 21, 22] rfl
    have hDc := hD.sub (ws' := [cM0 m0 m1 m2 m3 m4 m5 g_12, cM1 cI m1 g_12, cM2 cJ m2 g_12, cM3 cJ m3 g_12, cM4 cI m4 g_12, cM5 cI m5 g_12]) [17, 18, 19, 20, 21, 22] (by decide) rfl
    have hFc := va_free (wc := [cM0 m0 m1 m2 m3 m4 m5 g_12, cM1 cI m1 g_12, cM2 cJ m2 g_12, cM3 cJ m3 g_12, cM4 cI m4 g_12, cM5 cI m5 g_12]) hD hS hA [17, 18, 19, 20, 21, 22] rfl
    refine va_calli (va_runV (As := []) (rest := []) ⟨hx, hb, hml, hown, hts⟩ (kX4_thrown l dC dI cI cJ m0 m1 m2 m3 m4 m5 H.size g_12) (cwV 0 hts gY_X4_thrown rfl rfl rfl (by decide +kernel) ⟨Nat.le_of_ble_eq_true rfl, Nat.le_of_ble_eq_true rfl⟩) ⟨fun a U g mk q => by obtain ⟨q0, q1, qP, qK, qD⟩ := q; exact ⟨q0, q1, qP, va_K.moved (u := U) (U := U.calling g mk a) (Vm.Alike.refl U.vm) qK, qD⟩, va_recv hK hPc (ci := 4) (q0 := 0) rfl rfl, fun U hU hW => ⟨rfl, by rw [hU], by rw [hU]; exact hPc, va_K.moved hW.alike hK, hDc.weaken (fun _ _ _ _ => trivial)⟩⟩ rfl rfl hl.1 rfl (lv_room (Nat.le_of_ble_eq_true rfl)) dL_law_666 ⟨(by show _ ≤ (1053 : Nat); omega), (by show _ ≤ (11950 : Nat); omega)⟩) hS (fun q _ h => hFc q h) hFc (fun r_13 _ t H1 locs ht hvm hw hB hz1 hk1 hS => ?_)
    obtain ⟨hP1, hK1, hD1⟩ := hB
    rw [ht] at hP1
    obtain ⟨hP, hD⟩ := va_join (wr := [cX0 h0 n0 k0 t0 p0 x, cL0 n0 n1 n2 n3 g, cL1 cJ n1 g, cL2 cI n2 g, cL3 cI n3 g, cL0 k0 k1 k2 k3 k, cL1 cJ k1 k, cL2 cI k2 k, cL3 cI k3 k, cT0 t0 t1 tp, cT1 cI t1 tp, cP0 p0 p1 p2 p3 p4 p5 pl, cP1 cI p1 pl, cP2 cI p2 pl, cP3 cI p3 pl, cP4 cI p4 pl, cP5 cI p5 pl, (o0, .inl (cJ, 1, .inr (.inl (if tX3_metres (xs (i + 1)) 0 x g k tp pl = 0 then vp_updL f 0 (rX3_metres (xs (i + 1)) 0 x g k tp pl) else f))))]) (w1 := [cM0 m0 m1 m2 m3 m4 m5 g_12, cM1 cI m1 g_12, cM2 cJ m2 g_12, cM3 cJ m3 g_12, cM4 cI m4 g_12, cM5 cI m5 g_12]) hP hD [17, 18, 19, 20, 21, 22] [0, 1, 2, 3, 4, 5, 6, 7, 8, 9, 10, 11, 12, 13, 14, 15, 16, 23] rfl rfl (by decide) (by decide) hk1 hFc hP1 hD1
    generalize H1 = H at hP hS ⊢
    have hP := hP.sub (ws' := [cX0 h0 n0 k0 t0 p0 x, cL0 n0 n1 n2 n3 g, cL1 cJ n1 g, cL2 cI n2 g, cL3 cI n3 g, cL0 k0 k1 k2 k3 k, cL1 cJ k1 k, cL2 cI k2 k, cL3 cI k3 k, cT0 t0 t1 tp, cT1 cI t1 tp, cP0 p0 p1 p2 p3 p4 p5 pl, cP1 cI p1 pl, cP2 cI p2 pl, cP3 cI p3 pl, cP4 cI p4 pl, cP5 cI p5 pl, cM0 m0 m1 m2 m3 m4 m5 g_12, cM1 cI m1 g_12, cM2 cJ m2 g_12, cM3 cJ m3 g_12, cM4 cI m4 g_12, cM5 cI m5 g_12, (o0, .inl (cJ, 1, .inr (.inl (if tX3_metres (xs (i + 1)) 0 x g k tp pl = 0 then vp_updL f 0 (rX3_metres (xs (i + 1)) 0 x g k tp pl) else f))))]) [0, 1, 2, 3, 4, 5, 6, 7, 8, 9, 10, 11, 12, 13, 14, 15, 16, 18, 19, 20, 21, 22, 23, 17] rfl
    have hD := hD.sub (ws' := [cX0 h0 n0 k0 t0 p0 x, cL0 n0 n1 n2 n3 g, cL1 cJ n1 g, cL2 cI n2 g, cL3 cI n3 g, cL0 k0 k1 k2 k3 k, cL1 cJ k1 k, cL2 cI k2 k, cL3 cI k3 k, cT0 t0 t1 tp, cT1 cI t1 tp, cP0 p0 p1 p2 p3 p4 p5 pl, cP1 cI p1 pl, cP2 cI p2 pl, cP3 cI p3 pl, cP4 cI p4 pl, cP5 cI p5 pl, cM0 m0 m1 m2 m3 m4 m5 g_12, cM1 cI m1 g_12, cM2 cJ m2 g_12, cM3 cJ m3 g_12, cM4 cI m4 g_12, cM5 cI m5 g_12, (o0, .inl (cJ, 1, .inr (.inl (if tX3_metres (xs (i + 1)) 0 x g k tp pl = 0 then vp_updL f 0 (rX3_metres (xs (i + 1)) 0 x g k tp pl) else f))))]) [0, 1, 2, 3, 4, 5, 6, 7, 8, 9, 10, 11, 12, 13, 14, 15, 16, 18, 19, 20, 21, 22, 23, 17] (by decide) rfl
    subst hw
    refine lv_iload hx hb dL_law_669 (lv_at hl 1 rfl) ?_
    refine lv_icmp_eq (tgt := 676) hx hb dL_law_671 (by decide) (fun c_14 => ?_) (fun c_14 => absurd (by rw [eg_12]; exact (R_metres hR hn _ _).1) c_14)
    refine lv_iload hx hb dL_law_676 (lv_at hl 1 rfl) ?_
    refine lv_if_ne (tgt := 692) hx hb dL_law_678 (by decide) (fun c_15 => ?_) (fun c_15 => ?_)
    · refine lv_goto (tgt := 991) hx hb dL_law_692 (by decide) ?_
      subst eg_12
      refine W.widen (k := cells + 1) (n := slots + 6) (by omega) (by omega) ?_
      exact kk _ _ _ _ _ _ _ _ _ _ (R_metres hR hn _ _).2.2 hP hD hS (lv_sub hl [2, 3, 4, 5, 6] rfl)
    · refine lv_aload_n hx hb dL_law_681 rfl (lv_at hl 5 rfl) ?_
      refine lv_iconst (v := 0) hx hb dL_law_682 (by decide) ?_
      refine va_lald hx hb hK hP 23 1 rfl rfl (vd (by decide +kernel)) dL_law_683 ?_
      refine lv_lload hx hb dL_law_684 (lv_at hl 0 rfl) ?_
      refine W.lcmp hx hb dL_law_686 ?_
      refine lv_if_eq (tgt := 692) hx hb dL_law_687 (by decide) (fun c_16 => ?_) (fun c_16 => absurd ((lg_cmp_eq _ _).mpr (by rw [if_pos c_15, show (0 : Int32).toNatClampNeg = 0 from by decide, pk_uLs]; exact (R_metres hR hn _ _).2.1 c_15)) c_16)
      refine lv_goto (tgt := 991) hx hb dL_law_692 (by decide) ?_
      subst eg_12
      refine W.widen (k := cells + 1) (n := slots + 6) (by omega) (by omega) ?_
      exact kk _ _ _ _ _ _ _ _ _ _ (R_metres hR hn _ _).2.2 hP hD hS (lv_sub hl [2, 3, 4, 5, 6] rfl)
  · refine lv_iconst (v := 1) hx hb dL_law_628 (by decide) ?_
    refine lv_goto (tgt := 633) hx hb dL_law_629 (by decide) ?_
    refine lv_aload_n hx hb dL_law_633 rfl (lv_at hl 3 rfl) ?_
    have hPc := hP.sub (ws' := [cX0 h0 n0 k0 t0 p0 x, cL0 n0 n1 n2 n3 g, cL1 cJ n1 g, cL2 cI n2 g, cL3 cI n3 g, cL0 k0 k1 k2 k3 k, cL1 cJ k1 k, cL2 cI k2 k, cL3 cI k3 k, cT0 t0 t1 tp, cT1 cI t1 tp, cP0 p0 p1 p2 p3 p4 p5 pl, cP1 cI p1 pl, cP2 cI p2 pl, cP3 cI p3 pl, cP4 cI p4 pl, cP5 cI p5 pl, (o0, .inl (cJ, 1, .inr (.inl f)))]) [0, 1, 2, 3, 4, 5, 6, 7, 8, 9, 10, 11, 12, 13, 14, 15, 16, 23] rfl
    have hDc := hD.sub (ws' := [cX0 h0 n0 k0 t0 p0 x, cL0 n0 n1 n2 n3 g, cL1 cJ n1 g, cL2 cI n2 g, cL3 cI n3 g, cL0 k0 k1 k2 k3 k, cL1 cJ k1 k, cL2 cI k2 k, cL3 cI k3 k, cT0 t0 t1 tp, cT1 cI t1 tp, cP0 p0 p1 p2 p3 p4 p5 pl, cP1 cI p1 pl, cP2 cI p2 pl, cP3 cI p3 pl, cP4 cI p4 pl, cP5 cI p5 pl, (o0, .inl (cJ, 1, .inr (.inl f)))]) [0, 1, 2, 3, 4, 5, 6, 7, 8, 9, 10, 11, 12, 13, 14, 15, 16, 23] (by decide) rfl
    have hFc := va_free (wc := [cX0 h0 n0 k0 t0 p0 x, cL0 n0 n1 n2 n3 g, cL1 cJ n1 g, cL2 cI n2 g, cL3 cI n3 g, cL0 k0 k1 k2 k3 k, cL1 cJ k1 k, cL2 cI k2 k, cL3 cI k3 k, cT0 t0 t1 tp, cT1 cI t1 tp, cP0 p0 p1 p2 p3 p4 p5 pl, cP1 cI p1 pl, cP2 cI p2 pl, cP3 cI p3 pl, cP4 cI p4 pl, cP5 cI p5 pl, (o0, .inl (cJ, 1, .inr (.inl f)))]) hD hS hA [0, 1, 2, 3, 4, 5, 6, 7, 8, 9, 10, 11, 12, 13, 14, 15, 16, 23] rfl
    refine vx_calli (vx_runSX (As := [.ref h0, .int (xs (i + 1)), .int 1, .ref o0]) (rest := []) ⟨hx, hb, hml, hown, hts⟩ (kL_metres l hl9 dC dI cI cJ h0 n0 k0 t0 p0 n1 n2 n3 k1 k2 k3 t1 p1 p2 p3 p4 p5 o0 H.size (xs (i + 1)) 1 x g k tp pl f) (vx_cwSW 4 hts gY_L_metres rfl rfl rfl (by decide +kernel) ⟨Nat.le_of_ble_eq_true rfl, Nat.le_of_ble_eq_true rfl⟩) ⟨fun a U g mk q => by obtain ⟨q0, q1, qP, qK, qD, qN, qX⟩ := q; exact ⟨q0, q1, qP, va_K.moved (u := U) (U := U.calling g mk a) (Vm.Alike.refl U.vm) qK, qD, nw_same (s := U) (U := U.calling g mk a) rfl qN, qX.same (u := U) (U := U.calling g mk a) rfl rfl⟩, fun U hU hW => ⟨rfl, by rw [hU], by rw [hU]; exact hPc, va_K.moved hW.alike hK, hDc.weaken (fun _ _ _ _ => trivial), nw_warm hW hN, hQ.at hS hU hW hFc⟩⟩ rfl rfl hl.1 rfl (lv_room (Nat.le_of_ble_eq_true rfl)) dL_law_634 ⟨(by show _ ≤ (1053 : Nat); omega), (by show _ ≤ (11950 : Nat); omega)⟩) hS (fun q _ h => hFc q h) hFc (fun q _ h => hFc q h) (fun _ _ _ _ _ _ _ _ _ hw => hw.elim) (fun r_9 _ t H1 locs ht hvm hw hB hz1 hk1 hS => ?_)
    obtain ⟨hP1, hK1, hD1⟩ := hB
    rw [ht] at hP1
    obtain ⟨hP, hD⟩ := va_join (wr := [cM0 m0 m1 m2 m3 m4 m5 v, cM1 cI m1 v, cM2 cJ m2 v, cM3 cJ m3 v, cM4 cI m4 v, cM5 cI m5 v]) (w1 := [cX0 h0 n0 k0 t0 p0 x, cL0 n0 n1 n2 n3 g, cL1 cJ n1 g, cL2 cI n2 g, cL3 cI n3 g, cL0 k0 k1 k2 k3 k, cL1 cJ k1 k, cL2 cI k2 k, cL3 cI k3 k, cT0 t0 t1 tp, cT1 cI t1 tp, cP0 p0 p1 p2 p3 p4 p5 pl, cP1 cI p1 pl, cP2 cI p2 pl, cP3 cI p3 pl, cP4 cI p4 pl, cP5 cI p5 pl, (o0, .inl (cJ, 1, .inr (.inl (if tX3_metres (xs (i + 1)) 1 x g k tp pl = 0 then vp_updL f 0 (rX3_metres (xs (i + 1)) 1 x g k tp pl) else f))))]) hP hD [0, 1, 2, 3, 4, 5, 6, 7, 8, 9, 10, 11, 12, 13, 14, 15, 16, 23] [17, 18, 19, 20, 21, 22] rfl rfl (by decide) (by decide) hk1 hFc hP1 hD1
    generalize H1 = H at hP hS ⊢
    have hP := hP.sub (ws' := [cX0 h0 n0 k0 t0 p0 x, cL0 n0 n1 n2 n3 g, cL1 cJ n1 g, cL2 cI n2 g, cL3 cI n3 g, cL0 k0 k1 k2 k3 k, cL1 cJ k1 k, cL2 cI k2 k, cL3 cI k3 k, cT0 t0 t1 tp, cT1 cI t1 tp, cP0 p0 p1 p2 p3 p4 p5 pl, cP1 cI p1 pl, cP2 cI p2 pl, cP3 cI p3 pl, cP4 cI p4 pl, cP5 cI p5 pl, cM0 m0 m1 m2 m3 m4 m5 v, cM1 cI m1 v, cM2 cJ m2 v, cM3 cJ m3 v, cM4 cI m4 v, cM5 cI m5 v, (o0, .inl (cJ, 1, .inr (.inl (if tX3_metres (xs (i + 1)) 1 x g k tp pl = 0 then vp_updL f 0 (rX3_metres (xs (i + 1)) 1 x g k tp pl) else f))))]) [6, 7, 8, 9, 10, 11, 12, 13, 14, 15, 16, 17, 18, 19, 20, 21, 22, 0, 1, 2, 3, 4, 5, 23] rfl
    have hD := hD.sub (ws' := [cX0 h0 n0 k0 t0 p0 x, cL0 n0 n1 n2 n3 g, cL1 cJ n1 g, cL2 cI n2 g, cL3 cI n3 g, cL0 k0 k1 k2 k3 k, cL1 cJ k1 k, cL2 cI k2 k, cL3 cI k3 k, cT0 t0 t1 tp, cT1 cI t1 tp, cP0 p0 p1 p2 p3 p4 p5 pl, cP1 cI p1 pl, cP2 cI p2 pl, cP3 cI p3 pl, cP4 cI p4 pl, cP5 cI p5 pl, cM0 m0 m1 m2 m3 m4 m5 v, cM1 cI m1 v, cM2 cJ m2 v, cM3 cJ m3 v, cM4 cI m4 v, cM5 cI m5 v, (o0, .inl (cJ, 1, .inr (.inl (if tX3_metres (xs (i + 1)) 1 x g k tp pl = 0 then vp_updL f 0 (rX3_metres (xs (i + 1)) 1 x g k tp pl) else f))))]) [6, 7, 8, 9, 10, 11, 12, 13, 14, 15, 16, 17, 18, 19, 20, 21, 22, 0, 1, 2, 3, 4, 5, 23] (by decide) rfl
    subst hw
    refine lv_istore (lv' := [(5, .int (tX3_metres (xs (i + 1)) 1 x g k tp pl)), (0, .ref b), (1, .ref h0), (2, .ref m0), (3, .ref o0), (4, .int (nI i))]) hx hb dL_law_637 hl (by decide) rfl (fun ls hl => ?_)
    refine lv_aload_n hx hb dL_law_639 rfl (lv_at hl 3 rfl) ?_
    refine lv_aload_n hx hb dL_law_640 rfl (lv_at hl 1 rfl) ?_
    refine lv_iload hx hb dL_law_641 (lv_at hl 5 rfl) ?_
    refine lv_iconst (v := 1) hx hb dL_law_643 (by decide) ?_
    refine lv_iadd hx hb dL_law_644 ?_
    refine lv_topi (fun z_17 ez_17 => ?_)
    obtain rfl : z_17 = nI (i + 1) := ez_17.trans (nI_add i 1)
    refine va_sld hx hb hX hbl hbA hS (vp_in_nI (by omega) (by omega)) dL_law_645 ?_
    refine lv_topi (fun z_18 ez_18 => ?_)
    rw [nI_clamp (by omega)] at ez_18
    subst ez_18
    refine lv_aload_n hx hb dL_law_646 rfl (lv_at hl 1 rfl) ?_
    refine lv_iload hx hb dL_law_647 (lv_at hl 5 rfl) ?_
    refine lv_iconst (v := 2) hx hb dL_law_649 (by decide) ?_
    refine lv_iadd hx hb dL_law_650 ?_
    refine lv_topi (fun z_19 ez_19 => ?_)
    obtain rfl : z_19 = nI (i + 2) := ez_19.trans (nI_add i 2)
    refine va_sld hx hb hX hbl hbA hS (vp_in_nI (by omega) (by omega)) dL_law_651 ?_
    refine lv_topi (fun z_20 ez_20 => ?_)
    rw [nI_clamp (by omega)] at ez_20
    subst ez_20
    refine lv_if_eq (tgt := 659) hx hb dL_law_652 (by decide) (fun c_21 => absurd c_21 c_5) (fun c_21 => ?_)
    refine lv_iconst (v := 1) hx hb dL_law_655 (by decide) ?_
    refine lv_goto (tgt := 660) hx hb dL_law_656 (by decide) ?_
    have hPc := hP.sub (ws' := [cM0 m0 m1 m2 m3 m4 m5 v, cM1 cI m1 v, cM2 cJ m2 v, cM3 cJ m3 v, cM4 cI m4 v, cM5 cI m5 v]) [17, 18, 19, 20, 21, 22] rfl
    have hDc := hD.sub (ws' := [cM0 m0 m1 m2 m3 m4 m5 v, cM1 cI m1 v, cM2 cJ m2 v, cM3 cJ m3 v, cM4 cI m4 v, cM5 cI m5 v]) [17, 18, 19, 20, 21, 22] (by decide) rfl
    have hFc := va_free (wc := [cM0 m0 m1 m2 m3 m4 m5 v, cM1 cI m1 v, cM2 cJ m2 v, cM3 cJ m3 v, cM4 cI m4 v, cM5 cI m5 v]) hD hS hA [17, 18, 19, 20, 21, 22] rfl
    refine va_calll (va_runV (As := [.int (xs (i + 1)), .int 1]) (rest := []) ⟨hx, hb, hml, hown, hts⟩ (kX4_metres l dC dI cI cJ m0 m1 m2 m3 m4 m5 H.size (xs (i + 1)) 1 v) (cwV 2 hts gY_X4_metres rfl rfl rfl (by decide +kernel) ⟨Nat.le_of_ble_eq_true rfl, Nat.le_of_ble_eq_true rfl⟩) ⟨fun a U g mk q => by obtain ⟨q0, q1, qP, qK, qD⟩ := q; exact ⟨q0, q1, qP, va_K.moved (u := U) (U := U.calling g mk a) (Vm.Alike.refl U.vm) qK, qD⟩, va_recv hK hPc (ci := 4) (q0 := 0) rfl rfl, fun U hU hW => ⟨rfl, by rw [hU], by rw [hU]; exact hPc, va_K.moved hW.alike hK, hDc.weaken (fun _ _ _ _ => trivial)⟩⟩ rfl rfl hl.1 rfl (lv_room (Nat.le_of_ble_eq_true rfl)) dL_law_660 ⟨(by show _ ≤ (1053 : Nat); omega), (by show _ ≤ (11950 : Nat); omega)⟩) hS (fun q _ h => hFc q h) hFc (fun r_22 _ t H1 locs ht hvm hw hB hz1 hk1 hS => ?_)
    obtain ⟨hP1, hK1, hD1⟩ := hB
    rw [ht] at hP1
    obtain ⟨g_23, eg_23⟩ : ∃ z, z = sX4_metres (xs (i + 1)) 1 v := ⟨_, rfl⟩
    rw [← eg_23] at hP1 hD1
    obtain ⟨hP, hD⟩ := va_join (wr := [cX0 h0 n0 k0 t0 p0 x, cL0 n0 n1 n2 n3 g, cL1 cJ n1 g, cL2 cI n2 g, cL3 cI n3 g, cL0 k0 k1 k2 k3 k, cL1 cJ k1 k, cL2 cI k2 k, cL3 cI k3 k, cT0 t0 t1 tp, cT1 cI t1 tp, cP0 p0 p1 p2 p3 p4 p5 pl, cP1 cI p1 pl, cP2 cI p2 pl, cP3 cI p3 pl, cP4 cI p4 pl, cP5 cI p5 pl, (o0, .inl (cJ, 1, .inr (.inl (if tX3_metres (xs (i + 1)) 1 x g k tp pl = 0 then vp_updL f 0 (rX3_metres (xs (i + 1)) 1 x g k tp pl) else f))))]) (w1 := [cM0 m0 m1 m2 m3 m4 m5 g_23, cM1 cI m1 g_23, cM2 cJ m2 g_23, cM3 cJ m3 g_23, cM4 cI m4 g_23, cM5 cI m5 g_23]) hP hD [17, 18, 19, 20, 21, 22] [0, 1, 2, 3, 4, 5, 6, 7, 8, 9, 10, 11, 12, 13, 14, 15, 16, 23] rfl rfl (by decide) (by decide) hk1 hFc hP1 hD1
    generalize H1 = H at hP hS ⊢
    have hP := hP.sub (ws' := [cX0 h0 n0 k0 t0 p0 x, cL0 n0 n1 n2 n3 g, cL1 cJ n1 g, cL2 cI n2 g, cL3 cI n3 g, cL0 k0 k1 k2 k3 k, cL1 cJ k1 k, cL2 cI k2 k, cL3 cI k3 k, cT0 t0 t1 tp, cT1 cI t1 tp, cP0 p0 p1 p2 p3 p4 p5 pl, cP1 cI p1 pl, cP2 cI p2 pl, cP3 cI p3 pl, cP4 cI p4 pl, cP5 cI p5 pl, cM0 m0 m1 m2 m3 m4 m5 g_23, cM1 cI m1 g_23, cM2 cJ m2 g_23, cM3 cJ m3 g_23, cM4 cI m4 g_23, cM5 cI m5 g_23, (o0, .inl (cJ, 1, .inr (.inl (if tX3_metres (xs (i + 1)) 1 x g k tp pl = 0 then vp_updL f 0 (rX3_metres (xs (i + 1)) 1 x g k tp pl) else f))))]) [0, 1, 2, 3, 4, 5, 6, 7, 8, 9, 10, 11, 12, 13, 14, 15, 16, 18, 19, 20, 21, 22, 23, 17] rfl
    have hD := hD.sub (ws' := [cX0 h0 n0 k0 t0 p0 x, cL0 n0 n1 n2 n3 g, cL1 cJ n1 g, cL2 cI n2 g, cL3 cI n3 g, cL0 k0 k1 k2 k3 k, cL1 cJ k1 k, cL2 cI k2 k, cL3 cI k3 k, cT0 t0 t1 tp, cT1 cI t1 tp, cP0 p0 p1 p2 p3 p4 p5 pl, cP1 cI p1 pl, cP2 cI p2 pl, cP3 cI p3 pl, cP4 cI p4 pl, cP5 cI p5 pl, cM0 m0 m1 m2 m3 m4 m5 g_23, cM1 cI m1 g_23, cM2 cJ m2 g_23, cM3 cJ m3 g_23, cM4 cI m4 g_23, cM5 cI m5 g_23, (o0, .inl (cJ, 1, .inr (.inl (if tX3_metres (xs (i + 1)) 1 x g k tp pl = 0 then vp_updL f 0 (rX3_metres (xs (i + 1)) 1 x g k tp pl) else f))))]) [0, 1, 2, 3, 4, 5, 6, 7, 8, 9, 10, 11, 12, 13, 14, 15, 16, 18, 19, 20, 21, 22, 23, 17] (by decide) rfl
    subst hw
    refine lv_lstore (lv' := [(6, .long (rX4_metres (xs (i + 1)) 1 v)), (5, .int (tX3_metres (xs (i + 1)) 1 x g k tp pl)), (0, .ref b), (1, .ref h0), (2, .ref m0), (3, .ref o0), (4, .int (nI i))]) hx hb dL_law_663 hl (by decide) rfl (fun ls hl => ?_)
    refine lv_aload_n hx hb dL_law_665 rfl (lv_at hl 4 rfl) ?_
    have hPc := hP.sub (ws' := [cM0 m0 m1 m2 m3 m4 m5 g_23, cM1 cI m1 g_23, cM2 cJ m2 g_23, cM3 cJ m3 g_23, cM4 cI m4 g_23, cM5 cI m5 g_23]) [17, 18, 19, 20, 21, 22] rfl
    have hDc := hD.sub (ws' := [cM0 m0 m1 m2 m3 m4 m5 g_23, cM1 cI m1 g_23, cM2 cJ m2 g_23, cM3 cJ m3 g_23, cM4 cI m4 g_23, cM5 cI m5 g_23]) [17, 18, 19, 20, 21, 22] (by decide) rfl
    have hFc := va_free (wc := [cM0 m0 m1 m2 m3 m4 m5 g_23, cM1 cI m1 g_23, cM2 cJ m2 g_23, cM3 cJ m3 g_23, cM4 cI m4 g_23, cM5 cI m5 g_23]) hD hS hA [17, 18, 19, 20, 21, 22] rfl
    refine va_calli (va_runV (As := []) (rest := []) ⟨hx, hb, hml, hown, hts⟩ (kX4_thrown l dC dI cI cJ m0 m1 m2 m3 m4 m5 H.size g_23) (cwV 0 hts gY_X4_thrown rfl rfl rfl (by decide +kernel) ⟨Nat.le_of_ble_eq_true rfl, Nat.le_of_ble_eq_true rfl⟩) ⟨fun a U g mk q => by obtain ⟨q0, q1, qP, qK, qD⟩ := q; exact ⟨q0, q1, qP, va_K.moved (u := U) (U := U.calling g mk a) (Vm.Alike.refl U.vm) qK, qD⟩, va_recv hK hPc (ci := 4) (q0 := 0) rfl rfl, fun U hU hW => ⟨rfl, by rw [hU], by rw [hU]; exact hPc, va_K.moved hW.alike hK, hDc.weaken (fun _ _ _ _ => trivial)⟩⟩ rfl rfl hl.1 rfl (lv_room (Nat.le_of_ble_eq_true rfl)) dL_law_666 ⟨(by show _ ≤ (1053 : Nat); omega), (by show _ ≤ (11950 : Nat); omega)⟩) hS (fun q _ h => hFc q h) hFc (fun r_24 _ t H1 locs ht hvm hw hB hz1 hk1 hS => ?_)
    obtain ⟨hP1, hK1, hD1⟩ := hB
    rw [ht] at hP1
    obtain ⟨hP, hD⟩ := va_join (wr := [cX0 h0 n0 k0 t0 p0 x, cL0 n0 n1 n2 n3 g, cL1 cJ n1 g, cL2 cI n2 g, cL3 cI n3 g, cL0 k0 k1 k2 k3 k, cL1 cJ k1 k, cL2 cI k2 k, cL3 cI k3 k, cT0 t0 t1 tp, cT1 cI t1 tp, cP0 p0 p1 p2 p3 p4 p5 pl, cP1 cI p1 pl, cP2 cI p2 pl, cP3 cI p3 pl, cP4 cI p4 pl, cP5 cI p5 pl, (o0, .inl (cJ, 1, .inr (.inl (if tX3_metres (xs (i + 1)) 1 x g k tp pl = 0 then vp_updL f 0 (rX3_metres (xs (i + 1)) 1 x g k tp pl) else f))))]) (w1 := [cM0 m0 m1 m2 m3 m4 m5 g_23, cM1 cI m1 g_23, cM2 cJ m2 g_23, cM3 cJ m3 g_23, cM4 cI m4 g_23, cM5 cI m5 g_23]) hP hD [17, 18, 19, 20, 21, 22] [0, 1, 2, 3, 4, 5, 6, 7, 8, 9, 10, 11, 12, 13, 14, 15, 16, 23] rfl rfl (by decide) (by decide) hk1 hFc hP1 hD1
    generalize H1 = H at hP hS ⊢
    have hP := hP.sub (ws' := [cX0 h0 n0 k0 t0 p0 x, cL0 n0 n1 n2 n3 g, cL1 cJ n1 g, cL2 cI n2 g, cL3 cI n3 g, cL0 k0 k1 k2 k3 k, cL1 cJ k1 k, cL2 cI k2 k, cL3 cI k3 k, cT0 t0 t1 tp, cT1 cI t1 tp, cP0 p0 p1 p2 p3 p4 p5 pl, cP1 cI p1 pl, cP2 cI p2 pl, cP3 cI p3 pl, cP4 cI p4 pl, cP5 cI p5 pl, cM0 m0 m1 m2 m3 m4 m5 g_23, cM1 cI m1 g_23, cM2 cJ m2 g_23, cM3 cJ m3 g_23, cM4 cI m4 g_23, cM5 cI m5 g_23, (o0, .inl (cJ, 1, .inr (.inl (if tX3_metres (xs (i + 1)) 1 x g k tp pl = 0 then vp_updL f 0 (rX3_metres (xs (i + 1)) 1 x g k tp pl) else f))))]) [0, 1, 2, 3, 4, 5, 6, 7, 8, 9, 10, 11, 12, 13, 14, 15, 16, 18, 19, 20, 21, 22, 23, 17] rfl
    have hD := hD.sub (ws' := [cX0 h0 n0 k0 t0 p0 x, cL0 n0 n1 n2 n3 g, cL1 cJ n1 g, cL2 cI n2 g, cL3 cI n3 g, cL0 k0 k1 k2 k3 k, cL1 cJ k1 k, cL2 cI k2 k, cL3 cI k3 k, cT0 t0 t1 tp, cT1 cI t1 tp, cP0 p0 p1 p2 p3 p4 p5 pl, cP1 cI p1 pl, cP2 cI p2 pl, cP3 cI p3 pl, cP4 cI p4 pl, cP5 cI p5 pl, cM0 m0 m1 m2 m3 m4 m5 g_23, cM1 cI m1 g_23, cM2 cJ m2 g_23, cM3 cJ m3 g_23, cM4 cI m4 g_23, cM5 cI m5 g_23, (o0, .inl (cJ, 1, .inr (.inl (if tX3_metres (xs (i + 1)) 1 x g k tp pl = 0 then vp_updL f 0 (rX3_metres (xs (i + 1)) 1 x g k tp pl) else f))))]) [0, 1, 2, 3, 4, 5, 6, 7, 8, 9, 10, 11, 12, 13, 14, 15, 16, 18, 19, 20, 21, 22, 23, 17] (by decide) rfl
    subst hw
    refine lv_iload hx hb dL_law_669 (lv_at hl 1 rfl) ?_
    refine lv_icmp_eq (tgt := 676) hx hb dL_law_671 (by decide) (fun c_25 => ?_) (fun c_25 => absurd (by rw [eg_23]; exact (R_metres hR hn _ _).1) c_25)
    refine lv_iload hx hb dL_law_676 (lv_at hl 1 rfl) ?_
    refine lv_if_ne (tgt := 692) hx hb dL_law_678 (by decide) (fun c_26 => ?_) (fun c_26 => ?_)
    · refine lv_goto (tgt := 991) hx hb dL_law_692 (by decide) ?_
      subst eg_23
      refine W.widen (k := cells + 1) (n := slots + 6) (by omega) (by omega) ?_
      exact kk _ _ _ _ _ _ _ _ _ _ (R_metres hR hn _ _).2.2 hP hD hS (lv_sub hl [2, 3, 4, 5, 6] rfl)
    · refine lv_aload_n hx hb dL_law_681 rfl (lv_at hl 5 rfl) ?_
      refine lv_iconst (v := 0) hx hb dL_law_682 (by decide) ?_
      refine va_lald hx hb hK hP 23 1 rfl rfl (vd (by decide +kernel)) dL_law_683 ?_
      refine lv_lload hx hb dL_law_684 (lv_at hl 0 rfl) ?_
      refine W.lcmp hx hb dL_law_686 ?_
      refine lv_if_eq (tgt := 692) hx hb dL_law_687 (by decide) (fun c_27 => ?_) (fun c_27 => absurd ((lg_cmp_eq _ _).mpr (by rw [if_pos c_26, show (0 : Int32).toNatClampNeg = 0 from by decide, pk_uLs]; exact (R_metres hR hn _ _).2.1 c_26)) c_27)
      refine lv_goto (tgt := 991) hx hb dL_law_692 (by decide) ?_
      subst eg_23
      refine W.widen (k := cells + 1) (n := slots + 6) (by omega) (by omega) ?_
      exact kk _ _ _ _ _ _ _ _ _ _ (R_metres hR hn _ _).2.2 hP hD hS (lv_sub hl [2, 3, 4, 5, 6] rfl)

set_option maxHeartbeats 4000000 in
set_option maxRecDepth 100000 in
theorem lc_average {p : Program} {l : Launch} {e : Env} {s : State} {m : MethodId} {below : List Frame} {meth : Method} {c : Code} {A : Nat → Prop} {dC : Nat → ClassId} {dI : Nat → Nat → Nat} {cI cJ : ClassId} {b L : Nat} {xs : Nat → Int32} {h0 n0 k0 t0 p0 n1 n2 n3 k1 k2 k3 t1 p1 p2 p3 p4 p5 m0 m1 m2 m3 m4 m5 o0 : Nat} {cells slots n i : Nat} {x : XC} {g k : LG} {tp : TP} {pl : PL} {v : MS} {f : Nat → Int64} (C1 : lwC p s m c A dC dI cI cJ b L xs) (hL : L ≤ 3072) (hl9 : l.stackTraces = false) (hn : n ≤ 600) (hi : i + 6 ≤ L) (hc : cells + 1 ≤ 1053) (hs : slots + 6 ≤ 11950) (hR : RR n x g k tp pl v) (kk : ∀ (x : XC) (g k : LG) (tp : TP) (pl : PL) (v : MS) (f : Nat → Int64) (H : Heap) (locs : List Loc) (ls : Array Slot), RR (n + 1) x g k tp pl v → va_P (dC, dI) vwCl [cX0 h0 n0 k0 t0 p0 x, cL0 n0 n1 n2 n3 g, cL1 cJ n1 g, cL2 cI n2 g, cL3 cI n3 g, cL0 k0 k1 k2 k3 k, cL1 cJ k1 k, cL2 cI k2 k, cL3 cI k3 k, cT0 t0 t1 tp, cT1 cI t1 tp, cP0 p0 p1 p2 p3 p4 p5 pl, cP1 cI p1 pl, cP2 cI p2 pl, cP3 cI p3 pl, cP4 cI p4 pl, cP5 cI p5 pl, cM0 m0 m1 m2 m3 m4 m5 v, cM1 cI m1 v, cM2 cJ m2 v, cM3 cJ m3 v, cM4 cI m4 v, cM5 cI m5 v, (o0, .inl (cJ, 1, .inr (.inl f)))] H → va_D A [cX0 h0 n0 k0 t0 p0 x, cL0 n0 n1 n2 n3 g, cL1 cJ n1 g, cL2 cI n2 g, cL3 cI n3 g, cL0 k0 k1 k2 k3 k, cL1 cJ k1 k, cL2 cI k2 k, cL3 cI k3 k, cT0 t0 t1 tp, cT1 cI t1 tp, cP0 p0 p1 p2 p3 p4 p5 pl, cP1 cI p1 pl, cP2 cI p2 pl, cP3 cI p3 pl, cP4 cI p4 pl, cP5 cI p5 pl, cM0 m0 m1 m2 m3 m4 m5 v, cM1 cI m1 v, cM2 cJ m2 v, cM3 cJ m3 v, cM4 cI m4 v, cM5 cI m5 v, (o0, .inl (cJ, 1, .inr (.inl f)))] → va_S A s.heap H locs → lv_has ls 8 [(0, .ref b), (1, .ref h0), (2, .ref m0), (3, .ref o0), (4, .int (nI i))] → W p l e room_1 s m #[Value.ref b] below meth c H locs (cells + 1) (slots + 6) (lw_Z below #[Value.ref b] s) (F0 m 991 ls [])) (H : Heap) (locs : List Loc) (ls : Array Slot) (hP : va_P (dC, dI) vwCl [cX0 h0 n0 k0 t0 p0 x, cL0 n0 n1 n2 n3 g, cL1 cJ n1 g, cL2 cI n2 g, cL3 cI n3 g, cL0 k0 k1 k2 k3 k, cL1 cJ k1 k, cL2 cI k2 k, cL3 cI k3 k, cT0 t0 t1 tp, cT1 cI t1 tp, cP0 p0 p1 p2 p3 p4 p5 pl, cP1 cI p1 pl, cP2 cI p2 pl, cP3 cI p3 pl, cP4 cI p4 pl, cP5 cI p5 pl, cM0 m0 m1 m2 m3 m4 m5 v, cM1 cI m1 v, cM2 cJ m2 v, cM3 cJ m3 v, cM4 cI m4 v, cM5 cI m5 v, (o0, .inl (cJ, 1, .inr (.inl f)))] H) (hD : va_D A [cX0 h0 n0 k0 t0 p0 x, cL0 n0 n1 n2 n3 g, cL1 cJ n1 g, cL2 cI n2 g, cL3 cI n3 g, cL0 k0 k1 k2 k3 k, cL1 cJ k1 k, cL2 cI k2 k, cL3 cI k3 k, cT0 t0 t1 tp, cT1 cI t1 tp, cP0 p0 p1 p2 p3 p4 p5 pl, cP1 cI p1 pl, cP2 cI p2 pl, cP3 cI p3 pl, cP4 cI p4 pl, cP5 cI p5 pl, cM0 m0 m1 m2 m3 m4 m5 v, cM1 cI m1 v, cM2 cJ m2 v, cM3 cJ m3 v, cM4 cI m4 v, cM5 cI m5 v, (o0, .inl (cJ, 1, .inr (.inl f)))]) (hS : va_S A s.heap H locs) (hl : lv_has ls 8 [(0, .ref b), (1, .ref h0), (2, .ref m0), (3, .ref o0), (4, .int (nI i))]) : W p l e room_1 s m #[Value.ref b] below meth c H locs cells slots (lw_Z below #[Value.ref b] s) (F0 m 695 ls []) := by
  obtain ⟨hx, hb, hml, hown, hts, hX, hbl, hbA, hA, hK, hN, hQ⟩ := C1
  refine lv_aload_n hx hb dL_law_695 rfl (lv_at hl 1 rfl) ?_
  refine lv_aload_n hx hb dL_law_696 rfl (lv_at hl 0 rfl) ?_
  refine lv_iload hx hb dL_law_697 (lv_at hl 4 rfl) ?_
  refine lv_iconst (v := 1) hx hb dL_law_699 (by decide) ?_
  refine lv_iadd hx hb dL_law_700 ?_
  refine lv_topi (fun z_1 ez_1 => ?_)
  obtain rfl : z_1 = nI (i + 1) := ez_1.trans (nI_add i 1)
  refine va_sld hx hb hX hbl hbA hS (vp_in_nI (by omega) (by omega)) dL_law_701 ?_
  refine lv_topi (fun z_2 ez_2 => ?_)
  rw [nI_clamp (by omega)] at ez_2
  subst ez_2
  refine lv_aload_n hx hb dL_law_702 rfl (lv_at hl 0 rfl) ?_
  refine lv_iload hx hb dL_law_703 (lv_at hl 4 rfl) ?_
  refine lv_iconst (v := 2) hx hb dL_law_705 (by decide) ?_
  refine lv_iadd hx hb dL_law_706 ?_
  refine lv_topi (fun z_3 ez_3 => ?_)
  obtain rfl : z_3 = nI (i + 2) := ez_3.trans (nI_add i 2)
  refine va_sld hx hb hX hbl hbA hS (vp_in_nI (by omega) (by omega)) dL_law_707 ?_
  refine lv_topi (fun z_4 ez_4 => ?_)
  rw [nI_clamp (by omega)] at ez_4
  subst ez_4
  refine lv_if_eq (tgt := 715) hx hb dL_law_708 (by decide) (fun c_5 => ?_) (fun c_5 => ?_)
  · refine lv_iconst (v := 0) hx hb dL_law_715 (by decide) ?_
    refine lv_aload_n hx hb dL_law_716 rfl (lv_at hl 0 rfl) ?_
    refine lv_iload hx hb dL_law_717 (lv_at hl 4 rfl) ?_
    refine lv_iconst (v := 3) hx hb dL_law_719 (by decide) ?_
    refine lv_iadd hx hb dL_law_720 ?_
    refine lv_topi (fun z_6 ez_6 => ?_)
    obtain rfl : z_6 = nI (i + 3) := ez_6.trans (nI_add i 3)
    refine va_sld hx hb hX hbl hbA hS (vp_in_nI (by omega) (by omega)) dL_law_721 ?_
    refine lv_topi (fun z_7 ez_7 => ?_)
    rw [nI_clamp (by omega)] at ez_7
    subst ez_7
    refine lv_aload_n hx hb dL_law_722 rfl (lv_at hl 3 rfl) ?_
    have hPc := hP.sub (ws' := [cX0 h0 n0 k0 t0 p0 x, cL0 n0 n1 n2 n3 g, cL1 cJ n1 g, cL2 cI n2 g, cL3 cI n3 g, cL0 k0 k1 k2 k3 k, cL1 cJ k1 k, cL2 cI k2 k, cL3 cI k3 k, cT0 t0 t1 tp, cT1 cI t1 tp, cP0 p0 p1 p2 p3 p4 p5 pl, cP1 cI p1 pl, cP2 cI p2 pl, cP3 cI p3 pl, cP4 cI p4 pl, cP5 cI p5 pl, (o0, .inl (cJ, 1, .inr (.inl f)))]) [0, 1, 2, 3, 4, 5, 6, 7, 8, 9, 10, 11, 12, 13, 14, 15, 16, 23] rfl
    have hDc := hD.sub (ws' := [cX0 h0 n0 k0 t0 p0 x, cL0 n0 n1 n2 n3 g, cL1 cJ n1 g, cL2 cI n2 g, cL3 cI n3 g, cL0 k0 k1 k2 k3 k, cL1 cJ k1 k, cL2 cI k2 k, cL3 cI k3 k, cT0 t0 t1 tp, cT1 cI t1 tp, cP0 p0 p1 p2 p3 p4 p5 pl, cP1 cI p1 pl, cP2 cI p2 pl, cP3 cI p3 pl, cP4 cI p4 pl, cP5 cI p5 pl, (o0, .inl (cJ, 1, .inr (.inl f)))]) [0, 1, 2, 3, 4, 5, 6, 7, 8, 9, 10, 11, 12, 13, 14, 15, 16, 23] (by decide) rfl
    have hFc := va_free (wc := [cX0 h0 n0 k0 t0 p0 x, cL0 n0 n1 n2 n3 g, cL1 cJ n1 g, cL2 cI n2 g, cL3 cI n3 g, cL0 k0 k1 k2 k3 k, cL1 cJ k1 k, cL2 cI k2 k, cL3 cI k3 k, cT0 t0 t1 tp, cT1 cI t1 tp, cP0 p0 p1 p2 p3 p4 p5 pl, cP1 cI p1 pl, cP2 cI p2 pl, cP3 cI p3 pl, cP4 cI p4 pl, cP5 cI p5 pl, (o0, .inl (cJ, 1, .inr (.inl f)))]) hD hS hA [0, 1, 2, 3, 4, 5, 6, 7, 8, 9, 10, 11, 12, 13, 14, 15, 16, 23] rfl
    refine vx_calli (vx_runSX (As := [.ref h0, .int (xs (i + 1)), .int 0, .int (xs (i + 3)), .ref o0]) (rest := []) ⟨hx, hb, hml, hown, hts⟩ (kL_average l hl9 dC dI cI cJ h0 n0 k0 t0 p0 n1 n2 n3 k1 k2 k3 t1 p1 p2 p3 p4 p5 o0 H.size (xs (i + 1)) 0 (xs (i + 3)) x g k tp pl f (R_HA hR hn _)) (vx_cwSW 5 hts gY_L_average rfl rfl rfl (by decide +kernel) ⟨Nat.le_of_ble_eq_true rfl, Nat.le_of_ble_eq_true rfl⟩) ⟨fun a U g mk q => by obtain ⟨q0, q1, qP, qK, qD, qN, qX⟩ := q; exact ⟨q0, q1, qP, va_K.moved (u := U) (U := U.calling g mk a) (Vm.Alike.refl U.vm) qK, qD, nw_same (s := U) (U := U.calling g mk a) rfl qN, qX.same (u := U) (U := U.calling g mk a) rfl rfl⟩, fun U hU hW => ⟨rfl, by rw [hU], by rw [hU]; exact hPc, va_K.moved hW.alike hK, hDc.weaken (fun _ _ _ _ => trivial), nw_warm hW hN, hQ.at hS hU hW hFc⟩⟩ rfl rfl hl.1 rfl (lv_room (Nat.le_of_ble_eq_true rfl)) dL_law_723 ⟨(by show _ ≤ (1053 : Nat); omega), (by show _ ≤ (11950 : Nat); omega)⟩) hS (fun q _ h => hFc q h) hFc (fun q _ h => hFc q h) (fun _ _ _ _ _ _ _ _ _ hw => hw.elim) (fun r_9 _ t H1 locs ht hvm hw hB hz1 hk1 hS => ?_)
    obtain ⟨hP1, hK1, hD1⟩ := hB
    rw [ht] at hP1
    obtain ⟨hP, hD⟩ := va_join (wr := [cM0 m0 m1 m2 m3 m4 m5 v, cM1 cI m1 v, cM2 cJ m2 v, cM3 cJ m3 v, cM4 cI m4 v, cM5 cI m5 v]) (w1 := [cX0 h0 n0 k0 t0 p0 x, cL0 n0 n1 n2 n3 g, cL1 cJ n1 g, cL2 cI n2 g, cL3 cI n3 g, cL0 k0 k1 k2 k3 k, cL1 cJ k1 k, cL2 cI k2 k, cL3 cI k3 k, cT0 t0 t1 tp, cT1 cI t1 tp, cP0 p0 p1 p2 p3 p4 p5 pl, cP1 cI p1 pl, cP2 cI p2 pl, cP3 cI p3 pl, cP4 cI p4 pl, cP5 cI p5 pl, (o0, .inl (cJ, 1, .inr (.inl (if tX3_average (xs (i + 1)) 0 (xs (i + 3)) x g k tp pl = 0 then vp_updL f 0 (rX3_average (xs (i + 1)) 0 (xs (i + 3)) x g k tp pl) else f))))]) hP hD [0, 1, 2, 3, 4, 5, 6, 7, 8, 9, 10, 11, 12, 13, 14, 15, 16, 23] [17, 18, 19, 20, 21, 22] rfl rfl (by decide) (by decide) hk1 hFc hP1 hD1
    generalize H1 = H at hP hS ⊢
    have hP := hP.sub (ws' := [cX0 h0 n0 k0 t0 p0 x, cL0 n0 n1 n2 n3 g, cL1 cJ n1 g, cL2 cI n2 g, cL3 cI n3 g, cL0 k0 k1 k2 k3 k, cL1 cJ k1 k, cL2 cI k2 k, cL3 cI k3 k, cT0 t0 t1 tp, cT1 cI t1 tp, cP0 p0 p1 p2 p3 p4 p5 pl, cP1 cI p1 pl, cP2 cI p2 pl, cP3 cI p3 pl, cP4 cI p4 pl, cP5 cI p5 pl, cM0 m0 m1 m2 m3 m4 m5 v, cM1 cI m1 v, cM2 cJ m2 v, cM3 cJ m3 v, cM4 cI m4 v, cM5 cI m5 v, (o0, .inl (cJ, 1, .inr (.inl (if tX3_average (xs (i + 1)) 0 (xs (i + 3)) x g k tp pl = 0 then vp_updL f 0 (rX3_average (xs (i + 1)) 0 (xs (i + 3)) x g k tp pl) else f))))]) [6, 7, 8, 9, 10, 11, 12, 13, 14, 15, 16, 17, 18, 19, 20, 21, 22, 0, 1, 2, 3, 4, 5, 23] rfl
    have hD := hD.sub (ws' := [cX0 h0 n0 k0 t0 p0 x, cL0 n0 n1 n2 n3 g, cL1 cJ n1 g, cL2 cI n2 g, cL3 cI n3 g, cL0 k0 k1 k2 k3 k, cL1 cJ k1 k, cL2 cI k2 k, cL3 cI k3 k, cT0 t0 t1 tp, cT1 cI t1 tp, cP0 p0 p1 p2 p3 p4 p5 pl, cP1 cI p1 pl, cP2 cI p2 pl, cP3 cI p3 pl, cP4 cI p4 pl, cP5 cI p5 pl, cM0 m0 m1 m2 m3 m4 m5 v, cM1 cI m1 v, cM2 cJ m2 v, cM3 cJ m3 v, cM4 cI m4 v, cM5 cI m5 v, (o0, .inl (cJ, 1, .inr (.inl (if tX3_average (xs (i + 1)) 0 (xs (i + 3)) x g k tp pl = 0 then vp_updL f 0 (rX3_average (xs (i + 1)) 0 (xs (i + 3)) x g k tp pl) else f))))]) [6, 7, 8, 9, 10, 11, 12, 13, 14, 15, 16, 17, 18, 19, 20, 21, 22, 0, 1, 2, 3, 4, 5, 23] (by decide) rfl
    subst hw
    refine lv_istore (lv' := [(5, .int (tX3_average (xs (i + 1)) 0 (xs (i + 3)) x g k tp pl)), (0, .ref b), (1, .ref h0), (2, .ref m0), (3, .ref o0), (4, .int (nI i))]) hx hb dL_law_726 hl (by decide) rfl (fun ls hl => ?_)
    refine lv_aload_n hx hb dL_law_728 rfl (lv_at hl 3 rfl) ?_
    refine lv_aload_n hx hb dL_law_729 rfl (lv_at hl 1 rfl) ?_
    refine lv_iload hx hb dL_law_730 (lv_at hl 5 rfl) ?_
    refine lv_iconst (v := 1) hx hb dL_law_732 (by decide) ?_
    refine lv_iadd hx hb dL_law_733 ?_
    refine lv_topi (fun z_8 ez_8 => ?_)
    obtain rfl : z_8 = nI (i + 1) := ez_8.trans (nI_add i 1)
    refine va_sld hx hb hX hbl hbA hS (vp_in_nI (by omega) (by omega)) dL_law_734 ?_
    refine lv_topi (fun z_9 ez_9 => ?_)
    rw [nI_clamp (by omega)] at ez_9
    subst ez_9
    refine lv_aload_n hx hb dL_law_735 rfl (lv_at hl 1 rfl) ?_
    refine lv_iload hx hb dL_law_736 (lv_at hl 5 rfl) ?_
    refine lv_iconst (v := 2) hx hb dL_law_738 (by decide) ?_
    refine lv_iadd hx hb dL_law_739 ?_
    refine lv_topi (fun z_10 ez_10 => ?_)
    obtain rfl : z_10 = nI (i + 2) := ez_10.trans (nI_add i 2)
    refine va_sld hx hb hX hbl hbA hS (vp_in_nI (by omega) (by omega)) dL_law_740 ?_
    refine lv_topi (fun z_11 ez_11 => ?_)
    rw [nI_clamp (by omega)] at ez_11
    subst ez_11
    refine lv_if_eq (tgt := 748) hx hb dL_law_741 (by decide) (fun c_12 => ?_) (fun c_12 => absurd c_5 c_12)
    refine lv_iconst (v := 0) hx hb dL_law_748 (by decide) ?_
    refine lv_aload_n hx hb dL_law_749 rfl (lv_at hl 1 rfl) ?_
    refine lv_iload hx hb dL_law_750 (lv_at hl 5 rfl) ?_
    refine lv_iconst (v := 3) hx hb dL_law_752 (by decide) ?_
    refine lv_iadd hx hb dL_law_753 ?_
    refine lv_topi (fun z_13 ez_13 => ?_)
    obtain rfl : z_13 = nI (i + 3) := ez_13.trans (nI_add i 3)
    refine va_sld hx hb hX hbl hbA hS (vp_in_nI (by omega) (by omega)) dL_law_754 ?_
    refine lv_topi (fun z_14 ez_14 => ?_)
    rw [nI_clamp (by omega)] at ez_14
    subst ez_14
    have hPc := hP.sub (ws' := [cM0 m0 m1 m2 m3 m4 m5 v, cM1 cI m1 v, cM2 cJ m2 v, cM3 cJ m3 v, cM4 cI m4 v, cM5 cI m5 v]) [17, 18, 19, 20, 21, 22] rfl
    have hDc := hD.sub (ws' := [cM0 m0 m1 m2 m3 m4 m5 v, cM1 cI m1 v, cM2 cJ m2 v, cM3 cJ m3 v, cM4 cI m4 v, cM5 cI m5 v]) [17, 18, 19, 20, 21, 22] (by decide) rfl
    have hFc := va_free (wc := [cM0 m0 m1 m2 m3 m4 m5 v, cM1 cI m1 v, cM2 cJ m2 v, cM3 cJ m3 v, cM4 cI m4 v, cM5 cI m5 v]) hD hS hA [17, 18, 19, 20, 21, 22] rfl
    refine va_calll (va_runV (As := [.int (xs (i + 1)), .int 0, .int (xs (i + 3))]) (rest := []) ⟨hx, hb, hml, hown, hts⟩ (kX4_average l dC dI cI cJ m0 m1 m2 m3 m4 m5 H.size (xs (i + 1)) 0 (xs (i + 3)) v (R_HM hR hn)) (cwV 3 hts gY_X4_average rfl rfl rfl (by decide +kernel) ⟨Nat.le_of_ble_eq_true rfl, Nat.le_of_ble_eq_true rfl⟩) ⟨fun a U g mk q => by obtain ⟨q0, q1, qP, qK, qD⟩ := q; exact ⟨q0, q1, qP, va_K.moved (u := U) (U := U.calling g mk a) (Vm.Alike.refl U.vm) qK, qD⟩, va_recv hK hPc (ci := 4) (q0 := 0) rfl rfl, fun U hU hW => ⟨rfl, by rw [hU], by rw [hU]; exact hPc, va_K.moved hW.alike hK, hDc.weaken (fun _ _ _ _ => trivial)⟩⟩ rfl rfl hl.1 rfl (lv_room (Nat.le_of_ble_eq_true rfl)) dL_law_755 ⟨(by show _ ≤ (1053 : Nat); omega), (by show _ ≤ (11950 : Nat); omega)⟩) hS (fun q _ h => hFc q h) hFc (fun r_15 _ t H1 locs ht hvm hw hB hz1 hk1 hS => ?_)
    obtain ⟨hP1, hK1, hD1⟩ := hB
    rw [ht] at hP1
    obtain ⟨g_16, eg_16⟩ : ∃ z, z = sX4_average (xs (i + 1)) 0 (xs (i + 3)) v := ⟨_, rfl⟩
    rw [← eg_16] at hP1 hD1
    obtain ⟨hP, hD⟩ := va_join (wr := [cX0 h0 n0 k0 t0 p0 x, cL0 n0 n1 n2 n3 g, cL1 cJ n1 g, cL2 cI n2 g, cL3 cI n3 g, cL0 k0 k1 k2 k3 k, cL1 cJ k1 k, cL2 cI k2 k, cL3 cI k3 k, cT0 t0 t1 tp, cT1 cI t1 tp, cP0 p0 p1 p2 p3 p4 p5 pl, cP1 cI p1 pl, cP2 cI p2 pl, cP3 cI p3 pl, cP4 cI p4 pl, cP5 cI p5 pl, (o0, .inl (cJ, 1, .inr (.inl (if tX3_average (xs (i + 1)) 0 (xs (i + 3)) x g k tp pl = 0 then vp_updL f 0 (rX3_average (xs (i + 1)) 0 (xs (i + 3)) x g k tp pl) else f))))]) (w1 := [cM0 m0 m1 m2 m3 m4 m5 g_16, cM1 cI m1 g_16, cM2 cJ m2 g_16, cM3 cJ m3 g_16, cM4 cI m4 g_16, cM5 cI m5 g_16]) hP hD [17, 18, 19, 20, 21, 22] [0, 1, 2, 3, 4, 5, 6, 7, 8, 9, 10, 11, 12, 13, 14, 15, 16, 23] rfl rfl (by decide) (by decide) hk1 hFc hP1 hD1
    generalize H1 = H at hP hS ⊢
    have hP := hP.sub (ws' := [cX0 h0 n0 k0 t0 p0 x, cL0 n0 n1 n2 n3 g, cL1 cJ n1 g, cL2 cI n2 g, cL3 cI n3 g, cL0 k0 k1 k2 k3 k, cL1 cJ k1 k, cL2 cI k2 k, cL3 cI k3 k, cT0 t0 t1 tp, cT1 cI t1 tp, cP0 p0 p1 p2 p3 p4 p5 pl, cP1 cI p1 pl, cP2 cI p2 pl, cP3 cI p3 pl, cP4 cI p4 pl, cP5 cI p5 pl, cM0 m0 m1 m2 m3 m4 m5 g_16, cM1 cI m1 g_16, cM2 cJ m2 g_16, cM3 cJ m3 g_16, cM4 cI m4 g_16, cM5 cI m5 g_16, (o0, .inl (cJ, 1, .inr (.inl (if tX3_average (xs (i + 1)) 0 (xs (i + 3)) x g k tp pl = 0 then vp_updL f 0 (rX3_average (xs (i + 1)) 0 (xs (i + 3)) x g k tp pl) else f))))]) [0, 1, 2, 3, 4, 5, 6, 7, 8, 9, 10, 11, 12, 13, 14, 15, 16, 18, 19, 20, 21, 22, 23, 17] rfl
    have hD := hD.sub (ws' := [cX0 h0 n0 k0 t0 p0 x, cL0 n0 n1 n2 n3 g, cL1 cJ n1 g, cL2 cI n2 g, cL3 cI n3 g, cL0 k0 k1 k2 k3 k, cL1 cJ k1 k, cL2 cI k2 k, cL3 cI k3 k, cT0 t0 t1 tp, cT1 cI t1 tp, cP0 p0 p1 p2 p3 p4 p5 pl, cP1 cI p1 pl, cP2 cI p2 pl, cP3 cI p3 pl, cP4 cI p4 pl, cP5 cI p5 pl, cM0 m0 m1 m2 m3 m4 m5 g_16, cM1 cI m1 g_16, cM2 cJ m2 g_16, cM3 cJ m3 g_16, cM4 cI m4 g_16, cM5 cI m5 g_16, (o0, .inl (cJ, 1, .inr (.inl (if tX3_average (xs (i + 1)) 0 (xs (i + 3)) x g k tp pl = 0 then vp_updL f 0 (rX3_average (xs (i + 1)) 0 (xs (i + 3)) x g k tp pl) else f))))]) [0, 1, 2, 3, 4, 5, 6, 7, 8, 9, 10, 11, 12, 13, 14, 15, 16, 18, 19, 20, 21, 22, 23, 17] (by decide) rfl
    subst hw
    refine lv_lstore (lv' := [(6, .long (rX4_average (xs (i + 1)) 0 (xs (i + 3)) v)), (5, .int (tX3_average (xs (i + 1)) 0 (xs (i + 3)) x g k tp pl)), (0, .ref b), (1, .ref h0), (2, .ref m0), (3, .ref o0), (4, .int (nI i))]) hx hb dL_law_758 hl (by decide) rfl (fun ls hl => ?_)
    refine lv_aload_n hx hb dL_law_760 rfl (lv_at hl 4 rfl) ?_
    have hPc := hP.sub (ws' := [cM0 m0 m1 m2 m3 m4 m5 g_16, cM1 cI m1 g_16, cM2 cJ m2 g_16, cM3 cJ m3 g_16, cM4 cI m4 g_16, cM5 cI m5 g_16]) [17, 18, 19, 20, 21, 22] rfl
    have hDc := hD.sub (ws' := [cM0 m0 m1 m2 m3 m4 m5 g_16, cM1 cI m1 g_16, cM2 cJ m2 g_16, cM3 cJ m3 g_16, cM4 cI m4 g_16, cM5 cI m5 g_16]) [17, 18, 19, 20, 21, 22] (by decide) rfl
    have hFc := va_free (wc := [cM0 m0 m1 m2 m3 m4 m5 g_16, cM1 cI m1 g_16, cM2 cJ m2 g_16, cM3 cJ m3 g_16, cM4 cI m4 g_16, cM5 cI m5 g_16]) hD hS hA [17, 18, 19, 20, 21, 22] rfl
    refine va_calli (va_runV (As := []) (rest := []) ⟨hx, hb, hml, hown, hts⟩ (kX4_thrown l dC dI cI cJ m0 m1 m2 m3 m4 m5 H.size g_16) (cwV 0 hts gY_X4_thrown rfl rfl rfl (by decide +kernel) ⟨Nat.le_of_ble_eq_true rfl, Nat.le_of_ble_eq_true rfl⟩) ⟨fun a U g mk q => by obtain ⟨q0, q1, qP, qK, qD⟩ := q; exact ⟨q0, q1, qP, va_K.moved (u := U) (U := U.calling g mk a) (Vm.Alike.refl U.vm) qK, qD⟩, va_recv hK hPc (ci := 4) (q0 := 0) rfl rfl, fun U hU hW => ⟨rfl, by rw [hU], by rw [hU]; exact hPc, va_K.moved hW.alike hK, hDc.weaken (fun _ _ _ _ => trivial)⟩⟩ rfl rfl hl.1 rfl (lv_room (Nat.le_of_ble_eq_true rfl)) dL_law_761 ⟨(by show _ ≤ (1053 : Nat); omega), (by show _ ≤ (11950 : Nat); omega)⟩) hS (fun q _ h => hFc q h) hFc (fun r_17 _ t H1 locs ht hvm hw hB hz1 hk1 hS => ?_)
    obtain ⟨hP1, hK1, hD1⟩ := hB
    rw [ht] at hP1
    obtain ⟨hP, hD⟩ := va_join (wr := [cX0 h0 n0 k0 t0 p0 x, cL0 n0 n1 n2 n3 g, cL1 cJ n1 g, cL2 cI n2 g, cL3 cI n3 g, cL0 k0 k1 k2 k3 k, cL1 cJ k1 k, cL2 cI k2 k, cL3 cI k3 k, cT0 t0 t1 tp, cT1 cI t1 tp, cP0 p0 p1 p2 p3 p4 p5 pl, cP1 cI p1 pl, cP2 cI p2 pl, cP3 cI p3 pl, cP4 cI p4 pl, cP5 cI p5 pl, (o0, .inl (cJ, 1, .inr (.inl (if tX3_average (xs (i + 1)) 0 (xs (i + 3)) x g k tp pl = 0 then vp_updL f 0 (rX3_average (xs (i + 1)) 0 (xs (i + 3)) x g k tp pl) else f))))]) (w1 := [cM0 m0 m1 m2 m3 m4 m5 g_16, cM1 cI m1 g_16, cM2 cJ m2 g_16, cM3 cJ m3 g_16, cM4 cI m4 g_16, cM5 cI m5 g_16]) hP hD [17, 18, 19, 20, 21, 22] [0, 1, 2, 3, 4, 5, 6, 7, 8, 9, 10, 11, 12, 13, 14, 15, 16, 23] rfl rfl (by decide) (by decide) hk1 hFc hP1 hD1
    generalize H1 = H at hP hS ⊢
    have hP := hP.sub (ws' := [cX0 h0 n0 k0 t0 p0 x, cL0 n0 n1 n2 n3 g, cL1 cJ n1 g, cL2 cI n2 g, cL3 cI n3 g, cL0 k0 k1 k2 k3 k, cL1 cJ k1 k, cL2 cI k2 k, cL3 cI k3 k, cT0 t0 t1 tp, cT1 cI t1 tp, cP0 p0 p1 p2 p3 p4 p5 pl, cP1 cI p1 pl, cP2 cI p2 pl, cP3 cI p3 pl, cP4 cI p4 pl, cP5 cI p5 pl, cM0 m0 m1 m2 m3 m4 m5 g_16, cM1 cI m1 g_16, cM2 cJ m2 g_16, cM3 cJ m3 g_16, cM4 cI m4 g_16, cM5 cI m5 g_16, (o0, .inl (cJ, 1, .inr (.inl (if tX3_average (xs (i + 1)) 0 (xs (i + 3)) x g k tp pl = 0 then vp_updL f 0 (rX3_average (xs (i + 1)) 0 (xs (i + 3)) x g k tp pl) else f))))]) [0, 1, 2, 3, 4, 5, 6, 7, 8, 9, 10, 11, 12, 13, 14, 15, 16, 18, 19, 20, 21, 22, 23, 17] rfl
    have hD := hD.sub (ws' := [cX0 h0 n0 k0 t0 p0 x, cL0 n0 n1 n2 n3 g, cL1 cJ n1 g, cL2 cI n2 g, cL3 cI n3 g, cL0 k0 k1 k2 k3 k, cL1 cJ k1 k, cL2 cI k2 k, cL3 cI k3 k, cT0 t0 t1 tp, cT1 cI t1 tp, cP0 p0 p1 p2 p3 p4 p5 pl, cP1 cI p1 pl, cP2 cI p2 pl, cP3 cI p3 pl, cP4 cI p4 pl, cP5 cI p5 pl, cM0 m0 m1 m2 m3 m4 m5 g_16, cM1 cI m1 g_16, cM2 cJ m2 g_16, cM3 cJ m3 g_16, cM4 cI m4 g_16, cM5 cI m5 g_16, (o0, .inl (cJ, 1, .inr (.inl (if tX3_average (xs (i + 1)) 0 (xs (i + 3)) x g k tp pl = 0 then vp_updL f 0 (rX3_average (xs (i + 1)) 0 (xs (i + 3)) x g k tp pl) else f))))]) [0, 1, 2, 3, 4, 5, 6, 7, 8, 9, 10, 11, 12, 13, 14, 15, 16, 18, 19, 20, 21, 22, 23, 17] (by decide) rfl
    subst hw
    refine lv_iload hx hb dL_law_764 (lv_at hl 1 rfl) ?_
    refine lv_icmp_eq (tgt := 771) hx hb dL_law_766 (by decide) (fun c_18 => ?_) (fun c_18 => absurd (by rw [eg_16]; exact (R_average hR hn _ _ _).1) c_18)
    refine lv_iload hx hb dL_law_771 (lv_at hl 1 rfl) ?_
    refine lv_if_ne (tgt := 787) hx hb dL_law_773 (by decide) (fun c_19 => ?_) (fun c_19 => ?_)
    · refine lv_goto (tgt := 991) hx hb dL_law_787 (by decide) ?_
      subst eg_16
      refine W.widen (k := cells + 1) (n := slots + 6) (by omega) (by omega) ?_
      exact kk _ _ _ _ _ _ _ _ _ _ (R_average hR hn _ _ _).2.2 hP hD hS (lv_sub hl [2, 3, 4, 5, 6] rfl)
    · refine lv_aload_n hx hb dL_law_776 rfl (lv_at hl 5 rfl) ?_
      refine lv_iconst (v := 0) hx hb dL_law_777 (by decide) ?_
      refine va_lald hx hb hK hP 23 1 rfl rfl (vd (by decide +kernel)) dL_law_778 ?_
      refine lv_lload hx hb dL_law_779 (lv_at hl 0 rfl) ?_
      refine W.lcmp hx hb dL_law_781 ?_
      refine lv_if_eq (tgt := 787) hx hb dL_law_782 (by decide) (fun c_20 => ?_) (fun c_20 => absurd ((lg_cmp_eq _ _).mpr (by rw [if_pos c_19, show (0 : Int32).toNatClampNeg = 0 from by decide, pk_uLs]; exact (R_average hR hn _ _ _).2.1 c_19)) c_20)
      refine lv_goto (tgt := 991) hx hb dL_law_787 (by decide) ?_
      subst eg_16
      refine W.widen (k := cells + 1) (n := slots + 6) (by omega) (by omega) ?_
      exact kk _ _ _ _ _ _ _ _ _ _ (R_average hR hn _ _ _).2.2 hP hD hS (lv_sub hl [2, 3, 4, 5, 6] rfl)
  · refine lv_iconst (v := 1) hx hb dL_law_711 (by decide) ?_
    refine lv_goto (tgt := 716) hx hb dL_law_712 (by decide) ?_
    refine lv_aload_n hx hb dL_law_716 rfl (lv_at hl 0 rfl) ?_
    refine lv_iload hx hb dL_law_717 (lv_at hl 4 rfl) ?_
    refine lv_iconst (v := 3) hx hb dL_law_719 (by decide) ?_
    refine lv_iadd hx hb dL_law_720 ?_
    refine lv_topi (fun z_21 ez_21 => ?_)
    obtain rfl : z_21 = nI (i + 3) := ez_21.trans (nI_add i 3)
    refine va_sld hx hb hX hbl hbA hS (vp_in_nI (by omega) (by omega)) dL_law_721 ?_
    refine lv_topi (fun z_22 ez_22 => ?_)
    rw [nI_clamp (by omega)] at ez_22
    subst ez_22
    refine lv_aload_n hx hb dL_law_722 rfl (lv_at hl 3 rfl) ?_
    have hPc := hP.sub (ws' := [cX0 h0 n0 k0 t0 p0 x, cL0 n0 n1 n2 n3 g, cL1 cJ n1 g, cL2 cI n2 g, cL3 cI n3 g, cL0 k0 k1 k2 k3 k, cL1 cJ k1 k, cL2 cI k2 k, cL3 cI k3 k, cT0 t0 t1 tp, cT1 cI t1 tp, cP0 p0 p1 p2 p3 p4 p5 pl, cP1 cI p1 pl, cP2 cI p2 pl, cP3 cI p3 pl, cP4 cI p4 pl, cP5 cI p5 pl, (o0, .inl (cJ, 1, .inr (.inl f)))]) [0, 1, 2, 3, 4, 5, 6, 7, 8, 9, 10, 11, 12, 13, 14, 15, 16, 23] rfl
    have hDc := hD.sub (ws' := [cX0 h0 n0 k0 t0 p0 x, cL0 n0 n1 n2 n3 g, cL1 cJ n1 g, cL2 cI n2 g, cL3 cI n3 g, cL0 k0 k1 k2 k3 k, cL1 cJ k1 k, cL2 cI k2 k, cL3 cI k3 k, cT0 t0 t1 tp, cT1 cI t1 tp, cP0 p0 p1 p2 p3 p4 p5 pl, cP1 cI p1 pl, cP2 cI p2 pl, cP3 cI p3 pl, cP4 cI p4 pl, cP5 cI p5 pl, (o0, .inl (cJ, 1, .inr (.inl f)))]) [0, 1, 2, 3, 4, 5, 6, 7, 8, 9, 10, 11, 12, 13, 14, 15, 16, 23] (by decide) rfl
    have hFc := va_free (wc := [cX0 h0 n0 k0 t0 p0 x, cL0 n0 n1 n2 n3 g, cL1 cJ n1 g, cL2 cI n2 g, cL3 cI n3 g, cL0 k0 k1 k2 k3 k, cL1 cJ k1 k, cL2 cI k2 k, cL3 cI k3 k, cT0 t0 t1 tp, cT1 cI t1 tp, cP0 p0 p1 p2 p3 p4 p5 pl, cP1 cI p1 pl, cP2 cI p2 pl, cP3 cI p3 pl, cP4 cI p4 pl, cP5 cI p5 pl, (o0, .inl (cJ, 1, .inr (.inl f)))]) hD hS hA [0, 1, 2, 3, 4, 5, 6, 7, 8, 9, 10, 11, 12, 13, 14, 15, 16, 23] rfl
    refine vx_calli (vx_runSX (As := [.ref h0, .int (xs (i + 1)), .int 1, .int (xs (i + 3)), .ref o0]) (rest := []) ⟨hx, hb, hml, hown, hts⟩ (kL_average l hl9 dC dI cI cJ h0 n0 k0 t0 p0 n1 n2 n3 k1 k2 k3 t1 p1 p2 p3 p4 p5 o0 H.size (xs (i + 1)) 1 (xs (i + 3)) x g k tp pl f (R_HA hR hn _)) (vx_cwSW 5 hts gY_L_average rfl rfl rfl (by decide +kernel) ⟨Nat.le_of_ble_eq_true rfl, Nat.le_of_ble_eq_true rfl⟩) ⟨fun a U g mk q => by obtain ⟨q0, q1, qP, qK, qD, qN, qX⟩ := q; exact ⟨q0, q1, qP, va_K.moved (u := U) (U := U.calling g mk a) (Vm.Alike.refl U.vm) qK, qD, nw_same (s := U) (U := U.calling g mk a) rfl qN, qX.same (u := U) (U := U.calling g mk a) rfl rfl⟩, fun U hU hW => ⟨rfl, by rw [hU], by rw [hU]; exact hPc, va_K.moved hW.alike hK, hDc.weaken (fun _ _ _ _ => trivial), nw_warm hW hN, hQ.at hS hU hW hFc⟩⟩ rfl rfl hl.1 rfl (lv_room (Nat.le_of_ble_eq_true rfl)) dL_law_723 ⟨(by show _ ≤ (1053 : Nat); omega), (by show _ ≤ (11950 : Nat); omega)⟩) hS (fun q _ h => hFc q h) hFc (fun q _ h => hFc q h) (fun _ _ _ _ _ _ _ _ _ hw => hw.elim) (fun r_9 _ t H1 locs ht hvm hw hB hz1 hk1 hS => ?_)
    obtain ⟨hP1, hK1, hD1⟩ := hB
    rw [ht] at hP1
    obtain ⟨hP, hD⟩ := va_join (wr := [cM0 m0 m1 m2 m3 m4 m5 v, cM1 cI m1 v, cM2 cJ m2 v, cM3 cJ m3 v, cM4 cI m4 v, cM5 cI m5 v]) (w1 := [cX0 h0 n0 k0 t0 p0 x, cL0 n0 n1 n2 n3 g, cL1 cJ n1 g, cL2 cI n2 g, cL3 cI n3 g, cL0 k0 k1 k2 k3 k, cL1 cJ k1 k, cL2 cI k2 k, cL3 cI k3 k, cT0 t0 t1 tp, cT1 cI t1 tp, cP0 p0 p1 p2 p3 p4 p5 pl, cP1 cI p1 pl, cP2 cI p2 pl, cP3 cI p3 pl, cP4 cI p4 pl, cP5 cI p5 pl, (o0, .inl (cJ, 1, .inr (.inl (if tX3_average (xs (i + 1)) 1 (xs (i + 3)) x g k tp pl = 0 then vp_updL f 0 (rX3_average (xs (i + 1)) 1 (xs (i + 3)) x g k tp pl) else f))))]) hP hD [0, 1, 2, 3, 4, 5, 6, 7, 8, 9, 10, 11, 12, 13, 14, 15, 16, 23] [17, 18, 19, 20, 21, 22] rfl rfl (by decide) (by decide) hk1 hFc hP1 hD1
    generalize H1 = H at hP hS ⊢
    have hP := hP.sub (ws' := [cX0 h0 n0 k0 t0 p0 x, cL0 n0 n1 n2 n3 g, cL1 cJ n1 g, cL2 cI n2 g, cL3 cI n3 g, cL0 k0 k1 k2 k3 k, cL1 cJ k1 k, cL2 cI k2 k, cL3 cI k3 k, cT0 t0 t1 tp, cT1 cI t1 tp, cP0 p0 p1 p2 p3 p4 p5 pl, cP1 cI p1 pl, cP2 cI p2 pl, cP3 cI p3 pl, cP4 cI p4 pl, cP5 cI p5 pl, cM0 m0 m1 m2 m3 m4 m5 v, cM1 cI m1 v, cM2 cJ m2 v, cM3 cJ m3 v, cM4 cI m4 v, cM5 cI m5 v, (o0, .inl (cJ, 1, .inr (.inl (if tX3_average (xs (i + 1)) 1 (xs (i + 3)) x g k tp pl = 0 then vp_updL f 0 (rX3_average (xs (i + 1)) 1 (xs (i + 3)) x g k tp pl) else f))))]) [6, 7, 8, 9, 10, 11, 12, 13, 14, 15, 16, 17, 18, 19, 20, 21, 22, 0, 1, 2, 3, 4, 5, 23] rfl
    have hD := hD.sub (ws' := [cX0 h0 n0 k0 t0 p0 x, cL0 n0 n1 n2 n3 g, cL1 cJ n1 g, cL2 cI n2 g, cL3 cI n3 g, cL0 k0 k1 k2 k3 k, cL1 cJ k1 k, cL2 cI k2 k, cL3 cI k3 k, cT0 t0 t1 tp, cT1 cI t1 tp, cP0 p0 p1 p2 p3 p4 p5 pl, cP1 cI p1 pl, cP2 cI p2 pl, cP3 cI p3 pl, cP4 cI p4 pl, cP5 cI p5 pl, cM0 m0 m1 m2 m3 m4 m5 v, cM1 cI m1 v, cM2 cJ m2 v, cM3 cJ m3 v, cM4 cI m4 v, cM5 cI m5 v, (o0, .inl (cJ, 1, .inr (.inl (if tX3_average (xs (i + 1)) 1 (xs (i + 3)) x g k tp pl = 0 then vp_updL f 0 (rX3_average (xs (i + 1)) 1 (xs (i + 3)) x g k tp pl) else f))))]) [6, 7, 8, 9, 10, 11, 12, 13, 14, 15, 16, 17, 18, 19, 20, 21, 22, 0, 1, 2, 3, 4, 5, 23] (by decide) rfl
    subst hw
    refine lv_istore (lv' := [(5, .int (tX3_average (xs (i + 1)) 1 (xs (i + 3)) x g k tp pl)), (0, .ref b), (1, .ref h0), (2, .ref m0), (3, .ref o0), (4, .int (nI i))]) hx hb dL_law_726 hl (by decide) rfl (fun ls hl => ?_)
    refine lv_aload_n hx hb dL_law_728 rfl (lv_at hl 3 rfl) ?_
    refine lv_aload_n hx hb dL_law_729 rfl (lv_at hl 1 rfl) ?_
    refine lv_iload hx hb dL_law_730 (lv_at hl 5 rfl) ?_
    refine lv_iconst (v := 1) hx hb dL_law_732 (by decide) ?_
    refine lv_iadd hx hb dL_law_733 ?_
    refine lv_topi (fun z_23 ez_23 => ?_)
    obtain rfl : z_23 = nI (i + 1) := ez_23.trans (nI_add i 1)
    refine va_sld hx hb hX hbl hbA hS (vp_in_nI (by omega) (by omega)) dL_law_734 ?_
    refine lv_topi (fun z_24 ez_24 => ?_)
    rw [nI_clamp (by omega)] at ez_24
    subst ez_24
    refine lv_aload_n hx hb dL_law_735 rfl (lv_at hl 1 rfl) ?_
    refine lv_iload hx hb dL_law_736 (lv_at hl 5 rfl) ?_
    refine lv_iconst (v := 2) hx hb dL_law_738 (by decide) ?_
    refine lv_iadd hx hb dL_law_739 ?_
    refine lv_topi (fun z_25 ez_25 => ?_)
    obtain rfl : z_25 = nI (i + 2) := ez_25.trans (nI_add i 2)
    refine va_sld hx hb hX hbl hbA hS (vp_in_nI (by omega) (by omega)) dL_law_740 ?_
    refine lv_topi (fun z_26 ez_26 => ?_)
    rw [nI_clamp (by omega)] at ez_26
    subst ez_26
    refine lv_if_eq (tgt := 748) hx hb dL_law_741 (by decide) (fun c_27 => absurd c_27 c_5) (fun c_27 => ?_)
    refine lv_iconst (v := 1) hx hb dL_law_744 (by decide) ?_
    refine lv_goto (tgt := 749) hx hb dL_law_745 (by decide) ?_
    refine lv_aload_n hx hb dL_law_749 rfl (lv_at hl 1 rfl) ?_
    refine lv_iload hx hb dL_law_750 (lv_at hl 5 rfl) ?_
    refine lv_iconst (v := 3) hx hb dL_law_752 (by decide) ?_
    refine lv_iadd hx hb dL_law_753 ?_
    refine lv_topi (fun z_28 ez_28 => ?_)
    obtain rfl : z_28 = nI (i + 3) := ez_28.trans (nI_add i 3)
    refine va_sld hx hb hX hbl hbA hS (vp_in_nI (by omega) (by omega)) dL_law_754 ?_
    refine lv_topi (fun z_29 ez_29 => ?_)
    rw [nI_clamp (by omega)] at ez_29
    subst ez_29
    have hPc := hP.sub (ws' := [cM0 m0 m1 m2 m3 m4 m5 v, cM1 cI m1 v, cM2 cJ m2 v, cM3 cJ m3 v, cM4 cI m4 v, cM5 cI m5 v]) [17, 18, 19, 20, 21, 22] rfl
    have hDc := hD.sub (ws' := [cM0 m0 m1 m2 m3 m4 m5 v, cM1 cI m1 v, cM2 cJ m2 v, cM3 cJ m3 v, cM4 cI m4 v, cM5 cI m5 v]) [17, 18, 19, 20, 21, 22] (by decide) rfl
    have hFc := va_free (wc := [cM0 m0 m1 m2 m3 m4 m5 v, cM1 cI m1 v, cM2 cJ m2 v, cM3 cJ m3 v, cM4 cI m4 v, cM5 cI m5 v]) hD hS hA [17, 18, 19, 20, 21, 22] rfl
    refine va_calll (va_runV (As := [.int (xs (i + 1)), .int 1, .int (xs (i + 3))]) (rest := []) ⟨hx, hb, hml, hown, hts⟩ (kX4_average l dC dI cI cJ m0 m1 m2 m3 m4 m5 H.size (xs (i + 1)) 1 (xs (i + 3)) v (R_HM hR hn)) (cwV 3 hts gY_X4_average rfl rfl rfl (by decide +kernel) ⟨Nat.le_of_ble_eq_true rfl, Nat.le_of_ble_eq_true rfl⟩) ⟨fun a U g mk q => by obtain ⟨q0, q1, qP, qK, qD⟩ := q; exact ⟨q0, q1, qP, va_K.moved (u := U) (U := U.calling g mk a) (Vm.Alike.refl U.vm) qK, qD⟩, va_recv hK hPc (ci := 4) (q0 := 0) rfl rfl, fun U hU hW => ⟨rfl, by rw [hU], by rw [hU]; exact hPc, va_K.moved hW.alike hK, hDc.weaken (fun _ _ _ _ => trivial)⟩⟩ rfl rfl hl.1 rfl (lv_room (Nat.le_of_ble_eq_true rfl)) dL_law_755 ⟨(by show _ ≤ (1053 : Nat); omega), (by show _ ≤ (11950 : Nat); omega)⟩) hS (fun q _ h => hFc q h) hFc (fun r_30 _ t H1 locs ht hvm hw hB hz1 hk1 hS => ?_)
    obtain ⟨hP1, hK1, hD1⟩ := hB
    rw [ht] at hP1
    obtain ⟨g_31, eg_31⟩ : ∃ z, z = sX4_average (xs (i + 1)) 1 (xs (i + 3)) v := ⟨_, rfl⟩
    rw [← eg_31] at hP1 hD1
    obtain ⟨hP, hD⟩ := va_join (wr := [cX0 h0 n0 k0 t0 p0 x, cL0 n0 n1 n2 n3 g, cL1 cJ n1 g, cL2 cI n2 g, cL3 cI n3 g, cL0 k0 k1 k2 k3 k, cL1 cJ k1 k, cL2 cI k2 k, cL3 cI k3 k, cT0 t0 t1 tp, cT1 cI t1 tp, cP0 p0 p1 p2 p3 p4 p5 pl, cP1 cI p1 pl, cP2 cI p2 pl, cP3 cI p3 pl, cP4 cI p4 pl, cP5 cI p5 pl, (o0, .inl (cJ, 1, .inr (.inl (if tX3_average (xs (i + 1)) 1 (xs (i + 3)) x g k tp pl = 0 then vp_updL f 0 (rX3_average (xs (i + 1)) 1 (xs (i + 3)) x g k tp pl) else f))))]) (w1 := [cM0 m0 m1 m2 m3 m4 m5 g_31, cM1 cI m1 g_31, cM2 cJ m2 g_31, cM3 cJ m3 g_31, cM4 cI m4 g_31, cM5 cI m5 g_31]) hP hD [17, 18, 19, 20, 21, 22] [0, 1, 2, 3, 4, 5, 6, 7, 8, 9, 10, 11, 12, 13, 14, 15, 16, 23] rfl rfl (by decide) (by decide) hk1 hFc hP1 hD1
    generalize H1 = H at hP hS ⊢
    have hP := hP.sub (ws' := [cX0 h0 n0 k0 t0 p0 x, cL0 n0 n1 n2 n3 g, cL1 cJ n1 g, cL2 cI n2 g, cL3 cI n3 g, cL0 k0 k1 k2 k3 k, cL1 cJ k1 k, cL2 cI k2 k, cL3 cI k3 k, cT0 t0 t1 tp, cT1 cI t1 tp, cP0 p0 p1 p2 p3 p4 p5 pl, cP1 cI p1 pl, cP2 cI p2 pl, cP3 cI p3 pl, cP4 cI p4 pl, cP5 cI p5 pl, cM0 m0 m1 m2 m3 m4 m5 g_31, cM1 cI m1 g_31, cM2 cJ m2 g_31, cM3 cJ m3 g_31, cM4 cI m4 g_31, cM5 cI m5 g_31, (o0, .inl (cJ, 1, .inr (.inl (if tX3_average (xs (i + 1)) 1 (xs (i + 3)) x g k tp pl = 0 then vp_updL f 0 (rX3_average (xs (i + 1)) 1 (xs (i + 3)) x g k tp pl) else f))))]) [0, 1, 2, 3, 4, 5, 6, 7, 8, 9, 10, 11, 12, 13, 14, 15, 16, 18, 19, 20, 21, 22, 23, 17] rfl
    have hD := hD.sub (ws' := [cX0 h0 n0 k0 t0 p0 x, cL0 n0 n1 n2 n3 g, cL1 cJ n1 g, cL2 cI n2 g, cL3 cI n3 g, cL0 k0 k1 k2 k3 k, cL1 cJ k1 k, cL2 cI k2 k, cL3 cI k3 k, cT0 t0 t1 tp, cT1 cI t1 tp, cP0 p0 p1 p2 p3 p4 p5 pl, cP1 cI p1 pl, cP2 cI p2 pl, cP3 cI p3 pl, cP4 cI p4 pl, cP5 cI p5 pl, cM0 m0 m1 m2 m3 m4 m5 g_31, cM1 cI m1 g_31, cM2 cJ m2 g_31, cM3 cJ m3 g_31, cM4 cI m4 g_31, cM5 cI m5 g_31, (o0, .inl (cJ, 1, .inr (.inl (if tX3_average (xs (i + 1)) 1 (xs (i + 3)) x g k tp pl = 0 then vp_updL f 0 (rX3_average (xs (i + 1)) 1 (xs (i + 3)) x g k tp pl) else f))))]) [0, 1, 2, 3, 4, 5, 6, 7, 8, 9, 10, 11, 12, 13, 14, 15, 16, 18, 19, 20, 21, 22, 23, 17] (by decide) rfl
    subst hw
    refine lv_lstore (lv' := [(6, .long (rX4_average (xs (i + 1)) 1 (xs (i + 3)) v)), (5, .int (tX3_average (xs (i + 1)) 1 (xs (i + 3)) x g k tp pl)), (0, .ref b), (1, .ref h0), (2, .ref m0), (3, .ref o0), (4, .int (nI i))]) hx hb dL_law_758 hl (by decide) rfl (fun ls hl => ?_)
    refine lv_aload_n hx hb dL_law_760 rfl (lv_at hl 4 rfl) ?_
    have hPc := hP.sub (ws' := [cM0 m0 m1 m2 m3 m4 m5 g_31, cM1 cI m1 g_31, cM2 cJ m2 g_31, cM3 cJ m3 g_31, cM4 cI m4 g_31, cM5 cI m5 g_31]) [17, 18, 19, 20, 21, 22] rfl
    have hDc := hD.sub (ws' := [cM0 m0 m1 m2 m3 m4 m5 g_31, cM1 cI m1 g_31, cM2 cJ m2 g_31, cM3 cJ m3 g_31, cM4 cI m4 g_31, cM5 cI m5 g_31]) [17, 18, 19, 20, 21, 22] (by decide) rfl
    have hFc := va_free (wc := [cM0 m0 m1 m2 m3 m4 m5 g_31, cM1 cI m1 g_31, cM2 cJ m2 g_31, cM3 cJ m3 g_31, cM4 cI m4 g_31, cM5 cI m5 g_31]) hD hS hA [17, 18, 19, 20, 21, 22] rfl
    refine va_calli (va_runV (As := []) (rest := []) ⟨hx, hb, hml, hown, hts⟩ (kX4_thrown l dC dI cI cJ m0 m1 m2 m3 m4 m5 H.size g_31) (cwV 0 hts gY_X4_thrown rfl rfl rfl (by decide +kernel) ⟨Nat.le_of_ble_eq_true rfl, Nat.le_of_ble_eq_true rfl⟩) ⟨fun a U g mk q => by obtain ⟨q0, q1, qP, qK, qD⟩ := q; exact ⟨q0, q1, qP, va_K.moved (u := U) (U := U.calling g mk a) (Vm.Alike.refl U.vm) qK, qD⟩, va_recv hK hPc (ci := 4) (q0 := 0) rfl rfl, fun U hU hW => ⟨rfl, by rw [hU], by rw [hU]; exact hPc, va_K.moved hW.alike hK, hDc.weaken (fun _ _ _ _ => trivial)⟩⟩ rfl rfl hl.1 rfl (lv_room (Nat.le_of_ble_eq_true rfl)) dL_law_761 ⟨(by show _ ≤ (1053 : Nat); omega), (by show _ ≤ (11950 : Nat); omega)⟩) hS (fun q _ h => hFc q h) hFc (fun r_32 _ t H1 locs ht hvm hw hB hz1 hk1 hS => ?_)
    obtain ⟨hP1, hK1, hD1⟩ := hB
    rw [ht] at hP1
    obtain ⟨hP, hD⟩ := va_join (wr := [cX0 h0 n0 k0 t0 p0 x, cL0 n0 n1 n2 n3 g, cL1 cJ n1 g, cL2 cI n2 g, cL3 cI n3 g, cL0 k0 k1 k2 k3 k, cL1 cJ k1 k, cL2 cI k2 k, cL3 cI k3 k, cT0 t0 t1 tp, cT1 cI t1 tp, cP0 p0 p1 p2 p3 p4 p5 pl, cP1 cI p1 pl, cP2 cI p2 pl, cP3 cI p3 pl, cP4 cI p4 pl, cP5 cI p5 pl, (o0, .inl (cJ, 1, .inr (.inl (if tX3_average (xs (i + 1)) 1 (xs (i + 3)) x g k tp pl = 0 then vp_updL f 0 (rX3_average (xs (i + 1)) 1 (xs (i + 3)) x g k tp pl) else f))))]) (w1 := [cM0 m0 m1 m2 m3 m4 m5 g_31, cM1 cI m1 g_31, cM2 cJ m2 g_31, cM3 cJ m3 g_31, cM4 cI m4 g_31, cM5 cI m5 g_31]) hP hD [17, 18, 19, 20, 21, 22] [0, 1, 2, 3, 4, 5, 6, 7, 8, 9, 10, 11, 12, 13, 14, 15, 16, 23] rfl rfl (by decide) (by decide) hk1 hFc hP1 hD1
    generalize H1 = H at hP hS ⊢
    have hP := hP.sub (ws' := [cX0 h0 n0 k0 t0 p0 x, cL0 n0 n1 n2 n3 g, cL1 cJ n1 g, cL2 cI n2 g, cL3 cI n3 g, cL0 k0 k1 k2 k3 k, cL1 cJ k1 k, cL2 cI k2 k, cL3 cI k3 k, cT0 t0 t1 tp, cT1 cI t1 tp, cP0 p0 p1 p2 p3 p4 p5 pl, cP1 cI p1 pl, cP2 cI p2 pl, cP3 cI p3 pl, cP4 cI p4 pl, cP5 cI p5 pl, cM0 m0 m1 m2 m3 m4 m5 g_31, cM1 cI m1 g_31, cM2 cJ m2 g_31, cM3 cJ m3 g_31, cM4 cI m4 g_31, cM5 cI m5 g_31, (o0, .inl (cJ, 1, .inr (.inl (if tX3_average (xs (i + 1)) 1 (xs (i + 3)) x g k tp pl = 0 then vp_updL f 0 (rX3_average (xs (i + 1)) 1 (xs (i + 3)) x g k tp pl) else f))))]) [0, 1, 2, 3, 4, 5, 6, 7, 8, 9, 10, 11, 12, 13, 14, 15, 16, 18, 19, 20, 21, 22, 23, 17] rfl
    have hD := hD.sub (ws' := [cX0 h0 n0 k0 t0 p0 x, cL0 n0 n1 n2 n3 g, cL1 cJ n1 g, cL2 cI n2 g, cL3 cI n3 g, cL0 k0 k1 k2 k3 k, cL1 cJ k1 k, cL2 cI k2 k, cL3 cI k3 k, cT0 t0 t1 tp, cT1 cI t1 tp, cP0 p0 p1 p2 p3 p4 p5 pl, cP1 cI p1 pl, cP2 cI p2 pl, cP3 cI p3 pl, cP4 cI p4 pl, cP5 cI p5 pl, cM0 m0 m1 m2 m3 m4 m5 g_31, cM1 cI m1 g_31, cM2 cJ m2 g_31, cM3 cJ m3 g_31, cM4 cI m4 g_31, cM5 cI m5 g_31, (o0, .inl (cJ, 1, .inr (.inl (if tX3_average (xs (i + 1)) 1 (xs (i + 3)) x g k tp pl = 0 then vp_updL f 0 (rX3_average (xs (i + 1)) 1 (xs (i + 3)) x g k tp pl) else f))))]) [0, 1, 2, 3, 4, 5, 6, 7, 8, 9, 10, 11, 12, 13, 14, 15, 16, 18, 19, 20, 21, 22, 23, 17] (by decide) rfl
    subst hw
    refine lv_iload hx hb dL_law_764 (lv_at hl 1 rfl) ?_
    refine lv_icmp_eq (tgt := 771) hx hb dL_law_766 (by decide) (fun c_33 => ?_) (fun c_33 => absurd (by rw [eg_31]; exact (R_average hR hn _ _ _).1) c_33)
    refine lv_iload hx hb dL_law_771 (lv_at hl 1 rfl) ?_
    refine lv_if_ne (tgt := 787) hx hb dL_law_773 (by decide) (fun c_34 => ?_) (fun c_34 => ?_)
    · refine lv_goto (tgt := 991) hx hb dL_law_787 (by decide) ?_
      subst eg_31
      refine W.widen (k := cells + 1) (n := slots + 6) (by omega) (by omega) ?_
      exact kk _ _ _ _ _ _ _ _ _ _ (R_average hR hn _ _ _).2.2 hP hD hS (lv_sub hl [2, 3, 4, 5, 6] rfl)
    · refine lv_aload_n hx hb dL_law_776 rfl (lv_at hl 5 rfl) ?_
      refine lv_iconst (v := 0) hx hb dL_law_777 (by decide) ?_
      refine va_lald hx hb hK hP 23 1 rfl rfl (vd (by decide +kernel)) dL_law_778 ?_
      refine lv_lload hx hb dL_law_779 (lv_at hl 0 rfl) ?_
      refine W.lcmp hx hb dL_law_781 ?_
      refine lv_if_eq (tgt := 787) hx hb dL_law_782 (by decide) (fun c_35 => ?_) (fun c_35 => absurd ((lg_cmp_eq _ _).mpr (by rw [if_pos c_34, show (0 : Int32).toNatClampNeg = 0 from by decide, pk_uLs]; exact (R_average hR hn _ _ _).2.1 c_34)) c_35)
      refine lv_goto (tgt := 991) hx hb dL_law_787 (by decide) ?_
      subst eg_31
      refine W.widen (k := cells + 1) (n := slots + 6) (by omega) (by omega) ?_
      exact kk _ _ _ _ _ _ _ _ _ _ (R_average hR hn _ _ _).2.2 hP hD hS (lv_sub hl [2, 3, 4, 5, 6] rfl)
