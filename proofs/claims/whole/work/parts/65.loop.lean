theorem RR_more {n : Nat} {x : XC} {g k : LG} {tp : TP} {pl : PL} {v : MS} (h : RR n x g k tp pl v) : RR (n + 1) x g k tp pl v := ⟨h.1, h.2.1, h.2.2.1, fun t => LQ_more (h.2.2.2 t) (by omega)⟩
theorem cmp6 {L i : Nat} (hL : L ≤ 3072) (hi : i ≤ 4000) : (Int32.ofNat L - 6 < nI i) ↔ L < i + 6 := by
  have x6 : (6 : Int32).toInt = 6 := by decide
  have e1 : (Int32.ofNat L).toInt = L := nI_toInt (n := L) (by omega)
  rw [fa_lt, fb_subI (by rw [e1, x6]; omega) (by rw [e1, x6]; omega), e1, x6, nI_toInt (by omega)]
  omega

set_option maxHeartbeats 4000000 in
set_option maxRecDepth 100000 in
theorem law_exit {p : Program} {l : Launch} {e : Env} {s : State} {m : MethodId} {below : List Frame} {meth : Method} {c : Code} {dC : Nat → ClassId} {dI : Nat → Nat → Nat} {cI cJ : ClassId} {b L : Nat} {xs : Nat → Int32} {h0 m0 o0 : Nat} (C1 : lwC p s m c (fun q : Nat => s.heap.size ≤ q) dC dI cI cJ b L xs) (hL : L ≤ 3072) (hl9 : l.stackTraces = false) (hr : meth.sig.returnType = ret) (hlocks : meth.locks = false) {n : Nat} (hn : 6 * n ≤ L + 6) (hi : L < 6 * n + 6) (H : Heap) (locs : List Loc) (ls : Array Slot) (hS : va_S (fun q : Nat => s.heap.size ≤ q) s.heap H locs) (hl : lv_has ls 8 [(0, .ref b), (1, .ref h0), (2, .ref m0), (3, .ref o0), (4, .int (nI (6 * n)))]) : W p l e room_1 s m #[Value.ref b] below meth c H locs (24 + n) (3728 + 6 * n) (lw_Z below #[Value.ref b] s) (F0 m 23 ls []) := by
  obtain ⟨hx, hb, hml, hown, hts, hX, hbl, hbA, hA, hK, hN, hQ⟩ := C1
  refine lv_iload hx hb dL_law_23 (lv_at hl 4 rfl) ?_
  refine lv_aload_n hx hb dL_law_25 rfl (lv_at hl 0 rfl) ?_
  refine va_slen hx hb hX hbl hbA hS dL_law_26 ?_
  refine lv_bipush (v := 6) hx hb dL_law_27 (by decide) ?_
  refine lv_isub hx hb dL_law_29 ?_
  refine lv_icmp_gt (tgt := 997) hx hb dL_law_30 (by decide) (fun c_1 => ?_) (fun c_1 => absurd ((cmp6 hL (by omega)).mpr hi) c_1)
  refine lv_iconst (v := 1) hx hb dL_law_997 (by decide) ?_
  refine va_forget (fun q hq => hS.2.2 q hq) ?_
  refine W.widen (k := 1053) (n := 11950) (by omega) (by omega) ?_
  exact lw_ret hx hb hr hlocks dL_law_998
set_option maxHeartbeats 4000000 in
set_option maxRecDepth 100000 in
theorem law_loop {p : Program} {l : Launch} {e : Env} {s : State} {m : MethodId} {below : List Frame} {meth : Method} {c : Code} {dC : Nat → ClassId} {dI : Nat → Nat → Nat} {cI cJ : ClassId} {b L : Nat} {xs : Nat → Int32} {h0 n0 k0 t0 p0 n1 n2 n3 k1 k2 k3 t1 p1 p2 p3 p4 p5 m0 m1 m2 m3 m4 m5 o0 : Nat} (C1 : lwC p s m c (fun q : Nat => s.heap.size ≤ q) dC dI cI cJ b L xs) (hL : L ≤ 3072) (hl9 : l.stackTraces = false) (hr : meth.sig.returnType = ret) (hlocks : meth.locks = false) : ∀ (r n : Nat) (x : XC) (g k : LG) (tp : TP) (pl : PL) (v : MS) (f : Nat → Int64) (H : Heap) (locs : List Loc) (ls : Array Slot), L + 6 ≤ 6 * n + 6 * r → 6 * n ≤ L + 6 → RR n x g k tp pl v → va_P (dC, dI) vwCl [cX0 h0 n0 k0 t0 p0 x, cL0 n0 n1 n2 n3 g, cL1 cJ n1 g, cL2 cI n2 g, cL3 cI n3 g, cL0 k0 k1 k2 k3 k, cL1 cJ k1 k, cL2 cI k2 k, cL3 cI k3 k, cT0 t0 t1 tp, cT1 cI t1 tp, cP0 p0 p1 p2 p3 p4 p5 pl, cP1 cI p1 pl, cP2 cI p2 pl, cP3 cI p3 pl, cP4 cI p4 pl, cP5 cI p5 pl, cM0 m0 m1 m2 m3 m4 m5 v, cM1 cI m1 v, cM2 cJ m2 v, cM3 cJ m3 v, cM4 cI m4 v, cM5 cI m5 v, (o0, .inl (cJ, 1, .inr (.inl f)))] H → va_D (fun q : Nat => s.heap.size ≤ q) [cX0 h0 n0 k0 t0 p0 x, cL0 n0 n1 n2 n3 g, cL1 cJ n1 g, cL2 cI n2 g, cL3 cI n3 g, cL0 k0 k1 k2 k3 k, cL1 cJ k1 k, cL2 cI k2 k, cL3 cI k3 k, cT0 t0 t1 tp, cT1 cI t1 tp, cP0 p0 p1 p2 p3 p4 p5 pl, cP1 cI p1 pl, cP2 cI p2 pl, cP3 cI p3 pl, cP4 cI p4 pl, cP5 cI p5 pl, cM0 m0 m1 m2 m3 m4 m5 v, cM1 cI m1 v, cM2 cJ m2 v, cM3 cJ m3 v, cM4 cI m4 v, cM5 cI m5 v, (o0, .inl (cJ, 1, .inr (.inl f)))] → va_S (fun q : Nat => s.heap.size ≤ q) s.heap H locs → lv_has ls 8 [(0, .ref b), (1, .ref h0), (2, .ref m0), (3, .ref o0), (4, .int (nI (6 * n)))] → W p l e room_1 s m #[Value.ref b] below meth c H locs (24 + n) (3728 + 6 * n) (lw_Z below #[Value.ref b] s) (F0 m 23 ls []) := by
  intro r
  induction r with
  | zero =>
    intro n x g k tp pl v f H locs ls h1 h2 hR hP hD hS hl
    exact law_exit C1 hL hl9 hr hlocks h2 (by omega) H locs ls hS hl
  | succ r ih =>
    intro n x g k tp pl v f H locs ls h1 h2 hR hP hD hS hl
    by_cases hi : L < 6 * n + 6
    · exact law_exit C1 hL hl9 hr hlocks h2 hi H locs ls hS hl
    have kk : ∀ (x : XC) (g k : LG) (tp : TP) (pl : PL) (v : MS) (f : Nat → Int64) (H : Heap) (locs : List Loc) (ls : Array Slot), RR (n + 1) x g k tp pl v → va_P (dC, dI) vwCl [cX0 h0 n0 k0 t0 p0 x, cL0 n0 n1 n2 n3 g, cL1 cJ n1 g, cL2 cI n2 g, cL3 cI n3 g, cL0 k0 k1 k2 k3 k, cL1 cJ k1 k, cL2 cI k2 k, cL3 cI k3 k, cT0 t0 t1 tp, cT1 cI t1 tp, cP0 p0 p1 p2 p3 p4 p5 pl, cP1 cI p1 pl, cP2 cI p2 pl, cP3 cI p3 pl, cP4 cI p4 pl, cP5 cI p5 pl, cM0 m0 m1 m2 m3 m4 m5 v, cM1 cI m1 v, cM2 cJ m2 v, cM3 cJ m3 v, cM4 cI m4 v, cM5 cI m5 v, (o0, .inl (cJ, 1, .inr (.inl f)))] H → va_D (fun q : Nat => s.heap.size ≤ q) [cX0 h0 n0 k0 t0 p0 x, cL0 n0 n1 n2 n3 g, cL1 cJ n1 g, cL2 cI n2 g, cL3 cI n3 g, cL0 k0 k1 k2 k3 k, cL1 cJ k1 k, cL2 cI k2 k, cL3 cI k3 k, cT0 t0 t1 tp, cT1 cI t1 tp, cP0 p0 p1 p2 p3 p4 p5 pl, cP1 cI p1 pl, cP2 cI p2 pl, cP3 cI p3 pl, cP4 cI p4 pl, cP5 cI p5 pl, cM0 m0 m1 m2 m3 m4 m5 v, cM1 cI m1 v, cM2 cJ m2 v, cM3 cJ m3 v, cM4 cI m4 v, cM5 cI m5 v, (o0, .inl (cJ, 1, .inr (.inl f)))] → va_S (fun q : Nat => s.heap.size ≤ q) s.heap H locs → lv_has ls 8 [(0, .ref b), (1, .ref h0), (2, .ref m0), (3, .ref o0), (4, .int (nI (6 * n)))] → W p l e room_1 s m #[Value.ref b] below meth c H locs ((24 + n) + 1) ((3728 + 6 * n) + 6) (lw_Z below #[Value.ref b] s) (F0 m 991 ls []) := by
      intro x g k tp pl v f H locs ls hR hP hD hS hl
      obtain ⟨hx, hb, hml, hown, hts, hX, hbl, hbA, hA, hK, hN, hQ⟩ := id C1
      refine lv_iinc (v := nI (6 * (n + 1))) (lv' := [(4, .int (nI (6 * (n + 1)))), (0, .ref b), (1, .ref h0), (2, .ref m0), (3, .ref o0)]) hx hb dL_law_991 hl (k := 4) rfl (nI_add (6 * n) 6) (by decide) rfl (fun ls hl => ?_)
      refine lv_goto (tgt := 23) hx hb dL_law_994 (by decide) ?_
      refine W.widen (k := 24 + (n + 1)) (n := 3728 + 6 * (n + 1)) (by omega) (by omega) ?_
      exact ih (n + 1) x g k tp pl v f H locs ls (by omega) (by omega) hR hP hD hS (lv_sub hl [1, 2, 3, 4, 0] rfl)
    obtain ⟨hx, hb, hml, hown, hts, hX, hbl, hbA, hA, hK, hN, hQ⟩ := id C1
    refine lv_iload hx hb dL_law_23 (lv_at hl 4 rfl) ?_
    refine lv_aload_n hx hb dL_law_25 rfl (lv_at hl 0 rfl) ?_
    refine va_slen hx hb hX hbl hbA hS dL_law_26 ?_
    refine lv_bipush (v := 6) hx hb dL_law_27 (by decide) ?_
    refine lv_isub hx hb dL_law_29 ?_
    refine lv_icmp_gt (tgt := 997) hx hb dL_law_30 (by decide) (fun c_1 => absurd ((cmp6 hL (by omega)).mp c_1) hi) (fun c_1 => ?_)
    refine lv_aload_n hx hb dL_law_33 rfl (lv_at hl 0 rfl) ?_
    refine lv_iload hx hb dL_law_34 (lv_at hl 4 rfl) ?_
    refine va_sld hx hb hX hbl hbA hS (vp_in_nI (by omega) (by omega)) dL_law_36 ?_
    refine lv_bipush (v := 31) hx hb dL_law_37 (by decide) ?_
    refine lv_iand hx hb dL_law_39 ?_
    refine lv_topi (fun y ey => ?_)
    clear ey
    by_cases c0 : y = 0
    · refine lv_tableIn (off := 96) (tgt := 136) hx hb dL_law_40 (by rw [c0]; decide) (by rw [c0]; decide) (by rw [c0]; rfl) (by decide) ?_
      exact lc_feed C1 hL hl9 (by omega) (by omega) (by omega) (by omega) hR kk H locs ls hP hD hS hl
    by_cases c1 : y = 1
    · refine lv_tableIn (off := 169) (tgt := 209) hx hb dL_law_40 (by rw [c1]; decide) (by rw [c1]; decide) (by rw [c1]; rfl) (by decide) ?_
      exact lc_end C1 hL hl9 (by omega) (by omega) (by omega) (by omega) hR kk H locs ls hP hD hS hl
    by_cases c2 : y = 2
    · refine lv_tableIn (off := 194) (tgt := 234) hx hb dL_law_40 (by rw [c2]; decide) (by rw [c2]; decide) (by rw [c2]; rfl) (by decide) ?_
      exact lc_car C1 hL hl9 (by omega) (by omega) (by omega) (by omega) hR kk H locs ls hP hD hS hl
    by_cases c3 : y = 3
    · refine lv_tableIn (off := 243) (tgt := 283) hx hb dL_law_40 (by rw [c3]; decide) (by rw [c3]; decide) (by rw [c3]; rfl) (by decide) ?_
      exact lc_bounds C1 hL hl9 (by omega) (by omega) (by omega) (by omega) hR kk H locs ls hP hD hS hl
    by_cases c4 : y = 4
    · refine lv_tableIn (off := 304) (tgt := 344) hx hb dL_law_40 (by rw [c4]; decide) (by rw [c4]; decide) (by rw [c4]; rfl) (by decide) ?_
      exact lc_drive C1 hL hl9 (by omega) (by omega) (by omega) (by omega) hR kk H locs ls hP hD hS hl
    by_cases c5 : y = 5
    · refine lv_tableIn (off := 353) (tgt := 393) hx hb dL_law_40 (by rw [c5]; decide) (by rw [c5]; decide) (by rw [c5]; rfl) (by decide) ?_
      exact lc_gap C1 hL hl9 (by omega) (by omega) (by omega) (by omega) hR kk H locs ls hP hD hS hl
    by_cases c6 : y = 6
    · refine lv_tableIn (off := 378) (tgt := 418) hx hb dL_law_40 (by rw [c6]; decide) (by rw [c6]; decide) (by rw [c6]; rfl) (by decide) ?_
      exact lc_tells C1 hL hl9 (by omega) (by omega) (by omega) (by omega) hR kk H locs ls hP hD hS hl
    by_cases c7 : y = 7
    · refine lv_tableIn (off := 403) (tgt := 443) hx hb dL_law_40 (by rw [c7]; decide) (by rw [c7]; decide) (by rw [c7]; rfl) (by decide) ?_
      exact lc_set C1 hL hl9 (by omega) (by omega) (by omega) (by omega) hR kk H locs ls hP hD hS hl
    by_cases c8 : y = 8
    · refine lv_tableIn (off := 428) (tgt := 468) hx hb dL_law_40 (by rw [c8]; decide) (by rw [c8]; decide) (by rw [c8]; rfl) (by decide) ?_
      exact lc_keep C1 hL hl9 (by omega) (by omega) (by omega) (by omega) hR kk H locs ls hP hD hS hl
    by_cases c9 : y = 9
    · refine lv_tableIn (off := 439) (tgt := 479) hx hb dL_law_40 (by rw [c9]; decide) (by rw [c9]; decide) (by rw [c9]; rfl) (by decide) ?_
      exact lc_dead C1 hL hl9 (by omega) (by omega) (by omega) (by omega) hR kk H locs ls hP hD hS hl
    by_cases c10 : y = 10
    · refine lv_tableIn (off := 464) (tgt := 504) hx hb dL_law_40 (by rw [c10]; decide) (by rw [c10]; decide) (by rw [c10]; rfl) (by decide) ?_
      exact lc_span C1 hL hl9 (by omega) (by omega) (by omega) (by omega) hR kk H locs ls hP hD hS hl
    by_cases c11 : y = 11
    · refine lv_tableIn (off := 505) (tgt := 545) hx hb dL_law_40 (by rw [c11]; decide) (by rw [c11]; decide) (by rw [c11]; rfl) (by decide) ?_
      exact lc_mark C1 hL hl9 (by omega) (by omega) (by omega) (by omega) hR kk H locs ls hP hD hS hl
    by_cases c12 : y = 12
    · refine lv_tableIn (off := 572) (tgt := 612) hx hb dL_law_40 (by rw [c12]; decide) (by rw [c12]; decide) (by rw [c12]; rfl) (by decide) ?_
      exact lc_metres C1 hL hl9 (by omega) (by omega) (by omega) (by omega) hR kk H locs ls hP hD hS hl
    by_cases c13 : y = 13
    · refine lv_tableIn (off := 655) (tgt := 695) hx hb dL_law_40 (by rw [c13]; decide) (by rw [c13]; decide) (by rw [c13]; rfl) (by decide) ?_
      exact lc_average C1 hL hl9 (by omega) (by omega) (by omega) (by omega) hR kk H locs ls hP hD hS hl
    by_cases c14 : y = 14
    · refine lv_tableIn (off := 750) (tgt := 790) hx hb dL_law_40 (by rw [c14]; decide) (by rw [c14]; decide) (by rw [c14]; rfl) (by decide) ?_
      exact lc_range C1 hL hl9 (by omega) (by omega) (by omega) (by omega) hR kk H locs ls hP hD hS hl
    by_cases c15 : y = 15
    · refine lv_tableIn (off := 791) (tgt := 831) hx hb dL_law_40 (by rw [c15]; decide) (by rw [c15]; decide) (by rw [c15]; rfl) (by decide) ?_
      exact lc_shown C1 hL hl9 (by omega) (by omega) (by omega) (by omega) hR kk H locs ls hP hD hS hl
    by_cases c16 : y = 16
    · refine lv_tableIn (off := 804) (tgt := 844) hx hb dL_law_40 (by rw [c16]; decide) (by rw [c16]; decide) (by rw [c16]; rfl) (by decide) ?_
      exact lc_refill C1 hL hl9 (by omega) (by omega) (by omega) (by omega) hR kk H locs ls hP hD hS hl
    by_cases c17 : y = 17
    · refine lv_tableIn (off := 888) (tgt := 928) hx hb dL_law_40 (by rw [c17]; decide) (by rw [c17]; decide) (by rw [c17]; rfl) (by decide) ?_
      exact lc_plan C1 hL hl9 (by omega) (by omega) (by omega) (by omega) hR kk H locs ls hP hD hS hl
    by_cases c18 : y = 18
    · refine lv_tableIn (off := 901) (tgt := 941) hx hb dL_law_40 (by rw [c18]; decide) (by rw [c18]; decide) (by rw [c18]; rfl) (by decide) ?_
      exact lc_buys C1 hL hl9 (by omega) (by omega) (by omega) (by omega) hR kk H locs ls hP hD hS hl
    by_cases c19 : y = 19
    · refine lv_tableIn (off := 926) (tgt := 966) hx hb dL_law_40 (by rw [c19]; decide) (by rw [c19]; decide) (by rw [c19]; rfl) (by decide) ?_
      exact lc_count C1 hL hl9 (by omega) (by omega) (by omega) (by omega) hR kk H locs ls hP hD hS hl
    refine lv_tableOut (tgt := 991) hx hb dL_law_40 (sw19 (fun j hj => ?_)) (by decide) ?_
    · have : j = 0 ∨ j = 1 ∨ j = 2 ∨ j = 3 ∨ j = 4 ∨ j = 5 ∨ j = 6 ∨ j = 7 ∨ j = 8 ∨ j = 9 ∨ j = 10 ∨ j = 11 ∨ j = 12 ∨ j = 13 ∨ j = 14 ∨ j = 15 ∨ j = 16 ∨ j = 17 ∨ j = 18 ∨ j = 19 := by omega
      rcases this with rfl | rfl | rfl | rfl | rfl | rfl | rfl | rfl | rfl | rfl | rfl | rfl | rfl | rfl | rfl | rfl | rfl | rfl | rfl | rfl
      · exact c0
      · exact c1
      · exact c2
      · exact c3
      · exact c4
      · exact c5
      · exact c6
      · exact c7
      · exact c8
      · exact c9
      · exact c10
      · exact c11
      · exact c12
      · exact c13
      · exact c14
      · exact c15
      · exact c16
      · exact c17
      · exact c18
      · exact c19
    · refine W.widen (k := (24 + n) + 1) (n := (3728 + 6 * n) + 6) (by omega) (by omega) ?_
      exact kk x g k tp pl v f H locs ls (RR_more hR) hP hD hS hl
