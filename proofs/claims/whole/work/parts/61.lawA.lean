/-- what holds all through the law: the machine, the words, the script, the classes, what a throw needs -/
def lwC (p : Program) (s : State) (m : MethodId) (c : Code) (A : Nat → Prop) (dC : Nat → ClassId) (dI : Nat → Nat → Nat) (cI cJ : ClassId) (b L : Nat) (xs : Nat → Int32) : Prop := p.tables.exec = Jvm.exec ∧ c.code = cL_law ∧ c.maxLocals = 8 ∧ s.vm.findClass RL = some m.cls ∧ (∀ w ∈ wsY_law, w.before #[Value.ref b] s = true) ∧ va_X b L xs s s.heap ∧ b < s.heap.size ∧ ¬ A b ∧ (∀ q : Nat, s.heap.size ≤ q → A q) ∧ va_K (dC, dI) vwCl [(cI, .int), (cJ, .long)] s ∧ nw s ∧ xq A s

set_option maxHeartbeats 4000000 in
set_option maxRecDepth 100000 in
theorem lc_feed {p : Program} {l : Launch} {e : Env} {s : State} {m : MethodId} {below : List Frame} {meth : Method} {c : Code} {A : Nat → Prop} {dC : Nat → ClassId} {dI : Nat → Nat → Nat} {cI cJ : ClassId} {b L : Nat} {xs : Nat → Int32} {h0 n0 k0 t0 p0 n1 n2 n3 k1 k2 k3 t1 p1 p2 p3 p4 p5 m0 m1 m2 m3 m4 m5 o0 : Nat} {cells slots n i : Nat} {x : XC} {g k : LG} {tp : TP} {pl : PL} {v : MS} {f : Nat → Int64} (C1 : lwC p s m c A dC dI cI cJ b L xs) (hL : L ≤ 3072) (hl9 : l.stackTraces = false) (hn : n ≤ 600) (hi : i + 6 ≤ L) (hc : cells + 1 ≤ 1053) (hs : slots + 6 ≤ 11950) (hR : RR n x g k tp pl v) (kk : ∀ (x : XC) (g k : LG) (tp : TP) (pl : PL) (v : MS) (f : Nat → Int64) (H : Heap) (locs : List Loc) (ls : Array Slot), RR (n + 1) x g k tp pl v → va_P (dC, dI) vwCl [cX0 h0 n0 k0 t0 p0 x, cL0 n0 n1 n2 n3 g, cL1 cJ n1 g, cL2 cI n2 g, cL3 cI n3 g, cL0 k0 k1 k2 k3 k, cL1 cJ k1 k, cL2 cI k2 k, cL3 cI k3 k, cT0 t0 t1 tp, cT1 cI t1 tp, cP0 p0 p1 p2 p3 p4 p5 pl, cP1 cI p1 pl, cP2 cI p2 pl, cP3 cI p3 pl, cP4 cI p4 pl, cP5 cI p5 pl, cM0 m0 m1 m2 m3 m4 m5 v, cM1 cI m1 v, cM2 cJ m2 v, cM3 cJ m3 v, cM4 cI m4 v, cM5 cI m5 v, (o0, .inl (cJ, 1, .inr (.inl f)))] H → va_D A [cX0 h0 n0 k0 t0 p0 x, cL0 n0 n1 n2 n3 g, cL1 cJ n1 g, cL2 cI n2 g, cL3 cI n3 g, cL0 k0 k1 k2 k3 k, cL1 cJ k1 k, cL2 cI k2 k, cL3 cI k3 k, cT0 t0 t1 tp, cT1 cI t1 tp, cP0 p0 p1 p2 p3 p4 p5 pl, cP1 cI p1 pl, cP2 cI p2 pl, cP3 cI p3 pl, cP4 cI p4 pl, cP5 cI p5 pl, cM0 m0 m1 m2 m3 m4 m5 v, cM1 cI m1 v, cM2 cJ m2 v, cM3 cJ m3 v, cM4 cI m4 v, cM5 cI m5 v, (o0, .inl (cJ, 1, .inr (.inl f)))] → va_S A s.heap H locs → lv_has ls 8 [(0, .ref b), (1, .ref h0), (2, .ref m0), (3, .ref o0), (4, .int (nI i))] → W p l e room_1 s m #[Value.ref b] below meth c H locs (cells + 1) (slots + 6) (lw_Z below #[Value.ref b] s) (F0 m 991 ls [])) (H : Heap) (locs : List Loc) (ls : Array Slot) (hP : va_P (dC, dI) vwCl [cX0 h0 n0 k0 t0 p0 x, cL0 n0 n1 n2 n3 g, cL1 cJ n1 g, cL2 cI n2 g, cL3 cI n3 g, cL0 k0 k1 k2 k3 k, cL1 cJ k1 k, cL2 cI k2 k, cL3 cI k3 k, cT0 t0 t1 tp, cT1 cI t1 tp, cP0 p0 p1 p2 p3 p4 p5 pl, cP1 cI p1 pl, cP2 cI p2 pl, cP3 cI p3 pl, cP4 cI p4 pl, cP5 cI p5 pl, cM0 m0 m1 m2 m3 m4 m5 v, cM1 cI m1 v, cM2 cJ m2 v, cM3 cJ m3 v, cM4 cI m4 v, cM5 cI m5 v, (o0, .inl (cJ, 1, .inr (.inl f)))] H) (hD : va_D A [cX0 h0 n0 k0 t0 p0 x, cL0 n0 n1 n2 n3 g, cL1 cJ n1 g, cL2 cI n2 g, cL3 cI n3 g, cL0 k0 k1 k2 k3 k, cL1 cJ k1 k, cL2 cI k2 k, cL3 cI k3 k, cT0 t0 t1 tp, cT1 cI t1 tp, cP0 p0 p1 p2 p3 p4 p5 pl, cP1 cI p1 pl, cP2 cI p2 pl, cP3 cI p3 pl, cP4 cI p4 pl, cP5 cI p5 pl, cM0 m0 m1 m2 m3 m4 m5 v, cM1 cI m1 v, cM2 cJ m2 v, cM3 cJ m3 v, cM4 cI m4 v, cM5 cI m5 v, (o0, .inl (cJ, 1, .inr (.inl f)))]) (hS : va_S A s.heap H locs) (hl : lv_has ls 8 [(0, .ref b), (1, .ref h0), (2, .ref m0), (3, .ref o0), (4, .int (nI i))]) : W p l e room_1 s m #[Value.ref b] below meth c H locs cells slots (lw_Z below #[Value.ref b] s) (F0 m 136 ls []) := by
  obtain ⟨hx, hb, hml, hown, hts, hX, hbl, hbA, hA, hK, hN, hQ⟩ := C1
  refine lv_aload_n hx hb dL_law_136 rfl (lv_at hl 1 rfl) ?_
  refine lv_aload_n hx hb dL_law_137 rfl (lv_at hl 0 rfl) ?_
  refine lv_iload hx hb dL_law_138 (lv_at hl 4 rfl) ?_
  refine lv_iconst (v := 1) hx hb dL_law_140 (by decide) ?_
  refine lv_iadd hx hb dL_law_141 ?_
  refine lv_topi (fun z_1 ez_1 => ?_)
  obtain rfl : z_1 = nI (i + 1) := ez_1.trans (nI_add i 1)
  refine va_sld hx hb hX hbl hbA hS (vp_in_nI (by omega) (by omega)) dL_law_142 ?_
  refine lv_topi (fun z_2 ez_2 => ?_)
  rw [nI_clamp (by omega)] at ez_2
  subst ez_2
  refine lv_aload_n hx hb dL_law_143 rfl (lv_at hl 0 rfl) ?_
  refine lv_iload hx hb dL_law_144 (lv_at hl 4 rfl) ?_
  refine lv_iconst (v := 2) hx hb dL_law_146 (by decide) ?_
  refine lv_iadd hx hb dL_law_147 ?_
  refine lv_topi (fun z_3 ez_3 => ?_)
  obtain rfl : z_3 = nI (i + 2) := ez_3.trans (nI_add i 2)
  refine va_sld hx hb hX hbl hbA hS (vp_in_nI (by omega) (by omega)) dL_law_148 ?_
  refine lv_topi (fun z_4 ez_4 => ?_)
  rw [nI_clamp (by omega)] at ez_4
  subst ez_4
  refine lv_aload_n hx hb dL_law_149 rfl (lv_at hl 0 rfl) ?_
  refine lv_iload hx hb dL_law_150 (lv_at hl 4 rfl) ?_
  refine lv_iconst (v := 3) hx hb dL_law_152 (by decide) ?_
  refine lv_iadd hx hb dL_law_153 ?_
  refine lv_topi (fun z_5 ez_5 => ?_)
  obtain rfl : z_5 = nI (i + 3) := ez_5.trans (nI_add i 3)
  refine va_sld hx hb hX hbl hbA hS (vp_in_nI (by omega) (by omega)) dL_law_154 ?_
  refine lv_topi (fun z_6 ez_6 => ?_)
  rw [nI_clamp (by omega)] at ez_6
  subst ez_6
  refine lv_aload_n hx hb dL_law_155 rfl (lv_at hl 0 rfl) ?_
  refine lv_iload hx hb dL_law_156 (lv_at hl 4 rfl) ?_
  refine lv_iconst (v := 4) hx hb dL_law_158 (by decide) ?_
  refine lv_iadd hx hb dL_law_159 ?_
  refine lv_topi (fun z_7 ez_7 => ?_)
  obtain rfl : z_7 = nI (i + 4) := ez_7.trans (nI_add i 4)
  refine va_sld hx hb hX hbl hbA hS (vp_in_nI (by omega) (by omega)) dL_law_160 ?_
  refine lv_topi (fun z_8 ez_8 => ?_)
  rw [nI_clamp (by omega)] at ez_8
  subst ez_8
  refine lv_aload_n hx hb dL_law_161 rfl (lv_at hl 0 rfl) ?_
  refine lv_iload hx hb dL_law_162 (lv_at hl 4 rfl) ?_
  refine lv_iconst (v := 5) hx hb dL_law_164 (by decide) ?_
  refine lv_iadd hx hb dL_law_165 ?_
  refine lv_topi (fun z_9 ez_9 => ?_)
  obtain rfl : z_9 = nI (i + 5) := ez_9.trans (nI_add i 5)
  refine va_sld hx hb hX hbl hbA hS (vp_in_nI (by omega) (by omega)) dL_law_166 ?_
  refine lv_topi (fun z_10 ez_10 => ?_)
  rw [nI_clamp (by omega)] at ez_10
  subst ez_10
  have hPc := hP.sub (ws' := [cX0 h0 n0 k0 t0 p0 x, cL0 n0 n1 n2 n3 g, cL1 cJ n1 g, cL2 cI n2 g, cL3 cI n3 g, cL0 k0 k1 k2 k3 k, cL1 cJ k1 k, cL2 cI k2 k, cL3 cI k3 k, cT0 t0 t1 tp, cT1 cI t1 tp, cP0 p0 p1 p2 p3 p4 p5 pl, cP1 cI p1 pl, cP2 cI p2 pl, cP3 cI p3 pl, cP4 cI p4 pl, cP5 cI p5 pl]) [0, 1, 2, 3, 4, 5, 6, 7, 8, 9, 10, 11, 12, 13, 14, 15, 16] rfl
  have hDc := hD.sub (ws' := [cX0 h0 n0 k0 t0 p0 x, cL0 n0 n1 n2 n3 g, cL1 cJ n1 g, cL2 cI n2 g, cL3 cI n3 g, cL0 k0 k1 k2 k3 k, cL1 cJ k1 k, cL2 cI k2 k, cL3 cI k3 k, cT0 t0 t1 tp, cT1 cI t1 tp, cP0 p0 p1 p2 p3 p4 p5 pl, cP1 cI p1 pl, cP2 cI p2 pl, cP3 cI p3 pl, cP4 cI p4 pl, cP5 cI p5 pl]) [0, 1, 2, 3, 4, 5, 6, 7, 8, 9, 10, 11, 12, 13, 14, 15, 16] (by decide) rfl
  have hFc := va_free (wc := [cX0 h0 n0 k0 t0 p0 x, cL0 n0 n1 n2 n3 g, cL1 cJ n1 g, cL2 cI n2 g, cL3 cI n3 g, cL0 k0 k1 k2 k3 k, cL1 cJ k1 k, cL2 cI k2 k, cL3 cI k3 k, cT0 t0 t1 tp, cT1 cI t1 tp, cP0 p0 p1 p2 p3 p4 p5 pl, cP1 cI p1 pl, cP2 cI p2 pl, cP3 cI p3 pl, cP4 cI p4 pl, cP5 cI p5 pl]) hD hS hA [0, 1, 2, 3, 4, 5, 6, 7, 8, 9, 10, 11, 12, 13, 14, 15, 16] rfl
  refine va_calli (va_runV (As := [.int (xs (i + 1)), .int (xs (i + 2)), .int (xs (i + 3)), .int (xs (i + 4)), .int (xs (i + 5))]) (rest := []) ⟨hx, hb, hml, hown, hts⟩ (kX3_feed l dC dI cI cJ h0 n0 k0 t0 p0 n1 n2 n3 k1 k2 k3 t1 p1 p2 p3 p4 p5 H.size (xs (i + 1)) (xs (i + 2)) (xs (i + 3)) (xs (i + 4)) (xs (i + 5)) x g k tp pl (hy_tp hR)) (cwV 5 hts gY_X3_feed rfl rfl rfl (by decide +kernel) ⟨Nat.le_of_ble_eq_true rfl, Nat.le_of_ble_eq_true rfl⟩) ⟨fun a U g mk q => by obtain ⟨q0, q1, qP, qK, qD, qN⟩ := q; exact ⟨q0, q1, qP, va_K.moved (u := U) (U := U.calling g mk a) (Vm.Alike.refl U.vm) qK, qD, nw_same (s := U) (U := U.calling g mk a) rfl qN⟩, va_recv hK hPc (ci := 3) (q0 := 0) rfl rfl, fun U hU hW => ⟨rfl, by rw [hU], by rw [hU]; exact hPc, va_K.moved hW.alike hK, hDc.weaken (fun _ _ _ _ => trivial), nw_warm hW hN⟩⟩ rfl rfl hl.1 rfl (lv_room (Nat.le_of_ble_eq_true rfl)) dL_law_167 ⟨(by show _ ≤ (1053 : Nat); omega), (by show _ ≤ (11950 : Nat); omega)⟩) hS (fun q _ h => hFc q h) hFc (fun r_11 _ t H1 locs ht hvm hw hB hz1 hk1 hS => ?_)
  obtain ⟨hP1, hK1, hD1⟩ := hB
  rw [ht] at hP1
  obtain ⟨g_12, eg_12⟩ : ∃ z, z = sX3_feed (xs (i + 1)) (xs (i + 2)) (xs (i + 3)) (xs (i + 4)) (xs (i + 5)) x g k tp pl := ⟨_, rfl⟩
  rw [← eg_12] at hP1 hD1
  obtain ⟨hP, hD⟩ := va_join (wr := [cM0 m0 m1 m2 m3 m4 m5 v, cM1 cI m1 v, cM2 cJ m2 v, cM3 cJ m3 v, cM4 cI m4 v, cM5 cI m5 v, (o0, .inl (cJ, 1, .inr (.inl f)))]) (w1 := [cX0 h0 n0 k0 t0 p0 x, cL0 n0 n1 n2 n3 g, cL1 cJ n1 g, cL2 cI n2 g, cL3 cI n3 g, cL0 k0 k1 k2 k3 k, cL1 cJ k1 k, cL2 cI k2 k, cL3 cI k3 k, cT0 t0 t1 g_12, cT1 cI t1 g_12, cP0 p0 p1 p2 p3 p4 p5 pl, cP1 cI p1 pl, cP2 cI p2 pl, cP3 cI p3 pl, cP4 cI p4 pl, cP5 cI p5 pl]) hP hD [0, 1, 2, 3, 4, 5, 6, 7, 8, 9, 10, 11, 12, 13, 14, 15, 16] [17, 18, 19, 20, 21, 22, 23] rfl rfl (by decide) (by decide) hk1 hFc hP1 hD1
  generalize H1 = H at hP hS ⊢
  have hP := hP.sub (ws' := [cX0 h0 n0 k0 t0 p0 x, cL0 n0 n1 n2 n3 g, cL1 cJ n1 g, cL2 cI n2 g, cL3 cI n3 g, cL0 k0 k1 k2 k3 k, cL1 cJ k1 k, cL2 cI k2 k, cL3 cI k3 k, cT0 t0 t1 g_12, cT1 cI t1 g_12, cP0 p0 p1 p2 p3 p4 p5 pl, cP1 cI p1 pl, cP2 cI p2 pl, cP3 cI p3 pl, cP4 cI p4 pl, cP5 cI p5 pl, cM0 m0 m1 m2 m3 m4 m5 v, cM1 cI m1 v, cM2 cJ m2 v, cM3 cJ m3 v, cM4 cI m4 v, cM5 cI m5 v, (o0, .inl (cJ, 1, .inr (.inl f)))]) [7, 8, 9, 10, 11, 12, 13, 14, 15, 16, 17, 18, 19, 20, 21, 22, 23, 0, 1, 2, 3, 4, 5, 6] rfl
  have hD := hD.sub (ws' := [cX0 h0 n0 k0 t0 p0 x, cL0 n0 n1 n2 n3 g, cL1 cJ n1 g, cL2 cI n2 g, cL3 cI n3 g, cL0 k0 k1 k2 k3 k, cL1 cJ k1 k, cL2 cI k2 k, cL3 cI k3 k, cT0 t0 t1 g_12, cT1 cI t1 g_12, cP0 p0 p1 p2 p3 p4 p5 pl, cP1 cI p1 pl, cP2 cI p2 pl, cP3 cI p3 pl, cP4 cI p4 pl, cP5 cI p5 pl, cM0 m0 m1 m2 m3 m4 m5 v, cM1 cI m1 v, cM2 cJ m2 v, cM3 cJ m3 v, cM4 cI m4 v, cM5 cI m5 v, (o0, .inl (cJ, 1, .inr (.inl f)))]) [7, 8, 9, 10, 11, 12, 13, 14, 15, 16, 17, 18, 19, 20, 21, 22, 23, 0, 1, 2, 3, 4, 5, 6] (by decide) rfl
  subst hw
  refine lv_aload_n hx hb dL_law_170 rfl (lv_at hl 2 rfl) ?_
  refine lv_aload_n hx hb dL_law_171 rfl (lv_at hl 0 rfl) ?_
  refine lv_iload hx hb dL_law_172 (lv_at hl 4 rfl) ?_
  refine lv_iconst (v := 1) hx hb dL_law_174 (by decide) ?_
  refine lv_iadd hx hb dL_law_175 ?_
  refine lv_topi (fun z_13 ez_13 => ?_)
  obtain rfl : z_13 = nI (i + 1) := ez_13.trans (nI_add i 1)
  refine va_sld hx hb hX hbl hbA hS (vp_in_nI (by omega) (by omega)) dL_law_176 ?_
  refine lv_topi (fun z_14 ez_14 => ?_)
  rw [nI_clamp (by omega)] at ez_14
  subst ez_14
  refine lv_aload_n hx hb dL_law_177 rfl (lv_at hl 0 rfl) ?_
  refine lv_iload hx hb dL_law_178 (lv_at hl 4 rfl) ?_
  refine lv_iconst (v := 2) hx hb dL_law_180 (by decide) ?_
  refine lv_iadd hx hb dL_law_181 ?_
  refine lv_topi (fun z_15 ez_15 => ?_)
  obtain rfl : z_15 = nI (i + 2) := ez_15.trans (nI_add i 2)
  refine va_sld hx hb hX hbl hbA hS (vp_in_nI (by omega) (by omega)) dL_law_182 ?_
  refine lv_topi (fun z_16 ez_16 => ?_)
  rw [nI_clamp (by omega)] at ez_16
  subst ez_16
  refine lv_aload_n hx hb dL_law_183 rfl (lv_at hl 0 rfl) ?_
  refine lv_iload hx hb dL_law_184 (lv_at hl 4 rfl) ?_
  refine lv_iconst (v := 3) hx hb dL_law_186 (by decide) ?_
  refine lv_iadd hx hb dL_law_187 ?_
  refine lv_topi (fun z_17 ez_17 => ?_)
  obtain rfl : z_17 = nI (i + 3) := ez_17.trans (nI_add i 3)
  refine va_sld hx hb hX hbl hbA hS (vp_in_nI (by omega) (by omega)) dL_law_188 ?_
  refine lv_topi (fun z_18 ez_18 => ?_)
  rw [nI_clamp (by omega)] at ez_18
  subst ez_18
  refine lv_aload_n hx hb dL_law_189 rfl (lv_at hl 0 rfl) ?_
  refine lv_iload hx hb dL_law_190 (lv_at hl 4 rfl) ?_
  refine lv_iconst (v := 4) hx hb dL_law_192 (by decide) ?_
  refine lv_iadd hx hb dL_law_193 ?_
  refine lv_topi (fun z_19 ez_19 => ?_)
  obtain rfl : z_19 = nI (i + 4) := ez_19.trans (nI_add i 4)
  refine va_sld hx hb hX hbl hbA hS (vp_in_nI (by omega) (by omega)) dL_law_194 ?_
  refine lv_topi (fun z_20 ez_20 => ?_)
  rw [nI_clamp (by omega)] at ez_20
  subst ez_20
  refine lv_aload_n hx hb dL_law_195 rfl (lv_at hl 0 rfl) ?_
  refine lv_iload hx hb dL_law_196 (lv_at hl 4 rfl) ?_
  refine lv_iconst (v := 5) hx hb dL_law_198 (by decide) ?_
  refine lv_iadd hx hb dL_law_199 ?_
  refine lv_topi (fun z_21 ez_21 => ?_)
  obtain rfl : z_21 = nI (i + 5) := ez_21.trans (nI_add i 5)
  refine va_sld hx hb hX hbl hbA hS (vp_in_nI (by omega) (by omega)) dL_law_200 ?_
  refine lv_topi (fun z_22 ez_22 => ?_)
  rw [nI_clamp (by omega)] at ez_22
  subst ez_22
  have hPc := hP.sub (ws' := [cM0 m0 m1 m2 m3 m4 m5 v, cM1 cI m1 v, cM2 cJ m2 v, cM3 cJ m3 v, cM4 cI m4 v, cM5 cI m5 v]) [17, 18, 19, 20, 21, 22] rfl
  have hDc := hD.sub (ws' := [cM0 m0 m1 m2 m3 m4 m5 v, cM1 cI m1 v, cM2 cJ m2 v, cM3 cJ m3 v, cM4 cI m4 v, cM5 cI m5 v]) [17, 18, 19, 20, 21, 22] (by decide) rfl
  have hFc := va_free (wc := [cM0 m0 m1 m2 m3 m4 m5 v, cM1 cI m1 v, cM2 cJ m2 v, cM3 cJ m3 v, cM4 cI m4 v, cM5 cI m5 v]) hD hS hA [17, 18, 19, 20, 21, 22] rfl
  refine va_calli (va_runV (As := [.int (xs (i + 1)), .int (xs (i + 2)), .int (xs (i + 3)), .int (xs (i + 4)), .int (xs (i + 5))]) (rest := [.int (rX3_feed (xs (i + 1)) (xs (i + 2)) (xs (i + 3)) (xs (i + 4)) (xs (i + 5)) x g k tp pl)]) ⟨hx, hb, hml, hown, hts⟩ (kX4_feed l dC dI cI cJ m0 m1 m2 m3 m4 m5 H.size (xs (i + 1)) (xs (i + 2)) (xs (i + 3)) (xs (i + 4)) (xs (i + 5)) v tp.2.toNatClampNeg (hy_tn hR).1 (hy_tn hR).2) (cwV 5 hts gY_X4_feed rfl rfl rfl (by decide +kernel) ⟨Nat.le_of_ble_eq_true rfl, Nat.le_of_ble_eq_true rfl⟩) ⟨fun a U g mk q => by obtain ⟨q0, q1, qP, qK, qD⟩ := q; exact ⟨q0, q1, qP, va_K.moved (u := U) (U := U.calling g mk a) (Vm.Alike.refl U.vm) qK, qD⟩, va_recv hK hPc (ci := 4) (q0 := 0) rfl rfl, fun U hU hW => ⟨rfl, by rw [hU], by rw [hU]; exact hPc, va_K.moved hW.alike hK, hDc.weaken (fun _ _ _ _ => trivial)⟩⟩ rfl rfl hl.1 rfl (lv_room (Nat.le_of_ble_eq_true rfl)) dL_law_201 ⟨(by show _ ≤ (1053 : Nat); omega), (by show _ ≤ (11950 : Nat); omega)⟩) hS (fun q _ h => hFc q h) hFc (fun r_23 _ t H1 locs ht hvm hw hB hz1 hk1 hS => ?_)
  obtain ⟨hP1, hK1, hD1⟩ := hB
  rw [ht] at hP1
  obtain ⟨g_24, eg_24⟩ : ∃ z, z = sX4_feed (xs (i + 1)) (xs (i + 2)) (xs (i + 3)) (xs (i + 4)) (xs (i + 5)) v := ⟨_, rfl⟩
  rw [← eg_24] at hP1 hD1
  obtain ⟨hP, hD⟩ := va_join (wr := [cX0 h0 n0 k0 t0 p0 x, cL0 n0 n1 n2 n3 g, cL1 cJ n1 g, cL2 cI n2 g, cL3 cI n3 g, cL0 k0 k1 k2 k3 k, cL1 cJ k1 k, cL2 cI k2 k, cL3 cI k3 k, cT0 t0 t1 g_12, cT1 cI t1 g_12, cP0 p0 p1 p2 p3 p4 p5 pl, cP1 cI p1 pl, cP2 cI p2 pl, cP3 cI p3 pl, cP4 cI p4 pl, cP5 cI p5 pl, (o0, .inl (cJ, 1, .inr (.inl f)))]) (w1 := [cM0 m0 m1 m2 m3 m4 m5 g_24, cM1 cI m1 g_24, cM2 cJ m2 g_24, cM3 cJ m3 g_24, cM4 cI m4 g_24, cM5 cI m5 g_24]) hP hD [17, 18, 19, 20, 21, 22] [0, 1, 2, 3, 4, 5, 6, 7, 8, 9, 10, 11, 12, 13, 14, 15, 16, 23] rfl rfl (by decide) (by decide) hk1 hFc hP1 hD1
  generalize H1 = H at hP hS ⊢
  have hP := hP.sub (ws' := [cX0 h0 n0 k0 t0 p0 x, cL0 n0 n1 n2 n3 g, cL1 cJ n1 g, cL2 cI n2 g, cL3 cI n3 g, cL0 k0 k1 k2 k3 k, cL1 cJ k1 k, cL2 cI k2 k, cL3 cI k3 k, cT0 t0 t1 g_12, cT1 cI t1 g_12, cP0 p0 p1 p2 p3 p4 p5 pl, cP1 cI p1 pl, cP2 cI p2 pl, cP3 cI p3 pl, cP4 cI p4 pl, cP5 cI p5 pl, cM0 m0 m1 m2 m3 m4 m5 g_24, cM1 cI m1 g_24, cM2 cJ m2 g_24, cM3 cJ m3 g_24, cM4 cI m4 g_24, cM5 cI m5 g_24, (o0, .inl (cJ, 1, .inr (.inl f)))]) [0, 1, 2, 3, 4, 5, 6, 7, 8, 9, 10, 11, 12, 13, 14, 15, 16, 18, 19, 20, 21, 22, 23, 17] rfl
  have hD := hD.sub (ws' := [cX0 h0 n0 k0 t0 p0 x, cL0 n0 n1 n2 n3 g, cL1 cJ n1 g, cL2 cI n2 g, cL3 cI n3 g, cL0 k0 k1 k2 k3 k, cL1 cJ k1 k, cL2 cI k2 k, cL3 cI k3 k, cT0 t0 t1 g_12, cT1 cI t1 g_12, cP0 p0 p1 p2 p3 p4 p5 pl, cP1 cI p1 pl, cP2 cI p2 pl, cP3 cI p3 pl, cP4 cI p4 pl, cP5 cI p5 pl, cM0 m0 m1 m2 m3 m4 m5 g_24, cM1 cI m1 g_24, cM2 cJ m2 g_24, cM3 cJ m3 g_24, cM4 cI m4 g_24, cM5 cI m5 g_24, (o0, .inl (cJ, 1, .inr (.inl f)))]) [0, 1, 2, 3, 4, 5, 6, 7, 8, 9, 10, 11, 12, 13, 14, 15, 16, 18, 19, 20, 21, 22, 23, 17] (by decide) rfl
  subst hw
  refine lv_icmp_eq (tgt := 991) hx hb dL_law_204 (by decide) (fun c_25 => ?_) (fun c_25 => absurd (R_feed hR hn _ _ _ _ _).1 c_25)
  subst eg_12
  subst eg_24
  refine W.widen (k := cells + 1) (n := slots + 6) (by omega) (by omega) ?_
  exact kk _ _ _ _ _ _ _ _ _ _ (R_feed hR hn _ _ _ _ _).2 hP hD hS (lv_sub hl [0, 1, 2, 3, 4] rfl)

set_option maxHeartbeats 4000000 in
set_option maxRecDepth 100000 in
theorem lc_end {p : Program} {l : Launch} {e : Env} {s : State} {m : MethodId} {below : List Frame} {meth : Method} {c : Code} {A : Nat → Prop} {dC : Nat → ClassId} {dI : Nat → Nat → Nat} {cI cJ : ClassId} {b L : Nat} {xs : Nat → Int32} {h0 n0 k0 t0 p0 n1 n2 n3 k1 k2 k3 t1 p1 p2 p3 p4 p5 m0 m1 m2 m3 m4 m5 o0 : Nat} {cells slots n i : Nat} {x : XC} {g k : LG} {tp : TP} {pl : PL} {v : MS} {f : Nat → Int64} (C1 : lwC p s m c A dC dI cI cJ b L xs) (hL : L ≤ 3072) (hl9 : l.stackTraces = false) (hn : n ≤ 600) (hi : i + 6 ≤ L) (hc : cells + 1 ≤ 1053) (hs : slots + 6 ≤ 11950) (hR : RR n x g k tp pl v) (kk : ∀ (x : XC) (g k : LG) (tp : TP) (pl : PL) (v : MS) (f : Nat → Int64) (H : Heap) (locs : List Loc) (ls : Array Slot), RR (n + 1) x g k tp pl v → va_P (dC, dI) vwCl [cX0 h0 n0 k0 t0 p0 x, cL0 n0 n1 n2 n3 g, cL1 cJ n1 g, cL2 cI n2 g, cL3 cI n3 g, cL0 k0 k1 k2 k3 k, cL1 cJ k1 k, cL2 cI k2 k, cL3 cI k3 k, cT0 t0 t1 tp, cT1 cI t1 tp, cP0 p0 p1 p2 p3 p4 p5 pl, cP1 cI p1 pl, cP2 cI p2 pl, cP3 cI p3 pl, cP4 cI p4 pl, cP5 cI p5 pl, cM0 m0 m1 m2 m3 m4 m5 v, cM1 cI m1 v, cM2 cJ m2 v, cM3 cJ m3 v, cM4 cI m4 v, cM5 cI m5 v, (o0, .inl (cJ, 1, .inr (.inl f)))] H → va_D A [cX0 h0 n0 k0 t0 p0 x, cL0 n0 n1 n2 n3 g, cL1 cJ n1 g, cL2 cI n2 g, cL3 cI n3 g, cL0 k0 k1 k2 k3 k, cL1 cJ k1 k, cL2 cI k2 k, cL3 cI k3 k, cT0 t0 t1 tp, cT1 cI t1 tp, cP0 p0 p1 p2 p3 p4 p5 pl, cP1 cI p1 pl, cP2 cI p2 pl, cP3 cI p3 pl, cP4 cI p4 pl, cP5 cI p5 pl, cM0 m0 m1 m2 m3 m4 m5 v, cM1 cI m1 v, cM2 cJ m2 v, cM3 cJ m3 v, cM4 cI m4 v, cM5 cI m5 v, (o0, .inl (cJ, 1, .inr (.inl f)))] → va_S A s.heap H locs → lv_has ls 8 [(0, .ref b), (1, .ref h0), (2, .ref m0), (3, .ref o0), (4, .int (nI i))] → W p l e room_1 s m #[Value.ref b] below meth c H locs (cells + 1) (slots + 6) (lw_Z below #[Value.ref b] s) (F0 m 991 ls [])) (H : Heap) (locs : List Loc) (ls : Array Slot) (hP : va_P (dC, dI) vwCl [cX0 h0 n0 k0 t0 p0 x, cL0 n0 n1 n2 n3 g, cL1 cJ n1 g, cL2 cI n2 g, cL3 cI n3 g, cL0 k0 k1 k2 k3 k, cL1 cJ k1 k, cL2 cI k2 k, cL3 cI k3 k, cT0 t0 t1 tp, cT1 cI t1 tp, cP0 p0 p1 p2 p3 p4 p5 pl, cP1 cI p1 pl, cP2 cI p2 pl, cP3 cI p3 pl, cP4 cI p4 pl, cP5 cI p5 pl, cM0 m0 m1 m2 m3 m4 m5 v, cM1 cI m1 v, cM2 cJ m2 v, cM3 cJ m3 v, cM4 cI m4 v, cM5 cI m5 v, (o0, .inl (cJ, 1, .inr (.inl f)))] H) (hD : va_D A [cX0 h0 n0 k0 t0 p0 x, cL0 n0 n1 n2 n3 g, cL1 cJ n1 g, cL2 cI n2 g, cL3 cI n3 g, cL0 k0 k1 k2 k3 k, cL1 cJ k1 k, cL2 cI k2 k, cL3 cI k3 k, cT0 t0 t1 tp, cT1 cI t1 tp, cP0 p0 p1 p2 p3 p4 p5 pl, cP1 cI p1 pl, cP2 cI p2 pl, cP3 cI p3 pl, cP4 cI p4 pl, cP5 cI p5 pl, cM0 m0 m1 m2 m3 m4 m5 v, cM1 cI m1 v, cM2 cJ m2 v, cM3 cJ m3 v, cM4 cI m4 v, cM5 cI m5 v, (o0, .inl (cJ, 1, .inr (.inl f)))]) (hS : va_S A s.heap H locs) (hl : lv_has ls 8 [(0, .ref b), (1, .ref h0), (2, .ref m0), (3, .ref o0), (4, .int (nI i))]) : W p l e room_1 s m #[Value.ref b] below meth c H locs cells slots (lw_Z below #[Value.ref b] s) (F0 m 209 ls []) := by
  obtain ⟨hx, hb, hml, hown, hts, hX, hbl, hbA, hA, hK, hN, hQ⟩ := C1
  refine lv_aload_n hx hb dL_law_209 rfl (lv_at hl 1 rfl) ?_
  refine lv_aload_n hx hb dL_law_210 rfl (lv_at hl 0 rfl) ?_
  refine lv_iload hx hb dL_law_211 (lv_at hl 4 rfl) ?_
  refine lv_iconst (v := 1) hx hb dL_law_213 (by decide) ?_
  refine lv_iadd hx hb dL_law_214 ?_
  refine lv_topi (fun z_1 ez_1 => ?_)
  obtain rfl : z_1 = nI (i + 1) := ez_1.trans (nI_add i 1)
  refine va_sld hx hb hX hbl hbA hS (vp_in_nI (by omega) (by omega)) dL_law_215 ?_
  refine lv_topi (fun z_2 ez_2 => ?_)
  rw [nI_clamp (by omega)] at ez_2
  subst ez_2
  have hPc := hP.sub (ws' := [cX0 h0 n0 k0 t0 p0 x, cL0 n0 n1 n2 n3 g, cL1 cJ n1 g, cL2 cI n2 g, cL3 cI n3 g, cL0 k0 k1 k2 k3 k, cL1 cJ k1 k, cL2 cI k2 k, cL3 cI k3 k, cT0 t0 t1 tp, cT1 cI t1 tp, cP0 p0 p1 p2 p3 p4 p5 pl, cP1 cI p1 pl, cP2 cI p2 pl, cP3 cI p3 pl, cP4 cI p4 pl, cP5 cI p5 pl]) [0, 1, 2, 3, 4, 5, 6, 7, 8, 9, 10, 11, 12, 13, 14, 15, 16] rfl
  have hDc := hD.sub (ws' := [cX0 h0 n0 k0 t0 p0 x, cL0 n0 n1 n2 n3 g, cL1 cJ n1 g, cL2 cI n2 g, cL3 cI n3 g, cL0 k0 k1 k2 k3 k, cL1 cJ k1 k, cL2 cI k2 k, cL3 cI k3 k, cT0 t0 t1 tp, cT1 cI t1 tp, cP0 p0 p1 p2 p3 p4 p5 pl, cP1 cI p1 pl, cP2 cI p2 pl, cP3 cI p3 pl, cP4 cI p4 pl, cP5 cI p5 pl]) [0, 1, 2, 3, 4, 5, 6, 7, 8, 9, 10, 11, 12, 13, 14, 15, 16] (by decide) rfl
  have hFc := va_free (wc := [cX0 h0 n0 k0 t0 p0 x, cL0 n0 n1 n2 n3 g, cL1 cJ n1 g, cL2 cI n2 g, cL3 cI n3 g, cL0 k0 k1 k2 k3 k, cL1 cJ k1 k, cL2 cI k2 k, cL3 cI k3 k, cT0 t0 t1 tp, cT1 cI t1 tp, cP0 p0 p1 p2 p3 p4 p5 pl, cP1 cI p1 pl, cP2 cI p2 pl, cP3 cI p3 pl, cP4 cI p4 pl, cP5 cI p5 pl]) hD hS hA [0, 1, 2, 3, 4, 5, 6, 7, 8, 9, 10, 11, 12, 13, 14, 15, 16] rfl
  refine va_calli (va_runV (As := [.int (xs (i + 1))]) (rest := []) ⟨hx, hb, hml, hown, hts⟩ (kX3_end l dC dI cI cJ h0 n0 k0 t0 p0 n1 n2 n3 k1 k2 k3 t1 p1 p2 p3 p4 p5 H.size (xs (i + 1)) x g k tp pl) (cwV 1 hts gY_X3_end rfl rfl rfl (by decide +kernel) ⟨Nat.le_of_ble_eq_true rfl, Nat.le_of_ble_eq_true rfl⟩) ⟨fun a U g mk q => by obtain ⟨q0, q1, qP, qK, qD, qN⟩ := q; exact ⟨q0, q1, qP, va_K.moved (u := U) (U := U.calling g mk a) (Vm.Alike.refl U.vm) qK, qD, nw_same (s := U) (U := U.calling g mk a) rfl qN⟩, va_recv hK hPc (ci := 3) (q0 := 0) rfl rfl, fun U hU hW => ⟨rfl, by rw [hU], by rw [hU]; exact hPc, va_K.moved hW.alike hK, hDc.weaken (fun _ _ _ _ => trivial), nw_warm hW hN⟩⟩ rfl rfl hl.1 rfl (lv_room (Nat.le_of_ble_eq_true rfl)) dL_law_216 ⟨(by show _ ≤ (1053 : Nat); omega), (by show _ ≤ (11950 : Nat); omega)⟩) hS (fun q _ h => hFc q h) hFc (fun r_3 _ t H1 locs ht hvm hw hB hz1 hk1 hS => ?_)
  obtain ⟨hP1, hK1, hD1⟩ := hB
  rw [ht] at hP1
  obtain ⟨g_4, eg_4⟩ : ∃ z, z = sX3_end (xs (i + 1)) x g k tp pl := ⟨_, rfl⟩
  rw [← eg_4] at hP1 hD1
  obtain ⟨hP, hD⟩ := va_join (wr := [cM0 m0 m1 m2 m3 m4 m5 v, cM1 cI m1 v, cM2 cJ m2 v, cM3 cJ m3 v, cM4 cI m4 v, cM5 cI m5 v, (o0, .inl (cJ, 1, .inr (.inl f)))]) (w1 := [cX0 h0 n0 k0 t0 p0 x, cL0 n0 n1 n2 n3 g, cL1 cJ n1 g, cL2 cI n2 g, cL3 cI n3 g, cL0 k0 k1 k2 k3 k, cL1 cJ k1 k, cL2 cI k2 k, cL3 cI k3 k, cT0 t0 t1 g_4, cT1 cI t1 g_4, cP0 p0 p1 p2 p3 p4 p5 pl, cP1 cI p1 pl, cP2 cI p2 pl, cP3 cI p3 pl, cP4 cI p4 pl, cP5 cI p5 pl]) hP hD [0, 1, 2, 3, 4, 5, 6, 7, 8, 9, 10, 11, 12, 13, 14, 15, 16] [17, 18, 19, 20, 21, 22, 23] rfl rfl (by decide) (by decide) hk1 hFc hP1 hD1
  generalize H1 = H at hP hS ⊢
  have hP := hP.sub (ws' := [cX0 h0 n0 k0 t0 p0 x, cL0 n0 n1 n2 n3 g, cL1 cJ n1 g, cL2 cI n2 g, cL3 cI n3 g, cL0 k0 k1 k2 k3 k, cL1 cJ k1 k, cL2 cI k2 k, cL3 cI k3 k, cT0 t0 t1 g_4, cT1 cI t1 g_4, cP0 p0 p1 p2 p3 p4 p5 pl, cP1 cI p1 pl, cP2 cI p2 pl, cP3 cI p3 pl, cP4 cI p4 pl, cP5 cI p5 pl, cM0 m0 m1 m2 m3 m4 m5 v, cM1 cI m1 v, cM2 cJ m2 v, cM3 cJ m3 v, cM4 cI m4 v, cM5 cI m5 v, (o0, .inl (cJ, 1, .inr (.inl f)))]) [7, 8, 9, 10, 11, 12, 13, 14, 15, 16, 17, 18, 19, 20, 21, 22, 23, 0, 1, 2, 3, 4, 5, 6] rfl
  have hD := hD.sub (ws' := [cX0 h0 n0 k0 t0 p0 x, cL0 n0 n1 n2 n3 g, cL1 cJ n1 g, cL2 cI n2 g, cL3 cI n3 g, cL0 k0 k1 k2 k3 k, cL1 cJ k1 k, cL2 cI k2 k, cL3 cI k3 k, cT0 t0 t1 g_4, cT1 cI t1 g_4, cP0 p0 p1 p2 p3 p4 p5 pl, cP1 cI p1 pl, cP2 cI p2 pl, cP3 cI p3 pl, cP4 cI p4 pl, cP5 cI p5 pl, cM0 m0 m1 m2 m3 m4 m5 v, cM1 cI m1 v, cM2 cJ m2 v, cM3 cJ m3 v, cM4 cI m4 v, cM5 cI m5 v, (o0, .inl (cJ, 1, .inr (.inl f)))]) [7, 8, 9, 10, 11, 12, 13, 14, 15, 16, 17, 18, 19, 20, 21, 22, 23, 0, 1, 2, 3, 4, 5, 6] (by decide) rfl
  subst hw
  refine lv_aload_n hx hb dL_law_219 rfl (lv_at hl 2 rfl) ?_
  refine lv_aload_n hx hb dL_law_220 rfl (lv_at hl 0 rfl) ?_
  refine lv_iload hx hb dL_law_221 (lv_at hl 4 rfl) ?_
  refine lv_iconst (v := 1) hx hb dL_law_223 (by decide) ?_
  refine lv_iadd hx hb dL_law_224 ?_
  refine lv_topi (fun z_5 ez_5 => ?_)
  obtain rfl : z_5 = nI (i + 1) := ez_5.trans (nI_add i 1)
  refine va_sld hx hb hX hbl hbA hS (vp_in_nI (by omega) (by omega)) dL_law_225 ?_
  refine lv_topi (fun z_6 ez_6 => ?_)
  rw [nI_clamp (by omega)] at ez_6
  subst ez_6
  have hPc := hP.sub (ws' := [cM0 m0 m1 m2 m3 m4 m5 v, cM1 cI m1 v, cM2 cJ m2 v, cM3 cJ m3 v, cM4 cI m4 v, cM5 cI m5 v]) [17, 18, 19, 20, 21, 22] rfl
  have hDc := hD.sub (ws' := [cM0 m0 m1 m2 m3 m4 m5 v, cM1 cI m1 v, cM2 cJ m2 v, cM3 cJ m3 v, cM4 cI m4 v, cM5 cI m5 v]) [17, 18, 19, 20, 21, 22] (by decide) rfl
  have hFc := va_free (wc := [cM0 m0 m1 m2 m3 m4 m5 v, cM1 cI m1 v, cM2 cJ m2 v, cM3 cJ m3 v, cM4 cI m4 v, cM5 cI m5 v]) hD hS hA [17, 18, 19, 20, 21, 22] rfl
  refine va_calli (va_runV (As := [.int (xs (i + 1))]) (rest := [.int (rX3_end (xs (i + 1)) x g k tp pl)]) ⟨hx, hb, hml, hown, hts⟩ (kX4_end l dC dI cI cJ m0 m1 m2 m3 m4 m5 H.size (xs (i + 1)) v) (cwV 1 hts gY_X4_end rfl rfl rfl (by decide +kernel) ⟨Nat.le_of_ble_eq_true rfl, Nat.le_of_ble_eq_true rfl⟩) ⟨fun a U g mk q => by obtain ⟨q0, q1, qP, qK, qD⟩ := q; exact ⟨q0, q1, qP, va_K.moved (u := U) (U := U.calling g mk a) (Vm.Alike.refl U.vm) qK, qD⟩, va_recv hK hPc (ci := 4) (q0 := 0) rfl rfl, fun U hU hW => ⟨rfl, by rw [hU], by rw [hU]; exact hPc, va_K.moved hW.alike hK, hDc.weaken (fun _ _ _ _ => trivial)⟩⟩ rfl rfl hl.1 rfl (lv_room (Nat.le_of_ble_eq_true rfl)) dL_law_226 ⟨(by show _ ≤ (1053 : Nat); omega), (by show _ ≤ (11950 : Nat); omega)⟩) hS (fun q _ h => hFc q h) hFc (fun r_7 _ t H1 locs ht hvm hw hB hz1 hk1 hS => ?_)
  obtain ⟨hP1, hK1, hD1⟩ := hB
  rw [ht] at hP1
  obtain ⟨g_8, eg_8⟩ : ∃ z, z = sX4_end (xs (i + 1)) v := ⟨_, rfl⟩
  rw [← eg_8] at hP1 hD1
  obtain ⟨hP, hD⟩ := va_join (wr := [cX0 h0 n0 k0 t0 p0 x, cL0 n0 n1 n2 n3 g, cL1 cJ n1 g, cL2 cI n2 g, cL3 cI n3 g, cL0 k0 k1 k2 k3 k, cL1 cJ k1 k, cL2 cI k2 k, cL3 cI k3 k, cT0 t0 t1 g_4, cT1 cI t1 g_4, cP0 p0 p1 p2 p3 p4 p5 pl, cP1 cI p1 pl, cP2 cI p2 pl, cP3 cI p3 pl, cP4 cI p4 pl, cP5 cI p5 pl, (o0, .inl (cJ, 1, .inr (.inl f)))]) (w1 := [cM0 m0 m1 m2 m3 m4 m5 g_8, cM1 cI m1 g_8, cM2 cJ m2 g_8, cM3 cJ m3 g_8, cM4 cI m4 g_8, cM5 cI m5 g_8]) hP hD [17, 18, 19, 20, 21, 22] [0, 1, 2, 3, 4, 5, 6, 7, 8, 9, 10, 11, 12, 13, 14, 15, 16, 23] rfl rfl (by decide) (by decide) hk1 hFc hP1 hD1
  generalize H1 = H at hP hS ⊢
  have hP := hP.sub (ws' := [cX0 h0 n0 k0 t0 p0 x, cL0 n0 n1 n2 n3 g, cL1 cJ n1 g, cL2 cI n2 g, cL3 cI n3 g, cL0 k0 k1 k2 k3 k, cL1 cJ k1 k, cL2 cI k2 k, cL3 cI k3 k, cT0 t0 t1 g_4, cT1 cI t1 g_4, cP0 p0 p1 p2 p3 p4 p5 pl, cP1 cI p1 pl, cP2 cI p2 pl, cP3 cI p3 pl, cP4 cI p4 pl, cP5 cI p5 pl, cM0 m0 m1 m2 m3 m4 m5 g_8, cM1 cI m1 g_8, cM2 cJ m2 g_8, cM3 cJ m3 g_8, cM4 cI m4 g_8, cM5 cI m5 g_8, (o0, .inl (cJ, 1, .inr (.inl f)))]) [0, 1, 2, 3, 4, 5, 6, 7, 8, 9, 10, 11, 12, 13, 14, 15, 16, 18, 19, 20, 21, 22, 23, 17] rfl
  have hD := hD.sub (ws' := [cX0 h0 n0 k0 t0 p0 x, cL0 n0 n1 n2 n3 g, cL1 cJ n1 g, cL2 cI n2 g, cL3 cI n3 g, cL0 k0 k1 k2 k3 k, cL1 cJ k1 k, cL2 cI k2 k, cL3 cI k3 k, cT0 t0 t1 g_4, cT1 cI t1 g_4, cP0 p0 p1 p2 p3 p4 p5 pl, cP1 cI p1 pl, cP2 cI p2 pl, cP3 cI p3 pl, cP4 cI p4 pl, cP5 cI p5 pl, cM0 m0 m1 m2 m3 m4 m5 g_8, cM1 cI m1 g_8, cM2 cJ m2 g_8, cM3 cJ m3 g_8, cM4 cI m4 g_8, cM5 cI m5 g_8, (o0, .inl (cJ, 1, .inr (.inl f)))]) [0, 1, 2, 3, 4, 5, 6, 7, 8, 9, 10, 11, 12, 13, 14, 15, 16, 18, 19, 20, 21, 22, 23, 17] (by decide) rfl
  subst hw
  refine lv_icmp_eq (tgt := 991) hx hb dL_law_229 (by decide) (fun c_9 => ?_) (fun c_9 => absurd (R_end hR hn _).1 c_9)
  subst eg_4
  subst eg_8
  refine W.widen (k := cells + 1) (n := slots + 6) (by omega) (by omega) ?_
  exact kk _ _ _ _ _ _ _ _ _ _ (R_end hR hn _).2 hP hD hS (lv_sub hl [0, 1, 2, 3, 4] rfl)

set_option maxHeartbeats 4000000 in
set_option maxRecDepth 100000 in
theorem lc_car {p : Program} {l : Launch} {e : Env} {s : State} {m : MethodId} {below : List Frame} {meth : Method} {c : Code} {A : Nat → Prop} {dC : Nat → ClassId} {dI : Nat → Nat → Nat} {cI cJ : ClassId} {b L : Nat} {xs : Nat → Int32} {h0 n0 k0 t0 p0 n1 n2 n3 k1 k2 k3 t1 p1 p2 p3 p4 p5 m0 m1 m2 m3 m4 m5 o0 : Nat} {cells slots n i : Nat} {x : XC} {g k : LG} {tp : TP} {pl : PL} {v : MS} {f : Nat → Int64} (C1 : lwC p s m c A dC dI cI cJ b L xs) (hL : L ≤ 3072) (hl9 : l.stackTraces = false) (hn : n ≤ 600) (hi : i + 6 ≤ L) (hc : cells + 1 ≤ 1053) (hs : slots + 6 ≤ 11950) (hR : RR n x g k tp pl v) (kk : ∀ (x : XC) (g k : LG) (tp : TP) (pl : PL) (v : MS) (f : Nat → Int64) (H : Heap) (locs : List Loc) (ls : Array Slot), RR (n + 1) x g k tp pl v → va_P (dC, dI) vwCl [cX0 h0 n0 k0 t0 p0 x, cL0 n0 n1 n2 n3 g, cL1 cJ n1 g, cL2 cI n2 g, cL3 cI n3 g, cL0 k0 k1 k2 k3 k, cL1 cJ k1 k, cL2 cI k2 k, cL3 cI k3 k, cT0 t0 t1 tp, cT1 cI t1 tp, cP0 p0 p1 p2 p3 p4 p5 pl, cP1 cI p1 pl, cP2 cI p2 pl, cP3 cI p3 pl, cP4 cI p4 pl, cP5 cI p5 pl, cM0 m0 m1 m2 m3 m4 m5 v, cM1 cI m1 v, cM2 cJ m2 v, cM3 cJ m3 v, cM4 cI m4 v, cM5 cI m5 v, (o0, .inl (cJ, 1, .inr (.inl f)))] H → va_D A [cX0 h0 n0 k0 t0 p0 x, cL0 n0 n1 n2 n3 g, cL1 cJ n1 g, cL2 cI n2 g, cL3 cI n3 g, cL0 k0 k1 k2 k3 k, cL1 cJ k1 k, cL2 cI k2 k, cL3 cI k3 k, cT0 t0 t1 tp, cT1 cI t1 tp, cP0 p0 p1 p2 p3 p4 p5 pl, cP1 cI p1 pl, cP2 cI p2 pl, cP3 cI p3 pl, cP4 cI p4 pl, cP5 cI p5 pl, cM0 m0 m1 m2 m3 m4 m5 v, cM1 cI m1 v, cM2 cJ m2 v, cM3 cJ m3 v, cM4 cI m4 v, cM5 cI m5 v, (o0, .inl (cJ, 1, .inr (.inl f)))] → va_S A s.heap H locs → lv_has ls 8 [(0, .ref b), (1, .ref h0), (2, .ref m0), (3, .ref o0), (4, .int (nI i))] → W p l e room_1 s m #[Value.ref b] below meth c H locs (cells + 1) (slots + 6) (lw_Z below #[Value.ref b] s) (F0 m 991 ls [])) (H : Heap) (locs : List Loc) (ls : Array Slot) (hP : va_P (dC, dI) vwCl [cX0 h0 n0 k0 t0 p0 x, cL0 n0 n1 n2 n3 g, cL1 cJ n1 g, cL2 cI n2 g, cL3 cI n3 g, cL0 k0 k1 k2 k3 k, cL1 cJ k1 k, cL2 cI k2 k, cL3 cI k3 k, cT0 t0 t1 tp, cT1 cI t1 tp, cP0 p0 p1 p2 p3 p4 p5 pl, cP1 cI p1 pl, cP2 cI p2 pl, cP3 cI p3 pl, cP4 cI p4 pl, cP5 cI p5 pl, cM0 m0 m1 m2 m3 m4 m5 v, cM1 cI m1 v, cM2 cJ m2 v, cM3 cJ m3 v, cM4 cI m4 v, cM5 cI m5 v, (o0, .inl (cJ, 1, .inr (.inl f)))] H) (hD : va_D A [cX0 h0 n0 k0 t0 p0 x, cL0 n0 n1 n2 n3 g, cL1 cJ n1 g, cL2 cI n2 g, cL3 cI n3 g, cL0 k0 k1 k2 k3 k, cL1 cJ k1 k, cL2 cI k2 k, cL3 cI k3 k, cT0 t0 t1 tp, cT1 cI t1 tp, cP0 p0 p1 p2 p3 p4 p5 pl, cP1 cI p1 pl, cP2 cI p2 pl, cP3 cI p3 pl, cP4 cI p4 pl, cP5 cI p5 pl, cM0 m0 m1 m2 m3 m4 m5 v, cM1 cI m1 v, cM2 cJ m2 v, cM3 cJ m3 v, cM4 cI m4 v, cM5 cI m5 v, (o0, .inl (cJ, 1, .inr (.inl f)))]) (hS : va_S A s.heap H locs) (hl : lv_has ls 8 [(0, .ref b), (1, .ref h0), (2, .ref m0), (3, .ref o0), (4, .int (nI i))]) : W p l e room_1 s m #[Value.ref b] below meth c H locs cells slots (lw_Z below #[Value.ref b] s) (F0 m 234 ls []) := by
  obtain ⟨hx, hb, hml, hown, hts, hX, hbl, hbA, hA, hK, hN, hQ⟩ := C1
  refine lv_aload_n hx hb dL_law_234 rfl (lv_at hl 1 rfl) ?_
  refine lv_aload_n hx hb dL_law_235 rfl (lv_at hl 0 rfl) ?_
  refine lv_iload hx hb dL_law_236 (lv_at hl 4 rfl) ?_
  refine lv_iconst (v := 1) hx hb dL_law_238 (by decide) ?_
  refine lv_iadd hx hb dL_law_239 ?_
  refine lv_topi (fun z_1 ez_1 => ?_)
  obtain rfl : z_1 = nI (i + 1) := ez_1.trans (nI_add i 1)
  refine va_sld hx hb hX hbl hbA hS (vp_in_nI (by omega) (by omega)) dL_law_240 ?_
  refine lv_topi (fun z_2 ez_2 => ?_)
  rw [nI_clamp (by omega)] at ez_2
  subst ez_2
  refine lv_aload_n hx hb dL_law_241 rfl (lv_at hl 0 rfl) ?_
  refine lv_iload hx hb dL_law_242 (lv_at hl 4 rfl) ?_
  refine lv_iconst (v := 2) hx hb dL_law_244 (by decide) ?_
  refine lv_iadd hx hb dL_law_245 ?_
  refine lv_topi (fun z_3 ez_3 => ?_)
  obtain rfl : z_3 = nI (i + 2) := ez_3.trans (nI_add i 2)
  refine va_sld hx hb hX hbl hbA hS (vp_in_nI (by omega) (by omega)) dL_law_246 ?_
  refine lv_topi (fun z_4 ez_4 => ?_)
  rw [nI_clamp (by omega)] at ez_4
  subst ez_4
  refine lv_aload_n hx hb dL_law_247 rfl (lv_at hl 0 rfl) ?_
  refine lv_iload hx hb dL_law_248 (lv_at hl 4 rfl) ?_
  refine lv_iconst (v := 3) hx hb dL_law_250 (by decide) ?_
  refine lv_iadd hx hb dL_law_251 ?_
  refine lv_topi (fun z_5 ez_5 => ?_)
  obtain rfl : z_5 = nI (i + 3) := ez_5.trans (nI_add i 3)
  refine va_sld hx hb hX hbl hbA hS (vp_in_nI (by omega) (by omega)) dL_law_252 ?_
  refine lv_topi (fun z_6 ez_6 => ?_)
  rw [nI_clamp (by omega)] at ez_6
  subst ez_6
  have hPc := hP.sub (ws' := [cX0 h0 n0 k0 t0 p0 x, cL0 n0 n1 n2 n3 g, cL1 cJ n1 g, cL2 cI n2 g, cL3 cI n3 g, cL0 k0 k1 k2 k3 k, cL1 cJ k1 k, cL2 cI k2 k, cL3 cI k3 k, cT0 t0 t1 tp, cT1 cI t1 tp, cP0 p0 p1 p2 p3 p4 p5 pl, cP1 cI p1 pl, cP2 cI p2 pl, cP3 cI p3 pl, cP4 cI p4 pl, cP5 cI p5 pl]) [0, 1, 2, 3, 4, 5, 6, 7, 8, 9, 10, 11, 12, 13, 14, 15, 16] rfl
  have hDc := hD.sub (ws' := [cX0 h0 n0 k0 t0 p0 x, cL0 n0 n1 n2 n3 g, cL1 cJ n1 g, cL2 cI n2 g, cL3 cI n3 g, cL0 k0 k1 k2 k3 k, cL1 cJ k1 k, cL2 cI k2 k, cL3 cI k3 k, cT0 t0 t1 tp, cT1 cI t1 tp, cP0 p0 p1 p2 p3 p4 p5 pl, cP1 cI p1 pl, cP2 cI p2 pl, cP3 cI p3 pl, cP4 cI p4 pl, cP5 cI p5 pl]) [0, 1, 2, 3, 4, 5, 6, 7, 8, 9, 10, 11, 12, 13, 14, 15, 16] (by decide) rfl
  have hFc := va_free (wc := [cX0 h0 n0 k0 t0 p0 x, cL0 n0 n1 n2 n3 g, cL1 cJ n1 g, cL2 cI n2 g, cL3 cI n3 g, cL0 k0 k1 k2 k3 k, cL1 cJ k1 k, cL2 cI k2 k, cL3 cI k3 k, cT0 t0 t1 tp, cT1 cI t1 tp, cP0 p0 p1 p2 p3 p4 p5 pl, cP1 cI p1 pl, cP2 cI p2 pl, cP3 cI p3 pl, cP4 cI p4 pl, cP5 cI p5 pl]) hD hS hA [0, 1, 2, 3, 4, 5, 6, 7, 8, 9, 10, 11, 12, 13, 14, 15, 16] rfl
  refine va_calli (va_runV (As := [.int (xs (i + 1)), .int (xs (i + 2)), .int (xs (i + 3))]) (rest := []) ⟨hx, hb, hml, hown, hts⟩ (kX3_car l dC dI cI cJ h0 n0 k0 t0 p0 n1 n2 n3 k1 k2 k3 t1 p1 p2 p3 p4 p5 H.size (xs (i + 1)) (xs (i + 2)) (xs (i + 3)) x g k tp pl) (cwV 3 hts gY_X3_car rfl rfl rfl (by decide +kernel) ⟨Nat.le_of_ble_eq_true rfl, Nat.le_of_ble_eq_true rfl⟩) ⟨fun a U g mk q => by obtain ⟨q0, q1, qP, qK, qD, qN⟩ := q; exact ⟨q0, q1, qP, va_K.moved (u := U) (U := U.calling g mk a) (Vm.Alike.refl U.vm) qK, qD, nw_same (s := U) (U := U.calling g mk a) rfl qN⟩, va_recv hK hPc (ci := 3) (q0 := 0) rfl rfl, fun U hU hW => ⟨rfl, by rw [hU], by rw [hU]; exact hPc, va_K.moved hW.alike hK, hDc.weaken (fun _ _ _ _ => trivial), nw_warm hW hN⟩⟩ rfl rfl hl.1 rfl (lv_room (Nat.le_of_ble_eq_true rfl)) dL_law_253 ⟨(by show _ ≤ (1053 : Nat); omega), (by show _ ≤ (11950 : Nat); omega)⟩) hS (fun q _ h => hFc q h) hFc (fun r_7 _ t H1 locs ht hvm hw hB hz1 hk1 hS => ?_)
  obtain ⟨hP1, hK1, hD1⟩ := hB
  rw [ht] at hP1
  obtain ⟨g_8, eg_8⟩ : ∃ z, z = sX3_car_x (xs (i + 1)) (xs (i + 2)) (xs (i + 3)) x g k tp pl := ⟨_, rfl⟩
  rw [← eg_8] at hP1 hD1
  obtain ⟨g_9, eg_9⟩ : ∃ z, z = sX3_car_g (xs (i + 1)) (xs (i + 2)) (xs (i + 3)) x g k tp pl := ⟨_, rfl⟩
  rw [← eg_9] at hP1 hD1
  obtain ⟨g_10, eg_10⟩ : ∃ z, z = sX3_car_k (xs (i + 1)) (xs (i + 2)) (xs (i + 3)) x g k tp pl := ⟨_, rfl⟩
  rw [← eg_10] at hP1 hD1
  obtain ⟨hP, hD⟩ := va_join (wr := [cM0 m0 m1 m2 m3 m4 m5 v, cM1 cI m1 v, cM2 cJ m2 v, cM3 cJ m3 v, cM4 cI m4 v, cM5 cI m5 v, (o0, .inl (cJ, 1, .inr (.inl f)))]) (w1 := [cX0 h0 n0 k0 t0 p0 g_8, cL0 n0 n1 n2 n3 g_9, cL1 cJ n1 g_9, cL2 cI n2 g_9, cL3 cI n3 g_9, cL0 k0 k1 k2 k3 g_10, cL1 cJ k1 g_10, cL2 cI k2 g_10, cL3 cI k3 g_10, cT0 t0 t1 tp, cT1 cI t1 tp, cP0 p0 p1 p2 p3 p4 p5 pl, cP1 cI p1 pl, cP2 cI p2 pl, cP3 cI p3 pl, cP4 cI p4 pl, cP5 cI p5 pl]) hP hD [0, 1, 2, 3, 4, 5, 6, 7, 8, 9, 10, 11, 12, 13, 14, 15, 16] [17, 18, 19, 20, 21, 22, 23] rfl rfl (by decide) (by decide) hk1 hFc hP1 hD1
  generalize H1 = H at hP hS ⊢
  have hP := hP.sub (ws' := [cX0 h0 n0 k0 t0 p0 g_8, cL0 n0 n1 n2 n3 g_9, cL1 cJ n1 g_9, cL2 cI n2 g_9, cL3 cI n3 g_9, cL0 k0 k1 k2 k3 g_10, cL1 cJ k1 g_10, cL2 cI k2 g_10, cL3 cI k3 g_10, cT0 t0 t1 tp, cT1 cI t1 tp, cP0 p0 p1 p2 p3 p4 p5 pl, cP1 cI p1 pl, cP2 cI p2 pl, cP3 cI p3 pl, cP4 cI p4 pl, cP5 cI p5 pl, cM0 m0 m1 m2 m3 m4 m5 v, cM1 cI m1 v, cM2 cJ m2 v, cM3 cJ m3 v, cM4 cI m4 v, cM5 cI m5 v, (o0, .inl (cJ, 1, .inr (.inl f)))]) [7, 8, 9, 10, 11, 12, 13, 14, 15, 16, 17, 18, 19, 20, 21, 22, 23, 0, 1, 2, 3, 4, 5, 6] rfl
  have hD := hD.sub (ws' := [cX0 h0 n0 k0 t0 p0 g_8, cL0 n0 n1 n2 n3 g_9, cL1 cJ n1 g_9, cL2 cI n2 g_9, cL3 cI n3 g_9, cL0 k0 k1 k2 k3 g_10, cL1 cJ k1 g_10, cL2 cI k2 g_10, cL3 cI k3 g_10, cT0 t0 t1 tp, cT1 cI t1 tp, cP0 p0 p1 p2 p3 p4 p5 pl, cP1 cI p1 pl, cP2 cI p2 pl, cP3 cI p3 pl, cP4 cI p4 pl, cP5 cI p5 pl, cM0 m0 m1 m2 m3 m4 m5 v, cM1 cI m1 v, cM2 cJ m2 v, cM3 cJ m3 v, cM4 cI m4 v, cM5 cI m5 v, (o0, .inl (cJ, 1, .inr (.inl f)))]) [7, 8, 9, 10, 11, 12, 13, 14, 15, 16, 17, 18, 19, 20, 21, 22, 23, 0, 1, 2, 3, 4, 5, 6] (by decide) rfl
  subst hw
  refine lv_aload_n hx hb dL_law_256 rfl (lv_at hl 2 rfl) ?_
  refine lv_aload_n hx hb dL_law_257 rfl (lv_at hl 0 rfl) ?_
  refine lv_iload hx hb dL_law_258 (lv_at hl 4 rfl) ?_
  refine lv_iconst (v := 1) hx hb dL_law_260 (by decide) ?_
  refine lv_iadd hx hb dL_law_261 ?_
  refine lv_topi (fun z_11 ez_11 => ?_)
  obtain rfl : z_11 = nI (i + 1) := ez_11.trans (nI_add i 1)
  refine va_sld hx hb hX hbl hbA hS (vp_in_nI (by omega) (by omega)) dL_law_262 ?_
  refine lv_topi (fun z_12 ez_12 => ?_)
  rw [nI_clamp (by omega)] at ez_12
  subst ez_12
  refine lv_aload_n hx hb dL_law_263 rfl (lv_at hl 0 rfl) ?_
  refine lv_iload hx hb dL_law_264 (lv_at hl 4 rfl) ?_
  refine lv_iconst (v := 2) hx hb dL_law_266 (by decide) ?_
  refine lv_iadd hx hb dL_law_267 ?_
  refine lv_topi (fun z_13 ez_13 => ?_)
  obtain rfl : z_13 = nI (i + 2) := ez_13.trans (nI_add i 2)
  refine va_sld hx hb hX hbl hbA hS (vp_in_nI (by omega) (by omega)) dL_law_268 ?_
  refine lv_topi (fun z_14 ez_14 => ?_)
  rw [nI_clamp (by omega)] at ez_14
  subst ez_14
  refine lv_aload_n hx hb dL_law_269 rfl (lv_at hl 0 rfl) ?_
  refine lv_iload hx hb dL_law_270 (lv_at hl 4 rfl) ?_
  refine lv_iconst (v := 3) hx hb dL_law_272 (by decide) ?_
  refine lv_iadd hx hb dL_law_273 ?_
  refine lv_topi (fun z_15 ez_15 => ?_)
  obtain rfl : z_15 = nI (i + 3) := ez_15.trans (nI_add i 3)
  refine va_sld hx hb hX hbl hbA hS (vp_in_nI (by omega) (by omega)) dL_law_274 ?_
  refine lv_topi (fun z_16 ez_16 => ?_)
  rw [nI_clamp (by omega)] at ez_16
  subst ez_16
  have hPc := hP.sub (ws' := [cM0 m0 m1 m2 m3 m4 m5 v, cM1 cI m1 v, cM2 cJ m2 v, cM3 cJ m3 v, cM4 cI m4 v, cM5 cI m5 v]) [17, 18, 19, 20, 21, 22] rfl
  have hDc := hD.sub (ws' := [cM0 m0 m1 m2 m3 m4 m5 v, cM1 cI m1 v, cM2 cJ m2 v, cM3 cJ m3 v, cM4 cI m4 v, cM5 cI m5 v]) [17, 18, 19, 20, 21, 22] (by decide) rfl
  have hFc := va_free (wc := [cM0 m0 m1 m2 m3 m4 m5 v, cM1 cI m1 v, cM2 cJ m2 v, cM3 cJ m3 v, cM4 cI m4 v, cM5 cI m5 v]) hD hS hA [17, 18, 19, 20, 21, 22] rfl
  refine va_calli (va_runV (As := [.int (xs (i + 1)), .int (xs (i + 2)), .int (xs (i + 3))]) (rest := [.int (rX3_car (xs (i + 1)) (xs (i + 2)) (xs (i + 3)) x g k tp pl)]) ⟨hx, hb, hml, hown, hts⟩ (kX4_car l dC dI cI cJ m0 m1 m2 m3 m4 m5 H.size (xs (i + 1)) (xs (i + 2)) (xs (i + 3)) v) (cwV 3 hts gY_X4_car rfl rfl rfl (by decide +kernel) ⟨Nat.le_of_ble_eq_true rfl, Nat.le_of_ble_eq_true rfl⟩) ⟨fun a U g mk q => by obtain ⟨q0, q1, qP, qK, qD⟩ := q; exact ⟨q0, q1, qP, va_K.moved (u := U) (U := U.calling g mk a) (Vm.Alike.refl U.vm) qK, qD⟩, va_recv hK hPc (ci := 4) (q0 := 0) rfl rfl, fun U hU hW => ⟨rfl, by rw [hU], by rw [hU]; exact hPc, va_K.moved hW.alike hK, hDc.weaken (fun _ _ _ _ => trivial)⟩⟩ rfl rfl hl.1 rfl (lv_room (Nat.le_of_ble_eq_true rfl)) dL_law_275 ⟨(by show _ ≤ (1053 : Nat); omega), (by show _ ≤ (11950 : Nat); omega)⟩) hS (fun q _ h => hFc q h) hFc (fun r_17 _ t H1 locs ht hvm hw hB hz1 hk1 hS => ?_)
  obtain ⟨hP1, hK1, hD1⟩ := hB
  rw [ht] at hP1
  obtain ⟨g_18, eg_18⟩ : ∃ z, z = sX4_car (xs (i + 1)) (xs (i + 2)) (xs (i + 3)) v := ⟨_, rfl⟩
  rw [← eg_18] at hP1 hD1
  obtain ⟨hP, hD⟩ := va_join (wr := [cX0 h0 n0 k0 t0 p0 g_8, cL0 n0 n1 n2 n3 g_9, cL1 cJ n1 g_9, cL2 cI n2 g_9, cL3 cI n3 g_9, cL0 k0 k1 k2 k3 g_10, cL1 cJ k1 g_10, cL2 cI k2 g_10, cL3 cI k3 g_10, cT0 t0 t1 tp, cT1 cI t1 tp, cP0 p0 p1 p2 p3 p4 p5 pl, cP1 cI p1 pl, cP2 cI p2 pl, cP3 cI p3 pl, cP4 cI p4 pl, cP5 cI p5 pl, (o0, .inl (cJ, 1, .inr (.inl f)))]) (w1 := [cM0 m0 m1 m2 m3 m4 m5 g_18, cM1 cI m1 g_18, cM2 cJ m2 g_18, cM3 cJ m3 g_18, cM4 cI m4 g_18, cM5 cI m5 g_18]) hP hD [17, 18, 19, 20, 21, 22] [0, 1, 2, 3, 4, 5, 6, 7, 8, 9, 10, 11, 12, 13, 14, 15, 16, 23] rfl rfl (by decide) (by decide) hk1 hFc hP1 hD1
  generalize H1 = H at hP hS ⊢
  have hP := hP.sub (ws' := [cX0 h0 n0 k0 t0 p0 g_8, cL0 n0 n1 n2 n3 g_9, cL1 cJ n1 g_9, cL2 cI n2 g_9, cL3 cI n3 g_9, cL0 k0 k1 k2 k3 g_10, cL1 cJ k1 g_10, cL2 cI k2 g_10, cL3 cI k3 g_10, cT0 t0 t1 tp, cT1 cI t1 tp, cP0 p0 p1 p2 p3 p4 p5 pl, cP1 cI p1 pl, cP2 cI p2 pl, cP3 cI p3 pl, cP4 cI p4 pl, cP5 cI p5 pl, cM0 m0 m1 m2 m3 m4 m5 g_18, cM1 cI m1 g_18, cM2 cJ m2 g_18, cM3 cJ m3 g_18, cM4 cI m4 g_18, cM5 cI m5 g_18, (o0, .inl (cJ, 1, .inr (.inl f)))]) [0, 1, 2, 3, 4, 5, 6, 7, 8, 9, 10, 11, 12, 13, 14, 15, 16, 18, 19, 20, 21, 22, 23, 17] rfl
  have hD := hD.sub (ws' := [cX0 h0 n0 k0 t0 p0 g_8, cL0 n0 n1 n2 n3 g_9, cL1 cJ n1 g_9, cL2 cI n2 g_9, cL3 cI n3 g_9, cL0 k0 k1 k2 k3 g_10, cL1 cJ k1 g_10, cL2 cI k2 g_10, cL3 cI k3 g_10, cT0 t0 t1 tp, cT1 cI t1 tp, cP0 p0 p1 p2 p3 p4 p5 pl, cP1 cI p1 pl, cP2 cI p2 pl, cP3 cI p3 pl, cP4 cI p4 pl, cP5 cI p5 pl, cM0 m0 m1 m2 m3 m4 m5 g_18, cM1 cI m1 g_18, cM2 cJ m2 g_18, cM3 cJ m3 g_18, cM4 cI m4 g_18, cM5 cI m5 g_18, (o0, .inl (cJ, 1, .inr (.inl f)))]) [0, 1, 2, 3, 4, 5, 6, 7, 8, 9, 10, 11, 12, 13, 14, 15, 16, 18, 19, 20, 21, 22, 23, 17] (by decide) rfl
  subst hw
  refine lv_icmp_eq (tgt := 991) hx hb dL_law_278 (by decide) (fun c_19 => ?_) (fun c_19 => absurd (R_car hR hn _ _ _).1 c_19)
  subst eg_8
  subst eg_9
  subst eg_10
  subst eg_18
  refine W.widen (k := cells + 1) (n := slots + 6) (by omega) (by omega) ?_
  exact kk _ _ _ _ _ _ _ _ _ _ (R_car hR hn _ _ _).2 hP hD hS (lv_sub hl [0, 1, 2, 3, 4] rfl)

set_option maxHeartbeats 4000000 in
set_option maxRecDepth 100000 in
theorem lc_bounds {p : Program} {l : Launch} {e : Env} {s : State} {m : MethodId} {below : List Frame} {meth : Method} {c : Code} {A : Nat → Prop} {dC : Nat → ClassId} {dI : Nat → Nat → Nat} {cI cJ : ClassId} {b L : Nat} {xs : Nat → Int32} {h0 n0 k0 t0 p0 n1 n2 n3 k1 k2 k3 t1 p1 p2 p3 p4 p5 m0 m1 m2 m3 m4 m5 o0 : Nat} {cells slots n i : Nat} {x : XC} {g k : LG} {tp : TP} {pl : PL} {v : MS} {f : Nat → Int64} (C1 : lwC p s m c A dC dI cI cJ b L xs) (hL : L ≤ 3072) (hl9 : l.stackTraces = false) (hn : n ≤ 600) (hi : i + 6 ≤ L) (hc : cells + 1 ≤ 1053) (hs : slots + 6 ≤ 11950) (hR : RR n x g k tp pl v) (kk : ∀ (x : XC) (g k : LG) (tp : TP) (pl : PL) (v : MS) (f : Nat → Int64) (H : Heap) (locs : List Loc) (ls : Array Slot), RR (n + 1) x g k tp pl v → va_P (dC, dI) vwCl [cX0 h0 n0 k0 t0 p0 x, cL0 n0 n1 n2 n3 g, cL1 cJ n1 g, cL2 cI n2 g, cL3 cI n3 g, cL0 k0 k1 k2 k3 k, cL1 cJ k1 k, cL2 cI k2 k, cL3 cI k3 k, cT0 t0 t1 tp, cT1 cI t1 tp, cP0 p0 p1 p2 p3 p4 p5 pl, cP1 cI p1 pl, cP2 cI p2 pl, cP3 cI p3 pl, cP4 cI p4 pl, cP5 cI p5 pl, cM0 m0 m1 m2 m3 m4 m5 v, cM1 cI m1 v, cM2 cJ m2 v, cM3 cJ m3 v, cM4 cI m4 v, cM5 cI m5 v, (o0, .inl (cJ, 1, .inr (.inl f)))] H → va_D A [cX0 h0 n0 k0 t0 p0 x, cL0 n0 n1 n2 n3 g, cL1 cJ n1 g, cL2 cI n2 g, cL3 cI n3 g, cL0 k0 k1 k2 k3 k, cL1 cJ k1 k, cL2 cI k2 k, cL3 cI k3 k, cT0 t0 t1 tp, cT1 cI t1 tp, cP0 p0 p1 p2 p3 p4 p5 pl, cP1 cI p1 pl, cP2 cI p2 pl, cP3 cI p3 pl, cP4 cI p4 pl, cP5 cI p5 pl, cM0 m0 m1 m2 m3 m4 m5 v, cM1 cI m1 v, cM2 cJ m2 v, cM3 cJ m3 v, cM4 cI m4 v, cM5 cI m5 v, (o0, .inl (cJ, 1, .inr (.inl f)))] → va_S A s.heap H locs → lv_has ls 8 [(0, .ref b), (1, .ref h0), (2, .ref m0), (3, .ref o0), (4, .int (nI i))] → W p l e room_1 s m #[Value.ref b] below meth c H locs (cells + 1) (slots + 6) (lw_Z below #[Value.ref b] s) (F0 m 991 ls [])) (H : Heap) (locs : List Loc) (ls : Array Slot) (hP : va_P (dC, dI) vwCl [cX0 h0 n0 k0 t0 p0 x, cL0 n0 n1 n2 n3 g, cL1 cJ n1 g, cL2 cI n2 g, cL3 cI n3 g, cL0 k0 k1 k2 k3 k, cL1 cJ k1 k, cL2 cI k2 k, cL3 cI k3 k, cT0 t0 t1 tp, cT1 cI t1 tp, cP0 p0 p1 p2 p3 p4 p5 pl, cP1 cI p1 pl, cP2 cI p2 pl, cP3 cI p3 pl, cP4 cI p4 pl, cP5 cI p5 pl, cM0 m0 m1 m2 m3 m4 m5 v, cM1 cI m1 v, cM2 cJ m2 v, cM3 cJ m3 v, cM4 cI m4 v, cM5 cI m5 v, (o0, .inl (cJ, 1, .inr (.inl f)))] H) (hD : va_D A [cX0 h0 n0 k0 t0 p0 x, cL0 n0 n1 n2 n3 g, cL1 cJ n1 g, cL2 cI n2 g, cL3 cI n3 g, cL0 k0 k1 k2 k3 k, cL1 cJ k1 k, cL2 cI k2 k, cL3 cI k3 k, cT0 t0 t1 tp, cT1 cI t1 tp, cP0 p0 p1 p2 p3 p4 p5 pl, cP1 cI p1 pl, cP2 cI p2 pl, cP3 cI p3 pl, cP4 cI p4 pl, cP5 cI p5 pl, cM0 m0 m1 m2 m3 m4 m5 v, cM1 cI m1 v, cM2 cJ m2 v, cM3 cJ m3 v, cM4 cI m4 v, cM5 cI m5 v, (o0, .inl (cJ, 1, .inr (.inl f)))]) (hS : va_S A s.heap H locs) (hl : lv_has ls 8 [(0, .ref b), (1, .ref h0), (2, .ref m0), (3, .ref o0), (4, .int (nI i))]) : W p l e room_1 s m #[Value.ref b] below meth c H locs cells slots (lw_Z below #[Value.ref b] s) (F0 m 283 ls []) := by
  obtain ⟨hx, hb, hml, hown, hts, hX, hbl, hbA, hA, hK, hN, hQ⟩ := C1
  refine lv_aload_n hx hb dL_law_283 rfl (lv_at hl 1 rfl) ?_
  refine lv_aload_n hx hb dL_law_284 rfl (lv_at hl 0 rfl) ?_
  refine lv_iload hx hb dL_law_285 (lv_at hl 4 rfl) ?_
  refine lv_iconst (v := 1) hx hb dL_law_287 (by decide) ?_
  refine lv_iadd hx hb dL_law_288 ?_
  refine lv_topi (fun z_1 ez_1 => ?_)
  obtain rfl : z_1 = nI (i + 1) := ez_1.trans (nI_add i 1)
  refine va_sld hx hb hX hbl hbA hS (vp_in_nI (by omega) (by omega)) dL_law_289 ?_
  refine lv_topi (fun z_2 ez_2 => ?_)
  rw [nI_clamp (by omega)] at ez_2
  subst ez_2
  refine lv_aload_n hx hb dL_law_290 rfl (lv_at hl 0 rfl) ?_
  refine lv_iload hx hb dL_law_291 (lv_at hl 4 rfl) ?_
  refine lv_iconst (v := 2) hx hb dL_law_293 (by decide) ?_
  refine lv_iadd hx hb dL_law_294 ?_
  refine lv_topi (fun z_3 ez_3 => ?_)
  obtain rfl : z_3 = nI (i + 2) := ez_3.trans (nI_add i 2)
  refine va_sld hx hb hX hbl hbA hS (vp_in_nI (by omega) (by omega)) dL_law_295 ?_
  refine lv_topi (fun z_4 ez_4 => ?_)
  rw [nI_clamp (by omega)] at ez_4
  subst ez_4
  refine lv_aload_n hx hb dL_law_296 rfl (lv_at hl 0 rfl) ?_
  refine lv_iload hx hb dL_law_297 (lv_at hl 4 rfl) ?_
  refine lv_iconst (v := 3) hx hb dL_law_299 (by decide) ?_
  refine lv_iadd hx hb dL_law_300 ?_
  refine lv_topi (fun z_5 ez_5 => ?_)
  obtain rfl : z_5 = nI (i + 3) := ez_5.trans (nI_add i 3)
  refine va_sld hx hb hX hbl hbA hS (vp_in_nI (by omega) (by omega)) dL_law_301 ?_
  refine lv_topi (fun z_6 ez_6 => ?_)
  rw [nI_clamp (by omega)] at ez_6
  subst ez_6
  refine lv_aload_n hx hb dL_law_302 rfl (lv_at hl 0 rfl) ?_
  refine lv_iload hx hb dL_law_303 (lv_at hl 4 rfl) ?_
  refine lv_iconst (v := 4) hx hb dL_law_305 (by decide) ?_
  refine lv_iadd hx hb dL_law_306 ?_
  refine lv_topi (fun z_7 ez_7 => ?_)
  obtain rfl : z_7 = nI (i + 4) := ez_7.trans (nI_add i 4)
  refine va_sld hx hb hX hbl hbA hS (vp_in_nI (by omega) (by omega)) dL_law_307 ?_
  refine lv_topi (fun z_8 ez_8 => ?_)
  rw [nI_clamp (by omega)] at ez_8
  subst ez_8
  have hPc := hP.sub (ws' := [cX0 h0 n0 k0 t0 p0 x, cL0 n0 n1 n2 n3 g, cL1 cJ n1 g, cL2 cI n2 g, cL3 cI n3 g, cL0 k0 k1 k2 k3 k, cL1 cJ k1 k, cL2 cI k2 k, cL3 cI k3 k, cT0 t0 t1 tp, cT1 cI t1 tp, cP0 p0 p1 p2 p3 p4 p5 pl, cP1 cI p1 pl, cP2 cI p2 pl, cP3 cI p3 pl, cP4 cI p4 pl, cP5 cI p5 pl]) [0, 1, 2, 3, 4, 5, 6, 7, 8, 9, 10, 11, 12, 13, 14, 15, 16] rfl
  have hDc := hD.sub (ws' := [cX0 h0 n0 k0 t0 p0 x, cL0 n0 n1 n2 n3 g, cL1 cJ n1 g, cL2 cI n2 g, cL3 cI n3 g, cL0 k0 k1 k2 k3 k, cL1 cJ k1 k, cL2 cI k2 k, cL3 cI k3 k, cT0 t0 t1 tp, cT1 cI t1 tp, cP0 p0 p1 p2 p3 p4 p5 pl, cP1 cI p1 pl, cP2 cI p2 pl, cP3 cI p3 pl, cP4 cI p4 pl, cP5 cI p5 pl]) [0, 1, 2, 3, 4, 5, 6, 7, 8, 9, 10, 11, 12, 13, 14, 15, 16] (by decide) rfl
  have hFc := va_free (wc := [cX0 h0 n0 k0 t0 p0 x, cL0 n0 n1 n2 n3 g, cL1 cJ n1 g, cL2 cI n2 g, cL3 cI n3 g, cL0 k0 k1 k2 k3 k, cL1 cJ k1 k, cL2 cI k2 k, cL3 cI k3 k, cT0 t0 t1 tp, cT1 cI t1 tp, cP0 p0 p1 p2 p3 p4 p5 pl, cP1 cI p1 pl, cP2 cI p2 pl, cP3 cI p3 pl, cP4 cI p4 pl, cP5 cI p5 pl]) hD hS hA [0, 1, 2, 3, 4, 5, 6, 7, 8, 9, 10, 11, 12, 13, 14, 15, 16] rfl
  refine va_calli (va_runV (As := [.int (xs (i + 1)), .int (xs (i + 2)), .int (xs (i + 3)), .int (xs (i + 4))]) (rest := []) ⟨hx, hb, hml, hown, hts⟩ (kX3_bounds l dC dI cI cJ h0 n0 k0 t0 p0 n1 n2 n3 k1 k2 k3 t1 p1 p2 p3 p4 p5 H.size (xs (i + 1)) (xs (i + 2)) (xs (i + 3)) (xs (i + 4)) x g k tp pl) (cwV 4 hts gY_X3_bounds rfl rfl rfl (by decide +kernel) ⟨Nat.le_of_ble_eq_true rfl, Nat.le_of_ble_eq_true rfl⟩) ⟨fun a U g mk q => by obtain ⟨q0, q1, qP, qK, qD, qN⟩ := q; exact ⟨q0, q1, qP, va_K.moved (u := U) (U := U.calling g mk a) (Vm.Alike.refl U.vm) qK, qD, nw_same (s := U) (U := U.calling g mk a) rfl qN⟩, va_recv hK hPc (ci := 3) (q0 := 0) rfl rfl, fun U hU hW => ⟨rfl, by rw [hU], by rw [hU]; exact hPc, va_K.moved hW.alike hK, hDc.weaken (fun _ _ _ _ => trivial), nw_warm hW hN⟩⟩ rfl rfl hl.1 rfl (lv_room (Nat.le_of_ble_eq_true rfl)) dL_law_308 ⟨(by show _ ≤ (1053 : Nat); omega), (by show _ ≤ (11950 : Nat); omega)⟩) hS (fun q _ h => hFc q h) hFc (fun r_9 _ t H1 locs ht hvm hw hB hz1 hk1 hS => ?_)
  obtain ⟨hP1, hK1, hD1⟩ := hB
  rw [ht] at hP1
  obtain ⟨g_10, eg_10⟩ : ∃ z, z = sX3_bounds (xs (i + 1)) (xs (i + 2)) (xs (i + 3)) (xs (i + 4)) x g k tp pl := ⟨_, rfl⟩
  rw [← eg_10] at hP1 hD1
  obtain ⟨hP, hD⟩ := va_join (wr := [cM0 m0 m1 m2 m3 m4 m5 v, cM1 cI m1 v, cM2 cJ m2 v, cM3 cJ m3 v, cM4 cI m4 v, cM5 cI m5 v, (o0, .inl (cJ, 1, .inr (.inl f)))]) (w1 := [cX0 h0 n0 k0 t0 p0 g_10, cL0 n0 n1 n2 n3 g, cL1 cJ n1 g, cL2 cI n2 g, cL3 cI n3 g, cL0 k0 k1 k2 k3 k, cL1 cJ k1 k, cL2 cI k2 k, cL3 cI k3 k, cT0 t0 t1 tp, cT1 cI t1 tp, cP0 p0 p1 p2 p3 p4 p5 pl, cP1 cI p1 pl, cP2 cI p2 pl, cP3 cI p3 pl, cP4 cI p4 pl, cP5 cI p5 pl]) hP hD [0, 1, 2, 3, 4, 5, 6, 7, 8, 9, 10, 11, 12, 13, 14, 15, 16] [17, 18, 19, 20, 21, 22, 23] rfl rfl (by decide) (by decide) hk1 hFc hP1 hD1
  generalize H1 = H at hP hS ⊢
  have hP := hP.sub (ws' := [cX0 h0 n0 k0 t0 p0 g_10, cL0 n0 n1 n2 n3 g, cL1 cJ n1 g, cL2 cI n2 g, cL3 cI n3 g, cL0 k0 k1 k2 k3 k, cL1 cJ k1 k, cL2 cI k2 k, cL3 cI k3 k, cT0 t0 t1 tp, cT1 cI t1 tp, cP0 p0 p1 p2 p3 p4 p5 pl, cP1 cI p1 pl, cP2 cI p2 pl, cP3 cI p3 pl, cP4 cI p4 pl, cP5 cI p5 pl, cM0 m0 m1 m2 m3 m4 m5 v, cM1 cI m1 v, cM2 cJ m2 v, cM3 cJ m3 v, cM4 cI m4 v, cM5 cI m5 v, (o0, .inl (cJ, 1, .inr (.inl f)))]) [7, 8, 9, 10, 11, 12, 13, 14, 15, 16, 17, 18, 19, 20, 21, 22, 23, 0, 1, 2, 3, 4, 5, 6] rfl
  have hD := hD.sub (ws' := [cX0 h0 n0 k0 t0 p0 g_10, cL0 n0 n1 n2 n3 g, cL1 cJ n1 g, cL2 cI n2 g, cL3 cI n3 g, cL0 k0 k1 k2 k3 k, cL1 cJ k1 k, cL2 cI k2 k, cL3 cI k3 k, cT0 t0 t1 tp, cT1 cI t1 tp, cP0 p0 p1 p2 p3 p4 p5 pl, cP1 cI p1 pl, cP2 cI p2 pl, cP3 cI p3 pl, cP4 cI p4 pl, cP5 cI p5 pl, cM0 m0 m1 m2 m3 m4 m5 v, cM1 cI m1 v, cM2 cJ m2 v, cM3 cJ m3 v, cM4 cI m4 v, cM5 cI m5 v, (o0, .inl (cJ, 1, .inr (.inl f)))]) [7, 8, 9, 10, 11, 12, 13, 14, 15, 16, 17, 18, 19, 20, 21, 22, 23, 0, 1, 2, 3, 4, 5, 6] (by decide) rfl
  subst hw
  refine lv_aload_n hx hb dL_law_311 rfl (lv_at hl 2 rfl) ?_
  refine lv_aload_n hx hb dL_law_312 rfl (lv_at hl 0 rfl) ?_
  refine lv_iload hx hb dL_law_313 (lv_at hl 4 rfl) ?_
  refine lv_iconst (v := 1) hx hb dL_law_315 (by decide) ?_
  refine lv_iadd hx hb dL_law_316 ?_
  refine lv_topi (fun z_11 ez_11 => ?_)
  obtain rfl : z_11 = nI (i + 1) := ez_11.trans (nI_add i 1)
  refine va_sld hx hb hX hbl hbA hS (vp_in_nI (by omega) (by omega)) dL_law_317 ?_
  refine lv_topi (fun z_12 ez_12 => ?_)
  rw [nI_clamp (by omega)] at ez_12
  subst ez_12
  refine lv_aload_n hx hb dL_law_318 rfl (lv_at hl 0 rfl) ?_
  refine lv_iload hx hb dL_law_319 (lv_at hl 4 rfl) ?_
  refine lv_iconst (v := 2) hx hb dL_law_321 (by decide) ?_
  refine lv_iadd hx hb dL_law_322 ?_
  refine lv_topi (fun z_13 ez_13 => ?_)
  obtain rfl : z_13 = nI (i + 2) := ez_13.trans (nI_add i 2)
  refine va_sld hx hb hX hbl hbA hS (vp_in_nI (by omega) (by omega)) dL_law_323 ?_
  refine lv_topi (fun z_14 ez_14 => ?_)
  rw [nI_clamp (by omega)] at ez_14
  subst ez_14
  refine lv_aload_n hx hb dL_law_324 rfl (lv_at hl 0 rfl) ?_
  refine lv_iload hx hb dL_law_325 (lv_at hl 4 rfl) ?_
  refine lv_iconst (v := 3) hx hb dL_law_327 (by decide) ?_
  refine lv_iadd hx hb dL_law_328 ?_
  refine lv_topi (fun z_15 ez_15 => ?_)
  obtain rfl : z_15 = nI (i + 3) := ez_15.trans (nI_add i 3)
  refine va_sld hx hb hX hbl hbA hS (vp_in_nI (by omega) (by omega)) dL_law_329 ?_
  refine lv_topi (fun z_16 ez_16 => ?_)
  rw [nI_clamp (by omega)] at ez_16
  subst ez_16
  refine lv_aload_n hx hb dL_law_330 rfl (lv_at hl 0 rfl) ?_
  refine lv_iload hx hb dL_law_331 (lv_at hl 4 rfl) ?_
  refine lv_iconst (v := 4) hx hb dL_law_333 (by decide) ?_
  refine lv_iadd hx hb dL_law_334 ?_
  refine lv_topi (fun z_17 ez_17 => ?_)
  obtain rfl : z_17 = nI (i + 4) := ez_17.trans (nI_add i 4)
  refine va_sld hx hb hX hbl hbA hS (vp_in_nI (by omega) (by omega)) dL_law_335 ?_
  refine lv_topi (fun z_18 ez_18 => ?_)
  rw [nI_clamp (by omega)] at ez_18
  subst ez_18
  have hPc := hP.sub (ws' := [cM0 m0 m1 m2 m3 m4 m5 v, cM1 cI m1 v, cM2 cJ m2 v, cM3 cJ m3 v, cM4 cI m4 v, cM5 cI m5 v]) [17, 18, 19, 20, 21, 22] rfl
  have hDc := hD.sub (ws' := [cM0 m0 m1 m2 m3 m4 m5 v, cM1 cI m1 v, cM2 cJ m2 v, cM3 cJ m3 v, cM4 cI m4 v, cM5 cI m5 v]) [17, 18, 19, 20, 21, 22] (by decide) rfl
  have hFc := va_free (wc := [cM0 m0 m1 m2 m3 m4 m5 v, cM1 cI m1 v, cM2 cJ m2 v, cM3 cJ m3 v, cM4 cI m4 v, cM5 cI m5 v]) hD hS hA [17, 18, 19, 20, 21, 22] rfl
  refine va_calli (va_runV (As := [.int (xs (i + 1)), .int (xs (i + 2)), .int (xs (i + 3)), .int (xs (i + 4))]) (rest := [.int (rX3_bounds (xs (i + 1)) (xs (i + 2)) (xs (i + 3)) (xs (i + 4)) x g k tp pl)]) ⟨hx, hb, hml, hown, hts⟩ (kX4_bounds l dC dI cI cJ m0 m1 m2 m3 m4 m5 H.size (xs (i + 1)) (xs (i + 2)) (xs (i + 3)) (xs (i + 4)) v) (cwV 4 hts gY_X4_bounds rfl rfl rfl (by decide +kernel) ⟨Nat.le_of_ble_eq_true rfl, Nat.le_of_ble_eq_true rfl⟩) ⟨fun a U g mk q => by obtain ⟨q0, q1, qP, qK, qD⟩ := q; exact ⟨q0, q1, qP, va_K.moved (u := U) (U := U.calling g mk a) (Vm.Alike.refl U.vm) qK, qD⟩, va_recv hK hPc (ci := 4) (q0 := 0) rfl rfl, fun U hU hW => ⟨rfl, by rw [hU], by rw [hU]; exact hPc, va_K.moved hW.alike hK, hDc.weaken (fun _ _ _ _ => trivial)⟩⟩ rfl rfl hl.1 rfl (lv_room (Nat.le_of_ble_eq_true rfl)) dL_law_336 ⟨(by show _ ≤ (1053 : Nat); omega), (by show _ ≤ (11950 : Nat); omega)⟩) hS (fun q _ h => hFc q h) hFc (fun r_19 _ t H1 locs ht hvm hw hB hz1 hk1 hS => ?_)
  obtain ⟨hP1, hK1, hD1⟩ := hB
  rw [ht] at hP1
  obtain ⟨g_20, eg_20⟩ : ∃ z, z = sX4_bounds (xs (i + 1)) (xs (i + 2)) (xs (i + 3)) (xs (i + 4)) v := ⟨_, rfl⟩
  rw [← eg_20] at hP1 hD1
  obtain ⟨hP, hD⟩ := va_join (wr := [cX0 h0 n0 k0 t0 p0 g_10, cL0 n0 n1 n2 n3 g, cL1 cJ n1 g, cL2 cI n2 g, cL3 cI n3 g, cL0 k0 k1 k2 k3 k, cL1 cJ k1 k, cL2 cI k2 k, cL3 cI k3 k, cT0 t0 t1 tp, cT1 cI t1 tp, cP0 p0 p1 p2 p3 p4 p5 pl, cP1 cI p1 pl, cP2 cI p2 pl, cP3 cI p3 pl, cP4 cI p4 pl, cP5 cI p5 pl, (o0, .inl (cJ, 1, .inr (.inl f)))]) (w1 := [cM0 m0 m1 m2 m3 m4 m5 g_20, cM1 cI m1 g_20, cM2 cJ m2 g_20, cM3 cJ m3 g_20, cM4 cI m4 g_20, cM5 cI m5 g_20]) hP hD [17, 18, 19, 20, 21, 22] [0, 1, 2, 3, 4, 5, 6, 7, 8, 9, 10, 11, 12, 13, 14, 15, 16, 23] rfl rfl (by decide) (by decide) hk1 hFc hP1 hD1
  generalize H1 = H at hP hS ⊢
  have hP := hP.sub (ws' := [cX0 h0 n0 k0 t0 p0 g_10, cL0 n0 n1 n2 n3 g, cL1 cJ n1 g, cL2 cI n2 g, cL3 cI n3 g, cL0 k0 k1 k2 k3 k, cL1 cJ k1 k, cL2 cI k2 k, cL3 cI k3 k, cT0 t0 t1 tp, cT1 cI t1 tp, cP0 p0 p1 p2 p3 p4 p5 pl, cP1 cI p1 pl, cP2 cI p2 pl, cP3 cI p3 pl, cP4 cI p4 pl, cP5 cI p5 pl, cM0 m0 m1 m2 m3 m4 m5 g_20, cM1 cI m1 g_20, cM2 cJ m2 g_20, cM3 cJ m3 g_20, cM4 cI m4 g_20, cM5 cI m5 g_20, (o0, .inl (cJ, 1, .inr (.inl f)))]) [0, 1, 2, 3, 4, 5, 6, 7, 8, 9, 10, 11, 12, 13, 14, 15, 16, 18, 19, 20, 21, 22, 23, 17] rfl
  have hD := hD.sub (ws' := [cX0 h0 n0 k0 t0 p0 g_10, cL0 n0 n1 n2 n3 g, cL1 cJ n1 g, cL2 cI n2 g, cL3 cI n3 g, cL0 k0 k1 k2 k3 k, cL1 cJ k1 k, cL2 cI k2 k, cL3 cI k3 k, cT0 t0 t1 tp, cT1 cI t1 tp, cP0 p0 p1 p2 p3 p4 p5 pl, cP1 cI p1 pl, cP2 cI p2 pl, cP3 cI p3 pl, cP4 cI p4 pl, cP5 cI p5 pl, cM0 m0 m1 m2 m3 m4 m5 g_20, cM1 cI m1 g_20, cM2 cJ m2 g_20, cM3 cJ m3 g_20, cM4 cI m4 g_20, cM5 cI m5 g_20, (o0, .inl (cJ, 1, .inr (.inl f)))]) [0, 1, 2, 3, 4, 5, 6, 7, 8, 9, 10, 11, 12, 13, 14, 15, 16, 18, 19, 20, 21, 22, 23, 17] (by decide) rfl
  subst hw
  refine lv_icmp_eq (tgt := 991) hx hb dL_law_339 (by decide) (fun c_21 => ?_) (fun c_21 => absurd (R_bounds hR hn _ _ _ _).1 c_21)
  subst eg_10
  subst eg_20
  refine W.widen (k := cells + 1) (n := slots + 6) (by omega) (by omega) ?_
  exact kk _ _ _ _ _ _ _ _ _ _ (R_bounds hR hn _ _ _ _).2 hP hD hS (lv_sub hl [0, 1, 2, 3, 4] rfl)

set_option maxHeartbeats 4000000 in
set_option maxRecDepth 100000 in
theorem lc_drive {p : Program} {l : Launch} {e : Env} {s : State} {m : MethodId} {below : List Frame} {meth : Method} {c : Code} {A : Nat → Prop} {dC : Nat → ClassId} {dI : Nat → Nat → Nat} {cI cJ : ClassId} {b L : Nat} {xs : Nat → Int32} {h0 n0 k0 t0 p0 n1 n2 n3 k1 k2 k3 t1 p1 p2 p3 p4 p5 m0 m1 m2 m3 m4 m5 o0 : Nat} {cells slots n i : Nat} {x : XC} {g k : LG} {tp : TP} {pl : PL} {v : MS} {f : Nat → Int64} (C1 : lwC p s m c A dC dI cI cJ b L xs) (hL : L ≤ 3072) (hl9 : l.stackTraces = false) (hn : n ≤ 600) (hi : i + 6 ≤ L) (hc : cells + 1 ≤ 1053) (hs : slots + 6 ≤ 11950) (hR : RR n x g k tp pl v) (kk : ∀ (x : XC) (g k : LG) (tp : TP) (pl : PL) (v : MS) (f : Nat → Int64) (H : Heap) (locs : List Loc) (ls : Array Slot), RR (n + 1) x g k tp pl v → va_P (dC, dI) vwCl [cX0 h0 n0 k0 t0 p0 x, cL0 n0 n1 n2 n3 g, cL1 cJ n1 g, cL2 cI n2 g, cL3 cI n3 g, cL0 k0 k1 k2 k3 k, cL1 cJ k1 k, cL2 cI k2 k, cL3 cI k3 k, cT0 t0 t1 tp, cT1 cI t1 tp, cP0 p0 p1 p2 p3 p4 p5 pl, cP1 cI p1 pl, cP2 cI p2 pl, cP3 cI p3 pl, cP4 cI p4 pl, cP5 cI p5 pl, cM0 m0 m1 m2 m3 m4 m5 v, cM1 cI m1 v, cM2 cJ m2 v, cM3 cJ m3 v, cM4 cI m4 v, cM5 cI m5 v, (o0, .inl (cJ, 1, .inr (.inl f)))] H → va_D A [cX0 h0 n0 k0 t0 p0 x, cL0 n0 n1 n2 n3 g, cL1 cJ n1 g, cL2 cI n2 g, cL3 cI n3 g, cL0 k0 k1 k2 k3 k, cL1 cJ k1 k, cL2 cI k2 k, cL3 cI k3 k, cT0 t0 t1 tp, cT1 cI t1 tp, cP0 p0 p1 p2 p3 p4 p5 pl, cP1 cI p1 pl, cP2 cI p2 pl, cP3 cI p3 pl, cP4 cI p4 pl, cP5 cI p5 pl, cM0 m0 m1 m2 m3 m4 m5 v, cM1 cI m1 v, cM2 cJ m2 v, cM3 cJ m3 v, cM4 cI m4 v, cM5 cI m5 v, (o0, .inl (cJ, 1, .inr (.inl f)))] → va_S A s.heap H locs → lv_has ls 8 [(0, .ref b), (1, .ref h0), (2, .ref m0), (3, .ref o0), (4, .int (nI i))] → W p l e room_1 s m #[Value.ref b] below meth c H locs (cells + 1) (slots + 6) (lw_Z below #[Value.ref b] s) (F0 m 991 ls [])) (H : Heap) (locs : List Loc) (ls : Array Slot) (hP : va_P (dC, dI) vwCl [cX0 h0 n0 k0 t0 p0 x, cL0 n0 n1 n2 n3 g, cL1 cJ n1 g, cL2 cI n2 g, cL3 cI n3 g, cL0 k0 k1 k2 k3 k, cL1 cJ k1 k, cL2 cI k2 k, cL3 cI k3 k, cT0 t0 t1 tp, cT1 cI t1 tp, cP0 p0 p1 p2 p3 p4 p5 pl, cP1 cI p1 pl, cP2 cI p2 pl, cP3 cI p3 pl, cP4 cI p4 pl, cP5 cI p5 pl, cM0 m0 m1 m2 m3 m4 m5 v, cM1 cI m1 v, cM2 cJ m2 v, cM3 cJ m3 v, cM4 cI m4 v, cM5 cI m5 v, (o0, .inl (cJ, 1, .inr (.inl f)))] H) (hD : va_D A [cX0 h0 n0 k0 t0 p0 x, cL0 n0 n1 n2 n3 g, cL1 cJ n1 g, cL2 cI n2 g, cL3 cI n3 g, cL0 k0 k1 k2 k3 k, cL1 cJ k1 k, cL2 cI k2 k, cL3 cI k3 k, cT0 t0 t1 tp, cT1 cI t1 tp, cP0 p0 p1 p2 p3 p4 p5 pl, cP1 cI p1 pl, cP2 cI p2 pl, cP3 cI p3 pl, cP4 cI p4 pl, cP5 cI p5 pl, cM0 m0 m1 m2 m3 m4 m5 v, cM1 cI m1 v, cM2 cJ m2 v, cM3 cJ m3 v, cM4 cI m4 v, cM5 cI m5 v, (o0, .inl (cJ, 1, .inr (.inl f)))]) (hS : va_S A s.heap H locs) (hl : lv_has ls 8 [(0, .ref b), (1, .ref h0), (2, .ref m0), (3, .ref o0), (4, .int (nI i))]) : W p l e room_1 s m #[Value.ref b] below meth c H locs cells slots (lw_Z below #[Value.ref b] s) (F0 m 344 ls []) := by
  obtain ⟨hx, hb, hml, hown, hts, hX, hbl, hbA, hA, hK, hN, hQ⟩ := C1
  refine lv_aload_n hx hb dL_law_344 rfl (lv_at hl 1 rfl) ?_
  refine lv_aload_n hx hb dL_law_345 rfl (lv_at hl 0 rfl) ?_
  refine lv_iload hx hb dL_law_346 (lv_at hl 4 rfl) ?_
  refine lv_iconst (v := 1) hx hb dL_law_348 (by decide) ?_
  refine lv_iadd hx hb dL_law_349 ?_
  refine lv_topi (fun z_1 ez_1 => ?_)
  obtain rfl : z_1 = nI (i + 1) := ez_1.trans (nI_add i 1)
  refine va_sld hx hb hX hbl hbA hS (vp_in_nI (by omega) (by omega)) dL_law_350 ?_
  refine lv_topi (fun z_2 ez_2 => ?_)
  rw [nI_clamp (by omega)] at ez_2
  subst ez_2
  refine lv_aload_n hx hb dL_law_351 rfl (lv_at hl 0 rfl) ?_
  refine lv_iload hx hb dL_law_352 (lv_at hl 4 rfl) ?_
  refine lv_iconst (v := 2) hx hb dL_law_354 (by decide) ?_
  refine lv_iadd hx hb dL_law_355 ?_
  refine lv_topi (fun z_3 ez_3 => ?_)
  obtain rfl : z_3 = nI (i + 2) := ez_3.trans (nI_add i 2)
  refine va_sld hx hb hX hbl hbA hS (vp_in_nI (by omega) (by omega)) dL_law_356 ?_
  refine lv_topi (fun z_4 ez_4 => ?_)
  rw [nI_clamp (by omega)] at ez_4
  subst ez_4
  refine lv_aload_n hx hb dL_law_357 rfl (lv_at hl 0 rfl) ?_
  refine lv_iload hx hb dL_law_358 (lv_at hl 4 rfl) ?_
  refine lv_iconst (v := 3) hx hb dL_law_360 (by decide) ?_
  refine lv_iadd hx hb dL_law_361 ?_
  refine lv_topi (fun z_5 ez_5 => ?_)
  obtain rfl : z_5 = nI (i + 3) := ez_5.trans (nI_add i 3)
  refine va_sld hx hb hX hbl hbA hS (vp_in_nI (by omega) (by omega)) dL_law_362 ?_
  refine lv_topi (fun z_6 ez_6 => ?_)
  rw [nI_clamp (by omega)] at ez_6
  subst ez_6
  have hPc := hP.sub (ws' := [cX0 h0 n0 k0 t0 p0 x, cL0 n0 n1 n2 n3 g, cL1 cJ n1 g, cL2 cI n2 g, cL3 cI n3 g, cL0 k0 k1 k2 k3 k, cL1 cJ k1 k, cL2 cI k2 k, cL3 cI k3 k, cT0 t0 t1 tp, cT1 cI t1 tp, cP0 p0 p1 p2 p3 p4 p5 pl, cP1 cI p1 pl, cP2 cI p2 pl, cP3 cI p3 pl, cP4 cI p4 pl, cP5 cI p5 pl]) [0, 1, 2, 3, 4, 5, 6, 7, 8, 9, 10, 11, 12, 13, 14, 15, 16] rfl
  have hDc := hD.sub (ws' := [cX0 h0 n0 k0 t0 p0 x, cL0 n0 n1 n2 n3 g, cL1 cJ n1 g, cL2 cI n2 g, cL3 cI n3 g, cL0 k0 k1 k2 k3 k, cL1 cJ k1 k, cL2 cI k2 k, cL3 cI k3 k, cT0 t0 t1 tp, cT1 cI t1 tp, cP0 p0 p1 p2 p3 p4 p5 pl, cP1 cI p1 pl, cP2 cI p2 pl, cP3 cI p3 pl, cP4 cI p4 pl, cP5 cI p5 pl]) [0, 1, 2, 3, 4, 5, 6, 7, 8, 9, 10, 11, 12, 13, 14, 15, 16] (by decide) rfl
  have hFc := va_free (wc := [cX0 h0 n0 k0 t0 p0 x, cL0 n0 n1 n2 n3 g, cL1 cJ n1 g, cL2 cI n2 g, cL3 cI n3 g, cL0 k0 k1 k2 k3 k, cL1 cJ k1 k, cL2 cI k2 k, cL3 cI k3 k, cT0 t0 t1 tp, cT1 cI t1 tp, cP0 p0 p1 p2 p3 p4 p5 pl, cP1 cI p1 pl, cP2 cI p2 pl, cP3 cI p3 pl, cP4 cI p4 pl, cP5 cI p5 pl]) hD hS hA [0, 1, 2, 3, 4, 5, 6, 7, 8, 9, 10, 11, 12, 13, 14, 15, 16] rfl
  refine va_calli (va_runV (As := [.int (xs (i + 1)), .int (xs (i + 2)), .int (xs (i + 3))]) (rest := []) ⟨hx, hb, hml, hown, hts⟩ (kX3_drive l dC dI cI cJ h0 n0 k0 t0 p0 n1 n2 n3 k1 k2 k3 t1 p1 p2 p3 p4 p5 H.size (xs (i + 1)) (xs (i + 2)) (xs (i + 3)) x g k tp pl) (cwV 3 hts gY_X3_drive rfl rfl rfl (by decide +kernel) ⟨Nat.le_of_ble_eq_true rfl, Nat.le_of_ble_eq_true rfl⟩) ⟨fun a U g mk q => by obtain ⟨q0, q1, qP, qK, qD, qN⟩ := q; exact ⟨q0, q1, qP, va_K.moved (u := U) (U := U.calling g mk a) (Vm.Alike.refl U.vm) qK, qD, nw_same (s := U) (U := U.calling g mk a) rfl qN⟩, va_recv hK hPc (ci := 3) (q0 := 0) rfl rfl, fun U hU hW => ⟨rfl, by rw [hU], by rw [hU]; exact hPc, va_K.moved hW.alike hK, hDc.weaken (fun _ _ _ _ => trivial), nw_warm hW hN⟩⟩ rfl rfl hl.1 rfl (lv_room (Nat.le_of_ble_eq_true rfl)) dL_law_363 ⟨(by show _ ≤ (1053 : Nat); omega), (by show _ ≤ (11950 : Nat); omega)⟩) hS (fun q _ h => hFc q h) hFc (fun r_7 _ t H1 locs ht hvm hw hB hz1 hk1 hS => ?_)
  obtain ⟨hP1, hK1, hD1⟩ := hB
  rw [ht] at hP1
  obtain ⟨g_8, eg_8⟩ : ∃ z, z = sX3_drive_x (xs (i + 1)) (xs (i + 2)) (xs (i + 3)) x g k tp pl := ⟨_, rfl⟩
  rw [← eg_8] at hP1 hD1
  obtain ⟨g_9, eg_9⟩ : ∃ z, z = sX3_drive_g (xs (i + 1)) (xs (i + 2)) (xs (i + 3)) x g k tp pl := ⟨_, rfl⟩
  rw [← eg_9] at hP1 hD1
  obtain ⟨hP, hD⟩ := va_join (wr := [cM0 m0 m1 m2 m3 m4 m5 v, cM1 cI m1 v, cM2 cJ m2 v, cM3 cJ m3 v, cM4 cI m4 v, cM5 cI m5 v, (o0, .inl (cJ, 1, .inr (.inl f)))]) (w1 := [cX0 h0 n0 k0 t0 p0 g_8, cL0 n0 n1 n2 n3 g_9, cL1 cJ n1 g_9, cL2 cI n2 g_9, cL3 cI n3 g_9, cL0 k0 k1 k2 k3 k, cL1 cJ k1 k, cL2 cI k2 k, cL3 cI k3 k, cT0 t0 t1 tp, cT1 cI t1 tp, cP0 p0 p1 p2 p3 p4 p5 pl, cP1 cI p1 pl, cP2 cI p2 pl, cP3 cI p3 pl, cP4 cI p4 pl, cP5 cI p5 pl]) hP hD [0, 1, 2, 3, 4, 5, 6, 7, 8, 9, 10, 11, 12, 13, 14, 15, 16] [17, 18, 19, 20, 21, 22, 23] rfl rfl (by decide) (by decide) hk1 hFc hP1 hD1
  generalize H1 = H at hP hS ⊢
  have hP := hP.sub (ws' := [cX0 h0 n0 k0 t0 p0 g_8, cL0 n0 n1 n2 n3 g_9, cL1 cJ n1 g_9, cL2 cI n2 g_9, cL3 cI n3 g_9, cL0 k0 k1 k2 k3 k, cL1 cJ k1 k, cL2 cI k2 k, cL3 cI k3 k, cT0 t0 t1 tp, cT1 cI t1 tp, cP0 p0 p1 p2 p3 p4 p5 pl, cP1 cI p1 pl, cP2 cI p2 pl, cP3 cI p3 pl, cP4 cI p4 pl, cP5 cI p5 pl, cM0 m0 m1 m2 m3 m4 m5 v, cM1 cI m1 v, cM2 cJ m2 v, cM3 cJ m3 v, cM4 cI m4 v, cM5 cI m5 v, (o0, .inl (cJ, 1, .inr (.inl f)))]) [7, 8, 9, 10, 11, 12, 13, 14, 15, 16, 17, 18, 19, 20, 21, 22, 23, 0, 1, 2, 3, 4, 5, 6] rfl
  have hD := hD.sub (ws' := [cX0 h0 n0 k0 t0 p0 g_8, cL0 n0 n1 n2 n3 g_9, cL1 cJ n1 g_9, cL2 cI n2 g_9, cL3 cI n3 g_9, cL0 k0 k1 k2 k3 k, cL1 cJ k1 k, cL2 cI k2 k, cL3 cI k3 k, cT0 t0 t1 tp, cT1 cI t1 tp, cP0 p0 p1 p2 p3 p4 p5 pl, cP1 cI p1 pl, cP2 cI p2 pl, cP3 cI p3 pl, cP4 cI p4 pl, cP5 cI p5 pl, cM0 m0 m1 m2 m3 m4 m5 v, cM1 cI m1 v, cM2 cJ m2 v, cM3 cJ m3 v, cM4 cI m4 v, cM5 cI m5 v, (o0, .inl (cJ, 1, .inr (.inl f)))]) [7, 8, 9, 10, 11, 12, 13, 14, 15, 16, 17, 18, 19, 20, 21, 22, 23, 0, 1, 2, 3, 4, 5, 6] (by decide) rfl
  subst hw
  refine lv_aload_n hx hb dL_law_366 rfl (lv_at hl 2 rfl) ?_
  refine lv_aload_n hx hb dL_law_367 rfl (lv_at hl 0 rfl) ?_
  refine lv_iload hx hb dL_law_368 (lv_at hl 4 rfl) ?_
  refine lv_iconst (v := 1) hx hb dL_law_370 (by decide) ?_
  refine lv_iadd hx hb dL_law_371 ?_
  refine lv_topi (fun z_10 ez_10 => ?_)
  obtain rfl : z_10 = nI (i + 1) := ez_10.trans (nI_add i 1)
  refine va_sld hx hb hX hbl hbA hS (vp_in_nI (by omega) (by omega)) dL_law_372 ?_
  refine lv_topi (fun z_11 ez_11 => ?_)
  rw [nI_clamp (by omega)] at ez_11
  subst ez_11
  refine lv_aload_n hx hb dL_law_373 rfl (lv_at hl 0 rfl) ?_
  refine lv_iload hx hb dL_law_374 (lv_at hl 4 rfl) ?_
  refine lv_iconst (v := 2) hx hb dL_law_376 (by decide) ?_
  refine lv_iadd hx hb dL_law_377 ?_
  refine lv_topi (fun z_12 ez_12 => ?_)
  obtain rfl : z_12 = nI (i + 2) := ez_12.trans (nI_add i 2)
  refine va_sld hx hb hX hbl hbA hS (vp_in_nI (by omega) (by omega)) dL_law_378 ?_
  refine lv_topi (fun z_13 ez_13 => ?_)
  rw [nI_clamp (by omega)] at ez_13
  subst ez_13
  refine lv_aload_n hx hb dL_law_379 rfl (lv_at hl 0 rfl) ?_
  refine lv_iload hx hb dL_law_380 (lv_at hl 4 rfl) ?_
  refine lv_iconst (v := 3) hx hb dL_law_382 (by decide) ?_
  refine lv_iadd hx hb dL_law_383 ?_
  refine lv_topi (fun z_14 ez_14 => ?_)
  obtain rfl : z_14 = nI (i + 3) := ez_14.trans (nI_add i 3)
  refine va_sld hx hb hX hbl hbA hS (vp_in_nI (by omega) (by omega)) dL_law_384 ?_
  refine lv_topi (fun z_15 ez_15 => ?_)
  rw [nI_clamp (by omega)] at ez_15
  subst ez_15
  have hPc := hP.sub (ws' := [cM0 m0 m1 m2 m3 m4 m5 v, cM1 cI m1 v, cM2 cJ m2 v, cM3 cJ m3 v, cM4 cI m4 v, cM5 cI m5 v]) [17, 18, 19, 20, 21, 22] rfl
  have hDc := hD.sub (ws' := [cM0 m0 m1 m2 m3 m4 m5 v, cM1 cI m1 v, cM2 cJ m2 v, cM3 cJ m3 v, cM4 cI m4 v, cM5 cI m5 v]) [17, 18, 19, 20, 21, 22] (by decide) rfl
  have hFc := va_free (wc := [cM0 m0 m1 m2 m3 m4 m5 v, cM1 cI m1 v, cM2 cJ m2 v, cM3 cJ m3 v, cM4 cI m4 v, cM5 cI m5 v]) hD hS hA [17, 18, 19, 20, 21, 22] rfl
  refine va_calli (va_runV (As := [.int (xs (i + 1)), .int (xs (i + 2)), .int (xs (i + 3))]) (rest := [.int (rX3_drive (xs (i + 1)) (xs (i + 2)) (xs (i + 3)) x g k tp pl)]) ⟨hx, hb, hml, hown, hts⟩ (kX4_drive l dC dI cI cJ m0 m1 m2 m3 m4 m5 H.size (xs (i + 1)) (xs (i + 2)) (xs (i + 3)) v) (cwV 3 hts gY_X4_drive rfl rfl rfl (by decide +kernel) ⟨Nat.le_of_ble_eq_true rfl, Nat.le_of_ble_eq_true rfl⟩) ⟨fun a U g mk q => by obtain ⟨q0, q1, qP, qK, qD⟩ := q; exact ⟨q0, q1, qP, va_K.moved (u := U) (U := U.calling g mk a) (Vm.Alike.refl U.vm) qK, qD⟩, va_recv hK hPc (ci := 4) (q0 := 0) rfl rfl, fun U hU hW => ⟨rfl, by rw [hU], by rw [hU]; exact hPc, va_K.moved hW.alike hK, hDc.weaken (fun _ _ _ _ => trivial)⟩⟩ rfl rfl hl.1 rfl (lv_room (Nat.le_of_ble_eq_true rfl)) dL_law_385 ⟨(by show _ ≤ (1053 : Nat); omega), (by show _ ≤ (11950 : Nat); omega)⟩) hS (fun q _ h => hFc q h) hFc (fun r_16 _ t H1 locs ht hvm hw hB hz1 hk1 hS => ?_)
  obtain ⟨hP1, hK1, hD1⟩ := hB
  rw [ht] at hP1
  obtain ⟨g_17, eg_17⟩ : ∃ z, z = sX4_drive (xs (i + 1)) (xs (i + 2)) (xs (i + 3)) v := ⟨_, rfl⟩
  rw [← eg_17] at hP1 hD1
  obtain ⟨hP, hD⟩ := va_join (wr := [cX0 h0 n0 k0 t0 p0 g_8, cL0 n0 n1 n2 n3 g_9, cL1 cJ n1 g_9, cL2 cI n2 g_9, cL3 cI n3 g_9, cL0 k0 k1 k2 k3 k, cL1 cJ k1 k, cL2 cI k2 k, cL3 cI k3 k, cT0 t0 t1 tp, cT1 cI t1 tp, cP0 p0 p1 p2 p3 p4 p5 pl, cP1 cI p1 pl, cP2 cI p2 pl, cP3 cI p3 pl, cP4 cI p4 pl, cP5 cI p5 pl, (o0, .inl (cJ, 1, .inr (.inl f)))]) (w1 := [cM0 m0 m1 m2 m3 m4 m5 g_17, cM1 cI m1 g_17, cM2 cJ m2 g_17, cM3 cJ m3 g_17, cM4 cI m4 g_17, cM5 cI m5 g_17]) hP hD [17, 18, 19, 20, 21, 22] [0, 1, 2, 3, 4, 5, 6, 7, 8, 9, 10, 11, 12, 13, 14, 15, 16, 23] rfl rfl (by decide) (by decide) hk1 hFc hP1 hD1
  generalize H1 = H at hP hS ⊢
  have hP := hP.sub (ws' := [cX0 h0 n0 k0 t0 p0 g_8, cL0 n0 n1 n2 n3 g_9, cL1 cJ n1 g_9, cL2 cI n2 g_9, cL3 cI n3 g_9, cL0 k0 k1 k2 k3 k, cL1 cJ k1 k, cL2 cI k2 k, cL3 cI k3 k, cT0 t0 t1 tp, cT1 cI t1 tp, cP0 p0 p1 p2 p3 p4 p5 pl, cP1 cI p1 pl, cP2 cI p2 pl, cP3 cI p3 pl, cP4 cI p4 pl, cP5 cI p5 pl, cM0 m0 m1 m2 m3 m4 m5 g_17, cM1 cI m1 g_17, cM2 cJ m2 g_17, cM3 cJ m3 g_17, cM4 cI m4 g_17, cM5 cI m5 g_17, (o0, .inl (cJ, 1, .inr (.inl f)))]) [0, 1, 2, 3, 4, 5, 6, 7, 8, 9, 10, 11, 12, 13, 14, 15, 16, 18, 19, 20, 21, 22, 23, 17] rfl
  have hD := hD.sub (ws' := [cX0 h0 n0 k0 t0 p0 g_8, cL0 n0 n1 n2 n3 g_9, cL1 cJ n1 g_9, cL2 cI n2 g_9, cL3 cI n3 g_9, cL0 k0 k1 k2 k3 k, cL1 cJ k1 k, cL2 cI k2 k, cL3 cI k3 k, cT0 t0 t1 tp, cT1 cI t1 tp, cP0 p0 p1 p2 p3 p4 p5 pl, cP1 cI p1 pl, cP2 cI p2 pl, cP3 cI p3 pl, cP4 cI p4 pl, cP5 cI p5 pl, cM0 m0 m1 m2 m3 m4 m5 g_17, cM1 cI m1 g_17, cM2 cJ m2 g_17, cM3 cJ m3 g_17, cM4 cI m4 g_17, cM5 cI m5 g_17, (o0, .inl (cJ, 1, .inr (.inl f)))]) [0, 1, 2, 3, 4, 5, 6, 7, 8, 9, 10, 11, 12, 13, 14, 15, 16, 18, 19, 20, 21, 22, 23, 17] (by decide) rfl
  subst hw
  refine lv_icmp_eq (tgt := 991) hx hb dL_law_388 (by decide) (fun c_18 => ?_) (fun c_18 => absurd (R_drive hR hn _ _ _).1 c_18)
  subst eg_8
  subst eg_9
  subst eg_17
  refine W.widen (k := cells + 1) (n := slots + 6) (by omega) (by omega) ?_
  exact kk _ _ _ _ _ _ _ _ _ _ (R_drive hR hn _ _ _).2 hP hD hS (lv_sub hl [0, 1, 2, 3, 4] rfl)
