theorem i32_eq {a : Int64} {b : Int32} (h : a.toInt = b.toInt) : a.toInt32 = b := (fa_eq _ _).mpr (by have := fb_rng b; rw [w32 (by omega) (by omega)]; exact h)
theorem R_span {n : Nat} {x : XC} {g k : LG} {tp : TP} {pl : PL} {v : MS} (h : RR n x g k tp pl v) (hn : n ≤ 600) (z : Int32) : rX3_span z x g k tp pl = rX4_span z v ∧ RR (n + 1) x g k tp pl (sX4_span z v) := by
  have hb := RR_bg h 0
  have eM : sX4_span z v = sX4_span_g_2 z v (sX4_begin (0, v.2)) := rfl
  have eS : rX4_span z v = rX4_span_g_2 z v (sX4_begin (0, v.2)) := rfl
  rw [eM, eS]
  generalize sX4_begin (0, v.2) = u at hb ⊢
  have l := hb.2.2.2.2.2.2.2.1
  unfold rX3_span sX4_span_g_2 rX4_span_g_2
  by_cases c : z = 0
  · rw [if_pos c, if_pos c, if_pos c]
    exact ⟨(i32_eq l.1.1.1).symm, RR_u hb⟩
  · rw [if_neg c, if_neg c, if_neg c]
    exact ⟨(i32_eq l.1.1.2.1).symm, RR_u hb⟩
theorem R_range {n : Nat} {x : XC} {g k : LG} {tp : TP} {pl : PL} {v : MS} (h : RR n x g k tp pl v) (hn : n ≤ 600) (z : Int32) : rX3_range z x g k tp pl = rX4_range z v ∧ RR (n + 1) x g k tp pl (sX4_range z v) := by
  have hb := RR_bg h 0
  have eM : sX4_range z v = sX4_range_g_2 z v (sX4_begin (0, v.2)) := rfl
  have eS : rX4_range z v = rX4_range_g_2 z v (sX4_begin (0, v.2)) := rfl
  rw [eM, eS]
  generalize sX4_begin (0, v.2) = u at hb ⊢
  have l := hb.2.2.2.2.2.2.2.1
  have b0 := l.1.2.1
  have b2 := l.1.2.2.2.1
  have e0 := l.1.1.1
  have e1 := l.1.1.2.1
  obtain ⟨⟨f1, f2, f3, f4, f5, f6, f7⟩, d1, d2, d3, d4, d5, d6, d7, d8, d9, d10, d11, d12, d13, d14⟩ := hb.1
  unfold rX3_range rX3_kilometresOn sX4_range_g_2 rX4_range_g_2
  by_cases c : z = 0
  · rw [if_pos c, if_pos c, if_pos c, ← f7, if_pos ((fa_le _ _).mpr (by rw [x1]; omega))]
    exact ⟨(i32_eq (by rw [dvL (by omega) (by rw [w64]; omega), w64, dvI (by omega) (by omega), e0])).symm, RR_u hb⟩
  · rw [if_neg c, if_neg c, if_neg c, ← f6, if_pos ((fa_le _ _).mpr (by rw [x1]; omega))]
    exact ⟨(i32_eq (by rw [dvL (by omega) (by rw [w64]; omega), w64, dvI (by omega) (by omega), e1])).symm, RR_u hb⟩
theorem R_shown {n : Nat} {x : XC} {g k : LG} {tp : TP} {pl : PL} {v : MS} (h : RR n x g k tp pl v) (hn : n ≤ 600) : rX3_shown x g k tp pl = rX4_shown v ∧ RR (n + 1) x g k tp pl (sX4_shown v) := by
  have hb := RR_bg h 0
  have eM : sX4_shown v = sX4_begin (0, v.2) := rfl
  have eS : rX4_shown v = ((sX4_begin (0, v.2)).2.2.2.1 25).toInt32 := rfl
  rw [eM, eS]
  generalize sX4_begin (0, v.2) = u at hb ⊢
  have l := hb.2.2.2.2.2.2.2.1
  exact ⟨(i32_eq l.1.1.2.2.2.2.2.1).symm, RR_u hb⟩
theorem R_count {n : Nat} {x : XC} {g k : LG} {tp : TP} {pl : PL} {v : MS} (h : RR n x g k tp pl v) (hn : n ≤ 600) (w : Int32) : rX3_count w x g k tp pl = rX4_count w v ∧ RR (n + 1) x g k tp pl (sX4_count w v) := by
  have hb := RR_bg h 0
  have eM : sX4_count w v = sX4_count_g_2 w v (sX4_begin (0, v.2)) := rfl
  have eS : rX4_count w v = rX4_count_g_2 w v (sX4_begin (0, v.2)) := rfl
  rw [eM, eS]
  generalize sX4_begin (0, v.2) = u at hb ⊢
  have l := hb.2.2.2.2.2.2.2.1
  have es : sX4_count_g_2 w v u = u := by
    unfold sX4_count_g_2
    repeat' split
    all_goals rfl
  rw [es]
  refine ⟨?_, RR_u hb⟩
  unfold rX3_count rX4_count_g_2
  by_cases c0 : w = 0
  · rw [if_pos c0, if_pos c0]
    exact (i32_eq l.1.1.2.2.1).symm
  rw [if_neg c0, if_neg c0]
  by_cases c1 : w = 1
  · rw [if_pos c1, if_pos c1]
    exact (i32_eq l.1.1.2.2.2.1).symm
  rw [if_neg c1, if_neg c1]
  by_cases c2 : w = 2
  · rw [if_pos c2, if_pos c2]
    exact (i32_eq l.1.1.2.2.2.2.1).symm
  rw [if_neg c2, if_neg c2]
  by_cases c3 : w = 3
  · rw [if_pos c3, if_pos c3]
    exact (i32_eq l.1.1.2.2.2.2.2.2.1).symm
  rw [if_neg c3, if_neg c3]
  by_cases c4 : w = 4
  · rw [if_pos c4, if_pos c4]
    exact hb.2.1.2.1.symm
  rw [if_neg c4, if_neg c4]
theorem R_buys {n : Nat} {x : XC} {g k : LG} {tp : TP} {pl : PL} {v : MS} (h : RR n x g k tp pl v) (hn : n ≤ 600) (i : Int32) : rX3_buys i x g k tp pl = rX4_buys i v ∧ RR (n + 1) x g k tp pl (sX4_buys i v) := by
  obtain ⟨hx, ht, hp, hq⟩ := h
  have es : sX4_buys i v = (0, v.2) := by
    unfold sX4_buys
    repeat' split
    all_goals rfl
  rw [es]
  refine ⟨?_, hx, ht, hp, fun t => LQ_more (hq t) (by omega)⟩
  show rX1_boughtAt i pl = rX4_buys i v
  unfold rX1_boughtAt rX4_buys
  obtain ⟨p1, p2, p3, p4⟩ := hp
  rw [← p1]
  by_cases c : i < 0
  · rw [if_pos c, if_pos c]
  rw [if_neg c, if_neg c]
  by_cases c2 : i < pl.2.2.2.2.2.2
  · rw [if_neg (Int32.not_le.mpr c2), if_pos c2]
    obtain ⟨j, hj, rfl⟩ := nI_of c
    have q := ltI c2
    rw [nI_toInt hj] at q
    rw [nI_clamp hj]
    exact p4 j q
  · rw [if_pos (Int32.not_lt.mp c2), if_neg c2]
theorem mark_same {i : Int32} : rX4_isMark i = 0 ↔ rX3_isMark i = 0 := by
  constructor
  · intro h
    unfold rX4_isMark at h
    show rX3_within i 0 3 = 0
    unfold rX3_within
    split at h
    · rename_i q
      rw [if_pos q]
    · rename_i q
      split at h
      · rename_i q2
        rw [if_neg q, if_pos ((fa_lt _ _).mpr (by have := leI q2; rw [x4] at this; rw [x3]; omega))]
      · exact absurd h (by decide)
  · intro h
    unfold rX4_isMark
    rcases in_not (show rX3_within i 0 3 = 0 from h) with q | q
    · rw [if_pos ((fa_lt _ _).mpr q)]
    · rw [x3] at q
      rw [if_neg (fun r => by have := ltI r; rw [x0] at this; omega), if_pos ((fa_le _ _).mpr (by rw [x4]; omega))]
theorem mk_same {N : Nat} {C al : Int} {g : LG} {a : Nat → Int64} (h : LR N C al g a) {c w : Nat} (hc : c < 4) (hw : w < 5) : a ((2 + (5 * nI c)) + nI w).toNatClampNeg = rX0_marked (nI c) (nI w) g ∧ 0 ≤ (rX0_marked (nI c) (nI w) g).toInt ∧ (rX0_marked (nI c) (nI w) g).toInt ≤ 7200000 * (N : Int) ∧ (w < 2 → (rX0_marked (nI c) (nI w) g).toInt ≤ al) := by
  unfold rX0_marked
  rw [(clr_ix hc hw).1, (clr_ix hc hw).2]
  obtain ⟨h1, h2, h3, h4⟩ := h.2.1 (5 * c + w) (by omega)
  exact ⟨h1, h2, h3, fun q => h4 (by omega)⟩
theorem R_mark {n : Nat} {x : XC} {g k : LG} {tp : TP} {pl : PL} {v : MS} (h : RR n x g k tp pl v) (hn : n ≤ 600) (i wh : Int32) : (sX4_mark i wh v).1 = tX3_mark i wh x g k tp pl ∧ (tX3_mark i wh x g k tp pl = 0 → rX3_mark i wh x g k tp pl = rX4_mark i wh v) ∧ RR (n + 1) x g k tp pl (sX4_mark i wh v) := by
  have hb := RR_bg h v.1
  have eM : sX4_mark i wh v = sX4_mark_g_2 i wh v (sX4_begin (v.1, v.2)) := rfl
  have eS : rX4_mark i wh v = rX4_mark_g_2 i wh v (sX4_begin (v.1, v.2)) := rfl
  rw [eM, eS]
  generalize sX4_begin (v.1, v.2) = u at hb ⊢
  have l := hb.2.2.2.2.2.2.2.1
  unfold tX3_mark rX3_mark sX4_mark_g_2 rX4_mark_g_2
  by_cases c : rX3_isMark i = 0
  · have cm := mark_same.mpr c
    rw [if_pos c, if_pos cm]
    exact ⟨rfl, fun q => absurd q (by decide), RR_same hb 1⟩
  have cm : ¬ rX4_isMark i = 0 := fun q => c (mark_same.mp q)
  obtain ⟨j, hj, rfl⟩ := mark_nat c
  rw [if_neg c, if_neg c, if_neg cm, if_neg cm]
  by_cases c2 : rX3_within wh 0 4 = 0
  · rw [if_pos c2]
    rcases in_not c2 with q | q
    · have c3 : wh < 0 := (fa_lt _ _).mpr q
      rw [if_pos c3]
      exact ⟨rfl, fun q => absurd q (by decide), RR_same hb 1⟩
    · have c3 : ¬ wh < 0 := fun r => by have := ltI r; rw [x0] at this; rw [x4] at q; omega
      have c4 : ¬ wh ≤ 4 := fun r => by have := leI r; omega
      rw [if_neg c3, if_neg c4]
      exact ⟨rfl, fun q => absurd q (by decide), RR_same hb 1⟩
  · have q := in_val c2
    rw [x0, x4] at q
    have c3 : ¬ wh < 0 := fun r => by have := ltI r; rw [x0] at this; omega
    have c4 : wh ≤ 4 := (fa_le _ _).mpr (by rw [x4]; exact q.2)
    rw [if_neg c2, if_neg c2, if_neg c3, if_neg c3, if_pos c4, if_pos c4]
    obtain ⟨w, hw, rfl⟩ := nI_of c3
    rw [nI_toInt hw] at q
    refine ⟨rfl, fun _ => (mk_same l hj (by omega)).1.symm, RR_same hb 0⟩
theorem R_metres {n : Nat} {x : XC} {g k : LG} {tp : TP} {pl : PL} {v : MS} (h : RR n x g k tp pl v) (hn : n ≤ 600) (i z : Int32) : (sX4_metres i z v).1 = tX3_metres i z x g k tp pl ∧ (tX3_metres i z x g k tp pl = 0 → rX3_metres i z x g k tp pl = rX4_metres i z v) ∧ RR (n + 1) x g k tp pl (sX4_metres i z v) := by
  have hb := RR_bg h v.1
  have eM : sX4_metres i z v = sX4_metres_g_2 i z v (sX4_begin (v.1, v.2)) := rfl
  have eS : rX4_metres i z v = rX4_metres_g_2 i z v (sX4_begin (v.1, v.2)) := rfl
  rw [eM, eS]
  generalize sX4_begin (v.1, v.2) = u at hb ⊢
  have l := hb.2.2.2.2.2.2.2.1
  have f2 := hb.1.1.2.1
  unfold tX3_metres rX3_metres sX4_metres_g_2 rX4_metres_g_2
  by_cases c : rX3_isMark i = 0
  · have cm := mark_same.mpr c
    rw [if_pos c, if_pos cm]
    exact ⟨rfl, fun q => absurd q (by decide), RR_same hb 1⟩
  have cm : ¬ rX4_isMark i = 0 := fun q => c (mark_same.mp q)
  obtain ⟨j, hj, rfl⟩ := mark_nat c
  rw [if_neg c, if_neg c, if_neg cm, if_neg cm]
  unfold rX3_wayInHundredths
  by_cases c2 : z = 0
  · rw [if_pos c2, if_pos c2, if_pos c2]
    refine ⟨rfl, fun _ => ?_, RR_same hb 0⟩
    have e := (mk_same l hj (w := 0) (by omega)).1
    rw [show u.2.2.2.1 ((2 + (5 * nI j)) + 0).toNatClampNeg = rX0_marked (nI j) 0 g from e, ← f2]
  · rw [if_neg c2, if_neg c2, if_neg c2]
    refine ⟨rfl, fun _ => ?_, RR_same hb 0⟩
    have e := (mk_same l hj (w := 1) (by omega)).1
    rw [show u.2.2.2.1 ((2 + (5 * nI j)) + 1).toNatClampNeg = rX0_marked (nI j) 1 g from e, ← f2]
theorem R_refill {n : Nat} {x : XC} {g k : LG} {tp : TP} {pl : PL} {v : MS} (h : RR n x g k tp pl v) (hn : n ≤ 600) (i z : Int32) : (sX4_refill i z v).1 = tX3_refill i z x g k tp pl ∧ (tX3_refill i z x g k tp pl = 0 → rX3_refill i z x g k tp pl = rX4_refill i z v) ∧ RR (n + 1) x g k tp pl (sX4_refill i z v) := by
  have hb := RR_bg h v.1
  have eM : sX4_refill i z v = sX4_refill_g_2 i z v (sX4_begin (v.1, v.2)) := rfl
  have eS : rX4_refill i z v = rX4_refill_g_2 i z v (sX4_begin (v.1, v.2)) := rfl
  rw [eM, eS]
  generalize sX4_begin (v.1, v.2) = u at hb ⊢
  have l := hb.2.2.2.2.2.2.2.1
  have e22 := l.1.1.2.2.1
  have b4 := l.1.2.2.2.2.2.1
  have b5 := l.1.2.2.2.2.2.2.1
  unfold tX3_refill rX3_refill sX4_refill_g_2 rX4_refill_g_2
  by_cases c1 : i < 0
  · have r : rX0_tellsRefill i g = 0 := if_pos c1
    rw [if_pos r, if_pos c1]
    exact ⟨rfl, fun q => absurd q (by decide), RR_same hb 1⟩
  by_cases c2 : g.2.2.1 ≤ i
  · have r : rX0_tellsRefill i g = 0 := by
      unfold rX0_tellsRefill
      rw [if_neg c1, if_pos c2]
    have cm : 0 ≤ lg_cmp i.toInt64 (u.2.2.2.1 22) := cgeI.mpr (by rw [w64, e22]; exact leI c2)
    rw [if_pos r, if_neg c1, if_pos cm]
    exact ⟨rfl, fun q => absurd q (by decide), RR_same hb 1⟩
  have cm : ¬ 0 ≤ lg_cmp i.toInt64 (u.2.2.2.1 22) := fun q => by
    rw [cgeI, w64, e22] at q
    have := nleI c2
    omega
  have s1 : (g.2.2.1 - 30).toInt = g.2.2.1.toInt - 30 := by rw [fb_subI (by rw [x30]; omega) (by rw [x30]; omega), x30]
  have s2 : (u.2.2.2.1 22 - 30).toInt = g.2.2.1.toInt - 30 := by rw [fb_subL (by rw [y30]; omega) (by rw [y30]; omega), y30, e22]
  by_cases c3 : i < (g.2.2.1 - 30)
  · have r : rX0_tellsRefill i g = 0 := by
      unfold rX0_tellsRefill
      rw [if_neg c1, if_neg c2, if_pos c3]
    have cm2 : ¬ 0 ≤ lg_cmp i.toInt64 (u.2.2.2.1 22 - 30) := fun q => by
      rw [cgeI, w64, s2] at q
      have := ltI c3
      omega
    rw [if_pos r, if_neg c1, if_neg cm, if_neg cm2]
    exact ⟨rfl, fun q => absurd q (by decide), RR_same hb 1⟩
  have r : ¬ rX0_tellsRefill i g = 0 := by
    unfold rX0_tellsRefill
    rw [if_neg c1, if_neg c2, if_neg c3]
    decide
  have cm2 : 0 ≤ lg_cmp i.toInt64 (u.2.2.2.1 22 - 30) := cgeI.mpr (by rw [w64, s2]; have := nltI c3; omega)
  rw [if_neg r, if_neg r, if_neg c1, if_neg cm, if_pos cm2, if_neg c1, if_neg cm, if_pos cm2]
  obtain ⟨j, hj, rfl⟩ := nI_of c1
  have c2' := nleI c2
  rw [nI_toInt hj] at c2'
  have pX := placeX (x := nI j) (r := j) (nI_toInt hj)
  obtain ⟨pM, qM⟩ := placeM (y := (nI j).toInt64) (r := j) (by rw [w64, nI_toInt hj])
  have hm : j % 30 ≤ j := Nat.mod_le _ _
  obtain ⟨d1, d2, d3, d4, d5, d6⟩ := l.2.2.2 (j % 30) (Nat.mod_lt _ (by decide)) (by omega)
  unfold rX0_amount
  rw [pX]
  by_cases c4 : z = 0
  · rw [if_pos c4, if_pos c4, if_pos c4]
    refine ⟨rfl, fun _ => ?_, RR_same hb 0⟩
    have e0 : rX4_place (nI j).toInt64 + 0 = rX4_place (nI j).toInt64 := Int32.add_zero _
    rw [e0, pM]
    exact (i32_eq d1).symm
  · rw [if_neg c4, if_neg c4, if_neg c4]
    refine ⟨rfl, fun _ => ?_, RR_same hb 0⟩
    rw [qM]
    exact (i32_eq d2).symm
