theorem drive_M {u v : MS} {pu fu se : Int32} (c1 : ¬ rX3_within pu 0 100000 = 0) (c2 : ¬ rX3_within fu 0 10000 = 0) (c3 : ¬ rX3_within se 1 3600 = 0) (c4 : lg_cmp (u.2.2.2.2.2.2.2.2.2.2.2.2.1 + pu.toInt64) 100000000 ≤ 0) : sX4_drive_g_2 pu fu se v u = wna u (m_step (m_runs pu.toInt64 pu.toInt64 fu.toInt64 fu.toInt64 se.toInt64 (m_burn fu.toInt64 u.2.2.2.1))) (u.2.2.2.2.2.2.2.2.2.2.2.2.1 + pu.toInt64) ∧ rX4_drive_g_2 pu fu se v u = 1 := by
  unfold sX4_drive_g_2 rX4_drive_g_2
  rw [in_same, in_same, in_same, if_neg c1, if_neg c2, if_neg c3, if_pos c4, if_neg c1, if_neg c2, if_neg c3, if_pos c4]
  by_cases c5 : lg_cmp fu.toInt64 (u.2.2.2.1 1) ≤ 0
  · have e : m_burn fu.toInt64 u.2.2.2.1 = _ := if_pos c5
    rw [if_pos c5, if_pos c5, e]
    refine ⟨?_, rfl⟩
    show sX4_step (sX4_runs pu.toInt64 pu.toInt64 fu.toInt64 fu.toInt64 se.toInt64 (wn u (vp_updL (vp_updL u.2.2.2.1 0 (rX4_less (u.2.2.2.1 0) fu.toInt64)) 1 (rX4_less (u.2.2.2.1 1) fu.toInt64)))) = _
    rw [runs_wn, step_wn]
    rfl
  · have e : m_burn fu.toInt64 u.2.2.2.1 = _ := if_neg c5
    rw [if_neg c5, if_neg c5, e]
    refine ⟨?_, rfl⟩
    show sX4_step (sX4_runs pu.toInt64 pu.toInt64 fu.toInt64 fu.toInt64 se.toInt64 (wn u (vp_updL (vp_updL (vp_updL (vp_updL u.2.2.2.1 24 (u.2.2.2.1 24 + 1)) 27 0) 0 (rX4_less (u.2.2.2.1 0) fu.toInt64)) 1 (rX4_less (u.2.2.2.1 1) fu.toInt64)))) = _
    rw [runs_wn, step_wn]
    rfl
theorem RR_wna {n : Nat} {x' : XC} {g k : LG} {tp : TP} {pl : PL} {u : MS} {A : Nat → Int64} {l : Int64} (h1 : RX x' u) (h2 : RT tp u) (h3 : RP pl u) (h4 : ¬ u.2.2.2.2.2.2.2.2.2.2.2.2.2.1 = 0) (h5 : l = x'.2.2.2.2.2.2.2) (h6 : 0 ≤ x'.2.2.2.2.2.2.2.toInt) (h7 : x'.2.2.2.2.2.2.2.toInt ≤ 100000000) (h8 : LR (2 * n) x'.1.toInt x'.2.2.2.2.2.2.2.toInt g A) (h9 : LR (2 * n) x'.1.toInt x'.2.2.2.2.2.2.2.toInt k u.2.2.2.2.1) : RR n x' g k tp pl (wna u A l) := RR_mk h1 h2 h3 ⟨h4, h5, h6, h7, h8, h9⟩
theorem R_drive {n : Nat} {x : XC} {g k : LG} {tp : TP} {pl : PL} {v : MS} (h : RR n x g k tp pl v) (hn : n ≤ 600) (pu fu se : Int32) : rX3_drive pu fu se x g k tp pl = rX4_drive pu fu se v ∧ RR (n + 1) (sX3_drive_x pu fu se x g k tp pl) (sX3_drive_g pu fu se x g k tp pl) k tp pl (sX4_drive pu fu se v) := by
  have hb := RR_bg h 0
  have eM : sX4_drive pu fu se v = sX4_drive_g_2 pu fu se v (sX4_begin (0, v.2)) := rfl
  have eS : rX4_drive pu fu se v = rX4_drive_g_2 pu fu se v (sX4_begin (0, v.2)) := rfl
  rw [eM, eS]
  generalize sX4_begin (0, v.2) = u at hb ⊢
  have al := hb.2.2.2.2.1
  have no : rX3_drive pu fu se x g k tp pl = 0 → sX3_drive_x pu fu se x g k tp pl = x → sX3_drive_g pu fu se x g k tp pl = g → sX4_drive_g_2 pu fu se v u = u → rX4_drive_g_2 pu fu se v u = 0 → rX3_drive pu fu se x g k tp pl = rX4_drive_g_2 pu fu se v u ∧ RR (n + 1) (sX3_drive_x pu fu se x g k tp pl) (sX3_drive_g pu fu se x g k tp pl) k tp pl (sX4_drive_g_2 pu fu se v u) := fun a1 a2 a3 a4 a5 => by
    rw [a1, a2, a3, a4, a5]
    exact ⟨rfl, RR_u hb⟩
  by_cases c1 : rX3_within pu 0 100000 = 0
  · exact no (by unfold rX3_drive; rw [if_pos c1]) (by unfold sX3_drive_x; rw [if_pos c1]) (by unfold sX3_drive_g; rw [if_pos c1]) (by unfold sX4_drive_g_2; rw [in_same, if_pos c1]) (by unfold rX4_drive_g_2; rw [in_same, if_pos c1])
  by_cases c2 : rX3_within fu 0 10000 = 0
  · exact no (by unfold rX3_drive; rw [if_neg c1, if_pos c2]) (by unfold sX3_drive_x; rw [if_neg c1, if_pos c2]) (by unfold sX3_drive_g; rw [if_neg c1, if_pos c2]) (by unfold sX4_drive_g_2; rw [in_same, in_same, if_neg c1, if_pos c2]) (by unfold rX4_drive_g_2; rw [in_same, in_same, if_neg c1, if_pos c2])
  by_cases c3 : rX3_within se 1 3600 = 0
  · exact no (by unfold rX3_drive; rw [if_neg c1, if_neg c2, if_pos c3]) (by unfold sX3_drive_x; rw [if_neg c1, if_neg c2, if_pos c3]) (by unfold sX3_drive_g; rw [if_neg c1, if_neg c2, if_pos c3]) (by unfold sX4_drive_g_2; rw [in_same, in_same, in_same, if_neg c1, if_neg c2, if_pos c3]) (by unfold rX4_drive_g_2; rw [in_same, in_same, in_same, if_neg c1, if_neg c2, if_pos c3])
  by_cases c4 : lg_cmp (x.2.2.2.2.2.2.2 + pu.toInt64) 100000000 ≤ 0
  · have c4m : lg_cmp (u.2.2.2.2.2.2.2.2.2.2.2.2.1 + pu.toInt64) 100000000 ≤ 0 := by rw [al]; exact c4
    obtain ⟨m1, m2⟩ := drive_M (v := v) c1 c2 c3 c4m
    have r1 : rX3_drive pu fu se x g k tp pl = 1 := by
      unfold rX3_drive
      rw [if_neg c1, if_neg c2, if_neg c3, if_pos c4]
      rfl
    have r2 : sX3_drive_x pu fu se x g k tp pl = (x.1, x.2.1, x.2.2.1, x.2.2.2.1, x.2.2.2.2.1, x.2.2.2.2.2.1, x.2.2.2.2.2.2.1, x.2.2.2.2.2.2.2 + pu.toInt64) := by
      unfold sX3_drive_x
      rw [if_neg c1, if_neg c2, if_neg c3, if_pos c4]
      rfl
    have r3 : sX3_drive_g pu fu se x g k tp pl = sX0_showStep (sX0_pass pu pu fu fu se (sX0_burn fu g)) := by
      unfold sX3_drive_g
      rw [if_neg c1, if_neg c2, if_neg c3, if_pos c4, ← comm_burn]
      rfl
    rw [r1, r2, r3, m1, m2]
    obtain ⟨i1, i2⟩ := in_val c1
    obtain ⟨i3, i4⟩ := in_val c2
    obtain ⟨i5, i6⟩ := in_val c3
    rw [x0] at i1 i3
    rw [x100000] at i2
    rw [x10000] at i4
    rw [x1] at i5
    rw [x3600] at i6
    obtain ⟨hx, ht, hp, q1, q2, q3, q4, q5, q6⟩ := hb
    have hC := hx.2.2.1
    have sal : (x.2.2.2.2.2.2.2 + pu.toInt64).toInt = x.2.2.2.2.2.2.2.toInt + pu.toInt := by rw [fb_addL (by rw [w64]; omega) (by rw [w64]; omega), w64]
    have lim : x.2.2.2.2.2.2.2.toInt + pu.toInt ≤ 100000000 := by
      have q := cleI.mp c4
      rw [sal, y100000000] at q
      exact q
    have l1 := LR_burn i3 i4 hC (by omega) q5
    have l2 := LR_pass (pl := pu) (pm := pu) (fl := fu) (fm := fu) (sec := se) i1 (Int.le_refl _) (by omega) i3 i4 i3 (by omega) (by omega) (by omega) (by omega) l1
    have l3 := LR_step hC l2
    have l4 : LR (2 * (n + 1)) x.1.toInt (x.2.2.2.2.2.2.2 + pu.toInt64).toInt (sX0_showStep (sX0_pass pu pu fu fu se (sX0_burn fu g))) (m_step (m_runs pu.toInt64 pu.toInt64 fu.toInt64 fu.toInt64 se.toInt64 (m_burn fu.toInt64 u.2.2.2.1))) := by
      rw [sal]
      exact LR_more l3 (by omega) (Int.le_refl _)
    have l5 : LR (2 * (n + 1)) x.1.toInt (x.2.2.2.2.2.2.2 + pu.toInt64).toInt k u.2.2.2.2.1 := by
      rw [sal]
      exact LR_more q6 (by omega) (by omega)
    exact ⟨rfl, RR_wna (x' := (x.1, x.2.1, x.2.2.1, x.2.2.2.1, x.2.2.2.2.1, x.2.2.2.2.2.1, x.2.2.2.2.2.2.1, x.2.2.2.2.2.2.2 + pu.toInt64)) hx ht hp q1 (by rw [q2]) (show 0 ≤ (x.2.2.2.2.2.2.2 + pu.toInt64).toInt by omega) (show (x.2.2.2.2.2.2.2 + pu.toInt64).toInt ≤ 100000000 by omega) l4 l5⟩
  · have c4m : ¬ lg_cmp (u.2.2.2.2.2.2.2.2.2.2.2.2.1 + pu.toInt64) 100000000 ≤ 0 := by rw [al]; exact c4
    exact no (by unfold rX3_drive; rw [if_neg c1, if_neg c2, if_neg c3, if_neg c4]) (by unfold sX3_drive_x; rw [if_neg c1, if_neg c2, if_neg c3, if_neg c4]) (by unfold sX3_drive_g; rw [if_neg c1, if_neg c2, if_neg c3, if_neg c4]) (by unfold sX4_drive_g_2; rw [in_same, in_same, in_same, if_neg c1, if_neg c2, if_neg c3, if_neg c4m]) (by unfold rX4_drive_g_2; rw [in_same, in_same, in_same, if_neg c1, if_neg c2, if_neg c3, if_neg c4m])
theorem fits_same {x : XC} {g k : LG} {tp : TP} {pl : PL} {u : MS} (se : Int32) (h1 : x.2.2.2.1 = u.2.2.2.2.2.2.2.2.1) (h2 : u.2.2.2.2.2.2.2.2.2.2.2.2.1 = x.2.2.2.2.2.2.2) : rX3_gapFits se x g k tp pl = rX4_mayGap se u := by
  unfold rX3_gapFits rX4_mayGap
  rw [h1, h2]
  rfl
theorem gaps_LQ {N : Nat} {x : XC} {g k k' : LG} {tp : TP} {pl : PL} {u : MS} {se : Int32} (hN : N ≤ 1900) (hx : RX x u) (hq : LQ N x g k u) (hf : ¬ rX3_gapFits se x g k' tp pl = 0) : LQ (N + 1) (sX3_passGap_x se x g k' tp pl) (sX3_passGap_g se x g k' tp pl) k (sX4_gaps se u) ∧ RX (sX3_passGap_x se x g k' tp pl) (sX4_gaps se u) := by
  obtain ⟨⟨f1, f2, f3, f4, f5, f6, f7⟩, d1, d2, d3, d4, d5, d6, d7, d8, d9, d10, d11, d12, d13, d14⟩ := hx
  obtain ⟨q1, q2, q3, q4, q5, q6⟩ := hq
  have hf2 : ¬ rX3_within se 1 36000 = 0 ∧ ¬ 0 < lg_cmp (x.2.2.2.2.2.2.2 + (x.2.2.2.1.toInt64 * se.toInt64)) 100000000 := by
    unfold rX3_gapFits at hf
    split at hf
    · exact absurd rfl hf
    rename_i h1
    split at hf
    · exact absurd rfl hf
    rename_i h2
    exact ⟨h1, h2⟩
  obtain ⟨i1, i2⟩ := in_val hf2.1
  rw [x1] at i1
  rw [x36000] at i2
  obtain ⟨m1, m2, m3, m4⟩ := mul64 (x := x.2.2.2.1) (y := se) (a := 200) (b := 36000) (by omega) (by omega) (by omega) (by omega) (by decide)
  obtain ⟨t1, t2, t3, t4⟩ := mul64 (x := x.2.2.2.2.1) (y := se) (a := 100) (b := 36000) (by omega) (by omega) (by omega) (by omega) (by decide)
  have ef : u.2.2.2.2.2.2.2.2.1.toInt64 * se.toInt64 = (x.2.2.2.1 * se).toInt64 := (fa_eq64 _ _).mpr (by rw [← f4, w64, m1, m2])
  have et : u.2.2.2.2.2.2.2.2.2.1.toInt64 * se.toInt64 = (x.2.2.2.2.1 * se).toInt64 := (fa_eq64 _ _).mpr (by rw [← f5, w64, t1, t2])
  have eM : sX4_gaps se u = wna u (m_step (m_runs (0 : Int32).toInt64 (x.2.2.2.1 * se).toInt64 (0 : Int32).toInt64 (x.2.2.2.2.1 * se).toInt64 se.toInt64 (m_doubt (x.2.2.2.2.1 * se).toInt64 u.2.2.2.1))) (u.2.2.2.2.2.2.2.2.2.2.2.2.1 + (x.2.2.2.1 * se).toInt64) := by
    show sX4_step (sX4_runs 0 (u.2.2.2.2.2.2.2.2.1.toInt64 * se.toInt64) 0 (u.2.2.2.2.2.2.2.2.2.1.toInt64 * se.toInt64) se.toInt64 (wn u (vp_updL u.2.2.2.1 0 (rX4_less (u.2.2.2.1 0) (u.2.2.2.2.2.2.2.2.2.1.toInt64 * se.toInt64))))) = _
    rw [ef, et, runs_wn, step_wn]
    rfl
  have eX : sX3_passGap_x se x g k' tp pl = (x.1, x.2.1, x.2.2.1, x.2.2.2.1, x.2.2.2.2.1, x.2.2.2.2.2.1, x.2.2.2.2.2.2.1, x.2.2.2.2.2.2.2 + (x.2.2.2.1 * se).toInt64) := rfl
  have eG : sX3_passGap_g se x g k' tp pl = sX0_showStep (sX0_pass 0 (x.2.2.2.1 * se) 0 (x.2.2.2.2.1 * se) se (sX0_doubt (x.2.2.2.2.1 * se) g)) := rfl
  have sal : (x.2.2.2.2.2.2.2 + (x.2.2.2.1 * se).toInt64).toInt = x.2.2.2.2.2.2.2.toInt + (x.2.2.2.1 * se).toInt := by rw [fb_addL (by rw [w64]; omega) (by rw [w64]; omega), w64]
  have lim : x.2.2.2.2.2.2.2.toInt + (x.2.2.2.1 * se).toInt ≤ 100000000 := by
    have q := hf2.2
    rw [cgtI, y100000000, fb_addL (by omega) (by omega), m2] at q
    omega
  have l1 := LR_doubt (F := (x.2.2.2.2.1 * se).toInt64) (f := x.2.2.2.2.1 * se) (w64 _) (by omega) (by omega) d2 q5
  have l2 := LR_pass (pl := 0) (pm := x.2.2.2.1 * se) (fl := 0) (fm := x.2.2.2.2.1 * se) (sec := se) (by rw [x0]; omega) (by rw [x0]; omega) (by omega) (by rw [x0]; omega) (by rw [x0]; omega) (by omega) (by omega) (by omega) (by omega) (by omega) l1
  have l3 := LR_step d2 l2
  rw [eM, eX, eG]
  refine ⟨⟨q1, by rw [← q2]; rfl, ?_, ?_, ?_, ?_⟩, ⟨f1, f2, f3, f4, f5, f6, f7⟩, d1, d2, d3, d4, d5, d6, d7, d8, d9, d10, d11, d12, d13, d14⟩
  · show 0 ≤ (x.2.2.2.2.2.2.2 + (x.2.2.2.1 * se).toInt64).toInt
    omega
  · show (x.2.2.2.2.2.2.2 + (x.2.2.2.1 * se).toInt64).toInt ≤ 100000000
    omega
  · show LR (N + 1) x.1.toInt (x.2.2.2.2.2.2.2 + (x.2.2.2.1 * se).toInt64).toInt _ _
    rw [sal]
    exact l3
  · show LR (N + 1) x.1.toInt (x.2.2.2.2.2.2.2 + (x.2.2.2.1 * se).toInt64).toInt k u.2.2.2.2.1
    rw [sal]
    exact LR_more q6 (by omega) (by omega)
theorem gaps_T {tp : TP} {pl : PL} {u : MS} {se : Int32} (ht : RT tp u) (hp : RP pl u) : RT tp (sX4_gaps se u) ∧ RP pl (sX4_gaps se u) := by
  have eM : ∃ a l, sX4_gaps se u = wna u a l := by
    show ∃ a l, sX4_step (sX4_runs 0 (u.2.2.2.2.2.2.2.2.1.toInt64 * se.toInt64) 0 (u.2.2.2.2.2.2.2.2.2.1.toInt64 * se.toInt64) se.toInt64 (wn u (vp_updL u.2.2.2.1 0 (rX4_less (u.2.2.2.1 0) (u.2.2.2.2.2.2.2.2.2.1.toInt64 * se.toInt64))))) = wna u a l
    rw [runs_wn, step_wn]
    exact ⟨_, _, rfl⟩
  obtain ⟨a, l, e⟩ := eM
  rw [e]
  exact ⟨ht, hp⟩
theorem R_gap {n : Nat} {x : XC} {g k : LG} {tp : TP} {pl : PL} {v : MS} (h : RR n x g k tp pl v) (hn : n ≤ 600) (se : Int32) : rX3_gap se x g k tp pl = rX4_gap se v ∧ RR (n + 1) (sX3_gap_x se x g k tp pl) (sX3_gap_g se x g k tp pl) k tp pl (sX4_gap se v) := by
  have hb := RR_bg h 0
  have eM : sX4_gap se v = sX4_gap_g_2 se v (sX4_begin (0, v.2)) := rfl
  have eS : rX4_gap se v = rX4_gap_g_2 se v (sX4_begin (0, v.2)) := rfl
  rw [eM, eS]
  generalize sX4_begin (0, v.2) = u at hb ⊢
  obtain ⟨hx, ht, hp, hq⟩ := hb
  have e := fits_same (x := x) (g := g) (k := k) (tp := tp) (pl := pl) (u := u) se hx.1.2.2.2.1 hq.2.1
  unfold rX3_gap sX3_gap_x sX3_gap_g sX4_gap_g_2 rX4_gap_g_2
  rw [← e]
  by_cases c : rX3_gapFits se x g k tp pl = 0
  · rw [if_pos c, if_pos c, if_pos c, if_pos c, if_pos c]
    exact ⟨rfl, RR_u ⟨hx, ht, hp, hq⟩⟩
  · rw [if_neg c, if_neg c, if_neg c, if_neg c, if_neg c]
    have l := gaps_LQ (k' := k) (tp := tp) (pl := pl) (by omega) hx hq c
    have l2 := gaps_T (se := se) ht hp
    exact ⟨rfl, RR_mk l.2 l2.1 l2.2 (LQ_more l.1 (by omega))⟩
theorem R_keep {n : Nat} {x : XC} {g k : LG} {tp : TP} {pl : PL} {v : MS} (h : RR n x g k tp pl v) (hn : n ≤ 600) : RR (n + 1) x g (sX3_keep x g k tp pl) tp pl (sX4_keep v) := by
  have hb := RR_bg h 0
  have eM : sX4_keep v = sX4_copy (sX4_begin (0, v.2)) := rfl
  rw [eM]
  generalize sX4_begin (0, v.2) = u at hb ⊢
  obtain ⟨hx, ht, hp, q1, q2, q3, q4, q5, q6⟩ := hb
  refine RR_mk hx ht hp (LQ_more (N := 2 * n) ⟨q1, q2, q3, q4, q5, ?_⟩ (by omega))
  show LR (2 * n) x.1.toInt x.2.2.2.2.2.2.2.toInt (sX0_copyFrom k g) (cfL u.2.2.2.1 u.2.2.2.2.1 92)
  exact LR_cong (LR_copy q5) (fun j hj => cfL_in hj)
theorem R_dead {n : Nat} {x : XC} {g k : LG} {tp : TP} {pl : PL} {v : MS} (h : RR n x g k tp pl v) (hn : n ≤ 600) (se : Int32) : rX3_dead se x g k tp pl = rX4_dead se v ∧ RR (n + 1) (sX3_dead_x se x g k tp pl) (sX3_dead_g se x g k tp pl) k tp pl (sX4_dead se v) := by
  have hb := RR_bg h 0
  have eM : sX4_dead se v = sX4_dead_g_2 se v (sX4_begin (0, v.2)) := rfl
  have eS : rX4_dead se v = rX4_dead_g_2 se v (sX4_begin (0, v.2)) := rfl
  rw [eM, eS]
  generalize sX4_begin (0, v.2) = u at hb ⊢
  obtain ⟨hx, ht, hp, hq⟩ := hb
  have e := fits_same (x := x) (g := g) (k := k) (tp := tp) (pl := pl) (u := u) se hx.1.2.2.2.1 hq.2.1
  unfold rX3_dead sX3_dead_x sX3_dead_g sX4_dead_g_2 rX4_dead_g_2
  rw [← e]
  by_cases c : rX3_gapFits se x g k tp pl = 0
  · rw [if_pos c, if_pos c, if_pos c, if_pos c, if_pos c]
    exact ⟨rfl, RR_u ⟨hx, ht, hp, hq⟩⟩
  · rw [if_neg c, if_neg c, if_neg c, if_neg c, if_neg c]
    have hq2 : LQ (2 * n) x (sX0_copyFrom g k) k (wn u (cfL u.2.2.2.2.1 u.2.2.2.1 92)) := ⟨hq.1, hq.2.1, hq.2.2.1, hq.2.2.2.1, LR_cong (LR_copy hq.2.2.2.2.2) (fun j hj => cfL_in hj), hq.2.2.2.2.2⟩
    have hx2 : RX x (wn u (cfL u.2.2.2.2.1 u.2.2.2.1 92)) := hx
    have l := gaps_LQ (k' := k) (tp := tp) (pl := pl) (by omega) hx2 hq2 c
    have l2 := gaps_T (se := se) (u := wn u (cfL u.2.2.2.2.1 u.2.2.2.1 92)) ht hp
    exact ⟨rfl, RR_mk l.2 l2.1 l2.2 (LQ_more l.1 (by omega))⟩
theorem mark_nat {i : Int32} (h : ¬ rX3_isMark i = 0) : ∃ c : Nat, c < 4 ∧ i = nI c := by
  have q := isMark_in h
  exact vp_in_of q (by decide)
theorem R_set {n : Nat} {x : XC} {g k : LG} {tp : TP} {pl : PL} {v : MS} (h : RR n x g k tp pl v) (hn : n ≤ 600) (i : Int32) : rX3_set i x g k tp pl = rX4_set i v ∧ RR (n + 1) x (sX3_set i x g k tp pl) k tp pl (sX4_set i v) := by
  have hb := RR_bg h 0
  have eM : sX4_set i v = sX4_set_g_2 i v (sX4_begin (0, v.2)) := rfl
  have eS : rX4_set i v = rX4_set_g_2 i v (sX4_begin (0, v.2)) := rfl
  rw [eM, eS]
  generalize sX4_begin (0, v.2) = u at hb ⊢
  unfold rX3_set sX3_set sX4_set_g_2 rX4_set_g_2
  by_cases c : rX3_isMark i = 0
  · rw [if_pos c, if_pos c]
    rcases in_not (show rX3_within i 0 3 = 0 from c) with q | q
    · have c2 : i < 0 := (fa_lt _ _).mpr q
      rw [if_pos c2, if_pos c2]
      exact ⟨rfl, RR_u hb⟩
    · have c2 : ¬ i < 0 := fun q2 => by have := ltI q2; rw [x0] at this; rw [x3] at q; omega
      have c3 : ¬ i ≤ 3 := fun q2 => by have := leI q2; omega
      rw [if_neg c2, if_neg c2, if_neg c3, if_neg c3]
      exact ⟨rfl, RR_u hb⟩
  · obtain ⟨j, hj, rfl⟩ := mark_nat c
    have q := in_val (show ¬ rX3_within (nI j) 0 3 = 0 from c)
    have c2 : ¬ nI j < 0 := fun q2 => by have := ltI q2; omega
    have c3 : nI j ≤ 3 := (fa_le _ _).mpr q.2
    rw [if_neg c, if_neg c, if_neg c2, if_neg c2, if_pos c3, if_pos c3]
    obtain ⟨hx, ht, hp, q1, q2, q3, q4, q5, q6⟩ := hb
    have l := LR_clear hj q3 q5
    exact ⟨rfl, RR_mk hx ht hp (LQ_more (N := 2 * n) ⟨q1, q2, q3, q4, l, q6⟩ (by omega))⟩
