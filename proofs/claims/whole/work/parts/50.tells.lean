theorem tl_lo {x : XC} {u : MS} {y : Int32} (hx : RX x u) (h0 : 0 ≤ y.toInt) (h1 : y.toInt ≤ 255) : ((if y ≤ u.2.2.2.2.2.2.2.1 then 0 else (u.2.2.2.2.2.1.toInt64 * ((y - u.2.2.2.2.2.2.2.1).toInt64)) / 255) : Int64).toInt = (if 0 < ((x.1 * (y - x.2.2.1)) / 255) then ((x.1 * (y - x.2.2.1)) / 255) else 0).toInt ∧ 0 ≤ (if 0 < ((x.1 * (y - x.2.2.1)) / 255) then ((x.1 * (y - x.2.2.1)) / 255) else 0).toInt ∧ (if 0 < ((x.1 * (y - x.2.2.1)) / 255) then ((x.1 * (y - x.2.2.1)) / 255) else 0).toInt ≤ x.1.toInt := by
  obtain ⟨⟨f1, f2, f3, f4, f5, f6, f7⟩, d1, d2, d3, d4, d5, d6, d7⟩ := hx
  rw [← f3, ← f1]
  have s1 : (y - x.2.2.1).toInt = y.toInt - x.2.2.1.toInt := fb_subI (by omega) (by omega)
  by_cases c : y.toInt ≤ x.2.2.1.toInt
  · have m1 : x.1.toInt * (x.2.2.1.toInt - y.toInt) ≤ 120000 * 60 := Int.mul_le_mul d2 (by omega) (by omega) (by omega)
    have m2 : 0 ≤ x.1.toInt * (x.2.2.1.toInt - y.toInt) := Int.mul_nonneg (by omega) (by omega)
    have m3 : x.1.toInt * (y.toInt - x.2.2.1.toInt) = -(x.1.toInt * (x.2.2.1.toInt - y.toInt)) := by rw [← Int.mul_neg]; congr 1; omega
    have s2 : (x.1 * (y - x.2.2.1)).toInt = x.1.toInt * (y.toInt - x.2.2.1.toInt) := by rw [fb_mulI (by rw [s1]; omega) (by rw [s1]; omega), s1]
    have s3 : ((x.1 * (y - x.2.2.1)) / 255).toInt ≤ 0 := by
      rcases Int.lt_or_le (x.1 * (y - x.2.2.1)).toInt 0 with q | q
      · exact dvN q
      · rw [dvI q (by decide), x255]
        omega
    have e1 : (if 0 < ((x.1 * (y - x.2.2.1)) / 255) then ((x.1 * (y - x.2.2.1)) / 255) else 0) = 0 := if_neg (fun q => by have := ltI q; rw [x0] at this; omega)
    have e2 : (if y ≤ x.2.2.1 then 0 else (x.1.toInt64 * ((y - x.2.2.1).toInt64)) / 255) = (0 : Int64) := if_pos ((fa_le _ _).mpr c)
    rw [e1, e2, x0, y0]
    omega
  · have m1 : x.1.toInt * (y.toInt - x.2.2.1.toInt) ≤ x.1.toInt * 255 := Int.mul_le_mul_of_nonneg_left (by omega) (by omega)
    have m2 : 0 ≤ x.1.toInt * (y.toInt - x.2.2.1.toInt) := Int.mul_nonneg (by omega) (by omega)
    have s2 : (x.1 * (y - x.2.2.1)).toInt = x.1.toInt * (y.toInt - x.2.2.1.toInt) := by rw [fb_mulI (by rw [s1]; omega) (by rw [s1]; omega), s1]
    have s3 : (x.1.toInt64 * (y - x.2.2.1).toInt64).toInt = x.1.toInt * (y.toInt - x.2.2.1.toInt) := by rw [fb_mulL (by rw [w64, w64, s1]; omega) (by rw [w64, w64, s1]; omega), w64, w64, s1]
    have s4 : ((x.1 * (y - x.2.2.1)) / 255).toInt = (x.1.toInt * (y.toInt - x.2.2.1.toInt)) / 255 := by rw [dvI (by omega) (by decide), x255, s2]
    have s5 : ((x.1.toInt64 * (y - x.2.2.1).toInt64) / 255).toInt = (x.1.toInt * (y.toInt - x.2.2.1.toInt)) / 255 := by rw [dvL (by omega) (by decide), y255, s3]
    have e2 : (if y ≤ x.2.2.1 then 0 else (x.1.toInt64 * ((y - x.2.2.1).toInt64)) / 255) = (x.1.toInt64 * ((y - x.2.2.1).toInt64)) / 255 := if_neg (fun q => c (leI q))
    have e1 : (if 0 < ((x.1 * (y - x.2.2.1)) / 255) then ((x.1 * (y - x.2.2.1)) / 255) else 0).toInt = (x.1.toInt * (y.toInt - x.2.2.1.toInt)) / 255 := by
      by_cases q : 0 < ((x.1 * (y - x.2.2.1)) / 255)
      · rw [if_pos q, s4]
      · rw [if_neg q, x0]
        have := nltI q
        rw [x0] at this
        omega
    rw [e1, e2, s5]
    omega
theorem tl_hi {x : XC} {u : MS} {y : Int32} (hx : RX x u) (h0 : 0 ≤ y.toInt) (h1 : y.toInt ≤ 255) : ((if (lg_cmp ((u.2.2.2.2.2.1.toInt64 * (((y + 1) + u.2.2.2.2.2.2.2.1).toInt64)) / 255) u.2.2.2.2.2.1.toInt64) ≤ 0 then (u.2.2.2.2.2.1.toInt64 * (((y + 1) + u.2.2.2.2.2.2.2.1).toInt64)) / 255 else u.2.2.2.2.2.1.toInt64) : Int64).toInt = (if ((x.1 * ((y + 1) + x.2.2.1)) / 255) < x.1 then ((x.1 * ((y + 1) + x.2.2.1)) / 255) else x.1).toInt ∧ 0 ≤ (if ((x.1 * ((y + 1) + x.2.2.1)) / 255) < x.1 then ((x.1 * ((y + 1) + x.2.2.1)) / 255) else x.1).toInt ∧ (if ((x.1 * ((y + 1) + x.2.2.1)) / 255) < x.1 then ((x.1 * ((y + 1) + x.2.2.1)) / 255) else x.1).toInt ≤ x.1.toInt := by
  obtain ⟨⟨f1, f2, f3, f4, f5, f6, f7⟩, d1, d2, d3, d4, d5, d6, d7⟩ := hx
  rw [← f3, ← f1]
  have s0 : (y + 1).toInt = y.toInt + 1 := by rw [fb_addI (by rw [x1]; omega) (by rw [x1]; omega), x1]
  have s1 : ((y + 1) + x.2.2.1).toInt = y.toInt + 1 + x.2.2.1.toInt := by rw [fb_addI (by rw [s0]; omega) (by rw [s0]; omega), s0]
  have m1 : x.1.toInt * (y.toInt + 1 + x.2.2.1.toInt) ≤ 120000 * 316 := Int.mul_le_mul d2 (by omega) (by omega) (by omega)
  have m2 : 0 ≤ x.1.toInt * (y.toInt + 1 + x.2.2.1.toInt) := Int.mul_nonneg (by omega) (by omega)
  have s2 : (x.1 * ((y + 1) + x.2.2.1)).toInt = x.1.toInt * (y.toInt + 1 + x.2.2.1.toInt) := by rw [fb_mulI (by rw [s1]; omega) (by rw [s1]; omega), s1]
  have s3 : (x.1.toInt64 * ((y + 1) + x.2.2.1).toInt64).toInt = x.1.toInt * (y.toInt + 1 + x.2.2.1.toInt) := by rw [fb_mulL (by rw [w64, w64, s1]; omega) (by rw [w64, w64, s1]; omega), w64, w64, s1]
  have s4 : ((x.1 * ((y + 1) + x.2.2.1)) / 255).toInt = (x.1.toInt * (y.toInt + 1 + x.2.2.1.toInt)) / 255 := by rw [dvI (by omega) (by decide), x255, s2]
  have s5 : ((x.1.toInt64 * ((y + 1) + x.2.2.1).toInt64) / 255).toInt = (x.1.toInt * (y.toInt + 1 + x.2.2.1.toInt)) / 255 := by rw [dvL (by omega) (by decide), y255, s3]
  by_cases c : (x.1.toInt * (y.toInt + 1 + x.2.2.1.toInt)) / 255 < x.1.toInt
  · have e1 : (if ((x.1 * ((y + 1) + x.2.2.1)) / 255) < x.1 then ((x.1 * ((y + 1) + x.2.2.1)) / 255) else x.1) = (x.1 * ((y + 1) + x.2.2.1)) / 255 := if_pos ((fa_lt _ _).mpr (by rw [s4]; exact c))
    have e2 : (if (lg_cmp ((x.1.toInt64 * (((y + 1) + x.2.2.1).toInt64)) / 255) x.1.toInt64) ≤ 0 then (x.1.toInt64 * (((y + 1) + x.2.2.1).toInt64)) / 255 else x.1.toInt64) = (x.1.toInt64 * (((y + 1) + x.2.2.1).toInt64)) / 255 := if_pos (cleI.mpr (by rw [s5, w64]; omega))
    rw [e1, e2, s4, s5]
    omega
  · have e1 : (if ((x.1 * ((y + 1) + x.2.2.1)) / 255) < x.1 then ((x.1 * ((y + 1) + x.2.2.1)) / 255) else x.1) = x.1 := if_neg (fun q => by have := ltI q; rw [s4] at this; exact c this)
    have e2 : (if (lg_cmp ((x.1.toInt64 * (((y + 1) + x.2.2.1).toInt64)) / 255) x.1.toInt64) ≤ 0 then (x.1.toInt64 * (((y + 1) + x.2.2.1).toInt64)) / 255 else x.1.toInt64).toInt = x.1.toInt := by
      split
      · rename_i q
        have := cleI.mp q
        rw [s5, w64] at this
        rw [s5]
        omega
      · exact w64 _
    rw [e1, e2]
    omega
theorem wn_wn (u : MS) (a b : Nat → Int64) : wn (wn u a) b = wn u b := rfl
theorem wn_n (u : MS) (a : Nat → Int64) : (wn u a).2.2.2.1 = a := rfl
theorem tells_ref {y : Int32} {v u : MS} {p q : Int64} (c : (u.2.2.2.1 1).toInt < p.toInt) : sX4_tells_n_10 y v u p q = wn u (m_jump (vp_updL (vp_updL (m_clear 3 (vp_updL (m_ref2 (m_ref1 p q (rX4_place (u.2.2.2.1 22)) u.2.2.2.1)) 27 1)) 0 p) 1 q)) ∧ rX4_tells_n_10 y v u p q = 1 := by
  have e : (if (lg_cmp p (u.2.2.2.1 1)) ≤ 0 then (0 : Int32) else 1) = 1 := if_neg (fun h => by rw [cleI] at h; omega)
  unfold sX4_tells_n_10 rX4_tells_n_10
  rw [if_pos (cgtI.mpr c), if_pos (cgtI.mpr c), e]
  unfold sX4_tells_n_15 rX4_tells_n_15
  rw [if_neg (by decide), if_neg (by decide), ← clear27]
  unfold sX4_tells_g_26 sX4_tells_g_27 sX4_tells_g_29 sX4_tells_g_32 rX4_tells_g_26 rX4_tells_g_27 rX4_tells_g_29 rX4_tells_g_32
  refine ⟨?_, rfl⟩
  have t1 : sf_tells1 y p q 1 (rX4_place (u.2.2.2.1 22)) u = wn u (m_ref1 p q (rX4_place (u.2.2.2.1 22)) u.2.2.2.1) := rfl
  have t2 : ∀ a, sf_tells2 y p q 1 (wn u a) = wn u (m_ref2 a) := fun a => rfl
  have t3 : ∀ a, sX4_clear 3 (wn u a) = wn u (m_clear 3 a) := fun a => rfl
  rw [t1, t2, t3]
  generalize m_clear 3 (m_ref2 (m_ref1 p q (rX4_place (u.2.2.2.1 22)) u.2.2.2.1)) = A
  have t4 : sX4_jump (wn u (vp_updL (vp_updL (vp_updL A 27 1) 0 p) 1 q)) = wn u (m_jump (vp_updL (vp_updL (vp_updL A 27 1) 0 p) 1 q)) := by rw [jump_wn, wn_n, wn_wn]
  exact t4
theorem tells_loss {y : Int32} {v u : MS} {p q : Int64} (c : p.toInt ≤ (u.2.2.2.1 1).toInt) (c2 : q.toInt < (u.2.2.2.1 0).toInt) : sX4_tells_n_10 y v u p q = wn u (m_jump (vp_updL (vp_updL (vp_updL (vp_updL u.2.2.2.1 23 (u.2.2.2.1 23 + 1)) 27 0) 0 p) 1 q)) ∧ rX4_tells_n_10 y v u p q = 2 := by
  have e : (if (lg_cmp p (u.2.2.2.1 1)) ≤ 0 then (0 : Int32) else 1) = 0 := if_pos (cleI.mpr c)
  have c1 : ¬ 0 < lg_cmp p (u.2.2.2.1 1) := fun h => by rw [cgtI] at h; omega
  unfold sX4_tells_n_10 rX4_tells_n_10
  rw [if_neg c1, if_neg c1, if_pos (cltI.mpr c2), if_pos (cltI.mpr c2), e]
  unfold sX4_tells_n_38 rX4_tells_n_38
  rw [if_pos rfl, if_pos rfl]
  refine ⟨?_, rfl⟩
  unfold sX4_tells_g_45
  have t4 : sX4_jump (wn u (vp_updL (vp_updL (vp_updL (vp_updL u.2.2.2.1 23 (u.2.2.2.1 23 + 1)) 27 0) 0 p) 1 q)) = wn u (m_jump (vp_updL (vp_updL (vp_updL (vp_updL u.2.2.2.1 23 (u.2.2.2.1 23 + 1)) 27 0) 0 p) 1 q)) := by rw [jump_wn, wn_n, wn_wn]
  exact t4
theorem tells_in {y : Int32} {v u : MS} {p q : Int64} (c : p.toInt ≤ (u.2.2.2.1 1).toInt) (c2 : (u.2.2.2.1 0).toInt ≤ q.toInt) : sX4_tells_n_10 y v u p q = wn u (m_step (if lg_cmp (m_nar2 q (m_nar1 p u.2.2.2.1) 27) 1 = 0 then m_settle (m_nar2 q (m_nar1 p u.2.2.2.1)) else m_nar2 q (m_nar1 p u.2.2.2.1))) ∧ rX4_tells_n_10 y v u p q = 0 := by
  have c1 : ¬ 0 < lg_cmp p (u.2.2.2.1 1) := fun h => by rw [cgtI] at h; omega
  have c3 : ¬ lg_cmp q (u.2.2.2.1 0) < 0 := fun h => by rw [cltI] at h; omega
  unfold sX4_tells_n_10 rX4_tells_n_10
  rw [if_neg c1, if_neg c1, if_neg c3, if_neg c3]
  unfold sX4_tells_n_59 sX4_tells_n_62 sX4_tells_n_65 sX4_tells_g_69 rX4_tells_n_59 rX4_tells_n_62 rX4_tells_n_65 rX4_tells_g_69
  refine ⟨?_, rfl⟩
  have f1 : (if (lg_cmp p (u.2.2.2.1 0)) ≤ 0 then u.2.2.2.1 else vp_updL u.2.2.2.1 0 p) = m_nar1 p u.2.2.2.1 := rfl
  rw [f1]
  have f2 : (if 0 ≤ (lg_cmp q ((m_nar1 p u.2.2.2.1) 1)) then (m_nar1 p u.2.2.2.1) else vp_updL (m_nar1 p u.2.2.2.1) 1 q) = m_nar2 q (m_nar1 p u.2.2.2.1) := rfl
  rw [f2]
  generalize m_nar2 q (m_nar1 p u.2.2.2.1) = A
  by_cases c4 : lg_cmp (A 27) 1 = 0
  · rw [if_pos c4, if_pos c4]
    have t4 : sX4_step (sX4_settle (wn u A)) = wn u (m_step (m_settle A)) := by rw [settle_wn, wn_n, wn_wn, step_wn, wn_n, wn_wn]
    exact t4
  · rw [if_neg c4, if_neg c4]
    have t4 : sX4_step (wn u A) = wn u (m_step A) := by rw [step_wn, wn_n, wn_wn]
    exact t4
theorem RR_wn {n : Nat} {x : XC} {g g' k : LG} {tp : TP} {pl : PL} {u : MS} {A : Nat → Int64} (h : RX x u ∧ RT tp u ∧ RP pl u ∧ LQ (2 * n) x g k u) (h8 : LR (2 * (n + 1)) x.1.toInt x.2.2.2.2.2.2.2.toInt g' A) : RR (n + 1) x g' k tp pl (wn u A) := RR_mk h.1 h.2.1 h.2.2.1 ⟨h.2.2.2.1, h.2.2.2.2.1, h.2.2.2.2.2.1, h.2.2.2.2.2.2.1, h8, LR_more h.2.2.2.2.2.2.2.2 (by omega) (Int.le_refl _)⟩
theorem R_tells {n : Nat} {x : XC} {g k : LG} {tp : TP} {pl : PL} {v : MS} (h : RR n x g k tp pl v) (hn : n ≤ 600) (y : Int32) : rX3_tells y x g k tp pl = rX4_tells y v ∧ RR (n + 1) x (sX3_tells y x g k tp pl) k tp pl (sX4_tells y v) := by
  have hb := RR_bg h 0
  have eM : sX4_tells y v = sX4_tells_g_2 y v (sX4_begin (0, v.2)) := rfl
  have eS : rX4_tells y v = rX4_tells_g_2 y v (sX4_begin (0, v.2)) := rfl
  rw [eM, eS]
  generalize sX4_begin (0, v.2) = u at hb ⊢
  unfold rX3_tells sX3_tells sX4_tells_g_2 rX4_tells_g_2
  rw [in_same]
  by_cases c1 : rX3_within y 0 255 = 0
  · rw [if_pos c1, if_pos c1, if_pos c1, if_pos c1]
    exact ⟨rfl, RR_u hb⟩
  rw [if_neg c1, if_neg c1, if_neg c1, if_neg c1]
  unfold sX4_tells_n_6 rX4_tells_n_6
  obtain ⟨i1, i2⟩ := in_val c1
  rw [x0] at i1
  rw [x255] at i2
  obtain ⟨p1, p2, p3⟩ := tl_lo hb.1 i1 i2
  obtain ⟨q1, q2, q3⟩ := tl_hi hb.1 i1 i2
  generalize (if 0 < ((x.1 * (y - x.2.2.1)) / 255) then ((x.1 * (y - x.2.2.1)) / 255) else 0) = lo at p1 p2 p3 ⊢
  generalize (if ((x.1 * ((y + 1) + x.2.2.1)) / 255) < x.1 then ((x.1 * ((y + 1) + x.2.2.1)) / 255) else x.1) = hi at q1 q2 q3 ⊢
  generalize ((if y ≤ u.2.2.2.2.2.2.2.1 then 0 else (u.2.2.2.2.2.1.toInt64 * ((y - u.2.2.2.2.2.2.2.1).toInt64)) / 255) : Int64) = p at p1 ⊢
  generalize ((if (lg_cmp ((u.2.2.2.2.2.1.toInt64 * (((y + 1) + u.2.2.2.2.2.2.2.1).toInt64)) / 255) u.2.2.2.2.2.1.toInt64) ≤ 0 then (u.2.2.2.2.2.1.toInt64 * (((y + 1) + u.2.2.2.2.2.2.2.1).toInt64)) / 255 else u.2.2.2.2.2.1.toInt64) : Int64) = q at q1 ⊢
  have l := hb.2.2.2.2.2.2.2.1
  have hC := hb.1.2.2.1
  have a0 := hb.2.2.2.2.2.1
  have e1 := l.1.1.2.1
  have e0 := l.1.1.1
  by_cases c2 : lo ≤ g.2.1
  · have c2' := leI c2
    rw [if_pos c2, if_pos c2]
    by_cases c3 : g.1 ≤ hi
    · have c3' := leI c3
      rw [if_pos c3, if_pos c3]
      obtain ⟨m1, m2⟩ := tells_in (y := y) (v := v) (u := u) (p := p) (q := q) (by omega) (by omega)
      rw [m1, m2]
      refine ⟨rfl, RR_wn hb (LR_more (N := 2 * n) ?_ (by omega) (Int.le_refl _))⟩
      have l1 := LR_nar p1 q1 p2 p3 q2 q3 l
      show LR (2 * n) x.1.toInt x.2.2.2.2.2.2.2.toInt (sX0_showStep (sX0_settle (if g.1 < lo then lo else g.1, if hi < g.2.1 then hi else g.2.1, g.2.2.1, g.2.2.2.1, g.2.2.2.2.1, g.2.2.2.2.2.1, g.2.2.2.2.2.2.1, g.2.2.2.2.2.2.2.1, g.2.2.2.2.2.2.2.2.1, g.2.2.2.2.2.2.2.2.2.1, g.2.2.2.2.2.2.2.2.2.2.1, g.2.2.2.2.2.2.2.2.2.2.2.1, g.2.2.2.2.2.2.2.2.2.2.2.2.1, g.2.2.2.2.2.2.2.2.2.2.2.2.2.1, g.2.2.2.2.2.2.2.2.2.2.2.2.2.2))) _
      refine LR_step hC ?_
      have e27 := l1.1.1.2.2.2.2.2.2.2
      by_cases c4 : lg_cmp (m_nar2 q (m_nar1 p u.2.2.2.1) 27) 1 = 0
      · rw [if_pos c4]
        refine LR_settle hC (by omega) ?_ l1
        rw [ceqI, y1] at c4
        omega
      · rw [if_neg c4]
        have c5 : ¬ g.2.2.2.2.2.2.2.1.toInt = 1 := fun r => c4 (ceqI.mpr (by rw [y1, e27]; exact r))
        have b14 := l.1.2.2.2.2.2.2.2.2.2.2.2.2.2.2.2.1
        have b15 := l.1.2.2.2.2.2.2.2.2.2.2.2.2.2.2.2.2
        have e : sX0_settle (if g.1 < lo then lo else g.1, if hi < g.2.1 then hi else g.2.1, g.2.2.1, g.2.2.2.1, g.2.2.2.2.1, g.2.2.2.2.2.1, g.2.2.2.2.2.2.1, g.2.2.2.2.2.2.2.1, g.2.2.2.2.2.2.2.2.1, g.2.2.2.2.2.2.2.2.2.1, g.2.2.2.2.2.2.2.2.2.2.1, g.2.2.2.2.2.2.2.2.2.2.2.1, g.2.2.2.2.2.2.2.2.2.2.2.2.1, g.2.2.2.2.2.2.2.2.2.2.2.2.2.1, g.2.2.2.2.2.2.2.2.2.2.2.2.2.2) = (if g.1 < lo then lo else g.1, if hi < g.2.1 then hi else g.2.1, g.2.2.1, g.2.2.2.1, g.2.2.2.2.1, g.2.2.2.2.2.1, g.2.2.2.2.2.2.1, g.2.2.2.2.2.2.2.1, g.2.2.2.2.2.2.2.2.1, g.2.2.2.2.2.2.2.2.2.1, g.2.2.2.2.2.2.2.2.2.2.1, g.2.2.2.2.2.2.2.2.2.2.2.1, g.2.2.2.2.2.2.2.2.2.2.2.2.1, g.2.2.2.2.2.2.2.2.2.2.2.2.2.1, g.2.2.2.2.2.2.2.2.2.2.2.2.2.2) := if_pos ((fa_eq _ _).mpr (show g.2.2.2.2.2.2.2.1.toInt = (0 : Int32).toInt by rw [x0]; omega))
        rw [e]
        exact l1
    · have c3' := nleI c3
      rw [if_neg c3, if_neg c3]
      obtain ⟨m1, m2⟩ := tells_loss (y := y) (v := v) (u := u) (p := p) (q := q) (by omega) (by omega)
      rw [m1, m2]
      refine ⟨rfl, RR_wn hb (LR_more (N := 2 * n + 1 + 1) ?_ (by omega) (Int.le_refl _))⟩
      have l1 := LR_loss (by omega) l
      exact LR_float (g := (g.1, g.2.1, g.2.2.1, g.2.2.2.1 + 1, g.2.2.2.2.1, g.2.2.2.2.2.1, g.2.2.2.2.2.2.1, 0, g.2.2.2.2.2.2.2.2.1, g.2.2.2.2.2.2.2.2.2.1, g.2.2.2.2.2.2.2.2.2.2.1, g.2.2.2.2.2.2.2.2.2.2.2.1, g.2.2.2.2.2.2.2.2.2.2.2.2.1, g.2.2.2.2.2.2.2.2.2.2.2.2.2.1, g.2.2.2.2.2.2.2.2.2.2.2.2.2.2)) hC (by omega) p1 q1 p2 p3 q2 q3 l1
  · have c2' := nleI c2
    rw [if_neg c2, if_neg c2]
    obtain ⟨m1, m2⟩ := tells_ref (y := y) (v := v) (u := u) (p := p) (q := q) (by omega)
    rw [m1, m2]
    refine ⟨rfl, RR_wn hb (LR_more (N := 2 * n + 1 + 1) ?_ (by omega) (Int.le_refl _))⟩
    have l1 := LR_refill hC (by omega) p1 q1 p2 p3 q2 q3 l
    have l2 := LR_clear (c := 3) (by decide) a0 l1
    exact LR_float hC (by omega) p1 q1 p2 p3 q2 q3 l2
