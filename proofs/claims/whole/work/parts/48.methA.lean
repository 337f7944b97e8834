theorem upd_bd {f : Nat → Int32} {i : Nat} {y : Int32} (h : ∀ j : Nat, j < 60 → 0 ≤ (f j).toInt ∧ (f j).toInt ≤ 255) (hy : 0 ≤ y.toInt ∧ y.toInt ≤ 255) : ∀ j : Nat, j < 60 → 0 ≤ (upd f i y j).toInt ∧ (upd f i y j).toInt ≤ 255 := fun j hj => by
  unfold upd
  split
  · exact hy
  · exact h j hj
theorem byte_bd (y : Int32) : 0 ≤ (y &&& 255).toInt ∧ (y &&& 255).toInt ≤ 255 := by
  obtain ⟨j, hj, e⟩ := pk_andE y (m := 255) 8 (by decide)
  rw [e, nI_toInt (by omega)]
  omega
theorem push_RT {tp : TP} {v : MS} (w : Int32) (h : RT tp v) (h56 : tp.2.toInt ≤ 56) : RT (sX2_push w tp) (sX4_come w v) ∧ (sX2_push w tp).2.toInt = tp.2.toInt + 4 := by
  obtain ⟨h1, h2, h3, h4, h5⟩ := h
  have s1 : (tp.2 + 1).toInt = tp.2.toInt + 1 := by rw [fb_addI (by rw [x1]; omega) (by rw [x1]; omega), x1]
  have s2 : (tp.2 + 1 + 1).toInt = tp.2.toInt + 2 := by rw [fb_addI (by rw [x1]; omega) (by rw [x1]; omega), x1]; omega
  have s3 : (tp.2 + 1 + 1 + 1).toInt = tp.2.toInt + 3 := by rw [fb_addI (by rw [x1]; omega) (by rw [x1]; omega), x1]; omega
  have s4 : (tp.2 + 1 + 1 + 1 + 1).toInt = tp.2.toInt + 4 := by rw [fb_addI (by rw [x1]; omega) (by rw [x1]; omega), x1]; omega
  have e : sX2_push w tp = ((sX4_come w v).2.1, (sX4_come w v).2.2.1) := by
    unfold sX2_push sX4_come
    rw [if_neg (fun q => by rw [fa_le, x60] at q; omega), if_neg (fun q => by rw [fa_le, x60] at q; omega), if_neg (fun q => by rw [fa_le, x60] at q; omega), if_neg (fun q => by rw [fa_le, x60] at q; omega), ← h1, ← h2]
  have e2 : (sX2_push w tp).2 = tp.2 + 1 + 1 + 1 + 1 := by rw [e, ← h2]; rfl
  refine ⟨⟨by rw [e], by rw [e], ?_, by rw [e2]; omega, by rw [e2]; omega⟩, by rw [e2]; exact s4⟩
  have e3 : (sX2_push w tp).1 = (sX4_come w v).2.1 := by rw [e]
  rw [e3]
  unfold sX4_come
  rw [h1]
  exact upd_bd (upd_bd (upd_bd (upd_bd h3 (byte_bd _)) (byte_bd _)) (byte_bd _)) (byte_bd _)
theorem come_0 (v : MS) : ∃ (tp' : Nat → Int32) (tn' : Int32), ((0, v.2) : MS) = wfr v 0 tp' tn' v.2.2.2.2.2.2.2.2.1 v.2.2.2.2.2.2.2.2.2.1 v.2.2.2.2.2.2.2.2.2.2.1 v.2.2.2.2.2.2.2.2.2.2.2.1 := ⟨v.2.1, v.2.2.1, rfl⟩
theorem come_w {v u : MS} (w : Int32) (h : ∃ (tp' : Nat → Int32) (tn' : Int32), u = wfr v 0 tp' tn' v.2.2.2.2.2.2.2.2.1 v.2.2.2.2.2.2.2.2.2.1 v.2.2.2.2.2.2.2.2.2.2.1 v.2.2.2.2.2.2.2.2.2.2.2.1) : ∃ (tp' : Nat → Int32) (tn' : Int32), sX4_come w u = wfr v 0 tp' tn' v.2.2.2.2.2.2.2.2.1 v.2.2.2.2.2.2.2.2.2.1 v.2.2.2.2.2.2.2.2.2.2.1 v.2.2.2.2.2.2.2.2.2.2.2.1 := by
  obtain ⟨a, b, rfl⟩ := h
  exact ⟨_, _, rfl⟩
theorem R_feed {n : Nat} {x : XC} {g k : LG} {tp : TP} {pl : PL} {v : MS} (h : RR n x g k tp pl v) (hn : n ≤ 600) (a b c d e : Int32) : rX3_feed a b c d e x g k tp pl = rX4_feed a b c d e v ∧ RR (n + 1) x g k (sX3_feed a b c d e x g k tp pl) pl (sX4_feed a b c d e v) := by
  obtain ⟨hx, ht, hp, hq⟩ := h
  have t4 := ht.2.2.2.1
  have t5 := ht.2.2.2.2
  have x20 : (20 : Int32).toInt = 20 := by decide
  have s : (tp.2 + 20).toInt = tp.2.toInt + 20 := by rw [fb_addI (by rw [x20]; omega) (by rw [x20]; omega), x20]
  have nt := ht.2.1
  by_cases c1 : tp.2.toInt + 20 ≤ 60
  · have r0 : ¬ rX2_hasRoom tp = 0 := by
      unfold rX2_hasRoom
      rw [if_neg (fun q => by rw [fa_lt, s, x60] at q; omega)]
      decide
    have m0 : (v.2.2.1 + 20) ≤ 60 := (fa_le _ _).mpr (by rw [nt, s, x60]; exact c1)
    have a1 := push_RT (v := (0, v.2)) a ht (by omega)
    have a2 := push_RT b a1.1 (by omega)
    have a3 := push_RT c a2.1 (by omega)
    have a4 := push_RT d a3.1 (by omega)
    have a5 := push_RT e a4.1 (by omega)
    have eX : sX3_feed a b c d e x g k tp pl = sX2_push e (sX2_push d (sX2_push c (sX2_push b (sX2_push a tp)))) := by
      unfold sX3_feed sX3_feed_g_4 sX3_feed_g_6 sX3_feed_g_8 sX3_feed_g_10 sX3_feed_g_12
      rw [if_neg r0]
    have eR : rX3_feed a b c d e x g k tp pl = (sX2_push e (sX2_push d (sX2_push c (sX2_push b (sX2_push a tp))))).2 := by
      unfold rX3_feed rX3_feed_g_4 rX3_feed_g_6 rX3_feed_g_8 rX3_feed_g_10 rX3_feed_g_12
      rw [if_neg r0]
    have e0 : ((0, v.2.1, v.2.2.1, v.2.2.2.1, v.2.2.2.2.1, v.2.2.2.2.2.1, v.2.2.2.2.2.2.1, v.2.2.2.2.2.2.2.1, v.2.2.2.2.2.2.2.2.1, v.2.2.2.2.2.2.2.2.2.1, v.2.2.2.2.2.2.2.2.2.2.1, v.2.2.2.2.2.2.2.2.2.2.2.1, v.2.2.2.2.2.2.2.2.2.2.2.2.1, v.2.2.2.2.2.2.2.2.2.2.2.2.2.1, v.2.2.2.2.2.2.2.2.2.2.2.2.2.2.1, v.2.2.2.2.2.2.2.2.2.2.2.2.2.2.2.1, v.2.2.2.2.2.2.2.2.2.2.2.2.2.2.2.2) : MS) = (0, v.2) := rfl
    have eM : sX4_feed a b c d e v = sX4_come e (sX4_come d (sX4_come c (sX4_come b (sX4_come a (0, v.2))))) := by
      unfold sX4_feed sX4_feed_g_3 sX4_feed_g_5 sX4_feed_g_7 sX4_feed_g_9 sX4_feed_g_11
      rw [if_pos m0, e0]
    have eS : rX4_feed a b c d e v = (sX4_come e (sX4_come d (sX4_come c (sX4_come b (sX4_come a (0, v.2)))))).2.2.1 := by
      unfold rX4_feed rX4_feed_g_3 rX4_feed_g_5 rX4_feed_g_7 rX4_feed_g_9 rX4_feed_g_11
      rw [if_pos m0, e0]
    rw [eX, eM, eR, eS]
    have b5 := come_w e (come_w d (come_w c (come_w b (come_w a (come_0 v)))))
    obtain ⟨tp5, tn5, e5⟩ := b5
    refine ⟨a5.1.2.1.symm, by rw [e5]; exact hx, a5.1, by rw [e5]; exact hp, fun t => ?_⟩
    rw [e5]
    exact LQ_more (bg_wfr rfl rfl (hq t)) (by omega)
  · have r0 : rX2_hasRoom tp = 0 := by
      unfold rX2_hasRoom
      rw [if_pos ((fa_lt _ _).mpr (by rw [s, x60]; omega))]
    have m0 : ¬ (v.2.2.1 + 20) ≤ 60 := fun q => by rw [fa_le, nt, s, x60] at q; exact c1 q
    have eX : sX3_feed a b c d e x g k tp pl = tp := if_pos r0
    have eM : sX4_feed a b c d e v = (0, v.2) := if_neg m0
    have eR : rX3_feed a b c d e x g k tp pl = -1 := if_pos r0
    have eS : rX4_feed a b c d e v = -1 := if_neg m0
    rw [eX, eM, eR, eS]
    exact ⟨rfl, hx, ht, hp, fun t => LQ_more (hq t) (by omega)⟩
theorem R_end {n : Nat} {x : XC} {g k : LG} {tp : TP} {pl : PL} {v : MS} (h : RR n x g k tp pl v) (hn : n ≤ 600) (m : Int32) : rX3_end m x g k tp pl = rX4_end m v ∧ RR (n + 1) x g k (sX3_end m x g k tp pl) pl (sX4_end m v) := by
  obtain ⟨hx, ht, hp, hq⟩ := h
  have nt := ht.2.1
  have t5 := ht.2.2.2.2
  by_cases c1 : m < 0
  · have eX : sX3_end m x g k tp pl = tp := if_pos c1
    have eM : sX4_end m v = (0, v.2) := if_pos c1
    have eR : rX3_end m x g k tp pl = 0 := if_pos c1
    have eS : rX4_end m v = 0 := if_pos c1
    rw [eX, eM, eR, eS]
    exact ⟨rfl, hx, ht, hp, fun t => LQ_more (hq t) (by omega)⟩
  · by_cases c2 : m ≤ tp.2
    · have eX : sX3_end m x g k tp pl = (tp.1, m) := by
        show sX2_shorten m tp = _
        unfold sX2_shorten
        rw [if_neg c1, if_pos c2]
      have eM : sX4_end m v = wfr v 0 v.2.1 m v.2.2.2.2.2.2.2.2.1 v.2.2.2.2.2.2.2.2.2.1 v.2.2.2.2.2.2.2.2.2.2.1 v.2.2.2.2.2.2.2.2.2.2.2.1 := by
        unfold sX4_end
        rw [if_neg c1, if_pos (by rw [nt]; exact c2)]
        rfl
      have eR : rX3_end m x g k tp pl = 1 := by
        show rX2_shorten m tp = _
        unfold rX2_shorten
        rw [if_neg c1, if_pos c2]
      have eS : rX4_end m v = 1 := by
        unfold rX4_end
        rw [if_neg c1, if_pos (by rw [nt]; exact c2)]
      rw [eX, eM, eR, eS]
      have hm1 := nltI c1
      have hm2 := leI c2
      rw [x0] at hm1
      exact ⟨rfl, hx, ⟨ht.1, rfl, ht.2.2.1, hm1, Int.le_trans hm2 t5⟩, hp, fun t => LQ_more (bg_wfr rfl rfl (hq t)) (by omega)⟩
    · have eX : sX3_end m x g k tp pl = tp := by
        show sX2_shorten m tp = _
        unfold sX2_shorten
        rw [if_neg c1, if_neg c2]
      have eM : sX4_end m v = (0, v.2) := by
        unfold sX4_end
        rw [if_neg c1, if_neg (by rw [nt]; exact c2)]
      have eR : rX3_end m x g k tp pl = 0 := by
        show rX2_shorten m tp = _
        unfold rX2_shorten
        rw [if_neg c1, if_neg c2]
      have eS : rX4_end m v = 0 := by
        unfold rX4_end
        rw [if_neg c1, if_neg (by rw [nt]; exact c2)]
      rw [eX, eM, eR, eS]
      exact ⟨rfl, hx, ht, hp, fun t => LQ_more (hq t) (by omega)⟩
theorem in_val {y a b : Int32} (h : ¬ rX3_within y a b = 0) : a.toInt ≤ y.toInt ∧ y.toInt ≤ b.toInt := by
  unfold rX3_within at h
  split at h
  · exact absurd rfl h
  rename_i h1
  split at h
  · exact absurd rfl h
  rename_i h2
  exact ⟨nltI h1, nltI h2⟩
theorem in_same (y a b : Int32) : rX4_isIn y a b = rX3_within y a b := rfl
theorem in_not {y a b : Int32} (h : rX3_within y a b = 0) : y.toInt < a.toInt ∨ b.toInt < y.toInt := by
  unfold rX3_within at h
  split at h
  · rename_i h1
    exact Or.inl (ltI h1)
  · split at h
    · rename_i h2
      exact Or.inr (ltI h2)
    · exact absurd h (by decide)
theorem R_car {n : Nat} {x : XC} {g k : LG} {tp : TP} {pl : PL} {v : MS} (h : RR n x g k tp pl v) (hn : n ≤ 600) (cc mm ss : Int32) : rX3_car cc mm ss x g k tp pl = rX4_car cc mm ss v ∧ RR (n + 1) (sX3_car_x cc mm ss x g k tp pl) (sX3_car_g cc mm ss x g k tp pl) (sX3_car_k cc mm ss x g k tp pl) tp pl (sX4_car cc mm ss v) := by
  obtain ⟨hx, ht, hp, hq⟩ := h
  unfold sX3_car_x sX3_car_g sX3_car_k rX3_car sX4_car rX4_car
  rw [in_same, in_same, in_same]
  by_cases c1 : rX3_within cc 1000 120000 = 0
  · rw [if_pos c1, if_pos c1, if_pos c1, if_pos c1, if_pos c1, if_pos c1]
    exact ⟨rfl, hx, ht, hp, fun t => LQ_more (hq t) (by omega)⟩
  rw [if_neg c1, if_neg c1, if_neg c1, if_neg c1, if_neg c1, if_neg c1]
  by_cases c2 : rX3_within mm 1 1000 = 0
  · rw [if_pos c2, if_pos c2, if_pos c2, if_pos c2, if_pos c2, if_pos c2]
    exact ⟨rfl, hx, ht, hp, fun t => LQ_more (hq t) (by omega)⟩
  rw [if_neg c2, if_neg c2, if_neg c2, if_neg c2, if_neg c2, if_neg c2]
  by_cases c3 : rX3_within ss 0 60 = 0
  · rw [if_pos c3, if_pos c3, if_pos c3, if_pos c3, if_pos c3, if_pos c3]
    exact ⟨rfl, hx, ht, hp, fun t => LQ_more (hq t) (by omega)⟩
  rw [if_neg c3, if_neg c3, if_neg c3, if_neg c3, if_neg c3, if_neg c3]
  obtain ⟨i1, i2⟩ := in_val c1
  obtain ⟨i3, i4⟩ := in_val c2
  obtain ⟨i5, i6⟩ := in_val c3
  rw [x1000] at i1
  rw [x120000] at i2
  rw [x1] at i3
  rw [x1000] at i4
  rw [x0] at i5
  rw [x60] at i6
  obtain ⟨⟨f1, f2, f3, f4, f5, f6, f7⟩, d1, d2, d3, d4, d5, d6, d7, d8, d9, d10, d11, d12, d13, d14⟩ := hx
  refine ⟨rfl, ?_⟩
  have lz := LR_begin (N := 2 * (n + 1)) g v.2.2.2.1 (cap := cc) (by omega)
  have lk := LR_begin (N := 2 * (n + 1)) k v.2.2.2.1 (cap := cc) (by omega)
  refine RR_mk ⟨⟨rfl, rfl, rfl, f4, f5, f6, f7⟩, i1, i2, i3, i4, i5, i6, d7, d8, d9, d10, d11, d12, d13, d14⟩ ht hp ⟨(by decide : ¬ (1 : Int32) = 0), rfl, (by decide : (0 : Int) ≤ (0 : Int64).toInt), (by decide : (0 : Int64).toInt ≤ 100000000), ?_, ?_⟩
  · show LR (2 * (n + 1)) cc.toInt (0 : Int64).toInt (sX0_begin cc g) (vp_updL (cfL (fun _ => 0) v.2.2.2.1 92) 1 cc.toInt64)
    rw [y0]
    exact lz
  · show LR (2 * (n + 1)) cc.toInt (0 : Int64).toInt (sX0_begin cc k) (cfL (vp_updL (cfL (fun _ => 0) v.2.2.2.1 92) 1 cc.toInt64) v.2.2.2.2.1 92)
    rw [y0]
    exact LR_cong lk (fun j hj => cfL_in hj)
theorem R_bounds {n : Nat} {x : XC} {g k : LG} {tp : TP} {pl : PL} {v : MS} (h : RR n x g k tp pl v) (hn : n ≤ 600) (fa ti lo hi : Int32) : rX3_bounds fa ti lo hi x g k tp pl = rX4_bounds fa ti lo hi v ∧ RR (n + 1) (sX3_bounds fa ti lo hi x g k tp pl) g k tp pl (sX4_bounds fa ti lo hi v) := by
  obtain ⟨hx, ht, hp, hq⟩ := h
  have no : rX3_checkedBounds fa ti lo hi = 0 → sX4_bounds fa ti lo hi v = (0, v.2) → rX4_bounds fa ti lo hi v = 0 → rX3_bounds fa ti lo hi x g k tp pl = rX4_bounds fa ti lo hi v ∧ RR (n + 1) (sX3_bounds fa ti lo hi x g k tp pl) g k tp pl (sX4_bounds fa ti lo hi v) := fun a1 a2 a3 => by
    rw [a2, a3, show rX3_bounds fa ti lo hi x g k tp pl = 0 from if_pos a1, show sX3_bounds fa ti lo hi x g k tp pl = x from if_pos a1]
    exact ⟨rfl, hx, ht, hp, fun t => LQ_more (hq t) (by omega)⟩
  by_cases c1 : rX3_within fa 1 200 = 0
  · exact no (by unfold rX3_checkedBounds; rw [if_pos c1]) (by unfold sX4_bounds; rw [in_same, if_pos c1]) (by unfold rX4_bounds; rw [in_same, if_pos c1])
  by_cases c2 : rX3_within ti 1 100 = 0
  · exact no (by unfold rX3_checkedBounds; rw [if_neg c1, if_pos c2]) (by unfold sX4_bounds; rw [in_same, if_neg c1, in_same, if_pos c2]) (by unfold rX4_bounds; rw [in_same, if_neg c1, in_same, if_pos c2])
  by_cases c3 : lo < 1
  · refine no ?_ (by unfold sX4_bounds; rw [in_same, if_neg c1, in_same, if_neg c2, if_pos c3]) (by unfold rX4_bounds; rw [in_same, if_neg c1, in_same, if_neg c2, if_pos c3])
    unfold rX3_checkedBounds
    rw [if_neg c1, if_neg c2]
    split
    · rfl
    · have : rX3_within lo 1 hi = 0 := if_pos c3
      rw [if_pos this]
  by_cases c4 : hi < lo
  · refine no ?_ (by unfold sX4_bounds; rw [in_same, if_neg c1, in_same, if_neg c2, if_neg c3, if_pos c4]) (by unfold rX4_bounds; rw [in_same, if_neg c1, in_same, if_neg c2, if_neg c3, if_pos c4])
    unfold rX3_checkedBounds
    rw [if_neg c1, if_neg c2]
    split
    · rfl
    · have : rX3_within lo 1 hi = 0 := by
        unfold rX3_within
        rw [if_neg c3, if_pos c4]
      rw [if_pos this]
  have w1 : ¬ hi < 1 := fun q => by
    have a1 := ltI q
    have a2 := nltI c3
    have a3 := nltI c4
    omega
  by_cases c5 : hi ≤ 1000
  · have r1 : rX3_checkedBounds fa ti lo hi = 1 := by
      have e1 : rX3_within hi 1 1000 = 1 := by
        unfold rX3_within
        rw [if_neg w1, if_neg (fun q => by have a1 := ltI q; have a2 := leI c5; omega)]
      have e2 : rX3_within lo 1 hi = 1 := by
        unfold rX3_within
        rw [if_neg c3, if_neg c4]
      unfold rX3_checkedBounds
      rw [if_neg c1, if_neg c2, e1, if_neg (by decide), e2, if_neg (by decide)]
    have r0 : ¬ rX3_checkedBounds fa ti lo hi = 0 := by rw [r1]; decide
    have a2 : sX4_bounds fa ti lo hi v = wfr v 0 v.2.1 v.2.2.1 fa ti lo hi := by
      unfold sX4_bounds
      rw [in_same, if_neg c1, in_same, if_neg c2, if_neg c3, if_neg c4, if_pos c5]
      rfl
    have a3 : rX4_bounds fa ti lo hi v = 1 := by
      unfold rX4_bounds
      rw [in_same, if_neg c1, in_same, if_neg c2, if_neg c3, if_neg c4, if_pos c5]
    rw [a2, a3, show rX3_bounds fa ti lo hi x g k tp pl = 1 from if_neg r0, show sX3_bounds fa ti lo hi x g k tp pl = _ from if_neg r0]
    obtain ⟨i1, i2⟩ := in_val c1
    obtain ⟨i3, i4⟩ := in_val c2
    have i5 := nltI c3
    have i6 := nltI c4
    have i7 := leI c5
    rw [x1] at i1 i3 i5
    rw [x200] at i2
    rw [x100] at i4
    rw [x1000] at i7
    obtain ⟨⟨f1, f2, f3, f4, f5, f6, f7⟩, d1, d2, d3, d4, d5, d6, d7⟩ := hx
    exact ⟨rfl, ⟨⟨f1, f2, f3, rfl, rfl, rfl, rfl⟩, d1, d2, d3, d4, d5, d6, i1, i2, i3, i4, i5, show lo.toInt ≤ 1000 by omega, show 1 ≤ hi.toInt by omega, i7⟩, ht, hp, fun t => LQ_more (bg_wfr (x := x) (x' := (x.1, x.2.1, x.2.2.1, fa, ti, lo, hi, x.2.2.2.2.2.2.2)) rfl rfl (hq t)) (by omega)⟩
  · refine no ?_ (by unfold sX4_bounds; rw [in_same, if_neg c1, in_same, if_neg c2, if_neg c3, if_neg c4, if_neg c5]) (by unfold rX4_bounds; rw [in_same, if_neg c1, in_same, if_neg c2, if_neg c3, if_neg c4, if_neg c5])
    have e1 : rX3_within hi 1 1000 = 0 := by
      unfold rX3_within
      rw [if_neg w1, if_pos ((fa_lt _ _).mpr (nleI c5))]
    unfold rX3_checkedBounds
    rw [if_neg c1, if_neg c2, if_pos e1]
