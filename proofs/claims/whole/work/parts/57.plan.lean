theorem isb_S (i x b L so : Int32) (v : MS) : rX4_isBest i x b L (wsp v so) = rX4_isBest i x b L v := by unfold rX4_isBest rX4_behind rX4_need; rfl
theorem rt_M {tp : TP} {u : MS} (ht : RT tp u) : (¬ u.2.2.1 - u.2.2.1 / 2 * 2 = 0 ∧ u.2.2.1 ≤ 25 ∧ nz_b u.2.1 u.2.2.1.toNatClampNeg = true) ↔ rt_ok tp := by
  unfold rt_ok
  rw [ht.1, ht.2.1]
theorem pS_q {tp : TP} {u : MS} (ht : RT tp u) : pS u = rd_q tp := by
  unfold pS rd_q
  rw [ht.2.1]
/-- the Model behind a route that is read -/
theorem plan_M {n : Nat} {x : XC} {g k : LG} {tp : TP} {u : MS} (hx : RX x u) (ht : RT tp u) (hq : LQ n x g k u) (hr : rt_ok tp) : (∃ co, pl_W u = wc (wt0 u) co ∧ MC (rd_q tp) (x.1 / 1000).toNatClampNeg (ndP x tp) (prP tp) 0 co) ∧ rX4_behind 0 (nI (pha u)) (nI (pS u + 1)) (pl_W u) = nI (hh (cg (rd_q tp) (x.1 / 1000).toNatClampNeg (ndP x tp) (prP tp) (rd_q tp)) (ndP x tp 0) (g.1 / 1000).toNatClampNeg) := by
  obtain ⟨n1, n2, n3⟩ := rt_num ht hr
  obtain ⟨t1, t2, t3, t4, t5, t6, t7, t8⟩ := lit_val hx hq
  have hp : ∀ i, i < rd_q tp → prP tp i ≤ 255 := fun i hi => (pr_val ht (by omega)).2
  have hnd : ∀ j, j ≤ rd_q tp → ndP x tp j < 2 ^ 30 ∧ rX4_need (nI j) (wt0 u) = nI (ndP x tp j) := fun j hj => ⟨Nat.lt_of_le_of_lt (leg_val hx ht (by omega)).2.1 (by decide), by rw [need_wt0]; exact need_val hx ht (by omega)⟩
  have hpr : ∀ i, i < rd_q tp → (wt0 u).2.1 (2 * i + 1) = nI (prP tp i) := fun i hi => by
    show u.2.1 (2 * i + 1) = _
    rw [ht.1]
    exact (pr_val ht (by omega)).1
  have hco := out_ok n1 t4 hp hnd hpr (rd_q tp) u.2.2.2.2.2.2.2.2.2.2.2.2.2.2.1 (Nat.le_refl _) (fun i q1 q2 => by omega)
  have eW : pl_W u = wc (wt0 u) (out_run (rd_q tp + 1) (x.1 / 1000).toNatClampNeg (wt0 u) (rd_q tp) u.2.2.2.2.2.2.2.2.2.2.2.2.2.2.1) := by
    unfold pl_W
    rw [pS_q ht, t5]
  rw [eW, pS_q ht, t6]
  refine ⟨⟨_, rfl, hco⟩, ?_⟩
  have b := bhv n1 t4 hp hnd (j := 0) (f := (g.1 / 1000).toNatClampNeg) (Nat.zero_le _) t3 hco
  rw [Nat.sub_zero] at b
  exact b
theorem lfi {a d : Nat} (hd : d ≤ 255) (ha : a ≤ 120) : (0 ≤ nI a - nI d ↔ d ≤ a) ∧ (d ≤ a → nI a - nI d = nI (a - d)) := by
  refine ⟨⟨fun q => ?_, fun q => ?_⟩, fun q => pk_sub q⟩
  · rcases Nat.lt_or_ge a d with r | r
    · exact absurd (pk_sneg (by omega) r) (Int32.not_lt.mpr q)
    · exact r
  · rw [pk_sub q]
    exact nI_pos' (by omega)
/-- from here: what is bought where, once there is a plan -/
theorem plan_st {n : Nat} {x : XC} {g k : LG} {tp : TP} {pl : PL} {u : MS} (hx : RX x u) (ht : RT tp u) (hq : LQ n x g k u) (hr : rt_ok tp) (q1 : ndP x tp 0 ≤ (g.1 / 1000).toNatClampNeg) (q2 : cg (rd_q tp) (x.1 / 1000).toNatClampNeg (ndP x tp) (prP tp) (rd_q tp) ((g.1 / 1000).toNatClampNeg - ndP x tp 0) < 1000000000) : (∀ i, i ≤ rd_q tp → xsP x g tp pl i ≤ (x.1 / 1000).toNatClampNeg ∧ bf_l (sX1_reckonBackwards (x.1 / 1000).toNatClampNeg (sX1_read x.2.2.2.2.2.2.1 pl tp)) (nI (g.1 / 1000).toNatClampNeg - (sX1_read x.2.2.2.2.2.2.1 pl tp).1 0) i = nI (xsP x g tp pl i)) ∧ ∀ i, i < rd_q tp → FW (rd_q tp) (x.1 / 1000).toNatClampNeg (ndP x tp) (prP tp) i (xsP x g tp pl i) (bsP x g tp pl i) ∧ bf_b (sX1_reckonBackwards (x.1 / 1000).toNatClampNeg (sX1_read x.2.2.2.2.2.2.1 pl tp)) (nI (g.1 / 1000).toNatClampNeg - (sX1_read x.2.2.2.2.2.2.1 pl tp).1 0) i = nI (bsP x g tp pl i) ∧ xsP x g tp pl (i + 1) = xsP x g tp pl i + bsP x g tp pl i - ndP x tp (i + 1) := by
  obtain ⟨t1, t2, t3, t4, t5, t6, t7, t8⟩ := lit_val hx hq
  obtain ⟨n1, n2, n3⟩ := rt_num ht hr
  obtain ⟨p1, p2, p3, p4, p5⟩ := plan_X (pl := pl) hx ht hq hr
  have hd0 := leg_val hx ht (j := 0) (by omega)
  have z0 := p1 0 (Nat.zero_le _)
  have fi := lfi hd0.2.1 (a := (g.1 / 1000).toNatClampNeg) (by omega)
  have e0 : nI (g.1 / 1000).toNatClampNeg - (sX1_read x.2.2.2.2.2.2.1 pl tp).1 0 = nI ((g.1 / 1000).toNatClampNeg - ndP x tp 0) := by rw [z0]; exact fi.2 q1
  unfold xsP bsP
  rw [e0]
  generalize (sX1_reckonBackwards (x.1 / 1000).toNatClampNeg (sX1_read x.2.2.2.2.2.2.1 pl tp)) = u1 at p2 p3 p4 p5 ⊢
  have go := bf_all n1 t4 p2 (a := (g.1 / 1000).toNatClampNeg - ndP x tp 0) (by omega) q2
  refine ⟨fun i hi => ?_, fun i hi => ?_⟩
  · obtain ⟨y, y1, y2, y3⟩ := go i hi
    rw [y2, nI_clamp (by omega)]
    exact ⟨y1, rfl⟩
  · obtain ⟨y, y1, y2, y3⟩ := go i (by omega)
    obtain ⟨b, b1, b2, b3, b4⟩ := bf_step n1 t4 p2 hi y1 y2 y3
    rw [y2, b2, b3, nI_clamp (by omega), nI_clamp (by have := b1.1; omega), nI_clamp (by have := b1.1; omega)]
    exact ⟨b1, rfl, rfl⟩
theorem plan_tg {n : Nat} {x : XC} {g k : LG} {tp : TP} {pl : PL} {u : MS} (hx : RX x u) (ht : RT tp u) (hq : LQ n x g k u) (hr : rt_ok tp) : (sX1_read x.2.2.2.2.2.2.1 pl tp).1 0 = nI (ndP x tp 0) ∧ (0 ≤ nI (g.1 / 1000).toNatClampNeg - (sX1_read x.2.2.2.2.2.2.1 pl tp).1 0 ↔ ndP x tp 0 ≤ (g.1 / 1000).toNatClampNeg) ∧ (ndP x tp 0 ≤ (g.1 / 1000).toNatClampNeg → (sX1_reckonBackwards (x.1 / 1000).toNatClampNeg (sX1_read x.2.2.2.2.2.2.1 pl tp)).2.2.1 (nI (g.1 / 1000).toNatClampNeg - (sX1_read x.2.2.2.2.2.2.1 pl tp).1 0).toNatClampNeg = nI (cg (rd_q tp) (x.1 / 1000).toNatClampNeg (ndP x tp) (prP tp) (rd_q tp) ((g.1 / 1000).toNatClampNeg - ndP x tp 0))) ∧ (cg (rd_q tp) (x.1 / 1000).toNatClampNeg (ndP x tp) (prP tp) (rd_q tp) ((g.1 / 1000).toNatClampNeg - ndP x tp 0) ≤ 1000000000) := by
  obtain ⟨t1, t2, t3, t4, t5, t6, t7, t8⟩ := lit_val hx hq
  obtain ⟨n1, n2, n3⟩ := rt_num ht hr
  obtain ⟨p1, p2, p3, p4, p5⟩ := plan_X (pl := pl) hx ht hq hr
  have hd0 := leg_val hx ht (j := 0) (by omega)
  have z0 := p1 0 (Nat.zero_le _)
  have fi := lfi hd0.2.1 (a := (g.1 / 1000).toNatClampNeg) (by omega)
  refine ⟨z0, by rw [z0]; exact fi.1, fun q => ?_, (cg_bd t4 (fun i hi => (pr_val ht (by omega)).2) _ (Nat.le_refl _) _ (by omega)).1⟩
  rw [z0, fi.2 q, nI_clamp (by omega)]
  exact p2.2.1 _ (by omega)
theorem plan_rk {n : Nat} {x : XC} {g k : LG} {tp : TP} {pl : PL} {u : MS} (hx : RX x u) (ht : RT tp u) (hq : LQ n x g k u) (hr : rt_ok tp) : rk_ok (g.1 / 1000).toNatClampNeg (x.1 / 1000).toNatClampNeg (sX1_read x.2.2.2.2.2.2.1 pl tp) := by
  obtain ⟨t1, t2, t3, t4, t5, t6, t7, t8⟩ := lit_val hx hq
  obtain ⟨n1, n2, n3⟩ := rt_num ht hr
  obtain ⟨r1, r2, r3, r4, r5, r6, r7⟩ := rd_yes (hu := x.2.2.2.2.2.2.1) (pl := pl) hr
  obtain ⟨p1, p2, p3, p4, p5⟩ := plan_X (pl := pl) hx ht hq hr
  obtain ⟨z0, z1, z2, z3⟩ := plan_tg (pl := pl) hx ht hq hr
  have stS : (sX1_reckonBackwards (x.1 / 1000).toNatClampNeg (sX1_read x.2.2.2.2.2.2.1 pl tp)).2.2.2.2.2.1.toNatClampNeg = rd_q tp := by rw [p4, nI_clamp (by omega)]
  have wS : (sX1_read x.2.2.2.2.2.2.1 pl tp).2.2.2.2.2.1.toNatClampNeg = rd_q tp := by rw [r6, n2, nI_clamp (by omega)]
  refine ⟨t3, t4, by rw [r6, n2]; exact nI_pos' (by omega), by rw [wS]; exact n1, fun j hj => ?_, fun w2 ew2 => ?_⟩
  · rw [wS] at hj
    rw [p1 j hj]
    exact nI_pos' (Nat.lt_of_le_of_lt (leg_val hx ht (by omega)).2.1 (by decide))
  · rw [ew2]
    refine ⟨by rw [p4]; exact nI_pos' (by omega), by rw [stS]; exact n1, fun q1 q2 i hi => ?_⟩
    rw [stS] at hi
    have q3 : ndP x tp 0 ≤ (g.1 / 1000).toNatClampNeg := z1.mp q1
    have q4 : cg (rd_q tp) (x.1 / 1000).toNatClampNeg (ndP x tp) (prP tp) (rd_q tp) ((g.1 / 1000).toNatClampNeg - ndP x tp 0) < 1000000000 := by
      rw [z2 q3] at q2
      exact (nI_ltI (by omega) (by decide)).mp (show nI _ < nI 1000000000 from q2)
    obtain ⟨y1, y2⟩ := (plan_st (pl := pl) hx ht hq hr q3 q4).1 i (by omega)
    rw [y2]
    exact vp_in_nI (by omega) (by decide)
theorem add_dif (x b d : Nat) (h : d ≤ x + b) : nI x + (nI b - nI d) = nI (x + b - d) := by
  rw [Int32.sub_eq_add_neg, ← Int32.add_assoc, ← Int32.sub_eq_add_neg, nI_add, pk_sub h]
theorem plan_pm {n : Nat} {x : XC} {g k : LG} {tp : TP} {pl : PL} {u : MS} (hx : RX x u) (ht : RT tp u) (hq : LQ n x g k u) : pm_ok (xsP x g tp pl) (bsP x g tp pl) u := by
  obtain ⟨t1, t2, t3, t4, t5, t6, t7, t8⟩ := lit_val hx hq
  have g0 : 0 ≤ tp.2 := (fa_le _ _).mpr (by rw [x0]; exact ht.2.2.2.1)
  have g60 : tp.2.toNatClampNeg ≤ 60 := by
    have e := (cl_toInt ht.2.2.2.1).2
    have := ht.2.2.2.2
    omega
  have hnd0 : ∀ j, j ≤ 12 → 0 ≤ rX4_need (nI j) u := fun j hj => by
    rw [need_val hx ht hj]
    exact nI_pos' (Nat.lt_of_le_of_lt (leg_val hx ht hj).2.1 (by decide))
  refine ⟨by rw [ht.2.1]; exact g0, by rw [ht.2.1]; exact g60, t7, by rw [t5]; exact t4, t8, by rw [t6]; omega, hnd0, fun a1 a2 a3 hne => ?_⟩
  have hr : rt_ok tp := (rt_M ht).mp ⟨a1, a2, a3⟩
  obtain ⟨n1, n2, n3⟩ := rt_num ht hr
  obtain ⟨⟨co, m1, m2⟩, m3⟩ := plan_M hx ht hq hr
  obtain ⟨z0, z1, z2, z3⟩ := plan_tg (pl := pl) hx ht hq hr
  rw [m3] at hne
  have q1 : ndP x tp 0 ≤ (g.1 / 1000).toNatClampNeg := by
    rcases Nat.lt_or_ge (g.1 / 1000).toNatClampNeg (ndP x tp 0) with r | r
    · exact absurd (by rw [show hh (cg (rd_q tp) (x.1 / 1000).toNatClampNeg (ndP x tp) (prP tp) (rd_q tp)) (ndP x tp 0) (g.1 / 1000).toNatClampNeg = 1000000000 from if_pos r]; rfl) hne
    · exact r
  have e1 : hh (cg (rd_q tp) (x.1 / 1000).toNatClampNeg (ndP x tp) (prP tp) (rd_q tp)) (ndP x tp 0) (g.1 / 1000).toNatClampNeg = cg (rd_q tp) (x.1 / 1000).toNatClampNeg (ndP x tp) (prP tp) (rd_q tp) ((g.1 / 1000).toNatClampNeg - ndP x tp 0) := if_neg (by omega)
  have q2 : cg (rd_q tp) (x.1 / 1000).toNatClampNeg (ndP x tp) (prP tp) (rd_q tp) ((g.1 / 1000).toNatClampNeg - ndP x tp 0) < 1000000000 := by
    rcases Nat.lt_or_ge (cg (rd_q tp) (x.1 / 1000).toNatClampNeg (ndP x tp) (prP tp) (rd_q tp) ((g.1 / 1000).toNatClampNeg - ndP x tp 0)) 1000000000 with r | r
    · exact r
    · exact absurd (by rw [e1, show cg (rd_q tp) (x.1 / 1000).toNatClampNeg (ndP x tp) (prP tp) (rd_q tp) ((g.1 / 1000).toNatClampNeg - ndP x tp 0) = 1000000000 by omega]; rfl) hne
  obtain ⟨s1, s2⟩ := plan_st (pl := pl) hx ht hq hr q1 q2
  have hp' : ∀ i, i < rd_q tp → prP tp i ≤ 255 := fun i hi => (pr_val ht (by omega)).2
  have hnd : ∀ j, j ≤ rd_q tp → ndP x tp j < 2 ^ 30 ∧ rX4_need (nI j) (wt0 u) = nI (ndP x tp j) := fun j hj => ⟨Nat.lt_of_le_of_lt (leg_val hx ht (by omega)).2.1 (by decide), by rw [need_wt0]; exact need_val hx ht (by omega)⟩
  have hpr : ∀ i, i < rd_q tp → (wt0 u).2.1 (2 * i + 1) = nI (prP tp i) := fun i hi => by
    show u.2.1 (2 * i + 1) = _
    rw [ht.1]
    exact (pr_val ht (by omega)).1
  rw [pS_q ht]
  refine ⟨?_, fun i hi => ?_⟩
  · rw [need_S, need_W, t6]
    have e2 : rX4_need 0 u = nI (ndP x tp 0) := need_val hx ht (j := 0) (by omega)
    rw [e2, ← z0]
    exact (s1 0 (Nat.zero_le _)).2
  · obtain ⟨b1, b2, b3⟩ := s2 i hi
    have bx := b1.1
    rw [isb_S, m1, need_S, need_c, need_wt0, need_val hx ht (by omega), b3]
    refine ⟨fun q => ?_, fun b hb => ?_, by omega, add_dif _ _ _ b1.2.1⟩
    · exact (isb_ok n1 t4 hp' hnd hpr m2 hi b1.1).mp q ⟨b1.2.2.1, b1.2.2.2.1.symm⟩
    · rw [isb_S]
      refine (isb_ok n1 t4 hp' hnd hpr m2 hi (by omega)).mpr (fun q => ?_)
      have := b1.2.2.2.2 b hb q.1
      omega
theorem RR_wc {n : Nat} {x : XC} {g k : LG} {tp : TP} {pl : PL} {u : MS} {co : Nat → Int32} (hx : RX x u) (ht : RT tp (wt0 u)) (hp : RP pl u) (hq : LQ (2 * n) x g k u) : RR n x g k tp pl (wc (wt0 u) co) := RR_mk hx ht hp hq
theorem RR_wb {n : Nat} {x : XC} {g k : LG} {tp : TP} {pl : PL} {u : MS} {co bo : Nat → Int32} {so : Int32} (hx : RX x u) (ht : RT tp (wt0 u)) (h1 : pl.2.2.2.2.2.2 = so) (h2 : 0 ≤ so.toInt) (h3 : so.toInt ≤ 12) (h4 : ∀ j : Nat, (j : Int) < so.toInt → pl.2.2.2.2.1 j = bo j) (hq : LQ (2 * n) x g k u) : RR n x g k tp pl (wb (wsp (wc (wt0 u) co) so) bo) := RR_mk hx ht ⟨h1, by rw [h1]; exact h2, by rw [h1]; exact h3, fun j hj => h4 j (by rw [← h1]; exact hj)⟩ hq
theorem RR_wt {n : Nat} {x : XC} {g k : LG} {tp : TP} {pl : PL} {u : MS} (hx : RX x u) (ht : RT tp (wt0 u)) (hp : RP pl u) (hq : LQ (2 * n) x g k u) : RR n x g k tp pl (wt0 u) := RR_mk hx ht hp hq
theorem plan_go {n : Nat} {x : XC} {g k : LG} {tp : TP} {pl : PL} {u : MS} (xs bs : Nat → Nat) (v : MS) (hx : RX x u) (ht : RT tp u) (hp : RP pl u) (hq : LQ (2 * n) x g k u) (hr : rt_ok tp) (exs : bs = bsP x g tp pl) : rX1_reckon (g.1 / 1000).toNatClampNeg (x.1 / 1000).toNatClampNeg (sX1_read x.2.2.2.2.2.2.1 pl tp) = rX4_plan_g_2 xs bs v u ∧ RR (n + 1) x g k (tp.1, 0) (sX1_reckon (g.1 / 1000).toNatClampNeg (x.1 / 1000).toNatClampNeg (sX1_read x.2.2.2.2.2.2.1 pl tp)) (sX4_plan_g_2 xs bs v u) := by
  obtain ⟨t1, t2, t3, t4, t5, t6, t7, t8⟩ := lit_val hx hq
  obtain ⟨n1, n2, n3⟩ := rt_num ht hr
  obtain ⟨r1, r2, r3, r4, r5, r6, r7⟩ := rd_yes (hu := x.2.2.2.2.2.2.1) (pl := pl) hr
  obtain ⟨p1, p2, p3, p4, p5⟩ := plan_X (pl := pl) hx ht hq hr
  obtain ⟨⟨co, m1, m2⟩, m3⟩ := plan_M hx ht hq hr
  obtain ⟨z0, z1, z2, z3⟩ := plan_tg (pl := pl) hx ht hq hr
  have ps := plan_st (pl := pl) hx ht hq hr
  have stS : (sX1_reckonBackwards (x.1 / 1000).toNatClampNeg (sX1_read x.2.2.2.2.2.2.1 pl tp)).2.2.2.2.2.1.toNatClampNeg = rd_q tp := by rw [p4, nI_clamp (by omega)]
  have hT0 : RT (tp.1, 0) (wt0 u) := ⟨ht.1, rfl, ht.2.2.1, (by decide : (0 : Int) ≤ (0 : Int32).toInt), (by decide : (0 : Int32).toInt ≤ 60)⟩
  have hq1 := LQ_more (N' := 2 * (n + 1)) hq (by omega)
  have rpW : ∀ w : PL, w.2.2.2.2.1 = pl.2.2.2.2.1 → w.2.2.2.2.2.2 = pl.2.2.2.2.2.2 → RP w u := fun w a1 a2 => by
    unfold RP
    rw [a1, a2]
    exact hp
  obtain ⟨c1, c2, c3⟩ := (rt_M ht).mpr hr
  rw [← exs] at ps
  clear p1 p2 r1 r2 r3 r4 r6 m2
  unfold rX4_plan_g_2 sX4_plan_g_2 rX1_reckon sX1_reckon
  rw [if_neg c1, if_pos c2, if_pos c3, if_neg c1, if_pos c2, if_pos c3, m3, m1]
  generalize (sX1_reckonBackwards (x.1 / 1000).toNatClampNeg (sX1_read x.2.2.2.2.2.2.1 pl tp)) = u1 at p3 p4 p5 z2 stS ps ⊢
  generalize (sX1_read x.2.2.2.2.2.2.1 pl tp) = rd at z0 z1 z2 r5 r7 ps ⊢
  by_cases q1 : ndP x tp 0 ≤ (g.1 / 1000).toNatClampNeg
  · have e1 : hh (cg (rd_q tp) (x.1 / 1000).toNatClampNeg (ndP x tp) (prP tp) (rd_q tp)) (ndP x tp 0) (g.1 / 1000).toNatClampNeg = cg (rd_q tp) (x.1 / 1000).toNatClampNeg (ndP x tp) (prP tp) (rd_q tp) ((g.1 / 1000).toNatClampNeg - ndP x tp 0) := if_neg (by omega)
    have l0 := z1.mpr q1
    have tq := z2 q1
    rw [e1, if_pos l0, if_pos l0]
    unfold rX1_reckon_g_6 sX1_reckon_g_6 rX1_reckon_g_9 sX1_reckon_g_9
    by_cases q2 : cg (rd_q tp) (x.1 / 1000).toNatClampNeg (ndP x tp) (prP tp) (rd_q tp) ((g.1 / 1000).toNatClampNeg - ndP x tp 0) < 1000000000
    · have c4 : ¬ nI (cg (rd_q tp) (x.1 / 1000).toNatClampNeg (ndP x tp) (prP tp) (rd_q tp) ((g.1 / 1000).toNatClampNeg - ndP x tp 0)) = 1000000000 := fun q => by
        have := (nI_eq (by omega) (by decide)).mp (show nI _ = nI 1000000000 from q)
        omega
      have c5 : u1.2.2.1 (nI (g.1 / 1000).toNatClampNeg - rd.1 0).toNatClampNeg < 1000000000 := by
        rw [tq]
        exact nI_lt (b := 1000000000) q2 (by decide)
      rw [if_neg c4, if_neg c4, if_pos c5, if_pos c5, tq]
      refine ⟨rfl, ?_⟩
      have hs := (ps q1 q2).2
      have fin := RR_wb (n := n + 1) (pl := sX1_buyForwards (nI (g.1 / 1000).toNatClampNeg - rd.1 0) u1) (co := co) (bo := fa_fill (fun j => nI (bs j)) u.2.2.2.2.2.2.2.2.2.2.2.2.2.2.2.1 (pS u)) (so := nI (pS u)) hx hT0 (by show u1.2.2.2.2.2.1 = _; rw [p4, pS_q ht]) (by rw [pS_q ht, nI_toInt (by omega)]; omega) (by rw [pS_q ht, nI_toInt (by omega)]; omega) (fun j hj => by
        rw [pS_q ht, nI_toInt (by omega)] at hj
        show fa_fill (bf_b u1 (nI (g.1 / 1000).toNatClampNeg - rd.1 0)) u1.2.2.2.2.1 (u1.2.2.2.2.2.1.toNatClampNeg) j = _
        rw [stS, pS_q ht, fa_fill_in (by omega), fa_fill_in (by omega)]
        exact (hs j (by omega)).2.1) hq1
      exact fin
    · have c4 : nI (cg (rd_q tp) (x.1 / 1000).toNatClampNeg (ndP x tp) (prP tp) (rd_q tp) ((g.1 / 1000).toNatClampNeg - ndP x tp 0)) = 1000000000 := by
        rw [show cg (rd_q tp) (x.1 / 1000).toNatClampNeg (ndP x tp) (prP tp) (rd_q tp) ((g.1 / 1000).toNatClampNeg - ndP x tp 0) = 1000000000 by omega]
        rfl
      have c5 : ¬ u1.2.2.1 (nI (g.1 / 1000).toNatClampNeg - rd.1 0).toNatClampNeg < 1000000000 := by
        rw [tq]
        exact nI_nlt (b := 1000000000) (by omega) (by omega)
      rw [if_pos c4, if_pos c4, if_neg c5, if_neg c5]
      exact ⟨rfl, RR_wc hx hT0 (rpW _ p3 p5) hq1⟩
  · have e1 : hh (cg (rd_q tp) (x.1 / 1000).toNatClampNeg (ndP x tp) (prP tp) (rd_q tp)) (ndP x tp 0) (g.1 / 1000).toNatClampNeg = 1000000000 := if_pos (by omega)
    have l0 : ¬ 0 ≤ nI (g.1 / 1000).toNatClampNeg - rd.1 0 := fun q => q1 (z1.mp q)
    have c4 : nI 1000000000 = 1000000000 := rfl
    rw [e1, if_neg l0, if_neg l0, if_pos c4, if_pos c4]
    exact ⟨rfl, RR_wc hx hT0 (rpW _ r5 r7) hq1⟩
theorem R_plan {n : Nat} {x : XC} {g k : LG} {tp : TP} {pl : PL} {v : MS} (h : RR n x g k tp pl v) (hn : n ≤ 600) : (0 ≤ tp.2 ∧ tp.2.toNatClampNeg ≤ 60 ∧ 0 ≤ g.1 / 1000 ∧ 0 ≤ x.1 / 1000 ∧ (¬ rX1_read x.2.2.2.2.2.2.1 pl tp = 0 → ∀ w : PL, w = (sX1_read x.2.2.2.2.2.2.1 pl tp) → rk_ok (g.1 / 1000).toNatClampNeg (x.1 / 1000).toNatClampNeg w)) ∧ (∀ u : MS, u = sX4_begin (0, v.2) → pm_ok (xsP x g tp pl) (bsP x g tp pl) u) ∧ rX3_plan x g k tp pl = rX4_plan (xsP x g tp pl) (bsP x g tp pl) v ∧ RR (n + 1) x g k (sX3_plan_tp x g k tp pl) (sX3_plan_pl x g k tp pl) (sX4_plan (xsP x g tp pl) (bsP x g tp pl) v) := by
  have hb := RR_bg h 0
  have eM : sX4_plan (xsP x g tp pl) (bsP x g tp pl) v = sX4_plan_g_2 (xsP x g tp pl) (bsP x g tp pl) v (sX4_begin (0, v.2)) := rfl
  have eS : rX4_plan (xsP x g tp pl) (bsP x g tp pl) v = rX4_plan_g_2 (xsP x g tp pl) (bsP x g tp pl) v (sX4_begin (0, v.2)) := rfl
  rw [eM, eS]
  generalize sX4_begin (0, v.2) = u at hb ⊢
  obtain ⟨hx, ht, hp, hq⟩ := hb
  obtain ⟨t1, t2, t3, t4, t5, t6, t7, t8⟩ := lit_val hx hq
  have g0 : 0 ≤ tp.2 := (fa_le _ _).mpr (by rw [x0]; exact ht.2.2.2.1)
  have g60 : tp.2.toNatClampNeg ≤ 60 := by
    have e := (cl_toInt ht.2.2.2.1).2
    have := ht.2.2.2.2
    omega
  have esh : sX2_shorten 0 tp = (tp.1, 0) := by
    unfold sX2_shorten
    rw [if_neg (by decide), if_pos g0]
  have hm := plan_pm (pl := pl) hx ht hq
  refine ⟨⟨g0, g60, t1, t2, fun q w ew => ?_⟩, fun u' e' => by rw [e']; exact hm, ?_⟩
  · have hr : rt_ok tp := by
      by_cases r : rt_ok tp
      · exact r
      · exact absurd (rd_no (hu := x.2.2.2.2.2.2.1) (pl := pl) r).1 q
    rw [ew]
    exact plan_rk hx ht hq hr
  by_cases hr : rt_ok tp
  · have r1 : ¬ rX1_read x.2.2.2.2.2.2.1 pl tp = 0 := by rw [(rd_yes (hu := x.2.2.2.2.2.2.1) (pl := pl) hr).1]; decide
    have eT3 : sX3_plan_tp x g k tp pl = (tp.1, 0) := by
      unfold sX3_plan_tp sX3_plan_tp_g_2 sX3_plan_tp_g_4 sX3_plan_tp_g_9
      rw [if_neg r1]
      exact esh
    rw [eT3]
    unfold rX3_plan rX3_plan_g_2 rX3_plan_g_4 rX3_plan_g_9 sX3_plan_pl sX3_plan_pl_g_2 sX3_plan_pl_g_4 sX3_plan_pl_g_9
    rw [if_neg r1, if_neg r1]
    exact plan_go _ _ v hx ht hp hq hr rfl
  · obtain ⟨r1, r2⟩ := rd_no (hu := x.2.2.2.2.2.2.1) (pl := pl) hr
    have nm : ¬ (¬ u.2.2.1 - u.2.2.1 / 2 * 2 = 0 ∧ u.2.2.1 ≤ 25 ∧ nz_b u.2.1 u.2.2.1.toNatClampNeg = true) := fun q => hr ((rt_M ht).mp q)
    have eR3 : rX3_plan x g k tp pl = -2 := by
      unfold rX3_plan rX3_plan_g_2 rX3_plan_g_4
      rw [if_pos r1]
    have eT3 : sX3_plan_tp x g k tp pl = (tp.1, 0) := by
      unfold sX3_plan_tp sX3_plan_tp_g_2 sX3_plan_tp_g_4
      rw [if_pos r1]
      exact esh
    have eP3 : sX3_plan_pl x g k tp pl = pl := by
      unfold sX3_plan_pl sX3_plan_pl_g_2 sX3_plan_pl_g_4
      rw [if_pos r1]
      exact r2
    have eM2 : sX4_plan_g_2 (xsP x g tp pl) (bsP x g tp pl) v u = wt0 u ∧ rX4_plan_g_2 (xsP x g tp pl) (bsP x g tp pl) v u = -2 := by
      unfold sX4_plan_g_2 rX4_plan_g_2
      by_cases h1 : u.2.2.1 - u.2.2.1 / 2 * 2 = 0
      · rw [if_pos h1, if_pos h1]
        exact ⟨rfl, rfl⟩
      rw [if_neg h1, if_neg h1]
      by_cases h2 : u.2.2.1 ≤ 25
      · rw [if_pos h2, if_pos h2]
        by_cases h3 : nz_b u.2.1 u.2.2.1.toNatClampNeg = true
        · exact absurd ⟨h1, h2, h3⟩ nm
        · rw [if_neg h3, if_neg h3]
          exact ⟨rfl, rfl⟩
      · rw [if_neg h2, if_neg h2]
        exact ⟨rfl, rfl⟩
    have hT0 : RT (tp.1, 0) (wt0 u) := ⟨ht.1, rfl, ht.2.2.1, (by decide : (0 : Int) ≤ (0 : Int32).toInt), (by decide : (0 : Int32).toInt ≤ 60)⟩
    rw [eR3, eT3, eP3, eM2.1, eM2.2]
    exact ⟨rfl, RR_wt hx hT0 hp (LQ_more hq (by omega))⟩
