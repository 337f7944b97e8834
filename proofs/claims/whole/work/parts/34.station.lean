abbrev rsZ : Type := (Nat → Int32) × (Nat → Int32) × Int32 × Int32

def rs_step (lg : Nat) (ro : Nat) (pr : Int32) (n : Nat) (z : rsZ) : rsZ :=
  if (nI n) < (nI lg) then
    if 1000000000 ≤ z.2.2.1 then
      (upd z.1 n 1000000000, upd z.2.1 (ro + n) z.2.2.2, z.2.2.1, z.2.2.2)
    else
      (upd z.1 n (z.2.2.1 - ((nI n) * pr)), upd z.2.1 (ro + n) z.2.2.2, z.2.2.1, z.2.2.2)
  else
    if 1000000000 ≤ (z.1 (((nI n) - (nI lg)).toNatClampNeg)) then
      if 1000000000 ≤ z.2.2.1 then
        (upd z.1 n 1000000000, upd z.2.1 (ro + n) z.2.2.2, z.2.2.1, z.2.2.2)
      else
        (upd z.1 n (z.2.2.1 - ((nI n) * pr)), upd z.2.1 (ro + n) z.2.2.2, z.2.2.1, z.2.2.2)
    else
      if z.2.2.1 < ((z.1 (((nI n) - (nI lg)).toNatClampNeg)) + ((nI n) * pr)) then
        if 1000000000 ≤ z.2.2.1 then
          (upd z.1 n 1000000000, upd z.2.1 (ro + n) z.2.2.2, z.2.2.1, z.2.2.2)
        else
          (upd z.1 n (z.2.2.1 - ((nI n) * pr)), upd z.2.1 (ro + n) z.2.2.2, z.2.2.1, z.2.2.2)
      else
        if 1000000000 ≤ ((z.1 (((nI n) - (nI lg)).toNatClampNeg)) + ((nI n) * pr)) then
          (upd z.1 n 1000000000, upd z.2.1 (ro + n) (nI n), (z.1 (((nI n) - (nI lg)).toNatClampNeg)) + ((nI n) * pr), nI n)
        else
          (upd z.1 n (((z.1 (((nI n) - (nI lg)).toNatClampNeg)) + ((nI n) * pr)) - ((nI n) * pr)), upd z.2.1 (ro + n) (nI n), (z.1 (((nI n) - (nI lg)).toNatClampNeg)) + ((nI n) * pr), nI n)

def rs_run (lg ro : Nat) (pr : Int32) : Nat → rsZ → rsZ
  | 0, z => z
  | n + 1, z => rs_run lg ro pr n (rs_step lg ro pr n z)
theorem rs_run_s (lg ro : Nat) (pr : Int32) (n : Nat) (z : rsZ) : rs_run lg ro pr (n + 1) z = rs_run lg ro pr n (rs_step lg ro pr n z) := rfl
def st_Z (i r : Nat) (pl : PL) : rsZ := rs_run (pl.1 (i + 1)).toNatClampNeg (i * 121) (pl.2.1 i) (r + 1) (pl.2.2.1, pl.2.2.2.1, 1000000000, nI r)

set_option maxHeartbeats 4000000 in
set_option maxRecDepth 100000 in
theorem f_station {p : Program} {l : Launch} {e : Env} {R : Room} {s : State} {m : MethodId} {args : Array Value} {below : List Frame} {meth : Method} {c : Code} {cells slots : Nat} {Q : State → Prop} {H0 : Heap} {A : Nat → Prop} {dC : Nat → ClassId} {dI : Nat → Nat → Nat} {cI cJ : ClassId} (hx : p.tables.exec = Jvm.exec) (hb : c.code = cX1_reckonStation) (hml : c.maxLocals = 10) (hown : s.vm.findClass RX1 = some m.cls) (hts : ∀ w ∈ wsX1_reckonStation, w.before args s = true) (hA : ∀ q : Nat, H0.size ≤ q → A q) (hK : va_K (dC, dI) vwCl [(cI, .int), (cJ, .long)] s) {p0 p1 p2 p3 p4 p5 : Nat} {pl : PL} {lg ro : Nat} {pr : Int32} (hlg : lg < 2 ^ 31) (hro : ro + 120 < 1452) : ∀ (n : Nat) (z : rsZ), (n ≤ 121) → (∀ (H : Heap) (locs : List Loc) (ls : Array Slot), va_P (dC, dI) vwCl [(p0, .inr (1, [.ref p1, .ref p2, .ref p3, .ref p4, .ref p5, .int pl.2.2.2.2.2.1, .int pl.2.2.2.2.2.2])), (p1, .inl (cI, 13, .inl pl.1)), (p2, .inl (cI, 12, .inl pl.2.1)), (p3, .inl (cI, 121, .inl ((rs_run lg ro pr n z).1))), (p4, .inl (cI, 1452, .inl ((rs_run lg ro pr n z).2.1))), (p5, .inl (cI, 12, .inl pl.2.2.2.2.1))] H → va_D A [(p0, .inr (1, [.ref p1, .ref p2, .ref p3, .ref p4, .ref p5, .int pl.2.2.2.2.2.1, .int pl.2.2.2.2.2.2])), (p1, .inl (cI, 13, .inl pl.1)), (p2, .inl (cI, 12, .inl pl.2.1)), (p3, .inl (cI, 121, .inl ((rs_run lg ro pr n z).1))), (p4, .inl (cI, 1452, .inl ((rs_run lg ro pr n z).2.1))), (p5, .inl (cI, 12, .inl pl.2.2.2.2.1))] → va_S A H0 H locs → lv_has ls 10 [(0, .ref p0)] → W p l e R s m args below meth c H locs cells slots Q (F0 m 139 ls [])) → ∀ (H : Heap) (locs : List Loc) (ls : Array Slot), va_P (dC, dI) vwCl [(p0, .inr (1, [.ref p1, .ref p2, .ref p3, .ref p4, .ref p5, .int pl.2.2.2.2.2.1, .int pl.2.2.2.2.2.2])), (p1, .inl (cI, 13, .inl pl.1)), (p2, .inl (cI, 12, .inl pl.2.1)), (p3, .inl (cI, 121, .inl z.1)), (p4, .inl (cI, 1452, .inl z.2.1)), (p5, .inl (cI, 12, .inl pl.2.2.2.2.1))] H → va_D A [(p0, .inr (1, [.ref p1, .ref p2, .ref p3, .ref p4, .ref p5, .int pl.2.2.2.2.2.1, .int pl.2.2.2.2.2.2])), (p1, .inl (cI, 13, .inl pl.1)), (p2, .inl (cI, 12, .inl pl.2.1)), (p3, .inl (cI, 121, .inl z.1)), (p4, .inl (cI, 1452, .inl z.2.1)), (p5, .inl (cI, 12, .inl pl.2.2.2.2.1))] → va_S A H0 H locs → lv_has ls 10 [(0, .ref p0), (3, .int (nI lg)), (4, .int pr), (5, .int (nI ro)), (6, .int z.2.2.1), (7, .int z.2.2.2), (8, .int (nM n))] → W p l e R s m args below meth c H locs cells slots Q (F0 m 33 ls []) := by
  have hiX1 : ∀ w ∈ u_ws RX1 TX1 7, w ∈ wsX1_reckonStation := by decide +kernel
  intro n
  induction n with
  | zero =>
    intro z hn kk H locs ls hP hD hS hl
    rw [nM_0] at hl
    refine lv_iload hx hb dX1_reckonStation_33 (lv_at hl 6 rfl) ?_
    refine lv_if_lt (tgt := 139) hx hb dX1_reckonStation_35 (by decide) (fun c_1 => ?_) (fun c_1 => absurd (by decide) c_1)
    exact kk _ _ _ hP hD hS (lv_sub hl [0] rfl)
  | succ n ih =>
    intro z hn kk H locs ls hP hD hS hl
    rw [nM_s] at hl
    refine lv_iload hx hb dX1_reckonStation_33 (lv_at hl 6 rfl) ?_
    refine lv_if_lt (tgt := 139) hx hb dX1_reckonStation_35 (by decide) (fun c_1 => absurd c_1 (nI_pos (n := n) (by omega))) (fun c_1 => ?_)
    refine lv_iload hx hb dX1_reckonStation_38 (lv_at hl 6 rfl) ?_
    refine lv_iload_n hx hb dX1_reckonStation_40 rfl (lv_at hl 1 rfl) ?_
    refine lv_icmp_lt (tgt := 56) hx hb dX1_reckonStation_41 (by decide) (fun c_2 => ?_) (fun c_2 => ?_)
    · refine lv_ldc hx hb hown (hts (.constant RX1 52 (1000000000)) (by decide +kernel)) dX1_reckonStation_56 ?_
      refine lv_istore (lv' := [(9, .int 1000000000), (0, .ref p0), (3, .int (nI lg)), (4, .int pr), (5, .int (nI ro)), (6, .int z.2.2.1), (7, .int z.2.2.2), (8, .int (nI n))]) hx hb dX1_reckonStation_58 hl (by decide) rfl (fun ls hl => ?_)
      refine lv_iload hx hb dX1_reckonStation_60 (lv_at hl 0 rfl) ?_
      refine lv_ldc hx hb hown (hts (.constant RX1 52 (1000000000)) (by decide +kernel)) dX1_reckonStation_62 ?_
      refine lv_icmp_ge (tgt := 94) hx hb dX1_reckonStation_64 (by decide) (fun c_3 => ?_) (fun c_3 => absurd (by decide) c_3)
      refine lv_aload_n hx hb dX1_reckonStation_94 rfl (lv_at hl 1 rfl) ?_
      refine va_get (D := (dC, dI)) (ci := 1) (v := .ref p3) (C := RX1) (T := TX1) (N := 7) hx hb hts hiX1 hown hK hP 0 rfl rfl 2 (by decide) (hts (.fieldLink RX1 18 "TripReckoner$Planner" "toGo" "[I") (by decide +kernel)) (fun _ h9 => h9) rfl dX1_reckonStation_95 ?_
      refine lv_iload hx hb dX1_reckonStation_98 (lv_at hl 7 rfl) ?_
      refine lv_iload hx hb dX1_reckonStation_100 (lv_at hl 5 rfl) ?_
      refine lv_ldc hx hb hown (hts (.constant RX1 52 (1000000000)) (by decide +kernel)) dX1_reckonStation_102 ?_
      refine lv_icmp_ge (tgt := 118) hx hb dX1_reckonStation_104 (by decide) (fun c_4 => ?_) (fun c_4 => ?_)
      · refine lv_ldc hx hb hown (hts (.constant RX1 52 (1000000000)) (by decide +kernel)) dX1_reckonStation_118 ?_
        refine va_iast hx hb hK hP hD hS 3 0 rfl rfl (vp_in_nI (by omega) (by decide)) dX1_reckonStation_120 (fun H locs hP hD hS => ?_)
        rw [(nI_clamp (n := n) (by omega))] at hP hD
        have hP : va_P (dC, dI) vwCl [(p0, .inr (1, [.ref p1, .ref p2, .ref p3, .ref p4, .ref p5, .int pl.2.2.2.2.2.1, .int pl.2.2.2.2.2.2])), (p1, .inl (cI, 13, .inl pl.1)), (p2, .inl (cI, 12, .inl pl.2.1)), (p3, .inl (cI, 121, .inl (upd z.1 n 1000000000))), (p4, .inl (cI, 1452, .inl z.2.1)), (p5, .inl (cI, 12, .inl pl.2.2.2.2.1))] H := hP
        have hD : va_D A [(p0, .inr (1, [.ref p1, .ref p2, .ref p3, .ref p4, .ref p5, .int pl.2.2.2.2.2.1, .int pl.2.2.2.2.2.2])), (p1, .inl (cI, 13, .inl pl.1)), (p2, .inl (cI, 12, .inl pl.2.1)), (p3, .inl (cI, 121, .inl (upd z.1 n 1000000000))), (p4, .inl (cI, 1452, .inl z.2.1)), (p5, .inl (cI, 12, .inl pl.2.2.2.2.1))] := hD
        refine lv_aload_n hx hb dX1_reckonStation_121 rfl (lv_at hl 1 rfl) ?_
        refine va_get (D := (dC, dI)) (ci := 1) (v := .ref p4) (C := RX1) (T := TX1) (N := 7) hx hb hts hiX1 hown hK hP 0 rfl rfl 3 (by decide) (hts (.fieldLink RX1 21 "TripReckoner$Planner" "fillTo" "[I") (by decide +kernel)) (fun _ h9 => h9) rfl dX1_reckonStation_122 ?_
        refine lv_iload hx hb dX1_reckonStation_125 (lv_at hl 4 rfl) ?_
        refine lv_iload hx hb dX1_reckonStation_127 (lv_at hl 7 rfl) ?_
        refine lv_iadd hx hb dX1_reckonStation_129 ?_
        refine lv_iload hx hb dX1_reckonStation_130 (lv_at hl 6 rfl) ?_
        refine va_iast hx hb hK hP hD hS 4 0 rfl rfl (sum_in (by omega) (by decide)) dX1_reckonStation_132 (fun H locs hP hD hS => ?_)
        rw [(sum_cl (by omega))] at hP hD
        have hP : va_P (dC, dI) vwCl [(p0, .inr (1, [.ref p1, .ref p2, .ref p3, .ref p4, .ref p5, .int pl.2.2.2.2.2.1, .int pl.2.2.2.2.2.2])), (p1, .inl (cI, 13, .inl pl.1)), (p2, .inl (cI, 12, .inl pl.2.1)), (p3, .inl (cI, 121, .inl (upd z.1 n 1000000000))), (p4, .inl (cI, 1452, .inl (upd z.2.1 (ro + n) z.2.2.2))), (p5, .inl (cI, 12, .inl pl.2.2.2.2.1))] H := hP
        have hD : va_D A [(p0, .inr (1, [.ref p1, .ref p2, .ref p3, .ref p4, .ref p5, .int pl.2.2.2.2.2.1, .int pl.2.2.2.2.2.2])), (p1, .inl (cI, 13, .inl pl.1)), (p2, .inl (cI, 12, .inl pl.2.1)), (p3, .inl (cI, 121, .inl (upd z.1 n 1000000000))), (p4, .inl (cI, 1452, .inl (upd z.2.1 (ro + n) z.2.2.2))), (p5, .inl (cI, 12, .inl pl.2.2.2.2.1))] := hD
        refine lv_iinc (v := nM n) (lv' := [(8, .int (nM n)), (9, .int 1000000000), (0, .ref p0), (3, .int (nI lg)), (4, .int pr), (5, .int (nI ro)), (6, .int z.2.2.1), (7, .int z.2.2.2)]) hx hb dX1_reckonStation_133 hl (k := 7) rfl (nM_1 n) (by decide) rfl (fun ls hl => ?_)
        refine lv_goto (tgt := 33) hx hb dX1_reckonStation_136 (by decide) ?_
        have es : rs_step lg ro pr n z = (upd z.1 n 1000000000, upd z.2.1 (ro + n) z.2.2.2, z.2.2.1, z.2.2.2) := by rw [rs_step, if_pos c_2, if_pos c_4]
        exact ih (upd z.1 n 1000000000, upd z.2.1 (ro + n) z.2.2.2, z.2.2.1, z.2.2.2) (by omega) (by have k9 := kk; rw [rs_run_s, es] at k9; exact k9) _ _ _ hP hD hS (lv_sub hl [2, 3, 4, 5, 6, 7, 0] rfl)
      · refine lv_iload hx hb dX1_reckonStation_107 (lv_at hl 5 rfl) ?_
        refine lv_iload hx hb dX1_reckonStation_109 (lv_at hl 7 rfl) ?_
        refine lv_iload hx hb dX1_reckonStation_111 (lv_at hl 3 rfl) ?_
        refine lv_imul hx hb dX1_reckonStation_113 ?_
        refine lv_isub hx hb dX1_reckonStation_114 ?_
        refine lv_goto (tgt := 120) hx hb dX1_reckonStation_115 (by decide) ?_
        refine va_iast hx hb hK hP hD hS 3 0 rfl rfl (vp_in_nI (by omega) (by decide)) dX1_reckonStation_120 (fun H locs hP hD hS => ?_)
        rw [(nI_clamp (n := n) (by omega))] at hP hD
        have hP : va_P (dC, dI) vwCl [(p0, .inr (1, [.ref p1, .ref p2, .ref p3, .ref p4, .ref p5, .int pl.2.2.2.2.2.1, .int pl.2.2.2.2.2.2])), (p1, .inl (cI, 13, .inl pl.1)), (p2, .inl (cI, 12, .inl pl.2.1)), (p3, .inl (cI, 121, .inl (upd z.1 n (z.2.2.1 - ((nI n) * pr))))), (p4, .inl (cI, 1452, .inl z.2.1)), (p5, .inl (cI, 12, .inl pl.2.2.2.2.1))] H := hP
        have hD : va_D A [(p0, .inr (1, [.ref p1, .ref p2, .ref p3, .ref p4, .ref p5, .int pl.2.2.2.2.2.1, .int pl.2.2.2.2.2.2])), (p1, .inl (cI, 13, .inl pl.1)), (p2, .inl (cI, 12, .inl pl.2.1)), (p3, .inl (cI, 121, .inl (upd z.1 n (z.2.2.1 - ((nI n) * pr))))), (p4, .inl (cI, 1452, .inl z.2.1)), (p5, .inl (cI, 12, .inl pl.2.2.2.2.1))] := hD
        refine lv_aload_n hx hb dX1_reckonStation_121 rfl (lv_at hl 1 rfl) ?_
        refine va_get (D := (dC, dI)) (ci := 1) (v := .ref p4) (C := RX1) (T := TX1) (N := 7) hx hb hts hiX1 hown hK hP 0 rfl rfl 3 (by decide) (hts (.fieldLink RX1 21 "TripReckoner$Planner" "fillTo" "[I") (by decide +kernel)) (fun _ h9 => h9) rfl dX1_reckonStation_122 ?_
        refine lv_iload hx hb dX1_reckonStation_125 (lv_at hl 4 rfl) ?_
        refine lv_iload hx hb dX1_reckonStation_127 (lv_at hl 7 rfl) ?_
        refine lv_iadd hx hb dX1_reckonStation_129 ?_
        refine lv_iload hx hb dX1_reckonStation_130 (lv_at hl 6 rfl) ?_
        refine va_iast hx hb hK hP hD hS 4 0 rfl rfl (sum_in (by omega) (by decide)) dX1_reckonStation_132 (fun H locs hP hD hS => ?_)
        rw [(sum_cl (by omega))] at hP hD
        have hP : va_P (dC, dI) vwCl [(p0, .inr (1, [.ref p1, .ref p2, .ref p3, .ref p4, .ref p5, .int pl.2.2.2.2.2.1, .int pl.2.2.2.2.2.2])), (p1, .inl (cI, 13, .inl pl.1)), (p2, .inl (cI, 12, .inl pl.2.1)), (p3, .inl (cI, 121, .inl (upd z.1 n (z.2.2.1 - ((nI n) * pr))))), (p4, .inl (cI, 1452, .inl (upd z.2.1 (ro + n) z.2.2.2))), (p5, .inl (cI, 12, .inl pl.2.2.2.2.1))] H := hP
        have hD : va_D A [(p0, .inr (1, [.ref p1, .ref p2, .ref p3, .ref p4, .ref p5, .int pl.2.2.2.2.2.1, .int pl.2.2.2.2.2.2])), (p1, .inl (cI, 13, .inl pl.1)), (p2, .inl (cI, 12, .inl pl.2.1)), (p3, .inl (cI, 121, .inl (upd z.1 n (z.2.2.1 - ((nI n) * pr))))), (p4, .inl (cI, 1452, .inl (upd z.2.1 (ro + n) z.2.2.2))), (p5, .inl (cI, 12, .inl pl.2.2.2.2.1))] := hD
        refine lv_iinc (v := nM n) (lv' := [(8, .int (nM n)), (9, .int 1000000000), (0, .ref p0), (3, .int (nI lg)), (4, .int pr), (5, .int (nI ro)), (6, .int z.2.2.1), (7, .int z.2.2.2)]) hx hb dX1_reckonStation_133 hl (k := 7) rfl (nM_1 n) (by decide) rfl (fun ls hl => ?_)
        refine lv_goto (tgt := 33) hx hb dX1_reckonStation_136 (by decide) ?_
        have es : rs_step lg ro pr n z = (upd z.1 n (z.2.2.1 - ((nI n) * pr)), upd z.2.1 (ro + n) z.2.2.2, z.2.2.1, z.2.2.2) := by rw [rs_step, if_pos c_2, if_neg c_4]
        exact ih (upd z.1 n (z.2.2.1 - ((nI n) * pr)), upd z.2.1 (ro + n) z.2.2.2, z.2.2.1, z.2.2.2) (by omega) (by have k9 := kk; rw [rs_run_s, es] at k9; exact k9) _ _ _ hP hD hS (lv_sub hl [2, 3, 4, 5, 6, 7, 0] rfl)
    · refine lv_aload_n hx hb dX1_reckonStation_44 rfl (lv_at hl 0 rfl) ?_
      refine va_get (D := (dC, dI)) (ci := 1) (v := .ref p3) (C := RX1) (T := TX1) (N := 7) hx hb hts hiX1 hown hK hP 0 rfl rfl 2 (by decide) (hts (.fieldLink RX1 18 "TripReckoner$Planner" "toGo" "[I") (by decide +kernel)) (fun _ h9 => h9) rfl dX1_reckonStation_45 ?_
      refine lv_iload hx hb dX1_reckonStation_48 (lv_at hl 6 rfl) ?_
      refine lv_iload_n hx hb dX1_reckonStation_50 rfl (lv_at hl 1 rfl) ?_
      refine lv_isub hx hb dX1_reckonStation_51 ?_
      refine va_iald hx hb hK hP 3 0 rfl rfl (dif_in c_2 (by omega) (by decide) hlg) dX1_reckonStation_52 ?_
      refine lv_goto (tgt := 58) hx hb dX1_reckonStation_53 (by decide) ?_
      refine lv_istore (lv' := [(9, .int (z.1 (((nI n) - (nI lg)).toNatClampNeg))), (0, .ref p0), (3, .int (nI lg)), (4, .int pr), (5, .int (nI ro)), (6, .int z.2.2.1), (7, .int z.2.2.2), (8, .int (nI n))]) hx hb dX1_reckonStation_58 hl (by decide) rfl (fun ls hl => ?_)
      refine lv_iload hx hb dX1_reckonStation_60 (lv_at hl 0 rfl) ?_
      refine lv_ldc hx hb hown (hts (.constant RX1 52 (1000000000)) (by decide +kernel)) dX1_reckonStation_62 ?_
      refine lv_icmp_ge (tgt := 94) hx hb dX1_reckonStation_64 (by decide) (fun c_5 => ?_) (fun c_5 => ?_)
      · refine lv_aload_n hx hb dX1_reckonStation_94 rfl (lv_at hl 1 rfl) ?_
        refine va_get (D := (dC, dI)) (ci := 1) (v := .ref p3) (C := RX1) (T := TX1) (N := 7) hx hb hts hiX1 hown hK hP 0 rfl rfl 2 (by decide) (hts (.fieldLink RX1 18 "TripReckoner$Planner" "toGo" "[I") (by decide +kernel)) (fun _ h9 => h9) rfl dX1_reckonStation_95 ?_
        refine lv_iload hx hb dX1_reckonStation_98 (lv_at hl 7 rfl) ?_
        refine lv_iload hx hb dX1_reckonStation_100 (lv_at hl 5 rfl) ?_
        refine lv_ldc hx hb hown (hts (.constant RX1 52 (1000000000)) (by decide +kernel)) dX1_reckonStation_102 ?_
        refine lv_icmp_ge (tgt := 118) hx hb dX1_reckonStation_104 (by decide) (fun c_6 => ?_) (fun c_6 => ?_)
        · refine lv_ldc hx hb hown (hts (.constant RX1 52 (1000000000)) (by decide +kernel)) dX1_reckonStation_118 ?_
          refine va_iast hx hb hK hP hD hS 3 0 rfl rfl (vp_in_nI (by omega) (by decide)) dX1_reckonStation_120 (fun H locs hP hD hS => ?_)
          rw [(nI_clamp (n := n) (by omega))] at hP hD
          have hP : va_P (dC, dI) vwCl [(p0, .inr (1, [.ref p1, .ref p2, .ref p3, .ref p4, .ref p5, .int pl.2.2.2.2.2.1, .int pl.2.2.2.2.2.2])), (p1, .inl (cI, 13, .inl pl.1)), (p2, .inl (cI, 12, .inl pl.2.1)), (p3, .inl (cI, 121, .inl (upd z.1 n 1000000000))), (p4, .inl (cI, 1452, .inl z.2.1)), (p5, .inl (cI, 12, .inl pl.2.2.2.2.1))] H := hP
          have hD : va_D A [(p0, .inr (1, [.ref p1, .ref p2, .ref p3, .ref p4, .ref p5, .int pl.2.2.2.2.2.1, .int pl.2.2.2.2.2.2])), (p1, .inl (cI, 13, .inl pl.1)), (p2, .inl (cI, 12, .inl pl.2.1)), (p3, .inl (cI, 121, .inl (upd z.1 n 1000000000))), (p4, .inl (cI, 1452, .inl z.2.1)), (p5, .inl (cI, 12, .inl pl.2.2.2.2.1))] := hD
          refine lv_aload_n hx hb dX1_reckonStation_121 rfl (lv_at hl 1 rfl) ?_
          refine va_get (D := (dC, dI)) (ci := 1) (v := .ref p4) (C := RX1) (T := TX1) (N := 7) hx hb hts hiX1 hown hK hP 0 rfl rfl 3 (by decide) (hts (.fieldLink RX1 21 "TripReckoner$Planner" "fillTo" "[I") (by decide +kernel)) (fun _ h9 => h9) rfl dX1_reckonStation_122 ?_
          refine lv_iload hx hb dX1_reckonStation_125 (lv_at hl 4 rfl) ?_
          refine lv_iload hx hb dX1_reckonStation_127 (lv_at hl 7 rfl) ?_
          refine lv_iadd hx hb dX1_reckonStation_129 ?_
          refine lv_iload hx hb dX1_reckonStation_130 (lv_at hl 6 rfl) ?_
          refine va_iast hx hb hK hP hD hS 4 0 rfl rfl (sum_in (by omega) (by decide)) dX1_reckonStation_132 (fun H locs hP hD hS => ?_)
          rw [(sum_cl (by omega))] at hP hD
          have hP : va_P (dC, dI) vwCl [(p0, .inr (1, [.ref p1, .ref p2, .ref p3, .ref p4, .ref p5, .int pl.2.2.2.2.2.1, .int pl.2.2.2.2.2.2])), (p1, .inl (cI, 13, .inl pl.1)), (p2, .inl (cI, 12, .inl pl.2.1)), (p3, .inl (cI, 121, .inl (upd z.1 n 1000000000))), (p4, .inl (cI, 1452, .inl (upd z.2.1 (ro + n) z.2.2.2))), (p5, .inl (cI, 12, .inl pl.2.2.2.2.1))] H := hP
          have hD : va_D A [(p0, .inr (1, [.ref p1, .ref p2, .ref p3, .ref p4, .ref p5, .int pl.2.2.2.2.2.1, .int pl.2.2.2.2.2.2])), (p1, .inl (cI, 13, .inl pl.1)), (p2, .inl (cI, 12, .inl pl.2.1)), (p3, .inl (cI, 121, .inl (upd z.1 n 1000000000))), (p4, .inl (cI, 1452, .inl (upd z.2.1 (ro + n) z.2.2.2))), (p5, .inl (cI, 12, .inl pl.2.2.2.2.1))] := hD
          refine lv_iinc (v := nM n) (lv' := [(8, .int (nM n)), (9, .int (z.1 (((nI n) - (nI lg)).toNatClampNeg))), (0, .ref p0), (3, .int (nI lg)), (4, .int pr), (5, .int (nI ro)), (6, .int z.2.2.1), (7, .int z.2.2.2)]) hx hb dX1_reckonStation_133 hl (k := 7) rfl (nM_1 n) (by decide) rfl (fun ls hl => ?_)
          refine lv_goto (tgt := 33) hx hb dX1_reckonStation_136 (by decide) ?_
          have es : rs_step lg ro pr n z = (upd z.1 n 1000000000, upd z.2.1 (ro + n) z.2.2.2, z.2.2.1, z.2.2.2) := by rw [rs_step, if_neg c_2, if_pos c_5, if_pos c_6]
          exact ih (upd z.1 n 1000000000, upd z.2.1 (ro + n) z.2.2.2, z.2.2.1, z.2.2.2) (by omega) (by have k9 := kk; rw [rs_run_s, es] at k9; exact k9) _ _ _ hP hD hS (lv_sub hl [2, 3, 4, 5, 6, 7, 0] rfl)
        · refine lv_iload hx hb dX1_reckonStation_107 (lv_at hl 5 rfl) ?_
          refine lv_iload hx hb dX1_reckonStation_109 (lv_at hl 7 rfl) ?_
          refine lv_iload hx hb dX1_reckonStation_111 (lv_at hl 3 rfl) ?_
          refine lv_imul hx hb dX1_reckonStation_113 ?_
          refine lv_isub hx hb dX1_reckonStation_114 ?_
          refine lv_goto (tgt := 120) hx hb dX1_reckonStation_115 (by decide) ?_
          refine va_iast hx hb hK hP hD hS 3 0 rfl rfl (vp_in_nI (by omega) (by decide)) dX1_reckonStation_120 (fun H locs hP hD hS => ?_)
          rw [(nI_clamp (n := n) (by omega))] at hP hD
          have hP : va_P (dC, dI) vwCl [(p0, .inr (1, [.ref p1, .ref p2, .ref p3, .ref p4, .ref p5, .int pl.2.2.2.2.2.1, .int pl.2.2.2.2.2.2])), (p1, .inl (cI, 13, .inl pl.1)), (p2, .inl (cI, 12, .inl pl.2.1)), (p3, .inl (cI, 121, .inl (upd z.1 n (z.2.2.1 - ((nI n) * pr))))), (p4, .inl (cI, 1452, .inl z.2.1)), (p5, .inl (cI, 12, .inl pl.2.2.2.2.1))] H := hP
          have hD : va_D A [(p0, .inr (1, [.ref p1, .ref p2, .ref p3, .ref p4, .ref p5, .int pl.2.2.2.2.2.1, .int pl.2.2.2.2.2.2])), (p1, .inl (cI, 13, .inl pl.1)), (p2, .inl (cI, 12, .inl pl.2.1)), (p3, .inl (cI, 121, .inl (upd z.1 n (z.2.2.1 - ((nI n) * pr))))), (p4, .inl (cI, 1452, .inl z.2.1)), (p5, .inl (cI, 12, .inl pl.2.2.2.2.1))] := hD
          refine lv_aload_n hx hb dX1_reckonStation_121 rfl (lv_at hl 1 rfl) ?_
          refine va_get (D := (dC, dI)) (ci := 1) (v := .ref p4) (C := RX1) (T := TX1) (N := 7) hx hb hts hiX1 hown hK hP 0 rfl rfl 3 (by decide) (hts (.fieldLink RX1 21 "TripReckoner$Planner" "fillTo" "[I") (by decide +kernel)) (fun _ h9 => h9) rfl dX1_reckonStation_122 ?_
          refine lv_iload hx hb dX1_reckonStation_125 (lv_at hl 4 rfl) ?_
          refine lv_iload hx hb dX1_reckonStation_127 (lv_at hl 7 rfl) ?_
          refine lv_iadd hx hb dX1_reckonStation_129 ?_
          refine lv_iload hx hb dX1_reckonStation_130 (lv_at hl 6 rfl) ?_
          refine va_iast hx hb hK hP hD hS 4 0 rfl rfl (sum_in (by omega) (by decide)) dX1_reckonStation_132 (fun H locs hP hD hS => ?_)
          rw [(sum_cl (by omega))] at hP hD
          have hP : va_P (dC, dI) vwCl [(p0, .inr (1, [.ref p1, .ref p2, .ref p3, .ref p4, .ref p5, .int pl.2.2.2.2.2.1, .int pl.2.2.2.2.2.2])), (p1, .inl (cI, 13, .inl pl.1)), (p2, .inl (cI, 12, .inl pl.2.1)), (p3, .inl (cI, 121, .inl (upd z.1 n (z.2.2.1 - ((nI n) * pr))))), (p4, .inl (cI, 1452, .inl (upd z.2.1 (ro + n) z.2.2.2))), (p5, .inl (cI, 12, .inl pl.2.2.2.2.1))] H := hP
          have hD : va_D A [(p0, .inr (1, [.ref p1, .ref p2, .ref p3, .ref p4, .ref p5, .int pl.2.2.2.2.2.1, .int pl.2.2.2.2.2.2])), (p1, .inl (cI, 13, .inl pl.1)), (p2, .inl (cI, 12, .inl pl.2.1)), (p3, .inl (cI, 121, .inl (upd z.1 n (z.2.2.1 - ((nI n) * pr))))), (p4, .inl (cI, 1452, .inl (upd z.2.1 (ro + n) z.2.2.2))), (p5, .inl (cI, 12, .inl pl.2.2.2.2.1))] := hD
          refine lv_iinc (v := nM n) (lv' := [(8, .int (nM n)), (9, .int (z.1 (((nI n) - (nI lg)).toNatClampNeg))), (0, .ref p0), (3, .int (nI lg)), (4, .int pr), (5, .int (nI ro)), (6, .int z.2.2.1), (7, .int z.2.2.2)]) hx hb dX1_reckonStation_133 hl (k := 7) rfl (nM_1 n) (by decide) rfl (fun ls hl => ?_)
          refine lv_goto (tgt := 33) hx hb dX1_reckonStation_136 (by decide) ?_
          have es : rs_step lg ro pr n z = (upd z.1 n (z.2.2.1 - ((nI n) * pr)), upd z.2.1 (ro + n) z.2.2.2, z.2.2.1, z.2.2.2) := by rw [rs_step, if_neg c_2, if_pos c_5, if_neg c_6]
          exact ih (upd z.1 n (z.2.2.1 - ((nI n) * pr)), upd z.2.1 (ro + n) z.2.2.2, z.2.2.1, z.2.2.2) (by omega) (by have k9 := kk; rw [rs_run_s, es] at k9; exact k9) _ _ _ hP hD hS (lv_sub hl [2, 3, 4, 5, 6, 7, 0] rfl)
      · refine lv_iload hx hb dX1_reckonStation_67 (lv_at hl 0 rfl) ?_
        refine lv_iload hx hb dX1_reckonStation_69 (lv_at hl 7 rfl) ?_
        refine lv_iload hx hb dX1_reckonStation_71 (lv_at hl 3 rfl) ?_
        refine lv_imul hx hb dX1_reckonStation_73 ?_
        refine lv_iadd hx hb dX1_reckonStation_74 ?_
        refine lv_iload hx hb dX1_reckonStation_75 (lv_at hl 5 rfl) ?_
        refine lv_icmp_gt (tgt := 94) hx hb dX1_reckonStation_77 (by decide) (fun c_7 => ?_) (fun c_7 => ?_)
        · refine lv_aload_n hx hb dX1_reckonStation_94 rfl (lv_at hl 1 rfl) ?_
          refine va_get (D := (dC, dI)) (ci := 1) (v := .ref p3) (C := RX1) (T := TX1) (N := 7) hx hb hts hiX1 hown hK hP 0 rfl rfl 2 (by decide) (hts (.fieldLink RX1 18 "TripReckoner$Planner" "toGo" "[I") (by decide +kernel)) (fun _ h9 => h9) rfl dX1_reckonStation_95 ?_
          refine lv_iload hx hb dX1_reckonStation_98 (lv_at hl 7 rfl) ?_
          refine lv_iload hx hb dX1_reckonStation_100 (lv_at hl 5 rfl) ?_
          refine lv_ldc hx hb hown (hts (.constant RX1 52 (1000000000)) (by decide +kernel)) dX1_reckonStation_102 ?_
          refine lv_icmp_ge (tgt := 118) hx hb dX1_reckonStation_104 (by decide) (fun c_8 => ?_) (fun c_8 => ?_)
          · refine lv_ldc hx hb hown (hts (.constant RX1 52 (1000000000)) (by decide +kernel)) dX1_reckonStation_118 ?_
            refine va_iast hx hb hK hP hD hS 3 0 rfl rfl (vp_in_nI (by omega) (by decide)) dX1_reckonStation_120 (fun H locs hP hD hS => ?_)
            rw [(nI_clamp (n := n) (by omega))] at hP hD
            have hP : va_P (dC, dI) vwCl [(p0, .inr (1, [.ref p1, .ref p2, .ref p3, .ref p4, .ref p5, .int pl.2.2.2.2.2.1, .int pl.2.2.2.2.2.2])), (p1, .inl (cI, 13, .inl pl.1)), (p2, .inl (cI, 12, .inl pl.2.1)), (p3, .inl (cI, 121, .inl (upd z.1 n 1000000000))), (p4, .inl (cI, 1452, .inl z.2.1)), (p5, .inl (cI, 12, .inl pl.2.2.2.2.1))] H := hP
            have hD : va_D A [(p0, .inr (1, [.ref p1, .ref p2, .ref p3, .ref p4, .ref p5, .int pl.2.2.2.2.2.1, .int pl.2.2.2.2.2.2])), (p1, .inl (cI, 13, .inl pl.1)), (p2, .inl (cI, 12, .inl pl.2.1)), (p3, .inl (cI, 121, .inl (upd z.1 n 1000000000))), (p4, .inl (cI, 1452, .inl z.2.1)), (p5, .inl (cI, 12, .inl pl.2.2.2.2.1))] := hD
            refine lv_aload_n hx hb dX1_reckonStation_121 rfl (lv_at hl 1 rfl) ?_
            refine va_get (D := (dC, dI)) (ci := 1) (v := .ref p4) (C := RX1) (T := TX1) (N := 7) hx hb hts hiX1 hown hK hP 0 rfl rfl 3 (by decide) (hts (.fieldLink RX1 21 "TripReckoner$Planner" "fillTo" "[I") (by decide +kernel)) (fun _ h9 => h9) rfl dX1_reckonStation_122 ?_
            refine lv_iload hx hb dX1_reckonStation_125 (lv_at hl 4 rfl) ?_
            refine lv_iload hx hb dX1_reckonStation_127 (lv_at hl 7 rfl) ?_
            refine lv_iadd hx hb dX1_reckonStation_129 ?_
            refine lv_iload hx hb dX1_reckonStation_130 (lv_at hl 6 rfl) ?_
            refine va_iast hx hb hK hP hD hS 4 0 rfl rfl (sum_in (by omega) (by decide)) dX1_reckonStation_132 (fun H locs hP hD hS => ?_)
            rw [(sum_cl (by omega))] at hP hD
            have hP : va_P (dC, dI) vwCl [(p0, .inr (1, [.ref p1, .ref p2, .ref p3, .ref p4, .ref p5, .int pl.2.2.2.2.2.1, .int pl.2.2.2.2.2.2])), (p1, .inl (cI, 13, .inl pl.1)), (p2, .inl (cI, 12, .inl pl.2.1)), (p3, .inl (cI, 121, .inl (upd z.1 n 1000000000))), (p4, .inl (cI, 1452, .inl (upd z.2.1 (ro + n) z.2.2.2))), (p5, .inl (cI, 12, .inl pl.2.2.2.2.1))] H := hP
            have hD : va_D A [(p0, .inr (1, [.ref p1, .ref p2, .ref p3, .ref p4, .ref p5, .int pl.2.2.2.2.2.1, .int pl.2.2.2.2.2.2])), (p1, .inl (cI, 13, .inl pl.1)), (p2, .inl (cI, 12, .inl pl.2.1)), (p3, .inl (cI, 121, .inl (upd z.1 n 1000000000))), (p4, .inl (cI, 1452, .inl (upd z.2.1 (ro + n) z.2.2.2))), (p5, .inl (cI, 12, .inl pl.2.2.2.2.1))] := hD
            refine lv_iinc (v := nM n) (lv' := [(8, .int (nM n)), (9, .int (z.1 (((nI n) - (nI lg)).toNatClampNeg))), (0, .ref p0), (3, .int (nI lg)), (4, .int pr), (5, .int (nI ro)), (6, .int z.2.2.1), (7, .int z.2.2.2)]) hx hb dX1_reckonStation_133 hl (k := 7) rfl (nM_1 n) (by decide) rfl (fun ls hl => ?_)
            refine lv_goto (tgt := 33) hx hb dX1_reckonStation_136 (by decide) ?_
            have es : rs_step lg ro pr n z = (upd z.1 n 1000000000, upd z.2.1 (ro + n) z.2.2.2, z.2.2.1, z.2.2.2) := by rw [rs_step, if_neg c_2, if_neg c_5, if_pos c_7, if_pos c_8]
            exact ih (upd z.1 n 1000000000, upd z.2.1 (ro + n) z.2.2.2, z.2.2.1, z.2.2.2) (by omega) (by have k9 := kk; rw [rs_run_s, es] at k9; exact k9) _ _ _ hP hD hS (lv_sub hl [2, 3, 4, 5, 6, 7, 0] rfl)
          · refine lv_iload hx hb dX1_reckonStation_107 (lv_at hl 5 rfl) ?_
            refine lv_iload hx hb dX1_reckonStation_109 (lv_at hl 7 rfl) ?_
            refine lv_iload hx hb dX1_reckonStation_111 (lv_at hl 3 rfl) ?_
            refine lv_imul hx hb dX1_reckonStation_113 ?_
            refine lv_isub hx hb dX1_reckonStation_114 ?_
            refine lv_goto (tgt := 120) hx hb dX1_reckonStation_115 (by decide) ?_
            refine va_iast hx hb hK hP hD hS 3 0 rfl rfl (vp_in_nI (by omega) (by decide)) dX1_reckonStation_120 (fun H locs hP hD hS => ?_)
            rw [(nI_clamp (n := n) (by omega))] at hP hD
            have hP : va_P (dC, dI) vwCl [(p0, .inr (1, [.ref p1, .ref p2, .ref p3, .ref p4, .ref p5, .int pl.2.2.2.2.2.1, .int pl.2.2.2.2.2.2])), (p1, .inl (cI, 13, .inl pl.1)), (p2, .inl (cI, 12, .inl pl.2.1)), (p3, .inl (cI, 121, .inl (upd z.1 n (z.2.2.1 - ((nI n) * pr))))), (p4, .inl (cI, 1452, .inl z.2.1)), (p5, .inl (cI, 12, .inl pl.2.2.2.2.1))] H := hP
            have hD : va_D A [(p0, .inr (1, [.ref p1, .ref p2, .ref p3, .ref p4, .ref p5, .int pl.2.2.2.2.2.1, .int pl.2.2.2.2.2.2])), (p1, .inl (cI, 13, .inl pl.1)), (p2, .inl (cI, 12, .inl pl.2.1)), (p3, .inl (cI, 121, .inl (upd z.1 n (z.2.2.1 - ((nI n) * pr))))), (p4, .inl (cI, 1452, .inl z.2.1)), (p5, .inl (cI, 12, .inl pl.2.2.2.2.1))] := hD
            refine lv_aload_n hx hb dX1_reckonStation_121 rfl (lv_at hl 1 rfl) ?_
            refine va_get (D := (dC, dI)) (ci := 1) (v := .ref p4) (C := RX1) (T := TX1) (N := 7) hx hb hts hiX1 hown hK hP 0 rfl rfl 3 (by decide) (hts (.fieldLink RX1 21 "TripReckoner$Planner" "fillTo" "[I") (by decide +kernel)) (fun _ h9 => h9) rfl dX1_reckonStation_122 ?_
            refine lv_iload hx hb dX1_reckonStation_125 (lv_at hl 4 rfl) ?_
            refine lv_iload hx hb dX1_reckonStation_127 (lv_at hl 7 rfl) ?_
            refine lv_iadd hx hb dX1_reckonStation_129 ?_
            refine lv_iload hx hb dX1_reckonStation_130 (lv_at hl 6 rfl) ?_
            refine va_iast hx hb hK hP hD hS 4 0 rfl rfl (sum_in (by omega) (by decide)) dX1_reckonStation_132 (fun H locs hP hD hS => ?_)
            rw [(sum_cl (by omega))] at hP hD
            have hP : va_P (dC, dI) vwCl [(p0, .inr (1, [.ref p1, .ref p2, .ref p3, .ref p4, .ref p5, .int pl.2.2.2.2.2.1, .int pl.2.2.2.2.2.2])), (p1, .inl (cI, 13, .inl pl.1)), (p2, .inl (cI, 12, .inl pl.2.1)), (p3, .inl (cI, 121, .inl (upd z.1 n (z.2.2.1 - ((nI n) * pr))))), (p4, .inl (cI, 1452, .inl (upd z.2.1 (ro + n) z.2.2.2))), (p5, .inl (cI, 12, .inl pl.2.2.2.2.1))] H := hP
            have hD : va_D A [(p0, .inr (1, [.ref p1, .ref p2, .ref p3, .ref p4, .ref p5, .int pl.2.2.2.2.2.1, .int pl.2.2.2.2.2.2])), (p1, .inl (cI, 13, .inl pl.1)), (p2, .inl (cI, 12, .inl pl.2.1)), (p3, .inl (cI, 121, .inl (upd z.1 n (z.2.2.1 - ((nI n) * pr))))), (p4, .inl (cI, 1452, .inl (upd z.2.1 (ro + n) z.2.2.2))), (p5, .inl (cI, 12, .inl pl.2.2.2.2.1))] := hD
            refine lv_iinc (v := nM n) (lv' := [(8, .int (nM n)), (9, .int (z.1 (((nI n) - (nI lg)).toNatClampNeg))), (0, .ref p0), (3, .int (nI lg)), (4, .int pr), (5, .int (nI ro)), (6, .int z.2.2.1), (7, .int z.2.2.2)]) hx hb dX1_reckonStation_133 hl (k := 7) rfl (nM_1 n) (by decide) rfl (fun ls hl => ?_)
            refine lv_goto (tgt := 33) hx hb dX1_reckonStation_136 (by decide) ?_
            have es : rs_step lg ro pr n z = (upd z.1 n (z.2.2.1 - ((nI n) * pr)), upd z.2.1 (ro + n) z.2.2.2, z.2.2.1, z.2.2.2) := by rw [rs_step, if_neg c_2, if_neg c_5, if_pos c_7, if_neg c_8]
            exact ih (upd z.1 n (z.2.2.1 - ((nI n) * pr)), upd z.2.1 (ro + n) z.2.2.2, z.2.2.1, z.2.2.2) (by omega) (by have k9 := kk; rw [rs_run_s, es] at k9; exact k9) _ _ _ hP hD hS (lv_sub hl [2, 3, 4, 5, 6, 7, 0] rfl)
        · refine lv_iload hx hb dX1_reckonStation_80 (lv_at hl 0 rfl) ?_
          refine lv_iload hx hb dX1_reckonStation_82 (lv_at hl 7 rfl) ?_
          refine lv_iload hx hb dX1_reckonStation_84 (lv_at hl 3 rfl) ?_
          refine lv_imul hx hb dX1_reckonStation_86 ?_
          refine lv_iadd hx hb dX1_reckonStation_87 ?_
          refine lv_istore (lv' := [(6, .int ((z.1 (((nI n) - (nI lg)).toNatClampNeg)) + ((nI n) * pr))), (9, .int (z.1 (((nI n) - (nI lg)).toNatClampNeg))), (0, .ref p0), (3, .int (nI lg)), (4, .int pr), (5, .int (nI ro)), (7, .int z.2.2.2), (8, .int (nI n))]) hx hb dX1_reckonStation_88 hl (by decide) rfl (fun ls hl => ?_)
          refine lv_iload hx hb dX1_reckonStation_90 (lv_at hl 7 rfl) ?_
          refine lv_istore (lv' := [(7, .int (nI n)), (6, .int ((z.1 (((nI n) - (nI lg)).toNatClampNeg)) + ((nI n) * pr))), (9, .int (z.1 (((nI n) - (nI lg)).toNatClampNeg))), (0, .ref p0), (3, .int (nI lg)), (4, .int pr), (5, .int (nI ro)), (8, .int (nI n))]) hx hb dX1_reckonStation_92 hl (by decide) rfl (fun ls hl => ?_)
          refine lv_aload_n hx hb dX1_reckonStation_94 rfl (lv_at hl 3 rfl) ?_
          refine va_get (D := (dC, dI)) (ci := 1) (v := .ref p3) (C := RX1) (T := TX1) (N := 7) hx hb hts hiX1 hown hK hP 0 rfl rfl 2 (by decide) (hts (.fieldLink RX1 18 "TripReckoner$Planner" "toGo" "[I") (by decide +kernel)) (fun _ h9 => h9) rfl dX1_reckonStation_95 ?_
          refine lv_iload hx hb dX1_reckonStation_98 (lv_at hl 7 rfl) ?_
          refine lv_iload hx hb dX1_reckonStation_100 (lv_at hl 1 rfl) ?_
          refine lv_ldc hx hb hown (hts (.constant RX1 52 (1000000000)) (by decide +kernel)) dX1_reckonStation_102 ?_
          refine lv_icmp_ge (tgt := 118) hx hb dX1_reckonStation_104 (by decide) (fun c_9 => ?_) (fun c_9 => ?_)
          · refine lv_ldc hx hb hown (hts (.constant RX1 52 (1000000000)) (by decide +kernel)) dX1_reckonStation_118 ?_
            refine va_iast hx hb hK hP hD hS 3 0 rfl rfl (vp_in_nI (by omega) (by decide)) dX1_reckonStation_120 (fun H locs hP hD hS => ?_)
            rw [(nI_clamp (n := n) (by omega))] at hP hD
            have hP : va_P (dC, dI) vwCl [(p0, .inr (1, [.ref p1, .ref p2, .ref p3, .ref p4, .ref p5, .int pl.2.2.2.2.2.1, .int pl.2.2.2.2.2.2])), (p1, .inl (cI, 13, .inl pl.1)), (p2, .inl (cI, 12, .inl pl.2.1)), (p3, .inl (cI, 121, .inl (upd z.1 n 1000000000))), (p4, .inl (cI, 1452, .inl z.2.1)), (p5, .inl (cI, 12, .inl pl.2.2.2.2.1))] H := hP
            have hD : va_D A [(p0, .inr (1, [.ref p1, .ref p2, .ref p3, .ref p4, .ref p5, .int pl.2.2.2.2.2.1, .int pl.2.2.2.2.2.2])), (p1, .inl (cI, 13, .inl pl.1)), (p2, .inl (cI, 12, .inl pl.2.1)), (p3, .inl (cI, 121, .inl (upd z.1 n 1000000000))), (p4, .inl (cI, 1452, .inl z.2.1)), (p5, .inl (cI, 12, .inl pl.2.2.2.2.1))] := hD
            refine lv_aload_n hx hb dX1_reckonStation_121 rfl (lv_at hl 3 rfl) ?_
            refine va_get (D := (dC, dI)) (ci := 1) (v := .ref p4) (C := RX1) (T := TX1) (N := 7) hx hb hts hiX1 hown hK hP 0 rfl rfl 3 (by decide) (hts (.fieldLink RX1 21 "TripReckoner$Planner" "fillTo" "[I") (by decide +kernel)) (fun _ h9 => h9) rfl dX1_reckonStation_122 ?_
            refine lv_iload hx hb dX1_reckonStation_125 (lv_at hl 6 rfl) ?_
            refine lv_iload hx hb dX1_reckonStation_127 (lv_at hl 7 rfl) ?_
            refine lv_iadd hx hb dX1_reckonStation_129 ?_
            refine lv_iload hx hb dX1_reckonStation_130 (lv_at hl 0 rfl) ?_
            refine va_iast hx hb hK hP hD hS 4 0 rfl rfl (sum_in (by omega) (by decide)) dX1_reckonStation_132 (fun H locs hP hD hS => ?_)
            rw [(sum_cl (by omega))] at hP hD
            have hP : va_P (dC, dI) vwCl [(p0, .inr (1, [.ref p1, .ref p2, .ref p3, .ref p4, .ref p5, .int pl.2.2.2.2.2.1, .int pl.2.2.2.2.2.2])), (p1, .inl (cI, 13, .inl pl.1)), (p2, .inl (cI, 12, .inl pl.2.1)), (p3, .inl (cI, 121, .inl (upd z.1 n 1000000000))), (p4, .inl (cI, 1452, .inl (upd z.2.1 (ro + n) (nI n)))), (p5, .inl (cI, 12, .inl pl.2.2.2.2.1))] H := hP
            have hD : va_D A [(p0, .inr (1, [.ref p1, .ref p2, .ref p3, .ref p4, .ref p5, .int pl.2.2.2.2.2.1, .int pl.2.2.2.2.2.2])), (p1, .inl (cI, 13, .inl pl.1)), (p2, .inl (cI, 12, .inl pl.2.1)), (p3, .inl (cI, 121, .inl (upd z.1 n 1000000000))), (p4, .inl (cI, 1452, .inl (upd z.2.1 (ro + n) (nI n)))), (p5, .inl (cI, 12, .inl pl.2.2.2.2.1))] := hD
            refine lv_iinc (v := nM n) (lv' := [(8, .int (nM n)), (7, .int (nI n)), (6, .int ((z.1 (((nI n) - (nI lg)).toNatClampNeg)) + ((nI n) * pr))), (9, .int (z.1 (((nI n) - (nI lg)).toNatClampNeg))), (0, .ref p0), (3, .int (nI lg)), (4, .int pr), (5, .int (nI ro))]) hx hb dX1_reckonStation_133 hl (k := 7) rfl (nM_1 n) (by decide) rfl (fun ls hl => ?_)
            refine lv_goto (tgt := 33) hx hb dX1_reckonStation_136 (by decide) ?_
            have es : rs_step lg ro pr n z = (upd z.1 n 1000000000, upd z.2.1 (ro + n) (nI n), (z.1 (((nI n) - (nI lg)).toNatClampNeg)) + ((nI n) * pr), nI n) := by rw [rs_step, if_neg c_2, if_neg c_5, if_neg c_7, if_pos c_9]
            exact ih (upd z.1 n 1000000000, upd z.2.1 (ro + n) (nI n), (z.1 (((nI n) - (nI lg)).toNatClampNeg)) + ((nI n) * pr), nI n) (by omega) (by have k9 := kk; rw [rs_run_s, es] at k9; exact k9) _ _ _ hP hD hS (lv_sub hl [4, 5, 6, 7, 2, 1, 0] rfl)
          · refine lv_iload hx hb dX1_reckonStation_107 (lv_at hl 1 rfl) ?_
            refine lv_iload hx hb dX1_reckonStation_109 (lv_at hl 7 rfl) ?_
            refine lv_iload hx hb dX1_reckonStation_111 (lv_at hl 5 rfl) ?_
            refine lv_imul hx hb dX1_reckonStation_113 ?_
            refine lv_isub hx hb dX1_reckonStation_114 ?_
            refine lv_goto (tgt := 120) hx hb dX1_reckonStation_115 (by decide) ?_
            refine va_iast hx hb hK hP hD hS 3 0 rfl rfl (vp_in_nI (by omega) (by decide)) dX1_reckonStation_120 (fun H locs hP hD hS => ?_)
            rw [(nI_clamp (n := n) (by omega))] at hP hD
            have hP : va_P (dC, dI) vwCl [(p0, .inr (1, [.ref p1, .ref p2, .ref p3, .ref p4, .ref p5, .int pl.2.2.2.2.2.1, .int pl.2.2.2.2.2.2])), (p1, .inl (cI, 13, .inl pl.1)), (p2, .inl (cI, 12, .inl pl.2.1)), (p3, .inl (cI, 121, .inl (upd z.1 n (((z.1 (((nI n) - (nI lg)).toNatClampNeg)) + ((nI n) * pr)) - ((nI n) * pr))))), (p4, .inl (cI, 1452, .inl z.2.1)), (p5, .inl (cI, 12, .inl pl.2.2.2.2.1))] H := hP
            have hD : va_D A [(p0, .inr (1, [.ref p1, .ref p2, .ref p3, .ref p4, .ref p5, .int pl.2.2.2.2.2.1, .int pl.2.2.2.2.2.2])), (p1, .inl (cI, 13, .inl pl.1)), (p2, .inl (cI, 12, .inl pl.2.1)), (p3, .inl (cI, 121, .inl (upd z.1 n (((z.1 (((nI n) - (nI lg)).toNatClampNeg)) + ((nI n) * pr)) - ((nI n) * pr))))), (p4, .inl (cI, 1452, .inl z.2.1)), (p5, .inl (cI, 12, .inl pl.2.2.2.2.1))] := hD
            refine lv_aload_n hx hb dX1_reckonStation_121 rfl (lv_at hl 3 rfl) ?_
            refine va_get (D := (dC, dI)) (ci := 1) (v := .ref p4) (C := RX1) (T := TX1) (N := 7) hx hb hts hiX1 hown hK hP 0 rfl rfl 3 (by decide) (hts (.fieldLink RX1 21 "TripReckoner$Planner" "fillTo" "[I") (by decide +kernel)) (fun _ h9 => h9) rfl dX1_reckonStation_122 ?_
            refine lv_iload hx hb dX1_reckonStation_125 (lv_at hl 6 rfl) ?_
            refine lv_iload hx hb dX1_reckonStation_127 (lv_at hl 7 rfl) ?_
            refine lv_iadd hx hb dX1_reckonStation_129 ?_
            refine lv_iload hx hb dX1_reckonStation_130 (lv_at hl 0 rfl) ?_
            refine va_iast hx hb hK hP hD hS 4 0 rfl rfl (sum_in (by omega) (by decide)) dX1_reckonStation_132 (fun H locs hP hD hS => ?_)
            rw [(sum_cl (by omega))] at hP hD
            have hP : va_P (dC, dI) vwCl [(p0, .inr (1, [.ref p1, .ref p2, .ref p3, .ref p4, .ref p5, .int pl.2.2.2.2.2.1, .int pl.2.2.2.2.2.2])), (p1, .inl (cI, 13, .inl pl.1)), (p2, .inl (cI, 12, .inl pl.2.1)), (p3, .inl (cI, 121, .inl (upd z.1 n (((z.1 (((nI n) - (nI lg)).toNatClampNeg)) + ((nI n) * pr)) - ((nI n) * pr))))), (p4, .inl (cI, 1452, .inl (upd z.2.1 (ro + n) (nI n)))), (p5, .inl (cI, 12, .inl pl.2.2.2.2.1))] H := hP
            have hD : va_D A [(p0, .inr (1, [.ref p1, .ref p2, .ref p3, .ref p4, .ref p5, .int pl.2.2.2.2.2.1, .int pl.2.2.2.2.2.2])), (p1, .inl (cI, 13, .inl pl.1)), (p2, .inl (cI, 12, .inl pl.2.1)), (p3, .inl (cI, 121, .inl (upd z.1 n (((z.1 (((nI n) - (nI lg)).toNatClampNeg)) + ((nI n) * pr)) - ((nI n) * pr))))), (p4, .inl (cI, 1452, .inl (upd z.2.1 (ro + n) (nI n)))), (p5, .inl (cI, 12, .inl pl.2.2.2.2.1))] := hD
            refine lv_iinc (v := nM n) (lv' := [(8, .int (nM n)), (7, .int (nI n)), (6, .int ((z.1 (((nI n) - (nI lg)).toNatClampNeg)) + ((nI n) * pr))), (9, .int (z.1 (((nI n) - (nI lg)).toNatClampNeg))), (0, .ref p0), (3, .int (nI lg)), (4, .int pr), (5, .int (nI ro))]) hx hb dX1_reckonStation_133 hl (k := 7) rfl (nM_1 n) (by decide) rfl (fun ls hl => ?_)
            refine lv_goto (tgt := 33) hx hb dX1_reckonStation_136 (by decide) ?_
            have es : rs_step lg ro pr n z = (upd z.1 n (((z.1 (((nI n) - (nI lg)).toNatClampNeg)) + ((nI n) * pr)) - ((nI n) * pr)), upd z.2.1 (ro + n) (nI n), (z.1 (((nI n) - (nI lg)).toNatClampNeg)) + ((nI n) * pr), nI n) := by rw [rs_step, if_neg c_2, if_neg c_5, if_neg c_7, if_neg c_9]
            exact ih (upd z.1 n (((z.1 (((nI n) - (nI lg)).toNatClampNeg)) + ((nI n) * pr)) - ((nI n) * pr)), upd z.2.1 (ro + n) (nI n), (z.1 (((nI n) - (nI lg)).toNatClampNeg)) + ((nI n) * pr), nI n) (by omega) (by have k9 := kk; rw [rs_run_s, es] at k9; exact k9) _ _ _ hP hD hS (lv_sub hl [4, 5, 6, 7, 2, 1, 0] rfl)

def sX1_reckonStation (i : Nat) (r : Nat) (pl : PL) : PL :=
  (pl.1, pl.2.1, (st_Z i r pl).1, (st_Z i r pl).2.1, pl.2.2.2.2.1, pl.2.2.2.2.2.1, pl.2.2.2.2.2.2)
set_option maxHeartbeats 4000000 in
set_option maxRecDepth 100000 in
theorem kX1_reckonStation (l : Launch) (dC : Nat → ClassId) (dI : Nat → Nat → Nat) (cI cJ : ClassId) (p0 p1 p2 p3 p4 p5 : Nat) (sz : Nat) (i : Nat) (r : Nat) (pl : PL) (hi : i < 12) (hr : r ≤ 120) (hlg : 0 ≤ pl.1 (i + 1)) : Met l yX1_reckonStation wsX1_reckonStation ({ frames := 0, cells := 0, slots := 0, locals := 0 }) (va_Pc [.ref p0, .int (nI i), .int (nI r)] (fun U => U.heap.size = sz ∧ va_P (dC, dI) vwCl [cP0 p0 p1 p2 p3 p4 p5 pl, cP1 cI p1 pl, cP2 cI p2 pl, cP3 cI p3 pl, cP4 cI p4 pl, cP5 cI p5 pl] U.heap ∧ va_K (dC, dI) vwCl [(cI, .int), (cJ, .long)] U ∧ va_D (fun _ => True) [cP0 p0 p1 p2 p3 p4 p5 pl, cP1 cI p1 pl, cP2 cI p2 pl, cP3 cI p3 pl, cP4 cI p4 pl, cP5 cI p5 pl])) (va_Qv (fun _ : Unit => True) (fun _ t => va_P (dC, dI) vwCl [cP0 p0 p1 p2 p3 p4 p5 (sX1_reckonStation i r pl), cP1 cI p1 (sX1_reckonStation i r pl), cP2 cI p2 (sX1_reckonStation i r pl), cP3 cI p3 (sX1_reckonStation i r pl), cP4 cI p4 (sX1_reckonStation i r pl), cP5 cI p5 (sX1_reckonStation i r pl)] t.heap ∧ va_K (dC, dI) vwCl [(cI, .int), (cJ, .long)] t ∧ va_D (va_A [cP0 p0 p1 p2 p3 p4 p5 pl, cP1 cI p1 pl, cP2 cI p2 pl, cP3 cI p3 pl, cP4 cI p4 pl, cP5 cI p5 pl] sz) [cP0 p0 p1 p2 p3 p4 p5 (sX1_reckonStation i r pl), cP1 cI p1 (sX1_reckonStation i r pl), cP2 cI p2 (sX1_reckonStation i r pl), cP3 cI p3 (sX1_reckonStation i r pl), cP4 cI p4 (sX1_reckonStation i r pl), cP5 cI p5 (sX1_reckonStation i r pl)]) (va_A [cP0 p0 p1 p2 p3 p4 p5 pl, cP1 cI p1 pl, cP2 cI p2 pl, cP3 cI p3 pl, cP4 cI p4 pl, cP5 cI p5 pl] sz)) 0 0 (va_A [cP0 p0 p1 p2 p3 p4 p5 pl, cP1 cI p1 pl, cP2 cI p2 pl, cP3 cI p3 pl, cP4 cI p4 pl, cP5 cI p5 pl] sz) := by
  refine Met.ofW (cc := cX1_reckonStation) (maxL := 10) (ret := none) (by decide) rfl ?_
  intro p e s m args below meth c s₁ B hml hv
  obtain ⟨rfl, hsz, hP, hK, hD0⟩ := hv
  have hx := B.exec
  have hb := B.bytes
  have hr := B.returns
  have hts := atoms_spec (ws := wsX1_reckonStation) B.pre
  have hown : s.vm.findClass RX1 = some m.cls := findClass_of_methodNamed B.named
  have hlocks := B.notSynchronized
  have hiX1 : ∀ w ∈ u_ws RX1 TX1 7, w ∈ wsX1_reckonStation := by decide +kernel
  subst hsz
  have hD := hD0.self (sz := s.heap.size)
  generalize hAe : va_A [cP0 p0 p1 p2 p3 p4 p5 pl, cP1 cI p1 pl, cP2 cI p2 pl, cP3 cI p3 pl, cP4 cI p4 pl, cP5 cI p5 pl] s.heap.size = A at hD ⊢
  have hA : ∀ q : Nat, s.heap.size ≤ q → A q := fun q h => by rw [← hAe]; exact Or.inr h
  have hS : va_S A s.heap s.heap [] := va_S.rf
  have hl := lv_entry ([.ref p0, .int (nI i), .int (nI r)]) (n := 10) (Nat.le_of_ble_eq_true rfl)
  rw [lg_entry_eq]
  generalize (lg_sl ([.ref p0, .int (nI i), .int (nI r)]) ++ List.replicate (10 - (lg_sl ([.ref p0, .int (nI i), .int (nI r)])).length) Slot.unset).toArray = ls at hl ⊢
  have hl : lv_has ls 10 [(0, .ref p0), (1, .int (nI i)), (2, .int (nI r))] := hl
  have hP : va_P (dC, dI) vwCl [cP0 p0 p1 p2 p3 p4 p5 pl, cP1 cI p1 pl, cP2 cI p2 pl, cP3 cI p3 pl, cP4 cI p4 pl, cP5 cI p5 pl] s.heap := hP
  refine lv_aload_n hx hb dX1_reckonStation_0 rfl (lv_at hl 0 rfl) ?_
  refine va_get (D := (dC, dI)) (ci := 1) (v := .ref p1) (C := RX1) (T := TX1) (N := 7) hx hb hts hiX1 hown hK hP 0 rfl rfl 0 (by decide) (hts (.fieldLink RX1 11 "TripReckoner$Planner" "legs" "[I") (by decide +kernel)) (fun _ h9 => h9) rfl dX1_reckonStation_1 ?_
  refine lv_iload_n hx hb dX1_reckonStation_4 rfl (lv_at hl 1 rfl) ?_
  refine lv_iconst (v := 1) hx hb dX1_reckonStation_5 (by decide) ?_
  refine lv_iadd hx hb dX1_reckonStation_6 ?_
  refine lv_topi (fun z_1 ez_1 => ?_)
  obtain rfl : z_1 = nI (i + 1) := ez_1.trans (nI_1 i)
  refine va_iald hx hb hK hP 1 0 rfl rfl (vp_in_nI (by omega) (by decide)) dX1_reckonStation_7 ?_
  refine lv_topi (fun z_2 ez_2 => ?_)
  rw [(nI_clamp (n := i + 1) (by omega))] at ez_2
  subst ez_2
  refine lv_istore_n (lv' := [(3, .int (pl.1 (i + 1))), (0, .ref p0), (1, .int (nI i)), (2, .int (nI r))]) hx hb dX1_reckonStation_8 rfl hl (by decide) rfl (fun ls hl => ?_)
  refine lv_aload_n hx hb dX1_reckonStation_9 rfl (lv_at hl 1 rfl) ?_
  refine va_get (D := (dC, dI)) (ci := 1) (v := .ref p2) (C := RX1) (T := TX1) (N := 7) hx hb hts hiX1 hown hK hP 0 rfl rfl 1 (by decide) (hts (.fieldLink RX1 15 "TripReckoner$Planner" "prices" "[I") (by decide +kernel)) (fun _ h9 => h9) rfl dX1_reckonStation_10 ?_
  refine lv_iload_n hx hb dX1_reckonStation_13 rfl (lv_at hl 2 rfl) ?_
  refine va_iald hx hb hK hP 2 0 rfl rfl (vp_in_nI (by omega) (by decide)) dX1_reckonStation_14 ?_
  refine lv_topi (fun z_3 ez_3 => ?_)
  rw [(nI_clamp (n := i) (by omega))] at ez_3
  subst ez_3
  refine lv_istore (lv' := [(4, .int (pl.2.1 i)), (3, .int (pl.1 (i + 1))), (0, .ref p0), (1, .int (nI i)), (2, .int (nI r))]) hx hb dX1_reckonStation_15 hl (by decide) rfl (fun ls hl => ?_)
  refine lv_iload_n hx hb dX1_reckonStation_17 rfl (lv_at hl 3 rfl) ?_
  refine lv_bipush (v := 121) hx hb dX1_reckonStation_18 (by decide) ?_
  refine lv_imul hx hb dX1_reckonStation_20 ?_
  refine lv_topi (fun z_4 ez_4 => ?_)
  obtain rfl : z_4 = nI (i * 121) := ez_4.trans (pk_mul i 121)
  refine lv_istore (lv' := [(5, .int (nI (i * 121))), (4, .int (pl.2.1 i)), (3, .int (pl.1 (i + 1))), (0, .ref p0), (1, .int (nI i)), (2, .int (nI r))]) hx hb dX1_reckonStation_21 hl (by decide) rfl (fun ls hl => ?_)
  refine lv_ldc hx hb hown (hts (.constant RX1 52 (1000000000)) (by decide +kernel)) dX1_reckonStation_23 ?_
  refine lv_istore (lv' := [(6, .int 1000000000), (5, .int (nI (i * 121))), (4, .int (pl.2.1 i)), (3, .int (pl.1 (i + 1))), (0, .ref p0), (1, .int (nI i)), (2, .int (nI r))]) hx hb dX1_reckonStation_25 hl (by decide) rfl (fun ls hl => ?_)
  refine lv_iload_n hx hb dX1_reckonStation_27 rfl (lv_at hl 6 rfl) ?_
  refine lv_istore (lv' := [(7, .int (nI r)), (6, .int 1000000000), (5, .int (nI (i * 121))), (4, .int (pl.2.1 i)), (3, .int (pl.1 (i + 1))), (0, .ref p0), (1, .int (nI i)), (2, .int (nI r))]) hx hb dX1_reckonStation_28 hl (by decide) rfl (fun ls hl => ?_)
  refine lv_iload_n hx hb dX1_reckonStation_30 rfl (lv_at hl 7 rfl) ?_
  refine lv_istore (lv' := [(8, .int (nI r)), (7, .int (nI r)), (6, .int 1000000000), (5, .int (nI (i * 121))), (4, .int (pl.2.1 i)), (3, .int (pl.1 (i + 1))), (0, .ref p0), (1, .int (nI i)), (2, .int (nI r))]) hx hb dX1_reckonStation_31 hl (by decide) rfl (fun ls hl => ?_)
  have hl : lv_has ls 10 [(0, .ref p0), (3, .int (pl.1 (i + 1))), (4, .int (pl.2.1 i)), (5, .int (nI (i * 121))), (6, .int 1000000000), (7, .int (nI r)), (8, .int (nI r))] := lv_sub hl [6, 5, 4, 3, 2, 1, 0] rfl
  rw [i_cl hlg] at hl
  refine f_station (pr := pl.2.1 i) hx hb hml hown hts hA hK (cl_lt _) (ro := i * 121) (by omega) (r + 1) (pl.2.2.1, pl.2.2.2.1, 1000000000, nI r) (by omega) (fun H locs ls hP hD hS hl => ?_) _ _ _ hP hD hS (by rw [nM_s]; exact hl)
  have hP : va_P (dC, dI) vwCl [(p0, .inr (1, [.ref p1, .ref p2, .ref p3, .ref p4, .ref p5, .int pl.2.2.2.2.2.1, .int pl.2.2.2.2.2.2])), (p1, .inl (cI, 13, .inl pl.1)), (p2, .inl (cI, 12, .inl pl.2.1)), (p3, .inl (cI, 121, .inl ((st_Z i r pl).1))), (p4, .inl (cI, 1452, .inl ((st_Z i r pl).2.1))), (p5, .inl (cI, 12, .inl pl.2.2.2.2.1))] H := hP
  have hD : va_D A [(p0, .inr (1, [.ref p1, .ref p2, .ref p3, .ref p4, .ref p5, .int pl.2.2.2.2.2.1, .int pl.2.2.2.2.2.2])), (p1, .inl (cI, 13, .inl pl.1)), (p2, .inl (cI, 12, .inl pl.2.1)), (p3, .inl (cI, 121, .inl ((st_Z i r pl).1))), (p4, .inl (cI, 1452, .inl ((st_Z i r pl).2.1))), (p5, .inl (cI, 12, .inl pl.2.2.2.2.1))] := hD
  have es0 : sX1_reckonStation i r pl = (pl.1, pl.2.1, (st_Z i r pl).1, (st_Z i r pl).2.1, pl.2.2.2.2.1, pl.2.2.2.2.2.1, pl.2.2.2.2.2.2) := by rw [sX1_reckonStation]
  refine W.vret hx hb hr (fun t ht hW => ⟨⟨(), rfl, trivial, ?_⟩, hS.F ht⟩) hS.2.2 dX1_reckonStation_139
  rw [es0]; exact ⟨by rw [ht]; exact hP, va_K.moved hW.alike hK, hD⟩
