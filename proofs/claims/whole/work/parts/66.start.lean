theorem arr_K {ty : FieldType} {args : Array Value} {s : State} (h : (Cond.arrayClass ty).before args s = true) : ∃ cA, ArrOfT s cA ty ∧ s.vm.findClass ("[" ++ ty.toString) = some cA := by
  obtain ⟨cA, kA, comp, h1, h2, h3⟩ := Cond.arrayClass_spec h
  exact ⟨cA, fun n z => ⟨fun k h => (by cases h), kA, h2, comp, h3⟩, h1⟩
theorem str_R {own tx : String} {k : Nat} {args : Array Value} {s : State} (h1 : (Cond.stringRef own k tx).before args s = true) (h2 : (Cond.exactly (.string own k) "java/lang/String").before args s = true) : ∃ sa, vk_R own k tx sa s := by
  obtain ⟨a, c, cA, kA, q1, -⟩ := Cond.exactly_spec (args := args) (first := s) (o := none) (s := s) (idx := []) (t := .string own k) (cls := "java/lang/String") h2
  exact ⟨a, vk_R.of h1 q1⟩
theorem nwL_tbl : ∀ w ∈ nwL, w ∈ lw_tbl := by decide +kernel
theorem xbL_tbl : ∀ w ∈ xbL, w ∈ lw_tbl := by decide +kernel
theorem lw_C {p : Program} {s : State} {m : MethodId} {meth : Method} {c : Code} {b L : Nat} {xs : Nat → Int32} (C0 : lw_At p s m meth c b L xs) : ∃ (dC : Nat → ClassId) (dI : Nat → Nat → Nat) (cI cJ : ClassId), lwC p s m c (fun q : Nat => s.heap.size ≤ q) dC dI cI cJ b L xs := by
  obtain ⟨hx, hb, hr, hml, hown, hts0, hX, hbl, hlocks, hgv⟩ := C0
  have hts : ∀ w ∈ wsY_law, w.before #[Value.ref b] s = true := fun w hw => hts0 w (wl_in w hw)
  have hfl := flat_of_before _ hgv
  obtain ⟨cX0, iX0, kX0⟩ := u_known (C := RX0) (T := TX0) (N := 15) (n := 15) hts (by decide +kernel) (hts (.instantiable RX0 15) (by decide +kernel))
  obtain ⟨cX1, iX1, kX1⟩ := u_known (C := RX1) (T := TX1) (N := 7) (n := 7) hts (by decide +kernel) (hts (.instantiable RX1 7) (by decide +kernel))
  obtain ⟨cX2, iX2, kX2⟩ := u_known (C := RX2) (T := TX2) (N := 2) (n := 2) hts (by decide +kernel) (hts (.instantiable RX2 2) (by decide +kernel))
  obtain ⟨cX3, iX3, kX3⟩ := u_known (C := RX3) (T := TX3) (N := 12) (n := 12) hts (by decide +kernel) (hts (.instantiable RX3 12) (by decide +kernel))
  obtain ⟨cX4, iX4, kX4⟩ := u_known (C := RX4) (T := TX4) (N := 17) (n := 17) hts (by decide +kernel) (hts (.instantiable RX4 17) (by decide +kernel))
  obtain ⟨cI, aI, fI⟩ := arr_K (hts (.arrayClass .int) (by decide +kernel))
  obtain ⟨cJ, aJ, fJ⟩ := arr_K (hts (.arrayClass .long) (by decide +kernel))
  refine ⟨fun k => if k = 0 then cX0 else if k = 1 then cX1 else if k = 2 then cX2 else if k = 3 then cX3 else cX4, fun k => if k = 0 then iX0 else if k = 1 then iX1 else if k = 2 then iX2 else if k = 3 then iX3 else iX4, cI, cJ, hx, hb, hml, hown, hts, hX, hbl, Nat.not_le.mpr hbl, fun _ h => h, ⟨?_, ?_⟩, ?_, ?_⟩
  · intro k q hq
    match k, hq with
    | 0, hq => cases hq; exact kX0
    | 1, hq => cases hq; exact kX1
    | 2, hq => cases hq; exact kX2
    | 3, hq => cases hq; exact kX3
    | 4, hq => cases hq; exact kX4
    | k + 5, hq => simp [vwCl] at hq
  · intro k q hq
    match k, hq with
    | 0, hq => cases hq; exact ⟨aI, fI⟩
    | 1, hq => cases hq; exact ⟨aJ, fJ⟩
    | k + 2, hq => simp at hq
  · exact fun w hw => va_Nw.of (nw_ok_tab (List.all_eq_true.mp nwL_ok w hw)) (hts0 w (nwL_tbl w hw))
  · refine ⟨fun w hw => va_Nw.of (List.all_eq_true.mp xbL_tab w hw) (hts0 w (xbL_tbl w hw)), ?_, ?_, ?_, ?_, ?_, ?_⟩
    · exact str_R (hts0 (.stringRef RX3 143 "no such mark or number") (by decide +kernel)) (hfl (.exactly (.string RX3 143) "java/lang/String") (by decide +kernel))
    · exact str_R (hts0 (.stringRef RX3 152 "no such mark") (by decide +kernel)) (hfl (.exactly (.string RX3 152) "java/lang/String") (by decide +kernel))
    · exact str_R (hts0 (.stringRef RX3 160 "no kilometres") (by decide +kernel)) (hfl (.exactly (.string RX3 160) "java/lang/String") (by decide +kernel))
    · exact str_R (hts0 (.stringRef RX3 177 "no such refill") (by decide +kernel)) (hfl (.exactly (.string RX3 177) "java/lang/String") (by decide +kernel))
    · exact vx_Zqof (hts0 (.laysStatic Bundle.tN "UNASSIGNED_STACK" Bundle.steD) (by decide +kernel)) (hts0 (.initialized Bundle.tN) (by decide +kernel)) (hfl (.isRef (.static Bundle.tN "UNASSIGNED_STACK" Bundle.steD)) (by decide +kernel)) (fun a h => Nat.not_le.mpr h)
    · exact vx_Zqof (hts0 (.laysStatic Bundle.tN "SUPPRESSED_SENTINEL" Bundle.listD) (by decide +kernel)) (hts0 (.initialized Bundle.tN) (by decide +kernel)) (hfl (.isRef (.static Bundle.tN "SUPPRESSED_SENTINEL" Bundle.listD)) (by decide +kernel)) (fun a h => Nat.not_le.mpr h)
