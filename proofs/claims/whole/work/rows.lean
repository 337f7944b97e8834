section
-- ===== PART A: goes FIRST, ahead of the names: the tables' words, and 'selects' of the private methods out of them =====
/-- a private method of a class that the tables say can be made, by its rows of tables_1 -/
def lw_okq (q : MethodName × Nat) : Prop := (q.1.cls ≠ "java/lang/invoke/MethodHandle" ∧ q.1.cls ≠ "java/lang/invoke/VarHandle") ∧ Cond.instantiable q.1.cls q.2 ∈ tables_1 ∧ Cond.privateMethod q.1 ∈ tables_1 ∧ Cond.instanceMethod q.1 ∈ tables_1
theorem lw_p0 : lw_okq (⟨"TripReckoner$Ledger", "begin", "(I)V"⟩, 15) := ⟨⟨by decide +kernel, by decide +kernel⟩, List.mem_of_getElem? (i := 22) (by decide +kernel), List.mem_of_getElem? (i := 128) (by decide +kernel), List.mem_of_getElem? (i := 129) (by decide +kernel)⟩
theorem lw_p1 : lw_okq (⟨"TripReckoner$Ledger", "clearMark", "(I)V"⟩, 15) := ⟨⟨by decide +kernel, by decide +kernel⟩, List.mem_of_getElem? (i := 22) (by decide +kernel), List.mem_of_getElem? (i := 132) (by decide +kernel), List.mem_of_getElem? (i := 133) (by decide +kernel)⟩
theorem lw_p2 : lw_okq (⟨"TripReckoner$Tape", "hasRoom", "()Z"⟩, 2) := ⟨⟨by decide +kernel, by decide +kernel⟩, List.mem_of_getElem? (i := 83) (by decide +kernel), List.mem_of_getElem? (i := 177) (by decide +kernel), List.mem_of_getElem? (i := 178) (by decide +kernel)⟩
theorem lw_p3 : lw_okq (⟨"TripReckoner$Tape", "push", "(I)V"⟩, 2) := ⟨⟨by decide +kernel, by decide +kernel⟩, List.mem_of_getElem? (i := 83) (by decide +kernel), List.mem_of_getElem? (i := 181) (by decide +kernel), List.mem_of_getElem? (i := 182) (by decide +kernel)⟩
theorem lw_p4 : lw_okq (⟨"TripReckoner$Tape", "shorten", "(I)Z"⟩, 2) := ⟨⟨by decide +kernel, by decide +kernel⟩, List.mem_of_getElem? (i := 83) (by decide +kernel), List.mem_of_getElem? (i := 189) (by decide +kernel), List.mem_of_getElem? (i := 190) (by decide +kernel)⟩
theorem lw_p5 : lw_okq (⟨"TripReckoner$Ledger", "pass", "(IIIII)V"⟩, 15) := ⟨⟨by decide +kernel, by decide +kernel⟩, List.mem_of_getElem? (i := 22) (by decide +kernel), List.mem_of_getElem? (i := 214) (by decide +kernel), List.mem_of_getElem? (i := 215) (by decide +kernel)⟩
theorem lw_p6 : lw_okq (⟨"TripReckoner$Ledger", "burn", "(I)V"⟩, 15) := ⟨⟨by decide +kernel, by decide +kernel⟩, List.mem_of_getElem? (i := 22) (by decide +kernel), List.mem_of_getElem? (i := 218) (by decide +kernel), List.mem_of_getElem? (i := 219) (by decide +kernel)⟩
theorem lw_p7 : lw_okq (⟨"TripReckoner$Ledger", "showStep", "()V"⟩, 15) := ⟨⟨by decide +kernel, by decide +kernel⟩, List.mem_of_getElem? (i := 22) (by decide +kernel), List.mem_of_getElem? (i := 225) (by decide +kernel), List.mem_of_getElem? (i := 226) (by decide +kernel)⟩
theorem lw_p8 : lw_okq (⟨"TripReckoner$Ledger", "truth", "()I"⟩, 15) := ⟨⟨by decide +kernel, by decide +kernel⟩, List.mem_of_getElem? (i := 22) (by decide +kernel), List.mem_of_getElem? (i := 229) (by decide +kernel), List.mem_of_getElem? (i := 230) (by decide +kernel)⟩
theorem lw_p9 : lw_okq (⟨"TripReckoner", "gapFits", "(I)Z"⟩, 12) := ⟨⟨by decide +kernel, by decide +kernel⟩, List.mem_of_getElem? (i := 14) (by decide +kernel), List.mem_of_getElem? (i := 240) (by decide +kernel), List.mem_of_getElem? (i := 241) (by decide +kernel)⟩
theorem lw_p10 : lw_okq (⟨"TripReckoner", "passGap", "(I)V"⟩, 12) := ⟨⟨by decide +kernel, by decide +kernel⟩, List.mem_of_getElem? (i := 14) (by decide +kernel), List.mem_of_getElem? (i := 245) (by decide +kernel), List.mem_of_getElem? (i := 246) (by decide +kernel)⟩
theorem lw_p11 : lw_okq (⟨"TripReckoner$Ledger", "doubt", "(I)V"⟩, 15) := ⟨⟨by decide +kernel, by decide +kernel⟩, List.mem_of_getElem? (i := 22) (by decide +kernel), List.mem_of_getElem? (i := 249) (by decide +kernel), List.mem_of_getElem? (i := 250) (by decide +kernel)⟩
theorem lw_p12 : lw_okq (⟨"TripReckoner$Ledger", "takeRefill", "(II)V"⟩, 15) := ⟨⟨by decide +kernel, by decide +kernel⟩, List.mem_of_getElem? (i := 22) (by decide +kernel), List.mem_of_getElem? (i := 261) (by decide +kernel), List.mem_of_getElem? (i := 262) (by decide +kernel)⟩
theorem lw_p13 : lw_okq (⟨"TripReckoner$Ledger", "takeFloat", "(II)V"⟩, 15) := ⟨⟨by decide +kernel, by decide +kernel⟩, List.mem_of_getElem? (i := 22) (by decide +kernel), List.mem_of_getElem? (i := 265) (by decide +kernel), List.mem_of_getElem? (i := 266) (by decide +kernel)⟩
theorem lw_p14 : lw_okq (⟨"TripReckoner$Ledger", "takeLoss", "(II)V"⟩, 15) := ⟨⟨by decide +kernel, by decide +kernel⟩, List.mem_of_getElem? (i := 22) (by decide +kernel), List.mem_of_getElem? (i := 269) (by decide +kernel), List.mem_of_getElem? (i := 270) (by decide +kernel)⟩
theorem lw_p15 : lw_okq (⟨"TripReckoner$Ledger", "narrow", "(II)V"⟩, 15) := ⟨⟨by decide +kernel, by decide +kernel⟩, List.mem_of_getElem? (i := 22) (by decide +kernel), List.mem_of_getElem? (i := 273) (by decide +kernel), List.mem_of_getElem? (i := 274) (by decide +kernel)⟩
def lw_privs_1 : List (MethodName × Nat) := [(⟨"TripReckoner$Ledger", "begin", "(I)V"⟩, 15), (⟨"TripReckoner$Ledger", "clearMark", "(I)V"⟩, 15), (⟨"TripReckoner$Tape", "hasRoom", "()Z"⟩, 2), (⟨"TripReckoner$Tape", "push", "(I)V"⟩, 2), (⟨"TripReckoner$Tape", "shorten", "(I)Z"⟩, 2), (⟨"TripReckoner$Ledger", "pass", "(IIIII)V"⟩, 15), (⟨"TripReckoner$Ledger", "burn", "(I)V"⟩, 15), (⟨"TripReckoner$Ledger", "showStep", "()V"⟩, 15), (⟨"TripReckoner$Ledger", "truth", "()I"⟩, 15), (⟨"TripReckoner", "gapFits", "(I)Z"⟩, 12), (⟨"TripReckoner", "passGap", "(I)V"⟩, 12), (⟨"TripReckoner$Ledger", "doubt", "(I)V"⟩, 15), (⟨"TripReckoner$Ledger", "takeRefill", "(II)V"⟩, 15), (⟨"TripReckoner$Ledger", "takeFloat", "(II)V"⟩, 15), (⟨"TripReckoner$Ledger", "takeLoss", "(II)V"⟩, 15), (⟨"TripReckoner$Ledger", "narrow", "(II)V"⟩, 15)]
theorem lw_r1 : ∀ q ∈ lw_privs_1, lw_okq q := List.forall_mem_cons.mpr ⟨lw_p0, List.forall_mem_cons.mpr ⟨lw_p1, List.forall_mem_cons.mpr ⟨lw_p2, List.forall_mem_cons.mpr ⟨lw_p3, List.forall_mem_cons.mpr ⟨lw_p4, List.forall_mem_cons.mpr ⟨lw_p5, List.forall_mem_cons.mpr ⟨lw_p6, List.forall_mem_cons.mpr ⟨lw_p7, List.forall_mem_cons.mpr ⟨lw_p8, List.forall_mem_cons.mpr ⟨lw_p9, List.forall_mem_cons.mpr ⟨lw_p10, List.forall_mem_cons.mpr ⟨lw_p11, List.forall_mem_cons.mpr ⟨lw_p12, List.forall_mem_cons.mpr ⟨lw_p13, List.forall_mem_cons.mpr ⟨lw_p14, List.forall_mem_cons.mpr ⟨lw_p15, fun _ h => absurd h List.not_mem_nil⟩⟩⟩⟩⟩⟩⟩⟩⟩⟩⟩⟩⟩⟩⟩⟩
theorem lw_p16 : lw_okq (⟨"TripReckoner$Ledger", "settle", "()V"⟩, 15) := ⟨⟨by decide +kernel, by decide +kernel⟩, List.mem_of_getElem? (i := 22) (by decide +kernel), List.mem_of_getElem? (i := 278) (by decide +kernel), List.mem_of_getElem? (i := 279) (by decide +kernel)⟩
theorem lw_p17 : lw_okq (⟨"TripReckoner$Ledger", "copyFrom", "(LTripReckoner$Ledger;)V"⟩, 15) := ⟨⟨by decide +kernel, by decide +kernel⟩, List.mem_of_getElem? (i := 22) (by decide +kernel), List.mem_of_getElem? (i := 301) (by decide +kernel), List.mem_of_getElem? (i := 302) (by decide +kernel)⟩
theorem lw_p18 : lw_okq (⟨"TripReckoner$Planner", "read", "(LTripReckoner$Tape;I)Z"⟩, 7) := ⟨⟨by decide +kernel, by decide +kernel⟩, List.mem_of_getElem? (i := 99) (by decide +kernel), List.mem_of_getElem? (i := 328) (by decide +kernel), List.mem_of_getElem? (i := 329) (by decide +kernel)⟩
theorem lw_p19 : lw_okq (⟨"TripReckoner$Planner", "reckon", "(II)I"⟩, 7) := ⟨⟨by decide +kernel, by decide +kernel⟩, List.mem_of_getElem? (i := 99) (by decide +kernel), List.mem_of_getElem? (i := 332) (by decide +kernel), List.mem_of_getElem? (i := 333) (by decide +kernel)⟩
theorem lw_p20 : lw_okq (⟨"TripReckoner$Planner", "reckonBackwards", "(I)V"⟩, 7) := ⟨⟨by decide +kernel, by decide +kernel⟩, List.mem_of_getElem? (i := 99) (by decide +kernel), List.mem_of_getElem? (i := 337) (by decide +kernel), List.mem_of_getElem? (i := 338) (by decide +kernel)⟩
theorem lw_p21 : lw_okq (⟨"TripReckoner$Planner", "reckonStation", "(II)V"⟩, 7) := ⟨⟨by decide +kernel, by decide +kernel⟩, List.mem_of_getElem? (i := 99) (by decide +kernel), List.mem_of_getElem? (i := 341) (by decide +kernel), List.mem_of_getElem? (i := 342) (by decide +kernel)⟩
theorem lw_p22 : lw_okq (⟨"TripReckoner$Planner", "buyForwards", "(I)V"⟩, 7) := ⟨⟨by decide +kernel, by decide +kernel⟩, List.mem_of_getElem? (i := 99) (by decide +kernel), List.mem_of_getElem? (i := 346) (by decide +kernel), List.mem_of_getElem? (i := 347) (by decide +kernel)⟩
theorem lw_p23 : lw_okq (⟨"TripReckoner$Planner", "boughtAt", "(I)I"⟩, 7) := ⟨⟨by decide +kernel, by decide +kernel⟩, List.mem_of_getElem? (i := 99) (by decide +kernel), List.mem_of_getElem? (i := 354) (by decide +kernel), List.mem_of_getElem? (i := 355) (by decide +kernel)⟩
theorem lw_p24 : lw_okq (⟨"java/lang/Throwable", "fillInStackTrace", "(I)Ljava/lang/Throwable;"⟩, 6) := ⟨⟨by decide +kernel, by decide +kernel⟩, List.mem_of_getElem? (i := 406) (by decide +kernel), List.mem_of_getElem? (i := 404) (by decide +kernel), List.mem_of_getElem? (i := 405) (by decide +kernel)⟩
theorem lw_p25 : lw_okq (⟨"TripReckoner$Ledger", "marked", "(II)J"⟩, 15) := ⟨⟨by decide +kernel, by decide +kernel⟩, List.mem_of_getElem? (i := 22) (by decide +kernel), List.mem_of_getElem? (i := 436) (by decide +kernel), List.mem_of_getElem? (i := 437) (by decide +kernel)⟩
theorem lw_p26 : lw_okq (⟨"TripReckoner", "wayInHundredths", "(IZ)J"⟩, 12) := ⟨⟨by decide +kernel, by decide +kernel⟩, List.mem_of_getElem? (i := 14) (by decide +kernel), List.mem_of_getElem? (i := 448) (by decide +kernel), List.mem_of_getElem? (i := 449) (by decide +kernel)⟩
theorem lw_p27 : lw_okq (⟨"TripReckoner$Ledger", "tellsRefill", "(I)Z"⟩, 15) := ⟨⟨by decide +kernel, by decide +kernel⟩, List.mem_of_getElem? (i := 22) (by decide +kernel), List.mem_of_getElem? (i := 472) (by decide +kernel), List.mem_of_getElem? (i := 473) (by decide +kernel)⟩
theorem lw_p28 : lw_okq (⟨"TripReckoner$Ledger", "amount", "(IZ)I"⟩, 15) := ⟨⟨by decide +kernel, by decide +kernel⟩, List.mem_of_getElem? (i := 22) (by decide +kernel), List.mem_of_getElem? (i := 477) (by decide +kernel), List.mem_of_getElem? (i := 478) (by decide +kernel)⟩
theorem lw_p29 : lw_okq (⟨"TripReckonerModel", "come", "(I)V"⟩, 17) := ⟨⟨by decide +kernel, by decide +kernel⟩, List.mem_of_getElem? (i := 481) (by decide +kernel), List.mem_of_getElem? (i := 548) (by decide +kernel), List.mem_of_getElem? (i := 549) (by decide +kernel)⟩
theorem lw_p30 : lw_okq (⟨"TripReckonerModel", "begin", "()V"⟩, 17) := ⟨⟨by decide +kernel, by decide +kernel⟩, List.mem_of_getElem? (i := 481) (by decide +kernel), List.mem_of_getElem? (i := 564) (by decide +kernel), List.mem_of_getElem? (i := 565) (by decide +kernel)⟩
theorem lw_p31 : lw_okq (⟨"TripReckonerModel", "copy", "()V"⟩, 17) := ⟨⟨by decide +kernel, by decide +kernel⟩, List.mem_of_getElem? (i := 481) (by decide +kernel), List.mem_of_getElem? (i := 568) (by decide +kernel), List.mem_of_getElem? (i := 569) (by decide +kernel)⟩
def lw_privs_2 : List (MethodName × Nat) := [(⟨"TripReckoner$Ledger", "settle", "()V"⟩, 15), (⟨"TripReckoner$Ledger", "copyFrom", "(LTripReckoner$Ledger;)V"⟩, 15), (⟨"TripReckoner$Planner", "read", "(LTripReckoner$Tape;I)Z"⟩, 7), (⟨"TripReckoner$Planner", "reckon", "(II)I"⟩, 7), (⟨"TripReckoner$Planner", "reckonBackwards", "(I)V"⟩, 7), (⟨"TripReckoner$Planner", "reckonStation", "(II)V"⟩, 7), (⟨"TripReckoner$Planner", "buyForwards", "(I)V"⟩, 7), (⟨"TripReckoner$Planner", "boughtAt", "(I)I"⟩, 7), (⟨"java/lang/Throwable", "fillInStackTrace", "(I)Ljava/lang/Throwable;"⟩, 6), (⟨"TripReckoner$Ledger", "marked", "(II)J"⟩, 15), (⟨"TripReckoner", "wayInHundredths", "(IZ)J"⟩, 12), (⟨"TripReckoner$Ledger", "tellsRefill", "(I)Z"⟩, 15), (⟨"TripReckoner$Ledger", "amount", "(IZ)I"⟩, 15), (⟨"TripReckonerModel", "come", "(I)V"⟩, 17), (⟨"TripReckonerModel", "begin", "()V"⟩, 17), (⟨"TripReckonerModel", "copy", "()V"⟩, 17)]
theorem lw_r2 : ∀ q ∈ lw_privs_2, lw_okq q := List.forall_mem_cons.mpr ⟨lw_p16, List.forall_mem_cons.mpr ⟨lw_p17, List.forall_mem_cons.mpr ⟨lw_p18, List.forall_mem_cons.mpr ⟨lw_p19, List.forall_mem_cons.mpr ⟨lw_p20, List.forall_mem_cons.mpr ⟨lw_p21, List.forall_mem_cons.mpr ⟨lw_p22, List.forall_mem_cons.mpr ⟨lw_p23, List.forall_mem_cons.mpr ⟨lw_p24, List.forall_mem_cons.mpr ⟨lw_p25, List.forall_mem_cons.mpr ⟨lw_p26, List.forall_mem_cons.mpr ⟨lw_p27, List.forall_mem_cons.mpr ⟨lw_p28, List.forall_mem_cons.mpr ⟨lw_p29, List.forall_mem_cons.mpr ⟨lw_p30, List.forall_mem_cons.mpr ⟨lw_p31, fun _ h => absurd h List.not_mem_nil⟩⟩⟩⟩⟩⟩⟩⟩⟩⟩⟩⟩⟩⟩⟩⟩
theorem lw_p32 : lw_okq (⟨"TripReckonerModel", "runs", "(JJJJJ)V"⟩, 17) := ⟨⟨by decide +kernel, by decide +kernel⟩, List.mem_of_getElem? (i := 481) (by decide +kernel), List.mem_of_getElem? (i := 585) (by decide +kernel), List.mem_of_getElem? (i := 586) (by decide +kernel)⟩
theorem lw_p33 : lw_okq (⟨"TripReckonerModel", "step", "()V"⟩, 17) := ⟨⟨by decide +kernel, by decide +kernel⟩, List.mem_of_getElem? (i := 481) (by decide +kernel), List.mem_of_getElem? (i := 589) (by decide +kernel), List.mem_of_getElem? (i := 590) (by decide +kernel)⟩
theorem lw_p34 : lw_okq (⟨"TripReckonerModel", "truth", "()J"⟩, 17) := ⟨⟨by decide +kernel, by decide +kernel⟩, List.mem_of_getElem? (i := 481) (by decide +kernel), List.mem_of_getElem? (i := 593) (by decide +kernel), List.mem_of_getElem? (i := 594) (by decide +kernel)⟩
theorem lw_p35 : lw_okq (⟨"TripReckonerModel", "mayGap", "(I)Z"⟩, 17) := ⟨⟨by decide +kernel, by decide +kernel⟩, List.mem_of_getElem? (i := 481) (by decide +kernel), List.mem_of_getElem? (i := 602) (by decide +kernel), List.mem_of_getElem? (i := 603) (by decide +kernel)⟩
theorem lw_p36 : lw_okq (⟨"TripReckonerModel", "gaps", "(I)V"⟩, 17) := ⟨⟨by decide +kernel, by decide +kernel⟩, List.mem_of_getElem? (i := 481) (by decide +kernel), List.mem_of_getElem? (i := 607) (by decide +kernel), List.mem_of_getElem? (i := 608) (by decide +kernel)⟩
theorem lw_p37 : lw_okq (⟨"TripReckonerModel", "clear", "(I)V"⟩, 17) := ⟨⟨by decide +kernel, by decide +kernel⟩, List.mem_of_getElem? (i := 481) (by decide +kernel), List.mem_of_getElem? (i := 623) (by decide +kernel), List.mem_of_getElem? (i := 624) (by decide +kernel)⟩
theorem lw_p38 : lw_okq (⟨"TripReckonerModel", "settle", "()V"⟩, 17) := ⟨⟨by decide +kernel, by decide +kernel⟩, List.mem_of_getElem? (i := 481) (by decide +kernel), List.mem_of_getElem? (i := 632) (by decide +kernel), List.mem_of_getElem? (i := 633) (by decide +kernel)⟩
theorem lw_p39 : lw_okq (⟨"TripReckonerModel", "jump", "()V"⟩, 17) := ⟨⟨by decide +kernel, by decide +kernel⟩, List.mem_of_getElem? (i := 481) (by decide +kernel), List.mem_of_getElem? (i := 640) (by decide +kernel), List.mem_of_getElem? (i := 641) (by decide +kernel)⟩
theorem lw_p40 : lw_okq (⟨"TripReckonerModel", "refuse", "()I"⟩, 17) := ⟨⟨by decide +kernel, by decide +kernel⟩, List.mem_of_getElem? (i := 481) (by decide +kernel), List.mem_of_getElem? (i := 655) (by decide +kernel), List.mem_of_getElem? (i := 656) (by decide +kernel)⟩
theorem lw_p41 : lw_okq (⟨"TripReckonerModel", "behind", "(III)I"⟩, 17) := ⟨⟨by decide +kernel, by decide +kernel⟩, List.mem_of_getElem? (i := 481) (by decide +kernel), List.mem_of_getElem? (i := 689) (by decide +kernel), List.mem_of_getElem? (i := 690) (by decide +kernel)⟩
theorem lw_p42 : lw_okq (⟨"TripReckonerModel", "need", "(I)I"⟩, 17) := ⟨⟨by decide +kernel, by decide +kernel⟩, List.mem_of_getElem? (i := 481) (by decide +kernel), List.mem_of_getElem? (i := 693) (by decide +kernel), List.mem_of_getElem? (i := 694) (by decide +kernel)⟩
theorem lw_p43 : lw_okq (⟨"TripReckonerModel", "isBest", "(IIII)Z"⟩, 17) := ⟨⟨by decide +kernel, by decide +kernel⟩, List.mem_of_getElem? (i := 481) (by decide +kernel), List.mem_of_getElem? (i := 697) (by decide +kernel), List.mem_of_getElem? (i := 698) (by decide +kernel)⟩
def lw_privs_3 : List (MethodName × Nat) := [(⟨"TripReckonerModel", "runs", "(JJJJJ)V"⟩, 17), (⟨"TripReckonerModel", "step", "()V"⟩, 17), (⟨"TripReckonerModel", "truth", "()J"⟩, 17), (⟨"TripReckonerModel", "mayGap", "(I)Z"⟩, 17), (⟨"TripReckonerModel", "gaps", "(I)V"⟩, 17), (⟨"TripReckonerModel", "clear", "(I)V"⟩, 17), (⟨"TripReckonerModel", "settle", "()V"⟩, 17), (⟨"TripReckonerModel", "jump", "()V"⟩, 17), (⟨"TripReckonerModel", "refuse", "()I"⟩, 17), (⟨"TripReckonerModel", "behind", "(III)I"⟩, 17), (⟨"TripReckonerModel", "need", "(I)I"⟩, 17), (⟨"TripReckonerModel", "isBest", "(IIII)Z"⟩, 17)]
theorem lw_r3 : ∀ q ∈ lw_privs_3, lw_okq q := List.forall_mem_cons.mpr ⟨lw_p32, List.forall_mem_cons.mpr ⟨lw_p33, List.forall_mem_cons.mpr ⟨lw_p34, List.forall_mem_cons.mpr ⟨lw_p35, List.forall_mem_cons.mpr ⟨lw_p36, List.forall_mem_cons.mpr ⟨lw_p37, List.forall_mem_cons.mpr ⟨lw_p38, List.forall_mem_cons.mpr ⟨lw_p39, List.forall_mem_cons.mpr ⟨lw_p40, List.forall_mem_cons.mpr ⟨lw_p41, List.forall_mem_cons.mpr ⟨lw_p42, List.forall_mem_cons.mpr ⟨lw_p43, fun _ h => absurd h List.not_mem_nil⟩⟩⟩⟩⟩⟩⟩⟩⟩⟩⟩⟩
def lw_privs : List (MethodName × Nat) := lw_privs_1 ++ (lw_privs_2 ++ (lw_privs_3))
def lw_tbl : List Cond := k2_sels lw_privs ++ tables_1
theorem lw_privs_ok : ∀ q ∈ lw_privs, lw_okq q := by
  show ∀ q ∈ lw_privs_1 ++ (lw_privs_2 ++ (lw_privs_3)), lw_okq q
  exact List.forall_mem_append.mpr ⟨lw_r1, List.forall_mem_append.mpr ⟨lw_r2, lw_r3⟩⟩
end
section
/-! ===== BEGIN words of one list among another's, by their places ===== -/
theorem goodIn_r {big : List Cond} (ws : List Cond) (ps : List Nat) (hp : ws = ps.filterMap (fun i => big[i]?)) (h : ws.all goodWord = true) : GoodIn big ws := by
  intro w hw
  have h1 := List.all_eq_true.mp h w hw
  rw [hp] at hw
  obtain ⟨i, -, hi⟩ := List.mem_filterMap.mp hw
  have hm : w ∈ big := by first | exact List.mem_of_getElem? hi | exact List.getElem?_mem hi
  exact ⟨hm, good_of_word h1⟩
theorem goodIn_app {big a b : List Cond} (ha : GoodIn big a) (hb : GoodIn big b) : GoodIn big (a ++ b) := fun w h => (List.mem_append.mp h).elim (ha w) (hb w)
theorem goodIn_ca {big a b : List Cond} {c : Cond} (ha : GoodIn big (c :: a)) (hb : GoodIn big b) : GoodIn big (c :: (a ++ b)) := fun w h => (List.mem_cons.mp h).elim (fun e => ha w (List.mem_cons.mpr (Or.inl e))) (fun h => (List.mem_append.mp h).elim (fun h => ha w (List.mem_cons.mpr (Or.inr h))) (hb w))
theorem goodIn_sub {big ws : List Cond} (hm : ∀ w ∈ ws, w ∈ big) (h : ws.all goodWord = true) : GoodIn big ws := fun w hw => ⟨hm w hw, good_of_word (List.all_eq_true.mp h w hw)⟩
/-! ===== END ===== -/

/-! ===== BEGIN exceptions that leave a method, and their catching by the caller (launches without stack traces) ===== -/
section VXA
/-! The laws vx_back, vx_callV, vx_callS, vx_callSW, vx_throw0, vx_throwS follow proofs of the library, with one case more: JvmDerived/Free/Laws.lean (Back.of_free), Shelf42/LK1.lean (callV, callS), Shelf/KitTraced.lean (throwNew0V, throwNewS). -/
/-- where a method has thrown q: the class by its name, the cell, what was written, the world -/
def vx_T (XC : String → State → State → Prop) (st : State) (q : Addr) (t : State) (mc ms : Nat) (free : Addr → Prop) : Prop :=
  ∃ (E : String) (ce : Cell) (L : List Loc), XC E st t ∧ t.heap[q]? = some ce ∧ ce.vm = .none ∧ st.vm.findClass E = some ce.cls ∧ st.WarmedH t.vm ∧ st.sameButNew ({ t with vm := st.vm } : State) L mc ms ∧ ∀ z ∈ L, free z.base
def vx_Q (Qc : Array Value → State → Outcome → State → Prop) (XC : String → State → State → Prop) (mc ms : Nat) (free : Addr → Prop) : Array Value → State → Outcome → State → Prop := fun a st o t =>
  (Qc a st o t ∧ ∃ L, FrameEnd st o t L mc ms ∧ ∀ q ∈ L, free q.base) ∨ ∃ q, o = .threw q ∧ vx_T XC st q t mc ms free
/-- a callee that returns or throws -/
def vx_Met (l : Launch) (y : MethodName) (ws : List Cond) (rm : Room) (Pc : Array Value → State → Prop) (Qc : Array Value → State → Outcome → State → Prop) (XC : String → State → State → Prop) (mc ms : Nat) (free : Addr → Prop) : Prop :=
  MetFree l y (headSpec ws rm) Pc (fun _ _ _ _ _ => True) (vx_Q Qc XC mc ms free)
def vx_Post (XC : String → State → State → Prop) (mc ms : Nat) (free : Addr → Prop) : Pt → Array Value → Addr → Pt → Prop := fun A a q B =>
  ∃ (g : JFrame) (mk : MethodId) (t : State) (L : List Loc) (E : String) (ce : Cell), B.U.heap = t.heap ∧ B.U.vm = t.vm ∧ XC E (A.U.calling g mk a) t ∧ t.heap[q]? = some ce ∧ ce.vm = .none ∧ A.U.vm.findClass E = some ce.cls ∧ B.locs = A.locs ++ L ∧ (∀ z ∈ L, free z.base) ∧ B.cells = A.cells + mc ∧ B.slots = A.slots + ms
def vx_Back (l : Launch) (R : Room) (p : Program) (e : Env) (below : List Frame) (s : State) (sargs : Array Value) (y : MethodName) (len W9 : Nat)
    (Pre : Pt → Array Value → Prop) (Post : Pt → Array Value → Option Value → Pt → Prop) (PostX : Pt → Array Value → Addr → Pt → Prop) : Prop :=
  ∀ (m : MethodId) (meth : Method) (c : Code) (A : Pt) (g : JFrame) (ig : Instr) (mk : MethodId) (a : Array Value),
    Stand p l e R s m sargs below meth c A.U A.locs A.cells A.slots → g.method = m → g.locals.size = c.maxLocals → decode c.code g.pc = .ok (ig, len) →
    2 * g.monitorRoom + (g.stack.map fun v => v.category).sum ≤ W9 → A.U.methodNamed? y = some mk → Pre A a →
    (∃ (v : Option Value) (B : Pt), Stand p l e R s m sargs below meth c B.U B.locs B.cells B.slots ∧ Post A a v B ∧
      Steps p.tables e below (doInvoke e (A.U.setTop g) [] mk a).1 (B.U.setTop { g with pc := g.pc + len, stack := v.toList ++ g.stack })) ∨
    (∃ (q : Addr) (B : Pt), Stand p l e R s m sargs below meth c B.U B.locs B.cells B.slots ∧ PostX A a q B ∧
      Steps p.tables e below (doInvoke e (A.U.setTop g) [] mk a).1 ((B.U.setTop g).pushFrame (.throwing q)))
section Payer
variable {l : Launch} {R : Room} {p : Program} {e : Env} {below : List Frame} {s : State} {sargs : Array Value} {y : MethodName} {len W9 : Nat}
theorem vx_back {ws : List Cond} {rm : Room} {Pc : Array Value → State → Prop} {Qc : Array Value → State → Outcome → State → Prop} {XC : String → State → State → Prop} {mc ms : Nat} {free : Addr → Prop} {bytes : ByteArray} {maxL : Nat} {ret : Option FieldType}
    (hM : vx_Met l y ws rm Pc Qc XC mc ms free) (hblind : FrameBlind Pc) (hrc : rm.cells = mc) (hrs : rm.slots = ms)
    (hframes : rm.frames + 1 ≤ R.frames) (hlocals : W9 + (maxL + 11) + rm.locals ≤ R.locals)
    (hws : ∀ w ∈ ws, ∀ a' U, s.WarmedH U.vm → w.before a' U = true) (hcode : Cond.code y bytes maxL ret ∈ ws) (hinit : ∀ a' U, s.WarmedH U.vm → (Cond.initialized y.cls).before a' U = true) :
    vx_Back l R p e below s sargs y len W9 (PreOf R mc ms Pc) (PostOf Qc mc ms free) (vx_Post XC mc ms free) := by
  intro m meth c A g ig mk a X hg hsize hdg hW hn hp
  have h1 : (headSpec ws rm).pre.before a A.U = true := atoms_intro fun w hw => hws w hw _ _ X.warmed
  have h2 : (Cond.code y bytes maxL ret).before a A.U = true := hws _ hcode _ _ X.warmed
  have h3 : (Cond.initialized y.cls).before a A.U = true := hinit _ _ X.warmed
  have h4 : A.cells + (headSpec ws rm).room.cells ≤ R.cells := by rw [show (headSpec ws rm).room.cells = mc from hrc]; exact hp.1
  have h5 : A.slots + (headSpec ws rm).room.slots ≤ R.slots := by rw [show (headSpec ws rm).room.slots = ms from hrs]; exact hp.2.1
  have hPc : Pc a (A.U.calling g mk a) := hblind _ _ _ _ hp.2.2
  obtain ⟨U, Ls, c0, s0⟩ := A
  dsimp only [Pt.U, Pt.locs, Pt.cells, Pt.slots] at h1 h2 h3 h4 h5 X hn hPc ⊢
  obtain ⟨methY, cY, hmY, hcY, -, hlY, -, -, -, -⟩ := Cond.code_spec hn h2
  obtain ⟨kY, hkY, -⟩ := className_of_methodNamed hn
  have hinitY : kY.init = .initialized := Cond.initialized_spec (findClass_of_methodNamed hn) hkY h3
  have h : At U g.method c below := by rw [hg]; exact X.here
  have hlocals9 : W9 + (maxL + 11) + (headSpec ws rm).room.locals ≤ R.locals := hlocals
  have happ : (headSpec ws rm).appliesLoose y e.platform (U.calling g mk a) = true :=
    Spec.appliesLoose_calling (g := g) h hdg hn hkY hinitY
      (X.room_calling (g := g) (R' := (headSpec ws rm).room) hsize hmY hcY hframes (by rw [hlY]; omega) h4 h5) h1
  obtain ⟨mid, hmid⟩ := h.above
  have hfr : (U.setTop g).frames = (.java g :: mid) ++ below := by rw [State.frames_setTop' g h.top, hmid]; rfl
  obtain ⟨o, s₂, hsteps, -, hend, hq⟩ := Steps.callFree hM p X.admits X.cas X.clock (acts := []) hfr happ hPc trivial
  have hq' : vx_Q Qc XC mc ms free a (U.calling g mk a) o s₂ := hq
  rw [State.frames_setTop' g h.top] at hend
  obtain ⟨g₀, hg0⟩ := Option.isSome_iff_exists.mp h.top
  obtain ⟨r, hr⟩ := State.topJava?_eq_some.mp hg0
  have hr' : (({ U with heap := s₂.heap, slotsUsed := s₂.slotsUsed } : State).setVm s₂.vm).frames = .java g₀ :: r := hr
  rcases hq' with ⟨hqc, L, hfe, hL⟩ | ⟨q, rfl, E, ce, L, hx, hce, hcv, hcl, hW₂, hsm, hL⟩
  · obtain ⟨⟨v, rfl⟩, hW₂, e2, q2, q3, q4, q5, q6⟩ := id hfe
    have e3 : s₂ = ({ (U.calling g mk a).setFrames s₂.frames with heap := s₂.heap, slotsUsed := s₂.slotsUsed } : State).setVm s₂.vm := by
      have : s₂ = ({ s₂ with vm := (U.calling g mk a).vm } : State).setVm s₂.vm := rfl
      rw [e2] at this
      exact this
    obtain ⟨c₂, i₂, len₂, hc₂, hd₂, hf₂⟩ := hend
    have hW' : U.WarmedH s₂.vm := hW₂
    have hcc : c₂ = c := by
      have h1 : s₂.code? g.method = U.code? g.method := by
        rw [State.code?_eq, State.code?_eq, hW'.alike.method?]
      exact Option.some.inj (hc₂.symm.trans (h1.trans h.code))
    subst hcc
    have hlen : len₂ = len := by rw [hdg] at hd₂; cases hd₂; rfl
    subst hlen
    have hs₂ : s₂ = (({ U with heap := s₂.heap, slotsUsed := s₂.slotsUsed } : State).setVm s₂.vm).setTop { g with pc := g.pc + len₂, stack := v.toList ++ g.stack } := by
      refine e3.trans ?_
      rw [hf₂, State.calling_eq h.top, State.setFrames_setFrames, State.setTop_of_frames _ hr', hr]
      rfl
    have hsame : U.sameButNew ({ U with heap := s₂.heap, slotsUsed := s₂.slotsUsed } : State) L mc ms := by
      refine ⟨?_, q2, q3, q4, q5, q6⟩
      obtain ⟨t, ht, -⟩ := State.frames_cons hr
      show ({ U with heap := s₂.heap, slotsUsed := s₂.slotsUsed } : State) = { U.setFrames U.frames with heap := s₂.heap, slotsUsed := s₂.slotsUsed }
      rw [State.setFrames_self ht]
    subst hg
    refine Or.inl ⟨v, ⟨(({ U with heap := s₂.heap, slotsUsed := s₂.slotsUsed } : State).setVm s₂.vm), Ls ++ L, c0 + mc, s0 + ms⟩,
      ⟨X.admits, X.cas, X.clock, X.frames, X.room, X.hears, X.method, X.code, (X.here.setHeapUsed s₂.heap s₂.slotsUsed).setVm hW'.alike, X.tail, State.WarmedH.trans X.warmed hW', X.limits, X.bytes, X.same.trans (hsame.setVm s.vm)⟩,
      ⟨g, mk, s₂, L, rfl, rfl, hqc, rfl, hL, rfl, rfl⟩, ?_⟩
    show Steps p.tables e below _ ((({ U with heap := s₂.heap, slotsUsed := s₂.slotsUsed } : State).setVm s₂.vm).setTop { g with pc := g.pc + len₂, stack := v.toList ++ g.stack })
    rw [← hs₂]
    exact hsteps
  · obtain ⟨e2, q2, q3, q4, q5, q6⟩ := id hsm
    have e3 : s₂ = ({ (U.calling g mk a).setFrames s₂.frames with heap := s₂.heap, slotsUsed := s₂.slotsUsed } : State).setVm s₂.vm := by
      have : s₂ = ({ s₂ with vm := (U.calling g mk a).vm } : State).setVm s₂.vm := rfl
      rw [e2] at this
      exact this
    have hf₂ : s₂.frames = .throwing q :: .java g :: U.frames.tail := hend
    have hW' : U.WarmedH s₂.vm := hW₂
    have hs₂ : s₂ = ((({ U with heap := s₂.heap, slotsUsed := s₂.slotsUsed } : State).setVm s₂.vm).setTop g).pushFrame (.throwing q) := by
      refine e3.trans ?_
      rw [hf₂, State.calling_eq h.top, State.setFrames_setFrames, State.pushFrame, State.frames_setTop _ hr', State.setTop_of_frames _ hr', State.setFrames_setFrames, hr]
      rfl
    have hsame : U.sameButNew ({ U with heap := s₂.heap, slotsUsed := s₂.slotsUsed } : State) L mc ms := by
      refine ⟨?_, q2, q3, q4, q5, q6⟩
      obtain ⟨t, ht, -⟩ := State.frames_cons hr
      show ({ U with heap := s₂.heap, slotsUsed := s₂.slotsUsed } : State) = { U.setFrames U.frames with heap := s₂.heap, slotsUsed := s₂.slotsUsed }
      rw [State.setFrames_self ht]
    subst hg
    refine Or.inr ⟨q, ⟨(({ U with heap := s₂.heap, slotsUsed := s₂.slotsUsed } : State).setVm s₂.vm), Ls ++ L, c0 + mc, s0 + ms⟩,
      ⟨X.admits, X.cas, X.clock, X.frames, X.room, X.hears, X.method, X.code, (X.here.setHeapUsed s₂.heap s₂.slotsUsed).setVm hW'.alike, X.tail, State.WarmedH.trans X.warmed hW', X.limits, X.bytes, X.same.trans (hsame.setVm s.vm)⟩,
      ⟨g, mk, s₂, L, E, ce, rfl, rfl, hx, hce, hcv, hcl, rfl, hL, rfl, rfl⟩, ?_⟩
    show Steps p.tables e below _ (((({ U with heap := s₂.heap, slotsUsed := s₂.slotsUsed } : State).setVm s₂.vm).setTop g).pushFrame (.throwing q))
    rw [← hs₂]
    exact hsteps
end Payer
section Calls
variable {p : Program} {l : Launch} {e : Env} {R : Room} {s : State} {m : MethodId} {args : Array Value} {below : List Frame} {meth : Method} {c : Code} {T : State} {locs : List Loc} {cells slots : Nat}
theorem vx_callV (X : Stand p l e R s m args below meth c T locs cells slots) (hexec : p.tables.exec = Jvm.exec) {own C : String} {index : Nat} {y : MethodName} {bytes : ByteArray} {maxL : Nat} {ret : Option FieldType}
    (hown : s.vm.findClass own = some m.cls) (hlink : (Cond.methodLink own index y).before args s = true) (hinst : (Cond.instanceMethod y).before args s = true) (hsel : (Cond.selects C y y).before args s = true)
    (hcode : (Cond.code y bytes maxL ret).before args s = true) (hy : y.cls ≠ "java/lang/invoke/MethodHandle" ∧ y.cls ≠ "java/lang/invoke/VarHandle")
    {W9 : Nat} {Pre : Pt → Array Value → Prop} {Post : Pt → Array Value → Option Value → Pt → Prop} {PostX : Pt → Array Value → Addr → Pt → Prop} (hK : vx_Back l R p e below s args y 3 W9 Pre Post PostX)
    {b : Addr} {cellB : Cell} (hcell : T.heap[b]? = some cellB) (hobj : cellB.vm.isStatics = false) (hcls : s.vm.findClass C = some cellB.cls)
    {g : JFrame} (hg : g.method = m) (hsize : g.locals.size = c.maxLocals) {argsL rest : List Value} (hlen : ∀ sig, parseMethodDescriptor y.desc = some sig → argsL.length = sig.parameters.length)
    (hstack : g.stack = argsL.reverse ++ .ref b :: rest) (hW : 2 * g.monitorRoom + (rest.map fun v => v.category).sum ≤ W9) (hdg : decode c.code g.pc = .ok (.invokevirtual index, 3))
    (hpre : ∀ vm₁, s.WarmedH vm₁ → Pre ⟨T.setVm vm₁, locs, cells, slots⟩ (Value.ref b :: argsL).toArray) :
    (∃ (v : Option Value) (vm₁ : Vm) (B : Pt), s.WarmedH vm₁ ∧ Stand p l e R s m args below meth c B.U B.locs B.cells B.slots ∧ Post ⟨T.setVm vm₁, locs, cells, slots⟩ (Value.ref b :: argsL).toArray v B ∧
      ∀ target, Steps p.tables e below (B.U.setTop { g with pc := g.pc + 3, stack := v.toList ++ rest }) target → Steps p.tables e below (T.setTop g) target) ∨
    (∃ (q : Addr) (vm₁ : Vm) (B : Pt), s.WarmedH vm₁ ∧ Stand p l e R s m args below meth c B.U B.locs B.cells B.slots ∧ PostX ⟨T.setVm vm₁, locs, cells, slots⟩ (Value.ref b :: argsL).toArray q B ∧
      Steps p.tables e below (T.setTop g) ((B.U.setTop { g with stack := rest }).pushFrame (.throwing q))) := by
  obtain ⟨mk, methM, hnamed, hmethM, hstM, habM⟩ := Cond.instanceMethod_spec hinst
  obtain ⟨methM', cM, hmethM', -, -, -, -, -, -, hsigM⟩ := Cond.code_spec hnamed hcode
  cases hmethM.symm.trans hmethM'
  obtain ⟨c2, r2, m2, q1, q2, q3, q4, kP, hkP, hkPi⟩ := Cond.selects_spec hsel
  cases hcls.symm.trans q1
  cases (State.methodFound?_of_named hnamed hy).symm.trans q2
  cases hnamed.symm.trans q3
  have hselP : selectMethod e.platform s.vm cellB.cls mk = .method mk := by rw [Launch.admits_selectMethod X.admits]; exact q4
  obtain ⟨vm₁, X₁, hstep₁⟩ := X.invokevirtual hexec hown hlink hnamed hmethM hstM hkP hkPi hy (a := b) (cell := cellB) hcell
    (fun z h => by rw [h] at hobj; cases hobj) hselP hmethM habM hkP hkPi (g := g) hg (argsL := argsL) (rest := rest) (hlen _ hsigM) hstack hdg
  rcases hK m meth c ⟨T.setVm vm₁, locs, cells, slots⟩ { g with stack := rest } (.invokevirtual index) mk (Value.ref b :: argsL).toArray X₁ hg hsize hdg hW (X₁.named hnamed) (hpre vm₁ X₁.warmed) with ⟨v, B, X', hpost, hsteps⟩ | ⟨q, B, X', hpost, hsteps⟩
  · exact Or.inl ⟨v, vm₁, B, X₁.warmed, X', hpost, fun target h => hstep₁ _ fun acts => by rw [doInvoke_state]; exact hsteps.trans h⟩
  · exact Or.inr ⟨q, vm₁, B, X₁.warmed, X', hpost, hstep₁ _ fun acts => by rw [doInvoke_state]; exact hsteps⟩
theorem vx_callS (X : Stand p l e R s m args below meth c T locs cells slots) (hexec : p.tables.exec = Jvm.exec) {own : String} {index : Nat} {y : MethodName} {bytes : ByteArray} {maxL : Nat} {ret : Option FieldType}
    (hown : s.vm.findClass own = some m.cls) (hlink : (Cond.methodLink own index y).before args s = true) (hstat : (Cond.static y).before args s = true) (hinit : (Cond.initialized y.cls).before args s = true)
    (hcode : (Cond.code y bytes maxL ret).before args s = true) (hy : y.cls ≠ "java/lang/invoke/MethodHandle" ∧ y.cls ≠ "java/lang/invoke/VarHandle")
    {W9 : Nat} {Pre : Pt → Array Value → Prop} {Post : Pt → Array Value → Option Value → Pt → Prop} {PostX : Pt → Array Value → Addr → Pt → Prop} (hK : vx_Back l R p e below s args y 3 W9 Pre Post PostX)
    {g : JFrame} (hg : g.method = m) (hsize : g.locals.size = c.maxLocals) {argsL rest : List Value} (hlen : ∀ sig, parseMethodDescriptor y.desc = some sig → argsL.length = sig.parameters.length)
    (hstack : g.stack = argsL.reverse ++ rest) (hW : 2 * g.monitorRoom + (rest.map fun v => v.category).sum ≤ W9) (hdg : decode c.code g.pc = .ok (.invokestatic index, 3))
    (hpre : ∀ vm₁, s.WarmedH vm₁ → Pre ⟨T.setVm vm₁, locs, cells, slots⟩ argsL.toArray) :
    (∃ (v : Option Value) (vm₁ : Vm) (B : Pt), s.WarmedH vm₁ ∧ Stand p l e R s m args below meth c B.U B.locs B.cells B.slots ∧ Post ⟨T.setVm vm₁, locs, cells, slots⟩ argsL.toArray v B ∧
      ∀ target, Steps p.tables e below (B.U.setTop { g with pc := g.pc + 3, stack := v.toList ++ rest }) target → Steps p.tables e below (T.setTop g) target) ∨
    (∃ (q : Addr) (vm₁ : Vm) (B : Pt), s.WarmedH vm₁ ∧ Stand p l e R s m args below meth c B.U B.locs B.cells B.slots ∧ PostX ⟨T.setVm vm₁, locs, cells, slots⟩ argsL.toArray q B ∧
      Steps p.tables e below (T.setTop g) ((B.U.setTop { g with stack := rest }).pushFrame (.throwing q))) := by
  obtain ⟨mk, hnamed⟩ := Cond.code_named hcode
  obtain ⟨methM, cM, hmethM, -, -, -, -, -, -, hsigM⟩ := Cond.code_spec hnamed hcode
  have hstatic : methM.isStatic = true := Cond.static_spec hnamed hmethM hstat
  obtain ⟨kP, hkP, -⟩ := className_of_methodNamed hnamed
  have hinitP : kP.init = .initialized := Cond.initialized_spec (findClass_of_methodNamed hnamed) hkP hinit
  obtain ⟨vm₁, X₁, hstep₁⟩ := X.invokestatic hexec hown hlink hnamed hmethM hstatic hkP hinitP hy (g := g) hg (argsL := argsL) (rest := rest) (hlen _ hsigM) hstack hdg
  rcases hK m meth c ⟨T.setVm vm₁, locs, cells, slots⟩ { g with stack := rest } (.invokestatic index) mk argsL.toArray X₁ hg hsize hdg hW (X₁.named hnamed) (hpre vm₁ X₁.warmed) with ⟨v, B, X', hpost, hsteps⟩ | ⟨q, B, X', hpost, hsteps⟩
  · exact Or.inl ⟨v, vm₁, B, X₁.warmed, X', hpost, fun target h => hstep₁ _ fun acts => by rw [doInvoke_state]; exact hsteps.trans h⟩
  · exact Or.inr ⟨q, vm₁, B, X₁.warmed, X', hpost, hstep₁ _ fun acts => by rw [doInvoke_state]; exact hsteps⟩
end Calls
theorem vx_cls {s : State} {T : State} {vm₁ : Vm} {E : String} {k : ClassId} (hW : s.WarmedH vm₁) (h : (T.setVm vm₁).vm.findClass E = some k) : s.vm.findClass E = some k := by
  have h1 : vm₁.findClass E = some k := h
  rw [hW.alike.findClass] at h1
  exact h1
/-- the method's frame g, with q thrown over it -/
def vx_W (p : Program) (l : Launch) (e : Env) (R : Room) (s : State) (m : MethodId) (args : Array Value) (below : List Frame) (meth : Method) (c : Code) (H : Heap) (locs : List Loc) (cells slots : Nat) (Q : State → Prop) (g : JFrame) (q : Addr) : Prop :=
  ∀ T : State, T.heap = H → Stand p l e R s m args below meth c T locs cells slots → ∃ t, Steps p.tables e below ((T.setTop g).pushFrame (.throwing q)) t ∧ Q t
def vx_Run (p : Program) (l : Launch) (e : Env) (R : Room) (s : State) (m : MethodId) (args : Array Value) (below : List Frame) (meth : Method) (c : Code) (H : Heap) (locs : List Loc) (cells slots mc ms : Nat) (g : JFrame) (rest : List Value) (Qa : State → Outcome → State → Prop) (XC : String → State → State → Prop) (free : Addr → Prop) : Prop :=
  ∀ T : State, T.heap = H → Stand p l e R s m args below meth c T locs cells slots →
    (∃ (v : Option Value) (st₀ t T' : State) (L : List Loc), st₀.heap = H ∧ Stand p l e R s m args below meth c T' (locs ++ L) (cells + mc) (slots + ms) ∧ (∀ q ∈ L, free q.base) ∧ T'.heap = t.heap ∧ T'.vm = t.vm ∧ Qa st₀ (.returned v) t ∧
      Goes p e below T g T' { g with pc := g.pc + 3, stack := v.toList ++ rest }) ∨
    (∃ (q : Addr) (st₀ t T' : State) (L : List Loc) (E : String) (ce : Cell), st₀.heap = H ∧ Stand p l e R s m args below meth c T' (locs ++ L) (cells + mc) (slots + ms) ∧ (∀ z ∈ L, free z.base) ∧ T'.heap = t.heap ∧ T'.vm = t.vm ∧ XC E st₀ t ∧ t.heap[q]? = some ce ∧ ce.vm = .none ∧ s.vm.findClass E = some ce.cls ∧
      Steps p.tables e below (T.setTop g) ((T'.setTop { g with stack := rest }).pushFrame (.throwing q)))
def vx_X {S : Type} (px : S → Prop) (B : String → S → State → Prop) (A : Nat → Prop) : String → State → State → Prop := fun E st t => ∃ u : S, px u ∧ B E u t ∧ va_F A st t
section Runs
variable {p : Program} {l : Launch} {e : Env} {R : Room} {s : State} {m : MethodId} {args : Array Value} {below : List Frame} {meth : Method} {c : Code} {H : Heap} {locs : List Loc} {cells slots : Nat}
variable {y : MethodName} {bytes cc : ByteArray} {maxL nL mc ms n index : Nat} {ret : Option FieldType} {ws : List Cond} {rm : Room} {Pc : Array Value → State → Prop} {Qc : Array Value → State → Outcome → State → Prop} {XC : String → State → State → Prop} {free : Addr → Prop} {Ts : List Cond} {own C : String} {b : Addr} {As rest : List Value} {g : JFrame}
theorem vx_callBack (cb : CallB R s args own index y bytes maxL ret ws rm mc ms n) (hM : vx_Met l y ws rm Pc Qc XC mc ms free) (hbl : FrameBlind Pc) : vx_Back l R p e below s args y 3 8 (PreOf R mc ms Pc) (PostOf Qc mc ms free) (vx_Post XC mc ms free) := by
  obtain ⟨hrc, hrs, hfr, hlo, hws, hcw, -, hini, -⟩ := cb
  exact vx_back (bytes := bytes) (maxL := maxL) (ret := ret) hM hbl hrc hrs hfr hlo hws hcw (fun a' U hW => word_at hW (Or.inl (by first | rfl | simp [Cond.onTables, Cond.keeps, Cond.steady])) hini)
theorem vx_runV (S : CallFix p m c cc nL s args Ts own) (hM : vx_Met l y ws rm Pc Qc XC mc ms free) (cw : CallW R s args own C index y bytes maxL ret ws rm mc ms n) (hp : PreV s H C b Pc As)
    (hg : g.method = m) (hn : As.length = n) (hsize : g.locals.size = nL) (hstack : g.stack = As.reverse ++ .ref b :: rest) (hW : 2 * g.monitorRoom + (rest.map fun v => v.category).sum ≤ 8) (hdg : decode cc g.pc = .ok (.invokevirtual index, 3)) (hf : cells + mc ≤ R.cells ∧ slots + ms ≤ R.slots) :
    vx_Run p l e R s m args below meth c H locs cells slots mc ms g rest (Qc (Value.ref b :: As).toArray) XC free := by
  have hK : vx_Back l R p e below s args y 3 8 (PreOf R mc ms Pc) (PostOf Qc mc ms free) (vx_Post XC mc ms free) := vx_callBack cw.1 hM hp.1
  obtain ⟨⟨-, -, -, -, -, -, hcode, -, hy, hlen, hl⟩, hin, hse⟩ := cw
  obtain ⟨hx, hb, hml, ho, -⟩ := S
  obtain ⟨-, ⟨cellB, hcB, hoB, hclB⟩, hPc⟩ := hp
  intro T hT X
  rcases vx_callV X hx (C := C) (bytes := bytes) (maxL := maxL) (ret := ret) ho hl hin hse hcode hy hK (by rw [hT]; exact hcB) hoB hclB hg (hsize.trans hml.symm) (argsL := As) (rest := rest) (fun sig h => hn.trans (hlen sig h)) hstack hW (by rw [hb]; exact hdg)
    (fun vm₁ hW₁ => ⟨hf.1, hf.2, hPc (T.setVm vm₁) hT hW₁⟩) with ⟨v, vm₁, ⟨U', l2, c2, s2⟩, hW₁, X', ⟨g', mk, t, L, e1, e2, hq, h1, hL, h2, h3⟩, st⟩ | ⟨q, vm₁, ⟨U', l2, c2, s2⟩, hW₁, X', ⟨g', mk, t, L, E, ce, e1, e2, hq, hce, hcv, hcl, h1, hL, h2, h3⟩, st⟩
  · dsimp only [Pt.U, Pt.locs, Pt.cells, Pt.slots] at X' e1 e2 h1 h2 h3 st
    subst h1; subst h2; subst h3
    exact Or.inl ⟨v, (T.setVm vm₁).calling g' mk (Value.ref b :: As).toArray, t, U', L, hT, X', hL, e1, e2, hq, st⟩
  · dsimp only [Pt.U, Pt.locs, Pt.cells, Pt.slots] at X' e1 e2 h1 h2 h3 st hcl
    subst h1; subst h2; subst h3
    exact Or.inr ⟨q, (T.setVm vm₁).calling g' mk (Value.ref b :: As).toArray, t, U', L, E, ce, hT, X', hL, e1, e2, hq, hce, hcv, vx_cls hW₁ hcl, st⟩
theorem vx_runS (S : CallFix p m c cc nL s args Ts own) (hM : vx_Met l y ws rm Pc Qc XC mc ms free) (cw : CallB R s args own index y bytes maxL ret ws rm mc ms n ∧ (Cond.static y).before args s = true) (hp : PreS s H Pc As)
    (hg : g.method = m) (hn : As.length = n) (hsize : g.locals.size = nL) (hstack : g.stack = As.reverse ++ rest) (hW : 2 * g.monitorRoom + (rest.map fun v => v.category).sum ≤ 8) (hdg : decode cc g.pc = .ok (.invokestatic index, 3)) (hf : cells + mc ≤ R.cells ∧ slots + ms ≤ R.slots) :
    vx_Run p l e R s m args below meth c H locs cells slots mc ms g rest (Qc As.toArray) XC free := by
  have hK : vx_Back l R p e below s args y 3 8 (PreOf R mc ms Pc) (PostOf Qc mc ms free) (vx_Post XC mc ms free) := vx_callBack cw.1 hM hp.1
  obtain ⟨⟨-, -, -, -, -, -, hcode, hini, hy, hlen, hl⟩, hstt⟩ := cw
  obtain ⟨hx, hb, hml, ho, -⟩ := S
  intro T hT X
  rcases vx_callS X hx (bytes := bytes) (maxL := maxL) (ret := ret) ho hl hstt hini hcode hy hK hg (hsize.trans hml.symm) (argsL := As) (rest := rest) (fun sig h => hn.trans (hlen sig h)) hstack hW (by rw [hb]; exact hdg)
    (fun vm₁ hW₁ => ⟨hf.1, hf.2, hp.2 (T.setVm vm₁) hT hW₁⟩) with ⟨v, vm₁, ⟨U', l2, c2, s2⟩, hW₁, X', ⟨g', mk, t, L, e1, e2, hq, h1, hL, h2, h3⟩, st⟩ | ⟨q, vm₁, ⟨U', l2, c2, s2⟩, hW₁, X', ⟨g', mk, t, L, E, ce, e1, e2, hq, hce, hcv, hcl, h1, hL, h2, h3⟩, st⟩
  · dsimp only [Pt.U, Pt.locs, Pt.cells, Pt.slots] at X' e1 e2 h1 h2 h3 st
    subst h1; subst h2; subst h3
    exact Or.inl ⟨v, (T.setVm vm₁).calling g' mk As.toArray, t, U', L, hT, X', hL, e1, e2, hq, st⟩
  · dsimp only [Pt.U, Pt.locs, Pt.cells, Pt.slots] at X' e1 e2 h1 h2 h3 st hcl
    subst h1; subst h2; subst h3
    exact Or.inr ⟨q, (T.setVm vm₁).calling g' mk As.toArray, t, U', L, E, ce, hT, X', hL, e1, e2, hq, hce, hcv, vx_cls hW₁ hcl, st⟩
end Runs
section Rows
variable {p : Program} {l : Launch} {e : Env} {R : Room} {s : State} {m : MethodId} {args : Array Value} {below : List Frame} {meth : Method} {c : Code} {H : Heap} {locs : List Loc} {cells slots : Nat} {Q : State → Prop}
variable {mc ms : Nat} {free : Addr → Prop} {A0 A1 : Nat → Prop} {H0 : Heap} {a : Array Value} {pc : Nat} {ls : Array Slot} {st0 rest : List Value}
theorem vx_keep {st₀ t T' : State} {L : List Loc} (h0 : st₀.heap = H) (e1 : T'.heap = t.heap) (hS : va_S A0 H0 H locs) (hA : ∀ q, q < H.size → A1 q → A0 q) (hf : ∀ q, free q → A0 q) (hL : ∀ q ∈ L, free q.base) (hF : va_F A1 st₀ t) :
    H.size ≤ T'.heap.size ∧ (∀ q : Nat, q < H.size → ¬ A1 q → T'.heap[q]? = H[q]?) ∧ va_S A0 H0 T'.heap (locs ++ L) := by
  obtain ⟨hz, hk⟩ := hF
  rw [h0] at hz hk
  exact ⟨by rw [e1]; exact hz, fun q h1 h2 => by rw [e1]; exact hk q h1 h2,
    ⟨Nat.le_trans hS.1 (by rw [e1]; exact hz), fun q h1 h2 => by rw [e1, hk q (Nat.lt_of_lt_of_le h1 hS.1) (fun z => h2 (hA q (Nat.lt_of_lt_of_le h1 hS.1) z))]; exact hS.2.1 q h1 h2, fun q hq => by
      rcases List.mem_append.mp hq with h | h
      · exact hS.2.2 q h
      · exact hf _ (hL q h)⟩⟩
theorem vx_calli {S SX : Type} {post : Int32 → S → Prop} {px : SX → Prop} {B : S → State → Prop} {BX : String → SX → State → Prop} {AX : Nat → Prop} (hr : vx_Run p l e R s m args below meth c H locs cells slots mc ms (F0 m pc ls st0) rest (va_Qi post B A1 a) (vx_X px BX AX) free) (hS : va_S A0 H0 H locs) (hA : ∀ q, q < H.size → A1 q → A0 q) (hf : ∀ q, free q → A0 q) (hAX : ∀ q, q < H.size → AX q → A0 q)
    (kx : ∀ (E : String) (ce : Cell) (q9 : Addr) (u : SX) (t : State) (H1 : Heap) (locs1 : List Loc), t.heap = H1 → s.vm.Alike t.vm → px u → BX E u t → H.size ≤ H1.size → (∀ q : Nat, q < H.size → ¬ AX q → H1[q]? = H[q]?) → va_S A0 H0 H1 locs1 → H1[q9]? = some ce → ce.vm = .none → s.vm.findClass E = some ce.cls → vx_W p l e R s m args below meth c H1 locs1 (cells + mc) (slots + ms) Q (F0 m pc ls rest) q9)
    (kk : ∀ (r : Int32) (u : S) (t : State) (H1 : Heap) (locs1 : List Loc), t.heap = H1 → s.vm.Alike t.vm → post r u → B u t → H.size ≤ H1.size → (∀ q : Nat, q < H.size → ¬ A1 q → H1[q]? = H[q]?) → va_S A0 H0 H1 locs1 → W p l e R s m args below meth c H1 locs1 (cells + mc) (slots + ms) Q (F0 m (pc + 3) ls (.int r :: rest))) : W p l e R s m args below meth c H locs cells slots Q (F0 m pc ls st0) := by
  intro T hT X
  rcases hr T hT X with ⟨v, st₀, t, T', L, h0, X', hL, e1, e2, ⟨⟨r, u, hv, hp, hb⟩, hF⟩, st⟩ | ⟨q, st₀, t, T', L, E, ce, h0, X', hL, e1, e2, ⟨u, hp, hb, hF⟩, hce, hcv, hcl, st⟩
  · cases hv
    obtain ⟨k1, k2, k3⟩ := vx_keep h0 e1 hS hA hf hL hF
    obtain ⟨t2, a1, b1⟩ := kk r u t T'.heap (locs ++ L) e1.symm (by rw [← e2]; exact X'.warmed.alike) hp hb k1 k2 k3 T' rfl X'
    exact ⟨t2, st t2 a1, b1⟩
  · obtain ⟨k1, k2, k3⟩ := vx_keep h0 e1 hS hAX hf hL hF
    obtain ⟨t2, a1, b1⟩ := kx E ce q u t T'.heap (locs ++ L) e1.symm (by rw [← e2]; exact X'.warmed.alike) hp hb k1 k2 k3 (by rw [e1]; exact hce) hcv hcl T' rfl X'
    exact ⟨t2, st.trans a1, b1⟩
theorem vx_calll {S SX : Type} {post : Int64 → S → Prop} {px : SX → Prop} {B : S → State → Prop} {BX : String → SX → State → Prop} {AX : Nat → Prop} (hr : vx_Run p l e R s m args below meth c H locs cells slots mc ms (F0 m pc ls st0) rest (va_Ql post B A1 a) (vx_X px BX AX) free) (hS : va_S A0 H0 H locs) (hA : ∀ q, q < H.size → A1 q → A0 q) (hf : ∀ q, free q → A0 q) (hAX : ∀ q, q < H.size → AX q → A0 q)
    (kx : ∀ (E : String) (ce : Cell) (q9 : Addr) (u : SX) (t : State) (H1 : Heap) (locs1 : List Loc), t.heap = H1 → s.vm.Alike t.vm → px u → BX E u t → H.size ≤ H1.size → (∀ q : Nat, q < H.size → ¬ AX q → H1[q]? = H[q]?) → va_S A0 H0 H1 locs1 → H1[q9]? = some ce → ce.vm = .none → s.vm.findClass E = some ce.cls → vx_W p l e R s m args below meth c H1 locs1 (cells + mc) (slots + ms) Q (F0 m pc ls rest) q9)
    (kk : ∀ (r : Int64) (u : S) (t : State) (H1 : Heap) (locs1 : List Loc), t.heap = H1 → s.vm.Alike t.vm → post r u → B u t → H.size ≤ H1.size → (∀ q : Nat, q < H.size → ¬ A1 q → H1[q]? = H[q]?) → va_S A0 H0 H1 locs1 → W p l e R s m args below meth c H1 locs1 (cells + mc) (slots + ms) Q (F0 m (pc + 3) ls (.long r :: rest))) : W p l e R s m args below meth c H locs cells slots Q (F0 m pc ls st0) := by
  intro T hT X
  rcases hr T hT X with ⟨v, st₀, t, T', L, h0, X', hL, e1, e2, ⟨⟨r, u, hv, hp, hb⟩, hF⟩, st⟩ | ⟨q, st₀, t, T', L, E, ce, h0, X', hL, e1, e2, ⟨u, hp, hb, hF⟩, hce, hcv, hcl, st⟩
  · cases hv
    obtain ⟨k1, k2, k3⟩ := vx_keep h0 e1 hS hA hf hL hF
    obtain ⟨t2, a1, b1⟩ := kk r u t T'.heap (locs ++ L) e1.symm (by rw [← e2]; exact X'.warmed.alike) hp hb k1 k2 k3 T' rfl X'
    exact ⟨t2, st t2 a1, b1⟩
  · obtain ⟨k1, k2, k3⟩ := vx_keep h0 e1 hS hAX hf hL hF
    obtain ⟨t2, a1, b1⟩ := kx E ce q u t T'.heap (locs ++ L) e1.symm (by rw [← e2]; exact X'.warmed.alike) hp hb k1 k2 k3 (by rw [e1]; exact hce) hcv hcl T' rfl X'
    exact ⟨t2, st.trans a1, b1⟩
theorem vx_callf {S SX : Type} {post : UInt32 → S → Prop} {px : SX → Prop} {B : S → State → Prop} {BX : String → SX → State → Prop} {AX : Nat → Prop} (hr : vx_Run p l e R s m args below meth c H locs cells slots mc ms (F0 m pc ls st0) rest (va_Qf post B A1 a) (vx_X px BX AX) free) (hS : va_S A0 H0 H locs) (hA : ∀ q, q < H.size → A1 q → A0 q) (hf : ∀ q, free q → A0 q) (hAX : ∀ q, q < H.size → AX q → A0 q)
    (kx : ∀ (E : String) (ce : Cell) (q9 : Addr) (u : SX) (t : State) (H1 : Heap) (locs1 : List Loc), t.heap = H1 → s.vm.Alike t.vm → px u → BX E u t → H.size ≤ H1.size → (∀ q : Nat, q < H.size → ¬ AX q → H1[q]? = H[q]?) → va_S A0 H0 H1 locs1 → H1[q9]? = some ce → ce.vm = .none → s.vm.findClass E = some ce.cls → vx_W p l e R s m args below meth c H1 locs1 (cells + mc) (slots + ms) Q (F0 m pc ls rest) q9)
    (kk : ∀ (r : UInt32) (u : S) (t : State) (H1 : Heap) (locs1 : List Loc), t.heap = H1 → s.vm.Alike t.vm → post r u → B u t → H.size ≤ H1.size → (∀ q : Nat, q < H.size → ¬ A1 q → H1[q]? = H[q]?) → va_S A0 H0 H1 locs1 → W p l e R s m args below meth c H1 locs1 (cells + mc) (slots + ms) Q (F0 m (pc + 3) ls (.float r :: rest))) : W p l e R s m args below meth c H locs cells slots Q (F0 m pc ls st0) := by
  intro T hT X
  rcases hr T hT X with ⟨v, st₀, t, T', L, h0, X', hL, e1, e2, ⟨⟨r, u, hv, hp, hb⟩, hF⟩, st⟩ | ⟨q, st₀, t, T', L, E, ce, h0, X', hL, e1, e2, ⟨u, hp, hb, hF⟩, hce, hcv, hcl, st⟩
  · cases hv
    obtain ⟨k1, k2, k3⟩ := vx_keep h0 e1 hS hA hf hL hF
    obtain ⟨t2, a1, b1⟩ := kk r u t T'.heap (locs ++ L) e1.symm (by rw [← e2]; exact X'.warmed.alike) hp hb k1 k2 k3 T' rfl X'
    exact ⟨t2, st t2 a1, b1⟩
  · obtain ⟨k1, k2, k3⟩ := vx_keep h0 e1 hS hAX hf hL hF
    obtain ⟨t2, a1, b1⟩ := kx E ce q u t T'.heap (locs ++ L) e1.symm (by rw [← e2]; exact X'.warmed.alike) hp hb k1 k2 k3 (by rw [e1]; exact hce) hcv hcl T' rfl X'
    exact ⟨t2, st.trans a1, b1⟩
theorem vx_calld {S SX : Type} {post : UInt64 → S → Prop} {px : SX → Prop} {B : S → State → Prop} {BX : String → SX → State → Prop} {AX : Nat → Prop} (hr : vx_Run p l e R s m args below meth c H locs cells slots mc ms (F0 m pc ls st0) rest (va_Qd post B A1 a) (vx_X px BX AX) free) (hS : va_S A0 H0 H locs) (hA : ∀ q, q < H.size → A1 q → A0 q) (hf : ∀ q, free q → A0 q) (hAX : ∀ q, q < H.size → AX q → A0 q)
    (kx : ∀ (E : String) (ce : Cell) (q9 : Addr) (u : SX) (t : State) (H1 : Heap) (locs1 : List Loc), t.heap = H1 → s.vm.Alike t.vm → px u → BX E u t → H.size ≤ H1.size → (∀ q : Nat, q < H.size → ¬ AX q → H1[q]? = H[q]?) → va_S A0 H0 H1 locs1 → H1[q9]? = some ce → ce.vm = .none → s.vm.findClass E = some ce.cls → vx_W p l e R s m args below meth c H1 locs1 (cells + mc) (slots + ms) Q (F0 m pc ls rest) q9)
    (kk : ∀ (r : UInt64) (u : S) (t : State) (H1 : Heap) (locs1 : List Loc), t.heap = H1 → s.vm.Alike t.vm → post r u → B u t → H.size ≤ H1.size → (∀ q : Nat, q < H.size → ¬ A1 q → H1[q]? = H[q]?) → va_S A0 H0 H1 locs1 → W p l e R s m args below meth c H1 locs1 (cells + mc) (slots + ms) Q (F0 m (pc + 3) ls (.double r :: rest))) : W p l e R s m args below meth c H locs cells slots Q (F0 m pc ls st0) := by
  intro T hT X
  rcases hr T hT X with ⟨v, st₀, t, T', L, h0, X', hL, e1, e2, ⟨⟨r, u, hv, hp, hb⟩, hF⟩, st⟩ | ⟨q, st₀, t, T', L, E, ce, h0, X', hL, e1, e2, ⟨u, hp, hb, hF⟩, hce, hcv, hcl, st⟩
  · cases hv
    obtain ⟨k1, k2, k3⟩ := vx_keep h0 e1 hS hA hf hL hF
    obtain ⟨t2, a1, b1⟩ := kk r u t T'.heap (locs ++ L) e1.symm (by rw [← e2]; exact X'.warmed.alike) hp hb k1 k2 k3 T' rfl X'
    exact ⟨t2, st t2 a1, b1⟩
  · obtain ⟨k1, k2, k3⟩ := vx_keep h0 e1 hS hAX hf hL hF
    obtain ⟨t2, a1, b1⟩ := kx E ce q u t T'.heap (locs ++ L) e1.symm (by rw [← e2]; exact X'.warmed.alike) hp hb k1 k2 k3 (by rw [e1]; exact hce) hcv hcl T' rfl X'
    exact ⟨t2, st.trans a1, b1⟩
theorem vx_callv {S SX : Type} {post : S → Prop} {px : SX → Prop} {B : S → State → Prop} {BX : String → SX → State → Prop} {AX : Nat → Prop} (hr : vx_Run p l e R s m args below meth c H locs cells slots mc ms (F0 m pc ls st0) rest (va_Qv post B A1 a) (vx_X px BX AX) free) (hS : va_S A0 H0 H locs) (hA : ∀ q, q < H.size → A1 q → A0 q) (hf : ∀ q, free q → A0 q) (hAX : ∀ q, q < H.size → AX q → A0 q)
    (kx : ∀ (E : String) (ce : Cell) (q9 : Addr) (u : SX) (t : State) (H1 : Heap) (locs1 : List Loc), t.heap = H1 → s.vm.Alike t.vm → px u → BX E u t → H.size ≤ H1.size → (∀ q : Nat, q < H.size → ¬ AX q → H1[q]? = H[q]?) → va_S A0 H0 H1 locs1 → H1[q9]? = some ce → ce.vm = .none → s.vm.findClass E = some ce.cls → vx_W p l e R s m args below meth c H1 locs1 (cells + mc) (slots + ms) Q (F0 m pc ls rest) q9)
    (kk : ∀ (u : S) (t : State) (H1 : Heap) (locs1 : List Loc), t.heap = H1 → s.vm.Alike t.vm → post u → B u t → H.size ≤ H1.size → (∀ q : Nat, q < H.size → ¬ A1 q → H1[q]? = H[q]?) → va_S A0 H0 H1 locs1 → W p l e R s m args below meth c H1 locs1 (cells + mc) (slots + ms) Q (F0 m (pc + 3) ls (rest))) : W p l e R s m args below meth c H locs cells slots Q (F0 m pc ls st0) := by
  intro T hT X
  rcases hr T hT X with ⟨v, st₀, t, T', L, h0, X', hL, e1, e2, ⟨⟨u, hv, hp, hb⟩, hF⟩, st⟩ | ⟨q, st₀, t, T', L, E, ce, h0, X', hL, e1, e2, ⟨u, hp, hb, hF⟩, hce, hcv, hcl, st⟩
  · cases hv
    obtain ⟨k1, k2, k3⟩ := vx_keep h0 e1 hS hA hf hL hF
    obtain ⟨t2, a1, b1⟩ := kk u t T'.heap (locs ++ L) e1.symm (by rw [← e2]; exact X'.warmed.alike) hp hb k1 k2 k3 T' rfl X'
    exact ⟨t2, st t2 a1, b1⟩
  · obtain ⟨k1, k2, k3⟩ := vx_keep h0 e1 hS hAX hf hL hF
    obtain ⟨t2, a1, b1⟩ := kx E ce q u t T'.heap (locs ++ L) e1.symm (by rw [← e2]; exact X'.warmed.alike) hp hb k1 k2 k3 (by rw [e1]; exact hce) hcv hcl T' rfl X'
    exact ⟨t2, st.trans a1, b1⟩
end Rows
section Ends
variable {p : Program} {l : Launch} {e : Env} {R : Room} {s : State} {m : MethodId} {args : Array Value} {below : List Frame} {meth : Method} {c : Code} {H : Heap} {locs : List Loc} {cells slots : Nat} {Q : State → Prop}
variable {mc ms : Nat} {free : Addr → Prop} {A0 A1 : Nat → Prop} {H0 : Heap} {a : Array Value} {ls : Array Slot} {st0 rest : List Value}
variable {Qc : Array Value → State → Outcome → State → Prop} {XC : String → State → State → Prop}
/-- what a body that may throw owes at its end -/
def vx_MQ (below : List Frame) (Qc : Array Value → State → Outcome → State → Prop) (XC : String → State → State → Prop) (a : Array Value) (s : State) (mc ms : Nat) (free : Addr → Prop) : State → Prop := fun t =>
  ∃ o, t.status = .running ∧ Ended t below o ∧ vx_Q Qc XC mc ms free a s o t
theorem vx_ret {g : JFrame} {mc ms : Nat} (k : W p l e R s m args below meth c H locs cells slots (MQ below Qc args s mc ms free) g) : W p l e R s m args below meth c H locs cells slots (vx_MQ below Qc XC args s mc ms free) g := by
  intro T hT X
  obtain ⟨t, a1, o, b1, b2, b3, b4⟩ := k T hT X
  exact ⟨t, a1, o, b1, b2, Or.inl ⟨b3, b4⟩⟩
/-- not caught here: it goes on to the caller -/
theorem vx_widen {g : JFrame} {q : Addr} {k n : Nat} (h1 : cells ≤ k) (h2 : slots ≤ n) (kk : vx_W p l e R s m args below meth c H locs k n Q g q) : vx_W p l e R s m args below meth c H locs cells slots Q g q := fun T hT X => kk T hT (stand_widen X h1 h2)
theorem vx_out {pc : Nat} {E : String} {ce : Cell} {q : Addr} {mc ms : Nat} (hout : ∀ x ∈ c.exceptionTable.toList, covers x pc = false) (hlocks : meth.locks = false) (hcell : H[q]? = some ce) (hv : ce.vm = .none) (hcl : s.vm.findClass E = some ce.cls)
    (hx : ∀ t : State, t.heap = H → s.vm.Alike t.vm → XC E s t) (hf : ∀ z ∈ locs, free z.base) (hc : cells ≤ mc) (hs : slots ≤ ms) :
    vx_W p l e R s m args below meth c H locs cells slots (vx_MQ below Qc XC args s mc ms free) (F0 m pc ls rest) q := by
  intro T hT X
  obtain ⟨st1, hrun, hend, hW, hsm⟩ := X.leaveThrown q (g := F0 m pc ls rest) rfl rfl rfl hout hlocks
  have hcell9 : (T.setFrames (.throwing q :: below)).heap[q]? = some ce := by
    show T.heap[q]? = some ce
    rw [hT]; exact hcell
  exact ⟨_, st1, .threw q, hrun, hend, Or.inr ⟨q, rfl, E, ce, locs, hx _ hT hW.alike, hcell9, hv, hcl, hW, hsm.mono hc hs, hf⟩⟩
theorem vx_frame {U : State} {k n : Nat} (h : s.sameButNew ({ U with vm := s.vm } : State) locs k n) : s.heap.size ≤ U.heap.size ∧ ∀ q : Nat, q < s.heap.size → (∀ z ∈ locs, z.base ≠ q) → U.heap[q]? = s.heap[q]? := by
  obtain ⟨-, h2, -, -, -, h6⟩ := h
  refine ⟨h2, fun q hq hz => ?_⟩
  obtain ⟨c9, e1, e2, e3, e4⟩ := h6 q _ (Array.getElem?_eq_getElem hq)
  have hs : c9.slots = (s.heap[q]).slots := Array.ext_getElem? fun i => e4 i fun hm => hz _ hm rfl
  have h9 : c9 = s.heap[q] := by
    rw [hs] at e2
    exact e2
  have e5 : U.heap[q]? = some c9 := e1
  rw [e5, h9, Array.getElem?_eq_getElem hq]
/-- the words of a throw but the four that speak of the heap -/
def vx_no (w : Cond) : Bool := decide (w ≠ .isRef (.static Bundle.tN "UNASSIGNED_STACK" Bundle.steD)) && decide (w ≠ .isRef (.static Bundle.tN "SUPPRESSED_SENTINEL" Bundle.listD)) && decide (w ≠ .laysStatic Bundle.tN "UNASSIGNED_STACK" Bundle.steD) && decide (w ≠ .laysStatic Bundle.tN "SUPPRESSED_SENTINEL" Bundle.listD)
def vx_at0 (own : String) (ic : Nat) (X : String) (names : List String) : List Cond := (Bundle.ownAtoms0 own ic X names).filter vx_no
def vx_atS (own : String) (ic : Nat) (X : String) (names : List String) : List Cond := (Bundle.ownAtoms own ic X names).filter vx_no
/-- a word that the tables alone decide, or a good one -/
def vx_ot (w : Cond) : Bool := w.onTables || goodWord w
theorem vx_ot_at {args a' : Array Value} {s U : State} {w : Cond} (hW : s.WarmedH U.vm) (hvm : s.vm = U.vm) (hg : vx_ot w = true) (h : w.before args s = true) : w.before a' U = true := by
  simp only [vx_ot, Bool.or_eq_true] at hg
  rcases hg with hg | hg
  · exact va_tabs hg hvm h
  · exact word_at hW (good_of_word hg) h
/-- a list's words: the good ones out of the method's own list, the others by premises of their own -/
theorem vx_hat {args : Array Value} {s : State} {L B : List Cond} (h1 : ∀ w ∈ L.filter goodWord, w.before args s = true) (h2 : ∀ w ∈ L.filter (fun w => !goodWord w), w ∈ B) (h3 : ∀ w ∈ B, w.before args s = true) : ∀ w ∈ L, w.before args s = true := by
  intro w hw
  by_cases g : goodWord w = true
  · exact h1 w (List.mem_filter.mpr ⟨hw, g⟩)
  · refine h3 w (h2 w (List.mem_filter.mpr ⟨hw, ?_⟩))
    show (!goodWord w) = true
    cases hgw : goodWord w
    · rfl
    · exact absurd hgw g
theorem vx_c {args : Array Value} {s : State} {w : Cond} {B : List Cond} (h : w.before args s = true) (t : ∀ w ∈ B, w.before args s = true) : ∀ w' ∈ w :: B, w'.before args s = true := fun w' h' => (List.mem_cons.mp h').elim (fun e => by rw [e]; exact h) (t w')
theorem vx_n {args : Array Value} {s : State} : ∀ w ∈ ([] : List Cond), w.before args s = true := fun _ h => nomatch h
theorem vx_own {args : Array Value} {s : State} {L : List Cond} (h1 : ∀ w ∈ L.filter vx_no, w.before args s = true)
    (hU : (Cond.isRef (.static Bundle.tN "UNASSIGNED_STACK" Bundle.steD)).before args s = true) (hN : (Cond.isRef (.static Bundle.tN "SUPPRESSED_SENTINEL" Bundle.listD)).before args s = true)
    (lU : (Cond.laysStatic Bundle.tN "UNASSIGNED_STACK" Bundle.steD).before args s = true) (lN : (Cond.laysStatic Bundle.tN "SUPPRESSED_SENTINEL" Bundle.listD).before args s = true) : ∀ w ∈ L, w.before args s = true := by
  intro w hw
  by_cases e1 : w = .isRef (.static Bundle.tN "UNASSIGNED_STACK" Bundle.steD)
  · rw [e1]; exact hU
  · by_cases e2 : w = .isRef (.static Bundle.tN "SUPPRESSED_SENTINEL" Bundle.listD)
    · rw [e2]; exact hN
    · by_cases e3 : w = .laysStatic Bundle.tN "UNASSIGNED_STACK" Bundle.steD
      · rw [e3]; exact lU
      · by_cases e4 : w = .laysStatic Bundle.tN "SUPPRESSED_SENTINEL" Bundle.listD
        · rw [e4]; exact lN
        · exact h1 w (List.mem_filter.mpr ⟨hw, by unfold vx_no; rw [decide_eq_true e1, decide_eq_true e2, decide_eq_true e3, decide_eq_true e4]; rfl⟩)
/-- where a static field lies, its class's statics cell in H -/
def vx_L (C n d : String) (A : Nat → Prop) (U : State) (H : Heap) : Prop := ∃ (c : ClassId) (k : Class) (i : Nat) (f : Field) (a : Nat) (cell : Cell), U.vm.findClass C = some c ∧ U.fieldFound? C n d = some (c, k, i, f) ∧ f.isStatic = true ∧ k.statics = some a ∧ H[a]? = some cell ∧ cell.vm.isStatics = true ∧ cell.cls = c ∧ f.slot < cell.slots.size ∧ k.staticTypes[f.slot]? = some f.type ∧ ¬ A a
theorem vx_L.moved {C n d : String} {A : Nat → Prop} {u U : State} {H : Heap} (hvm : u.vm.Alike U.vm) (h : vx_L C n d A u H) : vx_L C n d A U H := by
  obtain ⟨c, k, i, f, a, cell, h1, h2, h3, h4, h5, h6, h7, h8, h9, h10⟩ := h
  obtain ⟨k', hi', he⟩ := State.fieldFound?_setVm hvm h2
  exact ⟨c, k', i, f, a, cell, by rw [hvm.findClass]; exact h1, hi', h3, by rw [he]; exact h4, h5, h6, h7, h8, by rw [he]; exact h9, h10⟩
theorem vx_L.kept {C n d : String} {A : Nat → Prop} {U : State} {H H1 : Heap} (h : vx_L C n d A U H) (hq : ∀ a : Nat, a < H.size → ¬ A a → H1[a]? = H[a]?) : vx_L C n d A U H1 := by
  obtain ⟨c, k, i, f, a, cell, h1, h2, h3, h4, h5, h6, h7, h8, h9, h10⟩ := h
  exact ⟨c, k, i, f, a, cell, h1, h2, h3, h4, by rw [hq a (Array.getElem?_eq_some_iff.mp h5).1 h10]; exact h5, h6, h7, h8, h9, h10⟩
theorem vx_L.narrow {C n d : String} {A B : Nat → Prop} {U : State} {H : Heap} (h : vx_L C n d A U H) (hAB : ∀ q, B q → A q) : vx_L C n d B U H := by
  obtain ⟨c, k, i, f, a, cell, h1, h2, h3, h4, h5, h6, h7, h8, h9, h10⟩ := h
  exact ⟨c, k, i, f, a, cell, h1, h2, h3, h4, h5, h6, h7, h8, h9, fun z => h10 (hAB _ z)⟩
theorem vx_L.word {C n d : String} {A : Nat → Prop} {s : State} {args : Array Value} (h : vx_L C n d A s s.heap) : (Cond.laysStatic C n d).before args s = true := by
  obtain ⟨c, k, i, f, a, cell, h1, h2, h3, h4, h5, h6, h7, h8, h9, -⟩ := h
  show (Cond.laysStatic C n d).holds args s none s [] = true
  exact Cond.laysStatic_of h1 h2 h3 h4 h5 h6 h7 h8 h9
/-- .. and what it holds: null or some reference -/
def vx_Zq (C n d : String) (A : Nat → Prop) (U : State) (H : Heap) : Prop := va_Zq C n d A U H ∧ vx_L C n d A U H
theorem vx_Zq.moved {C n d : String} {A : Nat → Prop} {u U : State} {H : Heap} (hvm : u.vm.Alike U.vm) (h : vx_Zq C n d A u H) : vx_Zq C n d A U H := ⟨va_Zq.moved hvm h.1, vx_L.moved hvm h.2⟩
theorem vx_Zq.kept {C n d : String} {A : Nat → Prop} {U : State} {H H1 : Heap} (h : vx_Zq C n d A U H) (hq : ∀ a : Nat, a < H.size → ¬ A a → H1[a]? = H[a]?) : vx_Zq C n d A U H1 := ⟨va_Zq.kept h.1 hq, vx_L.kept h.2 hq⟩
theorem vx_Zq.narrow {C n d : String} {A B : Nat → Prop} {U : State} {H : Heap} (h : vx_Zq C n d A U H) (hAB : ∀ q, B q → A q) : vx_Zq C n d B U H := ⟨va_Zq.narrow h.1 hAB, vx_L.narrow h.2 hAB⟩
theorem vx_Zqof {args : Array Value} {s : State} {C n d : String} {A : Nat → Prop} (hl : (Cond.laysStatic C n d).before args s = true) (hini : (Cond.initialized C).before args s = true) (h : (Cond.isRef (.static C n d)).before args s = true) (hA : ∀ a : Nat, a < s.heap.size → ¬ A a) : vx_Zq C n d A s s.heap := by
  refine ⟨va_Zqof hl hini h hA, ?_⟩
  obtain ⟨c, k, i, f, a, cell, h1, h2, h3, h4, h5, h6, h7, h8, h9⟩ := Cond.laysStatic_spec hl
  exact ⟨c, k, i, f, a, cell, h1, h2, h3, h4, h5, h6, h7, h8, h9, hA a (Array.getElem?_eq_some_iff.mp h5).1⟩
theorem vx_isRef {C n d : String} {v : Value} {A : Nat → Prop} {s : State} {args : Array Value} (h : va_Z C n d v A s s.heap) (hv : v.isRef = true) : (Cond.isRef (.static C n d)).before args s = true := by
  obtain ⟨cf, kf, fi, f, a, cell, h1, h2, h3, h4, h5, h6, h7, -⟩ := h
  have he : (Term.static C n d).eval args s none [] s = some v := by
    simp [Term.eval, State.fieldNamed?, h1, h2, h4, h5, h6, h7]
  simp only [Cond.before, Cond.holds, Cond.value, he]
  cases v <;> simp_all [Value.isRef]
theorem vx_isRefq {C n d : String} {A : Nat → Prop} {s : State} {args : Array Value} (h : va_Zq C n d A s s.heap) : (Cond.isRef (.static C n d)).before args s = true := by
  rcases h with h | ⟨t, h⟩
  · exact vx_isRef h rfl
  · exact vx_isRef h rfl
/-- the same frame, seen from here: as if the method were called anew in this heap -/
theorem vx_rebase {T : State} (X : Stand p l e R s m args below meth c T locs cells slots) {R' : Room} (hf : R'.frames ≤ R.frames) (hl : R'.locals ≤ R.locals) (hc : cells + R'.cells ≤ R.cells) (hs : slots + R'.slots ≤ R.slots) :
    Stand p l e R' ((T.setVm s.vm).setFrames (.invoking m args :: below)) m args below meth c T [] 0 0 := by
  have htop : (T.setVm s.vm).topJava?.isSome := X.here.top
  have hF : ((T.setVm s.vm).setFrames (.invoking m args :: below)).frames = .invoking m args :: below := State.frames_setFrames _ (State.cur_lt_of_top htop)
  obtain ⟨g₀, hg0⟩ := Option.isSome_iff_exists.mp htop
  obtain ⟨r, hr⟩ := State.topJava?_eq_some.mp hg0
  have hl9 : e.platform.stackLimits (T.setVm s.vm).me = e.platform.stackLimits s.me := X.limits
  have hb9 : (T.setVm s.vm).me.stackBytes = s.me.stackBytes := X.bytes
  refine ⟨X.admits, X.cas, X.clock, hF, ?_, X.hears, X.method, X.code, X.here, X.tail, X.warmed, ?_, ?_, ?_⟩
  · have h := X.room
    have hU : ((T.setVm s.vm).setFrames (.invoking m args :: below)).localsInUse = s.localsInUse := by
      rw [State.localsInUse_invoking hF (meth := meth) (c := c) X.method X.code, State.localsInUse_invoking X.frames X.method X.code]
    simp only [State.hasRoom, Bool.and_eq_true, decide_eq_true_eq] at h ⊢
    obtain ⟨⟨⟨⟨h1, h2, h3, h4, h5, h6⟩, h7⟩, h8⟩, h9⟩ := h
    rw [X.frames, List.length_cons] at h2 h3
    have q1 := X.heapSize
    have q2 := X.used
    simp only [hF, hU, List.length_cons, State.stackLimits_setFrames, State.stackBytes_setFrames, hl9, hb9]
    refine ⟨⟨⟨⟨by omega, by omega, by omega, by omega, by omega, h6⟩, ?_⟩, ?_⟩, X.book⟩
    · show T.heap.size + R'.cells ≤ e.platform.maxCells
      omega
    · show T.slotsUsed + R'.slots ≤ e.platform.maxSlots
      omega
  · rw [State.stackLimits_setFrames]; rfl
  · rw [State.stackBytes_setFrames]; rfl
  · refine ⟨?_, Nat.le_refl _, Nat.le_refl _, ?_, ?_, fun a c9 h9 => ⟨c9, h9, rfl, rfl, fun _ _ => rfl⟩⟩
    · obtain ⟨t, ht, -⟩ := State.frames_cons hr
      show T.setVm s.vm = { ((T.setVm s.vm).setFrames (.invoking m args :: below)).setFrames (T.setVm s.vm).frames with heap := T.heap, slotsUsed := T.slotsUsed }
      rw [State.setFrames_setFrames, State.setFrames_self ht]
      rfl
    · show T.slotsUsed = T.slotsUsed + ((T.heap.toList.drop T.heap.size).map (·.slots.size)).sum
      rw [List.drop_eq_nil_of_le (Nat.le_of_eq Array.length_toList)]
      rfl
    · show ((T.heap.toList.drop T.heap.size).map (·.slots.size)).sum ≤ 0
      rw [List.drop_eq_nil_of_le (Nat.le_of_eq Array.length_toList)]
      exact Nat.le_refl _
/-- 'throw new E()': new; dup; invokespecial; athrow -/
theorem vx_throw0 {cc : ByteArray} {pc : Nat} (hexec : p.tables.exec = Jvm.exec) (hb : c.code = cc) (hl : l.stackTraces = false) {own cls : String} {names : List String} {ik ic mc ms : Nat} {A : Nat → Prop}
    (hown : s.vm.findClass own = some m.cls) (hcls : Bundle.fit cls = true) (hnames : ∀ n ∈ names, Bundle.fit n = true)
    (hk : (Cond.classLink own ik cls).before args s = true) (hini : (Cond.initialized cls).before args s = true) (hat : ∀ w ∈ vx_at0 own ic cls names, w.before args s = true)
    (hgood : ∀ w ∈ Cond.classLink own ik cls :: Cond.initialized cls :: vx_at0 own ic cls names, vx_ot w = true)
    (hU : vx_Zq Bundle.tN "UNASSIGNED_STACK" Bundle.steD A s s.heap) (hN : vx_Zq Bundle.tN "SUPPRESSED_SENTINEL" Bundle.listD A s s.heap) (hS : va_S A s.heap H locs) (hsize : ls.size = c.maxLocals)
    (d0 : decode cc pc = .ok (.new ik, 3)) (d3 : decode cc (pc + 3) = .ok (.dup, 1)) (d4 : decode cc (pc + 4) = .ok (.invokespecial ic, 3)) (d7 : decode cc (pc + 7) = .ok (.athrow, 1))
    (hout : ∀ x ∈ c.exceptionTable.toList, covers x (pc + 7) = false)
    (hRframes : names.length + 3 < R.frames) (hRlocals : (rest.map fun v => v.category).sum + (13 * (names.length + 1) + 42) ≤ R.locals) (hRcells : cells + 1 ≤ R.cells) (hRslots : slots + 6 ≤ R.slots) (hlocks : meth.locks = false)
    (hx : ∀ t : State, s.vm.Alike t.vm → H.size ≤ t.heap.size → (∀ q : Nat, q < H.size → t.heap[q]? = H[q]?) → XC cls s t)
    (hf : ∀ z ∈ locs, free z.base) (hc : cells + 1 ≤ mc) (hs : slots + 6 ≤ ms) :
    W p l e R s m args below meth c H locs cells slots (vx_MQ below Qc XC args s mc ms free) (F0 m pc ls rest) := by
  intro T hT X
  have htr : e.platform.stackTraces = false := (show e.platform.stackTraces = l.stackTraces by rw [X.admits.platform]).trans hl
  have Y := vx_rebase X (R' := { frames := R.frames, locals := R.locals, cells := 1, slots := 6 }) (Nat.le_refl _) (Nat.le_refl _) hRcells hRslots
  obtain ⟨s', hA⟩ : ∃ z, z = (T.setVm s.vm).setFrames (.invoking m args :: below) := ⟨_, rfl⟩
  rw [← hA] at Y
  have hvm : s'.vm = s.vm := by rw [hA]; rfl
  have hhp : s'.heap = H := by rw [hA]; exact hT
  have hW0 : s.WarmedH s'.vm := by rw [hvm]; exact State.WarmedH.refl s
  have hat' : ∀ w ∈ vx_at0 own ic cls names, w.before args s' = true := fun w hw => vx_ot_at hW0 hvm.symm (hgood w (List.mem_cons_of_mem _ (List.mem_cons_of_mem _ hw))) (hat w hw)
  have hk' : (Cond.classLink own ik cls).before args s' = true := vx_ot_at hW0 hvm.symm (hgood _ List.mem_cons_self) hk
  have hini' : (Cond.initialized cls).before args s' = true := vx_ot_at hW0 hvm.symm (hgood _ (List.mem_cons_of_mem _ List.mem_cons_self)) hini
  have hU' : vx_Zq Bundle.tN "UNASSIGNED_STACK" Bundle.steD A s' s'.heap := by rw [hhp]; exact vx_Zq.moved hW0.alike (hU.kept hS.2.1)
  have hN' : vx_Zq Bundle.tN "SUPPRESSED_SENTINEL" Bundle.listD A s' s'.heap := by rw [hhp]; exact vx_Zq.moved hW0.alike (hN.kept hS.2.1)
  have h : ∀ w ∈ Bundle.ownAtoms0 own ic cls names, w.before args s' = true := vx_own hat' (vx_isRefq hU'.1) (vx_isRefq hN'.1) hU'.2.word hN'.2.word
  have hown' : s'.vm.findClass own = some m.cls := by rw [hvm]; exact hown
  have hins : (Cond.instantiable cls 6).before args s' = true := h _ (by simp [Bundle.ownAtoms0])
  obtain ⟨vm₁, cX, kX, hfX, hkX, -, -, X₁, st1⟩ := Y.newCold hexec (own := own) (C := cls) (index := ik) (n := 6) hown' hk' hins hini'
    (g := F0 m pc ls rest) rfl (by rw [hb]; exact d0) (Nat.le_refl _) (Nat.le_refl _)
  generalize hT1 : (T.setVm vm₁).pushCell { cls := cX, slots := kX.instanceTypes.map defaultValue, vm := .none } = T1 at X₁ st1
  have hcat : (Value.ref T.heap.size).category = 1 := rfl
  have hcellA : T1.heap[T.heap.size]? = some (freshCell cX kX) := by rw [← hT1]; exact State.heap_pushCell_size _ _
  have d3' : decode c.code (pc + 3) = .ok (.dup, 1) := by rw [hb]; exact d3
  obtain ⟨U, hsteps, hrun, hend, hW, hsame, ce, hce, hO⟩ := X₁.ctorThrow0 hexec htr (own := own) (cls := cls) (names := names) (ic := ic) hown' hcls hnames h (fun x hx => nomatch hx) hfX hkX hcellA (by rw [hhp, hT]; exact Nat.le_refl _)
    (g := { method := m, pc := pc + 4, locals := ls, stack := .ref T.heap.size :: .ref T.heap.size :: rest, locked := none }) rfl hsize rfl rfl (rest := rest) rfl
    (by rw [hb]; exact d4) (by rw [hb]; exact d7) hout hRframes (by simp only [List.map_cons, List.sum_cons, hcat]; omega) hlocks
  obtain ⟨f1, f2⟩ := vx_frame hsame
  rw [hhp] at f1 f2
  have hWs : s.WarmedH U.vm := State.WarmedH.trans hW0 hW
  have hcl : s.vm.findClass cls = some ce.cls := by
    have h9 := hO.cls
    rw [hvm] at h9
    exact h9
  have hall : s.sameButNew ({ U with vm := s.vm } : State) locs mc ms := by
    subst hA
    obtain ⟨e1, e2⟩ := hsame
    rw [State.setFrames_setFrames] at e1
    have h2 : (T.setVm s.vm).sameButNew ({ U with vm := s.vm } : State) [] (0 + 1) (0 + 6) := ⟨e1, e2⟩
    have h3 := X.same.trans h2
    rw [List.append_nil] at h3
    exact h3.mono hc hs
  refine ⟨U, ?_, .threw T.heap.size, hrun, hend, Or.inr ⟨T.heap.size, rfl, cls, ce, locs, hx U hWs.alike f1 (fun q hq => f2 q hq (fun z hz => nomatch hz)), hce, hO.vm, hcl, hWs, hall, hf⟩⟩
  refine st1 _ ?_
  show Steps p.tables e below (T1.setTop { method := m, pc := pc + 3, locals := ls, stack := .ref T.heap.size :: rest, locked := none }) _
  jvm_step X₁.here [X₁.here.top, hexec, d3', Value.category]
  exact hsteps
/-- 'throw new E("text")': new; dup; ldc; invokespecial; athrow -/
theorem vx_throwS {cc : ByteArray} {pc : Nat} (hexec : p.tables.exec = Jvm.exec) (hb : c.code = cc) (hl : l.stackTraces = false) {own cls text : String} {names : List String} {ik is ic mc ms sa : Nat} {A : Nat → Prop}
    (hown : s.vm.findClass own = some m.cls) (hcls : Bundle.fit cls = true) (hnames : ∀ n ∈ names, Bundle.fit n = true)
    (hk : (Cond.classLink own ik cls).before args s = true) (hini : (Cond.initialized cls).before args s = true) (hstr : vk_R own is text sa s) (hat : ∀ w ∈ vx_atS own ic cls names, w.before args s = true)
    (hgood : ∀ w ∈ Cond.classLink own ik cls :: Cond.initialized cls :: vx_atS own ic cls names, vx_ot w = true)
    (hU : vx_Zq Bundle.tN "UNASSIGNED_STACK" Bundle.steD A s s.heap) (hN : vx_Zq Bundle.tN "SUPPRESSED_SENTINEL" Bundle.listD A s s.heap) (hS : va_S A s.heap H locs) (hsize : ls.size = c.maxLocals)
    (d0 : decode cc pc = .ok (.new ik, 3)) (d3 : decode cc (pc + 3) = .ok (.dup, 1)) (d4 : decode cc (pc + 4) = .ok (.ldc is, 2)) (d6 : decode cc (pc + 6) = .ok (.invokespecial ic, 3)) (d9 : decode cc (pc + 9) = .ok (.athrow, 1))
    (hout : ∀ x ∈ c.exceptionTable.toList, covers x (pc + 9) = false)
    (hRframes : names.length + 3 < R.frames) (hRlocals : (rest.map fun v => v.category).sum + (13 * (names.length + 1) + 43) ≤ R.locals) (hRcells : cells + 1 ≤ R.cells) (hRslots : slots + 6 ≤ R.slots) (hlocks : meth.locks = false)
    (hx : ∀ t : State, s.vm.Alike t.vm → H.size ≤ t.heap.size → (∀ q : Nat, q < H.size → t.heap[q]? = H[q]?) → XC cls s t)
    (hf : ∀ z ∈ locs, free z.base) (hc : cells + 1 ≤ mc) (hs : slots + 6 ≤ ms) :
    W p l e R s m args below meth c H locs cells slots (vx_MQ below Qc XC args s mc ms free) (F0 m pc ls rest) := by
  intro T hT X
  have htr : e.platform.stackTraces = false := (show e.platform.stackTraces = l.stackTraces by rw [X.admits.platform]).trans hl
  have Y := vx_rebase X (R' := { frames := R.frames, locals := R.locals, cells := 1, slots := 6 }) (Nat.le_refl _) (Nat.le_refl _) hRcells hRslots
  obtain ⟨s', hA⟩ : ∃ z, z = (T.setVm s.vm).setFrames (.invoking m args :: below) := ⟨_, rfl⟩
  rw [← hA] at Y
  have hvm : s'.vm = s.vm := by rw [hA]; rfl
  have hhp : s'.heap = H := by rw [hA]; exact hT
  have hW0 : s.WarmedH s'.vm := by rw [hvm]; exact State.WarmedH.refl s
  have hat' : ∀ w ∈ vx_atS own ic cls names, w.before args s' = true := fun w hw => vx_ot_at hW0 hvm.symm (hgood w (List.mem_cons_of_mem _ (List.mem_cons_of_mem _ hw))) (hat w hw)
  have hk' : (Cond.classLink own ik cls).before args s' = true := vx_ot_at hW0 hvm.symm (hgood _ List.mem_cons_self) hk
  have hini' : (Cond.initialized cls).before args s' = true := vx_ot_at hW0 hvm.symm (hgood _ (List.mem_cons_of_mem _ List.mem_cons_self)) hini
  have hU' : vx_Zq Bundle.tN "UNASSIGNED_STACK" Bundle.steD A s' s'.heap := by rw [hhp]; exact vx_Zq.moved hW0.alike (hU.kept hS.2.1)
  have hN' : vx_Zq Bundle.tN "SUPPRESSED_SENTINEL" Bundle.listD A s' s'.heap := by rw [hhp]; exact vx_Zq.moved hW0.alike (hN.kept hS.2.1)
  have h : ∀ w ∈ Bundle.ownAtoms own ic cls names, w.before args s' = true := vx_own hat' (vx_isRefq hU'.1) (vx_isRefq hN'.1) hU'.2.word hN'.2.word
  have hown' : s'.vm.findClass own = some m.cls := by rw [hvm]; exact hown
  have hins : (Cond.instantiable cls 6).before args s' = true := h _ (by simp [Bundle.ownAtoms])
  obtain ⟨vm₁, cX, kX, hfX, hkX, -, -, X₁, st1⟩ := Y.newCold hexec (own := own) (C := cls) (index := ik) (n := 6) hown' hk' hins hini'
    (g := F0 m pc ls rest) rfl (by rw [hb]; exact d0) (Nat.le_refl _) (Nat.le_refl _)
  generalize hT1 : (T.setVm vm₁).pushCell { cls := cX, slots := kX.instanceTypes.map defaultValue, vm := .none } = T1 at X₁ st1
  have hcat : (Value.ref T.heap.size).category = 1 := rfl
  have hcellA : T1.heap[T.heap.size]? = some (freshCell cX kX) := by rw [← hT1]; exact State.heap_pushCell_size _ _
  have d3' : decode c.code (pc + 3) = .ok (.dup, 1) := by rw [hb]; exact d3
  have d4' : decode c.code (pc + 4) = .ok (.ldc is, 2) := by rw [hb]; exact d4
  have hstr' : vk_R own is text sa s' := vk_R.warm hW0 hstr
  obtain ⟨U, hsteps, hrun, hend, hW, hsame, ce, hce, hO⟩ := X₁.ctorThrowS hexec htr (own := own) (cls := cls) (names := names) (ic := ic) hown' hcls hnames h (fun x hx => nomatch hx) hfX hkX hcellA (by rw [hhp, hT]; exact Nat.le_refl _) (msg := .ref sa) rfl
    (g := { method := m, pc := pc + 6, locals := ls, stack := .ref sa :: .ref T.heap.size :: .ref T.heap.size :: rest, locked := none }) rfl hsize rfl rfl (rest := rest) rfl
    (by rw [hb]; exact d6) (by rw [hb]; exact d9) hout hRframes (by simp only [List.map_cons, List.sum_cons, hcat]; omega) hlocks
  obtain ⟨f1, f2⟩ := vx_frame hsame
  rw [hhp] at f1 f2
  have hWs : s.WarmedH U.vm := State.WarmedH.trans hW0 hW
  have hcl : s.vm.findClass cls = some ce.cls := by
    have h9 := hO.cls
    rw [hvm] at h9
    exact h9
  have hall : s.sameButNew ({ U with vm := s.vm } : State) locs mc ms := by
    subst hA
    obtain ⟨e1, e2⟩ := hsame
    rw [State.setFrames_setFrames] at e1
    have h2 : (T.setVm s.vm).sameButNew ({ U with vm := s.vm } : State) [] (0 + 1) (0 + 6) := ⟨e1, e2⟩
    have h3 := X.same.trans h2
    rw [List.append_nil] at h3
    exact h3.mono hc hs
  refine ⟨U, ?_, .threw T.heap.size, hrun, hend, Or.inr ⟨T.heap.size, rfl, cls, ce, locs, hx U hWs.alike f1 (fun q hq => f2 q hq (fun z hz => nomatch hz)), hce, hO.vm, hcl, hWs, hall, hf⟩⟩
  refine st1 _ ?_
  show Steps p.tables e below (T1.setTop { method := m, pc := pc + 3, locals := ls, stack := .ref T.heap.size :: rest, locked := none }) _
  jvm_step X₁.here [X₁.here.top, hexec, d3', Value.category]
  exact X₁.ldcString hexec (own := own) (text := text) (index := is) (a := sa) hown' hstr'.1 hstr'.2
    (g := { method := m, pc := pc + 4, locals := ls, stack := .ref T.heap.size :: .ref T.heap.size :: rest, locked := none }) rfl d4' _ hsteps
/-- 'throw new E("text")', the text by a wide index -/
theorem vx_throwSW {cc : ByteArray} {pc : Nat} (hexec : p.tables.exec = Jvm.exec) (hb : c.code = cc) (hl : l.stackTraces = false) {own cls text : String} {names : List String} {ik is ic mc ms sa : Nat} {A : Nat → Prop}
    (hown : s.vm.findClass own = some m.cls) (hcls : Bundle.fit cls = true) (hnames : ∀ n ∈ names, Bundle.fit n = true)
    (hk : (Cond.classLink own ik cls).before args s = true) (hini : (Cond.initialized cls).before args s = true) (hstr : vk_R own is text sa s) (hat : ∀ w ∈ vx_atS own ic cls names, w.before args s = true)
    (hgood : ∀ w ∈ Cond.classLink own ik cls :: Cond.initialized cls :: vx_atS own ic cls names, vx_ot w = true)
    (hU : vx_Zq Bundle.tN "UNASSIGNED_STACK" Bundle.steD A s s.heap) (hN : vx_Zq Bundle.tN "SUPPRESSED_SENTINEL" Bundle.listD A s s.heap) (hS : va_S A s.heap H locs) (hsize : ls.size = c.maxLocals)
    (d0 : decode cc pc = .ok (.new ik, 3)) (d3 : decode cc (pc + 3) = .ok (.dup, 1)) (d4 : decode cc (pc + 4) = .ok (.ldc_w is, 3)) (d7 : decode cc (pc + 7) = .ok (.invokespecial ic, 3)) (d10 : decode cc (pc + 10) = .ok (.athrow, 1))
    (hout : ∀ x ∈ c.exceptionTable.toList, covers x (pc + 10) = false)
    (hRframes : names.length + 3 < R.frames) (hRlocals : (rest.map fun v => v.category).sum + (13 * (names.length + 1) + 43) ≤ R.locals) (hRcells : cells + 1 ≤ R.cells) (hRslots : slots + 6 ≤ R.slots) (hlocks : meth.locks = false)
    (hx : ∀ t : State, s.vm.Alike t.vm → H.size ≤ t.heap.size → (∀ q : Nat, q < H.size → t.heap[q]? = H[q]?) → XC cls s t)
    (hf : ∀ z ∈ locs, free z.base) (hc : cells + 1 ≤ mc) (hs : slots + 6 ≤ ms) :
    W p l e R s m args below meth c H locs cells slots (vx_MQ below Qc XC args s mc ms free) (F0 m pc ls rest) := by
  intro T hT X
  have htr : e.platform.stackTraces = false := (show e.platform.stackTraces = l.stackTraces by rw [X.admits.platform]).trans hl
  have Y := vx_rebase X (R' := { frames := R.frames, locals := R.locals, cells := 1, slots := 6 }) (Nat.le_refl _) (Nat.le_refl _) hRcells hRslots
  obtain ⟨s', hA⟩ : ∃ z, z = (T.setVm s.vm).setFrames (.invoking m args :: below) := ⟨_, rfl⟩
  rw [← hA] at Y
  have hvm : s'.vm = s.vm := by rw [hA]; rfl
  have hhp : s'.heap = H := by rw [hA]; exact hT
  have hW0 : s.WarmedH s'.vm := by rw [hvm]; exact State.WarmedH.refl s
  have hat' : ∀ w ∈ vx_atS own ic cls names, w.before args s' = true := fun w hw => vx_ot_at hW0 hvm.symm (hgood w (List.mem_cons_of_mem _ (List.mem_cons_of_mem _ hw))) (hat w hw)
  have hk' : (Cond.classLink own ik cls).before args s' = true := vx_ot_at hW0 hvm.symm (hgood _ List.mem_cons_self) hk
  have hini' : (Cond.initialized cls).before args s' = true := vx_ot_at hW0 hvm.symm (hgood _ (List.mem_cons_of_mem _ List.mem_cons_self)) hini
  have hU' : vx_Zq Bundle.tN "UNASSIGNED_STACK" Bundle.steD A s' s'.heap := by rw [hhp]; exact vx_Zq.moved hW0.alike (hU.kept hS.2.1)
  have hN' : vx_Zq Bundle.tN "SUPPRESSED_SENTINEL" Bundle.listD A s' s'.heap := by rw [hhp]; exact vx_Zq.moved hW0.alike (hN.kept hS.2.1)
  have h : ∀ w ∈ Bundle.ownAtoms own ic cls names, w.before args s' = true := vx_own hat' (vx_isRefq hU'.1) (vx_isRefq hN'.1) hU'.2.word hN'.2.word
  have hown' : s'.vm.findClass own = some m.cls := by rw [hvm]; exact hown
  have hins : (Cond.instantiable cls 6).before args s' = true := h _ (by simp [Bundle.ownAtoms])
  obtain ⟨vm₁, cX, kX, hfX, hkX, -, -, X₁, st1⟩ := Y.newCold hexec (own := own) (C := cls) (index := ik) (n := 6) hown' hk' hins hini'
    (g := F0 m pc ls rest) rfl (by rw [hb]; exact d0) (Nat.le_refl _) (Nat.le_refl _)
  generalize hT1 : (T.setVm vm₁).pushCell { cls := cX, slots := kX.instanceTypes.map defaultValue, vm := .none } = T1 at X₁ st1
  have hcat : (Value.ref T.heap.size).category = 1 := rfl
  have hcellA : T1.heap[T.heap.size]? = some (freshCell cX kX) := by rw [← hT1]; exact State.heap_pushCell_size _ _
  have d3' : decode c.code (pc + 3) = .ok (.dup, 1) := by rw [hb]; exact d3
  have d4' : decode c.code (pc + 4) = .ok (.ldc_w is, 3) := by rw [hb]; exact d4
  have hstr' : vk_R own is text sa s' := vk_R.warm hW0 hstr
  obtain ⟨U, hsteps, hrun, hend, hW, hsame, ce, hce, hO⟩ := X₁.ctorThrowS hexec htr (own := own) (cls := cls) (names := names) (ic := ic) hown' hcls hnames h (fun x hx => nomatch hx) hfX hkX hcellA (by rw [hhp, hT]; exact Nat.le_refl _) (msg := .ref sa) rfl
    (g := { method := m, pc := pc + 7, locals := ls, stack := .ref sa :: .ref T.heap.size :: .ref T.heap.size :: rest, locked := none }) rfl hsize rfl rfl (rest := rest) rfl
    (by rw [hb]; exact d7) (by rw [hb]; exact d10) hout hRframes (by simp only [List.map_cons, List.sum_cons, hcat]; omega) hlocks
  obtain ⟨f1, f2⟩ := vx_frame hsame
  rw [hhp] at f1 f2
  have hWs : s.WarmedH U.vm := State.WarmedH.trans hW0 hW
  have hcl : s.vm.findClass cls = some ce.cls := by
    have h9 := hO.cls
    rw [hvm] at h9
    exact h9
  have hall : s.sameButNew ({ U with vm := s.vm } : State) locs mc ms := by
    subst hA
    obtain ⟨e1, e2⟩ := hsame
    rw [State.setFrames_setFrames] at e1
    have h2 : (T.setVm s.vm).sameButNew ({ U with vm := s.vm } : State) [] (0 + 1) (0 + 6) := ⟨e1, e2⟩
    have h3 := X.same.trans h2
    rw [List.append_nil] at h3
    exact h3.mono hc hs
  refine ⟨U, ?_, .threw T.heap.size, hrun, hend, Or.inr ⟨T.heap.size, rfl, cls, ce, locs, hx U hWs.alike f1 (fun q hq => f2 q hq (fun z hz => nomatch hz)), hce, hO.vm, hcl, hWs, hall, hf⟩⟩
  refine st1 _ ?_
  show Steps p.tables e below (T1.setTop { method := m, pc := pc + 3, locals := ls, stack := .ref T.heap.size :: rest, locked := none }) _
  jvm_step X₁.here [X₁.here.top, hexec, d3', Value.category]
  exact X₁.ldcStringW hexec (own := own) (text := text) (index := is) (a := sa) hown' hstr'.1 hstr'.2
    (g := { method := m, pc := pc + 4, locals := ls, stack := .ref T.heap.size :: .ref T.heap.size :: rest, locked := none }) rfl d4' _ hsteps
end Ends
section Bodies
variable {l : Launch}
theorem vx_ofW {y : MethodName} {ws ws' : List Cond} {rm : Room} {Pc : Array Value → State → Prop} {Qc : Array Value → State → Outcome → State → Prop} {XC : String → State → State → Prop} {mc ms : Nat} {free : Addr → Prop} {cc : ByteArray} {maxL : Nat} {ret : Option FieldType}
    (hy : plainName y.cls = true) (hw : ws = Cond.code y cc maxL ret :: ws')
    (body : ∀ p e s m args below meth c s₁, BodyLoose p l y (headSpec ws rm) cc maxL ret e s m args below meth c s₁ → c.maxLocals = maxL → (∀ x ∈ c.exceptionTable.toList, False) → Pc args s →
      W p l e (headSpec ws rm).room s m args below meth c s.heap [] 0 0 (vx_MQ below Qc XC args s mc ms free) (entryFrame m args maxL)) : vx_Met l y ws rm Pc Qc XC mc ms free := by
  refine MetFree.of_bodyS (code := cc) (maxLocals := maxL) (ret := ret) hy ?_ ?_
  · intro args s m h hn
    obtain ⟨meth, c, h1, h2, h3, h4, h5, h6, -, -⟩ := Cond.code_spec hn (atoms_spec (ws := ws) h _ (by rw [hw]; exact List.mem_cons_self))
    exact ⟨meth, c, h1, h2, h3, h4, h5, h6⟩
  · intro p e s m args below meth c s₁ B hml hP _
    have hh0 : s₁.heap = s.heap := by rw [B.state]; rfl
    have ht : ∀ x ∈ c.exceptionTable.toList, False := by
      obtain ⟨meth9, c9, h1, h2, -, -, -, -, h7, -⟩ := Cond.code_spec B.named (atoms_spec (ws := ws) B.pre _ (by rw [hw]; exact List.mem_cons_self))
      cases Option.some.inj (h1.symm.trans B.method)
      cases Option.some.inj (h2.symm.trans (Stand.of_body B).code)
      intro x hx
      rw [Array.isEmpty_iff.mp h7] at hx
      cases hx
    obtain ⟨t, a1, o, b1, b2, b3⟩ := body p e s m args below meth c s₁ B hml ht hP s₁ hh0 (Stand.of_body B)
    exact ⟨t, o, a1, b1, b2, b3⟩
/-- the table of a body with handlers -/
theorem vx_table {p : Program} {x y : MethodName} {S : Spec} {cc bytes : ByteArray} {maxL maxL' : Nat} {ret ret' : Option FieldType} {e : Env} {s s₁ : State} {m : MethodId} {args : Array Value} {below : List Frame} {meth : Method} {c : Code} {hh : List (Nat × Nat × Nat × Nat)}
    (B : BodyLoose p l y S cc maxL ret e s m args below meth c s₁) (h : (Cond.codeWith y bytes maxL' ret' hh).before args s = true) : c.exceptionTable.toList = tableOf hh := by
  obtain ⟨m9, meth9, c9, hn9, h1, h2, -, -, h6, -⟩ := Cond.codeWith_spec h
  cases Option.some.inj (hn9.symm.trans B.named)
  cases Option.some.inj (h1.symm.trans B.method)
  cases Option.some.inj (h2.symm.trans (Stand.of_body B).code)
  rw [← h6, table_eq]
end Bodies
end VXA
/-! ===== END ===== -/
/-! ===== BEGIN a static call of a method with an exception table ===== -/
section VXS
variable {p : Program} {l : Launch} {e : Env} {R : Room} {s : State} {m : MethodId} {args : Array Value} {below : List Frame} {meth : Method} {c : Code} {T : State} {H : Heap} {locs : List Loc} {cells slots : Nat}
abbrev vx_CSW (R : Room) (s : State) (args : Array Value) (own : String) (index : Nat) (y : MethodName) (bytes : ByteArray) (maxL : Nat) (ret : Option FieldType) (hh : List (Nat × Nat × Nat × Nat)) (ws : List Cond) (rm : Room) (mc ms n : Nat) : Prop :=
  (rm.cells = mc ∧ rm.slots = ms ∧ rm.frames + 1 ≤ R.frames ∧ 8 + (maxL + 11) + rm.locals ≤ R.locals ∧ (∀ w ∈ ws, ∀ (a' : Array Value) (U : State), s.WarmedH U.vm → w.before a' U = true) ∧ Cond.codeWith y bytes maxL ret hh ∈ ws) ∧
  (Cond.codeWith y bytes maxL ret hh).before args s = true ∧ (Cond.initialized y.cls).before args s = true ∧ (y.cls ≠ "java/lang/invoke/MethodHandle" ∧ y.cls ≠ "java/lang/invoke/VarHandle") ∧
  (∀ sig, parseMethodDescriptor y.desc = some sig → n = sig.parameters.length) ∧ (Cond.methodLink own index y).before args s = true ∧ (Cond.static y).before args s = true
theorem vx_cwSW {own : String} {index maxL mc ms : Nat} {y : MethodName} {bytes : ByteArray} {ret : Option FieldType} {hh : List (Nat × Nat × Nat × Nat)} {Ts ws ws' : List Cond} {rm : Room} (n : Nat) (ht : ∀ w ∈ Ts, w.before args s = true) (hT : GoodIn Ts (va_wsS own index y ws)) (hw : ws = Cond.codeWith y bytes maxL ret hh :: ws') (hrc : rm.cells = mc) (hrs : rm.slots = ms)
    (hd : y.cls ≠ "java/lang/invoke/MethodHandle" ∧ y.cls ≠ "java/lang/invoke/VarHandle" ∧ (parseMethodDescriptor y.desc).map (fun d => d.parameters.length) = some n) (hR : rm.frames + 1 ≤ R.frames ∧ 8 + (maxL + 11) + rm.locals ≤ R.locals) :
    vx_CSW R s args own index y bytes maxL ret hh ws rm mc ms n := by
  have ok : ∀ w ∈ va_wsS own index y ws, w.before args s = true := fun w h => ht w (hT w h).1
  have hG : GoodIn Ts ws := fun w h => hT w (by unfold va_wsS; exact List.mem_append_right _ h)
  have hc : Cond.codeWith y bytes maxL ret hh ∈ ws := by rw [hw]; exact List.mem_cons_self
  refine ⟨⟨hrc, hrs, hR.1, hR.2, pay_in ht hG, hc⟩, ht _ (hG _ hc).1, ok _ (by simp [va_wsS]), ⟨hd.1, hd.2.1⟩, fun sig h => ?_, ok _ (by simp [va_wsS]), ok _ (by simp [va_wsS])⟩
  have h2 := hd.2.2
  rw [h] at h2
  exact (Option.some.inj h2).symm
theorem vx_callSW (X : Stand p l e R s m args below meth c T locs cells slots) (hexec : p.tables.exec = Jvm.exec) {own : String} {index : Nat} {y : MethodName} {bytes : ByteArray} {maxL : Nat} {ret : Option FieldType} {hh : List (Nat × Nat × Nat × Nat)}
    (hown : s.vm.findClass own = some m.cls) (hlink : (Cond.methodLink own index y).before args s = true) (hstat : (Cond.static y).before args s = true) (hinit : (Cond.initialized y.cls).before args s = true)
    (hcode : (Cond.codeWith y bytes maxL ret hh).before args s = true) (hy : y.cls ≠ "java/lang/invoke/MethodHandle" ∧ y.cls ≠ "java/lang/invoke/VarHandle")
    {W9 : Nat} {Pre : Pt → Array Value → Prop} {Post : Pt → Array Value → Option Value → Pt → Prop} (hK : Back l R p e below s args y 3 W9 Pre Post)
    {g : JFrame} (hg : g.method = m) (hsize : g.locals.size = c.maxLocals) {argsL rest : List Value} (hlen : ∀ sig, parseMethodDescriptor y.desc = some sig → argsL.length = sig.parameters.length)
    (hstack : g.stack = argsL.reverse ++ rest) (hW : 2 * g.monitorRoom + (rest.map fun v => v.category).sum ≤ W9) (hdg : decode c.code g.pc = .ok (.invokestatic index, 3))
    (hpre : ∀ vm₁, s.WarmedH vm₁ → Pre ⟨T.setVm vm₁, locs, cells, slots⟩ argsL.toArray) :
    ∃ (v : Option Value) (vm₁ : Vm) (B : Pt), s.WarmedH vm₁ ∧ Stand p l e R s m args below meth c B.U B.locs B.cells B.slots ∧ Post ⟨T.setVm vm₁, locs, cells, slots⟩ argsL.toArray v B ∧
      ∀ target, Steps p.tables e below (B.U.setTop { g with pc := g.pc + 3, stack := v.toList ++ rest }) target → Steps p.tables e below (T.setTop g) target := by
  obtain ⟨mk, methM, cM, hnamed, hmethM, -, -, -, -, -, -, hsigM⟩ := Cond.codeWith_spec hcode
  have hstatic : methM.isStatic = true := Cond.static_spec hnamed hmethM hstat
  obtain ⟨kP, hkP, -⟩ := className_of_methodNamed hnamed
  have hinitP : kP.init = .initialized := Cond.initialized_spec (findClass_of_methodNamed hnamed) hkP hinit
  obtain ⟨vm₁, X₁, hstep₁⟩ := X.invokestatic hexec hown hlink hnamed hmethM hstatic hkP hinitP hy (g := g) hg (argsL := argsL) (rest := rest) (hlen _ hsigM) hstack hdg
  obtain ⟨v, B, X', hpost, hsteps⟩ := hK m meth c ⟨T.setVm vm₁, locs, cells, slots⟩ { g with stack := rest } (.invokestatic index) mk argsL.toArray X₁ hg hsize hdg hW (X₁.named hnamed) (hpre vm₁ X₁.warmed)
  exact ⟨v, vm₁, B, X₁.warmed, X', hpost, fun target h => hstep₁ _ fun acts => by rw [doInvoke_state]; exact hsteps.trans h⟩
theorem vx_runSW {y : MethodName} {bytes cc : ByteArray} {maxL nL mc ms n index : Nat} {ret : Option FieldType} {hh : List (Nat × Nat × Nat × Nat)} {ws : List Cond} {rm : Room} {Pc : Array Value → State → Prop} {Qc : Array Value → State → Outcome → State → Prop} {free : Addr → Prop} {Ts : List Cond} {own : String} {As rest : List Value} {g : JFrame}
    (S : CallFix p m c cc nL s args Ts own) (hM : Met l y ws rm Pc Qc mc ms free) (cw : vx_CSW R s args own index y bytes maxL ret hh ws rm mc ms n) (hp : PreS s H Pc As)
    (hg : g.method = m) (hn : As.length = n) (hsize : g.locals.size = nL) (hstack : g.stack = As.reverse ++ rest) (hW : 2 * g.monitorRoom + (rest.map fun v => v.category).sum ≤ 8) (hdg : decode cc g.pc = .ok (.invokestatic index, 3)) (hf : cells + mc ≤ R.cells ∧ slots + ms ≤ R.slots) :
    va_Run p l e R s m args below meth c H locs cells slots mc ms g rest (Qc As.toArray) (free) := by
  obtain ⟨⟨hrc, hrs, hfr, hlo, hws, hcw⟩, hcode, hini, hy, hlen, hl, hstt⟩ := cw
  have hK : Back l R p e below s args y 3 8 (PreOf R mc ms Pc) (PostOf Qc mc ms free) := va_backW (hh := hh) (bytes := bytes) (maxL := maxL) (ret := ret) hM hp.1 hrc hrs hfr hlo hws hcw (fun a' U hW => word_at hW (Or.inl (by first | rfl | simp [Cond.onTables, Cond.keeps, Cond.steady])) hini)
  obtain ⟨hx, hb, hml, ho, -⟩ := S
  intro T hT X
  obtain ⟨v, vm₁, ⟨U', l2, c2, s2⟩, hW₁, X', ⟨g', mk, t, L, e1, e2, hq, h1, hL, h2, h3⟩, st⟩ := vx_callSW X hx (hh := hh) (bytes := bytes) (maxL := maxL) (ret := ret) ho hl hstt hini hcode hy hK hg (hsize.trans hml.symm) (argsL := As) (rest := rest) (fun sig h => hn.trans (hlen sig h)) hstack hW (by rw [hb]; exact hdg)
    (fun vm₁ hW₁ => ⟨hf.1, hf.2, hp.2 (T.setVm vm₁) hT hW₁⟩)
  dsimp only [Pt.U, Pt.locs, Pt.cells, Pt.slots] at X' e1 e2 h1 h2 h3 st
  subst h1; subst h2; subst h3
  exact ⟨v, (T.setVm vm₁).calling g' mk As.toArray, t, U', L, hT, X', hL, e1, e2, hq, st⟩
/-- a thing of a world lies in the heap -/
theorem vx_lt {D : va_G} {cl : List vw_C} {ws : va_W} {H1 : Heap} (h : va_P D cl ws H1) {k : Nat} {q : Nat × va_E} (hk : ws[k]? = some q) : q.1 < H1.size := (h k q hk).lt
end VXS
/-! ===== END ===== -/
/-! ===== BEGIN methods with a table of their own: called by a name, returning or throwing ===== -/
section VXH
/-! vx_backW, vx_callVX, vx_callSX, vx_callVW, vx_runVW, vx_runVX, vx_runSX, vx_ofWH follow the same proofs as their sisters above (Free/Laws.lean, Shelf42/LK1.lean); vx_outP calls Shelf42/NT130.lean (outThrough). -/
section
variable {l : Launch} {R : Room} {p : Program} {e : Env} {below : List Frame} {s : State} {sargs : Array Value} {y : MethodName} {len W9 : Nat}
theorem vx_backW {ws : List Cond} {rm : Room} {Pc : Array Value → State → Prop} {Qc : Array Value → State → Outcome → State → Prop} {XC : String → State → State → Prop} {mc ms : Nat} {free : Addr → Prop} {bytes : ByteArray} {maxL : Nat} {ret : Option FieldType} {hh : List (Nat × Nat × Nat × Nat)}
    (hM : vx_Met l y ws rm Pc Qc XC mc ms free) (hblind : FrameBlind Pc) (hrc : rm.cells = mc) (hrs : rm.slots = ms)
    (hframes : rm.frames + 1 ≤ R.frames) (hlocals : W9 + (maxL + 11) + rm.locals ≤ R.locals)
    (hws : ∀ w ∈ ws, ∀ a' U, s.WarmedH U.vm → w.before a' U = true) (hcode : Cond.codeWith y bytes maxL ret hh ∈ ws) (hinit : ∀ a' U, s.WarmedH U.vm → (Cond.initialized y.cls).before a' U = true) :
    vx_Back l R p e below s sargs y len W9 (PreOf R mc ms Pc) (PostOf Qc mc ms free) (vx_Post XC mc ms free) := by
  intro m meth c A g ig mk a X hg hsize hdg hW hn hp
  have h1 : (headSpec ws rm).pre.before a A.U = true := atoms_intro fun w hw => hws w hw _ _ X.warmed
  have h2 : (Cond.codeWith y bytes maxL ret hh).before a A.U = true := hws _ hcode _ _ X.warmed
  have h3 : (Cond.initialized y.cls).before a A.U = true := hinit _ _ X.warmed
  have h4 : A.cells + (headSpec ws rm).room.cells ≤ R.cells := by rw [show (headSpec ws rm).room.cells = mc from hrc]; exact hp.1
  have h5 : A.slots + (headSpec ws rm).room.slots ≤ R.slots := by rw [show (headSpec ws rm).room.slots = ms from hrs]; exact hp.2.1
  have hPc : Pc a (A.U.calling g mk a) := hblind _ _ _ _ hp.2.2
  obtain ⟨U, Ls, c0, s0⟩ := A
  dsimp only [Pt.U, Pt.locs, Pt.cells, Pt.slots] at h1 h2 h3 h4 h5 X hn hPc ⊢
  obtain ⟨m9, methY, cY, hn9, hmY, hcY, -, hlY, -⟩ := Cond.codeWith_spec h2
  cases Option.some.inj (hn9.symm.trans hn)
  obtain ⟨kY, hkY, -⟩ := className_of_methodNamed hn
  have hinitY : kY.init = .initialized := Cond.initialized_spec (findClass_of_methodNamed hn) hkY h3
  have h : At U g.method c below := by rw [hg]; exact X.here
  have hlocals9 : W9 + (maxL + 11) + (headSpec ws rm).room.locals ≤ R.locals := hlocals
  have happ : (headSpec ws rm).appliesLoose y e.platform (U.calling g mk a) = true :=
    Spec.appliesLoose_calling (g := g) h hdg hn hkY hinitY
      (X.room_calling (g := g) (R' := (headSpec ws rm).room) hsize hmY hcY hframes (by rw [hlY]; omega) h4 h5) h1
  obtain ⟨mid, hmid⟩ := h.above
  have hfr : (U.setTop g).frames = (.java g :: mid) ++ below := by rw [State.frames_setTop' g h.top, hmid]; rfl
  obtain ⟨o, s₂, hsteps, -, hend, hq⟩ := Steps.callFree hM p X.admits X.cas X.clock (acts := []) hfr happ hPc trivial
  have hq' : vx_Q Qc XC mc ms free a (U.calling g mk a) o s₂ := hq
  rw [State.frames_setTop' g h.top] at hend
  obtain ⟨g₀, hg0⟩ := Option.isSome_iff_exists.mp h.top
  obtain ⟨r, hr⟩ := State.topJava?_eq_some.mp hg0
  have hr' : (({ U with heap := s₂.heap, slotsUsed := s₂.slotsUsed } : State).setVm s₂.vm).frames = .java g₀ :: r := hr
  rcases hq' with ⟨hqc, L, hfe, hL⟩ | ⟨q, rfl, E, ce, L, hx, hce, hcv, hcl, hW₂, hsm, hL⟩
  · obtain ⟨⟨v, rfl⟩, hW₂, e2, q2, q3, q4, q5, q6⟩ := id hfe
    have e3 : s₂ = ({ (U.calling g mk a).setFrames s₂.frames with heap := s₂.heap, slotsUsed := s₂.slotsUsed } : State).setVm s₂.vm := by
      have : s₂ = ({ s₂ with vm := (U.calling g mk a).vm } : State).setVm s₂.vm := rfl
      rw [e2] at this
      exact this
    obtain ⟨c₂, i₂, len₂, hc₂, hd₂, hf₂⟩ := hend
    have hW' : U.WarmedH s₂.vm := hW₂
    have hcc : c₂ = c := by
      have h1 : s₂.code? g.method = U.code? g.method := by
        rw [State.code?_eq, State.code?_eq, hW'.alike.method?]
      exact Option.some.inj (hc₂.symm.trans (h1.trans h.code))
    subst hcc
    have hlen : len₂ = len := by rw [hdg] at hd₂; cases hd₂; rfl
    subst hlen
    have hs₂ : s₂ = (({ U with heap := s₂.heap, slotsUsed := s₂.slotsUsed } : State).setVm s₂.vm).setTop { g with pc := g.pc + len₂, stack := v.toList ++ g.stack } := by
      refine e3.trans ?_
      rw [hf₂, State.calling_eq h.top, State.setFrames_setFrames, State.setTop_of_frames _ hr', hr]
      rfl
    have hsame : U.sameButNew ({ U with heap := s₂.heap, slotsUsed := s₂.slotsUsed } : State) L mc ms := by
      refine ⟨?_, q2, q3, q4, q5, q6⟩
      obtain ⟨t, ht, -⟩ := State.frames_cons hr
      show ({ U with heap := s₂.heap, slotsUsed := s₂.slotsUsed } : State) = { U.setFrames U.frames with heap := s₂.heap, slotsUsed := s₂.slotsUsed }
      rw [State.setFrames_self ht]
    subst hg
    refine Or.inl ⟨v, ⟨(({ U with heap := s₂.heap, slotsUsed := s₂.slotsUsed } : State).setVm s₂.vm), Ls ++ L, c0 + mc, s0 + ms⟩,
      ⟨X.admits, X.cas, X.clock, X.frames, X.room, X.hears, X.method, X.code, (X.here.setHeapUsed s₂.heap s₂.slotsUsed).setVm hW'.alike, X.tail, State.WarmedH.trans X.warmed hW', X.limits, X.bytes, X.same.trans (hsame.setVm s.vm)⟩,
      ⟨g, mk, s₂, L, rfl, rfl, hqc, rfl, hL, rfl, rfl⟩, ?_⟩
    show Steps p.tables e below _ ((({ U with heap := s₂.heap, slotsUsed := s₂.slotsUsed } : State).setVm s₂.vm).setTop { g with pc := g.pc + len₂, stack := v.toList ++ g.stack })
    rw [← hs₂]
    exact hsteps
  · obtain ⟨e2, q2, q3, q4, q5, q6⟩ := id hsm
    have e3 : s₂ = ({ (U.calling g mk a).setFrames s₂.frames with heap := s₂.heap, slotsUsed := s₂.slotsUsed } : State).setVm s₂.vm := by
      have : s₂ = ({ s₂ with vm := (U.calling g mk a).vm } : State).setVm s₂.vm := rfl
      rw [e2] at this
      exact this
    have hf₂ : s₂.frames = .throwing q :: .java g :: U.frames.tail := hend
    have hW' : U.WarmedH s₂.vm := hW₂
    have hs₂ : s₂ = ((({ U with heap := s₂.heap, slotsUsed := s₂.slotsUsed } : State).setVm s₂.vm).setTop g).pushFrame (.throwing q) := by
      refine e3.trans ?_
      rw [hf₂, State.calling_eq h.top, State.setFrames_setFrames, State.pushFrame, State.frames_setTop _ hr', State.setTop_of_frames _ hr', State.setFrames_setFrames, hr]
      rfl
    have hsame : U.sameButNew ({ U with heap := s₂.heap, slotsUsed := s₂.slotsUsed } : State) L mc ms := by
      refine ⟨?_, q2, q3, q4, q5, q6⟩
      obtain ⟨t, ht, -⟩ := State.frames_cons hr
      show ({ U with heap := s₂.heap, slotsUsed := s₂.slotsUsed } : State) = { U.setFrames U.frames with heap := s₂.heap, slotsUsed := s₂.slotsUsed }
      rw [State.setFrames_self ht]
    subst hg
    refine Or.inr ⟨q, ⟨(({ U with heap := s₂.heap, slotsUsed := s₂.slotsUsed } : State).setVm s₂.vm), Ls ++ L, c0 + mc, s0 + ms⟩,
      ⟨X.admits, X.cas, X.clock, X.frames, X.room, X.hears, X.method, X.code, (X.here.setHeapUsed s₂.heap s₂.slotsUsed).setVm hW'.alike, X.tail, State.WarmedH.trans X.warmed hW', X.limits, X.bytes, X.same.trans (hsame.setVm s.vm)⟩,
      ⟨g, mk, s₂, L, E, ce, rfl, rfl, hx, hce, hcv, hcl, rfl, hL, rfl, rfl⟩, ?_⟩
    show Steps p.tables e below _ (((({ U with heap := s₂.heap, slotsUsed := s₂.slotsUsed } : State).setVm s₂.vm).setTop g).pushFrame (.throwing q))
    rw [← hs₂]
    exact hsteps
end
variable {p : Program} {l : Launch} {e : Env} {R : Room} {s : State} {m : MethodId} {args : Array Value} {below : List Frame} {meth : Method} {c : Code} {T : State} {H : Heap} {locs : List Loc} {cells slots : Nat}
theorem vx_callVX (X : Stand p l e R s m args below meth c T locs cells slots) (hexec : p.tables.exec = Jvm.exec) {own C : String} {index : Nat} {y : MethodName} {bytes : ByteArray} {maxL : Nat} {ret : Option FieldType} {hh : List (Nat × Nat × Nat × Nat)}
    (hown : s.vm.findClass own = some m.cls) (hlink : (Cond.methodLink own index y).before args s = true) (hinst : (Cond.instanceMethod y).before args s = true) (hsel : (Cond.selects C y y).before args s = true)
    (hcode : (Cond.codeWith y bytes maxL ret hh).before args s = true) (hy : y.cls ≠ "java/lang/invoke/MethodHandle" ∧ y.cls ≠ "java/lang/invoke/VarHandle")
    {W9 : Nat} {Pre : Pt → Array Value → Prop} {Post : Pt → Array Value → Option Value → Pt → Prop} {PostX : Pt → Array Value → Addr → Pt → Prop} (hK : vx_Back l R p e below s args y 3 W9 Pre Post PostX)
    {b : Addr} {cellB : Cell} (hcell : T.heap[b]? = some cellB) (hobj : cellB.vm.isStatics = false) (hcls : s.vm.findClass C = some cellB.cls)
    {g : JFrame} (hg : g.method = m) (hsize : g.locals.size = c.maxLocals) {argsL rest : List Value} (hlen : ∀ sig, parseMethodDescriptor y.desc = some sig → argsL.length = sig.parameters.length)
    (hstack : g.stack = argsL.reverse ++ .ref b :: rest) (hW : 2 * g.monitorRoom + (rest.map fun v => v.category).sum ≤ W9) (hdg : decode c.code g.pc = .ok (.invokevirtual index, 3))
    (hpre : ∀ vm₁, s.WarmedH vm₁ → Pre ⟨T.setVm vm₁, locs, cells, slots⟩ (Value.ref b :: argsL).toArray) :
    (∃ (v : Option Value) (vm₁ : Vm) (B : Pt), s.WarmedH vm₁ ∧ Stand p l e R s m args below meth c B.U B.locs B.cells B.slots ∧ Post ⟨T.setVm vm₁, locs, cells, slots⟩ (Value.ref b :: argsL).toArray v B ∧
      ∀ target, Steps p.tables e below (B.U.setTop { g with pc := g.pc + 3, stack := v.toList ++ rest }) target → Steps p.tables e below (T.setTop g) target) ∨
    (∃ (q : Addr) (vm₁ : Vm) (B : Pt), s.WarmedH vm₁ ∧ Stand p l e R s m args below meth c B.U B.locs B.cells B.slots ∧ PostX ⟨T.setVm vm₁, locs, cells, slots⟩ (Value.ref b :: argsL).toArray q B ∧
      Steps p.tables e below (T.setTop g) ((B.U.setTop { g with stack := rest }).pushFrame (.throwing q))) := by
  obtain ⟨mk, methM, hnamed, hmethM, hstM, habM⟩ := Cond.instanceMethod_spec hinst
  obtain ⟨m8, methM', cM, hn8, hmethM', -, -, -, -, -, -, hsigM⟩ := Cond.codeWith_spec hcode
  cases Option.some.inj (hn8.symm.trans hnamed)
  cases hmethM.symm.trans hmethM'
  obtain ⟨c2, r2, m2, q1, q2, q3, q4, kP, hkP, hkPi⟩ := Cond.selects_spec hsel
  cases hcls.symm.trans q1
  cases (State.methodFound?_of_named hnamed hy).symm.trans q2
  cases hnamed.symm.trans q3
  have hselP : selectMethod e.platform s.vm cellB.cls mk = .method mk := by rw [Launch.admits_selectMethod X.admits]; exact q4
  obtain ⟨vm₁, X₁, hstep₁⟩ := X.invokevirtual hexec hown hlink hnamed hmethM hstM hkP hkPi hy (a := b) (cell := cellB) hcell
    (fun z h => by rw [h] at hobj; cases hobj) hselP hmethM habM hkP hkPi (g := g) hg (argsL := argsL) (rest := rest) (hlen _ hsigM) hstack hdg
  rcases hK m meth c ⟨T.setVm vm₁, locs, cells, slots⟩ { g with stack := rest } (.invokevirtual index) mk (Value.ref b :: argsL).toArray X₁ hg hsize hdg hW (X₁.named hnamed) (hpre vm₁ X₁.warmed) with ⟨v, B, X', hpost, hsteps⟩ | ⟨q, B, X', hpost, hsteps⟩
  · exact Or.inl ⟨v, vm₁, B, X₁.warmed, X', hpost, fun target h => hstep₁ _ fun acts => by rw [doInvoke_state]; exact hsteps.trans h⟩
  · exact Or.inr ⟨q, vm₁, B, X₁.warmed, X', hpost, hstep₁ _ fun acts => by rw [doInvoke_state]; exact hsteps⟩
theorem vx_callSX (X : Stand p l e R s m args below meth c T locs cells slots) (hexec : p.tables.exec = Jvm.exec) {own : String} {index : Nat} {y : MethodName} {bytes : ByteArray} {maxL : Nat} {ret : Option FieldType} {hh : List (Nat × Nat × Nat × Nat)}
    (hown : s.vm.findClass own = some m.cls) (hlink : (Cond.methodLink own index y).before args s = true) (hstat : (Cond.static y).before args s = true) (hinit : (Cond.initialized y.cls).before args s = true)
    (hcode : (Cond.codeWith y bytes maxL ret hh).before args s = true) (hy : y.cls ≠ "java/lang/invoke/MethodHandle" ∧ y.cls ≠ "java/lang/invoke/VarHandle")
    {W9 : Nat} {Pre : Pt → Array Value → Prop} {Post : Pt → Array Value → Option Value → Pt → Prop} {PostX : Pt → Array Value → Addr → Pt → Prop} (hK : vx_Back l R p e below s args y 3 W9 Pre Post PostX)
    {g : JFrame} (hg : g.method = m) (hsize : g.locals.size = c.maxLocals) {argsL rest : List Value} (hlen : ∀ sig, parseMethodDescriptor y.desc = some sig → argsL.length = sig.parameters.length)
    (hstack : g.stack = argsL.reverse ++ rest) (hW : 2 * g.monitorRoom + (rest.map fun v => v.category).sum ≤ W9) (hdg : decode c.code g.pc = .ok (.invokestatic index, 3))
    (hpre : ∀ vm₁, s.WarmedH vm₁ → Pre ⟨T.setVm vm₁, locs, cells, slots⟩ argsL.toArray) :
    (∃ (v : Option Value) (vm₁ : Vm) (B : Pt), s.WarmedH vm₁ ∧ Stand p l e R s m args below meth c B.U B.locs B.cells B.slots ∧ Post ⟨T.setVm vm₁, locs, cells, slots⟩ argsL.toArray v B ∧
      ∀ target, Steps p.tables e below (B.U.setTop { g with pc := g.pc + 3, stack := v.toList ++ rest }) target → Steps p.tables e below (T.setTop g) target) ∨
    (∃ (q : Addr) (vm₁ : Vm) (B : Pt), s.WarmedH vm₁ ∧ Stand p l e R s m args below meth c B.U B.locs B.cells B.slots ∧ PostX ⟨T.setVm vm₁, locs, cells, slots⟩ argsL.toArray q B ∧
      Steps p.tables e below (T.setTop g) ((B.U.setTop { g with stack := rest }).pushFrame (.throwing q))) := by
  obtain ⟨mk, methM, cM, hnamed, hmethM, -, -, -, -, -, -, hsigM⟩ := Cond.codeWith_spec hcode
  have hstatic : methM.isStatic = true := Cond.static_spec hnamed hmethM hstat
  obtain ⟨kP, hkP, -⟩ := className_of_methodNamed hnamed
  have hinitP : kP.init = .initialized := Cond.initialized_spec (findClass_of_methodNamed hnamed) hkP hinit
  obtain ⟨vm₁, X₁, hstep₁⟩ := X.invokestatic hexec hown hlink hnamed hmethM hstatic hkP hinitP hy (g := g) hg (argsL := argsL) (rest := rest) (hlen _ hsigM) hstack hdg
  rcases hK m meth c ⟨T.setVm vm₁, locs, cells, slots⟩ { g with stack := rest } (.invokestatic index) mk argsL.toArray X₁ hg hsize hdg hW (X₁.named hnamed) (hpre vm₁ X₁.warmed) with ⟨v, B, X', hpost, hsteps⟩ | ⟨q, B, X', hpost, hsteps⟩
  · exact Or.inl ⟨v, vm₁, B, X₁.warmed, X', hpost, fun target h => hstep₁ _ fun acts => by rw [doInvoke_state]; exact hsteps.trans h⟩
  · exact Or.inr ⟨q, vm₁, B, X₁.warmed, X', hpost, hstep₁ _ fun acts => by rw [doInvoke_state]; exact hsteps⟩
theorem vx_callVW (X : Stand p l e R s m args below meth c T locs cells slots) (hexec : p.tables.exec = Jvm.exec) {own C : String} {index : Nat} {y : MethodName} {bytes : ByteArray} {maxL : Nat} {ret : Option FieldType} {hh : List (Nat × Nat × Nat × Nat)}
    (hown : s.vm.findClass own = some m.cls) (hlink : (Cond.methodLink own index y).before args s = true) (hinst : (Cond.instanceMethod y).before args s = true) (hsel : (Cond.selects C y y).before args s = true)
    (hcode : (Cond.codeWith y bytes maxL ret hh).before args s = true) (hy : y.cls ≠ "java/lang/invoke/MethodHandle" ∧ y.cls ≠ "java/lang/invoke/VarHandle")
    {W9 : Nat} {Pre : Pt → Array Value → Prop} {Post : Pt → Array Value → Option Value → Pt → Prop} (hK : Back l R p e below s args y 3 W9 Pre Post)
    {b : Addr} {cellB : Cell} (hcell : T.heap[b]? = some cellB) (hobj : cellB.vm.isStatics = false) (hcls : s.vm.findClass C = some cellB.cls)
    {g : JFrame} (hg : g.method = m) (hsize : g.locals.size = c.maxLocals) {argsL rest : List Value} (hlen : ∀ sig, parseMethodDescriptor y.desc = some sig → argsL.length = sig.parameters.length)
    (hstack : g.stack = argsL.reverse ++ .ref b :: rest) (hW : 2 * g.monitorRoom + (rest.map fun v => v.category).sum ≤ W9) (hdg : decode c.code g.pc = .ok (.invokevirtual index, 3))
    (hpre : ∀ vm₁, s.WarmedH vm₁ → Pre ⟨T.setVm vm₁, locs, cells, slots⟩ (Value.ref b :: argsL).toArray) :
    ∃ (v : Option Value) (vm₁ : Vm) (B : Pt), s.WarmedH vm₁ ∧ Stand p l e R s m args below meth c B.U B.locs B.cells B.slots ∧ Post ⟨T.setVm vm₁, locs, cells, slots⟩ (Value.ref b :: argsL).toArray v B ∧
      ∀ target, Steps p.tables e below (B.U.setTop { g with pc := g.pc + 3, stack := v.toList ++ rest }) target → Steps p.tables e below (T.setTop g) target := by
  obtain ⟨mk, methM, hnamed, hmethM, hstM, habM⟩ := Cond.instanceMethod_spec hinst
  obtain ⟨m8, methM', cM, hn8, hmethM', -, -, -, -, -, -, hsigM⟩ := Cond.codeWith_spec hcode
  cases Option.some.inj (hn8.symm.trans hnamed)
  cases hmethM.symm.trans hmethM'
  obtain ⟨c2, r2, m2, q1, q2, q3, q4, kP, hkP, hkPi⟩ := Cond.selects_spec hsel
  cases hcls.symm.trans q1
  cases (State.methodFound?_of_named hnamed hy).symm.trans q2
  cases hnamed.symm.trans q3
  have hselP : selectMethod e.platform s.vm cellB.cls mk = .method mk := by rw [Launch.admits_selectMethod X.admits]; exact q4
  obtain ⟨vm₁, X₁, hstep₁⟩ := X.invokevirtual hexec hown hlink hnamed hmethM hstM hkP hkPi hy (a := b) (cell := cellB) hcell
    (fun z h => by rw [h] at hobj; cases hobj) hselP hmethM habM hkP hkPi (g := g) hg (argsL := argsL) (rest := rest) (hlen _ hsigM) hstack hdg
  obtain ⟨v, B, X', hpost, hsteps⟩ := hK m meth c ⟨T.setVm vm₁, locs, cells, slots⟩ { g with stack := rest } (.invokevirtual index) mk (Value.ref b :: argsL).toArray X₁ hg hsize hdg hW (X₁.named hnamed) (hpre vm₁ X₁.warmed)
  exact ⟨v, vm₁, B, X₁.warmed, X', hpost, fun target h => hstep₁ _ fun acts => by rw [doInvoke_state]; exact hsteps.trans h⟩
abbrev vx_CVW (R : Room) (s : State) (args : Array Value) (own C : String) (index : Nat) (y : MethodName) (bytes : ByteArray) (maxL : Nat) (ret : Option FieldType) (hh : List (Nat × Nat × Nat × Nat)) (ws : List Cond) (rm : Room) (mc ms n : Nat) : Prop :=
  (rm.cells = mc ∧ rm.slots = ms ∧ rm.frames + 1 ≤ R.frames ∧ 8 + (maxL + 11) + rm.locals ≤ R.locals ∧ (∀ w ∈ ws, ∀ (a' : Array Value) (U : State), s.WarmedH U.vm → w.before a' U = true) ∧ Cond.codeWith y bytes maxL ret hh ∈ ws) ∧
  (Cond.codeWith y bytes maxL ret hh).before args s = true ∧ (Cond.initialized y.cls).before args s = true ∧ (y.cls ≠ "java/lang/invoke/MethodHandle" ∧ y.cls ≠ "java/lang/invoke/VarHandle") ∧
  (∀ sig, parseMethodDescriptor y.desc = some sig → n = sig.parameters.length) ∧ (Cond.methodLink own index y).before args s = true ∧ (Cond.instanceMethod y).before args s = true ∧ (Cond.selects C y y).before args s = true
theorem vx_cwVW {own C : String} {index maxL mc ms : Nat} {y : MethodName} {bytes : ByteArray} {ret : Option FieldType} {hh : List (Nat × Nat × Nat × Nat)} {Ts ws ws' : List Cond} {rm : Room} (n : Nat) (ht : ∀ w ∈ Ts, w.before args s = true) (hT : GoodIn Ts (wsV own index C y ws)) (hw : ws = Cond.codeWith y bytes maxL ret hh :: ws') (hrc : rm.cells = mc) (hrs : rm.slots = ms)
    (hd : y.cls = C ∧ y.cls ≠ "java/lang/invoke/MethodHandle" ∧ y.cls ≠ "java/lang/invoke/VarHandle" ∧ (parseMethodDescriptor y.desc).map (fun d => d.parameters.length) = some n) (hR : rm.frames + 1 ≤ R.frames ∧ 8 + (maxL + 11) + rm.locals ≤ R.locals) :
    vx_CVW R s args own C index y bytes maxL ret hh ws rm mc ms n := by
  obtain ⟨hC, hd⟩ := hd
  subst hC
  have ok : ∀ w ∈ wsV own index y.cls y ws, w.before args s = true := fun w h => ht w (hT w h).1
  have hG : GoodIn Ts ws := fun w h => hT w (by unfold wsV; exact List.mem_append_right _ h)
  have hc : Cond.codeWith y bytes maxL ret hh ∈ ws := by rw [hw]; exact List.mem_cons_self
  refine ⟨⟨hrc, hrs, hR.1, hR.2, pay_in ht hG, hc⟩, ht _ (hG _ hc).1, ok _ (by simp [wsV]), ⟨hd.1, hd.2.1⟩, fun sig h => ?_, ok _ (by simp [wsV]), ok _ (by simp [wsV]), ok _ (by simp [wsV])⟩
  have h2 := hd.2.2
  rw [h] at h2
  exact (Option.some.inj h2).symm
theorem vx_runVW {y : MethodName} {bytes cc : ByteArray} {maxL nL mc ms n index : Nat} {ret : Option FieldType} {hh : List (Nat × Nat × Nat × Nat)} {ws : List Cond} {rm : Room} {Pc : Array Value → State → Prop} {Qc : Array Value → State → Outcome → State → Prop} {free : Addr → Prop} {Ts : List Cond} {own C : String} {b : Addr} {As rest : List Value} {g : JFrame}
    (S : CallFix p m c cc nL s args Ts own) (hM : Met l y ws rm Pc Qc mc ms free) (cw : vx_CVW R s args own C index y bytes maxL ret hh ws rm mc ms n) (hp : PreV s H C b Pc As)
    (hg : g.method = m) (hn : As.length = n) (hsize : g.locals.size = nL) (hstack : g.stack = As.reverse ++ .ref b :: rest) (hW : 2 * g.monitorRoom + (rest.map fun v => v.category).sum ≤ 8) (hdg : decode cc g.pc = .ok (.invokevirtual index, 3)) (hf : cells + mc ≤ R.cells ∧ slots + ms ≤ R.slots) :
    va_Run p l e R s m args below meth c H locs cells slots mc ms g rest (Qc (Value.ref b :: As).toArray) free := by
  obtain ⟨⟨hrc, hrs, hfr, hlo, hws, hcw⟩, hcode, hini, hy, hlen, hl, hin, hse⟩ := cw
  have hK : Back l R p e below s args y 3 8 (PreOf R mc ms Pc) (PostOf Qc mc ms free) := va_backW (hh := hh) (bytes := bytes) (maxL := maxL) (ret := ret) hM hp.1 hrc hrs hfr hlo hws hcw (fun a' U hW => word_at hW (Or.inl (by first | rfl | simp [Cond.onTables, Cond.keeps, Cond.steady])) hini)
  obtain ⟨hx, hb, hml, ho, -⟩ := S
  obtain ⟨-, ⟨cellB, hcB, hoB, hclB⟩, hPc⟩ := hp
  intro T hT X
  obtain ⟨v, vm₁, ⟨U', l2, c2, s2⟩, hW₁, X', ⟨g', mk, t, L, e1, e2, hq, h1, hL, h2, h3⟩, st⟩ := vx_callVW X hx (C := C) (hh := hh) (bytes := bytes) (maxL := maxL) (ret := ret) ho hl hin hse hcode hy hK (by rw [hT]; exact hcB) hoB hclB hg (hsize.trans hml.symm) (argsL := As) (rest := rest) (fun sig h => hn.trans (hlen sig h)) hstack hW (by rw [hb]; exact hdg)
    (fun vm₁ hW₁ => ⟨hf.1, hf.2, hPc (T.setVm vm₁) hT hW₁⟩)
  dsimp only [Pt.U, Pt.locs, Pt.cells, Pt.slots] at X' e1 e2 h1 h2 h3 st
  subst h1; subst h2; subst h3
  exact ⟨v, (T.setVm vm₁).calling g' mk (Value.ref b :: As).toArray, t, U', L, hT, X', hL, e1, e2, hq, st⟩
section
variable {y : MethodName} {bytes cc : ByteArray} {maxL nL mc ms n index : Nat} {ret : Option FieldType} {ws : List Cond} {rm : Room} {Pc : Array Value → State → Prop} {Qc : Array Value → State → Outcome → State → Prop} {XC : String → State → State → Prop} {free : Addr → Prop} {Ts : List Cond} {own C : String} {b : Addr} {As rest : List Value} {g : JFrame}
theorem vx_runVX {hh : List (Nat × Nat × Nat × Nat)} (S : CallFix p m c cc nL s args Ts own) (hM : vx_Met l y ws rm Pc Qc XC mc ms free) (cw : vx_CVW R s args own C index y bytes maxL ret hh ws rm mc ms n) (hp : PreV s H C b Pc As)
    (hg : g.method = m) (hn : As.length = n) (hsize : g.locals.size = nL) (hstack : g.stack = As.reverse ++ .ref b :: rest) (hW : 2 * g.monitorRoom + (rest.map fun v => v.category).sum ≤ 8) (hdg : decode cc g.pc = .ok (.invokevirtual index, 3)) (hf : cells + mc ≤ R.cells ∧ slots + ms ≤ R.slots) :
    vx_Run p l e R s m args below meth c H locs cells slots mc ms g rest (Qc (Value.ref b :: As).toArray) XC free := by
  obtain ⟨⟨hrc, hrs, hfr, hlo, hws, hcw⟩, hcode, hini, hy, hlen, hl, hin, hse⟩ := cw
  have hK : vx_Back l R p e below s args y 3 8 (PreOf R mc ms Pc) (PostOf Qc mc ms free) (vx_Post XC mc ms free) := vx_backW (hh := hh) (bytes := bytes) (maxL := maxL) (ret := ret) hM hp.1 hrc hrs hfr hlo hws hcw (fun a' U hW => word_at hW (Or.inl (by first | rfl | simp [Cond.onTables, Cond.keeps, Cond.steady])) hini)
  obtain ⟨hx, hb, hml, ho, -⟩ := S
  obtain ⟨-, ⟨cellB, hcB, hoB, hclB⟩, hPc⟩ := hp
  intro T hT X
  rcases vx_callVX X hx (C := C) (hh := hh) (bytes := bytes) (maxL := maxL) (ret := ret) ho hl hin hse hcode hy hK (by rw [hT]; exact hcB) hoB hclB hg (hsize.trans hml.symm) (argsL := As) (rest := rest) (fun sig h => hn.trans (hlen sig h)) hstack hW (by rw [hb]; exact hdg)
    (fun vm₁ hW₁ => ⟨hf.1, hf.2, hPc (T.setVm vm₁) hT hW₁⟩) with ⟨v, vm₁, ⟨U', l2, c2, s2⟩, hW₁, X', ⟨g', mk, t, L, e1, e2, hq, h1, hL, h2, h3⟩, st⟩ | ⟨q, vm₁, ⟨U', l2, c2, s2⟩, hW₁, X', ⟨g', mk, t, L, E, ce, e1, e2, hq, hce, hcv, hcl, h1, hL, h2, h3⟩, st⟩
  · dsimp only [Pt.U, Pt.locs, Pt.cells, Pt.slots] at X' e1 e2 h1 h2 h3 st
    subst h1; subst h2; subst h3
    exact Or.inl ⟨v, (T.setVm vm₁).calling g' mk (Value.ref b :: As).toArray, t, U', L, hT, X', hL, e1, e2, hq, st⟩
  · dsimp only [Pt.U, Pt.locs, Pt.cells, Pt.slots] at X' e1 e2 h1 h2 h3 st hcl
    subst h1; subst h2; subst h3
    exact Or.inr ⟨q, (T.setVm vm₁).calling g' mk (Value.ref b :: As).toArray, t, U', L, E, ce, hT, X', hL, e1, e2, hq, hce, hcv, vx_cls hW₁ hcl, st⟩
theorem vx_runSX {hh : List (Nat × Nat × Nat × Nat)} (S : CallFix p m c cc nL s args Ts own) (hM : vx_Met l y ws rm Pc Qc XC mc ms free) (cw : vx_CSW R s args own index y bytes maxL ret hh ws rm mc ms n) (hp : PreS s H Pc As)
    (hg : g.method = m) (hn : As.length = n) (hsize : g.locals.size = nL) (hstack : g.stack = As.reverse ++ rest) (hW : 2 * g.monitorRoom + (rest.map fun v => v.category).sum ≤ 8) (hdg : decode cc g.pc = .ok (.invokestatic index, 3)) (hf : cells + mc ≤ R.cells ∧ slots + ms ≤ R.slots) :
    vx_Run p l e R s m args below meth c H locs cells slots mc ms g rest (Qc As.toArray) XC free := by
  obtain ⟨⟨hrc, hrs, hfr, hlo, hws, hcw⟩, hcode, hini, hy, hlen, hl, hstt⟩ := cw
  have hK : vx_Back l R p e below s args y 3 8 (PreOf R mc ms Pc) (PostOf Qc mc ms free) (vx_Post XC mc ms free) := vx_backW (hh := hh) (bytes := bytes) (maxL := maxL) (ret := ret) hM hp.1 hrc hrs hfr hlo hws hcw (fun a' U hW => word_at hW (Or.inl (by first | rfl | simp [Cond.onTables, Cond.keeps, Cond.steady])) hini)
  obtain ⟨hx, hb, hml, ho, -⟩ := S
  intro T hT X
  rcases vx_callSX X hx (hh := hh) (bytes := bytes) (maxL := maxL) (ret := ret) ho hl hstt hini hcode hy hK hg (hsize.trans hml.symm) (argsL := As) (rest := rest) (fun sig h => hn.trans (hlen sig h)) hstack hW (by rw [hb]; exact hdg)
    (fun vm₁ hW₁ => ⟨hf.1, hf.2, hp.2 (T.setVm vm₁) hT hW₁⟩) with ⟨v, vm₁, ⟨U', l2, c2, s2⟩, hW₁, X', ⟨g', mk, t, L, e1, e2, hq, h1, hL, h2, h3⟩, st⟩ | ⟨q, vm₁, ⟨U', l2, c2, s2⟩, hW₁, X', ⟨g', mk, t, L, E, ce, e1, e2, hq, hce, hcv, hcl, h1, hL, h2, h3⟩, st⟩
  · dsimp only [Pt.U, Pt.locs, Pt.cells, Pt.slots] at X' e1 e2 h1 h2 h3 st
    subst h1; subst h2; subst h3
    exact Or.inl ⟨v, (T.setVm vm₁).calling g' mk As.toArray, t, U', L, hT, X', hL, e1, e2, hq, st⟩
  · dsimp only [Pt.U, Pt.locs, Pt.cells, Pt.slots] at X' e1 e2 h1 h2 h3 st hcl
    subst h1; subst h2; subst h3
    exact Or.inr ⟨q, (T.setVm vm₁).calling g' mk As.toArray, t, U', L, E, ce, hT, X', hL, e1, e2, hq, hce, hcv, vx_cls hW₁ hcl, st⟩
end
end VXH
theorem vx_ofWH {l : Launch} {y : MethodName} {ws ws' : List Cond} {rm : Room} {Pc : Array Value → State → Prop} {Qc : Array Value → State → Outcome → State → Prop} {XC : String → State → State → Prop} {mc ms : Nat} {free : Addr → Prop} {cc : ByteArray} {maxL : Nat} {ret : Option FieldType} {hh : List (Nat × Nat × Nat × Nat)}
    (hy : plainName y.cls = true) (hw : ws = Cond.codeWith y cc maxL ret hh :: ws')
    (body : ∀ p e s m args below meth c s₁, BodyLoose p l y (headSpec ws rm) cc maxL ret e s m args below meth c s₁ → c.maxLocals = maxL → Pc args s →
      W p l e (headSpec ws rm).room s m args below meth c s.heap [] 0 0 (vx_MQ below Qc XC args s mc ms free) (entryFrame m args maxL)) : vx_Met l y ws rm Pc Qc XC mc ms free := by
  refine MetFree.of_bodyS (code := cc) (maxLocals := maxL) (ret := ret) hy ?_ ?_
  · intro args s m h hn
    obtain ⟨m9, meth, c, hn9, h1, h2, h3, h4, -, h5, h6, -⟩ := Cond.codeWith_spec (atoms_spec (ws := ws) h _ (by rw [hw]; exact List.mem_cons_self))
    cases hn.symm.trans hn9
    exact ⟨meth, c, h1, h2, h3, h4, h5, h6⟩
  · intro p e s m args below meth c s₁ B hml hP _
    have hh0 : s₁.heap = s.heap := by rw [B.state]; rfl
    obtain ⟨t, a1, o, b1, b2, b3⟩ := body p e s m args below meth c s₁ B hml hP s₁ hh0 (Stand.of_body B)
    exact ⟨t, o, a1, b1, b2, b3⟩
/-! ===== END ===== -/
end
section
/-! ===== BEGIN printed: names, fields, word lists, decode rows ===== -/
def RX0 : String := "TripReckoner$Ledger"
def TX0 : u_T := fun k => match k with
  | 0 => ("TripReckoner$Ledger", "spanLeast", "I", false)
  | 1 => ("TripReckoner$Ledger", "spanGreatest", "I", false)
  | 2 => ("TripReckoner$Ledger", "refills", "I", false)
  | 3 => ("TripReckoner$Ledger", "losses", "I", false)
  | 4 => ("TripReckoner$Ledger", "lies", "I", false)
  | 5 => ("TripReckoner$Ledger", "jumps", "I", false)
  | 6 => ("TripReckoner$Ledger", "shownLitres", "I", false)
  | 7 => ("TripReckoner$Ledger", "settling", "Z", false)
  | 8 => ("TripReckoner$Ledger", "aheadLeast", "I", false)
  | 9 => ("TripReckoner$Ledger", "aheadGreatest", "I", false)
  | 10 => ("TripReckoner$Ledger", "usedLeast", "J", false)
  | 11 => ("TripReckoner$Ledger", "usedMost", "J", false)
  | 12 => ("TripReckoner$Ledger", "marks", "[J", true)
  | 13 => ("TripReckoner$Ledger", "amountsLeast", "[I", true)
  | _ => ("TripReckoner$Ledger", "amountsGreatest", "[I", true)
def tyX0 : Nat → FieldType := fun k => match k with
  | 0 => .int
  | 1 => .int
  | 2 => .int
  | 3 => .int
  | 4 => .int
  | 5 => .int
  | 6 => .int
  | 7 => .boolean
  | 8 => .int
  | 9 => .int
  | 10 => .long
  | 11 => .long
  | 12 => .array .long
  | 13 => .array .int
  | _ => .array .int
abbrev wsX00 : List Cond := u_ws RX0 TX0 15
theorem nmX0 : ∀ a, a < 15 → ∀ b, b < 15 → a ≠ b → (TX0 a).2.1 ≠ (TX0 b).2.1 := by decide +kernel
theorem tyX0_ok : ∀ k, k < 15 → parseFieldDescriptor (TX0 k).2.2.1 = some (tyX0 k) := by decide +kernel
abbrev cX0_init : ByteArray := prog_2_method_1_code
def yX0_init : MethodName := ⟨RX0, "<init>", "()V"⟩
abbrev cX0_begin : ByteArray := prog_2_method_2_code
def yX0_begin : MethodName := ⟨RX0, "begin", "(I)V"⟩
abbrev cX0_copyFrom : ByteArray := prog_2_method_3_code
def yX0_copyFrom : MethodName := ⟨RX0, "copyFrom", "(LTripReckoner$Ledger;)V"⟩
abbrev cX0_clearMark : ByteArray := prog_2_method_4_code
def yX0_clearMark : MethodName := ⟨RX0, "clearMark", "(I)V"⟩
abbrev cX0_marked : ByteArray := prog_2_method_5_code
def yX0_marked : MethodName := ⟨RX0, "marked", "(II)J"⟩
abbrev cX0_pass : ByteArray := prog_2_method_6_code
def yX0_pass : MethodName := ⟨RX0, "pass", "(IIIII)V"⟩
abbrev cX0_burn : ByteArray := prog_2_method_7_code
def yX0_burn : MethodName := ⟨RX0, "burn", "(I)V"⟩
abbrev cX0_doubt : ByteArray := prog_2_method_8_code
def yX0_doubt : MethodName := ⟨RX0, "doubt", "(I)V"⟩
abbrev cX0_narrow : ByteArray := prog_2_method_9_code
def yX0_narrow : MethodName := ⟨RX0, "narrow", "(II)V"⟩
abbrev cX0_settle : ByteArray := prog_2_method_10_code
def yX0_settle : MethodName := ⟨RX0, "settle", "()V"⟩
abbrev cX0_takeRefill : ByteArray := prog_2_method_11_code
def yX0_takeRefill : MethodName := ⟨RX0, "takeRefill", "(II)V"⟩
abbrev cX0_takeLoss : ByteArray := prog_2_method_12_code
def yX0_takeLoss : MethodName := ⟨RX0, "takeLoss", "(II)V"⟩
abbrev cX0_takeFloat : ByteArray := prog_2_method_13_code
def yX0_takeFloat : MethodName := ⟨RX0, "takeFloat", "(II)V"⟩
abbrev cX0_truth : ByteArray := prog_2_method_14_code
def yX0_truth : MethodName := ⟨RX0, "truth", "()I"⟩
abbrev cX0_showStep : ByteArray := prog_2_method_15_code
def yX0_showStep : MethodName := ⟨RX0, "showStep", "()V"⟩
abbrev cX0_tellsRefill : ByteArray := prog_2_method_16_code
def yX0_tellsRefill : MethodName := ⟨RX0, "tellsRefill", "(I)Z"⟩
abbrev cX0_amount : ByteArray := prog_2_method_17_code
def yX0_amount : MethodName := ⟨RX0, "amount", "(IZ)I"⟩
def RX1 : String := "TripReckoner$Planner"
def TX1 : u_T := fun k => match k with
  | 0 => ("TripReckoner$Planner", "legs", "[I", true)
  | 1 => ("TripReckoner$Planner", "prices", "[I", true)
  | 2 => ("TripReckoner$Planner", "toGo", "[I", true)
  | 3 => ("TripReckoner$Planner", "fillTo", "[I", true)
  | 4 => ("TripReckoner$Planner", "bought", "[I", true)
  | 5 => ("TripReckoner$Planner", "stations", "I", false)
  | _ => ("TripReckoner$Planner", "plannedStations", "I", false)
def tyX1 : Nat → FieldType := fun k => match k with
  | 0 => .array .int
  | 1 => .array .int
  | 2 => .array .int
  | 3 => .array .int
  | 4 => .array .int
  | 5 => .int
  | _ => .int
abbrev wsX10 : List Cond := u_ws RX1 TX1 7
theorem nmX1 : ∀ a, a < 7 → ∀ b, b < 7 → a ≠ b → (TX1 a).2.1 ≠ (TX1 b).2.1 := by decide +kernel
theorem tyX1_ok : ∀ k, k < 7 → parseFieldDescriptor (TX1 k).2.2.1 = some (tyX1 k) := by decide +kernel
abbrev cX1_init : ByteArray := prog_3_method_1_code
def yX1_init : MethodName := ⟨RX1, "<init>", "()V"⟩
abbrev cX1_read : ByteArray := prog_3_method_2_code
def yX1_read : MethodName := ⟨RX1, "read", "(LTripReckoner$Tape;I)Z"⟩
abbrev cX1_reckon : ByteArray := prog_3_method_3_code
def yX1_reckon : MethodName := ⟨RX1, "reckon", "(II)I"⟩
abbrev cX1_reckonBackwards : ByteArray := prog_3_method_4_code
def yX1_reckonBackwards : MethodName := ⟨RX1, "reckonBackwards", "(I)V"⟩
abbrev cX1_reckonStation : ByteArray := prog_3_method_5_code
def yX1_reckonStation : MethodName := ⟨RX1, "reckonStation", "(II)V"⟩
abbrev cX1_buyForwards : ByteArray := prog_3_method_6_code
def yX1_buyForwards : MethodName := ⟨RX1, "buyForwards", "(I)V"⟩
abbrev cX1_boughtAt : ByteArray := prog_3_method_7_code
def yX1_boughtAt : MethodName := ⟨RX1, "boughtAt", "(I)I"⟩
def RX2 : String := "TripReckoner$Tape"
def TX2 : u_T := fun k => match k with
  | 0 => ("TripReckoner$Tape", "bytes", "[I", true)
  | _ => ("TripReckoner$Tape", "size", "I", false)
def tyX2 : Nat → FieldType := fun k => match k with
  | 0 => .array .int
  | _ => .int
abbrev wsX20 : List Cond := u_ws RX2 TX2 2
theorem nmX2 : ∀ a, a < 2 → ∀ b, b < 2 → a ≠ b → (TX2 a).2.1 ≠ (TX2 b).2.1 := by decide +kernel
theorem tyX2_ok : ∀ k, k < 2 → parseFieldDescriptor (TX2 k).2.2.1 = some (tyX2 k) := by decide +kernel
abbrev cX2_init : ByteArray := prog_4_method_1_code
def yX2_init : MethodName := ⟨RX2, "<init>", "()V"⟩
abbrev cX2_hasRoom : ByteArray := prog_4_method_2_code
def yX2_hasRoom : MethodName := ⟨RX2, "hasRoom", "()Z"⟩
abbrev cX2_push : ByteArray := prog_4_method_3_code
def yX2_push : MethodName := ⟨RX2, "push", "(I)V"⟩
abbrev cX2_shorten : ByteArray := prog_4_method_4_code
def yX2_shorten : MethodName := ⟨RX2, "shorten", "(I)Z"⟩
def RX3 : String := "TripReckoner"
def TX3 : u_T := fun k => match k with
  | 0 => ("TripReckoner", "now", "LTripReckoner$Ledger;", true)
  | 1 => ("TripReckoner", "kept", "LTripReckoner$Ledger;", true)
  | 2 => ("TripReckoner", "tape", "LTripReckoner$Tape;", true)
  | 3 => ("TripReckoner", "planner", "LTripReckoner$Planner;", true)
  | 4 => ("TripReckoner", "tankSize", "I", false)
  | 5 => ("TripReckoner", "metresPerHundred", "I", false)
  | 6 => ("TripReckoner", "floatSlop", "I", false)
  | 7 => ("TripReckoner", "fastest", "I", false)
  | 8 => ("TripReckoner", "thirstiest", "I", false)
  | 9 => ("TripReckoner", "lowUse", "I", false)
  | 10 => ("TripReckoner", "highUse", "I", false)
  | _ => ("TripReckoner", "pulsesInAll", "J", false)
def tyX3 : Nat → FieldType := fun k => match k with
  | 0 => .object "TripReckoner$Ledger"
  | 1 => .object "TripReckoner$Ledger"
  | 2 => .object "TripReckoner$Tape"
  | 3 => .object "TripReckoner$Planner"
  | 4 => .int
  | 5 => .int
  | 6 => .int
  | 7 => .int
  | 8 => .int
  | 9 => .int
  | 10 => .int
  | _ => .long
abbrev wsX30 : List Cond := u_ws RX3 TX3 12
theorem nmX3 : ∀ a, a < 12 → ∀ b, b < 12 → a ≠ b → (TX3 a).2.1 ≠ (TX3 b).2.1 := by decide +kernel
theorem tyX3_ok : ∀ k, k < 12 → parseFieldDescriptor (TX3 k).2.2.1 = some (tyX3 k) := by decide +kernel
abbrev cX3_init : ByteArray := prog_1_method_1_code
def yX3_init : MethodName := ⟨RX3, "<init>", "()V"⟩
abbrev cX3_feed : ByteArray := prog_1_method_2_code
def yX3_feed : MethodName := ⟨RX3, "feed", "(IIIII)I"⟩
abbrev cX3_end : ByteArray := prog_1_method_3_code
def yX3_end : MethodName := ⟨RX3, "end", "(I)Z"⟩
abbrev cX3_car : ByteArray := prog_1_method_4_code
def yX3_car : MethodName := ⟨RX3, "car", "(III)Z"⟩
abbrev cX3_bounds : ByteArray := prog_1_method_5_code
def yX3_bounds : MethodName := ⟨RX3, "bounds", "(IIII)Z"⟩
abbrev cX3_drive : ByteArray := prog_1_method_6_code
def yX3_drive : MethodName := ⟨RX3, "drive", "(III)Z"⟩
abbrev cX3_gap : ByteArray := prog_1_method_7_code
def yX3_gap : MethodName := ⟨RX3, "gap", "(I)Z"⟩
abbrev cX3_tells : ByteArray := prog_1_method_8_code
def yX3_tells : MethodName := ⟨RX3, "tells", "(I)I"⟩
abbrev cX3_set : ByteArray := prog_1_method_9_code
def yX3_set : MethodName := ⟨RX3, "set", "(I)Z"⟩
abbrev cX3_keep : ByteArray := prog_1_method_10_code
def yX3_keep : MethodName := ⟨RX3, "keep", "()V"⟩
abbrev cX3_dead : ByteArray := prog_1_method_11_code
def yX3_dead : MethodName := ⟨RX3, "dead", "(I)Z"⟩
abbrev cX3_span : ByteArray := prog_1_method_12_code
def yX3_span : MethodName := ⟨RX3, "span", "(Z)I"⟩
abbrev cX3_mark : ByteArray := prog_1_method_13_code
def yX3_mark : MethodName := ⟨RX3, "mark", "(II)J"⟩
abbrev cX3_metres : ByteArray := prog_1_method_14_code
def yX3_metres : MethodName := ⟨RX3, "metres", "(IZ)J"⟩
abbrev cX3_average : ByteArray := prog_1_method_15_code
def yX3_average : MethodName := ⟨RX3, "average", "(IZI)J"⟩
abbrev cX3_range : ByteArray := prog_1_method_16_code
def yX3_range : MethodName := ⟨RX3, "range", "(Z)I"⟩
abbrev cX3_shown : ByteArray := prog_1_method_17_code
def yX3_shown : MethodName := ⟨RX3, "shown", "()I"⟩
abbrev cX3_refill : ByteArray := prog_1_method_18_code
def yX3_refill : MethodName := ⟨RX3, "refill", "(IZ)I"⟩
abbrev cX3_plan : ByteArray := prog_1_method_19_code
def yX3_plan : MethodName := ⟨RX3, "plan", "()I"⟩
abbrev cX3_buys : ByteArray := prog_1_method_20_code
def yX3_buys : MethodName := ⟨RX3, "buys", "(I)I"⟩
abbrev cX3_count : ByteArray := prog_1_method_21_code
def yX3_count : MethodName := ⟨RX3, "count", "(I)I"⟩
abbrev cX3_within : ByteArray := prog_1_method_22_code
def yX3_within : MethodName := ⟨RX3, "within", "(III)Z"⟩
abbrev cX3_isMark : ByteArray := prog_1_method_23_code
def yX3_isMark : MethodName := ⟨RX3, "isMark", "(I)Z"⟩
abbrev cX3_checkedBounds : ByteArray := prog_1_method_24_code
def yX3_checkedBounds : MethodName := ⟨RX3, "checkedBounds", "(IIII)Z"⟩
abbrev cX3_gapFits : ByteArray := prog_1_method_25_code
def yX3_gapFits : MethodName := ⟨RX3, "gapFits", "(I)Z"⟩
abbrev cX3_passGap : ByteArray := prog_1_method_26_code
def yX3_passGap : MethodName := ⟨RX3, "passGap", "(I)V"⟩
abbrev cX3_wayInHundredths : ByteArray := prog_1_method_27_code
def yX3_wayInHundredths : MethodName := ⟨RX3, "wayInHundredths", "(IZ)J"⟩
abbrev cX3_commonDivisor : ByteArray := prog_1_method_28_code
def yX3_commonDivisor : MethodName := ⟨RX3, "commonDivisor", "(JJ)J"⟩
def RX4 : String := "TripReckonerModel"
def TX4 : u_T := fun k => match k with
  | 0 => ("TripReckonerModel", "thrown", "I", false)
  | 1 => ("TripReckonerModel", "tape", "[I", true)
  | 2 => ("TripReckonerModel", "taped", "I", false)
  | 3 => ("TripReckonerModel", "now", "[J", true)
  | 4 => ("TripReckonerModel", "kept", "[J", true)
  | 5 => ("TripReckonerModel", "cap", "I", false)
  | 6 => ("TripReckonerModel", "metres", "I", false)
  | 7 => ("TripReckonerModel", "slop", "I", false)
  | 8 => ("TripReckonerModel", "fast", "I", false)
  | 9 => ("TripReckonerModel", "thirst", "I", false)
  | 10 => ("TripReckonerModel", "low", "I", false)
  | 11 => ("TripReckonerModel", "high", "I", false)
  | 12 => ("TripReckonerModel", "all", "J", false)
  | 13 => ("TripReckonerModel", "begun", "Z", false)
  | 14 => ("TripReckonerModel", "cost", "[I", true)
  | 15 => ("TripReckonerModel", "bought", "[I", true)
  | _ => ("TripReckonerModel", "stops", "I", false)
def tyX4 : Nat → FieldType := fun k => match k with
  | 0 => .int
  | 1 => .array .int
  | 2 => .int
  | 3 => .array .long
  | 4 => .array .long
  | 5 => .int
  | 6 => .int
  | 7 => .int
  | 8 => .int
  | 9 => .int
  | 10 => .int
  | 11 => .int
  | 12 => .long
  | 13 => .boolean
  | 14 => .array .int
  | 15 => .array .int
  | _ => .int
abbrev wsX40 : List Cond := u_ws RX4 TX4 17
theorem nmX4 : ∀ a, a < 17 → ∀ b, b < 17 → a ≠ b → (TX4 a).2.1 ≠ (TX4 b).2.1 := by decide +kernel
theorem tyX4_ok : ∀ k, k < 17 → parseFieldDescriptor (TX4 k).2.2.1 = some (tyX4 k) := by decide +kernel
abbrev cX4_init : ByteArray := prog_6_method_1_code
def yX4_init : MethodName := ⟨RX4, "<init>", "()V"⟩
abbrev cX4_thrown : ByteArray := prog_6_method_2_code
def yX4_thrown : MethodName := ⟨RX4, "thrown", "()I"⟩
abbrev cX4_refuse : ByteArray := prog_6_method_3_code
def yX4_refuse : MethodName := ⟨RX4, "refuse", "()I"⟩
abbrev cX4_come : ByteArray := prog_6_method_4_code
def yX4_come : MethodName := ⟨RX4, "come", "(I)V"⟩
abbrev cX4_feed : ByteArray := prog_6_method_5_code
def yX4_feed : MethodName := ⟨RX4, "feed", "(IIIII)I"⟩
abbrev cX4_end : ByteArray := prog_6_method_6_code
def yX4_end : MethodName := ⟨RX4, "end", "(I)Z"⟩
abbrev cX4_begin : ByteArray := prog_6_method_7_code
def yX4_begin : MethodName := ⟨RX4, "begin", "()V"⟩
abbrev cX4_copy : ByteArray := prog_6_method_8_code
def yX4_copy : MethodName := ⟨RX4, "copy", "()V"⟩
abbrev cX4_isIn : ByteArray := prog_6_method_9_code
def yX4_isIn : MethodName := ⟨RX4, "isIn", "(III)Z"⟩
abbrev cX4_car : ByteArray := prog_6_method_10_code
def yX4_car : MethodName := ⟨RX4, "car", "(III)Z"⟩
abbrev cX4_bounds : ByteArray := prog_6_method_11_code
def yX4_bounds : MethodName := ⟨RX4, "bounds", "(IIII)Z"⟩
abbrev cX4_truth : ByteArray := prog_6_method_12_code
def yX4_truth : MethodName := ⟨RX4, "truth", "()J"⟩
abbrev cX4_step : ByteArray := prog_6_method_13_code
def yX4_step : MethodName := ⟨RX4, "step", "()V"⟩
abbrev cX4_jump : ByteArray := prog_6_method_14_code
def yX4_jump : MethodName := ⟨RX4, "jump", "()V"⟩
abbrev cX4_less : ByteArray := prog_6_method_15_code
def yX4_less : MethodName := ⟨RX4, "less", "(JJ)J"⟩
abbrev cX4_runs : ByteArray := prog_6_method_16_code
def yX4_runs : MethodName := ⟨RX4, "runs", "(JJJJJ)V"⟩
abbrev cX4_drive : ByteArray := prog_6_method_17_code
def yX4_drive : MethodName := ⟨RX4, "drive", "(III)Z"⟩
abbrev cX4_mayGap : ByteArray := prog_6_method_18_code
def yX4_mayGap : MethodName := ⟨RX4, "mayGap", "(I)Z"⟩
abbrev cX4_gaps : ByteArray := prog_6_method_19_code
def yX4_gaps : MethodName := ⟨RX4, "gaps", "(I)V"⟩
abbrev cX4_gap : ByteArray := prog_6_method_20_code
def yX4_gap : MethodName := ⟨RX4, "gap", "(I)Z"⟩
abbrev cX4_dead : ByteArray := prog_6_method_21_code
def yX4_dead : MethodName := ⟨RX4, "dead", "(I)Z"⟩
abbrev cX4_keep : ByteArray := prog_6_method_22_code
def yX4_keep : MethodName := ⟨RX4, "keep", "()V"⟩
abbrev cX4_clear : ByteArray := prog_6_method_23_code
def yX4_clear : MethodName := ⟨RX4, "clear", "(I)V"⟩
abbrev cX4_set : ByteArray := prog_6_method_24_code
def yX4_set : MethodName := ⟨RX4, "set", "(I)Z"⟩
abbrev cX4_place : ByteArray := prog_6_method_25_code
def yX4_place : MethodName := ⟨RX4, "place", "(J)I"⟩
abbrev cX4_tells : ByteArray := prog_6_method_26_code
def yX4_tells : MethodName := ⟨RX4, "tells", "(I)I"⟩
abbrev cX4_settle : ByteArray := prog_6_method_27_code
def yX4_settle : MethodName := ⟨RX4, "settle", "()V"⟩
abbrev cX4_span : ByteArray := prog_6_method_28_code
def yX4_span : MethodName := ⟨RX4, "span", "(Z)I"⟩
abbrev cX4_isMark : ByteArray := prog_6_method_29_code
def yX4_isMark : MethodName := ⟨RX4, "isMark", "(I)Z"⟩
abbrev cX4_mark : ByteArray := prog_6_method_30_code
def yX4_mark : MethodName := ⟨RX4, "mark", "(II)J"⟩
abbrev cX4_metres : ByteArray := prog_6_method_31_code
def yX4_metres : MethodName := ⟨RX4, "metres", "(IZ)J"⟩
abbrev cX4_common : ByteArray := prog_6_method_32_code
def yX4_common : MethodName := ⟨RX4, "common", "(JJ)J"⟩
abbrev cX4_average : ByteArray := prog_6_method_33_code
def yX4_average : MethodName := ⟨RX4, "average", "(IZI)J"⟩
abbrev cX4_range : ByteArray := prog_6_method_34_code
def yX4_range : MethodName := ⟨RX4, "range", "(Z)I"⟩
abbrev cX4_shown : ByteArray := prog_6_method_35_code
def yX4_shown : MethodName := ⟨RX4, "shown", "()I"⟩
abbrev cX4_refill : ByteArray := prog_6_method_36_code
def yX4_refill : MethodName := ⟨RX4, "refill", "(IZ)I"⟩
abbrev cX4_need : ByteArray := prog_6_method_37_code
def yX4_need : MethodName := ⟨RX4, "need", "(I)I"⟩
abbrev cX4_behind : ByteArray := prog_6_method_38_code
def yX4_behind : MethodName := ⟨RX4, "behind", "(III)I"⟩
abbrev cX4_plan : ByteArray := prog_6_method_39_code
def yX4_plan : MethodName := ⟨RX4, "plan", "()I"⟩
abbrev cX4_isBest : ByteArray := prog_6_method_40_code
def yX4_isBest : MethodName := ⟨RX4, "isBest", "(IIII)Z"⟩
abbrev cX4_buys : ByteArray := prog_6_method_41_code
def yX4_buys : MethodName := ⟨RX4, "buys", "(I)I"⟩
abbrev cX4_count : ByteArray := prog_6_method_42_code
def yX4_count : MethodName := ⟨RX4, "count", "(I)I"⟩
def RJ6 : String := "java/lang/Integer"
def TJ6 : u_T := fun k => match k with
  | _ => ("", "", "", false)
def tyJ6 : Nat → FieldType := fun k => match k with
  | _ => .int
abbrev wsJ60 : List Cond := u_ws RJ6 TJ6 0
theorem nmJ6 : ∀ a, a < 0 → ∀ b, b < 0 → a ≠ b → (TJ6 a).2.1 ≠ (TJ6 b).2.1 := by decide +kernel
theorem tyJ6_ok : ∀ k, k < 0 → parseFieldDescriptor (TJ6 k).2.2.1 = some (tyJ6 k) := by decide +kernel
abbrev cJ6_compare_7cf53 : ByteArray := prog_8_method_40_code
def yJ6_compare_7cf53 : MethodName := ⟨RJ6, "compare", "(II)I"⟩
def RJ9 : String := "java/lang/Math"
def TJ9 : u_T := fun k => match k with
  | _ => ("", "", "", false)
def tyJ9 : Nat → FieldType := fun k => match k with
  | _ => .int
abbrev wsJ90 : List Cond := u_ws RJ9 TJ9 0
theorem nmJ9 : ∀ a, a < 0 → ∀ b, b < 0 → a ≠ b → (TJ9 a).2.1 ≠ (TJ9 b).2.1 := by decide +kernel
theorem tyJ9_ok : ∀ k, k < 0 → parseFieldDescriptor (TJ9 k).2.2.1 = some (tyJ9 k) := by decide +kernel
abbrev cJ9_max_7cf53 : ByteArray := prog_9_method_65_code
def yJ9_max_7cf53 : MethodName := ⟨RJ9, "max", "(II)I"⟩
abbrev cJ9_max_f86c9 : ByteArray := prog_9_method_66_code
def yJ9_max_f86c9 : MethodName := ⟨RJ9, "max", "(JJ)J"⟩
abbrev cJ9_min_7cf53 : ByteArray := prog_9_method_69_code
def yJ9_min_7cf53 : MethodName := ⟨RJ9, "min", "(II)I"⟩
abbrev cJ9_min_f86c9 : ByteArray := prog_9_method_70_code
def yJ9_min_f86c9 : MethodName := ⟨RJ9, "min", "(JJ)J"⟩
def RJ0 : String := "java/lang/String"
def TJ0 : u_T := fun k => match k with
  | _ => ("", "", "", false)
def tyJ0 : Nat → FieldType := fun k => match k with
  | _ => .int
abbrev wsJ00 : List Cond := u_ws RJ0 TJ0 0
theorem nmJ0 : ∀ a, a < 0 → ∀ b, b < 0 → a ≠ b → (TJ0 a).2.1 ≠ (TJ0 b).2.1 := by decide +kernel
theorem tyJ0_ok : ∀ k, k < 0 → parseFieldDescriptor (TJ0 k).2.2.1 = some (tyJ0 k) := by decide +kernel
def RJ10 : String := "java/lang/System"
def TJ10 : u_T := fun k => match k with
  | _ => ("", "", "", false)
def tyJ10 : Nat → FieldType := fun k => match k with
  | _ => .int
abbrev wsJ100 : List Cond := u_ws RJ10 TJ10 0
theorem nmJ10 : ∀ a, a < 0 → ∀ b, b < 0 → a ≠ b → (TJ10 a).2.1 ≠ (TJ10 b).2.1 := by decide +kernel
theorem tyJ10_ok : ∀ k, k < 0 → parseFieldDescriptor (TJ10 k).2.2.1 = some (tyJ10 k) := by decide +kernel
def RL : String := "TripReckonerLaw"
abbrev cL_mark : ByteArray := method_3_code
def yL_mark : MethodName := ⟨RL, "mark", "(LTripReckoner;II[J)I"⟩
abbrev cL_metres : ByteArray := method_4_code
def yL_metres : MethodName := ⟨RL, "metres", "(LTripReckoner;IZ[J)I"⟩
abbrev cL_average : ByteArray := method_5_code
def yL_average : MethodName := ⟨RL, "average", "(LTripReckoner;IZI[J)I"⟩
abbrev cL_refill : ByteArray := method_6_code
def yL_refill : MethodName := ⟨RL, "refill", "(LTripReckoner;IZ[J)I"⟩
abbrev cL_law : ByteArray := code
def yL_law : MethodName := ⟨RL, "law", "([I)Z"⟩
def wsX0_init : List Cond := .code yX0_init cX0_init 1 none :: ([.methodLink RX0 3 objectInit, .instanceMethod objectInit, .code objectInit ⟨#[0xb1]⟩ 1 none, .arrayClass .long, .fieldLink RX0 9 "TripReckoner$Ledger" "marks" "[J", .arrayClass .int, .fieldLink RX0 15 "TripReckoner$Ledger" "amountsLeast" "[I", .fieldLink RX0 19 "TripReckoner$Ledger" "amountsGreatest" "[I"] ++ wsX00)
def wsX0_clearMark : List Cond := .code yX0_clearMark cX0_clearMark 3 none :: ([.fieldLink RX0 9 "TripReckoner$Ledger" "marks" "[J"] ++ wsX00)
def wsX0_begin : List Cond := .code yX0_begin cX0_begin 3 none :: ([.fieldLink RX0 22 "TripReckoner$Ledger" "spanLeast" "I", .fieldLink RX0 26 "TripReckoner$Ledger" "spanGreatest" "I", .fieldLink RX0 29 "TripReckoner$Ledger" "refills" "I", .fieldLink RX0 32 "TripReckoner$Ledger" "losses" "I", .fieldLink RX0 35 "TripReckoner$Ledger" "lies" "I", .fieldLink RX0 38 "TripReckoner$Ledger" "jumps" "I", .fieldLink RX0 41 "TripReckoner$Ledger" "shownLitres" "I", .fieldLink RX0 44 "TripReckoner$Ledger" "settling" "Z", .methodLink RX0 48 yX0_clearMark, .instanceMethod yX0_clearMark, .selects RX0 yX0_clearMark yX0_clearMark, .initialized RX0, .code yX0_clearMark cX0_clearMark 3 none, .fieldLink RX0 9 "TripReckoner$Ledger" "marks" "[J"] ++ wsX00)
def wsX0_copyFrom : List Cond := .code yX0_copyFrom cX0_copyFrom 2 none :: ([.fieldLink RX0 22 "TripReckoner$Ledger" "spanLeast" "I", .fieldLink RX0 26 "TripReckoner$Ledger" "spanGreatest" "I", .fieldLink RX0 29 "TripReckoner$Ledger" "refills" "I", .fieldLink RX0 32 "TripReckoner$Ledger" "losses" "I", .fieldLink RX0 35 "TripReckoner$Ledger" "lies" "I", .fieldLink RX0 38 "TripReckoner$Ledger" "jumps" "I", .fieldLink RX0 41 "TripReckoner$Ledger" "shownLitres" "I", .fieldLink RX0 44 "TripReckoner$Ledger" "settling" "Z", .fieldLink RX0 52 "TripReckoner$Ledger" "aheadLeast" "I", .fieldLink RX0 55 "TripReckoner$Ledger" "aheadGreatest" "I", .fieldLink RX0 58 "TripReckoner$Ledger" "usedLeast" "J", .fieldLink RX0 62 "TripReckoner$Ledger" "usedMost" "J", .fieldLink RX0 9 "TripReckoner$Ledger" "marks" "[J", .methodLink RX0 65 arraycopyName, .native arraycopyName, .static arraycopyName, .initialized "java/lang/System", .fieldLink RX0 15 "TripReckoner$Ledger" "amountsLeast" "[I", .fieldLink RX0 19 "TripReckoner$Ledger" "amountsGreatest" "[I"] ++ wsX00)
def wsX0_marked : List Cond := .code yX0_marked cX0_marked 3 (some .long) :: ([.fieldLink RX0 9 "TripReckoner$Ledger" "marks" "[J"] ++ wsX00)
def wsX0_pass : List Cond := .code yX0_pass cX0_pass 8 none :: ([.fieldLink RX0 9 "TripReckoner$Ledger" "marks" "[J", .fieldLink RX0 58 "TripReckoner$Ledger" "usedLeast" "J", .fieldLink RX0 62 "TripReckoner$Ledger" "usedMost" "J"] ++ wsX00)
def wsX0_burn : List Cond := .code yX0_burn cX0_burn 2 none :: ([.fieldLink RX0 26 "TripReckoner$Ledger" "spanGreatest" "I", .fieldLink RX0 35 "TripReckoner$Ledger" "lies" "I", .fieldLink RX0 44 "TripReckoner$Ledger" "settling" "Z", .fieldLink RX0 22 "TripReckoner$Ledger" "spanLeast" "I", .methodLink RX0 71 Lib.Math.max.name, .static Lib.Math.max.name, .initialized "java/lang/Math", .code Lib.Math.max.name Lib.Math.max.code 2 (some .int)] ++ wsX00)
def wsX0_doubt : List Cond := .code yX0_doubt cX0_doubt 2 none :: ([.fieldLink RX0 22 "TripReckoner$Ledger" "spanLeast" "I", .methodLink RX0 71 Lib.Math.max.name, .static Lib.Math.max.name, .initialized "java/lang/Math", .code Lib.Math.max.name Lib.Math.max.code 2 (some .int)] ++ wsX00)
def wsX0_settle : List Cond := .code yX0_settle cX0_settle 6 none :: ([.fieldLink RX0 44 "TripReckoner$Ledger" "settling" "Z", .fieldLink RX0 29 "TripReckoner$Ledger" "refills" "I", .fieldLink RX0 22 "TripReckoner$Ledger" "spanLeast" "I", .fieldLink RX0 58 "TripReckoner$Ledger" "usedLeast" "J", .fieldLink RX0 55 "TripReckoner$Ledger" "aheadGreatest" "I", .fieldLink RX0 26 "TripReckoner$Ledger" "spanGreatest" "I", .fieldLink RX0 62 "TripReckoner$Ledger" "usedMost" "J", .fieldLink RX0 52 "TripReckoner$Ledger" "aheadLeast" "I", .fieldLink RX0 15 "TripReckoner$Ledger" "amountsLeast" "[I", .methodLink RX0 86 Lib.MathLoose.max_long.x, .static Lib.MathLoose.max_long.x, .initialized "java/lang/Math", .code Lib.MathLoose.max_long.x Lib.MathLoose.max_long.code 4 (some .long), .fieldLink RX0 19 "TripReckoner$Ledger" "amountsGreatest" "[I", .methodLink RX0 89 Lib.MathLoose.min_long.x, .static Lib.MathLoose.min_long.x, .code Lib.MathLoose.min_long.x Lib.MathLoose.min_long.code 4 (some .long)] ++ wsX00)
def wsX0_truth : List Cond := .code yX0_truth cX0_truth 1 (some .int) :: ([.fieldLink RX0 22 "TripReckoner$Ledger" "spanLeast" "I", .fieldLink RX0 26 "TripReckoner$Ledger" "spanGreatest" "I"] ++ wsX00)
def wsJ6_compare_7cf53 : List Cond := .code yJ6_compare_7cf53 cJ6_compare_7cf53 2 (some .int) :: ([])
def wsX0_showStep : List Cond := .code yX0_showStep cX0_showStep 1 none :: ([.fieldLink RX0 41 "TripReckoner$Ledger" "shownLitres" "I", .methodLink RX0 95 yX0_truth, .instanceMethod yX0_truth, .selects RX0 yX0_truth yX0_truth, .initialized RX0, .code yX0_truth cX0_truth 1 (some .int), .fieldLink RX0 22 "TripReckoner$Ledger" "spanLeast" "I", .fieldLink RX0 26 "TripReckoner$Ledger" "spanGreatest" "I", .methodLink RX0 99 yJ6_compare_7cf53, .static yJ6_compare_7cf53, .initialized RJ6, .code yJ6_compare_7cf53 cJ6_compare_7cf53 2 (some .int)] ++ wsX00)
def wsX0_narrow_r1 : List Cond := [Cond.fieldLink RX0 22 "TripReckoner$Ledger" "spanLeast" "I", Cond.methodLink RX0 71 Lib.Math.max.name, Cond.static Lib.Math.max.name, Cond.initialized "java/lang/Math", Cond.code Lib.Math.max.name Lib.Math.max.code 2 (some .int), Cond.fieldLink RX0 26 "TripReckoner$Ledger" "spanGreatest" "I", Cond.methodLink RX0 77 Lib.Math.min.name, Cond.static Lib.Math.min.name, Cond.code Lib.Math.min.name Lib.Math.min.code 2 (some .int), Cond.methodLink RX0 80 yX0_settle, Cond.instanceMethod yX0_settle, Cond.selects RX0 yX0_settle yX0_settle, Cond.initialized RX0, Cond.code yX0_settle cX0_settle 6 none, Cond.fieldLink RX0 44 "TripReckoner$Ledger" "settling" "Z", Cond.fieldLink RX0 29 "TripReckoner$Ledger" "refills" "I", Cond.fieldLink RX0 58 "TripReckoner$Ledger" "usedLeast" "J", Cond.fieldLink RX0 55 "TripReckoner$Ledger" "aheadGreatest" "I", Cond.fieldLink RX0 62 "TripReckoner$Ledger" "usedMost" "J", Cond.fieldLink RX0 52 "TripReckoner$Ledger" "aheadLeast" "I", Cond.fieldLink RX0 15 "TripReckoner$Ledger" "amountsLeast" "[I", Cond.methodLink RX0 86 Lib.MathLoose.max_long.x, Cond.static Lib.MathLoose.max_long.x, Cond.code Lib.MathLoose.max_long.x Lib.MathLoose.max_long.code 4 (some .long)]
def wsX0_narrow_r2 : List Cond := [Cond.fieldLink RX0 19 "TripReckoner$Ledger" "amountsGreatest" "[I", Cond.methodLink RX0 89 Lib.MathLoose.min_long.x, Cond.static Lib.MathLoose.min_long.x, Cond.code Lib.MathLoose.min_long.x Lib.MathLoose.min_long.code 4 (some .long), Cond.methodLink RX0 83 yX0_showStep, Cond.instanceMethod yX0_showStep, Cond.selects RX0 yX0_showStep yX0_showStep, Cond.code yX0_showStep cX0_showStep 1 none, Cond.fieldLink RX0 41 "TripReckoner$Ledger" "shownLitres" "I", Cond.methodLink RX0 95 yX0_truth, Cond.instanceMethod yX0_truth, Cond.selects RX0 yX0_truth yX0_truth, Cond.code yX0_truth cX0_truth 1 (some .int), Cond.methodLink RX0 99 yJ6_compare_7cf53, Cond.static yJ6_compare_7cf53, Cond.initialized RJ6, Cond.code yJ6_compare_7cf53 cJ6_compare_7cf53 2 (some .int)]
def wsX0_narrow : List Cond := .code yX0_narrow cX0_narrow 3 none :: ((wsX0_narrow_r1 ++ wsX0_narrow_r2) ++ wsX00)
def wsX0_takeFloat : List Cond := .code yX0_takeFloat cX0_takeFloat 3 none :: ([.fieldLink RX0 22 "TripReckoner$Ledger" "spanLeast" "I", .fieldLink RX0 26 "TripReckoner$Ledger" "spanGreatest" "I", .fieldLink RX0 41 "TripReckoner$Ledger" "shownLitres" "I", .fieldLink RX0 38 "TripReckoner$Ledger" "jumps" "I", .methodLink RX0 95 yX0_truth, .instanceMethod yX0_truth, .selects RX0 yX0_truth yX0_truth, .initialized RX0, .code yX0_truth cX0_truth 1 (some .int)] ++ wsX00)
def wsX0_takeRefill_r1 : List Cond := [Cond.fieldLink RX0 29 "TripReckoner$Ledger" "refills" "I", Cond.fieldLink RX0 15 "TripReckoner$Ledger" "amountsLeast" "[I", Cond.fieldLink RX0 26 "TripReckoner$Ledger" "spanGreatest" "I", Cond.fieldLink RX0 19 "TripReckoner$Ledger" "amountsGreatest" "[I", Cond.fieldLink RX0 22 "TripReckoner$Ledger" "spanLeast" "I", Cond.fieldLink RX0 44 "TripReckoner$Ledger" "settling" "Z", Cond.fieldLink RX0 52 "TripReckoner$Ledger" "aheadLeast" "I", Cond.fieldLink RX0 55 "TripReckoner$Ledger" "aheadGreatest" "I", Cond.fieldLink RX0 58 "TripReckoner$Ledger" "usedLeast" "J", Cond.fieldLink RX0 62 "TripReckoner$Ledger" "usedMost" "J", Cond.methodLink RX0 48 yX0_clearMark, Cond.instanceMethod yX0_clearMark, Cond.selects RX0 yX0_clearMark yX0_clearMark, Cond.initialized RX0, Cond.code yX0_clearMark cX0_clearMark 3 none, Cond.fieldLink RX0 9 "TripReckoner$Ledger" "marks" "[J", Cond.methodLink RX0 91 yX0_takeFloat, Cond.instanceMethod yX0_takeFloat, Cond.selects RX0 yX0_takeFloat yX0_takeFloat, Cond.code yX0_takeFloat cX0_takeFloat 3 none, Cond.fieldLink RX0 41 "TripReckoner$Ledger" "shownLitres" "I", Cond.fieldLink RX0 38 "TripReckoner$Ledger" "jumps" "I", Cond.methodLink RX0 95 yX0_truth, Cond.instanceMethod yX0_truth]
def wsX0_takeRefill_r2 : List Cond := [Cond.selects RX0 yX0_truth yX0_truth, Cond.code yX0_truth cX0_truth 1 (some .int)]
def wsX0_takeRefill : List Cond := .code yX0_takeRefill cX0_takeRefill 4 none :: ((wsX0_takeRefill_r1 ++ wsX0_takeRefill_r2) ++ wsX00)
def wsX0_takeLoss : List Cond := .code yX0_takeLoss cX0_takeLoss 3 none :: ([.fieldLink RX0 32 "TripReckoner$Ledger" "losses" "I", .fieldLink RX0 44 "TripReckoner$Ledger" "settling" "Z", .methodLink RX0 91 yX0_takeFloat, .instanceMethod yX0_takeFloat, .selects RX0 yX0_takeFloat yX0_takeFloat, .initialized RX0, .code yX0_takeFloat cX0_takeFloat 3 none, .fieldLink RX0 22 "TripReckoner$Ledger" "spanLeast" "I", .fieldLink RX0 26 "TripReckoner$Ledger" "spanGreatest" "I", .fieldLink RX0 41 "TripReckoner$Ledger" "shownLitres" "I", .fieldLink RX0 38 "TripReckoner$Ledger" "jumps" "I", .methodLink RX0 95 yX0_truth, .instanceMethod yX0_truth, .selects RX0 yX0_truth yX0_truth, .code yX0_truth cX0_truth 1 (some .int)] ++ wsX00)
def wsX0_tellsRefill : List Cond := .code yX0_tellsRefill cX0_tellsRefill 2 (some .boolean) :: ([.fieldLink RX0 29 "TripReckoner$Ledger" "refills" "I"] ++ wsX00)
def wsX0_amount : List Cond := .code yX0_amount cX0_amount 4 (some .int) :: ([.fieldLink RX0 19 "TripReckoner$Ledger" "amountsGreatest" "[I", .fieldLink RX0 15 "TripReckoner$Ledger" "amountsLeast" "[I"] ++ wsX00)
def wsX1_init : List Cond := .code yX1_init cX1_init 1 none :: ([.methodLink RX1 3 objectInit, .instanceMethod objectInit, .code objectInit ⟨#[0xb1]⟩ 1 none, .arrayClass .int, .fieldLink RX1 11 "TripReckoner$Planner" "legs" "[I", .fieldLink RX1 15 "TripReckoner$Planner" "prices" "[I", .fieldLink RX1 18 "TripReckoner$Planner" "toGo" "[I", .fieldLink RX1 21 "TripReckoner$Planner" "fillTo" "[I", .fieldLink RX1 24 "TripReckoner$Planner" "bought" "[I", .fieldLink RX1 27 "TripReckoner$Planner" "stations" "I", .fieldLink RX1 31 "TripReckoner$Planner" "plannedStations" "I"] ++ wsX10)
def wsX1_read : List Cond := .code yX1_read cX1_read 4 (some .boolean) :: ([.fieldLink RX1 27 "TripReckoner$Planner" "stations" "I", .fieldLink RX1 11 "TripReckoner$Planner" "legs" "[I", .fieldLink RX1 15 "TripReckoner$Planner" "prices" "[I"] ++ wsX20 ++ wsX10)
def wsX1_reckonStation : List Cond := .code yX1_reckonStation cX1_reckonStation 10 none :: ([.fieldLink RX1 11 "TripReckoner$Planner" "legs" "[I", .fieldLink RX1 15 "TripReckoner$Planner" "prices" "[I", .constant RX1 52 (1000000000), .fieldLink RX1 18 "TripReckoner$Planner" "toGo" "[I", .fieldLink RX1 21 "TripReckoner$Planner" "fillTo" "[I"] ++ wsX10)
def wsX1_reckonBackwards : List Cond := .code yX1_reckonBackwards cX1_reckonBackwards 3 none :: ([.fieldLink RX1 18 "TripReckoner$Planner" "toGo" "[I", .fieldLink RX1 27 "TripReckoner$Planner" "stations" "I", .methodLink RX1 56 yX1_reckonStation, .instanceMethod yX1_reckonStation, .selects RX1 yX1_reckonStation yX1_reckonStation, .initialized RX1, .code yX1_reckonStation cX1_reckonStation 10 none, .fieldLink RX1 11 "TripReckoner$Planner" "legs" "[I", .fieldLink RX1 15 "TripReckoner$Planner" "prices" "[I", .constant RX1 52 (1000000000), .fieldLink RX1 21 "TripReckoner$Planner" "fillTo" "[I"] ++ wsX10)
def wsX1_buyForwards : List Cond := .code yX1_buyForwards cX1_buyForwards 5 none :: ([.fieldLink RX1 27 "TripReckoner$Planner" "stations" "I", .fieldLink RX1 21 "TripReckoner$Planner" "fillTo" "[I", .fieldLink RX1 24 "TripReckoner$Planner" "bought" "[I", .fieldLink RX1 11 "TripReckoner$Planner" "legs" "[I", .fieldLink RX1 31 "TripReckoner$Planner" "plannedStations" "I"] ++ wsX10)
def wsX1_reckon_r1 : List Cond := [Cond.methodLink RX1 42 Lib.Math.min.name, Cond.static Lib.Math.min.name, Cond.initialized "java/lang/Math", Cond.code Lib.Math.min.name Lib.Math.min.code 2 (some .int), Cond.fieldLink RX1 11 "TripReckoner$Planner" "legs" "[I", Cond.fieldLink RX1 18 "TripReckoner$Planner" "toGo" "[I", Cond.constant RX1 52 (1000000000), Cond.methodLink RX1 48 yX1_reckonBackwards, Cond.instanceMethod yX1_reckonBackwards, Cond.selects RX1 yX1_reckonBackwards yX1_reckonBackwards, Cond.initialized RX1, Cond.code yX1_reckonBackwards cX1_reckonBackwards 3 none, Cond.fieldLink RX1 27 "TripReckoner$Planner" "stations" "I", Cond.methodLink RX1 56 yX1_reckonStation, Cond.instanceMethod yX1_reckonStation, Cond.selects RX1 yX1_reckonStation yX1_reckonStation, Cond.code yX1_reckonStation cX1_reckonStation 10 none, Cond.fieldLink RX1 15 "TripReckoner$Planner" "prices" "[I", Cond.fieldLink RX1 21 "TripReckoner$Planner" "fillTo" "[I", Cond.methodLink RX1 53 yX1_buyForwards, Cond.instanceMethod yX1_buyForwards, Cond.selects RX1 yX1_buyForwards yX1_buyForwards, Cond.code yX1_buyForwards cX1_buyForwards 5 none, Cond.fieldLink RX1 24 "TripReckoner$Planner" "bought" "[I"]
def wsX1_reckon_r2 : List Cond := [Cond.fieldLink RX1 31 "TripReckoner$Planner" "plannedStations" "I"]
def wsX1_reckon : List Cond := .code yX1_reckon cX1_reckon 6 (some .int) :: ((wsX1_reckon_r1 ++ wsX1_reckon_r2) ++ wsX10)
def wsX1_boughtAt : List Cond := .code yX1_boughtAt cX1_boughtAt 2 (some .int) :: ([.fieldLink RX1 31 "TripReckoner$Planner" "plannedStations" "I", .fieldLink RX1 24 "TripReckoner$Planner" "bought" "[I"] ++ wsX10)
def wsX2_init : List Cond := .code yX2_init cX2_init 1 none :: ([.methodLink RX2 1 objectInit, .instanceMethod objectInit, .code objectInit ⟨#[0xb1]⟩ 1 none, .arrayClass .int, .fieldLink RX2 9 "TripReckoner$Tape" "bytes" "[I", .fieldLink RX2 13 "TripReckoner$Tape" "size" "I"] ++ wsX20)
def wsX2_hasRoom : List Cond := .code yX2_hasRoom cX2_hasRoom 1 (some .boolean) :: ([.fieldLink RX2 13 "TripReckoner$Tape" "size" "I"] ++ wsX20)
def wsX2_push : List Cond := .code yX2_push cX2_push 3 none :: ([.fieldLink RX2 13 "TripReckoner$Tape" "size" "I", .fieldLink RX2 9 "TripReckoner$Tape" "bytes" "[I"] ++ wsX20)
def wsX2_shorten : List Cond := .code yX2_shorten cX2_shorten 2 (some .boolean) :: ([.fieldLink RX2 13 "TripReckoner$Tape" "size" "I"] ++ wsX20)
def wsX3_init_r1 : List Cond := [Cond.methodLink RX3 1 objectInit, Cond.instanceMethod objectInit, Cond.code objectInit ⟨#[0xb1]⟩ 1 none, Cond.classLink RX3 7 RX0, Cond.instantiable RX0 15, Cond.initialized RX0, Cond.fieldLink RX3 10 "TripReckoner" "now" "LTripReckoner$Ledger;", Cond.fieldLink RX3 16 "TripReckoner" "kept" "LTripReckoner$Ledger;", Cond.classLink RX3 19 RX2, Cond.instantiable RX2 2, Cond.initialized RX2, Cond.fieldLink RX3 22 "TripReckoner" "tape" "LTripReckoner$Tape;", Cond.classLink RX3 26 RX1, Cond.instantiable RX1 7, Cond.initialized RX1, Cond.fieldLink RX3 29 "TripReckoner" "planner" "LTripReckoner$Planner;", Cond.constant RX3 33 (50000), Cond.fieldLink RX3 34 "TripReckoner" "tankSize" "I", Cond.fieldLink RX3 38 "TripReckoner" "metresPerHundred" "I", Cond.fieldLink RX3 41 "TripReckoner" "floatSlop" "I", Cond.fieldLink RX3 44 "TripReckoner" "fastest" "I", Cond.fieldLink RX3 47 "TripReckoner" "thirstiest" "I", Cond.fieldLink RX3 50 "TripReckoner" "lowUse" "I", Cond.fieldLink RX3 53 "TripReckoner" "highUse" "I"]
def wsX3_init_r2 : List Cond := [Cond.fieldLink RX3 56 "TripReckoner" "pulsesInAll" "J", Cond.instanceMethod yX0_init, Cond.code yX0_init cX0_init 1 none, Cond.methodLink RX0 3 objectInit, Cond.arrayClass .long, Cond.fieldLink RX0 9 "TripReckoner$Ledger" "marks" "[J", Cond.arrayClass .int, Cond.fieldLink RX0 15 "TripReckoner$Ledger" "amountsLeast" "[I", Cond.fieldLink RX0 19 "TripReckoner$Ledger" "amountsGreatest" "[I", Cond.instanceMethod yX2_init, Cond.code yX2_init cX2_init 1 none, Cond.methodLink RX2 1 objectInit, Cond.fieldLink RX2 9 "TripReckoner$Tape" "bytes" "[I", Cond.fieldLink RX2 13 "TripReckoner$Tape" "size" "I", Cond.instanceMethod yX1_init, Cond.code yX1_init cX1_init 1 none, Cond.methodLink RX1 3 objectInit, Cond.fieldLink RX1 11 "TripReckoner$Planner" "legs" "[I", Cond.fieldLink RX1 15 "TripReckoner$Planner" "prices" "[I", Cond.fieldLink RX1 18 "TripReckoner$Planner" "toGo" "[I", Cond.fieldLink RX1 21 "TripReckoner$Planner" "fillTo" "[I", Cond.fieldLink RX1 24 "TripReckoner$Planner" "bought" "[I", Cond.fieldLink RX1 27 "TripReckoner$Planner" "stations" "I", Cond.fieldLink RX1 31 "TripReckoner$Planner" "plannedStations" "I"]
def wsX3_init_r3 : List Cond := [Cond.instanceMethod yX0_begin, Cond.selects RX0 yX0_begin yX0_begin, Cond.code yX0_begin cX0_begin 3 none, Cond.fieldLink RX0 22 "TripReckoner$Ledger" "spanLeast" "I", Cond.fieldLink RX0 26 "TripReckoner$Ledger" "spanGreatest" "I", Cond.fieldLink RX0 29 "TripReckoner$Ledger" "refills" "I", Cond.fieldLink RX0 32 "TripReckoner$Ledger" "losses" "I", Cond.fieldLink RX0 35 "TripReckoner$Ledger" "lies" "I", Cond.fieldLink RX0 38 "TripReckoner$Ledger" "jumps" "I", Cond.fieldLink RX0 41 "TripReckoner$Ledger" "shownLitres" "I", Cond.fieldLink RX0 44 "TripReckoner$Ledger" "settling" "Z", Cond.methodLink RX0 48 yX0_clearMark, Cond.instanceMethod yX0_clearMark, Cond.selects RX0 yX0_clearMark yX0_clearMark, Cond.code yX0_clearMark cX0_clearMark 3 none]
def wsX3_init : List Cond := .code yX3_init cX3_init 1 none :: ((wsX3_init_r1 ++ (wsX3_init_r2 ++ wsX3_init_r3)) ++ wsX00 ++ wsX30 ++ wsX20 ++ wsX10)
def wsX3_feed : List Cond := .code yX3_feed cX3_feed 6 (some .int) :: ([.fieldLink RX3 22 "TripReckoner" "tape" "LTripReckoner$Tape;", .instanceMethod yX2_hasRoom, .initialized RX2, .selects RX2 yX2_hasRoom yX2_hasRoom, .code yX2_hasRoom cX2_hasRoom 1 (some .boolean), .fieldLink RX2 13 "TripReckoner$Tape" "size" "I", .instanceMethod yX2_push, .selects RX2 yX2_push yX2_push, .code yX2_push cX2_push 3 none, .fieldLink RX2 9 "TripReckoner$Tape" "bytes" "[I"] ++ wsX30 ++ wsX20)
def wsX3_end : List Cond := .code yX3_end cX3_end 2 (some .boolean) :: ([.fieldLink RX3 22 "TripReckoner" "tape" "LTripReckoner$Tape;", .instanceMethod yX2_shorten, .initialized RX2, .selects RX2 yX2_shorten yX2_shorten, .code yX2_shorten cX2_shorten 2 (some .boolean), .fieldLink RX2 13 "TripReckoner$Tape" "size" "I"] ++ wsX30 ++ wsX20)
def wsX3_within : List Cond := .code yX3_within cX3_within 3 (some .boolean) :: ([])
def wsX3_car_r1 : List Cond := [Cond.constant RX3 78 (120000), Cond.fieldLink RX3 34 "TripReckoner" "tankSize" "I", Cond.fieldLink RX3 38 "TripReckoner" "metresPerHundred" "I", Cond.fieldLink RX3 41 "TripReckoner" "floatSlop" "I", Cond.fieldLink RX3 56 "TripReckoner" "pulsesInAll" "J", Cond.fieldLink RX3 10 "TripReckoner" "now" "LTripReckoner$Ledger;", Cond.fieldLink RX3 16 "TripReckoner" "kept" "LTripReckoner$Ledger;", Cond.methodLink RX3 79 yX3_within, Cond.static yX3_within, Cond.initialized RX3, Cond.code yX3_within cX3_within 3 (some .boolean), Cond.instanceMethod yX0_begin, Cond.initialized RX0, Cond.selects RX0 yX0_begin yX0_begin, Cond.code yX0_begin cX0_begin 3 none, Cond.fieldLink RX0 22 "TripReckoner$Ledger" "spanLeast" "I", Cond.fieldLink RX0 26 "TripReckoner$Ledger" "spanGreatest" "I", Cond.fieldLink RX0 29 "TripReckoner$Ledger" "refills" "I", Cond.fieldLink RX0 32 "TripReckoner$Ledger" "losses" "I", Cond.fieldLink RX0 35 "TripReckoner$Ledger" "lies" "I", Cond.fieldLink RX0 38 "TripReckoner$Ledger" "jumps" "I", Cond.fieldLink RX0 41 "TripReckoner$Ledger" "shownLitres" "I", Cond.fieldLink RX0 44 "TripReckoner$Ledger" "settling" "Z", Cond.methodLink RX0 48 yX0_clearMark]
def wsX3_car_r2 : List Cond := [Cond.instanceMethod yX0_clearMark, Cond.selects RX0 yX0_clearMark yX0_clearMark, Cond.code yX0_clearMark cX0_clearMark 3 none, Cond.fieldLink RX0 9 "TripReckoner$Ledger" "marks" "[J"]
def wsX3_car : List Cond := .code yX3_car cX3_car 4 (some .boolean) :: ((wsX3_car_r1 ++ wsX3_car_r2) ++ wsX30 ++ wsX00)
def wsX3_checkedBounds : List Cond := .code yX3_checkedBounds cX3_checkedBounds 4 (some .boolean) :: ([.methodLink RX3 79 yX3_within, .static yX3_within, .initialized RX3, .code yX3_within cX3_within 3 (some .boolean)])
def wsX3_bounds : List Cond := .code yX3_bounds cX3_bounds 5 (some .boolean) :: ([.fieldLink RX3 44 "TripReckoner" "fastest" "I", .fieldLink RX3 47 "TripReckoner" "thirstiest" "I", .fieldLink RX3 50 "TripReckoner" "lowUse" "I", .fieldLink RX3 53 "TripReckoner" "highUse" "I", .methodLink RX3 83 yX3_checkedBounds, .static yX3_checkedBounds, .initialized RX3, .code yX3_checkedBounds cX3_checkedBounds 4 (some .boolean), .methodLink RX3 79 yX3_within, .static yX3_within, .code yX3_within cX3_within 3 (some .boolean)] ++ wsX30)
def wsX3_drive_r1 : List Cond := [Cond.constant RX3 87 (100000), Cond.fieldLink RX3 56 "TripReckoner" "pulsesInAll" "J", Cond.constantLong RX3 88 (100000000), Cond.fieldLink RX3 10 "TripReckoner" "now" "LTripReckoner$Ledger;", Cond.methodLink RX3 79 yX3_within, Cond.static yX3_within, Cond.initialized RX3, Cond.code yX3_within cX3_within 3 (some .boolean), Cond.instanceMethod yX0_pass, Cond.initialized RX0, Cond.selects RX0 yX0_pass yX0_pass, Cond.code yX0_pass cX0_pass 8 none, Cond.fieldLink RX0 9 "TripReckoner$Ledger" "marks" "[J", Cond.fieldLink RX0 58 "TripReckoner$Ledger" "usedLeast" "J", Cond.fieldLink RX0 62 "TripReckoner$Ledger" "usedMost" "J", Cond.instanceMethod yX0_burn, Cond.selects RX0 yX0_burn yX0_burn, Cond.code yX0_burn cX0_burn 2 none, Cond.fieldLink RX0 26 "TripReckoner$Ledger" "spanGreatest" "I", Cond.fieldLink RX0 35 "TripReckoner$Ledger" "lies" "I", Cond.fieldLink RX0 44 "TripReckoner$Ledger" "settling" "Z", Cond.fieldLink RX0 22 "TripReckoner$Ledger" "spanLeast" "I", Cond.methodLink RX0 71 Lib.Math.max.name, Cond.static Lib.Math.max.name]
def wsX3_drive_r2 : List Cond := [Cond.initialized "java/lang/Math", Cond.code Lib.Math.max.name Lib.Math.max.code 2 (some .int), Cond.instanceMethod yX0_showStep, Cond.selects RX0 yX0_showStep yX0_showStep, Cond.code yX0_showStep cX0_showStep 1 none, Cond.fieldLink RX0 41 "TripReckoner$Ledger" "shownLitres" "I", Cond.methodLink RX0 95 yX0_truth, Cond.instanceMethod yX0_truth, Cond.selects RX0 yX0_truth yX0_truth, Cond.code yX0_truth cX0_truth 1 (some .int), Cond.methodLink RX0 99 yJ6_compare_7cf53, Cond.static yJ6_compare_7cf53, Cond.initialized RJ6, Cond.code yJ6_compare_7cf53 cJ6_compare_7cf53 2 (some .int)]
def wsX3_drive : List Cond := .code yX3_drive cX3_drive 4 (some .boolean) :: ((wsX3_drive_r1 ++ wsX3_drive_r2) ++ wsX30 ++ wsX00)
def wsX3_gapFits : List Cond := .code yX3_gapFits cX3_gapFits 2 (some .boolean) :: ([.constant RX3 203 (36000), .fieldLink RX3 56 "TripReckoner" "pulsesInAll" "J", .fieldLink RX3 44 "TripReckoner" "fastest" "I", .constantLong RX3 88 (100000000), .methodLink RX3 79 yX3_within, .static yX3_within, .initialized RX3, .code yX3_within cX3_within 3 (some .boolean)] ++ wsX30)
def wsX3_passGap_r1 : List Cond := [Cond.fieldLink RX3 44 "TripReckoner" "fastest" "I", Cond.fieldLink RX3 47 "TripReckoner" "thirstiest" "I", Cond.fieldLink RX3 56 "TripReckoner" "pulsesInAll" "J", Cond.fieldLink RX3 10 "TripReckoner" "now" "LTripReckoner$Ledger;", Cond.instanceMethod yX0_pass, Cond.initialized RX0, Cond.selects RX0 yX0_pass yX0_pass, Cond.code yX0_pass cX0_pass 8 none, Cond.fieldLink RX0 9 "TripReckoner$Ledger" "marks" "[J", Cond.fieldLink RX0 58 "TripReckoner$Ledger" "usedLeast" "J", Cond.fieldLink RX0 62 "TripReckoner$Ledger" "usedMost" "J", Cond.instanceMethod yX0_doubt, Cond.selects RX0 yX0_doubt yX0_doubt, Cond.code yX0_doubt cX0_doubt 2 none, Cond.fieldLink RX0 22 "TripReckoner$Ledger" "spanLeast" "I", Cond.methodLink RX0 71 Lib.Math.max.name, Cond.static Lib.Math.max.name, Cond.initialized "java/lang/Math", Cond.code Lib.Math.max.name Lib.Math.max.code 2 (some .int), Cond.instanceMethod yX0_showStep, Cond.selects RX0 yX0_showStep yX0_showStep, Cond.code yX0_showStep cX0_showStep 1 none, Cond.fieldLink RX0 41 "TripReckoner$Ledger" "shownLitres" "I", Cond.methodLink RX0 95 yX0_truth]
def wsX3_passGap_r2 : List Cond := [Cond.instanceMethod yX0_truth, Cond.selects RX0 yX0_truth yX0_truth, Cond.code yX0_truth cX0_truth 1 (some .int), Cond.fieldLink RX0 26 "TripReckoner$Ledger" "spanGreatest" "I", Cond.methodLink RX0 99 yJ6_compare_7cf53, Cond.static yJ6_compare_7cf53, Cond.initialized RJ6, Cond.code yJ6_compare_7cf53 cJ6_compare_7cf53 2 (some .int)]
def wsX3_passGap : List Cond := .code yX3_passGap cX3_passGap 4 none :: ((wsX3_passGap_r1 ++ wsX3_passGap_r2) ++ wsX30 ++ wsX00)
def wsX3_gap_r1 : List Cond := [Cond.methodLink RX3 100 yX3_gapFits, Cond.instanceMethod yX3_gapFits, Cond.selects RX3 yX3_gapFits yX3_gapFits, Cond.initialized RX3, Cond.code yX3_gapFits cX3_gapFits 2 (some .boolean), Cond.constant RX3 203 (36000), Cond.fieldLink RX3 56 "TripReckoner" "pulsesInAll" "J", Cond.fieldLink RX3 44 "TripReckoner" "fastest" "I", Cond.constantLong RX3 88 (100000000), Cond.methodLink RX3 79 yX3_within, Cond.static yX3_within, Cond.code yX3_within cX3_within 3 (some .boolean), Cond.methodLink RX3 103 yX3_passGap, Cond.instanceMethod yX3_passGap, Cond.selects RX3 yX3_passGap yX3_passGap, Cond.code yX3_passGap cX3_passGap 4 none, Cond.fieldLink RX3 47 "TripReckoner" "thirstiest" "I", Cond.fieldLink RX3 10 "TripReckoner" "now" "LTripReckoner$Ledger;", Cond.instanceMethod yX0_pass, Cond.initialized RX0, Cond.selects RX0 yX0_pass yX0_pass, Cond.code yX0_pass cX0_pass 8 none, Cond.fieldLink RX0 9 "TripReckoner$Ledger" "marks" "[J", Cond.fieldLink RX0 58 "TripReckoner$Ledger" "usedLeast" "J"]
def wsX3_gap_r2 : List Cond := [Cond.fieldLink RX0 62 "TripReckoner$Ledger" "usedMost" "J", Cond.instanceMethod yX0_doubt, Cond.selects RX0 yX0_doubt yX0_doubt, Cond.code yX0_doubt cX0_doubt 2 none, Cond.fieldLink RX0 22 "TripReckoner$Ledger" "spanLeast" "I", Cond.methodLink RX0 71 Lib.Math.max.name, Cond.static Lib.Math.max.name, Cond.initialized "java/lang/Math", Cond.code Lib.Math.max.name Lib.Math.max.code 2 (some .int), Cond.instanceMethod yX0_showStep, Cond.selects RX0 yX0_showStep yX0_showStep, Cond.code yX0_showStep cX0_showStep 1 none, Cond.fieldLink RX0 41 "TripReckoner$Ledger" "shownLitres" "I", Cond.methodLink RX0 95 yX0_truth, Cond.instanceMethod yX0_truth, Cond.selects RX0 yX0_truth yX0_truth, Cond.code yX0_truth cX0_truth 1 (some .int), Cond.fieldLink RX0 26 "TripReckoner$Ledger" "spanGreatest" "I", Cond.methodLink RX0 99 yJ6_compare_7cf53, Cond.static yJ6_compare_7cf53, Cond.initialized RJ6, Cond.code yJ6_compare_7cf53 cJ6_compare_7cf53 2 (some .int)]
def wsX3_gap : List Cond := .code yX3_gap cX3_gap 2 (some .boolean) :: ((wsX3_gap_r1 ++ wsX3_gap_r2) ++ wsX30 ++ wsX00)
def wsX3_tells_r1 : List Cond := [Cond.fieldLink RX3 34 "TripReckoner" "tankSize" "I", Cond.fieldLink RX3 41 "TripReckoner" "floatSlop" "I", Cond.methodLink RX3 106 Lib.Math.max.name, Cond.static Lib.Math.max.name, Cond.initialized "java/lang/Math", Cond.code Lib.Math.max.name Lib.Math.max.code 2 (some .int), Cond.methodLink RX3 112 Lib.Math.min.name, Cond.static Lib.Math.min.name, Cond.code Lib.Math.min.name Lib.Math.min.code 2 (some .int), Cond.fieldLink RX3 10 "TripReckoner" "now" "LTripReckoner$Ledger;", Cond.methodLink RX3 79 yX3_within, Cond.static yX3_within, Cond.initialized RX3, Cond.code yX3_within cX3_within 3 (some .boolean), Cond.instanceMethod yX0_takeRefill, Cond.initialized RX0, Cond.selects RX0 yX0_takeRefill yX0_takeRefill, Cond.code yX0_takeRefill cX0_takeRefill 4 none, Cond.fieldLink RX0 29 "TripReckoner$Ledger" "refills" "I", Cond.fieldLink RX0 15 "TripReckoner$Ledger" "amountsLeast" "[I", Cond.fieldLink RX0 26 "TripReckoner$Ledger" "spanGreatest" "I", Cond.fieldLink RX0 19 "TripReckoner$Ledger" "amountsGreatest" "[I", Cond.fieldLink RX0 22 "TripReckoner$Ledger" "spanLeast" "I", Cond.fieldLink RX0 44 "TripReckoner$Ledger" "settling" "Z"]
def wsX3_tells_r2 : List Cond := [Cond.fieldLink RX0 52 "TripReckoner$Ledger" "aheadLeast" "I", Cond.fieldLink RX0 55 "TripReckoner$Ledger" "aheadGreatest" "I", Cond.fieldLink RX0 58 "TripReckoner$Ledger" "usedLeast" "J", Cond.fieldLink RX0 62 "TripReckoner$Ledger" "usedMost" "J", Cond.methodLink RX0 48 yX0_clearMark, Cond.instanceMethod yX0_clearMark, Cond.selects RX0 yX0_clearMark yX0_clearMark, Cond.code yX0_clearMark cX0_clearMark 3 none, Cond.fieldLink RX0 9 "TripReckoner$Ledger" "marks" "[J", Cond.methodLink RX0 91 yX0_takeFloat, Cond.instanceMethod yX0_takeFloat, Cond.selects RX0 yX0_takeFloat yX0_takeFloat, Cond.code yX0_takeFloat cX0_takeFloat 3 none, Cond.fieldLink RX0 41 "TripReckoner$Ledger" "shownLitres" "I", Cond.fieldLink RX0 38 "TripReckoner$Ledger" "jumps" "I", Cond.methodLink RX0 95 yX0_truth, Cond.instanceMethod yX0_truth, Cond.selects RX0 yX0_truth yX0_truth, Cond.code yX0_truth cX0_truth 1 (some .int), Cond.instanceMethod yX0_takeLoss, Cond.selects RX0 yX0_takeLoss yX0_takeLoss, Cond.code yX0_takeLoss cX0_takeLoss 3 none, Cond.fieldLink RX0 32 "TripReckoner$Ledger" "losses" "I", Cond.instanceMethod yX0_narrow]
def wsX3_tells_r3 : List Cond := [Cond.selects RX0 yX0_narrow yX0_narrow, Cond.code yX0_narrow cX0_narrow 3 none, Cond.methodLink RX0 71 Lib.Math.max.name, Cond.methodLink RX0 77 Lib.Math.min.name, Cond.methodLink RX0 80 yX0_settle, Cond.instanceMethod yX0_settle, Cond.selects RX0 yX0_settle yX0_settle, Cond.code yX0_settle cX0_settle 6 none, Cond.methodLink RX0 86 Lib.MathLoose.max_long.x, Cond.static Lib.MathLoose.max_long.x, Cond.code Lib.MathLoose.max_long.x Lib.MathLoose.max_long.code 4 (some .long), Cond.methodLink RX0 89 Lib.MathLoose.min_long.x, Cond.static Lib.MathLoose.min_long.x, Cond.code Lib.MathLoose.min_long.x Lib.MathLoose.min_long.code 4 (some .long), Cond.methodLink RX0 83 yX0_showStep, Cond.instanceMethod yX0_showStep, Cond.selects RX0 yX0_showStep yX0_showStep, Cond.code yX0_showStep cX0_showStep 1 none, Cond.methodLink RX0 99 yJ6_compare_7cf53, Cond.static yJ6_compare_7cf53, Cond.initialized RJ6, Cond.code yJ6_compare_7cf53 cJ6_compare_7cf53 2 (some .int)]
def wsX3_tells : List Cond := .code yX3_tells cX3_tells 4 (some .int) :: ((wsX3_tells_r1 ++ (wsX3_tells_r2 ++ wsX3_tells_r3)) ++ wsX30 ++ wsX00)
def wsX3_isMark : List Cond := .code yX3_isMark cX3_isMark 1 (some .boolean) :: ([.methodLink RX3 79 yX3_within, .static yX3_within, .initialized RX3, .code yX3_within cX3_within 3 (some .boolean)])
def wsX3_set : List Cond := .code yX3_set cX3_set 2 (some .boolean) :: ([.fieldLink RX3 10 "TripReckoner" "now" "LTripReckoner$Ledger;", .methodLink RX3 131 yX3_isMark, .static yX3_isMark, .initialized RX3, .code yX3_isMark cX3_isMark 1 (some .boolean), .methodLink RX3 79 yX3_within, .static yX3_within, .code yX3_within cX3_within 3 (some .boolean), .instanceMethod yX0_clearMark, .initialized RX0, .selects RX0 yX0_clearMark yX0_clearMark, .code yX0_clearMark cX0_clearMark 3 none, .fieldLink RX0 9 "TripReckoner$Ledger" "marks" "[J"] ++ wsX30 ++ wsX00)
def wsX3_keep_r1 : List Cond := [Cond.fieldLink RX3 16 "TripReckoner" "kept" "LTripReckoner$Ledger;", Cond.fieldLink RX3 10 "TripReckoner" "now" "LTripReckoner$Ledger;", Cond.instanceMethod yX0_copyFrom, Cond.initialized RX0, Cond.selects RX0 yX0_copyFrom yX0_copyFrom, Cond.code yX0_copyFrom cX0_copyFrom 2 none, Cond.fieldLink RX0 22 "TripReckoner$Ledger" "spanLeast" "I", Cond.fieldLink RX0 26 "TripReckoner$Ledger" "spanGreatest" "I", Cond.fieldLink RX0 29 "TripReckoner$Ledger" "refills" "I", Cond.fieldLink RX0 32 "TripReckoner$Ledger" "losses" "I", Cond.fieldLink RX0 35 "TripReckoner$Ledger" "lies" "I", Cond.fieldLink RX0 38 "TripReckoner$Ledger" "jumps" "I", Cond.fieldLink RX0 41 "TripReckoner$Ledger" "shownLitres" "I", Cond.fieldLink RX0 44 "TripReckoner$Ledger" "settling" "Z", Cond.fieldLink RX0 52 "TripReckoner$Ledger" "aheadLeast" "I", Cond.fieldLink RX0 55 "TripReckoner$Ledger" "aheadGreatest" "I", Cond.fieldLink RX0 58 "TripReckoner$Ledger" "usedLeast" "J", Cond.fieldLink RX0 62 "TripReckoner$Ledger" "usedMost" "J", Cond.fieldLink RX0 9 "TripReckoner$Ledger" "marks" "[J", Cond.methodLink RX0 65 arraycopyName, Cond.native arraycopyName, Cond.static arraycopyName, Cond.initialized "java/lang/System", Cond.fieldLink RX0 15 "TripReckoner$Ledger" "amountsLeast" "[I"]
def wsX3_keep_r2 : List Cond := [Cond.fieldLink RX0 19 "TripReckoner$Ledger" "amountsGreatest" "[I"]
def wsX3_keep : List Cond := .code yX3_keep cX3_keep 1 none :: ((wsX3_keep_r1 ++ wsX3_keep_r2) ++ wsX30 ++ wsX00)
def wsX3_dead_r1 : List Cond := [Cond.fieldLink RX3 10 "TripReckoner" "now" "LTripReckoner$Ledger;", Cond.fieldLink RX3 16 "TripReckoner" "kept" "LTripReckoner$Ledger;", Cond.methodLink RX3 100 yX3_gapFits, Cond.instanceMethod yX3_gapFits, Cond.selects RX3 yX3_gapFits yX3_gapFits, Cond.initialized RX3, Cond.code yX3_gapFits cX3_gapFits 2 (some .boolean), Cond.constant RX3 203 (36000), Cond.fieldLink RX3 56 "TripReckoner" "pulsesInAll" "J", Cond.fieldLink RX3 44 "TripReckoner" "fastest" "I", Cond.constantLong RX3 88 (100000000), Cond.methodLink RX3 79 yX3_within, Cond.static yX3_within, Cond.code yX3_within cX3_within 3 (some .boolean), Cond.instanceMethod yX0_copyFrom, Cond.initialized RX0, Cond.selects RX0 yX0_copyFrom yX0_copyFrom, Cond.code yX0_copyFrom cX0_copyFrom 2 none, Cond.fieldLink RX0 22 "TripReckoner$Ledger" "spanLeast" "I", Cond.fieldLink RX0 26 "TripReckoner$Ledger" "spanGreatest" "I", Cond.fieldLink RX0 29 "TripReckoner$Ledger" "refills" "I", Cond.fieldLink RX0 32 "TripReckoner$Ledger" "losses" "I", Cond.fieldLink RX0 35 "TripReckoner$Ledger" "lies" "I", Cond.fieldLink RX0 38 "TripReckoner$Ledger" "jumps" "I"]
def wsX3_dead_r2 : List Cond := [Cond.fieldLink RX0 41 "TripReckoner$Ledger" "shownLitres" "I", Cond.fieldLink RX0 44 "TripReckoner$Ledger" "settling" "Z", Cond.fieldLink RX0 52 "TripReckoner$Ledger" "aheadLeast" "I", Cond.fieldLink RX0 55 "TripReckoner$Ledger" "aheadGreatest" "I", Cond.fieldLink RX0 58 "TripReckoner$Ledger" "usedLeast" "J", Cond.fieldLink RX0 62 "TripReckoner$Ledger" "usedMost" "J", Cond.fieldLink RX0 9 "TripReckoner$Ledger" "marks" "[J", Cond.methodLink RX0 65 arraycopyName, Cond.native arraycopyName, Cond.static arraycopyName, Cond.initialized "java/lang/System", Cond.fieldLink RX0 15 "TripReckoner$Ledger" "amountsLeast" "[I", Cond.fieldLink RX0 19 "TripReckoner$Ledger" "amountsGreatest" "[I", Cond.methodLink RX3 103 yX3_passGap, Cond.instanceMethod yX3_passGap, Cond.selects RX3 yX3_passGap yX3_passGap, Cond.code yX3_passGap cX3_passGap 4 none, Cond.fieldLink RX3 47 "TripReckoner" "thirstiest" "I", Cond.instanceMethod yX0_pass, Cond.selects RX0 yX0_pass yX0_pass, Cond.code yX0_pass cX0_pass 8 none, Cond.instanceMethod yX0_doubt, Cond.selects RX0 yX0_doubt yX0_doubt, Cond.code yX0_doubt cX0_doubt 2 none]
def wsX3_dead_r3 : List Cond := [Cond.methodLink RX0 71 Lib.Math.max.name, Cond.static Lib.Math.max.name, Cond.initialized "java/lang/Math", Cond.code Lib.Math.max.name Lib.Math.max.code 2 (some .int), Cond.instanceMethod yX0_showStep, Cond.selects RX0 yX0_showStep yX0_showStep, Cond.code yX0_showStep cX0_showStep 1 none, Cond.methodLink RX0 95 yX0_truth, Cond.instanceMethod yX0_truth, Cond.selects RX0 yX0_truth yX0_truth, Cond.code yX0_truth cX0_truth 1 (some .int), Cond.methodLink RX0 99 yJ6_compare_7cf53, Cond.static yJ6_compare_7cf53, Cond.initialized RJ6, Cond.code yJ6_compare_7cf53 cJ6_compare_7cf53 2 (some .int)]
def wsX3_dead : List Cond := .code yX3_dead cX3_dead 2 (some .boolean) :: ((wsX3_dead_r1 ++ (wsX3_dead_r2 ++ wsX3_dead_r3)) ++ wsX30 ++ wsX00)
def wsX3_span : List Cond := .code yX3_span cX3_span 2 (some .int) :: ([.fieldLink RX3 10 "TripReckoner" "now" "LTripReckoner$Ledger;"] ++ wsX30 ++ wsX00)
def wsX3_mark : List Cond := .code yX3_mark cX3_mark 3 (some .long) :: ([.classLink RX3 141 "java/util/NoSuchElementException", .initialized "java/util/NoSuchElementException", .fieldLink RX3 10 "TripReckoner" "now" "LTripReckoner$Ledger;", .methodLink RX3 131 yX3_isMark, .static yX3_isMark, .initialized RX3, .code yX3_isMark cX3_isMark 1 (some .boolean), .methodLink RX3 79 yX3_within, .static yX3_within, .code yX3_within cX3_within 3 (some .boolean), .instanceMethod yX0_marked, .initialized RX0, .selects RX0 yX0_marked yX0_marked, .code yX0_marked cX0_marked 3 (some .long), .fieldLink RX0 9 "TripReckoner$Ledger" "marks" "[J"] ++ wsX30 ++ wsX00 ++ (vx_atS RX3 145 "java/util/NoSuchElementException" ["java/lang/RuntimeException", "java/lang/Exception"]).filter goodWord)
def wsX3_wayInHundredths : List Cond := .code yX3_wayInHundredths cX3_wayInHundredths 3 (some .long) :: ([.fieldLink RX3 10 "TripReckoner" "now" "LTripReckoner$Ledger;", .fieldLink RX3 38 "TripReckoner" "metresPerHundred" "I", .instanceMethod yX0_marked, .initialized RX0, .selects RX0 yX0_marked yX0_marked, .code yX0_marked cX0_marked 3 (some .long), .fieldLink RX0 9 "TripReckoner$Ledger" "marks" "[J"] ++ wsX30 ++ wsX00)
def wsX3_metres : List Cond := .code yX3_metres cX3_metres 3 (some .long) :: ([.classLink RX3 141 "java/util/NoSuchElementException", .initialized "java/util/NoSuchElementException", .constantLong RX3 158 (100), .methodLink RX3 131 yX3_isMark, .static yX3_isMark, .initialized RX3, .code yX3_isMark cX3_isMark 1 (some .boolean), .methodLink RX3 79 yX3_within, .static yX3_within, .code yX3_within cX3_within 3 (some .boolean), .methodLink RX3 154 yX3_wayInHundredths, .instanceMethod yX3_wayInHundredths, .selects RX3 yX3_wayInHundredths yX3_wayInHundredths, .code yX3_wayInHundredths cX3_wayInHundredths 3 (some .long), .fieldLink RX3 10 "TripReckoner" "now" "LTripReckoner$Ledger;", .fieldLink RX3 38 "TripReckoner" "metresPerHundred" "I", .instanceMethod yX0_marked, .initialized RX0, .selects RX0 yX0_marked yX0_marked, .code yX0_marked cX0_marked 3 (some .long), .fieldLink RX0 9 "TripReckoner$Ledger" "marks" "[J"] ++ wsX30 ++ wsX00 ++ (vx_atS RX3 145 "java/util/NoSuchElementException" ["java/lang/RuntimeException", "java/lang/Exception"]).filter goodWord)
def wsX3_commonDivisor : List Cond := .code yX3_commonDivisor cX3_commonDivisor 11 (some .long) :: ([])
def wsX3_average : List Cond := .code yX3_average cX3_average 10 (some .long) :: ([.classLink RX3 141 "java/util/NoSuchElementException", .initialized "java/util/NoSuchElementException", .fieldLink RX3 10 "TripReckoner" "now" "LTripReckoner$Ledger;", .constantLong RX3 162 (100000), .methodLink RX3 131 yX3_isMark, .static yX3_isMark, .initialized RX3, .code yX3_isMark cX3_isMark 1 (some .boolean), .methodLink RX3 79 yX3_within, .static yX3_within, .code yX3_within cX3_within 3 (some .boolean), .methodLink RX3 154 yX3_wayInHundredths, .instanceMethod yX3_wayInHundredths, .selects RX3 yX3_wayInHundredths yX3_wayInHundredths, .code yX3_wayInHundredths cX3_wayInHundredths 3 (some .long), .fieldLink RX3 38 "TripReckoner" "metresPerHundred" "I", .instanceMethod yX0_marked, .initialized RX0, .selects RX0 yX0_marked yX0_marked, .code yX0_marked cX0_marked 3 (some .long), .fieldLink RX0 9 "TripReckoner$Ledger" "marks" "[J", .methodLink RX3 164 yX3_commonDivisor, .static yX3_commonDivisor, .code yX3_commonDivisor cX3_commonDivisor 11 (some .long)] ++ wsX30 ++ wsX00 ++ (vx_atS RX3 145 "java/util/NoSuchElementException" ["java/lang/RuntimeException", "java/lang/Exception"]).filter goodWord)
def wsX3_range : List Cond := .code yX3_range cX3_range 2 (some .int) :: ([.fieldLink RX3 10 "TripReckoner" "now" "LTripReckoner$Ledger;", .fieldLink RX3 50 "TripReckoner" "lowUse" "I", .fieldLink RX3 53 "TripReckoner" "highUse" "I"] ++ wsX30 ++ wsX00)
def wsX3_shown : List Cond := .code yX3_shown cX3_shown 1 (some .int) :: ([.fieldLink RX3 10 "TripReckoner" "now" "LTripReckoner$Ledger;"] ++ wsX30 ++ wsX00)
def wsX3_refill : List Cond := .code yX3_refill cX3_refill 3 (some .int) :: ([.classLink RX3 141 "java/util/NoSuchElementException", .initialized "java/util/NoSuchElementException", .fieldLink RX3 10 "TripReckoner" "now" "LTripReckoner$Ledger;", .instanceMethod yX0_tellsRefill, .initialized RX0, .selects RX0 yX0_tellsRefill yX0_tellsRefill, .code yX0_tellsRefill cX0_tellsRefill 2 (some .boolean), .fieldLink RX0 29 "TripReckoner$Ledger" "refills" "I", .instanceMethod yX0_amount, .selects RX0 yX0_amount yX0_amount, .code yX0_amount cX0_amount 4 (some .int), .fieldLink RX0 19 "TripReckoner$Ledger" "amountsGreatest" "[I", .fieldLink RX0 15 "TripReckoner$Ledger" "amountsLeast" "[I"] ++ wsX30 ++ wsX00 ++ (vx_atS RX3 145 "java/util/NoSuchElementException" ["java/lang/RuntimeException", "java/lang/Exception"]).filter goodWord)
def wsX3_plan_r1 : List Cond := [Cond.fieldLink RX3 29 "TripReckoner" "planner" "LTripReckoner$Planner;", Cond.fieldLink RX3 22 "TripReckoner" "tape" "LTripReckoner$Tape;", Cond.fieldLink RX3 53 "TripReckoner" "highUse" "I", Cond.fieldLink RX3 10 "TripReckoner" "now" "LTripReckoner$Ledger;", Cond.fieldLink RX3 34 "TripReckoner" "tankSize" "I", Cond.instanceMethod yX1_read, Cond.initialized RX1, Cond.selects RX1 yX1_read yX1_read, Cond.code yX1_read cX1_read 4 (some .boolean), Cond.fieldLink RX1 27 "TripReckoner$Planner" "stations" "I", Cond.fieldLink RX1 11 "TripReckoner$Planner" "legs" "[I", Cond.fieldLink RX1 15 "TripReckoner$Planner" "prices" "[I", Cond.instanceMethod yX2_shorten, Cond.initialized RX2, Cond.selects RX2 yX2_shorten yX2_shorten, Cond.code yX2_shorten cX2_shorten 2 (some .boolean), Cond.fieldLink RX2 13 "TripReckoner$Tape" "size" "I", Cond.instanceMethod yX1_reckon, Cond.selects RX1 yX1_reckon yX1_reckon, Cond.code yX1_reckon cX1_reckon 6 (some .int), Cond.methodLink RX1 42 Lib.Math.min.name, Cond.static Lib.Math.min.name, Cond.initialized "java/lang/Math", Cond.code Lib.Math.min.name Lib.Math.min.code 2 (some .int)]
def wsX3_plan_r2 : List Cond := [Cond.fieldLink RX1 18 "TripReckoner$Planner" "toGo" "[I", Cond.constant RX1 52 (1000000000), Cond.methodLink RX1 48 yX1_reckonBackwards, Cond.instanceMethod yX1_reckonBackwards, Cond.selects RX1 yX1_reckonBackwards yX1_reckonBackwards, Cond.code yX1_reckonBackwards cX1_reckonBackwards 3 none, Cond.methodLink RX1 56 yX1_reckonStation, Cond.instanceMethod yX1_reckonStation, Cond.selects RX1 yX1_reckonStation yX1_reckonStation, Cond.code yX1_reckonStation cX1_reckonStation 10 none, Cond.fieldLink RX1 21 "TripReckoner$Planner" "fillTo" "[I", Cond.methodLink RX1 53 yX1_buyForwards, Cond.instanceMethod yX1_buyForwards, Cond.selects RX1 yX1_buyForwards yX1_buyForwards, Cond.code yX1_buyForwards cX1_buyForwards 5 none, Cond.fieldLink RX1 24 "TripReckoner$Planner" "bought" "[I", Cond.fieldLink RX1 31 "TripReckoner$Planner" "plannedStations" "I"]
def wsX3_plan : List Cond := .code yX3_plan cX3_plan 2 (some .int) :: ((wsX3_plan_r1 ++ wsX3_plan_r2) ++ wsX30 ++ wsX00 ++ wsX20 ++ wsX10)
def wsX3_buys : List Cond := .code yX3_buys cX3_buys 2 (some .int) :: ([.fieldLink RX3 29 "TripReckoner" "planner" "LTripReckoner$Planner;", .instanceMethod yX1_boughtAt, .initialized RX1, .selects RX1 yX1_boughtAt yX1_boughtAt, .code yX1_boughtAt cX1_boughtAt 2 (some .int), .fieldLink RX1 31 "TripReckoner$Planner" "plannedStations" "I", .fieldLink RX1 24 "TripReckoner$Planner" "bought" "[I"] ++ wsX30 ++ wsX10)
def wsX3_count : List Cond := .code yX3_count cX3_count 2 (some .int) :: ([.fieldLink RX3 10 "TripReckoner" "now" "LTripReckoner$Ledger;", .fieldLink RX3 22 "TripReckoner" "tape" "LTripReckoner$Tape;"] ++ wsX30 ++ wsX00 ++ wsX20)
def wsX4_init : List Cond := .code yX4_init cX4_init 1 none :: ([.methodLink RX4 1 objectInit, .instanceMethod objectInit, .code objectInit ⟨#[0xb1]⟩ 1 none, .arrayClass .int, .fieldLink RX4 7 "TripReckonerModel" "tape" "[I", .arrayClass .long, .fieldLink RX4 13 "TripReckonerModel" "now" "[J", .fieldLink RX4 17 "TripReckonerModel" "kept" "[J", .constant RX4 20 (50000), .fieldLink RX4 21 "TripReckonerModel" "cap" "I", .fieldLink RX4 25 "TripReckonerModel" "metres" "I", .fieldLink RX4 28 "TripReckonerModel" "slop" "I", .fieldLink RX4 31 "TripReckonerModel" "fast" "I", .fieldLink RX4 34 "TripReckonerModel" "thirst" "I", .fieldLink RX4 37 "TripReckonerModel" "low" "I", .fieldLink RX4 40 "TripReckonerModel" "high" "I", .fieldLink RX4 43 "TripReckonerModel" "cost" "[I", .fieldLink RX4 46 "TripReckonerModel" "bought" "[I"] ++ wsX40)
def wsX4_thrown : List Cond := .code yX4_thrown cX4_thrown 1 (some .int) :: ([.fieldLink RX4 49 "TripReckonerModel" "thrown" "I"] ++ wsX40)
def wsX4_refuse : List Cond := .code yX4_refuse cX4_refuse 1 (some .int) :: ([.fieldLink RX4 49 "TripReckonerModel" "thrown" "I"] ++ wsX40)
def wsX4_come : List Cond := .code yX4_come cX4_come 3 none :: ([.fieldLink RX4 7 "TripReckonerModel" "tape" "[I", .fieldLink RX4 52 "TripReckonerModel" "taped" "I"] ++ wsX40)
def wsX4_feed : List Cond := .code yX4_feed cX4_feed 6 (some .int) :: ([.fieldLink RX4 49 "TripReckonerModel" "thrown" "I", .fieldLink RX4 52 "TripReckonerModel" "taped" "I", .methodLink RX4 55 yX4_come, .instanceMethod yX4_come, .selects RX4 yX4_come yX4_come, .initialized RX4, .code yX4_come cX4_come 3 none, .fieldLink RX4 7 "TripReckonerModel" "tape" "[I"] ++ wsX40)
def wsX4_end : List Cond := .code yX4_end cX4_end 2 (some .boolean) :: ([.fieldLink RX4 49 "TripReckonerModel" "thrown" "I", .fieldLink RX4 52 "TripReckonerModel" "taped" "I"] ++ wsX40)
def wsX4_copy : List Cond := .code yX4_copy cX4_copy 2 none :: ([.fieldLink RX4 17 "TripReckonerModel" "kept" "[J", .fieldLink RX4 13 "TripReckonerModel" "now" "[J"] ++ wsX40)
def wsX4_begin : List Cond := .code yX4_begin cX4_begin 2 none :: ([.fieldLink RX4 59 "TripReckonerModel" "begun" "Z", .fieldLink RX4 13 "TripReckonerModel" "now" "[J", .fieldLink RX4 21 "TripReckonerModel" "cap" "I", .fieldLink RX4 66 "TripReckonerModel" "all" "J", .methodLink RX4 63 yX4_copy, .instanceMethod yX4_copy, .selects RX4 yX4_copy yX4_copy, .initialized RX4, .code yX4_copy cX4_copy 2 none, .fieldLink RX4 17 "TripReckonerModel" "kept" "[J"] ++ wsX40)
def wsX4_isIn : List Cond := .code yX4_isIn cX4_isIn 3 (some .boolean) :: ([])
def wsX4_car : List Cond := .code yX4_car cX4_car 4 (some .boolean) :: ([.fieldLink RX4 49 "TripReckonerModel" "thrown" "I", .constant RX4 70 (120000), .fieldLink RX4 21 "TripReckonerModel" "cap" "I", .fieldLink RX4 25 "TripReckonerModel" "metres" "I", .fieldLink RX4 28 "TripReckonerModel" "slop" "I", .fieldLink RX4 59 "TripReckonerModel" "begun" "Z", .methodLink RX4 71 yX4_isIn, .static yX4_isIn, .initialized RX4, .code yX4_isIn cX4_isIn 3 (some .boolean), .methodLink RX4 75 yX4_begin, .instanceMethod yX4_begin, .selects RX4 yX4_begin yX4_begin, .code yX4_begin cX4_begin 2 none, .fieldLink RX4 13 "TripReckonerModel" "now" "[J", .fieldLink RX4 66 "TripReckonerModel" "all" "J", .methodLink RX4 63 yX4_copy, .instanceMethod yX4_copy, .selects RX4 yX4_copy yX4_copy, .code yX4_copy cX4_copy 2 none, .fieldLink RX4 17 "TripReckonerModel" "kept" "[J"] ++ wsX40)
def wsX4_bounds : List Cond := .code yX4_bounds cX4_bounds 5 (some .boolean) :: ([.fieldLink RX4 49 "TripReckonerModel" "thrown" "I", .fieldLink RX4 31 "TripReckonerModel" "fast" "I", .fieldLink RX4 34 "TripReckonerModel" "thirst" "I", .fieldLink RX4 37 "TripReckonerModel" "low" "I", .fieldLink RX4 40 "TripReckonerModel" "high" "I", .methodLink RX4 71 yX4_isIn, .static yX4_isIn, .initialized RX4, .code yX4_isIn cX4_isIn 3 (some .boolean)] ++ wsX40)
def wsX4_truth : List Cond := .code yX4_truth cX4_truth 1 (some .long) :: ([.fieldLink RX4 13 "TripReckonerModel" "now" "[J", .constantLong RX4 78 (2000)] ++ wsX40)
def wsX4_step : List Cond := .code yX4_step cX4_step 3 none :: ([.fieldLink RX4 13 "TripReckonerModel" "now" "[J", .methodLink RX4 80 yX4_truth, .instanceMethod yX4_truth, .selects RX4 yX4_truth yX4_truth, .initialized RX4, .code yX4_truth cX4_truth 1 (some .long), .constantLong RX4 78 (2000)] ++ wsX40)
def wsX4_jump : List Cond := .code yX4_jump cX4_jump 1 none :: ([.fieldLink RX4 13 "TripReckonerModel" "now" "[J", .methodLink RX4 80 yX4_truth, .instanceMethod yX4_truth, .selects RX4 yX4_truth yX4_truth, .initialized RX4, .code yX4_truth cX4_truth 1 (some .long), .constantLong RX4 78 (2000)] ++ wsX40)
def wsX4_less : List Cond := .code yX4_less cX4_less 4 (some .long) :: ([])
def wsX4_runs : List Cond := .code yX4_runs cX4_runs 12 none :: ([.fieldLink RX4 13 "TripReckonerModel" "now" "[J", .fieldLink RX4 66 "TripReckonerModel" "all" "J"] ++ wsX40)
def wsX4_drive_r1 : List Cond := [Cond.fieldLink RX4 49 "TripReckonerModel" "thrown" "I", Cond.constant RX4 84 (100000), Cond.fieldLink RX4 66 "TripReckonerModel" "all" "J", Cond.constantLong RX4 85 (100000000), Cond.fieldLink RX4 13 "TripReckonerModel" "now" "[J", Cond.methodLink RX4 75 yX4_begin, Cond.instanceMethod yX4_begin, Cond.selects RX4 yX4_begin yX4_begin, Cond.initialized RX4, Cond.code yX4_begin cX4_begin 2 none, Cond.fieldLink RX4 59 "TripReckonerModel" "begun" "Z", Cond.fieldLink RX4 21 "TripReckonerModel" "cap" "I", Cond.methodLink RX4 63 yX4_copy, Cond.instanceMethod yX4_copy, Cond.selects RX4 yX4_copy yX4_copy, Cond.code yX4_copy cX4_copy 2 none, Cond.fieldLink RX4 17 "TripReckonerModel" "kept" "[J", Cond.methodLink RX4 71 yX4_isIn, Cond.static yX4_isIn, Cond.code yX4_isIn cX4_isIn 3 (some .boolean), Cond.methodLink RX4 87 yX4_less, Cond.static yX4_less, Cond.code yX4_less cX4_less 4 (some .long), Cond.methodLink RX4 91 yX4_runs]
def wsX4_drive_r2 : List Cond := [Cond.instanceMethod yX4_runs, Cond.selects RX4 yX4_runs yX4_runs, Cond.code yX4_runs cX4_runs 12 none, Cond.methodLink RX4 95 yX4_step, Cond.instanceMethod yX4_step, Cond.selects RX4 yX4_step yX4_step, Cond.code yX4_step cX4_step 3 none, Cond.methodLink RX4 80 yX4_truth, Cond.instanceMethod yX4_truth, Cond.selects RX4 yX4_truth yX4_truth, Cond.code yX4_truth cX4_truth 1 (some .long), Cond.constantLong RX4 78 (2000)]
def wsX4_drive : List Cond := .code yX4_drive cX4_drive 4 (some .boolean) :: ((wsX4_drive_r1 ++ wsX4_drive_r2) ++ wsX40)
def wsX4_mayGap : List Cond := .code yX4_mayGap cX4_mayGap 2 (some .boolean) :: ([.constant RX4 98 (36000), .fieldLink RX4 66 "TripReckonerModel" "all" "J", .fieldLink RX4 31 "TripReckonerModel" "fast" "I", .constantLong RX4 85 (100000000), .methodLink RX4 71 yX4_isIn, .static yX4_isIn, .initialized RX4, .code yX4_isIn cX4_isIn 3 (some .boolean)] ++ wsX40)
def wsX4_gaps : List Cond := .code yX4_gaps cX4_gaps 2 none :: ([.fieldLink RX4 13 "TripReckonerModel" "now" "[J", .fieldLink RX4 34 "TripReckonerModel" "thirst" "I", .fieldLink RX4 31 "TripReckonerModel" "fast" "I", .methodLink RX4 87 yX4_less, .static yX4_less, .initialized RX4, .code yX4_less cX4_less 4 (some .long), .methodLink RX4 91 yX4_runs, .instanceMethod yX4_runs, .selects RX4 yX4_runs yX4_runs, .code yX4_runs cX4_runs 12 none, .fieldLink RX4 66 "TripReckonerModel" "all" "J", .methodLink RX4 95 yX4_step, .instanceMethod yX4_step, .selects RX4 yX4_step yX4_step, .code yX4_step cX4_step 3 none, .methodLink RX4 80 yX4_truth, .instanceMethod yX4_truth, .selects RX4 yX4_truth yX4_truth, .code yX4_truth cX4_truth 1 (some .long), .constantLong RX4 78 (2000)] ++ wsX40)
def wsX4_gap_r1 : List Cond := [Cond.fieldLink RX4 49 "TripReckonerModel" "thrown" "I", Cond.methodLink RX4 75 yX4_begin, Cond.instanceMethod yX4_begin, Cond.selects RX4 yX4_begin yX4_begin, Cond.initialized RX4, Cond.code yX4_begin cX4_begin 2 none, Cond.fieldLink RX4 59 "TripReckonerModel" "begun" "Z", Cond.fieldLink RX4 13 "TripReckonerModel" "now" "[J", Cond.fieldLink RX4 21 "TripReckonerModel" "cap" "I", Cond.fieldLink RX4 66 "TripReckonerModel" "all" "J", Cond.methodLink RX4 63 yX4_copy, Cond.instanceMethod yX4_copy, Cond.selects RX4 yX4_copy yX4_copy, Cond.code yX4_copy cX4_copy 2 none, Cond.fieldLink RX4 17 "TripReckonerModel" "kept" "[J", Cond.methodLink RX4 99 yX4_mayGap, Cond.instanceMethod yX4_mayGap, Cond.selects RX4 yX4_mayGap yX4_mayGap, Cond.code yX4_mayGap cX4_mayGap 2 (some .boolean), Cond.constant RX4 98 (36000), Cond.fieldLink RX4 31 "TripReckonerModel" "fast" "I", Cond.constantLong RX4 85 (100000000), Cond.methodLink RX4 71 yX4_isIn, Cond.static yX4_isIn]
def wsX4_gap_r2 : List Cond := [Cond.code yX4_isIn cX4_isIn 3 (some .boolean), Cond.methodLink RX4 103 yX4_gaps, Cond.instanceMethod yX4_gaps, Cond.selects RX4 yX4_gaps yX4_gaps, Cond.code yX4_gaps cX4_gaps 2 none, Cond.fieldLink RX4 34 "TripReckonerModel" "thirst" "I", Cond.methodLink RX4 87 yX4_less, Cond.static yX4_less, Cond.code yX4_less cX4_less 4 (some .long), Cond.methodLink RX4 91 yX4_runs, Cond.instanceMethod yX4_runs, Cond.selects RX4 yX4_runs yX4_runs, Cond.code yX4_runs cX4_runs 12 none, Cond.methodLink RX4 95 yX4_step, Cond.instanceMethod yX4_step, Cond.selects RX4 yX4_step yX4_step, Cond.code yX4_step cX4_step 3 none, Cond.methodLink RX4 80 yX4_truth, Cond.instanceMethod yX4_truth, Cond.selects RX4 yX4_truth yX4_truth, Cond.code yX4_truth cX4_truth 1 (some .long), Cond.constantLong RX4 78 (2000)]
def wsX4_gap : List Cond := .code yX4_gap cX4_gap 2 (some .boolean) :: ((wsX4_gap_r1 ++ wsX4_gap_r2) ++ wsX40)
def wsX4_dead_r1 : List Cond := [Cond.fieldLink RX4 49 "TripReckonerModel" "thrown" "I", Cond.fieldLink RX4 13 "TripReckonerModel" "now" "[J", Cond.fieldLink RX4 17 "TripReckonerModel" "kept" "[J", Cond.methodLink RX4 75 yX4_begin, Cond.instanceMethod yX4_begin, Cond.selects RX4 yX4_begin yX4_begin, Cond.initialized RX4, Cond.code yX4_begin cX4_begin 2 none, Cond.fieldLink RX4 59 "TripReckonerModel" "begun" "Z", Cond.fieldLink RX4 21 "TripReckonerModel" "cap" "I", Cond.fieldLink RX4 66 "TripReckonerModel" "all" "J", Cond.methodLink RX4 63 yX4_copy, Cond.instanceMethod yX4_copy, Cond.selects RX4 yX4_copy yX4_copy, Cond.code yX4_copy cX4_copy 2 none, Cond.methodLink RX4 99 yX4_mayGap, Cond.instanceMethod yX4_mayGap, Cond.selects RX4 yX4_mayGap yX4_mayGap, Cond.code yX4_mayGap cX4_mayGap 2 (some .boolean), Cond.constant RX4 98 (36000), Cond.fieldLink RX4 31 "TripReckonerModel" "fast" "I", Cond.constantLong RX4 85 (100000000), Cond.methodLink RX4 71 yX4_isIn, Cond.static yX4_isIn]
def wsX4_dead_r2 : List Cond := [Cond.code yX4_isIn cX4_isIn 3 (some .boolean), Cond.methodLink RX4 103 yX4_gaps, Cond.instanceMethod yX4_gaps, Cond.selects RX4 yX4_gaps yX4_gaps, Cond.code yX4_gaps cX4_gaps 2 none, Cond.fieldLink RX4 34 "TripReckonerModel" "thirst" "I", Cond.methodLink RX4 87 yX4_less, Cond.static yX4_less, Cond.code yX4_less cX4_less 4 (some .long), Cond.methodLink RX4 91 yX4_runs, Cond.instanceMethod yX4_runs, Cond.selects RX4 yX4_runs yX4_runs, Cond.code yX4_runs cX4_runs 12 none, Cond.methodLink RX4 95 yX4_step, Cond.instanceMethod yX4_step, Cond.selects RX4 yX4_step yX4_step, Cond.code yX4_step cX4_step 3 none, Cond.methodLink RX4 80 yX4_truth, Cond.instanceMethod yX4_truth, Cond.selects RX4 yX4_truth yX4_truth, Cond.code yX4_truth cX4_truth 1 (some .long), Cond.constantLong RX4 78 (2000)]
def wsX4_dead : List Cond := .code yX4_dead cX4_dead 3 (some .boolean) :: ((wsX4_dead_r1 ++ wsX4_dead_r2) ++ wsX40)
def wsX4_keep : List Cond := .code yX4_keep cX4_keep 1 none :: ([.fieldLink RX4 49 "TripReckonerModel" "thrown" "I", .methodLink RX4 75 yX4_begin, .instanceMethod yX4_begin, .selects RX4 yX4_begin yX4_begin, .initialized RX4, .code yX4_begin cX4_begin 2 none, .fieldLink RX4 59 "TripReckonerModel" "begun" "Z", .fieldLink RX4 13 "TripReckonerModel" "now" "[J", .fieldLink RX4 21 "TripReckonerModel" "cap" "I", .fieldLink RX4 66 "TripReckonerModel" "all" "J", .methodLink RX4 63 yX4_copy, .instanceMethod yX4_copy, .selects RX4 yX4_copy yX4_copy, .code yX4_copy cX4_copy 2 none, .fieldLink RX4 17 "TripReckonerModel" "kept" "[J"] ++ wsX40)
def wsX4_clear : List Cond := .code yX4_clear cX4_clear 3 none :: ([.fieldLink RX4 13 "TripReckonerModel" "now" "[J"] ++ wsX40)
def wsX4_set : List Cond := .code yX4_set cX4_set 2 (some .boolean) :: ([.fieldLink RX4 49 "TripReckonerModel" "thrown" "I", .methodLink RX4 75 yX4_begin, .instanceMethod yX4_begin, .selects RX4 yX4_begin yX4_begin, .initialized RX4, .code yX4_begin cX4_begin 2 none, .fieldLink RX4 59 "TripReckonerModel" "begun" "Z", .fieldLink RX4 13 "TripReckonerModel" "now" "[J", .fieldLink RX4 21 "TripReckonerModel" "cap" "I", .fieldLink RX4 66 "TripReckonerModel" "all" "J", .methodLink RX4 63 yX4_copy, .instanceMethod yX4_copy, .selects RX4 yX4_copy yX4_copy, .code yX4_copy cX4_copy 2 none, .fieldLink RX4 17 "TripReckonerModel" "kept" "[J", .methodLink RX4 106 yX4_clear, .instanceMethod yX4_clear, .selects RX4 yX4_clear yX4_clear, .code yX4_clear cX4_clear 3 none] ++ wsX40)
def wsX4_place : List Cond := .code yX4_place cX4_place 2 (some .int) :: ([.constantLong RX4 109 (30)])
def wsX4_settle : List Cond := .code yX4_settle cX4_settle 6 none :: ([.fieldLink RX4 13 "TripReckonerModel" "now" "[J", .methodLink RX4 116 yX4_place, .static yX4_place, .initialized RX4, .code yX4_place cX4_place 2 (some .int), .constantLong RX4 109 (30)] ++ wsX40)
def wsX4_tells_r1 : List Cond := [Cond.fieldLink RX4 49 "TripReckonerModel" "thrown" "I", Cond.fieldLink RX4 28 "TripReckonerModel" "slop" "I", Cond.fieldLink RX4 21 "TripReckonerModel" "cap" "I", Cond.constantLong RX4 111 (255), Cond.fieldLink RX4 13 "TripReckonerModel" "now" "[J", Cond.methodLink RX4 75 yX4_begin, Cond.instanceMethod yX4_begin, Cond.selects RX4 yX4_begin yX4_begin, Cond.initialized RX4, Cond.code yX4_begin cX4_begin 2 none, Cond.fieldLink RX4 59 "TripReckonerModel" "begun" "Z", Cond.fieldLink RX4 66 "TripReckonerModel" "all" "J", Cond.methodLink RX4 63 yX4_copy, Cond.instanceMethod yX4_copy, Cond.selects RX4 yX4_copy yX4_copy, Cond.code yX4_copy cX4_copy 2 none, Cond.fieldLink RX4 17 "TripReckonerModel" "kept" "[J", Cond.methodLink RX4 71 yX4_isIn, Cond.static yX4_isIn, Cond.code yX4_isIn cX4_isIn 3 (some .boolean), Cond.methodLink RX4 113 yX4_settle, Cond.instanceMethod yX4_settle, Cond.selects RX4 yX4_settle yX4_settle, Cond.code yX4_settle cX4_settle 6 none]
def wsX4_tells_r2 : List Cond := [Cond.methodLink RX4 116 yX4_place, Cond.static yX4_place, Cond.code yX4_place cX4_place 2 (some .int), Cond.constantLong RX4 109 (30), Cond.methodLink RX4 95 yX4_step, Cond.instanceMethod yX4_step, Cond.selects RX4 yX4_step yX4_step, Cond.code yX4_step cX4_step 3 none, Cond.methodLink RX4 80 yX4_truth, Cond.instanceMethod yX4_truth, Cond.selects RX4 yX4_truth yX4_truth, Cond.code yX4_truth cX4_truth 1 (some .long), Cond.constantLong RX4 78 (2000), Cond.methodLink RX4 106 yX4_clear, Cond.instanceMethod yX4_clear, Cond.selects RX4 yX4_clear yX4_clear, Cond.code yX4_clear cX4_clear 3 none, Cond.methodLink RX4 120 yX4_jump, Cond.instanceMethod yX4_jump, Cond.selects RX4 yX4_jump yX4_jump, Cond.code yX4_jump cX4_jump 1 none]
def wsX4_tells : List Cond := .code yX4_tells cX4_tells 8 (some .int) :: ((wsX4_tells_r1 ++ wsX4_tells_r2) ++ wsX40)
def wsX4_span : List Cond := .code yX4_span cX4_span 2 (some .int) :: ([.fieldLink RX4 49 "TripReckonerModel" "thrown" "I", .fieldLink RX4 13 "TripReckonerModel" "now" "[J", .methodLink RX4 75 yX4_begin, .instanceMethod yX4_begin, .selects RX4 yX4_begin yX4_begin, .initialized RX4, .code yX4_begin cX4_begin 2 none, .fieldLink RX4 59 "TripReckonerModel" "begun" "Z", .fieldLink RX4 21 "TripReckonerModel" "cap" "I", .fieldLink RX4 66 "TripReckonerModel" "all" "J", .methodLink RX4 63 yX4_copy, .instanceMethod yX4_copy, .selects RX4 yX4_copy yX4_copy, .code yX4_copy cX4_copy 2 none, .fieldLink RX4 17 "TripReckonerModel" "kept" "[J"] ++ wsX40)
def wsX4_isMark : List Cond := .code yX4_isMark cX4_isMark 1 (some .boolean) :: ([])
def wsX4_mark : List Cond := .code yX4_mark cX4_mark 3 (some .long) :: ([.fieldLink RX4 49 "TripReckonerModel" "thrown" "I", .fieldLink RX4 13 "TripReckonerModel" "now" "[J", .methodLink RX4 75 yX4_begin, .instanceMethod yX4_begin, .selects RX4 yX4_begin yX4_begin, .initialized RX4, .code yX4_begin cX4_begin 2 none, .fieldLink RX4 59 "TripReckonerModel" "begun" "Z", .fieldLink RX4 21 "TripReckonerModel" "cap" "I", .fieldLink RX4 66 "TripReckonerModel" "all" "J", .methodLink RX4 63 yX4_copy, .instanceMethod yX4_copy, .selects RX4 yX4_copy yX4_copy, .code yX4_copy cX4_copy 2 none, .fieldLink RX4 17 "TripReckonerModel" "kept" "[J", .methodLink RX4 123 yX4_isMark, .static yX4_isMark, .code yX4_isMark cX4_isMark 1 (some .boolean), .methodLink RX4 126 yX4_refuse, .instanceMethod yX4_refuse, .selects RX4 yX4_refuse yX4_refuse, .code yX4_refuse cX4_refuse 1 (some .int)] ++ wsX40)
def wsX4_metres : List Cond := .code yX4_metres cX4_metres 3 (some .long) :: ([.fieldLink RX4 49 "TripReckonerModel" "thrown" "I", .fieldLink RX4 13 "TripReckonerModel" "now" "[J", .fieldLink RX4 25 "TripReckonerModel" "metres" "I", .constantLong RX4 130 (100), .methodLink RX4 75 yX4_begin, .instanceMethod yX4_begin, .selects RX4 yX4_begin yX4_begin, .initialized RX4, .code yX4_begin cX4_begin 2 none, .fieldLink RX4 59 "TripReckonerModel" "begun" "Z", .fieldLink RX4 21 "TripReckonerModel" "cap" "I", .fieldLink RX4 66 "TripReckonerModel" "all" "J", .methodLink RX4 63 yX4_copy, .instanceMethod yX4_copy, .selects RX4 yX4_copy yX4_copy, .code yX4_copy cX4_copy 2 none, .fieldLink RX4 17 "TripReckonerModel" "kept" "[J", .methodLink RX4 123 yX4_isMark, .static yX4_isMark, .code yX4_isMark cX4_isMark 1 (some .boolean), .methodLink RX4 126 yX4_refuse, .instanceMethod yX4_refuse, .selects RX4 yX4_refuse yX4_refuse, .code yX4_refuse cX4_refuse 1 (some .int)] ++ wsX40)
def wsX4_common : List Cond := .code yX4_common cX4_common 10 (some .long) :: ([])
def wsX4_average_r1 : List Cond := [Cond.fieldLink RX4 13 "TripReckonerModel" "now" "[J", Cond.fieldLink RX4 25 "TripReckonerModel" "metres" "I", Cond.fieldLink RX4 49 "TripReckonerModel" "thrown" "I", Cond.constantLong RX4 132 (100000), Cond.methodLink RX4 75 yX4_begin, Cond.instanceMethod yX4_begin, Cond.selects RX4 yX4_begin yX4_begin, Cond.initialized RX4, Cond.code yX4_begin cX4_begin 2 none, Cond.fieldLink RX4 59 "TripReckonerModel" "begun" "Z", Cond.fieldLink RX4 21 "TripReckonerModel" "cap" "I", Cond.fieldLink RX4 66 "TripReckonerModel" "all" "J", Cond.methodLink RX4 63 yX4_copy, Cond.instanceMethod yX4_copy, Cond.selects RX4 yX4_copy yX4_copy, Cond.code yX4_copy cX4_copy 2 none, Cond.fieldLink RX4 17 "TripReckonerModel" "kept" "[J", Cond.methodLink RX4 123 yX4_isMark, Cond.static yX4_isMark, Cond.code yX4_isMark cX4_isMark 1 (some .boolean), Cond.methodLink RX4 126 yX4_refuse, Cond.instanceMethod yX4_refuse, Cond.selects RX4 yX4_refuse yX4_refuse, Cond.code yX4_refuse cX4_refuse 1 (some .int)]
def wsX4_average_r2 : List Cond := [Cond.methodLink RX4 134 yX4_common, Cond.static yX4_common, Cond.code yX4_common cX4_common 10 (some .long)]
def wsX4_average : List Cond := .code yX4_average cX4_average 8 (some .long) :: ((wsX4_average_r1 ++ wsX4_average_r2) ++ wsX40)
def wsX4_range : List Cond := .code yX4_range cX4_range 2 (some .int) :: ([.fieldLink RX4 49 "TripReckonerModel" "thrown" "I", .fieldLink RX4 13 "TripReckonerModel" "now" "[J", .fieldLink RX4 37 "TripReckonerModel" "low" "I", .fieldLink RX4 40 "TripReckonerModel" "high" "I", .methodLink RX4 75 yX4_begin, .instanceMethod yX4_begin, .selects RX4 yX4_begin yX4_begin, .initialized RX4, .code yX4_begin cX4_begin 2 none, .fieldLink RX4 59 "TripReckonerModel" "begun" "Z", .fieldLink RX4 21 "TripReckonerModel" "cap" "I", .fieldLink RX4 66 "TripReckonerModel" "all" "J", .methodLink RX4 63 yX4_copy, .instanceMethod yX4_copy, .selects RX4 yX4_copy yX4_copy, .code yX4_copy cX4_copy 2 none, .fieldLink RX4 17 "TripReckonerModel" "kept" "[J"] ++ wsX40)
def wsX4_shown : List Cond := .code yX4_shown cX4_shown 1 (some .int) :: ([.fieldLink RX4 49 "TripReckonerModel" "thrown" "I", .fieldLink RX4 13 "TripReckonerModel" "now" "[J", .methodLink RX4 75 yX4_begin, .instanceMethod yX4_begin, .selects RX4 yX4_begin yX4_begin, .initialized RX4, .code yX4_begin cX4_begin 2 none, .fieldLink RX4 59 "TripReckonerModel" "begun" "Z", .fieldLink RX4 21 "TripReckonerModel" "cap" "I", .fieldLink RX4 66 "TripReckonerModel" "all" "J", .methodLink RX4 63 yX4_copy, .instanceMethod yX4_copy, .selects RX4 yX4_copy yX4_copy, .code yX4_copy cX4_copy 2 none, .fieldLink RX4 17 "TripReckonerModel" "kept" "[J"] ++ wsX40)
def wsX4_refill : List Cond := .code yX4_refill cX4_refill 3 (some .int) :: ([.fieldLink RX4 13 "TripReckonerModel" "now" "[J", .constantLong RX4 109 (30), .fieldLink RX4 49 "TripReckonerModel" "thrown" "I", .methodLink RX4 75 yX4_begin, .instanceMethod yX4_begin, .selects RX4 yX4_begin yX4_begin, .initialized RX4, .code yX4_begin cX4_begin 2 none, .fieldLink RX4 59 "TripReckonerModel" "begun" "Z", .fieldLink RX4 21 "TripReckonerModel" "cap" "I", .fieldLink RX4 66 "TripReckonerModel" "all" "J", .methodLink RX4 63 yX4_copy, .instanceMethod yX4_copy, .selects RX4 yX4_copy yX4_copy, .code yX4_copy cX4_copy 2 none, .fieldLink RX4 17 "TripReckonerModel" "kept" "[J", .methodLink RX4 126 yX4_refuse, .instanceMethod yX4_refuse, .selects RX4 yX4_refuse yX4_refuse, .code yX4_refuse cX4_refuse 1 (some .int), .methodLink RX4 116 yX4_place, .static yX4_place, .code yX4_place cX4_place 2 (some .int)] ++ wsX40)
def wsX4_need : List Cond := .code yX4_need cX4_need 2 (some .int) :: ([.fieldLink RX4 7 "TripReckonerModel" "tape" "[I", .fieldLink RX4 40 "TripReckonerModel" "high" "I"] ++ wsX40)
def wsX4_behind : List Cond := .code yX4_behind cX4_behind 5 (some .int) :: ([.constant RX4 141 (1000000000), .fieldLink RX4 43 "TripReckonerModel" "cost" "[I", .methodLink RX4 137 yX4_need, .instanceMethod yX4_need, .selects RX4 yX4_need yX4_need, .initialized RX4, .code yX4_need cX4_need 2 (some .int), .fieldLink RX4 7 "TripReckonerModel" "tape" "[I", .fieldLink RX4 40 "TripReckonerModel" "high" "I"] ++ wsX40)
def wsX4_isBest : List Cond := .code yX4_isBest cX4_isBest 6 (some .boolean) :: ([.constant RX4 141 (1000000000), .fieldLink RX4 7 "TripReckonerModel" "tape" "[I", .fieldLink RX4 43 "TripReckonerModel" "cost" "[I", .methodLink RX4 142 yX4_behind, .instanceMethod yX4_behind, .selects RX4 yX4_behind yX4_behind, .initialized RX4, .code yX4_behind cX4_behind 5 (some .int), .methodLink RX4 137 yX4_need, .instanceMethod yX4_need, .selects RX4 yX4_need yX4_need, .code yX4_need cX4_need 2 (some .int), .fieldLink RX4 40 "TripReckonerModel" "high" "I"] ++ wsX40)
def wsX4_plan_r1 : List Cond := [Cond.fieldLink RX4 49 "TripReckonerModel" "thrown" "I", Cond.fieldLink RX4 52 "TripReckonerModel" "taped" "I", Cond.fieldLink RX4 7 "TripReckonerModel" "tape" "[I", Cond.fieldLink RX4 21 "TripReckonerModel" "cap" "I", Cond.fieldLink RX4 13 "TripReckonerModel" "now" "[J", Cond.constant RX4 141 (1000000000), Cond.fieldLink RX4 43 "TripReckonerModel" "cost" "[I", Cond.fieldLink RX4 146 "TripReckonerModel" "stops" "I", Cond.fieldLink RX4 46 "TripReckonerModel" "bought" "[I", Cond.methodLink RX4 75 yX4_begin, Cond.instanceMethod yX4_begin, Cond.selects RX4 yX4_begin yX4_begin, Cond.initialized RX4, Cond.code yX4_begin cX4_begin 2 none, Cond.fieldLink RX4 59 "TripReckonerModel" "begun" "Z", Cond.fieldLink RX4 66 "TripReckonerModel" "all" "J", Cond.methodLink RX4 63 yX4_copy, Cond.instanceMethod yX4_copy, Cond.selects RX4 yX4_copy yX4_copy, Cond.code yX4_copy cX4_copy 2 none, Cond.fieldLink RX4 17 "TripReckonerModel" "kept" "[J", Cond.methodLink RX4 142 yX4_behind, Cond.instanceMethod yX4_behind, Cond.selects RX4 yX4_behind yX4_behind]
def wsX4_plan_r2 : List Cond := [Cond.code yX4_behind cX4_behind 5 (some .int), Cond.methodLink RX4 137 yX4_need, Cond.instanceMethod yX4_need, Cond.selects RX4 yX4_need yX4_need, Cond.code yX4_need cX4_need 2 (some .int), Cond.fieldLink RX4 40 "TripReckonerModel" "high" "I", Cond.methodLink RX4 149 yX4_isBest, Cond.instanceMethod yX4_isBest, Cond.selects RX4 yX4_isBest yX4_isBest, Cond.code yX4_isBest cX4_isBest 6 (some .boolean)]
def wsX4_plan : List Cond := .code yX4_plan cX4_plan 10 (some .int) :: ((wsX4_plan_r1 ++ wsX4_plan_r2) ++ wsX40)
def wsX4_buys : List Cond := .code yX4_buys cX4_buys 2 (some .int) :: ([.fieldLink RX4 49 "TripReckonerModel" "thrown" "I", .fieldLink RX4 146 "TripReckonerModel" "stops" "I", .fieldLink RX4 46 "TripReckonerModel" "bought" "[I"] ++ wsX40)
def wsX4_count : List Cond := .code yX4_count cX4_count 2 (some .int) :: ([.fieldLink RX4 49 "TripReckonerModel" "thrown" "I", .fieldLink RX4 13 "TripReckonerModel" "now" "[J", .fieldLink RX4 52 "TripReckonerModel" "taped" "I", .methodLink RX4 75 yX4_begin, .instanceMethod yX4_begin, .selects RX4 yX4_begin yX4_begin, .initialized RX4, .code yX4_begin cX4_begin 2 none, .fieldLink RX4 59 "TripReckonerModel" "begun" "Z", .fieldLink RX4 21 "TripReckonerModel" "cap" "I", .fieldLink RX4 66 "TripReckonerModel" "all" "J", .methodLink RX4 63 yX4_copy, .instanceMethod yX4_copy, .selects RX4 yX4_copy yX4_copy, .code yX4_copy cX4_copy 2 none, .fieldLink RX4 17 "TripReckonerModel" "kept" "[J"] ++ wsX40)
def wsJ9_max_7cf53 : List Cond := .code yJ9_max_7cf53 cJ9_max_7cf53 2 (some .int) :: ([])
def wsJ9_max_f86c9 : List Cond := .code yJ9_max_f86c9 cJ9_max_f86c9 4 (some .long) :: ([])
def wsJ9_min_7cf53 : List Cond := .code yJ9_min_7cf53 cJ9_min_7cf53 2 (some .int) :: ([])
def wsJ9_min_f86c9 : List Cond := .code yJ9_min_f86c9 cJ9_min_f86c9 4 (some .long) :: ([])
def wsL_mark : List Cond := .codeWith yL_mark cL_mark 5 (some .int) [(0, 9, 12, 13)] :: ([.classLink RL 13 "java/util/NoSuchElementException", .methodLink RL 7 yX3_mark, .instanceMethod yX3_mark, .selects RX3 yX3_mark yX3_mark, .initialized RX3, .code yX3_mark cX3_mark 3 (some .long), .classLink RX3 141 "java/util/NoSuchElementException", .initialized "java/util/NoSuchElementException", .fieldLink RX3 10 "TripReckoner" "now" "LTripReckoner$Ledger;", .methodLink RX3 131 yX3_isMark, .static yX3_isMark, .code yX3_isMark cX3_isMark 1 (some .boolean), .methodLink RX3 79 yX3_within, .static yX3_within, .code yX3_within cX3_within 3 (some .boolean), .instanceMethod yX0_marked, .initialized RX0, .selects RX0 yX0_marked yX0_marked, .code yX0_marked cX0_marked 3 (some .long), .fieldLink RX0 9 "TripReckoner$Ledger" "marks" "[J"] ++ wsX30 ++ wsX00 ++ (vx_atS RX3 145 "java/util/NoSuchElementException" ["java/lang/RuntimeException", "java/lang/Exception"]).filter goodWord)
def wsL_metres_r1 : List Cond := [Cond.classLink RL 13 "java/util/NoSuchElementException", Cond.methodLink RL 15 yX3_metres, Cond.instanceMethod yX3_metres, Cond.selects RX3 yX3_metres yX3_metres, Cond.initialized RX3, Cond.code yX3_metres cX3_metres 3 (some .long), Cond.classLink RX3 141 "java/util/NoSuchElementException", Cond.initialized "java/util/NoSuchElementException", Cond.constantLong RX3 158 (100), Cond.methodLink RX3 131 yX3_isMark, Cond.static yX3_isMark, Cond.code yX3_isMark cX3_isMark 1 (some .boolean), Cond.methodLink RX3 79 yX3_within, Cond.static yX3_within, Cond.code yX3_within cX3_within 3 (some .boolean), Cond.methodLink RX3 154 yX3_wayInHundredths, Cond.instanceMethod yX3_wayInHundredths, Cond.selects RX3 yX3_wayInHundredths yX3_wayInHundredths, Cond.code yX3_wayInHundredths cX3_wayInHundredths 3 (some .long), Cond.fieldLink RX3 10 "TripReckoner" "now" "LTripReckoner$Ledger;", Cond.fieldLink RX3 38 "TripReckoner" "metresPerHundred" "I", Cond.instanceMethod yX0_marked, Cond.initialized RX0, Cond.selects RX0 yX0_marked yX0_marked]
def wsL_metres_r2 : List Cond := [Cond.code yX0_marked cX0_marked 3 (some .long), Cond.fieldLink RX0 9 "TripReckoner$Ledger" "marks" "[J"]
def wsL_metres : List Cond := .codeWith yL_metres cL_metres 5 (some .int) [(0, 9, 12, 13)] :: ((wsL_metres_r1 ++ wsL_metres_r2) ++ wsX30 ++ wsX00 ++ (vx_atS RX3 145 "java/util/NoSuchElementException" ["java/lang/RuntimeException", "java/lang/Exception"]).filter goodWord)
def wsL_average_r1 : List Cond := [Cond.classLink RL 13 "java/util/NoSuchElementException", Cond.methodLink RL 19 yX3_average, Cond.instanceMethod yX3_average, Cond.selects RX3 yX3_average yX3_average, Cond.initialized RX3, Cond.code yX3_average cX3_average 10 (some .long), Cond.classLink RX3 141 "java/util/NoSuchElementException", Cond.initialized "java/util/NoSuchElementException", Cond.fieldLink RX3 10 "TripReckoner" "now" "LTripReckoner$Ledger;", Cond.constantLong RX3 162 (100000), Cond.methodLink RX3 131 yX3_isMark, Cond.static yX3_isMark, Cond.code yX3_isMark cX3_isMark 1 (some .boolean), Cond.methodLink RX3 79 yX3_within, Cond.static yX3_within, Cond.code yX3_within cX3_within 3 (some .boolean), Cond.methodLink RX3 154 yX3_wayInHundredths, Cond.instanceMethod yX3_wayInHundredths, Cond.selects RX3 yX3_wayInHundredths yX3_wayInHundredths, Cond.code yX3_wayInHundredths cX3_wayInHundredths 3 (some .long), Cond.fieldLink RX3 38 "TripReckoner" "metresPerHundred" "I", Cond.instanceMethod yX0_marked, Cond.initialized RX0, Cond.selects RX0 yX0_marked yX0_marked]
def wsL_average_r2 : List Cond := [Cond.code yX0_marked cX0_marked 3 (some .long), Cond.fieldLink RX0 9 "TripReckoner$Ledger" "marks" "[J", Cond.methodLink RX3 164 yX3_commonDivisor, Cond.static yX3_commonDivisor, Cond.code yX3_commonDivisor cX3_commonDivisor 11 (some .long)]
def wsL_average : List Cond := .codeWith yL_average cL_average 6 (some .int) [(0, 11, 14, 13)] :: ((wsL_average_r1 ++ wsL_average_r2) ++ wsX30 ++ wsX00 ++ (vx_atS RX3 145 "java/util/NoSuchElementException" ["java/lang/RuntimeException", "java/lang/Exception"]).filter goodWord)
def wsL_refill : List Cond := .codeWith yL_refill cL_refill 5 (some .int) [(0, 10, 13, 13)] :: ([.classLink RL 13 "java/util/NoSuchElementException", .methodLink RL 23 yX3_refill, .instanceMethod yX3_refill, .selects RX3 yX3_refill yX3_refill, .initialized RX3, .code yX3_refill cX3_refill 3 (some .int), .classLink RX3 141 "java/util/NoSuchElementException", .initialized "java/util/NoSuchElementException", .fieldLink RX3 10 "TripReckoner" "now" "LTripReckoner$Ledger;", .instanceMethod yX0_tellsRefill, .initialized RX0, .selects RX0 yX0_tellsRefill yX0_tellsRefill, .code yX0_tellsRefill cX0_tellsRefill 2 (some .boolean), .fieldLink RX0 29 "TripReckoner$Ledger" "refills" "I", .instanceMethod yX0_amount, .selects RX0 yX0_amount yX0_amount, .code yX0_amount cX0_amount 4 (some .int), .fieldLink RX0 19 "TripReckoner$Ledger" "amountsGreatest" "[I", .fieldLink RX0 15 "TripReckoner$Ledger" "amountsLeast" "[I"] ++ wsX30 ++ wsX00 ++ (vx_atS RX3 145 "java/util/NoSuchElementException" ["java/lang/RuntimeException", "java/lang/Exception"]).filter goodWord)
def wsL_law0_r1 : List Cond := [Cond.classLink RL 8 RX3, Cond.instantiable RX3 12, Cond.initialized RX3, Cond.classLink RL 28 RX4, Cond.instantiable RX4 17, Cond.initialized RX4, Cond.arrayClass .long, Cond.methodLink RL 27 yX3_init, Cond.instanceMethod yX3_init, Cond.code yX3_init cX3_init 1 none, Cond.methodLink RX3 1 objectInit, Cond.instanceMethod objectInit, Cond.code objectInit ⟨#[0xb1]⟩ 1 none, Cond.classLink RX3 7 RX0, Cond.instantiable RX0 15, Cond.initialized RX0, Cond.fieldLink RX3 10 "TripReckoner" "now" "LTripReckoner$Ledger;", Cond.fieldLink RX3 16 "TripReckoner" "kept" "LTripReckoner$Ledger;", Cond.classLink RX3 19 RX2, Cond.instantiable RX2 2, Cond.initialized RX2, Cond.fieldLink RX3 22 "TripReckoner" "tape" "LTripReckoner$Tape;", Cond.classLink RX3 26 RX1, Cond.instantiable RX1 7]
def wsL_law0_r2 : List Cond := [Cond.initialized RX1, Cond.fieldLink RX3 29 "TripReckoner" "planner" "LTripReckoner$Planner;", Cond.constant RX3 33 (50000), Cond.fieldLink RX3 34 "TripReckoner" "tankSize" "I", Cond.fieldLink RX3 38 "TripReckoner" "metresPerHundred" "I", Cond.fieldLink RX3 41 "TripReckoner" "floatSlop" "I", Cond.fieldLink RX3 44 "TripReckoner" "fastest" "I", Cond.fieldLink RX3 47 "TripReckoner" "thirstiest" "I", Cond.fieldLink RX3 50 "TripReckoner" "lowUse" "I", Cond.fieldLink RX3 53 "TripReckoner" "highUse" "I", Cond.fieldLink RX3 56 "TripReckoner" "pulsesInAll" "J", Cond.instanceMethod yX0_init, Cond.code yX0_init cX0_init 1 none, Cond.methodLink RX0 3 objectInit, Cond.fieldLink RX0 9 "TripReckoner$Ledger" "marks" "[J", Cond.arrayClass .int, Cond.fieldLink RX0 15 "TripReckoner$Ledger" "amountsLeast" "[I", Cond.fieldLink RX0 19 "TripReckoner$Ledger" "amountsGreatest" "[I", Cond.instanceMethod yX2_init, Cond.code yX2_init cX2_init 1 none, Cond.methodLink RX2 1 objectInit, Cond.fieldLink RX2 9 "TripReckoner$Tape" "bytes" "[I", Cond.fieldLink RX2 13 "TripReckoner$Tape" "size" "I", Cond.instanceMethod yX1_init]
def wsL_law0_r3 : List Cond := [Cond.code yX1_init cX1_init 1 none, Cond.methodLink RX1 3 objectInit, Cond.fieldLink RX1 11 "TripReckoner$Planner" "legs" "[I", Cond.fieldLink RX1 15 "TripReckoner$Planner" "prices" "[I", Cond.fieldLink RX1 18 "TripReckoner$Planner" "toGo" "[I", Cond.fieldLink RX1 21 "TripReckoner$Planner" "fillTo" "[I", Cond.fieldLink RX1 24 "TripReckoner$Planner" "bought" "[I", Cond.fieldLink RX1 27 "TripReckoner$Planner" "stations" "I", Cond.fieldLink RX1 31 "TripReckoner$Planner" "plannedStations" "I", Cond.instanceMethod yX0_begin, Cond.selects RX0 yX0_begin yX0_begin, Cond.code yX0_begin cX0_begin 3 none, Cond.fieldLink RX0 22 "TripReckoner$Ledger" "spanLeast" "I", Cond.fieldLink RX0 26 "TripReckoner$Ledger" "spanGreatest" "I", Cond.fieldLink RX0 29 "TripReckoner$Ledger" "refills" "I", Cond.fieldLink RX0 32 "TripReckoner$Ledger" "losses" "I", Cond.fieldLink RX0 35 "TripReckoner$Ledger" "lies" "I", Cond.fieldLink RX0 38 "TripReckoner$Ledger" "jumps" "I", Cond.fieldLink RX0 41 "TripReckoner$Ledger" "shownLitres" "I", Cond.fieldLink RX0 44 "TripReckoner$Ledger" "settling" "Z", Cond.methodLink RX0 48 yX0_clearMark, Cond.instanceMethod yX0_clearMark, Cond.selects RX0 yX0_clearMark yX0_clearMark, Cond.code yX0_clearMark cX0_clearMark 3 none]
def wsL_law0_r4 : List Cond := [Cond.methodLink RL 30 yX4_init, Cond.instanceMethod yX4_init, Cond.code yX4_init cX4_init 1 none, Cond.methodLink RX4 1 objectInit, Cond.fieldLink RX4 7 "TripReckonerModel" "tape" "[I", Cond.fieldLink RX4 13 "TripReckonerModel" "now" "[J", Cond.fieldLink RX4 17 "TripReckonerModel" "kept" "[J", Cond.constant RX4 20 (50000), Cond.fieldLink RX4 21 "TripReckonerModel" "cap" "I", Cond.fieldLink RX4 25 "TripReckonerModel" "metres" "I", Cond.fieldLink RX4 28 "TripReckonerModel" "slop" "I", Cond.fieldLink RX4 31 "TripReckonerModel" "fast" "I", Cond.fieldLink RX4 34 "TripReckonerModel" "thirst" "I", Cond.fieldLink RX4 37 "TripReckonerModel" "low" "I", Cond.fieldLink RX4 40 "TripReckonerModel" "high" "I", Cond.fieldLink RX4 43 "TripReckonerModel" "cost" "[I", Cond.fieldLink RX4 46 "TripReckonerModel" "bought" "[I", Cond.methodLink RL 31 yX3_feed, Cond.instanceMethod yX3_feed, Cond.selects RX3 yX3_feed yX3_feed, Cond.code yX3_feed cX3_feed 6 (some .int), Cond.instanceMethod yX2_hasRoom, Cond.selects RX2 yX2_hasRoom yX2_hasRoom, Cond.code yX2_hasRoom cX2_hasRoom 1 (some .boolean)]
def wsL_law0_r5 : List Cond := [Cond.instanceMethod yX2_push, Cond.selects RX2 yX2_push yX2_push, Cond.code yX2_push cX2_push 3 none, Cond.methodLink RL 35 yX4_feed, Cond.instanceMethod yX4_feed, Cond.selects RX4 yX4_feed yX4_feed, Cond.code yX4_feed cX4_feed 6 (some .int), Cond.fieldLink RX4 49 "TripReckonerModel" "thrown" "I", Cond.fieldLink RX4 52 "TripReckonerModel" "taped" "I", Cond.methodLink RX4 55 yX4_come, Cond.instanceMethod yX4_come, Cond.selects RX4 yX4_come yX4_come, Cond.code yX4_come cX4_come 3 none, Cond.methodLink RL 36 yX3_end, Cond.instanceMethod yX3_end, Cond.selects RX3 yX3_end yX3_end, Cond.code yX3_end cX3_end 2 (some .boolean), Cond.instanceMethod yX2_shorten, Cond.selects RX2 yX2_shorten yX2_shorten, Cond.code yX2_shorten cX2_shorten 2 (some .boolean), Cond.methodLink RL 40 yX4_end, Cond.instanceMethod yX4_end, Cond.selects RX4 yX4_end yX4_end, Cond.code yX4_end cX4_end 2 (some .boolean)]
def wsL_law0_r6 : List Cond := [Cond.methodLink RL 41 yX3_car, Cond.instanceMethod yX3_car, Cond.selects RX3 yX3_car yX3_car, Cond.code yX3_car cX3_car 4 (some .boolean), Cond.constant RX3 78 (120000), Cond.methodLink RX3 79 yX3_within, Cond.static yX3_within, Cond.code yX3_within cX3_within 3 (some .boolean), Cond.methodLink RL 45 yX4_car, Cond.instanceMethod yX4_car, Cond.selects RX4 yX4_car yX4_car, Cond.code yX4_car cX4_car 4 (some .boolean), Cond.constant RX4 70 (120000), Cond.fieldLink RX4 59 "TripReckonerModel" "begun" "Z", Cond.methodLink RX4 71 yX4_isIn, Cond.static yX4_isIn, Cond.code yX4_isIn cX4_isIn 3 (some .boolean), Cond.methodLink RX4 75 yX4_begin, Cond.instanceMethod yX4_begin, Cond.selects RX4 yX4_begin yX4_begin, Cond.code yX4_begin cX4_begin 2 none, Cond.fieldLink RX4 66 "TripReckonerModel" "all" "J", Cond.methodLink RX4 63 yX4_copy, Cond.instanceMethod yX4_copy]
def wsL_law0_r7 : List Cond := [Cond.selects RX4 yX4_copy yX4_copy, Cond.code yX4_copy cX4_copy 2 none, Cond.methodLink RL 46 yX3_bounds, Cond.instanceMethod yX3_bounds, Cond.selects RX3 yX3_bounds yX3_bounds, Cond.code yX3_bounds cX3_bounds 5 (some .boolean), Cond.methodLink RX3 83 yX3_checkedBounds, Cond.static yX3_checkedBounds, Cond.code yX3_checkedBounds cX3_checkedBounds 4 (some .boolean), Cond.methodLink RL 50 yX4_bounds, Cond.instanceMethod yX4_bounds, Cond.selects RX4 yX4_bounds yX4_bounds, Cond.code yX4_bounds cX4_bounds 5 (some .boolean), Cond.methodLink RL 51 yX3_drive, Cond.instanceMethod yX3_drive, Cond.selects RX3 yX3_drive yX3_drive, Cond.code yX3_drive cX3_drive 4 (some .boolean), Cond.constant RX3 87 (100000), Cond.constantLong RX3 88 (100000000), Cond.instanceMethod yX0_pass, Cond.selects RX0 yX0_pass yX0_pass, Cond.code yX0_pass cX0_pass 8 none, Cond.fieldLink RX0 58 "TripReckoner$Ledger" "usedLeast" "J", Cond.fieldLink RX0 62 "TripReckoner$Ledger" "usedMost" "J"]
def wsL_law0_r8 : List Cond := [Cond.instanceMethod yX0_burn, Cond.selects RX0 yX0_burn yX0_burn, Cond.code yX0_burn cX0_burn 2 none, Cond.methodLink RX0 71 Lib.Math.max.name, Cond.static Lib.Math.max.name, Cond.initialized "java/lang/Math", Cond.code Lib.Math.max.name Lib.Math.max.code 2 (some .int), Cond.instanceMethod yX0_showStep, Cond.selects RX0 yX0_showStep yX0_showStep, Cond.code yX0_showStep cX0_showStep 1 none, Cond.methodLink RX0 95 yX0_truth, Cond.instanceMethod yX0_truth, Cond.selects RX0 yX0_truth yX0_truth, Cond.code yX0_truth cX0_truth 1 (some .int), Cond.methodLink RX0 99 yJ6_compare_7cf53, Cond.static yJ6_compare_7cf53, Cond.initialized RJ6, Cond.code yJ6_compare_7cf53 cJ6_compare_7cf53 2 (some .int), Cond.methodLink RL 54 yX4_drive, Cond.instanceMethod yX4_drive, Cond.selects RX4 yX4_drive yX4_drive, Cond.code yX4_drive cX4_drive 4 (some .boolean), Cond.constant RX4 84 (100000), Cond.constantLong RX4 85 (100000000)]
def wsL_law0_r9 : List Cond := [Cond.methodLink RX4 87 yX4_less, Cond.static yX4_less, Cond.code yX4_less cX4_less 4 (some .long), Cond.methodLink RX4 91 yX4_runs, Cond.instanceMethod yX4_runs, Cond.selects RX4 yX4_runs yX4_runs, Cond.code yX4_runs cX4_runs 12 none, Cond.methodLink RX4 95 yX4_step, Cond.instanceMethod yX4_step, Cond.selects RX4 yX4_step yX4_step, Cond.code yX4_step cX4_step 3 none, Cond.methodLink RX4 80 yX4_truth, Cond.instanceMethod yX4_truth, Cond.selects RX4 yX4_truth yX4_truth, Cond.code yX4_truth cX4_truth 1 (some .long), Cond.constantLong RX4 78 (2000), Cond.methodLink RL 55 yX3_gap, Cond.instanceMethod yX3_gap, Cond.selects RX3 yX3_gap yX3_gap, Cond.code yX3_gap cX3_gap 2 (some .boolean), Cond.methodLink RX3 100 yX3_gapFits, Cond.instanceMethod yX3_gapFits, Cond.selects RX3 yX3_gapFits yX3_gapFits, Cond.code yX3_gapFits cX3_gapFits 2 (some .boolean)]
def wsL_law0_r10 : List Cond := [Cond.constant RX3 203 (36000), Cond.methodLink RX3 103 yX3_passGap, Cond.instanceMethod yX3_passGap, Cond.selects RX3 yX3_passGap yX3_passGap, Cond.code yX3_passGap cX3_passGap 4 none, Cond.instanceMethod yX0_doubt, Cond.selects RX0 yX0_doubt yX0_doubt, Cond.code yX0_doubt cX0_doubt 2 none, Cond.methodLink RL 58 yX4_gap, Cond.instanceMethod yX4_gap, Cond.selects RX4 yX4_gap yX4_gap, Cond.code yX4_gap cX4_gap 2 (some .boolean), Cond.methodLink RX4 99 yX4_mayGap, Cond.instanceMethod yX4_mayGap, Cond.selects RX4 yX4_mayGap yX4_mayGap, Cond.code yX4_mayGap cX4_mayGap 2 (some .boolean), Cond.constant RX4 98 (36000), Cond.methodLink RX4 103 yX4_gaps, Cond.instanceMethod yX4_gaps, Cond.selects RX4 yX4_gaps yX4_gaps, Cond.code yX4_gaps cX4_gaps 2 none, Cond.methodLink RL 59 yX3_tells, Cond.instanceMethod yX3_tells, Cond.selects RX3 yX3_tells yX3_tells]
def wsL_law0_r11 : List Cond := [Cond.code yX3_tells cX3_tells 4 (some .int), Cond.methodLink RX3 106 Lib.Math.max.name, Cond.methodLink RX3 112 Lib.Math.min.name, Cond.static Lib.Math.min.name, Cond.code Lib.Math.min.name Lib.Math.min.code 2 (some .int), Cond.instanceMethod yX0_takeRefill, Cond.selects RX0 yX0_takeRefill yX0_takeRefill, Cond.code yX0_takeRefill cX0_takeRefill 4 none, Cond.fieldLink RX0 52 "TripReckoner$Ledger" "aheadLeast" "I", Cond.fieldLink RX0 55 "TripReckoner$Ledger" "aheadGreatest" "I", Cond.methodLink RX0 91 yX0_takeFloat, Cond.instanceMethod yX0_takeFloat, Cond.selects RX0 yX0_takeFloat yX0_takeFloat, Cond.code yX0_takeFloat cX0_takeFloat 3 none, Cond.instanceMethod yX0_takeLoss, Cond.selects RX0 yX0_takeLoss yX0_takeLoss, Cond.code yX0_takeLoss cX0_takeLoss 3 none, Cond.instanceMethod yX0_narrow, Cond.selects RX0 yX0_narrow yX0_narrow, Cond.code yX0_narrow cX0_narrow 3 none, Cond.methodLink RX0 77 Lib.Math.min.name, Cond.methodLink RX0 80 yX0_settle, Cond.instanceMethod yX0_settle, Cond.selects RX0 yX0_settle yX0_settle]
def wsL_law0_r12 : List Cond := [Cond.code yX0_settle cX0_settle 6 none, Cond.methodLink RX0 86 Lib.MathLoose.max_long.x, Cond.static Lib.MathLoose.max_long.x, Cond.code Lib.MathLoose.max_long.x Lib.MathLoose.max_long.code 4 (some .long), Cond.methodLink RX0 89 Lib.MathLoose.min_long.x, Cond.static Lib.MathLoose.min_long.x, Cond.code Lib.MathLoose.min_long.x Lib.MathLoose.min_long.code 4 (some .long), Cond.methodLink RX0 83 yX0_showStep, Cond.methodLink RL 63 yX4_tells, Cond.instanceMethod yX4_tells, Cond.selects RX4 yX4_tells yX4_tells, Cond.code yX4_tells cX4_tells 8 (some .int), Cond.constantLong RX4 111 (255), Cond.methodLink RX4 113 yX4_settle, Cond.instanceMethod yX4_settle, Cond.selects RX4 yX4_settle yX4_settle, Cond.code yX4_settle cX4_settle 6 none, Cond.methodLink RX4 116 yX4_place, Cond.static yX4_place, Cond.code yX4_place cX4_place 2 (some .int), Cond.constantLong RX4 109 (30), Cond.methodLink RX4 106 yX4_clear, Cond.instanceMethod yX4_clear, Cond.selects RX4 yX4_clear yX4_clear]
def wsL_law0_r13 : List Cond := [Cond.code yX4_clear cX4_clear 3 none, Cond.methodLink RX4 120 yX4_jump, Cond.instanceMethod yX4_jump, Cond.selects RX4 yX4_jump yX4_jump, Cond.code yX4_jump cX4_jump 1 none, Cond.methodLink RL 64 yX3_set, Cond.instanceMethod yX3_set, Cond.selects RX3 yX3_set yX3_set, Cond.code yX3_set cX3_set 2 (some .boolean), Cond.methodLink RX3 131 yX3_isMark, Cond.static yX3_isMark, Cond.code yX3_isMark cX3_isMark 1 (some .boolean), Cond.methodLink RL 67 yX4_set, Cond.instanceMethod yX4_set, Cond.selects RX4 yX4_set yX4_set, Cond.code yX4_set cX4_set 2 (some .boolean), Cond.methodLink RL 68 yX3_keep, Cond.instanceMethod yX3_keep, Cond.selects RX3 yX3_keep yX3_keep, Cond.code yX3_keep cX3_keep 1 none, Cond.instanceMethod yX0_copyFrom, Cond.selects RX0 yX0_copyFrom yX0_copyFrom, Cond.code yX0_copyFrom cX0_copyFrom 2 none, Cond.methodLink RX0 65 arraycopyName]
def wsL_law0_r14 : List Cond := [Cond.native arraycopyName, Cond.static arraycopyName, Cond.initialized "java/lang/System", Cond.methodLink RL 71 yX4_keep, Cond.instanceMethod yX4_keep, Cond.selects RX4 yX4_keep yX4_keep, Cond.code yX4_keep cX4_keep 1 none, Cond.methodLink RL 72 yX3_dead, Cond.instanceMethod yX3_dead, Cond.selects RX3 yX3_dead yX3_dead, Cond.code yX3_dead cX3_dead 2 (some .boolean), Cond.methodLink RL 75 yX4_dead, Cond.instanceMethod yX4_dead, Cond.selects RX4 yX4_dead yX4_dead, Cond.code yX4_dead cX4_dead 3 (some .boolean), Cond.methodLink RL 76 yX3_span, Cond.instanceMethod yX3_span, Cond.selects RX3 yX3_span yX3_span, Cond.code yX3_span cX3_span 2 (some .int), Cond.methodLink RL 80 yX4_span, Cond.instanceMethod yX4_span, Cond.selects RX4 yX4_span yX4_span, Cond.code yX4_span cX4_span 2 (some .int), Cond.methodLink RL 81 yL_mark]
def wsL_law0_r15 : List Cond := [Cond.static yL_mark, Cond.initialized RL, Cond.codeWith yL_mark cL_mark 5 (some .int) [(0, 9, 12, 13)], Cond.classLink RL 13 "java/util/NoSuchElementException", Cond.methodLink RL 7 yX3_mark, Cond.instanceMethod yX3_mark, Cond.selects RX3 yX3_mark yX3_mark, Cond.code yX3_mark cX3_mark 3 (some .long), Cond.classLink RX3 141 "java/util/NoSuchElementException", Cond.initialized "java/util/NoSuchElementException", Cond.instanceMethod yX0_marked, Cond.selects RX0 yX0_marked yX0_marked, Cond.code yX0_marked cX0_marked 3 (some .long), Cond.methodLink RL 86 yX4_mark, Cond.instanceMethod yX4_mark, Cond.selects RX4 yX4_mark yX4_mark, Cond.code yX4_mark cX4_mark 3 (some .long), Cond.methodLink RX4 123 yX4_isMark, Cond.static yX4_isMark, Cond.code yX4_isMark cX4_isMark 1 (some .boolean), Cond.methodLink RX4 126 yX4_refuse, Cond.instanceMethod yX4_refuse, Cond.selects RX4 yX4_refuse yX4_refuse, Cond.code yX4_refuse cX4_refuse 1 (some .int)]
def wsL_law0_r16 : List Cond := [Cond.methodLink RL 87 yX4_thrown, Cond.instanceMethod yX4_thrown, Cond.selects RX4 yX4_thrown yX4_thrown, Cond.code yX4_thrown cX4_thrown 1 (some .int), Cond.methodLink RL 91 yL_metres, Cond.static yL_metres, Cond.codeWith yL_metres cL_metres 5 (some .int) [(0, 9, 12, 13)], Cond.methodLink RL 15 yX3_metres, Cond.instanceMethod yX3_metres, Cond.selects RX3 yX3_metres yX3_metres, Cond.code yX3_metres cX3_metres 3 (some .long), Cond.constantLong RX3 158 (100), Cond.methodLink RX3 154 yX3_wayInHundredths, Cond.instanceMethod yX3_wayInHundredths, Cond.selects RX3 yX3_wayInHundredths yX3_wayInHundredths, Cond.code yX3_wayInHundredths cX3_wayInHundredths 3 (some .long), Cond.methodLink RL 94 yX4_metres, Cond.instanceMethod yX4_metres, Cond.selects RX4 yX4_metres yX4_metres, Cond.code yX4_metres cX4_metres 3 (some .long), Cond.constantLong RX4 130 (100), Cond.methodLink RL 95 yL_average, Cond.static yL_average, Cond.codeWith yL_average cL_average 6 (some .int) [(0, 11, 14, 13)]]
def wsL_law0_r17 : List Cond := [Cond.methodLink RL 19 yX3_average, Cond.instanceMethod yX3_average, Cond.selects RX3 yX3_average yX3_average, Cond.code yX3_average cX3_average 10 (some .long), Cond.constantLong RX3 162 (100000), Cond.methodLink RX3 164 yX3_commonDivisor, Cond.static yX3_commonDivisor, Cond.code yX3_commonDivisor cX3_commonDivisor 11 (some .long), Cond.methodLink RL 98 yX4_average, Cond.instanceMethod yX4_average, Cond.selects RX4 yX4_average yX4_average, Cond.code yX4_average cX4_average 8 (some .long), Cond.constantLong RX4 132 (100000), Cond.methodLink RX4 134 yX4_common, Cond.static yX4_common, Cond.code yX4_common cX4_common 10 (some .long), Cond.methodLink RL 99 yX3_range, Cond.instanceMethod yX3_range, Cond.selects RX3 yX3_range yX3_range, Cond.code yX3_range cX3_range 2 (some .int), Cond.methodLink RL 102 yX4_range, Cond.instanceMethod yX4_range, Cond.selects RX4 yX4_range yX4_range, Cond.code yX4_range cX4_range 2 (some .int)]
def wsL_law0_r18 : List Cond := [Cond.methodLink RL 103 yX3_shown, Cond.instanceMethod yX3_shown, Cond.selects RX3 yX3_shown yX3_shown, Cond.code yX3_shown cX3_shown 1 (some .int), Cond.methodLink RL 106 yX4_shown, Cond.instanceMethod yX4_shown, Cond.selects RX4 yX4_shown yX4_shown, Cond.code yX4_shown cX4_shown 1 (some .int), Cond.methodLink RL 107 yL_refill, Cond.static yL_refill, Cond.codeWith yL_refill cL_refill 5 (some .int) [(0, 10, 13, 13)], Cond.methodLink RL 23 yX3_refill, Cond.instanceMethod yX3_refill, Cond.selects RX3 yX3_refill yX3_refill, Cond.code yX3_refill cX3_refill 3 (some .int), Cond.instanceMethod yX0_tellsRefill, Cond.selects RX0 yX0_tellsRefill yX0_tellsRefill, Cond.code yX0_tellsRefill cX0_tellsRefill 2 (some .boolean), Cond.instanceMethod yX0_amount, Cond.selects RX0 yX0_amount yX0_amount, Cond.code yX0_amount cX0_amount 4 (some .int), Cond.methodLink RL 109 yX4_refill, Cond.instanceMethod yX4_refill, Cond.selects RX4 yX4_refill yX4_refill]
def wsL_law0_r19 : List Cond := [Cond.code yX4_refill cX4_refill 3 (some .int), Cond.methodLink RL 110 yX3_plan, Cond.instanceMethod yX3_plan, Cond.selects RX3 yX3_plan yX3_plan, Cond.code yX3_plan cX3_plan 2 (some .int), Cond.instanceMethod yX1_read, Cond.selects RX1 yX1_read yX1_read, Cond.code yX1_read cX1_read 4 (some .boolean), Cond.instanceMethod yX1_reckon, Cond.selects RX1 yX1_reckon yX1_reckon, Cond.code yX1_reckon cX1_reckon 6 (some .int), Cond.methodLink RX1 42 Lib.Math.min.name, Cond.constant RX1 52 (1000000000), Cond.methodLink RX1 48 yX1_reckonBackwards, Cond.instanceMethod yX1_reckonBackwards, Cond.selects RX1 yX1_reckonBackwards yX1_reckonBackwards, Cond.code yX1_reckonBackwards cX1_reckonBackwards 3 none, Cond.methodLink RX1 56 yX1_reckonStation, Cond.instanceMethod yX1_reckonStation, Cond.selects RX1 yX1_reckonStation yX1_reckonStation, Cond.code yX1_reckonStation cX1_reckonStation 10 none, Cond.methodLink RX1 53 yX1_buyForwards, Cond.instanceMethod yX1_buyForwards, Cond.selects RX1 yX1_buyForwards yX1_buyForwards]
def wsL_law0_r20 : List Cond := [Cond.code yX1_buyForwards cX1_buyForwards 5 none, Cond.methodLink RL 113 yX4_plan, Cond.instanceMethod yX4_plan, Cond.selects RX4 yX4_plan yX4_plan, Cond.code yX4_plan cX4_plan 10 (some .int), Cond.constant RX4 141 (1000000000), Cond.fieldLink RX4 146 "TripReckonerModel" "stops" "I", Cond.methodLink RX4 142 yX4_behind, Cond.instanceMethod yX4_behind, Cond.selects RX4 yX4_behind yX4_behind, Cond.code yX4_behind cX4_behind 5 (some .int), Cond.methodLink RX4 137 yX4_need, Cond.instanceMethod yX4_need, Cond.selects RX4 yX4_need yX4_need, Cond.code yX4_need cX4_need 2 (some .int), Cond.methodLink RX4 149 yX4_isBest, Cond.instanceMethod yX4_isBest, Cond.selects RX4 yX4_isBest yX4_isBest, Cond.code yX4_isBest cX4_isBest 6 (some .boolean), Cond.methodLink RL 114 yX3_buys, Cond.instanceMethod yX3_buys, Cond.selects RX3 yX3_buys yX3_buys, Cond.code yX3_buys cX3_buys 2 (some .int), Cond.instanceMethod yX1_boughtAt]
def wsL_law0_r21 : List Cond := [Cond.selects RX1 yX1_boughtAt yX1_boughtAt, Cond.code yX1_boughtAt cX1_boughtAt 2 (some .int), Cond.methodLink RL 117 yX4_buys, Cond.instanceMethod yX4_buys, Cond.selects RX4 yX4_buys yX4_buys, Cond.code yX4_buys cX4_buys 2 (some .int), Cond.methodLink RL 118 yX3_count, Cond.instanceMethod yX3_count, Cond.selects RX3 yX3_count yX3_count, Cond.code yX3_count cX3_count 2 (some .int), Cond.methodLink RL 121 yX4_count, Cond.instanceMethod yX4_count, Cond.selects RX4 yX4_count yX4_count, Cond.code yX4_count cX4_count 2 (some .int)]
def wsL_law0 : List Cond := (wsL_law0_r1 ++ (wsL_law0_r2 ++ (wsL_law0_r3 ++ (wsL_law0_r4 ++ (wsL_law0_r5 ++ (wsL_law0_r6 ++ (wsL_law0_r7 ++ (wsL_law0_r8 ++ (wsL_law0_r9 ++ (wsL_law0_r10 ++ (wsL_law0_r11 ++ (wsL_law0_r12 ++ (wsL_law0_r13 ++ (wsL_law0_r14 ++ (wsL_law0_r15 ++ (wsL_law0_r16 ++ (wsL_law0_r17 ++ (wsL_law0_r18 ++ (wsL_law0_r19 ++ (wsL_law0_r20 ++ wsL_law0_r21)))))))))))))))))))) ++ wsX30 ++ wsX40 ++ wsX00 ++ wsX20 ++ wsX10 ++ ([] : List Cond)
def wsL_law : List Cond := wsL_law0 ++ (vx_atS RX3 145 "java/util/NoSuchElementException" ["java/lang/RuntimeException", "java/lang/Exception"]).filter goodWord
abbrev vwCl : List vw_C := [(RX0, TX0, 15), (RX1, TX1, 7), (RX2, TX2, 2), (RX3, TX3, 12), (RX4, TX4, 17)]
end
section
theorem dX0_init_0 : decode cX0_init 0 = .ok (.aload_n 0, 1) := by decide +kernel
theorem dX0_init_1 : decode cX0_init 1 = .ok (.invokespecial 3, 3) := by decide +kernel
theorem dX0_init_4 : decode cX0_init 4 = .ok (.aload_n 0, 1) := by decide +kernel
theorem dX0_init_5 : decode cX0_init 5 = .ok (.bipush 20, 2) := by decide +kernel
theorem dX0_init_7 : decode cX0_init 7 = .ok (.newarray .long, 2) := by decide +kernel
theorem dX0_init_9 : decode cX0_init 9 = .ok (.putfield 9, 3) := by decide +kernel
theorem dX0_init_12 : decode cX0_init 12 = .ok (.aload_n 0, 1) := by decide +kernel
theorem dX0_init_13 : decode cX0_init 13 = .ok (.bipush 30, 2) := by decide +kernel
theorem dX0_init_15 : decode cX0_init 15 = .ok (.newarray .int, 2) := by decide +kernel
theorem dX0_init_17 : decode cX0_init 17 = .ok (.putfield 15, 3) := by decide +kernel
theorem dX0_init_20 : decode cX0_init 20 = .ok (.aload_n 0, 1) := by decide +kernel
theorem dX0_init_21 : decode cX0_init 21 = .ok (.bipush 30, 2) := by decide +kernel
theorem dX0_init_23 : decode cX0_init 23 = .ok (.newarray .int, 2) := by decide +kernel
theorem dX0_init_25 : decode cX0_init 25 = .ok (.putfield 19, 3) := by decide +kernel
theorem dX0_init_28 : decode cX0_init 28 = .ok (.return_, 1) := by decide +kernel
set_option maxRecDepth 20000 in
theorem ggX0_begin_X0_clearMark : GoodIn wsX0_begin wsX0_clearMark := goodIn_r _ [13, 14, 15, 16, 17, 18, 19, 20, 21, 22, 23, 24, 25, 26, 27, 28, 29] (by decide +kernel) (by decide +kernel)
set_option maxRecDepth 20000 in
theorem gX0_begin_X0_clearMark : GoodIn wsX0_begin (wsV RX0 48 RX0 yX0_clearMark wsX0_clearMark) := goodIn_app (goodIn_of _ (by decide +kernel)) ggX0_begin_X0_clearMark
theorem dX0_begin_0 : decode cX0_begin 0 = .ok (.aload_n 0, 1) := by decide +kernel
theorem dX0_begin_1 : decode cX0_begin 1 = .ok (.iconst 0, 1) := by decide +kernel
theorem dX0_begin_2 : decode cX0_begin 2 = .ok (.putfield 22, 3) := by decide +kernel
theorem dX0_begin_5 : decode cX0_begin 5 = .ok (.aload_n 0, 1) := by decide +kernel
theorem dX0_begin_6 : decode cX0_begin 6 = .ok (.iload_n 1, 1) := by decide +kernel
theorem dX0_begin_7 : decode cX0_begin 7 = .ok (.putfield 26, 3) := by decide +kernel
theorem dX0_begin_10 : decode cX0_begin 10 = .ok (.aload_n 0, 1) := by decide +kernel
theorem dX0_begin_11 : decode cX0_begin 11 = .ok (.iconst 0, 1) := by decide +kernel
theorem dX0_begin_12 : decode cX0_begin 12 = .ok (.putfield 29, 3) := by decide +kernel
theorem dX0_begin_15 : decode cX0_begin 15 = .ok (.aload_n 0, 1) := by decide +kernel
theorem dX0_begin_16 : decode cX0_begin 16 = .ok (.iconst 0, 1) := by decide +kernel
theorem dX0_begin_17 : decode cX0_begin 17 = .ok (.putfield 32, 3) := by decide +kernel
theorem dX0_begin_20 : decode cX0_begin 20 = .ok (.aload_n 0, 1) := by decide +kernel
theorem dX0_begin_21 : decode cX0_begin 21 = .ok (.iconst 0, 1) := by decide +kernel
theorem dX0_begin_22 : decode cX0_begin 22 = .ok (.putfield 35, 3) := by decide +kernel
theorem dX0_begin_25 : decode cX0_begin 25 = .ok (.aload_n 0, 1) := by decide +kernel
theorem dX0_begin_26 : decode cX0_begin 26 = .ok (.iconst 0, 1) := by decide +kernel
theorem dX0_begin_27 : decode cX0_begin 27 = .ok (.putfield 38, 3) := by decide +kernel
theorem dX0_begin_30 : decode cX0_begin 30 = .ok (.aload_n 0, 1) := by decide +kernel
theorem dX0_begin_31 : decode cX0_begin 31 = .ok (.iconst 0, 1) := by decide +kernel
theorem dX0_begin_32 : decode cX0_begin 32 = .ok (.putfield 41, 3) := by decide +kernel
theorem dX0_begin_35 : decode cX0_begin 35 = .ok (.aload_n 0, 1) := by decide +kernel
theorem dX0_begin_36 : decode cX0_begin 36 = .ok (.iconst 0, 1) := by decide +kernel
theorem dX0_begin_37 : decode cX0_begin 37 = .ok (.putfield 44, 3) := by decide +kernel
theorem dX0_begin_40 : decode cX0_begin 40 = .ok (.iconst 0, 1) := by decide +kernel
theorem dX0_begin_41 : decode cX0_begin 41 = .ok (.istore_n 2, 1) := by decide +kernel
theorem dX0_begin_42 : decode cX0_begin 42 = .ok (.iload_n 2, 1) := by decide +kernel
theorem dX0_begin_43 : decode cX0_begin 43 = .ok (.iconst 4, 1) := by decide +kernel
theorem dX0_begin_44 : decode cX0_begin 44 = .ok (.if_icmp .ge 14, 3) := by decide +kernel
theorem dX0_begin_47 : decode cX0_begin 47 = .ok (.aload_n 0, 1) := by decide +kernel
theorem dX0_begin_48 : decode cX0_begin 48 = .ok (.iload_n 2, 1) := by decide +kernel
theorem dX0_begin_49 : decode cX0_begin 49 = .ok (.invokevirtual 48, 3) := by decide +kernel
theorem dX0_begin_52 : decode cX0_begin 52 = .ok (.iinc 2 1, 3) := by decide +kernel
theorem dX0_begin_55 : decode cX0_begin 55 = .ok (.goto (-13), 3) := by decide +kernel
theorem dX0_begin_58 : decode cX0_begin 58 = .ok (.return_, 1) := by decide +kernel
theorem dX0_copyFrom_0 : decode cX0_copyFrom 0 = .ok (.aload_n 0, 1) := by decide +kernel
theorem dX0_copyFrom_1 : decode cX0_copyFrom 1 = .ok (.aload_n 1, 1) := by decide +kernel
theorem dX0_copyFrom_2 : decode cX0_copyFrom 2 = .ok (.getfield 22, 3) := by decide +kernel
theorem dX0_copyFrom_5 : decode cX0_copyFrom 5 = .ok (.putfield 22, 3) := by decide +kernel
theorem dX0_copyFrom_8 : decode cX0_copyFrom 8 = .ok (.aload_n 0, 1) := by decide +kernel
theorem dX0_copyFrom_9 : decode cX0_copyFrom 9 = .ok (.aload_n 1, 1) := by decide +kernel
theorem dX0_copyFrom_10 : decode cX0_copyFrom 10 = .ok (.getfield 26, 3) := by decide +kernel
theorem dX0_copyFrom_13 : decode cX0_copyFrom 13 = .ok (.putfield 26, 3) := by decide +kernel
theorem dX0_copyFrom_16 : decode cX0_copyFrom 16 = .ok (.aload_n 0, 1) := by decide +kernel
theorem dX0_copyFrom_17 : decode cX0_copyFrom 17 = .ok (.aload_n 1, 1) := by decide +kernel
theorem dX0_copyFrom_18 : decode cX0_copyFrom 18 = .ok (.getfield 29, 3) := by decide +kernel
theorem dX0_copyFrom_21 : decode cX0_copyFrom 21 = .ok (.putfield 29, 3) := by decide +kernel
theorem dX0_copyFrom_24 : decode cX0_copyFrom 24 = .ok (.aload_n 0, 1) := by decide +kernel
theorem dX0_copyFrom_25 : decode cX0_copyFrom 25 = .ok (.aload_n 1, 1) := by decide +kernel
theorem dX0_copyFrom_26 : decode cX0_copyFrom 26 = .ok (.getfield 32, 3) := by decide +kernel
theorem dX0_copyFrom_29 : decode cX0_copyFrom 29 = .ok (.putfield 32, 3) := by decide +kernel
theorem dX0_copyFrom_32 : decode cX0_copyFrom 32 = .ok (.aload_n 0, 1) := by decide +kernel
theorem dX0_copyFrom_33 : decode cX0_copyFrom 33 = .ok (.aload_n 1, 1) := by decide +kernel
theorem dX0_copyFrom_34 : decode cX0_copyFrom 34 = .ok (.getfield 35, 3) := by decide +kernel
theorem dX0_copyFrom_37 : decode cX0_copyFrom 37 = .ok (.putfield 35, 3) := by decide +kernel
theorem dX0_copyFrom_40 : decode cX0_copyFrom 40 = .ok (.aload_n 0, 1) := by decide +kernel
theorem dX0_copyFrom_41 : decode cX0_copyFrom 41 = .ok (.aload_n 1, 1) := by decide +kernel
theorem dX0_copyFrom_42 : decode cX0_copyFrom 42 = .ok (.getfield 38, 3) := by decide +kernel
theorem dX0_copyFrom_45 : decode cX0_copyFrom 45 = .ok (.putfield 38, 3) := by decide +kernel
theorem dX0_copyFrom_48 : decode cX0_copyFrom 48 = .ok (.aload_n 0, 1) := by decide +kernel
theorem dX0_copyFrom_49 : decode cX0_copyFrom 49 = .ok (.aload_n 1, 1) := by decide +kernel
theorem dX0_copyFrom_50 : decode cX0_copyFrom 50 = .ok (.getfield 41, 3) := by decide +kernel
theorem dX0_copyFrom_53 : decode cX0_copyFrom 53 = .ok (.putfield 41, 3) := by decide +kernel
theorem dX0_copyFrom_56 : decode cX0_copyFrom 56 = .ok (.aload_n 0, 1) := by decide +kernel
theorem dX0_copyFrom_57 : decode cX0_copyFrom 57 = .ok (.aload_n 1, 1) := by decide +kernel
theorem dX0_copyFrom_58 : decode cX0_copyFrom 58 = .ok (.getfield 44, 3) := by decide +kernel
theorem dX0_copyFrom_61 : decode cX0_copyFrom 61 = .ok (.putfield 44, 3) := by decide +kernel
theorem dX0_copyFrom_64 : decode cX0_copyFrom 64 = .ok (.aload_n 0, 1) := by decide +kernel
theorem dX0_copyFrom_65 : decode cX0_copyFrom 65 = .ok (.aload_n 1, 1) := by decide +kernel
theorem dX0_copyFrom_66 : decode cX0_copyFrom 66 = .ok (.getfield 52, 3) := by decide +kernel
theorem dX0_copyFrom_69 : decode cX0_copyFrom 69 = .ok (.putfield 52, 3) := by decide +kernel
theorem dX0_copyFrom_72 : decode cX0_copyFrom 72 = .ok (.aload_n 0, 1) := by decide +kernel
theorem dX0_copyFrom_73 : decode cX0_copyFrom 73 = .ok (.aload_n 1, 1) := by decide +kernel
theorem dX0_copyFrom_74 : decode cX0_copyFrom 74 = .ok (.getfield 55, 3) := by decide +kernel
theorem dX0_copyFrom_77 : decode cX0_copyFrom 77 = .ok (.putfield 55, 3) := by decide +kernel
theorem dX0_copyFrom_80 : decode cX0_copyFrom 80 = .ok (.aload_n 0, 1) := by decide +kernel
theorem dX0_copyFrom_81 : decode cX0_copyFrom 81 = .ok (.aload_n 1, 1) := by decide +kernel
theorem dX0_copyFrom_82 : decode cX0_copyFrom 82 = .ok (.getfield 58, 3) := by decide +kernel
theorem dX0_copyFrom_85 : decode cX0_copyFrom 85 = .ok (.putfield 58, 3) := by decide +kernel
theorem dX0_copyFrom_88 : decode cX0_copyFrom 88 = .ok (.aload_n 0, 1) := by decide +kernel
theorem dX0_copyFrom_89 : decode cX0_copyFrom 89 = .ok (.aload_n 1, 1) := by decide +kernel
theorem dX0_copyFrom_90 : decode cX0_copyFrom 90 = .ok (.getfield 62, 3) := by decide +kernel
theorem dX0_copyFrom_93 : decode cX0_copyFrom 93 = .ok (.putfield 62, 3) := by decide +kernel
theorem dX0_copyFrom_96 : decode cX0_copyFrom 96 = .ok (.aload_n 1, 1) := by decide +kernel
theorem dX0_copyFrom_97 : decode cX0_copyFrom 97 = .ok (.getfield 9, 3) := by decide +kernel
theorem dX0_copyFrom_100 : decode cX0_copyFrom 100 = .ok (.iconst 0, 1) := by decide +kernel
theorem dX0_copyFrom_101 : decode cX0_copyFrom 101 = .ok (.aload_n 0, 1) := by decide +kernel
theorem dX0_copyFrom_102 : decode cX0_copyFrom 102 = .ok (.getfield 9, 3) := by decide +kernel
theorem dX0_copyFrom_105 : decode cX0_copyFrom 105 = .ok (.iconst 0, 1) := by decide +kernel
theorem dX0_copyFrom_106 : decode cX0_copyFrom 106 = .ok (.bipush 20, 2) := by decide +kernel
theorem dX0_copyFrom_108 : decode cX0_copyFrom 108 = .ok (.invokestatic 65, 3) := by decide +kernel
theorem dX0_copyFrom_111 : decode cX0_copyFrom 111 = .ok (.aload_n 1, 1) := by decide +kernel
theorem dX0_copyFrom_112 : decode cX0_copyFrom 112 = .ok (.getfield 15, 3) := by decide +kernel
theorem dX0_copyFrom_115 : decode cX0_copyFrom 115 = .ok (.iconst 0, 1) := by decide +kernel
theorem dX0_copyFrom_116 : decode cX0_copyFrom 116 = .ok (.aload_n 0, 1) := by decide +kernel
theorem dX0_copyFrom_117 : decode cX0_copyFrom 117 = .ok (.getfield 15, 3) := by decide +kernel
theorem dX0_copyFrom_120 : decode cX0_copyFrom 120 = .ok (.iconst 0, 1) := by decide +kernel
theorem dX0_copyFrom_121 : decode cX0_copyFrom 121 = .ok (.bipush 30, 2) := by decide +kernel
theorem dX0_copyFrom_123 : decode cX0_copyFrom 123 = .ok (.invokestatic 65, 3) := by decide +kernel
theorem dX0_copyFrom_126 : decode cX0_copyFrom 126 = .ok (.aload_n 1, 1) := by decide +kernel
theorem dX0_copyFrom_127 : decode cX0_copyFrom 127 = .ok (.getfield 19, 3) := by decide +kernel
theorem dX0_copyFrom_130 : decode cX0_copyFrom 130 = .ok (.iconst 0, 1) := by decide +kernel
theorem dX0_copyFrom_131 : decode cX0_copyFrom 131 = .ok (.aload_n 0, 1) := by decide +kernel
theorem dX0_copyFrom_132 : decode cX0_copyFrom 132 = .ok (.getfield 19, 3) := by decide +kernel
theorem dX0_copyFrom_135 : decode cX0_copyFrom 135 = .ok (.iconst 0, 1) := by decide +kernel
theorem dX0_copyFrom_136 : decode cX0_copyFrom 136 = .ok (.bipush 30, 2) := by decide +kernel
theorem dX0_copyFrom_138 : decode cX0_copyFrom 138 = .ok (.invokestatic 65, 3) := by decide +kernel
theorem dX0_copyFrom_141 : decode cX0_copyFrom 141 = .ok (.return_, 1) := by decide +kernel
theorem dX0_clearMark_0 : decode cX0_clearMark 0 = .ok (.iconst 0, 1) := by decide +kernel
theorem dX0_clearMark_1 : decode cX0_clearMark 1 = .ok (.istore_n 2, 1) := by decide +kernel
theorem dX0_clearMark_2 : decode cX0_clearMark 2 = .ok (.iload_n 2, 1) := by decide +kernel
theorem dX0_clearMark_3 : decode cX0_clearMark 3 = .ok (.iconst 5, 1) := by decide +kernel
theorem dX0_clearMark_4 : decode cX0_clearMark 4 = .ok (.if_icmp .ge 20, 3) := by decide +kernel
theorem dX0_clearMark_7 : decode cX0_clearMark 7 = .ok (.aload_n 0, 1) := by decide +kernel
theorem dX0_clearMark_8 : decode cX0_clearMark 8 = .ok (.getfield 9, 3) := by decide +kernel
theorem dX0_clearMark_11 : decode cX0_clearMark 11 = .ok (.iload_n 1, 1) := by decide +kernel
theorem dX0_clearMark_12 : decode cX0_clearMark 12 = .ok (.iconst 5, 1) := by decide +kernel
theorem dX0_clearMark_13 : decode cX0_clearMark 13 = .ok (.imul, 1) := by decide +kernel
theorem dX0_clearMark_14 : decode cX0_clearMark 14 = .ok (.iload_n 2, 1) := by decide +kernel
theorem dX0_clearMark_15 : decode cX0_clearMark 15 = .ok (.iadd, 1) := by decide +kernel
theorem dX0_clearMark_16 : decode cX0_clearMark 16 = .ok (.lconst 0, 1) := by decide +kernel
theorem dX0_clearMark_17 : decode cX0_clearMark 17 = .ok (.lastore, 1) := by decide +kernel
theorem dX0_clearMark_18 : decode cX0_clearMark 18 = .ok (.iinc 2 1, 3) := by decide +kernel
theorem dX0_clearMark_21 : decode cX0_clearMark 21 = .ok (.goto (-19), 3) := by decide +kernel
theorem dX0_clearMark_24 : decode cX0_clearMark 24 = .ok (.return_, 1) := by decide +kernel
theorem dX0_marked_0 : decode cX0_marked 0 = .ok (.aload_n 0, 1) := by decide +kernel
theorem dX0_marked_1 : decode cX0_marked 1 = .ok (.getfield 9, 3) := by decide +kernel
theorem dX0_marked_4 : decode cX0_marked 4 = .ok (.iload_n 1, 1) := by decide +kernel
theorem dX0_marked_5 : decode cX0_marked 5 = .ok (.iconst 5, 1) := by decide +kernel
theorem dX0_marked_6 : decode cX0_marked 6 = .ok (.imul, 1) := by decide +kernel
theorem dX0_marked_7 : decode cX0_marked 7 = .ok (.iload_n 2, 1) := by decide +kernel
theorem dX0_marked_8 : decode cX0_marked 8 = .ok (.iadd, 1) := by decide +kernel
theorem dX0_marked_9 : decode cX0_marked 9 = .ok (.laload, 1) := by decide +kernel
theorem dX0_marked_10 : decode cX0_marked 10 = .ok (.lreturn, 1) := by decide +kernel
theorem dX0_pass_0 : decode cX0_pass 0 = .ok (.iconst 0, 1) := by decide +kernel
theorem dX0_pass_1 : decode cX0_pass 1 = .ok (.istore 6, 2) := by decide +kernel
theorem dX0_pass_3 : decode cX0_pass 3 = .ok (.iload 6, 2) := by decide +kernel
theorem dX0_pass_5 : decode cX0_pass 5 = .ok (.iconst 4, 1) := by decide +kernel
theorem dX0_pass_6 : decode cX0_pass 6 = .ok (.if_icmp .ge 87, 3) := by decide +kernel
theorem dX0_pass_9 : decode cX0_pass 9 = .ok (.iload 6, 2) := by decide +kernel
theorem dX0_pass_11 : decode cX0_pass 11 = .ok (.iconst 5, 1) := by decide +kernel
theorem dX0_pass_12 : decode cX0_pass 12 = .ok (.imul, 1) := by decide +kernel
theorem dX0_pass_13 : decode cX0_pass 13 = .ok (.istore 7, 2) := by decide +kernel
theorem dX0_pass_15 : decode cX0_pass 15 = .ok (.aload_n 0, 1) := by decide +kernel
theorem dX0_pass_16 : decode cX0_pass 16 = .ok (.getfield 9, 3) := by decide +kernel
theorem dX0_pass_19 : decode cX0_pass 19 = .ok (.iload 7, 2) := by decide +kernel
theorem dX0_pass_21 : decode cX0_pass 21 = .ok (.iconst 0, 1) := by decide +kernel
theorem dX0_pass_22 : decode cX0_pass 22 = .ok (.iadd, 1) := by decide +kernel
theorem dX0_pass_23 : decode cX0_pass 23 = .ok (.dup2, 1) := by decide +kernel
theorem dX0_pass_24 : decode cX0_pass 24 = .ok (.laload, 1) := by decide +kernel
theorem dX0_pass_25 : decode cX0_pass 25 = .ok (.iload_n 1, 1) := by decide +kernel
theorem dX0_pass_26 : decode cX0_pass 26 = .ok (.i2l, 1) := by decide +kernel
theorem dX0_pass_27 : decode cX0_pass 27 = .ok (.ladd, 1) := by decide +kernel
theorem dX0_pass_28 : decode cX0_pass 28 = .ok (.lastore, 1) := by decide +kernel
theorem dX0_pass_29 : decode cX0_pass 29 = .ok (.aload_n 0, 1) := by decide +kernel
theorem dX0_pass_30 : decode cX0_pass 30 = .ok (.getfield 9, 3) := by decide +kernel
theorem dX0_pass_33 : decode cX0_pass 33 = .ok (.iload 7, 2) := by decide +kernel
theorem dX0_pass_35 : decode cX0_pass 35 = .ok (.iconst 1, 1) := by decide +kernel
theorem dX0_pass_36 : decode cX0_pass 36 = .ok (.iadd, 1) := by decide +kernel
theorem dX0_pass_37 : decode cX0_pass 37 = .ok (.dup2, 1) := by decide +kernel
theorem dX0_pass_38 : decode cX0_pass 38 = .ok (.laload, 1) := by decide +kernel
theorem dX0_pass_39 : decode cX0_pass 39 = .ok (.iload_n 2, 1) := by decide +kernel
theorem dX0_pass_40 : decode cX0_pass 40 = .ok (.i2l, 1) := by decide +kernel
theorem dX0_pass_41 : decode cX0_pass 41 = .ok (.ladd, 1) := by decide +kernel
theorem dX0_pass_42 : decode cX0_pass 42 = .ok (.lastore, 1) := by decide +kernel
theorem dX0_pass_43 : decode cX0_pass 43 = .ok (.aload_n 0, 1) := by decide +kernel
theorem dX0_pass_44 : decode cX0_pass 44 = .ok (.getfield 9, 3) := by decide +kernel
theorem dX0_pass_47 : decode cX0_pass 47 = .ok (.iload 7, 2) := by decide +kernel
theorem dX0_pass_49 : decode cX0_pass 49 = .ok (.iconst 2, 1) := by decide +kernel
theorem dX0_pass_50 : decode cX0_pass 50 = .ok (.iadd, 1) := by decide +kernel
theorem dX0_pass_51 : decode cX0_pass 51 = .ok (.dup2, 1) := by decide +kernel
theorem dX0_pass_52 : decode cX0_pass 52 = .ok (.laload, 1) := by decide +kernel
theorem dX0_pass_53 : decode cX0_pass 53 = .ok (.iload_n 3, 1) := by decide +kernel
theorem dX0_pass_54 : decode cX0_pass 54 = .ok (.i2l, 1) := by decide +kernel
theorem dX0_pass_55 : decode cX0_pass 55 = .ok (.ladd, 1) := by decide +kernel
theorem dX0_pass_56 : decode cX0_pass 56 = .ok (.lastore, 1) := by decide +kernel
theorem dX0_pass_57 : decode cX0_pass 57 = .ok (.aload_n 0, 1) := by decide +kernel
theorem dX0_pass_58 : decode cX0_pass 58 = .ok (.getfield 9, 3) := by decide +kernel
theorem dX0_pass_61 : decode cX0_pass 61 = .ok (.iload 7, 2) := by decide +kernel
theorem dX0_pass_63 : decode cX0_pass 63 = .ok (.iconst 3, 1) := by decide +kernel
theorem dX0_pass_64 : decode cX0_pass 64 = .ok (.iadd, 1) := by decide +kernel
theorem dX0_pass_65 : decode cX0_pass 65 = .ok (.dup2, 1) := by decide +kernel
theorem dX0_pass_66 : decode cX0_pass 66 = .ok (.laload, 1) := by decide +kernel
theorem dX0_pass_67 : decode cX0_pass 67 = .ok (.iload 4, 2) := by decide +kernel
theorem dX0_pass_69 : decode cX0_pass 69 = .ok (.i2l, 1) := by decide +kernel
theorem dX0_pass_70 : decode cX0_pass 70 = .ok (.ladd, 1) := by decide +kernel
theorem dX0_pass_71 : decode cX0_pass 71 = .ok (.lastore, 1) := by decide +kernel
theorem dX0_pass_72 : decode cX0_pass 72 = .ok (.aload_n 0, 1) := by decide +kernel
theorem dX0_pass_73 : decode cX0_pass 73 = .ok (.getfield 9, 3) := by decide +kernel
theorem dX0_pass_76 : decode cX0_pass 76 = .ok (.iload 7, 2) := by decide +kernel
theorem dX0_pass_78 : decode cX0_pass 78 = .ok (.iconst 4, 1) := by decide +kernel
theorem dX0_pass_79 : decode cX0_pass 79 = .ok (.iadd, 1) := by decide +kernel
theorem dX0_pass_80 : decode cX0_pass 80 = .ok (.dup2, 1) := by decide +kernel
theorem dX0_pass_81 : decode cX0_pass 81 = .ok (.laload, 1) := by decide +kernel
theorem dX0_pass_82 : decode cX0_pass 82 = .ok (.iload 5, 2) := by decide +kernel
theorem dX0_pass_84 : decode cX0_pass 84 = .ok (.i2l, 1) := by decide +kernel
theorem dX0_pass_85 : decode cX0_pass 85 = .ok (.ladd, 1) := by decide +kernel
theorem dX0_pass_86 : decode cX0_pass 86 = .ok (.lastore, 1) := by decide +kernel
theorem dX0_pass_87 : decode cX0_pass 87 = .ok (.iinc 6 1, 3) := by decide +kernel
theorem dX0_pass_90 : decode cX0_pass 90 = .ok (.goto (-87), 3) := by decide +kernel
theorem dX0_pass_93 : decode cX0_pass 93 = .ok (.aload_n 0, 1) := by decide +kernel
theorem dX0_pass_94 : decode cX0_pass 94 = .ok (.dup, 1) := by decide +kernel
theorem dX0_pass_95 : decode cX0_pass 95 = .ok (.getfield 58, 3) := by decide +kernel
theorem dX0_pass_98 : decode cX0_pass 98 = .ok (.iload_n 3, 1) := by decide +kernel
theorem dX0_pass_99 : decode cX0_pass 99 = .ok (.i2l, 1) := by decide +kernel
theorem dX0_pass_100 : decode cX0_pass 100 = .ok (.ladd, 1) := by decide +kernel
theorem dX0_pass_101 : decode cX0_pass 101 = .ok (.putfield 58, 3) := by decide +kernel
theorem dX0_pass_104 : decode cX0_pass 104 = .ok (.aload_n 0, 1) := by decide +kernel
theorem dX0_pass_105 : decode cX0_pass 105 = .ok (.dup, 1) := by decide +kernel
theorem dX0_pass_106 : decode cX0_pass 106 = .ok (.getfield 62, 3) := by decide +kernel
theorem dX0_pass_109 : decode cX0_pass 109 = .ok (.iload 4, 2) := by decide +kernel
theorem dX0_pass_111 : decode cX0_pass 111 = .ok (.i2l, 1) := by decide +kernel
theorem dX0_pass_112 : decode cX0_pass 112 = .ok (.ladd, 1) := by decide +kernel
theorem dX0_pass_113 : decode cX0_pass 113 = .ok (.putfield 62, 3) := by decide +kernel
theorem dX0_pass_116 : decode cX0_pass 116 = .ok (.return_, 1) := by decide +kernel
theorem dX0_burn_0 : decode cX0_burn 0 = .ok (.iload_n 1, 1) := by decide +kernel
theorem dX0_burn_1 : decode cX0_burn 1 = .ok (.aload_n 0, 1) := by decide +kernel
theorem dX0_burn_2 : decode cX0_burn 2 = .ok (.getfield 26, 3) := by decide +kernel
theorem dX0_burn_5 : decode cX0_burn 5 = .ok (.if_icmp .le 18, 3) := by decide +kernel
theorem dX0_burn_8 : decode cX0_burn 8 = .ok (.aload_n 0, 1) := by decide +kernel
theorem dX0_burn_9 : decode cX0_burn 9 = .ok (.dup, 1) := by decide +kernel
theorem dX0_burn_10 : decode cX0_burn 10 = .ok (.getfield 35, 3) := by decide +kernel
theorem dX0_burn_13 : decode cX0_burn 13 = .ok (.iconst 1, 1) := by decide +kernel
theorem dX0_burn_14 : decode cX0_burn 14 = .ok (.iadd, 1) := by decide +kernel
theorem dX0_burn_15 : decode cX0_burn 15 = .ok (.putfield 35, 3) := by decide +kernel
theorem dX0_burn_18 : decode cX0_burn 18 = .ok (.aload_n 0, 1) := by decide +kernel
theorem dX0_burn_19 : decode cX0_burn 19 = .ok (.iconst 0, 1) := by decide +kernel
theorem dX0_burn_20 : decode cX0_burn 20 = .ok (.putfield 44, 3) := by decide +kernel
theorem dX0_burn_23 : decode cX0_burn 23 = .ok (.aload_n 0, 1) := by decide +kernel
theorem dX0_burn_24 : decode cX0_burn 24 = .ok (.iconst 0, 1) := by decide +kernel
theorem dX0_burn_25 : decode cX0_burn 25 = .ok (.aload_n 0, 1) := by decide +kernel
theorem dX0_burn_26 : decode cX0_burn 26 = .ok (.getfield 22, 3) := by decide +kernel
theorem dX0_burn_29 : decode cX0_burn 29 = .ok (.iload_n 1, 1) := by decide +kernel
theorem dX0_burn_30 : decode cX0_burn 30 = .ok (.isub, 1) := by decide +kernel
theorem dX0_burn_31 : decode cX0_burn 31 = .ok (.invokestatic 71, 3) := by decide +kernel
theorem dX0_burn_34 : decode cX0_burn 34 = .ok (.putfield 22, 3) := by decide +kernel
theorem dX0_burn_37 : decode cX0_burn 37 = .ok (.aload_n 0, 1) := by decide +kernel
theorem dX0_burn_38 : decode cX0_burn 38 = .ok (.iconst 0, 1) := by decide +kernel
theorem dX0_burn_39 : decode cX0_burn 39 = .ok (.aload_n 0, 1) := by decide +kernel
theorem dX0_burn_40 : decode cX0_burn 40 = .ok (.getfield 26, 3) := by decide +kernel
theorem dX0_burn_43 : decode cX0_burn 43 = .ok (.iload_n 1, 1) := by decide +kernel
theorem dX0_burn_44 : decode cX0_burn 44 = .ok (.isub, 1) := by decide +kernel
theorem dX0_burn_45 : decode cX0_burn 45 = .ok (.invokestatic 71, 3) := by decide +kernel
theorem dX0_burn_48 : decode cX0_burn 48 = .ok (.putfield 26, 3) := by decide +kernel
theorem dX0_burn_51 : decode cX0_burn 51 = .ok (.return_, 1) := by decide +kernel
theorem dX0_doubt_0 : decode cX0_doubt 0 = .ok (.aload_n 0, 1) := by decide +kernel
theorem dX0_doubt_1 : decode cX0_doubt 1 = .ok (.iconst 0, 1) := by decide +kernel
theorem dX0_doubt_2 : decode cX0_doubt 2 = .ok (.aload_n 0, 1) := by decide +kernel
theorem dX0_doubt_3 : decode cX0_doubt 3 = .ok (.getfield 22, 3) := by decide +kernel
theorem dX0_doubt_6 : decode cX0_doubt 6 = .ok (.iload_n 1, 1) := by decide +kernel
theorem dX0_doubt_7 : decode cX0_doubt 7 = .ok (.isub, 1) := by decide +kernel
theorem dX0_doubt_8 : decode cX0_doubt 8 = .ok (.invokestatic 71, 3) := by decide +kernel
theorem dX0_doubt_11 : decode cX0_doubt 11 = .ok (.putfield 22, 3) := by decide +kernel
theorem dX0_doubt_14 : decode cX0_doubt 14 = .ok (.return_, 1) := by decide +kernel
set_option maxRecDepth 20000 in
theorem ggX0_narrow_X0_settle : GoodIn wsX0_narrow wsX0_settle := goodIn_r _ [14, 15, 16, 1, 17, 18, 6, 19, 20, 21, 22, 23, 4, 24, 25, 26, 27, 28, 42, 43, 44, 45, 46, 47, 48, 49, 50, 51, 52, 53, 54, 55, 56] (by decide +kernel) (by decide +kernel)
set_option maxRecDepth 20000 in
theorem gX0_narrow_X0_settle : GoodIn wsX0_narrow (wsV RX0 80 RX0 yX0_settle wsX0_settle) := goodIn_app (goodIn_of _ (by decide +kernel)) ggX0_narrow_X0_settle
set_option maxRecDepth 20000 in
theorem ggX0_narrow_X0_showStep : GoodIn wsX0_narrow wsX0_showStep := goodIn_r _ [32, 33, 34, 35, 36, 13, 37, 1, 6, 38, 39, 40, 41, 42, 43, 44, 45, 46, 47, 48, 49, 50, 51, 52, 53, 54, 55, 56] (by decide +kernel) (by decide +kernel)
set_option maxRecDepth 20000 in
theorem gX0_narrow_X0_showStep : GoodIn wsX0_narrow (wsV RX0 83 RX0 yX0_showStep wsX0_showStep) := goodIn_app (goodIn_of _ (by decide +kernel)) ggX0_narrow_X0_showStep
theorem dX0_narrow_0 : decode cX0_narrow 0 = .ok (.aload_n 0, 1) := by decide +kernel
theorem dX0_narrow_1 : decode cX0_narrow 1 = .ok (.aload_n 0, 1) := by decide +kernel
theorem dX0_narrow_2 : decode cX0_narrow 2 = .ok (.getfield 22, 3) := by decide +kernel
theorem dX0_narrow_5 : decode cX0_narrow 5 = .ok (.iload_n 1, 1) := by decide +kernel
theorem dX0_narrow_6 : decode cX0_narrow 6 = .ok (.invokestatic 71, 3) := by decide +kernel
theorem dX0_narrow_9 : decode cX0_narrow 9 = .ok (.putfield 22, 3) := by decide +kernel
theorem dX0_narrow_12 : decode cX0_narrow 12 = .ok (.aload_n 0, 1) := by decide +kernel
theorem dX0_narrow_13 : decode cX0_narrow 13 = .ok (.aload_n 0, 1) := by decide +kernel
theorem dX0_narrow_14 : decode cX0_narrow 14 = .ok (.getfield 26, 3) := by decide +kernel
theorem dX0_narrow_17 : decode cX0_narrow 17 = .ok (.iload_n 2, 1) := by decide +kernel
theorem dX0_narrow_18 : decode cX0_narrow 18 = .ok (.invokestatic 77, 3) := by decide +kernel
theorem dX0_narrow_21 : decode cX0_narrow 21 = .ok (.putfield 26, 3) := by decide +kernel
theorem dX0_narrow_24 : decode cX0_narrow 24 = .ok (.aload_n 0, 1) := by decide +kernel
theorem dX0_narrow_25 : decode cX0_narrow 25 = .ok (.invokevirtual 80, 3) := by decide +kernel
theorem dX0_narrow_28 : decode cX0_narrow 28 = .ok (.aload_n 0, 1) := by decide +kernel
theorem dX0_narrow_29 : decode cX0_narrow 29 = .ok (.invokevirtual 83, 3) := by decide +kernel
theorem dX0_narrow_32 : decode cX0_narrow 32 = .ok (.return_, 1) := by decide +kernel
theorem dX0_settle_0 : decode cX0_settle 0 = .ok (.aload_n 0, 1) := by decide +kernel
theorem dX0_settle_1 : decode cX0_settle 1 = .ok (.getfield 44, 3) := by decide +kernel
theorem dX0_settle_4 : decode cX0_settle 4 = .ok (.ifCond .eq 11, 3) := by decide +kernel
theorem dX0_settle_7 : decode cX0_settle 7 = .ok (.aload_n 0, 1) := by decide +kernel
theorem dX0_settle_8 : decode cX0_settle 8 = .ok (.getfield 29, 3) := by decide +kernel
theorem dX0_settle_11 : decode cX0_settle 11 = .ok (.iconst 1, 1) := by decide +kernel
theorem dX0_settle_12 : decode cX0_settle 12 = .ok (.if_icmp .ge 4, 3) := by decide +kernel
theorem dX0_settle_15 : decode cX0_settle 15 = .ok (.return_, 1) := by decide +kernel
theorem dX0_settle_16 : decode cX0_settle 16 = .ok (.aload_n 0, 1) := by decide +kernel
theorem dX0_settle_17 : decode cX0_settle 17 = .ok (.getfield 29, 3) := by decide +kernel
theorem dX0_settle_20 : decode cX0_settle 20 = .ok (.iconst 1, 1) := by decide +kernel
theorem dX0_settle_21 : decode cX0_settle 21 = .ok (.isub, 1) := by decide +kernel
theorem dX0_settle_22 : decode cX0_settle 22 = .ok (.bipush 30, 2) := by decide +kernel
theorem dX0_settle_24 : decode cX0_settle 24 = .ok (.irem, 1) := by decide +kernel
theorem dX0_settle_25 : decode cX0_settle 25 = .ok (.istore_n 1, 1) := by decide +kernel
theorem dX0_settle_26 : decode cX0_settle 26 = .ok (.aload_n 0, 1) := by decide +kernel
theorem dX0_settle_27 : decode cX0_settle 27 = .ok (.getfield 22, 3) := by decide +kernel
theorem dX0_settle_30 : decode cX0_settle 30 = .ok (.i2l, 1) := by decide +kernel
theorem dX0_settle_31 : decode cX0_settle 31 = .ok (.aload_n 0, 1) := by decide +kernel
theorem dX0_settle_32 : decode cX0_settle 32 = .ok (.getfield 58, 3) := by decide +kernel
theorem dX0_settle_35 : decode cX0_settle 35 = .ok (.ladd, 1) := by decide +kernel
theorem dX0_settle_36 : decode cX0_settle 36 = .ok (.aload_n 0, 1) := by decide +kernel
theorem dX0_settle_37 : decode cX0_settle 37 = .ok (.getfield 55, 3) := by decide +kernel
theorem dX0_settle_40 : decode cX0_settle 40 = .ok (.i2l, 1) := by decide +kernel
theorem dX0_settle_41 : decode cX0_settle 41 = .ok (.lsub, 1) := by decide +kernel
theorem dX0_settle_42 : decode cX0_settle 42 = .ok (.lstore_n 2, 1) := by decide +kernel
theorem dX0_settle_43 : decode cX0_settle 43 = .ok (.aload_n 0, 1) := by decide +kernel
theorem dX0_settle_44 : decode cX0_settle 44 = .ok (.getfield 26, 3) := by decide +kernel
theorem dX0_settle_47 : decode cX0_settle 47 = .ok (.i2l, 1) := by decide +kernel
theorem dX0_settle_48 : decode cX0_settle 48 = .ok (.aload_n 0, 1) := by decide +kernel
theorem dX0_settle_49 : decode cX0_settle 49 = .ok (.getfield 62, 3) := by decide +kernel
theorem dX0_settle_52 : decode cX0_settle 52 = .ok (.ladd, 1) := by decide +kernel
theorem dX0_settle_53 : decode cX0_settle 53 = .ok (.aload_n 0, 1) := by decide +kernel
theorem dX0_settle_54 : decode cX0_settle 54 = .ok (.getfield 52, 3) := by decide +kernel
theorem dX0_settle_57 : decode cX0_settle 57 = .ok (.i2l, 1) := by decide +kernel
theorem dX0_settle_58 : decode cX0_settle 58 = .ok (.lsub, 1) := by decide +kernel
theorem dX0_settle_59 : decode cX0_settle 59 = .ok (.lstore 4, 2) := by decide +kernel
theorem dX0_settle_61 : decode cX0_settle 61 = .ok (.aload_n 0, 1) := by decide +kernel
theorem dX0_settle_62 : decode cX0_settle 62 = .ok (.getfield 15, 3) := by decide +kernel
theorem dX0_settle_65 : decode cX0_settle 65 = .ok (.iload_n 1, 1) := by decide +kernel
theorem dX0_settle_66 : decode cX0_settle 66 = .ok (.aload_n 0, 1) := by decide +kernel
theorem dX0_settle_67 : decode cX0_settle 67 = .ok (.getfield 15, 3) := by decide +kernel
theorem dX0_settle_70 : decode cX0_settle 70 = .ok (.iload_n 1, 1) := by decide +kernel
theorem dX0_settle_71 : decode cX0_settle 71 = .ok (.iaload, 1) := by decide +kernel
theorem dX0_settle_72 : decode cX0_settle 72 = .ok (.i2l, 1) := by decide +kernel
theorem dX0_settle_73 : decode cX0_settle 73 = .ok (.lload_n 2, 1) := by decide +kernel
theorem dX0_settle_74 : decode cX0_settle 74 = .ok (.invokestatic 86, 3) := by decide +kernel
theorem dX0_settle_77 : decode cX0_settle 77 = .ok (.l2i, 1) := by decide +kernel
theorem dX0_settle_78 : decode cX0_settle 78 = .ok (.iastore, 1) := by decide +kernel
theorem dX0_settle_79 : decode cX0_settle 79 = .ok (.aload_n 0, 1) := by decide +kernel
theorem dX0_settle_80 : decode cX0_settle 80 = .ok (.getfield 19, 3) := by decide +kernel
theorem dX0_settle_83 : decode cX0_settle 83 = .ok (.iload_n 1, 1) := by decide +kernel
theorem dX0_settle_84 : decode cX0_settle 84 = .ok (.aload_n 0, 1) := by decide +kernel
theorem dX0_settle_85 : decode cX0_settle 85 = .ok (.getfield 19, 3) := by decide +kernel
theorem dX0_settle_88 : decode cX0_settle 88 = .ok (.iload_n 1, 1) := by decide +kernel
theorem dX0_settle_89 : decode cX0_settle 89 = .ok (.iaload, 1) := by decide +kernel
theorem dX0_settle_90 : decode cX0_settle 90 = .ok (.i2l, 1) := by decide +kernel
theorem dX0_settle_91 : decode cX0_settle 91 = .ok (.lload 4, 2) := by decide +kernel
theorem dX0_settle_93 : decode cX0_settle 93 = .ok (.invokestatic 89, 3) := by decide +kernel
theorem dX0_settle_96 : decode cX0_settle 96 = .ok (.l2i, 1) := by decide +kernel
theorem dX0_settle_97 : decode cX0_settle 97 = .ok (.iastore, 1) := by decide +kernel
theorem dX0_settle_98 : decode cX0_settle 98 = .ok (.return_, 1) := by decide +kernel
set_option maxRecDepth 20000 in
theorem ggX0_takeRefill_X0_clearMark : GoodIn wsX0_takeRefill wsX0_clearMark := goodIn_r _ [15, 16, 27, 28, 29, 30, 31, 32, 33, 34, 35, 36, 37, 38, 39, 40, 41] (by decide +kernel) (by decide +kernel)
set_option maxRecDepth 20000 in
theorem gX0_takeRefill_X0_clearMark : GoodIn wsX0_takeRefill (wsV RX0 48 RX0 yX0_clearMark wsX0_clearMark) := goodIn_app (goodIn_of _ (by decide +kernel)) ggX0_takeRefill_X0_clearMark
set_option maxRecDepth 20000 in
theorem ggX0_takeRefill_X0_takeFloat : GoodIn wsX0_takeRefill wsX0_takeFloat := goodIn_r _ [20, 5, 3, 21, 22, 23, 24, 25, 14, 26, 27, 28, 29, 30, 31, 32, 33, 34, 35, 36, 37, 38, 39, 40, 41] (by decide +kernel) (by decide +kernel)
set_option maxRecDepth 20000 in
theorem gX0_takeRefill_X0_takeFloat : GoodIn wsX0_takeRefill (wsV RX0 91 RX0 yX0_takeFloat wsX0_takeFloat) := goodIn_app (goodIn_of _ (by decide +kernel)) ggX0_takeRefill_X0_takeFloat
theorem dX0_takeRefill_0 : decode cX0_takeRefill 0 = .ok (.aload_n 0, 1) := by decide +kernel
theorem dX0_takeRefill_1 : decode cX0_takeRefill 1 = .ok (.getfield 29, 3) := by decide +kernel
theorem dX0_takeRefill_4 : decode cX0_takeRefill 4 = .ok (.bipush 30, 2) := by decide +kernel
theorem dX0_takeRefill_6 : decode cX0_takeRefill 6 = .ok (.irem, 1) := by decide +kernel
theorem dX0_takeRefill_7 : decode cX0_takeRefill 7 = .ok (.istore_n 3, 1) := by decide +kernel
theorem dX0_takeRefill_8 : decode cX0_takeRefill 8 = .ok (.aload_n 0, 1) := by decide +kernel
theorem dX0_takeRefill_9 : decode cX0_takeRefill 9 = .ok (.getfield 15, 3) := by decide +kernel
theorem dX0_takeRefill_12 : decode cX0_takeRefill 12 = .ok (.iload_n 3, 1) := by decide +kernel
theorem dX0_takeRefill_13 : decode cX0_takeRefill 13 = .ok (.iload_n 1, 1) := by decide +kernel
theorem dX0_takeRefill_14 : decode cX0_takeRefill 14 = .ok (.aload_n 0, 1) := by decide +kernel
theorem dX0_takeRefill_15 : decode cX0_takeRefill 15 = .ok (.getfield 26, 3) := by decide +kernel
theorem dX0_takeRefill_18 : decode cX0_takeRefill 18 = .ok (.isub, 1) := by decide +kernel
theorem dX0_takeRefill_19 : decode cX0_takeRefill 19 = .ok (.iastore, 1) := by decide +kernel
theorem dX0_takeRefill_20 : decode cX0_takeRefill 20 = .ok (.aload_n 0, 1) := by decide +kernel
theorem dX0_takeRefill_21 : decode cX0_takeRefill 21 = .ok (.getfield 19, 3) := by decide +kernel
theorem dX0_takeRefill_24 : decode cX0_takeRefill 24 = .ok (.iload_n 3, 1) := by decide +kernel
theorem dX0_takeRefill_25 : decode cX0_takeRefill 25 = .ok (.iload_n 2, 1) := by decide +kernel
theorem dX0_takeRefill_26 : decode cX0_takeRefill 26 = .ok (.aload_n 0, 1) := by decide +kernel
theorem dX0_takeRefill_27 : decode cX0_takeRefill 27 = .ok (.getfield 22, 3) := by decide +kernel
theorem dX0_takeRefill_30 : decode cX0_takeRefill 30 = .ok (.isub, 1) := by decide +kernel
theorem dX0_takeRefill_31 : decode cX0_takeRefill 31 = .ok (.iastore, 1) := by decide +kernel
theorem dX0_takeRefill_32 : decode cX0_takeRefill 32 = .ok (.aload_n 0, 1) := by decide +kernel
theorem dX0_takeRefill_33 : decode cX0_takeRefill 33 = .ok (.dup, 1) := by decide +kernel
theorem dX0_takeRefill_34 : decode cX0_takeRefill 34 = .ok (.getfield 29, 3) := by decide +kernel
theorem dX0_takeRefill_37 : decode cX0_takeRefill 37 = .ok (.iconst 1, 1) := by decide +kernel
theorem dX0_takeRefill_38 : decode cX0_takeRefill 38 = .ok (.iadd, 1) := by decide +kernel
theorem dX0_takeRefill_39 : decode cX0_takeRefill 39 = .ok (.putfield 29, 3) := by decide +kernel
theorem dX0_takeRefill_42 : decode cX0_takeRefill 42 = .ok (.aload_n 0, 1) := by decide +kernel
theorem dX0_takeRefill_43 : decode cX0_takeRefill 43 = .ok (.iconst 1, 1) := by decide +kernel
theorem dX0_takeRefill_44 : decode cX0_takeRefill 44 = .ok (.putfield 44, 3) := by decide +kernel
theorem dX0_takeRefill_47 : decode cX0_takeRefill 47 = .ok (.aload_n 0, 1) := by decide +kernel
theorem dX0_takeRefill_48 : decode cX0_takeRefill 48 = .ok (.aload_n 0, 1) := by decide +kernel
theorem dX0_takeRefill_49 : decode cX0_takeRefill 49 = .ok (.getfield 22, 3) := by decide +kernel
theorem dX0_takeRefill_52 : decode cX0_takeRefill 52 = .ok (.putfield 52, 3) := by decide +kernel
theorem dX0_takeRefill_55 : decode cX0_takeRefill 55 = .ok (.aload_n 0, 1) := by decide +kernel
theorem dX0_takeRefill_56 : decode cX0_takeRefill 56 = .ok (.aload_n 0, 1) := by decide +kernel
theorem dX0_takeRefill_57 : decode cX0_takeRefill 57 = .ok (.getfield 26, 3) := by decide +kernel
theorem dX0_takeRefill_60 : decode cX0_takeRefill 60 = .ok (.putfield 55, 3) := by decide +kernel
theorem dX0_takeRefill_63 : decode cX0_takeRefill 63 = .ok (.aload_n 0, 1) := by decide +kernel
theorem dX0_takeRefill_64 : decode cX0_takeRefill 64 = .ok (.lconst 0, 1) := by decide +kernel
theorem dX0_takeRefill_65 : decode cX0_takeRefill 65 = .ok (.putfield 58, 3) := by decide +kernel
theorem dX0_takeRefill_68 : decode cX0_takeRefill 68 = .ok (.aload_n 0, 1) := by decide +kernel
theorem dX0_takeRefill_69 : decode cX0_takeRefill 69 = .ok (.lconst 0, 1) := by decide +kernel
theorem dX0_takeRefill_70 : decode cX0_takeRefill 70 = .ok (.putfield 62, 3) := by decide +kernel
theorem dX0_takeRefill_73 : decode cX0_takeRefill 73 = .ok (.aload_n 0, 1) := by decide +kernel
theorem dX0_takeRefill_74 : decode cX0_takeRefill 74 = .ok (.iconst 3, 1) := by decide +kernel
theorem dX0_takeRefill_75 : decode cX0_takeRefill 75 = .ok (.invokevirtual 48, 3) := by decide +kernel
theorem dX0_takeRefill_78 : decode cX0_takeRefill 78 = .ok (.aload_n 0, 1) := by decide +kernel
theorem dX0_takeRefill_79 : decode cX0_takeRefill 79 = .ok (.iload_n 1, 1) := by decide +kernel
theorem dX0_takeRefill_80 : decode cX0_takeRefill 80 = .ok (.iload_n 2, 1) := by decide +kernel
theorem dX0_takeRefill_81 : decode cX0_takeRefill 81 = .ok (.invokevirtual 91, 3) := by decide +kernel
theorem dX0_takeRefill_84 : decode cX0_takeRefill 84 = .ok (.return_, 1) := by decide +kernel
set_option maxRecDepth 20000 in
theorem ggX0_takeLoss_X0_takeFloat : GoodIn wsX0_takeLoss wsX0_takeFloat := goodIn_r _ [7, 8, 9, 10, 11, 12, 13, 14, 6, 15, 16, 17, 18, 19, 20, 21, 22, 23, 24, 25, 26, 27, 28, 29, 30] (by decide +kernel) (by decide +kernel)
set_option maxRecDepth 20000 in
theorem gX0_takeLoss_X0_takeFloat : GoodIn wsX0_takeLoss (wsV RX0 91 RX0 yX0_takeFloat wsX0_takeFloat) := goodIn_app (goodIn_of _ (by decide +kernel)) ggX0_takeLoss_X0_takeFloat
theorem dX0_takeLoss_0 : decode cX0_takeLoss 0 = .ok (.aload_n 0, 1) := by decide +kernel
theorem dX0_takeLoss_1 : decode cX0_takeLoss 1 = .ok (.dup, 1) := by decide +kernel
theorem dX0_takeLoss_2 : decode cX0_takeLoss 2 = .ok (.getfield 32, 3) := by decide +kernel
theorem dX0_takeLoss_5 : decode cX0_takeLoss 5 = .ok (.iconst 1, 1) := by decide +kernel
theorem dX0_takeLoss_6 : decode cX0_takeLoss 6 = .ok (.iadd, 1) := by decide +kernel
theorem dX0_takeLoss_7 : decode cX0_takeLoss 7 = .ok (.putfield 32, 3) := by decide +kernel
theorem dX0_takeLoss_10 : decode cX0_takeLoss 10 = .ok (.aload_n 0, 1) := by decide +kernel
theorem dX0_takeLoss_11 : decode cX0_takeLoss 11 = .ok (.iconst 0, 1) := by decide +kernel
theorem dX0_takeLoss_12 : decode cX0_takeLoss 12 = .ok (.putfield 44, 3) := by decide +kernel
theorem dX0_takeLoss_15 : decode cX0_takeLoss 15 = .ok (.aload_n 0, 1) := by decide +kernel
theorem dX0_takeLoss_16 : decode cX0_takeLoss 16 = .ok (.iload_n 1, 1) := by decide +kernel
theorem dX0_takeLoss_17 : decode cX0_takeLoss 17 = .ok (.iload_n 2, 1) := by decide +kernel
theorem dX0_takeLoss_18 : decode cX0_takeLoss 18 = .ok (.invokevirtual 91, 3) := by decide +kernel
theorem dX0_takeLoss_21 : decode cX0_takeLoss 21 = .ok (.return_, 1) := by decide +kernel
set_option maxRecDepth 20000 in
theorem ggX0_takeFloat_X0_truth : GoodIn wsX0_takeFloat wsX0_truth := goodIn_r _ [9, 1, 2, 10, 11, 12, 13, 14, 15, 16, 17, 18, 19, 20, 21, 22, 23, 24] (by decide +kernel) (by decide +kernel)
set_option maxRecDepth 20000 in
theorem gX0_takeFloat_X0_truth : GoodIn wsX0_takeFloat (wsV RX0 95 RX0 yX0_truth wsX0_truth) := goodIn_app (goodIn_of _ (by decide +kernel)) ggX0_takeFloat_X0_truth
theorem dX0_takeFloat_0 : decode cX0_takeFloat 0 = .ok (.aload_n 0, 1) := by decide +kernel
theorem dX0_takeFloat_1 : decode cX0_takeFloat 1 = .ok (.iload_n 1, 1) := by decide +kernel
theorem dX0_takeFloat_2 : decode cX0_takeFloat 2 = .ok (.putfield 22, 3) := by decide +kernel
theorem dX0_takeFloat_5 : decode cX0_takeFloat 5 = .ok (.aload_n 0, 1) := by decide +kernel
theorem dX0_takeFloat_6 : decode cX0_takeFloat 6 = .ok (.iload_n 2, 1) := by decide +kernel
theorem dX0_takeFloat_7 : decode cX0_takeFloat 7 = .ok (.putfield 26, 3) := by decide +kernel
theorem dX0_takeFloat_10 : decode cX0_takeFloat 10 = .ok (.aload_n 0, 1) := by decide +kernel
theorem dX0_takeFloat_11 : decode cX0_takeFloat 11 = .ok (.getfield 41, 3) := by decide +kernel
theorem dX0_takeFloat_14 : decode cX0_takeFloat 14 = .ok (.aload_n 0, 1) := by decide +kernel
theorem dX0_takeFloat_15 : decode cX0_takeFloat 15 = .ok (.invokevirtual 95, 3) := by decide +kernel
theorem dX0_takeFloat_18 : decode cX0_takeFloat 18 = .ok (.if_icmp .eq 21, 3) := by decide +kernel
theorem dX0_takeFloat_21 : decode cX0_takeFloat 21 = .ok (.aload_n 0, 1) := by decide +kernel
theorem dX0_takeFloat_22 : decode cX0_takeFloat 22 = .ok (.dup, 1) := by decide +kernel
theorem dX0_takeFloat_23 : decode cX0_takeFloat 23 = .ok (.getfield 38, 3) := by decide +kernel
theorem dX0_takeFloat_26 : decode cX0_takeFloat 26 = .ok (.iconst 1, 1) := by decide +kernel
theorem dX0_takeFloat_27 : decode cX0_takeFloat 27 = .ok (.iadd, 1) := by decide +kernel
theorem dX0_takeFloat_28 : decode cX0_takeFloat 28 = .ok (.putfield 38, 3) := by decide +kernel
theorem dX0_takeFloat_31 : decode cX0_takeFloat 31 = .ok (.aload_n 0, 1) := by decide +kernel
theorem dX0_takeFloat_32 : decode cX0_takeFloat 32 = .ok (.aload_n 0, 1) := by decide +kernel
theorem dX0_takeFloat_33 : decode cX0_takeFloat 33 = .ok (.invokevirtual 95, 3) := by decide +kernel
theorem dX0_takeFloat_36 : decode cX0_takeFloat 36 = .ok (.putfield 41, 3) := by decide +kernel
theorem dX0_takeFloat_39 : decode cX0_takeFloat 39 = .ok (.return_, 1) := by decide +kernel
theorem dX0_truth_0 : decode cX0_truth 0 = .ok (.aload_n 0, 1) := by decide +kernel
theorem dX0_truth_1 : decode cX0_truth 1 = .ok (.getfield 22, 3) := by decide +kernel
theorem dX0_truth_4 : decode cX0_truth 4 = .ok (.aload_n 0, 1) := by decide +kernel
theorem dX0_truth_5 : decode cX0_truth 5 = .ok (.getfield 26, 3) := by decide +kernel
theorem dX0_truth_8 : decode cX0_truth 8 = .ok (.iadd, 1) := by decide +kernel
theorem dX0_truth_9 : decode cX0_truth 9 = .ok (.sipush 2000, 3) := by decide +kernel
theorem dX0_truth_12 : decode cX0_truth 12 = .ok (.idiv, 1) := by decide +kernel
theorem dX0_truth_13 : decode cX0_truth 13 = .ok (.ireturn, 1) := by decide +kernel
set_option maxRecDepth 20000 in
theorem ggX0_showStep_X0_truth : GoodIn wsX0_showStep wsX0_truth := goodIn_r _ [6, 7, 8, 13, 14, 15, 16, 17, 18, 19, 20, 21, 22, 23, 24, 25, 26, 27] (by decide +kernel) (by decide +kernel)
set_option maxRecDepth 20000 in
theorem gX0_showStep_X0_truth : GoodIn wsX0_showStep (wsV RX0 95 RX0 yX0_truth wsX0_truth) := goodIn_app (goodIn_of _ (by decide +kernel)) ggX0_showStep_X0_truth
set_option maxRecDepth 20000 in
theorem ggX0_showStep_J6_compare_7cf53 : GoodIn wsX0_showStep wsJ6_compare_7cf53 := goodIn_r _ [12] (by decide +kernel) (by decide +kernel)
set_option maxRecDepth 20000 in
theorem gX0_showStep_J6_compare_7cf53 : GoodIn wsX0_showStep (va_wsS RX0 99 yJ6_compare_7cf53 wsJ6_compare_7cf53) := goodIn_app (goodIn_of _ (by decide +kernel)) ggX0_showStep_J6_compare_7cf53
theorem dX0_showStep_0 : decode cX0_showStep 0 = .ok (.aload_n 0, 1) := by decide +kernel
theorem dX0_showStep_1 : decode cX0_showStep 1 = .ok (.dup, 1) := by decide +kernel
theorem dX0_showStep_2 : decode cX0_showStep 2 = .ok (.getfield 41, 3) := by decide +kernel
theorem dX0_showStep_5 : decode cX0_showStep 5 = .ok (.aload_n 0, 1) := by decide +kernel
theorem dX0_showStep_6 : decode cX0_showStep 6 = .ok (.invokevirtual 95, 3) := by decide +kernel
theorem dX0_showStep_9 : decode cX0_showStep 9 = .ok (.aload_n 0, 1) := by decide +kernel
theorem dX0_showStep_10 : decode cX0_showStep 10 = .ok (.getfield 41, 3) := by decide +kernel
theorem dX0_showStep_13 : decode cX0_showStep 13 = .ok (.invokestatic 99, 3) := by decide +kernel
theorem dX0_showStep_16 : decode cX0_showStep 16 = .ok (.iadd, 1) := by decide +kernel
theorem dX0_showStep_17 : decode cX0_showStep 17 = .ok (.putfield 41, 3) := by decide +kernel
theorem dX0_showStep_20 : decode cX0_showStep 20 = .ok (.return_, 1) := by decide +kernel
theorem dX0_tellsRefill_0 : decode cX0_tellsRefill 0 = .ok (.iload_n 1, 1) := by decide +kernel
theorem dX0_tellsRefill_1 : decode cX0_tellsRefill 1 = .ok (.ifCond .lt 26, 3) := by decide +kernel
theorem dX0_tellsRefill_4 : decode cX0_tellsRefill 4 = .ok (.iload_n 1, 1) := by decide +kernel
theorem dX0_tellsRefill_5 : decode cX0_tellsRefill 5 = .ok (.aload_n 0, 1) := by decide +kernel
theorem dX0_tellsRefill_6 : decode cX0_tellsRefill 6 = .ok (.getfield 29, 3) := by decide +kernel
theorem dX0_tellsRefill_9 : decode cX0_tellsRefill 9 = .ok (.if_icmp .ge 18, 3) := by decide +kernel
theorem dX0_tellsRefill_12 : decode cX0_tellsRefill 12 = .ok (.iload_n 1, 1) := by decide +kernel
theorem dX0_tellsRefill_13 : decode cX0_tellsRefill 13 = .ok (.aload_n 0, 1) := by decide +kernel
theorem dX0_tellsRefill_14 : decode cX0_tellsRefill 14 = .ok (.getfield 29, 3) := by decide +kernel
theorem dX0_tellsRefill_17 : decode cX0_tellsRefill 17 = .ok (.bipush 30, 2) := by decide +kernel
theorem dX0_tellsRefill_19 : decode cX0_tellsRefill 19 = .ok (.isub, 1) := by decide +kernel
theorem dX0_tellsRefill_20 : decode cX0_tellsRefill 20 = .ok (.if_icmp .lt 7, 3) := by decide +kernel
theorem dX0_tellsRefill_23 : decode cX0_tellsRefill 23 = .ok (.iconst 1, 1) := by decide +kernel
theorem dX0_tellsRefill_24 : decode cX0_tellsRefill 24 = .ok (.goto 4, 3) := by decide +kernel
theorem dX0_tellsRefill_27 : decode cX0_tellsRefill 27 = .ok (.iconst 0, 1) := by decide +kernel
theorem dX0_tellsRefill_28 : decode cX0_tellsRefill 28 = .ok (.ireturn, 1) := by decide +kernel
theorem dX0_amount_0 : decode cX0_amount 0 = .ok (.iload_n 1, 1) := by decide +kernel
theorem dX0_amount_1 : decode cX0_amount 1 = .ok (.bipush 30, 2) := by decide +kernel
theorem dX0_amount_3 : decode cX0_amount 3 = .ok (.irem, 1) := by decide +kernel
theorem dX0_amount_4 : decode cX0_amount 4 = .ok (.istore_n 3, 1) := by decide +kernel
theorem dX0_amount_5 : decode cX0_amount 5 = .ok (.iload_n 2, 1) := by decide +kernel
theorem dX0_amount_6 : decode cX0_amount 6 = .ok (.ifCond .eq 12, 3) := by decide +kernel
theorem dX0_amount_9 : decode cX0_amount 9 = .ok (.aload_n 0, 1) := by decide +kernel
theorem dX0_amount_10 : decode cX0_amount 10 = .ok (.getfield 19, 3) := by decide +kernel
theorem dX0_amount_13 : decode cX0_amount 13 = .ok (.iload_n 3, 1) := by decide +kernel
theorem dX0_amount_14 : decode cX0_amount 14 = .ok (.iaload, 1) := by decide +kernel
theorem dX0_amount_15 : decode cX0_amount 15 = .ok (.goto 9, 3) := by decide +kernel
theorem dX0_amount_18 : decode cX0_amount 18 = .ok (.aload_n 0, 1) := by decide +kernel
theorem dX0_amount_19 : decode cX0_amount 19 = .ok (.getfield 15, 3) := by decide +kernel
theorem dX0_amount_22 : decode cX0_amount 22 = .ok (.iload_n 3, 1) := by decide +kernel
theorem dX0_amount_23 : decode cX0_amount 23 = .ok (.iaload, 1) := by decide +kernel
theorem dX0_amount_24 : decode cX0_amount 24 = .ok (.ireturn, 1) := by decide +kernel
theorem dX1_init_0 : decode cX1_init 0 = .ok (.aload_n 0, 1) := by decide +kernel
theorem dX1_init_1 : decode cX1_init 1 = .ok (.invokespecial 3, 3) := by decide +kernel
theorem dX1_init_4 : decode cX1_init 4 = .ok (.aload_n 0, 1) := by decide +kernel
theorem dX1_init_5 : decode cX1_init 5 = .ok (.bipush 13, 2) := by decide +kernel
theorem dX1_init_7 : decode cX1_init 7 = .ok (.newarray .int, 2) := by decide +kernel
theorem dX1_init_9 : decode cX1_init 9 = .ok (.putfield 11, 3) := by decide +kernel
theorem dX1_init_12 : decode cX1_init 12 = .ok (.aload_n 0, 1) := by decide +kernel
theorem dX1_init_13 : decode cX1_init 13 = .ok (.bipush 12, 2) := by decide +kernel
theorem dX1_init_15 : decode cX1_init 15 = .ok (.newarray .int, 2) := by decide +kernel
theorem dX1_init_17 : decode cX1_init 17 = .ok (.putfield 15, 3) := by decide +kernel
theorem dX1_init_20 : decode cX1_init 20 = .ok (.aload_n 0, 1) := by decide +kernel
theorem dX1_init_21 : decode cX1_init 21 = .ok (.bipush 121, 2) := by decide +kernel
theorem dX1_init_23 : decode cX1_init 23 = .ok (.newarray .int, 2) := by decide +kernel
theorem dX1_init_25 : decode cX1_init 25 = .ok (.putfield 18, 3) := by decide +kernel
theorem dX1_init_28 : decode cX1_init 28 = .ok (.aload_n 0, 1) := by decide +kernel
theorem dX1_init_29 : decode cX1_init 29 = .ok (.sipush 1452, 3) := by decide +kernel
theorem dX1_init_32 : decode cX1_init 32 = .ok (.newarray .int, 2) := by decide +kernel
theorem dX1_init_34 : decode cX1_init 34 = .ok (.putfield 21, 3) := by decide +kernel
theorem dX1_init_37 : decode cX1_init 37 = .ok (.aload_n 0, 1) := by decide +kernel
theorem dX1_init_38 : decode cX1_init 38 = .ok (.bipush 12, 2) := by decide +kernel
theorem dX1_init_40 : decode cX1_init 40 = .ok (.newarray .int, 2) := by decide +kernel
theorem dX1_init_42 : decode cX1_init 42 = .ok (.putfield 24, 3) := by decide +kernel
theorem dX1_init_45 : decode cX1_init 45 = .ok (.aload_n 0, 1) := by decide +kernel
theorem dX1_init_46 : decode cX1_init 46 = .ok (.iconst 0, 1) := by decide +kernel
theorem dX1_init_47 : decode cX1_init 47 = .ok (.putfield 27, 3) := by decide +kernel
theorem dX1_init_50 : decode cX1_init 50 = .ok (.aload_n 0, 1) := by decide +kernel
theorem dX1_init_51 : decode cX1_init 51 = .ok (.iconst 0, 1) := by decide +kernel
theorem dX1_init_52 : decode cX1_init 52 = .ok (.putfield 31, 3) := by decide +kernel
theorem dX1_init_55 : decode cX1_init 55 = .ok (.return_, 1) := by decide +kernel
theorem dX1_read_0 : decode cX1_read 0 = .ok (.aload_n 1, 1) := by decide +kernel
theorem dX1_read_1 : decode cX1_read 1 = .ok (.getfield 34, 3) := by decide +kernel
theorem dX1_read_4 : decode cX1_read 4 = .ok (.iconst 2, 1) := by decide +kernel
theorem dX1_read_5 : decode cX1_read 5 = .ok (.irem, 1) := by decide +kernel
theorem dX1_read_6 : decode cX1_read 6 = .ok (.ifCond .eq 12, 3) := by decide +kernel
theorem dX1_read_9 : decode cX1_read 9 = .ok (.aload_n 1, 1) := by decide +kernel
theorem dX1_read_10 : decode cX1_read 10 = .ok (.getfield 34, 3) := by decide +kernel
theorem dX1_read_13 : decode cX1_read 13 = .ok (.bipush 25, 2) := by decide +kernel
theorem dX1_read_15 : decode cX1_read 15 = .ok (.if_icmp .le 5, 3) := by decide +kernel
theorem dX1_read_18 : decode cX1_read 18 = .ok (.iconst 0, 1) := by decide +kernel
theorem dX1_read_19 : decode cX1_read 19 = .ok (.ireturn, 1) := by decide +kernel
theorem dX1_read_20 : decode cX1_read 20 = .ok (.iconst 0, 1) := by decide +kernel
theorem dX1_read_21 : decode cX1_read 21 = .ok (.istore_n 3, 1) := by decide +kernel
theorem dX1_read_22 : decode cX1_read 22 = .ok (.iload_n 3, 1) := by decide +kernel
theorem dX1_read_23 : decode cX1_read 23 = .ok (.aload_n 1, 1) := by decide +kernel
theorem dX1_read_24 : decode cX1_read 24 = .ok (.getfield 34, 3) := by decide +kernel
theorem dX1_read_27 : decode cX1_read 27 = .ok (.if_icmp .ge 20, 3) := by decide +kernel
theorem dX1_read_30 : decode cX1_read 30 = .ok (.aload_n 1, 1) := by decide +kernel
theorem dX1_read_31 : decode cX1_read 31 = .ok (.getfield 39, 3) := by decide +kernel
theorem dX1_read_34 : decode cX1_read 34 = .ok (.iload_n 3, 1) := by decide +kernel
theorem dX1_read_35 : decode cX1_read 35 = .ok (.iaload, 1) := by decide +kernel
theorem dX1_read_36 : decode cX1_read 36 = .ok (.ifCond .ne 5, 3) := by decide +kernel
theorem dX1_read_39 : decode cX1_read 39 = .ok (.iconst 0, 1) := by decide +kernel
theorem dX1_read_40 : decode cX1_read 40 = .ok (.ireturn, 1) := by decide +kernel
theorem dX1_read_41 : decode cX1_read 41 = .ok (.iinc 3 1, 3) := by decide +kernel
theorem dX1_read_44 : decode cX1_read 44 = .ok (.goto (-22), 3) := by decide +kernel
theorem dX1_read_47 : decode cX1_read 47 = .ok (.aload_n 0, 1) := by decide +kernel
theorem dX1_read_48 : decode cX1_read 48 = .ok (.aload_n 1, 1) := by decide +kernel
theorem dX1_read_49 : decode cX1_read 49 = .ok (.getfield 34, 3) := by decide +kernel
theorem dX1_read_52 : decode cX1_read 52 = .ok (.iconst 2, 1) := by decide +kernel
theorem dX1_read_53 : decode cX1_read 53 = .ok (.idiv, 1) := by decide +kernel
theorem dX1_read_54 : decode cX1_read 54 = .ok (.putfield 27, 3) := by decide +kernel
theorem dX1_read_57 : decode cX1_read 57 = .ok (.iconst 0, 1) := by decide +kernel
theorem dX1_read_58 : decode cX1_read 58 = .ok (.istore_n 3, 1) := by decide +kernel
theorem dX1_read_59 : decode cX1_read 59 = .ok (.iload_n 3, 1) := by decide +kernel
theorem dX1_read_60 : decode cX1_read 60 = .ok (.aload_n 0, 1) := by decide +kernel
theorem dX1_read_61 : decode cX1_read 61 = .ok (.getfield 27, 3) := by decide +kernel
theorem dX1_read_64 : decode cX1_read 64 = .ok (.if_icmp .gt 33, 3) := by decide +kernel
theorem dX1_read_67 : decode cX1_read 67 = .ok (.aload_n 0, 1) := by decide +kernel
theorem dX1_read_68 : decode cX1_read 68 = .ok (.getfield 11, 3) := by decide +kernel
theorem dX1_read_71 : decode cX1_read 71 = .ok (.iload_n 3, 1) := by decide +kernel
theorem dX1_read_72 : decode cX1_read 72 = .ok (.aload_n 1, 1) := by decide +kernel
theorem dX1_read_73 : decode cX1_read 73 = .ok (.getfield 39, 3) := by decide +kernel
theorem dX1_read_76 : decode cX1_read 76 = .ok (.iconst 2, 1) := by decide +kernel
theorem dX1_read_77 : decode cX1_read 77 = .ok (.iload_n 3, 1) := by decide +kernel
theorem dX1_read_78 : decode cX1_read 78 = .ok (.imul, 1) := by decide +kernel
theorem dX1_read_79 : decode cX1_read 79 = .ok (.iaload, 1) := by decide +kernel
theorem dX1_read_80 : decode cX1_read 80 = .ok (.iload_n 2, 1) := by decide +kernel
end
section
theorem dX1_read_81 : decode cX1_read 81 = .ok (.imul, 1) := by decide +kernel
theorem dX1_read_82 : decode cX1_read 82 = .ok (.sipush 999, 3) := by decide +kernel
theorem dX1_read_85 : decode cX1_read 85 = .ok (.iadd, 1) := by decide +kernel
theorem dX1_read_86 : decode cX1_read 86 = .ok (.sipush 1000, 3) := by decide +kernel
theorem dX1_read_89 : decode cX1_read 89 = .ok (.idiv, 1) := by decide +kernel
theorem dX1_read_90 : decode cX1_read 90 = .ok (.iastore, 1) := by decide +kernel
theorem dX1_read_91 : decode cX1_read 91 = .ok (.iinc 3 1, 3) := by decide +kernel
theorem dX1_read_94 : decode cX1_read 94 = .ok (.goto (-35), 3) := by decide +kernel
theorem dX1_read_97 : decode cX1_read 97 = .ok (.iconst 0, 1) := by decide +kernel
theorem dX1_read_98 : decode cX1_read 98 = .ok (.istore_n 3, 1) := by decide +kernel
theorem dX1_read_99 : decode cX1_read 99 = .ok (.iload_n 3, 1) := by decide +kernel
theorem dX1_read_100 : decode cX1_read 100 = .ok (.aload_n 0, 1) := by decide +kernel
theorem dX1_read_101 : decode cX1_read 101 = .ok (.getfield 27, 3) := by decide +kernel
theorem dX1_read_104 : decode cX1_read 104 = .ok (.if_icmp .ge 25, 3) := by decide +kernel
theorem dX1_read_107 : decode cX1_read 107 = .ok (.aload_n 0, 1) := by decide +kernel
theorem dX1_read_108 : decode cX1_read 108 = .ok (.getfield 15, 3) := by decide +kernel
theorem dX1_read_111 : decode cX1_read 111 = .ok (.iload_n 3, 1) := by decide +kernel
theorem dX1_read_112 : decode cX1_read 112 = .ok (.aload_n 1, 1) := by decide +kernel
theorem dX1_read_113 : decode cX1_read 113 = .ok (.getfield 39, 3) := by decide +kernel
theorem dX1_read_116 : decode cX1_read 116 = .ok (.iconst 2, 1) := by decide +kernel
theorem dX1_read_117 : decode cX1_read 117 = .ok (.iload_n 3, 1) := by decide +kernel
theorem dX1_read_118 : decode cX1_read 118 = .ok (.imul, 1) := by decide +kernel
theorem dX1_read_119 : decode cX1_read 119 = .ok (.iconst 1, 1) := by decide +kernel
theorem dX1_read_120 : decode cX1_read 120 = .ok (.iadd, 1) := by decide +kernel
theorem dX1_read_121 : decode cX1_read 121 = .ok (.iaload, 1) := by decide +kernel
theorem dX1_read_122 : decode cX1_read 122 = .ok (.iastore, 1) := by decide +kernel
theorem dX1_read_123 : decode cX1_read 123 = .ok (.iinc 3 1, 3) := by decide +kernel
theorem dX1_read_126 : decode cX1_read 126 = .ok (.goto (-27), 3) := by decide +kernel
theorem dX1_read_129 : decode cX1_read 129 = .ok (.iconst 1, 1) := by decide +kernel
theorem dX1_read_130 : decode cX1_read 130 = .ok (.ireturn, 1) := by decide +kernel
set_option maxRecDepth 20000 in
theorem ggX1_reckon_X1_reckonBackwards : GoodIn wsX1_reckon wsX1_reckonBackwards := goodIn_r _ [12, 6, 13, 14, 15, 16, 11, 17, 5, 18, 7, 19, 26, 27, 28, 29, 30, 31, 32] (by decide +kernel) (by decide +kernel)
set_option maxRecDepth 20000 in
theorem gX1_reckon_X1_reckonBackwards : GoodIn wsX1_reckon (wsV RX1 48 RX1 yX1_reckonBackwards wsX1_reckonBackwards) := goodIn_app (goodIn_of _ (by decide +kernel)) ggX1_reckon_X1_reckonBackwards
set_option maxRecDepth 20000 in
theorem ggX1_reckon_X1_buyForwards : GoodIn wsX1_reckon wsX1_buyForwards := goodIn_r _ [23, 13, 19, 24, 5, 25, 26, 27, 28, 29, 30, 31, 32] (by decide +kernel) (by decide +kernel)
set_option maxRecDepth 20000 in
theorem gX1_reckon_X1_buyForwards : GoodIn wsX1_reckon (wsV RX1 53 RX1 yX1_buyForwards wsX1_buyForwards) := goodIn_app (goodIn_of _ (by decide +kernel)) ggX1_reckon_X1_buyForwards
theorem dX1_reckon_0 : decode cX1_reckon 0 = .ok (.iload_n 2, 1) := by decide +kernel
theorem dX1_reckon_1 : decode cX1_reckon 1 = .ok (.bipush 120, 2) := by decide +kernel
theorem dX1_reckon_3 : decode cX1_reckon 3 = .ok (.invokestatic 42, 3) := by decide +kernel
theorem dX1_reckon_6 : decode cX1_reckon 6 = .ok (.istore_n 3, 1) := by decide +kernel
theorem dX1_reckon_7 : decode cX1_reckon 7 = .ok (.iload_n 1, 1) := by decide +kernel
theorem dX1_reckon_8 : decode cX1_reckon 8 = .ok (.iload_n 3, 1) := by decide +kernel
theorem dX1_reckon_9 : decode cX1_reckon 9 = .ok (.invokestatic 42, 3) := by decide +kernel
theorem dX1_reckon_12 : decode cX1_reckon 12 = .ok (.aload_n 0, 1) := by decide +kernel
theorem dX1_reckon_13 : decode cX1_reckon 13 = .ok (.getfield 11, 3) := by decide +kernel
theorem dX1_reckon_16 : decode cX1_reckon 16 = .ok (.iconst 0, 1) := by decide +kernel
theorem dX1_reckon_17 : decode cX1_reckon 17 = .ok (.iaload, 1) := by decide +kernel
theorem dX1_reckon_18 : decode cX1_reckon 18 = .ok (.isub, 1) := by decide +kernel
theorem dX1_reckon_19 : decode cX1_reckon 19 = .ok (.istore 4, 2) := by decide +kernel
theorem dX1_reckon_21 : decode cX1_reckon 21 = .ok (.iload 4, 2) := by decide +kernel
theorem dX1_reckon_23 : decode cX1_reckon 23 = .ok (.ifCond .ge 5, 3) := by decide +kernel
theorem dX1_reckon_26 : decode cX1_reckon 26 = .ok (.iconst (-1), 1) := by decide +kernel
theorem dX1_reckon_27 : decode cX1_reckon 27 = .ok (.ireturn, 1) := by decide +kernel
theorem dX1_reckon_28 : decode cX1_reckon 28 = .ok (.aload_n 0, 1) := by decide +kernel
theorem dX1_reckon_29 : decode cX1_reckon 29 = .ok (.iload_n 3, 1) := by decide +kernel
theorem dX1_reckon_30 : decode cX1_reckon 30 = .ok (.invokevirtual 48, 3) := by decide +kernel
theorem dX1_reckon_33 : decode cX1_reckon 33 = .ok (.aload_n 0, 1) := by decide +kernel
theorem dX1_reckon_34 : decode cX1_reckon 34 = .ok (.getfield 18, 3) := by decide +kernel
theorem dX1_reckon_37 : decode cX1_reckon 37 = .ok (.iload 4, 2) := by decide +kernel
theorem dX1_reckon_39 : decode cX1_reckon 39 = .ok (.iaload, 1) := by decide +kernel
theorem dX1_reckon_40 : decode cX1_reckon 40 = .ok (.istore 5, 2) := by decide +kernel
theorem dX1_reckon_42 : decode cX1_reckon 42 = .ok (.iload 5, 2) := by decide +kernel
theorem dX1_reckon_44 : decode cX1_reckon 44 = .ok (.ldc 52, 2) := by decide +kernel
theorem dX1_reckon_46 : decode cX1_reckon 46 = .ok (.if_icmp .lt 5, 3) := by decide +kernel
theorem dX1_reckon_49 : decode cX1_reckon 49 = .ok (.iconst (-1), 1) := by decide +kernel
theorem dX1_reckon_50 : decode cX1_reckon 50 = .ok (.ireturn, 1) := by decide +kernel
theorem dX1_reckon_51 : decode cX1_reckon 51 = .ok (.aload_n 0, 1) := by decide +kernel
theorem dX1_reckon_52 : decode cX1_reckon 52 = .ok (.iload 4, 2) := by decide +kernel
theorem dX1_reckon_54 : decode cX1_reckon 54 = .ok (.invokevirtual 53, 3) := by decide +kernel
theorem dX1_reckon_57 : decode cX1_reckon 57 = .ok (.iload 5, 2) := by decide +kernel
theorem dX1_reckon_59 : decode cX1_reckon 59 = .ok (.ireturn, 1) := by decide +kernel
set_option maxRecDepth 20000 in
theorem ggX1_reckonBackwards_X1_reckonStation : GoodIn wsX1_reckonBackwards wsX1_reckonStation := goodIn_r _ [7, 8, 9, 10, 1, 11, 12, 13, 14, 15, 16, 17, 18] (by decide +kernel) (by decide +kernel)
set_option maxRecDepth 20000 in
theorem gX1_reckonBackwards_X1_reckonStation : GoodIn wsX1_reckonBackwards (wsV RX1 56 RX1 yX1_reckonStation wsX1_reckonStation) := goodIn_app (goodIn_of _ (by decide +kernel)) ggX1_reckonBackwards_X1_reckonStation
theorem dX1_reckonBackwards_0 : decode cX1_reckonBackwards 0 = .ok (.iconst 0, 1) := by decide +kernel
theorem dX1_reckonBackwards_1 : decode cX1_reckonBackwards 1 = .ok (.istore_n 2, 1) := by decide +kernel
theorem dX1_reckonBackwards_2 : decode cX1_reckonBackwards 2 = .ok (.iload_n 2, 1) := by decide +kernel
theorem dX1_reckonBackwards_3 : decode cX1_reckonBackwards 3 = .ok (.iload_n 1, 1) := by decide +kernel
theorem dX1_reckonBackwards_4 : decode cX1_reckonBackwards 4 = .ok (.if_icmp .gt 16, 3) := by decide +kernel
theorem dX1_reckonBackwards_7 : decode cX1_reckonBackwards 7 = .ok (.aload_n 0, 1) := by decide +kernel
theorem dX1_reckonBackwards_8 : decode cX1_reckonBackwards 8 = .ok (.getfield 18, 3) := by decide +kernel
theorem dX1_reckonBackwards_11 : decode cX1_reckonBackwards 11 = .ok (.iload_n 2, 1) := by decide +kernel
theorem dX1_reckonBackwards_12 : decode cX1_reckonBackwards 12 = .ok (.iconst 0, 1) := by decide +kernel
theorem dX1_reckonBackwards_13 : decode cX1_reckonBackwards 13 = .ok (.iastore, 1) := by decide +kernel
theorem dX1_reckonBackwards_14 : decode cX1_reckonBackwards 14 = .ok (.iinc 2 1, 3) := by decide +kernel
theorem dX1_reckonBackwards_17 : decode cX1_reckonBackwards 17 = .ok (.goto (-15), 3) := by decide +kernel
theorem dX1_reckonBackwards_20 : decode cX1_reckonBackwards 20 = .ok (.aload_n 0, 1) := by decide +kernel
theorem dX1_reckonBackwards_21 : decode cX1_reckonBackwards 21 = .ok (.getfield 27, 3) := by decide +kernel
theorem dX1_reckonBackwards_24 : decode cX1_reckonBackwards 24 = .ok (.iconst 1, 1) := by decide +kernel
theorem dX1_reckonBackwards_25 : decode cX1_reckonBackwards 25 = .ok (.isub, 1) := by decide +kernel
theorem dX1_reckonBackwards_26 : decode cX1_reckonBackwards 26 = .ok (.istore_n 2, 1) := by decide +kernel
theorem dX1_reckonBackwards_27 : decode cX1_reckonBackwards 27 = .ok (.iload_n 2, 1) := by decide +kernel
theorem dX1_reckonBackwards_28 : decode cX1_reckonBackwards 28 = .ok (.ifCond .lt 15, 3) := by decide +kernel
theorem dX1_reckonBackwards_31 : decode cX1_reckonBackwards 31 = .ok (.aload_n 0, 1) := by decide +kernel
theorem dX1_reckonBackwards_32 : decode cX1_reckonBackwards 32 = .ok (.iload_n 2, 1) := by decide +kernel
theorem dX1_reckonBackwards_33 : decode cX1_reckonBackwards 33 = .ok (.iload_n 1, 1) := by decide +kernel
theorem dX1_reckonBackwards_34 : decode cX1_reckonBackwards 34 = .ok (.invokevirtual 56, 3) := by decide +kernel
theorem dX1_reckonBackwards_37 : decode cX1_reckonBackwards 37 = .ok (.iinc 2 (-1), 3) := by decide +kernel
theorem dX1_reckonBackwards_40 : decode cX1_reckonBackwards 40 = .ok (.goto (-13), 3) := by decide +kernel
theorem dX1_reckonBackwards_43 : decode cX1_reckonBackwards 43 = .ok (.return_, 1) := by decide +kernel
theorem dX1_reckonStation_0 : decode cX1_reckonStation 0 = .ok (.aload_n 0, 1) := by decide +kernel
theorem dX1_reckonStation_1 : decode cX1_reckonStation 1 = .ok (.getfield 11, 3) := by decide +kernel
theorem dX1_reckonStation_4 : decode cX1_reckonStation 4 = .ok (.iload_n 1, 1) := by decide +kernel
theorem dX1_reckonStation_5 : decode cX1_reckonStation 5 = .ok (.iconst 1, 1) := by decide +kernel
theorem dX1_reckonStation_6 : decode cX1_reckonStation 6 = .ok (.iadd, 1) := by decide +kernel
theorem dX1_reckonStation_7 : decode cX1_reckonStation 7 = .ok (.iaload, 1) := by decide +kernel
theorem dX1_reckonStation_8 : decode cX1_reckonStation 8 = .ok (.istore_n 3, 1) := by decide +kernel
theorem dX1_reckonStation_9 : decode cX1_reckonStation 9 = .ok (.aload_n 0, 1) := by decide +kernel
theorem dX1_reckonStation_10 : decode cX1_reckonStation 10 = .ok (.getfield 15, 3) := by decide +kernel
theorem dX1_reckonStation_13 : decode cX1_reckonStation 13 = .ok (.iload_n 1, 1) := by decide +kernel
theorem dX1_reckonStation_14 : decode cX1_reckonStation 14 = .ok (.iaload, 1) := by decide +kernel
theorem dX1_reckonStation_15 : decode cX1_reckonStation 15 = .ok (.istore 4, 2) := by decide +kernel
theorem dX1_reckonStation_17 : decode cX1_reckonStation 17 = .ok (.iload_n 1, 1) := by decide +kernel
theorem dX1_reckonStation_18 : decode cX1_reckonStation 18 = .ok (.bipush 121, 2) := by decide +kernel
theorem dX1_reckonStation_20 : decode cX1_reckonStation 20 = .ok (.imul, 1) := by decide +kernel
theorem dX1_reckonStation_21 : decode cX1_reckonStation 21 = .ok (.istore 5, 2) := by decide +kernel
theorem dX1_reckonStation_23 : decode cX1_reckonStation 23 = .ok (.ldc 52, 2) := by decide +kernel
theorem dX1_reckonStation_25 : decode cX1_reckonStation 25 = .ok (.istore 6, 2) := by decide +kernel
theorem dX1_reckonStation_27 : decode cX1_reckonStation 27 = .ok (.iload_n 2, 1) := by decide +kernel
theorem dX1_reckonStation_28 : decode cX1_reckonStation 28 = .ok (.istore 7, 2) := by decide +kernel
theorem dX1_reckonStation_30 : decode cX1_reckonStation 30 = .ok (.iload_n 2, 1) := by decide +kernel
theorem dX1_reckonStation_31 : decode cX1_reckonStation 31 = .ok (.istore 8, 2) := by decide +kernel
theorem dX1_reckonStation_33 : decode cX1_reckonStation 33 = .ok (.iload 8, 2) := by decide +kernel
theorem dX1_reckonStation_35 : decode cX1_reckonStation 35 = .ok (.ifCond .lt 104, 3) := by decide +kernel
theorem dX1_reckonStation_38 : decode cX1_reckonStation 38 = .ok (.iload 8, 2) := by decide +kernel
theorem dX1_reckonStation_40 : decode cX1_reckonStation 40 = .ok (.iload_n 3, 1) := by decide +kernel
theorem dX1_reckonStation_41 : decode cX1_reckonStation 41 = .ok (.if_icmp .lt 15, 3) := by decide +kernel
theorem dX1_reckonStation_44 : decode cX1_reckonStation 44 = .ok (.aload_n 0, 1) := by decide +kernel
theorem dX1_reckonStation_45 : decode cX1_reckonStation 45 = .ok (.getfield 18, 3) := by decide +kernel
theorem dX1_reckonStation_48 : decode cX1_reckonStation 48 = .ok (.iload 8, 2) := by decide +kernel
theorem dX1_reckonStation_50 : decode cX1_reckonStation 50 = .ok (.iload_n 3, 1) := by decide +kernel
theorem dX1_reckonStation_51 : decode cX1_reckonStation 51 = .ok (.isub, 1) := by decide +kernel
theorem dX1_reckonStation_52 : decode cX1_reckonStation 52 = .ok (.iaload, 1) := by decide +kernel
theorem dX1_reckonStation_53 : decode cX1_reckonStation 53 = .ok (.goto 5, 3) := by decide +kernel
theorem dX1_reckonStation_56 : decode cX1_reckonStation 56 = .ok (.ldc 52, 2) := by decide +kernel
theorem dX1_reckonStation_58 : decode cX1_reckonStation 58 = .ok (.istore 9, 2) := by decide +kernel
theorem dX1_reckonStation_60 : decode cX1_reckonStation 60 = .ok (.iload 9, 2) := by decide +kernel
theorem dX1_reckonStation_62 : decode cX1_reckonStation 62 = .ok (.ldc 52, 2) := by decide +kernel
theorem dX1_reckonStation_64 : decode cX1_reckonStation 64 = .ok (.if_icmp .ge 30, 3) := by decide +kernel
theorem dX1_reckonStation_67 : decode cX1_reckonStation 67 = .ok (.iload 9, 2) := by decide +kernel
theorem dX1_reckonStation_69 : decode cX1_reckonStation 69 = .ok (.iload 8, 2) := by decide +kernel
theorem dX1_reckonStation_71 : decode cX1_reckonStation 71 = .ok (.iload 4, 2) := by decide +kernel
theorem dX1_reckonStation_73 : decode cX1_reckonStation 73 = .ok (.imul, 1) := by decide +kernel
theorem dX1_reckonStation_74 : decode cX1_reckonStation 74 = .ok (.iadd, 1) := by decide +kernel
theorem dX1_reckonStation_75 : decode cX1_reckonStation 75 = .ok (.iload 6, 2) := by decide +kernel
theorem dX1_reckonStation_77 : decode cX1_reckonStation 77 = .ok (.if_icmp .gt 17, 3) := by decide +kernel
theorem dX1_reckonStation_80 : decode cX1_reckonStation 80 = .ok (.iload 9, 2) := by decide +kernel
theorem dX1_reckonStation_82 : decode cX1_reckonStation 82 = .ok (.iload 8, 2) := by decide +kernel
theorem dX1_reckonStation_84 : decode cX1_reckonStation 84 = .ok (.iload 4, 2) := by decide +kernel
theorem dX1_reckonStation_86 : decode cX1_reckonStation 86 = .ok (.imul, 1) := by decide +kernel
theorem dX1_reckonStation_87 : decode cX1_reckonStation 87 = .ok (.iadd, 1) := by decide +kernel
theorem dX1_reckonStation_88 : decode cX1_reckonStation 88 = .ok (.istore 6, 2) := by decide +kernel
theorem dX1_reckonStation_90 : decode cX1_reckonStation 90 = .ok (.iload 8, 2) := by decide +kernel
theorem dX1_reckonStation_92 : decode cX1_reckonStation 92 = .ok (.istore 7, 2) := by decide +kernel
theorem dX1_reckonStation_94 : decode cX1_reckonStation 94 = .ok (.aload_n 0, 1) := by decide +kernel
theorem dX1_reckonStation_95 : decode cX1_reckonStation 95 = .ok (.getfield 18, 3) := by decide +kernel
theorem dX1_reckonStation_98 : decode cX1_reckonStation 98 = .ok (.iload 8, 2) := by decide +kernel
theorem dX1_reckonStation_100 : decode cX1_reckonStation 100 = .ok (.iload 6, 2) := by decide +kernel
theorem dX1_reckonStation_102 : decode cX1_reckonStation 102 = .ok (.ldc 52, 2) := by decide +kernel
theorem dX1_reckonStation_104 : decode cX1_reckonStation 104 = .ok (.if_icmp .ge 14, 3) := by decide +kernel
theorem dX1_reckonStation_107 : decode cX1_reckonStation 107 = .ok (.iload 6, 2) := by decide +kernel
theorem dX1_reckonStation_109 : decode cX1_reckonStation 109 = .ok (.iload 8, 2) := by decide +kernel
theorem dX1_reckonStation_111 : decode cX1_reckonStation 111 = .ok (.iload 4, 2) := by decide +kernel
theorem dX1_reckonStation_113 : decode cX1_reckonStation 113 = .ok (.imul, 1) := by decide +kernel
theorem dX1_reckonStation_114 : decode cX1_reckonStation 114 = .ok (.isub, 1) := by decide +kernel
theorem dX1_reckonStation_115 : decode cX1_reckonStation 115 = .ok (.goto 5, 3) := by decide +kernel
theorem dX1_reckonStation_118 : decode cX1_reckonStation 118 = .ok (.ldc 52, 2) := by decide +kernel
theorem dX1_reckonStation_120 : decode cX1_reckonStation 120 = .ok (.iastore, 1) := by decide +kernel
theorem dX1_reckonStation_121 : decode cX1_reckonStation 121 = .ok (.aload_n 0, 1) := by decide +kernel
theorem dX1_reckonStation_122 : decode cX1_reckonStation 122 = .ok (.getfield 21, 3) := by decide +kernel
theorem dX1_reckonStation_125 : decode cX1_reckonStation 125 = .ok (.iload 5, 2) := by decide +kernel
theorem dX1_reckonStation_127 : decode cX1_reckonStation 127 = .ok (.iload 8, 2) := by decide +kernel
theorem dX1_reckonStation_129 : decode cX1_reckonStation 129 = .ok (.iadd, 1) := by decide +kernel
theorem dX1_reckonStation_130 : decode cX1_reckonStation 130 = .ok (.iload 7, 2) := by decide +kernel
theorem dX1_reckonStation_132 : decode cX1_reckonStation 132 = .ok (.iastore, 1) := by decide +kernel
theorem dX1_reckonStation_133 : decode cX1_reckonStation 133 = .ok (.iinc 8 (-1), 3) := by decide +kernel
theorem dX1_reckonStation_136 : decode cX1_reckonStation 136 = .ok (.goto (-103), 3) := by decide +kernel
theorem dX1_reckonStation_139 : decode cX1_reckonStation 139 = .ok (.return_, 1) := by decide +kernel
theorem dX1_buyForwards_0 : decode cX1_buyForwards 0 = .ok (.iload_n 1, 1) := by decide +kernel
theorem dX1_buyForwards_1 : decode cX1_buyForwards 1 = .ok (.istore_n 2, 1) := by decide +kernel
theorem dX1_buyForwards_2 : decode cX1_buyForwards 2 = .ok (.iconst 0, 1) := by decide +kernel
theorem dX1_buyForwards_3 : decode cX1_buyForwards 3 = .ok (.istore_n 3, 1) := by decide +kernel
theorem dX1_buyForwards_4 : decode cX1_buyForwards 4 = .ok (.iload_n 3, 1) := by decide +kernel
theorem dX1_buyForwards_5 : decode cX1_buyForwards 5 = .ok (.aload_n 0, 1) := by decide +kernel
theorem dX1_buyForwards_6 : decode cX1_buyForwards 6 = .ok (.getfield 27, 3) := by decide +kernel
theorem dX1_buyForwards_9 : decode cX1_buyForwards 9 = .ok (.if_icmp .ge 44, 3) := by decide +kernel
theorem dX1_buyForwards_12 : decode cX1_buyForwards 12 = .ok (.aload_n 0, 1) := by decide +kernel
theorem dX1_buyForwards_13 : decode cX1_buyForwards 13 = .ok (.getfield 21, 3) := by decide +kernel
theorem dX1_buyForwards_16 : decode cX1_buyForwards 16 = .ok (.iload_n 3, 1) := by decide +kernel
theorem dX1_buyForwards_17 : decode cX1_buyForwards 17 = .ok (.bipush 121, 2) := by decide +kernel
theorem dX1_buyForwards_19 : decode cX1_buyForwards 19 = .ok (.imul, 1) := by decide +kernel
theorem dX1_buyForwards_20 : decode cX1_buyForwards 20 = .ok (.iload_n 2, 1) := by decide +kernel
theorem dX1_buyForwards_21 : decode cX1_buyForwards 21 = .ok (.iadd, 1) := by decide +kernel
theorem dX1_buyForwards_22 : decode cX1_buyForwards 22 = .ok (.iaload, 1) := by decide +kernel
theorem dX1_buyForwards_23 : decode cX1_buyForwards 23 = .ok (.istore 4, 2) := by decide +kernel
theorem dX1_buyForwards_25 : decode cX1_buyForwards 25 = .ok (.aload_n 0, 1) := by decide +kernel
theorem dX1_buyForwards_26 : decode cX1_buyForwards 26 = .ok (.getfield 24, 3) := by decide +kernel
theorem dX1_buyForwards_29 : decode cX1_buyForwards 29 = .ok (.iload_n 3, 1) := by decide +kernel
theorem dX1_buyForwards_30 : decode cX1_buyForwards 30 = .ok (.iload 4, 2) := by decide +kernel
theorem dX1_buyForwards_32 : decode cX1_buyForwards 32 = .ok (.iload_n 2, 1) := by decide +kernel
theorem dX1_buyForwards_33 : decode cX1_buyForwards 33 = .ok (.isub, 1) := by decide +kernel
theorem dX1_buyForwards_34 : decode cX1_buyForwards 34 = .ok (.iastore, 1) := by decide +kernel
theorem dX1_buyForwards_35 : decode cX1_buyForwards 35 = .ok (.iload 4, 2) := by decide +kernel
theorem dX1_buyForwards_37 : decode cX1_buyForwards 37 = .ok (.aload_n 0, 1) := by decide +kernel
theorem dX1_buyForwards_38 : decode cX1_buyForwards 38 = .ok (.getfield 11, 3) := by decide +kernel
theorem dX1_buyForwards_41 : decode cX1_buyForwards 41 = .ok (.iload_n 3, 1) := by decide +kernel
theorem dX1_buyForwards_42 : decode cX1_buyForwards 42 = .ok (.iconst 1, 1) := by decide +kernel
theorem dX1_buyForwards_43 : decode cX1_buyForwards 43 = .ok (.iadd, 1) := by decide +kernel
theorem dX1_buyForwards_44 : decode cX1_buyForwards 44 = .ok (.iaload, 1) := by decide +kernel
theorem dX1_buyForwards_45 : decode cX1_buyForwards 45 = .ok (.isub, 1) := by decide +kernel
theorem dX1_buyForwards_46 : decode cX1_buyForwards 46 = .ok (.istore_n 2, 1) := by decide +kernel
theorem dX1_buyForwards_47 : decode cX1_buyForwards 47 = .ok (.iinc 3 1, 3) := by decide +kernel
theorem dX1_buyForwards_50 : decode cX1_buyForwards 50 = .ok (.goto (-46), 3) := by decide +kernel
theorem dX1_buyForwards_53 : decode cX1_buyForwards 53 = .ok (.aload_n 0, 1) := by decide +kernel
theorem dX1_buyForwards_54 : decode cX1_buyForwards 54 = .ok (.aload_n 0, 1) := by decide +kernel
theorem dX1_buyForwards_55 : decode cX1_buyForwards 55 = .ok (.getfield 27, 3) := by decide +kernel
theorem dX1_buyForwards_58 : decode cX1_buyForwards 58 = .ok (.putfield 31, 3) := by decide +kernel
theorem dX1_buyForwards_61 : decode cX1_buyForwards 61 = .ok (.return_, 1) := by decide +kernel
theorem dX1_boughtAt_0 : decode cX1_boughtAt 0 = .ok (.iload_n 1, 1) := by decide +kernel
theorem dX1_boughtAt_1 : decode cX1_boughtAt 1 = .ok (.ifCond .lt 20, 3) := by decide +kernel
theorem dX1_boughtAt_4 : decode cX1_boughtAt 4 = .ok (.iload_n 1, 1) := by decide +kernel
theorem dX1_boughtAt_5 : decode cX1_boughtAt 5 = .ok (.aload_n 0, 1) := by decide +kernel
theorem dX1_boughtAt_6 : decode cX1_boughtAt 6 = .ok (.getfield 31, 3) := by decide +kernel
theorem dX1_boughtAt_9 : decode cX1_boughtAt 9 = .ok (.if_icmp .ge 12, 3) := by decide +kernel
theorem dX1_boughtAt_12 : decode cX1_boughtAt 12 = .ok (.aload_n 0, 1) := by decide +kernel
theorem dX1_boughtAt_13 : decode cX1_boughtAt 13 = .ok (.getfield 24, 3) := by decide +kernel
theorem dX1_boughtAt_16 : decode cX1_boughtAt 16 = .ok (.iload_n 1, 1) := by decide +kernel
theorem dX1_boughtAt_17 : decode cX1_boughtAt 17 = .ok (.iaload, 1) := by decide +kernel
theorem dX1_boughtAt_18 : decode cX1_boughtAt 18 = .ok (.goto 4, 3) := by decide +kernel
theorem dX1_boughtAt_21 : decode cX1_boughtAt 21 = .ok (.iconst (-1), 1) := by decide +kernel
theorem dX1_boughtAt_22 : decode cX1_boughtAt 22 = .ok (.ireturn, 1) := by decide +kernel
theorem dX2_init_0 : decode cX2_init 0 = .ok (.aload_n 0, 1) := by decide +kernel
theorem dX2_init_1 : decode cX2_init 1 = .ok (.invokespecial 1, 3) := by decide +kernel
theorem dX2_init_4 : decode cX2_init 4 = .ok (.aload_n 0, 1) := by decide +kernel
theorem dX2_init_5 : decode cX2_init 5 = .ok (.bipush 60, 2) := by decide +kernel
theorem dX2_init_7 : decode cX2_init 7 = .ok (.newarray .int, 2) := by decide +kernel
theorem dX2_init_9 : decode cX2_init 9 = .ok (.putfield 9, 3) := by decide +kernel
theorem dX2_init_12 : decode cX2_init 12 = .ok (.aload_n 0, 1) := by decide +kernel
theorem dX2_init_13 : decode cX2_init 13 = .ok (.iconst 0, 1) := by decide +kernel
theorem dX2_init_14 : decode cX2_init 14 = .ok (.putfield 13, 3) := by decide +kernel
theorem dX2_init_17 : decode cX2_init 17 = .ok (.return_, 1) := by decide +kernel
theorem dX2_hasRoom_0 : decode cX2_hasRoom 0 = .ok (.aload_n 0, 1) := by decide +kernel
theorem dX2_hasRoom_1 : decode cX2_hasRoom 1 = .ok (.getfield 13, 3) := by decide +kernel
theorem dX2_hasRoom_4 : decode cX2_hasRoom 4 = .ok (.bipush 20, 2) := by decide +kernel
theorem dX2_hasRoom_6 : decode cX2_hasRoom 6 = .ok (.iadd, 1) := by decide +kernel
theorem dX2_hasRoom_7 : decode cX2_hasRoom 7 = .ok (.bipush 60, 2) := by decide +kernel
theorem dX2_hasRoom_9 : decode cX2_hasRoom 9 = .ok (.if_icmp .gt 7, 3) := by decide +kernel
theorem dX2_hasRoom_12 : decode cX2_hasRoom 12 = .ok (.iconst 1, 1) := by decide +kernel
theorem dX2_hasRoom_13 : decode cX2_hasRoom 13 = .ok (.goto 4, 3) := by decide +kernel
theorem dX2_hasRoom_16 : decode cX2_hasRoom 16 = .ok (.iconst 0, 1) := by decide +kernel
theorem dX2_hasRoom_17 : decode cX2_hasRoom 17 = .ok (.ireturn, 1) := by decide +kernel
theorem dX2_push_0 : decode cX2_push 0 = .ok (.bipush 24, 2) := by decide +kernel
theorem dX2_push_2 : decode cX2_push 2 = .ok (.istore_n 2, 1) := by decide +kernel
theorem dX2_push_3 : decode cX2_push 3 = .ok (.iload_n 2, 1) := by decide +kernel
theorem dX2_push_4 : decode cX2_push 4 = .ok (.ifCond .lt 44, 3) := by decide +kernel
theorem dX2_push_7 : decode cX2_push 7 = .ok (.aload_n 0, 1) := by decide +kernel
theorem dX2_push_8 : decode cX2_push 8 = .ok (.getfield 13, 3) := by decide +kernel
theorem dX2_push_11 : decode cX2_push 11 = .ok (.bipush 60, 2) := by decide +kernel
theorem dX2_push_13 : decode cX2_push 13 = .ok (.if_icmp .ge 35, 3) := by decide +kernel
theorem dX2_push_16 : decode cX2_push 16 = .ok (.aload_n 0, 1) := by decide +kernel
theorem dX2_push_17 : decode cX2_push 17 = .ok (.getfield 9, 3) := by decide +kernel
theorem dX2_push_20 : decode cX2_push 20 = .ok (.aload_n 0, 1) := by decide +kernel
theorem dX2_push_21 : decode cX2_push 21 = .ok (.getfield 13, 3) := by decide +kernel
theorem dX2_push_24 : decode cX2_push 24 = .ok (.iload_n 1, 1) := by decide +kernel
theorem dX2_push_25 : decode cX2_push 25 = .ok (.iload_n 2, 1) := by decide +kernel
theorem dX2_push_26 : decode cX2_push 26 = .ok (.iushr, 1) := by decide +kernel
theorem dX2_push_27 : decode cX2_push 27 = .ok (.sipush 255, 3) := by decide +kernel
theorem dX2_push_30 : decode cX2_push 30 = .ok (.iand, 1) := by decide +kernel
theorem dX2_push_31 : decode cX2_push 31 = .ok (.iastore, 1) := by decide +kernel
theorem dX2_push_32 : decode cX2_push 32 = .ok (.aload_n 0, 1) := by decide +kernel
theorem dX2_push_33 : decode cX2_push 33 = .ok (.dup, 1) := by decide +kernel
theorem dX2_push_34 : decode cX2_push 34 = .ok (.getfield 13, 3) := by decide +kernel
theorem dX2_push_37 : decode cX2_push 37 = .ok (.iconst 1, 1) := by decide +kernel
theorem dX2_push_38 : decode cX2_push 38 = .ok (.iadd, 1) := by decide +kernel
theorem dX2_push_39 : decode cX2_push 39 = .ok (.putfield 13, 3) := by decide +kernel
theorem dX2_push_42 : decode cX2_push 42 = .ok (.iinc 2 (-8), 3) := by decide +kernel
theorem dX2_push_45 : decode cX2_push 45 = .ok (.goto (-42), 3) := by decide +kernel
theorem dX2_push_48 : decode cX2_push 48 = .ok (.return_, 1) := by decide +kernel
theorem dX2_shorten_0 : decode cX2_shorten 0 = .ok (.iload_n 1, 1) := by decide +kernel
theorem dX2_shorten_1 : decode cX2_shorten 1 = .ok (.ifCond .lt 11, 3) := by decide +kernel
theorem dX2_shorten_4 : decode cX2_shorten 4 = .ok (.iload_n 1, 1) := by decide +kernel
theorem dX2_shorten_5 : decode cX2_shorten 5 = .ok (.aload_n 0, 1) := by decide +kernel
theorem dX2_shorten_6 : decode cX2_shorten 6 = .ok (.getfield 13, 3) := by decide +kernel
theorem dX2_shorten_9 : decode cX2_shorten 9 = .ok (.if_icmp .le 5, 3) := by decide +kernel
theorem dX2_shorten_12 : decode cX2_shorten 12 = .ok (.iconst 0, 1) := by decide +kernel
theorem dX2_shorten_13 : decode cX2_shorten 13 = .ok (.ireturn, 1) := by decide +kernel
theorem dX2_shorten_14 : decode cX2_shorten 14 = .ok (.aload_n 0, 1) := by decide +kernel
theorem dX2_shorten_15 : decode cX2_shorten 15 = .ok (.iload_n 1, 1) := by decide +kernel
theorem dX2_shorten_16 : decode cX2_shorten 16 = .ok (.putfield 13, 3) := by decide +kernel
theorem dX2_shorten_19 : decode cX2_shorten 19 = .ok (.iconst 1, 1) := by decide +kernel
theorem dX2_shorten_20 : decode cX2_shorten 20 = .ok (.ireturn, 1) := by decide +kernel
set_option maxRecDepth 20000 in
theorem ggX3_init_X0_init : GoodIn wsX3_init wsX0_init := goodIn_r _ [27, 28, 2, 3, 29, 30, 31, 32, 33, 64, 65, 66, 67, 68, 69, 70, 71, 72, 73, 74, 75, 76, 77, 78] (by decide +kernel) (by decide +kernel)
set_option maxRecDepth 20000 in
theorem gX3_init_X0_init_n9 : GoodIn wsX3_init (wsX0_init) := ggX3_init_X0_init
set_option maxRecDepth 20000 in
theorem ggX3_init_X2_init : GoodIn wsX3_init wsX2_init := goodIn_r _ [35, 36, 2, 3, 31, 37, 38, 91, 92] (by decide +kernel) (by decide +kernel)
set_option maxRecDepth 20000 in
theorem gX3_init_X2_init_n21 : GoodIn wsX3_init (wsX2_init) := ggX3_init_X2_init
set_option maxRecDepth 20000 in
theorem ggX3_init_X1_init : GoodIn wsX3_init wsX1_init := goodIn_r _ [40, 41, 2, 3, 31, 42, 43, 44, 45, 46, 47, 48, 93, 94, 95, 96, 97, 98, 99] (by decide +kernel) (by decide +kernel)
set_option maxRecDepth 20000 in
theorem gX3_init_X1_init_n28 : GoodIn wsX3_init (wsX1_init) := ggX3_init_X1_init
set_option maxRecDepth 20000 in
theorem ggX3_init_X0_begin : GoodIn wsX3_init wsX0_begin := goodIn_r _ [51, 52, 53, 54, 55, 56, 57, 58, 59, 60, 61, 62, 6, 63, 30, 64, 65, 66, 67, 68, 69, 70, 71, 72, 73, 74, 75, 76, 77, 78] (by decide +kernel) (by decide +kernel)
set_option maxRecDepth 20000 in
theorem gX3_init_X0_begin_n60 : GoodIn wsX3_init (wsX0_begin) := ggX3_init_X0_begin
theorem dX3_init_0 : decode cX3_init 0 = .ok (.aload_n 0, 1) := by decide +kernel
theorem dX3_init_1 : decode cX3_init 1 = .ok (.invokespecial 1, 3) := by decide +kernel
theorem dX3_init_4 : decode cX3_init 4 = .ok (.aload_n 0, 1) := by decide +kernel
theorem dX3_init_5 : decode cX3_init 5 = .ok (.new 7, 3) := by decide +kernel
theorem dX3_init_8 : decode cX3_init 8 = .ok (.dup, 1) := by decide +kernel
theorem dX3_init_9 : decode cX3_init 9 = .ok (.invokespecial 9, 3) := by decide +kernel
theorem dX3_init_12 : decode cX3_init 12 = .ok (.putfield 10, 3) := by decide +kernel
theorem dX3_init_15 : decode cX3_init 15 = .ok (.aload_n 0, 1) := by decide +kernel
theorem dX3_init_16 : decode cX3_init 16 = .ok (.new 7, 3) := by decide +kernel
theorem dX3_init_19 : decode cX3_init 19 = .ok (.dup, 1) := by decide +kernel
theorem dX3_init_20 : decode cX3_init 20 = .ok (.invokespecial 9, 3) := by decide +kernel
theorem dX3_init_23 : decode cX3_init 23 = .ok (.putfield 16, 3) := by decide +kernel
theorem dX3_init_26 : decode cX3_init 26 = .ok (.aload_n 0, 1) := by decide +kernel
theorem dX3_init_27 : decode cX3_init 27 = .ok (.new 19, 3) := by decide +kernel
theorem dX3_init_30 : decode cX3_init 30 = .ok (.dup, 1) := by decide +kernel
theorem dX3_init_31 : decode cX3_init 31 = .ok (.invokespecial 21, 3) := by decide +kernel
theorem dX3_init_34 : decode cX3_init 34 = .ok (.putfield 22, 3) := by decide +kernel
theorem dX3_init_37 : decode cX3_init 37 = .ok (.aload_n 0, 1) := by decide +kernel
theorem dX3_init_38 : decode cX3_init 38 = .ok (.new 26, 3) := by decide +kernel
theorem dX3_init_41 : decode cX3_init 41 = .ok (.dup, 1) := by decide +kernel
theorem dX3_init_42 : decode cX3_init 42 = .ok (.invokespecial 28, 3) := by decide +kernel
theorem dX3_init_45 : decode cX3_init 45 = .ok (.putfield 29, 3) := by decide +kernel
theorem dX3_init_48 : decode cX3_init 48 = .ok (.aload_n 0, 1) := by decide +kernel
theorem dX3_init_49 : decode cX3_init 49 = .ok (.ldc 33, 2) := by decide +kernel
theorem dX3_init_51 : decode cX3_init 51 = .ok (.putfield 34, 3) := by decide +kernel
theorem dX3_init_54 : decode cX3_init 54 = .ok (.aload_n 0, 1) := by decide +kernel
theorem dX3_init_55 : decode cX3_init 55 = .ok (.bipush 20, 2) := by decide +kernel
theorem dX3_init_57 : decode cX3_init 57 = .ok (.putfield 38, 3) := by decide +kernel
theorem dX3_init_60 : decode cX3_init 60 = .ok (.aload_n 0, 1) := by decide +kernel
theorem dX3_init_61 : decode cX3_init 61 = .ok (.bipush 10, 2) := by decide +kernel
theorem dX3_init_63 : decode cX3_init 63 = .ok (.putfield 41, 3) := by decide +kernel
theorem dX3_init_66 : decode cX3_init 66 = .ok (.aload_n 0, 1) := by decide +kernel
theorem dX3_init_67 : decode cX3_init 67 = .ok (.bipush 60, 2) := by decide +kernel
theorem dX3_init_69 : decode cX3_init 69 = .ok (.putfield 44, 3) := by decide +kernel
theorem dX3_init_72 : decode cX3_init 72 = .ok (.aload_n 0, 1) := by decide +kernel
theorem dX3_init_73 : decode cX3_init 73 = .ok (.bipush 10, 2) := by decide +kernel
theorem dX3_init_75 : decode cX3_init 75 = .ok (.putfield 47, 3) := by decide +kernel
theorem dX3_init_78 : decode cX3_init 78 = .ok (.aload_n 0, 1) := by decide +kernel
theorem dX3_init_79 : decode cX3_init 79 = .ok (.bipush 40, 2) := by decide +kernel
theorem dX3_init_81 : decode cX3_init 81 = .ok (.putfield 50, 3) := by decide +kernel
theorem dX3_init_84 : decode cX3_init 84 = .ok (.aload_n 0, 1) := by decide +kernel
theorem dX3_init_85 : decode cX3_init 85 = .ok (.bipush 120, 2) := by decide +kernel
theorem dX3_init_87 : decode cX3_init 87 = .ok (.putfield 53, 3) := by decide +kernel
theorem dX3_init_90 : decode cX3_init 90 = .ok (.aload_n 0, 1) := by decide +kernel
theorem dX3_init_91 : decode cX3_init 91 = .ok (.lconst 0, 1) := by decide +kernel
theorem dX3_init_92 : decode cX3_init 92 = .ok (.putfield 56, 3) := by decide +kernel
theorem dX3_init_95 : decode cX3_init 95 = .ok (.aload_n 0, 1) := by decide +kernel
theorem dX3_init_96 : decode cX3_init 96 = .ok (.getfield 10, 3) := by decide +kernel
theorem dX3_init_99 : decode cX3_init 99 = .ok (.aload_n 0, 1) := by decide +kernel
theorem dX3_init_100 : decode cX3_init 100 = .ok (.getfield 34, 3) := by decide +kernel
theorem dX3_init_103 : decode cX3_init 103 = .ok (.invokevirtual 60, 3) := by decide +kernel
theorem dX3_init_106 : decode cX3_init 106 = .ok (.aload_n 0, 1) := by decide +kernel
theorem dX3_init_107 : decode cX3_init 107 = .ok (.getfield 16, 3) := by decide +kernel
theorem dX3_init_110 : decode cX3_init 110 = .ok (.aload_n 0, 1) := by decide +kernel
theorem dX3_init_111 : decode cX3_init 111 = .ok (.getfield 34, 3) := by decide +kernel
theorem dX3_init_114 : decode cX3_init 114 = .ok (.invokevirtual 60, 3) := by decide +kernel
theorem dX3_init_117 : decode cX3_init 117 = .ok (.return_, 1) := by decide +kernel
set_option maxRecDepth 20000 in
theorem ggX3_feed_X2_hasRoom : GoodIn wsX3_feed wsX2_hasRoom := goodIn_r _ [5, 6, 23, 24] (by decide +kernel) (by decide +kernel)
set_option maxRecDepth 20000 in
theorem gX3_feed_X2_hasRoom_n64 : GoodIn wsX3_feed (wsX2_hasRoom) := ggX3_feed_X2_hasRoom
set_option maxRecDepth 20000 in
theorem ggX3_feed_X2_push : GoodIn wsX3_feed wsX2_push := goodIn_r _ [9, 6, 10, 23, 24] (by decide +kernel) (by decide +kernel)
set_option maxRecDepth 20000 in
theorem gX3_feed_X2_push_n68 : GoodIn wsX3_feed (wsX2_push) := ggX3_feed_X2_push
theorem dX3_feed_0 : decode cX3_feed 0 = .ok (.aload_n 0, 1) := by decide +kernel
theorem dX3_feed_1 : decode cX3_feed 1 = .ok (.getfield 22, 3) := by decide +kernel
theorem dX3_feed_4 : decode cX3_feed 4 = .ok (.invokevirtual 64, 3) := by decide +kernel
theorem dX3_feed_7 : decode cX3_feed 7 = .ok (.ifCond .ne 5, 3) := by decide +kernel
theorem dX3_feed_10 : decode cX3_feed 10 = .ok (.iconst (-1), 1) := by decide +kernel
theorem dX3_feed_11 : decode cX3_feed 11 = .ok (.ireturn, 1) := by decide +kernel
theorem dX3_feed_12 : decode cX3_feed 12 = .ok (.aload_n 0, 1) := by decide +kernel
theorem dX3_feed_13 : decode cX3_feed 13 = .ok (.getfield 22, 3) := by decide +kernel
theorem dX3_feed_16 : decode cX3_feed 16 = .ok (.iload_n 1, 1) := by decide +kernel
theorem dX3_feed_17 : decode cX3_feed 17 = .ok (.invokevirtual 68, 3) := by decide +kernel
theorem dX3_feed_20 : decode cX3_feed 20 = .ok (.aload_n 0, 1) := by decide +kernel
theorem dX3_feed_21 : decode cX3_feed 21 = .ok (.getfield 22, 3) := by decide +kernel
theorem dX3_feed_24 : decode cX3_feed 24 = .ok (.iload_n 2, 1) := by decide +kernel
theorem dX3_feed_25 : decode cX3_feed 25 = .ok (.invokevirtual 68, 3) := by decide +kernel
theorem dX3_feed_28 : decode cX3_feed 28 = .ok (.aload_n 0, 1) := by decide +kernel
theorem dX3_feed_29 : decode cX3_feed 29 = .ok (.getfield 22, 3) := by decide +kernel
theorem dX3_feed_32 : decode cX3_feed 32 = .ok (.iload_n 3, 1) := by decide +kernel
theorem dX3_feed_33 : decode cX3_feed 33 = .ok (.invokevirtual 68, 3) := by decide +kernel
theorem dX3_feed_36 : decode cX3_feed 36 = .ok (.aload_n 0, 1) := by decide +kernel
theorem dX3_feed_37 : decode cX3_feed 37 = .ok (.getfield 22, 3) := by decide +kernel
theorem dX3_feed_40 : decode cX3_feed 40 = .ok (.iload 4, 2) := by decide +kernel
theorem dX3_feed_42 : decode cX3_feed 42 = .ok (.invokevirtual 68, 3) := by decide +kernel
theorem dX3_feed_45 : decode cX3_feed 45 = .ok (.aload_n 0, 1) := by decide +kernel
theorem dX3_feed_46 : decode cX3_feed 46 = .ok (.getfield 22, 3) := by decide +kernel
theorem dX3_feed_49 : decode cX3_feed 49 = .ok (.iload 5, 2) := by decide +kernel
theorem dX3_feed_51 : decode cX3_feed 51 = .ok (.invokevirtual 68, 3) := by decide +kernel
theorem dX3_feed_54 : decode cX3_feed 54 = .ok (.aload_n 0, 1) := by decide +kernel
theorem dX3_feed_55 : decode cX3_feed 55 = .ok (.getfield 22, 3) := by decide +kernel
theorem dX3_feed_58 : decode cX3_feed 58 = .ok (.getfield 71, 3) := by decide +kernel
theorem dX3_feed_61 : decode cX3_feed 61 = .ok (.ireturn, 1) := by decide +kernel
set_option maxRecDepth 20000 in
theorem ggX3_end_X2_shorten : GoodIn wsX3_end wsX2_shorten := goodIn_r _ [5, 6, 19, 20] (by decide +kernel) (by decide +kernel)
set_option maxRecDepth 20000 in
theorem gX3_end_X2_shorten_n74 : GoodIn wsX3_end (wsX2_shorten) := ggX3_end_X2_shorten
theorem dX3_end_0 : decode cX3_end 0 = .ok (.aload_n 0, 1) := by decide +kernel
theorem dX3_end_1 : decode cX3_end 1 = .ok (.getfield 22, 3) := by decide +kernel
theorem dX3_end_4 : decode cX3_end 4 = .ok (.iload_n 1, 1) := by decide +kernel
theorem dX3_end_5 : decode cX3_end 5 = .ok (.invokevirtual 74, 3) := by decide +kernel
theorem dX3_end_8 : decode cX3_end 8 = .ok (.ireturn, 1) := by decide +kernel
set_option maxRecDepth 20000 in
theorem ggX3_car_X3_within : GoodIn wsX3_car wsX3_within := goodIn_r _ [11] (by decide +kernel) (by decide +kernel)
set_option maxRecDepth 20000 in
theorem gX3_car_X3_within : GoodIn wsX3_car (va_wsS RX3 79 yX3_within wsX3_within) := goodIn_app (goodIn_of _ (by decide +kernel)) ggX3_car_X3_within
set_option maxRecDepth 20000 in
theorem ggX3_car_X0_begin : GoodIn wsX3_car wsX0_begin := goodIn_r _ [15, 16, 17, 18, 19, 20, 21, 22, 23, 24, 25, 26, 13, 27, 28, 41, 42, 43, 44, 45, 46, 47, 48, 49, 50, 51, 52, 53, 54, 55] (by decide +kernel) (by decide +kernel)
set_option maxRecDepth 20000 in
theorem gX3_car_X0_begin_n60 : GoodIn wsX3_car (wsX0_begin) := ggX3_car_X0_begin
theorem dX3_car_0 : decode cX3_car 0 = .ok (.iload_n 1, 1) := by decide +kernel
theorem dX3_car_1 : decode cX3_car 1 = .ok (.sipush 1000, 3) := by decide +kernel
theorem dX3_car_4 : decode cX3_car 4 = .ok (.ldc 78, 2) := by decide +kernel
theorem dX3_car_6 : decode cX3_car 6 = .ok (.invokestatic 79, 3) := by decide +kernel
theorem dX3_car_9 : decode cX3_car 9 = .ok (.ifCond .eq 24, 3) := by decide +kernel
theorem dX3_car_12 : decode cX3_car 12 = .ok (.iload_n 2, 1) := by decide +kernel
theorem dX3_car_13 : decode cX3_car 13 = .ok (.iconst 1, 1) := by decide +kernel
theorem dX3_car_14 : decode cX3_car 14 = .ok (.sipush 1000, 3) := by decide +kernel
theorem dX3_car_17 : decode cX3_car 17 = .ok (.invokestatic 79, 3) := by decide +kernel
theorem dX3_car_20 : decode cX3_car 20 = .ok (.ifCond .eq 13, 3) := by decide +kernel
theorem dX3_car_23 : decode cX3_car 23 = .ok (.iload_n 3, 1) := by decide +kernel
theorem dX3_car_24 : decode cX3_car 24 = .ok (.iconst 0, 1) := by decide +kernel
theorem dX3_car_25 : decode cX3_car 25 = .ok (.bipush 60, 2) := by decide +kernel
theorem dX3_car_27 : decode cX3_car 27 = .ok (.invokestatic 79, 3) := by decide +kernel
theorem dX3_car_30 : decode cX3_car 30 = .ok (.ifCond .ne 5, 3) := by decide +kernel
theorem dX3_car_33 : decode cX3_car 33 = .ok (.iconst 0, 1) := by decide +kernel
theorem dX3_car_34 : decode cX3_car 34 = .ok (.ireturn, 1) := by decide +kernel
theorem dX3_car_35 : decode cX3_car 35 = .ok (.aload_n 0, 1) := by decide +kernel
theorem dX3_car_36 : decode cX3_car 36 = .ok (.iload_n 1, 1) := by decide +kernel
theorem dX3_car_37 : decode cX3_car 37 = .ok (.putfield 34, 3) := by decide +kernel
theorem dX3_car_40 : decode cX3_car 40 = .ok (.aload_n 0, 1) := by decide +kernel
theorem dX3_car_41 : decode cX3_car 41 = .ok (.iload_n 2, 1) := by decide +kernel
theorem dX3_car_42 : decode cX3_car 42 = .ok (.putfield 38, 3) := by decide +kernel
theorem dX3_car_45 : decode cX3_car 45 = .ok (.aload_n 0, 1) := by decide +kernel
theorem dX3_car_46 : decode cX3_car 46 = .ok (.iload_n 3, 1) := by decide +kernel
theorem dX3_car_47 : decode cX3_car 47 = .ok (.putfield 41, 3) := by decide +kernel
theorem dX3_car_50 : decode cX3_car 50 = .ok (.aload_n 0, 1) := by decide +kernel
theorem dX3_car_51 : decode cX3_car 51 = .ok (.lconst 0, 1) := by decide +kernel
theorem dX3_car_52 : decode cX3_car 52 = .ok (.putfield 56, 3) := by decide +kernel
theorem dX3_car_55 : decode cX3_car 55 = .ok (.aload_n 0, 1) := by decide +kernel
theorem dX3_car_56 : decode cX3_car 56 = .ok (.getfield 10, 3) := by decide +kernel
theorem dX3_car_59 : decode cX3_car 59 = .ok (.iload_n 1, 1) := by decide +kernel
theorem dX3_car_60 : decode cX3_car 60 = .ok (.invokevirtual 60, 3) := by decide +kernel
theorem dX3_car_63 : decode cX3_car 63 = .ok (.aload_n 0, 1) := by decide +kernel
theorem dX3_car_64 : decode cX3_car 64 = .ok (.getfield 16, 3) := by decide +kernel
theorem dX3_car_67 : decode cX3_car 67 = .ok (.iload_n 1, 1) := by decide +kernel
theorem dX3_car_68 : decode cX3_car 68 = .ok (.invokevirtual 60, 3) := by decide +kernel
theorem dX3_car_71 : decode cX3_car 71 = .ok (.iconst 1, 1) := by decide +kernel
theorem dX3_car_72 : decode cX3_car 72 = .ok (.ireturn, 1) := by decide +kernel
set_option maxRecDepth 20000 in
theorem ggX3_bounds_X3_checkedBounds : GoodIn wsX3_bounds wsX3_checkedBounds := goodIn_r _ [8, 9, 10, 7, 11] (by decide +kernel) (by decide +kernel)
set_option maxRecDepth 20000 in
theorem gX3_bounds_X3_checkedBounds : GoodIn wsX3_bounds (va_wsS RX3 83 yX3_checkedBounds wsX3_checkedBounds) := goodIn_app (goodIn_of _ (by decide +kernel)) ggX3_bounds_X3_checkedBounds
theorem dX3_bounds_0 : decode cX3_bounds 0 = .ok (.iload_n 1, 1) := by decide +kernel
theorem dX3_bounds_1 : decode cX3_bounds 1 = .ok (.iload_n 2, 1) := by decide +kernel
theorem dX3_bounds_2 : decode cX3_bounds 2 = .ok (.iload_n 3, 1) := by decide +kernel
theorem dX3_bounds_3 : decode cX3_bounds 3 = .ok (.iload 4, 2) := by decide +kernel
theorem dX3_bounds_5 : decode cX3_bounds 5 = .ok (.invokestatic 83, 3) := by decide +kernel
theorem dX3_bounds_8 : decode cX3_bounds 8 = .ok (.ifCond .ne 5, 3) := by decide +kernel
theorem dX3_bounds_11 : decode cX3_bounds 11 = .ok (.iconst 0, 1) := by decide +kernel
theorem dX3_bounds_12 : decode cX3_bounds 12 = .ok (.ireturn, 1) := by decide +kernel
theorem dX3_bounds_13 : decode cX3_bounds 13 = .ok (.aload_n 0, 1) := by decide +kernel
theorem dX3_bounds_14 : decode cX3_bounds 14 = .ok (.iload_n 1, 1) := by decide +kernel
theorem dX3_bounds_15 : decode cX3_bounds 15 = .ok (.putfield 44, 3) := by decide +kernel
theorem dX3_bounds_18 : decode cX3_bounds 18 = .ok (.aload_n 0, 1) := by decide +kernel
theorem dX3_bounds_19 : decode cX3_bounds 19 = .ok (.iload_n 2, 1) := by decide +kernel
theorem dX3_bounds_20 : decode cX3_bounds 20 = .ok (.putfield 47, 3) := by decide +kernel
theorem dX3_bounds_23 : decode cX3_bounds 23 = .ok (.aload_n 0, 1) := by decide +kernel
theorem dX3_bounds_24 : decode cX3_bounds 24 = .ok (.iload_n 3, 1) := by decide +kernel
theorem dX3_bounds_25 : decode cX3_bounds 25 = .ok (.putfield 50, 3) := by decide +kernel
theorem dX3_bounds_28 : decode cX3_bounds 28 = .ok (.aload_n 0, 1) := by decide +kernel
theorem dX3_bounds_29 : decode cX3_bounds 29 = .ok (.iload 4, 2) := by decide +kernel
theorem dX3_bounds_31 : decode cX3_bounds 31 = .ok (.putfield 53, 3) := by decide +kernel
theorem dX3_bounds_34 : decode cX3_bounds 34 = .ok (.iconst 1, 1) := by decide +kernel
theorem dX3_bounds_35 : decode cX3_bounds 35 = .ok (.ireturn, 1) := by decide +kernel
set_option maxRecDepth 20000 in
theorem ggX3_drive_X3_within : GoodIn wsX3_drive wsX3_within := goodIn_r _ [8] (by decide +kernel) (by decide +kernel)
set_option maxRecDepth 20000 in
theorem gX3_drive_X3_within : GoodIn wsX3_drive (va_wsS RX3 79 yX3_within wsX3_within) := goodIn_app (goodIn_of _ (by decide +kernel)) ggX3_drive_X3_within
set_option maxRecDepth 20000 in
theorem ggX3_drive_X0_pass : GoodIn wsX3_drive wsX0_pass := goodIn_r _ [12, 13, 14, 15, 51, 52, 53, 54, 55, 56, 57, 58, 59, 60, 61, 62, 63, 64, 65] (by decide +kernel) (by decide +kernel)
set_option maxRecDepth 20000 in
theorem gX3_drive_X0_pass_n90 : GoodIn wsX3_drive (wsX0_pass) := ggX3_drive_X0_pass
set_option maxRecDepth 20000 in
theorem ggX3_drive_X0_burn : GoodIn wsX3_drive wsX0_burn := goodIn_r _ [18, 19, 20, 21, 22, 23, 24, 25, 26, 51, 52, 53, 54, 55, 56, 57, 58, 59, 60, 61, 62, 63, 64, 65] (by decide +kernel) (by decide +kernel)
set_option maxRecDepth 20000 in
theorem gX3_drive_X0_burn_n94 : GoodIn wsX3_drive (wsX0_burn) := ggX3_drive_X0_burn
set_option maxRecDepth 20000 in
theorem ggX3_drive_X0_showStep : GoodIn wsX3_drive wsX0_showStep := goodIn_r _ [29, 30, 31, 32, 33, 10, 34, 22, 19, 35, 36, 37, 38, 51, 52, 53, 54, 55, 56, 57, 58, 59, 60, 61, 62, 63, 64, 65] (by decide +kernel) (by decide +kernel)
set_option maxRecDepth 20000 in
theorem gX3_drive_X0_showStep_n97 : GoodIn wsX3_drive (wsX0_showStep) := ggX3_drive_X0_showStep
theorem dX3_drive_0 : decode cX3_drive 0 = .ok (.iload_n 1, 1) := by decide +kernel
theorem dX3_drive_1 : decode cX3_drive 1 = .ok (.iconst 0, 1) := by decide +kernel
theorem dX3_drive_2 : decode cX3_drive 2 = .ok (.ldc 87, 2) := by decide +kernel
theorem dX3_drive_4 : decode cX3_drive 4 = .ok (.invokestatic 79, 3) := by decide +kernel
theorem dX3_drive_7 : decode cX3_drive 7 = .ok (.ifCond .eq 25, 3) := by decide +kernel
theorem dX3_drive_10 : decode cX3_drive 10 = .ok (.iload_n 2, 1) := by decide +kernel
theorem dX3_drive_11 : decode cX3_drive 11 = .ok (.iconst 0, 1) := by decide +kernel
theorem dX3_drive_12 : decode cX3_drive 12 = .ok (.sipush 10000, 3) := by decide +kernel
theorem dX3_drive_15 : decode cX3_drive 15 = .ok (.invokestatic 79, 3) := by decide +kernel
theorem dX3_drive_18 : decode cX3_drive 18 = .ok (.ifCond .eq 14, 3) := by decide +kernel
theorem dX3_drive_21 : decode cX3_drive 21 = .ok (.iload_n 3, 1) := by decide +kernel
theorem dX3_drive_22 : decode cX3_drive 22 = .ok (.iconst 1, 1) := by decide +kernel
theorem dX3_drive_23 : decode cX3_drive 23 = .ok (.sipush 3600, 3) := by decide +kernel
theorem dX3_drive_26 : decode cX3_drive 26 = .ok (.invokestatic 79, 3) := by decide +kernel
theorem dX3_drive_29 : decode cX3_drive 29 = .ok (.ifCond .ne 5, 3) := by decide +kernel
theorem dX3_drive_32 : decode cX3_drive 32 = .ok (.iconst 0, 1) := by decide +kernel
theorem dX3_drive_33 : decode cX3_drive 33 = .ok (.ireturn, 1) := by decide +kernel
theorem dX3_drive_34 : decode cX3_drive 34 = .ok (.aload_n 0, 1) := by decide +kernel
theorem dX3_drive_35 : decode cX3_drive 35 = .ok (.getfield 56, 3) := by decide +kernel
theorem dX3_drive_38 : decode cX3_drive 38 = .ok (.iload_n 1, 1) := by decide +kernel
theorem dX3_drive_39 : decode cX3_drive 39 = .ok (.i2l, 1) := by decide +kernel
theorem dX3_drive_40 : decode cX3_drive 40 = .ok (.ladd, 1) := by decide +kernel
theorem dX3_drive_41 : decode cX3_drive 41 = .ok (.ldc2_w 88, 3) := by decide +kernel
theorem dX3_drive_44 : decode cX3_drive 44 = .ok (.lcmp, 1) := by decide +kernel
theorem dX3_drive_45 : decode cX3_drive 45 = .ok (.ifCond .le 5, 3) := by decide +kernel
theorem dX3_drive_48 : decode cX3_drive 48 = .ok (.iconst 0, 1) := by decide +kernel
theorem dX3_drive_49 : decode cX3_drive 49 = .ok (.ireturn, 1) := by decide +kernel
theorem dX3_drive_50 : decode cX3_drive 50 = .ok (.aload_n 0, 1) := by decide +kernel
theorem dX3_drive_51 : decode cX3_drive 51 = .ok (.dup, 1) := by decide +kernel
theorem dX3_drive_52 : decode cX3_drive 52 = .ok (.getfield 56, 3) := by decide +kernel
theorem dX3_drive_55 : decode cX3_drive 55 = .ok (.iload_n 1, 1) := by decide +kernel
theorem dX3_drive_56 : decode cX3_drive 56 = .ok (.i2l, 1) := by decide +kernel
theorem dX3_drive_57 : decode cX3_drive 57 = .ok (.ladd, 1) := by decide +kernel
theorem dX3_drive_58 : decode cX3_drive 58 = .ok (.putfield 56, 3) := by decide +kernel
theorem dX3_drive_61 : decode cX3_drive 61 = .ok (.aload_n 0, 1) := by decide +kernel
theorem dX3_drive_62 : decode cX3_drive 62 = .ok (.getfield 10, 3) := by decide +kernel
theorem dX3_drive_65 : decode cX3_drive 65 = .ok (.iload_n 1, 1) := by decide +kernel
theorem dX3_drive_66 : decode cX3_drive 66 = .ok (.iload_n 1, 1) := by decide +kernel
theorem dX3_drive_67 : decode cX3_drive 67 = .ok (.iload_n 2, 1) := by decide +kernel
theorem dX3_drive_68 : decode cX3_drive 68 = .ok (.iload_n 2, 1) := by decide +kernel
theorem dX3_drive_69 : decode cX3_drive 69 = .ok (.iload_n 3, 1) := by decide +kernel
theorem dX3_drive_70 : decode cX3_drive 70 = .ok (.invokevirtual 90, 3) := by decide +kernel
theorem dX3_drive_73 : decode cX3_drive 73 = .ok (.aload_n 0, 1) := by decide +kernel
theorem dX3_drive_74 : decode cX3_drive 74 = .ok (.getfield 10, 3) := by decide +kernel
theorem dX3_drive_77 : decode cX3_drive 77 = .ok (.iload_n 2, 1) := by decide +kernel
theorem dX3_drive_78 : decode cX3_drive 78 = .ok (.invokevirtual 94, 3) := by decide +kernel
theorem dX3_drive_81 : decode cX3_drive 81 = .ok (.aload_n 0, 1) := by decide +kernel
theorem dX3_drive_82 : decode cX3_drive 82 = .ok (.getfield 10, 3) := by decide +kernel
theorem dX3_drive_85 : decode cX3_drive 85 = .ok (.invokevirtual 97, 3) := by decide +kernel
theorem dX3_drive_88 : decode cX3_drive 88 = .ok (.iconst 1, 1) := by decide +kernel
theorem dX3_drive_89 : decode cX3_drive 89 = .ok (.ireturn, 1) := by decide +kernel
set_option maxRecDepth 20000 in
theorem ggX3_gap_X3_gapFits : GoodIn wsX3_gap wsX3_gapFits := goodIn_r _ [5, 6, 7, 8, 9, 10, 11, 4, 12, 47, 48, 49, 50, 51, 52, 53, 54, 55, 56, 57, 58] (by decide +kernel) (by decide +kernel)
set_option maxRecDepth 20000 in
theorem gX3_gap_X3_gapFits : GoodIn wsX3_gap (wsV RX3 100 RX3 yX3_gapFits wsX3_gapFits) := goodIn_app (goodIn_of _ (by decide +kernel)) ggX3_gap_X3_gapFits
set_option maxRecDepth 20000 in
theorem ggX3_gap_X3_passGap : GoodIn wsX3_gap wsX3_passGap := goodIn_r _ [16, 8, 17, 7, 18, 19, 20, 21, 22, 23, 24, 25, 26, 27, 28, 29, 30, 31, 32, 33, 34, 35, 36, 37, 38, 39, 40, 41, 42, 43, 44, 45, 46, 47, 48, 49, 50, 51, 52, 53, 54, 55, 56, 57, 58, 59, 60, 61, 62, 63, 64, 65, 66, 67, 68, 69, 70, 71, 72, 73] (by decide +kernel) (by decide +kernel)
set_option maxRecDepth 20000 in
theorem gX3_gap_X3_passGap : GoodIn wsX3_gap (wsV RX3 103 RX3 yX3_passGap wsX3_passGap) := goodIn_app (goodIn_of _ (by decide +kernel)) ggX3_gap_X3_passGap
theorem dX3_gap_0 : decode cX3_gap 0 = .ok (.aload_n 0, 1) := by decide +kernel
theorem dX3_gap_1 : decode cX3_gap 1 = .ok (.iload_n 1, 1) := by decide +kernel
theorem dX3_gap_2 : decode cX3_gap 2 = .ok (.invokevirtual 100, 3) := by decide +kernel
theorem dX3_gap_5 : decode cX3_gap 5 = .ok (.ifCond .ne 5, 3) := by decide +kernel
theorem dX3_gap_8 : decode cX3_gap 8 = .ok (.iconst 0, 1) := by decide +kernel
theorem dX3_gap_9 : decode cX3_gap 9 = .ok (.ireturn, 1) := by decide +kernel
theorem dX3_gap_10 : decode cX3_gap 10 = .ok (.aload_n 0, 1) := by decide +kernel
theorem dX3_gap_11 : decode cX3_gap 11 = .ok (.iload_n 1, 1) := by decide +kernel
theorem dX3_gap_12 : decode cX3_gap 12 = .ok (.invokevirtual 103, 3) := by decide +kernel
theorem dX3_gap_15 : decode cX3_gap 15 = .ok (.iconst 1, 1) := by decide +kernel
theorem dX3_gap_16 : decode cX3_gap 16 = .ok (.ireturn, 1) := by decide +kernel
set_option maxRecDepth 20000 in
theorem ggX3_tells_X3_within : GoodIn wsX3_tells wsX3_within := goodIn_r _ [14] (by decide +kernel) (by decide +kernel)
set_option maxRecDepth 20000 in
theorem gX3_tells_X3_within : GoodIn wsX3_tells (va_wsS RX3 79 yX3_within wsX3_within) := goodIn_app (goodIn_of _ (by decide +kernel)) ggX3_tells_X3_within
set_option maxRecDepth 20000 in
theorem ggX3_tells_X0_takeRefill : GoodIn wsX3_tells wsX0_takeRefill := goodIn_r _ [18, 19, 20, 21, 22, 23, 24, 25, 26, 27, 28, 29, 30, 31, 16, 32, 33, 34, 35, 36, 37, 38, 39, 40, 41, 42, 43, 83, 84, 85, 86, 87, 88, 89, 90, 91, 92, 93, 94, 95, 96, 97] (by decide +kernel) (by decide +kernel)
set_option maxRecDepth 20000 in
theorem gX3_tells_X0_takeRefill_n118 : GoodIn wsX3_tells (wsX0_takeRefill) := ggX3_tells_X0_takeRefill
set_option maxRecDepth 20000 in
theorem ggX3_tells_X0_takeLoss : GoodIn wsX3_tells wsX0_takeLoss := goodIn_r _ [46, 47, 24, 34, 35, 36, 16, 37, 23, 21, 38, 39, 40, 41, 42, 43, 83, 84, 85, 86, 87, 88, 89, 90, 91, 92, 93, 94, 95, 96, 97] (by decide +kernel) (by decide +kernel)
set_option maxRecDepth 20000 in
theorem gX3_tells_X0_takeLoss_n125 : GoodIn wsX3_tells (wsX0_takeLoss) := ggX3_tells_X0_takeLoss
set_option maxRecDepth 20000 in
theorem ggX3_tells_X0_narrow : GoodIn wsX3_tells wsX0_narrow := goodIn_r _ [50, 23, 51, 4, 5, 6, 21, 52, 8, 9, 53, 54, 55, 16, 56, 24, 19, 27, 26, 28, 25, 20, 57, 58, 59, 22, 60, 61, 62, 63, 64, 65, 66, 38, 40, 41, 42, 43, 67, 68, 69, 70, 83, 84, 85, 86, 87, 88, 89, 90, 91, 92, 93, 94, 95, 96, 97] (by decide +kernel) (by decide +kernel)
set_option maxRecDepth 20000 in
theorem gX3_tells_X0_narrow_n128 : GoodIn wsX3_tells (wsX0_narrow) := ggX3_tells_X0_narrow
theorem dX3_tells_0 : decode cX3_tells 0 = .ok (.iload_n 1, 1) := by decide +kernel
theorem dX3_tells_1 : decode cX3_tells 1 = .ok (.iconst 0, 1) := by decide +kernel
theorem dX3_tells_2 : decode cX3_tells 2 = .ok (.sipush 255, 3) := by decide +kernel
theorem dX3_tells_5 : decode cX3_tells 5 = .ok (.invokestatic 79, 3) := by decide +kernel
theorem dX3_tells_8 : decode cX3_tells 8 = .ok (.ifCond .ne 5, 3) := by decide +kernel
theorem dX3_tells_11 : decode cX3_tells 11 = .ok (.iconst (-1), 1) := by decide +kernel
theorem dX3_tells_12 : decode cX3_tells 12 = .ok (.ireturn, 1) := by decide +kernel
theorem dX3_tells_13 : decode cX3_tells 13 = .ok (.iconst 0, 1) := by decide +kernel
theorem dX3_tells_14 : decode cX3_tells 14 = .ok (.aload_n 0, 1) := by decide +kernel
theorem dX3_tells_15 : decode cX3_tells 15 = .ok (.getfield 34, 3) := by decide +kernel
theorem dX3_tells_18 : decode cX3_tells 18 = .ok (.iload_n 1, 1) := by decide +kernel
end
section
theorem dX3_tells_19 : decode cX3_tells 19 = .ok (.aload_n 0, 1) := by decide +kernel
theorem dX3_tells_20 : decode cX3_tells 20 = .ok (.getfield 41, 3) := by decide +kernel
theorem dX3_tells_23 : decode cX3_tells 23 = .ok (.isub, 1) := by decide +kernel
theorem dX3_tells_24 : decode cX3_tells 24 = .ok (.imul, 1) := by decide +kernel
theorem dX3_tells_25 : decode cX3_tells 25 = .ok (.sipush 255, 3) := by decide +kernel
theorem dX3_tells_28 : decode cX3_tells 28 = .ok (.idiv, 1) := by decide +kernel
theorem dX3_tells_29 : decode cX3_tells 29 = .ok (.invokestatic 106, 3) := by decide +kernel
theorem dX3_tells_32 : decode cX3_tells 32 = .ok (.istore_n 2, 1) := by decide +kernel
theorem dX3_tells_33 : decode cX3_tells 33 = .ok (.aload_n 0, 1) := by decide +kernel
theorem dX3_tells_34 : decode cX3_tells 34 = .ok (.getfield 34, 3) := by decide +kernel
theorem dX3_tells_37 : decode cX3_tells 37 = .ok (.aload_n 0, 1) := by decide +kernel
theorem dX3_tells_38 : decode cX3_tells 38 = .ok (.getfield 34, 3) := by decide +kernel
theorem dX3_tells_41 : decode cX3_tells 41 = .ok (.iload_n 1, 1) := by decide +kernel
theorem dX3_tells_42 : decode cX3_tells 42 = .ok (.iconst 1, 1) := by decide +kernel
theorem dX3_tells_43 : decode cX3_tells 43 = .ok (.iadd, 1) := by decide +kernel
theorem dX3_tells_44 : decode cX3_tells 44 = .ok (.aload_n 0, 1) := by decide +kernel
theorem dX3_tells_45 : decode cX3_tells 45 = .ok (.getfield 41, 3) := by decide +kernel
theorem dX3_tells_48 : decode cX3_tells 48 = .ok (.iadd, 1) := by decide +kernel
theorem dX3_tells_49 : decode cX3_tells 49 = .ok (.imul, 1) := by decide +kernel
theorem dX3_tells_50 : decode cX3_tells 50 = .ok (.sipush 255, 3) := by decide +kernel
theorem dX3_tells_53 : decode cX3_tells 53 = .ok (.idiv, 1) := by decide +kernel
theorem dX3_tells_54 : decode cX3_tells 54 = .ok (.invokestatic 112, 3) := by decide +kernel
theorem dX3_tells_57 : decode cX3_tells 57 = .ok (.istore_n 3, 1) := by decide +kernel
theorem dX3_tells_58 : decode cX3_tells 58 = .ok (.iload_n 2, 1) := by decide +kernel
theorem dX3_tells_59 : decode cX3_tells 59 = .ok (.aload_n 0, 1) := by decide +kernel
theorem dX3_tells_60 : decode cX3_tells 60 = .ok (.getfield 10, 3) := by decide +kernel
theorem dX3_tells_63 : decode cX3_tells 63 = .ok (.getfield 115, 3) := by decide +kernel
theorem dX3_tells_66 : decode cX3_tells 66 = .ok (.if_icmp .le 14, 3) := by decide +kernel
theorem dX3_tells_69 : decode cX3_tells 69 = .ok (.aload_n 0, 1) := by decide +kernel
theorem dX3_tells_70 : decode cX3_tells 70 = .ok (.getfield 10, 3) := by decide +kernel
theorem dX3_tells_73 : decode cX3_tells 73 = .ok (.iload_n 2, 1) := by decide +kernel
theorem dX3_tells_74 : decode cX3_tells 74 = .ok (.iload_n 3, 1) := by decide +kernel
theorem dX3_tells_75 : decode cX3_tells 75 = .ok (.invokevirtual 118, 3) := by decide +kernel
theorem dX3_tells_78 : decode cX3_tells 78 = .ok (.iconst 1, 1) := by decide +kernel
theorem dX3_tells_79 : decode cX3_tells 79 = .ok (.ireturn, 1) := by decide +kernel
theorem dX3_tells_80 : decode cX3_tells 80 = .ok (.iload_n 3, 1) := by decide +kernel
theorem dX3_tells_81 : decode cX3_tells 81 = .ok (.aload_n 0, 1) := by decide +kernel
theorem dX3_tells_82 : decode cX3_tells 82 = .ok (.getfield 10, 3) := by decide +kernel
theorem dX3_tells_85 : decode cX3_tells 85 = .ok (.getfield 122, 3) := by decide +kernel
theorem dX3_tells_88 : decode cX3_tells 88 = .ok (.if_icmp .ge 14, 3) := by decide +kernel
theorem dX3_tells_91 : decode cX3_tells 91 = .ok (.aload_n 0, 1) := by decide +kernel
theorem dX3_tells_92 : decode cX3_tells 92 = .ok (.getfield 10, 3) := by decide +kernel
theorem dX3_tells_95 : decode cX3_tells 95 = .ok (.iload_n 2, 1) := by decide +kernel
theorem dX3_tells_96 : decode cX3_tells 96 = .ok (.iload_n 3, 1) := by decide +kernel
theorem dX3_tells_97 : decode cX3_tells 97 = .ok (.invokevirtual 125, 3) := by decide +kernel
theorem dX3_tells_100 : decode cX3_tells 100 = .ok (.iconst 2, 1) := by decide +kernel
theorem dX3_tells_101 : decode cX3_tells 101 = .ok (.ireturn, 1) := by decide +kernel
theorem dX3_tells_102 : decode cX3_tells 102 = .ok (.aload_n 0, 1) := by decide +kernel
theorem dX3_tells_103 : decode cX3_tells 103 = .ok (.getfield 10, 3) := by decide +kernel
theorem dX3_tells_106 : decode cX3_tells 106 = .ok (.iload_n 2, 1) := by decide +kernel
theorem dX3_tells_107 : decode cX3_tells 107 = .ok (.iload_n 3, 1) := by decide +kernel
theorem dX3_tells_108 : decode cX3_tells 108 = .ok (.invokevirtual 128, 3) := by decide +kernel
theorem dX3_tells_111 : decode cX3_tells 111 = .ok (.iconst 0, 1) := by decide +kernel
theorem dX3_tells_112 : decode cX3_tells 112 = .ok (.ireturn, 1) := by decide +kernel
set_option maxRecDepth 20000 in
theorem ggX3_set_X3_isMark : GoodIn wsX3_set wsX3_isMark := goodIn_r _ [5, 6, 7, 4, 8] (by decide +kernel) (by decide +kernel)
set_option maxRecDepth 20000 in
theorem gX3_set_X3_isMark : GoodIn wsX3_set (va_wsS RX3 131 yX3_isMark wsX3_isMark) := goodIn_app (goodIn_of _ (by decide +kernel)) ggX3_set_X3_isMark
set_option maxRecDepth 20000 in
theorem ggX3_set_X0_clearMark : GoodIn wsX3_set wsX0_clearMark := goodIn_r _ [12, 13, 26, 27, 28, 29, 30, 31, 32, 33, 34, 35, 36, 37, 38, 39, 40] (by decide +kernel) (by decide +kernel)
set_option maxRecDepth 20000 in
theorem gX3_set_X0_clearMark_n134 : GoodIn wsX3_set (wsX0_clearMark) := ggX3_set_X0_clearMark
theorem dX3_set_0 : decode cX3_set 0 = .ok (.iload_n 1, 1) := by decide +kernel
theorem dX3_set_1 : decode cX3_set 1 = .ok (.invokestatic 131, 3) := by decide +kernel
theorem dX3_set_4 : decode cX3_set 4 = .ok (.ifCond .ne 5, 3) := by decide +kernel
theorem dX3_set_7 : decode cX3_set 7 = .ok (.iconst 0, 1) := by decide +kernel
theorem dX3_set_8 : decode cX3_set 8 = .ok (.ireturn, 1) := by decide +kernel
theorem dX3_set_9 : decode cX3_set 9 = .ok (.aload_n 0, 1) := by decide +kernel
theorem dX3_set_10 : decode cX3_set 10 = .ok (.getfield 10, 3) := by decide +kernel
theorem dX3_set_13 : decode cX3_set 13 = .ok (.iload_n 1, 1) := by decide +kernel
theorem dX3_set_14 : decode cX3_set 14 = .ok (.invokevirtual 134, 3) := by decide +kernel
theorem dX3_set_17 : decode cX3_set 17 = .ok (.iconst 1, 1) := by decide +kernel
theorem dX3_set_18 : decode cX3_set 18 = .ok (.ireturn, 1) := by decide +kernel
set_option maxRecDepth 20000 in
theorem ggX3_keep_X0_copyFrom : GoodIn wsX3_keep wsX0_copyFrom := goodIn_r _ [6, 7, 8, 9, 10, 11, 12, 13, 14, 15, 16, 17, 18, 19, 20, 21, 22, 23, 24, 25, 38, 39, 40, 41, 42, 43, 44, 45, 46, 47, 48, 49, 50, 51, 52] (by decide +kernel) (by decide +kernel)
set_option maxRecDepth 20000 in
theorem gX3_keep_X0_copyFrom_n137 : GoodIn wsX3_keep (wsX0_copyFrom) := ggX3_keep_X0_copyFrom
theorem dX3_keep_0 : decode cX3_keep 0 = .ok (.aload_n 0, 1) := by decide +kernel
theorem dX3_keep_1 : decode cX3_keep 1 = .ok (.getfield 16, 3) := by decide +kernel
theorem dX3_keep_4 : decode cX3_keep 4 = .ok (.aload_n 0, 1) := by decide +kernel
theorem dX3_keep_5 : decode cX3_keep 5 = .ok (.getfield 10, 3) := by decide +kernel
theorem dX3_keep_8 : decode cX3_keep 8 = .ok (.invokevirtual 137, 3) := by decide +kernel
theorem dX3_keep_11 : decode cX3_keep 11 = .ok (.return_, 1) := by decide +kernel
set_option maxRecDepth 20000 in
theorem ggX3_dead_X3_gapFits : GoodIn wsX3_dead wsX3_gapFits := goodIn_r _ [7, 8, 9, 10, 11, 12, 13, 6, 14, 64, 65, 66, 67, 68, 69, 70, 71, 72, 73, 74, 75] (by decide +kernel) (by decide +kernel)
set_option maxRecDepth 20000 in
theorem gX3_dead_X3_gapFits : GoodIn wsX3_dead (wsV RX3 100 RX3 yX3_gapFits wsX3_gapFits) := goodIn_app (goodIn_of _ (by decide +kernel)) ggX3_dead_X3_gapFits
set_option maxRecDepth 20000 in
theorem ggX3_dead_X0_copyFrom : GoodIn wsX3_dead wsX0_copyFrom := goodIn_r _ [18, 19, 20, 21, 22, 23, 24, 25, 26, 27, 28, 29, 30, 31, 32, 33, 34, 35, 36, 37, 76, 77, 78, 79, 80, 81, 82, 83, 84, 85, 86, 87, 88, 89, 90] (by decide +kernel) (by decide +kernel)
set_option maxRecDepth 20000 in
theorem gX3_dead_X0_copyFrom_n137 : GoodIn wsX3_dead (wsX0_copyFrom) := ggX3_dead_X0_copyFrom
set_option maxRecDepth 20000 in
theorem ggX3_dead_X3_passGap : GoodIn wsX3_dead wsX3_passGap := goodIn_r _ [41, 10, 42, 9, 1, 43, 16, 44, 45, 31, 29, 30, 46, 47, 48, 19, 49, 50, 51, 52, 53, 54, 55, 25, 56, 57, 58, 59, 20, 60, 61, 62, 63, 64, 65, 66, 67, 68, 69, 70, 71, 72, 73, 74, 75, 76, 77, 78, 79, 80, 81, 82, 83, 84, 85, 86, 87, 88, 89, 90] (by decide +kernel) (by decide +kernel)
set_option maxRecDepth 20000 in
theorem gX3_dead_X3_passGap : GoodIn wsX3_dead (wsV RX3 103 RX3 yX3_passGap wsX3_passGap) := goodIn_app (goodIn_of _ (by decide +kernel)) ggX3_dead_X3_passGap
theorem dX3_dead_0 : decode cX3_dead 0 = .ok (.aload_n 0, 1) := by decide +kernel
theorem dX3_dead_1 : decode cX3_dead 1 = .ok (.iload_n 1, 1) := by decide +kernel
theorem dX3_dead_2 : decode cX3_dead 2 = .ok (.invokevirtual 100, 3) := by decide +kernel
theorem dX3_dead_5 : decode cX3_dead 5 = .ok (.ifCond .ne 5, 3) := by decide +kernel
theorem dX3_dead_8 : decode cX3_dead 8 = .ok (.iconst 0, 1) := by decide +kernel
theorem dX3_dead_9 : decode cX3_dead 9 = .ok (.ireturn, 1) := by decide +kernel
theorem dX3_dead_10 : decode cX3_dead 10 = .ok (.aload_n 0, 1) := by decide +kernel
theorem dX3_dead_11 : decode cX3_dead 11 = .ok (.getfield 10, 3) := by decide +kernel
theorem dX3_dead_14 : decode cX3_dead 14 = .ok (.aload_n 0, 1) := by decide +kernel
theorem dX3_dead_15 : decode cX3_dead 15 = .ok (.getfield 16, 3) := by decide +kernel
theorem dX3_dead_18 : decode cX3_dead 18 = .ok (.invokevirtual 137, 3) := by decide +kernel
theorem dX3_dead_21 : decode cX3_dead 21 = .ok (.aload_n 0, 1) := by decide +kernel
theorem dX3_dead_22 : decode cX3_dead 22 = .ok (.iload_n 1, 1) := by decide +kernel
theorem dX3_dead_23 : decode cX3_dead 23 = .ok (.invokevirtual 103, 3) := by decide +kernel
theorem dX3_dead_26 : decode cX3_dead 26 = .ok (.iconst 1, 1) := by decide +kernel
theorem dX3_dead_27 : decode cX3_dead 27 = .ok (.ireturn, 1) := by decide +kernel
theorem dX3_span_0 : decode cX3_span 0 = .ok (.iload_n 1, 1) := by decide +kernel
theorem dX3_span_1 : decode cX3_span 1 = .ok (.ifCond .eq 13, 3) := by decide +kernel
theorem dX3_span_4 : decode cX3_span 4 = .ok (.aload_n 0, 1) := by decide +kernel
theorem dX3_span_5 : decode cX3_span 5 = .ok (.getfield 10, 3) := by decide +kernel
theorem dX3_span_8 : decode cX3_span 8 = .ok (.getfield 115, 3) := by decide +kernel
theorem dX3_span_11 : decode cX3_span 11 = .ok (.goto 10, 3) := by decide +kernel
theorem dX3_span_14 : decode cX3_span 14 = .ok (.aload_n 0, 1) := by decide +kernel
theorem dX3_span_15 : decode cX3_span 15 = .ok (.getfield 10, 3) := by decide +kernel
theorem dX3_span_18 : decode cX3_span 18 = .ok (.getfield 122, 3) := by decide +kernel
theorem dX3_span_21 : decode cX3_span 21 = .ok (.ireturn, 1) := by decide +kernel
set_option maxRecDepth 20000 in
theorem ggX3_mark_X3_isMark : GoodIn wsX3_mark wsX3_isMark := goodIn_r _ [7, 8, 9, 6, 10] (by decide +kernel) (by decide +kernel)
set_option maxRecDepth 20000 in
theorem gX3_mark_X3_isMark : GoodIn wsX3_mark (va_wsS RX3 131 yX3_isMark wsX3_isMark) := goodIn_app (goodIn_of _ (by decide +kernel)) ggX3_mark_X3_isMark
set_option maxRecDepth 20000 in
theorem ggX3_mark_X3_within : GoodIn wsX3_mark wsX3_within := goodIn_r _ [10] (by decide +kernel) (by decide +kernel)
set_option maxRecDepth 20000 in
theorem gX3_mark_X3_within : GoodIn wsX3_mark (va_wsS RX3 79 yX3_within wsX3_within) := goodIn_app (goodIn_of _ (by decide +kernel)) ggX3_mark_X3_within
set_option maxRecDepth 20000 in
theorem ggX3_mark_X0_marked : GoodIn wsX3_mark wsX0_marked := goodIn_r _ [14, 15, 28, 29, 30, 31, 32, 33, 34, 35, 36, 37, 38, 39, 40, 41, 42] (by decide +kernel) (by decide +kernel)
set_option maxRecDepth 20000 in
theorem gX3_mark_X0_marked_n148 : GoodIn wsX3_mark (wsX0_marked) := ggX3_mark_X0_marked
theorem dX3_mark_0 : decode cX3_mark 0 = .ok (.iload_n 1, 1) := by decide +kernel
theorem dX3_mark_1 : decode cX3_mark 1 = .ok (.invokestatic 131, 3) := by decide +kernel
theorem dX3_mark_4 : decode cX3_mark 4 = .ok (.ifCond .eq 12, 3) := by decide +kernel
theorem dX3_mark_7 : decode cX3_mark 7 = .ok (.iload_n 2, 1) := by decide +kernel
theorem dX3_mark_8 : decode cX3_mark 8 = .ok (.iconst 0, 1) := by decide +kernel
theorem dX3_mark_9 : decode cX3_mark 9 = .ok (.iconst 4, 1) := by decide +kernel
theorem dX3_mark_10 : decode cX3_mark 10 = .ok (.invokestatic 79, 3) := by decide +kernel
theorem dX3_mark_13 : decode cX3_mark 13 = .ok (.ifCond .ne 13, 3) := by decide +kernel
theorem dX3_mark_16 : decode cX3_mark 16 = .ok (.new 141, 3) := by decide +kernel
theorem dX3_mark_19 : decode cX3_mark 19 = .ok (.dup, 1) := by decide +kernel
theorem dX3_mark_20 : decode cX3_mark 20 = .ok (.ldc 143, 2) := by decide +kernel
theorem dX3_mark_22 : decode cX3_mark 22 = .ok (.invokespecial 145, 3) := by decide +kernel
theorem dX3_mark_25 : decode cX3_mark 25 = .ok (.athrow, 1) := by decide +kernel
theorem dX3_mark_26 : decode cX3_mark 26 = .ok (.aload_n 0, 1) := by decide +kernel
theorem dX3_mark_27 : decode cX3_mark 27 = .ok (.getfield 10, 3) := by decide +kernel
theorem dX3_mark_30 : decode cX3_mark 30 = .ok (.iload_n 1, 1) := by decide +kernel
theorem dX3_mark_31 : decode cX3_mark 31 = .ok (.iload_n 2, 1) := by decide +kernel
theorem dX3_mark_32 : decode cX3_mark 32 = .ok (.invokevirtual 148, 3) := by decide +kernel
theorem dX3_mark_35 : decode cX3_mark 35 = .ok (.lreturn, 1) := by decide +kernel
set_option maxRecDepth 20000 in
theorem ggX3_metres_X3_isMark : GoodIn wsX3_metres wsX3_isMark := goodIn_r _ [7, 8, 9, 6, 10] (by decide +kernel) (by decide +kernel)
set_option maxRecDepth 20000 in
theorem gX3_metres_X3_isMark : GoodIn wsX3_metres (va_wsS RX3 131 yX3_isMark wsX3_isMark) := goodIn_app (goodIn_of _ (by decide +kernel)) ggX3_metres_X3_isMark
set_option maxRecDepth 20000 in
theorem ggX3_metres_X3_wayInHundredths : GoodIn wsX3_metres wsX3_wayInHundredths := goodIn_r _ [14, 15, 16, 17, 18, 19, 20, 21, 22, 23, 24, 25, 26, 27, 28, 29, 30, 31, 32, 33, 34, 35, 36, 37, 38, 39, 40, 41, 42, 43, 44, 45, 46, 47, 48] (by decide +kernel) (by decide +kernel)
set_option maxRecDepth 20000 in
theorem gX3_metres_X3_wayInHundredths : GoodIn wsX3_metres (wsV RX3 154 RX3 yX3_wayInHundredths wsX3_wayInHundredths) := goodIn_app (goodIn_of _ (by decide +kernel)) ggX3_metres_X3_wayInHundredths
theorem dX3_metres_0 : decode cX3_metres 0 = .ok (.iload_n 1, 1) := by decide +kernel
theorem dX3_metres_1 : decode cX3_metres 1 = .ok (.invokestatic 131, 3) := by decide +kernel
theorem dX3_metres_4 : decode cX3_metres 4 = .ok (.ifCond .ne 13, 3) := by decide +kernel
theorem dX3_metres_7 : decode cX3_metres 7 = .ok (.new 141, 3) := by decide +kernel
theorem dX3_metres_10 : decode cX3_metres 10 = .ok (.dup, 1) := by decide +kernel
theorem dX3_metres_11 : decode cX3_metres 11 = .ok (.ldc 152, 2) := by decide +kernel
theorem dX3_metres_13 : decode cX3_metres 13 = .ok (.invokespecial 145, 3) := by decide +kernel
theorem dX3_metres_16 : decode cX3_metres 16 = .ok (.athrow, 1) := by decide +kernel
theorem dX3_metres_17 : decode cX3_metres 17 = .ok (.aload_n 0, 1) := by decide +kernel
theorem dX3_metres_18 : decode cX3_metres 18 = .ok (.iload_n 1, 1) := by decide +kernel
theorem dX3_metres_19 : decode cX3_metres 19 = .ok (.iload_n 2, 1) := by decide +kernel
theorem dX3_metres_20 : decode cX3_metres 20 = .ok (.invokevirtual 154, 3) := by decide +kernel
theorem dX3_metres_23 : decode cX3_metres 23 = .ok (.ldc2_w 158, 3) := by decide +kernel
theorem dX3_metres_26 : decode cX3_metres 26 = .ok (.ldiv, 1) := by decide +kernel
theorem dX3_metres_27 : decode cX3_metres 27 = .ok (.lreturn, 1) := by decide +kernel
set_option maxRecDepth 20000 in
theorem ggX3_average_X3_isMark : GoodIn wsX3_average wsX3_isMark := goodIn_r _ [8, 9, 10, 7, 11] (by decide +kernel) (by decide +kernel)
set_option maxRecDepth 20000 in
theorem gX3_average_X3_isMark : GoodIn wsX3_average (va_wsS RX3 131 yX3_isMark wsX3_isMark) := goodIn_app (goodIn_of _ (by decide +kernel)) ggX3_average_X3_isMark
set_option maxRecDepth 20000 in
theorem ggX3_average_X3_within : GoodIn wsX3_average wsX3_within := goodIn_r _ [11] (by decide +kernel) (by decide +kernel)
set_option maxRecDepth 20000 in
theorem gX3_average_X3_within : GoodIn wsX3_average (va_wsS RX3 79 yX3_within wsX3_within) := goodIn_app (goodIn_of _ (by decide +kernel)) ggX3_average_X3_within
set_option maxRecDepth 20000 in
theorem ggX3_average_X3_wayInHundredths : GoodIn wsX3_average wsX3_wayInHundredths := goodIn_r _ [15, 3, 16, 17, 18, 19, 20, 21, 25, 26, 27, 28, 29, 30, 31, 32, 33, 34, 35, 36, 37, 38, 39, 40, 41, 42, 43, 44, 45, 46, 47, 48, 49, 50, 51] (by decide +kernel) (by decide +kernel)
set_option maxRecDepth 20000 in
theorem gX3_average_X3_wayInHundredths : GoodIn wsX3_average (wsV RX3 154 RX3 yX3_wayInHundredths wsX3_wayInHundredths) := goodIn_app (goodIn_of _ (by decide +kernel)) ggX3_average_X3_wayInHundredths
set_option maxRecDepth 20000 in
theorem ggX3_average_X0_marked : GoodIn wsX3_average wsX0_marked := goodIn_r _ [20, 21, 37, 38, 39, 40, 41, 42, 43, 44, 45, 46, 47, 48, 49, 50, 51] (by decide +kernel) (by decide +kernel)
set_option maxRecDepth 20000 in
theorem gX3_average_X0_marked_n148 : GoodIn wsX3_average (wsX0_marked) := ggX3_average_X0_marked
set_option maxRecDepth 20000 in
theorem ggX3_average_X3_commonDivisor : GoodIn wsX3_average wsX3_commonDivisor := goodIn_r _ [24] (by decide +kernel) (by decide +kernel)
set_option maxRecDepth 20000 in
theorem gX3_average_X3_commonDivisor : GoodIn wsX3_average (va_wsS RX3 164 yX3_commonDivisor wsX3_commonDivisor) := goodIn_app (goodIn_of _ (by decide +kernel)) ggX3_average_X3_commonDivisor
theorem dX3_average_0 : decode cX3_average 0 = .ok (.iload_n 1, 1) := by decide +kernel
theorem dX3_average_1 : decode cX3_average 1 = .ok (.invokestatic 131, 3) := by decide +kernel
theorem dX3_average_4 : decode cX3_average 4 = .ok (.ifCond .eq 12, 3) := by decide +kernel
theorem dX3_average_7 : decode cX3_average 7 = .ok (.iload_n 3, 1) := by decide +kernel
theorem dX3_average_8 : decode cX3_average 8 = .ok (.iconst 0, 1) := by decide +kernel
theorem dX3_average_9 : decode cX3_average 9 = .ok (.iconst 1, 1) := by decide +kernel
theorem dX3_average_10 : decode cX3_average 10 = .ok (.invokestatic 79, 3) := by decide +kernel
theorem dX3_average_13 : decode cX3_average 13 = .ok (.ifCond .ne 13, 3) := by decide +kernel
theorem dX3_average_16 : decode cX3_average 16 = .ok (.new 141, 3) := by decide +kernel
theorem dX3_average_19 : decode cX3_average 19 = .ok (.dup, 1) := by decide +kernel
theorem dX3_average_20 : decode cX3_average 20 = .ok (.ldc 143, 2) := by decide +kernel
theorem dX3_average_22 : decode cX3_average 22 = .ok (.invokespecial 145, 3) := by decide +kernel
theorem dX3_average_25 : decode cX3_average 25 = .ok (.athrow, 1) := by decide +kernel
theorem dX3_average_26 : decode cX3_average 26 = .ok (.aload_n 0, 1) := by decide +kernel
theorem dX3_average_27 : decode cX3_average 27 = .ok (.iload_n 1, 1) := by decide +kernel
theorem dX3_average_28 : decode cX3_average 28 = .ok (.iload_n 2, 1) := by decide +kernel
theorem dX3_average_29 : decode cX3_average 29 = .ok (.ifCond .ne 7, 3) := by decide +kernel
theorem dX3_average_32 : decode cX3_average 32 = .ok (.iconst 1, 1) := by decide +kernel
theorem dX3_average_33 : decode cX3_average 33 = .ok (.goto 4, 3) := by decide +kernel
theorem dX3_average_36 : decode cX3_average 36 = .ok (.iconst 0, 1) := by decide +kernel
theorem dX3_average_37 : decode cX3_average 37 = .ok (.invokevirtual 154, 3) := by decide +kernel
theorem dX3_average_40 : decode cX3_average 40 = .ok (.lstore 4, 2) := by decide +kernel
theorem dX3_average_42 : decode cX3_average 42 = .ok (.lload 4, 2) := by decide +kernel
theorem dX3_average_44 : decode cX3_average 44 = .ok (.lconst 1, 1) := by decide +kernel
theorem dX3_average_45 : decode cX3_average 45 = .ok (.lcmp, 1) := by decide +kernel
theorem dX3_average_46 : decode cX3_average 46 = .ok (.ifCond .ge 13, 3) := by decide +kernel
theorem dX3_average_49 : decode cX3_average 49 = .ok (.new 141, 3) := by decide +kernel
theorem dX3_average_52 : decode cX3_average 52 = .ok (.dup, 1) := by decide +kernel
theorem dX3_average_53 : decode cX3_average 53 = .ok (.ldc 160, 2) := by decide +kernel
theorem dX3_average_55 : decode cX3_average 55 = .ok (.invokespecial 145, 3) := by decide +kernel
theorem dX3_average_58 : decode cX3_average 58 = .ok (.athrow, 1) := by decide +kernel
theorem dX3_average_59 : decode cX3_average 59 = .ok (.aload_n 0, 1) := by decide +kernel
theorem dX3_average_60 : decode cX3_average 60 = .ok (.getfield 10, 3) := by decide +kernel
theorem dX3_average_63 : decode cX3_average 63 = .ok (.iload_n 1, 1) := by decide +kernel
theorem dX3_average_64 : decode cX3_average 64 = .ok (.iload_n 2, 1) := by decide +kernel
theorem dX3_average_65 : decode cX3_average 65 = .ok (.ifCond .eq 7, 3) := by decide +kernel
theorem dX3_average_68 : decode cX3_average 68 = .ok (.iconst 3, 1) := by decide +kernel
theorem dX3_average_69 : decode cX3_average 69 = .ok (.goto 4, 3) := by decide +kernel
theorem dX3_average_72 : decode cX3_average 72 = .ok (.iconst 2, 1) := by decide +kernel
theorem dX3_average_73 : decode cX3_average 73 = .ok (.invokevirtual 148, 3) := by decide +kernel
theorem dX3_average_76 : decode cX3_average 76 = .ok (.ldc2_w 162, 3) := by decide +kernel
theorem dX3_average_79 : decode cX3_average 79 = .ok (.lmul, 1) := by decide +kernel
theorem dX3_average_80 : decode cX3_average 80 = .ok (.lstore 6, 2) := by decide +kernel
theorem dX3_average_82 : decode cX3_average 82 = .ok (.lload 4, 2) := by decide +kernel
theorem dX3_average_84 : decode cX3_average 84 = .ok (.lload 6, 2) := by decide +kernel
theorem dX3_average_86 : decode cX3_average 86 = .ok (.invokestatic 164, 3) := by decide +kernel
theorem dX3_average_89 : decode cX3_average 89 = .ok (.lstore 8, 2) := by decide +kernel
theorem dX3_average_91 : decode cX3_average 91 = .ok (.iload_n 3, 1) := by decide +kernel
theorem dX3_average_92 : decode cX3_average 92 = .ok (.ifCond .ne 11, 3) := by decide +kernel
theorem dX3_average_95 : decode cX3_average 95 = .ok (.lload 6, 2) := by decide +kernel
theorem dX3_average_97 : decode cX3_average 97 = .ok (.lload 8, 2) := by decide +kernel
theorem dX3_average_99 : decode cX3_average 99 = .ok (.ldiv, 1) := by decide +kernel
theorem dX3_average_100 : decode cX3_average 100 = .ok (.goto 8, 3) := by decide +kernel
theorem dX3_average_103 : decode cX3_average 103 = .ok (.lload 4, 2) := by decide +kernel
theorem dX3_average_105 : decode cX3_average 105 = .ok (.lload 8, 2) := by decide +kernel
theorem dX3_average_107 : decode cX3_average 107 = .ok (.ldiv, 1) := by decide +kernel
theorem dX3_average_108 : decode cX3_average 108 = .ok (.lreturn, 1) := by decide +kernel
theorem dX3_range_0 : decode cX3_range 0 = .ok (.iload_n 1, 1) := by decide +kernel
theorem dX3_range_1 : decode cX3_range 1 = .ok (.ifCond .eq 18, 3) := by decide +kernel
theorem dX3_range_4 : decode cX3_range 4 = .ok (.aload_n 0, 1) := by decide +kernel
theorem dX3_range_5 : decode cX3_range 5 = .ok (.getfield 10, 3) := by decide +kernel
theorem dX3_range_8 : decode cX3_range 8 = .ok (.getfield 115, 3) := by decide +kernel
theorem dX3_range_11 : decode cX3_range 11 = .ok (.aload_n 0, 1) := by decide +kernel
theorem dX3_range_12 : decode cX3_range 12 = .ok (.getfield 50, 3) := by decide +kernel
theorem dX3_range_15 : decode cX3_range 15 = .ok (.idiv, 1) := by decide +kernel
theorem dX3_range_16 : decode cX3_range 16 = .ok (.goto 15, 3) := by decide +kernel
theorem dX3_range_19 : decode cX3_range 19 = .ok (.aload_n 0, 1) := by decide +kernel
theorem dX3_range_20 : decode cX3_range 20 = .ok (.getfield 10, 3) := by decide +kernel
theorem dX3_range_23 : decode cX3_range 23 = .ok (.getfield 122, 3) := by decide +kernel
theorem dX3_range_26 : decode cX3_range 26 = .ok (.aload_n 0, 1) := by decide +kernel
theorem dX3_range_27 : decode cX3_range 27 = .ok (.getfield 53, 3) := by decide +kernel
theorem dX3_range_30 : decode cX3_range 30 = .ok (.idiv, 1) := by decide +kernel
theorem dX3_range_31 : decode cX3_range 31 = .ok (.ireturn, 1) := by decide +kernel
theorem dX3_shown_0 : decode cX3_shown 0 = .ok (.aload_n 0, 1) := by decide +kernel
theorem dX3_shown_1 : decode cX3_shown 1 = .ok (.getfield 10, 3) := by decide +kernel
theorem dX3_shown_4 : decode cX3_shown 4 = .ok (.getfield 168, 3) := by decide +kernel
theorem dX3_shown_7 : decode cX3_shown 7 = .ok (.ireturn, 1) := by decide +kernel
set_option maxRecDepth 20000 in
theorem ggX3_refill_X0_tellsRefill : GoodIn wsX3_refill wsX0_tellsRefill := goodIn_r _ [7, 8, 26, 27, 28, 29, 30, 31, 32, 33, 34, 35, 36, 37, 38, 39, 40] (by decide +kernel) (by decide +kernel)
set_option maxRecDepth 20000 in
theorem gX3_refill_X0_tellsRefill_n171 : GoodIn wsX3_refill (wsX0_tellsRefill) := ggX3_refill_X0_tellsRefill
set_option maxRecDepth 20000 in
theorem ggX3_refill_X0_amount : GoodIn wsX3_refill wsX0_amount := goodIn_r _ [11, 12, 13, 26, 27, 28, 29, 30, 31, 32, 33, 34, 35, 36, 37, 38, 39, 40] (by decide +kernel) (by decide +kernel)
set_option maxRecDepth 20000 in
theorem gX3_refill_X0_amount_n176 : GoodIn wsX3_refill (wsX0_amount) := ggX3_refill_X0_amount
theorem dX3_refill_0 : decode cX3_refill 0 = .ok (.aload_n 0, 1) := by decide +kernel
theorem dX3_refill_1 : decode cX3_refill 1 = .ok (.getfield 10, 3) := by decide +kernel
theorem dX3_refill_4 : decode cX3_refill 4 = .ok (.iload_n 1, 1) := by decide +kernel
theorem dX3_refill_5 : decode cX3_refill 5 = .ok (.invokevirtual 171, 3) := by decide +kernel
theorem dX3_refill_8 : decode cX3_refill 8 = .ok (.ifCond .ne 13, 3) := by decide +kernel
theorem dX3_refill_11 : decode cX3_refill 11 = .ok (.new 141, 3) := by decide +kernel
theorem dX3_refill_14 : decode cX3_refill 14 = .ok (.dup, 1) := by decide +kernel
theorem dX3_refill_15 : decode cX3_refill 15 = .ok (.ldc 174, 2) := by decide +kernel
theorem dX3_refill_17 : decode cX3_refill 17 = .ok (.invokespecial 145, 3) := by decide +kernel
theorem dX3_refill_20 : decode cX3_refill 20 = .ok (.athrow, 1) := by decide +kernel
theorem dX3_refill_21 : decode cX3_refill 21 = .ok (.aload_n 0, 1) := by decide +kernel
theorem dX3_refill_22 : decode cX3_refill 22 = .ok (.getfield 10, 3) := by decide +kernel
theorem dX3_refill_25 : decode cX3_refill 25 = .ok (.iload_n 1, 1) := by decide +kernel
theorem dX3_refill_26 : decode cX3_refill 26 = .ok (.iload_n 2, 1) := by decide +kernel
theorem dX3_refill_27 : decode cX3_refill 27 = .ok (.invokevirtual 176, 3) := by decide +kernel
theorem dX3_refill_30 : decode cX3_refill 30 = .ok (.ireturn, 1) := by decide +kernel
set_option maxRecDepth 20000 in
theorem ggX3_plan_X1_read : GoodIn wsX3_plan wsX1_read := goodIn_r _ [9, 10, 11, 12, 69, 70, 71, 72, 73, 74, 75, 76, 77] (by decide +kernel) (by decide +kernel)
set_option maxRecDepth 20000 in
theorem gX3_plan_X1_read_n180 : GoodIn wsX3_plan (wsX1_read) := ggX3_plan_X1_read
set_option maxRecDepth 20000 in
theorem ggX3_plan_X2_shorten : GoodIn wsX3_plan wsX2_shorten := goodIn_r _ [16, 17, 69, 70] (by decide +kernel) (by decide +kernel)
set_option maxRecDepth 20000 in
theorem gX3_plan_X2_shorten_n74 : GoodIn wsX3_plan (wsX2_shorten) := ggX3_plan_X2_shorten
set_option maxRecDepth 20000 in
theorem ggX3_plan_X1_reckon : GoodIn wsX3_plan wsX1_reckon := goodIn_r _ [20, 21, 22, 23, 24, 11, 25, 26, 27, 28, 29, 7, 30, 10, 31, 32, 33, 34, 12, 35, 36, 37, 38, 39, 40, 41, 71, 72, 73, 74, 75, 76, 77] (by decide +kernel) (by decide +kernel)
set_option maxRecDepth 20000 in
theorem gX3_plan_X1_reckon_n184 : GoodIn wsX3_plan (wsX1_reckon) := ggX3_plan_X1_reckon
theorem dX3_plan_0 : decode cX3_plan 0 = .ok (.aload_n 0, 1) := by decide +kernel
theorem dX3_plan_1 : decode cX3_plan 1 = .ok (.getfield 29, 3) := by decide +kernel
theorem dX3_plan_4 : decode cX3_plan 4 = .ok (.aload_n 0, 1) := by decide +kernel
theorem dX3_plan_5 : decode cX3_plan 5 = .ok (.getfield 22, 3) := by decide +kernel
theorem dX3_plan_8 : decode cX3_plan 8 = .ok (.aload_n 0, 1) := by decide +kernel
theorem dX3_plan_9 : decode cX3_plan 9 = .ok (.getfield 53, 3) := by decide +kernel
theorem dX3_plan_12 : decode cX3_plan 12 = .ok (.invokevirtual 180, 3) := by decide +kernel
theorem dX3_plan_15 : decode cX3_plan 15 = .ok (.istore_n 1, 1) := by decide +kernel
theorem dX3_plan_16 : decode cX3_plan 16 = .ok (.aload_n 0, 1) := by decide +kernel
theorem dX3_plan_17 : decode cX3_plan 17 = .ok (.getfield 22, 3) := by decide +kernel
theorem dX3_plan_20 : decode cX3_plan 20 = .ok (.iconst 0, 1) := by decide +kernel
theorem dX3_plan_21 : decode cX3_plan 21 = .ok (.invokevirtual 74, 3) := by decide +kernel
theorem dX3_plan_24 : decode cX3_plan 24 = .ok (.pop, 1) := by decide +kernel
theorem dX3_plan_25 : decode cX3_plan 25 = .ok (.iload_n 1, 1) := by decide +kernel
theorem dX3_plan_26 : decode cX3_plan 26 = .ok (.ifCond .ne 6, 3) := by decide +kernel
theorem dX3_plan_29 : decode cX3_plan 29 = .ok (.bipush (-2), 2) := by decide +kernel
theorem dX3_plan_31 : decode cX3_plan 31 = .ok (.ireturn, 1) := by decide +kernel
theorem dX3_plan_32 : decode cX3_plan 32 = .ok (.aload_n 0, 1) := by decide +kernel
theorem dX3_plan_33 : decode cX3_plan 33 = .ok (.getfield 29, 3) := by decide +kernel
theorem dX3_plan_36 : decode cX3_plan 36 = .ok (.aload_n 0, 1) := by decide +kernel
theorem dX3_plan_37 : decode cX3_plan 37 = .ok (.getfield 10, 3) := by decide +kernel
theorem dX3_plan_40 : decode cX3_plan 40 = .ok (.getfield 122, 3) := by decide +kernel
theorem dX3_plan_43 : decode cX3_plan 43 = .ok (.sipush 1000, 3) := by decide +kernel
theorem dX3_plan_46 : decode cX3_plan 46 = .ok (.idiv, 1) := by decide +kernel
theorem dX3_plan_47 : decode cX3_plan 47 = .ok (.aload_n 0, 1) := by decide +kernel
theorem dX3_plan_48 : decode cX3_plan 48 = .ok (.getfield 34, 3) := by decide +kernel
theorem dX3_plan_51 : decode cX3_plan 51 = .ok (.sipush 1000, 3) := by decide +kernel
theorem dX3_plan_54 : decode cX3_plan 54 = .ok (.idiv, 1) := by decide +kernel
theorem dX3_plan_55 : decode cX3_plan 55 = .ok (.invokevirtual 184, 3) := by decide +kernel
theorem dX3_plan_58 : decode cX3_plan 58 = .ok (.ireturn, 1) := by decide +kernel
set_option maxRecDepth 20000 in
theorem ggX3_buys_X1_boughtAt : GoodIn wsX3_buys wsX1_boughtAt := goodIn_r _ [5, 6, 7, 20, 21, 22, 23, 24, 25, 26] (by decide +kernel) (by decide +kernel)
set_option maxRecDepth 20000 in
theorem gX3_buys_X1_boughtAt_n187 : GoodIn wsX3_buys (wsX1_boughtAt) := ggX3_buys_X1_boughtAt
theorem dX3_buys_0 : decode cX3_buys 0 = .ok (.aload_n 0, 1) := by decide +kernel
theorem dX3_buys_1 : decode cX3_buys 1 = .ok (.getfield 29, 3) := by decide +kernel
theorem dX3_buys_4 : decode cX3_buys 4 = .ok (.iload_n 1, 1) := by decide +kernel
theorem dX3_buys_5 : decode cX3_buys 5 = .ok (.invokevirtual 187, 3) := by decide +kernel
theorem dX3_buys_8 : decode cX3_buys 8 = .ok (.ireturn, 1) := by decide +kernel
theorem dX3_count_0 : decode cX3_count 0 = .ok (.iload_n 1, 1) := by decide +kernel
theorem dX3_count_1 : decode cX3_count 1 = .ok (.tableswitch 75 0 4 #[35, 43, 51, 59, 67], 35) := by decide +kernel
theorem dX3_count_36 : decode cX3_count 36 = .ok (.aload_n 0, 1) := by decide +kernel
theorem dX3_count_37 : decode cX3_count 37 = .ok (.getfield 10, 3) := by decide +kernel
theorem dX3_count_40 : decode cX3_count 40 = .ok (.getfield 191, 3) := by decide +kernel
theorem dX3_count_43 : decode cX3_count 43 = .ok (.ireturn, 1) := by decide +kernel
theorem dX3_count_44 : decode cX3_count 44 = .ok (.aload_n 0, 1) := by decide +kernel
theorem dX3_count_45 : decode cX3_count 45 = .ok (.getfield 10, 3) := by decide +kernel
theorem dX3_count_48 : decode cX3_count 48 = .ok (.getfield 194, 3) := by decide +kernel
theorem dX3_count_51 : decode cX3_count 51 = .ok (.ireturn, 1) := by decide +kernel
theorem dX3_count_52 : decode cX3_count 52 = .ok (.aload_n 0, 1) := by decide +kernel
theorem dX3_count_53 : decode cX3_count 53 = .ok (.getfield 10, 3) := by decide +kernel
theorem dX3_count_56 : decode cX3_count 56 = .ok (.getfield 197, 3) := by decide +kernel
theorem dX3_count_59 : decode cX3_count 59 = .ok (.ireturn, 1) := by decide +kernel
theorem dX3_count_60 : decode cX3_count 60 = .ok (.aload_n 0, 1) := by decide +kernel
theorem dX3_count_61 : decode cX3_count 61 = .ok (.getfield 10, 3) := by decide +kernel
theorem dX3_count_64 : decode cX3_count 64 = .ok (.getfield 200, 3) := by decide +kernel
theorem dX3_count_67 : decode cX3_count 67 = .ok (.ireturn, 1) := by decide +kernel
theorem dX3_count_68 : decode cX3_count 68 = .ok (.aload_n 0, 1) := by decide +kernel
theorem dX3_count_69 : decode cX3_count 69 = .ok (.getfield 22, 3) := by decide +kernel
theorem dX3_count_72 : decode cX3_count 72 = .ok (.getfield 71, 3) := by decide +kernel
theorem dX3_count_75 : decode cX3_count 75 = .ok (.ireturn, 1) := by decide +kernel
theorem dX3_count_76 : decode cX3_count 76 = .ok (.iconst (-1), 1) := by decide +kernel
theorem dX3_count_77 : decode cX3_count 77 = .ok (.ireturn, 1) := by decide +kernel
theorem dX3_within_0 : decode cX3_within 0 = .ok (.iload_n 0, 1) := by decide +kernel
theorem dX3_within_1 : decode cX3_within 1 = .ok (.iload_n 1, 1) := by decide +kernel
theorem dX3_within_2 : decode cX3_within 2 = .ok (.if_icmp .lt 12, 3) := by decide +kernel
theorem dX3_within_5 : decode cX3_within 5 = .ok (.iload_n 0, 1) := by decide +kernel
theorem dX3_within_6 : decode cX3_within 6 = .ok (.iload_n 2, 1) := by decide +kernel
theorem dX3_within_7 : decode cX3_within 7 = .ok (.if_icmp .gt 7, 3) := by decide +kernel
theorem dX3_within_10 : decode cX3_within 10 = .ok (.iconst 1, 1) := by decide +kernel
theorem dX3_within_11 : decode cX3_within 11 = .ok (.goto 4, 3) := by decide +kernel
theorem dX3_within_14 : decode cX3_within 14 = .ok (.iconst 0, 1) := by decide +kernel
theorem dX3_within_15 : decode cX3_within 15 = .ok (.ireturn, 1) := by decide +kernel
set_option maxRecDepth 20000 in
theorem ggX3_isMark_X3_within : GoodIn wsX3_isMark wsX3_within := goodIn_r _ [4] (by decide +kernel) (by decide +kernel)
set_option maxRecDepth 20000 in
theorem gX3_isMark_X3_within : GoodIn wsX3_isMark (va_wsS RX3 79 yX3_within wsX3_within) := goodIn_app (goodIn_of _ (by decide +kernel)) ggX3_isMark_X3_within
theorem dX3_isMark_0 : decode cX3_isMark 0 = .ok (.iload_n 0, 1) := by decide +kernel
theorem dX3_isMark_1 : decode cX3_isMark 1 = .ok (.iconst 0, 1) := by decide +kernel
theorem dX3_isMark_2 : decode cX3_isMark 2 = .ok (.iconst 3, 1) := by decide +kernel
theorem dX3_isMark_3 : decode cX3_isMark 3 = .ok (.invokestatic 79, 3) := by decide +kernel
theorem dX3_isMark_6 : decode cX3_isMark 6 = .ok (.ireturn, 1) := by decide +kernel
set_option maxRecDepth 20000 in
theorem ggX3_checkedBounds_X3_within : GoodIn wsX3_checkedBounds wsX3_within := goodIn_r _ [4] (by decide +kernel) (by decide +kernel)
set_option maxRecDepth 20000 in
theorem gX3_checkedBounds_X3_within : GoodIn wsX3_checkedBounds (va_wsS RX3 79 yX3_within wsX3_within) := goodIn_app (goodIn_of _ (by decide +kernel)) ggX3_checkedBounds_X3_within
theorem dX3_checkedBounds_0 : decode cX3_checkedBounds 0 = .ok (.iload_n 0, 1) := by decide +kernel
theorem dX3_checkedBounds_1 : decode cX3_checkedBounds 1 = .ok (.iconst 1, 1) := by decide +kernel
theorem dX3_checkedBounds_2 : decode cX3_checkedBounds 2 = .ok (.sipush 200, 3) := by decide +kernel
theorem dX3_checkedBounds_5 : decode cX3_checkedBounds 5 = .ok (.invokestatic 79, 3) := by decide +kernel
theorem dX3_checkedBounds_8 : decode cX3_checkedBounds 8 = .ok (.ifCond .eq 37, 3) := by decide +kernel
theorem dX3_checkedBounds_11 : decode cX3_checkedBounds 11 = .ok (.iload_n 1, 1) := by decide +kernel
theorem dX3_checkedBounds_12 : decode cX3_checkedBounds 12 = .ok (.iconst 1, 1) := by decide +kernel
theorem dX3_checkedBounds_13 : decode cX3_checkedBounds 13 = .ok (.bipush 100, 2) := by decide +kernel
theorem dX3_checkedBounds_15 : decode cX3_checkedBounds 15 = .ok (.invokestatic 79, 3) := by decide +kernel
theorem dX3_checkedBounds_18 : decode cX3_checkedBounds 18 = .ok (.ifCond .eq 27, 3) := by decide +kernel
theorem dX3_checkedBounds_21 : decode cX3_checkedBounds 21 = .ok (.iload_n 3, 1) := by decide +kernel
theorem dX3_checkedBounds_22 : decode cX3_checkedBounds 22 = .ok (.iconst 1, 1) := by decide +kernel
theorem dX3_checkedBounds_23 : decode cX3_checkedBounds 23 = .ok (.sipush 1000, 3) := by decide +kernel
theorem dX3_checkedBounds_26 : decode cX3_checkedBounds 26 = .ok (.invokestatic 79, 3) := by decide +kernel
theorem dX3_checkedBounds_29 : decode cX3_checkedBounds 29 = .ok (.ifCond .eq 16, 3) := by decide +kernel
theorem dX3_checkedBounds_32 : decode cX3_checkedBounds 32 = .ok (.iload_n 2, 1) := by decide +kernel
theorem dX3_checkedBounds_33 : decode cX3_checkedBounds 33 = .ok (.iconst 1, 1) := by decide +kernel
theorem dX3_checkedBounds_34 : decode cX3_checkedBounds 34 = .ok (.iload_n 3, 1) := by decide +kernel
theorem dX3_checkedBounds_35 : decode cX3_checkedBounds 35 = .ok (.invokestatic 79, 3) := by decide +kernel
theorem dX3_checkedBounds_38 : decode cX3_checkedBounds 38 = .ok (.ifCond .eq 7, 3) := by decide +kernel
theorem dX3_checkedBounds_41 : decode cX3_checkedBounds 41 = .ok (.iconst 1, 1) := by decide +kernel
theorem dX3_checkedBounds_42 : decode cX3_checkedBounds 42 = .ok (.goto 4, 3) := by decide +kernel
theorem dX3_checkedBounds_45 : decode cX3_checkedBounds 45 = .ok (.iconst 0, 1) := by decide +kernel
theorem dX3_checkedBounds_46 : decode cX3_checkedBounds 46 = .ok (.ireturn, 1) := by decide +kernel
set_option maxRecDepth 20000 in
theorem ggX3_gapFits_X3_within : GoodIn wsX3_gapFits wsX3_within := goodIn_r _ [8] (by decide +kernel) (by decide +kernel)
set_option maxRecDepth 20000 in
theorem gX3_gapFits_X3_within : GoodIn wsX3_gapFits (va_wsS RX3 79 yX3_within wsX3_within) := goodIn_app (goodIn_of _ (by decide +kernel)) ggX3_gapFits_X3_within
theorem dX3_gapFits_0 : decode cX3_gapFits 0 = .ok (.iload_n 1, 1) := by decide +kernel
theorem dX3_gapFits_1 : decode cX3_gapFits 1 = .ok (.iconst 1, 1) := by decide +kernel
theorem dX3_gapFits_2 : decode cX3_gapFits 2 = .ok (.ldc 203, 2) := by decide +kernel
theorem dX3_gapFits_4 : decode cX3_gapFits 4 = .ok (.invokestatic 79, 3) := by decide +kernel
theorem dX3_gapFits_7 : decode cX3_gapFits 7 = .ok (.ifCond .eq 27, 3) := by decide +kernel
theorem dX3_gapFits_10 : decode cX3_gapFits 10 = .ok (.aload_n 0, 1) := by decide +kernel
theorem dX3_gapFits_11 : decode cX3_gapFits 11 = .ok (.getfield 56, 3) := by decide +kernel
theorem dX3_gapFits_14 : decode cX3_gapFits 14 = .ok (.aload_n 0, 1) := by decide +kernel
theorem dX3_gapFits_15 : decode cX3_gapFits 15 = .ok (.getfield 44, 3) := by decide +kernel
theorem dX3_gapFits_18 : decode cX3_gapFits 18 = .ok (.i2l, 1) := by decide +kernel
theorem dX3_gapFits_19 : decode cX3_gapFits 19 = .ok (.iload_n 1, 1) := by decide +kernel
theorem dX3_gapFits_20 : decode cX3_gapFits 20 = .ok (.i2l, 1) := by decide +kernel
theorem dX3_gapFits_21 : decode cX3_gapFits 21 = .ok (.lmul, 1) := by decide +kernel
theorem dX3_gapFits_22 : decode cX3_gapFits 22 = .ok (.ladd, 1) := by decide +kernel
theorem dX3_gapFits_23 : decode cX3_gapFits 23 = .ok (.ldc2_w 88, 3) := by decide +kernel
theorem dX3_gapFits_26 : decode cX3_gapFits 26 = .ok (.lcmp, 1) := by decide +kernel
theorem dX3_gapFits_27 : decode cX3_gapFits 27 = .ok (.ifCond .gt 7, 3) := by decide +kernel
theorem dX3_gapFits_30 : decode cX3_gapFits 30 = .ok (.iconst 1, 1) := by decide +kernel
theorem dX3_gapFits_31 : decode cX3_gapFits 31 = .ok (.goto 4, 3) := by decide +kernel
theorem dX3_gapFits_34 : decode cX3_gapFits 34 = .ok (.iconst 0, 1) := by decide +kernel
theorem dX3_gapFits_35 : decode cX3_gapFits 35 = .ok (.ireturn, 1) := by decide +kernel
set_option maxRecDepth 20000 in
theorem ggX3_passGap_X0_pass : GoodIn wsX3_passGap wsX0_pass := goodIn_r _ [8, 9, 10, 11, 45, 46, 47, 48, 49, 50, 51, 52, 53, 54, 55, 56, 57, 58, 59] (by decide +kernel) (by decide +kernel)
set_option maxRecDepth 20000 in
theorem gX3_passGap_X0_pass_n90 : GoodIn wsX3_passGap (wsX0_pass) := ggX3_passGap_X0_pass
set_option maxRecDepth 20000 in
theorem ggX3_passGap_X0_doubt : GoodIn wsX3_passGap wsX0_doubt := goodIn_r _ [14, 15, 16, 17, 18, 19, 45, 46, 47, 48, 49, 50, 51, 52, 53, 54, 55, 56, 57, 58, 59] (by decide +kernel) (by decide +kernel)
set_option maxRecDepth 20000 in
theorem gX3_passGap_X0_doubt_n204 : GoodIn wsX3_passGap (wsX0_doubt) := ggX3_passGap_X0_doubt
set_option maxRecDepth 20000 in
theorem ggX3_passGap_X0_showStep : GoodIn wsX3_passGap wsX0_showStep := goodIn_r _ [22, 23, 24, 25, 26, 6, 27, 15, 28, 29, 30, 31, 32, 45, 46, 47, 48, 49, 50, 51, 52, 53, 54, 55, 56, 57, 58, 59] (by decide +kernel) (by decide +kernel)
set_option maxRecDepth 20000 in
theorem gX3_passGap_X0_showStep_n97 : GoodIn wsX3_passGap (wsX0_showStep) := ggX3_passGap_X0_showStep
theorem dX3_passGap_0 : decode cX3_passGap 0 = .ok (.aload_n 0, 1) := by decide +kernel
theorem dX3_passGap_1 : decode cX3_passGap 1 = .ok (.getfield 44, 3) := by decide +kernel
theorem dX3_passGap_4 : decode cX3_passGap 4 = .ok (.iload_n 1, 1) := by decide +kernel
theorem dX3_passGap_5 : decode cX3_passGap 5 = .ok (.imul, 1) := by decide +kernel
theorem dX3_passGap_6 : decode cX3_passGap 6 = .ok (.istore_n 2, 1) := by decide +kernel
theorem dX3_passGap_7 : decode cX3_passGap 7 = .ok (.aload_n 0, 1) := by decide +kernel
theorem dX3_passGap_8 : decode cX3_passGap 8 = .ok (.getfield 47, 3) := by decide +kernel
theorem dX3_passGap_11 : decode cX3_passGap 11 = .ok (.iload_n 1, 1) := by decide +kernel
theorem dX3_passGap_12 : decode cX3_passGap 12 = .ok (.imul, 1) := by decide +kernel
theorem dX3_passGap_13 : decode cX3_passGap 13 = .ok (.istore_n 3, 1) := by decide +kernel
theorem dX3_passGap_14 : decode cX3_passGap 14 = .ok (.aload_n 0, 1) := by decide +kernel
theorem dX3_passGap_15 : decode cX3_passGap 15 = .ok (.dup, 1) := by decide +kernel
theorem dX3_passGap_16 : decode cX3_passGap 16 = .ok (.getfield 56, 3) := by decide +kernel
theorem dX3_passGap_19 : decode cX3_passGap 19 = .ok (.iload_n 2, 1) := by decide +kernel
theorem dX3_passGap_20 : decode cX3_passGap 20 = .ok (.i2l, 1) := by decide +kernel
theorem dX3_passGap_21 : decode cX3_passGap 21 = .ok (.ladd, 1) := by decide +kernel
theorem dX3_passGap_22 : decode cX3_passGap 22 = .ok (.putfield 56, 3) := by decide +kernel
theorem dX3_passGap_25 : decode cX3_passGap 25 = .ok (.aload_n 0, 1) := by decide +kernel
theorem dX3_passGap_26 : decode cX3_passGap 26 = .ok (.getfield 10, 3) := by decide +kernel
theorem dX3_passGap_29 : decode cX3_passGap 29 = .ok (.iconst 0, 1) := by decide +kernel
theorem dX3_passGap_30 : decode cX3_passGap 30 = .ok (.iload_n 2, 1) := by decide +kernel
theorem dX3_passGap_31 : decode cX3_passGap 31 = .ok (.iconst 0, 1) := by decide +kernel
theorem dX3_passGap_32 : decode cX3_passGap 32 = .ok (.iload_n 3, 1) := by decide +kernel
theorem dX3_passGap_33 : decode cX3_passGap 33 = .ok (.iload_n 1, 1) := by decide +kernel
theorem dX3_passGap_34 : decode cX3_passGap 34 = .ok (.invokevirtual 90, 3) := by decide +kernel
theorem dX3_passGap_37 : decode cX3_passGap 37 = .ok (.aload_n 0, 1) := by decide +kernel
theorem dX3_passGap_38 : decode cX3_passGap 38 = .ok (.getfield 10, 3) := by decide +kernel
theorem dX3_passGap_41 : decode cX3_passGap 41 = .ok (.iload_n 3, 1) := by decide +kernel
theorem dX3_passGap_42 : decode cX3_passGap 42 = .ok (.invokevirtual 204, 3) := by decide +kernel
theorem dX3_passGap_45 : decode cX3_passGap 45 = .ok (.aload_n 0, 1) := by decide +kernel
theorem dX3_passGap_46 : decode cX3_passGap 46 = .ok (.getfield 10, 3) := by decide +kernel
theorem dX3_passGap_49 : decode cX3_passGap 49 = .ok (.invokevirtual 97, 3) := by decide +kernel
theorem dX3_passGap_52 : decode cX3_passGap 52 = .ok (.return_, 1) := by decide +kernel
set_option maxRecDepth 20000 in
theorem ggX3_wayInHundredths_X0_marked : GoodIn wsX3_wayInHundredths wsX0_marked := goodIn_r _ [6, 7, 20, 21, 22, 23, 24, 25, 26, 27, 28, 29, 30, 31, 32, 33, 34] (by decide +kernel) (by decide +kernel)
set_option maxRecDepth 20000 in
theorem gX3_wayInHundredths_X0_marked_n148 : GoodIn wsX3_wayInHundredths (wsX0_marked) := ggX3_wayInHundredths_X0_marked
theorem dX3_wayInHundredths_0 : decode cX3_wayInHundredths 0 = .ok (.aload_n 0, 1) := by decide +kernel
theorem dX3_wayInHundredths_1 : decode cX3_wayInHundredths 1 = .ok (.getfield 10, 3) := by decide +kernel
theorem dX3_wayInHundredths_4 : decode cX3_wayInHundredths 4 = .ok (.iload_n 1, 1) := by decide +kernel
theorem dX3_wayInHundredths_5 : decode cX3_wayInHundredths 5 = .ok (.iload_n 2, 1) := by decide +kernel
theorem dX3_wayInHundredths_6 : decode cX3_wayInHundredths 6 = .ok (.ifCond .eq 7, 3) := by decide +kernel
theorem dX3_wayInHundredths_9 : decode cX3_wayInHundredths 9 = .ok (.iconst 1, 1) := by decide +kernel
theorem dX3_wayInHundredths_10 : decode cX3_wayInHundredths 10 = .ok (.goto 4, 3) := by decide +kernel
theorem dX3_wayInHundredths_13 : decode cX3_wayInHundredths 13 = .ok (.iconst 0, 1) := by decide +kernel
theorem dX3_wayInHundredths_14 : decode cX3_wayInHundredths 14 = .ok (.invokevirtual 148, 3) := by decide +kernel
theorem dX3_wayInHundredths_17 : decode cX3_wayInHundredths 17 = .ok (.aload_n 0, 1) := by decide +kernel
theorem dX3_wayInHundredths_18 : decode cX3_wayInHundredths 18 = .ok (.getfield 38, 3) := by decide +kernel
theorem dX3_wayInHundredths_21 : decode cX3_wayInHundredths 21 = .ok (.i2l, 1) := by decide +kernel
theorem dX3_wayInHundredths_22 : decode cX3_wayInHundredths 22 = .ok (.lmul, 1) := by decide +kernel
theorem dX3_wayInHundredths_23 : decode cX3_wayInHundredths 23 = .ok (.lreturn, 1) := by decide +kernel
theorem dX3_commonDivisor_0 : decode cX3_commonDivisor 0 = .ok (.lload_n 0, 1) := by decide +kernel
theorem dX3_commonDivisor_1 : decode cX3_commonDivisor 1 = .ok (.lstore 4, 2) := by decide +kernel
theorem dX3_commonDivisor_3 : decode cX3_commonDivisor 3 = .ok (.lload_n 2, 1) := by decide +kernel
theorem dX3_commonDivisor_4 : decode cX3_commonDivisor 4 = .ok (.lstore 6, 2) := by decide +kernel
theorem dX3_commonDivisor_6 : decode cX3_commonDivisor 6 = .ok (.iconst 0, 1) := by decide +kernel
theorem dX3_commonDivisor_7 : decode cX3_commonDivisor 7 = .ok (.istore 8, 2) := by decide +kernel
theorem dX3_commonDivisor_9 : decode cX3_commonDivisor 9 = .ok (.iload 8, 2) := by decide +kernel
theorem dX3_commonDivisor_11 : decode cX3_commonDivisor 11 = .ok (.bipush 100, 2) := by decide +kernel
theorem dX3_commonDivisor_13 : decode cX3_commonDivisor 13 = .ok (.if_icmp .ge 31, 3) := by decide +kernel
theorem dX3_commonDivisor_16 : decode cX3_commonDivisor 16 = .ok (.lload 6, 2) := by decide +kernel
theorem dX3_commonDivisor_18 : decode cX3_commonDivisor 18 = .ok (.lconst 0, 1) := by decide +kernel
theorem dX3_commonDivisor_19 : decode cX3_commonDivisor 19 = .ok (.lcmp, 1) := by decide +kernel
theorem dX3_commonDivisor_20 : decode cX3_commonDivisor 20 = .ok (.ifCond .le 24, 3) := by decide +kernel
theorem dX3_commonDivisor_23 : decode cX3_commonDivisor 23 = .ok (.lload 4, 2) := by decide +kernel
theorem dX3_commonDivisor_25 : decode cX3_commonDivisor 25 = .ok (.lload 6, 2) := by decide +kernel
theorem dX3_commonDivisor_27 : decode cX3_commonDivisor 27 = .ok (.lrem, 1) := by decide +kernel
theorem dX3_commonDivisor_28 : decode cX3_commonDivisor 28 = .ok (.lstore 9, 2) := by decide +kernel
theorem dX3_commonDivisor_30 : decode cX3_commonDivisor 30 = .ok (.lload 6, 2) := by decide +kernel
theorem dX3_commonDivisor_32 : decode cX3_commonDivisor 32 = .ok (.lstore 4, 2) := by decide +kernel
theorem dX3_commonDivisor_34 : decode cX3_commonDivisor 34 = .ok (.lload 9, 2) := by decide +kernel
theorem dX3_commonDivisor_36 : decode cX3_commonDivisor 36 = .ok (.lstore 6, 2) := by decide +kernel
theorem dX3_commonDivisor_38 : decode cX3_commonDivisor 38 = .ok (.iinc 8 1, 3) := by decide +kernel
theorem dX3_commonDivisor_41 : decode cX3_commonDivisor 41 = .ok (.goto (-32), 3) := by decide +kernel
theorem dX3_commonDivisor_44 : decode cX3_commonDivisor 44 = .ok (.lload 4, 2) := by decide +kernel
theorem dX3_commonDivisor_46 : decode cX3_commonDivisor 46 = .ok (.lreturn, 1) := by decide +kernel
theorem dX4_init_0 : decode cX4_init 0 = .ok (.aload_n 0, 1) := by decide +kernel
theorem dX4_init_1 : decode cX4_init 1 = .ok (.invokespecial 1, 3) := by decide +kernel
theorem dX4_init_4 : decode cX4_init 4 = .ok (.aload_n 0, 1) := by decide +kernel
theorem dX4_init_5 : decode cX4_init 5 = .ok (.bipush 60, 2) := by decide +kernel
theorem dX4_init_7 : decode cX4_init 7 = .ok (.newarray .int, 2) := by decide +kernel
theorem dX4_init_9 : decode cX4_init 9 = .ok (.putfield 7, 3) := by decide +kernel
theorem dX4_init_12 : decode cX4_init 12 = .ok (.aload_n 0, 1) := by decide +kernel
theorem dX4_init_13 : decode cX4_init 13 = .ok (.bipush 92, 2) := by decide +kernel
theorem dX4_init_15 : decode cX4_init 15 = .ok (.newarray .long, 2) := by decide +kernel
theorem dX4_init_17 : decode cX4_init 17 = .ok (.putfield 13, 3) := by decide +kernel
theorem dX4_init_20 : decode cX4_init 20 = .ok (.aload_n 0, 1) := by decide +kernel
theorem dX4_init_21 : decode cX4_init 21 = .ok (.bipush 92, 2) := by decide +kernel
theorem dX4_init_23 : decode cX4_init 23 = .ok (.newarray .long, 2) := by decide +kernel
theorem dX4_init_25 : decode cX4_init 25 = .ok (.putfield 17, 3) := by decide +kernel
theorem dX4_init_28 : decode cX4_init 28 = .ok (.aload_n 0, 1) := by decide +kernel
theorem dX4_init_29 : decode cX4_init 29 = .ok (.ldc 20, 2) := by decide +kernel
theorem dX4_init_31 : decode cX4_init 31 = .ok (.putfield 21, 3) := by decide +kernel
theorem dX4_init_34 : decode cX4_init 34 = .ok (.aload_n 0, 1) := by decide +kernel
theorem dX4_init_35 : decode cX4_init 35 = .ok (.bipush 20, 2) := by decide +kernel
theorem dX4_init_37 : decode cX4_init 37 = .ok (.putfield 25, 3) := by decide +kernel
theorem dX4_init_40 : decode cX4_init 40 = .ok (.aload_n 0, 1) := by decide +kernel
theorem dX4_init_41 : decode cX4_init 41 = .ok (.bipush 10, 2) := by decide +kernel
theorem dX4_init_43 : decode cX4_init 43 = .ok (.putfield 28, 3) := by decide +kernel
theorem dX4_init_46 : decode cX4_init 46 = .ok (.aload_n 0, 1) := by decide +kernel
theorem dX4_init_47 : decode cX4_init 47 = .ok (.bipush 60, 2) := by decide +kernel
theorem dX4_init_49 : decode cX4_init 49 = .ok (.putfield 31, 3) := by decide +kernel
theorem dX4_init_52 : decode cX4_init 52 = .ok (.aload_n 0, 1) := by decide +kernel
theorem dX4_init_53 : decode cX4_init 53 = .ok (.bipush 10, 2) := by decide +kernel
theorem dX4_init_55 : decode cX4_init 55 = .ok (.putfield 34, 3) := by decide +kernel
theorem dX4_init_58 : decode cX4_init 58 = .ok (.aload_n 0, 1) := by decide +kernel
theorem dX4_init_59 : decode cX4_init 59 = .ok (.bipush 40, 2) := by decide +kernel
theorem dX4_init_61 : decode cX4_init 61 = .ok (.putfield 37, 3) := by decide +kernel
theorem dX4_init_64 : decode cX4_init 64 = .ok (.aload_n 0, 1) := by decide +kernel
theorem dX4_init_65 : decode cX4_init 65 = .ok (.bipush 120, 2) := by decide +kernel
theorem dX4_init_67 : decode cX4_init 67 = .ok (.putfield 40, 3) := by decide +kernel
theorem dX4_init_70 : decode cX4_init 70 = .ok (.aload_n 0, 1) := by decide +kernel
theorem dX4_init_71 : decode cX4_init 71 = .ok (.sipush 1573, 3) := by decide +kernel
theorem dX4_init_74 : decode cX4_init 74 = .ok (.newarray .int, 2) := by decide +kernel
theorem dX4_init_76 : decode cX4_init 76 = .ok (.putfield 43, 3) := by decide +kernel
theorem dX4_init_79 : decode cX4_init 79 = .ok (.aload_n 0, 1) := by decide +kernel
theorem dX4_init_80 : decode cX4_init 80 = .ok (.bipush 12, 2) := by decide +kernel
theorem dX4_init_82 : decode cX4_init 82 = .ok (.newarray .int, 2) := by decide +kernel
theorem dX4_init_84 : decode cX4_init 84 = .ok (.putfield 46, 3) := by decide +kernel
theorem dX4_init_87 : decode cX4_init 87 = .ok (.return_, 1) := by decide +kernel
theorem dX4_thrown_0 : decode cX4_thrown 0 = .ok (.aload_n 0, 1) := by decide +kernel
theorem dX4_thrown_1 : decode cX4_thrown 1 = .ok (.getfield 49, 3) := by decide +kernel
theorem dX4_thrown_4 : decode cX4_thrown 4 = .ok (.ireturn, 1) := by decide +kernel
theorem dX4_refuse_0 : decode cX4_refuse 0 = .ok (.aload_n 0, 1) := by decide +kernel
theorem dX4_refuse_1 : decode cX4_refuse 1 = .ok (.iconst 1, 1) := by decide +kernel
theorem dX4_refuse_2 : decode cX4_refuse 2 = .ok (.putfield 49, 3) := by decide +kernel
theorem dX4_refuse_5 : decode cX4_refuse 5 = .ok (.iconst 0, 1) := by decide +kernel
theorem dX4_refuse_6 : decode cX4_refuse 6 = .ok (.ireturn, 1) := by decide +kernel
theorem dX4_come_0 : decode cX4_come 0 = .ok (.bipush 24, 2) := by decide +kernel
theorem dX4_come_2 : decode cX4_come 2 = .ok (.istore_n 2, 1) := by decide +kernel
theorem dX4_come_3 : decode cX4_come 3 = .ok (.iload_n 2, 1) := by decide +kernel
theorem dX4_come_4 : decode cX4_come 4 = .ok (.ifCond .lt 35, 3) := by decide +kernel
theorem dX4_come_7 : decode cX4_come 7 = .ok (.aload_n 0, 1) := by decide +kernel
theorem dX4_come_8 : decode cX4_come 8 = .ok (.getfield 7, 3) := by decide +kernel
theorem dX4_come_11 : decode cX4_come 11 = .ok (.aload_n 0, 1) := by decide +kernel
theorem dX4_come_12 : decode cX4_come 12 = .ok (.getfield 52, 3) := by decide +kernel
theorem dX4_come_15 : decode cX4_come 15 = .ok (.iload_n 1, 1) := by decide +kernel
theorem dX4_come_16 : decode cX4_come 16 = .ok (.iload_n 2, 1) := by decide +kernel
theorem dX4_come_17 : decode cX4_come 17 = .ok (.iushr, 1) := by decide +kernel
theorem dX4_come_18 : decode cX4_come 18 = .ok (.sipush 255, 3) := by decide +kernel
theorem dX4_come_21 : decode cX4_come 21 = .ok (.iand, 1) := by decide +kernel
theorem dX4_come_22 : decode cX4_come 22 = .ok (.iastore, 1) := by decide +kernel
theorem dX4_come_23 : decode cX4_come 23 = .ok (.aload_n 0, 1) := by decide +kernel
theorem dX4_come_24 : decode cX4_come 24 = .ok (.dup, 1) := by decide +kernel
theorem dX4_come_25 : decode cX4_come 25 = .ok (.getfield 52, 3) := by decide +kernel
end
section
theorem dX4_come_28 : decode cX4_come 28 = .ok (.iconst 1, 1) := by decide +kernel
theorem dX4_come_29 : decode cX4_come 29 = .ok (.iadd, 1) := by decide +kernel
theorem dX4_come_30 : decode cX4_come 30 = .ok (.putfield 52, 3) := by decide +kernel
theorem dX4_come_33 : decode cX4_come 33 = .ok (.iinc 2 (-8), 3) := by decide +kernel
theorem dX4_come_36 : decode cX4_come 36 = .ok (.goto (-33), 3) := by decide +kernel
theorem dX4_come_39 : decode cX4_come 39 = .ok (.return_, 1) := by decide +kernel
set_option maxRecDepth 20000 in
theorem ggX4_feed_X4_come : GoodIn wsX4_feed wsX4_come := goodIn_r _ [7, 8, 2, 9, 10, 11, 12, 13, 14, 15, 16, 17, 18, 19, 20, 21, 22, 23, 24, 25] (by decide +kernel) (by decide +kernel)
set_option maxRecDepth 20000 in
theorem gX4_feed_X4_come : GoodIn wsX4_feed (wsV RX4 55 RX4 yX4_come wsX4_come) := goodIn_app (goodIn_of _ (by decide +kernel)) ggX4_feed_X4_come
theorem dX4_feed_0 : decode cX4_feed 0 = .ok (.aload_n 0, 1) := by decide +kernel
theorem dX4_feed_1 : decode cX4_feed 1 = .ok (.iconst 0, 1) := by decide +kernel
theorem dX4_feed_2 : decode cX4_feed 2 = .ok (.putfield 49, 3) := by decide +kernel
theorem dX4_feed_5 : decode cX4_feed 5 = .ok (.aload_n 0, 1) := by decide +kernel
theorem dX4_feed_6 : decode cX4_feed 6 = .ok (.getfield 52, 3) := by decide +kernel
theorem dX4_feed_9 : decode cX4_feed 9 = .ok (.bipush 20, 2) := by decide +kernel
theorem dX4_feed_11 : decode cX4_feed 11 = .ok (.iadd, 1) := by decide +kernel
theorem dX4_feed_12 : decode cX4_feed 12 = .ok (.bipush 60, 2) := by decide +kernel
theorem dX4_feed_14 : decode cX4_feed 14 = .ok (.if_icmp .le 5, 3) := by decide +kernel
theorem dX4_feed_17 : decode cX4_feed 17 = .ok (.iconst (-1), 1) := by decide +kernel
theorem dX4_feed_18 : decode cX4_feed 18 = .ok (.ireturn, 1) := by decide +kernel
theorem dX4_feed_19 : decode cX4_feed 19 = .ok (.aload_n 0, 1) := by decide +kernel
theorem dX4_feed_20 : decode cX4_feed 20 = .ok (.iload_n 1, 1) := by decide +kernel
theorem dX4_feed_21 : decode cX4_feed 21 = .ok (.invokevirtual 55, 3) := by decide +kernel
theorem dX4_feed_24 : decode cX4_feed 24 = .ok (.aload_n 0, 1) := by decide +kernel
theorem dX4_feed_25 : decode cX4_feed 25 = .ok (.iload_n 2, 1) := by decide +kernel
theorem dX4_feed_26 : decode cX4_feed 26 = .ok (.invokevirtual 55, 3) := by decide +kernel
theorem dX4_feed_29 : decode cX4_feed 29 = .ok (.aload_n 0, 1) := by decide +kernel
theorem dX4_feed_30 : decode cX4_feed 30 = .ok (.iload_n 3, 1) := by decide +kernel
theorem dX4_feed_31 : decode cX4_feed 31 = .ok (.invokevirtual 55, 3) := by decide +kernel
theorem dX4_feed_34 : decode cX4_feed 34 = .ok (.aload_n 0, 1) := by decide +kernel
theorem dX4_feed_35 : decode cX4_feed 35 = .ok (.iload 4, 2) := by decide +kernel
theorem dX4_feed_37 : decode cX4_feed 37 = .ok (.invokevirtual 55, 3) := by decide +kernel
theorem dX4_feed_40 : decode cX4_feed 40 = .ok (.aload_n 0, 1) := by decide +kernel
theorem dX4_feed_41 : decode cX4_feed 41 = .ok (.iload 5, 2) := by decide +kernel
theorem dX4_feed_43 : decode cX4_feed 43 = .ok (.invokevirtual 55, 3) := by decide +kernel
theorem dX4_feed_46 : decode cX4_feed 46 = .ok (.aload_n 0, 1) := by decide +kernel
theorem dX4_feed_47 : decode cX4_feed 47 = .ok (.getfield 52, 3) := by decide +kernel
theorem dX4_feed_50 : decode cX4_feed 50 = .ok (.ireturn, 1) := by decide +kernel
theorem dX4_end_0 : decode cX4_end 0 = .ok (.aload_n 0, 1) := by decide +kernel
theorem dX4_end_1 : decode cX4_end 1 = .ok (.iconst 0, 1) := by decide +kernel
theorem dX4_end_2 : decode cX4_end 2 = .ok (.putfield 49, 3) := by decide +kernel
theorem dX4_end_5 : decode cX4_end 5 = .ok (.iload_n 1, 1) := by decide +kernel
theorem dX4_end_6 : decode cX4_end 6 = .ok (.ifCond .lt 11, 3) := by decide +kernel
theorem dX4_end_9 : decode cX4_end 9 = .ok (.iload_n 1, 1) := by decide +kernel
theorem dX4_end_10 : decode cX4_end 10 = .ok (.aload_n 0, 1) := by decide +kernel
theorem dX4_end_11 : decode cX4_end 11 = .ok (.getfield 52, 3) := by decide +kernel
theorem dX4_end_14 : decode cX4_end 14 = .ok (.if_icmp .le 5, 3) := by decide +kernel
theorem dX4_end_17 : decode cX4_end 17 = .ok (.iconst 0, 1) := by decide +kernel
theorem dX4_end_18 : decode cX4_end 18 = .ok (.ireturn, 1) := by decide +kernel
theorem dX4_end_19 : decode cX4_end 19 = .ok (.aload_n 0, 1) := by decide +kernel
theorem dX4_end_20 : decode cX4_end 20 = .ok (.iload_n 1, 1) := by decide +kernel
theorem dX4_end_21 : decode cX4_end 21 = .ok (.putfield 52, 3) := by decide +kernel
theorem dX4_end_24 : decode cX4_end 24 = .ok (.iconst 1, 1) := by decide +kernel
theorem dX4_end_25 : decode cX4_end 25 = .ok (.ireturn, 1) := by decide +kernel
set_option maxRecDepth 20000 in
theorem ggX4_begin_X4_copy : GoodIn wsX4_begin wsX4_copy := goodIn_r _ [9, 10, 2, 11, 12, 13, 14, 15, 16, 17, 18, 19, 20, 21, 22, 23, 24, 25, 26, 27] (by decide +kernel) (by decide +kernel)
set_option maxRecDepth 20000 in
theorem gX4_begin_X4_copy : GoodIn wsX4_begin (wsV RX4 63 RX4 yX4_copy wsX4_copy) := goodIn_app (goodIn_of _ (by decide +kernel)) ggX4_begin_X4_copy
theorem dX4_begin_0 : decode cX4_begin 0 = .ok (.aload_n 0, 1) := by decide +kernel
theorem dX4_begin_1 : decode cX4_begin 1 = .ok (.getfield 59, 3) := by decide +kernel
theorem dX4_begin_4 : decode cX4_begin 4 = .ok (.ifCond .eq 4, 3) := by decide +kernel
theorem dX4_begin_7 : decode cX4_begin 7 = .ok (.return_, 1) := by decide +kernel
theorem dX4_begin_8 : decode cX4_begin 8 = .ok (.aload_n 0, 1) := by decide +kernel
theorem dX4_begin_9 : decode cX4_begin 9 = .ok (.iconst 1, 1) := by decide +kernel
theorem dX4_begin_10 : decode cX4_begin 10 = .ok (.putfield 59, 3) := by decide +kernel
theorem dX4_begin_13 : decode cX4_begin 13 = .ok (.iconst 0, 1) := by decide +kernel
theorem dX4_begin_14 : decode cX4_begin 14 = .ok (.istore_n 1, 1) := by decide +kernel
theorem dX4_begin_15 : decode cX4_begin 15 = .ok (.iload_n 1, 1) := by decide +kernel
theorem dX4_begin_16 : decode cX4_begin 16 = .ok (.bipush 92, 2) := by decide +kernel
theorem dX4_begin_18 : decode cX4_begin 18 = .ok (.if_icmp .ge 16, 3) := by decide +kernel
theorem dX4_begin_21 : decode cX4_begin 21 = .ok (.aload_n 0, 1) := by decide +kernel
theorem dX4_begin_22 : decode cX4_begin 22 = .ok (.getfield 13, 3) := by decide +kernel
theorem dX4_begin_25 : decode cX4_begin 25 = .ok (.iload_n 1, 1) := by decide +kernel
theorem dX4_begin_26 : decode cX4_begin 26 = .ok (.lconst 0, 1) := by decide +kernel
theorem dX4_begin_27 : decode cX4_begin 27 = .ok (.lastore, 1) := by decide +kernel
theorem dX4_begin_28 : decode cX4_begin 28 = .ok (.iinc 1 1, 3) := by decide +kernel
theorem dX4_begin_31 : decode cX4_begin 31 = .ok (.goto (-16), 3) := by decide +kernel
theorem dX4_begin_34 : decode cX4_begin 34 = .ok (.aload_n 0, 1) := by decide +kernel
theorem dX4_begin_35 : decode cX4_begin 35 = .ok (.getfield 13, 3) := by decide +kernel
theorem dX4_begin_38 : decode cX4_begin 38 = .ok (.iconst 1, 1) := by decide +kernel
theorem dX4_begin_39 : decode cX4_begin 39 = .ok (.aload_n 0, 1) := by decide +kernel
theorem dX4_begin_40 : decode cX4_begin 40 = .ok (.getfield 21, 3) := by decide +kernel
theorem dX4_begin_43 : decode cX4_begin 43 = .ok (.i2l, 1) := by decide +kernel
theorem dX4_begin_44 : decode cX4_begin 44 = .ok (.lastore, 1) := by decide +kernel
theorem dX4_begin_45 : decode cX4_begin 45 = .ok (.aload_n 0, 1) := by decide +kernel
theorem dX4_begin_46 : decode cX4_begin 46 = .ok (.invokevirtual 63, 3) := by decide +kernel
theorem dX4_begin_49 : decode cX4_begin 49 = .ok (.aload_n 0, 1) := by decide +kernel
theorem dX4_begin_50 : decode cX4_begin 50 = .ok (.lconst 0, 1) := by decide +kernel
theorem dX4_begin_51 : decode cX4_begin 51 = .ok (.putfield 66, 3) := by decide +kernel
theorem dX4_begin_54 : decode cX4_begin 54 = .ok (.return_, 1) := by decide +kernel
theorem dX4_copy_0 : decode cX4_copy 0 = .ok (.iconst 0, 1) := by decide +kernel
theorem dX4_copy_1 : decode cX4_copy 1 = .ok (.istore_n 1, 1) := by decide +kernel
theorem dX4_copy_2 : decode cX4_copy 2 = .ok (.iload_n 1, 1) := by decide +kernel
theorem dX4_copy_3 : decode cX4_copy 3 = .ok (.bipush 92, 2) := by decide +kernel
theorem dX4_copy_5 : decode cX4_copy 5 = .ok (.if_icmp .ge 21, 3) := by decide +kernel
theorem dX4_copy_8 : decode cX4_copy 8 = .ok (.aload_n 0, 1) := by decide +kernel
theorem dX4_copy_9 : decode cX4_copy 9 = .ok (.getfield 17, 3) := by decide +kernel
theorem dX4_copy_12 : decode cX4_copy 12 = .ok (.iload_n 1, 1) := by decide +kernel
theorem dX4_copy_13 : decode cX4_copy 13 = .ok (.aload_n 0, 1) := by decide +kernel
theorem dX4_copy_14 : decode cX4_copy 14 = .ok (.getfield 13, 3) := by decide +kernel
theorem dX4_copy_17 : decode cX4_copy 17 = .ok (.iload_n 1, 1) := by decide +kernel
theorem dX4_copy_18 : decode cX4_copy 18 = .ok (.laload, 1) := by decide +kernel
theorem dX4_copy_19 : decode cX4_copy 19 = .ok (.lastore, 1) := by decide +kernel
theorem dX4_copy_20 : decode cX4_copy 20 = .ok (.iinc 1 1, 3) := by decide +kernel
theorem dX4_copy_23 : decode cX4_copy 23 = .ok (.goto (-21), 3) := by decide +kernel
theorem dX4_copy_26 : decode cX4_copy 26 = .ok (.return_, 1) := by decide +kernel
theorem dX4_isIn_0 : decode cX4_isIn 0 = .ok (.iload_n 0, 1) := by decide +kernel
theorem dX4_isIn_1 : decode cX4_isIn 1 = .ok (.iload_n 1, 1) := by decide +kernel
theorem dX4_isIn_2 : decode cX4_isIn 2 = .ok (.if_icmp .lt 12, 3) := by decide +kernel
theorem dX4_isIn_5 : decode cX4_isIn 5 = .ok (.iload_n 0, 1) := by decide +kernel
theorem dX4_isIn_6 : decode cX4_isIn 6 = .ok (.iload_n 2, 1) := by decide +kernel
theorem dX4_isIn_7 : decode cX4_isIn 7 = .ok (.if_icmp .gt 7, 3) := by decide +kernel
theorem dX4_isIn_10 : decode cX4_isIn 10 = .ok (.iconst 1, 1) := by decide +kernel
theorem dX4_isIn_11 : decode cX4_isIn 11 = .ok (.goto 4, 3) := by decide +kernel
theorem dX4_isIn_14 : decode cX4_isIn 14 = .ok (.iconst 0, 1) := by decide +kernel
theorem dX4_isIn_15 : decode cX4_isIn 15 = .ok (.ireturn, 1) := by decide +kernel
set_option maxRecDepth 20000 in
theorem ggX4_car_X4_isIn : GoodIn wsX4_car wsX4_isIn := goodIn_r _ [10] (by decide +kernel) (by decide +kernel)
set_option maxRecDepth 20000 in
theorem gX4_car_X4_isIn : GoodIn wsX4_car (va_wsS RX4 71 yX4_isIn wsX4_isIn) := goodIn_app (goodIn_of _ (by decide +kernel)) ggX4_car_X4_isIn
set_option maxRecDepth 20000 in
theorem ggX4_car_X4_begin : GoodIn wsX4_car wsX4_begin := goodIn_r _ [14, 6, 15, 3, 16, 17, 18, 19, 9, 20, 21, 22, 23, 24, 25, 26, 27, 28, 29, 30, 31, 32, 33, 34, 35, 36, 37, 38] (by decide +kernel) (by decide +kernel)
set_option maxRecDepth 20000 in
theorem gX4_car_X4_begin : GoodIn wsX4_car (wsV RX4 75 RX4 yX4_begin wsX4_begin) := goodIn_app (goodIn_of _ (by decide +kernel)) ggX4_car_X4_begin
theorem dX4_car_0 : decode cX4_car 0 = .ok (.aload_n 0, 1) := by decide +kernel
theorem dX4_car_1 : decode cX4_car 1 = .ok (.iconst 0, 1) := by decide +kernel
theorem dX4_car_2 : decode cX4_car 2 = .ok (.putfield 49, 3) := by decide +kernel
theorem dX4_car_5 : decode cX4_car 5 = .ok (.iload_n 1, 1) := by decide +kernel
theorem dX4_car_6 : decode cX4_car 6 = .ok (.sipush 1000, 3) := by decide +kernel
theorem dX4_car_9 : decode cX4_car 9 = .ok (.ldc 70, 2) := by decide +kernel
theorem dX4_car_11 : decode cX4_car 11 = .ok (.invokestatic 71, 3) := by decide +kernel
theorem dX4_car_14 : decode cX4_car 14 = .ok (.ifCond .eq 24, 3) := by decide +kernel
theorem dX4_car_17 : decode cX4_car 17 = .ok (.iload_n 2, 1) := by decide +kernel
theorem dX4_car_18 : decode cX4_car 18 = .ok (.iconst 1, 1) := by decide +kernel
theorem dX4_car_19 : decode cX4_car 19 = .ok (.sipush 1000, 3) := by decide +kernel
theorem dX4_car_22 : decode cX4_car 22 = .ok (.invokestatic 71, 3) := by decide +kernel
theorem dX4_car_25 : decode cX4_car 25 = .ok (.ifCond .eq 13, 3) := by decide +kernel
theorem dX4_car_28 : decode cX4_car 28 = .ok (.iload_n 3, 1) := by decide +kernel
theorem dX4_car_29 : decode cX4_car 29 = .ok (.iconst 0, 1) := by decide +kernel
theorem dX4_car_30 : decode cX4_car 30 = .ok (.bipush 60, 2) := by decide +kernel
theorem dX4_car_32 : decode cX4_car 32 = .ok (.invokestatic 71, 3) := by decide +kernel
theorem dX4_car_35 : decode cX4_car 35 = .ok (.ifCond .ne 5, 3) := by decide +kernel
theorem dX4_car_38 : decode cX4_car 38 = .ok (.iconst 0, 1) := by decide +kernel
theorem dX4_car_39 : decode cX4_car 39 = .ok (.ireturn, 1) := by decide +kernel
theorem dX4_car_40 : decode cX4_car 40 = .ok (.aload_n 0, 1) := by decide +kernel
theorem dX4_car_41 : decode cX4_car 41 = .ok (.iload_n 1, 1) := by decide +kernel
theorem dX4_car_42 : decode cX4_car 42 = .ok (.putfield 21, 3) := by decide +kernel
theorem dX4_car_45 : decode cX4_car 45 = .ok (.aload_n 0, 1) := by decide +kernel
theorem dX4_car_46 : decode cX4_car 46 = .ok (.iload_n 2, 1) := by decide +kernel
theorem dX4_car_47 : decode cX4_car 47 = .ok (.putfield 25, 3) := by decide +kernel
theorem dX4_car_50 : decode cX4_car 50 = .ok (.aload_n 0, 1) := by decide +kernel
theorem dX4_car_51 : decode cX4_car 51 = .ok (.iload_n 3, 1) := by decide +kernel
theorem dX4_car_52 : decode cX4_car 52 = .ok (.putfield 28, 3) := by decide +kernel
theorem dX4_car_55 : decode cX4_car 55 = .ok (.aload_n 0, 1) := by decide +kernel
theorem dX4_car_56 : decode cX4_car 56 = .ok (.iconst 0, 1) := by decide +kernel
theorem dX4_car_57 : decode cX4_car 57 = .ok (.putfield 59, 3) := by decide +kernel
theorem dX4_car_60 : decode cX4_car 60 = .ok (.aload_n 0, 1) := by decide +kernel
theorem dX4_car_61 : decode cX4_car 61 = .ok (.invokevirtual 75, 3) := by decide +kernel
theorem dX4_car_64 : decode cX4_car 64 = .ok (.iconst 1, 1) := by decide +kernel
theorem dX4_car_65 : decode cX4_car 65 = .ok (.ireturn, 1) := by decide +kernel
set_option maxRecDepth 20000 in
theorem ggX4_bounds_X4_isIn : GoodIn wsX4_bounds wsX4_isIn := goodIn_r _ [9] (by decide +kernel) (by decide +kernel)
set_option maxRecDepth 20000 in
theorem gX4_bounds_X4_isIn : GoodIn wsX4_bounds (va_wsS RX4 71 yX4_isIn wsX4_isIn) := goodIn_app (goodIn_of _ (by decide +kernel)) ggX4_bounds_X4_isIn
theorem dX4_bounds_0 : decode cX4_bounds 0 = .ok (.aload_n 0, 1) := by decide +kernel
theorem dX4_bounds_1 : decode cX4_bounds 1 = .ok (.iconst 0, 1) := by decide +kernel
theorem dX4_bounds_2 : decode cX4_bounds 2 = .ok (.putfield 49, 3) := by decide +kernel
theorem dX4_bounds_5 : decode cX4_bounds 5 = .ok (.iload_n 1, 1) := by decide +kernel
theorem dX4_bounds_6 : decode cX4_bounds 6 = .ok (.iconst 1, 1) := by decide +kernel
theorem dX4_bounds_7 : decode cX4_bounds 7 = .ok (.sipush 200, 3) := by decide +kernel
theorem dX4_bounds_10 : decode cX4_bounds 10 = .ok (.invokestatic 71, 3) := by decide +kernel
theorem dX4_bounds_13 : decode cX4_bounds 13 = .ok (.ifCond .eq 32, 3) := by decide +kernel
theorem dX4_bounds_16 : decode cX4_bounds 16 = .ok (.iload_n 2, 1) := by decide +kernel
theorem dX4_bounds_17 : decode cX4_bounds 17 = .ok (.iconst 1, 1) := by decide +kernel
theorem dX4_bounds_18 : decode cX4_bounds 18 = .ok (.bipush 100, 2) := by decide +kernel
theorem dX4_bounds_20 : decode cX4_bounds 20 = .ok (.invokestatic 71, 3) := by decide +kernel
theorem dX4_bounds_23 : decode cX4_bounds 23 = .ok (.ifCond .eq 22, 3) := by decide +kernel
theorem dX4_bounds_26 : decode cX4_bounds 26 = .ok (.iload_n 3, 1) := by decide +kernel
theorem dX4_bounds_27 : decode cX4_bounds 27 = .ok (.iconst 1, 1) := by decide +kernel
theorem dX4_bounds_28 : decode cX4_bounds 28 = .ok (.if_icmp .lt 17, 3) := by decide +kernel
theorem dX4_bounds_31 : decode cX4_bounds 31 = .ok (.iload_n 3, 1) := by decide +kernel
theorem dX4_bounds_32 : decode cX4_bounds 32 = .ok (.iload 4, 2) := by decide +kernel
theorem dX4_bounds_34 : decode cX4_bounds 34 = .ok (.if_icmp .gt 11, 3) := by decide +kernel
theorem dX4_bounds_37 : decode cX4_bounds 37 = .ok (.iload 4, 2) := by decide +kernel
theorem dX4_bounds_39 : decode cX4_bounds 39 = .ok (.sipush 1000, 3) := by decide +kernel
theorem dX4_bounds_42 : decode cX4_bounds 42 = .ok (.if_icmp .le 5, 3) := by decide +kernel
theorem dX4_bounds_45 : decode cX4_bounds 45 = .ok (.iconst 0, 1) := by decide +kernel
theorem dX4_bounds_46 : decode cX4_bounds 46 = .ok (.ireturn, 1) := by decide +kernel
theorem dX4_bounds_47 : decode cX4_bounds 47 = .ok (.aload_n 0, 1) := by decide +kernel
theorem dX4_bounds_48 : decode cX4_bounds 48 = .ok (.iload_n 1, 1) := by decide +kernel
theorem dX4_bounds_49 : decode cX4_bounds 49 = .ok (.putfield 31, 3) := by decide +kernel
theorem dX4_bounds_52 : decode cX4_bounds 52 = .ok (.aload_n 0, 1) := by decide +kernel
theorem dX4_bounds_53 : decode cX4_bounds 53 = .ok (.iload_n 2, 1) := by decide +kernel
theorem dX4_bounds_54 : decode cX4_bounds 54 = .ok (.putfield 34, 3) := by decide +kernel
theorem dX4_bounds_57 : decode cX4_bounds 57 = .ok (.aload_n 0, 1) := by decide +kernel
theorem dX4_bounds_58 : decode cX4_bounds 58 = .ok (.iload_n 3, 1) := by decide +kernel
theorem dX4_bounds_59 : decode cX4_bounds 59 = .ok (.putfield 37, 3) := by decide +kernel
theorem dX4_bounds_62 : decode cX4_bounds 62 = .ok (.aload_n 0, 1) := by decide +kernel
theorem dX4_bounds_63 : decode cX4_bounds 63 = .ok (.iload 4, 2) := by decide +kernel
theorem dX4_bounds_65 : decode cX4_bounds 65 = .ok (.putfield 40, 3) := by decide +kernel
theorem dX4_bounds_68 : decode cX4_bounds 68 = .ok (.iconst 1, 1) := by decide +kernel
theorem dX4_bounds_69 : decode cX4_bounds 69 = .ok (.ireturn, 1) := by decide +kernel
theorem dX4_truth_0 : decode cX4_truth 0 = .ok (.aload_n 0, 1) := by decide +kernel
theorem dX4_truth_1 : decode cX4_truth 1 = .ok (.getfield 13, 3) := by decide +kernel
theorem dX4_truth_4 : decode cX4_truth 4 = .ok (.iconst 0, 1) := by decide +kernel
theorem dX4_truth_5 : decode cX4_truth 5 = .ok (.laload, 1) := by decide +kernel
theorem dX4_truth_6 : decode cX4_truth 6 = .ok (.aload_n 0, 1) := by decide +kernel
theorem dX4_truth_7 : decode cX4_truth 7 = .ok (.getfield 13, 3) := by decide +kernel
theorem dX4_truth_10 : decode cX4_truth 10 = .ok (.iconst 1, 1) := by decide +kernel
theorem dX4_truth_11 : decode cX4_truth 11 = .ok (.laload, 1) := by decide +kernel
theorem dX4_truth_12 : decode cX4_truth 12 = .ok (.ladd, 1) := by decide +kernel
theorem dX4_truth_13 : decode cX4_truth 13 = .ok (.ldc2_w 78, 3) := by decide +kernel
theorem dX4_truth_16 : decode cX4_truth 16 = .ok (.ldiv, 1) := by decide +kernel
theorem dX4_truth_17 : decode cX4_truth 17 = .ok (.lreturn, 1) := by decide +kernel
set_option maxRecDepth 20000 in
theorem ggX4_step_X4_truth : GoodIn wsX4_step wsX4_truth := goodIn_r _ [6, 1, 7, 8, 9, 10, 11, 12, 13, 14, 15, 16, 17, 18, 19, 20, 21, 22, 23, 24] (by decide +kernel) (by decide +kernel)
set_option maxRecDepth 20000 in
theorem gX4_step_X4_truth : GoodIn wsX4_step (wsV RX4 80 RX4 yX4_truth wsX4_truth) := goodIn_app (goodIn_of _ (by decide +kernel)) ggX4_step_X4_truth
theorem dX4_step_0 : decode cX4_step 0 = .ok (.aload_n 0, 1) := by decide +kernel
theorem dX4_step_1 : decode cX4_step 1 = .ok (.invokevirtual 80, 3) := by decide +kernel
theorem dX4_step_4 : decode cX4_step 4 = .ok (.lstore_n 1, 1) := by decide +kernel
theorem dX4_step_5 : decode cX4_step 5 = .ok (.aload_n 0, 1) := by decide +kernel
theorem dX4_step_6 : decode cX4_step 6 = .ok (.getfield 13, 3) := by decide +kernel
theorem dX4_step_9 : decode cX4_step 9 = .ok (.bipush 25, 2) := by decide +kernel
theorem dX4_step_11 : decode cX4_step 11 = .ok (.laload, 1) := by decide +kernel
theorem dX4_step_12 : decode cX4_step 12 = .ok (.lload_n 1, 1) := by decide +kernel
theorem dX4_step_13 : decode cX4_step 13 = .ok (.lcmp, 1) := by decide +kernel
theorem dX4_step_14 : decode cX4_step 14 = .ok (.ifCond .ge 17, 3) := by decide +kernel
theorem dX4_step_17 : decode cX4_step 17 = .ok (.aload_n 0, 1) := by decide +kernel
theorem dX4_step_18 : decode cX4_step 18 = .ok (.getfield 13, 3) := by decide +kernel
theorem dX4_step_21 : decode cX4_step 21 = .ok (.bipush 25, 2) := by decide +kernel
theorem dX4_step_23 : decode cX4_step 23 = .ok (.dup2, 1) := by decide +kernel
theorem dX4_step_24 : decode cX4_step 24 = .ok (.laload, 1) := by decide +kernel
theorem dX4_step_25 : decode cX4_step 25 = .ok (.lconst 1, 1) := by decide +kernel
theorem dX4_step_26 : decode cX4_step 26 = .ok (.ladd, 1) := by decide +kernel
theorem dX4_step_27 : decode cX4_step 27 = .ok (.lastore, 1) := by decide +kernel
theorem dX4_step_28 : decode cX4_step 28 = .ok (.goto 26, 3) := by decide +kernel
theorem dX4_step_31 : decode cX4_step 31 = .ok (.aload_n 0, 1) := by decide +kernel
theorem dX4_step_32 : decode cX4_step 32 = .ok (.getfield 13, 3) := by decide +kernel
theorem dX4_step_35 : decode cX4_step 35 = .ok (.bipush 25, 2) := by decide +kernel
theorem dX4_step_37 : decode cX4_step 37 = .ok (.laload, 1) := by decide +kernel
theorem dX4_step_38 : decode cX4_step 38 = .ok (.lload_n 1, 1) := by decide +kernel
theorem dX4_step_39 : decode cX4_step 39 = .ok (.lcmp, 1) := by decide +kernel
theorem dX4_step_40 : decode cX4_step 40 = .ok (.ifCond .le 14, 3) := by decide +kernel
theorem dX4_step_43 : decode cX4_step 43 = .ok (.aload_n 0, 1) := by decide +kernel
theorem dX4_step_44 : decode cX4_step 44 = .ok (.getfield 13, 3) := by decide +kernel
theorem dX4_step_47 : decode cX4_step 47 = .ok (.bipush 25, 2) := by decide +kernel
theorem dX4_step_49 : decode cX4_step 49 = .ok (.dup2, 1) := by decide +kernel
theorem dX4_step_50 : decode cX4_step 50 = .ok (.laload, 1) := by decide +kernel
theorem dX4_step_51 : decode cX4_step 51 = .ok (.lconst 1, 1) := by decide +kernel
theorem dX4_step_52 : decode cX4_step 52 = .ok (.lsub, 1) := by decide +kernel
theorem dX4_step_53 : decode cX4_step 53 = .ok (.lastore, 1) := by decide +kernel
theorem dX4_step_54 : decode cX4_step 54 = .ok (.return_, 1) := by decide +kernel
set_option maxRecDepth 20000 in
theorem ggX4_jump_X4_truth : GoodIn wsX4_jump wsX4_truth := goodIn_r _ [6, 1, 7, 8, 9, 10, 11, 12, 13, 14, 15, 16, 17, 18, 19, 20, 21, 22, 23, 24] (by decide +kernel) (by decide +kernel)
set_option maxRecDepth 20000 in
theorem gX4_jump_X4_truth : GoodIn wsX4_jump (wsV RX4 80 RX4 yX4_truth wsX4_truth) := goodIn_app (goodIn_of _ (by decide +kernel)) ggX4_jump_X4_truth
theorem dX4_jump_0 : decode cX4_jump 0 = .ok (.aload_n 0, 1) := by decide +kernel
theorem dX4_jump_1 : decode cX4_jump 1 = .ok (.getfield 13, 3) := by decide +kernel
theorem dX4_jump_4 : decode cX4_jump 4 = .ok (.bipush 25, 2) := by decide +kernel
theorem dX4_jump_6 : decode cX4_jump 6 = .ok (.laload, 1) := by decide +kernel
theorem dX4_jump_7 : decode cX4_jump 7 = .ok (.aload_n 0, 1) := by decide +kernel
theorem dX4_jump_8 : decode cX4_jump 8 = .ok (.invokevirtual 80, 3) := by decide +kernel
theorem dX4_jump_11 : decode cX4_jump 11 = .ok (.lcmp, 1) := by decide +kernel
theorem dX4_jump_12 : decode cX4_jump 12 = .ok (.ifCond .eq 14, 3) := by decide +kernel
theorem dX4_jump_15 : decode cX4_jump 15 = .ok (.aload_n 0, 1) := by decide +kernel
theorem dX4_jump_16 : decode cX4_jump 16 = .ok (.getfield 13, 3) := by decide +kernel
theorem dX4_jump_19 : decode cX4_jump 19 = .ok (.bipush 26, 2) := by decide +kernel
theorem dX4_jump_21 : decode cX4_jump 21 = .ok (.dup2, 1) := by decide +kernel
theorem dX4_jump_22 : decode cX4_jump 22 = .ok (.laload, 1) := by decide +kernel
theorem dX4_jump_23 : decode cX4_jump 23 = .ok (.lconst 1, 1) := by decide +kernel
theorem dX4_jump_24 : decode cX4_jump 24 = .ok (.ladd, 1) := by decide +kernel
theorem dX4_jump_25 : decode cX4_jump 25 = .ok (.lastore, 1) := by decide +kernel
theorem dX4_jump_26 : decode cX4_jump 26 = .ok (.aload_n 0, 1) := by decide +kernel
theorem dX4_jump_27 : decode cX4_jump 27 = .ok (.getfield 13, 3) := by decide +kernel
theorem dX4_jump_30 : decode cX4_jump 30 = .ok (.bipush 25, 2) := by decide +kernel
theorem dX4_jump_32 : decode cX4_jump 32 = .ok (.aload_n 0, 1) := by decide +kernel
theorem dX4_jump_33 : decode cX4_jump 33 = .ok (.invokevirtual 80, 3) := by decide +kernel
theorem dX4_jump_36 : decode cX4_jump 36 = .ok (.lastore, 1) := by decide +kernel
theorem dX4_jump_37 : decode cX4_jump 37 = .ok (.return_, 1) := by decide +kernel
theorem dX4_less_0 : decode cX4_less 0 = .ok (.lload_n 0, 1) := by decide +kernel
theorem dX4_less_1 : decode cX4_less 1 = .ok (.lload_n 2, 1) := by decide +kernel
theorem dX4_less_2 : decode cX4_less 2 = .ok (.lcmp, 1) := by decide +kernel
theorem dX4_less_3 : decode cX4_less 3 = .ok (.ifCond .le 9, 3) := by decide +kernel
theorem dX4_less_6 : decode cX4_less 6 = .ok (.lload_n 0, 1) := by decide +kernel
theorem dX4_less_7 : decode cX4_less 7 = .ok (.lload_n 2, 1) := by decide +kernel
theorem dX4_less_8 : decode cX4_less 8 = .ok (.lsub, 1) := by decide +kernel
theorem dX4_less_9 : decode cX4_less 9 = .ok (.goto 4, 3) := by decide +kernel
theorem dX4_less_12 : decode cX4_less 12 = .ok (.lconst 0, 1) := by decide +kernel
theorem dX4_less_13 : decode cX4_less 13 = .ok (.lreturn, 1) := by decide +kernel
theorem dX4_runs_0 : decode cX4_runs 0 = .ok (.iconst 0, 1) := by decide +kernel
theorem dX4_runs_1 : decode cX4_runs 1 = .ok (.istore 11, 2) := by decide +kernel
theorem dX4_runs_3 : decode cX4_runs 3 = .ok (.iload 11, 2) := by decide +kernel
theorem dX4_runs_5 : decode cX4_runs 5 = .ok (.iconst 4, 1) := by decide +kernel
theorem dX4_runs_6 : decode cX4_runs 6 = .ok (.if_icmp .ge 95, 3) := by decide +kernel
theorem dX4_runs_9 : decode cX4_runs 9 = .ok (.aload_n 0, 1) := by decide +kernel
theorem dX4_runs_10 : decode cX4_runs 10 = .ok (.getfield 13, 3) := by decide +kernel
theorem dX4_runs_13 : decode cX4_runs 13 = .ok (.iconst 2, 1) := by decide +kernel
theorem dX4_runs_14 : decode cX4_runs 14 = .ok (.iconst 5, 1) := by decide +kernel
theorem dX4_runs_15 : decode cX4_runs 15 = .ok (.iload 11, 2) := by decide +kernel
theorem dX4_runs_17 : decode cX4_runs 17 = .ok (.imul, 1) := by decide +kernel
theorem dX4_runs_18 : decode cX4_runs 18 = .ok (.iadd, 1) := by decide +kernel
theorem dX4_runs_19 : decode cX4_runs 19 = .ok (.dup2, 1) := by decide +kernel
theorem dX4_runs_20 : decode cX4_runs 20 = .ok (.laload, 1) := by decide +kernel
theorem dX4_runs_21 : decode cX4_runs 21 = .ok (.lload_n 1, 1) := by decide +kernel
theorem dX4_runs_22 : decode cX4_runs 22 = .ok (.ladd, 1) := by decide +kernel
theorem dX4_runs_23 : decode cX4_runs 23 = .ok (.lastore, 1) := by decide +kernel
theorem dX4_runs_24 : decode cX4_runs 24 = .ok (.aload_n 0, 1) := by decide +kernel
theorem dX4_runs_25 : decode cX4_runs 25 = .ok (.getfield 13, 3) := by decide +kernel
theorem dX4_runs_28 : decode cX4_runs 28 = .ok (.iconst 2, 1) := by decide +kernel
theorem dX4_runs_29 : decode cX4_runs 29 = .ok (.iconst 5, 1) := by decide +kernel
theorem dX4_runs_30 : decode cX4_runs 30 = .ok (.iload 11, 2) := by decide +kernel
theorem dX4_runs_32 : decode cX4_runs 32 = .ok (.imul, 1) := by decide +kernel
theorem dX4_runs_33 : decode cX4_runs 33 = .ok (.iadd, 1) := by decide +kernel
theorem dX4_runs_34 : decode cX4_runs 34 = .ok (.iconst 1, 1) := by decide +kernel
theorem dX4_runs_35 : decode cX4_runs 35 = .ok (.iadd, 1) := by decide +kernel
theorem dX4_runs_36 : decode cX4_runs 36 = .ok (.dup2, 1) := by decide +kernel
theorem dX4_runs_37 : decode cX4_runs 37 = .ok (.laload, 1) := by decide +kernel
theorem dX4_runs_38 : decode cX4_runs 38 = .ok (.lload_n 3, 1) := by decide +kernel
theorem dX4_runs_39 : decode cX4_runs 39 = .ok (.ladd, 1) := by decide +kernel
theorem dX4_runs_40 : decode cX4_runs 40 = .ok (.lastore, 1) := by decide +kernel
theorem dX4_runs_41 : decode cX4_runs 41 = .ok (.aload_n 0, 1) := by decide +kernel
theorem dX4_runs_42 : decode cX4_runs 42 = .ok (.getfield 13, 3) := by decide +kernel
theorem dX4_runs_45 : decode cX4_runs 45 = .ok (.iconst 2, 1) := by decide +kernel
theorem dX4_runs_46 : decode cX4_runs 46 = .ok (.iconst 5, 1) := by decide +kernel
theorem dX4_runs_47 : decode cX4_runs 47 = .ok (.iload 11, 2) := by decide +kernel
theorem dX4_runs_49 : decode cX4_runs 49 = .ok (.imul, 1) := by decide +kernel
theorem dX4_runs_50 : decode cX4_runs 50 = .ok (.iadd, 1) := by decide +kernel
theorem dX4_runs_51 : decode cX4_runs 51 = .ok (.iconst 2, 1) := by decide +kernel
theorem dX4_runs_52 : decode cX4_runs 52 = .ok (.iadd, 1) := by decide +kernel
theorem dX4_runs_53 : decode cX4_runs 53 = .ok (.dup2, 1) := by decide +kernel
theorem dX4_runs_54 : decode cX4_runs 54 = .ok (.laload, 1) := by decide +kernel
theorem dX4_runs_55 : decode cX4_runs 55 = .ok (.lload 5, 2) := by decide +kernel
theorem dX4_runs_57 : decode cX4_runs 57 = .ok (.ladd, 1) := by decide +kernel
theorem dX4_runs_58 : decode cX4_runs 58 = .ok (.lastore, 1) := by decide +kernel
theorem dX4_runs_59 : decode cX4_runs 59 = .ok (.aload_n 0, 1) := by decide +kernel
theorem dX4_runs_60 : decode cX4_runs 60 = .ok (.getfield 13, 3) := by decide +kernel
theorem dX4_runs_63 : decode cX4_runs 63 = .ok (.iconst 2, 1) := by decide +kernel
theorem dX4_runs_64 : decode cX4_runs 64 = .ok (.iconst 5, 1) := by decide +kernel
theorem dX4_runs_65 : decode cX4_runs 65 = .ok (.iload 11, 2) := by decide +kernel
theorem dX4_runs_67 : decode cX4_runs 67 = .ok (.imul, 1) := by decide +kernel
theorem dX4_runs_68 : decode cX4_runs 68 = .ok (.iadd, 1) := by decide +kernel
theorem dX4_runs_69 : decode cX4_runs 69 = .ok (.iconst 3, 1) := by decide +kernel
theorem dX4_runs_70 : decode cX4_runs 70 = .ok (.iadd, 1) := by decide +kernel
theorem dX4_runs_71 : decode cX4_runs 71 = .ok (.dup2, 1) := by decide +kernel
theorem dX4_runs_72 : decode cX4_runs 72 = .ok (.laload, 1) := by decide +kernel
theorem dX4_runs_73 : decode cX4_runs 73 = .ok (.lload 7, 2) := by decide +kernel
theorem dX4_runs_75 : decode cX4_runs 75 = .ok (.ladd, 1) := by decide +kernel
theorem dX4_runs_76 : decode cX4_runs 76 = .ok (.lastore, 1) := by decide +kernel
theorem dX4_runs_77 : decode cX4_runs 77 = .ok (.aload_n 0, 1) := by decide +kernel
theorem dX4_runs_78 : decode cX4_runs 78 = .ok (.getfield 13, 3) := by decide +kernel
theorem dX4_runs_81 : decode cX4_runs 81 = .ok (.iconst 2, 1) := by decide +kernel
theorem dX4_runs_82 : decode cX4_runs 82 = .ok (.iconst 5, 1) := by decide +kernel
theorem dX4_runs_83 : decode cX4_runs 83 = .ok (.iload 11, 2) := by decide +kernel
theorem dX4_runs_85 : decode cX4_runs 85 = .ok (.imul, 1) := by decide +kernel
theorem dX4_runs_86 : decode cX4_runs 86 = .ok (.iadd, 1) := by decide +kernel
theorem dX4_runs_87 : decode cX4_runs 87 = .ok (.iconst 4, 1) := by decide +kernel
theorem dX4_runs_88 : decode cX4_runs 88 = .ok (.iadd, 1) := by decide +kernel
theorem dX4_runs_89 : decode cX4_runs 89 = .ok (.dup2, 1) := by decide +kernel
theorem dX4_runs_90 : decode cX4_runs 90 = .ok (.laload, 1) := by decide +kernel
theorem dX4_runs_91 : decode cX4_runs 91 = .ok (.lload 9, 2) := by decide +kernel
theorem dX4_runs_93 : decode cX4_runs 93 = .ok (.ladd, 1) := by decide +kernel
theorem dX4_runs_94 : decode cX4_runs 94 = .ok (.lastore, 1) := by decide +kernel
theorem dX4_runs_95 : decode cX4_runs 95 = .ok (.iinc 11 1, 3) := by decide +kernel
theorem dX4_runs_98 : decode cX4_runs 98 = .ok (.goto (-95), 3) := by decide +kernel
theorem dX4_runs_101 : decode cX4_runs 101 = .ok (.aload_n 0, 1) := by decide +kernel
theorem dX4_runs_102 : decode cX4_runs 102 = .ok (.getfield 13, 3) := by decide +kernel
theorem dX4_runs_105 : decode cX4_runs 105 = .ok (.bipush 28, 2) := by decide +kernel
theorem dX4_runs_107 : decode cX4_runs 107 = .ok (.dup2, 1) := by decide +kernel
theorem dX4_runs_108 : decode cX4_runs 108 = .ok (.laload, 1) := by decide +kernel
theorem dX4_runs_109 : decode cX4_runs 109 = .ok (.lload 5, 2) := by decide +kernel
theorem dX4_runs_111 : decode cX4_runs 111 = .ok (.ladd, 1) := by decide +kernel
theorem dX4_runs_112 : decode cX4_runs 112 = .ok (.lastore, 1) := by decide +kernel
theorem dX4_runs_113 : decode cX4_runs 113 = .ok (.aload_n 0, 1) := by decide +kernel
theorem dX4_runs_114 : decode cX4_runs 114 = .ok (.getfield 13, 3) := by decide +kernel
theorem dX4_runs_117 : decode cX4_runs 117 = .ok (.bipush 29, 2) := by decide +kernel
theorem dX4_runs_119 : decode cX4_runs 119 = .ok (.dup2, 1) := by decide +kernel
theorem dX4_runs_120 : decode cX4_runs 120 = .ok (.laload, 1) := by decide +kernel
theorem dX4_runs_121 : decode cX4_runs 121 = .ok (.lload 7, 2) := by decide +kernel
theorem dX4_runs_123 : decode cX4_runs 123 = .ok (.ladd, 1) := by decide +kernel
theorem dX4_runs_124 : decode cX4_runs 124 = .ok (.lastore, 1) := by decide +kernel
theorem dX4_runs_125 : decode cX4_runs 125 = .ok (.aload_n 0, 1) := by decide +kernel
theorem dX4_runs_126 : decode cX4_runs 126 = .ok (.dup, 1) := by decide +kernel
theorem dX4_runs_127 : decode cX4_runs 127 = .ok (.getfield 66, 3) := by decide +kernel
theorem dX4_runs_130 : decode cX4_runs 130 = .ok (.lload_n 3, 1) := by decide +kernel
theorem dX4_runs_131 : decode cX4_runs 131 = .ok (.ladd, 1) := by decide +kernel
theorem dX4_runs_132 : decode cX4_runs 132 = .ok (.putfield 66, 3) := by decide +kernel
theorem dX4_runs_135 : decode cX4_runs 135 = .ok (.return_, 1) := by decide +kernel
set_option maxRecDepth 20000 in
theorem ggX4_drive_X4_begin : GoodIn wsX4_drive wsX4_begin := goodIn_r _ [10, 11, 5, 12, 3, 13, 14, 15, 9, 16, 17, 37, 38, 39, 40, 41, 42, 43, 44, 45, 46, 47, 48, 49, 50, 51, 52, 53] (by decide +kernel) (by decide +kernel)
set_option maxRecDepth 20000 in
theorem gX4_drive_X4_begin : GoodIn wsX4_drive (wsV RX4 75 RX4 yX4_begin wsX4_begin) := goodIn_app (goodIn_of _ (by decide +kernel)) ggX4_drive_X4_begin
set_option maxRecDepth 20000 in
theorem ggX4_drive_X4_isIn : GoodIn wsX4_drive wsX4_isIn := goodIn_r _ [20] (by decide +kernel) (by decide +kernel)
set_option maxRecDepth 20000 in
theorem gX4_drive_X4_isIn : GoodIn wsX4_drive (va_wsS RX4 71 yX4_isIn wsX4_isIn) := goodIn_app (goodIn_of _ (by decide +kernel)) ggX4_drive_X4_isIn
set_option maxRecDepth 20000 in
theorem ggX4_drive_X4_less : GoodIn wsX4_drive wsX4_less := goodIn_r _ [23] (by decide +kernel) (by decide +kernel)
set_option maxRecDepth 20000 in
theorem gX4_drive_X4_less : GoodIn wsX4_drive (va_wsS RX4 87 yX4_less wsX4_less) := goodIn_app (goodIn_of _ (by decide +kernel)) ggX4_drive_X4_less
set_option maxRecDepth 20000 in
theorem ggX4_drive_X4_runs : GoodIn wsX4_drive wsX4_runs := goodIn_r _ [27, 5, 3, 37, 38, 39, 40, 41, 42, 43, 44, 45, 46, 47, 48, 49, 50, 51, 52, 53] (by decide +kernel) (by decide +kernel)
set_option maxRecDepth 20000 in
theorem gX4_drive_X4_runs : GoodIn wsX4_drive (wsV RX4 91 RX4 yX4_runs wsX4_runs) := goodIn_app (goodIn_of _ (by decide +kernel)) ggX4_drive_X4_runs
set_option maxRecDepth 20000 in
theorem ggX4_drive_X4_step : GoodIn wsX4_drive wsX4_step := goodIn_r _ [31, 5, 32, 33, 34, 9, 35, 36, 37, 38, 39, 40, 41, 42, 43, 44, 45, 46, 47, 48, 49, 50, 51, 52, 53] (by decide +kernel) (by decide +kernel)
set_option maxRecDepth 20000 in
theorem gX4_drive_X4_step : GoodIn wsX4_drive (wsV RX4 95 RX4 yX4_step wsX4_step) := goodIn_app (goodIn_of _ (by decide +kernel)) ggX4_drive_X4_step
theorem dX4_drive_0 : decode cX4_drive 0 = .ok (.aload_n 0, 1) := by decide +kernel
theorem dX4_drive_1 : decode cX4_drive 1 = .ok (.iconst 0, 1) := by decide +kernel
theorem dX4_drive_2 : decode cX4_drive 2 = .ok (.putfield 49, 3) := by decide +kernel
theorem dX4_drive_5 : decode cX4_drive 5 = .ok (.aload_n 0, 1) := by decide +kernel
theorem dX4_drive_6 : decode cX4_drive 6 = .ok (.invokevirtual 75, 3) := by decide +kernel
theorem dX4_drive_9 : decode cX4_drive 9 = .ok (.iload_n 1, 1) := by decide +kernel
theorem dX4_drive_10 : decode cX4_drive 10 = .ok (.iconst 0, 1) := by decide +kernel
theorem dX4_drive_11 : decode cX4_drive 11 = .ok (.ldc 84, 2) := by decide +kernel
theorem dX4_drive_13 : decode cX4_drive 13 = .ok (.invokestatic 71, 3) := by decide +kernel
theorem dX4_drive_16 : decode cX4_drive 16 = .ok (.ifCond .eq 39, 3) := by decide +kernel
theorem dX4_drive_19 : decode cX4_drive 19 = .ok (.iload_n 2, 1) := by decide +kernel
theorem dX4_drive_20 : decode cX4_drive 20 = .ok (.iconst 0, 1) := by decide +kernel
theorem dX4_drive_21 : decode cX4_drive 21 = .ok (.sipush 10000, 3) := by decide +kernel
theorem dX4_drive_24 : decode cX4_drive 24 = .ok (.invokestatic 71, 3) := by decide +kernel
theorem dX4_drive_27 : decode cX4_drive 27 = .ok (.ifCond .eq 28, 3) := by decide +kernel
theorem dX4_drive_30 : decode cX4_drive 30 = .ok (.iload_n 3, 1) := by decide +kernel
theorem dX4_drive_31 : decode cX4_drive 31 = .ok (.iconst 1, 1) := by decide +kernel
theorem dX4_drive_32 : decode cX4_drive 32 = .ok (.sipush 3600, 3) := by decide +kernel
theorem dX4_drive_35 : decode cX4_drive 35 = .ok (.invokestatic 71, 3) := by decide +kernel
theorem dX4_drive_38 : decode cX4_drive 38 = .ok (.ifCond .eq 17, 3) := by decide +kernel
theorem dX4_drive_41 : decode cX4_drive 41 = .ok (.aload_n 0, 1) := by decide +kernel
theorem dX4_drive_42 : decode cX4_drive 42 = .ok (.getfield 66, 3) := by decide +kernel
theorem dX4_drive_45 : decode cX4_drive 45 = .ok (.iload_n 1, 1) := by decide +kernel
theorem dX4_drive_46 : decode cX4_drive 46 = .ok (.i2l, 1) := by decide +kernel
theorem dX4_drive_47 : decode cX4_drive 47 = .ok (.ladd, 1) := by decide +kernel
theorem dX4_drive_48 : decode cX4_drive 48 = .ok (.ldc2_w 85, 3) := by decide +kernel
theorem dX4_drive_51 : decode cX4_drive 51 = .ok (.lcmp, 1) := by decide +kernel
theorem dX4_drive_52 : decode cX4_drive 52 = .ok (.ifCond .le 5, 3) := by decide +kernel
theorem dX4_drive_55 : decode cX4_drive 55 = .ok (.iconst 0, 1) := by decide +kernel
theorem dX4_drive_56 : decode cX4_drive 56 = .ok (.ireturn, 1) := by decide +kernel
theorem dX4_drive_57 : decode cX4_drive 57 = .ok (.iload_n 2, 1) := by decide +kernel
theorem dX4_drive_58 : decode cX4_drive 58 = .ok (.i2l, 1) := by decide +kernel
theorem dX4_drive_59 : decode cX4_drive 59 = .ok (.aload_n 0, 1) := by decide +kernel
theorem dX4_drive_60 : decode cX4_drive 60 = .ok (.getfield 13, 3) := by decide +kernel
theorem dX4_drive_63 : decode cX4_drive 63 = .ok (.iconst 1, 1) := by decide +kernel
theorem dX4_drive_64 : decode cX4_drive 64 = .ok (.laload, 1) := by decide +kernel
theorem dX4_drive_65 : decode cX4_drive 65 = .ok (.lcmp, 1) := by decide +kernel
theorem dX4_drive_66 : decode cX4_drive 66 = .ok (.ifCond .le 22, 3) := by decide +kernel
theorem dX4_drive_69 : decode cX4_drive 69 = .ok (.aload_n 0, 1) := by decide +kernel
theorem dX4_drive_70 : decode cX4_drive 70 = .ok (.getfield 13, 3) := by decide +kernel
theorem dX4_drive_73 : decode cX4_drive 73 = .ok (.bipush 24, 2) := by decide +kernel
theorem dX4_drive_75 : decode cX4_drive 75 = .ok (.dup2, 1) := by decide +kernel
theorem dX4_drive_76 : decode cX4_drive 76 = .ok (.laload, 1) := by decide +kernel
theorem dX4_drive_77 : decode cX4_drive 77 = .ok (.lconst 1, 1) := by decide +kernel
theorem dX4_drive_78 : decode cX4_drive 78 = .ok (.ladd, 1) := by decide +kernel
theorem dX4_drive_79 : decode cX4_drive 79 = .ok (.lastore, 1) := by decide +kernel
theorem dX4_drive_80 : decode cX4_drive 80 = .ok (.aload_n 0, 1) := by decide +kernel
theorem dX4_drive_81 : decode cX4_drive 81 = .ok (.getfield 13, 3) := by decide +kernel
theorem dX4_drive_84 : decode cX4_drive 84 = .ok (.bipush 27, 2) := by decide +kernel
theorem dX4_drive_86 : decode cX4_drive 86 = .ok (.lconst 0, 1) := by decide +kernel
theorem dX4_drive_87 : decode cX4_drive 87 = .ok (.lastore, 1) := by decide +kernel
theorem dX4_drive_88 : decode cX4_drive 88 = .ok (.aload_n 0, 1) := by decide +kernel
theorem dX4_drive_89 : decode cX4_drive 89 = .ok (.getfield 13, 3) := by decide +kernel
theorem dX4_drive_92 : decode cX4_drive 92 = .ok (.iconst 0, 1) := by decide +kernel
theorem dX4_drive_93 : decode cX4_drive 93 = .ok (.aload_n 0, 1) := by decide +kernel
theorem dX4_drive_94 : decode cX4_drive 94 = .ok (.getfield 13, 3) := by decide +kernel
theorem dX4_drive_97 : decode cX4_drive 97 = .ok (.iconst 0, 1) := by decide +kernel
theorem dX4_drive_98 : decode cX4_drive 98 = .ok (.laload, 1) := by decide +kernel
theorem dX4_drive_99 : decode cX4_drive 99 = .ok (.iload_n 2, 1) := by decide +kernel
theorem dX4_drive_100 : decode cX4_drive 100 = .ok (.i2l, 1) := by decide +kernel
theorem dX4_drive_101 : decode cX4_drive 101 = .ok (.invokestatic 87, 3) := by decide +kernel
theorem dX4_drive_104 : decode cX4_drive 104 = .ok (.lastore, 1) := by decide +kernel
theorem dX4_drive_105 : decode cX4_drive 105 = .ok (.aload_n 0, 1) := by decide +kernel
theorem dX4_drive_106 : decode cX4_drive 106 = .ok (.getfield 13, 3) := by decide +kernel
theorem dX4_drive_109 : decode cX4_drive 109 = .ok (.iconst 1, 1) := by decide +kernel
theorem dX4_drive_110 : decode cX4_drive 110 = .ok (.aload_n 0, 1) := by decide +kernel
theorem dX4_drive_111 : decode cX4_drive 111 = .ok (.getfield 13, 3) := by decide +kernel
theorem dX4_drive_114 : decode cX4_drive 114 = .ok (.iconst 1, 1) := by decide +kernel
theorem dX4_drive_115 : decode cX4_drive 115 = .ok (.laload, 1) := by decide +kernel
theorem dX4_drive_116 : decode cX4_drive 116 = .ok (.iload_n 2, 1) := by decide +kernel
theorem dX4_drive_117 : decode cX4_drive 117 = .ok (.i2l, 1) := by decide +kernel
theorem dX4_drive_118 : decode cX4_drive 118 = .ok (.invokestatic 87, 3) := by decide +kernel
theorem dX4_drive_121 : decode cX4_drive 121 = .ok (.lastore, 1) := by decide +kernel
theorem dX4_drive_122 : decode cX4_drive 122 = .ok (.aload_n 0, 1) := by decide +kernel
theorem dX4_drive_123 : decode cX4_drive 123 = .ok (.iload_n 1, 1) := by decide +kernel
theorem dX4_drive_124 : decode cX4_drive 124 = .ok (.i2l, 1) := by decide +kernel
theorem dX4_drive_125 : decode cX4_drive 125 = .ok (.iload_n 1, 1) := by decide +kernel
theorem dX4_drive_126 : decode cX4_drive 126 = .ok (.i2l, 1) := by decide +kernel
theorem dX4_drive_127 : decode cX4_drive 127 = .ok (.iload_n 2, 1) := by decide +kernel
theorem dX4_drive_128 : decode cX4_drive 128 = .ok (.i2l, 1) := by decide +kernel
theorem dX4_drive_129 : decode cX4_drive 129 = .ok (.iload_n 2, 1) := by decide +kernel
theorem dX4_drive_130 : decode cX4_drive 130 = .ok (.i2l, 1) := by decide +kernel
theorem dX4_drive_131 : decode cX4_drive 131 = .ok (.iload_n 3, 1) := by decide +kernel
theorem dX4_drive_132 : decode cX4_drive 132 = .ok (.i2l, 1) := by decide +kernel
theorem dX4_drive_133 : decode cX4_drive 133 = .ok (.invokevirtual 91, 3) := by decide +kernel
theorem dX4_drive_136 : decode cX4_drive 136 = .ok (.aload_n 0, 1) := by decide +kernel
theorem dX4_drive_137 : decode cX4_drive 137 = .ok (.invokevirtual 95, 3) := by decide +kernel
theorem dX4_drive_140 : decode cX4_drive 140 = .ok (.iconst 1, 1) := by decide +kernel
theorem dX4_drive_141 : decode cX4_drive 141 = .ok (.ireturn, 1) := by decide +kernel
set_option maxRecDepth 20000 in
theorem ggX4_mayGap_X4_isIn : GoodIn wsX4_mayGap wsX4_isIn := goodIn_r _ [8] (by decide +kernel) (by decide +kernel)
set_option maxRecDepth 20000 in
theorem gX4_mayGap_X4_isIn : GoodIn wsX4_mayGap (va_wsS RX4 71 yX4_isIn wsX4_isIn) := goodIn_app (goodIn_of _ (by decide +kernel)) ggX4_mayGap_X4_isIn
theorem dX4_mayGap_0 : decode cX4_mayGap 0 = .ok (.iload_n 1, 1) := by decide +kernel
theorem dX4_mayGap_1 : decode cX4_mayGap 1 = .ok (.iconst 1, 1) := by decide +kernel
theorem dX4_mayGap_2 : decode cX4_mayGap 2 = .ok (.ldc 98, 2) := by decide +kernel
theorem dX4_mayGap_4 : decode cX4_mayGap 4 = .ok (.invokestatic 71, 3) := by decide +kernel
theorem dX4_mayGap_7 : decode cX4_mayGap 7 = .ok (.ifCond .eq 27, 3) := by decide +kernel
theorem dX4_mayGap_10 : decode cX4_mayGap 10 = .ok (.aload_n 0, 1) := by decide +kernel
theorem dX4_mayGap_11 : decode cX4_mayGap 11 = .ok (.getfield 66, 3) := by decide +kernel
theorem dX4_mayGap_14 : decode cX4_mayGap 14 = .ok (.aload_n 0, 1) := by decide +kernel
theorem dX4_mayGap_15 : decode cX4_mayGap 15 = .ok (.getfield 31, 3) := by decide +kernel
theorem dX4_mayGap_18 : decode cX4_mayGap 18 = .ok (.i2l, 1) := by decide +kernel
theorem dX4_mayGap_19 : decode cX4_mayGap 19 = .ok (.iload_n 1, 1) := by decide +kernel
theorem dX4_mayGap_20 : decode cX4_mayGap 20 = .ok (.i2l, 1) := by decide +kernel
theorem dX4_mayGap_21 : decode cX4_mayGap 21 = .ok (.lmul, 1) := by decide +kernel
theorem dX4_mayGap_22 : decode cX4_mayGap 22 = .ok (.ladd, 1) := by decide +kernel
theorem dX4_mayGap_23 : decode cX4_mayGap 23 = .ok (.ldc2_w 85, 3) := by decide +kernel
theorem dX4_mayGap_26 : decode cX4_mayGap 26 = .ok (.lcmp, 1) := by decide +kernel
theorem dX4_mayGap_27 : decode cX4_mayGap 27 = .ok (.ifCond .gt 7, 3) := by decide +kernel
theorem dX4_mayGap_30 : decode cX4_mayGap 30 = .ok (.iconst 1, 1) := by decide +kernel
theorem dX4_mayGap_31 : decode cX4_mayGap 31 = .ok (.goto 4, 3) := by decide +kernel
theorem dX4_mayGap_34 : decode cX4_mayGap 34 = .ok (.iconst 0, 1) := by decide +kernel
theorem dX4_mayGap_35 : decode cX4_mayGap 35 = .ok (.ireturn, 1) := by decide +kernel
set_option maxRecDepth 20000 in
theorem ggX4_gaps_X4_less : GoodIn wsX4_gaps wsX4_less := goodIn_r _ [7] (by decide +kernel) (by decide +kernel)
set_option maxRecDepth 20000 in
theorem gX4_gaps_X4_less : GoodIn wsX4_gaps (va_wsS RX4 87 yX4_less wsX4_less) := goodIn_app (goodIn_of _ (by decide +kernel)) ggX4_gaps_X4_less
set_option maxRecDepth 20000 in
theorem ggX4_gaps_X4_runs : GoodIn wsX4_gaps wsX4_runs := goodIn_r _ [11, 1, 12, 22, 23, 24, 25, 26, 27, 28, 29, 30, 31, 32, 33, 34, 35, 36, 37, 38] (by decide +kernel) (by decide +kernel)
set_option maxRecDepth 20000 in
theorem gX4_gaps_X4_runs : GoodIn wsX4_gaps (wsV RX4 91 RX4 yX4_runs wsX4_runs) := goodIn_app (goodIn_of _ (by decide +kernel)) ggX4_gaps_X4_runs
set_option maxRecDepth 20000 in
theorem ggX4_gaps_X4_step : GoodIn wsX4_gaps wsX4_step := goodIn_r _ [16, 1, 17, 18, 19, 6, 20, 21, 22, 23, 24, 25, 26, 27, 28, 29, 30, 31, 32, 33, 34, 35, 36, 37, 38] (by decide +kernel) (by decide +kernel)
set_option maxRecDepth 20000 in
theorem gX4_gaps_X4_step : GoodIn wsX4_gaps (wsV RX4 95 RX4 yX4_step wsX4_step) := goodIn_app (goodIn_of _ (by decide +kernel)) ggX4_gaps_X4_step
theorem dX4_gaps_0 : decode cX4_gaps 0 = .ok (.aload_n 0, 1) := by decide +kernel
theorem dX4_gaps_1 : decode cX4_gaps 1 = .ok (.getfield 13, 3) := by decide +kernel
theorem dX4_gaps_4 : decode cX4_gaps 4 = .ok (.iconst 0, 1) := by decide +kernel
theorem dX4_gaps_5 : decode cX4_gaps 5 = .ok (.aload_n 0, 1) := by decide +kernel
theorem dX4_gaps_6 : decode cX4_gaps 6 = .ok (.getfield 13, 3) := by decide +kernel
theorem dX4_gaps_9 : decode cX4_gaps 9 = .ok (.iconst 0, 1) := by decide +kernel
theorem dX4_gaps_10 : decode cX4_gaps 10 = .ok (.laload, 1) := by decide +kernel
theorem dX4_gaps_11 : decode cX4_gaps 11 = .ok (.aload_n 0, 1) := by decide +kernel
theorem dX4_gaps_12 : decode cX4_gaps 12 = .ok (.getfield 34, 3) := by decide +kernel
theorem dX4_gaps_15 : decode cX4_gaps 15 = .ok (.i2l, 1) := by decide +kernel
theorem dX4_gaps_16 : decode cX4_gaps 16 = .ok (.iload_n 1, 1) := by decide +kernel
theorem dX4_gaps_17 : decode cX4_gaps 17 = .ok (.i2l, 1) := by decide +kernel
theorem dX4_gaps_18 : decode cX4_gaps 18 = .ok (.lmul, 1) := by decide +kernel
theorem dX4_gaps_19 : decode cX4_gaps 19 = .ok (.invokestatic 87, 3) := by decide +kernel
theorem dX4_gaps_22 : decode cX4_gaps 22 = .ok (.lastore, 1) := by decide +kernel
theorem dX4_gaps_23 : decode cX4_gaps 23 = .ok (.aload_n 0, 1) := by decide +kernel
theorem dX4_gaps_24 : decode cX4_gaps 24 = .ok (.lconst 0, 1) := by decide +kernel
theorem dX4_gaps_25 : decode cX4_gaps 25 = .ok (.aload_n 0, 1) := by decide +kernel
theorem dX4_gaps_26 : decode cX4_gaps 26 = .ok (.getfield 31, 3) := by decide +kernel
theorem dX4_gaps_29 : decode cX4_gaps 29 = .ok (.i2l, 1) := by decide +kernel
theorem dX4_gaps_30 : decode cX4_gaps 30 = .ok (.iload_n 1, 1) := by decide +kernel
theorem dX4_gaps_31 : decode cX4_gaps 31 = .ok (.i2l, 1) := by decide +kernel
theorem dX4_gaps_32 : decode cX4_gaps 32 = .ok (.lmul, 1) := by decide +kernel
theorem dX4_gaps_33 : decode cX4_gaps 33 = .ok (.lconst 0, 1) := by decide +kernel
theorem dX4_gaps_34 : decode cX4_gaps 34 = .ok (.aload_n 0, 1) := by decide +kernel
theorem dX4_gaps_35 : decode cX4_gaps 35 = .ok (.getfield 34, 3) := by decide +kernel
theorem dX4_gaps_38 : decode cX4_gaps 38 = .ok (.i2l, 1) := by decide +kernel
theorem dX4_gaps_39 : decode cX4_gaps 39 = .ok (.iload_n 1, 1) := by decide +kernel
theorem dX4_gaps_40 : decode cX4_gaps 40 = .ok (.i2l, 1) := by decide +kernel
theorem dX4_gaps_41 : decode cX4_gaps 41 = .ok (.lmul, 1) := by decide +kernel
theorem dX4_gaps_42 : decode cX4_gaps 42 = .ok (.iload_n 1, 1) := by decide +kernel
theorem dX4_gaps_43 : decode cX4_gaps 43 = .ok (.i2l, 1) := by decide +kernel
theorem dX4_gaps_44 : decode cX4_gaps 44 = .ok (.invokevirtual 91, 3) := by decide +kernel
theorem dX4_gaps_47 : decode cX4_gaps 47 = .ok (.aload_n 0, 1) := by decide +kernel
theorem dX4_gaps_48 : decode cX4_gaps 48 = .ok (.invokevirtual 95, 3) := by decide +kernel
theorem dX4_gaps_51 : decode cX4_gaps 51 = .ok (.return_, 1) := by decide +kernel
set_option maxRecDepth 20000 in
theorem ggX4_gap_X4_begin : GoodIn wsX4_gap wsX4_begin := goodIn_r _ [6, 7, 8, 9, 10, 11, 12, 13, 5, 14, 15, 47, 48, 49, 50, 51, 52, 53, 54, 55, 56, 57, 58, 59, 60, 61, 62, 63] (by decide +kernel) (by decide +kernel)
set_option maxRecDepth 20000 in
theorem gX4_gap_X4_begin : GoodIn wsX4_gap (wsV RX4 75 RX4 yX4_begin wsX4_begin) := goodIn_app (goodIn_of _ (by decide +kernel)) ggX4_gap_X4_begin
set_option maxRecDepth 20000 in
theorem ggX4_gap_X4_mayGap : GoodIn wsX4_gap wsX4_mayGap := goodIn_r _ [19, 20, 10, 21, 22, 23, 24, 5, 25, 47, 48, 49, 50, 51, 52, 53, 54, 55, 56, 57, 58, 59, 60, 61, 62, 63] (by decide +kernel) (by decide +kernel)
set_option maxRecDepth 20000 in
theorem gX4_gap_X4_mayGap : GoodIn wsX4_gap (wsV RX4 99 RX4 yX4_mayGap wsX4_mayGap) := goodIn_app (goodIn_of _ (by decide +kernel)) ggX4_gap_X4_mayGap
set_option maxRecDepth 20000 in
theorem ggX4_gap_X4_gaps : GoodIn wsX4_gap wsX4_gaps := goodIn_r _ [29, 8, 30, 21, 31, 32, 5, 33, 34, 35, 36, 37, 10, 38, 39, 40, 41, 42, 43, 44, 45, 46, 47, 48, 49, 50, 51, 52, 53, 54, 55, 56, 57, 58, 59, 60, 61, 62, 63] (by decide +kernel) (by decide +kernel)
set_option maxRecDepth 20000 in
theorem gX4_gap_X4_gaps : GoodIn wsX4_gap (wsV RX4 103 RX4 yX4_gaps wsX4_gaps) := goodIn_app (goodIn_of _ (by decide +kernel)) ggX4_gap_X4_gaps
theorem dX4_gap_0 : decode cX4_gap 0 = .ok (.aload_n 0, 1) := by decide +kernel
theorem dX4_gap_1 : decode cX4_gap 1 = .ok (.iconst 0, 1) := by decide +kernel
theorem dX4_gap_2 : decode cX4_gap 2 = .ok (.putfield 49, 3) := by decide +kernel
theorem dX4_gap_5 : decode cX4_gap 5 = .ok (.aload_n 0, 1) := by decide +kernel
theorem dX4_gap_6 : decode cX4_gap 6 = .ok (.invokevirtual 75, 3) := by decide +kernel
theorem dX4_gap_9 : decode cX4_gap 9 = .ok (.aload_n 0, 1) := by decide +kernel
theorem dX4_gap_10 : decode cX4_gap 10 = .ok (.iload_n 1, 1) := by decide +kernel
theorem dX4_gap_11 : decode cX4_gap 11 = .ok (.invokevirtual 99, 3) := by decide +kernel
theorem dX4_gap_14 : decode cX4_gap 14 = .ok (.ifCond .ne 5, 3) := by decide +kernel
theorem dX4_gap_17 : decode cX4_gap 17 = .ok (.iconst 0, 1) := by decide +kernel
theorem dX4_gap_18 : decode cX4_gap 18 = .ok (.ireturn, 1) := by decide +kernel
theorem dX4_gap_19 : decode cX4_gap 19 = .ok (.aload_n 0, 1) := by decide +kernel
theorem dX4_gap_20 : decode cX4_gap 20 = .ok (.iload_n 1, 1) := by decide +kernel
theorem dX4_gap_21 : decode cX4_gap 21 = .ok (.invokevirtual 103, 3) := by decide +kernel
theorem dX4_gap_24 : decode cX4_gap 24 = .ok (.iconst 1, 1) := by decide +kernel
theorem dX4_gap_25 : decode cX4_gap 25 = .ok (.ireturn, 1) := by decide +kernel
set_option maxRecDepth 20000 in
theorem ggX4_dead_X4_begin : GoodIn wsX4_dead wsX4_begin := goodIn_r _ [8, 9, 2, 10, 11, 12, 13, 14, 7, 15, 3, 47, 48, 49, 50, 51, 52, 53, 54, 55, 56, 57, 58, 59, 60, 61, 62, 63] (by decide +kernel) (by decide +kernel)
end
section
set_option maxRecDepth 20000 in
theorem gX4_dead_X4_begin : GoodIn wsX4_dead (wsV RX4 75 RX4 yX4_begin wsX4_begin) := goodIn_app (goodIn_of _ (by decide +kernel)) ggX4_dead_X4_begin
set_option maxRecDepth 20000 in
theorem ggX4_dead_X4_mayGap : GoodIn wsX4_dead wsX4_mayGap := goodIn_r _ [19, 20, 11, 21, 22, 23, 24, 7, 25, 47, 48, 49, 50, 51, 52, 53, 54, 55, 56, 57, 58, 59, 60, 61, 62, 63] (by decide +kernel) (by decide +kernel)
set_option maxRecDepth 20000 in
theorem gX4_dead_X4_mayGap : GoodIn wsX4_dead (wsV RX4 99 RX4 yX4_mayGap wsX4_mayGap) := goodIn_app (goodIn_of _ (by decide +kernel)) ggX4_dead_X4_mayGap
set_option maxRecDepth 20000 in
theorem ggX4_dead_X4_gaps : GoodIn wsX4_dead wsX4_gaps := goodIn_r _ [29, 2, 30, 21, 31, 32, 7, 33, 34, 35, 36, 37, 11, 38, 39, 40, 41, 42, 43, 44, 45, 46, 47, 48, 49, 50, 51, 52, 53, 54, 55, 56, 57, 58, 59, 60, 61, 62, 63] (by decide +kernel) (by decide +kernel)
set_option maxRecDepth 20000 in
theorem gX4_dead_X4_gaps : GoodIn wsX4_dead (wsV RX4 103 RX4 yX4_gaps wsX4_gaps) := goodIn_app (goodIn_of _ (by decide +kernel)) ggX4_dead_X4_gaps
theorem dX4_dead_0 : decode cX4_dead 0 = .ok (.aload_n 0, 1) := by decide +kernel
theorem dX4_dead_1 : decode cX4_dead 1 = .ok (.iconst 0, 1) := by decide +kernel
theorem dX4_dead_2 : decode cX4_dead 2 = .ok (.putfield 49, 3) := by decide +kernel
theorem dX4_dead_5 : decode cX4_dead 5 = .ok (.aload_n 0, 1) := by decide +kernel
theorem dX4_dead_6 : decode cX4_dead 6 = .ok (.invokevirtual 75, 3) := by decide +kernel
theorem dX4_dead_9 : decode cX4_dead 9 = .ok (.aload_n 0, 1) := by decide +kernel
theorem dX4_dead_10 : decode cX4_dead 10 = .ok (.iload_n 1, 1) := by decide +kernel
theorem dX4_dead_11 : decode cX4_dead 11 = .ok (.invokevirtual 99, 3) := by decide +kernel
theorem dX4_dead_14 : decode cX4_dead 14 = .ok (.ifCond .ne 5, 3) := by decide +kernel
theorem dX4_dead_17 : decode cX4_dead 17 = .ok (.iconst 0, 1) := by decide +kernel
theorem dX4_dead_18 : decode cX4_dead 18 = .ok (.ireturn, 1) := by decide +kernel
theorem dX4_dead_19 : decode cX4_dead 19 = .ok (.iconst 0, 1) := by decide +kernel
theorem dX4_dead_20 : decode cX4_dead 20 = .ok (.istore_n 2, 1) := by decide +kernel
theorem dX4_dead_21 : decode cX4_dead 21 = .ok (.iload_n 2, 1) := by decide +kernel
theorem dX4_dead_22 : decode cX4_dead 22 = .ok (.bipush 92, 2) := by decide +kernel
theorem dX4_dead_24 : decode cX4_dead 24 = .ok (.if_icmp .ge 21, 3) := by decide +kernel
theorem dX4_dead_27 : decode cX4_dead 27 = .ok (.aload_n 0, 1) := by decide +kernel
theorem dX4_dead_28 : decode cX4_dead 28 = .ok (.getfield 13, 3) := by decide +kernel
theorem dX4_dead_31 : decode cX4_dead 31 = .ok (.iload_n 2, 1) := by decide +kernel
theorem dX4_dead_32 : decode cX4_dead 32 = .ok (.aload_n 0, 1) := by decide +kernel
theorem dX4_dead_33 : decode cX4_dead 33 = .ok (.getfield 17, 3) := by decide +kernel
theorem dX4_dead_36 : decode cX4_dead 36 = .ok (.iload_n 2, 1) := by decide +kernel
theorem dX4_dead_37 : decode cX4_dead 37 = .ok (.laload, 1) := by decide +kernel
theorem dX4_dead_38 : decode cX4_dead 38 = .ok (.lastore, 1) := by decide +kernel
theorem dX4_dead_39 : decode cX4_dead 39 = .ok (.iinc 2 1, 3) := by decide +kernel
theorem dX4_dead_42 : decode cX4_dead 42 = .ok (.goto (-21), 3) := by decide +kernel
theorem dX4_dead_45 : decode cX4_dead 45 = .ok (.aload_n 0, 1) := by decide +kernel
theorem dX4_dead_46 : decode cX4_dead 46 = .ok (.iload_n 1, 1) := by decide +kernel
theorem dX4_dead_47 : decode cX4_dead 47 = .ok (.invokevirtual 103, 3) := by decide +kernel
theorem dX4_dead_50 : decode cX4_dead 50 = .ok (.iconst 1, 1) := by decide +kernel
theorem dX4_dead_51 : decode cX4_dead 51 = .ok (.ireturn, 1) := by decide +kernel
set_option maxRecDepth 20000 in
theorem ggX4_keep_X4_begin : GoodIn wsX4_keep wsX4_begin := goodIn_r _ [6, 7, 8, 9, 10, 11, 12, 13, 5, 14, 15, 16, 17, 18, 19, 20, 21, 22, 23, 24, 25, 26, 27, 28, 29, 30, 31, 32] (by decide +kernel) (by decide +kernel)
set_option maxRecDepth 20000 in
theorem gX4_keep_X4_begin : GoodIn wsX4_keep (wsV RX4 75 RX4 yX4_begin wsX4_begin) := goodIn_app (goodIn_of _ (by decide +kernel)) ggX4_keep_X4_begin
set_option maxRecDepth 20000 in
theorem ggX4_keep_X4_copy : GoodIn wsX4_keep wsX4_copy := goodIn_r _ [14, 15, 8, 16, 17, 18, 19, 20, 21, 22, 23, 24, 25, 26, 27, 28, 29, 30, 31, 32] (by decide +kernel) (by decide +kernel)
set_option maxRecDepth 20000 in
theorem gX4_keep_X4_copy : GoodIn wsX4_keep (wsV RX4 63 RX4 yX4_copy wsX4_copy) := goodIn_app (goodIn_of _ (by decide +kernel)) ggX4_keep_X4_copy
theorem dX4_keep_0 : decode cX4_keep 0 = .ok (.aload_n 0, 1) := by decide +kernel
theorem dX4_keep_1 : decode cX4_keep 1 = .ok (.iconst 0, 1) := by decide +kernel
theorem dX4_keep_2 : decode cX4_keep 2 = .ok (.putfield 49, 3) := by decide +kernel
theorem dX4_keep_5 : decode cX4_keep 5 = .ok (.aload_n 0, 1) := by decide +kernel
theorem dX4_keep_6 : decode cX4_keep 6 = .ok (.invokevirtual 75, 3) := by decide +kernel
theorem dX4_keep_9 : decode cX4_keep 9 = .ok (.aload_n 0, 1) := by decide +kernel
theorem dX4_keep_10 : decode cX4_keep 10 = .ok (.invokevirtual 63, 3) := by decide +kernel
theorem dX4_keep_13 : decode cX4_keep 13 = .ok (.return_, 1) := by decide +kernel
theorem dX4_clear_0 : decode cX4_clear 0 = .ok (.iconst 0, 1) := by decide +kernel
theorem dX4_clear_1 : decode cX4_clear 1 = .ok (.istore_n 2, 1) := by decide +kernel
theorem dX4_clear_2 : decode cX4_clear 2 = .ok (.iload_n 2, 1) := by decide +kernel
theorem dX4_clear_3 : decode cX4_clear 3 = .ok (.iconst 5, 1) := by decide +kernel
theorem dX4_clear_4 : decode cX4_clear 4 = .ok (.if_icmp .ge 22, 3) := by decide +kernel
theorem dX4_clear_7 : decode cX4_clear 7 = .ok (.aload_n 0, 1) := by decide +kernel
theorem dX4_clear_8 : decode cX4_clear 8 = .ok (.getfield 13, 3) := by decide +kernel
theorem dX4_clear_11 : decode cX4_clear 11 = .ok (.iconst 2, 1) := by decide +kernel
theorem dX4_clear_12 : decode cX4_clear 12 = .ok (.iconst 5, 1) := by decide +kernel
theorem dX4_clear_13 : decode cX4_clear 13 = .ok (.iload_n 1, 1) := by decide +kernel
theorem dX4_clear_14 : decode cX4_clear 14 = .ok (.imul, 1) := by decide +kernel
theorem dX4_clear_15 : decode cX4_clear 15 = .ok (.iadd, 1) := by decide +kernel
theorem dX4_clear_16 : decode cX4_clear 16 = .ok (.iload_n 2, 1) := by decide +kernel
theorem dX4_clear_17 : decode cX4_clear 17 = .ok (.iadd, 1) := by decide +kernel
theorem dX4_clear_18 : decode cX4_clear 18 = .ok (.lconst 0, 1) := by decide +kernel
theorem dX4_clear_19 : decode cX4_clear 19 = .ok (.lastore, 1) := by decide +kernel
theorem dX4_clear_20 : decode cX4_clear 20 = .ok (.iinc 2 1, 3) := by decide +kernel
theorem dX4_clear_23 : decode cX4_clear 23 = .ok (.goto (-21), 3) := by decide +kernel
theorem dX4_clear_26 : decode cX4_clear 26 = .ok (.return_, 1) := by decide +kernel
set_option maxRecDepth 20000 in
theorem ggX4_set_X4_begin : GoodIn wsX4_set wsX4_begin := goodIn_r _ [6, 7, 8, 9, 10, 11, 12, 13, 5, 14, 15, 20, 21, 22, 23, 24, 25, 26, 27, 28, 29, 30, 31, 32, 33, 34, 35, 36] (by decide +kernel) (by decide +kernel)
set_option maxRecDepth 20000 in
theorem gX4_set_X4_begin : GoodIn wsX4_set (wsV RX4 75 RX4 yX4_begin wsX4_begin) := goodIn_app (goodIn_of _ (by decide +kernel)) ggX4_set_X4_begin
set_option maxRecDepth 20000 in
theorem ggX4_set_X4_clear : GoodIn wsX4_set wsX4_clear := goodIn_r _ [19, 8, 20, 21, 22, 23, 24, 25, 26, 27, 28, 29, 30, 31, 32, 33, 34, 35, 36] (by decide +kernel) (by decide +kernel)
set_option maxRecDepth 20000 in
theorem gX4_set_X4_clear : GoodIn wsX4_set (wsV RX4 106 RX4 yX4_clear wsX4_clear) := goodIn_app (goodIn_of _ (by decide +kernel)) ggX4_set_X4_clear
theorem dX4_set_0 : decode cX4_set 0 = .ok (.aload_n 0, 1) := by decide +kernel
theorem dX4_set_1 : decode cX4_set 1 = .ok (.iconst 0, 1) := by decide +kernel
theorem dX4_set_2 : decode cX4_set 2 = .ok (.putfield 49, 3) := by decide +kernel
theorem dX4_set_5 : decode cX4_set 5 = .ok (.aload_n 0, 1) := by decide +kernel
theorem dX4_set_6 : decode cX4_set 6 = .ok (.invokevirtual 75, 3) := by decide +kernel
theorem dX4_set_9 : decode cX4_set 9 = .ok (.iload_n 1, 1) := by decide +kernel
theorem dX4_set_10 : decode cX4_set 10 = .ok (.ifCond .lt 8, 3) := by decide +kernel
theorem dX4_set_13 : decode cX4_set 13 = .ok (.iload_n 1, 1) := by decide +kernel
theorem dX4_set_14 : decode cX4_set 14 = .ok (.iconst 3, 1) := by decide +kernel
theorem dX4_set_15 : decode cX4_set 15 = .ok (.if_icmp .le 5, 3) := by decide +kernel
theorem dX4_set_18 : decode cX4_set 18 = .ok (.iconst 0, 1) := by decide +kernel
theorem dX4_set_19 : decode cX4_set 19 = .ok (.ireturn, 1) := by decide +kernel
theorem dX4_set_20 : decode cX4_set 20 = .ok (.aload_n 0, 1) := by decide +kernel
theorem dX4_set_21 : decode cX4_set 21 = .ok (.iload_n 1, 1) := by decide +kernel
theorem dX4_set_22 : decode cX4_set 22 = .ok (.invokevirtual 106, 3) := by decide +kernel
theorem dX4_set_25 : decode cX4_set 25 = .ok (.iconst 1, 1) := by decide +kernel
theorem dX4_set_26 : decode cX4_set 26 = .ok (.ireturn, 1) := by decide +kernel
theorem dX4_place_0 : decode cX4_place 0 = .ok (.bipush 32, 2) := by decide +kernel
theorem dX4_place_2 : decode cX4_place 2 = .ok (.iconst 2, 1) := by decide +kernel
theorem dX4_place_3 : decode cX4_place 3 = .ok (.lload_n 0, 1) := by decide +kernel
theorem dX4_place_4 : decode cX4_place 4 = .ok (.ldc2_w 109, 3) := by decide +kernel
theorem dX4_place_7 : decode cX4_place 7 = .ok (.lrem, 1) := by decide +kernel
theorem dX4_place_8 : decode cX4_place 8 = .ok (.l2i, 1) := by decide +kernel
theorem dX4_place_9 : decode cX4_place 9 = .ok (.imul, 1) := by decide +kernel
theorem dX4_place_10 : decode cX4_place 10 = .ok (.iadd, 1) := by decide +kernel
theorem dX4_place_11 : decode cX4_place 11 = .ok (.ireturn, 1) := by decide +kernel
set_option maxRecDepth 20000 in
theorem ggX4_tells_X4_begin : GoodIn wsX4_tells wsX4_begin := goodIn_r _ [10, 11, 5, 3, 12, 13, 14, 15, 9, 16, 17, 46, 47, 48, 49, 50, 51, 52, 53, 54, 55, 56, 57, 58, 59, 60, 61, 62] (by decide +kernel) (by decide +kernel)
set_option maxRecDepth 20000 in
theorem gX4_tells_X4_begin : GoodIn wsX4_tells (wsV RX4 75 RX4 yX4_begin wsX4_begin) := goodIn_app (goodIn_of _ (by decide +kernel)) ggX4_tells_X4_begin
set_option maxRecDepth 20000 in
theorem ggX4_tells_X4_isIn : GoodIn wsX4_tells wsX4_isIn := goodIn_r _ [20] (by decide +kernel) (by decide +kernel)
set_option maxRecDepth 20000 in
theorem gX4_tells_X4_isIn : GoodIn wsX4_tells (va_wsS RX4 71 yX4_isIn wsX4_isIn) := goodIn_app (goodIn_of _ (by decide +kernel)) ggX4_tells_X4_isIn
set_option maxRecDepth 20000 in
theorem ggX4_tells_X4_settle : GoodIn wsX4_tells wsX4_settle := goodIn_r _ [24, 5, 25, 26, 9, 27, 28, 46, 47, 48, 49, 50, 51, 52, 53, 54, 55, 56, 57, 58, 59, 60, 61, 62] (by decide +kernel) (by decide +kernel)
set_option maxRecDepth 20000 in
theorem gX4_tells_X4_settle : GoodIn wsX4_tells (wsV RX4 113 RX4 yX4_settle wsX4_settle) := goodIn_app (goodIn_of _ (by decide +kernel)) ggX4_tells_X4_settle
set_option maxRecDepth 20000 in
theorem ggX4_tells_X4_step : GoodIn wsX4_tells wsX4_step := goodIn_r _ [32, 5, 33, 34, 35, 9, 36, 37, 46, 47, 48, 49, 50, 51, 52, 53, 54, 55, 56, 57, 58, 59, 60, 61, 62] (by decide +kernel) (by decide +kernel)
set_option maxRecDepth 20000 in
theorem gX4_tells_X4_step : GoodIn wsX4_tells (wsV RX4 95 RX4 yX4_step wsX4_step) := goodIn_app (goodIn_of _ (by decide +kernel)) ggX4_tells_X4_step
set_option maxRecDepth 20000 in
theorem ggX4_tells_X4_place : GoodIn wsX4_tells wsX4_place := goodIn_r _ [27, 28] (by decide +kernel) (by decide +kernel)
set_option maxRecDepth 20000 in
theorem gX4_tells_X4_place : GoodIn wsX4_tells (va_wsS RX4 116 yX4_place wsX4_place) := goodIn_app (goodIn_of _ (by decide +kernel)) ggX4_tells_X4_place
set_option maxRecDepth 20000 in
theorem ggX4_tells_X4_clear : GoodIn wsX4_tells wsX4_clear := goodIn_r _ [41, 5, 46, 47, 48, 49, 50, 51, 52, 53, 54, 55, 56, 57, 58, 59, 60, 61, 62] (by decide +kernel) (by decide +kernel)
set_option maxRecDepth 20000 in
theorem gX4_tells_X4_clear : GoodIn wsX4_tells (wsV RX4 106 RX4 yX4_clear wsX4_clear) := goodIn_app (goodIn_of _ (by decide +kernel)) ggX4_tells_X4_clear
set_option maxRecDepth 20000 in
theorem ggX4_tells_X4_jump : GoodIn wsX4_tells wsX4_jump := goodIn_r _ [45, 5, 33, 34, 35, 9, 36, 37, 46, 47, 48, 49, 50, 51, 52, 53, 54, 55, 56, 57, 58, 59, 60, 61, 62] (by decide +kernel) (by decide +kernel)
set_option maxRecDepth 20000 in
theorem gX4_tells_X4_jump : GoodIn wsX4_tells (wsV RX4 120 RX4 yX4_jump wsX4_jump) := goodIn_app (goodIn_of _ (by decide +kernel)) ggX4_tells_X4_jump
theorem dX4_tells_0 : decode cX4_tells 0 = .ok (.aload_n 0, 1) := by decide +kernel
theorem dX4_tells_1 : decode cX4_tells 1 = .ok (.iconst 0, 1) := by decide +kernel
theorem dX4_tells_2 : decode cX4_tells 2 = .ok (.putfield 49, 3) := by decide +kernel
theorem dX4_tells_5 : decode cX4_tells 5 = .ok (.aload_n 0, 1) := by decide +kernel
theorem dX4_tells_6 : decode cX4_tells 6 = .ok (.invokevirtual 75, 3) := by decide +kernel
theorem dX4_tells_9 : decode cX4_tells 9 = .ok (.iload_n 1, 1) := by decide +kernel
theorem dX4_tells_10 : decode cX4_tells 10 = .ok (.iconst 0, 1) := by decide +kernel
theorem dX4_tells_11 : decode cX4_tells 11 = .ok (.sipush 255, 3) := by decide +kernel
theorem dX4_tells_14 : decode cX4_tells 14 = .ok (.invokestatic 71, 3) := by decide +kernel
theorem dX4_tells_17 : decode cX4_tells 17 = .ok (.ifCond .ne 5, 3) := by decide +kernel
theorem dX4_tells_20 : decode cX4_tells 20 = .ok (.iconst (-1), 1) := by decide +kernel
theorem dX4_tells_21 : decode cX4_tells 21 = .ok (.ireturn, 1) := by decide +kernel
theorem dX4_tells_22 : decode cX4_tells 22 = .ok (.iload_n 1, 1) := by decide +kernel
theorem dX4_tells_23 : decode cX4_tells 23 = .ok (.aload_n 0, 1) := by decide +kernel
theorem dX4_tells_24 : decode cX4_tells 24 = .ok (.getfield 28, 3) := by decide +kernel
theorem dX4_tells_27 : decode cX4_tells 27 = .ok (.if_icmp .le 23, 3) := by decide +kernel
theorem dX4_tells_30 : decode cX4_tells 30 = .ok (.aload_n 0, 1) := by decide +kernel
theorem dX4_tells_31 : decode cX4_tells 31 = .ok (.getfield 21, 3) := by decide +kernel
theorem dX4_tells_34 : decode cX4_tells 34 = .ok (.i2l, 1) := by decide +kernel
theorem dX4_tells_35 : decode cX4_tells 35 = .ok (.iload_n 1, 1) := by decide +kernel
theorem dX4_tells_36 : decode cX4_tells 36 = .ok (.aload_n 0, 1) := by decide +kernel
theorem dX4_tells_37 : decode cX4_tells 37 = .ok (.getfield 28, 3) := by decide +kernel
theorem dX4_tells_40 : decode cX4_tells 40 = .ok (.isub, 1) := by decide +kernel
theorem dX4_tells_41 : decode cX4_tells 41 = .ok (.i2l, 1) := by decide +kernel
theorem dX4_tells_42 : decode cX4_tells 42 = .ok (.lmul, 1) := by decide +kernel
theorem dX4_tells_43 : decode cX4_tells 43 = .ok (.ldc2_w 111, 3) := by decide +kernel
theorem dX4_tells_46 : decode cX4_tells 46 = .ok (.ldiv, 1) := by decide +kernel
theorem dX4_tells_47 : decode cX4_tells 47 = .ok (.goto 4, 3) := by decide +kernel
theorem dX4_tells_50 : decode cX4_tells 50 = .ok (.lconst 0, 1) := by decide +kernel
theorem dX4_tells_51 : decode cX4_tells 51 = .ok (.lstore_n 2, 1) := by decide +kernel
theorem dX4_tells_52 : decode cX4_tells 52 = .ok (.aload_n 0, 1) := by decide +kernel
theorem dX4_tells_53 : decode cX4_tells 53 = .ok (.getfield 21, 3) := by decide +kernel
theorem dX4_tells_56 : decode cX4_tells 56 = .ok (.i2l, 1) := by decide +kernel
theorem dX4_tells_57 : decode cX4_tells 57 = .ok (.iload_n 1, 1) := by decide +kernel
theorem dX4_tells_58 : decode cX4_tells 58 = .ok (.iconst 1, 1) := by decide +kernel
theorem dX4_tells_59 : decode cX4_tells 59 = .ok (.iadd, 1) := by decide +kernel
theorem dX4_tells_60 : decode cX4_tells 60 = .ok (.aload_n 0, 1) := by decide +kernel
theorem dX4_tells_61 : decode cX4_tells 61 = .ok (.getfield 28, 3) := by decide +kernel
theorem dX4_tells_64 : decode cX4_tells 64 = .ok (.iadd, 1) := by decide +kernel
theorem dX4_tells_65 : decode cX4_tells 65 = .ok (.i2l, 1) := by decide +kernel
theorem dX4_tells_66 : decode cX4_tells 66 = .ok (.lmul, 1) := by decide +kernel
theorem dX4_tells_67 : decode cX4_tells 67 = .ok (.ldc2_w 111, 3) := by decide +kernel
theorem dX4_tells_70 : decode cX4_tells 70 = .ok (.ldiv, 1) := by decide +kernel
theorem dX4_tells_71 : decode cX4_tells 71 = .ok (.lstore 4, 2) := by decide +kernel
theorem dX4_tells_73 : decode cX4_tells 73 = .ok (.lload 4, 2) := by decide +kernel
theorem dX4_tells_75 : decode cX4_tells 75 = .ok (.aload_n 0, 1) := by decide +kernel
theorem dX4_tells_76 : decode cX4_tells 76 = .ok (.getfield 21, 3) := by decide +kernel
theorem dX4_tells_79 : decode cX4_tells 79 = .ok (.i2l, 1) := by decide +kernel
theorem dX4_tells_80 : decode cX4_tells 80 = .ok (.lcmp, 1) := by decide +kernel
theorem dX4_tells_81 : decode cX4_tells 81 = .ok (.ifCond .le 10, 3) := by decide +kernel
theorem dX4_tells_84 : decode cX4_tells 84 = .ok (.aload_n 0, 1) := by decide +kernel
theorem dX4_tells_85 : decode cX4_tells 85 = .ok (.getfield 21, 3) := by decide +kernel
theorem dX4_tells_88 : decode cX4_tells 88 = .ok (.i2l, 1) := by decide +kernel
theorem dX4_tells_89 : decode cX4_tells 89 = .ok (.lstore 4, 2) := by decide +kernel
theorem dX4_tells_91 : decode cX4_tells 91 = .ok (.lload_n 2, 1) := by decide +kernel
theorem dX4_tells_92 : decode cX4_tells 92 = .ok (.aload_n 0, 1) := by decide +kernel
theorem dX4_tells_93 : decode cX4_tells 93 = .ok (.getfield 13, 3) := by decide +kernel
theorem dX4_tells_96 : decode cX4_tells 96 = .ok (.iconst 1, 1) := by decide +kernel
theorem dX4_tells_97 : decode cX4_tells 97 = .ok (.laload, 1) := by decide +kernel
theorem dX4_tells_98 : decode cX4_tells 98 = .ok (.lcmp, 1) := by decide +kernel
theorem dX4_tells_99 : decode cX4_tells 99 = .ok (.ifCond .gt 75, 3) := by decide +kernel
theorem dX4_tells_102 : decode cX4_tells 102 = .ok (.lload 4, 2) := by decide +kernel
theorem dX4_tells_104 : decode cX4_tells 104 = .ok (.aload_n 0, 1) := by decide +kernel
theorem dX4_tells_105 : decode cX4_tells 105 = .ok (.getfield 13, 3) := by decide +kernel
theorem dX4_tells_108 : decode cX4_tells 108 = .ok (.iconst 0, 1) := by decide +kernel
theorem dX4_tells_109 : decode cX4_tells 109 = .ok (.laload, 1) := by decide +kernel
theorem dX4_tells_110 : decode cX4_tells 110 = .ok (.lcmp, 1) := by decide +kernel
theorem dX4_tells_111 : decode cX4_tells 111 = .ok (.ifCond .lt 63, 3) := by decide +kernel
theorem dX4_tells_114 : decode cX4_tells 114 = .ok (.lload_n 2, 1) := by decide +kernel
theorem dX4_tells_115 : decode cX4_tells 115 = .ok (.aload_n 0, 1) := by decide +kernel
theorem dX4_tells_116 : decode cX4_tells 116 = .ok (.getfield 13, 3) := by decide +kernel
theorem dX4_tells_119 : decode cX4_tells 119 = .ok (.iconst 0, 1) := by decide +kernel
theorem dX4_tells_120 : decode cX4_tells 120 = .ok (.laload, 1) := by decide +kernel
theorem dX4_tells_121 : decode cX4_tells 121 = .ok (.lcmp, 1) := by decide +kernel
theorem dX4_tells_122 : decode cX4_tells 122 = .ok (.ifCond .le 10, 3) := by decide +kernel
theorem dX4_tells_125 : decode cX4_tells 125 = .ok (.aload_n 0, 1) := by decide +kernel
theorem dX4_tells_126 : decode cX4_tells 126 = .ok (.getfield 13, 3) := by decide +kernel
theorem dX4_tells_129 : decode cX4_tells 129 = .ok (.iconst 0, 1) := by decide +kernel
theorem dX4_tells_130 : decode cX4_tells 130 = .ok (.lload_n 2, 1) := by decide +kernel
theorem dX4_tells_131 : decode cX4_tells 131 = .ok (.lastore, 1) := by decide +kernel
theorem dX4_tells_132 : decode cX4_tells 132 = .ok (.lload 4, 2) := by decide +kernel
theorem dX4_tells_134 : decode cX4_tells 134 = .ok (.aload_n 0, 1) := by decide +kernel
theorem dX4_tells_135 : decode cX4_tells 135 = .ok (.getfield 13, 3) := by decide +kernel
theorem dX4_tells_138 : decode cX4_tells 138 = .ok (.iconst 1, 1) := by decide +kernel
theorem dX4_tells_139 : decode cX4_tells 139 = .ok (.laload, 1) := by decide +kernel
theorem dX4_tells_140 : decode cX4_tells 140 = .ok (.lcmp, 1) := by decide +kernel
theorem dX4_tells_141 : decode cX4_tells 141 = .ok (.ifCond .ge 11, 3) := by decide +kernel
theorem dX4_tells_144 : decode cX4_tells 144 = .ok (.aload_n 0, 1) := by decide +kernel
theorem dX4_tells_145 : decode cX4_tells 145 = .ok (.getfield 13, 3) := by decide +kernel
theorem dX4_tells_148 : decode cX4_tells 148 = .ok (.iconst 1, 1) := by decide +kernel
theorem dX4_tells_149 : decode cX4_tells 149 = .ok (.lload 4, 2) := by decide +kernel
theorem dX4_tells_151 : decode cX4_tells 151 = .ok (.lastore, 1) := by decide +kernel
theorem dX4_tells_152 : decode cX4_tells 152 = .ok (.aload_n 0, 1) := by decide +kernel
theorem dX4_tells_153 : decode cX4_tells 153 = .ok (.getfield 13, 3) := by decide +kernel
theorem dX4_tells_156 : decode cX4_tells 156 = .ok (.bipush 27, 2) := by decide +kernel
theorem dX4_tells_158 : decode cX4_tells 158 = .ok (.laload, 1) := by decide +kernel
theorem dX4_tells_159 : decode cX4_tells 159 = .ok (.lconst 1, 1) := by decide +kernel
theorem dX4_tells_160 : decode cX4_tells 160 = .ok (.lcmp, 1) := by decide +kernel
theorem dX4_tells_161 : decode cX4_tells 161 = .ok (.ifCond .ne 7, 3) := by decide +kernel
theorem dX4_tells_164 : decode cX4_tells 164 = .ok (.aload_n 0, 1) := by decide +kernel
theorem dX4_tells_165 : decode cX4_tells 165 = .ok (.invokevirtual 113, 3) := by decide +kernel
theorem dX4_tells_168 : decode cX4_tells 168 = .ok (.aload_n 0, 1) := by decide +kernel
theorem dX4_tells_169 : decode cX4_tells 169 = .ok (.invokevirtual 95, 3) := by decide +kernel
theorem dX4_tells_172 : decode cX4_tells 172 = .ok (.iconst 0, 1) := by decide +kernel
theorem dX4_tells_173 : decode cX4_tells 173 = .ok (.ireturn, 1) := by decide +kernel
theorem dX4_tells_174 : decode cX4_tells 174 = .ok (.lload_n 2, 1) := by decide +kernel
theorem dX4_tells_175 : decode cX4_tells 175 = .ok (.aload_n 0, 1) := by decide +kernel
theorem dX4_tells_176 : decode cX4_tells 176 = .ok (.getfield 13, 3) := by decide +kernel
theorem dX4_tells_179 : decode cX4_tells 179 = .ok (.iconst 1, 1) := by decide +kernel
theorem dX4_tells_180 : decode cX4_tells 180 = .ok (.laload, 1) := by decide +kernel
theorem dX4_tells_181 : decode cX4_tells 181 = .ok (.lcmp, 1) := by decide +kernel
theorem dX4_tells_182 : decode cX4_tells 182 = .ok (.ifCond .le 7, 3) := by decide +kernel
theorem dX4_tells_185 : decode cX4_tells 185 = .ok (.iconst 1, 1) := by decide +kernel
theorem dX4_tells_186 : decode cX4_tells 186 = .ok (.goto 4, 3) := by decide +kernel
theorem dX4_tells_189 : decode cX4_tells 189 = .ok (.iconst 0, 1) := by decide +kernel
theorem dX4_tells_190 : decode cX4_tells 190 = .ok (.istore 6, 2) := by decide +kernel
theorem dX4_tells_192 : decode cX4_tells 192 = .ok (.iload 6, 2) := by decide +kernel
theorem dX4_tells_194 : decode cX4_tells 194 = .ok (.ifCond .eq 109, 3) := by decide +kernel
theorem dX4_tells_197 : decode cX4_tells 197 = .ok (.aload_n 0, 1) := by decide +kernel
theorem dX4_tells_198 : decode cX4_tells 198 = .ok (.getfield 13, 3) := by decide +kernel
theorem dX4_tells_201 : decode cX4_tells 201 = .ok (.bipush 22, 2) := by decide +kernel
theorem dX4_tells_203 : decode cX4_tells 203 = .ok (.laload, 1) := by decide +kernel
theorem dX4_tells_204 : decode cX4_tells 204 = .ok (.invokestatic 116, 3) := by decide +kernel
theorem dX4_tells_207 : decode cX4_tells 207 = .ok (.istore 7, 2) := by decide +kernel
theorem dX4_tells_209 : decode cX4_tells 209 = .ok (.aload_n 0, 1) := by decide +kernel
theorem dX4_tells_210 : decode cX4_tells 210 = .ok (.getfield 13, 3) := by decide +kernel
theorem dX4_tells_213 : decode cX4_tells 213 = .ok (.iload 7, 2) := by decide +kernel
theorem dX4_tells_215 : decode cX4_tells 215 = .ok (.lload_n 2, 1) := by decide +kernel
theorem dX4_tells_216 : decode cX4_tells 216 = .ok (.aload_n 0, 1) := by decide +kernel
theorem dX4_tells_217 : decode cX4_tells 217 = .ok (.getfield 13, 3) := by decide +kernel
theorem dX4_tells_220 : decode cX4_tells 220 = .ok (.iconst 1, 1) := by decide +kernel
theorem dX4_tells_221 : decode cX4_tells 221 = .ok (.laload, 1) := by decide +kernel
theorem dX4_tells_222 : decode cX4_tells 222 = .ok (.lsub, 1) := by decide +kernel
theorem dX4_tells_223 : decode cX4_tells 223 = .ok (.lastore, 1) := by decide +kernel
theorem dX4_tells_224 : decode cX4_tells 224 = .ok (.aload_n 0, 1) := by decide +kernel
theorem dX4_tells_225 : decode cX4_tells 225 = .ok (.getfield 13, 3) := by decide +kernel
theorem dX4_tells_228 : decode cX4_tells 228 = .ok (.iload 7, 2) := by decide +kernel
theorem dX4_tells_230 : decode cX4_tells 230 = .ok (.iconst 1, 1) := by decide +kernel
theorem dX4_tells_231 : decode cX4_tells 231 = .ok (.iadd, 1) := by decide +kernel
theorem dX4_tells_232 : decode cX4_tells 232 = .ok (.lload 4, 2) := by decide +kernel
theorem dX4_tells_234 : decode cX4_tells 234 = .ok (.aload_n 0, 1) := by decide +kernel
theorem dX4_tells_235 : decode cX4_tells 235 = .ok (.getfield 13, 3) := by decide +kernel
theorem dX4_tells_238 : decode cX4_tells 238 = .ok (.iconst 0, 1) := by decide +kernel
theorem dX4_tells_239 : decode cX4_tells 239 = .ok (.laload, 1) := by decide +kernel
theorem dX4_tells_240 : decode cX4_tells 240 = .ok (.lsub, 1) := by decide +kernel
theorem dX4_tells_241 : decode cX4_tells 241 = .ok (.lastore, 1) := by decide +kernel
theorem dX4_tells_242 : decode cX4_tells 242 = .ok (.aload_n 0, 1) := by decide +kernel
theorem dX4_tells_243 : decode cX4_tells 243 = .ok (.getfield 13, 3) := by decide +kernel
theorem dX4_tells_246 : decode cX4_tells 246 = .ok (.bipush 22, 2) := by decide +kernel
theorem dX4_tells_248 : decode cX4_tells 248 = .ok (.dup2, 1) := by decide +kernel
theorem dX4_tells_249 : decode cX4_tells 249 = .ok (.laload, 1) := by decide +kernel
theorem dX4_tells_250 : decode cX4_tells 250 = .ok (.lconst 1, 1) := by decide +kernel
theorem dX4_tells_251 : decode cX4_tells 251 = .ok (.ladd, 1) := by decide +kernel
theorem dX4_tells_252 : decode cX4_tells 252 = .ok (.lastore, 1) := by decide +kernel
theorem dX4_tells_253 : decode cX4_tells 253 = .ok (.aload_n 0, 1) := by decide +kernel
theorem dX4_tells_254 : decode cX4_tells 254 = .ok (.getfield 13, 3) := by decide +kernel
theorem dX4_tells_257 : decode cX4_tells 257 = .ok (.bipush 30, 2) := by decide +kernel
theorem dX4_tells_259 : decode cX4_tells 259 = .ok (.aload_n 0, 1) := by decide +kernel
theorem dX4_tells_260 : decode cX4_tells 260 = .ok (.getfield 13, 3) := by decide +kernel
theorem dX4_tells_263 : decode cX4_tells 263 = .ok (.iconst 0, 1) := by decide +kernel
theorem dX4_tells_264 : decode cX4_tells 264 = .ok (.laload, 1) := by decide +kernel
theorem dX4_tells_265 : decode cX4_tells 265 = .ok (.lastore, 1) := by decide +kernel
theorem dX4_tells_266 : decode cX4_tells 266 = .ok (.aload_n 0, 1) := by decide +kernel
theorem dX4_tells_267 : decode cX4_tells 267 = .ok (.getfield 13, 3) := by decide +kernel
theorem dX4_tells_270 : decode cX4_tells 270 = .ok (.bipush 31, 2) := by decide +kernel
theorem dX4_tells_272 : decode cX4_tells 272 = .ok (.aload_n 0, 1) := by decide +kernel
theorem dX4_tells_273 : decode cX4_tells 273 = .ok (.getfield 13, 3) := by decide +kernel
theorem dX4_tells_276 : decode cX4_tells 276 = .ok (.iconst 1, 1) := by decide +kernel
theorem dX4_tells_277 : decode cX4_tells 277 = .ok (.laload, 1) := by decide +kernel
theorem dX4_tells_278 : decode cX4_tells 278 = .ok (.lastore, 1) := by decide +kernel
theorem dX4_tells_279 : decode cX4_tells 279 = .ok (.aload_n 0, 1) := by decide +kernel
theorem dX4_tells_280 : decode cX4_tells 280 = .ok (.getfield 13, 3) := by decide +kernel
theorem dX4_tells_283 : decode cX4_tells 283 = .ok (.bipush 28, 2) := by decide +kernel
theorem dX4_tells_285 : decode cX4_tells 285 = .ok (.lconst 0, 1) := by decide +kernel
theorem dX4_tells_286 : decode cX4_tells 286 = .ok (.lastore, 1) := by decide +kernel
theorem dX4_tells_287 : decode cX4_tells 287 = .ok (.aload_n 0, 1) := by decide +kernel
theorem dX4_tells_288 : decode cX4_tells 288 = .ok (.getfield 13, 3) := by decide +kernel
theorem dX4_tells_291 : decode cX4_tells 291 = .ok (.bipush 29, 2) := by decide +kernel
theorem dX4_tells_293 : decode cX4_tells 293 = .ok (.lconst 0, 1) := by decide +kernel
theorem dX4_tells_294 : decode cX4_tells 294 = .ok (.lastore, 1) := by decide +kernel
theorem dX4_tells_295 : decode cX4_tells 295 = .ok (.aload_n 0, 1) := by decide +kernel
theorem dX4_tells_296 : decode cX4_tells 296 = .ok (.iconst 3, 1) := by decide +kernel
theorem dX4_tells_297 : decode cX4_tells 297 = .ok (.invokevirtual 106, 3) := by decide +kernel
theorem dX4_tells_300 : decode cX4_tells 300 = .ok (.goto 14, 3) := by decide +kernel
theorem dX4_tells_303 : decode cX4_tells 303 = .ok (.aload_n 0, 1) := by decide +kernel
theorem dX4_tells_304 : decode cX4_tells 304 = .ok (.getfield 13, 3) := by decide +kernel
theorem dX4_tells_307 : decode cX4_tells 307 = .ok (.bipush 23, 2) := by decide +kernel
theorem dX4_tells_309 : decode cX4_tells 309 = .ok (.dup2, 1) := by decide +kernel
theorem dX4_tells_310 : decode cX4_tells 310 = .ok (.laload, 1) := by decide +kernel
theorem dX4_tells_311 : decode cX4_tells 311 = .ok (.lconst 1, 1) := by decide +kernel
theorem dX4_tells_312 : decode cX4_tells 312 = .ok (.ladd, 1) := by decide +kernel
theorem dX4_tells_313 : decode cX4_tells 313 = .ok (.lastore, 1) := by decide +kernel
theorem dX4_tells_314 : decode cX4_tells 314 = .ok (.aload_n 0, 1) := by decide +kernel
theorem dX4_tells_315 : decode cX4_tells 315 = .ok (.getfield 13, 3) := by decide +kernel
theorem dX4_tells_318 : decode cX4_tells 318 = .ok (.bipush 27, 2) := by decide +kernel
theorem dX4_tells_320 : decode cX4_tells 320 = .ok (.iload 6, 2) := by decide +kernel
theorem dX4_tells_322 : decode cX4_tells 322 = .ok (.ifCond .eq 7, 3) := by decide +kernel
theorem dX4_tells_325 : decode cX4_tells 325 = .ok (.lconst 1, 1) := by decide +kernel
theorem dX4_tells_326 : decode cX4_tells 326 = .ok (.goto 4, 3) := by decide +kernel
theorem dX4_tells_329 : decode cX4_tells 329 = .ok (.lconst 0, 1) := by decide +kernel
theorem dX4_tells_330 : decode cX4_tells 330 = .ok (.lastore, 1) := by decide +kernel
theorem dX4_tells_331 : decode cX4_tells 331 = .ok (.aload_n 0, 1) := by decide +kernel
theorem dX4_tells_332 : decode cX4_tells 332 = .ok (.getfield 13, 3) := by decide +kernel
theorem dX4_tells_335 : decode cX4_tells 335 = .ok (.iconst 0, 1) := by decide +kernel
theorem dX4_tells_336 : decode cX4_tells 336 = .ok (.lload_n 2, 1) := by decide +kernel
theorem dX4_tells_337 : decode cX4_tells 337 = .ok (.lastore, 1) := by decide +kernel
theorem dX4_tells_338 : decode cX4_tells 338 = .ok (.aload_n 0, 1) := by decide +kernel
theorem dX4_tells_339 : decode cX4_tells 339 = .ok (.getfield 13, 3) := by decide +kernel
theorem dX4_tells_342 : decode cX4_tells 342 = .ok (.iconst 1, 1) := by decide +kernel
theorem dX4_tells_343 : decode cX4_tells 343 = .ok (.lload 4, 2) := by decide +kernel
theorem dX4_tells_345 : decode cX4_tells 345 = .ok (.lastore, 1) := by decide +kernel
theorem dX4_tells_346 : decode cX4_tells 346 = .ok (.aload_n 0, 1) := by decide +kernel
theorem dX4_tells_347 : decode cX4_tells 347 = .ok (.invokevirtual 120, 3) := by decide +kernel
theorem dX4_tells_350 : decode cX4_tells 350 = .ok (.iload 6, 2) := by decide +kernel
theorem dX4_tells_352 : decode cX4_tells 352 = .ok (.ifCond .eq 7, 3) := by decide +kernel
theorem dX4_tells_355 : decode cX4_tells 355 = .ok (.iconst 1, 1) := by decide +kernel
theorem dX4_tells_356 : decode cX4_tells 356 = .ok (.goto 4, 3) := by decide +kernel
theorem dX4_tells_359 : decode cX4_tells 359 = .ok (.iconst 2, 1) := by decide +kernel
theorem dX4_tells_360 : decode cX4_tells 360 = .ok (.ireturn, 1) := by decide +kernel
set_option maxRecDepth 20000 in
theorem ggX4_settle_X4_place : GoodIn wsX4_settle wsX4_place := goodIn_r _ [5, 6] (by decide +kernel) (by decide +kernel)
set_option maxRecDepth 20000 in
theorem gX4_settle_X4_place : GoodIn wsX4_settle (va_wsS RX4 116 yX4_place wsX4_place) := goodIn_app (goodIn_of _ (by decide +kernel)) ggX4_settle_X4_place
theorem dX4_settle_0 : decode cX4_settle 0 = .ok (.aload_n 0, 1) := by decide +kernel
theorem dX4_settle_1 : decode cX4_settle 1 = .ok (.getfield 13, 3) := by decide +kernel
theorem dX4_settle_4 : decode cX4_settle 4 = .ok (.bipush 22, 2) := by decide +kernel
theorem dX4_settle_6 : decode cX4_settle 6 = .ok (.laload, 1) := by decide +kernel
theorem dX4_settle_7 : decode cX4_settle 7 = .ok (.lconst 1, 1) := by decide +kernel
theorem dX4_settle_8 : decode cX4_settle 8 = .ok (.lsub, 1) := by decide +kernel
theorem dX4_settle_9 : decode cX4_settle 9 = .ok (.invokestatic 116, 3) := by decide +kernel
theorem dX4_settle_12 : decode cX4_settle 12 = .ok (.istore_n 1, 1) := by decide +kernel
theorem dX4_settle_13 : decode cX4_settle 13 = .ok (.aload_n 0, 1) := by decide +kernel
theorem dX4_settle_14 : decode cX4_settle 14 = .ok (.getfield 13, 3) := by decide +kernel
theorem dX4_settle_17 : decode cX4_settle 17 = .ok (.iconst 0, 1) := by decide +kernel
theorem dX4_settle_18 : decode cX4_settle 18 = .ok (.laload, 1) := by decide +kernel
theorem dX4_settle_19 : decode cX4_settle 19 = .ok (.aload_n 0, 1) := by decide +kernel
theorem dX4_settle_20 : decode cX4_settle 20 = .ok (.getfield 13, 3) := by decide +kernel
theorem dX4_settle_23 : decode cX4_settle 23 = .ok (.bipush 28, 2) := by decide +kernel
theorem dX4_settle_25 : decode cX4_settle 25 = .ok (.laload, 1) := by decide +kernel
theorem dX4_settle_26 : decode cX4_settle 26 = .ok (.ladd, 1) := by decide +kernel
theorem dX4_settle_27 : decode cX4_settle 27 = .ok (.aload_n 0, 1) := by decide +kernel
theorem dX4_settle_28 : decode cX4_settle 28 = .ok (.getfield 13, 3) := by decide +kernel
theorem dX4_settle_31 : decode cX4_settle 31 = .ok (.bipush 31, 2) := by decide +kernel
theorem dX4_settle_33 : decode cX4_settle 33 = .ok (.laload, 1) := by decide +kernel
theorem dX4_settle_34 : decode cX4_settle 34 = .ok (.lsub, 1) := by decide +kernel
theorem dX4_settle_35 : decode cX4_settle 35 = .ok (.lstore_n 2, 1) := by decide +kernel
theorem dX4_settle_36 : decode cX4_settle 36 = .ok (.aload_n 0, 1) := by decide +kernel
theorem dX4_settle_37 : decode cX4_settle 37 = .ok (.getfield 13, 3) := by decide +kernel
theorem dX4_settle_40 : decode cX4_settle 40 = .ok (.iconst 1, 1) := by decide +kernel
theorem dX4_settle_41 : decode cX4_settle 41 = .ok (.laload, 1) := by decide +kernel
theorem dX4_settle_42 : decode cX4_settle 42 = .ok (.aload_n 0, 1) := by decide +kernel
theorem dX4_settle_43 : decode cX4_settle 43 = .ok (.getfield 13, 3) := by decide +kernel
theorem dX4_settle_46 : decode cX4_settle 46 = .ok (.bipush 29, 2) := by decide +kernel
theorem dX4_settle_48 : decode cX4_settle 48 = .ok (.laload, 1) := by decide +kernel
theorem dX4_settle_49 : decode cX4_settle 49 = .ok (.ladd, 1) := by decide +kernel
theorem dX4_settle_50 : decode cX4_settle 50 = .ok (.aload_n 0, 1) := by decide +kernel
theorem dX4_settle_51 : decode cX4_settle 51 = .ok (.getfield 13, 3) := by decide +kernel
theorem dX4_settle_54 : decode cX4_settle 54 = .ok (.bipush 30, 2) := by decide +kernel
theorem dX4_settle_56 : decode cX4_settle 56 = .ok (.laload, 1) := by decide +kernel
theorem dX4_settle_57 : decode cX4_settle 57 = .ok (.lsub, 1) := by decide +kernel
theorem dX4_settle_58 : decode cX4_settle 58 = .ok (.lstore 4, 2) := by decide +kernel
theorem dX4_settle_60 : decode cX4_settle 60 = .ok (.lload_n 2, 1) := by decide +kernel
theorem dX4_settle_61 : decode cX4_settle 61 = .ok (.aload_n 0, 1) := by decide +kernel
theorem dX4_settle_62 : decode cX4_settle 62 = .ok (.getfield 13, 3) := by decide +kernel
theorem dX4_settle_65 : decode cX4_settle 65 = .ok (.iload_n 1, 1) := by decide +kernel
theorem dX4_settle_66 : decode cX4_settle 66 = .ok (.laload, 1) := by decide +kernel
theorem dX4_settle_67 : decode cX4_settle 67 = .ok (.lcmp, 1) := by decide +kernel
theorem dX4_settle_68 : decode cX4_settle 68 = .ok (.ifCond .le 10, 3) := by decide +kernel
theorem dX4_settle_71 : decode cX4_settle 71 = .ok (.aload_n 0, 1) := by decide +kernel
theorem dX4_settle_72 : decode cX4_settle 72 = .ok (.getfield 13, 3) := by decide +kernel
theorem dX4_settle_75 : decode cX4_settle 75 = .ok (.iload_n 1, 1) := by decide +kernel
theorem dX4_settle_76 : decode cX4_settle 76 = .ok (.lload_n 2, 1) := by decide +kernel
theorem dX4_settle_77 : decode cX4_settle 77 = .ok (.lastore, 1) := by decide +kernel
theorem dX4_settle_78 : decode cX4_settle 78 = .ok (.lload 4, 2) := by decide +kernel
theorem dX4_settle_80 : decode cX4_settle 80 = .ok (.aload_n 0, 1) := by decide +kernel
theorem dX4_settle_81 : decode cX4_settle 81 = .ok (.getfield 13, 3) := by decide +kernel
theorem dX4_settle_84 : decode cX4_settle 84 = .ok (.iload_n 1, 1) := by decide +kernel
theorem dX4_settle_85 : decode cX4_settle 85 = .ok (.iconst 1, 1) := by decide +kernel
theorem dX4_settle_86 : decode cX4_settle 86 = .ok (.iadd, 1) := by decide +kernel
theorem dX4_settle_87 : decode cX4_settle 87 = .ok (.laload, 1) := by decide +kernel
theorem dX4_settle_88 : decode cX4_settle 88 = .ok (.lcmp, 1) := by decide +kernel
theorem dX4_settle_89 : decode cX4_settle 89 = .ok (.ifCond .ge 13, 3) := by decide +kernel
theorem dX4_settle_92 : decode cX4_settle 92 = .ok (.aload_n 0, 1) := by decide +kernel
theorem dX4_settle_93 : decode cX4_settle 93 = .ok (.getfield 13, 3) := by decide +kernel
theorem dX4_settle_96 : decode cX4_settle 96 = .ok (.iload_n 1, 1) := by decide +kernel
theorem dX4_settle_97 : decode cX4_settle 97 = .ok (.iconst 1, 1) := by decide +kernel
theorem dX4_settle_98 : decode cX4_settle 98 = .ok (.iadd, 1) := by decide +kernel
theorem dX4_settle_99 : decode cX4_settle 99 = .ok (.lload 4, 2) := by decide +kernel
theorem dX4_settle_101 : decode cX4_settle 101 = .ok (.lastore, 1) := by decide +kernel
theorem dX4_settle_102 : decode cX4_settle 102 = .ok (.return_, 1) := by decide +kernel
set_option maxRecDepth 20000 in
theorem ggX4_span_X4_begin : GoodIn wsX4_span wsX4_begin := goodIn_r _ [7, 8, 2, 9, 10, 11, 12, 13, 6, 14, 15, 16, 17, 18, 19, 20, 21, 22, 23, 24, 25, 26, 27, 28, 29, 30, 31, 32] (by decide +kernel) (by decide +kernel)
set_option maxRecDepth 20000 in
theorem gX4_span_X4_begin : GoodIn wsX4_span (wsV RX4 75 RX4 yX4_begin wsX4_begin) := goodIn_app (goodIn_of _ (by decide +kernel)) ggX4_span_X4_begin
theorem dX4_span_0 : decode cX4_span 0 = .ok (.aload_n 0, 1) := by decide +kernel
theorem dX4_span_1 : decode cX4_span 1 = .ok (.iconst 0, 1) := by decide +kernel
theorem dX4_span_2 : decode cX4_span 2 = .ok (.putfield 49, 3) := by decide +kernel
theorem dX4_span_5 : decode cX4_span 5 = .ok (.aload_n 0, 1) := by decide +kernel
theorem dX4_span_6 : decode cX4_span 6 = .ok (.invokevirtual 75, 3) := by decide +kernel
theorem dX4_span_9 : decode cX4_span 9 = .ok (.aload_n 0, 1) := by decide +kernel
theorem dX4_span_10 : decode cX4_span 10 = .ok (.getfield 13, 3) := by decide +kernel
theorem dX4_span_13 : decode cX4_span 13 = .ok (.iload_n 1, 1) := by decide +kernel
theorem dX4_span_14 : decode cX4_span 14 = .ok (.ifCond .eq 7, 3) := by decide +kernel
theorem dX4_span_17 : decode cX4_span 17 = .ok (.iconst 1, 1) := by decide +kernel
theorem dX4_span_18 : decode cX4_span 18 = .ok (.goto 4, 3) := by decide +kernel
theorem dX4_span_21 : decode cX4_span 21 = .ok (.iconst 0, 1) := by decide +kernel
theorem dX4_span_22 : decode cX4_span 22 = .ok (.laload, 1) := by decide +kernel
theorem dX4_span_23 : decode cX4_span 23 = .ok (.l2i, 1) := by decide +kernel
theorem dX4_span_24 : decode cX4_span 24 = .ok (.ireturn, 1) := by decide +kernel
theorem dX4_isMark_0 : decode cX4_isMark 0 = .ok (.iload_n 0, 1) := by decide +kernel
theorem dX4_isMark_1 : decode cX4_isMark 1 = .ok (.ifCond .lt 12, 3) := by decide +kernel
theorem dX4_isMark_4 : decode cX4_isMark 4 = .ok (.iload_n 0, 1) := by decide +kernel
theorem dX4_isMark_5 : decode cX4_isMark 5 = .ok (.iconst 4, 1) := by decide +kernel
theorem dX4_isMark_6 : decode cX4_isMark 6 = .ok (.if_icmp .ge 7, 3) := by decide +kernel
theorem dX4_isMark_9 : decode cX4_isMark 9 = .ok (.iconst 1, 1) := by decide +kernel
theorem dX4_isMark_10 : decode cX4_isMark 10 = .ok (.goto 4, 3) := by decide +kernel
theorem dX4_isMark_13 : decode cX4_isMark 13 = .ok (.iconst 0, 1) := by decide +kernel
theorem dX4_isMark_14 : decode cX4_isMark 14 = .ok (.ireturn, 1) := by decide +kernel
set_option maxRecDepth 20000 in
theorem ggX4_mark_X4_begin : GoodIn wsX4_mark wsX4_begin := goodIn_r _ [7, 8, 2, 9, 10, 11, 12, 13, 6, 14, 15, 23, 24, 25, 26, 27, 28, 29, 30, 31, 32, 33, 34, 35, 36, 37, 38, 39] (by decide +kernel) (by decide +kernel)
set_option maxRecDepth 20000 in
theorem gX4_mark_X4_begin : GoodIn wsX4_mark (wsV RX4 75 RX4 yX4_begin wsX4_begin) := goodIn_app (goodIn_of _ (by decide +kernel)) ggX4_mark_X4_begin
set_option maxRecDepth 20000 in
theorem ggX4_mark_X4_isMark : GoodIn wsX4_mark wsX4_isMark := goodIn_r _ [18] (by decide +kernel) (by decide +kernel)
set_option maxRecDepth 20000 in
theorem gX4_mark_X4_isMark : GoodIn wsX4_mark (va_wsS RX4 123 yX4_isMark wsX4_isMark) := goodIn_app (goodIn_of _ (by decide +kernel)) ggX4_mark_X4_isMark
set_option maxRecDepth 20000 in
theorem ggX4_mark_X4_refuse : GoodIn wsX4_mark wsX4_refuse := goodIn_r _ [22, 1, 23, 24, 25, 26, 27, 28, 29, 30, 31, 32, 33, 34, 35, 36, 37, 38, 39] (by decide +kernel) (by decide +kernel)
set_option maxRecDepth 20000 in
theorem gX4_mark_X4_refuse : GoodIn wsX4_mark (wsV RX4 126 RX4 yX4_refuse wsX4_refuse) := goodIn_app (goodIn_of _ (by decide +kernel)) ggX4_mark_X4_refuse
theorem dX4_mark_0 : decode cX4_mark 0 = .ok (.aload_n 0, 1) := by decide +kernel
theorem dX4_mark_1 : decode cX4_mark 1 = .ok (.invokevirtual 75, 3) := by decide +kernel
theorem dX4_mark_4 : decode cX4_mark 4 = .ok (.iload_n 1, 1) := by decide +kernel
theorem dX4_mark_5 : decode cX4_mark 5 = .ok (.invokestatic 123, 3) := by decide +kernel
theorem dX4_mark_8 : decode cX4_mark 8 = .ok (.ifCond .eq 12, 3) := by decide +kernel
theorem dX4_mark_11 : decode cX4_mark 11 = .ok (.iload_n 2, 1) := by decide +kernel
theorem dX4_mark_12 : decode cX4_mark 12 = .ok (.ifCond .lt 8, 3) := by decide +kernel
theorem dX4_mark_15 : decode cX4_mark 15 = .ok (.iload_n 2, 1) := by decide +kernel
theorem dX4_mark_16 : decode cX4_mark 16 = .ok (.iconst 4, 1) := by decide +kernel
theorem dX4_mark_17 : decode cX4_mark 17 = .ok (.if_icmp .le 9, 3) := by decide +kernel
theorem dX4_mark_20 : decode cX4_mark 20 = .ok (.aload_n 0, 1) := by decide +kernel
theorem dX4_mark_21 : decode cX4_mark 21 = .ok (.invokevirtual 126, 3) := by decide +kernel
theorem dX4_mark_24 : decode cX4_mark 24 = .ok (.i2l, 1) := by decide +kernel
theorem dX4_mark_25 : decode cX4_mark 25 = .ok (.lreturn, 1) := by decide +kernel
theorem dX4_mark_26 : decode cX4_mark 26 = .ok (.aload_n 0, 1) := by decide +kernel
theorem dX4_mark_27 : decode cX4_mark 27 = .ok (.iconst 0, 1) := by decide +kernel
theorem dX4_mark_28 : decode cX4_mark 28 = .ok (.putfield 49, 3) := by decide +kernel
theorem dX4_mark_31 : decode cX4_mark 31 = .ok (.aload_n 0, 1) := by decide +kernel
theorem dX4_mark_32 : decode cX4_mark 32 = .ok (.getfield 13, 3) := by decide +kernel
theorem dX4_mark_35 : decode cX4_mark 35 = .ok (.iconst 2, 1) := by decide +kernel
theorem dX4_mark_36 : decode cX4_mark 36 = .ok (.iconst 5, 1) := by decide +kernel
theorem dX4_mark_37 : decode cX4_mark 37 = .ok (.iload_n 1, 1) := by decide +kernel
theorem dX4_mark_38 : decode cX4_mark 38 = .ok (.imul, 1) := by decide +kernel
theorem dX4_mark_39 : decode cX4_mark 39 = .ok (.iadd, 1) := by decide +kernel
theorem dX4_mark_40 : decode cX4_mark 40 = .ok (.iload_n 2, 1) := by decide +kernel
theorem dX4_mark_41 : decode cX4_mark 41 = .ok (.iadd, 1) := by decide +kernel
theorem dX4_mark_42 : decode cX4_mark 42 = .ok (.laload, 1) := by decide +kernel
theorem dX4_mark_43 : decode cX4_mark 43 = .ok (.lreturn, 1) := by decide +kernel
set_option maxRecDepth 20000 in
theorem ggX4_metres_X4_begin : GoodIn wsX4_metres wsX4_begin := goodIn_r _ [9, 10, 2, 11, 12, 13, 14, 15, 8, 16, 17, 25, 26, 27, 28, 29, 30, 31, 32, 33, 34, 35, 36, 37, 38, 39, 40, 41] (by decide +kernel) (by decide +kernel)
set_option maxRecDepth 20000 in
theorem gX4_metres_X4_begin : GoodIn wsX4_metres (wsV RX4 75 RX4 yX4_begin wsX4_begin) := goodIn_app (goodIn_of _ (by decide +kernel)) ggX4_metres_X4_begin
set_option maxRecDepth 20000 in
theorem ggX4_metres_X4_isMark : GoodIn wsX4_metres wsX4_isMark := goodIn_r _ [20] (by decide +kernel) (by decide +kernel)
set_option maxRecDepth 20000 in
theorem gX4_metres_X4_isMark : GoodIn wsX4_metres (va_wsS RX4 123 yX4_isMark wsX4_isMark) := goodIn_app (goodIn_of _ (by decide +kernel)) ggX4_metres_X4_isMark
set_option maxRecDepth 20000 in
theorem ggX4_metres_X4_refuse : GoodIn wsX4_metres wsX4_refuse := goodIn_r _ [24, 1, 25, 26, 27, 28, 29, 30, 31, 32, 33, 34, 35, 36, 37, 38, 39, 40, 41] (by decide +kernel) (by decide +kernel)
set_option maxRecDepth 20000 in
theorem gX4_metres_X4_refuse : GoodIn wsX4_metres (wsV RX4 126 RX4 yX4_refuse wsX4_refuse) := goodIn_app (goodIn_of _ (by decide +kernel)) ggX4_metres_X4_refuse
theorem dX4_metres_0 : decode cX4_metres 0 = .ok (.aload_n 0, 1) := by decide +kernel
theorem dX4_metres_1 : decode cX4_metres 1 = .ok (.invokevirtual 75, 3) := by decide +kernel
theorem dX4_metres_4 : decode cX4_metres 4 = .ok (.iload_n 1, 1) := by decide +kernel
theorem dX4_metres_5 : decode cX4_metres 5 = .ok (.invokestatic 123, 3) := by decide +kernel
theorem dX4_metres_8 : decode cX4_metres 8 = .ok (.ifCond .ne 9, 3) := by decide +kernel
theorem dX4_metres_11 : decode cX4_metres 11 = .ok (.aload_n 0, 1) := by decide +kernel
theorem dX4_metres_12 : decode cX4_metres 12 = .ok (.invokevirtual 126, 3) := by decide +kernel
theorem dX4_metres_15 : decode cX4_metres 15 = .ok (.i2l, 1) := by decide +kernel
theorem dX4_metres_16 : decode cX4_metres 16 = .ok (.lreturn, 1) := by decide +kernel
theorem dX4_metres_17 : decode cX4_metres 17 = .ok (.aload_n 0, 1) := by decide +kernel
theorem dX4_metres_18 : decode cX4_metres 18 = .ok (.iconst 0, 1) := by decide +kernel
theorem dX4_metres_19 : decode cX4_metres 19 = .ok (.putfield 49, 3) := by decide +kernel
theorem dX4_metres_22 : decode cX4_metres 22 = .ok (.aload_n 0, 1) := by decide +kernel
theorem dX4_metres_23 : decode cX4_metres 23 = .ok (.getfield 13, 3) := by decide +kernel
theorem dX4_metres_26 : decode cX4_metres 26 = .ok (.iconst 2, 1) := by decide +kernel
theorem dX4_metres_27 : decode cX4_metres 27 = .ok (.iconst 5, 1) := by decide +kernel
theorem dX4_metres_28 : decode cX4_metres 28 = .ok (.iload_n 1, 1) := by decide +kernel
theorem dX4_metres_29 : decode cX4_metres 29 = .ok (.imul, 1) := by decide +kernel
theorem dX4_metres_30 : decode cX4_metres 30 = .ok (.iadd, 1) := by decide +kernel
theorem dX4_metres_31 : decode cX4_metres 31 = .ok (.iload_n 2, 1) := by decide +kernel
theorem dX4_metres_32 : decode cX4_metres 32 = .ok (.ifCond .eq 7, 3) := by decide +kernel
theorem dX4_metres_35 : decode cX4_metres 35 = .ok (.iconst 1, 1) := by decide +kernel
theorem dX4_metres_36 : decode cX4_metres 36 = .ok (.goto 4, 3) := by decide +kernel
theorem dX4_metres_39 : decode cX4_metres 39 = .ok (.iconst 0, 1) := by decide +kernel
theorem dX4_metres_40 : decode cX4_metres 40 = .ok (.iadd, 1) := by decide +kernel
theorem dX4_metres_41 : decode cX4_metres 41 = .ok (.laload, 1) := by decide +kernel
theorem dX4_metres_42 : decode cX4_metres 42 = .ok (.aload_n 0, 1) := by decide +kernel
theorem dX4_metres_43 : decode cX4_metres 43 = .ok (.getfield 25, 3) := by decide +kernel
theorem dX4_metres_46 : decode cX4_metres 46 = .ok (.i2l, 1) := by decide +kernel
theorem dX4_metres_47 : decode cX4_metres 47 = .ok (.lmul, 1) := by decide +kernel
theorem dX4_metres_48 : decode cX4_metres 48 = .ok (.ldc2_w 130, 3) := by decide +kernel
theorem dX4_metres_51 : decode cX4_metres 51 = .ok (.ldiv, 1) := by decide +kernel
theorem dX4_metres_52 : decode cX4_metres 52 = .ok (.lreturn, 1) := by decide +kernel
theorem dX4_common_0 : decode cX4_common 0 = .ok (.lload_n 0, 1) := by decide +kernel
theorem dX4_common_1 : decode cX4_common 1 = .ok (.lstore 4, 2) := by decide +kernel
theorem dX4_common_3 : decode cX4_common 3 = .ok (.lload_n 2, 1) := by decide +kernel
theorem dX4_common_4 : decode cX4_common 4 = .ok (.lstore 6, 2) := by decide +kernel
theorem dX4_common_6 : decode cX4_common 6 = .ok (.lload 6, 2) := by decide +kernel
theorem dX4_common_8 : decode cX4_common 8 = .ok (.lconst 0, 1) := by decide +kernel
theorem dX4_common_9 : decode cX4_common 9 = .ok (.lcmp, 1) := by decide +kernel
theorem dX4_common_10 : decode cX4_common 10 = .ok (.ifCond .eq 21, 3) := by decide +kernel
theorem dX4_common_13 : decode cX4_common 13 = .ok (.lload 4, 2) := by decide +kernel
theorem dX4_common_15 : decode cX4_common 15 = .ok (.lload 6, 2) := by decide +kernel
theorem dX4_common_17 : decode cX4_common 17 = .ok (.lrem, 1) := by decide +kernel
theorem dX4_common_18 : decode cX4_common 18 = .ok (.lstore 8, 2) := by decide +kernel
theorem dX4_common_20 : decode cX4_common 20 = .ok (.lload 6, 2) := by decide +kernel
theorem dX4_common_22 : decode cX4_common 22 = .ok (.lstore 4, 2) := by decide +kernel
theorem dX4_common_24 : decode cX4_common 24 = .ok (.lload 8, 2) := by decide +kernel
theorem dX4_common_26 : decode cX4_common 26 = .ok (.lstore 6, 2) := by decide +kernel
theorem dX4_common_28 : decode cX4_common 28 = .ok (.goto (-22), 3) := by decide +kernel
theorem dX4_common_31 : decode cX4_common 31 = .ok (.lload 4, 2) := by decide +kernel
theorem dX4_common_33 : decode cX4_common 33 = .ok (.lreturn, 1) := by decide +kernel
set_option maxRecDepth 20000 in
theorem ggX4_average_X4_begin : GoodIn wsX4_average wsX4_begin := goodIn_r _ [9, 10, 1, 11, 12, 13, 14, 15, 8, 16, 17, 28, 29, 30, 31, 32, 33, 34, 35, 36, 37, 38, 39, 40, 41, 42, 43, 44] (by decide +kernel) (by decide +kernel)
set_option maxRecDepth 20000 in
theorem gX4_average_X4_begin : GoodIn wsX4_average (wsV RX4 75 RX4 yX4_begin wsX4_begin) := goodIn_app (goodIn_of _ (by decide +kernel)) ggX4_average_X4_begin
set_option maxRecDepth 20000 in
theorem ggX4_average_X4_isMark : GoodIn wsX4_average wsX4_isMark := goodIn_r _ [20] (by decide +kernel) (by decide +kernel)
set_option maxRecDepth 20000 in
theorem gX4_average_X4_isMark : GoodIn wsX4_average (va_wsS RX4 123 yX4_isMark wsX4_isMark) := goodIn_app (goodIn_of _ (by decide +kernel)) ggX4_average_X4_isMark
set_option maxRecDepth 20000 in
theorem ggX4_average_X4_refuse : GoodIn wsX4_average wsX4_refuse := goodIn_r _ [24, 3, 28, 29, 30, 31, 32, 33, 34, 35, 36, 37, 38, 39, 40, 41, 42, 43, 44] (by decide +kernel) (by decide +kernel)
set_option maxRecDepth 20000 in
theorem gX4_average_X4_refuse : GoodIn wsX4_average (wsV RX4 126 RX4 yX4_refuse wsX4_refuse) := goodIn_app (goodIn_of _ (by decide +kernel)) ggX4_average_X4_refuse
set_option maxRecDepth 20000 in
theorem ggX4_average_X4_common : GoodIn wsX4_average wsX4_common := goodIn_r _ [27] (by decide +kernel) (by decide +kernel)
set_option maxRecDepth 20000 in
theorem gX4_average_X4_common : GoodIn wsX4_average (va_wsS RX4 134 yX4_common wsX4_common) := goodIn_app (goodIn_of _ (by decide +kernel)) ggX4_average_X4_common
theorem dX4_average_0 : decode cX4_average 0 = .ok (.aload_n 0, 1) := by decide +kernel
theorem dX4_average_1 : decode cX4_average 1 = .ok (.invokevirtual 75, 3) := by decide +kernel
theorem dX4_average_4 : decode cX4_average 4 = .ok (.iload_n 1, 1) := by decide +kernel
theorem dX4_average_5 : decode cX4_average 5 = .ok (.invokestatic 123, 3) := by decide +kernel
theorem dX4_average_8 : decode cX4_average 8 = .ok (.ifCond .eq 12, 3) := by decide +kernel
theorem dX4_average_11 : decode cX4_average 11 = .ok (.iload_n 3, 1) := by decide +kernel
theorem dX4_average_12 : decode cX4_average 12 = .ok (.ifCond .lt 8, 3) := by decide +kernel
theorem dX4_average_15 : decode cX4_average 15 = .ok (.iload_n 3, 1) := by decide +kernel
theorem dX4_average_16 : decode cX4_average 16 = .ok (.iconst 1, 1) := by decide +kernel
theorem dX4_average_17 : decode cX4_average 17 = .ok (.if_icmp .le 9, 3) := by decide +kernel
theorem dX4_average_20 : decode cX4_average 20 = .ok (.aload_n 0, 1) := by decide +kernel
theorem dX4_average_21 : decode cX4_average 21 = .ok (.invokevirtual 126, 3) := by decide +kernel
theorem dX4_average_24 : decode cX4_average 24 = .ok (.i2l, 1) := by decide +kernel
theorem dX4_average_25 : decode cX4_average 25 = .ok (.lreturn, 1) := by decide +kernel
theorem dX4_average_26 : decode cX4_average 26 = .ok (.aload_n 0, 1) := by decide +kernel
theorem dX4_average_27 : decode cX4_average 27 = .ok (.getfield 13, 3) := by decide +kernel
theorem dX4_average_30 : decode cX4_average 30 = .ok (.iconst 2, 1) := by decide +kernel
theorem dX4_average_31 : decode cX4_average 31 = .ok (.iconst 5, 1) := by decide +kernel
theorem dX4_average_32 : decode cX4_average 32 = .ok (.iload_n 1, 1) := by decide +kernel
theorem dX4_average_33 : decode cX4_average 33 = .ok (.imul, 1) := by decide +kernel
theorem dX4_average_34 : decode cX4_average 34 = .ok (.iadd, 1) := by decide +kernel
theorem dX4_average_35 : decode cX4_average 35 = .ok (.iload_n 2, 1) := by decide +kernel
theorem dX4_average_36 : decode cX4_average 36 = .ok (.ifCond .eq 7, 3) := by decide +kernel
theorem dX4_average_39 : decode cX4_average 39 = .ok (.iconst 0, 1) := by decide +kernel
end
section
theorem dX4_average_40 : decode cX4_average 40 = .ok (.goto 4, 3) := by decide +kernel
theorem dX4_average_43 : decode cX4_average 43 = .ok (.iconst 1, 1) := by decide +kernel
theorem dX4_average_44 : decode cX4_average 44 = .ok (.iadd, 1) := by decide +kernel
theorem dX4_average_45 : decode cX4_average 45 = .ok (.laload, 1) := by decide +kernel
theorem dX4_average_46 : decode cX4_average 46 = .ok (.aload_n 0, 1) := by decide +kernel
theorem dX4_average_47 : decode cX4_average 47 = .ok (.getfield 25, 3) := by decide +kernel
theorem dX4_average_50 : decode cX4_average 50 = .ok (.i2l, 1) := by decide +kernel
theorem dX4_average_51 : decode cX4_average 51 = .ok (.lmul, 1) := by decide +kernel
theorem dX4_average_52 : decode cX4_average 52 = .ok (.lstore 4, 2) := by decide +kernel
theorem dX4_average_54 : decode cX4_average 54 = .ok (.lload 4, 2) := by decide +kernel
theorem dX4_average_56 : decode cX4_average 56 = .ok (.lconst 0, 1) := by decide +kernel
theorem dX4_average_57 : decode cX4_average 57 = .ok (.lcmp, 1) := by decide +kernel
theorem dX4_average_58 : decode cX4_average 58 = .ok (.ifCond .ne 9, 3) := by decide +kernel
theorem dX4_average_61 : decode cX4_average 61 = .ok (.aload_n 0, 1) := by decide +kernel
theorem dX4_average_62 : decode cX4_average 62 = .ok (.invokevirtual 126, 3) := by decide +kernel
theorem dX4_average_65 : decode cX4_average 65 = .ok (.i2l, 1) := by decide +kernel
theorem dX4_average_66 : decode cX4_average 66 = .ok (.lreturn, 1) := by decide +kernel
theorem dX4_average_67 : decode cX4_average 67 = .ok (.aload_n 0, 1) := by decide +kernel
theorem dX4_average_68 : decode cX4_average 68 = .ok (.iconst 0, 1) := by decide +kernel
theorem dX4_average_69 : decode cX4_average 69 = .ok (.putfield 49, 3) := by decide +kernel
theorem dX4_average_72 : decode cX4_average 72 = .ok (.aload_n 0, 1) := by decide +kernel
theorem dX4_average_73 : decode cX4_average 73 = .ok (.getfield 13, 3) := by decide +kernel
theorem dX4_average_76 : decode cX4_average 76 = .ok (.iconst 2, 1) := by decide +kernel
theorem dX4_average_77 : decode cX4_average 77 = .ok (.iconst 5, 1) := by decide +kernel
theorem dX4_average_78 : decode cX4_average 78 = .ok (.iload_n 1, 1) := by decide +kernel
theorem dX4_average_79 : decode cX4_average 79 = .ok (.imul, 1) := by decide +kernel
theorem dX4_average_80 : decode cX4_average 80 = .ok (.iadd, 1) := by decide +kernel
theorem dX4_average_81 : decode cX4_average 81 = .ok (.iload_n 2, 1) := by decide +kernel
theorem dX4_average_82 : decode cX4_average 82 = .ok (.ifCond .eq 7, 3) := by decide +kernel
theorem dX4_average_85 : decode cX4_average 85 = .ok (.iconst 3, 1) := by decide +kernel
theorem dX4_average_86 : decode cX4_average 86 = .ok (.goto 4, 3) := by decide +kernel
theorem dX4_average_89 : decode cX4_average 89 = .ok (.iconst 2, 1) := by decide +kernel
theorem dX4_average_90 : decode cX4_average 90 = .ok (.iadd, 1) := by decide +kernel
theorem dX4_average_91 : decode cX4_average 91 = .ok (.laload, 1) := by decide +kernel
theorem dX4_average_92 : decode cX4_average 92 = .ok (.ldc2_w 132, 3) := by decide +kernel
theorem dX4_average_95 : decode cX4_average 95 = .ok (.lmul, 1) := by decide +kernel
theorem dX4_average_96 : decode cX4_average 96 = .ok (.lstore 6, 2) := by decide +kernel
theorem dX4_average_98 : decode cX4_average 98 = .ok (.iload_n 3, 1) := by decide +kernel
theorem dX4_average_99 : decode cX4_average 99 = .ok (.ifCond .ne 8, 3) := by decide +kernel
theorem dX4_average_102 : decode cX4_average 102 = .ok (.lload 6, 2) := by decide +kernel
theorem dX4_average_104 : decode cX4_average 104 = .ok (.goto 5, 3) := by decide +kernel
theorem dX4_average_107 : decode cX4_average 107 = .ok (.lload 4, 2) := by decide +kernel
theorem dX4_average_109 : decode cX4_average 109 = .ok (.lload 6, 2) := by decide +kernel
theorem dX4_average_111 : decode cX4_average 111 = .ok (.lload 4, 2) := by decide +kernel
theorem dX4_average_113 : decode cX4_average 113 = .ok (.invokestatic 134, 3) := by decide +kernel
theorem dX4_average_116 : decode cX4_average 116 = .ok (.ldiv, 1) := by decide +kernel
theorem dX4_average_117 : decode cX4_average 117 = .ok (.lreturn, 1) := by decide +kernel
set_option maxRecDepth 20000 in
theorem ggX4_range_X4_begin : GoodIn wsX4_range wsX4_begin := goodIn_r _ [9, 10, 2, 11, 12, 13, 14, 15, 8, 16, 17, 18, 19, 20, 21, 22, 23, 24, 25, 26, 27, 28, 29, 30, 31, 32, 33, 34] (by decide +kernel) (by decide +kernel)
set_option maxRecDepth 20000 in
theorem gX4_range_X4_begin : GoodIn wsX4_range (wsV RX4 75 RX4 yX4_begin wsX4_begin) := goodIn_app (goodIn_of _ (by decide +kernel)) ggX4_range_X4_begin
theorem dX4_range_0 : decode cX4_range 0 = .ok (.aload_n 0, 1) := by decide +kernel
theorem dX4_range_1 : decode cX4_range 1 = .ok (.iconst 0, 1) := by decide +kernel
theorem dX4_range_2 : decode cX4_range 2 = .ok (.putfield 49, 3) := by decide +kernel
theorem dX4_range_5 : decode cX4_range 5 = .ok (.aload_n 0, 1) := by decide +kernel
theorem dX4_range_6 : decode cX4_range 6 = .ok (.invokevirtual 75, 3) := by decide +kernel
theorem dX4_range_9 : decode cX4_range 9 = .ok (.iload_n 1, 1) := by decide +kernel
theorem dX4_range_10 : decode cX4_range 10 = .ok (.ifCond .eq 18, 3) := by decide +kernel
theorem dX4_range_13 : decode cX4_range 13 = .ok (.aload_n 0, 1) := by decide +kernel
theorem dX4_range_14 : decode cX4_range 14 = .ok (.getfield 13, 3) := by decide +kernel
theorem dX4_range_17 : decode cX4_range 17 = .ok (.iconst 1, 1) := by decide +kernel
theorem dX4_range_18 : decode cX4_range 18 = .ok (.laload, 1) := by decide +kernel
theorem dX4_range_19 : decode cX4_range 19 = .ok (.aload_n 0, 1) := by decide +kernel
theorem dX4_range_20 : decode cX4_range 20 = .ok (.getfield 37, 3) := by decide +kernel
theorem dX4_range_23 : decode cX4_range 23 = .ok (.i2l, 1) := by decide +kernel
theorem dX4_range_24 : decode cX4_range 24 = .ok (.ldiv, 1) := by decide +kernel
theorem dX4_range_25 : decode cX4_range 25 = .ok (.goto 15, 3) := by decide +kernel
theorem dX4_range_28 : decode cX4_range 28 = .ok (.aload_n 0, 1) := by decide +kernel
theorem dX4_range_29 : decode cX4_range 29 = .ok (.getfield 13, 3) := by decide +kernel
theorem dX4_range_32 : decode cX4_range 32 = .ok (.iconst 0, 1) := by decide +kernel
theorem dX4_range_33 : decode cX4_range 33 = .ok (.laload, 1) := by decide +kernel
theorem dX4_range_34 : decode cX4_range 34 = .ok (.aload_n 0, 1) := by decide +kernel
theorem dX4_range_35 : decode cX4_range 35 = .ok (.getfield 40, 3) := by decide +kernel
theorem dX4_range_38 : decode cX4_range 38 = .ok (.i2l, 1) := by decide +kernel
theorem dX4_range_39 : decode cX4_range 39 = .ok (.ldiv, 1) := by decide +kernel
theorem dX4_range_40 : decode cX4_range 40 = .ok (.l2i, 1) := by decide +kernel
theorem dX4_range_41 : decode cX4_range 41 = .ok (.ireturn, 1) := by decide +kernel
set_option maxRecDepth 20000 in
theorem ggX4_shown_X4_begin : GoodIn wsX4_shown wsX4_begin := goodIn_r _ [7, 8, 2, 9, 10, 11, 12, 13, 6, 14, 15, 16, 17, 18, 19, 20, 21, 22, 23, 24, 25, 26, 27, 28, 29, 30, 31, 32] (by decide +kernel) (by decide +kernel)
set_option maxRecDepth 20000 in
theorem gX4_shown_X4_begin : GoodIn wsX4_shown (wsV RX4 75 RX4 yX4_begin wsX4_begin) := goodIn_app (goodIn_of _ (by decide +kernel)) ggX4_shown_X4_begin
theorem dX4_shown_0 : decode cX4_shown 0 = .ok (.aload_n 0, 1) := by decide +kernel
theorem dX4_shown_1 : decode cX4_shown 1 = .ok (.iconst 0, 1) := by decide +kernel
theorem dX4_shown_2 : decode cX4_shown 2 = .ok (.putfield 49, 3) := by decide +kernel
theorem dX4_shown_5 : decode cX4_shown 5 = .ok (.aload_n 0, 1) := by decide +kernel
theorem dX4_shown_6 : decode cX4_shown 6 = .ok (.invokevirtual 75, 3) := by decide +kernel
theorem dX4_shown_9 : decode cX4_shown 9 = .ok (.aload_n 0, 1) := by decide +kernel
theorem dX4_shown_10 : decode cX4_shown 10 = .ok (.getfield 13, 3) := by decide +kernel
theorem dX4_shown_13 : decode cX4_shown 13 = .ok (.bipush 25, 2) := by decide +kernel
theorem dX4_shown_15 : decode cX4_shown 15 = .ok (.laload, 1) := by decide +kernel
theorem dX4_shown_16 : decode cX4_shown 16 = .ok (.l2i, 1) := by decide +kernel
theorem dX4_shown_17 : decode cX4_shown 17 = .ok (.ireturn, 1) := by decide +kernel
set_option maxRecDepth 20000 in
theorem ggX4_refill_X4_begin : GoodIn wsX4_refill wsX4_begin := goodIn_r _ [8, 9, 1, 10, 11, 12, 13, 14, 7, 15, 16, 24, 25, 26, 27, 28, 29, 30, 31, 32, 33, 34, 35, 36, 37, 38, 39, 40] (by decide +kernel) (by decide +kernel)
set_option maxRecDepth 20000 in
theorem gX4_refill_X4_begin : GoodIn wsX4_refill (wsV RX4 75 RX4 yX4_begin wsX4_begin) := goodIn_app (goodIn_of _ (by decide +kernel)) ggX4_refill_X4_begin
set_option maxRecDepth 20000 in
theorem ggX4_refill_X4_refuse : GoodIn wsX4_refill wsX4_refuse := goodIn_r _ [20, 3, 24, 25, 26, 27, 28, 29, 30, 31, 32, 33, 34, 35, 36, 37, 38, 39, 40] (by decide +kernel) (by decide +kernel)
set_option maxRecDepth 20000 in
theorem gX4_refill_X4_refuse : GoodIn wsX4_refill (wsV RX4 126 RX4 yX4_refuse wsX4_refuse) := goodIn_app (goodIn_of _ (by decide +kernel)) ggX4_refill_X4_refuse
set_option maxRecDepth 20000 in
theorem ggX4_refill_X4_place : GoodIn wsX4_refill wsX4_place := goodIn_r _ [23, 2] (by decide +kernel) (by decide +kernel)
set_option maxRecDepth 20000 in
theorem gX4_refill_X4_place : GoodIn wsX4_refill (va_wsS RX4 116 yX4_place wsX4_place) := goodIn_app (goodIn_of _ (by decide +kernel)) ggX4_refill_X4_place
theorem dX4_refill_0 : decode cX4_refill 0 = .ok (.aload_n 0, 1) := by decide +kernel
theorem dX4_refill_1 : decode cX4_refill 1 = .ok (.invokevirtual 75, 3) := by decide +kernel
theorem dX4_refill_4 : decode cX4_refill 4 = .ok (.iload_n 1, 1) := by decide +kernel
theorem dX4_refill_5 : decode cX4_refill 5 = .ok (.ifCond .lt 33, 3) := by decide +kernel
theorem dX4_refill_8 : decode cX4_refill 8 = .ok (.iload_n 1, 1) := by decide +kernel
theorem dX4_refill_9 : decode cX4_refill 9 = .ok (.i2l, 1) := by decide +kernel
theorem dX4_refill_10 : decode cX4_refill 10 = .ok (.aload_n 0, 1) := by decide +kernel
theorem dX4_refill_11 : decode cX4_refill 11 = .ok (.getfield 13, 3) := by decide +kernel
theorem dX4_refill_14 : decode cX4_refill 14 = .ok (.bipush 22, 2) := by decide +kernel
theorem dX4_refill_16 : decode cX4_refill 16 = .ok (.laload, 1) := by decide +kernel
theorem dX4_refill_17 : decode cX4_refill 17 = .ok (.lcmp, 1) := by decide +kernel
theorem dX4_refill_18 : decode cX4_refill 18 = .ok (.ifCond .ge 20, 3) := by decide +kernel
theorem dX4_refill_21 : decode cX4_refill 21 = .ok (.iload_n 1, 1) := by decide +kernel
theorem dX4_refill_22 : decode cX4_refill 22 = .ok (.i2l, 1) := by decide +kernel
theorem dX4_refill_23 : decode cX4_refill 23 = .ok (.aload_n 0, 1) := by decide +kernel
theorem dX4_refill_24 : decode cX4_refill 24 = .ok (.getfield 13, 3) := by decide +kernel
theorem dX4_refill_27 : decode cX4_refill 27 = .ok (.bipush 22, 2) := by decide +kernel
theorem dX4_refill_29 : decode cX4_refill 29 = .ok (.laload, 1) := by decide +kernel
theorem dX4_refill_30 : decode cX4_refill 30 = .ok (.ldc2_w 109, 3) := by decide +kernel
theorem dX4_refill_33 : decode cX4_refill 33 = .ok (.lsub, 1) := by decide +kernel
theorem dX4_refill_34 : decode cX4_refill 34 = .ok (.lcmp, 1) := by decide +kernel
theorem dX4_refill_35 : decode cX4_refill 35 = .ok (.ifCond .ge 8, 3) := by decide +kernel
theorem dX4_refill_38 : decode cX4_refill 38 = .ok (.aload_n 0, 1) := by decide +kernel
theorem dX4_refill_39 : decode cX4_refill 39 = .ok (.invokevirtual 126, 3) := by decide +kernel
theorem dX4_refill_42 : decode cX4_refill 42 = .ok (.ireturn, 1) := by decide +kernel
theorem dX4_refill_43 : decode cX4_refill 43 = .ok (.aload_n 0, 1) := by decide +kernel
theorem dX4_refill_44 : decode cX4_refill 44 = .ok (.iconst 0, 1) := by decide +kernel
theorem dX4_refill_45 : decode cX4_refill 45 = .ok (.putfield 49, 3) := by decide +kernel
theorem dX4_refill_48 : decode cX4_refill 48 = .ok (.aload_n 0, 1) := by decide +kernel
theorem dX4_refill_49 : decode cX4_refill 49 = .ok (.getfield 13, 3) := by decide +kernel
theorem dX4_refill_52 : decode cX4_refill 52 = .ok (.iload_n 1, 1) := by decide +kernel
theorem dX4_refill_53 : decode cX4_refill 53 = .ok (.i2l, 1) := by decide +kernel
theorem dX4_refill_54 : decode cX4_refill 54 = .ok (.invokestatic 116, 3) := by decide +kernel
theorem dX4_refill_57 : decode cX4_refill 57 = .ok (.iload_n 2, 1) := by decide +kernel
theorem dX4_refill_58 : decode cX4_refill 58 = .ok (.ifCond .eq 7, 3) := by decide +kernel
theorem dX4_refill_61 : decode cX4_refill 61 = .ok (.iconst 1, 1) := by decide +kernel
theorem dX4_refill_62 : decode cX4_refill 62 = .ok (.goto 4, 3) := by decide +kernel
theorem dX4_refill_65 : decode cX4_refill 65 = .ok (.iconst 0, 1) := by decide +kernel
theorem dX4_refill_66 : decode cX4_refill 66 = .ok (.iadd, 1) := by decide +kernel
theorem dX4_refill_67 : decode cX4_refill 67 = .ok (.laload, 1) := by decide +kernel
theorem dX4_refill_68 : decode cX4_refill 68 = .ok (.l2i, 1) := by decide +kernel
theorem dX4_refill_69 : decode cX4_refill 69 = .ok (.ireturn, 1) := by decide +kernel
theorem dX4_need_0 : decode cX4_need 0 = .ok (.aload_n 0, 1) := by decide +kernel
theorem dX4_need_1 : decode cX4_need 1 = .ok (.getfield 7, 3) := by decide +kernel
theorem dX4_need_4 : decode cX4_need 4 = .ok (.iconst 2, 1) := by decide +kernel
theorem dX4_need_5 : decode cX4_need 5 = .ok (.iload_n 1, 1) := by decide +kernel
theorem dX4_need_6 : decode cX4_need 6 = .ok (.imul, 1) := by decide +kernel
theorem dX4_need_7 : decode cX4_need 7 = .ok (.iaload, 1) := by decide +kernel
theorem dX4_need_8 : decode cX4_need 8 = .ok (.aload_n 0, 1) := by decide +kernel
theorem dX4_need_9 : decode cX4_need 9 = .ok (.getfield 40, 3) := by decide +kernel
theorem dX4_need_12 : decode cX4_need 12 = .ok (.imul, 1) := by decide +kernel
theorem dX4_need_13 : decode cX4_need 13 = .ok (.sipush 999, 3) := by decide +kernel
theorem dX4_need_16 : decode cX4_need 16 = .ok (.iadd, 1) := by decide +kernel
theorem dX4_need_17 : decode cX4_need 17 = .ok (.sipush 1000, 3) := by decide +kernel
theorem dX4_need_20 : decode cX4_need 20 = .ok (.idiv, 1) := by decide +kernel
theorem dX4_need_21 : decode cX4_need 21 = .ok (.ireturn, 1) := by decide +kernel
set_option maxRecDepth 20000 in
theorem ggX4_behind_X4_need : GoodIn wsX4_behind wsX4_need := goodIn_r _ [7, 8, 9, 10, 11, 12, 13, 14, 15, 16, 17, 18, 19, 20, 21, 22, 23, 24, 25, 26] (by decide +kernel) (by decide +kernel)
set_option maxRecDepth 20000 in
theorem gX4_behind_X4_need : GoodIn wsX4_behind (wsV RX4 137 RX4 yX4_need wsX4_need) := goodIn_app (goodIn_of _ (by decide +kernel)) ggX4_behind_X4_need
theorem dX4_behind_0 : decode cX4_behind 0 = .ok (.iload_n 2, 1) := by decide +kernel
theorem dX4_behind_1 : decode cX4_behind 1 = .ok (.aload_n 0, 1) := by decide +kernel
theorem dX4_behind_2 : decode cX4_behind 2 = .ok (.iload_n 1, 1) := by decide +kernel
theorem dX4_behind_3 : decode cX4_behind 3 = .ok (.invokevirtual 137, 3) := by decide +kernel
theorem dX4_behind_6 : decode cX4_behind 6 = .ok (.isub, 1) := by decide +kernel
theorem dX4_behind_7 : decode cX4_behind 7 = .ok (.istore 4, 2) := by decide +kernel
theorem dX4_behind_9 : decode cX4_behind 9 = .ok (.iload 4, 2) := by decide +kernel
theorem dX4_behind_11 : decode cX4_behind 11 = .ok (.ifCond .ge 6, 3) := by decide +kernel
theorem dX4_behind_14 : decode cX4_behind 14 = .ok (.ldc 141, 2) := by decide +kernel
theorem dX4_behind_16 : decode cX4_behind 16 = .ok (.ireturn, 1) := by decide +kernel
theorem dX4_behind_17 : decode cX4_behind 17 = .ok (.iload_n 1, 1) := by decide +kernel
theorem dX4_behind_18 : decode cX4_behind 18 = .ok (.iload_n 3, 1) := by decide +kernel
theorem dX4_behind_19 : decode cX4_behind 19 = .ok (.iconst 1, 1) := by decide +kernel
theorem dX4_behind_20 : decode cX4_behind 20 = .ok (.isub, 1) := by decide +kernel
theorem dX4_behind_21 : decode cX4_behind 21 = .ok (.if_icmp .ne 7, 3) := by decide +kernel
theorem dX4_behind_24 : decode cX4_behind 24 = .ok (.iconst 0, 1) := by decide +kernel
theorem dX4_behind_25 : decode cX4_behind 25 = .ok (.goto 15, 3) := by decide +kernel
theorem dX4_behind_28 : decode cX4_behind 28 = .ok (.aload_n 0, 1) := by decide +kernel
theorem dX4_behind_29 : decode cX4_behind 29 = .ok (.getfield 43, 3) := by decide +kernel
theorem dX4_behind_32 : decode cX4_behind 32 = .ok (.bipush 121, 2) := by decide +kernel
theorem dX4_behind_34 : decode cX4_behind 34 = .ok (.iload_n 1, 1) := by decide +kernel
theorem dX4_behind_35 : decode cX4_behind 35 = .ok (.imul, 1) := by decide +kernel
theorem dX4_behind_36 : decode cX4_behind 36 = .ok (.iload 4, 2) := by decide +kernel
theorem dX4_behind_38 : decode cX4_behind 38 = .ok (.iadd, 1) := by decide +kernel
theorem dX4_behind_39 : decode cX4_behind 39 = .ok (.iaload, 1) := by decide +kernel
theorem dX4_behind_40 : decode cX4_behind 40 = .ok (.ireturn, 1) := by decide +kernel
set_option maxRecDepth 20000 in
theorem ggX4_plan_X4_begin : GoodIn wsX4_plan wsX4_begin := goodIn_r _ [14, 15, 5, 4, 16, 17, 18, 19, 13, 20, 21, 35, 36, 37, 38, 39, 40, 41, 42, 43, 44, 45, 46, 47, 48, 49, 50, 51] (by decide +kernel) (by decide +kernel)
set_option maxRecDepth 20000 in
theorem gX4_plan_X4_begin : GoodIn wsX4_plan (wsV RX4 75 RX4 yX4_begin wsX4_begin) := goodIn_app (goodIn_of _ (by decide +kernel)) ggX4_plan_X4_begin
set_option maxRecDepth 20000 in
theorem ggX4_plan_X4_behind : GoodIn wsX4_plan wsX4_behind := goodIn_r _ [25, 6, 7, 26, 27, 28, 13, 29, 3, 30, 35, 36, 37, 38, 39, 40, 41, 42, 43, 44, 45, 46, 47, 48, 49, 50, 51] (by decide +kernel) (by decide +kernel)
set_option maxRecDepth 20000 in
theorem gX4_plan_X4_behind : GoodIn wsX4_plan (wsV RX4 142 RX4 yX4_behind wsX4_behind) := goodIn_app (goodIn_of _ (by decide +kernel)) ggX4_plan_X4_behind
set_option maxRecDepth 20000 in
theorem ggX4_plan_X4_need : GoodIn wsX4_plan wsX4_need := goodIn_r _ [29, 3, 30, 35, 36, 37, 38, 39, 40, 41, 42, 43, 44, 45, 46, 47, 48, 49, 50, 51] (by decide +kernel) (by decide +kernel)
set_option maxRecDepth 20000 in
theorem gX4_plan_X4_need : GoodIn wsX4_plan (wsV RX4 137 RX4 yX4_need wsX4_need) := goodIn_app (goodIn_of _ (by decide +kernel)) ggX4_plan_X4_need
set_option maxRecDepth 20000 in
theorem ggX4_plan_X4_isBest : GoodIn wsX4_plan wsX4_isBest := goodIn_r _ [34, 6, 3, 7, 22, 23, 24, 13, 25, 26, 27, 28, 29, 30, 35, 36, 37, 38, 39, 40, 41, 42, 43, 44, 45, 46, 47, 48, 49, 50, 51] (by decide +kernel) (by decide +kernel)
set_option maxRecDepth 20000 in
theorem gX4_plan_X4_isBest : GoodIn wsX4_plan (wsV RX4 149 RX4 yX4_isBest wsX4_isBest) := goodIn_app (goodIn_of _ (by decide +kernel)) ggX4_plan_X4_isBest
theorem dX4_plan_0 : decode cX4_plan 0 = .ok (.aload_n 0, 1) := by decide +kernel
theorem dX4_plan_1 : decode cX4_plan 1 = .ok (.iconst 0, 1) := by decide +kernel
theorem dX4_plan_2 : decode cX4_plan 2 = .ok (.putfield 49, 3) := by decide +kernel
theorem dX4_plan_5 : decode cX4_plan 5 = .ok (.aload_n 0, 1) := by decide +kernel
theorem dX4_plan_6 : decode cX4_plan 6 = .ok (.invokevirtual 75, 3) := by decide +kernel
theorem dX4_plan_9 : decode cX4_plan 9 = .ok (.aload_n 0, 1) := by decide +kernel
theorem dX4_plan_10 : decode cX4_plan 10 = .ok (.getfield 52, 3) := by decide +kernel
theorem dX4_plan_13 : decode cX4_plan 13 = .ok (.istore_n 1, 1) := by decide +kernel
theorem dX4_plan_14 : decode cX4_plan 14 = .ok (.aload_n 0, 1) := by decide +kernel
theorem dX4_plan_15 : decode cX4_plan 15 = .ok (.iconst 0, 1) := by decide +kernel
theorem dX4_plan_16 : decode cX4_plan 16 = .ok (.putfield 52, 3) := by decide +kernel
theorem dX4_plan_19 : decode cX4_plan 19 = .ok (.iload_n 1, 1) := by decide +kernel
theorem dX4_plan_20 : decode cX4_plan 20 = .ok (.iconst 2, 1) := by decide +kernel
theorem dX4_plan_21 : decode cX4_plan 21 = .ok (.irem, 1) := by decide +kernel
theorem dX4_plan_22 : decode cX4_plan 22 = .ok (.ifCond .eq 9, 3) := by decide +kernel
theorem dX4_plan_25 : decode cX4_plan 25 = .ok (.iload_n 1, 1) := by decide +kernel
theorem dX4_plan_26 : decode cX4_plan 26 = .ok (.bipush 25, 2) := by decide +kernel
theorem dX4_plan_28 : decode cX4_plan 28 = .ok (.if_icmp .le 6, 3) := by decide +kernel
theorem dX4_plan_31 : decode cX4_plan 31 = .ok (.bipush (-2), 2) := by decide +kernel
theorem dX4_plan_33 : decode cX4_plan 33 = .ok (.ireturn, 1) := by decide +kernel
theorem dX4_plan_34 : decode cX4_plan 34 = .ok (.iconst 0, 1) := by decide +kernel
theorem dX4_plan_35 : decode cX4_plan 35 = .ok (.istore_n 2, 1) := by decide +kernel
theorem dX4_plan_36 : decode cX4_plan 36 = .ok (.iload_n 2, 1) := by decide +kernel
theorem dX4_plan_37 : decode cX4_plan 37 = .ok (.iload_n 1, 1) := by decide +kernel
theorem dX4_plan_38 : decode cX4_plan 38 = .ok (.if_icmp .ge 21, 3) := by decide +kernel
theorem dX4_plan_41 : decode cX4_plan 41 = .ok (.aload_n 0, 1) := by decide +kernel
theorem dX4_plan_42 : decode cX4_plan 42 = .ok (.getfield 7, 3) := by decide +kernel
theorem dX4_plan_45 : decode cX4_plan 45 = .ok (.iload_n 2, 1) := by decide +kernel
theorem dX4_plan_46 : decode cX4_plan 46 = .ok (.iaload, 1) := by decide +kernel
theorem dX4_plan_47 : decode cX4_plan 47 = .ok (.ifCond .ne 6, 3) := by decide +kernel
theorem dX4_plan_50 : decode cX4_plan 50 = .ok (.bipush (-2), 2) := by decide +kernel
theorem dX4_plan_52 : decode cX4_plan 52 = .ok (.ireturn, 1) := by decide +kernel
theorem dX4_plan_53 : decode cX4_plan 53 = .ok (.iinc 2 1, 3) := by decide +kernel
theorem dX4_plan_56 : decode cX4_plan 56 = .ok (.goto (-20), 3) := by decide +kernel
theorem dX4_plan_59 : decode cX4_plan 59 = .ok (.iload_n 1, 1) := by decide +kernel
theorem dX4_plan_60 : decode cX4_plan 60 = .ok (.iconst 1, 1) := by decide +kernel
theorem dX4_plan_61 : decode cX4_plan 61 = .ok (.iadd, 1) := by decide +kernel
theorem dX4_plan_62 : decode cX4_plan 62 = .ok (.iconst 2, 1) := by decide +kernel
theorem dX4_plan_63 : decode cX4_plan 63 = .ok (.idiv, 1) := by decide +kernel
theorem dX4_plan_64 : decode cX4_plan 64 = .ok (.istore_n 2, 1) := by decide +kernel
theorem dX4_plan_65 : decode cX4_plan 65 = .ok (.aload_n 0, 1) := by decide +kernel
theorem dX4_plan_66 : decode cX4_plan 66 = .ok (.getfield 21, 3) := by decide +kernel
theorem dX4_plan_69 : decode cX4_plan 69 = .ok (.sipush 1000, 3) := by decide +kernel
theorem dX4_plan_72 : decode cX4_plan 72 = .ok (.idiv, 1) := by decide +kernel
theorem dX4_plan_73 : decode cX4_plan 73 = .ok (.istore_n 3, 1) := by decide +kernel
theorem dX4_plan_74 : decode cX4_plan 74 = .ok (.aload_n 0, 1) := by decide +kernel
theorem dX4_plan_75 : decode cX4_plan 75 = .ok (.getfield 13, 3) := by decide +kernel
theorem dX4_plan_78 : decode cX4_plan 78 = .ok (.iconst 0, 1) := by decide +kernel
theorem dX4_plan_79 : decode cX4_plan 79 = .ok (.laload, 1) := by decide +kernel
theorem dX4_plan_80 : decode cX4_plan 80 = .ok (.l2i, 1) := by decide +kernel
theorem dX4_plan_81 : decode cX4_plan 81 = .ok (.sipush 1000, 3) := by decide +kernel
theorem dX4_plan_84 : decode cX4_plan 84 = .ok (.idiv, 1) := by decide +kernel
theorem dX4_plan_85 : decode cX4_plan 85 = .ok (.istore 4, 2) := by decide +kernel
theorem dX4_plan_87 : decode cX4_plan 87 = .ok (.iload_n 2, 1) := by decide +kernel
theorem dX4_plan_88 : decode cX4_plan 88 = .ok (.iconst 2, 1) := by decide +kernel
theorem dX4_plan_89 : decode cX4_plan 89 = .ok (.isub, 1) := by decide +kernel
theorem dX4_plan_90 : decode cX4_plan 90 = .ok (.istore 5, 2) := by decide +kernel
theorem dX4_plan_92 : decode cX4_plan 92 = .ok (.iload 5, 2) := by decide +kernel
theorem dX4_plan_94 : decode cX4_plan 94 = .ok (.ifCond .lt 125, 3) := by decide +kernel
theorem dX4_plan_97 : decode cX4_plan 97 = .ok (.iconst 0, 1) := by decide +kernel
theorem dX4_plan_98 : decode cX4_plan 98 = .ok (.istore 6, 2) := by decide +kernel
theorem dX4_plan_100 : decode cX4_plan 100 = .ok (.iload 6, 2) := by decide +kernel
theorem dX4_plan_102 : decode cX4_plan 102 = .ok (.iload_n 3, 1) := by decide +kernel
theorem dX4_plan_103 : decode cX4_plan 103 = .ok (.if_icmp .gt 110, 3) := by decide +kernel
theorem dX4_plan_106 : decode cX4_plan 106 = .ok (.ldc 141, 2) := by decide +kernel
theorem dX4_plan_108 : decode cX4_plan 108 = .ok (.istore 7, 2) := by decide +kernel
theorem dX4_plan_110 : decode cX4_plan 110 = .ok (.iconst 0, 1) := by decide +kernel
theorem dX4_plan_111 : decode cX4_plan 111 = .ok (.istore 8, 2) := by decide +kernel
theorem dX4_plan_113 : decode cX4_plan 113 = .ok (.iload 6, 2) := by decide +kernel
theorem dX4_plan_115 : decode cX4_plan 115 = .ok (.iload 8, 2) := by decide +kernel
theorem dX4_plan_117 : decode cX4_plan 117 = .ok (.iadd, 1) := by decide +kernel
theorem dX4_plan_118 : decode cX4_plan 118 = .ok (.iload_n 3, 1) := by decide +kernel
theorem dX4_plan_119 : decode cX4_plan 119 = .ok (.if_icmp .gt 73, 3) := by decide +kernel
theorem dX4_plan_122 : decode cX4_plan 122 = .ok (.aload_n 0, 1) := by decide +kernel
theorem dX4_plan_123 : decode cX4_plan 123 = .ok (.iload 5, 2) := by decide +kernel
theorem dX4_plan_125 : decode cX4_plan 125 = .ok (.iconst 1, 1) := by decide +kernel
theorem dX4_plan_126 : decode cX4_plan 126 = .ok (.iadd, 1) := by decide +kernel
theorem dX4_plan_127 : decode cX4_plan 127 = .ok (.iload 6, 2) := by decide +kernel
theorem dX4_plan_129 : decode cX4_plan 129 = .ok (.iload 8, 2) := by decide +kernel
theorem dX4_plan_131 : decode cX4_plan 131 = .ok (.iadd, 1) := by decide +kernel
theorem dX4_plan_132 : decode cX4_plan 132 = .ok (.iload_n 2, 1) := by decide +kernel
theorem dX4_plan_133 : decode cX4_plan 133 = .ok (.invokevirtual 142, 3) := by decide +kernel
theorem dX4_plan_136 : decode cX4_plan 136 = .ok (.istore 9, 2) := by decide +kernel
theorem dX4_plan_138 : decode cX4_plan 138 = .ok (.iload 9, 2) := by decide +kernel
theorem dX4_plan_140 : decode cX4_plan 140 = .ok (.ldc 141, 2) := by decide +kernel
theorem dX4_plan_142 : decode cX4_plan 142 = .ok (.if_icmp .ge 44, 3) := by decide +kernel
theorem dX4_plan_145 : decode cX4_plan 145 = .ok (.iload 9, 2) := by decide +kernel
theorem dX4_plan_147 : decode cX4_plan 147 = .ok (.iload 8, 2) := by decide +kernel
theorem dX4_plan_149 : decode cX4_plan 149 = .ok (.aload_n 0, 1) := by decide +kernel
theorem dX4_plan_150 : decode cX4_plan 150 = .ok (.getfield 7, 3) := by decide +kernel
theorem dX4_plan_153 : decode cX4_plan 153 = .ok (.iconst 2, 1) := by decide +kernel
theorem dX4_plan_154 : decode cX4_plan 154 = .ok (.iload 5, 2) := by decide +kernel
theorem dX4_plan_156 : decode cX4_plan 156 = .ok (.imul, 1) := by decide +kernel
theorem dX4_plan_157 : decode cX4_plan 157 = .ok (.iconst 1, 1) := by decide +kernel
theorem dX4_plan_158 : decode cX4_plan 158 = .ok (.iadd, 1) := by decide +kernel
theorem dX4_plan_159 : decode cX4_plan 159 = .ok (.iaload, 1) := by decide +kernel
theorem dX4_plan_160 : decode cX4_plan 160 = .ok (.imul, 1) := by decide +kernel
theorem dX4_plan_161 : decode cX4_plan 161 = .ok (.iadd, 1) := by decide +kernel
theorem dX4_plan_162 : decode cX4_plan 162 = .ok (.iload 7, 2) := by decide +kernel
theorem dX4_plan_164 : decode cX4_plan 164 = .ok (.if_icmp .ge 22, 3) := by decide +kernel
theorem dX4_plan_167 : decode cX4_plan 167 = .ok (.iload 9, 2) := by decide +kernel
theorem dX4_plan_169 : decode cX4_plan 169 = .ok (.iload 8, 2) := by decide +kernel
theorem dX4_plan_171 : decode cX4_plan 171 = .ok (.aload_n 0, 1) := by decide +kernel
theorem dX4_plan_172 : decode cX4_plan 172 = .ok (.getfield 7, 3) := by decide +kernel
theorem dX4_plan_175 : decode cX4_plan 175 = .ok (.iconst 2, 1) := by decide +kernel
theorem dX4_plan_176 : decode cX4_plan 176 = .ok (.iload 5, 2) := by decide +kernel
theorem dX4_plan_178 : decode cX4_plan 178 = .ok (.imul, 1) := by decide +kernel
theorem dX4_plan_179 : decode cX4_plan 179 = .ok (.iconst 1, 1) := by decide +kernel
theorem dX4_plan_180 : decode cX4_plan 180 = .ok (.iadd, 1) := by decide +kernel
theorem dX4_plan_181 : decode cX4_plan 181 = .ok (.iaload, 1) := by decide +kernel
theorem dX4_plan_182 : decode cX4_plan 182 = .ok (.imul, 1) := by decide +kernel
theorem dX4_plan_183 : decode cX4_plan 183 = .ok (.iadd, 1) := by decide +kernel
theorem dX4_plan_184 : decode cX4_plan 184 = .ok (.istore 7, 2) := by decide +kernel
theorem dX4_plan_186 : decode cX4_plan 186 = .ok (.iinc 8 1, 3) := by decide +kernel
theorem dX4_plan_189 : decode cX4_plan 189 = .ok (.goto (-76), 3) := by decide +kernel
theorem dX4_plan_192 : decode cX4_plan 192 = .ok (.aload_n 0, 1) := by decide +kernel
theorem dX4_plan_193 : decode cX4_plan 193 = .ok (.getfield 43, 3) := by decide +kernel
theorem dX4_plan_196 : decode cX4_plan 196 = .ok (.bipush 121, 2) := by decide +kernel
theorem dX4_plan_198 : decode cX4_plan 198 = .ok (.iload 5, 2) := by decide +kernel
theorem dX4_plan_200 : decode cX4_plan 200 = .ok (.imul, 1) := by decide +kernel
theorem dX4_plan_201 : decode cX4_plan 201 = .ok (.iload 6, 2) := by decide +kernel
theorem dX4_plan_203 : decode cX4_plan 203 = .ok (.iadd, 1) := by decide +kernel
theorem dX4_plan_204 : decode cX4_plan 204 = .ok (.iload 7, 2) := by decide +kernel
theorem dX4_plan_206 : decode cX4_plan 206 = .ok (.iastore, 1) := by decide +kernel
theorem dX4_plan_207 : decode cX4_plan 207 = .ok (.iinc 6 1, 3) := by decide +kernel
theorem dX4_plan_210 : decode cX4_plan 210 = .ok (.goto (-110), 3) := by decide +kernel
theorem dX4_plan_213 : decode cX4_plan 213 = .ok (.iinc 5 (-1), 3) := by decide +kernel
theorem dX4_plan_216 : decode cX4_plan 216 = .ok (.goto (-124), 3) := by decide +kernel
theorem dX4_plan_219 : decode cX4_plan 219 = .ok (.aload_n 0, 1) := by decide +kernel
theorem dX4_plan_220 : decode cX4_plan 220 = .ok (.iconst 0, 1) := by decide +kernel
theorem dX4_plan_221 : decode cX4_plan 221 = .ok (.iload 4, 2) := by decide +kernel
theorem dX4_plan_223 : decode cX4_plan 223 = .ok (.iload_n 2, 1) := by decide +kernel
theorem dX4_plan_224 : decode cX4_plan 224 = .ok (.invokevirtual 142, 3) := by decide +kernel
theorem dX4_plan_227 : decode cX4_plan 227 = .ok (.istore 5, 2) := by decide +kernel
theorem dX4_plan_229 : decode cX4_plan 229 = .ok (.iload 5, 2) := by decide +kernel
theorem dX4_plan_231 : decode cX4_plan 231 = .ok (.ldc 141, 2) := by decide +kernel
theorem dX4_plan_233 : decode cX4_plan 233 = .ok (.if_icmp .ne 5, 3) := by decide +kernel
theorem dX4_plan_236 : decode cX4_plan 236 = .ok (.iconst (-1), 1) := by decide +kernel
theorem dX4_plan_237 : decode cX4_plan 237 = .ok (.ireturn, 1) := by decide +kernel
theorem dX4_plan_238 : decode cX4_plan 238 = .ok (.aload_n 0, 1) := by decide +kernel
theorem dX4_plan_239 : decode cX4_plan 239 = .ok (.iload_n 2, 1) := by decide +kernel
theorem dX4_plan_240 : decode cX4_plan 240 = .ok (.iconst 1, 1) := by decide +kernel
theorem dX4_plan_241 : decode cX4_plan 241 = .ok (.isub, 1) := by decide +kernel
theorem dX4_plan_242 : decode cX4_plan 242 = .ok (.putfield 146, 3) := by decide +kernel
theorem dX4_plan_245 : decode cX4_plan 245 = .ok (.iload 4, 2) := by decide +kernel
theorem dX4_plan_247 : decode cX4_plan 247 = .ok (.aload_n 0, 1) := by decide +kernel
theorem dX4_plan_248 : decode cX4_plan 248 = .ok (.iconst 0, 1) := by decide +kernel
theorem dX4_plan_249 : decode cX4_plan 249 = .ok (.invokevirtual 137, 3) := by decide +kernel
theorem dX4_plan_252 : decode cX4_plan 252 = .ok (.isub, 1) := by decide +kernel
theorem dX4_plan_253 : decode cX4_plan 253 = .ok (.istore 6, 2) := by decide +kernel
theorem dX4_plan_255 : decode cX4_plan 255 = .ok (.iconst 0, 1) := by decide +kernel
theorem dX4_plan_256 : decode cX4_plan 256 = .ok (.istore 7, 2) := by decide +kernel
theorem dX4_plan_258 : decode cX4_plan 258 = .ok (.iload 7, 2) := by decide +kernel
theorem dX4_plan_260 : decode cX4_plan 260 = .ok (.aload_n 0, 1) := by decide +kernel
theorem dX4_plan_261 : decode cX4_plan 261 = .ok (.getfield 146, 3) := by decide +kernel
theorem dX4_plan_264 : decode cX4_plan 264 = .ok (.if_icmp .ge 57, 3) := by decide +kernel
theorem dX4_plan_267 : decode cX4_plan 267 = .ok (.iconst 0, 1) := by decide +kernel
theorem dX4_plan_268 : decode cX4_plan 268 = .ok (.istore 8, 2) := by decide +kernel
theorem dX4_plan_270 : decode cX4_plan 270 = .ok (.aload_n 0, 1) := by decide +kernel
theorem dX4_plan_271 : decode cX4_plan 271 = .ok (.iload 7, 2) := by decide +kernel
theorem dX4_plan_273 : decode cX4_plan 273 = .ok (.iload 6, 2) := by decide +kernel
theorem dX4_plan_275 : decode cX4_plan 275 = .ok (.iload 8, 2) := by decide +kernel
theorem dX4_plan_277 : decode cX4_plan 277 = .ok (.iload_n 2, 1) := by decide +kernel
theorem dX4_plan_278 : decode cX4_plan 278 = .ok (.invokevirtual 149, 3) := by decide +kernel
theorem dX4_plan_281 : decode cX4_plan 281 = .ok (.ifCond .ne 9, 3) := by decide +kernel
theorem dX4_plan_284 : decode cX4_plan 284 = .ok (.iinc 8 1, 3) := by decide +kernel
theorem dX4_plan_287 : decode cX4_plan 287 = .ok (.goto (-17), 3) := by decide +kernel
theorem dX4_plan_290 : decode cX4_plan 290 = .ok (.aload_n 0, 1) := by decide +kernel
theorem dX4_plan_291 : decode cX4_plan 291 = .ok (.getfield 46, 3) := by decide +kernel
theorem dX4_plan_294 : decode cX4_plan 294 = .ok (.iload 7, 2) := by decide +kernel
theorem dX4_plan_296 : decode cX4_plan 296 = .ok (.iload 8, 2) := by decide +kernel
theorem dX4_plan_298 : decode cX4_plan 298 = .ok (.iastore, 1) := by decide +kernel
theorem dX4_plan_299 : decode cX4_plan 299 = .ok (.iload 6, 2) := by decide +kernel
theorem dX4_plan_301 : decode cX4_plan 301 = .ok (.iload 8, 2) := by decide +kernel
theorem dX4_plan_303 : decode cX4_plan 303 = .ok (.aload_n 0, 1) := by decide +kernel
theorem dX4_plan_304 : decode cX4_plan 304 = .ok (.iload 7, 2) := by decide +kernel
theorem dX4_plan_306 : decode cX4_plan 306 = .ok (.iconst 1, 1) := by decide +kernel
theorem dX4_plan_307 : decode cX4_plan 307 = .ok (.iadd, 1) := by decide +kernel
theorem dX4_plan_308 : decode cX4_plan 308 = .ok (.invokevirtual 137, 3) := by decide +kernel
theorem dX4_plan_311 : decode cX4_plan 311 = .ok (.isub, 1) := by decide +kernel
theorem dX4_plan_312 : decode cX4_plan 312 = .ok (.iadd, 1) := by decide +kernel
theorem dX4_plan_313 : decode cX4_plan 313 = .ok (.istore 6, 2) := by decide +kernel
theorem dX4_plan_315 : decode cX4_plan 315 = .ok (.iinc 7 1, 3) := by decide +kernel
theorem dX4_plan_318 : decode cX4_plan 318 = .ok (.goto (-60), 3) := by decide +kernel
theorem dX4_plan_321 : decode cX4_plan 321 = .ok (.iload 5, 2) := by decide +kernel
theorem dX4_plan_323 : decode cX4_plan 323 = .ok (.ireturn, 1) := by decide +kernel
set_option maxRecDepth 20000 in
theorem ggX4_isBest_X4_behind : GoodIn wsX4_isBest wsX4_behind := goodIn_r _ [8, 1, 3, 9, 10, 11, 7, 12, 2, 13, 14, 15, 16, 17, 18, 19, 20, 21, 22, 23, 24, 25, 26, 27, 28, 29, 30] (by decide +kernel) (by decide +kernel)
set_option maxRecDepth 20000 in
theorem gX4_isBest_X4_behind : GoodIn wsX4_isBest (wsV RX4 142 RX4 yX4_behind wsX4_behind) := goodIn_app (goodIn_of _ (by decide +kernel)) ggX4_isBest_X4_behind
theorem dX4_isBest_0 : decode cX4_isBest 0 = .ok (.aload_n 0, 1) := by decide +kernel
theorem dX4_isBest_1 : decode cX4_isBest 1 = .ok (.iload_n 1, 1) := by decide +kernel
theorem dX4_isBest_2 : decode cX4_isBest 2 = .ok (.iconst 1, 1) := by decide +kernel
theorem dX4_isBest_3 : decode cX4_isBest 3 = .ok (.iadd, 1) := by decide +kernel
theorem dX4_isBest_4 : decode cX4_isBest 4 = .ok (.iload_n 2, 1) := by decide +kernel
theorem dX4_isBest_5 : decode cX4_isBest 5 = .ok (.iload_n 3, 1) := by decide +kernel
theorem dX4_isBest_6 : decode cX4_isBest 6 = .ok (.iadd, 1) := by decide +kernel
theorem dX4_isBest_7 : decode cX4_isBest 7 = .ok (.iload 4, 2) := by decide +kernel
theorem dX4_isBest_9 : decode cX4_isBest 9 = .ok (.invokevirtual 142, 3) := by decide +kernel
theorem dX4_isBest_12 : decode cX4_isBest 12 = .ok (.istore 5, 2) := by decide +kernel
theorem dX4_isBest_14 : decode cX4_isBest 14 = .ok (.iload 5, 2) := by decide +kernel
theorem dX4_isBest_16 : decode cX4_isBest 16 = .ok (.ldc 141, 2) := by decide +kernel
theorem dX4_isBest_18 : decode cX4_isBest 18 = .ok (.if_icmp .ge 36, 3) := by decide +kernel
theorem dX4_isBest_21 : decode cX4_isBest 21 = .ok (.iload 5, 2) := by decide +kernel
theorem dX4_isBest_23 : decode cX4_isBest 23 = .ok (.iload_n 3, 1) := by decide +kernel
theorem dX4_isBest_24 : decode cX4_isBest 24 = .ok (.aload_n 0, 1) := by decide +kernel
theorem dX4_isBest_25 : decode cX4_isBest 25 = .ok (.getfield 7, 3) := by decide +kernel
theorem dX4_isBest_28 : decode cX4_isBest 28 = .ok (.iconst 2, 1) := by decide +kernel
theorem dX4_isBest_29 : decode cX4_isBest 29 = .ok (.iload_n 1, 1) := by decide +kernel
theorem dX4_isBest_30 : decode cX4_isBest 30 = .ok (.imul, 1) := by decide +kernel
theorem dX4_isBest_31 : decode cX4_isBest 31 = .ok (.iconst 1, 1) := by decide +kernel
theorem dX4_isBest_32 : decode cX4_isBest 32 = .ok (.iadd, 1) := by decide +kernel
theorem dX4_isBest_33 : decode cX4_isBest 33 = .ok (.iaload, 1) := by decide +kernel
theorem dX4_isBest_34 : decode cX4_isBest 34 = .ok (.imul, 1) := by decide +kernel
theorem dX4_isBest_35 : decode cX4_isBest 35 = .ok (.iadd, 1) := by decide +kernel
theorem dX4_isBest_36 : decode cX4_isBest 36 = .ok (.aload_n 0, 1) := by decide +kernel
theorem dX4_isBest_37 : decode cX4_isBest 37 = .ok (.getfield 43, 3) := by decide +kernel
theorem dX4_isBest_40 : decode cX4_isBest 40 = .ok (.bipush 121, 2) := by decide +kernel
theorem dX4_isBest_42 : decode cX4_isBest 42 = .ok (.iload_n 1, 1) := by decide +kernel
theorem dX4_isBest_43 : decode cX4_isBest 43 = .ok (.imul, 1) := by decide +kernel
theorem dX4_isBest_44 : decode cX4_isBest 44 = .ok (.iload_n 2, 1) := by decide +kernel
theorem dX4_isBest_45 : decode cX4_isBest 45 = .ok (.iadd, 1) := by decide +kernel
theorem dX4_isBest_46 : decode cX4_isBest 46 = .ok (.iaload, 1) := by decide +kernel
theorem dX4_isBest_47 : decode cX4_isBest 47 = .ok (.if_icmp .ne 7, 3) := by decide +kernel
theorem dX4_isBest_50 : decode cX4_isBest 50 = .ok (.iconst 1, 1) := by decide +kernel
theorem dX4_isBest_51 : decode cX4_isBest 51 = .ok (.goto 4, 3) := by decide +kernel
theorem dX4_isBest_54 : decode cX4_isBest 54 = .ok (.iconst 0, 1) := by decide +kernel
theorem dX4_isBest_55 : decode cX4_isBest 55 = .ok (.ireturn, 1) := by decide +kernel
theorem dX4_buys_0 : decode cX4_buys 0 = .ok (.aload_n 0, 1) := by decide +kernel
theorem dX4_buys_1 : decode cX4_buys 1 = .ok (.iconst 0, 1) := by decide +kernel
theorem dX4_buys_2 : decode cX4_buys 2 = .ok (.putfield 49, 3) := by decide +kernel
theorem dX4_buys_5 : decode cX4_buys 5 = .ok (.iload_n 1, 1) := by decide +kernel
theorem dX4_buys_6 : decode cX4_buys 6 = .ok (.ifCond .lt 11, 3) := by decide +kernel
theorem dX4_buys_9 : decode cX4_buys 9 = .ok (.iload_n 1, 1) := by decide +kernel
theorem dX4_buys_10 : decode cX4_buys 10 = .ok (.aload_n 0, 1) := by decide +kernel
theorem dX4_buys_11 : decode cX4_buys 11 = .ok (.getfield 146, 3) := by decide +kernel
theorem dX4_buys_14 : decode cX4_buys 14 = .ok (.if_icmp .lt 7, 3) := by decide +kernel
theorem dX4_buys_17 : decode cX4_buys 17 = .ok (.iconst (-1), 1) := by decide +kernel
theorem dX4_buys_18 : decode cX4_buys 18 = .ok (.goto 9, 3) := by decide +kernel
theorem dX4_buys_21 : decode cX4_buys 21 = .ok (.aload_n 0, 1) := by decide +kernel
theorem dX4_buys_22 : decode cX4_buys 22 = .ok (.getfield 46, 3) := by decide +kernel
theorem dX4_buys_25 : decode cX4_buys 25 = .ok (.iload_n 1, 1) := by decide +kernel
theorem dX4_buys_26 : decode cX4_buys 26 = .ok (.iaload, 1) := by decide +kernel
theorem dX4_buys_27 : decode cX4_buys 27 = .ok (.ireturn, 1) := by decide +kernel
set_option maxRecDepth 20000 in
theorem ggX4_count_X4_begin : GoodIn wsX4_count wsX4_begin := goodIn_r _ [8, 9, 2, 10, 11, 12, 13, 14, 7, 15, 16, 17, 18, 19, 20, 21, 22, 23, 24, 25, 26, 27, 28, 29, 30, 31, 32, 33] (by decide +kernel) (by decide +kernel)
set_option maxRecDepth 20000 in
theorem gX4_count_X4_begin : GoodIn wsX4_count (wsV RX4 75 RX4 yX4_begin wsX4_begin) := goodIn_app (goodIn_of _ (by decide +kernel)) ggX4_count_X4_begin
theorem dX4_count_0 : decode cX4_count 0 = .ok (.aload_n 0, 1) := by decide +kernel
theorem dX4_count_1 : decode cX4_count 1 = .ok (.iconst 0, 1) := by decide +kernel
theorem dX4_count_2 : decode cX4_count 2 = .ok (.putfield 49, 3) := by decide +kernel
theorem dX4_count_5 : decode cX4_count 5 = .ok (.aload_n 0, 1) := by decide +kernel
theorem dX4_count_6 : decode cX4_count 6 = .ok (.invokevirtual 75, 3) := by decide +kernel
theorem dX4_count_9 : decode cX4_count 9 = .ok (.iload_n 1, 1) := by decide +kernel
theorem dX4_count_10 : decode cX4_count 10 = .ok (.tableswitch 75 0 4 #[34, 43, 52, 61, 70], 34) := by decide +kernel
theorem dX4_count_44 : decode cX4_count 44 = .ok (.aload_n 0, 1) := by decide +kernel
theorem dX4_count_45 : decode cX4_count 45 = .ok (.getfield 13, 3) := by decide +kernel
theorem dX4_count_48 : decode cX4_count 48 = .ok (.bipush 22, 2) := by decide +kernel
theorem dX4_count_50 : decode cX4_count 50 = .ok (.laload, 1) := by decide +kernel
theorem dX4_count_51 : decode cX4_count 51 = .ok (.l2i, 1) := by decide +kernel
theorem dX4_count_52 : decode cX4_count 52 = .ok (.ireturn, 1) := by decide +kernel
theorem dX4_count_53 : decode cX4_count 53 = .ok (.aload_n 0, 1) := by decide +kernel
theorem dX4_count_54 : decode cX4_count 54 = .ok (.getfield 13, 3) := by decide +kernel
theorem dX4_count_57 : decode cX4_count 57 = .ok (.bipush 23, 2) := by decide +kernel
theorem dX4_count_59 : decode cX4_count 59 = .ok (.laload, 1) := by decide +kernel
theorem dX4_count_60 : decode cX4_count 60 = .ok (.l2i, 1) := by decide +kernel
theorem dX4_count_61 : decode cX4_count 61 = .ok (.ireturn, 1) := by decide +kernel
theorem dX4_count_62 : decode cX4_count 62 = .ok (.aload_n 0, 1) := by decide +kernel
theorem dX4_count_63 : decode cX4_count 63 = .ok (.getfield 13, 3) := by decide +kernel
theorem dX4_count_66 : decode cX4_count 66 = .ok (.bipush 24, 2) := by decide +kernel
theorem dX4_count_68 : decode cX4_count 68 = .ok (.laload, 1) := by decide +kernel
theorem dX4_count_69 : decode cX4_count 69 = .ok (.l2i, 1) := by decide +kernel
theorem dX4_count_70 : decode cX4_count 70 = .ok (.ireturn, 1) := by decide +kernel
theorem dX4_count_71 : decode cX4_count 71 = .ok (.aload_n 0, 1) := by decide +kernel
theorem dX4_count_72 : decode cX4_count 72 = .ok (.getfield 13, 3) := by decide +kernel
theorem dX4_count_75 : decode cX4_count 75 = .ok (.bipush 26, 2) := by decide +kernel
theorem dX4_count_77 : decode cX4_count 77 = .ok (.laload, 1) := by decide +kernel
theorem dX4_count_78 : decode cX4_count 78 = .ok (.l2i, 1) := by decide +kernel
theorem dX4_count_79 : decode cX4_count 79 = .ok (.ireturn, 1) := by decide +kernel
theorem dX4_count_80 : decode cX4_count 80 = .ok (.aload_n 0, 1) := by decide +kernel
theorem dX4_count_81 : decode cX4_count 81 = .ok (.getfield 52, 3) := by decide +kernel
theorem dX4_count_84 : decode cX4_count 84 = .ok (.ireturn, 1) := by decide +kernel
theorem dX4_count_85 : decode cX4_count 85 = .ok (.iconst (-1), 1) := by decide +kernel
theorem dX4_count_86 : decode cX4_count 86 = .ok (.ireturn, 1) := by decide +kernel
theorem dJ6_compare_7cf53_0 : decode cJ6_compare_7cf53 0 = .ok (.iload_n 0, 1) := by decide +kernel
theorem dJ6_compare_7cf53_1 : decode cJ6_compare_7cf53 1 = .ok (.iload_n 1, 1) := by decide +kernel
theorem dJ6_compare_7cf53_2 : decode cJ6_compare_7cf53 2 = .ok (.if_icmp .ge 7, 3) := by decide +kernel
theorem dJ6_compare_7cf53_5 : decode cJ6_compare_7cf53 5 = .ok (.iconst (-1), 1) := by decide +kernel
theorem dJ6_compare_7cf53_6 : decode cJ6_compare_7cf53 6 = .ok (.goto 13, 3) := by decide +kernel
theorem dJ6_compare_7cf53_9 : decode cJ6_compare_7cf53 9 = .ok (.iload_n 0, 1) := by decide +kernel
theorem dJ6_compare_7cf53_10 : decode cJ6_compare_7cf53 10 = .ok (.iload_n 1, 1) := by decide +kernel
theorem dJ6_compare_7cf53_11 : decode cJ6_compare_7cf53 11 = .ok (.if_icmp .ne 7, 3) := by decide +kernel
theorem dJ6_compare_7cf53_14 : decode cJ6_compare_7cf53 14 = .ok (.iconst 0, 1) := by decide +kernel
theorem dJ6_compare_7cf53_15 : decode cJ6_compare_7cf53 15 = .ok (.goto 4, 3) := by decide +kernel
theorem dJ6_compare_7cf53_18 : decode cJ6_compare_7cf53 18 = .ok (.iconst 1, 1) := by decide +kernel
theorem dJ6_compare_7cf53_19 : decode cJ6_compare_7cf53 19 = .ok (.ireturn, 1) := by decide +kernel
theorem dJ9_max_7cf53_0 : decode cJ9_max_7cf53 0 = .ok (.iload_n 0, 1) := by decide +kernel
theorem dJ9_max_7cf53_1 : decode cJ9_max_7cf53 1 = .ok (.iload_n 1, 1) := by decide +kernel
theorem dJ9_max_7cf53_2 : decode cJ9_max_7cf53 2 = .ok (.if_icmp .lt 7, 3) := by decide +kernel
theorem dJ9_max_7cf53_5 : decode cJ9_max_7cf53 5 = .ok (.iload_n 0, 1) := by decide +kernel
theorem dJ9_max_7cf53_6 : decode cJ9_max_7cf53 6 = .ok (.goto 4, 3) := by decide +kernel
theorem dJ9_max_7cf53_9 : decode cJ9_max_7cf53 9 = .ok (.iload_n 1, 1) := by decide +kernel
theorem dJ9_max_7cf53_10 : decode cJ9_max_7cf53 10 = .ok (.ireturn, 1) := by decide +kernel
theorem dJ9_max_f86c9_0 : decode cJ9_max_f86c9 0 = .ok (.lload_n 0, 1) := by decide +kernel
theorem dJ9_max_f86c9_1 : decode cJ9_max_f86c9 1 = .ok (.lload_n 2, 1) := by decide +kernel
theorem dJ9_max_f86c9_2 : decode cJ9_max_f86c9 2 = .ok (.lcmp, 1) := by decide +kernel
theorem dJ9_max_f86c9_3 : decode cJ9_max_f86c9 3 = .ok (.ifCond .lt 7, 3) := by decide +kernel
theorem dJ9_max_f86c9_6 : decode cJ9_max_f86c9 6 = .ok (.lload_n 0, 1) := by decide +kernel
theorem dJ9_max_f86c9_7 : decode cJ9_max_f86c9 7 = .ok (.goto 4, 3) := by decide +kernel
theorem dJ9_max_f86c9_10 : decode cJ9_max_f86c9 10 = .ok (.lload_n 2, 1) := by decide +kernel
theorem dJ9_max_f86c9_11 : decode cJ9_max_f86c9 11 = .ok (.lreturn, 1) := by decide +kernel
theorem dJ9_min_7cf53_0 : decode cJ9_min_7cf53 0 = .ok (.iload_n 0, 1) := by decide +kernel
theorem dJ9_min_7cf53_1 : decode cJ9_min_7cf53 1 = .ok (.iload_n 1, 1) := by decide +kernel
theorem dJ9_min_7cf53_2 : decode cJ9_min_7cf53 2 = .ok (.if_icmp .gt 7, 3) := by decide +kernel
theorem dJ9_min_7cf53_5 : decode cJ9_min_7cf53 5 = .ok (.iload_n 0, 1) := by decide +kernel
theorem dJ9_min_7cf53_6 : decode cJ9_min_7cf53 6 = .ok (.goto 4, 3) := by decide +kernel
theorem dJ9_min_7cf53_9 : decode cJ9_min_7cf53 9 = .ok (.iload_n 1, 1) := by decide +kernel
theorem dJ9_min_7cf53_10 : decode cJ9_min_7cf53 10 = .ok (.ireturn, 1) := by decide +kernel
theorem dJ9_min_f86c9_0 : decode cJ9_min_f86c9 0 = .ok (.lload_n 0, 1) := by decide +kernel
theorem dJ9_min_f86c9_1 : decode cJ9_min_f86c9 1 = .ok (.lload_n 2, 1) := by decide +kernel
theorem dJ9_min_f86c9_2 : decode cJ9_min_f86c9 2 = .ok (.lcmp, 1) := by decide +kernel
theorem dJ9_min_f86c9_3 : decode cJ9_min_f86c9 3 = .ok (.ifCond .gt 7, 3) := by decide +kernel
theorem dJ9_min_f86c9_6 : decode cJ9_min_f86c9 6 = .ok (.lload_n 0, 1) := by decide +kernel
theorem dJ9_min_f86c9_7 : decode cJ9_min_f86c9 7 = .ok (.goto 4, 3) := by decide +kernel
theorem dJ9_min_f86c9_10 : decode cJ9_min_f86c9 10 = .ok (.lload_n 2, 1) := by decide +kernel
theorem dJ9_min_f86c9_11 : decode cJ9_min_f86c9 11 = .ok (.lreturn, 1) := by decide +kernel
set_option maxRecDepth 20000 in
theorem ggL_mark_X3_mark : GoodIn wsL_mark wsX3_mark := goodIn_ca (goodIn_r _ [6, 7, 8, 9, 10, 11, 5, 12, 13, 14, 15, 16, 17, 18, 19, 20, 21, 22, 23, 24, 25, 26, 27, 28, 29, 30, 31, 32, 33, 34, 35, 36, 37, 38, 39, 40, 41, 42, 43, 44, 45, 46, 47] (by decide +kernel) (by decide +kernel)) (goodIn_sub (fun _ h => List.mem_cons_of_mem _ (List.mem_append_right _ h)) (by decide +kernel))
set_option maxRecDepth 20000 in
theorem gL_mark_X3_mark : GoodIn wsL_mark (wsV RL 7 RX3 yX3_mark wsX3_mark) := goodIn_app (goodIn_of _ (by decide +kernel)) ggL_mark_X3_mark
theorem dL_mark_0 : decode cL_mark 0 = .ok (.aload_n 3, 1) := by decide +kernel
theorem dL_mark_1 : decode cL_mark 1 = .ok (.iconst 0, 1) := by decide +kernel
theorem dL_mark_2 : decode cL_mark 2 = .ok (.aload_n 0, 1) := by decide +kernel
theorem dL_mark_3 : decode cL_mark 3 = .ok (.iload_n 1, 1) := by decide +kernel
theorem dL_mark_4 : decode cL_mark 4 = .ok (.iload_n 2, 1) := by decide +kernel
theorem dL_mark_5 : decode cL_mark 5 = .ok (.invokevirtual 7, 3) := by decide +kernel
theorem dL_mark_8 : decode cL_mark 8 = .ok (.lastore, 1) := by decide +kernel
theorem dL_mark_9 : decode cL_mark 9 = .ok (.goto 7, 3) := by decide +kernel
theorem dL_mark_12 : decode cL_mark 12 = .ok (.astore 4, 2) := by decide +kernel
theorem dL_mark_14 : decode cL_mark 14 = .ok (.iconst 1, 1) := by decide +kernel
theorem dL_mark_15 : decode cL_mark 15 = .ok (.ireturn, 1) := by decide +kernel
theorem dL_mark_16 : decode cL_mark 16 = .ok (.iconst 0, 1) := by decide +kernel
theorem dL_mark_17 : decode cL_mark 17 = .ok (.ireturn, 1) := by decide +kernel
set_option maxRecDepth 20000 in
theorem ggL_metres_X3_metres : GoodIn wsL_metres wsX3_metres := goodIn_ca (goodIn_r _ [6, 7, 8, 9, 10, 11, 5, 12, 13, 14, 15, 16, 17, 18, 19, 20, 21, 22, 23, 24, 25, 26, 27, 28, 29, 30, 31, 32, 33, 34, 35, 36, 37, 38, 39, 40, 41, 42, 43, 44, 45, 46, 47, 48, 49, 50, 51, 52, 53] (by decide +kernel) (by decide +kernel)) (goodIn_sub (fun _ h => List.mem_cons_of_mem _ (List.mem_append_right _ h)) (by decide +kernel))
set_option maxRecDepth 20000 in
theorem gL_metres_X3_metres : GoodIn wsL_metres (wsV RL 15 RX3 yX3_metres wsX3_metres) := goodIn_app (goodIn_of _ (by decide +kernel)) ggL_metres_X3_metres
theorem dL_metres_0 : decode cL_metres 0 = .ok (.aload_n 3, 1) := by decide +kernel
theorem dL_metres_1 : decode cL_metres 1 = .ok (.iconst 0, 1) := by decide +kernel
theorem dL_metres_2 : decode cL_metres 2 = .ok (.aload_n 0, 1) := by decide +kernel
theorem dL_metres_3 : decode cL_metres 3 = .ok (.iload_n 1, 1) := by decide +kernel
theorem dL_metres_4 : decode cL_metres 4 = .ok (.iload_n 2, 1) := by decide +kernel
theorem dL_metres_5 : decode cL_metres 5 = .ok (.invokevirtual 15, 3) := by decide +kernel
theorem dL_metres_8 : decode cL_metres 8 = .ok (.lastore, 1) := by decide +kernel
theorem dL_metres_9 : decode cL_metres 9 = .ok (.goto 7, 3) := by decide +kernel
theorem dL_metres_12 : decode cL_metres 12 = .ok (.astore 4, 2) := by decide +kernel
theorem dL_metres_14 : decode cL_metres 14 = .ok (.iconst 1, 1) := by decide +kernel
theorem dL_metres_15 : decode cL_metres 15 = .ok (.ireturn, 1) := by decide +kernel
theorem dL_metres_16 : decode cL_metres 16 = .ok (.iconst 0, 1) := by decide +kernel
theorem dL_metres_17 : decode cL_metres 17 = .ok (.ireturn, 1) := by decide +kernel
set_option maxRecDepth 20000 in
theorem ggL_average_X3_average : GoodIn wsL_average wsX3_average := goodIn_ca (goodIn_r _ [6, 7, 8, 9, 10, 11, 12, 5, 13, 14, 15, 16, 17, 18, 19, 20, 21, 22, 23, 24, 25, 26, 27, 28, 29, 30, 31, 32, 33, 34, 35, 36, 37, 38, 39, 40, 41, 42, 43, 44, 45, 46, 47, 48, 49, 50, 51, 52, 53, 54, 55, 56] (by decide +kernel) (by decide +kernel)) (goodIn_sub (fun _ h => List.mem_cons_of_mem _ (List.mem_append_right _ h)) (by decide +kernel))
set_option maxRecDepth 20000 in
theorem gL_average_X3_average : GoodIn wsL_average (wsV RL 19 RX3 yX3_average wsX3_average) := goodIn_app (goodIn_of _ (by decide +kernel)) ggL_average_X3_average
theorem dL_average_0 : decode cL_average 0 = .ok (.aload 4, 2) := by decide +kernel
theorem dL_average_2 : decode cL_average 2 = .ok (.iconst 0, 1) := by decide +kernel
theorem dL_average_3 : decode cL_average 3 = .ok (.aload_n 0, 1) := by decide +kernel
theorem dL_average_4 : decode cL_average 4 = .ok (.iload_n 1, 1) := by decide +kernel
theorem dL_average_5 : decode cL_average 5 = .ok (.iload_n 2, 1) := by decide +kernel
theorem dL_average_6 : decode cL_average 6 = .ok (.iload_n 3, 1) := by decide +kernel
theorem dL_average_7 : decode cL_average 7 = .ok (.invokevirtual 19, 3) := by decide +kernel
theorem dL_average_10 : decode cL_average 10 = .ok (.lastore, 1) := by decide +kernel
theorem dL_average_11 : decode cL_average 11 = .ok (.goto 7, 3) := by decide +kernel
theorem dL_average_14 : decode cL_average 14 = .ok (.astore 5, 2) := by decide +kernel
theorem dL_average_16 : decode cL_average 16 = .ok (.iconst 1, 1) := by decide +kernel
theorem dL_average_17 : decode cL_average 17 = .ok (.ireturn, 1) := by decide +kernel
theorem dL_average_18 : decode cL_average 18 = .ok (.iconst 0, 1) := by decide +kernel
theorem dL_average_19 : decode cL_average 19 = .ok (.ireturn, 1) := by decide +kernel
set_option maxRecDepth 20000 in
theorem ggL_refill_X3_refill : GoodIn wsL_refill wsX3_refill := goodIn_ca (goodIn_r _ [6, 7, 8, 9, 10, 11, 12, 13, 14, 15, 16, 17, 18, 19, 20, 21, 22, 23, 24, 25, 26, 27, 28, 29, 30, 31, 32, 33, 34, 35, 36, 37, 38, 39, 40, 41, 42, 43, 44, 45, 46] (by decide +kernel) (by decide +kernel)) (goodIn_sub (fun _ h => List.mem_cons_of_mem _ (List.mem_append_right _ h)) (by decide +kernel))
set_option maxRecDepth 20000 in
theorem gL_refill_X3_refill : GoodIn wsL_refill (wsV RL 23 RX3 yX3_refill wsX3_refill) := goodIn_app (goodIn_of _ (by decide +kernel)) ggL_refill_X3_refill
theorem dL_refill_0 : decode cL_refill 0 = .ok (.aload_n 3, 1) := by decide +kernel
theorem dL_refill_1 : decode cL_refill 1 = .ok (.iconst 0, 1) := by decide +kernel
theorem dL_refill_2 : decode cL_refill 2 = .ok (.aload_n 0, 1) := by decide +kernel
theorem dL_refill_3 : decode cL_refill 3 = .ok (.iload_n 1, 1) := by decide +kernel
theorem dL_refill_4 : decode cL_refill 4 = .ok (.iload_n 2, 1) := by decide +kernel
theorem dL_refill_5 : decode cL_refill 5 = .ok (.invokevirtual 23, 3) := by decide +kernel
theorem dL_refill_8 : decode cL_refill 8 = .ok (.i2l, 1) := by decide +kernel
theorem dL_refill_9 : decode cL_refill 9 = .ok (.lastore, 1) := by decide +kernel
theorem dL_refill_10 : decode cL_refill 10 = .ok (.goto 7, 3) := by decide +kernel
theorem dL_refill_13 : decode cL_refill 13 = .ok (.astore 4, 2) := by decide +kernel
theorem dL_refill_15 : decode cL_refill 15 = .ok (.iconst 1, 1) := by decide +kernel
theorem dL_refill_16 : decode cL_refill 16 = .ok (.ireturn, 1) := by decide +kernel
end
section
theorem dL_refill_17 : decode cL_refill 17 = .ok (.iconst 0, 1) := by decide +kernel
theorem dL_refill_18 : decode cL_refill 18 = .ok (.ireturn, 1) := by decide +kernel
set_option maxRecDepth 20000 in
theorem ggL_law_X3_init : GoodIn wsL_law wsX3_init := goodIn_r _ [9, 10, 11, 12, 13, 14, 15, 16, 17, 18, 19, 20, 21, 22, 23, 24, 25, 26, 27, 28, 29, 30, 31, 32, 33, 34, 35, 36, 37, 6, 38, 39, 40, 41, 42, 43, 44, 45, 46, 47, 48, 49, 50, 51, 52, 53, 54, 55, 56, 57, 58, 59, 60, 61, 62, 63, 64, 65, 66, 67, 68, 69, 70, 71, 523, 524, 525, 526, 527, 528, 529, 530, 531, 532, 533, 534, 535, 536, 537, 494, 495, 496, 497, 498, 499, 500, 501, 502, 503, 504, 505, 538, 539, 540, 541, 542, 543, 544, 545, 546] (by decide +kernel) (by decide +kernel)
set_option maxRecDepth 20000 in
theorem gL_law_X3_init : GoodIn wsL_law (wsX3_init) := ggL_law_X3_init
set_option maxRecDepth 20000 in
theorem ggL_law_X4_init : GoodIn wsL_law wsX4_init := goodIn_r _ [74, 75, 11, 12, 39, 76, 6, 77, 78, 79, 80, 81, 82, 83, 84, 85, 86, 87, 88, 506, 507, 508, 509, 510, 511, 512, 513, 514, 515, 516, 517, 518, 519, 520, 521, 522] (by decide +kernel) (by decide +kernel)
set_option maxRecDepth 20000 in
theorem gL_law_X4_init : GoodIn wsL_law (wsX4_init) := ggL_law_X4_init
set_option maxRecDepth 20000 in
theorem ggL_law_X3_feed : GoodIn wsL_law wsX3_feed := goodIn_r _ [92, 21, 93, 20, 94, 95, 46, 96, 97, 98, 45, 494, 495, 496, 497, 498, 499, 500, 501, 502, 503, 504, 505, 538, 539] (by decide +kernel) (by decide +kernel)
set_option maxRecDepth 20000 in
theorem gL_law_X3_feed : GoodIn wsL_law (wsV RL 31 RX3 yX3_feed wsX3_feed) := goodIn_app (goodIn_of _ (by decide +kernel)) ggL_law_X3_feed
set_option maxRecDepth 20000 in
theorem ggL_law_X4_feed : GoodIn wsL_law wsX4_feed := goodIn_r _ [102, 103, 104, 105, 106, 107, 5, 108, 76, 506, 507, 508, 509, 510, 511, 512, 513, 514, 515, 516, 517, 518, 519, 520, 521, 522] (by decide +kernel) (by decide +kernel)
set_option maxRecDepth 20000 in
theorem gL_law_X4_feed : GoodIn wsL_law (wsV RL 35 RX4 yX4_feed wsX4_feed) := goodIn_app (goodIn_of _ (by decide +kernel)) ggL_law_X4_feed
set_option maxRecDepth 20000 in
theorem ggL_law_X3_end : GoodIn wsL_law wsX3_end := goodIn_r _ [112, 21, 113, 20, 114, 115, 46, 494, 495, 496, 497, 498, 499, 500, 501, 502, 503, 504, 505, 538, 539] (by decide +kernel) (by decide +kernel)
set_option maxRecDepth 20000 in
theorem gL_law_X3_end : GoodIn wsL_law (wsV RL 36 RX3 yX3_end wsX3_end) := goodIn_app (goodIn_of _ (by decide +kernel)) ggL_law_X3_end
set_option maxRecDepth 20000 in
theorem ggL_law_X4_end : GoodIn wsL_law wsX4_end := goodIn_r _ [119, 103, 104, 506, 507, 508, 509, 510, 511, 512, 513, 514, 515, 516, 517, 518, 519, 520, 521, 522] (by decide +kernel) (by decide +kernel)
set_option maxRecDepth 20000 in
theorem gL_law_X4_end : GoodIn wsL_law (wsV RL 40 RX4 yX4_end wsX4_end) := goodIn_app (goodIn_of _ (by decide +kernel)) ggL_law_X4_end
set_option maxRecDepth 20000 in
theorem ggL_law_X3_car : GoodIn wsL_law wsX3_car := goodIn_r _ [123, 124, 27, 28, 29, 34, 16, 17, 125, 126, 2, 127, 57, 15, 58, 59, 60, 61, 62, 63, 64, 65, 66, 67, 68, 69, 70, 71, 38, 494, 495, 496, 497, 498, 499, 500, 501, 502, 503, 504, 505, 523, 524, 525, 526, 527, 528, 529, 530, 531, 532, 533, 534, 535, 536, 537] (by decide +kernel) (by decide +kernel)
set_option maxRecDepth 20000 in
theorem gL_law_X3_car : GoodIn wsL_law (wsV RL 41 RX3 yX3_car wsX3_car) := goodIn_app (goodIn_of _ (by decide +kernel)) ggL_law_X3_car
set_option maxRecDepth 20000 in
theorem ggL_law_X4_car : GoodIn wsL_law wsX4_car := goodIn_r _ [131, 103, 132, 80, 81, 82, 133, 134, 135, 5, 136, 137, 138, 139, 140, 77, 141, 142, 143, 144, 145, 78, 506, 507, 508, 509, 510, 511, 512, 513, 514, 515, 516, 517, 518, 519, 520, 521, 522] (by decide +kernel) (by decide +kernel)
set_option maxRecDepth 20000 in
theorem gL_law_X4_car : GoodIn wsL_law (wsV RL 45 RX4 yX4_car wsX4_car) := goodIn_app (goodIn_of _ (by decide +kernel)) ggL_law_X4_car
set_option maxRecDepth 20000 in
theorem ggL_law_X3_bounds : GoodIn wsL_law wsX3_bounds := goodIn_r _ [149, 30, 31, 32, 33, 150, 151, 2, 152, 125, 126, 127, 494, 495, 496, 497, 498, 499, 500, 501, 502, 503, 504, 505] (by decide +kernel) (by decide +kernel)
set_option maxRecDepth 20000 in
theorem gL_law_X3_bounds : GoodIn wsL_law (wsV RL 46 RX3 yX3_bounds wsX3_bounds) := goodIn_app (goodIn_of _ (by decide +kernel)) ggL_law_X3_bounds
set_option maxRecDepth 20000 in
theorem ggL_law_X4_bounds : GoodIn wsL_law wsX4_bounds := goodIn_r _ [156, 103, 83, 84, 85, 86, 134, 135, 5, 136, 506, 507, 508, 509, 510, 511, 512, 513, 514, 515, 516, 517, 518, 519, 520, 521, 522] (by decide +kernel) (by decide +kernel)
set_option maxRecDepth 20000 in
theorem gL_law_X4_bounds : GoodIn wsL_law (wsV RL 50 RX4 yX4_bounds wsX4_bounds) := goodIn_app (goodIn_of _ (by decide +kernel)) ggL_law_X4_bounds
set_option maxRecDepth 20000 in
theorem ggL_law_X3_drive : GoodIn wsL_law wsX3_drive := goodIn_r _ [160, 161, 34, 162, 16, 125, 126, 2, 127, 163, 15, 164, 165, 38, 166, 167, 168, 169, 170, 61, 64, 67, 60, 171, 172, 173, 174, 175, 176, 177, 66, 178, 179, 180, 181, 182, 183, 184, 185, 494, 495, 496, 497, 498, 499, 500, 501, 502, 503, 504, 505, 523, 524, 525, 526, 527, 528, 529, 530, 531, 532, 533, 534, 535, 536, 537] (by decide +kernel) (by decide +kernel)
set_option maxRecDepth 20000 in
theorem gL_law_X3_drive : GoodIn wsL_law (wsV RL 51 RX3 yX3_drive wsX3_drive) := goodIn_app (goodIn_of _ (by decide +kernel)) ggL_law_X3_drive
set_option maxRecDepth 20000 in
theorem ggL_law_X4_drive : GoodIn wsL_law wsX4_drive := goodIn_r _ [189, 103, 190, 141, 191, 77, 137, 138, 139, 5, 140, 133, 80, 142, 143, 144, 145, 78, 134, 135, 136, 192, 193, 194, 195, 196, 197, 198, 199, 200, 201, 202, 203, 204, 205, 206, 207, 506, 507, 508, 509, 510, 511, 512, 513, 514, 515, 516, 517, 518, 519, 520, 521, 522] (by decide +kernel) (by decide +kernel)
set_option maxRecDepth 20000 in
theorem gL_law_X4_drive : GoodIn wsL_law (wsV RL 54 RX4 yX4_drive wsX4_drive) := goodIn_app (goodIn_of _ (by decide +kernel)) ggL_law_X4_drive
set_option maxRecDepth 20000 in
theorem ggL_law_X3_gap : GoodIn wsL_law wsX3_gap := goodIn_r _ [211, 212, 213, 214, 2, 215, 216, 34, 30, 162, 125, 126, 127, 217, 218, 219, 220, 31, 16, 163, 15, 164, 165, 38, 166, 167, 221, 222, 223, 60, 171, 172, 173, 174, 175, 176, 177, 66, 178, 179, 180, 181, 61, 182, 183, 184, 185, 494, 495, 496, 497, 498, 499, 500, 501, 502, 503, 504, 505, 523, 524, 525, 526, 527, 528, 529, 530, 531, 532, 533, 534, 535, 536, 537] (by decide +kernel) (by decide +kernel)
set_option maxRecDepth 20000 in
theorem gL_law_X3_gap : GoodIn wsL_law (wsV RL 55 RX3 yX3_gap wsX3_gap) := goodIn_app (goodIn_of _ (by decide +kernel)) ggL_law_X3_gap
set_option maxRecDepth 20000 in
theorem ggL_law_X4_gap : GoodIn wsL_law wsX4_gap := goodIn_r _ [227, 103, 137, 138, 139, 5, 140, 133, 77, 80, 141, 142, 143, 144, 145, 78, 228, 229, 230, 231, 232, 83, 191, 134, 135, 136, 233, 234, 235, 236, 84, 192, 193, 194, 195, 196, 197, 198, 199, 200, 201, 202, 203, 204, 205, 206, 207, 506, 507, 508, 509, 510, 511, 512, 513, 514, 515, 516, 517, 518, 519, 520, 521, 522] (by decide +kernel) (by decide +kernel)
set_option maxRecDepth 20000 in
theorem gL_law_X4_gap : GoodIn wsL_law (wsV RL 58 RX4 yX4_gap wsX4_gap) := goodIn_app (goodIn_of _ (by decide +kernel)) ggL_law_X4_gap
set_option maxRecDepth 20000 in
theorem ggL_law_X3_tells : GoodIn wsL_law wsX3_tells := goodIn_r _ [240, 27, 29, 241, 172, 173, 174, 242, 243, 244, 16, 125, 126, 2, 127, 245, 15, 246, 247, 62, 40, 61, 41, 60, 67, 248, 249, 166, 167, 68, 69, 70, 71, 38, 250, 251, 252, 253, 66, 65, 178, 179, 180, 181, 254, 255, 256, 63, 257, 258, 259, 171, 260, 261, 262, 263, 264, 265, 266, 267, 268, 269, 270, 271, 175, 176, 177, 182, 183, 184, 185, 494, 495, 496, 497, 498, 499, 500, 501, 502, 503, 504, 505, 523, 524, 525, 526, 527, 528, 529, 530, 531, 532, 533, 534, 535, 536, 537] (by decide +kernel) (by decide +kernel)
set_option maxRecDepth 20000 in
theorem gL_law_X3_tells : GoodIn wsL_law (wsV RL 59 RX3 yX3_tells wsX3_tells) := goodIn_app (goodIn_of _ (by decide +kernel)) ggL_law_X3_tells
set_option maxRecDepth 20000 in
theorem ggL_law_X4_tells : GoodIn wsL_law wsX4_tells := goodIn_r _ [275, 103, 82, 80, 276, 77, 137, 138, 139, 5, 140, 133, 141, 142, 143, 144, 145, 78, 134, 135, 136, 277, 278, 279, 280, 281, 282, 283, 284, 199, 200, 201, 202, 203, 204, 205, 206, 207, 285, 286, 287, 288, 289, 290, 291, 292, 506, 507, 508, 509, 510, 511, 512, 513, 514, 515, 516, 517, 518, 519, 520, 521, 522] (by decide +kernel) (by decide +kernel)
set_option maxRecDepth 20000 in
theorem gL_law_X4_tells : GoodIn wsL_law (wsV RL 63 RX4 yX4_tells wsX4_tells) := goodIn_app (goodIn_of _ (by decide +kernel)) ggL_law_X4_tells
set_option maxRecDepth 20000 in
theorem ggL_law_X3_set : GoodIn wsL_law wsX3_set := goodIn_r _ [296, 16, 297, 298, 2, 299, 125, 126, 127, 69, 15, 70, 71, 38, 494, 495, 496, 497, 498, 499, 500, 501, 502, 503, 504, 505, 523, 524, 525, 526, 527, 528, 529, 530, 531, 532, 533, 534, 535, 536, 537] (by decide +kernel) (by decide +kernel)
set_option maxRecDepth 20000 in
theorem gL_law_X3_set : GoodIn wsL_law (wsV RL 64 RX3 yX3_set wsX3_set) := goodIn_app (goodIn_of _ (by decide +kernel)) ggL_law_X3_set
set_option maxRecDepth 20000 in
theorem ggL_law_X4_set : GoodIn wsL_law wsX4_set := goodIn_r _ [303, 103, 137, 138, 139, 5, 140, 133, 77, 80, 141, 142, 143, 144, 145, 78, 285, 286, 287, 288, 506, 507, 508, 509, 510, 511, 512, 513, 514, 515, 516, 517, 518, 519, 520, 521, 522] (by decide +kernel) (by decide +kernel)
set_option maxRecDepth 20000 in
theorem gL_law_X4_set : GoodIn wsL_law (wsV RL 67 RX4 yX4_set wsX4_set) := goodIn_app (goodIn_of _ (by decide +kernel)) ggL_law_X4_set
set_option maxRecDepth 20000 in
theorem ggL_law_X3_keep : GoodIn wsL_law wsX3_keep := goodIn_r _ [307, 17, 16, 308, 15, 309, 310, 60, 61, 62, 63, 64, 65, 66, 67, 248, 249, 166, 167, 38, 311, 312, 313, 314, 40, 41, 494, 495, 496, 497, 498, 499, 500, 501, 502, 503, 504, 505, 523, 524, 525, 526, 527, 528, 529, 530, 531, 532, 533, 534, 535, 536, 537] (by decide +kernel) (by decide +kernel)
set_option maxRecDepth 20000 in
theorem gL_law_X3_keep : GoodIn wsL_law (wsV RL 68 RX3 yX3_keep wsX3_keep) := goodIn_app (goodIn_of _ (by decide +kernel)) ggL_law_X3_keep
set_option maxRecDepth 20000 in
theorem ggL_law_X4_keep : GoodIn wsL_law wsX4_keep := goodIn_r _ [318, 103, 137, 138, 139, 5, 140, 133, 77, 80, 141, 142, 143, 144, 145, 78, 506, 507, 508, 509, 510, 511, 512, 513, 514, 515, 516, 517, 518, 519, 520, 521, 522] (by decide +kernel) (by decide +kernel)
set_option maxRecDepth 20000 in
theorem gL_law_X4_keep : GoodIn wsL_law (wsV RL 71 RX4 yX4_keep wsX4_keep) := goodIn_app (goodIn_of _ (by decide +kernel)) ggL_law_X4_keep
set_option maxRecDepth 20000 in
theorem ggL_law_X3_dead : GoodIn wsL_law wsX3_dead := goodIn_r _ [322, 16, 17, 212, 213, 214, 2, 215, 216, 34, 30, 162, 125, 126, 127, 308, 15, 309, 310, 60, 61, 62, 63, 64, 65, 66, 67, 248, 249, 166, 167, 38, 311, 312, 313, 314, 40, 41, 217, 218, 219, 220, 31, 163, 164, 165, 221, 222, 223, 171, 172, 173, 174, 175, 176, 177, 178, 179, 180, 181, 182, 183, 184, 185, 494, 495, 496, 497, 498, 499, 500, 501, 502, 503, 504, 505, 523, 524, 525, 526, 527, 528, 529, 530, 531, 532, 533, 534, 535, 536, 537] (by decide +kernel) (by decide +kernel)
set_option maxRecDepth 20000 in
theorem gL_law_X3_dead : GoodIn wsL_law (wsV RL 72 RX3 yX3_dead wsX3_dead) := goodIn_app (goodIn_of _ (by decide +kernel)) ggL_law_X3_dead
set_option maxRecDepth 20000 in
theorem ggL_law_X4_dead : GoodIn wsL_law wsX4_dead := goodIn_r _ [326, 103, 77, 78, 137, 138, 139, 5, 140, 133, 80, 141, 142, 143, 144, 145, 228, 229, 230, 231, 232, 83, 191, 134, 135, 136, 233, 234, 235, 236, 84, 192, 193, 194, 195, 196, 197, 198, 199, 200, 201, 202, 203, 204, 205, 206, 207, 506, 507, 508, 509, 510, 511, 512, 513, 514, 515, 516, 517, 518, 519, 520, 521, 522] (by decide +kernel) (by decide +kernel)
set_option maxRecDepth 20000 in
theorem gL_law_X4_dead : GoodIn wsL_law (wsV RL 75 RX4 yX4_dead wsX4_dead) := goodIn_app (goodIn_of _ (by decide +kernel)) ggL_law_X4_dead
set_option maxRecDepth 20000 in
theorem ggL_law_X3_span : GoodIn wsL_law wsX3_span := goodIn_r _ [330, 16, 494, 495, 496, 497, 498, 499, 500, 501, 502, 503, 504, 505, 523, 524, 525, 526, 527, 528, 529, 530, 531, 532, 533, 534, 535, 536, 537] (by decide +kernel) (by decide +kernel)
set_option maxRecDepth 20000 in
theorem gL_law_X3_span : GoodIn wsL_law (wsV RL 76 RX3 yX3_span wsX3_span) := goodIn_app (goodIn_of _ (by decide +kernel)) ggL_law_X3_span
set_option maxRecDepth 20000 in
theorem ggL_law_X4_span : GoodIn wsL_law wsX4_span := goodIn_r _ [334, 103, 77, 137, 138, 139, 5, 140, 133, 80, 141, 142, 143, 144, 145, 78, 506, 507, 508, 509, 510, 511, 512, 513, 514, 515, 516, 517, 518, 519, 520, 521, 522] (by decide +kernel) (by decide +kernel)
set_option maxRecDepth 20000 in
theorem gL_law_X4_span : GoodIn wsL_law (wsV RL 80 RX4 yX4_span wsX4_span) := goodIn_app (goodIn_of _ (by decide +kernel)) ggL_law_X4_span
set_option maxRecDepth 20000 in
theorem ggL_law_L_mark : GoodIn wsL_law wsL_mark := goodIn_ca (goodIn_r _ [338, 339, 340, 341, 342, 2, 343, 344, 345, 16, 297, 298, 299, 125, 126, 127, 346, 15, 347, 348, 38, 494, 495, 496, 497, 498, 499, 500, 501, 502, 503, 504, 505, 523, 524, 525, 526, 527, 528, 529, 530, 531, 532, 533, 534, 535, 536, 537] (by decide +kernel) (by decide +kernel)) (goodIn_sub (fun _ h => List.mem_append_right _ h) (by decide +kernel))
set_option maxRecDepth 20000 in
theorem gL_law_L_mark : GoodIn wsL_law (va_wsS RL 81 yL_mark wsL_mark) := goodIn_app (goodIn_of _ (by decide +kernel)) ggL_law_L_mark
set_option maxRecDepth 20000 in
theorem ggL_law_X4_mark : GoodIn wsL_law wsX4_mark := goodIn_r _ [352, 103, 77, 137, 138, 139, 5, 140, 133, 80, 141, 142, 143, 144, 145, 78, 353, 354, 355, 356, 357, 358, 359, 506, 507, 508, 509, 510, 511, 512, 513, 514, 515, 516, 517, 518, 519, 520, 521, 522] (by decide +kernel) (by decide +kernel)
set_option maxRecDepth 20000 in
theorem gL_law_X4_mark : GoodIn wsL_law (wsV RL 86 RX4 yX4_mark wsX4_mark) := goodIn_app (goodIn_of _ (by decide +kernel)) ggL_law_X4_mark
set_option maxRecDepth 20000 in
theorem ggL_law_X4_thrown : GoodIn wsL_law wsX4_thrown := goodIn_r _ [363, 103, 506, 507, 508, 509, 510, 511, 512, 513, 514, 515, 516, 517, 518, 519, 520, 521, 522] (by decide +kernel) (by decide +kernel)
set_option maxRecDepth 20000 in
theorem gL_law_X4_thrown : GoodIn wsL_law (wsV RL 87 RX4 yX4_thrown wsX4_thrown) := goodIn_app (goodIn_of _ (by decide +kernel)) ggL_law_X4_thrown
set_option maxRecDepth 20000 in
theorem ggL_law_L_metres : GoodIn wsL_law wsL_metres := goodIn_ca (goodIn_r _ [366, 339, 367, 368, 369, 2, 370, 344, 345, 371, 297, 298, 299, 125, 126, 127, 372, 373, 374, 375, 16, 28, 346, 15, 347, 348, 38, 494, 495, 496, 497, 498, 499, 500, 501, 502, 503, 504, 505, 523, 524, 525, 526, 527, 528, 529, 530, 531, 532, 533, 534, 535, 536, 537] (by decide +kernel) (by decide +kernel)) (goodIn_sub (fun _ h => List.mem_append_right _ h) (by decide +kernel))
set_option maxRecDepth 20000 in
theorem gL_law_L_metres : GoodIn wsL_law (va_wsS RL 91 yL_metres wsL_metres) := goodIn_app (goodIn_of _ (by decide +kernel)) ggL_law_L_metres
set_option maxRecDepth 20000 in
theorem ggL_law_X4_metres : GoodIn wsL_law wsX4_metres := goodIn_r _ [379, 103, 77, 81, 380, 137, 138, 139, 5, 140, 133, 80, 141, 142, 143, 144, 145, 78, 353, 354, 355, 356, 357, 358, 359, 506, 507, 508, 509, 510, 511, 512, 513, 514, 515, 516, 517, 518, 519, 520, 521, 522] (by decide +kernel) (by decide +kernel)
set_option maxRecDepth 20000 in
theorem gL_law_X4_metres : GoodIn wsL_law (wsV RL 94 RX4 yX4_metres wsX4_metres) := goodIn_app (goodIn_of _ (by decide +kernel)) ggL_law_X4_metres
set_option maxRecDepth 20000 in
theorem ggL_law_L_average : GoodIn wsL_law wsL_average := goodIn_ca (goodIn_r _ [383, 339, 384, 385, 386, 2, 387, 344, 345, 16, 388, 297, 298, 299, 125, 126, 127, 372, 373, 374, 375, 28, 346, 15, 347, 348, 38, 389, 390, 391, 494, 495, 496, 497, 498, 499, 500, 501, 502, 503, 504, 505, 523, 524, 525, 526, 527, 528, 529, 530, 531, 532, 533, 534, 535, 536, 537] (by decide +kernel) (by decide +kernel)) (goodIn_sub (fun _ h => List.mem_append_right _ h) (by decide +kernel))
set_option maxRecDepth 20000 in
theorem gL_law_L_average : GoodIn wsL_law (va_wsS RL 95 yL_average wsL_average) := goodIn_app (goodIn_of _ (by decide +kernel)) ggL_law_L_average
set_option maxRecDepth 20000 in
theorem ggL_law_X4_average : GoodIn wsL_law wsX4_average := goodIn_r _ [395, 77, 81, 103, 396, 137, 138, 139, 5, 140, 133, 80, 141, 142, 143, 144, 145, 78, 353, 354, 355, 356, 357, 358, 359, 397, 398, 399, 506, 507, 508, 509, 510, 511, 512, 513, 514, 515, 516, 517, 518, 519, 520, 521, 522] (by decide +kernel) (by decide +kernel)
set_option maxRecDepth 20000 in
theorem gL_law_X4_average : GoodIn wsL_law (wsV RL 98 RX4 yX4_average wsX4_average) := goodIn_app (goodIn_of _ (by decide +kernel)) ggL_law_X4_average
set_option maxRecDepth 20000 in
theorem ggL_law_X3_range : GoodIn wsL_law wsX3_range := goodIn_r _ [403, 16, 32, 33, 494, 495, 496, 497, 498, 499, 500, 501, 502, 503, 504, 505, 523, 524, 525, 526, 527, 528, 529, 530, 531, 532, 533, 534, 535, 536, 537] (by decide +kernel) (by decide +kernel)
set_option maxRecDepth 20000 in
theorem gL_law_X3_range : GoodIn wsL_law (wsV RL 99 RX3 yX3_range wsX3_range) := goodIn_app (goodIn_of _ (by decide +kernel)) ggL_law_X3_range
set_option maxRecDepth 20000 in
theorem ggL_law_X4_range : GoodIn wsL_law wsX4_range := goodIn_r _ [407, 103, 77, 85, 86, 137, 138, 139, 5, 140, 133, 80, 141, 142, 143, 144, 145, 78, 506, 507, 508, 509, 510, 511, 512, 513, 514, 515, 516, 517, 518, 519, 520, 521, 522] (by decide +kernel) (by decide +kernel)
set_option maxRecDepth 20000 in
theorem gL_law_X4_range : GoodIn wsL_law (wsV RL 102 RX4 yX4_range wsX4_range) := goodIn_app (goodIn_of _ (by decide +kernel)) ggL_law_X4_range
set_option maxRecDepth 20000 in
theorem ggL_law_X3_shown : GoodIn wsL_law wsX3_shown := goodIn_r _ [411, 16, 494, 495, 496, 497, 498, 499, 500, 501, 502, 503, 504, 505, 523, 524, 525, 526, 527, 528, 529, 530, 531, 532, 533, 534, 535, 536, 537] (by decide +kernel) (by decide +kernel)
set_option maxRecDepth 20000 in
theorem gL_law_X3_shown : GoodIn wsL_law (wsV RL 103 RX3 yX3_shown wsX3_shown) := goodIn_app (goodIn_of _ (by decide +kernel)) ggL_law_X3_shown
set_option maxRecDepth 20000 in
theorem ggL_law_X4_shown : GoodIn wsL_law wsX4_shown := goodIn_r _ [415, 103, 77, 137, 138, 139, 5, 140, 133, 80, 141, 142, 143, 144, 145, 78, 506, 507, 508, 509, 510, 511, 512, 513, 514, 515, 516, 517, 518, 519, 520, 521, 522] (by decide +kernel) (by decide +kernel)
set_option maxRecDepth 20000 in
theorem gL_law_X4_shown : GoodIn wsL_law (wsV RL 106 RX4 yX4_shown wsX4_shown) := goodIn_app (goodIn_of _ (by decide +kernel)) ggL_law_X4_shown
set_option maxRecDepth 20000 in
theorem ggL_law_L_refill : GoodIn wsL_law wsL_refill := goodIn_ca (goodIn_r _ [418, 339, 419, 420, 421, 2, 422, 344, 345, 16, 423, 15, 424, 425, 62, 426, 427, 428, 41, 40, 494, 495, 496, 497, 498, 499, 500, 501, 502, 503, 504, 505, 523, 524, 525, 526, 527, 528, 529, 530, 531, 532, 533, 534, 535, 536, 537] (by decide +kernel) (by decide +kernel)) (goodIn_sub (fun _ h => List.mem_append_right _ h) (by decide +kernel))
set_option maxRecDepth 20000 in
theorem gL_law_L_refill : GoodIn wsL_law (va_wsS RL 107 yL_refill wsL_refill) := goodIn_app (goodIn_of _ (by decide +kernel)) ggL_law_L_refill
set_option maxRecDepth 20000 in
theorem ggL_law_X4_refill : GoodIn wsL_law wsX4_refill := goodIn_r _ [432, 77, 284, 103, 137, 138, 139, 5, 140, 133, 80, 141, 142, 143, 144, 145, 78, 356, 357, 358, 359, 281, 282, 283, 506, 507, 508, 509, 510, 511, 512, 513, 514, 515, 516, 517, 518, 519, 520, 521, 522] (by decide +kernel) (by decide +kernel)
set_option maxRecDepth 20000 in
theorem gL_law_X4_refill : GoodIn wsL_law (wsV RL 109 RX4 yX4_refill wsX4_refill) := goodIn_app (goodIn_of _ (by decide +kernel)) ggL_law_X4_refill
set_option maxRecDepth 20000 in
theorem ggL_law_X3_plan : GoodIn wsL_law wsX3_plan := goodIn_r _ [436, 25, 21, 33, 16, 27, 437, 24, 438, 439, 55, 50, 51, 113, 20, 114, 115, 46, 440, 441, 442, 443, 243, 173, 244, 52, 444, 445, 446, 447, 448, 449, 450, 451, 452, 53, 453, 454, 455, 456, 54, 56, 494, 495, 496, 497, 498, 499, 500, 501, 502, 503, 504, 505, 523, 524, 525, 526, 527, 528, 529, 530, 531, 532, 533, 534, 535, 536, 537, 538, 539, 540, 541, 542, 543, 544, 545, 546] (by decide +kernel) (by decide +kernel)
set_option maxRecDepth 20000 in
theorem gL_law_X3_plan : GoodIn wsL_law (wsV RL 110 RX3 yX3_plan wsX3_plan) := goodIn_app (goodIn_of _ (by decide +kernel)) ggL_law_X3_plan
set_option maxRecDepth 20000 in
theorem ggL_law_X4_plan : GoodIn wsL_law wsX4_plan := goodIn_r _ [460, 103, 104, 76, 80, 77, 461, 87, 462, 88, 137, 138, 139, 5, 140, 133, 141, 142, 143, 144, 145, 78, 463, 464, 465, 466, 467, 468, 469, 470, 86, 471, 472, 473, 474, 506, 507, 508, 509, 510, 511, 512, 513, 514, 515, 516, 517, 518, 519, 520, 521, 522] (by decide +kernel) (by decide +kernel)
set_option maxRecDepth 20000 in
theorem gL_law_X4_plan : GoodIn wsL_law (wsV RL 113 RX4 yX4_plan wsX4_plan) := goodIn_app (goodIn_of _ (by decide +kernel)) ggL_law_X4_plan
set_option maxRecDepth 20000 in
theorem ggL_law_X3_buys : GoodIn wsL_law wsX3_buys := goodIn_r _ [478, 25, 479, 24, 480, 481, 56, 54, 494, 495, 496, 497, 498, 499, 500, 501, 502, 503, 504, 505, 540, 541, 542, 543, 544, 545, 546] (by decide +kernel) (by decide +kernel)
set_option maxRecDepth 20000 in
theorem gL_law_X3_buys : GoodIn wsL_law (wsV RL 114 RX3 yX3_buys wsX3_buys) := goodIn_app (goodIn_of _ (by decide +kernel)) ggL_law_X3_buys
set_option maxRecDepth 20000 in
theorem ggL_law_X4_buys : GoodIn wsL_law wsX4_buys := goodIn_r _ [485, 103, 462, 88, 506, 507, 508, 509, 510, 511, 512, 513, 514, 515, 516, 517, 518, 519, 520, 521, 522] (by decide +kernel) (by decide +kernel)
set_option maxRecDepth 20000 in
theorem gL_law_X4_buys : GoodIn wsL_law (wsV RL 117 RX4 yX4_buys wsX4_buys) := goodIn_app (goodIn_of _ (by decide +kernel)) ggL_law_X4_buys
set_option maxRecDepth 20000 in
theorem ggL_law_X3_count : GoodIn wsL_law wsX3_count := goodIn_r _ [489, 16, 21, 494, 495, 496, 497, 498, 499, 500, 501, 502, 503, 504, 505, 523, 524, 525, 526, 527, 528, 529, 530, 531, 532, 533, 534, 535, 536, 537, 538, 539] (by decide +kernel) (by decide +kernel)
set_option maxRecDepth 20000 in
theorem gL_law_X3_count : GoodIn wsL_law (wsV RL 118 RX3 yX3_count wsX3_count) := goodIn_app (goodIn_of _ (by decide +kernel)) ggL_law_X3_count
set_option maxRecDepth 20000 in
theorem ggL_law_X4_count : GoodIn wsL_law wsX4_count := goodIn_r _ [493, 103, 77, 104, 137, 138, 139, 5, 140, 133, 80, 141, 142, 143, 144, 145, 78, 506, 507, 508, 509, 510, 511, 512, 513, 514, 515, 516, 517, 518, 519, 520, 521, 522] (by decide +kernel) (by decide +kernel)
set_option maxRecDepth 20000 in
theorem gL_law_X4_count : GoodIn wsL_law (wsV RL 121 RX4 yX4_count wsX4_count) := goodIn_app (goodIn_of _ (by decide +kernel)) ggL_law_X4_count
theorem dL_law_0 : decode cL_law 0 = .ok (.new 8, 3) := by decide +kernel
end
section
theorem dL_law_3 : decode cL_law 3 = .ok (.dup, 1) := by decide +kernel
theorem dL_law_4 : decode cL_law 4 = .ok (.invokespecial 27, 3) := by decide +kernel
theorem dL_law_7 : decode cL_law 7 = .ok (.astore_n 1, 1) := by decide +kernel
theorem dL_law_8 : decode cL_law 8 = .ok (.new 28, 3) := by decide +kernel
theorem dL_law_11 : decode cL_law 11 = .ok (.dup, 1) := by decide +kernel
theorem dL_law_12 : decode cL_law 12 = .ok (.invokespecial 30, 3) := by decide +kernel
theorem dL_law_15 : decode cL_law 15 = .ok (.astore_n 2, 1) := by decide +kernel
theorem dL_law_16 : decode cL_law 16 = .ok (.iconst 1, 1) := by decide +kernel
theorem dL_law_17 : decode cL_law 17 = .ok (.newarray .long, 2) := by decide +kernel
theorem dL_law_19 : decode cL_law 19 = .ok (.astore_n 3, 1) := by decide +kernel
theorem dL_law_20 : decode cL_law 20 = .ok (.iconst 0, 1) := by decide +kernel
theorem dL_law_21 : decode cL_law 21 = .ok (.istore 4, 2) := by decide +kernel
theorem dL_law_23 : decode cL_law 23 = .ok (.iload 4, 2) := by decide +kernel
theorem dL_law_25 : decode cL_law 25 = .ok (.aload_n 0, 1) := by decide +kernel
theorem dL_law_26 : decode cL_law 26 = .ok (.arraylength, 1) := by decide +kernel
theorem dL_law_27 : decode cL_law 27 = .ok (.bipush 6, 2) := by decide +kernel
theorem dL_law_29 : decode cL_law 29 = .ok (.isub, 1) := by decide +kernel
theorem dL_law_30 : decode cL_law 30 = .ok (.if_icmp .gt 967, 3) := by decide +kernel
theorem dL_law_33 : decode cL_law 33 = .ok (.aload_n 0, 1) := by decide +kernel
theorem dL_law_34 : decode cL_law 34 = .ok (.iload 4, 2) := by decide +kernel
theorem dL_law_36 : decode cL_law 36 = .ok (.iaload, 1) := by decide +kernel
theorem dL_law_37 : decode cL_law 37 = .ok (.bipush 31, 2) := by decide +kernel
theorem dL_law_39 : decode cL_law 39 = .ok (.iand, 1) := by decide +kernel
theorem dL_law_40 : decode cL_law 40 = .ok (.tableswitch 951 0 19 #[96, 169, 194, 243, 304, 353, 378, 403, 428, 439, 464, 505, 572, 655, 750, 791, 804, 888, 901, 926], 96) := by decide +kernel
theorem dL_law_136 : decode cL_law 136 = .ok (.aload_n 1, 1) := by decide +kernel
theorem dL_law_137 : decode cL_law 137 = .ok (.aload_n 0, 1) := by decide +kernel
theorem dL_law_138 : decode cL_law 138 = .ok (.iload 4, 2) := by decide +kernel
theorem dL_law_140 : decode cL_law 140 = .ok (.iconst 1, 1) := by decide +kernel
theorem dL_law_141 : decode cL_law 141 = .ok (.iadd, 1) := by decide +kernel
theorem dL_law_142 : decode cL_law 142 = .ok (.iaload, 1) := by decide +kernel
theorem dL_law_143 : decode cL_law 143 = .ok (.aload_n 0, 1) := by decide +kernel
theorem dL_law_144 : decode cL_law 144 = .ok (.iload 4, 2) := by decide +kernel
theorem dL_law_146 : decode cL_law 146 = .ok (.iconst 2, 1) := by decide +kernel
theorem dL_law_147 : decode cL_law 147 = .ok (.iadd, 1) := by decide +kernel
theorem dL_law_148 : decode cL_law 148 = .ok (.iaload, 1) := by decide +kernel
theorem dL_law_149 : decode cL_law 149 = .ok (.aload_n 0, 1) := by decide +kernel
theorem dL_law_150 : decode cL_law 150 = .ok (.iload 4, 2) := by decide +kernel
theorem dL_law_152 : decode cL_law 152 = .ok (.iconst 3, 1) := by decide +kernel
theorem dL_law_153 : decode cL_law 153 = .ok (.iadd, 1) := by decide +kernel
theorem dL_law_154 : decode cL_law 154 = .ok (.iaload, 1) := by decide +kernel
theorem dL_law_155 : decode cL_law 155 = .ok (.aload_n 0, 1) := by decide +kernel
theorem dL_law_156 : decode cL_law 156 = .ok (.iload 4, 2) := by decide +kernel
theorem dL_law_158 : decode cL_law 158 = .ok (.iconst 4, 1) := by decide +kernel
theorem dL_law_159 : decode cL_law 159 = .ok (.iadd, 1) := by decide +kernel
theorem dL_law_160 : decode cL_law 160 = .ok (.iaload, 1) := by decide +kernel
theorem dL_law_161 : decode cL_law 161 = .ok (.aload_n 0, 1) := by decide +kernel
theorem dL_law_162 : decode cL_law 162 = .ok (.iload 4, 2) := by decide +kernel
theorem dL_law_164 : decode cL_law 164 = .ok (.iconst 5, 1) := by decide +kernel
theorem dL_law_165 : decode cL_law 165 = .ok (.iadd, 1) := by decide +kernel
theorem dL_law_166 : decode cL_law 166 = .ok (.iaload, 1) := by decide +kernel
theorem dL_law_167 : decode cL_law 167 = .ok (.invokevirtual 31, 3) := by decide +kernel
theorem dL_law_170 : decode cL_law 170 = .ok (.aload_n 2, 1) := by decide +kernel
theorem dL_law_171 : decode cL_law 171 = .ok (.aload_n 0, 1) := by decide +kernel
theorem dL_law_172 : decode cL_law 172 = .ok (.iload 4, 2) := by decide +kernel
theorem dL_law_174 : decode cL_law 174 = .ok (.iconst 1, 1) := by decide +kernel
theorem dL_law_175 : decode cL_law 175 = .ok (.iadd, 1) := by decide +kernel
theorem dL_law_176 : decode cL_law 176 = .ok (.iaload, 1) := by decide +kernel
theorem dL_law_177 : decode cL_law 177 = .ok (.aload_n 0, 1) := by decide +kernel
theorem dL_law_178 : decode cL_law 178 = .ok (.iload 4, 2) := by decide +kernel
theorem dL_law_180 : decode cL_law 180 = .ok (.iconst 2, 1) := by decide +kernel
theorem dL_law_181 : decode cL_law 181 = .ok (.iadd, 1) := by decide +kernel
theorem dL_law_182 : decode cL_law 182 = .ok (.iaload, 1) := by decide +kernel
theorem dL_law_183 : decode cL_law 183 = .ok (.aload_n 0, 1) := by decide +kernel
theorem dL_law_184 : decode cL_law 184 = .ok (.iload 4, 2) := by decide +kernel
theorem dL_law_186 : decode cL_law 186 = .ok (.iconst 3, 1) := by decide +kernel
theorem dL_law_187 : decode cL_law 187 = .ok (.iadd, 1) := by decide +kernel
theorem dL_law_188 : decode cL_law 188 = .ok (.iaload, 1) := by decide +kernel
theorem dL_law_189 : decode cL_law 189 = .ok (.aload_n 0, 1) := by decide +kernel
theorem dL_law_190 : decode cL_law 190 = .ok (.iload 4, 2) := by decide +kernel
theorem dL_law_192 : decode cL_law 192 = .ok (.iconst 4, 1) := by decide +kernel
theorem dL_law_193 : decode cL_law 193 = .ok (.iadd, 1) := by decide +kernel
theorem dL_law_194 : decode cL_law 194 = .ok (.iaload, 1) := by decide +kernel
theorem dL_law_195 : decode cL_law 195 = .ok (.aload_n 0, 1) := by decide +kernel
theorem dL_law_196 : decode cL_law 196 = .ok (.iload 4, 2) := by decide +kernel
theorem dL_law_198 : decode cL_law 198 = .ok (.iconst 5, 1) := by decide +kernel
theorem dL_law_199 : decode cL_law 199 = .ok (.iadd, 1) := by decide +kernel
theorem dL_law_200 : decode cL_law 200 = .ok (.iaload, 1) := by decide +kernel
theorem dL_law_201 : decode cL_law 201 = .ok (.invokevirtual 35, 3) := by decide +kernel
theorem dL_law_204 : decode cL_law 204 = .ok (.if_icmp .eq 787, 3) := by decide +kernel
theorem dL_law_207 : decode cL_law 207 = .ok (.iconst 0, 1) := by decide +kernel
theorem dL_law_208 : decode cL_law 208 = .ok (.ireturn, 1) := by decide +kernel
theorem dL_law_209 : decode cL_law 209 = .ok (.aload_n 1, 1) := by decide +kernel
theorem dL_law_210 : decode cL_law 210 = .ok (.aload_n 0, 1) := by decide +kernel
theorem dL_law_211 : decode cL_law 211 = .ok (.iload 4, 2) := by decide +kernel
theorem dL_law_213 : decode cL_law 213 = .ok (.iconst 1, 1) := by decide +kernel
theorem dL_law_214 : decode cL_law 214 = .ok (.iadd, 1) := by decide +kernel
theorem dL_law_215 : decode cL_law 215 = .ok (.iaload, 1) := by decide +kernel
theorem dL_law_216 : decode cL_law 216 = .ok (.invokevirtual 36, 3) := by decide +kernel
theorem dL_law_219 : decode cL_law 219 = .ok (.aload_n 2, 1) := by decide +kernel
theorem dL_law_220 : decode cL_law 220 = .ok (.aload_n 0, 1) := by decide +kernel
theorem dL_law_221 : decode cL_law 221 = .ok (.iload 4, 2) := by decide +kernel
theorem dL_law_223 : decode cL_law 223 = .ok (.iconst 1, 1) := by decide +kernel
theorem dL_law_224 : decode cL_law 224 = .ok (.iadd, 1) := by decide +kernel
theorem dL_law_225 : decode cL_law 225 = .ok (.iaload, 1) := by decide +kernel
theorem dL_law_226 : decode cL_law 226 = .ok (.invokevirtual 40, 3) := by decide +kernel
theorem dL_law_229 : decode cL_law 229 = .ok (.if_icmp .eq 762, 3) := by decide +kernel
theorem dL_law_232 : decode cL_law 232 = .ok (.iconst 0, 1) := by decide +kernel
theorem dL_law_233 : decode cL_law 233 = .ok (.ireturn, 1) := by decide +kernel
theorem dL_law_234 : decode cL_law 234 = .ok (.aload_n 1, 1) := by decide +kernel
theorem dL_law_235 : decode cL_law 235 = .ok (.aload_n 0, 1) := by decide +kernel
theorem dL_law_236 : decode cL_law 236 = .ok (.iload 4, 2) := by decide +kernel
theorem dL_law_238 : decode cL_law 238 = .ok (.iconst 1, 1) := by decide +kernel
theorem dL_law_239 : decode cL_law 239 = .ok (.iadd, 1) := by decide +kernel
theorem dL_law_240 : decode cL_law 240 = .ok (.iaload, 1) := by decide +kernel
theorem dL_law_241 : decode cL_law 241 = .ok (.aload_n 0, 1) := by decide +kernel
theorem dL_law_242 : decode cL_law 242 = .ok (.iload 4, 2) := by decide +kernel
theorem dL_law_244 : decode cL_law 244 = .ok (.iconst 2, 1) := by decide +kernel
theorem dL_law_245 : decode cL_law 245 = .ok (.iadd, 1) := by decide +kernel
theorem dL_law_246 : decode cL_law 246 = .ok (.iaload, 1) := by decide +kernel
theorem dL_law_247 : decode cL_law 247 = .ok (.aload_n 0, 1) := by decide +kernel
theorem dL_law_248 : decode cL_law 248 = .ok (.iload 4, 2) := by decide +kernel
theorem dL_law_250 : decode cL_law 250 = .ok (.iconst 3, 1) := by decide +kernel
theorem dL_law_251 : decode cL_law 251 = .ok (.iadd, 1) := by decide +kernel
theorem dL_law_252 : decode cL_law 252 = .ok (.iaload, 1) := by decide +kernel
theorem dL_law_253 : decode cL_law 253 = .ok (.invokevirtual 41, 3) := by decide +kernel
theorem dL_law_256 : decode cL_law 256 = .ok (.aload_n 2, 1) := by decide +kernel
theorem dL_law_257 : decode cL_law 257 = .ok (.aload_n 0, 1) := by decide +kernel
theorem dL_law_258 : decode cL_law 258 = .ok (.iload 4, 2) := by decide +kernel
theorem dL_law_260 : decode cL_law 260 = .ok (.iconst 1, 1) := by decide +kernel
theorem dL_law_261 : decode cL_law 261 = .ok (.iadd, 1) := by decide +kernel
end
section
theorem dL_law_262 : decode cL_law 262 = .ok (.iaload, 1) := by decide +kernel
theorem dL_law_263 : decode cL_law 263 = .ok (.aload_n 0, 1) := by decide +kernel
theorem dL_law_264 : decode cL_law 264 = .ok (.iload 4, 2) := by decide +kernel
theorem dL_law_266 : decode cL_law 266 = .ok (.iconst 2, 1) := by decide +kernel
theorem dL_law_267 : decode cL_law 267 = .ok (.iadd, 1) := by decide +kernel
theorem dL_law_268 : decode cL_law 268 = .ok (.iaload, 1) := by decide +kernel
theorem dL_law_269 : decode cL_law 269 = .ok (.aload_n 0, 1) := by decide +kernel
theorem dL_law_270 : decode cL_law 270 = .ok (.iload 4, 2) := by decide +kernel
theorem dL_law_272 : decode cL_law 272 = .ok (.iconst 3, 1) := by decide +kernel
theorem dL_law_273 : decode cL_law 273 = .ok (.iadd, 1) := by decide +kernel
theorem dL_law_274 : decode cL_law 274 = .ok (.iaload, 1) := by decide +kernel
theorem dL_law_275 : decode cL_law 275 = .ok (.invokevirtual 45, 3) := by decide +kernel
theorem dL_law_278 : decode cL_law 278 = .ok (.if_icmp .eq 713, 3) := by decide +kernel
theorem dL_law_281 : decode cL_law 281 = .ok (.iconst 0, 1) := by decide +kernel
theorem dL_law_282 : decode cL_law 282 = .ok (.ireturn, 1) := by decide +kernel
theorem dL_law_283 : decode cL_law 283 = .ok (.aload_n 1, 1) := by decide +kernel
theorem dL_law_284 : decode cL_law 284 = .ok (.aload_n 0, 1) := by decide +kernel
theorem dL_law_285 : decode cL_law 285 = .ok (.iload 4, 2) := by decide +kernel
theorem dL_law_287 : decode cL_law 287 = .ok (.iconst 1, 1) := by decide +kernel
theorem dL_law_288 : decode cL_law 288 = .ok (.iadd, 1) := by decide +kernel
theorem dL_law_289 : decode cL_law 289 = .ok (.iaload, 1) := by decide +kernel
theorem dL_law_290 : decode cL_law 290 = .ok (.aload_n 0, 1) := by decide +kernel
theorem dL_law_291 : decode cL_law 291 = .ok (.iload 4, 2) := by decide +kernel
theorem dL_law_293 : decode cL_law 293 = .ok (.iconst 2, 1) := by decide +kernel
theorem dL_law_294 : decode cL_law 294 = .ok (.iadd, 1) := by decide +kernel
theorem dL_law_295 : decode cL_law 295 = .ok (.iaload, 1) := by decide +kernel
theorem dL_law_296 : decode cL_law 296 = .ok (.aload_n 0, 1) := by decide +kernel
theorem dL_law_297 : decode cL_law 297 = .ok (.iload 4, 2) := by decide +kernel
theorem dL_law_299 : decode cL_law 299 = .ok (.iconst 3, 1) := by decide +kernel
theorem dL_law_300 : decode cL_law 300 = .ok (.iadd, 1) := by decide +kernel
theorem dL_law_301 : decode cL_law 301 = .ok (.iaload, 1) := by decide +kernel
theorem dL_law_302 : decode cL_law 302 = .ok (.aload_n 0, 1) := by decide +kernel
theorem dL_law_303 : decode cL_law 303 = .ok (.iload 4, 2) := by decide +kernel
theorem dL_law_305 : decode cL_law 305 = .ok (.iconst 4, 1) := by decide +kernel
theorem dL_law_306 : decode cL_law 306 = .ok (.iadd, 1) := by decide +kernel
theorem dL_law_307 : decode cL_law 307 = .ok (.iaload, 1) := by decide +kernel
theorem dL_law_308 : decode cL_law 308 = .ok (.invokevirtual 46, 3) := by decide +kernel
theorem dL_law_311 : decode cL_law 311 = .ok (.aload_n 2, 1) := by decide +kernel
theorem dL_law_312 : decode cL_law 312 = .ok (.aload_n 0, 1) := by decide +kernel
theorem dL_law_313 : decode cL_law 313 = .ok (.iload 4, 2) := by decide +kernel
theorem dL_law_315 : decode cL_law 315 = .ok (.iconst 1, 1) := by decide +kernel
theorem dL_law_316 : decode cL_law 316 = .ok (.iadd, 1) := by decide +kernel
theorem dL_law_317 : decode cL_law 317 = .ok (.iaload, 1) := by decide +kernel
theorem dL_law_318 : decode cL_law 318 = .ok (.aload_n 0, 1) := by decide +kernel
theorem dL_law_319 : decode cL_law 319 = .ok (.iload 4, 2) := by decide +kernel
theorem dL_law_321 : decode cL_law 321 = .ok (.iconst 2, 1) := by decide +kernel
theorem dL_law_322 : decode cL_law 322 = .ok (.iadd, 1) := by decide +kernel
theorem dL_law_323 : decode cL_law 323 = .ok (.iaload, 1) := by decide +kernel
theorem dL_law_324 : decode cL_law 324 = .ok (.aload_n 0, 1) := by decide +kernel
theorem dL_law_325 : decode cL_law 325 = .ok (.iload 4, 2) := by decide +kernel
theorem dL_law_327 : decode cL_law 327 = .ok (.iconst 3, 1) := by decide +kernel
theorem dL_law_328 : decode cL_law 328 = .ok (.iadd, 1) := by decide +kernel
theorem dL_law_329 : decode cL_law 329 = .ok (.iaload, 1) := by decide +kernel
theorem dL_law_330 : decode cL_law 330 = .ok (.aload_n 0, 1) := by decide +kernel
theorem dL_law_331 : decode cL_law 331 = .ok (.iload 4, 2) := by decide +kernel
theorem dL_law_333 : decode cL_law 333 = .ok (.iconst 4, 1) := by decide +kernel
theorem dL_law_334 : decode cL_law 334 = .ok (.iadd, 1) := by decide +kernel
theorem dL_law_335 : decode cL_law 335 = .ok (.iaload, 1) := by decide +kernel
theorem dL_law_336 : decode cL_law 336 = .ok (.invokevirtual 50, 3) := by decide +kernel
theorem dL_law_339 : decode cL_law 339 = .ok (.if_icmp .eq 652, 3) := by decide +kernel
theorem dL_law_342 : decode cL_law 342 = .ok (.iconst 0, 1) := by decide +kernel
theorem dL_law_343 : decode cL_law 343 = .ok (.ireturn, 1) := by decide +kernel
theorem dL_law_344 : decode cL_law 344 = .ok (.aload_n 1, 1) := by decide +kernel
theorem dL_law_345 : decode cL_law 345 = .ok (.aload_n 0, 1) := by decide +kernel
theorem dL_law_346 : decode cL_law 346 = .ok (.iload 4, 2) := by decide +kernel
theorem dL_law_348 : decode cL_law 348 = .ok (.iconst 1, 1) := by decide +kernel
theorem dL_law_349 : decode cL_law 349 = .ok (.iadd, 1) := by decide +kernel
theorem dL_law_350 : decode cL_law 350 = .ok (.iaload, 1) := by decide +kernel
theorem dL_law_351 : decode cL_law 351 = .ok (.aload_n 0, 1) := by decide +kernel
theorem dL_law_352 : decode cL_law 352 = .ok (.iload 4, 2) := by decide +kernel
theorem dL_law_354 : decode cL_law 354 = .ok (.iconst 2, 1) := by decide +kernel
theorem dL_law_355 : decode cL_law 355 = .ok (.iadd, 1) := by decide +kernel
theorem dL_law_356 : decode cL_law 356 = .ok (.iaload, 1) := by decide +kernel
theorem dL_law_357 : decode cL_law 357 = .ok (.aload_n 0, 1) := by decide +kernel
theorem dL_law_358 : decode cL_law 358 = .ok (.iload 4, 2) := by decide +kernel
theorem dL_law_360 : decode cL_law 360 = .ok (.iconst 3, 1) := by decide +kernel
theorem dL_law_361 : decode cL_law 361 = .ok (.iadd, 1) := by decide +kernel
theorem dL_law_362 : decode cL_law 362 = .ok (.iaload, 1) := by decide +kernel
theorem dL_law_363 : decode cL_law 363 = .ok (.invokevirtual 51, 3) := by decide +kernel
theorem dL_law_366 : decode cL_law 366 = .ok (.aload_n 2, 1) := by decide +kernel
theorem dL_law_367 : decode cL_law 367 = .ok (.aload_n 0, 1) := by decide +kernel
theorem dL_law_368 : decode cL_law 368 = .ok (.iload 4, 2) := by decide +kernel
theorem dL_law_370 : decode cL_law 370 = .ok (.iconst 1, 1) := by decide +kernel
theorem dL_law_371 : decode cL_law 371 = .ok (.iadd, 1) := by decide +kernel
theorem dL_law_372 : decode cL_law 372 = .ok (.iaload, 1) := by decide +kernel
theorem dL_law_373 : decode cL_law 373 = .ok (.aload_n 0, 1) := by decide +kernel
theorem dL_law_374 : decode cL_law 374 = .ok (.iload 4, 2) := by decide +kernel
theorem dL_law_376 : decode cL_law 376 = .ok (.iconst 2, 1) := by decide +kernel
theorem dL_law_377 : decode cL_law 377 = .ok (.iadd, 1) := by decide +kernel
theorem dL_law_378 : decode cL_law 378 = .ok (.iaload, 1) := by decide +kernel
theorem dL_law_379 : decode cL_law 379 = .ok (.aload_n 0, 1) := by decide +kernel
theorem dL_law_380 : decode cL_law 380 = .ok (.iload 4, 2) := by decide +kernel
theorem dL_law_382 : decode cL_law 382 = .ok (.iconst 3, 1) := by decide +kernel
theorem dL_law_383 : decode cL_law 383 = .ok (.iadd, 1) := by decide +kernel
theorem dL_law_384 : decode cL_law 384 = .ok (.iaload, 1) := by decide +kernel
theorem dL_law_385 : decode cL_law 385 = .ok (.invokevirtual 54, 3) := by decide +kernel
theorem dL_law_388 : decode cL_law 388 = .ok (.if_icmp .eq 603, 3) := by decide +kernel
theorem dL_law_391 : decode cL_law 391 = .ok (.iconst 0, 1) := by decide +kernel
theorem dL_law_392 : decode cL_law 392 = .ok (.ireturn, 1) := by decide +kernel
theorem dL_law_393 : decode cL_law 393 = .ok (.aload_n 1, 1) := by decide +kernel
theorem dL_law_394 : decode cL_law 394 = .ok (.aload_n 0, 1) := by decide +kernel
theorem dL_law_395 : decode cL_law 395 = .ok (.iload 4, 2) := by decide +kernel
theorem dL_law_397 : decode cL_law 397 = .ok (.iconst 1, 1) := by decide +kernel
theorem dL_law_398 : decode cL_law 398 = .ok (.iadd, 1) := by decide +kernel
theorem dL_law_399 : decode cL_law 399 = .ok (.iaload, 1) := by decide +kernel
theorem dL_law_400 : decode cL_law 400 = .ok (.invokevirtual 55, 3) := by decide +kernel
theorem dL_law_403 : decode cL_law 403 = .ok (.aload_n 2, 1) := by decide +kernel
theorem dL_law_404 : decode cL_law 404 = .ok (.aload_n 0, 1) := by decide +kernel
theorem dL_law_405 : decode cL_law 405 = .ok (.iload 4, 2) := by decide +kernel
theorem dL_law_407 : decode cL_law 407 = .ok (.iconst 1, 1) := by decide +kernel
theorem dL_law_408 : decode cL_law 408 = .ok (.iadd, 1) := by decide +kernel
theorem dL_law_409 : decode cL_law 409 = .ok (.iaload, 1) := by decide +kernel
theorem dL_law_410 : decode cL_law 410 = .ok (.invokevirtual 58, 3) := by decide +kernel
theorem dL_law_413 : decode cL_law 413 = .ok (.if_icmp .eq 578, 3) := by decide +kernel
theorem dL_law_416 : decode cL_law 416 = .ok (.iconst 0, 1) := by decide +kernel
theorem dL_law_417 : decode cL_law 417 = .ok (.ireturn, 1) := by decide +kernel
theorem dL_law_418 : decode cL_law 418 = .ok (.aload_n 1, 1) := by decide +kernel
theorem dL_law_419 : decode cL_law 419 = .ok (.aload_n 0, 1) := by decide +kernel
theorem dL_law_420 : decode cL_law 420 = .ok (.iload 4, 2) := by decide +kernel
theorem dL_law_422 : decode cL_law 422 = .ok (.iconst 1, 1) := by decide +kernel
end
section
theorem dL_law_423 : decode cL_law 423 = .ok (.iadd, 1) := by decide +kernel
theorem dL_law_424 : decode cL_law 424 = .ok (.iaload, 1) := by decide +kernel
theorem dL_law_425 : decode cL_law 425 = .ok (.invokevirtual 59, 3) := by decide +kernel
theorem dL_law_428 : decode cL_law 428 = .ok (.aload_n 2, 1) := by decide +kernel
theorem dL_law_429 : decode cL_law 429 = .ok (.aload_n 0, 1) := by decide +kernel
theorem dL_law_430 : decode cL_law 430 = .ok (.iload 4, 2) := by decide +kernel
theorem dL_law_432 : decode cL_law 432 = .ok (.iconst 1, 1) := by decide +kernel
theorem dL_law_433 : decode cL_law 433 = .ok (.iadd, 1) := by decide +kernel
theorem dL_law_434 : decode cL_law 434 = .ok (.iaload, 1) := by decide +kernel
theorem dL_law_435 : decode cL_law 435 = .ok (.invokevirtual 63, 3) := by decide +kernel
theorem dL_law_438 : decode cL_law 438 = .ok (.if_icmp .eq 553, 3) := by decide +kernel
theorem dL_law_441 : decode cL_law 441 = .ok (.iconst 0, 1) := by decide +kernel
theorem dL_law_442 : decode cL_law 442 = .ok (.ireturn, 1) := by decide +kernel
theorem dL_law_443 : decode cL_law 443 = .ok (.aload_n 1, 1) := by decide +kernel
theorem dL_law_444 : decode cL_law 444 = .ok (.aload_n 0, 1) := by decide +kernel
theorem dL_law_445 : decode cL_law 445 = .ok (.iload 4, 2) := by decide +kernel
theorem dL_law_447 : decode cL_law 447 = .ok (.iconst 1, 1) := by decide +kernel
theorem dL_law_448 : decode cL_law 448 = .ok (.iadd, 1) := by decide +kernel
theorem dL_law_449 : decode cL_law 449 = .ok (.iaload, 1) := by decide +kernel
theorem dL_law_450 : decode cL_law 450 = .ok (.invokevirtual 64, 3) := by decide +kernel
theorem dL_law_453 : decode cL_law 453 = .ok (.aload_n 2, 1) := by decide +kernel
theorem dL_law_454 : decode cL_law 454 = .ok (.aload_n 0, 1) := by decide +kernel
theorem dL_law_455 : decode cL_law 455 = .ok (.iload 4, 2) := by decide +kernel
theorem dL_law_457 : decode cL_law 457 = .ok (.iconst 1, 1) := by decide +kernel
theorem dL_law_458 : decode cL_law 458 = .ok (.iadd, 1) := by decide +kernel
theorem dL_law_459 : decode cL_law 459 = .ok (.iaload, 1) := by decide +kernel
theorem dL_law_460 : decode cL_law 460 = .ok (.invokevirtual 67, 3) := by decide +kernel
theorem dL_law_463 : decode cL_law 463 = .ok (.if_icmp .eq 528, 3) := by decide +kernel
theorem dL_law_466 : decode cL_law 466 = .ok (.iconst 0, 1) := by decide +kernel
theorem dL_law_467 : decode cL_law 467 = .ok (.ireturn, 1) := by decide +kernel
theorem dL_law_468 : decode cL_law 468 = .ok (.aload_n 1, 1) := by decide +kernel
theorem dL_law_469 : decode cL_law 469 = .ok (.invokevirtual 68, 3) := by decide +kernel
theorem dL_law_472 : decode cL_law 472 = .ok (.aload_n 2, 1) := by decide +kernel
theorem dL_law_473 : decode cL_law 473 = .ok (.invokevirtual 71, 3) := by decide +kernel
theorem dL_law_476 : decode cL_law 476 = .ok (.goto 515, 3) := by decide +kernel
theorem dL_law_479 : decode cL_law 479 = .ok (.aload_n 1, 1) := by decide +kernel
theorem dL_law_480 : decode cL_law 480 = .ok (.aload_n 0, 1) := by decide +kernel
theorem dL_law_481 : decode cL_law 481 = .ok (.iload 4, 2) := by decide +kernel
theorem dL_law_483 : decode cL_law 483 = .ok (.iconst 1, 1) := by decide +kernel
theorem dL_law_484 : decode cL_law 484 = .ok (.iadd, 1) := by decide +kernel
theorem dL_law_485 : decode cL_law 485 = .ok (.iaload, 1) := by decide +kernel
theorem dL_law_486 : decode cL_law 486 = .ok (.invokevirtual 72, 3) := by decide +kernel
theorem dL_law_489 : decode cL_law 489 = .ok (.aload_n 2, 1) := by decide +kernel
theorem dL_law_490 : decode cL_law 490 = .ok (.aload_n 0, 1) := by decide +kernel
theorem dL_law_491 : decode cL_law 491 = .ok (.iload 4, 2) := by decide +kernel
theorem dL_law_493 : decode cL_law 493 = .ok (.iconst 1, 1) := by decide +kernel
theorem dL_law_494 : decode cL_law 494 = .ok (.iadd, 1) := by decide +kernel
theorem dL_law_495 : decode cL_law 495 = .ok (.iaload, 1) := by decide +kernel
theorem dL_law_496 : decode cL_law 496 = .ok (.invokevirtual 75, 3) := by decide +kernel
theorem dL_law_499 : decode cL_law 499 = .ok (.if_icmp .eq 492, 3) := by decide +kernel
theorem dL_law_502 : decode cL_law 502 = .ok (.iconst 0, 1) := by decide +kernel
theorem dL_law_503 : decode cL_law 503 = .ok (.ireturn, 1) := by decide +kernel
theorem dL_law_504 : decode cL_law 504 = .ok (.aload_n 1, 1) := by decide +kernel
theorem dL_law_505 : decode cL_law 505 = .ok (.aload_n 0, 1) := by decide +kernel
theorem dL_law_506 : decode cL_law 506 = .ok (.iload 4, 2) := by decide +kernel
theorem dL_law_508 : decode cL_law 508 = .ok (.iconst 1, 1) := by decide +kernel
theorem dL_law_509 : decode cL_law 509 = .ok (.iadd, 1) := by decide +kernel
theorem dL_law_510 : decode cL_law 510 = .ok (.iaload, 1) := by decide +kernel
theorem dL_law_511 : decode cL_law 511 = .ok (.ifCond .eq 7, 3) := by decide +kernel
theorem dL_law_514 : decode cL_law 514 = .ok (.iconst 1, 1) := by decide +kernel
theorem dL_law_515 : decode cL_law 515 = .ok (.goto 4, 3) := by decide +kernel
theorem dL_law_518 : decode cL_law 518 = .ok (.iconst 0, 1) := by decide +kernel
theorem dL_law_519 : decode cL_law 519 = .ok (.invokevirtual 76, 3) := by decide +kernel
theorem dL_law_522 : decode cL_law 522 = .ok (.aload_n 2, 1) := by decide +kernel
theorem dL_law_523 : decode cL_law 523 = .ok (.aload_n 0, 1) := by decide +kernel
theorem dL_law_524 : decode cL_law 524 = .ok (.iload 4, 2) := by decide +kernel
theorem dL_law_526 : decode cL_law 526 = .ok (.iconst 1, 1) := by decide +kernel
theorem dL_law_527 : decode cL_law 527 = .ok (.iadd, 1) := by decide +kernel
theorem dL_law_528 : decode cL_law 528 = .ok (.iaload, 1) := by decide +kernel
theorem dL_law_529 : decode cL_law 529 = .ok (.ifCond .eq 7, 3) := by decide +kernel
theorem dL_law_532 : decode cL_law 532 = .ok (.iconst 1, 1) := by decide +kernel
theorem dL_law_533 : decode cL_law 533 = .ok (.goto 4, 3) := by decide +kernel
theorem dL_law_536 : decode cL_law 536 = .ok (.iconst 0, 1) := by decide +kernel
theorem dL_law_537 : decode cL_law 537 = .ok (.invokevirtual 80, 3) := by decide +kernel
theorem dL_law_540 : decode cL_law 540 = .ok (.if_icmp .eq 451, 3) := by decide +kernel
theorem dL_law_543 : decode cL_law 543 = .ok (.iconst 0, 1) := by decide +kernel
theorem dL_law_544 : decode cL_law 544 = .ok (.ireturn, 1) := by decide +kernel
theorem dL_law_545 : decode cL_law 545 = .ok (.aload_n 1, 1) := by decide +kernel
theorem dL_law_546 : decode cL_law 546 = .ok (.aload_n 0, 1) := by decide +kernel
theorem dL_law_547 : decode cL_law 547 = .ok (.iload 4, 2) := by decide +kernel
theorem dL_law_549 : decode cL_law 549 = .ok (.iconst 1, 1) := by decide +kernel
theorem dL_law_550 : decode cL_law 550 = .ok (.iadd, 1) := by decide +kernel
theorem dL_law_551 : decode cL_law 551 = .ok (.iaload, 1) := by decide +kernel
theorem dL_law_552 : decode cL_law 552 = .ok (.aload_n 0, 1) := by decide +kernel
theorem dL_law_553 : decode cL_law 553 = .ok (.iload 4, 2) := by decide +kernel
theorem dL_law_555 : decode cL_law 555 = .ok (.iconst 2, 1) := by decide +kernel
theorem dL_law_556 : decode cL_law 556 = .ok (.iadd, 1) := by decide +kernel
theorem dL_law_557 : decode cL_law 557 = .ok (.iaload, 1) := by decide +kernel
theorem dL_law_558 : decode cL_law 558 = .ok (.aload_n 3, 1) := by decide +kernel
theorem dL_law_559 : decode cL_law 559 = .ok (.invokestatic 81, 3) := by decide +kernel
theorem dL_law_562 : decode cL_law 562 = .ok (.istore 5, 2) := by decide +kernel
theorem dL_law_564 : decode cL_law 564 = .ok (.aload_n 2, 1) := by decide +kernel
theorem dL_law_565 : decode cL_law 565 = .ok (.aload_n 0, 1) := by decide +kernel
theorem dL_law_566 : decode cL_law 566 = .ok (.iload 4, 2) := by decide +kernel
theorem dL_law_568 : decode cL_law 568 = .ok (.iconst 1, 1) := by decide +kernel
theorem dL_law_569 : decode cL_law 569 = .ok (.iadd, 1) := by decide +kernel
theorem dL_law_570 : decode cL_law 570 = .ok (.iaload, 1) := by decide +kernel
theorem dL_law_571 : decode cL_law 571 = .ok (.aload_n 0, 1) := by decide +kernel
theorem dL_law_572 : decode cL_law 572 = .ok (.iload 4, 2) := by decide +kernel
theorem dL_law_574 : decode cL_law 574 = .ok (.iconst 2, 1) := by decide +kernel
theorem dL_law_575 : decode cL_law 575 = .ok (.iadd, 1) := by decide +kernel
theorem dL_law_576 : decode cL_law 576 = .ok (.iaload, 1) := by decide +kernel
theorem dL_law_577 : decode cL_law 577 = .ok (.invokevirtual 86, 3) := by decide +kernel
theorem dL_law_580 : decode cL_law 580 = .ok (.lstore 6, 2) := by decide +kernel
theorem dL_law_582 : decode cL_law 582 = .ok (.aload_n 2, 1) := by decide +kernel
theorem dL_law_583 : decode cL_law 583 = .ok (.invokevirtual 87, 3) := by decide +kernel
theorem dL_law_586 : decode cL_law 586 = .ok (.iload 5, 2) := by decide +kernel
theorem dL_law_588 : decode cL_law 588 = .ok (.if_icmp .eq 5, 3) := by decide +kernel
theorem dL_law_591 : decode cL_law 591 = .ok (.iconst 0, 1) := by decide +kernel
theorem dL_law_592 : decode cL_law 592 = .ok (.ireturn, 1) := by decide +kernel
theorem dL_law_593 : decode cL_law 593 = .ok (.iload 5, 2) := by decide +kernel
theorem dL_law_595 : decode cL_law 595 = .ok (.ifCond .ne 14, 3) := by decide +kernel
theorem dL_law_598 : decode cL_law 598 = .ok (.aload_n 3, 1) := by decide +kernel
theorem dL_law_599 : decode cL_law 599 = .ok (.iconst 0, 1) := by decide +kernel
theorem dL_law_600 : decode cL_law 600 = .ok (.laload, 1) := by decide +kernel
theorem dL_law_601 : decode cL_law 601 = .ok (.lload 6, 2) := by decide +kernel
theorem dL_law_603 : decode cL_law 603 = .ok (.lcmp, 1) := by decide +kernel
theorem dL_law_604 : decode cL_law 604 = .ok (.ifCond .eq 5, 3) := by decide +kernel
theorem dL_law_607 : decode cL_law 607 = .ok (.iconst 0, 1) := by decide +kernel
theorem dL_law_608 : decode cL_law 608 = .ok (.ireturn, 1) := by decide +kernel
end
section
theorem dL_law_609 : decode cL_law 609 = .ok (.goto 382, 3) := by decide +kernel
theorem dL_law_612 : decode cL_law 612 = .ok (.aload_n 1, 1) := by decide +kernel
theorem dL_law_613 : decode cL_law 613 = .ok (.aload_n 0, 1) := by decide +kernel
theorem dL_law_614 : decode cL_law 614 = .ok (.iload 4, 2) := by decide +kernel
theorem dL_law_616 : decode cL_law 616 = .ok (.iconst 1, 1) := by decide +kernel
theorem dL_law_617 : decode cL_law 617 = .ok (.iadd, 1) := by decide +kernel
theorem dL_law_618 : decode cL_law 618 = .ok (.iaload, 1) := by decide +kernel
theorem dL_law_619 : decode cL_law 619 = .ok (.aload_n 0, 1) := by decide +kernel
theorem dL_law_620 : decode cL_law 620 = .ok (.iload 4, 2) := by decide +kernel
theorem dL_law_622 : decode cL_law 622 = .ok (.iconst 2, 1) := by decide +kernel
theorem dL_law_623 : decode cL_law 623 = .ok (.iadd, 1) := by decide +kernel
theorem dL_law_624 : decode cL_law 624 = .ok (.iaload, 1) := by decide +kernel
theorem dL_law_625 : decode cL_law 625 = .ok (.ifCond .eq 7, 3) := by decide +kernel
theorem dL_law_628 : decode cL_law 628 = .ok (.iconst 1, 1) := by decide +kernel
theorem dL_law_629 : decode cL_law 629 = .ok (.goto 4, 3) := by decide +kernel
theorem dL_law_632 : decode cL_law 632 = .ok (.iconst 0, 1) := by decide +kernel
theorem dL_law_633 : decode cL_law 633 = .ok (.aload_n 3, 1) := by decide +kernel
theorem dL_law_634 : decode cL_law 634 = .ok (.invokestatic 91, 3) := by decide +kernel
theorem dL_law_637 : decode cL_law 637 = .ok (.istore 5, 2) := by decide +kernel
theorem dL_law_639 : decode cL_law 639 = .ok (.aload_n 2, 1) := by decide +kernel
theorem dL_law_640 : decode cL_law 640 = .ok (.aload_n 0, 1) := by decide +kernel
theorem dL_law_641 : decode cL_law 641 = .ok (.iload 4, 2) := by decide +kernel
theorem dL_law_643 : decode cL_law 643 = .ok (.iconst 1, 1) := by decide +kernel
theorem dL_law_644 : decode cL_law 644 = .ok (.iadd, 1) := by decide +kernel
theorem dL_law_645 : decode cL_law 645 = .ok (.iaload, 1) := by decide +kernel
theorem dL_law_646 : decode cL_law 646 = .ok (.aload_n 0, 1) := by decide +kernel
theorem dL_law_647 : decode cL_law 647 = .ok (.iload 4, 2) := by decide +kernel
theorem dL_law_649 : decode cL_law 649 = .ok (.iconst 2, 1) := by decide +kernel
theorem dL_law_650 : decode cL_law 650 = .ok (.iadd, 1) := by decide +kernel
theorem dL_law_651 : decode cL_law 651 = .ok (.iaload, 1) := by decide +kernel
theorem dL_law_652 : decode cL_law 652 = .ok (.ifCond .eq 7, 3) := by decide +kernel
theorem dL_law_655 : decode cL_law 655 = .ok (.iconst 1, 1) := by decide +kernel
theorem dL_law_656 : decode cL_law 656 = .ok (.goto 4, 3) := by decide +kernel
theorem dL_law_659 : decode cL_law 659 = .ok (.iconst 0, 1) := by decide +kernel
theorem dL_law_660 : decode cL_law 660 = .ok (.invokevirtual 94, 3) := by decide +kernel
theorem dL_law_663 : decode cL_law 663 = .ok (.lstore 6, 2) := by decide +kernel
theorem dL_law_665 : decode cL_law 665 = .ok (.aload_n 2, 1) := by decide +kernel
theorem dL_law_666 : decode cL_law 666 = .ok (.invokevirtual 87, 3) := by decide +kernel
theorem dL_law_669 : decode cL_law 669 = .ok (.iload 5, 2) := by decide +kernel
theorem dL_law_671 : decode cL_law 671 = .ok (.if_icmp .eq 5, 3) := by decide +kernel
theorem dL_law_674 : decode cL_law 674 = .ok (.iconst 0, 1) := by decide +kernel
theorem dL_law_675 : decode cL_law 675 = .ok (.ireturn, 1) := by decide +kernel
theorem dL_law_676 : decode cL_law 676 = .ok (.iload 5, 2) := by decide +kernel
theorem dL_law_678 : decode cL_law 678 = .ok (.ifCond .ne 14, 3) := by decide +kernel
theorem dL_law_681 : decode cL_law 681 = .ok (.aload_n 3, 1) := by decide +kernel
theorem dL_law_682 : decode cL_law 682 = .ok (.iconst 0, 1) := by decide +kernel
theorem dL_law_683 : decode cL_law 683 = .ok (.laload, 1) := by decide +kernel
theorem dL_law_684 : decode cL_law 684 = .ok (.lload 6, 2) := by decide +kernel
theorem dL_law_686 : decode cL_law 686 = .ok (.lcmp, 1) := by decide +kernel
theorem dL_law_687 : decode cL_law 687 = .ok (.ifCond .eq 5, 3) := by decide +kernel
theorem dL_law_690 : decode cL_law 690 = .ok (.iconst 0, 1) := by decide +kernel
theorem dL_law_691 : decode cL_law 691 = .ok (.ireturn, 1) := by decide +kernel
theorem dL_law_692 : decode cL_law 692 = .ok (.goto 299, 3) := by decide +kernel
theorem dL_law_695 : decode cL_law 695 = .ok (.aload_n 1, 1) := by decide +kernel
theorem dL_law_696 : decode cL_law 696 = .ok (.aload_n 0, 1) := by decide +kernel
theorem dL_law_697 : decode cL_law 697 = .ok (.iload 4, 2) := by decide +kernel
theorem dL_law_699 : decode cL_law 699 = .ok (.iconst 1, 1) := by decide +kernel
theorem dL_law_700 : decode cL_law 700 = .ok (.iadd, 1) := by decide +kernel
theorem dL_law_701 : decode cL_law 701 = .ok (.iaload, 1) := by decide +kernel
theorem dL_law_702 : decode cL_law 702 = .ok (.aload_n 0, 1) := by decide +kernel
theorem dL_law_703 : decode cL_law 703 = .ok (.iload 4, 2) := by decide +kernel
theorem dL_law_705 : decode cL_law 705 = .ok (.iconst 2, 1) := by decide +kernel
theorem dL_law_706 : decode cL_law 706 = .ok (.iadd, 1) := by decide +kernel
theorem dL_law_707 : decode cL_law 707 = .ok (.iaload, 1) := by decide +kernel
theorem dL_law_708 : decode cL_law 708 = .ok (.ifCond .eq 7, 3) := by decide +kernel
theorem dL_law_711 : decode cL_law 711 = .ok (.iconst 1, 1) := by decide +kernel
theorem dL_law_712 : decode cL_law 712 = .ok (.goto 4, 3) := by decide +kernel
theorem dL_law_715 : decode cL_law 715 = .ok (.iconst 0, 1) := by decide +kernel
theorem dL_law_716 : decode cL_law 716 = .ok (.aload_n 0, 1) := by decide +kernel
theorem dL_law_717 : decode cL_law 717 = .ok (.iload 4, 2) := by decide +kernel
theorem dL_law_719 : decode cL_law 719 = .ok (.iconst 3, 1) := by decide +kernel
theorem dL_law_720 : decode cL_law 720 = .ok (.iadd, 1) := by decide +kernel
theorem dL_law_721 : decode cL_law 721 = .ok (.iaload, 1) := by decide +kernel
theorem dL_law_722 : decode cL_law 722 = .ok (.aload_n 3, 1) := by decide +kernel
theorem dL_law_723 : decode cL_law 723 = .ok (.invokestatic 95, 3) := by decide +kernel
theorem dL_law_726 : decode cL_law 726 = .ok (.istore 5, 2) := by decide +kernel
theorem dL_law_728 : decode cL_law 728 = .ok (.aload_n 2, 1) := by decide +kernel
theorem dL_law_729 : decode cL_law 729 = .ok (.aload_n 0, 1) := by decide +kernel
theorem dL_law_730 : decode cL_law 730 = .ok (.iload 4, 2) := by decide +kernel
theorem dL_law_732 : decode cL_law 732 = .ok (.iconst 1, 1) := by decide +kernel
theorem dL_law_733 : decode cL_law 733 = .ok (.iadd, 1) := by decide +kernel
theorem dL_law_734 : decode cL_law 734 = .ok (.iaload, 1) := by decide +kernel
theorem dL_law_735 : decode cL_law 735 = .ok (.aload_n 0, 1) := by decide +kernel
theorem dL_law_736 : decode cL_law 736 = .ok (.iload 4, 2) := by decide +kernel
theorem dL_law_738 : decode cL_law 738 = .ok (.iconst 2, 1) := by decide +kernel
theorem dL_law_739 : decode cL_law 739 = .ok (.iadd, 1) := by decide +kernel
theorem dL_law_740 : decode cL_law 740 = .ok (.iaload, 1) := by decide +kernel
theorem dL_law_741 : decode cL_law 741 = .ok (.ifCond .eq 7, 3) := by decide +kernel
theorem dL_law_744 : decode cL_law 744 = .ok (.iconst 1, 1) := by decide +kernel
theorem dL_law_745 : decode cL_law 745 = .ok (.goto 4, 3) := by decide +kernel
theorem dL_law_748 : decode cL_law 748 = .ok (.iconst 0, 1) := by decide +kernel
theorem dL_law_749 : decode cL_law 749 = .ok (.aload_n 0, 1) := by decide +kernel
theorem dL_law_750 : decode cL_law 750 = .ok (.iload 4, 2) := by decide +kernel
theorem dL_law_752 : decode cL_law 752 = .ok (.iconst 3, 1) := by decide +kernel
theorem dL_law_753 : decode cL_law 753 = .ok (.iadd, 1) := by decide +kernel
theorem dL_law_754 : decode cL_law 754 = .ok (.iaload, 1) := by decide +kernel
theorem dL_law_755 : decode cL_law 755 = .ok (.invokevirtual 98, 3) := by decide +kernel
theorem dL_law_758 : decode cL_law 758 = .ok (.lstore 6, 2) := by decide +kernel
theorem dL_law_760 : decode cL_law 760 = .ok (.aload_n 2, 1) := by decide +kernel
theorem dL_law_761 : decode cL_law 761 = .ok (.invokevirtual 87, 3) := by decide +kernel
theorem dL_law_764 : decode cL_law 764 = .ok (.iload 5, 2) := by decide +kernel
theorem dL_law_766 : decode cL_law 766 = .ok (.if_icmp .eq 5, 3) := by decide +kernel
theorem dL_law_769 : decode cL_law 769 = .ok (.iconst 0, 1) := by decide +kernel
theorem dL_law_770 : decode cL_law 770 = .ok (.ireturn, 1) := by decide +kernel
theorem dL_law_771 : decode cL_law 771 = .ok (.iload 5, 2) := by decide +kernel
theorem dL_law_773 : decode cL_law 773 = .ok (.ifCond .ne 14, 3) := by decide +kernel
theorem dL_law_776 : decode cL_law 776 = .ok (.aload_n 3, 1) := by decide +kernel
theorem dL_law_777 : decode cL_law 777 = .ok (.iconst 0, 1) := by decide +kernel
theorem dL_law_778 : decode cL_law 778 = .ok (.laload, 1) := by decide +kernel
theorem dL_law_779 : decode cL_law 779 = .ok (.lload 6, 2) := by decide +kernel
theorem dL_law_781 : decode cL_law 781 = .ok (.lcmp, 1) := by decide +kernel
theorem dL_law_782 : decode cL_law 782 = .ok (.ifCond .eq 5, 3) := by decide +kernel
theorem dL_law_785 : decode cL_law 785 = .ok (.iconst 0, 1) := by decide +kernel
theorem dL_law_786 : decode cL_law 786 = .ok (.ireturn, 1) := by decide +kernel
theorem dL_law_787 : decode cL_law 787 = .ok (.goto 204, 3) := by decide +kernel
theorem dL_law_790 : decode cL_law 790 = .ok (.aload_n 1, 1) := by decide +kernel
theorem dL_law_791 : decode cL_law 791 = .ok (.aload_n 0, 1) := by decide +kernel
theorem dL_law_792 : decode cL_law 792 = .ok (.iload 4, 2) := by decide +kernel
theorem dL_law_794 : decode cL_law 794 = .ok (.iconst 1, 1) := by decide +kernel
theorem dL_law_795 : decode cL_law 795 = .ok (.iadd, 1) := by decide +kernel
end
section
theorem dL_law_796 : decode cL_law 796 = .ok (.iaload, 1) := by decide +kernel
theorem dL_law_797 : decode cL_law 797 = .ok (.ifCond .eq 7, 3) := by decide +kernel
theorem dL_law_800 : decode cL_law 800 = .ok (.iconst 1, 1) := by decide +kernel
theorem dL_law_801 : decode cL_law 801 = .ok (.goto 4, 3) := by decide +kernel
theorem dL_law_804 : decode cL_law 804 = .ok (.iconst 0, 1) := by decide +kernel
theorem dL_law_805 : decode cL_law 805 = .ok (.invokevirtual 99, 3) := by decide +kernel
theorem dL_law_808 : decode cL_law 808 = .ok (.aload_n 2, 1) := by decide +kernel
theorem dL_law_809 : decode cL_law 809 = .ok (.aload_n 0, 1) := by decide +kernel
theorem dL_law_810 : decode cL_law 810 = .ok (.iload 4, 2) := by decide +kernel
theorem dL_law_812 : decode cL_law 812 = .ok (.iconst 1, 1) := by decide +kernel
theorem dL_law_813 : decode cL_law 813 = .ok (.iadd, 1) := by decide +kernel
theorem dL_law_814 : decode cL_law 814 = .ok (.iaload, 1) := by decide +kernel
theorem dL_law_815 : decode cL_law 815 = .ok (.ifCond .eq 7, 3) := by decide +kernel
theorem dL_law_818 : decode cL_law 818 = .ok (.iconst 1, 1) := by decide +kernel
theorem dL_law_819 : decode cL_law 819 = .ok (.goto 4, 3) := by decide +kernel
theorem dL_law_822 : decode cL_law 822 = .ok (.iconst 0, 1) := by decide +kernel
theorem dL_law_823 : decode cL_law 823 = .ok (.invokevirtual 102, 3) := by decide +kernel
theorem dL_law_826 : decode cL_law 826 = .ok (.if_icmp .eq 165, 3) := by decide +kernel
theorem dL_law_829 : decode cL_law 829 = .ok (.iconst 0, 1) := by decide +kernel
theorem dL_law_830 : decode cL_law 830 = .ok (.ireturn, 1) := by decide +kernel
theorem dL_law_831 : decode cL_law 831 = .ok (.aload_n 1, 1) := by decide +kernel
theorem dL_law_832 : decode cL_law 832 = .ok (.invokevirtual 103, 3) := by decide +kernel
theorem dL_law_835 : decode cL_law 835 = .ok (.aload_n 2, 1) := by decide +kernel
theorem dL_law_836 : decode cL_law 836 = .ok (.invokevirtual 106, 3) := by decide +kernel
theorem dL_law_839 : decode cL_law 839 = .ok (.if_icmp .eq 152, 3) := by decide +kernel
theorem dL_law_842 : decode cL_law 842 = .ok (.iconst 0, 1) := by decide +kernel
theorem dL_law_843 : decode cL_law 843 = .ok (.ireturn, 1) := by decide +kernel
theorem dL_law_844 : decode cL_law 844 = .ok (.aload_n 1, 1) := by decide +kernel
theorem dL_law_845 : decode cL_law 845 = .ok (.aload_n 0, 1) := by decide +kernel
theorem dL_law_846 : decode cL_law 846 = .ok (.iload 4, 2) := by decide +kernel
theorem dL_law_848 : decode cL_law 848 = .ok (.iconst 1, 1) := by decide +kernel
theorem dL_law_849 : decode cL_law 849 = .ok (.iadd, 1) := by decide +kernel
theorem dL_law_850 : decode cL_law 850 = .ok (.iaload, 1) := by decide +kernel
theorem dL_law_851 : decode cL_law 851 = .ok (.aload_n 0, 1) := by decide +kernel
theorem dL_law_852 : decode cL_law 852 = .ok (.iload 4, 2) := by decide +kernel
theorem dL_law_854 : decode cL_law 854 = .ok (.iconst 2, 1) := by decide +kernel
theorem dL_law_855 : decode cL_law 855 = .ok (.iadd, 1) := by decide +kernel
theorem dL_law_856 : decode cL_law 856 = .ok (.iaload, 1) := by decide +kernel
theorem dL_law_857 : decode cL_law 857 = .ok (.ifCond .eq 7, 3) := by decide +kernel
theorem dL_law_860 : decode cL_law 860 = .ok (.iconst 1, 1) := by decide +kernel
theorem dL_law_861 : decode cL_law 861 = .ok (.goto 4, 3) := by decide +kernel
theorem dL_law_864 : decode cL_law 864 = .ok (.iconst 0, 1) := by decide +kernel
theorem dL_law_865 : decode cL_law 865 = .ok (.aload_n 3, 1) := by decide +kernel
theorem dL_law_866 : decode cL_law 866 = .ok (.invokestatic 107, 3) := by decide +kernel
theorem dL_law_869 : decode cL_law 869 = .ok (.istore 5, 2) := by decide +kernel
theorem dL_law_871 : decode cL_law 871 = .ok (.aload_n 2, 1) := by decide +kernel
theorem dL_law_872 : decode cL_law 872 = .ok (.aload_n 0, 1) := by decide +kernel
theorem dL_law_873 : decode cL_law 873 = .ok (.iload 4, 2) := by decide +kernel
theorem dL_law_875 : decode cL_law 875 = .ok (.iconst 1, 1) := by decide +kernel
theorem dL_law_876 : decode cL_law 876 = .ok (.iadd, 1) := by decide +kernel
theorem dL_law_877 : decode cL_law 877 = .ok (.iaload, 1) := by decide +kernel
theorem dL_law_878 : decode cL_law 878 = .ok (.aload_n 0, 1) := by decide +kernel
theorem dL_law_879 : decode cL_law 879 = .ok (.iload 4, 2) := by decide +kernel
theorem dL_law_881 : decode cL_law 881 = .ok (.iconst 2, 1) := by decide +kernel
theorem dL_law_882 : decode cL_law 882 = .ok (.iadd, 1) := by decide +kernel
theorem dL_law_883 : decode cL_law 883 = .ok (.iaload, 1) := by decide +kernel
theorem dL_law_884 : decode cL_law 884 = .ok (.ifCond .eq 7, 3) := by decide +kernel
theorem dL_law_887 : decode cL_law 887 = .ok (.iconst 1, 1) := by decide +kernel
theorem dL_law_888 : decode cL_law 888 = .ok (.goto 4, 3) := by decide +kernel
theorem dL_law_891 : decode cL_law 891 = .ok (.iconst 0, 1) := by decide +kernel
theorem dL_law_892 : decode cL_law 892 = .ok (.invokevirtual 109, 3) := by decide +kernel
theorem dL_law_895 : decode cL_law 895 = .ok (.istore 6, 2) := by decide +kernel
theorem dL_law_897 : decode cL_law 897 = .ok (.aload_n 2, 1) := by decide +kernel
theorem dL_law_898 : decode cL_law 898 = .ok (.invokevirtual 87, 3) := by decide +kernel
theorem dL_law_901 : decode cL_law 901 = .ok (.iload 5, 2) := by decide +kernel
theorem dL_law_903 : decode cL_law 903 = .ok (.if_icmp .eq 5, 3) := by decide +kernel
theorem dL_law_906 : decode cL_law 906 = .ok (.iconst 0, 1) := by decide +kernel
theorem dL_law_907 : decode cL_law 907 = .ok (.ireturn, 1) := by decide +kernel
theorem dL_law_908 : decode cL_law 908 = .ok (.iload 5, 2) := by decide +kernel
theorem dL_law_910 : decode cL_law 910 = .ok (.ifCond .ne 15, 3) := by decide +kernel
theorem dL_law_913 : decode cL_law 913 = .ok (.aload_n 3, 1) := by decide +kernel
theorem dL_law_914 : decode cL_law 914 = .ok (.iconst 0, 1) := by decide +kernel
theorem dL_law_915 : decode cL_law 915 = .ok (.laload, 1) := by decide +kernel
theorem dL_law_916 : decode cL_law 916 = .ok (.iload 6, 2) := by decide +kernel
theorem dL_law_918 : decode cL_law 918 = .ok (.i2l, 1) := by decide +kernel
theorem dL_law_919 : decode cL_law 919 = .ok (.lcmp, 1) := by decide +kernel
theorem dL_law_920 : decode cL_law 920 = .ok (.ifCond .eq 5, 3) := by decide +kernel
theorem dL_law_923 : decode cL_law 923 = .ok (.iconst 0, 1) := by decide +kernel
theorem dL_law_924 : decode cL_law 924 = .ok (.ireturn, 1) := by decide +kernel
theorem dL_law_925 : decode cL_law 925 = .ok (.goto 66, 3) := by decide +kernel
theorem dL_law_928 : decode cL_law 928 = .ok (.aload_n 1, 1) := by decide +kernel
theorem dL_law_929 : decode cL_law 929 = .ok (.invokevirtual 110, 3) := by decide +kernel
theorem dL_law_932 : decode cL_law 932 = .ok (.aload_n 2, 1) := by decide +kernel
theorem dL_law_933 : decode cL_law 933 = .ok (.invokevirtual 113, 3) := by decide +kernel
theorem dL_law_936 : decode cL_law 936 = .ok (.if_icmp .eq 55, 3) := by decide +kernel
theorem dL_law_939 : decode cL_law 939 = .ok (.iconst 0, 1) := by decide +kernel
theorem dL_law_940 : decode cL_law 940 = .ok (.ireturn, 1) := by decide +kernel
theorem dL_law_941 : decode cL_law 941 = .ok (.aload_n 1, 1) := by decide +kernel
theorem dL_law_942 : decode cL_law 942 = .ok (.aload_n 0, 1) := by decide +kernel
theorem dL_law_943 : decode cL_law 943 = .ok (.iload 4, 2) := by decide +kernel
theorem dL_law_945 : decode cL_law 945 = .ok (.iconst 1, 1) := by decide +kernel
theorem dL_law_946 : decode cL_law 946 = .ok (.iadd, 1) := by decide +kernel
theorem dL_law_947 : decode cL_law 947 = .ok (.iaload, 1) := by decide +kernel
theorem dL_law_948 : decode cL_law 948 = .ok (.invokevirtual 114, 3) := by decide +kernel
theorem dL_law_951 : decode cL_law 951 = .ok (.aload_n 2, 1) := by decide +kernel
theorem dL_law_952 : decode cL_law 952 = .ok (.aload_n 0, 1) := by decide +kernel
theorem dL_law_953 : decode cL_law 953 = .ok (.iload 4, 2) := by decide +kernel
theorem dL_law_955 : decode cL_law 955 = .ok (.iconst 1, 1) := by decide +kernel
theorem dL_law_956 : decode cL_law 956 = .ok (.iadd, 1) := by decide +kernel
theorem dL_law_957 : decode cL_law 957 = .ok (.iaload, 1) := by decide +kernel
theorem dL_law_958 : decode cL_law 958 = .ok (.invokevirtual 117, 3) := by decide +kernel
theorem dL_law_961 : decode cL_law 961 = .ok (.if_icmp .eq 30, 3) := by decide +kernel
theorem dL_law_964 : decode cL_law 964 = .ok (.iconst 0, 1) := by decide +kernel
theorem dL_law_965 : decode cL_law 965 = .ok (.ireturn, 1) := by decide +kernel
theorem dL_law_966 : decode cL_law 966 = .ok (.aload_n 1, 1) := by decide +kernel
theorem dL_law_967 : decode cL_law 967 = .ok (.aload_n 0, 1) := by decide +kernel
theorem dL_law_968 : decode cL_law 968 = .ok (.iload 4, 2) := by decide +kernel
theorem dL_law_970 : decode cL_law 970 = .ok (.iconst 1, 1) := by decide +kernel
theorem dL_law_971 : decode cL_law 971 = .ok (.iadd, 1) := by decide +kernel
theorem dL_law_972 : decode cL_law 972 = .ok (.iaload, 1) := by decide +kernel
theorem dL_law_973 : decode cL_law 973 = .ok (.invokevirtual 118, 3) := by decide +kernel
theorem dL_law_976 : decode cL_law 976 = .ok (.aload_n 2, 1) := by decide +kernel
theorem dL_law_977 : decode cL_law 977 = .ok (.aload_n 0, 1) := by decide +kernel
theorem dL_law_978 : decode cL_law 978 = .ok (.iload 4, 2) := by decide +kernel
theorem dL_law_980 : decode cL_law 980 = .ok (.iconst 1, 1) := by decide +kernel
theorem dL_law_981 : decode cL_law 981 = .ok (.iadd, 1) := by decide +kernel
theorem dL_law_982 : decode cL_law 982 = .ok (.iaload, 1) := by decide +kernel
theorem dL_law_983 : decode cL_law 983 = .ok (.invokevirtual 121, 3) := by decide +kernel
theorem dL_law_986 : decode cL_law 986 = .ok (.if_icmp .eq 5, 3) := by decide +kernel
theorem dL_law_989 : decode cL_law 989 = .ok (.iconst 0, 1) := by decide +kernel
end
section
theorem dL_law_990 : decode cL_law 990 = .ok (.ireturn, 1) := by decide +kernel
theorem dL_law_991 : decode cL_law 991 = .ok (.iinc 4 6, 3) := by decide +kernel
theorem dL_law_994 : decode cL_law 994 = .ok (.goto (-971), 3) := by decide +kernel
theorem dL_law_997 : decode cL_law 997 = .ok (.iconst 1, 1) := by decide +kernel
theorem dL_law_998 : decode cL_law 998 = .ok (.ireturn, 1) := by decide +kernel
end
