abbrev LG : Type := Int32 × Int32 × Int32 × Int32 × Int32 × Int32 × Int32 × Int32 × Int32 × Int32 × Int64 × Int64 × (Nat → Int64) × (Nat → Int32) × (Nat → Int32)
abbrev cL0 (a0 a1 a2 a3 : Nat) (g : LG) : Nat × va_E := (a0, .inr (0, [.int g.1, .int g.2.1, .int g.2.2.1, .int g.2.2.2.1, .int g.2.2.2.2.1, .int g.2.2.2.2.2.1, .int g.2.2.2.2.2.2.1, .int g.2.2.2.2.2.2.2.1, .int g.2.2.2.2.2.2.2.2.1, .int g.2.2.2.2.2.2.2.2.2.1, .long g.2.2.2.2.2.2.2.2.2.2.1, .long g.2.2.2.2.2.2.2.2.2.2.2.1, .ref a1, .ref a2, .ref a3]))
abbrev cL1 (cA : ClassId) (a : Nat) (g : LG) : Nat × va_E := (a, .inl (cA, 20, .inr (.inl g.2.2.2.2.2.2.2.2.2.2.2.2.1)))
abbrev cL2 (cA : ClassId) (a : Nat) (g : LG) : Nat × va_E := (a, .inl (cA, 30, .inl g.2.2.2.2.2.2.2.2.2.2.2.2.2.1))
abbrev cL3 (cA : ClassId) (a : Nat) (g : LG) : Nat × va_E := (a, .inl (cA, 30, .inl g.2.2.2.2.2.2.2.2.2.2.2.2.2.2))
abbrev TP : Type := (Nat → Int32) × Int32
abbrev cT0 (a0 a1 : Nat) (g : TP) : Nat × va_E := (a0, .inr (2, [.ref a1, .int g.2]))
abbrev cT1 (cA : ClassId) (a : Nat) (g : TP) : Nat × va_E := (a, .inl (cA, 60, .inl g.1))
abbrev PL : Type := (Nat → Int32) × (Nat → Int32) × (Nat → Int32) × (Nat → Int32) × (Nat → Int32) × Int32 × Int32
abbrev cP0 (a0 a1 a2 a3 a4 a5 : Nat) (g : PL) : Nat × va_E := (a0, .inr (1, [.ref a1, .ref a2, .ref a3, .ref a4, .ref a5, .int g.2.2.2.2.2.1, .int g.2.2.2.2.2.2]))
abbrev cP1 (cA : ClassId) (a : Nat) (g : PL) : Nat × va_E := (a, .inl (cA, 13, .inl g.1))
abbrev cP2 (cA : ClassId) (a : Nat) (g : PL) : Nat × va_E := (a, .inl (cA, 12, .inl g.2.1))
abbrev cP3 (cA : ClassId) (a : Nat) (g : PL) : Nat × va_E := (a, .inl (cA, 121, .inl g.2.2.1))
abbrev cP4 (cA : ClassId) (a : Nat) (g : PL) : Nat × va_E := (a, .inl (cA, 1452, .inl g.2.2.2.1))
abbrev cP5 (cA : ClassId) (a : Nat) (g : PL) : Nat × va_E := (a, .inl (cA, 12, .inl g.2.2.2.2.1))
abbrev MS : Type := Int32 × (Nat → Int32) × Int32 × (Nat → Int64) × (Nat → Int64) × Int32 × Int32 × Int32 × Int32 × Int32 × Int32 × Int32 × Int64 × Int32 × (Nat → Int32) × (Nat → Int32) × Int32
abbrev cM0 (a0 a1 a2 a3 a4 a5 : Nat) (g : MS) : Nat × va_E := (a0, .inr (4, [.int g.1, .ref a1, .int g.2.2.1, .ref a2, .ref a3, .int g.2.2.2.2.2.1, .int g.2.2.2.2.2.2.1, .int g.2.2.2.2.2.2.2.1, .int g.2.2.2.2.2.2.2.2.1, .int g.2.2.2.2.2.2.2.2.2.1, .int g.2.2.2.2.2.2.2.2.2.2.1, .int g.2.2.2.2.2.2.2.2.2.2.2.1, .long g.2.2.2.2.2.2.2.2.2.2.2.2.1, .int g.2.2.2.2.2.2.2.2.2.2.2.2.2.1, .ref a4, .ref a5, .int g.2.2.2.2.2.2.2.2.2.2.2.2.2.2.2.2]))
abbrev cM1 (cA : ClassId) (a : Nat) (g : MS) : Nat × va_E := (a, .inl (cA, 60, .inl g.2.1))
abbrev cM2 (cA : ClassId) (a : Nat) (g : MS) : Nat × va_E := (a, .inl (cA, 92, .inr (.inl g.2.2.2.1)))
abbrev cM3 (cA : ClassId) (a : Nat) (g : MS) : Nat × va_E := (a, .inl (cA, 92, .inr (.inl g.2.2.2.2.1)))
abbrev cM4 (cA : ClassId) (a : Nat) (g : MS) : Nat × va_E := (a, .inl (cA, 1573, .inl g.2.2.2.2.2.2.2.2.2.2.2.2.2.2.1))
abbrev cM5 (cA : ClassId) (a : Nat) (g : MS) : Nat × va_E := (a, .inl (cA, 12, .inl g.2.2.2.2.2.2.2.2.2.2.2.2.2.2.2.1))
abbrev XC : Type := Int32 × Int32 × Int32 × Int32 × Int32 × Int32 × Int32 × Int64
abbrev cX0 (a0 a1 a2 a3 a4 : Nat) (g : XC) : Nat × va_E := (a0, .inr (3, [.ref a1, .ref a2, .ref a3, .ref a4, .int g.1, .int g.2.1, .int g.2.2.1, .int g.2.2.2.1, .int g.2.2.2.2.1, .int g.2.2.2.2.2.1, .int g.2.2.2.2.2.2.1, .long g.2.2.2.2.2.2.2]))

def nwL : List Cond := [.fieldLinkNest RX3 122 "TripReckoner$Ledger" "spanLeast" "I" "TripReckoner", .fieldLinkNest RX3 115 "TripReckoner$Ledger" "spanGreatest" "I" "TripReckoner", .fieldLinkNest RX3 194 "TripReckoner$Ledger" "refills" "I" "TripReckoner", .fieldLinkNest RX3 197 "TripReckoner$Ledger" "losses" "I" "TripReckoner", .fieldLinkNest RX3 200 "TripReckoner$Ledger" "lies" "I" "TripReckoner", .fieldLinkNest RX3 203 "TripReckoner$Ledger" "jumps" "I" "TripReckoner", .fieldLinkNest RX3 171 "TripReckoner$Ledger" "shownLitres" "I" "TripReckoner", .fieldLinkNest RX1 39 "TripReckoner$Tape" "bytes" "[I" "TripReckoner", .fieldLinkNest RX1 34 "TripReckoner$Tape" "size" "I" "TripReckoner", .fieldLinkNest RX3 71 "TripReckoner$Tape" "size" "I" "TripReckoner", .methodLinkNest RX3 9 yX0_init "TripReckoner", .methodLinkNest RX3 21 yX2_init "TripReckoner", .methodLinkNest RX3 28 yX1_init "TripReckoner", .methodLinkNest RX3 60 yX0_begin "TripReckoner", .methodLinkNest RX3 64 yX2_hasRoom "TripReckoner", .methodLinkNest RX3 68 yX2_push "TripReckoner", .methodLinkNest RX3 74 yX2_shorten "TripReckoner", .methodLinkNest RX3 90 yX0_pass "TripReckoner", .methodLinkNest RX3 94 yX0_burn "TripReckoner", .methodLinkNest RX3 97 yX0_showStep "TripReckoner", .methodLinkNest RX3 207 yX0_doubt "TripReckoner", .methodLinkNest RX3 118 yX0_takeRefill "TripReckoner", .methodLinkNest RX3 125 yX0_takeLoss "TripReckoner", .methodLinkNest RX3 128 yX0_narrow "TripReckoner", .methodLinkNest RX3 134 yX0_clearMark "TripReckoner", .methodLinkNest RX3 137 yX0_copyFrom "TripReckoner", .methodLinkNest RX3 183 yX1_read "TripReckoner", .methodLinkNest RX3 187 yX1_reckon "TripReckoner", .methodLinkNest RX1 60 yX3_within "TripReckoner", .methodLinkNest RX3 190 yX1_boughtAt "TripReckoner", .methodLinkNest RX3 148 yX0_marked "TripReckoner", .methodLinkNest RX3 174 yX0_tellsRefill "TripReckoner", .methodLinkNest RX3 179 yX0_amount "TripReckoner"]
def nw_ok (w : Cond) : Bool := match w with | .fieldLinkNest _ _ _ _ _ _ => true | .methodLinkNest _ _ _ _ => true | _ => false
theorem nwL_ok : nwL.all nw_ok = true := by decide +kernel
theorem nw_ok_tab {w : Cond} (h : nw_ok w = true) : w.onTables = true := by
  cases w <;> first | rfl | (exact absurd h (by simp [nw_ok]))
theorem nw_ok_warm {w : Cond} (h : nw_ok w = true) {s U : State} (hW : s.WarmedH U.vm) (hZ : va_Nw w s) : va_Nw w U := by
  cases w <;> first | exact va_Nw.warmF hW hZ | exact va_Nw.warmM hW hZ | (exact absurd h (by simp [nw_ok]))
/-- the words of nest mates hold -/
def nw (U : State) : Prop := ∀ w ∈ nwL, va_Nw w U
theorem nw_warm {s U : State} (hW : s.WarmedH U.vm) (h : nw s) : nw U := fun w hw => nw_ok_warm (List.all_eq_true.mp nwL_ok w hw) hW (h w hw)
theorem nw_same {s U : State} (hv : s.vm = U.vm) (h : nw s) : nw U := fun w hw => va_Nw.same (nw_ok_tab (List.all_eq_true.mp nwL_ok w hw)) hv (h w hw)
theorem nw_m {s : State} (h : nw s) (w : Cond) (hw : w ∈ nwL) : va_Nw w s := h w hw
theorem nw_f {s : State} {args : Array Value} (h : nw s) (w : Cond) (hw : w ∈ nwL) (ht : w.onTables = true) : w.before args s = true := va_Nw.use ht (h w hw)
theorem sw_out4 (x : Int32) (h0 : ¬ x = 0) (h1 : ¬ x = 1) (h2 : ¬ x = 2) (h3 : ¬ x = 3) (h4 : ¬ x = 4) : x.toInt < 0 ∨ 4 < x.toInt := by
  rcases Int.lt_or_le x.toInt 0 with h | h
  · exact Or.inl h
  rcases Int.lt_or_le 4 x.toInt with h' | h'
  · exact Or.inr h'
  exfalso
  have : x.toInt = 0 ∨ x.toInt = 1 ∨ x.toInt = 2 ∨ x.toInt = 3 ∨ x.toInt = 4 := by omega
  rcases this with e | e | e | e | e
  · exact h0 (Int32.toInt_inj.mp e)
  · exact h1 (Int32.toInt_inj.mp e)
  · exact h2 (Int32.toInt_inj.mp e)
  · exact h3 (Int32.toInt_inj.mp e)
  · exact h4 (Int32.toInt_inj.mp e)
