/-- what a throw of X3's needs of the state: its words, its texts, the two statics of Throwable, which lie outside A -/
def xq (A : Nat → Prop) (U : State) : Prop := xb U ∧ (∃ sa, vk_R RX3 143 "no such mark or number" sa U) ∧ (∃ sa, vk_R RX3 152 "no such mark" sa U) ∧ (∃ sa, vk_R RX3 160 "no kilometres" sa U) ∧ (∃ sa, vk_R RX3 177 "no such refill" sa U) ∧ vx_Zq Bundle.tN "UNASSIGNED_STACK" Bundle.steD A U U.heap ∧ vx_Zq Bundle.tN "SUPPRESSED_SENTINEL" Bundle.listD A U U.heap
theorem xq.at {s U : State} {A B : Nat → Prop} {H : Heap} {locs : List Loc} (h : xq A s) (hS : va_S A s.heap H locs) (hU : U.heap = H) (hW : s.WarmedH U.vm) (hAB : ∀ q, B q → A q) : xq B U := by
  obtain ⟨h1, ⟨a1, h2⟩, ⟨a2, h3⟩, ⟨a3, h4⟩, ⟨a4, h5⟩, h6, h7⟩ := h
  refine ⟨h1.moved hW.alike, ⟨a1, h2.warm hW⟩, ⟨a2, h3.warm hW⟩, ⟨a3, h4.warm hW⟩, ⟨a4, h5.warm hW⟩, ?_, ?_⟩
  · rw [hU]; exact (vx_Zq.moved hW.alike (h6.kept hS.2.1)).narrow hAB
  · rw [hU]; exact (vx_Zq.moved hW.alike (h7.kept hS.2.1)).narrow hAB
theorem xq.same {A : Nat → Prop} {u U : State} (hv : u.vm = U.vm) (hh : u.heap = U.heap) (h : xq A u) : xq A U := by
  have hal : u.vm.Alike U.vm := by rw [hv]; exact Vm.Alike.refl _
  obtain ⟨h1, ⟨a1, h2⟩, ⟨a2, h3⟩, ⟨a3, h4⟩, ⟨a4, h5⟩, h6, h7⟩ := h
  refine ⟨h1.moved hal, ⟨a1, h2.same hv.symm⟩, ⟨a2, h3.same hv.symm⟩, ⟨a3, h4.same hv.symm⟩, ⟨a4, h5.same hv.symm⟩, ?_, ?_⟩
  · rw [← hh]; exact vx_Zq.moved hal h6
  · rw [← hh]; exact vx_Zq.moved hal h7
