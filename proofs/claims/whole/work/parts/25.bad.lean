/-- words of a throw that aren't good ones, but stand over all that a launch resolves -/
def xbOk (w : Cond) : Bool := match w with | .castable _ _ => true | .declares _ => true | _ => false
theorem xb_castable {a b : String} {u U : State} (hvm : u.vm.Alike U.vm) (h : (Cond.castable a b).before #[] u = true) : (Cond.castable a b).before #[] U = true := by
  obtain ⟨c3, c4, hc3, hc4, hasg⟩ := Cond.castable_spec h
  have e1 : U.vm.findClass a = some c3 := by rw [hvm.findClass]; exact hc3
  have e2 : U.vm.findClass b = some c4 := by rw [hvm.findClass]; exact hc4
  simp [Cond.before, Cond.holds, Cond.value, e1, e2, hvm.assignable, hasg]
theorem xb_declares {x : MethodName} {u U : State} (hvm : u.vm.Alike U.vm) (h : (Cond.declares x).before #[] u = true) : (Cond.declares x).before #[] U = true := by
  have h1 : (Cond.declares x).before #[] (u.setVm U.vm) = true := by
    rw [Cond.declares_setVm hvm]
    exact h
  have e := Cond.onTables_vm (A := #[]) (A' := #[]) (U := u) (U' := U) U.vm (Cond.declares x) rfl
  have hU : U.setVm U.vm = U := rfl
  rw [hU] at e
  rw [← e]
  exact h1
theorem xb_moved {w : Cond} (hw : xbOk w = true) {u U : State} (hvm : u.vm.Alike U.vm) (h : va_Nw w u) : va_Nw w U := by
  cases w <;> first | exact xb_castable hvm h | exact xb_declares hvm h | exact absurd hw (by simp [xbOk])
def xbL : List Cond := (xtAtoms.filter vx_no).filter (fun w => !goodWord w)
theorem xbL_ok : xbL.all xbOk = true := by decide +kernel
theorem xbL_tab : xbL.all (fun w => w.onTables) = true := by decide +kernel
/-- they hold -/
def xb (U : State) : Prop := ∀ w ∈ xbL, va_Nw w U
theorem xb.moved {u U : State} (hvm : u.vm.Alike U.vm) (h : xb u) : xb U := fun w hw => xb_moved (List.all_eq_true.mp xbL_ok w hw) hvm (h w hw)
def xgL : List Cond := (xtAtoms.filter vx_no).filter goodWord
theorem xg_tbl : ∀ w ∈ xgL, w ∈ lw_tbl := by decide +kernel
theorem xgL_good : xgL.all goodWord = true := by decide +kernel
/-- all words of the throw, out of the good ones and xb -/
theorem xb_hat {args : Array Value} {s : State} (h1 : ∀ w ∈ xgL, w.before args s = true) (h : xb s) : ∀ w ∈ xtAtoms.filter vx_no, w.before args s = true :=
  vx_hat (B := xbL) h1 (fun _ hw => hw) (fun w hw => va_Nw.use (List.all_eq_true.mp xbL_tab w hw) (h w hw))
