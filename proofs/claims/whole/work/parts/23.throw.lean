def xtN : String := "java/util/NoSuchElementException"
def xtR : String := "java/lang/RuntimeException"
def xtE : String := "java/lang/Exception"
def xtOwn : List Cond := [.methodLink RX3 145 (Bundle.initS xtN), .instantiable xtN 6, .castable xtN xtN, .selects xtN Bundle.tFill0 Bundle.tFill0, .selects xtN Bundle.tFill Bundle.tFill, .lays xtN Bundle.tN "cause" "Ljava/lang/Throwable;", .lays xtN Bundle.tN "stackTrace" Bundle.steD, .lays xtN Bundle.tN "suppressedExceptions" Bundle.listD, .lays xtN Bundle.tN "detailMessage" "Ljava/lang/String;", .isRef (.static Bundle.tN "UNASSIGNED_STACK" Bundle.steD), .isRef (.static Bundle.tN "SUPPRESSED_SENTINEL" Bundle.listD), .fieldLink Bundle.tN 198 Bundle.tN "backtrace" "Ljava/lang/Object;", .lays Bundle.tN Bundle.tN "backtrace" "Ljava/lang/Object;", .lays xtN Bundle.tN "backtrace" "Ljava/lang/Object;"]
/-- the words of this throw: its class's constructor calls by the entry 13 -/
def xtAtoms : List Cond := Bundle.throwableAtoms ++ (Bundle.throwableSAtoms ++ (Bundle.passSAtoms xtN xtR 13 prog_14_method_4_code ++ (Bundle.chainSAtoms xtR [xtE] ++ xtOwn)))
theorem xt_1 : ∀ x ∈ Bundle.throwableAtoms, x ∈ xtAtoms := fun _ h => List.mem_append_left _ h
theorem xt_2 : ∀ x ∈ Bundle.throwableSAtoms, x ∈ xtAtoms := fun _ h => List.mem_append_right _ (List.mem_append_left _ h)
theorem xt_3 : ∀ x ∈ Bundle.passSAtoms xtN xtR 13 prog_14_method_4_code, x ∈ xtAtoms := fun _ h => List.mem_append_right _ (List.mem_append_right _ (List.mem_append_left _ h))
theorem xt_4 : ∀ x ∈ Bundle.chainSAtoms xtR [xtE], x ∈ xtAtoms := fun _ h => List.mem_append_right _ (List.mem_append_right _ (List.mem_append_right _ (List.mem_append_left _ h)))
theorem xt_5 : ∀ x ∈ xtOwn, x ∈ xtAtoms := fun _ h => List.mem_append_right _ (List.mem_append_right _ (List.mem_append_right _ (List.mem_append_right _ h)))
theorem xt_d0 : decode prog_14_method_4_code 0 = .ok (.aload_n 0, 1) := by decide +kernel
theorem xt_d1 : decode prog_14_method_4_code 1 = .ok (.aload_n 1, 1) := by decide +kernel
theorem xt_d2 : decode prog_14_method_4_code 2 = .ok (.invokespecial 13, 3) := by decide +kernel
theorem xt_d5 : decode prog_14_method_4_code 5 = .ok (.return_, 1) := by decide +kernel
set_option maxHeartbeats 1000000 in
/-- new NoSuchElementException(text), behind its making and the text's load: the constructors, then the throw leaves the method -/
theorem xt_ctor {p : Program} {l : Launch} {e : Env} {R : Room} {s : State} {m₀ : MethodId} {args : Array Value} {below : List Frame} {meth : Method} {c : Code} {V : State} {cells slots : Nat} (X : Stand p l e R s m₀ args below meth c V [] cells slots) (hexec : p.tables.exec = Jvm.exec) (htr : e.platform.stackTraces = false)
    (hown : s.vm.findClass RX3 = some m₀.cls) (h : ∀ a ∈ xtAtoms, a.before args s = true)
    {a : Addr} {cX : ClassId} {kX : Class} (hfoundX : s.vm.findClass xtN = some cX) (hkX : s.vm.classes[cX]? = some kX) (hcell : V.heap[a]? = some (freshCell cX kX)) (hnew : s.heap.size ≤ a) {msg : Value} (hmsg : msg.isRef = true)
    {g : JFrame} (hg : g.method = m₀) (hsize : g.locals.size = c.maxLocals) (hlocked : g.locked = none) (hentered : g.entered = []) {rest : List Value} (hstack : g.stack = msg :: .ref a :: .ref a :: rest)
    (hd6 : decode c.code g.pc = .ok (.invokespecial 145, 3)) (hd9 : decode c.code (g.pc + 3) = .ok (.athrow, 1)) (hout : ∀ x ∈ c.exceptionTable.toList, covers x (g.pc + 3) = false)
    (hRframes : 5 < R.frames) (hRlocals : 2 * g.monitorRoom + ((Value.ref a :: rest).map fun v => v.category).sum + 81 ≤ R.locals) (hlocks : meth.locks = false) :
    ∃ U : State, Steps p.tables e below (V.setTop g) U ∧ U.status = .running ∧ Ended U below (.threw a) ∧ s.WarmedH U.vm ∧ s.sameButNew ({ U with vm := s.vm } : State) [] cells slots ∧ ∃ ce, U.heap[a]? = some ce ∧ s.vm.findClass xtN = some ce.cls ∧ ce.vm = .none := by
  have howns : e.platform.frameOwnsMonitors = true := by rw [X.admits.platform]
  have hfin : e.platform.finalization = false := by rw [X.admits.platform]
  have hpl : e.platform.magicAccessors = ({} : Platform).magicAccessors := by rw [X.admits.platform]
  obtain ⟨T, Z0, L, -, Y⟩ := Bundle.ThrowableC.of_atoms (args := args) howns hfin hpl (fun x hx => h x (xt_1 x hx))
  obtain ⟨Z, M, LZ, LM, hnZ⟩ := Init0T.ofS_atoms (args := args) hpl L Y (fun x hx => h x (xt_2 x hx))
  obtain ⟨P0, L0, hP0m, hP0s⟩ := PassC.ofS_atoms (args := args) (s := s) hpl (X := xtN) (Y := xtR) (by decide +kernel) (by decide +kernel) xt_d0 xt_d1 xt_d2 xt_d5 (fun x hx => h x (xt_3 x hx))
  obtain ⟨P1, Ps, hlen, L1, hL, hP1m, hlink1, hlink⟩ := Bundle.chainS (args := args) hpl hnZ [xtE] xtR (by decide +kernel) (by decide +kernel) (fun x hx => h x (xt_4 x hx))
  have hfound : s.vm.findClass xtN = some P0.m.cls := findClass_of_methodNamed hP0m
  cases Option.some.inj (hfoundX.symm.trans hfound)
  sorry
