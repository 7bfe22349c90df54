/-! The throw of an exception, made where it's thrown; a walk may be begun anew at any state (exS), so that what was written before stays known. -/
def exS (s T : State) : State := { s with heap := T.heap, slotsUsed := T.slotsUsed, vm := T.vm }
section RB
variable {p : Program} {l : Launch} {e : Env} {R : Room} {s : State} {m : MethodId} {args : Array Value} {below : List Frame} {meth : Method} {c : Code} {H : Heap} {T : State} {locs : List Loc} {cells slots : Nat}
theorem ex_loc (X : Stand p l e R s m args below meth c T locs cells slots) : (exS s T).localsInUse = s.localsInUse := by
  have hf : (exS s T).frames = s.frames := rfl
  unfold State.localsInUse
  rw [hf, X.frames]
  show _ + ((((T.vm.method? m).bind (·.code)).map (·.maxLocals)).getD 0 + 11) = _ + ((((s.vm.method? m).bind (·.code)).map (·.maxLocals)).getD 0 + 11)
  rw [X.warmed.alike.method?]
theorem ex_hears {s T : State} (hW : s.WarmedH T.vm) {m : MethodId} {below : List Frame} (h : s.hears m below = true) : (exS s T).hears m below = true := by
  have hc : ∀ k, (exS s T).code? k = s.code? k := fun k => by
    rw [State.code?_eq, State.code?_eq]
    show (T.vm.method? k).bind _ = _
    rw [hW.alike.method?]
  have hm : ∀ k, (exS s T).vm.method? k = s.vm.method? k := fun k => by
    show T.vm.method? k = _
    rw [hW.alike.method?]
  unfold State.hears at h ⊢
  split <;> simp_all
theorem ex_back {s T U : State} {k n : Nat} (h0 : (T.setVm s.vm) = { s.setFrames T.frames with heap := T.heap, slotsUsed := T.slotsUsed }) (h : (exS s T).sameButNew U [] k n) : (T.setVm s.vm).sameButNew (U.setVm s.vm) [] k n := by
  obtain ⟨e1, e2, e3, e4, e5, e6⟩ := h
  refine ⟨?_, e2, e3, e4, e5, e6⟩
  rw [h0]
  have e7 : U.setVm s.vm = ({ (exS s T).setFrames U.frames with heap := U.heap, slotsUsed := U.slotsUsed } : State).setVm s.vm := congrArg (fun z : State => z.setVm s.vm) e1
  refine e7.trans ?_
  show ({ s.setFrames U.frames with heap := U.heap, slotsUsed := U.slotsUsed } : State) = { (s.setFrames T.frames).setFrames U.frames with heap := U.heap, slotsUsed := U.slotsUsed }
  rw [State.setFrames_setFrames]
theorem ex_eq (X : Stand p l e R s m args below meth c T locs cells slots) : (T.setVm s.vm) = { s.setFrames T.frames with heap := T.heap, slotsUsed := T.slotsUsed } := X.same.1
theorem ex_rebase (X : Stand p l e R s m args below meth c T locs cells slots) (hc : cells ≤ R.cells) (hs : slots ≤ R.slots) : Stand p l e { R with cells := R.cells - cells, slots := R.slots - slots } (exS s T) m args below meth c T [] 0 0 := by
  have hr := X.room
  have hl := ex_loc X
  have hbk := X.book
  refine ⟨X.admits, X.cas, X.clock, X.frames, ?_, ex_hears X.warmed X.hears, ?_, X.code, X.here, X.tail, State.WarmedH.refl _, X.limits, X.bytes, ?_⟩
  · simp only [State.hasRoom, Bool.and_eq_true, decide_eq_true_eq] at hr ⊢
    obtain ⟨⟨⟨⟨r1, r2⟩, r3⟩, r4⟩, r5⟩ := hr
    have h1 := X.heapSize
    have h2 := X.used
    rw [hl]
    refine ⟨⟨⟨⟨r1, r2⟩, ?_⟩, ?_⟩, hbk⟩
    · show T.heap.size + (R.cells - cells) ≤ _
      omega
    · show T.slotsUsed + (R.slots - slots) ≤ _
      omega
  · show T.vm.method? m = _
    rw [X.warmed.alike.method?]; exact X.method
  · refine ⟨?_, Nat.le_refl _, Nat.le_refl _, ?_, ?_, fun a c h => ⟨c, h, rfl, rfl, fun _ _ => rfl⟩⟩
    · have h0 := X.same.1
      exact congrArg (fun z : State => z.setVm T.vm) h0
    · show T.slotsUsed = T.slotsUsed + ((T.heap.toList.drop T.heap.size).map (·.slots.size)).sum
      rw [← Array.length_toList, List.drop_length]
      rfl
    · show ((T.heap.toList.drop T.heap.size).map (·.slots.size)).sum ≤ 0
      rw [← Array.length_toList, List.drop_length]
      exact Nat.le_refl _
end RB
/-- a static of Throwable that holds a reference: nobody writes it -/
def exZ (n d : String) (A : Nat → Prop) (U : State) : Prop := (Cond.laysStatic Bundle.tN n d).before #[] U = true ∧ (Cond.isRef (.static Bundle.tN n d)).before #[] U = true ∧ ∀ c k i f a, U.fieldFound? Bundle.tN n d = some (c, k, i, f) → k.statics = some a → ¬ A a
theorem exZ.narrow {n d : String} {A B : Nat → Prop} {U : State} (h : exZ n d A U) (hAB : ∀ q, B q → A q) : exZ n d B U := ⟨h.1, h.2.1, fun c k i f a h1 h2 h3 => h.2.2 c k i f a h1 h2 (hAB a h3)⟩
theorem exZ.kept {n d : String} {A : Nat → Prop} {U V : State} (hv : V.vm = U.vm) (hq : ∀ a : Nat, a < U.heap.size → ¬ A a → V.heap[a]? = U.heap[a]?) (h : exZ n d A U) : exZ n d A V := by
  obtain ⟨h1, h2, h3⟩ := h
  have hff : ∀ x y z, V.fieldFound? x y z = U.fieldFound? x y z := fun x y z => by unfold State.fieldFound?; rw [hv]
  obtain ⟨c, k, i, f, a, cell, g1, g2, g3, g4, g5, g6, g7, g8, g9⟩ := Cond.laysStatic_spec h1
  have g5' : V.heap[a]? = some cell := by rw [hq a (Array.getElem?_eq_some_iff.mp g5).1 (h3 c k i f a g2 g4)]; exact g5
  refine ⟨?_, ?_, fun c k i f a q1 q2 => h3 c k i f a (by rw [← hff]; exact q1) q2⟩
  · simp only [Cond.before, Cond.holds, Cond.value, hv, g1, hff, g2, g4, g5, g5', Option.bind_some] at h1 ⊢
    exact h1
  · have e1 : (Term.static Bundle.tN n d).eval #[] V none [] V = (Term.static Bundle.tN n d).eval #[] U none [] U := by
      simp [Term.eval, State.fieldNamed?, hff, g2, g3, g4, g5, g5', g6]
    simp only [Cond.before, Cond.holds, Cond.value, e1] at h2 ⊢
    exact h2
theorem exZ.warm {n d : String} {A : Nat → Prop} {U : State} {vm' : Vm} (hW : U.WarmedH vm') (h : exZ n d A U) : exZ n d A (U.setVm vm') := by
  obtain ⟨h1, h2, h3⟩ := h
  refine ⟨Cond.before_shiftedFace (State.Shifted.of_warmed hW) _ rfl h1, Cond.before_shiftedFace (State.Shifted.of_warmed hW) _ rfl h2, fun c k i f a q1 q2 => ?_⟩
  obtain ⟨c0, k0, i0, f0, a0, cell, g1, g2, g3, g4, -⟩ := Cond.laysStatic_spec h1
  obtain ⟨k', g6, g7⟩ := State.fieldFound?_setVm hW.alike g2
  cases g6.symm.trans q1
  refine h3 _ _ _ _ a g2 ?_
  rw [g7] at q2
  exact q2
/-- the words on the tables that a throw asks for -/
def xok (w : Cond) : Bool := w.onTables && w.keepsFace
def xwl : List Cond := tables_1.filter xok
def xst : List Cond := [.laysStatic Bundle.tN "UNASSIGNED_STACK" Bundle.steD, .laysStatic Bundle.tN "SUPPRESSED_SENTINEL" Bundle.listD, .isRef (.static Bundle.tN "UNASSIGNED_STACK" Bundle.steD), .isRef (.static Bundle.tN "SUPPRESSED_SENTINEL" Bundle.listD)]
def ExT (U : State) : Prop := ∀ w ∈ xwl, w.before #[] U = true
def ExZ (A : Nat → Prop) (U : State) : Prop := exZ "UNASSIGNED_STACK" Bundle.steD A U ∧ exZ "SUPPRESSED_SENTINEL" Bundle.listD A U
theorem xwl_of {w : Cond} (h : w ∈ tables_1) (g : xok w = true) : w ∈ xwl := List.mem_filter.mpr ⟨h, g⟩
theorem xwl_ok {w : Cond} (h : w ∈ xwl) : w.onTables = true ∧ w.keepsFace = true := by
  have h1 := (List.mem_filter.mp h).2
  unfold xok at h1
  exact Bool.and_eq_true_iff.mp h1
theorem ExT.same {u U : State} (h : U.vm = u.vm) (g : ExT u) : ExT U := fun w hw => va_tabs (xwl_ok hw).1 h.symm (g w hw)
theorem ExT.warm {s U : State} (hW : s.WarmedH U.vm) (g : ExT s) : ExT U := fun w hw => va_tabs (xwl_ok hw).1 (rfl : (s.setVm U.vm).vm = U.vm) (Cond.before_shiftedFace (args := #[]) (State.Shifted.of_warmed hW) w (xwl_ok hw).2 (g w hw))
theorem ExT.use {U : State} (g : ExT U) {w : Cond} (hw : w ∈ xwl) (A : Array Value) : w.before A U = true := va_tabs (xwl_ok hw).1 rfl (g w hw)
theorem ExZ.narrow {A B : Nat → Prop} {U : State} (h : ExZ A U) (hAB : ∀ q, B q → A q) : ExZ B U := ⟨h.1.narrow hAB, h.2.narrow hAB⟩
theorem ExZ.to {A : Nat → Prop} {s U : State} (hW : s.WarmedH U.vm) (hq : ∀ a : Nat, a < s.heap.size → ¬ A a → U.heap[a]? = s.heap[a]?) (h : ExZ A s) : ExZ A U :=
  ⟨exZ.kept (U := s.setVm U.vm) rfl hq (exZ.warm hW h.1), exZ.kept (U := s.setVm U.vm) rfl hq (exZ.warm hW h.2)⟩
theorem ExZ.use {A : Nat → Prop} {U : State} (h : ExZ A U) {w : Cond} (hw : w ∈ xst) (args : Array Value) : w.before args U = true := by
  simp only [xst, List.mem_cons, List.not_mem_nil, or_false] at hw
  rcases hw with rfl | rfl | rfl | rfl
  · exact h.1.1
  · exact h.2.1
  · exact h.1.2.1
  · exact h.2.2.1
/-- the words that the making and the throwing of an exception of the class X ask for, whose constructor (bytes rx) hands its text on to RuntimeException's by the entry ix -/
def xAtoms (ic : Nat) (X : String) (ix : Nat) (rx : ByteArray) : List Cond :=
  Bundle.throwableAtoms ++ (Bundle.throwableSAtoms ++ (Bundle.passSAtoms X "java/lang/RuntimeException" ix rx ++ (Bundle.chainSAtoms "java/lang/RuntimeException" ["java/lang/Exception"] ++
  [.methodLink R_Bus ic (Bundle.initS X), .instantiable X 6, .selects X Bundle.tFill0 Bundle.tFill0, .selects X Bundle.tFill Bundle.tFill,
   .lays X Bundle.tN "cause" "Ljava/lang/Throwable;", .lays X Bundle.tN "stackTrace" Bundle.steD, .lays X Bundle.tN "suppressedExceptions" Bundle.listD, .lays X Bundle.tN "detailMessage" "Ljava/lang/String;",
   .isRef (.static Bundle.tN "UNASSIGNED_STACK" Bundle.steD), .isRef (.static Bundle.tN "SUPPRESSED_SENTINEL" Bundle.listD),
   .fieldLink Bundle.tN 198 Bundle.tN "backtrace" "Ljava/lang/Object;", .lays Bundle.tN Bundle.tN "backtrace" "Ljava/lang/Object;", .lays X Bundle.tN "backtrace" "Ljava/lang/Object;"])))
theorem ex_sel {p : Program} {l : Launch} {e : Env} {R : Room} {s : State} {m : MethodId} {args : Array Value} {below : List Frame} {meth : Method} {c : Code} {T : State} {locs : List Loc} {cells slots : Nat} (X : Stand p l e R s m args below meth c T locs cells slots) {cls : String} {y : MethodName} {k : ClassId} {f : MethodId} (hf : s.vm.findClass cls = some k) (hy : y.cls ≠ "java/lang/invoke/MethodHandle" ∧ y.cls ≠ "java/lang/invoke/VarHandle") (hn : s.methodNamed? y = some f) (h : (Cond.selects cls y y).before args s = true) : selectMethod e.platform s.vm k f = .method f := by
  obtain ⟨c2, r2, m2, q1, q2, q3, q4, -⟩ := Cond.selects_spec h
  cases q1.symm.trans hf
  cases q2.symm.trans (State.methodFound?_of_named hn hy)
  cases q3.symm.trans hn
  rw [Launch.admits_selectMethod X.admits]
  exact q4
section CT
variable {p : Program} {l : Launch} {e : Env} {R : Room} {s : State} {m : MethodId} {args : Array Value} {below : List Frame} {meth : Method} {c : Code} {V : State} {cells slots : Nat}
set_option maxHeartbeats 1000000 in
/-- behind 'new, dup, ldc' of an exception: its constructor, and the throw -/
theorem ex_ctor (X : Stand p l e R s m args below meth c V [] cells slots) (hexec : p.tables.exec = Jvm.exec) (htr : e.platform.stackTraces = false) (hlocks : meth.locks = false) {cls : String} {ic ix : Nat} {rx : ByteArray}
    (x0 : decode rx 0 = .ok (.aload_n 0, 1)) (x1 : decode rx 1 = .ok (.aload_n 1, 1)) (x2 : decode rx 2 = .ok (.invokespecial ix, 3)) (x5 : decode rx 5 = .ok (.return_, 1))
    (hown : s.vm.findClass R_Bus = some m.cls) (hcls : Bundle.fit cls = true) (hw : ∀ w ∈ xAtoms ic cls ix rx, w.before args s = true)
    {a : Addr} {cX : ClassId} {kX : Class} (hfX : s.vm.findClass cls = some cX) (hkX : s.vm.classes[cX]? = some kX) (hcell : V.heap[a]? = some (freshCell cX kX)) (hnew : s.heap.size ≤ a) {sa : Nat}
    {g : JFrame} (hg : g.method = m) (hsize : g.locals.size = c.maxLocals) (hlocked : g.locked = none) (hentered : g.entered = []) (hstack : g.stack = [.ref sa, .ref a, .ref a])
    (hd1 : decode c.code g.pc = .ok (.invokespecial ic, 3)) (hd2 : decode c.code (g.pc + 3) = .ok (.athrow, 1)) (hout : ∀ x ∈ c.exceptionTable.toList, covers x (g.pc + 3) = false)
    (hRf : 5 < R.frames) (hRl : 2 * g.monitorRoom + 1 + 81 ≤ R.locals) :
    ∃ U : State, Steps p.tables e below (V.setTop g) U ∧ U.status = .running ∧ Ended U below (.threw a) ∧ s.WarmedH U.vm ∧ s.sameButNew ({ U with vm := s.vm } : State) [] cells slots ∧ ∃ ce, U.heap[a]? = some ce ∧ s.vm.findClass cls = some ce.cls ∧ ce.vm.isStatics = false := by
  have hpl : e.platform.magicAccessors = ({} : Platform).magicAccessors := by rw [X.admits.platform]
  have w1 : ∀ w ∈ Bundle.throwableAtoms, w.before args s = true := fun w h => hw w (List.mem_append_left _ h)
  have w2 : ∀ w ∈ Bundle.throwableSAtoms, w.before args s = true := fun w h => hw w (List.mem_append_right _ (List.mem_append_left _ h))
  have w3 : ∀ w ∈ Bundle.passSAtoms cls "java/lang/RuntimeException" ix rx, w.before args s = true := fun w h => hw w (List.mem_append_right _ (List.mem_append_right _ (List.mem_append_left _ h)))
  have w4 : ∀ w ∈ Bundle.chainSAtoms "java/lang/RuntimeException" ["java/lang/Exception"], w.before args s = true := fun w h => hw w (List.mem_append_right _ (List.mem_append_right _ (List.mem_append_right _ (List.mem_append_left _ h))))
  have w5 := fun w h => hw w (List.mem_append_right _ (List.mem_append_right _ (List.mem_append_right _ (List.mem_append_right _ h))))
  obtain ⟨T, Z0, L, -, Y⟩ := ThrowableC.of_atoms (args := args) (by rw [X.admits.platform] : e.platform.frameOwnsMonitors = true) (by rw [X.admits.platform] : e.platform.finalization = false) hpl w1
  obtain ⟨Z, M, LZ, LM, hnZ⟩ := Init0T.ofS_atoms (args := args) hpl L Y w2
  obtain ⟨Q, LQ, hQm, hQs⟩ := PassC.ofS_atoms (args := args) hpl (Bundle.fit_spec hcls).1 (by decide) x0 x1 x2 x5 w3
  obtain ⟨P1, Ps, hlen, L1, hL, hP1m, hl1, hl2⟩ := Bundle.chainS (args := args) hpl hnZ ["java/lang/Exception"] "java/lang/RuntimeException" (by decide +kernel) (by decide +kernel) w4
  have hQP : Q.sup = P1.m := Option.some.inj (hQs.symm.trans hP1m)
  have hfQ : s.vm.findClass cls = some Q.m.cls := findClass_of_methodNamed hQm
  cases hfX.symm.trans hfQ
  obtain ⟨c1, kX', hc1, hk, hord, -, -, -⟩ := Cond.instantiable_spec (w5 (.instantiable cls 6) (by simp))
  cases hc1.symm.trans hfQ
  cases hkX.symm.trans hk
  have hs0 := ex_sel X hfQ (by decide) Y.fill0 (w5 (.selects cls Bundle.tFill0 Bundle.tFill0) (by simp))
  have hsF := ex_sel X hfQ (by decide) Y.fill (w5 (.selects cls Bundle.tFill Bundle.tFill) (by simp))
  obtain ⟨cS, hcS, hiss⟩ := Y.statics
  obtain ⟨u0, hu0⟩ := Cond.staticRefV Y.unassigned L.unassignedStatic L.statics hcS hiss (w5 (.isRef (.static Bundle.tN "UNASSIGNED_STACK" Bundle.steD)) (by simp))
  obtain ⟨sn, hsn⟩ := Cond.staticRefV Y.sentinel L.sentinelStatic L.statics hcS hiss (w5 (.isRef (.static Bundle.tN "SUPPRESSED_SENTINEL" Bundle.listD)) (by simp))
  have hcS' : V.heap[T.aS]? = some cS := X.same.old_cell hcS
  obtain ⟨k1, k2, fB, g1, g2, g3, g4, -, gB, tB, hfB⟩ := Cond.ownField (t := .object "java/lang/Object") Y.found L.cls (by decide +kernel) (w5 (.fieldLink Bundle.tN 198 Bundle.tN "backtrace" "Ljava/lang/Object;") (by simp)) (w5 (.lays Bundle.tN Bundle.tN "backtrace" "Ljava/lang/Object;") (by simp)) e.platform hpl
  obtain ⟨iM, hfM⟩ := Y.msg
  obtain ⟨tC, _, dC, nC⟩ := Cond.laysAt hfQ hk Y.cause (w5 (.lays cls Bundle.tN "cause" "Ljava/lang/Throwable;") (by simp))
  obtain ⟨tS, _, dS, nS⟩ := Cond.laysAt hfQ hk Y.stack (w5 (.lays cls Bundle.tN "stackTrace" Bundle.steD) (by simp))
  obtain ⟨tP, _, dP, nP⟩ := Cond.laysAt hfQ hk Y.supp (w5 (.lays cls Bundle.tN "suppressedExceptions" Bundle.listD) (by simp))
  obtain ⟨tM, _, dM, nM⟩ := Cond.laysAt hfQ hk hfM (w5 (.lays cls Bundle.tN "detailMessage" "Ljava/lang/String;") (by simp))
  obtain ⟨tZ, _, dZ, nZ⟩ := Cond.laysAt hfQ hk hfB (w5 (.lays cls Bundle.tN "backtrace" "Ljava/lang/Object;") (by simp))
  have bC := Cond.laysApart dZ dC nZ nC (by rw [gB, Y.causeName]; decide)
  have bS := Cond.laysApart dZ dS nZ nS (by rw [gB, Y.stackName]; decide)
  have bP := Cond.laysApart dZ dP nZ nP (by rw [gB, Y.suppName]; decide)
  have hsk : SkipFacts T e.platform s (fun u => u) u0 ((preparedCellV T.toThrowableT (freshCell Q.m.cls kX) a u0 sn).withEntry V.cur) := by
    refine ⟨{ ci198 := k1, i198 := k2, fBack := fB }, ⟨g1, g2, g3, g4⟩, ?_, fun _ _ => rfl⟩
    have h := fresh_default (c := Q.m.cls) tZ
    rw [tB] at h
    simpa [preparedCellV, Cell.setSlot, Cell.withEntry, Array.getElem?_setIfInBounds, bC, bS, bP, bC.symm, bS.symm, bP.symm, defaultValue] using h
  have hi1 : (Cond.instanceMethod (Bundle.initS cls)).before args s = true := w3 _ (by simp [Bundle.passSAtoms])
  have hi2 : (Cond.code (Bundle.initS cls) rx 2 none).before args s = true := w3 _ (by simp [Bundle.passSAtoms])
  obtain ⟨tm, _, _, _, vm₁, hnC, -, -, -, -, -, -, -, hW₁, st1⟩ := Steps.initColdS (tb := p.tables) (e := e) (below := below) (s := s) (U := V) X.here hexec X.warmed hpl hown (t := Bundle.initS cls) rfl rfl (Bundle.fit_spec hcls).2 (w5 (.methodLink R_Bus ic (Bundle.initS cls)) (by simp)) hi1 hi2 (f := g) hg (a := a) (msg := .ref sa) (rest := [.ref a]) hstack hd1
  cases hnC.symm.trans hQm
  obtain ⟨vm₂, X₂, st2⟩ := (X.noted hW₁).ctorMessageOffV hexec (g := { g with stack := [.ref a] }) hg hsize T L Z LZ M LM (Q :: P1 :: Ps)
    (fun P hP => by
      rcases List.mem_cons.mp hP with rfl | hP
      · exact LQ
      · rcases List.mem_cons.mp hP with rfl | hP
        · exact L1
        · exact hL P hP) ⟨hQP, hl1, hl2⟩ (u0 := u0) (sen := sn) (self := a) (msg := .ref sa) rfl (cell := freshCell Q.m.cls kX) (cellS := cS) hcell (fun _ => by simp) (by simp) rfl rfl hs0 hsF hcS'
    (Nat.ne_of_lt (Nat.lt_of_lt_of_le (Array.getElem?_eq_some_iff.mp hcS).1 hnew)) (fun h => by rw [h] at hiss; cases hiss) hu0 hsn
    (Takes.of_laid hk hord tC (by rw [Y.causeType]; rfl)) (Takes.of_laid hk hord tS (by rw [Y.stackType]; exact fits_refV_array _ u0)) (Takes.of_laid hk hord tP (by rw [Y.suppType]; exact fits_refV_object _ sn)) (Takes.of_laid hk hord tM (by rw [Y.msgType]; exact fits_refV_object _ ⟨.ref sa, rfl⟩)) Y.objLocals hsk htr [] hd1
    (by simp only [List.length_cons, hlen, List.length_nil]; omega) (by
      simp only [List.length_cons, hlen, List.length_nil]
      show 2 * g.monitorRoom + 1 + _ ≤ _
      omega)
  obtain ⟨hwalk, hrun, hend, hWU, hsame⟩ := X₂.athrowLeaves hexec (g := { g with stack := [.ref a], pc := g.pc + 3 }) hg hlocked hentered hout (a := a) (rest := []) rfl hd2
  have hlt : a < ((V.setVm vm₁).setVm vm₂).heap.size := (Array.getElem?_eq_some_iff.mp hcell).1
  refine ⟨_, st1 _ (fun acts => ?_), hrun, hend, hWU, hsame.weaken (fun y hy hlt' => ?_) (Nat.le_refl _) (Nat.le_refl _), _, heapAt_setCell_self (s := (V.setVm vm₁).setVm vm₂) (plainBareV T.toThrowableT (freshCell Q.m.cls kX) a u0 sn (.ref sa)) hlt, hfQ, rfl⟩
  · rw [doInvoke_state]
    exact st2 _ hwalk
  · exfalso
    have hb : y.base = a := by
      simp only [List.nil_append, List.mem_cons, List.not_mem_nil, or_false] at hy
      rcases hy with rfl | rfl | rfl | rfl | rfl <;> rfl
    rw [hb] at hlt'
    exact Nat.not_lt.mpr hnew hlt'
end CT
/-- what the tables say of a throw of the class 'cls': the entries of the class and of its constructor -/
def XC (i1 i3 : Nat) (cls : String) : Prop := Cond.classLink R_Bus i1 cls ∈ xwl ∧ Cond.initialized cls ∈ xwl ∧ Cond.instantiable cls 6 ∈ xwl ∧ (∃ (ix : Nat) (rx : ByteArray), (∀ w ∈ xAtoms i3 cls ix rx, w ∈ xwl ∨ w ∈ xst) ∧ decode rx 0 = .ok (.aload_n 0, 1) ∧ decode rx 1 = .ok (.aload_n 1, 1) ∧ decode rx 2 = .ok (.invokespecial ix, 3) ∧ decode rx 5 = .ok (.return_, 1)) ∧ Bundle.fit cls = true
section TH
variable {p : Program} {l : Launch} {e : Env} {R : Room} {s : State} {m : MethodId} {args : Array Value} {below : List Frame} {meth : Method} {c : Code} {H : Heap} {locs : List Loc} {cc : ByteArray} {pc i1 i2 i3 : Nat} {cls : String} {ls : Array Slot} {A : Nat → Prop} {Qc : Array Value → State → Outcome → State → Prop} {free : Addr → Prop}
set_option maxHeartbeats 1000000 in
theorem ex_throw (hx : p.tables.exec = Jvm.exec) (hb : c.code = cc) (hl : l.stackTraces = false) (hlocks : meth.locks = false) (hT : ExT s) (hZ : ExZ A s) (hown : s.vm.findClass R_Bus = some m.cls) (hempty : c.exceptionTable.isEmpty = true) (hS : va_S A s.heap H locs) (hk : XC i1 i3 cls)
    {sa : Nat} {w3 : Nat} (hld : ∀ (T : State) (s' : State) (R' : Room) (L' : List Loc) (k' n' : Nat) (g : JFrame), s.WarmedH s'.vm → Stand p l e R' s' m args below meth c T L' k' n' → g.method = m → g.pc = pc + 4 → ∀ target, Steps p.tables e below (T.setTop { g with pc := pc + 4 + w3, stack := .ref sa :: g.stack }) target → Steps p.tables e below (T.setTop g) target)
    (hd1 : decode cc pc = .ok (.new i1, 3)) (hd2 : decode cc (pc + 3) = .ok (.dup, 1)) (hd4 : decode cc (pc + 4 + w3) = .ok (.invokespecial i3, 3)) (hd5 : decode cc (pc + 4 + w3 + 3) = .ok (.athrow, 1))
    (hR : 6 ≤ R.frames ∧ 82 ≤ R.locals ∧ 1 ≤ R.cells ∧ 6 ≤ R.slots) (hsz : ls.size = c.maxLocals)
    (hQ : ∀ (t : State) (x : Nat) (ce : Cell), s.WarmedH t.vm → H.size ≤ t.heap.size → (∀ q : Nat, q < H.size → t.heap[q]? = H[q]?) → t.heap[x]? = some ce → t.vm.findClass cls = some ce.cls → ce.vm.isStatics = false → Qc args s (.threw x) t) (hfree : ∀ q ∈ locs, free q.base) :
    W p l e R s m args below meth c H locs 0 0 (MQX below Qc args s 1 6 free) (F0 m pc ls []) := by
  intro T hTH X
  obtain ⟨k1, k2, k3, k4, k5⟩ := hk
  have htr : e.platform.stackTraces = false := by rw [X.admits.platform]; exact hl
  have Y := ex_rebase X (Nat.zero_le _) (Nat.zero_le _)
  have hWs : s.WarmedH (exS s T).vm := X.warmed
  have hE : ExT (exS s T) := hT.warm hWs
  have hZ' : ExZ A (exS s T) := hZ.to hWs (fun a h1 h2 => by
    show T.heap[a]? = _
    rw [hTH]; exact hS.2.1 a h1 h2)
  have hown' : (exS s T).vm.findClass R_Bus = some m.cls := by rw [hWs.alike.findClass]; exact hown
  obtain ⟨vm₁, cX, kX, hfX, hkX, -, -, X₁, st1⟩ := Y.newCold hx (own := R_Bus) (C := cls) (index := i1) (n := 6) hown' (hE.use k1 _) (hE.use k3 _) (hE.use k2 _) (g := F0 m pc ls []) rfl (by rw [hb]; exact hd1) (by show 0 + 1 ≤ R.cells - 0; omega) (by show 0 + 6 ≤ R.slots - 0; omega)
  generalize hT1 : (T.setVm vm₁).pushCell { cls := cX, slots := kX.instanceTypes.map defaultValue, vm := .none } = T1 at X₁ st1
  have hcellA : T1.heap[T.heap.size]? = some (freshCell cX kX) := by rw [← hT1]; exact State.heap_pushCell_size _ _
  obtain ⟨ix, rx, k4, x0, x1, x2, x5⟩ := k4
  obtain ⟨U, hsteps, hrun, hend, hWU, hsame, ce, hce, K⟩ := ex_ctor X₁ hx htr hlocks x0 x1 x2 x5 hown' k5 (fun w hw => (k4 w hw).elim (fun h => hE.use h _) (fun h => hZ'.use h _)) hfX hkX hcellA (Nat.le_refl _) (sa := sa)
    (g := F0 m (pc + 4 + w3) ls [.ref sa, .ref T.heap.size, .ref T.heap.size]) rfl hsz rfl rfl rfl (by rw [hb]; exact hd4) (by rw [hb]; exact hd5) (covers_of_empty hempty _) (by show 5 < R.frames; omega) (by
      show 2 * 0 + 1 + 81 ≤ R.locals
      omega)
  have hkeep : ∀ q : Nat, q < H.size → U.heap[q]? = H[q]? := by
    intro q hq
    rw [← hTH] at hq ⊢
    have h1 := (Array.getElem?_eq_getElem hq : T.heap[q]? = some T.heap[q])
    rw [h1]
    exact hsame.old_cell (show (exS s T).heap[q]? = some T.heap[q] from h1)
  have hsz2 : H.size ≤ U.heap.size := by rw [← hTH]; exact hsame.2.1
  have hWsU : s.WarmedH U.vm := State.WarmedH.trans hWs hWU
  refine ⟨U, ?_, .threw T.heap.size, hrun, hend, hQ U T.heap.size ce hWsU hsz2 hkeep hce (by rw [hWU.alike.findClass]; exact K.1) K.2, locs, ⟨hWsU, ?_⟩, hfree⟩
  · refine st1 _ ?_
    show Steps p.tables e below (T1.setTop (F0 m (pc + 3) ls [.ref T.heap.size])) _
    unfold F0
    jvm_step X₁.here [X₁.here.top, hx, hb, hd2, Value.category]
    exact hld T1 (exS s T) _ _ _ _ _ hWs X₁ rfl rfl _ hsteps
  · have h1 := ex_back (s := s) (ex_eq X) hsame
    have h2 := X.same.trans h1
    rw [List.append_nil, Nat.zero_add, Nat.zero_add] at h2
    exact h2
end TH
