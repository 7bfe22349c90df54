/-! A throw that a handler of the calling method takes: the types of the table's entries are resolved on the way. -/
section CA
variable {E : CtlPost} {e : Env} {d : Bool} {acts : List Action} {s : State} {f : JFrame} {a : Addr} {Q : Handler → Pre}
theorem ca_go {x : ExceptionTableEntry} {t : List ExceptionTableEntry} {c : ClassId} {cell : Cell} {vm' : Vm} (hx : covers x f.pc = true) (h0 : x.catchType ≠ 0)
    (hg : (resolveClass f.method.cls x.catchType).Gives e.toSetting s.vm (.ok c) vm') (hsz : vm'.classes.size ≤ s.vm.classes.size) (hcell : s.heap[a]? = some cell) (hobj : ∀ k, cell.vm ≠ .statics k)
    (hk : ∃ k, vm'.classes[cell.cls]? = some k) (hc : ∃ k, vm'.classes[c]? = some k) :
    Sem.wp (findHandler.go f a (x :: t)) Q E e d acts s ↔ if vm'.assignable cell.cls c = true then Q (.found x.handlerPc) d acts (s.setVm vm') else Sem.wp (findHandler.go f a t) Q E e d acts (s.setVm vm') := by
  simp only [covers] at hx
  obtain ⟨ha, ht⟩ := hg.op (op := VmOp.resolveClass f.method.cls x.catchType) rfl
  obtain ⟨k, hk⟩ := hk
  obtain ⟨k2, hc⟩ := hc
  cases hfit : vm'.assignable cell.cls c <;>
    simp [findHandler.go, hx, h0, ha, ht, hsz, hcell, hobj, hk, hc, hfit, VmOp.dirties, VmOp.acts]
end CA
abbrev Hn : Type := List ((Nat × Nat × Nat × Nat) × String)
def ca_pc (cls : String) : Hn → Option Nat
  | [] => none
  | q :: t => if q.2 = cls then some q.1.2.2.1 else ca_pc cls t
theorem ca_self (vm : Vm) (c : ClassId) : vm.assignable c c = true := by
  show vm.assignableAux (255 + 1) c c = true
  rw [Vm.assignableAux]
  simp
theorem ca_find {s : State} {e : Env} {args : Array Value} {f : JFrame} {a : Addr} {cell : Cell} {own cls : String} (hpl : e.platform.magicAccessors = ({} : Platform).magicAccessors) (hown : s.vm.findClass own = some f.method.cls) (hcl : s.vm.findClass cls = some cell.cls) (hobj : ∀ k, cell.vm ≠ .statics k) (hN : Hn) :
    ∀ (U : State), s.WarmedH U.vm → U.heap[a]? = some cell → (∀ q ∈ hN, (Cond.classLink own q.1.2.2.2 q.2).before args s = true ∧ (q.1.1 ≤ f.pc ∧ f.pc < q.1.2.1) ∧ q.1.2.2.2 ≠ 0) →
    (∀ q ∈ hN, q.2 ≠ cls → ∀ t, s.vm.findClass q.2 = some t → s.vm.assignable cell.cls t = false) → ∀ pc, ca_pc cls hN = some pc →
    ∃ vm', s.WarmedH vm' ∧ ∀ (Q : Handler → Pre) (E : CtlPost) (d : Bool) (acts : List Action), Sem.wp (findHandler.go f a (tableOf (hN.map (·.1)))) Q E e d acts U ↔ Q (.found pc) d acts (U.setVm vm') := by
  induction hN with
  | nil => intro U _ _ _ _ pc h; cases h
  | cons q t ih =>
    intro U hW hcell hl hno pc hpc
    obtain ⟨h1, h2, h3⟩ := hl q List.mem_cons_self
    obtain ⟨c, hfc, hcl2⟩ := Cond.classLink_spec hown h1 e.platform hpl
    obtain ⟨hg, hw, -⟩ := State.classEntry (e := e) hW hcl2
    have hsz : (U.vm.noted f.method.cls q.1.2.2.2 (.cls c)).classes.size ≤ U.vm.classes.size := Nat.le_of_eq (Vm.size_noted ..)
    generalize U.vm.noted f.method.cls q.1.2.2.2 (.cls c) = vm₁ at hg hw hsz
    have hal := hw.alike
    have hk : ∃ k, vm₁.classes[cell.cls]? = some k := Vm.classAt_of_findClass (name := cls) (by rw [hal.findClass]; exact hcl)
    have hc : ∃ k, vm₁.classes[c]? = some k := Vm.classAt_of_findClass (name := q.2) (by rw [hal.findClass]; exact hfc)
    have hx : covers ⟨q.1.1, q.1.2.1, q.1.2.2.1, q.1.2.2.2⟩ f.pc = true := by simp [covers, h2.1, h2.2]
    have hgo : ∀ (Q : Handler → Pre) (E : CtlPost) (d : Bool) (acts : List Action), Sem.wp (findHandler.go f a (tableOf ((q :: t).map (·.1)))) Q E e d acts U ↔ if vm₁.assignable cell.cls c = true then Q (.found q.1.2.2.1) d acts (U.setVm vm₁) else Sem.wp (findHandler.go f a (tableOf (t.map (·.1)))) Q E e d acts (U.setVm vm₁) := fun Q E d acts => ca_go (x := ⟨q.1.1, q.1.2.1, q.1.2.2.1, q.1.2.2.2⟩) hx h3 hg hsz hcell hobj hk hc
    by_cases hq : q.2 = cls
    · have hcc : c = cell.cls := Option.some.inj (hfc.symm.trans (by rw [hq]; exact hcl))
      have hpc' : q.1.2.2.1 = pc := by simpa [ca_pc, hq] using hpc
      refine ⟨vm₁, hw, fun Q E d acts => ?_⟩
      rw [hgo, if_pos (by rw [hcc]; exact ca_self _ _), hpc']
    · have hpc2 : ca_pc cls t = some pc := by simpa [ca_pc, hq] using hpc
      obtain ⟨vm', hw', h⟩ := ih (U.setVm vm₁) hw hcell (fun q hq => hl q (List.mem_cons_of_mem _ hq)) (fun q hq => hno q (List.mem_cons_of_mem _ hq)) pc hpc2
      refine ⟨vm', hw', fun Q E d acts => ?_⟩
      rw [hgo, if_neg (by rw [hal.assignable, hno q List.mem_cons_self hq c hfc]; decide)]
      exact h Q E d acts
theorem ca_step {e : Env} {s : State} {a : Addr} {f : JFrame} {r : List Frame} {pc : Nat} {vm' : Vm} (hfind : ∀ (Q : Handler → Pre) (E : CtlPost) (d : Bool) (acts : List Action), Sem.wp (findHandler f a) Q E e d acts s ↔ Q (.found pc) d acts (s.setVm vm')) :
    (stepThrowing e s a (.java f :: r)).Is ((s.setVm vm').setFrames (.java { f with pc := pc, stack := [.ref a] } :: r)) [] := by
  simp only [stepThrowing, searchFrame, vmDo]
  generalize hr : Sem.go _ e false [] s = res
  obtain ⟨as, rfl, ha⟩ := Sem.eq_ok_of hr (a := Handler.found pc) (s' := s.setVm vm') (acts' := []) (by simp [hfind _ _ _ _])
  exact ⟨rfl, ha⟩
theorem ca_catch {p : Program} {l : Launch} {e : Env} {R : Room} {s : State} {m : MethodId} {args : Array Value} {below : List Frame} {meth : Method} {c : Code} {T : State} {locs : List Loc} {cells slots : Nat} (X : Stand p l e R s m args below meth c T locs cells slots) {g : JFrame} (hg : g.method = m) {own cls : String} {a : Addr} {cell : Cell} {hN : Hn} {pc : Nat} (hown : s.vm.findClass own = some m.cls) (htab : c.exceptionTable.toList = tableOf (hN.map (·.1))) (hcell : T.heap[a]? = some cell) (hobj : cell.vm.isStatics = false) (hcl : s.vm.findClass cls = some cell.cls)
    (hl : ∀ q ∈ hN, (Cond.classLink own q.1.2.2.2 q.2).before args s = true ∧ (q.1.1 ≤ g.pc ∧ g.pc < q.1.2.1) ∧ q.1.2.2.2 ≠ 0) (hno : ∀ q ∈ hN, q.2 ≠ cls → ∀ t, s.vm.findClass q.2 = some t → s.vm.assignable cell.cls t = false) (hpc : ca_pc cls hN = some pc) :
    ∃ vm', Stand p l e R s m args below meth c (T.setVm vm') locs cells slots ∧ ∀ target, Steps p.tables e below ((T.setVm vm').setTop { g with pc := pc, stack := [.ref a] }) target → Steps p.tables e below ((T.setTop g).pushFrame (.throwing a)) target := by
  subst hg
  have hpl : e.platform.magicAccessors = ({} : Platform).magicAccessors := by rw [X.admits.platform]
  have hvm := Stand.throwing_vm T g a
  have hhp := Stand.throwing_heap T g a
  obtain ⟨vm', hw, hgo⟩ := ca_find (e := e) (f := g) (a := a) hpl hown hcl (VmData.ne_statics_of hobj) hN ((T.setTop g).pushFrame (.throwing a)) (by rw [hvm]; exact X.warmed) (by rw [hhp]; exact hcell) hl hno pc hpc
  have hm' : ((T.setTop g).pushFrame (.throwing a)).vm.method? g.method = some meth := by rw [hvm, X.warmed.alike.method?]; exact X.method
  have hfind : ∀ (Q : Handler → Pre) (E : CtlPost) (d : Bool) (acts : List Action), Sem.wp (findHandler g a) Q E e d acts ((T.setTop g).pushFrame (.throwing a)) ↔ Q (.found pc) d acts (((T.setTop g).pushFrame (.throwing a)).setVm vm') := fun Q E d acts => (W.findHandler_eq hm' X.code).trans (by rw [htab]; exact hgo Q E d acts)
  refine ⟨vm', X.noted hw, fun target hrest => ?_⟩
  have h := X.here
  obtain ⟨hgoes, hwi⟩ := h.throwing a
  refine Steps.head hgoes hwi ?_
  rw [stepThread_throwing (frames_entered h.top _), (ca_step (s := (T.setTop g).pushFrame (.throwing a)) hfind).1]
  obtain ⟨g₀, hg0⟩ := Option.isSome_iff_exists.mp h.top
  obtain ⟨r, hr⟩ := State.topJava?_eq_some.mp hg0
  have hr' : (T.setVm vm').frames = .java g₀ :: r := hr
  have e1 : ((T.setTop g).pushFrame (.throwing a)).setVm vm' = ((T.setVm vm').setTop g).pushFrame (.throwing a) := rfl
  rw [e1, State.pushFrame, State.setFrames_setFrames, State.setTop_of_frames _ hr', State.setFrames_setFrames]
  rw [State.setTop_of_frames _ hr'] at hrest
  rw [hr]
  exact hrest
def xall : List String := [xIAE, xISE, xNSE, xARI, xUNS]
/-- none of the five types of a throw is another's -/
def ExC (U : State) : Prop := ∀ x ∈ xall, ∀ y ∈ xall, x ≠ y → ∀ c t, U.vm.findClass x = some c → U.vm.findClass y = some t → U.vm.assignable c t = false
theorem ExC.moved {u U : State} (hv : u.vm.Alike U.vm) (h : ExC u) : ExC U := fun x hx y hy hxy c t h1 h2 => by
  rw [hv.findClass] at h1 h2
  rw [hv.assignable]
  exact h x hx y hy hxy c t h1 h2
/-- the map of the law's block: the bus, the model, the two arrays for answers -/
def LM (B : Nat) (ca : Nat → ClassId) (σ τ : Sg) (x : Nat → Int64) (y : Nat → UInt64) (o : Nat) : va_E :=
  if o < 182 then enc B ca SB σ o else if o < 213 then enc (B + 182) ca SM τ (o - 182) else if o = 213 then .inl (ca 8, 1, .inr (.inl x)) else .inl (ca 9, 1, .inr (.inr (.inr (.inl y))))
theorem LM_bus {B : Nat} {ca : Nat → ClassId} {σ τ : Sg} {x : Nat → Int64} {y : Nat → UInt64} {o : Nat} (h : o < 182) : LM B ca σ τ x y o = enc B ca SB σ o := if_pos h
theorem LM_off {B : Nat} {ca : Nat → ClassId} {σ σ' τ : Sg} {x : Nat → Int64} {y : Nat → UInt64} {o : Nat} (h : ¬ o < 182) : LM B ca σ' τ x y o = LM B ca σ τ x y o := by
  unfold LM
  rw [if_neg h, if_neg h]
/-- what a call of an adapter asks besides -/
def ExA (s : State) (B : Nat) : Prop := ExT s ∧ ExZ (mA B 215 s.heap.size) s ∧ ExR s ∧ ExC s
def aPc (D : va_G) (ca : Nat → ClassId) (B sz : Nat) (M : Nat → va_E) (av : List Value) : Array Value → State → Prop :=
  va_Pc av (fun U => U.heap.size = sz ∧ va_P D clsB (mw B 215 M) U.heap ∧ va_K D clsB (tyL ca) U ∧ ExT U ∧ ExZ (mA B 215 sz) U ∧ ExR U ∧ ExC U)
theorem aPc_blind {D : va_G} {ca : Nat → ClassId} {B sz : Nat} {M : Nat → va_E} {av : List Value} : FrameBlind (aPc D ca B sz M av) := fun a U g mk q => by
  obtain ⟨q0, q1, qP, qK, qT, qZ, qR, qC⟩ := q
  exact ⟨q0, q1, qP, va_K.moved (u := U) (U := U.calling g mk a) (Vm.Alike.refl U.vm) qK, ExT.same (u := U) rfl qT, ⟨exZ.kept (U := U) rfl (fun _ _ _ => rfl) qZ.1, exZ.kept (U := U) rfl (fun _ _ _ => rfl) qZ.2⟩, ExR.same (u := U) rfl qR, ExC.moved (u := U) (Vm.Alike.refl U.vm) qC⟩
theorem ExA.to {s U : State} {B : Nat} {H : Heap} {locs : List Loc} (h : ExA s B) (hS : va_S (mA B 215 s.heap.size) s.heap H locs) (hU : U.heap = H) (hW : s.WarmedH U.vm) : ExT U ∧ ExZ (mA B 215 H.size) U ∧ ExR U ∧ ExC U :=
  ⟨h.1.warm hW, (h.2.1.to hW (fun a h1 h2 => by rw [hU]; exact hS.2.1 a h1 h2)).narrow (mA_le hS.1), h.2.2.1.warm hW, h.2.2.2.moved hW.alike⟩
theorem gd_w {w0 : Cond} {ws : List Cond} (h : ∀ w ∈ ws, w ∈ gtb) : GoodIn (w0 :: gtb) ws := fun w hw => ⟨List.mem_cons_of_mem _ (h w hw), good_of_word (List.mem_filter.mp (h w hw)).2⟩
theorem gd_Vw {w0 : Cond} {own C : String} {index : Nat} {y : MethodName} {bytes : ByteArray} {maxL : Nat} {ret : Option FieldType} (h1 : Cond.methodLink own index y ∈ gtb) (h2 : Cond.instanceMethod y ∈ gtb) (h3 : Cond.selects C y y ∈ gtb) (h4 : Cond.initialized C ∈ gtb) (h5 : Cond.code y bytes maxL ret ∈ gtb) : GoodIn (w0 :: gtb) (wsV own index C y (Cond.code y bytes maxL ret :: gtb)) := by
  refine gd_w fun w hw => ?_
  rcases List.mem_append.mp hw with h | h
  · simp only [List.mem_cons, List.not_mem_nil, or_false] at h
    rcases h with rfl | rfl | rfl | rfl <;> assumption
  · exact gd_code h5 w h
