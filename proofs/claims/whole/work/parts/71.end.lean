/-! What is known where the law starts. -/
theorem nc {args : Array Value} {s : State} {x y : String} {c t : ClassId} (h : (Cond.not (Cond.castable x y)).before args s = true) (h1 : s.vm.findClass x = some c) (h2 : s.vm.findClass y = some t) : s.vm.assignable c t = false := by
  cases hq : s.vm.assignable c t with
  | false => rfl
  | true => simp [Cond.before, Cond.holds, Cond.value, h1, h2, hq] at h
theorem st_C {args : Array Value} {s : State} (h : (Jvm.Cond.and given_1 narrow_1).before args s = true) : ExC s := by
  have hs := flat_of_before _ h
  intro x hx y hy hxy c t h1 h2
  simp only [xall, List.mem_cons, List.not_mem_nil, or_false] at hx hy
  rcases hx with rfl | rfl | rfl | rfl | rfl <;> rcases hy with rfl | rfl | rfl | rfl | rfl
  all_goals first | exact absurd rfl hxy | exact nc (hs _ (by decide +kernel)) h1 h2
theorem st_T {args : Array Value} {s : State} (h : ∀ w ∈ tables_1, w.before args s = true) : ExT s := fun w hw => va_tabs (xwl_ok hw).1 rfl (h w (List.mem_filter.mp hw).1)
theorem st_z {args : Array Value} {s : State} {n d : String} {A : Nat → Prop} (h1 : (Cond.laysStatic Bundle.tN n d).before args s = true) (h2 : (Cond.isRef (.static Bundle.tN n d)).before args s = true) (hA : ∀ q : Nat, q < s.heap.size → ¬ A q) : exZ n d A s := by
  refine ⟨h1, h2, fun c k i f a q1 q2 => ?_⟩
  obtain ⟨c0, k0, i0, f0, a0, cell, g1, g2, g3, g4, g5, -⟩ := Cond.laysStatic_spec h1
  cases g2.symm.trans q1
  cases g4.symm.trans q2
  exact hA _ (Array.getElem?_eq_some_iff.mp g5).1
theorem xs_in : ∀ q ∈ xstr, Cond.stringRef R_Bus q.1 q.2 ∈ tables_1 := by
  intro q hq
  simp only [xstr, List.mem_cons, List.not_mem_nil, or_false] at hq
  rcases hq with rfl | rfl | rfl | rfl | rfl | rfl | rfl | rfl | rfl | rfl | rfl | rfl | rfl | rfl | rfl | rfl | rfl | rfl | rfl | rfl | rfl | rfl | rfl | rfl | rfl | rfl | rfl | rfl
  · exact List.mem_of_getElem? (i := 332) (by decide +kernel)
  · exact List.mem_of_getElem? (i := 368) (by decide +kernel)
  · exact List.mem_of_getElem? (i := 396) (by decide +kernel)
  · exact List.mem_of_getElem? (i := 418) (by decide +kernel)
  · exact List.mem_of_getElem? (i := 429) (by decide +kernel)
  · exact List.mem_of_getElem? (i := 459) (by decide +kernel)
  · exact List.mem_of_getElem? (i := 490) (by decide +kernel)
  · exact List.mem_of_getElem? (i := 501) (by decide +kernel)
  · exact List.mem_of_getElem? (i := 510) (by decide +kernel)
  · exact List.mem_of_getElem? (i := 519) (by decide +kernel)
  · exact List.mem_of_getElem? (i := 529) (by decide +kernel)
  · exact List.mem_of_getElem? (i := 543) (by decide +kernel)
  · exact List.mem_of_getElem? (i := 588) (by decide +kernel)
  · exact List.mem_of_getElem? (i := 596) (by decide +kernel)
  · exact List.mem_of_getElem? (i := 597) (by decide +kernel)
  · exact List.mem_of_getElem? (i := 598) (by decide +kernel)
  · exact List.mem_of_getElem? (i := 615) (by decide +kernel)
  · exact List.mem_of_getElem? (i := 617) (by decide +kernel)
  · exact List.mem_of_getElem? (i := 627) (by decide +kernel)
  · exact List.mem_of_getElem? (i := 652) (by decide +kernel)
  · exact List.mem_of_getElem? (i := 657) (by decide +kernel)
  · exact List.mem_of_getElem? (i := 665) (by decide +kernel)
  · exact List.mem_of_getElem? (i := 676) (by decide +kernel)
  · exact List.mem_of_getElem? (i := 681) (by decide +kernel)
  · exact List.mem_of_getElem? (i := 698) (by decide +kernel)
  · exact List.mem_of_getElem? (i := 699) (by decide +kernel)
  · exact List.mem_of_getElem? (i := 724) (by decide +kernel)
  · exact List.mem_of_getElem? (i := 732) (by decide +kernel)
theorem st_R {args : Array Value} {s : State} {cR : ClassId} (hR : s.vm.findClass R_Bus = some cR) (h : ∀ w ∈ tables_1, w.before args s = true) : ExR s := fun q hq => by
  have h1 : (Cond.stringRef R_Bus q.1 q.2).before #[] s = true := h _ (xs_in q hq)
  obtain ⟨k, cf, i, a, -, -, -, -, -, h2⟩ := Cond.stringRef_spec hR h1
  exact ⟨a, h1, h2⟩
theorem nest_in : ∀ q ∈ nests, Cond.methodLinkNest q.1 q.2.1 q.2.2 "RobotBus" ∈ tables_1 := by
  intro q hq
  simp only [nests, List.mem_cons, List.not_mem_nil, or_false] at hq
  rcases hq with rfl | rfl | rfl | rfl | rfl | rfl | rfl
  · exact List.mem_of_getElem? (i := 39) (by decide +kernel)
  · exact List.mem_of_getElem? (i := 74) (by decide +kernel)
  · exact List.mem_of_getElem? (i := 97) (by decide +kernel)
  · exact List.mem_of_getElem? (i := 114) (by decide +kernel)
  · exact List.mem_of_getElem? (i := 153) (by decide +kernel)
  · exact List.mem_of_getElem? (i := 183) (by decide +kernel)
  · exact List.mem_of_getElem? (i := 205) (by decide +kernel)
theorem ao_in : ∀ C ∈ aos, Cond.arrayOver (.object C) ∈ tables_1 := by
  intro q hq
  simp only [aos, List.mem_cons, List.not_mem_nil, or_false] at hq
  rcases hq with rfl | rfl | rfl | rfl | rfl | rfl
  · exact List.mem_of_getElem? (i := 30) (by decide +kernel)
  · exact List.mem_of_getElem? (i := 32) (by decide +kernel)
  · exact List.mem_of_getElem? (i := 34) (by decide +kernel)
  · exact List.mem_of_getElem? (i := 36) (by decide +kernel)
  · exact List.mem_of_getElem? (i := 93) (by decide +kernel)
  · exact List.mem_of_getElem? (i := 95) (by decide +kernel)
theorem st_I {args : Array Value} {s : State} (h : ∀ w ∈ tables_1, w.before args s = true) : ExI s := ⟨fun q hq => va_Nw.of rfl (h _ (nest_in q hq)), fun C hC => va_AO.of (h _ (ao_in C hC))⟩
theorem st_ar {args : Array Value} {s : State} {ty : FieldType} (h : (Cond.arrayClass ty).before args s = true) (hq : ∀ c, s.vm.findClass ("[" ++ ty.toString) = some c → va_RA s c ty) : ∃ c, ArrOfT s c ty ∧ va_RA s c ty := by
  obtain ⟨c, k, comp, h1, h2, h3⟩ := Cond.arrayClass_spec h
  exact ⟨c, fun n z => ⟨fun k h => (by cases h), k, h2, comp, h3⟩, hq c h1⟩
theorem st_ao {args : Array Value} {s : State} {C : String} (h : (Cond.arrayOver (.object C)).before args s = true) : ∃ c, ArrOfT s c (.object C) ∧ va_RA s c (.object C) := by
  obtain ⟨comp, c, k, h1, -, h3, h4, h5⟩ := Cond.arrayOver_spec h
  exact ⟨c, fun n z => ⟨fun k h => (by cases h), k, h3, comp, h4⟩, k, comp, h3, h4, h1, h5⟩
theorem st_K {args : Array Value} {s : State} (hg : ∀ w ∈ gtb, w.before args s = true) (h : ∀ w ∈ tables_1, w.before args s = true) : ∃ (D : va_G) (ca : Nat → ClassId), va_K D clsB (tyL ca) s := by
  have hD : ∀ c : Nat, ∃ p : ClassId × (Nat → Nat), ∀ q : vw_C, clsB[c]? = some q → u_Kn s q.1 q.2.1 q.2.2 p.1 p.2 := by
    have one : ∀ {C : String} {T : u_T} {N n : Nat}, (∀ w ∈ u_ws C T N, w ∈ gtb) → Cond.instantiable C n ∈ tables_1 → ∃ p : ClassId × (Nat → Nat), ∀ q : vw_C, (some (C, T, N) : Option vw_C) = some q → u_Kn s q.1 q.2.1 q.2.2 p.1 p.2 := by
      intro C T N n h1 h2
      obtain ⟨cC, iS, hk⟩ := u_known hg h1 (h _ h2)
      refine ⟨(cC, iS), fun q hq => ?_⟩
      cases hq
      exact hk
    intro c
    match c with
    | 0 => exact one (n := 13) in_Bus (List.mem_of_getElem? (i := 22) (by decide +kernel))
    | 1 => exact one (n := 5) in_Nod (List.mem_of_getElem? (i := 87) (by decide +kernel))
    | 2 => exact one (n := 3) in_Que (List.mem_of_getElem? (i := 96) (by decide +kernel))
    | 3 => exact one (n := 3) in_Act (List.mem_of_getElem? (i := 113) (by decide +kernel))
    | 4 => exact one (n := 6) in_Top (List.mem_of_getElem? (i := 152) (by decide +kernel))
    | 5 => exact one (n := 4) in_Srv (List.mem_of_getElem? (i := 182) (by decide +kernel))
    | 6 => exact one (n := 6) in_Frm (List.mem_of_getElem? (i := 204) (by decide +kernel))
    | 7 => exact one (n := 8) in_Bag (List.mem_of_getElem? (i := 38) (by decide +kernel))
    | 8 => exact one (n := 2) in_Pnt (List.mem_of_getElem? (i := 73) (by decide +kernel))
    | 9 => exact one (n := 46) in_Mdl (List.mem_of_getElem? (i := 734) (by decide +kernel))
    | n + 10 => exact ⟨(0, fun _ => 0), fun q hq => by cases hq⟩
  have hA : ∀ k : Nat, ∃ c : ClassId, ∀ ty : FieldType, ([.int, .object "RobotBus$Node", .object "RobotBus$Topic", .object "RobotBus$Service", .object "RobotBus$Frame", .object "RobotBus$Queue", .object "RobotBus$Action", .boolean, .long, .double] : List FieldType)[k]? = some ty → ArrOfT s c ty ∧ va_RA s c ty := by
    have one : ∀ {t : FieldType}, (∃ c, ArrOfT s c t ∧ va_RA s c t) → ∃ c : ClassId, ∀ ty : FieldType, (some t : Option FieldType) = some ty → ArrOfT s c ty ∧ va_RA s c ty := by
      intro t h
      obtain ⟨c, hc⟩ := h
      refine ⟨c, fun ty hq => ?_⟩
      cases hq
      exact hc
    intro k
    match k with
    | 0 => exact one (st_ar (h _ (List.mem_of_getElem? (i := 71) (by decide +kernel))) (fun c h => h))
    | 1 => exact one (st_ao (h _ (List.mem_of_getElem? (i := 30) (by decide +kernel))))
    | 2 => exact one (st_ao (h _ (List.mem_of_getElem? (i := 32) (by decide +kernel))))
    | 3 => exact one (st_ao (h _ (List.mem_of_getElem? (i := 34) (by decide +kernel))))
    | 4 => exact one (st_ao (h _ (List.mem_of_getElem? (i := 36) (by decide +kernel))))
    | 5 => exact one (st_ao (h _ (List.mem_of_getElem? (i := 93) (by decide +kernel))))
    | 6 => exact one (st_ao (h _ (List.mem_of_getElem? (i := 95) (by decide +kernel))))
    | 7 => exact one (st_ar (h _ (List.mem_of_getElem? (i := 878) (by decide +kernel))) (fun c h => h))
    | 8 => exact one (st_ar (h _ (List.mem_of_getElem? (i := 879) (by decide +kernel))) (fun c h => h))
    | 9 => exact one (st_ar (h _ (List.mem_of_getElem? (i := 1025) (by decide +kernel))) (fun c h => h))
    | n + 10 => exact ⟨0, fun q hq => by cases hq⟩
  obtain ⟨f, hf⟩ := Classical.axiomOfChoice hD
  obtain ⟨ca, hca⟩ := Classical.axiomOfChoice hA
  refine ⟨(fun c => (f c).1, fun c => (f c).2), ca, fun c q hq => hf c q hq, fun k q hq => ?_⟩
  match k, hq with
  | 0, hq => cases hq; exact hca 0 _ rfl
  | 1, hq => cases hq; exact hca 1 _ rfl
  | 2, hq => cases hq; exact hca 2 _ rfl
  | 3, hq => cases hq; exact hca 3 _ rfl
  | 4, hq => cases hq; exact hca 4 _ rfl
  | 5, hq => cases hq; exact hca 5 _ rfl
  | 6, hq => cases hq; exact hca 6 _ rfl
  | 7, hq => cases hq; exact hca 7 _ rfl
  | 8, hq => cases hq; exact hca 8 _ rfl
  | 9, hq => cases hq; exact hca 9 _ rfl
  | n + 10, hq => cases hq
theorem w_fresh {p : Program} {l : Launch} {e : Env} {R : Room} {s : State} {m : MethodId} {args : Array Value} {below : List Frame} {meth : Method} {c : Code} {H : Heap} {locs : List Loc} {k sl : Nat} {Q : State → Prop} {g : JFrame} (h : ∀ x ∈ locs, s.heap.size ≤ x.base) (kk : W p l e R s m args below meth c H [] k sl Q g) : W p l e R s m args below meth c H locs k sl Q g := fun T hT X =>
  kk T hT ⟨X.admits, X.cas, X.clock, X.frames, X.room, X.hears, X.method, X.code, X.here, X.tail, X.warmed, X.limits, X.bytes, X.same.weaken (fun x hx hlt => absurd hlt (Nat.not_lt.mpr (h x hx))) (Nat.le_refl _) (Nat.le_refl _)⟩
/-! THE CLAIM OUT OF ONE WALK OF THE LAW'S BODY. Your part is whole_start (and what it stands on); all else here is the same for every law, but numbers. -/
def R_law : String := "RobotBusLaw"
def lw_P (b : Addr) (xs : List Int32) (args : Array Value) (s : State) : Prop := args = #[.ref b] ∧ s.IntsAt b xs ∧ xs.length ≤ 3072 ∧ (Jvm.Cond.and given_1 narrow_1).before args s = true
def lw_Q (_ : Array Value) (s : State) (o : Outcome) (t : State) : Prop := o = .returned (some (.int 1)) ∧ Framed s o t [] 632047 7199964
def lw_Z (below : List Frame) (a : Array Value) (s : State) : State → Prop := fun t => ∃ o, t.status = .running ∧ Ended t below o ∧ lw_Q a s o t
/-- the law's own end, with 1 on the stack, nothing written that was there before, its room as the claim has it -/
theorem lw_ret {p : Program} {l : Launch} {e : Env} {s : State} {m : MethodId} {below : List Frame} {meth : Method} {c : Code} {b : Nat} (hx : p.tables.exec = Jvm.exec) (hb : c.code = code) (hr : meth.sig.returnType = ret) (hlocks : meth.locks = false) {pc : Nat} {H : Heap} {ls : Array Slot} (hdg : decode code pc = .ok (.ireturn, 1)) : W p l e room_1 s m #[Value.ref b] below meth c H [] 632047 7199964 (lw_Z below #[Value.ref b] s) (F0 m pc ls [.int 1]) := by
  intro T hT X
  obtain ⟨fs, hret, hrun, hended, hW, hframe⟩ := X.leave (v := some (.int 1)) (hlocks := hlocks) (fun h => by rw [hr] at h; cases h)
  have hmeth' : T.vm.method? m = some meth := X.method'
  refine ⟨T.setFrames fs, ?_, .returned (some (.int 1)), hrun, hended, rfl, ⟨_, rfl⟩, hW, hframe⟩
  jvm_step X.here [X.here.top, hx, hb, hdg, hmeth', hr, ret, narrow_b1]
  (try refine ⟨rfl, ?_⟩); (try refine ⟨rfl, ?_⟩)
  first | (intro acts; rw [hret _ acts rfl rfl rfl]) | rw [hret _ _ rfl rfl rfl]
  exact Steps.refl _
/-- what holds at the law's entry: the machine, the code, the tables' words (any of lw_tbl by 'hts w (by decide +kernel)'), the script of L ints xs at the cell b, what the Statement gives of the start (any of its parts by flat_of_before) -/
def lw_At (p : Program) (s : State) (m : MethodId) (meth : Method) (c : Code) (b L : Nat) (xs : Nat → Int32) : Prop :=
  p.tables.exec = Jvm.exec ∧ c.code = code ∧ meth.sig.returnType = ret ∧ c.maxLocals = 10 ∧ s.vm.findClass R_law = some m.cls ∧ (∀ w ∈ lw_tbl, w.before #[Value.ref b] s = true) ∧ va_X b L xs s s.heap ∧ b < s.heap.size ∧ meth.locks = false ∧ (Jvm.Cond.and given_1 narrow_1).before #[Value.ref b] s = true
set_option maxHeartbeats 1000000 in
theorem whole_start {p : Program} {e : Env} {s : State} {m : MethodId} {below : List Frame} {meth : Method} {c : Code} (l : Launch) (hl : l.stackTraces = false) {b L : Nat} {xs : Nat → Int32} (hL : L ≤ 3072) (C0 : lw_At p s m meth c b L xs) : W p l e room_1 s m #[Value.ref b] below meth c s.heap [] 0 0 (lw_Z below #[Value.ref b] s) (entryFrame m ([Value.ref b] : List Value).toArray 10) := by
  obtain ⟨hx, hb, hr, hml, hown, hts, hX, hbl, hlocks, hgv⟩ := C0
  have htg : ∀ w ∈ gtb, w.before #[Value.ref b] s = true := fun w hw => hts w (List.mem_filter.mp hw).1
  have htb : ∀ w ∈ tables_1, w.before #[Value.ref b] s = true := fun w hw => hts w (List.mem_append_right _ hw)
  have hs := flat_of_before _ hgv
  obtain ⟨D, ca, hK⟩ := st_K htg htb
  have hfB : s.vm.findClass R_Bus = some (D.1 0) := (hK.1 0 _ rfl).2.1
  have hnA : ∀ q : Nat, q < s.heap.size → ¬ mA s.heap.size 215 s.heap.size q := fun q h1 h2 => h2.elim (fun h => by omega) (fun h => by omega)
  have hE : ExA s s.heap.size := ⟨st_T htb, ⟨st_z (htb _ (List.mem_of_getElem? (i := 316) (by decide +kernel))) (hs _ (by decide +kernel)) hnA, st_z (htb _ (List.mem_of_getElem? (i := 318) (by decide +kernel))) (hs _ (by decide +kernel)) hnA⟩, st_R hfB htb, st_C hgv⟩
  have hw0 : ∀ w ∈ Cond.code Lib.objectInit ⟨#[0xb1]⟩ 1 none :: gtb, w.before #[Value.ref b] s = true := fun w hw => (List.mem_cons.mp hw).elim (fun e => e ▸ htg _ tw_28) (htg w)
  have hl2 := lv_entry [Value.ref b] (n := 10) (Nat.le_of_ble_eq_true rfl)
  rw [lg_entry_eq]
  refine law_start (X := (p, e, s, m, #[Value.ref b], below, meth, c, lw_Z below #[Value.ref b] s)) (l := l) (D := D) (ca := ca) (B := s.heap.size) (a := b) (N := L) (xs := xs) (y0 := Lib.objectInit) (c0 := ⟨#[0xb1]⟩) (n0 := 1) (r0 := none) hl ⟨hx, hb, hml, hown, hw0, hK⟩ hE hX hbl (Nat.le_refl _) hL ?_ (st_I htb) rfl (M := fun _ => .inl (ca 0, 0, .inl (fun _ => 0))) s.heap [] _ (fun k q hk => by cases hk) va_S.rf hl2
  intro k sl M L' hk hs2 H locs ls hP hS hl'
  refine W.widen hk hs2 (w_fresh (fun x hx => (hS.2.2 x hx).elim (fun h => h.1) id) ?_)
  exact lw_ret hx hb hr hlocks d_law_1669
set_option maxHeartbeats 4000000 in
theorem lw_walk (l : Launch) (hl : l.stackTraces = false) (b : Addr) (xs : List Int32) : MetFree l x (headSpec (Jvm.Cond.code x code maxLocals ret :: tables_1) room_1) (lw_P b xs) (fun _ _ _ _ _ => True) lw_Q := by
  refine MetFree.of_bodyS (code := code) (maxLocals := maxLocals) (ret := ret) (by decide) ?_ ?_
  · intro args s m h hn
    obtain ⟨meth, c, h1, h2, h3, h4, h5, h6, -, -⟩ := Cond.code_spec hn (atoms_spec (ws := Jvm.Cond.code x code maxLocals ret :: tables_1) h _ List.mem_cons_self)
    exact ⟨meth, c, h1, h2, h3, h4, h5, h6⟩
  · intro p e s m args below meth c s₁ B hml0 hP _
    obtain ⟨rfl, hx, hbd, hgv⟩ := hP
    obtain ⟨scr, harrAt, hlist, hof, hsmall⟩ := hx
    obtain ⟨hcb, hkn, -, -⟩ := State.arrayAt?_spec harrAt
    have hown : s.vm.findClass R_law = some m.cls := findClass_of_methodNamed B.named
    have hts0 : ∀ c ∈ (Jvm.Cond.code x code maxLocals ret :: tables_1), c.before #[Value.ref b] s = true := atoms_spec (ws := Jvm.Cond.code x code maxLocals ret :: tables_1) B.pre
    have hts : ∀ w ∈ lw_tbl, w.before #[Value.ref b] s = true := k2_hts_sels lw_privs (fun w hw => hts0 w (List.mem_cons_of_mem _ hw)) lw_privs_ok
    have hml : c.maxLocals = 10 := B.maxLocals_eq (hts0 _ List.mem_cons_self)
    have X₀ : Stand p l e room_1 s m #[Value.ref b] below meth c s₁ [] 0 0 := Stand.of_body B
    have hh0 : s₁.heap = s.heap := by rw [B.state]; rfl
    have hsz : scr.slots.size = xs.length := by rw [← Array.length_toList, hlist, List.length_map]
    have hval : ∀ j : Nat, j < xs.length → scr.slots[j]? = some (.int (xs.getD j 0)) := fun j hj => by
      rw [← Array.getElem?_toList, hlist]
      simp [hj]
    have hbl : b < s.heap.size := (Array.getElem?_eq_some_iff.mp hcb).1
    have hX : va_X b xs.length (fun j => xs.getD j 0) s s.heap := ⟨scr, hcb, hof, hkn, hsz, hval⟩
    have K : W p l e room_1 s m #[Value.ref b] below meth c s₁.heap [] 0 0 (lw_Z below #[Value.ref b] s) (entryFrame m ([Value.ref b] : List Value).toArray 10) := by
      rw [hh0]
      exact whole_start l hl hbd ⟨B.exec, B.bytes, B.returns, hml, hown, hts, hX, hbl, B.notSynchronized, hgv⟩
    obtain ⟨t, a1, o, b1, b2, b3⟩ := K s₁ rfl X₀
    exact ⟨t, o, a1, b1, b2, b3⟩
theorem lw_pre_spec {args : Array Value} {s : State} (h : (Jvm.Cond.and given_1 narrow_1).before args s = true) (hr : rest_1_c.before args s = true) : ∃ (b : Addr) (xs : List Int32), lw_P b xs args s := by
  have hs := flat_of_before _ h
  have hq := flat_of_before _ hr
  have hc : (Cond.count 1).before args s = true := hs _ (by decide +kernel)
  have harr : (Cond.arrayOf (.arg 0) .int).before args s = true := hs _ (by decide +kernel)
  have hle : (Cond.le (.length (.arg 0)) (.int 3072)).before args s = true := hs _ (by decide +kernel)
  have hlen : (Cond.isInt (.length (.arg 0))).before args s = true := hq _ (by decide +kernel)
  have hall : (Cond.all (.arg 0) (.isInt (.elem (.arg 0) (.index 0)))).before args s = true := hq _ (by decide +kernel)
  obtain ⟨b, xs, hb, hx⟩ := State.ints_of_pre rfl harr hlen hall
  have hsm : xs.length < 2 ^ 31 := hx.choose_spec.2.2.2
  have hev : (Term.length (.arg 0)).eval args s none [] s = some (.int xs.length.toInt32) := hx.length_eval hb
  have hv := Cond.le_ints hev (show (Term.int 3072).eval args s none [] s = some (.int 3072) from rfl)
  have hd : xs.length.toInt32 ≤ 3072 := by
    simpa [Cond.before, Cond.holds, hv] using hle
  have hN : xs.length ≤ 3072 := (Int32.ofNat_le_ofNat hsm (by decide)).mp (show Int32.ofNat xs.length ≤ Int32.ofNat 3072 from hd)
  exact ⟨b, xs, Cond.one_arg hc (show args[0]? = some (.ref b) from hb), hx, hN, h⟩
theorem lw_comes (l : Launch) (hl : l.stackTraces = false) : Comes l x (Jvm.Cond.code x code maxLocals ret :: tables_1) room_1 (fun tb e args s => Calls_1 tb e args s ∧ rest_1 tb e args s ∧ Pre_1 tb e args s)
    (fun _ _ args s o t => lw_Q args s o t) := by
  intro p e ha hc hk s m args below hf hfit hheap happ hpre
  obtain ⟨b, xs, hP⟩ := lw_pre_spec hpre.2.2 hpre.2.1
  obtain ⟨k, o, h1, h2, h3, hQ⟩ := lw_walk l hl b xs p e ha hc hk s m args below hf ((Spec.applies_iff_loose hf).mp happ).1 hP trivial
  exact ⟨k, o, h1, h2, h3, hQ⟩
theorem lw_frame {s t : State} {o : Outcome} {args : Array Value} (h : Framed s o t [] 632047 7199964) :
    Framed s o t (fieldLocs frame_1_writes args s ++ arrayLocs frame_1_arrays args s ++ staticLocs frame_1_statics s) 632047 7199964 := h
theorem lw_limb (L : Cond) (hL : ∀ (args : Array Value) (s t : State), L.after args s (.returned (some (.int 1))) t = true) :
    ArmFor flags0 classFile x code maxLocals ret World_1 tables_1 room_1 Calls_1 rest_1 Pre_1
      (fun tb e a s o t => postC L tb e a s o t ∧ Framed s o t (fieldLocs frame_1_writes a s ++ arrayLocs frame_1_arrays a s ++ staticLocs frame_1_statics s) 632047 7199964) := by
  intro l hfl _ _ p e ha hc hk s m args below hf hfit hheap happ hpre
  have hl : l.stackTraces = false := by unfold Launch.stackTraces; rw [hfl]; decide
  obtain ⟨k, o, h1, h2, h3, rfl, hF⟩ := lw_comes l hl p e ha hc hk s m args below hf hfit hheap happ hpre
  exact ⟨k, _, h1, h2, h3, hL args s _, lw_frame hF⟩
theorem i_vc : Claimed_1_1 ∧ Claimed_1_2 := ⟨lw_limb limb_1_1 (fun args s t => by simp [limb_1_1, Cond.after, Cond.holds, Cond.value]), lw_limb limb_1_2 (fun args s t => Cond.after_iff.mpr (by
  first | (rw [show limb_1_2 = Cond.eq .result (.int 1) from rfl, Cond.eq_ints (x := 1) (y := 1) rfl rfl]; simp; done) | (simp [limb_1_2, Cond.value, Term.eval]; done)))⟩
