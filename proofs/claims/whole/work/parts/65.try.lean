/-! A call inside a 'try': the bus' method gives a value, or what it threw is taken by the handler of its type. -/
section TR
variable {l : Launch} {D : va_G} {ca : Nat → ClassId} {B : Nat} {R : Room} {nL : Nat} {X : Zx} {k sl : Nat} {pc : Nat} {L : List (Nat × Value)} {st : List Value} {cc : ByteArray} {own : String} {w0 : Cond} {σ τ : Sg} {xo : Nat → Int64} {yo : Nat → UInt64}
variable {y : MethodName} {bytes : ByteArray} {maxL index : Nat} {ret : Option FieldType} {rm : Room} {As : List Value} {F : Out × Sg} {hN : Hn}
theorem LM_after {H H1 : Heap} {σ' : Sg} (hP : va_P D clsB (mw B 215 (LM B ca σ τ xo yo)) H) (hP1 : va_P D clsB (mw B 182 (enc B ca SB σ')) H1) (hk : ∀ q : Nat, q < H.size → ¬ mA B 182 H.size q → H1[q]? = H[q]?) : va_P D clsB (mw B 215 (LM B ca σ' τ xo yo)) H1 := by
  intro q x hx
  obtain ⟨h3, rfl⟩ := mw_inv hx
  by_cases hq : q < 182
  · rw [LM_bus hq]
    exact hP1 q _ (mw_get hq)
  · rw [LM_off (σ := σ) hq]
    have hle := mw_le hP (by decide)
    exact (hP q _ (mw_get h3)).kept (hk (B + q) (by omega) (fun h => h.elim (fun h => by omega) (fun h => by omega)))
theorem LM_left {H : Heap} (hP : va_P D clsB (mw B 215 (LM B ca σ τ xo yo)) H) : va_P D clsB (mw B 182 (enc B ca SB σ)) H := by
  have h1 := mw_left (n := 182) (N := 33) hP
  rw [mw_congr (M' := enc B ca SB σ) (fun o ho => LM_bus ho)] at h1
  exact h1
theorem mA_215 {q sz : Nat} (h : mA B 182 sz q) : mA B 215 sz q := h.elim (fun h => Or.inl ⟨h.1, by omega⟩) Or.inr
set_option maxHeartbeats 1000000 in
theorem z_try (C : Cx D clsB (tyL ca) cc nL own (w0 :: gtb) X) (hE : ExA X.2.2.1 B) (htab : X.2.2.2.2.2.2.2.1.exceptionTable.toList = tableOf (hN.map (·.1))) (hd : decode cc pc = .ok (.invokevirtual index, 3))
    (hM : CtX l D ca B y (Cond.code y bytes maxL ret :: gtb) rm σ (.ref (B + 0) :: As) (fun r σ' => r = F.1 ∧ σ' = F.2))
    (h1 : Cond.methodLink own index y ∈ gtb) (h2 : Cond.instanceMethod y ∈ gtb) (h3 : Cond.selects R_Bus y y ∈ gtb) (h4 : Cond.initialized R_Bus ∈ gtb) (h5 : Cond.code y bytes maxL ret ∈ gtb)
    (hds : y.cls = R_Bus ∧ y.cls ≠ "java/lang/invoke/MethodHandle" ∧ y.cls ≠ "java/lang/invoke/VarHandle" ∧ (parseMethodDescriptor y.desc).map (fun d => d.parameters.length) = some As.length)
    (hR : (rm.frames + 1 ≤ R.frames ∧ 8 + (maxL + 11) + rm.locals ≤ R.locals) ∧ rm.cells = 1 ∧ rm.slots = 6 ∧ k + 1 ≤ R.cells ∧ sl + 6 ≤ R.slots) (hst : (st.map fun v => v.category).sum ≤ 8)
    (hok : ∀ cls, F.1 = .inr cls → cls ∈ xall) (hxa : ∀ q ∈ hN, Cond.classLink own q.1.2.2.2 q.2 ∈ gtb ∧ q.2 ∈ xall ∧ (q.1.1 ≤ pc ∧ pc < q.1.2.1) ∧ q.1.2.2.2 ≠ 0)
    (kret : ∀ v, F.1 = .inl v → Z l D clsB B 215 R nL X (k + 1) (sl + 6) (LM B ca F.2 τ xo yo) (pc + 3) L (v :: st))
    (kthr : ∀ cls, F.1 = .inr cls → ∃ pc', ca_pc cls hN = some pc' ∧ ∀ a', Z l D clsB B 215 R nL X (k + 1) (sl + 6) (LM B ca F.2 τ xo yo) pc' L [.ref a'])
    {st0 : List Value} (hs0 : st0 = As.reverse ++ .ref (B + 0) :: st) : Z l D clsB B 215 R nL X k sl (LM B ca σ τ xo yo) pc L st0 := by
  obtain ⟨p, e, s, m, args, below, meth, c, Q⟩ := X
  obtain ⟨hx, hb, hml, hown, hts, hK⟩ := C
  subst hs0
  intro H locs ls hP hS hl T hT Xs
  have cw : CallW R s args own R_Bus index y bytes maxL ret (Cond.code y bytes maxL ret :: gtb) rm 1 6 As.length := cwV As.length hts (gd_Vw (w0 := w0) h1 h2 h3 h4 h5) rfl hR.2.1 hR.2.2.1 hds hR.1
  obtain ⟨cellB, hcB, hoB, hclB⟩ := va_recv (q := (R_Bus, F_Bus, 13)) hK (LM_left hP) rfl (mw_at (o := 0) (a := B + 0) (by decide) rfl (eB_Bus (σ := σ)))
  obtain ⟨o, st₀, t, T', L2, hst0, X', hL2, hTh, hTv, hQ, kR, kT⟩ := mx_invoke Xs hx hown cw (hM H.size) mPcX_blind (b := B + 0) (cellB := cellB) (by rw [hT]; exact hcB) hoB hclB (g := F0 m pc ls (As.reverse ++ .ref (B + 0) :: st)) rfl (hl.1.trans hml.symm) rfl rfl (lv_room hst) (by rw [hb]; exact hd) ⟨hR.2.2.2.1, hR.2.2.2.2⟩
    (fun U hU hW => by
      have hA := hE.to hS (hU.trans hT) hW
      exact ⟨rfl, by rw [hU, hT], by rw [hU, hT]; exact LM_left hP, va_K.moved hW.alike hK, hA.1, hA.2.1.narrow (fun q h => mA_215 h), hA.2.2.1⟩)
  obtain ⟨⟨r, u, ⟨σ', rfl, hr, rfl⟩, ⟨hP1, -⟩, hout⟩, hz, hk⟩ := hQ
  rw [hst0, hT] at hz hk
  rw [← hTh] at hP1 hz hk
  have hH1 := LM_after hP hP1 hk
  have hS1 : va_S (mA B 215 s.heap.size) s.heap T'.heap (locs ++ L2) := by
    refine ⟨Nat.le_trans hS.1 hz, fun q g1 g2 => ?_, fun x hx => ?_⟩
    · rw [hk q (Nat.lt_of_lt_of_le g1 hS.1) (fun h => g2 (mA_le hS.1 q (mA_215 h)))]
      exact hS.2.1 q g1 g2
    · rcases List.mem_append.mp hx with h | h
      · exact hS.2.2 x h
      · exact mA_le hS.1 _ (mA_215 (hL2 x h))
  cases hF : F.1 with
  | inl v =>
    rw [hr, hF] at hout
    obtain ⟨tg, g1, g2⟩ := kret v hF T'.heap (locs ++ L2) ls hH1 hS1 hl T' rfl X'
    exact ⟨tg, kR (some v) hout _ g1, g2⟩
  | inr cls =>
    rw [hr, hF] at hout
    obtain ⟨x, ce, ho, hce, hcl, hstc⟩ := hout
    rw [← hTh] at hce
    rw [← hTv] at hcl
    obtain ⟨pc', hpc, kz⟩ := kthr cls hF
    have hcl' : s.vm.findClass cls = some ce.cls := by rw [← X'.warmed.alike.findClass]; exact hcl
    obtain ⟨vm', X2, st2⟩ := ca_catch X' (g := { F0 m pc ls (As.reverse ++ .ref (B + 0) :: st) with stack := st }) rfl hown htab hce hstc hcl' (fun q hq => ⟨hts _ (List.mem_cons_of_mem _ (hxa q hq).1), (hxa q hq).2.2.1, (hxa q hq).2.2.2⟩) (fun q hq hne t ht => hE.2.2.2 cls (hok cls hF) q.2 (hxa q hq).2.1 (fun h => hne h.symm) _ _ hcl' ht) hpc
    obtain ⟨tg, g1, g2⟩ := kz x T'.heap (locs ++ L2) ls hH1 hS1 hl (T'.setVm vm') rfl X2
    exact ⟨tg, kT x ho _ (st2 _ g1), g2⟩
end TR
abbrev CtA (l : Launch) (D : va_G) (ca : Nat → ClassId) (B : Nat) (y : MethodName) (ws : List Cond) (rm : Room) (σ τ : Sg) (xo : Nat → Int64) (yo : Nat → UInt64) (av : List Value) (post : Int32 → Sg → (Nat → Int64) → (Nat → UInt64) → Prop) : Prop :=
  ∀ sz, Met l y ws rm (aPc D ca B sz (LM B ca σ τ xo yo) av) (va_Qi (fun r M' => ∃ σ' x' y', M' = LM B ca σ' τ x' y' ∧ post r σ' x' y') (mB D clsB (tyL ca) B 215) (mA B 215 sz)) 1 6 (mA B 215 sz)
theorem ct_a {l : Launch} {D : va_G} {ca : Nat → ClassId} {B : Nat} {y : MethodName} {rm : Room} {cc : ByteArray} {maxL : Nat} {σ τ : Sg} {xo : Nat → Int64} {yo : Nat → UInt64} {av : List Value} {hh : List (Nat × Nat × Nat × Nat)} {post : Int32 → Sg → (Nat → Int64) → (Nat → UInt64) → Prop} (own : String) (L : List (Nat × Value)) (hy : plainName y.cls = true) (hown : y.cls = own) (hlen : (lg_sl av).length ≤ maxL) (hL : lv_args 0 av = L)
    (body : ∀ X : Zx, Cx D clsB (tyL ca) cc maxL own (Cond.codeWith y cc maxL (some .int) hh :: gtb) X → ExA X.2.2.1 B → X.2.2.2.2.2.2.2.1.exceptionTable.toList = tableOf hh →
      (∀ (v : Int32) (σ' : Sg) (x' : Nat → Int64) (y' : Nat → UInt64) (pc : Nat) (L' : List (Nat × Value)), decode cc pc = .ok (.ireturn, 1) → post v σ' x' y' → Z l D clsB B 215 rm maxL X 1 6 (LM B ca σ' τ x' y') pc L' [.int v]) → Z l D clsB B 215 rm maxL X 0 0 (LM B ca σ τ xo yo) 0 L []) :
    CtA l D ca B y (Cond.codeWith y cc maxL (some .int) hh :: gtb) rm σ τ xo yo av post := fun sz => by
  refine va_MetW (cc := cc) (maxL := maxL) (ret := some .int) (hh := hh) hy rfl ?_
  intro p e s m args below meth c s₁ Bd hml hv
  obtain ⟨rfl, hsz, hP, hK, hT, hZ, hR, hC⟩ := hv
  have hx := Bd.exec
  have hb := Bd.bytes
  have hr := Bd.returns
  have hts := atoms_spec (ws := Cond.codeWith y cc maxL (some .int) hh :: gtb) Bd.pre
  have ho : s.vm.findClass own = some m.cls := by rw [← hown]; exact findClass_of_methodNamed Bd.named
  have hlocks := Bd.notSynchronized
  have htab : c.exceptionTable.toList = tableOf hh := by
    obtain ⟨m9, meth9, c9, hn9, g1, g2, -, -, g5, -⟩ := Cond.codeWith_spec (hts _ List.mem_cons_self)
    cases Bd.named.symm.trans hn9
    cases Bd.method.symm.trans g1
    cases (Stand.of_body Bd).code.symm.trans g2
    rw [← g5, table_eq]
  subst hsz
  have hl := lv_entry av (n := maxL) hlen
  rw [lg_entry_eq]
  rw [hL] at hl
  refine body (p, e, s, m, av.toArray, below, meth, c, MQ below (va_Qi (fun r M' => ∃ σ' x' y', M' = LM B ca σ' τ x' y' ∧ post r σ' x' y') (mB D clsB (tyL ca) B 215) (mA B 215 s.heap.size)) av.toArray s 1 6 (mA B 215 s.heap.size)) ⟨hx, hb, hml, ho, hts, hK⟩ ⟨hT, hZ, hR, hC⟩ htab ?_ s.heap [] _ hP va_S.rf hl
  intro v σ' x' y' pc L' hd hp H locs ls hP' hS' hl'
  exact W.iret (v := v) hx hb hr (fun t ht hW => ⟨⟨v, _, rfl, ⟨σ', x', y', rfl, hp⟩, by rw [ht]; exact hP', va_K.moved hW.alike hK⟩, hS'.F ht⟩) hS'.2.2 hd hlocks
