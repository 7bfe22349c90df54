/-! Rows of the law: the script, the calls of adapters and of the model. -/
section LR
variable {p : Program} {l : Launch} {e : Env} {R : Room} {s : State} {m : MethodId} {args : Array Value} {below : List Frame} {meth : Method} {c : Code} {H : Heap} {locs : List Loc} {cells slots : Nat}
variable {y : MethodName} {bytes cc : ByteArray} {maxL nL mc ms n index : Nat} {ret : Option FieldType} {hh : List (Nat × Nat × Nat × Nat)} {ws : List Cond} {rm : Room} {Pc : Array Value → State → Prop} {Qc : Array Value → State → Outcome → State → Prop} {free : Addr → Prop} {Ts : List Cond} {own : String} {As rest : List Value} {g : JFrame}
/-- a call of a static method that has handlers -/
theorem a_runS (S : CallFix p m c cc nL s args Ts own) (hM : Met l y ws rm Pc Qc mc ms free) (hws : ∀ w ∈ ws, ∀ (a' : Array Value) (U : State), s.WarmedH U.vm → w.before a' U = true) (hcw : Cond.codeWith y bytes maxL ret hh ∈ ws) (hrc : rm.cells = mc) (hrs : rm.slots = ms) (hfr : rm.frames + 1 ≤ R.frames) (hlo : 8 + (maxL + 11) + rm.locals ≤ R.locals)
    (hlink : (Cond.methodLink own index y).before args s = true) (hstat : (Cond.static y).before args s = true) (hini : (Cond.initialized y.cls).before args s = true) (hcode : (Cond.codeWith y bytes maxL ret hh).before args s = true) (hy : y.cls ≠ "java/lang/invoke/MethodHandle" ∧ y.cls ≠ "java/lang/invoke/VarHandle") (hlen : ∀ sig, parseMethodDescriptor y.desc = some sig → As.length = sig.parameters.length) (hp : PreS s H Pc As)
    (hg : g.method = m) (hsize : g.locals.size = nL) (hstack : g.stack = As.reverse ++ rest) (hW : 2 * g.monitorRoom + (rest.map fun v => v.category).sum ≤ 8) (hdg : decode cc g.pc = .ok (.invokestatic index, 3)) (hf : cells + mc ≤ R.cells ∧ slots + ms ≤ R.slots) :
    va_Run p l e R s m args below meth c H locs cells slots mc ms g rest (Qc As.toArray) (free) := by
  have hK : Back l R p e below s args y 3 8 (PreOf R mc ms Pc) (PostOf Qc mc ms free) := va_backW (hh := hh) (bytes := bytes) (maxL := maxL) (ret := ret) hM hp.1 hrc hrs hfr hlo hws hcw (fun a' U hW => word_at hW (Or.inl (by first | rfl | simp [Cond.onTables, Cond.keeps, Cond.steady])) hini)
  obtain ⟨hx, hb, hml, ho, -⟩ := S
  intro T hT X
  obtain ⟨mk, methM, cM, hnamed, hmethM, -, -, -, -, -, -, hsigM⟩ := Cond.codeWith_spec hcode
  have hstatic : methM.isStatic = true := Cond.static_spec hnamed hmethM hstat
  obtain ⟨kP, hkP, -⟩ := className_of_methodNamed hnamed
  have hinitP : kP.init = .initialized := Cond.initialized_spec (findClass_of_methodNamed hnamed) hkP hini
  obtain ⟨vm₁, X₁, hstep₁⟩ := X.invokestatic hx ho hlink hnamed hmethM hstatic hkP hinitP hy (g := g) hg (argsL := As) (rest := rest) (hlen _ hsigM) hstack (by rw [hb]; exact hdg)
  obtain ⟨v, ⟨U', l2, c2, s2⟩, X', ⟨g', mk', t, L, e1, e2, hq, h1, hL, h2, h3⟩, hsteps⟩ := hK m meth c ⟨T.setVm vm₁, locs, cells, slots⟩ { g with stack := rest } (.invokestatic index) mk As.toArray X₁ hg (hsize.trans hml.symm) (by rw [hb]; exact hdg) hW (X₁.named hnamed) ⟨hf.1, hf.2, hp.2 (T.setVm vm₁) hT X₁.warmed⟩
  dsimp only [Pt.U, Pt.locs, Pt.cells, Pt.slots] at X' e1 e2 h1 h2 h3 hsteps
  subst h1; subst h2; subst h3
  exact ⟨v, (T.setVm vm₁).calling g' mk' As.toArray, t, U', L, hT, X', hL, e1, e2, hq, fun target h => hstep₁ _ fun acts => by rw [doInvoke_state]; exact hsteps.trans h⟩
end LR
theorem mA_mdl {B q sz : Nat} (h : mA (B + 182) 31 sz q) : mA B 215 sz q := h.elim (fun h => Or.inl ⟨by omega, by omega⟩) Or.inr
section LZ
variable {l : Launch} {D : va_G} {ca : Nat → ClassId} {B : Nat} {R : Room} {nL : Nat} {X : Zx} {k sl : Nat} {pc : Nat} {L : List (Nat × Value)} {st : List Value} {cc : ByteArray} {own : String} {w0 : Cond} {σ τ : Sg} {xo : Nat → Int64} {yo : Nat → UInt64} {M : Nat → va_E}
variable {y : MethodName} {bytes : ByteArray} {maxL index : Nat} {ret : Option FieldType} {rm : Room} {As : List Value} {hh : List (Nat × Nat × Nat × Nat)}
theorem z_sld {Ts : List Cond} {n a N : Nat} {xs : Nat → Int32} {i : Int32} (C : Cx D clsB (tyL ca) cc nL own Ts X) (hX : va_X a N xs X.2.2.1 X.2.2.1.heap) (ha : a < X.2.2.1.heap.size) (hB : X.2.2.1.heap.size ≤ B) (hd : decode cc pc = .ok (.iaload, 1)) (hin : vp_in i N) (kk : Z l D clsB B n R nL X k sl M (pc + 1) L (.int (xs i.toNatClampNeg) :: st)) : Z l D clsB B n R nL X k sl M pc L (.int i :: .ref a :: st) := by
  obtain ⟨p, e, s, m, args, below, meth, c, Q⟩ := X
  obtain ⟨hx, hb, hml, hown, hts, hK⟩ := C
  intro H locs ls hP hS hl
  have ha' : a < s.heap.size := ha
  have hB' : s.heap.size ≤ B := hB
  exact va_sld hx hb hX ha' (fun h => h.elim (fun h => by omega) (fun h => by omega)) hS hin hd (kk H locs ls hP hS hl)
theorem z_slen {Ts : List Cond} {n a N : Nat} {xs : Nat → Int32} (C : Cx D clsB (tyL ca) cc nL own Ts X) (hX : va_X a N xs X.2.2.1 X.2.2.1.heap) (ha : a < X.2.2.1.heap.size) (hB : X.2.2.1.heap.size ≤ B) (hd : decode cc pc = .ok (.arraylength, 1)) (kk : Z l D clsB B n R nL X k sl M (pc + 1) L (.int (Int32.ofNat N) :: st)) : Z l D clsB B n R nL X k sl M pc L (.ref a :: st) := by
  obtain ⟨p, e, s, m, args, below, meth, c, Q⟩ := X
  obtain ⟨hx, hb, hml, hown, hts, hK⟩ := C
  intro H locs ls hP hS hl
  have ha' : a < s.heap.size := ha
  have hB' : s.heap.size ≤ B := hB
  exact va_slen hx hb hX ha' (fun h => h.elim (fun h => by omega) (fun h => by omega)) hS hd (kk H locs ls hP hS hl)
/-- a call of an adapter -/
theorem z_ad {post : Int32 → Sg → (Nat → Int64) → (Nat → UInt64) → Prop} (C : Cx D clsB (tyL ca) cc nL own (w0 :: gtb) X) (hE : ExA X.2.2.1 B) (hd : decode cc pc = .ok (.invokestatic index, 3)) (hM : CtA l D ca B y (Cond.codeWith y bytes maxL (some .int) hh :: gtb) rm σ τ xo yo As post)
    (h1 : Cond.methodLink own index y ∈ gtb) (h2 : Cond.static y ∈ gtb) (h4 : Cond.initialized own ∈ gtb) (h5 : Cond.codeWith y bytes maxL (some .int) hh ∈ gtb)
    (hds : y.cls = own ∧ y.cls ≠ "java/lang/invoke/MethodHandle" ∧ y.cls ≠ "java/lang/invoke/VarHandle" ∧ (parseMethodDescriptor y.desc).map (fun d => d.parameters.length) = some As.length)
    (hR : (rm.frames + 1 ≤ R.frames ∧ 8 + (maxL + 11) + rm.locals ≤ R.locals) ∧ rm.cells = 1 ∧ rm.slots = 6 ∧ k + 1 ≤ R.cells ∧ sl + 6 ≤ R.slots) (hst : (st.map fun v => v.category).sum ≤ 8) {st0 : List Value} (hs0 : st0 = As.reverse ++ st)
    (kk : ∀ (r : Int32) (σ' : Sg) (x' : Nat → Int64) (y' : Nat → UInt64), post r σ' x' y' → Z l D clsB B 215 R nL X (k + 1) (sl + 6) (LM B ca σ' τ x' y') (pc + 3) L (.int r :: st)) : Z l D clsB B 215 R nL X k sl (LM B ca σ τ xo yo) pc L st0 := by
  obtain ⟨p, e, s, m, args, below, meth, c, Q⟩ := X
  obtain ⟨hx, hb, hml, hown, hts, hK⟩ := C
  subst hs0
  intro H locs ls hP hS hl
  have hin : ∀ w ∈ Cond.codeWith y bytes maxL (some .int) hh :: gtb, w ∈ gtb := fun w hw => (List.mem_cons.mp hw).elim (fun e => e ▸ h5) id
  refine va_calli (a_runS (As := As) (rest := st) (mc := 1) (ms := 6) ⟨hx, hb, hml, hown, hts⟩ (hM H.size) (pay_in hts (gd_w hin)) List.mem_cons_self hR.2.1 hR.2.2.1 hR.1.1 hR.1.2 (hts _ (List.mem_cons_of_mem _ h1)) (hts _ (List.mem_cons_of_mem _ h2)) (hts _ (List.mem_cons_of_mem _ (by rw [hds.1]; exact h4))) (hts _ (List.mem_cons_of_mem _ h5)) ⟨hds.2.1, hds.2.2.1⟩ (fun sig h => ?_) ⟨aPc_blind, fun U hU hW => ?_⟩ rfl hl.1 rfl (lv_room hst) hd ⟨hR.2.2.2.1, hR.2.2.2.2⟩) hS (fun q _ h => mA_le hS.1 q h) (mA_le hS.1) (fun r u t H1 locs1 ht hvm hp hB hz1 hk1 hS1 => ?_)
  · have h9 := hds.2.2.2
    rw [h] at h9
    exact (Option.some.inj h9).symm
  · have hA := hE.to hS hU hW
    exact ⟨rfl, by rw [hU], by rw [hU]; exact hP, va_K.moved hW.alike hK, hA.1, hA.2.1, hA.2.2.1, hA.2.2.2⟩
  · obtain ⟨hP1, -⟩ := hB
    obtain ⟨σ', x', y', rfl, hpo⟩ := hp
    rw [ht] at hP1
    exact kk r σ' x' y' hpo H1 locs1 ls hP1 hS1 hl
theorem LM_mdl {o : Nat} (h : o < 31) : LM B ca σ τ xo yo (182 + o) = enc (B + 182) ca SM τ o := by
  unfold LM
  rw [if_neg (by omega), if_pos (by omega), show 182 + o - 182 = o by omega]
theorem LM_mid {H : Heap} (hP : va_P D clsB (mw B 215 (LM B ca σ τ xo yo)) H) : va_P D clsB (mw (B + 182) 31 (enc (B + 182) ca SM τ)) H := by
  have h1 := mw_left (n := 31) (N := 2) (mw_right (n := 182) (N := 33) hP)
  rw [mw_congr (M' := enc (B + 182) ca SM τ) (fun o ho => LM_mdl ho)] at h1
  exact h1
theorem LM_aft2 {H H1 : Heap} {τ' : Sg} (hP : va_P D clsB (mw B 215 (LM B ca σ τ xo yo)) H) (hP1 : va_P D clsB (mw (B + 182) 31 (enc (B + 182) ca SM τ')) H1) (hk : ∀ q : Nat, q < H.size → ¬ mA (B + 182) 31 H.size q → H1[q]? = H[q]?) : va_P D clsB (mw B 215 (LM B ca σ τ' xo yo)) H1 := by
  intro q x hx
  obtain ⟨h3, rfl⟩ := mw_inv hx
  have hle := mw_le hP (by decide)
  by_cases hq : 182 ≤ q ∧ q < 213
  · obtain ⟨o, rfl⟩ : ∃ o, q = 182 + o := ⟨q - 182, by omega⟩
    rw [LM_mdl (by omega)]
    have := hP1 o _ (mw_get (by omega))
    rw [show B + 182 + o = B + (182 + o) by omega] at this
    exact this
  · have he : LM B ca σ τ' xo yo q = LM B ca σ τ xo yo q := by
      unfold LM
      by_cases h1 : q < 182
      · rw [if_pos h1, if_pos h1]
      · have h2 : ¬ q < 213 := by omega
        rw [if_neg h1, if_neg h1, if_neg h2, if_neg h2]
    rw [he]
    exact (hP q _ (mw_get h3)).kept (hk (B + q) (by omega) (fun h => h.elim (fun h => by omega) (fun h => by omega)))
/-- a call of the model -/
theorem z_mdl {post : Int32 → Sg → Prop} (C : Cx D clsB (tyL ca) cc nL own (w0 :: gtb) X) (hd : decode cc pc = .ok (.invokevirtual index, 3)) (hM : CtI l D ca SM (B + 182) 31 y (Cond.code y bytes maxL ret :: gtb) rm τ (.ref (B + 182 + 0) :: As) post)
    (h1 : Cond.methodLink own index y ∈ gtb) (h2 : Cond.instanceMethod y ∈ gtb) (h3 : Cond.selects R_Mdl y y ∈ gtb) (h4 : Cond.initialized R_Mdl ∈ gtb) (h5 : Cond.code y bytes maxL ret ∈ gtb)
    (hds : y.cls = R_Mdl ∧ y.cls ≠ "java/lang/invoke/MethodHandle" ∧ y.cls ≠ "java/lang/invoke/VarHandle" ∧ (parseMethodDescriptor y.desc).map (fun d => d.parameters.length) = some As.length)
    (hR : (rm.frames + 1 ≤ R.frames ∧ 8 + (maxL + 11) + rm.locals ≤ R.locals) ∧ rm.cells = 0 ∧ rm.slots = 0 ∧ k ≤ R.cells ∧ sl ≤ R.slots) (hst : (st.map fun v => v.category).sum ≤ 8) {st0 : List Value} (hs0 : st0 = As.reverse ++ .ref (B + 182 + 0) :: st)
    (kk : ∀ (r : Int32) (τ' : Sg), post r τ' → Z l D clsB B 215 R nL X k sl (LM B ca σ τ' xo yo) (pc + 3) L (.int r :: st)) : Z l D clsB B 215 R nL X k sl (LM B ca σ τ xo yo) pc L st0 := by
  obtain ⟨p, e, s, m, args, below, meth, c, Q⟩ := X
  obtain ⟨hx, hb, hml, hown, hts, hK⟩ := C
  subst hs0
  intro H locs ls hP hS hl
  have hP0 := LM_mid hP
  refine va_calli (va_runV (As := As) (rest := st) ⟨hx, hb, hml, hown, hts⟩ (hM H.size) (cwV As.length hts (gd_Vw (w0 := w0) h1 h2 h3 h4 h5) rfl hR.2.1 hR.2.2.1 hds hR.1) ⟨mPc_blind, va_recv (q := (R_Mdl, F_Mdl, 46)) hK hP0 rfl (mw_at (o := 0) (by decide) rfl (eB_Mdl (σ := τ))), fun U hU hW => ⟨rfl, by rw [hU], by rw [hU]; exact hP0, va_K.moved hW.alike hK⟩⟩ rfl rfl hl.1 rfl (lv_room hst) hd ⟨hR.2.2.2.1, hR.2.2.2.2⟩) hS (fun q _ h => mA_le hS.1 q (mA_mdl h)) (fun q h => mA_le hS.1 q (mA_mdl h)) (fun r u t H1 locs1 ht hvm hp hB hz1 hk1 hS1 => ?_)
  obtain ⟨hP1, -⟩ := hB
  obtain ⟨τ', rfl, hpo⟩ := hp
  rw [ht] at hP1
  exact kk r τ' hpo H1 locs1 ls (LM_aft2 hP hP1 hk1) hS1 hl
theorem z_mdlD {post : UInt64 → Sg → Prop} (C : Cx D clsB (tyL ca) cc nL own (w0 :: gtb) X) (hd : decode cc pc = .ok (.invokevirtual index, 3)) (hM : CtD l D ca SM (B + 182) 31 y (Cond.code y bytes maxL ret :: gtb) rm τ (.ref (B + 182 + 0) :: As) post)
    (h1 : Cond.methodLink own index y ∈ gtb) (h2 : Cond.instanceMethod y ∈ gtb) (h3 : Cond.selects R_Mdl y y ∈ gtb) (h4 : Cond.initialized R_Mdl ∈ gtb) (h5 : Cond.code y bytes maxL ret ∈ gtb)
    (hds : y.cls = R_Mdl ∧ y.cls ≠ "java/lang/invoke/MethodHandle" ∧ y.cls ≠ "java/lang/invoke/VarHandle" ∧ (parseMethodDescriptor y.desc).map (fun d => d.parameters.length) = some As.length)
    (hR : (rm.frames + 1 ≤ R.frames ∧ 8 + (maxL + 11) + rm.locals ≤ R.locals) ∧ rm.cells = 0 ∧ rm.slots = 0 ∧ k ≤ R.cells ∧ sl ≤ R.slots) (hst : (st.map fun v => v.category).sum ≤ 8) {st0 : List Value} (hs0 : st0 = As.reverse ++ .ref (B + 182 + 0) :: st)
    (kk : ∀ (r : UInt64) (τ' : Sg), post r τ' → Z l D clsB B 215 R nL X k sl (LM B ca σ τ' xo yo) (pc + 3) L (.double r :: st)) : Z l D clsB B 215 R nL X k sl (LM B ca σ τ xo yo) pc L st0 := by
  obtain ⟨p, e, s, m, args, below, meth, c, Q⟩ := X
  obtain ⟨hx, hb, hml, hown, hts, hK⟩ := C
  subst hs0
  intro H locs ls hP hS hl
  have hP0 := LM_mid hP
  refine va_calld (va_runV (As := As) (rest := st) ⟨hx, hb, hml, hown, hts⟩ (hM H.size) (cwV As.length hts (gd_Vw (w0 := w0) h1 h2 h3 h4 h5) rfl hR.2.1 hR.2.2.1 hds hR.1) ⟨mPc_blind, va_recv (q := (R_Mdl, F_Mdl, 46)) hK hP0 rfl (mw_at (o := 0) (by decide) rfl (eB_Mdl (σ := τ))), fun U hU hW => ⟨rfl, by rw [hU], by rw [hU]; exact hP0, va_K.moved hW.alike hK⟩⟩ rfl rfl hl.1 rfl (lv_room hst) hd ⟨hR.2.2.2.1, hR.2.2.2.2⟩) hS (fun q _ h => mA_le hS.1 q (mA_mdl h)) (fun q h => mA_le hS.1 q (mA_mdl h)) (fun r u t H1 locs1 ht hvm hp hB hz1 hk1 hS1 => ?_)
  obtain ⟨hP1, -⟩ := hB
  obtain ⟨τ', rfl, hpo⟩ := hp
  rw [ht] at hP1
  exact kk r τ' hpo H1 locs1 ls (LM_aft2 hP hP1 hk1) hS1 hl
theorem z_busD {post : UInt64 → Sg → Prop} (C : Cx D clsB (tyL ca) cc nL own (w0 :: gtb) X) (hd : decode cc pc = .ok (.invokevirtual index, 3)) (hM : CtD l D ca SB B 182 y (Cond.code y bytes maxL ret :: gtb) rm σ (.ref (B + 0) :: As) post)
    (h1 : Cond.methodLink own index y ∈ gtb) (h2 : Cond.instanceMethod y ∈ gtb) (h3 : Cond.selects R_Bus y y ∈ gtb) (h4 : Cond.initialized R_Bus ∈ gtb) (h5 : Cond.code y bytes maxL ret ∈ gtb)
    (hds : y.cls = R_Bus ∧ y.cls ≠ "java/lang/invoke/MethodHandle" ∧ y.cls ≠ "java/lang/invoke/VarHandle" ∧ (parseMethodDescriptor y.desc).map (fun d => d.parameters.length) = some As.length)
    (hR : (rm.frames + 1 ≤ R.frames ∧ 8 + (maxL + 11) + rm.locals ≤ R.locals) ∧ rm.cells = 0 ∧ rm.slots = 0 ∧ k ≤ R.cells ∧ sl ≤ R.slots) (hst : (st.map fun v => v.category).sum ≤ 8) {st0 : List Value} (hs0 : st0 = As.reverse ++ .ref (B + 0) :: st)
    (kk : ∀ (r : UInt64) (σ' : Sg), post r σ' → Z l D clsB B 215 R nL X k sl (LM B ca σ' τ xo yo) (pc + 3) L (.double r :: st)) : Z l D clsB B 215 R nL X k sl (LM B ca σ τ xo yo) pc L st0 := by
  obtain ⟨p, e, s, m, args, below, meth, c, Q⟩ := X
  obtain ⟨hx, hb, hml, hown, hts, hK⟩ := C
  subst hs0
  intro H locs ls hP hS hl
  have hP0 := LM_left hP
  refine va_calld (va_runV (As := As) (rest := st) ⟨hx, hb, hml, hown, hts⟩ (hM H.size) (cwV As.length hts (gd_Vw (w0 := w0) h1 h2 h3 h4 h5) rfl hR.2.1 hR.2.2.1 hds hR.1) ⟨mPc_blind, va_recv (q := (R_Bus, F_Bus, 13)) hK hP0 rfl (mw_at (o := 0) (by decide) rfl (eB_Bus (σ := σ))), fun U hU hW => ⟨rfl, by rw [hU], by rw [hU]; exact hP0, va_K.moved hW.alike hK⟩⟩ rfl rfl hl.1 rfl (lv_room hst) hd ⟨hR.2.2.2.1, hR.2.2.2.2⟩) hS (fun q _ h => mA_le hS.1 q (mA_215 h)) (fun q h => mA_le hS.1 q (mA_215 h)) (fun r u t H1 locs1 ht hvm hp hB hz1 hk1 hS1 => ?_)
  obtain ⟨hP1, -⟩ := hB
  obtain ⟨σ', rfl, hpo⟩ := hp
  rw [ht] at hP1
  exact kk r σ' hpo H1 locs1 ls (LM_after hP hP1 hk1) hS1 hl
end LZ
