/-! Contracts of a block's methods, built out of a walk in Z; and the calls of such methods. -/
section BM
variable {l : Launch} {y : MethodName} {ws ws' : List Cond} {rm : Room} {cc : ByteArray} {maxL : Nat} {D : va_G} {cl : List vw_C} {tys : List (ClassId × FieldType)} {b n sz : Nat} {M : Nat → va_E} {av : List Value} {own : String} {L : List (Nat × Value)}
theorem bm_i {post : Int32 → (Nat → va_E) → Prop} (hy : plainName y.cls = true) (hw : ws = Cond.code y cc maxL (some .int) :: ws') (hown : y.cls = own) (hlen : (lg_sl av).length ≤ maxL) (hL : lv_args 0 av = L)
    (body : ∀ X : Zx, Cx D cl tys cc maxL own ws X → (∀ (v : Int32) (M' : Nat → va_E) (pc : Nat) (L' : List (Nat × Value)), decode cc pc = .ok (.ireturn, 1) → post v M' → Z l D cl b n rm maxL X 0 0 M' pc L' [.int v]) → Z l D cl b n rm maxL X 0 0 M 0 L []) :
    Met l y ws rm (mPc D cl tys b n sz M av) (va_Qi post (mB D cl tys b n) (mA b n sz)) 0 0 (mA b n sz) := by
  refine Met.ofW (cc := cc) (maxL := maxL) (ret := some .int) hy hw ?_
  intro p e s m args below meth c s₁ B hml hv
  obtain ⟨rfl, hsz, hP, hK⟩ := hv
  have hx := B.exec
  have hb := B.bytes
  have hr := B.returns
  have hts := atoms_spec (ws := ws) B.pre
  have ho : s.vm.findClass own = some m.cls := by rw [← hown]; exact findClass_of_methodNamed B.named
  have hlocks := B.notSynchronized
  subst hsz
  have hl := lv_entry av (n := maxL) hlen
  rw [lg_entry_eq]
  rw [hL] at hl
  refine body (p, e, s, m, av.toArray, below, meth, c, MQ below (va_Qi post (mB D cl tys b n) (mA b n s.heap.size)) av.toArray s 0 0 (mA b n s.heap.size)) ⟨hx, hb, hml, ho, hts, hK⟩ ?_ s.heap [] _ hP va_S.rf hl
  intro v M' pc L' hd hp H locs ls hP' hS' hl'
  exact W.iret (v := v) hx hb hr (fun t ht hW => ⟨⟨v, M', rfl, hp, by rw [ht]; exact hP', va_K.moved hW.alike hK⟩, hS'.F ht⟩) hS'.2.2 hd hlocks
theorem bm_z {post : Int32 → (Nat → va_E) → Prop} (hy : plainName y.cls = true) (hw : ws = Cond.code y cc maxL (some .boolean) :: ws') (hown : y.cls = own) (hlen : (lg_sl av).length ≤ maxL) (hL : lv_args 0 av = L)
    (body : ∀ X : Zx, Cx D cl tys cc maxL own ws X → (∀ (v : Int32) (M' : Nat → va_E) (pc : Nat) (L' : List (Nat × Value)), decode cc pc = .ok (.ireturn, 1) → (v = 0 ∨ v = 1) → post v M' → Z l D cl b n rm maxL X 0 0 M' pc L' [.int v]) → Z l D cl b n rm maxL X 0 0 M 0 L []) :
    Met l y ws rm (mPc D cl tys b n sz M av) (va_Qi post (mB D cl tys b n) (mA b n sz)) 0 0 (mA b n sz) := by
  refine Met.ofW (cc := cc) (maxL := maxL) (ret := some .boolean) hy hw ?_
  intro p e s m args below meth c s₁ B hml hv
  obtain ⟨rfl, hsz, hP, hK⟩ := hv
  have hx := B.exec
  have hb := B.bytes
  have hr := B.returns
  have hts := atoms_spec (ws := ws) B.pre
  have ho : s.vm.findClass own = some m.cls := by rw [← hown]; exact findClass_of_methodNamed B.named
  have hlocks := B.notSynchronized
  subst hsz
  have hl := lv_entry av (n := maxL) hlen
  rw [lg_entry_eq]
  rw [hL] at hl
  refine body (p, e, s, m, av.toArray, below, meth, c, MQ below (va_Qi post (mB D cl tys b n) (mA b n s.heap.size)) av.toArray s 0 0 (mA b n s.heap.size)) ⟨hx, hb, hml, ho, hts, hK⟩ ?_ s.heap [] _ hP va_S.rf hl
  intro v M' pc L' hd h01 hp H locs ls hP' hS' hl'
  exact W.zret (v := v) hx hb hr (by rcases h01 with rfl | rfl <;> rfl) (fun t ht hW => ⟨⟨v, M', rfl, hp, by rw [ht]; exact hP', va_K.moved hW.alike hK⟩, hS'.F ht⟩) hS'.2.2 hd hlocks
theorem bm_v {post : (Nat → va_E) → Prop} (hy : plainName y.cls = true) (hw : ws = Cond.code y cc maxL none :: ws') (hown : y.cls = own) (hlen : (lg_sl av).length ≤ maxL) (hL : lv_args 0 av = L)
    (body : ∀ X : Zx, Cx D cl tys cc maxL own ws X → (∀ (M' : Nat → va_E) (pc : Nat) (L' : List (Nat × Value)), decode cc pc = .ok (.return_, 1) → post M' → Z l D cl b n rm maxL X 0 0 M' pc L' []) → Z l D cl b n rm maxL X 0 0 M 0 L []) :
    Met l y ws rm (mPc D cl tys b n sz M av) (va_Qv post (mB D cl tys b n) (mA b n sz)) 0 0 (mA b n sz) := by
  refine Met.ofW (cc := cc) (maxL := maxL) (ret := none) hy hw ?_
  intro p e s m args below meth c s₁ B hml hv
  obtain ⟨rfl, hsz, hP, hK⟩ := hv
  have hx := B.exec
  have hb := B.bytes
  have hr := B.returns
  have hts := atoms_spec (ws := ws) B.pre
  have ho : s.vm.findClass own = some m.cls := by rw [← hown]; exact findClass_of_methodNamed B.named
  have hlocks := B.notSynchronized
  subst hsz
  have hl := lv_entry av (n := maxL) hlen
  rw [lg_entry_eq]
  rw [hL] at hl
  refine body (p, e, s, m, av.toArray, below, meth, c, MQ below (va_Qv post (mB D cl tys b n) (mA b n s.heap.size)) av.toArray s 0 0 (mA b n s.heap.size)) ⟨hx, hb, hml, ho, hts, hK⟩ ?_ s.heap [] _ hP va_S.rf hl
  intro M' pc L' hd hp H locs ls hP' hS' hl'
  exact W.vret hx hb hr (fun t ht hW => ⟨⟨M', rfl, hp, by rw [ht]; exact hP', va_K.moved hW.alike hK⟩, hS'.F ht⟩) hS'.2.2 hd hlocks
theorem bm_d {post : UInt64 → (Nat → va_E) → Prop} (hy : plainName y.cls = true) (hw : ws = Cond.code y cc maxL (some .double) :: ws') (hown : y.cls = own) (hlen : (lg_sl av).length ≤ maxL) (hL : lv_args 0 av = L)
    (body : ∀ X : Zx, Cx D cl tys cc maxL own ws X → (∀ (v : UInt64) (M' : Nat → va_E) (pc : Nat) (L' : List (Nat × Value)), decode cc pc = .ok (.dreturn, 1) → post v M' → Z l D cl b n rm maxL X 0 0 M' pc L' [.double v]) → Z l D cl b n rm maxL X 0 0 M 0 L []) :
    Met l y ws rm (mPc D cl tys b n sz M av) (va_Qd post (mB D cl tys b n) (mA b n sz)) 0 0 (mA b n sz) := by
  refine Met.ofW (cc := cc) (maxL := maxL) (ret := some .double) hy hw ?_
  intro p e s m args below meth c s₁ B hml hv
  obtain ⟨rfl, hsz, hP, hK⟩ := hv
  have hx := B.exec
  have hb := B.bytes
  have hr := B.returns
  have hts := atoms_spec (ws := ws) B.pre
  have ho : s.vm.findClass own = some m.cls := by rw [← hown]; exact findClass_of_methodNamed B.named
  have hlocks := B.notSynchronized
  subst hsz
  have hl := lv_entry av (n := maxL) hlen
  rw [lg_entry_eq]
  rw [hL] at hl
  refine body (p, e, s, m, av.toArray, below, meth, c, MQ below (va_Qd post (mB D cl tys b n) (mA b n s.heap.size)) av.toArray s 0 0 (mA b n s.heap.size)) ⟨hx, hb, hml, ho, hts, hK⟩ ?_ s.heap [] _ hP va_S.rf hl
  intro v M' pc L' hd hp H locs ls hP' hS' hl'
  exact W.dret (v := v) hx hb hr (fun t ht hW => ⟨⟨v, M', rfl, hp, by rw [ht]; exact hP', va_K.moved hW.alike hK⟩, hS'.F ht⟩) hS'.2.2 hd hlocks
end BM
section BC
variable {l : Launch} {D : va_G} {cl : List vw_C} {tys : List (ClassId × FieldType)} {b n : Nat} {R : Room} {nL : Nat} {X : Zx} {k sl : Nat} {M : Nat → va_E} {pc : Nat} {L : List (Nat × Value)} {st : List Value} {cc : ByteArray} {own : String} {Ts : List Cond}
variable {y : MethodName} {bytes : ByteArray} {maxL index a o ci N : Nat} {ret : Option FieldType} {ws ws' : List Cond} {rm : Room} {As fs : List Value} {C0 : String} {T : u_T}
/-- a call of an instance method of an object of the block, which answers an int -/
theorem z_callVi {post : Int32 → (Nat → va_E) → Prop} (C : Cx D cl tys cc nL own Ts X) (hd : decode cc pc = .ok (.invokevirtual index, 3)) (hM : ∀ sz, Met l y ws rm (mPc D cl tys b n sz M (.ref a :: As)) (va_Qi post (mB D cl tys b n) (mA b n sz)) 0 0 (mA b n sz))
    (hG : GoodIn Ts (wsV own index C0 y ws)) (hw : ws = Cond.code y bytes maxL ret :: ws') (hds : y.cls = C0 ∧ y.cls ≠ "java/lang/invoke/MethodHandle" ∧ y.cls ≠ "java/lang/invoke/VarHandle" ∧ (parseMethodDescriptor y.desc).map (fun d => d.parameters.length) = some As.length)
    (hR : (rm.frames + 1 ≤ R.frames ∧ 8 + (maxL + 11) + rm.locals ≤ R.locals) ∧ rm.cells = 0 ∧ rm.slots = 0 ∧ k ≤ R.cells ∧ sl ≤ R.slots) (ho : o < n) (ha : b + o = a) (hMo : M o = .inr (ci, fs)) (hc : cl[ci]? = some (C0, T, N)) (hst : (st.map fun v => v.category).sum ≤ 8)
    (kk : ∀ (r : Int32) (M' : Nat → va_E), post r M' → Z l D cl b n R nL X k sl M' (pc + 3) L (.int r :: st)) {st0 : List Value} (hs0 : st0 = As.reverse ++ .ref a :: st) : Z l D cl b n R nL X k sl M pc L st0 := by
  obtain ⟨p, e, s, m, args, below, meth, c, Q⟩ := X
  obtain ⟨hx, hb, hml, hown, hts, hK⟩ := C
  subst hs0
  intro H locs ls hP hS hl
  refine va_calli (va_runV (As := As) (rest := st) ⟨hx, hb, hml, hown, hts⟩ (hM H.size) (cwV As.length hts hG hw hR.2.1 hR.2.2.1 hds hR.1) ⟨mPc_blind, va_recv hK hP hc (mw_at ho ha hMo), fun U hU hW => ⟨rfl, by rw [hU], by rw [hU]; exact hP, va_K.moved hW.alike hK⟩⟩ rfl rfl hl.1 rfl (lv_room hst) hd ⟨hR.2.2.2.1, hR.2.2.2.2⟩) hS (fun q _ h => mA_le hS.1 q h) (mA_le hS.1) (fun r u t H1 locs1 ht hvm hp hB hz1 hk1 hS1 => ?_)
  obtain ⟨hP1, hK1⟩ := hB
  rw [ht] at hP1
  exact kk r u hp H1 locs1 ls hP1 hS1 hl
theorem z_callVv {post : (Nat → va_E) → Prop} (C : Cx D cl tys cc nL own Ts X) (hd : decode cc pc = .ok (.invokevirtual index, 3)) (hM : ∀ sz, Met l y ws rm (mPc D cl tys b n sz M (.ref a :: As)) (va_Qv post (mB D cl tys b n) (mA b n sz)) 0 0 (mA b n sz))
    (hG : GoodIn Ts (wsV own index C0 y ws)) (hw : ws = Cond.code y bytes maxL ret :: ws') (hds : y.cls = C0 ∧ y.cls ≠ "java/lang/invoke/MethodHandle" ∧ y.cls ≠ "java/lang/invoke/VarHandle" ∧ (parseMethodDescriptor y.desc).map (fun d => d.parameters.length) = some As.length)
    (hR : (rm.frames + 1 ≤ R.frames ∧ 8 + (maxL + 11) + rm.locals ≤ R.locals) ∧ rm.cells = 0 ∧ rm.slots = 0 ∧ k ≤ R.cells ∧ sl ≤ R.slots) (ho : o < n) (ha : b + o = a) (hMo : M o = .inr (ci, fs)) (hc : cl[ci]? = some (C0, T, N)) (hst : (st.map fun v => v.category).sum ≤ 8)
    (kk : ∀ (M' : Nat → va_E), post M' → Z l D cl b n R nL X k sl M' (pc + 3) L st) {st0 : List Value} (hs0 : st0 = As.reverse ++ .ref a :: st) : Z l D cl b n R nL X k sl M pc L st0 := by
  obtain ⟨p, e, s, m, args, below, meth, c, Q⟩ := X
  obtain ⟨hx, hb, hml, hown, hts, hK⟩ := C
  subst hs0
  intro H locs ls hP hS hl
  refine va_callv (va_runV (As := As) (rest := st) ⟨hx, hb, hml, hown, hts⟩ (hM H.size) (cwV As.length hts hG hw hR.2.1 hR.2.2.1 hds hR.1) ⟨mPc_blind, va_recv hK hP hc (mw_at ho ha hMo), fun U hU hW => ⟨rfl, by rw [hU], by rw [hU]; exact hP, va_K.moved hW.alike hK⟩⟩ rfl rfl hl.1 rfl (lv_room hst) hd ⟨hR.2.2.2.1, hR.2.2.2.2⟩) hS (fun q _ h => mA_le hS.1 q h) (mA_le hS.1) (fun u t H1 locs1 ht hvm hp hB hz1 hk1 hS1 => ?_)
  obtain ⟨hP1, hK1⟩ := hB
  rw [ht] at hP1
  exact kk u hp H1 locs1 ls hP1 hS1 hl
/-- a call of a static method of the walked method's own class, which answers an int -/
theorem z_callSi {post : Int32 → (Nat → va_E) → Prop} (C : Cx D cl tys cc nL own Ts X) (hd : decode cc pc = .ok (.invokestatic index, 3)) (hM : ∀ sz, Met l y ws rm (mPc D cl tys b n sz M As) (va_Qi post (mB D cl tys b n) (mA b n sz)) 0 0 (mA b n sz))
    (hG : GoodIn Ts (wsS own index y ws)) (hw : ws = Cond.code y bytes maxL ret :: ws') (hds : y.cls = own ∧ y.cls ≠ "java/lang/invoke/MethodHandle" ∧ y.cls ≠ "java/lang/invoke/VarHandle" ∧ (parseMethodDescriptor y.desc).map (fun d => d.parameters.length) = some As.length)
    (hR : (rm.frames + 1 ≤ R.frames ∧ 8 + (maxL + 11) + rm.locals ≤ R.locals) ∧ rm.cells = 0 ∧ rm.slots = 0 ∧ k ≤ R.cells ∧ sl ≤ R.slots) (hst : (st.map fun v => v.category).sum ≤ 8)
    (kk : ∀ (r : Int32) (M' : Nat → va_E), post r M' → Z l D cl b n R nL X k sl M' (pc + 3) L (.int r :: st)) {st0 : List Value} (hs0 : st0 = As.reverse ++ st) : Z l D cl b n R nL X k sl M pc L st0 := by
  obtain ⟨p, e, s, m, args, below, meth, c, Q⟩ := X
  obtain ⟨hx, hb, hml, hown, hts, hK⟩ := C
  subst hs0
  intro H locs ls hP hS hl
  refine va_calli (va_runS (As := As) (rest := st) ⟨hx, hb, hml, hown, hts⟩ (hM H.size) (cwS As.length hts hG hw hR.2.1 hR.2.2.1 hds hR.1) ⟨mPc_blind, fun U hU hW => ⟨rfl, by rw [hU], by rw [hU]; exact hP, va_K.moved hW.alike hK⟩⟩ rfl rfl hl.1 rfl (lv_room hst) hd ⟨hR.2.2.2.1, hR.2.2.2.2⟩) hS (fun q _ h => mA_le hS.1 q h) (mA_le hS.1) (fun r u t H1 locs1 ht hvm hp hB hz1 hk1 hS1 => ?_)
  obtain ⟨hP1, hK1⟩ := hB
  rw [ht] at hP1
  exact kk r u hp H1 locs1 ls hP1 hS1 hl
end BC
