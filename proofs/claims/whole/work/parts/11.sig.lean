/-! Walks and contracts over a table S and a state σ: the block's map is enc b ca S σ. -/
abbrev tyL (ca : Nat → ClassId) : List (ClassId × FieldType) := [(ca 0, .int), (ca 1, .object "RobotBus$Node"), (ca 2, .object "RobotBus$Topic"), (ca 3, .object "RobotBus$Service"), (ca 4, .object "RobotBus$Frame"), (ca 5, .object "RobotBus$Queue"), (ca 6, .object "RobotBus$Action"), (ca 7, .boolean), (ca 8, .long), (ca 9, .double)]
abbrev Zs (l : Launch) (D : va_G) (ca : Nat → ClassId) (S : List Cee) (b n : Nat) (R : Room) (nL : Nat) (X : Zx) (σ : Sg) (pc : Nat) (L : List (Nat × Value)) (st : List Value) : Prop := Z l D clsB b n R nL X 0 0 (enc b ca S σ) pc L st
abbrev Cs (D : va_G) (ca : Nat → ClassId) (cc : ByteArray) (nL : Nat) (own : String) (cx : Cond) (X : Zx) : Prop := Cx D clsB (tyL ca) cc nL own (cx :: gtb) X
/-- a room of f frames and w words, in which nothing is made -/
abbrev rmN (f w : Nat) : Room := { frames := f, cells := 0, slots := 0, locals := w }
def us (σ : Sg) (f i t : Nat) (x : Int32) : Sg := upA σ (f, i, t) (fun _ => x)
theorem us_self {σ : Sg} {f i t j : Nat} {x : Int32} : (us σ f i t x).1 f i t j = x := by simp [us, upA]
theorem us_ne {σ : Sg} {f i t f' i' t' : Nat} {x : Int32} (h : ¬ (f', i', t') = (f, i, t)) : (us σ f i t x).1 f' i' t' = σ.1 f' i' t' := upA_ne h
abbrev CtI (l : Launch) (D : va_G) (ca : Nat → ClassId) (S : List Cee) (b n : Nat) (y : MethodName) (ws : List Cond) (rm : Room) (σ : Sg) (av : List Value) (post : Int32 → Sg → Prop) : Prop :=
  ∀ sz, Met l y ws rm (mPc D clsB (tyL ca) b n sz (enc b ca S σ) av) (va_Qi (fun r M' => ∃ σ', M' = enc b ca S σ' ∧ post r σ') (mB D clsB (tyL ca) b n) (mA b n sz)) 0 0 (mA b n sz)
abbrev CtD (l : Launch) (D : va_G) (ca : Nat → ClassId) (S : List Cee) (b n : Nat) (y : MethodName) (ws : List Cond) (rm : Room) (σ : Sg) (av : List Value) (post : UInt64 → Sg → Prop) : Prop :=
  ∀ sz, Met l y ws rm (mPc D clsB (tyL ca) b n sz (enc b ca S σ) av) (va_Qd (fun r M' => ∃ σ', M' = enc b ca S σ' ∧ post r σ') (mB D clsB (tyL ca) b n) (mA b n sz)) 0 0 (mA b n sz)
abbrev CtV (l : Launch) (D : va_G) (ca : Nat → ClassId) (S : List Cee) (b n : Nat) (y : MethodName) (ws : List Cond) (rm : Room) (σ : Sg) (av : List Value) (post : Sg → Prop) : Prop :=
  ∀ sz, Met l y ws rm (mPc D clsB (tyL ca) b n sz (enc b ca S σ) av) (va_Qv (fun M' => ∃ σ', M' = enc b ca S σ' ∧ post σ') (mB D clsB (tyL ca) b n) (mA b n sz)) 0 0 (mA b n sz)
section SIG
variable {l : Launch} {D : va_G} {ca : Nat → ClassId} {S : List Cee} {b n : Nat} {y : MethodName} {rm : Room} {cc : ByteArray} {maxL : Nat} {σ : Sg} {av : List Value} {own : String} {L : List (Nat × Value)}
theorem ct_i {post : Int32 → Sg → Prop} (own : String) (L : List (Nat × Value)) (hy : plainName y.cls = true) (hown : y.cls = own) (hlen : (lg_sl av).length ≤ maxL) (hL : lv_args 0 av = L)
    (body : ∀ X : Zx, Cs D ca cc maxL own (Cond.code y cc maxL (some .int)) X → (∀ (v : Int32) (σ' : Sg) (pc : Nat) (L' : List (Nat × Value)), decode cc pc = .ok (.ireturn, 1) → post v σ' → Zs l D ca S b n rm maxL X σ' pc L' [.int v]) → Zs l D ca S b n rm maxL X σ 0 L []) :
    CtI l D ca S b n y (Cond.code y cc maxL (some .int) :: gtb) rm σ av post := fun sz =>
  bm_i hy rfl hown hlen hL (fun X C hret => body X C (fun v σ' pc L' hd hp => hret v _ pc L' hd ⟨σ', rfl, hp⟩))
theorem ct_z {post : Int32 → Sg → Prop} (own : String) (L : List (Nat × Value)) (hy : plainName y.cls = true) (hown : y.cls = own) (hlen : (lg_sl av).length ≤ maxL) (hL : lv_args 0 av = L)
    (body : ∀ X : Zx, Cs D ca cc maxL own (Cond.code y cc maxL (some .boolean)) X → (∀ (v : Int32) (σ' : Sg) (pc : Nat) (L' : List (Nat × Value)), decode cc pc = .ok (.ireturn, 1) → (v = 0 ∨ v = 1) → post v σ' → Zs l D ca S b n rm maxL X σ' pc L' [.int v]) → Zs l D ca S b n rm maxL X σ 0 L []) :
    CtI l D ca S b n y (Cond.code y cc maxL (some .boolean) :: gtb) rm σ av post := fun sz =>
  bm_z hy rfl hown hlen hL (fun X C hret => body X C (fun v σ' pc L' hd h01 hp => hret v _ pc L' hd h01 ⟨σ', rfl, hp⟩))
theorem ct_v {post : Sg → Prop} (own : String) (L : List (Nat × Value)) (hy : plainName y.cls = true) (hown : y.cls = own) (hlen : (lg_sl av).length ≤ maxL) (hL : lv_args 0 av = L)
    (body : ∀ X : Zx, Cs D ca cc maxL own (Cond.code y cc maxL none) X → (∀ (σ' : Sg) (pc : Nat) (L' : List (Nat × Value)), decode cc pc = .ok (.return_, 1) → post σ' → Zs l D ca S b n rm maxL X σ' pc L' []) → Zs l D ca S b n rm maxL X σ 0 L []) :
    CtV l D ca S b n y (Cond.code y cc maxL none :: gtb) rm σ av post := fun sz =>
  bm_v hy rfl hown hlen hL (fun X C hret => body X C (fun σ' pc L' hd hp => hret _ pc L' hd ⟨σ', rfl, hp⟩))
theorem ct_d {post : UInt64 → Sg → Prop} (own : String) (L : List (Nat × Value)) (hy : plainName y.cls = true) (hown : y.cls = own) (hlen : (lg_sl av).length ≤ maxL) (hL : lv_args 0 av = L)
    (body : ∀ X : Zx, Cs D ca cc maxL own (Cond.code y cc maxL (some .double)) X → (∀ (v : UInt64) (σ' : Sg) (pc : Nat) (L' : List (Nat × Value)), decode cc pc = .ok (.dreturn, 1) → post v σ' → Zs l D ca S b n rm maxL X σ' pc L' [.double v]) → Zs l D ca S b n rm maxL X σ 0 L []) :
    CtD l D ca S b n y (Cond.code y cc maxL (some .double) :: gtb) rm σ av post := fun sz =>
  bm_d hy rfl hown hlen hL (fun X C hret => body X C (fun v σ' pc L' hd hp => hret v _ pc L' hd ⟨σ', rfl, hp⟩))
end SIG
section SIGC
variable {l : Launch} {D : va_G} {ca : Nat → ClassId} {S : List Cee} {b n : Nat} {R : Room} {nL : Nat} {X : Zx} {σ : Sg} {pc : Nat} {L : List (Nat × Value)} {st : List Value} {cc : ByteArray} {own : String} {y0 : MethodName} {c0 : ByteArray} {n0 : Nat} {r0 : Option FieldType}
variable {y : MethodName} {bytes : ByteArray} {maxL index a o ci N : Nat} {ret : Option FieldType} {rm : Room} {As fs : List Value} {C0 : String} {T : u_T}
theorem zc_Vi {post : Int32 → Sg → Prop} (C : Cs D ca cc nL own (Cond.code y0 c0 n0 r0) X) (hd : decode cc pc = .ok (.invokevirtual index, 3)) (hM : CtI l D ca S b n y (Cond.code y bytes maxL ret :: gtb) rm σ (.ref a :: As) post)
    (h1 : Cond.methodLink own index y ∈ gtb) (h2 : Cond.instanceMethod y ∈ gtb) (h3 : Cond.selects C0 y y ∈ gtb) (h4 : Cond.initialized C0 ∈ gtb) (h5 : Cond.code y bytes maxL ret ∈ gtb)
    (hds : y.cls = C0 ∧ y.cls ≠ "java/lang/invoke/MethodHandle" ∧ y.cls ≠ "java/lang/invoke/VarHandle" ∧ (parseMethodDescriptor y.desc).map (fun d => d.parameters.length) = some As.length)
    (hR : (rm.frames + 1 ≤ R.frames ∧ 8 + (maxL + 11) + rm.locals ≤ R.locals) ∧ rm.cells = 0 ∧ rm.slots = 0 ∧ 0 ≤ R.cells ∧ 0 ≤ R.slots) (ho : o < n) (ha : b + o = a) (hMo : enc b ca S σ o = .inr (ci, fs)) (hc : clsB[ci]? = some (C0, T, N)) (hst : (st.map fun v => v.category).sum ≤ 8) {st0 : List Value} (hs0 : st0 = As.reverse ++ .ref a :: st)
    (kk : ∀ (r : Int32) (σ' : Sg), post r σ' → Zs l D ca S b n R nL X σ' (pc + 3) L (.int r :: st)) : Zs l D ca S b n R nL X σ pc L st0 :=
  z_callVi C hd hM (gd_V h1 h2 h3 h4 h5) rfl hds hR ho ha hMo hc hst (fun r M' h => by
    obtain ⟨σ', rfl, hp⟩ := h
    exact kk r σ' hp) hs0
theorem zc_Vv {post : Sg → Prop} (C : Cs D ca cc nL own (Cond.code y0 c0 n0 r0) X) (hd : decode cc pc = .ok (.invokevirtual index, 3)) (hM : CtV l D ca S b n y (Cond.code y bytes maxL ret :: gtb) rm σ (.ref a :: As) post)
    (h1 : Cond.methodLink own index y ∈ gtb) (h2 : Cond.instanceMethod y ∈ gtb) (h3 : Cond.selects C0 y y ∈ gtb) (h4 : Cond.initialized C0 ∈ gtb) (h5 : Cond.code y bytes maxL ret ∈ gtb)
    (hds : y.cls = C0 ∧ y.cls ≠ "java/lang/invoke/MethodHandle" ∧ y.cls ≠ "java/lang/invoke/VarHandle" ∧ (parseMethodDescriptor y.desc).map (fun d => d.parameters.length) = some As.length)
    (hR : (rm.frames + 1 ≤ R.frames ∧ 8 + (maxL + 11) + rm.locals ≤ R.locals) ∧ rm.cells = 0 ∧ rm.slots = 0 ∧ 0 ≤ R.cells ∧ 0 ≤ R.slots) (ho : o < n) (ha : b + o = a) (hMo : enc b ca S σ o = .inr (ci, fs)) (hc : clsB[ci]? = some (C0, T, N)) (hst : (st.map fun v => v.category).sum ≤ 8) {st0 : List Value} (hs0 : st0 = As.reverse ++ .ref a :: st)
    (kk : ∀ (σ' : Sg), post σ' → Zs l D ca S b n R nL X σ' (pc + 3) L st) : Zs l D ca S b n R nL X σ pc L st0 :=
  z_callVv C hd hM (gd_V h1 h2 h3 h4 h5) rfl hds hR ho ha hMo hc hst (fun M' h => by
    obtain ⟨σ', rfl, hp⟩ := h
    exact kk σ' hp) hs0
theorem zc_Si {post : Int32 → Sg → Prop} (C : Cs D ca cc nL own (Cond.code y0 c0 n0 r0) X) (hd : decode cc pc = .ok (.invokestatic index, 3)) (hM : CtI l D ca S b n y (Cond.code y bytes maxL ret :: gtb) rm σ As post)
    (h1 : Cond.methodLink own index y ∈ gtb) (h2 : Cond.static y ∈ gtb) (h4 : Cond.initialized own ∈ gtb) (h5 : Cond.code y bytes maxL ret ∈ gtb)
    (hds : y.cls = own ∧ y.cls ≠ "java/lang/invoke/MethodHandle" ∧ y.cls ≠ "java/lang/invoke/VarHandle" ∧ (parseMethodDescriptor y.desc).map (fun d => d.parameters.length) = some As.length)
    (hR : (rm.frames + 1 ≤ R.frames ∧ 8 + (maxL + 11) + rm.locals ≤ R.locals) ∧ rm.cells = 0 ∧ rm.slots = 0 ∧ 0 ≤ R.cells ∧ 0 ≤ R.slots) (hst : (st.map fun v => v.category).sum ≤ 8) {st0 : List Value} (hs0 : st0 = As.reverse ++ st)
    (kk : ∀ (r : Int32) (σ' : Sg), post r σ' → Zs l D ca S b n R nL X σ' (pc + 3) L (.int r :: st)) : Zs l D ca S b n R nL X σ pc L st0 :=
  z_callSi C hd hM (gd_S h1 h2 h4 h5) rfl hds hR hst (fun r M' h => by
    obtain ⟨σ', rfl, hp⟩ := h
    exact kk r σ' hp) hs0
end SIGC
