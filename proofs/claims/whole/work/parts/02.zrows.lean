/-! The machine at a program counter, over a block whose map is M: heap, written places and locals' array are hidden; L lists the locals, st is the operand stack. X holds what belongs to one invocation. -/
abbrev Zx : Type := Program × Env × State × MethodId × Array Value × List Frame × Method × Code × (State → Prop)
def Z (l : Launch) (D : va_G) (cl : List vw_C) (b n : Nat) (R : Room) (nL : Nat) (X : Zx) (k sl : Nat) (M : Nat → va_E) (pc : Nat) (L : List (Nat × Value)) (st : List Value) : Prop :=
  match X with
  | (p, e, s, m, args, below, meth, c, Q) => ∀ (H : Heap) (locs : List Loc) (ls : Array Slot), va_P D cl (mw b n M) H → va_S (mA b n s.heap.size) s.heap H locs → lv_has ls nL L → W p l e R s m args below meth c H locs k sl Q (F0 m pc ls st)
/-- what is known of an invocation: code, class, words, tables -/
def Cx (D : va_G) (cl : List vw_C) (tys : List (ClassId × FieldType)) (cc : ByteArray) (nL : Nat) (own : String) (Ts : List Cond) (X : Zx) : Prop :=
  match X with
  | (p, _, s, m, args, _, _, c, _) => p.tables.exec = Jvm.exec ∧ c.code = cc ∧ c.maxLocals = nL ∧ s.vm.findClass own = some m.cls ∧ (∀ w ∈ Ts, w.before args s = true) ∧ va_K D cl tys s
section ZROWS
variable {l : Launch} {D : va_G} {cl : List vw_C} {tys : List (ClassId × FieldType)} {b n : Nat} {R : Room} {nL : Nat} {X : Zx} {k sl : Nat} {M : Nat → va_E} {pc : Nat} {L : List (Nat × Value)} {st : List Value} {cc : ByteArray} {own : String} {Ts : List Cond}
theorem z_eq {pc' : Nat} (h : pc = pc') (kk : Z l D cl b n R nL X k sl M pc' L st) : Z l D cl b n R nL X k sl M pc L st := h ▸ kk
theorem z_stk {st' : List Value} (h : st = st') (kk : Z l D cl b n R nL X k sl M pc L st') : Z l D cl b n R nL X k sl M pc L st := h ▸ kk
theorem z_map {M' : Nat → va_E} (h : M = M') (kk : Z l D cl b n R nL X k sl M' pc L st) : Z l D cl b n R nL X k sl M pc L st := h ▸ kk
theorem z_loc {L' : List (Nat × Value)} (is : List Nat) (h : lv_pick L is = L') (kk : Z l D cl b n R nL X k sl M pc L' st) : Z l D cl b n R nL X k sl M pc L st := by
  obtain ⟨p, e, s, m, args, below, meth, c, Q⟩ := X
  exact fun H locs ls hP hS hl => kk H locs ls hP hS (lv_sub hl is h)
theorem z_topi {x : Int32} (kk : ∀ y : Int32, y = x → Z l D cl b n R nL X k sl M pc L (.int y :: st)) : Z l D cl b n R nL X k sl M pc L (.int x :: st) := kk x rfl
theorem z_iadd (C : Cx D cl tys cc nL own Ts X) {x y : Int32} (hd : decode cc pc = .ok (.iadd, 1)) (kk : Z l D cl b n R nL X k sl M (pc + 1) L (.int (x + y) :: st)) : Z l D cl b n R nL X k sl M pc L (.int y :: .int x :: st) := by
  obtain ⟨p, e, s, m, args, below, meth, c, Q⟩ := X
  obtain ⟨hx, hb, hml, hown, hts, hK⟩ := C
  exact fun H locs ls hP hS hl => lv_iadd hx hb hd (kk H locs ls hP hS hl)
theorem z_isub (C : Cx D cl tys cc nL own Ts X) {x y : Int32} (hd : decode cc pc = .ok (.isub, 1)) (kk : Z l D cl b n R nL X k sl M (pc + 1) L (.int (x - y) :: st)) : Z l D cl b n R nL X k sl M pc L (.int y :: .int x :: st) := by
  obtain ⟨p, e, s, m, args, below, meth, c, Q⟩ := X
  obtain ⟨hx, hb, hml, hown, hts, hK⟩ := C
  exact fun H locs ls hP hS hl => lv_isub hx hb hd (kk H locs ls hP hS hl)
theorem z_imul (C : Cx D cl tys cc nL own Ts X) {x y : Int32} (hd : decode cc pc = .ok (.imul, 1)) (kk : Z l D cl b n R nL X k sl M (pc + 1) L (.int (x * y) :: st)) : Z l D cl b n R nL X k sl M pc L (.int y :: .int x :: st) := by
  obtain ⟨p, e, s, m, args, below, meth, c, Q⟩ := X
  obtain ⟨hx, hb, hml, hown, hts, hK⟩ := C
  exact fun H locs ls hP hS hl => lv_imul hx hb hd (kk H locs ls hP hS hl)
theorem z_iand (C : Cx D cl tys cc nL own Ts X) {x y : Int32} (hd : decode cc pc = .ok (.iand, 1)) (kk : Z l D cl b n R nL X k sl M (pc + 1) L (.int (x &&& y) :: st)) : Z l D cl b n R nL X k sl M pc L (.int y :: .int x :: st) := by
  obtain ⟨p, e, s, m, args, below, meth, c, Q⟩ := X
  obtain ⟨hx, hb, hml, hown, hts, hK⟩ := C
  exact fun H locs ls hP hS hl => lv_iand hx hb hd (kk H locs ls hP hS hl)
theorem z_ior (C : Cx D cl tys cc nL own Ts X) {x y : Int32} (hd : decode cc pc = .ok (.ior, 1)) (kk : Z l D cl b n R nL X k sl M (pc + 1) L (.int (x ||| y) :: st)) : Z l D cl b n R nL X k sl M pc L (.int y :: .int x :: st) := by
  obtain ⟨p, e, s, m, args, below, meth, c, Q⟩ := X
  obtain ⟨hx, hb, hml, hown, hts, hK⟩ := C
  exact fun H locs ls hP hS hl => lv_ior hx hb hd (kk H locs ls hP hS hl)
theorem z_ixor (C : Cx D cl tys cc nL own Ts X) {x y : Int32} (hd : decode cc pc = .ok (.ixor, 1)) (kk : Z l D cl b n R nL X k sl M (pc + 1) L (.int (x ^^^ y) :: st)) : Z l D cl b n R nL X k sl M pc L (.int y :: .int x :: st) := by
  obtain ⟨p, e, s, m, args, below, meth, c, Q⟩ := X
  obtain ⟨hx, hb, hml, hown, hts, hK⟩ := C
  exact fun H locs ls hP hS hl => lv_ixor hx hb hd (kk H locs ls hP hS hl)
theorem z_ineg (C : Cx D cl tys cc nL own Ts X) {x : Int32} (hd : decode cc pc = .ok (.ineg, 1)) (kk : Z l D cl b n R nL X k sl M (pc + 1) L (.int (-x) :: st)) : Z l D cl b n R nL X k sl M pc L (.int x :: st) := by
  obtain ⟨p, e, s, m, args, below, meth, c, Q⟩ := X
  obtain ⟨hx, hb, hml, hown, hts, hK⟩ := C
  exact fun H locs ls hP hS hl => lv_ineg hx hb hd (kk H locs ls hP hS hl)
theorem z_ladd (C : Cx D cl tys cc nL own Ts X) {x y : Int64} (hd : decode cc pc = .ok (.ladd, 1)) (kk : Z l D cl b n R nL X k sl M (pc + 1) L (.long (x + y) :: st)) : Z l D cl b n R nL X k sl M pc L (.long y :: .long x :: st) := by
  obtain ⟨p, e, s, m, args, below, meth, c, Q⟩ := X
  obtain ⟨hx, hb, hml, hown, hts, hK⟩ := C
  exact fun H locs ls hP hS hl => lv_ladd hx hb hd (kk H locs ls hP hS hl)
theorem z_lsub (C : Cx D cl tys cc nL own Ts X) {x y : Int64} (hd : decode cc pc = .ok (.lsub, 1)) (kk : Z l D cl b n R nL X k sl M (pc + 1) L (.long (x - y) :: st)) : Z l D cl b n R nL X k sl M pc L (.long y :: .long x :: st) := by
  obtain ⟨p, e, s, m, args, below, meth, c, Q⟩ := X
  obtain ⟨hx, hb, hml, hown, hts, hK⟩ := C
  exact fun H locs ls hP hS hl => lv_lsub hx hb hd (kk H locs ls hP hS hl)
theorem z_lmul (C : Cx D cl tys cc nL own Ts X) {x y : Int64} (hd : decode cc pc = .ok (.lmul, 1)) (kk : Z l D cl b n R nL X k sl M (pc + 1) L (.long (x * y) :: st)) : Z l D cl b n R nL X k sl M pc L (.long y :: .long x :: st) := by
  obtain ⟨p, e, s, m, args, below, meth, c, Q⟩ := X
  obtain ⟨hx, hb, hml, hown, hts, hK⟩ := C
  exact fun H locs ls hP hS hl => lv_lmul hx hb hd (kk H locs ls hP hS hl)
theorem z_land (C : Cx D cl tys cc nL own Ts X) {x y : Int64} (hd : decode cc pc = .ok (.land, 1)) (kk : Z l D cl b n R nL X k sl M (pc + 1) L (.long (x &&& y) :: st)) : Z l D cl b n R nL X k sl M pc L (.long y :: .long x :: st) := by
  obtain ⟨p, e, s, m, args, below, meth, c, Q⟩ := X
  obtain ⟨hx, hb, hml, hown, hts, hK⟩ := C
  exact fun H locs ls hP hS hl => lv_land hx hb hd (kk H locs ls hP hS hl)
theorem z_lor (C : Cx D cl tys cc nL own Ts X) {x y : Int64} (hd : decode cc pc = .ok (.lor, 1)) (kk : Z l D cl b n R nL X k sl M (pc + 1) L (.long (x ||| y) :: st)) : Z l D cl b n R nL X k sl M pc L (.long y :: .long x :: st) := by
  obtain ⟨p, e, s, m, args, below, meth, c, Q⟩ := X
  obtain ⟨hx, hb, hml, hown, hts, hK⟩ := C
  exact fun H locs ls hP hS hl => lv_lor hx hb hd (kk H locs ls hP hS hl)
theorem z_lxor (C : Cx D cl tys cc nL own Ts X) {x y : Int64} (hd : decode cc pc = .ok (.lxor, 1)) (kk : Z l D cl b n R nL X k sl M (pc + 1) L (.long (x ^^^ y) :: st)) : Z l D cl b n R nL X k sl M pc L (.long y :: .long x :: st) := by
  obtain ⟨p, e, s, m, args, below, meth, c, Q⟩ := X
  obtain ⟨hx, hb, hml, hown, hts, hK⟩ := C
  exact fun H locs ls hP hS hl => lv_lxor hx hb hd (kk H locs ls hP hS hl)
theorem z_lneg (C : Cx D cl tys cc nL own Ts X) {x : Int64} (hd : decode cc pc = .ok (.lneg, 1)) (kk : Z l D cl b n R nL X k sl M (pc + 1) L (.long (-x) :: st)) : Z l D cl b n R nL X k sl M pc L (.long x :: st) := by
  obtain ⟨p, e, s, m, args, below, meth, c, Q⟩ := X
  obtain ⟨hx, hb, hml, hown, hts, hK⟩ := C
  exact fun H locs ls hP hS hl => lv_lneg hx hb hd (kk H locs ls hP hS hl)
theorem z_idiv (C : Cx D cl tys cc nL own Ts X) {x y : Int32} (hd : decode cc pc = .ok (.idiv, 1)) (hne : ¬ y = 0) (kk : Z l D cl b n R nL X k sl M (pc + 1) L (.int (x / y) :: st)) : Z l D cl b n R nL X k sl M pc L (.int y :: .int x :: st) := by
  obtain ⟨p, e, s, m, args, below, meth, c, Q⟩ := X
  obtain ⟨hx, hb, hml, hown, hts, hK⟩ := C
  exact fun H locs ls hP hS hl => lv_idiv hx hb hd hne (kk H locs ls hP hS hl)
theorem z_irem (C : Cx D cl tys cc nL own Ts X) {x y : Int32} (hd : decode cc pc = .ok (.irem, 1)) (hne : ¬ y = 0) (kk : Z l D cl b n R nL X k sl M (pc + 1) L (.int (x - x / y * y) :: st)) : Z l D cl b n R nL X k sl M pc L (.int y :: .int x :: st) := by
  obtain ⟨p, e, s, m, args, below, meth, c, Q⟩ := X
  obtain ⟨hx, hb, hml, hown, hts, hK⟩ := C
  exact fun H locs ls hP hS hl => lv_irem hx hb hd hne (kk H locs ls hP hS hl)
theorem z_ldiv (C : Cx D cl tys cc nL own Ts X) {x y : Int64} (hd : decode cc pc = .ok (.ldiv, 1)) (hne : ¬ y = 0) (kk : Z l D cl b n R nL X k sl M (pc + 1) L (.long (x / y) :: st)) : Z l D cl b n R nL X k sl M pc L (.long y :: .long x :: st) := by
  obtain ⟨p, e, s, m, args, below, meth, c, Q⟩ := X
  obtain ⟨hx, hb, hml, hown, hts, hK⟩ := C
  exact fun H locs ls hP hS hl => lv_ldiv hx hb hd hne (kk H locs ls hP hS hl)
theorem z_lrem (C : Cx D cl tys cc nL own Ts X) {x y : Int64} (hd : decode cc pc = .ok (.lrem, 1)) (hne : ¬ y = 0) (kk : Z l D cl b n R nL X k sl M (pc + 1) L (.long (x - x / y * y) :: st)) : Z l D cl b n R nL X k sl M pc L (.long y :: .long x :: st) := by
  obtain ⟨p, e, s, m, args, below, meth, c, Q⟩ := X
  obtain ⟨hx, hb, hml, hown, hts, hK⟩ := C
  exact fun H locs ls hP hS hl => lv_lrem hx hb hd hne (kk H locs ls hP hS hl)
theorem z_i2l (C : Cx D cl tys cc nL own Ts X) {x : Int32} (hd : decode cc pc = .ok (.i2l, 1)) (kk : Z l D cl b n R nL X k sl M (pc + 1) L (.long x.toInt64 :: st)) : Z l D cl b n R nL X k sl M pc L (.int x :: st) := by
  obtain ⟨p, e, s, m, args, below, meth, c, Q⟩ := X
  obtain ⟨hx, hb, hml, hown, hts, hK⟩ := C
  exact fun H locs ls hP hS hl => lv_i2l hx hb hd rfl (kk H locs ls hP hS hl)
theorem z_l2i (C : Cx D cl tys cc nL own Ts X) {x : Int64} (hd : decode cc pc = .ok (.l2i, 1)) (kk : Z l D cl b n R nL X k sl M (pc + 1) L (.int x.toInt32 :: st)) : Z l D cl b n R nL X k sl M pc L (.long x :: st) := by
  obtain ⟨p, e, s, m, args, below, meth, c, Q⟩ := X
  obtain ⟨hx, hb, hml, hown, hts, hK⟩ := C
  exact fun H locs ls hP hS hl => lv_l2i hx hb hd rfl (kk H locs ls hP hS hl)
theorem z_i2d (C : Cx D cl tys cc nL own Ts X) {x : Int32} (hd : decode cc pc = .ok (.i2d, 1)) (kk : Z l D cl b n R nL X k sl M (pc + 1) L (.double (FP.i2d x) :: st)) : Z l D cl b n R nL X k sl M pc L (.int x :: st) := by
  obtain ⟨p, e, s, m, args, below, meth, c, Q⟩ := X
  obtain ⟨hx, hb, hml, hown, hts, hK⟩ := C
  exact fun H locs ls hP hS hl => lv_i2d hx hb hd (kk H locs ls hP hS hl)
theorem z_d2i (C : Cx D cl tys cc nL own Ts X) {x : UInt64} (hd : decode cc pc = .ok (.d2i, 1)) (kk : Z l D cl b n R nL X k sl M (pc + 1) L (.int (FP.d2i x) :: st)) : Z l D cl b n R nL X k sl M pc L (.double x :: st) := by
  obtain ⟨p, e, s, m, args, below, meth, c, Q⟩ := X
  obtain ⟨hx, hb, hml, hown, hts, hK⟩ := C
  exact fun H locs ls hP hS hl => lv_d2i hx hb hd (kk H locs ls hP hS hl)
theorem z_lcmp (C : Cx D cl tys cc nL own Ts X) {x y : Int64} (hd : decode cc pc = .ok (.lcmp, 1)) (kk : Z l D cl b n R nL X k sl M (pc + 1) L (.int (lg_cmp x y) :: st)) : Z l D cl b n R nL X k sl M pc L (.long y :: .long x :: st) := by
  obtain ⟨p, e, s, m, args, below, meth, c, Q⟩ := X
  obtain ⟨hx, hb, hml, hown, hts, hK⟩ := C
  exact fun H locs ls hP hS hl => W.lcmp hx hb hd (kk H locs ls hP hS hl)
theorem z_dcmp (C : Cx D cl tys cc nL own Ts X) {x y : UInt64} {op : CmpOp} (hd : decode cc pc = .ok (.dcmp op, 1)) (kk : Z l D cl b n R nL X k sl M (pc + 1) L (.int (Op.cmpValue (FP.dcmp x y) op) :: st)) : Z l D cl b n R nL X k sl M pc L (.double y :: .double x :: st) := by
  obtain ⟨p, e, s, m, args, below, meth, c, Q⟩ := X
  obtain ⟨hx, hb, hml, hown, hts, hK⟩ := C
  exact fun H locs ls hP hS hl => lv_dcmp hx hb hd (kk H locs ls hP hS hl)
theorem z_dadd (C : Cx D cl tys cc nL own Ts X) {x y : UInt64} (hd : decode cc pc = .ok (.dadd, 1)) (hne : vf_n64 (FP.dadd x y)) (kk : Z l D cl b n R nL X k sl M (pc + 1) L (.double (FP.dadd x y) :: st)) : Z l D cl b n R nL X k sl M pc L (.double y :: .double x :: st) := by
  obtain ⟨p, e, s, m, args, below, meth, c, Q⟩ := X
  obtain ⟨hx, hb, hml, hown, hts, hK⟩ := C
  exact fun H locs ls hP hS hl => lv_dadd hx hb hd hne (kk H locs ls hP hS hl)
theorem z_dsub (C : Cx D cl tys cc nL own Ts X) {x y : UInt64} (hd : decode cc pc = .ok (.dsub, 1)) (hne : vf_n64 (FP.dsub x y)) (kk : Z l D cl b n R nL X k sl M (pc + 1) L (.double (FP.dsub x y) :: st)) : Z l D cl b n R nL X k sl M pc L (.double y :: .double x :: st) := by
  obtain ⟨p, e, s, m, args, below, meth, c, Q⟩ := X
  obtain ⟨hx, hb, hml, hown, hts, hK⟩ := C
  exact fun H locs ls hP hS hl => lv_dsub hx hb hd hne (kk H locs ls hP hS hl)
theorem z_dmul (C : Cx D cl tys cc nL own Ts X) {x y : UInt64} (hd : decode cc pc = .ok (.dmul, 1)) (hne : vf_n64 (FP.dmul x y)) (kk : Z l D cl b n R nL X k sl M (pc + 1) L (.double (FP.dmul x y) :: st)) : Z l D cl b n R nL X k sl M pc L (.double y :: .double x :: st) := by
  obtain ⟨p, e, s, m, args, below, meth, c, Q⟩ := X
  obtain ⟨hx, hb, hml, hown, hts, hK⟩ := C
  exact fun H locs ls hP hS hl => lv_dmul hx hb hd hne (kk H locs ls hP hS hl)
theorem z_ddiv (C : Cx D cl tys cc nL own Ts X) {x y : UInt64} (hd : decode cc pc = .ok (.ddiv, 1)) (hne : vf_n64 (FP.ddiv x y)) (kk : Z l D cl b n R nL X k sl M (pc + 1) L (.double (FP.ddiv x y) :: st)) : Z l D cl b n R nL X k sl M pc L (.double y :: .double x :: st) := by
  obtain ⟨p, e, s, m, args, below, meth, c, Q⟩ := X
  obtain ⟨hx, hb, hml, hown, hts, hK⟩ := C
  exact fun H locs ls hP hS hl => lv_ddiv hx hb hd hne (kk H locs ls hP hS hl)
theorem z_dup (C : Cx D cl tys cc nL own Ts X) {v : Value} (hd : decode cc pc = .ok (.dup, 1)) (hv : v.category = 1) (kk : Z l D cl b n R nL X k sl M (pc + 1) L (v :: v :: st)) : Z l D cl b n R nL X k sl M pc L (v :: st) := by
  obtain ⟨p, e, s, m, args, below, meth, c, Q⟩ := X
  obtain ⟨hx, hb, hml, hown, hts, hK⟩ := C
  exact fun H locs ls hP hS hl => lv_dup hx hb hd hv (kk H locs ls hP hS hl)
theorem z_pop (C : Cx D cl tys cc nL own Ts X) {v : Value} (hd : decode cc pc = .ok (.pop, 1)) (hv : v.category = 1) (kk : Z l D cl b n R nL X k sl M (pc + 1) L (st)) : Z l D cl b n R nL X k sl M pc L (v :: st) := by
  obtain ⟨p, e, s, m, args, below, meth, c, Q⟩ := X
  obtain ⟨hx, hb, hml, hown, hts, hK⟩ := C
  exact fun H locs ls hP hS hl => lv_pop hx hb hd hv (kk H locs ls hP hS hl)
theorem z_dup_x1 (C : Cx D cl tys cc nL own Ts X) {v w : Value} (hd : decode cc pc = .ok (.dup_x1, 1)) (hv : v.category = 1) (hw : w.category = 1) (kk : Z l D cl b n R nL X k sl M (pc + 1) L (v :: w :: v :: st)) : Z l D cl b n R nL X k sl M pc L (v :: w :: st) := by
  obtain ⟨p, e, s, m, args, below, meth, c, Q⟩ := X
  obtain ⟨hx, hb, hml, hown, hts, hK⟩ := C
  exact fun H locs ls hP hS hl => lv_dup_x1 hx hb hd hv hw (kk H locs ls hP hS hl)
theorem z_dup_x2 (C : Cx D cl tys cc nL own Ts X) {v w u : Value} (hd : decode cc pc = .ok (.dup_x2, 1)) (hv : v.category = 1) (hw : w.category = 1) (hu : u.category = 1) (kk : Z l D cl b n R nL X k sl M (pc + 1) L (v :: w :: u :: v :: st)) : Z l D cl b n R nL X k sl M pc L (v :: w :: u :: st) := by
  obtain ⟨p, e, s, m, args, below, meth, c, Q⟩ := X
  obtain ⟨hx, hb, hml, hown, hts, hK⟩ := C
  exact fun H locs ls hP hS hl => lv_dup_x2 hx hb hd hv hw hu (kk H locs ls hP hS hl)
theorem z_dup2 (C : Cx D cl tys cc nL own Ts X) {v w : Value} (hd : decode cc pc = .ok (.dup2, 1)) (hv : v.category = 1) (hw : w.category = 1) (kk : Z l D cl b n R nL X k sl M (pc + 1) L (v :: w :: v :: w :: st)) : Z l D cl b n R nL X k sl M pc L (v :: w :: st) := by
  obtain ⟨p, e, s, m, args, below, meth, c, Q⟩ := X
  obtain ⟨hx, hb, hml, hown, hts, hK⟩ := C
  exact fun H locs ls hP hS hl => lv_dup2_11 hx hb hd hv hw (kk H locs ls hP hS hl)
theorem z_pop2 (C : Cx D cl tys cc nL own Ts X) {v : Value} (hd : decode cc pc = .ok (.pop2, 1)) (hv : v.category = 2) (kk : Z l D cl b n R nL X k sl M (pc + 1) L (st)) : Z l D cl b n R nL X k sl M pc L (v :: st) := by
  obtain ⟨p, e, s, m, args, below, meth, c, Q⟩ := X
  obtain ⟨hx, hb, hml, hown, hts, hK⟩ := C
  exact fun H locs ls hP hS hl => lv_pop2_2 hx hb hd hv (kk H locs ls hP hS hl)
theorem z_iconst (C : Cx D cl tys cc nL own Ts X) {z : Int} {v : Int32} (hd : decode cc pc = .ok (.iconst z, 1)) (hv : Int32.ofInt z = v) (kk : Z l D cl b n R nL X k sl M (pc + 1) L (.int v :: st)) : Z l D cl b n R nL X k sl M pc L st := by
  obtain ⟨p, e, s, m, args, below, meth, c, Q⟩ := X
  obtain ⟨hx, hb, hml, hown, hts, hK⟩ := C
  exact fun H locs ls hP hS hl => lv_iconst hx hb hd hv (kk H locs ls hP hS hl)
theorem z_bipush (C : Cx D cl tys cc nL own Ts X) {z : Int} {v : Int32} (hd : decode cc pc = .ok (.bipush z, 2)) (hv : (Int8.ofInt z).toInt32 = v) (kk : Z l D cl b n R nL X k sl M (pc + 2) L (.int v :: st)) : Z l D cl b n R nL X k sl M pc L st := by
  obtain ⟨p, e, s, m, args, below, meth, c, Q⟩ := X
  obtain ⟨hx, hb, hml, hown, hts, hK⟩ := C
  exact fun H locs ls hP hS hl => lv_bipush hx hb hd hv (kk H locs ls hP hS hl)
theorem z_sipush (C : Cx D cl tys cc nL own Ts X) {z : Int} {v : Int32} (hd : decode cc pc = .ok (.sipush z, 3)) (hv : (Int16.ofInt z).toInt32 = v) (kk : Z l D cl b n R nL X k sl M (pc + 3) L (.int v :: st)) : Z l D cl b n R nL X k sl M pc L st := by
  obtain ⟨p, e, s, m, args, below, meth, c, Q⟩ := X
  obtain ⟨hx, hb, hml, hown, hts, hK⟩ := C
  exact fun H locs ls hP hS hl => lv_sipush hx hb hd hv (kk H locs ls hP hS hl)
theorem z_lconst (C : Cx D cl tys cc nL own Ts X) {z : Fin 2} {v : Int64} (hd : decode cc pc = .ok (.lconst z, 1)) (hv : Int64.ofInt z = v) (kk : Z l D cl b n R nL X k sl M (pc + 1) L (.long v :: st)) : Z l D cl b n R nL X k sl M pc L st := by
  obtain ⟨p, e, s, m, args, below, meth, c, Q⟩ := X
  obtain ⟨hx, hb, hml, hown, hts, hK⟩ := C
  exact fun H locs ls hP hS hl => lv_lconst hx hb hd hv (kk H locs ls hP hS hl)
theorem z_ldc (C : Cx D cl tys cc nL own Ts X) {index : Nat} {v : Int32} (hw : Cond.constant own index v ∈ Ts) (hd : decode cc pc = .ok (.ldc index, 2)) (kk : Z l D cl b n R nL X k sl M (pc + 2) L (.int v :: st)) : Z l D cl b n R nL X k sl M pc L st := by
  obtain ⟨p, e, s, m, args, below, meth, c, Q⟩ := X
  obtain ⟨hx, hb, hml, hown, hts, hK⟩ := C
  exact fun H locs ls hP hS hl => lv_ldc hx hb hown (hts _ hw) hd (kk H locs ls hP hS hl)
theorem z_ldc2 (C : Cx D cl tys cc nL own Ts X) {index : Nat} {v : Int64} (hw : Cond.constantLong own index v ∈ Ts) (hd : decode cc pc = .ok (.ldc2_w index, 3)) (kk : Z l D cl b n R nL X k sl M (pc + 3) L (.long v :: st)) : Z l D cl b n R nL X k sl M pc L st := by
  obtain ⟨p, e, s, m, args, below, meth, c, Q⟩ := X
  obtain ⟨hx, hb, hml, hown, hts, hK⟩ := C
  exact fun H locs ls hP hS hl => lv_ldc2 hx hb hown (hts _ hw) hd (kk H locs ls hP hS hl)
theorem z_ldc2d (C : Cx D cl tys cc nL own Ts X) {index : Nat} {v : UInt64} (hw : Cond.constantDouble own index v ∈ Ts) (hd : decode cc pc = .ok (.ldc2_w index, 3)) (kk : Z l D cl b n R nL X k sl M (pc + 3) L (.double v :: st)) : Z l D cl b n R nL X k sl M pc L st := by
  obtain ⟨p, e, s, m, args, below, meth, c, Q⟩ := X
  obtain ⟨hx, hb, hml, hown, hts, hK⟩ := C
  exact fun H locs ls hP hS hl => lv_ldc2d hx hb hown (hts _ hw) hd (kk H locs ls hP hS hl)
theorem z_iload_n (C : Cx D cl tys cc nL own Ts X) {j : Fin 4} {i : Nat} {x : Int32} (hd : decode cc pc = .ok (.iload_n j, 1)) (hi : (j : Nat) = i) (q : Nat) (hq : L[q]? = some (i, .int x)) (kk : Z l D cl b n R nL X k sl M (pc + 1) L (.int x :: st)) : Z l D cl b n R nL X k sl M pc L st := by
  obtain ⟨p, e, s, m, args, below, meth, c, Q⟩ := X
  obtain ⟨hx, hb, hml, hown, hts, hK⟩ := C
  exact fun H locs ls hP hS hl => lv_iload_n hx hb hd hi (lv_at hl q hq) (kk H locs ls hP hS hl)
theorem z_iload (C : Cx D cl tys cc nL own Ts X) {i : Nat} {x : Int32} (hd : decode cc pc = .ok (.iload i, 2)) (q : Nat) (hq : L[q]? = some (i, .int x)) (kk : Z l D cl b n R nL X k sl M (pc + 2) L (.int x :: st)) : Z l D cl b n R nL X k sl M pc L st := by
  obtain ⟨p, e, s, m, args, below, meth, c, Q⟩ := X
  obtain ⟨hx, hb, hml, hown, hts, hK⟩ := C
  exact fun H locs ls hP hS hl => lv_iload hx hb hd (lv_at hl q hq) (kk H locs ls hP hS hl)
theorem z_lload_n (C : Cx D cl tys cc nL own Ts X) {j : Fin 4} {i : Nat} {x : Int64} (hd : decode cc pc = .ok (.lload_n j, 1)) (hi : (j : Nat) = i) (q : Nat) (hq : L[q]? = some (i, .long x)) (kk : Z l D cl b n R nL X k sl M (pc + 1) L (.long x :: st)) : Z l D cl b n R nL X k sl M pc L st := by
  obtain ⟨p, e, s, m, args, below, meth, c, Q⟩ := X
  obtain ⟨hx, hb, hml, hown, hts, hK⟩ := C
  exact fun H locs ls hP hS hl => lv_lload_n hx hb hd hi (lv_at hl q hq) (kk H locs ls hP hS hl)
theorem z_lload (C : Cx D cl tys cc nL own Ts X) {i : Nat} {x : Int64} (hd : decode cc pc = .ok (.lload i, 2)) (q : Nat) (hq : L[q]? = some (i, .long x)) (kk : Z l D cl b n R nL X k sl M (pc + 2) L (.long x :: st)) : Z l D cl b n R nL X k sl M pc L st := by
  obtain ⟨p, e, s, m, args, below, meth, c, Q⟩ := X
  obtain ⟨hx, hb, hml, hown, hts, hK⟩ := C
  exact fun H locs ls hP hS hl => lv_lload hx hb hd (lv_at hl q hq) (kk H locs ls hP hS hl)
theorem z_aload_n (C : Cx D cl tys cc nL own Ts X) {j : Fin 4} {i : Nat} {x : Nat} (hd : decode cc pc = .ok (.aload_n j, 1)) (hi : (j : Nat) = i) (q : Nat) (hq : L[q]? = some (i, .ref x)) (kk : Z l D cl b n R nL X k sl M (pc + 1) L (.ref x :: st)) : Z l D cl b n R nL X k sl M pc L st := by
  obtain ⟨p, e, s, m, args, below, meth, c, Q⟩ := X
  obtain ⟨hx, hb, hml, hown, hts, hK⟩ := C
  exact fun H locs ls hP hS hl => lv_aload_n hx hb hd hi (lv_at hl q hq) (kk H locs ls hP hS hl)
theorem z_aload (C : Cx D cl tys cc nL own Ts X) {i : Nat} {x : Nat} (hd : decode cc pc = .ok (.aload i, 2)) (q : Nat) (hq : L[q]? = some (i, .ref x)) (kk : Z l D cl b n R nL X k sl M (pc + 2) L (.ref x :: st)) : Z l D cl b n R nL X k sl M pc L st := by
  obtain ⟨p, e, s, m, args, below, meth, c, Q⟩ := X
  obtain ⟨hx, hb, hml, hown, hts, hK⟩ := C
  exact fun H locs ls hP hS hl => lv_aload hx hb hd (lv_at hl q hq) (kk H locs ls hP hS hl)
theorem z_dload_n (C : Cx D cl tys cc nL own Ts X) {j : Fin 4} {i : Nat} {x : UInt64} (hd : decode cc pc = .ok (.dload_n j, 1)) (hi : (j : Nat) = i) (q : Nat) (hq : L[q]? = some (i, .double x)) (kk : Z l D cl b n R nL X k sl M (pc + 1) L (.double x :: st)) : Z l D cl b n R nL X k sl M pc L st := by
  obtain ⟨p, e, s, m, args, below, meth, c, Q⟩ := X
  obtain ⟨hx, hb, hml, hown, hts, hK⟩ := C
  exact fun H locs ls hP hS hl => lv_dload_n hx hb hd hi (lv_at hl q hq) (kk H locs ls hP hS hl)
theorem z_dload (C : Cx D cl tys cc nL own Ts X) {i : Nat} {x : UInt64} (hd : decode cc pc = .ok (.dload i, 2)) (q : Nat) (hq : L[q]? = some (i, .double x)) (kk : Z l D cl b n R nL X k sl M (pc + 2) L (.double x :: st)) : Z l D cl b n R nL X k sl M pc L st := by
  obtain ⟨p, e, s, m, args, below, meth, c, Q⟩ := X
  obtain ⟨hx, hb, hml, hown, hts, hK⟩ := C
  exact fun H locs ls hP hS hl => lv_dload hx hb hd (lv_at hl q hq) (kk H locs ls hP hS hl)
theorem z_istore_n (C : Cx D cl tys cc nL own Ts X) {j : Fin 4} {i : Nat} {x : Int32} (hd : decode cc pc = .ok (.istore_n j, 1)) (hi : (j : Nat) = i) (hn : i < nL) (L' : List (Nat × Value)) (hL : (i, Value.int x) :: L.filter (fun q => !(q.1 == i) && !(q.1 + 1 == i && q.2.category == 2)) = L') (kk : Z l D cl b n R nL X k sl M (pc + 1) L' st) : Z l D cl b n R nL X k sl M pc L (Value.int x :: st) := by
  obtain ⟨p, e, s, m, args, below, meth, c, Q⟩ := X
  obtain ⟨hx, hb, hml, hown, hts, hK⟩ := C
  exact fun H locs ls hP hS hl => lv_istore_n hx hb hd hi hl hn hL (fun ls' hl' => kk H locs ls' hP hS hl')
theorem z_istore (C : Cx D cl tys cc nL own Ts X) {i : Nat} {x : Int32} (hd : decode cc pc = .ok (.istore i, 2)) (hn : i < nL) (L' : List (Nat × Value)) (hL : (i, Value.int x) :: L.filter (fun q => !(q.1 == i) && !(q.1 + 1 == i && q.2.category == 2)) = L') (kk : Z l D cl b n R nL X k sl M (pc + 2) L' st) : Z l D cl b n R nL X k sl M pc L (Value.int x :: st) := by
  obtain ⟨p, e, s, m, args, below, meth, c, Q⟩ := X
  obtain ⟨hx, hb, hml, hown, hts, hK⟩ := C
  exact fun H locs ls hP hS hl => lv_istore hx hb hd hl hn hL (fun ls' hl' => kk H locs ls' hP hS hl')
theorem z_astore_n (C : Cx D cl tys cc nL own Ts X) {j : Fin 4} {i : Nat} {x : Nat} (hd : decode cc pc = .ok (.astore_n j, 1)) (hi : (j : Nat) = i) (hn : i < nL) (L' : List (Nat × Value)) (hL : (i, Value.ref x) :: L.filter (fun q => !(q.1 == i) && !(q.1 + 1 == i && q.2.category == 2)) = L') (kk : Z l D cl b n R nL X k sl M (pc + 1) L' st) : Z l D cl b n R nL X k sl M pc L (Value.ref x :: st) := by
  obtain ⟨p, e, s, m, args, below, meth, c, Q⟩ := X
  obtain ⟨hx, hb, hml, hown, hts, hK⟩ := C
  exact fun H locs ls hP hS hl => lv_astore_n hx hb hd hi hl hn hL (fun ls' hl' => kk H locs ls' hP hS hl')
theorem z_astore (C : Cx D cl tys cc nL own Ts X) {i : Nat} {x : Nat} (hd : decode cc pc = .ok (.astore i, 2)) (hn : i < nL) (L' : List (Nat × Value)) (hL : (i, Value.ref x) :: L.filter (fun q => !(q.1 == i) && !(q.1 + 1 == i && q.2.category == 2)) = L') (kk : Z l D cl b n R nL X k sl M (pc + 2) L' st) : Z l D cl b n R nL X k sl M pc L (Value.ref x :: st) := by
  obtain ⟨p, e, s, m, args, below, meth, c, Q⟩ := X
  obtain ⟨hx, hb, hml, hown, hts, hK⟩ := C
  exact fun H locs ls hP hS hl => lv_astore hx hb hd hl hn hL (fun ls' hl' => kk H locs ls' hP hS hl')
theorem z_lstore_n (C : Cx D cl tys cc nL own Ts X) {j : Fin 4} {i : Nat} {x : Int64} (hd : decode cc pc = .ok (.lstore_n j, 1)) (hi : (j : Nat) = i) (hn : i + 1 < nL) (L' : List (Nat × Value)) (hL : (i, Value.long x) :: L.filter (fun q => !(q.1 == i) && (!(q.1 == i + 1) && !(q.1 + 1 == i && q.2.category == 2))) = L') (kk : Z l D cl b n R nL X k sl M (pc + 1) L' st) : Z l D cl b n R nL X k sl M pc L (Value.long x :: st) := by
  obtain ⟨p, e, s, m, args, below, meth, c, Q⟩ := X
  obtain ⟨hx, hb, hml, hown, hts, hK⟩ := C
  exact fun H locs ls hP hS hl => lv_lstore_n hx hb hd hi hl hn hL (fun ls' hl' => kk H locs ls' hP hS hl')
theorem z_lstore (C : Cx D cl tys cc nL own Ts X) {i : Nat} {x : Int64} (hd : decode cc pc = .ok (.lstore i, 2)) (hn : i + 1 < nL) (L' : List (Nat × Value)) (hL : (i, Value.long x) :: L.filter (fun q => !(q.1 == i) && (!(q.1 == i + 1) && !(q.1 + 1 == i && q.2.category == 2))) = L') (kk : Z l D cl b n R nL X k sl M (pc + 2) L' st) : Z l D cl b n R nL X k sl M pc L (Value.long x :: st) := by
  obtain ⟨p, e, s, m, args, below, meth, c, Q⟩ := X
  obtain ⟨hx, hb, hml, hown, hts, hK⟩ := C
  exact fun H locs ls hP hS hl => lv_lstore hx hb hd hl hn hL (fun ls' hl' => kk H locs ls' hP hS hl')
theorem z_dstore_n (C : Cx D cl tys cc nL own Ts X) {j : Fin 4} {i : Nat} {x : UInt64} (hd : decode cc pc = .ok (.dstore_n j, 1)) (hi : (j : Nat) = i) (hn : i + 1 < nL) (L' : List (Nat × Value)) (hL : (i, Value.double x) :: L.filter (fun q => !(q.1 == i) && (!(q.1 == i + 1) && !(q.1 + 1 == i && q.2.category == 2))) = L') (kk : Z l D cl b n R nL X k sl M (pc + 1) L' st) : Z l D cl b n R nL X k sl M pc L (Value.double x :: st) := by
  obtain ⟨p, e, s, m, args, below, meth, c, Q⟩ := X
  obtain ⟨hx, hb, hml, hown, hts, hK⟩ := C
  exact fun H locs ls hP hS hl => lv_dstore_n hx hb hd hi hl hn hL (fun ls' hl' => kk H locs ls' hP hS hl')
theorem z_dstore (C : Cx D cl tys cc nL own Ts X) {i : Nat} {x : UInt64} (hd : decode cc pc = .ok (.dstore i, 2)) (hn : i + 1 < nL) (L' : List (Nat × Value)) (hL : (i, Value.double x) :: L.filter (fun q => !(q.1 == i) && (!(q.1 == i + 1) && !(q.1 + 1 == i && q.2.category == 2))) = L') (kk : Z l D cl b n R nL X k sl M (pc + 2) L' st) : Z l D cl b n R nL X k sl M pc L (Value.double x :: st) := by
  obtain ⟨p, e, s, m, args, below, meth, c, Q⟩ := X
  obtain ⟨hx, hb, hml, hown, hts, hK⟩ := C
  exact fun H locs ls hP hS hl => lv_dstore hx hb hd hl hn hL (fun ls' hl' => kk H locs ls' hP hS hl')
theorem z_iinc (C : Cx D cl tys cc nL own Ts X) {i : Nat} {z : Int} {x v : Int32} (hd : decode cc pc = .ok (.iinc i z, 3)) (q : Nat) (hq : L[q]? = some (i, .int x)) (hv : x + Int32.ofInt z = v) (hn : i < nL) (L' : List (Nat × Value)) (hL : (i, Value.int v) :: L.filter (fun q => !(q.1 == i) && !(q.1 + 1 == i && q.2.category == 2)) = L') (kk : Z l D cl b n R nL X k sl M (pc + 3) L' st) : Z l D cl b n R nL X k sl M pc L st := by
  obtain ⟨p, e, s, m, args, below, meth, c, Q⟩ := X
  obtain ⟨hx, hb, hml, hown, hts, hK⟩ := C
  exact fun H locs ls hP hS hl => lv_iinc hx hb hd hl hq hv hn hL (fun ls' hl' => kk H locs ls' hP hS hl')
theorem z_if_eq (C : Cx D cl tys cc nL own Ts X) {x : Int32} {off : Int} (tgt : Nat) (hd : decode cc pc = .ok (.ifCond .eq off, 3)) (ht : (pc : Int) + off = (tgt : Int)) (kt : x = 0 → Z l D cl b n R nL X k sl M tgt L st) (kf : ¬ (x = 0) → Z l D cl b n R nL X k sl M (pc + 3) L st) : Z l D cl b n R nL X k sl M pc L (.int x :: st) := by
  obtain ⟨p, e, s, m, args, below, meth, c, Q⟩ := X
  obtain ⟨hx, hb, hml, hown, hts, hK⟩ := C
  exact fun H locs ls hP hS hl => lv_if_eq hx hb hd ht (fun h => kt h H locs ls hP hS hl) (fun h => kf h H locs ls hP hS hl)
theorem z_if_ne (C : Cx D cl tys cc nL own Ts X) {x : Int32} {off : Int} (tgt : Nat) (hd : decode cc pc = .ok (.ifCond .ne off, 3)) (ht : (pc : Int) + off = (tgt : Int)) (kt : ¬ x = 0 → Z l D cl b n R nL X k sl M tgt L st) (kf : x = 0 → Z l D cl b n R nL X k sl M (pc + 3) L st) : Z l D cl b n R nL X k sl M pc L (.int x :: st) := by
  obtain ⟨p, e, s, m, args, below, meth, c, Q⟩ := X
  obtain ⟨hx, hb, hml, hown, hts, hK⟩ := C
  exact fun H locs ls hP hS hl => lv_if_ne hx hb hd ht (fun h => kt h H locs ls hP hS hl) (fun h => kf h H locs ls hP hS hl)
theorem z_if_lt (C : Cx D cl tys cc nL own Ts X) {x : Int32} {off : Int} (tgt : Nat) (hd : decode cc pc = .ok (.ifCond .lt off, 3)) (ht : (pc : Int) + off = (tgt : Int)) (kt : x < 0 → Z l D cl b n R nL X k sl M tgt L st) (kf : ¬ (x < 0) → Z l D cl b n R nL X k sl M (pc + 3) L st) : Z l D cl b n R nL X k sl M pc L (.int x :: st) := by
  obtain ⟨p, e, s, m, args, below, meth, c, Q⟩ := X
  obtain ⟨hx, hb, hml, hown, hts, hK⟩ := C
  exact fun H locs ls hP hS hl => lv_if_lt hx hb hd ht (fun h => kt h H locs ls hP hS hl) (fun h => kf h H locs ls hP hS hl)
theorem z_if_ge (C : Cx D cl tys cc nL own Ts X) {x : Int32} {off : Int} (tgt : Nat) (hd : decode cc pc = .ok (.ifCond .ge off, 3)) (ht : (pc : Int) + off = (tgt : Int)) (kt : 0 ≤ x → Z l D cl b n R nL X k sl M tgt L st) (kf : ¬ (0 ≤ x) → Z l D cl b n R nL X k sl M (pc + 3) L st) : Z l D cl b n R nL X k sl M pc L (.int x :: st) := by
  obtain ⟨p, e, s, m, args, below, meth, c, Q⟩ := X
  obtain ⟨hx, hb, hml, hown, hts, hK⟩ := C
  exact fun H locs ls hP hS hl => lv_if_ge hx hb hd ht (fun h => kt h H locs ls hP hS hl) (fun h => kf h H locs ls hP hS hl)
theorem z_if_gt (C : Cx D cl tys cc nL own Ts X) {x : Int32} {off : Int} (tgt : Nat) (hd : decode cc pc = .ok (.ifCond .gt off, 3)) (ht : (pc : Int) + off = (tgt : Int)) (kt : 0 < x → Z l D cl b n R nL X k sl M tgt L st) (kf : ¬ (0 < x) → Z l D cl b n R nL X k sl M (pc + 3) L st) : Z l D cl b n R nL X k sl M pc L (.int x :: st) := by
  obtain ⟨p, e, s, m, args, below, meth, c, Q⟩ := X
  obtain ⟨hx, hb, hml, hown, hts, hK⟩ := C
  exact fun H locs ls hP hS hl => lv_if_gt hx hb hd ht (fun h => kt h H locs ls hP hS hl) (fun h => kf h H locs ls hP hS hl)
theorem z_if_le (C : Cx D cl tys cc nL own Ts X) {x : Int32} {off : Int} (tgt : Nat) (hd : decode cc pc = .ok (.ifCond .le off, 3)) (ht : (pc : Int) + off = (tgt : Int)) (kt : x ≤ 0 → Z l D cl b n R nL X k sl M tgt L st) (kf : ¬ (x ≤ 0) → Z l D cl b n R nL X k sl M (pc + 3) L st) : Z l D cl b n R nL X k sl M pc L (.int x :: st) := by
  obtain ⟨p, e, s, m, args, below, meth, c, Q⟩ := X
  obtain ⟨hx, hb, hml, hown, hts, hK⟩ := C
  exact fun H locs ls hP hS hl => lv_if_le hx hb hd ht (fun h => kt h H locs ls hP hS hl) (fun h => kf h H locs ls hP hS hl)
theorem z_icmp_eq (C : Cx D cl tys cc nL own Ts X) {x y : Int32} {off : Int} (tgt : Nat) (hd : decode cc pc = .ok (.if_icmp .eq off, 3)) (ht : (pc : Int) + off = (tgt : Int)) (kt : x = y → Z l D cl b n R nL X k sl M tgt L st) (kf : ¬ (x = y) → Z l D cl b n R nL X k sl M (pc + 3) L st) : Z l D cl b n R nL X k sl M pc L (.int y :: .int x :: st) := by
  obtain ⟨p, e, s, m, args, below, meth, c, Q⟩ := X
  obtain ⟨hx, hb, hml, hown, hts, hK⟩ := C
  exact fun H locs ls hP hS hl => lv_icmp_eq hx hb hd ht (fun h => kt h H locs ls hP hS hl) (fun h => kf h H locs ls hP hS hl)
theorem z_icmp_ne (C : Cx D cl tys cc nL own Ts X) {x y : Int32} {off : Int} (tgt : Nat) (hd : decode cc pc = .ok (.if_icmp .ne off, 3)) (ht : (pc : Int) + off = (tgt : Int)) (kt : ¬ x = y → Z l D cl b n R nL X k sl M tgt L st) (kf : x = y → Z l D cl b n R nL X k sl M (pc + 3) L st) : Z l D cl b n R nL X k sl M pc L (.int y :: .int x :: st) := by
  obtain ⟨p, e, s, m, args, below, meth, c, Q⟩ := X
  obtain ⟨hx, hb, hml, hown, hts, hK⟩ := C
  exact fun H locs ls hP hS hl => lv_icmp_ne hx hb hd ht (fun h => kt h H locs ls hP hS hl) (fun h => kf h H locs ls hP hS hl)
theorem z_icmp_lt (C : Cx D cl tys cc nL own Ts X) {x y : Int32} {off : Int} (tgt : Nat) (hd : decode cc pc = .ok (.if_icmp .lt off, 3)) (ht : (pc : Int) + off = (tgt : Int)) (kt : x < y → Z l D cl b n R nL X k sl M tgt L st) (kf : ¬ (x < y) → Z l D cl b n R nL X k sl M (pc + 3) L st) : Z l D cl b n R nL X k sl M pc L (.int y :: .int x :: st) := by
  obtain ⟨p, e, s, m, args, below, meth, c, Q⟩ := X
  obtain ⟨hx, hb, hml, hown, hts, hK⟩ := C
  exact fun H locs ls hP hS hl => lv_icmp_lt hx hb hd ht (fun h => kt h H locs ls hP hS hl) (fun h => kf h H locs ls hP hS hl)
theorem z_icmp_ge (C : Cx D cl tys cc nL own Ts X) {x y : Int32} {off : Int} (tgt : Nat) (hd : decode cc pc = .ok (.if_icmp .ge off, 3)) (ht : (pc : Int) + off = (tgt : Int)) (kt : y ≤ x → Z l D cl b n R nL X k sl M tgt L st) (kf : ¬ (y ≤ x) → Z l D cl b n R nL X k sl M (pc + 3) L st) : Z l D cl b n R nL X k sl M pc L (.int y :: .int x :: st) := by
  obtain ⟨p, e, s, m, args, below, meth, c, Q⟩ := X
  obtain ⟨hx, hb, hml, hown, hts, hK⟩ := C
  exact fun H locs ls hP hS hl => lv_icmp_ge hx hb hd ht (fun h => kt h H locs ls hP hS hl) (fun h => kf h H locs ls hP hS hl)
theorem z_icmp_gt (C : Cx D cl tys cc nL own Ts X) {x y : Int32} {off : Int} (tgt : Nat) (hd : decode cc pc = .ok (.if_icmp .gt off, 3)) (ht : (pc : Int) + off = (tgt : Int)) (kt : y < x → Z l D cl b n R nL X k sl M tgt L st) (kf : ¬ (y < x) → Z l D cl b n R nL X k sl M (pc + 3) L st) : Z l D cl b n R nL X k sl M pc L (.int y :: .int x :: st) := by
  obtain ⟨p, e, s, m, args, below, meth, c, Q⟩ := X
  obtain ⟨hx, hb, hml, hown, hts, hK⟩ := C
  exact fun H locs ls hP hS hl => lv_icmp_gt hx hb hd ht (fun h => kt h H locs ls hP hS hl) (fun h => kf h H locs ls hP hS hl)
theorem z_icmp_le (C : Cx D cl tys cc nL own Ts X) {x y : Int32} {off : Int} (tgt : Nat) (hd : decode cc pc = .ok (.if_icmp .le off, 3)) (ht : (pc : Int) + off = (tgt : Int)) (kt : x ≤ y → Z l D cl b n R nL X k sl M tgt L st) (kf : ¬ (x ≤ y) → Z l D cl b n R nL X k sl M (pc + 3) L st) : Z l D cl b n R nL X k sl M pc L (.int y :: .int x :: st) := by
  obtain ⟨p, e, s, m, args, below, meth, c, Q⟩ := X
  obtain ⟨hx, hb, hml, hown, hts, hK⟩ := C
  exact fun H locs ls hP hS hl => lv_icmp_le hx hb hd ht (fun h => kt h H locs ls hP hS hl) (fun h => kf h H locs ls hP hS hl)
theorem z_goto (C : Cx D cl tys cc nL own Ts X) {off : Int} (tgt : Nat) (hd : decode cc pc = .ok (.goto off, 3)) (ht : (pc : Int) + off = (tgt : Int)) (kk : Z l D cl b n R nL X k sl M tgt L st) : Z l D cl b n R nL X k sl M pc L st := by
  obtain ⟨p, e, s, m, args, below, meth, c, Q⟩ := X
  obtain ⟨hx, hb, hml, hown, hts, hK⟩ := C
  exact fun H locs ls hP hS hl => lv_goto hx hb hd ht (kk H locs ls hP hS hl)
theorem z_tableIn (C : Cx D cl tys cc nL own Ts X) {dflt lo hi : Int} {offs : Array Int} {len : Nat} {x : Int32} {off : Int} (tgt : Nat) (hd : decode cc pc = .ok (.tableswitch dflt lo hi offs, len)) (h1 : ¬ x.toInt < lo) (h2 : ¬ hi < x.toInt) (ho : offs[(x.toInt - lo).toNat]? = some off) (ht : (pc : Int) + off = (tgt : Int)) (kk : Z l D cl b n R nL X k sl M tgt L st) : Z l D cl b n R nL X k sl M pc L (.int x :: st) := by
  obtain ⟨p, e, s, m, args, below, meth, c, Q⟩ := X
  obtain ⟨hx, hb, hml, hown, hts, hK⟩ := C
  exact fun H locs ls hP hS hl => lv_tableIn hx hb hd h1 h2 ho ht (kk H locs ls hP hS hl)
theorem z_tableOut (C : Cx D cl tys cc nL own Ts X) {dflt lo hi : Int} {offs : Array Int} {len : Nat} {x : Int32} (tgt : Nat) (hd : decode cc pc = .ok (.tableswitch dflt lo hi offs, len)) (h : x.toInt < lo ∨ hi < x.toInt) (ht : (pc : Int) + dflt = (tgt : Int)) (kk : Z l D cl b n R nL X k sl M tgt L st) : Z l D cl b n R nL X k sl M pc L (.int x :: st) := by
  obtain ⟨p, e, s, m, args, below, meth, c, Q⟩ := X
  obtain ⟨hx, hb, hml, hown, hts, hK⟩ := C
  exact fun H locs ls hP hS hl => lv_tableOut hx hb hd h ht (kk H locs ls hP hS hl)
theorem z_lookup (C : Cx D cl tys cc nL own Ts X) {dflt : Int} {ps : Array (Int × Int)} {len : Nat} {x : Int32} {off : Int} (tgt : Nat) (hd : decode cc pc = .ok (.lookupswitch dflt ps, len)) (hp : (ps.toList.zip (ps.toList.drop 1)).all (fun (a, next) => a.1 < next.1) = true) (ho : Op.lookupswitch.offset ps.toList dflt x.toInt = off) (ht : (pc : Int) + off = (tgt : Int)) (kk : Z l D cl b n R nL X k sl M tgt L st) : Z l D cl b n R nL X k sl M pc L (.int x :: st) := by
  obtain ⟨p, e, s, m, args, below, meth, c, Q⟩ := X
  obtain ⟨hx, hb, hml, hown, hts, hK⟩ := C
  exact fun H locs ls hP hS hl => lv_lookup hx hb hd hp ho ht (kk H locs ls hP hS hl)
theorem z_get (C : Cx D cl tys cc nL own Ts X) {C0 : String} {T : u_T} {N ci index : Nat} {a o : Nat} {fs : List Value} {v : Value} (hd : decode cc pc = .ok (.getfield index, 3)) (hin : ∀ w ∈ u_ws C0 T N, w ∈ Ts) (hc : cl[ci]? = some (C0, T, N)) (q : Nat) (hk : q < N) (hw : Cond.fieldLink own index (T q).1 (T q).2.1 (T q).2.2.1 ∈ Ts) (ho : o < n) (ha : b + o = a) (hM : M o = .inr (ci, fs)) (hv : fs[q]? = some v) (kk : Z l D cl b n R nL X k sl M (pc + 3) L (v :: st)) : Z l D cl b n R nL X k sl M pc L (.ref a :: st) := by
  obtain ⟨p, e, s, m, args, below, meth, c, Q⟩ := X
  obtain ⟨hx, hb, hml, hown, hts, hK⟩ := C
  exact fun H locs ls hP hS hl => va_get hx hb hts hin hown hK hP o (mw_at ho ha hM) hc q hk (hts _ hw) (fun _ h9 => h9) hv hd (kk H locs ls hP hS hl)
theorem z_put (C : Cx D cl tys cc nL own Ts X) {C0 : String} {T : u_T} {N ci index : Nat} {a o : Nat} {fs : List Value} {v : Value} {ty : FieldType} {ty0 : Nat → FieldType} (hd : decode cc pc = .ok (.putfield index, 3)) (hin : ∀ w ∈ u_ws C0 T N, w ∈ Ts) (hty : ∀ j, j < N → parseFieldDescriptor (T j).2.2.1 = some (ty0 j)) (hnm : ∀ x, x < N → ∀ y, y < N → x ≠ y → (T x).2.1 ≠ (T y).2.1) (hc : cl[ci]? = some (C0, T, N)) (q : Nat) (hk : q < N) (hw : Cond.fieldLink own index (T q).1 (T q).2.1 (T q).2.2.1 ∈ Ts) (hfin : (T q).2.2.2 = false) (hpt : parseFieldDescriptor (T q).2.2.1 = some ty) (hnv : narrow ty v = v) (hfit : fits ty v = true) (ho : o < n) (ha : b + o = a) (hM : M o = .inr (ci, fs)) (hl0 : q < fs.length) (kk : Z l D cl b n R nL X k sl (va_up M o (.inr (ci, fs.set q v))) (pc + 3) L st) : Z l D cl b n R nL X k sl M pc L (v :: .ref a :: st) := by
  obtain ⟨p, e, s, m, args, below, meth, c, Q⟩ := X
  obtain ⟨hx, hb, hml, hown, hts, hK⟩ := C
  exact fun H locs ls hP hS hl => va_put hx hb hts hin ty0 hty hnm hown hK hP mA_D hS o (mw_at ho ha hM) hc q hk (hts _ hw) (fun _ h9 => h9) hfin hpt hnv hfit hl0 hd (fun H1 locs1 hP1 _ hS1 => kk H1 locs1 ls (by rw [mw_setA ho ha] at hP1; exact hP1) hS1 hl)
theorem z_iald (C : Cx D cl tys cc nL own Ts X) {cA : ClassId} {N a o : Nat} {f : Nat → Int32} {i : Int32} (hd : decode cc pc = .ok (.iaload, 1)) (t0 : Nat) (ht : tys[t0]? = some (cA, .int)) (ho : o < n) (ha : b + o = a) (hM : M o = .inl (cA, N, .inl f)) (hin : vp_in i N) (kk : Z l D cl b n R nL X k sl M (pc + 1) L (.int (f i.toNatClampNeg) :: st)) : Z l D cl b n R nL X k sl M pc L (.int i :: .ref a :: st) := by
  obtain ⟨p, e, s, m, args, below, meth, c, Q⟩ := X
  obtain ⟨hx, hb, hml, hown, hts, hK⟩ := C
  exact fun H locs ls hP hS hl => va_iald hx hb hK hP o t0 (mw_at ho ha hM) ht hin hd (kk H locs ls hP hS hl)
theorem z_lald (C : Cx D cl tys cc nL own Ts X) {cA : ClassId} {N a o : Nat} {f : Nat → Int64} {i : Int32} (hd : decode cc pc = .ok (.laload, 1)) (t0 : Nat) (ht : tys[t0]? = some (cA, .long)) (ho : o < n) (ha : b + o = a) (hM : M o = .inl (cA, N, .inr (.inl f))) (hin : vp_in i N) (kk : Z l D cl b n R nL X k sl M (pc + 1) L (.long (f i.toNatClampNeg) :: st)) : Z l D cl b n R nL X k sl M pc L (.int i :: .ref a :: st) := by
  obtain ⟨p, e, s, m, args, below, meth, c, Q⟩ := X
  obtain ⟨hx, hb, hml, hown, hts, hK⟩ := C
  exact fun H locs ls hP hS hl => va_lald hx hb hK hP o t0 (mw_at ho ha hM) ht hin hd (kk H locs ls hP hS hl)
theorem z_dald (C : Cx D cl tys cc nL own Ts X) {cA : ClassId} {N a o : Nat} {f : Nat → UInt64} {i : Int32} (hd : decode cc pc = .ok (.daload, 1)) (t0 : Nat) (ht : tys[t0]? = some (cA, .double)) (ho : o < n) (ha : b + o = a) (hM : M o = .inl (cA, N, .inr (.inr (.inr (.inl f))))) (hin : vp_in i N) (kk : Z l D cl b n R nL X k sl M (pc + 1) L (.double (f i.toNatClampNeg) :: st)) : Z l D cl b n R nL X k sl M pc L (.int i :: .ref a :: st) := by
  obtain ⟨p, e, s, m, args, below, meth, c, Q⟩ := X
  obtain ⟨hx, hb, hml, hown, hts, hK⟩ := C
  exact fun H locs ls hP hS hl => va_dald hx hb hK hP o t0 (mw_at ho ha hM) ht hin hd (kk H locs ls hP hS hl)
theorem z_aald (C : Cx D cl tys cc nL own Ts X) {cA : ClassId} {N a o r : Nat} {f : Nat → Option Nat} {i : Int32} {C0 : String} (hd : decode cc pc = .ok (.aaload, 1)) (t0 : Nat) (ht : tys[t0]? = some (cA, .object C0)) (ho : o < n) (ha : b + o = a) (hM : M o = .inl (cA, N, .inr (.inr (.inr (.inr f))))) (hin : vp_in i N) (hr : f i.toNatClampNeg = some r) (kk : Z l D cl b n R nL X k sl M (pc + 1) L (.ref r :: st)) : Z l D cl b n R nL X k sl M pc L (.int i :: .ref a :: st) := by
  obtain ⟨p, e, s, m, args, below, meth, c, Q⟩ := X
  obtain ⟨hx, hb, hml, hown, hts, hK⟩ := C
  exact fun H locs ls hP hS hl => va_aldq hx hb hK hP o t0 (mw_at ho ha hM) ht hin hd (by rw [hr]; exact kk H locs ls hP hS hl)
theorem z_iast (C : Cx D cl tys cc nL own Ts X) {cA : ClassId} {N a o : Nat} {f : Nat → Int32} {i : Int32} {x : Int32} (hd : decode cc pc = .ok (.iastore, 1)) (t0 : Nat) (ht : tys[t0]? = some (cA, .int)) (ho : o < n) (ha : b + o = a) (hM : M o = .inl (cA, N, .inl f)) (hin : vp_in i N) (kk : Z l D cl b n R nL X k sl (va_up M o (.inl (cA, N, .inl (upd f i.toNatClampNeg x)))) (pc + 1) L st) : Z l D cl b n R nL X k sl M pc L (.int x :: .int i :: .ref a :: st) := by
  obtain ⟨p, e, s, m, args, below, meth, c, Q⟩ := X
  obtain ⟨hx, hb, hml, hown, hts, hK⟩ := C
  exact fun H locs ls hP hS hl => va_iast hx hb hK hP mA_D hS o t0 (mw_at ho ha hM) ht hin hd (fun H1 locs1 hP1 _ hS1 => kk H1 locs1 ls (by rw [mw_setA ho ha] at hP1; exact hP1) hS1 hl)
theorem z_last (C : Cx D cl tys cc nL own Ts X) {cA : ClassId} {N a o : Nat} {f : Nat → Int64} {i : Int32} {x : Int64} (hd : decode cc pc = .ok (.lastore, 1)) (t0 : Nat) (ht : tys[t0]? = some (cA, .long)) (ho : o < n) (ha : b + o = a) (hM : M o = .inl (cA, N, .inr (.inl f))) (hin : vp_in i N) (kk : Z l D cl b n R nL X k sl (va_up M o (.inl (cA, N, .inr (.inl (vp_updL f i.toNatClampNeg x))))) (pc + 1) L st) : Z l D cl b n R nL X k sl M pc L (.long x :: .int i :: .ref a :: st) := by
  obtain ⟨p, e, s, m, args, below, meth, c, Q⟩ := X
  obtain ⟨hx, hb, hml, hown, hts, hK⟩ := C
  exact fun H locs ls hP hS hl => va_last hx hb hK hP mA_D hS o t0 (mw_at ho ha hM) ht hin hd (fun H1 locs1 hP1 _ hS1 => kk H1 locs1 ls (by rw [mw_setA ho ha] at hP1; exact hP1) hS1 hl)
theorem z_alen (C : Cx D cl tys cc nL own Ts X) {cA : ClassId} {a o : Nat} {x : vp_A} {ty : FieldType} {v : Int32} (hd : decode cc pc = .ok (.arraylength, 1)) (t0 : Nat) (ht : tys[t0]? = some (cA, ty)) (ho : o < n) (ha : b + o = a) (hM : M o = .inl (cA, x)) (hv : Int32.ofNat x.1 = v) (kk : Z l D cl b n R nL X k sl M (pc + 1) L (.int v :: st)) : Z l D cl b n R nL X k sl M pc L (.ref a :: st) := by
  obtain ⟨p, e, s, m, args, below, meth, c, Q⟩ := X
  obtain ⟨hx, hb, hml, hown, hts, hK⟩ := C
  exact fun H locs ls hP hS hl => va_alen hx hb hK hP o t0 (mw_at ho ha hM) ht hv hd (kk H locs ls hP hS hl)
end ZROWS
