section
/-! A block of cells: n of them, one behind another from the address b on; the o-th one is M o. All that an object of the class owns lies in one block, so a method's contract speaks of the whole block and of the map M alone. -/
def mw (b n : Nat) (M : Nat → va_E) : va_W := (List.range n).map (fun o => (b + o, M o))
theorem mw_len {b n : Nat} {M : Nat → va_E} : (mw b n M).length = n := by simp [mw]
theorem mw_get {b n o : Nat} {M : Nat → va_E} (h : o < n) : (mw b n M)[o]? = some (b + o, M o) := by
  simp [mw, List.getElem?_map, List.getElem?_range h]
theorem mw_out {b n o : Nat} {M : Nat → va_E} (h : ¬ o < n) : (mw b n M)[o]? = none := by
  rw [List.getElem?_eq_none_iff, mw_len]
  omega
theorem mw_inv {b n k : Nat} {M : Nat → va_E} {q : Nat × va_E} (h : (mw b n M)[k]? = some q) : k < n ∧ q = (b + k, M k) := by
  by_cases hk : k < n
  · rw [mw_get hk] at h
    exact ⟨hk, (Option.some.inj h).symm⟩
  · rw [mw_out hk] at h
    cases h
theorem mw_at {b n o a : Nat} {M : Nat → va_E} {e : va_E} (h : o < n) (ha : b + o = a) (he : M o = e) : (mw b n M)[o]? = some (a, e) := by
  rw [mw_get h, ha, he]
theorem mw_set {b n o : Nat} {M : Nat → va_E} {e : va_E} (ho : o < n) : (mw b n M).set o (b + o, e) = mw b n (va_up M o e) := by
  apply List.ext_getElem?
  intro k
  by_cases hk : k < n
  · by_cases h : o = k
    · subst h
      rw [List.getElem?_set_self (by rw [mw_len]; exact hk), mw_get hk, va_up_self]
    · rw [List.getElem?_set_ne h, mw_get hk, mw_get hk, va_up_ne _ _ (Ne.symm h)]
  · rw [mw_out hk, List.getElem?_eq_none_iff, List.length_set, mw_len]
    omega
theorem mw_setA {b n o a : Nat} {M : Nat → va_E} {e : va_E} (ho : o < n) (ha : b + o = a) : (mw b n M).set o (a, e) = mw b n (va_up M o e) := by
  subst ha
  exact mw_set ho
theorem mw_D {A : Nat → Prop} {b n : Nat} {M : Nat → va_E} (h : ∀ o, o < n → A (b + o)) : va_D A (mw b n M) := by
  refine ⟨fun i j p q hi hj hpq => ?_, fun k q hk => ?_⟩
  · obtain ⟨-, rfl⟩ := mw_inv hi
    obtain ⟨-, rfl⟩ := mw_inv hj
    exact Nat.add_left_cancel hpq
  · obtain ⟨h1, rfl⟩ := mw_inv hk
    exact h k h1
theorem mw_push {b n : Nat} {M : Nat → va_E} {e : va_E} : mw b n M ++ [(b + n, e)] = mw b (n + 1) (va_up M n e) := by
  apply List.ext_getElem?
  intro k
  by_cases hk : k < n
  · rw [List.getElem?_append_left (by rw [mw_len]; exact hk), mw_get hk, mw_get (by omega), va_up_ne _ _ (by omega)]
  · rw [List.getElem?_append_right (by rw [mw_len]; omega), mw_len]
    by_cases hn : k = n
    · subst hn
      rw [mw_get (by omega), va_up_self, Nat.sub_self]
      rfl
    · rw [mw_out (by omega), List.getElem?_eq_none_iff]
      simp
      omega
theorem mw_kept {D : va_G} {cl : List vw_C} {b n : Nat} {M : Nat → va_E} {H H1 : Heap} (h : va_P D cl (mw b n M) H) (hq : ∀ q : Nat, b ≤ q → q < b + n → H1[q]? = H[q]?) : va_P D cl (mw b n M) H1 :=
  h.kept (fun k q hk => by
    obtain ⟨h1, rfl⟩ := mw_inv hk
    exact hq _ (by simp) (by simp; omega))
theorem mw_le {D : va_G} {cl : List vw_C} {b n : Nat} {M : Nat → va_E} {H : Heap} (h : va_P D cl (mw b n M) H) (hn : 0 < n) : b + n ≤ H.size := by
  have h1 := (h (n - 1) _ (mw_get (by omega))).lt
  simp at h1
  omega
/-- what a method of the block may change: the block, and what it makes -/
def mA (b n sz : Nat) : Nat → Prop := fun q => (b ≤ q ∧ q < b + n) ∨ sz ≤ q
theorem mA_in {b n sz o : Nat} (h : o < n) : mA b n sz (b + o) := Or.inl ⟨Nat.le_add_right _ _, Nat.add_lt_add_left h _⟩
theorem mA_D {b n sz : Nat} {M : Nat → va_E} : va_D (mA b n sz) (mw b n M) := mw_D fun _ h => mA_in h
theorem mA_new {b n sz : Nat} : ∀ q : Nat, sz ≤ q → mA b n sz q := fun _ h => Or.inr h
theorem mA_le {b n sz sz' : Nat} (h : sz ≤ sz') : ∀ q : Nat, mA b n sz' q → mA b n sz q := fun _ hq => hq.elim Or.inl (fun h1 => Or.inr (Nat.le_trans h h1))
/-- a method's start and end over a block -/
def mPc (D : va_G) (cl : List vw_C) (tys : List (ClassId × FieldType)) (b n sz : Nat) (M : Nat → va_E) (av : List Value) : Array Value → State → Prop :=
  va_Pc av (fun U => U.heap.size = sz ∧ va_P D cl (mw b n M) U.heap ∧ va_K D cl tys U)
def mB (D : va_G) (cl : List vw_C) (tys : List (ClassId × FieldType)) (b n : Nat) (u : Nat → va_E) (t : State) : Prop := va_P D cl (mw b n u) t.heap ∧ va_K D cl tys t
theorem mPc_blind {D : va_G} {cl : List vw_C} {tys : List (ClassId × FieldType)} {b n sz : Nat} {M : Nat → va_E} {av : List Value} : FrameBlind (mPc D cl tys b n sz M av) := fun a U g mk q => by
  obtain ⟨q0, q1, qP, qK⟩ := q
  exact ⟨q0, q1, qP, va_K.moved (u := U) (U := U.calling g mk a) (Vm.Alike.refl U.vm) qK⟩
end
section
/-! The machine at a program counter, over a block whose map is M: heap, written places and locals' array are hidden; L lists the locals, st is the operand stack. X holds what belongs to one invocation. -/
abbrev Zx : Type := Program × Env × State × MethodId × Array Value × List Frame × Method × Code × (State → Prop)
def Z (l : Launch) (D : va_G) (cl : List vw_C) (b n : Nat) (R : Room) (nL : Nat) (X : Zx) (k sl : Nat) (M : Nat → va_E) (pc : Nat) (L : List (Nat × Value)) (st : List Value) : Prop :=
  match X with
  | (p, e, s, m, args, below, meth, c, Q) => ∀ (H : Heap) (locs : List Loc) (ls : Array Slot), va_P D cl (mw b n M) H → va_S (mA b n s.heap.size) s.heap H locs → lv_has ls nL L → W p l e R s m args below meth c H locs k sl Q (F0 m pc ls st)
/-- what is known of an invocation: code, class, words, tables -/
def Cx (D : va_G) (cl : List vw_C) (tys : List (ClassId × FieldType)) (cc : ByteArray) (nL : Nat) (own : String) (Ts : List Cond) (X : Zx) : Prop :=
  match X with
  | (p, _, s, m, args, _, _, c, _) => p.tables.exec = Jvm.exec ∧ c.code = cc ∧ c.maxLocals = nL ∧ s.vm.findClass own = some m.cls ∧ (∀ w ∈ Ts, w.before args s = true) ∧ va_K D cl tys s
section ZROWS
variable {l : Launch} {D : va_G} {cl : List vw_C} {tys : List (ClassId × FieldType)} {b n : Nat} {R : Room} {nL : Nat} {X : Zx} {k sl : Nat} {M : Nat → va_E} {pc : Nat} {L : List (Nat × Value)} {st : List Value} {cc : ByteArray} {own : String} {Ts : List Cond}
theorem z_eq {pc' : Nat} (h : pc = pc') (kk : Z l D cl b n R nL X k sl M pc' L st) : Z l D cl b n R nL X k sl M pc L st := h ▸ kk
theorem z_stk {st' : List Value} (h : st = st') (kk : Z l D cl b n R nL X k sl M pc L st') : Z l D cl b n R nL X k sl M pc L st := h ▸ kk
theorem z_map {M' : Nat → va_E} (h : M = M') (kk : Z l D cl b n R nL X k sl M' pc L st) : Z l D cl b n R nL X k sl M pc L st := h ▸ kk
theorem z_loc {L' : List (Nat × Value)} (is : List Nat) (h : lv_pick L is = L') (kk : Z l D cl b n R nL X k sl M pc L' st) : Z l D cl b n R nL X k sl M pc L st := by
  obtain ⟨p, e, s, m, args, below, meth, c, Q⟩ := X
  exact fun H locs ls hP hS hl => kk H locs ls hP hS (lv_sub hl is h)
theorem z_topi {x : Int32} (kk : ∀ y : Int32, y = x → Z l D cl b n R nL X k sl M pc L (.int y :: st)) : Z l D cl b n R nL X k sl M pc L (.int x :: st) := kk x rfl
theorem z_iadd (C : Cx D cl tys cc nL own Ts X) {x y : Int32} (hd : decode cc pc = .ok (.iadd, 1)) (kk : Z l D cl b n R nL X k sl M (pc + 1) L (.int (x + y) :: st)) : Z l D cl b n R nL X k sl M pc L (.int y :: .int x :: st) := by
  obtain ⟨p, e, s, m, args, below, meth, c, Q⟩ := X
  obtain ⟨hx, hb, hml, hown, hts, hK⟩ := C
  exact fun H locs ls hP hS hl => lv_iadd hx hb hd (kk H locs ls hP hS hl)
theorem z_isub (C : Cx D cl tys cc nL own Ts X) {x y : Int32} (hd : decode cc pc = .ok (.isub, 1)) (kk : Z l D cl b n R nL X k sl M (pc + 1) L (.int (x - y) :: st)) : Z l D cl b n R nL X k sl M pc L (.int y :: .int x :: st) := by
  obtain ⟨p, e, s, m, args, below, meth, c, Q⟩ := X
  obtain ⟨hx, hb, hml, hown, hts, hK⟩ := C
  exact fun H locs ls hP hS hl => lv_isub hx hb hd (kk H locs ls hP hS hl)
theorem z_imul (C : Cx D cl tys cc nL own Ts X) {x y : Int32} (hd : decode cc pc = .ok (.imul, 1)) (kk : Z l D cl b n R nL X k sl M (pc + 1) L (.int (x * y) :: st)) : Z l D cl b n R nL X k sl M pc L (.int y :: .int x :: st) := by
  obtain ⟨p, e, s, m, args, below, meth, c, Q⟩ := X
  obtain ⟨hx, hb, hml, hown, hts, hK⟩ := C
  exact fun H locs ls hP hS hl => lv_imul hx hb hd (kk H locs ls hP hS hl)
theorem z_iand (C : Cx D cl tys cc nL own Ts X) {x y : Int32} (hd : decode cc pc = .ok (.iand, 1)) (kk : Z l D cl b n R nL X k sl M (pc + 1) L (.int (x &&& y) :: st)) : Z l D cl b n R nL X k sl M pc L (.int y :: .int x :: st) := by
  obtain ⟨p, e, s, m, args, below, meth, c, Q⟩ := X
  obtain ⟨hx, hb, hml, hown, hts, hK⟩ := C
  exact fun H locs ls hP hS hl => lv_iand hx hb hd (kk H locs ls hP hS hl)
theorem z_ior (C : Cx D cl tys cc nL own Ts X) {x y : Int32} (hd : decode cc pc = .ok (.ior, 1)) (kk : Z l D cl b n R nL X k sl M (pc + 1) L (.int (x ||| y) :: st)) : Z l D cl b n R nL X k sl M pc L (.int y :: .int x :: st) := by
  obtain ⟨p, e, s, m, args, below, meth, c, Q⟩ := X
  obtain ⟨hx, hb, hml, hown, hts, hK⟩ := C
  exact fun H locs ls hP hS hl => lv_ior hx hb hd (kk H locs ls hP hS hl)
theorem z_ixor (C : Cx D cl tys cc nL own Ts X) {x y : Int32} (hd : decode cc pc = .ok (.ixor, 1)) (kk : Z l D cl b n R nL X k sl M (pc + 1) L (.int (x ^^^ y) :: st)) : Z l D cl b n R nL X k sl M pc L (.int y :: .int x :: st) := by
  obtain ⟨p, e, s, m, args, below, meth, c, Q⟩ := X
  obtain ⟨hx, hb, hml, hown, hts, hK⟩ := C
  exact fun H locs ls hP hS hl => lv_ixor hx hb hd (kk H locs ls hP hS hl)
theorem z_ineg (C : Cx D cl tys cc nL own Ts X) {x : Int32} (hd : decode cc pc = .ok (.ineg, 1)) (kk : Z l D cl b n R nL X k sl M (pc + 1) L (.int (-x) :: st)) : Z l D cl b n R nL X k sl M pc L (.int x :: st) := by
  obtain ⟨p, e, s, m, args, below, meth, c, Q⟩ := X
  obtain ⟨hx, hb, hml, hown, hts, hK⟩ := C
  exact fun H locs ls hP hS hl => lv_ineg hx hb hd (kk H locs ls hP hS hl)
theorem z_ladd (C : Cx D cl tys cc nL own Ts X) {x y : Int64} (hd : decode cc pc = .ok (.ladd, 1)) (kk : Z l D cl b n R nL X k sl M (pc + 1) L (.long (x + y) :: st)) : Z l D cl b n R nL X k sl M pc L (.long y :: .long x :: st) := by
  obtain ⟨p, e, s, m, args, below, meth, c, Q⟩ := X
  obtain ⟨hx, hb, hml, hown, hts, hK⟩ := C
  exact fun H locs ls hP hS hl => lv_ladd hx hb hd (kk H locs ls hP hS hl)
theorem z_lsub (C : Cx D cl tys cc nL own Ts X) {x y : Int64} (hd : decode cc pc = .ok (.lsub, 1)) (kk : Z l D cl b n R nL X k sl M (pc + 1) L (.long (x - y) :: st)) : Z l D cl b n R nL X k sl M pc L (.long y :: .long x :: st) := by
  obtain ⟨p, e, s, m, args, below, meth, c, Q⟩ := X
  obtain ⟨hx, hb, hml, hown, hts, hK⟩ := C
  exact fun H locs ls hP hS hl => lv_lsub hx hb hd (kk H locs ls hP hS hl)
theorem z_lmul (C : Cx D cl tys cc nL own Ts X) {x y : Int64} (hd : decode cc pc = .ok (.lmul, 1)) (kk : Z l D cl b n R nL X k sl M (pc + 1) L (.long (x * y) :: st)) : Z l D cl b n R nL X k sl M pc L (.long y :: .long x :: st) := by
  obtain ⟨p, e, s, m, args, below, meth, c, Q⟩ := X
  obtain ⟨hx, hb, hml, hown, hts, hK⟩ := C
  exact fun H locs ls hP hS hl => lv_lmul hx hb hd (kk H locs ls hP hS hl)
theorem z_land (C : Cx D cl tys cc nL own Ts X) {x y : Int64} (hd : decode cc pc = .ok (.land, 1)) (kk : Z l D cl b n R nL X k sl M (pc + 1) L (.long (x &&& y) :: st)) : Z l D cl b n R nL X k sl M pc L (.long y :: .long x :: st) := by
  obtain ⟨p, e, s, m, args, below, meth, c, Q⟩ := X
  obtain ⟨hx, hb, hml, hown, hts, hK⟩ := C
  exact fun H locs ls hP hS hl => lv_land hx hb hd (kk H locs ls hP hS hl)
theorem z_lor (C : Cx D cl tys cc nL own Ts X) {x y : Int64} (hd : decode cc pc = .ok (.lor, 1)) (kk : Z l D cl b n R nL X k sl M (pc + 1) L (.long (x ||| y) :: st)) : Z l D cl b n R nL X k sl M pc L (.long y :: .long x :: st) := by
  obtain ⟨p, e, s, m, args, below, meth, c, Q⟩ := X
  obtain ⟨hx, hb, hml, hown, hts, hK⟩ := C
  exact fun H locs ls hP hS hl => lv_lor hx hb hd (kk H locs ls hP hS hl)
theorem z_lxor (C : Cx D cl tys cc nL own Ts X) {x y : Int64} (hd : decode cc pc = .ok (.lxor, 1)) (kk : Z l D cl b n R nL X k sl M (pc + 1) L (.long (x ^^^ y) :: st)) : Z l D cl b n R nL X k sl M pc L (.long y :: .long x :: st) := by
  obtain ⟨p, e, s, m, args, below, meth, c, Q⟩ := X
  obtain ⟨hx, hb, hml, hown, hts, hK⟩ := C
  exact fun H locs ls hP hS hl => lv_lxor hx hb hd (kk H locs ls hP hS hl)
theorem z_lneg (C : Cx D cl tys cc nL own Ts X) {x : Int64} (hd : decode cc pc = .ok (.lneg, 1)) (kk : Z l D cl b n R nL X k sl M (pc + 1) L (.long (-x) :: st)) : Z l D cl b n R nL X k sl M pc L (.long x :: st) := by
  obtain ⟨p, e, s, m, args, below, meth, c, Q⟩ := X
  obtain ⟨hx, hb, hml, hown, hts, hK⟩ := C
  exact fun H locs ls hP hS hl => lv_lneg hx hb hd (kk H locs ls hP hS hl)
theorem z_idiv (C : Cx D cl tys cc nL own Ts X) {x y : Int32} (hd : decode cc pc = .ok (.idiv, 1)) (hne : ¬ y = 0) (kk : Z l D cl b n R nL X k sl M (pc + 1) L (.int (x / y) :: st)) : Z l D cl b n R nL X k sl M pc L (.int y :: .int x :: st) := by
  obtain ⟨p, e, s, m, args, below, meth, c, Q⟩ := X
  obtain ⟨hx, hb, hml, hown, hts, hK⟩ := C
  exact fun H locs ls hP hS hl => lv_idiv hx hb hd hne (kk H locs ls hP hS hl)
theorem z_irem (C : Cx D cl tys cc nL own Ts X) {x y : Int32} (hd : decode cc pc = .ok (.irem, 1)) (hne : ¬ y = 0) (kk : Z l D cl b n R nL X k sl M (pc + 1) L (.int (x - x / y * y) :: st)) : Z l D cl b n R nL X k sl M pc L (.int y :: .int x :: st) := by
  obtain ⟨p, e, s, m, args, below, meth, c, Q⟩ := X
  obtain ⟨hx, hb, hml, hown, hts, hK⟩ := C
  exact fun H locs ls hP hS hl => lv_irem hx hb hd hne (kk H locs ls hP hS hl)
theorem z_ldiv (C : Cx D cl tys cc nL own Ts X) {x y : Int64} (hd : decode cc pc = .ok (.ldiv, 1)) (hne : ¬ y = 0) (kk : Z l D cl b n R nL X k sl M (pc + 1) L (.long (x / y) :: st)) : Z l D cl b n R nL X k sl M pc L (.long y :: .long x :: st) := by
  obtain ⟨p, e, s, m, args, below, meth, c, Q⟩ := X
  obtain ⟨hx, hb, hml, hown, hts, hK⟩ := C
  exact fun H locs ls hP hS hl => lv_ldiv hx hb hd hne (kk H locs ls hP hS hl)
theorem z_lrem (C : Cx D cl tys cc nL own Ts X) {x y : Int64} (hd : decode cc pc = .ok (.lrem, 1)) (hne : ¬ y = 0) (kk : Z l D cl b n R nL X k sl M (pc + 1) L (.long (x - x / y * y) :: st)) : Z l D cl b n R nL X k sl M pc L (.long y :: .long x :: st) := by
  obtain ⟨p, e, s, m, args, below, meth, c, Q⟩ := X
  obtain ⟨hx, hb, hml, hown, hts, hK⟩ := C
  exact fun H locs ls hP hS hl => lv_lrem hx hb hd hne (kk H locs ls hP hS hl)
theorem z_i2l (C : Cx D cl tys cc nL own Ts X) {x : Int32} (hd : decode cc pc = .ok (.i2l, 1)) (kk : Z l D cl b n R nL X k sl M (pc + 1) L (.long x.toInt64 :: st)) : Z l D cl b n R nL X k sl M pc L (.int x :: st) := by
  obtain ⟨p, e, s, m, args, below, meth, c, Q⟩ := X
  obtain ⟨hx, hb, hml, hown, hts, hK⟩ := C
  exact fun H locs ls hP hS hl => lv_i2l hx hb hd rfl (kk H locs ls hP hS hl)
theorem z_l2i (C : Cx D cl tys cc nL own Ts X) {x : Int64} (hd : decode cc pc = .ok (.l2i, 1)) (kk : Z l D cl b n R nL X k sl M (pc + 1) L (.int x.toInt32 :: st)) : Z l D cl b n R nL X k sl M pc L (.long x :: st) := by
  obtain ⟨p, e, s, m, args, below, meth, c, Q⟩ := X
  obtain ⟨hx, hb, hml, hown, hts, hK⟩ := C
  exact fun H locs ls hP hS hl => lv_l2i hx hb hd rfl (kk H locs ls hP hS hl)
theorem z_i2d (C : Cx D cl tys cc nL own Ts X) {x : Int32} (hd : decode cc pc = .ok (.i2d, 1)) (kk : Z l D cl b n R nL X k sl M (pc + 1) L (.double (FP.i2d x) :: st)) : Z l D cl b n R nL X k sl M pc L (.int x :: st) := by
  obtain ⟨p, e, s, m, args, below, meth, c, Q⟩ := X
  obtain ⟨hx, hb, hml, hown, hts, hK⟩ := C
  exact fun H locs ls hP hS hl => lv_i2d hx hb hd (kk H locs ls hP hS hl)
theorem z_d2i (C : Cx D cl tys cc nL own Ts X) {x : UInt64} (hd : decode cc pc = .ok (.d2i, 1)) (kk : Z l D cl b n R nL X k sl M (pc + 1) L (.int (FP.d2i x) :: st)) : Z l D cl b n R nL X k sl M pc L (.double x :: st) := by
  obtain ⟨p, e, s, m, args, below, meth, c, Q⟩ := X
  obtain ⟨hx, hb, hml, hown, hts, hK⟩ := C
  exact fun H locs ls hP hS hl => lv_d2i hx hb hd (kk H locs ls hP hS hl)
theorem z_lcmp (C : Cx D cl tys cc nL own Ts X) {x y : Int64} (hd : decode cc pc = .ok (.lcmp, 1)) (kk : Z l D cl b n R nL X k sl M (pc + 1) L (.int (lg_cmp x y) :: st)) : Z l D cl b n R nL X k sl M pc L (.long y :: .long x :: st) := by
  obtain ⟨p, e, s, m, args, below, meth, c, Q⟩ := X
  obtain ⟨hx, hb, hml, hown, hts, hK⟩ := C
  exact fun H locs ls hP hS hl => W.lcmp hx hb hd (kk H locs ls hP hS hl)
theorem z_dcmp (C : Cx D cl tys cc nL own Ts X) {x y : UInt64} {op : CmpOp} (hd : decode cc pc = .ok (.dcmp op, 1)) (kk : Z l D cl b n R nL X k sl M (pc + 1) L (.int (Op.cmpValue (FP.dcmp x y) op) :: st)) : Z l D cl b n R nL X k sl M pc L (.double y :: .double x :: st) := by
  obtain ⟨p, e, s, m, args, below, meth, c, Q⟩ := X
  obtain ⟨hx, hb, hml, hown, hts, hK⟩ := C
  exact fun H locs ls hP hS hl => lv_dcmp hx hb hd (kk H locs ls hP hS hl)
theorem z_dadd (C : Cx D cl tys cc nL own Ts X) {x y : UInt64} (hd : decode cc pc = .ok (.dadd, 1)) (hne : vf_n64 (FP.dadd x y)) (kk : Z l D cl b n R nL X k sl M (pc + 1) L (.double (FP.dadd x y) :: st)) : Z l D cl b n R nL X k sl M pc L (.double y :: .double x :: st) := by
  obtain ⟨p, e, s, m, args, below, meth, c, Q⟩ := X
  obtain ⟨hx, hb, hml, hown, hts, hK⟩ := C
  exact fun H locs ls hP hS hl => lv_dadd hx hb hd hne (kk H locs ls hP hS hl)
theorem z_dsub (C : Cx D cl tys cc nL own Ts X) {x y : UInt64} (hd : decode cc pc = .ok (.dsub, 1)) (hne : vf_n64 (FP.dsub x y)) (kk : Z l D cl b n R nL X k sl M (pc + 1) L (.double (FP.dsub x y) :: st)) : Z l D cl b n R nL X k sl M pc L (.double y :: .double x :: st) := by
  obtain ⟨p, e, s, m, args, below, meth, c, Q⟩ := X
  obtain ⟨hx, hb, hml, hown, hts, hK⟩ := C
  exact fun H locs ls hP hS hl => lv_dsub hx hb hd hne (kk H locs ls hP hS hl)
theorem z_dmul (C : Cx D cl tys cc nL own Ts X) {x y : UInt64} (hd : decode cc pc = .ok (.dmul, 1)) (hne : vf_n64 (FP.dmul x y)) (kk : Z l D cl b n R nL X k sl M (pc + 1) L (.double (FP.dmul x y) :: st)) : Z l D cl b n R nL X k sl M pc L (.double y :: .double x :: st) := by
  obtain ⟨p, e, s, m, args, below, meth, c, Q⟩ := X
  obtain ⟨hx, hb, hml, hown, hts, hK⟩ := C
  exact fun H locs ls hP hS hl => lv_dmul hx hb hd hne (kk H locs ls hP hS hl)
theorem z_ddiv (C : Cx D cl tys cc nL own Ts X) {x y : UInt64} (hd : decode cc pc = .ok (.ddiv, 1)) (hne : vf_n64 (FP.ddiv x y)) (kk : Z l D cl b n R nL X k sl M (pc + 1) L (.double (FP.ddiv x y) :: st)) : Z l D cl b n R nL X k sl M pc L (.double y :: .double x :: st) := by
  obtain ⟨p, e, s, m, args, below, meth, c, Q⟩ := X
  obtain ⟨hx, hb, hml, hown, hts, hK⟩ := C
  exact fun H locs ls hP hS hl => lv_ddiv hx hb hd hne (kk H locs ls hP hS hl)
theorem z_dup (C : Cx D cl tys cc nL own Ts X) {v : Value} (hd : decode cc pc = .ok (.dup, 1)) (hv : v.category = 1) (kk : Z l D cl b n R nL X k sl M (pc + 1) L (v :: v :: st)) : Z l D cl b n R nL X k sl M pc L (v :: st) := by
  obtain ⟨p, e, s, m, args, below, meth, c, Q⟩ := X
  obtain ⟨hx, hb, hml, hown, hts, hK⟩ := C
  exact fun H locs ls hP hS hl => lv_dup hx hb hd hv (kk H locs ls hP hS hl)
theorem z_pop (C : Cx D cl tys cc nL own Ts X) {v : Value} (hd : decode cc pc = .ok (.pop, 1)) (hv : v.category = 1) (kk : Z l D cl b n R nL X k sl M (pc + 1) L (st)) : Z l D cl b n R nL X k sl M pc L (v :: st) := by
  obtain ⟨p, e, s, m, args, below, meth, c, Q⟩ := X
  obtain ⟨hx, hb, hml, hown, hts, hK⟩ := C
  exact fun H locs ls hP hS hl => lv_pop hx hb hd hv (kk H locs ls hP hS hl)
theorem z_dup_x1 (C : Cx D cl tys cc nL own Ts X) {v w : Value} (hd : decode cc pc = .ok (.dup_x1, 1)) (hv : v.category = 1) (hw : w.category = 1) (kk : Z l D cl b n R nL X k sl M (pc + 1) L (v :: w :: v :: st)) : Z l D cl b n R nL X k sl M pc L (v :: w :: st) := by
  obtain ⟨p, e, s, m, args, below, meth, c, Q⟩ := X
  obtain ⟨hx, hb, hml, hown, hts, hK⟩ := C
  exact fun H locs ls hP hS hl => lv_dup_x1 hx hb hd hv hw (kk H locs ls hP hS hl)
theorem z_dup_x2 (C : Cx D cl tys cc nL own Ts X) {v w u : Value} (hd : decode cc pc = .ok (.dup_x2, 1)) (hv : v.category = 1) (hw : w.category = 1) (hu : u.category = 1) (kk : Z l D cl b n R nL X k sl M (pc + 1) L (v :: w :: u :: v :: st)) : Z l D cl b n R nL X k sl M pc L (v :: w :: u :: st) := by
  obtain ⟨p, e, s, m, args, below, meth, c, Q⟩ := X
  obtain ⟨hx, hb, hml, hown, hts, hK⟩ := C
  exact fun H locs ls hP hS hl => lv_dup_x2 hx hb hd hv hw hu (kk H locs ls hP hS hl)
theorem z_dup2 (C : Cx D cl tys cc nL own Ts X) {v w : Value} (hd : decode cc pc = .ok (.dup2, 1)) (hv : v.category = 1) (hw : w.category = 1) (kk : Z l D cl b n R nL X k sl M (pc + 1) L (v :: w :: v :: w :: st)) : Z l D cl b n R nL X k sl M pc L (v :: w :: st) := by
  obtain ⟨p, e, s, m, args, below, meth, c, Q⟩ := X
  obtain ⟨hx, hb, hml, hown, hts, hK⟩ := C
  exact fun H locs ls hP hS hl => lv_dup2_11 hx hb hd hv hw (kk H locs ls hP hS hl)
theorem z_pop2 (C : Cx D cl tys cc nL own Ts X) {v : Value} (hd : decode cc pc = .ok (.pop2, 1)) (hv : v.category = 2) (kk : Z l D cl b n R nL X k sl M (pc + 1) L (st)) : Z l D cl b n R nL X k sl M pc L (v :: st) := by
  obtain ⟨p, e, s, m, args, below, meth, c, Q⟩ := X
  obtain ⟨hx, hb, hml, hown, hts, hK⟩ := C
  exact fun H locs ls hP hS hl => lv_pop2_2 hx hb hd hv (kk H locs ls hP hS hl)
theorem z_iconst (C : Cx D cl tys cc nL own Ts X) {z : Int} {v : Int32} (hd : decode cc pc = .ok (.iconst z, 1)) (hv : Int32.ofInt z = v) (kk : Z l D cl b n R nL X k sl M (pc + 1) L (.int v :: st)) : Z l D cl b n R nL X k sl M pc L st := by
  obtain ⟨p, e, s, m, args, below, meth, c, Q⟩ := X
  obtain ⟨hx, hb, hml, hown, hts, hK⟩ := C
  exact fun H locs ls hP hS hl => lv_iconst hx hb hd hv (kk H locs ls hP hS hl)
theorem z_bipush (C : Cx D cl tys cc nL own Ts X) {z : Int} {v : Int32} (hd : decode cc pc = .ok (.bipush z, 2)) (hv : (Int8.ofInt z).toInt32 = v) (kk : Z l D cl b n R nL X k sl M (pc + 2) L (.int v :: st)) : Z l D cl b n R nL X k sl M pc L st := by
  obtain ⟨p, e, s, m, args, below, meth, c, Q⟩ := X
  obtain ⟨hx, hb, hml, hown, hts, hK⟩ := C
  exact fun H locs ls hP hS hl => lv_bipush hx hb hd hv (kk H locs ls hP hS hl)
theorem z_sipush (C : Cx D cl tys cc nL own Ts X) {z : Int} {v : Int32} (hd : decode cc pc = .ok (.sipush z, 3)) (hv : (Int16.ofInt z).toInt32 = v) (kk : Z l D cl b n R nL X k sl M (pc + 3) L (.int v :: st)) : Z l D cl b n R nL X k sl M pc L st := by
  obtain ⟨p, e, s, m, args, below, meth, c, Q⟩ := X
  obtain ⟨hx, hb, hml, hown, hts, hK⟩ := C
  exact fun H locs ls hP hS hl => lv_sipush hx hb hd hv (kk H locs ls hP hS hl)
theorem z_lconst (C : Cx D cl tys cc nL own Ts X) {z : Fin 2} {v : Int64} (hd : decode cc pc = .ok (.lconst z, 1)) (hv : Int64.ofInt z = v) (kk : Z l D cl b n R nL X k sl M (pc + 1) L (.long v :: st)) : Z l D cl b n R nL X k sl M pc L st := by
  obtain ⟨p, e, s, m, args, below, meth, c, Q⟩ := X
  obtain ⟨hx, hb, hml, hown, hts, hK⟩ := C
  exact fun H locs ls hP hS hl => lv_lconst hx hb hd hv (kk H locs ls hP hS hl)
theorem z_ldc (C : Cx D cl tys cc nL own Ts X) {index : Nat} {v : Int32} (hw : Cond.constant own index v ∈ Ts) (hd : decode cc pc = .ok (.ldc index, 2)) (kk : Z l D cl b n R nL X k sl M (pc + 2) L (.int v :: st)) : Z l D cl b n R nL X k sl M pc L st := by
  obtain ⟨p, e, s, m, args, below, meth, c, Q⟩ := X
  obtain ⟨hx, hb, hml, hown, hts, hK⟩ := C
  exact fun H locs ls hP hS hl => lv_ldc hx hb hown (hts _ hw) hd (kk H locs ls hP hS hl)
theorem z_ldc2 (C : Cx D cl tys cc nL own Ts X) {index : Nat} {v : Int64} (hw : Cond.constantLong own index v ∈ Ts) (hd : decode cc pc = .ok (.ldc2_w index, 3)) (kk : Z l D cl b n R nL X k sl M (pc + 3) L (.long v :: st)) : Z l D cl b n R nL X k sl M pc L st := by
  obtain ⟨p, e, s, m, args, below, meth, c, Q⟩ := X
  obtain ⟨hx, hb, hml, hown, hts, hK⟩ := C
  exact fun H locs ls hP hS hl => lv_ldc2 hx hb hown (hts _ hw) hd (kk H locs ls hP hS hl)
theorem z_ldc2d (C : Cx D cl tys cc nL own Ts X) {index : Nat} {v : UInt64} (hw : Cond.constantDouble own index v ∈ Ts) (hd : decode cc pc = .ok (.ldc2_w index, 3)) (kk : Z l D cl b n R nL X k sl M (pc + 3) L (.double v :: st)) : Z l D cl b n R nL X k sl M pc L st := by
  obtain ⟨p, e, s, m, args, below, meth, c, Q⟩ := X
  obtain ⟨hx, hb, hml, hown, hts, hK⟩ := C
  exact fun H locs ls hP hS hl => lv_ldc2d hx hb hown (hts _ hw) hd (kk H locs ls hP hS hl)
theorem z_iload_n (C : Cx D cl tys cc nL own Ts X) {j : Fin 4} {i : Nat} {x : Int32} (hd : decode cc pc = .ok (.iload_n j, 1)) (hi : (j : Nat) = i) (q : Nat) (hq : L[q]? = some (i, .int x)) (kk : Z l D cl b n R nL X k sl M (pc + 1) L (.int x :: st)) : Z l D cl b n R nL X k sl M pc L st := by
  obtain ⟨p, e, s, m, args, below, meth, c, Q⟩ := X
  obtain ⟨hx, hb, hml, hown, hts, hK⟩ := C
  exact fun H locs ls hP hS hl => lv_iload_n hx hb hd hi (lv_at hl q hq) (kk H locs ls hP hS hl)
theorem z_iload (C : Cx D cl tys cc nL own Ts X) {i : Nat} {x : Int32} (hd : decode cc pc = .ok (.iload i, 2)) (q : Nat) (hq : L[q]? = some (i, .int x)) (kk : Z l D cl b n R nL X k sl M (pc + 2) L (.int x :: st)) : Z l D cl b n R nL X k sl M pc L st := by
  obtain ⟨p, e, s, m, args, below, meth, c, Q⟩ := X
  obtain ⟨hx, hb, hml, hown, hts, hK⟩ := C
  exact fun H locs ls hP hS hl => lv_iload hx hb hd (lv_at hl q hq) (kk H locs ls hP hS hl)
theorem z_lload_n (C : Cx D cl tys cc nL own Ts X) {j : Fin 4} {i : Nat} {x : Int64} (hd : decode cc pc = .ok (.lload_n j, 1)) (hi : (j : Nat) = i) (q : Nat) (hq : L[q]? = some (i, .long x)) (kk : Z l D cl b n R nL X k sl M (pc + 1) L (.long x :: st)) : Z l D cl b n R nL X k sl M pc L st := by
  obtain ⟨p, e, s, m, args, below, meth, c, Q⟩ := X
  obtain ⟨hx, hb, hml, hown, hts, hK⟩ := C
  exact fun H locs ls hP hS hl => lv_lload_n hx hb hd hi (lv_at hl q hq) (kk H locs ls hP hS hl)
theorem z_lload (C : Cx D cl tys cc nL own Ts X) {i : Nat} {x : Int64} (hd : decode cc pc = .ok (.lload i, 2)) (q : Nat) (hq : L[q]? = some (i, .long x)) (kk : Z l D cl b n R nL X k sl M (pc + 2) L (.long x :: st)) : Z l D cl b n R nL X k sl M pc L st := by
  obtain ⟨p, e, s, m, args, below, meth, c, Q⟩ := X
  obtain ⟨hx, hb, hml, hown, hts, hK⟩ := C
  exact fun H locs ls hP hS hl => lv_lload hx hb hd (lv_at hl q hq) (kk H locs ls hP hS hl)
theorem z_aload_n (C : Cx D cl tys cc nL own Ts X) {j : Fin 4} {i : Nat} {x : Nat} (hd : decode cc pc = .ok (.aload_n j, 1)) (hi : (j : Nat) = i) (q : Nat) (hq : L[q]? = some (i, .ref x)) (kk : Z l D cl b n R nL X k sl M (pc + 1) L (.ref x :: st)) : Z l D cl b n R nL X k sl M pc L st := by
  obtain ⟨p, e, s, m, args, below, meth, c, Q⟩ := X
  obtain ⟨hx, hb, hml, hown, hts, hK⟩ := C
  exact fun H locs ls hP hS hl => lv_aload_n hx hb hd hi (lv_at hl q hq) (kk H locs ls hP hS hl)
theorem z_aload (C : Cx D cl tys cc nL own Ts X) {i : Nat} {x : Nat} (hd : decode cc pc = .ok (.aload i, 2)) (q : Nat) (hq : L[q]? = some (i, .ref x)) (kk : Z l D cl b n R nL X k sl M (pc + 2) L (.ref x :: st)) : Z l D cl b n R nL X k sl M pc L st := by
  obtain ⟨p, e, s, m, args, below, meth, c, Q⟩ := X
  obtain ⟨hx, hb, hml, hown, hts, hK⟩ := C
  exact fun H locs ls hP hS hl => lv_aload hx hb hd (lv_at hl q hq) (kk H locs ls hP hS hl)
theorem z_dload_n (C : Cx D cl tys cc nL own Ts X) {j : Fin 4} {i : Nat} {x : UInt64} (hd : decode cc pc = .ok (.dload_n j, 1)) (hi : (j : Nat) = i) (q : Nat) (hq : L[q]? = some (i, .double x)) (kk : Z l D cl b n R nL X k sl M (pc + 1) L (.double x :: st)) : Z l D cl b n R nL X k sl M pc L st := by
  obtain ⟨p, e, s, m, args, below, meth, c, Q⟩ := X
  obtain ⟨hx, hb, hml, hown, hts, hK⟩ := C
  exact fun H locs ls hP hS hl => lv_dload_n hx hb hd hi (lv_at hl q hq) (kk H locs ls hP hS hl)
theorem z_dload (C : Cx D cl tys cc nL own Ts X) {i : Nat} {x : UInt64} (hd : decode cc pc = .ok (.dload i, 2)) (q : Nat) (hq : L[q]? = some (i, .double x)) (kk : Z l D cl b n R nL X k sl M (pc + 2) L (.double x :: st)) : Z l D cl b n R nL X k sl M pc L st := by
  obtain ⟨p, e, s, m, args, below, meth, c, Q⟩ := X
  obtain ⟨hx, hb, hml, hown, hts, hK⟩ := C
  exact fun H locs ls hP hS hl => lv_dload hx hb hd (lv_at hl q hq) (kk H locs ls hP hS hl)
theorem z_istore_n (C : Cx D cl tys cc nL own Ts X) {j : Fin 4} {i : Nat} {x : Int32} (hd : decode cc pc = .ok (.istore_n j, 1)) (hi : (j : Nat) = i) (hn : i < nL) (L' : List (Nat × Value)) (hL : (i, Value.int x) :: L.filter (fun q => !(q.1 == i) && !(q.1 + 1 == i && q.2.category == 2)) = L') (kk : Z l D cl b n R nL X k sl M (pc + 1) L' st) : Z l D cl b n R nL X k sl M pc L (Value.int x :: st) := by
  obtain ⟨p, e, s, m, args, below, meth, c, Q⟩ := X
  obtain ⟨hx, hb, hml, hown, hts, hK⟩ := C
  exact fun H locs ls hP hS hl => lv_istore_n hx hb hd hi hl hn hL (fun ls' hl' => kk H locs ls' hP hS hl')
theorem z_istore (C : Cx D cl tys cc nL own Ts X) {i : Nat} {x : Int32} (hd : decode cc pc = .ok (.istore i, 2)) (hn : i < nL) (L' : List (Nat × Value)) (hL : (i, Value.int x) :: L.filter (fun q => !(q.1 == i) && !(q.1 + 1 == i && q.2.category == 2)) = L') (kk : Z l D cl b n R nL X k sl M (pc + 2) L' st) : Z l D cl b n R nL X k sl M pc L (Value.int x :: st) := by
  obtain ⟨p, e, s, m, args, below, meth, c, Q⟩ := X
  obtain ⟨hx, hb, hml, hown, hts, hK⟩ := C
  exact fun H locs ls hP hS hl => lv_istore hx hb hd hl hn hL (fun ls' hl' => kk H locs ls' hP hS hl')
theorem z_astore_n (C : Cx D cl tys cc nL own Ts X) {j : Fin 4} {i : Nat} {x : Nat} (hd : decode cc pc = .ok (.astore_n j, 1)) (hi : (j : Nat) = i) (hn : i < nL) (L' : List (Nat × Value)) (hL : (i, Value.ref x) :: L.filter (fun q => !(q.1 == i) && !(q.1 + 1 == i && q.2.category == 2)) = L') (kk : Z l D cl b n R nL X k sl M (pc + 1) L' st) : Z l D cl b n R nL X k sl M pc L (Value.ref x :: st) := by
  obtain ⟨p, e, s, m, args, below, meth, c, Q⟩ := X
  obtain ⟨hx, hb, hml, hown, hts, hK⟩ := C
  exact fun H locs ls hP hS hl => lv_astore_n hx hb hd hi hl hn hL (fun ls' hl' => kk H locs ls' hP hS hl')
theorem z_astore (C : Cx D cl tys cc nL own Ts X) {i : Nat} {x : Nat} (hd : decode cc pc = .ok (.astore i, 2)) (hn : i < nL) (L' : List (Nat × Value)) (hL : (i, Value.ref x) :: L.filter (fun q => !(q.1 == i) && !(q.1 + 1 == i && q.2.category == 2)) = L') (kk : Z l D cl b n R nL X k sl M (pc + 2) L' st) : Z l D cl b n R nL X k sl M pc L (Value.ref x :: st) := by
  obtain ⟨p, e, s, m, args, below, meth, c, Q⟩ := X
  obtain ⟨hx, hb, hml, hown, hts, hK⟩ := C
  exact fun H locs ls hP hS hl => lv_astore hx hb hd hl hn hL (fun ls' hl' => kk H locs ls' hP hS hl')
theorem z_lstore_n (C : Cx D cl tys cc nL own Ts X) {j : Fin 4} {i : Nat} {x : Int64} (hd : decode cc pc = .ok (.lstore_n j, 1)) (hi : (j : Nat) = i) (hn : i + 1 < nL) (L' : List (Nat × Value)) (hL : (i, Value.long x) :: L.filter (fun q => !(q.1 == i) && (!(q.1 == i + 1) && !(q.1 + 1 == i && q.2.category == 2))) = L') (kk : Z l D cl b n R nL X k sl M (pc + 1) L' st) : Z l D cl b n R nL X k sl M pc L (Value.long x :: st) := by
  obtain ⟨p, e, s, m, args, below, meth, c, Q⟩ := X
  obtain ⟨hx, hb, hml, hown, hts, hK⟩ := C
  exact fun H locs ls hP hS hl => lv_lstore_n hx hb hd hi hl hn hL (fun ls' hl' => kk H locs ls' hP hS hl')
theorem z_lstore (C : Cx D cl tys cc nL own Ts X) {i : Nat} {x : Int64} (hd : decode cc pc = .ok (.lstore i, 2)) (hn : i + 1 < nL) (L' : List (Nat × Value)) (hL : (i, Value.long x) :: L.filter (fun q => !(q.1 == i) && (!(q.1 == i + 1) && !(q.1 + 1 == i && q.2.category == 2))) = L') (kk : Z l D cl b n R nL X k sl M (pc + 2) L' st) : Z l D cl b n R nL X k sl M pc L (Value.long x :: st) := by
  obtain ⟨p, e, s, m, args, below, meth, c, Q⟩ := X
  obtain ⟨hx, hb, hml, hown, hts, hK⟩ := C
  exact fun H locs ls hP hS hl => lv_lstore hx hb hd hl hn hL (fun ls' hl' => kk H locs ls' hP hS hl')
theorem z_dstore_n (C : Cx D cl tys cc nL own Ts X) {j : Fin 4} {i : Nat} {x : UInt64} (hd : decode cc pc = .ok (.dstore_n j, 1)) (hi : (j : Nat) = i) (hn : i + 1 < nL) (L' : List (Nat × Value)) (hL : (i, Value.double x) :: L.filter (fun q => !(q.1 == i) && (!(q.1 == i + 1) && !(q.1 + 1 == i && q.2.category == 2))) = L') (kk : Z l D cl b n R nL X k sl M (pc + 1) L' st) : Z l D cl b n R nL X k sl M pc L (Value.double x :: st) := by
  obtain ⟨p, e, s, m, args, below, meth, c, Q⟩ := X
  obtain ⟨hx, hb, hml, hown, hts, hK⟩ := C
  exact fun H locs ls hP hS hl => lv_dstore_n hx hb hd hi hl hn hL (fun ls' hl' => kk H locs ls' hP hS hl')
theorem z_dstore (C : Cx D cl tys cc nL own Ts X) {i : Nat} {x : UInt64} (hd : decode cc pc = .ok (.dstore i, 2)) (hn : i + 1 < nL) (L' : List (Nat × Value)) (hL : (i, Value.double x) :: L.filter (fun q => !(q.1 == i) && (!(q.1 == i + 1) && !(q.1 + 1 == i && q.2.category == 2))) = L') (kk : Z l D cl b n R nL X k sl M (pc + 2) L' st) : Z l D cl b n R nL X k sl M pc L (Value.double x :: st) := by
  obtain ⟨p, e, s, m, args, below, meth, c, Q⟩ := X
  obtain ⟨hx, hb, hml, hown, hts, hK⟩ := C
  exact fun H locs ls hP hS hl => lv_dstore hx hb hd hl hn hL (fun ls' hl' => kk H locs ls' hP hS hl')
theorem z_iinc (C : Cx D cl tys cc nL own Ts X) {i : Nat} {z : Int} {x v : Int32} (hd : decode cc pc = .ok (.iinc i z, 3)) (q : Nat) (hq : L[q]? = some (i, .int x)) (hv : x + Int32.ofInt z = v) (hn : i < nL) (L' : List (Nat × Value)) (hL : (i, Value.int v) :: L.filter (fun q => !(q.1 == i) && !(q.1 + 1 == i && q.2.category == 2)) = L') (kk : Z l D cl b n R nL X k sl M (pc + 3) L' st) : Z l D cl b n R nL X k sl M pc L st := by
  obtain ⟨p, e, s, m, args, below, meth, c, Q⟩ := X
  obtain ⟨hx, hb, hml, hown, hts, hK⟩ := C
  exact fun H locs ls hP hS hl => lv_iinc hx hb hd hl hq hv hn hL (fun ls' hl' => kk H locs ls' hP hS hl')
theorem z_if_eq (C : Cx D cl tys cc nL own Ts X) {x : Int32} {off : Int} (tgt : Nat) (hd : decode cc pc = .ok (.ifCond .eq off, 3)) (ht : (pc : Int) + off = (tgt : Int)) (kt : x = 0 → Z l D cl b n R nL X k sl M tgt L st) (kf : ¬ (x = 0) → Z l D cl b n R nL X k sl M (pc + 3) L st) : Z l D cl b n R nL X k sl M pc L (.int x :: st) := by
  obtain ⟨p, e, s, m, args, below, meth, c, Q⟩ := X
  obtain ⟨hx, hb, hml, hown, hts, hK⟩ := C
  exact fun H locs ls hP hS hl => lv_if_eq hx hb hd ht (fun h => kt h H locs ls hP hS hl) (fun h => kf h H locs ls hP hS hl)
theorem z_if_ne (C : Cx D cl tys cc nL own Ts X) {x : Int32} {off : Int} (tgt : Nat) (hd : decode cc pc = .ok (.ifCond .ne off, 3)) (ht : (pc : Int) + off = (tgt : Int)) (kt : ¬ x = 0 → Z l D cl b n R nL X k sl M tgt L st) (kf : x = 0 → Z l D cl b n R nL X k sl M (pc + 3) L st) : Z l D cl b n R nL X k sl M pc L (.int x :: st) := by
  obtain ⟨p, e, s, m, args, below, meth, c, Q⟩ := X
  obtain ⟨hx, hb, hml, hown, hts, hK⟩ := C
  exact fun H locs ls hP hS hl => lv_if_ne hx hb hd ht (fun h => kt h H locs ls hP hS hl) (fun h => kf h H locs ls hP hS hl)
theorem z_if_lt (C : Cx D cl tys cc nL own Ts X) {x : Int32} {off : Int} (tgt : Nat) (hd : decode cc pc = .ok (.ifCond .lt off, 3)) (ht : (pc : Int) + off = (tgt : Int)) (kt : x < 0 → Z l D cl b n R nL X k sl M tgt L st) (kf : ¬ (x < 0) → Z l D cl b n R nL X k sl M (pc + 3) L st) : Z l D cl b n R nL X k sl M pc L (.int x :: st) := by
  obtain ⟨p, e, s, m, args, below, meth, c, Q⟩ := X
  obtain ⟨hx, hb, hml, hown, hts, hK⟩ := C
  exact fun H locs ls hP hS hl => lv_if_lt hx hb hd ht (fun h => kt h H locs ls hP hS hl) (fun h => kf h H locs ls hP hS hl)
theorem z_if_ge (C : Cx D cl tys cc nL own Ts X) {x : Int32} {off : Int} (tgt : Nat) (hd : decode cc pc = .ok (.ifCond .ge off, 3)) (ht : (pc : Int) + off = (tgt : Int)) (kt : 0 ≤ x → Z l D cl b n R nL X k sl M tgt L st) (kf : ¬ (0 ≤ x) → Z l D cl b n R nL X k sl M (pc + 3) L st) : Z l D cl b n R nL X k sl M pc L (.int x :: st) := by
  obtain ⟨p, e, s, m, args, below, meth, c, Q⟩ := X
  obtain ⟨hx, hb, hml, hown, hts, hK⟩ := C
  exact fun H locs ls hP hS hl => lv_if_ge hx hb hd ht (fun h => kt h H locs ls hP hS hl) (fun h => kf h H locs ls hP hS hl)
theorem z_if_gt (C : Cx D cl tys cc nL own Ts X) {x : Int32} {off : Int} (tgt : Nat) (hd : decode cc pc = .ok (.ifCond .gt off, 3)) (ht : (pc : Int) + off = (tgt : Int)) (kt : 0 < x → Z l D cl b n R nL X k sl M tgt L st) (kf : ¬ (0 < x) → Z l D cl b n R nL X k sl M (pc + 3) L st) : Z l D cl b n R nL X k sl M pc L (.int x :: st) := by
  obtain ⟨p, e, s, m, args, below, meth, c, Q⟩ := X
  obtain ⟨hx, hb, hml, hown, hts, hK⟩ := C
  exact fun H locs ls hP hS hl => lv_if_gt hx hb hd ht (fun h => kt h H locs ls hP hS hl) (fun h => kf h H locs ls hP hS hl)
theorem z_if_le (C : Cx D cl tys cc nL own Ts X) {x : Int32} {off : Int} (tgt : Nat) (hd : decode cc pc = .ok (.ifCond .le off, 3)) (ht : (pc : Int) + off = (tgt : Int)) (kt : x ≤ 0 → Z l D cl b n R nL X k sl M tgt L st) (kf : ¬ (x ≤ 0) → Z l D cl b n R nL X k sl M (pc + 3) L st) : Z l D cl b n R nL X k sl M pc L (.int x :: st) := by
  obtain ⟨p, e, s, m, args, below, meth, c, Q⟩ := X
  obtain ⟨hx, hb, hml, hown, hts, hK⟩ := C
  exact fun H locs ls hP hS hl => lv_if_le hx hb hd ht (fun h => kt h H locs ls hP hS hl) (fun h => kf h H locs ls hP hS hl)
theorem z_icmp_eq (C : Cx D cl tys cc nL own Ts X) {x y : Int32} {off : Int} (tgt : Nat) (hd : decode cc pc = .ok (.if_icmp .eq off, 3)) (ht : (pc : Int) + off = (tgt : Int)) (kt : x = y → Z l D cl b n R nL X k sl M tgt L st) (kf : ¬ (x = y) → Z l D cl b n R nL X k sl M (pc + 3) L st) : Z l D cl b n R nL X k sl M pc L (.int y :: .int x :: st) := by
  obtain ⟨p, e, s, m, args, below, meth, c, Q⟩ := X
  obtain ⟨hx, hb, hml, hown, hts, hK⟩ := C
  exact fun H locs ls hP hS hl => lv_icmp_eq hx hb hd ht (fun h => kt h H locs ls hP hS hl) (fun h => kf h H locs ls hP hS hl)
theorem z_icmp_ne (C : Cx D cl tys cc nL own Ts X) {x y : Int32} {off : Int} (tgt : Nat) (hd : decode cc pc = .ok (.if_icmp .ne off, 3)) (ht : (pc : Int) + off = (tgt : Int)) (kt : ¬ x = y → Z l D cl b n R nL X k sl M tgt L st) (kf : x = y → Z l D cl b n R nL X k sl M (pc + 3) L st) : Z l D cl b n R nL X k sl M pc L (.int y :: .int x :: st) := by
  obtain ⟨p, e, s, m, args, below, meth, c, Q⟩ := X
  obtain ⟨hx, hb, hml, hown, hts, hK⟩ := C
  exact fun H locs ls hP hS hl => lv_icmp_ne hx hb hd ht (fun h => kt h H locs ls hP hS hl) (fun h => kf h H locs ls hP hS hl)
theorem z_icmp_lt (C : Cx D cl tys cc nL own Ts X) {x y : Int32} {off : Int} (tgt : Nat) (hd : decode cc pc = .ok (.if_icmp .lt off, 3)) (ht : (pc : Int) + off = (tgt : Int)) (kt : x < y → Z l D cl b n R nL X k sl M tgt L st) (kf : ¬ (x < y) → Z l D cl b n R nL X k sl M (pc + 3) L st) : Z l D cl b n R nL X k sl M pc L (.int y :: .int x :: st) := by
  obtain ⟨p, e, s, m, args, below, meth, c, Q⟩ := X
  obtain ⟨hx, hb, hml, hown, hts, hK⟩ := C
  exact fun H locs ls hP hS hl => lv_icmp_lt hx hb hd ht (fun h => kt h H locs ls hP hS hl) (fun h => kf h H locs ls hP hS hl)
theorem z_icmp_ge (C : Cx D cl tys cc nL own Ts X) {x y : Int32} {off : Int} (tgt : Nat) (hd : decode cc pc = .ok (.if_icmp .ge off, 3)) (ht : (pc : Int) + off = (tgt : Int)) (kt : y ≤ x → Z l D cl b n R nL X k sl M tgt L st) (kf : ¬ (y ≤ x) → Z l D cl b n R nL X k sl M (pc + 3) L st) : Z l D cl b n R nL X k sl M pc L (.int y :: .int x :: st) := by
  obtain ⟨p, e, s, m, args, below, meth, c, Q⟩ := X
  obtain ⟨hx, hb, hml, hown, hts, hK⟩ := C
  exact fun H locs ls hP hS hl => lv_icmp_ge hx hb hd ht (fun h => kt h H locs ls hP hS hl) (fun h => kf h H locs ls hP hS hl)
theorem z_icmp_gt (C : Cx D cl tys cc nL own Ts X) {x y : Int32} {off : Int} (tgt : Nat) (hd : decode cc pc = .ok (.if_icmp .gt off, 3)) (ht : (pc : Int) + off = (tgt : Int)) (kt : y < x → Z l D cl b n R nL X k sl M tgt L st) (kf : ¬ (y < x) → Z l D cl b n R nL X k sl M (pc + 3) L st) : Z l D cl b n R nL X k sl M pc L (.int y :: .int x :: st) := by
  obtain ⟨p, e, s, m, args, below, meth, c, Q⟩ := X
  obtain ⟨hx, hb, hml, hown, hts, hK⟩ := C
  exact fun H locs ls hP hS hl => lv_icmp_gt hx hb hd ht (fun h => kt h H locs ls hP hS hl) (fun h => kf h H locs ls hP hS hl)
theorem z_icmp_le (C : Cx D cl tys cc nL own Ts X) {x y : Int32} {off : Int} (tgt : Nat) (hd : decode cc pc = .ok (.if_icmp .le off, 3)) (ht : (pc : Int) + off = (tgt : Int)) (kt : x ≤ y → Z l D cl b n R nL X k sl M tgt L st) (kf : ¬ (x ≤ y) → Z l D cl b n R nL X k sl M (pc + 3) L st) : Z l D cl b n R nL X k sl M pc L (.int y :: .int x :: st) := by
  obtain ⟨p, e, s, m, args, below, meth, c, Q⟩ := X
  obtain ⟨hx, hb, hml, hown, hts, hK⟩ := C
  exact fun H locs ls hP hS hl => lv_icmp_le hx hb hd ht (fun h => kt h H locs ls hP hS hl) (fun h => kf h H locs ls hP hS hl)
theorem z_goto (C : Cx D cl tys cc nL own Ts X) {off : Int} (tgt : Nat) (hd : decode cc pc = .ok (.goto off, 3)) (ht : (pc : Int) + off = (tgt : Int)) (kk : Z l D cl b n R nL X k sl M tgt L st) : Z l D cl b n R nL X k sl M pc L st := by
  obtain ⟨p, e, s, m, args, below, meth, c, Q⟩ := X
  obtain ⟨hx, hb, hml, hown, hts, hK⟩ := C
  exact fun H locs ls hP hS hl => lv_goto hx hb hd ht (kk H locs ls hP hS hl)
theorem z_tableIn (C : Cx D cl tys cc nL own Ts X) {dflt lo hi : Int} {offs : Array Int} {len : Nat} {x : Int32} {off : Int} (tgt : Nat) (hd : decode cc pc = .ok (.tableswitch dflt lo hi offs, len)) (h1 : ¬ x.toInt < lo) (h2 : ¬ hi < x.toInt) (ho : offs[(x.toInt - lo).toNat]? = some off) (ht : (pc : Int) + off = (tgt : Int)) (kk : Z l D cl b n R nL X k sl M tgt L st) : Z l D cl b n R nL X k sl M pc L (.int x :: st) := by
  obtain ⟨p, e, s, m, args, below, meth, c, Q⟩ := X
  obtain ⟨hx, hb, hml, hown, hts, hK⟩ := C
  exact fun H locs ls hP hS hl => lv_tableIn hx hb hd h1 h2 ho ht (kk H locs ls hP hS hl)
theorem z_tableOut (C : Cx D cl tys cc nL own Ts X) {dflt lo hi : Int} {offs : Array Int} {len : Nat} {x : Int32} (tgt : Nat) (hd : decode cc pc = .ok (.tableswitch dflt lo hi offs, len)) (h : x.toInt < lo ∨ hi < x.toInt) (ht : (pc : Int) + dflt = (tgt : Int)) (kk : Z l D cl b n R nL X k sl M tgt L st) : Z l D cl b n R nL X k sl M pc L (.int x :: st) := by
  obtain ⟨p, e, s, m, args, below, meth, c, Q⟩ := X
  obtain ⟨hx, hb, hml, hown, hts, hK⟩ := C
  exact fun H locs ls hP hS hl => lv_tableOut hx hb hd h ht (kk H locs ls hP hS hl)
theorem z_lookup (C : Cx D cl tys cc nL own Ts X) {dflt : Int} {ps : Array (Int × Int)} {len : Nat} {x : Int32} {off : Int} (tgt : Nat) (hd : decode cc pc = .ok (.lookupswitch dflt ps, len)) (hp : (ps.toList.zip (ps.toList.drop 1)).all (fun (a, next) => a.1 < next.1) = true) (ho : Op.lookupswitch.offset ps.toList dflt x.toInt = off) (ht : (pc : Int) + off = (tgt : Int)) (kk : Z l D cl b n R nL X k sl M tgt L st) : Z l D cl b n R nL X k sl M pc L (.int x :: st) := by
  obtain ⟨p, e, s, m, args, below, meth, c, Q⟩ := X
  obtain ⟨hx, hb, hml, hown, hts, hK⟩ := C
  exact fun H locs ls hP hS hl => lv_lookup hx hb hd hp ho ht (kk H locs ls hP hS hl)
theorem z_get (C : Cx D cl tys cc nL own Ts X) {C0 : String} {T : u_T} {N ci index : Nat} {a o : Nat} {fs : List Value} {v : Value} (hd : decode cc pc = .ok (.getfield index, 3)) (hin : ∀ w ∈ u_ws C0 T N, w ∈ Ts) (hc : cl[ci]? = some (C0, T, N)) (q : Nat) (hk : q < N) (hw : Cond.fieldLink own index (T q).1 (T q).2.1 (T q).2.2.1 ∈ Ts) (ho : o < n) (ha : b + o = a) (hM : M o = .inr (ci, fs)) (hv : fs[q]? = some v) (kk : Z l D cl b n R nL X k sl M (pc + 3) L (v :: st)) : Z l D cl b n R nL X k sl M pc L (.ref a :: st) := by
  obtain ⟨p, e, s, m, args, below, meth, c, Q⟩ := X
  obtain ⟨hx, hb, hml, hown, hts, hK⟩ := C
  exact fun H locs ls hP hS hl => va_get hx hb hts hin hown hK hP o (mw_at ho ha hM) hc q hk (hts _ hw) (fun _ h9 => h9) hv hd (kk H locs ls hP hS hl)
theorem z_put (C : Cx D cl tys cc nL own Ts X) {C0 : String} {T : u_T} {N ci index : Nat} {a o : Nat} {fs : List Value} {v : Value} {ty : FieldType} {ty0 : Nat → FieldType} (hd : decode cc pc = .ok (.putfield index, 3)) (hin : ∀ w ∈ u_ws C0 T N, w ∈ Ts) (hty : ∀ j, j < N → parseFieldDescriptor (T j).2.2.1 = some (ty0 j)) (hnm : ∀ x, x < N → ∀ y, y < N → x ≠ y → (T x).2.1 ≠ (T y).2.1) (hc : cl[ci]? = some (C0, T, N)) (q : Nat) (hk : q < N) (hw : Cond.fieldLink own index (T q).1 (T q).2.1 (T q).2.2.1 ∈ Ts) (hfin : (T q).2.2.2 = false) (hpt : parseFieldDescriptor (T q).2.2.1 = some ty) (hnv : narrow ty v = v) (hfit : fits ty v = true) (ho : o < n) (ha : b + o = a) (hM : M o = .inr (ci, fs)) (hl0 : q < fs.length) (kk : Z l D cl b n R nL X k sl (va_up M o (.inr (ci, fs.set q v))) (pc + 3) L st) : Z l D cl b n R nL X k sl M pc L (v :: .ref a :: st) := by
  obtain ⟨p, e, s, m, args, below, meth, c, Q⟩ := X
  obtain ⟨hx, hb, hml, hown, hts, hK⟩ := C
  exact fun H locs ls hP hS hl => va_put hx hb hts hin ty0 hty hnm hown hK hP mA_D hS o (mw_at ho ha hM) hc q hk (hts _ hw) (fun _ h9 => h9) hfin hpt hnv hfit hl0 hd (fun H1 locs1 hP1 _ hS1 => kk H1 locs1 ls (by rw [mw_setA ho ha] at hP1; exact hP1) hS1 hl)
theorem z_iald (C : Cx D cl tys cc nL own Ts X) {cA : ClassId} {N a o : Nat} {f : Nat → Int32} {i : Int32} (hd : decode cc pc = .ok (.iaload, 1)) (t0 : Nat) (ht : tys[t0]? = some (cA, .int)) (ho : o < n) (ha : b + o = a) (hM : M o = .inl (cA, N, .inl f)) (hin : vp_in i N) (kk : Z l D cl b n R nL X k sl M (pc + 1) L (.int (f i.toNatClampNeg) :: st)) : Z l D cl b n R nL X k sl M pc L (.int i :: .ref a :: st) := by
  obtain ⟨p, e, s, m, args, below, meth, c, Q⟩ := X
  obtain ⟨hx, hb, hml, hown, hts, hK⟩ := C
  exact fun H locs ls hP hS hl => va_iald hx hb hK hP o t0 (mw_at ho ha hM) ht hin hd (kk H locs ls hP hS hl)
theorem z_lald (C : Cx D cl tys cc nL own Ts X) {cA : ClassId} {N a o : Nat} {f : Nat → Int64} {i : Int32} (hd : decode cc pc = .ok (.laload, 1)) (t0 : Nat) (ht : tys[t0]? = some (cA, .long)) (ho : o < n) (ha : b + o = a) (hM : M o = .inl (cA, N, .inr (.inl f))) (hin : vp_in i N) (kk : Z l D cl b n R nL X k sl M (pc + 1) L (.long (f i.toNatClampNeg) :: st)) : Z l D cl b n R nL X k sl M pc L (.int i :: .ref a :: st) := by
  obtain ⟨p, e, s, m, args, below, meth, c, Q⟩ := X
  obtain ⟨hx, hb, hml, hown, hts, hK⟩ := C
  exact fun H locs ls hP hS hl => va_lald hx hb hK hP o t0 (mw_at ho ha hM) ht hin hd (kk H locs ls hP hS hl)
theorem z_dald (C : Cx D cl tys cc nL own Ts X) {cA : ClassId} {N a o : Nat} {f : Nat → UInt64} {i : Int32} (hd : decode cc pc = .ok (.daload, 1)) (t0 : Nat) (ht : tys[t0]? = some (cA, .double)) (ho : o < n) (ha : b + o = a) (hM : M o = .inl (cA, N, .inr (.inr (.inr (.inl f))))) (hin : vp_in i N) (kk : Z l D cl b n R nL X k sl M (pc + 1) L (.double (f i.toNatClampNeg) :: st)) : Z l D cl b n R nL X k sl M pc L (.int i :: .ref a :: st) := by
  obtain ⟨p, e, s, m, args, below, meth, c, Q⟩ := X
  obtain ⟨hx, hb, hml, hown, hts, hK⟩ := C
  exact fun H locs ls hP hS hl => va_dald hx hb hK hP o t0 (mw_at ho ha hM) ht hin hd (kk H locs ls hP hS hl)
theorem z_aald (C : Cx D cl tys cc nL own Ts X) {cA : ClassId} {N a o r : Nat} {f : Nat → Option Nat} {i : Int32} {C0 : String} (hd : decode cc pc = .ok (.aaload, 1)) (t0 : Nat) (ht : tys[t0]? = some (cA, .object C0)) (ho : o < n) (ha : b + o = a) (hM : M o = .inl (cA, N, .inr (.inr (.inr (.inr f))))) (hin : vp_in i N) (hr : f i.toNatClampNeg = some r) (kk : Z l D cl b n R nL X k sl M (pc + 1) L (.ref r :: st)) : Z l D cl b n R nL X k sl M pc L (.int i :: .ref a :: st) := by
  obtain ⟨p, e, s, m, args, below, meth, c, Q⟩ := X
  obtain ⟨hx, hb, hml, hown, hts, hK⟩ := C
  exact fun H locs ls hP hS hl => va_aldq hx hb hK hP o t0 (mw_at ho ha hM) ht hin hd (by rw [hr]; exact kk H locs ls hP hS hl)
theorem z_iast (C : Cx D cl tys cc nL own Ts X) {cA : ClassId} {N a o : Nat} {f : Nat → Int32} {i : Int32} {x : Int32} (hd : decode cc pc = .ok (.iastore, 1)) (t0 : Nat) (ht : tys[t0]? = some (cA, .int)) (ho : o < n) (ha : b + o = a) (hM : M o = .inl (cA, N, .inl f)) (hin : vp_in i N) (kk : Z l D cl b n R nL X k sl (va_up M o (.inl (cA, N, .inl (upd f i.toNatClampNeg x)))) (pc + 1) L st) : Z l D cl b n R nL X k sl M pc L (.int x :: .int i :: .ref a :: st) := by
  obtain ⟨p, e, s, m, args, below, meth, c, Q⟩ := X
  obtain ⟨hx, hb, hml, hown, hts, hK⟩ := C
  exact fun H locs ls hP hS hl => va_iast hx hb hK hP mA_D hS o t0 (mw_at ho ha hM) ht hin hd (fun H1 locs1 hP1 _ hS1 => kk H1 locs1 ls (by rw [mw_setA ho ha] at hP1; exact hP1) hS1 hl)
theorem z_last (C : Cx D cl tys cc nL own Ts X) {cA : ClassId} {N a o : Nat} {f : Nat → Int64} {i : Int32} {x : Int64} (hd : decode cc pc = .ok (.lastore, 1)) (t0 : Nat) (ht : tys[t0]? = some (cA, .long)) (ho : o < n) (ha : b + o = a) (hM : M o = .inl (cA, N, .inr (.inl f))) (hin : vp_in i N) (kk : Z l D cl b n R nL X k sl (va_up M o (.inl (cA, N, .inr (.inl (vp_updL f i.toNatClampNeg x))))) (pc + 1) L st) : Z l D cl b n R nL X k sl M pc L (.long x :: .int i :: .ref a :: st) := by
  obtain ⟨p, e, s, m, args, below, meth, c, Q⟩ := X
  obtain ⟨hx, hb, hml, hown, hts, hK⟩ := C
  exact fun H locs ls hP hS hl => va_last hx hb hK hP mA_D hS o t0 (mw_at ho ha hM) ht hin hd (fun H1 locs1 hP1 _ hS1 => kk H1 locs1 ls (by rw [mw_setA ho ha] at hP1; exact hP1) hS1 hl)
theorem z_alen (C : Cx D cl tys cc nL own Ts X) {cA : ClassId} {a o : Nat} {x : vp_A} {ty : FieldType} {v : Int32} (hd : decode cc pc = .ok (.arraylength, 1)) (t0 : Nat) (ht : tys[t0]? = some (cA, ty)) (ho : o < n) (ha : b + o = a) (hM : M o = .inl (cA, x)) (hv : Int32.ofNat x.1 = v) (kk : Z l D cl b n R nL X k sl M (pc + 1) L (.int v :: st)) : Z l D cl b n R nL X k sl M pc L (.ref a :: st) := by
  obtain ⟨p, e, s, m, args, below, meth, c, Q⟩ := X
  obtain ⟨hx, hb, hml, hown, hts, hK⟩ := C
  exact fun H locs ls hP hS hl => va_alen hx hb hK hP o t0 (mw_at ho ha hM) ht hv hd (kk H locs ls hP hS hl)
end ZROWS
end
section
/-! Contracts of a block's methods, built out of a walk in Z; and the calls of such methods. -/
section BM
variable {l : Launch} {y : MethodName} {ws ws' : List Cond} {rm : Room} {cc : ByteArray} {maxL : Nat} {D : va_G} {cl : List vw_C} {tys : List (ClassId × FieldType)} {b n sz : Nat} {M : Nat → va_E} {av : List Value} {own : String} {L : List (Nat × Value)}
theorem bm_i {post : Int32 → (Nat → va_E) → Prop} (hy : plainName y.cls = true) (hw : ws = Cond.code y cc maxL (some .int) :: ws') (hown : y.cls = own) (hlen : (lg_sl av).length ≤ maxL) (hL : lv_args 0 av = L)
    (body : ∀ X : Zx, Cx D cl tys cc maxL own ws X → (∀ (v : Int32) (M' : Nat → va_E) (pc : Nat) (L' : List (Nat × Value)), decode cc pc = .ok (.ireturn, 1) → post v M' → Z l D cl b n rm maxL X 0 0 M' pc L' [.int v]) → Z l D cl b n rm maxL X 0 0 M 0 L []) :
    Met l y ws rm (mPc D cl tys b n sz M av) (va_Qi post (mB D cl tys b n) (mA b n sz)) 0 0 (mA b n sz) := by
  refine Met.ofW (cc := cc) (maxL := maxL) (ret := some .int) hy hw ?_
  intro p e s m args below meth c s₁ B hml hv
  obtain ⟨rfl, hsz, hP, hK⟩ := hv
  have hx := B.exec
  have hb := B.bytes
  have hr := B.returns
  have hts := atoms_spec (ws := ws) B.pre
  have ho : s.vm.findClass own = some m.cls := by rw [← hown]; exact findClass_of_methodNamed B.named
  have hlocks := B.notSynchronized
  subst hsz
  have hl := lv_entry av (n := maxL) hlen
  rw [lg_entry_eq]
  rw [hL] at hl
  refine body (p, e, s, m, av.toArray, below, meth, c, MQ below (va_Qi post (mB D cl tys b n) (mA b n s.heap.size)) av.toArray s 0 0 (mA b n s.heap.size)) ⟨hx, hb, hml, ho, hts, hK⟩ ?_ s.heap [] _ hP va_S.rf hl
  intro v M' pc L' hd hp H locs ls hP' hS' hl'
  exact W.iret (v := v) hx hb hr (fun t ht hW => ⟨⟨v, M', rfl, hp, by rw [ht]; exact hP', va_K.moved hW.alike hK⟩, hS'.F ht⟩) hS'.2.2 hd hlocks
theorem bm_z {post : Int32 → (Nat → va_E) → Prop} (hy : plainName y.cls = true) (hw : ws = Cond.code y cc maxL (some .boolean) :: ws') (hown : y.cls = own) (hlen : (lg_sl av).length ≤ maxL) (hL : lv_args 0 av = L)
    (body : ∀ X : Zx, Cx D cl tys cc maxL own ws X → (∀ (v : Int32) (M' : Nat → va_E) (pc : Nat) (L' : List (Nat × Value)), decode cc pc = .ok (.ireturn, 1) → (v = 0 ∨ v = 1) → post v M' → Z l D cl b n rm maxL X 0 0 M' pc L' [.int v]) → Z l D cl b n rm maxL X 0 0 M 0 L []) :
    Met l y ws rm (mPc D cl tys b n sz M av) (va_Qi post (mB D cl tys b n) (mA b n sz)) 0 0 (mA b n sz) := by
  refine Met.ofW (cc := cc) (maxL := maxL) (ret := some .boolean) hy hw ?_
  intro p e s m args below meth c s₁ B hml hv
  obtain ⟨rfl, hsz, hP, hK⟩ := hv
  have hx := B.exec
  have hb := B.bytes
  have hr := B.returns
  have hts := atoms_spec (ws := ws) B.pre
  have ho : s.vm.findClass own = some m.cls := by rw [← hown]; exact findClass_of_methodNamed B.named
  have hlocks := B.notSynchronized
  subst hsz
  have hl := lv_entry av (n := maxL) hlen
  rw [lg_entry_eq]
  rw [hL] at hl
  refine body (p, e, s, m, av.toArray, below, meth, c, MQ below (va_Qi post (mB D cl tys b n) (mA b n s.heap.size)) av.toArray s 0 0 (mA b n s.heap.size)) ⟨hx, hb, hml, ho, hts, hK⟩ ?_ s.heap [] _ hP va_S.rf hl
  intro v M' pc L' hd h01 hp H locs ls hP' hS' hl'
  exact W.zret (v := v) hx hb hr (by rcases h01 with rfl | rfl <;> rfl) (fun t ht hW => ⟨⟨v, M', rfl, hp, by rw [ht]; exact hP', va_K.moved hW.alike hK⟩, hS'.F ht⟩) hS'.2.2 hd hlocks
theorem bm_v {post : (Nat → va_E) → Prop} (hy : plainName y.cls = true) (hw : ws = Cond.code y cc maxL none :: ws') (hown : y.cls = own) (hlen : (lg_sl av).length ≤ maxL) (hL : lv_args 0 av = L)
    (body : ∀ X : Zx, Cx D cl tys cc maxL own ws X → (∀ (M' : Nat → va_E) (pc : Nat) (L' : List (Nat × Value)), decode cc pc = .ok (.return_, 1) → post M' → Z l D cl b n rm maxL X 0 0 M' pc L' []) → Z l D cl b n rm maxL X 0 0 M 0 L []) :
    Met l y ws rm (mPc D cl tys b n sz M av) (va_Qv post (mB D cl tys b n) (mA b n sz)) 0 0 (mA b n sz) := by
  refine Met.ofW (cc := cc) (maxL := maxL) (ret := none) hy hw ?_
  intro p e s m args below meth c s₁ B hml hv
  obtain ⟨rfl, hsz, hP, hK⟩ := hv
  have hx := B.exec
  have hb := B.bytes
  have hr := B.returns
  have hts := atoms_spec (ws := ws) B.pre
  have ho : s.vm.findClass own = some m.cls := by rw [← hown]; exact findClass_of_methodNamed B.named
  have hlocks := B.notSynchronized
  subst hsz
  have hl := lv_entry av (n := maxL) hlen
  rw [lg_entry_eq]
  rw [hL] at hl
  refine body (p, e, s, m, av.toArray, below, meth, c, MQ below (va_Qv post (mB D cl tys b n) (mA b n s.heap.size)) av.toArray s 0 0 (mA b n s.heap.size)) ⟨hx, hb, hml, ho, hts, hK⟩ ?_ s.heap [] _ hP va_S.rf hl
  intro M' pc L' hd hp H locs ls hP' hS' hl'
  exact W.vret hx hb hr (fun t ht hW => ⟨⟨M', rfl, hp, by rw [ht]; exact hP', va_K.moved hW.alike hK⟩, hS'.F ht⟩) hS'.2.2 hd hlocks
theorem bm_d {post : UInt64 → (Nat → va_E) → Prop} (hy : plainName y.cls = true) (hw : ws = Cond.code y cc maxL (some .double) :: ws') (hown : y.cls = own) (hlen : (lg_sl av).length ≤ maxL) (hL : lv_args 0 av = L)
    (body : ∀ X : Zx, Cx D cl tys cc maxL own ws X → (∀ (v : UInt64) (M' : Nat → va_E) (pc : Nat) (L' : List (Nat × Value)), decode cc pc = .ok (.dreturn, 1) → post v M' → Z l D cl b n rm maxL X 0 0 M' pc L' [.double v]) → Z l D cl b n rm maxL X 0 0 M 0 L []) :
    Met l y ws rm (mPc D cl tys b n sz M av) (va_Qd post (mB D cl tys b n) (mA b n sz)) 0 0 (mA b n sz) := by
  refine Met.ofW (cc := cc) (maxL := maxL) (ret := some .double) hy hw ?_
  intro p e s m args below meth c s₁ B hml hv
  obtain ⟨rfl, hsz, hP, hK⟩ := hv
  have hx := B.exec
  have hb := B.bytes
  have hr := B.returns
  have hts := atoms_spec (ws := ws) B.pre
  have ho : s.vm.findClass own = some m.cls := by rw [← hown]; exact findClass_of_methodNamed B.named
  have hlocks := B.notSynchronized
  subst hsz
  have hl := lv_entry av (n := maxL) hlen
  rw [lg_entry_eq]
  rw [hL] at hl
  refine body (p, e, s, m, av.toArray, below, meth, c, MQ below (va_Qd post (mB D cl tys b n) (mA b n s.heap.size)) av.toArray s 0 0 (mA b n s.heap.size)) ⟨hx, hb, hml, ho, hts, hK⟩ ?_ s.heap [] _ hP va_S.rf hl
  intro v M' pc L' hd hp H locs ls hP' hS' hl'
  exact W.dret (v := v) hx hb hr (fun t ht hW => ⟨⟨v, M', rfl, hp, by rw [ht]; exact hP', va_K.moved hW.alike hK⟩, hS'.F ht⟩) hS'.2.2 hd hlocks
end BM
section BC
variable {l : Launch} {D : va_G} {cl : List vw_C} {tys : List (ClassId × FieldType)} {b n : Nat} {R : Room} {nL : Nat} {X : Zx} {k sl : Nat} {M : Nat → va_E} {pc : Nat} {L : List (Nat × Value)} {st : List Value} {cc : ByteArray} {own : String} {Ts : List Cond}
variable {y : MethodName} {bytes : ByteArray} {maxL index a o ci N : Nat} {ret : Option FieldType} {ws ws' : List Cond} {rm : Room} {As fs : List Value} {C0 : String} {T : u_T}
/-- a call of an instance method of an object of the block, which answers an int -/
theorem z_callVi {post : Int32 → (Nat → va_E) → Prop} (C : Cx D cl tys cc nL own Ts X) (hd : decode cc pc = .ok (.invokevirtual index, 3)) (hM : ∀ sz, Met l y ws rm (mPc D cl tys b n sz M (.ref a :: As)) (va_Qi post (mB D cl tys b n) (mA b n sz)) 0 0 (mA b n sz))
    (hG : GoodIn Ts (wsV own index C0 y ws)) (hw : ws = Cond.code y bytes maxL ret :: ws') (hds : y.cls = C0 ∧ y.cls ≠ "java/lang/invoke/MethodHandle" ∧ y.cls ≠ "java/lang/invoke/VarHandle" ∧ (parseMethodDescriptor y.desc).map (fun d => d.parameters.length) = some As.length)
    (hR : (rm.frames + 1 ≤ R.frames ∧ 8 + (maxL + 11) + rm.locals ≤ R.locals) ∧ rm.cells = 0 ∧ rm.slots = 0 ∧ k ≤ R.cells ∧ sl ≤ R.slots) (ho : o < n) (ha : b + o = a) (hMo : M o = .inr (ci, fs)) (hc : cl[ci]? = some (C0, T, N)) (hst : (st.map fun v => v.category).sum ≤ 8)
    (kk : ∀ (r : Int32) (M' : Nat → va_E), post r M' → Z l D cl b n R nL X k sl M' (pc + 3) L (.int r :: st)) {st0 : List Value} (hs0 : st0 = As.reverse ++ .ref a :: st) : Z l D cl b n R nL X k sl M pc L st0 := by
  obtain ⟨p, e, s, m, args, below, meth, c, Q⟩ := X
  obtain ⟨hx, hb, hml, hown, hts, hK⟩ := C
  subst hs0
  intro H locs ls hP hS hl
  refine va_calli (va_runV (As := As) (rest := st) ⟨hx, hb, hml, hown, hts⟩ (hM H.size) (cwV As.length hts hG hw hR.2.1 hR.2.2.1 hds hR.1) ⟨mPc_blind, va_recv hK hP hc (mw_at ho ha hMo), fun U hU hW => ⟨rfl, by rw [hU], by rw [hU]; exact hP, va_K.moved hW.alike hK⟩⟩ rfl rfl hl.1 rfl (lv_room hst) hd ⟨hR.2.2.2.1, hR.2.2.2.2⟩) hS (fun q _ h => mA_le hS.1 q h) (mA_le hS.1) (fun r u t H1 locs1 ht hvm hp hB hz1 hk1 hS1 => ?_)
  obtain ⟨hP1, hK1⟩ := hB
  rw [ht] at hP1
  exact kk r u hp H1 locs1 ls hP1 hS1 hl
theorem z_callVv {post : (Nat → va_E) → Prop} (C : Cx D cl tys cc nL own Ts X) (hd : decode cc pc = .ok (.invokevirtual index, 3)) (hM : ∀ sz, Met l y ws rm (mPc D cl tys b n sz M (.ref a :: As)) (va_Qv post (mB D cl tys b n) (mA b n sz)) 0 0 (mA b n sz))
    (hG : GoodIn Ts (wsV own index C0 y ws)) (hw : ws = Cond.code y bytes maxL ret :: ws') (hds : y.cls = C0 ∧ y.cls ≠ "java/lang/invoke/MethodHandle" ∧ y.cls ≠ "java/lang/invoke/VarHandle" ∧ (parseMethodDescriptor y.desc).map (fun d => d.parameters.length) = some As.length)
    (hR : (rm.frames + 1 ≤ R.frames ∧ 8 + (maxL + 11) + rm.locals ≤ R.locals) ∧ rm.cells = 0 ∧ rm.slots = 0 ∧ k ≤ R.cells ∧ sl ≤ R.slots) (ho : o < n) (ha : b + o = a) (hMo : M o = .inr (ci, fs)) (hc : cl[ci]? = some (C0, T, N)) (hst : (st.map fun v => v.category).sum ≤ 8)
    (kk : ∀ (M' : Nat → va_E), post M' → Z l D cl b n R nL X k sl M' (pc + 3) L st) {st0 : List Value} (hs0 : st0 = As.reverse ++ .ref a :: st) : Z l D cl b n R nL X k sl M pc L st0 := by
  obtain ⟨p, e, s, m, args, below, meth, c, Q⟩ := X
  obtain ⟨hx, hb, hml, hown, hts, hK⟩ := C
  subst hs0
  intro H locs ls hP hS hl
  refine va_callv (va_runV (As := As) (rest := st) ⟨hx, hb, hml, hown, hts⟩ (hM H.size) (cwV As.length hts hG hw hR.2.1 hR.2.2.1 hds hR.1) ⟨mPc_blind, va_recv hK hP hc (mw_at ho ha hMo), fun U hU hW => ⟨rfl, by rw [hU], by rw [hU]; exact hP, va_K.moved hW.alike hK⟩⟩ rfl rfl hl.1 rfl (lv_room hst) hd ⟨hR.2.2.2.1, hR.2.2.2.2⟩) hS (fun q _ h => mA_le hS.1 q h) (mA_le hS.1) (fun u t H1 locs1 ht hvm hp hB hz1 hk1 hS1 => ?_)
  obtain ⟨hP1, hK1⟩ := hB
  rw [ht] at hP1
  exact kk u hp H1 locs1 ls hP1 hS1 hl
/-- a call of a static method of the walked method's own class, which answers an int -/
theorem z_callSi {post : Int32 → (Nat → va_E) → Prop} (C : Cx D cl tys cc nL own Ts X) (hd : decode cc pc = .ok (.invokestatic index, 3)) (hM : ∀ sz, Met l y ws rm (mPc D cl tys b n sz M As) (va_Qi post (mB D cl tys b n) (mA b n sz)) 0 0 (mA b n sz))
    (hG : GoodIn Ts (wsS own index y ws)) (hw : ws = Cond.code y bytes maxL ret :: ws') (hds : y.cls = own ∧ y.cls ≠ "java/lang/invoke/MethodHandle" ∧ y.cls ≠ "java/lang/invoke/VarHandle" ∧ (parseMethodDescriptor y.desc).map (fun d => d.parameters.length) = some As.length)
    (hR : (rm.frames + 1 ≤ R.frames ∧ 8 + (maxL + 11) + rm.locals ≤ R.locals) ∧ rm.cells = 0 ∧ rm.slots = 0 ∧ k ≤ R.cells ∧ sl ≤ R.slots) (hst : (st.map fun v => v.category).sum ≤ 8)
    (kk : ∀ (r : Int32) (M' : Nat → va_E), post r M' → Z l D cl b n R nL X k sl M' (pc + 3) L (.int r :: st)) {st0 : List Value} (hs0 : st0 = As.reverse ++ st) : Z l D cl b n R nL X k sl M pc L st0 := by
  obtain ⟨p, e, s, m, args, below, meth, c, Q⟩ := X
  obtain ⟨hx, hb, hml, hown, hts, hK⟩ := C
  subst hs0
  intro H locs ls hP hS hl
  refine va_calli (va_runS (As := As) (rest := st) ⟨hx, hb, hml, hown, hts⟩ (hM H.size) (cwS As.length hts hG hw hR.2.1 hR.2.2.1 hds hR.1) ⟨mPc_blind, fun U hU hW => ⟨rfl, by rw [hU], by rw [hU]; exact hP, va_K.moved hW.alike hK⟩⟩ rfl rfl hl.1 rfl (lv_room hst) hd ⟨hR.2.2.2.1, hR.2.2.2.2⟩) hS (fun q _ h => mA_le hS.1 q h) (mA_le hS.1) (fun r u t H1 locs1 ht hvm hp hB hz1 hk1 hS1 => ?_)
  obtain ⟨hP1, hK1⟩ := hB
  rw [ht] at hP1
  exact kk r u hp H1 locs1 ls hP1 hS1 hl
end BC
end
section
/-! The map of a block out of a table and a state. A cell's field is a place in the block, or a number of the state by its name, which is three numbers; an array's contents are a row of the state. Kinds: 0 int, 1 double, else long. -/
abbrev Ky : Type := Nat × Nat × Nat
abbrev Fdd : Type := Nat ⊕ (Nat × Ky)
abbrev Cee : Type := (Nat × List Fdd) ⊕ ((Nat × Nat × Nat × Ky) ⊕ (Nat × Nat × List Nat))
abbrev Sg : Type := (Nat → Nat → Nat → Nat → Int32) × (Nat → Nat → Nat → Nat → UInt64) × (Nat → Nat → Nat → Nat → Int64)
def rzN (σ : Sg) (v : Ky) : Nat → Value
  | 0 => .int (σ.1 v.1 v.2.1 v.2.2 0)
  | 1 => .double (σ.2.1 v.1 v.2.1 v.2.2 0)
  | _ => .long (σ.2.2 v.1 v.2.1 v.2.2 0)
def rzF (b : Nat) (σ : Sg) : Fdd → Value
  | .inl o => .ref (b + o)
  | .inr q => rzN σ q.2 q.1
def rzA (σ : Sg) (n : Nat) (v : Ky) : Nat → vp_A
  | 0 => (n, .inl (σ.1 v.1 v.2.1 v.2.2))
  | 1 => (n, .inr (.inr (.inr (.inl (σ.2.1 v.1 v.2.1 v.2.2)))))
  | _ => (n, .inr (.inl (σ.2.2 v.1 v.2.1 v.2.2)))
def rz (b : Nat) (ca : Nat → ClassId) (σ : Sg) : Cee → va_E
  | .inl c => .inr (c.1, c.2.map (rzF b σ))
  | .inr (.inl a) => .inl (ca a.1, rzA σ a.2.1 a.2.2.2 a.2.2.1)
  | .inr (.inr a) => .inl (ca a.1, a.2.1, .inr (.inr (.inr (.inr (fun j => (a.2.2[j]?).map (fun o => b + o))))))
def enc (b : Nat) (ca : Nat → ClassId) (S : List Cee) (σ : Sg) : Nat → va_E := fun o => match S[o]? with
  | some c => rz b ca σ c
  | none => .inr (0, [])
theorem enc_at {b o : Nat} {ca : Nat → ClassId} {S : List Cee} {σ : Sg} {c : Cee} (h : S[o]? = some c) : enc b ca S σ o = rz b ca σ c := by
  simp [enc, h]
/-- the row v becomes g -/
def upA (σ : Sg) (v : Ky) (g : Nat → Int32) : Sg := (fun f i t => if f = v.1 ∧ i = v.2.1 ∧ t = v.2.2 then g else σ.1 f i t, σ.2)
def upE (σ : Sg) (v : Ky) (g : Nat → UInt64) : Sg := (σ.1, fun f i t => if f = v.1 ∧ i = v.2.1 ∧ t = v.2.2 then g else σ.2.1 f i t, σ.2.2)
def upL (σ : Sg) (v : Ky) (g : Nat → Int64) : Sg := (σ.1, σ.2.1, fun f i t => if f = v.1 ∧ i = v.2.1 ∧ t = v.2.2 then g else σ.2.2 f i t)
theorem ky_ne {f i t : Nat} {v : Ky} (h : ¬ (f, i, t) = v) : ¬ (f = v.1 ∧ i = v.2.1 ∧ t = v.2.2) := fun q => h (by
  obtain ⟨a, b, c⟩ := v
  obtain ⟨q1, q2, q3⟩ := q
  subst q1; subst q2; subst q3
  rfl)
theorem upA_self {σ : Sg} {f i t : Nat} {g : Nat → Int32} : (upA σ (f, i, t) g).1 f i t = g := by simp [upA]
theorem upA_ne {σ : Sg} {v : Ky} {g : Nat → Int32} {f i t : Nat} (h : ¬ (f, i, t) = v) : (upA σ v g).1 f i t = σ.1 f i t := by
  simp [upA, ky_ne h]
theorem upE_self {σ : Sg} {f i t : Nat} {g : Nat → UInt64} : (upE σ (f, i, t) g).2.1 f i t = g := by simp [upE]
theorem upE_ne {σ : Sg} {v : Ky} {g : Nat → UInt64} {f i t : Nat} (h : ¬ (f, i, t) = v) : (upE σ v g).2.1 f i t = σ.2.1 f i t := by
  simp [upE, ky_ne h]
theorem upL_self {σ : Sg} {f i t : Nat} {g : Nat → Int64} : (upL σ (f, i, t) g).2.2 f i t = g := by simp [upL]
theorem upL_ne {σ : Sg} {v : Ky} {g : Nat → Int64} {f i t : Nat} (h : ¬ (f, i, t) = v) : (upL σ v g).2.2 f i t = σ.2.2 f i t := by
  simp [upL, ky_ne h]
/-- two states that say the same of all names but v -/
def offK (v : Ky) (σ σ' : Sg) : Prop := ∀ f i t : Nat, ¬ (f, i, t) = v → σ'.1 f i t = σ.1 f i t ∧ σ'.2.1 f i t = σ.2.1 f i t ∧ σ'.2.2 f i t = σ.2.2 f i t
theorem offK_A {σ : Sg} {v : Ky} {g : Nat → Int32} : offK v σ (upA σ v g) := fun _ _ _ h => ⟨upA_ne h, rfl, rfl⟩
theorem offK_E {σ : Sg} {v : Ky} {g : Nat → UInt64} : offK v σ (upE σ v g) := fun _ _ _ h => ⟨rfl, upE_ne h, rfl⟩
theorem offK_L {σ : Sg} {v : Ky} {g : Nat → Int64} : offK v σ (upL σ v g) := fun _ _ _ h => ⟨rfl, rfl, upL_ne h⟩
def mentF (v : Ky) : Fdd → Bool
  | .inr q => q.2 == v
  | .inl _ => false
def ment (v : Ky) : Cee → Bool
  | .inl c => c.2.any (mentF v)
  | .inr (.inl a) => a.2.2.2 == v
  | .inr (.inr _) => false
def varF : Fdd → List Ky
  | .inr q => [q.2]
  | .inl _ => []
def varC : Cee → List Ky
  | .inl c => c.2.flatMap varF
  | .inr (.inl a) => [a.2.2.2]
  | .inr (.inr _) => []
theorem rzN_off {σ σ' : Sg} {v w : Ky} (ho : offK v σ σ') (h : ¬ w = v) (k : Nat) : rzN σ' w k = rzN σ w k := by
  obtain ⟨a, i, t⟩ := w
  obtain ⟨h1, h2, h3⟩ := ho a i t h
  match k with
  | 0 => show Value.int (σ'.1 a i t 0) = Value.int (σ.1 a i t 0); rw [h1]
  | 1 => show Value.double (σ'.2.1 a i t 0) = Value.double (σ.2.1 a i t 0); rw [h2]
  | (n + 2) => show Value.long (σ'.2.2 a i t 0) = Value.long (σ.2.2 a i t 0); rw [h3]
theorem rzA_off {σ σ' : Sg} {v w : Ky} {n : Nat} (ho : offK v σ σ') (h : ¬ w = v) (k : Nat) : rzA σ' n w k = rzA σ n w k := by
  obtain ⟨a, i, t⟩ := w
  obtain ⟨h1, h2, h3⟩ := ho a i t h
  match k with
  | 0 => show ((n, .inl (σ'.1 a i t)) : vp_A) = (n, .inl (σ.1 a i t)); rw [h1]
  | 1 => show ((n, .inr (.inr (.inr (.inl (σ'.2.1 a i t))))) : vp_A) = (n, .inr (.inr (.inr (.inl (σ.2.1 a i t))))); rw [h2]
  | (m + 2) => show ((n, .inr (.inl (σ'.2.2 a i t))) : vp_A) = (n, .inr (.inl (σ.2.2 a i t))); rw [h3]
theorem rzF_off {b : Nat} {σ σ' : Sg} {v : Ky} {f : Fdd} (ho : offK v σ σ') (h : mentF v f = false) : rzF b σ' f = rzF b σ f := by
  match f, h with
  | .inl _, _ => rfl
  | .inr (k, w), h =>
    have h1 : ¬ w = v := by simpa [mentF] using h
    exact rzN_off ho h1 k
theorem rz_off {b : Nat} {ca : Nat → ClassId} {σ σ' : Sg} {v : Ky} {c : Cee} (ho : offK v σ σ') (h : ment v c = false) : rz b ca σ' c = rz b ca σ c := by
  match c, h with
  | .inr (.inr _), _ => rfl
  | .inr (.inl (x, y, k, w)), h =>
    have h1 : ¬ w = v := by simpa [ment] using h
    show (Sum.inl (ca x, rzA σ' y w k) : va_E) = Sum.inl (ca x, rzA σ y w k)
    rw [rzA_off ho h1]
  | .inl (x, fs), h =>
    show (Sum.inr (x, fs.map (rzF b σ')) : va_E) = Sum.inr (x, fs.map (rzF b σ))
    have h1 : fs.map (rzF b σ') = fs.map (rzF b σ) := List.map_congr_left fun f hf => rzF_off ho (by
      have h2 : fs.any (mentF v) = false := h
      rw [List.any_eq_false] at h2
      simpa using h2 f hf)
    rw [h1]
/-- each name stands in one cell of the table -/
def chkU : List Cee → Bool
  | [] => true
  | c :: r => (varC c).all (fun v => r.all (fun c' => !ment v c')) && chkU r
theorem mentF_var {v : Ky} {f : Fdd} (h : mentF v f = true) : v ∈ varF f := by
  match f, h with
  | .inr (k, w), h =>
    have h1 : w = v := by simpa [mentF] using h
    simp [varF, h1]
theorem ment_var {v : Ky} {c : Cee} (h : ment v c = true) : v ∈ varC c := by
  match c, h with
  | .inr (.inl (x, y, k, w)), h =>
    have h1 : w = v := by simpa [ment] using h
    simp [varC, h1]
  | .inl (x, fs), h =>
    have h1 : fs.any (mentF v) = true := h
    obtain ⟨f, hf, h2⟩ := List.any_eq_true.mp h1
    exact List.mem_flatMap.mpr ⟨f, hf, mentF_var h2⟩
theorem chkU_spec {S : List Cee} (h : chkU S = true) : ∀ {o o' : Nat} {c c' : Cee} {v : Ky}, S[o]? = some c → S[o']? = some c' → ment v c = true → ment v c' = true → o = o' := by
  induction S with
  | nil => intro o o' c c' v h1; simp at h1
  | cons a r ih =>
    have h0 : (varC a).all (fun v => r.all (fun c' => !ment v c')) = true ∧ chkU r = true := by
      have h9 := h
      unfold chkU at h9
      exact Bool.and_eq_true_iff.mp h9
    intro o o' c c' v h1 h2 m1 m2
    cases o with
    | zero =>
      cases o' with
      | zero => rfl
      | succ j =>
        exfalso
        have e1 : a = c := by simpa using h1
        subst e1
        have h3 := List.all_eq_true.mp h0.1 v (ment_var m1)
        have h4 := List.all_eq_true.mp h3 c' (List.mem_of_getElem? (by simpa using h2))
        rw [m2] at h4
        cases h4
    | succ i =>
      cases o' with
      | zero =>
        exfalso
        have e1 : a = c' := by simpa using h2
        subst e1
        have h3 := List.all_eq_true.mp h0.1 v (ment_var m2)
        have h4 := List.all_eq_true.mp h3 c (List.mem_of_getElem? (by simpa using h1))
        rw [m1] at h4
        cases h4
      | succ j =>
        have h1' : r[i]? = some c := by simpa using h1
        have h2' : r[j]? = some c' := by simpa using h2
        exact congrArg Nat.succ (ih h0.2 h1' h2' m1 m2)
/-- one cell is written: the state's row behind it has changed, and nothing else -/
theorem enc_up {b o : Nat} {ca : Nat → ClassId} {S : List Cee} {σ σ' : Sg} {c : Cee} {v : Ky} (hU : chkU S = true) (hS : S[o]? = some c) (hm : ment v c = true) (ho : offK v σ σ') {e : va_E} (he : e = rz b ca σ' c) : va_up (enc b ca S σ) o e = enc b ca S σ' := by
  subst he
  funext q
  by_cases hq : q = o
  · subst hq
    rw [va_up_self, enc_at hS]
  · rw [va_up_ne _ _ hq]
    unfold enc
    cases hc : S[q]? with
    | none => rfl
    | some c' =>
      show rz b ca σ c' = rz b ca σ' c'
      rw [rz_off ho]
      cases hm' : ment v c' with
      | false => rfl
      | true => exact absurd (chkU_spec hU hc hS hm' hm) hq
end
section
/-! Methods that may throw: their contracts, their calls, and what a handler of the caller does with what they threw. -/
/-- what stands behind a method's end, whether it returned or threw -/
def mE (s t : State) (L : List Loc) (k n : Nat) : Prop := s.WarmedH t.vm ∧ s.sameButNew ({ t with vm := s.vm } : State) L k n
def MQX (below : List Frame) (Qc : Array Value → State → Outcome → State → Prop) (a : Array Value) (s : State) (mc ms : Nat) (free : Addr → Prop) : State → Prop := fun t =>
  ∃ o, t.status = .running ∧ Ended t below o ∧ Qc a s o t ∧ ∃ L, mE s t L mc ms ∧ ∀ q ∈ L, free q.base
def MetX (l : Launch) (y : MethodName) (ws : List Cond) (rm : Room) (Pc : Array Value → State → Prop) (Qc : Array Value → State → Outcome → State → Prop) (mc ms : Nat) (free : Addr → Prop) : Prop :=
  MetFree l y (headSpec ws rm) Pc (fun _ _ _ _ _ => True) (fun a st o t => Qc a st o t ∧ ∃ L, mE st t L mc ms ∧ ∀ q ∈ L, free q.base)
theorem MQ.toX {below : List Frame} {Qc : Array Value → State → Outcome → State → Prop} {a : Array Value} {s : State} {mc ms mc' ms' : Nat} {free : Addr → Prop} (h1 : mc ≤ mc') (h2 : ms ≤ ms') {t : State} (h : MQ below Qc a s mc ms free t) : MQX below Qc a s mc' ms' free t := by
  obtain ⟨o, g1, g2, g3, L, ⟨-, g4, g5⟩, g6⟩ := h
  exact ⟨o, g1, g2, g3, L, ⟨g4, g5.mono h1 h2⟩, g6⟩
section MX
variable {p : Program} {l : Launch} {e : Env} {R : Room} {s : State} {m : MethodId} {args : Array Value} {below : List Frame} {meth : Method} {c : Code} {H : Heap} {T : State} {locs : List Loc} {cells slots : Nat} {Q Q' : State → Prop}
theorem W.monoQ {g : JFrame} (h : ∀ t, Q t → Q' t) (kk : W p l e R s m args below meth c H locs cells slots Q g) : W p l e R s m args below meth c H locs cells slots Q' g := by
  intro T hT X
  obtain ⟨t, a, b⟩ := kk T hT X
  exact ⟨t, a, h t b⟩
theorem MetX.ofW {y : MethodName} {ws ws' : List Cond} {rm : Room} {Pc : Array Value → State → Prop} {Qc : Array Value → State → Outcome → State → Prop} {mc ms : Nat} {free : Addr → Prop} {cc : ByteArray} {maxL : Nat} {ret : Option FieldType}
    (hy : plainName y.cls = true) (hw : ws = Cond.code y cc maxL ret :: ws')
    (body : ∀ p e s m args below meth c s₁, BodyLoose p l y (headSpec ws rm) cc maxL ret e s m args below meth c s₁ → c.maxLocals = maxL → Pc args s →
      W p l e (headSpec ws rm).room s m args below meth c s.heap [] 0 0 (MQX below Qc args s mc ms free) (entryFrame m args maxL)) : MetX l y ws rm Pc Qc mc ms free := by
  refine MetFree.of_bodyS (code := cc) (maxLocals := maxL) (ret := ret) hy ?_ ?_
  · intro args s m h hn
    obtain ⟨meth, c, h1, h2, h3, h4, h5, h6, -, -⟩ := Cond.code_spec hn (atoms_spec (ws := ws) h _ (by rw [hw]; exact List.mem_cons_self))
    exact ⟨meth, c, h1, h2, h3, h4, h5, h6⟩
  · intro p e s m args below meth c s₁ B hml hP _
    have hh0 : s₁.heap = s.heap := by rw [B.state]; rfl
    obtain ⟨t, a1, o, b1, b2, b3⟩ := body p e s m args below meth c s₁ B hml hP s₁ hh0 (Stand.of_body B)
    exact ⟨t, o, a1, b1, b2, ⟨b3.1, b3.2⟩⟩
/-- a call of a method that may throw: where the machine stands behind it -/
theorem mx_invoke (X : Stand p l e R s m args below meth c T locs cells slots) (hexec : p.tables.exec = Jvm.exec) {own C : String} {index n mc ms maxL : Nat} {y : MethodName} {bytes : ByteArray} {ret : Option FieldType} {ws : List Cond} {rm : Room} {Pc : Array Value → State → Prop} {Qc : Array Value → State → Outcome → State → Prop} {free : Addr → Prop}
    (hown : s.vm.findClass own = some m.cls) (cw : CallW R s args own C index y bytes maxL ret ws rm mc ms n) (hM : MetX l y ws rm Pc Qc mc ms free) (hbl : FrameBlind Pc)
    {b : Addr} {cellB : Cell} (hcell : T.heap[b]? = some cellB) (hobj : cellB.vm.isStatics = false) (hcls : s.vm.findClass C = some cellB.cls)
    {g : JFrame} (hg : g.method = m) (hsize : g.locals.size = c.maxLocals) {As rest : List Value} (hn : As.length = n) (hstack : g.stack = As.reverse ++ .ref b :: rest) (hW : 2 * g.monitorRoom + (rest.map fun v => v.category).sum ≤ 8) (hdg : decode c.code g.pc = .ok (.invokevirtual index, 3)) (hf : cells + mc ≤ R.cells ∧ slots + ms ≤ R.slots)
    (hPc : ∀ U : State, U.heap = T.heap → s.WarmedH U.vm → Pc (Value.ref b :: As).toArray U) :
    ∃ (o : Outcome) (st₀ t T' : State) (L : List Loc), st₀.heap = T.heap ∧ Stand p l e R s m args below meth c T' (locs ++ L) (cells + mc) (slots + ms) ∧ (∀ q ∈ L, free q.base) ∧ T'.heap = t.heap ∧ T'.vm = t.vm ∧ Qc (Value.ref b :: As).toArray st₀ o t ∧
      (∀ v, o = .returned v → ∀ tg, Steps p.tables e below (T'.setTop { g with pc := g.pc + 3, stack := v.toList ++ rest }) tg → Steps p.tables e below (T.setTop g) tg) ∧
      (∀ x, o = .threw x → ∀ tg, Steps p.tables e below ((T'.setTop { g with stack := rest }).pushFrame (.throwing x)) tg → Steps p.tables e below (T.setTop g) tg) := by
  obtain ⟨⟨hrc, hrs, hfr, hlo, hws, hcw, hcode, hini, hy, hlen, hl⟩, hin, hse⟩ := cw
  obtain ⟨mk, methM, hnamed, hmethM, hstM, habM⟩ := Cond.instanceMethod_spec hin
  obtain ⟨methM', cM, hmethM', -, -, -, -, -, -, hsigM⟩ := Cond.code_spec hnamed hcode
  cases hmethM.symm.trans hmethM'
  obtain ⟨c2, r2, m2, q1, q2, q3, q4, kP, hkP, hkPi⟩ := Cond.selects_spec hse
  cases hcls.symm.trans q1
  cases (State.methodFound?_of_named hnamed hy).symm.trans q2
  cases hnamed.symm.trans q3
  have hselP : selectMethod e.platform s.vm cellB.cls mk = .method mk := by rw [Launch.admits_selectMethod X.admits]; exact q4
  obtain ⟨vm₁, X₁, hstep₁⟩ := X.invokevirtual hexec hown hl hnamed hmethM hstM hkP hkPi hy (a := b) (cell := cellB) hcell
    (fun z h => by rw [h] at hobj; cases hobj) hselP hmethM habM hkP hkPi (g := g) hg (argsL := As) (rest := rest) (hn.trans (hlen _ hsigM)) hstack hdg
  have hU : (T.setVm vm₁).heap = T.heap := rfl
  generalize T.setVm vm₁ = U at X₁ hstep₁ hU
  have hnU := X₁.named hnamed
  obtain ⟨methY, cY, hmY, hcY, -, hlY, -, -, -, -⟩ := Cond.code_spec hnU (hws _ hcw args U X₁.warmed)
  obtain ⟨kY, hkY, -⟩ := className_of_methodNamed hnU
  have hinitY : kY.init = .initialized := Cond.initialized_spec (args := args) (findClass_of_methodNamed hnU) hkY (word_at X₁.warmed (Or.inl (by first | rfl | simp [Cond.onTables, Cond.keeps, Cond.steady])) hini)
  have hgr : ({ g with stack := rest } : JFrame).method = m := hg
  have h : At U ({ g with stack := rest } : JFrame).method c below := by rw [hgr]; exact X₁.here
  have happ : (headSpec ws rm).appliesLoose y e.platform (U.calling { g with stack := rest } mk (Value.ref b :: As).toArray) = true :=
    Spec.appliesLoose_calling (g := { g with stack := rest }) h (show decode c.code ({ g with stack := rest } : JFrame).pc = _ from hdg) hnU hkY hinitY
      (X₁.room_calling (g := { g with stack := rest }) (R' := (headSpec ws rm).room) hsize hmY hcY hfr (by
        have h9 : (headSpec ws rm).room.locals = rm.locals := rfl
        have h8 : 2 * ({ g with stack := rest } : JFrame).monitorRoom + (rest.map fun v => v.category).sum ≤ 8 := hW
        rw [hlY, h9]
        show 2 * ({ g with stack := rest } : JFrame).monitorRoom + (rest.map fun v => v.category).sum + (maxL + 11) + rm.locals ≤ R.locals
        omega) (by
        have h9 : (headSpec ws rm).room.cells = rm.cells := rfl
        rw [h9, hrc]; exact hf.1) (by
        have h9 : (headSpec ws rm).room.slots = rm.slots := rfl
        rw [h9, hrs]; exact hf.2)) (atoms_intro fun w hw => hws w hw _ _ X₁.warmed)
  obtain ⟨mid, hmid⟩ := h.above
  have hfrm : (U.setTop { g with stack := rest }).frames = (.java { g with stack := rest } :: mid) ++ below := by rw [State.frames_setTop' _ h.top, hmid]; rfl
  obtain ⟨o, s₂, hsteps, -, hend, hq⟩ := Steps.callFree hM p X₁.admits X₁.cas X₁.clock (acts := []) hfrm happ (hbl _ _ _ _ (hPc U hU X₁.warmed)) trivial
  rw [State.frames_setTop' _ h.top] at hend
  have hq' : Qc (Value.ref b :: As).toArray (U.calling { g with stack := rest } mk (Value.ref b :: As).toArray) o s₂ ∧ ∃ L, mE (U.calling { g with stack := rest } mk (Value.ref b :: As).toArray) s₂ L mc ms ∧ ∀ q ∈ L, free q.base := hq
  obtain ⟨hq1, L, ⟨hW₂, e2, q2, q3, q4, q5, q6⟩, hL⟩ := hq'
  have e3 : s₂ = ({ (U.calling { g with stack := rest } mk (Value.ref b :: As).toArray).setFrames s₂.frames with heap := s₂.heap, slotsUsed := s₂.slotsUsed } : State).setVm s₂.vm := by
    have : s₂ = ({ s₂ with vm := (U.calling { g with stack := rest } mk (Value.ref b :: As).toArray).vm } : State).setVm s₂.vm := rfl
    rw [e2] at this
    exact this
  have hW' : U.WarmedH s₂.vm := hW₂
  obtain ⟨g₀, hg0⟩ := Option.isSome_iff_exists.mp h.top
  obtain ⟨r, hr⟩ := State.topJava?_eq_some.mp hg0
  have hr' : (({ U with heap := s₂.heap, slotsUsed := s₂.slotsUsed } : State).setVm s₂.vm).frames = .java g₀ :: r := hr
  have hsame : U.sameButNew ({ U with heap := s₂.heap, slotsUsed := s₂.slotsUsed } : State) L mc ms := by
    refine ⟨?_, q2, q3, q4, q5, q6⟩
    obtain ⟨t, ht, -⟩ := State.frames_cons hr
    show ({ U with heap := s₂.heap, slotsUsed := s₂.slotsUsed } : State) = { U.setFrames U.frames with heap := s₂.heap, slotsUsed := s₂.slotsUsed }
    rw [State.setFrames_self ht]
  refine ⟨o, U.calling { g with stack := rest } mk (Value.ref b :: As).toArray, s₂, ({ U with heap := s₂.heap, slotsUsed := s₂.slotsUsed } : State).setVm s₂.vm, L, hU, ?_, hL, rfl, rfl, hq1, ?_, ?_⟩
  · exact ⟨X₁.admits, X₁.cas, X₁.clock, X₁.frames, X₁.room, X₁.hears, X₁.method, X₁.code, (X₁.here.setHeapUsed s₂.heap s₂.slotsUsed).setVm hW'.alike, X₁.tail, State.WarmedH.trans X₁.warmed hW', X₁.limits, X₁.bytes, X₁.same.trans (hsame.setVm s.vm)⟩
  · intro v hv tg htg
    subst hv
    obtain ⟨c₂, i₂, len₂, hc₂, hd₂, hf₂⟩ := hend
    have hcc : c₂ = c := by
      have h1 : s₂.code? ({ g with stack := rest } : JFrame).method = U.code? ({ g with stack := rest } : JFrame).method := by
        rw [State.code?_eq, State.code?_eq, hW'.alike.method?]
      exact Option.some.inj (hc₂.symm.trans (h1.trans h.code))
    subst hcc
    have hlen2 : len₂ = 3 := by
      have hd3 : decode c₂.code g.pc = .ok (i₂, len₂) := hd₂
      rw [hdg] at hd3; cases hd3; rfl
    subst hlen2
    refine hstep₁ _ fun acts => ?_
    rw [doInvoke_state]
    refine hsteps.trans ?_
    have hs₂ : s₂ = (({ U with heap := s₂.heap, slotsUsed := s₂.slotsUsed } : State).setVm s₂.vm).setTop { g with pc := g.pc + 3, stack := v.toList ++ rest } := by
      refine e3.trans ?_
      rw [hf₂, State.calling_eq h.top, State.setFrames_setFrames, State.setTop_of_frames _ hr', hr]
      rfl
    rw [hs₂]
    exact htg
  · intro x hx tg htg
    subst hx
    have hf₂ : s₂.frames = .throwing x :: .java { g with stack := rest } :: U.frames.tail := hend
    refine hstep₁ _ fun acts => ?_
    rw [doInvoke_state]
    refine hsteps.trans ?_
    have hs₂ : s₂ = ((({ U with heap := s₂.heap, slotsUsed := s₂.slotsUsed } : State).setVm s₂.vm).setTop { g with stack := rest }).pushFrame (.throwing x) := by
      refine e3.trans ?_
      rw [hf₂, State.calling_eq h.top, State.setFrames_setFrames, State.pushFrame, State.frames_setTop _ hr', State.setTop_of_frames _ hr', State.setFrames_setFrames, hr]
      rfl
    rw [hs₂]
    exact htg
end MX
end
section
-- ===== PART A: goes FIRST, ahead of the names: the tables' words, and 'selects' of the private methods out of them =====
/-- a private method of a class that the tables say can be made, by its rows of tables_1 -/
def lw_okq (q : MethodName × Nat) : Prop := (q.1.cls ≠ "java/lang/invoke/MethodHandle" ∧ q.1.cls ≠ "java/lang/invoke/VarHandle") ∧ Cond.instantiable q.1.cls q.2 ∈ tables_1 ∧ Cond.privateMethod q.1 ∈ tables_1 ∧ Cond.instanceMethod q.1 ∈ tables_1
theorem lw_p0 : lw_okq (⟨"java/lang/Throwable", "fillInStackTrace", "(I)Ljava/lang/Throwable;"⟩, 6) := ⟨⟨by decide +kernel, by decide +kernel⟩, List.mem_of_getElem? (i := 330) (by decide +kernel), List.mem_of_getElem? (i := 328) (by decide +kernel), List.mem_of_getElem? (i := 329) (by decide +kernel)⟩
theorem lw_p1 : lw_okq (⟨"RobotBus", "isThere", "(I)Z"⟩, 13) := ⟨⟨by decide +kernel, by decide +kernel⟩, List.mem_of_getElem? (i := 22) (by decide +kernel), List.mem_of_getElem? (i := 384) (by decide +kernel), List.mem_of_getElem? (i := 385) (by decide +kernel)⟩
theorem lw_p2 : lw_okq (⟨"RobotBus", "send", "(III)I"⟩, 13) := ⟨⟨by decide +kernel, by decide +kernel⟩, List.mem_of_getElem? (i := 22) (by decide +kernel), List.mem_of_getElem? (i := 469) (by decide +kernel), List.mem_of_getElem? (i := 470) (by decide +kernel)⟩
theorem lw_p3 : lw_okq (⟨"RobotBus", "ask", "(II)I"⟩, 13) := ⟨⟨by decide +kernel, by decide +kernel⟩, List.mem_of_getElem? (i := 22) (by decide +kernel), List.mem_of_getElem? (i := 512) (by decide +kernel), List.mem_of_getElem? (i := 513) (by decide +kernel)⟩
theorem lw_p4 : lw_okq (⟨"RobotBus", "compute", "(LRobotBus$Service;II)I"⟩, 13) := ⟨⟨by decide +kernel, by decide +kernel⟩, List.mem_of_getElem? (i := 22) (by decide +kernel), List.mem_of_getElem? (i := 516) (by decide +kernel), List.mem_of_getElem? (i := 517) (by decide +kernel)⟩
theorem lw_p5 : lw_okq (⟨"RobotBus", "passOneTick", "()V"⟩, 13) := ⟨⟨by decide +kernel, by decide +kernel⟩, List.mem_of_getElem? (i := 22) (by decide +kernel), List.mem_of_getElem? (i := 545) (by decide +kernel), List.mem_of_getElem? (i := 546) (by decide +kernel)⟩
theorem lw_p6 : lw_okq (⟨"RobotBus", "spin", "(I)V"⟩, 13) := ⟨⟨by decide +kernel, by decide +kernel⟩, List.mem_of_getElem? (i := 22) (by decide +kernel), List.mem_of_getElem? (i := 561) (by decide +kernel), List.mem_of_getElem? (i := 562) (by decide +kernel)⟩
theorem lw_p7 : lw_okq (⟨"RobotBus", "perform", "(ILRobotBus$Action;I)V"⟩, 13) := ⟨⟨by decide +kernel, by decide +kernel⟩, List.mem_of_getElem? (i := 22) (by decide +kernel), List.mem_of_getElem? (i := 578) (by decide +kernel), List.mem_of_getElem? (i := 579) (by decide +kernel)⟩
theorem lw_p8 : lw_okq (⟨"RobotBus", "isAbove", "(II)Z"⟩, 13) := ⟨⟨by decide +kernel, by decide +kernel⟩, List.mem_of_getElem? (i := 22) (by decide +kernel), List.mem_of_getElem? (i := 654) (by decide +kernel), List.mem_of_getElem? (i := 655) (by decide +kernel)⟩
theorem lw_p9 : lw_okq (⟨"RobotBus", "liftToRoot", "(II)Z"⟩, 13) := ⟨⟨by decide +kernel, by decide +kernel⟩, List.mem_of_getElem? (i := 22) (by decide +kernel), List.mem_of_getElem? (i := 701) (by decide +kernel), List.mem_of_getElem? (i := 702) (by decide +kernel)⟩
theorem lw_p10 : lw_okq (⟨"RobotBusModel", "raise", "(I)I"⟩, 46) := ⟨⟨by decide +kernel, by decide +kernel⟩, List.mem_of_getElem? (i := 734) (by decide +kernel), List.mem_of_getElem? (i := 892) (by decide +kernel), List.mem_of_getElem? (i := 893) (by decide +kernel)⟩
theorem lw_p11 : lw_okq (⟨"RobotBusModel", "noNode", "(I)Z"⟩, 46) := ⟨⟨by decide +kernel, by decide +kernel⟩, List.mem_of_getElem? (i := 734) (by decide +kernel), List.mem_of_getElem? (i := 900) (by decide +kernel), List.mem_of_getElem? (i := 901) (by decide +kernel)⟩
theorem lw_p12 : lw_okq (⟨"RobotBusModel", "put", "(IIII)V"⟩, 46) := ⟨⟨by decide +kernel, by decide +kernel⟩, List.mem_of_getElem? (i := 734) (by decide +kernel), List.mem_of_getElem? (i := 912) (by decide +kernel), List.mem_of_getElem? (i := 913) (by decide +kernel)⟩
theorem lw_p13 : lw_okq (⟨"RobotBusModel", "shift", "(I)V"⟩, 46) := ⟨⟨by decide +kernel, by decide +kernel⟩, List.mem_of_getElem? (i := 734) (by decide +kernel), List.mem_of_getElem? (i := 916) (by decide +kernel), List.mem_of_getElem? (i := 917) (by decide +kernel)⟩
theorem lw_p14 : lw_okq (⟨"RobotBusModel", "send", "(III)I"⟩, 46) := ⟨⟨by decide +kernel, by decide +kernel⟩, List.mem_of_getElem? (i := 734) (by decide +kernel), List.mem_of_getElem? (i := 928) (by decide +kernel), List.mem_of_getElem? (i := 929) (by decide +kernel)⟩
theorem lw_p15 : lw_okq (⟨"RobotBusModel", "ask", "(II)I"⟩, 46) := ⟨⟨by decide +kernel, by decide +kernel⟩, List.mem_of_getElem? (i := 734) (by decide +kernel), List.mem_of_getElem? (i := 950) (by decide +kernel), List.mem_of_getElem? (i := 951) (by decide +kernel)⟩
def lw_privs_1 : List (MethodName × Nat) := [(⟨"java/lang/Throwable", "fillInStackTrace", "(I)Ljava/lang/Throwable;"⟩, 6), (⟨"RobotBus", "isThere", "(I)Z"⟩, 13), (⟨"RobotBus", "send", "(III)I"⟩, 13), (⟨"RobotBus", "ask", "(II)I"⟩, 13), (⟨"RobotBus", "compute", "(LRobotBus$Service;II)I"⟩, 13), (⟨"RobotBus", "passOneTick", "()V"⟩, 13), (⟨"RobotBus", "spin", "(I)V"⟩, 13), (⟨"RobotBus", "perform", "(ILRobotBus$Action;I)V"⟩, 13), (⟨"RobotBus", "isAbove", "(II)Z"⟩, 13), (⟨"RobotBus", "liftToRoot", "(II)Z"⟩, 13), (⟨"RobotBusModel", "raise", "(I)I"⟩, 46), (⟨"RobotBusModel", "noNode", "(I)Z"⟩, 46), (⟨"RobotBusModel", "put", "(IIII)V"⟩, 46), (⟨"RobotBusModel", "shift", "(I)V"⟩, 46), (⟨"RobotBusModel", "send", "(III)I"⟩, 46), (⟨"RobotBusModel", "ask", "(II)I"⟩, 46)]
theorem lw_r1 : ∀ q ∈ lw_privs_1, lw_okq q := List.forall_mem_cons.mpr ⟨lw_p0, List.forall_mem_cons.mpr ⟨lw_p1, List.forall_mem_cons.mpr ⟨lw_p2, List.forall_mem_cons.mpr ⟨lw_p3, List.forall_mem_cons.mpr ⟨lw_p4, List.forall_mem_cons.mpr ⟨lw_p5, List.forall_mem_cons.mpr ⟨lw_p6, List.forall_mem_cons.mpr ⟨lw_p7, List.forall_mem_cons.mpr ⟨lw_p8, List.forall_mem_cons.mpr ⟨lw_p9, List.forall_mem_cons.mpr ⟨lw_p10, List.forall_mem_cons.mpr ⟨lw_p11, List.forall_mem_cons.mpr ⟨lw_p12, List.forall_mem_cons.mpr ⟨lw_p13, List.forall_mem_cons.mpr ⟨lw_p14, List.forall_mem_cons.mpr ⟨lw_p15, fun _ h => absurd h List.not_mem_nil⟩⟩⟩⟩⟩⟩⟩⟩⟩⟩⟩⟩⟩⟩⟩⟩
theorem lw_p16 : lw_okq (⟨"RobotBusModel", "playDue", "()V"⟩, 46) := ⟨⟨by decide +kernel, by decide +kernel⟩, List.mem_of_getElem? (i := 734) (by decide +kernel), List.mem_of_getElem? (i := 958) (by decide +kernel), List.mem_of_getElem? (i := 959) (by decide +kernel)⟩
theorem lw_p17 : lw_okq (⟨"RobotBusModel", "spin", "(I)V"⟩, 46) := ⟨⟨by decide +kernel, by decide +kernel⟩, List.mem_of_getElem? (i := 734) (by decide +kernel), List.mem_of_getElem? (i := 962) (by decide +kernel), List.mem_of_getElem? (i := 963) (by decide +kernel)⟩
theorem lw_p18 : lw_okq (⟨"RobotBusModel", "perform", "(III)V"⟩, 46) := ⟨⟨by decide +kernel, by decide +kernel⟩, List.mem_of_getElem? (i := 734) (by decide +kernel), List.mem_of_getElem? (i := 966) (by decide +kernel), List.mem_of_getElem? (i := 967) (by decide +kernel)⟩
theorem lw_p19 : lw_okq (⟨"RobotBusModel", "rise", "(II)Z"⟩, 46) := ⟨⟨by decide +kernel, by decide +kernel⟩, List.mem_of_getElem? (i := 734) (by decide +kernel), List.mem_of_getElem? (i := 1009) (by decide +kernel), List.mem_of_getElem? (i := 1010) (by decide +kernel)⟩
def lw_privs_2 : List (MethodName × Nat) := [(⟨"RobotBusModel", "playDue", "()V"⟩, 46), (⟨"RobotBusModel", "spin", "(I)V"⟩, 46), (⟨"RobotBusModel", "perform", "(III)V"⟩, 46), (⟨"RobotBusModel", "rise", "(II)Z"⟩, 46)]
theorem lw_r2 : ∀ q ∈ lw_privs_2, lw_okq q := List.forall_mem_cons.mpr ⟨lw_p16, List.forall_mem_cons.mpr ⟨lw_p17, List.forall_mem_cons.mpr ⟨lw_p18, List.forall_mem_cons.mpr ⟨lw_p19, fun _ h => absurd h List.not_mem_nil⟩⟩⟩⟩
def lw_privs : List (MethodName × Nat) := lw_privs_1 ++ (lw_privs_2)
def lw_tbl : List Cond := k2_sels lw_privs ++ tables_1
theorem lw_privs_ok : ∀ q ∈ lw_privs, lw_okq q := by
  show ∀ q ∈ lw_privs_1 ++ (lw_privs_2), lw_okq q
  exact List.forall_mem_append.mpr ⟨lw_r1, lw_r2⟩

/-- the words that stay true as the tables get warmer -/
def gtb : List Cond := lw_tbl.filter goodWord
theorem gtb_of {w : Cond} (h : w ∈ tables_1) (g : goodWord w = true) : w ∈ gtb := List.mem_filter.mpr ⟨List.mem_append_right _ h, g⟩
theorem tb_1 {w : Cond} (h : w ∈ tables_1_1) : w ∈ tables_1 := List.mem_append_left _ h
theorem tb_2 {w : Cond} (h : w ∈ tables_1_2) : w ∈ tables_1 := List.mem_append_right _ (List.mem_append_left _ h)
theorem tb_3 {w : Cond} (h : w ∈ tables_1_3) : w ∈ tables_1 := List.mem_append_right _ (List.mem_append_right _ (List.mem_append_left _ h))
theorem tb_4 {w : Cond} (h : w ∈ tables_1_4) : w ∈ tables_1 := List.mem_append_right _ (List.mem_append_right _ (List.mem_append_right _ (List.mem_append_left _ h)))
theorem tb_5 {w : Cond} (h : w ∈ tables_1_5) : w ∈ tables_1 := List.mem_append_right _ (List.mem_append_right _ (List.mem_append_right _ (List.mem_append_right _ h)))
theorem gd_tbl {y0 : MethodName} {c0 : ByteArray} {n0 : Nat} {r0 : Option FieldType} {ws : List Cond} (h : ∀ w ∈ ws, w ∈ gtb) : GoodIn (Cond.code y0 c0 n0 r0 :: gtb) ws := fun w hw =>
  ⟨List.mem_cons_of_mem _ (h w hw), good_of_word (List.mem_filter.mp (h w hw)).2⟩
theorem gd_code {y : MethodName} {bytes : ByteArray} {maxL : Nat} {ret : Option FieldType} (h : Cond.code y bytes maxL ret ∈ gtb) : ∀ w ∈ Cond.code y bytes maxL ret :: gtb, w ∈ gtb := fun w hw => (List.mem_cons.mp hw).elim (fun e => e ▸ h) id
/-- the words of a call of an instance method -/
theorem gd_V {y0 : MethodName} {c0 : ByteArray} {n0 : Nat} {r0 : Option FieldType} {own C : String} {index : Nat} {y : MethodName} {bytes : ByteArray} {maxL : Nat} {ret : Option FieldType} (h1 : Cond.methodLink own index y ∈ gtb) (h2 : Cond.instanceMethod y ∈ gtb) (h3 : Cond.selects C y y ∈ gtb) (h4 : Cond.initialized C ∈ gtb) (h5 : Cond.code y bytes maxL ret ∈ gtb) : GoodIn (Cond.code y0 c0 n0 r0 :: gtb) (wsV own index C y (Cond.code y bytes maxL ret :: gtb)) := by
  refine gd_tbl fun w hw => ?_
  rcases List.mem_append.mp hw with h | h
  · simp only [List.mem_cons, List.not_mem_nil, or_false] at h
    rcases h with rfl | rfl | rfl | rfl <;> assumption
  · exact gd_code h5 w h
/-- the words of a call of a static method -/
theorem gd_S {y0 : MethodName} {c0 : ByteArray} {n0 : Nat} {r0 : Option FieldType} {own : String} {index : Nat} {y : MethodName} {bytes : ByteArray} {maxL : Nat} {ret : Option FieldType} (h1 : Cond.methodLink own index y ∈ gtb) (h2 : Cond.static y ∈ gtb) (h4 : Cond.initialized own ∈ gtb) (h5 : Cond.code y bytes maxL ret ∈ gtb) : GoodIn (Cond.code y0 c0 n0 r0 :: gtb) (wsS own index y (Cond.code y bytes maxL ret :: gtb)) := by
  refine gd_tbl fun w hw => ?_
  rcases List.mem_append.mp hw with h | h
  · simp only [List.mem_cons, List.not_mem_nil, or_false] at h
    rcases h with rfl | rfl | rfl <;> assumption
  · exact gd_code h5 w h
/-- 'selects' of a private method -/
theorem gtb_priv {q : MethodName × Nat} (h : q ∈ lw_privs) (g : goodWord (Cond.selects q.1.cls q.1 q.1) = true) (hm : Cond.selects q.1.cls q.1 q.1 ∈ k2_sels lw_privs) : Cond.selects q.1.cls q.1 q.1 ∈ gtb := List.mem_filter.mpr ⟨List.mem_append_left _ hm, g⟩
end
section
def R_Bus : String := "RobotBus"
def F_Bus : u_T := fun k => match k with
  | 0 => ("RobotBus", "nodes", "[LRobotBus$Node;", true)
  | 1 => ("RobotBus", "topics", "[LRobotBus$Topic;", true)
  | 2 => ("RobotBus", "services", "[LRobotBus$Service;", true)
  | 3 => ("RobotBus", "frames", "[LRobotBus$Frame;", true)
  | 4 => ("RobotBus", "bag", "LRobotBus$Bag;", true)
  | 5 => ("RobotBus", "point", "LRobotBus$Point;", true)
  | 6 => ("RobotBus", "clock", "I", false)
  | 7 => ("RobotBus", "messagesLost", "I", false)
  | 8 => ("RobotBus", "messagesPublished", "I", false)
  | 9 => ("RobotBus", "actionsDone", "I", false)
  | 10 => ("RobotBus", "asksFailed", "I", false)
  | 11 => ("RobotBus", "answer", "I", false)
  | _ => ("RobotBus", "keptY", "D", false)
def t_Bus : Nat → FieldType := fun k => match k with
  | 0 => .array (.object "RobotBus$Node")
  | 1 => .array (.object "RobotBus$Topic")
  | 2 => .array (.object "RobotBus$Service")
  | 3 => .array (.object "RobotBus$Frame")
  | 4 => .object "RobotBus$Bag"
  | 5 => .object "RobotBus$Point"
  | 6 => .int
  | 7 => .int
  | 8 => .int
  | 9 => .int
  | 10 => .int
  | 11 => .int
  | _ => .double
theorem n_Bus : ∀ a, a < 13 → ∀ b, b < 13 → a ≠ b → (F_Bus a).2.1 ≠ (F_Bus b).2.1 := by decide +kernel
theorem tk_Bus : ∀ k, k < 13 → parseFieldDescriptor (F_Bus k).2.2.1 = some (t_Bus k) := by decide +kernel
def R_Nod : String := "RobotBus$Node"
def F_Nod : u_T := fun k => match k with
  | 0 => ("RobotBus$Node", "variables", "[I", true)
  | 1 => ("RobotBus$Node", "queues", "[LRobotBus$Queue;", true)
  | 2 => ("RobotBus$Node", "actions", "[LRobotBus$Action;", true)
  | 3 => ("RobotBus$Node", "present", "Z", false)
  | _ => ("RobotBus$Node", "firstLookedAt", "I", false)
def t_Nod : Nat → FieldType := fun k => match k with
  | 0 => .array .int
  | 1 => .array (.object "RobotBus$Queue")
  | 2 => .array (.object "RobotBus$Action")
  | 3 => .boolean
  | _ => .int
theorem n_Nod : ∀ a, a < 5 → ∀ b, b < 5 → a ≠ b → (F_Nod a).2.1 ≠ (F_Nod b).2.1 := by decide +kernel
theorem tk_Nod : ∀ k, k < 5 → parseFieldDescriptor (F_Nod k).2.2.1 = some (t_Nod k) := by decide +kernel
def R_Que : String := "RobotBus$Queue"
def F_Que : u_T := fun k => match k with
  | 0 => ("RobotBus$Queue", "cells", "[I", true)
  | 1 => ("RobotBus$Queue", "depth", "I", false)
  | _ => ("RobotBus$Queue", "size", "I", false)
def t_Que : Nat → FieldType := fun k => match k with
  | 0 => .array .int
  | 1 => .int
  | _ => .int
theorem n_Que : ∀ a, a < 3 → ∀ b, b < 3 → a ≠ b → (F_Que a).2.1 ≠ (F_Que b).2.1 := by decide +kernel
theorem tk_Que : ∀ k, k < 3 → parseFieldDescriptor (F_Que k).2.2.1 = some (t_Que k) := by decide +kernel
def R_Act : String := "RobotBus$Action"
def F_Act : u_T := fun k => match k with
  | 0 => ("RobotBus$Action", "kind", "I", false)
  | 1 => ("RobotBus$Action", "a", "I", false)
  | _ => ("RobotBus$Action", "b", "I", false)
def t_Act : Nat → FieldType := fun k => match k with
  | 0 => .int
  | 1 => .int
  | _ => .int
theorem n_Act : ∀ a, a < 3 → ∀ b, b < 3 → a ≠ b → (F_Act a).2.1 ≠ (F_Act b).2.1 := by decide +kernel
theorem tk_Act : ∀ k, k < 3 → parseFieldDescriptor (F_Act k).2.2.1 = some (t_Act k) := by decide +kernel
def R_Top : String := "RobotBus$Topic"
def F_Top : u_T := fun k => match k with
  | 0 => ("RobotBus$Topic", "latched", "Z", false)
  | 1 => ("RobotBus$Topic", "recorded", "Z", false)
  | 2 => ("RobotBus$Topic", "hasLast", "Z", false)
  | 3 => ("RobotBus$Topic", "lastValue", "I", false)
  | 4 => ("RobotBus$Topic", "lastSender", "I", false)
  | _ => ("RobotBus$Topic", "lastStamp", "I", false)
def t_Top : Nat → FieldType := fun k => match k with
  | 0 => .boolean
  | 1 => .boolean
  | 2 => .boolean
  | 3 => .int
  | 4 => .int
  | _ => .int
theorem n_Top : ∀ a, a < 6 → ∀ b, b < 6 → a ≠ b → (F_Top a).2.1 ≠ (F_Top b).2.1 := by decide +kernel
theorem tk_Top : ∀ k, k < 6 → parseFieldDescriptor (F_Top k).2.2.1 = some (t_Top k) := by decide +kernel
def R_Srv : String := "RobotBus$Service"
def F_Srv : u_T := fun k => match k with
  | 0 => ("RobotBus$Service", "node", "I", false)
  | 1 => ("RobotBus$Service", "kind", "I", false)
  | 2 => ("RobotBus$Service", "c", "I", false)
  | _ => ("RobotBus$Service", "d", "I", false)
def t_Srv : Nat → FieldType := fun k => match k with
  | 0 => .int
  | 1 => .int
  | 2 => .int
  | _ => .int
theorem n_Srv : ∀ a, a < 4 → ∀ b, b < 4 → a ≠ b → (F_Srv a).2.1 ≠ (F_Srv b).2.1 := by decide +kernel
theorem tk_Srv : ∀ k, k < 4 → parseFieldDescriptor (F_Srv k).2.2.1 = some (t_Srv k) := by decide +kernel
def R_Frm : String := "RobotBus$Frame"
def F_Frm : u_T := fun k => match k with
  | 0 => ("RobotBus$Frame", "times", "[I", true)
  | 1 => ("RobotBus$Frame", "xs", "[I", true)
  | 2 => ("RobotBus$Frame", "ys", "[I", true)
  | 3 => ("RobotBus$Frame", "turns", "[I", true)
  | 4 => ("RobotBus$Frame", "parent", "I", false)
  | _ => ("RobotBus$Frame", "size", "I", false)
def t_Frm : Nat → FieldType := fun k => match k with
  | 0 => .array .int
  | 1 => .array .int
  | 2 => .array .int
  | 3 => .array .int
  | 4 => .int
  | _ => .int
theorem n_Frm : ∀ a, a < 6 → ∀ b, b < 6 → a ≠ b → (F_Frm a).2.1 ≠ (F_Frm b).2.1 := by decide +kernel
theorem tk_Frm : ∀ k, k < 6 → parseFieldDescriptor (F_Frm k).2.2.1 = some (t_Frm k) := by decide +kernel
def R_Bag : String := "RobotBus$Bag"
def F_Bag : u_T := fun k => match k with
  | 0 => ("RobotBus$Bag", "times", "[I", true)
  | 1 => ("RobotBus$Bag", "topics", "[I", true)
  | 2 => ("RobotBus$Bag", "values", "[I", true)
  | 3 => ("RobotBus$Bag", "size", "I", false)
  | 4 => ("RobotBus$Bag", "next", "I", false)
  | 5 => ("RobotBus$Bag", "end", "I", false)
  | 6 => ("RobotBus$Bag", "startClock", "I", false)
  | _ => ("RobotBus$Bag", "pace", "I", false)
def t_Bag : Nat → FieldType := fun k => match k with
  | 0 => .array .int
  | 1 => .array .int
  | 2 => .array .int
  | 3 => .int
  | 4 => .int
  | 5 => .int
  | 6 => .int
  | _ => .int
theorem n_Bag : ∀ a, a < 8 → ∀ b, b < 8 → a ≠ b → (F_Bag a).2.1 ≠ (F_Bag b).2.1 := by decide +kernel
theorem tk_Bag : ∀ k, k < 8 → parseFieldDescriptor (F_Bag k).2.2.1 = some (t_Bag k) := by decide +kernel
def R_Pnt : String := "RobotBus$Point"
def F_Pnt : u_T := fun k => match k with
  | 0 => ("RobotBus$Point", "x", "I", false)
  | _ => ("RobotBus$Point", "y", "I", false)
def t_Pnt : Nat → FieldType := fun k => match k with
  | 0 => .int
  | _ => .int
theorem n_Pnt : ∀ a, a < 2 → ∀ b, b < 2 → a ≠ b → (F_Pnt a).2.1 ≠ (F_Pnt b).2.1 := by decide +kernel
theorem tk_Pnt : ∀ k, k < 2 → parseFieldDescriptor (F_Pnt k).2.2.1 = some (t_Pnt k) := by decide +kernel
def R_Mdl : String := "RobotBusModel"
def F_Mdl : u_T := fun k => match k with
  | 0 => ("RobotBusModel", "thrown", "I", false)
  | 1 => ("RobotBusModel", "clock", "I", false)
  | 2 => ("RobotBusModel", "there", "[Z", true)
  | 3 => ("RobotBusModel", "vars", "[I", true)
  | 4 => ("RobotBusModel", "took", "[I", true)
  | 5 => ("RobotBusModel", "depth", "[I", true)
  | 6 => ("RobotBusModel", "waiting", "[I", true)
  | 7 => ("RobotBusModel", "value", "[I", true)
  | 8 => ("RobotBusModel", "sender", "[I", true)
  | 9 => ("RobotBusModel", "stamp", "[I", true)
  | 10 => ("RobotBusModel", "aKind", "[I", true)
  | 11 => ("RobotBusModel", "aA", "[I", true)
  | 12 => ("RobotBusModel", "aB", "[I", true)
  | 13 => ("RobotBusModel", "latched", "[Z", true)
  | 14 => ("RobotBusModel", "hasLast", "[Z", true)
  | 15 => ("RobotBusModel", "lastValue", "[I", true)
  | 16 => ("RobotBusModel", "lastSender", "[I", true)
  | 17 => ("RobotBusModel", "lastStamp", "[I", true)
  | 18 => ("RobotBusModel", "kept", "[Z", true)
  | 19 => ("RobotBusModel", "by", "[I", true)
  | 20 => ("RobotBusModel", "sKind", "[I", true)
  | 21 => ("RobotBusModel", "sC", "[I", true)
  | 22 => ("RobotBusModel", "sD", "[I", true)
  | 23 => ("RobotBusModel", "bagTime", "[I", true)
  | 24 => ("RobotBusModel", "bagTopic", "[I", true)
  | 25 => ("RobotBusModel", "bagValue", "[I", true)
  | 26 => ("RobotBusModel", "bag", "I", false)
  | 27 => ("RobotBusModel", "playing", "Z", false)
  | 28 => ("RobotBusModel", "began", "I", false)
  | 29 => ("RobotBusModel", "speed", "I", false)
  | 30 => ("RobotBusModel", "nextRecord", "I", false)
  | 31 => ("RobotBusModel", "lastRecord", "I", false)
  | 32 => ("RobotBusModel", "parent", "[I", true)
  | 33 => ("RobotBusModel", "samples", "[I", true)
  | 34 => ("RobotBusModel", "sTime", "[I", true)
  | 35 => ("RobotBusModel", "sX", "[J", true)
  | 36 => ("RobotBusModel", "sY", "[J", true)
  | 37 => ("RobotBusModel", "sTurn", "[I", true)
  | 38 => ("RobotBusModel", "px", "J", false)
  | 39 => ("RobotBusModel", "py", "J", false)
  | 40 => ("RobotBusModel", "lastY", "D", false)
  | 41 => ("RobotBusModel", "lost", "I", false)
  | 42 => ("RobotBusModel", "published", "I", false)
  | 43 => ("RobotBusModel", "actions", "I", false)
  | 44 => ("RobotBusModel", "failures", "I", false)
  | _ => ("RobotBusModel", "trouble", "I", false)
def t_Mdl : Nat → FieldType := fun k => match k with
  | 0 => .int
  | 1 => .int
  | 2 => .array .boolean
  | 3 => .array .int
  | 4 => .array .int
  | 5 => .array .int
  | 6 => .array .int
  | 7 => .array .int
  | 8 => .array .int
  | 9 => .array .int
  | 10 => .array .int
  | 11 => .array .int
  | 12 => .array .int
  | 13 => .array .boolean
  | 14 => .array .boolean
  | 15 => .array .int
  | 16 => .array .int
  | 17 => .array .int
  | 18 => .array .boolean
  | 19 => .array .int
  | 20 => .array .int
  | 21 => .array .int
  | 22 => .array .int
  | 23 => .array .int
  | 24 => .array .int
  | 25 => .array .int
  | 26 => .int
  | 27 => .boolean
  | 28 => .int
  | 29 => .int
  | 30 => .int
  | 31 => .int
  | 32 => .array .int
  | 33 => .array .int
  | 34 => .array .int
  | 35 => .array .long
  | 36 => .array .long
  | 37 => .array .int
  | 38 => .long
  | 39 => .long
  | 40 => .double
  | 41 => .int
  | 42 => .int
  | 43 => .int
  | 44 => .int
  | _ => .int
theorem n_Mdl : ∀ a, a < 46 → ∀ b, b < 46 → a ≠ b → (F_Mdl a).2.1 ≠ (F_Mdl b).2.1 := by decide +kernel
theorem tk_Mdl : ∀ k, k < 46 → parseFieldDescriptor (F_Mdl k).2.2.1 = some (t_Mdl k) := by decide +kernel
def R_Law : String := "RobotBusLaw"
def R_Math : String := "java/lang/Math"
abbrev clsB : List vw_C := [(R_Bus, F_Bus, 13), (R_Nod, F_Nod, 5), (R_Que, F_Que, 3), (R_Act, F_Act, 3), (R_Top, F_Top, 6), (R_Srv, F_Srv, 4), (R_Frm, F_Frm, 6), (R_Bag, F_Bag, 8), (R_Pnt, F_Pnt, 2), (R_Mdl, F_Mdl, 46)]
abbrev b_Bus_init : ByteArray := prog_1_method_1_code
def y_Bus_init : MethodName := ⟨"RobotBus", "<init>", "()V"⟩
abbrev w_Bus_init : List Cond := Cond.code y_Bus_init b_Bus_init 2 none :: gtb
abbrev b_Bag_init : ByteArray := prog_3_method_1_code
def y_Bag_init : MethodName := ⟨"RobotBus$Bag", "<init>", "()V"⟩
abbrev w_Bag_init : List Cond := Cond.code y_Bag_init b_Bag_init 1 none :: gtb
abbrev b_Pnt_init : ByteArray := prog_6_method_1_code
def y_Pnt_init : MethodName := ⟨"RobotBus$Point", "<init>", "()V"⟩
abbrev w_Pnt_init : List Cond := Cond.code y_Pnt_init b_Pnt_init 1 none :: gtb
abbrev b_Nod_init : ByteArray := prog_5_method_1_code
def y_Nod_init : MethodName := ⟨"RobotBus$Node", "<init>", "()V"⟩
abbrev w_Nod_init : List Cond := Cond.code y_Nod_init b_Nod_init 2 none :: gtb
abbrev b_Que_init : ByteArray := prog_7_method_1_code
def y_Que_init : MethodName := ⟨"RobotBus$Queue", "<init>", "()V"⟩
abbrev w_Que_init : List Cond := Cond.code y_Que_init b_Que_init 1 none :: gtb
abbrev b_Act_init : ByteArray := prog_2_method_1_code
def y_Act_init : MethodName := ⟨"RobotBus$Action", "<init>", "()V"⟩
abbrev w_Act_init : List Cond := Cond.code y_Act_init b_Act_init 1 none :: gtb
abbrev b_Top_init : ByteArray := prog_9_method_1_code
def y_Top_init : MethodName := ⟨"RobotBus$Topic", "<init>", "()V"⟩
abbrev w_Top_init : List Cond := Cond.code y_Top_init b_Top_init 1 none :: gtb
abbrev b_Srv_init : ByteArray := prog_8_method_1_code
def y_Srv_init : MethodName := ⟨"RobotBus$Service", "<init>", "()V"⟩
abbrev w_Srv_init : List Cond := Cond.code y_Srv_init b_Srv_init 1 none :: gtb
abbrev b_Frm_init : ByteArray := prog_4_method_1_code
def y_Frm_init : MethodName := ⟨"RobotBus$Frame", "<init>", "()V"⟩
abbrev w_Frm_init : List Cond := Cond.code y_Frm_init b_Frm_init 1 none :: gtb
abbrev b_Bus_lastY : ByteArray := prog_1_method_20_code
def y_Bus_lastY : MethodName := ⟨"RobotBus", "lastY", "()D"⟩
abbrev w_Bus_lastY : List Cond := Cond.code y_Bus_lastY b_Bus_lastY 1 (some .double) :: gtb
abbrev b_Bus_join : ByteArray := prog_1_method_2_code
def y_Bus_join : MethodName := ⟨"RobotBus", "join", "(I)I"⟩
abbrev w_Bus_join : List Cond := Cond.code y_Bus_join b_Bus_join 2 (some .int) :: gtb
abbrev b_Bus_isBelow : ByteArray := prog_1_method_23_code
def y_Bus_isBelow : MethodName := ⟨"RobotBus", "isBelow", "(II)Z"⟩
abbrev w_Bus_isBelow : List Cond := Cond.code y_Bus_isBelow b_Bus_isBelow 2 (some .boolean) :: gtb
abbrev b_Bus_leave : ByteArray := prog_1_method_3_code
def y_Bus_leave : MethodName := ⟨"RobotBus", "leave", "(I)I"⟩
abbrev w_Bus_leave : List Cond := Cond.code y_Bus_leave b_Bus_leave 3 (some .int) :: gtb
abbrev b_Bus_isThere : ByteArray := prog_1_method_24_code
def y_Bus_isThere : MethodName := ⟨"RobotBus", "isThere", "(I)Z"⟩
abbrev w_Bus_isThere : List Cond := Cond.code y_Bus_isThere b_Bus_isThere 2 (some .boolean) :: gtb
abbrev b_Nod_reset : ByteArray := prog_5_method_2_code
def y_Nod_reset : MethodName := ⟨"RobotBus$Node", "reset", "()I"⟩
abbrev w_Nod_reset : List Cond := Cond.code y_Nod_reset b_Nod_reset 3 (some .int) :: gtb
abbrev b_Que_close : ByteArray := prog_7_method_4_code
def y_Que_close : MethodName := ⟨"RobotBus$Queue", "close", "()I"⟩
abbrev w_Que_close : List Cond := Cond.code y_Que_close b_Que_close 2 (some .int) :: gtb
abbrev b_Bus_latch : ByteArray := prog_1_method_4_code
def y_Bus_latch : MethodName := ⟨"RobotBus", "latch", "(IZ)I"⟩
abbrev w_Bus_latch : List Cond := Cond.code y_Bus_latch b_Bus_latch 4 (some .int) :: gtb
abbrev b_Bus_subscribe : ByteArray := prog_1_method_5_code
def y_Bus_subscribe : MethodName := ⟨"RobotBus", "subscribe", "(III)I"⟩
abbrev w_Bus_subscribe : List Cond := Cond.code y_Bus_subscribe b_Bus_subscribe 7 (some .int) :: gtb
abbrev b_Bus_isWithin : ByteArray := prog_1_method_22_code
def y_Bus_isWithin : MethodName := ⟨"RobotBus", "isWithin", "(III)Z"⟩
abbrev w_Bus_isWithin : List Cond := Cond.code y_Bus_isWithin b_Bus_isWithin 3 (some .boolean) :: gtb
abbrev b_Que_isOpen : ByteArray := prog_7_method_2_code
def y_Que_isOpen : MethodName := ⟨"RobotBus$Queue", "isOpen", "()Z"⟩
abbrev w_Que_isOpen : List Cond := Cond.code y_Que_isOpen b_Que_isOpen 1 (some .boolean) :: gtb
abbrev b_Que_deepen : ByteArray := prog_7_method_5_code
def y_Que_deepen : MethodName := ⟨"RobotBus$Queue", "deepen", "(I)I"⟩
abbrev w_Que_deepen : List Cond := Cond.code y_Que_deepen b_Que_deepen 3 (some .int) :: gtb
abbrev b_Math_max : ByteArray := prog_16_method_65_code
def y_Math_max : MethodName := ⟨"java/lang/Math", "max", "(II)I"⟩
abbrev w_Math_max : List Cond := Cond.code y_Math_max b_Math_max 2 (some .int) :: gtb
abbrev b_Que_dropOldest : ByteArray := prog_7_method_7_code
def y_Que_dropOldest : MethodName := ⟨"RobotBus$Queue", "dropOldest", "(I)V"⟩
abbrev w_Que_dropOldest : List Cond := Cond.code y_Que_dropOldest b_Que_dropOldest 2 none :: gtb
abbrev b_Que_append : ByteArray := prog_7_method_6_code
def y_Que_append : MethodName := ⟨"RobotBus$Queue", "append", "(III)I"⟩
abbrev w_Que_append : List Cond := Cond.code y_Que_append b_Que_append 6 (some .int) :: gtb
abbrev b_Bus_unsubscribe : ByteArray := prog_1_method_6_code
def y_Bus_unsubscribe : MethodName := ⟨"RobotBus", "unsubscribe", "(II)I"⟩
abbrev w_Bus_unsubscribe : List Cond := Cond.code y_Bus_unsubscribe b_Bus_unsubscribe 3 (some .int) :: gtb
abbrev b_Bus_publish : ByteArray := prog_1_method_7_code
def y_Bus_publish : MethodName := ⟨"RobotBus", "publish", "(III)I"⟩
abbrev w_Bus_publish : List Cond := Cond.code y_Bus_publish b_Bus_publish 4 (some .int) :: gtb
abbrev b_Bus_send : ByteArray := prog_1_method_29_code
def y_Bus_send : MethodName := ⟨"RobotBus", "send", "(III)I"⟩
abbrev w_Bus_send : List Cond := Cond.code y_Bus_send b_Bus_send 7 (some .int) :: gtb
abbrev b_Top_setLast : ByteArray := prog_9_method_2_code
def y_Top_setLast : MethodName := ⟨"RobotBus$Topic", "setLast", "(III)V"⟩
abbrev w_Top_setLast : List Cond := Cond.code y_Top_setLast b_Top_setLast 4 none :: gtb
abbrev b_Bag_append : ByteArray := prog_3_method_2_code
def y_Bag_append : MethodName := ⟨"RobotBus$Bag", "append", "(III)V"⟩
abbrev w_Bag_append : List Cond := Cond.code y_Bag_append b_Bag_append 4 none :: gtb
abbrev b_Bus_act : ByteArray := prog_1_method_8_code
def y_Bus_act : MethodName := ⟨"RobotBus", "act", "(IIIII)I"⟩
abbrev w_Bus_act : List Cond := Cond.code y_Bus_act b_Bus_act 8 (some .int) :: gtb
abbrev b_Bus_isAction : ByteArray := prog_1_method_25_code
def y_Bus_isAction : MethodName := ⟨"RobotBus", "isAction", "(III)Z"⟩
abbrev w_Bus_isAction : List Cond := Cond.code y_Bus_isAction b_Bus_isAction 3 (some .boolean) :: gtb
abbrev b_Bus_offer : ByteArray := prog_1_method_9_code
def y_Bus_offer : MethodName := ⟨"RobotBus", "offer", "(IIIII)I"⟩
abbrev w_Bus_offer : List Cond := Cond.code y_Bus_offer b_Bus_offer 8 (some .int) :: gtb
abbrev b_Bus_isService : ByteArray := prog_1_method_26_code
def y_Bus_isService : MethodName := ⟨"RobotBus", "isService", "(IIII)Z"⟩
abbrev w_Bus_isService : List Cond := Cond.code y_Bus_isService b_Bus_isService 4 (some .boolean) :: gtb
abbrev b_Bus_call : ByteArray := prog_1_method_10_code
def y_Bus_call : MethodName := ⟨"RobotBus", "call", "(II)I"⟩
abbrev w_Bus_call : List Cond := Cond.code y_Bus_call b_Bus_call 4 (some .int) :: gtb
abbrev b_Bus_ask : ByteArray := prog_1_method_33_code
def y_Bus_ask : MethodName := ⟨"RobotBus", "ask", "(II)I"⟩
abbrev w_Bus_ask : List Cond := Cond.code y_Bus_ask b_Bus_ask 7 (some .int) :: gtb
abbrev b_Bus_compute : ByteArray := prog_1_method_34_code
def y_Bus_compute : MethodName := ⟨"RobotBus", "compute", "(LRobotBus$Service;II)I"⟩
abbrev w_Bus_compute : List Cond := Cond.code y_Bus_compute b_Bus_compute 6 (some .int) :: gtb
abbrev b_Bus_tick : ByteArray := prog_1_method_11_code
def y_Bus_tick : MethodName := ⟨"RobotBus", "tick", "(I)I"⟩
abbrev w_Bus_tick : List Cond := Cond.code y_Bus_tick b_Bus_tick 3 (some .int) :: gtb
abbrev b_Bus_passOneTick : ByteArray := prog_1_method_30_code
def y_Bus_passOneTick : MethodName := ⟨"RobotBus", "passOneTick", "()V"⟩
abbrev w_Bus_passOneTick : List Cond := Cond.code y_Bus_passOneTick b_Bus_passOneTick 3 none :: gtb
abbrev b_Bag_isDue : ByteArray := prog_3_method_5_code
def y_Bag_isDue : MethodName := ⟨"RobotBus$Bag", "isDue", "(I)Z"⟩
abbrev w_Bag_isDue : List Cond := Cond.code y_Bag_isDue b_Bag_isDue 3 (some .boolean) :: gtb
abbrev b_Bag_isPlaying : ByteArray := prog_3_method_4_code
def y_Bag_isPlaying : MethodName := ⟨"RobotBus$Bag", "isPlaying", "()Z"⟩
abbrev w_Bag_isPlaying : List Cond := Cond.code y_Bag_isPlaying b_Bag_isPlaying 1 (some .boolean) :: gtb
abbrev b_Bag_takeNext : ByteArray := prog_3_method_6_code
def y_Bag_takeNext : MethodName := ⟨"RobotBus$Bag", "takeNext", "()I"⟩
abbrev w_Bag_takeNext : List Cond := Cond.code y_Bag_takeNext b_Bag_takeNext 2 (some .int) :: gtb
abbrev b_Bus_spin : ByteArray := prog_1_method_31_code
def y_Bus_spin : MethodName := ⟨"RobotBus", "spin", "(I)V"⟩
abbrev w_Bus_spin : List Cond := Cond.code y_Bus_spin b_Bus_spin 5 none :: gtb
abbrev b_Nod_nextTopic : ByteArray := prog_5_method_3_code
def y_Nod_nextTopic : MethodName := ⟨"RobotBus$Node", "nextTopic", "()I"⟩
abbrev w_Nod_nextTopic : List Cond := Cond.code y_Nod_nextTopic b_Nod_nextTopic 3 (some .int) :: gtb
abbrev b_Nod_takeFrom : ByteArray := prog_5_method_4_code
def y_Nod_takeFrom : MethodName := ⟨"RobotBus$Node", "takeFrom", "(I)I"⟩
abbrev w_Nod_takeFrom : List Cond := Cond.code y_Nod_takeFrom b_Nod_takeFrom 3 (some .int) :: gtb
abbrev b_Que_part : ByteArray := prog_7_method_3_code
def y_Que_part : MethodName := ⟨"RobotBus$Queue", "part", "(II)I"⟩
abbrev w_Que_part : List Cond := Cond.code y_Que_part b_Que_part 3 (some .int) :: gtb
abbrev b_Bus_perform : ByteArray := prog_1_method_32_code
def y_Bus_perform : MethodName := ⟨"RobotBus", "perform", "(ILRobotBus$Action;I)V"⟩
abbrev w_Bus_perform : List Cond := Cond.code y_Bus_perform b_Bus_perform 5 none :: gtb
abbrev b_Bus_variable : ByteArray := prog_1_method_12_code
def y_Bus_variable : MethodName := ⟨"RobotBus", "variable", "(II)I"⟩
abbrev w_Bus_variable : List Cond := Cond.code y_Bus_variable b_Bus_variable 3 (some .int) :: gtb
abbrev b_Bus_queued : ByteArray := prog_1_method_13_code
def y_Bus_queued : MethodName := ⟨"RobotBus", "queued", "(IIII)I"⟩
abbrev w_Bus_queued : List Cond := Cond.code y_Bus_queued b_Bus_queued 6 (some .int) :: gtb
abbrev b_Bus_keep : ByteArray := prog_1_method_14_code
def y_Bus_keep : MethodName := ⟨"RobotBus", "keep", "(IZ)I"⟩
abbrev w_Bus_keep : List Cond := Cond.code y_Bus_keep b_Bus_keep 4 (some .int) :: gtb
abbrev b_Bus_play : ByteArray := prog_1_method_15_code
def y_Bus_play : MethodName := ⟨"RobotBus", "play", "(I)I"⟩
abbrev w_Bus_play : List Cond := Cond.code y_Bus_play b_Bus_play 2 (some .int) :: gtb
abbrev b_Bag_start : ByteArray := prog_3_method_3_code
def y_Bag_start : MethodName := ⟨"RobotBus$Bag", "start", "(II)V"⟩
abbrev w_Bag_start : List Cond := Cond.code y_Bag_start b_Bag_start 3 none :: gtb
abbrev b_Bus_empty : ByteArray := prog_1_method_16_code
def y_Bus_empty : MethodName := ⟨"RobotBus", "empty", "()I"⟩
abbrev w_Bus_empty : List Cond := Cond.code y_Bus_empty b_Bus_empty 2 (some .int) :: gtb
abbrev b_Bus_mount : ByteArray := prog_1_method_17_code
def y_Bus_mount : MethodName := ⟨"RobotBus", "mount", "(II)I"⟩
abbrev w_Bus_mount : List Cond := Cond.code y_Bus_mount b_Bus_mount 4 (some .int) :: gtb
abbrev b_Bus_isAbove : ByteArray := prog_1_method_35_code
def y_Bus_isAbove : MethodName := ⟨"RobotBus", "isAbove", "(II)Z"⟩
abbrev w_Bus_isAbove : List Cond := Cond.code y_Bus_isAbove b_Bus_isAbove 5 (some .boolean) :: gtb
abbrev b_Bus_sample : ByteArray := prog_1_method_18_code
def y_Bus_sample : MethodName := ⟨"RobotBus", "sample", "(IIDDI)I"⟩
abbrev w_Bus_sample : List Cond := Cond.code y_Bus_sample b_Bus_sample 8 (some .int) :: gtb
abbrev b_Bus_isCoordinate : ByteArray := prog_1_method_27_code
def y_Bus_isCoordinate : MethodName := ⟨"RobotBus", "isCoordinate", "(D)Z"⟩
abbrev w_Bus_isCoordinate : List Cond := Cond.code y_Bus_isCoordinate b_Bus_isCoordinate 2 (some .boolean) :: gtb
abbrev b_Bus_toEighths : ByteArray := prog_1_method_28_code
def y_Bus_toEighths : MethodName := ⟨"RobotBus", "toEighths", "(D)I"⟩
abbrev w_Bus_toEighths : List Cond := Cond.code y_Bus_toEighths b_Bus_toEighths 2 (some .int) :: gtb
abbrev b_Frm_isBehindLast : ByteArray := prog_4_method_2_code
def y_Frm_isBehindLast : MethodName := ⟨"RobotBus$Frame", "isBehindLast", "(I)Z"⟩
abbrev w_Frm_isBehindLast : List Cond := Cond.code y_Frm_isBehindLast b_Frm_isBehindLast 2 (some .boolean) :: gtb
abbrev b_Frm_append : ByteArray := prog_4_method_3_code
def y_Frm_append : MethodName := ⟨"RobotBus$Frame", "append", "(IIII)V"⟩
abbrev w_Frm_append : List Cond := Cond.code y_Frm_append b_Frm_append 5 none :: gtb
abbrev b_Frm_dropFirst : ByteArray := prog_4_method_4_code
def y_Frm_dropFirst : MethodName := ⟨"RobotBus$Frame", "dropFirst", "()V"⟩
abbrev w_Frm_dropFirst : List Cond := Cond.code y_Frm_dropFirst b_Frm_dropFirst 1 none :: gtb
abbrev b_Bus_locate : ByteArray := prog_1_method_19_code
def y_Bus_locate : MethodName := ⟨"RobotBus", "locate", "(IIDD)D"⟩
abbrev w_Bus_locate : List Cond := Cond.code y_Bus_locate b_Bus_locate 7 (some .double) :: gtb
abbrev b_Bus_liftToRoot : ByteArray := prog_1_method_36_code
def y_Bus_liftToRoot : MethodName := ⟨"RobotBus", "liftToRoot", "(II)Z"⟩
abbrev w_Bus_liftToRoot : List Cond := Cond.code y_Bus_liftToRoot b_Bus_liftToRoot 6 (some .boolean) :: gtb
abbrev b_Frm_indexAt : ByteArray := prog_4_method_5_code
def y_Frm_indexAt : MethodName := ⟨"RobotBus$Frame", "indexAt", "(I)I"⟩
abbrev w_Frm_indexAt : List Cond := Cond.code y_Frm_indexAt b_Frm_indexAt 4 (some .int) :: gtb
abbrev b_Pnt_lift : ByteArray := prog_6_method_2_code
def y_Pnt_lift : MethodName := ⟨"RobotBus$Point", "lift", "(LRobotBus$Frame;II)V"⟩
abbrev w_Pnt_lift : List Cond := Cond.code y_Pnt_lift b_Pnt_lift 4 none :: gtb
abbrev b_Pnt_turnBy : ByteArray := prog_6_method_3_code
def y_Pnt_turnBy : MethodName := ⟨"RobotBus$Point", "turnBy", "(I)V"⟩
abbrev w_Pnt_turnBy : List Cond := Cond.code y_Pnt_turnBy b_Pnt_turnBy 4 none :: gtb
abbrev b_Frm_between : ByteArray := prog_4_method_6_code
def y_Frm_between : MethodName := ⟨"RobotBus$Frame", "between", "([III)I"⟩
abbrev w_Frm_between : List Cond := Cond.code y_Frm_between b_Frm_between 7 (some .int) :: gtb
abbrev b_Math_floorDiv : ByteArray := prog_16_method_49_code
def y_Math_floorDiv : MethodName := ⟨"java/lang/Math", "floorDiv", "(JJ)J"⟩
abbrev w_Math_floorDiv : List Cond := Cond.code y_Math_floorDiv b_Math_floorDiv 6 (some .long) :: gtb
abbrev b_Bus_count : ByteArray := prog_1_method_21_code
def y_Bus_count : MethodName := ⟨"RobotBus", "count", "(I)I"⟩
abbrev w_Bus_count : List Cond := Cond.code y_Bus_count b_Bus_count 2 (some .int) :: gtb
abbrev b_Mdl_init : ByteArray := prog_11_method_1_code
def y_Mdl_init : MethodName := ⟨"RobotBusModel", "<init>", "()V"⟩
abbrev w_Mdl_init : List Cond := Cond.code y_Mdl_init b_Mdl_init 2 none :: gtb
abbrev b_Mdl_thrown : ByteArray := prog_11_method_2_code
def y_Mdl_thrown : MethodName := ⟨"RobotBusModel", "thrown", "()I"⟩
abbrev w_Mdl_thrown : List Cond := Cond.code y_Mdl_thrown b_Mdl_thrown 1 (some .int) :: gtb
abbrev b_Mdl_join : ByteArray := prog_11_method_6_code
def y_Mdl_join : MethodName := ⟨"RobotBusModel", "join", "(I)I"⟩
abbrev w_Mdl_join : List Cond := Cond.code y_Mdl_join b_Mdl_join 3 (some .int) :: gtb
abbrev b_Mdl_in : ByteArray := prog_11_method_4_code
def y_Mdl_in : MethodName := ⟨"RobotBusModel", "in", "(III)Z"⟩
abbrev w_Mdl_in : List Cond := Cond.code y_Mdl_in b_Mdl_in 3 (some .boolean) :: gtb
abbrev b_Mdl_raise : ByteArray := prog_11_method_3_code
def y_Mdl_raise : MethodName := ⟨"RobotBusModel", "raise", "(I)I"⟩
abbrev w_Mdl_raise : List Cond := Cond.code y_Mdl_raise b_Mdl_raise 2 (some .int) :: gtb
abbrev b_Mdl_leave : ByteArray := prog_11_method_7_code
def y_Mdl_leave : MethodName := ⟨"RobotBusModel", "leave", "(I)I"⟩
abbrev w_Mdl_leave : List Cond := Cond.code y_Mdl_leave b_Mdl_leave 4 (some .int) :: gtb
abbrev b_Mdl_noNode : ByteArray := prog_11_method_5_code
def y_Mdl_noNode : MethodName := ⟨"RobotBusModel", "noNode", "(I)Z"⟩
abbrev w_Mdl_noNode : List Cond := Cond.code y_Mdl_noNode b_Mdl_noNode 2 (some .boolean) :: gtb
abbrev b_Mdl_latch : ByteArray := prog_11_method_8_code
def y_Mdl_latch : MethodName := ⟨"RobotBusModel", "latch", "(IZ)I"⟩
abbrev w_Mdl_latch : List Cond := Cond.code y_Mdl_latch b_Mdl_latch 4 (some .int) :: gtb
abbrev b_Mdl_subscribe : ByteArray := prog_11_method_12_code
def y_Mdl_subscribe : MethodName := ⟨"RobotBusModel", "subscribe", "(III)I"⟩
abbrev w_Mdl_subscribe : List Cond := Cond.code y_Mdl_subscribe b_Mdl_subscribe 6 (some .int) :: gtb
abbrev b_Mdl_put : ByteArray := prog_11_method_10_code
def y_Mdl_put : MethodName := ⟨"RobotBusModel", "put", "(IIII)V"⟩
abbrev w_Mdl_put : List Cond := Cond.code y_Mdl_put b_Mdl_put 6 none :: gtb
abbrev b_Mdl_shift : ByteArray := prog_11_method_9_code
def y_Mdl_shift : MethodName := ⟨"RobotBusModel", "shift", "(I)V"⟩
abbrev w_Mdl_shift : List Cond := Cond.code y_Mdl_shift b_Mdl_shift 3 none :: gtb
abbrev b_Mdl_unsubscribe : ByteArray := prog_11_method_13_code
def y_Mdl_unsubscribe : MethodName := ⟨"RobotBusModel", "unsubscribe", "(II)I"⟩
abbrev w_Mdl_unsubscribe : List Cond := Cond.code y_Mdl_unsubscribe b_Mdl_unsubscribe 5 (some .int) :: gtb
abbrev b_Mdl_publish : ByteArray := prog_11_method_14_code
def y_Mdl_publish : MethodName := ⟨"RobotBusModel", "publish", "(III)I"⟩
abbrev w_Mdl_publish : List Cond := Cond.code y_Mdl_publish b_Mdl_publish 4 (some .int) :: gtb
abbrev b_Mdl_send : ByteArray := prog_11_method_11_code
def y_Mdl_send : MethodName := ⟨"RobotBusModel", "send", "(III)I"⟩
abbrev w_Mdl_send : List Cond := Cond.code y_Mdl_send b_Mdl_send 7 (some .int) :: gtb
abbrev b_Mdl_act : ByteArray := prog_11_method_16_code
def y_Mdl_act : MethodName := ⟨"RobotBusModel", "act", "(IIIII)I"⟩
abbrev w_Mdl_act : List Cond := Cond.code y_Mdl_act b_Mdl_act 8 (some .int) :: gtb
abbrev b_Mdl_actionFits : ByteArray := prog_11_method_15_code
def y_Mdl_actionFits : MethodName := ⟨"RobotBusModel", "actionFits", "(III)Z"⟩
abbrev w_Mdl_actionFits : List Cond := Cond.code y_Mdl_actionFits b_Mdl_actionFits 3 (some .boolean) :: gtb
abbrev b_Mdl_offer : ByteArray := prog_11_method_18_code
def y_Mdl_offer : MethodName := ⟨"RobotBusModel", "offer", "(IIIII)I"⟩
abbrev w_Mdl_offer : List Cond := Cond.code y_Mdl_offer b_Mdl_offer 7 (some .int) :: gtb
abbrev b_Mdl_serviceFits : ByteArray := prog_11_method_17_code
def y_Mdl_serviceFits : MethodName := ⟨"RobotBusModel", "serviceFits", "(IIII)Z"⟩
abbrev w_Mdl_serviceFits : List Cond := Cond.code y_Mdl_serviceFits b_Mdl_serviceFits 4 (some .boolean) :: gtb
abbrev b_Mdl_call : ByteArray := prog_11_method_20_code
def y_Mdl_call : MethodName := ⟨"RobotBusModel", "call", "(II)I"⟩
abbrev w_Mdl_call : List Cond := Cond.code y_Mdl_call b_Mdl_call 4 (some .int) :: gtb
abbrev b_Mdl_ask : ByteArray := prog_11_method_19_code
def y_Mdl_ask : MethodName := ⟨"RobotBusModel", "ask", "(II)I"⟩
abbrev w_Mdl_ask : List Cond := Cond.code y_Mdl_ask b_Mdl_ask 6 (some .int) :: gtb
abbrev b_Mdl_tick : ByteArray := prog_11_method_24_code
def y_Mdl_tick : MethodName := ⟨"RobotBusModel", "tick", "(I)I"⟩
abbrev w_Mdl_tick : List Cond := Cond.code y_Mdl_tick b_Mdl_tick 4 (some .int) :: gtb
abbrev b_Mdl_playDue : ByteArray := prog_11_method_21_code
def y_Mdl_playDue : MethodName := ⟨"RobotBusModel", "playDue", "()V"⟩
abbrev w_Mdl_playDue : List Cond := Cond.code y_Mdl_playDue b_Mdl_playDue 3 none :: gtb
abbrev b_Mdl_spin : ByteArray := prog_11_method_23_code
def y_Mdl_spin : MethodName := ⟨"RobotBusModel", "spin", "(I)V"⟩
abbrev w_Mdl_spin : List Cond := Cond.code y_Mdl_spin b_Mdl_spin 6 none :: gtb
abbrev b_Mdl_perform : ByteArray := prog_11_method_22_code
def y_Mdl_perform : MethodName := ⟨"RobotBusModel", "perform", "(III)V"⟩
abbrev w_Mdl_perform : List Cond := Cond.code y_Mdl_perform b_Mdl_perform 7 none :: gtb
abbrev b_Mdl_variable : ByteArray := prog_11_method_25_code
def y_Mdl_variable : MethodName := ⟨"RobotBusModel", "variable", "(II)I"⟩
abbrev w_Mdl_variable : List Cond := Cond.code y_Mdl_variable b_Mdl_variable 3 (some .int) :: gtb
abbrev b_Mdl_queued : ByteArray := prog_11_method_26_code
def y_Mdl_queued : MethodName := ⟨"RobotBusModel", "queued", "(IIII)I"⟩
abbrev w_Mdl_queued : List Cond := Cond.code y_Mdl_queued b_Mdl_queued 6 (some .int) :: gtb
abbrev b_Mdl_keep : ByteArray := prog_11_method_27_code
def y_Mdl_keep : MethodName := ⟨"RobotBusModel", "keep", "(IZ)I"⟩
abbrev w_Mdl_keep : List Cond := Cond.code y_Mdl_keep b_Mdl_keep 4 (some .int) :: gtb
abbrev b_Mdl_play : ByteArray := prog_11_method_28_code
def y_Mdl_play : MethodName := ⟨"RobotBusModel", "play", "(I)I"⟩
abbrev w_Mdl_play : List Cond := Cond.code y_Mdl_play b_Mdl_play 2 (some .int) :: gtb
abbrev b_Mdl_empty : ByteArray := prog_11_method_29_code
def y_Mdl_empty : MethodName := ⟨"RobotBusModel", "empty", "()I"⟩
abbrev w_Mdl_empty : List Cond := Cond.code y_Mdl_empty b_Mdl_empty 2 (some .int) :: gtb
abbrev b_Mdl_mount : ByteArray := prog_11_method_30_code
def y_Mdl_mount : MethodName := ⟨"RobotBusModel", "mount", "(II)I"⟩
abbrev w_Mdl_mount : List Cond := Cond.code y_Mdl_mount b_Mdl_mount 4 (some .int) :: gtb
abbrev b_Mdl_sample : ByteArray := prog_11_method_32_code
def y_Mdl_sample : MethodName := ⟨"RobotBusModel", "sample", "(IIDDI)I"⟩
abbrev w_Mdl_sample : List Cond := Cond.code y_Mdl_sample b_Mdl_sample 10 (some .int) :: gtb
abbrev b_Mdl_near : ByteArray := prog_11_method_31_code
def y_Mdl_near : MethodName := ⟨"RobotBusModel", "near", "(D)Z"⟩
abbrev w_Mdl_near : List Cond := Cond.code y_Mdl_near b_Mdl_near 2 (some .boolean) :: gtb
abbrev b_Mdl_locate : ByteArray := prog_11_method_35_code
def y_Mdl_locate : MethodName := ⟨"RobotBusModel", "locate", "(IIDD)D"⟩
abbrev w_Mdl_locate : List Cond := Cond.code y_Mdl_locate b_Mdl_locate 8 (some .double) :: gtb
abbrev b_Mdl_rise : ByteArray := prog_11_method_34_code
def y_Mdl_rise : MethodName := ⟨"RobotBusModel", "rise", "(II)Z"⟩
abbrev w_Mdl_rise : List Cond := Cond.code y_Mdl_rise b_Mdl_rise 14 (some .boolean) :: gtb
abbrev b_Mdl_between : ByteArray := prog_11_method_33_code
def y_Mdl_between : MethodName := ⟨"RobotBusModel", "between", "(JJJJ)J"⟩
abbrev w_Mdl_between : List Cond := Cond.code y_Mdl_between b_Mdl_between 10 (some .long) :: gtb
abbrev b_Mdl_lastY : ByteArray := prog_11_method_36_code
def y_Mdl_lastY : MethodName := ⟨"RobotBusModel", "lastY", "()D"⟩
abbrev w_Mdl_lastY : List Cond := Cond.code y_Mdl_lastY b_Mdl_lastY 1 (some .double) :: gtb
abbrev b_Mdl_count : ByteArray := prog_11_method_37_code
def y_Mdl_count : MethodName := ⟨"RobotBusModel", "count", "(I)I"⟩
abbrev w_Mdl_count : List Cond := Cond.code y_Mdl_count b_Mdl_count 2 (some .int) :: gtb
abbrev b_Law_join : ByteArray := method_3_code
def y_Law_join : MethodName := ⟨"RobotBusLaw", "join", "(LRobotBus;I[J)I"⟩
abbrev b_Law_leave : ByteArray := method_4_code
def y_Law_leave : MethodName := ⟨"RobotBusLaw", "leave", "(LRobotBus;I[J)I"⟩
abbrev b_Law_latch : ByteArray := method_5_code
def y_Law_latch : MethodName := ⟨"RobotBusLaw", "latch", "(LRobotBus;IZ[J)I"⟩
abbrev b_Law_subscribe : ByteArray := method_6_code
def y_Law_subscribe : MethodName := ⟨"RobotBusLaw", "subscribe", "(LRobotBus;III[J)I"⟩
abbrev b_Law_unsubscribe : ByteArray := method_7_code
def y_Law_unsubscribe : MethodName := ⟨"RobotBusLaw", "unsubscribe", "(LRobotBus;II[J)I"⟩
abbrev b_Law_publish : ByteArray := method_8_code
def y_Law_publish : MethodName := ⟨"RobotBusLaw", "publish", "(LRobotBus;III[J)I"⟩
abbrev b_Law_act : ByteArray := method_9_code
def y_Law_act : MethodName := ⟨"RobotBusLaw", "act", "(LRobotBus;IIIII[J)I"⟩
abbrev b_Law_offer : ByteArray := method_10_code
def y_Law_offer : MethodName := ⟨"RobotBusLaw", "offer", "(LRobotBus;IIIII[J)I"⟩
abbrev b_Law_call : ByteArray := method_11_code
def y_Law_call : MethodName := ⟨"RobotBusLaw", "call", "(LRobotBus;II[J)I"⟩
abbrev b_Law_tick : ByteArray := method_12_code
def y_Law_tick : MethodName := ⟨"RobotBusLaw", "tick", "(LRobotBus;I[J)I"⟩
abbrev b_Law_variable : ByteArray := method_13_code
def y_Law_variable : MethodName := ⟨"RobotBusLaw", "variable", "(LRobotBus;II[J)I"⟩
abbrev b_Law_queued : ByteArray := method_14_code
def y_Law_queued : MethodName := ⟨"RobotBusLaw", "queued", "(LRobotBus;IIII[J)I"⟩
abbrev b_Law_keep : ByteArray := method_15_code
def y_Law_keep : MethodName := ⟨"RobotBusLaw", "keep", "(LRobotBus;IZ[J)I"⟩
abbrev b_Law_play : ByteArray := method_16_code
def y_Law_play : MethodName := ⟨"RobotBusLaw", "play", "(LRobotBus;I[J)I"⟩
abbrev b_Law_empty : ByteArray := method_17_code
def y_Law_empty : MethodName := ⟨"RobotBusLaw", "empty", "(LRobotBus;[J)I"⟩
abbrev b_Law_mount : ByteArray := method_18_code
def y_Law_mount : MethodName := ⟨"RobotBusLaw", "mount", "(LRobotBus;II[J)I"⟩
abbrev b_Law_sample : ByteArray := method_19_code
def y_Law_sample : MethodName := ⟨"RobotBusLaw", "sample", "(LRobotBus;IIDDI[J)I"⟩
abbrev b_Law_locate : ByteArray := method_20_code
def y_Law_locate : MethodName := ⟨"RobotBusLaw", "locate", "(LRobotBus;IIDD[D)I"⟩
abbrev b_Law_count : ByteArray := method_21_code
def y_Law_count : MethodName := ⟨"RobotBusLaw", "count", "(LRobotBus;I[J)I"⟩
theorem tw_0 : (Cond.initialized "RobotBusLaw") ∈ gtb := gtb_of (tb_1 (List.mem_of_getElem? (i := 0) (by decide +kernel))) (by decide +kernel)
theorem tw_1 : (Cond.initialized "RobotBus") ∈ gtb := gtb_of (tb_1 (List.mem_of_getElem? (i := 1) (by decide +kernel))) (by decide +kernel)
theorem tw_2 : (Cond.initialized "RobotBus$Bag") ∈ gtb := gtb_of (tb_1 (List.mem_of_getElem? (i := 2) (by decide +kernel))) (by decide +kernel)
theorem tw_3 : (Cond.initialized "RobotBus$Point") ∈ gtb := gtb_of (tb_1 (List.mem_of_getElem? (i := 3) (by decide +kernel))) (by decide +kernel)
theorem tw_4 : (Cond.initialized "RobotBus$Node") ∈ gtb := gtb_of (tb_1 (List.mem_of_getElem? (i := 4) (by decide +kernel))) (by decide +kernel)
theorem tw_5 : (Cond.initialized "RobotBus$Queue") ∈ gtb := gtb_of (tb_1 (List.mem_of_getElem? (i := 5) (by decide +kernel))) (by decide +kernel)
theorem tw_6 : (Cond.initialized "RobotBus$Action") ∈ gtb := gtb_of (tb_1 (List.mem_of_getElem? (i := 6) (by decide +kernel))) (by decide +kernel)
theorem tw_7 : (Cond.initialized "RobotBus$Topic") ∈ gtb := gtb_of (tb_1 (List.mem_of_getElem? (i := 7) (by decide +kernel))) (by decide +kernel)
theorem tw_8 : (Cond.initialized "RobotBus$Service") ∈ gtb := gtb_of (tb_1 (List.mem_of_getElem? (i := 8) (by decide +kernel))) (by decide +kernel)
theorem tw_9 : (Cond.initialized "RobotBus$Frame") ∈ gtb := gtb_of (tb_1 (List.mem_of_getElem? (i := 9) (by decide +kernel))) (by decide +kernel)
theorem tw_10 : (Cond.initialized "RobotBusModel") ∈ gtb := gtb_of (tb_1 (List.mem_of_getElem? (i := 10) (by decide +kernel))) (by decide +kernel)
theorem tw_11 : (Cond.initialized "java/lang/Throwable") ∈ gtb := gtb_of (tb_1 (List.mem_of_getElem? (i := 11) (by decide +kernel))) (by decide +kernel)
theorem tw_12 : (Cond.initialized "java/lang/Exception") ∈ gtb := gtb_of (tb_1 (List.mem_of_getElem? (i := 12) (by decide +kernel))) (by decide +kernel)
theorem tw_13 : (Cond.initialized "java/lang/RuntimeException") ∈ gtb := gtb_of (tb_1 (List.mem_of_getElem? (i := 13) (by decide +kernel))) (by decide +kernel)
theorem tw_14 : (Cond.initialized "java/lang/IllegalArgumentException") ∈ gtb := gtb_of (tb_1 (List.mem_of_getElem? (i := 14) (by decide +kernel))) (by decide +kernel)
theorem tw_15 : (Cond.initialized "java/lang/IllegalStateException") ∈ gtb := gtb_of (tb_1 (List.mem_of_getElem? (i := 15) (by decide +kernel))) (by decide +kernel)
theorem tw_16 : (Cond.initialized "java/util/NoSuchElementException") ∈ gtb := gtb_of (tb_1 (List.mem_of_getElem? (i := 16) (by decide +kernel))) (by decide +kernel)
theorem tw_17 : (Cond.initialized "java/lang/Math") ∈ gtb := gtb_of (tb_1 (List.mem_of_getElem? (i := 17) (by decide +kernel))) (by decide +kernel)
theorem tw_18 : (Cond.initialized "java/lang/System") ∈ gtb := gtb_of (tb_1 (List.mem_of_getElem? (i := 18) (by decide +kernel))) (by decide +kernel)
theorem tw_19 : (Cond.initialized "java/lang/ArithmeticException") ∈ gtb := gtb_of (tb_1 (List.mem_of_getElem? (i := 19) (by decide +kernel))) (by decide +kernel)
theorem tw_20 : (Cond.initialized "java/lang/UnsupportedOperationException") ∈ gtb := gtb_of (tb_1 (List.mem_of_getElem? (i := 20) (by decide +kernel))) (by decide +kernel)
theorem tw_21 : (Cond.classLink "RobotBusLaw" 8 "RobotBus") ∈ gtb := gtb_of (tb_1 (List.mem_of_getElem? (i := 21) (by decide +kernel))) (by decide +kernel)
theorem tw_22 : (Cond.instantiable "RobotBus" 13) ∈ gtb := gtb_of (tb_1 (List.mem_of_getElem? (i := 22) (by decide +kernel))) (by decide +kernel)
theorem tw_23 : (Cond.methodLink "RobotBusLaw" 85 y_Bus_init) ∈ gtb := gtb_of (tb_1 (List.mem_of_getElem? (i := 23) (by decide +kernel))) (by decide +kernel)
theorem tw_24 : (Cond.instanceMethod y_Bus_init) ∈ gtb := gtb_of (tb_1 (List.mem_of_getElem? (i := 24) (by decide +kernel))) (by decide +kernel)
theorem tw_25 : (Cond.code y_Bus_init prog_1_method_1_code 2 (Option.none : Option Jvm.ClassFile.FieldType)) ∈ gtb := gtb_of (tb_1 (List.mem_of_getElem? (i := 25) rfl)) rfl
theorem tw_26 : (Cond.methodLink "RobotBus" 1 ({ cls := "java/lang/Object", name := "<init>", desc := "()V" } : MethodName)) ∈ gtb := gtb_of (tb_1 (List.mem_of_getElem? (i := 26) (by decide +kernel))) (by decide +kernel)
theorem tw_27 : (Cond.instanceMethod ({ cls := "java/lang/Object", name := "<init>", desc := "()V" } : MethodName)) ∈ gtb := gtb_of (tb_1 (List.mem_of_getElem? (i := 27) (by decide +kernel))) (by decide +kernel)
theorem tw_28 : (Cond.code ({ cls := "java/lang/Object", name := "<init>", desc := "()V" } : MethodName) object_method_1_code 1 (Option.none : Option Jvm.ClassFile.FieldType)) ∈ gtb := gtb_of (tb_1 (List.mem_of_getElem? (i := 28) rfl)) rfl
theorem tw_29 : (Cond.classLink "RobotBus" 9 "RobotBus$Node") ∈ gtb := gtb_of (tb_1 (List.mem_of_getElem? (i := 29) (by decide +kernel))) (by decide +kernel)
theorem tw_31 : (Cond.classLink "RobotBus" 15 "RobotBus$Topic") ∈ gtb := gtb_of (tb_1 (List.mem_of_getElem? (i := 31) (by decide +kernel))) (by decide +kernel)
theorem tw_33 : (Cond.classLink "RobotBus" 21 "RobotBus$Service") ∈ gtb := gtb_of (tb_1 (List.mem_of_getElem? (i := 33) (by decide +kernel))) (by decide +kernel)
theorem tw_35 : (Cond.classLink "RobotBus" 27 "RobotBus$Frame") ∈ gtb := gtb_of (tb_1 (List.mem_of_getElem? (i := 35) (by decide +kernel))) (by decide +kernel)
theorem tw_37 : (Cond.classLink "RobotBus" 33 "RobotBus$Bag") ∈ gtb := gtb_of (tb_1 (List.mem_of_getElem? (i := 37) (by decide +kernel))) (by decide +kernel)
theorem tw_38 : (Cond.instantiable "RobotBus$Bag" 8) ∈ gtb := gtb_of (tb_1 (List.mem_of_getElem? (i := 38) (by decide +kernel))) (by decide +kernel)
theorem tw_40 : (Cond.instanceMethod y_Bag_init) ∈ gtb := gtb_of (tb_1 (List.mem_of_getElem? (i := 40) (by decide +kernel))) (by decide +kernel)
theorem tw_41 : (Cond.code y_Bag_init prog_3_method_1_code 1 (Option.none : Option Jvm.ClassFile.FieldType)) ∈ gtb := gtb_of (tb_1 (List.mem_of_getElem? (i := 41) rfl)) rfl
theorem tw_42 : (Cond.methodLink "RobotBus$Bag" 3 ({ cls := "java/lang/Object", name := "<init>", desc := "()V" } : MethodName)) ∈ gtb := gtb_of (tb_1 (List.mem_of_getElem? (i := 42) (by decide +kernel))) (by decide +kernel)
theorem tw_43 : (Cond.fieldLink "RobotBus$Bag" 9 "RobotBus$Bag" "times" "[I") ∈ gtb := gtb_of (tb_1 (List.mem_of_getElem? (i := 43) (by decide +kernel))) (by decide +kernel)
theorem tw_44 : (Cond.fieldLink "RobotBus$Bag" 15 "RobotBus$Bag" "topics" "[I") ∈ gtb := gtb_of (tb_1 (List.mem_of_getElem? (i := 44) (by decide +kernel))) (by decide +kernel)
theorem tw_45 : (Cond.fieldLink "RobotBus" 315 "RobotBus$Bag" "topics" "[I") ∈ gtb := gtb_of (tb_1 (List.mem_of_getElem? (i := 45) (by decide +kernel))) (by decide +kernel)
theorem tw_46 : (Cond.fieldLink "RobotBus$Bag" 18 "RobotBus$Bag" "values" "[I") ∈ gtb := gtb_of (tb_1 (List.mem_of_getElem? (i := 46) (by decide +kernel))) (by decide +kernel)
theorem tw_47 : (Cond.fieldLink "RobotBus" 317 "RobotBus$Bag" "values" "[I") ∈ gtb := gtb_of (tb_1 (List.mem_of_getElem? (i := 47) (by decide +kernel))) (by decide +kernel)
theorem tw_48 : (Cond.fieldLink "RobotBus$Bag" 21 "RobotBus$Bag" "size" "I") ∈ gtb := gtb_of (tb_1 (List.mem_of_getElem? (i := 48) (by decide +kernel))) (by decide +kernel)
theorem tw_49 : (Cond.fieldLink "RobotBus" 238 "RobotBus$Bag" "size" "I") ∈ gtb := gtb_of (tb_1 (List.mem_of_getElem? (i := 49) (by decide +kernel))) (by decide +kernel)
theorem tw_50 : (Cond.fieldLink "RobotBus$Bag" 25 "RobotBus$Bag" "next" "I") ∈ gtb := gtb_of (tb_1 (List.mem_of_getElem? (i := 50) (by decide +kernel))) (by decide +kernel)
theorem tw_51 : (Cond.fieldLink "RobotBus$Bag" 28 "RobotBus$Bag" "end" "I") ∈ gtb := gtb_of (tb_1 (List.mem_of_getElem? (i := 51) (by decide +kernel))) (by decide +kernel)
theorem tw_52 : (Cond.fieldLink "RobotBus$Bag" 31 "RobotBus$Bag" "startClock" "I") ∈ gtb := gtb_of (tb_1 (List.mem_of_getElem? (i := 52) (by decide +kernel))) (by decide +kernel)
theorem tw_53 : (Cond.fieldLink "RobotBus$Bag" 34 "RobotBus$Bag" "pace" "I") ∈ gtb := gtb_of (tb_1 (List.mem_of_getElem? (i := 53) (by decide +kernel))) (by decide +kernel)
theorem tw_54 : (Cond.laysFinal "RobotBus$Bag" "RobotBus$Bag" "times" "[I") ∈ gtb := gtb_of (tb_1 (List.mem_of_getElem? (i := 54) (by decide +kernel))) (by decide +kernel)
theorem tw_56 : (Cond.laysFinal "RobotBus$Bag" "RobotBus$Bag" "topics" "[I") ∈ gtb := gtb_of (tb_1 (List.mem_of_getElem? (i := 56) (by decide +kernel))) (by decide +kernel)
theorem tw_58 : (Cond.laysFinal "RobotBus$Bag" "RobotBus$Bag" "values" "[I") ∈ gtb := gtb_of (tb_1 (List.mem_of_getElem? (i := 58) (by decide +kernel))) (by decide +kernel)
theorem tw_60 : (Cond.lays "RobotBus$Bag" "RobotBus$Bag" "size" "I") ∈ gtb := gtb_of (tb_1 (List.mem_of_getElem? (i := 60) (by decide +kernel))) (by decide +kernel)
theorem tw_62 : (Cond.lays "RobotBus$Bag" "RobotBus$Bag" "next" "I") ∈ gtb := gtb_of (tb_1 (List.mem_of_getElem? (i := 62) (by decide +kernel))) (by decide +kernel)
theorem tw_64 : (Cond.lays "RobotBus$Bag" "RobotBus$Bag" "end" "I") ∈ gtb := gtb_of (tb_1 (List.mem_of_getElem? (i := 64) (by decide +kernel))) (by decide +kernel)
theorem tw_66 : (Cond.lays "RobotBus$Bag" "RobotBus$Bag" "startClock" "I") ∈ gtb := gtb_of (tb_1 (List.mem_of_getElem? (i := 66) (by decide +kernel))) (by decide +kernel)
theorem tw_68 : (Cond.lays "RobotBus$Bag" "RobotBus$Bag" "pace" "I") ∈ gtb := gtb_of (tb_1 (List.mem_of_getElem? (i := 68) (by decide +kernel))) (by decide +kernel)
theorem tw_71 : (Cond.arrayClass FieldType.int) ∈ gtb := gtb_of (tb_1 (List.mem_of_getElem? (i := 71) (by decide +kernel))) (by decide +kernel)
theorem tw_72 : (Cond.classLink "RobotBus" 40 "RobotBus$Point") ∈ gtb := gtb_of (tb_1 (List.mem_of_getElem? (i := 72) (by decide +kernel))) (by decide +kernel)
theorem tw_73 : (Cond.instantiable "RobotBus$Point" 2) ∈ gtb := gtb_of (tb_1 (List.mem_of_getElem? (i := 73) (by decide +kernel))) (by decide +kernel)
theorem tw_75 : (Cond.instanceMethod y_Pnt_init) ∈ gtb := gtb_of (tb_1 (List.mem_of_getElem? (i := 75) (by decide +kernel))) (by decide +kernel)
theorem tw_76 : (Cond.code y_Pnt_init prog_6_method_1_code 1 (Option.none : Option Jvm.ClassFile.FieldType)) ∈ gtb := gtb_of (tb_1 (List.mem_of_getElem? (i := 76) rfl)) rfl
theorem tw_77 : (Cond.methodLink "RobotBus$Point" 1 ({ cls := "java/lang/Object", name := "<init>", desc := "()V" } : MethodName)) ∈ gtb := gtb_of (tb_1 (List.mem_of_getElem? (i := 77) (by decide +kernel))) (by decide +kernel)
theorem tw_78 : (Cond.fieldLink "RobotBus$Point" 7 "RobotBus$Point" "x" "I") ∈ gtb := gtb_of (tb_1 (List.mem_of_getElem? (i := 78) (by decide +kernel))) (by decide +kernel)
theorem tw_79 : (Cond.fieldLink "RobotBus" 284 "RobotBus$Point" "x" "I") ∈ gtb := gtb_of (tb_1 (List.mem_of_getElem? (i := 79) (by decide +kernel))) (by decide +kernel)
theorem tw_80 : (Cond.fieldLink "RobotBus$Point" 13 "RobotBus$Point" "y" "I") ∈ gtb := gtb_of (tb_1 (List.mem_of_getElem? (i := 80) (by decide +kernel))) (by decide +kernel)
theorem tw_81 : (Cond.fieldLink "RobotBus" 287 "RobotBus$Point" "y" "I") ∈ gtb := gtb_of (tb_1 (List.mem_of_getElem? (i := 81) (by decide +kernel))) (by decide +kernel)
theorem tw_82 : (Cond.lays "RobotBus$Point" "RobotBus$Point" "x" "I") ∈ gtb := gtb_of (tb_1 (List.mem_of_getElem? (i := 82) (by decide +kernel))) (by decide +kernel)
theorem tw_84 : (Cond.lays "RobotBus$Point" "RobotBus$Point" "y" "I") ∈ gtb := gtb_of (tb_1 (List.mem_of_getElem? (i := 84) (by decide +kernel))) (by decide +kernel)
theorem tw_87 : (Cond.instantiable "RobotBus$Node" 5) ∈ gtb := gtb_of (tb_1 (List.mem_of_getElem? (i := 87) (by decide +kernel))) (by decide +kernel)
theorem tw_88 : (Cond.methodLink "RobotBus" 70 y_Nod_init) ∈ gtb := gtb_of (tb_1 (List.mem_of_getElem? (i := 88) (by decide +kernel))) (by decide +kernel)
theorem tw_89 : (Cond.instanceMethod y_Nod_init) ∈ gtb := gtb_of (tb_1 (List.mem_of_getElem? (i := 89) (by decide +kernel))) (by decide +kernel)
theorem tw_90 : (Cond.code y_Nod_init prog_5_method_1_code 2 (Option.none : Option Jvm.ClassFile.FieldType)) ∈ gtb := gtb_of (tb_1 (List.mem_of_getElem? (i := 90) rfl)) rfl
theorem tw_91 : (Cond.methodLink "RobotBus$Node" 3 ({ cls := "java/lang/Object", name := "<init>", desc := "()V" } : MethodName)) ∈ gtb := gtb_of (tb_1 (List.mem_of_getElem? (i := 91) (by decide +kernel))) (by decide +kernel)
theorem tw_92 : (Cond.classLink "RobotBus$Node" 15 "RobotBus$Queue") ∈ gtb := gtb_of (tb_1 (List.mem_of_getElem? (i := 92) (by decide +kernel))) (by decide +kernel)
theorem tw_94 : (Cond.classLink "RobotBus$Node" 21 "RobotBus$Action") ∈ gtb := gtb_of (tb_1 (List.mem_of_getElem? (i := 94) (by decide +kernel))) (by decide +kernel)
theorem tw_96 : (Cond.instantiable "RobotBus$Queue" 3) ∈ gtb := gtb_of (tb_1 (List.mem_of_getElem? (i := 96) (by decide +kernel))) (by decide +kernel)
theorem tw_98 : (Cond.instanceMethod y_Que_init) ∈ gtb := gtb_of (tb_1 (List.mem_of_getElem? (i := 98) (by decide +kernel))) (by decide +kernel)
theorem tw_99 : (Cond.code y_Que_init prog_7_method_1_code 1 (Option.none : Option Jvm.ClassFile.FieldType)) ∈ gtb := gtb_of (tb_1 (List.mem_of_getElem? (i := 99) rfl)) rfl
theorem tw_100 : (Cond.methodLink "RobotBus$Queue" 3 ({ cls := "java/lang/Object", name := "<init>", desc := "()V" } : MethodName)) ∈ gtb := gtb_of (tb_1 (List.mem_of_getElem? (i := 100) (by decide +kernel))) (by decide +kernel)
theorem tw_101 : (Cond.fieldLink "RobotBus$Queue" 11 "RobotBus$Queue" "cells" "[I") ∈ gtb := gtb_of (tb_1 (List.mem_of_getElem? (i := 101) (by decide +kernel))) (by decide +kernel)
theorem tw_102 : (Cond.fieldLink "RobotBus$Queue" 15 "RobotBus$Queue" "depth" "I") ∈ gtb := gtb_of (tb_1 (List.mem_of_getElem? (i := 102) (by decide +kernel))) (by decide +kernel)
theorem tw_103 : (Cond.fieldLink "RobotBus$Queue" 19 "RobotBus$Queue" "size" "I") ∈ gtb := gtb_of (tb_1 (List.mem_of_getElem? (i := 103) (by decide +kernel))) (by decide +kernel)
theorem tw_104 : (Cond.fieldLink "RobotBus$Node" 44 "RobotBus$Queue" "size" "I") ∈ gtb := gtb_of (tb_1 (List.mem_of_getElem? (i := 104) (by decide +kernel))) (by decide +kernel)
theorem tw_105 : (Cond.fieldLink "RobotBus" 151 "RobotBus$Queue" "size" "I") ∈ gtb := gtb_of (tb_1 (List.mem_of_getElem? (i := 105) (by decide +kernel))) (by decide +kernel)
theorem tw_106 : (Cond.laysFinal "RobotBus$Queue" "RobotBus$Queue" "cells" "[I") ∈ gtb := gtb_of (tb_1 (List.mem_of_getElem? (i := 106) (by decide +kernel))) (by decide +kernel)
theorem tw_108 : (Cond.lays "RobotBus$Queue" "RobotBus$Queue" "depth" "I") ∈ gtb := gtb_of (tb_1 (List.mem_of_getElem? (i := 108) (by decide +kernel))) (by decide +kernel)
theorem tw_110 : (Cond.lays "RobotBus$Queue" "RobotBus$Queue" "size" "I") ∈ gtb := gtb_of (tb_1 (List.mem_of_getElem? (i := 110) (by decide +kernel))) (by decide +kernel)
theorem tw_113 : (Cond.instantiable "RobotBus$Action" 3) ∈ gtb := gtb_of (tb_1 (List.mem_of_getElem? (i := 113) (by decide +kernel))) (by decide +kernel)
theorem tw_115 : (Cond.instanceMethod y_Act_init) ∈ gtb := gtb_of (tb_1 (List.mem_of_getElem? (i := 115) (by decide +kernel))) (by decide +kernel)
theorem tw_116 : (Cond.code y_Act_init prog_2_method_1_code 1 (Option.none : Option Jvm.ClassFile.FieldType)) ∈ gtb := gtb_of (tb_1 (List.mem_of_getElem? (i := 116) rfl)) rfl
theorem tw_117 : (Cond.methodLink "RobotBus$Action" 3 ({ cls := "java/lang/Object", name := "<init>", desc := "()V" } : MethodName)) ∈ gtb := gtb_of (tb_1 (List.mem_of_getElem? (i := 117) (by decide +kernel))) (by decide +kernel)
theorem tw_118 : (Cond.fieldLink "RobotBus$Action" 9 "RobotBus$Action" "kind" "I") ∈ gtb := gtb_of (tb_1 (List.mem_of_getElem? (i := 118) (by decide +kernel))) (by decide +kernel)
theorem tw_119 : (Cond.fieldLink "RobotBus$Node" 41 "RobotBus$Action" "kind" "I") ∈ gtb := gtb_of (tb_1 (List.mem_of_getElem? (i := 119) (by decide +kernel))) (by decide +kernel)
theorem tw_120 : (Cond.fieldLink "RobotBus" 171 "RobotBus$Action" "kind" "I") ∈ gtb := gtb_of (tb_1 (List.mem_of_getElem? (i := 120) (by decide +kernel))) (by decide +kernel)
theorem tw_121 : (Cond.fieldLink "RobotBus$Action" 15 "RobotBus$Action" "a" "I") ∈ gtb := gtb_of (tb_1 (List.mem_of_getElem? (i := 121) (by decide +kernel))) (by decide +kernel)
theorem tw_122 : (Cond.fieldLink "RobotBus" 176 "RobotBus$Action" "a" "I") ∈ gtb := gtb_of (tb_1 (List.mem_of_getElem? (i := 122) (by decide +kernel))) (by decide +kernel)
theorem tw_123 : (Cond.fieldLink "RobotBus$Action" 18 "RobotBus$Action" "b" "I") ∈ gtb := gtb_of (tb_1 (List.mem_of_getElem? (i := 123) (by decide +kernel))) (by decide +kernel)
theorem tw_124 : (Cond.fieldLink "RobotBus" 179 "RobotBus$Action" "b" "I") ∈ gtb := gtb_of (tb_1 (List.mem_of_getElem? (i := 124) (by decide +kernel))) (by decide +kernel)
theorem tw_125 : (Cond.lays "RobotBus$Action" "RobotBus$Action" "kind" "I") ∈ gtb := gtb_of (tb_1 (List.mem_of_getElem? (i := 125) (by decide +kernel))) (by decide +kernel)
theorem tw_127 : (Cond.lays "RobotBus$Action" "RobotBus$Action" "a" "I") ∈ gtb := gtb_of (tb_1 (List.mem_of_getElem? (i := 127) (by decide +kernel))) (by decide +kernel)
theorem tw_129 : (Cond.lays "RobotBus$Action" "RobotBus$Action" "b" "I") ∈ gtb := gtb_of (tb_1 (List.mem_of_getElem? (i := 129) (by decide +kernel))) (by decide +kernel)
theorem tw_132 : (Cond.fieldLink "RobotBus$Node" 9 "RobotBus$Node" "variables" "[I") ∈ gtb := gtb_of (tb_1 (List.mem_of_getElem? (i := 132) (by decide +kernel))) (by decide +kernel)
theorem tw_133 : (Cond.fieldLink "RobotBus" 215 "RobotBus$Node" "variables" "[I") ∈ gtb := gtb_of (tb_1 (List.mem_of_getElem? (i := 133) (by decide +kernel))) (by decide +kernel)
theorem tw_134 : (Cond.fieldLink "RobotBus$Node" 17 "RobotBus$Node" "queues" "[LRobotBus$Queue;") ∈ gtb := gtb_of (tb_1 (List.mem_of_getElem? (i := 134) (by decide +kernel))) (by decide +kernel)
theorem tw_135 : (Cond.fieldLink "RobotBus" 121 "RobotBus$Node" "queues" "[LRobotBus$Queue;") ∈ gtb := gtb_of (tb_1 (List.mem_of_getElem? (i := 135) (by decide +kernel))) (by decide +kernel)
theorem tw_136 : (Cond.fieldLink "RobotBus$Node" 23 "RobotBus$Node" "actions" "[LRobotBus$Action;") ∈ gtb := gtb_of (tb_1 (List.mem_of_getElem? (i := 136) (by decide +kernel))) (by decide +kernel)
theorem tw_137 : (Cond.fieldLink "RobotBus" 167 "RobotBus$Node" "actions" "[LRobotBus$Action;") ∈ gtb := gtb_of (tb_1 (List.mem_of_getElem? (i := 137) (by decide +kernel))) (by decide +kernel)
theorem tw_138 : (Cond.fieldLink "RobotBus$Node" 27 "RobotBus$Node" "present" "Z") ∈ gtb := gtb_of (tb_1 (List.mem_of_getElem? (i := 138) (by decide +kernel))) (by decide +kernel)
theorem tw_139 : (Cond.fieldLink "RobotBus" 85 "RobotBus$Node" "present" "Z") ∈ gtb := gtb_of (tb_1 (List.mem_of_getElem? (i := 139) (by decide +kernel))) (by decide +kernel)
theorem tw_140 : (Cond.fieldLink "RobotBus$Node" 31 "RobotBus$Node" "firstLookedAt" "I") ∈ gtb := gtb_of (tb_1 (List.mem_of_getElem? (i := 140) (by decide +kernel))) (by decide +kernel)
theorem tw_141 : (Cond.laysFinal "RobotBus$Node" "RobotBus$Node" "variables" "[I") ∈ gtb := gtb_of (tb_1 (List.mem_of_getElem? (i := 141) (by decide +kernel))) (by decide +kernel)
theorem tw_143 : (Cond.laysFinal "RobotBus$Node" "RobotBus$Node" "queues" "[LRobotBus$Queue;") ∈ gtb := gtb_of (tb_1 (List.mem_of_getElem? (i := 143) (by decide +kernel))) (by decide +kernel)
theorem tw_145 : (Cond.laysFinal "RobotBus$Node" "RobotBus$Node" "actions" "[LRobotBus$Action;") ∈ gtb := gtb_of (tb_1 (List.mem_of_getElem? (i := 145) (by decide +kernel))) (by decide +kernel)
theorem tw_147 : (Cond.lays "RobotBus$Node" "RobotBus$Node" "present" "Z") ∈ gtb := gtb_of (tb_1 (List.mem_of_getElem? (i := 147) (by decide +kernel))) (by decide +kernel)
theorem tw_149 : (Cond.lays "RobotBus$Node" "RobotBus$Node" "firstLookedAt" "I") ∈ gtb := gtb_of (tb_1 (List.mem_of_getElem? (i := 149) (by decide +kernel))) (by decide +kernel)
theorem tw_152 : (Cond.instantiable "RobotBus$Topic" 6) ∈ gtb := gtb_of (tb_1 (List.mem_of_getElem? (i := 152) (by decide +kernel))) (by decide +kernel)
theorem tw_154 : (Cond.instanceMethod y_Top_init) ∈ gtb := gtb_of (tb_1 (List.mem_of_getElem? (i := 154) (by decide +kernel))) (by decide +kernel)
theorem tw_155 : (Cond.code y_Top_init prog_9_method_1_code 1 (Option.none : Option Jvm.ClassFile.FieldType)) ∈ gtb := gtb_of (tb_1 (List.mem_of_getElem? (i := 155) rfl)) rfl
theorem tw_156 : (Cond.methodLink "RobotBus$Topic" 1 ({ cls := "java/lang/Object", name := "<init>", desc := "()V" } : MethodName)) ∈ gtb := gtb_of (tb_1 (List.mem_of_getElem? (i := 156) (by decide +kernel))) (by decide +kernel)
theorem tw_157 : (Cond.fieldLink "RobotBus$Topic" 7 "RobotBus$Topic" "latched" "Z") ∈ gtb := gtb_of (tb_1 (List.mem_of_getElem? (i := 157) (by decide +kernel))) (by decide +kernel)
theorem tw_158 : (Cond.fieldLink "RobotBus" 112 "RobotBus$Topic" "latched" "Z") ∈ gtb := gtb_of (tb_1 (List.mem_of_getElem? (i := 158) (by decide +kernel))) (by decide +kernel)
theorem tw_159 : (Cond.fieldLink "RobotBus$Topic" 13 "RobotBus$Topic" "recorded" "Z") ∈ gtb := gtb_of (tb_1 (List.mem_of_getElem? (i := 159) (by decide +kernel))) (by decide +kernel)
theorem tw_160 : (Cond.fieldLink "RobotBus" 228 "RobotBus$Topic" "recorded" "Z") ∈ gtb := gtb_of (tb_1 (List.mem_of_getElem? (i := 160) (by decide +kernel))) (by decide +kernel)
theorem tw_161 : (Cond.fieldLink "RobotBus$Topic" 16 "RobotBus$Topic" "hasLast" "Z") ∈ gtb := gtb_of (tb_1 (List.mem_of_getElem? (i := 161) (by decide +kernel))) (by decide +kernel)
theorem tw_162 : (Cond.fieldLink "RobotBus" 135 "RobotBus$Topic" "hasLast" "Z") ∈ gtb := gtb_of (tb_1 (List.mem_of_getElem? (i := 162) (by decide +kernel))) (by decide +kernel)
theorem tw_163 : (Cond.fieldLink "RobotBus$Topic" 19 "RobotBus$Topic" "lastValue" "I") ∈ gtb := gtb_of (tb_1 (List.mem_of_getElem? (i := 163) (by decide +kernel))) (by decide +kernel)
theorem tw_164 : (Cond.fieldLink "RobotBus" 138 "RobotBus$Topic" "lastValue" "I") ∈ gtb := gtb_of (tb_1 (List.mem_of_getElem? (i := 164) (by decide +kernel))) (by decide +kernel)
theorem tw_165 : (Cond.fieldLink "RobotBus$Topic" 23 "RobotBus$Topic" "lastSender" "I") ∈ gtb := gtb_of (tb_1 (List.mem_of_getElem? (i := 165) (by decide +kernel))) (by decide +kernel)
theorem tw_166 : (Cond.fieldLink "RobotBus" 141 "RobotBus$Topic" "lastSender" "I") ∈ gtb := gtb_of (tb_1 (List.mem_of_getElem? (i := 166) (by decide +kernel))) (by decide +kernel)
theorem tw_167 : (Cond.fieldLink "RobotBus$Topic" 26 "RobotBus$Topic" "lastStamp" "I") ∈ gtb := gtb_of (tb_1 (List.mem_of_getElem? (i := 167) (by decide +kernel))) (by decide +kernel)
theorem tw_168 : (Cond.fieldLink "RobotBus" 144 "RobotBus$Topic" "lastStamp" "I") ∈ gtb := gtb_of (tb_1 (List.mem_of_getElem? (i := 168) (by decide +kernel))) (by decide +kernel)
theorem tw_169 : (Cond.lays "RobotBus$Topic" "RobotBus$Topic" "latched" "Z") ∈ gtb := gtb_of (tb_1 (List.mem_of_getElem? (i := 169) (by decide +kernel))) (by decide +kernel)
theorem tw_171 : (Cond.lays "RobotBus$Topic" "RobotBus$Topic" "recorded" "Z") ∈ gtb := gtb_of (tb_1 (List.mem_of_getElem? (i := 171) (by decide +kernel))) (by decide +kernel)
theorem tw_173 : (Cond.lays "RobotBus$Topic" "RobotBus$Topic" "hasLast" "Z") ∈ gtb := gtb_of (tb_1 (List.mem_of_getElem? (i := 173) (by decide +kernel))) (by decide +kernel)
theorem tw_175 : (Cond.lays "RobotBus$Topic" "RobotBus$Topic" "lastValue" "I") ∈ gtb := gtb_of (tb_1 (List.mem_of_getElem? (i := 175) (by decide +kernel))) (by decide +kernel)
theorem tw_177 : (Cond.lays "RobotBus$Topic" "RobotBus$Topic" "lastSender" "I") ∈ gtb := gtb_of (tb_1 (List.mem_of_getElem? (i := 177) (by decide +kernel))) (by decide +kernel)
theorem tw_179 : (Cond.lays "RobotBus$Topic" "RobotBus$Topic" "lastStamp" "I") ∈ gtb := gtb_of (tb_1 (List.mem_of_getElem? (i := 179) (by decide +kernel))) (by decide +kernel)
theorem tw_182 : (Cond.instantiable "RobotBus$Service" 4) ∈ gtb := gtb_of (tb_1 (List.mem_of_getElem? (i := 182) (by decide +kernel))) (by decide +kernel)
theorem tw_184 : (Cond.instanceMethod y_Srv_init) ∈ gtb := gtb_of (tb_1 (List.mem_of_getElem? (i := 184) (by decide +kernel))) (by decide +kernel)
theorem tw_185 : (Cond.code y_Srv_init prog_8_method_1_code 1 (Option.none : Option Jvm.ClassFile.FieldType)) ∈ gtb := gtb_of (tb_1 (List.mem_of_getElem? (i := 185) rfl)) rfl
theorem tw_186 : (Cond.methodLink "RobotBus$Service" 3 ({ cls := "java/lang/Object", name := "<init>", desc := "()V" } : MethodName)) ∈ gtb := gtb_of (tb_1 (List.mem_of_getElem? (i := 186) (by decide +kernel))) (by decide +kernel)
theorem tw_187 : (Cond.fieldLink "RobotBus$Service" 9 "RobotBus$Service" "node" "I") ∈ gtb := gtb_of (tb_1 (List.mem_of_getElem? (i := 187) (by decide +kernel))) (by decide +kernel)
theorem tw_188 : (Cond.fieldLink "RobotBus" 103 "RobotBus$Service" "node" "I") ∈ gtb := gtb_of (tb_1 (List.mem_of_getElem? (i := 188) (by decide +kernel))) (by decide +kernel)
theorem tw_189 : (Cond.fieldLink "RobotBus$Service" 15 "RobotBus$Service" "kind" "I") ∈ gtb := gtb_of (tb_1 (List.mem_of_getElem? (i := 189) (by decide +kernel))) (by decide +kernel)
theorem tw_190 : (Cond.fieldLink "RobotBus" 188 "RobotBus$Service" "kind" "I") ∈ gtb := gtb_of (tb_1 (List.mem_of_getElem? (i := 190) (by decide +kernel))) (by decide +kernel)
theorem tw_191 : (Cond.fieldLink "RobotBus$Service" 18 "RobotBus$Service" "c" "I") ∈ gtb := gtb_of (tb_1 (List.mem_of_getElem? (i := 191) (by decide +kernel))) (by decide +kernel)
theorem tw_192 : (Cond.fieldLink "RobotBus" 189 "RobotBus$Service" "c" "I") ∈ gtb := gtb_of (tb_1 (List.mem_of_getElem? (i := 192) (by decide +kernel))) (by decide +kernel)
theorem tw_193 : (Cond.fieldLink "RobotBus$Service" 21 "RobotBus$Service" "d" "I") ∈ gtb := gtb_of (tb_1 (List.mem_of_getElem? (i := 193) (by decide +kernel))) (by decide +kernel)
theorem tw_194 : (Cond.fieldLink "RobotBus" 192 "RobotBus$Service" "d" "I") ∈ gtb := gtb_of (tb_1 (List.mem_of_getElem? (i := 194) (by decide +kernel))) (by decide +kernel)
theorem tw_195 : (Cond.lays "RobotBus$Service" "RobotBus$Service" "node" "I") ∈ gtb := gtb_of (tb_1 (List.mem_of_getElem? (i := 195) (by decide +kernel))) (by decide +kernel)
theorem tw_197 : (Cond.lays "RobotBus$Service" "RobotBus$Service" "kind" "I") ∈ gtb := gtb_of (tb_1 (List.mem_of_getElem? (i := 197) (by decide +kernel))) (by decide +kernel)
theorem tw_199 : (Cond.lays "RobotBus$Service" "RobotBus$Service" "c" "I") ∈ gtb := gtb_of (tb_1 (List.mem_of_getElem? (i := 199) (by decide +kernel))) (by decide +kernel)
theorem tw_201 : (Cond.lays "RobotBus$Service" "RobotBus$Service" "d" "I") ∈ gtb := gtb_of (tb_1 (List.mem_of_getElem? (i := 201) (by decide +kernel))) (by decide +kernel)
theorem tw_204 : (Cond.instantiable "RobotBus$Frame" 6) ∈ gtb := gtb_of (tb_1 (List.mem_of_getElem? (i := 204) (by decide +kernel))) (by decide +kernel)
theorem tw_206 : (Cond.instanceMethod y_Frm_init) ∈ gtb := gtb_of (tb_1 (List.mem_of_getElem? (i := 206) (by decide +kernel))) (by decide +kernel)
theorem tw_207 : (Cond.code y_Frm_init prog_4_method_1_code 1 (Option.none : Option Jvm.ClassFile.FieldType)) ∈ gtb := gtb_of (tb_1 (List.mem_of_getElem? (i := 207) rfl)) rfl
theorem tw_208 : (Cond.methodLink "RobotBus$Frame" 3 ({ cls := "java/lang/Object", name := "<init>", desc := "()V" } : MethodName)) ∈ gtb := gtb_of (tb_1 (List.mem_of_getElem? (i := 208) (by decide +kernel))) (by decide +kernel)
theorem tw_209 : (Cond.fieldLink "RobotBus$Frame" 9 "RobotBus$Frame" "times" "[I") ∈ gtb := gtb_of (tb_1 (List.mem_of_getElem? (i := 209) (by decide +kernel))) (by decide +kernel)
theorem tw_210 : (Cond.fieldLink "RobotBus$Frame" 15 "RobotBus$Frame" "xs" "[I") ∈ gtb := gtb_of (tb_1 (List.mem_of_getElem? (i := 210) (by decide +kernel))) (by decide +kernel)
theorem tw_211 : (Cond.fieldLink "RobotBus$Point" 26 "RobotBus$Frame" "xs" "[I") ∈ gtb := gtb_of (tb_1 (List.mem_of_getElem? (i := 211) (by decide +kernel))) (by decide +kernel)
theorem tw_212 : (Cond.fieldLink "RobotBus$Frame" 18 "RobotBus$Frame" "ys" "[I") ∈ gtb := gtb_of (tb_1 (List.mem_of_getElem? (i := 212) (by decide +kernel))) (by decide +kernel)
theorem tw_213 : (Cond.fieldLink "RobotBus$Point" 33 "RobotBus$Frame" "ys" "[I") ∈ gtb := gtb_of (tb_1 (List.mem_of_getElem? (i := 213) (by decide +kernel))) (by decide +kernel)
theorem tw_214 : (Cond.fieldLink "RobotBus$Frame" 21 "RobotBus$Frame" "turns" "[I") ∈ gtb := gtb_of (tb_1 (List.mem_of_getElem? (i := 214) (by decide +kernel))) (by decide +kernel)
theorem tw_215 : (Cond.fieldLink "RobotBus$Point" 16 "RobotBus$Frame" "turns" "[I") ∈ gtb := gtb_of (tb_1 (List.mem_of_getElem? (i := 215) (by decide +kernel))) (by decide +kernel)
theorem tw_216 : (Cond.fieldLink "RobotBus$Frame" 24 "RobotBus$Frame" "parent" "I") ∈ gtb := gtb_of (tb_1 (List.mem_of_getElem? (i := 216) (by decide +kernel))) (by decide +kernel)
theorem tw_217 : (Cond.fieldLink "RobotBus" 255 "RobotBus$Frame" "parent" "I") ∈ gtb := gtb_of (tb_1 (List.mem_of_getElem? (i := 217) (by decide +kernel))) (by decide +kernel)
theorem tw_218 : (Cond.fieldLink "RobotBus$Frame" 28 "RobotBus$Frame" "size" "I") ∈ gtb := gtb_of (tb_1 (List.mem_of_getElem? (i := 218) (by decide +kernel))) (by decide +kernel)
theorem tw_219 : (Cond.fieldLink "RobotBus" 258 "RobotBus$Frame" "size" "I") ∈ gtb := gtb_of (tb_1 (List.mem_of_getElem? (i := 219) (by decide +kernel))) (by decide +kernel)
theorem tw_220 : (Cond.laysFinal "RobotBus$Frame" "RobotBus$Frame" "times" "[I") ∈ gtb := gtb_of (tb_1 (List.mem_of_getElem? (i := 220) (by decide +kernel))) (by decide +kernel)
theorem tw_222 : (Cond.laysFinal "RobotBus$Frame" "RobotBus$Frame" "xs" "[I") ∈ gtb := gtb_of (tb_1 (List.mem_of_getElem? (i := 222) (by decide +kernel))) (by decide +kernel)
theorem tw_224 : (Cond.laysFinal "RobotBus$Frame" "RobotBus$Frame" "ys" "[I") ∈ gtb := gtb_of (tb_1 (List.mem_of_getElem? (i := 224) (by decide +kernel))) (by decide +kernel)
theorem tw_226 : (Cond.laysFinal "RobotBus$Frame" "RobotBus$Frame" "turns" "[I") ∈ gtb := gtb_of (tb_1 (List.mem_of_getElem? (i := 226) (by decide +kernel))) (by decide +kernel)
theorem tw_228 : (Cond.lays "RobotBus$Frame" "RobotBus$Frame" "parent" "I") ∈ gtb := gtb_of (tb_1 (List.mem_of_getElem? (i := 228) (by decide +kernel))) (by decide +kernel)
theorem tw_230 : (Cond.lays "RobotBus$Frame" "RobotBus$Frame" "size" "I") ∈ gtb := gtb_of (tb_1 (List.mem_of_getElem? (i := 230) (by decide +kernel))) (by decide +kernel)
theorem tw_233 : (Cond.fieldLink "RobotBus" 11 "RobotBus" "nodes" "[LRobotBus$Node;") ∈ gtb := gtb_of (tb_1 (List.mem_of_getElem? (i := 233) (by decide +kernel))) (by decide +kernel)
theorem tw_234 : (Cond.fieldLink "RobotBus" 17 "RobotBus" "topics" "[LRobotBus$Topic;") ∈ gtb := gtb_of (tb_1 (List.mem_of_getElem? (i := 234) (by decide +kernel))) (by decide +kernel)
theorem tw_235 : (Cond.fieldLink "RobotBus" 23 "RobotBus" "services" "[LRobotBus$Service;") ∈ gtb := gtb_of (tb_1 (List.mem_of_getElem? (i := 235) (by decide +kernel))) (by decide +kernel)
theorem tw_236 : (Cond.fieldLink "RobotBus" 29 "RobotBus" "frames" "[LRobotBus$Frame;") ∈ gtb := gtb_of (tb_1 (List.mem_of_getElem? (i := 236) (by decide +kernel))) (by decide +kernel)
theorem tw_237 : (Cond.fieldLink "RobotBus" 36 "RobotBus" "bag" "LRobotBus$Bag;") ∈ gtb := gtb_of (tb_1 (List.mem_of_getElem? (i := 237) (by decide +kernel))) (by decide +kernel)
theorem tw_238 : (Cond.fieldLink "RobotBus" 43 "RobotBus" "point" "LRobotBus$Point;") ∈ gtb := gtb_of (tb_1 (List.mem_of_getElem? (i := 238) (by decide +kernel))) (by decide +kernel)
theorem tw_239 : (Cond.fieldLink "RobotBus" 47 "RobotBus" "clock" "I") ∈ gtb := gtb_of (tb_1 (List.mem_of_getElem? (i := 239) (by decide +kernel))) (by decide +kernel)
theorem tw_240 : (Cond.fieldLink "RobotBus" 51 "RobotBus" "messagesLost" "I") ∈ gtb := gtb_of (tb_2 (List.mem_of_getElem? (i := 0) (by decide +kernel))) (by decide +kernel)
theorem tw_241 : (Cond.fieldLink "RobotBus" 54 "RobotBus" "messagesPublished" "I") ∈ gtb := gtb_of (tb_2 (List.mem_of_getElem? (i := 1) (by decide +kernel))) (by decide +kernel)
theorem tw_242 : (Cond.fieldLink "RobotBus" 57 "RobotBus" "actionsDone" "I") ∈ gtb := gtb_of (tb_2 (List.mem_of_getElem? (i := 2) (by decide +kernel))) (by decide +kernel)
theorem tw_243 : (Cond.fieldLink "RobotBus" 60 "RobotBus" "asksFailed" "I") ∈ gtb := gtb_of (tb_2 (List.mem_of_getElem? (i := 3) (by decide +kernel))) (by decide +kernel)
theorem tw_244 : (Cond.fieldLink "RobotBus" 63 "RobotBus" "answer" "I") ∈ gtb := gtb_of (tb_2 (List.mem_of_getElem? (i := 4) (by decide +kernel))) (by decide +kernel)
theorem tw_245 : (Cond.fieldLink "RobotBus" 66 "RobotBus" "keptY" "D") ∈ gtb := gtb_of (tb_2 (List.mem_of_getElem? (i := 5) (by decide +kernel))) (by decide +kernel)
theorem tw_246 : (Cond.laysFinal "RobotBus" "RobotBus" "nodes" "[LRobotBus$Node;") ∈ gtb := gtb_of (tb_2 (List.mem_of_getElem? (i := 6) (by decide +kernel))) (by decide +kernel)
theorem tw_248 : (Cond.laysFinal "RobotBus" "RobotBus" "topics" "[LRobotBus$Topic;") ∈ gtb := gtb_of (tb_2 (List.mem_of_getElem? (i := 8) (by decide +kernel))) (by decide +kernel)
theorem tw_250 : (Cond.laysFinal "RobotBus" "RobotBus" "services" "[LRobotBus$Service;") ∈ gtb := gtb_of (tb_2 (List.mem_of_getElem? (i := 10) (by decide +kernel))) (by decide +kernel)
theorem tw_252 : (Cond.laysFinal "RobotBus" "RobotBus" "frames" "[LRobotBus$Frame;") ∈ gtb := gtb_of (tb_2 (List.mem_of_getElem? (i := 12) (by decide +kernel))) (by decide +kernel)
theorem tw_254 : (Cond.laysFinal "RobotBus" "RobotBus" "bag" "LRobotBus$Bag;") ∈ gtb := gtb_of (tb_2 (List.mem_of_getElem? (i := 14) (by decide +kernel))) (by decide +kernel)
theorem tw_256 : (Cond.laysFinal "RobotBus" "RobotBus" "point" "LRobotBus$Point;") ∈ gtb := gtb_of (tb_2 (List.mem_of_getElem? (i := 16) (by decide +kernel))) (by decide +kernel)
theorem tw_258 : (Cond.lays "RobotBus" "RobotBus" "clock" "I") ∈ gtb := gtb_of (tb_2 (List.mem_of_getElem? (i := 18) (by decide +kernel))) (by decide +kernel)
theorem tw_260 : (Cond.lays "RobotBus" "RobotBus" "messagesLost" "I") ∈ gtb := gtb_of (tb_2 (List.mem_of_getElem? (i := 20) (by decide +kernel))) (by decide +kernel)
theorem tw_262 : (Cond.lays "RobotBus" "RobotBus" "messagesPublished" "I") ∈ gtb := gtb_of (tb_2 (List.mem_of_getElem? (i := 22) (by decide +kernel))) (by decide +kernel)
theorem tw_264 : (Cond.lays "RobotBus" "RobotBus" "actionsDone" "I") ∈ gtb := gtb_of (tb_2 (List.mem_of_getElem? (i := 24) (by decide +kernel))) (by decide +kernel)
theorem tw_266 : (Cond.lays "RobotBus" "RobotBus" "asksFailed" "I") ∈ gtb := gtb_of (tb_2 (List.mem_of_getElem? (i := 26) (by decide +kernel))) (by decide +kernel)
theorem tw_268 : (Cond.lays "RobotBus" "RobotBus" "answer" "I") ∈ gtb := gtb_of (tb_2 (List.mem_of_getElem? (i := 28) (by decide +kernel))) (by decide +kernel)
theorem tw_270 : (Cond.lays "RobotBus" "RobotBus" "keptY" "D") ∈ gtb := gtb_of (tb_2 (List.mem_of_getElem? (i := 30) (by decide +kernel))) (by decide +kernel)
theorem tw_273 : (Cond.methodLink "RobotBusLaw" 159 y_Bus_lastY) ∈ gtb := gtb_of (tb_2 (List.mem_of_getElem? (i := 33) (by decide +kernel))) (by decide +kernel)
theorem tw_274 : (Cond.instanceMethod y_Bus_lastY) ∈ gtb := gtb_of (tb_2 (List.mem_of_getElem? (i := 34) (by decide +kernel))) (by decide +kernel)
theorem tw_275 : (Cond.selects "RobotBus" y_Bus_lastY y_Bus_lastY) ∈ gtb := gtb_of (tb_2 (List.mem_of_getElem? (i := 35) (by decide +kernel))) (by decide +kernel)
theorem tw_276 : (Cond.code y_Bus_lastY prog_1_method_20_code 1 (some FieldType.double)) ∈ gtb := gtb_of (tb_2 (List.mem_of_getElem? (i := 36) rfl)) rfl
theorem tw_277 : (Cond.methodLink "RobotBusLaw" 89 y_Law_join) ∈ gtb := gtb_of (tb_2 (List.mem_of_getElem? (i := 37) (by decide +kernel))) (by decide +kernel)
theorem tw_278 : (Cond.static y_Law_join) ∈ gtb := gtb_of (tb_2 (List.mem_of_getElem? (i := 38) (by decide +kernel))) (by decide +kernel)
theorem tw_280 : (Cond.classLink "RobotBusLaw" 13 "java/lang/IllegalArgumentException") ∈ gtb := gtb_of (tb_2 (List.mem_of_getElem? (i := 40) (by decide +kernel))) (by decide +kernel)
theorem tw_281 : (Cond.classLink "RobotBusLaw" 15 "java/lang/IllegalStateException") ∈ gtb := gtb_of (tb_2 (List.mem_of_getElem? (i := 41) (by decide +kernel))) (by decide +kernel)
theorem tw_282 : (Cond.methodLink "RobotBusLaw" 7 y_Bus_join) ∈ gtb := gtb_of (tb_2 (List.mem_of_getElem? (i := 42) (by decide +kernel))) (by decide +kernel)
theorem tw_283 : (Cond.instanceMethod y_Bus_join) ∈ gtb := gtb_of (tb_2 (List.mem_of_getElem? (i := 43) (by decide +kernel))) (by decide +kernel)
theorem tw_284 : (Cond.selects "RobotBus" y_Bus_join y_Bus_join) ∈ gtb := gtb_of (tb_2 (List.mem_of_getElem? (i := 44) (by decide +kernel))) (by decide +kernel)
theorem tw_285 : (Cond.code y_Bus_join prog_1_method_2_code 2 (some FieldType.int)) ∈ gtb := gtb_of (tb_2 (List.mem_of_getElem? (i := 45) rfl)) rfl
theorem tw_286 : (Cond.methodLink "RobotBus" 74 y_Bus_isBelow) ∈ gtb := gtb_of (tb_2 (List.mem_of_getElem? (i := 46) (by decide +kernel))) (by decide +kernel)
theorem tw_287 : (Cond.static y_Bus_isBelow) ∈ gtb := gtb_of (tb_2 (List.mem_of_getElem? (i := 47) (by decide +kernel))) (by decide +kernel)
theorem tw_288 : (Cond.code y_Bus_isBelow prog_1_method_23_code 2 (some FieldType.boolean)) ∈ gtb := gtb_of (tb_2 (List.mem_of_getElem? (i := 48) rfl)) rfl
theorem tw_289 : (Cond.classLink "RobotBus" 78 "java/lang/IllegalArgumentException") ∈ gtb := gtb_of (tb_2 (List.mem_of_getElem? (i := 49) (by decide +kernel))) (by decide +kernel)
theorem tw_290 : (Cond.instantiable "java/lang/IllegalArgumentException" 6) ∈ gtb := gtb_of (tb_2 (List.mem_of_getElem? (i := 50) (by decide +kernel))) (by decide +kernel)
theorem tw_298 : (Cond.selects "java/lang/IllegalArgumentException" ({ cls := "java/lang/Throwable", name := "fillInStackTrace", desc := "(I)Ljava/lang/Throwable;" } : MethodName) ({ cls := "java/lang/Throwable", name := "fillInStackTrace", desc := "(I)Ljava/lang/Throwable;" } : MethodName)) ∈ gtb := gtb_of (tb_2 (List.mem_of_getElem? (i := 58) (by decide +kernel))) (by decide +kernel)
theorem tw_299 : (Cond.selects "java/lang/IllegalArgumentException" ({ cls := "java/lang/Throwable", name := "fillInStackTrace", desc := "()Ljava/lang/Throwable;" } : MethodName) ({ cls := "java/lang/Throwable", name := "fillInStackTrace", desc := "()Ljava/lang/Throwable;" } : MethodName)) ∈ gtb := gtb_of (tb_2 (List.mem_of_getElem? (i := 59) (by decide +kernel))) (by decide +kernel)
theorem tw_300 : (Cond.lays "java/lang/IllegalArgumentException" "java/lang/Throwable" "cause" "Ljava/lang/Throwable;") ∈ gtb := gtb_of (tb_2 (List.mem_of_getElem? (i := 60) (by decide +kernel))) (by decide +kernel)
theorem tw_301 : (Cond.lays "java/lang/Throwable" "java/lang/Throwable" "cause" "Ljava/lang/Throwable;") ∈ gtb := gtb_of (tb_2 (List.mem_of_getElem? (i := 61) (by decide +kernel))) (by decide +kernel)
theorem tw_302 : (Cond.lays "java/lang/IllegalArgumentException" "java/lang/Throwable" "stackTrace" "[Ljava/lang/StackTraceElement;") ∈ gtb := gtb_of (tb_2 (List.mem_of_getElem? (i := 62) (by decide +kernel))) (by decide +kernel)
theorem tw_303 : (Cond.lays "java/lang/Throwable" "java/lang/Throwable" "stackTrace" "[Ljava/lang/StackTraceElement;") ∈ gtb := gtb_of (tb_2 (List.mem_of_getElem? (i := 63) (by decide +kernel))) (by decide +kernel)
theorem tw_304 : (Cond.lays "java/lang/IllegalArgumentException" "java/lang/Throwable" "suppressedExceptions" "Ljava/util/List;") ∈ gtb := gtb_of (tb_2 (List.mem_of_getElem? (i := 64) (by decide +kernel))) (by decide +kernel)
theorem tw_305 : (Cond.lays "java/lang/Throwable" "java/lang/Throwable" "suppressedExceptions" "Ljava/util/List;") ∈ gtb := gtb_of (tb_2 (List.mem_of_getElem? (i := 65) (by decide +kernel))) (by decide +kernel)
theorem tw_306 : (Cond.lays "java/lang/IllegalArgumentException" "java/lang/Throwable" "detailMessage" "Ljava/lang/String;") ∈ gtb := gtb_of (tb_2 (List.mem_of_getElem? (i := 66) (by decide +kernel))) (by decide +kernel)
theorem tw_307 : (Cond.lays "java/lang/Throwable" "java/lang/Throwable" "detailMessage" "Ljava/lang/String;") ∈ gtb := gtb_of (tb_2 (List.mem_of_getElem? (i := 67) (by decide +kernel))) (by decide +kernel)
theorem tw_308 : (Cond.lays "java/lang/IllegalArgumentException" "java/lang/Throwable" "backtrace" "Ljava/lang/Object;") ∈ gtb := gtb_of (tb_2 (List.mem_of_getElem? (i := 68) (by decide +kernel))) (by decide +kernel)
theorem tw_309 : (Cond.lays "java/lang/Throwable" "java/lang/Throwable" "backtrace" "Ljava/lang/Object;") ∈ gtb := gtb_of (tb_2 (List.mem_of_getElem? (i := 69) (by decide +kernel))) (by decide +kernel)
theorem tw_310 : (Cond.fieldLink "java/lang/Throwable" 198 "java/lang/Throwable" "backtrace" "Ljava/lang/Object;") ∈ gtb := gtb_of (tb_2 (List.mem_of_getElem? (i := 70) (by decide +kernel))) (by decide +kernel)
theorem tw_312 : (Cond.instanceMethod ({ cls := "java/lang/Throwable", name := "<init>", desc := "()V" } : MethodName)) ∈ gtb := gtb_of (tb_2 (List.mem_of_getElem? (i := 72) (by decide +kernel))) (by decide +kernel)
theorem tw_313 : (Cond.code ({ cls := "java/lang/Throwable", name := "<init>", desc := "()V" } : MethodName) prog_20_method_1_code 1 (Option.none : Option Jvm.ClassFile.FieldType)) ∈ gtb := gtb_of (tb_2 (List.mem_of_getElem? (i := 73) rfl)) rfl
theorem tw_314 : (Cond.methodLink "java/lang/Throwable" 1 ({ cls := "java/lang/Object", name := "<init>", desc := "()V" } : MethodName)) ∈ gtb := gtb_of (tb_2 (List.mem_of_getElem? (i := 74) (by decide +kernel))) (by decide +kernel)
theorem tw_315 : (Cond.fieldLink "java/lang/Throwable" 13 "java/lang/Throwable" "UNASSIGNED_STACK" "[Ljava/lang/StackTraceElement;") ∈ gtb := gtb_of (tb_2 (List.mem_of_getElem? (i := 75) (by decide +kernel))) (by decide +kernel)
theorem tw_317 : (Cond.fieldLink "java/lang/Throwable" 20 "java/lang/Throwable" "SUPPRESSED_SENTINEL" "Ljava/util/List;") ∈ gtb := gtb_of (tb_2 (List.mem_of_getElem? (i := 77) (by decide +kernel))) (by decide +kernel)
theorem tw_319 : (Cond.methodLink "java/lang/Throwable" 27 ({ cls := "java/lang/Throwable", name := "fillInStackTrace", desc := "()Ljava/lang/Throwable;" } : MethodName)) ∈ gtb := gtb_of (tb_2 (List.mem_of_getElem? (i := 79) (by decide +kernel))) (by decide +kernel)
theorem tw_320 : (Cond.instanceMethod ({ cls := "java/lang/Throwable", name := "fillInStackTrace", desc := "()Ljava/lang/Throwable;" } : MethodName)) ∈ gtb := gtb_of (tb_2 (List.mem_of_getElem? (i := 80) (by decide +kernel))) (by decide +kernel)
theorem tw_322 : (Cond.selects "java/lang/ArithmeticException" ({ cls := "java/lang/Throwable", name := "fillInStackTrace", desc := "()Ljava/lang/Throwable;" } : MethodName) ({ cls := "java/lang/Throwable", name := "fillInStackTrace", desc := "()Ljava/lang/Throwable;" } : MethodName)) ∈ gtb := gtb_of (tb_2 (List.mem_of_getElem? (i := 82) (by decide +kernel))) (by decide +kernel)
theorem tw_323 : (Cond.selects "java/lang/IllegalStateException" ({ cls := "java/lang/Throwable", name := "fillInStackTrace", desc := "()Ljava/lang/Throwable;" } : MethodName) ({ cls := "java/lang/Throwable", name := "fillInStackTrace", desc := "()Ljava/lang/Throwable;" } : MethodName)) ∈ gtb := gtb_of (tb_2 (List.mem_of_getElem? (i := 83) (by decide +kernel))) (by decide +kernel)
theorem tw_324 : (Cond.selects "java/lang/UnsupportedOperationException" ({ cls := "java/lang/Throwable", name := "fillInStackTrace", desc := "()Ljava/lang/Throwable;" } : MethodName) ({ cls := "java/lang/Throwable", name := "fillInStackTrace", desc := "()Ljava/lang/Throwable;" } : MethodName)) ∈ gtb := gtb_of (tb_2 (List.mem_of_getElem? (i := 84) (by decide +kernel))) (by decide +kernel)
theorem tw_325 : (Cond.selects "java/util/NoSuchElementException" ({ cls := "java/lang/Throwable", name := "fillInStackTrace", desc := "()Ljava/lang/Throwable;" } : MethodName) ({ cls := "java/lang/Throwable", name := "fillInStackTrace", desc := "()Ljava/lang/Throwable;" } : MethodName)) ∈ gtb := gtb_of (tb_2 (List.mem_of_getElem? (i := 85) (by decide +kernel))) (by decide +kernel)
theorem tw_327 : (Cond.methodLink "java/lang/Throwable" 202 ({ cls := "java/lang/Throwable", name := "fillInStackTrace", desc := "(I)Ljava/lang/Throwable;" } : MethodName)) ∈ gtb := gtb_of (tb_2 (List.mem_of_getElem? (i := 87) (by decide +kernel))) (by decide +kernel)
theorem tw_329 : (Cond.instanceMethod ({ cls := "java/lang/Throwable", name := "fillInStackTrace", desc := "(I)Ljava/lang/Throwable;" } : MethodName)) ∈ gtb := gtb_of (tb_2 (List.mem_of_getElem? (i := 89) (by decide +kernel))) (by decide +kernel)
theorem tw_330 : (Cond.instantiable "java/lang/Throwable" 6) ∈ gtb := gtb_of (tb_2 (List.mem_of_getElem? (i := 90) (by decide +kernel))) (by decide +kernel)
theorem tw_331 : (Cond.native ({ cls := "java/lang/Throwable", name := "fillInStackTrace", desc := "(I)Ljava/lang/Throwable;" } : MethodName)) ∈ gtb := gtb_of (tb_2 (List.mem_of_getElem? (i := 91) (by decide +kernel))) (by decide +kernel)
theorem tw_333 : (Cond.methodLink "RobotBus" 82 ({ cls := "java/lang/IllegalArgumentException", name := "<init>", desc := "(Ljava/lang/String;)V" } : MethodName)) ∈ gtb := gtb_of (tb_2 (List.mem_of_getElem? (i := 93) (by decide +kernel))) (by decide +kernel)
theorem tw_334 : (Cond.instanceMethod ({ cls := "java/lang/IllegalArgumentException", name := "<init>", desc := "(Ljava/lang/String;)V" } : MethodName)) ∈ gtb := gtb_of (tb_2 (List.mem_of_getElem? (i := 94) (by decide +kernel))) (by decide +kernel)
theorem tw_335 : (Cond.code ({ cls := "java/lang/IllegalArgumentException", name := "<init>", desc := "(Ljava/lang/String;)V" } : MethodName) prog_14_method_2_code 2 (Option.none : Option Jvm.ClassFile.FieldType)) ∈ gtb := gtb_of (tb_2 (List.mem_of_getElem? (i := 95) rfl)) rfl
theorem tw_336 : (Cond.methodLink "java/lang/IllegalArgumentException" 7 ({ cls := "java/lang/RuntimeException", name := "<init>", desc := "(Ljava/lang/String;)V" } : MethodName)) ∈ gtb := gtb_of (tb_2 (List.mem_of_getElem? (i := 96) (by decide +kernel))) (by decide +kernel)
theorem tw_337 : (Cond.instanceMethod ({ cls := "java/lang/RuntimeException", name := "<init>", desc := "(Ljava/lang/String;)V" } : MethodName)) ∈ gtb := gtb_of (tb_2 (List.mem_of_getElem? (i := 97) (by decide +kernel))) (by decide +kernel)
theorem tw_338 : (Cond.code ({ cls := "java/lang/RuntimeException", name := "<init>", desc := "(Ljava/lang/String;)V" } : MethodName) prog_17_method_2_code 2 (Option.none : Option Jvm.ClassFile.FieldType)) ∈ gtb := gtb_of (tb_2 (List.mem_of_getElem? (i := 98) rfl)) rfl
theorem tw_339 : (Cond.methodLink "java/lang/RuntimeException" 7 ({ cls := "java/lang/Exception", name := "<init>", desc := "(Ljava/lang/String;)V" } : MethodName)) ∈ gtb := gtb_of (tb_2 (List.mem_of_getElem? (i := 99) (by decide +kernel))) (by decide +kernel)
theorem tw_340 : (Cond.instanceMethod ({ cls := "java/lang/Exception", name := "<init>", desc := "(Ljava/lang/String;)V" } : MethodName)) ∈ gtb := gtb_of (tb_2 (List.mem_of_getElem? (i := 100) (by decide +kernel))) (by decide +kernel)
theorem tw_341 : (Cond.code ({ cls := "java/lang/Exception", name := "<init>", desc := "(Ljava/lang/String;)V" } : MethodName) prog_13_method_2_code 2 (Option.none : Option Jvm.ClassFile.FieldType)) ∈ gtb := gtb_of (tb_2 (List.mem_of_getElem? (i := 101) rfl)) rfl
theorem tw_342 : (Cond.methodLink "java/lang/Exception" 7 ({ cls := "java/lang/Throwable", name := "<init>", desc := "(Ljava/lang/String;)V" } : MethodName)) ∈ gtb := gtb_of (tb_2 (List.mem_of_getElem? (i := 102) (by decide +kernel))) (by decide +kernel)
theorem tw_343 : (Cond.instanceMethod ({ cls := "java/lang/Throwable", name := "<init>", desc := "(Ljava/lang/String;)V" } : MethodName)) ∈ gtb := gtb_of (tb_2 (List.mem_of_getElem? (i := 103) (by decide +kernel))) (by decide +kernel)
theorem tw_344 : (Cond.code ({ cls := "java/lang/Throwable", name := "<init>", desc := "(Ljava/lang/String;)V" } : MethodName) prog_20_method_2_code 2 (Option.none : Option Jvm.ClassFile.FieldType)) ∈ gtb := gtb_of (tb_2 (List.mem_of_getElem? (i := 104) rfl)) rfl
theorem tw_345 : (Cond.fieldLink "java/lang/Throwable" 198 "java/lang/Throwable" "backtrace" "Ljava/lang/Object;") ∈ gtb := gtb_of (tb_2 (List.mem_of_getElem? (i := 105) (by decide +kernel))) (by decide +kernel)
theorem tw_346 : (Cond.fieldLink "java/lang/Throwable" 31 "java/lang/Throwable" "detailMessage" "Ljava/lang/String;") ∈ gtb := gtb_of (tb_2 (List.mem_of_getElem? (i := 106) (by decide +kernel))) (by decide +kernel)
theorem tw_347 : (Cond.fieldLink "java/lang/Throwable" 7 "java/lang/Throwable" "cause" "Ljava/lang/Throwable;") ∈ gtb := gtb_of (tb_2 (List.mem_of_getElem? (i := 107) (by decide +kernel))) (by decide +kernel)
theorem tw_348 : (Cond.fieldLink "java/lang/Throwable" 17 "java/lang/Throwable" "stackTrace" "[Ljava/lang/StackTraceElement;") ∈ gtb := gtb_of (tb_2 (List.mem_of_getElem? (i := 108) (by decide +kernel))) (by decide +kernel)
theorem tw_349 : (Cond.fieldLink "java/lang/Throwable" 24 "java/lang/Throwable" "suppressedExceptions" "Ljava/util/List;") ∈ gtb := gtb_of (tb_2 (List.mem_of_getElem? (i := 109) (by decide +kernel))) (by decide +kernel)
theorem tw_354 : (Cond.lays "java/lang/IllegalArgumentException" "java/lang/Throwable" "depth" "I") ∈ gtb := gtb_of (tb_2 (List.mem_of_getElem? (i := 114) (by decide +kernel))) (by decide +kernel)
theorem tw_358 : (Cond.arrayClass FieldType.byte) ∈ gtb := gtb_of (tb_2 (List.mem_of_getElem? (i := 118) (by decide +kernel))) (by decide +kernel)
theorem tw_359 : (Cond.classLink "RobotBus" 89 "java/lang/IllegalStateException") ∈ gtb := gtb_of (tb_2 (List.mem_of_getElem? (i := 119) (by decide +kernel))) (by decide +kernel)
theorem tw_360 : (Cond.instantiable "java/lang/IllegalStateException" 6) ∈ gtb := gtb_of (tb_2 (List.mem_of_getElem? (i := 120) (by decide +kernel))) (by decide +kernel)
theorem tw_362 : (Cond.selects "java/lang/IllegalStateException" ({ cls := "java/lang/Throwable", name := "fillInStackTrace", desc := "(I)Ljava/lang/Throwable;" } : MethodName) ({ cls := "java/lang/Throwable", name := "fillInStackTrace", desc := "(I)Ljava/lang/Throwable;" } : MethodName)) ∈ gtb := gtb_of (tb_2 (List.mem_of_getElem? (i := 122) (by decide +kernel))) (by decide +kernel)
theorem tw_363 : (Cond.lays "java/lang/IllegalStateException" "java/lang/Throwable" "cause" "Ljava/lang/Throwable;") ∈ gtb := gtb_of (tb_2 (List.mem_of_getElem? (i := 123) (by decide +kernel))) (by decide +kernel)
theorem tw_364 : (Cond.lays "java/lang/IllegalStateException" "java/lang/Throwable" "stackTrace" "[Ljava/lang/StackTraceElement;") ∈ gtb := gtb_of (tb_2 (List.mem_of_getElem? (i := 124) (by decide +kernel))) (by decide +kernel)
theorem tw_365 : (Cond.lays "java/lang/IllegalStateException" "java/lang/Throwable" "suppressedExceptions" "Ljava/util/List;") ∈ gtb := gtb_of (tb_2 (List.mem_of_getElem? (i := 125) (by decide +kernel))) (by decide +kernel)
theorem tw_366 : (Cond.lays "java/lang/IllegalStateException" "java/lang/Throwable" "detailMessage" "Ljava/lang/String;") ∈ gtb := gtb_of (tb_2 (List.mem_of_getElem? (i := 126) (by decide +kernel))) (by decide +kernel)
theorem tw_367 : (Cond.lays "java/lang/IllegalStateException" "java/lang/Throwable" "backtrace" "Ljava/lang/Object;") ∈ gtb := gtb_of (tb_2 (List.mem_of_getElem? (i := 127) (by decide +kernel))) (by decide +kernel)
theorem tw_369 : (Cond.methodLink "RobotBus" 93 ({ cls := "java/lang/IllegalStateException", name := "<init>", desc := "(Ljava/lang/String;)V" } : MethodName)) ∈ gtb := gtb_of (tb_2 (List.mem_of_getElem? (i := 129) (by decide +kernel))) (by decide +kernel)
theorem tw_370 : (Cond.instanceMethod ({ cls := "java/lang/IllegalStateException", name := "<init>", desc := "(Ljava/lang/String;)V" } : MethodName)) ∈ gtb := gtb_of (tb_2 (List.mem_of_getElem? (i := 130) (by decide +kernel))) (by decide +kernel)
theorem tw_371 : (Cond.code ({ cls := "java/lang/IllegalStateException", name := "<init>", desc := "(Ljava/lang/String;)V" } : MethodName) prog_15_method_2_code 2 (Option.none : Option Jvm.ClassFile.FieldType)) ∈ gtb := gtb_of (tb_2 (List.mem_of_getElem? (i := 131) rfl)) rfl
theorem tw_372 : (Cond.methodLink "java/lang/IllegalStateException" 7 ({ cls := "java/lang/RuntimeException", name := "<init>", desc := "(Ljava/lang/String;)V" } : MethodName)) ∈ gtb := gtb_of (tb_2 (List.mem_of_getElem? (i := 132) (by decide +kernel))) (by decide +kernel)
theorem tw_373 : (Cond.lays "java/lang/IllegalStateException" "java/lang/Throwable" "depth" "I") ∈ gtb := gtb_of (tb_2 (List.mem_of_getElem? (i := 133) (by decide +kernel))) (by decide +kernel)
theorem tw_375 : (Cond.methodLink "RobotBusLaw" 98 y_Law_leave) ∈ gtb := gtb_of (tb_2 (List.mem_of_getElem? (i := 135) (by decide +kernel))) (by decide +kernel)
theorem tw_376 : (Cond.static y_Law_leave) ∈ gtb := gtb_of (tb_2 (List.mem_of_getElem? (i := 136) (by decide +kernel))) (by decide +kernel)
theorem tw_378 : (Cond.classLink "RobotBusLaw" 20 "java/util/NoSuchElementException") ∈ gtb := gtb_of (tb_2 (List.mem_of_getElem? (i := 138) (by decide +kernel))) (by decide +kernel)
theorem tw_379 : (Cond.methodLink "RobotBusLaw" 17 y_Bus_leave) ∈ gtb := gtb_of (tb_2 (List.mem_of_getElem? (i := 139) (by decide +kernel))) (by decide +kernel)
theorem tw_380 : (Cond.instanceMethod y_Bus_leave) ∈ gtb := gtb_of (tb_2 (List.mem_of_getElem? (i := 140) (by decide +kernel))) (by decide +kernel)
theorem tw_381 : (Cond.selects "RobotBus" y_Bus_leave y_Bus_leave) ∈ gtb := gtb_of (tb_2 (List.mem_of_getElem? (i := 141) (by decide +kernel))) (by decide +kernel)
theorem tw_382 : (Cond.code y_Bus_leave prog_1_method_3_code 3 (some FieldType.int)) ∈ gtb := gtb_of (tb_2 (List.mem_of_getElem? (i := 142) rfl)) rfl
theorem tw_383 : (Cond.methodLink "RobotBus" 94 y_Bus_isThere) ∈ gtb := gtb_of (tb_2 (List.mem_of_getElem? (i := 143) (by decide +kernel))) (by decide +kernel)
theorem tw_385 : (Cond.instanceMethod y_Bus_isThere) ∈ gtb := gtb_of (tb_2 (List.mem_of_getElem? (i := 145) (by decide +kernel))) (by decide +kernel)
theorem tw_386 : (Cond.code y_Bus_isThere prog_1_method_24_code 2 (some FieldType.boolean)) ∈ gtb := gtb_of (tb_2 (List.mem_of_getElem? (i := 146) rfl)) rfl
theorem tw_387 : (Cond.classLink "RobotBus" 98 "java/util/NoSuchElementException") ∈ gtb := gtb_of (tb_2 (List.mem_of_getElem? (i := 147) (by decide +kernel))) (by decide +kernel)
theorem tw_388 : (Cond.instantiable "java/util/NoSuchElementException" 6) ∈ gtb := gtb_of (tb_2 (List.mem_of_getElem? (i := 148) (by decide +kernel))) (by decide +kernel)
theorem tw_390 : (Cond.selects "java/util/NoSuchElementException" ({ cls := "java/lang/Throwable", name := "fillInStackTrace", desc := "(I)Ljava/lang/Throwable;" } : MethodName) ({ cls := "java/lang/Throwable", name := "fillInStackTrace", desc := "(I)Ljava/lang/Throwable;" } : MethodName)) ∈ gtb := gtb_of (tb_2 (List.mem_of_getElem? (i := 150) (by decide +kernel))) (by decide +kernel)
theorem tw_391 : (Cond.lays "java/util/NoSuchElementException" "java/lang/Throwable" "cause" "Ljava/lang/Throwable;") ∈ gtb := gtb_of (tb_2 (List.mem_of_getElem? (i := 151) (by decide +kernel))) (by decide +kernel)
theorem tw_392 : (Cond.lays "java/util/NoSuchElementException" "java/lang/Throwable" "stackTrace" "[Ljava/lang/StackTraceElement;") ∈ gtb := gtb_of (tb_2 (List.mem_of_getElem? (i := 152) (by decide +kernel))) (by decide +kernel)
theorem tw_393 : (Cond.lays "java/util/NoSuchElementException" "java/lang/Throwable" "suppressedExceptions" "Ljava/util/List;") ∈ gtb := gtb_of (tb_2 (List.mem_of_getElem? (i := 153) (by decide +kernel))) (by decide +kernel)
theorem tw_394 : (Cond.lays "java/util/NoSuchElementException" "java/lang/Throwable" "detailMessage" "Ljava/lang/String;") ∈ gtb := gtb_of (tb_2 (List.mem_of_getElem? (i := 154) (by decide +kernel))) (by decide +kernel)
theorem tw_395 : (Cond.lays "java/util/NoSuchElementException" "java/lang/Throwable" "backtrace" "Ljava/lang/Object;") ∈ gtb := gtb_of (tb_2 (List.mem_of_getElem? (i := 155) (by decide +kernel))) (by decide +kernel)
theorem tw_397 : (Cond.methodLink "RobotBus" 102 ({ cls := "java/util/NoSuchElementException", name := "<init>", desc := "(Ljava/lang/String;)V" } : MethodName)) ∈ gtb := gtb_of (tb_2 (List.mem_of_getElem? (i := 157) (by decide +kernel))) (by decide +kernel)
theorem tw_398 : (Cond.instanceMethod ({ cls := "java/util/NoSuchElementException", name := "<init>", desc := "(Ljava/lang/String;)V" } : MethodName)) ∈ gtb := gtb_of (tb_2 (List.mem_of_getElem? (i := 158) (by decide +kernel))) (by decide +kernel)
theorem tw_399 : (Cond.code ({ cls := "java/util/NoSuchElementException", name := "<init>", desc := "(Ljava/lang/String;)V" } : MethodName) prog_22_method_4_code 2 (Option.none : Option Jvm.ClassFile.FieldType)) ∈ gtb := gtb_of (tb_2 (List.mem_of_getElem? (i := 159) rfl)) rfl
theorem tw_400 : (Cond.methodLink "java/util/NoSuchElementException" 13 ({ cls := "java/lang/RuntimeException", name := "<init>", desc := "(Ljava/lang/String;)V" } : MethodName)) ∈ gtb := gtb_of (tb_2 (List.mem_of_getElem? (i := 160) (by decide +kernel))) (by decide +kernel)
theorem tw_401 : (Cond.lays "java/util/NoSuchElementException" "java/lang/Throwable" "depth" "I") ∈ gtb := gtb_of (tb_2 (List.mem_of_getElem? (i := 161) (by decide +kernel))) (by decide +kernel)
theorem tw_403 : (Cond.methodLink "RobotBus" 106 y_Nod_reset) ∈ gtb := gtb_of (tb_2 (List.mem_of_getElem? (i := 163) (by decide +kernel))) (by decide +kernel)
theorem tw_404 : (Cond.instanceMethod y_Nod_reset) ∈ gtb := gtb_of (tb_2 (List.mem_of_getElem? (i := 164) (by decide +kernel))) (by decide +kernel)
theorem tw_405 : (Cond.selects "RobotBus$Node" y_Nod_reset y_Nod_reset) ∈ gtb := gtb_of (tb_2 (List.mem_of_getElem? (i := 165) (by decide +kernel))) (by decide +kernel)
theorem tw_406 : (Cond.code y_Nod_reset prog_5_method_2_code 3 (some FieldType.int)) ∈ gtb := gtb_of (tb_2 (List.mem_of_getElem? (i := 166) rfl)) rfl
theorem tw_407 : (Cond.methodLink "RobotBus$Node" 37 y_Que_close) ∈ gtb := gtb_of (tb_2 (List.mem_of_getElem? (i := 167) (by decide +kernel))) (by decide +kernel)
theorem tw_408 : (Cond.instanceMethod y_Que_close) ∈ gtb := gtb_of (tb_2 (List.mem_of_getElem? (i := 168) (by decide +kernel))) (by decide +kernel)
theorem tw_409 : (Cond.selects "RobotBus$Queue" y_Que_close y_Que_close) ∈ gtb := gtb_of (tb_2 (List.mem_of_getElem? (i := 169) (by decide +kernel))) (by decide +kernel)
theorem tw_410 : (Cond.code y_Que_close prog_7_method_4_code 2 (some FieldType.int)) ∈ gtb := gtb_of (tb_2 (List.mem_of_getElem? (i := 170) rfl)) rfl
theorem tw_411 : (Cond.methodLink "RobotBusLaw" 101 y_Law_latch) ∈ gtb := gtb_of (tb_2 (List.mem_of_getElem? (i := 171) (by decide +kernel))) (by decide +kernel)
theorem tw_412 : (Cond.static y_Law_latch) ∈ gtb := gtb_of (tb_2 (List.mem_of_getElem? (i := 172) (by decide +kernel))) (by decide +kernel)
theorem tw_414 : (Cond.methodLink "RobotBusLaw" 22 y_Bus_latch) ∈ gtb := gtb_of (tb_2 (List.mem_of_getElem? (i := 174) (by decide +kernel))) (by decide +kernel)
theorem tw_415 : (Cond.instanceMethod y_Bus_latch) ∈ gtb := gtb_of (tb_2 (List.mem_of_getElem? (i := 175) (by decide +kernel))) (by decide +kernel)
theorem tw_416 : (Cond.selects "RobotBus" y_Bus_latch y_Bus_latch) ∈ gtb := gtb_of (tb_2 (List.mem_of_getElem? (i := 176) (by decide +kernel))) (by decide +kernel)
theorem tw_417 : (Cond.code y_Bus_latch prog_1_method_4_code 4 (some FieldType.int)) ∈ gtb := gtb_of (tb_2 (List.mem_of_getElem? (i := 177) rfl)) rfl
theorem tw_419 : (Cond.methodLink "RobotBusLaw" 105 y_Law_subscribe) ∈ gtb := gtb_of (tb_2 (List.mem_of_getElem? (i := 179) (by decide +kernel))) (by decide +kernel)
theorem tw_420 : (Cond.static y_Law_subscribe) ∈ gtb := gtb_of (tb_2 (List.mem_of_getElem? (i := 180) (by decide +kernel))) (by decide +kernel)
theorem tw_422 : (Cond.methodLink "RobotBusLaw" 26 y_Bus_subscribe) ∈ gtb := gtb_of (tb_2 (List.mem_of_getElem? (i := 182) (by decide +kernel))) (by decide +kernel)
theorem tw_423 : (Cond.instanceMethod y_Bus_subscribe) ∈ gtb := gtb_of (tb_2 (List.mem_of_getElem? (i := 183) (by decide +kernel))) (by decide +kernel)
theorem tw_424 : (Cond.selects "RobotBus" y_Bus_subscribe y_Bus_subscribe) ∈ gtb := gtb_of (tb_2 (List.mem_of_getElem? (i := 184) (by decide +kernel))) (by decide +kernel)
theorem tw_425 : (Cond.code y_Bus_subscribe prog_1_method_5_code 7 (some FieldType.int)) ∈ gtb := gtb_of (tb_2 (List.mem_of_getElem? (i := 185) rfl)) rfl
theorem tw_426 : (Cond.methodLink "RobotBus" 115 y_Bus_isWithin) ∈ gtb := gtb_of (tb_2 (List.mem_of_getElem? (i := 186) (by decide +kernel))) (by decide +kernel)
theorem tw_427 : (Cond.static y_Bus_isWithin) ∈ gtb := gtb_of (tb_2 (List.mem_of_getElem? (i := 187) (by decide +kernel))) (by decide +kernel)
theorem tw_428 : (Cond.code y_Bus_isWithin prog_1_method_22_code 3 (some FieldType.boolean)) ∈ gtb := gtb_of (tb_2 (List.mem_of_getElem? (i := 188) rfl)) rfl
theorem tw_430 : (Cond.methodLink "RobotBus" 125 y_Que_isOpen) ∈ gtb := gtb_of (tb_2 (List.mem_of_getElem? (i := 190) (by decide +kernel))) (by decide +kernel)
theorem tw_431 : (Cond.instanceMethod y_Que_isOpen) ∈ gtb := gtb_of (tb_2 (List.mem_of_getElem? (i := 191) (by decide +kernel))) (by decide +kernel)
theorem tw_432 : (Cond.selects "RobotBus$Queue" y_Que_isOpen y_Que_isOpen) ∈ gtb := gtb_of (tb_2 (List.mem_of_getElem? (i := 192) (by decide +kernel))) (by decide +kernel)
theorem tw_433 : (Cond.code y_Que_isOpen prog_7_method_2_code 1 (some FieldType.boolean)) ∈ gtb := gtb_of (tb_2 (List.mem_of_getElem? (i := 193) rfl)) rfl
theorem tw_434 : (Cond.methodLink "RobotBus" 131 y_Que_deepen) ∈ gtb := gtb_of (tb_2 (List.mem_of_getElem? (i := 194) (by decide +kernel))) (by decide +kernel)
theorem tw_435 : (Cond.instanceMethod y_Que_deepen) ∈ gtb := gtb_of (tb_2 (List.mem_of_getElem? (i := 195) (by decide +kernel))) (by decide +kernel)
theorem tw_436 : (Cond.selects "RobotBus$Queue" y_Que_deepen y_Que_deepen) ∈ gtb := gtb_of (tb_2 (List.mem_of_getElem? (i := 196) (by decide +kernel))) (by decide +kernel)
theorem tw_437 : (Cond.code y_Que_deepen prog_7_method_5_code 3 (some FieldType.int)) ∈ gtb := gtb_of (tb_2 (List.mem_of_getElem? (i := 197) rfl)) rfl
theorem tw_438 : (Cond.methodLink "RobotBus$Queue" 22 y_Math_max) ∈ gtb := gtb_of (tb_2 (List.mem_of_getElem? (i := 198) (by decide +kernel))) (by decide +kernel)
theorem tw_439 : (Cond.static y_Math_max) ∈ gtb := gtb_of (tb_2 (List.mem_of_getElem? (i := 199) (by decide +kernel))) (by decide +kernel)
theorem tw_440 : (Cond.code y_Math_max prog_16_method_65_code 2 (some FieldType.int)) ∈ gtb := gtb_of (tb_2 (List.mem_of_getElem? (i := 200) rfl)) rfl
theorem tw_441 : (Cond.methodLink "RobotBus$Queue" 28 y_Que_dropOldest) ∈ gtb := gtb_of (tb_2 (List.mem_of_getElem? (i := 201) (by decide +kernel))) (by decide +kernel)
theorem tw_442 : (Cond.instanceMethod y_Que_dropOldest) ∈ gtb := gtb_of (tb_2 (List.mem_of_getElem? (i := 202) (by decide +kernel))) (by decide +kernel)
theorem tw_443 : (Cond.selects "RobotBus$Queue" y_Que_dropOldest y_Que_dropOldest) ∈ gtb := gtb_of (tb_2 (List.mem_of_getElem? (i := 203) (by decide +kernel))) (by decide +kernel)
theorem tw_444 : (Cond.code y_Que_dropOldest prog_7_method_7_code 2 (Option.none : Option Jvm.ClassFile.FieldType)) ∈ gtb := gtb_of (tb_2 (List.mem_of_getElem? (i := 204) rfl)) rfl
theorem tw_445 : (Cond.methodLink "RobotBus$Queue" 32 ({ cls := "java/lang/System", name := "arraycopy", desc := "(Ljava/lang/Object;ILjava/lang/Object;II)V" } : MethodName)) ∈ gtb := gtb_of (tb_2 (List.mem_of_getElem? (i := 205) (by decide +kernel))) (by decide +kernel)
theorem tw_446 : (Cond.static ({ cls := "java/lang/System", name := "arraycopy", desc := "(Ljava/lang/Object;ILjava/lang/Object;II)V" } : MethodName)) ∈ gtb := gtb_of (tb_2 (List.mem_of_getElem? (i := 206) (by decide +kernel))) (by decide +kernel)
theorem tw_447 : (Cond.native ({ cls := "java/lang/System", name := "arraycopy", desc := "(Ljava/lang/Object;ILjava/lang/Object;II)V" } : MethodName)) ∈ gtb := gtb_of (tb_2 (List.mem_of_getElem? (i := 207) (by decide +kernel))) (by decide +kernel)
theorem tw_448 : (Cond.methodLink "RobotBus" 147 y_Que_append) ∈ gtb := gtb_of (tb_2 (List.mem_of_getElem? (i := 208) (by decide +kernel))) (by decide +kernel)
theorem tw_449 : (Cond.instanceMethod y_Que_append) ∈ gtb := gtb_of (tb_2 (List.mem_of_getElem? (i := 209) (by decide +kernel))) (by decide +kernel)
theorem tw_450 : (Cond.selects "RobotBus$Queue" y_Que_append y_Que_append) ∈ gtb := gtb_of (tb_2 (List.mem_of_getElem? (i := 210) (by decide +kernel))) (by decide +kernel)
theorem tw_451 : (Cond.code y_Que_append prog_7_method_6_code 6 (some FieldType.int)) ∈ gtb := gtb_of (tb_2 (List.mem_of_getElem? (i := 211) rfl)) rfl
theorem tw_452 : (Cond.methodLink "RobotBusLaw" 109 y_Law_unsubscribe) ∈ gtb := gtb_of (tb_2 (List.mem_of_getElem? (i := 212) (by decide +kernel))) (by decide +kernel)
theorem tw_453 : (Cond.static y_Law_unsubscribe) ∈ gtb := gtb_of (tb_2 (List.mem_of_getElem? (i := 213) (by decide +kernel))) (by decide +kernel)
theorem tw_455 : (Cond.methodLink "RobotBusLaw" 30 y_Bus_unsubscribe) ∈ gtb := gtb_of (tb_2 (List.mem_of_getElem? (i := 215) (by decide +kernel))) (by decide +kernel)
theorem tw_456 : (Cond.instanceMethod y_Bus_unsubscribe) ∈ gtb := gtb_of (tb_2 (List.mem_of_getElem? (i := 216) (by decide +kernel))) (by decide +kernel)
theorem tw_457 : (Cond.selects "RobotBus" y_Bus_unsubscribe y_Bus_unsubscribe) ∈ gtb := gtb_of (tb_2 (List.mem_of_getElem? (i := 217) (by decide +kernel))) (by decide +kernel)
theorem tw_458 : (Cond.code y_Bus_unsubscribe prog_1_method_6_code 3 (some FieldType.int)) ∈ gtb := gtb_of (tb_2 (List.mem_of_getElem? (i := 218) rfl)) rfl
theorem tw_460 : (Cond.methodLink "RobotBus" 156 y_Que_close) ∈ gtb := gtb_of (tb_2 (List.mem_of_getElem? (i := 220) (by decide +kernel))) (by decide +kernel)
theorem tw_461 : (Cond.methodLink "RobotBusLaw" 113 y_Law_publish) ∈ gtb := gtb_of (tb_2 (List.mem_of_getElem? (i := 221) (by decide +kernel))) (by decide +kernel)
theorem tw_462 : (Cond.static y_Law_publish) ∈ gtb := gtb_of (tb_2 (List.mem_of_getElem? (i := 222) (by decide +kernel))) (by decide +kernel)
theorem tw_464 : (Cond.methodLink "RobotBusLaw" 34 y_Bus_publish) ∈ gtb := gtb_of (tb_2 (List.mem_of_getElem? (i := 224) (by decide +kernel))) (by decide +kernel)
theorem tw_465 : (Cond.instanceMethod y_Bus_publish) ∈ gtb := gtb_of (tb_2 (List.mem_of_getElem? (i := 225) (by decide +kernel))) (by decide +kernel)
theorem tw_466 : (Cond.selects "RobotBus" y_Bus_publish y_Bus_publish) ∈ gtb := gtb_of (tb_2 (List.mem_of_getElem? (i := 226) (by decide +kernel))) (by decide +kernel)
theorem tw_467 : (Cond.code y_Bus_publish prog_1_method_7_code 4 (some FieldType.int)) ∈ gtb := gtb_of (tb_2 (List.mem_of_getElem? (i := 227) rfl)) rfl
theorem tw_468 : (Cond.methodLink "RobotBus" 159 y_Bus_send) ∈ gtb := gtb_of (tb_2 (List.mem_of_getElem? (i := 228) (by decide +kernel))) (by decide +kernel)
theorem tw_470 : (Cond.instanceMethod y_Bus_send) ∈ gtb := gtb_of (tb_2 (List.mem_of_getElem? (i := 230) (by decide +kernel))) (by decide +kernel)
theorem tw_471 : (Cond.code y_Bus_send prog_1_method_29_code 7 (some FieldType.int)) ∈ gtb := gtb_of (tb_2 (List.mem_of_getElem? (i := 231) rfl)) rfl
theorem tw_472 : (Cond.methodLink "RobotBus" 303 y_Top_setLast) ∈ gtb := gtb_of (tb_2 (List.mem_of_getElem? (i := 232) (by decide +kernel))) (by decide +kernel)
theorem tw_473 : (Cond.instanceMethod y_Top_setLast) ∈ gtb := gtb_of (tb_2 (List.mem_of_getElem? (i := 233) (by decide +kernel))) (by decide +kernel)
theorem tw_474 : (Cond.selects "RobotBus$Topic" y_Top_setLast y_Top_setLast) ∈ gtb := gtb_of (tb_2 (List.mem_of_getElem? (i := 234) (by decide +kernel))) (by decide +kernel)
theorem tw_475 : (Cond.code y_Top_setLast prog_9_method_2_code 4 (Option.none : Option Jvm.ClassFile.FieldType)) ∈ gtb := gtb_of (tb_2 (List.mem_of_getElem? (i := 235) rfl)) rfl
theorem tw_476 : (Cond.methodLink "RobotBus" 307 y_Bag_append) ∈ gtb := gtb_of (tb_2 (List.mem_of_getElem? (i := 236) (by decide +kernel))) (by decide +kernel)
theorem tw_477 : (Cond.instanceMethod y_Bag_append) ∈ gtb := gtb_of (tb_2 (List.mem_of_getElem? (i := 237) (by decide +kernel))) (by decide +kernel)
theorem tw_478 : (Cond.selects "RobotBus$Bag" y_Bag_append y_Bag_append) ∈ gtb := gtb_of (tb_2 (List.mem_of_getElem? (i := 238) (by decide +kernel))) (by decide +kernel)
theorem tw_479 : (Cond.code y_Bag_append prog_3_method_2_code 4 (Option.none : Option Jvm.ClassFile.FieldType)) ∈ gtb := gtb_of (tb_2 (List.mem_of_getElem? (i := 239) rfl)) rfl
theorem tw_480 : (Cond.methodLink "RobotBusLaw" 116 y_Law_act) ∈ gtb := gtb_of (tb_3 (List.mem_of_getElem? (i := 0) (by decide +kernel))) (by decide +kernel)
theorem tw_481 : (Cond.static y_Law_act) ∈ gtb := gtb_of (tb_3 (List.mem_of_getElem? (i := 1) (by decide +kernel))) (by decide +kernel)
theorem tw_483 : (Cond.methodLink "RobotBusLaw" 37 y_Bus_act) ∈ gtb := gtb_of (tb_3 (List.mem_of_getElem? (i := 3) (by decide +kernel))) (by decide +kernel)
theorem tw_484 : (Cond.instanceMethod y_Bus_act) ∈ gtb := gtb_of (tb_3 (List.mem_of_getElem? (i := 4) (by decide +kernel))) (by decide +kernel)
theorem tw_485 : (Cond.selects "RobotBus" y_Bus_act y_Bus_act) ∈ gtb := gtb_of (tb_3 (List.mem_of_getElem? (i := 5) (by decide +kernel))) (by decide +kernel)
theorem tw_486 : (Cond.code y_Bus_act prog_1_method_8_code 8 (some FieldType.int)) ∈ gtb := gtb_of (tb_3 (List.mem_of_getElem? (i := 6) rfl)) rfl
theorem tw_487 : (Cond.methodLink "RobotBus" 162 y_Bus_isAction) ∈ gtb := gtb_of (tb_3 (List.mem_of_getElem? (i := 7) (by decide +kernel))) (by decide +kernel)
theorem tw_488 : (Cond.static y_Bus_isAction) ∈ gtb := gtb_of (tb_3 (List.mem_of_getElem? (i := 8) (by decide +kernel))) (by decide +kernel)
theorem tw_489 : (Cond.code y_Bus_isAction prog_1_method_25_code 3 (some FieldType.boolean)) ∈ gtb := gtb_of (tb_3 (List.mem_of_getElem? (i := 9) rfl)) rfl
theorem tw_491 : (Cond.methodLink "RobotBusLaw" 120 y_Law_offer) ∈ gtb := gtb_of (tb_3 (List.mem_of_getElem? (i := 11) (by decide +kernel))) (by decide +kernel)
theorem tw_492 : (Cond.static y_Law_offer) ∈ gtb := gtb_of (tb_3 (List.mem_of_getElem? (i := 12) (by decide +kernel))) (by decide +kernel)
theorem tw_494 : (Cond.methodLink "RobotBusLaw" 41 y_Bus_offer) ∈ gtb := gtb_of (tb_3 (List.mem_of_getElem? (i := 14) (by decide +kernel))) (by decide +kernel)
theorem tw_495 : (Cond.instanceMethod y_Bus_offer) ∈ gtb := gtb_of (tb_3 (List.mem_of_getElem? (i := 15) (by decide +kernel))) (by decide +kernel)
theorem tw_496 : (Cond.selects "RobotBus" y_Bus_offer y_Bus_offer) ∈ gtb := gtb_of (tb_3 (List.mem_of_getElem? (i := 16) (by decide +kernel))) (by decide +kernel)
theorem tw_497 : (Cond.code y_Bus_offer prog_1_method_9_code 8 (some FieldType.int)) ∈ gtb := gtb_of (tb_3 (List.mem_of_getElem? (i := 17) rfl)) rfl
theorem tw_498 : (Cond.methodLink "RobotBus" 182 y_Bus_isService) ∈ gtb := gtb_of (tb_3 (List.mem_of_getElem? (i := 18) (by decide +kernel))) (by decide +kernel)
theorem tw_499 : (Cond.static y_Bus_isService) ∈ gtb := gtb_of (tb_3 (List.mem_of_getElem? (i := 19) (by decide +kernel))) (by decide +kernel)
theorem tw_500 : (Cond.code y_Bus_isService prog_1_method_26_code 4 (some FieldType.boolean)) ∈ gtb := gtb_of (tb_3 (List.mem_of_getElem? (i := 20) rfl)) rfl
theorem tw_502 : (Cond.methodLink "RobotBusLaw" 123 y_Law_call) ∈ gtb := gtb_of (tb_3 (List.mem_of_getElem? (i := 22) (by decide +kernel))) (by decide +kernel)
theorem tw_503 : (Cond.static y_Law_call) ∈ gtb := gtb_of (tb_3 (List.mem_of_getElem? (i := 23) (by decide +kernel))) (by decide +kernel)
theorem tw_505 : (Cond.classLink "RobotBusLaw" 47 "java/lang/ArithmeticException") ∈ gtb := gtb_of (tb_3 (List.mem_of_getElem? (i := 25) (by decide +kernel))) (by decide +kernel)
theorem tw_506 : (Cond.methodLink "RobotBusLaw" 44 y_Bus_call) ∈ gtb := gtb_of (tb_3 (List.mem_of_getElem? (i := 26) (by decide +kernel))) (by decide +kernel)
theorem tw_507 : (Cond.instanceMethod y_Bus_call) ∈ gtb := gtb_of (tb_3 (List.mem_of_getElem? (i := 27) (by decide +kernel))) (by decide +kernel)
theorem tw_508 : (Cond.selects "RobotBus" y_Bus_call y_Bus_call) ∈ gtb := gtb_of (tb_3 (List.mem_of_getElem? (i := 28) (by decide +kernel))) (by decide +kernel)
theorem tw_509 : (Cond.code y_Bus_call prog_1_method_10_code 4 (some FieldType.int)) ∈ gtb := gtb_of (tb_3 (List.mem_of_getElem? (i := 29) rfl)) rfl
theorem tw_511 : (Cond.methodLink "RobotBus" 197 y_Bus_ask) ∈ gtb := gtb_of (tb_3 (List.mem_of_getElem? (i := 31) (by decide +kernel))) (by decide +kernel)
theorem tw_513 : (Cond.instanceMethod y_Bus_ask) ∈ gtb := gtb_of (tb_3 (List.mem_of_getElem? (i := 33) (by decide +kernel))) (by decide +kernel)
theorem tw_514 : (Cond.code y_Bus_ask prog_1_method_33_code 7 (some FieldType.int)) ∈ gtb := gtb_of (tb_3 (List.mem_of_getElem? (i := 34) rfl)) rfl
theorem tw_515 : (Cond.methodLink "RobotBus" 334 y_Bus_compute) ∈ gtb := gtb_of (tb_3 (List.mem_of_getElem? (i := 35) (by decide +kernel))) (by decide +kernel)
theorem tw_517 : (Cond.instanceMethod y_Bus_compute) ∈ gtb := gtb_of (tb_3 (List.mem_of_getElem? (i := 37) (by decide +kernel))) (by decide +kernel)
theorem tw_518 : (Cond.code y_Bus_compute prog_1_method_34_code 6 (some FieldType.int)) ∈ gtb := gtb_of (tb_3 (List.mem_of_getElem? (i := 38) rfl)) rfl
theorem tw_520 : (Cond.classLink "RobotBus" 203 "java/lang/ArithmeticException") ∈ gtb := gtb_of (tb_3 (List.mem_of_getElem? (i := 40) (by decide +kernel))) (by decide +kernel)
theorem tw_521 : (Cond.instantiable "java/lang/ArithmeticException" 6) ∈ gtb := gtb_of (tb_3 (List.mem_of_getElem? (i := 41) (by decide +kernel))) (by decide +kernel)
theorem tw_523 : (Cond.selects "java/lang/ArithmeticException" ({ cls := "java/lang/Throwable", name := "fillInStackTrace", desc := "(I)Ljava/lang/Throwable;" } : MethodName) ({ cls := "java/lang/Throwable", name := "fillInStackTrace", desc := "(I)Ljava/lang/Throwable;" } : MethodName)) ∈ gtb := gtb_of (tb_3 (List.mem_of_getElem? (i := 43) (by decide +kernel))) (by decide +kernel)
theorem tw_524 : (Cond.lays "java/lang/ArithmeticException" "java/lang/Throwable" "cause" "Ljava/lang/Throwable;") ∈ gtb := gtb_of (tb_3 (List.mem_of_getElem? (i := 44) (by decide +kernel))) (by decide +kernel)
theorem tw_525 : (Cond.lays "java/lang/ArithmeticException" "java/lang/Throwable" "stackTrace" "[Ljava/lang/StackTraceElement;") ∈ gtb := gtb_of (tb_3 (List.mem_of_getElem? (i := 45) (by decide +kernel))) (by decide +kernel)
theorem tw_526 : (Cond.lays "java/lang/ArithmeticException" "java/lang/Throwable" "suppressedExceptions" "Ljava/util/List;") ∈ gtb := gtb_of (tb_3 (List.mem_of_getElem? (i := 46) (by decide +kernel))) (by decide +kernel)
theorem tw_527 : (Cond.lays "java/lang/ArithmeticException" "java/lang/Throwable" "detailMessage" "Ljava/lang/String;") ∈ gtb := gtb_of (tb_3 (List.mem_of_getElem? (i := 47) (by decide +kernel))) (by decide +kernel)
theorem tw_528 : (Cond.lays "java/lang/ArithmeticException" "java/lang/Throwable" "backtrace" "Ljava/lang/Object;") ∈ gtb := gtb_of (tb_3 (List.mem_of_getElem? (i := 48) (by decide +kernel))) (by decide +kernel)
theorem tw_530 : (Cond.methodLink "RobotBus" 207 ({ cls := "java/lang/ArithmeticException", name := "<init>", desc := "(Ljava/lang/String;)V" } : MethodName)) ∈ gtb := gtb_of (tb_3 (List.mem_of_getElem? (i := 50) (by decide +kernel))) (by decide +kernel)
theorem tw_531 : (Cond.instanceMethod ({ cls := "java/lang/ArithmeticException", name := "<init>", desc := "(Ljava/lang/String;)V" } : MethodName)) ∈ gtb := gtb_of (tb_3 (List.mem_of_getElem? (i := 51) (by decide +kernel))) (by decide +kernel)
theorem tw_532 : (Cond.code ({ cls := "java/lang/ArithmeticException", name := "<init>", desc := "(Ljava/lang/String;)V" } : MethodName) prog_12_method_2_code 2 (Option.none : Option Jvm.ClassFile.FieldType)) ∈ gtb := gtb_of (tb_3 (List.mem_of_getElem? (i := 52) rfl)) rfl
theorem tw_533 : (Cond.methodLink "java/lang/ArithmeticException" 7 ({ cls := "java/lang/RuntimeException", name := "<init>", desc := "(Ljava/lang/String;)V" } : MethodName)) ∈ gtb := gtb_of (tb_3 (List.mem_of_getElem? (i := 53) (by decide +kernel))) (by decide +kernel)
theorem tw_534 : (Cond.lays "java/lang/ArithmeticException" "java/lang/Throwable" "depth" "I") ∈ gtb := gtb_of (tb_3 (List.mem_of_getElem? (i := 54) (by decide +kernel))) (by decide +kernel)
theorem tw_536 : (Cond.methodLink "RobotBusLaw" 126 y_Law_tick) ∈ gtb := gtb_of (tb_3 (List.mem_of_getElem? (i := 56) (by decide +kernel))) (by decide +kernel)
theorem tw_537 : (Cond.static y_Law_tick) ∈ gtb := gtb_of (tb_3 (List.mem_of_getElem? (i := 57) (by decide +kernel))) (by decide +kernel)
theorem tw_539 : (Cond.methodLink "RobotBusLaw" 49 y_Bus_tick) ∈ gtb := gtb_of (tb_3 (List.mem_of_getElem? (i := 59) (by decide +kernel))) (by decide +kernel)
theorem tw_540 : (Cond.instanceMethod y_Bus_tick) ∈ gtb := gtb_of (tb_3 (List.mem_of_getElem? (i := 60) (by decide +kernel))) (by decide +kernel)
theorem tw_541 : (Cond.selects "RobotBus" y_Bus_tick y_Bus_tick) ∈ gtb := gtb_of (tb_3 (List.mem_of_getElem? (i := 61) (by decide +kernel))) (by decide +kernel)
theorem tw_542 : (Cond.code y_Bus_tick prog_1_method_11_code 3 (some FieldType.int)) ∈ gtb := gtb_of (tb_3 (List.mem_of_getElem? (i := 62) rfl)) rfl
theorem tw_544 : (Cond.methodLink "RobotBus" 210 y_Bus_passOneTick) ∈ gtb := gtb_of (tb_3 (List.mem_of_getElem? (i := 64) (by decide +kernel))) (by decide +kernel)
theorem tw_546 : (Cond.instanceMethod y_Bus_passOneTick) ∈ gtb := gtb_of (tb_3 (List.mem_of_getElem? (i := 66) (by decide +kernel))) (by decide +kernel)
theorem tw_547 : (Cond.code y_Bus_passOneTick prog_1_method_30_code 3 (Option.none : Option Jvm.ClassFile.FieldType)) ∈ gtb := gtb_of (tb_3 (List.mem_of_getElem? (i := 67) rfl)) rfl
theorem tw_548 : (Cond.methodLink "RobotBus" 309 y_Bag_isDue) ∈ gtb := gtb_of (tb_3 (List.mem_of_getElem? (i := 68) (by decide +kernel))) (by decide +kernel)
theorem tw_549 : (Cond.instanceMethod y_Bag_isDue) ∈ gtb := gtb_of (tb_3 (List.mem_of_getElem? (i := 69) (by decide +kernel))) (by decide +kernel)
theorem tw_550 : (Cond.selects "RobotBus$Bag" y_Bag_isDue y_Bag_isDue) ∈ gtb := gtb_of (tb_3 (List.mem_of_getElem? (i := 70) (by decide +kernel))) (by decide +kernel)
theorem tw_551 : (Cond.code y_Bag_isDue prog_3_method_5_code 3 (some FieldType.boolean)) ∈ gtb := gtb_of (tb_3 (List.mem_of_getElem? (i := 71) rfl)) rfl
theorem tw_552 : (Cond.methodLink "RobotBus$Bag" 37 y_Bag_isPlaying) ∈ gtb := gtb_of (tb_3 (List.mem_of_getElem? (i := 72) (by decide +kernel))) (by decide +kernel)
theorem tw_553 : (Cond.instanceMethod y_Bag_isPlaying) ∈ gtb := gtb_of (tb_3 (List.mem_of_getElem? (i := 73) (by decide +kernel))) (by decide +kernel)
theorem tw_554 : (Cond.selects "RobotBus$Bag" y_Bag_isPlaying y_Bag_isPlaying) ∈ gtb := gtb_of (tb_3 (List.mem_of_getElem? (i := 74) (by decide +kernel))) (by decide +kernel)
theorem tw_555 : (Cond.code y_Bag_isPlaying prog_3_method_4_code 1 (some FieldType.boolean)) ∈ gtb := gtb_of (tb_3 (List.mem_of_getElem? (i := 75) rfl)) rfl
theorem tw_556 : (Cond.methodLink "RobotBus" 312 y_Bag_takeNext) ∈ gtb := gtb_of (tb_3 (List.mem_of_getElem? (i := 76) (by decide +kernel))) (by decide +kernel)
theorem tw_557 : (Cond.instanceMethod y_Bag_takeNext) ∈ gtb := gtb_of (tb_3 (List.mem_of_getElem? (i := 77) (by decide +kernel))) (by decide +kernel)
theorem tw_558 : (Cond.selects "RobotBus$Bag" y_Bag_takeNext y_Bag_takeNext) ∈ gtb := gtb_of (tb_3 (List.mem_of_getElem? (i := 78) (by decide +kernel))) (by decide +kernel)
theorem tw_559 : (Cond.code y_Bag_takeNext prog_3_method_6_code 2 (some FieldType.int)) ∈ gtb := gtb_of (tb_3 (List.mem_of_getElem? (i := 79) rfl)) rfl
theorem tw_560 : (Cond.methodLink "RobotBus" 320 y_Bus_spin) ∈ gtb := gtb_of (tb_3 (List.mem_of_getElem? (i := 80) (by decide +kernel))) (by decide +kernel)
theorem tw_562 : (Cond.instanceMethod y_Bus_spin) ∈ gtb := gtb_of (tb_3 (List.mem_of_getElem? (i := 82) (by decide +kernel))) (by decide +kernel)
theorem tw_563 : (Cond.code y_Bus_spin prog_1_method_31_code 5 (Option.none : Option Jvm.ClassFile.FieldType)) ∈ gtb := gtb_of (tb_3 (List.mem_of_getElem? (i := 83) rfl)) rfl
theorem tw_564 : (Cond.methodLink "RobotBus" 324 y_Nod_nextTopic) ∈ gtb := gtb_of (tb_3 (List.mem_of_getElem? (i := 84) (by decide +kernel))) (by decide +kernel)
theorem tw_565 : (Cond.instanceMethod y_Nod_nextTopic) ∈ gtb := gtb_of (tb_3 (List.mem_of_getElem? (i := 85) (by decide +kernel))) (by decide +kernel)
theorem tw_566 : (Cond.selects "RobotBus$Node" y_Nod_nextTopic y_Nod_nextTopic) ∈ gtb := gtb_of (tb_3 (List.mem_of_getElem? (i := 86) (by decide +kernel))) (by decide +kernel)
theorem tw_567 : (Cond.code y_Nod_nextTopic prog_5_method_3_code 3 (some FieldType.int)) ∈ gtb := gtb_of (tb_3 (List.mem_of_getElem? (i := 87) rfl)) rfl
theorem tw_568 : (Cond.methodLink "RobotBus" 327 y_Nod_takeFrom) ∈ gtb := gtb_of (tb_3 (List.mem_of_getElem? (i := 88) (by decide +kernel))) (by decide +kernel)
theorem tw_569 : (Cond.instanceMethod y_Nod_takeFrom) ∈ gtb := gtb_of (tb_3 (List.mem_of_getElem? (i := 89) (by decide +kernel))) (by decide +kernel)
theorem tw_570 : (Cond.selects "RobotBus$Node" y_Nod_takeFrom y_Nod_takeFrom) ∈ gtb := gtb_of (tb_3 (List.mem_of_getElem? (i := 90) (by decide +kernel))) (by decide +kernel)
theorem tw_571 : (Cond.code y_Nod_takeFrom prog_5_method_4_code 3 (some FieldType.int)) ∈ gtb := gtb_of (tb_3 (List.mem_of_getElem? (i := 91) rfl)) rfl
theorem tw_572 : (Cond.methodLink "RobotBus$Node" 47 y_Que_part) ∈ gtb := gtb_of (tb_3 (List.mem_of_getElem? (i := 92) (by decide +kernel))) (by decide +kernel)
theorem tw_573 : (Cond.instanceMethod y_Que_part) ∈ gtb := gtb_of (tb_3 (List.mem_of_getElem? (i := 93) (by decide +kernel))) (by decide +kernel)
theorem tw_574 : (Cond.selects "RobotBus$Queue" y_Que_part y_Que_part) ∈ gtb := gtb_of (tb_3 (List.mem_of_getElem? (i := 94) (by decide +kernel))) (by decide +kernel)
theorem tw_575 : (Cond.code y_Que_part prog_7_method_3_code 3 (some FieldType.int)) ∈ gtb := gtb_of (tb_3 (List.mem_of_getElem? (i := 95) rfl)) rfl
theorem tw_576 : (Cond.methodLink "RobotBus$Node" 51 y_Que_dropOldest) ∈ gtb := gtb_of (tb_3 (List.mem_of_getElem? (i := 96) (by decide +kernel))) (by decide +kernel)
theorem tw_577 : (Cond.methodLink "RobotBus" 330 y_Bus_perform) ∈ gtb := gtb_of (tb_3 (List.mem_of_getElem? (i := 97) (by decide +kernel))) (by decide +kernel)
theorem tw_579 : (Cond.instanceMethod y_Bus_perform) ∈ gtb := gtb_of (tb_3 (List.mem_of_getElem? (i := 99) (by decide +kernel))) (by decide +kernel)
theorem tw_580 : (Cond.code y_Bus_perform prog_1_method_32_code 5 (Option.none : Option Jvm.ClassFile.FieldType)) ∈ gtb := gtb_of (tb_3 (List.mem_of_getElem? (i := 100) rfl)) rfl
theorem tw_581 : (Cond.methodLink "RobotBusLaw" 129 y_Law_variable) ∈ gtb := gtb_of (tb_3 (List.mem_of_getElem? (i := 101) (by decide +kernel))) (by decide +kernel)
theorem tw_582 : (Cond.static y_Law_variable) ∈ gtb := gtb_of (tb_3 (List.mem_of_getElem? (i := 102) (by decide +kernel))) (by decide +kernel)
theorem tw_584 : (Cond.methodLink "RobotBusLaw" 52 y_Bus_variable) ∈ gtb := gtb_of (tb_3 (List.mem_of_getElem? (i := 104) (by decide +kernel))) (by decide +kernel)
theorem tw_585 : (Cond.instanceMethod y_Bus_variable) ∈ gtb := gtb_of (tb_3 (List.mem_of_getElem? (i := 105) (by decide +kernel))) (by decide +kernel)
theorem tw_586 : (Cond.selects "RobotBus" y_Bus_variable y_Bus_variable) ∈ gtb := gtb_of (tb_3 (List.mem_of_getElem? (i := 106) (by decide +kernel))) (by decide +kernel)
theorem tw_587 : (Cond.code y_Bus_variable prog_1_method_12_code 3 (some FieldType.int)) ∈ gtb := gtb_of (tb_3 (List.mem_of_getElem? (i := 107) rfl)) rfl
theorem tw_589 : (Cond.methodLink "RobotBusLaw" 132 y_Law_queued) ∈ gtb := gtb_of (tb_3 (List.mem_of_getElem? (i := 109) (by decide +kernel))) (by decide +kernel)
theorem tw_590 : (Cond.static y_Law_queued) ∈ gtb := gtb_of (tb_3 (List.mem_of_getElem? (i := 110) (by decide +kernel))) (by decide +kernel)
theorem tw_592 : (Cond.methodLink "RobotBusLaw" 55 y_Bus_queued) ∈ gtb := gtb_of (tb_3 (List.mem_of_getElem? (i := 112) (by decide +kernel))) (by decide +kernel)
theorem tw_593 : (Cond.instanceMethod y_Bus_queued) ∈ gtb := gtb_of (tb_3 (List.mem_of_getElem? (i := 113) (by decide +kernel))) (by decide +kernel)
theorem tw_594 : (Cond.selects "RobotBus" y_Bus_queued y_Bus_queued) ∈ gtb := gtb_of (tb_3 (List.mem_of_getElem? (i := 114) (by decide +kernel))) (by decide +kernel)
theorem tw_595 : (Cond.code y_Bus_queued prog_1_method_13_code 6 (some FieldType.int)) ∈ gtb := gtb_of (tb_3 (List.mem_of_getElem? (i := 115) rfl)) rfl
theorem tw_599 : (Cond.methodLink "RobotBus" 225 y_Que_part) ∈ gtb := gtb_of (tb_3 (List.mem_of_getElem? (i := 119) (by decide +kernel))) (by decide +kernel)
theorem tw_600 : (Cond.methodLink "RobotBusLaw" 136 y_Law_keep) ∈ gtb := gtb_of (tb_3 (List.mem_of_getElem? (i := 120) (by decide +kernel))) (by decide +kernel)
theorem tw_601 : (Cond.static y_Law_keep) ∈ gtb := gtb_of (tb_3 (List.mem_of_getElem? (i := 121) (by decide +kernel))) (by decide +kernel)
theorem tw_603 : (Cond.methodLink "RobotBusLaw" 59 y_Bus_keep) ∈ gtb := gtb_of (tb_3 (List.mem_of_getElem? (i := 123) (by decide +kernel))) (by decide +kernel)
theorem tw_604 : (Cond.instanceMethod y_Bus_keep) ∈ gtb := gtb_of (tb_3 (List.mem_of_getElem? (i := 124) (by decide +kernel))) (by decide +kernel)
theorem tw_605 : (Cond.selects "RobotBus" y_Bus_keep y_Bus_keep) ∈ gtb := gtb_of (tb_3 (List.mem_of_getElem? (i := 125) (by decide +kernel))) (by decide +kernel)
theorem tw_606 : (Cond.code y_Bus_keep prog_1_method_14_code 4 (some FieldType.int)) ∈ gtb := gtb_of (tb_3 (List.mem_of_getElem? (i := 126) rfl)) rfl
theorem tw_607 : (Cond.methodLink "RobotBusLaw" 139 y_Law_play) ∈ gtb := gtb_of (tb_3 (List.mem_of_getElem? (i := 127) (by decide +kernel))) (by decide +kernel)
theorem tw_608 : (Cond.static y_Law_play) ∈ gtb := gtb_of (tb_3 (List.mem_of_getElem? (i := 128) (by decide +kernel))) (by decide +kernel)
theorem tw_610 : (Cond.classLink "RobotBusLaw" 65 "java/lang/UnsupportedOperationException") ∈ gtb := gtb_of (tb_3 (List.mem_of_getElem? (i := 130) (by decide +kernel))) (by decide +kernel)
theorem tw_611 : (Cond.methodLink "RobotBusLaw" 62 y_Bus_play) ∈ gtb := gtb_of (tb_3 (List.mem_of_getElem? (i := 131) (by decide +kernel))) (by decide +kernel)
theorem tw_612 : (Cond.instanceMethod y_Bus_play) ∈ gtb := gtb_of (tb_3 (List.mem_of_getElem? (i := 132) (by decide +kernel))) (by decide +kernel)
theorem tw_613 : (Cond.selects "RobotBus" y_Bus_play y_Bus_play) ∈ gtb := gtb_of (tb_3 (List.mem_of_getElem? (i := 133) (by decide +kernel))) (by decide +kernel)
theorem tw_614 : (Cond.code y_Bus_play prog_1_method_15_code 2 (some FieldType.int)) ∈ gtb := gtb_of (tb_3 (List.mem_of_getElem? (i := 134) rfl)) rfl
theorem tw_616 : (Cond.methodLink "RobotBus" 233 y_Bag_isPlaying) ∈ gtb := gtb_of (tb_3 (List.mem_of_getElem? (i := 136) (by decide +kernel))) (by decide +kernel)
theorem tw_618 : (Cond.classLink "RobotBus" 239 "java/lang/UnsupportedOperationException") ∈ gtb := gtb_of (tb_3 (List.mem_of_getElem? (i := 138) (by decide +kernel))) (by decide +kernel)
theorem tw_619 : (Cond.instantiable "java/lang/UnsupportedOperationException" 6) ∈ gtb := gtb_of (tb_3 (List.mem_of_getElem? (i := 139) (by decide +kernel))) (by decide +kernel)
theorem tw_621 : (Cond.selects "java/lang/UnsupportedOperationException" ({ cls := "java/lang/Throwable", name := "fillInStackTrace", desc := "(I)Ljava/lang/Throwable;" } : MethodName) ({ cls := "java/lang/Throwable", name := "fillInStackTrace", desc := "(I)Ljava/lang/Throwable;" } : MethodName)) ∈ gtb := gtb_of (tb_3 (List.mem_of_getElem? (i := 141) (by decide +kernel))) (by decide +kernel)
theorem tw_622 : (Cond.lays "java/lang/UnsupportedOperationException" "java/lang/Throwable" "cause" "Ljava/lang/Throwable;") ∈ gtb := gtb_of (tb_3 (List.mem_of_getElem? (i := 142) (by decide +kernel))) (by decide +kernel)
theorem tw_623 : (Cond.lays "java/lang/UnsupportedOperationException" "java/lang/Throwable" "stackTrace" "[Ljava/lang/StackTraceElement;") ∈ gtb := gtb_of (tb_3 (List.mem_of_getElem? (i := 143) (by decide +kernel))) (by decide +kernel)
theorem tw_624 : (Cond.lays "java/lang/UnsupportedOperationException" "java/lang/Throwable" "suppressedExceptions" "Ljava/util/List;") ∈ gtb := gtb_of (tb_3 (List.mem_of_getElem? (i := 144) (by decide +kernel))) (by decide +kernel)
theorem tw_625 : (Cond.lays "java/lang/UnsupportedOperationException" "java/lang/Throwable" "detailMessage" "Ljava/lang/String;") ∈ gtb := gtb_of (tb_3 (List.mem_of_getElem? (i := 145) (by decide +kernel))) (by decide +kernel)
theorem tw_626 : (Cond.lays "java/lang/UnsupportedOperationException" "java/lang/Throwable" "backtrace" "Ljava/lang/Object;") ∈ gtb := gtb_of (tb_3 (List.mem_of_getElem? (i := 146) (by decide +kernel))) (by decide +kernel)
theorem tw_628 : (Cond.methodLink "RobotBus" 243 ({ cls := "java/lang/UnsupportedOperationException", name := "<init>", desc := "(Ljava/lang/String;)V" } : MethodName)) ∈ gtb := gtb_of (tb_3 (List.mem_of_getElem? (i := 148) (by decide +kernel))) (by decide +kernel)
theorem tw_629 : (Cond.instanceMethod ({ cls := "java/lang/UnsupportedOperationException", name := "<init>", desc := "(Ljava/lang/String;)V" } : MethodName)) ∈ gtb := gtb_of (tb_3 (List.mem_of_getElem? (i := 149) (by decide +kernel))) (by decide +kernel)
theorem tw_630 : (Cond.code ({ cls := "java/lang/UnsupportedOperationException", name := "<init>", desc := "(Ljava/lang/String;)V" } : MethodName) prog_21_method_2_code 2 (Option.none : Option Jvm.ClassFile.FieldType)) ∈ gtb := gtb_of (tb_3 (List.mem_of_getElem? (i := 150) rfl)) rfl
theorem tw_631 : (Cond.methodLink "java/lang/UnsupportedOperationException" 7 ({ cls := "java/lang/RuntimeException", name := "<init>", desc := "(Ljava/lang/String;)V" } : MethodName)) ∈ gtb := gtb_of (tb_3 (List.mem_of_getElem? (i := 151) (by decide +kernel))) (by decide +kernel)
theorem tw_632 : (Cond.lays "java/lang/UnsupportedOperationException" "java/lang/Throwable" "depth" "I") ∈ gtb := gtb_of (tb_3 (List.mem_of_getElem? (i := 152) (by decide +kernel))) (by decide +kernel)
theorem tw_634 : (Cond.methodLink "RobotBus" 244 y_Bag_start) ∈ gtb := gtb_of (tb_3 (List.mem_of_getElem? (i := 154) (by decide +kernel))) (by decide +kernel)
theorem tw_635 : (Cond.instanceMethod y_Bag_start) ∈ gtb := gtb_of (tb_3 (List.mem_of_getElem? (i := 155) (by decide +kernel))) (by decide +kernel)
theorem tw_636 : (Cond.selects "RobotBus$Bag" y_Bag_start y_Bag_start) ∈ gtb := gtb_of (tb_3 (List.mem_of_getElem? (i := 156) (by decide +kernel))) (by decide +kernel)
theorem tw_637 : (Cond.code y_Bag_start prog_3_method_3_code 3 (Option.none : Option Jvm.ClassFile.FieldType)) ∈ gtb := gtb_of (tb_3 (List.mem_of_getElem? (i := 157) rfl)) rfl
theorem tw_638 : (Cond.methodLink "RobotBusLaw" 142 y_Law_empty) ∈ gtb := gtb_of (tb_3 (List.mem_of_getElem? (i := 158) (by decide +kernel))) (by decide +kernel)
theorem tw_639 : (Cond.static y_Law_empty) ∈ gtb := gtb_of (tb_3 (List.mem_of_getElem? (i := 159) (by decide +kernel))) (by decide +kernel)
theorem tw_641 : (Cond.methodLink "RobotBusLaw" 67 y_Bus_empty) ∈ gtb := gtb_of (tb_3 (List.mem_of_getElem? (i := 161) (by decide +kernel))) (by decide +kernel)
theorem tw_642 : (Cond.instanceMethod y_Bus_empty) ∈ gtb := gtb_of (tb_3 (List.mem_of_getElem? (i := 162) (by decide +kernel))) (by decide +kernel)
theorem tw_643 : (Cond.selects "RobotBus" y_Bus_empty y_Bus_empty) ∈ gtb := gtb_of (tb_3 (List.mem_of_getElem? (i := 163) (by decide +kernel))) (by decide +kernel)
theorem tw_644 : (Cond.code y_Bus_empty prog_1_method_16_code 2 (some FieldType.int)) ∈ gtb := gtb_of (tb_3 (List.mem_of_getElem? (i := 164) rfl)) rfl
theorem tw_645 : (Cond.methodLink "RobotBusLaw" 146 y_Law_mount) ∈ gtb := gtb_of (tb_3 (List.mem_of_getElem? (i := 165) (by decide +kernel))) (by decide +kernel)
theorem tw_646 : (Cond.static y_Law_mount) ∈ gtb := gtb_of (tb_3 (List.mem_of_getElem? (i := 166) (by decide +kernel))) (by decide +kernel)
theorem tw_648 : (Cond.methodLink "RobotBusLaw" 71 y_Bus_mount) ∈ gtb := gtb_of (tb_3 (List.mem_of_getElem? (i := 168) (by decide +kernel))) (by decide +kernel)
theorem tw_649 : (Cond.instanceMethod y_Bus_mount) ∈ gtb := gtb_of (tb_3 (List.mem_of_getElem? (i := 169) (by decide +kernel))) (by decide +kernel)
theorem tw_650 : (Cond.selects "RobotBus" y_Bus_mount y_Bus_mount) ∈ gtb := gtb_of (tb_3 (List.mem_of_getElem? (i := 170) (by decide +kernel))) (by decide +kernel)
theorem tw_651 : (Cond.code y_Bus_mount prog_1_method_17_code 4 (some FieldType.int)) ∈ gtb := gtb_of (tb_3 (List.mem_of_getElem? (i := 171) rfl)) rfl
theorem tw_653 : (Cond.methodLink "RobotBus" 250 y_Bus_isAbove) ∈ gtb := gtb_of (tb_3 (List.mem_of_getElem? (i := 173) (by decide +kernel))) (by decide +kernel)
theorem tw_655 : (Cond.instanceMethod y_Bus_isAbove) ∈ gtb := gtb_of (tb_3 (List.mem_of_getElem? (i := 175) (by decide +kernel))) (by decide +kernel)
theorem tw_656 : (Cond.code y_Bus_isAbove prog_1_method_35_code 5 (some FieldType.boolean)) ∈ gtb := gtb_of (tb_3 (List.mem_of_getElem? (i := 176) rfl)) rfl
theorem tw_658 : (Cond.methodLink "RobotBusLaw" 151 y_Law_sample) ∈ gtb := gtb_of (tb_3 (List.mem_of_getElem? (i := 178) (by decide +kernel))) (by decide +kernel)
theorem tw_659 : (Cond.static y_Law_sample) ∈ gtb := gtb_of (tb_3 (List.mem_of_getElem? (i := 179) (by decide +kernel))) (by decide +kernel)
theorem tw_661 : (Cond.methodLink "RobotBusLaw" 74 y_Bus_sample) ∈ gtb := gtb_of (tb_3 (List.mem_of_getElem? (i := 181) (by decide +kernel))) (by decide +kernel)
theorem tw_662 : (Cond.instanceMethod y_Bus_sample) ∈ gtb := gtb_of (tb_3 (List.mem_of_getElem? (i := 182) (by decide +kernel))) (by decide +kernel)
theorem tw_663 : (Cond.selects "RobotBus" y_Bus_sample y_Bus_sample) ∈ gtb := gtb_of (tb_3 (List.mem_of_getElem? (i := 183) (by decide +kernel))) (by decide +kernel)
theorem tw_664 : (Cond.code y_Bus_sample prog_1_method_18_code 8 (some FieldType.int)) ∈ gtb := gtb_of (tb_3 (List.mem_of_getElem? (i := 184) rfl)) rfl
theorem tw_666 : (Cond.methodLink "RobotBus" 261 y_Bus_isCoordinate) ∈ gtb := gtb_of (tb_3 (List.mem_of_getElem? (i := 186) (by decide +kernel))) (by decide +kernel)
theorem tw_667 : (Cond.static y_Bus_isCoordinate) ∈ gtb := gtb_of (tb_3 (List.mem_of_getElem? (i := 187) (by decide +kernel))) (by decide +kernel)
theorem tw_668 : (Cond.code y_Bus_isCoordinate prog_1_method_27_code 2 (some FieldType.boolean)) ∈ gtb := gtb_of (tb_3 (List.mem_of_getElem? (i := 188) rfl)) rfl
theorem tw_669 : (Cond.constantDouble "RobotBus" 299 13875590451928498176) ∈ gtb := gtb_of (tb_3 (List.mem_of_getElem? (i := 189) (by decide +kernel))) (by decide +kernel)
theorem tw_670 : (Cond.constantDouble "RobotBus" 301 4652218415073722368) ∈ gtb := gtb_of (tb_3 (List.mem_of_getElem? (i := 190) (by decide +kernel))) (by decide +kernel)
theorem tw_671 : (Cond.methodLink "RobotBus" 273 y_Bus_toEighths) ∈ gtb := gtb_of (tb_3 (List.mem_of_getElem? (i := 191) (by decide +kernel))) (by decide +kernel)
theorem tw_672 : (Cond.static y_Bus_toEighths) ∈ gtb := gtb_of (tb_3 (List.mem_of_getElem? (i := 192) (by decide +kernel))) (by decide +kernel)
theorem tw_673 : (Cond.code y_Bus_toEighths prog_1_method_28_code 2 (some FieldType.int)) ∈ gtb := gtb_of (tb_3 (List.mem_of_getElem? (i := 193) rfl)) rfl
theorem tw_674 : (Cond.constantDouble "RobotBus" 295 4620693217682128896) ∈ gtb := gtb_of (tb_3 (List.mem_of_getElem? (i := 194) (by decide +kernel))) (by decide +kernel)
theorem tw_675 : (Cond.constant "RobotBus" 265 100000) ∈ gtb := gtb_of (tb_3 (List.mem_of_getElem? (i := 195) (by decide +kernel))) (by decide +kernel)
theorem tw_677 : (Cond.methodLink "RobotBus" 268 y_Frm_isBehindLast) ∈ gtb := gtb_of (tb_3 (List.mem_of_getElem? (i := 197) (by decide +kernel))) (by decide +kernel)
theorem tw_678 : (Cond.instanceMethod y_Frm_isBehindLast) ∈ gtb := gtb_of (tb_3 (List.mem_of_getElem? (i := 198) (by decide +kernel))) (by decide +kernel)
theorem tw_679 : (Cond.selects "RobotBus$Frame" y_Frm_isBehindLast y_Frm_isBehindLast) ∈ gtb := gtb_of (tb_3 (List.mem_of_getElem? (i := 199) (by decide +kernel))) (by decide +kernel)
theorem tw_680 : (Cond.code y_Frm_isBehindLast prog_4_method_2_code 2 (some FieldType.boolean)) ∈ gtb := gtb_of (tb_3 (List.mem_of_getElem? (i := 200) rfl)) rfl
theorem tw_682 : (Cond.methodLink "RobotBus" 277 y_Frm_append) ∈ gtb := gtb_of (tb_3 (List.mem_of_getElem? (i := 202) (by decide +kernel))) (by decide +kernel)
theorem tw_683 : (Cond.instanceMethod y_Frm_append) ∈ gtb := gtb_of (tb_3 (List.mem_of_getElem? (i := 203) (by decide +kernel))) (by decide +kernel)
theorem tw_684 : (Cond.selects "RobotBus$Frame" y_Frm_append y_Frm_append) ∈ gtb := gtb_of (tb_3 (List.mem_of_getElem? (i := 204) (by decide +kernel))) (by decide +kernel)
theorem tw_685 : (Cond.code y_Frm_append prog_4_method_3_code 5 (Option.none : Option Jvm.ClassFile.FieldType)) ∈ gtb := gtb_of (tb_3 (List.mem_of_getElem? (i := 205) rfl)) rfl
theorem tw_686 : (Cond.methodLink "RobotBus$Frame" 31 y_Frm_dropFirst) ∈ gtb := gtb_of (tb_3 (List.mem_of_getElem? (i := 206) (by decide +kernel))) (by decide +kernel)
theorem tw_687 : (Cond.instanceMethod y_Frm_dropFirst) ∈ gtb := gtb_of (tb_3 (List.mem_of_getElem? (i := 207) (by decide +kernel))) (by decide +kernel)
theorem tw_688 : (Cond.selects "RobotBus$Frame" y_Frm_dropFirst y_Frm_dropFirst) ∈ gtb := gtb_of (tb_3 (List.mem_of_getElem? (i := 208) (by decide +kernel))) (by decide +kernel)
theorem tw_689 : (Cond.code y_Frm_dropFirst prog_4_method_4_code 1 (Option.none : Option Jvm.ClassFile.FieldType)) ∈ gtb := gtb_of (tb_3 (List.mem_of_getElem? (i := 209) rfl)) rfl
theorem tw_690 : (Cond.methodLink "RobotBus$Frame" 34 ({ cls := "java/lang/System", name := "arraycopy", desc := "(Ljava/lang/Object;ILjava/lang/Object;II)V" } : MethodName)) ∈ gtb := gtb_of (tb_3 (List.mem_of_getElem? (i := 210) (by decide +kernel))) (by decide +kernel)
theorem tw_691 : (Cond.methodLink "RobotBusLaw" 155 y_Law_locate) ∈ gtb := gtb_of (tb_3 (List.mem_of_getElem? (i := 211) (by decide +kernel))) (by decide +kernel)
theorem tw_692 : (Cond.static y_Law_locate) ∈ gtb := gtb_of (tb_3 (List.mem_of_getElem? (i := 212) (by decide +kernel))) (by decide +kernel)
theorem tw_694 : (Cond.methodLink "RobotBusLaw" 78 y_Bus_locate) ∈ gtb := gtb_of (tb_3 (List.mem_of_getElem? (i := 214) (by decide +kernel))) (by decide +kernel)
theorem tw_695 : (Cond.instanceMethod y_Bus_locate) ∈ gtb := gtb_of (tb_3 (List.mem_of_getElem? (i := 215) (by decide +kernel))) (by decide +kernel)
theorem tw_696 : (Cond.selects "RobotBus" y_Bus_locate y_Bus_locate) ∈ gtb := gtb_of (tb_3 (List.mem_of_getElem? (i := 216) (by decide +kernel))) (by decide +kernel)
theorem tw_697 : (Cond.code y_Bus_locate prog_1_method_19_code 7 (some FieldType.double)) ∈ gtb := gtb_of (tb_3 (List.mem_of_getElem? (i := 217) rfl)) rfl
theorem tw_700 : (Cond.methodLink "RobotBus" 290 y_Bus_liftToRoot) ∈ gtb := gtb_of (tb_3 (List.mem_of_getElem? (i := 220) (by decide +kernel))) (by decide +kernel)
theorem tw_702 : (Cond.instanceMethod y_Bus_liftToRoot) ∈ gtb := gtb_of (tb_3 (List.mem_of_getElem? (i := 222) (by decide +kernel))) (by decide +kernel)
theorem tw_703 : (Cond.code y_Bus_liftToRoot prog_1_method_36_code 6 (some FieldType.boolean)) ∈ gtb := gtb_of (tb_3 (List.mem_of_getElem? (i := 223) rfl)) rfl
theorem tw_704 : (Cond.methodLink "RobotBus" 338 y_Frm_indexAt) ∈ gtb := gtb_of (tb_3 (List.mem_of_getElem? (i := 224) (by decide +kernel))) (by decide +kernel)
theorem tw_705 : (Cond.instanceMethod y_Frm_indexAt) ∈ gtb := gtb_of (tb_3 (List.mem_of_getElem? (i := 225) (by decide +kernel))) (by decide +kernel)
theorem tw_706 : (Cond.selects "RobotBus$Frame" y_Frm_indexAt y_Frm_indexAt) ∈ gtb := gtb_of (tb_3 (List.mem_of_getElem? (i := 226) (by decide +kernel))) (by decide +kernel)
theorem tw_707 : (Cond.code y_Frm_indexAt prog_4_method_5_code 4 (some FieldType.int)) ∈ gtb := gtb_of (tb_3 (List.mem_of_getElem? (i := 227) rfl)) rfl
theorem tw_708 : (Cond.methodLink "RobotBus$Frame" 40 y_Frm_isBehindLast) ∈ gtb := gtb_of (tb_3 (List.mem_of_getElem? (i := 228) (by decide +kernel))) (by decide +kernel)
theorem tw_709 : (Cond.methodLink "RobotBus" 341 y_Pnt_lift) ∈ gtb := gtb_of (tb_3 (List.mem_of_getElem? (i := 229) (by decide +kernel))) (by decide +kernel)
theorem tw_710 : (Cond.instanceMethod y_Pnt_lift) ∈ gtb := gtb_of (tb_3 (List.mem_of_getElem? (i := 230) (by decide +kernel))) (by decide +kernel)
theorem tw_711 : (Cond.selects "RobotBus$Point" y_Pnt_lift y_Pnt_lift) ∈ gtb := gtb_of (tb_3 (List.mem_of_getElem? (i := 231) (by decide +kernel))) (by decide +kernel)
theorem tw_712 : (Cond.code y_Pnt_lift prog_6_method_2_code 4 (Option.none : Option Jvm.ClassFile.FieldType)) ∈ gtb := gtb_of (tb_3 (List.mem_of_getElem? (i := 232) rfl)) rfl
theorem tw_713 : (Cond.methodLink "RobotBus$Point" 22 y_Pnt_turnBy) ∈ gtb := gtb_of (tb_3 (List.mem_of_getElem? (i := 233) (by decide +kernel))) (by decide +kernel)
theorem tw_714 : (Cond.instanceMethod y_Pnt_turnBy) ∈ gtb := gtb_of (tb_3 (List.mem_of_getElem? (i := 234) (by decide +kernel))) (by decide +kernel)
theorem tw_715 : (Cond.selects "RobotBus$Point" y_Pnt_turnBy y_Pnt_turnBy) ∈ gtb := gtb_of (tb_3 (List.mem_of_getElem? (i := 235) (by decide +kernel))) (by decide +kernel)
theorem tw_716 : (Cond.code y_Pnt_turnBy prog_6_method_3_code 4 (Option.none : Option Jvm.ClassFile.FieldType)) ∈ gtb := gtb_of (tb_3 (List.mem_of_getElem? (i := 236) rfl)) rfl
theorem tw_717 : (Cond.methodLink "RobotBus$Point" 29 y_Frm_between) ∈ gtb := gtb_of (tb_3 (List.mem_of_getElem? (i := 237) (by decide +kernel))) (by decide +kernel)
theorem tw_718 : (Cond.instanceMethod y_Frm_between) ∈ gtb := gtb_of (tb_3 (List.mem_of_getElem? (i := 238) (by decide +kernel))) (by decide +kernel)
theorem tw_719 : (Cond.selects "RobotBus$Frame" y_Frm_between y_Frm_between) ∈ gtb := gtb_of (tb_3 (List.mem_of_getElem? (i := 239) (by decide +kernel))) (by decide +kernel)
theorem tw_720 : (Cond.code y_Frm_between prog_4_method_6_code 7 (some FieldType.int)) ∈ gtb := gtb_of (tb_4 (List.mem_of_getElem? (i := 0) rfl)) rfl
theorem tw_721 : (Cond.methodLink "RobotBus$Frame" 44 y_Math_floorDiv) ∈ gtb := gtb_of (tb_4 (List.mem_of_getElem? (i := 1) (by decide +kernel))) (by decide +kernel)
theorem tw_722 : (Cond.static y_Math_floorDiv) ∈ gtb := gtb_of (tb_4 (List.mem_of_getElem? (i := 2) (by decide +kernel))) (by decide +kernel)
theorem tw_723 : (Cond.code y_Math_floorDiv prog_16_method_49_code 6 (some FieldType.long)) ∈ gtb := gtb_of (tb_4 (List.mem_of_getElem? (i := 3) rfl)) rfl
theorem tw_725 : (Cond.methodLink "RobotBusLaw" 164 y_Law_count) ∈ gtb := gtb_of (tb_4 (List.mem_of_getElem? (i := 5) (by decide +kernel))) (by decide +kernel)
theorem tw_726 : (Cond.static y_Law_count) ∈ gtb := gtb_of (tb_4 (List.mem_of_getElem? (i := 6) (by decide +kernel))) (by decide +kernel)
theorem tw_728 : (Cond.methodLink "RobotBusLaw" 82 y_Bus_count) ∈ gtb := gtb_of (tb_4 (List.mem_of_getElem? (i := 8) (by decide +kernel))) (by decide +kernel)
theorem tw_729 : (Cond.instanceMethod y_Bus_count) ∈ gtb := gtb_of (tb_4 (List.mem_of_getElem? (i := 9) (by decide +kernel))) (by decide +kernel)
theorem tw_730 : (Cond.selects "RobotBus" y_Bus_count y_Bus_count) ∈ gtb := gtb_of (tb_4 (List.mem_of_getElem? (i := 10) (by decide +kernel))) (by decide +kernel)
theorem tw_731 : (Cond.code y_Bus_count prog_1_method_21_code 2 (some FieldType.int)) ∈ gtb := gtb_of (tb_4 (List.mem_of_getElem? (i := 11) rfl)) rfl
theorem tw_733 : (Cond.classLink "RobotBusLaw" 86 "RobotBusModel") ∈ gtb := gtb_of (tb_4 (List.mem_of_getElem? (i := 13) (by decide +kernel))) (by decide +kernel)
theorem tw_734 : (Cond.instantiable "RobotBusModel" 46) ∈ gtb := gtb_of (tb_4 (List.mem_of_getElem? (i := 14) (by decide +kernel))) (by decide +kernel)
theorem tw_735 : (Cond.methodLink "RobotBusLaw" 88 y_Mdl_init) ∈ gtb := gtb_of (tb_4 (List.mem_of_getElem? (i := 15) (by decide +kernel))) (by decide +kernel)
theorem tw_736 : (Cond.instanceMethod y_Mdl_init) ∈ gtb := gtb_of (tb_4 (List.mem_of_getElem? (i := 16) (by decide +kernel))) (by decide +kernel)
theorem tw_737 : (Cond.code y_Mdl_init prog_11_method_1_code 2 (Option.none : Option Jvm.ClassFile.FieldType)) ∈ gtb := gtb_of (tb_4 (List.mem_of_getElem? (i := 17) rfl)) rfl
theorem tw_738 : (Cond.methodLink "RobotBusModel" 1 ({ cls := "java/lang/Object", name := "<init>", desc := "()V" } : MethodName)) ∈ gtb := gtb_of (tb_4 (List.mem_of_getElem? (i := 18) (by decide +kernel))) (by decide +kernel)
theorem tw_739 : (Cond.fieldLink "RobotBusModel" 102 "RobotBusModel" "thrown" "I") ∈ gtb := gtb_of (tb_4 (List.mem_of_getElem? (i := 19) (by decide +kernel))) (by decide +kernel)
theorem tw_740 : (Cond.fieldLink "RobotBusModel" 128 "RobotBusModel" "clock" "I") ∈ gtb := gtb_of (tb_4 (List.mem_of_getElem? (i := 20) (by decide +kernel))) (by decide +kernel)
theorem tw_741 : (Cond.fieldLink "RobotBusModel" 7 "RobotBusModel" "there" "[Z") ∈ gtb := gtb_of (tb_4 (List.mem_of_getElem? (i := 21) (by decide +kernel))) (by decide +kernel)
theorem tw_742 : (Cond.fieldLink "RobotBusModel" 13 "RobotBusModel" "vars" "[I") ∈ gtb := gtb_of (tb_4 (List.mem_of_getElem? (i := 22) (by decide +kernel))) (by decide +kernel)
theorem tw_743 : (Cond.fieldLink "RobotBusModel" 17 "RobotBusModel" "took" "[I") ∈ gtb := gtb_of (tb_4 (List.mem_of_getElem? (i := 23) (by decide +kernel))) (by decide +kernel)
theorem tw_744 : (Cond.fieldLink "RobotBusModel" 20 "RobotBusModel" "depth" "[I") ∈ gtb := gtb_of (tb_4 (List.mem_of_getElem? (i := 24) (by decide +kernel))) (by decide +kernel)
theorem tw_745 : (Cond.fieldLink "RobotBusModel" 23 "RobotBusModel" "waiting" "[I") ∈ gtb := gtb_of (tb_4 (List.mem_of_getElem? (i := 25) (by decide +kernel))) (by decide +kernel)
theorem tw_746 : (Cond.fieldLink "RobotBusModel" 26 "RobotBusModel" "value" "[I") ∈ gtb := gtb_of (tb_4 (List.mem_of_getElem? (i := 26) (by decide +kernel))) (by decide +kernel)
theorem tw_747 : (Cond.fieldLink "RobotBusModel" 29 "RobotBusModel" "sender" "[I") ∈ gtb := gtb_of (tb_4 (List.mem_of_getElem? (i := 27) (by decide +kernel))) (by decide +kernel)
theorem tw_748 : (Cond.fieldLink "RobotBusModel" 32 "RobotBusModel" "stamp" "[I") ∈ gtb := gtb_of (tb_4 (List.mem_of_getElem? (i := 28) (by decide +kernel))) (by decide +kernel)
theorem tw_749 : (Cond.fieldLink "RobotBusModel" 35 "RobotBusModel" "aKind" "[I") ∈ gtb := gtb_of (tb_4 (List.mem_of_getElem? (i := 29) (by decide +kernel))) (by decide +kernel)
theorem tw_750 : (Cond.fieldLink "RobotBusModel" 38 "RobotBusModel" "aA" "[I") ∈ gtb := gtb_of (tb_4 (List.mem_of_getElem? (i := 30) (by decide +kernel))) (by decide +kernel)
theorem tw_751 : (Cond.fieldLink "RobotBusModel" 41 "RobotBusModel" "aB" "[I") ∈ gtb := gtb_of (tb_4 (List.mem_of_getElem? (i := 31) (by decide +kernel))) (by decide +kernel)
theorem tw_752 : (Cond.fieldLink "RobotBusModel" 44 "RobotBusModel" "latched" "[Z") ∈ gtb := gtb_of (tb_4 (List.mem_of_getElem? (i := 32) (by decide +kernel))) (by decide +kernel)
theorem tw_753 : (Cond.fieldLink "RobotBusModel" 47 "RobotBusModel" "hasLast" "[Z") ∈ gtb := gtb_of (tb_4 (List.mem_of_getElem? (i := 33) (by decide +kernel))) (by decide +kernel)
theorem tw_754 : (Cond.fieldLink "RobotBusModel" 50 "RobotBusModel" "lastValue" "[I") ∈ gtb := gtb_of (tb_4 (List.mem_of_getElem? (i := 34) (by decide +kernel))) (by decide +kernel)
theorem tw_755 : (Cond.fieldLink "RobotBusModel" 53 "RobotBusModel" "lastSender" "[I") ∈ gtb := gtb_of (tb_4 (List.mem_of_getElem? (i := 35) (by decide +kernel))) (by decide +kernel)
theorem tw_756 : (Cond.fieldLink "RobotBusModel" 56 "RobotBusModel" "lastStamp" "[I") ∈ gtb := gtb_of (tb_4 (List.mem_of_getElem? (i := 36) (by decide +kernel))) (by decide +kernel)
theorem tw_757 : (Cond.fieldLink "RobotBusModel" 59 "RobotBusModel" "kept" "[Z") ∈ gtb := gtb_of (tb_4 (List.mem_of_getElem? (i := 37) (by decide +kernel))) (by decide +kernel)
theorem tw_758 : (Cond.fieldLink "RobotBusModel" 62 "RobotBusModel" "by" "[I") ∈ gtb := gtb_of (tb_4 (List.mem_of_getElem? (i := 38) (by decide +kernel))) (by decide +kernel)
theorem tw_759 : (Cond.fieldLink "RobotBusModel" 65 "RobotBusModel" "sKind" "[I") ∈ gtb := gtb_of (tb_4 (List.mem_of_getElem? (i := 39) (by decide +kernel))) (by decide +kernel)
theorem tw_760 : (Cond.fieldLink "RobotBusModel" 68 "RobotBusModel" "sC" "[I") ∈ gtb := gtb_of (tb_4 (List.mem_of_getElem? (i := 40) (by decide +kernel))) (by decide +kernel)
theorem tw_761 : (Cond.fieldLink "RobotBusModel" 71 "RobotBusModel" "sD" "[I") ∈ gtb := gtb_of (tb_4 (List.mem_of_getElem? (i := 41) (by decide +kernel))) (by decide +kernel)
theorem tw_762 : (Cond.fieldLink "RobotBusModel" 74 "RobotBusModel" "bagTime" "[I") ∈ gtb := gtb_of (tb_4 (List.mem_of_getElem? (i := 42) (by decide +kernel))) (by decide +kernel)
theorem tw_763 : (Cond.fieldLink "RobotBusModel" 77 "RobotBusModel" "bagTopic" "[I") ∈ gtb := gtb_of (tb_4 (List.mem_of_getElem? (i := 43) (by decide +kernel))) (by decide +kernel)
theorem tw_764 : (Cond.fieldLink "RobotBusModel" 80 "RobotBusModel" "bagValue" "[I") ∈ gtb := gtb_of (tb_4 (List.mem_of_getElem? (i := 44) (by decide +kernel))) (by decide +kernel)
theorem tw_765 : (Cond.fieldLink "RobotBusModel" 135 "RobotBusModel" "bag" "I") ∈ gtb := gtb_of (tb_4 (List.mem_of_getElem? (i := 45) (by decide +kernel))) (by decide +kernel)
theorem tw_766 : (Cond.fieldLink "RobotBusModel" 156 "RobotBusModel" "playing" "Z") ∈ gtb := gtb_of (tb_4 (List.mem_of_getElem? (i := 46) (by decide +kernel))) (by decide +kernel)
theorem tw_767 : (Cond.fieldLink "RobotBusModel" 163 "RobotBusModel" "began" "I") ∈ gtb := gtb_of (tb_4 (List.mem_of_getElem? (i := 47) (by decide +kernel))) (by decide +kernel)
theorem tw_768 : (Cond.fieldLink "RobotBusModel" 166 "RobotBusModel" "speed" "I") ∈ gtb := gtb_of (tb_4 (List.mem_of_getElem? (i := 48) (by decide +kernel))) (by decide +kernel)
theorem tw_769 : (Cond.fieldLink "RobotBusModel" 160 "RobotBusModel" "nextRecord" "I") ∈ gtb := gtb_of (tb_4 (List.mem_of_getElem? (i := 49) (by decide +kernel))) (by decide +kernel)
theorem tw_770 : (Cond.fieldLink "RobotBusModel" 169 "RobotBusModel" "lastRecord" "I") ∈ gtb := gtb_of (tb_4 (List.mem_of_getElem? (i := 50) (by decide +kernel))) (by decide +kernel)
theorem tw_771 : (Cond.fieldLink "RobotBusModel" 83 "RobotBusModel" "parent" "[I") ∈ gtb := gtb_of (tb_4 (List.mem_of_getElem? (i := 51) (by decide +kernel))) (by decide +kernel)
theorem tw_772 : (Cond.fieldLink "RobotBusModel" 86 "RobotBusModel" "samples" "[I") ∈ gtb := gtb_of (tb_4 (List.mem_of_getElem? (i := 52) (by decide +kernel))) (by decide +kernel)
theorem tw_773 : (Cond.fieldLink "RobotBusModel" 89 "RobotBusModel" "sTime" "[I") ∈ gtb := gtb_of (tb_4 (List.mem_of_getElem? (i := 53) (by decide +kernel))) (by decide +kernel)
theorem tw_774 : (Cond.fieldLink "RobotBusModel" 92 "RobotBusModel" "sX" "[J") ∈ gtb := gtb_of (tb_4 (List.mem_of_getElem? (i := 54) (by decide +kernel))) (by decide +kernel)
theorem tw_775 : (Cond.fieldLink "RobotBusModel" 96 "RobotBusModel" "sY" "[J") ∈ gtb := gtb_of (tb_4 (List.mem_of_getElem? (i := 55) (by decide +kernel))) (by decide +kernel)
theorem tw_776 : (Cond.fieldLink "RobotBusModel" 99 "RobotBusModel" "sTurn" "[I") ∈ gtb := gtb_of (tb_4 (List.mem_of_getElem? (i := 56) (by decide +kernel))) (by decide +kernel)
theorem tw_777 : (Cond.fieldLink "RobotBusModel" 203 "RobotBusModel" "px" "J") ∈ gtb := gtb_of (tb_4 (List.mem_of_getElem? (i := 57) (by decide +kernel))) (by decide +kernel)
theorem tw_778 : (Cond.fieldLink "RobotBusModel" 207 "RobotBusModel" "py" "J") ∈ gtb := gtb_of (tb_4 (List.mem_of_getElem? (i := 58) (by decide +kernel))) (by decide +kernel)
theorem tw_779 : (Cond.fieldLink "RobotBusModel" 216 "RobotBusModel" "lastY" "D") ∈ gtb := gtb_of (tb_4 (List.mem_of_getElem? (i := 59) (by decide +kernel))) (by decide +kernel)
theorem tw_780 : (Cond.fieldLink "RobotBusModel" 122 "RobotBusModel" "lost" "I") ∈ gtb := gtb_of (tb_4 (List.mem_of_getElem? (i := 60) (by decide +kernel))) (by decide +kernel)
theorem tw_781 : (Cond.fieldLink "RobotBusModel" 125 "RobotBusModel" "published" "I") ∈ gtb := gtb_of (tb_4 (List.mem_of_getElem? (i := 61) (by decide +kernel))) (by decide +kernel)
theorem tw_782 : (Cond.fieldLink "RobotBusModel" 172 "RobotBusModel" "actions" "I") ∈ gtb := gtb_of (tb_4 (List.mem_of_getElem? (i := 62) (by decide +kernel))) (by decide +kernel)
theorem tw_783 : (Cond.fieldLink "RobotBusModel" 175 "RobotBusModel" "failures" "I") ∈ gtb := gtb_of (tb_4 (List.mem_of_getElem? (i := 63) (by decide +kernel))) (by decide +kernel)
theorem tw_784 : (Cond.fieldLink "RobotBusModel" 149 "RobotBusModel" "trouble" "I") ∈ gtb := gtb_of (tb_4 (List.mem_of_getElem? (i := 64) (by decide +kernel))) (by decide +kernel)
theorem tw_785 : (Cond.lays "RobotBusModel" "RobotBusModel" "thrown" "I") ∈ gtb := gtb_of (tb_4 (List.mem_of_getElem? (i := 65) (by decide +kernel))) (by decide +kernel)
theorem tw_787 : (Cond.lays "RobotBusModel" "RobotBusModel" "clock" "I") ∈ gtb := gtb_of (tb_4 (List.mem_of_getElem? (i := 67) (by decide +kernel))) (by decide +kernel)
theorem tw_789 : (Cond.laysFinal "RobotBusModel" "RobotBusModel" "there" "[Z") ∈ gtb := gtb_of (tb_4 (List.mem_of_getElem? (i := 69) (by decide +kernel))) (by decide +kernel)
theorem tw_791 : (Cond.laysFinal "RobotBusModel" "RobotBusModel" "vars" "[I") ∈ gtb := gtb_of (tb_4 (List.mem_of_getElem? (i := 71) (by decide +kernel))) (by decide +kernel)
theorem tw_793 : (Cond.laysFinal "RobotBusModel" "RobotBusModel" "took" "[I") ∈ gtb := gtb_of (tb_4 (List.mem_of_getElem? (i := 73) (by decide +kernel))) (by decide +kernel)
theorem tw_795 : (Cond.laysFinal "RobotBusModel" "RobotBusModel" "depth" "[I") ∈ gtb := gtb_of (tb_4 (List.mem_of_getElem? (i := 75) (by decide +kernel))) (by decide +kernel)
theorem tw_797 : (Cond.laysFinal "RobotBusModel" "RobotBusModel" "waiting" "[I") ∈ gtb := gtb_of (tb_4 (List.mem_of_getElem? (i := 77) (by decide +kernel))) (by decide +kernel)
theorem tw_799 : (Cond.laysFinal "RobotBusModel" "RobotBusModel" "value" "[I") ∈ gtb := gtb_of (tb_4 (List.mem_of_getElem? (i := 79) (by decide +kernel))) (by decide +kernel)
theorem tw_801 : (Cond.laysFinal "RobotBusModel" "RobotBusModel" "sender" "[I") ∈ gtb := gtb_of (tb_4 (List.mem_of_getElem? (i := 81) (by decide +kernel))) (by decide +kernel)
theorem tw_803 : (Cond.laysFinal "RobotBusModel" "RobotBusModel" "stamp" "[I") ∈ gtb := gtb_of (tb_4 (List.mem_of_getElem? (i := 83) (by decide +kernel))) (by decide +kernel)
theorem tw_805 : (Cond.laysFinal "RobotBusModel" "RobotBusModel" "aKind" "[I") ∈ gtb := gtb_of (tb_4 (List.mem_of_getElem? (i := 85) (by decide +kernel))) (by decide +kernel)
theorem tw_807 : (Cond.laysFinal "RobotBusModel" "RobotBusModel" "aA" "[I") ∈ gtb := gtb_of (tb_4 (List.mem_of_getElem? (i := 87) (by decide +kernel))) (by decide +kernel)
theorem tw_809 : (Cond.laysFinal "RobotBusModel" "RobotBusModel" "aB" "[I") ∈ gtb := gtb_of (tb_4 (List.mem_of_getElem? (i := 89) (by decide +kernel))) (by decide +kernel)
theorem tw_811 : (Cond.laysFinal "RobotBusModel" "RobotBusModel" "latched" "[Z") ∈ gtb := gtb_of (tb_4 (List.mem_of_getElem? (i := 91) (by decide +kernel))) (by decide +kernel)
theorem tw_813 : (Cond.laysFinal "RobotBusModel" "RobotBusModel" "hasLast" "[Z") ∈ gtb := gtb_of (tb_4 (List.mem_of_getElem? (i := 93) (by decide +kernel))) (by decide +kernel)
theorem tw_815 : (Cond.laysFinal "RobotBusModel" "RobotBusModel" "lastValue" "[I") ∈ gtb := gtb_of (tb_4 (List.mem_of_getElem? (i := 95) (by decide +kernel))) (by decide +kernel)
theorem tw_817 : (Cond.laysFinal "RobotBusModel" "RobotBusModel" "lastSender" "[I") ∈ gtb := gtb_of (tb_4 (List.mem_of_getElem? (i := 97) (by decide +kernel))) (by decide +kernel)
theorem tw_819 : (Cond.laysFinal "RobotBusModel" "RobotBusModel" "lastStamp" "[I") ∈ gtb := gtb_of (tb_4 (List.mem_of_getElem? (i := 99) (by decide +kernel))) (by decide +kernel)
theorem tw_821 : (Cond.laysFinal "RobotBusModel" "RobotBusModel" "kept" "[Z") ∈ gtb := gtb_of (tb_4 (List.mem_of_getElem? (i := 101) (by decide +kernel))) (by decide +kernel)
theorem tw_823 : (Cond.laysFinal "RobotBusModel" "RobotBusModel" "by" "[I") ∈ gtb := gtb_of (tb_4 (List.mem_of_getElem? (i := 103) (by decide +kernel))) (by decide +kernel)
theorem tw_825 : (Cond.laysFinal "RobotBusModel" "RobotBusModel" "sKind" "[I") ∈ gtb := gtb_of (tb_4 (List.mem_of_getElem? (i := 105) (by decide +kernel))) (by decide +kernel)
theorem tw_827 : (Cond.laysFinal "RobotBusModel" "RobotBusModel" "sC" "[I") ∈ gtb := gtb_of (tb_4 (List.mem_of_getElem? (i := 107) (by decide +kernel))) (by decide +kernel)
theorem tw_829 : (Cond.laysFinal "RobotBusModel" "RobotBusModel" "sD" "[I") ∈ gtb := gtb_of (tb_4 (List.mem_of_getElem? (i := 109) (by decide +kernel))) (by decide +kernel)
theorem tw_831 : (Cond.laysFinal "RobotBusModel" "RobotBusModel" "bagTime" "[I") ∈ gtb := gtb_of (tb_4 (List.mem_of_getElem? (i := 111) (by decide +kernel))) (by decide +kernel)
theorem tw_833 : (Cond.laysFinal "RobotBusModel" "RobotBusModel" "bagTopic" "[I") ∈ gtb := gtb_of (tb_4 (List.mem_of_getElem? (i := 113) (by decide +kernel))) (by decide +kernel)
theorem tw_835 : (Cond.laysFinal "RobotBusModel" "RobotBusModel" "bagValue" "[I") ∈ gtb := gtb_of (tb_4 (List.mem_of_getElem? (i := 115) (by decide +kernel))) (by decide +kernel)
theorem tw_837 : (Cond.lays "RobotBusModel" "RobotBusModel" "bag" "I") ∈ gtb := gtb_of (tb_4 (List.mem_of_getElem? (i := 117) (by decide +kernel))) (by decide +kernel)
theorem tw_839 : (Cond.lays "RobotBusModel" "RobotBusModel" "playing" "Z") ∈ gtb := gtb_of (tb_4 (List.mem_of_getElem? (i := 119) (by decide +kernel))) (by decide +kernel)
theorem tw_841 : (Cond.lays "RobotBusModel" "RobotBusModel" "began" "I") ∈ gtb := gtb_of (tb_4 (List.mem_of_getElem? (i := 121) (by decide +kernel))) (by decide +kernel)
theorem tw_843 : (Cond.lays "RobotBusModel" "RobotBusModel" "speed" "I") ∈ gtb := gtb_of (tb_4 (List.mem_of_getElem? (i := 123) (by decide +kernel))) (by decide +kernel)
theorem tw_845 : (Cond.lays "RobotBusModel" "RobotBusModel" "nextRecord" "I") ∈ gtb := gtb_of (tb_4 (List.mem_of_getElem? (i := 125) (by decide +kernel))) (by decide +kernel)
theorem tw_847 : (Cond.lays "RobotBusModel" "RobotBusModel" "lastRecord" "I") ∈ gtb := gtb_of (tb_4 (List.mem_of_getElem? (i := 127) (by decide +kernel))) (by decide +kernel)
theorem tw_849 : (Cond.laysFinal "RobotBusModel" "RobotBusModel" "parent" "[I") ∈ gtb := gtb_of (tb_4 (List.mem_of_getElem? (i := 129) (by decide +kernel))) (by decide +kernel)
theorem tw_851 : (Cond.laysFinal "RobotBusModel" "RobotBusModel" "samples" "[I") ∈ gtb := gtb_of (tb_4 (List.mem_of_getElem? (i := 131) (by decide +kernel))) (by decide +kernel)
theorem tw_853 : (Cond.laysFinal "RobotBusModel" "RobotBusModel" "sTime" "[I") ∈ gtb := gtb_of (tb_4 (List.mem_of_getElem? (i := 133) (by decide +kernel))) (by decide +kernel)
theorem tw_855 : (Cond.laysFinal "RobotBusModel" "RobotBusModel" "sX" "[J") ∈ gtb := gtb_of (tb_4 (List.mem_of_getElem? (i := 135) (by decide +kernel))) (by decide +kernel)
theorem tw_857 : (Cond.laysFinal "RobotBusModel" "RobotBusModel" "sY" "[J") ∈ gtb := gtb_of (tb_4 (List.mem_of_getElem? (i := 137) (by decide +kernel))) (by decide +kernel)
theorem tw_859 : (Cond.laysFinal "RobotBusModel" "RobotBusModel" "sTurn" "[I") ∈ gtb := gtb_of (tb_4 (List.mem_of_getElem? (i := 139) (by decide +kernel))) (by decide +kernel)
theorem tw_861 : (Cond.lays "RobotBusModel" "RobotBusModel" "px" "J") ∈ gtb := gtb_of (tb_4 (List.mem_of_getElem? (i := 141) (by decide +kernel))) (by decide +kernel)
theorem tw_863 : (Cond.lays "RobotBusModel" "RobotBusModel" "py" "J") ∈ gtb := gtb_of (tb_4 (List.mem_of_getElem? (i := 143) (by decide +kernel))) (by decide +kernel)
theorem tw_865 : (Cond.lays "RobotBusModel" "RobotBusModel" "lastY" "D") ∈ gtb := gtb_of (tb_4 (List.mem_of_getElem? (i := 145) (by decide +kernel))) (by decide +kernel)
theorem tw_867 : (Cond.lays "RobotBusModel" "RobotBusModel" "lost" "I") ∈ gtb := gtb_of (tb_4 (List.mem_of_getElem? (i := 147) (by decide +kernel))) (by decide +kernel)
theorem tw_869 : (Cond.lays "RobotBusModel" "RobotBusModel" "published" "I") ∈ gtb := gtb_of (tb_4 (List.mem_of_getElem? (i := 149) (by decide +kernel))) (by decide +kernel)
theorem tw_871 : (Cond.lays "RobotBusModel" "RobotBusModel" "actions" "I") ∈ gtb := gtb_of (tb_4 (List.mem_of_getElem? (i := 151) (by decide +kernel))) (by decide +kernel)
theorem tw_873 : (Cond.lays "RobotBusModel" "RobotBusModel" "failures" "I") ∈ gtb := gtb_of (tb_4 (List.mem_of_getElem? (i := 153) (by decide +kernel))) (by decide +kernel)
theorem tw_875 : (Cond.lays "RobotBusModel" "RobotBusModel" "trouble" "I") ∈ gtb := gtb_of (tb_4 (List.mem_of_getElem? (i := 155) (by decide +kernel))) (by decide +kernel)
theorem tw_878 : (Cond.arrayClass FieldType.boolean) ∈ gtb := gtb_of (tb_4 (List.mem_of_getElem? (i := 158) (by decide +kernel))) (by decide +kernel)
theorem tw_879 : (Cond.arrayClass FieldType.long) ∈ gtb := gtb_of (tb_4 (List.mem_of_getElem? (i := 159) (by decide +kernel))) (by decide +kernel)
theorem tw_880 : (Cond.methodLink "RobotBusLaw" 95 y_Mdl_thrown) ∈ gtb := gtb_of (tb_4 (List.mem_of_getElem? (i := 160) (by decide +kernel))) (by decide +kernel)
theorem tw_881 : (Cond.instanceMethod y_Mdl_thrown) ∈ gtb := gtb_of (tb_4 (List.mem_of_getElem? (i := 161) (by decide +kernel))) (by decide +kernel)
theorem tw_882 : (Cond.selects "RobotBusModel" y_Mdl_thrown y_Mdl_thrown) ∈ gtb := gtb_of (tb_4 (List.mem_of_getElem? (i := 162) (by decide +kernel))) (by decide +kernel)
theorem tw_883 : (Cond.code y_Mdl_thrown prog_11_method_2_code 1 (some FieldType.int)) ∈ gtb := gtb_of (tb_4 (List.mem_of_getElem? (i := 163) rfl)) rfl
theorem tw_884 : (Cond.methodLink "RobotBusLaw" 94 y_Mdl_join) ∈ gtb := gtb_of (tb_4 (List.mem_of_getElem? (i := 164) (by decide +kernel))) (by decide +kernel)
theorem tw_885 : (Cond.instanceMethod y_Mdl_join) ∈ gtb := gtb_of (tb_4 (List.mem_of_getElem? (i := 165) (by decide +kernel))) (by decide +kernel)
theorem tw_886 : (Cond.selects "RobotBusModel" y_Mdl_join y_Mdl_join) ∈ gtb := gtb_of (tb_4 (List.mem_of_getElem? (i := 166) (by decide +kernel))) (by decide +kernel)
theorem tw_887 : (Cond.code y_Mdl_join prog_11_method_6_code 3 (some FieldType.int)) ∈ gtb := gtb_of (tb_4 (List.mem_of_getElem? (i := 167) rfl)) rfl
theorem tw_888 : (Cond.methodLink "RobotBusModel" 106 y_Mdl_in) ∈ gtb := gtb_of (tb_4 (List.mem_of_getElem? (i := 168) (by decide +kernel))) (by decide +kernel)
theorem tw_889 : (Cond.static y_Mdl_in) ∈ gtb := gtb_of (tb_4 (List.mem_of_getElem? (i := 169) (by decide +kernel))) (by decide +kernel)
theorem tw_890 : (Cond.code y_Mdl_in prog_11_method_4_code 3 (some FieldType.boolean)) ∈ gtb := gtb_of (tb_4 (List.mem_of_getElem? (i := 170) rfl)) rfl
theorem tw_891 : (Cond.methodLink "RobotBusModel" 110 y_Mdl_raise) ∈ gtb := gtb_of (tb_4 (List.mem_of_getElem? (i := 171) (by decide +kernel))) (by decide +kernel)
theorem tw_893 : (Cond.instanceMethod y_Mdl_raise) ∈ gtb := gtb_of (tb_4 (List.mem_of_getElem? (i := 173) (by decide +kernel))) (by decide +kernel)
theorem tw_894 : (Cond.code y_Mdl_raise prog_11_method_3_code 2 (some FieldType.int)) ∈ gtb := gtb_of (tb_4 (List.mem_of_getElem? (i := 174) rfl)) rfl
theorem tw_895 : (Cond.methodLink "RobotBusLaw" 100 y_Mdl_leave) ∈ gtb := gtb_of (tb_4 (List.mem_of_getElem? (i := 175) (by decide +kernel))) (by decide +kernel)
theorem tw_896 : (Cond.instanceMethod y_Mdl_leave) ∈ gtb := gtb_of (tb_4 (List.mem_of_getElem? (i := 176) (by decide +kernel))) (by decide +kernel)
theorem tw_897 : (Cond.selects "RobotBusModel" y_Mdl_leave y_Mdl_leave) ∈ gtb := gtb_of (tb_4 (List.mem_of_getElem? (i := 177) (by decide +kernel))) (by decide +kernel)
theorem tw_898 : (Cond.code y_Mdl_leave prog_11_method_7_code 4 (some FieldType.int)) ∈ gtb := gtb_of (tb_4 (List.mem_of_getElem? (i := 178) rfl)) rfl
theorem tw_899 : (Cond.methodLink "RobotBusModel" 114 y_Mdl_noNode) ∈ gtb := gtb_of (tb_4 (List.mem_of_getElem? (i := 179) (by decide +kernel))) (by decide +kernel)
theorem tw_901 : (Cond.instanceMethod y_Mdl_noNode) ∈ gtb := gtb_of (tb_4 (List.mem_of_getElem? (i := 181) (by decide +kernel))) (by decide +kernel)
theorem tw_902 : (Cond.code y_Mdl_noNode prog_11_method_5_code 2 (some FieldType.boolean)) ∈ gtb := gtb_of (tb_4 (List.mem_of_getElem? (i := 182) rfl)) rfl
theorem tw_903 : (Cond.methodLink "RobotBusLaw" 104 y_Mdl_latch) ∈ gtb := gtb_of (tb_4 (List.mem_of_getElem? (i := 183) (by decide +kernel))) (by decide +kernel)
theorem tw_904 : (Cond.instanceMethod y_Mdl_latch) ∈ gtb := gtb_of (tb_4 (List.mem_of_getElem? (i := 184) (by decide +kernel))) (by decide +kernel)
theorem tw_905 : (Cond.selects "RobotBusModel" y_Mdl_latch y_Mdl_latch) ∈ gtb := gtb_of (tb_4 (List.mem_of_getElem? (i := 185) (by decide +kernel))) (by decide +kernel)
theorem tw_906 : (Cond.code y_Mdl_latch prog_11_method_8_code 4 (some FieldType.int)) ∈ gtb := gtb_of (tb_4 (List.mem_of_getElem? (i := 186) rfl)) rfl
theorem tw_907 : (Cond.methodLink "RobotBusLaw" 108 y_Mdl_subscribe) ∈ gtb := gtb_of (tb_4 (List.mem_of_getElem? (i := 187) (by decide +kernel))) (by decide +kernel)
theorem tw_908 : (Cond.instanceMethod y_Mdl_subscribe) ∈ gtb := gtb_of (tb_4 (List.mem_of_getElem? (i := 188) (by decide +kernel))) (by decide +kernel)
theorem tw_909 : (Cond.selects "RobotBusModel" y_Mdl_subscribe y_Mdl_subscribe) ∈ gtb := gtb_of (tb_4 (List.mem_of_getElem? (i := 189) (by decide +kernel))) (by decide +kernel)
theorem tw_910 : (Cond.code y_Mdl_subscribe prog_11_method_12_code 6 (some FieldType.int)) ∈ gtb := gtb_of (tb_4 (List.mem_of_getElem? (i := 190) rfl)) rfl
theorem tw_911 : (Cond.methodLink "RobotBusModel" 131 y_Mdl_put) ∈ gtb := gtb_of (tb_4 (List.mem_of_getElem? (i := 191) (by decide +kernel))) (by decide +kernel)
theorem tw_913 : (Cond.instanceMethod y_Mdl_put) ∈ gtb := gtb_of (tb_4 (List.mem_of_getElem? (i := 193) (by decide +kernel))) (by decide +kernel)
theorem tw_914 : (Cond.code y_Mdl_put prog_11_method_10_code 6 (Option.none : Option Jvm.ClassFile.FieldType)) ∈ gtb := gtb_of (tb_4 (List.mem_of_getElem? (i := 194) rfl)) rfl
theorem tw_915 : (Cond.methodLink "RobotBusModel" 118 y_Mdl_shift) ∈ gtb := gtb_of (tb_4 (List.mem_of_getElem? (i := 195) (by decide +kernel))) (by decide +kernel)
theorem tw_917 : (Cond.instanceMethod y_Mdl_shift) ∈ gtb := gtb_of (tb_4 (List.mem_of_getElem? (i := 197) (by decide +kernel))) (by decide +kernel)
theorem tw_918 : (Cond.code y_Mdl_shift prog_11_method_9_code 3 (Option.none : Option Jvm.ClassFile.FieldType)) ∈ gtb := gtb_of (tb_4 (List.mem_of_getElem? (i := 198) rfl)) rfl
theorem tw_919 : (Cond.methodLink "RobotBusLaw" 112 y_Mdl_unsubscribe) ∈ gtb := gtb_of (tb_4 (List.mem_of_getElem? (i := 199) (by decide +kernel))) (by decide +kernel)
theorem tw_920 : (Cond.instanceMethod y_Mdl_unsubscribe) ∈ gtb := gtb_of (tb_4 (List.mem_of_getElem? (i := 200) (by decide +kernel))) (by decide +kernel)
theorem tw_921 : (Cond.selects "RobotBusModel" y_Mdl_unsubscribe y_Mdl_unsubscribe) ∈ gtb := gtb_of (tb_4 (List.mem_of_getElem? (i := 201) (by decide +kernel))) (by decide +kernel)
theorem tw_922 : (Cond.code y_Mdl_unsubscribe prog_11_method_13_code 5 (some FieldType.int)) ∈ gtb := gtb_of (tb_4 (List.mem_of_getElem? (i := 202) rfl)) rfl
theorem tw_923 : (Cond.methodLink "RobotBusLaw" 115 y_Mdl_publish) ∈ gtb := gtb_of (tb_4 (List.mem_of_getElem? (i := 203) (by decide +kernel))) (by decide +kernel)
theorem tw_924 : (Cond.instanceMethod y_Mdl_publish) ∈ gtb := gtb_of (tb_4 (List.mem_of_getElem? (i := 204) (by decide +kernel))) (by decide +kernel)
theorem tw_925 : (Cond.selects "RobotBusModel" y_Mdl_publish y_Mdl_publish) ∈ gtb := gtb_of (tb_4 (List.mem_of_getElem? (i := 205) (by decide +kernel))) (by decide +kernel)
theorem tw_926 : (Cond.code y_Mdl_publish prog_11_method_14_code 4 (some FieldType.int)) ∈ gtb := gtb_of (tb_4 (List.mem_of_getElem? (i := 206) rfl)) rfl
theorem tw_927 : (Cond.methodLink "RobotBusModel" 138 y_Mdl_send) ∈ gtb := gtb_of (tb_4 (List.mem_of_getElem? (i := 207) (by decide +kernel))) (by decide +kernel)
theorem tw_929 : (Cond.instanceMethod y_Mdl_send) ∈ gtb := gtb_of (tb_4 (List.mem_of_getElem? (i := 209) (by decide +kernel))) (by decide +kernel)
theorem tw_930 : (Cond.code y_Mdl_send prog_11_method_11_code 7 (some FieldType.int)) ∈ gtb := gtb_of (tb_4 (List.mem_of_getElem? (i := 210) rfl)) rfl
theorem tw_931 : (Cond.methodLink "RobotBusLaw" 119 y_Mdl_act) ∈ gtb := gtb_of (tb_4 (List.mem_of_getElem? (i := 211) (by decide +kernel))) (by decide +kernel)
theorem tw_932 : (Cond.instanceMethod y_Mdl_act) ∈ gtb := gtb_of (tb_4 (List.mem_of_getElem? (i := 212) (by decide +kernel))) (by decide +kernel)
theorem tw_933 : (Cond.selects "RobotBusModel" y_Mdl_act y_Mdl_act) ∈ gtb := gtb_of (tb_4 (List.mem_of_getElem? (i := 213) (by decide +kernel))) (by decide +kernel)
theorem tw_934 : (Cond.code y_Mdl_act prog_11_method_16_code 8 (some FieldType.int)) ∈ gtb := gtb_of (tb_4 (List.mem_of_getElem? (i := 214) rfl)) rfl
theorem tw_935 : (Cond.methodLink "RobotBusModel" 142 y_Mdl_actionFits) ∈ gtb := gtb_of (tb_4 (List.mem_of_getElem? (i := 215) (by decide +kernel))) (by decide +kernel)
theorem tw_936 : (Cond.static y_Mdl_actionFits) ∈ gtb := gtb_of (tb_4 (List.mem_of_getElem? (i := 216) (by decide +kernel))) (by decide +kernel)
theorem tw_937 : (Cond.code y_Mdl_actionFits prog_11_method_15_code 3 (some FieldType.boolean)) ∈ gtb := gtb_of (tb_4 (List.mem_of_getElem? (i := 217) rfl)) rfl
theorem tw_938 : (Cond.methodLink "RobotBusLaw" 122 y_Mdl_offer) ∈ gtb := gtb_of (tb_4 (List.mem_of_getElem? (i := 218) (by decide +kernel))) (by decide +kernel)
theorem tw_939 : (Cond.instanceMethod y_Mdl_offer) ∈ gtb := gtb_of (tb_4 (List.mem_of_getElem? (i := 219) (by decide +kernel))) (by decide +kernel)
theorem tw_940 : (Cond.selects "RobotBusModel" y_Mdl_offer y_Mdl_offer) ∈ gtb := gtb_of (tb_4 (List.mem_of_getElem? (i := 220) (by decide +kernel))) (by decide +kernel)
theorem tw_941 : (Cond.code y_Mdl_offer prog_11_method_18_code 7 (some FieldType.int)) ∈ gtb := gtb_of (tb_4 (List.mem_of_getElem? (i := 221) rfl)) rfl
theorem tw_942 : (Cond.methodLink "RobotBusModel" 145 y_Mdl_serviceFits) ∈ gtb := gtb_of (tb_4 (List.mem_of_getElem? (i := 222) (by decide +kernel))) (by decide +kernel)
theorem tw_943 : (Cond.static y_Mdl_serviceFits) ∈ gtb := gtb_of (tb_4 (List.mem_of_getElem? (i := 223) (by decide +kernel))) (by decide +kernel)
theorem tw_944 : (Cond.code y_Mdl_serviceFits prog_11_method_17_code 4 (some FieldType.boolean)) ∈ gtb := gtb_of (tb_4 (List.mem_of_getElem? (i := 224) rfl)) rfl
theorem tw_945 : (Cond.methodLink "RobotBusLaw" 125 y_Mdl_call) ∈ gtb := gtb_of (tb_4 (List.mem_of_getElem? (i := 225) (by decide +kernel))) (by decide +kernel)
theorem tw_946 : (Cond.instanceMethod y_Mdl_call) ∈ gtb := gtb_of (tb_4 (List.mem_of_getElem? (i := 226) (by decide +kernel))) (by decide +kernel)
theorem tw_947 : (Cond.selects "RobotBusModel" y_Mdl_call y_Mdl_call) ∈ gtb := gtb_of (tb_4 (List.mem_of_getElem? (i := 227) (by decide +kernel))) (by decide +kernel)
theorem tw_948 : (Cond.code y_Mdl_call prog_11_method_20_code 4 (some FieldType.int)) ∈ gtb := gtb_of (tb_4 (List.mem_of_getElem? (i := 228) rfl)) rfl
theorem tw_949 : (Cond.methodLink "RobotBusModel" 152 y_Mdl_ask) ∈ gtb := gtb_of (tb_4 (List.mem_of_getElem? (i := 229) (by decide +kernel))) (by decide +kernel)
theorem tw_951 : (Cond.instanceMethod y_Mdl_ask) ∈ gtb := gtb_of (tb_4 (List.mem_of_getElem? (i := 231) (by decide +kernel))) (by decide +kernel)
theorem tw_952 : (Cond.code y_Mdl_ask prog_11_method_19_code 6 (some FieldType.int)) ∈ gtb := gtb_of (tb_4 (List.mem_of_getElem? (i := 232) rfl)) rfl
theorem tw_953 : (Cond.methodLink "RobotBusLaw" 128 y_Mdl_tick) ∈ gtb := gtb_of (tb_4 (List.mem_of_getElem? (i := 233) (by decide +kernel))) (by decide +kernel)
theorem tw_954 : (Cond.instanceMethod y_Mdl_tick) ∈ gtb := gtb_of (tb_4 (List.mem_of_getElem? (i := 234) (by decide +kernel))) (by decide +kernel)
theorem tw_955 : (Cond.selects "RobotBusModel" y_Mdl_tick y_Mdl_tick) ∈ gtb := gtb_of (tb_4 (List.mem_of_getElem? (i := 235) (by decide +kernel))) (by decide +kernel)
theorem tw_956 : (Cond.code y_Mdl_tick prog_11_method_24_code 4 (some FieldType.int)) ∈ gtb := gtb_of (tb_4 (List.mem_of_getElem? (i := 236) rfl)) rfl
theorem tw_957 : (Cond.methodLink "RobotBusModel" 182 y_Mdl_playDue) ∈ gtb := gtb_of (tb_4 (List.mem_of_getElem? (i := 237) (by decide +kernel))) (by decide +kernel)
theorem tw_959 : (Cond.instanceMethod y_Mdl_playDue) ∈ gtb := gtb_of (tb_4 (List.mem_of_getElem? (i := 239) (by decide +kernel))) (by decide +kernel)
theorem tw_960 : (Cond.code y_Mdl_playDue prog_11_method_21_code 3 (Option.none : Option Jvm.ClassFile.FieldType)) ∈ gtb := gtb_of (tb_5 (List.mem_of_getElem? (i := 0) rfl)) rfl
theorem tw_961 : (Cond.methodLink "RobotBusModel" 185 y_Mdl_spin) ∈ gtb := gtb_of (tb_5 (List.mem_of_getElem? (i := 1) (by decide +kernel))) (by decide +kernel)
theorem tw_963 : (Cond.instanceMethod y_Mdl_spin) ∈ gtb := gtb_of (tb_5 (List.mem_of_getElem? (i := 3) (by decide +kernel))) (by decide +kernel)
theorem tw_964 : (Cond.code y_Mdl_spin prog_11_method_23_code 6 (Option.none : Option Jvm.ClassFile.FieldType)) ∈ gtb := gtb_of (tb_5 (List.mem_of_getElem? (i := 4) rfl)) rfl
theorem tw_965 : (Cond.methodLink "RobotBusModel" 178 y_Mdl_perform) ∈ gtb := gtb_of (tb_5 (List.mem_of_getElem? (i := 5) (by decide +kernel))) (by decide +kernel)
theorem tw_967 : (Cond.instanceMethod y_Mdl_perform) ∈ gtb := gtb_of (tb_5 (List.mem_of_getElem? (i := 7) (by decide +kernel))) (by decide +kernel)
theorem tw_968 : (Cond.code y_Mdl_perform prog_11_method_22_code 7 (Option.none : Option Jvm.ClassFile.FieldType)) ∈ gtb := gtb_of (tb_5 (List.mem_of_getElem? (i := 8) rfl)) rfl
theorem tw_969 : (Cond.methodLink "RobotBusLaw" 131 y_Mdl_variable) ∈ gtb := gtb_of (tb_5 (List.mem_of_getElem? (i := 9) (by decide +kernel))) (by decide +kernel)
theorem tw_970 : (Cond.instanceMethod y_Mdl_variable) ∈ gtb := gtb_of (tb_5 (List.mem_of_getElem? (i := 10) (by decide +kernel))) (by decide +kernel)
theorem tw_971 : (Cond.selects "RobotBusModel" y_Mdl_variable y_Mdl_variable) ∈ gtb := gtb_of (tb_5 (List.mem_of_getElem? (i := 11) (by decide +kernel))) (by decide +kernel)
theorem tw_972 : (Cond.code y_Mdl_variable prog_11_method_25_code 3 (some FieldType.int)) ∈ gtb := gtb_of (tb_5 (List.mem_of_getElem? (i := 12) rfl)) rfl
theorem tw_973 : (Cond.methodLink "RobotBusLaw" 135 y_Mdl_queued) ∈ gtb := gtb_of (tb_5 (List.mem_of_getElem? (i := 13) (by decide +kernel))) (by decide +kernel)
theorem tw_974 : (Cond.instanceMethod y_Mdl_queued) ∈ gtb := gtb_of (tb_5 (List.mem_of_getElem? (i := 14) (by decide +kernel))) (by decide +kernel)
theorem tw_975 : (Cond.selects "RobotBusModel" y_Mdl_queued y_Mdl_queued) ∈ gtb := gtb_of (tb_5 (List.mem_of_getElem? (i := 15) (by decide +kernel))) (by decide +kernel)
theorem tw_976 : (Cond.code y_Mdl_queued prog_11_method_26_code 6 (some FieldType.int)) ∈ gtb := gtb_of (tb_5 (List.mem_of_getElem? (i := 16) rfl)) rfl
theorem tw_977 : (Cond.methodLink "RobotBusLaw" 138 y_Mdl_keep) ∈ gtb := gtb_of (tb_5 (List.mem_of_getElem? (i := 17) (by decide +kernel))) (by decide +kernel)
theorem tw_978 : (Cond.instanceMethod y_Mdl_keep) ∈ gtb := gtb_of (tb_5 (List.mem_of_getElem? (i := 18) (by decide +kernel))) (by decide +kernel)
theorem tw_979 : (Cond.selects "RobotBusModel" y_Mdl_keep y_Mdl_keep) ∈ gtb := gtb_of (tb_5 (List.mem_of_getElem? (i := 19) (by decide +kernel))) (by decide +kernel)
theorem tw_980 : (Cond.code y_Mdl_keep prog_11_method_27_code 4 (some FieldType.int)) ∈ gtb := gtb_of (tb_5 (List.mem_of_getElem? (i := 20) rfl)) rfl
theorem tw_981 : (Cond.methodLink "RobotBusLaw" 141 y_Mdl_play) ∈ gtb := gtb_of (tb_5 (List.mem_of_getElem? (i := 21) (by decide +kernel))) (by decide +kernel)
theorem tw_982 : (Cond.instanceMethod y_Mdl_play) ∈ gtb := gtb_of (tb_5 (List.mem_of_getElem? (i := 22) (by decide +kernel))) (by decide +kernel)
theorem tw_983 : (Cond.selects "RobotBusModel" y_Mdl_play y_Mdl_play) ∈ gtb := gtb_of (tb_5 (List.mem_of_getElem? (i := 23) (by decide +kernel))) (by decide +kernel)
theorem tw_984 : (Cond.code y_Mdl_play prog_11_method_28_code 2 (some FieldType.int)) ∈ gtb := gtb_of (tb_5 (List.mem_of_getElem? (i := 24) rfl)) rfl
theorem tw_985 : (Cond.methodLink "RobotBusLaw" 145 y_Mdl_empty) ∈ gtb := gtb_of (tb_5 (List.mem_of_getElem? (i := 25) (by decide +kernel))) (by decide +kernel)
theorem tw_986 : (Cond.instanceMethod y_Mdl_empty) ∈ gtb := gtb_of (tb_5 (List.mem_of_getElem? (i := 26) (by decide +kernel))) (by decide +kernel)
theorem tw_987 : (Cond.selects "RobotBusModel" y_Mdl_empty y_Mdl_empty) ∈ gtb := gtb_of (tb_5 (List.mem_of_getElem? (i := 27) (by decide +kernel))) (by decide +kernel)
theorem tw_988 : (Cond.code y_Mdl_empty prog_11_method_29_code 2 (some FieldType.int)) ∈ gtb := gtb_of (tb_5 (List.mem_of_getElem? (i := 28) rfl)) rfl
theorem tw_989 : (Cond.methodLink "RobotBusLaw" 148 y_Mdl_mount) ∈ gtb := gtb_of (tb_5 (List.mem_of_getElem? (i := 29) (by decide +kernel))) (by decide +kernel)
theorem tw_990 : (Cond.instanceMethod y_Mdl_mount) ∈ gtb := gtb_of (tb_5 (List.mem_of_getElem? (i := 30) (by decide +kernel))) (by decide +kernel)
theorem tw_991 : (Cond.selects "RobotBusModel" y_Mdl_mount y_Mdl_mount) ∈ gtb := gtb_of (tb_5 (List.mem_of_getElem? (i := 31) (by decide +kernel))) (by decide +kernel)
theorem tw_992 : (Cond.code y_Mdl_mount prog_11_method_30_code 4 (some FieldType.int)) ∈ gtb := gtb_of (tb_5 (List.mem_of_getElem? (i := 32) rfl)) rfl
theorem tw_993 : (Cond.methodLink "RobotBusLaw" 154 y_Mdl_sample) ∈ gtb := gtb_of (tb_5 (List.mem_of_getElem? (i := 33) (by decide +kernel))) (by decide +kernel)
theorem tw_994 : (Cond.instanceMethod y_Mdl_sample) ∈ gtb := gtb_of (tb_5 (List.mem_of_getElem? (i := 34) (by decide +kernel))) (by decide +kernel)
theorem tw_995 : (Cond.selects "RobotBusModel" y_Mdl_sample y_Mdl_sample) ∈ gtb := gtb_of (tb_5 (List.mem_of_getElem? (i := 35) (by decide +kernel))) (by decide +kernel)
theorem tw_996 : (Cond.code y_Mdl_sample prog_11_method_32_code 10 (some FieldType.int)) ∈ gtb := gtb_of (tb_5 (List.mem_of_getElem? (i := 36) rfl)) rfl
theorem tw_997 : (Cond.methodLink "RobotBusModel" 194 y_Mdl_near) ∈ gtb := gtb_of (tb_5 (List.mem_of_getElem? (i := 37) (by decide +kernel))) (by decide +kernel)
theorem tw_998 : (Cond.static y_Mdl_near) ∈ gtb := gtb_of (tb_5 (List.mem_of_getElem? (i := 38) (by decide +kernel))) (by decide +kernel)
theorem tw_999 : (Cond.code y_Mdl_near prog_11_method_31_code 2 (some FieldType.boolean)) ∈ gtb := gtb_of (tb_5 (List.mem_of_getElem? (i := 39) rfl)) rfl
theorem tw_1000 : (Cond.constantDouble "RobotBusModel" 188 13875590451928498176) ∈ gtb := gtb_of (tb_5 (List.mem_of_getElem? (i := 40) (by decide +kernel))) (by decide +kernel)
theorem tw_1001 : (Cond.constantDouble "RobotBusModel" 190 4652218415073722368) ∈ gtb := gtb_of (tb_5 (List.mem_of_getElem? (i := 41) (by decide +kernel))) (by decide +kernel)
theorem tw_1002 : (Cond.constantDouble "RobotBusModel" 192 4620693217682128896) ∈ gtb := gtb_of (tb_5 (List.mem_of_getElem? (i := 42) (by decide +kernel))) (by decide +kernel)
theorem tw_1003 : (Cond.constant "RobotBusModel" 198 100000) ∈ gtb := gtb_of (tb_5 (List.mem_of_getElem? (i := 43) (by decide +kernel))) (by decide +kernel)
theorem tw_1004 : (Cond.methodLink "RobotBusLaw" 158 y_Mdl_locate) ∈ gtb := gtb_of (tb_5 (List.mem_of_getElem? (i := 44) (by decide +kernel))) (by decide +kernel)
theorem tw_1005 : (Cond.instanceMethod y_Mdl_locate) ∈ gtb := gtb_of (tb_5 (List.mem_of_getElem? (i := 45) (by decide +kernel))) (by decide +kernel)
theorem tw_1006 : (Cond.selects "RobotBusModel" y_Mdl_locate y_Mdl_locate) ∈ gtb := gtb_of (tb_5 (List.mem_of_getElem? (i := 46) (by decide +kernel))) (by decide +kernel)
theorem tw_1007 : (Cond.code y_Mdl_locate prog_11_method_35_code 8 (some FieldType.double)) ∈ gtb := gtb_of (tb_5 (List.mem_of_getElem? (i := 47) rfl)) rfl
theorem tw_1008 : (Cond.methodLink "RobotBusModel" 210 y_Mdl_rise) ∈ gtb := gtb_of (tb_5 (List.mem_of_getElem? (i := 48) (by decide +kernel))) (by decide +kernel)
theorem tw_1010 : (Cond.instanceMethod y_Mdl_rise) ∈ gtb := gtb_of (tb_5 (List.mem_of_getElem? (i := 50) (by decide +kernel))) (by decide +kernel)
theorem tw_1011 : (Cond.code y_Mdl_rise prog_11_method_34_code 14 (some FieldType.boolean)) ∈ gtb := gtb_of (tb_5 (List.mem_of_getElem? (i := 51) rfl)) rfl
theorem tw_1012 : (Cond.methodLink "RobotBusModel" 199 y_Mdl_between) ∈ gtb := gtb_of (tb_5 (List.mem_of_getElem? (i := 52) (by decide +kernel))) (by decide +kernel)
theorem tw_1013 : (Cond.static y_Mdl_between) ∈ gtb := gtb_of (tb_5 (List.mem_of_getElem? (i := 53) (by decide +kernel))) (by decide +kernel)
theorem tw_1014 : (Cond.code y_Mdl_between prog_11_method_33_code 10 (some FieldType.long)) ∈ gtb := gtb_of (tb_5 (List.mem_of_getElem? (i := 54) rfl)) rfl
theorem tw_1015 : (Cond.constantDouble "RobotBusModel" 214 4593671619917905920) ∈ gtb := gtb_of (tb_5 (List.mem_of_getElem? (i := 55) (by decide +kernel))) (by decide +kernel)
theorem tw_1016 : (Cond.methodLink "RobotBusLaw" 163 y_Mdl_lastY) ∈ gtb := gtb_of (tb_5 (List.mem_of_getElem? (i := 56) (by decide +kernel))) (by decide +kernel)
theorem tw_1017 : (Cond.instanceMethod y_Mdl_lastY) ∈ gtb := gtb_of (tb_5 (List.mem_of_getElem? (i := 57) (by decide +kernel))) (by decide +kernel)
theorem tw_1018 : (Cond.selects "RobotBusModel" y_Mdl_lastY y_Mdl_lastY) ∈ gtb := gtb_of (tb_5 (List.mem_of_getElem? (i := 58) (by decide +kernel))) (by decide +kernel)
theorem tw_1019 : (Cond.code y_Mdl_lastY prog_11_method_36_code 1 (some FieldType.double)) ∈ gtb := gtb_of (tb_5 (List.mem_of_getElem? (i := 59) rfl)) rfl
theorem tw_1020 : (Cond.methodLink "RobotBusLaw" 166 y_Mdl_count) ∈ gtb := gtb_of (tb_5 (List.mem_of_getElem? (i := 60) (by decide +kernel))) (by decide +kernel)
theorem tw_1021 : (Cond.instanceMethod y_Mdl_count) ∈ gtb := gtb_of (tb_5 (List.mem_of_getElem? (i := 61) (by decide +kernel))) (by decide +kernel)
theorem tw_1022 : (Cond.selects "RobotBusModel" y_Mdl_count y_Mdl_count) ∈ gtb := gtb_of (tb_5 (List.mem_of_getElem? (i := 62) (by decide +kernel))) (by decide +kernel)
theorem tw_1023 : (Cond.code y_Mdl_count prog_11_method_37_code 2 (some FieldType.int)) ∈ gtb := gtb_of (tb_5 (List.mem_of_getElem? (i := 63) rfl)) rfl
theorem tw_1024 : (Cond.constantDouble "RobotBusLaw" 149 4593671619917905920) ∈ gtb := gtb_of (tb_5 (List.mem_of_getElem? (i := 64) (by decide +kernel))) (by decide +kernel)
theorem tw_1025 : (Cond.arrayClass FieldType.double) ∈ gtb := gtb_of (tb_5 (List.mem_of_getElem? (i := 65) (by decide +kernel))) (by decide +kernel)
theorem tp_Bus_isThere : Cond.selects "RobotBus" y_Bus_isThere y_Bus_isThere ∈ gtb := List.mem_filter.mpr ⟨List.mem_append_left _ (List.mem_of_getElem? (i := 1) (by decide +kernel)), by decide +kernel⟩
theorem tp_Bus_send : Cond.selects "RobotBus" y_Bus_send y_Bus_send ∈ gtb := List.mem_filter.mpr ⟨List.mem_append_left _ (List.mem_of_getElem? (i := 2) (by decide +kernel)), by decide +kernel⟩
theorem tp_Bus_ask : Cond.selects "RobotBus" y_Bus_ask y_Bus_ask ∈ gtb := List.mem_filter.mpr ⟨List.mem_append_left _ (List.mem_of_getElem? (i := 3) (by decide +kernel)), by decide +kernel⟩
theorem tp_Bus_compute : Cond.selects "RobotBus" y_Bus_compute y_Bus_compute ∈ gtb := List.mem_filter.mpr ⟨List.mem_append_left _ (List.mem_of_getElem? (i := 4) (by decide +kernel)), by decide +kernel⟩
theorem tp_Bus_passOneTick : Cond.selects "RobotBus" y_Bus_passOneTick y_Bus_passOneTick ∈ gtb := List.mem_filter.mpr ⟨List.mem_append_left _ (List.mem_of_getElem? (i := 5) (by decide +kernel)), by decide +kernel⟩
theorem tp_Bus_spin : Cond.selects "RobotBus" y_Bus_spin y_Bus_spin ∈ gtb := List.mem_filter.mpr ⟨List.mem_append_left _ (List.mem_of_getElem? (i := 6) (by decide +kernel)), by decide +kernel⟩
theorem tp_Bus_perform : Cond.selects "RobotBus" y_Bus_perform y_Bus_perform ∈ gtb := List.mem_filter.mpr ⟨List.mem_append_left _ (List.mem_of_getElem? (i := 7) (by decide +kernel)), by decide +kernel⟩
theorem tp_Bus_isAbove : Cond.selects "RobotBus" y_Bus_isAbove y_Bus_isAbove ∈ gtb := List.mem_filter.mpr ⟨List.mem_append_left _ (List.mem_of_getElem? (i := 8) (by decide +kernel)), by decide +kernel⟩
theorem tp_Bus_liftToRoot : Cond.selects "RobotBus" y_Bus_liftToRoot y_Bus_liftToRoot ∈ gtb := List.mem_filter.mpr ⟨List.mem_append_left _ (List.mem_of_getElem? (i := 9) (by decide +kernel)), by decide +kernel⟩
theorem tp_Mdl_raise : Cond.selects "RobotBusModel" y_Mdl_raise y_Mdl_raise ∈ gtb := List.mem_filter.mpr ⟨List.mem_append_left _ (List.mem_of_getElem? (i := 10) (by decide +kernel)), by decide +kernel⟩
theorem tp_Mdl_noNode : Cond.selects "RobotBusModel" y_Mdl_noNode y_Mdl_noNode ∈ gtb := List.mem_filter.mpr ⟨List.mem_append_left _ (List.mem_of_getElem? (i := 11) (by decide +kernel)), by decide +kernel⟩
theorem tp_Mdl_put : Cond.selects "RobotBusModel" y_Mdl_put y_Mdl_put ∈ gtb := List.mem_filter.mpr ⟨List.mem_append_left _ (List.mem_of_getElem? (i := 12) (by decide +kernel)), by decide +kernel⟩
theorem tp_Mdl_shift : Cond.selects "RobotBusModel" y_Mdl_shift y_Mdl_shift ∈ gtb := List.mem_filter.mpr ⟨List.mem_append_left _ (List.mem_of_getElem? (i := 13) (by decide +kernel)), by decide +kernel⟩
theorem tp_Mdl_send : Cond.selects "RobotBusModel" y_Mdl_send y_Mdl_send ∈ gtb := List.mem_filter.mpr ⟨List.mem_append_left _ (List.mem_of_getElem? (i := 14) (by decide +kernel)), by decide +kernel⟩
theorem tp_Mdl_ask : Cond.selects "RobotBusModel" y_Mdl_ask y_Mdl_ask ∈ gtb := List.mem_filter.mpr ⟨List.mem_append_left _ (List.mem_of_getElem? (i := 15) (by decide +kernel)), by decide +kernel⟩
theorem tp_Mdl_playDue : Cond.selects "RobotBusModel" y_Mdl_playDue y_Mdl_playDue ∈ gtb := List.mem_filter.mpr ⟨List.mem_append_left _ (List.mem_of_getElem? (i := 16) (by decide +kernel)), by decide +kernel⟩
theorem tp_Mdl_spin : Cond.selects "RobotBusModel" y_Mdl_spin y_Mdl_spin ∈ gtb := List.mem_filter.mpr ⟨List.mem_append_left _ (List.mem_of_getElem? (i := 17) (by decide +kernel)), by decide +kernel⟩
theorem tp_Mdl_perform : Cond.selects "RobotBusModel" y_Mdl_perform y_Mdl_perform ∈ gtb := List.mem_filter.mpr ⟨List.mem_append_left _ (List.mem_of_getElem? (i := 18) (by decide +kernel)), by decide +kernel⟩
theorem tp_Mdl_rise : Cond.selects "RobotBusModel" y_Mdl_rise y_Mdl_rise ∈ gtb := List.mem_filter.mpr ⟨List.mem_append_left _ (List.mem_of_getElem? (i := 19) (by decide +kernel)), by decide +kernel⟩
theorem in_Bus : ∀ w ∈ u_ws R_Bus F_Bus 13, w ∈ gtb := by
  intro w hw
  obtain ⟨k, hk, rfl⟩ := List.mem_map.mp hw
  have hk := List.mem_range.mp hk
  by_cases h0 : k = 0
  · subst h0; exact tw_246
  by_cases h1 : k = 1
  · subst h1; exact tw_248
  by_cases h2 : k = 2
  · subst h2; exact tw_250
  by_cases h3 : k = 3
  · subst h3; exact tw_252
  by_cases h4 : k = 4
  · subst h4; exact tw_254
  by_cases h5 : k = 5
  · subst h5; exact tw_256
  by_cases h6 : k = 6
  · subst h6; exact tw_258
  by_cases h7 : k = 7
  · subst h7; exact tw_260
  by_cases h8 : k = 8
  · subst h8; exact tw_262
  by_cases h9 : k = 9
  · subst h9; exact tw_264
  by_cases h10 : k = 10
  · subst h10; exact tw_266
  by_cases h11 : k = 11
  · subst h11; exact tw_268
  by_cases h12 : k = 12
  · subst h12; exact tw_270
  omega
theorem in_Nod : ∀ w ∈ u_ws R_Nod F_Nod 5, w ∈ gtb := by
  intro w hw
  obtain ⟨k, hk, rfl⟩ := List.mem_map.mp hw
  have hk := List.mem_range.mp hk
  by_cases h0 : k = 0
  · subst h0; exact tw_141
  by_cases h1 : k = 1
  · subst h1; exact tw_143
  by_cases h2 : k = 2
  · subst h2; exact tw_145
  by_cases h3 : k = 3
  · subst h3; exact tw_147
  by_cases h4 : k = 4
  · subst h4; exact tw_149
  omega
theorem in_Que : ∀ w ∈ u_ws R_Que F_Que 3, w ∈ gtb := by
  intro w hw
  obtain ⟨k, hk, rfl⟩ := List.mem_map.mp hw
  have hk := List.mem_range.mp hk
  by_cases h0 : k = 0
  · subst h0; exact tw_106
  by_cases h1 : k = 1
  · subst h1; exact tw_108
  by_cases h2 : k = 2
  · subst h2; exact tw_110
  omega
theorem in_Act : ∀ w ∈ u_ws R_Act F_Act 3, w ∈ gtb := by
  intro w hw
  obtain ⟨k, hk, rfl⟩ := List.mem_map.mp hw
  have hk := List.mem_range.mp hk
  by_cases h0 : k = 0
  · subst h0; exact tw_125
  by_cases h1 : k = 1
  · subst h1; exact tw_127
  by_cases h2 : k = 2
  · subst h2; exact tw_129
  omega
theorem in_Top : ∀ w ∈ u_ws R_Top F_Top 6, w ∈ gtb := by
  intro w hw
  obtain ⟨k, hk, rfl⟩ := List.mem_map.mp hw
  have hk := List.mem_range.mp hk
  by_cases h0 : k = 0
  · subst h0; exact tw_169
  by_cases h1 : k = 1
  · subst h1; exact tw_171
  by_cases h2 : k = 2
  · subst h2; exact tw_173
  by_cases h3 : k = 3
  · subst h3; exact tw_175
  by_cases h4 : k = 4
  · subst h4; exact tw_177
  by_cases h5 : k = 5
  · subst h5; exact tw_179
  omega
theorem in_Srv : ∀ w ∈ u_ws R_Srv F_Srv 4, w ∈ gtb := by
  intro w hw
  obtain ⟨k, hk, rfl⟩ := List.mem_map.mp hw
  have hk := List.mem_range.mp hk
  by_cases h0 : k = 0
  · subst h0; exact tw_195
  by_cases h1 : k = 1
  · subst h1; exact tw_197
  by_cases h2 : k = 2
  · subst h2; exact tw_199
  by_cases h3 : k = 3
  · subst h3; exact tw_201
  omega
theorem in_Frm : ∀ w ∈ u_ws R_Frm F_Frm 6, w ∈ gtb := by
  intro w hw
  obtain ⟨k, hk, rfl⟩ := List.mem_map.mp hw
  have hk := List.mem_range.mp hk
  by_cases h0 : k = 0
  · subst h0; exact tw_220
  by_cases h1 : k = 1
  · subst h1; exact tw_222
  by_cases h2 : k = 2
  · subst h2; exact tw_224
  by_cases h3 : k = 3
  · subst h3; exact tw_226
  by_cases h4 : k = 4
  · subst h4; exact tw_228
  by_cases h5 : k = 5
  · subst h5; exact tw_230
  omega
theorem in_Bag : ∀ w ∈ u_ws R_Bag F_Bag 8, w ∈ gtb := by
  intro w hw
  obtain ⟨k, hk, rfl⟩ := List.mem_map.mp hw
  have hk := List.mem_range.mp hk
  by_cases h0 : k = 0
  · subst h0; exact tw_54
  by_cases h1 : k = 1
  · subst h1; exact tw_56
  by_cases h2 : k = 2
  · subst h2; exact tw_58
  by_cases h3 : k = 3
  · subst h3; exact tw_60
  by_cases h4 : k = 4
  · subst h4; exact tw_62
  by_cases h5 : k = 5
  · subst h5; exact tw_64
  by_cases h6 : k = 6
  · subst h6; exact tw_66
  by_cases h7 : k = 7
  · subst h7; exact tw_68
  omega
theorem in_Pnt : ∀ w ∈ u_ws R_Pnt F_Pnt 2, w ∈ gtb := by
  intro w hw
  obtain ⟨k, hk, rfl⟩ := List.mem_map.mp hw
  have hk := List.mem_range.mp hk
  by_cases h0 : k = 0
  · subst h0; exact tw_82
  by_cases h1 : k = 1
  · subst h1; exact tw_84
  omega
theorem in_Mdl : ∀ w ∈ u_ws R_Mdl F_Mdl 46, w ∈ gtb := by
  intro w hw
  obtain ⟨k, hk, rfl⟩ := List.mem_map.mp hw
  have hk := List.mem_range.mp hk
  by_cases h0 : k = 0
  · subst h0; exact tw_785
  by_cases h1 : k = 1
  · subst h1; exact tw_787
  by_cases h2 : k = 2
  · subst h2; exact tw_789
  by_cases h3 : k = 3
  · subst h3; exact tw_791
  by_cases h4 : k = 4
  · subst h4; exact tw_793
  by_cases h5 : k = 5
  · subst h5; exact tw_795
  by_cases h6 : k = 6
  · subst h6; exact tw_797
  by_cases h7 : k = 7
  · subst h7; exact tw_799
  by_cases h8 : k = 8
  · subst h8; exact tw_801
  by_cases h9 : k = 9
  · subst h9; exact tw_803
  by_cases h10 : k = 10
  · subst h10; exact tw_805
  by_cases h11 : k = 11
  · subst h11; exact tw_807
  by_cases h12 : k = 12
  · subst h12; exact tw_809
  by_cases h13 : k = 13
  · subst h13; exact tw_811
  by_cases h14 : k = 14
  · subst h14; exact tw_813
  by_cases h15 : k = 15
  · subst h15; exact tw_815
  by_cases h16 : k = 16
  · subst h16; exact tw_817
  by_cases h17 : k = 17
  · subst h17; exact tw_819
  by_cases h18 : k = 18
  · subst h18; exact tw_821
  by_cases h19 : k = 19
  · subst h19; exact tw_823
  by_cases h20 : k = 20
  · subst h20; exact tw_825
  by_cases h21 : k = 21
  · subst h21; exact tw_827
  by_cases h22 : k = 22
  · subst h22; exact tw_829
  by_cases h23 : k = 23
  · subst h23; exact tw_831
  by_cases h24 : k = 24
  · subst h24; exact tw_833
  by_cases h25 : k = 25
  · subst h25; exact tw_835
  by_cases h26 : k = 26
  · subst h26; exact tw_837
  by_cases h27 : k = 27
  · subst h27; exact tw_839
  by_cases h28 : k = 28
  · subst h28; exact tw_841
  by_cases h29 : k = 29
  · subst h29; exact tw_843
  by_cases h30 : k = 30
  · subst h30; exact tw_845
  by_cases h31 : k = 31
  · subst h31; exact tw_847
  by_cases h32 : k = 32
  · subst h32; exact tw_849
  by_cases h33 : k = 33
  · subst h33; exact tw_851
  by_cases h34 : k = 34
  · subst h34; exact tw_853
  by_cases h35 : k = 35
  · subst h35; exact tw_855
  by_cases h36 : k = 36
  · subst h36; exact tw_857
  by_cases h37 : k = 37
  · subst h37; exact tw_859
  by_cases h38 : k = 38
  · subst h38; exact tw_861
  by_cases h39 : k = 39
  · subst h39; exact tw_863
  by_cases h40 : k = 40
  · subst h40; exact tw_865
  by_cases h41 : k = 41
  · subst h41; exact tw_867
  by_cases h42 : k = 42
  · subst h42; exact tw_869
  by_cases h43 : k = 43
  · subst h43; exact tw_871
  by_cases h44 : k = 44
  · subst h44; exact tw_873
  by_cases h45 : k = 45
  · subst h45; exact tw_875
  omega
end
section
theorem d_Que_init_0 : decode b_Que_init 0 = .ok (.aload_n 0, 1) := by decide +kernel
theorem d_Que_init_1 : decode b_Que_init 1 = .ok (.invokespecial 3, 3) := by decide +kernel
theorem d_Que_init_4 : decode b_Que_init 4 = .ok (.aload_n 0, 1) := by decide +kernel
theorem d_Que_init_5 : decode b_Que_init 5 = .ok (.bipush 12, 2) := by decide +kernel
theorem d_Que_init_7 : decode b_Que_init 7 = .ok (.newarray .int, 2) := by decide +kernel
theorem d_Que_init_9 : decode b_Que_init 9 = .ok (.putfield 11, 3) := by decide +kernel
theorem d_Que_init_12 : decode b_Que_init 12 = .ok (.aload_n 0, 1) := by decide +kernel
theorem d_Que_init_13 : decode b_Que_init 13 = .ok (.iconst 0, 1) := by decide +kernel
theorem d_Que_init_14 : decode b_Que_init 14 = .ok (.putfield 15, 3) := by decide +kernel
theorem d_Que_init_17 : decode b_Que_init 17 = .ok (.aload_n 0, 1) := by decide +kernel
theorem d_Que_init_18 : decode b_Que_init 18 = .ok (.iconst 0, 1) := by decide +kernel
theorem d_Que_init_19 : decode b_Que_init 19 = .ok (.putfield 19, 3) := by decide +kernel
theorem d_Que_init_22 : decode b_Que_init 22 = .ok (.return_, 1) := by decide +kernel
theorem d_Que_close_0 : decode b_Que_close 0 = .ok (.aload_n 0, 1) := by decide +kernel
theorem d_Que_close_1 : decode b_Que_close 1 = .ok (.getfield 19, 3) := by decide +kernel
theorem d_Que_close_4 : decode b_Que_close 4 = .ok (.istore_n 1, 1) := by decide +kernel
theorem d_Que_close_5 : decode b_Que_close 5 = .ok (.aload_n 0, 1) := by decide +kernel
theorem d_Que_close_6 : decode b_Que_close 6 = .ok (.iconst 0, 1) := by decide +kernel
theorem d_Que_close_7 : decode b_Que_close 7 = .ok (.putfield 15, 3) := by decide +kernel
theorem d_Que_close_10 : decode b_Que_close 10 = .ok (.aload_n 0, 1) := by decide +kernel
theorem d_Que_close_11 : decode b_Que_close 11 = .ok (.iconst 0, 1) := by decide +kernel
theorem d_Que_close_12 : decode b_Que_close 12 = .ok (.putfield 19, 3) := by decide +kernel
theorem d_Que_close_15 : decode b_Que_close 15 = .ok (.iload_n 1, 1) := by decide +kernel
theorem d_Que_close_16 : decode b_Que_close 16 = .ok (.ireturn, 1) := by decide +kernel
theorem d_Que_isOpen_0 : decode b_Que_isOpen 0 = .ok (.aload_n 0, 1) := by decide +kernel
theorem d_Que_isOpen_1 : decode b_Que_isOpen 1 = .ok (.getfield 15, 3) := by decide +kernel
theorem d_Que_isOpen_4 : decode b_Que_isOpen 4 = .ok (.ifCond .le 7, 3) := by decide +kernel
theorem d_Que_isOpen_7 : decode b_Que_isOpen 7 = .ok (.iconst 1, 1) := by decide +kernel
theorem d_Que_isOpen_8 : decode b_Que_isOpen 8 = .ok (.goto 4, 3) := by decide +kernel
theorem d_Que_isOpen_11 : decode b_Que_isOpen 11 = .ok (.iconst 0, 1) := by decide +kernel
theorem d_Que_isOpen_12 : decode b_Que_isOpen 12 = .ok (.ireturn, 1) := by decide +kernel
theorem d_Que_deepen_0 : decode b_Que_deepen 0 = .ok (.iconst 0, 1) := by decide +kernel
theorem d_Que_deepen_1 : decode b_Que_deepen 1 = .ok (.aload_n 0, 1) := by decide +kernel
theorem d_Que_deepen_2 : decode b_Que_deepen 2 = .ok (.getfield 19, 3) := by decide +kernel
theorem d_Que_deepen_5 : decode b_Que_deepen 5 = .ok (.iload_n 1, 1) := by decide +kernel
theorem d_Que_deepen_6 : decode b_Que_deepen 6 = .ok (.isub, 1) := by decide +kernel
theorem d_Que_deepen_7 : decode b_Que_deepen 7 = .ok (.invokestatic 22, 3) := by decide +kernel
theorem d_Que_deepen_10 : decode b_Que_deepen 10 = .ok (.istore_n 2, 1) := by decide +kernel
theorem d_Que_deepen_11 : decode b_Que_deepen 11 = .ok (.aload_n 0, 1) := by decide +kernel
theorem d_Que_deepen_12 : decode b_Que_deepen 12 = .ok (.iload_n 2, 1) := by decide +kernel
theorem d_Que_deepen_13 : decode b_Que_deepen 13 = .ok (.invokevirtual 28, 3) := by decide +kernel
theorem d_Que_deepen_16 : decode b_Que_deepen 16 = .ok (.aload_n 0, 1) := by decide +kernel
theorem d_Que_deepen_17 : decode b_Que_deepen 17 = .ok (.iload_n 1, 1) := by decide +kernel
theorem d_Que_deepen_18 : decode b_Que_deepen 18 = .ok (.putfield 15, 3) := by decide +kernel
theorem d_Que_deepen_21 : decode b_Que_deepen 21 = .ok (.iload_n 2, 1) := by decide +kernel
theorem d_Que_deepen_22 : decode b_Que_deepen 22 = .ok (.ireturn, 1) := by decide +kernel
theorem d_Que_dropOldest_0 : decode b_Que_dropOldest 0 = .ok (.aload_n 0, 1) := by decide +kernel
theorem d_Que_dropOldest_1 : decode b_Que_dropOldest 1 = .ok (.dup, 1) := by decide +kernel
theorem d_Que_dropOldest_2 : decode b_Que_dropOldest 2 = .ok (.getfield 19, 3) := by decide +kernel
theorem d_Que_dropOldest_5 : decode b_Que_dropOldest 5 = .ok (.iload_n 1, 1) := by decide +kernel
theorem d_Que_dropOldest_6 : decode b_Que_dropOldest 6 = .ok (.isub, 1) := by decide +kernel
theorem d_Que_dropOldest_7 : decode b_Que_dropOldest 7 = .ok (.putfield 19, 3) := by decide +kernel
theorem d_Que_dropOldest_10 : decode b_Que_dropOldest 10 = .ok (.aload_n 0, 1) := by decide +kernel
theorem d_Que_dropOldest_11 : decode b_Que_dropOldest 11 = .ok (.getfield 11, 3) := by decide +kernel
theorem d_Que_dropOldest_14 : decode b_Que_dropOldest 14 = .ok (.iload_n 1, 1) := by decide +kernel
theorem d_Que_dropOldest_15 : decode b_Que_dropOldest 15 = .ok (.iconst 3, 1) := by decide +kernel
theorem d_Que_dropOldest_16 : decode b_Que_dropOldest 16 = .ok (.imul, 1) := by decide +kernel
theorem d_Que_dropOldest_17 : decode b_Que_dropOldest 17 = .ok (.aload_n 0, 1) := by decide +kernel
theorem d_Que_dropOldest_18 : decode b_Que_dropOldest 18 = .ok (.getfield 11, 3) := by decide +kernel
theorem d_Que_dropOldest_21 : decode b_Que_dropOldest 21 = .ok (.iconst 0, 1) := by decide +kernel
theorem d_Que_dropOldest_22 : decode b_Que_dropOldest 22 = .ok (.aload_n 0, 1) := by decide +kernel
theorem d_Que_dropOldest_23 : decode b_Que_dropOldest 23 = .ok (.getfield 19, 3) := by decide +kernel
theorem d_Que_dropOldest_26 : decode b_Que_dropOldest 26 = .ok (.iconst 3, 1) := by decide +kernel
theorem d_Que_dropOldest_27 : decode b_Que_dropOldest 27 = .ok (.imul, 1) := by decide +kernel
theorem d_Que_dropOldest_28 : decode b_Que_dropOldest 28 = .ok (.invokestatic 32, 3) := by decide +kernel
theorem d_Que_dropOldest_31 : decode b_Que_dropOldest 31 = .ok (.return_, 1) := by decide +kernel
theorem d_Que_append_0 : decode b_Que_append 0 = .ok (.aload_n 0, 1) := by decide +kernel
theorem d_Que_append_1 : decode b_Que_append 1 = .ok (.getfield 19, 3) := by decide +kernel
theorem d_Que_append_4 : decode b_Que_append 4 = .ok (.aload_n 0, 1) := by decide +kernel
theorem d_Que_append_5 : decode b_Que_append 5 = .ok (.getfield 15, 3) := by decide +kernel
theorem d_Que_append_8 : decode b_Que_append 8 = .ok (.if_icmp .ge 7, 3) := by decide +kernel
theorem d_Que_append_11 : decode b_Que_append 11 = .ok (.iconst 0, 1) := by decide +kernel
theorem d_Que_append_12 : decode b_Que_append 12 = .ok (.goto 4, 3) := by decide +kernel
theorem d_Que_append_15 : decode b_Que_append 15 = .ok (.iconst 1, 1) := by decide +kernel
theorem d_Que_append_16 : decode b_Que_append 16 = .ok (.istore 4, 2) := by decide +kernel
theorem d_Que_append_18 : decode b_Que_append 18 = .ok (.aload_n 0, 1) := by decide +kernel
theorem d_Que_append_19 : decode b_Que_append 19 = .ok (.iload 4, 2) := by decide +kernel
theorem d_Que_append_21 : decode b_Que_append 21 = .ok (.invokevirtual 28, 3) := by decide +kernel
theorem d_Que_append_24 : decode b_Que_append 24 = .ok (.aload_n 0, 1) := by decide +kernel
theorem d_Que_append_25 : decode b_Que_append 25 = .ok (.getfield 19, 3) := by decide +kernel
theorem d_Que_append_28 : decode b_Que_append 28 = .ok (.iconst 3, 1) := by decide +kernel
theorem d_Que_append_29 : decode b_Que_append 29 = .ok (.imul, 1) := by decide +kernel
theorem d_Que_append_30 : decode b_Que_append 30 = .ok (.istore 5, 2) := by decide +kernel
theorem d_Que_append_32 : decode b_Que_append 32 = .ok (.aload_n 0, 1) := by decide +kernel
theorem d_Que_append_33 : decode b_Que_append 33 = .ok (.getfield 11, 3) := by decide +kernel
theorem d_Que_append_36 : decode b_Que_append 36 = .ok (.iload 5, 2) := by decide +kernel
theorem d_Que_append_38 : decode b_Que_append 38 = .ok (.iload_n 1, 1) := by decide +kernel
theorem d_Que_append_39 : decode b_Que_append 39 = .ok (.iastore, 1) := by decide +kernel
theorem d_Que_append_40 : decode b_Que_append 40 = .ok (.aload_n 0, 1) := by decide +kernel
theorem d_Que_append_41 : decode b_Que_append 41 = .ok (.getfield 11, 3) := by decide +kernel
theorem d_Que_append_44 : decode b_Que_append 44 = .ok (.iload 5, 2) := by decide +kernel
theorem d_Que_append_46 : decode b_Que_append 46 = .ok (.iconst 1, 1) := by decide +kernel
theorem d_Que_append_47 : decode b_Que_append 47 = .ok (.iadd, 1) := by decide +kernel
theorem d_Que_append_48 : decode b_Que_append 48 = .ok (.iload_n 2, 1) := by decide +kernel
theorem d_Que_append_49 : decode b_Que_append 49 = .ok (.iastore, 1) := by decide +kernel
theorem d_Que_append_50 : decode b_Que_append 50 = .ok (.aload_n 0, 1) := by decide +kernel
theorem d_Que_append_51 : decode b_Que_append 51 = .ok (.getfield 11, 3) := by decide +kernel
theorem d_Que_append_54 : decode b_Que_append 54 = .ok (.iload 5, 2) := by decide +kernel
theorem d_Que_append_56 : decode b_Que_append 56 = .ok (.iconst 2, 1) := by decide +kernel
theorem d_Que_append_57 : decode b_Que_append 57 = .ok (.iadd, 1) := by decide +kernel
theorem d_Que_append_58 : decode b_Que_append 58 = .ok (.iload_n 3, 1) := by decide +kernel
theorem d_Que_append_59 : decode b_Que_append 59 = .ok (.iastore, 1) := by decide +kernel
theorem d_Que_append_60 : decode b_Que_append 60 = .ok (.aload_n 0, 1) := by decide +kernel
theorem d_Que_append_61 : decode b_Que_append 61 = .ok (.dup, 1) := by decide +kernel
theorem d_Que_append_62 : decode b_Que_append 62 = .ok (.getfield 19, 3) := by decide +kernel
theorem d_Que_append_65 : decode b_Que_append 65 = .ok (.iconst 1, 1) := by decide +kernel
theorem d_Que_append_66 : decode b_Que_append 66 = .ok (.iadd, 1) := by decide +kernel
theorem d_Que_append_67 : decode b_Que_append 67 = .ok (.putfield 19, 3) := by decide +kernel
theorem d_Que_append_70 : decode b_Que_append 70 = .ok (.iload 4, 2) := by decide +kernel
theorem d_Que_append_72 : decode b_Que_append 72 = .ok (.ireturn, 1) := by decide +kernel
theorem d_Que_part_0 : decode b_Que_part 0 = .ok (.aload_n 0, 1) := by decide +kernel
theorem d_Que_part_1 : decode b_Que_part 1 = .ok (.getfield 11, 3) := by decide +kernel
theorem d_Que_part_4 : decode b_Que_part 4 = .ok (.iload_n 1, 1) := by decide +kernel
theorem d_Que_part_5 : decode b_Que_part 5 = .ok (.iconst 3, 1) := by decide +kernel
theorem d_Que_part_6 : decode b_Que_part 6 = .ok (.imul, 1) := by decide +kernel
theorem d_Que_part_7 : decode b_Que_part 7 = .ok (.iload_n 2, 1) := by decide +kernel
theorem d_Que_part_8 : decode b_Que_part 8 = .ok (.iadd, 1) := by decide +kernel
theorem d_Que_part_9 : decode b_Que_part 9 = .ok (.iaload, 1) := by decide +kernel
theorem d_Que_part_10 : decode b_Que_part 10 = .ok (.ireturn, 1) := by decide +kernel
theorem d_Act_init_0 : decode b_Act_init 0 = .ok (.aload_n 0, 1) := by decide +kernel
theorem d_Act_init_1 : decode b_Act_init 1 = .ok (.invokespecial 3, 3) := by decide +kernel
theorem d_Act_init_4 : decode b_Act_init 4 = .ok (.aload_n 0, 1) := by decide +kernel
theorem d_Act_init_5 : decode b_Act_init 5 = .ok (.iconst (-1), 1) := by decide +kernel
theorem d_Act_init_6 : decode b_Act_init 6 = .ok (.putfield 9, 3) := by decide +kernel
theorem d_Act_init_9 : decode b_Act_init 9 = .ok (.aload_n 0, 1) := by decide +kernel
theorem d_Act_init_10 : decode b_Act_init 10 = .ok (.iconst 0, 1) := by decide +kernel
theorem d_Act_init_11 : decode b_Act_init 11 = .ok (.putfield 15, 3) := by decide +kernel
theorem d_Act_init_14 : decode b_Act_init 14 = .ok (.aload_n 0, 1) := by decide +kernel
theorem d_Act_init_15 : decode b_Act_init 15 = .ok (.iconst 0, 1) := by decide +kernel
theorem d_Act_init_16 : decode b_Act_init 16 = .ok (.putfield 18, 3) := by decide +kernel
theorem d_Act_init_19 : decode b_Act_init 19 = .ok (.return_, 1) := by decide +kernel
theorem d_Top_init_0 : decode b_Top_init 0 = .ok (.aload_n 0, 1) := by decide +kernel
theorem d_Top_init_1 : decode b_Top_init 1 = .ok (.invokespecial 1, 3) := by decide +kernel
theorem d_Top_init_4 : decode b_Top_init 4 = .ok (.aload_n 0, 1) := by decide +kernel
theorem d_Top_init_5 : decode b_Top_init 5 = .ok (.iconst 0, 1) := by decide +kernel
theorem d_Top_init_6 : decode b_Top_init 6 = .ok (.putfield 7, 3) := by decide +kernel
theorem d_Top_init_9 : decode b_Top_init 9 = .ok (.aload_n 0, 1) := by decide +kernel
theorem d_Top_init_10 : decode b_Top_init 10 = .ok (.iconst 0, 1) := by decide +kernel
theorem d_Top_init_11 : decode b_Top_init 11 = .ok (.putfield 13, 3) := by decide +kernel
theorem d_Top_init_14 : decode b_Top_init 14 = .ok (.aload_n 0, 1) := by decide +kernel
theorem d_Top_init_15 : decode b_Top_init 15 = .ok (.iconst 0, 1) := by decide +kernel
theorem d_Top_init_16 : decode b_Top_init 16 = .ok (.putfield 16, 3) := by decide +kernel
theorem d_Top_init_19 : decode b_Top_init 19 = .ok (.aload_n 0, 1) := by decide +kernel
theorem d_Top_init_20 : decode b_Top_init 20 = .ok (.iconst 0, 1) := by decide +kernel
theorem d_Top_init_21 : decode b_Top_init 21 = .ok (.putfield 19, 3) := by decide +kernel
theorem d_Top_init_24 : decode b_Top_init 24 = .ok (.aload_n 0, 1) := by decide +kernel
theorem d_Top_init_25 : decode b_Top_init 25 = .ok (.iconst 0, 1) := by decide +kernel
theorem d_Top_init_26 : decode b_Top_init 26 = .ok (.putfield 23, 3) := by decide +kernel
theorem d_Top_init_29 : decode b_Top_init 29 = .ok (.aload_n 0, 1) := by decide +kernel
theorem d_Top_init_30 : decode b_Top_init 30 = .ok (.iconst 0, 1) := by decide +kernel
theorem d_Top_init_31 : decode b_Top_init 31 = .ok (.putfield 26, 3) := by decide +kernel
theorem d_Top_init_34 : decode b_Top_init 34 = .ok (.return_, 1) := by decide +kernel
theorem d_Top_setLast_0 : decode b_Top_setLast 0 = .ok (.aload_n 0, 1) := by decide +kernel
theorem d_Top_setLast_1 : decode b_Top_setLast 1 = .ok (.iconst 1, 1) := by decide +kernel
theorem d_Top_setLast_2 : decode b_Top_setLast 2 = .ok (.putfield 16, 3) := by decide +kernel
theorem d_Top_setLast_5 : decode b_Top_setLast 5 = .ok (.aload_n 0, 1) := by decide +kernel
theorem d_Top_setLast_6 : decode b_Top_setLast 6 = .ok (.iload_n 1, 1) := by decide +kernel
theorem d_Top_setLast_7 : decode b_Top_setLast 7 = .ok (.putfield 19, 3) := by decide +kernel
theorem d_Top_setLast_10 : decode b_Top_setLast 10 = .ok (.aload_n 0, 1) := by decide +kernel
theorem d_Top_setLast_11 : decode b_Top_setLast 11 = .ok (.iload_n 2, 1) := by decide +kernel
theorem d_Top_setLast_12 : decode b_Top_setLast 12 = .ok (.putfield 23, 3) := by decide +kernel
theorem d_Top_setLast_15 : decode b_Top_setLast 15 = .ok (.aload_n 0, 1) := by decide +kernel
theorem d_Top_setLast_16 : decode b_Top_setLast 16 = .ok (.iload_n 3, 1) := by decide +kernel
theorem d_Top_setLast_17 : decode b_Top_setLast 17 = .ok (.putfield 26, 3) := by decide +kernel
theorem d_Top_setLast_20 : decode b_Top_setLast 20 = .ok (.return_, 1) := by decide +kernel
theorem d_Srv_init_0 : decode b_Srv_init 0 = .ok (.aload_n 0, 1) := by decide +kernel
theorem d_Srv_init_1 : decode b_Srv_init 1 = .ok (.invokespecial 3, 3) := by decide +kernel
theorem d_Srv_init_4 : decode b_Srv_init 4 = .ok (.aload_n 0, 1) := by decide +kernel
theorem d_Srv_init_5 : decode b_Srv_init 5 = .ok (.iconst (-1), 1) := by decide +kernel
theorem d_Srv_init_6 : decode b_Srv_init 6 = .ok (.putfield 9, 3) := by decide +kernel
theorem d_Srv_init_9 : decode b_Srv_init 9 = .ok (.aload_n 0, 1) := by decide +kernel
theorem d_Srv_init_10 : decode b_Srv_init 10 = .ok (.iconst 0, 1) := by decide +kernel
theorem d_Srv_init_11 : decode b_Srv_init 11 = .ok (.putfield 15, 3) := by decide +kernel
theorem d_Srv_init_14 : decode b_Srv_init 14 = .ok (.aload_n 0, 1) := by decide +kernel
theorem d_Srv_init_15 : decode b_Srv_init 15 = .ok (.iconst 0, 1) := by decide +kernel
theorem d_Srv_init_16 : decode b_Srv_init 16 = .ok (.putfield 18, 3) := by decide +kernel
theorem d_Srv_init_19 : decode b_Srv_init 19 = .ok (.aload_n 0, 1) := by decide +kernel
theorem d_Srv_init_20 : decode b_Srv_init 20 = .ok (.iconst 0, 1) := by decide +kernel
theorem d_Srv_init_21 : decode b_Srv_init 21 = .ok (.putfield 21, 3) := by decide +kernel
theorem d_Srv_init_24 : decode b_Srv_init 24 = .ok (.return_, 1) := by decide +kernel
theorem d_Nod_init_0 : decode b_Nod_init 0 = .ok (.aload_n 0, 1) := by decide +kernel
theorem d_Nod_init_1 : decode b_Nod_init 1 = .ok (.invokespecial 3, 3) := by decide +kernel
theorem d_Nod_init_4 : decode b_Nod_init 4 = .ok (.aload_n 0, 1) := by decide +kernel
theorem d_Nod_init_5 : decode b_Nod_init 5 = .ok (.iconst 4, 1) := by decide +kernel
theorem d_Nod_init_6 : decode b_Nod_init 6 = .ok (.newarray .int, 2) := by decide +kernel
theorem d_Nod_init_8 : decode b_Nod_init 8 = .ok (.putfield 9, 3) := by decide +kernel
theorem d_Nod_init_11 : decode b_Nod_init 11 = .ok (.aload_n 0, 1) := by decide +kernel
theorem d_Nod_init_12 : decode b_Nod_init 12 = .ok (.bipush 6, 2) := by decide +kernel
theorem d_Nod_init_14 : decode b_Nod_init 14 = .ok (.anewarray 15, 3) := by decide +kernel
theorem d_Nod_init_17 : decode b_Nod_init 17 = .ok (.putfield 17, 3) := by decide +kernel
theorem d_Nod_init_20 : decode b_Nod_init 20 = .ok (.aload_n 0, 1) := by decide +kernel
theorem d_Nod_init_21 : decode b_Nod_init 21 = .ok (.bipush 6, 2) := by decide +kernel
theorem d_Nod_init_23 : decode b_Nod_init 23 = .ok (.anewarray 21, 3) := by decide +kernel
theorem d_Nod_init_26 : decode b_Nod_init 26 = .ok (.putfield 23, 3) := by decide +kernel
theorem d_Nod_init_29 : decode b_Nod_init 29 = .ok (.aload_n 0, 1) := by decide +kernel
theorem d_Nod_init_30 : decode b_Nod_init 30 = .ok (.iconst 0, 1) := by decide +kernel
theorem d_Nod_init_31 : decode b_Nod_init 31 = .ok (.putfield 27, 3) := by decide +kernel
theorem d_Nod_init_34 : decode b_Nod_init 34 = .ok (.aload_n 0, 1) := by decide +kernel
theorem d_Nod_init_35 : decode b_Nod_init 35 = .ok (.iconst 0, 1) := by decide +kernel
theorem d_Nod_init_36 : decode b_Nod_init 36 = .ok (.putfield 31, 3) := by decide +kernel
theorem d_Nod_init_39 : decode b_Nod_init 39 = .ok (.iconst 0, 1) := by decide +kernel
theorem d_Nod_init_40 : decode b_Nod_init 40 = .ok (.istore_n 1, 1) := by decide +kernel
theorem d_Nod_init_41 : decode b_Nod_init 41 = .ok (.iload_n 1, 1) := by decide +kernel
theorem d_Nod_init_42 : decode b_Nod_init 42 = .ok (.bipush 6, 2) := by decide +kernel
theorem d_Nod_init_44 : decode b_Nod_init 44 = .ok (.if_icmp .ge 35, 3) := by decide +kernel
theorem d_Nod_init_47 : decode b_Nod_init 47 = .ok (.aload_n 0, 1) := by decide +kernel
theorem d_Nod_init_48 : decode b_Nod_init 48 = .ok (.getfield 17, 3) := by decide +kernel
theorem d_Nod_init_51 : decode b_Nod_init 51 = .ok (.iload_n 1, 1) := by decide +kernel
theorem d_Nod_init_52 : decode b_Nod_init 52 = .ok (.new 15, 3) := by decide +kernel
theorem d_Nod_init_55 : decode b_Nod_init 55 = .ok (.dup, 1) := by decide +kernel
theorem d_Nod_init_56 : decode b_Nod_init 56 = .ok (.invokespecial 35, 3) := by decide +kernel
theorem d_Nod_init_59 : decode b_Nod_init 59 = .ok (.aastore, 1) := by decide +kernel
theorem d_Nod_init_60 : decode b_Nod_init 60 = .ok (.aload_n 0, 1) := by decide +kernel
theorem d_Nod_init_61 : decode b_Nod_init 61 = .ok (.getfield 23, 3) := by decide +kernel
theorem d_Nod_init_64 : decode b_Nod_init 64 = .ok (.iload_n 1, 1) := by decide +kernel
theorem d_Nod_init_65 : decode b_Nod_init 65 = .ok (.new 21, 3) := by decide +kernel
theorem d_Nod_init_68 : decode b_Nod_init 68 = .ok (.dup, 1) := by decide +kernel
theorem d_Nod_init_69 : decode b_Nod_init 69 = .ok (.invokespecial 36, 3) := by decide +kernel
theorem d_Nod_init_72 : decode b_Nod_init 72 = .ok (.aastore, 1) := by decide +kernel
theorem d_Nod_init_73 : decode b_Nod_init 73 = .ok (.iinc 1 1, 3) := by decide +kernel
theorem d_Nod_init_76 : decode b_Nod_init 76 = .ok (.goto (-35), 3) := by decide +kernel
theorem d_Nod_init_79 : decode b_Nod_init 79 = .ok (.return_, 1) := by decide +kernel
theorem d_Nod_reset_0 : decode b_Nod_reset 0 = .ok (.iconst 0, 1) := by decide +kernel
theorem d_Nod_reset_1 : decode b_Nod_reset 1 = .ok (.istore_n 1, 1) := by decide +kernel
theorem d_Nod_reset_2 : decode b_Nod_reset 2 = .ok (.iconst 0, 1) := by decide +kernel
theorem d_Nod_reset_3 : decode b_Nod_reset 3 = .ok (.istore_n 2, 1) := by decide +kernel
theorem d_Nod_reset_4 : decode b_Nod_reset 4 = .ok (.iload_n 2, 1) := by decide +kernel
theorem d_Nod_reset_5 : decode b_Nod_reset 5 = .ok (.bipush 6, 2) := by decide +kernel
theorem d_Nod_reset_7 : decode b_Nod_reset 7 = .ok (.if_icmp .ge 31, 3) := by decide +kernel
theorem d_Nod_reset_10 : decode b_Nod_reset 10 = .ok (.iload_n 1, 1) := by decide +kernel
theorem d_Nod_reset_11 : decode b_Nod_reset 11 = .ok (.aload_n 0, 1) := by decide +kernel
theorem d_Nod_reset_12 : decode b_Nod_reset 12 = .ok (.getfield 17, 3) := by decide +kernel
theorem d_Nod_reset_15 : decode b_Nod_reset 15 = .ok (.iload_n 2, 1) := by decide +kernel
theorem d_Nod_reset_16 : decode b_Nod_reset 16 = .ok (.aaload, 1) := by decide +kernel
theorem d_Nod_reset_17 : decode b_Nod_reset 17 = .ok (.invokevirtual 37, 3) := by decide +kernel
theorem d_Nod_reset_20 : decode b_Nod_reset 20 = .ok (.iadd, 1) := by decide +kernel
theorem d_Nod_reset_21 : decode b_Nod_reset 21 = .ok (.istore_n 1, 1) := by decide +kernel
theorem d_Nod_reset_22 : decode b_Nod_reset 22 = .ok (.aload_n 0, 1) := by decide +kernel
theorem d_Nod_reset_23 : decode b_Nod_reset 23 = .ok (.getfield 23, 3) := by decide +kernel
theorem d_Nod_reset_26 : decode b_Nod_reset 26 = .ok (.iload_n 2, 1) := by decide +kernel
theorem d_Nod_reset_27 : decode b_Nod_reset 27 = .ok (.aaload, 1) := by decide +kernel
theorem d_Nod_reset_28 : decode b_Nod_reset 28 = .ok (.iconst (-1), 1) := by decide +kernel
theorem d_Nod_reset_29 : decode b_Nod_reset 29 = .ok (.putfield 41, 3) := by decide +kernel
theorem d_Nod_reset_32 : decode b_Nod_reset 32 = .ok (.iinc 2 1, 3) := by decide +kernel
theorem d_Nod_reset_35 : decode b_Nod_reset 35 = .ok (.goto (-31), 3) := by decide +kernel
theorem d_Nod_reset_38 : decode b_Nod_reset 38 = .ok (.iconst 0, 1) := by decide +kernel
theorem d_Nod_reset_39 : decode b_Nod_reset 39 = .ok (.istore_n 2, 1) := by decide +kernel
theorem d_Nod_reset_40 : decode b_Nod_reset 40 = .ok (.iload_n 2, 1) := by decide +kernel
theorem d_Nod_reset_41 : decode b_Nod_reset 41 = .ok (.iconst 4, 1) := by decide +kernel
theorem d_Nod_reset_42 : decode b_Nod_reset 42 = .ok (.if_icmp .ge 16, 3) := by decide +kernel
theorem d_Nod_reset_45 : decode b_Nod_reset 45 = .ok (.aload_n 0, 1) := by decide +kernel
theorem d_Nod_reset_46 : decode b_Nod_reset 46 = .ok (.getfield 9, 3) := by decide +kernel
theorem d_Nod_reset_49 : decode b_Nod_reset 49 = .ok (.iload_n 2, 1) := by decide +kernel
theorem d_Nod_reset_50 : decode b_Nod_reset 50 = .ok (.iconst 0, 1) := by decide +kernel
theorem d_Nod_reset_51 : decode b_Nod_reset 51 = .ok (.iastore, 1) := by decide +kernel
theorem d_Nod_reset_52 : decode b_Nod_reset 52 = .ok (.iinc 2 1, 3) := by decide +kernel
theorem d_Nod_reset_55 : decode b_Nod_reset 55 = .ok (.goto (-15), 3) := by decide +kernel
theorem d_Nod_reset_58 : decode b_Nod_reset 58 = .ok (.aload_n 0, 1) := by decide +kernel
theorem d_Nod_reset_59 : decode b_Nod_reset 59 = .ok (.iconst 0, 1) := by decide +kernel
theorem d_Nod_reset_60 : decode b_Nod_reset 60 = .ok (.putfield 27, 3) := by decide +kernel
theorem d_Nod_reset_63 : decode b_Nod_reset 63 = .ok (.aload_n 0, 1) := by decide +kernel
theorem d_Nod_reset_64 : decode b_Nod_reset 64 = .ok (.iconst 0, 1) := by decide +kernel
theorem d_Nod_reset_65 : decode b_Nod_reset 65 = .ok (.putfield 31, 3) := by decide +kernel
theorem d_Nod_reset_68 : decode b_Nod_reset 68 = .ok (.iload_n 1, 1) := by decide +kernel
theorem d_Nod_reset_69 : decode b_Nod_reset 69 = .ok (.ireturn, 1) := by decide +kernel
theorem d_Nod_nextTopic_0 : decode b_Nod_nextTopic 0 = .ok (.iconst 0, 1) := by decide +kernel
theorem d_Nod_nextTopic_1 : decode b_Nod_nextTopic 1 = .ok (.istore_n 1, 1) := by decide +kernel
theorem d_Nod_nextTopic_2 : decode b_Nod_nextTopic 2 = .ok (.iload_n 1, 1) := by decide +kernel
theorem d_Nod_nextTopic_3 : decode b_Nod_nextTopic 3 = .ok (.bipush 6, 2) := by decide +kernel
theorem d_Nod_nextTopic_5 : decode b_Nod_nextTopic 5 = .ok (.if_icmp .ge 33, 3) := by decide +kernel
theorem d_Nod_nextTopic_8 : decode b_Nod_nextTopic 8 = .ok (.aload_n 0, 1) := by decide +kernel
theorem d_Nod_nextTopic_9 : decode b_Nod_nextTopic 9 = .ok (.getfield 31, 3) := by decide +kernel
theorem d_Nod_nextTopic_12 : decode b_Nod_nextTopic 12 = .ok (.iload_n 1, 1) := by decide +kernel
theorem d_Nod_nextTopic_13 : decode b_Nod_nextTopic 13 = .ok (.iadd, 1) := by decide +kernel
theorem d_Nod_nextTopic_14 : decode b_Nod_nextTopic 14 = .ok (.bipush 6, 2) := by decide +kernel
theorem d_Nod_nextTopic_16 : decode b_Nod_nextTopic 16 = .ok (.irem, 1) := by decide +kernel
theorem d_Nod_nextTopic_17 : decode b_Nod_nextTopic 17 = .ok (.istore_n 2, 1) := by decide +kernel
theorem d_Nod_nextTopic_18 : decode b_Nod_nextTopic 18 = .ok (.aload_n 0, 1) := by decide +kernel
theorem d_Nod_nextTopic_19 : decode b_Nod_nextTopic 19 = .ok (.getfield 17, 3) := by decide +kernel
theorem d_Nod_nextTopic_22 : decode b_Nod_nextTopic 22 = .ok (.iload_n 2, 1) := by decide +kernel
theorem d_Nod_nextTopic_23 : decode b_Nod_nextTopic 23 = .ok (.aaload, 1) := by decide +kernel
theorem d_Nod_nextTopic_24 : decode b_Nod_nextTopic 24 = .ok (.getfield 44, 3) := by decide +kernel
theorem d_Nod_nextTopic_27 : decode b_Nod_nextTopic 27 = .ok (.ifCond .le 5, 3) := by decide +kernel
theorem d_Nod_nextTopic_30 : decode b_Nod_nextTopic 30 = .ok (.iload_n 2, 1) := by decide +kernel
theorem d_Nod_nextTopic_31 : decode b_Nod_nextTopic 31 = .ok (.ireturn, 1) := by decide +kernel
theorem d_Nod_nextTopic_32 : decode b_Nod_nextTopic 32 = .ok (.iinc 1 1, 3) := by decide +kernel
theorem d_Nod_nextTopic_35 : decode b_Nod_nextTopic 35 = .ok (.goto (-33), 3) := by decide +kernel
theorem d_Nod_nextTopic_38 : decode b_Nod_nextTopic 38 = .ok (.iconst (-1), 1) := by decide +kernel
theorem d_Nod_nextTopic_39 : decode b_Nod_nextTopic 39 = .ok (.ireturn, 1) := by decide +kernel
theorem d_Nod_takeFrom_0 : decode b_Nod_takeFrom 0 = .ok (.aload_n 0, 1) := by decide +kernel
theorem d_Nod_takeFrom_1 : decode b_Nod_takeFrom 1 = .ok (.getfield 17, 3) := by decide +kernel
theorem d_Nod_takeFrom_4 : decode b_Nod_takeFrom 4 = .ok (.iload_n 1, 1) := by decide +kernel
theorem d_Nod_takeFrom_5 : decode b_Nod_takeFrom 5 = .ok (.aaload, 1) := by decide +kernel
theorem d_Nod_takeFrom_6 : decode b_Nod_takeFrom 6 = .ok (.iconst 0, 1) := by decide +kernel
theorem d_Nod_takeFrom_7 : decode b_Nod_takeFrom 7 = .ok (.iconst 0, 1) := by decide +kernel
theorem d_Nod_takeFrom_8 : decode b_Nod_takeFrom 8 = .ok (.invokevirtual 47, 3) := by decide +kernel
theorem d_Nod_takeFrom_11 : decode b_Nod_takeFrom 11 = .ok (.istore_n 2, 1) := by decide +kernel
theorem d_Nod_takeFrom_12 : decode b_Nod_takeFrom 12 = .ok (.aload_n 0, 1) := by decide +kernel
theorem d_Nod_takeFrom_13 : decode b_Nod_takeFrom 13 = .ok (.getfield 17, 3) := by decide +kernel
theorem d_Nod_takeFrom_16 : decode b_Nod_takeFrom 16 = .ok (.iload_n 1, 1) := by decide +kernel
theorem d_Nod_takeFrom_17 : decode b_Nod_takeFrom 17 = .ok (.aaload, 1) := by decide +kernel
theorem d_Nod_takeFrom_18 : decode b_Nod_takeFrom 18 = .ok (.iconst 1, 1) := by decide +kernel
theorem d_Nod_takeFrom_19 : decode b_Nod_takeFrom 19 = .ok (.invokevirtual 51, 3) := by decide +kernel
theorem d_Nod_takeFrom_22 : decode b_Nod_takeFrom 22 = .ok (.aload_n 0, 1) := by decide +kernel
theorem d_Nod_takeFrom_23 : decode b_Nod_takeFrom 23 = .ok (.iload_n 1, 1) := by decide +kernel
theorem d_Nod_takeFrom_24 : decode b_Nod_takeFrom 24 = .ok (.iconst 1, 1) := by decide +kernel
theorem d_Nod_takeFrom_25 : decode b_Nod_takeFrom 25 = .ok (.iadd, 1) := by decide +kernel
theorem d_Nod_takeFrom_26 : decode b_Nod_takeFrom 26 = .ok (.bipush 6, 2) := by decide +kernel
theorem d_Nod_takeFrom_28 : decode b_Nod_takeFrom 28 = .ok (.irem, 1) := by decide +kernel
theorem d_Nod_takeFrom_29 : decode b_Nod_takeFrom 29 = .ok (.putfield 31, 3) := by decide +kernel
theorem d_Nod_takeFrom_32 : decode b_Nod_takeFrom 32 = .ok (.iload_n 2, 1) := by decide +kernel
theorem d_Nod_takeFrom_33 : decode b_Nod_takeFrom 33 = .ok (.ireturn, 1) := by decide +kernel
theorem d_Bag_init_0 : decode b_Bag_init 0 = .ok (.aload_n 0, 1) := by decide +kernel
theorem d_Bag_init_1 : decode b_Bag_init 1 = .ok (.invokespecial 3, 3) := by decide +kernel
theorem d_Bag_init_4 : decode b_Bag_init 4 = .ok (.aload_n 0, 1) := by decide +kernel
theorem d_Bag_init_5 : decode b_Bag_init 5 = .ok (.bipush 30, 2) := by decide +kernel
theorem d_Bag_init_7 : decode b_Bag_init 7 = .ok (.newarray .int, 2) := by decide +kernel
theorem d_Bag_init_9 : decode b_Bag_init 9 = .ok (.putfield 9, 3) := by decide +kernel
theorem d_Bag_init_12 : decode b_Bag_init 12 = .ok (.aload_n 0, 1) := by decide +kernel
theorem d_Bag_init_13 : decode b_Bag_init 13 = .ok (.bipush 30, 2) := by decide +kernel
theorem d_Bag_init_15 : decode b_Bag_init 15 = .ok (.newarray .int, 2) := by decide +kernel
theorem d_Bag_init_17 : decode b_Bag_init 17 = .ok (.putfield 15, 3) := by decide +kernel
theorem d_Bag_init_20 : decode b_Bag_init 20 = .ok (.aload_n 0, 1) := by decide +kernel
theorem d_Bag_init_21 : decode b_Bag_init 21 = .ok (.bipush 30, 2) := by decide +kernel
theorem d_Bag_init_23 : decode b_Bag_init 23 = .ok (.newarray .int, 2) := by decide +kernel
theorem d_Bag_init_25 : decode b_Bag_init 25 = .ok (.putfield 18, 3) := by decide +kernel
theorem d_Bag_init_28 : decode b_Bag_init 28 = .ok (.aload_n 0, 1) := by decide +kernel
theorem d_Bag_init_29 : decode b_Bag_init 29 = .ok (.iconst 0, 1) := by decide +kernel
theorem d_Bag_init_30 : decode b_Bag_init 30 = .ok (.putfield 21, 3) := by decide +kernel
theorem d_Bag_init_33 : decode b_Bag_init 33 = .ok (.aload_n 0, 1) := by decide +kernel
theorem d_Bag_init_34 : decode b_Bag_init 34 = .ok (.iconst 0, 1) := by decide +kernel
theorem d_Bag_init_35 : decode b_Bag_init 35 = .ok (.putfield 25, 3) := by decide +kernel
theorem d_Bag_init_38 : decode b_Bag_init 38 = .ok (.aload_n 0, 1) := by decide +kernel
theorem d_Bag_init_39 : decode b_Bag_init 39 = .ok (.iconst 0, 1) := by decide +kernel
theorem d_Bag_init_40 : decode b_Bag_init 40 = .ok (.putfield 28, 3) := by decide +kernel
theorem d_Bag_init_43 : decode b_Bag_init 43 = .ok (.aload_n 0, 1) := by decide +kernel
theorem d_Bag_init_44 : decode b_Bag_init 44 = .ok (.iconst 0, 1) := by decide +kernel
theorem d_Bag_init_45 : decode b_Bag_init 45 = .ok (.putfield 31, 3) := by decide +kernel
theorem d_Bag_init_48 : decode b_Bag_init 48 = .ok (.aload_n 0, 1) := by decide +kernel
theorem d_Bag_init_49 : decode b_Bag_init 49 = .ok (.iconst 1, 1) := by decide +kernel
theorem d_Bag_init_50 : decode b_Bag_init 50 = .ok (.putfield 34, 3) := by decide +kernel
theorem d_Bag_init_53 : decode b_Bag_init 53 = .ok (.return_, 1) := by decide +kernel
theorem d_Bag_append_0 : decode b_Bag_append 0 = .ok (.aload_n 0, 1) := by decide +kernel
theorem d_Bag_append_1 : decode b_Bag_append 1 = .ok (.getfield 21, 3) := by decide +kernel
theorem d_Bag_append_4 : decode b_Bag_append 4 = .ok (.bipush 30, 2) := by decide +kernel
theorem d_Bag_append_6 : decode b_Bag_append 6 = .ok (.if_icmp .ge 43, 3) := by decide +kernel
theorem d_Bag_append_9 : decode b_Bag_append 9 = .ok (.aload_n 0, 1) := by decide +kernel
theorem d_Bag_append_10 : decode b_Bag_append 10 = .ok (.getfield 9, 3) := by decide +kernel
theorem d_Bag_append_13 : decode b_Bag_append 13 = .ok (.aload_n 0, 1) := by decide +kernel
theorem d_Bag_append_14 : decode b_Bag_append 14 = .ok (.getfield 21, 3) := by decide +kernel
theorem d_Bag_append_17 : decode b_Bag_append 17 = .ok (.iload_n 1, 1) := by decide +kernel
theorem d_Bag_append_18 : decode b_Bag_append 18 = .ok (.iastore, 1) := by decide +kernel
theorem d_Bag_append_19 : decode b_Bag_append 19 = .ok (.aload_n 0, 1) := by decide +kernel
theorem d_Bag_append_20 : decode b_Bag_append 20 = .ok (.getfield 15, 3) := by decide +kernel
theorem d_Bag_append_23 : decode b_Bag_append 23 = .ok (.aload_n 0, 1) := by decide +kernel
theorem d_Bag_append_24 : decode b_Bag_append 24 = .ok (.getfield 21, 3) := by decide +kernel
theorem d_Bag_append_27 : decode b_Bag_append 27 = .ok (.iload_n 2, 1) := by decide +kernel
theorem d_Bag_append_28 : decode b_Bag_append 28 = .ok (.iastore, 1) := by decide +kernel
theorem d_Bag_append_29 : decode b_Bag_append 29 = .ok (.aload_n 0, 1) := by decide +kernel
theorem d_Bag_append_30 : decode b_Bag_append 30 = .ok (.getfield 18, 3) := by decide +kernel
theorem d_Bag_append_33 : decode b_Bag_append 33 = .ok (.aload_n 0, 1) := by decide +kernel
theorem d_Bag_append_34 : decode b_Bag_append 34 = .ok (.getfield 21, 3) := by decide +kernel
theorem d_Bag_append_37 : decode b_Bag_append 37 = .ok (.iload_n 3, 1) := by decide +kernel
theorem d_Bag_append_38 : decode b_Bag_append 38 = .ok (.iastore, 1) := by decide +kernel
theorem d_Bag_append_39 : decode b_Bag_append 39 = .ok (.aload_n 0, 1) := by decide +kernel
theorem d_Bag_append_40 : decode b_Bag_append 40 = .ok (.dup, 1) := by decide +kernel
theorem d_Bag_append_41 : decode b_Bag_append 41 = .ok (.getfield 21, 3) := by decide +kernel
theorem d_Bag_append_44 : decode b_Bag_append 44 = .ok (.iconst 1, 1) := by decide +kernel
theorem d_Bag_append_45 : decode b_Bag_append 45 = .ok (.iadd, 1) := by decide +kernel
theorem d_Bag_append_46 : decode b_Bag_append 46 = .ok (.putfield 21, 3) := by decide +kernel
theorem d_Bag_append_49 : decode b_Bag_append 49 = .ok (.return_, 1) := by decide +kernel
theorem d_Bag_isDue_0 : decode b_Bag_isDue 0 = .ok (.aload_n 0, 1) := by decide +kernel
theorem d_Bag_isDue_1 : decode b_Bag_isDue 1 = .ok (.invokevirtual 37, 3) := by decide +kernel
theorem d_Bag_isDue_4 : decode b_Bag_isDue 4 = .ok (.ifCond .ne 5, 3) := by decide +kernel
theorem d_Bag_isDue_7 : decode b_Bag_isDue 7 = .ok (.iconst 0, 1) := by decide +kernel
theorem d_Bag_isDue_8 : decode b_Bag_isDue 8 = .ok (.ireturn, 1) := by decide +kernel
theorem d_Bag_isDue_9 : decode b_Bag_isDue 9 = .ok (.aload_n 0, 1) := by decide +kernel
theorem d_Bag_isDue_10 : decode b_Bag_isDue 10 = .ok (.getfield 9, 3) := by decide +kernel
theorem d_Bag_isDue_13 : decode b_Bag_isDue 13 = .ok (.aload_n 0, 1) := by decide +kernel
theorem d_Bag_isDue_14 : decode b_Bag_isDue 14 = .ok (.getfield 25, 3) := by decide +kernel
theorem d_Bag_isDue_17 : decode b_Bag_isDue 17 = .ok (.iaload, 1) := by decide +kernel
theorem d_Bag_isDue_18 : decode b_Bag_isDue 18 = .ok (.aload_n 0, 1) := by decide +kernel
theorem d_Bag_isDue_19 : decode b_Bag_isDue 19 = .ok (.getfield 9, 3) := by decide +kernel
theorem d_Bag_isDue_22 : decode b_Bag_isDue 22 = .ok (.iconst 0, 1) := by decide +kernel
theorem d_Bag_isDue_23 : decode b_Bag_isDue 23 = .ok (.iaload, 1) := by decide +kernel
theorem d_Bag_isDue_24 : decode b_Bag_isDue 24 = .ok (.isub, 1) := by decide +kernel
theorem d_Bag_isDue_25 : decode b_Bag_isDue 25 = .ok (.istore_n 2, 1) := by decide +kernel
theorem d_Bag_isDue_26 : decode b_Bag_isDue 26 = .ok (.aload_n 0, 1) := by decide +kernel
theorem d_Bag_isDue_27 : decode b_Bag_isDue 27 = .ok (.getfield 31, 3) := by decide +kernel
theorem d_Bag_isDue_30 : decode b_Bag_isDue 30 = .ok (.iload_n 2, 1) := by decide +kernel
theorem d_Bag_isDue_31 : decode b_Bag_isDue 31 = .ok (.aload_n 0, 1) := by decide +kernel
theorem d_Bag_isDue_32 : decode b_Bag_isDue 32 = .ok (.getfield 34, 3) := by decide +kernel
theorem d_Bag_isDue_35 : decode b_Bag_isDue 35 = .ok (.iadd, 1) := by decide +kernel
theorem d_Bag_isDue_36 : decode b_Bag_isDue 36 = .ok (.iconst 1, 1) := by decide +kernel
theorem d_Bag_isDue_37 : decode b_Bag_isDue 37 = .ok (.isub, 1) := by decide +kernel
theorem d_Bag_isDue_38 : decode b_Bag_isDue 38 = .ok (.aload_n 0, 1) := by decide +kernel
theorem d_Bag_isDue_39 : decode b_Bag_isDue 39 = .ok (.getfield 34, 3) := by decide +kernel
theorem d_Bag_isDue_42 : decode b_Bag_isDue 42 = .ok (.idiv, 1) := by decide +kernel
theorem d_Bag_isDue_43 : decode b_Bag_isDue 43 = .ok (.iadd, 1) := by decide +kernel
theorem d_Bag_isDue_44 : decode b_Bag_isDue 44 = .ok (.iload_n 1, 1) := by decide +kernel
theorem d_Bag_isDue_45 : decode b_Bag_isDue 45 = .ok (.if_icmp .gt 7, 3) := by decide +kernel
theorem d_Bag_isDue_48 : decode b_Bag_isDue 48 = .ok (.iconst 1, 1) := by decide +kernel
theorem d_Bag_isDue_49 : decode b_Bag_isDue 49 = .ok (.goto 4, 3) := by decide +kernel
theorem d_Bag_isDue_52 : decode b_Bag_isDue 52 = .ok (.iconst 0, 1) := by decide +kernel
theorem d_Bag_isDue_53 : decode b_Bag_isDue 53 = .ok (.ireturn, 1) := by decide +kernel
theorem d_Bag_isPlaying_0 : decode b_Bag_isPlaying 0 = .ok (.aload_n 0, 1) := by decide +kernel
theorem d_Bag_isPlaying_1 : decode b_Bag_isPlaying 1 = .ok (.getfield 25, 3) := by decide +kernel
theorem d_Bag_isPlaying_4 : decode b_Bag_isPlaying 4 = .ok (.aload_n 0, 1) := by decide +kernel
theorem d_Bag_isPlaying_5 : decode b_Bag_isPlaying 5 = .ok (.getfield 28, 3) := by decide +kernel
theorem d_Bag_isPlaying_8 : decode b_Bag_isPlaying 8 = .ok (.if_icmp .ge 7, 3) := by decide +kernel
theorem d_Bag_isPlaying_11 : decode b_Bag_isPlaying 11 = .ok (.iconst 1, 1) := by decide +kernel
theorem d_Bag_isPlaying_12 : decode b_Bag_isPlaying 12 = .ok (.goto 4, 3) := by decide +kernel
theorem d_Bag_isPlaying_15 : decode b_Bag_isPlaying 15 = .ok (.iconst 0, 1) := by decide +kernel
theorem d_Bag_isPlaying_16 : decode b_Bag_isPlaying 16 = .ok (.ireturn, 1) := by decide +kernel
theorem d_Bag_takeNext_0 : decode b_Bag_takeNext 0 = .ok (.aload_n 0, 1) := by decide +kernel
theorem d_Bag_takeNext_1 : decode b_Bag_takeNext 1 = .ok (.getfield 25, 3) := by decide +kernel
theorem d_Bag_takeNext_4 : decode b_Bag_takeNext 4 = .ok (.istore_n 1, 1) := by decide +kernel
theorem d_Bag_takeNext_5 : decode b_Bag_takeNext 5 = .ok (.aload_n 0, 1) := by decide +kernel
theorem d_Bag_takeNext_6 : decode b_Bag_takeNext 6 = .ok (.dup, 1) := by decide +kernel
theorem d_Bag_takeNext_7 : decode b_Bag_takeNext 7 = .ok (.getfield 25, 3) := by decide +kernel
theorem d_Bag_takeNext_10 : decode b_Bag_takeNext 10 = .ok (.iconst 1, 1) := by decide +kernel
theorem d_Bag_takeNext_11 : decode b_Bag_takeNext 11 = .ok (.iadd, 1) := by decide +kernel
theorem d_Bag_takeNext_12 : decode b_Bag_takeNext 12 = .ok (.putfield 25, 3) := by decide +kernel
theorem d_Bag_takeNext_15 : decode b_Bag_takeNext 15 = .ok (.iload_n 1, 1) := by decide +kernel
theorem d_Bag_takeNext_16 : decode b_Bag_takeNext 16 = .ok (.ireturn, 1) := by decide +kernel
theorem d_Bag_start_0 : decode b_Bag_start 0 = .ok (.aload_n 0, 1) := by decide +kernel
theorem d_Bag_start_1 : decode b_Bag_start 1 = .ok (.iconst 0, 1) := by decide +kernel
theorem d_Bag_start_2 : decode b_Bag_start 2 = .ok (.putfield 25, 3) := by decide +kernel
theorem d_Bag_start_5 : decode b_Bag_start 5 = .ok (.aload_n 0, 1) := by decide +kernel
theorem d_Bag_start_6 : decode b_Bag_start 6 = .ok (.aload_n 0, 1) := by decide +kernel
theorem d_Bag_start_7 : decode b_Bag_start 7 = .ok (.getfield 21, 3) := by decide +kernel
theorem d_Bag_start_10 : decode b_Bag_start 10 = .ok (.putfield 28, 3) := by decide +kernel
theorem d_Bag_start_13 : decode b_Bag_start 13 = .ok (.aload_n 0, 1) := by decide +kernel
theorem d_Bag_start_14 : decode b_Bag_start 14 = .ok (.iload_n 1, 1) := by decide +kernel
theorem d_Bag_start_15 : decode b_Bag_start 15 = .ok (.putfield 31, 3) := by decide +kernel
theorem d_Bag_start_18 : decode b_Bag_start 18 = .ok (.aload_n 0, 1) := by decide +kernel
theorem d_Bag_start_19 : decode b_Bag_start 19 = .ok (.iload_n 2, 1) := by decide +kernel
theorem d_Bag_start_20 : decode b_Bag_start 20 = .ok (.putfield 34, 3) := by decide +kernel
theorem d_Bag_start_23 : decode b_Bag_start 23 = .ok (.return_, 1) := by decide +kernel
theorem d_Frm_init_0 : decode b_Frm_init 0 = .ok (.aload_n 0, 1) := by decide +kernel
theorem d_Frm_init_1 : decode b_Frm_init 1 = .ok (.invokespecial 3, 3) := by decide +kernel
theorem d_Frm_init_4 : decode b_Frm_init 4 = .ok (.aload_n 0, 1) := by decide +kernel
theorem d_Frm_init_5 : decode b_Frm_init 5 = .ok (.iconst 4, 1) := by decide +kernel
theorem d_Frm_init_6 : decode b_Frm_init 6 = .ok (.newarray .int, 2) := by decide +kernel
theorem d_Frm_init_8 : decode b_Frm_init 8 = .ok (.putfield 9, 3) := by decide +kernel
theorem d_Frm_init_11 : decode b_Frm_init 11 = .ok (.aload_n 0, 1) := by decide +kernel
theorem d_Frm_init_12 : decode b_Frm_init 12 = .ok (.iconst 4, 1) := by decide +kernel
theorem d_Frm_init_13 : decode b_Frm_init 13 = .ok (.newarray .int, 2) := by decide +kernel
theorem d_Frm_init_15 : decode b_Frm_init 15 = .ok (.putfield 15, 3) := by decide +kernel
theorem d_Frm_init_18 : decode b_Frm_init 18 = .ok (.aload_n 0, 1) := by decide +kernel
theorem d_Frm_init_19 : decode b_Frm_init 19 = .ok (.iconst 4, 1) := by decide +kernel
theorem d_Frm_init_20 : decode b_Frm_init 20 = .ok (.newarray .int, 2) := by decide +kernel
theorem d_Frm_init_22 : decode b_Frm_init 22 = .ok (.putfield 18, 3) := by decide +kernel
theorem d_Frm_init_25 : decode b_Frm_init 25 = .ok (.aload_n 0, 1) := by decide +kernel
theorem d_Frm_init_26 : decode b_Frm_init 26 = .ok (.iconst 4, 1) := by decide +kernel
theorem d_Frm_init_27 : decode b_Frm_init 27 = .ok (.newarray .int, 2) := by decide +kernel
theorem d_Frm_init_29 : decode b_Frm_init 29 = .ok (.putfield 21, 3) := by decide +kernel
theorem d_Frm_init_32 : decode b_Frm_init 32 = .ok (.aload_n 0, 1) := by decide +kernel
theorem d_Frm_init_33 : decode b_Frm_init 33 = .ok (.iconst (-1), 1) := by decide +kernel
theorem d_Frm_init_34 : decode b_Frm_init 34 = .ok (.putfield 24, 3) := by decide +kernel
theorem d_Frm_init_37 : decode b_Frm_init 37 = .ok (.aload_n 0, 1) := by decide +kernel
theorem d_Frm_init_38 : decode b_Frm_init 38 = .ok (.iconst 0, 1) := by decide +kernel
theorem d_Frm_init_39 : decode b_Frm_init 39 = .ok (.putfield 28, 3) := by decide +kernel
theorem d_Frm_init_42 : decode b_Frm_init 42 = .ok (.return_, 1) := by decide +kernel
theorem d_Frm_isBehindLast_0 : decode b_Frm_isBehindLast 0 = .ok (.aload_n 0, 1) := by decide +kernel
theorem d_Frm_isBehindLast_1 : decode b_Frm_isBehindLast 1 = .ok (.getfield 28, 3) := by decide +kernel
theorem d_Frm_isBehindLast_4 : decode b_Frm_isBehindLast 4 = .ok (.ifCond .eq 18, 3) := by decide +kernel
theorem d_Frm_isBehindLast_7 : decode b_Frm_isBehindLast 7 = .ok (.iload_n 1, 1) := by decide +kernel
theorem d_Frm_isBehindLast_8 : decode b_Frm_isBehindLast 8 = .ok (.aload_n 0, 1) := by decide +kernel
theorem d_Frm_isBehindLast_9 : decode b_Frm_isBehindLast 9 = .ok (.getfield 9, 3) := by decide +kernel
theorem d_Frm_isBehindLast_12 : decode b_Frm_isBehindLast 12 = .ok (.aload_n 0, 1) := by decide +kernel
theorem d_Frm_isBehindLast_13 : decode b_Frm_isBehindLast 13 = .ok (.getfield 28, 3) := by decide +kernel
theorem d_Frm_isBehindLast_16 : decode b_Frm_isBehindLast 16 = .ok (.iconst 1, 1) := by decide +kernel
theorem d_Frm_isBehindLast_17 : decode b_Frm_isBehindLast 17 = .ok (.isub, 1) := by decide +kernel
theorem d_Frm_isBehindLast_18 : decode b_Frm_isBehindLast 18 = .ok (.iaload, 1) := by decide +kernel
theorem d_Frm_isBehindLast_19 : decode b_Frm_isBehindLast 19 = .ok (.if_icmp .le 7, 3) := by decide +kernel
theorem d_Frm_isBehindLast_22 : decode b_Frm_isBehindLast 22 = .ok (.iconst 1, 1) := by decide +kernel
theorem d_Frm_isBehindLast_23 : decode b_Frm_isBehindLast 23 = .ok (.goto 4, 3) := by decide +kernel
theorem d_Frm_isBehindLast_26 : decode b_Frm_isBehindLast 26 = .ok (.iconst 0, 1) := by decide +kernel
theorem d_Frm_isBehindLast_27 : decode b_Frm_isBehindLast 27 = .ok (.ireturn, 1) := by decide +kernel
theorem d_Frm_append_0 : decode b_Frm_append 0 = .ok (.aload_n 0, 1) := by decide +kernel
theorem d_Frm_append_1 : decode b_Frm_append 1 = .ok (.getfield 28, 3) := by decide +kernel
theorem d_Frm_append_4 : decode b_Frm_append 4 = .ok (.iconst 4, 1) := by decide +kernel
theorem d_Frm_append_5 : decode b_Frm_append 5 = .ok (.if_icmp .ne 7, 3) := by decide +kernel
theorem d_Frm_append_8 : decode b_Frm_append 8 = .ok (.aload_n 0, 1) := by decide +kernel
theorem d_Frm_append_9 : decode b_Frm_append 9 = .ok (.invokevirtual 31, 3) := by decide +kernel
theorem d_Frm_append_12 : decode b_Frm_append 12 = .ok (.aload_n 0, 1) := by decide +kernel
theorem d_Frm_append_13 : decode b_Frm_append 13 = .ok (.getfield 9, 3) := by decide +kernel
theorem d_Frm_append_16 : decode b_Frm_append 16 = .ok (.aload_n 0, 1) := by decide +kernel
theorem d_Frm_append_17 : decode b_Frm_append 17 = .ok (.getfield 28, 3) := by decide +kernel
theorem d_Frm_append_20 : decode b_Frm_append 20 = .ok (.iload_n 1, 1) := by decide +kernel
theorem d_Frm_append_21 : decode b_Frm_append 21 = .ok (.iastore, 1) := by decide +kernel
theorem d_Frm_append_22 : decode b_Frm_append 22 = .ok (.aload_n 0, 1) := by decide +kernel
theorem d_Frm_append_23 : decode b_Frm_append 23 = .ok (.getfield 15, 3) := by decide +kernel
theorem d_Frm_append_26 : decode b_Frm_append 26 = .ok (.aload_n 0, 1) := by decide +kernel
theorem d_Frm_append_27 : decode b_Frm_append 27 = .ok (.getfield 28, 3) := by decide +kernel
theorem d_Frm_append_30 : decode b_Frm_append 30 = .ok (.iload_n 2, 1) := by decide +kernel
theorem d_Frm_append_31 : decode b_Frm_append 31 = .ok (.iastore, 1) := by decide +kernel
theorem d_Frm_append_32 : decode b_Frm_append 32 = .ok (.aload_n 0, 1) := by decide +kernel
theorem d_Frm_append_33 : decode b_Frm_append 33 = .ok (.getfield 18, 3) := by decide +kernel
theorem d_Frm_append_36 : decode b_Frm_append 36 = .ok (.aload_n 0, 1) := by decide +kernel
theorem d_Frm_append_37 : decode b_Frm_append 37 = .ok (.getfield 28, 3) := by decide +kernel
theorem d_Frm_append_40 : decode b_Frm_append 40 = .ok (.iload_n 3, 1) := by decide +kernel
theorem d_Frm_append_41 : decode b_Frm_append 41 = .ok (.iastore, 1) := by decide +kernel
theorem d_Frm_append_42 : decode b_Frm_append 42 = .ok (.aload_n 0, 1) := by decide +kernel
theorem d_Frm_append_43 : decode b_Frm_append 43 = .ok (.getfield 21, 3) := by decide +kernel
theorem d_Frm_append_46 : decode b_Frm_append 46 = .ok (.aload_n 0, 1) := by decide +kernel
theorem d_Frm_append_47 : decode b_Frm_append 47 = .ok (.getfield 28, 3) := by decide +kernel
theorem d_Frm_append_50 : decode b_Frm_append 50 = .ok (.iload 4, 2) := by decide +kernel
theorem d_Frm_append_52 : decode b_Frm_append 52 = .ok (.iastore, 1) := by decide +kernel
theorem d_Frm_append_53 : decode b_Frm_append 53 = .ok (.aload_n 0, 1) := by decide +kernel
theorem d_Frm_append_54 : decode b_Frm_append 54 = .ok (.dup, 1) := by decide +kernel
theorem d_Frm_append_55 : decode b_Frm_append 55 = .ok (.getfield 28, 3) := by decide +kernel
theorem d_Frm_append_58 : decode b_Frm_append 58 = .ok (.iconst 1, 1) := by decide +kernel
theorem d_Frm_append_59 : decode b_Frm_append 59 = .ok (.iadd, 1) := by decide +kernel
theorem d_Frm_append_60 : decode b_Frm_append 60 = .ok (.putfield 28, 3) := by decide +kernel
theorem d_Frm_append_63 : decode b_Frm_append 63 = .ok (.return_, 1) := by decide +kernel
theorem d_Frm_dropFirst_0 : decode b_Frm_dropFirst 0 = .ok (.aload_n 0, 1) := by decide +kernel
theorem d_Frm_dropFirst_1 : decode b_Frm_dropFirst 1 = .ok (.dup, 1) := by decide +kernel
theorem d_Frm_dropFirst_2 : decode b_Frm_dropFirst 2 = .ok (.getfield 28, 3) := by decide +kernel
theorem d_Frm_dropFirst_5 : decode b_Frm_dropFirst 5 = .ok (.iconst 1, 1) := by decide +kernel
theorem d_Frm_dropFirst_6 : decode b_Frm_dropFirst 6 = .ok (.isub, 1) := by decide +kernel
theorem d_Frm_dropFirst_7 : decode b_Frm_dropFirst 7 = .ok (.putfield 28, 3) := by decide +kernel
theorem d_Frm_dropFirst_10 : decode b_Frm_dropFirst 10 = .ok (.aload_n 0, 1) := by decide +kernel
theorem d_Frm_dropFirst_11 : decode b_Frm_dropFirst 11 = .ok (.getfield 9, 3) := by decide +kernel
theorem d_Frm_dropFirst_14 : decode b_Frm_dropFirst 14 = .ok (.iconst 1, 1) := by decide +kernel
theorem d_Frm_dropFirst_15 : decode b_Frm_dropFirst 15 = .ok (.aload_n 0, 1) := by decide +kernel
theorem d_Frm_dropFirst_16 : decode b_Frm_dropFirst 16 = .ok (.getfield 9, 3) := by decide +kernel
theorem d_Frm_dropFirst_19 : decode b_Frm_dropFirst 19 = .ok (.iconst 0, 1) := by decide +kernel
theorem d_Frm_dropFirst_20 : decode b_Frm_dropFirst 20 = .ok (.aload_n 0, 1) := by decide +kernel
theorem d_Frm_dropFirst_21 : decode b_Frm_dropFirst 21 = .ok (.getfield 28, 3) := by decide +kernel
theorem d_Frm_dropFirst_24 : decode b_Frm_dropFirst 24 = .ok (.invokestatic 34, 3) := by decide +kernel
theorem d_Frm_dropFirst_27 : decode b_Frm_dropFirst 27 = .ok (.aload_n 0, 1) := by decide +kernel
theorem d_Frm_dropFirst_28 : decode b_Frm_dropFirst 28 = .ok (.getfield 15, 3) := by decide +kernel
theorem d_Frm_dropFirst_31 : decode b_Frm_dropFirst 31 = .ok (.iconst 1, 1) := by decide +kernel
theorem d_Frm_dropFirst_32 : decode b_Frm_dropFirst 32 = .ok (.aload_n 0, 1) := by decide +kernel
theorem d_Frm_dropFirst_33 : decode b_Frm_dropFirst 33 = .ok (.getfield 15, 3) := by decide +kernel
theorem d_Frm_dropFirst_36 : decode b_Frm_dropFirst 36 = .ok (.iconst 0, 1) := by decide +kernel
theorem d_Frm_dropFirst_37 : decode b_Frm_dropFirst 37 = .ok (.aload_n 0, 1) := by decide +kernel
theorem d_Frm_dropFirst_38 : decode b_Frm_dropFirst 38 = .ok (.getfield 28, 3) := by decide +kernel
theorem d_Frm_dropFirst_41 : decode b_Frm_dropFirst 41 = .ok (.invokestatic 34, 3) := by decide +kernel
theorem d_Frm_dropFirst_44 : decode b_Frm_dropFirst 44 = .ok (.aload_n 0, 1) := by decide +kernel
theorem d_Frm_dropFirst_45 : decode b_Frm_dropFirst 45 = .ok (.getfield 18, 3) := by decide +kernel
theorem d_Frm_dropFirst_48 : decode b_Frm_dropFirst 48 = .ok (.iconst 1, 1) := by decide +kernel
theorem d_Frm_dropFirst_49 : decode b_Frm_dropFirst 49 = .ok (.aload_n 0, 1) := by decide +kernel
theorem d_Frm_dropFirst_50 : decode b_Frm_dropFirst 50 = .ok (.getfield 18, 3) := by decide +kernel
theorem d_Frm_dropFirst_53 : decode b_Frm_dropFirst 53 = .ok (.iconst 0, 1) := by decide +kernel
theorem d_Frm_dropFirst_54 : decode b_Frm_dropFirst 54 = .ok (.aload_n 0, 1) := by decide +kernel
theorem d_Frm_dropFirst_55 : decode b_Frm_dropFirst 55 = .ok (.getfield 28, 3) := by decide +kernel
theorem d_Frm_dropFirst_58 : decode b_Frm_dropFirst 58 = .ok (.invokestatic 34, 3) := by decide +kernel
theorem d_Frm_dropFirst_61 : decode b_Frm_dropFirst 61 = .ok (.aload_n 0, 1) := by decide +kernel
theorem d_Frm_dropFirst_62 : decode b_Frm_dropFirst 62 = .ok (.getfield 21, 3) := by decide +kernel
theorem d_Frm_dropFirst_65 : decode b_Frm_dropFirst 65 = .ok (.iconst 1, 1) := by decide +kernel
theorem d_Frm_dropFirst_66 : decode b_Frm_dropFirst 66 = .ok (.aload_n 0, 1) := by decide +kernel
theorem d_Frm_dropFirst_67 : decode b_Frm_dropFirst 67 = .ok (.getfield 21, 3) := by decide +kernel
theorem d_Frm_dropFirst_70 : decode b_Frm_dropFirst 70 = .ok (.iconst 0, 1) := by decide +kernel
theorem d_Frm_dropFirst_71 : decode b_Frm_dropFirst 71 = .ok (.aload_n 0, 1) := by decide +kernel
theorem d_Frm_dropFirst_72 : decode b_Frm_dropFirst 72 = .ok (.getfield 28, 3) := by decide +kernel
theorem d_Frm_dropFirst_75 : decode b_Frm_dropFirst 75 = .ok (.invokestatic 34, 3) := by decide +kernel
theorem d_Frm_dropFirst_78 : decode b_Frm_dropFirst 78 = .ok (.return_, 1) := by decide +kernel
theorem d_Frm_indexAt_0 : decode b_Frm_indexAt 0 = .ok (.aload_n 0, 1) := by decide +kernel
theorem d_Frm_indexAt_1 : decode b_Frm_indexAt 1 = .ok (.iload_n 1, 1) := by decide +kernel
theorem d_Frm_indexAt_2 : decode b_Frm_indexAt 2 = .ok (.invokevirtual 40, 3) := by decide +kernel
theorem d_Frm_indexAt_5 : decode b_Frm_indexAt 5 = .ok (.ifCond .eq 5, 3) := by decide +kernel
theorem d_Frm_indexAt_8 : decode b_Frm_indexAt 8 = .ok (.iconst (-1), 1) := by decide +kernel
theorem d_Frm_indexAt_9 : decode b_Frm_indexAt 9 = .ok (.ireturn, 1) := by decide +kernel
theorem d_Frm_indexAt_10 : decode b_Frm_indexAt 10 = .ok (.iconst (-1), 1) := by decide +kernel
theorem d_Frm_indexAt_11 : decode b_Frm_indexAt 11 = .ok (.istore_n 2, 1) := by decide +kernel
theorem d_Frm_indexAt_12 : decode b_Frm_indexAt 12 = .ok (.iconst 0, 1) := by decide +kernel
theorem d_Frm_indexAt_13 : decode b_Frm_indexAt 13 = .ok (.istore_n 3, 1) := by decide +kernel
theorem d_Frm_indexAt_14 : decode b_Frm_indexAt 14 = .ok (.iload_n 3, 1) := by decide +kernel
theorem d_Frm_indexAt_15 : decode b_Frm_indexAt 15 = .ok (.aload_n 0, 1) := by decide +kernel
theorem d_Frm_indexAt_16 : decode b_Frm_indexAt 16 = .ok (.getfield 28, 3) := by decide +kernel
theorem d_Frm_indexAt_19 : decode b_Frm_indexAt 19 = .ok (.if_icmp .ge 21, 3) := by decide +kernel
theorem d_Frm_indexAt_22 : decode b_Frm_indexAt 22 = .ok (.aload_n 0, 1) := by decide +kernel
theorem d_Frm_indexAt_23 : decode b_Frm_indexAt 23 = .ok (.getfield 9, 3) := by decide +kernel
theorem d_Frm_indexAt_26 : decode b_Frm_indexAt 26 = .ok (.iload_n 3, 1) := by decide +kernel
theorem d_Frm_indexAt_27 : decode b_Frm_indexAt 27 = .ok (.iaload, 1) := by decide +kernel
theorem d_Frm_indexAt_28 : decode b_Frm_indexAt 28 = .ok (.iload_n 1, 1) := by decide +kernel
theorem d_Frm_indexAt_29 : decode b_Frm_indexAt 29 = .ok (.if_icmp .gt 11, 3) := by decide +kernel
theorem d_Frm_indexAt_32 : decode b_Frm_indexAt 32 = .ok (.iload_n 3, 1) := by decide +kernel
theorem d_Frm_indexAt_33 : decode b_Frm_indexAt 33 = .ok (.istore_n 2, 1) := by decide +kernel
theorem d_Frm_indexAt_34 : decode b_Frm_indexAt 34 = .ok (.iinc 3 1, 3) := by decide +kernel
theorem d_Frm_indexAt_37 : decode b_Frm_indexAt 37 = .ok (.goto (-23), 3) := by decide +kernel
theorem d_Frm_indexAt_40 : decode b_Frm_indexAt 40 = .ok (.iload_n 2, 1) := by decide +kernel
theorem d_Frm_indexAt_41 : decode b_Frm_indexAt 41 = .ok (.ireturn, 1) := by decide +kernel
theorem d_Frm_between_0 : decode b_Frm_between 0 = .ok (.iload_n 2, 1) := by decide +kernel
theorem d_Frm_between_1 : decode b_Frm_between 1 = .ok (.iconst 1, 1) := by decide +kernel
theorem d_Frm_between_2 : decode b_Frm_between 2 = .ok (.iadd, 1) := by decide +kernel
theorem d_Frm_between_3 : decode b_Frm_between 3 = .ok (.aload_n 0, 1) := by decide +kernel
theorem d_Frm_between_4 : decode b_Frm_between 4 = .ok (.getfield 28, 3) := by decide +kernel
theorem d_Frm_between_7 : decode b_Frm_between 7 = .ok (.if_icmp .ge 21, 3) := by decide +kernel
theorem d_Frm_between_10 : decode b_Frm_between 10 = .ok (.aload_n 0, 1) := by decide +kernel
theorem d_Frm_between_11 : decode b_Frm_between 11 = .ok (.getfield 9, 3) := by decide +kernel
theorem d_Frm_between_14 : decode b_Frm_between 14 = .ok (.iload_n 2, 1) := by decide +kernel
theorem d_Frm_between_15 : decode b_Frm_between 15 = .ok (.iconst 1, 1) := by decide +kernel
theorem d_Frm_between_16 : decode b_Frm_between 16 = .ok (.iadd, 1) := by decide +kernel
theorem d_Frm_between_17 : decode b_Frm_between 17 = .ok (.iaload, 1) := by decide +kernel
theorem d_Frm_between_18 : decode b_Frm_between 18 = .ok (.aload_n 0, 1) := by decide +kernel
theorem d_Frm_between_19 : decode b_Frm_between 19 = .ok (.getfield 9, 3) := by decide +kernel
theorem d_Frm_between_22 : decode b_Frm_between 22 = .ok (.iload_n 2, 1) := by decide +kernel
theorem d_Frm_between_23 : decode b_Frm_between 23 = .ok (.iaload, 1) := by decide +kernel
theorem d_Frm_between_24 : decode b_Frm_between 24 = .ok (.isub, 1) := by decide +kernel
theorem d_Frm_between_25 : decode b_Frm_between 25 = .ok (.goto 4, 3) := by decide +kernel
theorem d_Frm_between_28 : decode b_Frm_between 28 = .ok (.iconst 0, 1) := by decide +kernel
theorem d_Frm_between_29 : decode b_Frm_between 29 = .ok (.istore 4, 2) := by decide +kernel
theorem d_Frm_between_31 : decode b_Frm_between 31 = .ok (.iload 4, 2) := by decide +kernel
theorem d_Frm_between_33 : decode b_Frm_between 33 = .ok (.ifCond .gt 7, 3) := by decide +kernel
theorem d_Frm_between_36 : decode b_Frm_between 36 = .ok (.aload_n 1, 1) := by decide +kernel
theorem d_Frm_between_37 : decode b_Frm_between 37 = .ok (.iload_n 2, 1) := by decide +kernel
theorem d_Frm_between_38 : decode b_Frm_between 38 = .ok (.iaload, 1) := by decide +kernel
theorem d_Frm_between_39 : decode b_Frm_between 39 = .ok (.ireturn, 1) := by decide +kernel
theorem d_Frm_between_40 : decode b_Frm_between 40 = .ok (.aload_n 1, 1) := by decide +kernel
theorem d_Frm_between_41 : decode b_Frm_between 41 = .ok (.iload_n 2, 1) := by decide +kernel
theorem d_Frm_between_42 : decode b_Frm_between 42 = .ok (.iconst 1, 1) := by decide +kernel
theorem d_Frm_between_43 : decode b_Frm_between 43 = .ok (.iadd, 1) := by decide +kernel
theorem d_Frm_between_44 : decode b_Frm_between 44 = .ok (.iaload, 1) := by decide +kernel
theorem d_Frm_between_45 : decode b_Frm_between 45 = .ok (.aload_n 1, 1) := by decide +kernel
theorem d_Frm_between_46 : decode b_Frm_between 46 = .ok (.iload_n 2, 1) := by decide +kernel
theorem d_Frm_between_47 : decode b_Frm_between 47 = .ok (.iaload, 1) := by decide +kernel
theorem d_Frm_between_48 : decode b_Frm_between 48 = .ok (.isub, 1) := by decide +kernel
theorem d_Frm_between_49 : decode b_Frm_between 49 = .ok (.i2l, 1) := by decide +kernel
theorem d_Frm_between_50 : decode b_Frm_between 50 = .ok (.iload_n 3, 1) := by decide +kernel
theorem d_Frm_between_51 : decode b_Frm_between 51 = .ok (.aload_n 0, 1) := by decide +kernel
theorem d_Frm_between_52 : decode b_Frm_between 52 = .ok (.getfield 9, 3) := by decide +kernel
theorem d_Frm_between_55 : decode b_Frm_between 55 = .ok (.iload_n 2, 1) := by decide +kernel
theorem d_Frm_between_56 : decode b_Frm_between 56 = .ok (.iaload, 1) := by decide +kernel
theorem d_Frm_between_57 : decode b_Frm_between 57 = .ok (.isub, 1) := by decide +kernel
theorem d_Frm_between_58 : decode b_Frm_between 58 = .ok (.i2l, 1) := by decide +kernel
theorem d_Frm_between_59 : decode b_Frm_between 59 = .ok (.lmul, 1) := by decide +kernel
theorem d_Frm_between_60 : decode b_Frm_between 60 = .ok (.lstore 5, 2) := by decide +kernel
theorem d_Frm_between_62 : decode b_Frm_between 62 = .ok (.aload_n 1, 1) := by decide +kernel
theorem d_Frm_between_63 : decode b_Frm_between 63 = .ok (.iload_n 2, 1) := by decide +kernel
theorem d_Frm_between_64 : decode b_Frm_between 64 = .ok (.iaload, 1) := by decide +kernel
theorem d_Frm_between_65 : decode b_Frm_between 65 = .ok (.lload 5, 2) := by decide +kernel
theorem d_Frm_between_67 : decode b_Frm_between 67 = .ok (.iload 4, 2) := by decide +kernel
theorem d_Frm_between_69 : decode b_Frm_between 69 = .ok (.i2l, 1) := by decide +kernel
theorem d_Frm_between_70 : decode b_Frm_between 70 = .ok (.invokestatic 44, 3) := by decide +kernel
theorem d_Frm_between_73 : decode b_Frm_between 73 = .ok (.l2i, 1) := by decide +kernel
theorem d_Frm_between_74 : decode b_Frm_between 74 = .ok (.iadd, 1) := by decide +kernel
theorem d_Frm_between_75 : decode b_Frm_between 75 = .ok (.ireturn, 1) := by decide +kernel
theorem d_Pnt_init_0 : decode b_Pnt_init 0 = .ok (.aload_n 0, 1) := by decide +kernel
theorem d_Pnt_init_1 : decode b_Pnt_init 1 = .ok (.invokespecial 1, 3) := by decide +kernel
theorem d_Pnt_init_4 : decode b_Pnt_init 4 = .ok (.aload_n 0, 1) := by decide +kernel
theorem d_Pnt_init_5 : decode b_Pnt_init 5 = .ok (.iconst 0, 1) := by decide +kernel
theorem d_Pnt_init_6 : decode b_Pnt_init 6 = .ok (.putfield 7, 3) := by decide +kernel
theorem d_Pnt_init_9 : decode b_Pnt_init 9 = .ok (.aload_n 0, 1) := by decide +kernel
theorem d_Pnt_init_10 : decode b_Pnt_init 10 = .ok (.iconst 0, 1) := by decide +kernel
theorem d_Pnt_init_11 : decode b_Pnt_init 11 = .ok (.putfield 13, 3) := by decide +kernel
theorem d_Pnt_init_14 : decode b_Pnt_init 14 = .ok (.return_, 1) := by decide +kernel
theorem d_Pnt_lift_0 : decode b_Pnt_lift 0 = .ok (.aload_n 0, 1) := by decide +kernel
theorem d_Pnt_lift_1 : decode b_Pnt_lift 1 = .ok (.aload_n 1, 1) := by decide +kernel
theorem d_Pnt_lift_2 : decode b_Pnt_lift 2 = .ok (.getfield 16, 3) := by decide +kernel
theorem d_Pnt_lift_5 : decode b_Pnt_lift 5 = .ok (.iload_n 2, 1) := by decide +kernel
theorem d_Pnt_lift_6 : decode b_Pnt_lift 6 = .ok (.iaload, 1) := by decide +kernel
theorem d_Pnt_lift_7 : decode b_Pnt_lift 7 = .ok (.invokevirtual 22, 3) := by decide +kernel
theorem d_Pnt_lift_10 : decode b_Pnt_lift 10 = .ok (.aload_n 0, 1) := by decide +kernel
theorem d_Pnt_lift_11 : decode b_Pnt_lift 11 = .ok (.dup, 1) := by decide +kernel
theorem d_Pnt_lift_12 : decode b_Pnt_lift 12 = .ok (.getfield 7, 3) := by decide +kernel
theorem d_Pnt_lift_15 : decode b_Pnt_lift 15 = .ok (.aload_n 1, 1) := by decide +kernel
theorem d_Pnt_lift_16 : decode b_Pnt_lift 16 = .ok (.aload_n 1, 1) := by decide +kernel
theorem d_Pnt_lift_17 : decode b_Pnt_lift 17 = .ok (.getfield 26, 3) := by decide +kernel
theorem d_Pnt_lift_20 : decode b_Pnt_lift 20 = .ok (.iload_n 2, 1) := by decide +kernel
theorem d_Pnt_lift_21 : decode b_Pnt_lift 21 = .ok (.iload_n 3, 1) := by decide +kernel
theorem d_Pnt_lift_22 : decode b_Pnt_lift 22 = .ok (.invokevirtual 29, 3) := by decide +kernel
theorem d_Pnt_lift_25 : decode b_Pnt_lift 25 = .ok (.iadd, 1) := by decide +kernel
theorem d_Pnt_lift_26 : decode b_Pnt_lift 26 = .ok (.putfield 7, 3) := by decide +kernel
theorem d_Pnt_lift_29 : decode b_Pnt_lift 29 = .ok (.aload_n 0, 1) := by decide +kernel
theorem d_Pnt_lift_30 : decode b_Pnt_lift 30 = .ok (.dup, 1) := by decide +kernel
theorem d_Pnt_lift_31 : decode b_Pnt_lift 31 = .ok (.getfield 13, 3) := by decide +kernel
theorem d_Pnt_lift_34 : decode b_Pnt_lift 34 = .ok (.aload_n 1, 1) := by decide +kernel
theorem d_Pnt_lift_35 : decode b_Pnt_lift 35 = .ok (.aload_n 1, 1) := by decide +kernel
theorem d_Pnt_lift_36 : decode b_Pnt_lift 36 = .ok (.getfield 33, 3) := by decide +kernel
theorem d_Pnt_lift_39 : decode b_Pnt_lift 39 = .ok (.iload_n 2, 1) := by decide +kernel
theorem d_Pnt_lift_40 : decode b_Pnt_lift 40 = .ok (.iload_n 3, 1) := by decide +kernel
theorem d_Pnt_lift_41 : decode b_Pnt_lift 41 = .ok (.invokevirtual 29, 3) := by decide +kernel
theorem d_Pnt_lift_44 : decode b_Pnt_lift 44 = .ok (.iadd, 1) := by decide +kernel
theorem d_Pnt_lift_45 : decode b_Pnt_lift 45 = .ok (.putfield 13, 3) := by decide +kernel
theorem d_Pnt_lift_48 : decode b_Pnt_lift 48 = .ok (.return_, 1) := by decide +kernel
theorem d_Pnt_turnBy_0 : decode b_Pnt_turnBy 0 = .ok (.iconst 0, 1) := by decide +kernel
theorem d_Pnt_turnBy_1 : decode b_Pnt_turnBy 1 = .ok (.istore_n 2, 1) := by decide +kernel
theorem d_Pnt_turnBy_2 : decode b_Pnt_turnBy 2 = .ok (.iload_n 2, 1) := by decide +kernel
theorem d_Pnt_turnBy_3 : decode b_Pnt_turnBy 3 = .ok (.iload_n 1, 1) := by decide +kernel
theorem d_Pnt_turnBy_4 : decode b_Pnt_turnBy 4 = .ok (.if_icmp .ge 28, 3) := by decide +kernel
theorem d_Pnt_turnBy_7 : decode b_Pnt_turnBy 7 = .ok (.aload_n 0, 1) := by decide +kernel
theorem d_Pnt_turnBy_8 : decode b_Pnt_turnBy 8 = .ok (.getfield 7, 3) := by decide +kernel
theorem d_Pnt_turnBy_11 : decode b_Pnt_turnBy 11 = .ok (.istore_n 3, 1) := by decide +kernel
theorem d_Pnt_turnBy_12 : decode b_Pnt_turnBy 12 = .ok (.aload_n 0, 1) := by decide +kernel
theorem d_Pnt_turnBy_13 : decode b_Pnt_turnBy 13 = .ok (.aload_n 0, 1) := by decide +kernel
theorem d_Pnt_turnBy_14 : decode b_Pnt_turnBy 14 = .ok (.getfield 13, 3) := by decide +kernel
theorem d_Pnt_turnBy_17 : decode b_Pnt_turnBy 17 = .ok (.ineg, 1) := by decide +kernel
theorem d_Pnt_turnBy_18 : decode b_Pnt_turnBy 18 = .ok (.putfield 7, 3) := by decide +kernel
theorem d_Pnt_turnBy_21 : decode b_Pnt_turnBy 21 = .ok (.aload_n 0, 1) := by decide +kernel
theorem d_Pnt_turnBy_22 : decode b_Pnt_turnBy 22 = .ok (.iload_n 3, 1) := by decide +kernel
theorem d_Pnt_turnBy_23 : decode b_Pnt_turnBy 23 = .ok (.putfield 13, 3) := by decide +kernel
theorem d_Pnt_turnBy_26 : decode b_Pnt_turnBy 26 = .ok (.iinc 2 1, 3) := by decide +kernel
theorem d_Pnt_turnBy_29 : decode b_Pnt_turnBy 29 = .ok (.goto (-27), 3) := by decide +kernel
theorem d_Pnt_turnBy_32 : decode b_Pnt_turnBy 32 = .ok (.return_, 1) := by decide +kernel
theorem d_Math_max_0 : decode b_Math_max 0 = .ok (.iload_n 0, 1) := by decide +kernel
theorem d_Math_max_1 : decode b_Math_max 1 = .ok (.iload_n 1, 1) := by decide +kernel
theorem d_Math_max_2 : decode b_Math_max 2 = .ok (.if_icmp .lt 7, 3) := by decide +kernel
theorem d_Math_max_5 : decode b_Math_max 5 = .ok (.iload_n 0, 1) := by decide +kernel
theorem d_Math_max_6 : decode b_Math_max 6 = .ok (.goto 4, 3) := by decide +kernel
theorem d_Math_max_9 : decode b_Math_max 9 = .ok (.iload_n 1, 1) := by decide +kernel
theorem d_Math_max_10 : decode b_Math_max 10 = .ok (.ireturn, 1) := by decide +kernel
theorem d_Math_floorDiv_0 : decode b_Math_floorDiv 0 = .ok (.lload_n 0, 1) := by decide +kernel
theorem d_Math_floorDiv_1 : decode b_Math_floorDiv 1 = .ok (.lload_n 2, 1) := by decide +kernel
theorem d_Math_floorDiv_2 : decode b_Math_floorDiv 2 = .ok (.ldiv, 1) := by decide +kernel
theorem d_Math_floorDiv_3 : decode b_Math_floorDiv 3 = .ok (.lstore 4, 2) := by decide +kernel
theorem d_Math_floorDiv_5 : decode b_Math_floorDiv 5 = .ok (.lload_n 0, 1) := by decide +kernel
theorem d_Math_floorDiv_6 : decode b_Math_floorDiv 6 = .ok (.lload_n 2, 1) := by decide +kernel
theorem d_Math_floorDiv_7 : decode b_Math_floorDiv 7 = .ok (.lxor, 1) := by decide +kernel
theorem d_Math_floorDiv_8 : decode b_Math_floorDiv 8 = .ok (.lconst 0, 1) := by decide +kernel
theorem d_Math_floorDiv_9 : decode b_Math_floorDiv 9 = .ok (.lcmp, 1) := by decide +kernel
theorem d_Math_floorDiv_10 : decode b_Math_floorDiv 10 = .ok (.ifCond .ge 17, 3) := by decide +kernel
theorem d_Math_floorDiv_13 : decode b_Math_floorDiv 13 = .ok (.lload 4, 2) := by decide +kernel
theorem d_Math_floorDiv_15 : decode b_Math_floorDiv 15 = .ok (.lload_n 2, 1) := by decide +kernel
theorem d_Math_floorDiv_16 : decode b_Math_floorDiv 16 = .ok (.lmul, 1) := by decide +kernel
theorem d_Math_floorDiv_17 : decode b_Math_floorDiv 17 = .ok (.lload_n 0, 1) := by decide +kernel
theorem d_Math_floorDiv_18 : decode b_Math_floorDiv 18 = .ok (.lcmp, 1) := by decide +kernel
theorem d_Math_floorDiv_19 : decode b_Math_floorDiv 19 = .ok (.ifCond .eq 8, 3) := by decide +kernel
theorem d_Math_floorDiv_22 : decode b_Math_floorDiv 22 = .ok (.lload 4, 2) := by decide +kernel
theorem d_Math_floorDiv_24 : decode b_Math_floorDiv 24 = .ok (.lconst 1, 1) := by decide +kernel
theorem d_Math_floorDiv_25 : decode b_Math_floorDiv 25 = .ok (.lsub, 1) := by decide +kernel
theorem d_Math_floorDiv_26 : decode b_Math_floorDiv 26 = .ok (.lreturn, 1) := by decide +kernel
theorem d_Math_floorDiv_27 : decode b_Math_floorDiv 27 = .ok (.lload 4, 2) := by decide +kernel
theorem d_Math_floorDiv_29 : decode b_Math_floorDiv 29 = .ok (.lreturn, 1) := by decide +kernel
end
section
theorem d_Bus_init_0 : decode b_Bus_init 0 = .ok (.aload_n 0, 1) := by decide +kernel
theorem d_Bus_init_1 : decode b_Bus_init 1 = .ok (.invokespecial 1, 3) := by decide +kernel
theorem d_Bus_init_4 : decode b_Bus_init 4 = .ok (.aload_n 0, 1) := by decide +kernel
theorem d_Bus_init_5 : decode b_Bus_init 5 = .ok (.bipush 6, 2) := by decide +kernel
theorem d_Bus_init_7 : decode b_Bus_init 7 = .ok (.anewarray 9, 3) := by decide +kernel
theorem d_Bus_init_10 : decode b_Bus_init 10 = .ok (.putfield 11, 3) := by decide +kernel
theorem d_Bus_init_13 : decode b_Bus_init 13 = .ok (.aload_n 0, 1) := by decide +kernel
theorem d_Bus_init_14 : decode b_Bus_init 14 = .ok (.bipush 6, 2) := by decide +kernel
theorem d_Bus_init_16 : decode b_Bus_init 16 = .ok (.anewarray 15, 3) := by decide +kernel
theorem d_Bus_init_19 : decode b_Bus_init 19 = .ok (.putfield 17, 3) := by decide +kernel
theorem d_Bus_init_22 : decode b_Bus_init 22 = .ok (.aload_n 0, 1) := by decide +kernel
theorem d_Bus_init_23 : decode b_Bus_init 23 = .ok (.iconst 4, 1) := by decide +kernel
theorem d_Bus_init_24 : decode b_Bus_init 24 = .ok (.anewarray 21, 3) := by decide +kernel
theorem d_Bus_init_27 : decode b_Bus_init 27 = .ok (.putfield 23, 3) := by decide +kernel
theorem d_Bus_init_30 : decode b_Bus_init 30 = .ok (.aload_n 0, 1) := by decide +kernel
theorem d_Bus_init_31 : decode b_Bus_init 31 = .ok (.bipush 6, 2) := by decide +kernel
theorem d_Bus_init_33 : decode b_Bus_init 33 = .ok (.anewarray 27, 3) := by decide +kernel
theorem d_Bus_init_36 : decode b_Bus_init 36 = .ok (.putfield 29, 3) := by decide +kernel
theorem d_Bus_init_39 : decode b_Bus_init 39 = .ok (.aload_n 0, 1) := by decide +kernel
theorem d_Bus_init_40 : decode b_Bus_init 40 = .ok (.new 33, 3) := by decide +kernel
theorem d_Bus_init_43 : decode b_Bus_init 43 = .ok (.dup, 1) := by decide +kernel
theorem d_Bus_init_44 : decode b_Bus_init 44 = .ok (.invokespecial 35, 3) := by decide +kernel
theorem d_Bus_init_47 : decode b_Bus_init 47 = .ok (.putfield 36, 3) := by decide +kernel
theorem d_Bus_init_50 : decode b_Bus_init 50 = .ok (.aload_n 0, 1) := by decide +kernel
theorem d_Bus_init_51 : decode b_Bus_init 51 = .ok (.new 40, 3) := by decide +kernel
theorem d_Bus_init_54 : decode b_Bus_init 54 = .ok (.dup, 1) := by decide +kernel
theorem d_Bus_init_55 : decode b_Bus_init 55 = .ok (.invokespecial 42, 3) := by decide +kernel
theorem d_Bus_init_58 : decode b_Bus_init 58 = .ok (.putfield 43, 3) := by decide +kernel
theorem d_Bus_init_61 : decode b_Bus_init 61 = .ok (.aload_n 0, 1) := by decide +kernel
theorem d_Bus_init_62 : decode b_Bus_init 62 = .ok (.iconst 0, 1) := by decide +kernel
theorem d_Bus_init_63 : decode b_Bus_init 63 = .ok (.putfield 47, 3) := by decide +kernel
theorem d_Bus_init_66 : decode b_Bus_init 66 = .ok (.aload_n 0, 1) := by decide +kernel
theorem d_Bus_init_67 : decode b_Bus_init 67 = .ok (.iconst 0, 1) := by decide +kernel
theorem d_Bus_init_68 : decode b_Bus_init 68 = .ok (.putfield 51, 3) := by decide +kernel
theorem d_Bus_init_71 : decode b_Bus_init 71 = .ok (.aload_n 0, 1) := by decide +kernel
theorem d_Bus_init_72 : decode b_Bus_init 72 = .ok (.iconst 0, 1) := by decide +kernel
theorem d_Bus_init_73 : decode b_Bus_init 73 = .ok (.putfield 54, 3) := by decide +kernel
theorem d_Bus_init_76 : decode b_Bus_init 76 = .ok (.aload_n 0, 1) := by decide +kernel
theorem d_Bus_init_77 : decode b_Bus_init 77 = .ok (.iconst 0, 1) := by decide +kernel
theorem d_Bus_init_78 : decode b_Bus_init 78 = .ok (.putfield 57, 3) := by decide +kernel
theorem d_Bus_init_81 : decode b_Bus_init 81 = .ok (.aload_n 0, 1) := by decide +kernel
theorem d_Bus_init_82 : decode b_Bus_init 82 = .ok (.iconst 0, 1) := by decide +kernel
theorem d_Bus_init_83 : decode b_Bus_init 83 = .ok (.putfield 60, 3) := by decide +kernel
theorem d_Bus_init_86 : decode b_Bus_init 86 = .ok (.aload_n 0, 1) := by decide +kernel
theorem d_Bus_init_87 : decode b_Bus_init 87 = .ok (.iconst 0, 1) := by decide +kernel
theorem d_Bus_init_88 : decode b_Bus_init 88 = .ok (.putfield 63, 3) := by decide +kernel
theorem d_Bus_init_91 : decode b_Bus_init 91 = .ok (.aload_n 0, 1) := by decide +kernel
theorem d_Bus_init_92 : decode b_Bus_init 92 = .ok (.dconst 0, 1) := by decide +kernel
theorem d_Bus_init_93 : decode b_Bus_init 93 = .ok (.putfield 66, 3) := by decide +kernel
theorem d_Bus_init_96 : decode b_Bus_init 96 = .ok (.iconst 0, 1) := by decide +kernel
theorem d_Bus_init_97 : decode b_Bus_init 97 = .ok (.istore_n 1, 1) := by decide +kernel
theorem d_Bus_init_98 : decode b_Bus_init 98 = .ok (.iload_n 1, 1) := by decide +kernel
theorem d_Bus_init_99 : decode b_Bus_init 99 = .ok (.bipush 6, 2) := by decide +kernel
theorem d_Bus_init_101 : decode b_Bus_init 101 = .ok (.if_icmp .ge 22, 3) := by decide +kernel
theorem d_Bus_init_104 : decode b_Bus_init 104 = .ok (.aload_n 0, 1) := by decide +kernel
theorem d_Bus_init_105 : decode b_Bus_init 105 = .ok (.getfield 11, 3) := by decide +kernel
theorem d_Bus_init_108 : decode b_Bus_init 108 = .ok (.iload_n 1, 1) := by decide +kernel
theorem d_Bus_init_109 : decode b_Bus_init 109 = .ok (.new 9, 3) := by decide +kernel
theorem d_Bus_init_112 : decode b_Bus_init 112 = .ok (.dup, 1) := by decide +kernel
theorem d_Bus_init_113 : decode b_Bus_init 113 = .ok (.invokespecial 70, 3) := by decide +kernel
theorem d_Bus_init_116 : decode b_Bus_init 116 = .ok (.aastore, 1) := by decide +kernel
theorem d_Bus_init_117 : decode b_Bus_init 117 = .ok (.iinc 1 1, 3) := by decide +kernel
theorem d_Bus_init_120 : decode b_Bus_init 120 = .ok (.goto (-22), 3) := by decide +kernel
theorem d_Bus_init_123 : decode b_Bus_init 123 = .ok (.iconst 0, 1) := by decide +kernel
theorem d_Bus_init_124 : decode b_Bus_init 124 = .ok (.istore_n 1, 1) := by decide +kernel
theorem d_Bus_init_125 : decode b_Bus_init 125 = .ok (.iload_n 1, 1) := by decide +kernel
theorem d_Bus_init_126 : decode b_Bus_init 126 = .ok (.bipush 6, 2) := by decide +kernel
theorem d_Bus_init_128 : decode b_Bus_init 128 = .ok (.if_icmp .ge 22, 3) := by decide +kernel
theorem d_Bus_init_131 : decode b_Bus_init 131 = .ok (.aload_n 0, 1) := by decide +kernel
theorem d_Bus_init_132 : decode b_Bus_init 132 = .ok (.getfield 17, 3) := by decide +kernel
theorem d_Bus_init_135 : decode b_Bus_init 135 = .ok (.iload_n 1, 1) := by decide +kernel
theorem d_Bus_init_136 : decode b_Bus_init 136 = .ok (.new 15, 3) := by decide +kernel
theorem d_Bus_init_139 : decode b_Bus_init 139 = .ok (.dup, 1) := by decide +kernel
theorem d_Bus_init_140 : decode b_Bus_init 140 = .ok (.invokespecial 71, 3) := by decide +kernel
theorem d_Bus_init_143 : decode b_Bus_init 143 = .ok (.aastore, 1) := by decide +kernel
theorem d_Bus_init_144 : decode b_Bus_init 144 = .ok (.iinc 1 1, 3) := by decide +kernel
theorem d_Bus_init_147 : decode b_Bus_init 147 = .ok (.goto (-22), 3) := by decide +kernel
theorem d_Bus_init_150 : decode b_Bus_init 150 = .ok (.iconst 0, 1) := by decide +kernel
theorem d_Bus_init_151 : decode b_Bus_init 151 = .ok (.istore_n 1, 1) := by decide +kernel
theorem d_Bus_init_152 : decode b_Bus_init 152 = .ok (.iload_n 1, 1) := by decide +kernel
theorem d_Bus_init_153 : decode b_Bus_init 153 = .ok (.iconst 4, 1) := by decide +kernel
theorem d_Bus_init_154 : decode b_Bus_init 154 = .ok (.if_icmp .ge 22, 3) := by decide +kernel
theorem d_Bus_init_157 : decode b_Bus_init 157 = .ok (.aload_n 0, 1) := by decide +kernel
theorem d_Bus_init_158 : decode b_Bus_init 158 = .ok (.getfield 23, 3) := by decide +kernel
theorem d_Bus_init_161 : decode b_Bus_init 161 = .ok (.iload_n 1, 1) := by decide +kernel
theorem d_Bus_init_162 : decode b_Bus_init 162 = .ok (.new 21, 3) := by decide +kernel
theorem d_Bus_init_165 : decode b_Bus_init 165 = .ok (.dup, 1) := by decide +kernel
theorem d_Bus_init_166 : decode b_Bus_init 166 = .ok (.invokespecial 72, 3) := by decide +kernel
theorem d_Bus_init_169 : decode b_Bus_init 169 = .ok (.aastore, 1) := by decide +kernel
theorem d_Bus_init_170 : decode b_Bus_init 170 = .ok (.iinc 1 1, 3) := by decide +kernel
theorem d_Bus_init_173 : decode b_Bus_init 173 = .ok (.goto (-21), 3) := by decide +kernel
theorem d_Bus_init_176 : decode b_Bus_init 176 = .ok (.iconst 0, 1) := by decide +kernel
theorem d_Bus_init_177 : decode b_Bus_init 177 = .ok (.istore_n 1, 1) := by decide +kernel
theorem d_Bus_init_178 : decode b_Bus_init 178 = .ok (.iload_n 1, 1) := by decide +kernel
theorem d_Bus_init_179 : decode b_Bus_init 179 = .ok (.bipush 6, 2) := by decide +kernel
theorem d_Bus_init_181 : decode b_Bus_init 181 = .ok (.if_icmp .ge 22, 3) := by decide +kernel
theorem d_Bus_init_184 : decode b_Bus_init 184 = .ok (.aload_n 0, 1) := by decide +kernel
theorem d_Bus_init_185 : decode b_Bus_init 185 = .ok (.getfield 29, 3) := by decide +kernel
theorem d_Bus_init_188 : decode b_Bus_init 188 = .ok (.iload_n 1, 1) := by decide +kernel
theorem d_Bus_init_189 : decode b_Bus_init 189 = .ok (.new 27, 3) := by decide +kernel
theorem d_Bus_init_192 : decode b_Bus_init 192 = .ok (.dup, 1) := by decide +kernel
theorem d_Bus_init_193 : decode b_Bus_init 193 = .ok (.invokespecial 73, 3) := by decide +kernel
theorem d_Bus_init_196 : decode b_Bus_init 196 = .ok (.aastore, 1) := by decide +kernel
theorem d_Bus_init_197 : decode b_Bus_init 197 = .ok (.iinc 1 1, 3) := by decide +kernel
theorem d_Bus_init_200 : decode b_Bus_init 200 = .ok (.goto (-22), 3) := by decide +kernel
theorem d_Bus_init_203 : decode b_Bus_init 203 = .ok (.return_, 1) := by decide +kernel
theorem d_Bus_lastY_0 : decode b_Bus_lastY 0 = .ok (.aload_n 0, 1) := by decide +kernel
theorem d_Bus_lastY_1 : decode b_Bus_lastY 1 = .ok (.getfield 66, 3) := by decide +kernel
theorem d_Bus_lastY_4 : decode b_Bus_lastY 4 = .ok (.dreturn, 1) := by decide +kernel
theorem d_Bus_join_0 : decode b_Bus_join 0 = .ok (.iload_n 1, 1) := by decide +kernel
theorem d_Bus_join_1 : decode b_Bus_join 1 = .ok (.bipush 6, 2) := by decide +kernel
theorem d_Bus_join_3 : decode b_Bus_join 3 = .ok (.invokestatic 74, 3) := by decide +kernel
theorem d_Bus_join_6 : decode b_Bus_join 6 = .ok (.ifCond .ne 13, 3) := by decide +kernel
theorem d_Bus_join_9 : decode b_Bus_join 9 = .ok (.new 78, 3) := by decide +kernel
theorem d_Bus_join_12 : decode b_Bus_join 12 = .ok (.dup, 1) := by decide +kernel
theorem d_Bus_join_13 : decode b_Bus_join 13 = .ok (.ldc 80, 2) := by decide +kernel
theorem d_Bus_join_15 : decode b_Bus_join 15 = .ok (.invokespecial 82, 3) := by decide +kernel
theorem d_Bus_join_18 : decode b_Bus_join 18 = .ok (.athrow, 1) := by decide +kernel
theorem d_Bus_join_19 : decode b_Bus_join 19 = .ok (.aload_n 0, 1) := by decide +kernel
theorem d_Bus_join_20 : decode b_Bus_join 20 = .ok (.getfield 11, 3) := by decide +kernel
theorem d_Bus_join_23 : decode b_Bus_join 23 = .ok (.iload_n 1, 1) := by decide +kernel
theorem d_Bus_join_24 : decode b_Bus_join 24 = .ok (.aaload, 1) := by decide +kernel
theorem d_Bus_join_25 : decode b_Bus_join 25 = .ok (.getfield 85, 3) := by decide +kernel
theorem d_Bus_join_28 : decode b_Bus_join 28 = .ok (.ifCond .eq 13, 3) := by decide +kernel
theorem d_Bus_join_31 : decode b_Bus_join 31 = .ok (.new 89, 3) := by decide +kernel
theorem d_Bus_join_34 : decode b_Bus_join 34 = .ok (.dup, 1) := by decide +kernel
theorem d_Bus_join_35 : decode b_Bus_join 35 = .ok (.ldc 91, 2) := by decide +kernel
theorem d_Bus_join_37 : decode b_Bus_join 37 = .ok (.invokespecial 93, 3) := by decide +kernel
theorem d_Bus_join_40 : decode b_Bus_join 40 = .ok (.athrow, 1) := by decide +kernel
theorem d_Bus_join_41 : decode b_Bus_join 41 = .ok (.aload_n 0, 1) := by decide +kernel
theorem d_Bus_join_42 : decode b_Bus_join 42 = .ok (.getfield 11, 3) := by decide +kernel
theorem d_Bus_join_45 : decode b_Bus_join 45 = .ok (.iload_n 1, 1) := by decide +kernel
theorem d_Bus_join_46 : decode b_Bus_join 46 = .ok (.aaload, 1) := by decide +kernel
theorem d_Bus_join_47 : decode b_Bus_join 47 = .ok (.iconst 1, 1) := by decide +kernel
theorem d_Bus_join_48 : decode b_Bus_join 48 = .ok (.putfield 85, 3) := by decide +kernel
theorem d_Bus_join_51 : decode b_Bus_join 51 = .ok (.iconst 1, 1) := by decide +kernel
theorem d_Bus_join_52 : decode b_Bus_join 52 = .ok (.ireturn, 1) := by decide +kernel
theorem d_Bus_isBelow_0 : decode b_Bus_isBelow 0 = .ok (.iload_n 0, 1) := by decide +kernel
theorem d_Bus_isBelow_1 : decode b_Bus_isBelow 1 = .ok (.ifCond .lt 12, 3) := by decide +kernel
theorem d_Bus_isBelow_4 : decode b_Bus_isBelow 4 = .ok (.iload_n 0, 1) := by decide +kernel
theorem d_Bus_isBelow_5 : decode b_Bus_isBelow 5 = .ok (.iload_n 1, 1) := by decide +kernel
theorem d_Bus_isBelow_6 : decode b_Bus_isBelow 6 = .ok (.if_icmp .ge 7, 3) := by decide +kernel
theorem d_Bus_isBelow_9 : decode b_Bus_isBelow 9 = .ok (.iconst 1, 1) := by decide +kernel
theorem d_Bus_isBelow_10 : decode b_Bus_isBelow 10 = .ok (.goto 4, 3) := by decide +kernel
theorem d_Bus_isBelow_13 : decode b_Bus_isBelow 13 = .ok (.iconst 0, 1) := by decide +kernel
theorem d_Bus_isBelow_14 : decode b_Bus_isBelow 14 = .ok (.ireturn, 1) := by decide +kernel
theorem d_Bus_leave_0 : decode b_Bus_leave 0 = .ok (.aload_n 0, 1) := by decide +kernel
theorem d_Bus_leave_1 : decode b_Bus_leave 1 = .ok (.iload_n 1, 1) := by decide +kernel
theorem d_Bus_leave_2 : decode b_Bus_leave 2 = .ok (.invokevirtual 94, 3) := by decide +kernel
theorem d_Bus_leave_5 : decode b_Bus_leave 5 = .ok (.ifCond .ne 13, 3) := by decide +kernel
theorem d_Bus_leave_8 : decode b_Bus_leave 8 = .ok (.new 98, 3) := by decide +kernel
theorem d_Bus_leave_11 : decode b_Bus_leave 11 = .ok (.dup, 1) := by decide +kernel
theorem d_Bus_leave_12 : decode b_Bus_leave 12 = .ok (.ldc 100, 2) := by decide +kernel
theorem d_Bus_leave_14 : decode b_Bus_leave 14 = .ok (.invokespecial 102, 3) := by decide +kernel
theorem d_Bus_leave_17 : decode b_Bus_leave 17 = .ok (.athrow, 1) := by decide +kernel
theorem d_Bus_leave_18 : decode b_Bus_leave 18 = .ok (.iconst 0, 1) := by decide +kernel
theorem d_Bus_leave_19 : decode b_Bus_leave 19 = .ok (.istore_n 2, 1) := by decide +kernel
theorem d_Bus_leave_20 : decode b_Bus_leave 20 = .ok (.iload_n 2, 1) := by decide +kernel
theorem d_Bus_leave_21 : decode b_Bus_leave 21 = .ok (.iconst 4, 1) := by decide +kernel
theorem d_Bus_leave_22 : decode b_Bus_leave 22 = .ok (.if_icmp .ge 32, 3) := by decide +kernel
theorem d_Bus_leave_25 : decode b_Bus_leave 25 = .ok (.aload_n 0, 1) := by decide +kernel
theorem d_Bus_leave_26 : decode b_Bus_leave 26 = .ok (.getfield 23, 3) := by decide +kernel
theorem d_Bus_leave_29 : decode b_Bus_leave 29 = .ok (.iload_n 2, 1) := by decide +kernel
theorem d_Bus_leave_30 : decode b_Bus_leave 30 = .ok (.aaload, 1) := by decide +kernel
theorem d_Bus_leave_31 : decode b_Bus_leave 31 = .ok (.getfield 103, 3) := by decide +kernel
theorem d_Bus_leave_34 : decode b_Bus_leave 34 = .ok (.iload_n 1, 1) := by decide +kernel
theorem d_Bus_leave_35 : decode b_Bus_leave 35 = .ok (.if_icmp .ne 13, 3) := by decide +kernel
theorem d_Bus_leave_38 : decode b_Bus_leave 38 = .ok (.aload_n 0, 1) := by decide +kernel
theorem d_Bus_leave_39 : decode b_Bus_leave 39 = .ok (.getfield 23, 3) := by decide +kernel
theorem d_Bus_leave_42 : decode b_Bus_leave 42 = .ok (.iload_n 2, 1) := by decide +kernel
theorem d_Bus_leave_43 : decode b_Bus_leave 43 = .ok (.aaload, 1) := by decide +kernel
theorem d_Bus_leave_44 : decode b_Bus_leave 44 = .ok (.iconst (-1), 1) := by decide +kernel
theorem d_Bus_leave_45 : decode b_Bus_leave 45 = .ok (.putfield 103, 3) := by decide +kernel
theorem d_Bus_leave_48 : decode b_Bus_leave 48 = .ok (.iinc 2 1, 3) := by decide +kernel
theorem d_Bus_leave_51 : decode b_Bus_leave 51 = .ok (.goto (-31), 3) := by decide +kernel
theorem d_Bus_leave_54 : decode b_Bus_leave 54 = .ok (.aload_n 0, 1) := by decide +kernel
theorem d_Bus_leave_55 : decode b_Bus_leave 55 = .ok (.getfield 11, 3) := by decide +kernel
theorem d_Bus_leave_58 : decode b_Bus_leave 58 = .ok (.iload_n 1, 1) := by decide +kernel
theorem d_Bus_leave_59 : decode b_Bus_leave 59 = .ok (.aaload, 1) := by decide +kernel
theorem d_Bus_leave_60 : decode b_Bus_leave 60 = .ok (.invokevirtual 106, 3) := by decide +kernel
theorem d_Bus_leave_63 : decode b_Bus_leave 63 = .ok (.ireturn, 1) := by decide +kernel
theorem d_Bus_isThere_0 : decode b_Bus_isThere 0 = .ok (.iload_n 1, 1) := by decide +kernel
theorem d_Bus_isThere_1 : decode b_Bus_isThere 1 = .ok (.bipush 6, 2) := by decide +kernel
theorem d_Bus_isThere_3 : decode b_Bus_isThere 3 = .ok (.invokestatic 74, 3) := by decide +kernel
theorem d_Bus_isThere_6 : decode b_Bus_isThere 6 = .ok (.ifCond .eq 19, 3) := by decide +kernel
theorem d_Bus_isThere_9 : decode b_Bus_isThere 9 = .ok (.aload_n 0, 1) := by decide +kernel
theorem d_Bus_isThere_10 : decode b_Bus_isThere 10 = .ok (.getfield 11, 3) := by decide +kernel
theorem d_Bus_isThere_13 : decode b_Bus_isThere 13 = .ok (.iload_n 1, 1) := by decide +kernel
theorem d_Bus_isThere_14 : decode b_Bus_isThere 14 = .ok (.aaload, 1) := by decide +kernel
theorem d_Bus_isThere_15 : decode b_Bus_isThere 15 = .ok (.getfield 85, 3) := by decide +kernel
theorem d_Bus_isThere_18 : decode b_Bus_isThere 18 = .ok (.ifCond .eq 7, 3) := by decide +kernel
theorem d_Bus_isThere_21 : decode b_Bus_isThere 21 = .ok (.iconst 1, 1) := by decide +kernel
theorem d_Bus_isThere_22 : decode b_Bus_isThere 22 = .ok (.goto 4, 3) := by decide +kernel
theorem d_Bus_isThere_25 : decode b_Bus_isThere 25 = .ok (.iconst 0, 1) := by decide +kernel
theorem d_Bus_isThere_26 : decode b_Bus_isThere 26 = .ok (.ireturn, 1) := by decide +kernel
theorem d_Bus_latch_0 : decode b_Bus_latch 0 = .ok (.iload_n 1, 1) := by decide +kernel
theorem d_Bus_latch_1 : decode b_Bus_latch 1 = .ok (.bipush 6, 2) := by decide +kernel
theorem d_Bus_latch_3 : decode b_Bus_latch 3 = .ok (.invokestatic 74, 3) := by decide +kernel
theorem d_Bus_latch_6 : decode b_Bus_latch 6 = .ok (.ifCond .ne 13, 3) := by decide +kernel
theorem d_Bus_latch_9 : decode b_Bus_latch 9 = .ok (.new 78, 3) := by decide +kernel
theorem d_Bus_latch_12 : decode b_Bus_latch 12 = .ok (.dup, 1) := by decide +kernel
theorem d_Bus_latch_13 : decode b_Bus_latch 13 = .ok (.ldc 110, 2) := by decide +kernel
theorem d_Bus_latch_15 : decode b_Bus_latch 15 = .ok (.invokespecial 82, 3) := by decide +kernel
theorem d_Bus_latch_18 : decode b_Bus_latch 18 = .ok (.athrow, 1) := by decide +kernel
theorem d_Bus_latch_19 : decode b_Bus_latch 19 = .ok (.aload_n 0, 1) := by decide +kernel
theorem d_Bus_latch_20 : decode b_Bus_latch 20 = .ok (.getfield 17, 3) := by decide +kernel
theorem d_Bus_latch_23 : decode b_Bus_latch 23 = .ok (.iload_n 1, 1) := by decide +kernel
theorem d_Bus_latch_24 : decode b_Bus_latch 24 = .ok (.aaload, 1) := by decide +kernel
theorem d_Bus_latch_25 : decode b_Bus_latch 25 = .ok (.getfield 112, 3) := by decide +kernel
theorem d_Bus_latch_28 : decode b_Bus_latch 28 = .ok (.iload_n 2, 1) := by decide +kernel
theorem d_Bus_latch_29 : decode b_Bus_latch 29 = .ok (.if_icmp .eq 7, 3) := by decide +kernel
theorem d_Bus_latch_32 : decode b_Bus_latch 32 = .ok (.iconst 1, 1) := by decide +kernel
theorem d_Bus_latch_33 : decode b_Bus_latch 33 = .ok (.goto 4, 3) := by decide +kernel
theorem d_Bus_latch_36 : decode b_Bus_latch 36 = .ok (.iconst 0, 1) := by decide +kernel
theorem d_Bus_latch_37 : decode b_Bus_latch 37 = .ok (.istore_n 3, 1) := by decide +kernel
theorem d_Bus_latch_38 : decode b_Bus_latch 38 = .ok (.aload_n 0, 1) := by decide +kernel
theorem d_Bus_latch_39 : decode b_Bus_latch 39 = .ok (.getfield 17, 3) := by decide +kernel
theorem d_Bus_latch_42 : decode b_Bus_latch 42 = .ok (.iload_n 1, 1) := by decide +kernel
theorem d_Bus_latch_43 : decode b_Bus_latch 43 = .ok (.aaload, 1) := by decide +kernel
theorem d_Bus_latch_44 : decode b_Bus_latch 44 = .ok (.iload_n 2, 1) := by decide +kernel
theorem d_Bus_latch_45 : decode b_Bus_latch 45 = .ok (.putfield 112, 3) := by decide +kernel
theorem d_Bus_latch_48 : decode b_Bus_latch 48 = .ok (.iload_n 3, 1) := by decide +kernel
theorem d_Bus_latch_49 : decode b_Bus_latch 49 = .ok (.ifCond .eq 7, 3) := by decide +kernel
theorem d_Bus_latch_52 : decode b_Bus_latch 52 = .ok (.iconst 1, 1) := by decide +kernel
theorem d_Bus_latch_53 : decode b_Bus_latch 53 = .ok (.goto 4, 3) := by decide +kernel
theorem d_Bus_latch_56 : decode b_Bus_latch 56 = .ok (.iconst 0, 1) := by decide +kernel
theorem d_Bus_latch_57 : decode b_Bus_latch 57 = .ok (.ireturn, 1) := by decide +kernel
theorem d_Bus_subscribe_0 : decode b_Bus_subscribe 0 = .ok (.aload_n 0, 1) := by decide +kernel
theorem d_Bus_subscribe_1 : decode b_Bus_subscribe 1 = .ok (.iload_n 1, 1) := by decide +kernel
theorem d_Bus_subscribe_2 : decode b_Bus_subscribe 2 = .ok (.invokevirtual 94, 3) := by decide +kernel
theorem d_Bus_subscribe_5 : decode b_Bus_subscribe 5 = .ok (.ifCond .ne 13, 3) := by decide +kernel
theorem d_Bus_subscribe_8 : decode b_Bus_subscribe 8 = .ok (.new 98, 3) := by decide +kernel
theorem d_Bus_subscribe_11 : decode b_Bus_subscribe 11 = .ok (.dup, 1) := by decide +kernel
theorem d_Bus_subscribe_12 : decode b_Bus_subscribe 12 = .ok (.ldc 100, 2) := by decide +kernel
theorem d_Bus_subscribe_14 : decode b_Bus_subscribe 14 = .ok (.invokespecial 102, 3) := by decide +kernel
theorem d_Bus_subscribe_17 : decode b_Bus_subscribe 17 = .ok (.athrow, 1) := by decide +kernel
theorem d_Bus_subscribe_18 : decode b_Bus_subscribe 18 = .ok (.iload_n 2, 1) := by decide +kernel
theorem d_Bus_subscribe_19 : decode b_Bus_subscribe 19 = .ok (.bipush 6, 2) := by decide +kernel
theorem d_Bus_subscribe_21 : decode b_Bus_subscribe 21 = .ok (.invokestatic 74, 3) := by decide +kernel
theorem d_Bus_subscribe_24 : decode b_Bus_subscribe 24 = .ok (.ifCond .eq 12, 3) := by decide +kernel
theorem d_Bus_subscribe_27 : decode b_Bus_subscribe 27 = .ok (.iload_n 3, 1) := by decide +kernel
theorem d_Bus_subscribe_28 : decode b_Bus_subscribe 28 = .ok (.iconst 1, 1) := by decide +kernel
theorem d_Bus_subscribe_29 : decode b_Bus_subscribe 29 = .ok (.iconst 4, 1) := by decide +kernel
theorem d_Bus_subscribe_30 : decode b_Bus_subscribe 30 = .ok (.invokestatic 115, 3) := by decide +kernel
theorem d_Bus_subscribe_33 : decode b_Bus_subscribe 33 = .ok (.ifCond .ne 13, 3) := by decide +kernel
theorem d_Bus_subscribe_36 : decode b_Bus_subscribe 36 = .ok (.new 78, 3) := by decide +kernel
theorem d_Bus_subscribe_39 : decode b_Bus_subscribe 39 = .ok (.dup, 1) := by decide +kernel
theorem d_Bus_subscribe_40 : decode b_Bus_subscribe 40 = .ok (.ldc 119, 2) := by decide +kernel
theorem d_Bus_subscribe_42 : decode b_Bus_subscribe 42 = .ok (.invokespecial 82, 3) := by decide +kernel
theorem d_Bus_subscribe_45 : decode b_Bus_subscribe 45 = .ok (.athrow, 1) := by decide +kernel
theorem d_Bus_subscribe_46 : decode b_Bus_subscribe 46 = .ok (.aload_n 0, 1) := by decide +kernel
theorem d_Bus_subscribe_47 : decode b_Bus_subscribe 47 = .ok (.getfield 11, 3) := by decide +kernel
theorem d_Bus_subscribe_50 : decode b_Bus_subscribe 50 = .ok (.iload_n 1, 1) := by decide +kernel
theorem d_Bus_subscribe_51 : decode b_Bus_subscribe 51 = .ok (.aaload, 1) := by decide +kernel
theorem d_Bus_subscribe_52 : decode b_Bus_subscribe 52 = .ok (.getfield 121, 3) := by decide +kernel
theorem d_Bus_subscribe_55 : decode b_Bus_subscribe 55 = .ok (.iload_n 2, 1) := by decide +kernel
theorem d_Bus_subscribe_56 : decode b_Bus_subscribe 56 = .ok (.aaload, 1) := by decide +kernel
theorem d_Bus_subscribe_57 : decode b_Bus_subscribe 57 = .ok (.astore 4, 2) := by decide +kernel
theorem d_Bus_subscribe_59 : decode b_Bus_subscribe 59 = .ok (.aload 4, 2) := by decide +kernel
theorem d_Bus_subscribe_61 : decode b_Bus_subscribe 61 = .ok (.invokevirtual 125, 3) := by decide +kernel
theorem d_Bus_subscribe_64 : decode b_Bus_subscribe 64 = .ok (.ifCond .ne 7, 3) := by decide +kernel
theorem d_Bus_subscribe_67 : decode b_Bus_subscribe 67 = .ok (.iconst 1, 1) := by decide +kernel
theorem d_Bus_subscribe_68 : decode b_Bus_subscribe 68 = .ok (.goto 4, 3) := by decide +kernel
theorem d_Bus_subscribe_71 : decode b_Bus_subscribe 71 = .ok (.iconst 0, 1) := by decide +kernel
theorem d_Bus_subscribe_72 : decode b_Bus_subscribe 72 = .ok (.istore 5, 2) := by decide +kernel
theorem d_Bus_subscribe_74 : decode b_Bus_subscribe 74 = .ok (.aload_n 0, 1) := by decide +kernel
theorem d_Bus_subscribe_75 : decode b_Bus_subscribe 75 = .ok (.dup, 1) := by decide +kernel
theorem d_Bus_subscribe_76 : decode b_Bus_subscribe 76 = .ok (.getfield 51, 3) := by decide +kernel
theorem d_Bus_subscribe_79 : decode b_Bus_subscribe 79 = .ok (.aload 4, 2) := by decide +kernel
theorem d_Bus_subscribe_81 : decode b_Bus_subscribe 81 = .ok (.iload_n 3, 1) := by decide +kernel
theorem d_Bus_subscribe_82 : decode b_Bus_subscribe 82 = .ok (.invokevirtual 131, 3) := by decide +kernel
theorem d_Bus_subscribe_85 : decode b_Bus_subscribe 85 = .ok (.iadd, 1) := by decide +kernel
theorem d_Bus_subscribe_86 : decode b_Bus_subscribe 86 = .ok (.putfield 51, 3) := by decide +kernel
theorem d_Bus_subscribe_89 : decode b_Bus_subscribe 89 = .ok (.aload_n 0, 1) := by decide +kernel
theorem d_Bus_subscribe_90 : decode b_Bus_subscribe 90 = .ok (.getfield 17, 3) := by decide +kernel
theorem d_Bus_subscribe_93 : decode b_Bus_subscribe 93 = .ok (.iload_n 2, 1) := by decide +kernel
theorem d_Bus_subscribe_94 : decode b_Bus_subscribe 94 = .ok (.aaload, 1) := by decide +kernel
theorem d_Bus_subscribe_95 : decode b_Bus_subscribe 95 = .ok (.astore 6, 2) := by decide +kernel
theorem d_Bus_subscribe_97 : decode b_Bus_subscribe 97 = .ok (.iload 5, 2) := by decide +kernel
theorem d_Bus_subscribe_99 : decode b_Bus_subscribe 99 = .ok (.ifCond .eq 40, 3) := by decide +kernel
theorem d_Bus_subscribe_102 : decode b_Bus_subscribe 102 = .ok (.aload 6, 2) := by decide +kernel
theorem d_Bus_subscribe_104 : decode b_Bus_subscribe 104 = .ok (.getfield 112, 3) := by decide +kernel
theorem d_Bus_subscribe_107 : decode b_Bus_subscribe 107 = .ok (.ifCond .eq 32, 3) := by decide +kernel
theorem d_Bus_subscribe_110 : decode b_Bus_subscribe 110 = .ok (.aload 6, 2) := by decide +kernel
theorem d_Bus_subscribe_112 : decode b_Bus_subscribe 112 = .ok (.getfield 135, 3) := by decide +kernel
theorem d_Bus_subscribe_115 : decode b_Bus_subscribe 115 = .ok (.ifCond .eq 24, 3) := by decide +kernel
theorem d_Bus_subscribe_118 : decode b_Bus_subscribe 118 = .ok (.aload 4, 2) := by decide +kernel
theorem d_Bus_subscribe_120 : decode b_Bus_subscribe 120 = .ok (.aload 6, 2) := by decide +kernel
theorem d_Bus_subscribe_122 : decode b_Bus_subscribe 122 = .ok (.getfield 138, 3) := by decide +kernel
theorem d_Bus_subscribe_125 : decode b_Bus_subscribe 125 = .ok (.aload 6, 2) := by decide +kernel
theorem d_Bus_subscribe_127 : decode b_Bus_subscribe 127 = .ok (.getfield 141, 3) := by decide +kernel
theorem d_Bus_subscribe_130 : decode b_Bus_subscribe 130 = .ok (.aload 6, 2) := by decide +kernel
theorem d_Bus_subscribe_132 : decode b_Bus_subscribe 132 = .ok (.getfield 144, 3) := by decide +kernel
theorem d_Bus_subscribe_135 : decode b_Bus_subscribe 135 = .ok (.invokevirtual 147, 3) := by decide +kernel
theorem d_Bus_subscribe_138 : decode b_Bus_subscribe 138 = .ok (.pop, 1) := by decide +kernel
theorem d_Bus_subscribe_139 : decode b_Bus_subscribe 139 = .ok (.aload 4, 2) := by decide +kernel
theorem d_Bus_subscribe_141 : decode b_Bus_subscribe 141 = .ok (.getfield 151, 3) := by decide +kernel
theorem d_Bus_subscribe_144 : decode b_Bus_subscribe 144 = .ok (.ireturn, 1) := by decide +kernel
theorem d_Bus_isWithin_0 : decode b_Bus_isWithin 0 = .ok (.iload_n 0, 1) := by decide +kernel
theorem d_Bus_isWithin_1 : decode b_Bus_isWithin 1 = .ok (.iload_n 1, 1) := by decide +kernel
theorem d_Bus_isWithin_2 : decode b_Bus_isWithin 2 = .ok (.if_icmp .lt 12, 3) := by decide +kernel
theorem d_Bus_isWithin_5 : decode b_Bus_isWithin 5 = .ok (.iload_n 0, 1) := by decide +kernel
theorem d_Bus_isWithin_6 : decode b_Bus_isWithin 6 = .ok (.iload_n 2, 1) := by decide +kernel
theorem d_Bus_isWithin_7 : decode b_Bus_isWithin 7 = .ok (.if_icmp .gt 7, 3) := by decide +kernel
theorem d_Bus_isWithin_10 : decode b_Bus_isWithin 10 = .ok (.iconst 1, 1) := by decide +kernel
theorem d_Bus_isWithin_11 : decode b_Bus_isWithin 11 = .ok (.goto 4, 3) := by decide +kernel
theorem d_Bus_isWithin_14 : decode b_Bus_isWithin 14 = .ok (.iconst 0, 1) := by decide +kernel
theorem d_Bus_isWithin_15 : decode b_Bus_isWithin 15 = .ok (.ireturn, 1) := by decide +kernel
theorem d_Bus_unsubscribe_0 : decode b_Bus_unsubscribe 0 = .ok (.aload_n 0, 1) := by decide +kernel
theorem d_Bus_unsubscribe_1 : decode b_Bus_unsubscribe 1 = .ok (.iload_n 1, 1) := by decide +kernel
theorem d_Bus_unsubscribe_2 : decode b_Bus_unsubscribe 2 = .ok (.invokevirtual 94, 3) := by decide +kernel
theorem d_Bus_unsubscribe_5 : decode b_Bus_unsubscribe 5 = .ok (.ifCond .ne 13, 3) := by decide +kernel
theorem d_Bus_unsubscribe_8 : decode b_Bus_unsubscribe 8 = .ok (.new 98, 3) := by decide +kernel
theorem d_Bus_unsubscribe_11 : decode b_Bus_unsubscribe 11 = .ok (.dup, 1) := by decide +kernel
theorem d_Bus_unsubscribe_12 : decode b_Bus_unsubscribe 12 = .ok (.ldc 100, 2) := by decide +kernel
theorem d_Bus_unsubscribe_14 : decode b_Bus_unsubscribe 14 = .ok (.invokespecial 102, 3) := by decide +kernel
theorem d_Bus_unsubscribe_17 : decode b_Bus_unsubscribe 17 = .ok (.athrow, 1) := by decide +kernel
theorem d_Bus_unsubscribe_18 : decode b_Bus_unsubscribe 18 = .ok (.iload_n 2, 1) := by decide +kernel
theorem d_Bus_unsubscribe_19 : decode b_Bus_unsubscribe 19 = .ok (.bipush 6, 2) := by decide +kernel
theorem d_Bus_unsubscribe_21 : decode b_Bus_unsubscribe 21 = .ok (.invokestatic 74, 3) := by decide +kernel
theorem d_Bus_unsubscribe_24 : decode b_Bus_unsubscribe 24 = .ok (.ifCond .ne 13, 3) := by decide +kernel
theorem d_Bus_unsubscribe_27 : decode b_Bus_unsubscribe 27 = .ok (.new 78, 3) := by decide +kernel
theorem d_Bus_unsubscribe_30 : decode b_Bus_unsubscribe 30 = .ok (.dup, 1) := by decide +kernel
theorem d_Bus_unsubscribe_31 : decode b_Bus_unsubscribe 31 = .ok (.ldc 110, 2) := by decide +kernel
theorem d_Bus_unsubscribe_33 : decode b_Bus_unsubscribe 33 = .ok (.invokespecial 82, 3) := by decide +kernel
theorem d_Bus_unsubscribe_36 : decode b_Bus_unsubscribe 36 = .ok (.athrow, 1) := by decide +kernel
theorem d_Bus_unsubscribe_37 : decode b_Bus_unsubscribe 37 = .ok (.aload_n 0, 1) := by decide +kernel
theorem d_Bus_unsubscribe_38 : decode b_Bus_unsubscribe 38 = .ok (.getfield 11, 3) := by decide +kernel
theorem d_Bus_unsubscribe_41 : decode b_Bus_unsubscribe 41 = .ok (.iload_n 1, 1) := by decide +kernel
theorem d_Bus_unsubscribe_42 : decode b_Bus_unsubscribe 42 = .ok (.aaload, 1) := by decide +kernel
theorem d_Bus_unsubscribe_43 : decode b_Bus_unsubscribe 43 = .ok (.getfield 121, 3) := by decide +kernel
theorem d_Bus_unsubscribe_46 : decode b_Bus_unsubscribe 46 = .ok (.iload_n 2, 1) := by decide +kernel
theorem d_Bus_unsubscribe_47 : decode b_Bus_unsubscribe 47 = .ok (.aaload, 1) := by decide +kernel
theorem d_Bus_unsubscribe_48 : decode b_Bus_unsubscribe 48 = .ok (.invokevirtual 125, 3) := by decide +kernel
theorem d_Bus_unsubscribe_51 : decode b_Bus_unsubscribe 51 = .ok (.ifCond .ne 13, 3) := by decide +kernel
theorem d_Bus_unsubscribe_54 : decode b_Bus_unsubscribe 54 = .ok (.new 98, 3) := by decide +kernel
theorem d_Bus_unsubscribe_57 : decode b_Bus_unsubscribe 57 = .ok (.dup, 1) := by decide +kernel
theorem d_Bus_unsubscribe_58 : decode b_Bus_unsubscribe 58 = .ok (.ldc 154, 2) := by decide +kernel
theorem d_Bus_unsubscribe_60 : decode b_Bus_unsubscribe 60 = .ok (.invokespecial 102, 3) := by decide +kernel
theorem d_Bus_unsubscribe_63 : decode b_Bus_unsubscribe 63 = .ok (.athrow, 1) := by decide +kernel
theorem d_Bus_unsubscribe_64 : decode b_Bus_unsubscribe 64 = .ok (.aload_n 0, 1) := by decide +kernel
theorem d_Bus_unsubscribe_65 : decode b_Bus_unsubscribe 65 = .ok (.getfield 11, 3) := by decide +kernel
theorem d_Bus_unsubscribe_68 : decode b_Bus_unsubscribe 68 = .ok (.iload_n 1, 1) := by decide +kernel
theorem d_Bus_unsubscribe_69 : decode b_Bus_unsubscribe 69 = .ok (.aaload, 1) := by decide +kernel
theorem d_Bus_unsubscribe_70 : decode b_Bus_unsubscribe 70 = .ok (.getfield 121, 3) := by decide +kernel
theorem d_Bus_unsubscribe_73 : decode b_Bus_unsubscribe 73 = .ok (.iload_n 2, 1) := by decide +kernel
theorem d_Bus_unsubscribe_74 : decode b_Bus_unsubscribe 74 = .ok (.aaload, 1) := by decide +kernel
theorem d_Bus_unsubscribe_75 : decode b_Bus_unsubscribe 75 = .ok (.invokevirtual 156, 3) := by decide +kernel
theorem d_Bus_unsubscribe_78 : decode b_Bus_unsubscribe 78 = .ok (.ireturn, 1) := by decide +kernel
theorem d_Bus_publish_0 : decode b_Bus_publish 0 = .ok (.aload_n 0, 1) := by decide +kernel
theorem d_Bus_publish_1 : decode b_Bus_publish 1 = .ok (.iload_n 1, 1) := by decide +kernel
theorem d_Bus_publish_2 : decode b_Bus_publish 2 = .ok (.invokevirtual 94, 3) := by decide +kernel
theorem d_Bus_publish_5 : decode b_Bus_publish 5 = .ok (.ifCond .ne 13, 3) := by decide +kernel
theorem d_Bus_publish_8 : decode b_Bus_publish 8 = .ok (.new 98, 3) := by decide +kernel
theorem d_Bus_publish_11 : decode b_Bus_publish 11 = .ok (.dup, 1) := by decide +kernel
theorem d_Bus_publish_12 : decode b_Bus_publish 12 = .ok (.ldc 100, 2) := by decide +kernel
theorem d_Bus_publish_14 : decode b_Bus_publish 14 = .ok (.invokespecial 102, 3) := by decide +kernel
theorem d_Bus_publish_17 : decode b_Bus_publish 17 = .ok (.athrow, 1) := by decide +kernel
theorem d_Bus_publish_18 : decode b_Bus_publish 18 = .ok (.iload_n 2, 1) := by decide +kernel
theorem d_Bus_publish_19 : decode b_Bus_publish 19 = .ok (.bipush 6, 2) := by decide +kernel
theorem d_Bus_publish_21 : decode b_Bus_publish 21 = .ok (.invokestatic 74, 3) := by decide +kernel
theorem d_Bus_publish_24 : decode b_Bus_publish 24 = .ok (.ifCond .ne 13, 3) := by decide +kernel
theorem d_Bus_publish_27 : decode b_Bus_publish 27 = .ok (.new 78, 3) := by decide +kernel
theorem d_Bus_publish_30 : decode b_Bus_publish 30 = .ok (.dup, 1) := by decide +kernel
theorem d_Bus_publish_31 : decode b_Bus_publish 31 = .ok (.ldc 110, 2) := by decide +kernel
theorem d_Bus_publish_33 : decode b_Bus_publish 33 = .ok (.invokespecial 82, 3) := by decide +kernel
theorem d_Bus_publish_36 : decode b_Bus_publish 36 = .ok (.athrow, 1) := by decide +kernel
theorem d_Bus_publish_37 : decode b_Bus_publish 37 = .ok (.aload_n 0, 1) := by decide +kernel
theorem d_Bus_publish_38 : decode b_Bus_publish 38 = .ok (.iload_n 2, 1) := by decide +kernel
theorem d_Bus_publish_39 : decode b_Bus_publish 39 = .ok (.iload_n 3, 1) := by decide +kernel
theorem d_Bus_publish_40 : decode b_Bus_publish 40 = .ok (.iload_n 1, 1) := by decide +kernel
theorem d_Bus_publish_41 : decode b_Bus_publish 41 = .ok (.invokevirtual 159, 3) := by decide +kernel
theorem d_Bus_publish_44 : decode b_Bus_publish 44 = .ok (.ireturn, 1) := by decide +kernel
theorem d_Bus_send_0 : decode b_Bus_send 0 = .ok (.iconst 0, 1) := by decide +kernel
theorem d_Bus_send_1 : decode b_Bus_send 1 = .ok (.istore 4, 2) := by decide +kernel
theorem d_Bus_send_3 : decode b_Bus_send 3 = .ok (.iconst 0, 1) := by decide +kernel
theorem d_Bus_send_4 : decode b_Bus_send 4 = .ok (.istore 5, 2) := by decide +kernel
theorem d_Bus_send_6 : decode b_Bus_send 6 = .ok (.iload 5, 2) := by decide +kernel
theorem d_Bus_send_8 : decode b_Bus_send 8 = .ok (.bipush 6, 2) := by decide +kernel
theorem d_Bus_send_10 : decode b_Bus_send 10 = .ok (.if_icmp .ge 54, 3) := by decide +kernel
theorem d_Bus_send_13 : decode b_Bus_send 13 = .ok (.aload_n 0, 1) := by decide +kernel
theorem d_Bus_send_14 : decode b_Bus_send 14 = .ok (.getfield 11, 3) := by decide +kernel
theorem d_Bus_send_17 : decode b_Bus_send 17 = .ok (.iload 5, 2) := by decide +kernel
theorem d_Bus_send_19 : decode b_Bus_send 19 = .ok (.aaload, 1) := by decide +kernel
theorem d_Bus_send_20 : decode b_Bus_send 20 = .ok (.getfield 121, 3) := by decide +kernel
theorem d_Bus_send_23 : decode b_Bus_send 23 = .ok (.iload_n 1, 1) := by decide +kernel
theorem d_Bus_send_24 : decode b_Bus_send 24 = .ok (.aaload, 1) := by decide +kernel
theorem d_Bus_send_25 : decode b_Bus_send 25 = .ok (.astore 6, 2) := by decide +kernel
theorem d_Bus_send_27 : decode b_Bus_send 27 = .ok (.aload 6, 2) := by decide +kernel
theorem d_Bus_send_29 : decode b_Bus_send 29 = .ok (.invokevirtual 125, 3) := by decide +kernel
theorem d_Bus_send_32 : decode b_Bus_send 32 = .ok (.ifCond .eq 26, 3) := by decide +kernel
theorem d_Bus_send_35 : decode b_Bus_send 35 = .ok (.aload_n 0, 1) := by decide +kernel
theorem d_Bus_send_36 : decode b_Bus_send 36 = .ok (.dup, 1) := by decide +kernel
theorem d_Bus_send_37 : decode b_Bus_send 37 = .ok (.getfield 51, 3) := by decide +kernel
theorem d_Bus_send_40 : decode b_Bus_send 40 = .ok (.aload 6, 2) := by decide +kernel
theorem d_Bus_send_42 : decode b_Bus_send 42 = .ok (.iload_n 2, 1) := by decide +kernel
theorem d_Bus_send_43 : decode b_Bus_send 43 = .ok (.iload_n 3, 1) := by decide +kernel
theorem d_Bus_send_44 : decode b_Bus_send 44 = .ok (.aload_n 0, 1) := by decide +kernel
theorem d_Bus_send_45 : decode b_Bus_send 45 = .ok (.getfield 47, 3) := by decide +kernel
theorem d_Bus_send_48 : decode b_Bus_send 48 = .ok (.invokevirtual 147, 3) := by decide +kernel
theorem d_Bus_send_51 : decode b_Bus_send 51 = .ok (.iadd, 1) := by decide +kernel
theorem d_Bus_send_52 : decode b_Bus_send 52 = .ok (.putfield 51, 3) := by decide +kernel
theorem d_Bus_send_55 : decode b_Bus_send 55 = .ok (.iinc 4 1, 3) := by decide +kernel
theorem d_Bus_send_58 : decode b_Bus_send 58 = .ok (.iinc 5 1, 3) := by decide +kernel
theorem d_Bus_send_61 : decode b_Bus_send 61 = .ok (.goto (-55), 3) := by decide +kernel
theorem d_Bus_send_64 : decode b_Bus_send 64 = .ok (.aload_n 0, 1) := by decide +kernel
theorem d_Bus_send_65 : decode b_Bus_send 65 = .ok (.getfield 17, 3) := by decide +kernel
theorem d_Bus_send_68 : decode b_Bus_send 68 = .ok (.iload_n 1, 1) := by decide +kernel
theorem d_Bus_send_69 : decode b_Bus_send 69 = .ok (.aaload, 1) := by decide +kernel
theorem d_Bus_send_70 : decode b_Bus_send 70 = .ok (.iload_n 2, 1) := by decide +kernel
theorem d_Bus_send_71 : decode b_Bus_send 71 = .ok (.iload_n 3, 1) := by decide +kernel
theorem d_Bus_send_72 : decode b_Bus_send 72 = .ok (.aload_n 0, 1) := by decide +kernel
theorem d_Bus_send_73 : decode b_Bus_send 73 = .ok (.getfield 47, 3) := by decide +kernel
theorem d_Bus_send_76 : decode b_Bus_send 76 = .ok (.invokevirtual 303, 3) := by decide +kernel
theorem d_Bus_send_79 : decode b_Bus_send 79 = .ok (.aload_n 0, 1) := by decide +kernel
theorem d_Bus_send_80 : decode b_Bus_send 80 = .ok (.getfield 17, 3) := by decide +kernel
theorem d_Bus_send_83 : decode b_Bus_send 83 = .ok (.iload_n 1, 1) := by decide +kernel
theorem d_Bus_send_84 : decode b_Bus_send 84 = .ok (.aaload, 1) := by decide +kernel
theorem d_Bus_send_85 : decode b_Bus_send 85 = .ok (.getfield 228, 3) := by decide +kernel
theorem d_Bus_send_88 : decode b_Bus_send 88 = .ok (.ifCond .eq 21, 3) := by decide +kernel
theorem d_Bus_send_91 : decode b_Bus_send 91 = .ok (.iload_n 3, 1) := by decide +kernel
theorem d_Bus_send_92 : decode b_Bus_send 92 = .ok (.iconst (-1), 1) := by decide +kernel
theorem d_Bus_send_93 : decode b_Bus_send 93 = .ok (.if_icmp .eq 16, 3) := by decide +kernel
theorem d_Bus_send_96 : decode b_Bus_send 96 = .ok (.aload_n 0, 1) := by decide +kernel
theorem d_Bus_send_97 : decode b_Bus_send 97 = .ok (.getfield 36, 3) := by decide +kernel
theorem d_Bus_send_100 : decode b_Bus_send 100 = .ok (.aload_n 0, 1) := by decide +kernel
theorem d_Bus_send_101 : decode b_Bus_send 101 = .ok (.getfield 47, 3) := by decide +kernel
theorem d_Bus_send_104 : decode b_Bus_send 104 = .ok (.iload_n 1, 1) := by decide +kernel
theorem d_Bus_send_105 : decode b_Bus_send 105 = .ok (.iload_n 2, 1) := by decide +kernel
theorem d_Bus_send_106 : decode b_Bus_send 106 = .ok (.invokevirtual 307, 3) := by decide +kernel
theorem d_Bus_send_109 : decode b_Bus_send 109 = .ok (.aload_n 0, 1) := by decide +kernel
theorem d_Bus_send_110 : decode b_Bus_send 110 = .ok (.dup, 1) := by decide +kernel
theorem d_Bus_send_111 : decode b_Bus_send 111 = .ok (.getfield 54, 3) := by decide +kernel
theorem d_Bus_send_114 : decode b_Bus_send 114 = .ok (.iconst 1, 1) := by decide +kernel
theorem d_Bus_send_115 : decode b_Bus_send 115 = .ok (.iadd, 1) := by decide +kernel
theorem d_Bus_send_116 : decode b_Bus_send 116 = .ok (.putfield 54, 3) := by decide +kernel
theorem d_Bus_send_119 : decode b_Bus_send 119 = .ok (.iload 4, 2) := by decide +kernel
theorem d_Bus_send_121 : decode b_Bus_send 121 = .ok (.ireturn, 1) := by decide +kernel
theorem d_Bus_act_0 : decode b_Bus_act 0 = .ok (.aload_n 0, 1) := by decide +kernel
theorem d_Bus_act_1 : decode b_Bus_act 1 = .ok (.iload_n 1, 1) := by decide +kernel
theorem d_Bus_act_2 : decode b_Bus_act 2 = .ok (.invokevirtual 94, 3) := by decide +kernel
theorem d_Bus_act_5 : decode b_Bus_act 5 = .ok (.ifCond .ne 13, 3) := by decide +kernel
theorem d_Bus_act_8 : decode b_Bus_act 8 = .ok (.new 98, 3) := by decide +kernel
theorem d_Bus_act_11 : decode b_Bus_act 11 = .ok (.dup, 1) := by decide +kernel
theorem d_Bus_act_12 : decode b_Bus_act 12 = .ok (.ldc 100, 2) := by decide +kernel
theorem d_Bus_act_14 : decode b_Bus_act 14 = .ok (.invokespecial 102, 3) := by decide +kernel
theorem d_Bus_act_17 : decode b_Bus_act 17 = .ok (.athrow, 1) := by decide +kernel
theorem d_Bus_act_18 : decode b_Bus_act 18 = .ok (.iload_n 2, 1) := by decide +kernel
theorem d_Bus_act_19 : decode b_Bus_act 19 = .ok (.bipush 6, 2) := by decide +kernel
theorem d_Bus_act_21 : decode b_Bus_act 21 = .ok (.invokestatic 74, 3) := by decide +kernel
theorem d_Bus_act_24 : decode b_Bus_act 24 = .ok (.ifCond .eq 14, 3) := by decide +kernel
theorem d_Bus_act_27 : decode b_Bus_act 27 = .ok (.iload_n 3, 1) := by decide +kernel
theorem d_Bus_act_28 : decode b_Bus_act 28 = .ok (.iload 4, 2) := by decide +kernel
theorem d_Bus_act_30 : decode b_Bus_act 30 = .ok (.iload 5, 2) := by decide +kernel
theorem d_Bus_act_32 : decode b_Bus_act 32 = .ok (.invokestatic 162, 3) := by decide +kernel
theorem d_Bus_act_35 : decode b_Bus_act 35 = .ok (.ifCond .ne 13, 3) := by decide +kernel
theorem d_Bus_act_38 : decode b_Bus_act 38 = .ok (.new 78, 3) := by decide +kernel
theorem d_Bus_act_41 : decode b_Bus_act 41 = .ok (.dup, 1) := by decide +kernel
theorem d_Bus_act_42 : decode b_Bus_act 42 = .ok (.ldc 165, 2) := by decide +kernel
theorem d_Bus_act_44 : decode b_Bus_act 44 = .ok (.invokespecial 82, 3) := by decide +kernel
theorem d_Bus_act_47 : decode b_Bus_act 47 = .ok (.athrow, 1) := by decide +kernel
theorem d_Bus_act_48 : decode b_Bus_act 48 = .ok (.aload_n 0, 1) := by decide +kernel
theorem d_Bus_act_49 : decode b_Bus_act 49 = .ok (.getfield 11, 3) := by decide +kernel
theorem d_Bus_act_52 : decode b_Bus_act 52 = .ok (.iload_n 1, 1) := by decide +kernel
theorem d_Bus_act_53 : decode b_Bus_act 53 = .ok (.aaload, 1) := by decide +kernel
theorem d_Bus_act_54 : decode b_Bus_act 54 = .ok (.getfield 167, 3) := by decide +kernel
theorem d_Bus_act_57 : decode b_Bus_act 57 = .ok (.iload_n 2, 1) := by decide +kernel
theorem d_Bus_act_58 : decode b_Bus_act 58 = .ok (.aaload, 1) := by decide +kernel
theorem d_Bus_act_59 : decode b_Bus_act 59 = .ok (.astore 6, 2) := by decide +kernel
theorem d_Bus_act_61 : decode b_Bus_act 61 = .ok (.aload 6, 2) := by decide +kernel
theorem d_Bus_act_63 : decode b_Bus_act 63 = .ok (.getfield 171, 3) := by decide +kernel
theorem d_Bus_act_66 : decode b_Bus_act 66 = .ok (.iconst (-1), 1) := by decide +kernel
theorem d_Bus_act_67 : decode b_Bus_act 67 = .ok (.if_icmp .ne 7, 3) := by decide +kernel
theorem d_Bus_act_70 : decode b_Bus_act 70 = .ok (.iconst 1, 1) := by decide +kernel
theorem d_Bus_act_71 : decode b_Bus_act 71 = .ok (.goto 4, 3) := by decide +kernel
theorem d_Bus_act_74 : decode b_Bus_act 74 = .ok (.iconst 0, 1) := by decide +kernel
theorem d_Bus_act_75 : decode b_Bus_act 75 = .ok (.istore 7, 2) := by decide +kernel
theorem d_Bus_act_77 : decode b_Bus_act 77 = .ok (.aload 6, 2) := by decide +kernel
theorem d_Bus_act_79 : decode b_Bus_act 79 = .ok (.iload_n 3, 1) := by decide +kernel
theorem d_Bus_act_80 : decode b_Bus_act 80 = .ok (.putfield 171, 3) := by decide +kernel
theorem d_Bus_act_83 : decode b_Bus_act 83 = .ok (.aload 6, 2) := by decide +kernel
theorem d_Bus_act_85 : decode b_Bus_act 85 = .ok (.iload 4, 2) := by decide +kernel
theorem d_Bus_act_87 : decode b_Bus_act 87 = .ok (.putfield 176, 3) := by decide +kernel
theorem d_Bus_act_90 : decode b_Bus_act 90 = .ok (.aload 6, 2) := by decide +kernel
theorem d_Bus_act_92 : decode b_Bus_act 92 = .ok (.iload 5, 2) := by decide +kernel
theorem d_Bus_act_94 : decode b_Bus_act 94 = .ok (.putfield 179, 3) := by decide +kernel
theorem d_Bus_act_97 : decode b_Bus_act 97 = .ok (.iload 7, 2) := by decide +kernel
theorem d_Bus_act_99 : decode b_Bus_act 99 = .ok (.ireturn, 1) := by decide +kernel
theorem d_Bus_isAction_0 : decode b_Bus_isAction 0 = .ok (.iload_n 0, 1) := by decide +kernel
theorem d_Bus_isAction_1 : decode b_Bus_isAction 1 = .ok (.tableswitch 118 (-1) 4 #[39, 41, 41, 47, 73, 95], 39) := by decide +kernel
theorem d_Bus_isAction_40 : decode b_Bus_isAction 40 = .ok (.iconst 1, 1) := by decide +kernel
theorem d_Bus_isAction_41 : decode b_Bus_isAction 41 = .ok (.ireturn, 1) := by decide +kernel
theorem d_Bus_isAction_42 : decode b_Bus_isAction 42 = .ok (.iload_n 1, 1) := by decide +kernel
theorem d_Bus_isAction_43 : decode b_Bus_isAction 43 = .ok (.iconst 4, 1) := by decide +kernel
theorem d_Bus_isAction_44 : decode b_Bus_isAction 44 = .ok (.invokestatic 74, 3) := by decide +kernel
theorem d_Bus_isAction_47 : decode b_Bus_isAction 47 = .ok (.ireturn, 1) := by decide +kernel
theorem d_Bus_isAction_48 : decode b_Bus_isAction 48 = .ok (.iload_n 1, 1) := by decide +kernel
theorem d_Bus_isAction_49 : decode b_Bus_isAction 49 = .ok (.bipush 6, 2) := by decide +kernel
theorem d_Bus_isAction_51 : decode b_Bus_isAction 51 = .ok (.invokestatic 74, 3) := by decide +kernel
theorem d_Bus_isAction_54 : decode b_Bus_isAction 54 = .ok (.ifCond .eq 18, 3) := by decide +kernel
theorem d_Bus_isAction_57 : decode b_Bus_isAction 57 = .ok (.iload_n 2, 1) := by decide +kernel
theorem d_Bus_isAction_58 : decode b_Bus_isAction 58 = .ok (.bipush (-100), 2) := by decide +kernel
theorem d_Bus_isAction_60 : decode b_Bus_isAction 60 = .ok (.bipush 100, 2) := by decide +kernel
theorem d_Bus_isAction_62 : decode b_Bus_isAction 62 = .ok (.invokestatic 115, 3) := by decide +kernel
theorem d_Bus_isAction_65 : decode b_Bus_isAction 65 = .ok (.ifCond .eq 7, 3) := by decide +kernel
theorem d_Bus_isAction_68 : decode b_Bus_isAction 68 = .ok (.iconst 1, 1) := by decide +kernel
theorem d_Bus_isAction_69 : decode b_Bus_isAction 69 = .ok (.goto 4, 3) := by decide +kernel
theorem d_Bus_isAction_72 : decode b_Bus_isAction 72 = .ok (.iconst 0, 1) := by decide +kernel
theorem d_Bus_isAction_73 : decode b_Bus_isAction 73 = .ok (.ireturn, 1) := by decide +kernel
theorem d_Bus_isAction_74 : decode b_Bus_isAction 74 = .ok (.iload_n 1, 1) := by decide +kernel
theorem d_Bus_isAction_75 : decode b_Bus_isAction 75 = .ok (.iconst 4, 1) := by decide +kernel
theorem d_Bus_isAction_76 : decode b_Bus_isAction 76 = .ok (.invokestatic 74, 3) := by decide +kernel
theorem d_Bus_isAction_79 : decode b_Bus_isAction 79 = .ok (.ifCond .eq 15, 3) := by decide +kernel
theorem d_Bus_isAction_82 : decode b_Bus_isAction 82 = .ok (.iload_n 2, 1) := by decide +kernel
theorem d_Bus_isAction_83 : decode b_Bus_isAction 83 = .ok (.iconst 4, 1) := by decide +kernel
theorem d_Bus_isAction_84 : decode b_Bus_isAction 84 = .ok (.invokestatic 74, 3) := by decide +kernel
theorem d_Bus_isAction_87 : decode b_Bus_isAction 87 = .ok (.ifCond .eq 7, 3) := by decide +kernel
theorem d_Bus_isAction_90 : decode b_Bus_isAction 90 = .ok (.iconst 1, 1) := by decide +kernel
theorem d_Bus_isAction_91 : decode b_Bus_isAction 91 = .ok (.goto 4, 3) := by decide +kernel
theorem d_Bus_isAction_94 : decode b_Bus_isAction 94 = .ok (.iconst 0, 1) := by decide +kernel
theorem d_Bus_isAction_95 : decode b_Bus_isAction 95 = .ok (.ireturn, 1) := by decide +kernel
theorem d_Bus_isAction_96 : decode b_Bus_isAction 96 = .ok (.iload_n 1, 1) := by decide +kernel
theorem d_Bus_isAction_97 : decode b_Bus_isAction 97 = .ok (.bipush 6, 2) := by decide +kernel
theorem d_Bus_isAction_99 : decode b_Bus_isAction 99 = .ok (.invokestatic 74, 3) := by decide +kernel
theorem d_Bus_isAction_102 : decode b_Bus_isAction 102 = .ok (.ifCond .eq 15, 3) := by decide +kernel
theorem d_Bus_isAction_105 : decode b_Bus_isAction 105 = .ok (.iload_n 2, 1) := by decide +kernel
theorem d_Bus_isAction_106 : decode b_Bus_isAction 106 = .ok (.iconst 4, 1) := by decide +kernel
theorem d_Bus_isAction_107 : decode b_Bus_isAction 107 = .ok (.invokestatic 74, 3) := by decide +kernel
theorem d_Bus_isAction_110 : decode b_Bus_isAction 110 = .ok (.ifCond .eq 7, 3) := by decide +kernel
theorem d_Bus_isAction_113 : decode b_Bus_isAction 113 = .ok (.iconst 1, 1) := by decide +kernel
theorem d_Bus_isAction_114 : decode b_Bus_isAction 114 = .ok (.goto 4, 3) := by decide +kernel
theorem d_Bus_isAction_117 : decode b_Bus_isAction 117 = .ok (.iconst 0, 1) := by decide +kernel
theorem d_Bus_isAction_118 : decode b_Bus_isAction 118 = .ok (.ireturn, 1) := by decide +kernel
theorem d_Bus_isAction_119 : decode b_Bus_isAction 119 = .ok (.iconst 0, 1) := by decide +kernel
theorem d_Bus_isAction_120 : decode b_Bus_isAction 120 = .ok (.ireturn, 1) := by decide +kernel
theorem d_Bus_offer_0 : decode b_Bus_offer 0 = .ok (.aload_n 0, 1) := by decide +kernel
theorem d_Bus_offer_1 : decode b_Bus_offer 1 = .ok (.iload_n 1, 1) := by decide +kernel
theorem d_Bus_offer_2 : decode b_Bus_offer 2 = .ok (.invokevirtual 94, 3) := by decide +kernel
theorem d_Bus_offer_5 : decode b_Bus_offer 5 = .ok (.ifCond .ne 13, 3) := by decide +kernel
theorem d_Bus_offer_8 : decode b_Bus_offer 8 = .ok (.new 98, 3) := by decide +kernel
theorem d_Bus_offer_11 : decode b_Bus_offer 11 = .ok (.dup, 1) := by decide +kernel
theorem d_Bus_offer_12 : decode b_Bus_offer 12 = .ok (.ldc 100, 2) := by decide +kernel
theorem d_Bus_offer_14 : decode b_Bus_offer 14 = .ok (.invokespecial 102, 3) := by decide +kernel
theorem d_Bus_offer_17 : decode b_Bus_offer 17 = .ok (.athrow, 1) := by decide +kernel
theorem d_Bus_offer_18 : decode b_Bus_offer 18 = .ok (.iload_n 2, 1) := by decide +kernel
theorem d_Bus_offer_19 : decode b_Bus_offer 19 = .ok (.iconst 4, 1) := by decide +kernel
theorem d_Bus_offer_20 : decode b_Bus_offer 20 = .ok (.invokestatic 74, 3) := by decide +kernel
theorem d_Bus_offer_23 : decode b_Bus_offer 23 = .ok (.ifCond .eq 15, 3) := by decide +kernel
theorem d_Bus_offer_26 : decode b_Bus_offer 26 = .ok (.iload_n 2, 1) := by decide +kernel
theorem d_Bus_offer_27 : decode b_Bus_offer 27 = .ok (.iload_n 3, 1) := by decide +kernel
theorem d_Bus_offer_28 : decode b_Bus_offer 28 = .ok (.iload 4, 2) := by decide +kernel
theorem d_Bus_offer_30 : decode b_Bus_offer 30 = .ok (.iload 5, 2) := by decide +kernel
theorem d_Bus_offer_32 : decode b_Bus_offer 32 = .ok (.invokestatic 182, 3) := by decide +kernel
theorem d_Bus_offer_35 : decode b_Bus_offer 35 = .ok (.ifCond .ne 13, 3) := by decide +kernel
theorem d_Bus_offer_38 : decode b_Bus_offer 38 = .ok (.new 78, 3) := by decide +kernel
theorem d_Bus_offer_41 : decode b_Bus_offer 41 = .ok (.dup, 1) := by decide +kernel
theorem d_Bus_offer_42 : decode b_Bus_offer 42 = .ok (.ldc 186, 2) := by decide +kernel
theorem d_Bus_offer_44 : decode b_Bus_offer 44 = .ok (.invokespecial 82, 3) := by decide +kernel
theorem d_Bus_offer_47 : decode b_Bus_offer 47 = .ok (.athrow, 1) := by decide +kernel
theorem d_Bus_offer_48 : decode b_Bus_offer 48 = .ok (.aload_n 0, 1) := by decide +kernel
theorem d_Bus_offer_49 : decode b_Bus_offer 49 = .ok (.getfield 23, 3) := by decide +kernel
theorem d_Bus_offer_52 : decode b_Bus_offer 52 = .ok (.iload_n 2, 1) := by decide +kernel
theorem d_Bus_offer_53 : decode b_Bus_offer 53 = .ok (.aaload, 1) := by decide +kernel
theorem d_Bus_offer_54 : decode b_Bus_offer 54 = .ok (.astore 6, 2) := by decide +kernel
theorem d_Bus_offer_56 : decode b_Bus_offer 56 = .ok (.aload 6, 2) := by decide +kernel
theorem d_Bus_offer_58 : decode b_Bus_offer 58 = .ok (.getfield 103, 3) := by decide +kernel
theorem d_Bus_offer_61 : decode b_Bus_offer 61 = .ok (.iconst (-1), 1) := by decide +kernel
theorem d_Bus_offer_62 : decode b_Bus_offer 62 = .ok (.if_icmp .ne 7, 3) := by decide +kernel
theorem d_Bus_offer_65 : decode b_Bus_offer 65 = .ok (.iconst 1, 1) := by decide +kernel
theorem d_Bus_offer_66 : decode b_Bus_offer 66 = .ok (.goto 4, 3) := by decide +kernel
theorem d_Bus_offer_69 : decode b_Bus_offer 69 = .ok (.iconst 0, 1) := by decide +kernel
theorem d_Bus_offer_70 : decode b_Bus_offer 70 = .ok (.istore 7, 2) := by decide +kernel
theorem d_Bus_offer_72 : decode b_Bus_offer 72 = .ok (.aload 6, 2) := by decide +kernel
theorem d_Bus_offer_74 : decode b_Bus_offer 74 = .ok (.iload_n 1, 1) := by decide +kernel
theorem d_Bus_offer_75 : decode b_Bus_offer 75 = .ok (.putfield 103, 3) := by decide +kernel
theorem d_Bus_offer_78 : decode b_Bus_offer 78 = .ok (.aload 6, 2) := by decide +kernel
theorem d_Bus_offer_80 : decode b_Bus_offer 80 = .ok (.iload_n 3, 1) := by decide +kernel
theorem d_Bus_offer_81 : decode b_Bus_offer 81 = .ok (.putfield 188, 3) := by decide +kernel
theorem d_Bus_offer_84 : decode b_Bus_offer 84 = .ok (.aload 6, 2) := by decide +kernel
theorem d_Bus_offer_86 : decode b_Bus_offer 86 = .ok (.iload 4, 2) := by decide +kernel
theorem d_Bus_offer_88 : decode b_Bus_offer 88 = .ok (.putfield 189, 3) := by decide +kernel
theorem d_Bus_offer_91 : decode b_Bus_offer 91 = .ok (.aload 6, 2) := by decide +kernel
theorem d_Bus_offer_93 : decode b_Bus_offer 93 = .ok (.iload 5, 2) := by decide +kernel
theorem d_Bus_offer_95 : decode b_Bus_offer 95 = .ok (.putfield 192, 3) := by decide +kernel
theorem d_Bus_offer_98 : decode b_Bus_offer 98 = .ok (.iload 7, 2) := by decide +kernel
theorem d_Bus_offer_100 : decode b_Bus_offer 100 = .ok (.ireturn, 1) := by decide +kernel
theorem d_Bus_isService_0 : decode b_Bus_isService 0 = .ok (.iload_n 3, 1) := by decide +kernel
theorem d_Bus_isService_1 : decode b_Bus_isService 1 = .ok (.sipush (-1000), 3) := by decide +kernel
theorem d_Bus_isService_4 : decode b_Bus_isService 4 = .ok (.sipush 1000, 3) := by decide +kernel
theorem d_Bus_isService_7 : decode b_Bus_isService 7 = .ok (.invokestatic 115, 3) := by decide +kernel
theorem d_Bus_isService_10 : decode b_Bus_isService 10 = .ok (.ifCond .ne 5, 3) := by decide +kernel
theorem d_Bus_isService_13 : decode b_Bus_isService 13 = .ok (.iconst 0, 1) := by decide +kernel
theorem d_Bus_isService_14 : decode b_Bus_isService 14 = .ok (.ireturn, 1) := by decide +kernel
theorem d_Bus_isService_15 : decode b_Bus_isService 15 = .ok (.iload_n 1, 1) := by decide +kernel
theorem d_Bus_isService_16 : decode b_Bus_isService 16 = .ok (.tableswitch 53 0 3 #[32, 41, 41, 47], 32) := by decide +kernel
theorem d_Bus_isService_48 : decode b_Bus_isService 48 = .ok (.iload_n 2, 1) := by decide +kernel
theorem d_Bus_isService_49 : decode b_Bus_isService 49 = .ok (.bipush (-100), 2) := by decide +kernel
theorem d_Bus_isService_51 : decode b_Bus_isService 51 = .ok (.bipush 100, 2) := by decide +kernel
theorem d_Bus_isService_53 : decode b_Bus_isService 53 = .ok (.invokestatic 115, 3) := by decide +kernel
theorem d_Bus_isService_56 : decode b_Bus_isService 56 = .ok (.ireturn, 1) := by decide +kernel
theorem d_Bus_isService_57 : decode b_Bus_isService 57 = .ok (.iload_n 2, 1) := by decide +kernel
theorem d_Bus_isService_58 : decode b_Bus_isService 58 = .ok (.iconst 4, 1) := by decide +kernel
theorem d_Bus_isService_59 : decode b_Bus_isService 59 = .ok (.invokestatic 74, 3) := by decide +kernel
theorem d_Bus_isService_62 : decode b_Bus_isService 62 = .ok (.ireturn, 1) := by decide +kernel
theorem d_Bus_isService_63 : decode b_Bus_isService 63 = .ok (.iload_n 2, 1) := by decide +kernel
theorem d_Bus_isService_64 : decode b_Bus_isService 64 = .ok (.iload_n 0, 1) := by decide +kernel
theorem d_Bus_isService_65 : decode b_Bus_isService 65 = .ok (.invokestatic 74, 3) := by decide +kernel
theorem d_Bus_isService_68 : decode b_Bus_isService 68 = .ok (.ireturn, 1) := by decide +kernel
theorem d_Bus_isService_69 : decode b_Bus_isService 69 = .ok (.iconst 0, 1) := by decide +kernel
theorem d_Bus_isService_70 : decode b_Bus_isService 70 = .ok (.ireturn, 1) := by decide +kernel
theorem d_Bus_call_0 : decode b_Bus_call 0 = .ok (.iload_n 1, 1) := by decide +kernel
theorem d_Bus_call_1 : decode b_Bus_call 1 = .ok (.iconst 4, 1) := by decide +kernel
theorem d_Bus_call_2 : decode b_Bus_call 2 = .ok (.invokestatic 74, 3) := by decide +kernel
theorem d_Bus_call_5 : decode b_Bus_call 5 = .ok (.ifCond .ne 13, 3) := by decide +kernel
theorem d_Bus_call_8 : decode b_Bus_call 8 = .ok (.new 78, 3) := by decide +kernel
theorem d_Bus_call_11 : decode b_Bus_call 11 = .ok (.dup, 1) := by decide +kernel
theorem d_Bus_call_12 : decode b_Bus_call 12 = .ok (.ldc 195, 2) := by decide +kernel
theorem d_Bus_call_14 : decode b_Bus_call 14 = .ok (.invokespecial 82, 3) := by decide +kernel
theorem d_Bus_call_17 : decode b_Bus_call 17 = .ok (.athrow, 1) := by decide +kernel
theorem d_Bus_call_18 : decode b_Bus_call 18 = .ok (.aload_n 0, 1) := by decide +kernel
theorem d_Bus_call_19 : decode b_Bus_call 19 = .ok (.iload_n 1, 1) := by decide +kernel
theorem d_Bus_call_20 : decode b_Bus_call 20 = .ok (.iload_n 2, 1) := by decide +kernel
theorem d_Bus_call_21 : decode b_Bus_call 21 = .ok (.invokevirtual 197, 3) := by decide +kernel
theorem d_Bus_call_24 : decode b_Bus_call 24 = .ok (.istore_n 3, 1) := by decide +kernel
theorem d_Bus_call_25 : decode b_Bus_call 25 = .ok (.iload_n 3, 1) := by decide +kernel
theorem d_Bus_call_26 : decode b_Bus_call 26 = .ok (.iconst 1, 1) := by decide +kernel
theorem d_Bus_call_27 : decode b_Bus_call 27 = .ok (.if_icmp .ne 13, 3) := by decide +kernel
theorem d_Bus_call_30 : decode b_Bus_call 30 = .ok (.new 98, 3) := by decide +kernel
theorem d_Bus_call_33 : decode b_Bus_call 33 = .ok (.dup, 1) := by decide +kernel
theorem d_Bus_call_34 : decode b_Bus_call 34 = .ok (.ldc 201, 2) := by decide +kernel
theorem d_Bus_call_36 : decode b_Bus_call 36 = .ok (.invokespecial 102, 3) := by decide +kernel
theorem d_Bus_call_39 : decode b_Bus_call 39 = .ok (.athrow, 1) := by decide +kernel
theorem d_Bus_call_40 : decode b_Bus_call 40 = .ok (.iload_n 3, 1) := by decide +kernel
theorem d_Bus_call_41 : decode b_Bus_call 41 = .ok (.iconst 2, 1) := by decide +kernel
theorem d_Bus_call_42 : decode b_Bus_call 42 = .ok (.if_icmp .ne 13, 3) := by decide +kernel
theorem d_Bus_call_45 : decode b_Bus_call 45 = .ok (.new 203, 3) := by decide +kernel
theorem d_Bus_call_48 : decode b_Bus_call 48 = .ok (.dup, 1) := by decide +kernel
theorem d_Bus_call_49 : decode b_Bus_call 49 = .ok (.ldc 205, 2) := by decide +kernel
theorem d_Bus_call_51 : decode b_Bus_call 51 = .ok (.invokespecial 207, 3) := by decide +kernel
theorem d_Bus_call_54 : decode b_Bus_call 54 = .ok (.athrow, 1) := by decide +kernel
theorem d_Bus_call_55 : decode b_Bus_call 55 = .ok (.aload_n 0, 1) := by decide +kernel
theorem d_Bus_call_56 : decode b_Bus_call 56 = .ok (.getfield 63, 3) := by decide +kernel
theorem d_Bus_call_59 : decode b_Bus_call 59 = .ok (.ireturn, 1) := by decide +kernel
theorem d_Bus_ask_0 : decode b_Bus_ask 0 = .ok (.iload_n 1, 1) := by decide +kernel
theorem d_Bus_ask_1 : decode b_Bus_ask 1 = .ok (.istore_n 3, 1) := by decide +kernel
theorem d_Bus_ask_2 : decode b_Bus_ask 2 = .ok (.iconst 0, 1) := by decide +kernel
theorem d_Bus_ask_3 : decode b_Bus_ask 3 = .ok (.istore 4, 2) := by decide +kernel
theorem d_Bus_ask_5 : decode b_Bus_ask 5 = .ok (.iconst 0, 1) := by decide +kernel
theorem d_Bus_ask_6 : decode b_Bus_ask 6 = .ok (.istore 5, 2) := by decide +kernel
theorem d_Bus_ask_8 : decode b_Bus_ask 8 = .ok (.iload 5, 2) := by decide +kernel
theorem d_Bus_ask_10 : decode b_Bus_ask 10 = .ok (.iconst 4, 1) := by decide +kernel
theorem d_Bus_ask_11 : decode b_Bus_ask 11 = .ok (.if_icmp .ge 63, 3) := by decide +kernel
theorem d_Bus_ask_14 : decode b_Bus_ask 14 = .ok (.aload_n 0, 1) := by decide +kernel
theorem d_Bus_ask_15 : decode b_Bus_ask 15 = .ok (.getfield 23, 3) := by decide +kernel
theorem d_Bus_ask_18 : decode b_Bus_ask 18 = .ok (.iload_n 3, 1) := by decide +kernel
theorem d_Bus_ask_19 : decode b_Bus_ask 19 = .ok (.aaload, 1) := by decide +kernel
theorem d_Bus_ask_20 : decode b_Bus_ask 20 = .ok (.astore 6, 2) := by decide +kernel
theorem d_Bus_ask_22 : decode b_Bus_ask 22 = .ok (.aload 6, 2) := by decide +kernel
theorem d_Bus_ask_24 : decode b_Bus_ask 24 = .ok (.getfield 103, 3) := by decide +kernel
theorem d_Bus_ask_27 : decode b_Bus_ask 27 = .ok (.iconst (-1), 1) := by decide +kernel
theorem d_Bus_ask_28 : decode b_Bus_ask 28 = .ok (.if_icmp .ne 5, 3) := by decide +kernel
theorem d_Bus_ask_31 : decode b_Bus_ask 31 = .ok (.iconst 1, 1) := by decide +kernel
theorem d_Bus_ask_32 : decode b_Bus_ask 32 = .ok (.ireturn, 1) := by decide +kernel
theorem d_Bus_ask_33 : decode b_Bus_ask 33 = .ok (.aload 6, 2) := by decide +kernel
theorem d_Bus_ask_35 : decode b_Bus_ask 35 = .ok (.getfield 188, 3) := by decide +kernel
theorem d_Bus_ask_38 : decode b_Bus_ask 38 = .ok (.iconst 3, 1) := by decide +kernel
theorem d_Bus_ask_39 : decode b_Bus_ask 39 = .ok (.if_icmp .eq 13, 3) := by decide +kernel
theorem d_Bus_ask_42 : decode b_Bus_ask 42 = .ok (.aload_n 0, 1) := by decide +kernel
theorem d_Bus_ask_43 : decode b_Bus_ask 43 = .ok (.aload 6, 2) := by decide +kernel
theorem d_Bus_ask_45 : decode b_Bus_ask 45 = .ok (.iload_n 2, 1) := by decide +kernel
theorem d_Bus_ask_46 : decode b_Bus_ask 46 = .ok (.iload 4, 2) := by decide +kernel
theorem d_Bus_ask_48 : decode b_Bus_ask 48 = .ok (.invokevirtual 334, 3) := by decide +kernel
theorem d_Bus_ask_51 : decode b_Bus_ask 51 = .ok (.ireturn, 1) := by decide +kernel
theorem d_Bus_ask_52 : decode b_Bus_ask 52 = .ok (.iload 4, 2) := by decide +kernel
theorem d_Bus_ask_54 : decode b_Bus_ask 54 = .ok (.aload 6, 2) := by decide +kernel
theorem d_Bus_ask_56 : decode b_Bus_ask 56 = .ok (.getfield 192, 3) := by decide +kernel
theorem d_Bus_ask_59 : decode b_Bus_ask 59 = .ok (.iadd, 1) := by decide +kernel
theorem d_Bus_ask_60 : decode b_Bus_ask 60 = .ok (.istore 4, 2) := by decide +kernel
theorem d_Bus_ask_62 : decode b_Bus_ask 62 = .ok (.aload 6, 2) := by decide +kernel
theorem d_Bus_ask_64 : decode b_Bus_ask 64 = .ok (.getfield 189, 3) := by decide +kernel
theorem d_Bus_ask_67 : decode b_Bus_ask 67 = .ok (.istore_n 3, 1) := by decide +kernel
theorem d_Bus_ask_68 : decode b_Bus_ask 68 = .ok (.iinc 5 1, 3) := by decide +kernel
theorem d_Bus_ask_71 : decode b_Bus_ask 71 = .ok (.goto (-63), 3) := by decide +kernel
theorem d_Bus_ask_74 : decode b_Bus_ask 74 = .ok (.iconst 1, 1) := by decide +kernel
theorem d_Bus_ask_75 : decode b_Bus_ask 75 = .ok (.ireturn, 1) := by decide +kernel
theorem d_Bus_compute_0 : decode b_Bus_compute 0 = .ok (.aload_n 1, 1) := by decide +kernel
theorem d_Bus_compute_1 : decode b_Bus_compute 1 = .ok (.getfield 188, 3) := by decide +kernel
theorem d_Bus_compute_4 : decode b_Bus_compute 4 = .ok (.ifCond .ne 22, 3) := by decide +kernel
theorem d_Bus_compute_7 : decode b_Bus_compute 7 = .ok (.aload_n 0, 1) := by decide +kernel
theorem d_Bus_compute_8 : decode b_Bus_compute 8 = .ok (.aload_n 1, 1) := by decide +kernel
theorem d_Bus_compute_9 : decode b_Bus_compute 9 = .ok (.getfield 189, 3) := by decide +kernel
theorem d_Bus_compute_12 : decode b_Bus_compute 12 = .ok (.iload_n 2, 1) := by decide +kernel
theorem d_Bus_compute_13 : decode b_Bus_compute 13 = .ok (.imul, 1) := by decide +kernel
theorem d_Bus_compute_14 : decode b_Bus_compute 14 = .ok (.aload_n 1, 1) := by decide +kernel
theorem d_Bus_compute_15 : decode b_Bus_compute 15 = .ok (.getfield 192, 3) := by decide +kernel
theorem d_Bus_compute_18 : decode b_Bus_compute 18 = .ok (.iadd, 1) := by decide +kernel
theorem d_Bus_compute_19 : decode b_Bus_compute 19 = .ok (.iload_n 3, 1) := by decide +kernel
theorem d_Bus_compute_20 : decode b_Bus_compute 20 = .ok (.iadd, 1) := by decide +kernel
theorem d_Bus_compute_21 : decode b_Bus_compute 21 = .ok (.putfield 63, 3) := by decide +kernel
theorem d_Bus_compute_24 : decode b_Bus_compute 24 = .ok (.iconst 0, 1) := by decide +kernel
theorem d_Bus_compute_25 : decode b_Bus_compute 25 = .ok (.ireturn, 1) := by decide +kernel
theorem d_Bus_compute_26 : decode b_Bus_compute 26 = .ok (.aload_n 0, 1) := by decide +kernel
theorem d_Bus_compute_27 : decode b_Bus_compute 27 = .ok (.getfield 11, 3) := by decide +kernel
theorem d_Bus_compute_30 : decode b_Bus_compute 30 = .ok (.aload_n 1, 1) := by decide +kernel
theorem d_Bus_compute_31 : decode b_Bus_compute 31 = .ok (.getfield 103, 3) := by decide +kernel
theorem d_Bus_compute_34 : decode b_Bus_compute 34 = .ok (.aaload, 1) := by decide +kernel
theorem d_Bus_compute_35 : decode b_Bus_compute 35 = .ok (.getfield 215, 3) := by decide +kernel
theorem d_Bus_compute_38 : decode b_Bus_compute 38 = .ok (.astore 4, 2) := by decide +kernel
theorem d_Bus_compute_40 : decode b_Bus_compute 40 = .ok (.aload_n 1, 1) := by decide +kernel
theorem d_Bus_compute_41 : decode b_Bus_compute 41 = .ok (.getfield 188, 3) := by decide +kernel
theorem d_Bus_compute_44 : decode b_Bus_compute 44 = .ok (.iconst 1, 1) := by decide +kernel
theorem d_Bus_compute_45 : decode b_Bus_compute 45 = .ok (.if_icmp .ne 29, 3) := by decide +kernel
theorem d_Bus_compute_48 : decode b_Bus_compute 48 = .ok (.aload 4, 2) := by decide +kernel
theorem d_Bus_compute_50 : decode b_Bus_compute 50 = .ok (.aload_n 1, 1) := by decide +kernel
theorem d_Bus_compute_51 : decode b_Bus_compute 51 = .ok (.getfield 189, 3) := by decide +kernel
theorem d_Bus_compute_54 : decode b_Bus_compute 54 = .ok (.dup2, 1) := by decide +kernel
theorem d_Bus_compute_55 : decode b_Bus_compute 55 = .ok (.iaload, 1) := by decide +kernel
theorem d_Bus_compute_56 : decode b_Bus_compute 56 = .ok (.iload_n 2, 1) := by decide +kernel
theorem d_Bus_compute_57 : decode b_Bus_compute 57 = .ok (.iadd, 1) := by decide +kernel
theorem d_Bus_compute_58 : decode b_Bus_compute 58 = .ok (.iastore, 1) := by decide +kernel
theorem d_Bus_compute_59 : decode b_Bus_compute 59 = .ok (.aload_n 0, 1) := by decide +kernel
theorem d_Bus_compute_60 : decode b_Bus_compute 60 = .ok (.aload 4, 2) := by decide +kernel
theorem d_Bus_compute_62 : decode b_Bus_compute 62 = .ok (.aload_n 1, 1) := by decide +kernel
theorem d_Bus_compute_63 : decode b_Bus_compute 63 = .ok (.getfield 189, 3) := by decide +kernel
theorem d_Bus_compute_66 : decode b_Bus_compute 66 = .ok (.iaload, 1) := by decide +kernel
theorem d_Bus_compute_67 : decode b_Bus_compute 67 = .ok (.iload_n 3, 1) := by decide +kernel
theorem d_Bus_compute_68 : decode b_Bus_compute 68 = .ok (.iadd, 1) := by decide +kernel
theorem d_Bus_compute_69 : decode b_Bus_compute 69 = .ok (.putfield 63, 3) := by decide +kernel
theorem d_Bus_compute_72 : decode b_Bus_compute 72 = .ok (.iconst 0, 1) := by decide +kernel
theorem d_Bus_compute_73 : decode b_Bus_compute 73 = .ok (.ireturn, 1) := by decide +kernel
theorem d_Bus_compute_74 : decode b_Bus_compute 74 = .ok (.aload 4, 2) := by decide +kernel
theorem d_Bus_compute_76 : decode b_Bus_compute 76 = .ok (.aload_n 1, 1) := by decide +kernel
theorem d_Bus_compute_77 : decode b_Bus_compute 77 = .ok (.getfield 189, 3) := by decide +kernel
theorem d_Bus_compute_80 : decode b_Bus_compute 80 = .ok (.iaload, 1) := by decide +kernel
theorem d_Bus_compute_81 : decode b_Bus_compute 81 = .ok (.istore 5, 2) := by decide +kernel
theorem d_Bus_compute_83 : decode b_Bus_compute 83 = .ok (.iload 5, 2) := by decide +kernel
theorem d_Bus_compute_85 : decode b_Bus_compute 85 = .ok (.ifCond .ne 5, 3) := by decide +kernel
theorem d_Bus_compute_88 : decode b_Bus_compute 88 = .ok (.iconst 2, 1) := by decide +kernel
theorem d_Bus_compute_89 : decode b_Bus_compute 89 = .ok (.ireturn, 1) := by decide +kernel
theorem d_Bus_compute_90 : decode b_Bus_compute 90 = .ok (.aload_n 0, 1) := by decide +kernel
theorem d_Bus_compute_91 : decode b_Bus_compute 91 = .ok (.iload_n 2, 1) := by decide +kernel
theorem d_Bus_compute_92 : decode b_Bus_compute 92 = .ok (.iload 5, 2) := by decide +kernel
theorem d_Bus_compute_94 : decode b_Bus_compute 94 = .ok (.idiv, 1) := by decide +kernel
theorem d_Bus_compute_95 : decode b_Bus_compute 95 = .ok (.iload_n 3, 1) := by decide +kernel
theorem d_Bus_compute_96 : decode b_Bus_compute 96 = .ok (.iadd, 1) := by decide +kernel
theorem d_Bus_compute_97 : decode b_Bus_compute 97 = .ok (.putfield 63, 3) := by decide +kernel
theorem d_Bus_compute_100 : decode b_Bus_compute 100 = .ok (.iconst 0, 1) := by decide +kernel
theorem d_Bus_compute_101 : decode b_Bus_compute 101 = .ok (.ireturn, 1) := by decide +kernel
theorem d_Bus_tick_0 : decode b_Bus_tick 0 = .ok (.iload_n 1, 1) := by decide +kernel
theorem d_Bus_tick_1 : decode b_Bus_tick 1 = .ok (.iconst 1, 1) := by decide +kernel
theorem d_Bus_tick_2 : decode b_Bus_tick 2 = .ok (.bipush 8, 2) := by decide +kernel
theorem d_Bus_tick_4 : decode b_Bus_tick 4 = .ok (.invokestatic 115, 3) := by decide +kernel
theorem d_Bus_tick_7 : decode b_Bus_tick 7 = .ok (.ifCond .ne 13, 3) := by decide +kernel
theorem d_Bus_tick_10 : decode b_Bus_tick 10 = .ok (.new 78, 3) := by decide +kernel
theorem d_Bus_tick_13 : decode b_Bus_tick 13 = .ok (.dup, 1) := by decide +kernel
theorem d_Bus_tick_14 : decode b_Bus_tick 14 = .ok (.ldc 208, 2) := by decide +kernel
theorem d_Bus_tick_16 : decode b_Bus_tick 16 = .ok (.invokespecial 82, 3) := by decide +kernel
theorem d_Bus_tick_19 : decode b_Bus_tick 19 = .ok (.athrow, 1) := by decide +kernel
theorem d_Bus_tick_20 : decode b_Bus_tick 20 = .ok (.iconst 0, 1) := by decide +kernel
theorem d_Bus_tick_21 : decode b_Bus_tick 21 = .ok (.istore_n 2, 1) := by decide +kernel
theorem d_Bus_tick_22 : decode b_Bus_tick 22 = .ok (.iload_n 2, 1) := by decide +kernel
theorem d_Bus_tick_23 : decode b_Bus_tick 23 = .ok (.iload_n 1, 1) := by decide +kernel
theorem d_Bus_tick_24 : decode b_Bus_tick 24 = .ok (.if_icmp .ge 13, 3) := by decide +kernel
theorem d_Bus_tick_27 : decode b_Bus_tick 27 = .ok (.aload_n 0, 1) := by decide +kernel
theorem d_Bus_tick_28 : decode b_Bus_tick 28 = .ok (.invokevirtual 210, 3) := by decide +kernel
theorem d_Bus_tick_31 : decode b_Bus_tick 31 = .ok (.iinc 2 1, 3) := by decide +kernel
theorem d_Bus_tick_34 : decode b_Bus_tick 34 = .ok (.goto (-12), 3) := by decide +kernel
theorem d_Bus_tick_37 : decode b_Bus_tick 37 = .ok (.aload_n 0, 1) := by decide +kernel
theorem d_Bus_tick_38 : decode b_Bus_tick 38 = .ok (.getfield 47, 3) := by decide +kernel
theorem d_Bus_tick_41 : decode b_Bus_tick 41 = .ok (.ireturn, 1) := by decide +kernel
theorem d_Bus_passOneTick_0 : decode b_Bus_passOneTick 0 = .ok (.aload_n 0, 1) := by decide +kernel
theorem d_Bus_passOneTick_1 : decode b_Bus_passOneTick 1 = .ok (.dup, 1) := by decide +kernel
theorem d_Bus_passOneTick_2 : decode b_Bus_passOneTick 2 = .ok (.getfield 47, 3) := by decide +kernel
theorem d_Bus_passOneTick_5 : decode b_Bus_passOneTick 5 = .ok (.iconst 1, 1) := by decide +kernel
theorem d_Bus_passOneTick_6 : decode b_Bus_passOneTick 6 = .ok (.iadd, 1) := by decide +kernel
theorem d_Bus_passOneTick_7 : decode b_Bus_passOneTick 7 = .ok (.putfield 47, 3) := by decide +kernel
theorem d_Bus_passOneTick_10 : decode b_Bus_passOneTick 10 = .ok (.iconst 0, 1) := by decide +kernel
theorem d_Bus_passOneTick_11 : decode b_Bus_passOneTick 11 = .ok (.istore_n 1, 1) := by decide +kernel
theorem d_Bus_passOneTick_12 : decode b_Bus_passOneTick 12 = .ok (.iload_n 1, 1) := by decide +kernel
theorem d_Bus_passOneTick_13 : decode b_Bus_passOneTick 13 = .ok (.bipush 30, 2) := by decide +kernel
theorem d_Bus_passOneTick_15 : decode b_Bus_passOneTick 15 = .ok (.if_icmp .ge 55, 3) := by decide +kernel
theorem d_Bus_passOneTick_18 : decode b_Bus_passOneTick 18 = .ok (.aload_n 0, 1) := by decide +kernel
theorem d_Bus_passOneTick_19 : decode b_Bus_passOneTick 19 = .ok (.getfield 36, 3) := by decide +kernel
theorem d_Bus_passOneTick_22 : decode b_Bus_passOneTick 22 = .ok (.aload_n 0, 1) := by decide +kernel
theorem d_Bus_passOneTick_23 : decode b_Bus_passOneTick 23 = .ok (.getfield 47, 3) := by decide +kernel
theorem d_Bus_passOneTick_26 : decode b_Bus_passOneTick 26 = .ok (.invokevirtual 309, 3) := by decide +kernel
theorem d_Bus_passOneTick_29 : decode b_Bus_passOneTick 29 = .ok (.ifCond .eq 41, 3) := by decide +kernel
theorem d_Bus_passOneTick_32 : decode b_Bus_passOneTick 32 = .ok (.aload_n 0, 1) := by decide +kernel
theorem d_Bus_passOneTick_33 : decode b_Bus_passOneTick 33 = .ok (.getfield 36, 3) := by decide +kernel
theorem d_Bus_passOneTick_36 : decode b_Bus_passOneTick 36 = .ok (.invokevirtual 312, 3) := by decide +kernel
theorem d_Bus_passOneTick_39 : decode b_Bus_passOneTick 39 = .ok (.istore_n 2, 1) := by decide +kernel
theorem d_Bus_passOneTick_40 : decode b_Bus_passOneTick 40 = .ok (.aload_n 0, 1) := by decide +kernel
theorem d_Bus_passOneTick_41 : decode b_Bus_passOneTick 41 = .ok (.aload_n 0, 1) := by decide +kernel
theorem d_Bus_passOneTick_42 : decode b_Bus_passOneTick 42 = .ok (.getfield 36, 3) := by decide +kernel
theorem d_Bus_passOneTick_45 : decode b_Bus_passOneTick 45 = .ok (.getfield 315, 3) := by decide +kernel
theorem d_Bus_passOneTick_48 : decode b_Bus_passOneTick 48 = .ok (.iload_n 2, 1) := by decide +kernel
theorem d_Bus_passOneTick_49 : decode b_Bus_passOneTick 49 = .ok (.iaload, 1) := by decide +kernel
theorem d_Bus_passOneTick_50 : decode b_Bus_passOneTick 50 = .ok (.aload_n 0, 1) := by decide +kernel
theorem d_Bus_passOneTick_51 : decode b_Bus_passOneTick 51 = .ok (.getfield 36, 3) := by decide +kernel
theorem d_Bus_passOneTick_54 : decode b_Bus_passOneTick 54 = .ok (.getfield 317, 3) := by decide +kernel
theorem d_Bus_passOneTick_57 : decode b_Bus_passOneTick 57 = .ok (.iload_n 2, 1) := by decide +kernel
theorem d_Bus_passOneTick_58 : decode b_Bus_passOneTick 58 = .ok (.iaload, 1) := by decide +kernel
theorem d_Bus_passOneTick_59 : decode b_Bus_passOneTick 59 = .ok (.iconst (-1), 1) := by decide +kernel
theorem d_Bus_passOneTick_60 : decode b_Bus_passOneTick 60 = .ok (.invokevirtual 159, 3) := by decide +kernel
theorem d_Bus_passOneTick_63 : decode b_Bus_passOneTick 63 = .ok (.pop, 1) := by decide +kernel
theorem d_Bus_passOneTick_64 : decode b_Bus_passOneTick 64 = .ok (.iinc 1 1, 3) := by decide +kernel
theorem d_Bus_passOneTick_67 : decode b_Bus_passOneTick 67 = .ok (.goto (-55), 3) := by decide +kernel
theorem d_Bus_passOneTick_70 : decode b_Bus_passOneTick 70 = .ok (.iconst 0, 1) := by decide +kernel
theorem d_Bus_passOneTick_71 : decode b_Bus_passOneTick 71 = .ok (.istore_n 1, 1) := by decide +kernel
theorem d_Bus_passOneTick_72 : decode b_Bus_passOneTick 72 = .ok (.iload_n 1, 1) := by decide +kernel
theorem d_Bus_passOneTick_73 : decode b_Bus_passOneTick 73 = .ok (.bipush 6, 2) := by decide +kernel
theorem d_Bus_passOneTick_75 : decode b_Bus_passOneTick 75 = .ok (.if_icmp .ge 26, 3) := by decide +kernel
theorem d_Bus_passOneTick_78 : decode b_Bus_passOneTick 78 = .ok (.aload_n 0, 1) := by decide +kernel
theorem d_Bus_passOneTick_79 : decode b_Bus_passOneTick 79 = .ok (.getfield 11, 3) := by decide +kernel
theorem d_Bus_passOneTick_82 : decode b_Bus_passOneTick 82 = .ok (.iload_n 1, 1) := by decide +kernel
theorem d_Bus_passOneTick_83 : decode b_Bus_passOneTick 83 = .ok (.aaload, 1) := by decide +kernel
theorem d_Bus_passOneTick_84 : decode b_Bus_passOneTick 84 = .ok (.getfield 85, 3) := by decide +kernel
theorem d_Bus_passOneTick_87 : decode b_Bus_passOneTick 87 = .ok (.ifCond .eq 8, 3) := by decide +kernel
theorem d_Bus_passOneTick_90 : decode b_Bus_passOneTick 90 = .ok (.aload_n 0, 1) := by decide +kernel
theorem d_Bus_passOneTick_91 : decode b_Bus_passOneTick 91 = .ok (.iload_n 1, 1) := by decide +kernel
theorem d_Bus_passOneTick_92 : decode b_Bus_passOneTick 92 = .ok (.invokevirtual 320, 3) := by decide +kernel
theorem d_Bus_passOneTick_95 : decode b_Bus_passOneTick 95 = .ok (.iinc 1 1, 3) := by decide +kernel
theorem d_Bus_passOneTick_98 : decode b_Bus_passOneTick 98 = .ok (.goto (-26), 3) := by decide +kernel
theorem d_Bus_passOneTick_101 : decode b_Bus_passOneTick 101 = .ok (.return_, 1) := by decide +kernel
theorem d_Bus_spin_0 : decode b_Bus_spin 0 = .ok (.aload_n 0, 1) := by decide +kernel
theorem d_Bus_spin_1 : decode b_Bus_spin 1 = .ok (.getfield 11, 3) := by decide +kernel
theorem d_Bus_spin_4 : decode b_Bus_spin 4 = .ok (.iload_n 1, 1) := by decide +kernel
theorem d_Bus_spin_5 : decode b_Bus_spin 5 = .ok (.aaload, 1) := by decide +kernel
theorem d_Bus_spin_6 : decode b_Bus_spin 6 = .ok (.astore_n 2, 1) := by decide +kernel
theorem d_Bus_spin_7 : decode b_Bus_spin 7 = .ok (.aload_n 2, 1) := by decide +kernel
theorem d_Bus_spin_8 : decode b_Bus_spin 8 = .ok (.invokevirtual 324, 3) := by decide +kernel
theorem d_Bus_spin_11 : decode b_Bus_spin 11 = .ok (.istore_n 3, 1) := by decide +kernel
theorem d_Bus_spin_12 : decode b_Bus_spin 12 = .ok (.iload_n 3, 1) := by decide +kernel
theorem d_Bus_spin_13 : decode b_Bus_spin 13 = .ok (.iconst (-1), 1) := by decide +kernel
theorem d_Bus_spin_14 : decode b_Bus_spin 14 = .ok (.if_icmp .ne 4, 3) := by decide +kernel
theorem d_Bus_spin_17 : decode b_Bus_spin 17 = .ok (.return_, 1) := by decide +kernel
theorem d_Bus_spin_18 : decode b_Bus_spin 18 = .ok (.aload_n 2, 1) := by decide +kernel
theorem d_Bus_spin_19 : decode b_Bus_spin 19 = .ok (.iload_n 3, 1) := by decide +kernel
theorem d_Bus_spin_20 : decode b_Bus_spin 20 = .ok (.invokevirtual 327, 3) := by decide +kernel
theorem d_Bus_spin_23 : decode b_Bus_spin 23 = .ok (.istore 4, 2) := by decide +kernel
theorem d_Bus_spin_25 : decode b_Bus_spin 25 = .ok (.aload_n 2, 1) := by decide +kernel
theorem d_Bus_spin_26 : decode b_Bus_spin 26 = .ok (.getfield 167, 3) := by decide +kernel
theorem d_Bus_spin_29 : decode b_Bus_spin 29 = .ok (.iload_n 3, 1) := by decide +kernel
theorem d_Bus_spin_30 : decode b_Bus_spin 30 = .ok (.aaload, 1) := by decide +kernel
theorem d_Bus_spin_31 : decode b_Bus_spin 31 = .ok (.getfield 171, 3) := by decide +kernel
theorem d_Bus_spin_34 : decode b_Bus_spin 34 = .ok (.iconst (-1), 1) := by decide +kernel
theorem d_Bus_spin_35 : decode b_Bus_spin 35 = .ok (.if_icmp .eq 26, 3) := by decide +kernel
theorem d_Bus_spin_38 : decode b_Bus_spin 38 = .ok (.aload_n 0, 1) := by decide +kernel
theorem d_Bus_spin_39 : decode b_Bus_spin 39 = .ok (.iload_n 1, 1) := by decide +kernel
theorem d_Bus_spin_40 : decode b_Bus_spin 40 = .ok (.aload_n 2, 1) := by decide +kernel
theorem d_Bus_spin_41 : decode b_Bus_spin 41 = .ok (.getfield 167, 3) := by decide +kernel
theorem d_Bus_spin_44 : decode b_Bus_spin 44 = .ok (.iload_n 3, 1) := by decide +kernel
theorem d_Bus_spin_45 : decode b_Bus_spin 45 = .ok (.aaload, 1) := by decide +kernel
theorem d_Bus_spin_46 : decode b_Bus_spin 46 = .ok (.iload 4, 2) := by decide +kernel
theorem d_Bus_spin_48 : decode b_Bus_spin 48 = .ok (.invokevirtual 330, 3) := by decide +kernel
theorem d_Bus_spin_51 : decode b_Bus_spin 51 = .ok (.aload_n 0, 1) := by decide +kernel
theorem d_Bus_spin_52 : decode b_Bus_spin 52 = .ok (.dup, 1) := by decide +kernel
theorem d_Bus_spin_53 : decode b_Bus_spin 53 = .ok (.getfield 57, 3) := by decide +kernel
theorem d_Bus_spin_56 : decode b_Bus_spin 56 = .ok (.iconst 1, 1) := by decide +kernel
theorem d_Bus_spin_57 : decode b_Bus_spin 57 = .ok (.iadd, 1) := by decide +kernel
theorem d_Bus_spin_58 : decode b_Bus_spin 58 = .ok (.putfield 57, 3) := by decide +kernel
theorem d_Bus_spin_61 : decode b_Bus_spin 61 = .ok (.return_, 1) := by decide +kernel
theorem d_Bus_perform_0 : decode b_Bus_perform 0 = .ok (.aload_n 0, 1) := by decide +kernel
theorem d_Bus_perform_1 : decode b_Bus_perform 1 = .ok (.getfield 11, 3) := by decide +kernel
theorem d_Bus_perform_4 : decode b_Bus_perform 4 = .ok (.iload_n 1, 1) := by decide +kernel
theorem d_Bus_perform_5 : decode b_Bus_perform 5 = .ok (.aaload, 1) := by decide +kernel
theorem d_Bus_perform_6 : decode b_Bus_perform 6 = .ok (.getfield 215, 3) := by decide +kernel
theorem d_Bus_perform_9 : decode b_Bus_perform 9 = .ok (.astore 4, 2) := by decide +kernel
theorem d_Bus_perform_11 : decode b_Bus_perform 11 = .ok (.aload_n 2, 1) := by decide +kernel
theorem d_Bus_perform_12 : decode b_Bus_perform 12 = .ok (.getfield 171, 3) := by decide +kernel
theorem d_Bus_perform_15 : decode b_Bus_perform 15 = .ok (.tableswitch 136 0 4 #[33, 44, 58, 77, 116], 33) := by decide +kernel
theorem d_Bus_perform_48 : decode b_Bus_perform 48 = .ok (.aload 4, 2) := by decide +kernel
theorem d_Bus_perform_50 : decode b_Bus_perform 50 = .ok (.aload_n 2, 1) := by decide +kernel
theorem d_Bus_perform_51 : decode b_Bus_perform 51 = .ok (.getfield 176, 3) := by decide +kernel
theorem d_Bus_perform_54 : decode b_Bus_perform 54 = .ok (.iload_n 3, 1) := by decide +kernel
theorem d_Bus_perform_55 : decode b_Bus_perform 55 = .ok (.iastore, 1) := by decide +kernel
theorem d_Bus_perform_56 : decode b_Bus_perform 56 = .ok (.goto 95, 3) := by decide +kernel
theorem d_Bus_perform_59 : decode b_Bus_perform 59 = .ok (.aload 4, 2) := by decide +kernel
theorem d_Bus_perform_61 : decode b_Bus_perform 61 = .ok (.aload_n 2, 1) := by decide +kernel
theorem d_Bus_perform_62 : decode b_Bus_perform 62 = .ok (.getfield 176, 3) := by decide +kernel
theorem d_Bus_perform_65 : decode b_Bus_perform 65 = .ok (.dup2, 1) := by decide +kernel
theorem d_Bus_perform_66 : decode b_Bus_perform 66 = .ok (.iaload, 1) := by decide +kernel
theorem d_Bus_perform_67 : decode b_Bus_perform 67 = .ok (.iload_n 3, 1) := by decide +kernel
theorem d_Bus_perform_68 : decode b_Bus_perform 68 = .ok (.iadd, 1) := by decide +kernel
theorem d_Bus_perform_69 : decode b_Bus_perform 69 = .ok (.iastore, 1) := by decide +kernel
theorem d_Bus_perform_70 : decode b_Bus_perform 70 = .ok (.goto 81, 3) := by decide +kernel
theorem d_Bus_perform_73 : decode b_Bus_perform 73 = .ok (.aload_n 0, 1) := by decide +kernel
theorem d_Bus_perform_74 : decode b_Bus_perform 74 = .ok (.aload_n 2, 1) := by decide +kernel
theorem d_Bus_perform_75 : decode b_Bus_perform 75 = .ok (.getfield 176, 3) := by decide +kernel
theorem d_Bus_perform_78 : decode b_Bus_perform 78 = .ok (.iload_n 3, 1) := by decide +kernel
theorem d_Bus_perform_79 : decode b_Bus_perform 79 = .ok (.aload_n 2, 1) := by decide +kernel
theorem d_Bus_perform_80 : decode b_Bus_perform 80 = .ok (.getfield 179, 3) := by decide +kernel
theorem d_Bus_perform_83 : decode b_Bus_perform 83 = .ok (.imul, 1) := by decide +kernel
theorem d_Bus_perform_84 : decode b_Bus_perform 84 = .ok (.iload_n 1, 1) := by decide +kernel
theorem d_Bus_perform_85 : decode b_Bus_perform 85 = .ok (.invokevirtual 159, 3) := by decide +kernel
theorem d_Bus_perform_88 : decode b_Bus_perform 88 = .ok (.pop, 1) := by decide +kernel
theorem d_Bus_perform_89 : decode b_Bus_perform 89 = .ok (.goto 62, 3) := by decide +kernel
theorem d_Bus_perform_92 : decode b_Bus_perform 92 = .ok (.aload_n 0, 1) := by decide +kernel
theorem d_Bus_perform_93 : decode b_Bus_perform 93 = .ok (.aload_n 2, 1) := by decide +kernel
theorem d_Bus_perform_94 : decode b_Bus_perform 94 = .ok (.getfield 176, 3) := by decide +kernel
theorem d_Bus_perform_97 : decode b_Bus_perform 97 = .ok (.iload_n 3, 1) := by decide +kernel
theorem d_Bus_perform_98 : decode b_Bus_perform 98 = .ok (.invokevirtual 197, 3) := by decide +kernel
theorem d_Bus_perform_101 : decode b_Bus_perform 101 = .ok (.ifCond .ne 17, 3) := by decide +kernel
theorem d_Bus_perform_104 : decode b_Bus_perform 104 = .ok (.aload 4, 2) := by decide +kernel
theorem d_Bus_perform_106 : decode b_Bus_perform 106 = .ok (.aload_n 2, 1) := by decide +kernel
theorem d_Bus_perform_107 : decode b_Bus_perform 107 = .ok (.getfield 179, 3) := by decide +kernel
theorem d_Bus_perform_110 : decode b_Bus_perform 110 = .ok (.aload_n 0, 1) := by decide +kernel
theorem d_Bus_perform_111 : decode b_Bus_perform 111 = .ok (.getfield 63, 3) := by decide +kernel
theorem d_Bus_perform_114 : decode b_Bus_perform 114 = .ok (.iastore, 1) := by decide +kernel
theorem d_Bus_perform_115 : decode b_Bus_perform 115 = .ok (.goto 36, 3) := by decide +kernel
theorem d_Bus_perform_118 : decode b_Bus_perform 118 = .ok (.aload_n 0, 1) := by decide +kernel
theorem d_Bus_perform_119 : decode b_Bus_perform 119 = .ok (.dup, 1) := by decide +kernel
theorem d_Bus_perform_120 : decode b_Bus_perform 120 = .ok (.getfield 60, 3) := by decide +kernel
theorem d_Bus_perform_123 : decode b_Bus_perform 123 = .ok (.iconst 1, 1) := by decide +kernel
theorem d_Bus_perform_124 : decode b_Bus_perform 124 = .ok (.iadd, 1) := by decide +kernel
theorem d_Bus_perform_125 : decode b_Bus_perform 125 = .ok (.putfield 60, 3) := by decide +kernel
theorem d_Bus_perform_128 : decode b_Bus_perform 128 = .ok (.goto 23, 3) := by decide +kernel
theorem d_Bus_perform_131 : decode b_Bus_perform 131 = .ok (.aload_n 0, 1) := by decide +kernel
theorem d_Bus_perform_132 : decode b_Bus_perform 132 = .ok (.aload_n 2, 1) := by decide +kernel
theorem d_Bus_perform_133 : decode b_Bus_perform 133 = .ok (.getfield 176, 3) := by decide +kernel
theorem d_Bus_perform_136 : decode b_Bus_perform 136 = .ok (.aload 4, 2) := by decide +kernel
theorem d_Bus_perform_138 : decode b_Bus_perform 138 = .ok (.aload_n 2, 1) := by decide +kernel
theorem d_Bus_perform_139 : decode b_Bus_perform 139 = .ok (.getfield 179, 3) := by decide +kernel
theorem d_Bus_perform_142 : decode b_Bus_perform 142 = .ok (.iaload, 1) := by decide +kernel
theorem d_Bus_perform_143 : decode b_Bus_perform 143 = .ok (.iload_n 1, 1) := by decide +kernel
theorem d_Bus_perform_144 : decode b_Bus_perform 144 = .ok (.invokevirtual 159, 3) := by decide +kernel
theorem d_Bus_perform_147 : decode b_Bus_perform 147 = .ok (.pop, 1) := by decide +kernel
theorem d_Bus_perform_148 : decode b_Bus_perform 148 = .ok (.goto 3, 3) := by decide +kernel
theorem d_Bus_perform_151 : decode b_Bus_perform 151 = .ok (.return_, 1) := by decide +kernel
theorem d_Bus_variable_0 : decode b_Bus_variable 0 = .ok (.aload_n 0, 1) := by decide +kernel
theorem d_Bus_variable_1 : decode b_Bus_variable 1 = .ok (.iload_n 1, 1) := by decide +kernel
theorem d_Bus_variable_2 : decode b_Bus_variable 2 = .ok (.invokevirtual 94, 3) := by decide +kernel
theorem d_Bus_variable_5 : decode b_Bus_variable 5 = .ok (.ifCond .ne 13, 3) := by decide +kernel
theorem d_Bus_variable_8 : decode b_Bus_variable 8 = .ok (.new 98, 3) := by decide +kernel
theorem d_Bus_variable_11 : decode b_Bus_variable 11 = .ok (.dup, 1) := by decide +kernel
theorem d_Bus_variable_12 : decode b_Bus_variable 12 = .ok (.ldc 100, 2) := by decide +kernel
theorem d_Bus_variable_14 : decode b_Bus_variable 14 = .ok (.invokespecial 102, 3) := by decide +kernel
theorem d_Bus_variable_17 : decode b_Bus_variable 17 = .ok (.athrow, 1) := by decide +kernel
theorem d_Bus_variable_18 : decode b_Bus_variable 18 = .ok (.iload_n 2, 1) := by decide +kernel
theorem d_Bus_variable_19 : decode b_Bus_variable 19 = .ok (.iconst 4, 1) := by decide +kernel
theorem d_Bus_variable_20 : decode b_Bus_variable 20 = .ok (.invokestatic 74, 3) := by decide +kernel
theorem d_Bus_variable_23 : decode b_Bus_variable 23 = .ok (.ifCond .ne 13, 3) := by decide +kernel
theorem d_Bus_variable_26 : decode b_Bus_variable 26 = .ok (.new 78, 3) := by decide +kernel
theorem d_Bus_variable_29 : decode b_Bus_variable 29 = .ok (.dup, 1) := by decide +kernel
theorem d_Bus_variable_30 : decode b_Bus_variable 30 = .ok (.ldc 213, 2) := by decide +kernel
theorem d_Bus_variable_32 : decode b_Bus_variable 32 = .ok (.invokespecial 82, 3) := by decide +kernel
theorem d_Bus_variable_35 : decode b_Bus_variable 35 = .ok (.athrow, 1) := by decide +kernel
theorem d_Bus_variable_36 : decode b_Bus_variable 36 = .ok (.aload_n 0, 1) := by decide +kernel
theorem d_Bus_variable_37 : decode b_Bus_variable 37 = .ok (.getfield 11, 3) := by decide +kernel
theorem d_Bus_variable_40 : decode b_Bus_variable 40 = .ok (.iload_n 1, 1) := by decide +kernel
theorem d_Bus_variable_41 : decode b_Bus_variable 41 = .ok (.aaload, 1) := by decide +kernel
theorem d_Bus_variable_42 : decode b_Bus_variable 42 = .ok (.getfield 215, 3) := by decide +kernel
theorem d_Bus_variable_45 : decode b_Bus_variable 45 = .ok (.iload_n 2, 1) := by decide +kernel
theorem d_Bus_variable_46 : decode b_Bus_variable 46 = .ok (.iaload, 1) := by decide +kernel
theorem d_Bus_variable_47 : decode b_Bus_variable 47 = .ok (.ireturn, 1) := by decide +kernel
theorem d_Bus_queued_0 : decode b_Bus_queued 0 = .ok (.aload_n 0, 1) := by decide +kernel
theorem d_Bus_queued_1 : decode b_Bus_queued 1 = .ok (.iload_n 1, 1) := by decide +kernel
theorem d_Bus_queued_2 : decode b_Bus_queued 2 = .ok (.invokevirtual 94, 3) := by decide +kernel
theorem d_Bus_queued_5 : decode b_Bus_queued 5 = .ok (.ifCond .eq 12, 3) := by decide +kernel
theorem d_Bus_queued_8 : decode b_Bus_queued 8 = .ok (.iload_n 2, 1) := by decide +kernel
theorem d_Bus_queued_9 : decode b_Bus_queued 9 = .ok (.bipush 6, 2) := by decide +kernel
theorem d_Bus_queued_11 : decode b_Bus_queued 11 = .ok (.invokestatic 74, 3) := by decide +kernel
theorem d_Bus_queued_14 : decode b_Bus_queued 14 = .ok (.ifCond .ne 13, 3) := by decide +kernel
theorem d_Bus_queued_17 : decode b_Bus_queued 17 = .ok (.new 98, 3) := by decide +kernel
theorem d_Bus_queued_20 : decode b_Bus_queued 20 = .ok (.dup, 1) := by decide +kernel
theorem d_Bus_queued_21 : decode b_Bus_queued 21 = .ok (.ldc 219, 2) := by decide +kernel
theorem d_Bus_queued_23 : decode b_Bus_queued 23 = .ok (.invokespecial 102, 3) := by decide +kernel
theorem d_Bus_queued_26 : decode b_Bus_queued 26 = .ok (.athrow, 1) := by decide +kernel
theorem d_Bus_queued_27 : decode b_Bus_queued 27 = .ok (.aload_n 0, 1) := by decide +kernel
theorem d_Bus_queued_28 : decode b_Bus_queued 28 = .ok (.getfield 11, 3) := by decide +kernel
theorem d_Bus_queued_31 : decode b_Bus_queued 31 = .ok (.iload_n 1, 1) := by decide +kernel
theorem d_Bus_queued_32 : decode b_Bus_queued 32 = .ok (.aaload, 1) := by decide +kernel
theorem d_Bus_queued_33 : decode b_Bus_queued 33 = .ok (.getfield 121, 3) := by decide +kernel
theorem d_Bus_queued_36 : decode b_Bus_queued 36 = .ok (.iload_n 2, 1) := by decide +kernel
theorem d_Bus_queued_37 : decode b_Bus_queued 37 = .ok (.aaload, 1) := by decide +kernel
theorem d_Bus_queued_38 : decode b_Bus_queued 38 = .ok (.astore 5, 2) := by decide +kernel
theorem d_Bus_queued_40 : decode b_Bus_queued 40 = .ok (.iload_n 3, 1) := by decide +kernel
theorem d_Bus_queued_41 : decode b_Bus_queued 41 = .ok (.aload 5, 2) := by decide +kernel
theorem d_Bus_queued_43 : decode b_Bus_queued 43 = .ok (.getfield 151, 3) := by decide +kernel
theorem d_Bus_queued_46 : decode b_Bus_queued 46 = .ok (.invokestatic 74, 3) := by decide +kernel
theorem d_Bus_queued_49 : decode b_Bus_queued 49 = .ok (.ifCond .ne 13, 3) := by decide +kernel
theorem d_Bus_queued_52 : decode b_Bus_queued 52 = .ok (.new 98, 3) := by decide +kernel
theorem d_Bus_queued_55 : decode b_Bus_queued 55 = .ok (.dup, 1) := by decide +kernel
theorem d_Bus_queued_56 : decode b_Bus_queued 56 = .ok (.ldc 221, 2) := by decide +kernel
theorem d_Bus_queued_58 : decode b_Bus_queued 58 = .ok (.invokespecial 102, 3) := by decide +kernel
theorem d_Bus_queued_61 : decode b_Bus_queued 61 = .ok (.athrow, 1) := by decide +kernel
theorem d_Bus_queued_62 : decode b_Bus_queued 62 = .ok (.iload 4, 2) := by decide +kernel
theorem d_Bus_queued_64 : decode b_Bus_queued 64 = .ok (.iconst 3, 1) := by decide +kernel
theorem d_Bus_queued_65 : decode b_Bus_queued 65 = .ok (.invokestatic 74, 3) := by decide +kernel
theorem d_Bus_queued_68 : decode b_Bus_queued 68 = .ok (.ifCond .ne 13, 3) := by decide +kernel
theorem d_Bus_queued_71 : decode b_Bus_queued 71 = .ok (.new 78, 3) := by decide +kernel
theorem d_Bus_queued_74 : decode b_Bus_queued 74 = .ok (.dup, 1) := by decide +kernel
theorem d_Bus_queued_75 : decode b_Bus_queued 75 = .ok (.ldc 223, 2) := by decide +kernel
theorem d_Bus_queued_77 : decode b_Bus_queued 77 = .ok (.invokespecial 82, 3) := by decide +kernel
theorem d_Bus_queued_80 : decode b_Bus_queued 80 = .ok (.athrow, 1) := by decide +kernel
theorem d_Bus_queued_81 : decode b_Bus_queued 81 = .ok (.aload 5, 2) := by decide +kernel
theorem d_Bus_queued_83 : decode b_Bus_queued 83 = .ok (.iload_n 3, 1) := by decide +kernel
theorem d_Bus_queued_84 : decode b_Bus_queued 84 = .ok (.iload 4, 2) := by decide +kernel
theorem d_Bus_queued_86 : decode b_Bus_queued 86 = .ok (.invokevirtual 225, 3) := by decide +kernel
theorem d_Bus_queued_89 : decode b_Bus_queued 89 = .ok (.ireturn, 1) := by decide +kernel
theorem d_Bus_keep_0 : decode b_Bus_keep 0 = .ok (.iload_n 1, 1) := by decide +kernel
theorem d_Bus_keep_1 : decode b_Bus_keep 1 = .ok (.bipush 6, 2) := by decide +kernel
theorem d_Bus_keep_3 : decode b_Bus_keep 3 = .ok (.invokestatic 74, 3) := by decide +kernel
theorem d_Bus_keep_6 : decode b_Bus_keep 6 = .ok (.ifCond .ne 13, 3) := by decide +kernel
theorem d_Bus_keep_9 : decode b_Bus_keep 9 = .ok (.new 78, 3) := by decide +kernel
theorem d_Bus_keep_12 : decode b_Bus_keep 12 = .ok (.dup, 1) := by decide +kernel
theorem d_Bus_keep_13 : decode b_Bus_keep 13 = .ok (.ldc 110, 2) := by decide +kernel
theorem d_Bus_keep_15 : decode b_Bus_keep 15 = .ok (.invokespecial 82, 3) := by decide +kernel
theorem d_Bus_keep_18 : decode b_Bus_keep 18 = .ok (.athrow, 1) := by decide +kernel
theorem d_Bus_keep_19 : decode b_Bus_keep 19 = .ok (.aload_n 0, 1) := by decide +kernel
theorem d_Bus_keep_20 : decode b_Bus_keep 20 = .ok (.getfield 17, 3) := by decide +kernel
theorem d_Bus_keep_23 : decode b_Bus_keep 23 = .ok (.iload_n 1, 1) := by decide +kernel
theorem d_Bus_keep_24 : decode b_Bus_keep 24 = .ok (.aaload, 1) := by decide +kernel
theorem d_Bus_keep_25 : decode b_Bus_keep 25 = .ok (.getfield 228, 3) := by decide +kernel
theorem d_Bus_keep_28 : decode b_Bus_keep 28 = .ok (.iload_n 2, 1) := by decide +kernel
theorem d_Bus_keep_29 : decode b_Bus_keep 29 = .ok (.if_icmp .eq 7, 3) := by decide +kernel
theorem d_Bus_keep_32 : decode b_Bus_keep 32 = .ok (.iconst 1, 1) := by decide +kernel
theorem d_Bus_keep_33 : decode b_Bus_keep 33 = .ok (.goto 4, 3) := by decide +kernel
theorem d_Bus_keep_36 : decode b_Bus_keep 36 = .ok (.iconst 0, 1) := by decide +kernel
theorem d_Bus_keep_37 : decode b_Bus_keep 37 = .ok (.istore_n 3, 1) := by decide +kernel
theorem d_Bus_keep_38 : decode b_Bus_keep 38 = .ok (.aload_n 0, 1) := by decide +kernel
theorem d_Bus_keep_39 : decode b_Bus_keep 39 = .ok (.getfield 17, 3) := by decide +kernel
theorem d_Bus_keep_42 : decode b_Bus_keep 42 = .ok (.iload_n 1, 1) := by decide +kernel
theorem d_Bus_keep_43 : decode b_Bus_keep 43 = .ok (.aaload, 1) := by decide +kernel
theorem d_Bus_keep_44 : decode b_Bus_keep 44 = .ok (.iload_n 2, 1) := by decide +kernel
theorem d_Bus_keep_45 : decode b_Bus_keep 45 = .ok (.putfield 228, 3) := by decide +kernel
theorem d_Bus_keep_48 : decode b_Bus_keep 48 = .ok (.iload_n 3, 1) := by decide +kernel
theorem d_Bus_keep_49 : decode b_Bus_keep 49 = .ok (.ifCond .eq 7, 3) := by decide +kernel
theorem d_Bus_keep_52 : decode b_Bus_keep 52 = .ok (.iconst 1, 1) := by decide +kernel
theorem d_Bus_keep_53 : decode b_Bus_keep 53 = .ok (.goto 4, 3) := by decide +kernel
theorem d_Bus_keep_56 : decode b_Bus_keep 56 = .ok (.iconst 0, 1) := by decide +kernel
theorem d_Bus_keep_57 : decode b_Bus_keep 57 = .ok (.ireturn, 1) := by decide +kernel
theorem d_Bus_play_0 : decode b_Bus_play 0 = .ok (.iload_n 1, 1) := by decide +kernel
theorem d_Bus_play_1 : decode b_Bus_play 1 = .ok (.iconst 1, 1) := by decide +kernel
theorem d_Bus_play_2 : decode b_Bus_play 2 = .ok (.iconst 4, 1) := by decide +kernel
theorem d_Bus_play_3 : decode b_Bus_play 3 = .ok (.invokestatic 115, 3) := by decide +kernel
theorem d_Bus_play_6 : decode b_Bus_play 6 = .ok (.ifCond .ne 13, 3) := by decide +kernel
theorem d_Bus_play_9 : decode b_Bus_play 9 = .ok (.new 78, 3) := by decide +kernel
theorem d_Bus_play_12 : decode b_Bus_play 12 = .ok (.dup, 1) := by decide +kernel
theorem d_Bus_play_13 : decode b_Bus_play 13 = .ok (.ldc 231, 2) := by decide +kernel
theorem d_Bus_play_15 : decode b_Bus_play 15 = .ok (.invokespecial 82, 3) := by decide +kernel
theorem d_Bus_play_18 : decode b_Bus_play 18 = .ok (.athrow, 1) := by decide +kernel
theorem d_Bus_play_19 : decode b_Bus_play 19 = .ok (.aload_n 0, 1) := by decide +kernel
theorem d_Bus_play_20 : decode b_Bus_play 20 = .ok (.getfield 36, 3) := by decide +kernel
theorem d_Bus_play_23 : decode b_Bus_play 23 = .ok (.invokevirtual 233, 3) := by decide +kernel
theorem d_Bus_play_26 : decode b_Bus_play 26 = .ok (.ifCond .eq 13, 3) := by decide +kernel
theorem d_Bus_play_29 : decode b_Bus_play 29 = .ok (.new 89, 3) := by decide +kernel
theorem d_Bus_play_32 : decode b_Bus_play 32 = .ok (.dup, 1) := by decide +kernel
theorem d_Bus_play_33 : decode b_Bus_play 33 = .ok (.ldc 236, 2) := by decide +kernel
theorem d_Bus_play_35 : decode b_Bus_play 35 = .ok (.invokespecial 93, 3) := by decide +kernel
theorem d_Bus_play_38 : decode b_Bus_play 38 = .ok (.athrow, 1) := by decide +kernel
theorem d_Bus_play_39 : decode b_Bus_play 39 = .ok (.aload_n 0, 1) := by decide +kernel
theorem d_Bus_play_40 : decode b_Bus_play 40 = .ok (.getfield 36, 3) := by decide +kernel
theorem d_Bus_play_43 : decode b_Bus_play 43 = .ok (.getfield 238, 3) := by decide +kernel
theorem d_Bus_play_46 : decode b_Bus_play 46 = .ok (.ifCond .ne 13, 3) := by decide +kernel
theorem d_Bus_play_49 : decode b_Bus_play 49 = .ok (.new 239, 3) := by decide +kernel
theorem d_Bus_play_52 : decode b_Bus_play 52 = .ok (.dup, 1) := by decide +kernel
theorem d_Bus_play_53 : decode b_Bus_play 53 = .ok (.ldc 241, 2) := by decide +kernel
theorem d_Bus_play_55 : decode b_Bus_play 55 = .ok (.invokespecial 243, 3) := by decide +kernel
theorem d_Bus_play_58 : decode b_Bus_play 58 = .ok (.athrow, 1) := by decide +kernel
theorem d_Bus_play_59 : decode b_Bus_play 59 = .ok (.aload_n 0, 1) := by decide +kernel
theorem d_Bus_play_60 : decode b_Bus_play 60 = .ok (.getfield 36, 3) := by decide +kernel
theorem d_Bus_play_63 : decode b_Bus_play 63 = .ok (.aload_n 0, 1) := by decide +kernel
theorem d_Bus_play_64 : decode b_Bus_play 64 = .ok (.getfield 47, 3) := by decide +kernel
theorem d_Bus_play_67 : decode b_Bus_play 67 = .ok (.iload_n 1, 1) := by decide +kernel
theorem d_Bus_play_68 : decode b_Bus_play 68 = .ok (.invokevirtual 244, 3) := by decide +kernel
theorem d_Bus_play_71 : decode b_Bus_play 71 = .ok (.aload_n 0, 1) := by decide +kernel
theorem d_Bus_play_72 : decode b_Bus_play 72 = .ok (.getfield 36, 3) := by decide +kernel
theorem d_Bus_play_75 : decode b_Bus_play 75 = .ok (.getfield 238, 3) := by decide +kernel
theorem d_Bus_play_78 : decode b_Bus_play 78 = .ok (.ireturn, 1) := by decide +kernel
theorem d_Bus_empty_0 : decode b_Bus_empty 0 = .ok (.aload_n 0, 1) := by decide +kernel
theorem d_Bus_empty_1 : decode b_Bus_empty 1 = .ok (.getfield 36, 3) := by decide +kernel
theorem d_Bus_empty_4 : decode b_Bus_empty 4 = .ok (.invokevirtual 233, 3) := by decide +kernel
theorem d_Bus_empty_7 : decode b_Bus_empty 7 = .ok (.ifCond .eq 13, 3) := by decide +kernel
theorem d_Bus_empty_10 : decode b_Bus_empty 10 = .ok (.new 89, 3) := by decide +kernel
theorem d_Bus_empty_13 : decode b_Bus_empty 13 = .ok (.dup, 1) := by decide +kernel
theorem d_Bus_empty_14 : decode b_Bus_empty 14 = .ok (.ldc 236, 2) := by decide +kernel
theorem d_Bus_empty_16 : decode b_Bus_empty 16 = .ok (.invokespecial 93, 3) := by decide +kernel
theorem d_Bus_empty_19 : decode b_Bus_empty 19 = .ok (.athrow, 1) := by decide +kernel
theorem d_Bus_empty_20 : decode b_Bus_empty 20 = .ok (.aload_n 0, 1) := by decide +kernel
theorem d_Bus_empty_21 : decode b_Bus_empty 21 = .ok (.getfield 36, 3) := by decide +kernel
theorem d_Bus_empty_24 : decode b_Bus_empty 24 = .ok (.getfield 238, 3) := by decide +kernel
theorem d_Bus_empty_27 : decode b_Bus_empty 27 = .ok (.istore_n 1, 1) := by decide +kernel
theorem d_Bus_empty_28 : decode b_Bus_empty 28 = .ok (.aload_n 0, 1) := by decide +kernel
theorem d_Bus_empty_29 : decode b_Bus_empty 29 = .ok (.getfield 36, 3) := by decide +kernel
theorem d_Bus_empty_32 : decode b_Bus_empty 32 = .ok (.iconst 0, 1) := by decide +kernel
theorem d_Bus_empty_33 : decode b_Bus_empty 33 = .ok (.putfield 238, 3) := by decide +kernel
theorem d_Bus_empty_36 : decode b_Bus_empty 36 = .ok (.iload_n 1, 1) := by decide +kernel
theorem d_Bus_empty_37 : decode b_Bus_empty 37 = .ok (.ireturn, 1) := by decide +kernel
theorem d_Bus_mount_0 : decode b_Bus_mount 0 = .ok (.iload_n 1, 1) := by decide +kernel
theorem d_Bus_mount_1 : decode b_Bus_mount 1 = .ok (.ifCond .eq 21, 3) := by decide +kernel
theorem d_Bus_mount_4 : decode b_Bus_mount 4 = .ok (.iload_n 1, 1) := by decide +kernel
theorem d_Bus_mount_5 : decode b_Bus_mount 5 = .ok (.bipush 6, 2) := by decide +kernel
theorem d_Bus_mount_7 : decode b_Bus_mount 7 = .ok (.invokestatic 74, 3) := by decide +kernel
theorem d_Bus_mount_10 : decode b_Bus_mount 10 = .ok (.ifCond .eq 12, 3) := by decide +kernel
theorem d_Bus_mount_13 : decode b_Bus_mount 13 = .ok (.iload_n 2, 1) := by decide +kernel
theorem d_Bus_mount_14 : decode b_Bus_mount 14 = .ok (.bipush 6, 2) := by decide +kernel
theorem d_Bus_mount_16 : decode b_Bus_mount 16 = .ok (.invokestatic 74, 3) := by decide +kernel
theorem d_Bus_mount_19 : decode b_Bus_mount 19 = .ok (.ifCond .ne 13, 3) := by decide +kernel
theorem d_Bus_mount_22 : decode b_Bus_mount 22 = .ok (.new 78, 3) := by decide +kernel
theorem d_Bus_mount_25 : decode b_Bus_mount 25 = .ok (.dup, 1) := by decide +kernel
theorem d_Bus_mount_26 : decode b_Bus_mount 26 = .ok (.ldc 248, 2) := by decide +kernel
theorem d_Bus_mount_28 : decode b_Bus_mount 28 = .ok (.invokespecial 82, 3) := by decide +kernel
theorem d_Bus_mount_31 : decode b_Bus_mount 31 = .ok (.athrow, 1) := by decide +kernel
theorem d_Bus_mount_32 : decode b_Bus_mount 32 = .ok (.aload_n 0, 1) := by decide +kernel
theorem d_Bus_mount_33 : decode b_Bus_mount 33 = .ok (.iload_n 1, 1) := by decide +kernel
theorem d_Bus_mount_34 : decode b_Bus_mount 34 = .ok (.iload_n 2, 1) := by decide +kernel
theorem d_Bus_mount_35 : decode b_Bus_mount 35 = .ok (.invokevirtual 250, 3) := by decide +kernel
theorem d_Bus_mount_38 : decode b_Bus_mount 38 = .ok (.ifCond .eq 13, 3) := by decide +kernel
theorem d_Bus_mount_41 : decode b_Bus_mount 41 = .ok (.new 89, 3) := by decide +kernel
theorem d_Bus_mount_44 : decode b_Bus_mount 44 = .ok (.dup, 1) := by decide +kernel
theorem d_Bus_mount_45 : decode b_Bus_mount 45 = .ok (.ldc 253, 2) := by decide +kernel
theorem d_Bus_mount_47 : decode b_Bus_mount 47 = .ok (.invokespecial 93, 3) := by decide +kernel
theorem d_Bus_mount_50 : decode b_Bus_mount 50 = .ok (.athrow, 1) := by decide +kernel
theorem d_Bus_mount_51 : decode b_Bus_mount 51 = .ok (.aload_n 0, 1) := by decide +kernel
theorem d_Bus_mount_52 : decode b_Bus_mount 52 = .ok (.getfield 29, 3) := by decide +kernel
theorem d_Bus_mount_55 : decode b_Bus_mount 55 = .ok (.iload_n 1, 1) := by decide +kernel
theorem d_Bus_mount_56 : decode b_Bus_mount 56 = .ok (.aaload, 1) := by decide +kernel
theorem d_Bus_mount_57 : decode b_Bus_mount 57 = .ok (.getfield 255, 3) := by decide +kernel
theorem d_Bus_mount_60 : decode b_Bus_mount 60 = .ok (.istore_n 3, 1) := by decide +kernel
theorem d_Bus_mount_61 : decode b_Bus_mount 61 = .ok (.aload_n 0, 1) := by decide +kernel
theorem d_Bus_mount_62 : decode b_Bus_mount 62 = .ok (.getfield 29, 3) := by decide +kernel
theorem d_Bus_mount_65 : decode b_Bus_mount 65 = .ok (.iload_n 1, 1) := by decide +kernel
theorem d_Bus_mount_66 : decode b_Bus_mount 66 = .ok (.aaload, 1) := by decide +kernel
theorem d_Bus_mount_67 : decode b_Bus_mount 67 = .ok (.iload_n 2, 1) := by decide +kernel
theorem d_Bus_mount_68 : decode b_Bus_mount 68 = .ok (.putfield 255, 3) := by decide +kernel
theorem d_Bus_mount_71 : decode b_Bus_mount 71 = .ok (.aload_n 0, 1) := by decide +kernel
theorem d_Bus_mount_72 : decode b_Bus_mount 72 = .ok (.getfield 29, 3) := by decide +kernel
theorem d_Bus_mount_75 : decode b_Bus_mount 75 = .ok (.iload_n 1, 1) := by decide +kernel
theorem d_Bus_mount_76 : decode b_Bus_mount 76 = .ok (.aaload, 1) := by decide +kernel
theorem d_Bus_mount_77 : decode b_Bus_mount 77 = .ok (.iconst 0, 1) := by decide +kernel
theorem d_Bus_mount_78 : decode b_Bus_mount 78 = .ok (.putfield 258, 3) := by decide +kernel
theorem d_Bus_mount_81 : decode b_Bus_mount 81 = .ok (.iload_n 3, 1) := by decide +kernel
theorem d_Bus_mount_82 : decode b_Bus_mount 82 = .ok (.ireturn, 1) := by decide +kernel
theorem d_Bus_isAbove_0 : decode b_Bus_isAbove 0 = .ok (.iload_n 2, 1) := by decide +kernel
theorem d_Bus_isAbove_1 : decode b_Bus_isAbove 1 = .ok (.istore_n 3, 1) := by decide +kernel
theorem d_Bus_isAbove_2 : decode b_Bus_isAbove 2 = .ok (.iconst 0, 1) := by decide +kernel
theorem d_Bus_isAbove_3 : decode b_Bus_isAbove 3 = .ok (.istore 4, 2) := by decide +kernel
theorem d_Bus_isAbove_5 : decode b_Bus_isAbove 5 = .ok (.iload 4, 2) := by decide +kernel
theorem d_Bus_isAbove_7 : decode b_Bus_isAbove 7 = .ok (.bipush 6, 2) := by decide +kernel
theorem d_Bus_isAbove_9 : decode b_Bus_isAbove 9 = .ok (.if_icmp .ge 31, 3) := by decide +kernel
theorem d_Bus_isAbove_12 : decode b_Bus_isAbove 12 = .ok (.iload_n 3, 1) := by decide +kernel
theorem d_Bus_isAbove_13 : decode b_Bus_isAbove 13 = .ok (.iconst (-1), 1) := by decide +kernel
theorem d_Bus_isAbove_14 : decode b_Bus_isAbove 14 = .ok (.if_icmp .eq 26, 3) := by decide +kernel
theorem d_Bus_isAbove_17 : decode b_Bus_isAbove 17 = .ok (.iload_n 3, 1) := by decide +kernel
theorem d_Bus_isAbove_18 : decode b_Bus_isAbove 18 = .ok (.iload_n 1, 1) := by decide +kernel
theorem d_Bus_isAbove_19 : decode b_Bus_isAbove 19 = .ok (.if_icmp .ne 5, 3) := by decide +kernel
theorem d_Bus_isAbove_22 : decode b_Bus_isAbove 22 = .ok (.iconst 1, 1) := by decide +kernel
theorem d_Bus_isAbove_23 : decode b_Bus_isAbove 23 = .ok (.ireturn, 1) := by decide +kernel
theorem d_Bus_isAbove_24 : decode b_Bus_isAbove 24 = .ok (.aload_n 0, 1) := by decide +kernel
theorem d_Bus_isAbove_25 : decode b_Bus_isAbove 25 = .ok (.getfield 29, 3) := by decide +kernel
theorem d_Bus_isAbove_28 : decode b_Bus_isAbove 28 = .ok (.iload_n 3, 1) := by decide +kernel
theorem d_Bus_isAbove_29 : decode b_Bus_isAbove 29 = .ok (.aaload, 1) := by decide +kernel
theorem d_Bus_isAbove_30 : decode b_Bus_isAbove 30 = .ok (.getfield 255, 3) := by decide +kernel
theorem d_Bus_isAbove_33 : decode b_Bus_isAbove 33 = .ok (.istore_n 3, 1) := by decide +kernel
theorem d_Bus_isAbove_34 : decode b_Bus_isAbove 34 = .ok (.iinc 4 1, 3) := by decide +kernel
theorem d_Bus_isAbove_37 : decode b_Bus_isAbove 37 = .ok (.goto (-32), 3) := by decide +kernel
theorem d_Bus_isAbove_40 : decode b_Bus_isAbove 40 = .ok (.iconst 0, 1) := by decide +kernel
theorem d_Bus_isAbove_41 : decode b_Bus_isAbove 41 = .ok (.ireturn, 1) := by decide +kernel
theorem d_Bus_sample_0 : decode b_Bus_sample 0 = .ok (.iload_n 1, 1) := by decide +kernel
theorem d_Bus_sample_1 : decode b_Bus_sample 1 = .ok (.bipush 6, 2) := by decide +kernel
theorem d_Bus_sample_3 : decode b_Bus_sample 3 = .ok (.invokestatic 74, 3) := by decide +kernel
theorem d_Bus_sample_6 : decode b_Bus_sample 6 = .ok (.ifCond .eq 16, 3) := by decide +kernel
theorem d_Bus_sample_9 : decode b_Bus_sample 9 = .ok (.aload_n 0, 1) := by decide +kernel
theorem d_Bus_sample_10 : decode b_Bus_sample 10 = .ok (.getfield 29, 3) := by decide +kernel
theorem d_Bus_sample_13 : decode b_Bus_sample 13 = .ok (.iload_n 1, 1) := by decide +kernel
theorem d_Bus_sample_14 : decode b_Bus_sample 14 = .ok (.aaload, 1) := by decide +kernel
theorem d_Bus_sample_15 : decode b_Bus_sample 15 = .ok (.getfield 255, 3) := by decide +kernel
theorem d_Bus_sample_18 : decode b_Bus_sample 18 = .ok (.iconst (-1), 1) := by decide +kernel
theorem d_Bus_sample_19 : decode b_Bus_sample 19 = .ok (.if_icmp .ne 14, 3) := by decide +kernel
theorem d_Bus_sample_22 : decode b_Bus_sample 22 = .ok (.new 98, 3) := by decide +kernel
theorem d_Bus_sample_25 : decode b_Bus_sample 25 = .ok (.dup, 1) := by decide +kernel
theorem d_Bus_sample_26 : decode b_Bus_sample 26 = .ok (.ldc_w 259, 3) := by decide +kernel
theorem d_Bus_sample_29 : decode b_Bus_sample 29 = .ok (.invokespecial 102, 3) := by decide +kernel
theorem d_Bus_sample_32 : decode b_Bus_sample 32 = .ok (.athrow, 1) := by decide +kernel
theorem d_Bus_sample_33 : decode b_Bus_sample 33 = .ok (.dload_n 3, 1) := by decide +kernel
theorem d_Bus_sample_34 : decode b_Bus_sample 34 = .ok (.invokestatic 261, 3) := by decide +kernel
theorem d_Bus_sample_37 : decode b_Bus_sample 37 = .ok (.ifCond .eq 31, 3) := by decide +kernel
theorem d_Bus_sample_40 : decode b_Bus_sample 40 = .ok (.dload 5, 2) := by decide +kernel
theorem d_Bus_sample_42 : decode b_Bus_sample 42 = .ok (.invokestatic 261, 3) := by decide +kernel
theorem d_Bus_sample_45 : decode b_Bus_sample 45 = .ok (.ifCond .eq 23, 3) := by decide +kernel
theorem d_Bus_sample_48 : decode b_Bus_sample 48 = .ok (.iload 7, 2) := by decide +kernel
theorem d_Bus_sample_50 : decode b_Bus_sample 50 = .ok (.iconst 4, 1) := by decide +kernel
theorem d_Bus_sample_51 : decode b_Bus_sample 51 = .ok (.invokestatic 74, 3) := by decide +kernel
theorem d_Bus_sample_54 : decode b_Bus_sample 54 = .ok (.ifCond .eq 14, 3) := by decide +kernel
theorem d_Bus_sample_57 : decode b_Bus_sample 57 = .ok (.iload_n 2, 1) := by decide +kernel
theorem d_Bus_sample_58 : decode b_Bus_sample 58 = .ok (.iconst 0, 1) := by decide +kernel
theorem d_Bus_sample_59 : decode b_Bus_sample 59 = .ok (.ldc_w 265, 3) := by decide +kernel
theorem d_Bus_sample_62 : decode b_Bus_sample 62 = .ok (.invokestatic 115, 3) := by decide +kernel
theorem d_Bus_sample_65 : decode b_Bus_sample 65 = .ok (.ifCond .ne 14, 3) := by decide +kernel
theorem d_Bus_sample_68 : decode b_Bus_sample 68 = .ok (.new 78, 3) := by decide +kernel
theorem d_Bus_sample_71 : decode b_Bus_sample 71 = .ok (.dup, 1) := by decide +kernel
theorem d_Bus_sample_72 : decode b_Bus_sample 72 = .ok (.ldc_w 266, 3) := by decide +kernel
theorem d_Bus_sample_75 : decode b_Bus_sample 75 = .ok (.invokespecial 82, 3) := by decide +kernel
theorem d_Bus_sample_78 : decode b_Bus_sample 78 = .ok (.athrow, 1) := by decide +kernel
theorem d_Bus_sample_79 : decode b_Bus_sample 79 = .ok (.aload_n 0, 1) := by decide +kernel
theorem d_Bus_sample_80 : decode b_Bus_sample 80 = .ok (.getfield 29, 3) := by decide +kernel
theorem d_Bus_sample_83 : decode b_Bus_sample 83 = .ok (.iload_n 1, 1) := by decide +kernel
theorem d_Bus_sample_84 : decode b_Bus_sample 84 = .ok (.aaload, 1) := by decide +kernel
theorem d_Bus_sample_85 : decode b_Bus_sample 85 = .ok (.iload_n 2, 1) := by decide +kernel
theorem d_Bus_sample_86 : decode b_Bus_sample 86 = .ok (.invokevirtual 268, 3) := by decide +kernel
theorem d_Bus_sample_89 : decode b_Bus_sample 89 = .ok (.ifCond .ne 14, 3) := by decide +kernel
theorem d_Bus_sample_92 : decode b_Bus_sample 92 = .ok (.new 89, 3) := by decide +kernel
theorem d_Bus_sample_95 : decode b_Bus_sample 95 = .ok (.dup, 1) := by decide +kernel
theorem d_Bus_sample_96 : decode b_Bus_sample 96 = .ok (.ldc_w 271, 3) := by decide +kernel
theorem d_Bus_sample_99 : decode b_Bus_sample 99 = .ok (.invokespecial 93, 3) := by decide +kernel
theorem d_Bus_sample_102 : decode b_Bus_sample 102 = .ok (.athrow, 1) := by decide +kernel
theorem d_Bus_sample_103 : decode b_Bus_sample 103 = .ok (.aload_n 0, 1) := by decide +kernel
theorem d_Bus_sample_104 : decode b_Bus_sample 104 = .ok (.getfield 29, 3) := by decide +kernel
theorem d_Bus_sample_107 : decode b_Bus_sample 107 = .ok (.iload_n 1, 1) := by decide +kernel
theorem d_Bus_sample_108 : decode b_Bus_sample 108 = .ok (.aaload, 1) := by decide +kernel
theorem d_Bus_sample_109 : decode b_Bus_sample 109 = .ok (.iload_n 2, 1) := by decide +kernel
theorem d_Bus_sample_110 : decode b_Bus_sample 110 = .ok (.dload_n 3, 1) := by decide +kernel
theorem d_Bus_sample_111 : decode b_Bus_sample 111 = .ok (.invokestatic 273, 3) := by decide +kernel
theorem d_Bus_sample_114 : decode b_Bus_sample 114 = .ok (.dload 5, 2) := by decide +kernel
theorem d_Bus_sample_116 : decode b_Bus_sample 116 = .ok (.invokestatic 273, 3) := by decide +kernel
theorem d_Bus_sample_119 : decode b_Bus_sample 119 = .ok (.iload 7, 2) := by decide +kernel
theorem d_Bus_sample_121 : decode b_Bus_sample 121 = .ok (.invokevirtual 277, 3) := by decide +kernel
theorem d_Bus_sample_124 : decode b_Bus_sample 124 = .ok (.aload_n 0, 1) := by decide +kernel
theorem d_Bus_sample_125 : decode b_Bus_sample 125 = .ok (.getfield 29, 3) := by decide +kernel
theorem d_Bus_sample_128 : decode b_Bus_sample 128 = .ok (.iload_n 1, 1) := by decide +kernel
theorem d_Bus_sample_129 : decode b_Bus_sample 129 = .ok (.aaload, 1) := by decide +kernel
theorem d_Bus_sample_130 : decode b_Bus_sample 130 = .ok (.getfield 258, 3) := by decide +kernel
theorem d_Bus_sample_133 : decode b_Bus_sample 133 = .ok (.ireturn, 1) := by decide +kernel
theorem d_Bus_isCoordinate_0 : decode b_Bus_isCoordinate 0 = .ok (.dload_n 0, 1) := by decide +kernel
theorem d_Bus_isCoordinate_1 : decode b_Bus_isCoordinate 1 = .ok (.ldc2_w 299, 3) := by decide +kernel
theorem d_Bus_isCoordinate_4 : decode b_Bus_isCoordinate 4 = .ok (.dcmp .l, 1) := by decide +kernel
theorem d_Bus_isCoordinate_5 : decode b_Bus_isCoordinate 5 = .ok (.ifCond .lt 29, 3) := by decide +kernel
theorem d_Bus_isCoordinate_8 : decode b_Bus_isCoordinate 8 = .ok (.dload_n 0, 1) := by decide +kernel
theorem d_Bus_isCoordinate_9 : decode b_Bus_isCoordinate 9 = .ok (.ldc2_w 301, 3) := by decide +kernel
theorem d_Bus_isCoordinate_12 : decode b_Bus_isCoordinate 12 = .ok (.dcmp .g, 1) := by decide +kernel
theorem d_Bus_isCoordinate_13 : decode b_Bus_isCoordinate 13 = .ok (.ifCond .gt 21, 3) := by decide +kernel
theorem d_Bus_isCoordinate_16 : decode b_Bus_isCoordinate 16 = .ok (.dload_n 0, 1) := by decide +kernel
theorem d_Bus_isCoordinate_17 : decode b_Bus_isCoordinate 17 = .ok (.invokestatic 273, 3) := by decide +kernel
theorem d_Bus_isCoordinate_20 : decode b_Bus_isCoordinate 20 = .ok (.i2d, 1) := by decide +kernel
theorem d_Bus_isCoordinate_21 : decode b_Bus_isCoordinate 21 = .ok (.dload_n 0, 1) := by decide +kernel
theorem d_Bus_isCoordinate_22 : decode b_Bus_isCoordinate 22 = .ok (.ldc2_w 295, 3) := by decide +kernel
theorem d_Bus_isCoordinate_25 : decode b_Bus_isCoordinate 25 = .ok (.dmul, 1) := by decide +kernel
theorem d_Bus_isCoordinate_26 : decode b_Bus_isCoordinate 26 = .ok (.dcmp .l, 1) := by decide +kernel
theorem d_Bus_isCoordinate_27 : decode b_Bus_isCoordinate 27 = .ok (.ifCond .ne 7, 3) := by decide +kernel
theorem d_Bus_isCoordinate_30 : decode b_Bus_isCoordinate 30 = .ok (.iconst 1, 1) := by decide +kernel
theorem d_Bus_isCoordinate_31 : decode b_Bus_isCoordinate 31 = .ok (.goto 4, 3) := by decide +kernel
theorem d_Bus_isCoordinate_34 : decode b_Bus_isCoordinate 34 = .ok (.iconst 0, 1) := by decide +kernel
theorem d_Bus_isCoordinate_35 : decode b_Bus_isCoordinate 35 = .ok (.ireturn, 1) := by decide +kernel
theorem d_Bus_toEighths_0 : decode b_Bus_toEighths 0 = .ok (.dload_n 0, 1) := by decide +kernel
theorem d_Bus_toEighths_1 : decode b_Bus_toEighths 1 = .ok (.ldc2_w 295, 3) := by decide +kernel
theorem d_Bus_toEighths_4 : decode b_Bus_toEighths 4 = .ok (.dmul, 1) := by decide +kernel
theorem d_Bus_toEighths_5 : decode b_Bus_toEighths 5 = .ok (.d2i, 1) := by decide +kernel
theorem d_Bus_toEighths_6 : decode b_Bus_toEighths 6 = .ok (.ireturn, 1) := by decide +kernel
theorem d_Bus_locate_0 : decode b_Bus_locate 0 = .ok (.iload_n 1, 1) := by decide +kernel
theorem d_Bus_locate_1 : decode b_Bus_locate 1 = .ok (.bipush 6, 2) := by decide +kernel
theorem d_Bus_locate_3 : decode b_Bus_locate 3 = .ok (.invokestatic 74, 3) := by decide +kernel
theorem d_Bus_locate_6 : decode b_Bus_locate 6 = .ok (.ifCond .eq 18, 3) := by decide +kernel
theorem d_Bus_locate_9 : decode b_Bus_locate 9 = .ok (.dload_n 3, 1) := by decide +kernel
theorem d_Bus_locate_10 : decode b_Bus_locate 10 = .ok (.invokestatic 261, 3) := by decide +kernel
theorem d_Bus_locate_13 : decode b_Bus_locate 13 = .ok (.ifCond .eq 11, 3) := by decide +kernel
theorem d_Bus_locate_16 : decode b_Bus_locate 16 = .ok (.dload 5, 2) := by decide +kernel
theorem d_Bus_locate_18 : decode b_Bus_locate 18 = .ok (.invokestatic 261, 3) := by decide +kernel
theorem d_Bus_locate_21 : decode b_Bus_locate 21 = .ok (.ifCond .ne 14, 3) := by decide +kernel
theorem d_Bus_locate_24 : decode b_Bus_locate 24 = .ok (.new 78, 3) := by decide +kernel
theorem d_Bus_locate_27 : decode b_Bus_locate 27 = .ok (.dup, 1) := by decide +kernel
theorem d_Bus_locate_28 : decode b_Bus_locate 28 = .ok (.ldc_w 280, 3) := by decide +kernel
theorem d_Bus_locate_31 : decode b_Bus_locate 31 = .ok (.invokespecial 82, 3) := by decide +kernel
theorem d_Bus_locate_34 : decode b_Bus_locate 34 = .ok (.athrow, 1) := by decide +kernel
theorem d_Bus_locate_35 : decode b_Bus_locate 35 = .ok (.aload_n 0, 1) := by decide +kernel
theorem d_Bus_locate_36 : decode b_Bus_locate 36 = .ok (.iconst 0, 1) := by decide +kernel
theorem d_Bus_locate_37 : decode b_Bus_locate 37 = .ok (.iload_n 1, 1) := by decide +kernel
theorem d_Bus_locate_38 : decode b_Bus_locate 38 = .ok (.invokevirtual 250, 3) := by decide +kernel
theorem d_Bus_locate_41 : decode b_Bus_locate 41 = .ok (.ifCond .ne 14, 3) := by decide +kernel
theorem d_Bus_locate_44 : decode b_Bus_locate 44 = .ok (.new 98, 3) := by decide +kernel
theorem d_Bus_locate_47 : decode b_Bus_locate 47 = .ok (.dup, 1) := by decide +kernel
theorem d_Bus_locate_48 : decode b_Bus_locate 48 = .ok (.ldc_w 282, 3) := by decide +kernel
theorem d_Bus_locate_51 : decode b_Bus_locate 51 = .ok (.invokespecial 102, 3) := by decide +kernel
theorem d_Bus_locate_54 : decode b_Bus_locate 54 = .ok (.athrow, 1) := by decide +kernel
theorem d_Bus_locate_55 : decode b_Bus_locate 55 = .ok (.aload_n 0, 1) := by decide +kernel
theorem d_Bus_locate_56 : decode b_Bus_locate 56 = .ok (.getfield 43, 3) := by decide +kernel
theorem d_Bus_locate_59 : decode b_Bus_locate 59 = .ok (.dload_n 3, 1) := by decide +kernel
theorem d_Bus_locate_60 : decode b_Bus_locate 60 = .ok (.invokestatic 273, 3) := by decide +kernel
theorem d_Bus_locate_63 : decode b_Bus_locate 63 = .ok (.putfield 284, 3) := by decide +kernel
theorem d_Bus_locate_66 : decode b_Bus_locate 66 = .ok (.aload_n 0, 1) := by decide +kernel
theorem d_Bus_locate_67 : decode b_Bus_locate 67 = .ok (.getfield 43, 3) := by decide +kernel
theorem d_Bus_locate_70 : decode b_Bus_locate 70 = .ok (.dload 5, 2) := by decide +kernel
theorem d_Bus_locate_72 : decode b_Bus_locate 72 = .ok (.invokestatic 273, 3) := by decide +kernel
theorem d_Bus_locate_75 : decode b_Bus_locate 75 = .ok (.putfield 287, 3) := by decide +kernel
theorem d_Bus_locate_78 : decode b_Bus_locate 78 = .ok (.aload_n 0, 1) := by decide +kernel
theorem d_Bus_locate_79 : decode b_Bus_locate 79 = .ok (.iload_n 1, 1) := by decide +kernel
theorem d_Bus_locate_80 : decode b_Bus_locate 80 = .ok (.iload_n 2, 1) := by decide +kernel
theorem d_Bus_locate_81 : decode b_Bus_locate 81 = .ok (.invokevirtual 290, 3) := by decide +kernel
theorem d_Bus_locate_84 : decode b_Bus_locate 84 = .ok (.ifCond .ne 14, 3) := by decide +kernel
theorem d_Bus_locate_87 : decode b_Bus_locate 87 = .ok (.new 203, 3) := by decide +kernel
theorem d_Bus_locate_90 : decode b_Bus_locate 90 = .ok (.dup, 1) := by decide +kernel
theorem d_Bus_locate_91 : decode b_Bus_locate 91 = .ok (.ldc_w 293, 3) := by decide +kernel
theorem d_Bus_locate_94 : decode b_Bus_locate 94 = .ok (.invokespecial 207, 3) := by decide +kernel
theorem d_Bus_locate_97 : decode b_Bus_locate 97 = .ok (.athrow, 1) := by decide +kernel
theorem d_Bus_locate_98 : decode b_Bus_locate 98 = .ok (.aload_n 0, 1) := by decide +kernel
theorem d_Bus_locate_99 : decode b_Bus_locate 99 = .ok (.aload_n 0, 1) := by decide +kernel
theorem d_Bus_locate_100 : decode b_Bus_locate 100 = .ok (.getfield 43, 3) := by decide +kernel
theorem d_Bus_locate_103 : decode b_Bus_locate 103 = .ok (.getfield 287, 3) := by decide +kernel
theorem d_Bus_locate_106 : decode b_Bus_locate 106 = .ok (.i2d, 1) := by decide +kernel
theorem d_Bus_locate_107 : decode b_Bus_locate 107 = .ok (.ldc2_w 295, 3) := by decide +kernel
theorem d_Bus_locate_110 : decode b_Bus_locate 110 = .ok (.ddiv, 1) := by decide +kernel
theorem d_Bus_locate_111 : decode b_Bus_locate 111 = .ok (.putfield 66, 3) := by decide +kernel
theorem d_Bus_locate_114 : decode b_Bus_locate 114 = .ok (.aload_n 0, 1) := by decide +kernel
theorem d_Bus_locate_115 : decode b_Bus_locate 115 = .ok (.getfield 43, 3) := by decide +kernel
theorem d_Bus_locate_118 : decode b_Bus_locate 118 = .ok (.getfield 284, 3) := by decide +kernel
theorem d_Bus_locate_121 : decode b_Bus_locate 121 = .ok (.i2d, 1) := by decide +kernel
theorem d_Bus_locate_122 : decode b_Bus_locate 122 = .ok (.ldc2_w 295, 3) := by decide +kernel
theorem d_Bus_locate_125 : decode b_Bus_locate 125 = .ok (.ddiv, 1) := by decide +kernel
theorem d_Bus_locate_126 : decode b_Bus_locate 126 = .ok (.dreturn, 1) := by decide +kernel
theorem d_Bus_liftToRoot_0 : decode b_Bus_liftToRoot 0 = .ok (.iload_n 1, 1) := by decide +kernel
theorem d_Bus_liftToRoot_1 : decode b_Bus_liftToRoot 1 = .ok (.istore_n 3, 1) := by decide +kernel
theorem d_Bus_liftToRoot_2 : decode b_Bus_liftToRoot 2 = .ok (.iconst 0, 1) := by decide +kernel
theorem d_Bus_liftToRoot_3 : decode b_Bus_liftToRoot 3 = .ok (.istore 4, 2) := by decide +kernel
theorem d_Bus_liftToRoot_5 : decode b_Bus_liftToRoot 5 = .ok (.iload 4, 2) := by decide +kernel
theorem d_Bus_liftToRoot_7 : decode b_Bus_liftToRoot 7 = .ok (.bipush 6, 2) := by decide +kernel
theorem d_Bus_liftToRoot_9 : decode b_Bus_liftToRoot 9 = .ok (.if_icmp .ge 59, 3) := by decide +kernel
theorem d_Bus_liftToRoot_12 : decode b_Bus_liftToRoot 12 = .ok (.iload_n 3, 1) := by decide +kernel
theorem d_Bus_liftToRoot_13 : decode b_Bus_liftToRoot 13 = .ok (.ifCond .eq 55, 3) := by decide +kernel
theorem d_Bus_liftToRoot_16 : decode b_Bus_liftToRoot 16 = .ok (.aload_n 0, 1) := by decide +kernel
theorem d_Bus_liftToRoot_17 : decode b_Bus_liftToRoot 17 = .ok (.getfield 29, 3) := by decide +kernel
theorem d_Bus_liftToRoot_20 : decode b_Bus_liftToRoot 20 = .ok (.iload_n 3, 1) := by decide +kernel
theorem d_Bus_liftToRoot_21 : decode b_Bus_liftToRoot 21 = .ok (.aaload, 1) := by decide +kernel
theorem d_Bus_liftToRoot_22 : decode b_Bus_liftToRoot 22 = .ok (.iload_n 2, 1) := by decide +kernel
theorem d_Bus_liftToRoot_23 : decode b_Bus_liftToRoot 23 = .ok (.invokevirtual 338, 3) := by decide +kernel
theorem d_Bus_liftToRoot_26 : decode b_Bus_liftToRoot 26 = .ok (.istore 5, 2) := by decide +kernel
theorem d_Bus_liftToRoot_28 : decode b_Bus_liftToRoot 28 = .ok (.iload 5, 2) := by decide +kernel
theorem d_Bus_liftToRoot_30 : decode b_Bus_liftToRoot 30 = .ok (.iconst (-1), 1) := by decide +kernel
theorem d_Bus_liftToRoot_31 : decode b_Bus_liftToRoot 31 = .ok (.if_icmp .ne 5, 3) := by decide +kernel
theorem d_Bus_liftToRoot_34 : decode b_Bus_liftToRoot 34 = .ok (.iconst 0, 1) := by decide +kernel
theorem d_Bus_liftToRoot_35 : decode b_Bus_liftToRoot 35 = .ok (.ireturn, 1) := by decide +kernel
theorem d_Bus_liftToRoot_36 : decode b_Bus_liftToRoot 36 = .ok (.aload_n 0, 1) := by decide +kernel
theorem d_Bus_liftToRoot_37 : decode b_Bus_liftToRoot 37 = .ok (.getfield 43, 3) := by decide +kernel
theorem d_Bus_liftToRoot_40 : decode b_Bus_liftToRoot 40 = .ok (.aload_n 0, 1) := by decide +kernel
theorem d_Bus_liftToRoot_41 : decode b_Bus_liftToRoot 41 = .ok (.getfield 29, 3) := by decide +kernel
theorem d_Bus_liftToRoot_44 : decode b_Bus_liftToRoot 44 = .ok (.iload_n 3, 1) := by decide +kernel
theorem d_Bus_liftToRoot_45 : decode b_Bus_liftToRoot 45 = .ok (.aaload, 1) := by decide +kernel
theorem d_Bus_liftToRoot_46 : decode b_Bus_liftToRoot 46 = .ok (.iload 5, 2) := by decide +kernel
theorem d_Bus_liftToRoot_48 : decode b_Bus_liftToRoot 48 = .ok (.iload_n 2, 1) := by decide +kernel
theorem d_Bus_liftToRoot_49 : decode b_Bus_liftToRoot 49 = .ok (.invokevirtual 341, 3) := by decide +kernel
theorem d_Bus_liftToRoot_52 : decode b_Bus_liftToRoot 52 = .ok (.aload_n 0, 1) := by decide +kernel
theorem d_Bus_liftToRoot_53 : decode b_Bus_liftToRoot 53 = .ok (.getfield 29, 3) := by decide +kernel
theorem d_Bus_liftToRoot_56 : decode b_Bus_liftToRoot 56 = .ok (.iload_n 3, 1) := by decide +kernel
theorem d_Bus_liftToRoot_57 : decode b_Bus_liftToRoot 57 = .ok (.aaload, 1) := by decide +kernel
theorem d_Bus_liftToRoot_58 : decode b_Bus_liftToRoot 58 = .ok (.getfield 255, 3) := by decide +kernel
theorem d_Bus_liftToRoot_61 : decode b_Bus_liftToRoot 61 = .ok (.istore_n 3, 1) := by decide +kernel
theorem d_Bus_liftToRoot_62 : decode b_Bus_liftToRoot 62 = .ok (.iinc 4 1, 3) := by decide +kernel
theorem d_Bus_liftToRoot_65 : decode b_Bus_liftToRoot 65 = .ok (.goto (-60), 3) := by decide +kernel
theorem d_Bus_liftToRoot_68 : decode b_Bus_liftToRoot 68 = .ok (.iconst 1, 1) := by decide +kernel
theorem d_Bus_liftToRoot_69 : decode b_Bus_liftToRoot 69 = .ok (.ireturn, 1) := by decide +kernel
theorem d_Bus_count_0 : decode b_Bus_count 0 = .ok (.iload_n 1, 1) := by decide +kernel
theorem d_Bus_count_1 : decode b_Bus_count 1 = .ok (.tableswitch 92 0 6 #[43, 48, 53, 58, 66, 82, 87], 43) := by decide +kernel
theorem d_Bus_count_44 : decode b_Bus_count 44 = .ok (.aload_n 0, 1) := by decide +kernel
theorem d_Bus_count_45 : decode b_Bus_count 45 = .ok (.getfield 47, 3) := by decide +kernel
theorem d_Bus_count_48 : decode b_Bus_count 48 = .ok (.ireturn, 1) := by decide +kernel
theorem d_Bus_count_49 : decode b_Bus_count 49 = .ok (.aload_n 0, 1) := by decide +kernel
theorem d_Bus_count_50 : decode b_Bus_count 50 = .ok (.getfield 51, 3) := by decide +kernel
theorem d_Bus_count_53 : decode b_Bus_count 53 = .ok (.ireturn, 1) := by decide +kernel
theorem d_Bus_count_54 : decode b_Bus_count 54 = .ok (.aload_n 0, 1) := by decide +kernel
theorem d_Bus_count_55 : decode b_Bus_count 55 = .ok (.getfield 54, 3) := by decide +kernel
theorem d_Bus_count_58 : decode b_Bus_count 58 = .ok (.ireturn, 1) := by decide +kernel
theorem d_Bus_count_59 : decode b_Bus_count 59 = .ok (.aload_n 0, 1) := by decide +kernel
theorem d_Bus_count_60 : decode b_Bus_count 60 = .ok (.getfield 36, 3) := by decide +kernel
theorem d_Bus_count_63 : decode b_Bus_count 63 = .ok (.getfield 238, 3) := by decide +kernel
theorem d_Bus_count_66 : decode b_Bus_count 66 = .ok (.ireturn, 1) := by decide +kernel
theorem d_Bus_count_67 : decode b_Bus_count 67 = .ok (.aload_n 0, 1) := by decide +kernel
theorem d_Bus_count_68 : decode b_Bus_count 68 = .ok (.getfield 36, 3) := by decide +kernel
theorem d_Bus_count_71 : decode b_Bus_count 71 = .ok (.invokevirtual 233, 3) := by decide +kernel
theorem d_Bus_count_74 : decode b_Bus_count 74 = .ok (.ifCond .eq 7, 3) := by decide +kernel
theorem d_Bus_count_77 : decode b_Bus_count 77 = .ok (.iconst 1, 1) := by decide +kernel
theorem d_Bus_count_78 : decode b_Bus_count 78 = .ok (.goto 4, 3) := by decide +kernel
theorem d_Bus_count_81 : decode b_Bus_count 81 = .ok (.iconst 0, 1) := by decide +kernel
theorem d_Bus_count_82 : decode b_Bus_count 82 = .ok (.ireturn, 1) := by decide +kernel
theorem d_Bus_count_83 : decode b_Bus_count 83 = .ok (.aload_n 0, 1) := by decide +kernel
theorem d_Bus_count_84 : decode b_Bus_count 84 = .ok (.getfield 57, 3) := by decide +kernel
theorem d_Bus_count_87 : decode b_Bus_count 87 = .ok (.ireturn, 1) := by decide +kernel
theorem d_Bus_count_88 : decode b_Bus_count 88 = .ok (.aload_n 0, 1) := by decide +kernel
theorem d_Bus_count_89 : decode b_Bus_count 89 = .ok (.getfield 60, 3) := by decide +kernel
theorem d_Bus_count_92 : decode b_Bus_count 92 = .ok (.ireturn, 1) := by decide +kernel
theorem d_Bus_count_93 : decode b_Bus_count 93 = .ok (.new 78, 3) := by decide +kernel
theorem d_Bus_count_96 : decode b_Bus_count 96 = .ok (.dup, 1) := by decide +kernel
theorem d_Bus_count_97 : decode b_Bus_count 97 = .ok (.ldc_w 297, 3) := by decide +kernel
theorem d_Bus_count_100 : decode b_Bus_count 100 = .ok (.invokespecial 82, 3) := by decide +kernel
theorem d_Bus_count_103 : decode b_Bus_count 103 = .ok (.athrow, 1) := by decide +kernel
end
section
theorem d_Mdl_init_0 : decode b_Mdl_init 0 = .ok (.aload_n 0, 1) := by decide +kernel
theorem d_Mdl_init_1 : decode b_Mdl_init 1 = .ok (.invokespecial 1, 3) := by decide +kernel
theorem d_Mdl_init_4 : decode b_Mdl_init 4 = .ok (.aload_n 0, 1) := by decide +kernel
theorem d_Mdl_init_5 : decode b_Mdl_init 5 = .ok (.bipush 6, 2) := by decide +kernel
theorem d_Mdl_init_7 : decode b_Mdl_init 7 = .ok (.newarray .boolean, 2) := by decide +kernel
theorem d_Mdl_init_9 : decode b_Mdl_init 9 = .ok (.putfield 7, 3) := by decide +kernel
theorem d_Mdl_init_12 : decode b_Mdl_init 12 = .ok (.aload_n 0, 1) := by decide +kernel
theorem d_Mdl_init_13 : decode b_Mdl_init 13 = .ok (.bipush 24, 2) := by decide +kernel
theorem d_Mdl_init_15 : decode b_Mdl_init 15 = .ok (.newarray .int, 2) := by decide +kernel
theorem d_Mdl_init_17 : decode b_Mdl_init 17 = .ok (.putfield 13, 3) := by decide +kernel
theorem d_Mdl_init_20 : decode b_Mdl_init 20 = .ok (.aload_n 0, 1) := by decide +kernel
theorem d_Mdl_init_21 : decode b_Mdl_init 21 = .ok (.bipush 6, 2) := by decide +kernel
theorem d_Mdl_init_23 : decode b_Mdl_init 23 = .ok (.newarray .int, 2) := by decide +kernel
theorem d_Mdl_init_25 : decode b_Mdl_init 25 = .ok (.putfield 17, 3) := by decide +kernel
theorem d_Mdl_init_28 : decode b_Mdl_init 28 = .ok (.aload_n 0, 1) := by decide +kernel
theorem d_Mdl_init_29 : decode b_Mdl_init 29 = .ok (.bipush 36, 2) := by decide +kernel
theorem d_Mdl_init_31 : decode b_Mdl_init 31 = .ok (.newarray .int, 2) := by decide +kernel
theorem d_Mdl_init_33 : decode b_Mdl_init 33 = .ok (.putfield 20, 3) := by decide +kernel
theorem d_Mdl_init_36 : decode b_Mdl_init 36 = .ok (.aload_n 0, 1) := by decide +kernel
theorem d_Mdl_init_37 : decode b_Mdl_init 37 = .ok (.bipush 36, 2) := by decide +kernel
theorem d_Mdl_init_39 : decode b_Mdl_init 39 = .ok (.newarray .int, 2) := by decide +kernel
theorem d_Mdl_init_41 : decode b_Mdl_init 41 = .ok (.putfield 23, 3) := by decide +kernel
theorem d_Mdl_init_44 : decode b_Mdl_init 44 = .ok (.aload_n 0, 1) := by decide +kernel
theorem d_Mdl_init_45 : decode b_Mdl_init 45 = .ok (.sipush 144, 3) := by decide +kernel
theorem d_Mdl_init_48 : decode b_Mdl_init 48 = .ok (.newarray .int, 2) := by decide +kernel
theorem d_Mdl_init_50 : decode b_Mdl_init 50 = .ok (.putfield 26, 3) := by decide +kernel
theorem d_Mdl_init_53 : decode b_Mdl_init 53 = .ok (.aload_n 0, 1) := by decide +kernel
theorem d_Mdl_init_54 : decode b_Mdl_init 54 = .ok (.sipush 144, 3) := by decide +kernel
theorem d_Mdl_init_57 : decode b_Mdl_init 57 = .ok (.newarray .int, 2) := by decide +kernel
theorem d_Mdl_init_59 : decode b_Mdl_init 59 = .ok (.putfield 29, 3) := by decide +kernel
theorem d_Mdl_init_62 : decode b_Mdl_init 62 = .ok (.aload_n 0, 1) := by decide +kernel
theorem d_Mdl_init_63 : decode b_Mdl_init 63 = .ok (.sipush 144, 3) := by decide +kernel
theorem d_Mdl_init_66 : decode b_Mdl_init 66 = .ok (.newarray .int, 2) := by decide +kernel
theorem d_Mdl_init_68 : decode b_Mdl_init 68 = .ok (.putfield 32, 3) := by decide +kernel
theorem d_Mdl_init_71 : decode b_Mdl_init 71 = .ok (.aload_n 0, 1) := by decide +kernel
theorem d_Mdl_init_72 : decode b_Mdl_init 72 = .ok (.bipush 36, 2) := by decide +kernel
theorem d_Mdl_init_74 : decode b_Mdl_init 74 = .ok (.newarray .int, 2) := by decide +kernel
theorem d_Mdl_init_76 : decode b_Mdl_init 76 = .ok (.putfield 35, 3) := by decide +kernel
theorem d_Mdl_init_79 : decode b_Mdl_init 79 = .ok (.aload_n 0, 1) := by decide +kernel
theorem d_Mdl_init_80 : decode b_Mdl_init 80 = .ok (.bipush 36, 2) := by decide +kernel
theorem d_Mdl_init_82 : decode b_Mdl_init 82 = .ok (.newarray .int, 2) := by decide +kernel
theorem d_Mdl_init_84 : decode b_Mdl_init 84 = .ok (.putfield 38, 3) := by decide +kernel
theorem d_Mdl_init_87 : decode b_Mdl_init 87 = .ok (.aload_n 0, 1) := by decide +kernel
theorem d_Mdl_init_88 : decode b_Mdl_init 88 = .ok (.bipush 36, 2) := by decide +kernel
theorem d_Mdl_init_90 : decode b_Mdl_init 90 = .ok (.newarray .int, 2) := by decide +kernel
theorem d_Mdl_init_92 : decode b_Mdl_init 92 = .ok (.putfield 41, 3) := by decide +kernel
theorem d_Mdl_init_95 : decode b_Mdl_init 95 = .ok (.aload_n 0, 1) := by decide +kernel
theorem d_Mdl_init_96 : decode b_Mdl_init 96 = .ok (.bipush 6, 2) := by decide +kernel
theorem d_Mdl_init_98 : decode b_Mdl_init 98 = .ok (.newarray .boolean, 2) := by decide +kernel
theorem d_Mdl_init_100 : decode b_Mdl_init 100 = .ok (.putfield 44, 3) := by decide +kernel
theorem d_Mdl_init_103 : decode b_Mdl_init 103 = .ok (.aload_n 0, 1) := by decide +kernel
theorem d_Mdl_init_104 : decode b_Mdl_init 104 = .ok (.bipush 6, 2) := by decide +kernel
theorem d_Mdl_init_106 : decode b_Mdl_init 106 = .ok (.newarray .boolean, 2) := by decide +kernel
theorem d_Mdl_init_108 : decode b_Mdl_init 108 = .ok (.putfield 47, 3) := by decide +kernel
theorem d_Mdl_init_111 : decode b_Mdl_init 111 = .ok (.aload_n 0, 1) := by decide +kernel
theorem d_Mdl_init_112 : decode b_Mdl_init 112 = .ok (.bipush 6, 2) := by decide +kernel
theorem d_Mdl_init_114 : decode b_Mdl_init 114 = .ok (.newarray .int, 2) := by decide +kernel
theorem d_Mdl_init_116 : decode b_Mdl_init 116 = .ok (.putfield 50, 3) := by decide +kernel
theorem d_Mdl_init_119 : decode b_Mdl_init 119 = .ok (.aload_n 0, 1) := by decide +kernel
theorem d_Mdl_init_120 : decode b_Mdl_init 120 = .ok (.bipush 6, 2) := by decide +kernel
theorem d_Mdl_init_122 : decode b_Mdl_init 122 = .ok (.newarray .int, 2) := by decide +kernel
theorem d_Mdl_init_124 : decode b_Mdl_init 124 = .ok (.putfield 53, 3) := by decide +kernel
theorem d_Mdl_init_127 : decode b_Mdl_init 127 = .ok (.aload_n 0, 1) := by decide +kernel
theorem d_Mdl_init_128 : decode b_Mdl_init 128 = .ok (.bipush 6, 2) := by decide +kernel
theorem d_Mdl_init_130 : decode b_Mdl_init 130 = .ok (.newarray .int, 2) := by decide +kernel
theorem d_Mdl_init_132 : decode b_Mdl_init 132 = .ok (.putfield 56, 3) := by decide +kernel
theorem d_Mdl_init_135 : decode b_Mdl_init 135 = .ok (.aload_n 0, 1) := by decide +kernel
theorem d_Mdl_init_136 : decode b_Mdl_init 136 = .ok (.bipush 6, 2) := by decide +kernel
theorem d_Mdl_init_138 : decode b_Mdl_init 138 = .ok (.newarray .boolean, 2) := by decide +kernel
theorem d_Mdl_init_140 : decode b_Mdl_init 140 = .ok (.putfield 59, 3) := by decide +kernel
theorem d_Mdl_init_143 : decode b_Mdl_init 143 = .ok (.aload_n 0, 1) := by decide +kernel
theorem d_Mdl_init_144 : decode b_Mdl_init 144 = .ok (.iconst 4, 1) := by decide +kernel
theorem d_Mdl_init_145 : decode b_Mdl_init 145 = .ok (.newarray .int, 2) := by decide +kernel
theorem d_Mdl_init_147 : decode b_Mdl_init 147 = .ok (.dup, 1) := by decide +kernel
theorem d_Mdl_init_148 : decode b_Mdl_init 148 = .ok (.iconst 0, 1) := by decide +kernel
theorem d_Mdl_init_149 : decode b_Mdl_init 149 = .ok (.iconst (-1), 1) := by decide +kernel
theorem d_Mdl_init_150 : decode b_Mdl_init 150 = .ok (.iastore, 1) := by decide +kernel
theorem d_Mdl_init_151 : decode b_Mdl_init 151 = .ok (.dup, 1) := by decide +kernel
theorem d_Mdl_init_152 : decode b_Mdl_init 152 = .ok (.iconst 1, 1) := by decide +kernel
theorem d_Mdl_init_153 : decode b_Mdl_init 153 = .ok (.iconst (-1), 1) := by decide +kernel
theorem d_Mdl_init_154 : decode b_Mdl_init 154 = .ok (.iastore, 1) := by decide +kernel
theorem d_Mdl_init_155 : decode b_Mdl_init 155 = .ok (.dup, 1) := by decide +kernel
theorem d_Mdl_init_156 : decode b_Mdl_init 156 = .ok (.iconst 2, 1) := by decide +kernel
theorem d_Mdl_init_157 : decode b_Mdl_init 157 = .ok (.iconst (-1), 1) := by decide +kernel
theorem d_Mdl_init_158 : decode b_Mdl_init 158 = .ok (.iastore, 1) := by decide +kernel
theorem d_Mdl_init_159 : decode b_Mdl_init 159 = .ok (.dup, 1) := by decide +kernel
theorem d_Mdl_init_160 : decode b_Mdl_init 160 = .ok (.iconst 3, 1) := by decide +kernel
theorem d_Mdl_init_161 : decode b_Mdl_init 161 = .ok (.iconst (-1), 1) := by decide +kernel
theorem d_Mdl_init_162 : decode b_Mdl_init 162 = .ok (.iastore, 1) := by decide +kernel
theorem d_Mdl_init_163 : decode b_Mdl_init 163 = .ok (.putfield 62, 3) := by decide +kernel
theorem d_Mdl_init_166 : decode b_Mdl_init 166 = .ok (.aload_n 0, 1) := by decide +kernel
theorem d_Mdl_init_167 : decode b_Mdl_init 167 = .ok (.iconst 4, 1) := by decide +kernel
theorem d_Mdl_init_168 : decode b_Mdl_init 168 = .ok (.newarray .int, 2) := by decide +kernel
theorem d_Mdl_init_170 : decode b_Mdl_init 170 = .ok (.putfield 65, 3) := by decide +kernel
theorem d_Mdl_init_173 : decode b_Mdl_init 173 = .ok (.aload_n 0, 1) := by decide +kernel
theorem d_Mdl_init_174 : decode b_Mdl_init 174 = .ok (.iconst 4, 1) := by decide +kernel
theorem d_Mdl_init_175 : decode b_Mdl_init 175 = .ok (.newarray .int, 2) := by decide +kernel
theorem d_Mdl_init_177 : decode b_Mdl_init 177 = .ok (.putfield 68, 3) := by decide +kernel
theorem d_Mdl_init_180 : decode b_Mdl_init 180 = .ok (.aload_n 0, 1) := by decide +kernel
theorem d_Mdl_init_181 : decode b_Mdl_init 181 = .ok (.iconst 4, 1) := by decide +kernel
theorem d_Mdl_init_182 : decode b_Mdl_init 182 = .ok (.newarray .int, 2) := by decide +kernel
theorem d_Mdl_init_184 : decode b_Mdl_init 184 = .ok (.putfield 71, 3) := by decide +kernel
theorem d_Mdl_init_187 : decode b_Mdl_init 187 = .ok (.aload_n 0, 1) := by decide +kernel
theorem d_Mdl_init_188 : decode b_Mdl_init 188 = .ok (.bipush 30, 2) := by decide +kernel
theorem d_Mdl_init_190 : decode b_Mdl_init 190 = .ok (.newarray .int, 2) := by decide +kernel
theorem d_Mdl_init_192 : decode b_Mdl_init 192 = .ok (.putfield 74, 3) := by decide +kernel
theorem d_Mdl_init_195 : decode b_Mdl_init 195 = .ok (.aload_n 0, 1) := by decide +kernel
theorem d_Mdl_init_196 : decode b_Mdl_init 196 = .ok (.bipush 30, 2) := by decide +kernel
theorem d_Mdl_init_198 : decode b_Mdl_init 198 = .ok (.newarray .int, 2) := by decide +kernel
theorem d_Mdl_init_200 : decode b_Mdl_init 200 = .ok (.putfield 77, 3) := by decide +kernel
theorem d_Mdl_init_203 : decode b_Mdl_init 203 = .ok (.aload_n 0, 1) := by decide +kernel
theorem d_Mdl_init_204 : decode b_Mdl_init 204 = .ok (.bipush 30, 2) := by decide +kernel
theorem d_Mdl_init_206 : decode b_Mdl_init 206 = .ok (.newarray .int, 2) := by decide +kernel
theorem d_Mdl_init_208 : decode b_Mdl_init 208 = .ok (.putfield 80, 3) := by decide +kernel
theorem d_Mdl_init_211 : decode b_Mdl_init 211 = .ok (.aload_n 0, 1) := by decide +kernel
theorem d_Mdl_init_212 : decode b_Mdl_init 212 = .ok (.bipush 6, 2) := by decide +kernel
theorem d_Mdl_init_214 : decode b_Mdl_init 214 = .ok (.newarray .int, 2) := by decide +kernel
theorem d_Mdl_init_216 : decode b_Mdl_init 216 = .ok (.dup, 1) := by decide +kernel
theorem d_Mdl_init_217 : decode b_Mdl_init 217 = .ok (.iconst 0, 1) := by decide +kernel
theorem d_Mdl_init_218 : decode b_Mdl_init 218 = .ok (.iconst (-1), 1) := by decide +kernel
theorem d_Mdl_init_219 : decode b_Mdl_init 219 = .ok (.iastore, 1) := by decide +kernel
theorem d_Mdl_init_220 : decode b_Mdl_init 220 = .ok (.dup, 1) := by decide +kernel
theorem d_Mdl_init_221 : decode b_Mdl_init 221 = .ok (.iconst 1, 1) := by decide +kernel
theorem d_Mdl_init_222 : decode b_Mdl_init 222 = .ok (.iconst (-1), 1) := by decide +kernel
theorem d_Mdl_init_223 : decode b_Mdl_init 223 = .ok (.iastore, 1) := by decide +kernel
theorem d_Mdl_init_224 : decode b_Mdl_init 224 = .ok (.dup, 1) := by decide +kernel
theorem d_Mdl_init_225 : decode b_Mdl_init 225 = .ok (.iconst 2, 1) := by decide +kernel
theorem d_Mdl_init_226 : decode b_Mdl_init 226 = .ok (.iconst (-1), 1) := by decide +kernel
theorem d_Mdl_init_227 : decode b_Mdl_init 227 = .ok (.iastore, 1) := by decide +kernel
theorem d_Mdl_init_228 : decode b_Mdl_init 228 = .ok (.dup, 1) := by decide +kernel
theorem d_Mdl_init_229 : decode b_Mdl_init 229 = .ok (.iconst 3, 1) := by decide +kernel
theorem d_Mdl_init_230 : decode b_Mdl_init 230 = .ok (.iconst (-1), 1) := by decide +kernel
theorem d_Mdl_init_231 : decode b_Mdl_init 231 = .ok (.iastore, 1) := by decide +kernel
theorem d_Mdl_init_232 : decode b_Mdl_init 232 = .ok (.dup, 1) := by decide +kernel
theorem d_Mdl_init_233 : decode b_Mdl_init 233 = .ok (.iconst 4, 1) := by decide +kernel
theorem d_Mdl_init_234 : decode b_Mdl_init 234 = .ok (.iconst (-1), 1) := by decide +kernel
theorem d_Mdl_init_235 : decode b_Mdl_init 235 = .ok (.iastore, 1) := by decide +kernel
theorem d_Mdl_init_236 : decode b_Mdl_init 236 = .ok (.dup, 1) := by decide +kernel
theorem d_Mdl_init_237 : decode b_Mdl_init 237 = .ok (.iconst 5, 1) := by decide +kernel
theorem d_Mdl_init_238 : decode b_Mdl_init 238 = .ok (.iconst (-1), 1) := by decide +kernel
theorem d_Mdl_init_239 : decode b_Mdl_init 239 = .ok (.iastore, 1) := by decide +kernel
theorem d_Mdl_init_240 : decode b_Mdl_init 240 = .ok (.putfield 83, 3) := by decide +kernel
theorem d_Mdl_init_243 : decode b_Mdl_init 243 = .ok (.aload_n 0, 1) := by decide +kernel
theorem d_Mdl_init_244 : decode b_Mdl_init 244 = .ok (.bipush 6, 2) := by decide +kernel
theorem d_Mdl_init_246 : decode b_Mdl_init 246 = .ok (.newarray .int, 2) := by decide +kernel
theorem d_Mdl_init_248 : decode b_Mdl_init 248 = .ok (.putfield 86, 3) := by decide +kernel
theorem d_Mdl_init_251 : decode b_Mdl_init 251 = .ok (.aload_n 0, 1) := by decide +kernel
theorem d_Mdl_init_252 : decode b_Mdl_init 252 = .ok (.bipush 24, 2) := by decide +kernel
theorem d_Mdl_init_254 : decode b_Mdl_init 254 = .ok (.newarray .int, 2) := by decide +kernel
theorem d_Mdl_init_256 : decode b_Mdl_init 256 = .ok (.putfield 89, 3) := by decide +kernel
theorem d_Mdl_init_259 : decode b_Mdl_init 259 = .ok (.aload_n 0, 1) := by decide +kernel
theorem d_Mdl_init_260 : decode b_Mdl_init 260 = .ok (.bipush 24, 2) := by decide +kernel
theorem d_Mdl_init_262 : decode b_Mdl_init 262 = .ok (.newarray .long, 2) := by decide +kernel
theorem d_Mdl_init_264 : decode b_Mdl_init 264 = .ok (.putfield 92, 3) := by decide +kernel
theorem d_Mdl_init_267 : decode b_Mdl_init 267 = .ok (.aload_n 0, 1) := by decide +kernel
theorem d_Mdl_init_268 : decode b_Mdl_init 268 = .ok (.bipush 24, 2) := by decide +kernel
theorem d_Mdl_init_270 : decode b_Mdl_init 270 = .ok (.newarray .long, 2) := by decide +kernel
theorem d_Mdl_init_272 : decode b_Mdl_init 272 = .ok (.putfield 96, 3) := by decide +kernel
theorem d_Mdl_init_275 : decode b_Mdl_init 275 = .ok (.aload_n 0, 1) := by decide +kernel
theorem d_Mdl_init_276 : decode b_Mdl_init 276 = .ok (.bipush 24, 2) := by decide +kernel
theorem d_Mdl_init_278 : decode b_Mdl_init 278 = .ok (.newarray .int, 2) := by decide +kernel
theorem d_Mdl_init_280 : decode b_Mdl_init 280 = .ok (.putfield 99, 3) := by decide +kernel
theorem d_Mdl_init_283 : decode b_Mdl_init 283 = .ok (.iconst 0, 1) := by decide +kernel
theorem d_Mdl_init_284 : decode b_Mdl_init 284 = .ok (.istore_n 1, 1) := by decide +kernel
theorem d_Mdl_init_285 : decode b_Mdl_init 285 = .ok (.iload_n 1, 1) := by decide +kernel
theorem d_Mdl_init_286 : decode b_Mdl_init 286 = .ok (.bipush 36, 2) := by decide +kernel
theorem d_Mdl_init_288 : decode b_Mdl_init 288 = .ok (.if_icmp .ge 16, 3) := by decide +kernel
theorem d_Mdl_init_291 : decode b_Mdl_init 291 = .ok (.aload_n 0, 1) := by decide +kernel
theorem d_Mdl_init_292 : decode b_Mdl_init 292 = .ok (.getfield 35, 3) := by decide +kernel
theorem d_Mdl_init_295 : decode b_Mdl_init 295 = .ok (.iload_n 1, 1) := by decide +kernel
theorem d_Mdl_init_296 : decode b_Mdl_init 296 = .ok (.iconst (-1), 1) := by decide +kernel
theorem d_Mdl_init_297 : decode b_Mdl_init 297 = .ok (.iastore, 1) := by decide +kernel
theorem d_Mdl_init_298 : decode b_Mdl_init 298 = .ok (.iinc 1 1, 3) := by decide +kernel
theorem d_Mdl_init_301 : decode b_Mdl_init 301 = .ok (.goto (-16), 3) := by decide +kernel
theorem d_Mdl_init_304 : decode b_Mdl_init 304 = .ok (.return_, 1) := by decide +kernel
theorem d_Mdl_thrown_0 : decode b_Mdl_thrown 0 = .ok (.aload_n 0, 1) := by decide +kernel
theorem d_Mdl_thrown_1 : decode b_Mdl_thrown 1 = .ok (.getfield 102, 3) := by decide +kernel
theorem d_Mdl_thrown_4 : decode b_Mdl_thrown 4 = .ok (.ireturn, 1) := by decide +kernel
theorem d_Mdl_join_0 : decode b_Mdl_join 0 = .ok (.aload_n 0, 1) := by decide +kernel
theorem d_Mdl_join_1 : decode b_Mdl_join 1 = .ok (.iconst 0, 1) := by decide +kernel
theorem d_Mdl_join_2 : decode b_Mdl_join 2 = .ok (.putfield 102, 3) := by decide +kernel
theorem d_Mdl_join_5 : decode b_Mdl_join 5 = .ok (.iload_n 1, 1) := by decide +kernel
theorem d_Mdl_join_6 : decode b_Mdl_join 6 = .ok (.iconst 0, 1) := by decide +kernel
theorem d_Mdl_join_7 : decode b_Mdl_join 7 = .ok (.iconst 5, 1) := by decide +kernel
theorem d_Mdl_join_8 : decode b_Mdl_join 8 = .ok (.invokestatic 106, 3) := by decide +kernel
theorem d_Mdl_join_11 : decode b_Mdl_join 11 = .ok (.ifCond .ne 9, 3) := by decide +kernel
theorem d_Mdl_join_14 : decode b_Mdl_join 14 = .ok (.aload_n 0, 1) := by decide +kernel
theorem d_Mdl_join_15 : decode b_Mdl_join 15 = .ok (.iconst 1, 1) := by decide +kernel
theorem d_Mdl_join_16 : decode b_Mdl_join 16 = .ok (.invokevirtual 110, 3) := by decide +kernel
theorem d_Mdl_join_19 : decode b_Mdl_join 19 = .ok (.ireturn, 1) := by decide +kernel
theorem d_Mdl_join_20 : decode b_Mdl_join 20 = .ok (.aload_n 0, 1) := by decide +kernel
theorem d_Mdl_join_21 : decode b_Mdl_join 21 = .ok (.getfield 7, 3) := by decide +kernel
theorem d_Mdl_join_24 : decode b_Mdl_join 24 = .ok (.iload_n 1, 1) := by decide +kernel
theorem d_Mdl_join_25 : decode b_Mdl_join 25 = .ok (.baload, 1) := by decide +kernel
theorem d_Mdl_join_26 : decode b_Mdl_join 26 = .ok (.ifCond .eq 9, 3) := by decide +kernel
theorem d_Mdl_join_29 : decode b_Mdl_join 29 = .ok (.aload_n 0, 1) := by decide +kernel
theorem d_Mdl_join_30 : decode b_Mdl_join 30 = .ok (.iconst 2, 1) := by decide +kernel
theorem d_Mdl_join_31 : decode b_Mdl_join 31 = .ok (.invokevirtual 110, 3) := by decide +kernel
theorem d_Mdl_join_34 : decode b_Mdl_join 34 = .ok (.ireturn, 1) := by decide +kernel
theorem d_Mdl_join_35 : decode b_Mdl_join 35 = .ok (.aload_n 0, 1) := by decide +kernel
theorem d_Mdl_join_36 : decode b_Mdl_join 36 = .ok (.getfield 7, 3) := by decide +kernel
theorem d_Mdl_join_39 : decode b_Mdl_join 39 = .ok (.iload_n 1, 1) := by decide +kernel
theorem d_Mdl_join_40 : decode b_Mdl_join 40 = .ok (.iconst 1, 1) := by decide +kernel
theorem d_Mdl_join_41 : decode b_Mdl_join 41 = .ok (.bastore, 1) := by decide +kernel
theorem d_Mdl_join_42 : decode b_Mdl_join 42 = .ok (.aload_n 0, 1) := by decide +kernel
theorem d_Mdl_join_43 : decode b_Mdl_join 43 = .ok (.getfield 17, 3) := by decide +kernel
theorem d_Mdl_join_46 : decode b_Mdl_join 46 = .ok (.iload_n 1, 1) := by decide +kernel
theorem d_Mdl_join_47 : decode b_Mdl_join 47 = .ok (.iconst 5, 1) := by decide +kernel
theorem d_Mdl_join_48 : decode b_Mdl_join 48 = .ok (.iastore, 1) := by decide +kernel
theorem d_Mdl_join_49 : decode b_Mdl_join 49 = .ok (.iconst 0, 1) := by decide +kernel
theorem d_Mdl_join_50 : decode b_Mdl_join 50 = .ok (.istore_n 2, 1) := by decide +kernel
theorem d_Mdl_join_51 : decode b_Mdl_join 51 = .ok (.iload_n 2, 1) := by decide +kernel
theorem d_Mdl_join_52 : decode b_Mdl_join 52 = .ok (.iconst 4, 1) := by decide +kernel
theorem d_Mdl_join_53 : decode b_Mdl_join 53 = .ok (.if_icmp .ge 20, 3) := by decide +kernel
theorem d_Mdl_join_56 : decode b_Mdl_join 56 = .ok (.aload_n 0, 1) := by decide +kernel
theorem d_Mdl_join_57 : decode b_Mdl_join 57 = .ok (.getfield 13, 3) := by decide +kernel
theorem d_Mdl_join_60 : decode b_Mdl_join 60 = .ok (.iconst 4, 1) := by decide +kernel
theorem d_Mdl_join_61 : decode b_Mdl_join 61 = .ok (.iload_n 1, 1) := by decide +kernel
theorem d_Mdl_join_62 : decode b_Mdl_join 62 = .ok (.imul, 1) := by decide +kernel
theorem d_Mdl_join_63 : decode b_Mdl_join 63 = .ok (.iload_n 2, 1) := by decide +kernel
theorem d_Mdl_join_64 : decode b_Mdl_join 64 = .ok (.iadd, 1) := by decide +kernel
theorem d_Mdl_join_65 : decode b_Mdl_join 65 = .ok (.iconst 0, 1) := by decide +kernel
theorem d_Mdl_join_66 : decode b_Mdl_join 66 = .ok (.iastore, 1) := by decide +kernel
theorem d_Mdl_join_67 : decode b_Mdl_join 67 = .ok (.iinc 2 1, 3) := by decide +kernel
theorem d_Mdl_join_70 : decode b_Mdl_join 70 = .ok (.goto (-19), 3) := by decide +kernel
theorem d_Mdl_join_73 : decode b_Mdl_join 73 = .ok (.iconst 1, 1) := by decide +kernel
theorem d_Mdl_join_74 : decode b_Mdl_join 74 = .ok (.ireturn, 1) := by decide +kernel
theorem d_Mdl_in_0 : decode b_Mdl_in 0 = .ok (.iload_n 0, 1) := by decide +kernel
theorem d_Mdl_in_1 : decode b_Mdl_in 1 = .ok (.iload_n 1, 1) := by decide +kernel
theorem d_Mdl_in_2 : decode b_Mdl_in 2 = .ok (.if_icmp .lt 12, 3) := by decide +kernel
theorem d_Mdl_in_5 : decode b_Mdl_in 5 = .ok (.iload_n 0, 1) := by decide +kernel
theorem d_Mdl_in_6 : decode b_Mdl_in 6 = .ok (.iload_n 2, 1) := by decide +kernel
theorem d_Mdl_in_7 : decode b_Mdl_in 7 = .ok (.if_icmp .gt 7, 3) := by decide +kernel
theorem d_Mdl_in_10 : decode b_Mdl_in 10 = .ok (.iconst 1, 1) := by decide +kernel
theorem d_Mdl_in_11 : decode b_Mdl_in 11 = .ok (.goto 4, 3) := by decide +kernel
theorem d_Mdl_in_14 : decode b_Mdl_in 14 = .ok (.iconst 0, 1) := by decide +kernel
theorem d_Mdl_in_15 : decode b_Mdl_in 15 = .ok (.ireturn, 1) := by decide +kernel
theorem d_Mdl_raise_0 : decode b_Mdl_raise 0 = .ok (.aload_n 0, 1) := by decide +kernel
theorem d_Mdl_raise_1 : decode b_Mdl_raise 1 = .ok (.iload_n 1, 1) := by decide +kernel
theorem d_Mdl_raise_2 : decode b_Mdl_raise 2 = .ok (.putfield 102, 3) := by decide +kernel
theorem d_Mdl_raise_5 : decode b_Mdl_raise 5 = .ok (.iconst 0, 1) := by decide +kernel
theorem d_Mdl_raise_6 : decode b_Mdl_raise 6 = .ok (.ireturn, 1) := by decide +kernel
theorem d_Mdl_leave_0 : decode b_Mdl_leave 0 = .ok (.aload_n 0, 1) := by decide +kernel
theorem d_Mdl_leave_1 : decode b_Mdl_leave 1 = .ok (.iconst 0, 1) := by decide +kernel
theorem d_Mdl_leave_2 : decode b_Mdl_leave 2 = .ok (.putfield 102, 3) := by decide +kernel
theorem d_Mdl_leave_5 : decode b_Mdl_leave 5 = .ok (.aload_n 0, 1) := by decide +kernel
theorem d_Mdl_leave_6 : decode b_Mdl_leave 6 = .ok (.iload_n 1, 1) := by decide +kernel
theorem d_Mdl_leave_7 : decode b_Mdl_leave 7 = .ok (.invokevirtual 114, 3) := by decide +kernel
theorem d_Mdl_leave_10 : decode b_Mdl_leave 10 = .ok (.ifCond .eq 9, 3) := by decide +kernel
theorem d_Mdl_leave_13 : decode b_Mdl_leave 13 = .ok (.aload_n 0, 1) := by decide +kernel
theorem d_Mdl_leave_14 : decode b_Mdl_leave 14 = .ok (.iconst 1, 1) := by decide +kernel
theorem d_Mdl_leave_15 : decode b_Mdl_leave 15 = .ok (.invokevirtual 110, 3) := by decide +kernel
theorem d_Mdl_leave_18 : decode b_Mdl_leave 18 = .ok (.ireturn, 1) := by decide +kernel
theorem d_Mdl_leave_19 : decode b_Mdl_leave 19 = .ok (.iconst 0, 1) := by decide +kernel
theorem d_Mdl_leave_20 : decode b_Mdl_leave 20 = .ok (.istore_n 2, 1) := by decide +kernel
theorem d_Mdl_leave_21 : decode b_Mdl_leave 21 = .ok (.bipush 6, 2) := by decide +kernel
theorem d_Mdl_leave_23 : decode b_Mdl_leave 23 = .ok (.iload_n 1, 1) := by decide +kernel
theorem d_Mdl_leave_24 : decode b_Mdl_leave 24 = .ok (.imul, 1) := by decide +kernel
theorem d_Mdl_leave_25 : decode b_Mdl_leave 25 = .ok (.istore_n 3, 1) := by decide +kernel
theorem d_Mdl_leave_26 : decode b_Mdl_leave 26 = .ok (.iload_n 3, 1) := by decide +kernel
theorem d_Mdl_leave_27 : decode b_Mdl_leave 27 = .ok (.bipush 6, 2) := by decide +kernel
theorem d_Mdl_leave_29 : decode b_Mdl_leave 29 = .ok (.iload_n 1, 1) := by decide +kernel
theorem d_Mdl_leave_30 : decode b_Mdl_leave 30 = .ok (.imul, 1) := by decide +kernel
theorem d_Mdl_leave_31 : decode b_Mdl_leave 31 = .ok (.bipush 6, 2) := by decide +kernel
theorem d_Mdl_leave_33 : decode b_Mdl_leave 33 = .ok (.iadd, 1) := by decide +kernel
theorem d_Mdl_leave_34 : decode b_Mdl_leave 34 = .ok (.if_icmp .ge 39, 3) := by decide +kernel
theorem d_Mdl_leave_37 : decode b_Mdl_leave 37 = .ok (.iload_n 2, 1) := by decide +kernel
theorem d_Mdl_leave_38 : decode b_Mdl_leave 38 = .ok (.aload_n 0, 1) := by decide +kernel
theorem d_Mdl_leave_39 : decode b_Mdl_leave 39 = .ok (.getfield 23, 3) := by decide +kernel
theorem d_Mdl_leave_42 : decode b_Mdl_leave 42 = .ok (.iload_n 3, 1) := by decide +kernel
theorem d_Mdl_leave_43 : decode b_Mdl_leave 43 = .ok (.iaload, 1) := by decide +kernel
theorem d_Mdl_leave_44 : decode b_Mdl_leave 44 = .ok (.iadd, 1) := by decide +kernel
theorem d_Mdl_leave_45 : decode b_Mdl_leave 45 = .ok (.istore_n 2, 1) := by decide +kernel
theorem d_Mdl_leave_46 : decode b_Mdl_leave 46 = .ok (.aload_n 0, 1) := by decide +kernel
theorem d_Mdl_leave_47 : decode b_Mdl_leave 47 = .ok (.getfield 23, 3) := by decide +kernel
theorem d_Mdl_leave_50 : decode b_Mdl_leave 50 = .ok (.iload_n 3, 1) := by decide +kernel
theorem d_Mdl_leave_51 : decode b_Mdl_leave 51 = .ok (.iconst 0, 1) := by decide +kernel
theorem d_Mdl_leave_52 : decode b_Mdl_leave 52 = .ok (.iastore, 1) := by decide +kernel
theorem d_Mdl_leave_53 : decode b_Mdl_leave 53 = .ok (.aload_n 0, 1) := by decide +kernel
theorem d_Mdl_leave_54 : decode b_Mdl_leave 54 = .ok (.getfield 20, 3) := by decide +kernel
theorem d_Mdl_leave_57 : decode b_Mdl_leave 57 = .ok (.iload_n 3, 1) := by decide +kernel
theorem d_Mdl_leave_58 : decode b_Mdl_leave 58 = .ok (.iconst 0, 1) := by decide +kernel
theorem d_Mdl_leave_59 : decode b_Mdl_leave 59 = .ok (.iastore, 1) := by decide +kernel
theorem d_Mdl_leave_60 : decode b_Mdl_leave 60 = .ok (.aload_n 0, 1) := by decide +kernel
theorem d_Mdl_leave_61 : decode b_Mdl_leave 61 = .ok (.getfield 35, 3) := by decide +kernel
theorem d_Mdl_leave_64 : decode b_Mdl_leave 64 = .ok (.iload_n 3, 1) := by decide +kernel
theorem d_Mdl_leave_65 : decode b_Mdl_leave 65 = .ok (.iconst (-1), 1) := by decide +kernel
theorem d_Mdl_leave_66 : decode b_Mdl_leave 66 = .ok (.iastore, 1) := by decide +kernel
theorem d_Mdl_leave_67 : decode b_Mdl_leave 67 = .ok (.iinc 3 1, 3) := by decide +kernel
theorem d_Mdl_leave_70 : decode b_Mdl_leave 70 = .ok (.goto (-44), 3) := by decide +kernel
theorem d_Mdl_leave_73 : decode b_Mdl_leave 73 = .ok (.iconst 0, 1) := by decide +kernel
theorem d_Mdl_leave_74 : decode b_Mdl_leave 74 = .ok (.istore_n 3, 1) := by decide +kernel
theorem d_Mdl_leave_75 : decode b_Mdl_leave 75 = .ok (.iload_n 3, 1) := by decide +kernel
theorem d_Mdl_leave_76 : decode b_Mdl_leave 76 = .ok (.iconst 4, 1) := by decide +kernel
theorem d_Mdl_leave_77 : decode b_Mdl_leave 77 = .ok (.if_icmp .ge 26, 3) := by decide +kernel
theorem d_Mdl_leave_80 : decode b_Mdl_leave 80 = .ok (.aload_n 0, 1) := by decide +kernel
theorem d_Mdl_leave_81 : decode b_Mdl_leave 81 = .ok (.getfield 62, 3) := by decide +kernel
theorem d_Mdl_leave_84 : decode b_Mdl_leave 84 = .ok (.iload_n 3, 1) := by decide +kernel
theorem d_Mdl_leave_85 : decode b_Mdl_leave 85 = .ok (.iaload, 1) := by decide +kernel
theorem d_Mdl_leave_86 : decode b_Mdl_leave 86 = .ok (.iload_n 1, 1) := by decide +kernel
theorem d_Mdl_leave_87 : decode b_Mdl_leave 87 = .ok (.if_icmp .ne 10, 3) := by decide +kernel
theorem d_Mdl_leave_90 : decode b_Mdl_leave 90 = .ok (.aload_n 0, 1) := by decide +kernel
theorem d_Mdl_leave_91 : decode b_Mdl_leave 91 = .ok (.getfield 62, 3) := by decide +kernel
theorem d_Mdl_leave_94 : decode b_Mdl_leave 94 = .ok (.iload_n 3, 1) := by decide +kernel
theorem d_Mdl_leave_95 : decode b_Mdl_leave 95 = .ok (.iconst (-1), 1) := by decide +kernel
theorem d_Mdl_leave_96 : decode b_Mdl_leave 96 = .ok (.iastore, 1) := by decide +kernel
theorem d_Mdl_leave_97 : decode b_Mdl_leave 97 = .ok (.iinc 3 1, 3) := by decide +kernel
theorem d_Mdl_leave_100 : decode b_Mdl_leave 100 = .ok (.goto (-25), 3) := by decide +kernel
theorem d_Mdl_leave_103 : decode b_Mdl_leave 103 = .ok (.aload_n 0, 1) := by decide +kernel
theorem d_Mdl_leave_104 : decode b_Mdl_leave 104 = .ok (.getfield 7, 3) := by decide +kernel
theorem d_Mdl_leave_107 : decode b_Mdl_leave 107 = .ok (.iload_n 1, 1) := by decide +kernel
theorem d_Mdl_leave_108 : decode b_Mdl_leave 108 = .ok (.iconst 0, 1) := by decide +kernel
theorem d_Mdl_leave_109 : decode b_Mdl_leave 109 = .ok (.bastore, 1) := by decide +kernel
theorem d_Mdl_leave_110 : decode b_Mdl_leave 110 = .ok (.iload_n 2, 1) := by decide +kernel
theorem d_Mdl_leave_111 : decode b_Mdl_leave 111 = .ok (.ireturn, 1) := by decide +kernel
theorem d_Mdl_noNode_0 : decode b_Mdl_noNode 0 = .ok (.iload_n 1, 1) := by decide +kernel
theorem d_Mdl_noNode_1 : decode b_Mdl_noNode 1 = .ok (.iconst 0, 1) := by decide +kernel
theorem d_Mdl_noNode_2 : decode b_Mdl_noNode 2 = .ok (.iconst 5, 1) := by decide +kernel
theorem d_Mdl_noNode_3 : decode b_Mdl_noNode 3 = .ok (.invokestatic 106, 3) := by decide +kernel
theorem d_Mdl_noNode_6 : decode b_Mdl_noNode 6 = .ok (.ifCond .eq 12, 3) := by decide +kernel
theorem d_Mdl_noNode_9 : decode b_Mdl_noNode 9 = .ok (.aload_n 0, 1) := by decide +kernel
theorem d_Mdl_noNode_10 : decode b_Mdl_noNode 10 = .ok (.getfield 7, 3) := by decide +kernel
theorem d_Mdl_noNode_13 : decode b_Mdl_noNode 13 = .ok (.iload_n 1, 1) := by decide +kernel
theorem d_Mdl_noNode_14 : decode b_Mdl_noNode 14 = .ok (.baload, 1) := by decide +kernel
theorem d_Mdl_noNode_15 : decode b_Mdl_noNode 15 = .ok (.ifCond .ne 7, 3) := by decide +kernel
theorem d_Mdl_noNode_18 : decode b_Mdl_noNode 18 = .ok (.iconst 1, 1) := by decide +kernel
theorem d_Mdl_noNode_19 : decode b_Mdl_noNode 19 = .ok (.goto 4, 3) := by decide +kernel
theorem d_Mdl_noNode_22 : decode b_Mdl_noNode 22 = .ok (.iconst 0, 1) := by decide +kernel
theorem d_Mdl_noNode_23 : decode b_Mdl_noNode 23 = .ok (.ireturn, 1) := by decide +kernel
theorem d_Mdl_latch_0 : decode b_Mdl_latch 0 = .ok (.aload_n 0, 1) := by decide +kernel
theorem d_Mdl_latch_1 : decode b_Mdl_latch 1 = .ok (.iconst 0, 1) := by decide +kernel
theorem d_Mdl_latch_2 : decode b_Mdl_latch 2 = .ok (.putfield 102, 3) := by decide +kernel
theorem d_Mdl_latch_5 : decode b_Mdl_latch 5 = .ok (.iload_n 1, 1) := by decide +kernel
theorem d_Mdl_latch_6 : decode b_Mdl_latch 6 = .ok (.iconst 0, 1) := by decide +kernel
theorem d_Mdl_latch_7 : decode b_Mdl_latch 7 = .ok (.iconst 5, 1) := by decide +kernel
theorem d_Mdl_latch_8 : decode b_Mdl_latch 8 = .ok (.invokestatic 106, 3) := by decide +kernel
theorem d_Mdl_latch_11 : decode b_Mdl_latch 11 = .ok (.ifCond .ne 9, 3) := by decide +kernel
theorem d_Mdl_latch_14 : decode b_Mdl_latch 14 = .ok (.aload_n 0, 1) := by decide +kernel
theorem d_Mdl_latch_15 : decode b_Mdl_latch 15 = .ok (.iconst 1, 1) := by decide +kernel
theorem d_Mdl_latch_16 : decode b_Mdl_latch 16 = .ok (.invokevirtual 110, 3) := by decide +kernel
theorem d_Mdl_latch_19 : decode b_Mdl_latch 19 = .ok (.ireturn, 1) := by decide +kernel
theorem d_Mdl_latch_20 : decode b_Mdl_latch 20 = .ok (.aload_n 0, 1) := by decide +kernel
theorem d_Mdl_latch_21 : decode b_Mdl_latch 21 = .ok (.getfield 44, 3) := by decide +kernel
theorem d_Mdl_latch_24 : decode b_Mdl_latch 24 = .ok (.iload_n 1, 1) := by decide +kernel
theorem d_Mdl_latch_25 : decode b_Mdl_latch 25 = .ok (.baload, 1) := by decide +kernel
theorem d_Mdl_latch_26 : decode b_Mdl_latch 26 = .ok (.iload_n 2, 1) := by decide +kernel
theorem d_Mdl_latch_27 : decode b_Mdl_latch 27 = .ok (.if_icmp .eq 7, 3) := by decide +kernel
theorem d_Mdl_latch_30 : decode b_Mdl_latch 30 = .ok (.iconst 1, 1) := by decide +kernel
theorem d_Mdl_latch_31 : decode b_Mdl_latch 31 = .ok (.goto 4, 3) := by decide +kernel
theorem d_Mdl_latch_34 : decode b_Mdl_latch 34 = .ok (.iconst 0, 1) := by decide +kernel
theorem d_Mdl_latch_35 : decode b_Mdl_latch 35 = .ok (.istore_n 3, 1) := by decide +kernel
theorem d_Mdl_latch_36 : decode b_Mdl_latch 36 = .ok (.aload_n 0, 1) := by decide +kernel
theorem d_Mdl_latch_37 : decode b_Mdl_latch 37 = .ok (.getfield 44, 3) := by decide +kernel
theorem d_Mdl_latch_40 : decode b_Mdl_latch 40 = .ok (.iload_n 1, 1) := by decide +kernel
theorem d_Mdl_latch_41 : decode b_Mdl_latch 41 = .ok (.iload_n 2, 1) := by decide +kernel
theorem d_Mdl_latch_42 : decode b_Mdl_latch 42 = .ok (.bastore, 1) := by decide +kernel
theorem d_Mdl_latch_43 : decode b_Mdl_latch 43 = .ok (.iload_n 3, 1) := by decide +kernel
theorem d_Mdl_latch_44 : decode b_Mdl_latch 44 = .ok (.ifCond .eq 7, 3) := by decide +kernel
theorem d_Mdl_latch_47 : decode b_Mdl_latch 47 = .ok (.iconst 1, 1) := by decide +kernel
theorem d_Mdl_latch_48 : decode b_Mdl_latch 48 = .ok (.goto 4, 3) := by decide +kernel
theorem d_Mdl_latch_51 : decode b_Mdl_latch 51 = .ok (.iconst 0, 1) := by decide +kernel
theorem d_Mdl_latch_52 : decode b_Mdl_latch 52 = .ok (.ireturn, 1) := by decide +kernel
theorem d_Mdl_subscribe_0 : decode b_Mdl_subscribe 0 = .ok (.aload_n 0, 1) := by decide +kernel
theorem d_Mdl_subscribe_1 : decode b_Mdl_subscribe 1 = .ok (.iconst 0, 1) := by decide +kernel
theorem d_Mdl_subscribe_2 : decode b_Mdl_subscribe 2 = .ok (.putfield 102, 3) := by decide +kernel
theorem d_Mdl_subscribe_5 : decode b_Mdl_subscribe 5 = .ok (.aload_n 0, 1) := by decide +kernel
theorem d_Mdl_subscribe_6 : decode b_Mdl_subscribe 6 = .ok (.iload_n 1, 1) := by decide +kernel
theorem d_Mdl_subscribe_7 : decode b_Mdl_subscribe 7 = .ok (.invokevirtual 114, 3) := by decide +kernel
theorem d_Mdl_subscribe_10 : decode b_Mdl_subscribe 10 = .ok (.ifCond .eq 9, 3) := by decide +kernel
theorem d_Mdl_subscribe_13 : decode b_Mdl_subscribe 13 = .ok (.aload_n 0, 1) := by decide +kernel
theorem d_Mdl_subscribe_14 : decode b_Mdl_subscribe 14 = .ok (.iconst 1, 1) := by decide +kernel
theorem d_Mdl_subscribe_15 : decode b_Mdl_subscribe 15 = .ok (.invokevirtual 110, 3) := by decide +kernel
theorem d_Mdl_subscribe_18 : decode b_Mdl_subscribe 18 = .ok (.ireturn, 1) := by decide +kernel
theorem d_Mdl_subscribe_19 : decode b_Mdl_subscribe 19 = .ok (.iload_n 2, 1) := by decide +kernel
theorem d_Mdl_subscribe_20 : decode b_Mdl_subscribe 20 = .ok (.iconst 0, 1) := by decide +kernel
theorem d_Mdl_subscribe_21 : decode b_Mdl_subscribe 21 = .ok (.iconst 5, 1) := by decide +kernel
theorem d_Mdl_subscribe_22 : decode b_Mdl_subscribe 22 = .ok (.invokestatic 106, 3) := by decide +kernel
theorem d_Mdl_subscribe_25 : decode b_Mdl_subscribe 25 = .ok (.ifCond .eq 12, 3) := by decide +kernel
theorem d_Mdl_subscribe_28 : decode b_Mdl_subscribe 28 = .ok (.iload_n 3, 1) := by decide +kernel
theorem d_Mdl_subscribe_29 : decode b_Mdl_subscribe 29 = .ok (.iconst 1, 1) := by decide +kernel
theorem d_Mdl_subscribe_30 : decode b_Mdl_subscribe 30 = .ok (.iconst 4, 1) := by decide +kernel
theorem d_Mdl_subscribe_31 : decode b_Mdl_subscribe 31 = .ok (.invokestatic 106, 3) := by decide +kernel
theorem d_Mdl_subscribe_34 : decode b_Mdl_subscribe 34 = .ok (.ifCond .ne 9, 3) := by decide +kernel
theorem d_Mdl_subscribe_37 : decode b_Mdl_subscribe 37 = .ok (.aload_n 0, 1) := by decide +kernel
theorem d_Mdl_subscribe_38 : decode b_Mdl_subscribe 38 = .ok (.iconst 2, 1) := by decide +kernel
theorem d_Mdl_subscribe_39 : decode b_Mdl_subscribe 39 = .ok (.invokevirtual 110, 3) := by decide +kernel
theorem d_Mdl_subscribe_42 : decode b_Mdl_subscribe 42 = .ok (.ireturn, 1) := by decide +kernel
theorem d_Mdl_subscribe_43 : decode b_Mdl_subscribe 43 = .ok (.bipush 6, 2) := by decide +kernel
theorem d_Mdl_subscribe_45 : decode b_Mdl_subscribe 45 = .ok (.iload_n 1, 1) := by decide +kernel
theorem d_Mdl_subscribe_46 : decode b_Mdl_subscribe 46 = .ok (.imul, 1) := by decide +kernel
theorem d_Mdl_subscribe_47 : decode b_Mdl_subscribe 47 = .ok (.iload_n 2, 1) := by decide +kernel
theorem d_Mdl_subscribe_48 : decode b_Mdl_subscribe 48 = .ok (.iadd, 1) := by decide +kernel
theorem d_Mdl_subscribe_49 : decode b_Mdl_subscribe 49 = .ok (.istore 4, 2) := by decide +kernel
theorem d_Mdl_subscribe_51 : decode b_Mdl_subscribe 51 = .ok (.aload_n 0, 1) := by decide +kernel
theorem d_Mdl_subscribe_52 : decode b_Mdl_subscribe 52 = .ok (.getfield 20, 3) := by decide +kernel
theorem d_Mdl_subscribe_55 : decode b_Mdl_subscribe 55 = .ok (.iload 4, 2) := by decide +kernel
theorem d_Mdl_subscribe_57 : decode b_Mdl_subscribe 57 = .ok (.iaload, 1) := by decide +kernel
theorem d_Mdl_subscribe_58 : decode b_Mdl_subscribe 58 = .ok (.ifCond .ne 7, 3) := by decide +kernel
theorem d_Mdl_subscribe_61 : decode b_Mdl_subscribe 61 = .ok (.iconst 1, 1) := by decide +kernel
theorem d_Mdl_subscribe_62 : decode b_Mdl_subscribe 62 = .ok (.goto 4, 3) := by decide +kernel
theorem d_Mdl_subscribe_65 : decode b_Mdl_subscribe 65 = .ok (.iconst 0, 1) := by decide +kernel
theorem d_Mdl_subscribe_66 : decode b_Mdl_subscribe 66 = .ok (.istore 5, 2) := by decide +kernel
theorem d_Mdl_subscribe_68 : decode b_Mdl_subscribe 68 = .ok (.aload_n 0, 1) := by decide +kernel
theorem d_Mdl_subscribe_69 : decode b_Mdl_subscribe 69 = .ok (.getfield 20, 3) := by decide +kernel
theorem d_Mdl_subscribe_72 : decode b_Mdl_subscribe 72 = .ok (.iload 4, 2) := by decide +kernel
theorem d_Mdl_subscribe_74 : decode b_Mdl_subscribe 74 = .ok (.iload_n 3, 1) := by decide +kernel
theorem d_Mdl_subscribe_75 : decode b_Mdl_subscribe 75 = .ok (.iastore, 1) := by decide +kernel
theorem d_Mdl_subscribe_76 : decode b_Mdl_subscribe 76 = .ok (.iload 5, 2) := by decide +kernel
theorem d_Mdl_subscribe_78 : decode b_Mdl_subscribe 78 = .ok (.ifCond .eq 45, 3) := by decide +kernel
theorem d_Mdl_subscribe_81 : decode b_Mdl_subscribe 81 = .ok (.aload_n 0, 1) := by decide +kernel
theorem d_Mdl_subscribe_82 : decode b_Mdl_subscribe 82 = .ok (.getfield 44, 3) := by decide +kernel
theorem d_Mdl_subscribe_85 : decode b_Mdl_subscribe 85 = .ok (.iload_n 2, 1) := by decide +kernel
theorem d_Mdl_subscribe_86 : decode b_Mdl_subscribe 86 = .ok (.baload, 1) := by decide +kernel
theorem d_Mdl_subscribe_87 : decode b_Mdl_subscribe 87 = .ok (.ifCond .eq 36, 3) := by decide +kernel
theorem d_Mdl_subscribe_90 : decode b_Mdl_subscribe 90 = .ok (.aload_n 0, 1) := by decide +kernel
theorem d_Mdl_subscribe_91 : decode b_Mdl_subscribe 91 = .ok (.getfield 47, 3) := by decide +kernel
theorem d_Mdl_subscribe_94 : decode b_Mdl_subscribe 94 = .ok (.iload_n 2, 1) := by decide +kernel
theorem d_Mdl_subscribe_95 : decode b_Mdl_subscribe 95 = .ok (.baload, 1) := by decide +kernel
theorem d_Mdl_subscribe_96 : decode b_Mdl_subscribe 96 = .ok (.ifCond .eq 27, 3) := by decide +kernel
theorem d_Mdl_subscribe_99 : decode b_Mdl_subscribe 99 = .ok (.aload_n 0, 1) := by decide +kernel
theorem d_Mdl_subscribe_100 : decode b_Mdl_subscribe 100 = .ok (.iload 4, 2) := by decide +kernel
theorem d_Mdl_subscribe_102 : decode b_Mdl_subscribe 102 = .ok (.aload_n 0, 1) := by decide +kernel
theorem d_Mdl_subscribe_103 : decode b_Mdl_subscribe 103 = .ok (.getfield 50, 3) := by decide +kernel
theorem d_Mdl_subscribe_106 : decode b_Mdl_subscribe 106 = .ok (.iload_n 2, 1) := by decide +kernel
theorem d_Mdl_subscribe_107 : decode b_Mdl_subscribe 107 = .ok (.iaload, 1) := by decide +kernel
theorem d_Mdl_subscribe_108 : decode b_Mdl_subscribe 108 = .ok (.aload_n 0, 1) := by decide +kernel
theorem d_Mdl_subscribe_109 : decode b_Mdl_subscribe 109 = .ok (.getfield 53, 3) := by decide +kernel
theorem d_Mdl_subscribe_112 : decode b_Mdl_subscribe 112 = .ok (.iload_n 2, 1) := by decide +kernel
theorem d_Mdl_subscribe_113 : decode b_Mdl_subscribe 113 = .ok (.iaload, 1) := by decide +kernel
theorem d_Mdl_subscribe_114 : decode b_Mdl_subscribe 114 = .ok (.aload_n 0, 1) := by decide +kernel
theorem d_Mdl_subscribe_115 : decode b_Mdl_subscribe 115 = .ok (.getfield 56, 3) := by decide +kernel
theorem d_Mdl_subscribe_118 : decode b_Mdl_subscribe 118 = .ok (.iload_n 2, 1) := by decide +kernel
theorem d_Mdl_subscribe_119 : decode b_Mdl_subscribe 119 = .ok (.iaload, 1) := by decide +kernel
theorem d_Mdl_subscribe_120 : decode b_Mdl_subscribe 120 = .ok (.invokevirtual 131, 3) := by decide +kernel
theorem d_Mdl_subscribe_123 : decode b_Mdl_subscribe 123 = .ok (.aload_n 0, 1) := by decide +kernel
theorem d_Mdl_subscribe_124 : decode b_Mdl_subscribe 124 = .ok (.getfield 23, 3) := by decide +kernel
theorem d_Mdl_subscribe_127 : decode b_Mdl_subscribe 127 = .ok (.iload 4, 2) := by decide +kernel
theorem d_Mdl_subscribe_129 : decode b_Mdl_subscribe 129 = .ok (.iaload, 1) := by decide +kernel
theorem d_Mdl_subscribe_130 : decode b_Mdl_subscribe 130 = .ok (.iload_n 3, 1) := by decide +kernel
theorem d_Mdl_subscribe_131 : decode b_Mdl_subscribe 131 = .ok (.if_icmp .le 22, 3) := by decide +kernel
theorem d_Mdl_subscribe_134 : decode b_Mdl_subscribe 134 = .ok (.aload_n 0, 1) := by decide +kernel
theorem d_Mdl_subscribe_135 : decode b_Mdl_subscribe 135 = .ok (.iload 4, 2) := by decide +kernel
theorem d_Mdl_subscribe_137 : decode b_Mdl_subscribe 137 = .ok (.invokevirtual 118, 3) := by decide +kernel
theorem d_Mdl_subscribe_140 : decode b_Mdl_subscribe 140 = .ok (.aload_n 0, 1) := by decide +kernel
theorem d_Mdl_subscribe_141 : decode b_Mdl_subscribe 141 = .ok (.dup, 1) := by decide +kernel
theorem d_Mdl_subscribe_142 : decode b_Mdl_subscribe 142 = .ok (.getfield 122, 3) := by decide +kernel
theorem d_Mdl_subscribe_145 : decode b_Mdl_subscribe 145 = .ok (.iconst 1, 1) := by decide +kernel
theorem d_Mdl_subscribe_146 : decode b_Mdl_subscribe 146 = .ok (.iadd, 1) := by decide +kernel
theorem d_Mdl_subscribe_147 : decode b_Mdl_subscribe 147 = .ok (.putfield 122, 3) := by decide +kernel
theorem d_Mdl_subscribe_150 : decode b_Mdl_subscribe 150 = .ok (.goto (-27), 3) := by decide +kernel
theorem d_Mdl_subscribe_153 : decode b_Mdl_subscribe 153 = .ok (.aload_n 0, 1) := by decide +kernel
theorem d_Mdl_subscribe_154 : decode b_Mdl_subscribe 154 = .ok (.getfield 23, 3) := by decide +kernel
theorem d_Mdl_subscribe_157 : decode b_Mdl_subscribe 157 = .ok (.iload 4, 2) := by decide +kernel
theorem d_Mdl_subscribe_159 : decode b_Mdl_subscribe 159 = .ok (.iaload, 1) := by decide +kernel
theorem d_Mdl_subscribe_160 : decode b_Mdl_subscribe 160 = .ok (.ireturn, 1) := by decide +kernel
theorem d_Mdl_put_0 : decode b_Mdl_put 0 = .ok (.aload_n 0, 1) := by decide +kernel
theorem d_Mdl_put_1 : decode b_Mdl_put 1 = .ok (.getfield 23, 3) := by decide +kernel
theorem d_Mdl_put_4 : decode b_Mdl_put 4 = .ok (.iload_n 1, 1) := by decide +kernel
theorem d_Mdl_put_5 : decode b_Mdl_put 5 = .ok (.iaload, 1) := by decide +kernel
theorem d_Mdl_put_6 : decode b_Mdl_put 6 = .ok (.aload_n 0, 1) := by decide +kernel
theorem d_Mdl_put_7 : decode b_Mdl_put 7 = .ok (.getfield 20, 3) := by decide +kernel
theorem d_Mdl_put_10 : decode b_Mdl_put 10 = .ok (.iload_n 1, 1) := by decide +kernel
theorem d_Mdl_put_11 : decode b_Mdl_put 11 = .ok (.iaload, 1) := by decide +kernel
theorem d_Mdl_put_12 : decode b_Mdl_put 12 = .ok (.if_icmp .ne 18, 3) := by decide +kernel
theorem d_Mdl_put_15 : decode b_Mdl_put 15 = .ok (.aload_n 0, 1) := by decide +kernel
theorem d_Mdl_put_16 : decode b_Mdl_put 16 = .ok (.iload_n 1, 1) := by decide +kernel
theorem d_Mdl_put_17 : decode b_Mdl_put 17 = .ok (.invokevirtual 118, 3) := by decide +kernel
theorem d_Mdl_put_20 : decode b_Mdl_put 20 = .ok (.aload_n 0, 1) := by decide +kernel
theorem d_Mdl_put_21 : decode b_Mdl_put 21 = .ok (.dup, 1) := by decide +kernel
theorem d_Mdl_put_22 : decode b_Mdl_put 22 = .ok (.getfield 122, 3) := by decide +kernel
theorem d_Mdl_put_25 : decode b_Mdl_put 25 = .ok (.iconst 1, 1) := by decide +kernel
theorem d_Mdl_put_26 : decode b_Mdl_put 26 = .ok (.iadd, 1) := by decide +kernel
theorem d_Mdl_put_27 : decode b_Mdl_put 27 = .ok (.putfield 122, 3) := by decide +kernel
theorem d_Mdl_put_30 : decode b_Mdl_put 30 = .ok (.iconst 4, 1) := by decide +kernel
theorem d_Mdl_put_31 : decode b_Mdl_put 31 = .ok (.iload_n 1, 1) := by decide +kernel
theorem d_Mdl_put_32 : decode b_Mdl_put 32 = .ok (.imul, 1) := by decide +kernel
theorem d_Mdl_put_33 : decode b_Mdl_put 33 = .ok (.aload_n 0, 1) := by decide +kernel
theorem d_Mdl_put_34 : decode b_Mdl_put 34 = .ok (.getfield 23, 3) := by decide +kernel
theorem d_Mdl_put_37 : decode b_Mdl_put 37 = .ok (.iload_n 1, 1) := by decide +kernel
theorem d_Mdl_put_38 : decode b_Mdl_put 38 = .ok (.iaload, 1) := by decide +kernel
theorem d_Mdl_put_39 : decode b_Mdl_put 39 = .ok (.iadd, 1) := by decide +kernel
theorem d_Mdl_put_40 : decode b_Mdl_put 40 = .ok (.istore 5, 2) := by decide +kernel
theorem d_Mdl_put_42 : decode b_Mdl_put 42 = .ok (.aload_n 0, 1) := by decide +kernel
theorem d_Mdl_put_43 : decode b_Mdl_put 43 = .ok (.getfield 26, 3) := by decide +kernel
theorem d_Mdl_put_46 : decode b_Mdl_put 46 = .ok (.iload 5, 2) := by decide +kernel
theorem d_Mdl_put_48 : decode b_Mdl_put 48 = .ok (.iload_n 2, 1) := by decide +kernel
theorem d_Mdl_put_49 : decode b_Mdl_put 49 = .ok (.iastore, 1) := by decide +kernel
theorem d_Mdl_put_50 : decode b_Mdl_put 50 = .ok (.aload_n 0, 1) := by decide +kernel
theorem d_Mdl_put_51 : decode b_Mdl_put 51 = .ok (.getfield 29, 3) := by decide +kernel
theorem d_Mdl_put_54 : decode b_Mdl_put 54 = .ok (.iload 5, 2) := by decide +kernel
theorem d_Mdl_put_56 : decode b_Mdl_put 56 = .ok (.iload_n 3, 1) := by decide +kernel
theorem d_Mdl_put_57 : decode b_Mdl_put 57 = .ok (.iastore, 1) := by decide +kernel
theorem d_Mdl_put_58 : decode b_Mdl_put 58 = .ok (.aload_n 0, 1) := by decide +kernel
theorem d_Mdl_put_59 : decode b_Mdl_put 59 = .ok (.getfield 32, 3) := by decide +kernel
theorem d_Mdl_put_62 : decode b_Mdl_put 62 = .ok (.iload 5, 2) := by decide +kernel
theorem d_Mdl_put_64 : decode b_Mdl_put 64 = .ok (.iload 4, 2) := by decide +kernel
theorem d_Mdl_put_66 : decode b_Mdl_put 66 = .ok (.iastore, 1) := by decide +kernel
theorem d_Mdl_put_67 : decode b_Mdl_put 67 = .ok (.aload_n 0, 1) := by decide +kernel
theorem d_Mdl_put_68 : decode b_Mdl_put 68 = .ok (.getfield 23, 3) := by decide +kernel
theorem d_Mdl_put_71 : decode b_Mdl_put 71 = .ok (.iload_n 1, 1) := by decide +kernel
theorem d_Mdl_put_72 : decode b_Mdl_put 72 = .ok (.dup2, 1) := by decide +kernel
theorem d_Mdl_put_73 : decode b_Mdl_put 73 = .ok (.iaload, 1) := by decide +kernel
theorem d_Mdl_put_74 : decode b_Mdl_put 74 = .ok (.iconst 1, 1) := by decide +kernel
theorem d_Mdl_put_75 : decode b_Mdl_put 75 = .ok (.iadd, 1) := by decide +kernel
theorem d_Mdl_put_76 : decode b_Mdl_put 76 = .ok (.iastore, 1) := by decide +kernel
theorem d_Mdl_put_77 : decode b_Mdl_put 77 = .ok (.return_, 1) := by decide +kernel
theorem d_Mdl_shift_0 : decode b_Mdl_shift 0 = .ok (.aload_n 0, 1) := by decide +kernel
theorem d_Mdl_shift_1 : decode b_Mdl_shift 1 = .ok (.getfield 23, 3) := by decide +kernel
theorem d_Mdl_shift_4 : decode b_Mdl_shift 4 = .ok (.iload_n 1, 1) := by decide +kernel
theorem d_Mdl_shift_5 : decode b_Mdl_shift 5 = .ok (.dup2, 1) := by decide +kernel
theorem d_Mdl_shift_6 : decode b_Mdl_shift 6 = .ok (.iaload, 1) := by decide +kernel
theorem d_Mdl_shift_7 : decode b_Mdl_shift 7 = .ok (.iconst 1, 1) := by decide +kernel
theorem d_Mdl_shift_8 : decode b_Mdl_shift 8 = .ok (.isub, 1) := by decide +kernel
theorem d_Mdl_shift_9 : decode b_Mdl_shift 9 = .ok (.iastore, 1) := by decide +kernel
theorem d_Mdl_shift_10 : decode b_Mdl_shift 10 = .ok (.iconst 4, 1) := by decide +kernel
theorem d_Mdl_shift_11 : decode b_Mdl_shift 11 = .ok (.iload_n 1, 1) := by decide +kernel
theorem d_Mdl_shift_12 : decode b_Mdl_shift 12 = .ok (.imul, 1) := by decide +kernel
theorem d_Mdl_shift_13 : decode b_Mdl_shift 13 = .ok (.istore_n 2, 1) := by decide +kernel
theorem d_Mdl_shift_14 : decode b_Mdl_shift 14 = .ok (.iload_n 2, 1) := by decide +kernel
theorem d_Mdl_shift_15 : decode b_Mdl_shift 15 = .ok (.iconst 4, 1) := by decide +kernel
theorem d_Mdl_shift_16 : decode b_Mdl_shift 16 = .ok (.iload_n 1, 1) := by decide +kernel
theorem d_Mdl_shift_17 : decode b_Mdl_shift 17 = .ok (.imul, 1) := by decide +kernel
theorem d_Mdl_shift_18 : decode b_Mdl_shift 18 = .ok (.aload_n 0, 1) := by decide +kernel
theorem d_Mdl_shift_19 : decode b_Mdl_shift 19 = .ok (.getfield 23, 3) := by decide +kernel
theorem d_Mdl_shift_22 : decode b_Mdl_shift 22 = .ok (.iload_n 1, 1) := by decide +kernel
theorem d_Mdl_shift_23 : decode b_Mdl_shift 23 = .ok (.iaload, 1) := by decide +kernel
theorem d_Mdl_shift_24 : decode b_Mdl_shift 24 = .ok (.iadd, 1) := by decide +kernel
theorem d_Mdl_shift_25 : decode b_Mdl_shift 25 = .ok (.if_icmp .ge 51, 3) := by decide +kernel
theorem d_Mdl_shift_28 : decode b_Mdl_shift 28 = .ok (.aload_n 0, 1) := by decide +kernel
theorem d_Mdl_shift_29 : decode b_Mdl_shift 29 = .ok (.getfield 26, 3) := by decide +kernel
theorem d_Mdl_shift_32 : decode b_Mdl_shift 32 = .ok (.iload_n 2, 1) := by decide +kernel
theorem d_Mdl_shift_33 : decode b_Mdl_shift 33 = .ok (.aload_n 0, 1) := by decide +kernel
theorem d_Mdl_shift_34 : decode b_Mdl_shift 34 = .ok (.getfield 26, 3) := by decide +kernel
theorem d_Mdl_shift_37 : decode b_Mdl_shift 37 = .ok (.iload_n 2, 1) := by decide +kernel
theorem d_Mdl_shift_38 : decode b_Mdl_shift 38 = .ok (.iconst 1, 1) := by decide +kernel
theorem d_Mdl_shift_39 : decode b_Mdl_shift 39 = .ok (.iadd, 1) := by decide +kernel
theorem d_Mdl_shift_40 : decode b_Mdl_shift 40 = .ok (.iaload, 1) := by decide +kernel
theorem d_Mdl_shift_41 : decode b_Mdl_shift 41 = .ok (.iastore, 1) := by decide +kernel
theorem d_Mdl_shift_42 : decode b_Mdl_shift 42 = .ok (.aload_n 0, 1) := by decide +kernel
theorem d_Mdl_shift_43 : decode b_Mdl_shift 43 = .ok (.getfield 29, 3) := by decide +kernel
theorem d_Mdl_shift_46 : decode b_Mdl_shift 46 = .ok (.iload_n 2, 1) := by decide +kernel
theorem d_Mdl_shift_47 : decode b_Mdl_shift 47 = .ok (.aload_n 0, 1) := by decide +kernel
theorem d_Mdl_shift_48 : decode b_Mdl_shift 48 = .ok (.getfield 29, 3) := by decide +kernel
theorem d_Mdl_shift_51 : decode b_Mdl_shift 51 = .ok (.iload_n 2, 1) := by decide +kernel
theorem d_Mdl_shift_52 : decode b_Mdl_shift 52 = .ok (.iconst 1, 1) := by decide +kernel
theorem d_Mdl_shift_53 : decode b_Mdl_shift 53 = .ok (.iadd, 1) := by decide +kernel
theorem d_Mdl_shift_54 : decode b_Mdl_shift 54 = .ok (.iaload, 1) := by decide +kernel
theorem d_Mdl_shift_55 : decode b_Mdl_shift 55 = .ok (.iastore, 1) := by decide +kernel
theorem d_Mdl_shift_56 : decode b_Mdl_shift 56 = .ok (.aload_n 0, 1) := by decide +kernel
theorem d_Mdl_shift_57 : decode b_Mdl_shift 57 = .ok (.getfield 32, 3) := by decide +kernel
theorem d_Mdl_shift_60 : decode b_Mdl_shift 60 = .ok (.iload_n 2, 1) := by decide +kernel
theorem d_Mdl_shift_61 : decode b_Mdl_shift 61 = .ok (.aload_n 0, 1) := by decide +kernel
theorem d_Mdl_shift_62 : decode b_Mdl_shift 62 = .ok (.getfield 32, 3) := by decide +kernel
theorem d_Mdl_shift_65 : decode b_Mdl_shift 65 = .ok (.iload_n 2, 1) := by decide +kernel
theorem d_Mdl_shift_66 : decode b_Mdl_shift 66 = .ok (.iconst 1, 1) := by decide +kernel
theorem d_Mdl_shift_67 : decode b_Mdl_shift 67 = .ok (.iadd, 1) := by decide +kernel
theorem d_Mdl_shift_68 : decode b_Mdl_shift 68 = .ok (.iaload, 1) := by decide +kernel
theorem d_Mdl_shift_69 : decode b_Mdl_shift 69 = .ok (.iastore, 1) := by decide +kernel
theorem d_Mdl_shift_70 : decode b_Mdl_shift 70 = .ok (.iinc 2 1, 3) := by decide +kernel
theorem d_Mdl_shift_73 : decode b_Mdl_shift 73 = .ok (.goto (-59), 3) := by decide +kernel
theorem d_Mdl_shift_76 : decode b_Mdl_shift 76 = .ok (.return_, 1) := by decide +kernel
theorem d_Mdl_unsubscribe_0 : decode b_Mdl_unsubscribe 0 = .ok (.aload_n 0, 1) := by decide +kernel
theorem d_Mdl_unsubscribe_1 : decode b_Mdl_unsubscribe 1 = .ok (.iconst 0, 1) := by decide +kernel
theorem d_Mdl_unsubscribe_2 : decode b_Mdl_unsubscribe 2 = .ok (.putfield 102, 3) := by decide +kernel
theorem d_Mdl_unsubscribe_5 : decode b_Mdl_unsubscribe 5 = .ok (.aload_n 0, 1) := by decide +kernel
theorem d_Mdl_unsubscribe_6 : decode b_Mdl_unsubscribe 6 = .ok (.iload_n 1, 1) := by decide +kernel
theorem d_Mdl_unsubscribe_7 : decode b_Mdl_unsubscribe 7 = .ok (.invokevirtual 114, 3) := by decide +kernel
theorem d_Mdl_unsubscribe_10 : decode b_Mdl_unsubscribe 10 = .ok (.ifCond .eq 9, 3) := by decide +kernel
theorem d_Mdl_unsubscribe_13 : decode b_Mdl_unsubscribe 13 = .ok (.aload_n 0, 1) := by decide +kernel
theorem d_Mdl_unsubscribe_14 : decode b_Mdl_unsubscribe 14 = .ok (.iconst 1, 1) := by decide +kernel
theorem d_Mdl_unsubscribe_15 : decode b_Mdl_unsubscribe 15 = .ok (.invokevirtual 110, 3) := by decide +kernel
theorem d_Mdl_unsubscribe_18 : decode b_Mdl_unsubscribe 18 = .ok (.ireturn, 1) := by decide +kernel
theorem d_Mdl_unsubscribe_19 : decode b_Mdl_unsubscribe 19 = .ok (.iload_n 2, 1) := by decide +kernel
theorem d_Mdl_unsubscribe_20 : decode b_Mdl_unsubscribe 20 = .ok (.iconst 0, 1) := by decide +kernel
theorem d_Mdl_unsubscribe_21 : decode b_Mdl_unsubscribe 21 = .ok (.iconst 5, 1) := by decide +kernel
theorem d_Mdl_unsubscribe_22 : decode b_Mdl_unsubscribe 22 = .ok (.invokestatic 106, 3) := by decide +kernel
theorem d_Mdl_unsubscribe_25 : decode b_Mdl_unsubscribe 25 = .ok (.ifCond .ne 9, 3) := by decide +kernel
theorem d_Mdl_unsubscribe_28 : decode b_Mdl_unsubscribe 28 = .ok (.aload_n 0, 1) := by decide +kernel
theorem d_Mdl_unsubscribe_29 : decode b_Mdl_unsubscribe 29 = .ok (.iconst 2, 1) := by decide +kernel
theorem d_Mdl_unsubscribe_30 : decode b_Mdl_unsubscribe 30 = .ok (.invokevirtual 110, 3) := by decide +kernel
theorem d_Mdl_unsubscribe_33 : decode b_Mdl_unsubscribe 33 = .ok (.ireturn, 1) := by decide +kernel
theorem d_Mdl_unsubscribe_34 : decode b_Mdl_unsubscribe 34 = .ok (.bipush 6, 2) := by decide +kernel
theorem d_Mdl_unsubscribe_36 : decode b_Mdl_unsubscribe 36 = .ok (.iload_n 1, 1) := by decide +kernel
theorem d_Mdl_unsubscribe_37 : decode b_Mdl_unsubscribe 37 = .ok (.imul, 1) := by decide +kernel
theorem d_Mdl_unsubscribe_38 : decode b_Mdl_unsubscribe 38 = .ok (.iload_n 2, 1) := by decide +kernel
theorem d_Mdl_unsubscribe_39 : decode b_Mdl_unsubscribe 39 = .ok (.iadd, 1) := by decide +kernel
theorem d_Mdl_unsubscribe_40 : decode b_Mdl_unsubscribe 40 = .ok (.istore_n 3, 1) := by decide +kernel
theorem d_Mdl_unsubscribe_41 : decode b_Mdl_unsubscribe 41 = .ok (.aload_n 0, 1) := by decide +kernel
theorem d_Mdl_unsubscribe_42 : decode b_Mdl_unsubscribe 42 = .ok (.getfield 20, 3) := by decide +kernel
theorem d_Mdl_unsubscribe_45 : decode b_Mdl_unsubscribe 45 = .ok (.iload_n 3, 1) := by decide +kernel
theorem d_Mdl_unsubscribe_46 : decode b_Mdl_unsubscribe 46 = .ok (.iaload, 1) := by decide +kernel
theorem d_Mdl_unsubscribe_47 : decode b_Mdl_unsubscribe 47 = .ok (.ifCond .ne 9, 3) := by decide +kernel
theorem d_Mdl_unsubscribe_50 : decode b_Mdl_unsubscribe 50 = .ok (.aload_n 0, 1) := by decide +kernel
theorem d_Mdl_unsubscribe_51 : decode b_Mdl_unsubscribe 51 = .ok (.iconst 1, 1) := by decide +kernel
theorem d_Mdl_unsubscribe_52 : decode b_Mdl_unsubscribe 52 = .ok (.invokevirtual 110, 3) := by decide +kernel
theorem d_Mdl_unsubscribe_55 : decode b_Mdl_unsubscribe 55 = .ok (.ireturn, 1) := by decide +kernel
theorem d_Mdl_unsubscribe_56 : decode b_Mdl_unsubscribe 56 = .ok (.aload_n 0, 1) := by decide +kernel
theorem d_Mdl_unsubscribe_57 : decode b_Mdl_unsubscribe 57 = .ok (.getfield 23, 3) := by decide +kernel
theorem d_Mdl_unsubscribe_60 : decode b_Mdl_unsubscribe 60 = .ok (.iload_n 3, 1) := by decide +kernel
theorem d_Mdl_unsubscribe_61 : decode b_Mdl_unsubscribe 61 = .ok (.iaload, 1) := by decide +kernel
theorem d_Mdl_unsubscribe_62 : decode b_Mdl_unsubscribe 62 = .ok (.istore 4, 2) := by decide +kernel
theorem d_Mdl_unsubscribe_64 : decode b_Mdl_unsubscribe 64 = .ok (.aload_n 0, 1) := by decide +kernel
theorem d_Mdl_unsubscribe_65 : decode b_Mdl_unsubscribe 65 = .ok (.getfield 20, 3) := by decide +kernel
theorem d_Mdl_unsubscribe_68 : decode b_Mdl_unsubscribe 68 = .ok (.iload_n 3, 1) := by decide +kernel
theorem d_Mdl_unsubscribe_69 : decode b_Mdl_unsubscribe 69 = .ok (.iconst 0, 1) := by decide +kernel
theorem d_Mdl_unsubscribe_70 : decode b_Mdl_unsubscribe 70 = .ok (.iastore, 1) := by decide +kernel
theorem d_Mdl_unsubscribe_71 : decode b_Mdl_unsubscribe 71 = .ok (.aload_n 0, 1) := by decide +kernel
theorem d_Mdl_unsubscribe_72 : decode b_Mdl_unsubscribe 72 = .ok (.getfield 23, 3) := by decide +kernel
theorem d_Mdl_unsubscribe_75 : decode b_Mdl_unsubscribe 75 = .ok (.iload_n 3, 1) := by decide +kernel
theorem d_Mdl_unsubscribe_76 : decode b_Mdl_unsubscribe 76 = .ok (.iconst 0, 1) := by decide +kernel
theorem d_Mdl_unsubscribe_77 : decode b_Mdl_unsubscribe 77 = .ok (.iastore, 1) := by decide +kernel
theorem d_Mdl_unsubscribe_78 : decode b_Mdl_unsubscribe 78 = .ok (.iload 4, 2) := by decide +kernel
theorem d_Mdl_unsubscribe_80 : decode b_Mdl_unsubscribe 80 = .ok (.ireturn, 1) := by decide +kernel
theorem d_Mdl_publish_0 : decode b_Mdl_publish 0 = .ok (.aload_n 0, 1) := by decide +kernel
theorem d_Mdl_publish_1 : decode b_Mdl_publish 1 = .ok (.iconst 0, 1) := by decide +kernel
theorem d_Mdl_publish_2 : decode b_Mdl_publish 2 = .ok (.putfield 102, 3) := by decide +kernel
theorem d_Mdl_publish_5 : decode b_Mdl_publish 5 = .ok (.aload_n 0, 1) := by decide +kernel
theorem d_Mdl_publish_6 : decode b_Mdl_publish 6 = .ok (.iload_n 1, 1) := by decide +kernel
theorem d_Mdl_publish_7 : decode b_Mdl_publish 7 = .ok (.invokevirtual 114, 3) := by decide +kernel
theorem d_Mdl_publish_10 : decode b_Mdl_publish 10 = .ok (.ifCond .eq 9, 3) := by decide +kernel
theorem d_Mdl_publish_13 : decode b_Mdl_publish 13 = .ok (.aload_n 0, 1) := by decide +kernel
theorem d_Mdl_publish_14 : decode b_Mdl_publish 14 = .ok (.iconst 1, 1) := by decide +kernel
theorem d_Mdl_publish_15 : decode b_Mdl_publish 15 = .ok (.invokevirtual 110, 3) := by decide +kernel
theorem d_Mdl_publish_18 : decode b_Mdl_publish 18 = .ok (.ireturn, 1) := by decide +kernel
theorem d_Mdl_publish_19 : decode b_Mdl_publish 19 = .ok (.iload_n 2, 1) := by decide +kernel
theorem d_Mdl_publish_20 : decode b_Mdl_publish 20 = .ok (.iconst 0, 1) := by decide +kernel
theorem d_Mdl_publish_21 : decode b_Mdl_publish 21 = .ok (.iconst 5, 1) := by decide +kernel
theorem d_Mdl_publish_22 : decode b_Mdl_publish 22 = .ok (.invokestatic 106, 3) := by decide +kernel
theorem d_Mdl_publish_25 : decode b_Mdl_publish 25 = .ok (.ifCond .eq 13, 3) := by decide +kernel
theorem d_Mdl_publish_28 : decode b_Mdl_publish 28 = .ok (.aload_n 0, 1) := by decide +kernel
theorem d_Mdl_publish_29 : decode b_Mdl_publish 29 = .ok (.iload_n 2, 1) := by decide +kernel
theorem d_Mdl_publish_30 : decode b_Mdl_publish 30 = .ok (.iload_n 3, 1) := by decide +kernel
theorem d_Mdl_publish_31 : decode b_Mdl_publish 31 = .ok (.iload_n 1, 1) := by decide +kernel
theorem d_Mdl_publish_32 : decode b_Mdl_publish 32 = .ok (.invokevirtual 138, 3) := by decide +kernel
theorem d_Mdl_publish_35 : decode b_Mdl_publish 35 = .ok (.goto 8, 3) := by decide +kernel
theorem d_Mdl_publish_38 : decode b_Mdl_publish 38 = .ok (.aload_n 0, 1) := by decide +kernel
theorem d_Mdl_publish_39 : decode b_Mdl_publish 39 = .ok (.iconst 2, 1) := by decide +kernel
theorem d_Mdl_publish_40 : decode b_Mdl_publish 40 = .ok (.invokevirtual 110, 3) := by decide +kernel
theorem d_Mdl_publish_43 : decode b_Mdl_publish 43 = .ok (.ireturn, 1) := by decide +kernel
theorem d_Mdl_send_0 : decode b_Mdl_send 0 = .ok (.iconst 0, 1) := by decide +kernel
theorem d_Mdl_send_1 : decode b_Mdl_send 1 = .ok (.istore 4, 2) := by decide +kernel
theorem d_Mdl_send_3 : decode b_Mdl_send 3 = .ok (.aload_n 0, 1) := by decide +kernel
theorem d_Mdl_send_4 : decode b_Mdl_send 4 = .ok (.dup, 1) := by decide +kernel
theorem d_Mdl_send_5 : decode b_Mdl_send 5 = .ok (.getfield 125, 3) := by decide +kernel
theorem d_Mdl_send_8 : decode b_Mdl_send 8 = .ok (.iconst 1, 1) := by decide +kernel
theorem d_Mdl_send_9 : decode b_Mdl_send 9 = .ok (.iadd, 1) := by decide +kernel
theorem d_Mdl_send_10 : decode b_Mdl_send 10 = .ok (.putfield 125, 3) := by decide +kernel
theorem d_Mdl_send_13 : decode b_Mdl_send 13 = .ok (.iconst 0, 1) := by decide +kernel
theorem d_Mdl_send_14 : decode b_Mdl_send 14 = .ok (.istore 5, 2) := by decide +kernel
theorem d_Mdl_send_16 : decode b_Mdl_send 16 = .ok (.iload 5, 2) := by decide +kernel
theorem d_Mdl_send_18 : decode b_Mdl_send 18 = .ok (.bipush 6, 2) := by decide +kernel
theorem d_Mdl_send_20 : decode b_Mdl_send 20 = .ok (.if_icmp .ge 56, 3) := by decide +kernel
theorem d_Mdl_send_23 : decode b_Mdl_send 23 = .ok (.bipush 6, 2) := by decide +kernel
theorem d_Mdl_send_25 : decode b_Mdl_send 25 = .ok (.iload 5, 2) := by decide +kernel
theorem d_Mdl_send_27 : decode b_Mdl_send 27 = .ok (.imul, 1) := by decide +kernel
theorem d_Mdl_send_28 : decode b_Mdl_send 28 = .ok (.iload_n 1, 1) := by decide +kernel
theorem d_Mdl_send_29 : decode b_Mdl_send 29 = .ok (.iadd, 1) := by decide +kernel
theorem d_Mdl_send_30 : decode b_Mdl_send 30 = .ok (.istore 6, 2) := by decide +kernel
theorem d_Mdl_send_32 : decode b_Mdl_send 32 = .ok (.aload_n 0, 1) := by decide +kernel
theorem d_Mdl_send_33 : decode b_Mdl_send 33 = .ok (.getfield 7, 3) := by decide +kernel
theorem d_Mdl_send_36 : decode b_Mdl_send 36 = .ok (.iload 5, 2) := by decide +kernel
theorem d_Mdl_send_38 : decode b_Mdl_send 38 = .ok (.baload, 1) := by decide +kernel
theorem d_Mdl_send_39 : decode b_Mdl_send 39 = .ok (.ifCond .eq 31, 3) := by decide +kernel
theorem d_Mdl_send_42 : decode b_Mdl_send 42 = .ok (.aload_n 0, 1) := by decide +kernel
theorem d_Mdl_send_43 : decode b_Mdl_send 43 = .ok (.getfield 20, 3) := by decide +kernel
theorem d_Mdl_send_46 : decode b_Mdl_send 46 = .ok (.iload 6, 2) := by decide +kernel
theorem d_Mdl_send_48 : decode b_Mdl_send 48 = .ok (.iaload, 1) := by decide +kernel
theorem d_Mdl_send_49 : decode b_Mdl_send 49 = .ok (.ifCond .ne 6, 3) := by decide +kernel
theorem d_Mdl_send_52 : decode b_Mdl_send 52 = .ok (.goto 18, 3) := by decide +kernel
theorem d_Mdl_send_55 : decode b_Mdl_send 55 = .ok (.aload_n 0, 1) := by decide +kernel
theorem d_Mdl_send_56 : decode b_Mdl_send 56 = .ok (.iload 6, 2) := by decide +kernel
theorem d_Mdl_send_58 : decode b_Mdl_send 58 = .ok (.iload_n 2, 1) := by decide +kernel
theorem d_Mdl_send_59 : decode b_Mdl_send 59 = .ok (.iload_n 3, 1) := by decide +kernel
theorem d_Mdl_send_60 : decode b_Mdl_send 60 = .ok (.aload_n 0, 1) := by decide +kernel
theorem d_Mdl_send_61 : decode b_Mdl_send 61 = .ok (.getfield 128, 3) := by decide +kernel
theorem d_Mdl_send_64 : decode b_Mdl_send 64 = .ok (.invokevirtual 131, 3) := by decide +kernel
theorem d_Mdl_send_67 : decode b_Mdl_send 67 = .ok (.iinc 4 1, 3) := by decide +kernel
theorem d_Mdl_send_70 : decode b_Mdl_send 70 = .ok (.iinc 5 1, 3) := by decide +kernel
theorem d_Mdl_send_73 : decode b_Mdl_send 73 = .ok (.goto (-57), 3) := by decide +kernel
theorem d_Mdl_send_76 : decode b_Mdl_send 76 = .ok (.aload_n 0, 1) := by decide +kernel
theorem d_Mdl_send_77 : decode b_Mdl_send 77 = .ok (.getfield 47, 3) := by decide +kernel
theorem d_Mdl_send_80 : decode b_Mdl_send 80 = .ok (.iload_n 1, 1) := by decide +kernel
theorem d_Mdl_send_81 : decode b_Mdl_send 81 = .ok (.iconst 1, 1) := by decide +kernel
theorem d_Mdl_send_82 : decode b_Mdl_send 82 = .ok (.bastore, 1) := by decide +kernel
theorem d_Mdl_send_83 : decode b_Mdl_send 83 = .ok (.aload_n 0, 1) := by decide +kernel
theorem d_Mdl_send_84 : decode b_Mdl_send 84 = .ok (.getfield 50, 3) := by decide +kernel
theorem d_Mdl_send_87 : decode b_Mdl_send 87 = .ok (.iload_n 1, 1) := by decide +kernel
theorem d_Mdl_send_88 : decode b_Mdl_send 88 = .ok (.iload_n 2, 1) := by decide +kernel
theorem d_Mdl_send_89 : decode b_Mdl_send 89 = .ok (.iastore, 1) := by decide +kernel
theorem d_Mdl_send_90 : decode b_Mdl_send 90 = .ok (.aload_n 0, 1) := by decide +kernel
theorem d_Mdl_send_91 : decode b_Mdl_send 91 = .ok (.getfield 53, 3) := by decide +kernel
theorem d_Mdl_send_94 : decode b_Mdl_send 94 = .ok (.iload_n 1, 1) := by decide +kernel
theorem d_Mdl_send_95 : decode b_Mdl_send 95 = .ok (.iload_n 3, 1) := by decide +kernel
theorem d_Mdl_send_96 : decode b_Mdl_send 96 = .ok (.iastore, 1) := by decide +kernel
theorem d_Mdl_send_97 : decode b_Mdl_send 97 = .ok (.aload_n 0, 1) := by decide +kernel
theorem d_Mdl_send_98 : decode b_Mdl_send 98 = .ok (.getfield 56, 3) := by decide +kernel
theorem d_Mdl_send_101 : decode b_Mdl_send 101 = .ok (.iload_n 1, 1) := by decide +kernel
theorem d_Mdl_send_102 : decode b_Mdl_send 102 = .ok (.aload_n 0, 1) := by decide +kernel
theorem d_Mdl_send_103 : decode b_Mdl_send 103 = .ok (.getfield 128, 3) := by decide +kernel
theorem d_Mdl_send_106 : decode b_Mdl_send 106 = .ok (.iastore, 1) := by decide +kernel
theorem d_Mdl_send_107 : decode b_Mdl_send 107 = .ok (.aload_n 0, 1) := by decide +kernel
theorem d_Mdl_send_108 : decode b_Mdl_send 108 = .ok (.getfield 59, 3) := by decide +kernel
theorem d_Mdl_send_111 : decode b_Mdl_send 111 = .ok (.iload_n 1, 1) := by decide +kernel
theorem d_Mdl_send_112 : decode b_Mdl_send 112 = .ok (.baload, 1) := by decide +kernel
theorem d_Mdl_send_113 : decode b_Mdl_send 113 = .ok (.ifCond .eq 59, 3) := by decide +kernel
theorem d_Mdl_send_116 : decode b_Mdl_send 116 = .ok (.iload_n 3, 1) := by decide +kernel
theorem d_Mdl_send_117 : decode b_Mdl_send 117 = .ok (.ifCond .lt 55, 3) := by decide +kernel
theorem d_Mdl_send_120 : decode b_Mdl_send 120 = .ok (.aload_n 0, 1) := by decide +kernel
theorem d_Mdl_send_121 : decode b_Mdl_send 121 = .ok (.getfield 135, 3) := by decide +kernel
theorem d_Mdl_send_124 : decode b_Mdl_send 124 = .ok (.bipush 30, 2) := by decide +kernel
theorem d_Mdl_send_126 : decode b_Mdl_send 126 = .ok (.if_icmp .ge 46, 3) := by decide +kernel
theorem d_Mdl_send_129 : decode b_Mdl_send 129 = .ok (.aload_n 0, 1) := by decide +kernel
theorem d_Mdl_send_130 : decode b_Mdl_send 130 = .ok (.getfield 74, 3) := by decide +kernel
theorem d_Mdl_send_133 : decode b_Mdl_send 133 = .ok (.aload_n 0, 1) := by decide +kernel
theorem d_Mdl_send_134 : decode b_Mdl_send 134 = .ok (.getfield 135, 3) := by decide +kernel
theorem d_Mdl_send_137 : decode b_Mdl_send 137 = .ok (.aload_n 0, 1) := by decide +kernel
theorem d_Mdl_send_138 : decode b_Mdl_send 138 = .ok (.getfield 128, 3) := by decide +kernel
theorem d_Mdl_send_141 : decode b_Mdl_send 141 = .ok (.iastore, 1) := by decide +kernel
theorem d_Mdl_send_142 : decode b_Mdl_send 142 = .ok (.aload_n 0, 1) := by decide +kernel
theorem d_Mdl_send_143 : decode b_Mdl_send 143 = .ok (.getfield 77, 3) := by decide +kernel
theorem d_Mdl_send_146 : decode b_Mdl_send 146 = .ok (.aload_n 0, 1) := by decide +kernel
theorem d_Mdl_send_147 : decode b_Mdl_send 147 = .ok (.getfield 135, 3) := by decide +kernel
theorem d_Mdl_send_150 : decode b_Mdl_send 150 = .ok (.iload_n 1, 1) := by decide +kernel
theorem d_Mdl_send_151 : decode b_Mdl_send 151 = .ok (.iastore, 1) := by decide +kernel
theorem d_Mdl_send_152 : decode b_Mdl_send 152 = .ok (.aload_n 0, 1) := by decide +kernel
theorem d_Mdl_send_153 : decode b_Mdl_send 153 = .ok (.getfield 80, 3) := by decide +kernel
theorem d_Mdl_send_156 : decode b_Mdl_send 156 = .ok (.aload_n 0, 1) := by decide +kernel
theorem d_Mdl_send_157 : decode b_Mdl_send 157 = .ok (.getfield 135, 3) := by decide +kernel
theorem d_Mdl_send_160 : decode b_Mdl_send 160 = .ok (.iload_n 2, 1) := by decide +kernel
theorem d_Mdl_send_161 : decode b_Mdl_send 161 = .ok (.iastore, 1) := by decide +kernel
theorem d_Mdl_send_162 : decode b_Mdl_send 162 = .ok (.aload_n 0, 1) := by decide +kernel
theorem d_Mdl_send_163 : decode b_Mdl_send 163 = .ok (.dup, 1) := by decide +kernel
theorem d_Mdl_send_164 : decode b_Mdl_send 164 = .ok (.getfield 135, 3) := by decide +kernel
theorem d_Mdl_send_167 : decode b_Mdl_send 167 = .ok (.iconst 1, 1) := by decide +kernel
theorem d_Mdl_send_168 : decode b_Mdl_send 168 = .ok (.iadd, 1) := by decide +kernel
theorem d_Mdl_send_169 : decode b_Mdl_send 169 = .ok (.putfield 135, 3) := by decide +kernel
theorem d_Mdl_send_172 : decode b_Mdl_send 172 = .ok (.iload 4, 2) := by decide +kernel
theorem d_Mdl_send_174 : decode b_Mdl_send 174 = .ok (.ireturn, 1) := by decide +kernel
theorem d_Mdl_act_0 : decode b_Mdl_act 0 = .ok (.aload_n 0, 1) := by decide +kernel
theorem d_Mdl_act_1 : decode b_Mdl_act 1 = .ok (.iconst 0, 1) := by decide +kernel
theorem d_Mdl_act_2 : decode b_Mdl_act 2 = .ok (.putfield 102, 3) := by decide +kernel
theorem d_Mdl_act_5 : decode b_Mdl_act 5 = .ok (.aload_n 0, 1) := by decide +kernel
theorem d_Mdl_act_6 : decode b_Mdl_act 6 = .ok (.iload_n 1, 1) := by decide +kernel
theorem d_Mdl_act_7 : decode b_Mdl_act 7 = .ok (.invokevirtual 114, 3) := by decide +kernel
theorem d_Mdl_act_10 : decode b_Mdl_act 10 = .ok (.ifCond .eq 9, 3) := by decide +kernel
theorem d_Mdl_act_13 : decode b_Mdl_act 13 = .ok (.aload_n 0, 1) := by decide +kernel
theorem d_Mdl_act_14 : decode b_Mdl_act 14 = .ok (.iconst 1, 1) := by decide +kernel
theorem d_Mdl_act_15 : decode b_Mdl_act 15 = .ok (.invokevirtual 110, 3) := by decide +kernel
theorem d_Mdl_act_18 : decode b_Mdl_act 18 = .ok (.ireturn, 1) := by decide +kernel
theorem d_Mdl_act_19 : decode b_Mdl_act 19 = .ok (.iload_n 2, 1) := by decide +kernel
theorem d_Mdl_act_20 : decode b_Mdl_act 20 = .ok (.iconst 0, 1) := by decide +kernel
theorem d_Mdl_act_21 : decode b_Mdl_act 21 = .ok (.iconst 5, 1) := by decide +kernel
theorem d_Mdl_act_22 : decode b_Mdl_act 22 = .ok (.invokestatic 106, 3) := by decide +kernel
theorem d_Mdl_act_25 : decode b_Mdl_act 25 = .ok (.ifCond .eq 14, 3) := by decide +kernel
theorem d_Mdl_act_28 : decode b_Mdl_act 28 = .ok (.iload_n 3, 1) := by decide +kernel
theorem d_Mdl_act_29 : decode b_Mdl_act 29 = .ok (.iload 4, 2) := by decide +kernel
theorem d_Mdl_act_31 : decode b_Mdl_act 31 = .ok (.iload 5, 2) := by decide +kernel
theorem d_Mdl_act_33 : decode b_Mdl_act 33 = .ok (.invokestatic 142, 3) := by decide +kernel
theorem d_Mdl_act_36 : decode b_Mdl_act 36 = .ok (.ifCond .ne 9, 3) := by decide +kernel
theorem d_Mdl_act_39 : decode b_Mdl_act 39 = .ok (.aload_n 0, 1) := by decide +kernel
theorem d_Mdl_act_40 : decode b_Mdl_act 40 = .ok (.iconst 2, 1) := by decide +kernel
theorem d_Mdl_act_41 : decode b_Mdl_act 41 = .ok (.invokevirtual 110, 3) := by decide +kernel
theorem d_Mdl_act_44 : decode b_Mdl_act 44 = .ok (.ireturn, 1) := by decide +kernel
theorem d_Mdl_act_45 : decode b_Mdl_act 45 = .ok (.bipush 6, 2) := by decide +kernel
theorem d_Mdl_act_47 : decode b_Mdl_act 47 = .ok (.iload_n 1, 1) := by decide +kernel
theorem d_Mdl_act_48 : decode b_Mdl_act 48 = .ok (.imul, 1) := by decide +kernel
theorem d_Mdl_act_49 : decode b_Mdl_act 49 = .ok (.iload_n 2, 1) := by decide +kernel
theorem d_Mdl_act_50 : decode b_Mdl_act 50 = .ok (.iadd, 1) := by decide +kernel
theorem d_Mdl_act_51 : decode b_Mdl_act 51 = .ok (.istore 6, 2) := by decide +kernel
theorem d_Mdl_act_53 : decode b_Mdl_act 53 = .ok (.aload_n 0, 1) := by decide +kernel
theorem d_Mdl_act_54 : decode b_Mdl_act 54 = .ok (.getfield 35, 3) := by decide +kernel
theorem d_Mdl_act_57 : decode b_Mdl_act 57 = .ok (.iload 6, 2) := by decide +kernel
theorem d_Mdl_act_59 : decode b_Mdl_act 59 = .ok (.iaload, 1) := by decide +kernel
theorem d_Mdl_act_60 : decode b_Mdl_act 60 = .ok (.istore 7, 2) := by decide +kernel
theorem d_Mdl_act_62 : decode b_Mdl_act 62 = .ok (.aload_n 0, 1) := by decide +kernel
theorem d_Mdl_act_63 : decode b_Mdl_act 63 = .ok (.getfield 35, 3) := by decide +kernel
theorem d_Mdl_act_66 : decode b_Mdl_act 66 = .ok (.iload 6, 2) := by decide +kernel
theorem d_Mdl_act_68 : decode b_Mdl_act 68 = .ok (.iload_n 3, 1) := by decide +kernel
theorem d_Mdl_act_69 : decode b_Mdl_act 69 = .ok (.iastore, 1) := by decide +kernel
theorem d_Mdl_act_70 : decode b_Mdl_act 70 = .ok (.aload_n 0, 1) := by decide +kernel
theorem d_Mdl_act_71 : decode b_Mdl_act 71 = .ok (.getfield 38, 3) := by decide +kernel
theorem d_Mdl_act_74 : decode b_Mdl_act 74 = .ok (.iload 6, 2) := by decide +kernel
theorem d_Mdl_act_76 : decode b_Mdl_act 76 = .ok (.iload 4, 2) := by decide +kernel
theorem d_Mdl_act_78 : decode b_Mdl_act 78 = .ok (.iastore, 1) := by decide +kernel
theorem d_Mdl_act_79 : decode b_Mdl_act 79 = .ok (.aload_n 0, 1) := by decide +kernel
theorem d_Mdl_act_80 : decode b_Mdl_act 80 = .ok (.getfield 41, 3) := by decide +kernel
theorem d_Mdl_act_83 : decode b_Mdl_act 83 = .ok (.iload 6, 2) := by decide +kernel
theorem d_Mdl_act_85 : decode b_Mdl_act 85 = .ok (.iload 5, 2) := by decide +kernel
theorem d_Mdl_act_87 : decode b_Mdl_act 87 = .ok (.iastore, 1) := by decide +kernel
theorem d_Mdl_act_88 : decode b_Mdl_act 88 = .ok (.iload 7, 2) := by decide +kernel
theorem d_Mdl_act_90 : decode b_Mdl_act 90 = .ok (.ifCond .ge 7, 3) := by decide +kernel
theorem d_Mdl_act_93 : decode b_Mdl_act 93 = .ok (.iconst 1, 1) := by decide +kernel
theorem d_Mdl_act_94 : decode b_Mdl_act 94 = .ok (.goto 4, 3) := by decide +kernel
theorem d_Mdl_act_97 : decode b_Mdl_act 97 = .ok (.iconst 0, 1) := by decide +kernel
theorem d_Mdl_act_98 : decode b_Mdl_act 98 = .ok (.ireturn, 1) := by decide +kernel
theorem d_Mdl_actionFits_0 : decode b_Mdl_actionFits 0 = .ok (.iload_n 0, 1) := by decide +kernel
theorem d_Mdl_actionFits_1 : decode b_Mdl_actionFits 1 = .ok (.tableswitch 122 (-1) 4 #[39, 41, 41, 48, 74, 98], 39) := by decide +kernel
theorem d_Mdl_actionFits_40 : decode b_Mdl_actionFits 40 = .ok (.iconst 1, 1) := by decide +kernel
theorem d_Mdl_actionFits_41 : decode b_Mdl_actionFits 41 = .ok (.ireturn, 1) := by decide +kernel
theorem d_Mdl_actionFits_42 : decode b_Mdl_actionFits 42 = .ok (.iload_n 1, 1) := by decide +kernel
theorem d_Mdl_actionFits_43 : decode b_Mdl_actionFits 43 = .ok (.iconst 0, 1) := by decide +kernel
theorem d_Mdl_actionFits_44 : decode b_Mdl_actionFits 44 = .ok (.iconst 3, 1) := by decide +kernel
theorem d_Mdl_actionFits_45 : decode b_Mdl_actionFits 45 = .ok (.invokestatic 106, 3) := by decide +kernel
theorem d_Mdl_actionFits_48 : decode b_Mdl_actionFits 48 = .ok (.ireturn, 1) := by decide +kernel
theorem d_Mdl_actionFits_49 : decode b_Mdl_actionFits 49 = .ok (.iload_n 1, 1) := by decide +kernel
theorem d_Mdl_actionFits_50 : decode b_Mdl_actionFits 50 = .ok (.iconst 0, 1) := by decide +kernel
theorem d_Mdl_actionFits_51 : decode b_Mdl_actionFits 51 = .ok (.iconst 5, 1) := by decide +kernel
theorem d_Mdl_actionFits_52 : decode b_Mdl_actionFits 52 = .ok (.invokestatic 106, 3) := by decide +kernel
theorem d_Mdl_actionFits_55 : decode b_Mdl_actionFits 55 = .ok (.ifCond .eq 18, 3) := by decide +kernel
theorem d_Mdl_actionFits_58 : decode b_Mdl_actionFits 58 = .ok (.iload_n 2, 1) := by decide +kernel
theorem d_Mdl_actionFits_59 : decode b_Mdl_actionFits 59 = .ok (.bipush (-100), 2) := by decide +kernel
theorem d_Mdl_actionFits_61 : decode b_Mdl_actionFits 61 = .ok (.bipush 100, 2) := by decide +kernel
theorem d_Mdl_actionFits_63 : decode b_Mdl_actionFits 63 = .ok (.invokestatic 106, 3) := by decide +kernel
theorem d_Mdl_actionFits_66 : decode b_Mdl_actionFits 66 = .ok (.ifCond .eq 7, 3) := by decide +kernel
theorem d_Mdl_actionFits_69 : decode b_Mdl_actionFits 69 = .ok (.iconst 1, 1) := by decide +kernel
theorem d_Mdl_actionFits_70 : decode b_Mdl_actionFits 70 = .ok (.goto 4, 3) := by decide +kernel
theorem d_Mdl_actionFits_73 : decode b_Mdl_actionFits 73 = .ok (.iconst 0, 1) := by decide +kernel
theorem d_Mdl_actionFits_74 : decode b_Mdl_actionFits 74 = .ok (.ireturn, 1) := by decide +kernel
theorem d_Mdl_actionFits_75 : decode b_Mdl_actionFits 75 = .ok (.iload_n 1, 1) := by decide +kernel
theorem d_Mdl_actionFits_76 : decode b_Mdl_actionFits 76 = .ok (.iconst 0, 1) := by decide +kernel
theorem d_Mdl_actionFits_77 : decode b_Mdl_actionFits 77 = .ok (.iconst 3, 1) := by decide +kernel
theorem d_Mdl_actionFits_78 : decode b_Mdl_actionFits 78 = .ok (.invokestatic 106, 3) := by decide +kernel
theorem d_Mdl_actionFits_81 : decode b_Mdl_actionFits 81 = .ok (.ifCond .eq 16, 3) := by decide +kernel
theorem d_Mdl_actionFits_84 : decode b_Mdl_actionFits 84 = .ok (.iload_n 2, 1) := by decide +kernel
theorem d_Mdl_actionFits_85 : decode b_Mdl_actionFits 85 = .ok (.iconst 0, 1) := by decide +kernel
theorem d_Mdl_actionFits_86 : decode b_Mdl_actionFits 86 = .ok (.iconst 3, 1) := by decide +kernel
theorem d_Mdl_actionFits_87 : decode b_Mdl_actionFits 87 = .ok (.invokestatic 106, 3) := by decide +kernel
theorem d_Mdl_actionFits_90 : decode b_Mdl_actionFits 90 = .ok (.ifCond .eq 7, 3) := by decide +kernel
theorem d_Mdl_actionFits_93 : decode b_Mdl_actionFits 93 = .ok (.iconst 1, 1) := by decide +kernel
theorem d_Mdl_actionFits_94 : decode b_Mdl_actionFits 94 = .ok (.goto 4, 3) := by decide +kernel
theorem d_Mdl_actionFits_97 : decode b_Mdl_actionFits 97 = .ok (.iconst 0, 1) := by decide +kernel
theorem d_Mdl_actionFits_98 : decode b_Mdl_actionFits 98 = .ok (.ireturn, 1) := by decide +kernel
theorem d_Mdl_actionFits_99 : decode b_Mdl_actionFits 99 = .ok (.iload_n 1, 1) := by decide +kernel
theorem d_Mdl_actionFits_100 : decode b_Mdl_actionFits 100 = .ok (.iconst 0, 1) := by decide +kernel
theorem d_Mdl_actionFits_101 : decode b_Mdl_actionFits 101 = .ok (.iconst 5, 1) := by decide +kernel
theorem d_Mdl_actionFits_102 : decode b_Mdl_actionFits 102 = .ok (.invokestatic 106, 3) := by decide +kernel
theorem d_Mdl_actionFits_105 : decode b_Mdl_actionFits 105 = .ok (.ifCond .eq 16, 3) := by decide +kernel
theorem d_Mdl_actionFits_108 : decode b_Mdl_actionFits 108 = .ok (.iload_n 2, 1) := by decide +kernel
theorem d_Mdl_actionFits_109 : decode b_Mdl_actionFits 109 = .ok (.iconst 0, 1) := by decide +kernel
theorem d_Mdl_actionFits_110 : decode b_Mdl_actionFits 110 = .ok (.iconst 3, 1) := by decide +kernel
theorem d_Mdl_actionFits_111 : decode b_Mdl_actionFits 111 = .ok (.invokestatic 106, 3) := by decide +kernel
theorem d_Mdl_actionFits_114 : decode b_Mdl_actionFits 114 = .ok (.ifCond .eq 7, 3) := by decide +kernel
theorem d_Mdl_actionFits_117 : decode b_Mdl_actionFits 117 = .ok (.iconst 1, 1) := by decide +kernel
theorem d_Mdl_actionFits_118 : decode b_Mdl_actionFits 118 = .ok (.goto 4, 3) := by decide +kernel
theorem d_Mdl_actionFits_121 : decode b_Mdl_actionFits 121 = .ok (.iconst 0, 1) := by decide +kernel
theorem d_Mdl_actionFits_122 : decode b_Mdl_actionFits 122 = .ok (.ireturn, 1) := by decide +kernel
theorem d_Mdl_actionFits_123 : decode b_Mdl_actionFits 123 = .ok (.iconst 0, 1) := by decide +kernel
theorem d_Mdl_actionFits_124 : decode b_Mdl_actionFits 124 = .ok (.ireturn, 1) := by decide +kernel
theorem d_Mdl_offer_0 : decode b_Mdl_offer 0 = .ok (.aload_n 0, 1) := by decide +kernel
theorem d_Mdl_offer_1 : decode b_Mdl_offer 1 = .ok (.iconst 0, 1) := by decide +kernel
theorem d_Mdl_offer_2 : decode b_Mdl_offer 2 = .ok (.putfield 102, 3) := by decide +kernel
theorem d_Mdl_offer_5 : decode b_Mdl_offer 5 = .ok (.aload_n 0, 1) := by decide +kernel
theorem d_Mdl_offer_6 : decode b_Mdl_offer 6 = .ok (.iload_n 1, 1) := by decide +kernel
theorem d_Mdl_offer_7 : decode b_Mdl_offer 7 = .ok (.invokevirtual 114, 3) := by decide +kernel
theorem d_Mdl_offer_10 : decode b_Mdl_offer 10 = .ok (.ifCond .eq 9, 3) := by decide +kernel
theorem d_Mdl_offer_13 : decode b_Mdl_offer 13 = .ok (.aload_n 0, 1) := by decide +kernel
theorem d_Mdl_offer_14 : decode b_Mdl_offer 14 = .ok (.iconst 1, 1) := by decide +kernel
theorem d_Mdl_offer_15 : decode b_Mdl_offer 15 = .ok (.invokevirtual 110, 3) := by decide +kernel
theorem d_Mdl_offer_18 : decode b_Mdl_offer 18 = .ok (.ireturn, 1) := by decide +kernel
theorem d_Mdl_offer_19 : decode b_Mdl_offer 19 = .ok (.iload_n 2, 1) := by decide +kernel
theorem d_Mdl_offer_20 : decode b_Mdl_offer 20 = .ok (.iload_n 3, 1) := by decide +kernel
theorem d_Mdl_offer_21 : decode b_Mdl_offer 21 = .ok (.iload 4, 2) := by decide +kernel
theorem d_Mdl_offer_23 : decode b_Mdl_offer 23 = .ok (.iload 5, 2) := by decide +kernel
theorem d_Mdl_offer_25 : decode b_Mdl_offer 25 = .ok (.invokestatic 145, 3) := by decide +kernel
theorem d_Mdl_offer_28 : decode b_Mdl_offer 28 = .ok (.ifCond .ne 9, 3) := by decide +kernel
theorem d_Mdl_offer_31 : decode b_Mdl_offer 31 = .ok (.aload_n 0, 1) := by decide +kernel
theorem d_Mdl_offer_32 : decode b_Mdl_offer 32 = .ok (.iconst 2, 1) := by decide +kernel
theorem d_Mdl_offer_33 : decode b_Mdl_offer 33 = .ok (.invokevirtual 110, 3) := by decide +kernel
theorem d_Mdl_offer_36 : decode b_Mdl_offer 36 = .ok (.ireturn, 1) := by decide +kernel
theorem d_Mdl_offer_37 : decode b_Mdl_offer 37 = .ok (.aload_n 0, 1) := by decide +kernel
theorem d_Mdl_offer_38 : decode b_Mdl_offer 38 = .ok (.getfield 62, 3) := by decide +kernel
theorem d_Mdl_offer_41 : decode b_Mdl_offer 41 = .ok (.iload_n 2, 1) := by decide +kernel
theorem d_Mdl_offer_42 : decode b_Mdl_offer 42 = .ok (.iaload, 1) := by decide +kernel
theorem d_Mdl_offer_43 : decode b_Mdl_offer 43 = .ok (.ifCond .ge 7, 3) := by decide +kernel
theorem d_Mdl_offer_46 : decode b_Mdl_offer 46 = .ok (.iconst 1, 1) := by decide +kernel
theorem d_Mdl_offer_47 : decode b_Mdl_offer 47 = .ok (.goto 4, 3) := by decide +kernel
theorem d_Mdl_offer_50 : decode b_Mdl_offer 50 = .ok (.iconst 0, 1) := by decide +kernel
theorem d_Mdl_offer_51 : decode b_Mdl_offer 51 = .ok (.istore 6, 2) := by decide +kernel
theorem d_Mdl_offer_53 : decode b_Mdl_offer 53 = .ok (.aload_n 0, 1) := by decide +kernel
theorem d_Mdl_offer_54 : decode b_Mdl_offer 54 = .ok (.getfield 62, 3) := by decide +kernel
theorem d_Mdl_offer_57 : decode b_Mdl_offer 57 = .ok (.iload_n 2, 1) := by decide +kernel
theorem d_Mdl_offer_58 : decode b_Mdl_offer 58 = .ok (.iload_n 1, 1) := by decide +kernel
theorem d_Mdl_offer_59 : decode b_Mdl_offer 59 = .ok (.iastore, 1) := by decide +kernel
theorem d_Mdl_offer_60 : decode b_Mdl_offer 60 = .ok (.aload_n 0, 1) := by decide +kernel
theorem d_Mdl_offer_61 : decode b_Mdl_offer 61 = .ok (.getfield 65, 3) := by decide +kernel
theorem d_Mdl_offer_64 : decode b_Mdl_offer 64 = .ok (.iload_n 2, 1) := by decide +kernel
theorem d_Mdl_offer_65 : decode b_Mdl_offer 65 = .ok (.iload_n 3, 1) := by decide +kernel
theorem d_Mdl_offer_66 : decode b_Mdl_offer 66 = .ok (.iastore, 1) := by decide +kernel
theorem d_Mdl_offer_67 : decode b_Mdl_offer 67 = .ok (.aload_n 0, 1) := by decide +kernel
theorem d_Mdl_offer_68 : decode b_Mdl_offer 68 = .ok (.getfield 68, 3) := by decide +kernel
theorem d_Mdl_offer_71 : decode b_Mdl_offer 71 = .ok (.iload_n 2, 1) := by decide +kernel
theorem d_Mdl_offer_72 : decode b_Mdl_offer 72 = .ok (.iload 4, 2) := by decide +kernel
theorem d_Mdl_offer_74 : decode b_Mdl_offer 74 = .ok (.iastore, 1) := by decide +kernel
theorem d_Mdl_offer_75 : decode b_Mdl_offer 75 = .ok (.aload_n 0, 1) := by decide +kernel
theorem d_Mdl_offer_76 : decode b_Mdl_offer 76 = .ok (.getfield 71, 3) := by decide +kernel
theorem d_Mdl_offer_79 : decode b_Mdl_offer 79 = .ok (.iload_n 2, 1) := by decide +kernel
theorem d_Mdl_offer_80 : decode b_Mdl_offer 80 = .ok (.iload 5, 2) := by decide +kernel
theorem d_Mdl_offer_82 : decode b_Mdl_offer 82 = .ok (.iastore, 1) := by decide +kernel
theorem d_Mdl_offer_83 : decode b_Mdl_offer 83 = .ok (.iload 6, 2) := by decide +kernel
theorem d_Mdl_offer_85 : decode b_Mdl_offer 85 = .ok (.ifCond .eq 7, 3) := by decide +kernel
theorem d_Mdl_offer_88 : decode b_Mdl_offer 88 = .ok (.iconst 1, 1) := by decide +kernel
theorem d_Mdl_offer_89 : decode b_Mdl_offer 89 = .ok (.goto 4, 3) := by decide +kernel
theorem d_Mdl_offer_92 : decode b_Mdl_offer 92 = .ok (.iconst 0, 1) := by decide +kernel
theorem d_Mdl_offer_93 : decode b_Mdl_offer 93 = .ok (.ireturn, 1) := by decide +kernel
theorem d_Mdl_serviceFits_0 : decode b_Mdl_serviceFits 0 = .ok (.iload_n 3, 1) := by decide +kernel
theorem d_Mdl_serviceFits_1 : decode b_Mdl_serviceFits 1 = .ok (.sipush (-1000), 3) := by decide +kernel
theorem d_Mdl_serviceFits_4 : decode b_Mdl_serviceFits 4 = .ok (.sipush 1000, 3) := by decide +kernel
theorem d_Mdl_serviceFits_7 : decode b_Mdl_serviceFits 7 = .ok (.invokestatic 106, 3) := by decide +kernel
theorem d_Mdl_serviceFits_10 : decode b_Mdl_serviceFits 10 = .ok (.ifCond .eq 12, 3) := by decide +kernel
theorem d_Mdl_serviceFits_13 : decode b_Mdl_serviceFits 13 = .ok (.iload_n 0, 1) := by decide +kernel
theorem d_Mdl_serviceFits_14 : decode b_Mdl_serviceFits 14 = .ok (.iconst 0, 1) := by decide +kernel
theorem d_Mdl_serviceFits_15 : decode b_Mdl_serviceFits 15 = .ok (.iconst 3, 1) := by decide +kernel
theorem d_Mdl_serviceFits_16 : decode b_Mdl_serviceFits 16 = .ok (.invokestatic 106, 3) := by decide +kernel
theorem d_Mdl_serviceFits_19 : decode b_Mdl_serviceFits 19 = .ok (.ifCond .ne 5, 3) := by decide +kernel
theorem d_Mdl_serviceFits_22 : decode b_Mdl_serviceFits 22 = .ok (.iconst 0, 1) := by decide +kernel
theorem d_Mdl_serviceFits_23 : decode b_Mdl_serviceFits 23 = .ok (.ireturn, 1) := by decide +kernel
theorem d_Mdl_serviceFits_24 : decode b_Mdl_serviceFits 24 = .ok (.iload_n 1, 1) := by decide +kernel
theorem d_Mdl_serviceFits_25 : decode b_Mdl_serviceFits 25 = .ok (.ifCond .ne 12, 3) := by decide +kernel
theorem d_Mdl_serviceFits_28 : decode b_Mdl_serviceFits 28 = .ok (.iload_n 2, 1) := by decide +kernel
theorem d_Mdl_serviceFits_29 : decode b_Mdl_serviceFits 29 = .ok (.bipush (-100), 2) := by decide +kernel
theorem d_Mdl_serviceFits_31 : decode b_Mdl_serviceFits 31 = .ok (.bipush 100, 2) := by decide +kernel
theorem d_Mdl_serviceFits_33 : decode b_Mdl_serviceFits 33 = .ok (.invokestatic 106, 3) := by decide +kernel
theorem d_Mdl_serviceFits_36 : decode b_Mdl_serviceFits 36 = .ok (.ireturn, 1) := by decide +kernel
theorem d_Mdl_serviceFits_37 : decode b_Mdl_serviceFits 37 = .ok (.iload_n 1, 1) := by decide +kernel
theorem d_Mdl_serviceFits_38 : decode b_Mdl_serviceFits 38 = .ok (.iconst 3, 1) := by decide +kernel
theorem d_Mdl_serviceFits_39 : decode b_Mdl_serviceFits 39 = .ok (.if_icmp .ne 12, 3) := by decide +kernel
theorem d_Mdl_serviceFits_42 : decode b_Mdl_serviceFits 42 = .ok (.iload_n 2, 1) := by decide +kernel
theorem d_Mdl_serviceFits_43 : decode b_Mdl_serviceFits 43 = .ok (.iconst 0, 1) := by decide +kernel
theorem d_Mdl_serviceFits_44 : decode b_Mdl_serviceFits 44 = .ok (.iload_n 0, 1) := by decide +kernel
theorem d_Mdl_serviceFits_45 : decode b_Mdl_serviceFits 45 = .ok (.iconst 1, 1) := by decide +kernel
theorem d_Mdl_serviceFits_46 : decode b_Mdl_serviceFits 46 = .ok (.isub, 1) := by decide +kernel
theorem d_Mdl_serviceFits_47 : decode b_Mdl_serviceFits 47 = .ok (.invokestatic 106, 3) := by decide +kernel
theorem d_Mdl_serviceFits_50 : decode b_Mdl_serviceFits 50 = .ok (.ireturn, 1) := by decide +kernel
theorem d_Mdl_serviceFits_51 : decode b_Mdl_serviceFits 51 = .ok (.iload_n 1, 1) := by decide +kernel
theorem d_Mdl_serviceFits_52 : decode b_Mdl_serviceFits 52 = .ok (.iconst 1, 1) := by decide +kernel
theorem d_Mdl_serviceFits_53 : decode b_Mdl_serviceFits 53 = .ok (.iconst 2, 1) := by decide +kernel
theorem d_Mdl_serviceFits_54 : decode b_Mdl_serviceFits 54 = .ok (.invokestatic 106, 3) := by decide +kernel
theorem d_Mdl_serviceFits_57 : decode b_Mdl_serviceFits 57 = .ok (.ifCond .eq 16, 3) := by decide +kernel
theorem d_Mdl_serviceFits_60 : decode b_Mdl_serviceFits 60 = .ok (.iload_n 2, 1) := by decide +kernel
theorem d_Mdl_serviceFits_61 : decode b_Mdl_serviceFits 61 = .ok (.iconst 0, 1) := by decide +kernel
theorem d_Mdl_serviceFits_62 : decode b_Mdl_serviceFits 62 = .ok (.iconst 3, 1) := by decide +kernel
theorem d_Mdl_serviceFits_63 : decode b_Mdl_serviceFits 63 = .ok (.invokestatic 106, 3) := by decide +kernel
theorem d_Mdl_serviceFits_66 : decode b_Mdl_serviceFits 66 = .ok (.ifCond .eq 7, 3) := by decide +kernel
theorem d_Mdl_serviceFits_69 : decode b_Mdl_serviceFits 69 = .ok (.iconst 1, 1) := by decide +kernel
theorem d_Mdl_serviceFits_70 : decode b_Mdl_serviceFits 70 = .ok (.goto 4, 3) := by decide +kernel
theorem d_Mdl_serviceFits_73 : decode b_Mdl_serviceFits 73 = .ok (.iconst 0, 1) := by decide +kernel
theorem d_Mdl_serviceFits_74 : decode b_Mdl_serviceFits 74 = .ok (.ireturn, 1) := by decide +kernel
theorem d_Mdl_call_0 : decode b_Mdl_call 0 = .ok (.aload_n 0, 1) := by decide +kernel
theorem d_Mdl_call_1 : decode b_Mdl_call 1 = .ok (.iconst 0, 1) := by decide +kernel
theorem d_Mdl_call_2 : decode b_Mdl_call 2 = .ok (.putfield 102, 3) := by decide +kernel
theorem d_Mdl_call_5 : decode b_Mdl_call 5 = .ok (.iload_n 1, 1) := by decide +kernel
theorem d_Mdl_call_6 : decode b_Mdl_call 6 = .ok (.iconst 0, 1) := by decide +kernel
theorem d_Mdl_call_7 : decode b_Mdl_call 7 = .ok (.iconst 3, 1) := by decide +kernel
theorem d_Mdl_call_8 : decode b_Mdl_call 8 = .ok (.invokestatic 106, 3) := by decide +kernel
theorem d_Mdl_call_11 : decode b_Mdl_call 11 = .ok (.ifCond .ne 9, 3) := by decide +kernel
theorem d_Mdl_call_14 : decode b_Mdl_call 14 = .ok (.aload_n 0, 1) := by decide +kernel
theorem d_Mdl_call_15 : decode b_Mdl_call 15 = .ok (.iconst 1, 1) := by decide +kernel
theorem d_Mdl_call_16 : decode b_Mdl_call 16 = .ok (.invokevirtual 110, 3) := by decide +kernel
theorem d_Mdl_call_19 : decode b_Mdl_call 19 = .ok (.ireturn, 1) := by decide +kernel
theorem d_Mdl_call_20 : decode b_Mdl_call 20 = .ok (.aload_n 0, 1) := by decide +kernel
theorem d_Mdl_call_21 : decode b_Mdl_call 21 = .ok (.iload_n 1, 1) := by decide +kernel
theorem d_Mdl_call_22 : decode b_Mdl_call 22 = .ok (.iload_n 2, 1) := by decide +kernel
theorem d_Mdl_call_23 : decode b_Mdl_call 23 = .ok (.invokevirtual 152, 3) := by decide +kernel
theorem d_Mdl_call_26 : decode b_Mdl_call 26 = .ok (.istore_n 3, 1) := by decide +kernel
theorem d_Mdl_call_27 : decode b_Mdl_call 27 = .ok (.aload_n 0, 1) := by decide +kernel
theorem d_Mdl_call_28 : decode b_Mdl_call 28 = .ok (.getfield 149, 3) := by decide +kernel
theorem d_Mdl_call_31 : decode b_Mdl_call 31 = .ok (.ifCond .ne 7, 3) := by decide +kernel
theorem d_Mdl_call_34 : decode b_Mdl_call 34 = .ok (.iload_n 3, 1) := by decide +kernel
theorem d_Mdl_call_35 : decode b_Mdl_call 35 = .ok (.goto 11, 3) := by decide +kernel
theorem d_Mdl_call_38 : decode b_Mdl_call 38 = .ok (.aload_n 0, 1) := by decide +kernel
theorem d_Mdl_call_39 : decode b_Mdl_call 39 = .ok (.aload_n 0, 1) := by decide +kernel
theorem d_Mdl_call_40 : decode b_Mdl_call 40 = .ok (.getfield 149, 3) := by decide +kernel
theorem d_Mdl_call_43 : decode b_Mdl_call 43 = .ok (.invokevirtual 110, 3) := by decide +kernel
theorem d_Mdl_call_46 : decode b_Mdl_call 46 = .ok (.ireturn, 1) := by decide +kernel
theorem d_Mdl_ask_0 : decode b_Mdl_ask 0 = .ok (.iload_n 1, 1) := by decide +kernel
theorem d_Mdl_ask_1 : decode b_Mdl_ask 1 = .ok (.istore_n 3, 1) := by decide +kernel
theorem d_Mdl_ask_2 : decode b_Mdl_ask 2 = .ok (.iconst 0, 1) := by decide +kernel
theorem d_Mdl_ask_3 : decode b_Mdl_ask 3 = .ok (.istore 4, 2) := by decide +kernel
theorem d_Mdl_ask_5 : decode b_Mdl_ask 5 = .ok (.aload_n 0, 1) := by decide +kernel
theorem d_Mdl_ask_6 : decode b_Mdl_ask 6 = .ok (.iconst 0, 1) := by decide +kernel
theorem d_Mdl_ask_7 : decode b_Mdl_ask 7 = .ok (.putfield 149, 3) := by decide +kernel
theorem d_Mdl_ask_10 : decode b_Mdl_ask 10 = .ok (.aload_n 0, 1) := by decide +kernel
theorem d_Mdl_ask_11 : decode b_Mdl_ask 11 = .ok (.getfield 62, 3) := by decide +kernel
theorem d_Mdl_ask_14 : decode b_Mdl_ask 14 = .ok (.iload_n 3, 1) := by decide +kernel
theorem d_Mdl_ask_15 : decode b_Mdl_ask 15 = .ok (.iaload, 1) := by decide +kernel
theorem d_Mdl_ask_16 : decode b_Mdl_ask 16 = .ok (.ifCond .lt 34, 3) := by decide +kernel
theorem d_Mdl_ask_19 : decode b_Mdl_ask 19 = .ok (.aload_n 0, 1) := by decide +kernel
theorem d_Mdl_ask_20 : decode b_Mdl_ask 20 = .ok (.getfield 65, 3) := by decide +kernel
theorem d_Mdl_ask_23 : decode b_Mdl_ask 23 = .ok (.iload_n 3, 1) := by decide +kernel
theorem d_Mdl_ask_24 : decode b_Mdl_ask 24 = .ok (.iaload, 1) := by decide +kernel
theorem d_Mdl_ask_25 : decode b_Mdl_ask 25 = .ok (.iconst 3, 1) := by decide +kernel
theorem d_Mdl_ask_26 : decode b_Mdl_ask 26 = .ok (.if_icmp .ne 24, 3) := by decide +kernel
theorem d_Mdl_ask_29 : decode b_Mdl_ask 29 = .ok (.iload 4, 2) := by decide +kernel
theorem d_Mdl_ask_31 : decode b_Mdl_ask 31 = .ok (.aload_n 0, 1) := by decide +kernel
theorem d_Mdl_ask_32 : decode b_Mdl_ask 32 = .ok (.getfield 71, 3) := by decide +kernel
theorem d_Mdl_ask_35 : decode b_Mdl_ask 35 = .ok (.iload_n 3, 1) := by decide +kernel
theorem d_Mdl_ask_36 : decode b_Mdl_ask 36 = .ok (.iaload, 1) := by decide +kernel
theorem d_Mdl_ask_37 : decode b_Mdl_ask 37 = .ok (.iadd, 1) := by decide +kernel
theorem d_Mdl_ask_38 : decode b_Mdl_ask 38 = .ok (.istore 4, 2) := by decide +kernel
theorem d_Mdl_ask_40 : decode b_Mdl_ask 40 = .ok (.aload_n 0, 1) := by decide +kernel
theorem d_Mdl_ask_41 : decode b_Mdl_ask 41 = .ok (.getfield 68, 3) := by decide +kernel
theorem d_Mdl_ask_44 : decode b_Mdl_ask 44 = .ok (.iload_n 3, 1) := by decide +kernel
theorem d_Mdl_ask_45 : decode b_Mdl_ask 45 = .ok (.iaload, 1) := by decide +kernel
theorem d_Mdl_ask_46 : decode b_Mdl_ask 46 = .ok (.istore_n 3, 1) := by decide +kernel
theorem d_Mdl_ask_47 : decode b_Mdl_ask 47 = .ok (.goto (-37), 3) := by decide +kernel
theorem d_Mdl_ask_50 : decode b_Mdl_ask 50 = .ok (.aload_n 0, 1) := by decide +kernel
theorem d_Mdl_ask_51 : decode b_Mdl_ask 51 = .ok (.getfield 62, 3) := by decide +kernel
theorem d_Mdl_ask_54 : decode b_Mdl_ask 54 = .ok (.iload_n 3, 1) := by decide +kernel
theorem d_Mdl_ask_55 : decode b_Mdl_ask 55 = .ok (.iaload, 1) := by decide +kernel
theorem d_Mdl_ask_56 : decode b_Mdl_ask 56 = .ok (.ifCond .ge 10, 3) := by decide +kernel
theorem d_Mdl_ask_59 : decode b_Mdl_ask 59 = .ok (.aload_n 0, 1) := by decide +kernel
theorem d_Mdl_ask_60 : decode b_Mdl_ask 60 = .ok (.iconst 2, 1) := by decide +kernel
theorem d_Mdl_ask_61 : decode b_Mdl_ask 61 = .ok (.putfield 149, 3) := by decide +kernel
theorem d_Mdl_ask_64 : decode b_Mdl_ask 64 = .ok (.iconst 0, 1) := by decide +kernel
theorem d_Mdl_ask_65 : decode b_Mdl_ask 65 = .ok (.ireturn, 1) := by decide +kernel
theorem d_Mdl_ask_66 : decode b_Mdl_ask 66 = .ok (.iconst 4, 1) := by decide +kernel
theorem d_Mdl_ask_67 : decode b_Mdl_ask 67 = .ok (.aload_n 0, 1) := by decide +kernel
theorem d_Mdl_ask_68 : decode b_Mdl_ask 68 = .ok (.getfield 62, 3) := by decide +kernel
theorem d_Mdl_ask_71 : decode b_Mdl_ask 71 = .ok (.iload_n 3, 1) := by decide +kernel
theorem d_Mdl_ask_72 : decode b_Mdl_ask 72 = .ok (.iaload, 1) := by decide +kernel
theorem d_Mdl_ask_73 : decode b_Mdl_ask 73 = .ok (.imul, 1) := by decide +kernel
theorem d_Mdl_ask_74 : decode b_Mdl_ask 74 = .ok (.aload_n 0, 1) := by decide +kernel
theorem d_Mdl_ask_75 : decode b_Mdl_ask 75 = .ok (.getfield 65, 3) := by decide +kernel
theorem d_Mdl_ask_78 : decode b_Mdl_ask 78 = .ok (.iload_n 3, 1) := by decide +kernel
theorem d_Mdl_ask_79 : decode b_Mdl_ask 79 = .ok (.iaload, 1) := by decide +kernel
theorem d_Mdl_ask_80 : decode b_Mdl_ask 80 = .ok (.ifCond .ne 7, 3) := by decide +kernel
theorem d_Mdl_ask_83 : decode b_Mdl_ask 83 = .ok (.iconst 0, 1) := by decide +kernel
theorem d_Mdl_ask_84 : decode b_Mdl_ask 84 = .ok (.goto 9, 3) := by decide +kernel
theorem d_Mdl_ask_87 : decode b_Mdl_ask 87 = .ok (.aload_n 0, 1) := by decide +kernel
theorem d_Mdl_ask_88 : decode b_Mdl_ask 88 = .ok (.getfield 68, 3) := by decide +kernel
theorem d_Mdl_ask_91 : decode b_Mdl_ask 91 = .ok (.iload_n 3, 1) := by decide +kernel
theorem d_Mdl_ask_92 : decode b_Mdl_ask 92 = .ok (.iaload, 1) := by decide +kernel
theorem d_Mdl_ask_93 : decode b_Mdl_ask 93 = .ok (.iadd, 1) := by decide +kernel
theorem d_Mdl_ask_94 : decode b_Mdl_ask 94 = .ok (.istore 5, 2) := by decide +kernel
theorem d_Mdl_ask_96 : decode b_Mdl_ask 96 = .ok (.aload_n 0, 1) := by decide +kernel
theorem d_Mdl_ask_97 : decode b_Mdl_ask 97 = .ok (.getfield 65, 3) := by decide +kernel
theorem d_Mdl_ask_100 : decode b_Mdl_ask 100 = .ok (.iload_n 3, 1) := by decide +kernel
theorem d_Mdl_ask_101 : decode b_Mdl_ask 101 = .ok (.iaload, 1) := by decide +kernel
theorem d_Mdl_ask_102 : decode b_Mdl_ask 102 = .ok (.ifCond .ne 22, 3) := by decide +kernel
theorem d_Mdl_ask_105 : decode b_Mdl_ask 105 = .ok (.aload_n 0, 1) := by decide +kernel
theorem d_Mdl_ask_106 : decode b_Mdl_ask 106 = .ok (.getfield 68, 3) := by decide +kernel
theorem d_Mdl_ask_109 : decode b_Mdl_ask 109 = .ok (.iload_n 3, 1) := by decide +kernel
theorem d_Mdl_ask_110 : decode b_Mdl_ask 110 = .ok (.iaload, 1) := by decide +kernel
theorem d_Mdl_ask_111 : decode b_Mdl_ask 111 = .ok (.iload_n 2, 1) := by decide +kernel
theorem d_Mdl_ask_112 : decode b_Mdl_ask 112 = .ok (.imul, 1) := by decide +kernel
theorem d_Mdl_ask_113 : decode b_Mdl_ask 113 = .ok (.aload_n 0, 1) := by decide +kernel
theorem d_Mdl_ask_114 : decode b_Mdl_ask 114 = .ok (.getfield 71, 3) := by decide +kernel
theorem d_Mdl_ask_117 : decode b_Mdl_ask 117 = .ok (.iload_n 3, 1) := by decide +kernel
theorem d_Mdl_ask_118 : decode b_Mdl_ask 118 = .ok (.iaload, 1) := by decide +kernel
theorem d_Mdl_ask_119 : decode b_Mdl_ask 119 = .ok (.iadd, 1) := by decide +kernel
theorem d_Mdl_ask_120 : decode b_Mdl_ask 120 = .ok (.iload 4, 2) := by decide +kernel
theorem d_Mdl_ask_122 : decode b_Mdl_ask 122 = .ok (.iadd, 1) := by decide +kernel
theorem d_Mdl_ask_123 : decode b_Mdl_ask 123 = .ok (.ireturn, 1) := by decide +kernel
theorem d_Mdl_ask_124 : decode b_Mdl_ask 124 = .ok (.aload_n 0, 1) := by decide +kernel
theorem d_Mdl_ask_125 : decode b_Mdl_ask 125 = .ok (.getfield 65, 3) := by decide +kernel
theorem d_Mdl_ask_128 : decode b_Mdl_ask 128 = .ok (.iload_n 3, 1) := by decide +kernel
theorem d_Mdl_ask_129 : decode b_Mdl_ask 129 = .ok (.iaload, 1) := by decide +kernel
theorem d_Mdl_ask_130 : decode b_Mdl_ask 130 = .ok (.iconst 1, 1) := by decide +kernel
theorem d_Mdl_ask_131 : decode b_Mdl_ask 131 = .ok (.if_icmp .ne 25, 3) := by decide +kernel
theorem d_Mdl_ask_134 : decode b_Mdl_ask 134 = .ok (.aload_n 0, 1) := by decide +kernel
theorem d_Mdl_ask_135 : decode b_Mdl_ask 135 = .ok (.getfield 13, 3) := by decide +kernel
theorem d_Mdl_ask_138 : decode b_Mdl_ask 138 = .ok (.iload 5, 2) := by decide +kernel
theorem d_Mdl_ask_140 : decode b_Mdl_ask 140 = .ok (.dup2, 1) := by decide +kernel
theorem d_Mdl_ask_141 : decode b_Mdl_ask 141 = .ok (.iaload, 1) := by decide +kernel
theorem d_Mdl_ask_142 : decode b_Mdl_ask 142 = .ok (.iload_n 2, 1) := by decide +kernel
theorem d_Mdl_ask_143 : decode b_Mdl_ask 143 = .ok (.iadd, 1) := by decide +kernel
theorem d_Mdl_ask_144 : decode b_Mdl_ask 144 = .ok (.iastore, 1) := by decide +kernel
theorem d_Mdl_ask_145 : decode b_Mdl_ask 145 = .ok (.aload_n 0, 1) := by decide +kernel
theorem d_Mdl_ask_146 : decode b_Mdl_ask 146 = .ok (.getfield 13, 3) := by decide +kernel
theorem d_Mdl_ask_149 : decode b_Mdl_ask 149 = .ok (.iload 5, 2) := by decide +kernel
theorem d_Mdl_ask_151 : decode b_Mdl_ask 151 = .ok (.iaload, 1) := by decide +kernel
theorem d_Mdl_ask_152 : decode b_Mdl_ask 152 = .ok (.iload 4, 2) := by decide +kernel
theorem d_Mdl_ask_154 : decode b_Mdl_ask 154 = .ok (.iadd, 1) := by decide +kernel
theorem d_Mdl_ask_155 : decode b_Mdl_ask 155 = .ok (.ireturn, 1) := by decide +kernel
theorem d_Mdl_ask_156 : decode b_Mdl_ask 156 = .ok (.aload_n 0, 1) := by decide +kernel
theorem d_Mdl_ask_157 : decode b_Mdl_ask 157 = .ok (.getfield 13, 3) := by decide +kernel
theorem d_Mdl_ask_160 : decode b_Mdl_ask 160 = .ok (.iload 5, 2) := by decide +kernel
theorem d_Mdl_ask_162 : decode b_Mdl_ask 162 = .ok (.iaload, 1) := by decide +kernel
theorem d_Mdl_ask_163 : decode b_Mdl_ask 163 = .ok (.ifCond .ne 10, 3) := by decide +kernel
theorem d_Mdl_ask_166 : decode b_Mdl_ask 166 = .ok (.aload_n 0, 1) := by decide +kernel
theorem d_Mdl_ask_167 : decode b_Mdl_ask 167 = .ok (.iconst 3, 1) := by decide +kernel
theorem d_Mdl_ask_168 : decode b_Mdl_ask 168 = .ok (.putfield 149, 3) := by decide +kernel
theorem d_Mdl_ask_171 : decode b_Mdl_ask 171 = .ok (.iconst 0, 1) := by decide +kernel
theorem d_Mdl_ask_172 : decode b_Mdl_ask 172 = .ok (.ireturn, 1) := by decide +kernel
theorem d_Mdl_ask_173 : decode b_Mdl_ask 173 = .ok (.iload_n 2, 1) := by decide +kernel
theorem d_Mdl_ask_174 : decode b_Mdl_ask 174 = .ok (.aload_n 0, 1) := by decide +kernel
theorem d_Mdl_ask_175 : decode b_Mdl_ask 175 = .ok (.getfield 13, 3) := by decide +kernel
theorem d_Mdl_ask_178 : decode b_Mdl_ask 178 = .ok (.iload 5, 2) := by decide +kernel
theorem d_Mdl_ask_180 : decode b_Mdl_ask 180 = .ok (.iaload, 1) := by decide +kernel
theorem d_Mdl_ask_181 : decode b_Mdl_ask 181 = .ok (.idiv, 1) := by decide +kernel
theorem d_Mdl_ask_182 : decode b_Mdl_ask 182 = .ok (.iload 4, 2) := by decide +kernel
theorem d_Mdl_ask_184 : decode b_Mdl_ask 184 = .ok (.iadd, 1) := by decide +kernel
theorem d_Mdl_ask_185 : decode b_Mdl_ask 185 = .ok (.ireturn, 1) := by decide +kernel
theorem d_Mdl_tick_0 : decode b_Mdl_tick 0 = .ok (.aload_n 0, 1) := by decide +kernel
theorem d_Mdl_tick_1 : decode b_Mdl_tick 1 = .ok (.iconst 0, 1) := by decide +kernel
theorem d_Mdl_tick_2 : decode b_Mdl_tick 2 = .ok (.putfield 102, 3) := by decide +kernel
theorem d_Mdl_tick_5 : decode b_Mdl_tick 5 = .ok (.iload_n 1, 1) := by decide +kernel
theorem d_Mdl_tick_6 : decode b_Mdl_tick 6 = .ok (.iconst 1, 1) := by decide +kernel
theorem d_Mdl_tick_7 : decode b_Mdl_tick 7 = .ok (.bipush 8, 2) := by decide +kernel
theorem d_Mdl_tick_9 : decode b_Mdl_tick 9 = .ok (.invokestatic 106, 3) := by decide +kernel
theorem d_Mdl_tick_12 : decode b_Mdl_tick 12 = .ok (.ifCond .ne 9, 3) := by decide +kernel
theorem d_Mdl_tick_15 : decode b_Mdl_tick 15 = .ok (.aload_n 0, 1) := by decide +kernel
theorem d_Mdl_tick_16 : decode b_Mdl_tick 16 = .ok (.iconst 1, 1) := by decide +kernel
theorem d_Mdl_tick_17 : decode b_Mdl_tick 17 = .ok (.invokevirtual 110, 3) := by decide +kernel
theorem d_Mdl_tick_20 : decode b_Mdl_tick 20 = .ok (.ireturn, 1) := by decide +kernel
theorem d_Mdl_tick_21 : decode b_Mdl_tick 21 = .ok (.iconst 0, 1) := by decide +kernel
theorem d_Mdl_tick_22 : decode b_Mdl_tick 22 = .ok (.istore_n 2, 1) := by decide +kernel
theorem d_Mdl_tick_23 : decode b_Mdl_tick 23 = .ok (.iload_n 2, 1) := by decide +kernel
theorem d_Mdl_tick_24 : decode b_Mdl_tick 24 = .ok (.iload_n 1, 1) := by decide +kernel
theorem d_Mdl_tick_25 : decode b_Mdl_tick 25 = .ok (.if_icmp .ge 51, 3) := by decide +kernel
theorem d_Mdl_tick_28 : decode b_Mdl_tick 28 = .ok (.aload_n 0, 1) := by decide +kernel
theorem d_Mdl_tick_29 : decode b_Mdl_tick 29 = .ok (.dup, 1) := by decide +kernel
theorem d_Mdl_tick_30 : decode b_Mdl_tick 30 = .ok (.getfield 128, 3) := by decide +kernel
theorem d_Mdl_tick_33 : decode b_Mdl_tick 33 = .ok (.iconst 1, 1) := by decide +kernel
theorem d_Mdl_tick_34 : decode b_Mdl_tick 34 = .ok (.iadd, 1) := by decide +kernel
theorem d_Mdl_tick_35 : decode b_Mdl_tick 35 = .ok (.putfield 128, 3) := by decide +kernel
theorem d_Mdl_tick_38 : decode b_Mdl_tick 38 = .ok (.aload_n 0, 1) := by decide +kernel
theorem d_Mdl_tick_39 : decode b_Mdl_tick 39 = .ok (.invokevirtual 182, 3) := by decide +kernel
theorem d_Mdl_tick_42 : decode b_Mdl_tick 42 = .ok (.iconst 0, 1) := by decide +kernel
theorem d_Mdl_tick_43 : decode b_Mdl_tick 43 = .ok (.istore_n 3, 1) := by decide +kernel
theorem d_Mdl_tick_44 : decode b_Mdl_tick 44 = .ok (.iload_n 3, 1) := by decide +kernel
theorem d_Mdl_tick_45 : decode b_Mdl_tick 45 = .ok (.bipush 6, 2) := by decide +kernel
theorem d_Mdl_tick_47 : decode b_Mdl_tick 47 = .ok (.if_icmp .ge 23, 3) := by decide +kernel
theorem d_Mdl_tick_50 : decode b_Mdl_tick 50 = .ok (.aload_n 0, 1) := by decide +kernel
theorem d_Mdl_tick_51 : decode b_Mdl_tick 51 = .ok (.getfield 7, 3) := by decide +kernel
theorem d_Mdl_tick_54 : decode b_Mdl_tick 54 = .ok (.iload_n 3, 1) := by decide +kernel
theorem d_Mdl_tick_55 : decode b_Mdl_tick 55 = .ok (.baload, 1) := by decide +kernel
theorem d_Mdl_tick_56 : decode b_Mdl_tick 56 = .ok (.ifCond .eq 8, 3) := by decide +kernel
theorem d_Mdl_tick_59 : decode b_Mdl_tick 59 = .ok (.aload_n 0, 1) := by decide +kernel
theorem d_Mdl_tick_60 : decode b_Mdl_tick 60 = .ok (.iload_n 3, 1) := by decide +kernel
theorem d_Mdl_tick_61 : decode b_Mdl_tick 61 = .ok (.invokevirtual 185, 3) := by decide +kernel
theorem d_Mdl_tick_64 : decode b_Mdl_tick 64 = .ok (.iinc 3 1, 3) := by decide +kernel
theorem d_Mdl_tick_67 : decode b_Mdl_tick 67 = .ok (.goto (-23), 3) := by decide +kernel
theorem d_Mdl_tick_70 : decode b_Mdl_tick 70 = .ok (.iinc 2 1, 3) := by decide +kernel
theorem d_Mdl_tick_73 : decode b_Mdl_tick 73 = .ok (.goto (-50), 3) := by decide +kernel
theorem d_Mdl_tick_76 : decode b_Mdl_tick 76 = .ok (.aload_n 0, 1) := by decide +kernel
theorem d_Mdl_tick_77 : decode b_Mdl_tick 77 = .ok (.getfield 128, 3) := by decide +kernel
theorem d_Mdl_tick_80 : decode b_Mdl_tick 80 = .ok (.ireturn, 1) := by decide +kernel
theorem d_Mdl_playDue_0 : decode b_Mdl_playDue 0 = .ok (.aload_n 0, 1) := by decide +kernel
theorem d_Mdl_playDue_1 : decode b_Mdl_playDue 1 = .ok (.getfield 156, 3) := by decide +kernel
theorem d_Mdl_playDue_4 : decode b_Mdl_playDue 4 = .ok (.ifCond .eq 102, 3) := by decide +kernel
theorem d_Mdl_playDue_7 : decode b_Mdl_playDue 7 = .ok (.aload_n 0, 1) := by decide +kernel
theorem d_Mdl_playDue_8 : decode b_Mdl_playDue 8 = .ok (.getfield 74, 3) := by decide +kernel
theorem d_Mdl_playDue_11 : decode b_Mdl_playDue 11 = .ok (.aload_n 0, 1) := by decide +kernel
theorem d_Mdl_playDue_12 : decode b_Mdl_playDue 12 = .ok (.getfield 160, 3) := by decide +kernel
theorem d_Mdl_playDue_15 : decode b_Mdl_playDue 15 = .ok (.iaload, 1) := by decide +kernel
theorem d_Mdl_playDue_16 : decode b_Mdl_playDue 16 = .ok (.aload_n 0, 1) := by decide +kernel
theorem d_Mdl_playDue_17 : decode b_Mdl_playDue 17 = .ok (.getfield 74, 3) := by decide +kernel
theorem d_Mdl_playDue_20 : decode b_Mdl_playDue 20 = .ok (.iconst 0, 1) := by decide +kernel
theorem d_Mdl_playDue_21 : decode b_Mdl_playDue 21 = .ok (.iaload, 1) := by decide +kernel
theorem d_Mdl_playDue_22 : decode b_Mdl_playDue 22 = .ok (.isub, 1) := by decide +kernel
theorem d_Mdl_playDue_23 : decode b_Mdl_playDue 23 = .ok (.istore_n 1, 1) := by decide +kernel
theorem d_Mdl_playDue_24 : decode b_Mdl_playDue 24 = .ok (.aload_n 0, 1) := by decide +kernel
theorem d_Mdl_playDue_25 : decode b_Mdl_playDue 25 = .ok (.getfield 163, 3) := by decide +kernel
theorem d_Mdl_playDue_28 : decode b_Mdl_playDue 28 = .ok (.iload_n 1, 1) := by decide +kernel
theorem d_Mdl_playDue_29 : decode b_Mdl_playDue 29 = .ok (.aload_n 0, 1) := by decide +kernel
theorem d_Mdl_playDue_30 : decode b_Mdl_playDue 30 = .ok (.getfield 166, 3) := by decide +kernel
theorem d_Mdl_playDue_33 : decode b_Mdl_playDue 33 = .ok (.iadd, 1) := by decide +kernel
theorem d_Mdl_playDue_34 : decode b_Mdl_playDue 34 = .ok (.iconst 1, 1) := by decide +kernel
theorem d_Mdl_playDue_35 : decode b_Mdl_playDue 35 = .ok (.isub, 1) := by decide +kernel
theorem d_Mdl_playDue_36 : decode b_Mdl_playDue 36 = .ok (.aload_n 0, 1) := by decide +kernel
theorem d_Mdl_playDue_37 : decode b_Mdl_playDue 37 = .ok (.getfield 166, 3) := by decide +kernel
theorem d_Mdl_playDue_40 : decode b_Mdl_playDue 40 = .ok (.idiv, 1) := by decide +kernel
theorem d_Mdl_playDue_41 : decode b_Mdl_playDue 41 = .ok (.iadd, 1) := by decide +kernel
theorem d_Mdl_playDue_42 : decode b_Mdl_playDue 42 = .ok (.aload_n 0, 1) := by decide +kernel
theorem d_Mdl_playDue_43 : decode b_Mdl_playDue 43 = .ok (.getfield 128, 3) := by decide +kernel
theorem d_Mdl_playDue_46 : decode b_Mdl_playDue 46 = .ok (.if_icmp .le 4, 3) := by decide +kernel
theorem d_Mdl_playDue_49 : decode b_Mdl_playDue 49 = .ok (.return_, 1) := by decide +kernel
theorem d_Mdl_playDue_50 : decode b_Mdl_playDue 50 = .ok (.aload_n 0, 1) := by decide +kernel
theorem d_Mdl_playDue_51 : decode b_Mdl_playDue 51 = .ok (.getfield 160, 3) := by decide +kernel
theorem d_Mdl_playDue_54 : decode b_Mdl_playDue 54 = .ok (.istore_n 2, 1) := by decide +kernel
theorem d_Mdl_playDue_55 : decode b_Mdl_playDue 55 = .ok (.aload_n 0, 1) := by decide +kernel
theorem d_Mdl_playDue_56 : decode b_Mdl_playDue 56 = .ok (.dup, 1) := by decide +kernel
theorem d_Mdl_playDue_57 : decode b_Mdl_playDue 57 = .ok (.getfield 160, 3) := by decide +kernel
theorem d_Mdl_playDue_60 : decode b_Mdl_playDue 60 = .ok (.iconst 1, 1) := by decide +kernel
theorem d_Mdl_playDue_61 : decode b_Mdl_playDue 61 = .ok (.iadd, 1) := by decide +kernel
theorem d_Mdl_playDue_62 : decode b_Mdl_playDue 62 = .ok (.putfield 160, 3) := by decide +kernel
theorem d_Mdl_playDue_65 : decode b_Mdl_playDue 65 = .ok (.aload_n 0, 1) := by decide +kernel
theorem d_Mdl_playDue_66 : decode b_Mdl_playDue 66 = .ok (.aload_n 0, 1) := by decide +kernel
theorem d_Mdl_playDue_67 : decode b_Mdl_playDue 67 = .ok (.getfield 160, 3) := by decide +kernel
theorem d_Mdl_playDue_70 : decode b_Mdl_playDue 70 = .ok (.aload_n 0, 1) := by decide +kernel
theorem d_Mdl_playDue_71 : decode b_Mdl_playDue 71 = .ok (.getfield 169, 3) := by decide +kernel
theorem d_Mdl_playDue_74 : decode b_Mdl_playDue 74 = .ok (.if_icmp .ge 7, 3) := by decide +kernel
theorem d_Mdl_playDue_77 : decode b_Mdl_playDue 77 = .ok (.iconst 1, 1) := by decide +kernel
theorem d_Mdl_playDue_78 : decode b_Mdl_playDue 78 = .ok (.goto 4, 3) := by decide +kernel
theorem d_Mdl_playDue_81 : decode b_Mdl_playDue 81 = .ok (.iconst 0, 1) := by decide +kernel
theorem d_Mdl_playDue_82 : decode b_Mdl_playDue 82 = .ok (.putfield 156, 3) := by decide +kernel
theorem d_Mdl_playDue_85 : decode b_Mdl_playDue 85 = .ok (.aload_n 0, 1) := by decide +kernel
theorem d_Mdl_playDue_86 : decode b_Mdl_playDue 86 = .ok (.aload_n 0, 1) := by decide +kernel
theorem d_Mdl_playDue_87 : decode b_Mdl_playDue 87 = .ok (.getfield 77, 3) := by decide +kernel
theorem d_Mdl_playDue_90 : decode b_Mdl_playDue 90 = .ok (.iload_n 2, 1) := by decide +kernel
theorem d_Mdl_playDue_91 : decode b_Mdl_playDue 91 = .ok (.iaload, 1) := by decide +kernel
theorem d_Mdl_playDue_92 : decode b_Mdl_playDue 92 = .ok (.aload_n 0, 1) := by decide +kernel
theorem d_Mdl_playDue_93 : decode b_Mdl_playDue 93 = .ok (.getfield 80, 3) := by decide +kernel
theorem d_Mdl_playDue_96 : decode b_Mdl_playDue 96 = .ok (.iload_n 2, 1) := by decide +kernel
theorem d_Mdl_playDue_97 : decode b_Mdl_playDue 97 = .ok (.iaload, 1) := by decide +kernel
theorem d_Mdl_playDue_98 : decode b_Mdl_playDue 98 = .ok (.iconst (-1), 1) := by decide +kernel
theorem d_Mdl_playDue_99 : decode b_Mdl_playDue 99 = .ok (.invokevirtual 138, 3) := by decide +kernel
theorem d_Mdl_playDue_102 : decode b_Mdl_playDue 102 = .ok (.pop, 1) := by decide +kernel
theorem d_Mdl_playDue_103 : decode b_Mdl_playDue 103 = .ok (.goto (-103), 3) := by decide +kernel
theorem d_Mdl_playDue_106 : decode b_Mdl_playDue 106 = .ok (.return_, 1) := by decide +kernel
theorem d_Mdl_spin_0 : decode b_Mdl_spin 0 = .ok (.iconst 1, 1) := by decide +kernel
theorem d_Mdl_spin_1 : decode b_Mdl_spin 1 = .ok (.istore_n 2, 1) := by decide +kernel
theorem d_Mdl_spin_2 : decode b_Mdl_spin 2 = .ok (.iload_n 2, 1) := by decide +kernel
theorem d_Mdl_spin_3 : decode b_Mdl_spin 3 = .ok (.bipush 6, 2) := by decide +kernel
theorem d_Mdl_spin_5 : decode b_Mdl_spin 5 = .ok (.if_icmp .gt 86, 3) := by decide +kernel
theorem d_Mdl_spin_8 : decode b_Mdl_spin 8 = .ok (.aload_n 0, 1) := by decide +kernel
theorem d_Mdl_spin_9 : decode b_Mdl_spin 9 = .ok (.getfield 17, 3) := by decide +kernel
theorem d_Mdl_spin_12 : decode b_Mdl_spin 12 = .ok (.iload_n 1, 1) := by decide +kernel
theorem d_Mdl_spin_13 : decode b_Mdl_spin 13 = .ok (.iaload, 1) := by decide +kernel
theorem d_Mdl_spin_14 : decode b_Mdl_spin 14 = .ok (.iload_n 2, 1) := by decide +kernel
theorem d_Mdl_spin_15 : decode b_Mdl_spin 15 = .ok (.iadd, 1) := by decide +kernel
theorem d_Mdl_spin_16 : decode b_Mdl_spin 16 = .ok (.bipush 6, 2) := by decide +kernel
theorem d_Mdl_spin_18 : decode b_Mdl_spin 18 = .ok (.irem, 1) := by decide +kernel
theorem d_Mdl_spin_19 : decode b_Mdl_spin 19 = .ok (.istore_n 3, 1) := by decide +kernel
theorem d_Mdl_spin_20 : decode b_Mdl_spin 20 = .ok (.bipush 6, 2) := by decide +kernel
theorem d_Mdl_spin_22 : decode b_Mdl_spin 22 = .ok (.iload_n 1, 1) := by decide +kernel
theorem d_Mdl_spin_23 : decode b_Mdl_spin 23 = .ok (.imul, 1) := by decide +kernel
theorem d_Mdl_spin_24 : decode b_Mdl_spin 24 = .ok (.iload_n 3, 1) := by decide +kernel
theorem d_Mdl_spin_25 : decode b_Mdl_spin 25 = .ok (.iadd, 1) := by decide +kernel
theorem d_Mdl_spin_26 : decode b_Mdl_spin 26 = .ok (.istore 4, 2) := by decide +kernel
theorem d_Mdl_spin_28 : decode b_Mdl_spin 28 = .ok (.aload_n 0, 1) := by decide +kernel
theorem d_Mdl_spin_29 : decode b_Mdl_spin 29 = .ok (.getfield 23, 3) := by decide +kernel
theorem d_Mdl_spin_32 : decode b_Mdl_spin 32 = .ok (.iload 4, 2) := by decide +kernel
theorem d_Mdl_spin_34 : decode b_Mdl_spin 34 = .ok (.iaload, 1) := by decide +kernel
theorem d_Mdl_spin_35 : decode b_Mdl_spin 35 = .ok (.ifCond .ne 6, 3) := by decide +kernel
theorem d_Mdl_spin_38 : decode b_Mdl_spin 38 = .ok (.goto 47, 3) := by decide +kernel
theorem d_Mdl_spin_41 : decode b_Mdl_spin 41 = .ok (.aload_n 0, 1) := by decide +kernel
theorem d_Mdl_spin_42 : decode b_Mdl_spin 42 = .ok (.getfield 26, 3) := by decide +kernel
theorem d_Mdl_spin_45 : decode b_Mdl_spin 45 = .ok (.iconst 4, 1) := by decide +kernel
theorem d_Mdl_spin_46 : decode b_Mdl_spin 46 = .ok (.iload 4, 2) := by decide +kernel
theorem d_Mdl_spin_48 : decode b_Mdl_spin 48 = .ok (.imul, 1) := by decide +kernel
theorem d_Mdl_spin_49 : decode b_Mdl_spin 49 = .ok (.iaload, 1) := by decide +kernel
theorem d_Mdl_spin_50 : decode b_Mdl_spin 50 = .ok (.istore 5, 2) := by decide +kernel
theorem d_Mdl_spin_52 : decode b_Mdl_spin 52 = .ok (.aload_n 0, 1) := by decide +kernel
theorem d_Mdl_spin_53 : decode b_Mdl_spin 53 = .ok (.iload 4, 2) := by decide +kernel
theorem d_Mdl_spin_55 : decode b_Mdl_spin 55 = .ok (.invokevirtual 118, 3) := by decide +kernel
theorem d_Mdl_spin_58 : decode b_Mdl_spin 58 = .ok (.aload_n 0, 1) := by decide +kernel
theorem d_Mdl_spin_59 : decode b_Mdl_spin 59 = .ok (.getfield 17, 3) := by decide +kernel
theorem d_Mdl_spin_62 : decode b_Mdl_spin 62 = .ok (.iload_n 1, 1) := by decide +kernel
theorem d_Mdl_spin_63 : decode b_Mdl_spin 63 = .ok (.iload_n 3, 1) := by decide +kernel
theorem d_Mdl_spin_64 : decode b_Mdl_spin 64 = .ok (.iastore, 1) := by decide +kernel
theorem d_Mdl_spin_65 : decode b_Mdl_spin 65 = .ok (.aload_n 0, 1) := by decide +kernel
theorem d_Mdl_spin_66 : decode b_Mdl_spin 66 = .ok (.getfield 35, 3) := by decide +kernel
theorem d_Mdl_spin_69 : decode b_Mdl_spin 69 = .ok (.iload 4, 2) := by decide +kernel
theorem d_Mdl_spin_71 : decode b_Mdl_spin 71 = .ok (.iaload, 1) := by decide +kernel
theorem d_Mdl_spin_72 : decode b_Mdl_spin 72 = .ok (.ifCond .lt 12, 3) := by decide +kernel
theorem d_Mdl_spin_75 : decode b_Mdl_spin 75 = .ok (.aload_n 0, 1) := by decide +kernel
theorem d_Mdl_spin_76 : decode b_Mdl_spin 76 = .ok (.iload_n 1, 1) := by decide +kernel
theorem d_Mdl_spin_77 : decode b_Mdl_spin 77 = .ok (.iload 4, 2) := by decide +kernel
theorem d_Mdl_spin_79 : decode b_Mdl_spin 79 = .ok (.iload 5, 2) := by decide +kernel
theorem d_Mdl_spin_81 : decode b_Mdl_spin 81 = .ok (.invokevirtual 178, 3) := by decide +kernel
theorem d_Mdl_spin_84 : decode b_Mdl_spin 84 = .ok (.return_, 1) := by decide +kernel
theorem d_Mdl_spin_85 : decode b_Mdl_spin 85 = .ok (.iinc 2 1, 3) := by decide +kernel
theorem d_Mdl_spin_88 : decode b_Mdl_spin 88 = .ok (.goto (-86), 3) := by decide +kernel
theorem d_Mdl_spin_91 : decode b_Mdl_spin 91 = .ok (.return_, 1) := by decide +kernel
theorem d_Mdl_perform_0 : decode b_Mdl_perform 0 = .ok (.aload_n 0, 1) := by decide +kernel
theorem d_Mdl_perform_1 : decode b_Mdl_perform 1 = .ok (.getfield 38, 3) := by decide +kernel
theorem d_Mdl_perform_4 : decode b_Mdl_perform 4 = .ok (.iload_n 2, 1) := by decide +kernel
theorem d_Mdl_perform_5 : decode b_Mdl_perform 5 = .ok (.iaload, 1) := by decide +kernel
theorem d_Mdl_perform_6 : decode b_Mdl_perform 6 = .ok (.istore 4, 2) := by decide +kernel
theorem d_Mdl_perform_8 : decode b_Mdl_perform 8 = .ok (.aload_n 0, 1) := by decide +kernel
theorem d_Mdl_perform_9 : decode b_Mdl_perform 9 = .ok (.getfield 41, 3) := by decide +kernel
theorem d_Mdl_perform_12 : decode b_Mdl_perform 12 = .ok (.iload_n 2, 1) := by decide +kernel
theorem d_Mdl_perform_13 : decode b_Mdl_perform 13 = .ok (.iaload, 1) := by decide +kernel
theorem d_Mdl_perform_14 : decode b_Mdl_perform 14 = .ok (.istore 5, 2) := by decide +kernel
theorem d_Mdl_perform_16 : decode b_Mdl_perform 16 = .ok (.aload_n 0, 1) := by decide +kernel
theorem d_Mdl_perform_17 : decode b_Mdl_perform 17 = .ok (.dup, 1) := by decide +kernel
theorem d_Mdl_perform_18 : decode b_Mdl_perform 18 = .ok (.getfield 172, 3) := by decide +kernel
theorem d_Mdl_perform_21 : decode b_Mdl_perform 21 = .ok (.iconst 1, 1) := by decide +kernel
theorem d_Mdl_perform_22 : decode b_Mdl_perform 22 = .ok (.iadd, 1) := by decide +kernel
theorem d_Mdl_perform_23 : decode b_Mdl_perform 23 = .ok (.putfield 172, 3) := by decide +kernel
theorem d_Mdl_perform_26 : decode b_Mdl_perform 26 = .ok (.aload_n 0, 1) := by decide +kernel
theorem d_Mdl_perform_27 : decode b_Mdl_perform 27 = .ok (.getfield 35, 3) := by decide +kernel
theorem d_Mdl_perform_30 : decode b_Mdl_perform 30 = .ok (.iload_n 2, 1) := by decide +kernel
theorem d_Mdl_perform_31 : decode b_Mdl_perform 31 = .ok (.iaload, 1) := by decide +kernel
theorem d_Mdl_perform_32 : decode b_Mdl_perform 32 = .ok (.tableswitch 125 0 3 #[32, 47, 65, 80], 32) := by decide +kernel
theorem d_Mdl_perform_64 : decode b_Mdl_perform 64 = .ok (.aload_n 0, 1) := by decide +kernel
theorem d_Mdl_perform_65 : decode b_Mdl_perform 65 = .ok (.getfield 13, 3) := by decide +kernel
theorem d_Mdl_perform_68 : decode b_Mdl_perform 68 = .ok (.iconst 4, 1) := by decide +kernel
theorem d_Mdl_perform_69 : decode b_Mdl_perform 69 = .ok (.iload_n 1, 1) := by decide +kernel
theorem d_Mdl_perform_70 : decode b_Mdl_perform 70 = .ok (.imul, 1) := by decide +kernel
theorem d_Mdl_perform_71 : decode b_Mdl_perform 71 = .ok (.iload 4, 2) := by decide +kernel
theorem d_Mdl_perform_73 : decode b_Mdl_perform 73 = .ok (.iadd, 1) := by decide +kernel
theorem d_Mdl_perform_74 : decode b_Mdl_perform 74 = .ok (.iload_n 3, 1) := by decide +kernel
theorem d_Mdl_perform_75 : decode b_Mdl_perform 75 = .ok (.iastore, 1) := by decide +kernel
theorem d_Mdl_perform_76 : decode b_Mdl_perform 76 = .ok (.goto 100, 3) := by decide +kernel
theorem d_Mdl_perform_79 : decode b_Mdl_perform 79 = .ok (.aload_n 0, 1) := by decide +kernel
theorem d_Mdl_perform_80 : decode b_Mdl_perform 80 = .ok (.getfield 13, 3) := by decide +kernel
theorem d_Mdl_perform_83 : decode b_Mdl_perform 83 = .ok (.iconst 4, 1) := by decide +kernel
theorem d_Mdl_perform_84 : decode b_Mdl_perform 84 = .ok (.iload_n 1, 1) := by decide +kernel
theorem d_Mdl_perform_85 : decode b_Mdl_perform 85 = .ok (.imul, 1) := by decide +kernel
theorem d_Mdl_perform_86 : decode b_Mdl_perform 86 = .ok (.iload 4, 2) := by decide +kernel
theorem d_Mdl_perform_88 : decode b_Mdl_perform 88 = .ok (.iadd, 1) := by decide +kernel
theorem d_Mdl_perform_89 : decode b_Mdl_perform 89 = .ok (.dup2, 1) := by decide +kernel
theorem d_Mdl_perform_90 : decode b_Mdl_perform 90 = .ok (.iaload, 1) := by decide +kernel
theorem d_Mdl_perform_91 : decode b_Mdl_perform 91 = .ok (.iload_n 3, 1) := by decide +kernel
theorem d_Mdl_perform_92 : decode b_Mdl_perform 92 = .ok (.iadd, 1) := by decide +kernel
theorem d_Mdl_perform_93 : decode b_Mdl_perform 93 = .ok (.iastore, 1) := by decide +kernel
theorem d_Mdl_perform_94 : decode b_Mdl_perform 94 = .ok (.goto 82, 3) := by decide +kernel
theorem d_Mdl_perform_97 : decode b_Mdl_perform 97 = .ok (.aload_n 0, 1) := by decide +kernel
theorem d_Mdl_perform_98 : decode b_Mdl_perform 98 = .ok (.iload 4, 2) := by decide +kernel
theorem d_Mdl_perform_100 : decode b_Mdl_perform 100 = .ok (.iload_n 3, 1) := by decide +kernel
theorem d_Mdl_perform_101 : decode b_Mdl_perform 101 = .ok (.iload 5, 2) := by decide +kernel
theorem d_Mdl_perform_103 : decode b_Mdl_perform 103 = .ok (.imul, 1) := by decide +kernel
theorem d_Mdl_perform_104 : decode b_Mdl_perform 104 = .ok (.iload_n 1, 1) := by decide +kernel
theorem d_Mdl_perform_105 : decode b_Mdl_perform 105 = .ok (.invokevirtual 138, 3) := by decide +kernel
theorem d_Mdl_perform_108 : decode b_Mdl_perform 108 = .ok (.pop, 1) := by decide +kernel
theorem d_Mdl_perform_109 : decode b_Mdl_perform 109 = .ok (.goto 67, 3) := by decide +kernel
theorem d_Mdl_perform_112 : decode b_Mdl_perform 112 = .ok (.aload_n 0, 1) := by decide +kernel
theorem d_Mdl_perform_113 : decode b_Mdl_perform 113 = .ok (.iload 4, 2) := by decide +kernel
theorem d_Mdl_perform_115 : decode b_Mdl_perform 115 = .ok (.iload_n 3, 1) := by decide +kernel
theorem d_Mdl_perform_116 : decode b_Mdl_perform 116 = .ok (.invokevirtual 152, 3) := by decide +kernel
theorem d_Mdl_perform_119 : decode b_Mdl_perform 119 = .ok (.istore 6, 2) := by decide +kernel
theorem d_Mdl_perform_121 : decode b_Mdl_perform 121 = .ok (.aload_n 0, 1) := by decide +kernel
theorem d_Mdl_perform_122 : decode b_Mdl_perform 122 = .ok (.getfield 149, 3) := by decide +kernel
theorem d_Mdl_perform_125 : decode b_Mdl_perform 125 = .ok (.ifCond .ne 19, 3) := by decide +kernel
theorem d_Mdl_perform_128 : decode b_Mdl_perform 128 = .ok (.aload_n 0, 1) := by decide +kernel
theorem d_Mdl_perform_129 : decode b_Mdl_perform 129 = .ok (.getfield 13, 3) := by decide +kernel
theorem d_Mdl_perform_132 : decode b_Mdl_perform 132 = .ok (.iconst 4, 1) := by decide +kernel
theorem d_Mdl_perform_133 : decode b_Mdl_perform 133 = .ok (.iload_n 1, 1) := by decide +kernel
theorem d_Mdl_perform_134 : decode b_Mdl_perform 134 = .ok (.imul, 1) := by decide +kernel
theorem d_Mdl_perform_135 : decode b_Mdl_perform 135 = .ok (.iload 5, 2) := by decide +kernel
theorem d_Mdl_perform_137 : decode b_Mdl_perform 137 = .ok (.iadd, 1) := by decide +kernel
theorem d_Mdl_perform_138 : decode b_Mdl_perform 138 = .ok (.iload 6, 2) := by decide +kernel
theorem d_Mdl_perform_140 : decode b_Mdl_perform 140 = .ok (.iastore, 1) := by decide +kernel
theorem d_Mdl_perform_141 : decode b_Mdl_perform 141 = .ok (.goto 35, 3) := by decide +kernel
theorem d_Mdl_perform_144 : decode b_Mdl_perform 144 = .ok (.aload_n 0, 1) := by decide +kernel
theorem d_Mdl_perform_145 : decode b_Mdl_perform 145 = .ok (.dup, 1) := by decide +kernel
theorem d_Mdl_perform_146 : decode b_Mdl_perform 146 = .ok (.getfield 175, 3) := by decide +kernel
theorem d_Mdl_perform_149 : decode b_Mdl_perform 149 = .ok (.iconst 1, 1) := by decide +kernel
theorem d_Mdl_perform_150 : decode b_Mdl_perform 150 = .ok (.iadd, 1) := by decide +kernel
theorem d_Mdl_perform_151 : decode b_Mdl_perform 151 = .ok (.putfield 175, 3) := by decide +kernel
theorem d_Mdl_perform_154 : decode b_Mdl_perform 154 = .ok (.goto 22, 3) := by decide +kernel
theorem d_Mdl_perform_157 : decode b_Mdl_perform 157 = .ok (.aload_n 0, 1) := by decide +kernel
theorem d_Mdl_perform_158 : decode b_Mdl_perform 158 = .ok (.iload 4, 2) := by decide +kernel
theorem d_Mdl_perform_160 : decode b_Mdl_perform 160 = .ok (.aload_n 0, 1) := by decide +kernel
theorem d_Mdl_perform_161 : decode b_Mdl_perform 161 = .ok (.getfield 13, 3) := by decide +kernel
theorem d_Mdl_perform_164 : decode b_Mdl_perform 164 = .ok (.iconst 4, 1) := by decide +kernel
theorem d_Mdl_perform_165 : decode b_Mdl_perform 165 = .ok (.iload_n 1, 1) := by decide +kernel
theorem d_Mdl_perform_166 : decode b_Mdl_perform 166 = .ok (.imul, 1) := by decide +kernel
theorem d_Mdl_perform_167 : decode b_Mdl_perform 167 = .ok (.iload 5, 2) := by decide +kernel
theorem d_Mdl_perform_169 : decode b_Mdl_perform 169 = .ok (.iadd, 1) := by decide +kernel
theorem d_Mdl_perform_170 : decode b_Mdl_perform 170 = .ok (.iaload, 1) := by decide +kernel
theorem d_Mdl_perform_171 : decode b_Mdl_perform 171 = .ok (.iload_n 1, 1) := by decide +kernel
theorem d_Mdl_perform_172 : decode b_Mdl_perform 172 = .ok (.invokevirtual 138, 3) := by decide +kernel
theorem d_Mdl_perform_175 : decode b_Mdl_perform 175 = .ok (.pop, 1) := by decide +kernel
theorem d_Mdl_perform_176 : decode b_Mdl_perform 176 = .ok (.return_, 1) := by decide +kernel
theorem d_Mdl_variable_0 : decode b_Mdl_variable 0 = .ok (.aload_n 0, 1) := by decide +kernel
theorem d_Mdl_variable_1 : decode b_Mdl_variable 1 = .ok (.iconst 0, 1) := by decide +kernel
theorem d_Mdl_variable_2 : decode b_Mdl_variable 2 = .ok (.putfield 102, 3) := by decide +kernel
theorem d_Mdl_variable_5 : decode b_Mdl_variable 5 = .ok (.aload_n 0, 1) := by decide +kernel
theorem d_Mdl_variable_6 : decode b_Mdl_variable 6 = .ok (.iload_n 1, 1) := by decide +kernel
theorem d_Mdl_variable_7 : decode b_Mdl_variable 7 = .ok (.invokevirtual 114, 3) := by decide +kernel
theorem d_Mdl_variable_10 : decode b_Mdl_variable 10 = .ok (.ifCond .eq 9, 3) := by decide +kernel
theorem d_Mdl_variable_13 : decode b_Mdl_variable 13 = .ok (.aload_n 0, 1) := by decide +kernel
theorem d_Mdl_variable_14 : decode b_Mdl_variable 14 = .ok (.iconst 1, 1) := by decide +kernel
theorem d_Mdl_variable_15 : decode b_Mdl_variable 15 = .ok (.invokevirtual 110, 3) := by decide +kernel
theorem d_Mdl_variable_18 : decode b_Mdl_variable 18 = .ok (.ireturn, 1) := by decide +kernel
theorem d_Mdl_variable_19 : decode b_Mdl_variable 19 = .ok (.iload_n 2, 1) := by decide +kernel
theorem d_Mdl_variable_20 : decode b_Mdl_variable 20 = .ok (.iconst 0, 1) := by decide +kernel
theorem d_Mdl_variable_21 : decode b_Mdl_variable 21 = .ok (.iconst 3, 1) := by decide +kernel
theorem d_Mdl_variable_22 : decode b_Mdl_variable 22 = .ok (.invokestatic 106, 3) := by decide +kernel
theorem d_Mdl_variable_25 : decode b_Mdl_variable 25 = .ok (.ifCond .eq 16, 3) := by decide +kernel
theorem d_Mdl_variable_28 : decode b_Mdl_variable 28 = .ok (.aload_n 0, 1) := by decide +kernel
theorem d_Mdl_variable_29 : decode b_Mdl_variable 29 = .ok (.getfield 13, 3) := by decide +kernel
theorem d_Mdl_variable_32 : decode b_Mdl_variable 32 = .ok (.iconst 4, 1) := by decide +kernel
theorem d_Mdl_variable_33 : decode b_Mdl_variable 33 = .ok (.iload_n 1, 1) := by decide +kernel
theorem d_Mdl_variable_34 : decode b_Mdl_variable 34 = .ok (.imul, 1) := by decide +kernel
theorem d_Mdl_variable_35 : decode b_Mdl_variable 35 = .ok (.iload_n 2, 1) := by decide +kernel
theorem d_Mdl_variable_36 : decode b_Mdl_variable 36 = .ok (.iadd, 1) := by decide +kernel
theorem d_Mdl_variable_37 : decode b_Mdl_variable 37 = .ok (.iaload, 1) := by decide +kernel
theorem d_Mdl_variable_38 : decode b_Mdl_variable 38 = .ok (.goto 8, 3) := by decide +kernel
theorem d_Mdl_variable_41 : decode b_Mdl_variable 41 = .ok (.aload_n 0, 1) := by decide +kernel
theorem d_Mdl_variable_42 : decode b_Mdl_variable 42 = .ok (.iconst 2, 1) := by decide +kernel
theorem d_Mdl_variable_43 : decode b_Mdl_variable 43 = .ok (.invokevirtual 110, 3) := by decide +kernel
theorem d_Mdl_variable_46 : decode b_Mdl_variable 46 = .ok (.ireturn, 1) := by decide +kernel
theorem d_Mdl_queued_0 : decode b_Mdl_queued 0 = .ok (.aload_n 0, 1) := by decide +kernel
theorem d_Mdl_queued_1 : decode b_Mdl_queued 1 = .ok (.iconst 0, 1) := by decide +kernel
theorem d_Mdl_queued_2 : decode b_Mdl_queued 2 = .ok (.putfield 102, 3) := by decide +kernel
theorem d_Mdl_queued_5 : decode b_Mdl_queued 5 = .ok (.aload_n 0, 1) := by decide +kernel
theorem d_Mdl_queued_6 : decode b_Mdl_queued 6 = .ok (.iload_n 1, 1) := by decide +kernel
theorem d_Mdl_queued_7 : decode b_Mdl_queued 7 = .ok (.invokevirtual 114, 3) := by decide +kernel
theorem d_Mdl_queued_10 : decode b_Mdl_queued 10 = .ok (.ifCond .ne 31, 3) := by decide +kernel
theorem d_Mdl_queued_13 : decode b_Mdl_queued 13 = .ok (.iload_n 2, 1) := by decide +kernel
theorem d_Mdl_queued_14 : decode b_Mdl_queued 14 = .ok (.iconst 0, 1) := by decide +kernel
theorem d_Mdl_queued_15 : decode b_Mdl_queued 15 = .ok (.iconst 5, 1) := by decide +kernel
theorem d_Mdl_queued_16 : decode b_Mdl_queued 16 = .ok (.invokestatic 106, 3) := by decide +kernel
theorem d_Mdl_queued_19 : decode b_Mdl_queued 19 = .ok (.ifCond .eq 22, 3) := by decide +kernel
theorem d_Mdl_queued_22 : decode b_Mdl_queued 22 = .ok (.iload_n 3, 1) := by decide +kernel
theorem d_Mdl_queued_23 : decode b_Mdl_queued 23 = .ok (.ifCond .lt 18, 3) := by decide +kernel
theorem d_Mdl_queued_26 : decode b_Mdl_queued 26 = .ok (.iload_n 3, 1) := by decide +kernel
theorem d_Mdl_queued_27 : decode b_Mdl_queued 27 = .ok (.aload_n 0, 1) := by decide +kernel
theorem d_Mdl_queued_28 : decode b_Mdl_queued 28 = .ok (.getfield 23, 3) := by decide +kernel
theorem d_Mdl_queued_31 : decode b_Mdl_queued 31 = .ok (.bipush 6, 2) := by decide +kernel
theorem d_Mdl_queued_33 : decode b_Mdl_queued 33 = .ok (.iload_n 1, 1) := by decide +kernel
theorem d_Mdl_queued_34 : decode b_Mdl_queued 34 = .ok (.imul, 1) := by decide +kernel
theorem d_Mdl_queued_35 : decode b_Mdl_queued 35 = .ok (.iload_n 2, 1) := by decide +kernel
theorem d_Mdl_queued_36 : decode b_Mdl_queued 36 = .ok (.iadd, 1) := by decide +kernel
theorem d_Mdl_queued_37 : decode b_Mdl_queued 37 = .ok (.iaload, 1) := by decide +kernel
theorem d_Mdl_queued_38 : decode b_Mdl_queued 38 = .ok (.if_icmp .lt 9, 3) := by decide +kernel
theorem d_Mdl_queued_41 : decode b_Mdl_queued 41 = .ok (.aload_n 0, 1) := by decide +kernel
theorem d_Mdl_queued_42 : decode b_Mdl_queued 42 = .ok (.iconst 1, 1) := by decide +kernel
theorem d_Mdl_queued_43 : decode b_Mdl_queued 43 = .ok (.invokevirtual 110, 3) := by decide +kernel
theorem d_Mdl_queued_46 : decode b_Mdl_queued 46 = .ok (.ireturn, 1) := by decide +kernel
theorem d_Mdl_queued_47 : decode b_Mdl_queued 47 = .ok (.iconst 4, 1) := by decide +kernel
theorem d_Mdl_queued_48 : decode b_Mdl_queued 48 = .ok (.bipush 6, 2) := by decide +kernel
theorem d_Mdl_queued_50 : decode b_Mdl_queued 50 = .ok (.iload_n 1, 1) := by decide +kernel
theorem d_Mdl_queued_51 : decode b_Mdl_queued 51 = .ok (.imul, 1) := by decide +kernel
theorem d_Mdl_queued_52 : decode b_Mdl_queued 52 = .ok (.iload_n 2, 1) := by decide +kernel
theorem d_Mdl_queued_53 : decode b_Mdl_queued 53 = .ok (.iadd, 1) := by decide +kernel
theorem d_Mdl_queued_54 : decode b_Mdl_queued 54 = .ok (.imul, 1) := by decide +kernel
theorem d_Mdl_queued_55 : decode b_Mdl_queued 55 = .ok (.iload_n 3, 1) := by decide +kernel
theorem d_Mdl_queued_56 : decode b_Mdl_queued 56 = .ok (.iadd, 1) := by decide +kernel
theorem d_Mdl_queued_57 : decode b_Mdl_queued 57 = .ok (.istore 5, 2) := by decide +kernel
theorem d_Mdl_queued_59 : decode b_Mdl_queued 59 = .ok (.iload 4, 2) := by decide +kernel
theorem d_Mdl_queued_61 : decode b_Mdl_queued 61 = .ok (.tableswitch 51 0 2 #[27, 35, 43], 27) := by decide +kernel
theorem d_Mdl_queued_88 : decode b_Mdl_queued 88 = .ok (.aload_n 0, 1) := by decide +kernel
theorem d_Mdl_queued_89 : decode b_Mdl_queued 89 = .ok (.getfield 26, 3) := by decide +kernel
theorem d_Mdl_queued_92 : decode b_Mdl_queued 92 = .ok (.iload 5, 2) := by decide +kernel
theorem d_Mdl_queued_94 : decode b_Mdl_queued 94 = .ok (.iaload, 1) := by decide +kernel
theorem d_Mdl_queued_95 : decode b_Mdl_queued 95 = .ok (.ireturn, 1) := by decide +kernel
theorem d_Mdl_queued_96 : decode b_Mdl_queued 96 = .ok (.aload_n 0, 1) := by decide +kernel
theorem d_Mdl_queued_97 : decode b_Mdl_queued 97 = .ok (.getfield 29, 3) := by decide +kernel
theorem d_Mdl_queued_100 : decode b_Mdl_queued 100 = .ok (.iload 5, 2) := by decide +kernel
theorem d_Mdl_queued_102 : decode b_Mdl_queued 102 = .ok (.iaload, 1) := by decide +kernel
theorem d_Mdl_queued_103 : decode b_Mdl_queued 103 = .ok (.ireturn, 1) := by decide +kernel
theorem d_Mdl_queued_104 : decode b_Mdl_queued 104 = .ok (.aload_n 0, 1) := by decide +kernel
theorem d_Mdl_queued_105 : decode b_Mdl_queued 105 = .ok (.getfield 32, 3) := by decide +kernel
theorem d_Mdl_queued_108 : decode b_Mdl_queued 108 = .ok (.iload 5, 2) := by decide +kernel
theorem d_Mdl_queued_110 : decode b_Mdl_queued 110 = .ok (.iaload, 1) := by decide +kernel
theorem d_Mdl_queued_111 : decode b_Mdl_queued 111 = .ok (.ireturn, 1) := by decide +kernel
theorem d_Mdl_queued_112 : decode b_Mdl_queued 112 = .ok (.aload_n 0, 1) := by decide +kernel
theorem d_Mdl_queued_113 : decode b_Mdl_queued 113 = .ok (.iconst 2, 1) := by decide +kernel
theorem d_Mdl_queued_114 : decode b_Mdl_queued 114 = .ok (.invokevirtual 110, 3) := by decide +kernel
theorem d_Mdl_queued_117 : decode b_Mdl_queued 117 = .ok (.ireturn, 1) := by decide +kernel
theorem d_Mdl_keep_0 : decode b_Mdl_keep 0 = .ok (.aload_n 0, 1) := by decide +kernel
theorem d_Mdl_keep_1 : decode b_Mdl_keep 1 = .ok (.iconst 0, 1) := by decide +kernel
theorem d_Mdl_keep_2 : decode b_Mdl_keep 2 = .ok (.putfield 102, 3) := by decide +kernel
theorem d_Mdl_keep_5 : decode b_Mdl_keep 5 = .ok (.iload_n 1, 1) := by decide +kernel
theorem d_Mdl_keep_6 : decode b_Mdl_keep 6 = .ok (.iconst 0, 1) := by decide +kernel
theorem d_Mdl_keep_7 : decode b_Mdl_keep 7 = .ok (.iconst 5, 1) := by decide +kernel
theorem d_Mdl_keep_8 : decode b_Mdl_keep 8 = .ok (.invokestatic 106, 3) := by decide +kernel
theorem d_Mdl_keep_11 : decode b_Mdl_keep 11 = .ok (.ifCond .ne 9, 3) := by decide +kernel
theorem d_Mdl_keep_14 : decode b_Mdl_keep 14 = .ok (.aload_n 0, 1) := by decide +kernel
theorem d_Mdl_keep_15 : decode b_Mdl_keep 15 = .ok (.iconst 1, 1) := by decide +kernel
theorem d_Mdl_keep_16 : decode b_Mdl_keep 16 = .ok (.invokevirtual 110, 3) := by decide +kernel
theorem d_Mdl_keep_19 : decode b_Mdl_keep 19 = .ok (.ireturn, 1) := by decide +kernel
theorem d_Mdl_keep_20 : decode b_Mdl_keep 20 = .ok (.aload_n 0, 1) := by decide +kernel
theorem d_Mdl_keep_21 : decode b_Mdl_keep 21 = .ok (.getfield 59, 3) := by decide +kernel
theorem d_Mdl_keep_24 : decode b_Mdl_keep 24 = .ok (.iload_n 1, 1) := by decide +kernel
theorem d_Mdl_keep_25 : decode b_Mdl_keep 25 = .ok (.baload, 1) := by decide +kernel
theorem d_Mdl_keep_26 : decode b_Mdl_keep 26 = .ok (.iload_n 2, 1) := by decide +kernel
theorem d_Mdl_keep_27 : decode b_Mdl_keep 27 = .ok (.if_icmp .eq 7, 3) := by decide +kernel
theorem d_Mdl_keep_30 : decode b_Mdl_keep 30 = .ok (.iconst 1, 1) := by decide +kernel
theorem d_Mdl_keep_31 : decode b_Mdl_keep 31 = .ok (.goto 4, 3) := by decide +kernel
theorem d_Mdl_keep_34 : decode b_Mdl_keep 34 = .ok (.iconst 0, 1) := by decide +kernel
theorem d_Mdl_keep_35 : decode b_Mdl_keep 35 = .ok (.istore_n 3, 1) := by decide +kernel
theorem d_Mdl_keep_36 : decode b_Mdl_keep 36 = .ok (.aload_n 0, 1) := by decide +kernel
theorem d_Mdl_keep_37 : decode b_Mdl_keep 37 = .ok (.getfield 59, 3) := by decide +kernel
theorem d_Mdl_keep_40 : decode b_Mdl_keep 40 = .ok (.iload_n 1, 1) := by decide +kernel
theorem d_Mdl_keep_41 : decode b_Mdl_keep 41 = .ok (.iload_n 2, 1) := by decide +kernel
theorem d_Mdl_keep_42 : decode b_Mdl_keep 42 = .ok (.bastore, 1) := by decide +kernel
theorem d_Mdl_keep_43 : decode b_Mdl_keep 43 = .ok (.iload_n 3, 1) := by decide +kernel
theorem d_Mdl_keep_44 : decode b_Mdl_keep 44 = .ok (.ifCond .eq 7, 3) := by decide +kernel
theorem d_Mdl_keep_47 : decode b_Mdl_keep 47 = .ok (.iconst 1, 1) := by decide +kernel
theorem d_Mdl_keep_48 : decode b_Mdl_keep 48 = .ok (.goto 4, 3) := by decide +kernel
theorem d_Mdl_keep_51 : decode b_Mdl_keep 51 = .ok (.iconst 0, 1) := by decide +kernel
theorem d_Mdl_keep_52 : decode b_Mdl_keep 52 = .ok (.ireturn, 1) := by decide +kernel
theorem d_Mdl_play_0 : decode b_Mdl_play 0 = .ok (.aload_n 0, 1) := by decide +kernel
theorem d_Mdl_play_1 : decode b_Mdl_play 1 = .ok (.iconst 0, 1) := by decide +kernel
theorem d_Mdl_play_2 : decode b_Mdl_play 2 = .ok (.putfield 102, 3) := by decide +kernel
theorem d_Mdl_play_5 : decode b_Mdl_play 5 = .ok (.iload_n 1, 1) := by decide +kernel
theorem d_Mdl_play_6 : decode b_Mdl_play 6 = .ok (.iconst 1, 1) := by decide +kernel
theorem d_Mdl_play_7 : decode b_Mdl_play 7 = .ok (.iconst 4, 1) := by decide +kernel
theorem d_Mdl_play_8 : decode b_Mdl_play 8 = .ok (.invokestatic 106, 3) := by decide +kernel
theorem d_Mdl_play_11 : decode b_Mdl_play 11 = .ok (.ifCond .ne 9, 3) := by decide +kernel
theorem d_Mdl_play_14 : decode b_Mdl_play 14 = .ok (.aload_n 0, 1) := by decide +kernel
theorem d_Mdl_play_15 : decode b_Mdl_play 15 = .ok (.iconst 1, 1) := by decide +kernel
theorem d_Mdl_play_16 : decode b_Mdl_play 16 = .ok (.invokevirtual 110, 3) := by decide +kernel
theorem d_Mdl_play_19 : decode b_Mdl_play 19 = .ok (.ireturn, 1) := by decide +kernel
theorem d_Mdl_play_20 : decode b_Mdl_play 20 = .ok (.aload_n 0, 1) := by decide +kernel
theorem d_Mdl_play_21 : decode b_Mdl_play 21 = .ok (.getfield 156, 3) := by decide +kernel
theorem d_Mdl_play_24 : decode b_Mdl_play 24 = .ok (.ifCond .eq 9, 3) := by decide +kernel
theorem d_Mdl_play_27 : decode b_Mdl_play 27 = .ok (.aload_n 0, 1) := by decide +kernel
theorem d_Mdl_play_28 : decode b_Mdl_play 28 = .ok (.iconst 2, 1) := by decide +kernel
theorem d_Mdl_play_29 : decode b_Mdl_play 29 = .ok (.invokevirtual 110, 3) := by decide +kernel
theorem d_Mdl_play_32 : decode b_Mdl_play 32 = .ok (.ireturn, 1) := by decide +kernel
theorem d_Mdl_play_33 : decode b_Mdl_play 33 = .ok (.aload_n 0, 1) := by decide +kernel
theorem d_Mdl_play_34 : decode b_Mdl_play 34 = .ok (.getfield 135, 3) := by decide +kernel
theorem d_Mdl_play_37 : decode b_Mdl_play 37 = .ok (.ifCond .ne 9, 3) := by decide +kernel
theorem d_Mdl_play_40 : decode b_Mdl_play 40 = .ok (.aload_n 0, 1) := by decide +kernel
theorem d_Mdl_play_41 : decode b_Mdl_play 41 = .ok (.iconst 3, 1) := by decide +kernel
theorem d_Mdl_play_42 : decode b_Mdl_play 42 = .ok (.invokevirtual 110, 3) := by decide +kernel
theorem d_Mdl_play_45 : decode b_Mdl_play 45 = .ok (.ireturn, 1) := by decide +kernel
theorem d_Mdl_play_46 : decode b_Mdl_play 46 = .ok (.aload_n 0, 1) := by decide +kernel
theorem d_Mdl_play_47 : decode b_Mdl_play 47 = .ok (.iconst 1, 1) := by decide +kernel
theorem d_Mdl_play_48 : decode b_Mdl_play 48 = .ok (.putfield 156, 3) := by decide +kernel
theorem d_Mdl_play_51 : decode b_Mdl_play 51 = .ok (.aload_n 0, 1) := by decide +kernel
theorem d_Mdl_play_52 : decode b_Mdl_play 52 = .ok (.aload_n 0, 1) := by decide +kernel
theorem d_Mdl_play_53 : decode b_Mdl_play 53 = .ok (.getfield 128, 3) := by decide +kernel
theorem d_Mdl_play_56 : decode b_Mdl_play 56 = .ok (.putfield 163, 3) := by decide +kernel
theorem d_Mdl_play_59 : decode b_Mdl_play 59 = .ok (.aload_n 0, 1) := by decide +kernel
theorem d_Mdl_play_60 : decode b_Mdl_play 60 = .ok (.iload_n 1, 1) := by decide +kernel
theorem d_Mdl_play_61 : decode b_Mdl_play 61 = .ok (.putfield 166, 3) := by decide +kernel
theorem d_Mdl_play_64 : decode b_Mdl_play 64 = .ok (.aload_n 0, 1) := by decide +kernel
theorem d_Mdl_play_65 : decode b_Mdl_play 65 = .ok (.iconst 0, 1) := by decide +kernel
theorem d_Mdl_play_66 : decode b_Mdl_play 66 = .ok (.putfield 160, 3) := by decide +kernel
theorem d_Mdl_play_69 : decode b_Mdl_play 69 = .ok (.aload_n 0, 1) := by decide +kernel
theorem d_Mdl_play_70 : decode b_Mdl_play 70 = .ok (.aload_n 0, 1) := by decide +kernel
theorem d_Mdl_play_71 : decode b_Mdl_play 71 = .ok (.getfield 135, 3) := by decide +kernel
theorem d_Mdl_play_74 : decode b_Mdl_play 74 = .ok (.putfield 169, 3) := by decide +kernel
theorem d_Mdl_play_77 : decode b_Mdl_play 77 = .ok (.aload_n 0, 1) := by decide +kernel
theorem d_Mdl_play_78 : decode b_Mdl_play 78 = .ok (.getfield 135, 3) := by decide +kernel
theorem d_Mdl_play_81 : decode b_Mdl_play 81 = .ok (.ireturn, 1) := by decide +kernel
theorem d_Mdl_empty_0 : decode b_Mdl_empty 0 = .ok (.aload_n 0, 1) := by decide +kernel
theorem d_Mdl_empty_1 : decode b_Mdl_empty 1 = .ok (.iconst 0, 1) := by decide +kernel
theorem d_Mdl_empty_2 : decode b_Mdl_empty 2 = .ok (.putfield 102, 3) := by decide +kernel
theorem d_Mdl_empty_5 : decode b_Mdl_empty 5 = .ok (.aload_n 0, 1) := by decide +kernel
theorem d_Mdl_empty_6 : decode b_Mdl_empty 6 = .ok (.getfield 156, 3) := by decide +kernel
theorem d_Mdl_empty_9 : decode b_Mdl_empty 9 = .ok (.ifCond .eq 9, 3) := by decide +kernel
theorem d_Mdl_empty_12 : decode b_Mdl_empty 12 = .ok (.aload_n 0, 1) := by decide +kernel
theorem d_Mdl_empty_13 : decode b_Mdl_empty 13 = .ok (.iconst 1, 1) := by decide +kernel
theorem d_Mdl_empty_14 : decode b_Mdl_empty 14 = .ok (.invokevirtual 110, 3) := by decide +kernel
theorem d_Mdl_empty_17 : decode b_Mdl_empty 17 = .ok (.ireturn, 1) := by decide +kernel
theorem d_Mdl_empty_18 : decode b_Mdl_empty 18 = .ok (.aload_n 0, 1) := by decide +kernel
theorem d_Mdl_empty_19 : decode b_Mdl_empty 19 = .ok (.getfield 135, 3) := by decide +kernel
theorem d_Mdl_empty_22 : decode b_Mdl_empty 22 = .ok (.istore_n 1, 1) := by decide +kernel
theorem d_Mdl_empty_23 : decode b_Mdl_empty 23 = .ok (.aload_n 0, 1) := by decide +kernel
theorem d_Mdl_empty_24 : decode b_Mdl_empty 24 = .ok (.iconst 0, 1) := by decide +kernel
theorem d_Mdl_empty_25 : decode b_Mdl_empty 25 = .ok (.putfield 135, 3) := by decide +kernel
theorem d_Mdl_empty_28 : decode b_Mdl_empty 28 = .ok (.iload_n 1, 1) := by decide +kernel
theorem d_Mdl_empty_29 : decode b_Mdl_empty 29 = .ok (.ireturn, 1) := by decide +kernel
theorem d_Mdl_mount_0 : decode b_Mdl_mount 0 = .ok (.aload_n 0, 1) := by decide +kernel
theorem d_Mdl_mount_1 : decode b_Mdl_mount 1 = .ok (.iconst 0, 1) := by decide +kernel
theorem d_Mdl_mount_2 : decode b_Mdl_mount 2 = .ok (.putfield 102, 3) := by decide +kernel
theorem d_Mdl_mount_5 : decode b_Mdl_mount 5 = .ok (.iload_n 1, 1) := by decide +kernel
theorem d_Mdl_mount_6 : decode b_Mdl_mount 6 = .ok (.iconst 1, 1) := by decide +kernel
theorem d_Mdl_mount_7 : decode b_Mdl_mount 7 = .ok (.iconst 5, 1) := by decide +kernel
theorem d_Mdl_mount_8 : decode b_Mdl_mount 8 = .ok (.invokestatic 106, 3) := by decide +kernel
theorem d_Mdl_mount_11 : decode b_Mdl_mount 11 = .ok (.ifCond .eq 12, 3) := by decide +kernel
theorem d_Mdl_mount_14 : decode b_Mdl_mount 14 = .ok (.iload_n 2, 1) := by decide +kernel
theorem d_Mdl_mount_15 : decode b_Mdl_mount 15 = .ok (.iconst 0, 1) := by decide +kernel
theorem d_Mdl_mount_16 : decode b_Mdl_mount 16 = .ok (.iconst 5, 1) := by decide +kernel
theorem d_Mdl_mount_17 : decode b_Mdl_mount 17 = .ok (.invokestatic 106, 3) := by decide +kernel
theorem d_Mdl_mount_20 : decode b_Mdl_mount 20 = .ok (.ifCond .ne 9, 3) := by decide +kernel
theorem d_Mdl_mount_23 : decode b_Mdl_mount 23 = .ok (.aload_n 0, 1) := by decide +kernel
theorem d_Mdl_mount_24 : decode b_Mdl_mount 24 = .ok (.iconst 1, 1) := by decide +kernel
theorem d_Mdl_mount_25 : decode b_Mdl_mount 25 = .ok (.invokevirtual 110, 3) := by decide +kernel
theorem d_Mdl_mount_28 : decode b_Mdl_mount 28 = .ok (.ireturn, 1) := by decide +kernel
theorem d_Mdl_mount_29 : decode b_Mdl_mount 29 = .ok (.iload_n 2, 1) := by decide +kernel
theorem d_Mdl_mount_30 : decode b_Mdl_mount 30 = .ok (.istore_n 3, 1) := by decide +kernel
theorem d_Mdl_mount_31 : decode b_Mdl_mount 31 = .ok (.iload_n 3, 1) := by decide +kernel
theorem d_Mdl_mount_32 : decode b_Mdl_mount 32 = .ok (.ifCond .lt 24, 3) := by decide +kernel
theorem d_Mdl_mount_35 : decode b_Mdl_mount 35 = .ok (.iload_n 3, 1) := by decide +kernel
theorem d_Mdl_mount_36 : decode b_Mdl_mount 36 = .ok (.iload_n 1, 1) := by decide +kernel
theorem d_Mdl_mount_37 : decode b_Mdl_mount 37 = .ok (.if_icmp .ne 9, 3) := by decide +kernel
theorem d_Mdl_mount_40 : decode b_Mdl_mount 40 = .ok (.aload_n 0, 1) := by decide +kernel
theorem d_Mdl_mount_41 : decode b_Mdl_mount 41 = .ok (.iconst 2, 1) := by decide +kernel
theorem d_Mdl_mount_42 : decode b_Mdl_mount 42 = .ok (.invokevirtual 110, 3) := by decide +kernel
theorem d_Mdl_mount_45 : decode b_Mdl_mount 45 = .ok (.ireturn, 1) := by decide +kernel
theorem d_Mdl_mount_46 : decode b_Mdl_mount 46 = .ok (.aload_n 0, 1) := by decide +kernel
theorem d_Mdl_mount_47 : decode b_Mdl_mount 47 = .ok (.getfield 83, 3) := by decide +kernel
theorem d_Mdl_mount_50 : decode b_Mdl_mount 50 = .ok (.iload_n 3, 1) := by decide +kernel
theorem d_Mdl_mount_51 : decode b_Mdl_mount 51 = .ok (.iaload, 1) := by decide +kernel
theorem d_Mdl_mount_52 : decode b_Mdl_mount 52 = .ok (.istore_n 3, 1) := by decide +kernel
theorem d_Mdl_mount_53 : decode b_Mdl_mount 53 = .ok (.goto (-22), 3) := by decide +kernel
theorem d_Mdl_mount_56 : decode b_Mdl_mount 56 = .ok (.aload_n 0, 1) := by decide +kernel
theorem d_Mdl_mount_57 : decode b_Mdl_mount 57 = .ok (.getfield 83, 3) := by decide +kernel
theorem d_Mdl_mount_60 : decode b_Mdl_mount 60 = .ok (.iload_n 1, 1) := by decide +kernel
theorem d_Mdl_mount_61 : decode b_Mdl_mount 61 = .ok (.iaload, 1) := by decide +kernel
theorem d_Mdl_mount_62 : decode b_Mdl_mount 62 = .ok (.istore_n 3, 1) := by decide +kernel
theorem d_Mdl_mount_63 : decode b_Mdl_mount 63 = .ok (.aload_n 0, 1) := by decide +kernel
theorem d_Mdl_mount_64 : decode b_Mdl_mount 64 = .ok (.getfield 83, 3) := by decide +kernel
theorem d_Mdl_mount_67 : decode b_Mdl_mount 67 = .ok (.iload_n 1, 1) := by decide +kernel
theorem d_Mdl_mount_68 : decode b_Mdl_mount 68 = .ok (.iload_n 2, 1) := by decide +kernel
theorem d_Mdl_mount_69 : decode b_Mdl_mount 69 = .ok (.iastore, 1) := by decide +kernel
theorem d_Mdl_mount_70 : decode b_Mdl_mount 70 = .ok (.aload_n 0, 1) := by decide +kernel
theorem d_Mdl_mount_71 : decode b_Mdl_mount 71 = .ok (.getfield 86, 3) := by decide +kernel
theorem d_Mdl_mount_74 : decode b_Mdl_mount 74 = .ok (.iload_n 1, 1) := by decide +kernel
theorem d_Mdl_mount_75 : decode b_Mdl_mount 75 = .ok (.iconst 0, 1) := by decide +kernel
theorem d_Mdl_mount_76 : decode b_Mdl_mount 76 = .ok (.iastore, 1) := by decide +kernel
theorem d_Mdl_mount_77 : decode b_Mdl_mount 77 = .ok (.iload_n 3, 1) := by decide +kernel
theorem d_Mdl_mount_78 : decode b_Mdl_mount 78 = .ok (.ireturn, 1) := by decide +kernel
theorem d_Mdl_sample_0 : decode b_Mdl_sample 0 = .ok (.aload_n 0, 1) := by decide +kernel
theorem d_Mdl_sample_1 : decode b_Mdl_sample 1 = .ok (.iconst 0, 1) := by decide +kernel
theorem d_Mdl_sample_2 : decode b_Mdl_sample 2 = .ok (.putfield 102, 3) := by decide +kernel
theorem d_Mdl_sample_5 : decode b_Mdl_sample 5 = .ok (.iload_n 1, 1) := by decide +kernel
theorem d_Mdl_sample_6 : decode b_Mdl_sample 6 = .ok (.iconst 0, 1) := by decide +kernel
theorem d_Mdl_sample_7 : decode b_Mdl_sample 7 = .ok (.iconst 5, 1) := by decide +kernel
theorem d_Mdl_sample_8 : decode b_Mdl_sample 8 = .ok (.invokestatic 106, 3) := by decide +kernel
theorem d_Mdl_sample_11 : decode b_Mdl_sample 11 = .ok (.ifCond .eq 12, 3) := by decide +kernel
theorem d_Mdl_sample_14 : decode b_Mdl_sample 14 = .ok (.aload_n 0, 1) := by decide +kernel
theorem d_Mdl_sample_15 : decode b_Mdl_sample 15 = .ok (.getfield 83, 3) := by decide +kernel
theorem d_Mdl_sample_18 : decode b_Mdl_sample 18 = .ok (.iload_n 1, 1) := by decide +kernel
theorem d_Mdl_sample_19 : decode b_Mdl_sample 19 = .ok (.iaload, 1) := by decide +kernel
theorem d_Mdl_sample_20 : decode b_Mdl_sample 20 = .ok (.ifCond .ge 9, 3) := by decide +kernel
theorem d_Mdl_sample_23 : decode b_Mdl_sample 23 = .ok (.aload_n 0, 1) := by decide +kernel
theorem d_Mdl_sample_24 : decode b_Mdl_sample 24 = .ok (.iconst 1, 1) := by decide +kernel
theorem d_Mdl_sample_25 : decode b_Mdl_sample 25 = .ok (.invokevirtual 110, 3) := by decide +kernel
theorem d_Mdl_sample_28 : decode b_Mdl_sample 28 = .ok (.ireturn, 1) := by decide +kernel
theorem d_Mdl_sample_29 : decode b_Mdl_sample 29 = .ok (.dload_n 3, 1) := by decide +kernel
theorem d_Mdl_sample_30 : decode b_Mdl_sample 30 = .ok (.invokestatic 194, 3) := by decide +kernel
theorem d_Mdl_sample_33 : decode b_Mdl_sample 33 = .ok (.ifCond .eq 31, 3) := by decide +kernel
theorem d_Mdl_sample_36 : decode b_Mdl_sample 36 = .ok (.dload 5, 2) := by decide +kernel
theorem d_Mdl_sample_38 : decode b_Mdl_sample 38 = .ok (.invokestatic 194, 3) := by decide +kernel
theorem d_Mdl_sample_41 : decode b_Mdl_sample 41 = .ok (.ifCond .eq 23, 3) := by decide +kernel
theorem d_Mdl_sample_44 : decode b_Mdl_sample 44 = .ok (.iload 7, 2) := by decide +kernel
theorem d_Mdl_sample_46 : decode b_Mdl_sample 46 = .ok (.iconst 0, 1) := by decide +kernel
theorem d_Mdl_sample_47 : decode b_Mdl_sample 47 = .ok (.iconst 3, 1) := by decide +kernel
theorem d_Mdl_sample_48 : decode b_Mdl_sample 48 = .ok (.invokestatic 106, 3) := by decide +kernel
theorem d_Mdl_sample_51 : decode b_Mdl_sample 51 = .ok (.ifCond .eq 13, 3) := by decide +kernel
theorem d_Mdl_sample_54 : decode b_Mdl_sample 54 = .ok (.iload_n 2, 1) := by decide +kernel
theorem d_Mdl_sample_55 : decode b_Mdl_sample 55 = .ok (.iconst 0, 1) := by decide +kernel
theorem d_Mdl_sample_56 : decode b_Mdl_sample 56 = .ok (.ldc 198, 2) := by decide +kernel
theorem d_Mdl_sample_58 : decode b_Mdl_sample 58 = .ok (.invokestatic 106, 3) := by decide +kernel
theorem d_Mdl_sample_61 : decode b_Mdl_sample 61 = .ok (.ifCond .ne 9, 3) := by decide +kernel
theorem d_Mdl_sample_64 : decode b_Mdl_sample 64 = .ok (.aload_n 0, 1) := by decide +kernel
theorem d_Mdl_sample_65 : decode b_Mdl_sample 65 = .ok (.iconst 2, 1) := by decide +kernel
theorem d_Mdl_sample_66 : decode b_Mdl_sample 66 = .ok (.invokevirtual 110, 3) := by decide +kernel
theorem d_Mdl_sample_69 : decode b_Mdl_sample 69 = .ok (.ireturn, 1) := by decide +kernel
theorem d_Mdl_sample_70 : decode b_Mdl_sample 70 = .ok (.aload_n 0, 1) := by decide +kernel
theorem d_Mdl_sample_71 : decode b_Mdl_sample 71 = .ok (.getfield 86, 3) := by decide +kernel
theorem d_Mdl_sample_74 : decode b_Mdl_sample 74 = .ok (.iload_n 1, 1) := by decide +kernel
theorem d_Mdl_sample_75 : decode b_Mdl_sample 75 = .ok (.iaload, 1) := by decide +kernel
theorem d_Mdl_sample_76 : decode b_Mdl_sample 76 = .ok (.istore 8, 2) := by decide +kernel
theorem d_Mdl_sample_78 : decode b_Mdl_sample 78 = .ok (.iload 8, 2) := by decide +kernel
theorem d_Mdl_sample_80 : decode b_Mdl_sample 80 = .ok (.ifCond .le 26, 3) := by decide +kernel
theorem d_Mdl_sample_83 : decode b_Mdl_sample 83 = .ok (.iload_n 2, 1) := by decide +kernel
theorem d_Mdl_sample_84 : decode b_Mdl_sample 84 = .ok (.aload_n 0, 1) := by decide +kernel
theorem d_Mdl_sample_85 : decode b_Mdl_sample 85 = .ok (.getfield 89, 3) := by decide +kernel
theorem d_Mdl_sample_88 : decode b_Mdl_sample 88 = .ok (.iconst 4, 1) := by decide +kernel
theorem d_Mdl_sample_89 : decode b_Mdl_sample 89 = .ok (.iload_n 1, 1) := by decide +kernel
theorem d_Mdl_sample_90 : decode b_Mdl_sample 90 = .ok (.imul, 1) := by decide +kernel
theorem d_Mdl_sample_91 : decode b_Mdl_sample 91 = .ok (.iload 8, 2) := by decide +kernel
theorem d_Mdl_sample_93 : decode b_Mdl_sample 93 = .ok (.iadd, 1) := by decide +kernel
theorem d_Mdl_sample_94 : decode b_Mdl_sample 94 = .ok (.iconst 1, 1) := by decide +kernel
theorem d_Mdl_sample_95 : decode b_Mdl_sample 95 = .ok (.isub, 1) := by decide +kernel
theorem d_Mdl_sample_96 : decode b_Mdl_sample 96 = .ok (.iaload, 1) := by decide +kernel
theorem d_Mdl_sample_97 : decode b_Mdl_sample 97 = .ok (.if_icmp .gt 9, 3) := by decide +kernel
theorem d_Mdl_sample_100 : decode b_Mdl_sample 100 = .ok (.aload_n 0, 1) := by decide +kernel
theorem d_Mdl_sample_101 : decode b_Mdl_sample 101 = .ok (.iconst 3, 1) := by decide +kernel
theorem d_Mdl_sample_102 : decode b_Mdl_sample 102 = .ok (.invokevirtual 110, 3) := by decide +kernel
theorem d_Mdl_sample_105 : decode b_Mdl_sample 105 = .ok (.ireturn, 1) := by decide +kernel
theorem d_Mdl_sample_106 : decode b_Mdl_sample 106 = .ok (.iload 8, 2) := by decide +kernel
theorem d_Mdl_sample_108 : decode b_Mdl_sample 108 = .ok (.iconst 4, 1) := by decide +kernel
theorem d_Mdl_sample_109 : decode b_Mdl_sample 109 = .ok (.if_icmp .ne 91, 3) := by decide +kernel
theorem d_Mdl_sample_112 : decode b_Mdl_sample 112 = .ok (.iconst 4, 1) := by decide +kernel
theorem d_Mdl_sample_113 : decode b_Mdl_sample 113 = .ok (.iload_n 1, 1) := by decide +kernel
theorem d_Mdl_sample_114 : decode b_Mdl_sample 114 = .ok (.imul, 1) := by decide +kernel
theorem d_Mdl_sample_115 : decode b_Mdl_sample 115 = .ok (.istore 9, 2) := by decide +kernel
theorem d_Mdl_sample_117 : decode b_Mdl_sample 117 = .ok (.iload 9, 2) := by decide +kernel
theorem d_Mdl_sample_119 : decode b_Mdl_sample 119 = .ok (.iconst 4, 1) := by decide +kernel
theorem d_Mdl_sample_120 : decode b_Mdl_sample 120 = .ok (.iload_n 1, 1) := by decide +kernel
theorem d_Mdl_sample_121 : decode b_Mdl_sample 121 = .ok (.imul, 1) := by decide +kernel
theorem d_Mdl_sample_122 : decode b_Mdl_sample 122 = .ok (.iconst 3, 1) := by decide +kernel
theorem d_Mdl_sample_123 : decode b_Mdl_sample 123 = .ok (.iadd, 1) := by decide +kernel
theorem d_Mdl_sample_124 : decode b_Mdl_sample 124 = .ok (.if_icmp .ge 73, 3) := by decide +kernel
theorem d_Mdl_sample_127 : decode b_Mdl_sample 127 = .ok (.aload_n 0, 1) := by decide +kernel
theorem d_Mdl_sample_128 : decode b_Mdl_sample 128 = .ok (.getfield 89, 3) := by decide +kernel
theorem d_Mdl_sample_131 : decode b_Mdl_sample 131 = .ok (.iload 9, 2) := by decide +kernel
theorem d_Mdl_sample_133 : decode b_Mdl_sample 133 = .ok (.aload_n 0, 1) := by decide +kernel
theorem d_Mdl_sample_134 : decode b_Mdl_sample 134 = .ok (.getfield 89, 3) := by decide +kernel
theorem d_Mdl_sample_137 : decode b_Mdl_sample 137 = .ok (.iload 9, 2) := by decide +kernel
theorem d_Mdl_sample_139 : decode b_Mdl_sample 139 = .ok (.iconst 1, 1) := by decide +kernel
theorem d_Mdl_sample_140 : decode b_Mdl_sample 140 = .ok (.iadd, 1) := by decide +kernel
theorem d_Mdl_sample_141 : decode b_Mdl_sample 141 = .ok (.iaload, 1) := by decide +kernel
theorem d_Mdl_sample_142 : decode b_Mdl_sample 142 = .ok (.iastore, 1) := by decide +kernel
theorem d_Mdl_sample_143 : decode b_Mdl_sample 143 = .ok (.aload_n 0, 1) := by decide +kernel
theorem d_Mdl_sample_144 : decode b_Mdl_sample 144 = .ok (.getfield 92, 3) := by decide +kernel
theorem d_Mdl_sample_147 : decode b_Mdl_sample 147 = .ok (.iload 9, 2) := by decide +kernel
theorem d_Mdl_sample_149 : decode b_Mdl_sample 149 = .ok (.aload_n 0, 1) := by decide +kernel
theorem d_Mdl_sample_150 : decode b_Mdl_sample 150 = .ok (.getfield 92, 3) := by decide +kernel
theorem d_Mdl_sample_153 : decode b_Mdl_sample 153 = .ok (.iload 9, 2) := by decide +kernel
theorem d_Mdl_sample_155 : decode b_Mdl_sample 155 = .ok (.iconst 1, 1) := by decide +kernel
theorem d_Mdl_sample_156 : decode b_Mdl_sample 156 = .ok (.iadd, 1) := by decide +kernel
theorem d_Mdl_sample_157 : decode b_Mdl_sample 157 = .ok (.laload, 1) := by decide +kernel
theorem d_Mdl_sample_158 : decode b_Mdl_sample 158 = .ok (.lastore, 1) := by decide +kernel
theorem d_Mdl_sample_159 : decode b_Mdl_sample 159 = .ok (.aload_n 0, 1) := by decide +kernel
theorem d_Mdl_sample_160 : decode b_Mdl_sample 160 = .ok (.getfield 96, 3) := by decide +kernel
theorem d_Mdl_sample_163 : decode b_Mdl_sample 163 = .ok (.iload 9, 2) := by decide +kernel
theorem d_Mdl_sample_165 : decode b_Mdl_sample 165 = .ok (.aload_n 0, 1) := by decide +kernel
theorem d_Mdl_sample_166 : decode b_Mdl_sample 166 = .ok (.getfield 96, 3) := by decide +kernel
theorem d_Mdl_sample_169 : decode b_Mdl_sample 169 = .ok (.iload 9, 2) := by decide +kernel
theorem d_Mdl_sample_171 : decode b_Mdl_sample 171 = .ok (.iconst 1, 1) := by decide +kernel
theorem d_Mdl_sample_172 : decode b_Mdl_sample 172 = .ok (.iadd, 1) := by decide +kernel
theorem d_Mdl_sample_173 : decode b_Mdl_sample 173 = .ok (.laload, 1) := by decide +kernel
theorem d_Mdl_sample_174 : decode b_Mdl_sample 174 = .ok (.lastore, 1) := by decide +kernel
theorem d_Mdl_sample_175 : decode b_Mdl_sample 175 = .ok (.aload_n 0, 1) := by decide +kernel
theorem d_Mdl_sample_176 : decode b_Mdl_sample 176 = .ok (.getfield 99, 3) := by decide +kernel
theorem d_Mdl_sample_179 : decode b_Mdl_sample 179 = .ok (.iload 9, 2) := by decide +kernel
theorem d_Mdl_sample_181 : decode b_Mdl_sample 181 = .ok (.aload_n 0, 1) := by decide +kernel
theorem d_Mdl_sample_182 : decode b_Mdl_sample 182 = .ok (.getfield 99, 3) := by decide +kernel
theorem d_Mdl_sample_185 : decode b_Mdl_sample 185 = .ok (.iload 9, 2) := by decide +kernel
theorem d_Mdl_sample_187 : decode b_Mdl_sample 187 = .ok (.iconst 1, 1) := by decide +kernel
theorem d_Mdl_sample_188 : decode b_Mdl_sample 188 = .ok (.iadd, 1) := by decide +kernel
theorem d_Mdl_sample_189 : decode b_Mdl_sample 189 = .ok (.iaload, 1) := by decide +kernel
theorem d_Mdl_sample_190 : decode b_Mdl_sample 190 = .ok (.iastore, 1) := by decide +kernel
theorem d_Mdl_sample_191 : decode b_Mdl_sample 191 = .ok (.iinc 9 1, 3) := by decide +kernel
theorem d_Mdl_sample_194 : decode b_Mdl_sample 194 = .ok (.goto (-77), 3) := by decide +kernel
theorem d_Mdl_sample_197 : decode b_Mdl_sample 197 = .ok (.iconst 3, 1) := by decide +kernel
theorem d_Mdl_sample_198 : decode b_Mdl_sample 198 = .ok (.istore 8, 2) := by decide +kernel
theorem d_Mdl_sample_200 : decode b_Mdl_sample 200 = .ok (.iconst 4, 1) := by decide +kernel
theorem d_Mdl_sample_201 : decode b_Mdl_sample 201 = .ok (.iload_n 1, 1) := by decide +kernel
theorem d_Mdl_sample_202 : decode b_Mdl_sample 202 = .ok (.imul, 1) := by decide +kernel
theorem d_Mdl_sample_203 : decode b_Mdl_sample 203 = .ok (.iload 8, 2) := by decide +kernel
theorem d_Mdl_sample_205 : decode b_Mdl_sample 205 = .ok (.iadd, 1) := by decide +kernel
theorem d_Mdl_sample_206 : decode b_Mdl_sample 206 = .ok (.istore 9, 2) := by decide +kernel
theorem d_Mdl_sample_208 : decode b_Mdl_sample 208 = .ok (.aload_n 0, 1) := by decide +kernel
theorem d_Mdl_sample_209 : decode b_Mdl_sample 209 = .ok (.getfield 89, 3) := by decide +kernel
theorem d_Mdl_sample_212 : decode b_Mdl_sample 212 = .ok (.iload 9, 2) := by decide +kernel
theorem d_Mdl_sample_214 : decode b_Mdl_sample 214 = .ok (.iload_n 2, 1) := by decide +kernel
theorem d_Mdl_sample_215 : decode b_Mdl_sample 215 = .ok (.iastore, 1) := by decide +kernel
theorem d_Mdl_sample_216 : decode b_Mdl_sample 216 = .ok (.aload_n 0, 1) := by decide +kernel
theorem d_Mdl_sample_217 : decode b_Mdl_sample 217 = .ok (.getfield 92, 3) := by decide +kernel
theorem d_Mdl_sample_220 : decode b_Mdl_sample 220 = .ok (.iload 9, 2) := by decide +kernel
theorem d_Mdl_sample_222 : decode b_Mdl_sample 222 = .ok (.dload_n 3, 1) := by decide +kernel
theorem d_Mdl_sample_223 : decode b_Mdl_sample 223 = .ok (.ldc2_w 192, 3) := by decide +kernel
theorem d_Mdl_sample_226 : decode b_Mdl_sample 226 = .ok (.dmul, 1) := by decide +kernel
theorem d_Mdl_sample_227 : decode b_Mdl_sample 227 = .ok (.d2l, 1) := by decide +kernel
theorem d_Mdl_sample_228 : decode b_Mdl_sample 228 = .ok (.lastore, 1) := by decide +kernel
theorem d_Mdl_sample_229 : decode b_Mdl_sample 229 = .ok (.aload_n 0, 1) := by decide +kernel
theorem d_Mdl_sample_230 : decode b_Mdl_sample 230 = .ok (.getfield 96, 3) := by decide +kernel
theorem d_Mdl_sample_233 : decode b_Mdl_sample 233 = .ok (.iload 9, 2) := by decide +kernel
theorem d_Mdl_sample_235 : decode b_Mdl_sample 235 = .ok (.dload 5, 2) := by decide +kernel
theorem d_Mdl_sample_237 : decode b_Mdl_sample 237 = .ok (.ldc2_w 192, 3) := by decide +kernel
theorem d_Mdl_sample_240 : decode b_Mdl_sample 240 = .ok (.dmul, 1) := by decide +kernel
theorem d_Mdl_sample_241 : decode b_Mdl_sample 241 = .ok (.d2l, 1) := by decide +kernel
theorem d_Mdl_sample_242 : decode b_Mdl_sample 242 = .ok (.lastore, 1) := by decide +kernel
theorem d_Mdl_sample_243 : decode b_Mdl_sample 243 = .ok (.aload_n 0, 1) := by decide +kernel
theorem d_Mdl_sample_244 : decode b_Mdl_sample 244 = .ok (.getfield 99, 3) := by decide +kernel
theorem d_Mdl_sample_247 : decode b_Mdl_sample 247 = .ok (.iload 9, 2) := by decide +kernel
theorem d_Mdl_sample_249 : decode b_Mdl_sample 249 = .ok (.iload 7, 2) := by decide +kernel
theorem d_Mdl_sample_251 : decode b_Mdl_sample 251 = .ok (.iastore, 1) := by decide +kernel
theorem d_Mdl_sample_252 : decode b_Mdl_sample 252 = .ok (.aload_n 0, 1) := by decide +kernel
theorem d_Mdl_sample_253 : decode b_Mdl_sample 253 = .ok (.getfield 86, 3) := by decide +kernel
theorem d_Mdl_sample_256 : decode b_Mdl_sample 256 = .ok (.iload_n 1, 1) := by decide +kernel
theorem d_Mdl_sample_257 : decode b_Mdl_sample 257 = .ok (.iload 8, 2) := by decide +kernel
theorem d_Mdl_sample_259 : decode b_Mdl_sample 259 = .ok (.iconst 1, 1) := by decide +kernel
theorem d_Mdl_sample_260 : decode b_Mdl_sample 260 = .ok (.iadd, 1) := by decide +kernel
theorem d_Mdl_sample_261 : decode b_Mdl_sample 261 = .ok (.iastore, 1) := by decide +kernel
theorem d_Mdl_sample_262 : decode b_Mdl_sample 262 = .ok (.iload 8, 2) := by decide +kernel
theorem d_Mdl_sample_264 : decode b_Mdl_sample 264 = .ok (.iconst 1, 1) := by decide +kernel
theorem d_Mdl_sample_265 : decode b_Mdl_sample 265 = .ok (.iadd, 1) := by decide +kernel
theorem d_Mdl_sample_266 : decode b_Mdl_sample 266 = .ok (.ireturn, 1) := by decide +kernel
theorem d_Mdl_near_0 : decode b_Mdl_near 0 = .ok (.dload_n 0, 1) := by decide +kernel
theorem d_Mdl_near_1 : decode b_Mdl_near 1 = .ok (.ldc2_w 188, 3) := by decide +kernel
theorem d_Mdl_near_4 : decode b_Mdl_near 4 = .ok (.dcmp .l, 1) := by decide +kernel
theorem d_Mdl_near_5 : decode b_Mdl_near 5 = .ok (.ifCond .lt 31, 3) := by decide +kernel
theorem d_Mdl_near_8 : decode b_Mdl_near 8 = .ok (.dload_n 0, 1) := by decide +kernel
theorem d_Mdl_near_9 : decode b_Mdl_near 9 = .ok (.ldc2_w 190, 3) := by decide +kernel
theorem d_Mdl_near_12 : decode b_Mdl_near 12 = .ok (.dcmp .g, 1) := by decide +kernel
theorem d_Mdl_near_13 : decode b_Mdl_near 13 = .ok (.ifCond .gt 23, 3) := by decide +kernel
theorem d_Mdl_near_16 : decode b_Mdl_near 16 = .ok (.dload_n 0, 1) := by decide +kernel
theorem d_Mdl_near_17 : decode b_Mdl_near 17 = .ok (.ldc2_w 192, 3) := by decide +kernel
theorem d_Mdl_near_20 : decode b_Mdl_near 20 = .ok (.dmul, 1) := by decide +kernel
theorem d_Mdl_near_21 : decode b_Mdl_near 21 = .ok (.dload_n 0, 1) := by decide +kernel
theorem d_Mdl_near_22 : decode b_Mdl_near 22 = .ok (.ldc2_w 192, 3) := by decide +kernel
theorem d_Mdl_near_25 : decode b_Mdl_near 25 = .ok (.dmul, 1) := by decide +kernel
theorem d_Mdl_near_26 : decode b_Mdl_near 26 = .ok (.d2l, 1) := by decide +kernel
theorem d_Mdl_near_27 : decode b_Mdl_near 27 = .ok (.l2d, 1) := by decide +kernel
theorem d_Mdl_near_28 : decode b_Mdl_near 28 = .ok (.dcmp .l, 1) := by decide +kernel
theorem d_Mdl_near_29 : decode b_Mdl_near 29 = .ok (.ifCond .ne 7, 3) := by decide +kernel
theorem d_Mdl_near_32 : decode b_Mdl_near 32 = .ok (.iconst 1, 1) := by decide +kernel
theorem d_Mdl_near_33 : decode b_Mdl_near 33 = .ok (.goto 4, 3) := by decide +kernel
theorem d_Mdl_near_36 : decode b_Mdl_near 36 = .ok (.iconst 0, 1) := by decide +kernel
theorem d_Mdl_near_37 : decode b_Mdl_near 37 = .ok (.ireturn, 1) := by decide +kernel
theorem d_Mdl_locate_0 : decode b_Mdl_locate 0 = .ok (.aload_n 0, 1) := by decide +kernel
theorem d_Mdl_locate_1 : decode b_Mdl_locate 1 = .ok (.iconst 0, 1) := by decide +kernel
theorem d_Mdl_locate_2 : decode b_Mdl_locate 2 = .ok (.putfield 102, 3) := by decide +kernel
theorem d_Mdl_locate_5 : decode b_Mdl_locate 5 = .ok (.iload_n 1, 1) := by decide +kernel
theorem d_Mdl_locate_6 : decode b_Mdl_locate 6 = .ok (.iconst 0, 1) := by decide +kernel
theorem d_Mdl_locate_7 : decode b_Mdl_locate 7 = .ok (.iconst 5, 1) := by decide +kernel
theorem d_Mdl_locate_8 : decode b_Mdl_locate 8 = .ok (.invokestatic 106, 3) := by decide +kernel
theorem d_Mdl_locate_11 : decode b_Mdl_locate 11 = .ok (.ifCond .eq 18, 3) := by decide +kernel
theorem d_Mdl_locate_14 : decode b_Mdl_locate 14 = .ok (.dload_n 3, 1) := by decide +kernel
theorem d_Mdl_locate_15 : decode b_Mdl_locate 15 = .ok (.invokestatic 194, 3) := by decide +kernel
theorem d_Mdl_locate_18 : decode b_Mdl_locate 18 = .ok (.ifCond .eq 11, 3) := by decide +kernel
theorem d_Mdl_locate_21 : decode b_Mdl_locate 21 = .ok (.dload 5, 2) := by decide +kernel
theorem d_Mdl_locate_23 : decode b_Mdl_locate 23 = .ok (.invokestatic 194, 3) := by decide +kernel
theorem d_Mdl_locate_26 : decode b_Mdl_locate 26 = .ok (.ifCond .ne 10, 3) := by decide +kernel
theorem d_Mdl_locate_29 : decode b_Mdl_locate 29 = .ok (.aload_n 0, 1) := by decide +kernel
theorem d_Mdl_locate_30 : decode b_Mdl_locate 30 = .ok (.iconst 1, 1) := by decide +kernel
theorem d_Mdl_locate_31 : decode b_Mdl_locate 31 = .ok (.invokevirtual 110, 3) := by decide +kernel
theorem d_Mdl_locate_34 : decode b_Mdl_locate 34 = .ok (.i2d, 1) := by decide +kernel
theorem d_Mdl_locate_35 : decode b_Mdl_locate 35 = .ok (.dreturn, 1) := by decide +kernel
theorem d_Mdl_locate_36 : decode b_Mdl_locate 36 = .ok (.iload_n 1, 1) := by decide +kernel
theorem d_Mdl_locate_37 : decode b_Mdl_locate 37 = .ok (.istore 7, 2) := by decide +kernel
theorem d_Mdl_locate_39 : decode b_Mdl_locate 39 = .ok (.iload 7, 2) := by decide +kernel
theorem d_Mdl_locate_41 : decode b_Mdl_locate 41 = .ok (.ifCond .le 15, 3) := by decide +kernel
theorem d_Mdl_locate_44 : decode b_Mdl_locate 44 = .ok (.aload_n 0, 1) := by decide +kernel
theorem d_Mdl_locate_45 : decode b_Mdl_locate 45 = .ok (.getfield 83, 3) := by decide +kernel
theorem d_Mdl_locate_48 : decode b_Mdl_locate 48 = .ok (.iload 7, 2) := by decide +kernel
theorem d_Mdl_locate_50 : decode b_Mdl_locate 50 = .ok (.iaload, 1) := by decide +kernel
theorem d_Mdl_locate_51 : decode b_Mdl_locate 51 = .ok (.istore 7, 2) := by decide +kernel
theorem d_Mdl_locate_53 : decode b_Mdl_locate 53 = .ok (.goto (-14), 3) := by decide +kernel
theorem d_Mdl_locate_56 : decode b_Mdl_locate 56 = .ok (.iload 7, 2) := by decide +kernel
theorem d_Mdl_locate_58 : decode b_Mdl_locate 58 = .ok (.ifCond .ge 10, 3) := by decide +kernel
theorem d_Mdl_locate_61 : decode b_Mdl_locate 61 = .ok (.aload_n 0, 1) := by decide +kernel
theorem d_Mdl_locate_62 : decode b_Mdl_locate 62 = .ok (.iconst 2, 1) := by decide +kernel
theorem d_Mdl_locate_63 : decode b_Mdl_locate 63 = .ok (.invokevirtual 110, 3) := by decide +kernel
theorem d_Mdl_locate_66 : decode b_Mdl_locate 66 = .ok (.i2d, 1) := by decide +kernel
theorem d_Mdl_locate_67 : decode b_Mdl_locate 67 = .ok (.dreturn, 1) := by decide +kernel
theorem d_Mdl_locate_68 : decode b_Mdl_locate 68 = .ok (.aload_n 0, 1) := by decide +kernel
theorem d_Mdl_locate_69 : decode b_Mdl_locate 69 = .ok (.dload_n 3, 1) := by decide +kernel
theorem d_Mdl_locate_70 : decode b_Mdl_locate 70 = .ok (.ldc2_w 192, 3) := by decide +kernel
theorem d_Mdl_locate_73 : decode b_Mdl_locate 73 = .ok (.dmul, 1) := by decide +kernel
theorem d_Mdl_locate_74 : decode b_Mdl_locate 74 = .ok (.d2l, 1) := by decide +kernel
theorem d_Mdl_locate_75 : decode b_Mdl_locate 75 = .ok (.putfield 203, 3) := by decide +kernel
theorem d_Mdl_locate_78 : decode b_Mdl_locate 78 = .ok (.aload_n 0, 1) := by decide +kernel
theorem d_Mdl_locate_79 : decode b_Mdl_locate 79 = .ok (.dload 5, 2) := by decide +kernel
theorem d_Mdl_locate_81 : decode b_Mdl_locate 81 = .ok (.ldc2_w 192, 3) := by decide +kernel
theorem d_Mdl_locate_84 : decode b_Mdl_locate 84 = .ok (.dmul, 1) := by decide +kernel
theorem d_Mdl_locate_85 : decode b_Mdl_locate 85 = .ok (.d2l, 1) := by decide +kernel
theorem d_Mdl_locate_86 : decode b_Mdl_locate 86 = .ok (.putfield 207, 3) := by decide +kernel
theorem d_Mdl_locate_89 : decode b_Mdl_locate 89 = .ok (.iload_n 1, 1) := by decide +kernel
theorem d_Mdl_locate_90 : decode b_Mdl_locate 90 = .ok (.istore 7, 2) := by decide +kernel
theorem d_Mdl_locate_92 : decode b_Mdl_locate 92 = .ok (.iload 7, 2) := by decide +kernel
theorem d_Mdl_locate_94 : decode b_Mdl_locate 94 = .ok (.ifCond .le 32, 3) := by decide +kernel
theorem d_Mdl_locate_97 : decode b_Mdl_locate 97 = .ok (.aload_n 0, 1) := by decide +kernel
theorem d_Mdl_locate_98 : decode b_Mdl_locate 98 = .ok (.iload 7, 2) := by decide +kernel
theorem d_Mdl_locate_100 : decode b_Mdl_locate 100 = .ok (.iload_n 2, 1) := by decide +kernel
theorem d_Mdl_locate_101 : decode b_Mdl_locate 101 = .ok (.invokevirtual 210, 3) := by decide +kernel
theorem d_Mdl_locate_104 : decode b_Mdl_locate 104 = .ok (.ifCond .ne 10, 3) := by decide +kernel
theorem d_Mdl_locate_107 : decode b_Mdl_locate 107 = .ok (.aload_n 0, 1) := by decide +kernel
theorem d_Mdl_locate_108 : decode b_Mdl_locate 108 = .ok (.iconst 3, 1) := by decide +kernel
theorem d_Mdl_locate_109 : decode b_Mdl_locate 109 = .ok (.invokevirtual 110, 3) := by decide +kernel
theorem d_Mdl_locate_112 : decode b_Mdl_locate 112 = .ok (.i2d, 1) := by decide +kernel
theorem d_Mdl_locate_113 : decode b_Mdl_locate 113 = .ok (.dreturn, 1) := by decide +kernel
theorem d_Mdl_locate_114 : decode b_Mdl_locate 114 = .ok (.aload_n 0, 1) := by decide +kernel
theorem d_Mdl_locate_115 : decode b_Mdl_locate 115 = .ok (.getfield 83, 3) := by decide +kernel
theorem d_Mdl_locate_118 : decode b_Mdl_locate 118 = .ok (.iload 7, 2) := by decide +kernel
theorem d_Mdl_locate_120 : decode b_Mdl_locate 120 = .ok (.iaload, 1) := by decide +kernel
theorem d_Mdl_locate_121 : decode b_Mdl_locate 121 = .ok (.istore 7, 2) := by decide +kernel
theorem d_Mdl_locate_123 : decode b_Mdl_locate 123 = .ok (.goto (-31), 3) := by decide +kernel
theorem d_Mdl_locate_126 : decode b_Mdl_locate 126 = .ok (.aload_n 0, 1) := by decide +kernel
theorem d_Mdl_locate_127 : decode b_Mdl_locate 127 = .ok (.aload_n 0, 1) := by decide +kernel
theorem d_Mdl_locate_128 : decode b_Mdl_locate 128 = .ok (.getfield 207, 3) := by decide +kernel
theorem d_Mdl_locate_131 : decode b_Mdl_locate 131 = .ok (.l2d, 1) := by decide +kernel
theorem d_Mdl_locate_132 : decode b_Mdl_locate 132 = .ok (.ldc2_w 214, 3) := by decide +kernel
theorem d_Mdl_locate_135 : decode b_Mdl_locate 135 = .ok (.dmul, 1) := by decide +kernel
theorem d_Mdl_locate_136 : decode b_Mdl_locate 136 = .ok (.putfield 216, 3) := by decide +kernel
theorem d_Mdl_locate_139 : decode b_Mdl_locate 139 = .ok (.aload_n 0, 1) := by decide +kernel
theorem d_Mdl_locate_140 : decode b_Mdl_locate 140 = .ok (.getfield 203, 3) := by decide +kernel
theorem d_Mdl_locate_143 : decode b_Mdl_locate 143 = .ok (.l2d, 1) := by decide +kernel
theorem d_Mdl_locate_144 : decode b_Mdl_locate 144 = .ok (.ldc2_w 214, 3) := by decide +kernel
theorem d_Mdl_locate_147 : decode b_Mdl_locate 147 = .ok (.dmul, 1) := by decide +kernel
theorem d_Mdl_locate_148 : decode b_Mdl_locate 148 = .ok (.dreturn, 1) := by decide +kernel
theorem d_Mdl_rise_0 : decode b_Mdl_rise 0 = .ok (.iconst 4, 1) := by decide +kernel
theorem d_Mdl_rise_1 : decode b_Mdl_rise 1 = .ok (.iload_n 1, 1) := by decide +kernel
theorem d_Mdl_rise_2 : decode b_Mdl_rise 2 = .ok (.imul, 1) := by decide +kernel
theorem d_Mdl_rise_3 : decode b_Mdl_rise 3 = .ok (.istore_n 3, 1) := by decide +kernel
theorem d_Mdl_rise_4 : decode b_Mdl_rise 4 = .ok (.iload_n 3, 1) := by decide +kernel
theorem d_Mdl_rise_5 : decode b_Mdl_rise 5 = .ok (.aload_n 0, 1) := by decide +kernel
theorem d_Mdl_rise_6 : decode b_Mdl_rise 6 = .ok (.getfield 86, 3) := by decide +kernel
theorem d_Mdl_rise_9 : decode b_Mdl_rise 9 = .ok (.iload_n 1, 1) := by decide +kernel
theorem d_Mdl_rise_10 : decode b_Mdl_rise 10 = .ok (.iaload, 1) := by decide +kernel
theorem d_Mdl_rise_11 : decode b_Mdl_rise 11 = .ok (.iadd, 1) := by decide +kernel
theorem d_Mdl_rise_12 : decode b_Mdl_rise 12 = .ok (.iconst 1, 1) := by decide +kernel
theorem d_Mdl_rise_13 : decode b_Mdl_rise 13 = .ok (.isub, 1) := by decide +kernel
theorem d_Mdl_rise_14 : decode b_Mdl_rise 14 = .ok (.istore 4, 2) := by decide +kernel
theorem d_Mdl_rise_16 : decode b_Mdl_rise 16 = .ok (.aload_n 0, 1) := by decide +kernel
theorem d_Mdl_rise_17 : decode b_Mdl_rise 17 = .ok (.getfield 86, 3) := by decide +kernel
theorem d_Mdl_rise_20 : decode b_Mdl_rise 20 = .ok (.iload_n 1, 1) := by decide +kernel
theorem d_Mdl_rise_21 : decode b_Mdl_rise 21 = .ok (.iaload, 1) := by decide +kernel
theorem d_Mdl_rise_22 : decode b_Mdl_rise 22 = .ok (.ifCond .eq 24, 3) := by decide +kernel
theorem d_Mdl_rise_25 : decode b_Mdl_rise 25 = .ok (.iload_n 2, 1) := by decide +kernel
theorem d_Mdl_rise_26 : decode b_Mdl_rise 26 = .ok (.aload_n 0, 1) := by decide +kernel
theorem d_Mdl_rise_27 : decode b_Mdl_rise 27 = .ok (.getfield 89, 3) := by decide +kernel
theorem d_Mdl_rise_30 : decode b_Mdl_rise 30 = .ok (.iload_n 3, 1) := by decide +kernel
theorem d_Mdl_rise_31 : decode b_Mdl_rise 31 = .ok (.iaload, 1) := by decide +kernel
theorem d_Mdl_rise_32 : decode b_Mdl_rise 32 = .ok (.if_icmp .lt 14, 3) := by decide +kernel
theorem d_Mdl_rise_35 : decode b_Mdl_rise 35 = .ok (.iload_n 2, 1) := by decide +kernel
theorem d_Mdl_rise_36 : decode b_Mdl_rise 36 = .ok (.aload_n 0, 1) := by decide +kernel
theorem d_Mdl_rise_37 : decode b_Mdl_rise 37 = .ok (.getfield 89, 3) := by decide +kernel
theorem d_Mdl_rise_40 : decode b_Mdl_rise 40 = .ok (.iload 4, 2) := by decide +kernel
theorem d_Mdl_rise_42 : decode b_Mdl_rise 42 = .ok (.iaload, 1) := by decide +kernel
theorem d_Mdl_rise_43 : decode b_Mdl_rise 43 = .ok (.if_icmp .le 5, 3) := by decide +kernel
theorem d_Mdl_rise_46 : decode b_Mdl_rise 46 = .ok (.iconst 0, 1) := by decide +kernel
theorem d_Mdl_rise_47 : decode b_Mdl_rise 47 = .ok (.ireturn, 1) := by decide +kernel
theorem d_Mdl_rise_48 : decode b_Mdl_rise 48 = .ok (.iload_n 3, 1) := by decide +kernel
theorem d_Mdl_rise_49 : decode b_Mdl_rise 49 = .ok (.iload 4, 2) := by decide +kernel
theorem d_Mdl_rise_51 : decode b_Mdl_rise 51 = .ok (.if_icmp .ge 21, 3) := by decide +kernel
theorem d_Mdl_rise_54 : decode b_Mdl_rise 54 = .ok (.aload_n 0, 1) := by decide +kernel
theorem d_Mdl_rise_55 : decode b_Mdl_rise 55 = .ok (.getfield 89, 3) := by decide +kernel
theorem d_Mdl_rise_58 : decode b_Mdl_rise 58 = .ok (.iload_n 3, 1) := by decide +kernel
theorem d_Mdl_rise_59 : decode b_Mdl_rise 59 = .ok (.iconst 1, 1) := by decide +kernel
theorem d_Mdl_rise_60 : decode b_Mdl_rise 60 = .ok (.iadd, 1) := by decide +kernel
theorem d_Mdl_rise_61 : decode b_Mdl_rise 61 = .ok (.iaload, 1) := by decide +kernel
theorem d_Mdl_rise_62 : decode b_Mdl_rise 62 = .ok (.iload_n 2, 1) := by decide +kernel
theorem d_Mdl_rise_63 : decode b_Mdl_rise 63 = .ok (.if_icmp .gt 9, 3) := by decide +kernel
theorem d_Mdl_rise_66 : decode b_Mdl_rise 66 = .ok (.iinc 3 1, 3) := by decide +kernel
theorem d_Mdl_rise_69 : decode b_Mdl_rise 69 = .ok (.goto (-21), 3) := by decide +kernel
theorem d_Mdl_rise_72 : decode b_Mdl_rise 72 = .ok (.aload_n 0, 1) := by decide +kernel
theorem d_Mdl_rise_73 : decode b_Mdl_rise 73 = .ok (.getfield 92, 3) := by decide +kernel
theorem d_Mdl_rise_76 : decode b_Mdl_rise 76 = .ok (.iload_n 3, 1) := by decide +kernel
theorem d_Mdl_rise_77 : decode b_Mdl_rise 77 = .ok (.laload, 1) := by decide +kernel
theorem d_Mdl_rise_78 : decode b_Mdl_rise 78 = .ok (.lstore 5, 2) := by decide +kernel
theorem d_Mdl_rise_80 : decode b_Mdl_rise 80 = .ok (.aload_n 0, 1) := by decide +kernel
theorem d_Mdl_rise_81 : decode b_Mdl_rise 81 = .ok (.getfield 96, 3) := by decide +kernel
theorem d_Mdl_rise_84 : decode b_Mdl_rise 84 = .ok (.iload_n 3, 1) := by decide +kernel
theorem d_Mdl_rise_85 : decode b_Mdl_rise 85 = .ok (.laload, 1) := by decide +kernel
theorem d_Mdl_rise_86 : decode b_Mdl_rise 86 = .ok (.lstore 7, 2) := by decide +kernel
theorem d_Mdl_rise_88 : decode b_Mdl_rise 88 = .ok (.aload_n 0, 1) := by decide +kernel
theorem d_Mdl_rise_89 : decode b_Mdl_rise 89 = .ok (.getfield 89, 3) := by decide +kernel
theorem d_Mdl_rise_92 : decode b_Mdl_rise 92 = .ok (.iload_n 3, 1) := by decide +kernel
theorem d_Mdl_rise_93 : decode b_Mdl_rise 93 = .ok (.iaload, 1) := by decide +kernel
theorem d_Mdl_rise_94 : decode b_Mdl_rise 94 = .ok (.iload_n 2, 1) := by decide +kernel
theorem d_Mdl_rise_95 : decode b_Mdl_rise 95 = .ok (.if_icmp .eq 91, 3) := by decide +kernel
theorem d_Mdl_rise_98 : decode b_Mdl_rise 98 = .ok (.aload_n 0, 1) := by decide +kernel
theorem d_Mdl_rise_99 : decode b_Mdl_rise 99 = .ok (.getfield 92, 3) := by decide +kernel
theorem d_Mdl_rise_102 : decode b_Mdl_rise 102 = .ok (.iload_n 3, 1) := by decide +kernel
theorem d_Mdl_rise_103 : decode b_Mdl_rise 103 = .ok (.laload, 1) := by decide +kernel
theorem d_Mdl_rise_104 : decode b_Mdl_rise 104 = .ok (.aload_n 0, 1) := by decide +kernel
theorem d_Mdl_rise_105 : decode b_Mdl_rise 105 = .ok (.getfield 92, 3) := by decide +kernel
theorem d_Mdl_rise_108 : decode b_Mdl_rise 108 = .ok (.iload_n 3, 1) := by decide +kernel
theorem d_Mdl_rise_109 : decode b_Mdl_rise 109 = .ok (.iconst 1, 1) := by decide +kernel
theorem d_Mdl_rise_110 : decode b_Mdl_rise 110 = .ok (.iadd, 1) := by decide +kernel
theorem d_Mdl_rise_111 : decode b_Mdl_rise 111 = .ok (.laload, 1) := by decide +kernel
theorem d_Mdl_rise_112 : decode b_Mdl_rise 112 = .ok (.iload_n 2, 1) := by decide +kernel
theorem d_Mdl_rise_113 : decode b_Mdl_rise 113 = .ok (.aload_n 0, 1) := by decide +kernel
theorem d_Mdl_rise_114 : decode b_Mdl_rise 114 = .ok (.getfield 89, 3) := by decide +kernel
theorem d_Mdl_rise_117 : decode b_Mdl_rise 117 = .ok (.iload_n 3, 1) := by decide +kernel
theorem d_Mdl_rise_118 : decode b_Mdl_rise 118 = .ok (.iaload, 1) := by decide +kernel
theorem d_Mdl_rise_119 : decode b_Mdl_rise 119 = .ok (.isub, 1) := by decide +kernel
theorem d_Mdl_rise_120 : decode b_Mdl_rise 120 = .ok (.i2l, 1) := by decide +kernel
theorem d_Mdl_rise_121 : decode b_Mdl_rise 121 = .ok (.aload_n 0, 1) := by decide +kernel
theorem d_Mdl_rise_122 : decode b_Mdl_rise 122 = .ok (.getfield 89, 3) := by decide +kernel
theorem d_Mdl_rise_125 : decode b_Mdl_rise 125 = .ok (.iload_n 3, 1) := by decide +kernel
theorem d_Mdl_rise_126 : decode b_Mdl_rise 126 = .ok (.iconst 1, 1) := by decide +kernel
theorem d_Mdl_rise_127 : decode b_Mdl_rise 127 = .ok (.iadd, 1) := by decide +kernel
theorem d_Mdl_rise_128 : decode b_Mdl_rise 128 = .ok (.iaload, 1) := by decide +kernel
theorem d_Mdl_rise_129 : decode b_Mdl_rise 129 = .ok (.aload_n 0, 1) := by decide +kernel
theorem d_Mdl_rise_130 : decode b_Mdl_rise 130 = .ok (.getfield 89, 3) := by decide +kernel
theorem d_Mdl_rise_133 : decode b_Mdl_rise 133 = .ok (.iload_n 3, 1) := by decide +kernel
theorem d_Mdl_rise_134 : decode b_Mdl_rise 134 = .ok (.iaload, 1) := by decide +kernel
theorem d_Mdl_rise_135 : decode b_Mdl_rise 135 = .ok (.isub, 1) := by decide +kernel
theorem d_Mdl_rise_136 : decode b_Mdl_rise 136 = .ok (.i2l, 1) := by decide +kernel
theorem d_Mdl_rise_137 : decode b_Mdl_rise 137 = .ok (.invokestatic 199, 3) := by decide +kernel
theorem d_Mdl_rise_140 : decode b_Mdl_rise 140 = .ok (.lstore 5, 2) := by decide +kernel
theorem d_Mdl_rise_142 : decode b_Mdl_rise 142 = .ok (.aload_n 0, 1) := by decide +kernel
theorem d_Mdl_rise_143 : decode b_Mdl_rise 143 = .ok (.getfield 96, 3) := by decide +kernel
theorem d_Mdl_rise_146 : decode b_Mdl_rise 146 = .ok (.iload_n 3, 1) := by decide +kernel
theorem d_Mdl_rise_147 : decode b_Mdl_rise 147 = .ok (.laload, 1) := by decide +kernel
theorem d_Mdl_rise_148 : decode b_Mdl_rise 148 = .ok (.aload_n 0, 1) := by decide +kernel
theorem d_Mdl_rise_149 : decode b_Mdl_rise 149 = .ok (.getfield 96, 3) := by decide +kernel
theorem d_Mdl_rise_152 : decode b_Mdl_rise 152 = .ok (.iload_n 3, 1) := by decide +kernel
theorem d_Mdl_rise_153 : decode b_Mdl_rise 153 = .ok (.iconst 1, 1) := by decide +kernel
theorem d_Mdl_rise_154 : decode b_Mdl_rise 154 = .ok (.iadd, 1) := by decide +kernel
theorem d_Mdl_rise_155 : decode b_Mdl_rise 155 = .ok (.laload, 1) := by decide +kernel
theorem d_Mdl_rise_156 : decode b_Mdl_rise 156 = .ok (.iload_n 2, 1) := by decide +kernel
theorem d_Mdl_rise_157 : decode b_Mdl_rise 157 = .ok (.aload_n 0, 1) := by decide +kernel
theorem d_Mdl_rise_158 : decode b_Mdl_rise 158 = .ok (.getfield 89, 3) := by decide +kernel
theorem d_Mdl_rise_161 : decode b_Mdl_rise 161 = .ok (.iload_n 3, 1) := by decide +kernel
theorem d_Mdl_rise_162 : decode b_Mdl_rise 162 = .ok (.iaload, 1) := by decide +kernel
theorem d_Mdl_rise_163 : decode b_Mdl_rise 163 = .ok (.isub, 1) := by decide +kernel
theorem d_Mdl_rise_164 : decode b_Mdl_rise 164 = .ok (.i2l, 1) := by decide +kernel
theorem d_Mdl_rise_165 : decode b_Mdl_rise 165 = .ok (.aload_n 0, 1) := by decide +kernel
theorem d_Mdl_rise_166 : decode b_Mdl_rise 166 = .ok (.getfield 89, 3) := by decide +kernel
theorem d_Mdl_rise_169 : decode b_Mdl_rise 169 = .ok (.iload_n 3, 1) := by decide +kernel
theorem d_Mdl_rise_170 : decode b_Mdl_rise 170 = .ok (.iconst 1, 1) := by decide +kernel
theorem d_Mdl_rise_171 : decode b_Mdl_rise 171 = .ok (.iadd, 1) := by decide +kernel
theorem d_Mdl_rise_172 : decode b_Mdl_rise 172 = .ok (.iaload, 1) := by decide +kernel
theorem d_Mdl_rise_173 : decode b_Mdl_rise 173 = .ok (.aload_n 0, 1) := by decide +kernel
theorem d_Mdl_rise_174 : decode b_Mdl_rise 174 = .ok (.getfield 89, 3) := by decide +kernel
theorem d_Mdl_rise_177 : decode b_Mdl_rise 177 = .ok (.iload_n 3, 1) := by decide +kernel
theorem d_Mdl_rise_178 : decode b_Mdl_rise 178 = .ok (.iaload, 1) := by decide +kernel
theorem d_Mdl_rise_179 : decode b_Mdl_rise 179 = .ok (.isub, 1) := by decide +kernel
theorem d_Mdl_rise_180 : decode b_Mdl_rise 180 = .ok (.i2l, 1) := by decide +kernel
theorem d_Mdl_rise_181 : decode b_Mdl_rise 181 = .ok (.invokestatic 199, 3) := by decide +kernel
theorem d_Mdl_rise_184 : decode b_Mdl_rise 184 = .ok (.lstore 7, 2) := by decide +kernel
theorem d_Mdl_rise_186 : decode b_Mdl_rise 186 = .ok (.aload_n 0, 1) := by decide +kernel
theorem d_Mdl_rise_187 : decode b_Mdl_rise 187 = .ok (.getfield 203, 3) := by decide +kernel
theorem d_Mdl_rise_190 : decode b_Mdl_rise 190 = .ok (.lstore 9, 2) := by decide +kernel
theorem d_Mdl_rise_192 : decode b_Mdl_rise 192 = .ok (.aload_n 0, 1) := by decide +kernel
theorem d_Mdl_rise_193 : decode b_Mdl_rise 193 = .ok (.getfield 207, 3) := by decide +kernel
theorem d_Mdl_rise_196 : decode b_Mdl_rise 196 = .ok (.lstore 11, 2) := by decide +kernel
theorem d_Mdl_rise_198 : decode b_Mdl_rise 198 = .ok (.aload_n 0, 1) := by decide +kernel
theorem d_Mdl_rise_199 : decode b_Mdl_rise 199 = .ok (.getfield 99, 3) := by decide +kernel
theorem d_Mdl_rise_202 : decode b_Mdl_rise 202 = .ok (.iload_n 3, 1) := by decide +kernel
theorem d_Mdl_rise_203 : decode b_Mdl_rise 203 = .ok (.iaload, 1) := by decide +kernel
theorem d_Mdl_rise_204 : decode b_Mdl_rise 204 = .ok (.istore 13, 2) := by decide +kernel
theorem d_Mdl_rise_206 : decode b_Mdl_rise 206 = .ok (.aload_n 0, 1) := by decide +kernel
theorem d_Mdl_rise_207 : decode b_Mdl_rise 207 = .ok (.lload 5, 2) := by decide +kernel
theorem d_Mdl_rise_209 : decode b_Mdl_rise 209 = .ok (.iload 13, 2) := by decide +kernel
theorem d_Mdl_rise_211 : decode b_Mdl_rise 211 = .ok (.ifCond .ne 8, 3) := by decide +kernel
theorem d_Mdl_rise_214 : decode b_Mdl_rise 214 = .ok (.lload 9, 2) := by decide +kernel
theorem d_Mdl_rise_216 : decode b_Mdl_rise 216 = .ok (.goto 29, 3) := by decide +kernel
theorem d_Mdl_rise_219 : decode b_Mdl_rise 219 = .ok (.iload 13, 2) := by decide +kernel
theorem d_Mdl_rise_221 : decode b_Mdl_rise 221 = .ok (.iconst 1, 1) := by decide +kernel
theorem d_Mdl_rise_222 : decode b_Mdl_rise 222 = .ok (.if_icmp .ne 9, 3) := by decide +kernel
theorem d_Mdl_rise_225 : decode b_Mdl_rise 225 = .ok (.lload 11, 2) := by decide +kernel
theorem d_Mdl_rise_227 : decode b_Mdl_rise 227 = .ok (.lneg, 1) := by decide +kernel
theorem d_Mdl_rise_228 : decode b_Mdl_rise 228 = .ok (.goto 17, 3) := by decide +kernel
theorem d_Mdl_rise_231 : decode b_Mdl_rise 231 = .ok (.iload 13, 2) := by decide +kernel
theorem d_Mdl_rise_233 : decode b_Mdl_rise 233 = .ok (.iconst 2, 1) := by decide +kernel
theorem d_Mdl_rise_234 : decode b_Mdl_rise 234 = .ok (.if_icmp .ne 9, 3) := by decide +kernel
theorem d_Mdl_rise_237 : decode b_Mdl_rise 237 = .ok (.lload 9, 2) := by decide +kernel
theorem d_Mdl_rise_239 : decode b_Mdl_rise 239 = .ok (.lneg, 1) := by decide +kernel
theorem d_Mdl_rise_240 : decode b_Mdl_rise 240 = .ok (.goto 5, 3) := by decide +kernel
theorem d_Mdl_rise_243 : decode b_Mdl_rise 243 = .ok (.lload 11, 2) := by decide +kernel
theorem d_Mdl_rise_245 : decode b_Mdl_rise 245 = .ok (.ladd, 1) := by decide +kernel
theorem d_Mdl_rise_246 : decode b_Mdl_rise 246 = .ok (.putfield 203, 3) := by decide +kernel
theorem d_Mdl_rise_249 : decode b_Mdl_rise 249 = .ok (.aload_n 0, 1) := by decide +kernel
theorem d_Mdl_rise_250 : decode b_Mdl_rise 250 = .ok (.lload 7, 2) := by decide +kernel
theorem d_Mdl_rise_252 : decode b_Mdl_rise 252 = .ok (.iload 13, 2) := by decide +kernel
theorem d_Mdl_rise_254 : decode b_Mdl_rise 254 = .ok (.ifCond .ne 8, 3) := by decide +kernel
theorem d_Mdl_rise_257 : decode b_Mdl_rise 257 = .ok (.lload 11, 2) := by decide +kernel
theorem d_Mdl_rise_259 : decode b_Mdl_rise 259 = .ok (.goto 29, 3) := by decide +kernel
theorem d_Mdl_rise_262 : decode b_Mdl_rise 262 = .ok (.iload 13, 2) := by decide +kernel
theorem d_Mdl_rise_264 : decode b_Mdl_rise 264 = .ok (.iconst 1, 1) := by decide +kernel
theorem d_Mdl_rise_265 : decode b_Mdl_rise 265 = .ok (.if_icmp .ne 8, 3) := by decide +kernel
theorem d_Mdl_rise_268 : decode b_Mdl_rise 268 = .ok (.lload 9, 2) := by decide +kernel
theorem d_Mdl_rise_270 : decode b_Mdl_rise 270 = .ok (.goto 18, 3) := by decide +kernel
theorem d_Mdl_rise_273 : decode b_Mdl_rise 273 = .ok (.iload 13, 2) := by decide +kernel
theorem d_Mdl_rise_275 : decode b_Mdl_rise 275 = .ok (.iconst 2, 1) := by decide +kernel
theorem d_Mdl_rise_276 : decode b_Mdl_rise 276 = .ok (.if_icmp .ne 9, 3) := by decide +kernel
theorem d_Mdl_rise_279 : decode b_Mdl_rise 279 = .ok (.lload 11, 2) := by decide +kernel
theorem d_Mdl_rise_281 : decode b_Mdl_rise 281 = .ok (.lneg, 1) := by decide +kernel
theorem d_Mdl_rise_282 : decode b_Mdl_rise 282 = .ok (.goto 6, 3) := by decide +kernel
theorem d_Mdl_rise_285 : decode b_Mdl_rise 285 = .ok (.lload 9, 2) := by decide +kernel
theorem d_Mdl_rise_287 : decode b_Mdl_rise 287 = .ok (.lneg, 1) := by decide +kernel
theorem d_Mdl_rise_288 : decode b_Mdl_rise 288 = .ok (.ladd, 1) := by decide +kernel
theorem d_Mdl_rise_289 : decode b_Mdl_rise 289 = .ok (.putfield 207, 3) := by decide +kernel
theorem d_Mdl_rise_292 : decode b_Mdl_rise 292 = .ok (.iconst 1, 1) := by decide +kernel
theorem d_Mdl_rise_293 : decode b_Mdl_rise 293 = .ok (.ireturn, 1) := by decide +kernel
theorem d_Mdl_between_0 : decode b_Mdl_between 0 = .ok (.lload_n 2, 1) := by decide +kernel
theorem d_Mdl_between_1 : decode b_Mdl_between 1 = .ok (.lload_n 0, 1) := by decide +kernel
theorem d_Mdl_between_2 : decode b_Mdl_between 2 = .ok (.lsub, 1) := by decide +kernel
theorem d_Mdl_between_3 : decode b_Mdl_between 3 = .ok (.lload 4, 2) := by decide +kernel
theorem d_Mdl_between_5 : decode b_Mdl_between 5 = .ok (.lmul, 1) := by decide +kernel
theorem d_Mdl_between_6 : decode b_Mdl_between 6 = .ok (.lstore 8, 2) := by decide +kernel
theorem d_Mdl_between_8 : decode b_Mdl_between 8 = .ok (.lload_n 0, 1) := by decide +kernel
theorem d_Mdl_between_9 : decode b_Mdl_between 9 = .ok (.lload 8, 2) := by decide +kernel
theorem d_Mdl_between_11 : decode b_Mdl_between 11 = .ok (.lload 6, 2) := by decide +kernel
theorem d_Mdl_between_13 : decode b_Mdl_between 13 = .ok (.ldiv, 1) := by decide +kernel
theorem d_Mdl_between_14 : decode b_Mdl_between 14 = .ok (.ladd, 1) := by decide +kernel
theorem d_Mdl_between_15 : decode b_Mdl_between 15 = .ok (.lload 8, 2) := by decide +kernel
theorem d_Mdl_between_17 : decode b_Mdl_between 17 = .ok (.lload 6, 2) := by decide +kernel
theorem d_Mdl_between_19 : decode b_Mdl_between 19 = .ok (.lrem, 1) := by decide +kernel
theorem d_Mdl_between_20 : decode b_Mdl_between 20 = .ok (.lconst 0, 1) := by decide +kernel
theorem d_Mdl_between_21 : decode b_Mdl_between 21 = .ok (.lcmp, 1) := by decide +kernel
theorem d_Mdl_between_22 : decode b_Mdl_between 22 = .ok (.ifCond .ge 7, 3) := by decide +kernel
theorem d_Mdl_between_25 : decode b_Mdl_between 25 = .ok (.iconst 1, 1) := by decide +kernel
theorem d_Mdl_between_26 : decode b_Mdl_between 26 = .ok (.goto 4, 3) := by decide +kernel
theorem d_Mdl_between_29 : decode b_Mdl_between 29 = .ok (.iconst 0, 1) := by decide +kernel
theorem d_Mdl_between_30 : decode b_Mdl_between 30 = .ok (.i2l, 1) := by decide +kernel
theorem d_Mdl_between_31 : decode b_Mdl_between 31 = .ok (.lsub, 1) := by decide +kernel
theorem d_Mdl_between_32 : decode b_Mdl_between 32 = .ok (.lreturn, 1) := by decide +kernel
theorem d_Mdl_lastY_0 : decode b_Mdl_lastY 0 = .ok (.aload_n 0, 1) := by decide +kernel
theorem d_Mdl_lastY_1 : decode b_Mdl_lastY 1 = .ok (.iconst 0, 1) := by decide +kernel
theorem d_Mdl_lastY_2 : decode b_Mdl_lastY 2 = .ok (.putfield 102, 3) := by decide +kernel
theorem d_Mdl_lastY_5 : decode b_Mdl_lastY 5 = .ok (.aload_n 0, 1) := by decide +kernel
theorem d_Mdl_lastY_6 : decode b_Mdl_lastY 6 = .ok (.getfield 216, 3) := by decide +kernel
theorem d_Mdl_lastY_9 : decode b_Mdl_lastY 9 = .ok (.dreturn, 1) := by decide +kernel
theorem d_Mdl_count_0 : decode b_Mdl_count 0 = .ok (.aload_n 0, 1) := by decide +kernel
theorem d_Mdl_count_1 : decode b_Mdl_count 1 = .ok (.iconst 0, 1) := by decide +kernel
theorem d_Mdl_count_2 : decode b_Mdl_count 2 = .ok (.putfield 102, 3) := by decide +kernel
theorem d_Mdl_count_5 : decode b_Mdl_count 5 = .ok (.iload_n 1, 1) := by decide +kernel
theorem d_Mdl_count_6 : decode b_Mdl_count 6 = .ok (.tableswitch 85 0 6 #[42, 47, 52, 57, 62, 75, 80], 42) := by decide +kernel
theorem d_Mdl_count_48 : decode b_Mdl_count 48 = .ok (.aload_n 0, 1) := by decide +kernel
theorem d_Mdl_count_49 : decode b_Mdl_count 49 = .ok (.getfield 128, 3) := by decide +kernel
theorem d_Mdl_count_52 : decode b_Mdl_count 52 = .ok (.ireturn, 1) := by decide +kernel
theorem d_Mdl_count_53 : decode b_Mdl_count 53 = .ok (.aload_n 0, 1) := by decide +kernel
theorem d_Mdl_count_54 : decode b_Mdl_count 54 = .ok (.getfield 122, 3) := by decide +kernel
theorem d_Mdl_count_57 : decode b_Mdl_count 57 = .ok (.ireturn, 1) := by decide +kernel
theorem d_Mdl_count_58 : decode b_Mdl_count 58 = .ok (.aload_n 0, 1) := by decide +kernel
theorem d_Mdl_count_59 : decode b_Mdl_count 59 = .ok (.getfield 125, 3) := by decide +kernel
theorem d_Mdl_count_62 : decode b_Mdl_count 62 = .ok (.ireturn, 1) := by decide +kernel
theorem d_Mdl_count_63 : decode b_Mdl_count 63 = .ok (.aload_n 0, 1) := by decide +kernel
theorem d_Mdl_count_64 : decode b_Mdl_count 64 = .ok (.getfield 135, 3) := by decide +kernel
theorem d_Mdl_count_67 : decode b_Mdl_count 67 = .ok (.ireturn, 1) := by decide +kernel
theorem d_Mdl_count_68 : decode b_Mdl_count 68 = .ok (.aload_n 0, 1) := by decide +kernel
theorem d_Mdl_count_69 : decode b_Mdl_count 69 = .ok (.getfield 156, 3) := by decide +kernel
theorem d_Mdl_count_72 : decode b_Mdl_count 72 = .ok (.ifCond .eq 7, 3) := by decide +kernel
theorem d_Mdl_count_75 : decode b_Mdl_count 75 = .ok (.iconst 1, 1) := by decide +kernel
theorem d_Mdl_count_76 : decode b_Mdl_count 76 = .ok (.goto 4, 3) := by decide +kernel
theorem d_Mdl_count_79 : decode b_Mdl_count 79 = .ok (.iconst 0, 1) := by decide +kernel
theorem d_Mdl_count_80 : decode b_Mdl_count 80 = .ok (.ireturn, 1) := by decide +kernel
theorem d_Mdl_count_81 : decode b_Mdl_count 81 = .ok (.aload_n 0, 1) := by decide +kernel
theorem d_Mdl_count_82 : decode b_Mdl_count 82 = .ok (.getfield 172, 3) := by decide +kernel
theorem d_Mdl_count_85 : decode b_Mdl_count 85 = .ok (.ireturn, 1) := by decide +kernel
theorem d_Mdl_count_86 : decode b_Mdl_count 86 = .ok (.aload_n 0, 1) := by decide +kernel
theorem d_Mdl_count_87 : decode b_Mdl_count 87 = .ok (.getfield 175, 3) := by decide +kernel
theorem d_Mdl_count_90 : decode b_Mdl_count 90 = .ok (.ireturn, 1) := by decide +kernel
theorem d_Mdl_count_91 : decode b_Mdl_count 91 = .ok (.aload_n 0, 1) := by decide +kernel
theorem d_Mdl_count_92 : decode b_Mdl_count 92 = .ok (.iconst 1, 1) := by decide +kernel
theorem d_Mdl_count_93 : decode b_Mdl_count 93 = .ok (.invokevirtual 110, 3) := by decide +kernel
theorem d_Mdl_count_96 : decode b_Mdl_count 96 = .ok (.ireturn, 1) := by decide +kernel
end
section
/-! Walks and contracts over a table S and a state σ: the block's map is enc b ca S σ. -/
abbrev tyL (ca : Nat → ClassId) : List (ClassId × FieldType) := [(ca 0, .int), (ca 1, .object "RobotBus$Node"), (ca 2, .object "RobotBus$Topic"), (ca 3, .object "RobotBus$Service"), (ca 4, .object "RobotBus$Frame"), (ca 5, .object "RobotBus$Queue"), (ca 6, .object "RobotBus$Action"), (ca 7, .boolean), (ca 8, .long), (ca 9, .double)]
abbrev Zs (l : Launch) (D : va_G) (ca : Nat → ClassId) (S : List Cee) (b n : Nat) (R : Room) (nL : Nat) (X : Zx) (σ : Sg) (pc : Nat) (L : List (Nat × Value)) (st : List Value) : Prop := Z l D clsB b n R nL X 0 0 (enc b ca S σ) pc L st
abbrev Cs (D : va_G) (ca : Nat → ClassId) (cc : ByteArray) (nL : Nat) (own : String) (cx : Cond) (X : Zx) : Prop := Cx D clsB (tyL ca) cc nL own (cx :: gtb) X
/-- a room of f frames and w words, in which nothing is made -/
abbrev rmN (f w : Nat) : Room := { frames := f, cells := 0, slots := 0, locals := w }
def us (σ : Sg) (f i t : Nat) (x : Int32) : Sg := upA σ (f, i, t) (fun _ => x)
theorem us_self {σ : Sg} {f i t j : Nat} {x : Int32} : (us σ f i t x).1 f i t j = x := by simp [us, upA]
theorem us_ne {σ : Sg} {f i t f' i' t' : Nat} {x : Int32} (h : ¬ (f', i', t') = (f, i, t)) : (us σ f i t x).1 f' i' t' = σ.1 f' i' t' := upA_ne h
abbrev CtI (l : Launch) (D : va_G) (ca : Nat → ClassId) (S : List Cee) (b n : Nat) (y : MethodName) (ws : List Cond) (rm : Room) (σ : Sg) (av : List Value) (post : Int32 → Sg → Prop) : Prop :=
  ∀ sz, Met l y ws rm (mPc D clsB (tyL ca) b n sz (enc b ca S σ) av) (va_Qi (fun r M' => ∃ σ', M' = enc b ca S σ' ∧ post r σ') (mB D clsB (tyL ca) b n) (mA b n sz)) 0 0 (mA b n sz)
abbrev CtD (l : Launch) (D : va_G) (ca : Nat → ClassId) (S : List Cee) (b n : Nat) (y : MethodName) (ws : List Cond) (rm : Room) (σ : Sg) (av : List Value) (post : UInt64 → Sg → Prop) : Prop :=
  ∀ sz, Met l y ws rm (mPc D clsB (tyL ca) b n sz (enc b ca S σ) av) (va_Qd (fun r M' => ∃ σ', M' = enc b ca S σ' ∧ post r σ') (mB D clsB (tyL ca) b n) (mA b n sz)) 0 0 (mA b n sz)
abbrev CtV (l : Launch) (D : va_G) (ca : Nat → ClassId) (S : List Cee) (b n : Nat) (y : MethodName) (ws : List Cond) (rm : Room) (σ : Sg) (av : List Value) (post : Sg → Prop) : Prop :=
  ∀ sz, Met l y ws rm (mPc D clsB (tyL ca) b n sz (enc b ca S σ) av) (va_Qv (fun M' => ∃ σ', M' = enc b ca S σ' ∧ post σ') (mB D clsB (tyL ca) b n) (mA b n sz)) 0 0 (mA b n sz)
section SIG
variable {l : Launch} {D : va_G} {ca : Nat → ClassId} {S : List Cee} {b n : Nat} {y : MethodName} {rm : Room} {cc : ByteArray} {maxL : Nat} {σ : Sg} {av : List Value} {own : String} {L : List (Nat × Value)}
theorem ct_i {post : Int32 → Sg → Prop} (own : String) (L : List (Nat × Value)) (hy : plainName y.cls = true) (hown : y.cls = own) (hlen : (lg_sl av).length ≤ maxL) (hL : lv_args 0 av = L)
    (body : ∀ X : Zx, Cs D ca cc maxL own (Cond.code y cc maxL (some .int)) X → (∀ (v : Int32) (σ' : Sg) (pc : Nat) (L' : List (Nat × Value)), decode cc pc = .ok (.ireturn, 1) → post v σ' → Zs l D ca S b n rm maxL X σ' pc L' [.int v]) → Zs l D ca S b n rm maxL X σ 0 L []) :
    CtI l D ca S b n y (Cond.code y cc maxL (some .int) :: gtb) rm σ av post := fun sz =>
  bm_i hy rfl hown hlen hL (fun X C hret => body X C (fun v σ' pc L' hd hp => hret v _ pc L' hd ⟨σ', rfl, hp⟩))
theorem ct_z {post : Int32 → Sg → Prop} (own : String) (L : List (Nat × Value)) (hy : plainName y.cls = true) (hown : y.cls = own) (hlen : (lg_sl av).length ≤ maxL) (hL : lv_args 0 av = L)
    (body : ∀ X : Zx, Cs D ca cc maxL own (Cond.code y cc maxL (some .boolean)) X → (∀ (v : Int32) (σ' : Sg) (pc : Nat) (L' : List (Nat × Value)), decode cc pc = .ok (.ireturn, 1) → (v = 0 ∨ v = 1) → post v σ' → Zs l D ca S b n rm maxL X σ' pc L' [.int v]) → Zs l D ca S b n rm maxL X σ 0 L []) :
    CtI l D ca S b n y (Cond.code y cc maxL (some .boolean) :: gtb) rm σ av post := fun sz =>
  bm_z hy rfl hown hlen hL (fun X C hret => body X C (fun v σ' pc L' hd h01 hp => hret v _ pc L' hd h01 ⟨σ', rfl, hp⟩))
theorem ct_v {post : Sg → Prop} (own : String) (L : List (Nat × Value)) (hy : plainName y.cls = true) (hown : y.cls = own) (hlen : (lg_sl av).length ≤ maxL) (hL : lv_args 0 av = L)
    (body : ∀ X : Zx, Cs D ca cc maxL own (Cond.code y cc maxL none) X → (∀ (σ' : Sg) (pc : Nat) (L' : List (Nat × Value)), decode cc pc = .ok (.return_, 1) → post σ' → Zs l D ca S b n rm maxL X σ' pc L' []) → Zs l D ca S b n rm maxL X σ 0 L []) :
    CtV l D ca S b n y (Cond.code y cc maxL none :: gtb) rm σ av post := fun sz =>
  bm_v hy rfl hown hlen hL (fun X C hret => body X C (fun σ' pc L' hd hp => hret _ pc L' hd ⟨σ', rfl, hp⟩))
theorem ct_d {post : UInt64 → Sg → Prop} (own : String) (L : List (Nat × Value)) (hy : plainName y.cls = true) (hown : y.cls = own) (hlen : (lg_sl av).length ≤ maxL) (hL : lv_args 0 av = L)
    (body : ∀ X : Zx, Cs D ca cc maxL own (Cond.code y cc maxL (some .double)) X → (∀ (v : UInt64) (σ' : Sg) (pc : Nat) (L' : List (Nat × Value)), decode cc pc = .ok (.dreturn, 1) → post v σ' → Zs l D ca S b n rm maxL X σ' pc L' [.double v]) → Zs l D ca S b n rm maxL X σ 0 L []) :
    CtD l D ca S b n y (Cond.code y cc maxL (some .double) :: gtb) rm σ av post := fun sz =>
  bm_d hy rfl hown hlen hL (fun X C hret => body X C (fun v σ' pc L' hd hp => hret v _ pc L' hd ⟨σ', rfl, hp⟩))
end SIG
section SIGC
variable {l : Launch} {D : va_G} {ca : Nat → ClassId} {S : List Cee} {b n : Nat} {R : Room} {nL : Nat} {X : Zx} {σ : Sg} {pc : Nat} {L : List (Nat × Value)} {st : List Value} {cc : ByteArray} {own : String} {y0 : MethodName} {c0 : ByteArray} {n0 : Nat} {r0 : Option FieldType}
variable {y : MethodName} {bytes : ByteArray} {maxL index a o ci N : Nat} {ret : Option FieldType} {rm : Room} {As fs : List Value} {C0 : String} {T : u_T}
theorem zc_Vi {post : Int32 → Sg → Prop} (C : Cs D ca cc nL own (Cond.code y0 c0 n0 r0) X) (hd : decode cc pc = .ok (.invokevirtual index, 3)) (hM : CtI l D ca S b n y (Cond.code y bytes maxL ret :: gtb) rm σ (.ref a :: As) post)
    (h1 : Cond.methodLink own index y ∈ gtb) (h2 : Cond.instanceMethod y ∈ gtb) (h3 : Cond.selects C0 y y ∈ gtb) (h4 : Cond.initialized C0 ∈ gtb) (h5 : Cond.code y bytes maxL ret ∈ gtb)
    (hds : y.cls = C0 ∧ y.cls ≠ "java/lang/invoke/MethodHandle" ∧ y.cls ≠ "java/lang/invoke/VarHandle" ∧ (parseMethodDescriptor y.desc).map (fun d => d.parameters.length) = some As.length)
    (hR : (rm.frames + 1 ≤ R.frames ∧ 8 + (maxL + 11) + rm.locals ≤ R.locals) ∧ rm.cells = 0 ∧ rm.slots = 0 ∧ 0 ≤ R.cells ∧ 0 ≤ R.slots) (ho : o < n) (ha : b + o = a) (hMo : enc b ca S σ o = .inr (ci, fs)) (hc : clsB[ci]? = some (C0, T, N)) (hst : (st.map fun v => v.category).sum ≤ 8) {st0 : List Value} (hs0 : st0 = As.reverse ++ .ref a :: st)
    (kk : ∀ (r : Int32) (σ' : Sg), post r σ' → Zs l D ca S b n R nL X σ' (pc + 3) L (.int r :: st)) : Zs l D ca S b n R nL X σ pc L st0 :=
  z_callVi C hd hM (gd_V h1 h2 h3 h4 h5) rfl hds hR ho ha hMo hc hst (fun r M' h => by
    obtain ⟨σ', rfl, hp⟩ := h
    exact kk r σ' hp) hs0
theorem zc_Vv {post : Sg → Prop} (C : Cs D ca cc nL own (Cond.code y0 c0 n0 r0) X) (hd : decode cc pc = .ok (.invokevirtual index, 3)) (hM : CtV l D ca S b n y (Cond.code y bytes maxL ret :: gtb) rm σ (.ref a :: As) post)
    (h1 : Cond.methodLink own index y ∈ gtb) (h2 : Cond.instanceMethod y ∈ gtb) (h3 : Cond.selects C0 y y ∈ gtb) (h4 : Cond.initialized C0 ∈ gtb) (h5 : Cond.code y bytes maxL ret ∈ gtb)
    (hds : y.cls = C0 ∧ y.cls ≠ "java/lang/invoke/MethodHandle" ∧ y.cls ≠ "java/lang/invoke/VarHandle" ∧ (parseMethodDescriptor y.desc).map (fun d => d.parameters.length) = some As.length)
    (hR : (rm.frames + 1 ≤ R.frames ∧ 8 + (maxL + 11) + rm.locals ≤ R.locals) ∧ rm.cells = 0 ∧ rm.slots = 0 ∧ 0 ≤ R.cells ∧ 0 ≤ R.slots) (ho : o < n) (ha : b + o = a) (hMo : enc b ca S σ o = .inr (ci, fs)) (hc : clsB[ci]? = some (C0, T, N)) (hst : (st.map fun v => v.category).sum ≤ 8) {st0 : List Value} (hs0 : st0 = As.reverse ++ .ref a :: st)
    (kk : ∀ (σ' : Sg), post σ' → Zs l D ca S b n R nL X σ' (pc + 3) L st) : Zs l D ca S b n R nL X σ pc L st0 :=
  z_callVv C hd hM (gd_V h1 h2 h3 h4 h5) rfl hds hR ho ha hMo hc hst (fun M' h => by
    obtain ⟨σ', rfl, hp⟩ := h
    exact kk σ' hp) hs0
theorem zc_Si {post : Int32 → Sg → Prop} (C : Cs D ca cc nL own (Cond.code y0 c0 n0 r0) X) (hd : decode cc pc = .ok (.invokestatic index, 3)) (hM : CtI l D ca S b n y (Cond.code y bytes maxL ret :: gtb) rm σ As post)
    (h1 : Cond.methodLink own index y ∈ gtb) (h2 : Cond.static y ∈ gtb) (h4 : Cond.initialized own ∈ gtb) (h5 : Cond.code y bytes maxL ret ∈ gtb)
    (hds : y.cls = own ∧ y.cls ≠ "java/lang/invoke/MethodHandle" ∧ y.cls ≠ "java/lang/invoke/VarHandle" ∧ (parseMethodDescriptor y.desc).map (fun d => d.parameters.length) = some As.length)
    (hR : (rm.frames + 1 ≤ R.frames ∧ 8 + (maxL + 11) + rm.locals ≤ R.locals) ∧ rm.cells = 0 ∧ rm.slots = 0 ∧ 0 ≤ R.cells ∧ 0 ≤ R.slots) (hst : (st.map fun v => v.category).sum ≤ 8) {st0 : List Value} (hs0 : st0 = As.reverse ++ st)
    (kk : ∀ (r : Int32) (σ' : Sg), post r σ' → Zs l D ca S b n R nL X σ' (pc + 3) L (.int r :: st)) : Zs l D ca S b n R nL X σ pc L st0 :=
  z_callSi C hd hM (gd_S h1 h2 h4 h5) rfl hds hR hst (fun r M' h => by
    obtain ⟨σ', rfl, hp⟩ := h
    exact kk r σ' hp) hs0
end SIGC
end
section
/-! The bus: its block has 182 cells. -/
def SB : List Cee := [
  .inl (0, [.inl 1, .inl 2, .inl 3, .inl 4, .inl 5, .inl 9, .inr (0, 1, 0, 0), .inr (0, 2, 0, 0), .inr (0, 3, 0, 0), .inr (0, 4, 0, 0), .inr (0, 5, 0, 0), .inr (0, 6, 0, 0), .inr (1, 7, 0, 0)]),
  .inr (.inr (1, 6, [10, 32, 54, 76, 98, 120])),
  .inr (.inr (2, 6, [142, 143, 144, 145, 146, 147])),
  .inr (.inr (3, 4, [148, 149, 150, 151])),
  .inr (.inr (4, 6, [152, 157, 162, 167, 172, 177])),
  .inl (7, [.inl 6, .inl 7, .inl 8, .inr (0, 10, 0, 0), .inr (0, 11, 0, 0), .inr (0, 12, 0, 0), .inr (0, 13, 0, 0), .inr (0, 14, 0, 0)]),
  .inr (.inl (0, 30, 0, 15, 0, 0)),
  .inr (.inl (0, 30, 0, 16, 0, 0)),
  .inr (.inl (0, 30, 0, 17, 0, 0)),
  .inl (8, [.inr (0, 20, 0, 0), .inr (0, 21, 0, 0)]),
  .inl (1, [.inl 11, .inl 12, .inl 13, .inr (0, 30, 0, 0), .inr (0, 31, 0, 0)]),
  .inr (.inl (0, 4, 0, 32, 0, 0)),
  .inr (.inr (5, 6, [14, 17, 20, 23, 26, 29])),
  .inr (.inr (6, 6, [16, 19, 22, 25, 28, 31])),
  .inl (2, [.inl 15, .inr (0, 33, 0, 0), .inr (0, 34, 0, 0)]),
  .inr (.inl (0, 12, 0, 35, 0, 0)),
  .inl (3, [.inr (0, 36, 0, 0), .inr (0, 37, 0, 0), .inr (0, 38, 0, 0)]),
  .inl (2, [.inl 18, .inr (0, 33, 0, 1), .inr (0, 34, 0, 1)]),
  .inr (.inl (0, 12, 0, 35, 0, 1)),
  .inl (3, [.inr (0, 36, 0, 1), .inr (0, 37, 0, 1), .inr (0, 38, 0, 1)]),
  .inl (2, [.inl 21, .inr (0, 33, 0, 2), .inr (0, 34, 0, 2)]),
  .inr (.inl (0, 12, 0, 35, 0, 2)),
  .inl (3, [.inr (0, 36, 0, 2), .inr (0, 37, 0, 2), .inr (0, 38, 0, 2)]),
  .inl (2, [.inl 24, .inr (0, 33, 0, 3), .inr (0, 34, 0, 3)]),
  .inr (.inl (0, 12, 0, 35, 0, 3)),
  .inl (3, [.inr (0, 36, 0, 3), .inr (0, 37, 0, 3), .inr (0, 38, 0, 3)]),
  .inl (2, [.inl 27, .inr (0, 33, 0, 4), .inr (0, 34, 0, 4)]),
  .inr (.inl (0, 12, 0, 35, 0, 4)),
  .inl (3, [.inr (0, 36, 0, 4), .inr (0, 37, 0, 4), .inr (0, 38, 0, 4)]),
  .inl (2, [.inl 30, .inr (0, 33, 0, 5), .inr (0, 34, 0, 5)]),
  .inr (.inl (0, 12, 0, 35, 0, 5)),
  .inl (3, [.inr (0, 36, 0, 5), .inr (0, 37, 0, 5), .inr (0, 38, 0, 5)]),
  .inl (1, [.inl 33, .inl 34, .inl 35, .inr (0, 30, 1, 0), .inr (0, 31, 1, 0)]),
  .inr (.inl (0, 4, 0, 32, 1, 0)),
  .inr (.inr (5, 6, [36, 39, 42, 45, 48, 51])),
  .inr (.inr (6, 6, [38, 41, 44, 47, 50, 53])),
  .inl (2, [.inl 37, .inr (0, 33, 1, 0), .inr (0, 34, 1, 0)]),
  .inr (.inl (0, 12, 0, 35, 1, 0)),
  .inl (3, [.inr (0, 36, 1, 0), .inr (0, 37, 1, 0), .inr (0, 38, 1, 0)]),
  .inl (2, [.inl 40, .inr (0, 33, 1, 1), .inr (0, 34, 1, 1)]),
  .inr (.inl (0, 12, 0, 35, 1, 1)),
  .inl (3, [.inr (0, 36, 1, 1), .inr (0, 37, 1, 1), .inr (0, 38, 1, 1)]),
  .inl (2, [.inl 43, .inr (0, 33, 1, 2), .inr (0, 34, 1, 2)]),
  .inr (.inl (0, 12, 0, 35, 1, 2)),
  .inl (3, [.inr (0, 36, 1, 2), .inr (0, 37, 1, 2), .inr (0, 38, 1, 2)]),
  .inl (2, [.inl 46, .inr (0, 33, 1, 3), .inr (0, 34, 1, 3)]),
  .inr (.inl (0, 12, 0, 35, 1, 3)),
  .inl (3, [.inr (0, 36, 1, 3), .inr (0, 37, 1, 3), .inr (0, 38, 1, 3)]),
  .inl (2, [.inl 49, .inr (0, 33, 1, 4), .inr (0, 34, 1, 4)]),
  .inr (.inl (0, 12, 0, 35, 1, 4)),
  .inl (3, [.inr (0, 36, 1, 4), .inr (0, 37, 1, 4), .inr (0, 38, 1, 4)]),
  .inl (2, [.inl 52, .inr (0, 33, 1, 5), .inr (0, 34, 1, 5)]),
  .inr (.inl (0, 12, 0, 35, 1, 5)),
  .inl (3, [.inr (0, 36, 1, 5), .inr (0, 37, 1, 5), .inr (0, 38, 1, 5)]),
  .inl (1, [.inl 55, .inl 56, .inl 57, .inr (0, 30, 2, 0), .inr (0, 31, 2, 0)]),
  .inr (.inl (0, 4, 0, 32, 2, 0)),
  .inr (.inr (5, 6, [58, 61, 64, 67, 70, 73])),
  .inr (.inr (6, 6, [60, 63, 66, 69, 72, 75])),
  .inl (2, [.inl 59, .inr (0, 33, 2, 0), .inr (0, 34, 2, 0)]),
  .inr (.inl (0, 12, 0, 35, 2, 0)),
  .inl (3, [.inr (0, 36, 2, 0), .inr (0, 37, 2, 0), .inr (0, 38, 2, 0)]),
  .inl (2, [.inl 62, .inr (0, 33, 2, 1), .inr (0, 34, 2, 1)]),
  .inr (.inl (0, 12, 0, 35, 2, 1)),
  .inl (3, [.inr (0, 36, 2, 1), .inr (0, 37, 2, 1), .inr (0, 38, 2, 1)]),
  .inl (2, [.inl 65, .inr (0, 33, 2, 2), .inr (0, 34, 2, 2)]),
  .inr (.inl (0, 12, 0, 35, 2, 2)),
  .inl (3, [.inr (0, 36, 2, 2), .inr (0, 37, 2, 2), .inr (0, 38, 2, 2)]),
  .inl (2, [.inl 68, .inr (0, 33, 2, 3), .inr (0, 34, 2, 3)]),
  .inr (.inl (0, 12, 0, 35, 2, 3)),
  .inl (3, [.inr (0, 36, 2, 3), .inr (0, 37, 2, 3), .inr (0, 38, 2, 3)]),
  .inl (2, [.inl 71, .inr (0, 33, 2, 4), .inr (0, 34, 2, 4)]),
  .inr (.inl (0, 12, 0, 35, 2, 4)),
  .inl (3, [.inr (0, 36, 2, 4), .inr (0, 37, 2, 4), .inr (0, 38, 2, 4)]),
  .inl (2, [.inl 74, .inr (0, 33, 2, 5), .inr (0, 34, 2, 5)]),
  .inr (.inl (0, 12, 0, 35, 2, 5)),
  .inl (3, [.inr (0, 36, 2, 5), .inr (0, 37, 2, 5), .inr (0, 38, 2, 5)]),
  .inl (1, [.inl 77, .inl 78, .inl 79, .inr (0, 30, 3, 0), .inr (0, 31, 3, 0)]),
  .inr (.inl (0, 4, 0, 32, 3, 0)),
  .inr (.inr (5, 6, [80, 83, 86, 89, 92, 95])),
  .inr (.inr (6, 6, [82, 85, 88, 91, 94, 97])),
  .inl (2, [.inl 81, .inr (0, 33, 3, 0), .inr (0, 34, 3, 0)]),
  .inr (.inl (0, 12, 0, 35, 3, 0)),
  .inl (3, [.inr (0, 36, 3, 0), .inr (0, 37, 3, 0), .inr (0, 38, 3, 0)]),
  .inl (2, [.inl 84, .inr (0, 33, 3, 1), .inr (0, 34, 3, 1)]),
  .inr (.inl (0, 12, 0, 35, 3, 1)),
  .inl (3, [.inr (0, 36, 3, 1), .inr (0, 37, 3, 1), .inr (0, 38, 3, 1)]),
  .inl (2, [.inl 87, .inr (0, 33, 3, 2), .inr (0, 34, 3, 2)]),
  .inr (.inl (0, 12, 0, 35, 3, 2)),
  .inl (3, [.inr (0, 36, 3, 2), .inr (0, 37, 3, 2), .inr (0, 38, 3, 2)]),
  .inl (2, [.inl 90, .inr (0, 33, 3, 3), .inr (0, 34, 3, 3)]),
  .inr (.inl (0, 12, 0, 35, 3, 3)),
  .inl (3, [.inr (0, 36, 3, 3), .inr (0, 37, 3, 3), .inr (0, 38, 3, 3)]),
  .inl (2, [.inl 93, .inr (0, 33, 3, 4), .inr (0, 34, 3, 4)]),
  .inr (.inl (0, 12, 0, 35, 3, 4)),
  .inl (3, [.inr (0, 36, 3, 4), .inr (0, 37, 3, 4), .inr (0, 38, 3, 4)]),
  .inl (2, [.inl 96, .inr (0, 33, 3, 5), .inr (0, 34, 3, 5)]),
  .inr (.inl (0, 12, 0, 35, 3, 5)),
  .inl (3, [.inr (0, 36, 3, 5), .inr (0, 37, 3, 5), .inr (0, 38, 3, 5)]),
  .inl (1, [.inl 99, .inl 100, .inl 101, .inr (0, 30, 4, 0), .inr (0, 31, 4, 0)]),
  .inr (.inl (0, 4, 0, 32, 4, 0)),
  .inr (.inr (5, 6, [102, 105, 108, 111, 114, 117])),
  .inr (.inr (6, 6, [104, 107, 110, 113, 116, 119])),
  .inl (2, [.inl 103, .inr (0, 33, 4, 0), .inr (0, 34, 4, 0)]),
  .inr (.inl (0, 12, 0, 35, 4, 0)),
  .inl (3, [.inr (0, 36, 4, 0), .inr (0, 37, 4, 0), .inr (0, 38, 4, 0)]),
  .inl (2, [.inl 106, .inr (0, 33, 4, 1), .inr (0, 34, 4, 1)]),
  .inr (.inl (0, 12, 0, 35, 4, 1)),
  .inl (3, [.inr (0, 36, 4, 1), .inr (0, 37, 4, 1), .inr (0, 38, 4, 1)]),
  .inl (2, [.inl 109, .inr (0, 33, 4, 2), .inr (0, 34, 4, 2)]),
  .inr (.inl (0, 12, 0, 35, 4, 2)),
  .inl (3, [.inr (0, 36, 4, 2), .inr (0, 37, 4, 2), .inr (0, 38, 4, 2)]),
  .inl (2, [.inl 112, .inr (0, 33, 4, 3), .inr (0, 34, 4, 3)]),
  .inr (.inl (0, 12, 0, 35, 4, 3)),
  .inl (3, [.inr (0, 36, 4, 3), .inr (0, 37, 4, 3), .inr (0, 38, 4, 3)]),
  .inl (2, [.inl 115, .inr (0, 33, 4, 4), .inr (0, 34, 4, 4)]),
  .inr (.inl (0, 12, 0, 35, 4, 4)),
  .inl (3, [.inr (0, 36, 4, 4), .inr (0, 37, 4, 4), .inr (0, 38, 4, 4)]),
  .inl (2, [.inl 118, .inr (0, 33, 4, 5), .inr (0, 34, 4, 5)]),
  .inr (.inl (0, 12, 0, 35, 4, 5)),
  .inl (3, [.inr (0, 36, 4, 5), .inr (0, 37, 4, 5), .inr (0, 38, 4, 5)]),
  .inl (1, [.inl 121, .inl 122, .inl 123, .inr (0, 30, 5, 0), .inr (0, 31, 5, 0)]),
  .inr (.inl (0, 4, 0, 32, 5, 0)),
  .inr (.inr (5, 6, [124, 127, 130, 133, 136, 139])),
  .inr (.inr (6, 6, [126, 129, 132, 135, 138, 141])),
  .inl (2, [.inl 125, .inr (0, 33, 5, 0), .inr (0, 34, 5, 0)]),
  .inr (.inl (0, 12, 0, 35, 5, 0)),
  .inl (3, [.inr (0, 36, 5, 0), .inr (0, 37, 5, 0), .inr (0, 38, 5, 0)]),
  .inl (2, [.inl 128, .inr (0, 33, 5, 1), .inr (0, 34, 5, 1)]),
  .inr (.inl (0, 12, 0, 35, 5, 1)),
  .inl (3, [.inr (0, 36, 5, 1), .inr (0, 37, 5, 1), .inr (0, 38, 5, 1)]),
  .inl (2, [.inl 131, .inr (0, 33, 5, 2), .inr (0, 34, 5, 2)]),
  .inr (.inl (0, 12, 0, 35, 5, 2)),
  .inl (3, [.inr (0, 36, 5, 2), .inr (0, 37, 5, 2), .inr (0, 38, 5, 2)]),
  .inl (2, [.inl 134, .inr (0, 33, 5, 3), .inr (0, 34, 5, 3)]),
  .inr (.inl (0, 12, 0, 35, 5, 3)),
  .inl (3, [.inr (0, 36, 5, 3), .inr (0, 37, 5, 3), .inr (0, 38, 5, 3)]),
  .inl (2, [.inl 137, .inr (0, 33, 5, 4), .inr (0, 34, 5, 4)]),
  .inr (.inl (0, 12, 0, 35, 5, 4)),
  .inl (3, [.inr (0, 36, 5, 4), .inr (0, 37, 5, 4), .inr (0, 38, 5, 4)]),
  .inl (2, [.inl 140, .inr (0, 33, 5, 5), .inr (0, 34, 5, 5)]),
  .inr (.inl (0, 12, 0, 35, 5, 5)),
  .inl (3, [.inr (0, 36, 5, 5), .inr (0, 37, 5, 5), .inr (0, 38, 5, 5)]),
  .inl (4, [.inr (0, 40, 0, 0), .inr (0, 41, 0, 0), .inr (0, 42, 0, 0), .inr (0, 43, 0, 0), .inr (0, 44, 0, 0), .inr (0, 45, 0, 0)]),
  .inl (4, [.inr (0, 40, 1, 0), .inr (0, 41, 1, 0), .inr (0, 42, 1, 0), .inr (0, 43, 1, 0), .inr (0, 44, 1, 0), .inr (0, 45, 1, 0)]),
  .inl (4, [.inr (0, 40, 2, 0), .inr (0, 41, 2, 0), .inr (0, 42, 2, 0), .inr (0, 43, 2, 0), .inr (0, 44, 2, 0), .inr (0, 45, 2, 0)]),
  .inl (4, [.inr (0, 40, 3, 0), .inr (0, 41, 3, 0), .inr (0, 42, 3, 0), .inr (0, 43, 3, 0), .inr (0, 44, 3, 0), .inr (0, 45, 3, 0)]),
  .inl (4, [.inr (0, 40, 4, 0), .inr (0, 41, 4, 0), .inr (0, 42, 4, 0), .inr (0, 43, 4, 0), .inr (0, 44, 4, 0), .inr (0, 45, 4, 0)]),
  .inl (4, [.inr (0, 40, 5, 0), .inr (0, 41, 5, 0), .inr (0, 42, 5, 0), .inr (0, 43, 5, 0), .inr (0, 44, 5, 0), .inr (0, 45, 5, 0)]),
  .inl (5, [.inr (0, 50, 0, 0), .inr (0, 51, 0, 0), .inr (0, 52, 0, 0), .inr (0, 53, 0, 0)]),
  .inl (5, [.inr (0, 50, 1, 0), .inr (0, 51, 1, 0), .inr (0, 52, 1, 0), .inr (0, 53, 1, 0)]),
  .inl (5, [.inr (0, 50, 2, 0), .inr (0, 51, 2, 0), .inr (0, 52, 2, 0), .inr (0, 53, 2, 0)]),
  .inl (5, [.inr (0, 50, 3, 0), .inr (0, 51, 3, 0), .inr (0, 52, 3, 0), .inr (0, 53, 3, 0)]),
  .inl (6, [.inl 153, .inl 154, .inl 155, .inl 156, .inr (0, 60, 0, 0), .inr (0, 61, 0, 0)]),
  .inr (.inl (0, 4, 0, 62, 0, 0)),
  .inr (.inl (0, 4, 0, 63, 0, 0)),
  .inr (.inl (0, 4, 0, 64, 0, 0)),
  .inr (.inl (0, 4, 0, 65, 0, 0)),
  .inl (6, [.inl 158, .inl 159, .inl 160, .inl 161, .inr (0, 60, 1, 0), .inr (0, 61, 1, 0)]),
  .inr (.inl (0, 4, 0, 62, 1, 0)),
  .inr (.inl (0, 4, 0, 63, 1, 0)),
  .inr (.inl (0, 4, 0, 64, 1, 0)),
  .inr (.inl (0, 4, 0, 65, 1, 0)),
  .inl (6, [.inl 163, .inl 164, .inl 165, .inl 166, .inr (0, 60, 2, 0), .inr (0, 61, 2, 0)]),
  .inr (.inl (0, 4, 0, 62, 2, 0)),
  .inr (.inl (0, 4, 0, 63, 2, 0)),
  .inr (.inl (0, 4, 0, 64, 2, 0)),
  .inr (.inl (0, 4, 0, 65, 2, 0)),
  .inl (6, [.inl 168, .inl 169, .inl 170, .inl 171, .inr (0, 60, 3, 0), .inr (0, 61, 3, 0)]),
  .inr (.inl (0, 4, 0, 62, 3, 0)),
  .inr (.inl (0, 4, 0, 63, 3, 0)),
  .inr (.inl (0, 4, 0, 64, 3, 0)),
  .inr (.inl (0, 4, 0, 65, 3, 0)),
  .inl (6, [.inl 173, .inl 174, .inl 175, .inl 176, .inr (0, 60, 4, 0), .inr (0, 61, 4, 0)]),
  .inr (.inl (0, 4, 0, 62, 4, 0)),
  .inr (.inl (0, 4, 0, 63, 4, 0)),
  .inr (.inl (0, 4, 0, 64, 4, 0)),
  .inr (.inl (0, 4, 0, 65, 4, 0)),
  .inl (6, [.inl 178, .inl 179, .inl 180, .inl 181, .inr (0, 60, 5, 0), .inr (0, 61, 5, 0)]),
  .inr (.inl (0, 4, 0, 62, 5, 0)),
  .inr (.inl (0, 4, 0, 63, 5, 0)),
  .inr (.inl (0, 4, 0, 64, 5, 0)),
  .inr (.inl (0, 4, 0, 65, 5, 0))
]
theorem SB_U : chkU SB = true := by decide +kernel
section BUSROWS
variable {l : Launch} {D : va_G} {ca : Nat → ClassId} {b : Nat} {R : Room} {nL : Nat} {X : Zx} {σ : Sg} {pc : Nat} {L : List (Nat × Value)} {st : List Value} {cc : ByteArray} {own : String} {cx : Cond}
theorem sB_Bus  : ∃ c, SB[0]? = some c ∧ (∀ (b : Nat) (ca : Nat → ClassId) (σ : Sg), rz b ca σ c = .inr (0, [.ref (b + 1), .ref (b + 2), .ref (b + 3), .ref (b + 4), .ref (b + 5), .ref (b + 9), .int (σ.1 1 0 0 0), .int (σ.1 2 0 0 0), .int (σ.1 3 0 0 0), .int (σ.1 4 0 0 0), .int (σ.1 5 0 0 0), .int (σ.1 6 0 0 0), .double (σ.2.1 7 0 0 0)])) ∧ ment (1, 0, 0) c = true ∧ ment (2, 0, 0) c = true ∧ ment (3, 0, 0) c = true ∧ ment (4, 0, 0) c = true ∧ ment (5, 0, 0) c = true ∧ ment (6, 0, 0) c = true ∧ ment (7, 0, 0) c = true := by
  exact ⟨_, rfl, fun _ _ _ => rfl, by decide, by decide, by decide, by decide, by decide, by decide, by decide⟩
theorem eB_Bus  : enc b ca SB σ 0 = .inr (0, [.ref (b + 1), .ref (b + 2), .ref (b + 3), .ref (b + 4), .ref (b + 5), .ref (b + 9), .int (σ.1 1 0 0 0), .int (σ.1 2 0 0 0), .int (σ.1 3 0 0 0), .int (σ.1 4 0 0 0), .int (σ.1 5 0 0 0), .int (σ.1 6 0 0 0), .double (σ.2.1 7 0 0 0)]) := by
  obtain ⟨c, h1, h2, -⟩ := sB_Bus 
  rw [enc_at h1, h2]
theorem gB_Bus_nodes (C : Cs D ca cc nL own cx X) {index : Nat} (hd : decode cc pc = .ok (.getfield index, 3)) (hw : Cond.fieldLink own index "RobotBus" "nodes" "[LRobotBus$Node;" ∈ gtb)  (kk : Zs l D ca SB b 182 R nL X σ (pc + 3) L (.ref (b + 1) :: st)) : Zs l D ca SB b 182 R nL X σ pc L (.ref (b + 0) :: st) :=
  z_get C hd (fun w h => List.mem_cons_of_mem _ (in_Bus w h)) (T := F_Bus) (N := 13) (ci := 0) rfl 0 (by decide) (List.mem_cons_of_mem _ hw) (by omega) rfl (eB_Bus ) rfl kk
theorem gB_Bus_topics (C : Cs D ca cc nL own cx X) {index : Nat} (hd : decode cc pc = .ok (.getfield index, 3)) (hw : Cond.fieldLink own index "RobotBus" "topics" "[LRobotBus$Topic;" ∈ gtb)  (kk : Zs l D ca SB b 182 R nL X σ (pc + 3) L (.ref (b + 2) :: st)) : Zs l D ca SB b 182 R nL X σ pc L (.ref (b + 0) :: st) :=
  z_get C hd (fun w h => List.mem_cons_of_mem _ (in_Bus w h)) (T := F_Bus) (N := 13) (ci := 0) rfl 1 (by decide) (List.mem_cons_of_mem _ hw) (by omega) rfl (eB_Bus ) rfl kk
theorem gB_Bus_services (C : Cs D ca cc nL own cx X) {index : Nat} (hd : decode cc pc = .ok (.getfield index, 3)) (hw : Cond.fieldLink own index "RobotBus" "services" "[LRobotBus$Service;" ∈ gtb)  (kk : Zs l D ca SB b 182 R nL X σ (pc + 3) L (.ref (b + 3) :: st)) : Zs l D ca SB b 182 R nL X σ pc L (.ref (b + 0) :: st) :=
  z_get C hd (fun w h => List.mem_cons_of_mem _ (in_Bus w h)) (T := F_Bus) (N := 13) (ci := 0) rfl 2 (by decide) (List.mem_cons_of_mem _ hw) (by omega) rfl (eB_Bus ) rfl kk
theorem gB_Bus_frames (C : Cs D ca cc nL own cx X) {index : Nat} (hd : decode cc pc = .ok (.getfield index, 3)) (hw : Cond.fieldLink own index "RobotBus" "frames" "[LRobotBus$Frame;" ∈ gtb)  (kk : Zs l D ca SB b 182 R nL X σ (pc + 3) L (.ref (b + 4) :: st)) : Zs l D ca SB b 182 R nL X σ pc L (.ref (b + 0) :: st) :=
  z_get C hd (fun w h => List.mem_cons_of_mem _ (in_Bus w h)) (T := F_Bus) (N := 13) (ci := 0) rfl 3 (by decide) (List.mem_cons_of_mem _ hw) (by omega) rfl (eB_Bus ) rfl kk
theorem gB_Bus_bag (C : Cs D ca cc nL own cx X) {index : Nat} (hd : decode cc pc = .ok (.getfield index, 3)) (hw : Cond.fieldLink own index "RobotBus" "bag" "LRobotBus$Bag;" ∈ gtb)  (kk : Zs l D ca SB b 182 R nL X σ (pc + 3) L (.ref (b + 5) :: st)) : Zs l D ca SB b 182 R nL X σ pc L (.ref (b + 0) :: st) :=
  z_get C hd (fun w h => List.mem_cons_of_mem _ (in_Bus w h)) (T := F_Bus) (N := 13) (ci := 0) rfl 4 (by decide) (List.mem_cons_of_mem _ hw) (by omega) rfl (eB_Bus ) rfl kk
theorem gB_Bus_point (C : Cs D ca cc nL own cx X) {index : Nat} (hd : decode cc pc = .ok (.getfield index, 3)) (hw : Cond.fieldLink own index "RobotBus" "point" "LRobotBus$Point;" ∈ gtb)  (kk : Zs l D ca SB b 182 R nL X σ (pc + 3) L (.ref (b + 9) :: st)) : Zs l D ca SB b 182 R nL X σ pc L (.ref (b + 0) :: st) :=
  z_get C hd (fun w h => List.mem_cons_of_mem _ (in_Bus w h)) (T := F_Bus) (N := 13) (ci := 0) rfl 5 (by decide) (List.mem_cons_of_mem _ hw) (by omega) rfl (eB_Bus ) rfl kk
theorem gB_Bus_clock (C : Cs D ca cc nL own cx X) {index : Nat} (hd : decode cc pc = .ok (.getfield index, 3)) (hw : Cond.fieldLink own index "RobotBus" "clock" "I" ∈ gtb)  (kk : Zs l D ca SB b 182 R nL X σ (pc + 3) L (.int (σ.1 1 0 0 0) :: st)) : Zs l D ca SB b 182 R nL X σ pc L (.ref (b + 0) :: st) :=
  z_get C hd (fun w h => List.mem_cons_of_mem _ (in_Bus w h)) (T := F_Bus) (N := 13) (ci := 0) rfl 6 (by decide) (List.mem_cons_of_mem _ hw) (by omega) rfl (eB_Bus ) rfl kk
theorem uB_Bus_clock  (x : Int32) : va_up (enc b ca SB σ) 0 (.inr (0, [.ref (b + 1), .ref (b + 2), .ref (b + 3), .ref (b + 4), .ref (b + 5), .ref (b + 9), .int x, .int (σ.1 2 0 0 0), .int (σ.1 3 0 0 0), .int (σ.1 4 0 0 0), .int (σ.1 5 0 0 0), .int (σ.1 6 0 0 0), .double (σ.2.1 7 0 0 0)])) = enc b ca SB (us σ 1 0 0 x) := by
  obtain ⟨c, h1, h2, m6, m7, m8, m9, m10, m11, m12⟩ := sB_Bus 
  refine enc_up SB_U h1 m6 offK_A ?_
  rw [h2]
  simp [us, upA, upE]
theorem pB_Bus_clock (C : Cs D ca cc nL own cx X) {index : Nat} {x : Int32} (hd : decode cc pc = .ok (.putfield index, 3)) (hw : Cond.fieldLink own index "RobotBus" "clock" "I" ∈ gtb)  (kk : Zs l D ca SB b 182 R nL X (us σ 1 0 0 x) (pc + 3) L st) : Zs l D ca SB b 182 R nL X σ pc L (.int x :: .ref (b + 0) :: st) :=
  z_put C hd (fun w h => List.mem_cons_of_mem _ (in_Bus w h)) (T := F_Bus) (N := 13) (ci := 0) (ty := .int) tk_Bus n_Bus rfl 6 (by decide) (List.mem_cons_of_mem _ hw) rfl (by decide +kernel) rfl rfl (by omega) rfl (eB_Bus ) (by simp) (z_map (uB_Bus_clock  x) kk)
theorem gB_Bus_messagesLost (C : Cs D ca cc nL own cx X) {index : Nat} (hd : decode cc pc = .ok (.getfield index, 3)) (hw : Cond.fieldLink own index "RobotBus" "messagesLost" "I" ∈ gtb)  (kk : Zs l D ca SB b 182 R nL X σ (pc + 3) L (.int (σ.1 2 0 0 0) :: st)) : Zs l D ca SB b 182 R nL X σ pc L (.ref (b + 0) :: st) :=
  z_get C hd (fun w h => List.mem_cons_of_mem _ (in_Bus w h)) (T := F_Bus) (N := 13) (ci := 0) rfl 7 (by decide) (List.mem_cons_of_mem _ hw) (by omega) rfl (eB_Bus ) rfl kk
theorem uB_Bus_messagesLost  (x : Int32) : va_up (enc b ca SB σ) 0 (.inr (0, [.ref (b + 1), .ref (b + 2), .ref (b + 3), .ref (b + 4), .ref (b + 5), .ref (b + 9), .int (σ.1 1 0 0 0), .int x, .int (σ.1 3 0 0 0), .int (σ.1 4 0 0 0), .int (σ.1 5 0 0 0), .int (σ.1 6 0 0 0), .double (σ.2.1 7 0 0 0)])) = enc b ca SB (us σ 2 0 0 x) := by
  obtain ⟨c, h1, h2, m6, m7, m8, m9, m10, m11, m12⟩ := sB_Bus 
  refine enc_up SB_U h1 m7 offK_A ?_
  rw [h2]
  simp [us, upA, upE]
theorem pB_Bus_messagesLost (C : Cs D ca cc nL own cx X) {index : Nat} {x : Int32} (hd : decode cc pc = .ok (.putfield index, 3)) (hw : Cond.fieldLink own index "RobotBus" "messagesLost" "I" ∈ gtb)  (kk : Zs l D ca SB b 182 R nL X (us σ 2 0 0 x) (pc + 3) L st) : Zs l D ca SB b 182 R nL X σ pc L (.int x :: .ref (b + 0) :: st) :=
  z_put C hd (fun w h => List.mem_cons_of_mem _ (in_Bus w h)) (T := F_Bus) (N := 13) (ci := 0) (ty := .int) tk_Bus n_Bus rfl 7 (by decide) (List.mem_cons_of_mem _ hw) rfl (by decide +kernel) rfl rfl (by omega) rfl (eB_Bus ) (by simp) (z_map (uB_Bus_messagesLost  x) kk)
theorem gB_Bus_messagesPublished (C : Cs D ca cc nL own cx X) {index : Nat} (hd : decode cc pc = .ok (.getfield index, 3)) (hw : Cond.fieldLink own index "RobotBus" "messagesPublished" "I" ∈ gtb)  (kk : Zs l D ca SB b 182 R nL X σ (pc + 3) L (.int (σ.1 3 0 0 0) :: st)) : Zs l D ca SB b 182 R nL X σ pc L (.ref (b + 0) :: st) :=
  z_get C hd (fun w h => List.mem_cons_of_mem _ (in_Bus w h)) (T := F_Bus) (N := 13) (ci := 0) rfl 8 (by decide) (List.mem_cons_of_mem _ hw) (by omega) rfl (eB_Bus ) rfl kk
theorem uB_Bus_messagesPublished  (x : Int32) : va_up (enc b ca SB σ) 0 (.inr (0, [.ref (b + 1), .ref (b + 2), .ref (b + 3), .ref (b + 4), .ref (b + 5), .ref (b + 9), .int (σ.1 1 0 0 0), .int (σ.1 2 0 0 0), .int x, .int (σ.1 4 0 0 0), .int (σ.1 5 0 0 0), .int (σ.1 6 0 0 0), .double (σ.2.1 7 0 0 0)])) = enc b ca SB (us σ 3 0 0 x) := by
  obtain ⟨c, h1, h2, m6, m7, m8, m9, m10, m11, m12⟩ := sB_Bus 
  refine enc_up SB_U h1 m8 offK_A ?_
  rw [h2]
  simp [us, upA, upE]
theorem pB_Bus_messagesPublished (C : Cs D ca cc nL own cx X) {index : Nat} {x : Int32} (hd : decode cc pc = .ok (.putfield index, 3)) (hw : Cond.fieldLink own index "RobotBus" "messagesPublished" "I" ∈ gtb)  (kk : Zs l D ca SB b 182 R nL X (us σ 3 0 0 x) (pc + 3) L st) : Zs l D ca SB b 182 R nL X σ pc L (.int x :: .ref (b + 0) :: st) :=
  z_put C hd (fun w h => List.mem_cons_of_mem _ (in_Bus w h)) (T := F_Bus) (N := 13) (ci := 0) (ty := .int) tk_Bus n_Bus rfl 8 (by decide) (List.mem_cons_of_mem _ hw) rfl (by decide +kernel) rfl rfl (by omega) rfl (eB_Bus ) (by simp) (z_map (uB_Bus_messagesPublished  x) kk)
theorem gB_Bus_actionsDone (C : Cs D ca cc nL own cx X) {index : Nat} (hd : decode cc pc = .ok (.getfield index, 3)) (hw : Cond.fieldLink own index "RobotBus" "actionsDone" "I" ∈ gtb)  (kk : Zs l D ca SB b 182 R nL X σ (pc + 3) L (.int (σ.1 4 0 0 0) :: st)) : Zs l D ca SB b 182 R nL X σ pc L (.ref (b + 0) :: st) :=
  z_get C hd (fun w h => List.mem_cons_of_mem _ (in_Bus w h)) (T := F_Bus) (N := 13) (ci := 0) rfl 9 (by decide) (List.mem_cons_of_mem _ hw) (by omega) rfl (eB_Bus ) rfl kk
theorem uB_Bus_actionsDone  (x : Int32) : va_up (enc b ca SB σ) 0 (.inr (0, [.ref (b + 1), .ref (b + 2), .ref (b + 3), .ref (b + 4), .ref (b + 5), .ref (b + 9), .int (σ.1 1 0 0 0), .int (σ.1 2 0 0 0), .int (σ.1 3 0 0 0), .int x, .int (σ.1 5 0 0 0), .int (σ.1 6 0 0 0), .double (σ.2.1 7 0 0 0)])) = enc b ca SB (us σ 4 0 0 x) := by
  obtain ⟨c, h1, h2, m6, m7, m8, m9, m10, m11, m12⟩ := sB_Bus 
  refine enc_up SB_U h1 m9 offK_A ?_
  rw [h2]
  simp [us, upA, upE]
theorem pB_Bus_actionsDone (C : Cs D ca cc nL own cx X) {index : Nat} {x : Int32} (hd : decode cc pc = .ok (.putfield index, 3)) (hw : Cond.fieldLink own index "RobotBus" "actionsDone" "I" ∈ gtb)  (kk : Zs l D ca SB b 182 R nL X (us σ 4 0 0 x) (pc + 3) L st) : Zs l D ca SB b 182 R nL X σ pc L (.int x :: .ref (b + 0) :: st) :=
  z_put C hd (fun w h => List.mem_cons_of_mem _ (in_Bus w h)) (T := F_Bus) (N := 13) (ci := 0) (ty := .int) tk_Bus n_Bus rfl 9 (by decide) (List.mem_cons_of_mem _ hw) rfl (by decide +kernel) rfl rfl (by omega) rfl (eB_Bus ) (by simp) (z_map (uB_Bus_actionsDone  x) kk)
theorem gB_Bus_asksFailed (C : Cs D ca cc nL own cx X) {index : Nat} (hd : decode cc pc = .ok (.getfield index, 3)) (hw : Cond.fieldLink own index "RobotBus" "asksFailed" "I" ∈ gtb)  (kk : Zs l D ca SB b 182 R nL X σ (pc + 3) L (.int (σ.1 5 0 0 0) :: st)) : Zs l D ca SB b 182 R nL X σ pc L (.ref (b + 0) :: st) :=
  z_get C hd (fun w h => List.mem_cons_of_mem _ (in_Bus w h)) (T := F_Bus) (N := 13) (ci := 0) rfl 10 (by decide) (List.mem_cons_of_mem _ hw) (by omega) rfl (eB_Bus ) rfl kk
theorem uB_Bus_asksFailed  (x : Int32) : va_up (enc b ca SB σ) 0 (.inr (0, [.ref (b + 1), .ref (b + 2), .ref (b + 3), .ref (b + 4), .ref (b + 5), .ref (b + 9), .int (σ.1 1 0 0 0), .int (σ.1 2 0 0 0), .int (σ.1 3 0 0 0), .int (σ.1 4 0 0 0), .int x, .int (σ.1 6 0 0 0), .double (σ.2.1 7 0 0 0)])) = enc b ca SB (us σ 5 0 0 x) := by
  obtain ⟨c, h1, h2, m6, m7, m8, m9, m10, m11, m12⟩ := sB_Bus 
  refine enc_up SB_U h1 m10 offK_A ?_
  rw [h2]
  simp [us, upA, upE]
theorem pB_Bus_asksFailed (C : Cs D ca cc nL own cx X) {index : Nat} {x : Int32} (hd : decode cc pc = .ok (.putfield index, 3)) (hw : Cond.fieldLink own index "RobotBus" "asksFailed" "I" ∈ gtb)  (kk : Zs l D ca SB b 182 R nL X (us σ 5 0 0 x) (pc + 3) L st) : Zs l D ca SB b 182 R nL X σ pc L (.int x :: .ref (b + 0) :: st) :=
  z_put C hd (fun w h => List.mem_cons_of_mem _ (in_Bus w h)) (T := F_Bus) (N := 13) (ci := 0) (ty := .int) tk_Bus n_Bus rfl 10 (by decide) (List.mem_cons_of_mem _ hw) rfl (by decide +kernel) rfl rfl (by omega) rfl (eB_Bus ) (by simp) (z_map (uB_Bus_asksFailed  x) kk)
theorem gB_Bus_answer (C : Cs D ca cc nL own cx X) {index : Nat} (hd : decode cc pc = .ok (.getfield index, 3)) (hw : Cond.fieldLink own index "RobotBus" "answer" "I" ∈ gtb)  (kk : Zs l D ca SB b 182 R nL X σ (pc + 3) L (.int (σ.1 6 0 0 0) :: st)) : Zs l D ca SB b 182 R nL X σ pc L (.ref (b + 0) :: st) :=
  z_get C hd (fun w h => List.mem_cons_of_mem _ (in_Bus w h)) (T := F_Bus) (N := 13) (ci := 0) rfl 11 (by decide) (List.mem_cons_of_mem _ hw) (by omega) rfl (eB_Bus ) rfl kk
theorem uB_Bus_answer  (x : Int32) : va_up (enc b ca SB σ) 0 (.inr (0, [.ref (b + 1), .ref (b + 2), .ref (b + 3), .ref (b + 4), .ref (b + 5), .ref (b + 9), .int (σ.1 1 0 0 0), .int (σ.1 2 0 0 0), .int (σ.1 3 0 0 0), .int (σ.1 4 0 0 0), .int (σ.1 5 0 0 0), .int x, .double (σ.2.1 7 0 0 0)])) = enc b ca SB (us σ 6 0 0 x) := by
  obtain ⟨c, h1, h2, m6, m7, m8, m9, m10, m11, m12⟩ := sB_Bus 
  refine enc_up SB_U h1 m11 offK_A ?_
  rw [h2]
  simp [us, upA, upE]
theorem pB_Bus_answer (C : Cs D ca cc nL own cx X) {index : Nat} {x : Int32} (hd : decode cc pc = .ok (.putfield index, 3)) (hw : Cond.fieldLink own index "RobotBus" "answer" "I" ∈ gtb)  (kk : Zs l D ca SB b 182 R nL X (us σ 6 0 0 x) (pc + 3) L st) : Zs l D ca SB b 182 R nL X σ pc L (.int x :: .ref (b + 0) :: st) :=
  z_put C hd (fun w h => List.mem_cons_of_mem _ (in_Bus w h)) (T := F_Bus) (N := 13) (ci := 0) (ty := .int) tk_Bus n_Bus rfl 11 (by decide) (List.mem_cons_of_mem _ hw) rfl (by decide +kernel) rfl rfl (by omega) rfl (eB_Bus ) (by simp) (z_map (uB_Bus_answer  x) kk)
theorem gB_Bus_keptY (C : Cs D ca cc nL own cx X) {index : Nat} (hd : decode cc pc = .ok (.getfield index, 3)) (hw : Cond.fieldLink own index "RobotBus" "keptY" "D" ∈ gtb)  (kk : Zs l D ca SB b 182 R nL X σ (pc + 3) L (.double (σ.2.1 7 0 0 0) :: st)) : Zs l D ca SB b 182 R nL X σ pc L (.ref (b + 0) :: st) :=
  z_get C hd (fun w h => List.mem_cons_of_mem _ (in_Bus w h)) (T := F_Bus) (N := 13) (ci := 0) rfl 12 (by decide) (List.mem_cons_of_mem _ hw) (by omega) rfl (eB_Bus ) rfl kk
theorem uB_Bus_keptY  (x : UInt64) : va_up (enc b ca SB σ) 0 (.inr (0, [.ref (b + 1), .ref (b + 2), .ref (b + 3), .ref (b + 4), .ref (b + 5), .ref (b + 9), .int (σ.1 1 0 0 0), .int (σ.1 2 0 0 0), .int (σ.1 3 0 0 0), .int (σ.1 4 0 0 0), .int (σ.1 5 0 0 0), .int (σ.1 6 0 0 0), .double x])) = enc b ca SB (upE σ (7, 0, 0) (fun _ => x)) := by
  obtain ⟨c, h1, h2, m6, m7, m8, m9, m10, m11, m12⟩ := sB_Bus 
  refine enc_up SB_U h1 m12 offK_E ?_
  rw [h2]
  simp [us, upA, upE]
theorem pB_Bus_keptY (C : Cs D ca cc nL own cx X) {index : Nat} {x : UInt64} (hd : decode cc pc = .ok (.putfield index, 3)) (hw : Cond.fieldLink own index "RobotBus" "keptY" "D" ∈ gtb)  (kk : Zs l D ca SB b 182 R nL X (upE σ (7, 0, 0) (fun _ => x)) (pc + 3) L st) : Zs l D ca SB b 182 R nL X σ pc L (.double x :: .ref (b + 0) :: st) :=
  z_put C hd (fun w h => List.mem_cons_of_mem _ (in_Bus w h)) (T := F_Bus) (N := 13) (ci := 0) (ty := .double) tk_Bus n_Bus rfl 12 (by decide) (List.mem_cons_of_mem _ hw) rfl (by decide +kernel) rfl rfl (by omega) rfl (eB_Bus ) (by simp) (z_map (uB_Bus_keptY  x) kk)
theorem sB_Bag  : ∃ c, SB[5]? = some c ∧ (∀ (b : Nat) (ca : Nat → ClassId) (σ : Sg), rz b ca σ c = .inr (7, [.ref (b + 6), .ref (b + 7), .ref (b + 8), .int (σ.1 10 0 0 0), .int (σ.1 11 0 0 0), .int (σ.1 12 0 0 0), .int (σ.1 13 0 0 0), .int (σ.1 14 0 0 0)])) ∧ ment (10, 0, 0) c = true ∧ ment (11, 0, 0) c = true ∧ ment (12, 0, 0) c = true ∧ ment (13, 0, 0) c = true ∧ ment (14, 0, 0) c = true := by
  exact ⟨_, rfl, fun _ _ _ => rfl, by decide, by decide, by decide, by decide, by decide⟩
theorem eB_Bag  : enc b ca SB σ 5 = .inr (7, [.ref (b + 6), .ref (b + 7), .ref (b + 8), .int (σ.1 10 0 0 0), .int (σ.1 11 0 0 0), .int (σ.1 12 0 0 0), .int (σ.1 13 0 0 0), .int (σ.1 14 0 0 0)]) := by
  obtain ⟨c, h1, h2, -⟩ := sB_Bag 
  rw [enc_at h1, h2]
theorem gB_Bag_times (C : Cs D ca cc nL own cx X) {index : Nat} (hd : decode cc pc = .ok (.getfield index, 3)) (hw : Cond.fieldLink own index "RobotBus$Bag" "times" "[I" ∈ gtb)  (kk : Zs l D ca SB b 182 R nL X σ (pc + 3) L (.ref (b + 6) :: st)) : Zs l D ca SB b 182 R nL X σ pc L (.ref (b + 5) :: st) :=
  z_get C hd (fun w h => List.mem_cons_of_mem _ (in_Bag w h)) (T := F_Bag) (N := 8) (ci := 7) rfl 0 (by decide) (List.mem_cons_of_mem _ hw) (by omega) rfl (eB_Bag ) rfl kk
theorem gB_Bag_topics (C : Cs D ca cc nL own cx X) {index : Nat} (hd : decode cc pc = .ok (.getfield index, 3)) (hw : Cond.fieldLink own index "RobotBus$Bag" "topics" "[I" ∈ gtb)  (kk : Zs l D ca SB b 182 R nL X σ (pc + 3) L (.ref (b + 7) :: st)) : Zs l D ca SB b 182 R nL X σ pc L (.ref (b + 5) :: st) :=
  z_get C hd (fun w h => List.mem_cons_of_mem _ (in_Bag w h)) (T := F_Bag) (N := 8) (ci := 7) rfl 1 (by decide) (List.mem_cons_of_mem _ hw) (by omega) rfl (eB_Bag ) rfl kk
theorem gB_Bag_values (C : Cs D ca cc nL own cx X) {index : Nat} (hd : decode cc pc = .ok (.getfield index, 3)) (hw : Cond.fieldLink own index "RobotBus$Bag" "values" "[I" ∈ gtb)  (kk : Zs l D ca SB b 182 R nL X σ (pc + 3) L (.ref (b + 8) :: st)) : Zs l D ca SB b 182 R nL X σ pc L (.ref (b + 5) :: st) :=
  z_get C hd (fun w h => List.mem_cons_of_mem _ (in_Bag w h)) (T := F_Bag) (N := 8) (ci := 7) rfl 2 (by decide) (List.mem_cons_of_mem _ hw) (by omega) rfl (eB_Bag ) rfl kk
theorem gB_Bag_size (C : Cs D ca cc nL own cx X) {index : Nat} (hd : decode cc pc = .ok (.getfield index, 3)) (hw : Cond.fieldLink own index "RobotBus$Bag" "size" "I" ∈ gtb)  (kk : Zs l D ca SB b 182 R nL X σ (pc + 3) L (.int (σ.1 10 0 0 0) :: st)) : Zs l D ca SB b 182 R nL X σ pc L (.ref (b + 5) :: st) :=
  z_get C hd (fun w h => List.mem_cons_of_mem _ (in_Bag w h)) (T := F_Bag) (N := 8) (ci := 7) rfl 3 (by decide) (List.mem_cons_of_mem _ hw) (by omega) rfl (eB_Bag ) rfl kk
theorem uB_Bag_size  (x : Int32) : va_up (enc b ca SB σ) 5 (.inr (7, [.ref (b + 6), .ref (b + 7), .ref (b + 8), .int x, .int (σ.1 11 0 0 0), .int (σ.1 12 0 0 0), .int (σ.1 13 0 0 0), .int (σ.1 14 0 0 0)])) = enc b ca SB (us σ 10 0 0 x) := by
  obtain ⟨c, h1, h2, m3, m4, m5, m6, m7⟩ := sB_Bag 
  refine enc_up SB_U h1 m3 offK_A ?_
  rw [h2]
  simp [us, upA, upE]
theorem pB_Bag_size (C : Cs D ca cc nL own cx X) {index : Nat} {x : Int32} (hd : decode cc pc = .ok (.putfield index, 3)) (hw : Cond.fieldLink own index "RobotBus$Bag" "size" "I" ∈ gtb)  (kk : Zs l D ca SB b 182 R nL X (us σ 10 0 0 x) (pc + 3) L st) : Zs l D ca SB b 182 R nL X σ pc L (.int x :: .ref (b + 5) :: st) :=
  z_put C hd (fun w h => List.mem_cons_of_mem _ (in_Bag w h)) (T := F_Bag) (N := 8) (ci := 7) (ty := .int) tk_Bag n_Bag rfl 3 (by decide) (List.mem_cons_of_mem _ hw) rfl (by decide +kernel) rfl rfl (by omega) rfl (eB_Bag ) (by simp) (z_map (uB_Bag_size  x) kk)
theorem gB_Bag_next (C : Cs D ca cc nL own cx X) {index : Nat} (hd : decode cc pc = .ok (.getfield index, 3)) (hw : Cond.fieldLink own index "RobotBus$Bag" "next" "I" ∈ gtb)  (kk : Zs l D ca SB b 182 R nL X σ (pc + 3) L (.int (σ.1 11 0 0 0) :: st)) : Zs l D ca SB b 182 R nL X σ pc L (.ref (b + 5) :: st) :=
  z_get C hd (fun w h => List.mem_cons_of_mem _ (in_Bag w h)) (T := F_Bag) (N := 8) (ci := 7) rfl 4 (by decide) (List.mem_cons_of_mem _ hw) (by omega) rfl (eB_Bag ) rfl kk
theorem uB_Bag_next  (x : Int32) : va_up (enc b ca SB σ) 5 (.inr (7, [.ref (b + 6), .ref (b + 7), .ref (b + 8), .int (σ.1 10 0 0 0), .int x, .int (σ.1 12 0 0 0), .int (σ.1 13 0 0 0), .int (σ.1 14 0 0 0)])) = enc b ca SB (us σ 11 0 0 x) := by
  obtain ⟨c, h1, h2, m3, m4, m5, m6, m7⟩ := sB_Bag 
  refine enc_up SB_U h1 m4 offK_A ?_
  rw [h2]
  simp [us, upA, upE]
theorem pB_Bag_next (C : Cs D ca cc nL own cx X) {index : Nat} {x : Int32} (hd : decode cc pc = .ok (.putfield index, 3)) (hw : Cond.fieldLink own index "RobotBus$Bag" "next" "I" ∈ gtb)  (kk : Zs l D ca SB b 182 R nL X (us σ 11 0 0 x) (pc + 3) L st) : Zs l D ca SB b 182 R nL X σ pc L (.int x :: .ref (b + 5) :: st) :=
  z_put C hd (fun w h => List.mem_cons_of_mem _ (in_Bag w h)) (T := F_Bag) (N := 8) (ci := 7) (ty := .int) tk_Bag n_Bag rfl 4 (by decide) (List.mem_cons_of_mem _ hw) rfl (by decide +kernel) rfl rfl (by omega) rfl (eB_Bag ) (by simp) (z_map (uB_Bag_next  x) kk)
theorem gB_Bag_end (C : Cs D ca cc nL own cx X) {index : Nat} (hd : decode cc pc = .ok (.getfield index, 3)) (hw : Cond.fieldLink own index "RobotBus$Bag" "end" "I" ∈ gtb)  (kk : Zs l D ca SB b 182 R nL X σ (pc + 3) L (.int (σ.1 12 0 0 0) :: st)) : Zs l D ca SB b 182 R nL X σ pc L (.ref (b + 5) :: st) :=
  z_get C hd (fun w h => List.mem_cons_of_mem _ (in_Bag w h)) (T := F_Bag) (N := 8) (ci := 7) rfl 5 (by decide) (List.mem_cons_of_mem _ hw) (by omega) rfl (eB_Bag ) rfl kk
theorem uB_Bag_end  (x : Int32) : va_up (enc b ca SB σ) 5 (.inr (7, [.ref (b + 6), .ref (b + 7), .ref (b + 8), .int (σ.1 10 0 0 0), .int (σ.1 11 0 0 0), .int x, .int (σ.1 13 0 0 0), .int (σ.1 14 0 0 0)])) = enc b ca SB (us σ 12 0 0 x) := by
  obtain ⟨c, h1, h2, m3, m4, m5, m6, m7⟩ := sB_Bag 
  refine enc_up SB_U h1 m5 offK_A ?_
  rw [h2]
  simp [us, upA, upE]
theorem pB_Bag_end (C : Cs D ca cc nL own cx X) {index : Nat} {x : Int32} (hd : decode cc pc = .ok (.putfield index, 3)) (hw : Cond.fieldLink own index "RobotBus$Bag" "end" "I" ∈ gtb)  (kk : Zs l D ca SB b 182 R nL X (us σ 12 0 0 x) (pc + 3) L st) : Zs l D ca SB b 182 R nL X σ pc L (.int x :: .ref (b + 5) :: st) :=
  z_put C hd (fun w h => List.mem_cons_of_mem _ (in_Bag w h)) (T := F_Bag) (N := 8) (ci := 7) (ty := .int) tk_Bag n_Bag rfl 5 (by decide) (List.mem_cons_of_mem _ hw) rfl (by decide +kernel) rfl rfl (by omega) rfl (eB_Bag ) (by simp) (z_map (uB_Bag_end  x) kk)
theorem gB_Bag_startClock (C : Cs D ca cc nL own cx X) {index : Nat} (hd : decode cc pc = .ok (.getfield index, 3)) (hw : Cond.fieldLink own index "RobotBus$Bag" "startClock" "I" ∈ gtb)  (kk : Zs l D ca SB b 182 R nL X σ (pc + 3) L (.int (σ.1 13 0 0 0) :: st)) : Zs l D ca SB b 182 R nL X σ pc L (.ref (b + 5) :: st) :=
  z_get C hd (fun w h => List.mem_cons_of_mem _ (in_Bag w h)) (T := F_Bag) (N := 8) (ci := 7) rfl 6 (by decide) (List.mem_cons_of_mem _ hw) (by omega) rfl (eB_Bag ) rfl kk
theorem uB_Bag_startClock  (x : Int32) : va_up (enc b ca SB σ) 5 (.inr (7, [.ref (b + 6), .ref (b + 7), .ref (b + 8), .int (σ.1 10 0 0 0), .int (σ.1 11 0 0 0), .int (σ.1 12 0 0 0), .int x, .int (σ.1 14 0 0 0)])) = enc b ca SB (us σ 13 0 0 x) := by
  obtain ⟨c, h1, h2, m3, m4, m5, m6, m7⟩ := sB_Bag 
  refine enc_up SB_U h1 m6 offK_A ?_
  rw [h2]
  simp [us, upA, upE]
theorem pB_Bag_startClock (C : Cs D ca cc nL own cx X) {index : Nat} {x : Int32} (hd : decode cc pc = .ok (.putfield index, 3)) (hw : Cond.fieldLink own index "RobotBus$Bag" "startClock" "I" ∈ gtb)  (kk : Zs l D ca SB b 182 R nL X (us σ 13 0 0 x) (pc + 3) L st) : Zs l D ca SB b 182 R nL X σ pc L (.int x :: .ref (b + 5) :: st) :=
  z_put C hd (fun w h => List.mem_cons_of_mem _ (in_Bag w h)) (T := F_Bag) (N := 8) (ci := 7) (ty := .int) tk_Bag n_Bag rfl 6 (by decide) (List.mem_cons_of_mem _ hw) rfl (by decide +kernel) rfl rfl (by omega) rfl (eB_Bag ) (by simp) (z_map (uB_Bag_startClock  x) kk)
theorem gB_Bag_pace (C : Cs D ca cc nL own cx X) {index : Nat} (hd : decode cc pc = .ok (.getfield index, 3)) (hw : Cond.fieldLink own index "RobotBus$Bag" "pace" "I" ∈ gtb)  (kk : Zs l D ca SB b 182 R nL X σ (pc + 3) L (.int (σ.1 14 0 0 0) :: st)) : Zs l D ca SB b 182 R nL X σ pc L (.ref (b + 5) :: st) :=
  z_get C hd (fun w h => List.mem_cons_of_mem _ (in_Bag w h)) (T := F_Bag) (N := 8) (ci := 7) rfl 7 (by decide) (List.mem_cons_of_mem _ hw) (by omega) rfl (eB_Bag ) rfl kk
theorem uB_Bag_pace  (x : Int32) : va_up (enc b ca SB σ) 5 (.inr (7, [.ref (b + 6), .ref (b + 7), .ref (b + 8), .int (σ.1 10 0 0 0), .int (σ.1 11 0 0 0), .int (σ.1 12 0 0 0), .int (σ.1 13 0 0 0), .int x])) = enc b ca SB (us σ 14 0 0 x) := by
  obtain ⟨c, h1, h2, m3, m4, m5, m6, m7⟩ := sB_Bag 
  refine enc_up SB_U h1 m7 offK_A ?_
  rw [h2]
  simp [us, upA, upE]
theorem pB_Bag_pace (C : Cs D ca cc nL own cx X) {index : Nat} {x : Int32} (hd : decode cc pc = .ok (.putfield index, 3)) (hw : Cond.fieldLink own index "RobotBus$Bag" "pace" "I" ∈ gtb)  (kk : Zs l D ca SB b 182 R nL X (us σ 14 0 0 x) (pc + 3) L st) : Zs l D ca SB b 182 R nL X σ pc L (.int x :: .ref (b + 5) :: st) :=
  z_put C hd (fun w h => List.mem_cons_of_mem _ (in_Bag w h)) (T := F_Bag) (N := 8) (ci := 7) (ty := .int) tk_Bag n_Bag rfl 7 (by decide) (List.mem_cons_of_mem _ hw) rfl (by decide +kernel) rfl rfl (by omega) rfl (eB_Bag ) (by simp) (z_map (uB_Bag_pace  x) kk)
theorem sB_Pnt  : ∃ c, SB[9]? = some c ∧ (∀ (b : Nat) (ca : Nat → ClassId) (σ : Sg), rz b ca σ c = .inr (8, [.int (σ.1 20 0 0 0), .int (σ.1 21 0 0 0)])) ∧ ment (20, 0, 0) c = true ∧ ment (21, 0, 0) c = true := by
  exact ⟨_, rfl, fun _ _ _ => rfl, by decide, by decide⟩
theorem eB_Pnt  : enc b ca SB σ 9 = .inr (8, [.int (σ.1 20 0 0 0), .int (σ.1 21 0 0 0)]) := by
  obtain ⟨c, h1, h2, -⟩ := sB_Pnt 
  rw [enc_at h1, h2]
theorem gB_Pnt_x (C : Cs D ca cc nL own cx X) {index : Nat} (hd : decode cc pc = .ok (.getfield index, 3)) (hw : Cond.fieldLink own index "RobotBus$Point" "x" "I" ∈ gtb)  (kk : Zs l D ca SB b 182 R nL X σ (pc + 3) L (.int (σ.1 20 0 0 0) :: st)) : Zs l D ca SB b 182 R nL X σ pc L (.ref (b + 9) :: st) :=
  z_get C hd (fun w h => List.mem_cons_of_mem _ (in_Pnt w h)) (T := F_Pnt) (N := 2) (ci := 8) rfl 0 (by decide) (List.mem_cons_of_mem _ hw) (by omega) rfl (eB_Pnt ) rfl kk
theorem uB_Pnt_x  (x : Int32) : va_up (enc b ca SB σ) 9 (.inr (8, [.int x, .int (σ.1 21 0 0 0)])) = enc b ca SB (us σ 20 0 0 x) := by
  obtain ⟨c, h1, h2, m0, m1⟩ := sB_Pnt 
  refine enc_up SB_U h1 m0 offK_A ?_
  rw [h2]
  simp [us, upA, upE]
theorem pB_Pnt_x (C : Cs D ca cc nL own cx X) {index : Nat} {x : Int32} (hd : decode cc pc = .ok (.putfield index, 3)) (hw : Cond.fieldLink own index "RobotBus$Point" "x" "I" ∈ gtb)  (kk : Zs l D ca SB b 182 R nL X (us σ 20 0 0 x) (pc + 3) L st) : Zs l D ca SB b 182 R nL X σ pc L (.int x :: .ref (b + 9) :: st) :=
  z_put C hd (fun w h => List.mem_cons_of_mem _ (in_Pnt w h)) (T := F_Pnt) (N := 2) (ci := 8) (ty := .int) tk_Pnt n_Pnt rfl 0 (by decide) (List.mem_cons_of_mem _ hw) rfl (by decide +kernel) rfl rfl (by omega) rfl (eB_Pnt ) (by simp) (z_map (uB_Pnt_x  x) kk)
theorem gB_Pnt_y (C : Cs D ca cc nL own cx X) {index : Nat} (hd : decode cc pc = .ok (.getfield index, 3)) (hw : Cond.fieldLink own index "RobotBus$Point" "y" "I" ∈ gtb)  (kk : Zs l D ca SB b 182 R nL X σ (pc + 3) L (.int (σ.1 21 0 0 0) :: st)) : Zs l D ca SB b 182 R nL X σ pc L (.ref (b + 9) :: st) :=
  z_get C hd (fun w h => List.mem_cons_of_mem _ (in_Pnt w h)) (T := F_Pnt) (N := 2) (ci := 8) rfl 1 (by decide) (List.mem_cons_of_mem _ hw) (by omega) rfl (eB_Pnt ) rfl kk
theorem uB_Pnt_y  (x : Int32) : va_up (enc b ca SB σ) 9 (.inr (8, [.int (σ.1 20 0 0 0), .int x])) = enc b ca SB (us σ 21 0 0 x) := by
  obtain ⟨c, h1, h2, m0, m1⟩ := sB_Pnt 
  refine enc_up SB_U h1 m1 offK_A ?_
  rw [h2]
  simp [us, upA, upE]
theorem pB_Pnt_y (C : Cs D ca cc nL own cx X) {index : Nat} {x : Int32} (hd : decode cc pc = .ok (.putfield index, 3)) (hw : Cond.fieldLink own index "RobotBus$Point" "y" "I" ∈ gtb)  (kk : Zs l D ca SB b 182 R nL X (us σ 21 0 0 x) (pc + 3) L st) : Zs l D ca SB b 182 R nL X σ pc L (.int x :: .ref (b + 9) :: st) :=
  z_put C hd (fun w h => List.mem_cons_of_mem _ (in_Pnt w h)) (T := F_Pnt) (N := 2) (ci := 8) (ty := .int) tk_Pnt n_Pnt rfl 1 (by decide) (List.mem_cons_of_mem _ hw) rfl (by decide +kernel) rfl rfl (by omega) rfl (eB_Pnt ) (by simp) (z_map (uB_Pnt_y  x) kk)
theorem sB_Nod {i : Nat} (hi : i < 6) : ∃ c, SB[(10 + 22 * i)]? = some c ∧ (∀ (b : Nat) (ca : Nat → ClassId) (σ : Sg), rz b ca σ c = .inr (1, [.ref (b + (11 + 22 * i)), .ref (b + (12 + 22 * i)), .ref (b + (13 + 22 * i)), .int (σ.1 30 i 0 0), .int (σ.1 31 i 0 0)])) ∧ ment (30, i, 0) c = true ∧ ment (31, i, 0) c = true := by
  have h9i : i = 0 ∨ i = 1 ∨ i = 2 ∨ i = 3 ∨ i = 4 ∨ i = 5 := by omega
  rcases h9i with rfl | rfl | rfl | rfl | rfl | rfl <;> exact ⟨_, rfl, fun _ _ _ => rfl, by decide, by decide⟩
theorem eB_Nod {i : Nat} (hi : i < 6) : enc b ca SB σ (10 + 22 * i) = .inr (1, [.ref (b + (11 + 22 * i)), .ref (b + (12 + 22 * i)), .ref (b + (13 + 22 * i)), .int (σ.1 30 i 0 0), .int (σ.1 31 i 0 0)]) := by
  obtain ⟨c, h1, h2, -⟩ := sB_Nod hi
  rw [enc_at h1, h2]
theorem gB_Nod_variables (C : Cs D ca cc nL own cx X) {index : Nat} (hd : decode cc pc = .ok (.getfield index, 3)) (hw : Cond.fieldLink own index "RobotBus$Node" "variables" "[I" ∈ gtb) {i : Nat} (hi : i < 6) (kk : Zs l D ca SB b 182 R nL X σ (pc + 3) L (.ref (b + (11 + 22 * i)) :: st)) : Zs l D ca SB b 182 R nL X σ pc L (.ref (b + (10 + 22 * i)) :: st) :=
  z_get C hd (fun w h => List.mem_cons_of_mem _ (in_Nod w h)) (T := F_Nod) (N := 5) (ci := 1) rfl 0 (by decide) (List.mem_cons_of_mem _ hw) (by omega) rfl (eB_Nod hi) rfl kk
theorem gB_Nod_queues (C : Cs D ca cc nL own cx X) {index : Nat} (hd : decode cc pc = .ok (.getfield index, 3)) (hw : Cond.fieldLink own index "RobotBus$Node" "queues" "[LRobotBus$Queue;" ∈ gtb) {i : Nat} (hi : i < 6) (kk : Zs l D ca SB b 182 R nL X σ (pc + 3) L (.ref (b + (12 + 22 * i)) :: st)) : Zs l D ca SB b 182 R nL X σ pc L (.ref (b + (10 + 22 * i)) :: st) :=
  z_get C hd (fun w h => List.mem_cons_of_mem _ (in_Nod w h)) (T := F_Nod) (N := 5) (ci := 1) rfl 1 (by decide) (List.mem_cons_of_mem _ hw) (by omega) rfl (eB_Nod hi) rfl kk
theorem gB_Nod_actions (C : Cs D ca cc nL own cx X) {index : Nat} (hd : decode cc pc = .ok (.getfield index, 3)) (hw : Cond.fieldLink own index "RobotBus$Node" "actions" "[LRobotBus$Action;" ∈ gtb) {i : Nat} (hi : i < 6) (kk : Zs l D ca SB b 182 R nL X σ (pc + 3) L (.ref (b + (13 + 22 * i)) :: st)) : Zs l D ca SB b 182 R nL X σ pc L (.ref (b + (10 + 22 * i)) :: st) :=
  z_get C hd (fun w h => List.mem_cons_of_mem _ (in_Nod w h)) (T := F_Nod) (N := 5) (ci := 1) rfl 2 (by decide) (List.mem_cons_of_mem _ hw) (by omega) rfl (eB_Nod hi) rfl kk
theorem gB_Nod_present (C : Cs D ca cc nL own cx X) {index : Nat} (hd : decode cc pc = .ok (.getfield index, 3)) (hw : Cond.fieldLink own index "RobotBus$Node" "present" "Z" ∈ gtb) {i : Nat} (hi : i < 6) (kk : Zs l D ca SB b 182 R nL X σ (pc + 3) L (.int (σ.1 30 i 0 0) :: st)) : Zs l D ca SB b 182 R nL X σ pc L (.ref (b + (10 + 22 * i)) :: st) :=
  z_get C hd (fun w h => List.mem_cons_of_mem _ (in_Nod w h)) (T := F_Nod) (N := 5) (ci := 1) rfl 3 (by decide) (List.mem_cons_of_mem _ hw) (by omega) rfl (eB_Nod hi) rfl kk
theorem uB_Nod_present {i : Nat} (hi : i < 6) (x : Int32) : va_up (enc b ca SB σ) (10 + 22 * i) (.inr (1, [.ref (b + (11 + 22 * i)), .ref (b + (12 + 22 * i)), .ref (b + (13 + 22 * i)), .int x, .int (σ.1 31 i 0 0)])) = enc b ca SB (us σ 30 i 0 x) := by
  obtain ⟨c, h1, h2, m3, m4⟩ := sB_Nod hi
  refine enc_up SB_U h1 m3 offK_A ?_
  rw [h2]
  simp [us, upA, upE]
theorem pB_Nod_present (C : Cs D ca cc nL own cx X) {index : Nat} {x : Int32} (hd : decode cc pc = .ok (.putfield index, 3)) (hw : Cond.fieldLink own index "RobotBus$Node" "present" "Z" ∈ gtb) {i : Nat} (hi : i < 6) (hx : x = 0 ∨ x = 1) (kk : Zs l D ca SB b 182 R nL X (us σ 30 i 0 x) (pc + 3) L st) : Zs l D ca SB b 182 R nL X σ pc L (.int x :: .ref (b + (10 + 22 * i)) :: st) :=
  z_put C hd (fun w h => List.mem_cons_of_mem _ (in_Nod w h)) (T := F_Nod) (N := 5) (ci := 1) (ty := .boolean) tk_Nod n_Nod rfl 3 (by decide) (List.mem_cons_of_mem _ hw) rfl (by decide +kernel) (by rcases hx with rfl | rfl <;> rfl) (by rcases hx with rfl | rfl <;> decide) (by omega) rfl (eB_Nod hi) (by simp) (z_map (uB_Nod_present hi x) kk)
theorem gB_Nod_firstLookedAt (C : Cs D ca cc nL own cx X) {index : Nat} (hd : decode cc pc = .ok (.getfield index, 3)) (hw : Cond.fieldLink own index "RobotBus$Node" "firstLookedAt" "I" ∈ gtb) {i : Nat} (hi : i < 6) (kk : Zs l D ca SB b 182 R nL X σ (pc + 3) L (.int (σ.1 31 i 0 0) :: st)) : Zs l D ca SB b 182 R nL X σ pc L (.ref (b + (10 + 22 * i)) :: st) :=
  z_get C hd (fun w h => List.mem_cons_of_mem _ (in_Nod w h)) (T := F_Nod) (N := 5) (ci := 1) rfl 4 (by decide) (List.mem_cons_of_mem _ hw) (by omega) rfl (eB_Nod hi) rfl kk
theorem uB_Nod_firstLookedAt {i : Nat} (hi : i < 6) (x : Int32) : va_up (enc b ca SB σ) (10 + 22 * i) (.inr (1, [.ref (b + (11 + 22 * i)), .ref (b + (12 + 22 * i)), .ref (b + (13 + 22 * i)), .int (σ.1 30 i 0 0), .int x])) = enc b ca SB (us σ 31 i 0 x) := by
  obtain ⟨c, h1, h2, m3, m4⟩ := sB_Nod hi
  refine enc_up SB_U h1 m4 offK_A ?_
  rw [h2]
  simp [us, upA, upE]
theorem pB_Nod_firstLookedAt (C : Cs D ca cc nL own cx X) {index : Nat} {x : Int32} (hd : decode cc pc = .ok (.putfield index, 3)) (hw : Cond.fieldLink own index "RobotBus$Node" "firstLookedAt" "I" ∈ gtb) {i : Nat} (hi : i < 6) (kk : Zs l D ca SB b 182 R nL X (us σ 31 i 0 x) (pc + 3) L st) : Zs l D ca SB b 182 R nL X σ pc L (.int x :: .ref (b + (10 + 22 * i)) :: st) :=
  z_put C hd (fun w h => List.mem_cons_of_mem _ (in_Nod w h)) (T := F_Nod) (N := 5) (ci := 1) (ty := .int) tk_Nod n_Nod rfl 4 (by decide) (List.mem_cons_of_mem _ hw) rfl (by decide +kernel) rfl rfl (by omega) rfl (eB_Nod hi) (by simp) (z_map (uB_Nod_firstLookedAt hi x) kk)
theorem sB_Que {i : Nat} (hi : i < 6) {t : Nat} (ht : t < 6) : ∃ c, SB[(14 + 22 * i + 3 * t)]? = some c ∧ (∀ (b : Nat) (ca : Nat → ClassId) (σ : Sg), rz b ca σ c = .inr (2, [.ref (b + (15 + 22 * i + 3 * t)), .int (σ.1 33 i t 0), .int (σ.1 34 i t 0)])) ∧ ment (33, i, t) c = true ∧ ment (34, i, t) c = true := by
  have h9i : i = 0 ∨ i = 1 ∨ i = 2 ∨ i = 3 ∨ i = 4 ∨ i = 5 := by omega
  have h9t : t = 0 ∨ t = 1 ∨ t = 2 ∨ t = 3 ∨ t = 4 ∨ t = 5 := by omega
  rcases h9i with rfl | rfl | rfl | rfl | rfl | rfl <;> rcases h9t with rfl | rfl | rfl | rfl | rfl | rfl <;> exact ⟨_, rfl, fun _ _ _ => rfl, by decide, by decide⟩
theorem eB_Que {i : Nat} (hi : i < 6) {t : Nat} (ht : t < 6) : enc b ca SB σ (14 + 22 * i + 3 * t) = .inr (2, [.ref (b + (15 + 22 * i + 3 * t)), .int (σ.1 33 i t 0), .int (σ.1 34 i t 0)]) := by
  obtain ⟨c, h1, h2, -⟩ := sB_Que hi ht
  rw [enc_at h1, h2]
theorem gB_Que_cells (C : Cs D ca cc nL own cx X) {index : Nat} (hd : decode cc pc = .ok (.getfield index, 3)) (hw : Cond.fieldLink own index "RobotBus$Queue" "cells" "[I" ∈ gtb) {i : Nat} (hi : i < 6) {t : Nat} (ht : t < 6) (kk : Zs l D ca SB b 182 R nL X σ (pc + 3) L (.ref (b + (15 + 22 * i + 3 * t)) :: st)) : Zs l D ca SB b 182 R nL X σ pc L (.ref (b + (14 + 22 * i + 3 * t)) :: st) :=
  z_get C hd (fun w h => List.mem_cons_of_mem _ (in_Que w h)) (T := F_Que) (N := 3) (ci := 2) rfl 0 (by decide) (List.mem_cons_of_mem _ hw) (by omega) rfl (eB_Que hi ht) rfl kk
theorem gB_Que_depth (C : Cs D ca cc nL own cx X) {index : Nat} (hd : decode cc pc = .ok (.getfield index, 3)) (hw : Cond.fieldLink own index "RobotBus$Queue" "depth" "I" ∈ gtb) {i : Nat} (hi : i < 6) {t : Nat} (ht : t < 6) (kk : Zs l D ca SB b 182 R nL X σ (pc + 3) L (.int (σ.1 33 i t 0) :: st)) : Zs l D ca SB b 182 R nL X σ pc L (.ref (b + (14 + 22 * i + 3 * t)) :: st) :=
  z_get C hd (fun w h => List.mem_cons_of_mem _ (in_Que w h)) (T := F_Que) (N := 3) (ci := 2) rfl 1 (by decide) (List.mem_cons_of_mem _ hw) (by omega) rfl (eB_Que hi ht) rfl kk
theorem uB_Que_depth {i : Nat} (hi : i < 6) {t : Nat} (ht : t < 6) (x : Int32) : va_up (enc b ca SB σ) (14 + 22 * i + 3 * t) (.inr (2, [.ref (b + (15 + 22 * i + 3 * t)), .int x, .int (σ.1 34 i t 0)])) = enc b ca SB (us σ 33 i t x) := by
  obtain ⟨c, h1, h2, m1, m2⟩ := sB_Que hi ht
  refine enc_up SB_U h1 m1 offK_A ?_
  rw [h2]
  simp [us, upA, upE]
theorem pB_Que_depth (C : Cs D ca cc nL own cx X) {index : Nat} {x : Int32} (hd : decode cc pc = .ok (.putfield index, 3)) (hw : Cond.fieldLink own index "RobotBus$Queue" "depth" "I" ∈ gtb) {i : Nat} (hi : i < 6) {t : Nat} (ht : t < 6) (kk : Zs l D ca SB b 182 R nL X (us σ 33 i t x) (pc + 3) L st) : Zs l D ca SB b 182 R nL X σ pc L (.int x :: .ref (b + (14 + 22 * i + 3 * t)) :: st) :=
  z_put C hd (fun w h => List.mem_cons_of_mem _ (in_Que w h)) (T := F_Que) (N := 3) (ci := 2) (ty := .int) tk_Que n_Que rfl 1 (by decide) (List.mem_cons_of_mem _ hw) rfl (by decide +kernel) rfl rfl (by omega) rfl (eB_Que hi ht) (by simp) (z_map (uB_Que_depth hi ht x) kk)
theorem gB_Que_size (C : Cs D ca cc nL own cx X) {index : Nat} (hd : decode cc pc = .ok (.getfield index, 3)) (hw : Cond.fieldLink own index "RobotBus$Queue" "size" "I" ∈ gtb) {i : Nat} (hi : i < 6) {t : Nat} (ht : t < 6) (kk : Zs l D ca SB b 182 R nL X σ (pc + 3) L (.int (σ.1 34 i t 0) :: st)) : Zs l D ca SB b 182 R nL X σ pc L (.ref (b + (14 + 22 * i + 3 * t)) :: st) :=
  z_get C hd (fun w h => List.mem_cons_of_mem _ (in_Que w h)) (T := F_Que) (N := 3) (ci := 2) rfl 2 (by decide) (List.mem_cons_of_mem _ hw) (by omega) rfl (eB_Que hi ht) rfl kk
theorem uB_Que_size {i : Nat} (hi : i < 6) {t : Nat} (ht : t < 6) (x : Int32) : va_up (enc b ca SB σ) (14 + 22 * i + 3 * t) (.inr (2, [.ref (b + (15 + 22 * i + 3 * t)), .int (σ.1 33 i t 0), .int x])) = enc b ca SB (us σ 34 i t x) := by
  obtain ⟨c, h1, h2, m1, m2⟩ := sB_Que hi ht
  refine enc_up SB_U h1 m2 offK_A ?_
  rw [h2]
  simp [us, upA, upE]
theorem pB_Que_size (C : Cs D ca cc nL own cx X) {index : Nat} {x : Int32} (hd : decode cc pc = .ok (.putfield index, 3)) (hw : Cond.fieldLink own index "RobotBus$Queue" "size" "I" ∈ gtb) {i : Nat} (hi : i < 6) {t : Nat} (ht : t < 6) (kk : Zs l D ca SB b 182 R nL X (us σ 34 i t x) (pc + 3) L st) : Zs l D ca SB b 182 R nL X σ pc L (.int x :: .ref (b + (14 + 22 * i + 3 * t)) :: st) :=
  z_put C hd (fun w h => List.mem_cons_of_mem _ (in_Que w h)) (T := F_Que) (N := 3) (ci := 2) (ty := .int) tk_Que n_Que rfl 2 (by decide) (List.mem_cons_of_mem _ hw) rfl (by decide +kernel) rfl rfl (by omega) rfl (eB_Que hi ht) (by simp) (z_map (uB_Que_size hi ht x) kk)
theorem sB_Act {i : Nat} (hi : i < 6) {t : Nat} (ht : t < 6) : ∃ c, SB[(16 + 22 * i + 3 * t)]? = some c ∧ (∀ (b : Nat) (ca : Nat → ClassId) (σ : Sg), rz b ca σ c = .inr (3, [.int (σ.1 36 i t 0), .int (σ.1 37 i t 0), .int (σ.1 38 i t 0)])) ∧ ment (36, i, t) c = true ∧ ment (37, i, t) c = true ∧ ment (38, i, t) c = true := by
  have h9i : i = 0 ∨ i = 1 ∨ i = 2 ∨ i = 3 ∨ i = 4 ∨ i = 5 := by omega
  have h9t : t = 0 ∨ t = 1 ∨ t = 2 ∨ t = 3 ∨ t = 4 ∨ t = 5 := by omega
  rcases h9i with rfl | rfl | rfl | rfl | rfl | rfl <;> rcases h9t with rfl | rfl | rfl | rfl | rfl | rfl <;> exact ⟨_, rfl, fun _ _ _ => rfl, by decide, by decide, by decide⟩
theorem eB_Act {i : Nat} (hi : i < 6) {t : Nat} (ht : t < 6) : enc b ca SB σ (16 + 22 * i + 3 * t) = .inr (3, [.int (σ.1 36 i t 0), .int (σ.1 37 i t 0), .int (σ.1 38 i t 0)]) := by
  obtain ⟨c, h1, h2, -⟩ := sB_Act hi ht
  rw [enc_at h1, h2]
theorem gB_Act_kind (C : Cs D ca cc nL own cx X) {index : Nat} (hd : decode cc pc = .ok (.getfield index, 3)) (hw : Cond.fieldLink own index "RobotBus$Action" "kind" "I" ∈ gtb) {i : Nat} (hi : i < 6) {t : Nat} (ht : t < 6) (kk : Zs l D ca SB b 182 R nL X σ (pc + 3) L (.int (σ.1 36 i t 0) :: st)) : Zs l D ca SB b 182 R nL X σ pc L (.ref (b + (16 + 22 * i + 3 * t)) :: st) :=
  z_get C hd (fun w h => List.mem_cons_of_mem _ (in_Act w h)) (T := F_Act) (N := 3) (ci := 3) rfl 0 (by decide) (List.mem_cons_of_mem _ hw) (by omega) rfl (eB_Act hi ht) rfl kk
theorem uB_Act_kind {i : Nat} (hi : i < 6) {t : Nat} (ht : t < 6) (x : Int32) : va_up (enc b ca SB σ) (16 + 22 * i + 3 * t) (.inr (3, [.int x, .int (σ.1 37 i t 0), .int (σ.1 38 i t 0)])) = enc b ca SB (us σ 36 i t x) := by
  obtain ⟨c, h1, h2, m0, m1, m2⟩ := sB_Act hi ht
  refine enc_up SB_U h1 m0 offK_A ?_
  rw [h2]
  simp [us, upA, upE]
theorem pB_Act_kind (C : Cs D ca cc nL own cx X) {index : Nat} {x : Int32} (hd : decode cc pc = .ok (.putfield index, 3)) (hw : Cond.fieldLink own index "RobotBus$Action" "kind" "I" ∈ gtb) {i : Nat} (hi : i < 6) {t : Nat} (ht : t < 6) (kk : Zs l D ca SB b 182 R nL X (us σ 36 i t x) (pc + 3) L st) : Zs l D ca SB b 182 R nL X σ pc L (.int x :: .ref (b + (16 + 22 * i + 3 * t)) :: st) :=
  z_put C hd (fun w h => List.mem_cons_of_mem _ (in_Act w h)) (T := F_Act) (N := 3) (ci := 3) (ty := .int) tk_Act n_Act rfl 0 (by decide) (List.mem_cons_of_mem _ hw) rfl (by decide +kernel) rfl rfl (by omega) rfl (eB_Act hi ht) (by simp) (z_map (uB_Act_kind hi ht x) kk)
theorem gB_Act_a (C : Cs D ca cc nL own cx X) {index : Nat} (hd : decode cc pc = .ok (.getfield index, 3)) (hw : Cond.fieldLink own index "RobotBus$Action" "a" "I" ∈ gtb) {i : Nat} (hi : i < 6) {t : Nat} (ht : t < 6) (kk : Zs l D ca SB b 182 R nL X σ (pc + 3) L (.int (σ.1 37 i t 0) :: st)) : Zs l D ca SB b 182 R nL X σ pc L (.ref (b + (16 + 22 * i + 3 * t)) :: st) :=
  z_get C hd (fun w h => List.mem_cons_of_mem _ (in_Act w h)) (T := F_Act) (N := 3) (ci := 3) rfl 1 (by decide) (List.mem_cons_of_mem _ hw) (by omega) rfl (eB_Act hi ht) rfl kk
theorem uB_Act_a {i : Nat} (hi : i < 6) {t : Nat} (ht : t < 6) (x : Int32) : va_up (enc b ca SB σ) (16 + 22 * i + 3 * t) (.inr (3, [.int (σ.1 36 i t 0), .int x, .int (σ.1 38 i t 0)])) = enc b ca SB (us σ 37 i t x) := by
  obtain ⟨c, h1, h2, m0, m1, m2⟩ := sB_Act hi ht
  refine enc_up SB_U h1 m1 offK_A ?_
  rw [h2]
  simp [us, upA, upE]
theorem pB_Act_a (C : Cs D ca cc nL own cx X) {index : Nat} {x : Int32} (hd : decode cc pc = .ok (.putfield index, 3)) (hw : Cond.fieldLink own index "RobotBus$Action" "a" "I" ∈ gtb) {i : Nat} (hi : i < 6) {t : Nat} (ht : t < 6) (kk : Zs l D ca SB b 182 R nL X (us σ 37 i t x) (pc + 3) L st) : Zs l D ca SB b 182 R nL X σ pc L (.int x :: .ref (b + (16 + 22 * i + 3 * t)) :: st) :=
  z_put C hd (fun w h => List.mem_cons_of_mem _ (in_Act w h)) (T := F_Act) (N := 3) (ci := 3) (ty := .int) tk_Act n_Act rfl 1 (by decide) (List.mem_cons_of_mem _ hw) rfl (by decide +kernel) rfl rfl (by omega) rfl (eB_Act hi ht) (by simp) (z_map (uB_Act_a hi ht x) kk)
theorem gB_Act_b (C : Cs D ca cc nL own cx X) {index : Nat} (hd : decode cc pc = .ok (.getfield index, 3)) (hw : Cond.fieldLink own index "RobotBus$Action" "b" "I" ∈ gtb) {i : Nat} (hi : i < 6) {t : Nat} (ht : t < 6) (kk : Zs l D ca SB b 182 R nL X σ (pc + 3) L (.int (σ.1 38 i t 0) :: st)) : Zs l D ca SB b 182 R nL X σ pc L (.ref (b + (16 + 22 * i + 3 * t)) :: st) :=
  z_get C hd (fun w h => List.mem_cons_of_mem _ (in_Act w h)) (T := F_Act) (N := 3) (ci := 3) rfl 2 (by decide) (List.mem_cons_of_mem _ hw) (by omega) rfl (eB_Act hi ht) rfl kk
theorem uB_Act_b {i : Nat} (hi : i < 6) {t : Nat} (ht : t < 6) (x : Int32) : va_up (enc b ca SB σ) (16 + 22 * i + 3 * t) (.inr (3, [.int (σ.1 36 i t 0), .int (σ.1 37 i t 0), .int x])) = enc b ca SB (us σ 38 i t x) := by
  obtain ⟨c, h1, h2, m0, m1, m2⟩ := sB_Act hi ht
  refine enc_up SB_U h1 m2 offK_A ?_
  rw [h2]
  simp [us, upA, upE]
theorem pB_Act_b (C : Cs D ca cc nL own cx X) {index : Nat} {x : Int32} (hd : decode cc pc = .ok (.putfield index, 3)) (hw : Cond.fieldLink own index "RobotBus$Action" "b" "I" ∈ gtb) {i : Nat} (hi : i < 6) {t : Nat} (ht : t < 6) (kk : Zs l D ca SB b 182 R nL X (us σ 38 i t x) (pc + 3) L st) : Zs l D ca SB b 182 R nL X σ pc L (.int x :: .ref (b + (16 + 22 * i + 3 * t)) :: st) :=
  z_put C hd (fun w h => List.mem_cons_of_mem _ (in_Act w h)) (T := F_Act) (N := 3) (ci := 3) (ty := .int) tk_Act n_Act rfl 2 (by decide) (List.mem_cons_of_mem _ hw) rfl (by decide +kernel) rfl rfl (by omega) rfl (eB_Act hi ht) (by simp) (z_map (uB_Act_b hi ht x) kk)
theorem sB_Top {i : Nat} (hi : i < 6) : ∃ c, SB[(142 + i)]? = some c ∧ (∀ (b : Nat) (ca : Nat → ClassId) (σ : Sg), rz b ca σ c = .inr (4, [.int (σ.1 40 i 0 0), .int (σ.1 41 i 0 0), .int (σ.1 42 i 0 0), .int (σ.1 43 i 0 0), .int (σ.1 44 i 0 0), .int (σ.1 45 i 0 0)])) ∧ ment (40, i, 0) c = true ∧ ment (41, i, 0) c = true ∧ ment (42, i, 0) c = true ∧ ment (43, i, 0) c = true ∧ ment (44, i, 0) c = true ∧ ment (45, i, 0) c = true := by
  have h9i : i = 0 ∨ i = 1 ∨ i = 2 ∨ i = 3 ∨ i = 4 ∨ i = 5 := by omega
  rcases h9i with rfl | rfl | rfl | rfl | rfl | rfl <;> exact ⟨_, rfl, fun _ _ _ => rfl, by decide, by decide, by decide, by decide, by decide, by decide⟩
theorem eB_Top {i : Nat} (hi : i < 6) : enc b ca SB σ (142 + i) = .inr (4, [.int (σ.1 40 i 0 0), .int (σ.1 41 i 0 0), .int (σ.1 42 i 0 0), .int (σ.1 43 i 0 0), .int (σ.1 44 i 0 0), .int (σ.1 45 i 0 0)]) := by
  obtain ⟨c, h1, h2, -⟩ := sB_Top hi
  rw [enc_at h1, h2]
theorem gB_Top_latched (C : Cs D ca cc nL own cx X) {index : Nat} (hd : decode cc pc = .ok (.getfield index, 3)) (hw : Cond.fieldLink own index "RobotBus$Topic" "latched" "Z" ∈ gtb) {i : Nat} (hi : i < 6) (kk : Zs l D ca SB b 182 R nL X σ (pc + 3) L (.int (σ.1 40 i 0 0) :: st)) : Zs l D ca SB b 182 R nL X σ pc L (.ref (b + (142 + i)) :: st) :=
  z_get C hd (fun w h => List.mem_cons_of_mem _ (in_Top w h)) (T := F_Top) (N := 6) (ci := 4) rfl 0 (by decide) (List.mem_cons_of_mem _ hw) (by omega) rfl (eB_Top hi) rfl kk
theorem uB_Top_latched {i : Nat} (hi : i < 6) (x : Int32) : va_up (enc b ca SB σ) (142 + i) (.inr (4, [.int x, .int (σ.1 41 i 0 0), .int (σ.1 42 i 0 0), .int (σ.1 43 i 0 0), .int (σ.1 44 i 0 0), .int (σ.1 45 i 0 0)])) = enc b ca SB (us σ 40 i 0 x) := by
  obtain ⟨c, h1, h2, m0, m1, m2, m3, m4, m5⟩ := sB_Top hi
  refine enc_up SB_U h1 m0 offK_A ?_
  rw [h2]
  simp [us, upA, upE]
theorem pB_Top_latched (C : Cs D ca cc nL own cx X) {index : Nat} {x : Int32} (hd : decode cc pc = .ok (.putfield index, 3)) (hw : Cond.fieldLink own index "RobotBus$Topic" "latched" "Z" ∈ gtb) {i : Nat} (hi : i < 6) (hx : x = 0 ∨ x = 1) (kk : Zs l D ca SB b 182 R nL X (us σ 40 i 0 x) (pc + 3) L st) : Zs l D ca SB b 182 R nL X σ pc L (.int x :: .ref (b + (142 + i)) :: st) :=
  z_put C hd (fun w h => List.mem_cons_of_mem _ (in_Top w h)) (T := F_Top) (N := 6) (ci := 4) (ty := .boolean) tk_Top n_Top rfl 0 (by decide) (List.mem_cons_of_mem _ hw) rfl (by decide +kernel) (by rcases hx with rfl | rfl <;> rfl) (by rcases hx with rfl | rfl <;> decide) (by omega) rfl (eB_Top hi) (by simp) (z_map (uB_Top_latched hi x) kk)
theorem gB_Top_recorded (C : Cs D ca cc nL own cx X) {index : Nat} (hd : decode cc pc = .ok (.getfield index, 3)) (hw : Cond.fieldLink own index "RobotBus$Topic" "recorded" "Z" ∈ gtb) {i : Nat} (hi : i < 6) (kk : Zs l D ca SB b 182 R nL X σ (pc + 3) L (.int (σ.1 41 i 0 0) :: st)) : Zs l D ca SB b 182 R nL X σ pc L (.ref (b + (142 + i)) :: st) :=
  z_get C hd (fun w h => List.mem_cons_of_mem _ (in_Top w h)) (T := F_Top) (N := 6) (ci := 4) rfl 1 (by decide) (List.mem_cons_of_mem _ hw) (by omega) rfl (eB_Top hi) rfl kk
theorem uB_Top_recorded {i : Nat} (hi : i < 6) (x : Int32) : va_up (enc b ca SB σ) (142 + i) (.inr (4, [.int (σ.1 40 i 0 0), .int x, .int (σ.1 42 i 0 0), .int (σ.1 43 i 0 0), .int (σ.1 44 i 0 0), .int (σ.1 45 i 0 0)])) = enc b ca SB (us σ 41 i 0 x) := by
  obtain ⟨c, h1, h2, m0, m1, m2, m3, m4, m5⟩ := sB_Top hi
  refine enc_up SB_U h1 m1 offK_A ?_
  rw [h2]
  simp [us, upA, upE]
theorem pB_Top_recorded (C : Cs D ca cc nL own cx X) {index : Nat} {x : Int32} (hd : decode cc pc = .ok (.putfield index, 3)) (hw : Cond.fieldLink own index "RobotBus$Topic" "recorded" "Z" ∈ gtb) {i : Nat} (hi : i < 6) (hx : x = 0 ∨ x = 1) (kk : Zs l D ca SB b 182 R nL X (us σ 41 i 0 x) (pc + 3) L st) : Zs l D ca SB b 182 R nL X σ pc L (.int x :: .ref (b + (142 + i)) :: st) :=
  z_put C hd (fun w h => List.mem_cons_of_mem _ (in_Top w h)) (T := F_Top) (N := 6) (ci := 4) (ty := .boolean) tk_Top n_Top rfl 1 (by decide) (List.mem_cons_of_mem _ hw) rfl (by decide +kernel) (by rcases hx with rfl | rfl <;> rfl) (by rcases hx with rfl | rfl <;> decide) (by omega) rfl (eB_Top hi) (by simp) (z_map (uB_Top_recorded hi x) kk)
theorem gB_Top_hasLast (C : Cs D ca cc nL own cx X) {index : Nat} (hd : decode cc pc = .ok (.getfield index, 3)) (hw : Cond.fieldLink own index "RobotBus$Topic" "hasLast" "Z" ∈ gtb) {i : Nat} (hi : i < 6) (kk : Zs l D ca SB b 182 R nL X σ (pc + 3) L (.int (σ.1 42 i 0 0) :: st)) : Zs l D ca SB b 182 R nL X σ pc L (.ref (b + (142 + i)) :: st) :=
  z_get C hd (fun w h => List.mem_cons_of_mem _ (in_Top w h)) (T := F_Top) (N := 6) (ci := 4) rfl 2 (by decide) (List.mem_cons_of_mem _ hw) (by omega) rfl (eB_Top hi) rfl kk
theorem uB_Top_hasLast {i : Nat} (hi : i < 6) (x : Int32) : va_up (enc b ca SB σ) (142 + i) (.inr (4, [.int (σ.1 40 i 0 0), .int (σ.1 41 i 0 0), .int x, .int (σ.1 43 i 0 0), .int (σ.1 44 i 0 0), .int (σ.1 45 i 0 0)])) = enc b ca SB (us σ 42 i 0 x) := by
  obtain ⟨c, h1, h2, m0, m1, m2, m3, m4, m5⟩ := sB_Top hi
  refine enc_up SB_U h1 m2 offK_A ?_
  rw [h2]
  simp [us, upA, upE]
theorem pB_Top_hasLast (C : Cs D ca cc nL own cx X) {index : Nat} {x : Int32} (hd : decode cc pc = .ok (.putfield index, 3)) (hw : Cond.fieldLink own index "RobotBus$Topic" "hasLast" "Z" ∈ gtb) {i : Nat} (hi : i < 6) (hx : x = 0 ∨ x = 1) (kk : Zs l D ca SB b 182 R nL X (us σ 42 i 0 x) (pc + 3) L st) : Zs l D ca SB b 182 R nL X σ pc L (.int x :: .ref (b + (142 + i)) :: st) :=
  z_put C hd (fun w h => List.mem_cons_of_mem _ (in_Top w h)) (T := F_Top) (N := 6) (ci := 4) (ty := .boolean) tk_Top n_Top rfl 2 (by decide) (List.mem_cons_of_mem _ hw) rfl (by decide +kernel) (by rcases hx with rfl | rfl <;> rfl) (by rcases hx with rfl | rfl <;> decide) (by omega) rfl (eB_Top hi) (by simp) (z_map (uB_Top_hasLast hi x) kk)
theorem gB_Top_lastValue (C : Cs D ca cc nL own cx X) {index : Nat} (hd : decode cc pc = .ok (.getfield index, 3)) (hw : Cond.fieldLink own index "RobotBus$Topic" "lastValue" "I" ∈ gtb) {i : Nat} (hi : i < 6) (kk : Zs l D ca SB b 182 R nL X σ (pc + 3) L (.int (σ.1 43 i 0 0) :: st)) : Zs l D ca SB b 182 R nL X σ pc L (.ref (b + (142 + i)) :: st) :=
  z_get C hd (fun w h => List.mem_cons_of_mem _ (in_Top w h)) (T := F_Top) (N := 6) (ci := 4) rfl 3 (by decide) (List.mem_cons_of_mem _ hw) (by omega) rfl (eB_Top hi) rfl kk
theorem uB_Top_lastValue {i : Nat} (hi : i < 6) (x : Int32) : va_up (enc b ca SB σ) (142 + i) (.inr (4, [.int (σ.1 40 i 0 0), .int (σ.1 41 i 0 0), .int (σ.1 42 i 0 0), .int x, .int (σ.1 44 i 0 0), .int (σ.1 45 i 0 0)])) = enc b ca SB (us σ 43 i 0 x) := by
  obtain ⟨c, h1, h2, m0, m1, m2, m3, m4, m5⟩ := sB_Top hi
  refine enc_up SB_U h1 m3 offK_A ?_
  rw [h2]
  simp [us, upA, upE]
theorem pB_Top_lastValue (C : Cs D ca cc nL own cx X) {index : Nat} {x : Int32} (hd : decode cc pc = .ok (.putfield index, 3)) (hw : Cond.fieldLink own index "RobotBus$Topic" "lastValue" "I" ∈ gtb) {i : Nat} (hi : i < 6) (kk : Zs l D ca SB b 182 R nL X (us σ 43 i 0 x) (pc + 3) L st) : Zs l D ca SB b 182 R nL X σ pc L (.int x :: .ref (b + (142 + i)) :: st) :=
  z_put C hd (fun w h => List.mem_cons_of_mem _ (in_Top w h)) (T := F_Top) (N := 6) (ci := 4) (ty := .int) tk_Top n_Top rfl 3 (by decide) (List.mem_cons_of_mem _ hw) rfl (by decide +kernel) rfl rfl (by omega) rfl (eB_Top hi) (by simp) (z_map (uB_Top_lastValue hi x) kk)
theorem gB_Top_lastSender (C : Cs D ca cc nL own cx X) {index : Nat} (hd : decode cc pc = .ok (.getfield index, 3)) (hw : Cond.fieldLink own index "RobotBus$Topic" "lastSender" "I" ∈ gtb) {i : Nat} (hi : i < 6) (kk : Zs l D ca SB b 182 R nL X σ (pc + 3) L (.int (σ.1 44 i 0 0) :: st)) : Zs l D ca SB b 182 R nL X σ pc L (.ref (b + (142 + i)) :: st) :=
  z_get C hd (fun w h => List.mem_cons_of_mem _ (in_Top w h)) (T := F_Top) (N := 6) (ci := 4) rfl 4 (by decide) (List.mem_cons_of_mem _ hw) (by omega) rfl (eB_Top hi) rfl kk
theorem uB_Top_lastSender {i : Nat} (hi : i < 6) (x : Int32) : va_up (enc b ca SB σ) (142 + i) (.inr (4, [.int (σ.1 40 i 0 0), .int (σ.1 41 i 0 0), .int (σ.1 42 i 0 0), .int (σ.1 43 i 0 0), .int x, .int (σ.1 45 i 0 0)])) = enc b ca SB (us σ 44 i 0 x) := by
  obtain ⟨c, h1, h2, m0, m1, m2, m3, m4, m5⟩ := sB_Top hi
  refine enc_up SB_U h1 m4 offK_A ?_
  rw [h2]
  simp [us, upA, upE]
theorem pB_Top_lastSender (C : Cs D ca cc nL own cx X) {index : Nat} {x : Int32} (hd : decode cc pc = .ok (.putfield index, 3)) (hw : Cond.fieldLink own index "RobotBus$Topic" "lastSender" "I" ∈ gtb) {i : Nat} (hi : i < 6) (kk : Zs l D ca SB b 182 R nL X (us σ 44 i 0 x) (pc + 3) L st) : Zs l D ca SB b 182 R nL X σ pc L (.int x :: .ref (b + (142 + i)) :: st) :=
  z_put C hd (fun w h => List.mem_cons_of_mem _ (in_Top w h)) (T := F_Top) (N := 6) (ci := 4) (ty := .int) tk_Top n_Top rfl 4 (by decide) (List.mem_cons_of_mem _ hw) rfl (by decide +kernel) rfl rfl (by omega) rfl (eB_Top hi) (by simp) (z_map (uB_Top_lastSender hi x) kk)
theorem gB_Top_lastStamp (C : Cs D ca cc nL own cx X) {index : Nat} (hd : decode cc pc = .ok (.getfield index, 3)) (hw : Cond.fieldLink own index "RobotBus$Topic" "lastStamp" "I" ∈ gtb) {i : Nat} (hi : i < 6) (kk : Zs l D ca SB b 182 R nL X σ (pc + 3) L (.int (σ.1 45 i 0 0) :: st)) : Zs l D ca SB b 182 R nL X σ pc L (.ref (b + (142 + i)) :: st) :=
  z_get C hd (fun w h => List.mem_cons_of_mem _ (in_Top w h)) (T := F_Top) (N := 6) (ci := 4) rfl 5 (by decide) (List.mem_cons_of_mem _ hw) (by omega) rfl (eB_Top hi) rfl kk
theorem uB_Top_lastStamp {i : Nat} (hi : i < 6) (x : Int32) : va_up (enc b ca SB σ) (142 + i) (.inr (4, [.int (σ.1 40 i 0 0), .int (σ.1 41 i 0 0), .int (σ.1 42 i 0 0), .int (σ.1 43 i 0 0), .int (σ.1 44 i 0 0), .int x])) = enc b ca SB (us σ 45 i 0 x) := by
  obtain ⟨c, h1, h2, m0, m1, m2, m3, m4, m5⟩ := sB_Top hi
  refine enc_up SB_U h1 m5 offK_A ?_
  rw [h2]
  simp [us, upA, upE]
theorem pB_Top_lastStamp (C : Cs D ca cc nL own cx X) {index : Nat} {x : Int32} (hd : decode cc pc = .ok (.putfield index, 3)) (hw : Cond.fieldLink own index "RobotBus$Topic" "lastStamp" "I" ∈ gtb) {i : Nat} (hi : i < 6) (kk : Zs l D ca SB b 182 R nL X (us σ 45 i 0 x) (pc + 3) L st) : Zs l D ca SB b 182 R nL X σ pc L (.int x :: .ref (b + (142 + i)) :: st) :=
  z_put C hd (fun w h => List.mem_cons_of_mem _ (in_Top w h)) (T := F_Top) (N := 6) (ci := 4) (ty := .int) tk_Top n_Top rfl 5 (by decide) (List.mem_cons_of_mem _ hw) rfl (by decide +kernel) rfl rfl (by omega) rfl (eB_Top hi) (by simp) (z_map (uB_Top_lastStamp hi x) kk)
theorem sB_Srv {i : Nat} (hi : i < 4) : ∃ c, SB[(148 + i)]? = some c ∧ (∀ (b : Nat) (ca : Nat → ClassId) (σ : Sg), rz b ca σ c = .inr (5, [.int (σ.1 50 i 0 0), .int (σ.1 51 i 0 0), .int (σ.1 52 i 0 0), .int (σ.1 53 i 0 0)])) ∧ ment (50, i, 0) c = true ∧ ment (51, i, 0) c = true ∧ ment (52, i, 0) c = true ∧ ment (53, i, 0) c = true := by
  have h9i : i = 0 ∨ i = 1 ∨ i = 2 ∨ i = 3 := by omega
  rcases h9i with rfl | rfl | rfl | rfl <;> exact ⟨_, rfl, fun _ _ _ => rfl, by decide, by decide, by decide, by decide⟩
theorem eB_Srv {i : Nat} (hi : i < 4) : enc b ca SB σ (148 + i) = .inr (5, [.int (σ.1 50 i 0 0), .int (σ.1 51 i 0 0), .int (σ.1 52 i 0 0), .int (σ.1 53 i 0 0)]) := by
  obtain ⟨c, h1, h2, -⟩ := sB_Srv hi
  rw [enc_at h1, h2]
theorem gB_Srv_node (C : Cs D ca cc nL own cx X) {index : Nat} (hd : decode cc pc = .ok (.getfield index, 3)) (hw : Cond.fieldLink own index "RobotBus$Service" "node" "I" ∈ gtb) {i : Nat} (hi : i < 4) (kk : Zs l D ca SB b 182 R nL X σ (pc + 3) L (.int (σ.1 50 i 0 0) :: st)) : Zs l D ca SB b 182 R nL X σ pc L (.ref (b + (148 + i)) :: st) :=
  z_get C hd (fun w h => List.mem_cons_of_mem _ (in_Srv w h)) (T := F_Srv) (N := 4) (ci := 5) rfl 0 (by decide) (List.mem_cons_of_mem _ hw) (by omega) rfl (eB_Srv hi) rfl kk
theorem uB_Srv_node {i : Nat} (hi : i < 4) (x : Int32) : va_up (enc b ca SB σ) (148 + i) (.inr (5, [.int x, .int (σ.1 51 i 0 0), .int (σ.1 52 i 0 0), .int (σ.1 53 i 0 0)])) = enc b ca SB (us σ 50 i 0 x) := by
  obtain ⟨c, h1, h2, m0, m1, m2, m3⟩ := sB_Srv hi
  refine enc_up SB_U h1 m0 offK_A ?_
  rw [h2]
  simp [us, upA, upE]
theorem pB_Srv_node (C : Cs D ca cc nL own cx X) {index : Nat} {x : Int32} (hd : decode cc pc = .ok (.putfield index, 3)) (hw : Cond.fieldLink own index "RobotBus$Service" "node" "I" ∈ gtb) {i : Nat} (hi : i < 4) (kk : Zs l D ca SB b 182 R nL X (us σ 50 i 0 x) (pc + 3) L st) : Zs l D ca SB b 182 R nL X σ pc L (.int x :: .ref (b + (148 + i)) :: st) :=
  z_put C hd (fun w h => List.mem_cons_of_mem _ (in_Srv w h)) (T := F_Srv) (N := 4) (ci := 5) (ty := .int) tk_Srv n_Srv rfl 0 (by decide) (List.mem_cons_of_mem _ hw) rfl (by decide +kernel) rfl rfl (by omega) rfl (eB_Srv hi) (by simp) (z_map (uB_Srv_node hi x) kk)
theorem gB_Srv_kind (C : Cs D ca cc nL own cx X) {index : Nat} (hd : decode cc pc = .ok (.getfield index, 3)) (hw : Cond.fieldLink own index "RobotBus$Service" "kind" "I" ∈ gtb) {i : Nat} (hi : i < 4) (kk : Zs l D ca SB b 182 R nL X σ (pc + 3) L (.int (σ.1 51 i 0 0) :: st)) : Zs l D ca SB b 182 R nL X σ pc L (.ref (b + (148 + i)) :: st) :=
  z_get C hd (fun w h => List.mem_cons_of_mem _ (in_Srv w h)) (T := F_Srv) (N := 4) (ci := 5) rfl 1 (by decide) (List.mem_cons_of_mem _ hw) (by omega) rfl (eB_Srv hi) rfl kk
theorem uB_Srv_kind {i : Nat} (hi : i < 4) (x : Int32) : va_up (enc b ca SB σ) (148 + i) (.inr (5, [.int (σ.1 50 i 0 0), .int x, .int (σ.1 52 i 0 0), .int (σ.1 53 i 0 0)])) = enc b ca SB (us σ 51 i 0 x) := by
  obtain ⟨c, h1, h2, m0, m1, m2, m3⟩ := sB_Srv hi
  refine enc_up SB_U h1 m1 offK_A ?_
  rw [h2]
  simp [us, upA, upE]
theorem pB_Srv_kind (C : Cs D ca cc nL own cx X) {index : Nat} {x : Int32} (hd : decode cc pc = .ok (.putfield index, 3)) (hw : Cond.fieldLink own index "RobotBus$Service" "kind" "I" ∈ gtb) {i : Nat} (hi : i < 4) (kk : Zs l D ca SB b 182 R nL X (us σ 51 i 0 x) (pc + 3) L st) : Zs l D ca SB b 182 R nL X σ pc L (.int x :: .ref (b + (148 + i)) :: st) :=
  z_put C hd (fun w h => List.mem_cons_of_mem _ (in_Srv w h)) (T := F_Srv) (N := 4) (ci := 5) (ty := .int) tk_Srv n_Srv rfl 1 (by decide) (List.mem_cons_of_mem _ hw) rfl (by decide +kernel) rfl rfl (by omega) rfl (eB_Srv hi) (by simp) (z_map (uB_Srv_kind hi x) kk)
theorem gB_Srv_c (C : Cs D ca cc nL own cx X) {index : Nat} (hd : decode cc pc = .ok (.getfield index, 3)) (hw : Cond.fieldLink own index "RobotBus$Service" "c" "I" ∈ gtb) {i : Nat} (hi : i < 4) (kk : Zs l D ca SB b 182 R nL X σ (pc + 3) L (.int (σ.1 52 i 0 0) :: st)) : Zs l D ca SB b 182 R nL X σ pc L (.ref (b + (148 + i)) :: st) :=
  z_get C hd (fun w h => List.mem_cons_of_mem _ (in_Srv w h)) (T := F_Srv) (N := 4) (ci := 5) rfl 2 (by decide) (List.mem_cons_of_mem _ hw) (by omega) rfl (eB_Srv hi) rfl kk
theorem uB_Srv_c {i : Nat} (hi : i < 4) (x : Int32) : va_up (enc b ca SB σ) (148 + i) (.inr (5, [.int (σ.1 50 i 0 0), .int (σ.1 51 i 0 0), .int x, .int (σ.1 53 i 0 0)])) = enc b ca SB (us σ 52 i 0 x) := by
  obtain ⟨c, h1, h2, m0, m1, m2, m3⟩ := sB_Srv hi
  refine enc_up SB_U h1 m2 offK_A ?_
  rw [h2]
  simp [us, upA, upE]
theorem pB_Srv_c (C : Cs D ca cc nL own cx X) {index : Nat} {x : Int32} (hd : decode cc pc = .ok (.putfield index, 3)) (hw : Cond.fieldLink own index "RobotBus$Service" "c" "I" ∈ gtb) {i : Nat} (hi : i < 4) (kk : Zs l D ca SB b 182 R nL X (us σ 52 i 0 x) (pc + 3) L st) : Zs l D ca SB b 182 R nL X σ pc L (.int x :: .ref (b + (148 + i)) :: st) :=
  z_put C hd (fun w h => List.mem_cons_of_mem _ (in_Srv w h)) (T := F_Srv) (N := 4) (ci := 5) (ty := .int) tk_Srv n_Srv rfl 2 (by decide) (List.mem_cons_of_mem _ hw) rfl (by decide +kernel) rfl rfl (by omega) rfl (eB_Srv hi) (by simp) (z_map (uB_Srv_c hi x) kk)
theorem gB_Srv_d (C : Cs D ca cc nL own cx X) {index : Nat} (hd : decode cc pc = .ok (.getfield index, 3)) (hw : Cond.fieldLink own index "RobotBus$Service" "d" "I" ∈ gtb) {i : Nat} (hi : i < 4) (kk : Zs l D ca SB b 182 R nL X σ (pc + 3) L (.int (σ.1 53 i 0 0) :: st)) : Zs l D ca SB b 182 R nL X σ pc L (.ref (b + (148 + i)) :: st) :=
  z_get C hd (fun w h => List.mem_cons_of_mem _ (in_Srv w h)) (T := F_Srv) (N := 4) (ci := 5) rfl 3 (by decide) (List.mem_cons_of_mem _ hw) (by omega) rfl (eB_Srv hi) rfl kk
theorem uB_Srv_d {i : Nat} (hi : i < 4) (x : Int32) : va_up (enc b ca SB σ) (148 + i) (.inr (5, [.int (σ.1 50 i 0 0), .int (σ.1 51 i 0 0), .int (σ.1 52 i 0 0), .int x])) = enc b ca SB (us σ 53 i 0 x) := by
  obtain ⟨c, h1, h2, m0, m1, m2, m3⟩ := sB_Srv hi
  refine enc_up SB_U h1 m3 offK_A ?_
  rw [h2]
  simp [us, upA, upE]
theorem pB_Srv_d (C : Cs D ca cc nL own cx X) {index : Nat} {x : Int32} (hd : decode cc pc = .ok (.putfield index, 3)) (hw : Cond.fieldLink own index "RobotBus$Service" "d" "I" ∈ gtb) {i : Nat} (hi : i < 4) (kk : Zs l D ca SB b 182 R nL X (us σ 53 i 0 x) (pc + 3) L st) : Zs l D ca SB b 182 R nL X σ pc L (.int x :: .ref (b + (148 + i)) :: st) :=
  z_put C hd (fun w h => List.mem_cons_of_mem _ (in_Srv w h)) (T := F_Srv) (N := 4) (ci := 5) (ty := .int) tk_Srv n_Srv rfl 3 (by decide) (List.mem_cons_of_mem _ hw) rfl (by decide +kernel) rfl rfl (by omega) rfl (eB_Srv hi) (by simp) (z_map (uB_Srv_d hi x) kk)
theorem sB_Frm {i : Nat} (hi : i < 6) : ∃ c, SB[(152 + 5 * i)]? = some c ∧ (∀ (b : Nat) (ca : Nat → ClassId) (σ : Sg), rz b ca σ c = .inr (6, [.ref (b + (153 + 5 * i)), .ref (b + (154 + 5 * i)), .ref (b + (155 + 5 * i)), .ref (b + (156 + 5 * i)), .int (σ.1 60 i 0 0), .int (σ.1 61 i 0 0)])) ∧ ment (60, i, 0) c = true ∧ ment (61, i, 0) c = true := by
  have h9i : i = 0 ∨ i = 1 ∨ i = 2 ∨ i = 3 ∨ i = 4 ∨ i = 5 := by omega
  rcases h9i with rfl | rfl | rfl | rfl | rfl | rfl <;> exact ⟨_, rfl, fun _ _ _ => rfl, by decide, by decide⟩
theorem eB_Frm {i : Nat} (hi : i < 6) : enc b ca SB σ (152 + 5 * i) = .inr (6, [.ref (b + (153 + 5 * i)), .ref (b + (154 + 5 * i)), .ref (b + (155 + 5 * i)), .ref (b + (156 + 5 * i)), .int (σ.1 60 i 0 0), .int (σ.1 61 i 0 0)]) := by
  obtain ⟨c, h1, h2, -⟩ := sB_Frm hi
  rw [enc_at h1, h2]
theorem gB_Frm_times (C : Cs D ca cc nL own cx X) {index : Nat} (hd : decode cc pc = .ok (.getfield index, 3)) (hw : Cond.fieldLink own index "RobotBus$Frame" "times" "[I" ∈ gtb) {i : Nat} (hi : i < 6) (kk : Zs l D ca SB b 182 R nL X σ (pc + 3) L (.ref (b + (153 + 5 * i)) :: st)) : Zs l D ca SB b 182 R nL X σ pc L (.ref (b + (152 + 5 * i)) :: st) :=
  z_get C hd (fun w h => List.mem_cons_of_mem _ (in_Frm w h)) (T := F_Frm) (N := 6) (ci := 6) rfl 0 (by decide) (List.mem_cons_of_mem _ hw) (by omega) rfl (eB_Frm hi) rfl kk
theorem gB_Frm_xs (C : Cs D ca cc nL own cx X) {index : Nat} (hd : decode cc pc = .ok (.getfield index, 3)) (hw : Cond.fieldLink own index "RobotBus$Frame" "xs" "[I" ∈ gtb) {i : Nat} (hi : i < 6) (kk : Zs l D ca SB b 182 R nL X σ (pc + 3) L (.ref (b + (154 + 5 * i)) :: st)) : Zs l D ca SB b 182 R nL X σ pc L (.ref (b + (152 + 5 * i)) :: st) :=
  z_get C hd (fun w h => List.mem_cons_of_mem _ (in_Frm w h)) (T := F_Frm) (N := 6) (ci := 6) rfl 1 (by decide) (List.mem_cons_of_mem _ hw) (by omega) rfl (eB_Frm hi) rfl kk
theorem gB_Frm_ys (C : Cs D ca cc nL own cx X) {index : Nat} (hd : decode cc pc = .ok (.getfield index, 3)) (hw : Cond.fieldLink own index "RobotBus$Frame" "ys" "[I" ∈ gtb) {i : Nat} (hi : i < 6) (kk : Zs l D ca SB b 182 R nL X σ (pc + 3) L (.ref (b + (155 + 5 * i)) :: st)) : Zs l D ca SB b 182 R nL X σ pc L (.ref (b + (152 + 5 * i)) :: st) :=
  z_get C hd (fun w h => List.mem_cons_of_mem _ (in_Frm w h)) (T := F_Frm) (N := 6) (ci := 6) rfl 2 (by decide) (List.mem_cons_of_mem _ hw) (by omega) rfl (eB_Frm hi) rfl kk
theorem gB_Frm_turns (C : Cs D ca cc nL own cx X) {index : Nat} (hd : decode cc pc = .ok (.getfield index, 3)) (hw : Cond.fieldLink own index "RobotBus$Frame" "turns" "[I" ∈ gtb) {i : Nat} (hi : i < 6) (kk : Zs l D ca SB b 182 R nL X σ (pc + 3) L (.ref (b + (156 + 5 * i)) :: st)) : Zs l D ca SB b 182 R nL X σ pc L (.ref (b + (152 + 5 * i)) :: st) :=
  z_get C hd (fun w h => List.mem_cons_of_mem _ (in_Frm w h)) (T := F_Frm) (N := 6) (ci := 6) rfl 3 (by decide) (List.mem_cons_of_mem _ hw) (by omega) rfl (eB_Frm hi) rfl kk
theorem gB_Frm_parent (C : Cs D ca cc nL own cx X) {index : Nat} (hd : decode cc pc = .ok (.getfield index, 3)) (hw : Cond.fieldLink own index "RobotBus$Frame" "parent" "I" ∈ gtb) {i : Nat} (hi : i < 6) (kk : Zs l D ca SB b 182 R nL X σ (pc + 3) L (.int (σ.1 60 i 0 0) :: st)) : Zs l D ca SB b 182 R nL X σ pc L (.ref (b + (152 + 5 * i)) :: st) :=
  z_get C hd (fun w h => List.mem_cons_of_mem _ (in_Frm w h)) (T := F_Frm) (N := 6) (ci := 6) rfl 4 (by decide) (List.mem_cons_of_mem _ hw) (by omega) rfl (eB_Frm hi) rfl kk
theorem uB_Frm_parent {i : Nat} (hi : i < 6) (x : Int32) : va_up (enc b ca SB σ) (152 + 5 * i) (.inr (6, [.ref (b + (153 + 5 * i)), .ref (b + (154 + 5 * i)), .ref (b + (155 + 5 * i)), .ref (b + (156 + 5 * i)), .int x, .int (σ.1 61 i 0 0)])) = enc b ca SB (us σ 60 i 0 x) := by
  obtain ⟨c, h1, h2, m4, m5⟩ := sB_Frm hi
  refine enc_up SB_U h1 m4 offK_A ?_
  rw [h2]
  simp [us, upA, upE]
theorem pB_Frm_parent (C : Cs D ca cc nL own cx X) {index : Nat} {x : Int32} (hd : decode cc pc = .ok (.putfield index, 3)) (hw : Cond.fieldLink own index "RobotBus$Frame" "parent" "I" ∈ gtb) {i : Nat} (hi : i < 6) (kk : Zs l D ca SB b 182 R nL X (us σ 60 i 0 x) (pc + 3) L st) : Zs l D ca SB b 182 R nL X σ pc L (.int x :: .ref (b + (152 + 5 * i)) :: st) :=
  z_put C hd (fun w h => List.mem_cons_of_mem _ (in_Frm w h)) (T := F_Frm) (N := 6) (ci := 6) (ty := .int) tk_Frm n_Frm rfl 4 (by decide) (List.mem_cons_of_mem _ hw) rfl (by decide +kernel) rfl rfl (by omega) rfl (eB_Frm hi) (by simp) (z_map (uB_Frm_parent hi x) kk)
theorem gB_Frm_size (C : Cs D ca cc nL own cx X) {index : Nat} (hd : decode cc pc = .ok (.getfield index, 3)) (hw : Cond.fieldLink own index "RobotBus$Frame" "size" "I" ∈ gtb) {i : Nat} (hi : i < 6) (kk : Zs l D ca SB b 182 R nL X σ (pc + 3) L (.int (σ.1 61 i 0 0) :: st)) : Zs l D ca SB b 182 R nL X σ pc L (.ref (b + (152 + 5 * i)) :: st) :=
  z_get C hd (fun w h => List.mem_cons_of_mem _ (in_Frm w h)) (T := F_Frm) (N := 6) (ci := 6) rfl 5 (by decide) (List.mem_cons_of_mem _ hw) (by omega) rfl (eB_Frm hi) rfl kk
theorem uB_Frm_size {i : Nat} (hi : i < 6) (x : Int32) : va_up (enc b ca SB σ) (152 + 5 * i) (.inr (6, [.ref (b + (153 + 5 * i)), .ref (b + (154 + 5 * i)), .ref (b + (155 + 5 * i)), .ref (b + (156 + 5 * i)), .int (σ.1 60 i 0 0), .int x])) = enc b ca SB (us σ 61 i 0 x) := by
  obtain ⟨c, h1, h2, m4, m5⟩ := sB_Frm hi
  refine enc_up SB_U h1 m5 offK_A ?_
  rw [h2]
  simp [us, upA, upE]
theorem pB_Frm_size (C : Cs D ca cc nL own cx X) {index : Nat} {x : Int32} (hd : decode cc pc = .ok (.putfield index, 3)) (hw : Cond.fieldLink own index "RobotBus$Frame" "size" "I" ∈ gtb) {i : Nat} (hi : i < 6) (kk : Zs l D ca SB b 182 R nL X (us σ 61 i 0 x) (pc + 3) L st) : Zs l D ca SB b 182 R nL X σ pc L (.int x :: .ref (b + (152 + 5 * i)) :: st) :=
  z_put C hd (fun w h => List.mem_cons_of_mem _ (in_Frm w h)) (T := F_Frm) (N := 6) (ci := 6) (ty := .int) tk_Frm n_Frm rfl 5 (by decide) (List.mem_cons_of_mem _ hw) rfl (by decide +kernel) rfl rfl (by omega) rfl (eB_Frm hi) (by simp) (z_map (uB_Frm_size hi x) kk)
theorem sB_bagT  : ∃ c, SB[6]? = some c ∧ (∀ (b : Nat) (ca : Nat → ClassId) (σ : Sg), rz b ca σ c = .inl (ca 0, 30, .inl (σ.1 15 0 0))) ∧ ment (15, 0, 0) c = true := by
  exact ⟨_, rfl, fun _ _ _ => rfl, by decide⟩
theorem eB_bagT  : enc b ca SB σ 6 = .inl (ca 0, 30, .inl (σ.1 15 0 0)) := by
  obtain ⟨c, h1, h2, -⟩ := sB_bagT 
  rw [enc_at h1, h2]
theorem uB_bagT  (g : Nat → Int32) : va_up (enc b ca SB σ) 6 (.inl (ca 0, 30, .inl g)) = enc b ca SB (upA σ (15, 0, 0) g) := by
  obtain ⟨c, h1, h2, m1⟩ := sB_bagT 
  refine enc_up SB_U h1 m1 offK_A ?_
  rw [h2, upA_self]
theorem lB_bagT (C : Cs D ca cc nL own cx X) {x : Int32} {q : Nat} (hd : decode cc pc = .ok (.iaload, 1))  (hx : x = nI q) (hq : q < 30) (kk : Zs l D ca SB b 182 R nL X σ (pc + 1) L (.int (σ.1 15 0 0 q) :: st)) : Zs l D ca SB b 182 R nL X σ pc L (.int x :: .ref (b + 6) :: st) := by
  subst hx
  refine z_iald C hd 0 rfl (by omega) rfl (eB_bagT ) (vp_in_nI hq (by decide)) ?_
  rw [nI_clamp (by omega)]
  exact kk
theorem stB_bagT (C : Cs D ca cc nL own cx X) {x v : Int32} {q : Nat} (hd : decode cc pc = .ok (.iastore, 1))  (hx : x = nI q) (hq : q < 30) (kk : Zs l D ca SB b 182 R nL X (upA σ (15, 0, 0) (upd (σ.1 15 0 0) q v)) (pc + 1) L st) : Zs l D ca SB b 182 R nL X σ pc L (.int v :: .int x :: .ref (b + 6) :: st) := by
  subst hx
  refine z_iast C hd 0 rfl (by omega) rfl (eB_bagT ) (vp_in_nI hq (by decide)) ?_
  rw [nI_clamp (by omega)]
  exact z_map (uB_bagT  _) kk
theorem sB_bagO  : ∃ c, SB[7]? = some c ∧ (∀ (b : Nat) (ca : Nat → ClassId) (σ : Sg), rz b ca σ c = .inl (ca 0, 30, .inl (σ.1 16 0 0))) ∧ ment (16, 0, 0) c = true := by
  exact ⟨_, rfl, fun _ _ _ => rfl, by decide⟩
theorem eB_bagO  : enc b ca SB σ 7 = .inl (ca 0, 30, .inl (σ.1 16 0 0)) := by
  obtain ⟨c, h1, h2, -⟩ := sB_bagO 
  rw [enc_at h1, h2]
theorem uB_bagO  (g : Nat → Int32) : va_up (enc b ca SB σ) 7 (.inl (ca 0, 30, .inl g)) = enc b ca SB (upA σ (16, 0, 0) g) := by
  obtain ⟨c, h1, h2, m1⟩ := sB_bagO 
  refine enc_up SB_U h1 m1 offK_A ?_
  rw [h2, upA_self]
theorem lB_bagO (C : Cs D ca cc nL own cx X) {x : Int32} {q : Nat} (hd : decode cc pc = .ok (.iaload, 1))  (hx : x = nI q) (hq : q < 30) (kk : Zs l D ca SB b 182 R nL X σ (pc + 1) L (.int (σ.1 16 0 0 q) :: st)) : Zs l D ca SB b 182 R nL X σ pc L (.int x :: .ref (b + 7) :: st) := by
  subst hx
  refine z_iald C hd 0 rfl (by omega) rfl (eB_bagO ) (vp_in_nI hq (by decide)) ?_
  rw [nI_clamp (by omega)]
  exact kk
theorem stB_bagO (C : Cs D ca cc nL own cx X) {x v : Int32} {q : Nat} (hd : decode cc pc = .ok (.iastore, 1))  (hx : x = nI q) (hq : q < 30) (kk : Zs l D ca SB b 182 R nL X (upA σ (16, 0, 0) (upd (σ.1 16 0 0) q v)) (pc + 1) L st) : Zs l D ca SB b 182 R nL X σ pc L (.int v :: .int x :: .ref (b + 7) :: st) := by
  subst hx
  refine z_iast C hd 0 rfl (by omega) rfl (eB_bagO ) (vp_in_nI hq (by decide)) ?_
  rw [nI_clamp (by omega)]
  exact z_map (uB_bagO  _) kk
theorem sB_bagV  : ∃ c, SB[8]? = some c ∧ (∀ (b : Nat) (ca : Nat → ClassId) (σ : Sg), rz b ca σ c = .inl (ca 0, 30, .inl (σ.1 17 0 0))) ∧ ment (17, 0, 0) c = true := by
  exact ⟨_, rfl, fun _ _ _ => rfl, by decide⟩
theorem eB_bagV  : enc b ca SB σ 8 = .inl (ca 0, 30, .inl (σ.1 17 0 0)) := by
  obtain ⟨c, h1, h2, -⟩ := sB_bagV 
  rw [enc_at h1, h2]
theorem uB_bagV  (g : Nat → Int32) : va_up (enc b ca SB σ) 8 (.inl (ca 0, 30, .inl g)) = enc b ca SB (upA σ (17, 0, 0) g) := by
  obtain ⟨c, h1, h2, m1⟩ := sB_bagV 
  refine enc_up SB_U h1 m1 offK_A ?_
  rw [h2, upA_self]
theorem lB_bagV (C : Cs D ca cc nL own cx X) {x : Int32} {q : Nat} (hd : decode cc pc = .ok (.iaload, 1))  (hx : x = nI q) (hq : q < 30) (kk : Zs l D ca SB b 182 R nL X σ (pc + 1) L (.int (σ.1 17 0 0 q) :: st)) : Zs l D ca SB b 182 R nL X σ pc L (.int x :: .ref (b + 8) :: st) := by
  subst hx
  refine z_iald C hd 0 rfl (by omega) rfl (eB_bagV ) (vp_in_nI hq (by decide)) ?_
  rw [nI_clamp (by omega)]
  exact kk
theorem stB_bagV (C : Cs D ca cc nL own cx X) {x v : Int32} {q : Nat} (hd : decode cc pc = .ok (.iastore, 1))  (hx : x = nI q) (hq : q < 30) (kk : Zs l D ca SB b 182 R nL X (upA σ (17, 0, 0) (upd (σ.1 17 0 0) q v)) (pc + 1) L st) : Zs l D ca SB b 182 R nL X σ pc L (.int v :: .int x :: .ref (b + 8) :: st) := by
  subst hx
  refine z_iast C hd 0 rfl (by omega) rfl (eB_bagV ) (vp_in_nI hq (by decide)) ?_
  rw [nI_clamp (by omega)]
  exact z_map (uB_bagV  _) kk
theorem sB_vars {i : Nat} (hi : i < 6) : ∃ c, SB[(11 + 22 * i)]? = some c ∧ (∀ (b : Nat) (ca : Nat → ClassId) (σ : Sg), rz b ca σ c = .inl (ca 0, 4, .inl (σ.1 32 i 0))) ∧ ment (32, i, 0) c = true := by
  have h9i : i = 0 ∨ i = 1 ∨ i = 2 ∨ i = 3 ∨ i = 4 ∨ i = 5 := by omega
  rcases h9i with rfl | rfl | rfl | rfl | rfl | rfl <;> exact ⟨_, rfl, fun _ _ _ => rfl, by decide⟩
theorem eB_vars {i : Nat} (hi : i < 6) : enc b ca SB σ (11 + 22 * i) = .inl (ca 0, 4, .inl (σ.1 32 i 0)) := by
  obtain ⟨c, h1, h2, -⟩ := sB_vars hi
  rw [enc_at h1, h2]
theorem uB_vars {i : Nat} (hi : i < 6) (g : Nat → Int32) : va_up (enc b ca SB σ) (11 + 22 * i) (.inl (ca 0, 4, .inl g)) = enc b ca SB (upA σ (32, i, 0) g) := by
  obtain ⟨c, h1, h2, m1⟩ := sB_vars hi
  refine enc_up SB_U h1 m1 offK_A ?_
  rw [h2, upA_self]
theorem lB_vars (C : Cs D ca cc nL own cx X) {x : Int32} {q : Nat} (hd : decode cc pc = .ok (.iaload, 1)) {i : Nat} (hi : i < 6) (hx : x = nI q) (hq : q < 4) (kk : Zs l D ca SB b 182 R nL X σ (pc + 1) L (.int (σ.1 32 i 0 q) :: st)) : Zs l D ca SB b 182 R nL X σ pc L (.int x :: .ref (b + (11 + 22 * i)) :: st) := by
  subst hx
  refine z_iald C hd 0 rfl (by omega) rfl (eB_vars hi) (vp_in_nI hq (by decide)) ?_
  rw [nI_clamp (by omega)]
  exact kk
theorem stB_vars (C : Cs D ca cc nL own cx X) {x v : Int32} {q : Nat} (hd : decode cc pc = .ok (.iastore, 1)) {i : Nat} (hi : i < 6) (hx : x = nI q) (hq : q < 4) (kk : Zs l D ca SB b 182 R nL X (upA σ (32, i, 0) (upd (σ.1 32 i 0) q v)) (pc + 1) L st) : Zs l D ca SB b 182 R nL X σ pc L (.int v :: .int x :: .ref (b + (11 + 22 * i)) :: st) := by
  subst hx
  refine z_iast C hd 0 rfl (by omega) rfl (eB_vars hi) (vp_in_nI hq (by decide)) ?_
  rw [nI_clamp (by omega)]
  exact z_map (uB_vars hi _) kk
theorem sB_cell {i : Nat} (hi : i < 6) {t : Nat} (ht : t < 6) : ∃ c, SB[(15 + 22 * i + 3 * t)]? = some c ∧ (∀ (b : Nat) (ca : Nat → ClassId) (σ : Sg), rz b ca σ c = .inl (ca 0, 12, .inl (σ.1 35 i t))) ∧ ment (35, i, t) c = true := by
  have h9i : i = 0 ∨ i = 1 ∨ i = 2 ∨ i = 3 ∨ i = 4 ∨ i = 5 := by omega
  have h9t : t = 0 ∨ t = 1 ∨ t = 2 ∨ t = 3 ∨ t = 4 ∨ t = 5 := by omega
  rcases h9i with rfl | rfl | rfl | rfl | rfl | rfl <;> rcases h9t with rfl | rfl | rfl | rfl | rfl | rfl <;> exact ⟨_, rfl, fun _ _ _ => rfl, by decide⟩
theorem eB_cell {i : Nat} (hi : i < 6) {t : Nat} (ht : t < 6) : enc b ca SB σ (15 + 22 * i + 3 * t) = .inl (ca 0, 12, .inl (σ.1 35 i t)) := by
  obtain ⟨c, h1, h2, -⟩ := sB_cell hi ht
  rw [enc_at h1, h2]
theorem uB_cell {i : Nat} (hi : i < 6) {t : Nat} (ht : t < 6) (g : Nat → Int32) : va_up (enc b ca SB σ) (15 + 22 * i + 3 * t) (.inl (ca 0, 12, .inl g)) = enc b ca SB (upA σ (35, i, t) g) := by
  obtain ⟨c, h1, h2, m1⟩ := sB_cell hi ht
  refine enc_up SB_U h1 m1 offK_A ?_
  rw [h2, upA_self]
theorem lB_cell (C : Cs D ca cc nL own cx X) {x : Int32} {q : Nat} (hd : decode cc pc = .ok (.iaload, 1)) {i : Nat} (hi : i < 6) {t : Nat} (ht : t < 6) (hx : x = nI q) (hq : q < 12) (kk : Zs l D ca SB b 182 R nL X σ (pc + 1) L (.int (σ.1 35 i t q) :: st)) : Zs l D ca SB b 182 R nL X σ pc L (.int x :: .ref (b + (15 + 22 * i + 3 * t)) :: st) := by
  subst hx
  refine z_iald C hd 0 rfl (by omega) rfl (eB_cell hi ht) (vp_in_nI hq (by decide)) ?_
  rw [nI_clamp (by omega)]
  exact kk
theorem stB_cell (C : Cs D ca cc nL own cx X) {x v : Int32} {q : Nat} (hd : decode cc pc = .ok (.iastore, 1)) {i : Nat} (hi : i < 6) {t : Nat} (ht : t < 6) (hx : x = nI q) (hq : q < 12) (kk : Zs l D ca SB b 182 R nL X (upA σ (35, i, t) (upd (σ.1 35 i t) q v)) (pc + 1) L st) : Zs l D ca SB b 182 R nL X σ pc L (.int v :: .int x :: .ref (b + (15 + 22 * i + 3 * t)) :: st) := by
  subst hx
  refine z_iast C hd 0 rfl (by omega) rfl (eB_cell hi ht) (vp_in_nI hq (by decide)) ?_
  rw [nI_clamp (by omega)]
  exact z_map (uB_cell hi ht _) kk
theorem sB_frT {i : Nat} (hi : i < 6) : ∃ c, SB[(153 + 5 * i)]? = some c ∧ (∀ (b : Nat) (ca : Nat → ClassId) (σ : Sg), rz b ca σ c = .inl (ca 0, 4, .inl (σ.1 62 i 0))) ∧ ment (62, i, 0) c = true := by
  have h9i : i = 0 ∨ i = 1 ∨ i = 2 ∨ i = 3 ∨ i = 4 ∨ i = 5 := by omega
  rcases h9i with rfl | rfl | rfl | rfl | rfl | rfl <;> exact ⟨_, rfl, fun _ _ _ => rfl, by decide⟩
theorem eB_frT {i : Nat} (hi : i < 6) : enc b ca SB σ (153 + 5 * i) = .inl (ca 0, 4, .inl (σ.1 62 i 0)) := by
  obtain ⟨c, h1, h2, -⟩ := sB_frT hi
  rw [enc_at h1, h2]
theorem uB_frT {i : Nat} (hi : i < 6) (g : Nat → Int32) : va_up (enc b ca SB σ) (153 + 5 * i) (.inl (ca 0, 4, .inl g)) = enc b ca SB (upA σ (62, i, 0) g) := by
  obtain ⟨c, h1, h2, m1⟩ := sB_frT hi
  refine enc_up SB_U h1 m1 offK_A ?_
  rw [h2, upA_self]
theorem lB_frT (C : Cs D ca cc nL own cx X) {x : Int32} {q : Nat} (hd : decode cc pc = .ok (.iaload, 1)) {i : Nat} (hi : i < 6) (hx : x = nI q) (hq : q < 4) (kk : Zs l D ca SB b 182 R nL X σ (pc + 1) L (.int (σ.1 62 i 0 q) :: st)) : Zs l D ca SB b 182 R nL X σ pc L (.int x :: .ref (b + (153 + 5 * i)) :: st) := by
  subst hx
  refine z_iald C hd 0 rfl (by omega) rfl (eB_frT hi) (vp_in_nI hq (by decide)) ?_
  rw [nI_clamp (by omega)]
  exact kk
theorem stB_frT (C : Cs D ca cc nL own cx X) {x v : Int32} {q : Nat} (hd : decode cc pc = .ok (.iastore, 1)) {i : Nat} (hi : i < 6) (hx : x = nI q) (hq : q < 4) (kk : Zs l D ca SB b 182 R nL X (upA σ (62, i, 0) (upd (σ.1 62 i 0) q v)) (pc + 1) L st) : Zs l D ca SB b 182 R nL X σ pc L (.int v :: .int x :: .ref (b + (153 + 5 * i)) :: st) := by
  subst hx
  refine z_iast C hd 0 rfl (by omega) rfl (eB_frT hi) (vp_in_nI hq (by decide)) ?_
  rw [nI_clamp (by omega)]
  exact z_map (uB_frT hi _) kk
theorem sB_frX {i : Nat} (hi : i < 6) : ∃ c, SB[(154 + 5 * i)]? = some c ∧ (∀ (b : Nat) (ca : Nat → ClassId) (σ : Sg), rz b ca σ c = .inl (ca 0, 4, .inl (σ.1 63 i 0))) ∧ ment (63, i, 0) c = true := by
  have h9i : i = 0 ∨ i = 1 ∨ i = 2 ∨ i = 3 ∨ i = 4 ∨ i = 5 := by omega
  rcases h9i with rfl | rfl | rfl | rfl | rfl | rfl <;> exact ⟨_, rfl, fun _ _ _ => rfl, by decide⟩
theorem eB_frX {i : Nat} (hi : i < 6) : enc b ca SB σ (154 + 5 * i) = .inl (ca 0, 4, .inl (σ.1 63 i 0)) := by
  obtain ⟨c, h1, h2, -⟩ := sB_frX hi
  rw [enc_at h1, h2]
theorem uB_frX {i : Nat} (hi : i < 6) (g : Nat → Int32) : va_up (enc b ca SB σ) (154 + 5 * i) (.inl (ca 0, 4, .inl g)) = enc b ca SB (upA σ (63, i, 0) g) := by
  obtain ⟨c, h1, h2, m1⟩ := sB_frX hi
  refine enc_up SB_U h1 m1 offK_A ?_
  rw [h2, upA_self]
theorem lB_frX (C : Cs D ca cc nL own cx X) {x : Int32} {q : Nat} (hd : decode cc pc = .ok (.iaload, 1)) {i : Nat} (hi : i < 6) (hx : x = nI q) (hq : q < 4) (kk : Zs l D ca SB b 182 R nL X σ (pc + 1) L (.int (σ.1 63 i 0 q) :: st)) : Zs l D ca SB b 182 R nL X σ pc L (.int x :: .ref (b + (154 + 5 * i)) :: st) := by
  subst hx
  refine z_iald C hd 0 rfl (by omega) rfl (eB_frX hi) (vp_in_nI hq (by decide)) ?_
  rw [nI_clamp (by omega)]
  exact kk
theorem stB_frX (C : Cs D ca cc nL own cx X) {x v : Int32} {q : Nat} (hd : decode cc pc = .ok (.iastore, 1)) {i : Nat} (hi : i < 6) (hx : x = nI q) (hq : q < 4) (kk : Zs l D ca SB b 182 R nL X (upA σ (63, i, 0) (upd (σ.1 63 i 0) q v)) (pc + 1) L st) : Zs l D ca SB b 182 R nL X σ pc L (.int v :: .int x :: .ref (b + (154 + 5 * i)) :: st) := by
  subst hx
  refine z_iast C hd 0 rfl (by omega) rfl (eB_frX hi) (vp_in_nI hq (by decide)) ?_
  rw [nI_clamp (by omega)]
  exact z_map (uB_frX hi _) kk
theorem sB_frY {i : Nat} (hi : i < 6) : ∃ c, SB[(155 + 5 * i)]? = some c ∧ (∀ (b : Nat) (ca : Nat → ClassId) (σ : Sg), rz b ca σ c = .inl (ca 0, 4, .inl (σ.1 64 i 0))) ∧ ment (64, i, 0) c = true := by
  have h9i : i = 0 ∨ i = 1 ∨ i = 2 ∨ i = 3 ∨ i = 4 ∨ i = 5 := by omega
  rcases h9i with rfl | rfl | rfl | rfl | rfl | rfl <;> exact ⟨_, rfl, fun _ _ _ => rfl, by decide⟩
theorem eB_frY {i : Nat} (hi : i < 6) : enc b ca SB σ (155 + 5 * i) = .inl (ca 0, 4, .inl (σ.1 64 i 0)) := by
  obtain ⟨c, h1, h2, -⟩ := sB_frY hi
  rw [enc_at h1, h2]
theorem uB_frY {i : Nat} (hi : i < 6) (g : Nat → Int32) : va_up (enc b ca SB σ) (155 + 5 * i) (.inl (ca 0, 4, .inl g)) = enc b ca SB (upA σ (64, i, 0) g) := by
  obtain ⟨c, h1, h2, m1⟩ := sB_frY hi
  refine enc_up SB_U h1 m1 offK_A ?_
  rw [h2, upA_self]
theorem lB_frY (C : Cs D ca cc nL own cx X) {x : Int32} {q : Nat} (hd : decode cc pc = .ok (.iaload, 1)) {i : Nat} (hi : i < 6) (hx : x = nI q) (hq : q < 4) (kk : Zs l D ca SB b 182 R nL X σ (pc + 1) L (.int (σ.1 64 i 0 q) :: st)) : Zs l D ca SB b 182 R nL X σ pc L (.int x :: .ref (b + (155 + 5 * i)) :: st) := by
  subst hx
  refine z_iald C hd 0 rfl (by omega) rfl (eB_frY hi) (vp_in_nI hq (by decide)) ?_
  rw [nI_clamp (by omega)]
  exact kk
theorem stB_frY (C : Cs D ca cc nL own cx X) {x v : Int32} {q : Nat} (hd : decode cc pc = .ok (.iastore, 1)) {i : Nat} (hi : i < 6) (hx : x = nI q) (hq : q < 4) (kk : Zs l D ca SB b 182 R nL X (upA σ (64, i, 0) (upd (σ.1 64 i 0) q v)) (pc + 1) L st) : Zs l D ca SB b 182 R nL X σ pc L (.int v :: .int x :: .ref (b + (155 + 5 * i)) :: st) := by
  subst hx
  refine z_iast C hd 0 rfl (by omega) rfl (eB_frY hi) (vp_in_nI hq (by decide)) ?_
  rw [nI_clamp (by omega)]
  exact z_map (uB_frY hi _) kk
theorem sB_frU {i : Nat} (hi : i < 6) : ∃ c, SB[(156 + 5 * i)]? = some c ∧ (∀ (b : Nat) (ca : Nat → ClassId) (σ : Sg), rz b ca σ c = .inl (ca 0, 4, .inl (σ.1 65 i 0))) ∧ ment (65, i, 0) c = true := by
  have h9i : i = 0 ∨ i = 1 ∨ i = 2 ∨ i = 3 ∨ i = 4 ∨ i = 5 := by omega
  rcases h9i with rfl | rfl | rfl | rfl | rfl | rfl <;> exact ⟨_, rfl, fun _ _ _ => rfl, by decide⟩
theorem eB_frU {i : Nat} (hi : i < 6) : enc b ca SB σ (156 + 5 * i) = .inl (ca 0, 4, .inl (σ.1 65 i 0)) := by
  obtain ⟨c, h1, h2, -⟩ := sB_frU hi
  rw [enc_at h1, h2]
theorem uB_frU {i : Nat} (hi : i < 6) (g : Nat → Int32) : va_up (enc b ca SB σ) (156 + 5 * i) (.inl (ca 0, 4, .inl g)) = enc b ca SB (upA σ (65, i, 0) g) := by
  obtain ⟨c, h1, h2, m1⟩ := sB_frU hi
  refine enc_up SB_U h1 m1 offK_A ?_
  rw [h2, upA_self]
theorem lB_frU (C : Cs D ca cc nL own cx X) {x : Int32} {q : Nat} (hd : decode cc pc = .ok (.iaload, 1)) {i : Nat} (hi : i < 6) (hx : x = nI q) (hq : q < 4) (kk : Zs l D ca SB b 182 R nL X σ (pc + 1) L (.int (σ.1 65 i 0 q) :: st)) : Zs l D ca SB b 182 R nL X σ pc L (.int x :: .ref (b + (156 + 5 * i)) :: st) := by
  subst hx
  refine z_iald C hd 0 rfl (by omega) rfl (eB_frU hi) (vp_in_nI hq (by decide)) ?_
  rw [nI_clamp (by omega)]
  exact kk
theorem stB_frU (C : Cs D ca cc nL own cx X) {x v : Int32} {q : Nat} (hd : decode cc pc = .ok (.iastore, 1)) {i : Nat} (hi : i < 6) (hx : x = nI q) (hq : q < 4) (kk : Zs l D ca SB b 182 R nL X (upA σ (65, i, 0) (upd (σ.1 65 i 0) q v)) (pc + 1) L st) : Zs l D ca SB b 182 R nL X σ pc L (.int v :: .int x :: .ref (b + (156 + 5 * i)) :: st) := by
  subst hx
  refine z_iast C hd 0 rfl (by omega) rfl (eB_frU hi) (vp_in_nI hq (by decide)) ?_
  rw [nI_clamp (by omega)]
  exact z_map (uB_frU hi _) kk
theorem sB_nods  : ∃ f : Nat → Option Nat, enc b ca SB σ 1 = .inl (ca 1, 6, .inr (.inr (.inr (.inr f)))) ∧ ∀ j, j < 6 → f j = some (b + (10 + 22 * j)) := by
  exact ⟨_, rfl, fun j hj => by (have h9j : j = 0 ∨ j = 1 ∨ j = 2 ∨ j = 3 ∨ j = 4 ∨ j = 5 := by omega); rcases h9j with rfl | rfl | rfl | rfl | rfl | rfl <;> rfl⟩
theorem rB_nods (C : Cs D ca cc nL own cx X) {x : Int32} {j : Nat} (hd : decode cc pc = .ok (.aaload, 1))  (hx : x = nI j) (hj : j < 6) (kk : Zs l D ca SB b 182 R nL X σ (pc + 1) L (.ref (b + (10 + 22 * j)) :: st)) : Zs l D ca SB b 182 R nL X σ pc L (.int x :: .ref (b + 1) :: st) := by
  subst hx
  obtain ⟨f, h1, h2⟩ := sB_nods (b := b) (ca := ca) (σ := σ) 
  exact z_aald C hd 1 rfl (by omega) rfl h1 (vp_in_nI hj (by decide)) (by rw [nI_clamp (by omega)]; exact h2 j hj) kk
theorem sB_tops  : ∃ f : Nat → Option Nat, enc b ca SB σ 2 = .inl (ca 2, 6, .inr (.inr (.inr (.inr f)))) ∧ ∀ j, j < 6 → f j = some (b + (142 + j)) := by
  exact ⟨_, rfl, fun j hj => by (have h9j : j = 0 ∨ j = 1 ∨ j = 2 ∨ j = 3 ∨ j = 4 ∨ j = 5 := by omega); rcases h9j with rfl | rfl | rfl | rfl | rfl | rfl <;> rfl⟩
theorem rB_tops (C : Cs D ca cc nL own cx X) {x : Int32} {j : Nat} (hd : decode cc pc = .ok (.aaload, 1))  (hx : x = nI j) (hj : j < 6) (kk : Zs l D ca SB b 182 R nL X σ (pc + 1) L (.ref (b + (142 + j)) :: st)) : Zs l D ca SB b 182 R nL X σ pc L (.int x :: .ref (b + 2) :: st) := by
  subst hx
  obtain ⟨f, h1, h2⟩ := sB_tops (b := b) (ca := ca) (σ := σ) 
  exact z_aald C hd 2 rfl (by omega) rfl h1 (vp_in_nI hj (by decide)) (by rw [nI_clamp (by omega)]; exact h2 j hj) kk
theorem sB_srvs  : ∃ f : Nat → Option Nat, enc b ca SB σ 3 = .inl (ca 3, 4, .inr (.inr (.inr (.inr f)))) ∧ ∀ j, j < 4 → f j = some (b + (148 + j)) := by
  exact ⟨_, rfl, fun j hj => by (have h9j : j = 0 ∨ j = 1 ∨ j = 2 ∨ j = 3 := by omega); rcases h9j with rfl | rfl | rfl | rfl <;> rfl⟩
theorem rB_srvs (C : Cs D ca cc nL own cx X) {x : Int32} {j : Nat} (hd : decode cc pc = .ok (.aaload, 1))  (hx : x = nI j) (hj : j < 4) (kk : Zs l D ca SB b 182 R nL X σ (pc + 1) L (.ref (b + (148 + j)) :: st)) : Zs l D ca SB b 182 R nL X σ pc L (.int x :: .ref (b + 3) :: st) := by
  subst hx
  obtain ⟨f, h1, h2⟩ := sB_srvs (b := b) (ca := ca) (σ := σ) 
  exact z_aald C hd 3 rfl (by omega) rfl h1 (vp_in_nI hj (by decide)) (by rw [nI_clamp (by omega)]; exact h2 j hj) kk
theorem sB_frms  : ∃ f : Nat → Option Nat, enc b ca SB σ 4 = .inl (ca 4, 6, .inr (.inr (.inr (.inr f)))) ∧ ∀ j, j < 6 → f j = some (b + (152 + 5 * j)) := by
  exact ⟨_, rfl, fun j hj => by (have h9j : j = 0 ∨ j = 1 ∨ j = 2 ∨ j = 3 ∨ j = 4 ∨ j = 5 := by omega); rcases h9j with rfl | rfl | rfl | rfl | rfl | rfl <;> rfl⟩
theorem rB_frms (C : Cs D ca cc nL own cx X) {x : Int32} {j : Nat} (hd : decode cc pc = .ok (.aaload, 1))  (hx : x = nI j) (hj : j < 6) (kk : Zs l D ca SB b 182 R nL X σ (pc + 1) L (.ref (b + (152 + 5 * j)) :: st)) : Zs l D ca SB b 182 R nL X σ pc L (.int x :: .ref (b + 4) :: st) := by
  subst hx
  obtain ⟨f, h1, h2⟩ := sB_frms (b := b) (ca := ca) (σ := σ) 
  exact z_aald C hd 4 rfl (by omega) rfl h1 (vp_in_nI hj (by decide)) (by rw [nI_clamp (by omega)]; exact h2 j hj) kk
theorem sB_ques {i : Nat} (hi : i < 6) : ∃ f : Nat → Option Nat, enc b ca SB σ (12 + 22 * i) = .inl (ca 5, 6, .inr (.inr (.inr (.inr f)))) ∧ ∀ j, j < 6 → f j = some (b + (14 + 22 * i + 3 * j)) := by
  have h9i : i = 0 ∨ i = 1 ∨ i = 2 ∨ i = 3 ∨ i = 4 ∨ i = 5 := by omega
  rcases h9i with rfl | rfl | rfl | rfl | rfl | rfl <;> exact ⟨_, rfl, fun j hj => by (have h9j : j = 0 ∨ j = 1 ∨ j = 2 ∨ j = 3 ∨ j = 4 ∨ j = 5 := by omega); rcases h9j with rfl | rfl | rfl | rfl | rfl | rfl <;> rfl⟩
theorem rB_ques (C : Cs D ca cc nL own cx X) {x : Int32} {j : Nat} (hd : decode cc pc = .ok (.aaload, 1)) {i : Nat} (hi : i < 6) (hx : x = nI j) (hj : j < 6) (kk : Zs l D ca SB b 182 R nL X σ (pc + 1) L (.ref (b + (14 + 22 * i + 3 * j)) :: st)) : Zs l D ca SB b 182 R nL X σ pc L (.int x :: .ref (b + (12 + 22 * i)) :: st) := by
  subst hx
  obtain ⟨f, h1, h2⟩ := sB_ques (b := b) (ca := ca) (σ := σ) hi
  exact z_aald C hd 5 rfl (by omega) rfl h1 (vp_in_nI hj (by decide)) (by rw [nI_clamp (by omega)]; exact h2 j hj) kk
theorem sB_acts {i : Nat} (hi : i < 6) : ∃ f : Nat → Option Nat, enc b ca SB σ (13 + 22 * i) = .inl (ca 6, 6, .inr (.inr (.inr (.inr f)))) ∧ ∀ j, j < 6 → f j = some (b + (16 + 22 * i + 3 * j)) := by
  have h9i : i = 0 ∨ i = 1 ∨ i = 2 ∨ i = 3 ∨ i = 4 ∨ i = 5 := by omega
  rcases h9i with rfl | rfl | rfl | rfl | rfl | rfl <;> exact ⟨_, rfl, fun j hj => by (have h9j : j = 0 ∨ j = 1 ∨ j = 2 ∨ j = 3 ∨ j = 4 ∨ j = 5 := by omega); rcases h9j with rfl | rfl | rfl | rfl | rfl | rfl <;> rfl⟩
theorem rB_acts (C : Cs D ca cc nL own cx X) {x : Int32} {j : Nat} (hd : decode cc pc = .ok (.aaload, 1)) {i : Nat} (hi : i < 6) (hx : x = nI j) (hj : j < 6) (kk : Zs l D ca SB b 182 R nL X σ (pc + 1) L (.ref (b + (16 + 22 * i + 3 * j)) :: st)) : Zs l D ca SB b 182 R nL X σ pc L (.int x :: .ref (b + (13 + 22 * i)) :: st) := by
  subst hx
  obtain ⟨f, h1, h2⟩ := sB_acts (b := b) (ca := ca) (σ := σ) hi
  exact z_aald C hd 6 rfl (by omega) rfl h1 (vp_in_nI hj (by decide)) (by rw [nI_clamp (by omega)]; exact h2 j hj) kk
end BUSROWS
end
section
/-! More rows: another text for the top of the stack; copies of ints; the greater of two. And the shape of each method's descriptor. -/
section MORE
variable {l : Launch} {D : va_G} {cl : List vw_C} {tys : List (ClassId × FieldType)} {b n : Nat} {R : Room} {nL : Nat} {X : Zx} {k sl : Nat} {M : Nat → va_E} {pc : Nat} {L : List (Nat × Value)} {st : List Value} {cc : ByteArray} {own : String} {Ts : List Cond}
theorem z_ri {x x' : Int32} (h : x = x') (kk : Z l D cl b n R nL X k sl M pc L (.int x' :: st)) : Z l D cl b n R nL X k sl M pc L (.int x :: st) := by rw [h]; exact kk
theorem z_ri2 {v : Value} {x x' : Int32} (h : x = x') (kk : Z l D cl b n R nL X k sl M pc L (v :: .int x' :: st)) : Z l D cl b n R nL X k sl M pc L (v :: .int x :: st) := by rw [h]; exact kk
theorem z_copyi (C : Cx D cl tys cc nL own Ts X) {index : Nat} (hd : decode cc pc = .ok (.invokestatic index, 3)) (hw : Cond.methodLink own index arraycopyName ∈ Ts) (hnat : Cond.native arraycopyName ∈ Ts) (hstat : Cond.static arraycopyName ∈ Ts) (hini : Cond.initialized "java/lang/System" ∈ Ts)
    {cA : ClassId} {N a o : Nat} {f : Nat → Int32} (t0 : Nat) (ht : tys[t0]? = some (cA, .int)) (ho : o < n) (ha : b + o = a) (hM : M o = .inl (cA, N, .inl f)) (hN : N < 2 ^ 31) {sp dp m : Int32} {s0 d0 m0 : Nat} (h1 : sp = nI s0) (h2 : dp = nI d0) (h3 : m = nI m0) (h4 : s0 + m0 ≤ N) (h5 : d0 + m0 ≤ N)
    (hf : 1 ≤ R.frames) (hl0 : (st.map fun v => v.category).sum + 18 ≤ R.locals) (kk : Z l D cl b n R nL X k sl (va_up M o (.inl (cA, N, .inl (va_cpy f f s0 d0 m0)))) (pc + 3) L st) : Z l D cl b n R nL X k sl M pc L (.int m :: .int dp :: .ref a :: .int sp :: .ref a :: st) := by
  obtain ⟨p, e, s, mm, args, below, meth, c, Q⟩ := X
  obtain ⟨hx, hb, hml, hown, hts, hK⟩ := C
  subst h1; subst h2; subst h3
  have c1 : (nI s0).toNatClampNeg = s0 := nI_clamp (by omega)
  have c2 : (nI d0).toNatClampNeg = d0 := nI_clamp (by omega)
  have c3 : (nI m0).toNatClampNeg = m0 := nI_clamp (by omega)
  intro H locs ls hP hS hl
  refine va_copyi hx hb (by rw [hml]; exact hl.1.symm) hown (hts _ hw) (hts _ hnat) (hts _ hstat) (hts _ hini) hK hP mA_D hS o o t0 t0 (mw_at ho ha hM) (mw_at ho ha hM) ht ht rfl (nI_pos (by omega)) (nI_pos (by omega)) (nI_pos (by omega)) (by rw [c1, c3]; exact h4) (by rw [c2, c3]; exact h5) (fun _ _ => rfl) hf (by
    have h9 : nativeFrameWords "java/lang/System" "arraycopy" 5 + 11 = 18 := by decide
    rw [h9]; exact hl0) hd (fun H1 locs1 hP1 _ hS1 => ?_)
  rw [mw_setA ho ha, c1, c2, c3] at hP1
  exact kk H1 locs1 ls hP1 hS1 hl
theorem z_max (C : Cx D cl tys cc nL own Ts X) {index : Nat} (hd : decode cc pc = .ok (.invokestatic index, 3)) (hw : Cond.methodLink own index Lib.Math.max.name ∈ Ts) (hstat : Cond.static Lib.Math.max.name ∈ Ts) (hini : Cond.initialized "java/lang/Math" ∈ Ts) (hcode : Cond.code Lib.Math.max.name Lib.Math.max.code 2 (some .int) ∈ Ts)
    (hf : 1 ≤ R.frames) (hl0 : (st.map fun v => v.category).sum + 13 ≤ R.locals) (hc : k ≤ R.cells) (hs : sl ≤ R.slots) {x y : Int32} (kk : Z l D cl b n R nL X k sl M (pc + 3) L (.int (if x < y then y else x) :: st)) : Z l D cl b n R nL X k sl M pc L (.int y :: .int x :: st) := by
  obtain ⟨p, e, s, mm, args, below, meth, c, Q⟩ := X
  obtain ⟨hx, hb, hml, hown, hts, hK⟩ := C
  exact fun H locs ls hP hS hl => va_mmax hx hb (by rw [hml]; exact hl.1.symm) hown (hts _ hw) (hts _ hstat) (hts _ hini) (hts _ hcode) hf hl0 hc hs hd (kk H locs ls hP hS hl)
end MORE
theorem upA_upA {σ : Sg} {v : Ky} {g h : Nat → Int32} : upA (upA σ v g) v h = upA σ v h := by
  unfold upA
  refine Prod.ext ?_ rfl
  funext f i t
  by_cases q : f = v.1 ∧ i = v.2.1 ∧ t = v.2.2
  · simp [q]
  · simp [q]
theorem us_us {σ : Sg} {f i t : Nat} {x y : Int32} : us (us σ f i t x) f i t y = us σ f i t y := upA_upA
section ZF
variable {l : Launch} {D : va_G} {ca : Nat → ClassId} {S : List Cee} {b n : Nat} {R : Room} {nL : Nat} {X : Zx} {σ σ0 : Sg} {pc : Nat} {L : List (Nat × Value)} {st : List Value} {cc : ByteArray} {own : String} {y0 : MethodName} {c0 : ByteArray} {n0 : Nat} {r0 : Option FieldType} {v0 : Int32}
variable {y : MethodName} {bytes : ByteArray} {maxL index a o ci N : Nat} {ret : Option FieldType} {rm : Room} {As fs : List Value} {C0 : String} {T : u_T}
theorem zf_Vi (C : Cs D ca cc nL own (Cond.code y0 c0 n0 r0) X) (hd : decode cc pc = .ok (.invokevirtual index, 3)) (hM : CtI l D ca S b n y (Cond.code y bytes maxL ret :: gtb) rm σ (.ref a :: As) (fun r σ' => r = v0 ∧ σ' = σ0))
    (h1 : Cond.methodLink own index y ∈ gtb) (h2 : Cond.instanceMethod y ∈ gtb) (h3 : Cond.selects C0 y y ∈ gtb) (h4 : Cond.initialized C0 ∈ gtb) (h5 : Cond.code y bytes maxL ret ∈ gtb)
    (hds : y.cls = C0 ∧ y.cls ≠ "java/lang/invoke/MethodHandle" ∧ y.cls ≠ "java/lang/invoke/VarHandle" ∧ (parseMethodDescriptor y.desc).map (fun d => d.parameters.length) = some As.length)
    (hR : (rm.frames + 1 ≤ R.frames ∧ 8 + (maxL + 11) + rm.locals ≤ R.locals) ∧ rm.cells = 0 ∧ rm.slots = 0 ∧ 0 ≤ R.cells ∧ 0 ≤ R.slots) (ho : o < n) (ha : b + o = a) (hMo : enc b ca S σ o = .inr (ci, fs)) (hc : clsB[ci]? = some (C0, T, N)) (hst : (st.map fun v => v.category).sum ≤ 8) {st0 : List Value} (hs0 : st0 = As.reverse ++ .ref a :: st)
    (kk : Zs l D ca S b n R nL X σ0 (pc + 3) L (.int v0 :: st)) : Zs l D ca S b n R nL X σ pc L st0 :=
  zc_Vi C hd hM h1 h2 h3 h4 h5 hds hR ho ha hMo hc hst hs0 (fun r σ' h => by rw [h.1, h.2]; exact kk)
theorem zf_Vv (C : Cs D ca cc nL own (Cond.code y0 c0 n0 r0) X) (hd : decode cc pc = .ok (.invokevirtual index, 3)) (hM : CtV l D ca S b n y (Cond.code y bytes maxL ret :: gtb) rm σ (.ref a :: As) (fun σ' => σ' = σ0))
    (h1 : Cond.methodLink own index y ∈ gtb) (h2 : Cond.instanceMethod y ∈ gtb) (h3 : Cond.selects C0 y y ∈ gtb) (h4 : Cond.initialized C0 ∈ gtb) (h5 : Cond.code y bytes maxL ret ∈ gtb)
    (hds : y.cls = C0 ∧ y.cls ≠ "java/lang/invoke/MethodHandle" ∧ y.cls ≠ "java/lang/invoke/VarHandle" ∧ (parseMethodDescriptor y.desc).map (fun d => d.parameters.length) = some As.length)
    (hR : (rm.frames + 1 ≤ R.frames ∧ 8 + (maxL + 11) + rm.locals ≤ R.locals) ∧ rm.cells = 0 ∧ rm.slots = 0 ∧ 0 ≤ R.cells ∧ 0 ≤ R.slots) (ho : o < n) (ha : b + o = a) (hMo : enc b ca S σ o = .inr (ci, fs)) (hc : clsB[ci]? = some (C0, T, N)) (hst : (st.map fun v => v.category).sum ≤ 8) {st0 : List Value} (hs0 : st0 = As.reverse ++ .ref a :: st)
    (kk : Zs l D ca S b n R nL X σ0 (pc + 3) L st) : Zs l D ca S b n R nL X σ pc L st0 :=
  zc_Vv C hd hM h1 h2 h3 h4 h5 hds hR ho ha hMo hc hst hs0 (fun σ' h => by rw [h]; exact kk)
theorem zf_Si (C : Cs D ca cc nL own (Cond.code y0 c0 n0 r0) X) (hd : decode cc pc = .ok (.invokestatic index, 3)) (hM : CtI l D ca S b n y (Cond.code y bytes maxL ret :: gtb) rm σ As (fun r σ' => r = v0 ∧ σ' = σ0))
    (h1 : Cond.methodLink own index y ∈ gtb) (h2 : Cond.static y ∈ gtb) (h4 : Cond.initialized own ∈ gtb) (h5 : Cond.code y bytes maxL ret ∈ gtb)
    (hds : y.cls = own ∧ y.cls ≠ "java/lang/invoke/MethodHandle" ∧ y.cls ≠ "java/lang/invoke/VarHandle" ∧ (parseMethodDescriptor y.desc).map (fun d => d.parameters.length) = some As.length)
    (hR : (rm.frames + 1 ≤ R.frames ∧ 8 + (maxL + 11) + rm.locals ≤ R.locals) ∧ rm.cells = 0 ∧ rm.slots = 0 ∧ 0 ≤ R.cells ∧ 0 ≤ R.slots) (hst : (st.map fun v => v.category).sum ≤ 8) {st0 : List Value} (hs0 : st0 = As.reverse ++ st)
    (kk : Zs l D ca S b n R nL X σ0 (pc + 3) L (.int v0 :: st)) : Zs l D ca S b n R nL X σ pc L st0 :=
  zc_Si C hd hM h1 h2 h4 h5 hds hR hst hs0 (fun r σ' h => by rw [h.1, h.2]; exact kk)
end ZF
theorem pd_Bus_init : y_Bus_init.cls = "RobotBus" ∧ y_Bus_init.cls ≠ "java/lang/invoke/MethodHandle" ∧ y_Bus_init.cls ≠ "java/lang/invoke/VarHandle" ∧ (parseMethodDescriptor y_Bus_init.desc).map (fun d => d.parameters.length) = some 0 := by decide +kernel
theorem pd_Bag_init : y_Bag_init.cls = "RobotBus$Bag" ∧ y_Bag_init.cls ≠ "java/lang/invoke/MethodHandle" ∧ y_Bag_init.cls ≠ "java/lang/invoke/VarHandle" ∧ (parseMethodDescriptor y_Bag_init.desc).map (fun d => d.parameters.length) = some 0 := by decide +kernel
theorem pd_Pnt_init : y_Pnt_init.cls = "RobotBus$Point" ∧ y_Pnt_init.cls ≠ "java/lang/invoke/MethodHandle" ∧ y_Pnt_init.cls ≠ "java/lang/invoke/VarHandle" ∧ (parseMethodDescriptor y_Pnt_init.desc).map (fun d => d.parameters.length) = some 0 := by decide +kernel
theorem pd_Nod_init : y_Nod_init.cls = "RobotBus$Node" ∧ y_Nod_init.cls ≠ "java/lang/invoke/MethodHandle" ∧ y_Nod_init.cls ≠ "java/lang/invoke/VarHandle" ∧ (parseMethodDescriptor y_Nod_init.desc).map (fun d => d.parameters.length) = some 0 := by decide +kernel
theorem pd_Que_init : y_Que_init.cls = "RobotBus$Queue" ∧ y_Que_init.cls ≠ "java/lang/invoke/MethodHandle" ∧ y_Que_init.cls ≠ "java/lang/invoke/VarHandle" ∧ (parseMethodDescriptor y_Que_init.desc).map (fun d => d.parameters.length) = some 0 := by decide +kernel
theorem pd_Act_init : y_Act_init.cls = "RobotBus$Action" ∧ y_Act_init.cls ≠ "java/lang/invoke/MethodHandle" ∧ y_Act_init.cls ≠ "java/lang/invoke/VarHandle" ∧ (parseMethodDescriptor y_Act_init.desc).map (fun d => d.parameters.length) = some 0 := by decide +kernel
theorem pd_Top_init : y_Top_init.cls = "RobotBus$Topic" ∧ y_Top_init.cls ≠ "java/lang/invoke/MethodHandle" ∧ y_Top_init.cls ≠ "java/lang/invoke/VarHandle" ∧ (parseMethodDescriptor y_Top_init.desc).map (fun d => d.parameters.length) = some 0 := by decide +kernel
theorem pd_Srv_init : y_Srv_init.cls = "RobotBus$Service" ∧ y_Srv_init.cls ≠ "java/lang/invoke/MethodHandle" ∧ y_Srv_init.cls ≠ "java/lang/invoke/VarHandle" ∧ (parseMethodDescriptor y_Srv_init.desc).map (fun d => d.parameters.length) = some 0 := by decide +kernel
theorem pd_Frm_init : y_Frm_init.cls = "RobotBus$Frame" ∧ y_Frm_init.cls ≠ "java/lang/invoke/MethodHandle" ∧ y_Frm_init.cls ≠ "java/lang/invoke/VarHandle" ∧ (parseMethodDescriptor y_Frm_init.desc).map (fun d => d.parameters.length) = some 0 := by decide +kernel
theorem pd_Bus_lastY : y_Bus_lastY.cls = "RobotBus" ∧ y_Bus_lastY.cls ≠ "java/lang/invoke/MethodHandle" ∧ y_Bus_lastY.cls ≠ "java/lang/invoke/VarHandle" ∧ (parseMethodDescriptor y_Bus_lastY.desc).map (fun d => d.parameters.length) = some 0 := by decide +kernel
theorem pd_Bus_join : y_Bus_join.cls = "RobotBus" ∧ y_Bus_join.cls ≠ "java/lang/invoke/MethodHandle" ∧ y_Bus_join.cls ≠ "java/lang/invoke/VarHandle" ∧ (parseMethodDescriptor y_Bus_join.desc).map (fun d => d.parameters.length) = some 1 := by decide +kernel
theorem pd_Bus_isBelow : y_Bus_isBelow.cls = "RobotBus" ∧ y_Bus_isBelow.cls ≠ "java/lang/invoke/MethodHandle" ∧ y_Bus_isBelow.cls ≠ "java/lang/invoke/VarHandle" ∧ (parseMethodDescriptor y_Bus_isBelow.desc).map (fun d => d.parameters.length) = some 2 := by decide +kernel
theorem pd_Bus_leave : y_Bus_leave.cls = "RobotBus" ∧ y_Bus_leave.cls ≠ "java/lang/invoke/MethodHandle" ∧ y_Bus_leave.cls ≠ "java/lang/invoke/VarHandle" ∧ (parseMethodDescriptor y_Bus_leave.desc).map (fun d => d.parameters.length) = some 1 := by decide +kernel
theorem pd_Bus_isThere : y_Bus_isThere.cls = "RobotBus" ∧ y_Bus_isThere.cls ≠ "java/lang/invoke/MethodHandle" ∧ y_Bus_isThere.cls ≠ "java/lang/invoke/VarHandle" ∧ (parseMethodDescriptor y_Bus_isThere.desc).map (fun d => d.parameters.length) = some 1 := by decide +kernel
theorem pd_Nod_reset : y_Nod_reset.cls = "RobotBus$Node" ∧ y_Nod_reset.cls ≠ "java/lang/invoke/MethodHandle" ∧ y_Nod_reset.cls ≠ "java/lang/invoke/VarHandle" ∧ (parseMethodDescriptor y_Nod_reset.desc).map (fun d => d.parameters.length) = some 0 := by decide +kernel
theorem pd_Que_close : y_Que_close.cls = "RobotBus$Queue" ∧ y_Que_close.cls ≠ "java/lang/invoke/MethodHandle" ∧ y_Que_close.cls ≠ "java/lang/invoke/VarHandle" ∧ (parseMethodDescriptor y_Que_close.desc).map (fun d => d.parameters.length) = some 0 := by decide +kernel
theorem pd_Bus_latch : y_Bus_latch.cls = "RobotBus" ∧ y_Bus_latch.cls ≠ "java/lang/invoke/MethodHandle" ∧ y_Bus_latch.cls ≠ "java/lang/invoke/VarHandle" ∧ (parseMethodDescriptor y_Bus_latch.desc).map (fun d => d.parameters.length) = some 2 := by decide +kernel
theorem pd_Bus_subscribe : y_Bus_subscribe.cls = "RobotBus" ∧ y_Bus_subscribe.cls ≠ "java/lang/invoke/MethodHandle" ∧ y_Bus_subscribe.cls ≠ "java/lang/invoke/VarHandle" ∧ (parseMethodDescriptor y_Bus_subscribe.desc).map (fun d => d.parameters.length) = some 3 := by decide +kernel
theorem pd_Bus_isWithin : y_Bus_isWithin.cls = "RobotBus" ∧ y_Bus_isWithin.cls ≠ "java/lang/invoke/MethodHandle" ∧ y_Bus_isWithin.cls ≠ "java/lang/invoke/VarHandle" ∧ (parseMethodDescriptor y_Bus_isWithin.desc).map (fun d => d.parameters.length) = some 3 := by decide +kernel
theorem pd_Que_isOpen : y_Que_isOpen.cls = "RobotBus$Queue" ∧ y_Que_isOpen.cls ≠ "java/lang/invoke/MethodHandle" ∧ y_Que_isOpen.cls ≠ "java/lang/invoke/VarHandle" ∧ (parseMethodDescriptor y_Que_isOpen.desc).map (fun d => d.parameters.length) = some 0 := by decide +kernel
theorem pd_Que_deepen : y_Que_deepen.cls = "RobotBus$Queue" ∧ y_Que_deepen.cls ≠ "java/lang/invoke/MethodHandle" ∧ y_Que_deepen.cls ≠ "java/lang/invoke/VarHandle" ∧ (parseMethodDescriptor y_Que_deepen.desc).map (fun d => d.parameters.length) = some 1 := by decide +kernel
theorem pd_Math_max : y_Math_max.cls = "java/lang/Math" ∧ y_Math_max.cls ≠ "java/lang/invoke/MethodHandle" ∧ y_Math_max.cls ≠ "java/lang/invoke/VarHandle" ∧ (parseMethodDescriptor y_Math_max.desc).map (fun d => d.parameters.length) = some 2 := by decide +kernel
theorem pd_Que_dropOldest : y_Que_dropOldest.cls = "RobotBus$Queue" ∧ y_Que_dropOldest.cls ≠ "java/lang/invoke/MethodHandle" ∧ y_Que_dropOldest.cls ≠ "java/lang/invoke/VarHandle" ∧ (parseMethodDescriptor y_Que_dropOldest.desc).map (fun d => d.parameters.length) = some 1 := by decide +kernel
theorem pd_Que_append : y_Que_append.cls = "RobotBus$Queue" ∧ y_Que_append.cls ≠ "java/lang/invoke/MethodHandle" ∧ y_Que_append.cls ≠ "java/lang/invoke/VarHandle" ∧ (parseMethodDescriptor y_Que_append.desc).map (fun d => d.parameters.length) = some 3 := by decide +kernel
theorem pd_Bus_unsubscribe : y_Bus_unsubscribe.cls = "RobotBus" ∧ y_Bus_unsubscribe.cls ≠ "java/lang/invoke/MethodHandle" ∧ y_Bus_unsubscribe.cls ≠ "java/lang/invoke/VarHandle" ∧ (parseMethodDescriptor y_Bus_unsubscribe.desc).map (fun d => d.parameters.length) = some 2 := by decide +kernel
theorem pd_Bus_publish : y_Bus_publish.cls = "RobotBus" ∧ y_Bus_publish.cls ≠ "java/lang/invoke/MethodHandle" ∧ y_Bus_publish.cls ≠ "java/lang/invoke/VarHandle" ∧ (parseMethodDescriptor y_Bus_publish.desc).map (fun d => d.parameters.length) = some 3 := by decide +kernel
theorem pd_Bus_send : y_Bus_send.cls = "RobotBus" ∧ y_Bus_send.cls ≠ "java/lang/invoke/MethodHandle" ∧ y_Bus_send.cls ≠ "java/lang/invoke/VarHandle" ∧ (parseMethodDescriptor y_Bus_send.desc).map (fun d => d.parameters.length) = some 3 := by decide +kernel
theorem pd_Top_setLast : y_Top_setLast.cls = "RobotBus$Topic" ∧ y_Top_setLast.cls ≠ "java/lang/invoke/MethodHandle" ∧ y_Top_setLast.cls ≠ "java/lang/invoke/VarHandle" ∧ (parseMethodDescriptor y_Top_setLast.desc).map (fun d => d.parameters.length) = some 3 := by decide +kernel
theorem pd_Bag_append : y_Bag_append.cls = "RobotBus$Bag" ∧ y_Bag_append.cls ≠ "java/lang/invoke/MethodHandle" ∧ y_Bag_append.cls ≠ "java/lang/invoke/VarHandle" ∧ (parseMethodDescriptor y_Bag_append.desc).map (fun d => d.parameters.length) = some 3 := by decide +kernel
theorem pd_Bus_act : y_Bus_act.cls = "RobotBus" ∧ y_Bus_act.cls ≠ "java/lang/invoke/MethodHandle" ∧ y_Bus_act.cls ≠ "java/lang/invoke/VarHandle" ∧ (parseMethodDescriptor y_Bus_act.desc).map (fun d => d.parameters.length) = some 5 := by decide +kernel
theorem pd_Bus_isAction : y_Bus_isAction.cls = "RobotBus" ∧ y_Bus_isAction.cls ≠ "java/lang/invoke/MethodHandle" ∧ y_Bus_isAction.cls ≠ "java/lang/invoke/VarHandle" ∧ (parseMethodDescriptor y_Bus_isAction.desc).map (fun d => d.parameters.length) = some 3 := by decide +kernel
theorem pd_Bus_offer : y_Bus_offer.cls = "RobotBus" ∧ y_Bus_offer.cls ≠ "java/lang/invoke/MethodHandle" ∧ y_Bus_offer.cls ≠ "java/lang/invoke/VarHandle" ∧ (parseMethodDescriptor y_Bus_offer.desc).map (fun d => d.parameters.length) = some 5 := by decide +kernel
theorem pd_Bus_isService : y_Bus_isService.cls = "RobotBus" ∧ y_Bus_isService.cls ≠ "java/lang/invoke/MethodHandle" ∧ y_Bus_isService.cls ≠ "java/lang/invoke/VarHandle" ∧ (parseMethodDescriptor y_Bus_isService.desc).map (fun d => d.parameters.length) = some 4 := by decide +kernel
theorem pd_Bus_call : y_Bus_call.cls = "RobotBus" ∧ y_Bus_call.cls ≠ "java/lang/invoke/MethodHandle" ∧ y_Bus_call.cls ≠ "java/lang/invoke/VarHandle" ∧ (parseMethodDescriptor y_Bus_call.desc).map (fun d => d.parameters.length) = some 2 := by decide +kernel
theorem pd_Bus_ask : y_Bus_ask.cls = "RobotBus" ∧ y_Bus_ask.cls ≠ "java/lang/invoke/MethodHandle" ∧ y_Bus_ask.cls ≠ "java/lang/invoke/VarHandle" ∧ (parseMethodDescriptor y_Bus_ask.desc).map (fun d => d.parameters.length) = some 2 := by decide +kernel
theorem pd_Bus_compute : y_Bus_compute.cls = "RobotBus" ∧ y_Bus_compute.cls ≠ "java/lang/invoke/MethodHandle" ∧ y_Bus_compute.cls ≠ "java/lang/invoke/VarHandle" ∧ (parseMethodDescriptor y_Bus_compute.desc).map (fun d => d.parameters.length) = some 3 := by decide +kernel
theorem pd_Bus_tick : y_Bus_tick.cls = "RobotBus" ∧ y_Bus_tick.cls ≠ "java/lang/invoke/MethodHandle" ∧ y_Bus_tick.cls ≠ "java/lang/invoke/VarHandle" ∧ (parseMethodDescriptor y_Bus_tick.desc).map (fun d => d.parameters.length) = some 1 := by decide +kernel
theorem pd_Bus_passOneTick : y_Bus_passOneTick.cls = "RobotBus" ∧ y_Bus_passOneTick.cls ≠ "java/lang/invoke/MethodHandle" ∧ y_Bus_passOneTick.cls ≠ "java/lang/invoke/VarHandle" ∧ (parseMethodDescriptor y_Bus_passOneTick.desc).map (fun d => d.parameters.length) = some 0 := by decide +kernel
theorem pd_Bag_isDue : y_Bag_isDue.cls = "RobotBus$Bag" ∧ y_Bag_isDue.cls ≠ "java/lang/invoke/MethodHandle" ∧ y_Bag_isDue.cls ≠ "java/lang/invoke/VarHandle" ∧ (parseMethodDescriptor y_Bag_isDue.desc).map (fun d => d.parameters.length) = some 1 := by decide +kernel
theorem pd_Bag_isPlaying : y_Bag_isPlaying.cls = "RobotBus$Bag" ∧ y_Bag_isPlaying.cls ≠ "java/lang/invoke/MethodHandle" ∧ y_Bag_isPlaying.cls ≠ "java/lang/invoke/VarHandle" ∧ (parseMethodDescriptor y_Bag_isPlaying.desc).map (fun d => d.parameters.length) = some 0 := by decide +kernel
theorem pd_Bag_takeNext : y_Bag_takeNext.cls = "RobotBus$Bag" ∧ y_Bag_takeNext.cls ≠ "java/lang/invoke/MethodHandle" ∧ y_Bag_takeNext.cls ≠ "java/lang/invoke/VarHandle" ∧ (parseMethodDescriptor y_Bag_takeNext.desc).map (fun d => d.parameters.length) = some 0 := by decide +kernel
theorem pd_Bus_spin : y_Bus_spin.cls = "RobotBus" ∧ y_Bus_spin.cls ≠ "java/lang/invoke/MethodHandle" ∧ y_Bus_spin.cls ≠ "java/lang/invoke/VarHandle" ∧ (parseMethodDescriptor y_Bus_spin.desc).map (fun d => d.parameters.length) = some 1 := by decide +kernel
theorem pd_Nod_nextTopic : y_Nod_nextTopic.cls = "RobotBus$Node" ∧ y_Nod_nextTopic.cls ≠ "java/lang/invoke/MethodHandle" ∧ y_Nod_nextTopic.cls ≠ "java/lang/invoke/VarHandle" ∧ (parseMethodDescriptor y_Nod_nextTopic.desc).map (fun d => d.parameters.length) = some 0 := by decide +kernel
theorem pd_Nod_takeFrom : y_Nod_takeFrom.cls = "RobotBus$Node" ∧ y_Nod_takeFrom.cls ≠ "java/lang/invoke/MethodHandle" ∧ y_Nod_takeFrom.cls ≠ "java/lang/invoke/VarHandle" ∧ (parseMethodDescriptor y_Nod_takeFrom.desc).map (fun d => d.parameters.length) = some 1 := by decide +kernel
theorem pd_Que_part : y_Que_part.cls = "RobotBus$Queue" ∧ y_Que_part.cls ≠ "java/lang/invoke/MethodHandle" ∧ y_Que_part.cls ≠ "java/lang/invoke/VarHandle" ∧ (parseMethodDescriptor y_Que_part.desc).map (fun d => d.parameters.length) = some 2 := by decide +kernel
theorem pd_Bus_perform : y_Bus_perform.cls = "RobotBus" ∧ y_Bus_perform.cls ≠ "java/lang/invoke/MethodHandle" ∧ y_Bus_perform.cls ≠ "java/lang/invoke/VarHandle" ∧ (parseMethodDescriptor y_Bus_perform.desc).map (fun d => d.parameters.length) = some 3 := by decide +kernel
theorem pd_Bus_variable : y_Bus_variable.cls = "RobotBus" ∧ y_Bus_variable.cls ≠ "java/lang/invoke/MethodHandle" ∧ y_Bus_variable.cls ≠ "java/lang/invoke/VarHandle" ∧ (parseMethodDescriptor y_Bus_variable.desc).map (fun d => d.parameters.length) = some 2 := by decide +kernel
theorem pd_Bus_queued : y_Bus_queued.cls = "RobotBus" ∧ y_Bus_queued.cls ≠ "java/lang/invoke/MethodHandle" ∧ y_Bus_queued.cls ≠ "java/lang/invoke/VarHandle" ∧ (parseMethodDescriptor y_Bus_queued.desc).map (fun d => d.parameters.length) = some 4 := by decide +kernel
theorem pd_Bus_keep : y_Bus_keep.cls = "RobotBus" ∧ y_Bus_keep.cls ≠ "java/lang/invoke/MethodHandle" ∧ y_Bus_keep.cls ≠ "java/lang/invoke/VarHandle" ∧ (parseMethodDescriptor y_Bus_keep.desc).map (fun d => d.parameters.length) = some 2 := by decide +kernel
theorem pd_Bus_play : y_Bus_play.cls = "RobotBus" ∧ y_Bus_play.cls ≠ "java/lang/invoke/MethodHandle" ∧ y_Bus_play.cls ≠ "java/lang/invoke/VarHandle" ∧ (parseMethodDescriptor y_Bus_play.desc).map (fun d => d.parameters.length) = some 1 := by decide +kernel
theorem pd_Bag_start : y_Bag_start.cls = "RobotBus$Bag" ∧ y_Bag_start.cls ≠ "java/lang/invoke/MethodHandle" ∧ y_Bag_start.cls ≠ "java/lang/invoke/VarHandle" ∧ (parseMethodDescriptor y_Bag_start.desc).map (fun d => d.parameters.length) = some 2 := by decide +kernel
theorem pd_Bus_empty : y_Bus_empty.cls = "RobotBus" ∧ y_Bus_empty.cls ≠ "java/lang/invoke/MethodHandle" ∧ y_Bus_empty.cls ≠ "java/lang/invoke/VarHandle" ∧ (parseMethodDescriptor y_Bus_empty.desc).map (fun d => d.parameters.length) = some 0 := by decide +kernel
theorem pd_Bus_mount : y_Bus_mount.cls = "RobotBus" ∧ y_Bus_mount.cls ≠ "java/lang/invoke/MethodHandle" ∧ y_Bus_mount.cls ≠ "java/lang/invoke/VarHandle" ∧ (parseMethodDescriptor y_Bus_mount.desc).map (fun d => d.parameters.length) = some 2 := by decide +kernel
theorem pd_Bus_isAbove : y_Bus_isAbove.cls = "RobotBus" ∧ y_Bus_isAbove.cls ≠ "java/lang/invoke/MethodHandle" ∧ y_Bus_isAbove.cls ≠ "java/lang/invoke/VarHandle" ∧ (parseMethodDescriptor y_Bus_isAbove.desc).map (fun d => d.parameters.length) = some 2 := by decide +kernel
theorem pd_Bus_sample : y_Bus_sample.cls = "RobotBus" ∧ y_Bus_sample.cls ≠ "java/lang/invoke/MethodHandle" ∧ y_Bus_sample.cls ≠ "java/lang/invoke/VarHandle" ∧ (parseMethodDescriptor y_Bus_sample.desc).map (fun d => d.parameters.length) = some 5 := by decide +kernel
theorem pd_Bus_isCoordinate : y_Bus_isCoordinate.cls = "RobotBus" ∧ y_Bus_isCoordinate.cls ≠ "java/lang/invoke/MethodHandle" ∧ y_Bus_isCoordinate.cls ≠ "java/lang/invoke/VarHandle" ∧ (parseMethodDescriptor y_Bus_isCoordinate.desc).map (fun d => d.parameters.length) = some 1 := by decide +kernel
theorem pd_Bus_toEighths : y_Bus_toEighths.cls = "RobotBus" ∧ y_Bus_toEighths.cls ≠ "java/lang/invoke/MethodHandle" ∧ y_Bus_toEighths.cls ≠ "java/lang/invoke/VarHandle" ∧ (parseMethodDescriptor y_Bus_toEighths.desc).map (fun d => d.parameters.length) = some 1 := by decide +kernel
theorem pd_Frm_isBehindLast : y_Frm_isBehindLast.cls = "RobotBus$Frame" ∧ y_Frm_isBehindLast.cls ≠ "java/lang/invoke/MethodHandle" ∧ y_Frm_isBehindLast.cls ≠ "java/lang/invoke/VarHandle" ∧ (parseMethodDescriptor y_Frm_isBehindLast.desc).map (fun d => d.parameters.length) = some 1 := by decide +kernel
theorem pd_Frm_append : y_Frm_append.cls = "RobotBus$Frame" ∧ y_Frm_append.cls ≠ "java/lang/invoke/MethodHandle" ∧ y_Frm_append.cls ≠ "java/lang/invoke/VarHandle" ∧ (parseMethodDescriptor y_Frm_append.desc).map (fun d => d.parameters.length) = some 4 := by decide +kernel
theorem pd_Frm_dropFirst : y_Frm_dropFirst.cls = "RobotBus$Frame" ∧ y_Frm_dropFirst.cls ≠ "java/lang/invoke/MethodHandle" ∧ y_Frm_dropFirst.cls ≠ "java/lang/invoke/VarHandle" ∧ (parseMethodDescriptor y_Frm_dropFirst.desc).map (fun d => d.parameters.length) = some 0 := by decide +kernel
theorem pd_Bus_locate : y_Bus_locate.cls = "RobotBus" ∧ y_Bus_locate.cls ≠ "java/lang/invoke/MethodHandle" ∧ y_Bus_locate.cls ≠ "java/lang/invoke/VarHandle" ∧ (parseMethodDescriptor y_Bus_locate.desc).map (fun d => d.parameters.length) = some 4 := by decide +kernel
theorem pd_Bus_liftToRoot : y_Bus_liftToRoot.cls = "RobotBus" ∧ y_Bus_liftToRoot.cls ≠ "java/lang/invoke/MethodHandle" ∧ y_Bus_liftToRoot.cls ≠ "java/lang/invoke/VarHandle" ∧ (parseMethodDescriptor y_Bus_liftToRoot.desc).map (fun d => d.parameters.length) = some 2 := by decide +kernel
theorem pd_Frm_indexAt : y_Frm_indexAt.cls = "RobotBus$Frame" ∧ y_Frm_indexAt.cls ≠ "java/lang/invoke/MethodHandle" ∧ y_Frm_indexAt.cls ≠ "java/lang/invoke/VarHandle" ∧ (parseMethodDescriptor y_Frm_indexAt.desc).map (fun d => d.parameters.length) = some 1 := by decide +kernel
theorem pd_Pnt_lift : y_Pnt_lift.cls = "RobotBus$Point" ∧ y_Pnt_lift.cls ≠ "java/lang/invoke/MethodHandle" ∧ y_Pnt_lift.cls ≠ "java/lang/invoke/VarHandle" ∧ (parseMethodDescriptor y_Pnt_lift.desc).map (fun d => d.parameters.length) = some 3 := by decide +kernel
theorem pd_Pnt_turnBy : y_Pnt_turnBy.cls = "RobotBus$Point" ∧ y_Pnt_turnBy.cls ≠ "java/lang/invoke/MethodHandle" ∧ y_Pnt_turnBy.cls ≠ "java/lang/invoke/VarHandle" ∧ (parseMethodDescriptor y_Pnt_turnBy.desc).map (fun d => d.parameters.length) = some 1 := by decide +kernel
theorem pd_Frm_between : y_Frm_between.cls = "RobotBus$Frame" ∧ y_Frm_between.cls ≠ "java/lang/invoke/MethodHandle" ∧ y_Frm_between.cls ≠ "java/lang/invoke/VarHandle" ∧ (parseMethodDescriptor y_Frm_between.desc).map (fun d => d.parameters.length) = some 3 := by decide +kernel
theorem pd_Math_floorDiv : y_Math_floorDiv.cls = "java/lang/Math" ∧ y_Math_floorDiv.cls ≠ "java/lang/invoke/MethodHandle" ∧ y_Math_floorDiv.cls ≠ "java/lang/invoke/VarHandle" ∧ (parseMethodDescriptor y_Math_floorDiv.desc).map (fun d => d.parameters.length) = some 2 := by decide +kernel
theorem pd_Bus_count : y_Bus_count.cls = "RobotBus" ∧ y_Bus_count.cls ≠ "java/lang/invoke/MethodHandle" ∧ y_Bus_count.cls ≠ "java/lang/invoke/VarHandle" ∧ (parseMethodDescriptor y_Bus_count.desc).map (fun d => d.parameters.length) = some 1 := by decide +kernel
theorem pd_Mdl_init : y_Mdl_init.cls = "RobotBusModel" ∧ y_Mdl_init.cls ≠ "java/lang/invoke/MethodHandle" ∧ y_Mdl_init.cls ≠ "java/lang/invoke/VarHandle" ∧ (parseMethodDescriptor y_Mdl_init.desc).map (fun d => d.parameters.length) = some 0 := by decide +kernel
theorem pd_Mdl_thrown : y_Mdl_thrown.cls = "RobotBusModel" ∧ y_Mdl_thrown.cls ≠ "java/lang/invoke/MethodHandle" ∧ y_Mdl_thrown.cls ≠ "java/lang/invoke/VarHandle" ∧ (parseMethodDescriptor y_Mdl_thrown.desc).map (fun d => d.parameters.length) = some 0 := by decide +kernel
theorem pd_Mdl_join : y_Mdl_join.cls = "RobotBusModel" ∧ y_Mdl_join.cls ≠ "java/lang/invoke/MethodHandle" ∧ y_Mdl_join.cls ≠ "java/lang/invoke/VarHandle" ∧ (parseMethodDescriptor y_Mdl_join.desc).map (fun d => d.parameters.length) = some 1 := by decide +kernel
theorem pd_Mdl_in : y_Mdl_in.cls = "RobotBusModel" ∧ y_Mdl_in.cls ≠ "java/lang/invoke/MethodHandle" ∧ y_Mdl_in.cls ≠ "java/lang/invoke/VarHandle" ∧ (parseMethodDescriptor y_Mdl_in.desc).map (fun d => d.parameters.length) = some 3 := by decide +kernel
theorem pd_Mdl_raise : y_Mdl_raise.cls = "RobotBusModel" ∧ y_Mdl_raise.cls ≠ "java/lang/invoke/MethodHandle" ∧ y_Mdl_raise.cls ≠ "java/lang/invoke/VarHandle" ∧ (parseMethodDescriptor y_Mdl_raise.desc).map (fun d => d.parameters.length) = some 1 := by decide +kernel
theorem pd_Mdl_leave : y_Mdl_leave.cls = "RobotBusModel" ∧ y_Mdl_leave.cls ≠ "java/lang/invoke/MethodHandle" ∧ y_Mdl_leave.cls ≠ "java/lang/invoke/VarHandle" ∧ (parseMethodDescriptor y_Mdl_leave.desc).map (fun d => d.parameters.length) = some 1 := by decide +kernel
theorem pd_Mdl_noNode : y_Mdl_noNode.cls = "RobotBusModel" ∧ y_Mdl_noNode.cls ≠ "java/lang/invoke/MethodHandle" ∧ y_Mdl_noNode.cls ≠ "java/lang/invoke/VarHandle" ∧ (parseMethodDescriptor y_Mdl_noNode.desc).map (fun d => d.parameters.length) = some 1 := by decide +kernel
theorem pd_Mdl_latch : y_Mdl_latch.cls = "RobotBusModel" ∧ y_Mdl_latch.cls ≠ "java/lang/invoke/MethodHandle" ∧ y_Mdl_latch.cls ≠ "java/lang/invoke/VarHandle" ∧ (parseMethodDescriptor y_Mdl_latch.desc).map (fun d => d.parameters.length) = some 2 := by decide +kernel
theorem pd_Mdl_subscribe : y_Mdl_subscribe.cls = "RobotBusModel" ∧ y_Mdl_subscribe.cls ≠ "java/lang/invoke/MethodHandle" ∧ y_Mdl_subscribe.cls ≠ "java/lang/invoke/VarHandle" ∧ (parseMethodDescriptor y_Mdl_subscribe.desc).map (fun d => d.parameters.length) = some 3 := by decide +kernel
theorem pd_Mdl_put : y_Mdl_put.cls = "RobotBusModel" ∧ y_Mdl_put.cls ≠ "java/lang/invoke/MethodHandle" ∧ y_Mdl_put.cls ≠ "java/lang/invoke/VarHandle" ∧ (parseMethodDescriptor y_Mdl_put.desc).map (fun d => d.parameters.length) = some 4 := by decide +kernel
theorem pd_Mdl_shift : y_Mdl_shift.cls = "RobotBusModel" ∧ y_Mdl_shift.cls ≠ "java/lang/invoke/MethodHandle" ∧ y_Mdl_shift.cls ≠ "java/lang/invoke/VarHandle" ∧ (parseMethodDescriptor y_Mdl_shift.desc).map (fun d => d.parameters.length) = some 1 := by decide +kernel
theorem pd_Mdl_unsubscribe : y_Mdl_unsubscribe.cls = "RobotBusModel" ∧ y_Mdl_unsubscribe.cls ≠ "java/lang/invoke/MethodHandle" ∧ y_Mdl_unsubscribe.cls ≠ "java/lang/invoke/VarHandle" ∧ (parseMethodDescriptor y_Mdl_unsubscribe.desc).map (fun d => d.parameters.length) = some 2 := by decide +kernel
theorem pd_Mdl_publish : y_Mdl_publish.cls = "RobotBusModel" ∧ y_Mdl_publish.cls ≠ "java/lang/invoke/MethodHandle" ∧ y_Mdl_publish.cls ≠ "java/lang/invoke/VarHandle" ∧ (parseMethodDescriptor y_Mdl_publish.desc).map (fun d => d.parameters.length) = some 3 := by decide +kernel
theorem pd_Mdl_send : y_Mdl_send.cls = "RobotBusModel" ∧ y_Mdl_send.cls ≠ "java/lang/invoke/MethodHandle" ∧ y_Mdl_send.cls ≠ "java/lang/invoke/VarHandle" ∧ (parseMethodDescriptor y_Mdl_send.desc).map (fun d => d.parameters.length) = some 3 := by decide +kernel
theorem pd_Mdl_act : y_Mdl_act.cls = "RobotBusModel" ∧ y_Mdl_act.cls ≠ "java/lang/invoke/MethodHandle" ∧ y_Mdl_act.cls ≠ "java/lang/invoke/VarHandle" ∧ (parseMethodDescriptor y_Mdl_act.desc).map (fun d => d.parameters.length) = some 5 := by decide +kernel
theorem pd_Mdl_actionFits : y_Mdl_actionFits.cls = "RobotBusModel" ∧ y_Mdl_actionFits.cls ≠ "java/lang/invoke/MethodHandle" ∧ y_Mdl_actionFits.cls ≠ "java/lang/invoke/VarHandle" ∧ (parseMethodDescriptor y_Mdl_actionFits.desc).map (fun d => d.parameters.length) = some 3 := by decide +kernel
theorem pd_Mdl_offer : y_Mdl_offer.cls = "RobotBusModel" ∧ y_Mdl_offer.cls ≠ "java/lang/invoke/MethodHandle" ∧ y_Mdl_offer.cls ≠ "java/lang/invoke/VarHandle" ∧ (parseMethodDescriptor y_Mdl_offer.desc).map (fun d => d.parameters.length) = some 5 := by decide +kernel
theorem pd_Mdl_serviceFits : y_Mdl_serviceFits.cls = "RobotBusModel" ∧ y_Mdl_serviceFits.cls ≠ "java/lang/invoke/MethodHandle" ∧ y_Mdl_serviceFits.cls ≠ "java/lang/invoke/VarHandle" ∧ (parseMethodDescriptor y_Mdl_serviceFits.desc).map (fun d => d.parameters.length) = some 4 := by decide +kernel
theorem pd_Mdl_call : y_Mdl_call.cls = "RobotBusModel" ∧ y_Mdl_call.cls ≠ "java/lang/invoke/MethodHandle" ∧ y_Mdl_call.cls ≠ "java/lang/invoke/VarHandle" ∧ (parseMethodDescriptor y_Mdl_call.desc).map (fun d => d.parameters.length) = some 2 := by decide +kernel
theorem pd_Mdl_ask : y_Mdl_ask.cls = "RobotBusModel" ∧ y_Mdl_ask.cls ≠ "java/lang/invoke/MethodHandle" ∧ y_Mdl_ask.cls ≠ "java/lang/invoke/VarHandle" ∧ (parseMethodDescriptor y_Mdl_ask.desc).map (fun d => d.parameters.length) = some 2 := by decide +kernel
theorem pd_Mdl_tick : y_Mdl_tick.cls = "RobotBusModel" ∧ y_Mdl_tick.cls ≠ "java/lang/invoke/MethodHandle" ∧ y_Mdl_tick.cls ≠ "java/lang/invoke/VarHandle" ∧ (parseMethodDescriptor y_Mdl_tick.desc).map (fun d => d.parameters.length) = some 1 := by decide +kernel
theorem pd_Mdl_playDue : y_Mdl_playDue.cls = "RobotBusModel" ∧ y_Mdl_playDue.cls ≠ "java/lang/invoke/MethodHandle" ∧ y_Mdl_playDue.cls ≠ "java/lang/invoke/VarHandle" ∧ (parseMethodDescriptor y_Mdl_playDue.desc).map (fun d => d.parameters.length) = some 0 := by decide +kernel
theorem pd_Mdl_spin : y_Mdl_spin.cls = "RobotBusModel" ∧ y_Mdl_spin.cls ≠ "java/lang/invoke/MethodHandle" ∧ y_Mdl_spin.cls ≠ "java/lang/invoke/VarHandle" ∧ (parseMethodDescriptor y_Mdl_spin.desc).map (fun d => d.parameters.length) = some 1 := by decide +kernel
theorem pd_Mdl_perform : y_Mdl_perform.cls = "RobotBusModel" ∧ y_Mdl_perform.cls ≠ "java/lang/invoke/MethodHandle" ∧ y_Mdl_perform.cls ≠ "java/lang/invoke/VarHandle" ∧ (parseMethodDescriptor y_Mdl_perform.desc).map (fun d => d.parameters.length) = some 3 := by decide +kernel
theorem pd_Mdl_variable : y_Mdl_variable.cls = "RobotBusModel" ∧ y_Mdl_variable.cls ≠ "java/lang/invoke/MethodHandle" ∧ y_Mdl_variable.cls ≠ "java/lang/invoke/VarHandle" ∧ (parseMethodDescriptor y_Mdl_variable.desc).map (fun d => d.parameters.length) = some 2 := by decide +kernel
theorem pd_Mdl_queued : y_Mdl_queued.cls = "RobotBusModel" ∧ y_Mdl_queued.cls ≠ "java/lang/invoke/MethodHandle" ∧ y_Mdl_queued.cls ≠ "java/lang/invoke/VarHandle" ∧ (parseMethodDescriptor y_Mdl_queued.desc).map (fun d => d.parameters.length) = some 4 := by decide +kernel
theorem pd_Mdl_keep : y_Mdl_keep.cls = "RobotBusModel" ∧ y_Mdl_keep.cls ≠ "java/lang/invoke/MethodHandle" ∧ y_Mdl_keep.cls ≠ "java/lang/invoke/VarHandle" ∧ (parseMethodDescriptor y_Mdl_keep.desc).map (fun d => d.parameters.length) = some 2 := by decide +kernel
theorem pd_Mdl_play : y_Mdl_play.cls = "RobotBusModel" ∧ y_Mdl_play.cls ≠ "java/lang/invoke/MethodHandle" ∧ y_Mdl_play.cls ≠ "java/lang/invoke/VarHandle" ∧ (parseMethodDescriptor y_Mdl_play.desc).map (fun d => d.parameters.length) = some 1 := by decide +kernel
theorem pd_Mdl_empty : y_Mdl_empty.cls = "RobotBusModel" ∧ y_Mdl_empty.cls ≠ "java/lang/invoke/MethodHandle" ∧ y_Mdl_empty.cls ≠ "java/lang/invoke/VarHandle" ∧ (parseMethodDescriptor y_Mdl_empty.desc).map (fun d => d.parameters.length) = some 0 := by decide +kernel
theorem pd_Mdl_mount : y_Mdl_mount.cls = "RobotBusModel" ∧ y_Mdl_mount.cls ≠ "java/lang/invoke/MethodHandle" ∧ y_Mdl_mount.cls ≠ "java/lang/invoke/VarHandle" ∧ (parseMethodDescriptor y_Mdl_mount.desc).map (fun d => d.parameters.length) = some 2 := by decide +kernel
theorem pd_Mdl_sample : y_Mdl_sample.cls = "RobotBusModel" ∧ y_Mdl_sample.cls ≠ "java/lang/invoke/MethodHandle" ∧ y_Mdl_sample.cls ≠ "java/lang/invoke/VarHandle" ∧ (parseMethodDescriptor y_Mdl_sample.desc).map (fun d => d.parameters.length) = some 5 := by decide +kernel
theorem pd_Mdl_near : y_Mdl_near.cls = "RobotBusModel" ∧ y_Mdl_near.cls ≠ "java/lang/invoke/MethodHandle" ∧ y_Mdl_near.cls ≠ "java/lang/invoke/VarHandle" ∧ (parseMethodDescriptor y_Mdl_near.desc).map (fun d => d.parameters.length) = some 1 := by decide +kernel
theorem pd_Mdl_locate : y_Mdl_locate.cls = "RobotBusModel" ∧ y_Mdl_locate.cls ≠ "java/lang/invoke/MethodHandle" ∧ y_Mdl_locate.cls ≠ "java/lang/invoke/VarHandle" ∧ (parseMethodDescriptor y_Mdl_locate.desc).map (fun d => d.parameters.length) = some 4 := by decide +kernel
theorem pd_Mdl_rise : y_Mdl_rise.cls = "RobotBusModel" ∧ y_Mdl_rise.cls ≠ "java/lang/invoke/MethodHandle" ∧ y_Mdl_rise.cls ≠ "java/lang/invoke/VarHandle" ∧ (parseMethodDescriptor y_Mdl_rise.desc).map (fun d => d.parameters.length) = some 2 := by decide +kernel
theorem pd_Mdl_between : y_Mdl_between.cls = "RobotBusModel" ∧ y_Mdl_between.cls ≠ "java/lang/invoke/MethodHandle" ∧ y_Mdl_between.cls ≠ "java/lang/invoke/VarHandle" ∧ (parseMethodDescriptor y_Mdl_between.desc).map (fun d => d.parameters.length) = some 4 := by decide +kernel
theorem pd_Mdl_lastY : y_Mdl_lastY.cls = "RobotBusModel" ∧ y_Mdl_lastY.cls ≠ "java/lang/invoke/MethodHandle" ∧ y_Mdl_lastY.cls ≠ "java/lang/invoke/VarHandle" ∧ (parseMethodDescriptor y_Mdl_lastY.desc).map (fun d => d.parameters.length) = some 0 := by decide +kernel
theorem pd_Mdl_count : y_Mdl_count.cls = "RobotBusModel" ∧ y_Mdl_count.cls ≠ "java/lang/invoke/MethodHandle" ∧ y_Mdl_count.cls ≠ "java/lang/invoke/VarHandle" ∧ (parseMethodDescriptor y_Mdl_count.desc).map (fun d => d.parameters.length) = some 1 := by decide +kernel
end
section
/-! Queue -/
def qOpen (σ : Sg) (i t : Nat) : Int32 := if σ.1 33 i t 0 ≤ 0 then 0 else 1
set_option maxRecDepth 100000 in
set_option maxHeartbeats 4000000 in
/-- whether there is a subscription -/
theorem c_Que_isOpen (l : Launch) (D : va_G) (ca : Nat → ClassId) (b : Nat) (σ : Sg) {i t : Nat} (hi : i < 6) (ht : t < 6) : CtI l D ca SB b 182 y_Que_isOpen w_Que_isOpen (rmN 0 0) σ [.ref (b + (14 + 22 * i + 3 * t))] (fun r σ' => r = qOpen σ i t ∧ σ' = σ) := by
  refine ct_z "RobotBus$Queue" [(0, .ref (b + (14 + 22 * i + 3 * t)))] (by decide) rfl (Nat.le_of_ble_eq_true rfl) rfl (fun X C hret => ?_)
  refine z_aload_n C d_Que_isOpen_0 rfl 0 rfl ?_
  refine gB_Que_depth C d_Que_isOpen_1 tw_102 hi ht ?_
  refine z_if_le C 11 d_Que_isOpen_4 (by decide) (fun h4 => ?_) (fun h4 => ?_)
  · refine z_iconst C (v := 0) d_Que_isOpen_11 (by decide) ?_
    exact hret _ _ _ _ d_Que_isOpen_12 (by decide) ⟨by simp [qOpen, h4], rfl⟩
  · refine z_iconst C (v := 1) d_Que_isOpen_7 (by decide) ?_
    refine z_goto C 12 d_Que_isOpen_8 (by decide) ?_
    exact hret _ _ _ _ d_Que_isOpen_12 (by decide) ⟨by simp [qOpen, h4], rfl⟩
set_option maxRecDepth 100000 in
set_option maxHeartbeats 4000000 in
/-- a part of a message -/
theorem c_Que_part (l : Launch) (D : va_G) (ca : Nat → ClassId) (b : Nat) (σ : Sg) {i t : Nat} (hi : i < 6) (ht : t < 6) {p w : Nat} (hp : p < 4) (hw : w < 3) : CtI l D ca SB b 182 y_Que_part w_Que_part (rmN 0 0) σ [.ref (b + (14 + 22 * i + 3 * t)), .int (nI p), .int (nI w)] (fun r σ' => r = σ.1 35 i t (p * 3 + w) ∧ σ' = σ) := by
  refine ct_i "RobotBus$Queue" [(0, .ref (b + (14 + 22 * i + 3 * t))), (1, .int (nI p)), (2, .int (nI w))] (by decide) rfl (Nat.le_of_ble_eq_true rfl) rfl (fun X C hret => ?_)
  refine z_aload_n C d_Que_part_0 rfl 0 rfl ?_
  refine gB_Que_cells C d_Que_part_1 tw_101 hi ht ?_
  refine z_iload_n C d_Que_part_4 rfl 1 rfl ?_
  refine z_iconst C (v := 3) d_Que_part_5 (by decide) ?_
  refine z_imul C d_Que_part_6 ?_
  refine z_iload_n C d_Que_part_7 rfl 2 rfl ?_
  refine z_iadd C d_Que_part_8 ?_
  refine z_ri (x' := nI (p * 3 + w)) (by rw [show (3 : Int32) = nI 3 by decide, pk_mul, nI_add]) ?_
  refine lB_cell C (q := (p * 3 + w)) d_Que_part_9 hi ht rfl (by omega) ?_
  exact hret _ _ _ _ d_Que_part_10 ⟨rfl, rfl⟩
def qClose (σ : Sg) (i t : Nat) : Sg := us (us σ 33 i t 0) 34 i t 0
set_option maxRecDepth 100000 in
set_option maxHeartbeats 4000000 in
/-- no subscription any more -/
theorem c_Que_close (l : Launch) (D : va_G) (ca : Nat → ClassId) (b : Nat) (σ : Sg) {i t : Nat} (hi : i < 6) (ht : t < 6) : CtI l D ca SB b 182 y_Que_close w_Que_close (rmN 0 0) σ [.ref (b + (14 + 22 * i + 3 * t))] (fun r σ' => r = σ.1 34 i t 0 ∧ σ' = qClose σ i t) := by
  refine ct_i "RobotBus$Queue" [(0, .ref (b + (14 + 22 * i + 3 * t)))] (by decide) rfl (Nat.le_of_ble_eq_true rfl) rfl (fun X C hret => ?_)
  refine z_aload_n C d_Que_close_0 rfl 0 rfl ?_
  refine gB_Que_size C d_Que_close_1 tw_103 hi ht ?_
  refine z_istore_n C d_Que_close_4 rfl (by decide) [(1, .int (σ.1 34 i t 0)), (0, .ref (b + (14 + 22 * i + 3 * t)))] rfl ?_
  refine z_aload_n C d_Que_close_5 rfl 1 rfl ?_
  refine z_iconst C (v := 0) d_Que_close_6 (by decide) ?_
  refine pB_Que_depth C d_Que_close_7 tw_102 hi ht ?_
  refine z_aload_n C d_Que_close_10 rfl 1 rfl ?_
  refine z_iconst C (v := 0) d_Que_close_11 (by decide) ?_
  refine pB_Que_size C d_Que_close_12 tw_103 hi ht ?_
  refine z_iload_n C d_Que_close_15 rfl 0 rfl ?_
  exact hret _ _ _ _ d_Que_close_16 ⟨rfl, rfl⟩
def qDrop (σ : Sg) (i t q m : Nat) : Sg := upA (us σ 34 i t (nI (q - m))) (35, i, t) (va_cpy (σ.1 35 i t) (σ.1 35 i t) (m * 3) 0 ((q - m) * 3))
set_option maxRecDepth 100000 in
set_option maxHeartbeats 4000000 in
/-- the m oldest go -/
theorem c_Que_dropOldest (l : Launch) (D : va_G) (ca : Nat → ClassId) (b : Nat) (σ : Sg) {i t : Nat} (hi : i < 6) (ht : t < 6) {q m : Nat} (hq : σ.1 34 i t 0 = nI q) (hm : m ≤ q) (hq4 : q ≤ 4) : CtV l D ca SB b 182 y_Que_dropOldest w_Que_dropOldest (rmN 1 18) σ [.ref (b + (14 + 22 * i + 3 * t)), .int (nI m)] (fun σ' => σ' = qDrop σ i t q m) := by
  refine ct_v "RobotBus$Queue" [(0, .ref (b + (14 + 22 * i + 3 * t))), (1, .int (nI m))] (by decide) rfl (Nat.le_of_ble_eq_true rfl) rfl (fun X C hret => ?_)
  refine z_aload_n C d_Que_dropOldest_0 rfl 0 rfl ?_
  refine z_dup C d_Que_dropOldest_1 rfl ?_
  refine gB_Que_size C d_Que_dropOldest_2 tw_103 hi ht ?_
  refine z_iload_n C d_Que_dropOldest_5 rfl 1 rfl ?_
  refine z_isub C d_Que_dropOldest_6 ?_
  refine pB_Que_size C d_Que_dropOldest_7 tw_103 hi ht ?_
  refine z_aload_n C d_Que_dropOldest_10 rfl 0 rfl ?_
  refine gB_Que_cells C d_Que_dropOldest_11 tw_101 hi ht ?_
  refine z_iload_n C d_Que_dropOldest_14 rfl 1 rfl ?_
  refine z_iconst C (v := 3) d_Que_dropOldest_15 (by decide) ?_
  refine z_imul C d_Que_dropOldest_16 ?_
  refine z_aload_n C d_Que_dropOldest_17 rfl 0 rfl ?_
  refine gB_Que_cells C d_Que_dropOldest_18 tw_101 hi ht ?_
  refine z_iconst C (v := 0) d_Que_dropOldest_21 (by decide) ?_
  refine z_aload_n C d_Que_dropOldest_22 rfl 0 rfl ?_
  refine gB_Que_size C d_Que_dropOldest_23 tw_103 hi ht ?_
  refine z_iconst C (v := 3) d_Que_dropOldest_26 (by decide) ?_
  refine z_imul C d_Que_dropOldest_27 ?_
  refine z_copyi C d_Que_dropOldest_28 (List.mem_cons_of_mem _ tw_445) (List.mem_cons_of_mem _ tw_447) (List.mem_cons_of_mem _ tw_446) (List.mem_cons_of_mem _ tw_18) 0 rfl (by omega) rfl (eB_cell hi ht) (by decide) (s0 := m * 3) (d0 := 0) (m0 := (q - m) * 3) (by rw [show (3 : Int32) = nI 3 by decide, pk_mul]) (by decide) (by rw [us_self, show (3 : Int32) = nI 3 by decide, hq, pk_sub hm, pk_mul]) (by omega) (by omega) (by decide) (Nat.le_of_ble_eq_true rfl) ?_
  refine z_map (uB_cell hi ht _) ?_
  exact hret _ _ _ d_Que_dropOldest_31 (by unfold qDrop; rw [hq, pk_sub hm]; rfl)
theorem qDrop_sz {σ : Sg} {i t q m : Nat} : (qDrop σ i t q m).1 34 i t 0 = nI (q - m) := by simp [qDrop, us, upA]
theorem q_max : ∀ q, q < 5 → ∀ d, d < 5 → (if (0 : Int32) < nI q - nI d then nI q - nI d else 0) = nI (q - d) := by decide +kernel
def qDeep (σ : Sg) (i t q d : Nat) : Sg := us (qDrop σ i t q (q - d)) 33 i t (nI d)
set_option maxRecDepth 100000 in
set_option maxHeartbeats 4000000 in
/-- another depth -/
theorem c_Que_deepen (l : Launch) (D : va_G) (ca : Nat → ClassId) (b : Nat) (σ : Sg) {i t : Nat} (hi : i < 6) (ht : t < 6) {q e : Nat} (hq : σ.1 34 i t 0 = nI q) (hq4 : q ≤ 4) (he : e ≤ 4) : CtI l D ca SB b 182 y_Que_deepen w_Que_deepen (rmN 2 39) σ [.ref (b + (14 + 22 * i + 3 * t)), .int (nI e)] (fun r σ' => r = nI (q - e) ∧ σ' = qDeep σ i t q e) := by
  refine ct_i "RobotBus$Queue" [(0, .ref (b + (14 + 22 * i + 3 * t))), (1, .int (nI e))] (by decide) rfl (Nat.le_of_ble_eq_true rfl) rfl (fun X C hret => ?_)
  refine z_iconst C (v := 0) d_Que_deepen_0 (by decide) ?_
  refine z_aload_n C d_Que_deepen_1 rfl 0 rfl ?_
  refine gB_Que_size C d_Que_deepen_2 tw_103 hi ht ?_
  refine z_iload_n C d_Que_deepen_5 rfl 1 rfl ?_
  refine z_isub C d_Que_deepen_6 ?_
  refine z_max C d_Que_deepen_7 (List.mem_cons_of_mem _ tw_438) (List.mem_cons_of_mem _ tw_439) (List.mem_cons_of_mem _ tw_17) (List.mem_cons_of_mem _ tw_440) (by decide) (Nat.le_of_ble_eq_true rfl) (by decide) (by decide) ?_
  refine z_ri (x' := nI (q - e)) (by rw [hq]; exact q_max q (by omega) e (by omega)) ?_
  refine z_istore_n C d_Que_deepen_10 rfl (by decide) [(2, .int (nI (q - e))), (0, .ref (b + (14 + 22 * i + 3 * t))), (1, .int (nI e))] rfl ?_
  refine z_aload_n C d_Que_deepen_11 rfl 1 rfl ?_
  refine z_iload_n C d_Que_deepen_12 rfl 0 rfl ?_
  refine zf_Vv C d_Que_deepen_13 (c_Que_dropOldest l D ca b σ hi ht (m := (q - e)) hq (by omega) hq4) tw_441 tw_442 tw_443 tw_5 tw_444 pd_Que_dropOldest ⟨⟨by decide, by decide⟩, rfl, rfl, by decide, by decide⟩ (by omega) rfl (eB_Que hi ht) rfl (Nat.le_of_ble_eq_true rfl) rfl ?_
  refine z_aload_n C d_Que_deepen_16 rfl 1 rfl ?_
  refine z_iload_n C d_Que_deepen_17 rfl 2 rfl ?_
  refine pB_Que_depth C d_Que_deepen_18 tw_102 hi ht ?_
  refine z_iload_n C d_Que_deepen_21 rfl 0 rfl ?_
  exact hret _ _ _ _ d_Que_deepen_22 ⟨rfl, rfl⟩
def qPut (σ : Sg) (i t q : Nat) (v s w : Int32) : Sg := us (upA σ (35, i, t) (upd (upd (upd (σ.1 35 i t) (q * 3) v) (q * 3 + 1) s) (q * 3 + 2) w)) 34 i t (nI (q + 1))
def qApp (σ : Sg) (i t q d : Nat) (v s w : Int32) : Sg := if q < d then qPut (qDrop σ i t q 0) i t q v s w else qPut (qDrop σ i t q 1) i t (q - 1) v s w
def qLost (q d : Nat) : Int32 := if q < d then 0 else 1
set_option maxRecDepth 100000 in
set_option maxHeartbeats 4000000 in
/-- one more message -/
theorem c_Que_append (l : Launch) (D : va_G) (ca : Nat → ClassId) (b : Nat) (σ : Sg) {i t : Nat} (hi : i < 6) (ht : t < 6) {q e : Nat} (hq : σ.1 34 i t 0 = nI q) (hd : σ.1 33 i t 0 = nI e) (hqe : q ≤ e) (he1 : 1 ≤ e) (hq4 : q ≤ 4) (he4 : e ≤ 4) (v s w : Int32) : CtI l D ca SB b 182 y_Que_append w_Que_append (rmN 2 39) σ [.ref (b + (14 + 22 * i + 3 * t)), .int v, .int s, .int w] (fun r σ' => r = qLost q e ∧ σ' = qApp σ i t q e v s w) := by
  refine ct_i "RobotBus$Queue" [(0, .ref (b + (14 + 22 * i + 3 * t))), (1, .int v), (2, .int s), (3, .int w)] (by decide) rfl (Nat.le_of_ble_eq_true rfl) rfl (fun X C hret => ?_)
  refine z_aload_n C d_Que_append_0 rfl 0 rfl ?_
  refine gB_Que_size C d_Que_append_1 tw_103 hi ht ?_
  refine z_aload_n C d_Que_append_4 rfl 0 rfl ?_
  refine gB_Que_depth C d_Que_append_5 tw_102 hi ht ?_
  refine z_icmp_ge C 15 d_Que_append_8 (by decide) (fun h8 => ?_) (fun h8 => ?_)
  · rw [hd, hq, nI_leI (by omega) (by omega)] at h8
    refine z_iconst C (v := 1) d_Que_append_15 (by decide) ?_
    refine z_istore C d_Que_append_16 (by decide) [(4, .int 1), (0, .ref (b + (14 + 22 * i + 3 * t))), (1, .int v), (2, .int s), (3, .int w)] rfl ?_
    refine z_aload_n C d_Que_append_18 rfl 1 rfl ?_
    refine z_iload C d_Que_append_19 0 rfl ?_
    refine z_ri (x' := nI 1) (by decide) ?_
    refine zf_Vv C d_Que_append_21 (c_Que_dropOldest l D ca b σ hi ht (m := 1) hq (by omega) hq4) tw_441 tw_442 tw_443 tw_5 tw_444 pd_Que_dropOldest ⟨⟨by decide, by decide⟩, rfl, rfl, by decide, by decide⟩ (by omega) rfl (eB_Que hi ht) rfl (Nat.le_of_ble_eq_true rfl) rfl ?_
    refine z_aload_n C d_Que_append_24 rfl 1 rfl ?_
    refine gB_Que_size C d_Que_append_25 tw_103 hi ht ?_
    refine z_iconst C (v := 3) d_Que_append_28 (by decide) ?_
    refine z_imul C d_Que_append_29 ?_
    refine z_ri (x' := nI ((q - 1) * 3)) (by rw [qDrop_sz, show (3 : Int32) = nI 3 by decide, pk_mul] <;> rfl) ?_
    refine z_istore C d_Que_append_30 (by decide) [(5, .int (nI ((q - 1) * 3))), (4, .int 1), (0, .ref (b + (14 + 22 * i + 3 * t))), (1, .int v), (2, .int s), (3, .int w)] rfl ?_
    refine z_aload_n C d_Que_append_32 rfl 2 rfl ?_
    refine gB_Que_cells C d_Que_append_33 tw_101 hi ht ?_
    refine z_iload C d_Que_append_36 0 rfl ?_
    refine z_iload_n C d_Que_append_38 rfl 3 rfl ?_
    refine stB_cell C (q := ((q - 1) * 3)) d_Que_append_39 hi ht rfl (by omega) ?_
    refine z_aload_n C d_Que_append_40 rfl 2 rfl ?_
    refine gB_Que_cells C d_Que_append_41 tw_101 hi ht ?_
    refine z_iload C d_Que_append_44 0 rfl ?_
    refine z_iconst C (v := 1) d_Que_append_46 (by decide) ?_
    refine z_iadd C d_Que_append_47 ?_
    refine z_ri (x' := nI ((q - 1) * 3 + 1)) (nI_add _ 1) ?_
    refine z_iload_n C d_Que_append_48 rfl 4 rfl ?_
    refine stB_cell C (q := ((q - 1) * 3 + 1)) d_Que_append_49 hi ht rfl (by omega) ?_
    refine z_aload_n C d_Que_append_50 rfl 2 rfl ?_
    refine gB_Que_cells C d_Que_append_51 tw_101 hi ht ?_
    refine z_iload C d_Que_append_54 0 rfl ?_
    refine z_iconst C (v := 2) d_Que_append_56 (by decide) ?_
    refine z_iadd C d_Que_append_57 ?_
    refine z_ri (x' := nI ((q - 1) * 3 + 2)) (nI_add _ 2) ?_
    refine z_iload_n C d_Que_append_58 rfl 5 rfl ?_
    refine stB_cell C (q := ((q - 1) * 3 + 2)) d_Que_append_59 hi ht rfl (by omega) ?_
    refine z_aload_n C d_Que_append_60 rfl 2 rfl ?_
    refine z_dup C d_Que_append_61 rfl ?_
    refine gB_Que_size C d_Que_append_62 tw_103 hi ht ?_
    refine z_iconst C (v := 1) d_Que_append_65 (by decide) ?_
    refine z_iadd C d_Que_append_66 ?_
    refine z_ri (x' := nI ((q - 1) + 1)) (by simp only [upA_ne (show ¬ (34, i, t) = (35, i, t) by simp)]; rw [qDrop_sz]; exact nI_add _ 1) ?_
    refine pB_Que_size C d_Que_append_67 tw_103 hi ht ?_
    refine z_iload C d_Que_append_70 1 rfl ?_
    exact hret _ _ _ _ d_Que_append_72 ⟨by simp [qLost, show ¬ q < e by omega], by simp [qApp, qPut, show ¬ q < e by omega, upA_self, upA_upA]⟩
  · rw [hd, hq, nI_leI (by omega) (by omega)] at h8
    refine z_iconst C (v := 0) d_Que_append_11 (by decide) ?_
    refine z_goto C 16 d_Que_append_12 (by decide) ?_
    refine z_istore C d_Que_append_16 (by decide) [(4, .int 0), (0, .ref (b + (14 + 22 * i + 3 * t))), (1, .int v), (2, .int s), (3, .int w)] rfl ?_
    refine z_aload_n C d_Que_append_18 rfl 1 rfl ?_
    refine z_iload C d_Que_append_19 0 rfl ?_
    refine z_ri (x' := nI 0) (by decide) ?_
    refine zf_Vv C d_Que_append_21 (c_Que_dropOldest l D ca b σ hi ht (m := 0) hq (by omega) hq4) tw_441 tw_442 tw_443 tw_5 tw_444 pd_Que_dropOldest ⟨⟨by decide, by decide⟩, rfl, rfl, by decide, by decide⟩ (by omega) rfl (eB_Que hi ht) rfl (Nat.le_of_ble_eq_true rfl) rfl ?_
    refine z_aload_n C d_Que_append_24 rfl 1 rfl ?_
    refine gB_Que_size C d_Que_append_25 tw_103 hi ht ?_
    refine z_iconst C (v := 3) d_Que_append_28 (by decide) ?_
    refine z_imul C d_Que_append_29 ?_
    refine z_ri (x' := nI (q * 3)) (by rw [qDrop_sz, show (3 : Int32) = nI 3 by decide, pk_mul] <;> rfl) ?_
    refine z_istore C d_Que_append_30 (by decide) [(5, .int (nI (q * 3))), (4, .int 0), (0, .ref (b + (14 + 22 * i + 3 * t))), (1, .int v), (2, .int s), (3, .int w)] rfl ?_
    refine z_aload_n C d_Que_append_32 rfl 2 rfl ?_
    refine gB_Que_cells C d_Que_append_33 tw_101 hi ht ?_
    refine z_iload C d_Que_append_36 0 rfl ?_
    refine z_iload_n C d_Que_append_38 rfl 3 rfl ?_
    refine stB_cell C (q := (q * 3)) d_Que_append_39 hi ht rfl (by omega) ?_
    refine z_aload_n C d_Que_append_40 rfl 2 rfl ?_
    refine gB_Que_cells C d_Que_append_41 tw_101 hi ht ?_
    refine z_iload C d_Que_append_44 0 rfl ?_
    refine z_iconst C (v := 1) d_Que_append_46 (by decide) ?_
    refine z_iadd C d_Que_append_47 ?_
    refine z_ri (x' := nI (q * 3 + 1)) (nI_add _ 1) ?_
    refine z_iload_n C d_Que_append_48 rfl 4 rfl ?_
    refine stB_cell C (q := (q * 3 + 1)) d_Que_append_49 hi ht rfl (by omega) ?_
    refine z_aload_n C d_Que_append_50 rfl 2 rfl ?_
    refine gB_Que_cells C d_Que_append_51 tw_101 hi ht ?_
    refine z_iload C d_Que_append_54 0 rfl ?_
    refine z_iconst C (v := 2) d_Que_append_56 (by decide) ?_
    refine z_iadd C d_Que_append_57 ?_
    refine z_ri (x' := nI (q * 3 + 2)) (nI_add _ 2) ?_
    refine z_iload_n C d_Que_append_58 rfl 5 rfl ?_
    refine stB_cell C (q := (q * 3 + 2)) d_Que_append_59 hi ht rfl (by omega) ?_
    refine z_aload_n C d_Que_append_60 rfl 2 rfl ?_
    refine z_dup C d_Que_append_61 rfl ?_
    refine gB_Que_size C d_Que_append_62 tw_103 hi ht ?_
    refine z_iconst C (v := 1) d_Que_append_65 (by decide) ?_
    refine z_iadd C d_Que_append_66 ?_
    refine z_ri (x' := nI (q + 1)) (by simp only [upA_ne (show ¬ (34, i, t) = (35, i, t) by simp)]; rw [qDrop_sz]; exact nI_add _ 1) ?_
    refine pB_Que_size C d_Que_append_67 tw_103 hi ht ?_
    refine z_iload C d_Que_append_70 1 rfl ?_
    exact hret _ _ _ _ d_Que_append_72 ⟨by simp [qLost, show q < e by omega], by simp [qApp, qPut, show q < e by omega, upA_self, upA_upA]⟩
end
section
/-! Topic, Bag -/
def tLast (σ : Sg) (i : Nat) (v s w : Int32) : Sg := us (us (us (us σ 42 i 0 1) 43 i 0 v) 44 i 0 s) 45 i 0 w
set_option maxRecDepth 100000 in
set_option maxHeartbeats 4000000 in
/-- the last message of a topic -/
theorem c_Top_setLast (l : Launch) (D : va_G) (ca : Nat → ClassId) (b : Nat) (σ : Sg) {i : Nat} (hi : i < 6) (v s w : Int32) : CtV l D ca SB b 182 y_Top_setLast w_Top_setLast (rmN 0 0) σ [.ref (b + (142 + i)), .int v, .int s, .int w] (fun σ' => σ' = tLast σ i v s w) := by
  refine ct_v "RobotBus$Topic" [(0, .ref (b + (142 + i))), (1, .int v), (2, .int s), (3, .int w)] (by decide) rfl (Nat.le_of_ble_eq_true rfl) rfl (fun X C hret => ?_)
  refine z_aload_n C d_Top_setLast_0 rfl 0 rfl ?_
  refine z_iconst C (v := 1) d_Top_setLast_1 (by decide) ?_
  refine pB_Top_hasLast C d_Top_setLast_2 tw_161 hi (by decide) ?_
  refine z_aload_n C d_Top_setLast_5 rfl 0 rfl ?_
  refine z_iload_n C d_Top_setLast_6 rfl 1 rfl ?_
  refine pB_Top_lastValue C d_Top_setLast_7 tw_163 hi ?_
  refine z_aload_n C d_Top_setLast_10 rfl 0 rfl ?_
  refine z_iload_n C d_Top_setLast_11 rfl 2 rfl ?_
  refine pB_Top_lastSender C d_Top_setLast_12 tw_165 hi ?_
  refine z_aload_n C d_Top_setLast_15 rfl 0 rfl ?_
  refine z_iload_n C d_Top_setLast_16 rfl 3 rfl ?_
  refine pB_Top_lastStamp C d_Top_setLast_17 tw_167 hi ?_
  exact hret _ _ _ d_Top_setLast_20 rfl
def bPlay (σ : Sg) : Int32 := if σ.1 12 0 0 0 ≤ σ.1 11 0 0 0 then 0 else 1
set_option maxRecDepth 100000 in
set_option maxHeartbeats 4000000 in
/-- whether it plays -/
theorem c_Bag_isPlaying (l : Launch) (D : va_G) (ca : Nat → ClassId) (b : Nat) (σ : Sg)  : CtI l D ca SB b 182 y_Bag_isPlaying w_Bag_isPlaying (rmN 0 0) σ [.ref (b + 5)] (fun r σ' => r = bPlay σ ∧ σ' = σ) := by
  refine ct_z "RobotBus$Bag" [(0, .ref (b + 5))] (by decide) rfl (Nat.le_of_ble_eq_true rfl) rfl (fun X C hret => ?_)
  refine z_aload_n C d_Bag_isPlaying_0 rfl 0 rfl ?_
  refine gB_Bag_next C d_Bag_isPlaying_1 tw_50  ?_
  refine z_aload_n C d_Bag_isPlaying_4 rfl 0 rfl ?_
  refine gB_Bag_end C d_Bag_isPlaying_5 tw_51  ?_
  refine z_icmp_ge C 15 d_Bag_isPlaying_8 (by decide) (fun h8 => ?_) (fun h8 => ?_)
  · refine z_iconst C (v := 0) d_Bag_isPlaying_15 (by decide) ?_
    exact hret _ _ _ _ d_Bag_isPlaying_16 (by decide) ⟨by simp [bPlay, h8], rfl⟩
  · refine z_iconst C (v := 1) d_Bag_isPlaying_11 (by decide) ?_
    refine z_goto C 16 d_Bag_isPlaying_12 (by decide) ?_
    exact hret _ _ _ _ d_Bag_isPlaying_16 (by decide) ⟨by simp [bPlay, h8], rfl⟩
def bApp (σ : Sg) (z : Nat) (t o v : Int32) : Sg := if z < 30 then us (upA (upA (upA σ (15, 0, 0) (upd (σ.1 15 0 0) z t)) (16, 0, 0) (upd (σ.1 16 0 0) z o)) (17, 0, 0) (upd (σ.1 17 0 0) z v)) 10 0 0 (nI (z + 1)) else σ
set_option maxRecDepth 100000 in
set_option maxHeartbeats 4000000 in
/-- one more record, if there is room -/
theorem c_Bag_append (l : Launch) (D : va_G) (ca : Nat → ClassId) (b : Nat) (σ : Sg) {z : Nat} (hz : σ.1 10 0 0 0 = nI z) (hz30 : z ≤ 30) (t o v : Int32) : CtV l D ca SB b 182 y_Bag_append w_Bag_append (rmN 0 0) σ [.ref (b + 5), .int t, .int o, .int v] (fun σ' => σ' = bApp σ z t o v) := by
  refine ct_v "RobotBus$Bag" [(0, .ref (b + 5)), (1, .int t), (2, .int o), (3, .int v)] (by decide) rfl (Nat.le_of_ble_eq_true rfl) rfl (fun X C hret => ?_)
  refine z_aload_n C d_Bag_append_0 rfl 0 rfl ?_
  refine gB_Bag_size C d_Bag_append_1 tw_48  ?_
  refine z_bipush C (v := 30) d_Bag_append_4 (by decide) ?_
  refine z_icmp_ge C 49 d_Bag_append_6 (by decide) (fun h6 => ?_) (fun h6 => ?_)
  · rw [hz, show (30 : Int32) = nI 30 by decide, nI_leI (by omega) (by omega)] at h6
    exact hret _ _ _ d_Bag_append_49 (by simp [bApp, show ¬ z < 30 by omega])
  · rw [hz, show (30 : Int32) = nI 30 by decide, nI_leI (by omega) (by omega)] at h6
    refine z_aload_n C d_Bag_append_9 rfl 0 rfl ?_
    refine gB_Bag_times C d_Bag_append_10 tw_43  ?_
    refine z_aload_n C d_Bag_append_13 rfl 0 rfl ?_
    refine gB_Bag_size C d_Bag_append_14 tw_48  ?_
    refine z_ri (x' := nI z) (by first | exact hz | (simp only [upA_ne (show ¬ (10, 0, 0) = (15, 0, 0) by decide), upA_ne (show ¬ (10, 0, 0) = (16, 0, 0) by decide), upA_ne (show ¬ (10, 0, 0) = (17, 0, 0) by decide)]; exact hz)) ?_
    refine z_iload_n C d_Bag_append_17 rfl 1 rfl ?_
    refine stB_bagT C (q := z) d_Bag_append_18  rfl (by omega) ?_
    refine z_aload_n C d_Bag_append_19 rfl 0 rfl ?_
    refine gB_Bag_topics C d_Bag_append_20 tw_44  ?_
    refine z_aload_n C d_Bag_append_23 rfl 0 rfl ?_
    refine gB_Bag_size C d_Bag_append_24 tw_48  ?_
    refine z_ri (x' := nI z) (by first | exact hz | (simp only [upA_ne (show ¬ (10, 0, 0) = (15, 0, 0) by decide), upA_ne (show ¬ (10, 0, 0) = (16, 0, 0) by decide), upA_ne (show ¬ (10, 0, 0) = (17, 0, 0) by decide)]; exact hz)) ?_
    refine z_iload_n C d_Bag_append_27 rfl 2 rfl ?_
    refine stB_bagO C (q := z) d_Bag_append_28  rfl (by omega) ?_
    refine z_aload_n C d_Bag_append_29 rfl 0 rfl ?_
    refine gB_Bag_values C d_Bag_append_30 tw_46  ?_
    refine z_aload_n C d_Bag_append_33 rfl 0 rfl ?_
    refine gB_Bag_size C d_Bag_append_34 tw_48  ?_
    refine z_ri (x' := nI z) (by first | exact hz | (simp only [upA_ne (show ¬ (10, 0, 0) = (15, 0, 0) by decide), upA_ne (show ¬ (10, 0, 0) = (16, 0, 0) by decide), upA_ne (show ¬ (10, 0, 0) = (17, 0, 0) by decide)]; exact hz)) ?_
    refine z_iload_n C d_Bag_append_37 rfl 3 rfl ?_
    refine stB_bagV C (q := z) d_Bag_append_38  rfl (by omega) ?_
    refine z_aload_n C d_Bag_append_39 rfl 0 rfl ?_
    refine z_dup C d_Bag_append_40 rfl ?_
    refine gB_Bag_size C d_Bag_append_41 tw_48  ?_
    refine z_iconst C (v := 1) d_Bag_append_44 (by decide) ?_
    refine z_iadd C d_Bag_append_45 ?_
    refine z_ri (x' := nI (z + 1)) (by simp only [upA_ne (show ¬ (10, 0, 0) = (15, 0, 0) by decide), upA_ne (show ¬ (10, 0, 0) = (16, 0, 0) by decide), upA_ne (show ¬ (10, 0, 0) = (17, 0, 0) by decide)]; rw [hz]; exact nI_add z 1) ?_
    refine pB_Bag_size C d_Bag_append_46 tw_48  ?_
    exact hret _ _ _ d_Bag_append_49 (by simp only [bApp, show z < 30 by omega, if_true, upA_ne (show ¬ (16, 0, 0) = (15, 0, 0) by decide), upA_ne (show ¬ (17, 0, 0) = (15, 0, 0) by decide), upA_ne (show ¬ (17, 0, 0) = (16, 0, 0) by decide)])
def bStart (σ : Sg) (c s : Int32) : Sg := us (us (us (us σ 11 0 0 0) 12 0 0 (σ.1 10 0 0 0)) 13 0 0 c) 14 0 0 s
set_option maxRecDepth 100000 in
set_option maxHeartbeats 4000000 in
/-- playing begins -/
theorem c_Bag_start (l : Launch) (D : va_G) (ca : Nat → ClassId) (b : Nat) (σ : Sg) (c s : Int32) : CtV l D ca SB b 182 y_Bag_start w_Bag_start (rmN 0 0) σ [.ref (b + 5), .int c, .int s] (fun σ' => σ' = bStart σ c s) := by
  refine ct_v "RobotBus$Bag" [(0, .ref (b + 5)), (1, .int c), (2, .int s)] (by decide) rfl (Nat.le_of_ble_eq_true rfl) rfl (fun X C hret => ?_)
  refine z_aload_n C d_Bag_start_0 rfl 0 rfl ?_
  refine z_iconst C (v := 0) d_Bag_start_1 (by decide) ?_
  refine pB_Bag_next C d_Bag_start_2 tw_50  ?_
  refine z_aload_n C d_Bag_start_5 rfl 0 rfl ?_
  refine z_aload_n C d_Bag_start_6 rfl 0 rfl ?_
  refine gB_Bag_size C d_Bag_start_7 tw_48  ?_
  refine pB_Bag_end C d_Bag_start_10 tw_51  ?_
  refine z_aload_n C d_Bag_start_13 rfl 0 rfl ?_
  refine z_iload_n C d_Bag_start_14 rfl 1 rfl ?_
  refine pB_Bag_startClock C d_Bag_start_15 tw_52  ?_
  refine z_aload_n C d_Bag_start_18 rfl 0 rfl ?_
  refine z_iload_n C d_Bag_start_19 rfl 2 rfl ?_
  refine pB_Bag_pace C d_Bag_start_20 tw_53  ?_
  exact hret _ _ _ d_Bag_start_23 (by simp only [bStart, us_ne (show ¬ (10, 0, 0) = (11, 0, 0) by decide)])
set_option maxRecDepth 100000 in
set_option maxHeartbeats 4000000 in
/-- the next record -/
theorem c_Bag_takeNext (l : Launch) (D : va_G) (ca : Nat → ClassId) (b : Nat) (σ : Sg)  : CtI l D ca SB b 182 y_Bag_takeNext w_Bag_takeNext (rmN 0 0) σ [.ref (b + 5)] (fun r σ' => r = σ.1 11 0 0 0 ∧ σ' = us σ 11 0 0 (σ.1 11 0 0 0 + 1)) := by
  refine ct_i "RobotBus$Bag" [(0, .ref (b + 5))] (by decide) rfl (Nat.le_of_ble_eq_true rfl) rfl (fun X C hret => ?_)
  refine z_aload_n C d_Bag_takeNext_0 rfl 0 rfl ?_
  refine gB_Bag_next C d_Bag_takeNext_1 tw_50  ?_
  refine z_istore_n C d_Bag_takeNext_4 rfl (by decide) [(1, .int (σ.1 11 0 0 0)), (0, .ref (b + 5))] rfl ?_
  refine z_aload_n C d_Bag_takeNext_5 rfl 1 rfl ?_
  refine z_dup C d_Bag_takeNext_6 rfl ?_
  refine gB_Bag_next C d_Bag_takeNext_7 tw_50  ?_
  refine z_iconst C (v := 1) d_Bag_takeNext_10 (by decide) ?_
  refine z_iadd C d_Bag_takeNext_11 ?_
  refine pB_Bag_next C d_Bag_takeNext_12 tw_50  ?_
  refine z_iload_n C d_Bag_takeNext_15 rfl 0 rfl ?_
  exact hret _ _ _ _ d_Bag_takeNext_16 ⟨rfl, rfl⟩
def bDue (σ : Sg) (c : Int32) (x : Nat) : Int32 := if σ.1 12 0 0 0 ≤ σ.1 11 0 0 0 then 0 else if c < σ.1 13 0 0 0 + (σ.1 15 0 0 x - σ.1 15 0 0 0 + σ.1 14 0 0 0 - 1) / σ.1 14 0 0 0 then 0 else 1
set_option maxRecDepth 100000 in
set_option maxHeartbeats 4000000 in
/-- whether the next record is due -/
theorem c_Bag_isDue (l : Launch) (D : va_G) (ca : Nat → ClassId) (b : Nat) (σ : Sg) (c : Int32) {x : Nat} (hx : σ.1 11 0 0 0 = nI x) (hx30 : ¬ σ.1 12 0 0 0 ≤ σ.1 11 0 0 0 → x < 30) (hp : ¬ σ.1 14 0 0 0 = 0) : CtI l D ca SB b 182 y_Bag_isDue w_Bag_isDue (rmN 1 20) σ [.ref (b + 5), .int c] (fun r σ' => r = bDue σ c x ∧ σ' = σ) := by
  refine ct_z "RobotBus$Bag" [(0, .ref (b + 5)), (1, .int c)] (by decide) rfl (Nat.le_of_ble_eq_true rfl) rfl (fun X C hret => ?_)
  refine z_aload_n C d_Bag_isDue_0 rfl 0 rfl ?_
  refine zf_Vi C d_Bag_isDue_1 (c_Bag_isPlaying l D ca b σ) tw_552 tw_553 tw_554 tw_2 tw_555 pd_Bag_isPlaying ⟨⟨by decide, by decide⟩, rfl, rfl, by decide, by decide⟩ (by omega) rfl (eB_Bag ) rfl (Nat.le_of_ble_eq_true rfl) rfl ?_
  refine z_if_ne C 9 d_Bag_isDue_4 (by decide) (fun h4 => ?_) (fun h4 => ?_)
  · have h9 : ¬ σ.1 12 0 0 0 ≤ σ.1 11 0 0 0 := fun q => h4 (by simp [bPlay, q])
    refine z_aload_n C d_Bag_isDue_9 rfl 0 rfl ?_
    refine gB_Bag_times C d_Bag_isDue_10 tw_43  ?_
    refine z_aload_n C d_Bag_isDue_13 rfl 0 rfl ?_
    refine gB_Bag_next C d_Bag_isDue_14 tw_50  ?_
    refine z_ri (x' := nI x) hx ?_
    refine lB_bagT C (q := x) d_Bag_isDue_17  rfl (hx30 h9) ?_
    refine z_aload_n C d_Bag_isDue_18 rfl 0 rfl ?_
    refine gB_Bag_times C d_Bag_isDue_19 tw_43  ?_
    refine z_iconst C (v := 0) d_Bag_isDue_22 (by decide) ?_
    refine lB_bagT C (q := 0) d_Bag_isDue_23  (by decide) (by omega) ?_
    refine z_isub C d_Bag_isDue_24 ?_
    refine z_istore_n C d_Bag_isDue_25 rfl (by decide) [(2, .int ((σ.1 15 0 0 x) - (σ.1 15 0 0 0))), (0, .ref (b + 5)), (1, .int c)] rfl ?_
    refine z_aload_n C d_Bag_isDue_26 rfl 1 rfl ?_
    refine gB_Bag_startClock C d_Bag_isDue_27 tw_52  ?_
    refine z_iload_n C d_Bag_isDue_30 rfl 0 rfl ?_
    refine z_aload_n C d_Bag_isDue_31 rfl 1 rfl ?_
    refine gB_Bag_pace C d_Bag_isDue_32 tw_53  ?_
    refine z_iadd C d_Bag_isDue_35 ?_
    refine z_iconst C (v := 1) d_Bag_isDue_36 (by decide) ?_
    refine z_isub C d_Bag_isDue_37 ?_
    refine z_aload_n C d_Bag_isDue_38 rfl 1 rfl ?_
    refine gB_Bag_pace C d_Bag_isDue_39 tw_53  ?_
    refine z_idiv C d_Bag_isDue_42 hp ?_
    refine z_iadd C d_Bag_isDue_43 ?_
    refine z_iload_n C d_Bag_isDue_44 rfl 2 rfl ?_
    refine z_icmp_gt C 52 d_Bag_isDue_45 (by decide) (fun h45 => ?_) (fun h45 => ?_)
    · refine z_iconst C (v := 0) d_Bag_isDue_52 (by decide) ?_
      exact hret _ _ _ _ d_Bag_isDue_53 (by decide) ⟨by simp [bDue, h9, h45], rfl⟩
    · refine z_iconst C (v := 1) d_Bag_isDue_48 (by decide) ?_
      refine z_goto C 53 d_Bag_isDue_49 (by decide) ?_
      exact hret _ _ _ _ d_Bag_isDue_53 (by decide) ⟨by simp [bDue, h9, h45], rfl⟩
  · have h9 : σ.1 12 0 0 0 ≤ σ.1 11 0 0 0 := by
      by_cases q : σ.1 12 0 0 0 ≤ σ.1 11 0 0 0
      · exact q
      · simp [bPlay, q] at h4
    refine z_iconst C (v := 0) d_Bag_isDue_7 (by decide) ?_
    exact hret _ _ _ _ d_Bag_isDue_8 (by decide) ⟨by simp [bDue, h9], rfl⟩
/-! Node -/
set_option maxRecDepth 100000 in
set_option maxHeartbeats 4000000 in
/-- takes the oldest message of a topic -/
theorem c_Nod_takeFrom (l : Launch) (D : va_G) (ca : Nat → ClassId) (b : Nat) (σ : Sg) {i t q : Nat} (hi : i < 6) (ht : t < 6) (hq : σ.1 34 i t 0 = nI q) (hq1 : 1 ≤ q) (hq4 : q ≤ 4) : CtI l D ca SB b 182 y_Nod_takeFrom w_Nod_takeFrom (rmN 2 40) σ [.ref (b + (10 + 22 * i)), .int (nI t)] (fun r σ' => r = σ.1 35 i t (0 * 3 + 0) ∧ σ' = us (qDrop σ i t q 1) 31 i 0 (nI ((t + 1) % 6))) := by
  refine ct_i "RobotBus$Node" [(0, .ref (b + (10 + 22 * i))), (1, .int (nI t))] (by decide) rfl (Nat.le_of_ble_eq_true rfl) rfl (fun X C hret => ?_)
  refine z_aload_n C d_Nod_takeFrom_0 rfl 0 rfl ?_
  refine gB_Nod_queues C d_Nod_takeFrom_1 tw_134 hi ?_
  refine z_iload_n C d_Nod_takeFrom_4 rfl 1 rfl ?_
  refine rB_ques C (j := t) d_Nod_takeFrom_5 hi rfl ht ?_
  refine z_iconst C (v := 0) d_Nod_takeFrom_6 (by decide) ?_
  refine z_iconst C (v := 0) d_Nod_takeFrom_7 (by decide) ?_
  refine z_ri (x' := nI 0) (by decide) ?_
  refine z_ri2 (x' := nI 0) (by decide) ?_
  refine zf_Vi C d_Nod_takeFrom_8 (c_Que_part l D ca b σ hi ht (p := 0) (w := 0) (by decide) (by decide)) tw_572 tw_573 tw_574 tw_5 tw_575 pd_Que_part ⟨⟨by decide, by decide⟩, rfl, rfl, by decide, by decide⟩ (by omega) rfl (eB_Que hi ht) rfl (Nat.le_of_ble_eq_true rfl) rfl ?_
  refine z_istore_n C d_Nod_takeFrom_11 rfl (by decide) [(2, .int (σ.1 35 i t (0 * 3 + 0))), (0, .ref (b + (10 + 22 * i))), (1, .int (nI t))] rfl ?_
  refine z_aload_n C d_Nod_takeFrom_12 rfl 1 rfl ?_
  refine gB_Nod_queues C d_Nod_takeFrom_13 tw_134 hi ?_
  refine z_iload_n C d_Nod_takeFrom_16 rfl 2 rfl ?_
  refine rB_ques C (j := t) d_Nod_takeFrom_17 hi rfl ht ?_
  refine z_iconst C (v := 1) d_Nod_takeFrom_18 (by decide) ?_
  refine z_ri (x' := nI 1) (by decide) ?_
  refine zf_Vv C d_Nod_takeFrom_19 (c_Que_dropOldest l D ca b σ hi ht (m := 1) hq hq1 hq4) tw_576 tw_442 tw_443 tw_5 tw_444 pd_Que_dropOldest ⟨⟨by decide, by decide⟩, rfl, rfl, by decide, by decide⟩ (by omega) rfl (eB_Que hi ht) rfl (Nat.le_of_ble_eq_true rfl) rfl ?_
  refine z_aload_n C d_Nod_takeFrom_22 rfl 1 rfl ?_
  refine z_iload_n C d_Nod_takeFrom_23 rfl 2 rfl ?_
  refine z_iconst C (v := 1) d_Nod_takeFrom_24 (by decide) ?_
  refine z_iadd C d_Nod_takeFrom_25 ?_
  refine z_bipush C (v := 6) d_Nod_takeFrom_26 (by decide) ?_
  refine z_irem C d_Nod_takeFrom_28 (by decide) ?_
  refine z_ri (x' := nI ((t + 1) % 6)) (by rw [nI_1, show (6 : Int32) = nI 6 by decide]; exact pk_rem (by omega) (by decide) (by decide)) ?_
  refine pB_Nod_firstLookedAt C d_Nod_takeFrom_29 tw_140 hi ?_
  refine z_iload_n C d_Nod_takeFrom_32 rfl 0 rfl ?_
  exact hret _ _ _ _ d_Nod_takeFrom_33 ⟨rfl, rfl⟩
def nTop (σ : Sg) (i f : Nat) : Nat → Nat → Int32
  | 0, _ => -1
  | m + 1, k => if σ.1 34 i ((f + k) % 6) 0 ≤ 0 then nTop σ i f m (k + 1) else nI ((f + k) % 6)
set_option maxRecDepth 100000 in
set_option maxHeartbeats 4000000 in
theorem lp_Nod_nextTopic (l : Launch) (D : va_G) (ca : Nat → ClassId) (b : Nat) {R : Room} {X : Zx} {cx : Cond} (C : Cs D ca b_Nod_nextTopic 3 "RobotBus$Node" cx X) (σ : Sg) {i f : Nat} (hi : i < 6) (hf : σ.1 31 i 0 0 = nI f) (hf6 : f < 6) (hret : ∀ (v : Int32) (σ' : Sg) (pc : Nat) (L' : List (Nat × Value)), decode b_Nod_nextTopic pc = .ok (.ireturn, 1) → (v = nTop σ i f 6 0 ∧ σ' = σ) → Zs l D ca SB b 182 R 3 X σ' pc L' [.int v]) : ∀ m k, k + m = 6 → nTop σ i f 6 0 = nTop σ i f m k → Zs l D ca SB b 182 R 3 X σ 2 [(1, .int (nI k)), (0, .ref (b + (10 + 22 * i)))] [] := by
  intro m
  induction m with
  | zero =>
    intro k hk he
    have hk6 : k = 6 := by omega
    subst hk6
    refine z_iload_n C d_Nod_nextTopic_2 rfl 0 rfl ?_
    refine z_bipush C (v := 6) d_Nod_nextTopic_3 (by decide) ?_
    refine z_icmp_ge C 38 d_Nod_nextTopic_5 (by decide) (fun h5 => ?_) (fun h5 => False.elim (h5 (by decide)))
    refine z_iconst C (v := -1) d_Nod_nextTopic_38 (by decide) ?_
    exact hret _ _ _ _ d_Nod_nextTopic_39 ⟨by rw [he]; rfl, rfl⟩
  | succ m ih =>
    intro k hk he
    refine z_iload_n C d_Nod_nextTopic_2 rfl 0 rfl ?_
    refine z_bipush C (v := 6) d_Nod_nextTopic_3 (by decide) ?_
    refine z_icmp_ge C 38 d_Nod_nextTopic_5 (by decide) (fun h5 => False.elim (nI_ge (a := k) (b := 6) (by omega) (by decide) h5)) (fun h5 => ?_)
    refine z_aload_n C d_Nod_nextTopic_8 rfl 1 rfl ?_
    refine gB_Nod_firstLookedAt C d_Nod_nextTopic_9 tw_140 hi ?_
    refine z_iload_n C d_Nod_nextTopic_12 rfl 0 rfl ?_
    refine z_ri2 (x' := nI f) hf ?_
    refine z_iadd C d_Nod_nextTopic_13 ?_
    refine z_bipush C (v := 6) d_Nod_nextTopic_14 (by decide) ?_
    refine z_irem C d_Nod_nextTopic_16 (by decide) ?_
    refine z_ri (x' := nI ((f + k) % 6)) (by rw [nI_add, show (6 : Int32) = nI 6 by decide]; exact pk_rem (by omega) (by decide) (by decide)) ?_
    refine z_istore_n C d_Nod_nextTopic_17 rfl (by decide) [(2, .int (nI ((f + k) % 6))), (1, .int (nI k)), (0, .ref (b + (10 + 22 * i)))] rfl ?_
    refine z_aload_n C d_Nod_nextTopic_18 rfl 2 rfl ?_
    refine gB_Nod_queues C d_Nod_nextTopic_19 tw_134 hi ?_
    refine z_iload_n C d_Nod_nextTopic_22 rfl 0 rfl ?_
    refine rB_ques C (j := ((f + k) % 6)) d_Nod_nextTopic_23 hi rfl (by omega) ?_
    refine gB_Que_size C d_Nod_nextTopic_24 tw_104 hi (by omega) ?_
    refine z_if_le C 32 d_Nod_nextTopic_27 (by decide) (fun h27 => ?_) (fun h27 => ?_)
    · refine z_iinc C d_Nod_nextTopic_32 1 rfl (v := (nI (k + 1))) (by rw [← nI_1]; rfl) (by decide) [(1, .int (nI (k + 1))), (2, .int (nI ((f + k) % 6))), (0, .ref (b + (10 + 22 * i)))] rfl ?_
      refine z_goto C 2 d_Nod_nextTopic_35 (by decide) ?_
      refine z_loc [0, 2] rfl ?_
      exact ih (k + 1) (by omega) (by rw [he]; simp [nTop, h27])
    · refine z_iload_n C d_Nod_nextTopic_30 rfl 0 rfl ?_
      exact hret _ _ _ _ d_Nod_nextTopic_31 ⟨by rw [he]; simp [nTop, h27], rfl⟩
set_option maxRecDepth 100000 in
set_option maxHeartbeats 4000000 in
/-- the first topic around with a message -/
theorem c_Nod_nextTopic (l : Launch) (D : va_G) (ca : Nat → ClassId) (b : Nat) (σ : Sg) {i f : Nat} (hi : i < 6) (hf : σ.1 31 i 0 0 = nI f) (hf6 : f < 6) : CtI l D ca SB b 182 y_Nod_nextTopic w_Nod_nextTopic (rmN 0 0) σ [.ref (b + (10 + 22 * i))] (fun r σ' => r = nTop σ i f 6 0 ∧ σ' = σ) := by
  refine ct_i "RobotBus$Node" [(0, .ref (b + (10 + 22 * i)))] (by decide) rfl (Nat.le_of_ble_eq_true rfl) rfl (fun X C hret => ?_)
  refine z_iconst C (v := 0) d_Nod_nextTopic_0 (by decide) ?_
  refine z_istore_n C d_Nod_nextTopic_1 rfl (by decide) [(1, .int 0), (0, .ref (b + (10 + 22 * i)))] rfl ?_
  exact lp_Nod_nextTopic l D ca b C σ hi hf hf6 hret 6 0 rfl rfl
end
section
/-! Node.reset -/
def nR1 (i : Nat) : Nat → Nat → Sg → Int32 → Sg × Int32
  | 0, _, σ, a => (σ, a)
  | m + 1, k, σ, a => nR1 i m (k + 1) (us (qClose σ i k) 36 i k (-1)) (a + σ.1 34 i k 0)
def nR2 (i : Nat) : Nat → Nat → Sg → Sg
  | 0, _, σ => σ
  | m + 1, k, σ => nR2 i m (k + 1) (upA σ (32, i, 0) (upd (σ.1 32 i 0) k 0))
def nRst (σ : Sg) (i : Nat) : Sg := us (us (nR2 i 4 0 (nR1 i 6 0 σ 0).1) 30 i 0 0) 31 i 0 0
set_option maxRecDepth 100000 in
set_option maxHeartbeats 4000000 in
theorem lp_Nod_reset1 (l : Launch) (D : va_G) (ca : Nat → ClassId) (b : Nat) {R : Room} {X : Zx} {y0 : MethodName} {c0 : ByteArray} {n0 : Nat} {r0 : Option FieldType} (hR : 1 ≤ R.frames ∧ 21 ≤ R.locals) (C : Cs D ca b_Nod_reset 3 "RobotBus$Node" (Cond.code y0 c0 n0 r0) X) {i : Nat} (hi : i < 6) : ∀ m k, k + m = 6 → ∀ (σ : Sg) (a : Int32), Zs l D ca SB b 182 R 3 X (nR1 i m k σ a).1 38 [(2, .int (nI 6)), (1, .int (nR1 i m k σ a).2), (0, .ref (b + (10 + 22 * i)))] [] → Zs l D ca SB b 182 R 3 X σ 4 [(2, .int (nI k)), (1, .int a), (0, .ref (b + (10 + 22 * i)))] [] := by
  intro m
  induction m with
  | zero =>
    intro k hk σ a kk
    have hk6 : k = 6 := by omega
    subst hk6
    refine z_iload_n C d_Nod_reset_4 rfl 0 rfl ?_
    refine z_bipush C (v := 6) d_Nod_reset_5 (by decide) ?_
    refine z_icmp_ge C 38 d_Nod_reset_7 (by decide) (fun h7 => ?_) (fun h7 => False.elim (h7 (by decide)))
    exact kk
  | succ m ih =>
    intro k hk σ a kk
    refine z_iload_n C d_Nod_reset_4 rfl 0 rfl ?_
    refine z_bipush C (v := 6) d_Nod_reset_5 (by decide) ?_
    refine z_icmp_ge C 38 d_Nod_reset_7 (by decide) (fun h7 => False.elim (nI_ge (a := k) (b := 6) (by omega) (by decide) h7)) (fun h7 => ?_)
    refine z_iload_n C d_Nod_reset_10 rfl 1 rfl ?_
    refine z_aload_n C d_Nod_reset_11 rfl 2 rfl ?_
    refine gB_Nod_queues C d_Nod_reset_12 tw_134 hi ?_
    refine z_iload_n C d_Nod_reset_15 rfl 0 rfl ?_
    refine rB_ques C (j := k) d_Nod_reset_16 hi rfl (by omega) ?_
    refine zf_Vi C d_Nod_reset_17 (c_Que_close l D ca b σ hi (t := k) (by omega)) tw_407 tw_408 tw_409 tw_5 tw_410 pd_Que_close ⟨⟨hR.1, hR.2⟩, rfl, rfl, Nat.zero_le _, Nat.zero_le _⟩ (by omega) rfl (eB_Que hi (by omega)) rfl (Nat.le_of_ble_eq_true rfl) rfl ?_
    refine z_iadd C d_Nod_reset_20 ?_
    refine z_istore_n C d_Nod_reset_21 rfl (by decide) [(1, .int (a + (σ.1 34 i k 0))), (2, .int (nI k)), (0, .ref (b + (10 + 22 * i)))] rfl ?_
    refine z_aload_n C d_Nod_reset_22 rfl 2 rfl ?_
    refine gB_Nod_actions C d_Nod_reset_23 tw_136 hi ?_
    refine z_iload_n C d_Nod_reset_26 rfl 1 rfl ?_
    refine rB_acts C (j := k) d_Nod_reset_27 hi rfl (by omega) ?_
    refine z_iconst C (v := -1) d_Nod_reset_28 (by decide) ?_
    refine pB_Act_kind C d_Nod_reset_29 tw_119 hi (by omega) ?_
    refine z_iinc C d_Nod_reset_32 1 rfl (v := (nI (k + 1))) (by rw [← nI_1]; rfl) (by decide) [(2, .int (nI (k + 1))), (1, .int (a + (σ.1 34 i k 0))), (0, .ref (b + (10 + 22 * i)))] rfl ?_
    refine z_goto C 4 d_Nod_reset_35 (by decide) ?_
    exact ih (k + 1) (by omega) _ _ kk
set_option maxRecDepth 100000 in
set_option maxHeartbeats 4000000 in
theorem lp_Nod_reset2 (l : Launch) (D : va_G) (ca : Nat → ClassId) (b : Nat) {R : Room} {X : Zx} {y0 : MethodName} {c0 : ByteArray} {n0 : Nat} {r0 : Option FieldType} (C : Cs D ca b_Nod_reset 3 "RobotBus$Node" (Cond.code y0 c0 n0 r0) X) {i : Nat} (hi : i < 6) {a : Int32} : ∀ m k, k + m = 4 → ∀ (σ : Sg), Zs l D ca SB b 182 R 3 X (nR2 i m k σ) 58 [(2, .int (nI 4)), (1, .int a), (0, .ref (b + (10 + 22 * i)))] [] → Zs l D ca SB b 182 R 3 X σ 40 [(2, .int (nI k)), (1, .int a), (0, .ref (b + (10 + 22 * i)))] [] := by
  intro m
  induction m with
  | zero =>
    intro k hk σ kk
    have hk6 : k = 4 := by omega
    subst hk6
    refine z_iload_n C d_Nod_reset_40 rfl 0 rfl ?_
    refine z_iconst C (v := 4) d_Nod_reset_41 (by decide) ?_
    refine z_icmp_ge C 58 d_Nod_reset_42 (by decide) (fun h42 => ?_) (fun h42 => False.elim (h42 (by decide)))
    exact kk
  | succ m ih =>
    intro k hk σ kk
    refine z_iload_n C d_Nod_reset_40 rfl 0 rfl ?_
    refine z_iconst C (v := 4) d_Nod_reset_41 (by decide) ?_
    refine z_icmp_ge C 58 d_Nod_reset_42 (by decide) (fun h42 => False.elim (nI_ge (a := k) (b := 4) (by omega) (by decide) h42)) (fun h42 => ?_)
    refine z_aload_n C d_Nod_reset_45 rfl 2 rfl ?_
    refine gB_Nod_variables C d_Nod_reset_46 tw_132 hi ?_
    refine z_iload_n C d_Nod_reset_49 rfl 0 rfl ?_
    refine z_iconst C (v := 0) d_Nod_reset_50 (by decide) ?_
    refine stB_vars C (q := k) d_Nod_reset_51 hi rfl (by omega) ?_
    refine z_iinc C d_Nod_reset_52 0 rfl (v := (nI (k + 1))) (by rw [← nI_1]; rfl) (by decide) [(2, .int (nI (k + 1))), (1, .int a), (0, .ref (b + (10 + 22 * i)))] rfl ?_
    refine z_goto C 40 d_Nod_reset_55 (by decide) ?_
    exact ih (k + 1) (by omega) _ kk
set_option maxRecDepth 100000 in
set_option maxHeartbeats 4000000 in
/-- Node.reset -/
theorem c_Nod_reset (l : Launch) (D : va_G) (ca : Nat → ClassId) (b : Nat) (σ : Sg) {i : Nat} (hi : i < 6) : CtI l D ca SB b 182 y_Nod_reset w_Nod_reset (rmN 1 21) σ [.ref (b + (10 + 22 * i))] (fun r σ' => r = (nR1 i 6 0 σ 0).2 ∧ σ' = nRst σ i) := by
  refine ct_i "RobotBus$Node" [(0, .ref (b + (10 + 22 * i)))] (by decide) rfl (Nat.le_of_ble_eq_true rfl) rfl (fun X C hret => ?_)
  refine z_iconst C (v := 0) d_Nod_reset_0 (by decide) ?_
  refine z_istore_n C d_Nod_reset_1 rfl (by decide) [(1, .int 0), (0, .ref (b + (10 + 22 * i)))] rfl ?_
  refine z_iconst C (v := 0) d_Nod_reset_2 (by decide) ?_
  refine z_istore_n C d_Nod_reset_3 rfl (by decide) [(2, .int 0), (1, .int 0), (0, .ref (b + (10 + 22 * i)))] rfl ?_
  refine lp_Nod_reset1 l D ca b ⟨by decide, by decide⟩ C hi 6 0 rfl σ 0 ?_
  refine z_iconst C (v := 0) d_Nod_reset_38 (by decide) ?_
  refine z_istore_n C d_Nod_reset_39 rfl (by decide) [(2, .int 0), (1, .int (nR1 i 6 0 σ 0).2), (0, .ref (b + (10 + 22 * i)))] rfl ?_
  refine lp_Nod_reset2 l D ca b C hi 4 0 rfl _ ?_
  refine z_aload_n C d_Nod_reset_58 rfl 2 rfl ?_
  refine z_iconst C (v := 0) d_Nod_reset_59 (by decide) ?_
  refine pB_Nod_present C d_Nod_reset_60 tw_138 hi (by decide) ?_
  refine z_aload_n C d_Nod_reset_63 rfl 2 rfl ?_
  refine z_iconst C (v := 0) d_Nod_reset_64 (by decide) ?_
  refine pB_Nod_firstLookedAt C d_Nod_reset_65 tw_140 hi ?_
  refine z_iload_n C d_Nod_reset_68 rfl 1 rfl ?_
  exact hret _ _ _ _ d_Nod_reset_69 ⟨rfl, rfl⟩
/-! Frame -/
def fBeh (σ : Sg) (i z : Nat) (w : Int32) : Int32 := if z = 0 then 1 else if w ≤ σ.1 62 i 0 (z - 1) then 0 else 1
set_option maxRecDepth 100000 in
set_option maxHeartbeats 4000000 in
/-- whether a time is behind the last sample -/
theorem c_Frm_isBehindLast (l : Launch) (D : va_G) (ca : Nat → ClassId) (b : Nat) (σ : Sg) {i z : Nat} (hi : i < 6) (hz : σ.1 61 i 0 0 = nI z) (hz4 : z ≤ 4) (w : Int32) : CtI l D ca SB b 182 y_Frm_isBehindLast w_Frm_isBehindLast (rmN 0 0) σ [.ref (b + (152 + 5 * i)), .int w] (fun r σ' => r = fBeh σ i z w ∧ σ' = σ) := by
  refine ct_z "RobotBus$Frame" [(0, .ref (b + (152 + 5 * i))), (1, .int w)] (by decide) rfl (Nat.le_of_ble_eq_true rfl) rfl (fun X C hret => ?_)
  refine z_aload_n C d_Frm_isBehindLast_0 rfl 0 rfl ?_
  refine gB_Frm_size C d_Frm_isBehindLast_1 tw_218 hi ?_
  refine z_if_eq C 22 d_Frm_isBehindLast_4 (by decide) (fun h4 => ?_) (fun h4 => ?_)
  · rw [hz, ← nI_0, nI_eq (by omega) (by omega)] at h4
    refine z_iconst C (v := 1) d_Frm_isBehindLast_22 (by decide) ?_
    refine z_goto C 27 d_Frm_isBehindLast_23 (by decide) ?_
    exact hret _ _ _ _ d_Frm_isBehindLast_27 (by decide) ⟨by simp [fBeh, h4, *], rfl⟩
  · rw [hz, ← nI_0, nI_eq (by omega) (by omega)] at h4
    refine z_iload_n C d_Frm_isBehindLast_7 rfl 1 rfl ?_
    refine z_aload_n C d_Frm_isBehindLast_8 rfl 0 rfl ?_
    refine gB_Frm_times C d_Frm_isBehindLast_9 tw_209 hi ?_
    refine z_aload_n C d_Frm_isBehindLast_12 rfl 0 rfl ?_
    refine gB_Frm_size C d_Frm_isBehindLast_13 tw_218 hi ?_
    refine z_iconst C (v := 1) d_Frm_isBehindLast_16 (by decide) ?_
    refine z_isub C d_Frm_isBehindLast_17 ?_
    refine z_ri (x' := nI (z - 1)) (by rw [hz]; exact pk_sub (b := 1) (by omega)) ?_
    refine lB_frT C (q := (z - 1)) d_Frm_isBehindLast_18 hi rfl (by omega) ?_
    refine z_icmp_le C 26 d_Frm_isBehindLast_19 (by decide) (fun h19 => ?_) (fun h19 => ?_)
    · refine z_iconst C (v := 0) d_Frm_isBehindLast_26 (by decide) ?_
      exact hret _ _ _ _ d_Frm_isBehindLast_27 (by decide) ⟨by simp [fBeh, h4, *], rfl⟩
    · refine z_iconst C (v := 1) d_Frm_isBehindLast_22 (by decide) ?_
      refine z_goto C 27 d_Frm_isBehindLast_23 (by decide) ?_
      exact hret _ _ _ _ d_Frm_isBehindLast_27 (by decide) ⟨by simp [fBeh, h4, *], rfl⟩
def fDrop (σ : Sg) (i z : Nat) : Sg := upA (upA (upA (upA (us σ 61 i 0 (nI (z - 1))) (62, i, 0) (va_cpy (σ.1 62 i 0) (σ.1 62 i 0) 1 0 (z - 1))) (63, i, 0) (va_cpy (σ.1 63 i 0) (σ.1 63 i 0) 1 0 (z - 1))) (64, i, 0) (va_cpy (σ.1 64 i 0) (σ.1 64 i 0) 1 0 (z - 1))) (65, i, 0) (va_cpy (σ.1 65 i 0) (σ.1 65 i 0) 1 0 (z - 1))
set_option maxRecDepth 100000 in
set_option maxHeartbeats 4000000 in
/-- the first sample goes -/
theorem c_Frm_dropFirst (l : Launch) (D : va_G) (ca : Nat → ClassId) (b : Nat) (σ : Sg) {i z : Nat} (hi : i < 6) (hz : σ.1 61 i 0 0 = nI z) (hz4 : z ≤ 4) (hz1 : 1 ≤ z) : CtV l D ca SB b 182 y_Frm_dropFirst w_Frm_dropFirst (rmN 1 18) σ [.ref (b + (152 + 5 * i))] (fun σ' => σ' = fDrop σ i z) := by
  refine ct_v "RobotBus$Frame" [(0, .ref (b + (152 + 5 * i)))] (by decide) rfl (Nat.le_of_ble_eq_true rfl) rfl (fun X C hret => ?_)
  refine z_aload_n C d_Frm_dropFirst_0 rfl 0 rfl ?_
  refine z_dup C d_Frm_dropFirst_1 rfl ?_
  refine gB_Frm_size C d_Frm_dropFirst_2 tw_218 hi ?_
  refine z_iconst C (v := 1) d_Frm_dropFirst_5 (by decide) ?_
  refine z_isub C d_Frm_dropFirst_6 ?_
  refine z_ri (x' := nI (z - 1)) (by rw [hz]; exact pk_sub (b := 1) (by omega)) ?_
  refine pB_Frm_size C d_Frm_dropFirst_7 tw_218 hi ?_
  refine z_aload_n C d_Frm_dropFirst_10 rfl 0 rfl ?_
  refine gB_Frm_times C d_Frm_dropFirst_11 tw_209 hi ?_
  refine z_iconst C (v := 1) d_Frm_dropFirst_14 (by decide) ?_
  refine z_aload_n C d_Frm_dropFirst_15 rfl 0 rfl ?_
  refine gB_Frm_times C d_Frm_dropFirst_16 tw_209 hi ?_
  refine z_iconst C (v := 0) d_Frm_dropFirst_19 (by decide) ?_
  refine z_aload_n C d_Frm_dropFirst_20 rfl 0 rfl ?_
  refine gB_Frm_size C d_Frm_dropFirst_21 tw_218 hi ?_
  refine z_copyi C d_Frm_dropFirst_24 (List.mem_cons_of_mem _ tw_690) (List.mem_cons_of_mem _ tw_447) (List.mem_cons_of_mem _ tw_446) (List.mem_cons_of_mem _ tw_18) 0 rfl (by omega) rfl (eB_frT hi) (by decide) (s0 := 1) (d0 := 0) (m0 := z - 1) (by decide) (by decide) (by simp [us, upA]) (by omega) (by omega) (by decide) (Nat.le_of_ble_eq_true rfl) ?_
  refine z_map (uB_frT hi _) ?_
  refine z_aload_n C d_Frm_dropFirst_27 rfl 0 rfl ?_
  refine gB_Frm_xs C d_Frm_dropFirst_28 tw_210 hi ?_
  refine z_iconst C (v := 1) d_Frm_dropFirst_31 (by decide) ?_
  refine z_aload_n C d_Frm_dropFirst_32 rfl 0 rfl ?_
  refine gB_Frm_xs C d_Frm_dropFirst_33 tw_210 hi ?_
  refine z_iconst C (v := 0) d_Frm_dropFirst_36 (by decide) ?_
  refine z_aload_n C d_Frm_dropFirst_37 rfl 0 rfl ?_
  refine gB_Frm_size C d_Frm_dropFirst_38 tw_218 hi ?_
  refine z_copyi C d_Frm_dropFirst_41 (List.mem_cons_of_mem _ tw_690) (List.mem_cons_of_mem _ tw_447) (List.mem_cons_of_mem _ tw_446) (List.mem_cons_of_mem _ tw_18) 0 rfl (by omega) rfl (eB_frX hi) (by decide) (s0 := 1) (d0 := 0) (m0 := z - 1) (by decide) (by decide) (by simp [us, upA]) (by omega) (by omega) (by decide) (Nat.le_of_ble_eq_true rfl) ?_
  refine z_map (uB_frX hi _) ?_
  refine z_aload_n C d_Frm_dropFirst_44 rfl 0 rfl ?_
  refine gB_Frm_ys C d_Frm_dropFirst_45 tw_212 hi ?_
  refine z_iconst C (v := 1) d_Frm_dropFirst_48 (by decide) ?_
  refine z_aload_n C d_Frm_dropFirst_49 rfl 0 rfl ?_
  refine gB_Frm_ys C d_Frm_dropFirst_50 tw_212 hi ?_
  refine z_iconst C (v := 0) d_Frm_dropFirst_53 (by decide) ?_
  refine z_aload_n C d_Frm_dropFirst_54 rfl 0 rfl ?_
  refine gB_Frm_size C d_Frm_dropFirst_55 tw_218 hi ?_
  refine z_copyi C d_Frm_dropFirst_58 (List.mem_cons_of_mem _ tw_690) (List.mem_cons_of_mem _ tw_447) (List.mem_cons_of_mem _ tw_446) (List.mem_cons_of_mem _ tw_18) 0 rfl (by omega) rfl (eB_frY hi) (by decide) (s0 := 1) (d0 := 0) (m0 := z - 1) (by decide) (by decide) (by simp [us, upA]) (by omega) (by omega) (by decide) (Nat.le_of_ble_eq_true rfl) ?_
  refine z_map (uB_frY hi _) ?_
  refine z_aload_n C d_Frm_dropFirst_61 rfl 0 rfl ?_
  refine gB_Frm_turns C d_Frm_dropFirst_62 tw_214 hi ?_
  refine z_iconst C (v := 1) d_Frm_dropFirst_65 (by decide) ?_
  refine z_aload_n C d_Frm_dropFirst_66 rfl 0 rfl ?_
  refine gB_Frm_turns C d_Frm_dropFirst_67 tw_214 hi ?_
  refine z_iconst C (v := 0) d_Frm_dropFirst_70 (by decide) ?_
  refine z_aload_n C d_Frm_dropFirst_71 rfl 0 rfl ?_
  refine gB_Frm_size C d_Frm_dropFirst_72 tw_218 hi ?_
  refine z_copyi C d_Frm_dropFirst_75 (List.mem_cons_of_mem _ tw_690) (List.mem_cons_of_mem _ tw_447) (List.mem_cons_of_mem _ tw_446) (List.mem_cons_of_mem _ tw_18) 0 rfl (by omega) rfl (eB_frU hi) (by decide) (s0 := 1) (d0 := 0) (m0 := z - 1) (by decide) (by decide) (by simp [us, upA]) (by omega) (by omega) (by decide) (Nat.le_of_ble_eq_true rfl) ?_
  refine z_map (uB_frU hi _) ?_
  exact hret _ _ _ d_Frm_dropFirst_78 (by simp [fDrop, us, upA])
def fPut (σ : Sg) (i z : Nat) (w x y u : Int32) : Sg := us (upA (upA (upA (upA σ (62, i, 0) (upd (σ.1 62 i 0) z w)) (63, i, 0) (upd (σ.1 63 i 0) z x)) (64, i, 0) (upd (σ.1 64 i 0) z y)) (65, i, 0) (upd (σ.1 65 i 0) z u)) 61 i 0 (nI (z + 1))
def fApp (σ : Sg) (i z : Nat) (w x y u : Int32) : Sg := if z = 4 then fPut (fDrop σ i 4) i 3 w x y u else fPut σ i z w x y u
theorem fDrop_sz {σ : Sg} {i z : Nat} : (fDrop σ i z).1 61 i 0 0 = nI (z - 1) := by simp [fDrop, us, upA]
set_option maxRecDepth 100000 in
set_option maxHeartbeats 4000000 in
/-- one more sample -/
theorem c_Frm_append (l : Launch) (D : va_G) (ca : Nat → ClassId) (b : Nat) (σ : Sg) {i z : Nat} (hi : i < 6) (hz : σ.1 61 i 0 0 = nI z) (hz4 : z ≤ 4) (w x y u : Int32) : CtV l D ca SB b 182 y_Frm_append w_Frm_append (rmN 2 38) σ [.ref (b + (152 + 5 * i)), .int w, .int x, .int y, .int u] (fun σ' => σ' = fApp σ i z w x y u) := by
  refine ct_v "RobotBus$Frame" [(0, .ref (b + (152 + 5 * i))), (1, .int w), (2, .int x), (3, .int y), (4, .int u)] (by decide) rfl (Nat.le_of_ble_eq_true rfl) rfl (fun X C hret => ?_)
  refine z_aload_n C d_Frm_append_0 rfl 0 rfl ?_
  refine gB_Frm_size C d_Frm_append_1 tw_218 hi ?_
  refine z_iconst C (v := 4) d_Frm_append_4 (by decide) ?_
  refine z_icmp_ne C 12 d_Frm_append_5 (by decide) (fun h5 => ?_) (fun h5 => ?_)
  · rw [hz, show (4 : Int32) = nI 4 by decide, nI_eq (by omega) (by omega)] at h5
    refine z_aload_n C d_Frm_append_12 rfl 0 rfl ?_
    refine gB_Frm_times C d_Frm_append_13 tw_209 hi ?_
    refine z_aload_n C d_Frm_append_16 rfl 0 rfl ?_
    refine gB_Frm_size C d_Frm_append_17 tw_218 hi ?_
    refine z_ri (x' := nI z) (hz) ?_
    refine z_iload_n C d_Frm_append_20 rfl 1 rfl ?_
    refine stB_frT C (q := z) d_Frm_append_21 hi rfl (by omega) ?_
    refine z_aload_n C d_Frm_append_22 rfl 0 rfl ?_
    refine gB_Frm_xs C d_Frm_append_23 tw_210 hi ?_
    refine z_aload_n C d_Frm_append_26 rfl 0 rfl ?_
    refine gB_Frm_size C d_Frm_append_27 tw_218 hi ?_
    refine z_ri (x' := nI z) (by simp only [upA_ne (show ¬ (61, i, 0) = (62, i, 0) by simp), upA_ne (show ¬ (61, i, 0) = (63, i, 0) by simp), upA_ne (show ¬ (61, i, 0) = (64, i, 0) by simp)]; exact hz) ?_
    refine z_iload_n C d_Frm_append_30 rfl 2 rfl ?_
    refine stB_frX C (q := z) d_Frm_append_31 hi rfl (by omega) ?_
    refine z_aload_n C d_Frm_append_32 rfl 0 rfl ?_
    refine gB_Frm_ys C d_Frm_append_33 tw_212 hi ?_
    refine z_aload_n C d_Frm_append_36 rfl 0 rfl ?_
    refine gB_Frm_size C d_Frm_append_37 tw_218 hi ?_
    refine z_ri (x' := nI z) (by simp only [upA_ne (show ¬ (61, i, 0) = (62, i, 0) by simp), upA_ne (show ¬ (61, i, 0) = (63, i, 0) by simp), upA_ne (show ¬ (61, i, 0) = (64, i, 0) by simp)]; exact hz) ?_
    refine z_iload_n C d_Frm_append_40 rfl 3 rfl ?_
    refine stB_frY C (q := z) d_Frm_append_41 hi rfl (by omega) ?_
    refine z_aload_n C d_Frm_append_42 rfl 0 rfl ?_
    refine gB_Frm_turns C d_Frm_append_43 tw_214 hi ?_
    refine z_aload_n C d_Frm_append_46 rfl 0 rfl ?_
    refine gB_Frm_size C d_Frm_append_47 tw_218 hi ?_
    refine z_ri (x' := nI z) (by simp only [upA_ne (show ¬ (61, i, 0) = (62, i, 0) by simp), upA_ne (show ¬ (61, i, 0) = (63, i, 0) by simp), upA_ne (show ¬ (61, i, 0) = (64, i, 0) by simp)]; exact hz) ?_
    refine z_iload C d_Frm_append_50 4 rfl ?_
    refine stB_frU C (q := z) d_Frm_append_52 hi rfl (by omega) ?_
    refine z_aload_n C d_Frm_append_53 rfl 0 rfl ?_
    refine z_dup C d_Frm_append_54 rfl ?_
    refine gB_Frm_size C d_Frm_append_55 tw_218 hi ?_
    refine z_iconst C (v := 1) d_Frm_append_58 (by decide) ?_
    refine z_iadd C d_Frm_append_59 ?_
    refine z_ri (x' := nI (z + 1)) (by simp only [upA_ne (show ¬ (61, i, 0) = (62, i, 0) by simp), upA_ne (show ¬ (61, i, 0) = (63, i, 0) by simp), upA_ne (show ¬ (61, i, 0) = (64, i, 0) by simp), upA_ne (show ¬ (61, i, 0) = (65, i, 0) by simp)]; rw [hz]; exact nI_add _ 1) ?_
    refine pB_Frm_size C d_Frm_append_60 tw_218 hi ?_
    exact hret _ _ _ d_Frm_append_63 (by simp [fApp, fPut, h5, upA_ne])
  · rw [hz, show (4 : Int32) = nI 4 by decide, nI_eq (by omega) (by omega)] at h5
    subst h5
    refine z_aload_n C d_Frm_append_8 rfl 0 rfl ?_
    refine zf_Vv C d_Frm_append_9 (c_Frm_dropFirst l D ca b σ hi hz hz4 (by decide)) tw_686 tw_687 tw_688 tw_9 tw_689 pd_Frm_dropFirst ⟨⟨by decide, by decide⟩, rfl, rfl, by decide, by decide⟩ (by omega) rfl (eB_Frm hi) rfl (Nat.le_of_ble_eq_true rfl) rfl ?_
    refine z_aload_n C d_Frm_append_12 rfl 0 rfl ?_
    refine gB_Frm_times C d_Frm_append_13 tw_209 hi ?_
    refine z_aload_n C d_Frm_append_16 rfl 0 rfl ?_
    refine gB_Frm_size C d_Frm_append_17 tw_218 hi ?_
    refine z_ri (x' := nI 3) (fDrop_sz) ?_
    refine z_iload_n C d_Frm_append_20 rfl 1 rfl ?_
    refine stB_frT C (q := 3) d_Frm_append_21 hi rfl (by omega) ?_
    refine z_aload_n C d_Frm_append_22 rfl 0 rfl ?_
    refine gB_Frm_xs C d_Frm_append_23 tw_210 hi ?_
    refine z_aload_n C d_Frm_append_26 rfl 0 rfl ?_
    refine gB_Frm_size C d_Frm_append_27 tw_218 hi ?_
    refine z_ri (x' := nI 3) (by simp only [upA_ne (show ¬ (61, i, 0) = (62, i, 0) by simp), upA_ne (show ¬ (61, i, 0) = (63, i, 0) by simp), upA_ne (show ¬ (61, i, 0) = (64, i, 0) by simp)]; exact fDrop_sz) ?_
    refine z_iload_n C d_Frm_append_30 rfl 2 rfl ?_
    refine stB_frX C (q := 3) d_Frm_append_31 hi rfl (by omega) ?_
    refine z_aload_n C d_Frm_append_32 rfl 0 rfl ?_
    refine gB_Frm_ys C d_Frm_append_33 tw_212 hi ?_
    refine z_aload_n C d_Frm_append_36 rfl 0 rfl ?_
    refine gB_Frm_size C d_Frm_append_37 tw_218 hi ?_
    refine z_ri (x' := nI 3) (by simp only [upA_ne (show ¬ (61, i, 0) = (62, i, 0) by simp), upA_ne (show ¬ (61, i, 0) = (63, i, 0) by simp), upA_ne (show ¬ (61, i, 0) = (64, i, 0) by simp)]; exact fDrop_sz) ?_
    refine z_iload_n C d_Frm_append_40 rfl 3 rfl ?_
    refine stB_frY C (q := 3) d_Frm_append_41 hi rfl (by omega) ?_
    refine z_aload_n C d_Frm_append_42 rfl 0 rfl ?_
    refine gB_Frm_turns C d_Frm_append_43 tw_214 hi ?_
    refine z_aload_n C d_Frm_append_46 rfl 0 rfl ?_
    refine gB_Frm_size C d_Frm_append_47 tw_218 hi ?_
    refine z_ri (x' := nI 3) (by simp only [upA_ne (show ¬ (61, i, 0) = (62, i, 0) by simp), upA_ne (show ¬ (61, i, 0) = (63, i, 0) by simp), upA_ne (show ¬ (61, i, 0) = (64, i, 0) by simp)]; exact fDrop_sz) ?_
    refine z_iload C d_Frm_append_50 4 rfl ?_
    refine stB_frU C (q := 3) d_Frm_append_52 hi rfl (by omega) ?_
    refine z_aload_n C d_Frm_append_53 rfl 0 rfl ?_
    refine z_dup C d_Frm_append_54 rfl ?_
    refine gB_Frm_size C d_Frm_append_55 tw_218 hi ?_
    refine z_iconst C (v := 1) d_Frm_append_58 (by decide) ?_
    refine z_iadd C d_Frm_append_59 ?_
    refine z_ri (x' := nI (3 + 1)) (by simp only [upA_ne (show ¬ (61, i, 0) = (62, i, 0) by simp), upA_ne (show ¬ (61, i, 0) = (63, i, 0) by simp), upA_ne (show ¬ (61, i, 0) = (64, i, 0) by simp), upA_ne (show ¬ (61, i, 0) = (65, i, 0) by simp)]; rw [fDrop_sz]; exact nI_add _ 1) ?_
    refine pB_Frm_size C d_Frm_append_60 tw_218 hi ?_
    exact hret _ _ _ d_Frm_append_63 (by simp [fApp, fPut, upA_ne])
def fIx (σ : Sg) (i : Nat) (w : Int32) : Nat → Nat → Int32 → Int32
  | 0, _, a => a
  | m + 1, k, a => if w < σ.1 62 i 0 k then a else fIx σ i w m (k + 1) (nI k)
def fIdx (σ : Sg) (i z : Nat) (w : Int32) : Int32 := if fBeh σ i z w = 0 then fIx σ i w z 0 (-1) else -1
set_option maxRecDepth 100000 in
set_option maxHeartbeats 4000000 in
theorem lp_Frm_indexAt (l : Launch) (D : va_G) (ca : Nat → ClassId) (b : Nat) {R : Room} {X : Zx} {y0 : MethodName} {c0 : ByteArray} {n0 : Nat} {r0 : Option FieldType} (C : Cs D ca b_Frm_indexAt 4 "RobotBus$Frame" (Cond.code y0 c0 n0 r0) X) (σ : Sg) {i z : Nat} (hi : i < 6) (hz : σ.1 61 i 0 0 = nI z) (hz4 : z ≤ 4) (w v0 : Int32) (hret : ∀ (v : Int32) (σ' : Sg) (pc : Nat) (L' : List (Nat × Value)), decode b_Frm_indexAt pc = .ok (.ireturn, 1) → (v = v0 ∧ σ' = σ) → Zs l D ca SB b 182 R 4 X σ' pc L' [.int v]) : ∀ m k, k + m = z → ∀ a, v0 = fIx σ i w m k a → Zs l D ca SB b 182 R 4 X σ 14 [(3, .int (nI k)), (2, .int a), (0, .ref (b + (152 + 5 * i))), (1, .int w)] [] := by
  intro m
  induction m with
  | zero =>
    intro k hk a he
    have hk6 : k = z := by omega
    subst hk6
    refine z_iload_n C d_Frm_indexAt_14 rfl 0 rfl ?_
    refine z_aload_n C d_Frm_indexAt_15 rfl 2 rfl ?_
    refine gB_Frm_size C d_Frm_indexAt_16 tw_218 hi ?_
    refine z_ri (x' := nI k) hz ?_
    refine z_icmp_ge C 40 d_Frm_indexAt_19 (by decide) (fun h19 => ?_) (fun h19 => False.elim (h19 (nI_le (Nat.le_refl k) (by omega))))
    refine z_iload_n C d_Frm_indexAt_40 rfl 1 rfl ?_
    exact hret _ _ _ _ d_Frm_indexAt_41 ⟨he.symm, rfl⟩
  | succ m ih =>
    intro k hk a he
    refine z_iload_n C d_Frm_indexAt_14 rfl 0 rfl ?_
    refine z_aload_n C d_Frm_indexAt_15 rfl 2 rfl ?_
    refine gB_Frm_size C d_Frm_indexAt_16 tw_218 hi ?_
    refine z_ri (x' := nI z) hz ?_
    refine z_icmp_ge C 40 d_Frm_indexAt_19 (by decide) (fun h19 => False.elim (nI_ge (a := k) (b := z) (by omega) (by omega) h19)) (fun h19 => ?_)
    refine z_aload_n C d_Frm_indexAt_22 rfl 2 rfl ?_
    refine gB_Frm_times C d_Frm_indexAt_23 tw_209 hi ?_
    refine z_iload_n C d_Frm_indexAt_26 rfl 0 rfl ?_
    refine lB_frT C (q := k) d_Frm_indexAt_27 hi rfl (by omega) ?_
    refine z_iload_n C d_Frm_indexAt_28 rfl 3 rfl ?_
    refine z_icmp_gt C 40 d_Frm_indexAt_29 (by decide) (fun h29 => ?_) (fun h29 => ?_)
    · refine z_iload_n C d_Frm_indexAt_40 rfl 1 rfl ?_
      exact hret _ _ _ _ d_Frm_indexAt_41 ⟨by rw [he]; simp [fIx, h29], rfl⟩
    · refine z_iload_n C d_Frm_indexAt_32 rfl 0 rfl ?_
      refine z_istore_n C d_Frm_indexAt_33 rfl (by decide) [(2, .int (nI k)), (3, .int (nI k)), (0, .ref (b + (152 + 5 * i))), (1, .int w)] rfl ?_
      refine z_iinc C d_Frm_indexAt_34 1 rfl (v := (nI (k + 1))) (by rw [← nI_1]; rfl) (by decide) [(3, .int (nI (k + 1))), (2, .int (nI k)), (0, .ref (b + (152 + 5 * i))), (1, .int w)] rfl ?_
      refine z_goto C 14 d_Frm_indexAt_37 (by decide) ?_
      exact ih (k + 1) (by omega) _ (by rw [he]; simp [fIx, h29])
set_option maxRecDepth 100000 in
set_option maxHeartbeats 4000000 in
/-- the last sample not behind a time -/
theorem c_Frm_indexAt (l : Launch) (D : va_G) (ca : Nat → ClassId) (b : Nat) (σ : Sg) {i z : Nat} (hi : i < 6) (hz : σ.1 61 i 0 0 = nI z) (hz4 : z ≤ 4) (w : Int32) : CtI l D ca SB b 182 y_Frm_indexAt w_Frm_indexAt (rmN 1 21) σ [.ref (b + (152 + 5 * i)), .int w] (fun r σ' => r = fIdx σ i z w ∧ σ' = σ) := by
  refine ct_i "RobotBus$Frame" [(0, .ref (b + (152 + 5 * i))), (1, .int w)] (by decide) rfl (Nat.le_of_ble_eq_true rfl) rfl (fun X C hret => ?_)
  refine z_aload_n C d_Frm_indexAt_0 rfl 0 rfl ?_
  refine z_iload_n C d_Frm_indexAt_1 rfl 1 rfl ?_
  refine zf_Vi C d_Frm_indexAt_2 (c_Frm_isBehindLast l D ca b σ hi hz hz4 w) tw_708 tw_678 tw_679 tw_9 tw_680 pd_Frm_isBehindLast ⟨⟨by decide, by decide⟩, rfl, rfl, by decide, by decide⟩ (by omega) rfl (eB_Frm hi) rfl (Nat.le_of_ble_eq_true rfl) rfl ?_
  refine z_if_eq C 10 d_Frm_indexAt_5 (by decide) (fun h5 => ?_) (fun h5 => ?_)
  · refine z_iconst C (v := -1) d_Frm_indexAt_10 (by decide) ?_
    refine z_istore_n C d_Frm_indexAt_11 rfl (by decide) [(2, .int (-1)), (0, .ref (b + (152 + 5 * i))), (1, .int w)] rfl ?_
    refine z_iconst C (v := 0) d_Frm_indexAt_12 (by decide) ?_
    refine z_istore_n C d_Frm_indexAt_13 rfl (by decide) [(3, .int 0), (2, .int (-1)), (0, .ref (b + (152 + 5 * i))), (1, .int w)] rfl ?_
    exact lp_Frm_indexAt l D ca b C σ hi hz hz4 w _ hret z 0 (by omega) (-1) (by simp [fIdx, h5])
  · refine z_iconst C (v := -1) d_Frm_indexAt_8 (by decide) ?_
    exact hret _ _ _ _ d_Frm_indexAt_9 ⟨by simp [fIdx, h5], rfl⟩
/-! Point -/
def pTurn : Nat → Sg → Sg
  | 0, σ => σ
  | m + 1, σ => pTurn m (us (us σ 20 0 0 (-(σ.1 21 0 0 0))) 21 0 0 (σ.1 20 0 0 0))
set_option maxRecDepth 100000 in
set_option maxHeartbeats 4000000 in
theorem lp_Pnt_turnBy (l : Launch) (D : va_G) (ca : Nat → ClassId) (b : Nat) {R : Room} {X : Zx} {y0 : MethodName} {c0 : ByteArray} {n0 : Nat} {r0 : Option FieldType} (C : Cs D ca b_Pnt_turnBy 4 "RobotBus$Point" (Cond.code y0 c0 n0 r0) X) {u : Nat} (hu : u ≤ 3) (σ0 : Sg) (hret : ∀ (σ' : Sg) (pc : Nat) (L' : List (Nat × Value)), decode b_Pnt_turnBy pc = .ok (.return_, 1) → σ' = σ0 → Zs l D ca SB b 182 R 4 X σ' pc L' []) : ∀ m k, k + m = u → ∀ (σ : Sg), σ0 = pTurn m σ → Zs l D ca SB b 182 R 4 X σ 2 [(2, .int (nI k)), (0, .ref (b + 9)), (1, .int (nI u))] [] := by
  intro m
  induction m with
  | zero =>
    intro k hk σ he
    have hk6 : k = u := by omega
    subst hk6
    refine z_iload_n C d_Pnt_turnBy_2 rfl 0 rfl ?_
    refine z_iload_n C d_Pnt_turnBy_3 rfl 2 rfl ?_
    refine z_icmp_ge C 32 d_Pnt_turnBy_4 (by decide) (fun h4 => ?_) (fun h4 => False.elim (h4 (nI_le (Nat.le_refl k) (by omega))))
    exact hret _ _ _ d_Pnt_turnBy_32 he.symm
  | succ m ih =>
    intro k hk σ he
    refine z_iload_n C d_Pnt_turnBy_2 rfl 0 rfl ?_
    refine z_iload_n C d_Pnt_turnBy_3 rfl 2 rfl ?_
    refine z_icmp_ge C 32 d_Pnt_turnBy_4 (by decide) (fun h4 => False.elim (nI_ge (a := k) (b := u) (by omega) (by omega) h4)) (fun h4 => ?_)
    refine z_aload_n C d_Pnt_turnBy_7 rfl 1 rfl ?_
    refine gB_Pnt_x C d_Pnt_turnBy_8 tw_78  ?_
    refine z_istore_n C d_Pnt_turnBy_11 rfl (by decide) [(3, .int (σ.1 20 0 0 0)), (2, .int (nI k)), (0, .ref (b + 9)), (1, .int (nI u))] rfl ?_
    refine z_aload_n C d_Pnt_turnBy_12 rfl 2 rfl ?_
    refine z_aload_n C d_Pnt_turnBy_13 rfl 2 rfl ?_
    refine gB_Pnt_y C d_Pnt_turnBy_14 tw_80  ?_
    refine z_ineg C d_Pnt_turnBy_17 ?_
    refine pB_Pnt_x C d_Pnt_turnBy_18 tw_78  ?_
    refine z_aload_n C d_Pnt_turnBy_21 rfl 2 rfl ?_
    refine z_iload_n C d_Pnt_turnBy_22 rfl 0 rfl ?_
    refine pB_Pnt_y C d_Pnt_turnBy_23 tw_80  ?_
    refine z_iinc C d_Pnt_turnBy_26 1 rfl (v := (nI (k + 1))) (by rw [← nI_1]; rfl) (by decide) [(2, .int (nI (k + 1))), (3, .int (σ.1 20 0 0 0)), (0, .ref (b + 9)), (1, .int (nI u))] rfl ?_
    refine z_goto C 2 d_Pnt_turnBy_29 (by decide) ?_
    refine z_loc [0, 2, 3] rfl ?_
    exact ih (k + 1) (by omega) _ he
set_option maxRecDepth 100000 in
set_option maxHeartbeats 4000000 in
/-- turns the point -/
theorem c_Pnt_turnBy (l : Launch) (D : va_G) (ca : Nat → ClassId) (b : Nat) (σ : Sg) {u : Nat} (hu : u ≤ 3) : CtV l D ca SB b 182 y_Pnt_turnBy w_Pnt_turnBy (rmN 0 0) σ [.ref (b + 9), .int (nI u)] (fun σ' => σ' = pTurn u σ) := by
  refine ct_v "RobotBus$Point" [(0, .ref (b + 9)), (1, .int (nI u))] (by decide) rfl (Nat.le_of_ble_eq_true rfl) rfl (fun X C hret => ?_)
  refine z_iconst C (v := 0) d_Pnt_turnBy_0 (by decide) ?_
  refine z_istore_n C d_Pnt_turnBy_1 rfl (by decide) [(2, .int 0), (0, .ref (b + 9)), (1, .int (nI u))] rfl ?_
  exact lp_Pnt_turnBy l D ca b C hu _ hret u 0 (by omega) σ rfl
end
section
/-! Methods that answer a long; Math.floorDiv -/
abbrev CtL (l : Launch) (D : va_G) (ca : Nat → ClassId) (S : List Cee) (b n : Nat) (y : MethodName) (ws : List Cond) (rm : Room) (σ : Sg) (av : List Value) (post : Int64 → Sg → Prop) : Prop :=
  ∀ sz, Met l y ws rm (mPc D clsB (tyL ca) b n sz (enc b ca S σ) av) (va_Ql (fun r M' => ∃ σ', M' = enc b ca S σ' ∧ post r σ') (mB D clsB (tyL ca) b n) (mA b n sz)) 0 0 (mA b n sz)
theorem bm_l {l : Launch} {y : MethodName} {ws ws' : List Cond} {rm : Room} {cc : ByteArray} {maxL : Nat} {D : va_G} {cl : List vw_C} {tys : List (ClassId × FieldType)} {b n sz : Nat} {M : Nat → va_E} {av : List Value} {own : String} {L : List (Nat × Value)} {post : Int64 → (Nat → va_E) → Prop} (hy : plainFor y = true) (hw : ws = Cond.code y cc maxL (some .long) :: ws') (hown : y.cls = own) (hlen : (lg_sl av).length ≤ maxL) (hL : lv_args 0 av = L)
    (body : ∀ X : Zx, Cx D cl tys cc maxL own ws X → (∀ (v : Int64) (M' : Nat → va_E) (pc : Nat) (L' : List (Nat × Value)), decode cc pc = .ok (.lreturn, 1) → post v M' → Z l D cl b n rm maxL X 0 0 M' pc L' [.long v]) → Z l D cl b n rm maxL X 0 0 M 0 L []) :
    Met l y ws rm (mPc D cl tys b n sz M av) (va_Ql post (mB D cl tys b n) (mA b n sz)) 0 0 (mA b n sz) := by
  refine va_MetF (cc := cc) (maxL := maxL) (ret := some .long) hy hw ?_
  intro p e s m args below meth c s₁ B hml hv
  obtain ⟨rfl, hsz, hP, hK⟩ := hv
  have hx := B.exec
  have hb := B.bytes
  have hr := B.returns
  have hts := atoms_spec (ws := ws) B.pre
  have ho : s.vm.findClass own = some m.cls := by rw [← hown]; exact findClass_of_methodNamed B.named
  have hlocks := B.notSynchronized
  subst hsz
  have hl := lv_entry av (n := maxL) hlen
  rw [lg_entry_eq]
  rw [hL] at hl
  refine body (p, e, s, m, av.toArray, below, meth, c, MQ below (va_Ql post (mB D cl tys b n) (mA b n s.heap.size)) av.toArray s 0 0 (mA b n s.heap.size)) ⟨hx, hb, hml, ho, hts, hK⟩ ?_ s.heap [] _ hP va_S.rf hl
  intro v M' pc L' hd hp H locs ls hP' hS' hl'
  exact W.lret (v := v) hx hb hr (fun t ht hW => ⟨⟨v, M', rfl, hp, by rw [ht]; exact hP', va_K.moved hW.alike hK⟩, hS'.F ht⟩) hS'.2.2 hd hlocks
theorem ct_l {l : Launch} {D : va_G} {ca : Nat → ClassId} {S : List Cee} {b n : Nat} {y : MethodName} {rm : Room} {cc : ByteArray} {maxL : Nat} {σ : Sg} {av : List Value} {post : Int64 → Sg → Prop} (own : String) (L : List (Nat × Value)) (hy : plainFor y = true) (hown : y.cls = own) (hlen : (lg_sl av).length ≤ maxL) (hL : lv_args 0 av = L)
    (body : ∀ X : Zx, Cs D ca cc maxL own (Cond.code y cc maxL (some .long)) X → (∀ (v : Int64) (σ' : Sg) (pc : Nat) (L' : List (Nat × Value)), decode cc pc = .ok (.lreturn, 1) → post v σ' → Zs l D ca S b n rm maxL X σ' pc L' [.long v]) → Zs l D ca S b n rm maxL X σ 0 L []) :
    CtL l D ca S b n y (Cond.code y cc maxL (some .long) :: gtb) rm σ av post := fun sz =>
  bm_l hy rfl hown hlen hL (fun X C hret => body X C (fun v σ' pc L' hd hp => hret v _ pc L' hd ⟨σ', rfl, hp⟩))
/-- a call of a static method, of whatever class, that answers a long -/
theorem zf_Sl {l : Launch} {D : va_G} {ca : Nat → ClassId} {S : List Cee} {b n : Nat} {R : Room} {nL : Nat} {X : Zx} {σ σ0 : Sg} {pc : Nat} {L : List (Nat × Value)} {st : List Value} {cc : ByteArray} {own : String} {y0 : MethodName} {c0 : ByteArray} {n0 : Nat} {r0 : Option FieldType} {v0 : Int64} {y : MethodName} {bytes : ByteArray} {maxL index : Nat} {ret : Option FieldType} {rm : Room} {As : List Value} {C0 : String}
    (C : Cs D ca cc nL own (Cond.code y0 c0 n0 r0) X) (hd : decode cc pc = .ok (.invokestatic index, 3)) (hM : CtL l D ca S b n y (Cond.code y bytes maxL ret :: gtb) rm σ As (fun r σ' => r = v0 ∧ σ' = σ0))
    (h1 : Cond.methodLink own index y ∈ gtb) (h2 : Cond.static y ∈ gtb) (h4 : Cond.initialized C0 ∈ gtb) (h5 : Cond.code y bytes maxL ret ∈ gtb)
    (hds : y.cls = C0 ∧ y.cls ≠ "java/lang/invoke/MethodHandle" ∧ y.cls ≠ "java/lang/invoke/VarHandle" ∧ (parseMethodDescriptor y.desc).map (fun d => d.parameters.length) = some As.length)
    (hR : (rm.frames + 1 ≤ R.frames ∧ 8 + (maxL + 11) + rm.locals ≤ R.locals) ∧ rm.cells = 0 ∧ rm.slots = 0 ∧ 0 ≤ R.cells ∧ 0 ≤ R.slots) (hst : (st.map fun v => v.category).sum ≤ 8) {st0 : List Value} (hs0 : st0 = As.reverse ++ st)
    (kk : Zs l D ca S b n R nL X σ0 (pc + 3) L (.long v0 :: st)) : Zs l D ca S b n R nL X σ pc L st0 := by
  obtain ⟨p, e, s, m, args, below, meth, c, Q⟩ := X
  obtain ⟨hx, hb, hml, hown, hts, hK⟩ := C
  subst hs0
  obtain ⟨rfl, hd2⟩ := hds
  intro H locs ls hP hS hl
  have hG : GoodIn (Cond.code y0 c0 n0 r0 :: gtb) (va_wsS own index y (Cond.code y bytes maxL ret :: gtb)) := by
    refine gd_tbl fun w hw => ?_
    rcases List.mem_append.mp hw with h | h
    · simp only [List.mem_cons, List.not_mem_nil, or_false] at h
      rcases h with rfl | rfl | rfl <;> assumption
    · exact gd_code h5 w h
  refine va_calll (va_runS (As := As) (rest := st) ⟨hx, hb, hml, hown, hts⟩ (hM H.size) (va_cwS As.length hts hG rfl hR.2.1 hR.2.2.1 hd2 hR.1) ⟨mPc_blind, fun U hU hW => ⟨rfl, by rw [hU], by rw [hU]; exact hP, va_K.moved hW.alike hK⟩⟩ rfl rfl hl.1 rfl (lv_room hst) hd ⟨hR.2.2.2.1, hR.2.2.2.2⟩) hS (fun q _ h => mA_le hS.1 q h) (mA_le hS.1) (fun r u t H1 locs1 ht hvm hp hB hz1 hk1 hS1 => ?_)
  obtain ⟨hP1, hK1⟩ := hB
  rw [ht] at hP1
  obtain ⟨σ', rfl, hr1, hr2⟩ := hp
  subst hr1; subst hr2
  exact kk H1 locs1 ls hP1 hS1 hl
/-- floorDiv as its code has it -/
def fdv (x y : Int64) : Int64 := if 0 ≤ lg_cmp (x ^^^ y) 0 then x / y else if lg_cmp (x / y * y) x = 0 then x / y else x / y - 1
set_option maxRecDepth 100000 in
set_option maxHeartbeats 4000000 in
/-- Math.floorDiv -/
theorem c_Math_floorDiv (l : Launch) (D : va_G) (ca : Nat → ClassId) (b : Nat) (σ : Sg) {n : Nat} {S : List Cee} (x y : Int64) (hy : ¬ y = 0) : CtL l D ca S b n y_Math_floorDiv w_Math_floorDiv (rmN 0 0) σ [.long x, .long y] (fun r σ' => r = fdv x y ∧ σ' = σ) := by
  refine ct_l "java/lang/Math" [(0, .long x), (2, .long y)] (by decide +kernel) rfl (Nat.le_of_ble_eq_true rfl) rfl (fun X C hret => ?_)
  refine z_lload_n C d_Math_floorDiv_0 rfl 0 rfl ?_
  refine z_lload_n C d_Math_floorDiv_1 rfl 1 rfl ?_
  refine z_ldiv C d_Math_floorDiv_2 hy ?_
  refine z_lstore C d_Math_floorDiv_3 (by decide) [(4, .long (x / y)), (0, .long x), (2, .long y)] rfl ?_
  refine z_lload_n C d_Math_floorDiv_5 rfl 1 rfl ?_
  refine z_lload_n C d_Math_floorDiv_6 rfl 2 rfl ?_
  refine z_lxor C d_Math_floorDiv_7 ?_
  refine z_lconst C (v := 0) d_Math_floorDiv_8 (by decide) ?_
  refine z_lcmp C d_Math_floorDiv_9 ?_
  refine z_if_ge C 27 d_Math_floorDiv_10 (by decide) (fun h10 => ?_) (fun h10 => ?_)
  · refine z_lload C d_Math_floorDiv_27 0 rfl ?_
    exact hret _ _ _ _ d_Math_floorDiv_29 ⟨by simp [fdv, *], rfl⟩
  · refine z_lload C d_Math_floorDiv_13 0 rfl ?_
    refine z_lload_n C d_Math_floorDiv_15 rfl 2 rfl ?_
    refine z_lmul C d_Math_floorDiv_16 ?_
    refine z_lload_n C d_Math_floorDiv_17 rfl 1 rfl ?_
    refine z_lcmp C d_Math_floorDiv_18 ?_
    refine z_if_eq C 27 d_Math_floorDiv_19 (by decide) (fun h19 => ?_) (fun h19 => ?_)
    · refine z_lload C d_Math_floorDiv_27 0 rfl ?_
      exact hret _ _ _ _ d_Math_floorDiv_29 ⟨by simp [fdv, *], rfl⟩
    · refine z_lload C d_Math_floorDiv_22 0 rfl ?_
      refine z_lconst C (v := 1) d_Math_floorDiv_24 (by decide) ?_
      refine z_lsub C d_Math_floorDiv_25 ?_
      exact hret _ _ _ _ d_Math_floorDiv_26 ⟨by simp [fdv, *], rfl⟩
def fSpan (σ : Sg) (i z k : Nat) : Int32 := if k + 1 < z then σ.1 62 i 0 (k + 1) - σ.1 62 i 0 k else 0
def fBet (σ : Sg) (i z k f : Nat) (w : Int32) : Int32 := if 0 < fSpan σ i z k then σ.1 f i 0 k + (fdv ((σ.1 f i 0 (k + 1) - σ.1 f i 0 k).toInt64 * (w - σ.1 62 i 0 k).toInt64) (fSpan σ i z k).toInt64).toInt32 else σ.1 f i 0 k
set_option maxRecDepth 100000 in
set_option maxHeartbeats 4000000 in
/-- between two samples -/
theorem c_Frm_between63 (l : Launch) (D : va_G) (ca : Nat → ClassId) (b : Nat) (σ : Sg) {i z k : Nat} (hi : i < 6) (hz : σ.1 61 i 0 0 = nI z) (hz4 : z ≤ 4) (hk : k < z) (w : Int32) : CtI l D ca SB b 182 y_Frm_between w_Frm_between (rmN 1 25) σ [.ref (b + (152 + 5 * i)), .ref (b + (154 + 5 * i)), .int (nI k), .int w] (fun r σ' => r = fBet σ i z k 63 w ∧ σ' = σ) := by
  refine ct_i "RobotBus$Frame" [(0, .ref (b + (152 + 5 * i))), (1, .ref (b + (154 + 5 * i))), (2, .int (nI k)), (3, .int w)] (by decide) rfl (Nat.le_of_ble_eq_true rfl) rfl (fun X C hret => ?_)
  refine z_iload_n C d_Frm_between_0 rfl 2 rfl ?_
  refine z_iconst C (v := 1) d_Frm_between_1 (by decide) ?_
  refine z_iadd C d_Frm_between_2 ?_
  refine z_ri (x' := nI (k + 1)) (nI_1 k) ?_
  refine z_aload_n C d_Frm_between_3 rfl 0 rfl ?_
  refine gB_Frm_size C d_Frm_between_4 tw_218 hi ?_
  refine z_icmp_ge C 28 d_Frm_between_7 (by decide) (fun h7 => ?_) (fun h7 => ?_)
  · rw [hz, nI_leI (by omega) (by omega)] at h7
    refine z_iconst C (v := 0) d_Frm_between_28 (by decide) ?_
    refine z_istore C d_Frm_between_29 (by decide) [(4, .int 0), (0, .ref (b + (152 + 5 * i))), (1, .ref (b + (154 + 5 * i))), (2, .int (nI k)), (3, .int w)] rfl ?_
    refine z_iload C d_Frm_between_31 0 rfl ?_
    refine z_if_gt C 40 d_Frm_between_33 (by decide) (fun h33 => False.elim (absurd h33 (by decide))) (fun h33 => ?_)
    refine z_aload_n C d_Frm_between_36 rfl 2 rfl ?_
    refine z_iload_n C d_Frm_between_37 rfl 3 rfl ?_
    refine lB_frX C (q := k) d_Frm_between_38 hi rfl (by omega) ?_
    exact hret _ _ _ _ d_Frm_between_39 ⟨by
    have hs9 : fSpan σ i z k = 0 := by simp [fSpan, show ¬ k + 1 < z by omega]
    simp only [fBet, hs9, h33, if_true, if_false], rfl⟩
  · rw [hz, nI_leI (by omega) (by omega)] at h7
    refine z_aload_n C d_Frm_between_10 rfl 0 rfl ?_
    refine gB_Frm_times C d_Frm_between_11 tw_209 hi ?_
    refine z_iload_n C d_Frm_between_14 rfl 2 rfl ?_
    refine z_iconst C (v := 1) d_Frm_between_15 (by decide) ?_
    refine z_iadd C d_Frm_between_16 ?_
    refine z_ri (x' := nI (k + 1)) (nI_1 k) ?_
    refine lB_frT C (q := (k + 1)) d_Frm_between_17 hi rfl (by omega) ?_
    refine z_aload_n C d_Frm_between_18 rfl 0 rfl ?_
    refine gB_Frm_times C d_Frm_between_19 tw_209 hi ?_
    refine z_iload_n C d_Frm_between_22 rfl 2 rfl ?_
    refine lB_frT C (q := k) d_Frm_between_23 hi rfl (by omega) ?_
    refine z_isub C d_Frm_between_24 ?_
    refine z_goto C 29 d_Frm_between_25 (by decide) ?_
    refine z_istore C d_Frm_between_29 (by decide) [(4, .int ((σ.1 62 i 0 (k + 1)) - (σ.1 62 i 0 k))), (0, .ref (b + (152 + 5 * i))), (1, .ref (b + (154 + 5 * i))), (2, .int (nI k)), (3, .int w)] rfl ?_
    refine z_iload C d_Frm_between_31 0 rfl ?_
    refine z_if_gt C 40 d_Frm_between_33 (by decide) (fun h33 => ?_) (fun h33 => ?_)
    · have hpos : ¬ (((σ.1 62 i 0 (k + 1)) - (σ.1 62 i 0 k))).toInt64 = 0 := fun q9 => by
        have h0 : (((σ.1 62 i 0 (k + 1)) - (σ.1 62 i 0 k))) = 0 := Int32.toInt_inj.mp (by rw [← Int32.toInt_toInt64, q9]; rfl)
        rw [h0] at h33
        exact absurd h33 (by decide)
      refine z_aload_n C d_Frm_between_40 rfl 2 rfl ?_
      refine z_iload_n C d_Frm_between_41 rfl 3 rfl ?_
      refine z_iconst C (v := 1) d_Frm_between_42 (by decide) ?_
      refine z_iadd C d_Frm_between_43 ?_
      refine z_ri (x' := nI (k + 1)) (nI_1 k) ?_
      refine lB_frX C (q := (k + 1)) d_Frm_between_44 hi rfl (by omega) ?_
      refine z_aload_n C d_Frm_between_45 rfl 2 rfl ?_
      refine z_iload_n C d_Frm_between_46 rfl 3 rfl ?_
      refine lB_frX C (q := k) d_Frm_between_47 hi rfl (by omega) ?_
      refine z_isub C d_Frm_between_48 ?_
      refine z_i2l C d_Frm_between_49 ?_
      refine z_iload_n C d_Frm_between_50 rfl 4 rfl ?_
      refine z_aload_n C d_Frm_between_51 rfl 1 rfl ?_
      refine gB_Frm_times C d_Frm_between_52 tw_209 hi ?_
      refine z_iload_n C d_Frm_between_55 rfl 3 rfl ?_
      refine lB_frT C (q := k) d_Frm_between_56 hi rfl (by omega) ?_
      refine z_isub C d_Frm_between_57 ?_
      refine z_i2l C d_Frm_between_58 ?_
      refine z_lmul C d_Frm_between_59 ?_
      refine z_lstore C d_Frm_between_60 (by decide) [(5, .long (((σ.1 63 i 0 (k + 1)) - (σ.1 63 i 0 k)).toInt64 * (w - (σ.1 62 i 0 k)).toInt64)), (4, .int ((σ.1 62 i 0 (k + 1)) - (σ.1 62 i 0 k))), (0, .ref (b + (152 + 5 * i))), (1, .ref (b + (154 + 5 * i))), (2, .int (nI k)), (3, .int w)] rfl ?_
      refine z_aload_n C d_Frm_between_62 rfl 3 rfl ?_
      refine z_iload_n C d_Frm_between_63 rfl 4 rfl ?_
      refine lB_frX C (q := k) d_Frm_between_64 hi rfl (by omega) ?_
      refine z_lload C d_Frm_between_65 0 rfl ?_
      refine z_iload C d_Frm_between_67 1 rfl ?_
      refine z_i2l C d_Frm_between_69 ?_
      refine zf_Sl C d_Frm_between_70 (c_Math_floorDiv l D ca b σ ((((σ.1 63 i 0 (k + 1)) - (σ.1 63 i 0 k)).toInt64 * (w - (σ.1 62 i 0 k)).toInt64)) (((σ.1 62 i 0 (k + 1)) - (σ.1 62 i 0 k)).toInt64) (by intro q9; exact hpos q9)) tw_721 tw_722 tw_17 tw_723 pd_Math_floorDiv ⟨⟨by decide, by decide⟩, rfl, rfl, by decide, by decide⟩ (Nat.le_of_ble_eq_true rfl) rfl ?_
      refine z_l2i C d_Frm_between_73 ?_
      refine z_iadd C d_Frm_between_74 ?_
      exact hret _ _ _ _ d_Frm_between_75 ⟨by
    have hs9 : fSpan σ i z k = ((σ.1 62 i 0 (k + 1)) - (σ.1 62 i 0 k)) := by simp [fSpan, show  k + 1 < z by omega]
    simp only [fBet, hs9, h33, if_true, if_false], rfl⟩
    · refine z_aload_n C d_Frm_between_36 rfl 2 rfl ?_
      refine z_iload_n C d_Frm_between_37 rfl 3 rfl ?_
      refine lB_frX C (q := k) d_Frm_between_38 hi rfl (by omega) ?_
      exact hret _ _ _ _ d_Frm_between_39 ⟨by
    have hs9 : fSpan σ i z k = ((σ.1 62 i 0 (k + 1)) - (σ.1 62 i 0 k)) := by simp [fSpan, show  k + 1 < z by omega]
    simp only [fBet, hs9, h33, if_true, if_false], rfl⟩
set_option maxRecDepth 100000 in
set_option maxHeartbeats 4000000 in
/-- between two samples -/
theorem c_Frm_between64 (l : Launch) (D : va_G) (ca : Nat → ClassId) (b : Nat) (σ : Sg) {i z k : Nat} (hi : i < 6) (hz : σ.1 61 i 0 0 = nI z) (hz4 : z ≤ 4) (hk : k < z) (w : Int32) : CtI l D ca SB b 182 y_Frm_between w_Frm_between (rmN 1 25) σ [.ref (b + (152 + 5 * i)), .ref (b + (155 + 5 * i)), .int (nI k), .int w] (fun r σ' => r = fBet σ i z k 64 w ∧ σ' = σ) := by
  refine ct_i "RobotBus$Frame" [(0, .ref (b + (152 + 5 * i))), (1, .ref (b + (155 + 5 * i))), (2, .int (nI k)), (3, .int w)] (by decide) rfl (Nat.le_of_ble_eq_true rfl) rfl (fun X C hret => ?_)
  refine z_iload_n C d_Frm_between_0 rfl 2 rfl ?_
  refine z_iconst C (v := 1) d_Frm_between_1 (by decide) ?_
  refine z_iadd C d_Frm_between_2 ?_
  refine z_ri (x' := nI (k + 1)) (nI_1 k) ?_
  refine z_aload_n C d_Frm_between_3 rfl 0 rfl ?_
  refine gB_Frm_size C d_Frm_between_4 tw_218 hi ?_
  refine z_icmp_ge C 28 d_Frm_between_7 (by decide) (fun h7 => ?_) (fun h7 => ?_)
  · rw [hz, nI_leI (by omega) (by omega)] at h7
    refine z_iconst C (v := 0) d_Frm_between_28 (by decide) ?_
    refine z_istore C d_Frm_between_29 (by decide) [(4, .int 0), (0, .ref (b + (152 + 5 * i))), (1, .ref (b + (155 + 5 * i))), (2, .int (nI k)), (3, .int w)] rfl ?_
    refine z_iload C d_Frm_between_31 0 rfl ?_
    refine z_if_gt C 40 d_Frm_between_33 (by decide) (fun h33 => False.elim (absurd h33 (by decide))) (fun h33 => ?_)
    refine z_aload_n C d_Frm_between_36 rfl 2 rfl ?_
    refine z_iload_n C d_Frm_between_37 rfl 3 rfl ?_
    refine lB_frY C (q := k) d_Frm_between_38 hi rfl (by omega) ?_
    exact hret _ _ _ _ d_Frm_between_39 ⟨by
    have hs9 : fSpan σ i z k = 0 := by simp [fSpan, show ¬ k + 1 < z by omega]
    simp only [fBet, hs9, h33, if_true, if_false], rfl⟩
  · rw [hz, nI_leI (by omega) (by omega)] at h7
    refine z_aload_n C d_Frm_between_10 rfl 0 rfl ?_
    refine gB_Frm_times C d_Frm_between_11 tw_209 hi ?_
    refine z_iload_n C d_Frm_between_14 rfl 2 rfl ?_
    refine z_iconst C (v := 1) d_Frm_between_15 (by decide) ?_
    refine z_iadd C d_Frm_between_16 ?_
    refine z_ri (x' := nI (k + 1)) (nI_1 k) ?_
    refine lB_frT C (q := (k + 1)) d_Frm_between_17 hi rfl (by omega) ?_
    refine z_aload_n C d_Frm_between_18 rfl 0 rfl ?_
    refine gB_Frm_times C d_Frm_between_19 tw_209 hi ?_
    refine z_iload_n C d_Frm_between_22 rfl 2 rfl ?_
    refine lB_frT C (q := k) d_Frm_between_23 hi rfl (by omega) ?_
    refine z_isub C d_Frm_between_24 ?_
    refine z_goto C 29 d_Frm_between_25 (by decide) ?_
    refine z_istore C d_Frm_between_29 (by decide) [(4, .int ((σ.1 62 i 0 (k + 1)) - (σ.1 62 i 0 k))), (0, .ref (b + (152 + 5 * i))), (1, .ref (b + (155 + 5 * i))), (2, .int (nI k)), (3, .int w)] rfl ?_
    refine z_iload C d_Frm_between_31 0 rfl ?_
    refine z_if_gt C 40 d_Frm_between_33 (by decide) (fun h33 => ?_) (fun h33 => ?_)
    · have hpos : ¬ (((σ.1 62 i 0 (k + 1)) - (σ.1 62 i 0 k))).toInt64 = 0 := fun q9 => by
        have h0 : (((σ.1 62 i 0 (k + 1)) - (σ.1 62 i 0 k))) = 0 := Int32.toInt_inj.mp (by rw [← Int32.toInt_toInt64, q9]; rfl)
        rw [h0] at h33
        exact absurd h33 (by decide)
      refine z_aload_n C d_Frm_between_40 rfl 2 rfl ?_
      refine z_iload_n C d_Frm_between_41 rfl 3 rfl ?_
      refine z_iconst C (v := 1) d_Frm_between_42 (by decide) ?_
      refine z_iadd C d_Frm_between_43 ?_
      refine z_ri (x' := nI (k + 1)) (nI_1 k) ?_
      refine lB_frY C (q := (k + 1)) d_Frm_between_44 hi rfl (by omega) ?_
      refine z_aload_n C d_Frm_between_45 rfl 2 rfl ?_
      refine z_iload_n C d_Frm_between_46 rfl 3 rfl ?_
      refine lB_frY C (q := k) d_Frm_between_47 hi rfl (by omega) ?_
      refine z_isub C d_Frm_between_48 ?_
      refine z_i2l C d_Frm_between_49 ?_
      refine z_iload_n C d_Frm_between_50 rfl 4 rfl ?_
      refine z_aload_n C d_Frm_between_51 rfl 1 rfl ?_
      refine gB_Frm_times C d_Frm_between_52 tw_209 hi ?_
      refine z_iload_n C d_Frm_between_55 rfl 3 rfl ?_
      refine lB_frT C (q := k) d_Frm_between_56 hi rfl (by omega) ?_
      refine z_isub C d_Frm_between_57 ?_
      refine z_i2l C d_Frm_between_58 ?_
      refine z_lmul C d_Frm_between_59 ?_
      refine z_lstore C d_Frm_between_60 (by decide) [(5, .long (((σ.1 64 i 0 (k + 1)) - (σ.1 64 i 0 k)).toInt64 * (w - (σ.1 62 i 0 k)).toInt64)), (4, .int ((σ.1 62 i 0 (k + 1)) - (σ.1 62 i 0 k))), (0, .ref (b + (152 + 5 * i))), (1, .ref (b + (155 + 5 * i))), (2, .int (nI k)), (3, .int w)] rfl ?_
      refine z_aload_n C d_Frm_between_62 rfl 3 rfl ?_
      refine z_iload_n C d_Frm_between_63 rfl 4 rfl ?_
      refine lB_frY C (q := k) d_Frm_between_64 hi rfl (by omega) ?_
      refine z_lload C d_Frm_between_65 0 rfl ?_
      refine z_iload C d_Frm_between_67 1 rfl ?_
      refine z_i2l C d_Frm_between_69 ?_
      refine zf_Sl C d_Frm_between_70 (c_Math_floorDiv l D ca b σ ((((σ.1 64 i 0 (k + 1)) - (σ.1 64 i 0 k)).toInt64 * (w - (σ.1 62 i 0 k)).toInt64)) (((σ.1 62 i 0 (k + 1)) - (σ.1 62 i 0 k)).toInt64) (by intro q9; exact hpos q9)) tw_721 tw_722 tw_17 tw_723 pd_Math_floorDiv ⟨⟨by decide, by decide⟩, rfl, rfl, by decide, by decide⟩ (Nat.le_of_ble_eq_true rfl) rfl ?_
      refine z_l2i C d_Frm_between_73 ?_
      refine z_iadd C d_Frm_between_74 ?_
      exact hret _ _ _ _ d_Frm_between_75 ⟨by
    have hs9 : fSpan σ i z k = ((σ.1 62 i 0 (k + 1)) - (σ.1 62 i 0 k)) := by simp [fSpan, show  k + 1 < z by omega]
    simp only [fBet, hs9, h33, if_true, if_false], rfl⟩
    · refine z_aload_n C d_Frm_between_36 rfl 2 rfl ?_
      refine z_iload_n C d_Frm_between_37 rfl 3 rfl ?_
      refine lB_frY C (q := k) d_Frm_between_38 hi rfl (by omega) ?_
      exact hret _ _ _ _ d_Frm_between_39 ⟨by
    have hs9 : fSpan σ i z k = ((σ.1 62 i 0 (k + 1)) - (σ.1 62 i 0 k)) := by simp [fSpan, show  k + 1 < z by omega]
    simp only [fBet, hs9, h33, if_true, if_false], rfl⟩
def pLift (σ : Sg) (i z k : Nat) (w : Int32) (u : Nat) : Sg := us (us (pTurn u σ) 20 0 0 ((pTurn u σ).1 20 0 0 0 + fBet σ i z k 63 w)) 21 0 0 ((pTurn u σ).1 21 0 0 0 + fBet σ i z k 64 w)
theorem pTurn_ne {f i t : Nat} (h1 : f ≠ 20) (h2 : f ≠ 21) : ∀ (u : Nat) (σ : Sg), (pTurn u σ).1 f i t = σ.1 f i t := by
  intro u
  induction u with
  | zero => intro σ; rfl
  | succ m ih =>
    intro σ
    rw [pTurn, ih, us_ne (by simp [h2]), us_ne (by simp [h1])]
theorem fBet_eq {σ σ' : Sg} {i z k f : Nat} {w : Int32} (h : σ'.1 62 i 0 = σ.1 62 i 0) (hf : σ'.1 f i 0 = σ.1 f i 0) : fBet σ' i z k f w = fBet σ i z k f w := by
  have hs : fSpan σ' i z k = fSpan σ i z k := by unfold fSpan; rw [h]
  unfold fBet
  rw [hs, h, hf]
set_option maxRecDepth 100000 in
set_option maxHeartbeats 4000000 in
/-- a point, lifted from a frame to its parent -/
theorem c_Pnt_lift (l : Launch) (D : va_G) (ca : Nat → ClassId) (b : Nat) (σ : Sg) {i z k u : Nat} (hi : i < 6) (hz : σ.1 61 i 0 0 = nI z) (hz4 : z ≤ 4) (hk : k < z) (w : Int32) (hu : σ.1 65 i 0 k = nI u) (hu3 : u ≤ 3) : CtV l D ca SB b 182 y_Pnt_lift w_Pnt_lift (rmN 2 51) σ [.ref (b + 9), .ref (b + (152 + 5 * i)), .int (nI k), .int w] (fun σ' => σ' = pLift σ i z k w u) := by
  refine ct_v "RobotBus$Point" [(0, .ref (b + 9)), (1, .ref (b + (152 + 5 * i))), (2, .int (nI k)), (3, .int w)] (by decide) rfl (Nat.le_of_ble_eq_true rfl) rfl (fun X C hret => ?_)
  refine z_aload_n C d_Pnt_lift_0 rfl 0 rfl ?_
  refine z_aload_n C d_Pnt_lift_1 rfl 1 rfl ?_
  refine gB_Frm_turns C d_Pnt_lift_2 tw_215 hi ?_
  refine z_iload_n C d_Pnt_lift_5 rfl 2 rfl ?_
  refine lB_frU C (q := k) d_Pnt_lift_6 hi rfl (by omega) ?_
  refine z_ri (x' := nI u) hu ?_
  refine zf_Vv C d_Pnt_lift_7 (c_Pnt_turnBy l D ca b σ hu3) tw_713 tw_714 tw_715 tw_3 tw_716 pd_Pnt_turnBy ⟨⟨by decide, by decide⟩, rfl, rfl, by decide, by decide⟩ (by omega) rfl (eB_Pnt ) rfl (Nat.le_of_ble_eq_true rfl) rfl ?_
  refine z_aload_n C d_Pnt_lift_10 rfl 0 rfl ?_
  refine z_dup C d_Pnt_lift_11 rfl ?_
  refine gB_Pnt_x C d_Pnt_lift_12 tw_78  ?_
  refine z_aload_n C d_Pnt_lift_15 rfl 1 rfl ?_
  refine z_aload_n C d_Pnt_lift_16 rfl 1 rfl ?_
  refine gB_Frm_xs C d_Pnt_lift_17 tw_211 hi ?_
  refine z_iload_n C d_Pnt_lift_20 rfl 2 rfl ?_
  refine z_iload_n C d_Pnt_lift_21 rfl 3 rfl ?_
  refine zf_Vi C d_Pnt_lift_22 (c_Frm_between63 l D ca b (pTurn u σ) hi (z := z) (by rw [pTurn_ne (by decide) (by decide)]; exact hz) hz4 hk w) tw_717 tw_718 tw_719 tw_9 tw_720 pd_Frm_between ⟨⟨by decide, by decide⟩, rfl, rfl, by decide, by decide⟩ (by omega) rfl (eB_Frm hi) rfl (Nat.le_of_ble_eq_true rfl) rfl ?_
  refine z_ri (x' := fBet σ i z k 63 w) (fBet_eq (by rw [pTurn_ne (by decide) (by decide)]) (by rw [pTurn_ne (by decide) (by decide)])) ?_
  refine z_iadd C d_Pnt_lift_25 ?_
  refine pB_Pnt_x C d_Pnt_lift_26 tw_78  ?_
  refine z_aload_n C d_Pnt_lift_29 rfl 0 rfl ?_
  refine z_dup C d_Pnt_lift_30 rfl ?_
  refine gB_Pnt_y C d_Pnt_lift_31 tw_80  ?_
  refine z_aload_n C d_Pnt_lift_34 rfl 1 rfl ?_
  refine z_aload_n C d_Pnt_lift_35 rfl 1 rfl ?_
  refine gB_Frm_ys C d_Pnt_lift_36 tw_213 hi ?_
  refine z_iload_n C d_Pnt_lift_39 rfl 2 rfl ?_
  refine z_iload_n C d_Pnt_lift_40 rfl 3 rfl ?_
  refine zf_Vi C d_Pnt_lift_41 (c_Frm_between64 l D ca b (us (pTurn u σ) 20 0 0 (((pTurn u σ).1 20 0 0 0) + (fBet σ i z k 63 w))) hi (z := z) (by rw [us_ne (by simp), pTurn_ne (by decide) (by decide)]; exact hz) hz4 hk w) tw_717 tw_718 tw_719 tw_9 tw_720 pd_Frm_between ⟨⟨by decide, by decide⟩, rfl, rfl, by decide, by decide⟩ (by omega) rfl (eB_Frm hi) rfl (Nat.le_of_ble_eq_true rfl) rfl ?_
  refine z_ri (x' := fBet σ i z k 64 w) (fBet_eq (by rw [us_ne (by simp), pTurn_ne (by decide) (by decide)]) (by rw [us_ne (by simp), pTurn_ne (by decide) (by decide)])) ?_
  refine z_iadd C d_Pnt_lift_44 ?_
  refine pB_Pnt_y C d_Pnt_lift_45 tw_80  ?_
  exact hret _ _ _ d_Pnt_lift_48 (by simp only [pLift, us_ne (show ¬ (21, 0, 0) = (20, 0, 0) by decide)])
end
section
/-! The bus' own questions -/
def bel (x m : Int32) : Int32 := if x < 0 then 0 else if m ≤ x then 0 else 1
def wit (x lo hi : Int32) : Int32 := if x < lo then 0 else if hi < x then 0 else 1
theorem bel_01 (x m : Int32) : bel x m = 0 ∨ bel x m = 1 := by unfold bel; split <;> first | exact Or.inl rfl | (split <;> first | exact Or.inl rfl | exact Or.inr rfl)
theorem wit_01 (x lo hi : Int32) : wit x lo hi = 0 ∨ wit x lo hi = 1 := by unfold wit; split <;> first | exact Or.inl rfl | (split <;> first | exact Or.inl rfl | exact Or.inr rfl)
theorem bel_nat {x : Int32} {n : Nat} (hn : n < 2 ^ 31) (h : ¬ bel x (nI n) = 0) : ∃ k, k < n ∧ x = nI k := by
  unfold bel at h
  by_cases h1 : x < 0
  · simp [h1] at h
  · by_cases h2 : nI n ≤ x
    · simp [h1, h2] at h
    · rcases pk_ix x hn with q | q | q
      · exact absurd q h1
      · exact absurd q h2
      · exact q
theorem bel_in {k n : Nat} (hk : k < n) (hn : n < 2 ^ 31) : bel (nI k) (nI n) = 1 := by
  unfold bel
  rw [if_neg (nI_pos (by omega)), if_neg (nI_ge hk hn)]
set_option maxRecDepth 100000 in
set_option maxHeartbeats 4000000 in
/-- isBelow -/
theorem c_Bus_isBelow (l : Launch) (D : va_G) (ca : Nat → ClassId) (b : Nat) (σ : Sg) {n : Nat} {S : List Cee} (x m : Int32) : CtI l D ca S b n y_Bus_isBelow w_Bus_isBelow (rmN 0 0) σ [.int x, .int m] (fun r σ' => r = bel x m ∧ σ' = σ) := by
  refine ct_z "RobotBus" [(0, .int x), (1, .int m)] (by decide) rfl (Nat.le_of_ble_eq_true rfl) rfl (fun X C hret => ?_)
  refine z_iload_n C d_Bus_isBelow_0 rfl 0 rfl ?_
  refine z_if_lt C 13 d_Bus_isBelow_1 (by decide) (fun h1 => ?_) (fun h1 => ?_)
  · refine z_iconst C (v := 0) d_Bus_isBelow_13 (by decide) ?_
    exact hret _ _ _ _ d_Bus_isBelow_14 (by decide) ⟨by simp [bel, *], rfl⟩
  · refine z_iload_n C d_Bus_isBelow_4 rfl 0 rfl ?_
    refine z_iload_n C d_Bus_isBelow_5 rfl 1 rfl ?_
    refine z_icmp_ge C 13 d_Bus_isBelow_6 (by decide) (fun h6 => ?_) (fun h6 => ?_)
    · refine z_iconst C (v := 0) d_Bus_isBelow_13 (by decide) ?_
      exact hret _ _ _ _ d_Bus_isBelow_14 (by decide) ⟨by simp [bel, *], rfl⟩
    · refine z_iconst C (v := 1) d_Bus_isBelow_9 (by decide) ?_
      refine z_goto C 14 d_Bus_isBelow_10 (by decide) ?_
      exact hret _ _ _ _ d_Bus_isBelow_14 (by decide) ⟨by simp [bel, *], rfl⟩
set_option maxRecDepth 100000 in
set_option maxHeartbeats 4000000 in
/-- isWithin -/
theorem c_Bus_isWithin (l : Launch) (D : va_G) (ca : Nat → ClassId) (b : Nat) (σ : Sg) {n : Nat} {S : List Cee} (x lo hi : Int32) : CtI l D ca S b n y_Bus_isWithin w_Bus_isWithin (rmN 0 0) σ [.int x, .int lo, .int hi] (fun r σ' => r = wit x lo hi ∧ σ' = σ) := by
  refine ct_z "RobotBus" [(0, .int x), (1, .int lo), (2, .int hi)] (by decide) rfl (Nat.le_of_ble_eq_true rfl) rfl (fun X C hret => ?_)
  refine z_iload_n C d_Bus_isWithin_0 rfl 0 rfl ?_
  refine z_iload_n C d_Bus_isWithin_1 rfl 1 rfl ?_
  refine z_icmp_lt C 14 d_Bus_isWithin_2 (by decide) (fun h2 => ?_) (fun h2 => ?_)
  · refine z_iconst C (v := 0) d_Bus_isWithin_14 (by decide) ?_
    exact hret _ _ _ _ d_Bus_isWithin_15 (by decide) ⟨by simp [wit, *], rfl⟩
  · refine z_iload_n C d_Bus_isWithin_5 rfl 0 rfl ?_
    refine z_iload_n C d_Bus_isWithin_6 rfl 2 rfl ?_
    refine z_icmp_gt C 14 d_Bus_isWithin_7 (by decide) (fun h7 => ?_) (fun h7 => ?_)
    · refine z_iconst C (v := 0) d_Bus_isWithin_14 (by decide) ?_
      exact hret _ _ _ _ d_Bus_isWithin_15 (by decide) ⟨by simp [wit, *], rfl⟩
    · refine z_iconst C (v := 1) d_Bus_isWithin_10 (by decide) ?_
      refine z_goto C 15 d_Bus_isWithin_11 (by decide) ?_
      exact hret _ _ _ _ d_Bus_isWithin_15 (by decide) ⟨by simp [wit, *], rfl⟩
def isTh (σ : Sg) (x : Int32) : Int32 := if bel x 6 = 0 then 0 else if σ.1 30 x.toNatClampNeg 0 0 = 0 then 0 else 1
set_option maxRecDepth 100000 in
set_option maxHeartbeats 4000000 in
/-- whether a node is there -/
theorem c_Bus_isThere (l : Launch) (D : va_G) (ca : Nat → ClassId) (b : Nat) (σ : Sg) (x : Int32) : CtI l D ca SB b 182 y_Bus_isThere w_Bus_isThere (rmN 1 21) σ [.ref (b + 0), .int x] (fun r σ' => r = isTh σ x ∧ σ' = σ) := by
  refine ct_z "RobotBus" [(0, .ref (b + 0)), (1, .int x)] (by decide) rfl (Nat.le_of_ble_eq_true rfl) rfl (fun X C hret => ?_)
  refine z_iload_n C d_Bus_isThere_0 rfl 1 rfl ?_
  refine z_bipush C (v := 6) d_Bus_isThere_1 (by decide) ?_
  refine zf_Si C d_Bus_isThere_3 (c_Bus_isBelow l D ca b σ x 6) tw_286 tw_287 tw_1 tw_288 pd_Bus_isBelow ⟨⟨by decide, by decide⟩, rfl, rfl, by decide, by decide⟩ (Nat.le_of_ble_eq_true rfl) rfl ?_
  refine z_if_eq C 25 d_Bus_isThere_6 (by decide) (fun h6 => ?_) (fun h6 => ?_)
  · refine z_iconst C (v := 0) d_Bus_isThere_25 (by decide) ?_
    exact hret _ _ _ _ d_Bus_isThere_26 (by decide) ⟨by simp [isTh, h6], rfl⟩
  · obtain ⟨j, hj, rfl⟩ := bel_nat (n := 6) (by decide) h6
    refine z_aload_n C d_Bus_isThere_9 rfl 0 rfl ?_
    refine gB_Bus_nodes C d_Bus_isThere_10 tw_233  ?_
    refine z_iload_n C d_Bus_isThere_13 rfl 1 rfl ?_
    refine rB_nods C (j := j) d_Bus_isThere_14  rfl hj ?_
    refine gB_Nod_present C d_Bus_isThere_15 tw_139 hj ?_
    refine z_if_eq C 25 d_Bus_isThere_18 (by decide) (fun h18 => ?_) (fun h18 => ?_)
    · refine z_iconst C (v := 0) d_Bus_isThere_25 (by decide) ?_
      exact hret _ _ _ _ d_Bus_isThere_26 (by decide) ⟨by simp [isTh, h6, h18, nI_clamp (show j < 2 ^ 31 by omega)], rfl⟩
    · refine z_iconst C (v := 1) d_Bus_isThere_21 (by decide) ?_
      refine z_goto C 26 d_Bus_isThere_22 (by decide) ?_
      exact hret _ _ _ _ d_Bus_isThere_26 (by decide) ⟨by simp [isTh, h6, h18, nI_clamp (show j < 2 ^ 31 by omega)], rfl⟩
def isAc (k a c : Int32) : Int32 := if k = -1 then 1 else if k = 0 then bel a 4 else if k = 1 then bel a 4 else if k = 2 then (if bel a 6 = 0 then 0 else if wit c (-100) 100 = 0 then 0 else 1) else if k = 3 then (if bel a 4 = 0 then 0 else if bel c 4 = 0 then 0 else 1) else if k = 4 then (if bel a 6 = 0 then 0 else if bel c 4 = 0 then 0 else 1) else 0
theorem sw_lo {x : Int32} {lo hi : Int} (h : ¬ (lo ≤ x.toInt ∧ x.toInt ≤ hi)) : x.toInt < lo ∨ hi < x.toInt := by omega
theorem sw_eq {x : Int32} (k : Int32) (h : x.toInt = k.toInt) : x = k := Int32.toInt_inj.mp h
set_option maxRecDepth 100000 in
set_option maxHeartbeats 4000000 in
/-- whether it is an action -/
theorem c_Bus_isAction (l : Launch) (D : va_G) (ca : Nat → ClassId) (b : Nat) (σ : Sg) {n : Nat} {S : List Cee} (k a c : Int32) : CtI l D ca S b n y_Bus_isAction w_Bus_isAction (rmN 1 22) σ [.int k, .int a, .int c] (fun r σ' => r = isAc k a c ∧ σ' = σ) := by
  refine ct_z "RobotBus" [(0, .int k), (1, .int a), (2, .int c)] (by decide) rfl (Nat.le_of_ble_eq_true rfl) rfl (fun X C hret => ?_)
  refine z_iload_n C d_Bus_isAction_0 rfl 0 rfl ?_
  by_cases q1_0 : k = (-1)
  · refine z_ri q1_0 ?_
    refine z_tableIn C 40 d_Bus_isAction_1 (off := 39) (by decide) (by decide) (by decide) (by decide) ?_
    refine z_iconst C (v := 1) d_Bus_isAction_40 (by decide) ?_
    exact hret _ _ _ _ d_Bus_isAction_41 (by decide) ⟨by simp [isAc, *], rfl⟩
  by_cases q1_1 : k = 0
  · refine z_ri q1_1 ?_
    refine z_tableIn C 42 d_Bus_isAction_1 (off := 41) (by decide) (by decide) (by decide) (by decide) ?_
    refine z_iload_n C d_Bus_isAction_42 rfl 1 rfl ?_
    refine z_iconst C (v := 4) d_Bus_isAction_43 (by decide) ?_
    refine zf_Si C d_Bus_isAction_44 (c_Bus_isBelow l D ca b σ a 4) tw_286 tw_287 tw_1 tw_288 pd_Bus_isBelow ⟨⟨by decide, by decide⟩, rfl, rfl, by decide, by decide⟩ (Nat.le_of_ble_eq_true rfl) rfl ?_
    exact hret _ _ _ _ d_Bus_isAction_47 (bel_01 _ _) ⟨by simp [isAc, *], rfl⟩
  by_cases q1_2 : k = 1
  · refine z_ri q1_2 ?_
    refine z_tableIn C 42 d_Bus_isAction_1 (off := 41) (by decide) (by decide) (by decide) (by decide) ?_
    refine z_iload_n C d_Bus_isAction_42 rfl 1 rfl ?_
    refine z_iconst C (v := 4) d_Bus_isAction_43 (by decide) ?_
    refine zf_Si C d_Bus_isAction_44 (c_Bus_isBelow l D ca b σ a 4) tw_286 tw_287 tw_1 tw_288 pd_Bus_isBelow ⟨⟨by decide, by decide⟩, rfl, rfl, by decide, by decide⟩ (Nat.le_of_ble_eq_true rfl) rfl ?_
    exact hret _ _ _ _ d_Bus_isAction_47 (bel_01 _ _) ⟨by simp [isAc, *], rfl⟩
  by_cases q1_3 : k = 2
  · refine z_ri q1_3 ?_
    refine z_tableIn C 48 d_Bus_isAction_1 (off := 47) (by decide) (by decide) (by decide) (by decide) ?_
    refine z_iload_n C d_Bus_isAction_48 rfl 1 rfl ?_
    refine z_bipush C (v := 6) d_Bus_isAction_49 (by decide) ?_
    refine zf_Si C d_Bus_isAction_51 (c_Bus_isBelow l D ca b σ a 6) tw_286 tw_287 tw_1 tw_288 pd_Bus_isBelow ⟨⟨by decide, by decide⟩, rfl, rfl, by decide, by decide⟩ (Nat.le_of_ble_eq_true rfl) rfl ?_
    refine z_if_eq C 72 d_Bus_isAction_54 (by decide) (fun h54 => ?_) (fun h54 => ?_)
    · refine z_iconst C (v := 0) d_Bus_isAction_72 (by decide) ?_
      exact hret _ _ _ _ d_Bus_isAction_73 (by decide) ⟨by simp [isAc, *], rfl⟩
    · refine z_iload_n C d_Bus_isAction_57 rfl 2 rfl ?_
      refine z_bipush C (v := -100) d_Bus_isAction_58 (by decide) ?_
      refine z_bipush C (v := 100) d_Bus_isAction_60 (by decide) ?_
      refine zf_Si C d_Bus_isAction_62 (c_Bus_isWithin l D ca b σ c (-100) 100) tw_426 tw_427 tw_1 tw_428 pd_Bus_isWithin ⟨⟨by decide, by decide⟩, rfl, rfl, by decide, by decide⟩ (Nat.le_of_ble_eq_true rfl) rfl ?_
      refine z_if_eq C 72 d_Bus_isAction_65 (by decide) (fun h65 => ?_) (fun h65 => ?_)
      · refine z_iconst C (v := 0) d_Bus_isAction_72 (by decide) ?_
        exact hret _ _ _ _ d_Bus_isAction_73 (by decide) ⟨by simp [isAc, *], rfl⟩
      · refine z_iconst C (v := 1) d_Bus_isAction_68 (by decide) ?_
        refine z_goto C 73 d_Bus_isAction_69 (by decide) ?_
        exact hret _ _ _ _ d_Bus_isAction_73 (by decide) ⟨by simp [isAc, *], rfl⟩
  by_cases q1_4 : k = 3
  · refine z_ri q1_4 ?_
    refine z_tableIn C 74 d_Bus_isAction_1 (off := 73) (by decide) (by decide) (by decide) (by decide) ?_
    refine z_iload_n C d_Bus_isAction_74 rfl 1 rfl ?_
    refine z_iconst C (v := 4) d_Bus_isAction_75 (by decide) ?_
    refine zf_Si C d_Bus_isAction_76 (c_Bus_isBelow l D ca b σ a 4) tw_286 tw_287 tw_1 tw_288 pd_Bus_isBelow ⟨⟨by decide, by decide⟩, rfl, rfl, by decide, by decide⟩ (Nat.le_of_ble_eq_true rfl) rfl ?_
    refine z_if_eq C 94 d_Bus_isAction_79 (by decide) (fun h79 => ?_) (fun h79 => ?_)
    · refine z_iconst C (v := 0) d_Bus_isAction_94 (by decide) ?_
      exact hret _ _ _ _ d_Bus_isAction_95 (by decide) ⟨by simp [isAc, *], rfl⟩
    · refine z_iload_n C d_Bus_isAction_82 rfl 2 rfl ?_
      refine z_iconst C (v := 4) d_Bus_isAction_83 (by decide) ?_
      refine zf_Si C d_Bus_isAction_84 (c_Bus_isBelow l D ca b σ c 4) tw_286 tw_287 tw_1 tw_288 pd_Bus_isBelow ⟨⟨by decide, by decide⟩, rfl, rfl, by decide, by decide⟩ (Nat.le_of_ble_eq_true rfl) rfl ?_
      refine z_if_eq C 94 d_Bus_isAction_87 (by decide) (fun h87 => ?_) (fun h87 => ?_)
      · refine z_iconst C (v := 0) d_Bus_isAction_94 (by decide) ?_
        exact hret _ _ _ _ d_Bus_isAction_95 (by decide) ⟨by simp [isAc, *], rfl⟩
      · refine z_iconst C (v := 1) d_Bus_isAction_90 (by decide) ?_
        refine z_goto C 95 d_Bus_isAction_91 (by decide) ?_
        exact hret _ _ _ _ d_Bus_isAction_95 (by decide) ⟨by simp [isAc, *], rfl⟩
  by_cases q1_5 : k = 4
  · refine z_ri q1_5 ?_
    refine z_tableIn C 96 d_Bus_isAction_1 (off := 95) (by decide) (by decide) (by decide) (by decide) ?_
    refine z_iload_n C d_Bus_isAction_96 rfl 1 rfl ?_
    refine z_bipush C (v := 6) d_Bus_isAction_97 (by decide) ?_
    refine zf_Si C d_Bus_isAction_99 (c_Bus_isBelow l D ca b σ a 6) tw_286 tw_287 tw_1 tw_288 pd_Bus_isBelow ⟨⟨by decide, by decide⟩, rfl, rfl, by decide, by decide⟩ (Nat.le_of_ble_eq_true rfl) rfl ?_
    refine z_if_eq C 117 d_Bus_isAction_102 (by decide) (fun h102 => ?_) (fun h102 => ?_)
    · refine z_iconst C (v := 0) d_Bus_isAction_117 (by decide) ?_
      exact hret _ _ _ _ d_Bus_isAction_118 (by decide) ⟨by simp [isAc, *], rfl⟩
    · refine z_iload_n C d_Bus_isAction_105 rfl 2 rfl ?_
      refine z_iconst C (v := 4) d_Bus_isAction_106 (by decide) ?_
      refine zf_Si C d_Bus_isAction_107 (c_Bus_isBelow l D ca b σ c 4) tw_286 tw_287 tw_1 tw_288 pd_Bus_isBelow ⟨⟨by decide, by decide⟩, rfl, rfl, by decide, by decide⟩ (Nat.le_of_ble_eq_true rfl) rfl ?_
      refine z_if_eq C 117 d_Bus_isAction_110 (by decide) (fun h110 => ?_) (fun h110 => ?_)
      · refine z_iconst C (v := 0) d_Bus_isAction_117 (by decide) ?_
        exact hret _ _ _ _ d_Bus_isAction_118 (by decide) ⟨by simp [isAc, *], rfl⟩
      · refine z_iconst C (v := 1) d_Bus_isAction_113 (by decide) ?_
        refine z_goto C 118 d_Bus_isAction_114 (by decide) ?_
        exact hret _ _ _ _ d_Bus_isAction_118 (by decide) ⟨by simp [isAc, *], rfl⟩
  refine z_tableOut C 119 d_Bus_isAction_1 (by have e0 := lv_neT q1_0 (a := -1) (by decide); have e1 := lv_neT q1_1 (a := 0) (by decide); have e2 := lv_neT q1_2 (a := 1) (by decide); have e3 := lv_neT q1_3 (a := 2) (by decide); have e4 := lv_neT q1_4 (a := 3) (by decide); have e5 := lv_neT q1_5 (a := 4) (by decide); omega) (by decide) ?_
  refine z_iconst C (v := 0) d_Bus_isAction_119 (by decide) ?_
  exact hret _ _ _ _ d_Bus_isAction_120 (by decide) ⟨by simp [isAc, *], rfl⟩
def isSv (s k c e : Int32) : Int32 := if wit e (-1000) 1000 = 0 then 0 else if k = 0 then wit c (-100) 100 else if k = 1 then bel c 4 else if k = 2 then bel c 4 else if k = 3 then bel c s else 0
set_option maxRecDepth 100000 in
set_option maxHeartbeats 4000000 in
/-- whether it is a service -/
theorem c_Bus_isService (l : Launch) (D : va_G) (ca : Nat → ClassId) (b : Nat) (σ : Sg) {n : Nat} {S : List Cee} (s k c e : Int32) : CtI l D ca S b n y_Bus_isService w_Bus_isService (rmN 1 22) σ [.int s, .int k, .int c, .int e] (fun r σ' => r = isSv s k c e ∧ σ' = σ) := by
  refine ct_z "RobotBus" [(0, .int s), (1, .int k), (2, .int c), (3, .int e)] (by decide) rfl (Nat.le_of_ble_eq_true rfl) rfl (fun X C hret => ?_)
  refine z_iload_n C d_Bus_isService_0 rfl 3 rfl ?_
  refine z_sipush C (v := -1000) d_Bus_isService_1 (by decide) ?_
  refine z_sipush C (v := 1000) d_Bus_isService_4 (by decide) ?_
  refine zf_Si C d_Bus_isService_7 (c_Bus_isWithin l D ca b σ e (-1000) 1000) tw_426 tw_427 tw_1 tw_428 pd_Bus_isWithin ⟨⟨by decide, by decide⟩, rfl, rfl, by decide, by decide⟩ (Nat.le_of_ble_eq_true rfl) rfl ?_
  refine z_if_ne C 15 d_Bus_isService_10 (by decide) (fun h10 => ?_) (fun h10 => ?_)
  · refine z_iload_n C d_Bus_isService_15 rfl 1 rfl ?_
    by_cases q16_0 : k = 0
    · refine z_ri q16_0 ?_
      refine z_tableIn C 48 d_Bus_isService_16 (off := 32) (by decide) (by decide) (by decide) (by decide) ?_
      refine z_iload_n C d_Bus_isService_48 rfl 2 rfl ?_
      refine z_bipush C (v := -100) d_Bus_isService_49 (by decide) ?_
      refine z_bipush C (v := 100) d_Bus_isService_51 (by decide) ?_
      refine zf_Si C d_Bus_isService_53 (c_Bus_isWithin l D ca b σ c (-100) 100) tw_426 tw_427 tw_1 tw_428 pd_Bus_isWithin ⟨⟨by decide, by decide⟩, rfl, rfl, by decide, by decide⟩ (Nat.le_of_ble_eq_true rfl) rfl ?_
      exact hret _ _ _ _ d_Bus_isService_56 (wit_01 _ _ _) ⟨by simp [isSv, *], rfl⟩
    by_cases q16_1 : k = 1
    · refine z_ri q16_1 ?_
      refine z_tableIn C 57 d_Bus_isService_16 (off := 41) (by decide) (by decide) (by decide) (by decide) ?_
      refine z_iload_n C d_Bus_isService_57 rfl 2 rfl ?_
      refine z_iconst C (v := 4) d_Bus_isService_58 (by decide) ?_
      refine zf_Si C d_Bus_isService_59 (c_Bus_isBelow l D ca b σ c 4) tw_286 tw_287 tw_1 tw_288 pd_Bus_isBelow ⟨⟨by decide, by decide⟩, rfl, rfl, by decide, by decide⟩ (Nat.le_of_ble_eq_true rfl) rfl ?_
      exact hret _ _ _ _ d_Bus_isService_62 (bel_01 _ _) ⟨by simp [isSv, *], rfl⟩
    by_cases q16_2 : k = 2
    · refine z_ri q16_2 ?_
      refine z_tableIn C 57 d_Bus_isService_16 (off := 41) (by decide) (by decide) (by decide) (by decide) ?_
      refine z_iload_n C d_Bus_isService_57 rfl 2 rfl ?_
      refine z_iconst C (v := 4) d_Bus_isService_58 (by decide) ?_
      refine zf_Si C d_Bus_isService_59 (c_Bus_isBelow l D ca b σ c 4) tw_286 tw_287 tw_1 tw_288 pd_Bus_isBelow ⟨⟨by decide, by decide⟩, rfl, rfl, by decide, by decide⟩ (Nat.le_of_ble_eq_true rfl) rfl ?_
      exact hret _ _ _ _ d_Bus_isService_62 (bel_01 _ _) ⟨by simp [isSv, *], rfl⟩
    by_cases q16_3 : k = 3
    · refine z_ri q16_3 ?_
      refine z_tableIn C 63 d_Bus_isService_16 (off := 47) (by decide) (by decide) (by decide) (by decide) ?_
      refine z_iload_n C d_Bus_isService_63 rfl 2 rfl ?_
      refine z_iload_n C d_Bus_isService_64 rfl 0 rfl ?_
      refine zf_Si C d_Bus_isService_65 (c_Bus_isBelow l D ca b σ c s) tw_286 tw_287 tw_1 tw_288 pd_Bus_isBelow ⟨⟨by decide, by decide⟩, rfl, rfl, by decide, by decide⟩ (Nat.le_of_ble_eq_true rfl) rfl ?_
      exact hret _ _ _ _ d_Bus_isService_68 (bel_01 _ _) ⟨by simp [isSv, *], rfl⟩
    refine z_tableOut C 69 d_Bus_isService_16 (by have e0 := lv_neT q16_0 (a := 0) (by decide); have e1 := lv_neT q16_1 (a := 1) (by decide); have e2 := lv_neT q16_2 (a := 2) (by decide); have e3 := lv_neT q16_3 (a := 3) (by decide); omega) (by decide) ?_
    refine z_iconst C (v := 0) d_Bus_isService_69 (by decide) ?_
    exact hret _ _ _ _ d_Bus_isService_70 (by decide) ⟨by simp [isSv, *], rfl⟩
  · refine z_iconst C (v := 0) d_Bus_isService_13 (by decide) ?_
    exact hret _ _ _ _ d_Bus_isService_14 (by decide) ⟨by simp [isSv, *], rfl⟩
end
section
/-! What always holds of the bus' state, and what keeps it. -/
def qsz (σ : Sg) (i t : Nat) : Nat := (σ.1 34 i t 0).toNatClampNeg
def qdp (σ : Sg) (i t : Nat) : Nat := (σ.1 33 i t 0).toNatClampNeg
def bsz (σ : Sg) : Nat := (σ.1 10 0 0 0).toNatClampNeg
def QI (σ : Sg) : Prop := ∀ i t, i < 6 → t < 6 → σ.1 34 i t 0 = nI (qsz σ i t) ∧ σ.1 33 i t 0 = nI (qdp σ i t) ∧ qsz σ i t ≤ qdp σ i t ∧ qdp σ i t ≤ 4
def BZ (σ : Sg) : Prop := σ.1 10 0 0 0 = nI (bsz σ) ∧ bsz σ ≤ 30
theorem qDrop_ne {σ : Sg} {i t q m f i' t' : Nat} (h1 : ¬ (f, i', t') = (34, i, t)) (h2 : ¬ (f, i', t') = (35, i, t)) : (qDrop σ i t q m).1 f i' t' = σ.1 f i' t' := by
  unfold qDrop
  rw [upA_ne h2, us_ne h1]
theorem qPut_ne {σ : Sg} {i t q f i' t' : Nat} {v s w : Int32} (h1 : ¬ (f, i', t') = (34, i, t)) (h2 : ¬ (f, i', t') = (35, i, t)) : (qPut σ i t q v s w).1 f i' t' = σ.1 f i' t' := by
  unfold qPut
  rw [us_ne h1, upA_ne h2]
theorem qApp_ne {σ : Sg} {i t q d f i' t' : Nat} {v s w : Int32} (h1 : ¬ (f, i', t') = (34, i, t)) (h2 : ¬ (f, i', t') = (35, i, t)) : (qApp σ i t q d v s w).1 f i' t' = σ.1 f i' t' := by
  unfold qApp
  split <;> rw [qPut_ne h1 h2, qDrop_ne h1 h2]
theorem qApp_sz {σ : Sg} {i t q d : Nat} {v s w : Int32} : (qApp σ i t q d v s w).1 34 i t 0 = nI (if q < d then q + 1 else q - 1 + 1) := by
  unfold qApp
  split <;> simp [qPut, us, upA]
theorem qOpen_dp {σ : Sg} {i t : Nat} (hQ : QI σ) (hi : i < 6) (ht : t < 6) (h : ¬ qOpen σ i t = 0) : 1 ≤ qdp σ i t := by
  obtain ⟨-, h2, -, h4⟩ := hQ i t hi ht
  rcases Nat.eq_zero_or_pos (qdp σ i t) with h0 | h0
  · exfalso
    apply h
    unfold qOpen
    rw [h2, h0, if_pos (by decide)]
  · exact h0
theorem qOpen_no {σ : Sg} {i t : Nat} (hQ : QI σ) (hi : i < 6) (ht : t < 6) (h : qOpen σ i t = 0) : qdp σ i t = 0 := by
  obtain ⟨-, h2, -, h4⟩ := hQ i t hi ht
  rcases Nat.eq_zero_or_pos (qdp σ i t) with h0 | h0
  · exact h0
  · exfalso
    unfold qOpen at h
    rw [h2, if_neg (nI_nle h0 (by omega))] at h
    exact absurd h (by decide)
/-- two states that agree at the queues' numbers -/
theorem QI_eq {σ σ' : Sg} (h : ∀ i t, i < 6 → t < 6 → σ'.1 33 i t 0 = σ.1 33 i t 0 ∧ σ'.1 34 i t 0 = σ.1 34 i t 0) (hQ : QI σ) : QI σ' := by
  intro i t hi ht
  obtain ⟨h1, h2⟩ := h i t hi ht
  unfold qsz qdp
  rw [h1, h2]
  exact hQ i t hi ht
theorem QI_app {σ : Sg} {i t : Nat} {v s w : Int32} (hQ : QI σ) (hi : i < 6) (ht : t < 6) (h1 : 1 ≤ qdp σ i t) : QI (qApp σ i t (qsz σ i t) (qdp σ i t) v s w) := by
  intro i' t' hi' ht'
  by_cases h : i' = i ∧ t' = t
  · obtain ⟨rfl, rfl⟩ := h
    obtain ⟨a1, a2, a3, a4⟩ := hQ i' t' hi ht
    have e1 : (qApp σ i' t' (qsz σ i' t') (qdp σ i' t') v s w).1 33 i' t' 0 = nI (qdp σ i' t') := by rw [qApp_ne (by simp) (by simp)]; exact a2
    have e2 := qApp_sz (σ := σ) (i := i') (t := t') (q := qsz σ i' t') (d := qdp σ i' t') (v := v) (s := s) (w := w)
    have hz : (if qsz σ i' t' < qdp σ i' t' then qsz σ i' t' + 1 else qsz σ i' t' - 1 + 1) ≤ qdp σ i' t' := by split <;> omega
    unfold qsz qdp at *
    rw [e1, e2, nI_clamp (by omega), nI_clamp (by omega)]
    exact ⟨rfl, rfl, hz, a4⟩
  · have hk : ¬ (34, i', t') = (34, i, t) := by simp; intro q1 q2; exact h ⟨q1, q2⟩
    have hb : σ.1 33 i' t' 0 = (qApp σ i t (qsz σ i t) (qdp σ i t) v s w).1 33 i' t' 0 := by rw [qApp_ne (by simp) (by simp)]
    have hc : σ.1 34 i' t' 0 = (qApp σ i t (qsz σ i t) (qdp σ i t) v s w).1 34 i' t' 0 := by rw [qApp_ne hk (by simp)]
    have h0 := hQ i' t' hi' ht'
    unfold qsz qdp at h0 ⊢
    rw [hb, hc] at h0
    exact h0
theorem QI_us {σ : Sg} {f i t : Nat} {x : Int32} (h3 : f ≠ 33) (h4 : f ≠ 34) (hQ : QI σ) : QI (us σ f i t x) :=
  QI_eq (fun i' t' _ _ => ⟨by rw [us_ne (by simp; intro q; exact absurd q.symm h3)], by rw [us_ne (by simp; intro q; exact absurd q.symm h4)]⟩) hQ
theorem QI_upA {σ : Sg} {f i t : Nat} {g : Nat → Int32} (h3 : f ≠ 33) (h4 : f ≠ 34) (hQ : QI σ) : QI (upA σ (f, i, t) g) :=
  QI_eq (fun i' t' _ _ => ⟨by rw [upA_ne (by simp; intro q; exact absurd q.symm h3)], by rw [upA_ne (by simp; intro q; exact absurd q.symm h4)]⟩) hQ
/-- publishing: the queues -/
def sLp (t : Nat) (v s : Int32) : Nat → Nat → Sg → Int32 → Sg × Int32
  | 0, _, σ, n => (σ, n)
  | m + 1, k, σ, n => if qOpen σ k t = 0 then sLp t v s m (k + 1) σ n else sLp t v s m (k + 1) (us (qApp σ k t (qsz σ k t) (qdp σ k t) v s (σ.1 1 0 0 0)) 2 0 0 (σ.1 2 0 0 0 + qLost (qsz σ k t) (qdp σ k t))) (n + 1)
theorem sLp_ne {t : Nat} {v s : Int32} {f i' t' : Nat} (h2 : f ≠ 2) (h3 : f ≠ 34) (h4 : f ≠ 35) : ∀ (m k : Nat) (σ : Sg) (n : Int32), (sLp t v s m k σ n).1.1 f i' t' = σ.1 f i' t' := by
  intro m
  induction m with
  | zero => intro k σ n; rfl
  | succ m ih =>
    intro k σ n
    unfold sLp
    split
    · exact ih (k + 1) σ n
    · rw [ih, us_ne (by simp; intro q; exact absurd q h2), qApp_ne (by simp; intro q; exact absurd q h3) (by simp; intro q; exact absurd q h4)]
theorem sLp_QI {t : Nat} {v s : Int32} (ht : t < 6) : ∀ (m k : Nat), k + m = 6 → ∀ (σ : Sg) (n : Int32), QI σ → QI (sLp t v s m k σ n).1 := by
  intro m
  induction m with
  | zero => intro k _ σ n h; exact h
  | succ m ih =>
    intro k hk σ n h
    unfold sLp
    split
    · exact ih (k + 1) (by omega) σ n h
    · rename_i ho
      exact ih (k + 1) (by omega) _ _ (QI_us (by decide) (by decide) (QI_app h (by omega) ht (qOpen_dp h (by omega) ht ho)))
def sRec (σ : Sg) (t : Nat) (v s : Int32) : Sg := if σ.1 41 t 0 0 = 0 then σ else if s = -1 then σ else bApp σ (bsz σ) (σ.1 1 0 0 0) (nI t) v
def sPub (σ : Sg) : Sg := us σ 3 0 0 (σ.1 3 0 0 0 + 1)
def sSend (σ : Sg) (t : Nat) (v s : Int32) : Sg := sPub (sRec (tLast (sLp t v s 6 0 σ 0).1 t v s ((sLp t v s 6 0 σ 0).1.1 1 0 0 0)) t v s)
def sCnt (σ : Sg) (t : Nat) (v s : Int32) : Int32 := (sLp t v s 6 0 σ 0).2
theorem tLast_ne {σ : Sg} {i f i' t' : Nat} {v s w : Int32} (h1 : f ≠ 42) (h2 : f ≠ 43) (h3 : f ≠ 44) (h4 : f ≠ 45) : (tLast σ i v s w).1 f i' t' = σ.1 f i' t' := by
  unfold tLast
  rw [us_ne (by simp; intro q; exact absurd q h4), us_ne (by simp; intro q; exact absurd q h3), us_ne (by simp; intro q; exact absurd q h2), us_ne (by simp; intro q; exact absurd q h1)]
theorem bApp_ne {σ : Sg} {z f i' t' : Nat} {a o v : Int32} (h1 : f ≠ 10) (h2 : f ≠ 15) (h3 : f ≠ 16) (h4 : f ≠ 17) : (bApp σ z a o v).1 f i' t' = σ.1 f i' t' := by
  unfold bApp
  split
  · rw [us_ne (by simp; intro q; exact absurd q h1), upA_ne (by simp; intro q; exact absurd q h4), upA_ne (by simp; intro q; exact absurd q h3), upA_ne (by simp; intro q; exact absurd q h2)]
  · rfl
theorem sRec_ne {σ : Sg} {t f i' t' : Nat} {v s : Int32} (h1 : f ≠ 10) (h2 : f ≠ 15) (h3 : f ≠ 16) (h4 : f ≠ 17) : (sRec σ t v s).1 f i' t' = σ.1 f i' t' := by
  unfold sRec
  split
  · rfl
  · split
    · rfl
    · exact bApp_ne h1 h2 h3 h4
end
section
/-! send -/
set_option maxRecDepth 100000 in
set_option maxHeartbeats 4000000 in
theorem lp_Bus_send (l : Launch) (D : va_G) (ca : Nat → ClassId) (b : Nat) {R : Room} {X : Zx} {y0 : MethodName} {c0 : ByteArray} {n0 : Nat} {r0 : Option FieldType} (hR : 3 ≤ R.frames ∧ 64 ≤ R.locals) (C : Cs D ca b_Bus_send 7 "RobotBus" (Cond.code y0 c0 n0 r0) X) {t : Nat} (ht : t < 6) (v s : Int32) : ∀ m k, k + m = 6 → ∀ (σ : Sg) (n : Int32), QI σ → Zs l D ca SB b 182 R 7 X (sLp t v s m k σ n).1 64 [(5, .int (nI 6)), (4, .int (sLp t v s m k σ n).2), (0, .ref (b + 0)), (1, .int (nI t)), (2, .int v), (3, .int s)] [] → Zs l D ca SB b 182 R 7 X σ 6 [(5, .int (nI k)), (4, .int n), (0, .ref (b + 0)), (1, .int (nI t)), (2, .int v), (3, .int s)] [] := by
  intro m
  induction m with
  | zero =>
    intro k hk σ n hQ kk
    have hk6 : k = 6 := by omega
    subst hk6
    refine z_iload C d_Bus_send_6 0 rfl ?_
    refine z_bipush C (v := 6) d_Bus_send_8 (by decide) ?_
    refine z_icmp_ge C 64 d_Bus_send_10 (by decide) (fun h10 => ?_) (fun h10 => False.elim (h10 (by decide)))
    exact kk
  | succ m ih =>
    intro k hk σ n hQ kk
    have hk6 : k < 6 := by omega
    obtain ⟨hq1, hq2, hq3, hq4⟩ := hQ k t hk6 ht
    refine z_iload C d_Bus_send_6 0 rfl ?_
    refine z_bipush C (v := 6) d_Bus_send_8 (by decide) ?_
    refine z_icmp_ge C 64 d_Bus_send_10 (by decide) (fun h10 => False.elim (nI_ge (a := k) (b := 6) (by omega) (by decide) h10)) (fun h10 => ?_)
    refine z_aload_n C d_Bus_send_13 rfl 2 rfl ?_
    refine gB_Bus_nodes C d_Bus_send_14 tw_233  ?_
    refine z_iload C d_Bus_send_17 0 rfl ?_
    refine rB_nods C (j := k) d_Bus_send_19  rfl hk6 ?_
    refine gB_Nod_queues C d_Bus_send_20 tw_135 hk6 ?_
    refine z_iload_n C d_Bus_send_23 rfl 3 rfl ?_
    refine rB_ques C (j := t) d_Bus_send_24 hk6 rfl ht ?_
    refine z_astore C d_Bus_send_25 (by decide) [(6, .ref (b + (14 + 22 * k + 3 * t))), (5, .int (nI k)), (4, .int n), (0, .ref (b + 0)), (1, .int (nI t)), (2, .int v), (3, .int s)] rfl ?_
    refine z_aload C d_Bus_send_27 0 rfl ?_
    refine zf_Vi C d_Bus_send_29 (c_Que_isOpen l D ca b σ hk6 ht) tw_430 tw_431 tw_432 tw_5 tw_433 pd_Que_isOpen ⟨⟨Nat.le_trans (by decide) hR.1, Nat.le_trans (by decide) hR.2⟩, rfl, rfl, Nat.zero_le _, Nat.zero_le _⟩ (by omega) rfl (eB_Que hk6 ht) rfl (Nat.le_of_ble_eq_true rfl) rfl ?_
    refine z_if_eq C 58 d_Bus_send_32 (by decide) (fun h32 => ?_) (fun h32 => ?_)
    · refine z_iinc C d_Bus_send_58 1 rfl (v := (nI (k + 1))) (by rw [← nI_1]; rfl) (by decide) [(5, .int (nI (k + 1))), (6, .ref (b + (14 + 22 * k + 3 * t))), (4, .int n), (0, .ref (b + 0)), (1, .int (nI t)), (2, .int v), (3, .int s)] rfl ?_
      refine z_goto C 6 d_Bus_send_61 (by decide) ?_
      refine z_loc [0, 2, 3, 4, 5, 6] rfl ?_
      rw [sLp, if_pos h32] at kk
      exact ih (k + 1) (by omega) σ n hQ kk
    · refine z_aload_n C d_Bus_send_35 rfl 3 rfl ?_
      refine z_dup C d_Bus_send_36 rfl ?_
      refine gB_Bus_messagesLost C d_Bus_send_37 tw_240  ?_
      refine z_aload C d_Bus_send_40 0 rfl ?_
      refine z_iload_n C d_Bus_send_42 rfl 5 rfl ?_
      refine z_iload_n C d_Bus_send_43 rfl 6 rfl ?_
      refine z_aload_n C d_Bus_send_44 rfl 3 rfl ?_
      refine gB_Bus_clock C d_Bus_send_45 tw_239  ?_
      refine zf_Vi C d_Bus_send_48 (c_Que_append l D ca b σ hk6 ht hq1 hq2 hq3 (qOpen_dp hQ hk6 ht h32) (by omega) hq4 v s (σ.1 1 0 0 0)) tw_448 tw_449 tw_450 tw_5 tw_451 pd_Que_append ⟨⟨hR.1, hR.2⟩, rfl, rfl, Nat.zero_le _, Nat.zero_le _⟩ (by omega) rfl (eB_Que hk6 ht) rfl (Nat.le_of_ble_eq_true rfl) rfl ?_
      refine z_iadd C d_Bus_send_51 ?_
      refine pB_Bus_messagesLost C d_Bus_send_52 tw_240  ?_
      refine z_iinc C d_Bus_send_55 2 rfl (v := (n + 1)) (by rw [show Int32.ofInt 1 = 1 by decide]) (by decide) [(4, .int (n + 1)), (6, .ref (b + (14 + 22 * k + 3 * t))), (5, .int (nI k)), (0, .ref (b + 0)), (1, .int (nI t)), (2, .int v), (3, .int s)] rfl ?_
      refine z_iinc C d_Bus_send_58 2 rfl (v := (nI (k + 1))) (by rw [← nI_1]; rfl) (by decide) [(5, .int (nI (k + 1))), (4, .int (n + 1)), (6, .ref (b + (14 + 22 * k + 3 * t))), (0, .ref (b + 0)), (1, .int (nI t)), (2, .int v), (3, .int s)] rfl ?_
      refine z_goto C 6 d_Bus_send_61 (by decide) ?_
      refine z_loc [0, 1, 3, 4, 5, 6] rfl ?_
      rw [sLp, if_neg h32] at kk
      exact ih (k + 1) (by omega) _ _ (QI_us (by decide) (by decide) (QI_app hQ hk6 ht (qOpen_dp hQ hk6 ht h32))) kk
set_option maxRecDepth 100000 in
set_option maxHeartbeats 4000000 in
/-- publishing a message -/
theorem c_Bus_send (l : Launch) (D : va_G) (ca : Nat → ClassId) (b : Nat) (σ : Sg) {t : Nat} (ht : t < 6) (v s : Int32) (hQ : QI σ) (hB : BZ σ) : CtI l D ca SB b 182 y_Bus_send w_Bus_send (rmN 3 64) σ [.ref (b + 0), .int (nI t), .int v, .int s] (fun r σ' => r = sCnt σ t v s ∧ σ' = sSend σ t v s) := by
  refine ct_i "RobotBus" [(0, .ref (b + 0)), (1, .int (nI t)), (2, .int v), (3, .int s)] (by decide) rfl (Nat.le_of_ble_eq_true rfl) rfl (fun X C hret => ?_)
  refine z_iconst C (v := 0) d_Bus_send_0 (by decide) ?_
  refine z_istore C d_Bus_send_1 (by decide) [(4, .int 0), (0, .ref (b + 0)), (1, .int (nI t)), (2, .int v), (3, .int s)] rfl ?_
  refine z_iconst C (v := 0) d_Bus_send_3 (by decide) ?_
  refine z_istore C d_Bus_send_4 (by decide) [(5, .int 0), (4, .int 0), (0, .ref (b + 0)), (1, .int (nI t)), (2, .int v), (3, .int s)] rfl ?_
  refine lp_Bus_send l D ca b ⟨by decide, by decide⟩ C ht v s 6 0 rfl σ 0 hQ ?_
  have hz1 : BZ (tLast (sLp t v s 6 0 σ 0).1 t v s ((sLp t v s 6 0 σ 0).1.1 1 0 0 0)) := by
    unfold BZ bsz
    rw [tLast_ne (by decide) (by decide) (by decide) (by decide), sLp_ne (by decide) (by decide) (by decide)]
    exact hB
  have hret2 : ∀ (σ' : Sg) (L' : List (Nat × Value)), σ' = sSend σ t v s → Zs l D ca SB b 182 (rmN 3 64) 7 X σ' 121 L' [.int (sLp t v s 6 0 σ 0).2] := fun σ' L' h9 => hret _ _ _ _ d_Bus_send_121 ⟨rfl, h9⟩
  unfold sSend sRec at hret2
  generalize hS1 : tLast (sLp t v s 6 0 σ 0).1 t v s ((sLp t v s 6 0 σ 0).1.1 1 0 0 0) = σ1 at hz1 hret2
  refine z_aload_n C d_Bus_send_64 rfl 2 rfl ?_
  refine gB_Bus_topics C d_Bus_send_65 tw_234  ?_
  refine z_iload_n C d_Bus_send_68 rfl 3 rfl ?_
  refine rB_tops C (j := t) d_Bus_send_69  rfl ht ?_
  refine z_iload_n C d_Bus_send_70 rfl 4 rfl ?_
  refine z_iload_n C d_Bus_send_71 rfl 5 rfl ?_
  refine z_aload_n C d_Bus_send_72 rfl 2 rfl ?_
  refine gB_Bus_clock C d_Bus_send_73 tw_239  ?_
  refine zf_Vv C d_Bus_send_76 (c_Top_setLast l D ca b (sLp t v s 6 0 σ 0).1 ht v s _) tw_472 tw_473 tw_474 tw_7 tw_475 pd_Top_setLast ⟨⟨by decide, by decide⟩, rfl, rfl, by decide, by decide⟩ (by omega) rfl (eB_Top ht) rfl (Nat.le_of_ble_eq_true rfl) rfl ?_
  rw [hS1]
  refine z_aload_n C d_Bus_send_79 rfl 2 rfl ?_
  refine gB_Bus_topics C d_Bus_send_80 tw_234  ?_
  refine z_iload_n C d_Bus_send_83 rfl 3 rfl ?_
  refine rB_tops C (j := t) d_Bus_send_84  rfl ht ?_
  refine gB_Top_recorded C d_Bus_send_85 tw_160 ht ?_
  refine z_if_eq C 109 d_Bus_send_88 (by decide) (fun h88 => ?_) (fun h88 => ?_)
  · refine z_aload_n C d_Bus_send_109 rfl 2 rfl ?_
    refine z_dup C d_Bus_send_110 rfl ?_
    refine gB_Bus_messagesPublished C d_Bus_send_111 tw_241  ?_
    refine z_iconst C (v := 1) d_Bus_send_114 (by decide) ?_
    refine z_iadd C d_Bus_send_115 ?_
    refine pB_Bus_messagesPublished C d_Bus_send_116 tw_241  ?_
    refine z_iload C d_Bus_send_119 1 rfl ?_
    exact hret2 _ _ (by simp [sPub, *])
  · refine z_iload_n C d_Bus_send_91 rfl 5 rfl ?_
    refine z_iconst C (v := -1) d_Bus_send_92 (by decide) ?_
    refine z_icmp_eq C 109 d_Bus_send_93 (by decide) (fun h93 => ?_) (fun h93 => ?_)
    · refine z_aload_n C d_Bus_send_109 rfl 2 rfl ?_
      refine z_dup C d_Bus_send_110 rfl ?_
      refine gB_Bus_messagesPublished C d_Bus_send_111 tw_241  ?_
      refine z_iconst C (v := 1) d_Bus_send_114 (by decide) ?_
      refine z_iadd C d_Bus_send_115 ?_
      refine pB_Bus_messagesPublished C d_Bus_send_116 tw_241  ?_
      refine z_iload C d_Bus_send_119 1 rfl ?_
      exact hret2 _ _ (by simp [sPub, *])
    · refine z_aload_n C d_Bus_send_96 rfl 2 rfl ?_
      refine gB_Bus_bag C d_Bus_send_97 tw_237  ?_
      refine z_aload_n C d_Bus_send_100 rfl 2 rfl ?_
      refine gB_Bus_clock C d_Bus_send_101 tw_239  ?_
      refine z_iload_n C d_Bus_send_104 rfl 3 rfl ?_
      refine z_iload_n C d_Bus_send_105 rfl 4 rfl ?_
      refine zf_Vv C d_Bus_send_106 (c_Bag_append l D ca b σ1 hz1.1 hz1.2 _ _ _) tw_476 tw_477 tw_478 tw_2 tw_479 pd_Bag_append ⟨⟨by decide, by decide⟩, rfl, rfl, by decide, by decide⟩ (by omega) rfl (eB_Bag ) rfl (Nat.le_of_ble_eq_true rfl) rfl ?_
      refine z_aload_n C d_Bus_send_109 rfl 2 rfl ?_
      refine z_dup C d_Bus_send_110 rfl ?_
      refine gB_Bus_messagesPublished C d_Bus_send_111 tw_241  ?_
      refine z_iconst C (v := 1) d_Bus_send_114 (by decide) ?_
      refine z_iadd C d_Bus_send_115 ?_
      refine pB_Bus_messagesPublished C d_Bus_send_116 tw_241  ?_
      refine z_iload C d_Bus_send_119 1 rfl ?_
      exact hret2 _ _ (by simp [sPub, *])
end
section
/-! Services -/
def sN (σ : Sg) (j : Nat) : Nat := (σ.1 50 j 0 0).toNatClampNeg
def sC (σ : Sg) (j : Nat) : Nat := (σ.1 52 j 0 0).toNatClampNeg
def SI (σ : Sg) : Prop := ∀ j, j < 4 → ¬ σ.1 50 j 0 0 = -1 → (σ.1 50 j 0 0 = nI (sN σ j) ∧ sN σ j < 6) ∧ (σ.1 51 j 0 0 = 0 ∨ (σ.1 52 j 0 0 = nI (sC σ j) ∧ sC σ j < 4 ∧ (σ.1 51 j 0 0 = 3 → sC σ j < j)))
def cmpF (σ : Sg) (j : Nat) (q a : Int32) : Sg × Int32 :=
  if σ.1 51 j 0 0 = 0 then (us σ 6 0 0 (σ.1 52 j 0 0 * q + σ.1 53 j 0 0 + a), 0)
  else if σ.1 51 j 0 0 = 1 then (us (upA σ (32, sN σ j, 0) (upd (σ.1 32 (sN σ j) 0) (sC σ j) (σ.1 32 (sN σ j) 0 (sC σ j) + q))) 6 0 0 (σ.1 32 (sN σ j) 0 (sC σ j) + q + a), 0)
  else if σ.1 32 (sN σ j) 0 (sC σ j) = 0 then (σ, 2) else (us σ 6 0 0 (q / σ.1 32 (sN σ j) 0 (sC σ j) + a), 0)
set_option maxRecDepth 100000 in
set_option maxHeartbeats 4000000 in
/-- what a service answers -/
theorem c_Bus_compute (l : Launch) (D : va_G) (ca : Nat → ClassId) (b : Nat) (σ : Sg) {j : Nat} (hj : j < 4) (hn : σ.1 50 j 0 0 = nI (sN σ j)) (hn6 : sN σ j < 6) (hc : σ.1 51 j 0 0 = 0 ∨ (σ.1 52 j 0 0 = nI (sC σ j) ∧ sC σ j < 4)) (q a : Int32) : CtI l D ca SB b 182 y_Bus_compute w_Bus_compute (rmN 0 0) σ [.ref (b + 0), .ref (b + (148 + j)), .int q, .int a] (fun r σ' => r = (cmpF σ j q a).2 ∧ σ' = (cmpF σ j q a).1) := by
  refine ct_i "RobotBus" [(0, .ref (b + 0)), (1, .ref (b + (148 + j))), (2, .int q), (3, .int a)] (by decide) rfl (Nat.le_of_ble_eq_true rfl) rfl (fun X C hret => ?_)
  refine z_aload_n C d_Bus_compute_0 rfl 1 rfl ?_
  refine gB_Srv_kind C d_Bus_compute_1 tw_190 hj ?_
  refine z_if_ne C 26 d_Bus_compute_4 (by decide) (fun h4 => ?_) (fun h4 => ?_)
  · have hc' := hc.resolve_left h4
    refine z_aload_n C d_Bus_compute_26 rfl 0 rfl ?_
    refine gB_Bus_nodes C d_Bus_compute_27 tw_233  ?_
    refine z_aload_n C d_Bus_compute_30 rfl 1 rfl ?_
    refine gB_Srv_node C d_Bus_compute_31 tw_188 hj ?_
    refine z_ri (x' := nI (sN σ j)) hn ?_
    refine rB_nods C (j := (sN σ j)) d_Bus_compute_34  rfl hn6 ?_
    refine gB_Nod_variables C d_Bus_compute_35 tw_133 hn6 ?_
    refine z_astore C d_Bus_compute_38 (by decide) [(4, .ref (b + (11 + 22 * (sN σ j)))), (0, .ref (b + 0)), (1, .ref (b + (148 + j))), (2, .int q), (3, .int a)] rfl ?_
    refine z_aload_n C d_Bus_compute_40 rfl 2 rfl ?_
    refine gB_Srv_kind C d_Bus_compute_41 tw_190 hj ?_
    refine z_iconst C (v := 1) d_Bus_compute_44 (by decide) ?_
    refine z_icmp_ne C 74 d_Bus_compute_45 (by decide) (fun h45 => ?_) (fun h45 => ?_)
    · refine z_aload C d_Bus_compute_74 0 rfl ?_
      refine z_aload_n C d_Bus_compute_76 rfl 2 rfl ?_
      refine gB_Srv_c C d_Bus_compute_77 tw_192 hj ?_
      refine z_ri (x' := nI (sC σ j)) (by exact hc'.1) ?_
      refine lB_vars C (q := (sC σ j)) d_Bus_compute_80 hn6 rfl hc'.2 ?_
      refine z_istore C d_Bus_compute_81 (by decide) [(5, .int (σ.1 32 (sN σ j) 0 (sC σ j))), (4, .ref (b + (11 + 22 * (sN σ j)))), (0, .ref (b + 0)), (1, .ref (b + (148 + j))), (2, .int q), (3, .int a)] rfl ?_
      refine z_iload C d_Bus_compute_83 0 rfl ?_
      refine z_if_ne C 90 d_Bus_compute_85 (by decide) (fun h85 => ?_) (fun h85 => ?_)
      · refine z_aload_n C d_Bus_compute_90 rfl 2 rfl ?_
        refine z_iload_n C d_Bus_compute_91 rfl 4 rfl ?_
        refine z_iload C d_Bus_compute_92 0 rfl ?_
        refine z_idiv C d_Bus_compute_94 h85 ?_
        refine z_iload_n C d_Bus_compute_95 rfl 5 rfl ?_
        refine z_iadd C d_Bus_compute_96 ?_
        refine pB_Bus_answer C d_Bus_compute_97 tw_244  ?_
        refine z_iconst C (v := 0) d_Bus_compute_100 (by decide) ?_
        exact hret _ _ _ _ d_Bus_compute_101 ⟨by simp [cmpF, *], by simp [cmpF, *]⟩
      · refine z_iconst C (v := 2) d_Bus_compute_88 (by decide) ?_
        exact hret _ _ _ _ d_Bus_compute_89 ⟨by simp [cmpF, *], by simp [cmpF, *]⟩
    · refine z_aload C d_Bus_compute_48 0 rfl ?_
      refine z_aload_n C d_Bus_compute_50 rfl 2 rfl ?_
      refine gB_Srv_c C d_Bus_compute_51 tw_192 hj ?_
      refine z_ri (x' := nI (sC σ j)) (by exact hc'.1) ?_
      refine z_dup2 C d_Bus_compute_54 rfl rfl ?_
      refine lB_vars C (q := (sC σ j)) d_Bus_compute_55 hn6 rfl hc'.2 ?_
      refine z_iload_n C d_Bus_compute_56 rfl 3 rfl ?_
      refine z_iadd C d_Bus_compute_57 ?_
      refine stB_vars C (q := (sC σ j)) d_Bus_compute_58 hn6 rfl hc'.2 ?_
      refine z_aload_n C d_Bus_compute_59 rfl 1 rfl ?_
      refine z_aload C d_Bus_compute_60 0 rfl ?_
      refine z_aload_n C d_Bus_compute_62 rfl 2 rfl ?_
      refine gB_Srv_c C d_Bus_compute_63 tw_192 hj ?_
      refine z_ri (x' := nI (sC σ j)) (by rw [upA_ne (by simp)]; exact hc'.1) ?_
      refine lB_vars C (q := (sC σ j)) d_Bus_compute_66 hn6 rfl hc'.2 ?_
      refine z_iload_n C d_Bus_compute_67 rfl 4 rfl ?_
      refine z_iadd C d_Bus_compute_68 ?_
      refine z_ri (x' := σ.1 32 (sN σ j) 0 (sC σ j) + q + a) (by simp [upA, upd]) ?_
      refine pB_Bus_answer C d_Bus_compute_69 tw_244  ?_
      refine z_iconst C (v := 0) d_Bus_compute_72 (by decide) ?_
      exact hret _ _ _ _ d_Bus_compute_73 ⟨by simp [cmpF, *], by simp [cmpF, *]⟩
  · refine z_aload_n C d_Bus_compute_7 rfl 0 rfl ?_
    refine z_aload_n C d_Bus_compute_8 rfl 1 rfl ?_
    refine gB_Srv_c C d_Bus_compute_9 tw_192 hj ?_
    refine z_iload_n C d_Bus_compute_12 rfl 2 rfl ?_
    refine z_imul C d_Bus_compute_13 ?_
    refine z_aload_n C d_Bus_compute_14 rfl 1 rfl ?_
    refine gB_Srv_d C d_Bus_compute_15 tw_194 hj ?_
    refine z_iadd C d_Bus_compute_18 ?_
    refine z_iload_n C d_Bus_compute_19 rfl 3 rfl ?_
    refine z_iadd C d_Bus_compute_20 ?_
    refine pB_Bus_answer C d_Bus_compute_21 tw_244  ?_
    refine z_iconst C (v := 0) d_Bus_compute_24 (by decide) ?_
    exact hret _ _ _ _ d_Bus_compute_25 ⟨by simp [cmpF, *], by simp [cmpF, *]⟩
def askL (σ : Sg) (q : Int32) : Nat → Nat → Int32 → Sg × Int32
  | 0, _, _ => (σ, 1)
  | m + 1, j, a => if σ.1 50 j 0 0 = -1 then (σ, 1) else if σ.1 51 j 0 0 = 3 then askL σ q m (sC σ j) (a + σ.1 53 j 0 0) else cmpF σ j q a
def askF (σ : Sg) (j : Nat) (q : Int32) : Sg × Int32 := askL σ q 4 j 0
set_option maxRecDepth 100000 in
set_option maxHeartbeats 4000000 in
theorem lp_Bus_ask (l : Launch) (D : va_G) (ca : Nat → ClassId) (b : Nat) {R : Room} {X : Zx} {y0 : MethodName} {c0 : ByteArray} {n0 : Nat} {r0 : Option FieldType} (hR : 1 ≤ R.frames ∧ 25 ≤ R.locals) (C : Cs D ca b_Bus_ask 7 "RobotBus" (Cond.code y0 c0 n0 r0) X) (σ : Sg) (hS : SI σ) (q x : Int32) (F : Sg × Int32) (hret : ∀ (v : Int32) (σ' : Sg) (pc : Nat) (L' : List (Nat × Value)), decode b_Bus_ask pc = .ok (.ireturn, 1) → (v = F.2 ∧ σ' = F.1) → Zs l D ca SB b 182 R 7 X σ' pc L' [.int v]) : ∀ m k, k + m = 4 → ∀ (j : Nat) (a : Int32), j < 4 → F = askL σ q m j a → Zs l D ca SB b 182 R 7 X σ 8 [(5, .int (nI k)), (4, .int a), (3, .int (nI j)), (0, .ref (b + 0)), (1, .int x), (2, .int q)] [] := by
  intro m
  induction m with
  | zero =>
    intro k hk j a hj he
    have hk6 : k = 4 := by omega
    subst hk6
    refine z_iload C d_Bus_ask_8 0 rfl ?_
    refine z_iconst C (v := 4) d_Bus_ask_10 (by decide) ?_
    refine z_icmp_ge C 74 d_Bus_ask_11 (by decide) (fun h11 => ?_) (fun h11 => False.elim (h11 (by decide)))
    refine z_iconst C (v := 1) d_Bus_ask_74 (by decide) ?_
    exact hret _ _ _ _ d_Bus_ask_75 ⟨by rw [he]; rfl, by rw [he]; rfl⟩
  | succ m ih =>
    intro k hk j a hj he
    refine z_iload C d_Bus_ask_8 0 rfl ?_
    refine z_iconst C (v := 4) d_Bus_ask_10 (by decide) ?_
    refine z_icmp_ge C 74 d_Bus_ask_11 (by decide) (fun h11 => False.elim (nI_ge (a := k) (b := 4) (by omega) (by decide) h11)) (fun h11 => ?_)
    refine z_aload_n C d_Bus_ask_14 rfl 3 rfl ?_
    refine gB_Bus_services C d_Bus_ask_15 tw_235  ?_
    refine z_iload_n C d_Bus_ask_18 rfl 2 rfl ?_
    refine rB_srvs C (j := j) d_Bus_ask_19  rfl hj ?_
    refine z_astore C d_Bus_ask_20 (by decide) [(6, .ref (b + (148 + j))), (5, .int (nI k)), (4, .int a), (3, .int (nI j)), (0, .ref (b + 0)), (1, .int x), (2, .int q)] rfl ?_
    refine z_aload C d_Bus_ask_22 0 rfl ?_
    refine gB_Srv_node C d_Bus_ask_24 tw_188 hj ?_
    refine z_iconst C (v := -1) d_Bus_ask_27 (by decide) ?_
    refine z_icmp_ne C 33 d_Bus_ask_28 (by decide) (fun h28 => ?_) (fun h28 => ?_)
    · obtain ⟨hs1, hs2⟩ := hS j hj h28
      refine z_aload C d_Bus_ask_33 0 rfl ?_
      refine gB_Srv_kind C d_Bus_ask_35 tw_190 hj ?_
      refine z_iconst C (v := 3) d_Bus_ask_38 (by decide) ?_
      refine z_icmp_eq C 52 d_Bus_ask_39 (by decide) (fun h39 => ?_) (fun h39 => ?_)
      · refine z_iload C d_Bus_ask_52 2 rfl ?_
        refine z_aload C d_Bus_ask_54 0 rfl ?_
        refine gB_Srv_d C d_Bus_ask_56 tw_194 hj ?_
        refine z_iadd C d_Bus_ask_59 ?_
        refine z_istore C d_Bus_ask_60 (by decide) [(4, .int (a + (σ.1 53 j 0 0))), (6, .ref (b + (148 + j))), (5, .int (nI k)), (3, .int (nI j)), (0, .ref (b + 0)), (1, .int x), (2, .int q)] rfl ?_
        refine z_aload C d_Bus_ask_62 1 rfl ?_
        refine gB_Srv_c C d_Bus_ask_64 tw_192 hj ?_
        have hs3 := hs2.resolve_left (by rw [h39]; decide)
        refine z_ri (x' := nI (sC σ j)) hs3.1 ?_
        refine z_istore_n C d_Bus_ask_67 rfl (by decide) [(3, .int (nI (sC σ j))), (4, .int (a + (σ.1 53 j 0 0))), (6, .ref (b + (148 + j))), (5, .int (nI k)), (0, .ref (b + 0)), (1, .int x), (2, .int q)] rfl ?_
        refine z_iinc C d_Bus_ask_68 3 rfl (v := (nI (k + 1))) (by rw [← nI_1]; rfl) (by decide) [(5, .int (nI (k + 1))), (3, .int (nI (sC σ j))), (4, .int (a + (σ.1 53 j 0 0))), (6, .ref (b + (148 + j))), (0, .ref (b + 0)), (1, .int x), (2, .int q)] rfl ?_
        refine z_goto C 8 d_Bus_ask_71 (by decide) ?_
        refine z_loc [0, 2, 1, 4, 5, 6] rfl ?_
        exact ih (k + 1) (by omega) _ _ hs3.2.1 (by rw [he, askL, if_neg h28, if_pos h39])
      · refine z_aload_n C d_Bus_ask_42 rfl 4 rfl ?_
        refine z_aload C d_Bus_ask_43 0 rfl ?_
        refine z_iload_n C d_Bus_ask_45 rfl 6 rfl ?_
        refine z_iload C d_Bus_ask_46 2 rfl ?_
        refine zf_Vi C d_Bus_ask_48 (c_Bus_compute l D ca b σ hj hs1.1 hs1.2 (hs2.imp id (fun z => ⟨z.1, z.2.1⟩)) q a) tw_515 tw_517 tp_Bus_compute tw_1 tw_518 pd_Bus_compute ⟨⟨hR.1, hR.2⟩, rfl, rfl, Nat.zero_le _, Nat.zero_le _⟩ (by omega) rfl (eB_Bus ) rfl (Nat.le_of_ble_eq_true rfl) rfl ?_
        exact hret _ _ _ _ d_Bus_ask_51 ⟨by rw [he, askL, if_neg h28, if_neg h39], by rw [he, askL, if_neg h28, if_neg h39]⟩
    · refine z_iconst C (v := 1) d_Bus_ask_31 (by decide) ?_
      exact hret _ _ _ _ d_Bus_ask_32 ⟨by rw [he, askL, if_pos h28], by rw [he, askL, if_pos h28]⟩
set_option maxRecDepth 100000 in
set_option maxHeartbeats 4000000 in
/-- asks a service -/
theorem c_Bus_ask (l : Launch) (D : va_G) (ca : Nat → ClassId) (b : Nat) (σ : Sg) {j : Nat} (hj : j < 4) (q : Int32) (hS : SI σ) : CtI l D ca SB b 182 y_Bus_ask w_Bus_ask (rmN 1 25) σ [.ref (b + 0), .int (nI j), .int q] (fun r σ' => r = (askF σ j q).2 ∧ σ' = (askF σ j q).1) := by
  refine ct_i "RobotBus" [(0, .ref (b + 0)), (1, .int (nI j)), (2, .int q)] (by decide) rfl (Nat.le_of_ble_eq_true rfl) rfl (fun X C hret => ?_)
  refine z_iload_n C d_Bus_ask_0 rfl 1 rfl ?_
  refine z_istore_n C d_Bus_ask_1 rfl (by decide) [(3, .int (nI j)), (0, .ref (b + 0)), (1, .int (nI j)), (2, .int q)] rfl ?_
  refine z_iconst C (v := 0) d_Bus_ask_2 (by decide) ?_
  refine z_istore C d_Bus_ask_3 (by decide) [(4, .int 0), (3, .int (nI j)), (0, .ref (b + 0)), (1, .int (nI j)), (2, .int q)] rfl ?_
  refine z_iconst C (v := 0) d_Bus_ask_5 (by decide) ?_
  refine z_istore C d_Bus_ask_6 (by decide) [(5, .int 0), (4, .int 0), (3, .int (nI j)), (0, .ref (b + 0)), (1, .int (nI j)), (2, .int q)] rfl ?_
  exact lp_Bus_ask l D ca b ⟨by decide, by decide⟩ C σ hS q (nI j) _ hret 4 0 rfl j 0 hj rfl
/-! Frames above -/
def isFr (x : Int32) : Prop := x = -1 ∨ ∃ p, p < 6 ∧ x = nI p
def FP (σ : Sg) : Prop := ∀ i, i < 6 → isFr (σ.1 60 i 0 0)
def abv (σ : Sg) (u : Int32) : Nat → Int32 → Int32
  | 0, _ => 0
  | m + 1, x => if x = -1 then 0 else if x = u then 1 else abv σ u m (σ.1 60 x.toNatClampNeg 0 0)
set_option maxRecDepth 100000 in
set_option maxHeartbeats 4000000 in
theorem lp_Bus_isAbove (l : Launch) (D : va_G) (ca : Nat → ClassId) (b : Nat) {R : Room} {X : Zx} {y0 : MethodName} {c0 : ByteArray} {n0 : Nat} {r0 : Option FieldType} (C : Cs D ca b_Bus_isAbove 5 "RobotBus" (Cond.code y0 c0 n0 r0) X) (σ : Sg) (hF : FP σ) (u y F : Int32) (hret : ∀ (v : Int32) (σ' : Sg) (pc : Nat) (L' : List (Nat × Value)), decode b_Bus_isAbove pc = .ok (.ireturn, 1) → (v = 0 ∨ v = 1) → (v = F ∧ σ' = σ) → Zs l D ca SB b 182 R 5 X σ' pc L' [.int v]) : ∀ m k, k + m = 6 → ∀ (x : Int32), isFr x → F = abv σ u m x → Zs l D ca SB b 182 R 5 X σ 5 [(4, .int (nI k)), (3, .int x), (0, .ref (b + 0)), (1, .int u), (2, .int y)] [] := by
  intro m
  induction m with
  | zero =>
    intro k hk x hx he
    have hk6 : k = 6 := by omega
    subst hk6
    refine z_iload C d_Bus_isAbove_5 0 rfl ?_
    refine z_bipush C (v := 6) d_Bus_isAbove_7 (by decide) ?_
    refine z_icmp_ge C 40 d_Bus_isAbove_9 (by decide) (fun h9 => ?_) (fun h9 => False.elim (h9 (by decide)))
    refine z_iconst C (v := 0) d_Bus_isAbove_40 (by decide) ?_
    exact hret _ _ _ _ d_Bus_isAbove_41 (by decide) ⟨by rw [he]; rfl, rfl⟩
  | succ m ih =>
    intro k hk x hx he
    refine z_iload C d_Bus_isAbove_5 0 rfl ?_
    refine z_bipush C (v := 6) d_Bus_isAbove_7 (by decide) ?_
    refine z_icmp_ge C 40 d_Bus_isAbove_9 (by decide) (fun h9 => False.elim (nI_ge (a := k) (b := 6) (by omega) (by decide) h9)) (fun h9 => ?_)
    refine z_iload_n C d_Bus_isAbove_12 rfl 1 rfl ?_
    refine z_iconst C (v := -1) d_Bus_isAbove_13 (by decide) ?_
    refine z_icmp_eq C 40 d_Bus_isAbove_14 (by decide) (fun h14 => ?_) (fun h14 => ?_)
    · refine z_iconst C (v := 0) d_Bus_isAbove_40 (by decide) ?_
      exact hret _ _ _ _ d_Bus_isAbove_41 (by decide) ⟨by rw [he, abv, if_pos h14], rfl⟩
    · obtain ⟨p, hp, rfl⟩ := hx.resolve_left h14
      refine z_iload_n C d_Bus_isAbove_17 rfl 1 rfl ?_
      refine z_iload_n C d_Bus_isAbove_18 rfl 3 rfl ?_
      refine z_icmp_ne C 24 d_Bus_isAbove_19 (by decide) (fun h19 => ?_) (fun h19 => ?_)
      · refine z_aload_n C d_Bus_isAbove_24 rfl 2 rfl ?_
        refine gB_Bus_frames C d_Bus_isAbove_25 tw_236  ?_
        refine z_iload_n C d_Bus_isAbove_28 rfl 1 rfl ?_
        refine rB_frms C (j := p) d_Bus_isAbove_29  rfl hp ?_
        refine gB_Frm_parent C d_Bus_isAbove_30 tw_217 hp ?_
        refine z_istore_n C d_Bus_isAbove_33 rfl (by decide) [(3, .int (σ.1 60 p 0 0)), (4, .int (nI k)), (0, .ref (b + 0)), (1, .int u), (2, .int y)] rfl ?_
        refine z_iinc C d_Bus_isAbove_34 1 rfl (v := (nI (k + 1))) (by rw [← nI_1]; rfl) (by decide) [(4, .int (nI (k + 1))), (3, .int (σ.1 60 p 0 0)), (0, .ref (b + 0)), (1, .int u), (2, .int y)] rfl ?_
        refine z_goto C 5 d_Bus_isAbove_37 (by decide) ?_
        refine z_loc [0, 1, 2, 3, 4] rfl ?_
        exact ih (k + 1) (by omega) _ (hF p hp) (by rw [he, abv, if_neg h14, if_neg h19, nI_clamp (by omega)])
      · refine z_iconst C (v := 1) d_Bus_isAbove_22 (by decide) ?_
        exact hret _ _ _ _ d_Bus_isAbove_23 (by decide) ⟨by rw [he, abv, if_neg h14, if_pos h19], rfl⟩
set_option maxRecDepth 100000 in
set_option maxHeartbeats 4000000 in
/-- whether a frame is above another -/
theorem c_Bus_isAbove (l : Launch) (D : va_G) (ca : Nat → ClassId) (b : Nat) (σ : Sg) (u y : Int32) (hy : isFr y) (hF : FP σ) : CtI l D ca SB b 182 y_Bus_isAbove w_Bus_isAbove (rmN 0 0) σ [.ref (b + 0), .int u, .int y] (fun r σ' => r = abv σ u 6 y ∧ σ' = σ) := by
  refine ct_z "RobotBus" [(0, .ref (b + 0)), (1, .int u), (2, .int y)] (by decide) rfl (Nat.le_of_ble_eq_true rfl) rfl (fun X C hret => ?_)
  refine z_iload_n C d_Bus_isAbove_0 rfl 2 rfl ?_
  refine z_istore_n C d_Bus_isAbove_1 rfl (by decide) [(3, .int y), (0, .ref (b + 0)), (1, .int u), (2, .int y)] rfl ?_
  refine z_iconst C (v := 0) d_Bus_isAbove_2 (by decide) ?_
  refine z_istore C d_Bus_isAbove_3 (by decide) [(4, .int 0), (3, .int y), (0, .ref (b + 0)), (1, .int u), (2, .int y)] rfl ?_
  exact lp_Bus_isAbove l D ca b C σ hF u y _ hret 6 0 rfl y hy rfl
end
section
/-! What always holds of nodes, actions, the bag; what publishing keeps. -/
def aA (σ : Sg) (i t : Nat) : Nat := (σ.1 37 i t 0).toNatClampNeg
def aB (σ : Sg) (i t : Nat) : Nat := (σ.1 38 i t 0).toNatClampNeg
def okA (σ : Sg) (i t n : Nat) : Prop := σ.1 37 i t 0 = nI (aA σ i t) ∧ aA σ i t < n
def okB (σ : Sg) (i t n : Nat) : Prop := σ.1 38 i t 0 = nI (aB σ i t) ∧ aB σ i t < n
def AI (σ : Sg) : Prop := ∀ i t, i < 6 → t < 6 → (σ.1 36 i t 0 = 0 ∨ σ.1 36 i t 0 = 1 → okA σ i t 4) ∧ (σ.1 36 i t 0 = 2 → okA σ i t 6) ∧ (σ.1 36 i t 0 = 3 → okA σ i t 4 ∧ okB σ i t 4) ∧ (σ.1 36 i t 0 = 4 → okA σ i t 6 ∧ okB σ i t 4)
def nF (σ : Sg) (i : Nat) : Nat := (σ.1 31 i 0 0).toNatClampNeg
def NF (σ : Sg) : Prop := ∀ i, i < 6 → σ.1 31 i 0 0 = nI (nF σ i) ∧ nF σ i < 6
def bnx (σ : Sg) : Nat := (σ.1 11 0 0 0).toNatClampNeg
def ben (σ : Sg) : Nat := (σ.1 12 0 0 0).toNatClampNeg
def bto (σ : Sg) (j : Nat) : Nat := (σ.1 16 0 0 j).toNatClampNeg
def GI (σ : Sg) : Prop := σ.1 11 0 0 0 = nI (bnx σ) ∧ σ.1 12 0 0 0 = nI (ben σ) ∧ bnx σ ≤ ben σ ∧ ben σ ≤ 30 ∧ (bnx σ < ben σ → ben σ ≤ bsz σ) ∧ (1 ≤ σ.1 14 0 0 0 ∧ σ.1 14 0 0 0 ≤ 4) ∧ ∀ j, j < bsz σ → σ.1 16 0 0 j = nI (bto σ j) ∧ bto σ j < 6
def BI (σ : Sg) : Prop := QI σ ∧ BZ σ ∧ SI σ ∧ AI σ ∧ NF σ ∧ GI σ
theorem SI_eq {σ σ' : Sg} (h : ∀ f i, 50 ≤ f → f ≤ 53 → σ'.1 f i 0 = σ.1 f i 0) (hS : SI σ) : SI σ' := by
  intro j hj hn
  unfold sN sC
  rw [h 50 j (by decide) (by decide)] at hn ⊢
  rw [h 51 j (by decide) (by decide), h 52 j (by decide) (by decide)]
  exact hS j hj hn
theorem AI_eq {σ σ' : Sg} (h : ∀ f i t, 36 ≤ f → f ≤ 38 → σ'.1 f i t = σ.1 f i t) (hA : AI σ) : AI σ' := by
  intro i t hi ht
  unfold okA okB aA aB
  rw [h 36 i t (by decide) (by decide), h 37 i t (by decide) (by decide), h 38 i t (by decide) (by decide)]
  exact hA i t hi ht
theorem NF_eq {σ σ' : Sg} (h : ∀ i, σ'.1 31 i 0 = σ.1 31 i 0) (hN : NF σ) : NF σ' := by
  intro i hi
  unfold nF
  rw [h i]
  exact hN i hi
theorem BZ_eq {σ σ' : Sg} (h : σ'.1 10 0 0 = σ.1 10 0 0) (hB : BZ σ) : BZ σ' := by
  unfold BZ bsz
  rw [h]
  exact hB
theorem GI_eq {σ σ' : Sg} (h : ∀ f, 10 ≤ f → f ≤ 16 → σ'.1 f 0 0 = σ.1 f 0 0) (hG : GI σ) : GI σ' := by
  unfold GI bnx ben bsz bto
  rw [h 10 (by decide) (by decide), h 11 (by decide) (by decide), h 12 (by decide) (by decide), h 14 (by decide) (by decide), h 16 (by decide) (by decide)]
  exact hG
/-- a state that differs only at names that none of these speak of -/
theorem BI_eq {σ σ' : Sg} (h : ∀ f i t, (f = 33 ∨ f = 34 ∨ (50 ≤ f ∧ f ≤ 53) ∨ (36 ≤ f ∧ f ≤ 38) ∨ f = 31 ∨ (10 ≤ f ∧ f ≤ 16)) → σ'.1 f i t = σ.1 f i t) (hB : BI σ) : BI σ' := by
  obtain ⟨h1, h2, h3, h4, h5, h6⟩ := hB
  exact ⟨QI_eq (fun i t _ _ => ⟨by rw [h 33 i t (by simp)], by rw [h 34 i t (by simp)]⟩) h1, BZ_eq (h 10 0 0 (by simp)) h2, SI_eq (fun f i a b => h f i 0 (by omega)) h3, AI_eq (fun f i t a b => h f i t (by omega)) h4, NF_eq (fun i => h 31 i 0 (by simp)) h5, GI_eq (fun f a b => h f 0 0 (by omega)) h6⟩
theorem BI_us {σ : Sg} {f i t : Nat} {x : Int32} (h : ¬ (f = 33 ∨ f = 34 ∨ (50 ≤ f ∧ f ≤ 53) ∨ (36 ≤ f ∧ f ≤ 38) ∨ f = 31 ∨ (10 ≤ f ∧ f ≤ 16))) (hB : BI σ) : BI (us σ f i t x) :=
  BI_eq (fun f' i' t' h' => us_ne (by simp; intro q; subst q; exact absurd h' h)) hB
theorem BI_upA {σ : Sg} {f i t : Nat} {g : Nat → Int32} (h : ¬ (f = 33 ∨ f = 34 ∨ (50 ≤ f ∧ f ≤ 53) ∨ (36 ≤ f ∧ f ≤ 38) ∨ f = 31 ∨ (10 ≤ f ∧ f ≤ 16))) (hB : BI σ) : BI (upA σ (f, i, t) g) :=
  BI_eq (fun f' i' t' h' => upA_ne (by simp; intro q; subst q; exact absurd h' h)) hB
theorem sLp_BI {t : Nat} {v s : Int32} (ht : t < 6) {σ : Sg} (hB : BI σ) : BI (sLp t v s 6 0 σ 0).1 := by
  obtain ⟨h1, h2, h3, h4, h5, h6⟩ := hB
  have e : ∀ f i' t', f ≠ 2 → f ≠ 34 → f ≠ 35 → (sLp t v s 6 0 σ 0).1.1 f i' t' = σ.1 f i' t' := fun f i' t' a b c => sLp_ne a b c 6 0 σ 0
  exact ⟨sLp_QI ht 6 0 rfl σ 0 h1, BZ_eq (e 10 0 0 (by decide) (by decide) (by decide)) h2, SI_eq (fun f i a b => e f i 0 (by omega) (by omega) (by omega)) h3, AI_eq (fun f i t a b => e f i t (by omega) (by omega) (by omega)) h4, NF_eq (fun i => e 31 i 0 (by decide) (by decide) (by decide)) h5, GI_eq (fun f a b => e f 0 0 (by omega) (by omega) (by omega)) h6⟩
theorem tLast_BI {i : Nat} {v s w : Int32} {σ : Sg} (hB : BI σ) : BI (tLast σ i v s w) :=
  BI_eq (fun f i' t' h => tLast_ne (by omega) (by omega) (by omega) (by omega)) hB
theorem bApp_BI {σ : Sg} {t : Nat} (ht : t < 6) {a v : Int32} (hB : BI σ) : BI (bApp σ (bsz σ) a (nI t) v) := by
  obtain ⟨h1, h2, h3, h4, h5, h6⟩ := hB
  by_cases hz : bsz σ < 30
  · have e : ∀ f i' t', f ≠ 10 → f ≠ 15 → f ≠ 16 → f ≠ 17 → (bApp σ (bsz σ) a (nI t) v).1 f i' t' = σ.1 f i' t' := fun f i' t' a b c d => bApp_ne a b c d
    have e10 : (bApp σ (bsz σ) a (nI t) v).1 10 0 0 0 = nI (bsz σ + 1) := by
      unfold bApp
      rw [if_pos hz, us_self]
    have e16 : (bApp σ (bsz σ) a (nI t) v).1 16 0 0 = upd (σ.1 16 0 0) (bsz σ) (nI t) := by
      unfold bApp
      rw [if_pos hz, us_ne (by decide), upA_ne (by decide), upA_self]
    have eb : bsz (bApp σ (bsz σ) a (nI t) v) = bsz σ + 1 := by
      show ((bApp σ (bsz σ) a (nI t) v).1 10 0 0 0).toNatClampNeg = _
      rw [e10, nI_clamp (by omega)]
    refine ⟨QI_eq (fun i t _ _ => ⟨by rw [e 33 i t (by decide) (by decide) (by decide) (by decide)], by rw [e 34 i t (by decide) (by decide) (by decide) (by decide)]⟩) h1, ?_, SI_eq (fun f i a b => e f i 0 (by omega) (by omega) (by omega) (by omega)) h3, AI_eq (fun f i t a b => e f i t (by omega) (by omega) (by omega) (by omega)) h4, NF_eq (fun i => e 31 i 0 (by decide) (by decide) (by decide) (by decide)) h5, ?_⟩
    · exact ⟨by rw [eb]; exact e10, by rw [eb]; omega⟩
    · obtain ⟨g1, g2, g3, g4, g5, g6, g7⟩ := h6
      have n1 : bnx (bApp σ (bsz σ) a (nI t) v) = bnx σ := by unfold bnx; rw [e 11 0 0 (by decide) (by decide) (by decide) (by decide)]
      have n2 : ben (bApp σ (bsz σ) a (nI t) v) = ben σ := by unfold ben; rw [e 12 0 0 (by decide) (by decide) (by decide) (by decide)]
      refine ⟨by rw [n1, e 11 0 0 (by decide) (by decide) (by decide) (by decide)]; exact g1, by rw [n2, e 12 0 0 (by decide) (by decide) (by decide) (by decide)]; exact g2, by rw [n1, n2]; exact g3, by rw [n2]; exact g4, by rw [n1, n2, eb]; omega, by rw [e 14 0 0 (by decide) (by decide) (by decide) (by decide)]; exact g6, ?_⟩
      intro j hj
      rw [eb] at hj
      unfold bto
      rw [e16]
      by_cases hjz : j = bsz σ
      · rw [hjz, pk_us, nI_clamp (by omega)]
        exact ⟨rfl, ht⟩
      · rw [pk_un hjz]
        exact g7 j (by omega)
  · have e : bApp σ (bsz σ) a (nI t) v = σ := by unfold bApp; rw [if_neg hz]
    rw [e]
    exact ⟨h1, h2, h3, h4, h5, h6⟩
theorem sSend_BI {σ : Sg} {t : Nat} (ht : t < 6) {v s : Int32} (hB : BI σ) : BI (sSend σ t v s) := by
  unfold sSend sPub
  refine BI_us (by decide) ?_
  have h1 := tLast_BI (i := t) (v := v) (s := s) (w := (sLp t v s 6 0 σ 0).1.1 1 0 0 0) (sLp_BI (v := v) (s := s) ht hB)
  unfold sRec
  split
  · exact h1
  · split
    · exact h1
    · exact bApp_BI ht h1
theorem sSend_ne {σ : Sg} {t f i' t' : Nat} {v s : Int32} (h : ¬ (f = 2 ∨ f = 3 ∨ f = 10 ∨ f = 15 ∨ f = 16 ∨ f = 17 ∨ f = 34 ∨ f = 35 ∨ f = 42 ∨ f = 43 ∨ f = 44 ∨ f = 45)) : (sSend σ t v s).1 f i' t' = σ.1 f i' t' := by
  unfold sSend sPub
  rw [us_ne (by simp; intro q; omega), sRec_ne (by omega) (by omega) (by omega) (by omega), tLast_ne (by omega) (by omega) (by omega) (by omega), sLp_ne (by omega) (by omega) (by omega)]
theorem cmpF_ne {σ : Sg} {j f i' t' : Nat} {q a : Int32} (h1 : f ≠ 6) (h2 : f ≠ 32) : (cmpF σ j q a).1.1 f i' t' = σ.1 f i' t' := by
  unfold cmpF
  split
  · exact us_ne (by simp; intro q; exact absurd q h1)
  · split
    · show (us _ 6 0 0 _).1 f i' t' = _
      rw [us_ne (by simp; intro q; exact absurd q h1), upA_ne (by simp; intro q; exact absurd q h2)]
    · split
      · rfl
      · exact us_ne (by simp; intro q; exact absurd q h1)
theorem askL_ne {σ : Sg} {f i' t' : Nat} {q : Int32} (h1 : f ≠ 6) (h2 : f ≠ 32) : ∀ (m j : Nat) (a : Int32), (askL σ q m j a).1.1 f i' t' = σ.1 f i' t' := by
  intro m
  induction m with
  | zero => intro j a; rfl
  | succ m ih =>
    intro j a
    unfold askL
    split
    · rfl
    · split
      · exact ih _ _
      · exact cmpF_ne h1 h2
theorem askF_BI {σ : Sg} {j : Nat} {q : Int32} (hB : BI σ) : BI (askF σ j q).1 := BI_eq (fun f i t h => askL_ne (by omega) (by omega) 4 j 0) hB
end
section
/-! perform -/
def prf (σ : Sg) (i t : Nat) (v : Int32) : Sg :=
  if σ.1 36 i t 0 = 0 then upA σ (32, i, 0) (upd (σ.1 32 i 0) (aA σ i t) v)
  else if σ.1 36 i t 0 = 1 then upA σ (32, i, 0) (upd (σ.1 32 i 0) (aA σ i t) (σ.1 32 i 0 (aA σ i t) + v))
  else if σ.1 36 i t 0 = 2 then sSend σ (aA σ i t) (v * σ.1 38 i t 0) (nI i)
  else if σ.1 36 i t 0 = 3 then (if (askF σ (aA σ i t) v).2 = 0 then upA (askF σ (aA σ i t) v).1 (32, i, 0) (upd ((askF σ (aA σ i t) v).1.1 32 i 0) (aB σ i t) ((askF σ (aA σ i t) v).1.1 6 0 0 0)) else us (askF σ (aA σ i t) v).1 5 0 0 ((askF σ (aA σ i t) v).1.1 5 0 0 0 + 1))
  else if σ.1 36 i t 0 = 4 then sSend σ (aA σ i t) (σ.1 32 i 0 (aB σ i t)) (nI i)
  else σ
set_option maxRecDepth 100000 in
set_option maxHeartbeats 4000000 in
/-- does an action -/
theorem c_Bus_perform (l : Launch) (D : va_G) (ca : Nat → ClassId) (b : Nat) (σ : Sg) {i t : Nat} (hi : i < 6) (ht : t < 6) (v : Int32) (hB : BI σ) : CtV l D ca SB b 182 y_Bus_perform w_Bus_perform (rmN 4 90) σ [.ref (b + 0), .int (nI i), .ref (b + (16 + 22 * i + 3 * t)), .int v] (fun σ' => σ' = prf σ i t v) := by
  refine ct_v "RobotBus" [(0, .ref (b + 0)), (1, .int (nI i)), (2, .ref (b + (16 + 22 * i + 3 * t))), (3, .int v)] (by decide) rfl (Nat.le_of_ble_eq_true rfl) rfl (fun X C hret => ?_)
  refine z_aload_n C d_Bus_perform_0 rfl 0 rfl ?_
  refine gB_Bus_nodes C d_Bus_perform_1 tw_233  ?_
  refine z_iload_n C d_Bus_perform_4 rfl 1 rfl ?_
  refine rB_nods C (j := i) d_Bus_perform_5  rfl hi ?_
  refine gB_Nod_variables C d_Bus_perform_6 tw_133 hi ?_
  refine z_astore C d_Bus_perform_9 (by decide) [(4, .ref (b + (11 + 22 * i))), (0, .ref (b + 0)), (1, .int (nI i)), (2, .ref (b + (16 + 22 * i + 3 * t))), (3, .int v)] rfl ?_
  refine z_aload_n C d_Bus_perform_11 rfl 3 rfl ?_
  refine gB_Act_kind C d_Bus_perform_12 tw_120 hi ht ?_
  by_cases q15_0 : (σ.1 36 i t 0) = 0
  · refine z_ri q15_0 ?_
    refine z_tableIn C 48 d_Bus_perform_15 (off := 33) (by decide) (by decide) (by decide) (by decide) ?_
    refine z_aload C d_Bus_perform_48 0 rfl ?_
    refine z_aload_n C d_Bus_perform_50 rfl 3 rfl ?_
    refine gB_Act_a C d_Bus_perform_51 tw_122 hi ht ?_
    have hA := (hB.2.2.2.1 i t hi ht).1 (Or.inl q15_0)
    refine z_ri (x' := nI (aA σ i t)) hA.1 ?_
    refine z_iload_n C d_Bus_perform_54 rfl 4 rfl ?_
    refine stB_vars C (q := (aA σ i t)) d_Bus_perform_55 hi rfl hA.2 ?_
    refine z_goto C 151 d_Bus_perform_56 (by decide) ?_
    exact hret _ _ _ d_Bus_perform_151 (by simp [prf, *])
  by_cases q15_1 : (σ.1 36 i t 0) = 1
  · refine z_ri q15_1 ?_
    refine z_tableIn C 59 d_Bus_perform_15 (off := 44) (by decide) (by decide) (by decide) (by decide) ?_
    refine z_aload C d_Bus_perform_59 0 rfl ?_
    refine z_aload_n C d_Bus_perform_61 rfl 3 rfl ?_
    refine gB_Act_a C d_Bus_perform_62 tw_122 hi ht ?_
    have hA := (hB.2.2.2.1 i t hi ht).1 (Or.inr q15_1)
    refine z_ri (x' := nI (aA σ i t)) hA.1 ?_
    refine z_dup2 C d_Bus_perform_65 rfl rfl ?_
    refine lB_vars C (q := (aA σ i t)) d_Bus_perform_66 hi rfl hA.2 ?_
    refine z_iload_n C d_Bus_perform_67 rfl 4 rfl ?_
    refine z_iadd C d_Bus_perform_68 ?_
    refine stB_vars C (q := (aA σ i t)) d_Bus_perform_69 hi rfl hA.2 ?_
    refine z_goto C 151 d_Bus_perform_70 (by decide) ?_
    exact hret _ _ _ d_Bus_perform_151 (by simp [prf, *])
  by_cases q15_2 : (σ.1 36 i t 0) = 2
  · refine z_ri q15_2 ?_
    refine z_tableIn C 73 d_Bus_perform_15 (off := 58) (by decide) (by decide) (by decide) (by decide) ?_
    refine z_aload_n C d_Bus_perform_73 rfl 1 rfl ?_
    refine z_aload_n C d_Bus_perform_74 rfl 3 rfl ?_
    refine gB_Act_a C d_Bus_perform_75 tw_122 hi ht ?_
    have hA := (hB.2.2.2.1 i t hi ht).2.1 q15_2
    refine z_ri (x' := nI (aA σ i t)) hA.1 ?_
    refine z_iload_n C d_Bus_perform_78 rfl 4 rfl ?_
    refine z_aload_n C d_Bus_perform_79 rfl 3 rfl ?_
    refine gB_Act_b C d_Bus_perform_80 tw_124 hi ht ?_
    refine z_imul C d_Bus_perform_83 ?_
    refine z_iload_n C d_Bus_perform_84 rfl 2 rfl ?_
    refine zf_Vi C d_Bus_perform_85 (c_Bus_send l D ca b σ hA.2 (v * (σ.1 38 i t 0)) (nI i) hB.1 hB.2.1) tw_468 tw_470 tp_Bus_send tw_1 tw_471 pd_Bus_send ⟨⟨by decide, by decide⟩, rfl, rfl, by decide, by decide⟩ (by omega) rfl (eB_Bus ) rfl (Nat.le_of_ble_eq_true rfl) rfl ?_
    refine z_pop C d_Bus_perform_88 rfl ?_
    refine z_goto C 151 d_Bus_perform_89 (by decide) ?_
    exact hret _ _ _ d_Bus_perform_151 (by simp [prf, *])
  by_cases q15_3 : (σ.1 36 i t 0) = 3
  · refine z_ri q15_3 ?_
    refine z_tableIn C 92 d_Bus_perform_15 (off := 77) (by decide) (by decide) (by decide) (by decide) ?_
    refine z_aload_n C d_Bus_perform_92 rfl 1 rfl ?_
    refine z_aload_n C d_Bus_perform_93 rfl 3 rfl ?_
    refine gB_Act_a C d_Bus_perform_94 tw_122 hi ht ?_
    have hA := ((hB.2.2.2.1 i t hi ht).2.2.1 q15_3).1
    refine z_ri (x' := nI (aA σ i t)) hA.1 ?_
    refine z_iload_n C d_Bus_perform_97 rfl 4 rfl ?_
    refine zf_Vi C d_Bus_perform_98 (c_Bus_ask l D ca b σ hA.2 v hB.2.2.1) tw_511 tw_513 tp_Bus_ask tw_1 tw_514 pd_Bus_ask ⟨⟨by decide, by decide⟩, rfl, rfl, by decide, by decide⟩ (by omega) rfl (eB_Bus ) rfl (Nat.le_of_ble_eq_true rfl) rfl ?_
    refine z_if_ne C 118 d_Bus_perform_101 (by decide) (fun h101 => ?_) (fun h101 => ?_)
    · refine z_aload_n C d_Bus_perform_118 rfl 1 rfl ?_
      refine z_dup C d_Bus_perform_119 rfl ?_
      refine gB_Bus_asksFailed C d_Bus_perform_120 tw_243  ?_
      refine z_iconst C (v := 1) d_Bus_perform_123 (by decide) ?_
      refine z_iadd C d_Bus_perform_124 ?_
      refine pB_Bus_asksFailed C d_Bus_perform_125 tw_243  ?_
      refine z_goto C 151 d_Bus_perform_128 (by decide) ?_
      exact hret _ _ _ d_Bus_perform_151 (by simp [prf, *])
    · refine z_aload C d_Bus_perform_104 0 rfl ?_
      refine z_aload_n C d_Bus_perform_106 rfl 3 rfl ?_
      refine gB_Act_b C d_Bus_perform_107 tw_124 hi ht ?_
      have hb9 := ((hB.2.2.2.1 i t hi ht).2.2.1 q15_3).2
      refine z_ri (x' := nI (aB σ i t)) (by rw [show (askF σ (aA σ i t) v).1.1 38 i t = σ.1 38 i t from askL_ne (by decide) (by decide) 4 _ 0]; exact hb9.1) ?_
      refine z_aload_n C d_Bus_perform_110 rfl 1 rfl ?_
      refine gB_Bus_answer C d_Bus_perform_111 tw_244  ?_
      refine stB_vars C (q := (aB σ i t)) d_Bus_perform_114 hi rfl hb9.2 ?_
      refine z_goto C 151 d_Bus_perform_115 (by decide) ?_
      exact hret _ _ _ d_Bus_perform_151 (by simp [prf, *])
  by_cases q15_4 : (σ.1 36 i t 0) = 4
  · refine z_ri q15_4 ?_
    refine z_tableIn C 131 d_Bus_perform_15 (off := 116) (by decide) (by decide) (by decide) (by decide) ?_
    refine z_aload_n C d_Bus_perform_131 rfl 1 rfl ?_
    refine z_aload_n C d_Bus_perform_132 rfl 3 rfl ?_
    refine gB_Act_a C d_Bus_perform_133 tw_122 hi ht ?_
    have hA := ((hB.2.2.2.1 i t hi ht).2.2.2 q15_4).1
    refine z_ri (x' := nI (aA σ i t)) hA.1 ?_
    refine z_aload C d_Bus_perform_136 0 rfl ?_
    refine z_aload_n C d_Bus_perform_138 rfl 3 rfl ?_
    refine gB_Act_b C d_Bus_perform_139 tw_124 hi ht ?_
    have hb9 := ((hB.2.2.2.1 i t hi ht).2.2.2 q15_4).2
    refine z_ri (x' := nI (aB σ i t)) hb9.1 ?_
    refine lB_vars C (q := (aB σ i t)) d_Bus_perform_142 hi rfl hb9.2 ?_
    refine z_iload_n C d_Bus_perform_143 rfl 2 rfl ?_
    refine zf_Vi C d_Bus_perform_144 (c_Bus_send l D ca b σ hA.2 (σ.1 32 i 0 (aB σ i t)) (nI i) hB.1 hB.2.1) tw_468 tw_470 tp_Bus_send tw_1 tw_471 pd_Bus_send ⟨⟨by decide, by decide⟩, rfl, rfl, by decide, by decide⟩ (by omega) rfl (eB_Bus ) rfl (Nat.le_of_ble_eq_true rfl) rfl ?_
    refine z_pop C d_Bus_perform_147 rfl ?_
    refine z_goto C 151 d_Bus_perform_148 (by decide) ?_
    exact hret _ _ _ d_Bus_perform_151 (by simp [prf, *])
  refine z_tableOut C 151 d_Bus_perform_15 (by have e0 := lv_neT q15_0 (a := 0) (by decide); have e1 := lv_neT q15_1 (a := 1) (by decide); have e2 := lv_neT q15_2 (a := 2) (by decide); have e3 := lv_neT q15_3 (a := 3) (by decide); have e4 := lv_neT q15_4 (a := 4) (by decide); omega) (by decide) ?_
  exact hret _ _ _ d_Bus_perform_151 (by simp [prf, *])
theorem prf_BI {σ : Sg} {i t : Nat} (hi : i < 6) (ht : t < 6) {v : Int32} (hB : BI σ) : BI (prf σ i t v) := by
  have hA := hB.2.2.2.1 i t hi ht
  unfold prf
  split
  · exact BI_upA (by decide) hB
  · split
    · exact BI_upA (by decide) hB
    · split
      · rename_i q
        exact sSend_BI (hA.2.1 q).2 hB
      · split
        · split
          · exact BI_upA (by decide) (askF_BI hB)
          · exact BI_us (by decide) (askF_BI hB)
        · split
          · rename_i q
            exact sSend_BI (hA.2.2.2 q).1.2 hB
          · exact hB
/-! spin -/
theorem nTop_spec {σ : Sg} {i f : Nat} (hf : f < 6) : ∀ m k, nTop σ i f m k = -1 ∨ ∃ t, t < 6 ∧ nTop σ i f m k = nI t ∧ ¬ σ.1 34 i t 0 ≤ 0 := by
  intro m
  induction m with
  | zero => intro k; exact Or.inl rfl
  | succ m ih =>
    intro k
    unfold nTop
    split
    · exact ih (k + 1)
    · rename_i q
      exact Or.inr ⟨(f + k) % 6, Nat.mod_lt _ (by decide), rfl, q⟩
def spn1 (σ : Sg) (i t : Nat) : Sg := us (qDrop σ i t (qsz σ i t) 1) 31 i 0 (nI ((t + 1) % 6))
def spn2 (σ : Sg) (i t : Nat) : Sg := if σ.1 36 i t 0 = -1 then spn1 σ i t else us (prf (spn1 σ i t) i t (σ.1 35 i t 0)) 4 0 0 ((prf (spn1 σ i t) i t (σ.1 35 i t 0)).1 4 0 0 0 + 1)
def spn (σ : Sg) (i : Nat) : Sg := if nTop σ i (nF σ i) 6 0 = -1 then σ else spn2 σ i (nTop σ i (nF σ i) 6 0).toNatClampNeg
theorem spn1_ne {σ : Sg} {i t f i' t' : Nat} (h1 : f ≠ 34) (h2 : f ≠ 35) (h3 : f ≠ 31) : (spn1 σ i t).1 f i' t' = σ.1 f i' t' := by
  unfold spn1
  rw [us_ne (by simp; intro q; exact absurd q h3), qDrop_ne (by simp; intro q; exact absurd q h1) (by simp; intro q; exact absurd q h2)]
theorem spn1_BI {σ : Sg} {i t : Nat} (hi : i < 6) (ht : t < 6) (hB : BI σ) : BI (spn1 σ i t) := by
  obtain ⟨h1, h2, h3, h4, h5, h6⟩ := hB
  have e : ∀ f i' t', f ≠ 34 → f ≠ 35 → f ≠ 31 → (spn1 σ i t).1 f i' t' = σ.1 f i' t' := fun f i' t' a b c => spn1_ne a b c
  refine ⟨?_, BZ_eq (e 10 0 0 (by decide) (by decide) (by decide)) h2, SI_eq (fun f i a b => e f i 0 (by omega) (by omega) (by omega)) h3, AI_eq (fun f i t a b => e f i t (by omega) (by omega) (by omega)) h4, ?_, GI_eq (fun f a b => e f 0 0 (by omega) (by omega) (by omega)) h6⟩
  · intro i' t' hi' ht'
    obtain ⟨a1, a2, a3, a4⟩ := h1 i' t' hi' ht'
    have e33 : (spn1 σ i t).1 33 i' t' 0 = σ.1 33 i' t' 0 := by rw [e 33 i' t' (by decide) (by decide) (by decide)]
    by_cases h : i' = i ∧ t' = t
    · obtain ⟨rfl, rfl⟩ := h
      have e34 : (spn1 σ i' t').1 34 i' t' 0 = nI (qsz σ i' t' - 1) := by
        unfold spn1
        rw [us_ne (by simp), qDrop_sz]
      unfold qsz qdp at *
      rw [e33, e34, nI_clamp (by omega)]
      exact ⟨rfl, a2, by omega, a4⟩
    · have e34 : (spn1 σ i t).1 34 i' t' 0 = σ.1 34 i' t' 0 := by
        unfold spn1
        rw [us_ne (by simp), qDrop_ne (by simp; intro q1 q2; exact h ⟨q1, q2⟩) (by simp)]
      unfold qsz qdp at *
      rw [e33, e34]
      exact ⟨a1, a2, a3, a4⟩
  · intro i' hi'
    by_cases h : i' = i
    · subst h
      have e31 : (spn1 σ i' t).1 31 i' 0 0 = nI ((t + 1) % 6) := by unfold spn1; rw [us_self]
      unfold nF
      rw [e31, nI_clamp (by have := Nat.mod_lt (t + 1) (show 0 < 6 by decide); omega)]
      exact ⟨rfl, Nat.mod_lt _ (by decide)⟩
    · have e31 : (spn1 σ i t).1 31 i' 0 0 = σ.1 31 i' 0 0 := by
        unfold spn1
        rw [us_ne (by simp; exact h), qDrop_ne (by simp) (by simp)]
      unfold nF
      rw [e31]
      exact h5 i' hi'
theorem spn_BI {σ : Sg} {i : Nat} (hi : i < 6) (hB : BI σ) : BI (spn σ i) := by
  unfold spn
  split
  · exact hB
  · rename_i q
    obtain ⟨t, ht, e, -⟩ := (nTop_spec (σ := σ) (i := i) (hB.2.2.2.2.1 i hi).2 6 0).resolve_left q
    rw [e, nI_clamp (by omega)]
    unfold spn2
    split
    · exact spn1_BI hi ht hB
    · exact BI_us (by decide) (prf_BI hi ht (spn1_BI hi ht hB))
set_option maxRecDepth 100000 in
set_option maxHeartbeats 4000000 in
/-- a node spins -/
theorem c_Bus_spin (l : Launch) (D : va_G) (ca : Nat → ClassId) (b : Nat) (σ : Sg) {i : Nat} (hi : i < 6) (hB : BI σ) : CtV l D ca SB b 182 y_Bus_spin w_Bus_spin (rmN 5 114) σ [.ref (b + 0), .int (nI i)] (fun σ' => σ' = spn σ i) := by
  refine ct_v "RobotBus" [(0, .ref (b + 0)), (1, .int (nI i))] (by decide) rfl (Nat.le_of_ble_eq_true rfl) rfl (fun X C hret => ?_)
  refine z_aload_n C d_Bus_spin_0 rfl 0 rfl ?_
  refine gB_Bus_nodes C d_Bus_spin_1 tw_233  ?_
  refine z_iload_n C d_Bus_spin_4 rfl 1 rfl ?_
  refine rB_nods C (j := i) d_Bus_spin_5  rfl hi ?_
  refine z_astore_n C d_Bus_spin_6 rfl (by decide) [(2, .ref (b + (10 + 22 * i))), (0, .ref (b + 0)), (1, .int (nI i))] rfl ?_
  obtain ⟨hn1, hn2⟩ := hB.2.2.2.2.1 i hi
  refine z_aload_n C d_Bus_spin_7 rfl 0 rfl ?_
  refine zf_Vi C d_Bus_spin_8 (c_Nod_nextTopic l D ca b σ hi hn1 hn2) tw_564 tw_565 tw_566 tw_4 tw_567 pd_Nod_nextTopic ⟨⟨by decide, by decide⟩, rfl, rfl, by decide, by decide⟩ (by omega) rfl (eB_Nod hi) rfl (Nat.le_of_ble_eq_true rfl) rfl ?_
  refine z_istore_n C d_Bus_spin_11 rfl (by decide) [(3, .int (nTop σ i (nF σ i) 6 0)), (2, .ref (b + (10 + 22 * i))), (0, .ref (b + 0)), (1, .int (nI i))] rfl ?_
  refine z_iload_n C d_Bus_spin_12 rfl 0 rfl ?_
  refine z_iconst C (v := -1) d_Bus_spin_13 (by decide) ?_
  refine z_icmp_ne C 18 d_Bus_spin_14 (by decide) (fun h14 => ?_) (fun h14 => ?_)
  · obtain ⟨t, ht, he, hq9⟩ := (nTop_spec (σ := σ) (i := i) hn2 6 0).resolve_left h14
    obtain ⟨hq1, hq2, hq3, hq4⟩ := hB.1 i t hi ht
    have hqp : 1 ≤ qsz σ i t := by
      rcases Nat.eq_zero_or_pos (qsz σ i t) with z | z
      · exact absurd (show σ.1 34 i t 0 ≤ 0 by rw [hq1, z]; decide) hq9
      · exact z
    have hsp : spn σ i = spn2 σ i t := by unfold spn; rw [if_neg h14, he, nI_clamp (by omega)]
    rw [he]
    refine z_aload_n C d_Bus_spin_18 rfl 1 rfl ?_
    refine z_iload_n C d_Bus_spin_19 rfl 0 rfl ?_
    refine zf_Vi C d_Bus_spin_20 (c_Nod_takeFrom l D ca b σ hi ht hq1 hqp (by omega)) tw_568 tw_569 tw_570 tw_4 tw_571 pd_Nod_takeFrom ⟨⟨by decide, by decide⟩, rfl, rfl, by decide, by decide⟩ (by omega) rfl (eB_Nod hi) rfl (Nat.le_of_ble_eq_true rfl) rfl ?_
    refine z_ri (x' := σ.1 35 i t 0) rfl ?_
    show Zs l D ca SB b 182 (rmN 5 114) 5 X (spn1 σ i t) _ _ _
    refine z_istore C d_Bus_spin_23 (by decide) [(4, .int (σ.1 35 i t 0)), (3, .int (nI t)), (2, .ref (b + (10 + 22 * i))), (0, .ref (b + 0)), (1, .int (nI i))] rfl ?_
    refine z_aload_n C d_Bus_spin_25 rfl 2 rfl ?_
    refine gB_Nod_actions C d_Bus_spin_26 tw_137 hi ?_
    refine z_iload_n C d_Bus_spin_29 rfl 1 rfl ?_
    refine rB_acts C (j := t) d_Bus_spin_30 hi rfl ht ?_
    refine gB_Act_kind C d_Bus_spin_31 tw_120 hi ht ?_
    refine z_iconst C (v := -1) d_Bus_spin_34 (by decide) ?_
    refine z_icmp_eq C 61 d_Bus_spin_35 (by decide) (fun h35 => ?_) (fun h35 => ?_)
    · rw [spn1_ne (by decide) (by decide) (by decide)] at h35
      exact hret _ _ _ d_Bus_spin_61 (by rw [hsp]; unfold spn2; simp [h35])
    · rw [spn1_ne (by decide) (by decide) (by decide)] at h35
      refine z_aload_n C d_Bus_spin_38 rfl 3 rfl ?_
      refine z_iload_n C d_Bus_spin_39 rfl 4 rfl ?_
      refine z_aload_n C d_Bus_spin_40 rfl 2 rfl ?_
      refine gB_Nod_actions C d_Bus_spin_41 tw_137 hi ?_
      refine z_iload_n C d_Bus_spin_44 rfl 1 rfl ?_
      refine rB_acts C (j := t) d_Bus_spin_45 hi rfl ht ?_
      refine z_iload C d_Bus_spin_46 0 rfl ?_
      refine zf_Vv C d_Bus_spin_48 (c_Bus_perform l D ca b (spn1 σ i t) hi ht (σ.1 35 i t 0) (spn1_BI hi ht hB)) tw_577 tw_579 tp_Bus_perform tw_1 tw_580 pd_Bus_perform ⟨⟨by decide, by decide⟩, rfl, rfl, by decide, by decide⟩ (by omega) rfl (eB_Bus ) rfl (Nat.le_of_ble_eq_true rfl) rfl ?_
      refine z_aload_n C d_Bus_spin_51 rfl 3 rfl ?_
      refine z_dup C d_Bus_spin_52 rfl ?_
      refine gB_Bus_actionsDone C d_Bus_spin_53 tw_242  ?_
      refine z_iconst C (v := 1) d_Bus_spin_56 (by decide) ?_
      refine z_iadd C d_Bus_spin_57 ?_
      refine pB_Bus_actionsDone C d_Bus_spin_58 tw_242  ?_
      exact hret _ _ _ d_Bus_spin_61 (by rw [hsp]; unfold spn2; simp [h35])
  · exact hret _ _ _ d_Bus_spin_17 (by unfold spn; rw [if_pos h14])
end
section
/-! A tick -/
def plS (σ : Sg) : Sg := sSend (us σ 11 0 0 (σ.1 11 0 0 0 + 1)) (bto σ (bnx σ)) (σ.1 17 0 0 (bnx σ)) (-1)
def plL : Nat → Sg → Sg
  | 0, σ => σ
  | m + 1, σ => if bDue σ (σ.1 1 0 0 0) (bnx σ) = 0 then σ else plL m (plS σ)
def spL : Nat → Nat → Sg → Sg
  | 0, _, σ => σ
  | m + 1, k, σ => if σ.1 30 k 0 0 = 0 then spL m (k + 1) σ else spL m (k + 1) (spn σ k)
def tickF (σ : Sg) : Sg := spL 6 0 (plL 30 (us σ 1 0 0 (σ.1 1 0 0 0 + 1)))
theorem due_lt {σ : Sg} {c : Int32} (hG : GI σ) (h : ¬ bDue σ c (bnx σ) = 0) : bnx σ < ben σ := by
  obtain ⟨g1, g2, g3, g4, -⟩ := hG
  rcases Nat.lt_or_ge (bnx σ) (ben σ) with h1 | h1
  · exact h1
  · exfalso
    apply h
    unfold bDue
    rw [g1, g2, if_pos (nI_le h1 (by omega))]
theorem play_lt {σ : Sg} (hG : GI σ) (h : ¬ σ.1 12 0 0 0 ≤ σ.1 11 0 0 0) : bnx σ < 30 := by
  obtain ⟨g1, g2, g3, g4, -⟩ := hG
  rcases Nat.lt_or_ge (bnx σ) (ben σ) with h1 | h1
  · omega
  · exact absurd (by rw [g1, g2]; exact nI_le h1 (by omega)) h
theorem pace_ne {σ : Sg} (hG : GI σ) : ¬ σ.1 14 0 0 0 = 0 := by
  intro h
  have := hG.2.2.2.2.2.1.1
  rw [h] at this
  exact absurd this (by decide)
theorem next_BI {σ : Sg} (hB : BI σ) (h : bnx σ < ben σ) : BI (us σ 11 0 0 (σ.1 11 0 0 0 + 1)) := by
  obtain ⟨h1, h2, h3, h4, h5, h6⟩ := hB
  have e : ∀ f i t, f ≠ 11 → (us σ 11 0 0 (σ.1 11 0 0 0 + 1)).1 f i t = σ.1 f i t := fun f i t a => us_ne (by simp; intro q; exact absurd q a)
  refine ⟨QI_us (by decide) (by decide) h1, BZ_eq (e 10 0 0 (by decide)) h2, SI_eq (fun f i a b => e f i 0 (by omega)) h3, AI_eq (fun f i t a b => e f i t (by omega)) h4, NF_eq (fun i => e 31 i 0 (by decide)) h5, ?_⟩
  obtain ⟨g1, g2, g3, g4, g5, g6, g7⟩ := h6
  have n0 : (us σ 11 0 0 (σ.1 11 0 0 0 + 1)).1 11 0 0 0 = nI (bnx σ + 1) := by rw [us_self, g1]; exact nI_1 _
  have n1 : bnx (us σ 11 0 0 (σ.1 11 0 0 0 + 1)) = bnx σ + 1 := by
    show ((us σ 11 0 0 (σ.1 11 0 0 0 + 1)).1 11 0 0 0).toNatClampNeg = _
    rw [n0, nI_clamp (by omega)]
  have n2 : ben (us σ 11 0 0 (σ.1 11 0 0 0 + 1)) = ben σ := by unfold ben; rw [e 12 0 0 (by decide)]
  have n3 : bsz (us σ 11 0 0 (σ.1 11 0 0 0 + 1)) = bsz σ := by unfold bsz; rw [e 10 0 0 (by decide)]
  refine ⟨by rw [n1]; exact n0, by rw [n2, e 12 0 0 (by decide)]; exact g2, by rw [n1, n2]; omega, by rw [n2]; exact g4, by rw [n1, n2, n3]; omega, by rw [e 14 0 0 (by decide)]; exact g6, ?_⟩
  intro j hj
  rw [n3] at hj
  unfold bto
  rw [e 16 0 0 (by decide)]
  exact g7 j hj
theorem plS_BI {σ : Sg} (hB : BI σ) (h : bnx σ < ben σ) : BI (plS σ) :=
  sSend_BI (hB.2.2.2.2.2.2.2.2.2.2.2 (bnx σ) (by have := hB.2.2.2.2.2.2.2.2.2.1 h; omega)).2 (next_BI hB h)
theorem plL_BI : ∀ (m : Nat) {σ : Sg}, BI σ → BI (plL m σ) := by
  intro m
  induction m with
  | zero => intro σ h; exact h
  | succ m ih =>
    intro σ h
    unfold plL
    split
    · exact h
    · rename_i q
      exact ih (plS_BI h (due_lt h.2.2.2.2.2 q))
theorem spL_BI : ∀ (m k : Nat), k + m = 6 → ∀ {σ : Sg}, BI σ → BI (spL m k σ) := by
  intro m
  induction m with
  | zero => intro k _ σ h; exact h
  | succ m ih =>
    intro k hk σ h
    unfold spL
    split
    · exact ih (k + 1) (by omega) h
    · exact ih (k + 1) (by omega) (spn_BI (by omega) h)
theorem tickF_BI {σ : Sg} (hB : BI σ) : BI (tickF σ) := spL_BI 6 0 rfl (plL_BI 30 (BI_us (by decide) hB))
set_option maxRecDepth 100000 in
set_option maxHeartbeats 4000000 in
theorem lp_Bus_tick1 (l : Launch) (D : va_G) (ca : Nat → ClassId) (b : Nat) {R : Room} {X : Zx} {y0 : MethodName} {c0 : ByteArray} {n0 : Nat} {r0 : Option FieldType} (hR : 6 ≤ R.frames ∧ 138 ≤ R.locals) (C : Cs D ca b_Bus_passOneTick 3 "RobotBus" (Cond.code y0 c0 n0 r0) X) : ∀ m k, k + m = 30 → ∀ (σ : Sg), BI σ → (∀ k', Zs l D ca SB b 182 R 3 X (plL m σ) 70 [(1, .int (nI k')), (0, .ref (b + 0))] []) → Zs l D ca SB b 182 R 3 X σ 12 [(1, .int (nI k)), (0, .ref (b + 0))] [] := by
  intro m
  induction m with
  | zero =>
    intro k hk σ hB kk
    have hk6 : k = 30 := by omega
    subst hk6
    refine z_iload_n C d_Bus_passOneTick_12 rfl 0 rfl ?_
    refine z_bipush C (v := 30) d_Bus_passOneTick_13 (by decide) ?_
    refine z_icmp_ge C 70 d_Bus_passOneTick_15 (by decide) (fun h15 => ?_) (fun h15 => False.elim (h15 (by decide)))
    exact kk 30
  | succ m ih =>
    intro k hk σ hB kk
    have hG := hB.2.2.2.2.2
    refine z_iload_n C d_Bus_passOneTick_12 rfl 0 rfl ?_
    refine z_bipush C (v := 30) d_Bus_passOneTick_13 (by decide) ?_
    refine z_icmp_ge C 70 d_Bus_passOneTick_15 (by decide) (fun h15 => False.elim (nI_ge (a := k) (b := 30) (by omega) (by decide) h15)) (fun h15 => ?_)
    refine z_aload_n C d_Bus_passOneTick_18 rfl 1 rfl ?_
    refine gB_Bus_bag C d_Bus_passOneTick_19 tw_237  ?_
    refine z_aload_n C d_Bus_passOneTick_22 rfl 1 rfl ?_
    refine gB_Bus_clock C d_Bus_passOneTick_23 tw_239  ?_
    refine zf_Vi C d_Bus_passOneTick_26 (c_Bag_isDue l D ca b σ (σ.1 1 0 0 0) hG.1 (play_lt hG) (pace_ne hG)) tw_548 tw_549 tw_550 tw_2 tw_551 pd_Bag_isDue ⟨⟨Nat.le_trans (by decide) hR.1, Nat.le_trans (by decide) hR.2⟩, rfl, rfl, Nat.zero_le _, Nat.zero_le _⟩ (by omega) rfl (eB_Bag ) rfl (Nat.le_of_ble_eq_true rfl) rfl ?_
    refine z_if_eq C 70 d_Bus_passOneTick_29 (by decide) (fun h29 => ?_) (fun h29 => ?_)
    · rw [plL, if_pos h29] at kk
      exact kk k
    · rw [plL, if_neg h29] at kk
      have hlt := due_lt hG h29
      have hle := hG.2.2.2.2.1 hlt
      have hB1 := next_BI hB hlt
      have ht9 := hG.2.2.2.2.2.2 (bnx σ) (by omega)
      have h30 : bnx σ < 30 := by have := hG.2.2.2.1; omega
      refine z_aload_n C d_Bus_passOneTick_32 rfl 1 rfl ?_
      refine gB_Bus_bag C d_Bus_passOneTick_33 tw_237  ?_
      refine zf_Vi C d_Bus_passOneTick_36 (c_Bag_takeNext l D ca b σ) tw_556 tw_557 tw_558 tw_2 tw_559 pd_Bag_takeNext ⟨⟨Nat.le_trans (by decide) hR.1, Nat.le_trans (by decide) hR.2⟩, rfl, rfl, Nat.zero_le _, Nat.zero_le _⟩ (by omega) rfl (eB_Bag ) rfl (Nat.le_of_ble_eq_true rfl) rfl ?_
      refine z_ri (x' := nI (bnx σ)) hG.1 ?_
      refine z_istore_n C d_Bus_passOneTick_39 rfl (by decide) [(2, .int (nI (bnx σ))), (1, .int (nI k)), (0, .ref (b + 0))] rfl ?_
      refine z_aload_n C d_Bus_passOneTick_40 rfl 2 rfl ?_
      refine z_aload_n C d_Bus_passOneTick_41 rfl 2 rfl ?_
      refine gB_Bus_bag C d_Bus_passOneTick_42 tw_237  ?_
      refine gB_Bag_topics C d_Bus_passOneTick_45 tw_45  ?_
      refine z_iload_n C d_Bus_passOneTick_48 rfl 0 rfl ?_
      refine lB_bagO C (q := (bnx σ)) d_Bus_passOneTick_49  rfl h30 ?_
      refine z_ri (x' := nI (bto σ (bnx σ))) (by rw [us_ne (by decide)]; exact ht9.1) ?_
      refine z_aload_n C d_Bus_passOneTick_50 rfl 2 rfl ?_
      refine gB_Bus_bag C d_Bus_passOneTick_51 tw_237  ?_
      refine gB_Bag_values C d_Bus_passOneTick_54 tw_47  ?_
      refine z_iload_n C d_Bus_passOneTick_57 rfl 0 rfl ?_
      refine lB_bagV C (q := (bnx σ)) d_Bus_passOneTick_58  rfl h30 ?_
      refine z_ri (x' := σ.1 17 0 0 (bnx σ)) (by rw [us_ne (by decide)]) ?_
      refine z_iconst C (v := -1) d_Bus_passOneTick_59 (by decide) ?_
      refine zf_Vi C d_Bus_passOneTick_60 (c_Bus_send l D ca b (us σ 11 0 0 (σ.1 11 0 0 0 + 1)) ht9.2 (σ.1 17 0 0 (bnx σ)) (-1) hB1.1 hB1.2.1) tw_468 tw_470 tp_Bus_send tw_1 tw_471 pd_Bus_send ⟨⟨Nat.le_trans (by decide) hR.1, Nat.le_trans (by decide) hR.2⟩, rfl, rfl, Nat.zero_le _, Nat.zero_le _⟩ (by omega) rfl (eB_Bus ) rfl (Nat.le_of_ble_eq_true rfl) rfl ?_
      refine z_pop C d_Bus_passOneTick_63 rfl ?_
      refine z_iinc C d_Bus_passOneTick_64 1 rfl (v := (nI (k + 1))) (by rw [← nI_1]; rfl) (by decide) [(1, .int (nI (k + 1))), (2, .int (nI (bnx σ))), (0, .ref (b + 0))] rfl ?_
      refine z_goto C 12 d_Bus_passOneTick_67 (by decide) ?_
      refine z_loc [0, 2] rfl ?_
      exact ih (k + 1) (by omega) _ (plS_BI hB hlt) kk
set_option maxRecDepth 100000 in
set_option maxHeartbeats 4000000 in
theorem lp_Bus_tick2 (l : Launch) (D : va_G) (ca : Nat → ClassId) (b : Nat) {R : Room} {X : Zx} {y0 : MethodName} {c0 : ByteArray} {n0 : Nat} {r0 : Option FieldType} (hR : 6 ≤ R.frames ∧ 138 ≤ R.locals) (C : Cs D ca b_Bus_passOneTick 3 "RobotBus" (Cond.code y0 c0 n0 r0) X) : ∀ m k, k + m = 6 → ∀ (σ : Sg), BI σ → (∀ k', Zs l D ca SB b 182 R 3 X (spL m k σ) 101 [(1, .int (nI k')), (0, .ref (b + 0))] []) → Zs l D ca SB b 182 R 3 X σ 72 [(1, .int (nI k)), (0, .ref (b + 0))] [] := by
  intro m
  induction m with
  | zero =>
    intro k hk σ hB kk
    have hk6 : k = 6 := by omega
    subst hk6
    refine z_iload_n C d_Bus_passOneTick_72 rfl 0 rfl ?_
    refine z_bipush C (v := 6) d_Bus_passOneTick_73 (by decide) ?_
    refine z_icmp_ge C 101 d_Bus_passOneTick_75 (by decide) (fun h75 => ?_) (fun h75 => False.elim (h75 (by decide)))
    exact kk 6
  | succ m ih =>
    intro k hk σ hB kk
    have hk6 : k < 6 := by omega
    refine z_iload_n C d_Bus_passOneTick_72 rfl 0 rfl ?_
    refine z_bipush C (v := 6) d_Bus_passOneTick_73 (by decide) ?_
    refine z_icmp_ge C 101 d_Bus_passOneTick_75 (by decide) (fun h75 => False.elim (nI_ge (a := k) (b := 6) (by omega) (by decide) h75)) (fun h75 => ?_)
    refine z_aload_n C d_Bus_passOneTick_78 rfl 1 rfl ?_
    refine gB_Bus_nodes C d_Bus_passOneTick_79 tw_233  ?_
    refine z_iload_n C d_Bus_passOneTick_82 rfl 0 rfl ?_
    refine rB_nods C (j := k) d_Bus_passOneTick_83  rfl hk6 ?_
    refine gB_Nod_present C d_Bus_passOneTick_84 tw_139 hk6 ?_
    refine z_if_eq C 95 d_Bus_passOneTick_87 (by decide) (fun h87 => ?_) (fun h87 => ?_)
    · rw [spL, if_pos h87] at kk
      refine z_iinc C d_Bus_passOneTick_95 0 rfl (v := (nI (k + 1))) (by rw [← nI_1]; rfl) (by decide) [(1, .int (nI (k + 1))), (0, .ref (b + 0))] rfl ?_
      refine z_goto C 72 d_Bus_passOneTick_98 (by decide) ?_
      exact ih (k + 1) (by omega) _ hB kk
    · rw [spL, if_neg h87] at kk
      refine z_aload_n C d_Bus_passOneTick_90 rfl 1 rfl ?_
      refine z_iload_n C d_Bus_passOneTick_91 rfl 0 rfl ?_
      refine zf_Vv C d_Bus_passOneTick_92 (c_Bus_spin l D ca b σ hk6 hB) tw_560 tw_562 tp_Bus_spin tw_1 tw_563 pd_Bus_spin ⟨⟨hR.1, hR.2⟩, rfl, rfl, Nat.zero_le _, Nat.zero_le _⟩ (by omega) rfl (eB_Bus ) rfl (Nat.le_of_ble_eq_true rfl) rfl ?_
      refine z_iinc C d_Bus_passOneTick_95 0 rfl (v := (nI (k + 1))) (by rw [← nI_1]; rfl) (by decide) [(1, .int (nI (k + 1))), (0, .ref (b + 0))] rfl ?_
      refine z_goto C 72 d_Bus_passOneTick_98 (by decide) ?_
      exact ih (k + 1) (by omega) _ (spn_BI hk6 hB) kk
set_option maxRecDepth 100000 in
set_option maxHeartbeats 4000000 in
/-- one tick -/
theorem c_Bus_passOneTick (l : Launch) (D : va_G) (ca : Nat → ClassId) (b : Nat) (σ : Sg) (hB : BI σ) : CtV l D ca SB b 182 y_Bus_passOneTick w_Bus_passOneTick (rmN 6 138) σ [.ref (b + 0)] (fun σ' => σ' = tickF σ) := by
  refine ct_v "RobotBus" [(0, .ref (b + 0))] (by decide) rfl (Nat.le_of_ble_eq_true rfl) rfl (fun X C hret => ?_)
  refine z_aload_n C d_Bus_passOneTick_0 rfl 0 rfl ?_
  refine z_dup C d_Bus_passOneTick_1 rfl ?_
  refine gB_Bus_clock C d_Bus_passOneTick_2 tw_239  ?_
  refine z_iconst C (v := 1) d_Bus_passOneTick_5 (by decide) ?_
  refine z_iadd C d_Bus_passOneTick_6 ?_
  refine pB_Bus_clock C d_Bus_passOneTick_7 tw_239  ?_
  refine z_iconst C (v := 0) d_Bus_passOneTick_10 (by decide) ?_
  refine z_istore_n C d_Bus_passOneTick_11 rfl (by decide) [(1, .int 0), (0, .ref (b + 0))] rfl ?_
  refine lp_Bus_tick1 l D ca b ⟨by decide, by decide⟩ C 30 0 rfl _ (BI_us (by decide) hB) (fun k1 => ?_)
  refine z_iconst C (v := 0) d_Bus_passOneTick_70 (by decide) ?_
  refine z_istore_n C d_Bus_passOneTick_71 rfl (by decide) [(1, .int 0), (0, .ref (b + 0))] rfl ?_
  refine lp_Bus_tick2 l D ca b ⟨by decide, by decide⟩ C 6 0 rfl _ (plL_BI 30 (BI_us (by decide) hB)) (fun k2 => ?_)
  exact hret _ _ _ d_Bus_passOneTick_101 rfl
/-! liftToRoot -/
def fsz (σ : Sg) (i : Nat) : Nat := (σ.1 61 i 0 0).toNatClampNeg
def ftn (σ : Sg) (i k : Nat) : Nat := (σ.1 65 i 0 k).toNatClampNeg
def FI (σ : Sg) : Prop := ∀ i, i < 6 → σ.1 61 i 0 0 = nI (fsz σ i) ∧ fsz σ i ≤ 4 ∧ ∀ k, k < fsz σ i → σ.1 65 i 0 k = nI (ftn σ i k) ∧ ftn σ i k ≤ 3
theorem pLift_ne {σ : Sg} {i z k u f i' t' : Nat} {w : Int32} (h1 : f ≠ 20) (h2 : f ≠ 21) : (pLift σ i z k w u).1 f i' t' = σ.1 f i' t' := by
  unfold pLift
  rw [us_ne (by simp; intro q; exact absurd q h2), us_ne (by simp; intro q; exact absurd q h1), pTurn_ne h1 h2]
theorem FI_eq {σ σ' : Sg} (h : ∀ f i, 60 ≤ f → f ≤ 65 → σ'.1 f i 0 = σ.1 f i 0) (hF : FI σ) : FI σ' := by
  intro i hi
  unfold fsz ftn
  rw [h 61 i (by decide) (by decide), h 65 i (by decide) (by decide)]
  exact hF i hi
theorem FP_eq {σ σ' : Sg} (h : ∀ i, σ'.1 60 i 0 = σ.1 60 i 0) (hF : FP σ) : FP σ' := by
  intro i hi
  rw [h i]
  exact hF i hi
theorem abv_eq {σ σ' : Sg} (h : ∀ i, σ'.1 60 i 0 = σ.1 60 i 0) (u : Int32) : ∀ m x, abv σ' u m x = abv σ u m x := by
  intro m
  induction m with
  | zero => intro x; rfl
  | succ m ih => intro x; simp only [abv, ih, h]
theorem fIx_spec {σ : Sg} {i : Nat} {w : Int32} : ∀ (m k : Nat) (a : Int32), fIx σ i w m k a = a ∨ ∃ j, k ≤ j ∧ j < k + m ∧ fIx σ i w m k a = nI j := by
  intro m
  induction m with
  | zero => intro k a; exact Or.inl rfl
  | succ m ih =>
    intro k a
    unfold fIx
    split
    · exact Or.inl rfl
    · rcases ih (k + 1) (nI k) with h | ⟨j, h1, h2, h3⟩
      · exact Or.inr ⟨k, by omega, by omega, h⟩
      · exact Or.inr ⟨j, by omega, by omega, h3⟩
theorem fIdx_spec {σ : Sg} {i z : Nat} {w : Int32} : fIdx σ i z w = -1 ∨ ∃ j, j < z ∧ fIdx σ i z w = nI j := by
  unfold fIdx
  split
  · rcases fIx_spec (σ := σ) (i := i) (w := w) z 0 (-1) with h | ⟨j, h1, h2, h3⟩
    · exact Or.inl h
    · exact Or.inr ⟨j, by omega, h3⟩
  · exact Or.inl rfl
def lftS (σ : Sg) (p : Nat) (w : Int32) : Sg := pLift σ p (fsz σ p) (fIdx σ p (fsz σ p) w).toNatClampNeg w (ftn σ p (fIdx σ p (fsz σ p) w).toNatClampNeg)
def lft (w : Int32) : Nat → Int32 → Sg → Sg × Int32
  | 0, _, σ => (σ, 1)
  | m + 1, x, σ => if x = 0 then (σ, 1) else if fIdx σ x.toNatClampNeg (fsz σ x.toNatClampNeg) w = -1 then (σ, 0) else lft w m (σ.1 60 x.toNatClampNeg 0 0) (lftS σ x.toNatClampNeg w)
set_option maxRecDepth 100000 in
set_option maxHeartbeats 4000000 in
theorem lp_Bus_lift (l : Launch) (D : va_G) (ca : Nat → ClassId) (b : Nat) {R : Room} {X : Zx} {y0 : MethodName} {c0 : ByteArray} {n0 : Nat} {r0 : Option FieldType} (hR : 3 ≤ R.frames ∧ 74 ≤ R.locals) (C : Cs D ca b_Bus_liftToRoot 6 "RobotBus" (Cond.code y0 c0 n0 r0) X) (w y : Int32) (F : Sg × Int32) (hret : ∀ (v : Int32) (σ' : Sg) (pc : Nat) (L' : List (Nat × Value)), decode b_Bus_liftToRoot pc = .ok (.ireturn, 1) → (v = 0 ∨ v = 1) → (v = F.2 ∧ σ' = F.1) → Zs l D ca SB b 182 R 6 X σ' pc L' [.int v]) : ∀ m k, k + m = 6 → ∀ (x : Int32) (σ : Sg), FI σ → FP σ → isFr x → abv σ 0 m x = 1 → F = lft w m x σ → Zs l D ca SB b 182 R 6 X σ 5 [(4, .int (nI k)), (3, .int x), (0, .ref (b + 0)), (1, .int y), (2, .int w)] [] := by
  intro m
  induction m with
  | zero =>
    intro k hk x σ hF hP hx ha he
    exact absurd ha (by simp [abv])
  | succ m ih =>
    intro k hk x σ hF hP hx ha he
    have hx1 : ¬ x = -1 := fun q => by rw [abv, if_pos q] at ha; exact absurd ha (by decide)
    obtain ⟨p, hp, rfl⟩ := hx.resolve_left hx1
    obtain ⟨f1, f2, f3⟩ := hF p hp
    have hcp : (nI p).toNatClampNeg = p := nI_clamp (by omega)
    refine z_iload C d_Bus_liftToRoot_5 0 rfl ?_
    refine z_bipush C (v := 6) d_Bus_liftToRoot_7 (by decide) ?_
    refine z_icmp_ge C 68 d_Bus_liftToRoot_9 (by decide) (fun h9 => False.elim (nI_ge (a := k) (b := 6) (by omega) (by decide) h9)) (fun h9 => ?_)
    refine z_iload_n C d_Bus_liftToRoot_12 rfl 1 rfl ?_
    refine z_if_eq C 68 d_Bus_liftToRoot_13 (by decide) (fun h13 => ?_) (fun h13 => ?_)
    · refine z_iconst C (v := 1) d_Bus_liftToRoot_68 (by decide) ?_
      exact hret _ _ _ _ d_Bus_liftToRoot_69 (by decide) ⟨by rw [he, lft, if_pos h13], by rw [he, lft, if_pos h13]⟩
    · refine z_aload_n C d_Bus_liftToRoot_16 rfl 2 rfl ?_
      refine gB_Bus_frames C d_Bus_liftToRoot_17 tw_236  ?_
      refine z_iload_n C d_Bus_liftToRoot_20 rfl 1 rfl ?_
      refine rB_frms C (j := p) d_Bus_liftToRoot_21  rfl hp ?_
      refine z_iload_n C d_Bus_liftToRoot_22 rfl 4 rfl ?_
      refine zf_Vi C d_Bus_liftToRoot_23 (c_Frm_indexAt l D ca b σ hp f1 f2 w) tw_704 tw_705 tw_706 tw_9 tw_707 pd_Frm_indexAt ⟨⟨Nat.le_trans (by decide) hR.1, Nat.le_trans (by decide) hR.2⟩, rfl, rfl, Nat.zero_le _, Nat.zero_le _⟩ (by omega) rfl (eB_Frm hp) rfl (Nat.le_of_ble_eq_true rfl) rfl ?_
      refine z_istore C d_Bus_liftToRoot_26 (by decide) [(5, .int (fIdx σ p (fsz σ p) w)), (4, .int (nI k)), (3, .int (nI p)), (0, .ref (b + 0)), (1, .int y), (2, .int w)] rfl ?_
      refine z_iload C d_Bus_liftToRoot_28 0 rfl ?_
      refine z_iconst C (v := -1) d_Bus_liftToRoot_30 (by decide) ?_
      refine z_icmp_ne C 36 d_Bus_liftToRoot_31 (by decide) (fun h31 => ?_) (fun h31 => ?_)
      · obtain ⟨j, hj, hj2⟩ := (fIdx_spec (σ := σ) (i := p) (z := fsz σ p) (w := w)).resolve_left h31
        refine z_aload_n C d_Bus_liftToRoot_36 rfl 3 rfl ?_
        refine gB_Bus_point C d_Bus_liftToRoot_37 tw_238  ?_
        refine z_aload_n C d_Bus_liftToRoot_40 rfl 3 rfl ?_
        refine gB_Bus_frames C d_Bus_liftToRoot_41 tw_236  ?_
        refine z_iload_n C d_Bus_liftToRoot_44 rfl 2 rfl ?_
        refine rB_frms C (j := p) d_Bus_liftToRoot_45  rfl hp ?_
        refine z_iload C d_Bus_liftToRoot_46 0 rfl ?_
        refine z_ri (x' := nI j) hj2 ?_
        refine z_iload_n C d_Bus_liftToRoot_48 rfl 5 rfl ?_
        refine zf_Vv C d_Bus_liftToRoot_49 (c_Pnt_lift l D ca b σ hp f1 f2 hj w (f3 j hj).1 (f3 j hj).2) tw_709 tw_710 tw_711 tw_3 tw_712 pd_Pnt_lift ⟨⟨hR.1, hR.2⟩, rfl, rfl, Nat.zero_le _, Nat.zero_le _⟩ (by omega) rfl (eB_Pnt ) rfl (Nat.le_of_ble_eq_true rfl) rfl ?_
        rw [show pLift σ p (fsz σ p) j w (ftn σ p j) = lftS σ p w by unfold lftS; rw [hj2, nI_clamp (by omega)]]
        refine z_aload_n C d_Bus_liftToRoot_52 rfl 3 rfl ?_
        refine gB_Bus_frames C d_Bus_liftToRoot_53 tw_236  ?_
        refine z_iload_n C d_Bus_liftToRoot_56 rfl 2 rfl ?_
        refine rB_frms C (j := p) d_Bus_liftToRoot_57  rfl hp ?_
        refine gB_Frm_parent C d_Bus_liftToRoot_58 tw_217 hp ?_
        refine z_ri (x' := σ.1 60 p 0 0) (by unfold lftS; rw [pLift_ne (by decide) (by decide)]) ?_
        refine z_istore_n C d_Bus_liftToRoot_61 rfl (by decide) [(3, .int (σ.1 60 p 0 0)), (5, .int (fIdx σ p (fsz σ p) w)), (4, .int (nI k)), (0, .ref (b + 0)), (1, .int y), (2, .int w)] rfl ?_
        refine z_iinc C d_Bus_liftToRoot_62 2 rfl (v := (nI (k + 1))) (by rw [← nI_1]; rfl) (by decide) [(4, .int (nI (k + 1))), (3, .int (σ.1 60 p 0 0)), (5, .int (fIdx σ p (fsz σ p) w)), (0, .ref (b + 0)), (1, .int y), (2, .int w)] rfl ?_
        refine z_goto C 5 d_Bus_liftToRoot_65 (by decide) ?_
        refine z_loc [0, 1, 3, 4, 5] rfl ?_
        have e60 : ∀ i, (lftS σ p w).1 60 i 0 = σ.1 60 i 0 := fun i => pLift_ne (by decide) (by decide)
        exact ih (k + 1) (by omega) _ _ (FI_eq (fun f i a c => pLift_ne (by omega) (by omega)) hF) (FP_eq e60 hP) (hP p hp) (by rw [abv_eq e60]; rw [abv, if_neg hx1, if_neg h13, hcp] at ha; exact ha) (by rw [he, lft, if_neg h13, hcp, if_neg h31])
      · refine z_iconst C (v := 0) d_Bus_liftToRoot_34 (by decide) ?_
        exact hret _ _ _ _ d_Bus_liftToRoot_35 (by decide) ⟨by rw [he, lft, if_neg h13, hcp, if_pos h31], by rw [he, lft, if_neg h13, hcp, if_pos h31]⟩
set_option maxRecDepth 100000 in
set_option maxHeartbeats 4000000 in
/-- lifts the point to the root -/
theorem c_Bus_liftToRoot (l : Launch) (D : va_G) (ca : Nat → ClassId) (b : Nat) (σ : Sg) (x w : Int32) (hF : FI σ) (hP : FP σ) (hx : isFr x) (ha : abv σ 0 6 x = 1) : CtI l D ca SB b 182 y_Bus_liftToRoot w_Bus_liftToRoot (rmN 3 74) σ [.ref (b + 0), .int x, .int w] (fun r σ' => r = (lft w 6 x σ).2 ∧ σ' = (lft w 6 x σ).1) := by
  refine ct_z "RobotBus" [(0, .ref (b + 0)), (1, .int x), (2, .int w)] (by decide) rfl (Nat.le_of_ble_eq_true rfl) rfl (fun X C hret => ?_)
  refine z_iload_n C d_Bus_liftToRoot_0 rfl 1 rfl ?_
  refine z_istore_n C d_Bus_liftToRoot_1 rfl (by decide) [(3, .int x), (0, .ref (b + 0)), (1, .int x), (2, .int w)] rfl ?_
  refine z_iconst C (v := 0) d_Bus_liftToRoot_2 (by decide) ?_
  refine z_istore C d_Bus_liftToRoot_3 (by decide) [(4, .int 0), (3, .int x), (0, .ref (b + 0)), (1, .int x), (2, .int w)] rfl ?_
  exact lp_Bus_lift l D ca b ⟨by decide, by decide⟩ C w x _ hret 6 0 rfl x σ hF hP hx ha rfl
end
section
/-! The throw of an exception, made where it's thrown; a walk may be begun anew at any state (exS), so that what was written before stays known. -/
def exS (s T : State) : State := { s with heap := T.heap, slotsUsed := T.slotsUsed, vm := T.vm }
section RB
variable {p : Program} {l : Launch} {e : Env} {R : Room} {s : State} {m : MethodId} {args : Array Value} {below : List Frame} {meth : Method} {c : Code} {H : Heap} {T : State} {locs : List Loc} {cells slots : Nat}
theorem ex_loc (X : Stand p l e R s m args below meth c T locs cells slots) : (exS s T).localsInUse = s.localsInUse := by
  have hf : (exS s T).frames = s.frames := rfl
  unfold State.localsInUse
  rw [hf, X.frames]
  show _ + ((((T.vm.method? m).bind (·.code)).map (·.maxLocals)).getD 0 + 11) = _ + ((((s.vm.method? m).bind (·.code)).map (·.maxLocals)).getD 0 + 11)
  rw [X.warmed.alike.method?]
theorem ex_hears {s T : State} (hW : s.WarmedH T.vm) {m : MethodId} {below : List Frame} (h : s.hears m below = true) : (exS s T).hears m below = true := by
  have hc : ∀ k, (exS s T).code? k = s.code? k := fun k => by
    rw [State.code?_eq, State.code?_eq]
    show (T.vm.method? k).bind _ = _
    rw [hW.alike.method?]
  have hm : ∀ k, (exS s T).vm.method? k = s.vm.method? k := fun k => by
    show T.vm.method? k = _
    rw [hW.alike.method?]
  unfold State.hears at h ⊢
  split <;> simp_all
theorem ex_back {s T U : State} {k n : Nat} (h0 : (T.setVm s.vm) = { s.setFrames T.frames with heap := T.heap, slotsUsed := T.slotsUsed }) (h : (exS s T).sameButNew U [] k n) : (T.setVm s.vm).sameButNew (U.setVm s.vm) [] k n := by
  obtain ⟨e1, e2, e3, e4, e5, e6⟩ := h
  refine ⟨?_, e2, e3, e4, e5, e6⟩
  rw [h0]
  have e7 : U.setVm s.vm = ({ (exS s T).setFrames U.frames with heap := U.heap, slotsUsed := U.slotsUsed } : State).setVm s.vm := congrArg (fun z : State => z.setVm s.vm) e1
  refine e7.trans ?_
  show ({ s.setFrames U.frames with heap := U.heap, slotsUsed := U.slotsUsed } : State) = { (s.setFrames T.frames).setFrames U.frames with heap := U.heap, slotsUsed := U.slotsUsed }
  rw [State.setFrames_setFrames]
theorem ex_eq (X : Stand p l e R s m args below meth c T locs cells slots) : (T.setVm s.vm) = { s.setFrames T.frames with heap := T.heap, slotsUsed := T.slotsUsed } := X.same.1
theorem ex_rebase (X : Stand p l e R s m args below meth c T locs cells slots) (hc : cells ≤ R.cells) (hs : slots ≤ R.slots) : Stand p l e { R with cells := R.cells - cells, slots := R.slots - slots } (exS s T) m args below meth c T [] 0 0 := by
  have hr := X.room
  have hl := ex_loc X
  have hbk := X.book
  refine ⟨X.admits, X.cas, X.clock, X.frames, ?_, ex_hears X.warmed X.hears, ?_, X.code, X.here, X.tail, State.WarmedH.refl _, X.limits, X.bytes, ?_⟩
  · simp only [State.hasRoom, Bool.and_eq_true, decide_eq_true_eq] at hr ⊢
    obtain ⟨⟨⟨⟨r1, r2⟩, r3⟩, r4⟩, r5⟩ := hr
    have h1 := X.heapSize
    have h2 := X.used
    rw [hl]
    refine ⟨⟨⟨⟨r1, r2⟩, ?_⟩, ?_⟩, hbk⟩
    · show T.heap.size + (R.cells - cells) ≤ _
      omega
    · show T.slotsUsed + (R.slots - slots) ≤ _
      omega
  · show T.vm.method? m = _
    rw [X.warmed.alike.method?]; exact X.method
  · refine ⟨?_, Nat.le_refl _, Nat.le_refl _, ?_, ?_, fun a c h => ⟨c, h, rfl, rfl, fun _ _ => rfl⟩⟩
    · have h0 := X.same.1
      exact congrArg (fun z : State => z.setVm T.vm) h0
    · show T.slotsUsed = T.slotsUsed + ((T.heap.toList.drop T.heap.size).map (·.slots.size)).sum
      rw [← Array.length_toList, List.drop_length]
      rfl
    · show ((T.heap.toList.drop T.heap.size).map (·.slots.size)).sum ≤ 0
      rw [← Array.length_toList, List.drop_length]
      exact Nat.le_refl _
end RB
/-- a static of Throwable that holds a reference: nobody writes it -/
def exZ (n d : String) (A : Nat → Prop) (U : State) : Prop := (Cond.laysStatic Bundle.tN n d).before #[] U = true ∧ (Cond.isRef (.static Bundle.tN n d)).before #[] U = true ∧ ∀ c k i f a, U.fieldFound? Bundle.tN n d = some (c, k, i, f) → k.statics = some a → ¬ A a
theorem exZ.narrow {n d : String} {A B : Nat → Prop} {U : State} (h : exZ n d A U) (hAB : ∀ q, B q → A q) : exZ n d B U := ⟨h.1, h.2.1, fun c k i f a h1 h2 h3 => h.2.2 c k i f a h1 h2 (hAB a h3)⟩
theorem exZ.kept {n d : String} {A : Nat → Prop} {U V : State} (hv : V.vm = U.vm) (hq : ∀ a : Nat, a < U.heap.size → ¬ A a → V.heap[a]? = U.heap[a]?) (h : exZ n d A U) : exZ n d A V := by
  obtain ⟨h1, h2, h3⟩ := h
  have hff : ∀ x y z, V.fieldFound? x y z = U.fieldFound? x y z := fun x y z => by unfold State.fieldFound?; rw [hv]
  obtain ⟨c, k, i, f, a, cell, g1, g2, g3, g4, g5, g6, g7, g8, g9⟩ := Cond.laysStatic_spec h1
  have g5' : V.heap[a]? = some cell := by rw [hq a (Array.getElem?_eq_some_iff.mp g5).1 (h3 c k i f a g2 g4)]; exact g5
  refine ⟨?_, ?_, fun c k i f a q1 q2 => h3 c k i f a (by rw [← hff]; exact q1) q2⟩
  · simp only [Cond.before, Cond.holds, Cond.value, hv, g1, hff, g2, g4, g5, g5', Option.bind_some] at h1 ⊢
    exact h1
  · have e1 : (Term.static Bundle.tN n d).eval #[] V none [] V = (Term.static Bundle.tN n d).eval #[] U none [] U := by
      simp [Term.eval, State.fieldNamed?, hff, g2, g3, g4, g5, g5', g6]
    simp only [Cond.before, Cond.holds, Cond.value, e1] at h2 ⊢
    exact h2
theorem exZ.warm {n d : String} {A : Nat → Prop} {U : State} {vm' : Vm} (hW : U.WarmedH vm') (h : exZ n d A U) : exZ n d A (U.setVm vm') := by
  obtain ⟨h1, h2, h3⟩ := h
  refine ⟨Cond.before_shiftedFace (State.Shifted.of_warmed hW) _ rfl h1, Cond.before_shiftedFace (State.Shifted.of_warmed hW) _ rfl h2, fun c k i f a q1 q2 => ?_⟩
  obtain ⟨c0, k0, i0, f0, a0, cell, g1, g2, g3, g4, -⟩ := Cond.laysStatic_spec h1
  obtain ⟨k', g6, g7⟩ := State.fieldFound?_setVm hW.alike g2
  cases g6.symm.trans q1
  refine h3 _ _ _ _ a g2 ?_
  rw [g7] at q2
  exact q2
/-- the words on the tables that a throw asks for -/
def xok (w : Cond) : Bool := w.onTables && w.keepsFace
def xwl : List Cond := tables_1.filter xok
def xst : List Cond := [.laysStatic Bundle.tN "UNASSIGNED_STACK" Bundle.steD, .laysStatic Bundle.tN "SUPPRESSED_SENTINEL" Bundle.listD, .isRef (.static Bundle.tN "UNASSIGNED_STACK" Bundle.steD), .isRef (.static Bundle.tN "SUPPRESSED_SENTINEL" Bundle.listD)]
def ExT (U : State) : Prop := ∀ w ∈ xwl, w.before #[] U = true
def ExZ (A : Nat → Prop) (U : State) : Prop := exZ "UNASSIGNED_STACK" Bundle.steD A U ∧ exZ "SUPPRESSED_SENTINEL" Bundle.listD A U
theorem xwl_of {w : Cond} (h : w ∈ tables_1) (g : xok w = true) : w ∈ xwl := List.mem_filter.mpr ⟨h, g⟩
theorem xwl_ok {w : Cond} (h : w ∈ xwl) : w.onTables = true ∧ w.keepsFace = true := by
  have h1 := (List.mem_filter.mp h).2
  unfold xok at h1
  exact Bool.and_eq_true_iff.mp h1
theorem ExT.same {u U : State} (h : U.vm = u.vm) (g : ExT u) : ExT U := fun w hw => va_tabs (xwl_ok hw).1 h.symm (g w hw)
theorem ExT.warm {s U : State} (hW : s.WarmedH U.vm) (g : ExT s) : ExT U := fun w hw => va_tabs (xwl_ok hw).1 (rfl : (s.setVm U.vm).vm = U.vm) (Cond.before_shiftedFace (args := #[]) (State.Shifted.of_warmed hW) w (xwl_ok hw).2 (g w hw))
theorem ExT.use {U : State} (g : ExT U) {w : Cond} (hw : w ∈ xwl) (A : Array Value) : w.before A U = true := va_tabs (xwl_ok hw).1 rfl (g w hw)
theorem ExZ.narrow {A B : Nat → Prop} {U : State} (h : ExZ A U) (hAB : ∀ q, B q → A q) : ExZ B U := ⟨h.1.narrow hAB, h.2.narrow hAB⟩
theorem ExZ.to {A : Nat → Prop} {s U : State} (hW : s.WarmedH U.vm) (hq : ∀ a : Nat, a < s.heap.size → ¬ A a → U.heap[a]? = s.heap[a]?) (h : ExZ A s) : ExZ A U :=
  ⟨exZ.kept (U := s.setVm U.vm) rfl hq (exZ.warm hW h.1), exZ.kept (U := s.setVm U.vm) rfl hq (exZ.warm hW h.2)⟩
theorem ExZ.use {A : Nat → Prop} {U : State} (h : ExZ A U) {w : Cond} (hw : w ∈ xst) (args : Array Value) : w.before args U = true := by
  simp only [xst, List.mem_cons, List.not_mem_nil, or_false] at hw
  rcases hw with rfl | rfl | rfl | rfl
  · exact h.1.1
  · exact h.2.1
  · exact h.1.2.1
  · exact h.2.2.1
def xup : List String := ["java/lang/RuntimeException", "java/lang/Exception"]
/-- what the tables say of a throw of the class 'cls': the entries of the class and of its constructor -/
def XC (i1 i3 : Nat) (cls : String) : Prop := Cond.classLink R_Bus i1 cls ∈ xwl ∧ Cond.initialized cls ∈ xwl ∧ Cond.instantiable cls 6 ∈ xwl ∧ (∀ w ∈ Bundle.ownAtoms R_Bus i3 cls xup, w ∈ xwl ∨ w ∈ xst) ∧ Bundle.fit cls = true
section TH
variable {p : Program} {l : Launch} {e : Env} {R : Room} {s : State} {m : MethodId} {args : Array Value} {below : List Frame} {meth : Method} {c : Code} {H : Heap} {locs : List Loc} {cc : ByteArray} {pc i1 i2 i3 : Nat} {cls : String} {ls : Array Slot} {A : Nat → Prop} {Qc : Array Value → State → Outcome → State → Prop} {free : Addr → Prop}
set_option maxHeartbeats 1000000 in
theorem ex_throw (hx : p.tables.exec = Jvm.exec) (hb : c.code = cc) (hl : l.stackTraces = false) (hlocks : meth.locks = false) (hT : ExT s) (hZ : ExZ A s) (hown : s.vm.findClass R_Bus = some m.cls) (hempty : c.exceptionTable.isEmpty = true) (hS : va_S A s.heap H locs) (hk : XC i1 i3 cls)
    {sa : Nat} {w3 : Nat} (hld : ∀ (T : State) (s' : State) (R' : Room) (L' : List Loc) (k' n' : Nat) (g : JFrame), s.WarmedH s'.vm → Stand p l e R' s' m args below meth c T L' k' n' → g.method = m → g.pc = pc + 4 → ∀ target, Steps p.tables e below (T.setTop { g with pc := pc + 4 + w3, stack := .ref sa :: g.stack }) target → Steps p.tables e below (T.setTop g) target)
    (hd1 : decode cc pc = .ok (.new i1, 3)) (hd2 : decode cc (pc + 3) = .ok (.dup, 1)) (hd4 : decode cc (pc + 4 + w3) = .ok (.invokespecial i3, 3)) (hd5 : decode cc (pc + 4 + w3 + 3) = .ok (.athrow, 1))
    (hR : 6 ≤ R.frames ∧ 82 ≤ R.locals ∧ 1 ≤ R.cells ∧ 6 ≤ R.slots) (hsz : ls.size = c.maxLocals)
    (hQ : ∀ (t : State) (x : Nat) (ce : Cell), s.WarmedH t.vm → H.size ≤ t.heap.size → (∀ q : Nat, q < H.size → t.heap[q]? = H[q]?) → t.heap[x]? = some ce → t.vm.findClass cls = some ce.cls → Qc args s (.threw x) t) (hfree : ∀ q ∈ locs, free q.base) :
    W p l e R s m args below meth c H locs 0 0 (MQX below Qc args s 1 6 free) (F0 m pc ls []) := by
  intro T hTH X
  obtain ⟨k1, k2, k3, k4, k5⟩ := hk
  have htr : e.platform.stackTraces = false := by rw [X.admits.platform]; exact hl
  have Y := ex_rebase X (Nat.zero_le _) (Nat.zero_le _)
  have hWs : s.WarmedH (exS s T).vm := X.warmed
  have hE : ExT (exS s T) := hT.warm hWs
  have hZ' : ExZ A (exS s T) := hZ.to hWs (fun a h1 h2 => by
    show T.heap[a]? = _
    rw [hTH]; exact hS.2.1 a h1 h2)
  have hown' : (exS s T).vm.findClass R_Bus = some m.cls := by rw [hWs.alike.findClass]; exact hown
  obtain ⟨vm₁, cX, kX, hfX, hkX, -, -, X₁, st1⟩ := Y.newCold hx (own := R_Bus) (C := cls) (index := i1) (n := 6) hown' (hE.use k1 _) (hE.use k3 _) (hE.use k2 _) (g := F0 m pc ls []) rfl (by rw [hb]; exact hd1) (by show 0 + 1 ≤ R.cells - 0; omega) (by show 0 + 6 ≤ R.slots - 0; omega)
  generalize hT1 : (T.setVm vm₁).pushCell { cls := cX, slots := kX.instanceTypes.map defaultValue, vm := .none } = T1 at X₁ st1
  have hcellA : T1.heap[T.heap.size]? = some (freshCell cX kX) := by rw [← hT1]; exact State.heap_pushCell_size _ _
  obtain ⟨U, hsteps, hrun, hend, hWU, hsame, ce, hce, K⟩ := X₁.ctorThrowS hx htr (own := R_Bus) (cls := cls) (names := xup) (ic := i3) hown' k5 (by decide +kernel)
    (fun w hw => (k4 w hw).elim (fun h => hE.use h _) (fun h => hZ'.use h _)) (fun y hy => by cases hy) hfX hkX hcellA (Nat.le_refl _) (msg := .ref sa) rfl
    (g := F0 m (pc + 4 + w3) ls [.ref sa, .ref T.heap.size, .ref T.heap.size]) rfl hsz rfl rfl (rest := []) rfl (by rw [hb]; exact hd4) (by rw [hb]; exact hd5) (covers_of_empty hempty _) (by show 2 + 3 < R.frames; omega) (by
      show 2 * 0 + 1 + (13 * 3 + 42) ≤ R.locals
      omega) hlocks
  have hkeep : ∀ q : Nat, q < H.size → U.heap[q]? = H[q]? := by
    intro q hq
    rw [← hTH] at hq ⊢
    have h1 := (Array.getElem?_eq_getElem hq : T.heap[q]? = some T.heap[q])
    rw [h1]
    exact hsame.old_cell (show (exS s T).heap[q]? = some T.heap[q] from h1)
  have hsz2 : H.size ≤ U.heap.size := by rw [← hTH]; exact hsame.2.1
  have hWsU : s.WarmedH U.vm := State.WarmedH.trans hWs hWU
  refine ⟨U, ?_, .threw T.heap.size, hrun, hend, hQ U T.heap.size ce hWsU hsz2 hkeep hce (by rw [hWU.alike.findClass]; exact K.cls), locs, ⟨hWsU, ?_⟩, hfree⟩
  · refine st1 _ ?_
    show Steps p.tables e below (T1.setTop (F0 m (pc + 3) ls [.ref T.heap.size])) _
    unfold F0
    jvm_step X₁.here [X₁.here.top, hx, hb, hd2, Value.category]
    exact hld T1 (exS s T) _ _ _ _ _ hWs X₁ rfl rfl _ hsteps
  · have h1 := ex_back (s := s) (ex_eq X) hsame
    have h2 := X.same.trans h1
    rw [List.append_nil, Nat.zero_add, Nat.zero_add] at h2
    exact h2
end TH
end
