section
/-! A block of cells: n of them, one behind another from the address b on; the o-th one is M o. All that an object of the class owns lies in one block, so a method's contract speaks of the whole block and of the map M alone. -/
def mw (b n : Nat) (M : Nat → va_E) : va_W := (List.range n).map (fun o => (b + o, M o))
theorem mw_len {b n : Nat} {M : Nat → va_E} : (mw b n M).length = n := by simp [mw]
theorem mw_get {b n o : Nat} {M : Nat → va_E} (h : o < n) : (mw b n M)[o]? = some (b + o, M o) := by
  simp [mw, List.getElem?_map, List.getElem?_range h]
theorem mw_out {b n o : Nat} {M : Nat → va_E} (h : ¬ o < n) : (mw b n M)[o]? = none := by
  rw [List.getElem?_eq_none_iff, mw_len]
  omega
theorem mw_inv {b n k : Nat} {M : Nat → va_E} {q : Nat × va_E} (h : (mw b n M)[k]? = some q) : k < n ∧ q = (b + k, M k) := by
  by_cases hk : k < n
  · rw [mw_get hk] at h
    exact ⟨hk, (Option.some.inj h).symm⟩
  · rw [mw_out hk] at h
    cases h
theorem mw_at {b n o a : Nat} {M : Nat → va_E} {e : va_E} (h : o < n) (ha : b + o = a) (he : M o = e) : (mw b n M)[o]? = some (a, e) := by
  rw [mw_get h, ha, he]
theorem mw_set {b n o : Nat} {M : Nat → va_E} {e : va_E} (ho : o < n) : (mw b n M).set o (b + o, e) = mw b n (va_up M o e) := by
  apply List.ext_getElem?
  intro k
  by_cases hk : k < n
  · by_cases h : o = k
    · subst h
      rw [List.getElem?_set_self (by rw [mw_len]; exact hk), mw_get hk, va_up_self]
    · rw [List.getElem?_set_ne h, mw_get hk, mw_get hk, va_up_ne _ _ (Ne.symm h)]
  · rw [mw_out hk, List.getElem?_eq_none_iff, List.length_set, mw_len]
    omega
theorem mw_setA {b n o a : Nat} {M : Nat → va_E} {e : va_E} (ho : o < n) (ha : b + o = a) : (mw b n M).set o (a, e) = mw b n (va_up M o e) := by
  subst ha
  exact mw_set ho
theorem mw_D {A : Nat → Prop} {b n : Nat} {M : Nat → va_E} (h : ∀ o, o < n → A (b + o)) : va_D A (mw b n M) := by
  refine ⟨fun i j p q hi hj hpq => ?_, fun k q hk => ?_⟩
  · obtain ⟨-, rfl⟩ := mw_inv hi
    obtain ⟨-, rfl⟩ := mw_inv hj
    exact Nat.add_left_cancel hpq
  · obtain ⟨h1, rfl⟩ := mw_inv hk
    exact h k h1
theorem mw_push {b n : Nat} {M : Nat → va_E} {e : va_E} : mw b n M ++ [(b + n, e)] = mw b (n + 1) (va_up M n e) := by
  apply List.ext_getElem?
  intro k
  by_cases hk : k < n
  · rw [List.getElem?_append_left (by rw [mw_len]; exact hk), mw_get hk, mw_get (by omega), va_up_ne _ _ (by omega)]
  · rw [List.getElem?_append_right (by rw [mw_len]; omega), mw_len]
    by_cases hn : k = n
    · subst hn
      rw [mw_get (by omega), va_up_self, Nat.sub_self]
      rfl
    · rw [mw_out (by omega), List.getElem?_eq_none_iff]
      simp
      omega
theorem mw_kept {D : va_G} {cl : List vw_C} {b n : Nat} {M : Nat → va_E} {H H1 : Heap} (h : va_P D cl (mw b n M) H) (hq : ∀ q : Nat, b ≤ q → q < b + n → H1[q]? = H[q]?) : va_P D cl (mw b n M) H1 :=
  h.kept (fun k q hk => by
    obtain ⟨h1, rfl⟩ := mw_inv hk
    exact hq _ (by simp) (by simp; omega))
theorem mw_le {D : va_G} {cl : List vw_C} {b n : Nat} {M : Nat → va_E} {H : Heap} (h : va_P D cl (mw b n M) H) (hn : 0 < n) : b + n ≤ H.size := by
  have h1 := (h (n - 1) _ (mw_get (by omega))).lt
  simp at h1
  omega
/-- what a method of the block may change: the block, and what it makes -/
def mA (b n sz : Nat) : Nat → Prop := fun q => (b ≤ q ∧ q < b + n) ∨ sz ≤ q
theorem mA_in {b n sz o : Nat} (h : o < n) : mA b n sz (b + o) := Or.inl ⟨Nat.le_add_right _ _, Nat.add_lt_add_left h _⟩
theorem mA_D {b n sz : Nat} {M : Nat → va_E} : va_D (mA b n sz) (mw b n M) := mw_D fun _ h => mA_in h
theorem mA_new {b n sz : Nat} : ∀ q : Nat, sz ≤ q → mA b n sz q := fun _ h => Or.inr h
theorem mA_le {b n sz sz' : Nat} (h : sz ≤ sz') : ∀ q : Nat, mA b n sz' q → mA b n sz q := fun _ hq => hq.elim Or.inl (fun h1 => Or.inr (Nat.le_trans h h1))
/-- a method's start and end over a block -/
def mPc (D : va_G) (cl : List vw_C) (tys : List (ClassId × FieldType)) (b n sz : Nat) (M : Nat → va_E) (av : List Value) : Array Value → State → Prop :=
  va_Pc av (fun U => U.heap.size = sz ∧ va_P D cl (mw b n M) U.heap ∧ va_K D cl tys U)
def mB (D : va_G) (cl : List vw_C) (tys : List (ClassId × FieldType)) (b n : Nat) (u : Nat → va_E) (t : State) : Prop := va_P D cl (mw b n u) t.heap ∧ va_K D cl tys t
theorem mPc_blind {D : va_G} {cl : List vw_C} {tys : List (ClassId × FieldType)} {b n sz : Nat} {M : Nat → va_E} {av : List Value} : FrameBlind (mPc D cl tys b n sz M av) := fun a U g mk q => by
  obtain ⟨q0, q1, qP, qK⟩ := q
  exact ⟨q0, q1, qP, va_K.moved (u := U) (U := U.calling g mk a) (Vm.Alike.refl U.vm) qK⟩
end
section
/-! The machine at a program counter, over a block whose map is M: heap, written places and locals' array are hidden; L lists the locals, st is the operand stack. X holds what belongs to one invocation. -/
abbrev Zx : Type := Program × Env × State × MethodId × Array Value × List Frame × Method × Code × (State → Prop)
def Z (l : Launch) (D : va_G) (cl : List vw_C) (b n : Nat) (R : Room) (nL : Nat) (X : Zx) (k sl : Nat) (M : Nat → va_E) (pc : Nat) (L : List (Nat × Value)) (st : List Value) : Prop :=
  match X with
  | (p, e, s, m, args, below, meth, c, Q) => ∀ (H : Heap) (locs : List Loc) (ls : Array Slot), va_P D cl (mw b n M) H → va_S (mA b n s.heap.size) s.heap H locs → lv_has ls nL L → W p l e R s m args below meth c H locs k sl Q (F0 m pc ls st)
/-- what is known of an invocation: code, class, words, tables -/
def Cx (D : va_G) (cl : List vw_C) (tys : List (ClassId × FieldType)) (cc : ByteArray) (nL : Nat) (own : String) (Ts : List Cond) (X : Zx) : Prop :=
  match X with
  | (p, _, s, m, args, _, _, c, _) => p.tables.exec = Jvm.exec ∧ c.code = cc ∧ c.maxLocals = nL ∧ s.vm.findClass own = some m.cls ∧ (∀ w ∈ Ts, w.before args s = true) ∧ va_K D cl tys s
section ZROWS
variable {l : Launch} {D : va_G} {cl : List vw_C} {tys : List (ClassId × FieldType)} {b n : Nat} {R : Room} {nL : Nat} {X : Zx} {k sl : Nat} {M : Nat → va_E} {pc : Nat} {L : List (Nat × Value)} {st : List Value} {cc : ByteArray} {own : String} {Ts : List Cond}
theorem z_eq {pc' : Nat} (h : pc = pc') (kk : Z l D cl b n R nL X k sl M pc' L st) : Z l D cl b n R nL X k sl M pc L st := h ▸ kk
theorem z_stk {st' : List Value} (h : st = st') (kk : Z l D cl b n R nL X k sl M pc L st') : Z l D cl b n R nL X k sl M pc L st := h ▸ kk
theorem z_map {M' : Nat → va_E} (h : M = M') (kk : Z l D cl b n R nL X k sl M' pc L st) : Z l D cl b n R nL X k sl M pc L st := h ▸ kk
theorem z_loc {L' : List (Nat × Value)} (is : List Nat) (h : lv_pick L is = L') (kk : Z l D cl b n R nL X k sl M pc L' st) : Z l D cl b n R nL X k sl M pc L st := by
  obtain ⟨p, e, s, m, args, below, meth, c, Q⟩ := X
  exact fun H locs ls hP hS hl => kk H locs ls hP hS (lv_sub hl is h)
theorem z_topi {x : Int32} (kk : ∀ y : Int32, y = x → Z l D cl b n R nL X k sl M pc L (.int y :: st)) : Z l D cl b n R nL X k sl M pc L (.int x :: st) := kk x rfl
theorem z_iadd (C : Cx D cl tys cc nL own Ts X) {x y : Int32} (hd : decode cc pc = .ok (.iadd, 1)) (kk : Z l D cl b n R nL X k sl M (pc + 1) L (.int (x + y) :: st)) : Z l D cl b n R nL X k sl M pc L (.int y :: .int x :: st) := by
  obtain ⟨p, e, s, m, args, below, meth, c, Q⟩ := X
  obtain ⟨hx, hb, hml, hown, hts, hK⟩ := C
  exact fun H locs ls hP hS hl => lv_iadd hx hb hd (kk H locs ls hP hS hl)
theorem z_isub (C : Cx D cl tys cc nL own Ts X) {x y : Int32} (hd : decode cc pc = .ok (.isub, 1)) (kk : Z l D cl b n R nL X k sl M (pc + 1) L (.int (x - y) :: st)) : Z l D cl b n R nL X k sl M pc L (.int y :: .int x :: st) := by
  obtain ⟨p, e, s, m, args, below, meth, c, Q⟩ := X
  obtain ⟨hx, hb, hml, hown, hts, hK⟩ := C
  exact fun H locs ls hP hS hl => lv_isub hx hb hd (kk H locs ls hP hS hl)
theorem z_imul (C : Cx D cl tys cc nL own Ts X) {x y : Int32} (hd : decode cc pc = .ok (.imul, 1)) (kk : Z l D cl b n R nL X k sl M (pc + 1) L (.int (x * y) :: st)) : Z l D cl b n R nL X k sl M pc L (.int y :: .int x :: st) := by
  obtain ⟨p, e, s, m, args, below, meth, c, Q⟩ := X
  obtain ⟨hx, hb, hml, hown, hts, hK⟩ := C
  exact fun H locs ls hP hS hl => lv_imul hx hb hd (kk H locs ls hP hS hl)
theorem z_iand (C : Cx D cl tys cc nL own Ts X) {x y : Int32} (hd : decode cc pc = .ok (.iand, 1)) (kk : Z l D cl b n R nL X k sl M (pc + 1) L (.int (x &&& y) :: st)) : Z l D cl b n R nL X k sl M pc L (.int y :: .int x :: st) := by
  obtain ⟨p, e, s, m, args, below, meth, c, Q⟩ := X
  obtain ⟨hx, hb, hml, hown, hts, hK⟩ := C
  exact fun H locs ls hP hS hl => lv_iand hx hb hd (kk H locs ls hP hS hl)
theorem z_ior (C : Cx D cl tys cc nL own Ts X) {x y : Int32} (hd : decode cc pc = .ok (.ior, 1)) (kk : Z l D cl b n R nL X k sl M (pc + 1) L (.int (x ||| y) :: st)) : Z l D cl b n R nL X k sl M pc L (.int y :: .int x :: st) := by
  obtain ⟨p, e, s, m, args, below, meth, c, Q⟩ := X
  obtain ⟨hx, hb, hml, hown, hts, hK⟩ := C
  exact fun H locs ls hP hS hl => lv_ior hx hb hd (kk H locs ls hP hS hl)
theorem z_ixor (C : Cx D cl tys cc nL own Ts X) {x y : Int32} (hd : decode cc pc = .ok (.ixor, 1)) (kk : Z l D cl b n R nL X k sl M (pc + 1) L (.int (x ^^^ y) :: st)) : Z l D cl b n R nL X k sl M pc L (.int y :: .int x :: st) := by
  obtain ⟨p, e, s, m, args, below, meth, c, Q⟩ := X
  obtain ⟨hx, hb, hml, hown, hts, hK⟩ := C
  exact fun H locs ls hP hS hl => lv_ixor hx hb hd (kk H locs ls hP hS hl)
theorem z_ineg (C : Cx D cl tys cc nL own Ts X) {x : Int32} (hd : decode cc pc = .ok (.ineg, 1)) (kk : Z l D cl b n R nL X k sl M (pc + 1) L (.int (-x) :: st)) : Z l D cl b n R nL X k sl M pc L (.int x :: st) := by
  obtain ⟨p, e, s, m, args, below, meth, c, Q⟩ := X
  obtain ⟨hx, hb, hml, hown, hts, hK⟩ := C
  exact fun H locs ls hP hS hl => lv_ineg hx hb hd (kk H locs ls hP hS hl)
theorem z_ladd (C : Cx D cl tys cc nL own Ts X) {x y : Int64} (hd : decode cc pc = .ok (.ladd, 1)) (kk : Z l D cl b n R nL X k sl M (pc + 1) L (.long (x + y) :: st)) : Z l D cl b n R nL X k sl M pc L (.long y :: .long x :: st) := by
  obtain ⟨p, e, s, m, args, below, meth, c, Q⟩ := X
  obtain ⟨hx, hb, hml, hown, hts, hK⟩ := C
  exact fun H locs ls hP hS hl => lv_ladd hx hb hd (kk H locs ls hP hS hl)
theorem z_lsub (C : Cx D cl tys cc nL own Ts X) {x y : Int64} (hd : decode cc pc = .ok (.lsub, 1)) (kk : Z l D cl b n R nL X k sl M (pc + 1) L (.long (x - y) :: st)) : Z l D cl b n R nL X k sl M pc L (.long y :: .long x :: st) := by
  obtain ⟨p, e, s, m, args, below, meth, c, Q⟩ := X
  obtain ⟨hx, hb, hml, hown, hts, hK⟩ := C
  exact fun H locs ls hP hS hl => lv_lsub hx hb hd (kk H locs ls hP hS hl)
theorem z_lmul (C : Cx D cl tys cc nL own Ts X) {x y : Int64} (hd : decode cc pc = .ok (.lmul, 1)) (kk : Z l D cl b n R nL X k sl M (pc + 1) L (.long (x * y) :: st)) : Z l D cl b n R nL X k sl M pc L (.long y :: .long x :: st) := by
  obtain ⟨p, e, s, m, args, below, meth, c, Q⟩ := X
  obtain ⟨hx, hb, hml, hown, hts, hK⟩ := C
  exact fun H locs ls hP hS hl => lv_lmul hx hb hd (kk H locs ls hP hS hl)
theorem z_land (C : Cx D cl tys cc nL own Ts X) {x y : Int64} (hd : decode cc pc = .ok (.land, 1)) (kk : Z l D cl b n R nL X k sl M (pc + 1) L (.long (x &&& y) :: st)) : Z l D cl b n R nL X k sl M pc L (.long y :: .long x :: st) := by
  obtain ⟨p, e, s, m, args, below, meth, c, Q⟩ := X
  obtain ⟨hx, hb, hml, hown, hts, hK⟩ := C
  exact fun H locs ls hP hS hl => lv_land hx hb hd (kk H locs ls hP hS hl)
theorem z_lor (C : Cx D cl tys cc nL own Ts X) {x y : Int64} (hd : decode cc pc = .ok (.lor, 1)) (kk : Z l D cl b n R nL X k sl M (pc + 1) L (.long (x ||| y) :: st)) : Z l D cl b n R nL X k sl M pc L (.long y :: .long x :: st) := by
  obtain ⟨p, e, s, m, args, below, meth, c, Q⟩ := X
  obtain ⟨hx, hb, hml, hown, hts, hK⟩ := C
  exact fun H locs ls hP hS hl => lv_lor hx hb hd (kk H locs ls hP hS hl)
theorem z_lxor (C : Cx D cl tys cc nL own Ts X) {x y : Int64} (hd : decode cc pc = .ok (.lxor, 1)) (kk : Z l D cl b n R nL X k sl M (pc + 1) L (.long (x ^^^ y) :: st)) : Z l D cl b n R nL X k sl M pc L (.long y :: .long x :: st) := by
  obtain ⟨p, e, s, m, args, below, meth, c, Q⟩ := X
  obtain ⟨hx, hb, hml, hown, hts, hK⟩ := C
  exact fun H locs ls hP hS hl => lv_lxor hx hb hd (kk H locs ls hP hS hl)
theorem z_lneg (C : Cx D cl tys cc nL own Ts X) {x : Int64} (hd : decode cc pc = .ok (.lneg, 1)) (kk : Z l D cl b n R nL X k sl M (pc + 1) L (.long (-x) :: st)) : Z l D cl b n R nL X k sl M pc L (.long x :: st) := by
  obtain ⟨p, e, s, m, args, below, meth, c, Q⟩ := X
  obtain ⟨hx, hb, hml, hown, hts, hK⟩ := C
  exact fun H locs ls hP hS hl => lv_lneg hx hb hd (kk H locs ls hP hS hl)
theorem z_idiv (C : Cx D cl tys cc nL own Ts X) {x y : Int32} (hd : decode cc pc = .ok (.idiv, 1)) (hne : ¬ y = 0) (kk : Z l D cl b n R nL X k sl M (pc + 1) L (.int (x / y) :: st)) : Z l D cl b n R nL X k sl M pc L (.int y :: .int x :: st) := by
  obtain ⟨p, e, s, m, args, below, meth, c, Q⟩ := X
  obtain ⟨hx, hb, hml, hown, hts, hK⟩ := C
  exact fun H locs ls hP hS hl => lv_idiv hx hb hd hne (kk H locs ls hP hS hl)
theorem z_irem (C : Cx D cl tys cc nL own Ts X) {x y : Int32} (hd : decode cc pc = .ok (.irem, 1)) (hne : ¬ y = 0) (kk : Z l D cl b n R nL X k sl M (pc + 1) L (.int (x - x / y * y) :: st)) : Z l D cl b n R nL X k sl M pc L (.int y :: .int x :: st) := by
  obtain ⟨p, e, s, m, args, below, meth, c, Q⟩ := X
  obtain ⟨hx, hb, hml, hown, hts, hK⟩ := C
  exact fun H locs ls hP hS hl => lv_irem hx hb hd hne (kk H locs ls hP hS hl)
theorem z_ldiv (C : Cx D cl tys cc nL own Ts X) {x y : Int64} (hd : decode cc pc = .ok (.ldiv, 1)) (hne : ¬ y = 0) (kk : Z l D cl b n R nL X k sl M (pc + 1) L (.long (x / y) :: st)) : Z l D cl b n R nL X k sl M pc L (.long y :: .long x :: st) := by
  obtain ⟨p, e, s, m, args, below, meth, c, Q⟩ := X
  obtain ⟨hx, hb, hml, hown, hts, hK⟩ := C
  exact fun H locs ls hP hS hl => lv_ldiv hx hb hd hne (kk H locs ls hP hS hl)
theorem z_lrem (C : Cx D cl tys cc nL own Ts X) {x y : Int64} (hd : decode cc pc = .ok (.lrem, 1)) (hne : ¬ y = 0) (kk : Z l D cl b n R nL X k sl M (pc + 1) L (.long (x - x / y * y) :: st)) : Z l D cl b n R nL X k sl M pc L (.long y :: .long x :: st) := by
  obtain ⟨p, e, s, m, args, below, meth, c, Q⟩ := X
  obtain ⟨hx, hb, hml, hown, hts, hK⟩ := C
  exact fun H locs ls hP hS hl => lv_lrem hx hb hd hne (kk H locs ls hP hS hl)
theorem z_i2l (C : Cx D cl tys cc nL own Ts X) {x : Int32} (hd : decode cc pc = .ok (.i2l, 1)) (kk : Z l D cl b n R nL X k sl M (pc + 1) L (.long x.toInt64 :: st)) : Z l D cl b n R nL X k sl M pc L (.int x :: st) := by
  obtain ⟨p, e, s, m, args, below, meth, c, Q⟩ := X
  obtain ⟨hx, hb, hml, hown, hts, hK⟩ := C
  exact fun H locs ls hP hS hl => lv_i2l hx hb hd rfl (kk H locs ls hP hS hl)
theorem z_l2i (C : Cx D cl tys cc nL own Ts X) {x : Int64} (hd : decode cc pc = .ok (.l2i, 1)) (kk : Z l D cl b n R nL X k sl M (pc + 1) L (.int x.toInt32 :: st)) : Z l D cl b n R nL X k sl M pc L (.long x :: st) := by
  obtain ⟨p, e, s, m, args, below, meth, c, Q⟩ := X
  obtain ⟨hx, hb, hml, hown, hts, hK⟩ := C
  exact fun H locs ls hP hS hl => lv_l2i hx hb hd rfl (kk H locs ls hP hS hl)
theorem z_i2d (C : Cx D cl tys cc nL own Ts X) {x : Int32} (hd : decode cc pc = .ok (.i2d, 1)) (kk : Z l D cl b n R nL X k sl M (pc + 1) L (.double (FP.i2d x) :: st)) : Z l D cl b n R nL X k sl M pc L (.int x :: st) := by
  obtain ⟨p, e, s, m, args, below, meth, c, Q⟩ := X
  obtain ⟨hx, hb, hml, hown, hts, hK⟩ := C
  exact fun H locs ls hP hS hl => lv_i2d hx hb hd (kk H locs ls hP hS hl)
theorem z_d2i (C : Cx D cl tys cc nL own Ts X) {x : UInt64} (hd : decode cc pc = .ok (.d2i, 1)) (kk : Z l D cl b n R nL X k sl M (pc + 1) L (.int (FP.d2i x) :: st)) : Z l D cl b n R nL X k sl M pc L (.double x :: st) := by
  obtain ⟨p, e, s, m, args, below, meth, c, Q⟩ := X
  obtain ⟨hx, hb, hml, hown, hts, hK⟩ := C
  exact fun H locs ls hP hS hl => lv_d2i hx hb hd (kk H locs ls hP hS hl)
theorem z_lcmp (C : Cx D cl tys cc nL own Ts X) {x y : Int64} (hd : decode cc pc = .ok (.lcmp, 1)) (kk : Z l D cl b n R nL X k sl M (pc + 1) L (.int (lg_cmp x y) :: st)) : Z l D cl b n R nL X k sl M pc L (.long y :: .long x :: st) := by
  obtain ⟨p, e, s, m, args, below, meth, c, Q⟩ := X
  obtain ⟨hx, hb, hml, hown, hts, hK⟩ := C
  exact fun H locs ls hP hS hl => W.lcmp hx hb hd (kk H locs ls hP hS hl)
theorem z_dcmp (C : Cx D cl tys cc nL own Ts X) {x y : UInt64} {op : CmpOp} (hd : decode cc pc = .ok (.dcmp op, 1)) (kk : Z l D cl b n R nL X k sl M (pc + 1) L (.int (Op.cmpValue (FP.dcmp x y) op) :: st)) : Z l D cl b n R nL X k sl M pc L (.double y :: .double x :: st) := by
  obtain ⟨p, e, s, m, args, below, meth, c, Q⟩ := X
  obtain ⟨hx, hb, hml, hown, hts, hK⟩ := C
  exact fun H locs ls hP hS hl => lv_dcmp hx hb hd (kk H locs ls hP hS hl)
theorem z_dadd (C : Cx D cl tys cc nL own Ts X) {x y : UInt64} (hd : decode cc pc = .ok (.dadd, 1)) (hne : vf_n64 (FP.dadd x y)) (kk : Z l D cl b n R nL X k sl M (pc + 1) L (.double (FP.dadd x y) :: st)) : Z l D cl b n R nL X k sl M pc L (.double y :: .double x :: st) := by
  obtain ⟨p, e, s, m, args, below, meth, c, Q⟩ := X
  obtain ⟨hx, hb, hml, hown, hts, hK⟩ := C
  exact fun H locs ls hP hS hl => lv_dadd hx hb hd hne (kk H locs ls hP hS hl)
theorem z_dsub (C : Cx D cl tys cc nL own Ts X) {x y : UInt64} (hd : decode cc pc = .ok (.dsub, 1)) (hne : vf_n64 (FP.dsub x y)) (kk : Z l D cl b n R nL X k sl M (pc + 1) L (.double (FP.dsub x y) :: st)) : Z l D cl b n R nL X k sl M pc L (.double y :: .double x :: st) := by
  obtain ⟨p, e, s, m, args, below, meth, c, Q⟩ := X
  obtain ⟨hx, hb, hml, hown, hts, hK⟩ := C
  exact fun H locs ls hP hS hl => lv_dsub hx hb hd hne (kk H locs ls hP hS hl)
theorem z_dmul (C : Cx D cl tys cc nL own Ts X) {x y : UInt64} (hd : decode cc pc = .ok (.dmul, 1)) (hne : vf_n64 (FP.dmul x y)) (kk : Z l D cl b n R nL X k sl M (pc + 1) L (.double (FP.dmul x y) :: st)) : Z l D cl b n R nL X k sl M pc L (.double y :: .double x :: st) := by
  obtain ⟨p, e, s, m, args, below, meth, c, Q⟩ := X
  obtain ⟨hx, hb, hml, hown, hts, hK⟩ := C
  exact fun H locs ls hP hS hl => lv_dmul hx hb hd hne (kk H locs ls hP hS hl)
theorem z_ddiv (C : Cx D cl tys cc nL own Ts X) {x y : UInt64} (hd : decode cc pc = .ok (.ddiv, 1)) (hne : vf_n64 (FP.ddiv x y)) (kk : Z l D cl b n R nL X k sl M (pc + 1) L (.double (FP.ddiv x y) :: st)) : Z l D cl b n R nL X k sl M pc L (.double y :: .double x :: st) := by
  obtain ⟨p, e, s, m, args, below, meth, c, Q⟩ := X
  obtain ⟨hx, hb, hml, hown, hts, hK⟩ := C
  exact fun H locs ls hP hS hl => lv_ddiv hx hb hd hne (kk H locs ls hP hS hl)
theorem z_dup (C : Cx D cl tys cc nL own Ts X) {v : Value} (hd : decode cc pc = .ok (.dup, 1)) (hv : v.category = 1) (kk : Z l D cl b n R nL X k sl M (pc + 1) L (v :: v :: st)) : Z l D cl b n R nL X k sl M pc L (v :: st) := by
  obtain ⟨p, e, s, m, args, below, meth, c, Q⟩ := X
  obtain ⟨hx, hb, hml, hown, hts, hK⟩ := C
  exact fun H locs ls hP hS hl => lv_dup hx hb hd hv (kk H locs ls hP hS hl)
theorem z_pop (C : Cx D cl tys cc nL own Ts X) {v : Value} (hd : decode cc pc = .ok (.pop, 1)) (hv : v.category = 1) (kk : Z l D cl b n R nL X k sl M (pc + 1) L (st)) : Z l D cl b n R nL X k sl M pc L (v :: st) := by
  obtain ⟨p, e, s, m, args, below, meth, c, Q⟩ := X
  obtain ⟨hx, hb, hml, hown, hts, hK⟩ := C
  exact fun H locs ls hP hS hl => lv_pop hx hb hd hv (kk H locs ls hP hS hl)
theorem z_dup_x1 (C : Cx D cl tys cc nL own Ts X) {v w : Value} (hd : decode cc pc = .ok (.dup_x1, 1)) (hv : v.category = 1) (hw : w.category = 1) (kk : Z l D cl b n R nL X k sl M (pc + 1) L (v :: w :: v :: st)) : Z l D cl b n R nL X k sl M pc L (v :: w :: st) := by
  obtain ⟨p, e, s, m, args, below, meth, c, Q⟩ := X
  obtain ⟨hx, hb, hml, hown, hts, hK⟩ := C
  exact fun H locs ls hP hS hl => lv_dup_x1 hx hb hd hv hw (kk H locs ls hP hS hl)
theorem z_dup_x2 (C : Cx D cl tys cc nL own Ts X) {v w u : Value} (hd : decode cc pc = .ok (.dup_x2, 1)) (hv : v.category = 1) (hw : w.category = 1) (hu : u.category = 1) (kk : Z l D cl b n R nL X k sl M (pc + 1) L (v :: w :: u :: v :: st)) : Z l D cl b n R nL X k sl M pc L (v :: w :: u :: st) := by
  obtain ⟨p, e, s, m, args, below, meth, c, Q⟩ := X
  obtain ⟨hx, hb, hml, hown, hts, hK⟩ := C
  exact fun H locs ls hP hS hl => lv_dup_x2 hx hb hd hv hw hu (kk H locs ls hP hS hl)
theorem z_dup2 (C : Cx D cl tys cc nL own Ts X) {v w : Value} (hd : decode cc pc = .ok (.dup2, 1)) (hv : v.category = 1) (hw : w.category = 1) (kk : Z l D cl b n R nL X k sl M (pc + 1) L (v :: w :: v :: w :: st)) : Z l D cl b n R nL X k sl M pc L (v :: w :: st) := by
  obtain ⟨p, e, s, m, args, below, meth, c, Q⟩ := X
  obtain ⟨hx, hb, hml, hown, hts, hK⟩ := C
  exact fun H locs ls hP hS hl => lv_dup2_11 hx hb hd hv hw (kk H locs ls hP hS hl)
theorem z_pop2 (C : Cx D cl tys cc nL own Ts X) {v : Value} (hd : decode cc pc = .ok (.pop2, 1)) (hv : v.category = 2) (kk : Z l D cl b n R nL X k sl M (pc + 1) L (st)) : Z l D cl b n R nL X k sl M pc L (v :: st) := by
  obtain ⟨p, e, s, m, args, below, meth, c, Q⟩ := X
  obtain ⟨hx, hb, hml, hown, hts, hK⟩ := C
  exact fun H locs ls hP hS hl => lv_pop2_2 hx hb hd hv (kk H locs ls hP hS hl)
theorem z_iconst (C : Cx D cl tys cc nL own Ts X) {z : Int} {v : Int32} (hd : decode cc pc = .ok (.iconst z, 1)) (hv : Int32.ofInt z = v) (kk : Z l D cl b n R nL X k sl M (pc + 1) L (.int v :: st)) : Z l D cl b n R nL X k sl M pc L st := by
  obtain ⟨p, e, s, m, args, below, meth, c, Q⟩ := X
  obtain ⟨hx, hb, hml, hown, hts, hK⟩ := C
  exact fun H locs ls hP hS hl => lv_iconst hx hb hd hv (kk H locs ls hP hS hl)
theorem z_bipush (C : Cx D cl tys cc nL own Ts X) {z : Int} {v : Int32} (hd : decode cc pc = .ok (.bipush z, 2)) (hv : (Int8.ofInt z).toInt32 = v) (kk : Z l D cl b n R nL X k sl M (pc + 2) L (.int v :: st)) : Z l D cl b n R nL X k sl M pc L st := by
  obtain ⟨p, e, s, m, args, below, meth, c, Q⟩ := X
  obtain ⟨hx, hb, hml, hown, hts, hK⟩ := C
  exact fun H locs ls hP hS hl => lv_bipush hx hb hd hv (kk H locs ls hP hS hl)
theorem z_sipush (C : Cx D cl tys cc nL own Ts X) {z : Int} {v : Int32} (hd : decode cc pc = .ok (.sipush z, 3)) (hv : (Int16.ofInt z).toInt32 = v) (kk : Z l D cl b n R nL X k sl M (pc + 3) L (.int v :: st)) : Z l D cl b n R nL X k sl M pc L st := by
  obtain ⟨p, e, s, m, args, below, meth, c, Q⟩ := X
  obtain ⟨hx, hb, hml, hown, hts, hK⟩ := C
  exact fun H locs ls hP hS hl => lv_sipush hx hb hd hv (kk H locs ls hP hS hl)
theorem z_lconst (C : Cx D cl tys cc nL own Ts X) {z : Fin 2} {v : Int64} (hd : decode cc pc = .ok (.lconst z, 1)) (hv : Int64.ofInt z = v) (kk : Z l D cl b n R nL X k sl M (pc + 1) L (.long v :: st)) : Z l D cl b n R nL X k sl M pc L st := by
  obtain ⟨p, e, s, m, args, below, meth, c, Q⟩ := X
  obtain ⟨hx, hb, hml, hown, hts, hK⟩ := C
  exact fun H locs ls hP hS hl => lv_lconst hx hb hd hv (kk H locs ls hP hS hl)
theorem z_ldc (C : Cx D cl tys cc nL own Ts X) {index : Nat} {v : Int32} (hw : Cond.constant own index v ∈ Ts) (hd : decode cc pc = .ok (.ldc index, 2)) (kk : Z l D cl b n R nL X k sl M (pc + 2) L (.int v :: st)) : Z l D cl b n R nL X k sl M pc L st := by
  obtain ⟨p, e, s, m, args, below, meth, c, Q⟩ := X
  obtain ⟨hx, hb, hml, hown, hts, hK⟩ := C
  exact fun H locs ls hP hS hl => lv_ldc hx hb hown (hts _ hw) hd (kk H locs ls hP hS hl)
theorem z_ldc2 (C : Cx D cl tys cc nL own Ts X) {index : Nat} {v : Int64} (hw : Cond.constantLong own index v ∈ Ts) (hd : decode cc pc = .ok (.ldc2_w index, 3)) (kk : Z l D cl b n R nL X k sl M (pc + 3) L (.long v :: st)) : Z l D cl b n R nL X k sl M pc L st := by
  obtain ⟨p, e, s, m, args, below, meth, c, Q⟩ := X
  obtain ⟨hx, hb, hml, hown, hts, hK⟩ := C
  exact fun H locs ls hP hS hl => lv_ldc2 hx hb hown (hts _ hw) hd (kk H locs ls hP hS hl)
theorem z_ldc2d (C : Cx D cl tys cc nL own Ts X) {index : Nat} {v : UInt64} (hw : Cond.constantDouble own index v ∈ Ts) (hd : decode cc pc = .ok (.ldc2_w index, 3)) (kk : Z l D cl b n R nL X k sl M (pc + 3) L (.double v :: st)) : Z l D cl b n R nL X k sl M pc L st := by
  obtain ⟨p, e, s, m, args, below, meth, c, Q⟩ := X
  obtain ⟨hx, hb, hml, hown, hts, hK⟩ := C
  exact fun H locs ls hP hS hl => lv_ldc2d hx hb hown (hts _ hw) hd (kk H locs ls hP hS hl)
theorem z_iload_n (C : Cx D cl tys cc nL own Ts X) {j : Fin 4} {i : Nat} {x : Int32} (hd : decode cc pc = .ok (.iload_n j, 1)) (hi : (j : Nat) = i) (q : Nat) (hq : L[q]? = some (i, .int x)) (kk : Z l D cl b n R nL X k sl M (pc + 1) L (.int x :: st)) : Z l D cl b n R nL X k sl M pc L st := by
  obtain ⟨p, e, s, m, args, below, meth, c, Q⟩ := X
  obtain ⟨hx, hb, hml, hown, hts, hK⟩ := C
  exact fun H locs ls hP hS hl => lv_iload_n hx hb hd hi (lv_at hl q hq) (kk H locs ls hP hS hl)
theorem z_iload (C : Cx D cl tys cc nL own Ts X) {i : Nat} {x : Int32} (hd : decode cc pc = .ok (.iload i, 2)) (q : Nat) (hq : L[q]? = some (i, .int x)) (kk : Z l D cl b n R nL X k sl M (pc + 2) L (.int x :: st)) : Z l D cl b n R nL X k sl M pc L st := by
  obtain ⟨p, e, s, m, args, below, meth, c, Q⟩ := X
  obtain ⟨hx, hb, hml, hown, hts, hK⟩ := C
  exact fun H locs ls hP hS hl => lv_iload hx hb hd (lv_at hl q hq) (kk H locs ls hP hS hl)
theorem z_lload_n (C : Cx D cl tys cc nL own Ts X) {j : Fin 4} {i : Nat} {x : Int64} (hd : decode cc pc = .ok (.lload_n j, 1)) (hi : (j : Nat) = i) (q : Nat) (hq : L[q]? = some (i, .long x)) (kk : Z l D cl b n R nL X k sl M (pc + 1) L (.long x :: st)) : Z l D cl b n R nL X k sl M pc L st := by
  obtain ⟨p, e, s, m, args, below, meth, c, Q⟩ := X
  obtain ⟨hx, hb, hml, hown, hts, hK⟩ := C
  exact fun H locs ls hP hS hl => lv_lload_n hx hb hd hi (lv_at hl q hq) (kk H locs ls hP hS hl)
theorem z_lload (C : Cx D cl tys cc nL own Ts X) {i : Nat} {x : Int64} (hd : decode cc pc = .ok (.lload i, 2)) (q : Nat) (hq : L[q]? = some (i, .long x)) (kk : Z l D cl b n R nL X k sl M (pc + 2) L (.long x :: st)) : Z l D cl b n R nL X k sl M pc L st := by
  obtain ⟨p, e, s, m, args, below, meth, c, Q⟩ := X
  obtain ⟨hx, hb, hml, hown, hts, hK⟩ := C
  exact fun H locs ls hP hS hl => lv_lload hx hb hd (lv_at hl q hq) (kk H locs ls hP hS hl)
theorem z_aload_n (C : Cx D cl tys cc nL own Ts X) {j : Fin 4} {i : Nat} {x : Nat} (hd : decode cc pc = .ok (.aload_n j, 1)) (hi : (j : Nat) = i) (q : Nat) (hq : L[q]? = some (i, .ref x)) (kk : Z l D cl b n R nL X k sl M (pc + 1) L (.ref x :: st)) : Z l D cl b n R nL X k sl M pc L st := by
  obtain ⟨p, e, s, m, args, below, meth, c, Q⟩ := X
  obtain ⟨hx, hb, hml, hown, hts, hK⟩ := C
  exact fun H locs ls hP hS hl => lv_aload_n hx hb hd hi (lv_at hl q hq) (kk H locs ls hP hS hl)
theorem z_aload (C : Cx D cl tys cc nL own Ts X) {i : Nat} {x : Nat} (hd : decode cc pc = .ok (.aload i, 2)) (q : Nat) (hq : L[q]? = some (i, .ref x)) (kk : Z l D cl b n R nL X k sl M (pc + 2) L (.ref x :: st)) : Z l D cl b n R nL X k sl M pc L st := by
  obtain ⟨p, e, s, m, args, below, meth, c, Q⟩ := X
  obtain ⟨hx, hb, hml, hown, hts, hK⟩ := C
  exact fun H locs ls hP hS hl => lv_aload hx hb hd (lv_at hl q hq) (kk H locs ls hP hS hl)
theorem z_dload_n (C : Cx D cl tys cc nL own Ts X) {j : Fin 4} {i : Nat} {x : UInt64} (hd : decode cc pc = .ok (.dload_n j, 1)) (hi : (j : Nat) = i) (q : Nat) (hq : L[q]? = some (i, .double x)) (kk : Z l D cl b n R nL X k sl M (pc + 1) L (.double x :: st)) : Z l D cl b n R nL X k sl M pc L st := by
  obtain ⟨p, e, s, m, args, below, meth, c, Q⟩ := X
  obtain ⟨hx, hb, hml, hown, hts, hK⟩ := C
  exact fun H locs ls hP hS hl => lv_dload_n hx hb hd hi (lv_at hl q hq) (kk H locs ls hP hS hl)
theorem z_dload (C : Cx D cl tys cc nL own Ts X) {i : Nat} {x : UInt64} (hd : decode cc pc = .ok (.dload i, 2)) (q : Nat) (hq : L[q]? = some (i, .double x)) (kk : Z l D cl b n R nL X k sl M (pc + 2) L (.double x :: st)) : Z l D cl b n R nL X k sl M pc L st := by
  obtain ⟨p, e, s, m, args, below, meth, c, Q⟩ := X
  obtain ⟨hx, hb, hml, hown, hts, hK⟩ := C
  exact fun H locs ls hP hS hl => lv_dload hx hb hd (lv_at hl q hq) (kk H locs ls hP hS hl)
theorem z_istore_n (C : Cx D cl tys cc nL own Ts X) {j : Fin 4} {i : Nat} {x : Int32} (hd : decode cc pc = .ok (.istore_n j, 1)) (hi : (j : Nat) = i) (hn : i < nL) (L' : List (Nat × Value)) (hL : (i, Value.int x) :: L.filter (fun q => !(q.1 == i) && !(q.1 + 1 == i && q.2.category == 2)) = L') (kk : Z l D cl b n R nL X k sl M (pc + 1) L' st) : Z l D cl b n R nL X k sl M pc L (Value.int x :: st) := by
  obtain ⟨p, e, s, m, args, below, meth, c, Q⟩ := X
  obtain ⟨hx, hb, hml, hown, hts, hK⟩ := C
  exact fun H locs ls hP hS hl => lv_istore_n hx hb hd hi hl hn hL (fun ls' hl' => kk H locs ls' hP hS hl')
theorem z_istore (C : Cx D cl tys cc nL own Ts X) {i : Nat} {x : Int32} (hd : decode cc pc = .ok (.istore i, 2)) (hn : i < nL) (L' : List (Nat × Value)) (hL : (i, Value.int x) :: L.filter (fun q => !(q.1 == i) && !(q.1 + 1 == i && q.2.category == 2)) = L') (kk : Z l D cl b n R nL X k sl M (pc + 2) L' st) : Z l D cl b n R nL X k sl M pc L (Value.int x :: st) := by
  obtain ⟨p, e, s, m, args, below, meth, c, Q⟩ := X
  obtain ⟨hx, hb, hml, hown, hts, hK⟩ := C
  exact fun H locs ls hP hS hl => lv_istore hx hb hd hl hn hL (fun ls' hl' => kk H locs ls' hP hS hl')
theorem z_astore_n (C : Cx D cl tys cc nL own Ts X) {j : Fin 4} {i : Nat} {x : Nat} (hd : decode cc pc = .ok (.astore_n j, 1)) (hi : (j : Nat) = i) (hn : i < nL) (L' : List (Nat × Value)) (hL : (i, Value.ref x) :: L.filter (fun q => !(q.1 == i) && !(q.1 + 1 == i && q.2.category == 2)) = L') (kk : Z l D cl b n R nL X k sl M (pc + 1) L' st) : Z l D cl b n R nL X k sl M pc L (Value.ref x :: st) := by
  obtain ⟨p, e, s, m, args, below, meth, c, Q⟩ := X
  obtain ⟨hx, hb, hml, hown, hts, hK⟩ := C
  exact fun H locs ls hP hS hl => lv_astore_n hx hb hd hi hl hn hL (fun ls' hl' => kk H locs ls' hP hS hl')
theorem z_astore (C : Cx D cl tys cc nL own Ts X) {i : Nat} {x : Nat} (hd : decode cc pc = .ok (.astore i, 2)) (hn : i < nL) (L' : List (Nat × Value)) (hL : (i, Value.ref x) :: L.filter (fun q => !(q.1 == i) && !(q.1 + 1 == i && q.2.category == 2)) = L') (kk : Z l D cl b n R nL X k sl M (pc + 2) L' st) : Z l D cl b n R nL X k sl M pc L (Value.ref x :: st) := by
  obtain ⟨p, e, s, m, args, below, meth, c, Q⟩ := X
  obtain ⟨hx, hb, hml, hown, hts, hK⟩ := C
  exact fun H locs ls hP hS hl => lv_astore hx hb hd hl hn hL (fun ls' hl' => kk H locs ls' hP hS hl')
theorem z_lstore_n (C : Cx D cl tys cc nL own Ts X) {j : Fin 4} {i : Nat} {x : Int64} (hd : decode cc pc = .ok (.lstore_n j, 1)) (hi : (j : Nat) = i) (hn : i + 1 < nL) (L' : List (Nat × Value)) (hL : (i, Value.long x) :: L.filter (fun q => !(q.1 == i) && (!(q.1 == i + 1) && !(q.1 + 1 == i && q.2.category == 2))) = L') (kk : Z l D cl b n R nL X k sl M (pc + 1) L' st) : Z l D cl b n R nL X k sl M pc L (Value.long x :: st) := by
  obtain ⟨p, e, s, m, args, below, meth, c, Q⟩ := X
  obtain ⟨hx, hb, hml, hown, hts, hK⟩ := C
  exact fun H locs ls hP hS hl => lv_lstore_n hx hb hd hi hl hn hL (fun ls' hl' => kk H locs ls' hP hS hl')
theorem z_lstore (C : Cx D cl tys cc nL own Ts X) {i : Nat} {x : Int64} (hd : decode cc pc = .ok (.lstore i, 2)) (hn : i + 1 < nL) (L' : List (Nat × Value)) (hL : (i, Value.long x) :: L.filter (fun q => !(q.1 == i) && (!(q.1 == i + 1) && !(q.1 + 1 == i && q.2.category == 2))) = L') (kk : Z l D cl b n R nL X k sl M (pc + 2) L' st) : Z l D cl b n R nL X k sl M pc L (Value.long x :: st) := by
  obtain ⟨p, e, s, m, args, below, meth, c, Q⟩ := X
  obtain ⟨hx, hb, hml, hown, hts, hK⟩ := C
  exact fun H locs ls hP hS hl => lv_lstore hx hb hd hl hn hL (fun ls' hl' => kk H locs ls' hP hS hl')
theorem z_dstore_n (C : Cx D cl tys cc nL own Ts X) {j : Fin 4} {i : Nat} {x : UInt64} (hd : decode cc pc = .ok (.dstore_n j, 1)) (hi : (j : Nat) = i) (hn : i + 1 < nL) (L' : List (Nat × Value)) (hL : (i, Value.double x) :: L.filter (fun q => !(q.1 == i) && (!(q.1 == i + 1) && !(q.1 + 1 == i && q.2.category == 2))) = L') (kk : Z l D cl b n R nL X k sl M (pc + 1) L' st) : Z l D cl b n R nL X k sl M pc L (Value.double x :: st) := by
  obtain ⟨p, e, s, m, args, below, meth, c, Q⟩ := X
  obtain ⟨hx, hb, hml, hown, hts, hK⟩ := C
  exact fun H locs ls hP hS hl => lv_dstore_n hx hb hd hi hl hn hL (fun ls' hl' => kk H locs ls' hP hS hl')
theorem z_dstore (C : Cx D cl tys cc nL own Ts X) {i : Nat} {x : UInt64} (hd : decode cc pc = .ok (.dstore i, 2)) (hn : i + 1 < nL) (L' : List (Nat × Value)) (hL : (i, Value.double x) :: L.filter (fun q => !(q.1 == i) && (!(q.1 == i + 1) && !(q.1 + 1 == i && q.2.category == 2))) = L') (kk : Z l D cl b n R nL X k sl M (pc + 2) L' st) : Z l D cl b n R nL X k sl M pc L (Value.double x :: st) := by
  obtain ⟨p, e, s, m, args, below, meth, c, Q⟩ := X
  obtain ⟨hx, hb, hml, hown, hts, hK⟩ := C
  exact fun H locs ls hP hS hl => lv_dstore hx hb hd hl hn hL (fun ls' hl' => kk H locs ls' hP hS hl')
theorem z_iinc (C : Cx D cl tys cc nL own Ts X) {i : Nat} {z : Int} {x v : Int32} (hd : decode cc pc = .ok (.iinc i z, 3)) (q : Nat) (hq : L[q]? = some (i, .int x)) (hv : x + Int32.ofInt z = v) (hn : i < nL) (L' : List (Nat × Value)) (hL : (i, Value.int v) :: L.filter (fun q => !(q.1 == i) && !(q.1 + 1 == i && q.2.category == 2)) = L') (kk : Z l D cl b n R nL X k sl M (pc + 3) L' st) : Z l D cl b n R nL X k sl M pc L st := by
  obtain ⟨p, e, s, m, args, below, meth, c, Q⟩ := X
  obtain ⟨hx, hb, hml, hown, hts, hK⟩ := C
  exact fun H locs ls hP hS hl => lv_iinc hx hb hd hl hq hv hn hL (fun ls' hl' => kk H locs ls' hP hS hl')
theorem z_if_eq (C : Cx D cl tys cc nL own Ts X) {x : Int32} {off : Int} (tgt : Nat) (hd : decode cc pc = .ok (.ifCond .eq off, 3)) (ht : (pc : Int) + off = (tgt : Int)) (kt : x = 0 → Z l D cl b n R nL X k sl M tgt L st) (kf : ¬ (x = 0) → Z l D cl b n R nL X k sl M (pc + 3) L st) : Z l D cl b n R nL X k sl M pc L (.int x :: st) := by
  obtain ⟨p, e, s, m, args, below, meth, c, Q⟩ := X
  obtain ⟨hx, hb, hml, hown, hts, hK⟩ := C
  exact fun H locs ls hP hS hl => lv_if_eq hx hb hd ht (fun h => kt h H locs ls hP hS hl) (fun h => kf h H locs ls hP hS hl)
theorem z_if_ne (C : Cx D cl tys cc nL own Ts X) {x : Int32} {off : Int} (tgt : Nat) (hd : decode cc pc = .ok (.ifCond .ne off, 3)) (ht : (pc : Int) + off = (tgt : Int)) (kt : ¬ x = 0 → Z l D cl b n R nL X k sl M tgt L st) (kf : x = 0 → Z l D cl b n R nL X k sl M (pc + 3) L st) : Z l D cl b n R nL X k sl M pc L (.int x :: st) := by
  obtain ⟨p, e, s, m, args, below, meth, c, Q⟩ := X
  obtain ⟨hx, hb, hml, hown, hts, hK⟩ := C
  exact fun H locs ls hP hS hl => lv_if_ne hx hb hd ht (fun h => kt h H locs ls hP hS hl) (fun h => kf h H locs ls hP hS hl)
theorem z_if_lt (C : Cx D cl tys cc nL own Ts X) {x : Int32} {off : Int} (tgt : Nat) (hd : decode cc pc = .ok (.ifCond .lt off, 3)) (ht : (pc : Int) + off = (tgt : Int)) (kt : x < 0 → Z l D cl b n R nL X k sl M tgt L st) (kf : ¬ (x < 0) → Z l D cl b n R nL X k sl M (pc + 3) L st) : Z l D cl b n R nL X k sl M pc L (.int x :: st) := by
  obtain ⟨p, e, s, m, args, below, meth, c, Q⟩ := X
  obtain ⟨hx, hb, hml, hown, hts, hK⟩ := C
  exact fun H locs ls hP hS hl => lv_if_lt hx hb hd ht (fun h => kt h H locs ls hP hS hl) (fun h => kf h H locs ls hP hS hl)
theorem z_if_ge (C : Cx D cl tys cc nL own Ts X) {x : Int32} {off : Int} (tgt : Nat) (hd : decode cc pc = .ok (.ifCond .ge off, 3)) (ht : (pc : Int) + off = (tgt : Int)) (kt : 0 ≤ x → Z l D cl b n R nL X k sl M tgt L st) (kf : ¬ (0 ≤ x) → Z l D cl b n R nL X k sl M (pc + 3) L st) : Z l D cl b n R nL X k sl M pc L (.int x :: st) := by
  obtain ⟨p, e, s, m, args, below, meth, c, Q⟩ := X
  obtain ⟨hx, hb, hml, hown, hts, hK⟩ := C
  exact fun H locs ls hP hS hl => lv_if_ge hx hb hd ht (fun h => kt h H locs ls hP hS hl) (fun h => kf h H locs ls hP hS hl)
theorem z_if_gt (C : Cx D cl tys cc nL own Ts X) {x : Int32} {off : Int} (tgt : Nat) (hd : decode cc pc = .ok (.ifCond .gt off, 3)) (ht : (pc : Int) + off = (tgt : Int)) (kt : 0 < x → Z l D cl b n R nL X k sl M tgt L st) (kf : ¬ (0 < x) → Z l D cl b n R nL X k sl M (pc + 3) L st) : Z l D cl b n R nL X k sl M pc L (.int x :: st) := by
  obtain ⟨p, e, s, m, args, below, meth, c, Q⟩ := X
  obtain ⟨hx, hb, hml, hown, hts, hK⟩ := C
  exact fun H locs ls hP hS hl => lv_if_gt hx hb hd ht (fun h => kt h H locs ls hP hS hl) (fun h => kf h H locs ls hP hS hl)
theorem z_if_le (C : Cx D cl tys cc nL own Ts X) {x : Int32} {off : Int} (tgt : Nat) (hd : decode cc pc = .ok (.ifCond .le off, 3)) (ht : (pc : Int) + off = (tgt : Int)) (kt : x ≤ 0 → Z l D cl b n R nL X k sl M tgt L st) (kf : ¬ (x ≤ 0) → Z l D cl b n R nL X k sl M (pc + 3) L st) : Z l D cl b n R nL X k sl M pc L (.int x :: st) := by
  obtain ⟨p, e, s, m, args, below, meth, c, Q⟩ := X
  obtain ⟨hx, hb, hml, hown, hts, hK⟩ := C
  exact fun H locs ls hP hS hl => lv_if_le hx hb hd ht (fun h => kt h H locs ls hP hS hl) (fun h => kf h H locs ls hP hS hl)
theorem z_icmp_eq (C : Cx D cl tys cc nL own Ts X) {x y : Int32} {off : Int} (tgt : Nat) (hd : decode cc pc = .ok (.if_icmp .eq off, 3)) (ht : (pc : Int) + off = (tgt : Int)) (kt : x = y → Z l D cl b n R nL X k sl M tgt L st) (kf : ¬ (x = y) → Z l D cl b n R nL X k sl M (pc + 3) L st) : Z l D cl b n R nL X k sl M pc L (.int y :: .int x :: st) := by
  obtain ⟨p, e, s, m, args, below, meth, c, Q⟩ := X
  obtain ⟨hx, hb, hml, hown, hts, hK⟩ := C
  exact fun H locs ls hP hS hl => lv_icmp_eq hx hb hd ht (fun h => kt h H locs ls hP hS hl) (fun h => kf h H locs ls hP hS hl)
theorem z_icmp_ne (C : Cx D cl tys cc nL own Ts X) {x y : Int32} {off : Int} (tgt : Nat) (hd : decode cc pc = .ok (.if_icmp .ne off, 3)) (ht : (pc : Int) + off = (tgt : Int)) (kt : ¬ x = y → Z l D cl b n R nL X k sl M tgt L st) (kf : x = y → Z l D cl b n R nL X k sl M (pc + 3) L st) : Z l D cl b n R nL X k sl M pc L (.int y :: .int x :: st) := by
  obtain ⟨p, e, s, m, args, below, meth, c, Q⟩ := X
  obtain ⟨hx, hb, hml, hown, hts, hK⟩ := C
  exact fun H locs ls hP hS hl => lv_icmp_ne hx hb hd ht (fun h => kt h H locs ls hP hS hl) (fun h => kf h H locs ls hP hS hl)
theorem z_icmp_lt (C : Cx D cl tys cc nL own Ts X) {x y : Int32} {off : Int} (tgt : Nat) (hd : decode cc pc = .ok (.if_icmp .lt off, 3)) (ht : (pc : Int) + off = (tgt : Int)) (kt : x < y → Z l D cl b n R nL X k sl M tgt L st) (kf : ¬ (x < y) → Z l D cl b n R nL X k sl M (pc + 3) L st) : Z l D cl b n R nL X k sl M pc L (.int y :: .int x :: st) := by
  obtain ⟨p, e, s, m, args, below, meth, c, Q⟩ := X
  obtain ⟨hx, hb, hml, hown, hts, hK⟩ := C
  exact fun H locs ls hP hS hl => lv_icmp_lt hx hb hd ht (fun h => kt h H locs ls hP hS hl) (fun h => kf h H locs ls hP hS hl)
theorem z_icmp_ge (C : Cx D cl tys cc nL own Ts X) {x y : Int32} {off : Int} (tgt : Nat) (hd : decode cc pc = .ok (.if_icmp .ge off, 3)) (ht : (pc : Int) + off = (tgt : Int)) (kt : y ≤ x → Z l D cl b n R nL X k sl M tgt L st) (kf : ¬ (y ≤ x) → Z l D cl b n R nL X k sl M (pc + 3) L st) : Z l D cl b n R nL X k sl M pc L (.int y :: .int x :: st) := by
  obtain ⟨p, e, s, m, args, below, meth, c, Q⟩ := X
  obtain ⟨hx, hb, hml, hown, hts, hK⟩ := C
  exact fun H locs ls hP hS hl => lv_icmp_ge hx hb hd ht (fun h => kt h H locs ls hP hS hl) (fun h => kf h H locs ls hP hS hl)
theorem z_icmp_gt (C : Cx D cl tys cc nL own Ts X) {x y : Int32} {off : Int} (tgt : Nat) (hd : decode cc pc = .ok (.if_icmp .gt off, 3)) (ht : (pc : Int) + off = (tgt : Int)) (kt : y < x → Z l D cl b n R nL X k sl M tgt L st) (kf : ¬ (y < x) → Z l D cl b n R nL X k sl M (pc + 3) L st) : Z l D cl b n R nL X k sl M pc L (.int y :: .int x :: st) := by
  obtain ⟨p, e, s, m, args, below, meth, c, Q⟩ := X
  obtain ⟨hx, hb, hml, hown, hts, hK⟩ := C
  exact fun H locs ls hP hS hl => lv_icmp_gt hx hb hd ht (fun h => kt h H locs ls hP hS hl) (fun h => kf h H locs ls hP hS hl)
theorem z_icmp_le (C : Cx D cl tys cc nL own Ts X) {x y : Int32} {off : Int} (tgt : Nat) (hd : decode cc pc = .ok (.if_icmp .le off, 3)) (ht : (pc : Int) + off = (tgt : Int)) (kt : x ≤ y → Z l D cl b n R nL X k sl M tgt L st) (kf : ¬ (x ≤ y) → Z l D cl b n R nL X k sl M (pc + 3) L st) : Z l D cl b n R nL X k sl M pc L (.int y :: .int x :: st) := by
  obtain ⟨p, e, s, m, args, below, meth, c, Q⟩ := X
  obtain ⟨hx, hb, hml, hown, hts, hK⟩ := C
  exact fun H locs ls hP hS hl => lv_icmp_le hx hb hd ht (fun h => kt h H locs ls hP hS hl) (fun h => kf h H locs ls hP hS hl)
theorem z_goto (C : Cx D cl tys cc nL own Ts X) {off : Int} (tgt : Nat) (hd : decode cc pc = .ok (.goto off, 3)) (ht : (pc : Int) + off = (tgt : Int)) (kk : Z l D cl b n R nL X k sl M tgt L st) : Z l D cl b n R nL X k sl M pc L st := by
  obtain ⟨p, e, s, m, args, below, meth, c, Q⟩ := X
  obtain ⟨hx, hb, hml, hown, hts, hK⟩ := C
  exact fun H locs ls hP hS hl => lv_goto hx hb hd ht (kk H locs ls hP hS hl)
theorem z_tableIn (C : Cx D cl tys cc nL own Ts X) {dflt lo hi : Int} {offs : Array Int} {len : Nat} {x : Int32} {off : Int} (tgt : Nat) (hd : decode cc pc = .ok (.tableswitch dflt lo hi offs, len)) (h1 : ¬ x.toInt < lo) (h2 : ¬ hi < x.toInt) (ho : offs[(x.toInt - lo).toNat]? = some off) (ht : (pc : Int) + off = (tgt : Int)) (kk : Z l D cl b n R nL X k sl M tgt L st) : Z l D cl b n R nL X k sl M pc L (.int x :: st) := by
  obtain ⟨p, e, s, m, args, below, meth, c, Q⟩ := X
  obtain ⟨hx, hb, hml, hown, hts, hK⟩ := C
  exact fun H locs ls hP hS hl => lv_tableIn hx hb hd h1 h2 ho ht (kk H locs ls hP hS hl)
theorem z_tableOut (C : Cx D cl tys cc nL own Ts X) {dflt lo hi : Int} {offs : Array Int} {len : Nat} {x : Int32} (tgt : Nat) (hd : decode cc pc = .ok (.tableswitch dflt lo hi offs, len)) (h : x.toInt < lo ∨ hi < x.toInt) (ht : (pc : Int) + dflt = (tgt : Int)) (kk : Z l D cl b n R nL X k sl M tgt L st) : Z l D cl b n R nL X k sl M pc L (.int x :: st) := by
  obtain ⟨p, e, s, m, args, below, meth, c, Q⟩ := X
  obtain ⟨hx, hb, hml, hown, hts, hK⟩ := C
  exact fun H locs ls hP hS hl => lv_tableOut hx hb hd h ht (kk H locs ls hP hS hl)
theorem z_lookup (C : Cx D cl tys cc nL own Ts X) {dflt : Int} {ps : Array (Int × Int)} {len : Nat} {x : Int32} {off : Int} (tgt : Nat) (hd : decode cc pc = .ok (.lookupswitch dflt ps, len)) (hp : (ps.toList.zip (ps.toList.drop 1)).all (fun (a, next) => a.1 < next.1) = true) (ho : Op.lookupswitch.offset ps.toList dflt x.toInt = off) (ht : (pc : Int) + off = (tgt : Int)) (kk : Z l D cl b n R nL X k sl M tgt L st) : Z l D cl b n R nL X k sl M pc L (.int x :: st) := by
  obtain ⟨p, e, s, m, args, below, meth, c, Q⟩ := X
  obtain ⟨hx, hb, hml, hown, hts, hK⟩ := C
  exact fun H locs ls hP hS hl => lv_lookup hx hb hd hp ho ht (kk H locs ls hP hS hl)
theorem z_get (C : Cx D cl tys cc nL own Ts X) {C0 : String} {T : u_T} {N ci index : Nat} {a o : Nat} {fs : List Value} {v : Value} (hd : decode cc pc = .ok (.getfield index, 3)) (hin : ∀ w ∈ u_ws C0 T N, w ∈ Ts) (hc : cl[ci]? = some (C0, T, N)) (q : Nat) (hk : q < N) (hw : Cond.fieldLink own index (T q).1 (T q).2.1 (T q).2.2.1 ∈ Ts) (ho : o < n) (ha : b + o = a) (hM : M o = .inr (ci, fs)) (hv : fs[q]? = some v) (kk : Z l D cl b n R nL X k sl M (pc + 3) L (v :: st)) : Z l D cl b n R nL X k sl M pc L (.ref a :: st) := by
  obtain ⟨p, e, s, m, args, below, meth, c, Q⟩ := X
  obtain ⟨hx, hb, hml, hown, hts, hK⟩ := C
  exact fun H locs ls hP hS hl => va_get hx hb hts hin hown hK hP o (mw_at ho ha hM) hc q hk (hts _ hw) (fun _ h9 => h9) hv hd (kk H locs ls hP hS hl)
theorem z_put (C : Cx D cl tys cc nL own Ts X) {C0 : String} {T : u_T} {N ci index : Nat} {a o : Nat} {fs : List Value} {v : Value} {ty : FieldType} {ty0 : Nat → FieldType} (hd : decode cc pc = .ok (.putfield index, 3)) (hin : ∀ w ∈ u_ws C0 T N, w ∈ Ts) (hty : ∀ j, j < N → parseFieldDescriptor (T j).2.2.1 = some (ty0 j)) (hnm : ∀ x, x < N → ∀ y, y < N → x ≠ y → (T x).2.1 ≠ (T y).2.1) (hc : cl[ci]? = some (C0, T, N)) (q : Nat) (hk : q < N) (hw : Cond.fieldLink own index (T q).1 (T q).2.1 (T q).2.2.1 ∈ Ts) (hfin : (T q).2.2.2 = false) (hpt : parseFieldDescriptor (T q).2.2.1 = some ty) (hnv : narrow ty v = v) (hfit : fits ty v = true) (ho : o < n) (ha : b + o = a) (hM : M o = .inr (ci, fs)) (hl0 : q < fs.length) (kk : Z l D cl b n R nL X k sl (va_up M o (.inr (ci, fs.set q v))) (pc + 3) L st) : Z l D cl b n R nL X k sl M pc L (v :: .ref a :: st) := by
  obtain ⟨p, e, s, m, args, below, meth, c, Q⟩ := X
  obtain ⟨hx, hb, hml, hown, hts, hK⟩ := C
  exact fun H locs ls hP hS hl => va_put hx hb hts hin ty0 hty hnm hown hK hP mA_D hS o (mw_at ho ha hM) hc q hk (hts _ hw) (fun _ h9 => h9) hfin hpt hnv hfit hl0 hd (fun H1 locs1 hP1 _ hS1 => kk H1 locs1 ls (by rw [mw_setA ho ha] at hP1; exact hP1) hS1 hl)
theorem z_iald (C : Cx D cl tys cc nL own Ts X) {cA : ClassId} {N a o : Nat} {f : Nat → Int32} {i : Int32} (hd : decode cc pc = .ok (.iaload, 1)) (t0 : Nat) (ht : tys[t0]? = some (cA, .int)) (ho : o < n) (ha : b + o = a) (hM : M o = .inl (cA, N, .inl f)) (hin : vp_in i N) (kk : Z l D cl b n R nL X k sl M (pc + 1) L (.int (f i.toNatClampNeg) :: st)) : Z l D cl b n R nL X k sl M pc L (.int i :: .ref a :: st) := by
  obtain ⟨p, e, s, m, args, below, meth, c, Q⟩ := X
  obtain ⟨hx, hb, hml, hown, hts, hK⟩ := C
  exact fun H locs ls hP hS hl => va_iald hx hb hK hP o t0 (mw_at ho ha hM) ht hin hd (kk H locs ls hP hS hl)
theorem z_lald (C : Cx D cl tys cc nL own Ts X) {cA : ClassId} {N a o : Nat} {f : Nat → Int64} {i : Int32} (hd : decode cc pc = .ok (.laload, 1)) (t0 : Nat) (ht : tys[t0]? = some (cA, .long)) (ho : o < n) (ha : b + o = a) (hM : M o = .inl (cA, N, .inr (.inl f))) (hin : vp_in i N) (kk : Z l D cl b n R nL X k sl M (pc + 1) L (.long (f i.toNatClampNeg) :: st)) : Z l D cl b n R nL X k sl M pc L (.int i :: .ref a :: st) := by
  obtain ⟨p, e, s, m, args, below, meth, c, Q⟩ := X
  obtain ⟨hx, hb, hml, hown, hts, hK⟩ := C
  exact fun H locs ls hP hS hl => va_lald hx hb hK hP o t0 (mw_at ho ha hM) ht hin hd (kk H locs ls hP hS hl)
theorem z_dald (C : Cx D cl tys cc nL own Ts X) {cA : ClassId} {N a o : Nat} {f : Nat → UInt64} {i : Int32} (hd : decode cc pc = .ok (.daload, 1)) (t0 : Nat) (ht : tys[t0]? = some (cA, .double)) (ho : o < n) (ha : b + o = a) (hM : M o = .inl (cA, N, .inr (.inr (.inr (.inl f))))) (hin : vp_in i N) (kk : Z l D cl b n R nL X k sl M (pc + 1) L (.double (f i.toNatClampNeg) :: st)) : Z l D cl b n R nL X k sl M pc L (.int i :: .ref a :: st) := by
  obtain ⟨p, e, s, m, args, below, meth, c, Q⟩ := X
  obtain ⟨hx, hb, hml, hown, hts, hK⟩ := C
  exact fun H locs ls hP hS hl => va_dald hx hb hK hP o t0 (mw_at ho ha hM) ht hin hd (kk H locs ls hP hS hl)
theorem z_aald (C : Cx D cl tys cc nL own Ts X) {cA : ClassId} {N a o r : Nat} {f : Nat → Option Nat} {i : Int32} {C0 : String} (hd : decode cc pc = .ok (.aaload, 1)) (t0 : Nat) (ht : tys[t0]? = some (cA, .object C0)) (ho : o < n) (ha : b + o = a) (hM : M o = .inl (cA, N, .inr (.inr (.inr (.inr f))))) (hin : vp_in i N) (hr : f i.toNatClampNeg = some r) (kk : Z l D cl b n R nL X k sl M (pc + 1) L (.ref r :: st)) : Z l D cl b n R nL X k sl M pc L (.int i :: .ref a :: st) := by
  obtain ⟨p, e, s, m, args, below, meth, c, Q⟩ := X
  obtain ⟨hx, hb, hml, hown, hts, hK⟩ := C
  exact fun H locs ls hP hS hl => va_aldq hx hb hK hP o t0 (mw_at ho ha hM) ht hin hd (by rw [hr]; exact kk H locs ls hP hS hl)
theorem z_iast (C : Cx D cl tys cc nL own Ts X) {cA : ClassId} {N a o : Nat} {f : Nat → Int32} {i : Int32} {x : Int32} (hd : decode cc pc = .ok (.iastore, 1)) (t0 : Nat) (ht : tys[t0]? = some (cA, .int)) (ho : o < n) (ha : b + o = a) (hM : M o = .inl (cA, N, .inl f)) (hin : vp_in i N) (kk : Z l D cl b n R nL X k sl (va_up M o (.inl (cA, N, .inl (upd f i.toNatClampNeg x)))) (pc + 1) L st) : Z l D cl b n R nL X k sl M pc L (.int x :: .int i :: .ref a :: st) := by
  obtain ⟨p, e, s, m, args, below, meth, c, Q⟩ := X
  obtain ⟨hx, hb, hml, hown, hts, hK⟩ := C
  exact fun H locs ls hP hS hl => va_iast hx hb hK hP mA_D hS o t0 (mw_at ho ha hM) ht hin hd (fun H1 locs1 hP1 _ hS1 => kk H1 locs1 ls (by rw [mw_setA ho ha] at hP1; exact hP1) hS1 hl)
theorem z_last (C : Cx D cl tys cc nL own Ts X) {cA : ClassId} {N a o : Nat} {f : Nat → Int64} {i : Int32} {x : Int64} (hd : decode cc pc = .ok (.lastore, 1)) (t0 : Nat) (ht : tys[t0]? = some (cA, .long)) (ho : o < n) (ha : b + o = a) (hM : M o = .inl (cA, N, .inr (.inl f))) (hin : vp_in i N) (kk : Z l D cl b n R nL X k sl (va_up M o (.inl (cA, N, .inr (.inl (vp_updL f i.toNatClampNeg x))))) (pc + 1) L st) : Z l D cl b n R nL X k sl M pc L (.long x :: .int i :: .ref a :: st) := by
  obtain ⟨p, e, s, m, args, below, meth, c, Q⟩ := X
  obtain ⟨hx, hb, hml, hown, hts, hK⟩ := C
  exact fun H locs ls hP hS hl => va_last hx hb hK hP mA_D hS o t0 (mw_at ho ha hM) ht hin hd (fun H1 locs1 hP1 _ hS1 => kk H1 locs1 ls (by rw [mw_setA ho ha] at hP1; exact hP1) hS1 hl)
theorem z_alen (C : Cx D cl tys cc nL own Ts X) {cA : ClassId} {a o : Nat} {x : vp_A} {ty : FieldType} {v : Int32} (hd : decode cc pc = .ok (.arraylength, 1)) (t0 : Nat) (ht : tys[t0]? = some (cA, ty)) (ho : o < n) (ha : b + o = a) (hM : M o = .inl (cA, x)) (hv : Int32.ofNat x.1 = v) (kk : Z l D cl b n R nL X k sl M (pc + 1) L (.int v :: st)) : Z l D cl b n R nL X k sl M pc L (.ref a :: st) := by
  obtain ⟨p, e, s, m, args, below, meth, c, Q⟩ := X
  obtain ⟨hx, hb, hml, hown, hts, hK⟩ := C
  exact fun H locs ls hP hS hl => va_alen hx hb hK hP o t0 (mw_at ho ha hM) ht hv hd (kk H locs ls hP hS hl)
end ZROWS
end
section
/-! Contracts of a block's methods, built out of a walk in Z; and the calls of such methods. -/
section BM
variable {l : Launch} {y : MethodName} {ws ws' : List Cond} {rm : Room} {cc : ByteArray} {maxL : Nat} {D : va_G} {cl : List vw_C} {tys : List (ClassId × FieldType)} {b n sz : Nat} {M : Nat → va_E} {av : List Value} {own : String} {L : List (Nat × Value)}
theorem bm_i {post : Int32 → (Nat → va_E) → Prop} (hy : plainName y.cls = true) (hw : ws = Cond.code y cc maxL (some .int) :: ws') (hown : y.cls = own) (hlen : (lg_sl av).length ≤ maxL) (hL : lv_args 0 av = L)
    (body : ∀ X : Zx, Cx D cl tys cc maxL own ws X → (∀ (v : Int32) (M' : Nat → va_E) (pc : Nat) (L' : List (Nat × Value)), decode cc pc = .ok (.ireturn, 1) → post v M' → Z l D cl b n rm maxL X 0 0 M' pc L' [.int v]) → Z l D cl b n rm maxL X 0 0 M 0 L []) :
    Met l y ws rm (mPc D cl tys b n sz M av) (va_Qi post (mB D cl tys b n) (mA b n sz)) 0 0 (mA b n sz) := by
  refine Met.ofW (cc := cc) (maxL := maxL) (ret := some .int) hy hw ?_
  intro p e s m args below meth c s₁ B hml hv
  obtain ⟨rfl, hsz, hP, hK⟩ := hv
  have hx := B.exec
  have hb := B.bytes
  have hr := B.returns
  have hts := atoms_spec (ws := ws) B.pre
  have ho : s.vm.findClass own = some m.cls := by rw [← hown]; exact findClass_of_methodNamed B.named
  have hlocks := B.notSynchronized
  subst hsz
  have hl := lv_entry av (n := maxL) hlen
  rw [lg_entry_eq]
  rw [hL] at hl
  refine body (p, e, s, m, av.toArray, below, meth, c, MQ below (va_Qi post (mB D cl tys b n) (mA b n s.heap.size)) av.toArray s 0 0 (mA b n s.heap.size)) ⟨hx, hb, hml, ho, hts, hK⟩ ?_ s.heap [] _ hP va_S.rf hl
  intro v M' pc L' hd hp H locs ls hP' hS' hl'
  exact W.iret (v := v) hx hb hr (fun t ht hW => ⟨⟨v, M', rfl, hp, by rw [ht]; exact hP', va_K.moved hW.alike hK⟩, hS'.F ht⟩) hS'.2.2 hd hlocks
theorem bm_z {post : Int32 → (Nat → va_E) → Prop} (hy : plainName y.cls = true) (hw : ws = Cond.code y cc maxL (some .boolean) :: ws') (hown : y.cls = own) (hlen : (lg_sl av).length ≤ maxL) (hL : lv_args 0 av = L)
    (body : ∀ X : Zx, Cx D cl tys cc maxL own ws X → (∀ (v : Int32) (M' : Nat → va_E) (pc : Nat) (L' : List (Nat × Value)), decode cc pc = .ok (.ireturn, 1) → (v = 0 ∨ v = 1) → post v M' → Z l D cl b n rm maxL X 0 0 M' pc L' [.int v]) → Z l D cl b n rm maxL X 0 0 M 0 L []) :
    Met l y ws rm (mPc D cl tys b n sz M av) (va_Qi post (mB D cl tys b n) (mA b n sz)) 0 0 (mA b n sz) := by
  refine Met.ofW (cc := cc) (maxL := maxL) (ret := some .boolean) hy hw ?_
  intro p e s m args below meth c s₁ B hml hv
  obtain ⟨rfl, hsz, hP, hK⟩ := hv
  have hx := B.exec
  have hb := B.bytes
  have hr := B.returns
  have hts := atoms_spec (ws := ws) B.pre
  have ho : s.vm.findClass own = some m.cls := by rw [← hown]; exact findClass_of_methodNamed B.named
  have hlocks := B.notSynchronized
  subst hsz
  have hl := lv_entry av (n := maxL) hlen
  rw [lg_entry_eq]
  rw [hL] at hl
  refine body (p, e, s, m, av.toArray, below, meth, c, MQ below (va_Qi post (mB D cl tys b n) (mA b n s.heap.size)) av.toArray s 0 0 (mA b n s.heap.size)) ⟨hx, hb, hml, ho, hts, hK⟩ ?_ s.heap [] _ hP va_S.rf hl
  intro v M' pc L' hd h01 hp H locs ls hP' hS' hl'
  exact W.zret (v := v) hx hb hr (by rcases h01 with rfl | rfl <;> rfl) (fun t ht hW => ⟨⟨v, M', rfl, hp, by rw [ht]; exact hP', va_K.moved hW.alike hK⟩, hS'.F ht⟩) hS'.2.2 hd hlocks
theorem bm_v {post : (Nat → va_E) → Prop} (hy : plainName y.cls = true) (hw : ws = Cond.code y cc maxL none :: ws') (hown : y.cls = own) (hlen : (lg_sl av).length ≤ maxL) (hL : lv_args 0 av = L)
    (body : ∀ X : Zx, Cx D cl tys cc maxL own ws X → (∀ (M' : Nat → va_E) (pc : Nat) (L' : List (Nat × Value)), decode cc pc = .ok (.return_, 1) → post M' → Z l D cl b n rm maxL X 0 0 M' pc L' []) → Z l D cl b n rm maxL X 0 0 M 0 L []) :
    Met l y ws rm (mPc D cl tys b n sz M av) (va_Qv post (mB D cl tys b n) (mA b n sz)) 0 0 (mA b n sz) := by
  refine Met.ofW (cc := cc) (maxL := maxL) (ret := none) hy hw ?_
  intro p e s m args below meth c s₁ B hml hv
  obtain ⟨rfl, hsz, hP, hK⟩ := hv
  have hx := B.exec
  have hb := B.bytes
  have hr := B.returns
  have hts := atoms_spec (ws := ws) B.pre
  have ho : s.vm.findClass own = some m.cls := by rw [← hown]; exact findClass_of_methodNamed B.named
  have hlocks := B.notSynchronized
  subst hsz
  have hl := lv_entry av (n := maxL) hlen
  rw [lg_entry_eq]
  rw [hL] at hl
  refine body (p, e, s, m, av.toArray, below, meth, c, MQ below (va_Qv post (mB D cl tys b n) (mA b n s.heap.size)) av.toArray s 0 0 (mA b n s.heap.size)) ⟨hx, hb, hml, ho, hts, hK⟩ ?_ s.heap [] _ hP va_S.rf hl
  intro M' pc L' hd hp H locs ls hP' hS' hl'
  exact W.vret hx hb hr (fun t ht hW => ⟨⟨M', rfl, hp, by rw [ht]; exact hP', va_K.moved hW.alike hK⟩, hS'.F ht⟩) hS'.2.2 hd hlocks
theorem bm_d {post : UInt64 → (Nat → va_E) → Prop} (hy : plainName y.cls = true) (hw : ws = Cond.code y cc maxL (some .double) :: ws') (hown : y.cls = own) (hlen : (lg_sl av).length ≤ maxL) (hL : lv_args 0 av = L)
    (body : ∀ X : Zx, Cx D cl tys cc maxL own ws X → (∀ (v : UInt64) (M' : Nat → va_E) (pc : Nat) (L' : List (Nat × Value)), decode cc pc = .ok (.dreturn, 1) → post v M' → Z l D cl b n rm maxL X 0 0 M' pc L' [.double v]) → Z l D cl b n rm maxL X 0 0 M 0 L []) :
    Met l y ws rm (mPc D cl tys b n sz M av) (va_Qd post (mB D cl tys b n) (mA b n sz)) 0 0 (mA b n sz) := by
  refine Met.ofW (cc := cc) (maxL := maxL) (ret := some .double) hy hw ?_
  intro p e s m args below meth c s₁ B hml hv
  obtain ⟨rfl, hsz, hP, hK⟩ := hv
  have hx := B.exec
  have hb := B.bytes
  have hr := B.returns
  have hts := atoms_spec (ws := ws) B.pre
  have ho : s.vm.findClass own = some m.cls := by rw [← hown]; exact findClass_of_methodNamed B.named
  have hlocks := B.notSynchronized
  subst hsz
  have hl := lv_entry av (n := maxL) hlen
  rw [lg_entry_eq]
  rw [hL] at hl
  refine body (p, e, s, m, av.toArray, below, meth, c, MQ below (va_Qd post (mB D cl tys b n) (mA b n s.heap.size)) av.toArray s 0 0 (mA b n s.heap.size)) ⟨hx, hb, hml, ho, hts, hK⟩ ?_ s.heap [] _ hP va_S.rf hl
  intro v M' pc L' hd hp H locs ls hP' hS' hl'
  exact W.dret (v := v) hx hb hr (fun t ht hW => ⟨⟨v, M', rfl, hp, by rw [ht]; exact hP', va_K.moved hW.alike hK⟩, hS'.F ht⟩) hS'.2.2 hd hlocks
end BM
section BC
variable {l : Launch} {D : va_G} {cl : List vw_C} {tys : List (ClassId × FieldType)} {b n : Nat} {R : Room} {nL : Nat} {X : Zx} {k sl : Nat} {M : Nat → va_E} {pc : Nat} {L : List (Nat × Value)} {st : List Value} {cc : ByteArray} {own : String} {Ts : List Cond}
variable {y : MethodName} {bytes : ByteArray} {maxL index a o ci N : Nat} {ret : Option FieldType} {ws ws' : List Cond} {rm : Room} {As fs : List Value} {C0 : String} {T : u_T}
/-- a call of an instance method of an object of the block, which answers an int -/
theorem z_callVi {post : Int32 → (Nat → va_E) → Prop} (C : Cx D cl tys cc nL own Ts X) (hd : decode cc pc = .ok (.invokevirtual index, 3)) (hM : ∀ sz, Met l y ws rm (mPc D cl tys b n sz M (.ref a :: As)) (va_Qi post (mB D cl tys b n) (mA b n sz)) 0 0 (mA b n sz))
    (hG : GoodIn Ts (wsV own index C0 y ws)) (hw : ws = Cond.code y bytes maxL ret :: ws') (hds : y.cls = C0 ∧ y.cls ≠ "java/lang/invoke/MethodHandle" ∧ y.cls ≠ "java/lang/invoke/VarHandle" ∧ (parseMethodDescriptor y.desc).map (fun d => d.parameters.length) = some As.length)
    (hR : (rm.frames + 1 ≤ R.frames ∧ 8 + (maxL + 11) + rm.locals ≤ R.locals) ∧ rm.cells = 0 ∧ rm.slots = 0 ∧ k ≤ R.cells ∧ sl ≤ R.slots) (ho : o < n) (ha : b + o = a) (hMo : M o = .inr (ci, fs)) (hc : cl[ci]? = some (C0, T, N)) (hst : (st.map fun v => v.category).sum ≤ 8)
    (kk : ∀ (r : Int32) (M' : Nat → va_E), post r M' → Z l D cl b n R nL X k sl M' (pc + 3) L (.int r :: st)) {st0 : List Value} (hs0 : st0 = As.reverse ++ .ref a :: st) : Z l D cl b n R nL X k sl M pc L st0 := by
  obtain ⟨p, e, s, m, args, below, meth, c, Q⟩ := X
  obtain ⟨hx, hb, hml, hown, hts, hK⟩ := C
  subst hs0
  intro H locs ls hP hS hl
  refine va_calli (va_runV (As := As) (rest := st) ⟨hx, hb, hml, hown, hts⟩ (hM H.size) (cwV As.length hts hG hw hR.2.1 hR.2.2.1 hds hR.1) ⟨mPc_blind, va_recv hK hP hc (mw_at ho ha hMo), fun U hU hW => ⟨rfl, by rw [hU], by rw [hU]; exact hP, va_K.moved hW.alike hK⟩⟩ rfl rfl hl.1 rfl (lv_room hst) hd ⟨hR.2.2.2.1, hR.2.2.2.2⟩) hS (fun q _ h => mA_le hS.1 q h) (mA_le hS.1) (fun r u t H1 locs1 ht hvm hp hB hz1 hk1 hS1 => ?_)
  obtain ⟨hP1, hK1⟩ := hB
  rw [ht] at hP1
  exact kk r u hp H1 locs1 ls hP1 hS1 hl
theorem z_callVv {post : (Nat → va_E) → Prop} (C : Cx D cl tys cc nL own Ts X) (hd : decode cc pc = .ok (.invokevirtual index, 3)) (hM : ∀ sz, Met l y ws rm (mPc D cl tys b n sz M (.ref a :: As)) (va_Qv post (mB D cl tys b n) (mA b n sz)) 0 0 (mA b n sz))
    (hG : GoodIn Ts (wsV own index C0 y ws)) (hw : ws = Cond.code y bytes maxL ret :: ws') (hds : y.cls = C0 ∧ y.cls ≠ "java/lang/invoke/MethodHandle" ∧ y.cls ≠ "java/lang/invoke/VarHandle" ∧ (parseMethodDescriptor y.desc).map (fun d => d.parameters.length) = some As.length)
    (hR : (rm.frames + 1 ≤ R.frames ∧ 8 + (maxL + 11) + rm.locals ≤ R.locals) ∧ rm.cells = 0 ∧ rm.slots = 0 ∧ k ≤ R.cells ∧ sl ≤ R.slots) (ho : o < n) (ha : b + o = a) (hMo : M o = .inr (ci, fs)) (hc : cl[ci]? = some (C0, T, N)) (hst : (st.map fun v => v.category).sum ≤ 8)
    (kk : ∀ (M' : Nat → va_E), post M' → Z l D cl b n R nL X k sl M' (pc + 3) L st) {st0 : List Value} (hs0 : st0 = As.reverse ++ .ref a :: st) : Z l D cl b n R nL X k sl M pc L st0 := by
  obtain ⟨p, e, s, m, args, below, meth, c, Q⟩ := X
  obtain ⟨hx, hb, hml, hown, hts, hK⟩ := C
  subst hs0
  intro H locs ls hP hS hl
  refine va_callv (va_runV (As := As) (rest := st) ⟨hx, hb, hml, hown, hts⟩ (hM H.size) (cwV As.length hts hG hw hR.2.1 hR.2.2.1 hds hR.1) ⟨mPc_blind, va_recv hK hP hc (mw_at ho ha hMo), fun U hU hW => ⟨rfl, by rw [hU], by rw [hU]; exact hP, va_K.moved hW.alike hK⟩⟩ rfl rfl hl.1 rfl (lv_room hst) hd ⟨hR.2.2.2.1, hR.2.2.2.2⟩) hS (fun q _ h => mA_le hS.1 q h) (mA_le hS.1) (fun u t H1 locs1 ht hvm hp hB hz1 hk1 hS1 => ?_)
  obtain ⟨hP1, hK1⟩ := hB
  rw [ht] at hP1
  exact kk u hp H1 locs1 ls hP1 hS1 hl
/-- a call of a static method of the walked method's own class, which answers an int -/
theorem z_callSi {post : Int32 → (Nat → va_E) → Prop} (C : Cx D cl tys cc nL own Ts X) (hd : decode cc pc = .ok (.invokestatic index, 3)) (hM : ∀ sz, Met l y ws rm (mPc D cl tys b n sz M As) (va_Qi post (mB D cl tys b n) (mA b n sz)) 0 0 (mA b n sz))
    (hG : GoodIn Ts (wsS own index y ws)) (hw : ws = Cond.code y bytes maxL ret :: ws') (hds : y.cls = own ∧ y.cls ≠ "java/lang/invoke/MethodHandle" ∧ y.cls ≠ "java/lang/invoke/VarHandle" ∧ (parseMethodDescriptor y.desc).map (fun d => d.parameters.length) = some As.length)
    (hR : (rm.frames + 1 ≤ R.frames ∧ 8 + (maxL + 11) + rm.locals ≤ R.locals) ∧ rm.cells = 0 ∧ rm.slots = 0 ∧ k ≤ R.cells ∧ sl ≤ R.slots) (hst : (st.map fun v => v.category).sum ≤ 8)
    (kk : ∀ (r : Int32) (M' : Nat → va_E), post r M' → Z l D cl b n R nL X k sl M' (pc + 3) L (.int r :: st)) {st0 : List Value} (hs0 : st0 = As.reverse ++ st) : Z l D cl b n R nL X k sl M pc L st0 := by
  obtain ⟨p, e, s, m, args, below, meth, c, Q⟩ := X
  obtain ⟨hx, hb, hml, hown, hts, hK⟩ := C
  subst hs0
  intro H locs ls hP hS hl
  refine va_calli (va_runS (As := As) (rest := st) ⟨hx, hb, hml, hown, hts⟩ (hM H.size) (cwS As.length hts hG hw hR.2.1 hR.2.2.1 hds hR.1) ⟨mPc_blind, fun U hU hW => ⟨rfl, by rw [hU], by rw [hU]; exact hP, va_K.moved hW.alike hK⟩⟩ rfl rfl hl.1 rfl (lv_room hst) hd ⟨hR.2.2.2.1, hR.2.2.2.2⟩) hS (fun q _ h => mA_le hS.1 q h) (mA_le hS.1) (fun r u t H1 locs1 ht hvm hp hB hz1 hk1 hS1 => ?_)
  obtain ⟨hP1, hK1⟩ := hB
  rw [ht] at hP1
  exact kk r u hp H1 locs1 ls hP1 hS1 hl
end BC
end
section
/-! The map of a block out of a table and a state. A cell's field is a place in the block, or a number of the state by its name, which is three numbers; an array's contents are a row of the state. Kinds: 0 int, 1 double, else long. -/
abbrev Ky : Type := Nat × Nat × Nat
abbrev Fdd : Type := Nat ⊕ (Nat × Ky)
abbrev Cee : Type := (Nat × List Fdd) ⊕ ((Nat × Nat × Nat × Ky) ⊕ (Nat × Nat × List Nat))
abbrev Sg : Type := (Nat → Nat → Nat → Nat → Int32) × (Nat → Nat → Nat → Nat → UInt64) × (Nat → Nat → Nat → Nat → Int64)
def rzN (σ : Sg) (v : Ky) : Nat → Value
  | 0 => .int (σ.1 v.1 v.2.1 v.2.2 0)
  | 1 => .double (σ.2.1 v.1 v.2.1 v.2.2 0)
  | _ => .long (σ.2.2 v.1 v.2.1 v.2.2 0)
def rzF (b : Nat) (σ : Sg) : Fdd → Value
  | .inl o => .ref (b + o)
  | .inr q => rzN σ q.2 q.1
def rzA (σ : Sg) (n : Nat) (v : Ky) : Nat → vp_A
  | 0 => (n, .inl (σ.1 v.1 v.2.1 v.2.2))
  | 1 => (n, .inr (.inr (.inr (.inl (σ.2.1 v.1 v.2.1 v.2.2)))))
  | _ => (n, .inr (.inl (σ.2.2 v.1 v.2.1 v.2.2)))
def rz (b : Nat) (ca : Nat → ClassId) (σ : Sg) : Cee → va_E
  | .inl c => .inr (c.1, c.2.map (rzF b σ))
  | .inr (.inl a) => .inl (ca a.1, rzA σ a.2.1 a.2.2.2 a.2.2.1)
  | .inr (.inr a) => .inl (ca a.1, a.2.1, .inr (.inr (.inr (.inr (fun j => (a.2.2[j]?).map (fun o => b + o))))))
def enc (b : Nat) (ca : Nat → ClassId) (S : List Cee) (σ : Sg) : Nat → va_E := fun o => match S[o]? with
  | some c => rz b ca σ c
  | none => .inr (0, [])
theorem enc_at {b o : Nat} {ca : Nat → ClassId} {S : List Cee} {σ : Sg} {c : Cee} (h : S[o]? = some c) : enc b ca S σ o = rz b ca σ c := by
  simp [enc, h]
/-- the row v becomes g -/
def upA (σ : Sg) (v : Ky) (g : Nat → Int32) : Sg := (fun f i t => if f = v.1 ∧ i = v.2.1 ∧ t = v.2.2 then g else σ.1 f i t, σ.2)
def upE (σ : Sg) (v : Ky) (g : Nat → UInt64) : Sg := (σ.1, fun f i t => if f = v.1 ∧ i = v.2.1 ∧ t = v.2.2 then g else σ.2.1 f i t, σ.2.2)
def upL (σ : Sg) (v : Ky) (g : Nat → Int64) : Sg := (σ.1, σ.2.1, fun f i t => if f = v.1 ∧ i = v.2.1 ∧ t = v.2.2 then g else σ.2.2 f i t)
theorem ky_ne {f i t : Nat} {v : Ky} (h : ¬ (f, i, t) = v) : ¬ (f = v.1 ∧ i = v.2.1 ∧ t = v.2.2) := fun q => h (by
  obtain ⟨a, b, c⟩ := v
  obtain ⟨q1, q2, q3⟩ := q
  subst q1; subst q2; subst q3
  rfl)
theorem upA_self {σ : Sg} {f i t : Nat} {g : Nat → Int32} : (upA σ (f, i, t) g).1 f i t = g := by simp [upA]
theorem upA_ne {σ : Sg} {v : Ky} {g : Nat → Int32} {f i t : Nat} (h : ¬ (f, i, t) = v) : (upA σ v g).1 f i t = σ.1 f i t := by
  simp [upA, ky_ne h]
theorem upE_self {σ : Sg} {f i t : Nat} {g : Nat → UInt64} : (upE σ (f, i, t) g).2.1 f i t = g := by simp [upE]
theorem upE_ne {σ : Sg} {v : Ky} {g : Nat → UInt64} {f i t : Nat} (h : ¬ (f, i, t) = v) : (upE σ v g).2.1 f i t = σ.2.1 f i t := by
  simp [upE, ky_ne h]
theorem upL_self {σ : Sg} {f i t : Nat} {g : Nat → Int64} : (upL σ (f, i, t) g).2.2 f i t = g := by simp [upL]
theorem upL_ne {σ : Sg} {v : Ky} {g : Nat → Int64} {f i t : Nat} (h : ¬ (f, i, t) = v) : (upL σ v g).2.2 f i t = σ.2.2 f i t := by
  simp [upL, ky_ne h]
/-- two states that say the same of all names but v -/
def offK (v : Ky) (σ σ' : Sg) : Prop := ∀ f i t : Nat, ¬ (f, i, t) = v → σ'.1 f i t = σ.1 f i t ∧ σ'.2.1 f i t = σ.2.1 f i t ∧ σ'.2.2 f i t = σ.2.2 f i t
theorem offK_A {σ : Sg} {v : Ky} {g : Nat → Int32} : offK v σ (upA σ v g) := fun _ _ _ h => ⟨upA_ne h, rfl, rfl⟩
theorem offK_E {σ : Sg} {v : Ky} {g : Nat → UInt64} : offK v σ (upE σ v g) := fun _ _ _ h => ⟨rfl, upE_ne h, rfl⟩
theorem offK_L {σ : Sg} {v : Ky} {g : Nat → Int64} : offK v σ (upL σ v g) := fun _ _ _ h => ⟨rfl, rfl, upL_ne h⟩
def mentF (v : Ky) : Fdd → Bool
  | .inr q => q.2 == v
  | .inl _ => false
def ment (v : Ky) : Cee → Bool
  | .inl c => c.2.any (mentF v)
  | .inr (.inl a) => a.2.2.2 == v
  | .inr (.inr _) => false
def varF : Fdd → List Ky
  | .inr q => [q.2]
  | .inl _ => []
def varC : Cee → List Ky
  | .inl c => c.2.flatMap varF
  | .inr (.inl a) => [a.2.2.2]
  | .inr (.inr _) => []
theorem rzN_off {σ σ' : Sg} {v w : Ky} (ho : offK v σ σ') (h : ¬ w = v) (k : Nat) : rzN σ' w k = rzN σ w k := by
  obtain ⟨a, i, t⟩ := w
  obtain ⟨h1, h2, h3⟩ := ho a i t h
  match k with
  | 0 => show Value.int (σ'.1 a i t 0) = Value.int (σ.1 a i t 0); rw [h1]
  | 1 => show Value.double (σ'.2.1 a i t 0) = Value.double (σ.2.1 a i t 0); rw [h2]
  | (n + 2) => show Value.long (σ'.2.2 a i t 0) = Value.long (σ.2.2 a i t 0); rw [h3]
theorem rzA_off {σ σ' : Sg} {v w : Ky} {n : Nat} (ho : offK v σ σ') (h : ¬ w = v) (k : Nat) : rzA σ' n w k = rzA σ n w k := by
  obtain ⟨a, i, t⟩ := w
  obtain ⟨h1, h2, h3⟩ := ho a i t h
  match k with
  | 0 => show ((n, .inl (σ'.1 a i t)) : vp_A) = (n, .inl (σ.1 a i t)); rw [h1]
  | 1 => show ((n, .inr (.inr (.inr (.inl (σ'.2.1 a i t))))) : vp_A) = (n, .inr (.inr (.inr (.inl (σ.2.1 a i t))))); rw [h2]
  | (m + 2) => show ((n, .inr (.inl (σ'.2.2 a i t))) : vp_A) = (n, .inr (.inl (σ.2.2 a i t))); rw [h3]
theorem rzF_off {b : Nat} {σ σ' : Sg} {v : Ky} {f : Fdd} (ho : offK v σ σ') (h : mentF v f = false) : rzF b σ' f = rzF b σ f := by
  match f, h with
  | .inl _, _ => rfl
  | .inr (k, w), h =>
    have h1 : ¬ w = v := by simpa [mentF] using h
    exact rzN_off ho h1 k
theorem rz_off {b : Nat} {ca : Nat → ClassId} {σ σ' : Sg} {v : Ky} {c : Cee} (ho : offK v σ σ') (h : ment v c = false) : rz b ca σ' c = rz b ca σ c := by
  match c, h with
  | .inr (.inr _), _ => rfl
  | .inr (.inl (x, y, k, w)), h =>
    have h1 : ¬ w = v := by simpa [ment] using h
    show (Sum.inl (ca x, rzA σ' y w k) : va_E) = Sum.inl (ca x, rzA σ y w k)
    rw [rzA_off ho h1]
  | .inl (x, fs), h =>
    show (Sum.inr (x, fs.map (rzF b σ')) : va_E) = Sum.inr (x, fs.map (rzF b σ))
    have h1 : fs.map (rzF b σ') = fs.map (rzF b σ) := List.map_congr_left fun f hf => rzF_off ho (by
      have h2 : fs.any (mentF v) = false := h
      rw [List.any_eq_false] at h2
      simpa using h2 f hf)
    rw [h1]
/-- each name stands in one cell of the table -/
def chkU : List Cee → Bool
  | [] => true
  | c :: r => (varC c).all (fun v => r.all (fun c' => !ment v c')) && chkU r
theorem mentF_var {v : Ky} {f : Fdd} (h : mentF v f = true) : v ∈ varF f := by
  match f, h with
  | .inr (k, w), h =>
    have h1 : w = v := by simpa [mentF] using h
    simp [varF, h1]
theorem ment_var {v : Ky} {c : Cee} (h : ment v c = true) : v ∈ varC c := by
  match c, h with
  | .inr (.inl (x, y, k, w)), h =>
    have h1 : w = v := by simpa [ment] using h
    simp [varC, h1]
  | .inl (x, fs), h =>
    have h1 : fs.any (mentF v) = true := h
    obtain ⟨f, hf, h2⟩ := List.any_eq_true.mp h1
    exact List.mem_flatMap.mpr ⟨f, hf, mentF_var h2⟩
theorem chkU_spec {S : List Cee} (h : chkU S = true) : ∀ {o o' : Nat} {c c' : Cee} {v : Ky}, S[o]? = some c → S[o']? = some c' → ment v c = true → ment v c' = true → o = o' := by
  induction S with
  | nil => intro o o' c c' v h1; simp at h1
  | cons a r ih =>
    have h0 : (varC a).all (fun v => r.all (fun c' => !ment v c')) = true ∧ chkU r = true := by
      have h9 := h
      unfold chkU at h9
      exact Bool.and_eq_true_iff.mp h9
    intro o o' c c' v h1 h2 m1 m2
    cases o with
    | zero =>
      cases o' with
      | zero => rfl
      | succ j =>
        exfalso
        have e1 : a = c := by simpa using h1
        subst e1
        have h3 := List.all_eq_true.mp h0.1 v (ment_var m1)
        have h4 := List.all_eq_true.mp h3 c' (List.mem_of_getElem? (by simpa using h2))
        rw [m2] at h4
        cases h4
    | succ i =>
      cases o' with
      | zero =>
        exfalso
        have e1 : a = c' := by simpa using h2
        subst e1
        have h3 := List.all_eq_true.mp h0.1 v (ment_var m2)
        have h4 := List.all_eq_true.mp h3 c (List.mem_of_getElem? (by simpa using h1))
        rw [m1] at h4
        cases h4
      | succ j =>
        have h1' : r[i]? = some c := by simpa using h1
        have h2' : r[j]? = some c' := by simpa using h2
        exact congrArg Nat.succ (ih h0.2 h1' h2' m1 m2)
/-- one cell is written: the state's row behind it has changed, and nothing else -/
theorem enc_up {b o : Nat} {ca : Nat → ClassId} {S : List Cee} {σ σ' : Sg} {c : Cee} {v : Ky} (hU : chkU S = true) (hS : S[o]? = some c) (hm : ment v c = true) (ho : offK v σ σ') {e : va_E} (he : e = rz b ca σ' c) : va_up (enc b ca S σ) o e = enc b ca S σ' := by
  subst he
  funext q
  by_cases hq : q = o
  · subst hq
    rw [va_up_self, enc_at hS]
  · rw [va_up_ne _ _ hq]
    unfold enc
    cases hc : S[q]? with
    | none => rfl
    | some c' =>
      show rz b ca σ c' = rz b ca σ' c'
      rw [rz_off ho]
      cases hm' : ment v c' with
      | false => rfl
      | true => exact absurd (chkU_spec hU hc hS hm' hm) hq
end
section
/-! Methods that may throw: their contracts, their calls, and what a handler of the caller does with what they threw. -/
/-- what stands behind a method's end, whether it returned or threw -/
def mE (s t : State) (L : List Loc) (k n : Nat) : Prop := s.WarmedH t.vm ∧ s.sameButNew ({ t with vm := s.vm } : State) L k n
def MQX (below : List Frame) (Qc : Array Value → State → Outcome → State → Prop) (a : Array Value) (s : State) (mc ms : Nat) (free : Addr → Prop) : State → Prop := fun t =>
  ∃ o, t.status = .running ∧ Ended t below o ∧ Qc a s o t ∧ ∃ L, mE s t L mc ms ∧ ∀ q ∈ L, free q.base
def MetX (l : Launch) (y : MethodName) (ws : List Cond) (rm : Room) (Pc : Array Value → State → Prop) (Qc : Array Value → State → Outcome → State → Prop) (mc ms : Nat) (free : Addr → Prop) : Prop :=
  MetFree l y (headSpec ws rm) Pc (fun _ _ _ _ _ => True) (fun a st o t => Qc a st o t ∧ ∃ L, mE st t L mc ms ∧ ∀ q ∈ L, free q.base)
theorem MQ.toX {below : List Frame} {Qc : Array Value → State → Outcome → State → Prop} {a : Array Value} {s : State} {mc ms mc' ms' : Nat} {free : Addr → Prop} (h1 : mc ≤ mc') (h2 : ms ≤ ms') {t : State} (h : MQ below Qc a s mc ms free t) : MQX below Qc a s mc' ms' free t := by
  obtain ⟨o, g1, g2, g3, L, ⟨-, g4, g5⟩, g6⟩ := h
  exact ⟨o, g1, g2, g3, L, ⟨g4, g5.mono h1 h2⟩, g6⟩
section MX
variable {p : Program} {l : Launch} {e : Env} {R : Room} {s : State} {m : MethodId} {args : Array Value} {below : List Frame} {meth : Method} {c : Code} {H : Heap} {T : State} {locs : List Loc} {cells slots : Nat} {Q Q' : State → Prop}
theorem W.monoQ {g : JFrame} (h : ∀ t, Q t → Q' t) (kk : W p l e R s m args below meth c H locs cells slots Q g) : W p l e R s m args below meth c H locs cells slots Q' g := by
  intro T hT X
  obtain ⟨t, a, b⟩ := kk T hT X
  exact ⟨t, a, h t b⟩
theorem MetX.ofW {y : MethodName} {ws ws' : List Cond} {rm : Room} {Pc : Array Value → State → Prop} {Qc : Array Value → State → Outcome → State → Prop} {mc ms : Nat} {free : Addr → Prop} {cc : ByteArray} {maxL : Nat} {ret : Option FieldType}
    (hy : plainName y.cls = true) (hw : ws = Cond.code y cc maxL ret :: ws')
    (body : ∀ p e s m args below meth c s₁, BodyLoose p l y (headSpec ws rm) cc maxL ret e s m args below meth c s₁ → c.maxLocals = maxL → Pc args s →
      W p l e (headSpec ws rm).room s m args below meth c s.heap [] 0 0 (MQX below Qc args s mc ms free) (entryFrame m args maxL)) : MetX l y ws rm Pc Qc mc ms free := by
  refine MetFree.of_bodyS (code := cc) (maxLocals := maxL) (ret := ret) hy ?_ ?_
  · intro args s m h hn
    obtain ⟨meth, c, h1, h2, h3, h4, h5, h6, -, -⟩ := Cond.code_spec hn (atoms_spec (ws := ws) h _ (by rw [hw]; exact List.mem_cons_self))
    exact ⟨meth, c, h1, h2, h3, h4, h5, h6⟩
  · intro p e s m args below meth c s₁ B hml hP _
    have hh0 : s₁.heap = s.heap := by rw [B.state]; rfl
    obtain ⟨t, a1, o, b1, b2, b3⟩ := body p e s m args below meth c s₁ B hml hP s₁ hh0 (Stand.of_body B)
    exact ⟨t, o, a1, b1, b2, ⟨b3.1, b3.2⟩⟩
/-- a call of a method that may throw: where the machine stands behind it -/
theorem mx_invoke (X : Stand p l e R s m args below meth c T locs cells slots) (hexec : p.tables.exec = Jvm.exec) {own C : String} {index n mc ms maxL : Nat} {y : MethodName} {bytes : ByteArray} {ret : Option FieldType} {ws : List Cond} {rm : Room} {Pc : Array Value → State → Prop} {Qc : Array Value → State → Outcome → State → Prop} {free : Addr → Prop}
    (hown : s.vm.findClass own = some m.cls) (cw : CallW R s args own C index y bytes maxL ret ws rm mc ms n) (hM : MetX l y ws rm Pc Qc mc ms free) (hbl : FrameBlind Pc)
    {b : Addr} {cellB : Cell} (hcell : T.heap[b]? = some cellB) (hobj : cellB.vm.isStatics = false) (hcls : s.vm.findClass C = some cellB.cls)
    {g : JFrame} (hg : g.method = m) (hsize : g.locals.size = c.maxLocals) {As rest : List Value} (hn : As.length = n) (hstack : g.stack = As.reverse ++ .ref b :: rest) (hW : 2 * g.monitorRoom + (rest.map fun v => v.category).sum ≤ 8) (hdg : decode c.code g.pc = .ok (.invokevirtual index, 3)) (hf : cells + mc ≤ R.cells ∧ slots + ms ≤ R.slots)
    (hPc : ∀ U : State, U.heap = T.heap → s.WarmedH U.vm → Pc (Value.ref b :: As).toArray U) :
    ∃ (o : Outcome) (st₀ t T' : State) (L : List Loc), st₀.heap = T.heap ∧ Stand p l e R s m args below meth c T' (locs ++ L) (cells + mc) (slots + ms) ∧ (∀ q ∈ L, free q.base) ∧ T'.heap = t.heap ∧ T'.vm = t.vm ∧ Qc (Value.ref b :: As).toArray st₀ o t ∧
      (∀ v, o = .returned v → ∀ tg, Steps p.tables e below (T'.setTop { g with pc := g.pc + 3, stack := v.toList ++ rest }) tg → Steps p.tables e below (T.setTop g) tg) ∧
      (∀ x, o = .threw x → ∀ tg, Steps p.tables e below ((T'.setTop { g with stack := rest }).pushFrame (.throwing x)) tg → Steps p.tables e below (T.setTop g) tg) := by
  obtain ⟨⟨hrc, hrs, hfr, hlo, hws, hcw, hcode, hini, hy, hlen, hl⟩, hin, hse⟩ := cw
  obtain ⟨mk, methM, hnamed, hmethM, hstM, habM⟩ := Cond.instanceMethod_spec hin
  obtain ⟨methM', cM, hmethM', -, -, -, -, -, -, hsigM⟩ := Cond.code_spec hnamed hcode
  cases hmethM.symm.trans hmethM'
  obtain ⟨c2, r2, m2, q1, q2, q3, q4, kP, hkP, hkPi⟩ := Cond.selects_spec hse
  cases hcls.symm.trans q1
  cases (State.methodFound?_of_named hnamed hy).symm.trans q2
  cases hnamed.symm.trans q3
  have hselP : selectMethod e.platform s.vm cellB.cls mk = .method mk := by rw [Launch.admits_selectMethod X.admits]; exact q4
  obtain ⟨vm₁, X₁, hstep₁⟩ := X.invokevirtual hexec hown hl hnamed hmethM hstM hkP hkPi hy (a := b) (cell := cellB) hcell
    (fun z h => by rw [h] at hobj; cases hobj) hselP hmethM habM hkP hkPi (g := g) hg (argsL := As) (rest := rest) (hn.trans (hlen _ hsigM)) hstack hdg
  have hU : (T.setVm vm₁).heap = T.heap := rfl
  generalize T.setVm vm₁ = U at X₁ hstep₁ hU
  have hnU := X₁.named hnamed
  obtain ⟨methY, cY, hmY, hcY, -, hlY, -, -, -, -⟩ := Cond.code_spec hnU (hws _ hcw args U X₁.warmed)
  obtain ⟨kY, hkY, -⟩ := className_of_methodNamed hnU
  have hinitY : kY.init = .initialized := Cond.initialized_spec (args := args) (findClass_of_methodNamed hnU) hkY (word_at X₁.warmed (Or.inl (by first | rfl | simp [Cond.onTables, Cond.keeps, Cond.steady])) hini)
  have hgr : ({ g with stack := rest } : JFrame).method = m := hg
  have h : At U ({ g with stack := rest } : JFrame).method c below := by rw [hgr]; exact X₁.here
  have happ : (headSpec ws rm).appliesLoose y e.platform (U.calling { g with stack := rest } mk (Value.ref b :: As).toArray) = true :=
    Spec.appliesLoose_calling (g := { g with stack := rest }) h (show decode c.code ({ g with stack := rest } : JFrame).pc = _ from hdg) hnU hkY hinitY
      (X₁.room_calling (g := { g with stack := rest }) (R' := (headSpec ws rm).room) hsize hmY hcY hfr (by
        have h9 : (headSpec ws rm).room.locals = rm.locals := rfl
        have h8 : 2 * ({ g with stack := rest } : JFrame).monitorRoom + (rest.map fun v => v.category).sum ≤ 8 := hW
        rw [hlY, h9]
        show 2 * ({ g with stack := rest } : JFrame).monitorRoom + (rest.map fun v => v.category).sum + (maxL + 11) + rm.locals ≤ R.locals
        omega) (by
        have h9 : (headSpec ws rm).room.cells = rm.cells := rfl
        rw [h9, hrc]; exact hf.1) (by
        have h9 : (headSpec ws rm).room.slots = rm.slots := rfl
        rw [h9, hrs]; exact hf.2)) (atoms_intro fun w hw => hws w hw _ _ X₁.warmed)
  obtain ⟨mid, hmid⟩ := h.above
  have hfrm : (U.setTop { g with stack := rest }).frames = (.java { g with stack := rest } :: mid) ++ below := by rw [State.frames_setTop' _ h.top, hmid]; rfl
  obtain ⟨o, s₂, hsteps, -, hend, hq⟩ := Steps.callFree hM p X₁.admits X₁.cas X₁.clock (acts := []) hfrm happ (hbl _ _ _ _ (hPc U hU X₁.warmed)) trivial
  rw [State.frames_setTop' _ h.top] at hend
  have hq' : Qc (Value.ref b :: As).toArray (U.calling { g with stack := rest } mk (Value.ref b :: As).toArray) o s₂ ∧ ∃ L, mE (U.calling { g with stack := rest } mk (Value.ref b :: As).toArray) s₂ L mc ms ∧ ∀ q ∈ L, free q.base := hq
  obtain ⟨hq1, L, ⟨hW₂, e2, q2, q3, q4, q5, q6⟩, hL⟩ := hq'
  have e3 : s₂ = ({ (U.calling { g with stack := rest } mk (Value.ref b :: As).toArray).setFrames s₂.frames with heap := s₂.heap, slotsUsed := s₂.slotsUsed } : State).setVm s₂.vm := by
    have : s₂ = ({ s₂ with vm := (U.calling { g with stack := rest } mk (Value.ref b :: As).toArray).vm } : State).setVm s₂.vm := rfl
    rw [e2] at this
    exact this
  have hW' : U.WarmedH s₂.vm := hW₂
  obtain ⟨g₀, hg0⟩ := Option.isSome_iff_exists.mp h.top
  obtain ⟨r, hr⟩ := State.topJava?_eq_some.mp hg0
  have hr' : (({ U with heap := s₂.heap, slotsUsed := s₂.slotsUsed } : State).setVm s₂.vm).frames = .java g₀ :: r := hr
  have hsame : U.sameButNew ({ U with heap := s₂.heap, slotsUsed := s₂.slotsUsed } : State) L mc ms := by
    refine ⟨?_, q2, q3, q4, q5, q6⟩
    obtain ⟨t, ht, -⟩ := State.frames_cons hr
    show ({ U with heap := s₂.heap, slotsUsed := s₂.slotsUsed } : State) = { U.setFrames U.frames with heap := s₂.heap, slotsUsed := s₂.slotsUsed }
    rw [State.setFrames_self ht]
  refine ⟨o, U.calling { g with stack := rest } mk (Value.ref b :: As).toArray, s₂, ({ U with heap := s₂.heap, slotsUsed := s₂.slotsUsed } : State).setVm s₂.vm, L, hU, ?_, hL, rfl, rfl, hq1, ?_, ?_⟩
  · exact ⟨X₁.admits, X₁.cas, X₁.clock, X₁.frames, X₁.room, X₁.hears, X₁.method, X₁.code, (X₁.here.setHeapUsed s₂.heap s₂.slotsUsed).setVm hW'.alike, X₁.tail, State.WarmedH.trans X₁.warmed hW', X₁.limits, X₁.bytes, X₁.same.trans (hsame.setVm s.vm)⟩
  · intro v hv tg htg
    subst hv
    obtain ⟨c₂, i₂, len₂, hc₂, hd₂, hf₂⟩ := hend
    have hcc : c₂ = c := by
      have h1 : s₂.code? ({ g with stack := rest } : JFrame).method = U.code? ({ g with stack := rest } : JFrame).method := by
        rw [State.code?_eq, State.code?_eq, hW'.alike.method?]
      exact Option.some.inj (hc₂.symm.trans (h1.trans h.code))
    subst hcc
    have hlen2 : len₂ = 3 := by
      have hd3 : decode c₂.code g.pc = .ok (i₂, len₂) := hd₂
      rw [hdg] at hd3; cases hd3; rfl
    subst hlen2
    refine hstep₁ _ fun acts => ?_
    rw [doInvoke_state]
    refine hsteps.trans ?_
    have hs₂ : s₂ = (({ U with heap := s₂.heap, slotsUsed := s₂.slotsUsed } : State).setVm s₂.vm).setTop { g with pc := g.pc + 3, stack := v.toList ++ rest } := by
      refine e3.trans ?_
      rw [hf₂, State.calling_eq h.top, State.setFrames_setFrames, State.setTop_of_frames _ hr', hr]
      rfl
    rw [hs₂]
    exact htg
  · intro x hx tg htg
    subst hx
    have hf₂ : s₂.frames = .throwing x :: .java { g with stack := rest } :: U.frames.tail := hend
    refine hstep₁ _ fun acts => ?_
    rw [doInvoke_state]
    refine hsteps.trans ?_
    have hs₂ : s₂ = ((({ U with heap := s₂.heap, slotsUsed := s₂.slotsUsed } : State).setVm s₂.vm).setTop { g with stack := rest }).pushFrame (.throwing x) := by
      refine e3.trans ?_
      rw [hf₂, State.calling_eq h.top, State.setFrames_setFrames, State.pushFrame, State.frames_setTop _ hr', State.setTop_of_frames _ hr', State.setFrames_setFrames, hr]
      rfl
    rw [hs₂]
    exact htg
end MX
end
