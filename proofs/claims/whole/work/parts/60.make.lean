/-! Making: rows that grow the block by its next cell; the address is known, for the heap ends where the block ends. -/
theorem mw_congr {b n : Nat} {M M' : Nat → va_E} (h : ∀ o, o < n → M o = M' o) : mw b n M = mw b n M' := by
  unfold mw
  refine List.map_congr_left fun o ho => ?_
  rw [h o (List.mem_range.mp ho)]
theorem W.size {p : Program} {l : Launch} {e : Env} {R : Room} {s : State} {m : MethodId} {args : Array Value} {below : List Frame} {meth : Method} {c : Code} {H : Heap} {locs : List Loc} {cells slots : Nat} {Q : State → Prop} {g : JFrame} (h : H.size ≤ s.heap.size + cells → W p l e R s m args below meth c H locs cells slots Q g) : W p l e R s m args below meth c H locs cells slots Q g :=
  fun T hT X => h (by rw [← hT]; exact X.heapSize) T hT X
theorem va_S.mono {A B : Nat → Prop} {H0 H : Heap} {locs : List Loc} (h : va_S A H0 H locs) (hAB : ∀ q, A q → B q) : va_S B H0 H locs := ⟨h.1, fun q h1 h2 => h.2.1 q h1 (fun z => h2 (hAB q z)), fun x hx => hAB _ (h.2.2 x hx)⟩
/-- the last cell of the block is the heap's last one -/
def Xs (X : Zx) (b n k : Nat) : Prop := X.2.2.1.heap.size + k = b + n ∧ (0 < n ∨ k = 0)
theorem Xs.at {p : Program} {e : Env} {s : State} {m : MethodId} {args : Array Value} {below : List Frame} {meth : Method} {c : Code} {Q : State → Prop} {D : va_G} {cl : List vw_C} {b n k : Nat} {M : Nat → va_E} {H : Heap} {locs : List Loc} {A : Nat → Prop} (h : Xs (p, e, s, m, args, below, meth, c, Q) b n k) (hP : va_P D cl (mw b n M) H) (hS : va_S A s.heap H locs) (hle : H.size ≤ s.heap.size + k) : H.size = b + n := by
  obtain ⟨h1, h2⟩ := h
  have h1' : s.heap.size + k = b + n := h1
  rcases h2 with h2 | h2
  · have := mw_le hP h2
    omega
  · have := hS.1
    omega
theorem Xs.up {X : Zx} {b n k j : Nat} (h : Xs X b n k) : Xs X b (n + (j + 1)) (k + (j + 1)) := ⟨by have := h.1; omega, Or.inl (by omega)⟩
section YR
variable {l : Launch} {D : va_G} {cl : List vw_C} {tys : List (ClassId × FieldType)} {b n : Nat} {R : Room} {nL : Nat} {X : Zx} {k sl : Nat} {M : Nat → va_E} {pc : Nat} {L : List (Nat × Value)} {st : List Value} {cc : ByteArray} {own : String} {Ts : List Cond}
theorem z_congr {M' : Nat → va_E} (h : ∀ o, o < n → M o = M' o) (kk : Z l D cl b n R nL X k sl M' pc L st) : Z l D cl b n R nL X k sl M pc L st := by
  obtain ⟨p, e, s, m, args, below, meth, c, Q⟩ := X
  intro H locs ls hP hS hl
  rw [mw_congr h] at hP
  exact kk H locs ls hP hS hl
theorem z_widen {k' sl' : Nat} (h1 : k ≤ k') (h2 : sl ≤ sl') (kk : Z l D cl b n R nL X k' sl' M pc L st) : Z l D cl b n R nL X k sl M pc L st := by
  obtain ⟨p, e, s, m, args, below, meth, c, Q⟩ := X
  exact fun H locs ls hP hS hl => W.widen h1 h2 (kk H locs ls hP hS hl)
theorem mA_up {b n sz q : Nat} (h : mA b n sz q) : mA b (n + 1) sz q := h.elim (fun h => Or.inl ⟨h.1, by omega⟩) Or.inr
/-- a cell is pushed -/
theorem mw_grown {D : va_G} {cl : List vw_C} {b n : Nat} {M : Nat → va_E} {e : va_E} {H H1 : Heap} (hP : va_P D cl (mw b n M) H) (hH : H.size = b + n) (o1 : ∀ q, q < b + n → H1[q]? = H[q]?) (he : va_at D cl (b + n, e) H1) : va_P D cl (mw b (n + 1) (va_up M n e)) H1 := by
  intro q x hx
  obtain ⟨h1, rfl⟩ := mw_inv hx
  by_cases hq : q = n
  · subst hq
    rw [va_up_self]
    exact he
  · rw [va_up_ne _ _ hq]
    exact (mw_kept hP (fun q' g1 g2 => o1 q' (by omega))) q _ (mw_get (by omega))
theorem y_new (C : Cx D cl tys cc nL own Ts X) {C0 : String} {T : u_T} {N ci index : Nat} (hd : decode cc pc = .ok (.new index, 3)) (hcl : Cond.classLink own index C0 ∈ Ts) (hins : Cond.instantiable C0 N ∈ Ts) (hini : Cond.initialized C0 ∈ Ts) (hin : ∀ w ∈ u_ws C0 T N, w ∈ Ts) (ty : Nat → FieldType) (hty : ∀ j, j < N → parseFieldDescriptor (T j).2.2.1 = some (ty j)) (hc : cl[ci]? = some (C0, T, N)) {fs : List Value} (hfs : ∀ j, j < N → defaultValue (ty j) = vp_V fs j) (hX : Xs X b n k) (hR : k + 1 ≤ R.cells ∧ sl + N ≤ R.slots)
    (kk : Z l D cl b (n + 1) R nL X (k + 1) (sl + N) (va_up M n (.inr (ci, fs))) (pc + 3) L (.ref (b + n) :: st)) : Z l D cl b n R nL X k sl M pc L st := by
  obtain ⟨p, e, s, m, args, below, meth, c, Q⟩ := X
  obtain ⟨hx, hb, hml, hown, hts, hK⟩ := C
  intro H locs ls hP hS hl
  refine W.size fun hle => ?_
  have hH := hX.at hP hS hle
  have hKn := hK.1 ci _ hc
  refine W.newcK hx hb hown (hts _ hcl) (hts _ hins) (hts _ hini) rfl hd hR.1 hR.2 hKn.2.1 hH fun H1 kC hkC e1 z1 o1 => ?_
  refine kk H1 locs ls (mw_grown hP hH o1 ⟨_, hc, (u_born ty hts hin hKn hkC e1 hty).to hfs⟩) ⟨by have := hS.1; omega, fun q h1 h2 => ?_, fun x hx => mA_up (hS.2.2 x hx)⟩ hl
  have := hS.1
  rw [o1 q (by omega)]
  exact hS.2.1 q h1 (fun z => h2 (mA_up z))
theorem y_newa (C : Cx D cl tys cc nL own Ts X) {atype : ArrayType} {v : Int32} {N t0 : Nat} {cA : ClassId} {a0 : vp_A} (hd : decode cc pc = .ok (.newarray atype, 2)) (hw : Cond.arrayClass (newarray.typeOf atype) ∈ Ts) (ht : tys[t0]? = some (cA, newarray.typeOf atype)) (ha : vp_cell cA a0 = arrV cA N (fun _ => defaultValue (newarray.typeOf atype))) (hra : ∀ U c9, va_RA U c9 (newarray.typeOf atype) → U.vm.findClass ("[" ++ (newarray.typeOf atype).toString) = some c9) (hn : ¬ v < 0) (hN : v.toNatClampNeg = N) (hby : N * componentBytes (newarray.typeOf atype) ≤ 536870912) (hX : Xs X b n k) (hR : k + 1 ≤ R.cells ∧ sl + N ≤ R.slots)
    (kk : Z l D cl b (n + 1) R nL X (k + 1) (sl + N) (va_up M n (.inl (cA, a0))) (pc + 2) L (.ref (b + n) :: st)) : Z l D cl b n R nL X k sl M pc L (.int v :: st) := by
  obtain ⟨p, e, s, m, args, below, meth, c, Q⟩ := X
  obtain ⟨hx, hb, hml, hown, hts, hK⟩ := C
  intro H locs ls hP hS hl
  refine W.size fun hle => ?_
  have hH := hX.at hP hS hle
  refine va_newaK hx hb (hts _ hw) rfl hd rfl hn hN hby hR.1 hR.2 hH fun H1 c1 e1 z1 o1 hAr hNm => ?_
  have hc1 : c1 = cA := Option.some.inj (hNm.symm.trans (hra _ _ (hK.2 t0 _ ht).2))
  subst hc1
  refine kk H1 locs ls (mw_grown hP hH o1 (by show H1[b + n]? = some (vp_cell c1 a0); rw [ha]; exact e1)) ⟨by have := hS.1; omega, fun q h1 h2 => ?_, fun x hx => mA_up (hS.2.2 x hx)⟩ hl
  have := hS.1
  rw [o1 q (by omega)]
  exact hS.2.1 q h1 (fun z => h2 (mA_up z))
theorem y_anew (C : Cx D cl tys cc nL own Ts X) {index : Nat} {C0 : String} {v : Int32} {N t0 : Nat} {cA : ClassId} (hd : decode cc pc = .ok (.anewarray index, 3)) (hcl : Cond.classLink own index C0 ∈ Ts) (hao : va_AO C0 X.2.2.1) (ht : tys[t0]? = some (cA, .object C0)) (hn : ¬ v < 0) (hN : v.toNatClampNeg = N) (hby : N * 4 ≤ 536870912) (hX : Xs X b n k) (hR : k + 1 ≤ R.cells ∧ sl + N ≤ R.slots)
    (kk : Z l D cl b (n + 1) R nL X (k + 1) (sl + N) (va_up M n (.inl (cA, N, .inr (.inr (.inr (.inr (fun _ => none))))))) (pc + 3) L (.ref (b + n) :: st)) : Z l D cl b n R nL X k sl M pc L (.int v :: st) := by
  obtain ⟨p, e, s, m, args, below, meth, c, Q⟩ := X
  obtain ⟨hx, hb, hml, hown, hts, hK⟩ := C
  intro H locs ls hP hS hl
  subst hN
  refine W.size fun hle => ?_
  have hH := hX.at hP hS hle
  refine W.anew hx hb hown (hts _ hcl) (va_AO.use hao) rfl hd rfl hn hby hR.1 hR.2 fun c1 kA comp h1 h2 h3 h4 => ?_
  obtain ⟨kB, comp2, j1, j2, j3, j4⟩ := (hK.2 t0 _ ht).2
  have hc1 : c1 = cA := Option.some.inj (h1.symm.trans j4)
  subst hc1
  have o1 : ∀ q, q < b + n → (H.push { cls := c1, slots := Array.replicate v.toNatClampNeg .null, vm := .none })[q]? = H[q]? := fun q hq => by rw [Array.getElem?_push, if_neg (by omega)]
  rw [hH]
  refine kk _ locs ls (mw_grown hP hH o1 (by
    show (H.push _)[b + n]? = some (vp_cell c1 _)
    rw [← hH, vp_cell_q, arrV_new]
    simp
    rfl)) ⟨by have := hS.1; simp; omega, fun q g1 g2 => ?_, fun x hx => mA_up (hS.2.2 x hx)⟩ hl
  have := hS.1
  rw [o1 q (by omega)]
  exact hS.2.1 q g1 (fun z => g2 (mA_up z))
theorem y_putF (C : Cx D cl tys cc nL own Ts X) {C0 : String} {T : u_T} {N ci index : Nat} {a o : Nat} {fs : List Value} {v : Value} {ty : FieldType} {ty0 : Nat → FieldType} (hd : decode cc pc = .ok (.putfield index, 3)) (hin : ∀ w ∈ u_ws C0 T N, w ∈ Ts) (hty : ∀ j, j < N → parseFieldDescriptor (T j).2.2.1 = some (ty0 j)) (hnm : ∀ x, x < N → ∀ y, y < N → x ≠ y → (T x).2.1 ≠ (T y).2.1) (hc : cl[ci]? = some (C0, T, N)) (q : Nat) (hk : q < N) (hw : Cond.fieldLink own index (T q).1 (T q).2.1 (T q).2.2.1 ∈ Ts) (hfin : (T q).2.2.2 = true) (hmn : X.2.2.2.2.2.2.1.name = "<init>") (hdecl : (T q).1 = own) (hpt : parseFieldDescriptor (T q).2.2.1 = some ty) (hnv : narrow ty v = v) (hfit : fits ty v = true) (ho : o < n) (ha : b + o = a) (hM : M o = .inr (ci, fs)) (hl0 : q < fs.length)
    (kk : Z l D cl b n R nL X k sl (va_up M o (.inr (ci, fs.set q v))) (pc + 3) L st) : Z l D cl b n R nL X k sl M pc L (v :: .ref a :: st) := by
  obtain ⟨p, e, s, m, args, below, meth, c, Q⟩ := X
  obtain ⟨hx, hb, hml, hown, hts, hK⟩ := C
  exact fun H locs ls hP hS hl => va_putF hx hb hts hin ty0 hty hnm hown hK hP mA_D hS o (mw_at ho ha hM) hc q hk (hts _ hw) (fun _ h9 => h9) hfin hmn hdecl hpt hnv hfit hl0 hd (fun H1 locs1 hP1 _ hS1 => kk H1 locs1 ls (by rw [mw_setA ho ha] at hP1; exact hP1) hS1 hl)
theorem y_aast (C : Cx D cl tys cc nL own Ts X) {o a t0 ov av ci N : Nat} {cA : ClassId} {r : vw_C} {vs : List Value} {f : Nat → Option Nat} {i : Int32} (hd : decode cc pc = .ok (.aastore, 1)) (ht : tys[t0]? = some (cA, .object r.1)) (ho : o < n) (ha : b + o = a) (hM : M o = .inl (cA, N, .inr (.inr (.inr (.inr f))))) (hov : ov < n) (hav : b + ov = av) (hMv : M ov = .inr (ci, vs)) (hc : cl[ci]? = some r) (hin : vp_in i N)
    (kk : Z l D cl b n R nL X k sl (va_up M o (.inl (cA, N, .inr (.inr (.inr (.inr (va_up f i.toNatClampNeg (some av)))))))) (pc + 1) L st) : Z l D cl b n R nL X k sl M pc L (.ref av :: .int i :: .ref a :: st) := by
  obtain ⟨p, e, s, m, args, below, meth, c, Q⟩ := X
  obtain ⟨hx, hb, hml, hown, hts, hK⟩ := C
  exact fun H locs ls hP hS hl => va_astq hx hb hK hP mA_D hS o t0 ov ci (mw_at ho ha hM) ht (mw_at hov hav hMv) hc hin hd (fun H1 locs1 hP1 _ hS1 => kk H1 locs1 ls (by rw [mw_setA ho ha] at hP1; exact hP1) hS1 hl)
theorem y_obj (C : Cx D cl tys cc nL own Ts X) {index a : Nat} (hd : decode cc pc = .ok (.invokespecial index, 3)) (h1 : Cond.methodLink own index Lib.objectInit ∈ Ts) (h2 : Cond.instanceMethod Lib.objectInit ∈ Ts) (h3 : Cond.code Lib.objectInit ⟨#[0xb1]⟩ 1 none ∈ Ts) (hR : 1 ≤ R.frames ∧ 20 ≤ R.locals) (hst : (st.map fun v => v.category).sum ≤ 8) (kk : Z l D cl b n R nL X k sl M (pc + 3) L st) : Z l D cl b n R nL X k sl M pc L (.ref a :: st) := by
  obtain ⟨p, e, s, m, args, below, meth, c, Q⟩ := X
  obtain ⟨hx, hb, hml, hown, hts, hK⟩ := C
  exact fun H locs ls hP hS hl => W.objInit hx hb hown (hts _ h1) (hts _ h2) (hts _ h3) rfl (hl.1.trans hml.symm) rfl hd hR.1 (by show 2 * 0 + _ + 12 ≤ _; omega) (kk H locs ls hP hS hl)
end YR
/-- what making asks of the tables besides: the nest mates' constructors, the arrays of references -/
def nests : List (String × Nat × MethodName) := [("RobotBus", 35, y_Bag_init), ("RobotBus", 42, y_Pnt_init), ("RobotBus$Node", 35, y_Que_init), ("RobotBus$Node", 36, y_Act_init), ("RobotBus", 71, y_Top_init), ("RobotBus", 72, y_Srv_init), ("RobotBus", 73, y_Frm_init)]
def aos : List String := ["RobotBus$Node", "RobotBus$Topic", "RobotBus$Service", "RobotBus$Frame", "RobotBus$Queue", "RobotBus$Action"]
def ExI (U : State) : Prop := (∀ q ∈ nests, va_Nw (.methodLinkNest q.1 q.2.1 q.2.2 "RobotBus") U) ∧ ∀ C ∈ aos, va_AO C U
theorem ExI.warm {s U : State} (hW : s.WarmedH U.vm) (h : ExI s) : ExI U := ⟨fun q hq => (h.1 q hq).warmM hW, fun C hC => (h.2 C hC).moved hW.alike⟩
theorem ExI.same {u U : State} (hv : U.vm = u.vm) (h : ExI u) : ExI U := ⟨fun q hq => (h.1 q hq).same rfl hv.symm, fun C hC => (h.2 C hC).moved (by rw [hv]; exact Vm.Alike.refl _)⟩
/-- the contract of a constructor: the object's cell is the heap's last one; behind it N cells lie there, as Mf says -/
def nPc (D : va_G) (ca : Nat → ClassId) (ci : Nat) (fs : List Value) (a : Nat) : Array Value → State → Prop := va_Pc [.ref a] (fun U => U.heap.size = a + 1 ∧ va_P D clsB (mw a 1 (fun _ => .inr (ci, fs))) U.heap ∧ va_K D clsB (tyL ca) U ∧ ExI U)
theorem nPc_blind {D : va_G} {ca : Nat → ClassId} {ci : Nat} {fs : List Value} {a : Nat} : FrameBlind (nPc D ca ci fs a) := fun v U g mk q => by
  obtain ⟨q0, q1, qP, qK, qI⟩ := q
  exact ⟨q0, q1, qP, va_K.moved (u := U) (U := U.calling g mk v) (Vm.Alike.refl U.vm) qK, ExI.same (u := U) rfl qI⟩
abbrev CtN (l : Launch) (D : va_G) (ca : Nat → ClassId) (y : MethodName) (ws : List Cond) (rm : Room) (ci : Nat) (fs : List Value) (N : Nat) (Mf : Nat → Nat → va_E) (mc ms : Nat) : Prop :=
  ∀ a, Met l y ws rm (nPc D ca ci fs a) (va_Qv (fun M' : Nat → va_E => M' = Mf a) (mB D clsB (tyL ca) a N) (fun q => a ≤ q)) mc ms (fun q => a ≤ q)
abbrev rmK (f w k sl : Nat) : Room := { frames := f, cells := k, slots := sl, locals := w }
theorem ct_n {l : Launch} {D : va_G} {ca : Nat → ClassId} {y : MethodName} {rm : Room} {cc : ByteArray} {maxL ci N mc ms : Nat} {fs : List Value} {Mf : Nat → Nat → va_E} (own : String) (hy : plainName y.cls = true) (hown : y.cls = own) (hin : y.name = "<init>") (hml0 : 1 ≤ maxL) (hN : 1 ≤ N)
    (body : ∀ a (X : Zx), Cx D clsB (tyL ca) cc maxL own (Cond.code y cc maxL none :: gtb) X → ExI X.2.2.1 → X.2.2.2.2.2.2.1.name = "<init>" → Xs X a 1 0 → (∀ (M' : Nat → va_E) (pc : Nat) (L' : List (Nat × Value)), decode cc pc = .ok (.return_, 1) → (∀ o, o < N → M' o = Mf a o) → Z l D clsB a N rm maxL X mc ms M' pc L' []) → Z l D clsB a 1 rm maxL X 0 0 (fun _ => .inr (ci, fs)) 0 [(0, .ref a)] []) :
    CtN l D ca y (Cond.code y cc maxL none :: gtb) rm ci fs N Mf mc ms := fun a => by
  refine Met.ofW (cc := cc) (maxL := maxL) (ret := none) hy rfl ?_
  intro p e s m args below meth c s₁ B hml hv
  obtain ⟨rfl, hsz, hP, hK, hI⟩ := hv
  have hx := B.exec
  have hb := B.bytes
  have hr := B.returns
  have hts := atoms_spec (ws := Cond.code y cc maxL none :: gtb) B.pre
  have ho : s.vm.findClass own = some m.cls := by rw [← hown]; exact findClass_of_methodNamed B.named
  have hlocks := B.notSynchronized
  have hname : meth.name = "<init>" := by
    obtain ⟨meth', cM, hm', -⟩ := Cond.code_spec B.named (hts _ List.mem_cons_self)
    cases B.method.symm.trans hm'
    rw [(name_of_methodNamed B.named B.method).1]
    exact hin
  have hl := lv_entry [.ref a] (n := maxL) (by show ([Slot.val (Value.ref a)] : List Slot).length ≤ maxL; exact hml0)
  rw [lg_entry_eq]
  refine body a (p, e, s, m, [Value.ref a].toArray, below, meth, c, MQ below (va_Qv (fun M' : Nat → va_E => M' = Mf a) (mB D clsB (tyL ca) a N) (fun q => a ≤ q)) [Value.ref a].toArray s mc ms (fun q => a ≤ q)) ⟨hx, hb, hml, ho, hts, hK⟩ hI hname ⟨by show s.heap.size + 0 = _; omega, Or.inl (by decide)⟩ ?_ s.heap [] _ hP va_S.rf hl
  intro M' pc L' hd hM H locs ls hP' hS' hl'
  have hA : ∀ q, mA a N s.heap.size q → a ≤ q := fun q h => h.elim (fun h => h.1) (fun h => by omega)
  have hS2 := hS'.mono hA
  rw [mw_congr hM] at hP'
  exact W.vret hx hb hr (fun t ht hW => ⟨⟨Mf a, rfl, rfl, by rw [ht]; exact hP', va_K.moved hW.alike hK⟩, hS2.F ht⟩) hS2.2.2 hd hlocks
section YC
variable {l : Launch} {D : va_G} {ca : Nat → ClassId} {b n : Nat} {R : Room} {nL : Nat} {X : Zx} {k sl : Nat} {M : Nat → va_E} {pc : Nat} {L : List (Nat × Value)} {st : List Value} {cc : ByteArray} {own : String} {y0 : MethodName} {c0 : ByteArray} {n0 : Nat} {r0 : Option FieldType}
variable {y : MethodName} {bytes : ByteArray} {maxL index ci N mc ms : Nat} {rm : Room} {fs : List Value} {Mf : Nat → Nat → va_E}
/-- two blocks side by side -/
theorem mw_glue {D : va_G} {cl : List vw_C} {b n N : Nat} {M M' : Nat → va_E} {H : Heap} (h1 : va_P D cl (mw b n M) H) (h2 : va_P D cl (mw (b + n) N M') H) : va_P D cl (mw b (n + N) (fun o => if o < n then M o else M' (o - n))) H := by
  intro q x hx
  obtain ⟨h3, rfl⟩ := mw_inv hx
  by_cases hq : q < n
  · rw [if_pos hq]
    exact h1 q _ (mw_get hq)
  · rw [if_neg hq]
    have := h2 (q - n) _ (mw_get (by omega))
    rw [show b + n + (q - n) = b + q by omega] at this
    exact this
theorem mw_left {D : va_G} {cl : List vw_C} {b n N : Nat} {M : Nat → va_E} {H : Heap} (h1 : va_P D cl (mw b (n + N) M) H) : va_P D cl (mw b n M) H := by
  intro q x hx
  obtain ⟨h3, rfl⟩ := mw_inv hx
  exact h1 q _ (mw_get (by omega))
theorem mw_right {D : va_G} {cl : List vw_C} {b n N : Nat} {M : Nat → va_E} {H : Heap} (h1 : va_P D cl (mw b (n + N) M) H) : va_P D cl (mw (b + n) N (fun o => M (n + o))) H := by
  intro q x hx
  obtain ⟨h3, rfl⟩ := mw_inv hx
  have := h1 (n + q) _ (mw_get (by omega))
  rw [show b + (n + q) = b + n + q by omega] at this
  exact this
theorem y_run (C : Cx D clsB (tyL ca) cc nL own (Cond.code y0 c0 n0 r0 :: gtb) X) (hI : ExI X.2.2.1) (hsn : X.2.2.1.heap.size ≤ b + n) (hX : Xs X b (n + 1) k) (hMn : M n = .inr (ci, fs)) (hN : 1 ≤ N)
    (hrun : match X with
      | (p, e, s, m, args, below, meth, c, _) => ∀ (H : Heap) (locs : List Loc) (ls : Array Slot), lv_has ls nL L → PreS s H (nPc D ca ci fs (b + n)) [.ref (b + n)] → va_Run p l e R s m args below meth c H locs k sl mc ms (F0 m pc ls (.ref (b + n) :: st)) st ((va_Qv (fun M' : Nat → va_E => M' = Mf (b + n)) (mB D clsB (tyL ca) (b + n) N) (fun q => b + n ≤ q)) [Value.ref (b + n)].toArray) (fun q => b + n ≤ q))
    (kk : Z l D clsB b (n + N) R nL X (k + mc) (sl + ms) (fun o => if o < n then M o else Mf (b + n) (o - n)) (pc + 3) L st) : Z l D clsB b (n + 1) R nL X k sl M pc L (.ref (b + n) :: st) := by
  obtain ⟨p, e, s, m, args, below, meth, c, Q⟩ := X
  obtain ⟨hx, hb, hml, hown, hts, hK⟩ := C
  intro H locs ls hP hS hl
  refine W.size fun hle => ?_
  have hH := hX.at hP hS hle
  have hA : ∀ q, b + n ≤ q → mA b (n + N) s.heap.size q := fun q h => Or.inr (Nat.le_trans hsn h)
  have hS2 : va_S (mA b (n + N) s.heap.size) s.heap H locs := hS.mono (fun q h => h.elim (fun h => Or.inl ⟨h.1, by omega⟩) Or.inr)
  refine va_callv (hrun H locs ls hl ⟨nPc_blind, fun U hU hW => ⟨rfl, by rw [hU]; omega, ?_, va_K.moved hW.alike hK, hI.warm hW⟩⟩) hS2 (fun q _ h => hA q h) hA (fun u t H1 locs1 ht hvm hp hB hz1 hk1 hS1 => ?_)
  · rw [hU]
    have h1 := mw_right (n := n) (N := 1) hP
    rw [mw_congr (M' := fun _ => .inr (ci, fs)) (fun o ho => by rw [show o = 0 by omega]; exact hMn)] at h1
    exact h1
  · subst hp
    obtain ⟨hP1, -⟩ := hB
    rw [ht] at hP1
    refine kk H1 locs1 ls (mw_glue (mw_kept (mw_left (n := n) (N := 1) hP) (fun q g1 g2 => hk1 q (by omega) (by omega))) hP1) hS1 hl
/-- a constructor of a nest mate -/
theorem y_initN {y : MethodName} (C : Cx D clsB (tyL ca) cc nL own (Cond.code y0 c0 n0 r0 :: gtb) X) (hd : decode cc pc = .ok (.invokespecial index, 3)) (hM : CtN l D ca y (Cond.code y bytes maxL none :: gtb) rm ci fs N Mf mc ms) (hI : ExI X.2.2.1) (hne : (own, index, y) ∈ nests) (h2 : Cond.instanceMethod y ∈ gtb) (h4 : Cond.initialized y.cls ∈ gtb) (h5 : Cond.code y bytes maxL none ∈ gtb)
    (hds : y.name = "<init>" ∧ y.cls ≠ "java/lang/invoke/MethodHandle" ∧ y.cls ≠ "java/lang/invoke/VarHandle" ∧ (parseMethodDescriptor y.desc).map (fun d => d.parameters.length) = some 0)
    (hR : (rm.frames + 1 ≤ R.frames ∧ 8 + (maxL + 11) + rm.locals ≤ R.locals) ∧ rm.cells = mc ∧ rm.slots = ms ∧ k + mc ≤ R.cells ∧ sl + ms ≤ R.slots) (hst : (st.map fun v => v.category).sum ≤ 8) (hsn : X.2.2.1.heap.size ≤ b + n) (hX : Xs X b (n + 1) k) (hMn : M n = .inr (ci, fs)) (hN : 1 ≤ N)
    (kk : Z l D clsB b (n + N) R nL X (k + mc) (sl + ms) (fun o => if o < n then M o else Mf (b + n) (o - n)) (pc + 3) L st) : Z l D clsB b (n + 1) R nL X k sl M pc L (.ref (b + n) :: st) := by
  refine y_run C hI hsn hX hMn hN ?_ kk
  obtain ⟨p, e, s, m, args, below, meth, c, Q⟩ := X
  obtain ⟨hx, hb, hml, hown, hts, hK⟩ := C
  intro H locs ls hl hp
  exact va_runIN (As := []) (rest := st) ⟨hx, hb, hml, hown, hts⟩ (hM (b + n)) ⟨va_cnB 0 hts (gd_tbl (gd_code h5)) rfl hR.2.1 hR.2.2.1 (hI.1 _ hne) (hts _ (List.mem_cons_of_mem _ h4)) hds.2 hR.1, hds.1, hts _ (List.mem_cons_of_mem _ h2)⟩ hp rfl rfl hl.1 rfl (lv_room hst) hd ⟨hR.2.2.2.1, hR.2.2.2.2⟩
/-- a constructor that is no nest mate's private one -/
theorem y_initP {y : MethodName} (C : Cx D clsB (tyL ca) cc nL own (Cond.code y0 c0 n0 r0 :: gtb) X) (hd : decode cc pc = .ok (.invokespecial index, 3)) (hM : CtN l D ca y (Cond.code y bytes maxL none :: gtb) rm ci fs N Mf mc ms) (hI : ExI X.2.2.1) (h1 : Cond.methodLink own index y ∈ gtb) (h2 : Cond.instanceMethod y ∈ gtb) (h4 : Cond.initialized y.cls ∈ gtb) (h5 : Cond.code y bytes maxL none ∈ gtb)
    (hds : y.name = "<init>" ∧ y.cls ≠ "java/lang/invoke/MethodHandle" ∧ y.cls ≠ "java/lang/invoke/VarHandle" ∧ (parseMethodDescriptor y.desc).map (fun d => d.parameters.length) = some 0)
    (hR : (rm.frames + 1 ≤ R.frames ∧ 8 + (maxL + 11) + rm.locals ≤ R.locals) ∧ rm.cells = mc ∧ rm.slots = ms ∧ k + mc ≤ R.cells ∧ sl + ms ≤ R.slots) (hst : (st.map fun v => v.category).sum ≤ 8) (hsn : X.2.2.1.heap.size ≤ b + n) (hX : Xs X b (n + 1) k) (hMn : M n = .inr (ci, fs)) (hN : 1 ≤ N)
    (kk : Z l D clsB b (n + N) R nL X (k + mc) (sl + ms) (fun o => if o < n then M o else Mf (b + n) (o - n)) (pc + 3) L st) : Z l D clsB b (n + 1) R nL X k sl M pc L (.ref (b + n) :: st) := by
  refine y_run C hI hsn hX hMn hN ?_ kk
  obtain ⟨p, e, s, m, args, below, meth, c, Q⟩ := X
  obtain ⟨hx, hb, hml, hown, hts, hK⟩ := C
  intro H locs ls hl hp
  have hcb : CallB R s args own index y bytes maxL none (Cond.code y bytes maxL none :: gtb) rm mc ms 0 := callB_of 0 hts (gd_tbl (gd_code h5)) rfl hR.2.1 hR.2.2.1 (hts _ (List.mem_cons_of_mem _ h4)) (hts _ (List.mem_cons_of_mem _ h1)) hds.2 hR.1
  exact va_runI (As := []) (rest := st) ⟨hx, hb, hml, hown, hts⟩ (hM (b + n)) ⟨hcb, hds.1, hts _ (List.mem_cons_of_mem _ h2)⟩ hp rfl rfl hl.1 rfl (lv_room hst) hd ⟨hR.2.2.2.1, hR.2.2.2.2⟩
end YC
