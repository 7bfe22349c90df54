/-! The five exceptions of the bus, and the contract of a method that may throw one of them. -/
def chkX : List Cond → List Nat → Bool
  | [], [] => true
  | w :: ws, i :: is => (if i < 2000 then decide (tables_1[i]? = some w) && xok w else decide (xst[i - 2000]? = some w)) && chkX ws is
  | _, _ => false
theorem chkX_spec : ∀ (ws : List Cond) (is : List Nat), chkX ws is = true → ∀ w ∈ ws, w ∈ xwl ∨ w ∈ xst := by
  intro ws
  induction ws with
  | nil => intro is _ w hw; cases hw
  | cons a r ih =>
    intro is h w hw
    cases is with
    | nil => simp [chkX] at h
    | cons i is =>
      have h' : ((if i < 2000 then decide (tables_1[i]? = some a) && xok a else decide (xst[i - 2000]? = some a)) && chkX r is) = true := h
      obtain ⟨h1, h2⟩ := Bool.and_eq_true_iff.mp h'
      rcases List.mem_cons.mp hw with e | e
      · subst e
        by_cases hi : i < 2000
        · rw [if_pos hi] at h1
          obtain ⟨g1, g2⟩ := Bool.and_eq_true_iff.mp h1
          exact Or.inl (xwl_of (List.mem_of_getElem? (of_decide_eq_true g1)) g2)
        · rw [if_neg hi] at h1
          exact Or.inr (List.mem_of_getElem? (of_decide_eq_true h1))
      · exact ih is h2 w e
def xIAE : String := "java/lang/IllegalArgumentException"
set_option maxRecDepth 100000 in
theorem XC_IAE : XC 78 82 xIAE := ⟨xwl_of (List.mem_of_getElem? (i := 289) (by decide +kernel)) (by decide +kernel), xwl_of (List.mem_of_getElem? (i := 14) (by decide +kernel)) (by decide +kernel), xwl_of (List.mem_of_getElem? (i := 290) (by decide +kernel)) (by decide +kernel), ⟨7, prog_14_method_2_code, chkX_spec _ [11, 311, 320, 326, 329, 331, 312, 313, 27, 28, 314, 319, 327, 347, 301, 348, 303, 349, 305, 315, 2000, 317, 2001, 307, 343, 344, 346, 307, 334, 335, 336, 337, 293, 337, 338, 339, 340, 295, 340, 341, 342, 343, 297, 333, 290, 298, 299, 300, 302, 304, 306, 2002, 2003, 310, 309, 308] (by decide +kernel), by decide +kernel, by decide +kernel, by decide +kernel, by decide +kernel⟩, by decide +kernel⟩
def xISE : String := "java/lang/IllegalStateException"
set_option maxRecDepth 100000 in
theorem XC_ISE : XC 89 93 xISE := ⟨xwl_of (List.mem_of_getElem? (i := 359) (by decide +kernel)) (by decide +kernel), xwl_of (List.mem_of_getElem? (i := 15) (by decide +kernel)) (by decide +kernel), xwl_of (List.mem_of_getElem? (i := 360) (by decide +kernel)) (by decide +kernel), ⟨7, prog_15_method_2_code, chkX_spec _ [11, 311, 320, 326, 329, 331, 312, 313, 27, 28, 314, 319, 327, 347, 301, 348, 303, 349, 305, 315, 2000, 317, 2001, 307, 343, 344, 346, 307, 370, 371, 372, 337, 293, 337, 338, 339, 340, 295, 340, 341, 342, 343, 297, 369, 360, 362, 323, 363, 364, 365, 366, 2002, 2003, 310, 309, 367] (by decide +kernel), by decide +kernel, by decide +kernel, by decide +kernel, by decide +kernel⟩, by decide +kernel⟩
def xNSE : String := "java/util/NoSuchElementException"
set_option maxRecDepth 100000 in
theorem XC_NSE : XC 98 102 xNSE := ⟨xwl_of (List.mem_of_getElem? (i := 387) (by decide +kernel)) (by decide +kernel), xwl_of (List.mem_of_getElem? (i := 16) (by decide +kernel)) (by decide +kernel), xwl_of (List.mem_of_getElem? (i := 388) (by decide +kernel)) (by decide +kernel), ⟨13, prog_22_method_4_code, chkX_spec _ [11, 311, 320, 326, 329, 331, 312, 313, 27, 28, 314, 319, 327, 347, 301, 348, 303, 349, 305, 315, 2000, 317, 2001, 307, 343, 344, 346, 307, 398, 399, 400, 337, 293, 337, 338, 339, 340, 295, 340, 341, 342, 343, 297, 397, 388, 390, 325, 391, 392, 393, 394, 2002, 2003, 310, 309, 395] (by decide +kernel), by decide +kernel, by decide +kernel, by decide +kernel, by decide +kernel⟩, by decide +kernel⟩
def xARI : String := "java/lang/ArithmeticException"
set_option maxRecDepth 100000 in
theorem XC_ARI : XC 203 207 xARI := ⟨xwl_of (List.mem_of_getElem? (i := 520) (by decide +kernel)) (by decide +kernel), xwl_of (List.mem_of_getElem? (i := 19) (by decide +kernel)) (by decide +kernel), xwl_of (List.mem_of_getElem? (i := 521) (by decide +kernel)) (by decide +kernel), ⟨7, prog_12_method_2_code, chkX_spec _ [11, 311, 320, 326, 329, 331, 312, 313, 27, 28, 314, 319, 327, 347, 301, 348, 303, 349, 305, 315, 2000, 317, 2001, 307, 343, 344, 346, 307, 531, 532, 533, 337, 293, 337, 338, 339, 340, 295, 340, 341, 342, 343, 297, 530, 521, 523, 322, 524, 525, 526, 527, 2002, 2003, 310, 309, 528] (by decide +kernel), by decide +kernel, by decide +kernel, by decide +kernel, by decide +kernel⟩, by decide +kernel⟩
def xUNS : String := "java/lang/UnsupportedOperationException"
set_option maxRecDepth 100000 in
theorem XC_UNS : XC 239 243 xUNS := ⟨xwl_of (List.mem_of_getElem? (i := 618) (by decide +kernel)) (by decide +kernel), xwl_of (List.mem_of_getElem? (i := 20) (by decide +kernel)) (by decide +kernel), xwl_of (List.mem_of_getElem? (i := 619) (by decide +kernel)) (by decide +kernel), ⟨7, prog_21_method_2_code, chkX_spec _ [11, 311, 320, 326, 329, 331, 312, 313, 27, 28, 314, 319, 327, 347, 301, 348, 303, 349, 305, 315, 2000, 317, 2001, 307, 343, 344, 346, 307, 629, 630, 631, 337, 293, 337, 338, 339, 340, 295, 340, 341, 342, 343, 297, 628, 619, 621, 324, 622, 623, 624, 625, 2002, 2003, 310, 309, 626] (by decide +kernel), by decide +kernel, by decide +kernel, by decide +kernel, by decide +kernel⟩, by decide +kernel⟩
def xstr : List (Nat × String) := [(80, "no such number of a node"), (91, "the node is there"), (100, "no such node"), (110, "no such topic"), (119, "no such topic or depth"), (154, "the node is not subscribed"), (165, "no such topic or action"), (186, "no such service or kind of it"), (195, "no such service"), (201, "none offers the service, or one that it asks"), (205, "the service would divide by 0"), (208, "no such number of ticks"), (213, "no such variable"), (219, "no such node or queue"), (221, "no such message"), (223, "no such part of a message"), (231, "no such speed"), (236, "the bag is playing"), (241, "the bag is empty"), (248, "no such frame or parent"), (253, "the frame would be above itself"), (259, "the frame has no parent"), (266, "no such place, turn or time"), (271, "the time is not greater than the last one"), (280, "no such frame or point"), (282, "the frames above do not lead to the root"), (293, "a frame is nowhere at that time"), (297, "nothing is counted under that number")]
def ExR (U : State) : Prop := ∀ q ∈ xstr, ∃ a, vk_R R_Bus q.1 q.2 a U
theorem ExR.warm {s U : State} (hW : s.WarmedH U.vm) (h : ExR s) : ExR U := fun q hq => by
  obtain ⟨a, ha⟩ := h q hq
  exact ⟨a, ha.warm hW⟩
theorem ExR.same {u U : State} (hv : U.vm = u.vm) (h : ExR u) : ExR U := fun q hq => by
  obtain ⟨a, ha⟩ := h q hq
  exact ⟨a, ha.same hv⟩
def mPcX (D : va_G) (cl : List vw_C) (tys : List (ClassId × FieldType)) (b n sz : Nat) (M : Nat → va_E) (av : List Value) : Array Value → State → Prop :=
  va_Pc av (fun U => U.heap.size = sz ∧ va_P D cl (mw b n M) U.heap ∧ va_K D cl tys U ∧ ExT U ∧ ExZ (mA b n sz) U ∧ ExR U)
theorem mPcX_blind {D : va_G} {cl : List vw_C} {tys : List (ClassId × FieldType)} {b n sz : Nat} {M : Nat → va_E} {av : List Value} : FrameBlind (mPcX D cl tys b n sz M av) := fun a U g mk q => by
  obtain ⟨q0, q1, qP, qK, qT, qZ, qR⟩ := q
  exact ⟨q0, q1, qP, va_K.moved (u := U) (U := U.calling g mk a) (Vm.Alike.refl U.vm) qK, ExT.same (u := U) rfl qT, ⟨exZ.kept (U := U) rfl (fun _ _ _ => rfl) qZ.1, exZ.kept (U := U) rfl (fun _ _ _ => rfl) qZ.2⟩, ExR.same (u := U) rfl qR⟩
/-- how a method ended: a value, or the name of the class of what it threw -/
abbrev Out : Type := Value ⊕ String
def outB (r : Out) (oc : Outcome) (t : State) : Prop := match r with
  | .inl v => oc = .returned (some v)
  | .inr cls => ∃ (x : Nat) (ce : Cell), oc = .threw x ∧ t.heap[x]? = some ce ∧ t.vm.findClass cls = some ce.cls ∧ ce.vm.isStatics = false
def QX {S : Type} (post : Out → S → Prop) (B : S → State → Prop) (A : Nat → Prop) : Array Value → State → Outcome → State → Prop := fun _ st oc t => (∃ (r : Out) (u : S), post r u ∧ B u t ∧ outB r oc t) ∧ va_F A st t
abbrev rmX (f w : Nat) : Room := { frames := f, cells := 1, slots := 6, locals := w }
abbrev CtX (l : Launch) (D : va_G) (ca : Nat → ClassId) (b : Nat) (y : MethodName) (ws : List Cond) (rm : Room) (σ : Sg) (av : List Value) (post : Out → Sg → Prop) : Prop :=
  ∀ sz, MetX l y ws rm (mPcX D clsB (tyL ca) b 182 sz (enc b ca SB σ) av) (QX (fun r M' => ∃ σ', M' = enc b ca SB σ' ∧ post r σ') (mB D clsB (tyL ca) b 182) (mA b 182 sz)) 1 6 (mA b 182 sz)
set_option maxHeartbeats 1000000 in
theorem cx_i {l : Launch} {D : va_G} {ca : Nat → ClassId} {b : Nat} {y : MethodName} {rm : Room} {cc : ByteArray} {maxL : Nat} {σ : Sg} {av : List Value} {post : Out → Sg → Prop} (own : String) (L : List (Nat × Value)) (hl : l.stackTraces = false) (hy : plainName y.cls = true) (ho1 : own = R_Bus) (hown : y.cls = own) (hlen : (lg_sl av).length ≤ maxL) (hL : lv_args 0 av = L)
    (hrm : 6 ≤ rm.frames ∧ 82 ≤ rm.locals ∧ 1 ≤ rm.cells ∧ 6 ≤ rm.slots)
    (body : ∀ X : Zx, Cs D ca cc maxL own (Cond.code y cc maxL (some .int)) X → (∀ (v : Int32) (σ' : Sg) (pc : Nat) (L' : List (Nat × Value)), decode cc pc = .ok (.ireturn, 1) → post (.inl (.int v)) σ' → Zs l D ca SB b 182 rm maxL X σ' pc L' [.int v]) →
      (∀ (cls : String) (σ' : Sg) (pc i1 i2 i3 w3 : Nat) (tx : String) (L' : List (Nat × Value)), XC i1 i3 cls → (i2, tx) ∈ xstr → (decode cc (pc + 4) = .ok (.ldc i2, 2) ∧ w3 = 2) ∨ (decode cc (pc + 4) = .ok (.ldc_w i2, 3) ∧ w3 = 3) → decode cc pc = .ok (.new i1, 3) → decode cc (pc + 3) = .ok (.dup, 1) → decode cc (pc + 4 + w3) = .ok (.invokespecial i3, 3) → decode cc (pc + 4 + w3 + 3) = .ok (.athrow, 1) → post (.inr cls) σ' → Zs l D ca SB b 182 rm maxL X σ' pc L' []) →
      Zs l D ca SB b 182 rm maxL X σ 0 L []) :
    CtX l D ca b y (Cond.code y cc maxL (some .int) :: gtb) rm σ av post := fun sz => by
  refine MetX.ofW (cc := cc) (maxL := maxL) (ret := some .int) hy rfl ?_
  intro p e s m args below meth c s₁ B hml hv
  obtain ⟨rfl, hsz, hP, hK, hT, hZ, hR⟩ := hv
  have hx := B.exec
  have hb := B.bytes
  have hr := B.returns
  have hts := atoms_spec (ws := Cond.code y cc maxL (some .int) :: gtb) B.pre
  have hne := B.noHandlers (hts _ List.mem_cons_self)
  have ho : s.vm.findClass own = some m.cls := by rw [← hown]; exact findClass_of_methodNamed B.named
  have hlocks := B.notSynchronized
  subst hsz
  have hl2 := lv_entry av (n := maxL) hlen
  rw [lg_entry_eq]
  rw [hL] at hl2
  refine body (p, e, s, m, av.toArray, below, meth, c, MQX below (QX (fun r M' => ∃ σ', M' = enc b ca SB σ' ∧ post r σ') (mB D clsB (tyL ca) b 182) (mA b 182 s.heap.size)) av.toArray s 1 6 (mA b 182 s.heap.size)) ⟨hx, hb, hml, ho, hts, hK⟩ ?_ ?_ s.heap [] _ hP va_S.rf hl2
  · intro v σ' pc L' hd hp H locs ls hP' hS' hl'
    refine W.monoQ (fun t h => MQ.toX (Nat.zero_le _) (Nat.zero_le _) h) (W.iret (v := v) hx hb hr (fun t ht hW => ⟨⟨.inl (.int v), _, ⟨σ', rfl, hp⟩, ⟨by rw [ht]; exact hP', va_K.moved hW.alike hK⟩, rfl⟩, hS'.F ht⟩) hS'.2.2 hd hlocks)
  · intro cls σ' pc i1 i2 i3 w3 tx L' hXC hstr hld hd1 hd2 hd4 hd5 hp H locs ls hP' hS' hl'
    obtain ⟨sa, hsa⟩ := hR (i2, tx) hstr
    rw [ho1] at ho
    refine ex_throw (i1 := i1) (i3 := i3) (cls := cls) (A := mA b 182 s.heap.size) (sa := sa) (w3 := w3) hx hb hl hlocks hT hZ ho hne hS' hXC ?_ hd1 hd2 hd4 hd5 hrm (hl'.1.trans hml.symm) ?_ hS'.2.2
    · intro T s' R' L2 k' n' g hW Xs hg hpc target htg
      have hs' := hsa.warm hW
      have ho' : s'.vm.findClass R_Bus = some m.cls := by rw [hW.alike.findClass]; exact ho
      rcases hld with ⟨h1, h2⟩ | ⟨h1, h2⟩
      · subst h2
        rw [← hpc] at htg
        exact Xs.ldcString hx (own := R_Bus) (index := i2) (text := tx) (a := sa) ho' hs'.1 hs'.2 hg (by rw [hb, hpc]; exact h1) target htg
      · subst h2
        rw [← hpc] at htg
        exact Xs.ldcStringW hx (own := R_Bus) (index := i2) (text := tx) (a := sa) ho' hs'.1 hs'.2 hg (by rw [hb, hpc]; exact h1) target htg
    · intro t x ce hW hsz hkeep hce hcl hst
      have hle := hS'.1
      refine ⟨⟨.inr cls, _, ⟨σ', rfl, hp⟩, ⟨mw_kept hP' (fun q h1 h2 => hkeep q (Nat.lt_of_lt_of_le h2 (mw_le hP' (by decide)))), va_K.moved hW.alike hK⟩, x, ce, rfl, hce, hcl, hst⟩, Nat.le_trans hle hsz, fun q h1 h2 => ?_⟩
      rw [hkeep q (Nat.lt_of_lt_of_le h1 hle)]
      exact hS'.2.1 q h1 h2
set_option maxHeartbeats 1000000 in
theorem cx_d {l : Launch} {D : va_G} {ca : Nat → ClassId} {b : Nat} {y : MethodName} {rm : Room} {cc : ByteArray} {maxL : Nat} {σ : Sg} {av : List Value} {post : Out → Sg → Prop} (own : String) (L : List (Nat × Value)) (hl : l.stackTraces = false) (hy : plainName y.cls = true) (ho1 : own = R_Bus) (hown : y.cls = own) (hlen : (lg_sl av).length ≤ maxL) (hL : lv_args 0 av = L)
    (hrm : 6 ≤ rm.frames ∧ 82 ≤ rm.locals ∧ 1 ≤ rm.cells ∧ 6 ≤ rm.slots)
    (body : ∀ X : Zx, Cs D ca cc maxL own (Cond.code y cc maxL (some .double)) X → (∀ (v : UInt64) (σ' : Sg) (pc : Nat) (L' : List (Nat × Value)), decode cc pc = .ok (.dreturn, 1) → post (.inl (.double v)) σ' → Zs l D ca SB b 182 rm maxL X σ' pc L' [.double v]) →
      (∀ (cls : String) (σ' : Sg) (pc i1 i2 i3 w3 : Nat) (tx : String) (L' : List (Nat × Value)), XC i1 i3 cls → (i2, tx) ∈ xstr → (decode cc (pc + 4) = .ok (.ldc i2, 2) ∧ w3 = 2) ∨ (decode cc (pc + 4) = .ok (.ldc_w i2, 3) ∧ w3 = 3) → decode cc pc = .ok (.new i1, 3) → decode cc (pc + 3) = .ok (.dup, 1) → decode cc (pc + 4 + w3) = .ok (.invokespecial i3, 3) → decode cc (pc + 4 + w3 + 3) = .ok (.athrow, 1) → post (.inr cls) σ' → Zs l D ca SB b 182 rm maxL X σ' pc L' []) →
      Zs l D ca SB b 182 rm maxL X σ 0 L []) :
    CtX l D ca b y (Cond.code y cc maxL (some .double) :: gtb) rm σ av post := fun sz => by
  refine MetX.ofW (cc := cc) (maxL := maxL) (ret := some .double) hy rfl ?_
  intro p e s m args below meth c s₁ B hml hv
  obtain ⟨rfl, hsz, hP, hK, hT, hZ, hR⟩ := hv
  have hx := B.exec
  have hb := B.bytes
  have hr := B.returns
  have hts := atoms_spec (ws := Cond.code y cc maxL (some .double) :: gtb) B.pre
  have hne := B.noHandlers (hts _ List.mem_cons_self)
  have ho : s.vm.findClass own = some m.cls := by rw [← hown]; exact findClass_of_methodNamed B.named
  have hlocks := B.notSynchronized
  subst hsz
  have hl2 := lv_entry av (n := maxL) hlen
  rw [lg_entry_eq]
  rw [hL] at hl2
  refine body (p, e, s, m, av.toArray, below, meth, c, MQX below (QX (fun r M' => ∃ σ', M' = enc b ca SB σ' ∧ post r σ') (mB D clsB (tyL ca) b 182) (mA b 182 s.heap.size)) av.toArray s 1 6 (mA b 182 s.heap.size)) ⟨hx, hb, hml, ho, hts, hK⟩ ?_ ?_ s.heap [] _ hP va_S.rf hl2
  · intro v σ' pc L' hd hp H locs ls hP' hS' hl'
    refine W.monoQ (fun t h => MQ.toX (Nat.zero_le _) (Nat.zero_le _) h) (W.dret (v := v) hx hb hr (fun t ht hW => ⟨⟨.inl (.double v), _, ⟨σ', rfl, hp⟩, ⟨by rw [ht]; exact hP', va_K.moved hW.alike hK⟩, rfl⟩, hS'.F ht⟩) hS'.2.2 hd hlocks)
  · intro cls σ' pc i1 i2 i3 w3 tx L' hXC hstr hld hd1 hd2 hd4 hd5 hp H locs ls hP' hS' hl'
    obtain ⟨sa, hsa⟩ := hR (i2, tx) hstr
    rw [ho1] at ho
    refine ex_throw (i1 := i1) (i3 := i3) (cls := cls) (A := mA b 182 s.heap.size) (sa := sa) (w3 := w3) hx hb hl hlocks hT hZ ho hne hS' hXC ?_ hd1 hd2 hd4 hd5 hrm (hl'.1.trans hml.symm) ?_ hS'.2.2
    · intro T s' R' L2 k' n' g hW Xs hg hpc target htg
      have hs' := hsa.warm hW
      have ho' : s'.vm.findClass R_Bus = some m.cls := by rw [hW.alike.findClass]; exact ho
      rcases hld with ⟨h1, h2⟩ | ⟨h1, h2⟩
      · subst h2
        rw [← hpc] at htg
        exact Xs.ldcString hx (own := R_Bus) (index := i2) (text := tx) (a := sa) ho' hs'.1 hs'.2 hg (by rw [hb, hpc]; exact h1) target htg
      · subst h2
        rw [← hpc] at htg
        exact Xs.ldcStringW hx (own := R_Bus) (index := i2) (text := tx) (a := sa) ho' hs'.1 hs'.2 hg (by rw [hb, hpc]; exact h1) target htg
    · intro t x ce hW hsz hkeep hce hcl hst
      have hle := hS'.1
      refine ⟨⟨.inr cls, _, ⟨σ', rfl, hp⟩, ⟨mw_kept hP' (fun q h1 h2 => hkeep q (Nat.lt_of_lt_of_le h2 (mw_le hP' (by decide)))), va_K.moved hW.alike hK⟩, x, ce, rfl, hce, hcl, hst⟩, Nat.le_trans hle hsz, fun q h1 h2 => ?_⟩
      rw [hkeep q (Nat.lt_of_lt_of_le h1 hle)]
      exact hS'.2.1 q h1 h2
