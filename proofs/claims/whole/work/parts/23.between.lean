/-! Methods that answer a long; Math.floorDiv -/
abbrev CtL (l : Launch) (D : va_G) (ca : Nat → ClassId) (S : List Cee) (b n : Nat) (y : MethodName) (ws : List Cond) (rm : Room) (σ : Sg) (av : List Value) (post : Int64 → Sg → Prop) : Prop :=
  ∀ sz, Met l y ws rm (mPc D clsB (tyL ca) b n sz (enc b ca S σ) av) (va_Ql (fun r M' => ∃ σ', M' = enc b ca S σ' ∧ post r σ') (mB D clsB (tyL ca) b n) (mA b n sz)) 0 0 (mA b n sz)
theorem bm_l {l : Launch} {y : MethodName} {ws ws' : List Cond} {rm : Room} {cc : ByteArray} {maxL : Nat} {D : va_G} {cl : List vw_C} {tys : List (ClassId × FieldType)} {b n sz : Nat} {M : Nat → va_E} {av : List Value} {own : String} {L : List (Nat × Value)} {post : Int64 → (Nat → va_E) → Prop} (hy : plainFor y = true) (hw : ws = Cond.code y cc maxL (some .long) :: ws') (hown : y.cls = own) (hlen : (lg_sl av).length ≤ maxL) (hL : lv_args 0 av = L)
    (body : ∀ X : Zx, Cx D cl tys cc maxL own ws X → (∀ (v : Int64) (M' : Nat → va_E) (pc : Nat) (L' : List (Nat × Value)), decode cc pc = .ok (.lreturn, 1) → post v M' → Z l D cl b n rm maxL X 0 0 M' pc L' [.long v]) → Z l D cl b n rm maxL X 0 0 M 0 L []) :
    Met l y ws rm (mPc D cl tys b n sz M av) (va_Ql post (mB D cl tys b n) (mA b n sz)) 0 0 (mA b n sz) := by
  refine va_MetF (cc := cc) (maxL := maxL) (ret := some .long) hy hw ?_
  intro p e s m args below meth c s₁ B hml hv
  obtain ⟨rfl, hsz, hP, hK⟩ := hv
  have hx := B.exec
  have hb := B.bytes
  have hr := B.returns
  have hts := atoms_spec (ws := ws) B.pre
  have ho : s.vm.findClass own = some m.cls := by rw [← hown]; exact findClass_of_methodNamed B.named
  have hlocks := B.notSynchronized
  subst hsz
  have hl := lv_entry av (n := maxL) hlen
  rw [lg_entry_eq]
  rw [hL] at hl
  refine body (p, e, s, m, av.toArray, below, meth, c, MQ below (va_Ql post (mB D cl tys b n) (mA b n s.heap.size)) av.toArray s 0 0 (mA b n s.heap.size)) ⟨hx, hb, hml, ho, hts, hK⟩ ?_ s.heap [] _ hP va_S.rf hl
  intro v M' pc L' hd hp H locs ls hP' hS' hl'
  exact W.lret (v := v) hx hb hr (fun t ht hW => ⟨⟨v, M', rfl, hp, by rw [ht]; exact hP', va_K.moved hW.alike hK⟩, hS'.F ht⟩) hS'.2.2 hd hlocks
theorem ct_l {l : Launch} {D : va_G} {ca : Nat → ClassId} {S : List Cee} {b n : Nat} {y : MethodName} {rm : Room} {cc : ByteArray} {maxL : Nat} {σ : Sg} {av : List Value} {post : Int64 → Sg → Prop} (own : String) (L : List (Nat × Value)) (hy : plainFor y = true) (hown : y.cls = own) (hlen : (lg_sl av).length ≤ maxL) (hL : lv_args 0 av = L)
    (body : ∀ X : Zx, Cs D ca cc maxL own (Cond.code y cc maxL (some .long)) X → (∀ (v : Int64) (σ' : Sg) (pc : Nat) (L' : List (Nat × Value)), decode cc pc = .ok (.lreturn, 1) → post v σ' → Zs l D ca S b n rm maxL X σ' pc L' [.long v]) → Zs l D ca S b n rm maxL X σ 0 L []) :
    CtL l D ca S b n y (Cond.code y cc maxL (some .long) :: gtb) rm σ av post := fun sz =>
  bm_l hy rfl hown hlen hL (fun X C hret => body X C (fun v σ' pc L' hd hp => hret v _ pc L' hd ⟨σ', rfl, hp⟩))
/-- a call of a static method, of whatever class, that answers a long -/
theorem zf_Sl {l : Launch} {D : va_G} {ca : Nat → ClassId} {S : List Cee} {b n : Nat} {R : Room} {nL : Nat} {X : Zx} {σ σ0 : Sg} {pc : Nat} {L : List (Nat × Value)} {st : List Value} {cc : ByteArray} {own : String} {y0 : MethodName} {c0 : ByteArray} {n0 : Nat} {r0 : Option FieldType} {v0 : Int64} {y : MethodName} {bytes : ByteArray} {maxL index : Nat} {ret : Option FieldType} {rm : Room} {As : List Value} {C0 : String}
    (C : Cs D ca cc nL own (Cond.code y0 c0 n0 r0) X) (hd : decode cc pc = .ok (.invokestatic index, 3)) (hM : CtL l D ca S b n y (Cond.code y bytes maxL ret :: gtb) rm σ As (fun r σ' => r = v0 ∧ σ' = σ0))
    (h1 : Cond.methodLink own index y ∈ gtb) (h2 : Cond.static y ∈ gtb) (h4 : Cond.initialized C0 ∈ gtb) (h5 : Cond.code y bytes maxL ret ∈ gtb)
    (hds : y.cls = C0 ∧ y.cls ≠ "java/lang/invoke/MethodHandle" ∧ y.cls ≠ "java/lang/invoke/VarHandle" ∧ (parseMethodDescriptor y.desc).map (fun d => d.parameters.length) = some As.length)
    (hR : (rm.frames + 1 ≤ R.frames ∧ 8 + (maxL + 11) + rm.locals ≤ R.locals) ∧ rm.cells = 0 ∧ rm.slots = 0 ∧ 0 ≤ R.cells ∧ 0 ≤ R.slots) (hst : (st.map fun v => v.category).sum ≤ 8) {st0 : List Value} (hs0 : st0 = As.reverse ++ st)
    (kk : Zs l D ca S b n R nL X σ0 (pc + 3) L (.long v0 :: st)) : Zs l D ca S b n R nL X σ pc L st0 := by
  obtain ⟨p, e, s, m, args, below, meth, c, Q⟩ := X
  obtain ⟨hx, hb, hml, hown, hts, hK⟩ := C
  subst hs0
  obtain ⟨rfl, hd2⟩ := hds
  intro H locs ls hP hS hl
  have hG : GoodIn (Cond.code y0 c0 n0 r0 :: gtb) (va_wsS own index y (Cond.code y bytes maxL ret :: gtb)) := by
    refine gd_tbl fun w hw => ?_
    rcases List.mem_append.mp hw with h | h
    · simp only [List.mem_cons, List.not_mem_nil, or_false] at h
      rcases h with rfl | rfl | rfl <;> assumption
    · exact gd_code h5 w h
  refine va_calll (va_runS (As := As) (rest := st) ⟨hx, hb, hml, hown, hts⟩ (hM H.size) (va_cwS As.length hts hG rfl hR.2.1 hR.2.2.1 hd2 hR.1) ⟨mPc_blind, fun U hU hW => ⟨rfl, by rw [hU], by rw [hU]; exact hP, va_K.moved hW.alike hK⟩⟩ rfl rfl hl.1 rfl (lv_room hst) hd ⟨hR.2.2.2.1, hR.2.2.2.2⟩) hS (fun q _ h => mA_le hS.1 q h) (mA_le hS.1) (fun r u t H1 locs1 ht hvm hp hB hz1 hk1 hS1 => ?_)
  obtain ⟨hP1, hK1⟩ := hB
  rw [ht] at hP1
  obtain ⟨σ', rfl, hr1, hr2⟩ := hp
  subst hr1; subst hr2
  exact kk H1 locs1 ls hP1 hS1 hl
/-- floorDiv as its code has it -/
def fdv (x y : Int64) : Int64 := if 0 ≤ lg_cmp (x ^^^ y) 0 then x / y else if lg_cmp (x / y * y) x = 0 then x / y else x / y - 1
set_option maxRecDepth 100000 in
set_option maxHeartbeats 4000000 in
/-- Math.floorDiv -/
theorem c_Math_floorDiv (l : Launch) (D : va_G) (ca : Nat → ClassId) (b : Nat) (σ : Sg) {n : Nat} {S : List Cee} (x y : Int64) (hy : ¬ y = 0) : CtL l D ca S b n y_Math_floorDiv w_Math_floorDiv (rmN 0 0) σ [.long x, .long y] (fun r σ' => r = fdv x y ∧ σ' = σ) := by
  refine ct_l "java/lang/Math" [(0, .long x), (2, .long y)] (by decide +kernel) rfl (Nat.le_of_ble_eq_true rfl) rfl (fun X C hret => ?_)
  refine z_lload_n C d_Math_floorDiv_0 rfl 0 rfl ?_
  refine z_lload_n C d_Math_floorDiv_1 rfl 1 rfl ?_
  refine z_ldiv C d_Math_floorDiv_2 hy ?_
  refine z_lstore C d_Math_floorDiv_3 (by decide) [(4, .long (x / y)), (0, .long x), (2, .long y)] rfl ?_
  refine z_lload_n C d_Math_floorDiv_5 rfl 1 rfl ?_
  refine z_lload_n C d_Math_floorDiv_6 rfl 2 rfl ?_
  refine z_lxor C d_Math_floorDiv_7 ?_
  refine z_lconst C (v := 0) d_Math_floorDiv_8 (by decide) ?_
  refine z_lcmp C d_Math_floorDiv_9 ?_
  refine z_if_ge C 27 d_Math_floorDiv_10 (by decide) (fun h10 => ?_) (fun h10 => ?_)
  · refine z_lload C d_Math_floorDiv_27 0 rfl ?_
    exact hret _ _ _ _ d_Math_floorDiv_29 ⟨by simp [fdv, *], rfl⟩
  · refine z_lload C d_Math_floorDiv_13 0 rfl ?_
    refine z_lload_n C d_Math_floorDiv_15 rfl 2 rfl ?_
    refine z_lmul C d_Math_floorDiv_16 ?_
    refine z_lload_n C d_Math_floorDiv_17 rfl 1 rfl ?_
    refine z_lcmp C d_Math_floorDiv_18 ?_
    refine z_if_eq C 27 d_Math_floorDiv_19 (by decide) (fun h19 => ?_) (fun h19 => ?_)
    · refine z_lload C d_Math_floorDiv_27 0 rfl ?_
      exact hret _ _ _ _ d_Math_floorDiv_29 ⟨by simp [fdv, *], rfl⟩
    · refine z_lload C d_Math_floorDiv_22 0 rfl ?_
      refine z_lconst C (v := 1) d_Math_floorDiv_24 (by decide) ?_
      refine z_lsub C d_Math_floorDiv_25 ?_
      exact hret _ _ _ _ d_Math_floorDiv_26 ⟨by simp [fdv, *], rfl⟩
def fSpan (σ : Sg) (i z k : Nat) : Int32 := if k + 1 < z then σ.1 62 i 0 (k + 1) - σ.1 62 i 0 k else 0
def fBet (σ : Sg) (i z k f : Nat) (w : Int32) : Int32 := if 0 < fSpan σ i z k then σ.1 f i 0 k + (fdv ((σ.1 f i 0 (k + 1) - σ.1 f i 0 k).toInt64 * (w - σ.1 62 i 0 k).toInt64) (fSpan σ i z k).toInt64).toInt32 else σ.1 f i 0 k
set_option maxRecDepth 100000 in
set_option maxHeartbeats 4000000 in
/-- between two samples -/
theorem c_Frm_between63 (l : Launch) (D : va_G) (ca : Nat → ClassId) (b : Nat) (σ : Sg) {i z k : Nat} (hi : i < 6) (hz : σ.1 61 i 0 0 = nI z) (hz4 : z ≤ 4) (hk : k < z) (w : Int32) : CtI l D ca SB b 182 y_Frm_between w_Frm_between (rmN 1 25) σ [.ref (b + (152 + 5 * i)), .ref (b + (154 + 5 * i)), .int (nI k), .int w] (fun r σ' => r = fBet σ i z k 63 w ∧ σ' = σ) := by
  refine ct_i "RobotBus$Frame" [(0, .ref (b + (152 + 5 * i))), (1, .ref (b + (154 + 5 * i))), (2, .int (nI k)), (3, .int w)] (by decide) rfl (Nat.le_of_ble_eq_true rfl) rfl (fun X C hret => ?_)
  refine z_iload_n C d_Frm_between_0 rfl 2 rfl ?_
  refine z_iconst C (v := 1) d_Frm_between_1 (by decide) ?_
  refine z_iadd C d_Frm_between_2 ?_
  refine z_ri (x' := nI (k + 1)) (nI_1 k) ?_
  refine z_aload_n C d_Frm_between_3 rfl 0 rfl ?_
  refine gB_Frm_size C d_Frm_between_4 tw_218 hi ?_
  refine z_icmp_ge C 28 d_Frm_between_7 (by decide) (fun h7 => ?_) (fun h7 => ?_)
  · rw [hz, nI_leI (by omega) (by omega)] at h7
    refine z_iconst C (v := 0) d_Frm_between_28 (by decide) ?_
    refine z_istore C d_Frm_between_29 (by decide) [(4, .int 0), (0, .ref (b + (152 + 5 * i))), (1, .ref (b + (154 + 5 * i))), (2, .int (nI k)), (3, .int w)] rfl ?_
    refine z_iload C d_Frm_between_31 0 rfl ?_
    refine z_if_gt C 40 d_Frm_between_33 (by decide) (fun h33 => False.elim (absurd h33 (by decide))) (fun h33 => ?_)
    refine z_aload_n C d_Frm_between_36 rfl 2 rfl ?_
    refine z_iload_n C d_Frm_between_37 rfl 3 rfl ?_
    refine lB_frX C (q := k) d_Frm_between_38 hi rfl (by omega) ?_
    exact hret _ _ _ _ d_Frm_between_39 ⟨by
    have hs9 : fSpan σ i z k = 0 := by simp [fSpan, show ¬ k + 1 < z by omega]
    simp only [fBet, hs9, h33, if_true, if_false], rfl⟩
  · rw [hz, nI_leI (by omega) (by omega)] at h7
    refine z_aload_n C d_Frm_between_10 rfl 0 rfl ?_
    refine gB_Frm_times C d_Frm_between_11 tw_209 hi ?_
    refine z_iload_n C d_Frm_between_14 rfl 2 rfl ?_
    refine z_iconst C (v := 1) d_Frm_between_15 (by decide) ?_
    refine z_iadd C d_Frm_between_16 ?_
    refine z_ri (x' := nI (k + 1)) (nI_1 k) ?_
    refine lB_frT C (q := (k + 1)) d_Frm_between_17 hi rfl (by omega) ?_
    refine z_aload_n C d_Frm_between_18 rfl 0 rfl ?_
    refine gB_Frm_times C d_Frm_between_19 tw_209 hi ?_
    refine z_iload_n C d_Frm_between_22 rfl 2 rfl ?_
    refine lB_frT C (q := k) d_Frm_between_23 hi rfl (by omega) ?_
    refine z_isub C d_Frm_between_24 ?_
    refine z_goto C 29 d_Frm_between_25 (by decide) ?_
    refine z_istore C d_Frm_between_29 (by decide) [(4, .int ((σ.1 62 i 0 (k + 1)) - (σ.1 62 i 0 k))), (0, .ref (b + (152 + 5 * i))), (1, .ref (b + (154 + 5 * i))), (2, .int (nI k)), (3, .int w)] rfl ?_
    refine z_iload C d_Frm_between_31 0 rfl ?_
    refine z_if_gt C 40 d_Frm_between_33 (by decide) (fun h33 => ?_) (fun h33 => ?_)
    · have hpos : ¬ (((σ.1 62 i 0 (k + 1)) - (σ.1 62 i 0 k))).toInt64 = 0 := fun q9 => by
        have h0 : (((σ.1 62 i 0 (k + 1)) - (σ.1 62 i 0 k))) = 0 := Int32.toInt_inj.mp (by rw [← Int32.toInt_toInt64, q9]; rfl)
        rw [h0] at h33
        exact absurd h33 (by decide)
      refine z_aload_n C d_Frm_between_40 rfl 2 rfl ?_
      refine z_iload_n C d_Frm_between_41 rfl 3 rfl ?_
      refine z_iconst C (v := 1) d_Frm_between_42 (by decide) ?_
      refine z_iadd C d_Frm_between_43 ?_
      refine z_ri (x' := nI (k + 1)) (nI_1 k) ?_
      refine lB_frX C (q := (k + 1)) d_Frm_between_44 hi rfl (by omega) ?_
      refine z_aload_n C d_Frm_between_45 rfl 2 rfl ?_
      refine z_iload_n C d_Frm_between_46 rfl 3 rfl ?_
      refine lB_frX C (q := k) d_Frm_between_47 hi rfl (by omega) ?_
      refine z_isub C d_Frm_between_48 ?_
      refine z_i2l C d_Frm_between_49 ?_
      refine z_iload_n C d_Frm_between_50 rfl 4 rfl ?_
      refine z_aload_n C d_Frm_between_51 rfl 1 rfl ?_
      refine gB_Frm_times C d_Frm_between_52 tw_209 hi ?_
      refine z_iload_n C d_Frm_between_55 rfl 3 rfl ?_
      refine lB_frT C (q := k) d_Frm_between_56 hi rfl (by omega) ?_
      refine z_isub C d_Frm_between_57 ?_
      refine z_i2l C d_Frm_between_58 ?_
      refine z_lmul C d_Frm_between_59 ?_
      refine z_lstore C d_Frm_between_60 (by decide) [(5, .long (((σ.1 63 i 0 (k + 1)) - (σ.1 63 i 0 k)).toInt64 * (w - (σ.1 62 i 0 k)).toInt64)), (4, .int ((σ.1 62 i 0 (k + 1)) - (σ.1 62 i 0 k))), (0, .ref (b + (152 + 5 * i))), (1, .ref (b + (154 + 5 * i))), (2, .int (nI k)), (3, .int w)] rfl ?_
      refine z_aload_n C d_Frm_between_62 rfl 3 rfl ?_
      refine z_iload_n C d_Frm_between_63 rfl 4 rfl ?_
      refine lB_frX C (q := k) d_Frm_between_64 hi rfl (by omega) ?_
      refine z_lload C d_Frm_between_65 0 rfl ?_
      refine z_iload C d_Frm_between_67 1 rfl ?_
      refine z_i2l C d_Frm_between_69 ?_
      refine zf_Sl C d_Frm_between_70 (c_Math_floorDiv l D ca b σ ((((σ.1 63 i 0 (k + 1)) - (σ.1 63 i 0 k)).toInt64 * (w - (σ.1 62 i 0 k)).toInt64)) (((σ.1 62 i 0 (k + 1)) - (σ.1 62 i 0 k)).toInt64) (by intro q9; exact hpos q9)) tw_721 tw_722 tw_17 tw_723 pd_Math_floorDiv ⟨⟨by decide, by decide⟩, rfl, rfl, by decide, by decide⟩ (Nat.le_of_ble_eq_true rfl) rfl ?_
      refine z_l2i C d_Frm_between_73 ?_
      refine z_iadd C d_Frm_between_74 ?_
      exact hret _ _ _ _ d_Frm_between_75 ⟨by
    have hs9 : fSpan σ i z k = ((σ.1 62 i 0 (k + 1)) - (σ.1 62 i 0 k)) := by simp [fSpan, show  k + 1 < z by omega]
    simp only [fBet, hs9, h33, if_true, if_false], rfl⟩
    · refine z_aload_n C d_Frm_between_36 rfl 2 rfl ?_
      refine z_iload_n C d_Frm_between_37 rfl 3 rfl ?_
      refine lB_frX C (q := k) d_Frm_between_38 hi rfl (by omega) ?_
      exact hret _ _ _ _ d_Frm_between_39 ⟨by
    have hs9 : fSpan σ i z k = ((σ.1 62 i 0 (k + 1)) - (σ.1 62 i 0 k)) := by simp [fSpan, show  k + 1 < z by omega]
    simp only [fBet, hs9, h33, if_true, if_false], rfl⟩
set_option maxRecDepth 100000 in
set_option maxHeartbeats 4000000 in
/-- between two samples -/
theorem c_Frm_between64 (l : Launch) (D : va_G) (ca : Nat → ClassId) (b : Nat) (σ : Sg) {i z k : Nat} (hi : i < 6) (hz : σ.1 61 i 0 0 = nI z) (hz4 : z ≤ 4) (hk : k < z) (w : Int32) : CtI l D ca SB b 182 y_Frm_between w_Frm_between (rmN 1 25) σ [.ref (b + (152 + 5 * i)), .ref (b + (155 + 5 * i)), .int (nI k), .int w] (fun r σ' => r = fBet σ i z k 64 w ∧ σ' = σ) := by
  refine ct_i "RobotBus$Frame" [(0, .ref (b + (152 + 5 * i))), (1, .ref (b + (155 + 5 * i))), (2, .int (nI k)), (3, .int w)] (by decide) rfl (Nat.le_of_ble_eq_true rfl) rfl (fun X C hret => ?_)
  refine z_iload_n C d_Frm_between_0 rfl 2 rfl ?_
  refine z_iconst C (v := 1) d_Frm_between_1 (by decide) ?_
  refine z_iadd C d_Frm_between_2 ?_
  refine z_ri (x' := nI (k + 1)) (nI_1 k) ?_
  refine z_aload_n C d_Frm_between_3 rfl 0 rfl ?_
  refine gB_Frm_size C d_Frm_between_4 tw_218 hi ?_
  refine z_icmp_ge C 28 d_Frm_between_7 (by decide) (fun h7 => ?_) (fun h7 => ?_)
  · rw [hz, nI_leI (by omega) (by omega)] at h7
    refine z_iconst C (v := 0) d_Frm_between_28 (by decide) ?_
    refine z_istore C d_Frm_between_29 (by decide) [(4, .int 0), (0, .ref (b + (152 + 5 * i))), (1, .ref (b + (155 + 5 * i))), (2, .int (nI k)), (3, .int w)] rfl ?_
    refine z_iload C d_Frm_between_31 0 rfl ?_
    refine z_if_gt C 40 d_Frm_between_33 (by decide) (fun h33 => False.elim (absurd h33 (by decide))) (fun h33 => ?_)
    refine z_aload_n C d_Frm_between_36 rfl 2 rfl ?_
    refine z_iload_n C d_Frm_between_37 rfl 3 rfl ?_
    refine lB_frY C (q := k) d_Frm_between_38 hi rfl (by omega) ?_
    exact hret _ _ _ _ d_Frm_between_39 ⟨by
    have hs9 : fSpan σ i z k = 0 := by simp [fSpan, show ¬ k + 1 < z by omega]
    simp only [fBet, hs9, h33, if_true, if_false], rfl⟩
  · rw [hz, nI_leI (by omega) (by omega)] at h7
    refine z_aload_n C d_Frm_between_10 rfl 0 rfl ?_
    refine gB_Frm_times C d_Frm_between_11 tw_209 hi ?_
    refine z_iload_n C d_Frm_between_14 rfl 2 rfl ?_
    refine z_iconst C (v := 1) d_Frm_between_15 (by decide) ?_
    refine z_iadd C d_Frm_between_16 ?_
    refine z_ri (x' := nI (k + 1)) (nI_1 k) ?_
    refine lB_frT C (q := (k + 1)) d_Frm_between_17 hi rfl (by omega) ?_
    refine z_aload_n C d_Frm_between_18 rfl 0 rfl ?_
    refine gB_Frm_times C d_Frm_between_19 tw_209 hi ?_
    refine z_iload_n C d_Frm_between_22 rfl 2 rfl ?_
    refine lB_frT C (q := k) d_Frm_between_23 hi rfl (by omega) ?_
    refine z_isub C d_Frm_between_24 ?_
    refine z_goto C 29 d_Frm_between_25 (by decide) ?_
    refine z_istore C d_Frm_between_29 (by decide) [(4, .int ((σ.1 62 i 0 (k + 1)) - (σ.1 62 i 0 k))), (0, .ref (b + (152 + 5 * i))), (1, .ref (b + (155 + 5 * i))), (2, .int (nI k)), (3, .int w)] rfl ?_
    refine z_iload C d_Frm_between_31 0 rfl ?_
    refine z_if_gt C 40 d_Frm_between_33 (by decide) (fun h33 => ?_) (fun h33 => ?_)
    · have hpos : ¬ (((σ.1 62 i 0 (k + 1)) - (σ.1 62 i 0 k))).toInt64 = 0 := fun q9 => by
        have h0 : (((σ.1 62 i 0 (k + 1)) - (σ.1 62 i 0 k))) = 0 := Int32.toInt_inj.mp (by rw [← Int32.toInt_toInt64, q9]; rfl)
        rw [h0] at h33
        exact absurd h33 (by decide)
      refine z_aload_n C d_Frm_between_40 rfl 2 rfl ?_
      refine z_iload_n C d_Frm_between_41 rfl 3 rfl ?_
      refine z_iconst C (v := 1) d_Frm_between_42 (by decide) ?_
      refine z_iadd C d_Frm_between_43 ?_
      refine z_ri (x' := nI (k + 1)) (nI_1 k) ?_
      refine lB_frY C (q := (k + 1)) d_Frm_between_44 hi rfl (by omega) ?_
      refine z_aload_n C d_Frm_between_45 rfl 2 rfl ?_
      refine z_iload_n C d_Frm_between_46 rfl 3 rfl ?_
      refine lB_frY C (q := k) d_Frm_between_47 hi rfl (by omega) ?_
      refine z_isub C d_Frm_between_48 ?_
      refine z_i2l C d_Frm_between_49 ?_
      refine z_iload_n C d_Frm_between_50 rfl 4 rfl ?_
      refine z_aload_n C d_Frm_between_51 rfl 1 rfl ?_
      refine gB_Frm_times C d_Frm_between_52 tw_209 hi ?_
      refine z_iload_n C d_Frm_between_55 rfl 3 rfl ?_
      refine lB_frT C (q := k) d_Frm_between_56 hi rfl (by omega) ?_
      refine z_isub C d_Frm_between_57 ?_
      refine z_i2l C d_Frm_between_58 ?_
      refine z_lmul C d_Frm_between_59 ?_
      refine z_lstore C d_Frm_between_60 (by decide) [(5, .long (((σ.1 64 i 0 (k + 1)) - (σ.1 64 i 0 k)).toInt64 * (w - (σ.1 62 i 0 k)).toInt64)), (4, .int ((σ.1 62 i 0 (k + 1)) - (σ.1 62 i 0 k))), (0, .ref (b + (152 + 5 * i))), (1, .ref (b + (155 + 5 * i))), (2, .int (nI k)), (3, .int w)] rfl ?_
      refine z_aload_n C d_Frm_between_62 rfl 3 rfl ?_
      refine z_iload_n C d_Frm_between_63 rfl 4 rfl ?_
      refine lB_frY C (q := k) d_Frm_between_64 hi rfl (by omega) ?_
      refine z_lload C d_Frm_between_65 0 rfl ?_
      refine z_iload C d_Frm_between_67 1 rfl ?_
      refine z_i2l C d_Frm_between_69 ?_
      refine zf_Sl C d_Frm_between_70 (c_Math_floorDiv l D ca b σ ((((σ.1 64 i 0 (k + 1)) - (σ.1 64 i 0 k)).toInt64 * (w - (σ.1 62 i 0 k)).toInt64)) (((σ.1 62 i 0 (k + 1)) - (σ.1 62 i 0 k)).toInt64) (by intro q9; exact hpos q9)) tw_721 tw_722 tw_17 tw_723 pd_Math_floorDiv ⟨⟨by decide, by decide⟩, rfl, rfl, by decide, by decide⟩ (Nat.le_of_ble_eq_true rfl) rfl ?_
      refine z_l2i C d_Frm_between_73 ?_
      refine z_iadd C d_Frm_between_74 ?_
      exact hret _ _ _ _ d_Frm_between_75 ⟨by
    have hs9 : fSpan σ i z k = ((σ.1 62 i 0 (k + 1)) - (σ.1 62 i 0 k)) := by simp [fSpan, show  k + 1 < z by omega]
    simp only [fBet, hs9, h33, if_true, if_false], rfl⟩
    · refine z_aload_n C d_Frm_between_36 rfl 2 rfl ?_
      refine z_iload_n C d_Frm_between_37 rfl 3 rfl ?_
      refine lB_frY C (q := k) d_Frm_between_38 hi rfl (by omega) ?_
      exact hret _ _ _ _ d_Frm_between_39 ⟨by
    have hs9 : fSpan σ i z k = ((σ.1 62 i 0 (k + 1)) - (σ.1 62 i 0 k)) := by simp [fSpan, show  k + 1 < z by omega]
    simp only [fBet, hs9, h33, if_true, if_false], rfl⟩
def pLift (σ : Sg) (i z k : Nat) (w : Int32) (u : Nat) : Sg := us (us (pTurn u σ) 20 0 0 ((pTurn u σ).1 20 0 0 0 + fBet σ i z k 63 w)) 21 0 0 ((pTurn u σ).1 21 0 0 0 + fBet σ i z k 64 w)
theorem pTurn_ne {f i t : Nat} (h1 : f ≠ 20) (h2 : f ≠ 21) : ∀ (u : Nat) (σ : Sg), (pTurn u σ).1 f i t = σ.1 f i t := by
  intro u
  induction u with
  | zero => intro σ; rfl
  | succ m ih =>
    intro σ
    rw [pTurn, ih, us_ne (by simp [h2]), us_ne (by simp [h1])]
theorem fBet_eq {σ σ' : Sg} {i z k f : Nat} {w : Int32} (h : σ'.1 62 i 0 = σ.1 62 i 0) (hf : σ'.1 f i 0 = σ.1 f i 0) : fBet σ' i z k f w = fBet σ i z k f w := by
  have hs : fSpan σ' i z k = fSpan σ i z k := by unfold fSpan; rw [h]
  unfold fBet
  rw [hs, h, hf]
set_option maxRecDepth 100000 in
set_option maxHeartbeats 4000000 in
/-- a point, lifted from a frame to its parent -/
theorem c_Pnt_lift (l : Launch) (D : va_G) (ca : Nat → ClassId) (b : Nat) (σ : Sg) {i z k u : Nat} (hi : i < 6) (hz : σ.1 61 i 0 0 = nI z) (hz4 : z ≤ 4) (hk : k < z) (w : Int32) (hu : σ.1 65 i 0 k = nI u) (hu3 : u ≤ 3) : CtV l D ca SB b 182 y_Pnt_lift w_Pnt_lift (rmN 2 51) σ [.ref (b + 9), .ref (b + (152 + 5 * i)), .int (nI k), .int w] (fun σ' => σ' = pLift σ i z k w u) := by
  refine ct_v "RobotBus$Point" [(0, .ref (b + 9)), (1, .ref (b + (152 + 5 * i))), (2, .int (nI k)), (3, .int w)] (by decide) rfl (Nat.le_of_ble_eq_true rfl) rfl (fun X C hret => ?_)
  refine z_aload_n C d_Pnt_lift_0 rfl 0 rfl ?_
  refine z_aload_n C d_Pnt_lift_1 rfl 1 rfl ?_
  refine gB_Frm_turns C d_Pnt_lift_2 tw_215 hi ?_
  refine z_iload_n C d_Pnt_lift_5 rfl 2 rfl ?_
  refine lB_frU C (q := k) d_Pnt_lift_6 hi rfl (by omega) ?_
  refine z_ri (x' := nI u) hu ?_
  refine zf_Vv C d_Pnt_lift_7 (c_Pnt_turnBy l D ca b σ hu3) tw_713 tw_714 tw_715 tw_3 tw_716 pd_Pnt_turnBy ⟨⟨by decide, by decide⟩, rfl, rfl, by decide, by decide⟩ (by omega) rfl (eB_Pnt ) rfl (Nat.le_of_ble_eq_true rfl) rfl ?_
  refine z_aload_n C d_Pnt_lift_10 rfl 0 rfl ?_
  refine z_dup C d_Pnt_lift_11 rfl ?_
  refine gB_Pnt_x C d_Pnt_lift_12 tw_78  ?_
  refine z_aload_n C d_Pnt_lift_15 rfl 1 rfl ?_
  refine z_aload_n C d_Pnt_lift_16 rfl 1 rfl ?_
  refine gB_Frm_xs C d_Pnt_lift_17 tw_211 hi ?_
  refine z_iload_n C d_Pnt_lift_20 rfl 2 rfl ?_
  refine z_iload_n C d_Pnt_lift_21 rfl 3 rfl ?_
  refine zf_Vi C d_Pnt_lift_22 (c_Frm_between63 l D ca b (pTurn u σ) hi (z := z) (by rw [pTurn_ne (by decide) (by decide)]; exact hz) hz4 hk w) tw_717 tw_718 tw_719 tw_9 tw_720 pd_Frm_between ⟨⟨by decide, by decide⟩, rfl, rfl, by decide, by decide⟩ (by omega) rfl (eB_Frm hi) rfl (Nat.le_of_ble_eq_true rfl) rfl ?_
  refine z_ri (x' := fBet σ i z k 63 w) (fBet_eq (by rw [pTurn_ne (by decide) (by decide)]) (by rw [pTurn_ne (by decide) (by decide)])) ?_
  refine z_iadd C d_Pnt_lift_25 ?_
  refine pB_Pnt_x C d_Pnt_lift_26 tw_78  ?_
  refine z_aload_n C d_Pnt_lift_29 rfl 0 rfl ?_
  refine z_dup C d_Pnt_lift_30 rfl ?_
  refine gB_Pnt_y C d_Pnt_lift_31 tw_80  ?_
  refine z_aload_n C d_Pnt_lift_34 rfl 1 rfl ?_
  refine z_aload_n C d_Pnt_lift_35 rfl 1 rfl ?_
  refine gB_Frm_ys C d_Pnt_lift_36 tw_213 hi ?_
  refine z_iload_n C d_Pnt_lift_39 rfl 2 rfl ?_
  refine z_iload_n C d_Pnt_lift_40 rfl 3 rfl ?_
  refine zf_Vi C d_Pnt_lift_41 (c_Frm_between64 l D ca b (us (pTurn u σ) 20 0 0 (((pTurn u σ).1 20 0 0 0) + (fBet σ i z k 63 w))) hi (z := z) (by rw [us_ne (by simp), pTurn_ne (by decide) (by decide)]; exact hz) hz4 hk w) tw_717 tw_718 tw_719 tw_9 tw_720 pd_Frm_between ⟨⟨by decide, by decide⟩, rfl, rfl, by decide, by decide⟩ (by omega) rfl (eB_Frm hi) rfl (Nat.le_of_ble_eq_true rfl) rfl ?_
  refine z_ri (x' := fBet σ i z k 64 w) (fBet_eq (by rw [us_ne (by simp), pTurn_ne (by decide) (by decide)]) (by rw [us_ne (by simp), pTurn_ne (by decide) (by decide)])) ?_
  refine z_iadd C d_Pnt_lift_44 ?_
  refine pB_Pnt_y C d_Pnt_lift_45 tw_80  ?_
  exact hret _ _ _ d_Pnt_lift_48 (by simp only [pLift, us_ne (show ¬ (21, 0, 0) = (20, 0, 0) by decide)])
