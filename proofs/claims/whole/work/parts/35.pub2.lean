/-! The bus' methods, the rest -/
section ZR2
variable {l : Launch} {D : va_G} {cl : List vw_C} {tys : List (ClassId × FieldType)} {b n : Nat} {R : Room} {nL : Nat} {X : Zx} {k sl : Nat} {M : Nat → va_E} {pc : Nat} {L : List (Nat × Value)} {st : List Value} {cc : ByteArray} {own : String} {Ts : List Cond}
theorem z_ldcw (C : Cx D cl tys cc nL own Ts X) {index : Nat} {v : Int32} (hw : Cond.constant own index v ∈ Ts) (hd : decode cc pc = .ok (.ldc_w index, 3)) (kk : Z l D cl b n R nL X k sl M (pc + 3) L (.int v :: st)) : Z l D cl b n R nL X k sl M pc L st := by
  obtain ⟨p, e, s, m, args, below, meth, c, Q⟩ := X
  obtain ⟨hx, hb, hml, hown, hts, hK⟩ := C
  exact fun H locs ls hP hS hl => lv_ldcw hx hb hown (hts _ hw) hd (kk H locs ls hP hS hl)
theorem z_l2d (C : Cx D cl tys cc nL own Ts X) {x : Int64} (hd : decode cc pc = .ok (.l2d, 1)) (kk : Z l D cl b n R nL X k sl M (pc + 1) L (.double (FP.l2d x) :: st)) : Z l D cl b n R nL X k sl M pc L (.long x :: st) := by
  obtain ⟨p, e, s, m, args, below, meth, c, Q⟩ := X
  obtain ⟨hx, hb, hml, hown, hts, hK⟩ := C
  exact fun H locs ls hP hS hl => lv_l2d hx hb hd (kk H locs ls hP hS hl)
theorem z_d2l (C : Cx D cl tys cc nL own Ts X) {x : UInt64} (hd : decode cc pc = .ok (.d2l, 1)) (kk : Z l D cl b n R nL X k sl M (pc + 1) L (.long (FP.d2l x) :: st)) : Z l D cl b n R nL X k sl M pc L (.double x :: st) := by
  obtain ⟨p, e, s, m, args, below, meth, c, Q⟩ := X
  obtain ⟨hx, hb, hml, hown, hts, hK⟩ := C
  exact fun H locs ls hP hS hl => lv_d2l hx hb hd (kk H locs ls hP hS hl)
theorem z_rd {x x' : UInt64} (h : x = x') (kk : Z l D cl b n R nL X k sl M pc L (.double x' :: st)) : Z l D cl b n R nL X k sl M pc L (.double x :: st) := by rw [h]; exact kk
end ZR2
theorem wit_nat {x : Int32} {lo hi : Nat} (h1 : lo < 2 ^ 31) (h2 : hi < 2 ^ 31) (h : ¬ wit x (nI lo) (nI hi) = 0) : ∃ k, lo ≤ k ∧ k ≤ hi ∧ x = nI k := by
  unfold wit at h
  by_cases g1 : x < nI lo
  · simp [g1] at h
  · by_cases g2 : nI hi < x
    · simp [g1, g2] at h
    · rw [Int32.lt_iff_toInt_lt, nI_toInt h1] at g1
      rw [Int32.lt_iff_toInt_lt, nI_toInt h2] at g2
      refine ⟨x.toInt.toNat, by omega, by omega, Int32.toInt_inj.mp ?_⟩
      rw [nI_toInt (by omega)]
      omega
def cLo (k : Int32) : Int32 := if k.toInt < -8192 then -1 else if k.toInt = -8192 then 0 else 1
def cHi (k : Int32) : Int32 := if k.toInt < 8192 then -1 else if k.toInt = 8192 then 0 else 1
def isCo (k : Int32) : Int32 := if cLo k < 0 then 0 else if 0 < cHi k then 0 else 1
theorem isCo_wit (k : Int32) : isCo k = wit k (-8192) 8192 := by
  unfold isCo wit cLo cHi
  simp only [Int32.lt_iff_toInt_lt]
  have e1 : (-8192 : Int32).toInt = -8192 := by decide
  have e2 : (8192 : Int32).toInt = 8192 := by decide
  rw [e1, e2]
  by_cases h1 : k.toInt < -8192
  · simp [h1]
  · rw [if_neg h1]
    by_cases h2 : k.toInt = -8192
    · simp [h2]
    · rw [if_neg h2]
      by_cases h3 : 8192 < k.toInt
      · rw [if_neg (show ¬ k.toInt < 8192 by omega), if_neg (show ¬ k.toInt = 8192 by omega)]
        simp [h1, h3]
      · rcases Int.lt_or_eq_of_le (Int.not_lt.mp h3) with h4 | h4
        · simp [h1, h3, h4]
        · simp [h4]
set_option maxRecDepth 100000 in
set_option maxHeartbeats 4000000 in
/-- eighths -/
theorem c_Bus_toEighths (l : Launch) (D : va_G) (ca : Nat → ClassId) (b : Nat) (σ : Sg) {n : Nat} {S : List Cee} (k : Int32) : CtI l D ca S b n y_Bus_toEighths w_Bus_toEighths (rmN 0 0) σ [.double (cx k)] (fun r σ' => r = k ∧ σ' = σ) := by
  refine ct_i "RobotBus" [(0, .double (cx k))] (by decide) rfl (Nat.le_of_ble_eq_true rfl) rfl (fun X C hret => ?_)
  refine z_dload_n C d_Bus_toEighths_0 rfl 0 rfl ?_
  refine z_ldc2d C (List.mem_cons_of_mem _ tw_674) d_Bus_toEighths_1 ?_
  refine z_dmul C d_Bus_toEighths_4 (cx_m64 k) ?_
  refine z_d2i C d_Bus_toEighths_5 ?_
  exact hret _ _ _ _ d_Bus_toEighths_6 ⟨by rw [cx_mul, d2i_i2d], rfl⟩
set_option maxRecDepth 100000 in
set_option maxHeartbeats 4000000 in
/-- whether it is a coordinate -/
theorem c_Bus_isCoordinate (l : Launch) (D : va_G) (ca : Nat → ClassId) (b : Nat) (σ : Sg) {n : Nat} {S : List Cee} (k : Int32) : CtI l D ca S b n y_Bus_isCoordinate w_Bus_isCoordinate (rmN 1 21) σ [.double (cx k)] (fun r σ' => r = isCo k ∧ σ' = σ) := by
  refine ct_z "RobotBus" [(0, .double (cx k))] (by decide) rfl (Nat.le_of_ble_eq_true rfl) rfl (fun X C hret => ?_)
  refine z_dload_n C d_Bus_isCoordinate_0 rfl 0 rfl ?_
  refine z_ldc2d C (List.mem_cons_of_mem _ tw_669) d_Bus_isCoordinate_1 ?_
  refine z_dcmp C d_Bus_isCoordinate_4 ?_
  refine z_ri (x' := cLo k) (cmpV_lo k _) ?_
  refine z_if_lt C 34 d_Bus_isCoordinate_5 (by decide) (fun h5 => ?_) (fun h5 => ?_)
  · refine z_iconst C (v := 0) d_Bus_isCoordinate_34 (by decide) ?_
    exact hret _ _ _ _ d_Bus_isCoordinate_35 (by decide) ⟨by simp [isCo, *], rfl⟩
  · refine z_dload_n C d_Bus_isCoordinate_8 rfl 0 rfl ?_
    refine z_ldc2d C (List.mem_cons_of_mem _ tw_670) d_Bus_isCoordinate_9 ?_
    refine z_dcmp C d_Bus_isCoordinate_12 ?_
    refine z_ri (x' := cHi k) (cmpV_hi k _) ?_
    refine z_if_gt C 34 d_Bus_isCoordinate_13 (by decide) (fun h13 => ?_) (fun h13 => ?_)
    · refine z_iconst C (v := 0) d_Bus_isCoordinate_34 (by decide) ?_
      exact hret _ _ _ _ d_Bus_isCoordinate_35 (by decide) ⟨by simp [isCo, *], rfl⟩
    · refine z_dload_n C d_Bus_isCoordinate_16 rfl 0 rfl ?_
      refine zf_Si C d_Bus_isCoordinate_17 (c_Bus_toEighths l D ca b σ k) tw_671 tw_672 tw_1 tw_673 pd_Bus_toEighths ⟨⟨by decide, by decide⟩, rfl, rfl, by decide, by decide⟩ (Nat.le_of_ble_eq_true rfl) rfl ?_
      refine z_i2d C d_Bus_isCoordinate_20 ?_
      refine z_dload_n C d_Bus_isCoordinate_21 rfl 0 rfl ?_
      refine z_ldc2d C (List.mem_cons_of_mem _ tw_674) d_Bus_isCoordinate_22 ?_
      refine z_dmul C d_Bus_isCoordinate_25 (cx_m64 k) ?_
      refine z_dcmp C d_Bus_isCoordinate_26 ?_
      refine z_ri (x' := 0) (by rw [cx_mul, cmpV_eq]) ?_
      refine z_if_ne C 34 d_Bus_isCoordinate_27 (by decide) (fun h27 => False.elim (h27 rfl)) (fun h27 => ?_)
      refine z_iconst C (v := 1) d_Bus_isCoordinate_30 (by decide) ?_
      refine z_goto C 35 d_Bus_isCoordinate_31 (by decide) ?_
      exact hret _ _ _ _ d_Bus_isCoordinate_35 (by decide) ⟨by simp [isCo, *], rfl⟩
set_option maxRecDepth 100000 in
set_option maxHeartbeats 4000000 in
/-- lastY -/
theorem c_Bus_lastY (l : Launch) (D : va_G) (ca : Nat → ClassId) (b : Nat) (σ : Sg)  : CtD l D ca SB b 182 y_Bus_lastY w_Bus_lastY (rmN 0 0) σ [.ref (b + 0)] (fun r σ' => r = σ.2.1 7 0 0 0 ∧ σ' = σ) := by
  refine ct_d "RobotBus" [(0, .ref (b + 0))] (by decide) rfl (Nat.le_of_ble_eq_true rfl) rfl (fun X C hret => ?_)
  refine z_aload_n C d_Bus_lastY_0 rfl 0 rfl ?_
  refine gB_Bus_keptY C d_Bus_lastY_1 tw_245  ?_
  exact hret _ _ _ _ d_Bus_lastY_4 ⟨rfl, rfl⟩
def lvL (x : Int32) : Nat → Nat → Sg → Sg
  | 0, _, σ => σ
  | m + 1, k, σ => lvL x m (k + 1) (if σ.1 50 k 0 0 = x then us σ 50 k 0 (-1) else σ)
def leaveF (σ : Sg) (x : Int32) : Out × Sg := if isTh σ x = 0 then (.inr xNSE, σ) else (.inl (.int (nR1 (cn x) 6 0 (lvL x 4 0 σ) 0).2), nRst (lvL x 4 0 σ) (cn x))
set_option maxRecDepth 100000 in
set_option maxHeartbeats 4000000 in
theorem lp_Bus_leave (l : Launch) (D : va_G) (ca : Nat → ClassId) (b : Nat) {R : Room} {X : Zx} {y0 : MethodName} {c0 : ByteArray} {n0 : Nat} {r0 : Option FieldType} (C : Cs D ca b_Bus_leave 3 "RobotBus" (Cond.code y0 c0 n0 r0) X) (x : Int32) : ∀ m k, k + m = 4 → ∀ σ : Sg, Zs l D ca SB b 182 R 3 X (lvL x m k σ) 54 [(2, .int (nI 4)), (0, .ref (b + 0)), (1, .int x)] [] → Zs l D ca SB b 182 R 3 X σ 20 [(2, .int (nI k)), (0, .ref (b + 0)), (1, .int x)] [] := by
  intro m
  induction m with
  | zero =>
    intro k hk σ kk
    have hk6 : k = 4 := by omega
    subst hk6
    refine z_iload_n C d_Bus_leave_20 rfl 0 rfl ?_
    refine z_iconst C (v := 4) d_Bus_leave_21 (by decide) ?_
    refine z_icmp_ge C 54 d_Bus_leave_22 (by decide) (fun h22 => ?_) (fun h22 => False.elim (h22 (by decide)))
    exact kk
  | succ m ih =>
    intro k hk σ kk
    have hk6 : k < 4 := by omega
    refine z_iload_n C d_Bus_leave_20 rfl 0 rfl ?_
    refine z_iconst C (v := 4) d_Bus_leave_21 (by decide) ?_
    refine z_icmp_ge C 54 d_Bus_leave_22 (by decide) (fun h22 => False.elim (nI_ge (a := k) (b := 4) (by omega) (by decide) h22)) (fun h22 => ?_)
    refine z_aload_n C d_Bus_leave_25 rfl 1 rfl ?_
    refine gB_Bus_services C d_Bus_leave_26 tw_235  ?_
    refine z_iload_n C d_Bus_leave_29 rfl 0 rfl ?_
    refine rB_srvs C (j := k) d_Bus_leave_30  rfl hk6 ?_
    refine gB_Srv_node C d_Bus_leave_31 tw_188 hk6 ?_
    refine z_iload_n C d_Bus_leave_34 rfl 2 rfl ?_
    refine z_icmp_ne C 48 d_Bus_leave_35 (by decide) (fun h35 => ?_) (fun h35 => ?_)
    · rw [lvL, if_neg h35] at kk
      refine z_iinc C d_Bus_leave_48 0 rfl (v := (nI (k + 1))) (by rw [← nI_1]; rfl) (by decide) [(2, .int (nI (k + 1))), (0, .ref (b + 0)), (1, .int x)] rfl ?_
      refine z_goto C 20 d_Bus_leave_51 (by decide) ?_
      exact ih (k + 1) (by omega) _ kk
    · rw [lvL, if_pos h35] at kk
      refine z_aload_n C d_Bus_leave_38 rfl 1 rfl ?_
      refine gB_Bus_services C d_Bus_leave_39 tw_235  ?_
      refine z_iload_n C d_Bus_leave_42 rfl 0 rfl ?_
      refine rB_srvs C (j := k) d_Bus_leave_43  rfl hk6 ?_
      refine z_iconst C (v := -1) d_Bus_leave_44 (by decide) ?_
      refine pB_Srv_node C d_Bus_leave_45 tw_188 hk6 ?_
      refine z_iinc C d_Bus_leave_48 0 rfl (v := (nI (k + 1))) (by rw [← nI_1]; rfl) (by decide) [(2, .int (nI (k + 1))), (0, .ref (b + 0)), (1, .int x)] rfl ?_
      refine z_goto C 20 d_Bus_leave_51 (by decide) ?_
      exact ih (k + 1) (by omega) _ kk
set_option maxRecDepth 100000 in
set_option maxHeartbeats 4000000 in
/-- Bus_leave -/
theorem c_Bus_leave (l : Launch) (hl : l.stackTraces = false) (D : va_G) (ca : Nat → ClassId) (b : Nat) (σ : Sg) (x : Int32) : CtX l D ca b y_Bus_leave w_Bus_leave (rmX 6 82) σ [.ref (b + 0), .int x] (fun r σ' => r = (leaveF σ x).1 ∧ σ' = (leaveF σ x).2) := by
  refine cx_i "RobotBus" [(0, .ref (b + 0)), (1, .int x)] hl (by decide) rfl rfl (Nat.le_of_ble_eq_true rfl) rfl ⟨by decide, by decide, by decide, by decide⟩ (fun X C hret hthr => ?_)
  refine z_aload_n C d_Bus_leave_0 rfl 0 rfl ?_
  refine z_iload_n C d_Bus_leave_1 rfl 1 rfl ?_
  refine zf_Vi C d_Bus_leave_2 (c_Bus_isThere l D ca b σ x) tw_383 tw_385 tp_Bus_isThere tw_1 tw_386 pd_Bus_isThere ⟨⟨by decide, by decide⟩, rfl, rfl, by decide, by decide⟩ (by omega) rfl (eB_Bus ) rfl (Nat.le_of_ble_eq_true rfl) rfl ?_
  refine z_if_ne C 18 d_Bus_leave_5 (by decide) (fun h5 => ?_) (fun h5 => ?_)
  · obtain ⟨j, hj, rfl, hpj⟩ := isTh_nat h5
    have hcj : (nI j).toNatClampNeg = j := nI_clamp (by omega)
    refine z_iconst C (v := 0) d_Bus_leave_18 (by decide) ?_
    refine z_istore_n C d_Bus_leave_19 rfl (by decide) [(2, .int 0), (0, .ref (b + 0)), (1, .int (nI j))] rfl ?_
    refine lp_Bus_leave l D ca b C (nI j) 4 0 rfl σ ?_
    refine z_aload_n C d_Bus_leave_54 rfl 1 rfl ?_
    refine gB_Bus_nodes C d_Bus_leave_55 tw_233  ?_
    refine z_iload_n C d_Bus_leave_58 rfl 2 rfl ?_
    refine rB_nods C (j := j) d_Bus_leave_59  rfl hj ?_
    refine zf_Vi C d_Bus_leave_60 (c_Nod_reset l D ca b (lvL (nI j) 4 0 σ) hj) tw_403 tw_404 tw_405 tw_4 tw_406 pd_Nod_reset ⟨⟨by decide, by decide⟩, rfl, rfl, by decide, by decide⟩ (by omega) rfl (eB_Nod hj) rfl (Nat.le_of_ble_eq_true rfl) rfl ?_
    exact hret _ _ _ _ d_Bus_leave_63 (by simp [leaveF, *])
  · exact hthr _ _ _ _ 100 _ 2 "no such node" _ XC_NSE (List.mem_of_getElem? (i := 2) rfl) (Or.inl ⟨d_Bus_leave_12, rfl⟩) d_Bus_leave_8 d_Bus_leave_11 d_Bus_leave_14 d_Bus_leave_17 (by simp [leaveF, *])
def tkN : Nat → Sg → Sg
  | 0, σ => σ
  | m + 1, σ => tkN m (tickF σ)
theorem tkN_BI : ∀ (m : Nat) {σ : Sg}, BI σ → BI (tkN m σ) := by
  intro m
  induction m with
  | zero => intro σ h; exact h
  | succ m ih => intro σ h; exact ih (tickF_BI h)
def tickX (σ : Sg) (n : Int32) : Out × Sg := if wit n 1 8 = 0 then (.inr xIAE, σ) else (.inl (.int ((tkN (cn n) σ).1 1 0 0 0)), tkN (cn n) σ)
set_option maxRecDepth 100000 in
set_option maxHeartbeats 4000000 in
theorem lp_Bus_tick (l : Launch) (D : va_G) (ca : Nat → ClassId) (b : Nat) {R : Room} {X : Zx} {y0 : MethodName} {c0 : ByteArray} {n0 : Nat} {r0 : Option FieldType} (hR : 7 ≤ R.frames ∧ 160 ≤ R.locals) (C : Cs D ca b_Bus_tick 3 "RobotBus" (Cond.code y0 c0 n0 r0) X) {n : Nat} (hn : n ≤ 8) : ∀ m k, k + m = n → ∀ σ : Sg, BI σ → Zs l D ca SB b 182 R 3 X (tkN m σ) 37 [(2, .int (nI n)), (0, .ref (b + 0)), (1, .int (nI n))] [] → Zs l D ca SB b 182 R 3 X σ 22 [(2, .int (nI k)), (0, .ref (b + 0)), (1, .int (nI n))] [] := by
  intro m
  induction m with
  | zero =>
    intro k hk σ hB kk
    have hk6 : k = n := by omega
    subst hk6
    refine z_iload_n C d_Bus_tick_22 rfl 0 rfl ?_
    refine z_iload_n C d_Bus_tick_23 rfl 2 rfl ?_
    refine z_icmp_ge C 37 d_Bus_tick_24 (by decide) (fun h24 => ?_) (fun h24 => False.elim (h24 (nI_le (Nat.le_refl _) (by omega))))
    exact kk
  | succ m ih =>
    intro k hk σ hB kk
    have hk6 : k < n := by omega
    refine z_iload_n C d_Bus_tick_22 rfl 0 rfl ?_
    refine z_iload_n C d_Bus_tick_23 rfl 2 rfl ?_
    refine z_icmp_ge C 37 d_Bus_tick_24 (by decide) (fun h24 => False.elim (nI_ge (a := k) (b := n) (by omega) (by omega) h24)) (fun h24 => ?_)
    refine z_aload_n C d_Bus_tick_27 rfl 1 rfl ?_
    refine zf_Vv C d_Bus_tick_28 (c_Bus_passOneTick l D ca b σ hB) tw_544 tw_546 tp_Bus_passOneTick tw_1 tw_547 pd_Bus_passOneTick ⟨⟨hR.1, hR.2⟩, rfl, rfl, Nat.zero_le _, Nat.zero_le _⟩ (by omega) rfl (eB_Bus ) rfl (Nat.le_of_ble_eq_true rfl) rfl ?_
    refine z_iinc C d_Bus_tick_31 0 rfl (v := (nI (k + 1))) (by rw [← nI_1]; rfl) (by decide) [(2, .int (nI (k + 1))), (0, .ref (b + 0)), (1, .int (nI n))] rfl ?_
    refine z_goto C 22 d_Bus_tick_34 (by decide) ?_
    exact ih (k + 1) (by omega) _ (tickF_BI hB) kk
set_option maxRecDepth 100000 in
set_option maxHeartbeats 4000000 in
/-- Bus_tick -/
theorem c_Bus_tick (l : Launch) (hl : l.stackTraces = false) (D : va_G) (ca : Nat → ClassId) (b : Nat) (σ : Sg) (q : Int32) (hB : BI σ) : CtX l D ca b y_Bus_tick w_Bus_tick (rmX 7 160) σ [.ref (b + 0), .int q] (fun r σ' => r = (tickX σ q).1 ∧ σ' = (tickX σ q).2) := by
  refine cx_i "RobotBus" [(0, .ref (b + 0)), (1, .int q)] hl (by decide) rfl rfl (Nat.le_of_ble_eq_true rfl) rfl ⟨by decide, by decide, by decide, by decide⟩ (fun X C hret hthr => ?_)
  refine z_iload_n C d_Bus_tick_0 rfl 1 rfl ?_
  refine z_iconst C (v := 1) d_Bus_tick_1 (by decide) ?_
  refine z_bipush C (v := 8) d_Bus_tick_2 (by decide) ?_
  refine zf_Si C d_Bus_tick_4 (c_Bus_isWithin l D ca b σ q 1 8) tw_426 tw_427 tw_1 tw_428 pd_Bus_isWithin ⟨⟨by decide, by decide⟩, rfl, rfl, by decide, by decide⟩ (Nat.le_of_ble_eq_true rfl) rfl ?_
  refine z_if_ne C 20 d_Bus_tick_7 (by decide) (fun h7 => ?_) (fun h7 => ?_)
  · obtain ⟨n, hn1, hn, rfl⟩ := wit_nat (lo := 1) (hi := 8) (by decide) (by decide) h7
    have hcn : (nI n).toNatClampNeg = n := nI_clamp (by omega)
    refine z_iconst C (v := 0) d_Bus_tick_20 (by decide) ?_
    refine z_istore_n C d_Bus_tick_21 rfl (by decide) [(2, .int 0), (0, .ref (b + 0)), (1, .int (nI n))] rfl ?_
    refine lp_Bus_tick l D ca b ⟨by decide, by decide⟩ C hn n 0 (by omega) σ hB ?_
    refine z_aload_n C d_Bus_tick_37 rfl 1 rfl ?_
    refine gB_Bus_clock C d_Bus_tick_38 tw_239  ?_
    exact hret _ _ _ _ d_Bus_tick_41 (by simp [tickX, *])
  · exact hthr _ _ _ _ 208 _ 2 "no such number of ticks" _ XC_IAE (List.mem_of_getElem? (i := 11) rfl) (Or.inl ⟨d_Bus_tick_14, rfl⟩) d_Bus_tick_10 d_Bus_tick_13 d_Bus_tick_16 d_Bus_tick_19 (by simp [tickX, *])
def mountF (σ : Sg) (f p : Int32) : Out × Sg := if f = 0 then (.inr xIAE, σ) else if bel f 6 = 0 then (.inr xIAE, σ) else if bel p 6 = 0 then (.inr xIAE, σ) else if abv σ f 6 p = 0 then (.inl (.int (σ.1 60 (cn f) 0 0)), us (us σ 60 (cn f) 0 p) 61 (cn f) 0 0) else (.inr xISE, σ)
set_option maxRecDepth 100000 in
set_option maxHeartbeats 4000000 in
/-- Bus_mount -/
theorem c_Bus_mount (l : Launch) (hl : l.stackTraces = false) (D : va_G) (ca : Nat → ClassId) (b : Nat) (σ : Sg) (x y : Int32) (hF : FP σ) : CtX l D ca b y_Bus_mount w_Bus_mount (rmX 6 82) σ [.ref (b + 0), .int x, .int y] (fun r σ' => r = (mountF σ x y).1 ∧ σ' = (mountF σ x y).2) := by
  refine cx_i "RobotBus" [(0, .ref (b + 0)), (1, .int x), (2, .int y)] hl (by decide) rfl rfl (Nat.le_of_ble_eq_true rfl) rfl ⟨by decide, by decide, by decide, by decide⟩ (fun X C hret hthr => ?_)
  refine z_iload_n C d_Bus_mount_0 rfl 1 rfl ?_
  refine z_if_eq C 22 d_Bus_mount_1 (by decide) (fun h1 => ?_) (fun h1 => ?_)
  · exact hthr _ _ _ _ 248 _ 2 "no such frame or parent" _ XC_IAE (List.mem_of_getElem? (i := 19) rfl) (Or.inl ⟨d_Bus_mount_26, rfl⟩) d_Bus_mount_22 d_Bus_mount_25 d_Bus_mount_28 d_Bus_mount_31 (by simp [mountF, *])
  · refine z_iload_n C d_Bus_mount_4 rfl 1 rfl ?_
    refine z_bipush C (v := 6) d_Bus_mount_5 (by decide) ?_
    refine zf_Si C d_Bus_mount_7 (c_Bus_isBelow l D ca b σ x 6) tw_286 tw_287 tw_1 tw_288 pd_Bus_isBelow ⟨⟨by decide, by decide⟩, rfl, rfl, by decide, by decide⟩ (Nat.le_of_ble_eq_true rfl) rfl ?_
    refine z_if_eq C 22 d_Bus_mount_10 (by decide) (fun h10 => ?_) (fun h10 => ?_)
    · exact hthr _ _ _ _ 248 _ 2 "no such frame or parent" _ XC_IAE (List.mem_of_getElem? (i := 19) rfl) (Or.inl ⟨d_Bus_mount_26, rfl⟩) d_Bus_mount_22 d_Bus_mount_25 d_Bus_mount_28 d_Bus_mount_31 (by simp [mountF, *])
    · obtain ⟨f, hf, rfl⟩ := bel_nat (n := 6) (by decide) h10
      have hcf : (nI f).toNatClampNeg = f := nI_clamp (by omega)
      refine z_iload_n C d_Bus_mount_13 rfl 2 rfl ?_
      refine z_bipush C (v := 6) d_Bus_mount_14 (by decide) ?_
      refine zf_Si C d_Bus_mount_16 (c_Bus_isBelow l D ca b σ y 6) tw_286 tw_287 tw_1 tw_288 pd_Bus_isBelow ⟨⟨by decide, by decide⟩, rfl, rfl, by decide, by decide⟩ (Nat.le_of_ble_eq_true rfl) rfl ?_
      refine z_if_ne C 32 d_Bus_mount_19 (by decide) (fun h19 => ?_) (fun h19 => ?_)
      · obtain ⟨p, hp, rfl⟩ := bel_nat (n := 6) (by decide) h19
        have hcp : (nI p).toNatClampNeg = p := nI_clamp (by omega)
        refine z_aload_n C d_Bus_mount_32 rfl 0 rfl ?_
        refine z_iload_n C d_Bus_mount_33 rfl 1 rfl ?_
        refine z_iload_n C d_Bus_mount_34 rfl 2 rfl ?_
        refine zf_Vi C d_Bus_mount_35 (c_Bus_isAbove l D ca b σ (nI f) (nI p) (Or.inr ⟨p, hp, rfl⟩) hF) tw_653 tw_655 tp_Bus_isAbove tw_1 tw_656 pd_Bus_isAbove ⟨⟨by decide, by decide⟩, rfl, rfl, by decide, by decide⟩ (by omega) rfl (eB_Bus ) rfl (Nat.le_of_ble_eq_true rfl) rfl ?_
        refine z_if_eq C 51 d_Bus_mount_38 (by decide) (fun h38 => ?_) (fun h38 => ?_)
        · refine z_aload_n C d_Bus_mount_51 rfl 0 rfl ?_
          refine gB_Bus_frames C d_Bus_mount_52 tw_236  ?_
          refine z_iload_n C d_Bus_mount_55 rfl 1 rfl ?_
          refine rB_frms C (j := f) d_Bus_mount_56  rfl hf ?_
          refine gB_Frm_parent C d_Bus_mount_57 tw_217 hf ?_
          refine z_istore_n C d_Bus_mount_60 rfl (by decide) [(3, .int (σ.1 60 f 0 0)), (0, .ref (b + 0)), (1, .int (nI f)), (2, .int (nI p))] rfl ?_
          refine z_aload_n C d_Bus_mount_61 rfl 1 rfl ?_
          refine gB_Bus_frames C d_Bus_mount_62 tw_236  ?_
          refine z_iload_n C d_Bus_mount_65 rfl 2 rfl ?_
          refine rB_frms C (j := f) d_Bus_mount_66  rfl hf ?_
          refine z_iload_n C d_Bus_mount_67 rfl 3 rfl ?_
          refine pB_Frm_parent C d_Bus_mount_68 tw_217 hf ?_
          refine z_aload_n C d_Bus_mount_71 rfl 1 rfl ?_
          refine gB_Bus_frames C d_Bus_mount_72 tw_236  ?_
          refine z_iload_n C d_Bus_mount_75 rfl 2 rfl ?_
          refine rB_frms C (j := f) d_Bus_mount_76  rfl hf ?_
          refine z_iconst C (v := 0) d_Bus_mount_77 (by decide) ?_
          refine pB_Frm_size C d_Bus_mount_78 tw_219 hf ?_
          refine z_iload_n C d_Bus_mount_81 rfl 0 rfl ?_
          exact hret _ _ _ _ d_Bus_mount_82 (by simp [mountF, *])
        · exact hthr _ _ _ _ 253 _ 2 "the frame would be above itself" _ XC_ISE (List.mem_of_getElem? (i := 20) rfl) (Or.inl ⟨d_Bus_mount_45, rfl⟩) d_Bus_mount_41 d_Bus_mount_44 d_Bus_mount_47 d_Bus_mount_50 (by simp [mountF, *])
      · exact hthr _ _ _ _ 248 _ 2 "no such frame or parent" _ XC_IAE (List.mem_of_getElem? (i := 19) rfl) (Or.inl ⟨d_Bus_mount_26, rfl⟩) d_Bus_mount_22 d_Bus_mount_25 d_Bus_mount_28 d_Bus_mount_31 (by simp [mountF, *])
def sampF (σ : Sg) (f w x y u : Int32) : Out × Sg := if bel f 6 = 0 then (.inr xNSE, σ) else if σ.1 60 (cn f) 0 0 = -1 then (.inr xNSE, σ) else if isCo x = 0 then (.inr xIAE, σ) else if isCo y = 0 then (.inr xIAE, σ) else if bel u 4 = 0 then (.inr xIAE, σ) else if wit w 0 100000 = 0 then (.inr xIAE, σ)
  else if fBeh σ (cn f) (fsz σ (cn f)) w = 0 then (.inr xISE, σ) else (.inl (.int ((fApp σ (cn f) (fsz σ (cn f)) w x y u).1 61 (cn f) 0 0)), fApp σ (cn f) (fsz σ (cn f)) w x y u)
set_option maxRecDepth 100000 in
set_option maxHeartbeats 4000000 in
/-- Bus_sample -/
theorem c_Bus_sample (l : Launch) (hl : l.stackTraces = false) (D : va_G) (ca : Nat → ClassId) (b : Nat) (σ : Sg) (g w x y u : Int32) (hF : FI σ) : CtX l D ca b y_Bus_sample w_Bus_sample (rmX 6 90) σ [.ref (b + 0), .int g, .int w, .double (cx x), .double (cx y), .int u] (fun r σ' => r = (sampF σ g w x y u).1 ∧ σ' = (sampF σ g w x y u).2) := by
  refine cx_i "RobotBus" [(0, .ref (b + 0)), (1, .int g), (2, .int w), (3, .double (cx x)), (5, .double (cx y)), (7, .int u)] hl (by decide) rfl rfl (Nat.le_of_ble_eq_true rfl) rfl ⟨by decide, by decide, by decide, by decide⟩ (fun X C hret hthr => ?_)
  refine z_iload_n C d_Bus_sample_0 rfl 1 rfl ?_
  refine z_bipush C (v := 6) d_Bus_sample_1 (by decide) ?_
  refine zf_Si C d_Bus_sample_3 (c_Bus_isBelow l D ca b σ g 6) tw_286 tw_287 tw_1 tw_288 pd_Bus_isBelow ⟨⟨by decide, by decide⟩, rfl, rfl, by decide, by decide⟩ (Nat.le_of_ble_eq_true rfl) rfl ?_
  refine z_if_eq C 22 d_Bus_sample_6 (by decide) (fun h6 => ?_) (fun h6 => ?_)
  · exact hthr _ _ _ _ 259 _ 3 "the frame has no parent" _ XC_NSE (List.mem_of_getElem? (i := 21) rfl) (Or.inr ⟨d_Bus_sample_26, rfl⟩) d_Bus_sample_22 d_Bus_sample_25 d_Bus_sample_29 d_Bus_sample_32 (by simp [sampF, *])
  · obtain ⟨f, hf, rfl⟩ := bel_nat (n := 6) (by decide) h6
    have hcf : (nI f).toNatClampNeg = f := nI_clamp (by omega)
    obtain ⟨hz, hz4, -⟩ := hF f hf
    refine z_aload_n C d_Bus_sample_9 rfl 0 rfl ?_
    refine gB_Bus_frames C d_Bus_sample_10 tw_236  ?_
    refine z_iload_n C d_Bus_sample_13 rfl 1 rfl ?_
    refine rB_frms C (j := f) d_Bus_sample_14  rfl hf ?_
    refine gB_Frm_parent C d_Bus_sample_15 tw_217 hf ?_
    refine z_iconst C (v := -1) d_Bus_sample_18 (by decide) ?_
    refine z_icmp_ne C 33 d_Bus_sample_19 (by decide) (fun h19 => ?_) (fun h19 => ?_)
    · refine z_dload_n C d_Bus_sample_33 rfl 3 rfl ?_
      refine zf_Si C d_Bus_sample_34 (c_Bus_isCoordinate l D ca b σ x) tw_666 tw_667 tw_1 tw_668 pd_Bus_isCoordinate ⟨⟨by decide, by decide⟩, rfl, rfl, by decide, by decide⟩ (Nat.le_of_ble_eq_true rfl) rfl ?_
      refine z_if_eq C 68 d_Bus_sample_37 (by decide) (fun h37 => ?_) (fun h37 => ?_)
      · exact hthr _ _ _ _ 266 _ 3 "no such place, turn or time" _ XC_IAE (List.mem_of_getElem? (i := 22) rfl) (Or.inr ⟨d_Bus_sample_72, rfl⟩) d_Bus_sample_68 d_Bus_sample_71 d_Bus_sample_75 d_Bus_sample_78 (by simp [sampF, *])
      · refine z_dload C d_Bus_sample_40 4 rfl ?_
        refine zf_Si C d_Bus_sample_42 (c_Bus_isCoordinate l D ca b σ y) tw_666 tw_667 tw_1 tw_668 pd_Bus_isCoordinate ⟨⟨by decide, by decide⟩, rfl, rfl, by decide, by decide⟩ (Nat.le_of_ble_eq_true rfl) rfl ?_
        refine z_if_eq C 68 d_Bus_sample_45 (by decide) (fun h45 => ?_) (fun h45 => ?_)
        · exact hthr _ _ _ _ 266 _ 3 "no such place, turn or time" _ XC_IAE (List.mem_of_getElem? (i := 22) rfl) (Or.inr ⟨d_Bus_sample_72, rfl⟩) d_Bus_sample_68 d_Bus_sample_71 d_Bus_sample_75 d_Bus_sample_78 (by simp [sampF, *])
        · refine z_iload C d_Bus_sample_48 5 rfl ?_
          refine z_iconst C (v := 4) d_Bus_sample_50 (by decide) ?_
          refine zf_Si C d_Bus_sample_51 (c_Bus_isBelow l D ca b σ u 4) tw_286 tw_287 tw_1 tw_288 pd_Bus_isBelow ⟨⟨by decide, by decide⟩, rfl, rfl, by decide, by decide⟩ (Nat.le_of_ble_eq_true rfl) rfl ?_
          refine z_if_eq C 68 d_Bus_sample_54 (by decide) (fun h54 => ?_) (fun h54 => ?_)
          · exact hthr _ _ _ _ 266 _ 3 "no such place, turn or time" _ XC_IAE (List.mem_of_getElem? (i := 22) rfl) (Or.inr ⟨d_Bus_sample_72, rfl⟩) d_Bus_sample_68 d_Bus_sample_71 d_Bus_sample_75 d_Bus_sample_78 (by simp [sampF, *])
          · refine z_iload_n C d_Bus_sample_57 rfl 2 rfl ?_
            refine z_iconst C (v := 0) d_Bus_sample_58 (by decide) ?_
            refine z_ldcw C (List.mem_cons_of_mem _ tw_675) d_Bus_sample_59 ?_
            refine zf_Si C d_Bus_sample_62 (c_Bus_isWithin l D ca b σ w 0 100000) tw_426 tw_427 tw_1 tw_428 pd_Bus_isWithin ⟨⟨by decide, by decide⟩, rfl, rfl, by decide, by decide⟩ (Nat.le_of_ble_eq_true rfl) rfl ?_
            refine z_if_ne C 79 d_Bus_sample_65 (by decide) (fun h65 => ?_) (fun h65 => ?_)
            · refine z_aload_n C d_Bus_sample_79 rfl 0 rfl ?_
              refine gB_Bus_frames C d_Bus_sample_80 tw_236  ?_
              refine z_iload_n C d_Bus_sample_83 rfl 1 rfl ?_
              refine rB_frms C (j := f) d_Bus_sample_84  rfl hf ?_
              refine z_iload_n C d_Bus_sample_85 rfl 2 rfl ?_
              refine zf_Vi C d_Bus_sample_86 (c_Frm_isBehindLast l D ca b σ hf hz hz4 w) tw_677 tw_678 tw_679 tw_9 tw_680 pd_Frm_isBehindLast ⟨⟨by decide, by decide⟩, rfl, rfl, by decide, by decide⟩ (by omega) rfl (eB_Frm hf) rfl (Nat.le_of_ble_eq_true rfl) rfl ?_
              refine z_if_ne C 103 d_Bus_sample_89 (by decide) (fun h89 => ?_) (fun h89 => ?_)
              · refine z_aload_n C d_Bus_sample_103 rfl 0 rfl ?_
                refine gB_Bus_frames C d_Bus_sample_104 tw_236  ?_
                refine z_iload_n C d_Bus_sample_107 rfl 1 rfl ?_
                refine rB_frms C (j := f) d_Bus_sample_108  rfl hf ?_
                refine z_iload_n C d_Bus_sample_109 rfl 2 rfl ?_
                refine z_dload_n C d_Bus_sample_110 rfl 3 rfl ?_
                refine zf_Si C d_Bus_sample_111 (c_Bus_toEighths l D ca b σ x) tw_671 tw_672 tw_1 tw_673 pd_Bus_toEighths ⟨⟨by decide, by decide⟩, rfl, rfl, by decide, by decide⟩ (Nat.le_of_ble_eq_true rfl) rfl ?_
                refine z_dload C d_Bus_sample_114 4 rfl ?_
                refine zf_Si C d_Bus_sample_116 (c_Bus_toEighths l D ca b σ y) tw_671 tw_672 tw_1 tw_673 pd_Bus_toEighths ⟨⟨by decide, by decide⟩, rfl, rfl, by decide, by decide⟩ (Nat.le_of_ble_eq_true rfl) rfl ?_
                refine z_iload C d_Bus_sample_119 5 rfl ?_
                refine zf_Vv C d_Bus_sample_121 (c_Frm_append l D ca b σ hf hz hz4 w x y u) tw_682 tw_683 tw_684 tw_9 tw_685 pd_Frm_append ⟨⟨by decide, by decide⟩, rfl, rfl, by decide, by decide⟩ (by omega) rfl (eB_Frm hf) rfl (Nat.le_of_ble_eq_true rfl) rfl ?_
                refine z_aload_n C d_Bus_sample_124 rfl 0 rfl ?_
                refine gB_Bus_frames C d_Bus_sample_125 tw_236  ?_
                refine z_iload_n C d_Bus_sample_128 rfl 1 rfl ?_
                refine rB_frms C (j := f) d_Bus_sample_129  rfl hf ?_
                refine gB_Frm_size C d_Bus_sample_130 tw_219 hf ?_
                exact hret _ _ _ _ d_Bus_sample_133 (by simp [sampF, *])
              · exact hthr _ _ _ _ 271 _ 3 "the time is not greater than the last one" _ XC_ISE (List.mem_of_getElem? (i := 23) rfl) (Or.inr ⟨d_Bus_sample_96, rfl⟩) d_Bus_sample_92 d_Bus_sample_95 d_Bus_sample_99 d_Bus_sample_102 (by simp [sampF, *])
            · exact hthr _ _ _ _ 266 _ 3 "no such place, turn or time" _ XC_IAE (List.mem_of_getElem? (i := 22) rfl) (Or.inr ⟨d_Bus_sample_72, rfl⟩) d_Bus_sample_68 d_Bus_sample_71 d_Bus_sample_75 d_Bus_sample_78 (by simp [sampF, *])
    · exact hthr _ _ _ _ 259 _ 3 "the frame has no parent" _ XC_NSE (List.mem_of_getElem? (i := 21) rfl) (Or.inr ⟨d_Bus_sample_26, rfl⟩) d_Bus_sample_22 d_Bus_sample_25 d_Bus_sample_29 d_Bus_sample_32 (by simp [sampF, *])
def locaP (σ : Sg) (x y : Int32) : Sg := us (us σ 20 0 0 x) 21 0 0 y
theorem upE_1 {σ : Sg} {v : Ky} {g : Nat → UInt64} : (upE σ v g).1 = σ.1 := rfl
def locaF (σ : Sg) (f w x y : Int32) : Out × Sg := if bel f 6 = 0 then (.inr xIAE, σ) else if isCo x = 0 then (.inr xIAE, σ) else if isCo y = 0 then (.inr xIAE, σ) else if abv σ 0 6 f = 0 then (.inr xNSE, σ)
  else if (lft w 6 f (locaP σ x y)).2 = 0 then (.inr xARI, (lft w 6 f (locaP σ x y)).1) else (.inl (.double (FP.ddiv (FP.i2d ((lft w 6 f (locaP σ x y)).1.1 20 0 0 0)) e8)), upE (lft w 6 f (locaP σ x y)).1 (7, 0, 0) (fun _ => FP.ddiv (FP.i2d ((lft w 6 f (locaP σ x y)).1.1 21 0 0 0)) e8))
theorem abv_01 (σ : Sg) (u : Int32) : ∀ (m : Nat) (x : Int32), abv σ u m x = 0 ∨ abv σ u m x = 1 := by
  intro m
  induction m with
  | zero => intro x; exact Or.inl rfl
  | succ m ih =>
    intro x
    unfold abv
    split
    · exact Or.inl rfl
    · split
      · exact Or.inr rfl
      · exact ih _
theorem locaP_ne {σ : Sg} {x y : Int32} {f i : Nat} (h : 60 ≤ f) : (locaP σ x y).1 f i 0 = σ.1 f i 0 := by
  unfold locaP
  rw [us_ne (by simp; omega), us_ne (by simp; omega)]
set_option maxRecDepth 100000 in
set_option maxHeartbeats 4000000 in
/-- Bus_locate -/
theorem c_Bus_locate (l : Launch) (hl : l.stackTraces = false) (D : va_G) (ca : Nat → ClassId) (b : Nat) (σ : Sg) (g w x y : Int32) (hF : FI σ) (hP : FP σ) : CtX l D ca b y_Bus_locate w_Bus_locate (rmX 6 100) σ [.ref (b + 0), .int g, .int w, .double (cx x), .double (cx y)] (fun r σ' => r = (locaF σ g w x y).1 ∧ σ' = (locaF σ g w x y).2) := by
  refine cx_d "RobotBus" [(0, .ref (b + 0)), (1, .int g), (2, .int w), (3, .double (cx x)), (5, .double (cx y))] hl (by decide) rfl rfl (Nat.le_of_ble_eq_true rfl) rfl ⟨by decide, by decide, by decide, by decide⟩ (fun X C hret hthr => ?_)
  refine z_iload_n C d_Bus_locate_0 rfl 1 rfl ?_
  refine z_bipush C (v := 6) d_Bus_locate_1 (by decide) ?_
  refine zf_Si C d_Bus_locate_3 (c_Bus_isBelow l D ca b σ g 6) tw_286 tw_287 tw_1 tw_288 pd_Bus_isBelow ⟨⟨by decide, by decide⟩, rfl, rfl, by decide, by decide⟩ (Nat.le_of_ble_eq_true rfl) rfl ?_
  refine z_if_eq C 24 d_Bus_locate_6 (by decide) (fun h6 => ?_) (fun h6 => ?_)
  · exact hthr _ _ _ _ 280 _ 3 "no such frame or point" _ XC_IAE (List.mem_of_getElem? (i := 24) rfl) (Or.inr ⟨d_Bus_locate_28, rfl⟩) d_Bus_locate_24 d_Bus_locate_27 d_Bus_locate_31 d_Bus_locate_34 (by simp [locaF, upE_1, *])
  · obtain ⟨f, hf, rfl⟩ := bel_nat (n := 6) (by decide) h6
    have hcf : (nI f).toNatClampNeg = f := nI_clamp (by omega)
    refine z_dload_n C d_Bus_locate_9 rfl 3 rfl ?_
    refine zf_Si C d_Bus_locate_10 (c_Bus_isCoordinate l D ca b σ x) tw_666 tw_667 tw_1 tw_668 pd_Bus_isCoordinate ⟨⟨by decide, by decide⟩, rfl, rfl, by decide, by decide⟩ (Nat.le_of_ble_eq_true rfl) rfl ?_
    refine z_if_eq C 24 d_Bus_locate_13 (by decide) (fun h13 => ?_) (fun h13 => ?_)
    · exact hthr _ _ _ _ 280 _ 3 "no such frame or point" _ XC_IAE (List.mem_of_getElem? (i := 24) rfl) (Or.inr ⟨d_Bus_locate_28, rfl⟩) d_Bus_locate_24 d_Bus_locate_27 d_Bus_locate_31 d_Bus_locate_34 (by simp [locaF, upE_1, *])
    · refine z_dload C d_Bus_locate_16 4 rfl ?_
      refine zf_Si C d_Bus_locate_18 (c_Bus_isCoordinate l D ca b σ y) tw_666 tw_667 tw_1 tw_668 pd_Bus_isCoordinate ⟨⟨by decide, by decide⟩, rfl, rfl, by decide, by decide⟩ (Nat.le_of_ble_eq_true rfl) rfl ?_
      refine z_if_ne C 35 d_Bus_locate_21 (by decide) (fun h21 => ?_) (fun h21 => ?_)
      · refine z_aload_n C d_Bus_locate_35 rfl 0 rfl ?_
        refine z_iconst C (v := 0) d_Bus_locate_36 (by decide) ?_
        refine z_iload_n C d_Bus_locate_37 rfl 1 rfl ?_
        refine zf_Vi C d_Bus_locate_38 (c_Bus_isAbove l D ca b σ 0 (nI f) (Or.inr ⟨f, hf, rfl⟩) hP) tw_653 tw_655 tp_Bus_isAbove tw_1 tw_656 pd_Bus_isAbove ⟨⟨by decide, by decide⟩, rfl, rfl, by decide, by decide⟩ (by omega) rfl (eB_Bus ) rfl (Nat.le_of_ble_eq_true rfl) rfl ?_
        refine z_if_ne C 55 d_Bus_locate_41 (by decide) (fun h41 => ?_) (fun h41 => ?_)
        · refine z_aload_n C d_Bus_locate_55 rfl 0 rfl ?_
          refine gB_Bus_point C d_Bus_locate_56 tw_238  ?_
          refine z_dload_n C d_Bus_locate_59 rfl 3 rfl ?_
          refine zf_Si C d_Bus_locate_60 (c_Bus_toEighths l D ca b σ x) tw_671 tw_672 tw_1 tw_673 pd_Bus_toEighths ⟨⟨by decide, by decide⟩, rfl, rfl, by decide, by decide⟩ (Nat.le_of_ble_eq_true rfl) rfl ?_
          refine pB_Pnt_x C d_Bus_locate_63 tw_79  ?_
          refine z_aload_n C d_Bus_locate_66 rfl 0 rfl ?_
          refine gB_Bus_point C d_Bus_locate_67 tw_238  ?_
          refine z_dload C d_Bus_locate_70 4 rfl ?_
          refine zf_Si C d_Bus_locate_72 (c_Bus_toEighths l D ca b (us σ 20 0 0 x) y) tw_671 tw_672 tw_1 tw_673 pd_Bus_toEighths ⟨⟨by decide, by decide⟩, rfl, rfl, by decide, by decide⟩ (Nat.le_of_ble_eq_true rfl) rfl ?_
          refine pB_Pnt_y C d_Bus_locate_75 tw_81  ?_
          refine z_aload_n C d_Bus_locate_78 rfl 0 rfl ?_
          refine z_iload_n C d_Bus_locate_79 rfl 1 rfl ?_
          refine z_iload_n C d_Bus_locate_80 rfl 2 rfl ?_
          refine zf_Vi C d_Bus_locate_81 (c_Bus_liftToRoot l D ca b (locaP σ x y) (nI f) w (FI_eq (fun f i h1 h2 => locaP_ne h1) hF) (FP_eq (fun i => locaP_ne (by decide)) hP) (Or.inr ⟨f, hf, rfl⟩) ((abv_eq (fun i => locaP_ne (by decide)) 0 6 (nI f)).trans ((abv_01 σ 0 6 (nI f)).resolve_left h41))) tw_700 tw_702 tp_Bus_liftToRoot tw_1 tw_703 pd_Bus_liftToRoot ⟨⟨by decide, by decide⟩, rfl, rfl, by decide, by decide⟩ (by omega) rfl (eB_Bus ) rfl (Nat.le_of_ble_eq_true rfl) rfl ?_
          refine z_if_ne C 98 d_Bus_locate_84 (by decide) (fun h84 => ?_) (fun h84 => ?_)
          · refine z_aload_n C d_Bus_locate_98 rfl 0 rfl ?_
            refine z_aload_n C d_Bus_locate_99 rfl 0 rfl ?_
            refine gB_Bus_point C d_Bus_locate_100 tw_238  ?_
            refine gB_Pnt_y C d_Bus_locate_103 tw_81  ?_
            refine z_i2d C d_Bus_locate_106 ?_
            refine z_ldc2d C (List.mem_cons_of_mem _ tw_674) d_Bus_locate_107 ?_
            refine z_ddiv C d_Bus_locate_110 (cx_d64 _) ?_
            refine pB_Bus_keptY C d_Bus_locate_111 tw_245  ?_
            refine z_aload_n C d_Bus_locate_114 rfl 0 rfl ?_
            refine gB_Bus_point C d_Bus_locate_115 tw_238  ?_
            refine gB_Pnt_x C d_Bus_locate_118 tw_79  ?_
            refine z_i2d C d_Bus_locate_121 ?_
            refine z_ldc2d C (List.mem_cons_of_mem _ tw_674) d_Bus_locate_122 ?_
            refine z_ddiv C d_Bus_locate_125 (cx_d64 _) ?_
            exact hret _ _ _ _ d_Bus_locate_126 (by simp [locaF, upE_1, *])
          · exact hthr _ _ _ _ 293 _ 3 "a frame is nowhere at that time" _ XC_ARI (List.mem_of_getElem? (i := 26) rfl) (Or.inr ⟨d_Bus_locate_91, rfl⟩) d_Bus_locate_87 d_Bus_locate_90 d_Bus_locate_94 d_Bus_locate_97 (by simp [locaF, upE_1, *])
        · exact hthr _ _ _ _ 282 _ 3 "the frames above do not lead to the root" _ XC_NSE (List.mem_of_getElem? (i := 25) rfl) (Or.inr ⟨d_Bus_locate_48, rfl⟩) d_Bus_locate_44 d_Bus_locate_47 d_Bus_locate_51 d_Bus_locate_54 (by simp [locaF, upE_1, *])
      · exact hthr _ _ _ _ 280 _ 3 "no such frame or point" _ XC_IAE (List.mem_of_getElem? (i := 24) rfl) (Or.inr ⟨d_Bus_locate_28, rfl⟩) d_Bus_locate_24 d_Bus_locate_27 d_Bus_locate_31 d_Bus_locate_34 (by simp [locaF, upE_1, *])
def subD (σ : Sg) (j t e : Nat) : Sg := us (qDeep σ j t (qsz σ j t) e) 2 0 0 (σ.1 2 0 0 0 + nI (qsz σ j t - e))
def subS (σ : Sg) (j t e : Nat) : Sg := if qOpen σ j t = 0 then (if σ.1 40 t 0 0 = 0 then subD σ j t e else if σ.1 42 t 0 0 = 0 then subD σ j t e else qApp (subD σ j t e) j t (qsz σ j t - (qsz σ j t - e)) e (σ.1 43 t 0 0) (σ.1 44 t 0 0) (σ.1 45 t 0 0)) else subD σ j t e
def subF (σ : Sg) (x t d : Int32) : Out × Sg := if isTh σ x = 0 then (.inr xNSE, σ) else if bel t 6 = 0 then (.inr xIAE, σ) else if wit d 1 4 = 0 then (.inr xIAE, σ) else
  (.inl (.int ((subS σ (cn x) (cn t) (cn d)).1 34 (cn x) (cn t) 0)), subS σ (cn x) (cn t) (cn d))
theorem subD_ne {σ : Sg} {j t e f i u : Nat} (h : 40 ≤ f) : (subD σ j t e).1 f i u = σ.1 f i u := by
  unfold subD qDeep qDrop
  rw [us_ne (by simp; omega), us_ne (by simp; omega), upA_ne (by simp; omega), us_ne (by simp; omega)]
theorem subD_33 {σ : Sg} {j t e : Nat} : (subD σ j t e).1 33 j t 0 = nI e := by
  unfold subD qDeep
  rw [us_ne (by simp), us_self]
theorem subD_34 {σ : Sg} {j t e : Nat} : (subD σ j t e).1 34 j t 0 = nI (qsz σ j t - (qsz σ j t - e)) := by
  unfold subD qDeep qDrop
  rw [us_ne (by simp), us_ne (by simp), upA_ne (by simp), us_self]
set_option maxRecDepth 100000 in
set_option maxHeartbeats 4000000 in
/-- Bus_subscribe -/
theorem c_Bus_subscribe (l : Launch) (hl : l.stackTraces = false) (D : va_G) (ca : Nat → ClassId) (b : Nat) (σ : Sg) (x y d : Int32) (hB : BI σ) : CtX l D ca b y_Bus_subscribe w_Bus_subscribe (rmX 6 90) σ [.ref (b + 0), .int x, .int y, .int d] (fun r σ' => r = (subF σ x y d).1 ∧ σ' = (subF σ x y d).2) := by
  refine cx_i "RobotBus" [(0, .ref (b + 0)), (1, .int x), (2, .int y), (3, .int d)] hl (by decide) rfl rfl (Nat.le_of_ble_eq_true rfl) rfl ⟨by decide, by decide, by decide, by decide⟩ (fun X C hret hthr => ?_)
  refine z_aload_n C d_Bus_subscribe_0 rfl 0 rfl ?_
  refine z_iload_n C d_Bus_subscribe_1 rfl 1 rfl ?_
  refine zf_Vi C d_Bus_subscribe_2 (c_Bus_isThere l D ca b σ x) tw_383 tw_385 tp_Bus_isThere tw_1 tw_386 pd_Bus_isThere ⟨⟨by decide, by decide⟩, rfl, rfl, by decide, by decide⟩ (by omega) rfl (eB_Bus ) rfl (Nat.le_of_ble_eq_true rfl) rfl ?_
  refine z_if_ne C 18 d_Bus_subscribe_5 (by decide) (fun h5 => ?_) (fun h5 => ?_)
  · obtain ⟨j, hj, rfl, hpj⟩ := isTh_nat h5
    have hcj : (nI j).toNatClampNeg = j := nI_clamp (by omega)
    refine z_iload_n C d_Bus_subscribe_18 rfl 2 rfl ?_
    refine z_bipush C (v := 6) d_Bus_subscribe_19 (by decide) ?_
    refine zf_Si C d_Bus_subscribe_21 (c_Bus_isBelow l D ca b σ y 6) tw_286 tw_287 tw_1 tw_288 pd_Bus_isBelow ⟨⟨by decide, by decide⟩, rfl, rfl, by decide, by decide⟩ (Nat.le_of_ble_eq_true rfl) rfl ?_
    refine z_if_eq C 36 d_Bus_subscribe_24 (by decide) (fun h24 => ?_) (fun h24 => ?_)
    · exact hthr _ _ _ _ 119 _ 2 "no such topic or depth" _ XC_IAE (List.mem_of_getElem? (i := 4) rfl) (Or.inl ⟨d_Bus_subscribe_40, rfl⟩) d_Bus_subscribe_36 d_Bus_subscribe_39 d_Bus_subscribe_42 d_Bus_subscribe_45 (by simp [subF, subS, *])
    · obtain ⟨t, ht, rfl⟩ := bel_nat (n := 6) (by decide) h24
      have hct : (nI t).toNatClampNeg = t := nI_clamp (by omega)
      refine z_iload_n C d_Bus_subscribe_27 rfl 3 rfl ?_
      refine z_iconst C (v := 1) d_Bus_subscribe_28 (by decide) ?_
      refine z_iconst C (v := 4) d_Bus_subscribe_29 (by decide) ?_
      refine zf_Si C d_Bus_subscribe_30 (c_Bus_isWithin l D ca b σ d 1 4) tw_426 tw_427 tw_1 tw_428 pd_Bus_isWithin ⟨⟨by decide, by decide⟩, rfl, rfl, by decide, by decide⟩ (Nat.le_of_ble_eq_true rfl) rfl ?_
      refine z_if_ne C 46 d_Bus_subscribe_33 (by decide) (fun h33 => ?_) (fun h33 => ?_)
      · obtain ⟨e, he1, he, rfl⟩ := wit_nat (lo := 1) (hi := 4) (by decide) (by decide) h33
        have hce : (nI e).toNatClampNeg = e := nI_clamp (by omega)
        refine z_aload_n C d_Bus_subscribe_46 rfl 0 rfl ?_
        refine gB_Bus_nodes C d_Bus_subscribe_47 tw_233  ?_
        refine z_iload_n C d_Bus_subscribe_50 rfl 1 rfl ?_
        refine rB_nods C (j := j) d_Bus_subscribe_51  rfl hj ?_
        refine gB_Nod_queues C d_Bus_subscribe_52 tw_135 hj ?_
        refine z_iload_n C d_Bus_subscribe_55 rfl 2 rfl ?_
        refine rB_ques C (j := t) d_Bus_subscribe_56 hj rfl ht ?_
        refine z_astore C d_Bus_subscribe_57 (by decide) [(4, .ref (b + (14 + 22 * j + 3 * t))), (0, .ref (b + 0)), (1, .int (nI j)), (2, .int (nI t)), (3, .int (nI e))] rfl ?_
        refine z_aload C d_Bus_subscribe_59 0 rfl ?_
        refine zf_Vi C d_Bus_subscribe_61 (c_Que_isOpen l D ca b σ hj ht) tw_430 tw_431 tw_432 tw_5 tw_433 pd_Que_isOpen ⟨⟨by decide, by decide⟩, rfl, rfl, by decide, by decide⟩ (by omega) rfl (eB_Que hj ht) rfl (Nat.le_of_ble_eq_true rfl) rfl ?_
        refine z_if_ne C 71 d_Bus_subscribe_64 (by decide) (fun h64 => ?_) (fun h64 => ?_)
        · refine z_iconst C (v := 0) d_Bus_subscribe_71 (by decide) ?_
          refine z_istore C d_Bus_subscribe_72 (by decide) [(5, .int 0), (4, .ref (b + (14 + 22 * j + 3 * t))), (0, .ref (b + 0)), (1, .int (nI j)), (2, .int (nI t)), (3, .int (nI e))] rfl ?_
          refine z_aload_n C d_Bus_subscribe_74 rfl 2 rfl ?_
          refine z_dup C d_Bus_subscribe_75 rfl ?_
          refine gB_Bus_messagesLost C d_Bus_subscribe_76 tw_240  ?_
          refine z_aload C d_Bus_subscribe_79 1 rfl ?_
          refine z_iload_n C d_Bus_subscribe_81 rfl 5 rfl ?_
          refine zf_Vi C d_Bus_subscribe_82 (c_Que_deepen l D ca b σ hj ht (hB.1 j t hj ht).1 (by have := hB.1 j t hj ht; omega) he) tw_434 tw_435 tw_436 tw_5 tw_437 pd_Que_deepen ⟨⟨by decide, by decide⟩, rfl, rfl, by decide, by decide⟩ (by omega) rfl (eB_Que hj ht) rfl (Nat.le_of_ble_eq_true rfl) rfl ?_
          refine z_iadd C d_Bus_subscribe_85 ?_
          refine pB_Bus_messagesLost C d_Bus_subscribe_86 tw_240  ?_
          rw [show us (qDeep σ j t (qsz σ j t) e) 2 0 0 (σ.1 2 0 0 0 + nI (qsz σ j t - e)) = subD σ j t e from rfl]
          refine z_aload_n C d_Bus_subscribe_89 rfl 2 rfl ?_
          refine gB_Bus_topics C d_Bus_subscribe_90 tw_234  ?_
          refine z_iload_n C d_Bus_subscribe_93 rfl 4 rfl ?_
          refine rB_tops C (j := t) d_Bus_subscribe_94  rfl ht ?_
          refine z_astore C d_Bus_subscribe_95 (by decide) [(6, .ref (b + (142 + t))), (5, .int 0), (4, .ref (b + (14 + 22 * j + 3 * t))), (0, .ref (b + 0)), (1, .int (nI j)), (2, .int (nI t)), (3, .int (nI e))] rfl ?_
          refine z_iload C d_Bus_subscribe_97 1 rfl ?_
          refine z_if_eq C 139 d_Bus_subscribe_99 (by decide) (fun h99 => ?_) (fun h99 => False.elim (absurd (by decide) h99))
          refine z_aload C d_Bus_subscribe_139 2 rfl ?_
          refine gB_Que_size C d_Bus_subscribe_141 tw_105 hj ht ?_
          exact hret _ _ _ _ d_Bus_subscribe_144 (by simp [subF, subS, *])
        · refine z_iconst C (v := 1) d_Bus_subscribe_67 (by decide) ?_
          refine z_goto C 72 d_Bus_subscribe_68 (by decide) ?_
          refine z_istore C d_Bus_subscribe_72 (by decide) [(5, .int 1), (4, .ref (b + (14 + 22 * j + 3 * t))), (0, .ref (b + 0)), (1, .int (nI j)), (2, .int (nI t)), (3, .int (nI e))] rfl ?_
          refine z_aload_n C d_Bus_subscribe_74 rfl 2 rfl ?_
          refine z_dup C d_Bus_subscribe_75 rfl ?_
          refine gB_Bus_messagesLost C d_Bus_subscribe_76 tw_240  ?_
          refine z_aload C d_Bus_subscribe_79 1 rfl ?_
          refine z_iload_n C d_Bus_subscribe_81 rfl 5 rfl ?_
          refine zf_Vi C d_Bus_subscribe_82 (c_Que_deepen l D ca b σ hj ht (hB.1 j t hj ht).1 (by have := hB.1 j t hj ht; omega) he) tw_434 tw_435 tw_436 tw_5 tw_437 pd_Que_deepen ⟨⟨by decide, by decide⟩, rfl, rfl, by decide, by decide⟩ (by omega) rfl (eB_Que hj ht) rfl (Nat.le_of_ble_eq_true rfl) rfl ?_
          refine z_iadd C d_Bus_subscribe_85 ?_
          refine pB_Bus_messagesLost C d_Bus_subscribe_86 tw_240  ?_
          rw [show us (qDeep σ j t (qsz σ j t) e) 2 0 0 (σ.1 2 0 0 0 + nI (qsz σ j t - e)) = subD σ j t e from rfl]
          refine z_aload_n C d_Bus_subscribe_89 rfl 2 rfl ?_
          refine gB_Bus_topics C d_Bus_subscribe_90 tw_234  ?_
          refine z_iload_n C d_Bus_subscribe_93 rfl 4 rfl ?_
          refine rB_tops C (j := t) d_Bus_subscribe_94  rfl ht ?_
          refine z_astore C d_Bus_subscribe_95 (by decide) [(6, .ref (b + (142 + t))), (5, .int 1), (4, .ref (b + (14 + 22 * j + 3 * t))), (0, .ref (b + 0)), (1, .int (nI j)), (2, .int (nI t)), (3, .int (nI e))] rfl ?_
          refine z_iload C d_Bus_subscribe_97 1 rfl ?_
          refine z_if_eq C 139 d_Bus_subscribe_99 (by decide) (fun h99 => False.elim (absurd h99 (by decide))) (fun h99 => ?_)
          refine z_aload C d_Bus_subscribe_102 0 rfl ?_
          refine gB_Top_latched C d_Bus_subscribe_104 tw_158 ht ?_
          refine z_ri (x' := σ.1 40 t 0 0) (by rw [subD_ne (by decide)]) ?_
          refine z_if_eq C 139 d_Bus_subscribe_107 (by decide) (fun h107 => ?_) (fun h107 => ?_)
          · refine z_aload C d_Bus_subscribe_139 2 rfl ?_
            refine gB_Que_size C d_Bus_subscribe_141 tw_105 hj ht ?_
            exact hret _ _ _ _ d_Bus_subscribe_144 (by simp [subF, subS, *])
          · refine z_aload C d_Bus_subscribe_110 0 rfl ?_
            refine gB_Top_hasLast C d_Bus_subscribe_112 tw_162 ht ?_
            refine z_ri (x' := σ.1 42 t 0 0) (by rw [subD_ne (by decide)]) ?_
            refine z_if_eq C 139 d_Bus_subscribe_115 (by decide) (fun h115 => ?_) (fun h115 => ?_)
            · refine z_aload C d_Bus_subscribe_139 2 rfl ?_
              refine gB_Que_size C d_Bus_subscribe_141 tw_105 hj ht ?_
              exact hret _ _ _ _ d_Bus_subscribe_144 (by simp [subF, subS, *])
            · refine z_aload C d_Bus_subscribe_118 2 rfl ?_
              refine z_aload C d_Bus_subscribe_120 0 rfl ?_
              refine gB_Top_lastValue C d_Bus_subscribe_122 tw_164 ht ?_
              refine z_ri (x' := σ.1 43 t 0 0) (by rw [subD_ne (by decide)]) ?_
              refine z_aload C d_Bus_subscribe_125 0 rfl ?_
              refine gB_Top_lastSender C d_Bus_subscribe_127 tw_166 ht ?_
              refine z_ri (x' := σ.1 44 t 0 0) (by rw [subD_ne (by decide)]) ?_
              refine z_aload C d_Bus_subscribe_130 0 rfl ?_
              refine gB_Top_lastStamp C d_Bus_subscribe_132 tw_168 ht ?_
              refine z_ri (x' := σ.1 45 t 0 0) (by rw [subD_ne (by decide)]) ?_
              refine zf_Vi C d_Bus_subscribe_135 (c_Que_append l D ca b (subD σ j t e) hj ht subD_34 subD_33 (by omega) he1 (by have := hB.1 j t hj ht; omega) he (σ.1 43 t 0 0) (σ.1 44 t 0 0) (σ.1 45 t 0 0)) tw_448 tw_449 tw_450 tw_5 tw_451 pd_Que_append ⟨⟨by decide, by decide⟩, rfl, rfl, by decide, by decide⟩ (by omega) rfl (eB_Que hj ht) rfl (Nat.le_of_ble_eq_true rfl) rfl ?_
              refine z_pop C d_Bus_subscribe_138 rfl ?_
              refine z_aload C d_Bus_subscribe_139 2 rfl ?_
              refine gB_Que_size C d_Bus_subscribe_141 tw_105 hj ht ?_
              exact hret _ _ _ _ d_Bus_subscribe_144 (by simp [subF, subS, *])
      · exact hthr _ _ _ _ 119 _ 2 "no such topic or depth" _ XC_IAE (List.mem_of_getElem? (i := 4) rfl) (Or.inl ⟨d_Bus_subscribe_40, rfl⟩) d_Bus_subscribe_36 d_Bus_subscribe_39 d_Bus_subscribe_42 d_Bus_subscribe_45 (by simp [subF, subS, *])
  · exact hthr _ _ _ _ 100 _ 2 "no such node" _ XC_NSE (List.mem_of_getElem? (i := 2) rfl) (Or.inl ⟨d_Bus_subscribe_12, rfl⟩) d_Bus_subscribe_8 d_Bus_subscribe_11 d_Bus_subscribe_14 d_Bus_subscribe_17 (by simp [subF, subS, *])
