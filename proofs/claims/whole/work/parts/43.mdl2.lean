/-! shift, put -/
theorem ge_F {x y : Int32} {a b : Nat} (hx : x = nI a) (hy : y = nI b) (h : a < b) (hb : b < 2 ^ 31) : ¬ y ≤ x := by rw [hx, hy]; exact nI_ge h hb
theorem ge_T {x y : Int32} {a b : Nat} (hx : x = nI a) (hy : y = nI b) (h : b ≤ a) (ha : a < 2 ^ 31) : y ≤ x := by rw [hx, hy]; exact nI_le h ha
def sh (f : Nat → Int32) (a k : Nat) : Nat → Int32 := fun j => if a ≤ j ∧ j < k then f (j + 1) else f j
theorem sh_0 (f : Nat → Int32) (a : Nat) : sh f a a = f := by
  funext j
  unfold sh
  rw [if_neg (by omega)]
theorem sh_step {f : Nat → Int32} {a k : Nat} (h : a ≤ k) : upd (sh f a k) k (sh f a k (k + 1)) = sh f a (k + 1) := by
  funext j
  by_cases hj : j = k
  · subst hj
    rw [pk_us]
    unfold sh
    rw [if_neg (by omega), if_pos (by omega)]
  · rw [pk_un hj]
    unfold sh
    by_cases h2 : a ≤ j ∧ j < k
    · rw [if_pos h2, if_pos (by omega)]
    · rw [if_neg h2, if_neg (by omega)]
def shP (τ : Sg) (q w k : Nat) (ρ : Sg) : Prop := Off [106, 107, 108, 109] τ ρ ∧ ρ.1 106 0 0 = upd (τ.1 106 0 0) q (nI w) ∧ ρ.1 107 0 0 = sh (τ.1 107 0 0) (4 * q) k ∧ ρ.1 108 0 0 = sh (τ.1 108 0 0) (4 * q) k ∧ ρ.1 109 0 0 = sh (τ.1 109 0 0) (4 * q) k
set_option maxRecDepth 100000 in
set_option maxHeartbeats 4000000 in
theorem lp_Mdl_shift (l : Launch) (D : va_G) (ca : Nat → ClassId) (b : Nat) {R : Room} {X : Zx} {y0 : MethodName} {c0 : ByteArray} {n0 : Nat} {r0 : Option FieldType} (C : Cs D ca b_Mdl_shift 3 "RobotBusModel" (Cond.code y0 c0 n0 r0) X) (τ : Sg) {q w : Nat} (hq : q < 36) (hw : w ≤ 3) : ∀ m k, k + m = 4 * q + w → 4 * q ≤ k → ∀ ρ : Sg, shP τ q w k ρ → (∀ ρ' k', shP τ q w (4 * q + w) ρ' → Zs l D ca SM b 31 R 3 X ρ' 76 [(2, .int (nI k')), (0, .ref (b + 0)), (1, .int (nI q))] []) → Zs l D ca SM b 31 R 3 X ρ 14 [(2, .int (nI k)), (0, .ref (b + 0)), (1, .int (nI q))] [] := by
  intro m
  induction m with
  | zero =>
    intro k hk hk4 ρ hp kk
    have hw6 : ρ.1 106 0 0 q = nI w := by rw [hp.2.1, pk_us]
    have hk6 : k = 4 * q + w := by omega
    refine z_iload_n C d_Mdl_shift_14 rfl 0 rfl ?_
    refine z_iconst C (v := 4) d_Mdl_shift_15 (by decide) ?_
    refine z_iload_n C d_Mdl_shift_16 rfl 2 rfl ?_
    refine z_imul C d_Mdl_shift_17 ?_
    refine z_aload_n C d_Mdl_shift_18 rfl 1 rfl ?_
    refine gB_Mdl_waiting C d_Mdl_shift_19 tw_745  ?_
    refine z_iload_n C d_Mdl_shift_22 rfl 2 rfl ?_
    refine lB_m_waiting C (q := q) d_Mdl_shift_23  rfl (by omega) ?_
    refine z_iadd C d_Mdl_shift_24 ?_
    refine z_icmp_ge C 76 d_Mdl_shift_25 (by decide) (fun h25 => ?_) (fun h25 => False.elim (h25 (ge_T (a := k) (b := ((4 * q) + w)) rfl (nadd (nmul (rfl : (4 : Int32) = nI 4) rfl) hw6) (by omega) (by omega))))
    rw [hk6] at hp ⊢
    exact kk _ _ hp
  | succ m ih =>
    intro k hk hk4 ρ hp kk
    have hw6 : ρ.1 106 0 0 q = nI w := by rw [hp.2.1, pk_us]
    refine z_iload_n C d_Mdl_shift_14 rfl 0 rfl ?_
    refine z_iconst C (v := 4) d_Mdl_shift_15 (by decide) ?_
    refine z_iload_n C d_Mdl_shift_16 rfl 2 rfl ?_
    refine z_imul C d_Mdl_shift_17 ?_
    refine z_aload_n C d_Mdl_shift_18 rfl 1 rfl ?_
    refine gB_Mdl_waiting C d_Mdl_shift_19 tw_745  ?_
    refine z_iload_n C d_Mdl_shift_22 rfl 2 rfl ?_
    refine lB_m_waiting C (q := q) d_Mdl_shift_23  rfl (by omega) ?_
    refine z_iadd C d_Mdl_shift_24 ?_
    refine z_icmp_ge C 76 d_Mdl_shift_25 (by decide) (fun h25 => False.elim (ge_F (a := k) (b := ((4 * q) + w)) rfl (nadd (nmul (rfl : (4 : Int32) = nI 4) rfl) hw6) (by omega) (by omega) h25)) (fun h25 => ?_)
    refine z_aload_n C d_Mdl_shift_28 rfl 1 rfl ?_
    refine gB_Mdl_value C d_Mdl_shift_29 tw_746  ?_
    refine z_iload_n C d_Mdl_shift_32 rfl 0 rfl ?_
    refine z_aload_n C d_Mdl_shift_33 rfl 1 rfl ?_
    refine gB_Mdl_value C d_Mdl_shift_34 tw_746  ?_
    refine z_iload_n C d_Mdl_shift_37 rfl 0 rfl ?_
    refine z_iconst C (v := 1) d_Mdl_shift_38 (by decide) ?_
    refine z_iadd C d_Mdl_shift_39 ?_
    refine lB_m_value C (q := (k + 1)) d_Mdl_shift_40  (nadd rfl (rfl : (1 : Int32) = nI 1)) (by omega) ?_
    refine stB_m_value C (q := k) d_Mdl_shift_41  rfl (by omega) ?_
    refine z_aload_n C d_Mdl_shift_42 rfl 1 rfl ?_
    refine gB_Mdl_sender C d_Mdl_shift_43 tw_747  ?_
    refine z_iload_n C d_Mdl_shift_46 rfl 0 rfl ?_
    refine z_aload_n C d_Mdl_shift_47 rfl 1 rfl ?_
    refine gB_Mdl_sender C d_Mdl_shift_48 tw_747  ?_
    refine z_iload_n C d_Mdl_shift_51 rfl 0 rfl ?_
    refine z_iconst C (v := 1) d_Mdl_shift_52 (by decide) ?_
    refine z_iadd C d_Mdl_shift_53 ?_
    refine lB_m_sender C (q := (k + 1)) d_Mdl_shift_54  (nadd rfl (rfl : (1 : Int32) = nI 1)) (by omega) ?_
    refine stB_m_sender C (q := k) d_Mdl_shift_55  rfl (by omega) ?_
    refine z_aload_n C d_Mdl_shift_56 rfl 1 rfl ?_
    refine gB_Mdl_stamp C d_Mdl_shift_57 tw_748  ?_
    refine z_iload_n C d_Mdl_shift_60 rfl 0 rfl ?_
    refine z_aload_n C d_Mdl_shift_61 rfl 1 rfl ?_
    refine gB_Mdl_stamp C d_Mdl_shift_62 tw_748  ?_
    refine z_iload_n C d_Mdl_shift_65 rfl 0 rfl ?_
    refine z_iconst C (v := 1) d_Mdl_shift_66 (by decide) ?_
    refine z_iadd C d_Mdl_shift_67 ?_
    refine lB_m_stamp C (q := (k + 1)) d_Mdl_shift_68  (nadd rfl (rfl : (1 : Int32) = nI 1)) (by omega) ?_
    refine stB_m_stamp C (q := k) d_Mdl_shift_69  rfl (by omega) ?_
    refine z_iinc C d_Mdl_shift_70 0 rfl (v := (nI (k + 1))) (by rw [← nI_1]; rfl) (by decide) [(2, .int (nI (k + 1))), (0, .ref (b + 0)), (1, .int (nI q))] rfl ?_
    refine z_goto C 14 d_Mdl_shift_73 (by decide) ?_
    refine ih (k + 1) (by omega) (by omega) _ ?_ kk
    obtain ⟨h1, h2, h3, h4, h5⟩ := hp
    refine ⟨(by repeat (first | exact Off.rf | assumption | refine Off.us ?_ (by decide) | refine Off.uA ?_ (by decide) | refine Off.uL ?_ (by decide) | refine Off.uE ?_ (by decide))), ?_, ?_, ?_, ?_⟩
    · simp [upA, h2]
    · simp only [upA, h3]; simp; exact sh_step hk4
    · simp [upA, h4]; exact sh_step hk4
    · simp [upA, h5]; exact sh_step hk4
set_option maxRecDepth 100000 in
set_option maxHeartbeats 4000000 in
/-- the first of a queue goes -/
theorem c_Mdl_shift (l : Launch) (D : va_G) (ca : Nat → ClassId) (b : Nat) (σ : Sg) {q w : Nat} (hq : q < 36) (hw0 : σ.1 106 0 0 q = nI (w + 1)) (hw : w ≤ 3) : CtV l D ca SM b 31 y_Mdl_shift w_Mdl_shift (rmN 0 0) σ [.ref (b + 0), .int (nI q)] (fun σ' => shP σ q w (4 * q + w) σ') := by
  refine ct_v "RobotBusModel" [(0, .ref (b + 0)), (1, .int (nI q))] (by decide) rfl (Nat.le_of_ble_eq_true rfl) rfl (fun X C hret => ?_)
  refine z_aload_n C d_Mdl_shift_0 rfl 0 rfl ?_
  refine gB_Mdl_waiting C d_Mdl_shift_1 tw_745  ?_
  refine z_iload_n C d_Mdl_shift_4 rfl 1 rfl ?_
  refine z_dup2 C d_Mdl_shift_5 rfl rfl ?_
  refine lB_m_waiting C (q := q) d_Mdl_shift_6  rfl (by omega) ?_
  refine z_iconst C (v := 1) d_Mdl_shift_7 (by decide) ?_
  refine z_isub C d_Mdl_shift_8 ?_
  refine z_ri (x' := nI w) (by rw [hw0]; exact nI_pred w) ?_
  refine stB_m_waiting C (q := q) d_Mdl_shift_9  rfl (by omega) ?_
  refine z_iconst C (v := 4) d_Mdl_shift_10 (by decide) ?_
  refine z_iload_n C d_Mdl_shift_11 rfl 1 rfl ?_
  refine z_imul C d_Mdl_shift_12 ?_
  refine z_istore_n C d_Mdl_shift_13 rfl (by decide) [(2, .int (4 * (nI q))), (0, .ref (b + 0)), (1, .int (nI q))] rfl ?_
  refine z_loc [0, 1, 2] (L' := [(2, .int (4 * nI q)), (0, .ref (b + 0)), (1, .int (nI q))]) rfl ?_
  rw [show (4 : Int32) * nI q = nI (4 * q) from pk_mul 4 q]
  refine lp_Mdl_shift l D ca b C σ hq hw w (4 * q) rfl (Nat.le_refl _) _ ?_ (fun ρ k' hp => hret _ _ _ d_Mdl_shift_76 hp)
  refine ⟨(by repeat (first | exact Off.rf | assumption | refine Off.us ?_ (by decide) | refine Off.uA ?_ (by decide) | refine Off.uL ?_ (by decide) | refine Off.uE ?_ (by decide))), ?_, ?_, ?_, ?_⟩ <;> simp [upA, sh_0]
def puP (τ : Sg) (q w d : Nat) (v s u : Int32) (ρ : Sg) : Prop := Off [106, 107, 108, 109, 141] τ ρ ∧
  (w = d → ρ.1 141 0 0 0 = τ.1 141 0 0 0 + 1 ∧ ρ.1 106 0 0 = upd (τ.1 106 0 0) q (nI d) ∧ ρ.1 107 0 0 = upd (sh (τ.1 107 0 0) (4 * q) (4 * q + (d - 1))) (4 * q + (d - 1)) v ∧ ρ.1 108 0 0 = upd (sh (τ.1 108 0 0) (4 * q) (4 * q + (d - 1))) (4 * q + (d - 1)) s ∧ ρ.1 109 0 0 = upd (sh (τ.1 109 0 0) (4 * q) (4 * q + (d - 1))) (4 * q + (d - 1)) u) ∧
  (¬ w = d → ρ.1 141 0 0 0 = τ.1 141 0 0 0 ∧ ρ.1 106 0 0 = upd (τ.1 106 0 0) q (nI (w + 1)) ∧ ρ.1 107 0 0 = upd (τ.1 107 0 0) (4 * q + w) v ∧ ρ.1 108 0 0 = upd (τ.1 108 0 0) (4 * q + w) s ∧ ρ.1 109 0 0 = upd (τ.1 109 0 0) (4 * q + w) u)
theorem upd_upd {f : Nat → Int32} {k : Nat} {x y : Int32} : upd (upd f k x) k y = upd f k y := by
  funext j
  by_cases h : j = k
  · subst h; rw [pk_us, pk_us]
  · rw [pk_un h, pk_un h, pk_un h]
set_option maxRecDepth 100000 in
set_option maxHeartbeats 4000000 in
/-- a message comes -/
theorem c_Mdl_put (l : Launch) (D : va_G) (ca : Nat → ClassId) (b : Nat) (σ : Sg) {q w e : Nat} (hq : q < 36) (hw : σ.1 106 0 0 q = nI w) (he : σ.1 105 0 0 q = nI e) (hwe : w ≤ e) (he1 : 1 ≤ e) (he4 : e ≤ 4) (v s u : Int32) : CtV l D ca SM b 31 y_Mdl_put w_Mdl_put (rmN 1 22) σ [.ref (b + 0), .int (nI q), .int v, .int s, .int u] (fun σ' => puP σ q w e v s u σ') := by
  refine ct_v "RobotBusModel" [(0, .ref (b + 0)), (1, .int (nI q)), (2, .int v), (3, .int s), (4, .int u)] (by decide) rfl (Nat.le_of_ble_eq_true rfl) rfl (fun X C hret => ?_)
  refine z_aload_n C d_Mdl_put_0 rfl 0 rfl ?_
  refine gB_Mdl_waiting C d_Mdl_put_1 tw_745  ?_
  refine z_iload_n C d_Mdl_put_4 rfl 1 rfl ?_
  refine lB_m_waiting C (q := q) d_Mdl_put_5  rfl (by omega) ?_
  refine z_aload_n C d_Mdl_put_6 rfl 0 rfl ?_
  refine gB_Mdl_depth C d_Mdl_put_7 tw_744  ?_
  refine z_iload_n C d_Mdl_put_10 rfl 1 rfl ?_
  refine lB_m_depth C (q := q) d_Mdl_put_11  rfl (by omega) ?_
  refine z_icmp_ne C 30 d_Mdl_put_12 (by decide) (fun h12 => ?_) (fun h12 => ?_)
  · have hwd : ¬ w = e := fun z => h12 (by rw [hw, he, z])
    refine z_iconst C (v := 4) d_Mdl_put_30 (by decide) ?_
    refine z_iload_n C d_Mdl_put_31 rfl 1 rfl ?_
    refine z_imul C d_Mdl_put_32 ?_
    refine z_aload_n C d_Mdl_put_33 rfl 0 rfl ?_
    refine gB_Mdl_waiting C d_Mdl_put_34 tw_745  ?_
    refine z_iload_n C d_Mdl_put_37 rfl 1 rfl ?_
    refine lB_m_waiting C (q := q) d_Mdl_put_38  rfl (by omega) ?_
    have hw9 : σ.1 106 0 0 q = nI w := hw
    refine z_iadd C d_Mdl_put_39 ?_
    refine z_istore C d_Mdl_put_40 (by decide) [(5, .int ((4 * (nI q)) + (σ.1 106 0 0 q))), (0, .ref (b + 0)), (1, .int (nI q)), (2, .int v), (3, .int s), (4, .int u)] rfl ?_
    refine z_aload_n C d_Mdl_put_42 rfl 1 rfl ?_
    refine gB_Mdl_value C d_Mdl_put_43 tw_746  ?_
    refine z_iload C d_Mdl_put_46 0 rfl ?_
    refine z_iload_n C d_Mdl_put_48 rfl 3 rfl ?_
    refine stB_m_value C (q := ((4 * q) + w)) d_Mdl_put_49  (nadd (nmul (rfl : (4 : Int32) = nI 4) rfl) hw9) (by omega) ?_
    refine z_aload_n C d_Mdl_put_50 rfl 1 rfl ?_
    refine gB_Mdl_sender C d_Mdl_put_51 tw_747  ?_
    refine z_iload C d_Mdl_put_54 0 rfl ?_
    refine z_iload_n C d_Mdl_put_56 rfl 4 rfl ?_
    refine stB_m_sender C (q := ((4 * q) + w)) d_Mdl_put_57  (nadd (nmul (rfl : (4 : Int32) = nI 4) rfl) hw9) (by omega) ?_
    refine z_aload_n C d_Mdl_put_58 rfl 1 rfl ?_
    refine gB_Mdl_stamp C d_Mdl_put_59 tw_748  ?_
    refine z_iload C d_Mdl_put_62 0 rfl ?_
    refine z_iload C d_Mdl_put_64 5 rfl ?_
    refine stB_m_stamp C (q := ((4 * q) + w)) d_Mdl_put_66  (nadd (nmul (rfl : (4 : Int32) = nI 4) rfl) hw9) (by omega) ?_
    refine z_aload_n C d_Mdl_put_67 rfl 1 rfl ?_
    refine gB_Mdl_waiting C d_Mdl_put_68 tw_745  ?_
    refine z_iload_n C d_Mdl_put_71 rfl 2 rfl ?_
    refine z_dup2 C d_Mdl_put_72 rfl rfl ?_
    refine lB_m_waiting C (q := q) d_Mdl_put_73  rfl (by omega) ?_
    refine z_iconst C (v := 1) d_Mdl_put_74 (by decide) ?_
    refine z_iadd C d_Mdl_put_75 ?_
    refine z_ri (x' := nI (w + 1)) (by simp only [upA, us]; simp [hw, nI_1]) ?_
    refine stB_m_waiting C (q := q) d_Mdl_put_76  rfl (by omega) ?_
    refine hret _ _ _ d_Mdl_put_77 ?_
    refine ⟨(by repeat (first | exact Off.rf | assumption | refine Off.us ?_ (by decide) | refine Off.uA ?_ (by decide) | refine Off.uL ?_ (by decide) | refine Off.uE ?_ (by decide))), fun z => absurd z hwd, fun _ => ⟨?_, ?_, ?_, ?_, ?_⟩⟩ <;> simp [us, upA]
  · have hwd : w = e := (nI_eq (by omega) (by omega)).mp (by rw [← hw, ← he]; exact h12)
    refine z_aload_n C d_Mdl_put_15 rfl 0 rfl ?_
    refine z_iload_n C d_Mdl_put_16 rfl 1 rfl ?_
    refine zc_Vv C d_Mdl_put_17 (c_Mdl_shift l D ca b σ hq (w := e - 1) (by rw [hw, hwd]; congr 1; omega) (by omega)) tw_915 tw_917 tp_Mdl_shift tw_10 tw_918 pd_Mdl_shift ⟨⟨by decide, by decide⟩, rfl, rfl, by decide, by decide⟩ (by omega) rfl (eB_Mdl ) rfl (Nat.le_of_ble_eq_true rfl) rfl (fun ρ hp => ?_)
    refine z_aload_n C d_Mdl_put_20 rfl 0 rfl ?_
    refine z_dup C d_Mdl_put_21 rfl ?_
    refine gB_Mdl_lost C d_Mdl_put_22 tw_780  ?_
    refine z_iconst C (v := 1) d_Mdl_put_25 (by decide) ?_
    refine z_iadd C d_Mdl_put_26 ?_
    refine pB_Mdl_lost C d_Mdl_put_27 tw_780  ?_
    refine z_iconst C (v := 4) d_Mdl_put_30 (by decide) ?_
    refine z_iload_n C d_Mdl_put_31 rfl 1 rfl ?_
    refine z_imul C d_Mdl_put_32 ?_
    refine z_aload_n C d_Mdl_put_33 rfl 0 rfl ?_
    refine gB_Mdl_waiting C d_Mdl_put_34 tw_745  ?_
    refine z_iload_n C d_Mdl_put_37 rfl 1 rfl ?_
    refine lB_m_waiting C (q := q) d_Mdl_put_38  rfl (by omega) ?_
    have hw9 : (us ρ 141 0 0 (ρ.1 141 0 0 0 + 1)).1 106 0 0 q = nI (e - 1) := by rw [us_f (by decide), hp.2.1, pk_us]
    refine z_iadd C d_Mdl_put_39 ?_
    refine z_istore C d_Mdl_put_40 (by decide) [(5, .int ((4 * (nI q)) + ((us ρ 141 0 0 ((ρ.1 141 0 0 0) + 1)).1 106 0 0 q))), (0, .ref (b + 0)), (1, .int (nI q)), (2, .int v), (3, .int s), (4, .int u)] rfl ?_
    refine z_aload_n C d_Mdl_put_42 rfl 1 rfl ?_
    refine gB_Mdl_value C d_Mdl_put_43 tw_746  ?_
    refine z_iload C d_Mdl_put_46 0 rfl ?_
    refine z_iload_n C d_Mdl_put_48 rfl 3 rfl ?_
    refine stB_m_value C (q := ((4 * q) + (e - 1))) d_Mdl_put_49  (nadd (nmul (rfl : (4 : Int32) = nI 4) rfl) hw9) (by omega) ?_
    refine z_aload_n C d_Mdl_put_50 rfl 1 rfl ?_
    refine gB_Mdl_sender C d_Mdl_put_51 tw_747  ?_
    refine z_iload C d_Mdl_put_54 0 rfl ?_
    refine z_iload_n C d_Mdl_put_56 rfl 4 rfl ?_
    refine stB_m_sender C (q := ((4 * q) + (e - 1))) d_Mdl_put_57  (nadd (nmul (rfl : (4 : Int32) = nI 4) rfl) hw9) (by omega) ?_
    refine z_aload_n C d_Mdl_put_58 rfl 1 rfl ?_
    refine gB_Mdl_stamp C d_Mdl_put_59 tw_748  ?_
    refine z_iload C d_Mdl_put_62 0 rfl ?_
    refine z_iload C d_Mdl_put_64 5 rfl ?_
    refine stB_m_stamp C (q := ((4 * q) + (e - 1))) d_Mdl_put_66  (nadd (nmul (rfl : (4 : Int32) = nI 4) rfl) hw9) (by omega) ?_
    refine z_aload_n C d_Mdl_put_67 rfl 1 rfl ?_
    refine gB_Mdl_waiting C d_Mdl_put_68 tw_745  ?_
    refine z_iload_n C d_Mdl_put_71 rfl 2 rfl ?_
    refine z_dup2 C d_Mdl_put_72 rfl rfl ?_
    refine lB_m_waiting C (q := q) d_Mdl_put_73  rfl (by omega) ?_
    refine z_iconst C (v := 1) d_Mdl_put_74 (by decide) ?_
    refine z_iadd C d_Mdl_put_75 ?_
    refine z_ri (x' := nI (e)) (by simp only [upA, us]; simp [hp.2.1, pk_us, nI_1, show e - 1 + 1 = e by omega]) ?_
    refine stB_m_waiting C (q := q) d_Mdl_put_76  rfl (by omega) ?_
    refine hret _ _ _ d_Mdl_put_77 ?_
    obtain ⟨h1, h2, h3, h4, h5⟩ := hp
    refine ⟨?_, fun _ => ⟨?_, ?_, ?_, ?_, ?_⟩, fun z => absurd hwd z⟩
    · have h9 := h1.mono (L' := [106, 107, 108, 109, 141]) (by decide)
      exact (by repeat (first | exact Off.rf | assumption | refine Off.us ?_ (by decide) | refine Off.uA ?_ (by decide) | refine Off.uL ?_ (by decide) | refine Off.uE ?_ (by decide)))
    · simp [us, upA, h1.at (f := 141) (by decide)]
    · simp [us, upA, h2, upd_upd]
    · simp [us, upA, h3]
    · simp [us, upA, h4]
    · simp [us, upA, h5]
