/-! The model's own questions -/
theorem nadd {x y : Int32} {a b : Nat} (hx : x = nI a) (hy : y = nI b) : x + y = nI (a + b) := by rw [hx, hy]; exact nI_add a b
theorem nmul {x y : Int32} {a b : Nat} (hx : x = nI a) (hy : y = nI b) : x * y = nI (a * b) := by rw [hx, hy]; exact pk_mul a b
theorem nsub {x y : Int32} {a b : Nat} (hx : x = nI a) (hy : y = nI b) (h : b ≤ a) : x - y = nI (a - b) := by rw [hx, hy]; exact pk_sub h
set_option maxRecDepth 100000 in
set_option maxHeartbeats 4000000 in
/-- in -/
theorem c_Mdl_in (l : Launch) (D : va_G) (ca : Nat → ClassId) (b : Nat) (σ : Sg) {n : Nat} {S : List Cee} (x lo hi : Int32) : CtI l D ca S b n y_Mdl_in w_Mdl_in (rmN 0 0) σ [.int x, .int lo, .int hi] (fun r σ' => r = wit x lo hi ∧ σ' = σ) := by
  refine ct_z "RobotBusModel" [(0, .int x), (1, .int lo), (2, .int hi)] (by decide) rfl (Nat.le_of_ble_eq_true rfl) rfl (fun X C hret => ?_)
  refine z_iload_n C d_Mdl_in_0 rfl 0 rfl ?_
  refine z_iload_n C d_Mdl_in_1 rfl 1 rfl ?_
  refine z_icmp_lt C 14 d_Mdl_in_2 (by decide) (fun h2 => ?_) (fun h2 => ?_)
  · refine z_iconst C (v := 0) d_Mdl_in_14 (by decide) ?_
    exact hret _ _ _ _ d_Mdl_in_15 (by decide) ⟨by simp [wit, *], rfl⟩
  · refine z_iload_n C d_Mdl_in_5 rfl 0 rfl ?_
    refine z_iload_n C d_Mdl_in_6 rfl 2 rfl ?_
    refine z_icmp_gt C 14 d_Mdl_in_7 (by decide) (fun h7 => ?_) (fun h7 => ?_)
    · refine z_iconst C (v := 0) d_Mdl_in_14 (by decide) ?_
      exact hret _ _ _ _ d_Mdl_in_15 (by decide) ⟨by simp [wit, *], rfl⟩
    · refine z_iconst C (v := 1) d_Mdl_in_10 (by decide) ?_
      refine z_goto C 15 d_Mdl_in_11 (by decide) ?_
      exact hret _ _ _ _ d_Mdl_in_15 (by decide) ⟨by simp [wit, *], rfl⟩
set_option maxRecDepth 100000 in
set_option maxHeartbeats 4000000 in
/-- thrown -/
theorem c_Mdl_thrown (l : Launch) (D : va_G) (ca : Nat → ClassId) (b : Nat) (σ : Sg)  : CtI l D ca SM b 31 y_Mdl_thrown w_Mdl_thrown (rmN 0 0) σ [.ref (b + 0)] (fun r σ' => r = σ.1 100 0 0 0 ∧ σ' = σ) := by
  refine ct_i "RobotBusModel" [(0, .ref (b + 0))] (by decide) rfl (Nat.le_of_ble_eq_true rfl) rfl (fun X C hret => ?_)
  refine z_aload_n C d_Mdl_thrown_0 rfl 0 rfl ?_
  refine gB_Mdl_thrown C d_Mdl_thrown_1 tw_739  ?_
  exact hret _ _ _ _ d_Mdl_thrown_4 ⟨rfl, rfl⟩
set_option maxRecDepth 100000 in
set_option maxHeartbeats 4000000 in
/-- raise -/
theorem c_Mdl_raise (l : Launch) (D : va_G) (ca : Nat → ClassId) (b : Nat) (σ : Sg) (c : Int32) : CtI l D ca SM b 31 y_Mdl_raise w_Mdl_raise (rmN 0 0) σ [.ref (b + 0), .int c] (fun r σ' => r = 0 ∧ σ' = us σ 100 0 0 c) := by
  refine ct_i "RobotBusModel" [(0, .ref (b + 0)), (1, .int c)] (by decide) rfl (Nat.le_of_ble_eq_true rfl) rfl (fun X C hret => ?_)
  refine z_aload_n C d_Mdl_raise_0 rfl 0 rfl ?_
  refine z_iload_n C d_Mdl_raise_1 rfl 1 rfl ?_
  refine pB_Mdl_thrown C d_Mdl_raise_2 tw_739  ?_
  refine z_iconst C (v := 0) d_Mdl_raise_5 (by decide) ?_
  exact hret _ _ _ _ d_Mdl_raise_6 ⟨rfl, rfl⟩
theorem wit0_nat {x : Int32} {n : Nat} (hn : n < 2 ^ 31) (h : ¬ wit x 0 (nI n) = 0) : ∃ k, k < n + 1 ∧ x = nI k := by
  obtain ⟨k, -, h2, h3⟩ := wit_nat (lo := 0) (hi := n) (by decide) hn h
  exact ⟨k, by omega, h3⟩
theorem wit0_bel (x : Int32) (n : Nat) (hn : n + 1 < 2 ^ 31) : wit x 0 (nI n) = bel x (nI (n + 1)) := by
  unfold wit bel
  by_cases h : x < 0
  · rw [if_pos h, if_pos h]
  · rw [if_neg h, if_neg h]
    have e : (nI n < x) = (nI (n + 1) ≤ x) := by
      rw [Int32.lt_iff_toInt_lt, Int32.le_iff_toInt_le, nI_toInt (by omega), nI_toInt hn]
      apply propext
      omega
    simp only [e]
def isNo (τ : Sg) (x : Int32) : Int32 := if wit x 0 5 = 0 then 1 else if τ.1 102 0 0 (x.toNatClampNeg) = 0 then 1 else 0
set_option maxRecDepth 100000 in
set_option maxHeartbeats 4000000 in
/-- noNode -/
theorem c_Mdl_noNode (l : Launch) (D : va_G) (ca : Nat → ClassId) (b : Nat) (σ : Sg) (x : Int32) : CtI l D ca SM b 31 y_Mdl_noNode w_Mdl_noNode (rmN 1 22) σ [.ref (b + 0), .int x] (fun r σ' => r = isNo σ x ∧ σ' = σ) := by
  refine ct_z "RobotBusModel" [(0, .ref (b + 0)), (1, .int x)] (by decide) rfl (Nat.le_of_ble_eq_true rfl) rfl (fun X C hret => ?_)
  refine z_iload_n C d_Mdl_noNode_0 rfl 1 rfl ?_
  refine z_iconst C (v := 0) d_Mdl_noNode_1 (by decide) ?_
  refine z_iconst C (v := 5) d_Mdl_noNode_2 (by decide) ?_
  refine zf_Si C d_Mdl_noNode_3 (c_Mdl_in l D ca b σ x 0 5) tw_888 tw_889 tw_10 tw_890 pd_Mdl_in ⟨⟨by decide, by decide⟩, rfl, rfl, by decide, by decide⟩ (Nat.le_of_ble_eq_true rfl) rfl ?_
  refine z_if_eq C 18 d_Mdl_noNode_6 (by decide) (fun h6 => ?_) (fun h6 => ?_)
  · refine z_iconst C (v := 1) d_Mdl_noNode_18 (by decide) ?_
    refine z_goto C 23 d_Mdl_noNode_19 (by decide) ?_
    exact hret _ _ _ _ d_Mdl_noNode_23 (by decide) ⟨by simp [isNo, *], rfl⟩
  · obtain ⟨j, hj, rfl⟩ := wit0_nat (n := 5) (by decide) h6
    refine z_aload_n C d_Mdl_noNode_9 rfl 0 rfl ?_
    refine gB_Mdl_there C d_Mdl_noNode_10 tw_741  ?_
    refine z_iload_n C d_Mdl_noNode_13 rfl 1 rfl ?_
    refine lB_m_there C (q := j) d_Mdl_noNode_14 rfl hj ?_
    refine z_if_ne C 22 d_Mdl_noNode_15 (by decide) (fun h15 => ?_) (fun h15 => ?_)
    · refine z_iconst C (v := 0) d_Mdl_noNode_22 (by decide) ?_
      exact hret _ _ _ _ d_Mdl_noNode_23 (by decide) ⟨by simp [isNo, *, nI_clamp (show j < 2 ^ 31 by omega)], rfl⟩
    · refine z_iconst C (v := 1) d_Mdl_noNode_18 (by decide) ?_
      refine z_goto C 23 d_Mdl_noNode_19 (by decide) ?_
      exact hret _ _ _ _ d_Mdl_noNode_23 (by decide) ⟨by simp [isNo, *, nI_clamp (show j < 2 ^ 31 by omega)], rfl⟩
set_option maxRecDepth 100000 in
set_option maxHeartbeats 4000000 in
/-- near -/
theorem c_Mdl_near (l : Launch) (D : va_G) (ca : Nat → ClassId) (b : Nat) (σ : Sg) {n : Nat} {S : List Cee} (k : Int32) : CtI l D ca S b n y_Mdl_near w_Mdl_near (rmN 0 0) σ [.double (cx k)] (fun r σ' => r = isCo k ∧ σ' = σ) := by
  refine ct_z "RobotBusModel" [(0, .double (cx k))] (by decide) rfl (Nat.le_of_ble_eq_true rfl) rfl (fun X C hret => ?_)
  refine z_dload_n C d_Mdl_near_0 rfl 0 rfl ?_
  refine z_ldc2d C (List.mem_cons_of_mem _ tw_1000) d_Mdl_near_1 ?_
  refine z_dcmp C d_Mdl_near_4 ?_
  refine z_ri (x' := cLo k) (cmpV_lo k _) ?_
  refine z_if_lt C 36 d_Mdl_near_5 (by decide) (fun h5 => ?_) (fun h5 => ?_)
  · refine z_iconst C (v := 0) d_Mdl_near_36 (by decide) ?_
    exact hret _ _ _ _ d_Mdl_near_37 (by decide) ⟨by simp [isCo, *], rfl⟩
  · refine z_dload_n C d_Mdl_near_8 rfl 0 rfl ?_
    refine z_ldc2d C (List.mem_cons_of_mem _ tw_1001) d_Mdl_near_9 ?_
    refine z_dcmp C d_Mdl_near_12 ?_
    refine z_ri (x' := cHi k) (cmpV_hi k _) ?_
    refine z_if_gt C 36 d_Mdl_near_13 (by decide) (fun h13 => ?_) (fun h13 => ?_)
    · refine z_iconst C (v := 0) d_Mdl_near_36 (by decide) ?_
      exact hret _ _ _ _ d_Mdl_near_37 (by decide) ⟨by simp [isCo, *], rfl⟩
    · refine z_dload_n C d_Mdl_near_16 rfl 0 rfl ?_
      refine z_ldc2d C (List.mem_cons_of_mem _ tw_1002) d_Mdl_near_17 ?_
      refine z_dmul C d_Mdl_near_20 (cx_m64 k) ?_
      refine z_dload_n C d_Mdl_near_21 rfl 0 rfl ?_
      refine z_ldc2d C (List.mem_cons_of_mem _ tw_1002) d_Mdl_near_22 ?_
      refine z_dmul C d_Mdl_near_25 (cx_m64 k) ?_
      refine z_d2l C d_Mdl_near_26 ?_
      refine z_l2d C d_Mdl_near_27 ?_
      refine z_dcmp C d_Mdl_near_28 ?_
      refine z_ri (x' := 0) (by rw [cx_mul, d2l_i2d, l2d_i2d, cmpV_eq]) ?_
      refine z_if_ne C 36 d_Mdl_near_29 (by decide) (fun h29 => False.elim (h29 rfl)) (fun h29 => ?_)
      refine z_iconst C (v := 1) d_Mdl_near_32 (by decide) ?_
      refine z_goto C 37 d_Mdl_near_33 (by decide) ?_
      exact hret _ _ _ _ d_Mdl_near_37 (by decide) ⟨by simp [isCo, *], rfl⟩
def isAm (k a c : Int32) : Int32 := if k = -1 then 1 else if k = 0 then wit a 0 3 else if k = 1 then wit a 0 3 else if k = 2 then (if wit a 0 5 = 0 then 0 else if wit c (-100) 100 = 0 then 0 else 1) else if k = 3 then (if wit a 0 3 = 0 then 0 else if wit c 0 3 = 0 then 0 else 1) else if k = 4 then (if wit a 0 5 = 0 then 0 else if wit c 0 3 = 0 then 0 else 1) else 0
set_option maxRecDepth 100000 in
set_option maxHeartbeats 4000000 in
/-- whether it is an action -/
theorem c_Mdl_actionFits (l : Launch) (D : va_G) (ca : Nat → ClassId) (b : Nat) (σ : Sg) {n : Nat} {S : List Cee} (k a c : Int32) : CtI l D ca S b n y_Mdl_actionFits w_Mdl_actionFits (rmN 1 22) σ [.int k, .int a, .int c] (fun r σ' => r = isAm k a c ∧ σ' = σ) := by
  refine ct_z "RobotBusModel" [(0, .int k), (1, .int a), (2, .int c)] (by decide) rfl (Nat.le_of_ble_eq_true rfl) rfl (fun X C hret => ?_)
  refine z_iload_n C d_Mdl_actionFits_0 rfl 0 rfl ?_
  by_cases q1_0 : k = (-1)
  · refine z_ri q1_0 ?_
    refine z_tableIn C 40 d_Mdl_actionFits_1 (off := 39) (by decide) (by decide) (by decide) (by decide) ?_
    refine z_iconst C (v := 1) d_Mdl_actionFits_40 (by decide) ?_
    exact hret _ _ _ _ d_Mdl_actionFits_41 (by decide) ⟨by simp [isAm, *], rfl⟩
  by_cases q1_1 : k = 0
  · refine z_ri q1_1 ?_
    refine z_tableIn C 42 d_Mdl_actionFits_1 (off := 41) (by decide) (by decide) (by decide) (by decide) ?_
    refine z_iload_n C d_Mdl_actionFits_42 rfl 1 rfl ?_
    refine z_iconst C (v := 0) d_Mdl_actionFits_43 (by decide) ?_
    refine z_iconst C (v := 3) d_Mdl_actionFits_44 (by decide) ?_
    refine zf_Si C d_Mdl_actionFits_45 (c_Mdl_in l D ca b σ a 0 3) tw_888 tw_889 tw_10 tw_890 pd_Mdl_in ⟨⟨by decide, by decide⟩, rfl, rfl, by decide, by decide⟩ (Nat.le_of_ble_eq_true rfl) rfl ?_
    exact hret _ _ _ _ d_Mdl_actionFits_48 (wit_01 _ _ _) ⟨by simp [isAm, *], rfl⟩
  by_cases q1_2 : k = 1
  · refine z_ri q1_2 ?_
    refine z_tableIn C 42 d_Mdl_actionFits_1 (off := 41) (by decide) (by decide) (by decide) (by decide) ?_
    refine z_iload_n C d_Mdl_actionFits_42 rfl 1 rfl ?_
    refine z_iconst C (v := 0) d_Mdl_actionFits_43 (by decide) ?_
    refine z_iconst C (v := 3) d_Mdl_actionFits_44 (by decide) ?_
    refine zf_Si C d_Mdl_actionFits_45 (c_Mdl_in l D ca b σ a 0 3) tw_888 tw_889 tw_10 tw_890 pd_Mdl_in ⟨⟨by decide, by decide⟩, rfl, rfl, by decide, by decide⟩ (Nat.le_of_ble_eq_true rfl) rfl ?_
    exact hret _ _ _ _ d_Mdl_actionFits_48 (wit_01 _ _ _) ⟨by simp [isAm, *], rfl⟩
  by_cases q1_3 : k = 2
  · refine z_ri q1_3 ?_
    refine z_tableIn C 49 d_Mdl_actionFits_1 (off := 48) (by decide) (by decide) (by decide) (by decide) ?_
    refine z_iload_n C d_Mdl_actionFits_49 rfl 1 rfl ?_
    refine z_iconst C (v := 0) d_Mdl_actionFits_50 (by decide) ?_
    refine z_iconst C (v := 5) d_Mdl_actionFits_51 (by decide) ?_
    refine zf_Si C d_Mdl_actionFits_52 (c_Mdl_in l D ca b σ a 0 5) tw_888 tw_889 tw_10 tw_890 pd_Mdl_in ⟨⟨by decide, by decide⟩, rfl, rfl, by decide, by decide⟩ (Nat.le_of_ble_eq_true rfl) rfl ?_
    refine z_if_eq C 73 d_Mdl_actionFits_55 (by decide) (fun h55 => ?_) (fun h55 => ?_)
    · refine z_iconst C (v := 0) d_Mdl_actionFits_73 (by decide) ?_
      exact hret _ _ _ _ d_Mdl_actionFits_74 (by decide) ⟨by simp [isAm, *], rfl⟩
    · refine z_iload_n C d_Mdl_actionFits_58 rfl 2 rfl ?_
      refine z_bipush C (v := -100) d_Mdl_actionFits_59 (by decide) ?_
      refine z_bipush C (v := 100) d_Mdl_actionFits_61 (by decide) ?_
      refine zf_Si C d_Mdl_actionFits_63 (c_Mdl_in l D ca b σ c (-100) 100) tw_888 tw_889 tw_10 tw_890 pd_Mdl_in ⟨⟨by decide, by decide⟩, rfl, rfl, by decide, by decide⟩ (Nat.le_of_ble_eq_true rfl) rfl ?_
      refine z_if_eq C 73 d_Mdl_actionFits_66 (by decide) (fun h66 => ?_) (fun h66 => ?_)
      · refine z_iconst C (v := 0) d_Mdl_actionFits_73 (by decide) ?_
        exact hret _ _ _ _ d_Mdl_actionFits_74 (by decide) ⟨by simp [isAm, *], rfl⟩
      · refine z_iconst C (v := 1) d_Mdl_actionFits_69 (by decide) ?_
        refine z_goto C 74 d_Mdl_actionFits_70 (by decide) ?_
        exact hret _ _ _ _ d_Mdl_actionFits_74 (by decide) ⟨by simp [isAm, *], rfl⟩
  by_cases q1_4 : k = 3
  · refine z_ri q1_4 ?_
    refine z_tableIn C 75 d_Mdl_actionFits_1 (off := 74) (by decide) (by decide) (by decide) (by decide) ?_
    refine z_iload_n C d_Mdl_actionFits_75 rfl 1 rfl ?_
    refine z_iconst C (v := 0) d_Mdl_actionFits_76 (by decide) ?_
    refine z_iconst C (v := 3) d_Mdl_actionFits_77 (by decide) ?_
    refine zf_Si C d_Mdl_actionFits_78 (c_Mdl_in l D ca b σ a 0 3) tw_888 tw_889 tw_10 tw_890 pd_Mdl_in ⟨⟨by decide, by decide⟩, rfl, rfl, by decide, by decide⟩ (Nat.le_of_ble_eq_true rfl) rfl ?_
    refine z_if_eq C 97 d_Mdl_actionFits_81 (by decide) (fun h81 => ?_) (fun h81 => ?_)
    · refine z_iconst C (v := 0) d_Mdl_actionFits_97 (by decide) ?_
      exact hret _ _ _ _ d_Mdl_actionFits_98 (by decide) ⟨by simp [isAm, *], rfl⟩
    · refine z_iload_n C d_Mdl_actionFits_84 rfl 2 rfl ?_
      refine z_iconst C (v := 0) d_Mdl_actionFits_85 (by decide) ?_
      refine z_iconst C (v := 3) d_Mdl_actionFits_86 (by decide) ?_
      refine zf_Si C d_Mdl_actionFits_87 (c_Mdl_in l D ca b σ c 0 3) tw_888 tw_889 tw_10 tw_890 pd_Mdl_in ⟨⟨by decide, by decide⟩, rfl, rfl, by decide, by decide⟩ (Nat.le_of_ble_eq_true rfl) rfl ?_
      refine z_if_eq C 97 d_Mdl_actionFits_90 (by decide) (fun h90 => ?_) (fun h90 => ?_)
      · refine z_iconst C (v := 0) d_Mdl_actionFits_97 (by decide) ?_
        exact hret _ _ _ _ d_Mdl_actionFits_98 (by decide) ⟨by simp [isAm, *], rfl⟩
      · refine z_iconst C (v := 1) d_Mdl_actionFits_93 (by decide) ?_
        refine z_goto C 98 d_Mdl_actionFits_94 (by decide) ?_
        exact hret _ _ _ _ d_Mdl_actionFits_98 (by decide) ⟨by simp [isAm, *], rfl⟩
  by_cases q1_5 : k = 4
  · refine z_ri q1_5 ?_
    refine z_tableIn C 99 d_Mdl_actionFits_1 (off := 98) (by decide) (by decide) (by decide) (by decide) ?_
    refine z_iload_n C d_Mdl_actionFits_99 rfl 1 rfl ?_
    refine z_iconst C (v := 0) d_Mdl_actionFits_100 (by decide) ?_
    refine z_iconst C (v := 5) d_Mdl_actionFits_101 (by decide) ?_
    refine zf_Si C d_Mdl_actionFits_102 (c_Mdl_in l D ca b σ a 0 5) tw_888 tw_889 tw_10 tw_890 pd_Mdl_in ⟨⟨by decide, by decide⟩, rfl, rfl, by decide, by decide⟩ (Nat.le_of_ble_eq_true rfl) rfl ?_
    refine z_if_eq C 121 d_Mdl_actionFits_105 (by decide) (fun h105 => ?_) (fun h105 => ?_)
    · refine z_iconst C (v := 0) d_Mdl_actionFits_121 (by decide) ?_
      exact hret _ _ _ _ d_Mdl_actionFits_122 (by decide) ⟨by simp [isAm, *], rfl⟩
    · refine z_iload_n C d_Mdl_actionFits_108 rfl 2 rfl ?_
      refine z_iconst C (v := 0) d_Mdl_actionFits_109 (by decide) ?_
      refine z_iconst C (v := 3) d_Mdl_actionFits_110 (by decide) ?_
      refine zf_Si C d_Mdl_actionFits_111 (c_Mdl_in l D ca b σ c 0 3) tw_888 tw_889 tw_10 tw_890 pd_Mdl_in ⟨⟨by decide, by decide⟩, rfl, rfl, by decide, by decide⟩ (Nat.le_of_ble_eq_true rfl) rfl ?_
      refine z_if_eq C 121 d_Mdl_actionFits_114 (by decide) (fun h114 => ?_) (fun h114 => ?_)
      · refine z_iconst C (v := 0) d_Mdl_actionFits_121 (by decide) ?_
        exact hret _ _ _ _ d_Mdl_actionFits_122 (by decide) ⟨by simp [isAm, *], rfl⟩
      · refine z_iconst C (v := 1) d_Mdl_actionFits_117 (by decide) ?_
        refine z_goto C 122 d_Mdl_actionFits_118 (by decide) ?_
        exact hret _ _ _ _ d_Mdl_actionFits_122 (by decide) ⟨by simp [isAm, *], rfl⟩
  refine z_tableOut C 123 d_Mdl_actionFits_1 (by have e0 := lv_neT q1_0 (a := -1) (by decide); have e1 := lv_neT q1_1 (a := 0) (by decide); have e2 := lv_neT q1_2 (a := 1) (by decide); have e3 := lv_neT q1_3 (a := 2) (by decide); have e4 := lv_neT q1_4 (a := 3) (by decide); have e5 := lv_neT q1_5 (a := 4) (by decide); omega) (by decide) ?_
  refine z_iconst C (v := 0) d_Mdl_actionFits_123 (by decide) ?_
  exact hret _ _ _ _ d_Mdl_actionFits_124 (by decide) ⟨by simp [isAm, *], rfl⟩
def isSm (s k c e : Int32) : Int32 := if wit e (-1000) 1000 = 0 then 0 else if wit s 0 3 = 0 then 0 else if k = 0 then wit c (-100) 100 else if k = 3 then wit c 0 (s - 1) else if wit k 1 2 = 0 then 0 else if wit c 0 3 = 0 then 0 else 1
set_option maxRecDepth 100000 in
set_option maxHeartbeats 4000000 in
/-- whether it is a service -/
theorem c_Mdl_serviceFits (l : Launch) (D : va_G) (ca : Nat → ClassId) (b : Nat) (σ : Sg) {n : Nat} {S : List Cee} (s k c e : Int32) : CtI l D ca S b n y_Mdl_serviceFits w_Mdl_serviceFits (rmN 1 22) σ [.int s, .int k, .int c, .int e] (fun r σ' => r = isSm s k c e ∧ σ' = σ) := by
  refine ct_z "RobotBusModel" [(0, .int s), (1, .int k), (2, .int c), (3, .int e)] (by decide) rfl (Nat.le_of_ble_eq_true rfl) rfl (fun X C hret => ?_)
  refine z_iload_n C d_Mdl_serviceFits_0 rfl 3 rfl ?_
  refine z_sipush C (v := -1000) d_Mdl_serviceFits_1 (by decide) ?_
  refine z_sipush C (v := 1000) d_Mdl_serviceFits_4 (by decide) ?_
  refine zf_Si C d_Mdl_serviceFits_7 (c_Mdl_in l D ca b σ e (-1000) 1000) tw_888 tw_889 tw_10 tw_890 pd_Mdl_in ⟨⟨by decide, by decide⟩, rfl, rfl, by decide, by decide⟩ (Nat.le_of_ble_eq_true rfl) rfl ?_
  refine z_if_eq C 22 d_Mdl_serviceFits_10 (by decide) (fun h10 => ?_) (fun h10 => ?_)
  · refine z_iconst C (v := 0) d_Mdl_serviceFits_22 (by decide) ?_
    exact hret _ _ _ _ d_Mdl_serviceFits_23 (by decide) ⟨by simp [isSm, *], rfl⟩
  · refine z_iload_n C d_Mdl_serviceFits_13 rfl 0 rfl ?_
    refine z_iconst C (v := 0) d_Mdl_serviceFits_14 (by decide) ?_
    refine z_iconst C (v := 3) d_Mdl_serviceFits_15 (by decide) ?_
    refine zf_Si C d_Mdl_serviceFits_16 (c_Mdl_in l D ca b σ s 0 3) tw_888 tw_889 tw_10 tw_890 pd_Mdl_in ⟨⟨by decide, by decide⟩, rfl, rfl, by decide, by decide⟩ (Nat.le_of_ble_eq_true rfl) rfl ?_
    refine z_if_ne C 24 d_Mdl_serviceFits_19 (by decide) (fun h19 => ?_) (fun h19 => ?_)
    · refine z_iload_n C d_Mdl_serviceFits_24 rfl 1 rfl ?_
      refine z_if_ne C 37 d_Mdl_serviceFits_25 (by decide) (fun h25 => ?_) (fun h25 => ?_)
      · refine z_iload_n C d_Mdl_serviceFits_37 rfl 1 rfl ?_
        refine z_iconst C (v := 3) d_Mdl_serviceFits_38 (by decide) ?_
        refine z_icmp_ne C 51 d_Mdl_serviceFits_39 (by decide) (fun h39 => ?_) (fun h39 => ?_)
        · refine z_iload_n C d_Mdl_serviceFits_51 rfl 1 rfl ?_
          refine z_iconst C (v := 1) d_Mdl_serviceFits_52 (by decide) ?_
          refine z_iconst C (v := 2) d_Mdl_serviceFits_53 (by decide) ?_
          refine zf_Si C d_Mdl_serviceFits_54 (c_Mdl_in l D ca b σ k 1 2) tw_888 tw_889 tw_10 tw_890 pd_Mdl_in ⟨⟨by decide, by decide⟩, rfl, rfl, by decide, by decide⟩ (Nat.le_of_ble_eq_true rfl) rfl ?_
          refine z_if_eq C 73 d_Mdl_serviceFits_57 (by decide) (fun h57 => ?_) (fun h57 => ?_)
          · refine z_iconst C (v := 0) d_Mdl_serviceFits_73 (by decide) ?_
            exact hret _ _ _ _ d_Mdl_serviceFits_74 (by decide) ⟨by simp [isSm, *], rfl⟩
          · refine z_iload_n C d_Mdl_serviceFits_60 rfl 2 rfl ?_
            refine z_iconst C (v := 0) d_Mdl_serviceFits_61 (by decide) ?_
            refine z_iconst C (v := 3) d_Mdl_serviceFits_62 (by decide) ?_
            refine zf_Si C d_Mdl_serviceFits_63 (c_Mdl_in l D ca b σ c 0 3) tw_888 tw_889 tw_10 tw_890 pd_Mdl_in ⟨⟨by decide, by decide⟩, rfl, rfl, by decide, by decide⟩ (Nat.le_of_ble_eq_true rfl) rfl ?_
            refine z_if_eq C 73 d_Mdl_serviceFits_66 (by decide) (fun h66 => ?_) (fun h66 => ?_)
            · refine z_iconst C (v := 0) d_Mdl_serviceFits_73 (by decide) ?_
              exact hret _ _ _ _ d_Mdl_serviceFits_74 (by decide) ⟨by simp [isSm, *], rfl⟩
            · refine z_iconst C (v := 1) d_Mdl_serviceFits_69 (by decide) ?_
              refine z_goto C 74 d_Mdl_serviceFits_70 (by decide) ?_
              exact hret _ _ _ _ d_Mdl_serviceFits_74 (by decide) ⟨by simp [isSm, *], rfl⟩
        · refine z_iload_n C d_Mdl_serviceFits_42 rfl 2 rfl ?_
          refine z_iconst C (v := 0) d_Mdl_serviceFits_43 (by decide) ?_
          refine z_iload_n C d_Mdl_serviceFits_44 rfl 0 rfl ?_
          refine z_iconst C (v := 1) d_Mdl_serviceFits_45 (by decide) ?_
          refine z_isub C d_Mdl_serviceFits_46 ?_
          refine zf_Si C d_Mdl_serviceFits_47 (c_Mdl_in l D ca b σ c 0 (s - 1)) tw_888 tw_889 tw_10 tw_890 pd_Mdl_in ⟨⟨by decide, by decide⟩, rfl, rfl, by decide, by decide⟩ (Nat.le_of_ble_eq_true rfl) rfl ?_
          exact hret _ _ _ _ d_Mdl_serviceFits_50 (wit_01 _ _ _) ⟨by simp [isSm, *], rfl⟩
      · refine z_iload_n C d_Mdl_serviceFits_28 rfl 2 rfl ?_
        refine z_bipush C (v := -100) d_Mdl_serviceFits_29 (by decide) ?_
        refine z_bipush C (v := 100) d_Mdl_serviceFits_31 (by decide) ?_
        refine zf_Si C d_Mdl_serviceFits_33 (c_Mdl_in l D ca b σ c (-100) 100) tw_888 tw_889 tw_10 tw_890 pd_Mdl_in ⟨⟨by decide, by decide⟩, rfl, rfl, by decide, by decide⟩ (Nat.le_of_ble_eq_true rfl) rfl ?_
        exact hret _ _ _ _ d_Mdl_serviceFits_36 (wit_01 _ _ _) ⟨by simp [isSm, *], rfl⟩
    · refine z_iconst C (v := 0) d_Mdl_serviceFits_22 (by decide) ?_
      exact hret _ _ _ _ d_Mdl_serviceFits_23 (by decide) ⟨by simp [isSm, *], rfl⟩
def btw (a c p w : Int64) : Int64 := a + (c - a) * p / w - (if 0 ≤ lg_cmp ((c - a) * p - (c - a) * p / w * w) 0 then (0 : Int32) else 1).toInt64
set_option maxRecDepth 100000 in
set_option maxHeartbeats 4000000 in
/-- between -/
theorem c_Mdl_between (l : Launch) (D : va_G) (ca : Nat → ClassId) (b : Nat) (σ : Sg) {n : Nat} {S : List Cee} (a c p w : Int64) (hw : ¬ w = 0) : CtL l D ca S b n y_Mdl_between w_Mdl_between (rmN 0 0) σ [.long a, .long c, .long p, .long w] (fun r σ' => r = btw a c p w ∧ σ' = σ) := by
  refine ct_l "RobotBusModel" [(0, .long a), (2, .long c), (4, .long p), (6, .long w)] (by decide +kernel) rfl (Nat.le_of_ble_eq_true rfl) rfl (fun X C hret => ?_)
  refine z_lload_n C d_Mdl_between_0 rfl 1 rfl ?_
  refine z_lload_n C d_Mdl_between_1 rfl 0 rfl ?_
  refine z_lsub C d_Mdl_between_2 ?_
  refine z_lload C d_Mdl_between_3 2 rfl ?_
  refine z_lmul C d_Mdl_between_5 ?_
  refine z_lstore C d_Mdl_between_6 (by decide) [(8, .long ((c - a) * p)), (0, .long a), (2, .long c), (4, .long p), (6, .long w)] rfl ?_
  refine z_lload_n C d_Mdl_between_8 rfl 1 rfl ?_
  refine z_lload C d_Mdl_between_9 0 rfl ?_
  refine z_lload C d_Mdl_between_11 4 rfl ?_
  refine z_ldiv C d_Mdl_between_13 hw ?_
  refine z_ladd C d_Mdl_between_14 ?_
  refine z_lload C d_Mdl_between_15 0 rfl ?_
  refine z_lload C d_Mdl_between_17 4 rfl ?_
  refine z_lrem C d_Mdl_between_19 hw ?_
  refine z_lconst C (v := 0) d_Mdl_between_20 (by decide) ?_
  refine z_lcmp C d_Mdl_between_21 ?_
  refine z_if_ge C 29 d_Mdl_between_22 (by decide) (fun h22 => ?_) (fun h22 => ?_)
  · refine z_iconst C (v := 0) d_Mdl_between_29 (by decide) ?_
    refine z_i2l C d_Mdl_between_30 ?_
    refine z_lsub C d_Mdl_between_31 ?_
    exact hret _ _ _ _ d_Mdl_between_32 ⟨by simp only [btw, h22, if_true, if_false], rfl⟩
  · refine z_iconst C (v := 1) d_Mdl_between_25 (by decide) ?_
    refine z_goto C 30 d_Mdl_between_26 (by decide) ?_
    refine z_i2l C d_Mdl_between_30 ?_
    refine z_lsub C d_Mdl_between_31 ?_
    exact hret _ _ _ _ d_Mdl_between_32 ⟨by simp only [btw, h22, if_true, if_false], rfl⟩
