/-! The bus' own questions -/
def bel (x m : Int32) : Int32 := if x < 0 then 0 else if m ≤ x then 0 else 1
def wit (x lo hi : Int32) : Int32 := if x < lo then 0 else if hi < x then 0 else 1
theorem bel_01 (x m : Int32) : bel x m = 0 ∨ bel x m = 1 := by unfold bel; split <;> first | exact Or.inl rfl | (split <;> first | exact Or.inl rfl | exact Or.inr rfl)
theorem wit_01 (x lo hi : Int32) : wit x lo hi = 0 ∨ wit x lo hi = 1 := by unfold wit; split <;> first | exact Or.inl rfl | (split <;> first | exact Or.inl rfl | exact Or.inr rfl)
theorem bel_nat {x : Int32} {n : Nat} (hn : n < 2 ^ 31) (h : ¬ bel x (nI n) = 0) : ∃ k, k < n ∧ x = nI k := by
  unfold bel at h
  by_cases h1 : x < 0
  · simp [h1] at h
  · by_cases h2 : nI n ≤ x
    · simp [h1, h2] at h
    · rcases pk_ix x hn with q | q | q
      · exact absurd q h1
      · exact absurd q h2
      · exact q
theorem bel_in {k n : Nat} (hk : k < n) (hn : n < 2 ^ 31) : bel (nI k) (nI n) = 1 := by
  unfold bel
  rw [if_neg (nI_pos (by omega)), if_neg (nI_ge hk hn)]
set_option maxRecDepth 100000 in
set_option maxHeartbeats 4000000 in
/-- isBelow -/
theorem c_Bus_isBelow (l : Launch) (D : va_G) (ca : Nat → ClassId) (b : Nat) (σ : Sg) {n : Nat} {S : List Cee} (x m : Int32) : CtI l D ca S b n y_Bus_isBelow w_Bus_isBelow (rmN 0 0) σ [.int x, .int m] (fun r σ' => r = bel x m ∧ σ' = σ) := by
  refine ct_z "RobotBus" [(0, .int x), (1, .int m)] (by decide) rfl (Nat.le_of_ble_eq_true rfl) rfl (fun X C hret => ?_)
  refine z_iload_n C d_Bus_isBelow_0 rfl 0 rfl ?_
  refine z_if_lt C 13 d_Bus_isBelow_1 (by decide) (fun h1 => ?_) (fun h1 => ?_)
  · refine z_iconst C (v := 0) d_Bus_isBelow_13 (by decide) ?_
    exact hret _ _ _ _ d_Bus_isBelow_14 (by decide) ⟨by simp [bel, *], rfl⟩
  · refine z_iload_n C d_Bus_isBelow_4 rfl 0 rfl ?_
    refine z_iload_n C d_Bus_isBelow_5 rfl 1 rfl ?_
    refine z_icmp_ge C 13 d_Bus_isBelow_6 (by decide) (fun h6 => ?_) (fun h6 => ?_)
    · refine z_iconst C (v := 0) d_Bus_isBelow_13 (by decide) ?_
      exact hret _ _ _ _ d_Bus_isBelow_14 (by decide) ⟨by simp [bel, *], rfl⟩
    · refine z_iconst C (v := 1) d_Bus_isBelow_9 (by decide) ?_
      refine z_goto C 14 d_Bus_isBelow_10 (by decide) ?_
      exact hret _ _ _ _ d_Bus_isBelow_14 (by decide) ⟨by simp [bel, *], rfl⟩
set_option maxRecDepth 100000 in
set_option maxHeartbeats 4000000 in
/-- isWithin -/
theorem c_Bus_isWithin (l : Launch) (D : va_G) (ca : Nat → ClassId) (b : Nat) (σ : Sg) {n : Nat} {S : List Cee} (x lo hi : Int32) : CtI l D ca S b n y_Bus_isWithin w_Bus_isWithin (rmN 0 0) σ [.int x, .int lo, .int hi] (fun r σ' => r = wit x lo hi ∧ σ' = σ) := by
  refine ct_z "RobotBus" [(0, .int x), (1, .int lo), (2, .int hi)] (by decide) rfl (Nat.le_of_ble_eq_true rfl) rfl (fun X C hret => ?_)
  refine z_iload_n C d_Bus_isWithin_0 rfl 0 rfl ?_
  refine z_iload_n C d_Bus_isWithin_1 rfl 1 rfl ?_
  refine z_icmp_lt C 14 d_Bus_isWithin_2 (by decide) (fun h2 => ?_) (fun h2 => ?_)
  · refine z_iconst C (v := 0) d_Bus_isWithin_14 (by decide) ?_
    exact hret _ _ _ _ d_Bus_isWithin_15 (by decide) ⟨by simp [wit, *], rfl⟩
  · refine z_iload_n C d_Bus_isWithin_5 rfl 0 rfl ?_
    refine z_iload_n C d_Bus_isWithin_6 rfl 2 rfl ?_
    refine z_icmp_gt C 14 d_Bus_isWithin_7 (by decide) (fun h7 => ?_) (fun h7 => ?_)
    · refine z_iconst C (v := 0) d_Bus_isWithin_14 (by decide) ?_
      exact hret _ _ _ _ d_Bus_isWithin_15 (by decide) ⟨by simp [wit, *], rfl⟩
    · refine z_iconst C (v := 1) d_Bus_isWithin_10 (by decide) ?_
      refine z_goto C 15 d_Bus_isWithin_11 (by decide) ?_
      exact hret _ _ _ _ d_Bus_isWithin_15 (by decide) ⟨by simp [wit, *], rfl⟩
def isTh (σ : Sg) (x : Int32) : Int32 := if bel x 6 = 0 then 0 else if σ.1 30 x.toNatClampNeg 0 0 = 0 then 0 else 1
set_option maxRecDepth 100000 in
set_option maxHeartbeats 4000000 in
/-- whether a node is there -/
theorem c_Bus_isThere (l : Launch) (D : va_G) (ca : Nat → ClassId) (b : Nat) (σ : Sg) (x : Int32) : CtI l D ca SB b 182 y_Bus_isThere w_Bus_isThere (rmN 1 21) σ [.ref (b + 0), .int x] (fun r σ' => r = isTh σ x ∧ σ' = σ) := by
  refine ct_z "RobotBus" [(0, .ref (b + 0)), (1, .int x)] (by decide) rfl (Nat.le_of_ble_eq_true rfl) rfl (fun X C hret => ?_)
  refine z_iload_n C d_Bus_isThere_0 rfl 1 rfl ?_
  refine z_bipush C (v := 6) d_Bus_isThere_1 (by decide) ?_
  refine zf_Si C d_Bus_isThere_3 (c_Bus_isBelow l D ca b σ x 6) tw_286 tw_287 tw_1 tw_288 pd_Bus_isBelow ⟨⟨by decide, by decide⟩, rfl, rfl, by decide, by decide⟩ (Nat.le_of_ble_eq_true rfl) rfl ?_
  refine z_if_eq C 25 d_Bus_isThere_6 (by decide) (fun h6 => ?_) (fun h6 => ?_)
  · refine z_iconst C (v := 0) d_Bus_isThere_25 (by decide) ?_
    exact hret _ _ _ _ d_Bus_isThere_26 (by decide) ⟨by simp [isTh, h6], rfl⟩
  · obtain ⟨j, hj, rfl⟩ := bel_nat (n := 6) (by decide) h6
    refine z_aload_n C d_Bus_isThere_9 rfl 0 rfl ?_
    refine gB_Bus_nodes C d_Bus_isThere_10 tw_233  ?_
    refine z_iload_n C d_Bus_isThere_13 rfl 1 rfl ?_
    refine rB_nods C (j := j) d_Bus_isThere_14  rfl hj ?_
    refine gB_Nod_present C d_Bus_isThere_15 tw_139 hj ?_
    refine z_if_eq C 25 d_Bus_isThere_18 (by decide) (fun h18 => ?_) (fun h18 => ?_)
    · refine z_iconst C (v := 0) d_Bus_isThere_25 (by decide) ?_
      exact hret _ _ _ _ d_Bus_isThere_26 (by decide) ⟨by simp [isTh, h6, h18, nI_clamp (show j < 2 ^ 31 by omega)], rfl⟩
    · refine z_iconst C (v := 1) d_Bus_isThere_21 (by decide) ?_
      refine z_goto C 26 d_Bus_isThere_22 (by decide) ?_
      exact hret _ _ _ _ d_Bus_isThere_26 (by decide) ⟨by simp [isTh, h6, h18, nI_clamp (show j < 2 ^ 31 by omega)], rfl⟩
def isAc (k a c : Int32) : Int32 := if k = -1 then 1 else if k = 0 then bel a 4 else if k = 1 then bel a 4 else if k = 2 then (if bel a 6 = 0 then 0 else if wit c (-100) 100 = 0 then 0 else 1) else if k = 3 then (if bel a 4 = 0 then 0 else if bel c 4 = 0 then 0 else 1) else if k = 4 then (if bel a 6 = 0 then 0 else if bel c 4 = 0 then 0 else 1) else 0
theorem sw_lo {x : Int32} {lo hi : Int} (h : ¬ (lo ≤ x.toInt ∧ x.toInt ≤ hi)) : x.toInt < lo ∨ hi < x.toInt := by omega
theorem sw_eq {x : Int32} (k : Int32) (h : x.toInt = k.toInt) : x = k := Int32.toInt_inj.mp h
set_option maxRecDepth 100000 in
set_option maxHeartbeats 4000000 in
/-- whether it is an action -/
theorem c_Bus_isAction (l : Launch) (D : va_G) (ca : Nat → ClassId) (b : Nat) (σ : Sg) {n : Nat} {S : List Cee} (k a c : Int32) : CtI l D ca S b n y_Bus_isAction w_Bus_isAction (rmN 1 22) σ [.int k, .int a, .int c] (fun r σ' => r = isAc k a c ∧ σ' = σ) := by
  refine ct_z "RobotBus" [(0, .int k), (1, .int a), (2, .int c)] (by decide) rfl (Nat.le_of_ble_eq_true rfl) rfl (fun X C hret => ?_)
  refine z_iload_n C d_Bus_isAction_0 rfl 0 rfl ?_
  by_cases q1_0 : k = (-1)
  · refine z_ri q1_0 ?_
    refine z_tableIn C 40 d_Bus_isAction_1 (off := 39) (by decide) (by decide) (by decide) (by decide) ?_
    refine z_iconst C (v := 1) d_Bus_isAction_40 (by decide) ?_
    exact hret _ _ _ _ d_Bus_isAction_41 (by decide) ⟨by simp [isAc, *], rfl⟩
  by_cases q1_1 : k = 0
  · refine z_ri q1_1 ?_
    refine z_tableIn C 42 d_Bus_isAction_1 (off := 41) (by decide) (by decide) (by decide) (by decide) ?_
    refine z_iload_n C d_Bus_isAction_42 rfl 1 rfl ?_
    refine z_iconst C (v := 4) d_Bus_isAction_43 (by decide) ?_
    refine zf_Si C d_Bus_isAction_44 (c_Bus_isBelow l D ca b σ a 4) tw_286 tw_287 tw_1 tw_288 pd_Bus_isBelow ⟨⟨by decide, by decide⟩, rfl, rfl, by decide, by decide⟩ (Nat.le_of_ble_eq_true rfl) rfl ?_
    exact hret _ _ _ _ d_Bus_isAction_47 (bel_01 _ _) ⟨by simp [isAc, *], rfl⟩
  by_cases q1_2 : k = 1
  · refine z_ri q1_2 ?_
    refine z_tableIn C 42 d_Bus_isAction_1 (off := 41) (by decide) (by decide) (by decide) (by decide) ?_
    refine z_iload_n C d_Bus_isAction_42 rfl 1 rfl ?_
    refine z_iconst C (v := 4) d_Bus_isAction_43 (by decide) ?_
    refine zf_Si C d_Bus_isAction_44 (c_Bus_isBelow l D ca b σ a 4) tw_286 tw_287 tw_1 tw_288 pd_Bus_isBelow ⟨⟨by decide, by decide⟩, rfl, rfl, by decide, by decide⟩ (Nat.le_of_ble_eq_true rfl) rfl ?_
    exact hret _ _ _ _ d_Bus_isAction_47 (bel_01 _ _) ⟨by simp [isAc, *], rfl⟩
  by_cases q1_3 : k = 2
  · refine z_ri q1_3 ?_
    refine z_tableIn C 48 d_Bus_isAction_1 (off := 47) (by decide) (by decide) (by decide) (by decide) ?_
    refine z_iload_n C d_Bus_isAction_48 rfl 1 rfl ?_
    refine z_bipush C (v := 6) d_Bus_isAction_49 (by decide) ?_
    refine zf_Si C d_Bus_isAction_51 (c_Bus_isBelow l D ca b σ a 6) tw_286 tw_287 tw_1 tw_288 pd_Bus_isBelow ⟨⟨by decide, by decide⟩, rfl, rfl, by decide, by decide⟩ (Nat.le_of_ble_eq_true rfl) rfl ?_
    refine z_if_eq C 72 d_Bus_isAction_54 (by decide) (fun h54 => ?_) (fun h54 => ?_)
    · refine z_iconst C (v := 0) d_Bus_isAction_72 (by decide) ?_
      exact hret _ _ _ _ d_Bus_isAction_73 (by decide) ⟨by simp [isAc, *], rfl⟩
    · refine z_iload_n C d_Bus_isAction_57 rfl 2 rfl ?_
      refine z_bipush C (v := -100) d_Bus_isAction_58 (by decide) ?_
      refine z_bipush C (v := 100) d_Bus_isAction_60 (by decide) ?_
      refine zf_Si C d_Bus_isAction_62 (c_Bus_isWithin l D ca b σ c (-100) 100) tw_426 tw_427 tw_1 tw_428 pd_Bus_isWithin ⟨⟨by decide, by decide⟩, rfl, rfl, by decide, by decide⟩ (Nat.le_of_ble_eq_true rfl) rfl ?_
      refine z_if_eq C 72 d_Bus_isAction_65 (by decide) (fun h65 => ?_) (fun h65 => ?_)
      · refine z_iconst C (v := 0) d_Bus_isAction_72 (by decide) ?_
        exact hret _ _ _ _ d_Bus_isAction_73 (by decide) ⟨by simp [isAc, *], rfl⟩
      · refine z_iconst C (v := 1) d_Bus_isAction_68 (by decide) ?_
        refine z_goto C 73 d_Bus_isAction_69 (by decide) ?_
        exact hret _ _ _ _ d_Bus_isAction_73 (by decide) ⟨by simp [isAc, *], rfl⟩
  by_cases q1_4 : k = 3
  · refine z_ri q1_4 ?_
    refine z_tableIn C 74 d_Bus_isAction_1 (off := 73) (by decide) (by decide) (by decide) (by decide) ?_
    refine z_iload_n C d_Bus_isAction_74 rfl 1 rfl ?_
    refine z_iconst C (v := 4) d_Bus_isAction_75 (by decide) ?_
    refine zf_Si C d_Bus_isAction_76 (c_Bus_isBelow l D ca b σ a 4) tw_286 tw_287 tw_1 tw_288 pd_Bus_isBelow ⟨⟨by decide, by decide⟩, rfl, rfl, by decide, by decide⟩ (Nat.le_of_ble_eq_true rfl) rfl ?_
    refine z_if_eq C 94 d_Bus_isAction_79 (by decide) (fun h79 => ?_) (fun h79 => ?_)
    · refine z_iconst C (v := 0) d_Bus_isAction_94 (by decide) ?_
      exact hret _ _ _ _ d_Bus_isAction_95 (by decide) ⟨by simp [isAc, *], rfl⟩
    · refine z_iload_n C d_Bus_isAction_82 rfl 2 rfl ?_
      refine z_iconst C (v := 4) d_Bus_isAction_83 (by decide) ?_
      refine zf_Si C d_Bus_isAction_84 (c_Bus_isBelow l D ca b σ c 4) tw_286 tw_287 tw_1 tw_288 pd_Bus_isBelow ⟨⟨by decide, by decide⟩, rfl, rfl, by decide, by decide⟩ (Nat.le_of_ble_eq_true rfl) rfl ?_
      refine z_if_eq C 94 d_Bus_isAction_87 (by decide) (fun h87 => ?_) (fun h87 => ?_)
      · refine z_iconst C (v := 0) d_Bus_isAction_94 (by decide) ?_
        exact hret _ _ _ _ d_Bus_isAction_95 (by decide) ⟨by simp [isAc, *], rfl⟩
      · refine z_iconst C (v := 1) d_Bus_isAction_90 (by decide) ?_
        refine z_goto C 95 d_Bus_isAction_91 (by decide) ?_
        exact hret _ _ _ _ d_Bus_isAction_95 (by decide) ⟨by simp [isAc, *], rfl⟩
  by_cases q1_5 : k = 4
  · refine z_ri q1_5 ?_
    refine z_tableIn C 96 d_Bus_isAction_1 (off := 95) (by decide) (by decide) (by decide) (by decide) ?_
    refine z_iload_n C d_Bus_isAction_96 rfl 1 rfl ?_
    refine z_bipush C (v := 6) d_Bus_isAction_97 (by decide) ?_
    refine zf_Si C d_Bus_isAction_99 (c_Bus_isBelow l D ca b σ a 6) tw_286 tw_287 tw_1 tw_288 pd_Bus_isBelow ⟨⟨by decide, by decide⟩, rfl, rfl, by decide, by decide⟩ (Nat.le_of_ble_eq_true rfl) rfl ?_
    refine z_if_eq C 117 d_Bus_isAction_102 (by decide) (fun h102 => ?_) (fun h102 => ?_)
    · refine z_iconst C (v := 0) d_Bus_isAction_117 (by decide) ?_
      exact hret _ _ _ _ d_Bus_isAction_118 (by decide) ⟨by simp [isAc, *], rfl⟩
    · refine z_iload_n C d_Bus_isAction_105 rfl 2 rfl ?_
      refine z_iconst C (v := 4) d_Bus_isAction_106 (by decide) ?_
      refine zf_Si C d_Bus_isAction_107 (c_Bus_isBelow l D ca b σ c 4) tw_286 tw_287 tw_1 tw_288 pd_Bus_isBelow ⟨⟨by decide, by decide⟩, rfl, rfl, by decide, by decide⟩ (Nat.le_of_ble_eq_true rfl) rfl ?_
      refine z_if_eq C 117 d_Bus_isAction_110 (by decide) (fun h110 => ?_) (fun h110 => ?_)
      · refine z_iconst C (v := 0) d_Bus_isAction_117 (by decide) ?_
        exact hret _ _ _ _ d_Bus_isAction_118 (by decide) ⟨by simp [isAc, *], rfl⟩
      · refine z_iconst C (v := 1) d_Bus_isAction_113 (by decide) ?_
        refine z_goto C 118 d_Bus_isAction_114 (by decide) ?_
        exact hret _ _ _ _ d_Bus_isAction_118 (by decide) ⟨by simp [isAc, *], rfl⟩
  refine z_tableOut C 119 d_Bus_isAction_1 (by have e0 := lv_neT q1_0 (a := -1) (by decide); have e1 := lv_neT q1_1 (a := 0) (by decide); have e2 := lv_neT q1_2 (a := 1) (by decide); have e3 := lv_neT q1_3 (a := 2) (by decide); have e4 := lv_neT q1_4 (a := 3) (by decide); have e5 := lv_neT q1_5 (a := 4) (by decide); omega) (by decide) ?_
  refine z_iconst C (v := 0) d_Bus_isAction_119 (by decide) ?_
  exact hret _ _ _ _ d_Bus_isAction_120 (by decide) ⟨by simp [isAc, *], rfl⟩
def isSv (s k c e : Int32) : Int32 := if wit e (-1000) 1000 = 0 then 0 else if k = 0 then wit c (-100) 100 else if k = 1 then bel c 4 else if k = 2 then bel c 4 else if k = 3 then bel c s else 0
set_option maxRecDepth 100000 in
set_option maxHeartbeats 4000000 in
/-- whether it is a service -/
theorem c_Bus_isService (l : Launch) (D : va_G) (ca : Nat → ClassId) (b : Nat) (σ : Sg) {n : Nat} {S : List Cee} (s k c e : Int32) : CtI l D ca S b n y_Bus_isService w_Bus_isService (rmN 1 22) σ [.int s, .int k, .int c, .int e] (fun r σ' => r = isSv s k c e ∧ σ' = σ) := by
  refine ct_z "RobotBus" [(0, .int s), (1, .int k), (2, .int c), (3, .int e)] (by decide) rfl (Nat.le_of_ble_eq_true rfl) rfl (fun X C hret => ?_)
  refine z_iload_n C d_Bus_isService_0 rfl 3 rfl ?_
  refine z_sipush C (v := -1000) d_Bus_isService_1 (by decide) ?_
  refine z_sipush C (v := 1000) d_Bus_isService_4 (by decide) ?_
  refine zf_Si C d_Bus_isService_7 (c_Bus_isWithin l D ca b σ e (-1000) 1000) tw_426 tw_427 tw_1 tw_428 pd_Bus_isWithin ⟨⟨by decide, by decide⟩, rfl, rfl, by decide, by decide⟩ (Nat.le_of_ble_eq_true rfl) rfl ?_
  refine z_if_ne C 15 d_Bus_isService_10 (by decide) (fun h10 => ?_) (fun h10 => ?_)
  · refine z_iload_n C d_Bus_isService_15 rfl 1 rfl ?_
    by_cases q16_0 : k = 0
    · refine z_ri q16_0 ?_
      refine z_tableIn C 48 d_Bus_isService_16 (off := 32) (by decide) (by decide) (by decide) (by decide) ?_
      refine z_iload_n C d_Bus_isService_48 rfl 2 rfl ?_
      refine z_bipush C (v := -100) d_Bus_isService_49 (by decide) ?_
      refine z_bipush C (v := 100) d_Bus_isService_51 (by decide) ?_
      refine zf_Si C d_Bus_isService_53 (c_Bus_isWithin l D ca b σ c (-100) 100) tw_426 tw_427 tw_1 tw_428 pd_Bus_isWithin ⟨⟨by decide, by decide⟩, rfl, rfl, by decide, by decide⟩ (Nat.le_of_ble_eq_true rfl) rfl ?_
      exact hret _ _ _ _ d_Bus_isService_56 (wit_01 _ _ _) ⟨by simp [isSv, *], rfl⟩
    by_cases q16_1 : k = 1
    · refine z_ri q16_1 ?_
      refine z_tableIn C 57 d_Bus_isService_16 (off := 41) (by decide) (by decide) (by decide) (by decide) ?_
      refine z_iload_n C d_Bus_isService_57 rfl 2 rfl ?_
      refine z_iconst C (v := 4) d_Bus_isService_58 (by decide) ?_
      refine zf_Si C d_Bus_isService_59 (c_Bus_isBelow l D ca b σ c 4) tw_286 tw_287 tw_1 tw_288 pd_Bus_isBelow ⟨⟨by decide, by decide⟩, rfl, rfl, by decide, by decide⟩ (Nat.le_of_ble_eq_true rfl) rfl ?_
      exact hret _ _ _ _ d_Bus_isService_62 (bel_01 _ _) ⟨by simp [isSv, *], rfl⟩
    by_cases q16_2 : k = 2
    · refine z_ri q16_2 ?_
      refine z_tableIn C 57 d_Bus_isService_16 (off := 41) (by decide) (by decide) (by decide) (by decide) ?_
      refine z_iload_n C d_Bus_isService_57 rfl 2 rfl ?_
      refine z_iconst C (v := 4) d_Bus_isService_58 (by decide) ?_
      refine zf_Si C d_Bus_isService_59 (c_Bus_isBelow l D ca b σ c 4) tw_286 tw_287 tw_1 tw_288 pd_Bus_isBelow ⟨⟨by decide, by decide⟩, rfl, rfl, by decide, by decide⟩ (Nat.le_of_ble_eq_true rfl) rfl ?_
      exact hret _ _ _ _ d_Bus_isService_62 (bel_01 _ _) ⟨by simp [isSv, *], rfl⟩
    by_cases q16_3 : k = 3
    · refine z_ri q16_3 ?_
      refine z_tableIn C 63 d_Bus_isService_16 (off := 47) (by decide) (by decide) (by decide) (by decide) ?_
      refine z_iload_n C d_Bus_isService_63 rfl 2 rfl ?_
      refine z_iload_n C d_Bus_isService_64 rfl 0 rfl ?_
      refine zf_Si C d_Bus_isService_65 (c_Bus_isBelow l D ca b σ c s) tw_286 tw_287 tw_1 tw_288 pd_Bus_isBelow ⟨⟨by decide, by decide⟩, rfl, rfl, by decide, by decide⟩ (Nat.le_of_ble_eq_true rfl) rfl ?_
      exact hret _ _ _ _ d_Bus_isService_68 (bel_01 _ _) ⟨by simp [isSv, *], rfl⟩
    refine z_tableOut C 69 d_Bus_isService_16 (by have e0 := lv_neT q16_0 (a := 0) (by decide); have e1 := lv_neT q16_1 (a := 1) (by decide); have e2 := lv_neT q16_2 (a := 2) (by decide); have e3 := lv_neT q16_3 (a := 3) (by decide); omega) (by decide) ?_
    refine z_iconst C (v := 0) d_Bus_isService_69 (by decide) ?_
    exact hret _ _ _ _ d_Bus_isService_70 (by decide) ⟨by simp [isSv, *], rfl⟩
  · refine z_iconst C (v := 0) d_Bus_isService_13 (by decide) ?_
    exact hret _ _ _ _ d_Bus_isService_14 (by decide) ⟨by simp [isSv, *], rfl⟩
