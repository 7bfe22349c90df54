/-! Queue -/
def qOpen (σ : Sg) (i t : Nat) : Int32 := if σ.1 33 i t 0 ≤ 0 then 0 else 1
set_option maxRecDepth 100000 in
set_option maxHeartbeats 4000000 in
/-- whether there is a subscription -/
theorem c_Que_isOpen (l : Launch) (D : va_G) (ca : Nat → ClassId) (b : Nat) (σ : Sg) {i t : Nat} (hi : i < 6) (ht : t < 6) : CtI l D ca SB b 182 y_Que_isOpen w_Que_isOpen (rmN 0 0) σ [.ref (b + (14 + 22 * i + 3 * t))] (fun r σ' => r = qOpen σ i t ∧ σ' = σ) := by
  refine ct_z "RobotBus$Queue" [(0, .ref (b + (14 + 22 * i + 3 * t)))] (by decide) rfl (Nat.le_of_ble_eq_true rfl) rfl (fun X C hret => ?_)
  refine z_aload_n C d_Que_isOpen_0 rfl 0 rfl ?_
  refine gB_Que_depth C d_Que_isOpen_1 tw_102 hi ht ?_
  refine z_if_le C 11 d_Que_isOpen_4 (by decide) (fun h4 => ?_) (fun h4 => ?_)
  · refine z_iconst C (v := 0) d_Que_isOpen_11 (by decide) ?_
    exact hret _ _ _ _ d_Que_isOpen_12 (by decide) ⟨by simp [qOpen, h4], rfl⟩
  · refine z_iconst C (v := 1) d_Que_isOpen_7 (by decide) ?_
    refine z_goto C 12 d_Que_isOpen_8 (by decide) ?_
    exact hret _ _ _ _ d_Que_isOpen_12 (by decide) ⟨by simp [qOpen, h4], rfl⟩
set_option maxRecDepth 100000 in
set_option maxHeartbeats 4000000 in
/-- a part of a message -/
theorem c_Que_part (l : Launch) (D : va_G) (ca : Nat → ClassId) (b : Nat) (σ : Sg) {i t : Nat} (hi : i < 6) (ht : t < 6) {p w : Nat} (hp : p < 4) (hw : w < 3) : CtI l D ca SB b 182 y_Que_part w_Que_part (rmN 0 0) σ [.ref (b + (14 + 22 * i + 3 * t)), .int (nI p), .int (nI w)] (fun r σ' => r = σ.1 35 i t (p * 3 + w) ∧ σ' = σ) := by
  refine ct_i "RobotBus$Queue" [(0, .ref (b + (14 + 22 * i + 3 * t))), (1, .int (nI p)), (2, .int (nI w))] (by decide) rfl (Nat.le_of_ble_eq_true rfl) rfl (fun X C hret => ?_)
  refine z_aload_n C d_Que_part_0 rfl 0 rfl ?_
  refine gB_Que_cells C d_Que_part_1 tw_101 hi ht ?_
  refine z_iload_n C d_Que_part_4 rfl 1 rfl ?_
  refine z_iconst C (v := 3) d_Que_part_5 (by decide) ?_
  refine z_imul C d_Que_part_6 ?_
  refine z_iload_n C d_Que_part_7 rfl 2 rfl ?_
  refine z_iadd C d_Que_part_8 ?_
  refine z_ri (x' := nI (p * 3 + w)) (by rw [show (3 : Int32) = nI 3 by decide, pk_mul, nI_add]) ?_
  refine lB_cell C d_Que_part_9 hi ht rfl (by omega) ?_
  exact hret _ _ _ _ d_Que_part_10 ⟨rfl, rfl⟩
def qClose (σ : Sg) (i t : Nat) : Sg := us (us σ 33 i t 0) 34 i t 0
set_option maxRecDepth 100000 in
set_option maxHeartbeats 4000000 in
/-- no subscription any more -/
theorem c_Que_close (l : Launch) (D : va_G) (ca : Nat → ClassId) (b : Nat) (σ : Sg) {i t : Nat} (hi : i < 6) (ht : t < 6) : CtI l D ca SB b 182 y_Que_close w_Que_close (rmN 0 0) σ [.ref (b + (14 + 22 * i + 3 * t))] (fun r σ' => r = σ.1 34 i t 0 ∧ σ' = qClose σ i t) := by
  refine ct_i "RobotBus$Queue" [(0, .ref (b + (14 + 22 * i + 3 * t)))] (by decide) rfl (Nat.le_of_ble_eq_true rfl) rfl (fun X C hret => ?_)
  refine z_aload_n C d_Que_close_0 rfl 0 rfl ?_
  refine gB_Que_size C d_Que_close_1 tw_103 hi ht ?_
  refine z_istore_n C d_Que_close_4 rfl (by decide) [(1, .int (σ.1 34 i t 0)), (0, .ref (b + (14 + 22 * i + 3 * t)))] rfl ?_
  refine z_aload_n C d_Que_close_5 rfl 1 rfl ?_
  refine z_iconst C (v := 0) d_Que_close_6 (by decide) ?_
  refine pB_Que_depth C d_Que_close_7 tw_102 hi ht ?_
  refine z_aload_n C d_Que_close_10 rfl 1 rfl ?_
  refine z_iconst C (v := 0) d_Que_close_11 (by decide) ?_
  refine pB_Que_size C d_Que_close_12 tw_103 hi ht ?_
  refine z_iload_n C d_Que_close_15 rfl 0 rfl ?_
  exact hret _ _ _ _ d_Que_close_16 ⟨rfl, rfl⟩
def qDrop (σ : Sg) (i t q m : Nat) : Sg := upA (us σ 34 i t (nI (q - m))) (35, i, t) (va_cpy (σ.1 35 i t) (σ.1 35 i t) (m * 3) 0 ((q - m) * 3))
set_option maxRecDepth 100000 in
set_option maxHeartbeats 4000000 in
/-- the m oldest go -/
theorem c_Que_dropOldest (l : Launch) (D : va_G) (ca : Nat → ClassId) (b : Nat) (σ : Sg) {i t : Nat} (hi : i < 6) (ht : t < 6) {q m : Nat} (hq : σ.1 34 i t 0 = nI q) (hm : m ≤ q) (hq4 : q ≤ 4) : CtV l D ca SB b 182 y_Que_dropOldest w_Que_dropOldest (rmN 1 18) σ [.ref (b + (14 + 22 * i + 3 * t)), .int (nI m)] (fun σ' => σ' = qDrop σ i t q m) := by
  refine ct_v "RobotBus$Queue" [(0, .ref (b + (14 + 22 * i + 3 * t))), (1, .int (nI m))] (by decide) rfl (Nat.le_of_ble_eq_true rfl) rfl (fun X C hret => ?_)
  refine z_aload_n C d_Que_dropOldest_0 rfl 0 rfl ?_
  refine z_dup C d_Que_dropOldest_1 rfl ?_
  refine gB_Que_size C d_Que_dropOldest_2 tw_103 hi ht ?_
  refine z_iload_n C d_Que_dropOldest_5 rfl 1 rfl ?_
  refine z_isub C d_Que_dropOldest_6 ?_
  refine pB_Que_size C d_Que_dropOldest_7 tw_103 hi ht ?_
  refine z_aload_n C d_Que_dropOldest_10 rfl 0 rfl ?_
  refine gB_Que_cells C d_Que_dropOldest_11 tw_101 hi ht ?_
  refine z_iload_n C d_Que_dropOldest_14 rfl 1 rfl ?_
  refine z_iconst C (v := 3) d_Que_dropOldest_15 (by decide) ?_
  refine z_imul C d_Que_dropOldest_16 ?_
  refine z_aload_n C d_Que_dropOldest_17 rfl 0 rfl ?_
  refine gB_Que_cells C d_Que_dropOldest_18 tw_101 hi ht ?_
  refine z_iconst C (v := 0) d_Que_dropOldest_21 (by decide) ?_
  refine z_aload_n C d_Que_dropOldest_22 rfl 0 rfl ?_
  refine gB_Que_size C d_Que_dropOldest_23 tw_103 hi ht ?_
  refine z_iconst C (v := 3) d_Que_dropOldest_26 (by decide) ?_
  refine z_imul C d_Que_dropOldest_27 ?_
  refine z_copyi C d_Que_dropOldest_28 (List.mem_cons_of_mem _ tw_445) (List.mem_cons_of_mem _ tw_447) (List.mem_cons_of_mem _ tw_446) (List.mem_cons_of_mem _ tw_18) 0 rfl (by omega) rfl (eB_cell hi ht) (by decide) (s0 := m * 3) (d0 := 0) (m0 := (q - m) * 3) (by rw [show (3 : Int32) = nI 3 by decide, pk_mul]) (by decide) (by rw [us_self, show (3 : Int32) = nI 3 by decide, hq, pk_sub hm, pk_mul]) (by omega) (by omega) (by decide) (Nat.le_of_ble_eq_true rfl) ?_
  refine z_map (uB_cell hi ht _) ?_
  exact hret _ _ _ d_Que_dropOldest_31 (by unfold qDrop; rw [hq, pk_sub hm]; rfl)
