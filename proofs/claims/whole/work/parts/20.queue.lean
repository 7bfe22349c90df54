/-! Queue -/
def qOpen (σ : Sg) (i t : Nat) : Int32 := if σ.1 33 i t 0 ≤ 0 then 0 else 1
set_option maxRecDepth 100000 in
set_option maxHeartbeats 4000000 in
/-- whether there is a subscription -/
theorem c_Que_isOpen (l : Launch) (D : va_G) (ca : Nat → ClassId) (b : Nat) (σ : Sg) {i t : Nat} (hi : i < 6) (ht : t < 6) : CtI l D ca SB b 182 y_Que_isOpen w_Que_isOpen (rmN 0 0) σ [.ref (b + (14 + 22 * i + 3 * t))] (fun r σ' => r = qOpen σ i t ∧ σ' = σ) := by
  refine ct_z "RobotBus$Queue" [(0, .ref (b + (14 + 22 * i + 3 * t)))] (by decide) rfl (Nat.le_of_ble_eq_true rfl) rfl (fun X C hret => ?_)
  refine z_aload_n C d_Que_isOpen_0 rfl 0 rfl ?_
  refine gB_Que_depth C d_Que_isOpen_1 tw_102 hi ht ?_
  refine z_if_le C 11 d_Que_isOpen_4 (by decide) (fun h4 => ?_) (fun h4 => ?_)
  · refine z_iconst C (v := 0) d_Que_isOpen_11 (by decide) ?_
    exact hret _ _ _ _ d_Que_isOpen_12 (by decide) ⟨by simp [qOpen, h4], rfl⟩
  · refine z_iconst C (v := 1) d_Que_isOpen_7 (by decide) ?_
    refine z_goto C 12 d_Que_isOpen_8 (by decide) ?_
    exact hret _ _ _ _ d_Que_isOpen_12 (by decide) ⟨by simp [qOpen, h4], rfl⟩
set_option maxRecDepth 100000 in
set_option maxHeartbeats 4000000 in
/-- a part of a message -/
theorem c_Que_part (l : Launch) (D : va_G) (ca : Nat → ClassId) (b : Nat) (σ : Sg) {i t : Nat} (hi : i < 6) (ht : t < 6) {p w : Nat} (hp : p < 4) (hw : w < 3) : CtI l D ca SB b 182 y_Que_part w_Que_part (rmN 0 0) σ [.ref (b + (14 + 22 * i + 3 * t)), .int (nI p), .int (nI w)] (fun r σ' => r = σ.1 35 i t (p * 3 + w) ∧ σ' = σ) := by
  refine ct_i "RobotBus$Queue" [(0, .ref (b + (14 + 22 * i + 3 * t))), (1, .int (nI p)), (2, .int (nI w))] (by decide) rfl (Nat.le_of_ble_eq_true rfl) rfl (fun X C hret => ?_)
  refine z_aload_n C d_Que_part_0 rfl 0 rfl ?_
  refine gB_Que_cells C d_Que_part_1 tw_101 hi ht ?_
  refine z_iload_n C d_Que_part_4 rfl 1 rfl ?_
  refine z_iconst C (v := 3) d_Que_part_5 (by decide) ?_
  refine z_imul C d_Que_part_6 ?_
  refine z_iload_n C d_Que_part_7 rfl 2 rfl ?_
  refine z_iadd C d_Que_part_8 ?_
  refine z_ri (x' := nI (p * 3 + w)) (by rw [show (3 : Int32) = nI 3 by decide, pk_mul, nI_add]) ?_
  refine lB_cell C (q := (p * 3 + w)) d_Que_part_9 hi ht rfl (by omega) ?_
  exact hret _ _ _ _ d_Que_part_10 ⟨rfl, rfl⟩
def qClose (σ : Sg) (i t : Nat) : Sg := us (us σ 33 i t 0) 34 i t 0
set_option maxRecDepth 100000 in
set_option maxHeartbeats 4000000 in
/-- no subscription any more -/
theorem c_Que_close (l : Launch) (D : va_G) (ca : Nat → ClassId) (b : Nat) (σ : Sg) {i t : Nat} (hi : i < 6) (ht : t < 6) : CtI l D ca SB b 182 y_Que_close w_Que_close (rmN 0 0) σ [.ref (b + (14 + 22 * i + 3 * t))] (fun r σ' => r = σ.1 34 i t 0 ∧ σ' = qClose σ i t) := by
  refine ct_i "RobotBus$Queue" [(0, .ref (b + (14 + 22 * i + 3 * t)))] (by decide) rfl (Nat.le_of_ble_eq_true rfl) rfl (fun X C hret => ?_)
  refine z_aload_n C d_Que_close_0 rfl 0 rfl ?_
  refine gB_Que_size C d_Que_close_1 tw_103 hi ht ?_
  refine z_istore_n C d_Que_close_4 rfl (by decide) [(1, .int (σ.1 34 i t 0)), (0, .ref (b + (14 + 22 * i + 3 * t)))] rfl ?_
  refine z_aload_n C d_Que_close_5 rfl 1 rfl ?_
  refine z_iconst C (v := 0) d_Que_close_6 (by decide) ?_
  refine pB_Que_depth C d_Que_close_7 tw_102 hi ht ?_
  refine z_aload_n C d_Que_close_10 rfl 1 rfl ?_
  refine z_iconst C (v := 0) d_Que_close_11 (by decide) ?_
  refine pB_Que_size C d_Que_close_12 tw_103 hi ht ?_
  refine z_iload_n C d_Que_close_15 rfl 0 rfl ?_
  exact hret _ _ _ _ d_Que_close_16 ⟨rfl, rfl⟩
def qDrop (σ : Sg) (i t q m : Nat) : Sg := upA (us σ 34 i t (nI (q - m))) (35, i, t) (va_cpy (σ.1 35 i t) (σ.1 35 i t) (m * 3) 0 ((q - m) * 3))
set_option maxRecDepth 100000 in
set_option maxHeartbeats 4000000 in
/-- the m oldest go -/
theorem c_Que_dropOldest (l : Launch) (D : va_G) (ca : Nat → ClassId) (b : Nat) (σ : Sg) {i t : Nat} (hi : i < 6) (ht : t < 6) {q m : Nat} (hq : σ.1 34 i t 0 = nI q) (hm : m ≤ q) (hq4 : q ≤ 4) : CtV l D ca SB b 182 y_Que_dropOldest w_Que_dropOldest (rmN 1 18) σ [.ref (b + (14 + 22 * i + 3 * t)), .int (nI m)] (fun σ' => σ' = qDrop σ i t q m) := by
  refine ct_v "RobotBus$Queue" [(0, .ref (b + (14 + 22 * i + 3 * t))), (1, .int (nI m))] (by decide) rfl (Nat.le_of_ble_eq_true rfl) rfl (fun X C hret => ?_)
  refine z_aload_n C d_Que_dropOldest_0 rfl 0 rfl ?_
  refine z_dup C d_Que_dropOldest_1 rfl ?_
  refine gB_Que_size C d_Que_dropOldest_2 tw_103 hi ht ?_
  refine z_iload_n C d_Que_dropOldest_5 rfl 1 rfl ?_
  refine z_isub C d_Que_dropOldest_6 ?_
  refine pB_Que_size C d_Que_dropOldest_7 tw_103 hi ht ?_
  refine z_aload_n C d_Que_dropOldest_10 rfl 0 rfl ?_
  refine gB_Que_cells C d_Que_dropOldest_11 tw_101 hi ht ?_
  refine z_iload_n C d_Que_dropOldest_14 rfl 1 rfl ?_
  refine z_iconst C (v := 3) d_Que_dropOldest_15 (by decide) ?_
  refine z_imul C d_Que_dropOldest_16 ?_
  refine z_aload_n C d_Que_dropOldest_17 rfl 0 rfl ?_
  refine gB_Que_cells C d_Que_dropOldest_18 tw_101 hi ht ?_
  refine z_iconst C (v := 0) d_Que_dropOldest_21 (by decide) ?_
  refine z_aload_n C d_Que_dropOldest_22 rfl 0 rfl ?_
  refine gB_Que_size C d_Que_dropOldest_23 tw_103 hi ht ?_
  refine z_iconst C (v := 3) d_Que_dropOldest_26 (by decide) ?_
  refine z_imul C d_Que_dropOldest_27 ?_
  refine z_copyi C d_Que_dropOldest_28 (List.mem_cons_of_mem _ tw_445) (List.mem_cons_of_mem _ tw_447) (List.mem_cons_of_mem _ tw_446) (List.mem_cons_of_mem _ tw_18) 0 rfl (by omega) rfl (eB_cell hi ht) (by decide) (s0 := m * 3) (d0 := 0) (m0 := (q - m) * 3) (by rw [show (3 : Int32) = nI 3 by decide, pk_mul]) (by decide) (by rw [us_self, show (3 : Int32) = nI 3 by decide, hq, pk_sub hm, pk_mul]) (by omega) (by omega) (by decide) (Nat.le_of_ble_eq_true rfl) ?_
  refine z_map (uB_cell hi ht _) ?_
  exact hret _ _ _ d_Que_dropOldest_31 (by unfold qDrop; rw [hq, pk_sub hm]; rfl)
theorem qDrop_sz {σ : Sg} {i t q m : Nat} : (qDrop σ i t q m).1 34 i t 0 = nI (q - m) := by simp [qDrop, us, upA]
theorem q_max : ∀ q, q < 5 → ∀ d, d < 5 → (if (0 : Int32) < nI q - nI d then nI q - nI d else 0) = nI (q - d) := by decide +kernel
def qDeep (σ : Sg) (i t q d : Nat) : Sg := us (qDrop σ i t q (q - d)) 33 i t (nI d)
set_option maxRecDepth 100000 in
set_option maxHeartbeats 4000000 in
/-- another depth -/
theorem c_Que_deepen (l : Launch) (D : va_G) (ca : Nat → ClassId) (b : Nat) (σ : Sg) {i t : Nat} (hi : i < 6) (ht : t < 6) {q e : Nat} (hq : σ.1 34 i t 0 = nI q) (hq4 : q ≤ 4) (he : e ≤ 4) : CtI l D ca SB b 182 y_Que_deepen w_Que_deepen (rmN 2 39) σ [.ref (b + (14 + 22 * i + 3 * t)), .int (nI e)] (fun r σ' => r = nI (q - e) ∧ σ' = qDeep σ i t q e) := by
  refine ct_i "RobotBus$Queue" [(0, .ref (b + (14 + 22 * i + 3 * t))), (1, .int (nI e))] (by decide) rfl (Nat.le_of_ble_eq_true rfl) rfl (fun X C hret => ?_)
  refine z_iconst C (v := 0) d_Que_deepen_0 (by decide) ?_
  refine z_aload_n C d_Que_deepen_1 rfl 0 rfl ?_
  refine gB_Que_size C d_Que_deepen_2 tw_103 hi ht ?_
  refine z_iload_n C d_Que_deepen_5 rfl 1 rfl ?_
  refine z_isub C d_Que_deepen_6 ?_
  refine z_max C d_Que_deepen_7 (List.mem_cons_of_mem _ tw_438) (List.mem_cons_of_mem _ tw_439) (List.mem_cons_of_mem _ tw_17) (List.mem_cons_of_mem _ tw_440) (by decide) (Nat.le_of_ble_eq_true rfl) (by decide) (by decide) ?_
  refine z_ri (x' := nI (q - e)) (by rw [hq]; exact q_max q (by omega) e (by omega)) ?_
  refine z_istore_n C d_Que_deepen_10 rfl (by decide) [(2, .int (nI (q - e))), (0, .ref (b + (14 + 22 * i + 3 * t))), (1, .int (nI e))] rfl ?_
  refine z_aload_n C d_Que_deepen_11 rfl 1 rfl ?_
  refine z_iload_n C d_Que_deepen_12 rfl 0 rfl ?_
  refine zf_Vv C d_Que_deepen_13 (c_Que_dropOldest l D ca b σ hi ht (m := (q - e)) hq (by omega) hq4) tw_441 tw_442 tw_443 tw_5 tw_444 pd_Que_dropOldest ⟨⟨by decide, by decide⟩, rfl, rfl, by decide, by decide⟩ (by omega) rfl (eB_Que hi ht) rfl (Nat.le_of_ble_eq_true rfl) rfl ?_
  refine z_aload_n C d_Que_deepen_16 rfl 1 rfl ?_
  refine z_iload_n C d_Que_deepen_17 rfl 2 rfl ?_
  refine pB_Que_depth C d_Que_deepen_18 tw_102 hi ht ?_
  refine z_iload_n C d_Que_deepen_21 rfl 0 rfl ?_
  exact hret _ _ _ _ d_Que_deepen_22 ⟨rfl, rfl⟩
def qPut (σ : Sg) (i t q : Nat) (v s w : Int32) : Sg := us (upA σ (35, i, t) (upd (upd (upd (σ.1 35 i t) (q * 3) v) (q * 3 + 1) s) (q * 3 + 2) w)) 34 i t (nI (q + 1))
def qApp (σ : Sg) (i t q d : Nat) (v s w : Int32) : Sg := if q < d then qPut (qDrop σ i t q 0) i t q v s w else qPut (qDrop σ i t q 1) i t (q - 1) v s w
def qLost (q d : Nat) : Int32 := if q < d then 0 else 1
set_option maxRecDepth 100000 in
set_option maxHeartbeats 4000000 in
/-- one more message -/
theorem c_Que_append (l : Launch) (D : va_G) (ca : Nat → ClassId) (b : Nat) (σ : Sg) {i t : Nat} (hi : i < 6) (ht : t < 6) {q e : Nat} (hq : σ.1 34 i t 0 = nI q) (hd : σ.1 33 i t 0 = nI e) (hqe : q ≤ e) (he1 : 1 ≤ e) (hq4 : q ≤ 4) (he4 : e ≤ 4) (v s w : Int32) : CtI l D ca SB b 182 y_Que_append w_Que_append (rmN 2 39) σ [.ref (b + (14 + 22 * i + 3 * t)), .int v, .int s, .int w] (fun r σ' => r = qLost q e ∧ σ' = qApp σ i t q e v s w) := by
  refine ct_i "RobotBus$Queue" [(0, .ref (b + (14 + 22 * i + 3 * t))), (1, .int v), (2, .int s), (3, .int w)] (by decide) rfl (Nat.le_of_ble_eq_true rfl) rfl (fun X C hret => ?_)
  refine z_aload_n C d_Que_append_0 rfl 0 rfl ?_
  refine gB_Que_size C d_Que_append_1 tw_103 hi ht ?_
  refine z_aload_n C d_Que_append_4 rfl 0 rfl ?_
  refine gB_Que_depth C d_Que_append_5 tw_102 hi ht ?_
  refine z_icmp_ge C 15 d_Que_append_8 (by decide) (fun h8 => ?_) (fun h8 => ?_)
  · rw [hd, hq, nI_leI (by omega) (by omega)] at h8
    refine z_iconst C (v := 1) d_Que_append_15 (by decide) ?_
    refine z_istore C d_Que_append_16 (by decide) [(4, .int 1), (0, .ref (b + (14 + 22 * i + 3 * t))), (1, .int v), (2, .int s), (3, .int w)] rfl ?_
    refine z_aload_n C d_Que_append_18 rfl 1 rfl ?_
    refine z_iload C d_Que_append_19 0 rfl ?_
    refine z_ri (x' := nI 1) (by decide) ?_
    refine zf_Vv C d_Que_append_21 (c_Que_dropOldest l D ca b σ hi ht (m := 1) hq (by omega) hq4) tw_441 tw_442 tw_443 tw_5 tw_444 pd_Que_dropOldest ⟨⟨by decide, by decide⟩, rfl, rfl, by decide, by decide⟩ (by omega) rfl (eB_Que hi ht) rfl (Nat.le_of_ble_eq_true rfl) rfl ?_
    refine z_aload_n C d_Que_append_24 rfl 1 rfl ?_
    refine gB_Que_size C d_Que_append_25 tw_103 hi ht ?_
    refine z_iconst C (v := 3) d_Que_append_28 (by decide) ?_
    refine z_imul C d_Que_append_29 ?_
    refine z_ri (x' := nI ((q - 1) * 3)) (by rw [qDrop_sz, show (3 : Int32) = nI 3 by decide, pk_mul] <;> rfl) ?_
    refine z_istore C d_Que_append_30 (by decide) [(5, .int (nI ((q - 1) * 3))), (4, .int 1), (0, .ref (b + (14 + 22 * i + 3 * t))), (1, .int v), (2, .int s), (3, .int w)] rfl ?_
    refine z_aload_n C d_Que_append_32 rfl 2 rfl ?_
    refine gB_Que_cells C d_Que_append_33 tw_101 hi ht ?_
    refine z_iload C d_Que_append_36 0 rfl ?_
    refine z_iload_n C d_Que_append_38 rfl 3 rfl ?_
    refine stB_cell C (q := ((q - 1) * 3)) d_Que_append_39 hi ht rfl (by omega) ?_
    refine z_aload_n C d_Que_append_40 rfl 2 rfl ?_
    refine gB_Que_cells C d_Que_append_41 tw_101 hi ht ?_
    refine z_iload C d_Que_append_44 0 rfl ?_
    refine z_iconst C (v := 1) d_Que_append_46 (by decide) ?_
    refine z_iadd C d_Que_append_47 ?_
    refine z_ri (x' := nI ((q - 1) * 3 + 1)) (nI_add _ 1) ?_
    refine z_iload_n C d_Que_append_48 rfl 4 rfl ?_
    refine stB_cell C (q := ((q - 1) * 3 + 1)) d_Que_append_49 hi ht rfl (by omega) ?_
    refine z_aload_n C d_Que_append_50 rfl 2 rfl ?_
    refine gB_Que_cells C d_Que_append_51 tw_101 hi ht ?_
    refine z_iload C d_Que_append_54 0 rfl ?_
    refine z_iconst C (v := 2) d_Que_append_56 (by decide) ?_
    refine z_iadd C d_Que_append_57 ?_
    refine z_ri (x' := nI ((q - 1) * 3 + 2)) (nI_add _ 2) ?_
    refine z_iload_n C d_Que_append_58 rfl 5 rfl ?_
    refine stB_cell C (q := ((q - 1) * 3 + 2)) d_Que_append_59 hi ht rfl (by omega) ?_
    refine z_aload_n C d_Que_append_60 rfl 2 rfl ?_
    refine z_dup C d_Que_append_61 rfl ?_
    refine gB_Que_size C d_Que_append_62 tw_103 hi ht ?_
    refine z_iconst C (v := 1) d_Que_append_65 (by decide) ?_
    refine z_iadd C d_Que_append_66 ?_
    refine z_ri (x' := nI ((q - 1) + 1)) (by simp only [upA_ne (show ¬ (34, i, t) = (35, i, t) by simp)]; rw [qDrop_sz]; exact nI_add _ 1) ?_
    refine pB_Que_size C d_Que_append_67 tw_103 hi ht ?_
    refine z_iload C d_Que_append_70 1 rfl ?_
    exact hret _ _ _ _ d_Que_append_72 ⟨by simp [qLost, show ¬ q < e by omega], by simp [qApp, qPut, show ¬ q < e by omega, upA_self, upA_upA]⟩
  · rw [hd, hq, nI_leI (by omega) (by omega)] at h8
    refine z_iconst C (v := 0) d_Que_append_11 (by decide) ?_
    refine z_goto C 16 d_Que_append_12 (by decide) ?_
    refine z_istore C d_Que_append_16 (by decide) [(4, .int 0), (0, .ref (b + (14 + 22 * i + 3 * t))), (1, .int v), (2, .int s), (3, .int w)] rfl ?_
    refine z_aload_n C d_Que_append_18 rfl 1 rfl ?_
    refine z_iload C d_Que_append_19 0 rfl ?_
    refine z_ri (x' := nI 0) (by decide) ?_
    refine zf_Vv C d_Que_append_21 (c_Que_dropOldest l D ca b σ hi ht (m := 0) hq (by omega) hq4) tw_441 tw_442 tw_443 tw_5 tw_444 pd_Que_dropOldest ⟨⟨by decide, by decide⟩, rfl, rfl, by decide, by decide⟩ (by omega) rfl (eB_Que hi ht) rfl (Nat.le_of_ble_eq_true rfl) rfl ?_
    refine z_aload_n C d_Que_append_24 rfl 1 rfl ?_
    refine gB_Que_size C d_Que_append_25 tw_103 hi ht ?_
    refine z_iconst C (v := 3) d_Que_append_28 (by decide) ?_
    refine z_imul C d_Que_append_29 ?_
    refine z_ri (x' := nI (q * 3)) (by rw [qDrop_sz, show (3 : Int32) = nI 3 by decide, pk_mul] <;> rfl) ?_
    refine z_istore C d_Que_append_30 (by decide) [(5, .int (nI (q * 3))), (4, .int 0), (0, .ref (b + (14 + 22 * i + 3 * t))), (1, .int v), (2, .int s), (3, .int w)] rfl ?_
    refine z_aload_n C d_Que_append_32 rfl 2 rfl ?_
    refine gB_Que_cells C d_Que_append_33 tw_101 hi ht ?_
    refine z_iload C d_Que_append_36 0 rfl ?_
    refine z_iload_n C d_Que_append_38 rfl 3 rfl ?_
    refine stB_cell C (q := (q * 3)) d_Que_append_39 hi ht rfl (by omega) ?_
    refine z_aload_n C d_Que_append_40 rfl 2 rfl ?_
    refine gB_Que_cells C d_Que_append_41 tw_101 hi ht ?_
    refine z_iload C d_Que_append_44 0 rfl ?_
    refine z_iconst C (v := 1) d_Que_append_46 (by decide) ?_
    refine z_iadd C d_Que_append_47 ?_
    refine z_ri (x' := nI (q * 3 + 1)) (nI_add _ 1) ?_
    refine z_iload_n C d_Que_append_48 rfl 4 rfl ?_
    refine stB_cell C (q := (q * 3 + 1)) d_Que_append_49 hi ht rfl (by omega) ?_
    refine z_aload_n C d_Que_append_50 rfl 2 rfl ?_
    refine gB_Que_cells C d_Que_append_51 tw_101 hi ht ?_
    refine z_iload C d_Que_append_54 0 rfl ?_
    refine z_iconst C (v := 2) d_Que_append_56 (by decide) ?_
    refine z_iadd C d_Que_append_57 ?_
    refine z_ri (x' := nI (q * 3 + 2)) (nI_add _ 2) ?_
    refine z_iload_n C d_Que_append_58 rfl 5 rfl ?_
    refine stB_cell C (q := (q * 3 + 2)) d_Que_append_59 hi ht rfl (by omega) ?_
    refine z_aload_n C d_Que_append_60 rfl 2 rfl ?_
    refine z_dup C d_Que_append_61 rfl ?_
    refine gB_Que_size C d_Que_append_62 tw_103 hi ht ?_
    refine z_iconst C (v := 1) d_Que_append_65 (by decide) ?_
    refine z_iadd C d_Que_append_66 ?_
    refine z_ri (x' := nI (q + 1)) (by simp only [upA_ne (show ¬ (34, i, t) = (35, i, t) by simp)]; rw [qDrop_sz]; exact nI_add _ 1) ?_
    refine pB_Que_size C d_Que_append_67 tw_103 hi ht ?_
    refine z_iload C d_Que_append_70 1 rfl ?_
    exact hret _ _ _ _ d_Que_append_72 ⟨by simp [qLost, show q < e by omega], by simp [qApp, qPut, show q < e by omega, upA_self, upA_upA]⟩
