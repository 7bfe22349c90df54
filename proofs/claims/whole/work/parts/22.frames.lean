/-! Node.reset -/
def nR1 (i : Nat) : Nat → Nat → Sg → Int32 → Sg × Int32
  | 0, _, σ, a => (σ, a)
  | m + 1, k, σ, a => nR1 i m (k + 1) (us (qClose σ i k) 36 i k (-1)) (a + σ.1 34 i k 0)
def nR2 (i : Nat) : Nat → Nat → Sg → Sg
  | 0, _, σ => σ
  | m + 1, k, σ => nR2 i m (k + 1) (upA σ (32, i, 0) (upd (σ.1 32 i 0) k 0))
def nRst (σ : Sg) (i : Nat) : Sg := us (us (nR2 i 4 0 (nR1 i 6 0 σ 0).1) 30 i 0 0) 31 i 0 0
set_option maxRecDepth 100000 in
set_option maxHeartbeats 4000000 in
theorem lp_Nod_reset1 (l : Launch) (D : va_G) (ca : Nat → ClassId) (b : Nat) {R : Room} {X : Zx} {y0 : MethodName} {c0 : ByteArray} {n0 : Nat} {r0 : Option FieldType} (hR : 1 ≤ R.frames ∧ 21 ≤ R.locals) (C : Cs D ca b_Nod_reset 3 "RobotBus$Node" (Cond.code y0 c0 n0 r0) X) {i : Nat} (hi : i < 6) : ∀ m k, k + m = 6 → ∀ (σ : Sg) (a : Int32), Zs l D ca SB b 182 R 3 X (nR1 i m k σ a).1 38 [(2, .int (nI 6)), (1, .int (nR1 i m k σ a).2), (0, .ref (b + (10 + 22 * i)))] [] → Zs l D ca SB b 182 R 3 X σ 4 [(2, .int (nI k)), (1, .int a), (0, .ref (b + (10 + 22 * i)))] [] := by
  intro m
  induction m with
  | zero =>
    intro k hk σ a kk
    have hk6 : k = 6 := by omega
    subst hk6
    refine z_iload_n C d_Nod_reset_4 rfl 0 rfl ?_
    refine z_bipush C (v := 6) d_Nod_reset_5 (by decide) ?_
    refine z_icmp_ge C 38 d_Nod_reset_7 (by decide) (fun h7 => ?_) (fun h7 => False.elim (h7 (by decide)))
    exact kk
  | succ m ih =>
    intro k hk σ a kk
    refine z_iload_n C d_Nod_reset_4 rfl 0 rfl ?_
    refine z_bipush C (v := 6) d_Nod_reset_5 (by decide) ?_
    refine z_icmp_ge C 38 d_Nod_reset_7 (by decide) (fun h7 => False.elim (nI_ge (a := k) (b := 6) (by omega) (by decide) h7)) (fun h7 => ?_)
    refine z_iload_n C d_Nod_reset_10 rfl 1 rfl ?_
    refine z_aload_n C d_Nod_reset_11 rfl 2 rfl ?_
    refine gB_Nod_queues C d_Nod_reset_12 tw_134 hi ?_
    refine z_iload_n C d_Nod_reset_15 rfl 0 rfl ?_
    refine rB_ques C (j := k) d_Nod_reset_16 hi rfl (by omega) ?_
    refine zf_Vi C d_Nod_reset_17 (c_Que_close l D ca b σ hi (t := k) (by omega)) tw_407 tw_408 tw_409 tw_5 tw_410 pd_Que_close ⟨⟨hR.1, hR.2⟩, rfl, rfl, Nat.zero_le _, Nat.zero_le _⟩ (by omega) rfl (eB_Que hi (by omega)) rfl (Nat.le_of_ble_eq_true rfl) rfl ?_
    refine z_iadd C d_Nod_reset_20 ?_
    refine z_istore_n C d_Nod_reset_21 rfl (by decide) [(1, .int (a + (σ.1 34 i k 0))), (2, .int (nI k)), (0, .ref (b + (10 + 22 * i)))] rfl ?_
    refine z_aload_n C d_Nod_reset_22 rfl 2 rfl ?_
    refine gB_Nod_actions C d_Nod_reset_23 tw_136 hi ?_
    refine z_iload_n C d_Nod_reset_26 rfl 1 rfl ?_
    refine rB_acts C (j := k) d_Nod_reset_27 hi rfl (by omega) ?_
    refine z_iconst C (v := -1) d_Nod_reset_28 (by decide) ?_
    refine pB_Act_kind C d_Nod_reset_29 tw_119 hi (by omega) ?_
    refine z_iinc C d_Nod_reset_32 1 rfl (v := (nI (k + 1))) (by rw [← nI_1]; rfl) (by decide) [(2, .int (nI (k + 1))), (1, .int (a + (σ.1 34 i k 0))), (0, .ref (b + (10 + 22 * i)))] rfl ?_
    refine z_goto C 4 d_Nod_reset_35 (by decide) ?_
    exact ih (k + 1) (by omega) _ _ kk
set_option maxRecDepth 100000 in
set_option maxHeartbeats 4000000 in
theorem lp_Nod_reset2 (l : Launch) (D : va_G) (ca : Nat → ClassId) (b : Nat) {R : Room} {X : Zx} {y0 : MethodName} {c0 : ByteArray} {n0 : Nat} {r0 : Option FieldType} (C : Cs D ca b_Nod_reset 3 "RobotBus$Node" (Cond.code y0 c0 n0 r0) X) {i : Nat} (hi : i < 6) {a : Int32} : ∀ m k, k + m = 4 → ∀ (σ : Sg), Zs l D ca SB b 182 R 3 X (nR2 i m k σ) 58 [(2, .int (nI 4)), (1, .int a), (0, .ref (b + (10 + 22 * i)))] [] → Zs l D ca SB b 182 R 3 X σ 40 [(2, .int (nI k)), (1, .int a), (0, .ref (b + (10 + 22 * i)))] [] := by
  intro m
  induction m with
  | zero =>
    intro k hk σ kk
    have hk6 : k = 4 := by omega
    subst hk6
    refine z_iload_n C d_Nod_reset_40 rfl 0 rfl ?_
    refine z_iconst C (v := 4) d_Nod_reset_41 (by decide) ?_
    refine z_icmp_ge C 58 d_Nod_reset_42 (by decide) (fun h42 => ?_) (fun h42 => False.elim (h42 (by decide)))
    exact kk
  | succ m ih =>
    intro k hk σ kk
    refine z_iload_n C d_Nod_reset_40 rfl 0 rfl ?_
    refine z_iconst C (v := 4) d_Nod_reset_41 (by decide) ?_
    refine z_icmp_ge C 58 d_Nod_reset_42 (by decide) (fun h42 => False.elim (nI_ge (a := k) (b := 4) (by omega) (by decide) h42)) (fun h42 => ?_)
    refine z_aload_n C d_Nod_reset_45 rfl 2 rfl ?_
    refine gB_Nod_variables C d_Nod_reset_46 tw_132 hi ?_
    refine z_iload_n C d_Nod_reset_49 rfl 0 rfl ?_
    refine z_iconst C (v := 0) d_Nod_reset_50 (by decide) ?_
    refine stB_vars C (q := k) d_Nod_reset_51 hi rfl (by omega) ?_
    refine z_iinc C d_Nod_reset_52 0 rfl (v := (nI (k + 1))) (by rw [← nI_1]; rfl) (by decide) [(2, .int (nI (k + 1))), (1, .int a), (0, .ref (b + (10 + 22 * i)))] rfl ?_
    refine z_goto C 40 d_Nod_reset_55 (by decide) ?_
    exact ih (k + 1) (by omega) _ kk
set_option maxRecDepth 100000 in
set_option maxHeartbeats 4000000 in
/-- Node.reset -/
theorem c_Nod_reset (l : Launch) (D : va_G) (ca : Nat → ClassId) (b : Nat) (σ : Sg) {i : Nat} (hi : i < 6) : CtI l D ca SB b 182 y_Nod_reset w_Nod_reset (rmN 1 21) σ [.ref (b + (10 + 22 * i))] (fun r σ' => r = (nR1 i 6 0 σ 0).2 ∧ σ' = nRst σ i) := by
  refine ct_i "RobotBus$Node" [(0, .ref (b + (10 + 22 * i)))] (by decide) rfl (Nat.le_of_ble_eq_true rfl) rfl (fun X C hret => ?_)
  refine z_iconst C (v := 0) d_Nod_reset_0 (by decide) ?_
  refine z_istore_n C d_Nod_reset_1 rfl (by decide) [(1, .int 0), (0, .ref (b + (10 + 22 * i)))] rfl ?_
  refine z_iconst C (v := 0) d_Nod_reset_2 (by decide) ?_
  refine z_istore_n C d_Nod_reset_3 rfl (by decide) [(2, .int 0), (1, .int 0), (0, .ref (b + (10 + 22 * i)))] rfl ?_
  refine lp_Nod_reset1 l D ca b ⟨by decide, by decide⟩ C hi 6 0 rfl σ 0 ?_
  refine z_iconst C (v := 0) d_Nod_reset_38 (by decide) ?_
  refine z_istore_n C d_Nod_reset_39 rfl (by decide) [(2, .int 0), (1, .int (nR1 i 6 0 σ 0).2), (0, .ref (b + (10 + 22 * i)))] rfl ?_
  refine lp_Nod_reset2 l D ca b C hi 4 0 rfl _ ?_
  refine z_aload_n C d_Nod_reset_58 rfl 2 rfl ?_
  refine z_iconst C (v := 0) d_Nod_reset_59 (by decide) ?_
  refine pB_Nod_present C d_Nod_reset_60 tw_138 hi (by decide) ?_
  refine z_aload_n C d_Nod_reset_63 rfl 2 rfl ?_
  refine z_iconst C (v := 0) d_Nod_reset_64 (by decide) ?_
  refine pB_Nod_firstLookedAt C d_Nod_reset_65 tw_140 hi ?_
  refine z_iload_n C d_Nod_reset_68 rfl 1 rfl ?_
  exact hret _ _ _ _ d_Nod_reset_69 ⟨rfl, rfl⟩
/-! Frame -/
def fBeh (σ : Sg) (i z : Nat) (w : Int32) : Int32 := if z = 0 then 1 else if w ≤ σ.1 62 i 0 (z - 1) then 0 else 1
set_option maxRecDepth 100000 in
set_option maxHeartbeats 4000000 in
/-- whether a time is behind the last sample -/
theorem c_Frm_isBehindLast (l : Launch) (D : va_G) (ca : Nat → ClassId) (b : Nat) (σ : Sg) {i z : Nat} (hi : i < 6) (hz : σ.1 61 i 0 0 = nI z) (hz4 : z ≤ 4) (w : Int32) : CtI l D ca SB b 182 y_Frm_isBehindLast w_Frm_isBehindLast (rmN 0 0) σ [.ref (b + (152 + 5 * i)), .int w] (fun r σ' => r = fBeh σ i z w ∧ σ' = σ) := by
  refine ct_z "RobotBus$Frame" [(0, .ref (b + (152 + 5 * i))), (1, .int w)] (by decide) rfl (Nat.le_of_ble_eq_true rfl) rfl (fun X C hret => ?_)
  refine z_aload_n C d_Frm_isBehindLast_0 rfl 0 rfl ?_
  refine gB_Frm_size C d_Frm_isBehindLast_1 tw_218 hi ?_
  refine z_if_eq C 22 d_Frm_isBehindLast_4 (by decide) (fun h4 => ?_) (fun h4 => ?_)
  · rw [hz, ← nI_0, nI_eq (by omega) (by omega)] at h4
    refine z_iconst C (v := 1) d_Frm_isBehindLast_22 (by decide) ?_
    refine z_goto C 27 d_Frm_isBehindLast_23 (by decide) ?_
    exact hret _ _ _ _ d_Frm_isBehindLast_27 (by decide) ⟨by simp [fBeh, h4, *], rfl⟩
  · rw [hz, ← nI_0, nI_eq (by omega) (by omega)] at h4
    refine z_iload_n C d_Frm_isBehindLast_7 rfl 1 rfl ?_
    refine z_aload_n C d_Frm_isBehindLast_8 rfl 0 rfl ?_
    refine gB_Frm_times C d_Frm_isBehindLast_9 tw_209 hi ?_
    refine z_aload_n C d_Frm_isBehindLast_12 rfl 0 rfl ?_
    refine gB_Frm_size C d_Frm_isBehindLast_13 tw_218 hi ?_
    refine z_iconst C (v := 1) d_Frm_isBehindLast_16 (by decide) ?_
    refine z_isub C d_Frm_isBehindLast_17 ?_
    refine z_ri (x' := nI (z - 1)) (by rw [hz]; exact pk_sub (b := 1) (by omega)) ?_
    refine lB_frT C (q := (z - 1)) d_Frm_isBehindLast_18 hi rfl (by omega) ?_
    refine z_icmp_le C 26 d_Frm_isBehindLast_19 (by decide) (fun h19 => ?_) (fun h19 => ?_)
    · refine z_iconst C (v := 0) d_Frm_isBehindLast_26 (by decide) ?_
      exact hret _ _ _ _ d_Frm_isBehindLast_27 (by decide) ⟨by simp [fBeh, h4, *], rfl⟩
    · refine z_iconst C (v := 1) d_Frm_isBehindLast_22 (by decide) ?_
      refine z_goto C 27 d_Frm_isBehindLast_23 (by decide) ?_
      exact hret _ _ _ _ d_Frm_isBehindLast_27 (by decide) ⟨by simp [fBeh, h4, *], rfl⟩
def fDrop (σ : Sg) (i z : Nat) : Sg := upA (upA (upA (upA (us σ 61 i 0 (nI (z - 1))) (62, i, 0) (va_cpy (σ.1 62 i 0) (σ.1 62 i 0) 1 0 (z - 1))) (63, i, 0) (va_cpy (σ.1 63 i 0) (σ.1 63 i 0) 1 0 (z - 1))) (64, i, 0) (va_cpy (σ.1 64 i 0) (σ.1 64 i 0) 1 0 (z - 1))) (65, i, 0) (va_cpy (σ.1 65 i 0) (σ.1 65 i 0) 1 0 (z - 1))
set_option maxRecDepth 100000 in
set_option maxHeartbeats 4000000 in
/-- the first sample goes -/
theorem c_Frm_dropFirst (l : Launch) (D : va_G) (ca : Nat → ClassId) (b : Nat) (σ : Sg) {i z : Nat} (hi : i < 6) (hz : σ.1 61 i 0 0 = nI z) (hz4 : z ≤ 4) (hz1 : 1 ≤ z) : CtV l D ca SB b 182 y_Frm_dropFirst w_Frm_dropFirst (rmN 1 18) σ [.ref (b + (152 + 5 * i))] (fun σ' => σ' = fDrop σ i z) := by
  refine ct_v "RobotBus$Frame" [(0, .ref (b + (152 + 5 * i)))] (by decide) rfl (Nat.le_of_ble_eq_true rfl) rfl (fun X C hret => ?_)
  refine z_aload_n C d_Frm_dropFirst_0 rfl 0 rfl ?_
  refine z_dup C d_Frm_dropFirst_1 rfl ?_
  refine gB_Frm_size C d_Frm_dropFirst_2 tw_218 hi ?_
  refine z_iconst C (v := 1) d_Frm_dropFirst_5 (by decide) ?_
  refine z_isub C d_Frm_dropFirst_6 ?_
  refine z_ri (x' := nI (z - 1)) (by rw [hz]; exact pk_sub (b := 1) (by omega)) ?_
  refine pB_Frm_size C d_Frm_dropFirst_7 tw_218 hi ?_
  refine z_aload_n C d_Frm_dropFirst_10 rfl 0 rfl ?_
  refine gB_Frm_times C d_Frm_dropFirst_11 tw_209 hi ?_
  refine z_iconst C (v := 1) d_Frm_dropFirst_14 (by decide) ?_
  refine z_aload_n C d_Frm_dropFirst_15 rfl 0 rfl ?_
  refine gB_Frm_times C d_Frm_dropFirst_16 tw_209 hi ?_
  refine z_iconst C (v := 0) d_Frm_dropFirst_19 (by decide) ?_
  refine z_aload_n C d_Frm_dropFirst_20 rfl 0 rfl ?_
  refine gB_Frm_size C d_Frm_dropFirst_21 tw_218 hi ?_
  refine z_copyi C d_Frm_dropFirst_24 (List.mem_cons_of_mem _ tw_690) (List.mem_cons_of_mem _ tw_447) (List.mem_cons_of_mem _ tw_446) (List.mem_cons_of_mem _ tw_18) 0 rfl (by omega) rfl (eB_frT hi) (by decide) (s0 := 1) (d0 := 0) (m0 := z - 1) (by decide) (by decide) (by simp [us, upA]) (by omega) (by omega) (by decide) (Nat.le_of_ble_eq_true rfl) ?_
  refine z_map (uB_frT hi _) ?_
  refine z_aload_n C d_Frm_dropFirst_27 rfl 0 rfl ?_
  refine gB_Frm_xs C d_Frm_dropFirst_28 tw_210 hi ?_
  refine z_iconst C (v := 1) d_Frm_dropFirst_31 (by decide) ?_
  refine z_aload_n C d_Frm_dropFirst_32 rfl 0 rfl ?_
  refine gB_Frm_xs C d_Frm_dropFirst_33 tw_210 hi ?_
  refine z_iconst C (v := 0) d_Frm_dropFirst_36 (by decide) ?_
  refine z_aload_n C d_Frm_dropFirst_37 rfl 0 rfl ?_
  refine gB_Frm_size C d_Frm_dropFirst_38 tw_218 hi ?_
  refine z_copyi C d_Frm_dropFirst_41 (List.mem_cons_of_mem _ tw_690) (List.mem_cons_of_mem _ tw_447) (List.mem_cons_of_mem _ tw_446) (List.mem_cons_of_mem _ tw_18) 0 rfl (by omega) rfl (eB_frX hi) (by decide) (s0 := 1) (d0 := 0) (m0 := z - 1) (by decide) (by decide) (by simp [us, upA]) (by omega) (by omega) (by decide) (Nat.le_of_ble_eq_true rfl) ?_
  refine z_map (uB_frX hi _) ?_
  refine z_aload_n C d_Frm_dropFirst_44 rfl 0 rfl ?_
  refine gB_Frm_ys C d_Frm_dropFirst_45 tw_212 hi ?_
  refine z_iconst C (v := 1) d_Frm_dropFirst_48 (by decide) ?_
  refine z_aload_n C d_Frm_dropFirst_49 rfl 0 rfl ?_
  refine gB_Frm_ys C d_Frm_dropFirst_50 tw_212 hi ?_
  refine z_iconst C (v := 0) d_Frm_dropFirst_53 (by decide) ?_
  refine z_aload_n C d_Frm_dropFirst_54 rfl 0 rfl ?_
  refine gB_Frm_size C d_Frm_dropFirst_55 tw_218 hi ?_
  refine z_copyi C d_Frm_dropFirst_58 (List.mem_cons_of_mem _ tw_690) (List.mem_cons_of_mem _ tw_447) (List.mem_cons_of_mem _ tw_446) (List.mem_cons_of_mem _ tw_18) 0 rfl (by omega) rfl (eB_frY hi) (by decide) (s0 := 1) (d0 := 0) (m0 := z - 1) (by decide) (by decide) (by simp [us, upA]) (by omega) (by omega) (by decide) (Nat.le_of_ble_eq_true rfl) ?_
  refine z_map (uB_frY hi _) ?_
  refine z_aload_n C d_Frm_dropFirst_61 rfl 0 rfl ?_
  refine gB_Frm_turns C d_Frm_dropFirst_62 tw_214 hi ?_
  refine z_iconst C (v := 1) d_Frm_dropFirst_65 (by decide) ?_
  refine z_aload_n C d_Frm_dropFirst_66 rfl 0 rfl ?_
  refine gB_Frm_turns C d_Frm_dropFirst_67 tw_214 hi ?_
  refine z_iconst C (v := 0) d_Frm_dropFirst_70 (by decide) ?_
  refine z_aload_n C d_Frm_dropFirst_71 rfl 0 rfl ?_
  refine gB_Frm_size C d_Frm_dropFirst_72 tw_218 hi ?_
  refine z_copyi C d_Frm_dropFirst_75 (List.mem_cons_of_mem _ tw_690) (List.mem_cons_of_mem _ tw_447) (List.mem_cons_of_mem _ tw_446) (List.mem_cons_of_mem _ tw_18) 0 rfl (by omega) rfl (eB_frU hi) (by decide) (s0 := 1) (d0 := 0) (m0 := z - 1) (by decide) (by decide) (by simp [us, upA]) (by omega) (by omega) (by decide) (Nat.le_of_ble_eq_true rfl) ?_
  refine z_map (uB_frU hi _) ?_
  exact hret _ _ _ d_Frm_dropFirst_78 (by simp [fDrop, us, upA])
def fPut (σ : Sg) (i z : Nat) (w x y u : Int32) : Sg := us (upA (upA (upA (upA σ (62, i, 0) (upd (σ.1 62 i 0) z w)) (63, i, 0) (upd (σ.1 63 i 0) z x)) (64, i, 0) (upd (σ.1 64 i 0) z y)) (65, i, 0) (upd (σ.1 65 i 0) z u)) 61 i 0 (nI (z + 1))
def fApp (σ : Sg) (i z : Nat) (w x y u : Int32) : Sg := if z = 4 then fPut (fDrop σ i 4) i 3 w x y u else fPut σ i z w x y u
theorem fDrop_sz {σ : Sg} {i z : Nat} : (fDrop σ i z).1 61 i 0 0 = nI (z - 1) := by simp [fDrop, us, upA]
set_option maxRecDepth 100000 in
set_option maxHeartbeats 4000000 in
/-- one more sample -/
theorem c_Frm_append (l : Launch) (D : va_G) (ca : Nat → ClassId) (b : Nat) (σ : Sg) {i z : Nat} (hi : i < 6) (hz : σ.1 61 i 0 0 = nI z) (hz4 : z ≤ 4) (w x y u : Int32) : CtV l D ca SB b 182 y_Frm_append w_Frm_append (rmN 2 38) σ [.ref (b + (152 + 5 * i)), .int w, .int x, .int y, .int u] (fun σ' => σ' = fApp σ i z w x y u) := by
  refine ct_v "RobotBus$Frame" [(0, .ref (b + (152 + 5 * i))), (1, .int w), (2, .int x), (3, .int y), (4, .int u)] (by decide) rfl (Nat.le_of_ble_eq_true rfl) rfl (fun X C hret => ?_)
  refine z_aload_n C d_Frm_append_0 rfl 0 rfl ?_
  refine gB_Frm_size C d_Frm_append_1 tw_218 hi ?_
  refine z_iconst C (v := 4) d_Frm_append_4 (by decide) ?_
  refine z_icmp_ne C 12 d_Frm_append_5 (by decide) (fun h5 => ?_) (fun h5 => ?_)
  · rw [hz, show (4 : Int32) = nI 4 by decide, nI_eq (by omega) (by omega)] at h5
    refine z_aload_n C d_Frm_append_12 rfl 0 rfl ?_
    refine gB_Frm_times C d_Frm_append_13 tw_209 hi ?_
    refine z_aload_n C d_Frm_append_16 rfl 0 rfl ?_
    refine gB_Frm_size C d_Frm_append_17 tw_218 hi ?_
    refine z_ri (x' := nI z) (hz) ?_
    refine z_iload_n C d_Frm_append_20 rfl 1 rfl ?_
    refine stB_frT C (q := z) d_Frm_append_21 hi rfl (by omega) ?_
    refine z_aload_n C d_Frm_append_22 rfl 0 rfl ?_
    refine gB_Frm_xs C d_Frm_append_23 tw_210 hi ?_
    refine z_aload_n C d_Frm_append_26 rfl 0 rfl ?_
    refine gB_Frm_size C d_Frm_append_27 tw_218 hi ?_
    refine z_ri (x' := nI z) (by simp only [upA_ne (show ¬ (61, i, 0) = (62, i, 0) by simp), upA_ne (show ¬ (61, i, 0) = (63, i, 0) by simp), upA_ne (show ¬ (61, i, 0) = (64, i, 0) by simp)]; exact hz) ?_
    refine z_iload_n C d_Frm_append_30 rfl 2 rfl ?_
    refine stB_frX C (q := z) d_Frm_append_31 hi rfl (by omega) ?_
    refine z_aload_n C d_Frm_append_32 rfl 0 rfl ?_
    refine gB_Frm_ys C d_Frm_append_33 tw_212 hi ?_
    refine z_aload_n C d_Frm_append_36 rfl 0 rfl ?_
    refine gB_Frm_size C d_Frm_append_37 tw_218 hi ?_
    refine z_ri (x' := nI z) (by simp only [upA_ne (show ¬ (61, i, 0) = (62, i, 0) by simp), upA_ne (show ¬ (61, i, 0) = (63, i, 0) by simp), upA_ne (show ¬ (61, i, 0) = (64, i, 0) by simp)]; exact hz) ?_
    refine z_iload_n C d_Frm_append_40 rfl 3 rfl ?_
    refine stB_frY C (q := z) d_Frm_append_41 hi rfl (by omega) ?_
    refine z_aload_n C d_Frm_append_42 rfl 0 rfl ?_
    refine gB_Frm_turns C d_Frm_append_43 tw_214 hi ?_
    refine z_aload_n C d_Frm_append_46 rfl 0 rfl ?_
    refine gB_Frm_size C d_Frm_append_47 tw_218 hi ?_
    refine z_ri (x' := nI z) (by simp only [upA_ne (show ¬ (61, i, 0) = (62, i, 0) by simp), upA_ne (show ¬ (61, i, 0) = (63, i, 0) by simp), upA_ne (show ¬ (61, i, 0) = (64, i, 0) by simp)]; exact hz) ?_
    refine z_iload C d_Frm_append_50 4 rfl ?_
    refine stB_frU C (q := z) d_Frm_append_52 hi rfl (by omega) ?_
    refine z_aload_n C d_Frm_append_53 rfl 0 rfl ?_
    refine z_dup C d_Frm_append_54 rfl ?_
    refine gB_Frm_size C d_Frm_append_55 tw_218 hi ?_
    refine z_iconst C (v := 1) d_Frm_append_58 (by decide) ?_
    refine z_iadd C d_Frm_append_59 ?_
    refine z_ri (x' := nI (z + 1)) (by simp only [upA_ne (show ¬ (61, i, 0) = (62, i, 0) by simp), upA_ne (show ¬ (61, i, 0) = (63, i, 0) by simp), upA_ne (show ¬ (61, i, 0) = (64, i, 0) by simp), upA_ne (show ¬ (61, i, 0) = (65, i, 0) by simp)]; rw [hz]; exact nI_add _ 1) ?_
    refine pB_Frm_size C d_Frm_append_60 tw_218 hi ?_
    exact hret _ _ _ d_Frm_append_63 (by simp [fApp, fPut, h5, upA_ne])
  · rw [hz, show (4 : Int32) = nI 4 by decide, nI_eq (by omega) (by omega)] at h5
    subst h5
    refine z_aload_n C d_Frm_append_8 rfl 0 rfl ?_
    refine zf_Vv C d_Frm_append_9 (c_Frm_dropFirst l D ca b σ hi hz hz4 (by decide)) tw_686 tw_687 tw_688 tw_9 tw_689 pd_Frm_dropFirst ⟨⟨by decide, by decide⟩, rfl, rfl, by decide, by decide⟩ (by omega) rfl (eB_Frm hi) rfl (Nat.le_of_ble_eq_true rfl) rfl ?_
    refine z_aload_n C d_Frm_append_12 rfl 0 rfl ?_
    refine gB_Frm_times C d_Frm_append_13 tw_209 hi ?_
    refine z_aload_n C d_Frm_append_16 rfl 0 rfl ?_
    refine gB_Frm_size C d_Frm_append_17 tw_218 hi ?_
    refine z_ri (x' := nI 3) (fDrop_sz) ?_
    refine z_iload_n C d_Frm_append_20 rfl 1 rfl ?_
    refine stB_frT C (q := 3) d_Frm_append_21 hi rfl (by omega) ?_
    refine z_aload_n C d_Frm_append_22 rfl 0 rfl ?_
    refine gB_Frm_xs C d_Frm_append_23 tw_210 hi ?_
    refine z_aload_n C d_Frm_append_26 rfl 0 rfl ?_
    refine gB_Frm_size C d_Frm_append_27 tw_218 hi ?_
    refine z_ri (x' := nI 3) (by simp only [upA_ne (show ¬ (61, i, 0) = (62, i, 0) by simp), upA_ne (show ¬ (61, i, 0) = (63, i, 0) by simp), upA_ne (show ¬ (61, i, 0) = (64, i, 0) by simp)]; exact fDrop_sz) ?_
    refine z_iload_n C d_Frm_append_30 rfl 2 rfl ?_
    refine stB_frX C (q := 3) d_Frm_append_31 hi rfl (by omega) ?_
    refine z_aload_n C d_Frm_append_32 rfl 0 rfl ?_
    refine gB_Frm_ys C d_Frm_append_33 tw_212 hi ?_
    refine z_aload_n C d_Frm_append_36 rfl 0 rfl ?_
    refine gB_Frm_size C d_Frm_append_37 tw_218 hi ?_
    refine z_ri (x' := nI 3) (by simp only [upA_ne (show ¬ (61, i, 0) = (62, i, 0) by simp), upA_ne (show ¬ (61, i, 0) = (63, i, 0) by simp), upA_ne (show ¬ (61, i, 0) = (64, i, 0) by simp)]; exact fDrop_sz) ?_
    refine z_iload_n C d_Frm_append_40 rfl 3 rfl ?_
    refine stB_frY C (q := 3) d_Frm_append_41 hi rfl (by omega) ?_
    refine z_aload_n C d_Frm_append_42 rfl 0 rfl ?_
    refine gB_Frm_turns C d_Frm_append_43 tw_214 hi ?_
    refine z_aload_n C d_Frm_append_46 rfl 0 rfl ?_
    refine gB_Frm_size C d_Frm_append_47 tw_218 hi ?_
    refine z_ri (x' := nI 3) (by simp only [upA_ne (show ¬ (61, i, 0) = (62, i, 0) by simp), upA_ne (show ¬ (61, i, 0) = (63, i, 0) by simp), upA_ne (show ¬ (61, i, 0) = (64, i, 0) by simp)]; exact fDrop_sz) ?_
    refine z_iload C d_Frm_append_50 4 rfl ?_
    refine stB_frU C (q := 3) d_Frm_append_52 hi rfl (by omega) ?_
    refine z_aload_n C d_Frm_append_53 rfl 0 rfl ?_
    refine z_dup C d_Frm_append_54 rfl ?_
    refine gB_Frm_size C d_Frm_append_55 tw_218 hi ?_
    refine z_iconst C (v := 1) d_Frm_append_58 (by decide) ?_
    refine z_iadd C d_Frm_append_59 ?_
    refine z_ri (x' := nI (3 + 1)) (by simp only [upA_ne (show ¬ (61, i, 0) = (62, i, 0) by simp), upA_ne (show ¬ (61, i, 0) = (63, i, 0) by simp), upA_ne (show ¬ (61, i, 0) = (64, i, 0) by simp), upA_ne (show ¬ (61, i, 0) = (65, i, 0) by simp)]; rw [fDrop_sz]; exact nI_add _ 1) ?_
    refine pB_Frm_size C d_Frm_append_60 tw_218 hi ?_
    exact hret _ _ _ d_Frm_append_63 (by simp [fApp, fPut, upA_ne])
def fIx (σ : Sg) (i : Nat) (w : Int32) : Nat → Nat → Int32 → Int32
  | 0, _, a => a
  | m + 1, k, a => if w < σ.1 62 i 0 k then a else fIx σ i w m (k + 1) (nI k)
def fIdx (σ : Sg) (i z : Nat) (w : Int32) : Int32 := if fBeh σ i z w = 0 then fIx σ i w z 0 (-1) else -1
set_option maxRecDepth 100000 in
set_option maxHeartbeats 4000000 in
theorem lp_Frm_indexAt (l : Launch) (D : va_G) (ca : Nat → ClassId) (b : Nat) {R : Room} {X : Zx} {y0 : MethodName} {c0 : ByteArray} {n0 : Nat} {r0 : Option FieldType} (C : Cs D ca b_Frm_indexAt 4 "RobotBus$Frame" (Cond.code y0 c0 n0 r0) X) (σ : Sg) {i z : Nat} (hi : i < 6) (hz : σ.1 61 i 0 0 = nI z) (hz4 : z ≤ 4) (w v0 : Int32) (hret : ∀ (v : Int32) (σ' : Sg) (pc : Nat) (L' : List (Nat × Value)), decode b_Frm_indexAt pc = .ok (.ireturn, 1) → (v = v0 ∧ σ' = σ) → Zs l D ca SB b 182 R 4 X σ' pc L' [.int v]) : ∀ m k, k + m = z → ∀ a, v0 = fIx σ i w m k a → Zs l D ca SB b 182 R 4 X σ 14 [(3, .int (nI k)), (2, .int a), (0, .ref (b + (152 + 5 * i))), (1, .int w)] [] := by
  intro m
  induction m with
  | zero =>
    intro k hk a he
    have hk6 : k = z := by omega
    subst hk6
    refine z_iload_n C d_Frm_indexAt_14 rfl 0 rfl ?_
    refine z_aload_n C d_Frm_indexAt_15 rfl 2 rfl ?_
    refine gB_Frm_size C d_Frm_indexAt_16 tw_218 hi ?_
    refine z_ri (x' := nI k) hz ?_
    refine z_icmp_ge C 40 d_Frm_indexAt_19 (by decide) (fun h19 => ?_) (fun h19 => False.elim (h19 (nI_le (Nat.le_refl k) (by omega))))
    refine z_iload_n C d_Frm_indexAt_40 rfl 1 rfl ?_
    exact hret _ _ _ _ d_Frm_indexAt_41 ⟨he.symm, rfl⟩
  | succ m ih =>
    intro k hk a he
    refine z_iload_n C d_Frm_indexAt_14 rfl 0 rfl ?_
    refine z_aload_n C d_Frm_indexAt_15 rfl 2 rfl ?_
    refine gB_Frm_size C d_Frm_indexAt_16 tw_218 hi ?_
    refine z_ri (x' := nI z) hz ?_
    refine z_icmp_ge C 40 d_Frm_indexAt_19 (by decide) (fun h19 => False.elim (nI_ge (a := k) (b := z) (by omega) (by omega) h19)) (fun h19 => ?_)
    refine z_aload_n C d_Frm_indexAt_22 rfl 2 rfl ?_
    refine gB_Frm_times C d_Frm_indexAt_23 tw_209 hi ?_
    refine z_iload_n C d_Frm_indexAt_26 rfl 0 rfl ?_
    refine lB_frT C (q := k) d_Frm_indexAt_27 hi rfl (by omega) ?_
    refine z_iload_n C d_Frm_indexAt_28 rfl 3 rfl ?_
    refine z_icmp_gt C 40 d_Frm_indexAt_29 (by decide) (fun h29 => ?_) (fun h29 => ?_)
    · refine z_iload_n C d_Frm_indexAt_40 rfl 1 rfl ?_
      exact hret _ _ _ _ d_Frm_indexAt_41 ⟨by rw [he]; simp [fIx, h29], rfl⟩
    · refine z_iload_n C d_Frm_indexAt_32 rfl 0 rfl ?_
      refine z_istore_n C d_Frm_indexAt_33 rfl (by decide) [(2, .int (nI k)), (3, .int (nI k)), (0, .ref (b + (152 + 5 * i))), (1, .int w)] rfl ?_
      refine z_iinc C d_Frm_indexAt_34 1 rfl (v := (nI (k + 1))) (by rw [← nI_1]; rfl) (by decide) [(3, .int (nI (k + 1))), (2, .int (nI k)), (0, .ref (b + (152 + 5 * i))), (1, .int w)] rfl ?_
      refine z_goto C 14 d_Frm_indexAt_37 (by decide) ?_
      exact ih (k + 1) (by omega) _ (by rw [he]; simp [fIx, h29])
set_option maxRecDepth 100000 in
set_option maxHeartbeats 4000000 in
/-- the last sample not behind a time -/
theorem c_Frm_indexAt (l : Launch) (D : va_G) (ca : Nat → ClassId) (b : Nat) (σ : Sg) {i z : Nat} (hi : i < 6) (hz : σ.1 61 i 0 0 = nI z) (hz4 : z ≤ 4) (w : Int32) : CtI l D ca SB b 182 y_Frm_indexAt w_Frm_indexAt (rmN 1 21) σ [.ref (b + (152 + 5 * i)), .int w] (fun r σ' => r = fIdx σ i z w ∧ σ' = σ) := by
  refine ct_i "RobotBus$Frame" [(0, .ref (b + (152 + 5 * i))), (1, .int w)] (by decide) rfl (Nat.le_of_ble_eq_true rfl) rfl (fun X C hret => ?_)
  refine z_aload_n C d_Frm_indexAt_0 rfl 0 rfl ?_
  refine z_iload_n C d_Frm_indexAt_1 rfl 1 rfl ?_
  refine zf_Vi C d_Frm_indexAt_2 (c_Frm_isBehindLast l D ca b σ hi hz hz4 w) tw_708 tw_678 tw_679 tw_9 tw_680 pd_Frm_isBehindLast ⟨⟨by decide, by decide⟩, rfl, rfl, by decide, by decide⟩ (by omega) rfl (eB_Frm hi) rfl (Nat.le_of_ble_eq_true rfl) rfl ?_
  refine z_if_eq C 10 d_Frm_indexAt_5 (by decide) (fun h5 => ?_) (fun h5 => ?_)
  · refine z_iconst C (v := -1) d_Frm_indexAt_10 (by decide) ?_
    refine z_istore_n C d_Frm_indexAt_11 rfl (by decide) [(2, .int (-1)), (0, .ref (b + (152 + 5 * i))), (1, .int w)] rfl ?_
    refine z_iconst C (v := 0) d_Frm_indexAt_12 (by decide) ?_
    refine z_istore_n C d_Frm_indexAt_13 rfl (by decide) [(3, .int 0), (2, .int (-1)), (0, .ref (b + (152 + 5 * i))), (1, .int w)] rfl ?_
    exact lp_Frm_indexAt l D ca b C σ hi hz hz4 w _ hret z 0 (by omega) (-1) (by simp [fIdx, h5])
  · refine z_iconst C (v := -1) d_Frm_indexAt_8 (by decide) ?_
    exact hret _ _ _ _ d_Frm_indexAt_9 ⟨by simp [fIdx, h5], rfl⟩
/-! Point -/
def pTurn : Nat → Sg → Sg
  | 0, σ => σ
  | m + 1, σ => pTurn m (us (us σ 20 0 0 (-(σ.1 21 0 0 0))) 21 0 0 (σ.1 20 0 0 0))
set_option maxRecDepth 100000 in
set_option maxHeartbeats 4000000 in
theorem lp_Pnt_turnBy (l : Launch) (D : va_G) (ca : Nat → ClassId) (b : Nat) {R : Room} {X : Zx} {y0 : MethodName} {c0 : ByteArray} {n0 : Nat} {r0 : Option FieldType} (C : Cs D ca b_Pnt_turnBy 4 "RobotBus$Point" (Cond.code y0 c0 n0 r0) X) {u : Nat} (hu : u ≤ 3) (σ0 : Sg) (hret : ∀ (σ' : Sg) (pc : Nat) (L' : List (Nat × Value)), decode b_Pnt_turnBy pc = .ok (.return_, 1) → σ' = σ0 → Zs l D ca SB b 182 R 4 X σ' pc L' []) : ∀ m k, k + m = u → ∀ (σ : Sg), σ0 = pTurn m σ → Zs l D ca SB b 182 R 4 X σ 2 [(2, .int (nI k)), (0, .ref (b + 9)), (1, .int (nI u))] [] := by
  intro m
  induction m with
  | zero =>
    intro k hk σ he
    have hk6 : k = u := by omega
    subst hk6
    refine z_iload_n C d_Pnt_turnBy_2 rfl 0 rfl ?_
    refine z_iload_n C d_Pnt_turnBy_3 rfl 2 rfl ?_
    refine z_icmp_ge C 32 d_Pnt_turnBy_4 (by decide) (fun h4 => ?_) (fun h4 => False.elim (h4 (nI_le (Nat.le_refl k) (by omega))))
    exact hret _ _ _ d_Pnt_turnBy_32 he.symm
  | succ m ih =>
    intro k hk σ he
    refine z_iload_n C d_Pnt_turnBy_2 rfl 0 rfl ?_
    refine z_iload_n C d_Pnt_turnBy_3 rfl 2 rfl ?_
    refine z_icmp_ge C 32 d_Pnt_turnBy_4 (by decide) (fun h4 => False.elim (nI_ge (a := k) (b := u) (by omega) (by omega) h4)) (fun h4 => ?_)
    refine z_aload_n C d_Pnt_turnBy_7 rfl 1 rfl ?_
    refine gB_Pnt_x C d_Pnt_turnBy_8 tw_78  ?_
    refine z_istore_n C d_Pnt_turnBy_11 rfl (by decide) [(3, .int (σ.1 20 0 0 0)), (2, .int (nI k)), (0, .ref (b + 9)), (1, .int (nI u))] rfl ?_
    refine z_aload_n C d_Pnt_turnBy_12 rfl 2 rfl ?_
    refine z_aload_n C d_Pnt_turnBy_13 rfl 2 rfl ?_
    refine gB_Pnt_y C d_Pnt_turnBy_14 tw_80  ?_
    refine z_ineg C d_Pnt_turnBy_17 ?_
    refine pB_Pnt_x C d_Pnt_turnBy_18 tw_78  ?_
    refine z_aload_n C d_Pnt_turnBy_21 rfl 2 rfl ?_
    refine z_iload_n C d_Pnt_turnBy_22 rfl 0 rfl ?_
    refine pB_Pnt_y C d_Pnt_turnBy_23 tw_80  ?_
    refine z_iinc C d_Pnt_turnBy_26 1 rfl (v := (nI (k + 1))) (by rw [← nI_1]; rfl) (by decide) [(2, .int (nI (k + 1))), (3, .int (σ.1 20 0 0 0)), (0, .ref (b + 9)), (1, .int (nI u))] rfl ?_
    refine z_goto C 2 d_Pnt_turnBy_29 (by decide) ?_
    refine z_loc [0, 2, 3] rfl ?_
    exact ih (k + 1) (by omega) _ he
set_option maxRecDepth 100000 in
set_option maxHeartbeats 4000000 in
/-- turns the point -/
theorem c_Pnt_turnBy (l : Launch) (D : va_G) (ca : Nat → ClassId) (b : Nat) (σ : Sg) {u : Nat} (hu : u ≤ 3) : CtV l D ca SB b 182 y_Pnt_turnBy w_Pnt_turnBy (rmN 0 0) σ [.ref (b + 9), .int (nI u)] (fun σ' => σ' = pTurn u σ) := by
  refine ct_v "RobotBus$Point" [(0, .ref (b + 9)), (1, .int (nI u))] (by decide) rfl (Nat.le_of_ble_eq_true rfl) rfl (fun X C hret => ?_)
  refine z_iconst C (v := 0) d_Pnt_turnBy_0 (by decide) ?_
  refine z_istore_n C d_Pnt_turnBy_1 rfl (by decide) [(2, .int 0), (0, .ref (b + 9)), (1, .int (nI u))] rfl ?_
  exact lp_Pnt_turnBy l D ca b C hu _ hret u 0 (by omega) σ rfl
