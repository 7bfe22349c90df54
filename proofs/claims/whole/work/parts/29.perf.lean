/-! perform -/
def prf (σ : Sg) (i t : Nat) (v : Int32) : Sg :=
  if σ.1 36 i t 0 = 0 then upA σ (32, i, 0) (upd (σ.1 32 i 0) (aA σ i t) v)
  else if σ.1 36 i t 0 = 1 then upA σ (32, i, 0) (upd (σ.1 32 i 0) (aA σ i t) (σ.1 32 i 0 (aA σ i t) + v))
  else if σ.1 36 i t 0 = 2 then sSend σ (aA σ i t) (v * σ.1 38 i t 0) (nI i)
  else if σ.1 36 i t 0 = 3 then (if (askF σ (aA σ i t) v).2 = 0 then upA (askF σ (aA σ i t) v).1 (32, i, 0) (upd ((askF σ (aA σ i t) v).1.1 32 i 0) (aB σ i t) ((askF σ (aA σ i t) v).1.1 6 0 0 0)) else us (askF σ (aA σ i t) v).1 5 0 0 ((askF σ (aA σ i t) v).1.1 5 0 0 0 + 1))
  else if σ.1 36 i t 0 = 4 then sSend σ (aA σ i t) (σ.1 32 i 0 (aB σ i t)) (nI i)
  else σ
set_option maxRecDepth 100000 in
set_option maxHeartbeats 4000000 in
/-- does an action -/
theorem c_Bus_perform (l : Launch) (D : va_G) (ca : Nat → ClassId) (b : Nat) (σ : Sg) {i t : Nat} (hi : i < 6) (ht : t < 6) (v : Int32) (hB : BI σ) : CtV l D ca SB b 182 y_Bus_perform w_Bus_perform (rmN 4 90) σ [.ref (b + 0), .int (nI i), .ref (b + (16 + 22 * i + 3 * t)), .int v] (fun σ' => σ' = prf σ i t v) := by
  refine ct_v "RobotBus" [(0, .ref (b + 0)), (1, .int (nI i)), (2, .ref (b + (16 + 22 * i + 3 * t))), (3, .int v)] (by decide) rfl (Nat.le_of_ble_eq_true rfl) rfl (fun X C hret => ?_)
  refine z_aload_n C d_Bus_perform_0 rfl 0 rfl ?_
  refine gB_Bus_nodes C d_Bus_perform_1 tw_233  ?_
  refine z_iload_n C d_Bus_perform_4 rfl 1 rfl ?_
  refine rB_nods C (j := i) d_Bus_perform_5  rfl hi ?_
  refine gB_Nod_variables C d_Bus_perform_6 tw_133 hi ?_
  refine z_astore C d_Bus_perform_9 (by decide) [(4, .ref (b + (11 + 22 * i))), (0, .ref (b + 0)), (1, .int (nI i)), (2, .ref (b + (16 + 22 * i + 3 * t))), (3, .int v)] rfl ?_
  refine z_aload_n C d_Bus_perform_11 rfl 3 rfl ?_
  refine gB_Act_kind C d_Bus_perform_12 tw_120 hi ht ?_
  by_cases q15_0 : (σ.1 36 i t 0) = 0
  · refine z_ri q15_0 ?_
    refine z_tableIn C 48 d_Bus_perform_15 (off := 33) (by decide) (by decide) (by decide) (by decide) ?_
    refine z_aload C d_Bus_perform_48 0 rfl ?_
    refine z_aload_n C d_Bus_perform_50 rfl 3 rfl ?_
    refine gB_Act_a C d_Bus_perform_51 tw_122 hi ht ?_
    have hA := (hB.2.2.2.1 i t hi ht).1 (Or.inl q15_0)
    refine z_ri (x' := nI (aA σ i t)) hA.1 ?_
    refine z_iload_n C d_Bus_perform_54 rfl 4 rfl ?_
    refine stB_vars C (q := (aA σ i t)) d_Bus_perform_55 hi rfl hA.2 ?_
    refine z_goto C 151 d_Bus_perform_56 (by decide) ?_
    exact hret _ _ _ d_Bus_perform_151 (by simp [prf, *])
  by_cases q15_1 : (σ.1 36 i t 0) = 1
  · refine z_ri q15_1 ?_
    refine z_tableIn C 59 d_Bus_perform_15 (off := 44) (by decide) (by decide) (by decide) (by decide) ?_
    refine z_aload C d_Bus_perform_59 0 rfl ?_
    refine z_aload_n C d_Bus_perform_61 rfl 3 rfl ?_
    refine gB_Act_a C d_Bus_perform_62 tw_122 hi ht ?_
    have hA := (hB.2.2.2.1 i t hi ht).1 (Or.inr q15_1)
    refine z_ri (x' := nI (aA σ i t)) hA.1 ?_
    refine z_dup2 C d_Bus_perform_65 rfl rfl ?_
    refine lB_vars C (q := (aA σ i t)) d_Bus_perform_66 hi rfl hA.2 ?_
    refine z_iload_n C d_Bus_perform_67 rfl 4 rfl ?_
    refine z_iadd C d_Bus_perform_68 ?_
    refine stB_vars C (q := (aA σ i t)) d_Bus_perform_69 hi rfl hA.2 ?_
    refine z_goto C 151 d_Bus_perform_70 (by decide) ?_
    exact hret _ _ _ d_Bus_perform_151 (by simp [prf, *])
  by_cases q15_2 : (σ.1 36 i t 0) = 2
  · refine z_ri q15_2 ?_
    refine z_tableIn C 73 d_Bus_perform_15 (off := 58) (by decide) (by decide) (by decide) (by decide) ?_
    refine z_aload_n C d_Bus_perform_73 rfl 1 rfl ?_
    refine z_aload_n C d_Bus_perform_74 rfl 3 rfl ?_
    refine gB_Act_a C d_Bus_perform_75 tw_122 hi ht ?_
    have hA := (hB.2.2.2.1 i t hi ht).2.1 q15_2
    refine z_ri (x' := nI (aA σ i t)) hA.1 ?_
    refine z_iload_n C d_Bus_perform_78 rfl 4 rfl ?_
    refine z_aload_n C d_Bus_perform_79 rfl 3 rfl ?_
    refine gB_Act_b C d_Bus_perform_80 tw_124 hi ht ?_
    refine z_imul C d_Bus_perform_83 ?_
    refine z_iload_n C d_Bus_perform_84 rfl 2 rfl ?_
    refine zf_Vi C d_Bus_perform_85 (c_Bus_send l D ca b σ hA.2 (v * (σ.1 38 i t 0)) (nI i) hB.1 hB.2.1) tw_468 tw_470 tp_Bus_send tw_1 tw_471 pd_Bus_send ⟨⟨by decide, by decide⟩, rfl, rfl, by decide, by decide⟩ (by omega) rfl (eB_Bus ) rfl (Nat.le_of_ble_eq_true rfl) rfl ?_
    refine z_pop C d_Bus_perform_88 rfl ?_
    refine z_goto C 151 d_Bus_perform_89 (by decide) ?_
    exact hret _ _ _ d_Bus_perform_151 (by simp [prf, *])
  by_cases q15_3 : (σ.1 36 i t 0) = 3
  · refine z_ri q15_3 ?_
    refine z_tableIn C 92 d_Bus_perform_15 (off := 77) (by decide) (by decide) (by decide) (by decide) ?_
    refine z_aload_n C d_Bus_perform_92 rfl 1 rfl ?_
    refine z_aload_n C d_Bus_perform_93 rfl 3 rfl ?_
    refine gB_Act_a C d_Bus_perform_94 tw_122 hi ht ?_
    have hA := ((hB.2.2.2.1 i t hi ht).2.2.1 q15_3).1
    refine z_ri (x' := nI (aA σ i t)) hA.1 ?_
    refine z_iload_n C d_Bus_perform_97 rfl 4 rfl ?_
    refine zf_Vi C d_Bus_perform_98 (c_Bus_ask l D ca b σ hA.2 v hB.2.2.1) tw_511 tw_513 tp_Bus_ask tw_1 tw_514 pd_Bus_ask ⟨⟨by decide, by decide⟩, rfl, rfl, by decide, by decide⟩ (by omega) rfl (eB_Bus ) rfl (Nat.le_of_ble_eq_true rfl) rfl ?_
    refine z_if_ne C 118 d_Bus_perform_101 (by decide) (fun h101 => ?_) (fun h101 => ?_)
    · refine z_aload_n C d_Bus_perform_118 rfl 1 rfl ?_
      refine z_dup C d_Bus_perform_119 rfl ?_
      refine gB_Bus_asksFailed C d_Bus_perform_120 tw_243  ?_
      refine z_iconst C (v := 1) d_Bus_perform_123 (by decide) ?_
      refine z_iadd C d_Bus_perform_124 ?_
      refine pB_Bus_asksFailed C d_Bus_perform_125 tw_243  ?_
      refine z_goto C 151 d_Bus_perform_128 (by decide) ?_
      exact hret _ _ _ d_Bus_perform_151 (by simp [prf, *])
    · refine z_aload C d_Bus_perform_104 0 rfl ?_
      refine z_aload_n C d_Bus_perform_106 rfl 3 rfl ?_
      refine gB_Act_b C d_Bus_perform_107 tw_124 hi ht ?_
      have hb9 := ((hB.2.2.2.1 i t hi ht).2.2.1 q15_3).2
      refine z_ri (x' := nI (aB σ i t)) (by rw [show (askF σ (aA σ i t) v).1.1 38 i t = σ.1 38 i t from askL_ne (by decide) (by decide) 4 _ 0]; exact hb9.1) ?_
      refine z_aload_n C d_Bus_perform_110 rfl 1 rfl ?_
      refine gB_Bus_answer C d_Bus_perform_111 tw_244  ?_
      refine stB_vars C (q := (aB σ i t)) d_Bus_perform_114 hi rfl hb9.2 ?_
      refine z_goto C 151 d_Bus_perform_115 (by decide) ?_
      exact hret _ _ _ d_Bus_perform_151 (by simp [prf, *])
  by_cases q15_4 : (σ.1 36 i t 0) = 4
  · refine z_ri q15_4 ?_
    refine z_tableIn C 131 d_Bus_perform_15 (off := 116) (by decide) (by decide) (by decide) (by decide) ?_
    refine z_aload_n C d_Bus_perform_131 rfl 1 rfl ?_
    refine z_aload_n C d_Bus_perform_132 rfl 3 rfl ?_
    refine gB_Act_a C d_Bus_perform_133 tw_122 hi ht ?_
    have hA := ((hB.2.2.2.1 i t hi ht).2.2.2 q15_4).1
    refine z_ri (x' := nI (aA σ i t)) hA.1 ?_
    refine z_aload C d_Bus_perform_136 0 rfl ?_
    refine z_aload_n C d_Bus_perform_138 rfl 3 rfl ?_
    refine gB_Act_b C d_Bus_perform_139 tw_124 hi ht ?_
    have hb9 := ((hB.2.2.2.1 i t hi ht).2.2.2 q15_4).2
    refine z_ri (x' := nI (aB σ i t)) hb9.1 ?_
    refine lB_vars C (q := (aB σ i t)) d_Bus_perform_142 hi rfl hb9.2 ?_
    refine z_iload_n C d_Bus_perform_143 rfl 2 rfl ?_
    refine zf_Vi C d_Bus_perform_144 (c_Bus_send l D ca b σ hA.2 (σ.1 32 i 0 (aB σ i t)) (nI i) hB.1 hB.2.1) tw_468 tw_470 tp_Bus_send tw_1 tw_471 pd_Bus_send ⟨⟨by decide, by decide⟩, rfl, rfl, by decide, by decide⟩ (by omega) rfl (eB_Bus ) rfl (Nat.le_of_ble_eq_true rfl) rfl ?_
    refine z_pop C d_Bus_perform_147 rfl ?_
    refine z_goto C 151 d_Bus_perform_148 (by decide) ?_
    exact hret _ _ _ d_Bus_perform_151 (by simp [prf, *])
  refine z_tableOut C 151 d_Bus_perform_15 (by have e0 := lv_neT q15_0 (a := 0) (by decide); have e1 := lv_neT q15_1 (a := 1) (by decide); have e2 := lv_neT q15_2 (a := 2) (by decide); have e3 := lv_neT q15_3 (a := 3) (by decide); have e4 := lv_neT q15_4 (a := 4) (by decide); omega) (by decide) ?_
  exact hret _ _ _ d_Bus_perform_151 (by simp [prf, *])
theorem prf_BI {σ : Sg} {i t : Nat} (hi : i < 6) (ht : t < 6) {v : Int32} (hB : BI σ) : BI (prf σ i t v) := by
  have hA := hB.2.2.2.1 i t hi ht
  unfold prf
  split
  · exact BI_upA (by decide) hB
  · split
    · exact BI_upA (by decide) hB
    · split
      · rename_i q
        exact sSend_BI (hA.2.1 q).2 hB
      · split
        · split
          · exact BI_upA (by decide) (askF_BI hB)
          · exact BI_us (by decide) (askF_BI hB)
        · split
          · rename_i q
            exact sSend_BI (hA.2.2.2 q).1.2 hB
          · exact hB
/-! spin -/
theorem nTop_spec {σ : Sg} {i f : Nat} (hf : f < 6) : ∀ m k, nTop σ i f m k = -1 ∨ ∃ t, t < 6 ∧ nTop σ i f m k = nI t ∧ ¬ σ.1 34 i t 0 ≤ 0 := by
  intro m
  induction m with
  | zero => intro k; exact Or.inl rfl
  | succ m ih =>
    intro k
    unfold nTop
    split
    · exact ih (k + 1)
    · rename_i q
      exact Or.inr ⟨(f + k) % 6, Nat.mod_lt _ (by decide), rfl, q⟩
def spn1 (σ : Sg) (i t : Nat) : Sg := us (qDrop σ i t (qsz σ i t) 1) 31 i 0 (nI ((t + 1) % 6))
def spn2 (σ : Sg) (i t : Nat) : Sg := if σ.1 36 i t 0 = -1 then spn1 σ i t else us (prf (spn1 σ i t) i t (σ.1 35 i t 0)) 4 0 0 ((prf (spn1 σ i t) i t (σ.1 35 i t 0)).1 4 0 0 0 + 1)
def spn (σ : Sg) (i : Nat) : Sg := if nTop σ i (nF σ i) 6 0 = -1 then σ else spn2 σ i (nTop σ i (nF σ i) 6 0).toNatClampNeg
theorem spn1_ne {σ : Sg} {i t f i' t' : Nat} (h1 : f ≠ 34) (h2 : f ≠ 35) (h3 : f ≠ 31) : (spn1 σ i t).1 f i' t' = σ.1 f i' t' := by
  unfold spn1
  rw [us_ne (by simp; intro q; exact absurd q h3), qDrop_ne (by simp; intro q; exact absurd q h1) (by simp; intro q; exact absurd q h2)]
theorem spn1_BI {σ : Sg} {i t : Nat} (hi : i < 6) (ht : t < 6) (hB : BI σ) : BI (spn1 σ i t) := by
  obtain ⟨h1, h2, h3, h4, h5, h6⟩ := hB
  have e : ∀ f i' t', f ≠ 34 → f ≠ 35 → f ≠ 31 → (spn1 σ i t).1 f i' t' = σ.1 f i' t' := fun f i' t' a b c => spn1_ne a b c
  refine ⟨?_, BZ_eq (e 10 0 0 (by decide) (by decide) (by decide)) h2, SI_eq (fun f i a b => e f i 0 (by omega) (by omega) (by omega)) h3, AI_eq (fun f i t a b => e f i t (by omega) (by omega) (by omega)) h4, ?_, GI_eq (fun f a b => e f 0 0 (by omega) (by omega) (by omega)) h6⟩
  · intro i' t' hi' ht'
    obtain ⟨a1, a2, a3, a4⟩ := h1 i' t' hi' ht'
    have e33 : (spn1 σ i t).1 33 i' t' 0 = σ.1 33 i' t' 0 := by rw [e 33 i' t' (by decide) (by decide) (by decide)]
    by_cases h : i' = i ∧ t' = t
    · obtain ⟨rfl, rfl⟩ := h
      have e34 : (spn1 σ i' t').1 34 i' t' 0 = nI (qsz σ i' t' - 1) := by
        unfold spn1
        rw [us_ne (by simp), qDrop_sz]
      unfold qsz qdp at *
      rw [e33, e34, nI_clamp (by omega)]
      exact ⟨rfl, a2, by omega, a4⟩
    · have e34 : (spn1 σ i t).1 34 i' t' 0 = σ.1 34 i' t' 0 := by
        unfold spn1
        rw [us_ne (by simp), qDrop_ne (by simp; intro q1 q2; exact h ⟨q1, q2⟩) (by simp)]
      unfold qsz qdp at *
      rw [e33, e34]
      exact ⟨a1, a2, a3, a4⟩
  · intro i' hi'
    by_cases h : i' = i
    · subst h
      have e31 : (spn1 σ i' t).1 31 i' 0 0 = nI ((t + 1) % 6) := by unfold spn1; rw [us_self]
      unfold nF
      rw [e31, nI_clamp (by have := Nat.mod_lt (t + 1) (show 0 < 6 by decide); omega)]
      exact ⟨rfl, Nat.mod_lt _ (by decide)⟩
    · have e31 : (spn1 σ i t).1 31 i' 0 0 = σ.1 31 i' 0 0 := by
        unfold spn1
        rw [us_ne (by simp; exact h), qDrop_ne (by simp) (by simp)]
      unfold nF
      rw [e31]
      exact h5 i' hi'
theorem spn_BI {σ : Sg} {i : Nat} (hi : i < 6) (hB : BI σ) : BI (spn σ i) := by
  unfold spn
  split
  · exact hB
  · rename_i q
    obtain ⟨t, ht, e, -⟩ := (nTop_spec (σ := σ) (i := i) (hB.2.2.2.2.1 i hi).2 6 0).resolve_left q
    rw [e, nI_clamp (by omega)]
    unfold spn2
    split
    · exact spn1_BI hi ht hB
    · exact BI_us (by decide) (prf_BI hi ht (spn1_BI hi ht hB))
set_option maxRecDepth 100000 in
set_option maxHeartbeats 4000000 in
/-- a node spins -/
theorem c_Bus_spin (l : Launch) (D : va_G) (ca : Nat → ClassId) (b : Nat) (σ : Sg) {i : Nat} (hi : i < 6) (hB : BI σ) : CtV l D ca SB b 182 y_Bus_spin w_Bus_spin (rmN 5 114) σ [.ref (b + 0), .int (nI i)] (fun σ' => σ' = spn σ i) := by
  refine ct_v "RobotBus" [(0, .ref (b + 0)), (1, .int (nI i))] (by decide) rfl (Nat.le_of_ble_eq_true rfl) rfl (fun X C hret => ?_)
  refine z_aload_n C d_Bus_spin_0 rfl 0 rfl ?_
  refine gB_Bus_nodes C d_Bus_spin_1 tw_233  ?_
  refine z_iload_n C d_Bus_spin_4 rfl 1 rfl ?_
  refine rB_nods C (j := i) d_Bus_spin_5  rfl hi ?_
  refine z_astore_n C d_Bus_spin_6 rfl (by decide) [(2, .ref (b + (10 + 22 * i))), (0, .ref (b + 0)), (1, .int (nI i))] rfl ?_
  obtain ⟨hn1, hn2⟩ := hB.2.2.2.2.1 i hi
  refine z_aload_n C d_Bus_spin_7 rfl 0 rfl ?_
  refine zf_Vi C d_Bus_spin_8 (c_Nod_nextTopic l D ca b σ hi hn1 hn2) tw_564 tw_565 tw_566 tw_4 tw_567 pd_Nod_nextTopic ⟨⟨by decide, by decide⟩, rfl, rfl, by decide, by decide⟩ (by omega) rfl (eB_Nod hi) rfl (Nat.le_of_ble_eq_true rfl) rfl ?_
  refine z_istore_n C d_Bus_spin_11 rfl (by decide) [(3, .int (nTop σ i (nF σ i) 6 0)), (2, .ref (b + (10 + 22 * i))), (0, .ref (b + 0)), (1, .int (nI i))] rfl ?_
  refine z_iload_n C d_Bus_spin_12 rfl 0 rfl ?_
  refine z_iconst C (v := -1) d_Bus_spin_13 (by decide) ?_
  refine z_icmp_ne C 18 d_Bus_spin_14 (by decide) (fun h14 => ?_) (fun h14 => ?_)
  · obtain ⟨t, ht, he, hq9⟩ := (nTop_spec (σ := σ) (i := i) hn2 6 0).resolve_left h14
    obtain ⟨hq1, hq2, hq3, hq4⟩ := hB.1 i t hi ht
    have hqp : 1 ≤ qsz σ i t := by
      rcases Nat.eq_zero_or_pos (qsz σ i t) with z | z
      · exact absurd (show σ.1 34 i t 0 ≤ 0 by rw [hq1, z]; decide) hq9
      · exact z
    have hsp : spn σ i = spn2 σ i t := by unfold spn; rw [if_neg h14, he, nI_clamp (by omega)]
    rw [he]
    refine z_aload_n C d_Bus_spin_18 rfl 1 rfl ?_
    refine z_iload_n C d_Bus_spin_19 rfl 0 rfl ?_
    refine zf_Vi C d_Bus_spin_20 (c_Nod_takeFrom l D ca b σ hi ht hq1 hqp (by omega)) tw_568 tw_569 tw_570 tw_4 tw_571 pd_Nod_takeFrom ⟨⟨by decide, by decide⟩, rfl, rfl, by decide, by decide⟩ (by omega) rfl (eB_Nod hi) rfl (Nat.le_of_ble_eq_true rfl) rfl ?_
    refine z_ri (x' := σ.1 35 i t 0) rfl ?_
    show Zs l D ca SB b 182 (rmN 5 114) 5 X (spn1 σ i t) _ _ _
    refine z_istore C d_Bus_spin_23 (by decide) [(4, .int (σ.1 35 i t 0)), (3, .int (nI t)), (2, .ref (b + (10 + 22 * i))), (0, .ref (b + 0)), (1, .int (nI i))] rfl ?_
    refine z_aload_n C d_Bus_spin_25 rfl 2 rfl ?_
    refine gB_Nod_actions C d_Bus_spin_26 tw_137 hi ?_
    refine z_iload_n C d_Bus_spin_29 rfl 1 rfl ?_
    refine rB_acts C (j := t) d_Bus_spin_30 hi rfl ht ?_
    refine gB_Act_kind C d_Bus_spin_31 tw_120 hi ht ?_
    refine z_iconst C (v := -1) d_Bus_spin_34 (by decide) ?_
    refine z_icmp_eq C 61 d_Bus_spin_35 (by decide) (fun h35 => ?_) (fun h35 => ?_)
    · rw [spn1_ne (by decide) (by decide) (by decide)] at h35
      exact hret _ _ _ d_Bus_spin_61 (by rw [hsp]; unfold spn2; simp [h35])
    · rw [spn1_ne (by decide) (by decide) (by decide)] at h35
      refine z_aload_n C d_Bus_spin_38 rfl 3 rfl ?_
      refine z_iload_n C d_Bus_spin_39 rfl 4 rfl ?_
      refine z_aload_n C d_Bus_spin_40 rfl 2 rfl ?_
      refine gB_Nod_actions C d_Bus_spin_41 tw_137 hi ?_
      refine z_iload_n C d_Bus_spin_44 rfl 1 rfl ?_
      refine rB_acts C (j := t) d_Bus_spin_45 hi rfl ht ?_
      refine z_iload C d_Bus_spin_46 0 rfl ?_
      refine zf_Vv C d_Bus_spin_48 (c_Bus_perform l D ca b (spn1 σ i t) hi ht (σ.1 35 i t 0) (spn1_BI hi ht hB)) tw_577 tw_579 tp_Bus_perform tw_1 tw_580 pd_Bus_perform ⟨⟨by decide, by decide⟩, rfl, rfl, by decide, by decide⟩ (by omega) rfl (eB_Bus ) rfl (Nat.le_of_ble_eq_true rfl) rfl ?_
      refine z_aload_n C d_Bus_spin_51 rfl 3 rfl ?_
      refine z_dup C d_Bus_spin_52 rfl ?_
      refine gB_Bus_actionsDone C d_Bus_spin_53 tw_242  ?_
      refine z_iconst C (v := 1) d_Bus_spin_56 (by decide) ?_
      refine z_iadd C d_Bus_spin_57 ?_
      refine pB_Bus_actionsDone C d_Bus_spin_58 tw_242  ?_
      exact hret _ _ _ d_Bus_spin_61 (by rw [hsp]; unfold spn2; simp [h35])
  · exact hret _ _ _ d_Bus_spin_17 (by unfold spn; rw [if_pos h14])
