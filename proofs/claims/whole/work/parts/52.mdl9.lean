/-! perform, spin -/
theorem Rl_act1 {e p a : Int32} {σ τ : Sg} (h : Rl e p a σ τ) : Rl e p (a + 1) σ (us τ 143 0 0 (τ.1 143 0 0 0 + 1)) := h.upd [] [143] Off.rf (Off.rf.us (by decide)) (by rw [us_f (by decide)]; exact h.1) (Or.inr ⟨(by rw [us_f (by decide)]; exact h.2.1.1), (by rw [us_f (by decide)]; exact h.2.1.2.1), (by rw [us_f (by decide)]; exact h.2.1.2.2.1), (by rw [us_self, h.2.1.2.2.2.1]), (by rw [us_f (by decide)]; exact h.2.1.2.2.2.2)⟩) (Or.inl rfl) (Or.inl rfl) (Or.inl rfl) (Or.inl rfl) (Or.inl rfl) (Or.inl rfl) (Or.inl rfl) (Or.inl rfl) (Or.inl rfl) (Or.inl rfl) (Or.inl rfl) (Or.inl rfl) (Or.inl rfl)
theorem Rl_fail {e p a : Int32} {σ τ : Sg} (h : Rl e p a σ τ) : Rl e p a (us σ 5 0 0 (σ.1 5 0 0 0 + 1)) (us τ 144 0 0 (τ.1 144 0 0 0 + 1)) := h.upd [5] [144] (Off.rf.us (by decide)) (Off.rf.us (by decide)) (by rw [us_f (by decide)]; exact h.1) (Or.inr ⟨(by rw [us_f (by decide), us_f (by decide)]; exact h.2.1.1), (by rw [us_f (by decide), us_f (by decide)]; exact h.2.1.2.1), (by rw [us_f (by decide)]; exact h.2.1.2.2.1), (by rw [us_f (by decide)]; exact h.2.1.2.2.2.1), (by rw [us_self, us_self, h.2.1.2.2.2.2])⟩) (Or.inl rfl) (Or.inl rfl) (Or.inl rfl) (Or.inl rfl) (Or.inl rfl) (Or.inl rfl) (Or.inl rfl) (Or.inl rfl) (Or.inl rfl) (Or.inl rfl) (Or.inl rfl) (Or.inl rfl) (Or.inl rfl)
theorem Rl_4 {e p a x : Int32} {σ τ : Sg} (h : Rl e p a σ τ) : Rl e p a (us σ 4 0 0 x) τ := h.upd [4] [] (Off.rf.us (by decide)) Off.rf h.1 (Or.inl ⟨rfl, rfl, rfl⟩) (Or.inl rfl) (Or.inl rfl) (Or.inl rfl) (Or.inl rfl) (Or.inl rfl) (Or.inl rfl) (Or.inl rfl) (Or.inl rfl) (Or.inl rfl) (Or.inl rfl) (Or.inl rfl) (Or.inl rfl) (Or.inl rfl)
theorem prf_4 {σ : Sg} {i t : Nat} {v : Int32} : (prf σ i t v).1 4 = σ.1 4 := by
  funext i' t'
  unfold prf askF
  split
  · rw [upA_f (by simp)]
  · split
    · rw [upA_f (by simp)]
    · split
      · exact sSend_ne (by decide)
      · split
        · split
          · rw [upA_f (by simp)]; exact askL_ne (by decide) (by decide) 4 _ 0
          · rw [us_f (by decide)]; exact askL_ne (by decide) (by decide) 4 _ 0
        · split
          · exact sSend_ne (by decide)
          · rfl
theorem askF_3 {σ : Sg} {j : Nat} {q : Int32} : (askF σ j q).1.1 3 = σ.1 3 ∧ (askF σ j q).1.1 30 = σ.1 30 := by
  unfold askF
  exact ⟨by funext i t; exact askL_ne (by decide) (by decide) 4 j 0, by funext i t; exact askL_ne (by decide) (by decide) 4 j 0⟩
set_option maxRecDepth 100000 in
set_option maxHeartbeats 4000000 in
/-- the model does an action as the bus does -/
theorem c_Mdl_perform (l : Launch) (D : va_G) (ca : Nat → ClassId) (b : Nat) (τ : Sg) {σ : Sg} {i t : Nat} (hi : i < 6) (ht : t < 6) (hpi : ¬ σ.1 30 i 0 0 = 0) (hk : ¬ σ.1 36 i t 0 = -1) (v e a : Int32) (h : Rl e (σ.1 3 0 0 0) a σ τ) : CtV l D ca SM b 31 y_Mdl_perform w_Mdl_perform (rmN 4 86) τ [.ref (b + 0), .int (nI i), .int (nI (6 * i + t)), .int v] (fun τ' => Rl e ((prf σ i t v).1 3 0 0 0) (a + 1) (prf σ i t v) τ') := by
  have hR9 := (h.2.2.2.2.2.2.1 i hi t ht).2.2 hk
  refine ct_v "RobotBusModel" [(0, .ref (b + 0)), (1, .int (nI i)), (2, .int (nI (6 * i + t))), (3, .int v)] (by decide) rfl (Nat.le_of_ble_eq_true rfl) rfl (fun X C hret => ?_)
  refine z_aload_n C d_Mdl_perform_0 rfl 0 rfl ?_
  refine gB_Mdl_aA C d_Mdl_perform_1 tw_750  ?_
  refine z_iload_n C d_Mdl_perform_4 rfl 2 rfl ?_
  refine lB_m_aA C (q := (6 * i + t)) d_Mdl_perform_5  rfl (by omega) ?_
  refine z_ri (x' := (σ.1 37 i t 0)) hR9.1 ?_
  refine z_istore C d_Mdl_perform_6 (by decide) [(4, .int (σ.1 37 i t 0)), (0, .ref (b + 0)), (1, .int (nI i)), (2, .int (nI (6 * i + t))), (3, .int v)] rfl ?_
  refine z_aload_n C d_Mdl_perform_8 rfl 1 rfl ?_
  refine gB_Mdl_aB C d_Mdl_perform_9 tw_751  ?_
  refine z_iload_n C d_Mdl_perform_12 rfl 3 rfl ?_
  refine lB_m_aB C (q := (6 * i + t)) d_Mdl_perform_13  rfl (by omega) ?_
  refine z_ri (x' := (σ.1 38 i t 0)) hR9.2 ?_
  refine z_istore C d_Mdl_perform_14 (by decide) [(5, .int (σ.1 38 i t 0)), (4, .int (σ.1 37 i t 0)), (0, .ref (b + 0)), (1, .int (nI i)), (2, .int (nI (6 * i + t))), (3, .int v)] rfl ?_
  refine z_aload_n C d_Mdl_perform_16 rfl 2 rfl ?_
  refine z_dup C d_Mdl_perform_17 rfl ?_
  refine gB_Mdl_actions C d_Mdl_perform_18 tw_782  ?_
  refine z_iconst C (v := 1) d_Mdl_perform_21 (by decide) ?_
  refine z_iadd C d_Mdl_perform_22 ?_
  refine pB_Mdl_actions C d_Mdl_perform_23 tw_782  ?_
  have h1 := Rl_act1 h
  generalize us τ 143 0 0 (τ.1 143 0 0 0 + 1) = τ1 at h1 ⊢
  have hR := h1.2.2.2.2.2.2.1 i hi t ht
  have gA := h1.2.2.2.2.2.2.2.2.2.2.2.2.2.2.2.2.2.1 i t hi ht
  refine z_aload_n C d_Mdl_perform_26 rfl 2 rfl ?_
  refine gB_Mdl_aKind C d_Mdl_perform_27 tw_749  ?_
  refine z_iload_n C d_Mdl_perform_30 rfl 4 rfl ?_
  refine lB_m_aKind C (q := (6 * i + t)) d_Mdl_perform_31  rfl (by omega) ?_
  refine z_ri (x' := (σ.1 36 i t 0)) hR.1 ?_
  by_cases q32_0 : (σ.1 36 i t 0) = 0
  · refine z_ri q32_0 ?_
    refine z_tableIn C 64 d_Mdl_perform_32 (off := 32) (by decide) (by decide) (by decide) (by decide) ?_
    have hA := (gA.1 (Or.inl q32_0))
    refine z_aload_n C d_Mdl_perform_64 rfl 2 rfl ?_
    refine gB_Mdl_vars C d_Mdl_perform_65 tw_742  ?_
    refine z_iconst C (v := 4) d_Mdl_perform_68 (by decide) ?_
    refine z_iload_n C d_Mdl_perform_69 rfl 3 rfl ?_
    refine z_imul C d_Mdl_perform_70 ?_
    refine z_iload C d_Mdl_perform_71 1 rfl ?_
    refine z_iadd C d_Mdl_perform_73 ?_
    refine z_iload_n C d_Mdl_perform_74 rfl 5 rfl ?_
    refine stB_m_vars C (q := ((4 * i) + (aA σ i t))) d_Mdl_perform_75  (nadd (nmul (rfl : (4 : Int32) = nI 4) rfl) hA.1) (by have := hA.2; omega) ?_
    refine z_goto C 176 d_Mdl_perform_76 (by decide) ?_
    refine hret _ _ _ d_Mdl_perform_176 ?_
    rw [show prf σ i t v = upA σ (32, i, 0) (upd (σ.1 32 i 0) (aA σ i t) v) by unfold prf; rw [if_pos q32_0], upA_f (by simp)]
    exact Rl_var hi hA.2 hpi h1
  by_cases q32_1 : (σ.1 36 i t 0) = 1
  · refine z_ri q32_1 ?_
    refine z_tableIn C 79 d_Mdl_perform_32 (off := 47) (by decide) (by decide) (by decide) (by decide) ?_
    have hA := (gA.1 (Or.inr q32_1))
    refine z_aload_n C d_Mdl_perform_79 rfl 2 rfl ?_
    refine gB_Mdl_vars C d_Mdl_perform_80 tw_742  ?_
    refine z_iconst C (v := 4) d_Mdl_perform_83 (by decide) ?_
    refine z_iload_n C d_Mdl_perform_84 rfl 3 rfl ?_
    refine z_imul C d_Mdl_perform_85 ?_
    refine z_iload C d_Mdl_perform_86 1 rfl ?_
    refine z_iadd C d_Mdl_perform_88 ?_
    refine z_dup2 C d_Mdl_perform_89 rfl rfl ?_
    refine lB_m_vars C (q := ((4 * i) + (aA σ i t))) d_Mdl_perform_90  (nadd (nmul (rfl : (4 : Int32) = nI 4) rfl) hA.1) (by have := hA.2; omega) ?_
    refine z_iload_n C d_Mdl_perform_91 rfl 5 rfl ?_
    refine z_iadd C d_Mdl_perform_92 ?_
    refine stB_m_vars C (q := ((4 * i) + (aA σ i t))) d_Mdl_perform_93  (nadd (nmul (rfl : (4 : Int32) = nI 4) rfl) hA.1) (by have := hA.2; omega) ?_
    refine z_goto C 176 d_Mdl_perform_94 (by decide) ?_
    refine hret _ _ _ d_Mdl_perform_176 ?_
    rw [show prf σ i t v = upA σ (32, i, 0) (upd (σ.1 32 i 0) (aA σ i t) (σ.1 32 i 0 (aA σ i t) + v)) by unfold prf; rw [if_neg q32_0, if_pos q32_1], upA_f (by simp), ← (h1.2.2.2.1 i hi (aA σ i t) hA.2).1 hpi]
    exact Rl_var hi hA.2 hpi h1
  by_cases q32_2 : (σ.1 36 i t 0) = 2
  · refine z_ri q32_2 ?_
    refine z_tableIn C 97 d_Mdl_perform_32 (off := 65) (by decide) (by decide) (by decide) (by decide) ?_
    have hA := (gA.2.1 q32_2)
    refine z_aload_n C d_Mdl_perform_97 rfl 2 rfl ?_
    refine z_iload C d_Mdl_perform_98 1 rfl ?_
    refine z_ri (x' := (nI (aA σ i t))) hA.1 ?_
    refine z_iload_n C d_Mdl_perform_100 rfl 5 rfl ?_
    refine z_iload C d_Mdl_perform_101 0 rfl ?_
    refine z_imul C d_Mdl_perform_103 ?_
    refine z_iload_n C d_Mdl_perform_104 rfl 3 rfl ?_
    refine zc_Vi C d_Mdl_perform_105 (c_Mdl_send l D ca b τ1 hA.2 (v * (σ.1 38 i t 0)) (nI i) e _ _ (Or.inr (nI_pos (by omega))) h1) tw_927 tw_929 tp_Mdl_send tw_10 tw_930 pd_Mdl_send ⟨⟨by decide, by decide⟩, rfl, rfl, by decide, by decide⟩ (by omega) rfl (eB_Mdl ) rfl (Nat.le_of_ble_eq_true rfl) rfl (fun r τ2 hp => ?_)
    refine z_pop C d_Mdl_perform_108 rfl ?_
    refine z_goto C 176 d_Mdl_perform_109 (by decide) ?_
    refine hret _ _ _ d_Mdl_perform_176 ?_
    rw [show prf σ i t v = sSend σ (aA σ i t) (v * σ.1 38 i t 0) (nI i) by unfold prf; rw [if_neg q32_0, if_neg q32_1, if_pos q32_2], sSend_3]
    exact hp.2
  by_cases q32_3 : (σ.1 36 i t 0) = 3
  · refine z_ri q32_3 ?_
    refine z_tableIn C 112 d_Mdl_perform_32 (off := 80) (by decide) (by decide) (by decide) (by decide) ?_
    have hA := (gA.2.2.1 q32_3)
    refine z_aload_n C d_Mdl_perform_112 rfl 2 rfl ?_
    refine z_iload C d_Mdl_perform_113 1 rfl ?_
    refine z_ri (x' := (nI (aA σ i t))) hA.1.1 ?_
    refine z_iload_n C d_Mdl_perform_115 rfl 5 rfl ?_
    refine zc_Vi C d_Mdl_perform_116 (c_Mdl_ask l D ca b τ1 hA.1.2 v e _ _ h1) tw_949 tw_951 tp_Mdl_ask tw_10 tw_952 pd_Mdl_ask ⟨⟨by decide, by decide⟩, rfl, rfl, by decide, by decide⟩ (by omega) rfl (eB_Mdl ) rfl (Nat.le_of_ble_eq_true rfl) rfl (fun r τ2 hp => ?_)
    refine z_istore C d_Mdl_perform_119 (by decide) [(6, .int r), (5, .int (σ.1 38 i t 0)), (4, .int (σ.1 37 i t 0)), (0, .ref (b + 0)), (1, .int (nI i)), (2, .int (nI (6 * i + t))), (3, .int v)] rfl ?_
    refine z_aload_n C d_Mdl_perform_121 rfl 3 rfl ?_
    refine gB_Mdl_trouble C d_Mdl_perform_122 tw_784  ?_
    refine z_if_ne C 144 d_Mdl_perform_125 (by decide) (fun h125 => ?_) (fun h125 => ?_)
    · skip
      refine z_aload_n C d_Mdl_perform_144 rfl 3 rfl ?_
      refine z_dup C d_Mdl_perform_145 rfl ?_
      refine gB_Mdl_failures C d_Mdl_perform_146 tw_783  ?_
      refine z_iconst C (v := 1) d_Mdl_perform_149 (by decide) ?_
      refine z_iadd C d_Mdl_perform_150 ?_
      refine pB_Mdl_failures C d_Mdl_perform_151 tw_783  ?_
      refine z_goto C 176 d_Mdl_perform_154 (by decide) ?_
      refine hret _ _ _ d_Mdl_perform_176 ?_
      have hno : ¬ (askF σ (aA σ i t) v).2 = 0 := by
        rcases hp.2 with ⟨u1, u2, u3⟩ | ⟨u1, u2⟩ | ⟨u1, u2⟩
        · exact absurd u2 h125
        · rw [u1]; decide
        · rw [u1]; decide
      rw [show prf σ i t v = us (askF σ (aA σ i t) v).1 5 0 0 ((askF σ (aA σ i t) v).1.1 5 0 0 0 + 1) by unfold prf; rw [if_neg q32_0, if_neg q32_1, if_neg q32_2, if_pos q32_3, if_neg hno], us_f (by decide), askF_3.1]
      exact Rl_fail hp.1
    · skip
      refine z_aload_n C d_Mdl_perform_128 rfl 3 rfl ?_
      refine gB_Mdl_vars C d_Mdl_perform_129 tw_742  ?_
      refine z_iconst C (v := 4) d_Mdl_perform_132 (by decide) ?_
      refine z_iload_n C d_Mdl_perform_133 rfl 4 rfl ?_
      refine z_imul C d_Mdl_perform_134 ?_
      refine z_iload C d_Mdl_perform_135 1 rfl ?_
      refine z_iadd C d_Mdl_perform_137 ?_
      refine z_iload C d_Mdl_perform_138 0 rfl ?_
      refine stB_m_vars C (q := ((4 * i) + (aB σ i t))) d_Mdl_perform_140  (nadd (nmul (rfl : (4 : Int32) = nI 4) rfl) hA.2.1) (by have := hA.2.2; omega) ?_
      refine z_goto C 176 d_Mdl_perform_141 (by decide) ?_
      refine hret _ _ _ d_Mdl_perform_176 ?_
      have hok : (askF σ (aA σ i t) v).2 = 0 ∧ r = (askF σ (aA σ i t) v).1.1 6 0 0 0 := by
        rcases hp.2 with ⟨u1, u2, u3⟩ | ⟨u1, u2⟩ | ⟨u1, u2⟩
        · exact ⟨u1, u3⟩
        · exact absurd (u2.symm.trans h125) (by decide)
        · exact absurd (u2.symm.trans h125) (by decide)
      rw [show prf σ i t v = upA (askF σ (aA σ i t) v).1 (32, i, 0) (upd ((askF σ (aA σ i t) v).1.1 32 i 0) (aB σ i t) ((askF σ (aA σ i t) v).1.1 6 0 0 0)) by unfold prf; rw [if_neg q32_0, if_neg q32_1, if_neg q32_2, if_pos q32_3, if_pos hok.1], upA_f (by simp), askF_3.1, ← hok.2]
      exact Rl_var hi hA.2.2 (by rw [askF_3.2]; exact hpi) hp.1
  refine z_tableOut C 157 d_Mdl_perform_32 (by have e0 := lv_neT q32_0 (a := 0) (by decide); have e1 := lv_neT q32_1 (a := 1) (by decide); have e2 := lv_neT q32_2 (a := 2) (by decide); have e3 := lv_neT q32_3 (a := 3) (by decide); omega) (by decide) ?_
  have q4 : σ.1 36 i t 0 = 4 := by
    rcases hR.2.1 with z | z | z | z | z | z
    · exact absurd z hk
    · exact absurd z q32_0
    · exact absurd z q32_1
    · exact absurd z q32_2
    · exact absurd z q32_3
    · exact z
  have hA0 := gA.2.2.2 q4
  have hA := hA0.1
  refine z_aload_n C d_Mdl_perform_157 rfl 2 rfl ?_
  refine z_iload C d_Mdl_perform_158 1 rfl ?_
  refine z_ri (x' := (nI (aA σ i t))) hA.1 ?_
  refine z_aload_n C d_Mdl_perform_160 rfl 2 rfl ?_
  refine gB_Mdl_vars C d_Mdl_perform_161 tw_742  ?_
  refine z_iconst C (v := 4) d_Mdl_perform_164 (by decide) ?_
  refine z_iload_n C d_Mdl_perform_165 rfl 3 rfl ?_
  refine z_imul C d_Mdl_perform_166 ?_
  refine z_iload C d_Mdl_perform_167 0 rfl ?_
  refine z_iadd C d_Mdl_perform_169 ?_
  refine lB_m_vars C (q := ((4 * i) + (aB σ i t))) d_Mdl_perform_170  (nadd (nmul (rfl : (4 : Int32) = nI 4) rfl) hA0.2.1) (by have := hA0.2.2; omega) ?_
  refine z_ri (x' := (σ.1 32 i 0 (aB σ i t))) ((h1.2.2.2.1 i hi (aB σ i t) hA0.2.2).1 hpi) ?_
  refine z_iload_n C d_Mdl_perform_171 rfl 3 rfl ?_
  refine zc_Vi C d_Mdl_perform_172 (c_Mdl_send l D ca b τ1 hA.2 (σ.1 32 i 0 (aB σ i t)) (nI i) e _ _ (Or.inr (nI_pos (by omega))) h1) tw_927 tw_929 tp_Mdl_send tw_10 tw_930 pd_Mdl_send ⟨⟨by decide, by decide⟩, rfl, rfl, by decide, by decide⟩ (by omega) rfl (eB_Mdl ) rfl (Nat.le_of_ble_eq_true rfl) rfl (fun r τ2 hp => ?_)
  refine z_pop C d_Mdl_perform_175 rfl ?_
  refine hret _ _ _ d_Mdl_perform_176 ?_
  rw [show prf σ i t v = sSend σ (aA σ i t) (σ.1 32 i 0 (aB σ i t)) (nI i) by unfold prf; rw [if_neg q32_0, if_neg q32_1, if_neg q32_2, if_neg q32_3, if_pos q4], sSend_3]
  exact hp.2
theorem Rl_take {e p a : Int32} {σ τ ρ : Sg} {i t q : Nat} (hi : i < 6) (ht : t < 6) (hpi : ¬ σ.1 30 i 0 0 = 0) (h0 : Rl e p a σ τ) (hq : σ.1 34 i t 0 = nI (q + 1)) (hq3 : q ≤ 3) (hs : shP τ (6 * i + t) q (4 * (6 * i + t) + q) ρ) : Rl e p a (spn1 σ i t) (upA ρ (104, 0, 0) (upd (ρ.1 104 0 0) i (nI t))) := by
  have hqs : qsz σ i t = q + 1 := by unfold qsz; rw [hq, nI_clamp (by omega)]
  have hRQ := RQ_shift hi ht h0.2.2.2.2.2.1 h0.2.2.2.2.2.2.2.2.2.2.2.2.2.2.1 hq hq3 hs
  have gBI := h0.2.2.2.2.2.2.2.2.2.2.2.2.2.2
  have hσ : Off [31, 34, 35] σ (spn1 σ i t) := Off.us (Off_qDrop (by decide) (by decide)) (by decide)
  have ho : Off [104, 106, 107, 108, 109] τ (upA ρ (104, 0, 0) (upd (ρ.1 104 0 0) i (nI t))) := Off.uA (hs.1.mono (by decide)) (by decide)
  refine h0.upd [31, 34, 35] [104, 106, 107, 108, 109] hσ ho (by rw [ho.at (by decide)]; exact h0.1) (Or.inl ⟨rfl, rfl, rfl⟩) (Or.inl rfl) (Or.inl rfl) (Or.inr ?_) (Or.inr ?_) (Or.inl rfl) (Or.inl rfl) (Or.inl rfl) (Or.inl rfl) (Or.inl rfl) (Or.inl rfl) (Or.inl rfl) (Or.inl rfl) (Or.inr ?_)
  · intro i' hi'
    rw [hσ.at (f := 30) (by decide), upA_self, hs.1.at (f := 104) (by decide)]
    obtain ⟨k1, k2⟩ := h0.2.2.2.2.1 i' hi'
    by_cases he : i' = i
    · subst he
      refine ⟨fun _ => ⟨t, ht, by rw [pk_us], ?_⟩, fun z => absurd z hpi⟩
      unfold spn1
      rw [us_self]
    · rw [pk_un he]
      have e31 : (spn1 σ i t).1 31 i' 0 0 = σ.1 31 i' 0 0 := by
        unfold spn1
        rw [us_ne (by simp; omega), qDrop_ne (by simp) (by simp)]
      rw [e31]
      exact ⟨k1, k2⟩
  · refine RQ_off (L := [31]) (L' := [104]) (σ := qDrop σ i t (q + 1) 1) (τ := ρ) ?_ (Off.rf.uA (by decide)) rfl hRQ
    unfold spn1
    rw [hqs]
    exact Off.rf.us (by decide)
  · exact spn1_BI hi ht gBI
theorem spn_4 {σ : Sg} {i t : Nat} : (spn1 σ i t).1 4 = σ.1 4 ∧ (spn1 σ i t).1 3 = σ.1 3 ∧ (spn1 σ i t).1 30 = σ.1 30 ∧ (spn1 σ i t).1 36 = σ.1 36 := by
  have hσ : Off [31, 34, 35] σ (spn1 σ i t) := Off.us (Off_qDrop (by decide) (by decide)) (by decide)
  exact ⟨hσ.at (by decide), hσ.at (by decide), hσ.at (by decide), hσ.at (by decide)⟩
set_option maxRecDepth 100000 in
set_option maxHeartbeats 4000000 in
theorem lp_Mdl_spin (l : Launch) (D : va_G) (ca : Nat → ClassId) (b : Nat) {R : Room} {X : Zx} {y0 : MethodName} {c0 : ByteArray} {n0 : Nat} {r0 : Option FieldType} (hR : 5 ≤ R.frames ∧ 112 ≤ R.locals) (C : Cs D ca b_Mdl_spin 6 "RobotBusModel" (Cond.code y0 c0 n0 r0) X) {σ τ : Sg} {i k0 : Nat} (hi : i < 6) (hpi : ¬ σ.1 30 i 0 0 = 0) (e : Int32) (h : Rl e (σ.1 3 0 0 0) (σ.1 4 0 0 0) σ τ) (hk0 : k0 < 6) (hto : τ.1 104 0 0 i = nI k0) (hfi : nF σ i = (k0 + 1) % 6) (hret : ∀ (τ' : Sg) (pc : Nat) (L' : List (Nat × Value)), decode b_Mdl_spin pc = .ok (.return_, 1) → Rl e ((spn σ i).1 3 0 0 0) ((spn σ i).1 4 0 0 0) (spn σ i) τ' → Zs l D ca SM b 31 R 6 X τ' pc L' []) : ∀ m k, k + m = 6 → nTop σ i (nF σ i) 6 0 = nTop σ i (nF σ i) m k → Zs l D ca SM b 31 R 6 X τ 2 [(2, .int (nI (k + 1))), (0, .ref (b + 0)), (1, .int (nI i))] [] := by
  intro m
  induction m with
  | zero =>
    intro k hk he
    have hk6 : k = 6 := by omega
    subst hk6
    refine z_iload_n C d_Mdl_spin_2 rfl 0 rfl ?_
    refine z_bipush C (v := 6) d_Mdl_spin_3 (by decide) ?_
    refine z_icmp_gt C 91 d_Mdl_spin_5 (by decide) (fun h5 => ?_) (fun h5 => False.elim (h5 (nI_lt (a := 6) (b := 7) (by decide) (by decide))))
    refine hret _ _ _ d_Mdl_spin_91 ?_
    rw [show spn σ i = σ by unfold spn; rw [he]; exact if_pos rfl]
    exact h
  | succ m ih =>
    intro k hk he
    have hrem : (τ.1 104 0 0 i + nI (k + 1)) - (τ.1 104 0 0 i + nI (k + 1)) / 6 * 6 = nI ((nF σ i + k) % 6) := by
      rw [hto, nI_add]
      have h9 := pk_rem (a := k0 + (k + 1)) (d := 6) (by omega) (by decide) (by decide)
      refine h9.trans ?_
      rw [hfi]
      congr 1
      omega
    have ht : (nF σ i + k) % 6 < 6 := Nat.mod_lt _ (by decide)
    rw [show nTop σ i (nF σ i) (m + 1) k = if σ.1 34 i ((nF σ i + k) % 6) 0 ≤ 0 then nTop σ i (nF σ i) m (k + 1) else nI ((nF σ i + k) % 6) from rfl] at he
    generalize (nF σ i + k) % 6 = t at hrem ht he
    have hQ := h.2.2.2.2.2.1 i hi t ht
    have hz := h.2.2.2.2.2.2.2.2.2.2.2.2.2.2.1 i t hi ht
    have hA := h.2.2.2.2.2.2.1 i hi t ht
    refine z_iload_n C d_Mdl_spin_2 rfl 0 rfl ?_
    refine z_bipush C (v := 6) d_Mdl_spin_3 (by decide) ?_
    refine z_icmp_gt C 91 d_Mdl_spin_5 (by decide) (fun h5 => False.elim (nI_nlt (a := 6) (b := (k + 1)) (by omega) (by decide) h5)) (fun h5 => ?_)
    refine z_aload_n C d_Mdl_spin_8 rfl 1 rfl ?_
    refine gB_Mdl_took C d_Mdl_spin_9 tw_743  ?_
    refine z_iload_n C d_Mdl_spin_12 rfl 2 rfl ?_
    refine lB_m_took C (q := i) d_Mdl_spin_13  rfl hi ?_
    refine z_iload_n C d_Mdl_spin_14 rfl 0 rfl ?_
    refine z_iadd C d_Mdl_spin_15 ?_
    refine z_bipush C (v := 6) d_Mdl_spin_16 (by decide) ?_
    refine z_irem C d_Mdl_spin_18 (by decide) ?_
    refine z_ri hrem ?_
    refine z_istore_n C d_Mdl_spin_19 rfl (by decide) [(3, .int (nI t)), (2, .int (nI (k + 1))), (0, .ref (b + 0)), (1, .int (nI i))] rfl ?_
    refine z_bipush C (v := 6) d_Mdl_spin_20 (by decide) ?_
    refine z_iload_n C d_Mdl_spin_22 rfl 3 rfl ?_
    refine z_imul C d_Mdl_spin_23 ?_
    refine z_iload_n C d_Mdl_spin_24 rfl 0 rfl ?_
    refine z_iadd C d_Mdl_spin_25 ?_
    refine z_ri (x' := nI ((6 * i) + t)) (nadd (nmul (rfl : (6 : Int32) = nI 6) rfl) rfl) ?_
    refine z_istore C d_Mdl_spin_26 (by decide) [(4, .int (nI ((6 * i) + t))), (3, .int (nI t)), (2, .int (nI (k + 1))), (0, .ref (b + 0)), (1, .int (nI i))] rfl ?_
    refine z_aload_n C d_Mdl_spin_28 rfl 3 rfl ?_
    refine gB_Mdl_waiting C d_Mdl_spin_29 tw_745  ?_
    refine z_iload C d_Mdl_spin_32 0 rfl ?_
    refine lB_m_waiting C (q := ((6 * i) + t)) d_Mdl_spin_34  rfl (by omega) ?_
    refine z_if_ne C 41 d_Mdl_spin_35 (by decide) (fun h35 => ?_) (fun h35 => ?_)
    · have hq1 : 1 ≤ qsz σ i t := Nat.pos_of_ne_zero (fun z => h35 (by rw [hQ.2.1, hz.1, z]; rfl))
      rw [if_neg (by rw [hz.1]; exact nI_nle hq1 (by omega))] at he
      have hv := (hQ.2.2 0 (by show 0 < qsz σ i t; exact hq1)).1
      refine z_aload_n C d_Mdl_spin_41 rfl 3 rfl ?_
      refine gB_Mdl_value C d_Mdl_spin_42 tw_746  ?_
      refine z_iconst C (v := 4) d_Mdl_spin_45 (by decide) ?_
      refine z_iload C d_Mdl_spin_46 0 rfl ?_
      refine z_imul C d_Mdl_spin_48 ?_
      refine lB_m_value C (q := (4 * ((6 * i) + t))) d_Mdl_spin_49  (nmul (rfl : (4 : Int32) = nI 4) rfl) (by omega) ?_
      refine z_ri (x' := (σ.1 35 i t 0)) (by have := hv; simpa using this) ?_
      refine z_istore C d_Mdl_spin_50 (by decide) [(5, .int (σ.1 35 i t 0)), (4, .int (nI ((6 * i) + t))), (3, .int (nI t)), (2, .int (nI (k + 1))), (0, .ref (b + 0)), (1, .int (nI i))] rfl ?_
      refine z_aload_n C d_Mdl_spin_52 rfl 4 rfl ?_
      refine z_iload C d_Mdl_spin_53 1 rfl ?_
      refine zc_Vv C d_Mdl_spin_55 (c_Mdl_shift l D ca b τ (q := 6 * i + t) (by omega) (w := qsz σ i t - 1) (by rw [hQ.2.1, hz.1]; congr 1; omega) (by omega)) tw_915 tw_917 tp_Mdl_shift tw_10 tw_918 pd_Mdl_shift ⟨⟨Nat.le_trans (by decide) hR.1, Nat.le_trans (by decide) hR.2⟩, rfl, rfl, Nat.zero_le _, Nat.zero_le _⟩ (by omega) rfl (eB_Mdl ) rfl (Nat.le_of_ble_eq_true rfl) rfl (fun ρ1 hs => ?_)
      refine z_aload_n C d_Mdl_spin_58 rfl 4 rfl ?_
      refine gB_Mdl_took C d_Mdl_spin_59 tw_743  ?_
      refine z_iload_n C d_Mdl_spin_62 rfl 5 rfl ?_
      refine z_iload_n C d_Mdl_spin_63 rfl 2 rfl ?_
      refine stB_m_took C (q := i) d_Mdl_spin_64  rfl hi ?_
      have htk := Rl_take hi ht hpi h (q := qsz σ i t - 1) (by rw [hz.1]; congr 1; omega) (by omega) hs
      rw [← spn_4.2.1] at htk
      have hk2 : (upA ρ1 (104, 0, 0) (upd (ρ1.1 104 0 0) i (nI t))).1 110 0 0 (6 * i + t) = σ.1 36 i t 0 := by rw [upA_f (by decide), hs.1.at (by decide)]; exact hA.1
      generalize (upA ρ1 (104, 0, 0) (upd (ρ1.1 104 0 0) i (nI t))) = τ2 at htk hk2 ⊢
      have hsp : spn σ i = spn2 σ i t := by
        unfold spn
        rw [he, if_neg (fun z => absurd (congrArg Int32.toInt z) (by rw [nI_toInt (by omega), show (-1 : Int32).toInt = -1 by decide]; omega)), nI_clamp (by omega)]
      refine z_aload_n C d_Mdl_spin_65 rfl 4 rfl ?_
      refine gB_Mdl_aKind C d_Mdl_spin_66 tw_749  ?_
      refine z_iload C d_Mdl_spin_69 1 rfl ?_
      refine lB_m_aKind C (q := ((6 * i) + t)) d_Mdl_spin_71  rfl (by omega) ?_
      refine z_if_lt C 84 d_Mdl_spin_72 (by decide) (fun h72 => ?_) (fun h72 => ?_)
      · have hkm : σ.1 36 i t 0 = -1 := by
          rcases hA.2.1 with z | z | z | z | z | z
          · exact z
          all_goals exact absurd h72 (by rw [hk2, z]; decide)
        refine hret _ _ _ d_Mdl_spin_84 ?_
        rw [hsp]
        unfold spn2
        rw [if_pos hkm, spn_4.1]
        exact htk
      · have hkm : ¬ σ.1 36 i t 0 = -1 := fun z => h72 (by rw [hk2, z]; decide)
        refine z_aload_n C d_Mdl_spin_75 rfl 4 rfl ?_
        refine z_iload_n C d_Mdl_spin_76 rfl 5 rfl ?_
        refine z_iload C d_Mdl_spin_77 1 rfl ?_
        refine z_iload C d_Mdl_spin_79 0 rfl ?_
        refine zc_Vv C d_Mdl_spin_81 (c_Mdl_perform l D ca b τ2 hi ht (by rw [spn_4.2.2.1]; exact hpi) (by rw [spn_4.2.2.2]; exact hkm) (σ.1 35 i t 0) e _ htk) tw_965 tw_967 tp_Mdl_perform tw_10 tw_968 pd_Mdl_perform ⟨⟨Nat.le_trans (by decide) hR.1, Nat.le_trans (by decide) hR.2⟩, rfl, rfl, Nat.zero_le _, Nat.zero_le _⟩ (by omega) rfl (eB_Mdl ) rfl (Nat.le_of_ble_eq_true rfl) rfl (fun τ3 hp => ?_)
        refine hret _ _ _ d_Mdl_spin_84 ?_
        rw [hsp]
        unfold spn2
        rw [if_neg hkm, us_f (by decide), us_self, prf_4, spn_4.1]
        exact Rl_4 hp
    · rw [if_pos (by rw [← hQ.2.1, h35]; decide)] at he
      refine z_goto C 85 d_Mdl_spin_38 (by decide) ?_
      refine z_iinc C d_Mdl_spin_85 2 rfl (v := (nI ((k + 1) + 1))) (nI_1 _) (by decide) [(2, .int (nI ((k + 1) + 1))), (4, .int (nI ((6 * i) + t))), (3, .int (nI t)), (0, .ref (b + 0)), (1, .int (nI i))] rfl ?_
      refine z_goto C 2 d_Mdl_spin_88 (by decide) ?_
      refine z_loc [0, 3, 4] rfl ?_
      exact ih (k + 1) (by omega) he
set_option maxRecDepth 100000 in
set_option maxHeartbeats 4000000 in
/-- a node of the model spins as one of the bus does -/
theorem c_Mdl_spin (l : Launch) (D : va_G) (ca : Nat → ClassId) (b : Nat) (τ : Sg) {σ : Sg} {i : Nat} (hi : i < 6) (hpi : ¬ σ.1 30 i 0 0 = 0) (e : Int32) (h : Rl e (σ.1 3 0 0 0) (σ.1 4 0 0 0) σ τ) : CtV l D ca SM b 31 y_Mdl_spin w_Mdl_spin (rmN 5 112) τ [.ref (b + 0), .int (nI i)] (fun τ' => Rl e ((spn σ i).1 3 0 0 0) ((spn σ i).1 4 0 0 0) (spn σ i) τ') := by
  obtain ⟨k0, hk0, hto, hfi⟩ := (h.2.2.2.2.1 i hi).1 hpi
  refine ct_v "RobotBusModel" [(0, .ref (b + 0)), (1, .int (nI i))] (by decide) rfl (Nat.le_of_ble_eq_true rfl) rfl (fun X C hret => ?_)
  refine z_iconst C (v := 1) d_Mdl_spin_0 (by decide) ?_
  refine z_istore_n C d_Mdl_spin_1 rfl (by decide) [(2, .int 1), (0, .ref (b + 0)), (1, .int (nI i))] rfl ?_
  exact lp_Mdl_spin l D ca b ⟨by decide, by decide⟩ C hi hpi e h hk0 hto (by unfold nF; rw [hfi, nI_clamp (by omega)]) hret 6 0 rfl rfl
