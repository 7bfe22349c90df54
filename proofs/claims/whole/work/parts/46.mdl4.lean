/-! The model's calls -/
theorem Rl_e {e e' p a : Int32} {σ τ : Sg} (h : Rl e p a σ τ) : Rl e' p a σ (us τ 100 0 0 e') :=
  h.upd [] [100] Off.rf (Off.rf.us (by decide)) us_self (Or.inl ⟨rfl, rfl, rfl⟩) (Or.inl rfl) (Or.inl rfl) (Or.inl rfl) (Or.inl rfl) (Or.inl rfl) (Or.inl rfl) (Or.inl rfl) (Or.inl rfl) (Or.inl rfl) (Or.inl rfl) (Or.inl rfl) (Or.inl rfl) (Or.inl rfl)
def cdL (c : String) : List String → Nat → Nat
  | [], _ => 0
  | k :: r, n => if c = k then n else cdL c r (n + 1)
/-- the number that an adapter answers: 0 for a value, else which of its catches takes it -/
def cd (ks : List String) : Out → Int32
  | .inl _ => 0
  | .inr c => nI (cdL c ks 1)
def Pm (ks : List String) (F : Out × Sg) (r : Int32) (τ' : Sg) : Prop := Rl (cd ks F.1) (F.2.1 3 0 0 0) (F.2.1 4 0 0 0) F.2 τ' ∧ ∀ v, F.1 = .inl v → v = .int r
theorem Pm_err {ks : List String} {F : Out × Sg} {r n : Int32} {σ τ' : Sg} (c : String) (hF : F = (.inr c, σ)) (hc : nI (cdL c ks 1) = n) (h : Rl n (σ.1 3 0 0 0) (σ.1 4 0 0 0) σ τ') : Pm ks F r τ' := by
  subst hF
  exact ⟨by show Rl (nI (cdL c ks 1)) _ _ _ _; rw [hc]; exact h, fun v hv => by cases hv⟩
theorem Pm_ok {ks : List String} {F : Out × Sg} {r : Int32} {τ' : Sg} (σ' : Sg) (hF : F = (.inl (.int r), σ')) (h : Rl 0 (σ'.1 3 0 0 0) (σ'.1 4 0 0 0) σ' τ') : Pm ks F r τ' := by
  subst hF
  exact ⟨h, fun v hv => by cases hv; rfl⟩
theorem isNo_th {e p a : Int32} {σ τ : Sg} (h : Rl e p a σ τ) (x : Int32) : isNo τ x = 0 ↔ ¬ isTh σ x = 0 := by
  unfold isNo isTh
  rw [show wit x 0 5 = bel x 6 from wit0_bel x 5 (by decide)]
  by_cases h1 : bel x 6 = 0
  · rw [if_pos h1, if_pos h1]; simp
  · obtain ⟨j, hj, rfl⟩ := bel_nat (n := 6) (by decide) h1
    rw [if_neg h1, if_neg h1, nI_clamp (by omega), (h.2.2.1 j hj).1]
    by_cases h2 : σ.1 30 j 0 0 = 0
    · rw [if_pos h2, if_pos h2]; simp
    · rw [if_neg h2, if_neg h2]; simp
theorem isAm_ac (k a c : Int32) : isAm k a c = isAc k a c := by
  unfold isAm isAc
  rw [show wit a 0 3 = bel a 4 from wit0_bel a 3 (by decide), show wit a 0 5 = bel a 6 from wit0_bel a 5 (by decide), show wit c 0 3 = bel c 4 from wit0_bel c 3 (by decide)]
def zr (f : Nat → Int32) (a k : Nat) (c : Int32) : Nat → Int32 := fun j => if a ≤ j ∧ j < k then c else f j
theorem zr_0 (f : Nat → Int32) (a : Nat) (c : Int32) : zr f a a c = f := by
  funext j
  unfold zr
  rw [if_neg (by omega)]
theorem zr_step {f : Nat → Int32} {a k : Nat} {c : Int32} (h : a ≤ k) : upd (zr f a k c) k c = zr f a (k + 1) c := by
  funext j
  by_cases hj : j = k
  · subst hj
    rw [pk_us]
    unfold zr
    rw [if_pos (by omega)]
  · rw [pk_un hj]
    unfold zr
    by_cases h2 : a ≤ j ∧ j < k
    · rw [if_pos h2, if_pos (by omega)]
    · rw [if_neg h2, if_neg (by omega)]
theorem Rl_latchF {e p a : Int32} {σ τ : Sg} {j : Nat} {o : Int32} (h0 : Rl e p a σ τ) : Rl e p a (us σ 40 j 0 o) (upA τ (113, 0, 0) (upd (τ.1 113 0 0) j o)) := by
  have hσ : Off [40] σ (us σ 40 j 0 o) := Off.rf.us (by decide)
  have ho : Off [113] τ (upA τ (113, 0, 0) (upd (τ.1 113 0 0) j o)) := Off.rf.uA (by decide)
  refine h0.upd [40] [113] hσ ho (by rw [ho.at (by decide)]; exact h0.1) (Or.inl ⟨rfl, rfl, rfl⟩) (Or.inl rfl) (Or.inl rfl) (Or.inl rfl) (Or.inl rfl) (Or.inl rfl) (Or.inr ?_) (Or.inl rfl) (Or.inl rfl) (Or.inl rfl) (Or.inl rfl) (Or.inl rfl) (Or.inl rfl) (Or.inl rfl)
  intro t ht
  obtain ⟨k1, k2, k3, k4⟩ := h0.2.2.2.2.2.2.2.1 t ht
  by_cases hj : t = j
  · subst hj
    simp [us, upA, pk_us, k1, k2, k3]
    exact k4
  · simp [us, upA, pk_un hj, hj, k1, k2, k3]
    exact k4
set_option maxRecDepth 100000 in
set_option maxHeartbeats 4000000 in
/-- latchF of the model -/
theorem c_Mdl_latch (l : Launch) (D : va_G) (ca : Nat → ClassId) (b : Nat) (τ : Sg) {σ : Sg} (e : Int32) (x o : Int32) (ho1 : o = 0 ∨ o = 1) (h : Rl e (σ.1 3 0 0 0) (σ.1 4 0 0 0) σ τ) : CtI l D ca SM b 31 y_Mdl_latch w_Mdl_latch (rmN 1 22) τ [.ref (b + 0), .int x, .int o] (fun r τ' => Pm [xIAE] (latchF σ x o) r τ') := by
  refine ct_i "RobotBusModel" [(0, .ref (b + 0)), (1, .int x), (2, .int o)] (by decide) rfl (Nat.le_of_ble_eq_true rfl) rfl (fun X C hret => ?_)
  refine z_aload_n C d_Mdl_latch_0 rfl 0 rfl ?_
  refine z_iconst C (v := 0) d_Mdl_latch_1 (by decide) ?_
  refine pB_Mdl_thrown C d_Mdl_latch_2 tw_739  ?_
  have h0 := Rl_e (e' := 0) h
  generalize us τ 100 0 0 0 = τ0 at h0 ⊢
  refine z_iload_n C d_Mdl_latch_5 rfl 1 rfl ?_
  refine z_iconst C (v := 0) d_Mdl_latch_6 (by decide) ?_
  refine z_iconst C (v := 5) d_Mdl_latch_7 (by decide) ?_
  refine zf_Si C d_Mdl_latch_8 (c_Mdl_in l D ca b τ0 x 0 5) tw_888 tw_889 tw_10 tw_890 pd_Mdl_in ⟨⟨by decide, by decide⟩, rfl, rfl, by decide, by decide⟩ (Nat.le_of_ble_eq_true rfl) rfl ?_
  refine z_ri (x' := bel x 6) (wit0_bel x 5 (by decide)) ?_
  refine z_if_ne C 20 d_Mdl_latch_11 (by decide) (fun h11 => ?_) (fun h11 => ?_)
  · obtain ⟨j, hj, rfl⟩ := bel_nat (n := 6) (by decide) h11
    have hcj : (nI j).toNatClampNeg = j := nI_clamp (by omega)
    refine z_aload_n C d_Mdl_latch_20 rfl 0 rfl ?_
    refine gB_Mdl_latched C d_Mdl_latch_21 tw_752  ?_
    refine z_iload_n C d_Mdl_latch_24 rfl 1 rfl ?_
    refine lB_m_latched C (q := j) d_Mdl_latch_25 rfl hj ?_
    refine z_iload_n C d_Mdl_latch_26 rfl 2 rfl ?_
    refine z_icmp_eq C 34 d_Mdl_latch_27 (by decide) (fun h27 => ?_) (fun h27 => ?_)
    · have hk := h0.2.2.2.2.2.2.2.1 j hj
      have hq : σ.1 40 j 0 0 = o := hk.1.symm.trans h27
      refine z_iconst C (v := 0) d_Mdl_latch_34 (by decide) ?_
      refine z_istore_n C d_Mdl_latch_35 rfl (by decide) [(3, .int 0), (0, .ref (b + 0)), (1, .int (nI j)), (2, .int o)] rfl ?_
      refine z_aload_n C d_Mdl_latch_36 rfl 1 rfl ?_
      refine gB_Mdl_latched C d_Mdl_latch_37 tw_752  ?_
      refine z_iload_n C d_Mdl_latch_40 rfl 2 rfl ?_
      refine z_iload_n C d_Mdl_latch_41 rfl 3 rfl ?_
      refine stB_m_latched C (q := j) d_Mdl_latch_42 rfl hj ho1 ?_
      refine z_iload_n C d_Mdl_latch_43 rfl 0 rfl ?_
      refine z_if_eq C 51 d_Mdl_latch_44 (by decide) (fun h44 => ?_) (fun h44 => False.elim (absurd (by decide) h44))
      refine z_iconst C (v := 0) d_Mdl_latch_51 (by decide) ?_
      exact hret _ _ _ _ d_Mdl_latch_52 (Pm_ok (us σ 40 j 0 o) (by simp only [latchF, hcj]; simp only [h11, hq, if_true, if_false]) (by rw [us_f (by decide), us_f (by decide)]; exact Rl_latchF h0))
    · have hk := h0.2.2.2.2.2.2.2.1 j hj
      have hq : ¬ σ.1 40 j 0 0 = o := fun z => h27 (hk.1.trans z)
      refine z_iconst C (v := 1) d_Mdl_latch_30 (by decide) ?_
      refine z_goto C 35 d_Mdl_latch_31 (by decide) ?_
      refine z_istore_n C d_Mdl_latch_35 rfl (by decide) [(3, .int 1), (0, .ref (b + 0)), (1, .int (nI j)), (2, .int o)] rfl ?_
      refine z_aload_n C d_Mdl_latch_36 rfl 1 rfl ?_
      refine gB_Mdl_latched C d_Mdl_latch_37 tw_752  ?_
      refine z_iload_n C d_Mdl_latch_40 rfl 2 rfl ?_
      refine z_iload_n C d_Mdl_latch_41 rfl 3 rfl ?_
      refine stB_m_latched C (q := j) d_Mdl_latch_42 rfl hj ho1 ?_
      refine z_iload_n C d_Mdl_latch_43 rfl 0 rfl ?_
      refine z_if_eq C 51 d_Mdl_latch_44 (by decide) (fun h44 => False.elim (absurd h44 (by decide))) (fun h44 => ?_)
      refine z_iconst C (v := 1) d_Mdl_latch_47 (by decide) ?_
      refine z_goto C 52 d_Mdl_latch_48 (by decide) ?_
      exact hret _ _ _ _ d_Mdl_latch_52 (Pm_ok (us σ 40 j 0 o) (by simp only [latchF, hcj]; simp only [h11, hq, if_true, if_false]) (by rw [us_f (by decide), us_f (by decide)]; exact Rl_latchF h0))
  · refine z_aload_n C d_Mdl_latch_14 rfl 0 rfl ?_
    refine z_iconst C (v := 1) d_Mdl_latch_15 (by decide) ?_
    refine zf_Vi C d_Mdl_latch_16 (c_Mdl_raise l D ca b τ0 1) tw_891 tw_893 tp_Mdl_raise tw_10 tw_894 pd_Mdl_raise ⟨⟨by decide, by decide⟩, rfl, rfl, by decide, by decide⟩ (by omega) rfl (eB_Mdl ) rfl (Nat.le_of_ble_eq_true rfl) rfl ?_
    exact hret _ _ _ _ d_Mdl_latch_19 (Pm_err xIAE (by simp [latchF, *]) (by decide +kernel) (Rl_e h0))
theorem Rl_keepF {e p a : Int32} {σ τ : Sg} {j : Nat} {o : Int32} (h0 : Rl e p a σ τ) : Rl e p a (us σ 41 j 0 o) (upA τ (118, 0, 0) (upd (τ.1 118 0 0) j o)) := by
  have hσ : Off [41] σ (us σ 41 j 0 o) := Off.rf.us (by decide)
  have ho : Off [118] τ (upA τ (118, 0, 0) (upd (τ.1 118 0 0) j o)) := Off.rf.uA (by decide)
  refine h0.upd [41] [118] hσ ho (by rw [ho.at (by decide)]; exact h0.1) (Or.inl ⟨rfl, rfl, rfl⟩) (Or.inl rfl) (Or.inl rfl) (Or.inl rfl) (Or.inl rfl) (Or.inl rfl) (Or.inr ?_) (Or.inl rfl) (Or.inl rfl) (Or.inl rfl) (Or.inl rfl) (Or.inl rfl) (Or.inl rfl) (Or.inl rfl)
  intro t ht
  obtain ⟨k1, k2, k3, k4⟩ := h0.2.2.2.2.2.2.2.1 t ht
  by_cases hj : t = j
  · subst hj
    simp [us, upA, pk_us, k1, k2, k3]
    exact k4
  · simp [us, upA, pk_un hj, hj, k1, k2, k3]
    exact k4
set_option maxRecDepth 100000 in
set_option maxHeartbeats 4000000 in
/-- keepF of the model -/
theorem c_Mdl_keep (l : Launch) (D : va_G) (ca : Nat → ClassId) (b : Nat) (τ : Sg) {σ : Sg} (e : Int32) (x o : Int32) (ho1 : o = 0 ∨ o = 1) (h : Rl e (σ.1 3 0 0 0) (σ.1 4 0 0 0) σ τ) : CtI l D ca SM b 31 y_Mdl_keep w_Mdl_keep (rmN 1 22) τ [.ref (b + 0), .int x, .int o] (fun r τ' => Pm [xIAE] (keepF σ x o) r τ') := by
  refine ct_i "RobotBusModel" [(0, .ref (b + 0)), (1, .int x), (2, .int o)] (by decide) rfl (Nat.le_of_ble_eq_true rfl) rfl (fun X C hret => ?_)
  refine z_aload_n C d_Mdl_keep_0 rfl 0 rfl ?_
  refine z_iconst C (v := 0) d_Mdl_keep_1 (by decide) ?_
  refine pB_Mdl_thrown C d_Mdl_keep_2 tw_739  ?_
  have h0 := Rl_e (e' := 0) h
  generalize us τ 100 0 0 0 = τ0 at h0 ⊢
  refine z_iload_n C d_Mdl_keep_5 rfl 1 rfl ?_
  refine z_iconst C (v := 0) d_Mdl_keep_6 (by decide) ?_
  refine z_iconst C (v := 5) d_Mdl_keep_7 (by decide) ?_
  refine zf_Si C d_Mdl_keep_8 (c_Mdl_in l D ca b τ0 x 0 5) tw_888 tw_889 tw_10 tw_890 pd_Mdl_in ⟨⟨by decide, by decide⟩, rfl, rfl, by decide, by decide⟩ (Nat.le_of_ble_eq_true rfl) rfl ?_
  refine z_ri (x' := bel x 6) (wit0_bel x 5 (by decide)) ?_
  refine z_if_ne C 20 d_Mdl_keep_11 (by decide) (fun h11 => ?_) (fun h11 => ?_)
  · obtain ⟨j, hj, rfl⟩ := bel_nat (n := 6) (by decide) h11
    have hcj : (nI j).toNatClampNeg = j := nI_clamp (by omega)
    refine z_aload_n C d_Mdl_keep_20 rfl 0 rfl ?_
    refine gB_Mdl_kept C d_Mdl_keep_21 tw_757  ?_
    refine z_iload_n C d_Mdl_keep_24 rfl 1 rfl ?_
    refine lB_m_kept C (q := j) d_Mdl_keep_25 rfl hj ?_
    refine z_iload_n C d_Mdl_keep_26 rfl 2 rfl ?_
    refine z_icmp_eq C 34 d_Mdl_keep_27 (by decide) (fun h27 => ?_) (fun h27 => ?_)
    · have hk := h0.2.2.2.2.2.2.2.1 j hj
      have hq : σ.1 41 j 0 0 = o := hk.2.1.symm.trans h27
      refine z_iconst C (v := 0) d_Mdl_keep_34 (by decide) ?_
      refine z_istore_n C d_Mdl_keep_35 rfl (by decide) [(3, .int 0), (0, .ref (b + 0)), (1, .int (nI j)), (2, .int o)] rfl ?_
      refine z_aload_n C d_Mdl_keep_36 rfl 1 rfl ?_
      refine gB_Mdl_kept C d_Mdl_keep_37 tw_757  ?_
      refine z_iload_n C d_Mdl_keep_40 rfl 2 rfl ?_
      refine z_iload_n C d_Mdl_keep_41 rfl 3 rfl ?_
      refine stB_m_kept C (q := j) d_Mdl_keep_42 rfl hj ho1 ?_
      refine z_iload_n C d_Mdl_keep_43 rfl 0 rfl ?_
      refine z_if_eq C 51 d_Mdl_keep_44 (by decide) (fun h44 => ?_) (fun h44 => False.elim (absurd (by decide) h44))
      refine z_iconst C (v := 0) d_Mdl_keep_51 (by decide) ?_
      exact hret _ _ _ _ d_Mdl_keep_52 (Pm_ok (us σ 41 j 0 o) (by simp only [keepF, hcj]; simp only [h11, hq, if_true, if_false]) (by rw [us_f (by decide), us_f (by decide)]; exact Rl_keepF h0))
    · have hk := h0.2.2.2.2.2.2.2.1 j hj
      have hq : ¬ σ.1 41 j 0 0 = o := fun z => h27 (hk.2.1.trans z)
      refine z_iconst C (v := 1) d_Mdl_keep_30 (by decide) ?_
      refine z_goto C 35 d_Mdl_keep_31 (by decide) ?_
      refine z_istore_n C d_Mdl_keep_35 rfl (by decide) [(3, .int 1), (0, .ref (b + 0)), (1, .int (nI j)), (2, .int o)] rfl ?_
      refine z_aload_n C d_Mdl_keep_36 rfl 1 rfl ?_
      refine gB_Mdl_kept C d_Mdl_keep_37 tw_757  ?_
      refine z_iload_n C d_Mdl_keep_40 rfl 2 rfl ?_
      refine z_iload_n C d_Mdl_keep_41 rfl 3 rfl ?_
      refine stB_m_kept C (q := j) d_Mdl_keep_42 rfl hj ho1 ?_
      refine z_iload_n C d_Mdl_keep_43 rfl 0 rfl ?_
      refine z_if_eq C 51 d_Mdl_keep_44 (by decide) (fun h44 => False.elim (absurd h44 (by decide))) (fun h44 => ?_)
      refine z_iconst C (v := 1) d_Mdl_keep_47 (by decide) ?_
      refine z_goto C 52 d_Mdl_keep_48 (by decide) ?_
      exact hret _ _ _ _ d_Mdl_keep_52 (Pm_ok (us σ 41 j 0 o) (by simp only [keepF, hcj]; simp only [h11, hq, if_true, if_false]) (by rw [us_f (by decide), us_f (by decide)]; exact Rl_keepF h0))
  · refine z_aload_n C d_Mdl_keep_14 rfl 0 rfl ?_
    refine z_iconst C (v := 1) d_Mdl_keep_15 (by decide) ?_
    refine zf_Vi C d_Mdl_keep_16 (c_Mdl_raise l D ca b τ0 1) tw_891 tw_893 tp_Mdl_raise tw_10 tw_894 pd_Mdl_raise ⟨⟨by decide, by decide⟩, rfl, rfl, by decide, by decide⟩ (by omega) rfl (eB_Mdl ) rfl (Nat.le_of_ble_eq_true rfl) rfl ?_
    exact hret _ _ _ _ d_Mdl_keep_19 (Pm_err xIAE (by simp [keepF, *]) (by decide +kernel) (Rl_e h0))
set_option maxRecDepth 100000 in
set_option maxHeartbeats 4000000 in
/-- varF' of the model -/
theorem c_Mdl_variable (l : Launch) (D : va_G) (ca : Nat → ClassId) (b : Nat) (τ : Sg) {σ : Sg} (e : Int32) (x v : Int32) (h : Rl e (σ.1 3 0 0 0) (σ.1 4 0 0 0) σ τ) : CtI l D ca SM b 31 y_Mdl_variable w_Mdl_variable (rmN 2 44) τ [.ref (b + 0), .int x, .int v] (fun r τ' => Pm [xNSE, xIAE] (varF' σ x v) r τ') := by
  refine ct_i "RobotBusModel" [(0, .ref (b + 0)), (1, .int x), (2, .int v)] (by decide) rfl (Nat.le_of_ble_eq_true rfl) rfl (fun X C hret => ?_)
  refine z_aload_n C d_Mdl_variable_0 rfl 0 rfl ?_
  refine z_iconst C (v := 0) d_Mdl_variable_1 (by decide) ?_
  refine pB_Mdl_thrown C d_Mdl_variable_2 tw_739  ?_
  have h0 := Rl_e (e' := 0) h
  generalize us τ 100 0 0 0 = τ0 at h0 ⊢
  refine z_aload_n C d_Mdl_variable_5 rfl 0 rfl ?_
  refine z_iload_n C d_Mdl_variable_6 rfl 1 rfl ?_
  refine zf_Vi C d_Mdl_variable_7 (c_Mdl_noNode l D ca b τ0 x) tw_899 tw_901 tp_Mdl_noNode tw_10 tw_902 pd_Mdl_noNode ⟨⟨by decide, by decide⟩, rfl, rfl, by decide, by decide⟩ (by omega) rfl (eB_Mdl ) rfl (Nat.le_of_ble_eq_true rfl) rfl ?_
  refine z_if_eq C 19 d_Mdl_variable_10 (by decide) (fun h10 => ?_) (fun h10 => ?_)
  · have hth := (isNo_th h0 _).mp h10
    obtain ⟨j, hj, rfl, hpj⟩ := isTh_nat hth
    have hcj : (nI j).toNatClampNeg = j := nI_clamp (by omega)
    refine z_iload_n C d_Mdl_variable_19 rfl 2 rfl ?_
    refine z_iconst C (v := 0) d_Mdl_variable_20 (by decide) ?_
    refine z_iconst C (v := 3) d_Mdl_variable_21 (by decide) ?_
    refine zf_Si C d_Mdl_variable_22 (c_Mdl_in l D ca b τ0 v 0 3) tw_888 tw_889 tw_10 tw_890 pd_Mdl_in ⟨⟨by decide, by decide⟩, rfl, rfl, by decide, by decide⟩ (Nat.le_of_ble_eq_true rfl) rfl ?_
    refine z_ri (x' := bel v 4) (wit0_bel v 3 (by decide)) ?_
    refine z_if_eq C 41 d_Mdl_variable_25 (by decide) (fun h25 => ?_) (fun h25 => ?_)
    · refine z_aload_n C d_Mdl_variable_41 rfl 0 rfl ?_
      refine z_iconst C (v := 2) d_Mdl_variable_42 (by decide) ?_
      refine zf_Vi C d_Mdl_variable_43 (c_Mdl_raise l D ca b τ0 2) tw_891 tw_893 tp_Mdl_raise tw_10 tw_894 pd_Mdl_raise ⟨⟨by decide, by decide⟩, rfl, rfl, by decide, by decide⟩ (by omega) rfl (eB_Mdl ) rfl (Nat.le_of_ble_eq_true rfl) rfl ?_
      exact hret _ _ _ _ d_Mdl_variable_46 (Pm_err xIAE (by simp [varF', *]) (by decide +kernel) (Rl_e h0))
    · obtain ⟨u, hu, rfl⟩ := bel_nat (n := 4) (by decide) h25
      have hcu : (nI u).toNatClampNeg = u := nI_clamp (by omega)
      refine z_aload_n C d_Mdl_variable_28 rfl 0 rfl ?_
      refine gB_Mdl_vars C d_Mdl_variable_29 tw_742  ?_
      refine z_iconst C (v := 4) d_Mdl_variable_32 (by decide) ?_
      refine z_iload_n C d_Mdl_variable_33 rfl 1 rfl ?_
      refine z_imul C d_Mdl_variable_34 ?_
      refine z_iload_n C d_Mdl_variable_35 rfl 2 rfl ?_
      refine z_iadd C d_Mdl_variable_36 ?_
      refine lB_m_vars C (q := ((4 * j) + u)) d_Mdl_variable_37  (nadd (nmul (rfl : (4 : Int32) = nI 4) rfl) rfl) (by omega) ?_
      refine z_goto C 46 d_Mdl_variable_38 (by decide) ?_
      exact hret _ _ _ _ d_Mdl_variable_46 (Pm_ok σ (by simp [varF', *, (h0.2.2.2.1 j hj u hu).1 hpj]) h0)
  · have hth : isTh σ x = 0 := Decidable.byContradiction (fun z => h10 ((isNo_th h0 _).mpr z))
    refine z_aload_n C d_Mdl_variable_13 rfl 0 rfl ?_
    refine z_iconst C (v := 1) d_Mdl_variable_14 (by decide) ?_
    refine zf_Vi C d_Mdl_variable_15 (c_Mdl_raise l D ca b τ0 1) tw_891 tw_893 tp_Mdl_raise tw_10 tw_894 pd_Mdl_raise ⟨⟨by decide, by decide⟩, rfl, rfl, by decide, by decide⟩ (by omega) rfl (eB_Mdl ) rfl (Nat.le_of_ble_eq_true rfl) rfl ?_
    exact hret _ _ _ _ d_Mdl_variable_18 (Pm_err xNSE (by simp [varF', *]) (by decide +kernel) (Rl_e h0))
set_option maxRecDepth 100000 in
set_option maxHeartbeats 4000000 in
/-- queuF of the model -/
theorem c_Mdl_queued (l : Launch) (D : va_G) (ca : Nat → ClassId) (b : Nat) (τ : Sg) {σ : Sg} (e : Int32) (x y k w : Int32) (h : Rl e (σ.1 3 0 0 0) (σ.1 4 0 0 0) σ τ) : CtI l D ca SM b 31 y_Mdl_queued w_Mdl_queued (rmN 2 44) τ [.ref (b + 0), .int x, .int y, .int k, .int w] (fun r τ' => Pm [xNSE, xIAE] (queuF σ x y k w) r τ') := by
  refine ct_i "RobotBusModel" [(0, .ref (b + 0)), (1, .int x), (2, .int y), (3, .int k), (4, .int w)] (by decide) rfl (Nat.le_of_ble_eq_true rfl) rfl (fun X C hret => ?_)
  refine z_aload_n C d_Mdl_queued_0 rfl 0 rfl ?_
  refine z_iconst C (v := 0) d_Mdl_queued_1 (by decide) ?_
  refine pB_Mdl_thrown C d_Mdl_queued_2 tw_739  ?_
  have h0 := Rl_e (e' := 0) h
  generalize us τ 100 0 0 0 = τ0 at h0 ⊢
  refine z_aload_n C d_Mdl_queued_5 rfl 0 rfl ?_
  refine z_iload_n C d_Mdl_queued_6 rfl 1 rfl ?_
  refine zf_Vi C d_Mdl_queued_7 (c_Mdl_noNode l D ca b τ0 x) tw_899 tw_901 tp_Mdl_noNode tw_10 tw_902 pd_Mdl_noNode ⟨⟨by decide, by decide⟩, rfl, rfl, by decide, by decide⟩ (by omega) rfl (eB_Mdl ) rfl (Nat.le_of_ble_eq_true rfl) rfl ?_
  refine z_if_ne C 41 d_Mdl_queued_10 (by decide) (fun h10 => ?_) (fun h10 => ?_)
  · have hth : isTh σ x = 0 := Decidable.byContradiction (fun z => h10 ((isNo_th h0 _).mpr z))
    refine z_aload_n C d_Mdl_queued_41 rfl 0 rfl ?_
    refine z_iconst C (v := 1) d_Mdl_queued_42 (by decide) ?_
    refine zf_Vi C d_Mdl_queued_43 (c_Mdl_raise l D ca b τ0 1) tw_891 tw_893 tp_Mdl_raise tw_10 tw_894 pd_Mdl_raise ⟨⟨by decide, by decide⟩, rfl, rfl, by decide, by decide⟩ (by omega) rfl (eB_Mdl ) rfl (Nat.le_of_ble_eq_true rfl) rfl ?_
    exact hret _ _ _ _ d_Mdl_queued_46 (Pm_err xNSE (by simp [queuF, *]) (by decide +kernel) (Rl_e h0))
  · have hth := (isNo_th h0 _).mp h10
    obtain ⟨j, hj, rfl, hpj⟩ := isTh_nat hth
    have hcj : (nI j).toNatClampNeg = j := nI_clamp (by omega)
    refine z_iload_n C d_Mdl_queued_13 rfl 2 rfl ?_
    refine z_iconst C (v := 0) d_Mdl_queued_14 (by decide) ?_
    refine z_iconst C (v := 5) d_Mdl_queued_15 (by decide) ?_
    refine zf_Si C d_Mdl_queued_16 (c_Mdl_in l D ca b τ0 y 0 5) tw_888 tw_889 tw_10 tw_890 pd_Mdl_in ⟨⟨by decide, by decide⟩, rfl, rfl, by decide, by decide⟩ (Nat.le_of_ble_eq_true rfl) rfl ?_
    refine z_ri (x' := bel y 6) (wit0_bel y 5 (by decide)) ?_
    refine z_if_eq C 41 d_Mdl_queued_19 (by decide) (fun h19 => ?_) (fun h19 => ?_)
    · refine z_aload_n C d_Mdl_queued_41 rfl 0 rfl ?_
      refine z_iconst C (v := 1) d_Mdl_queued_42 (by decide) ?_
      refine zf_Vi C d_Mdl_queued_43 (c_Mdl_raise l D ca b τ0 1) tw_891 tw_893 tp_Mdl_raise tw_10 tw_894 pd_Mdl_raise ⟨⟨by decide, by decide⟩, rfl, rfl, by decide, by decide⟩ (by omega) rfl (eB_Mdl ) rfl (Nat.le_of_ble_eq_true rfl) rfl ?_
      exact hret _ _ _ _ d_Mdl_queued_46 (Pm_err xNSE (by simp [queuF, *]) (by decide +kernel) (Rl_e h0))
    · obtain ⟨t, ht, rfl⟩ := bel_nat (n := 6) (by decide) h19
      have hct : (nI t).toNatClampNeg = t := nI_clamp (by omega)
      refine z_iload_n C d_Mdl_queued_22 rfl 3 rfl ?_
      refine z_if_lt C 41 d_Mdl_queued_23 (by decide) (fun h23 => ?_) (fun h23 => ?_)
      · have hb : bel k (σ.1 34 j t 0) = 0 := by unfold bel; rw [if_pos h23]
        refine z_aload_n C d_Mdl_queued_41 rfl 0 rfl ?_
        refine z_iconst C (v := 1) d_Mdl_queued_42 (by decide) ?_
        refine zf_Vi C d_Mdl_queued_43 (c_Mdl_raise l D ca b τ0 1) tw_891 tw_893 tp_Mdl_raise tw_10 tw_894 pd_Mdl_raise ⟨⟨by decide, by decide⟩, rfl, rfl, by decide, by decide⟩ (by omega) rfl (eB_Mdl ) rfl (Nat.le_of_ble_eq_true rfl) rfl ?_
        exact hret _ _ _ _ d_Mdl_queued_46 (Pm_err xNSE (by simp [queuF, *]) (by decide +kernel) (Rl_e h0))
      · refine z_iload_n C d_Mdl_queued_26 rfl 3 rfl ?_
        refine z_aload_n C d_Mdl_queued_27 rfl 0 rfl ?_
        refine gB_Mdl_waiting C d_Mdl_queued_28 tw_745  ?_
        refine z_bipush C (v := 6) d_Mdl_queued_31 (by decide) ?_
        refine z_iload_n C d_Mdl_queued_33 rfl 1 rfl ?_
        refine z_imul C d_Mdl_queued_34 ?_
        refine z_iload_n C d_Mdl_queued_35 rfl 2 rfl ?_
        refine z_iadd C d_Mdl_queued_36 ?_
        refine lB_m_waiting C (q := ((6 * j) + t)) d_Mdl_queued_37  (nadd (nmul (rfl : (6 : Int32) = nI 6) rfl) rfl) (by omega) ?_
        refine z_icmp_lt C 47 d_Mdl_queued_38 (by decide) (fun h38 => ?_) (fun h38 => ?_)
        · have hQ := h0.2.2.2.2.2.1 j hj t ht
          have hz := h0.2.2.2.2.2.2.2.2.2.2.2.2.2.2.1 j t hj ht
          have hb : bel k (σ.1 34 j t 0) = 1 := by
            rw [← hQ.2.1]
            unfold bel
            rw [if_neg h23, if_neg (fun z => absurd h38 (Int32.not_lt.mpr z))]
          have hb2 : ¬ bel k (nI (qsz σ j t)) = 0 := by
            rw [← hz.1, hb]; decide
          obtain ⟨i, hi, rfl⟩ := bel_nat (n := qsz σ j t) (by omega) hb2
          have hci : (nI i).toNatClampNeg = i := nI_clamp (by omega)
          have hv := hQ.2.2 i (by show i < qsz σ j t; exact hi)
          have hi4 : i < 4 := by omega
          refine z_iconst C (v := 4) d_Mdl_queued_47 (by decide) ?_
          refine z_bipush C (v := 6) d_Mdl_queued_48 (by decide) ?_
          refine z_iload_n C d_Mdl_queued_50 rfl 1 rfl ?_
          refine z_imul C d_Mdl_queued_51 ?_
          refine z_iload_n C d_Mdl_queued_52 rfl 2 rfl ?_
          refine z_iadd C d_Mdl_queued_53 ?_
          refine z_imul C d_Mdl_queued_54 ?_
          refine z_iload_n C d_Mdl_queued_55 rfl 3 rfl ?_
          refine z_iadd C d_Mdl_queued_56 ?_
          refine z_ri (x' := nI ((4 * ((6 * j) + t)) + i)) (nadd (nmul (rfl : (4 : Int32) = nI 4) (nadd (nmul (rfl : (6 : Int32) = nI 6) rfl) rfl)) rfl) ?_
          refine z_istore C d_Mdl_queued_57 (by decide) [(5, .int (nI ((4 * ((6 * j) + t)) + i))), (0, .ref (b + 0)), (1, .int (nI j)), (2, .int (nI t)), (3, .int (nI i)), (4, .int w)] rfl ?_
          refine z_iload C d_Mdl_queued_59 5 rfl ?_
          by_cases q61_0 : w = 0
          · refine z_ri q61_0 ?_
            refine z_tableIn C 88 d_Mdl_queued_61 (off := 27) (by decide) (by decide) (by decide) (by decide) ?_
            refine z_aload_n C d_Mdl_queued_88 rfl 1 rfl ?_
            refine gB_Mdl_value C d_Mdl_queued_89 tw_746  ?_
            refine z_iload C d_Mdl_queued_92 0 rfl ?_
            refine lB_m_value C (q := ((4 * ((6 * j) + t)) + i)) d_Mdl_queued_94  rfl (by omega) ?_
            exact hret _ _ _ _ d_Mdl_queued_95 (Pm_ok σ (by simp [queuF, *, show bel 0 3 = 1 by decide, show bel 1 3 = 1 by decide, show bel 2 3 = 1 by decide, show cn 0 = 0 by decide, show cn 1 = 1 by decide, show cn 2 = 2 by decide]) h0)
          by_cases q61_1 : w = 1
          · refine z_ri q61_1 ?_
            refine z_tableIn C 96 d_Mdl_queued_61 (off := 35) (by decide) (by decide) (by decide) (by decide) ?_
            refine z_aload_n C d_Mdl_queued_96 rfl 1 rfl ?_
            refine gB_Mdl_sender C d_Mdl_queued_97 tw_747  ?_
            refine z_iload C d_Mdl_queued_100 0 rfl ?_
            refine lB_m_sender C (q := ((4 * ((6 * j) + t)) + i)) d_Mdl_queued_102  rfl (by omega) ?_
            exact hret _ _ _ _ d_Mdl_queued_103 (Pm_ok σ (by simp [queuF, *, show bel 0 3 = 1 by decide, show bel 1 3 = 1 by decide, show bel 2 3 = 1 by decide, show cn 0 = 0 by decide, show cn 1 = 1 by decide, show cn 2 = 2 by decide]) h0)
          by_cases q61_2 : w = 2
          · refine z_ri q61_2 ?_
            refine z_tableIn C 104 d_Mdl_queued_61 (off := 43) (by decide) (by decide) (by decide) (by decide) ?_
            refine z_aload_n C d_Mdl_queued_104 rfl 1 rfl ?_
            refine gB_Mdl_stamp C d_Mdl_queued_105 tw_748  ?_
            refine z_iload C d_Mdl_queued_108 0 rfl ?_
            refine lB_m_stamp C (q := ((4 * ((6 * j) + t)) + i)) d_Mdl_queued_110  rfl (by omega) ?_
            exact hret _ _ _ _ d_Mdl_queued_111 (Pm_ok σ (by simp [queuF, *, show bel 0 3 = 1 by decide, show bel 1 3 = 1 by decide, show bel 2 3 = 1 by decide, show cn 0 = 0 by decide, show cn 1 = 1 by decide, show cn 2 = 2 by decide]) h0)
          refine z_tableOut C 112 d_Mdl_queued_61 (by have e0 := lv_neT q61_0 (a := 0) (by decide); have e1 := lv_neT q61_1 (a := 1) (by decide); have e2 := lv_neT q61_2 (a := 2) (by decide); omega) (by decide) ?_
          have hb3 : bel w 3 = 0 := Decidable.byContradiction (fun z => by
            obtain ⟨y, hy, rfl⟩ := bel_nat (n := 3) (by decide) z
            have h9 : y = 0 ∨ y = 1 ∨ y = 2 := by omega
            rcases h9 with rfl | rfl | rfl
            · exact q61_0 rfl
            · exact q61_1 rfl
            · exact q61_2 rfl)
          refine z_aload_n C d_Mdl_queued_112 rfl 1 rfl ?_
          refine z_iconst C (v := 2) d_Mdl_queued_113 (by decide) ?_
          refine zf_Vi C d_Mdl_queued_114 (c_Mdl_raise l D ca b τ0 2) tw_891 tw_893 tp_Mdl_raise tw_10 tw_894 pd_Mdl_raise ⟨⟨by decide, by decide⟩, rfl, rfl, by decide, by decide⟩ (by omega) rfl (eB_Mdl ) rfl (Nat.le_of_ble_eq_true rfl) rfl ?_
          exact hret _ _ _ _ d_Mdl_queued_117 (Pm_err xIAE (by simp [queuF, *]) (by decide +kernel) (Rl_e h0))
        · have hQ := h0.2.2.2.2.2.1 j hj t ht
          have hb : bel k (σ.1 34 j t 0) = 0 := by
            rw [← hQ.2.1]
            unfold bel
            rw [if_neg h23, if_pos (Int32.not_lt.mp h38)]
          refine z_aload_n C d_Mdl_queued_41 rfl 0 rfl ?_
          refine z_iconst C (v := 1) d_Mdl_queued_42 (by decide) ?_
          refine zf_Vi C d_Mdl_queued_43 (c_Mdl_raise l D ca b τ0 1) tw_891 tw_893 tp_Mdl_raise tw_10 tw_894 pd_Mdl_raise ⟨⟨by decide, by decide⟩, rfl, rfl, by decide, by decide⟩ (by omega) rfl (eB_Mdl ) rfl (Nat.le_of_ble_eq_true rfl) rfl ?_
          exact hret _ _ _ _ d_Mdl_queued_46 (Pm_err xNSE (by simp [queuF, *]) (by decide +kernel) (Rl_e h0))
set_option maxRecDepth 100000 in
set_option maxHeartbeats 4000000 in
/-- countF of the model -/
theorem c_Mdl_count (l : Launch) (D : va_G) (ca : Nat → ClassId) (b : Nat) (τ : Sg) {σ : Sg} (e : Int32) (w : Int32) (h : Rl e (σ.1 3 0 0 0) (σ.1 4 0 0 0) σ τ) : CtI l D ca SM b 31 y_Mdl_count w_Mdl_count (rmN 1 22) τ [.ref (b + 0), .int w] (fun r τ' => Pm [xIAE] (countF σ w) r τ') := by
  refine ct_i "RobotBusModel" [(0, .ref (b + 0)), (1, .int w)] (by decide) rfl (Nat.le_of_ble_eq_true rfl) rfl (fun X C hret => ?_)
  refine z_aload_n C d_Mdl_count_0 rfl 0 rfl ?_
  refine z_iconst C (v := 0) d_Mdl_count_1 (by decide) ?_
  refine pB_Mdl_thrown C d_Mdl_count_2 tw_739  ?_
  have h0 := Rl_e (e' := 0) h
  generalize us τ 100 0 0 0 = τ0 at h0 ⊢
  refine z_iload_n C d_Mdl_count_5 rfl 1 rfl ?_
  by_cases q6_0 : w = 0
  · refine z_ri q6_0 ?_
    refine z_tableIn C 48 d_Mdl_count_6 (off := 42) (by decide) (by decide) (by decide) (by decide) ?_
    refine z_aload_n C d_Mdl_count_48 rfl 0 rfl ?_
    refine gB_Mdl_clock C d_Mdl_count_49 tw_740  ?_
    exact hret _ _ _ _ d_Mdl_count_52 (Pm_ok σ (by simp [countF, *, h0.2.1.1, h0.2.1.2.1, h0.2.1.2.2.1, h0.2.1.2.2.2.1, h0.2.1.2.2.2.2, h0.2.2.2.2.2.2.2.2.2.2.1.1]) h0)
  by_cases q6_1 : w = 1
  · refine z_ri q6_1 ?_
    refine z_tableIn C 53 d_Mdl_count_6 (off := 47) (by decide) (by decide) (by decide) (by decide) ?_
    refine z_aload_n C d_Mdl_count_53 rfl 0 rfl ?_
    refine gB_Mdl_lost C d_Mdl_count_54 tw_780  ?_
    exact hret _ _ _ _ d_Mdl_count_57 (Pm_ok σ (by simp [countF, *, h0.2.1.1, h0.2.1.2.1, h0.2.1.2.2.1, h0.2.1.2.2.2.1, h0.2.1.2.2.2.2, h0.2.2.2.2.2.2.2.2.2.2.1.1]) h0)
  by_cases q6_2 : w = 2
  · refine z_ri q6_2 ?_
    refine z_tableIn C 58 d_Mdl_count_6 (off := 52) (by decide) (by decide) (by decide) (by decide) ?_
    refine z_aload_n C d_Mdl_count_58 rfl 0 rfl ?_
    refine gB_Mdl_published C d_Mdl_count_59 tw_781  ?_
    exact hret _ _ _ _ d_Mdl_count_62 (Pm_ok σ (by simp [countF, *, h0.2.1.1, h0.2.1.2.1, h0.2.1.2.2.1, h0.2.1.2.2.2.1, h0.2.1.2.2.2.2, h0.2.2.2.2.2.2.2.2.2.2.1.1]) h0)
  by_cases q6_3 : w = 3
  · refine z_ri q6_3 ?_
    refine z_tableIn C 63 d_Mdl_count_6 (off := 57) (by decide) (by decide) (by decide) (by decide) ?_
    refine z_aload_n C d_Mdl_count_63 rfl 0 rfl ?_
    refine gB_Mdl_bag C d_Mdl_count_64 tw_765  ?_
    exact hret _ _ _ _ d_Mdl_count_67 (Pm_ok σ (by simp [countF, *, h0.2.1.1, h0.2.1.2.1, h0.2.1.2.2.1, h0.2.1.2.2.2.1, h0.2.1.2.2.2.2, h0.2.2.2.2.2.2.2.2.2.2.1.1]) h0)
  by_cases q6_4 : w = 4
  · refine z_ri q6_4 ?_
    refine z_tableIn C 68 d_Mdl_count_6 (off := 62) (by decide) (by decide) (by decide) (by decide) ?_
    refine z_aload_n C d_Mdl_count_68 rfl 0 rfl ?_
    refine gB_Mdl_playing C d_Mdl_count_69 tw_766  ?_
    refine z_if_eq C 79 d_Mdl_count_72 (by decide) (fun h72 => ?_) (fun h72 => ?_)
    · have hpl : bPlay σ = 0 := h0.2.2.2.2.2.2.2.2.2.2.1.2.2.1.symm.trans h72
      refine z_iconst C (v := 0) d_Mdl_count_79 (by decide) ?_
      exact hret _ _ _ _ d_Mdl_count_80 (Pm_ok σ (by simp [countF, *, h0.2.1.1, h0.2.1.2.1, h0.2.1.2.2.1, h0.2.1.2.2.2.1, h0.2.1.2.2.2.2, h0.2.2.2.2.2.2.2.2.2.2.1.1]) h0)
    · have hpl : ¬ bPlay σ = 0 := fun z => h72 (h0.2.2.2.2.2.2.2.2.2.2.1.2.2.1.trans z)
      refine z_iconst C (v := 1) d_Mdl_count_75 (by decide) ?_
      refine z_goto C 80 d_Mdl_count_76 (by decide) ?_
      exact hret _ _ _ _ d_Mdl_count_80 (Pm_ok σ (by simp [countF, *, h0.2.1.1, h0.2.1.2.1, h0.2.1.2.2.1, h0.2.1.2.2.2.1, h0.2.1.2.2.2.2, h0.2.2.2.2.2.2.2.2.2.2.1.1]) h0)
  by_cases q6_5 : w = 5
  · refine z_ri q6_5 ?_
    refine z_tableIn C 81 d_Mdl_count_6 (off := 75) (by decide) (by decide) (by decide) (by decide) ?_
    refine z_aload_n C d_Mdl_count_81 rfl 0 rfl ?_
    refine gB_Mdl_actions C d_Mdl_count_82 tw_782  ?_
    exact hret _ _ _ _ d_Mdl_count_85 (Pm_ok σ (by simp [countF, *, h0.2.1.1, h0.2.1.2.1, h0.2.1.2.2.1, h0.2.1.2.2.2.1, h0.2.1.2.2.2.2, h0.2.2.2.2.2.2.2.2.2.2.1.1]) h0)
  by_cases q6_6 : w = 6
  · refine z_ri q6_6 ?_
    refine z_tableIn C 86 d_Mdl_count_6 (off := 80) (by decide) (by decide) (by decide) (by decide) ?_
    refine z_aload_n C d_Mdl_count_86 rfl 0 rfl ?_
    refine gB_Mdl_failures C d_Mdl_count_87 tw_783  ?_
    exact hret _ _ _ _ d_Mdl_count_90 (Pm_ok σ (by simp [countF, *, h0.2.1.1, h0.2.1.2.1, h0.2.1.2.2.1, h0.2.1.2.2.2.1, h0.2.1.2.2.2.2, h0.2.2.2.2.2.2.2.2.2.2.1.1]) h0)
  refine z_tableOut C 91 d_Mdl_count_6 (by have e0 := lv_neT q6_0 (a := 0) (by decide); have e1 := lv_neT q6_1 (a := 1) (by decide); have e2 := lv_neT q6_2 (a := 2) (by decide); have e3 := lv_neT q6_3 (a := 3) (by decide); have e4 := lv_neT q6_4 (a := 4) (by decide); have e5 := lv_neT q6_5 (a := 5) (by decide); have e6 := lv_neT q6_6 (a := 6) (by decide); omega) (by decide) ?_
  refine z_aload_n C d_Mdl_count_91 rfl 0 rfl ?_
  refine z_iconst C (v := 1) d_Mdl_count_92 (by decide) ?_
  refine zf_Vi C d_Mdl_count_93 (c_Mdl_raise l D ca b τ0 1) tw_891 tw_893 tp_Mdl_raise tw_10 tw_894 pd_Mdl_raise ⟨⟨by decide, by decide⟩, rfl, rfl, by decide, by decide⟩ (by omega) rfl (eB_Mdl ) rfl (Nat.le_of_ble_eq_true rfl) rfl ?_
  exact hret _ _ _ _ d_Mdl_count_96 (Pm_err xIAE (by simp [countF, *]) (by decide +kernel) (Rl_e h0))
