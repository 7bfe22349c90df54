/-! subscribe -/
def sbP (τ : Sg) (q w i : Nat) (ρ : Sg) : Prop := Off [106, 107, 108, 109, 141] τ ρ ∧ ρ.1 106 0 0 = upd (τ.1 106 0 0) q (nI (w - i)) ∧ ρ.1 141 0 0 0 = τ.1 141 0 0 0 + nI i ∧
  (∀ f, f = 107 ∨ f = 108 ∨ f = 109 → (∀ k, k < w - i → ρ.1 f 0 0 (4 * q + k) = τ.1 f 0 0 (4 * q + k + i)) ∧ ∀ x, x < 4 * q ∨ 4 * q + 4 ≤ x → ρ.1 f 0 0 x = τ.1 f 0 0 x)
theorem sbP_0 {τ : Sg} {q w : Nat} (hw : τ.1 106 0 0 q = nI w) : sbP τ q w 0 τ := by
  refine ⟨Off.rf, ?_, by rw [nI_0]; simp, fun f hf => ⟨fun k hk => rfl, fun x hx => rfl⟩⟩
  funext z
  by_cases h : z = q
  · subst h; rw [pk_us, hw]; rfl
  · rw [pk_un h]
theorem sbP_s {τ ρ ρ' : Sg} {q w i : Nat} (hi : i + 1 ≤ w) (hw : w ≤ 4) (h : sbP τ q w i ρ) (hs : shP ρ q (w - i - 1) (4 * q + (w - i - 1)) ρ') : sbP τ q w (i + 1) (us ρ' 141 0 0 (ρ'.1 141 0 0 0 + 1)) := by
  obtain ⟨h1, h2, h3, h4⟩ := h
  obtain ⟨s1, s2, s3, s4, s5⟩ := hs
  refine ⟨Off.us (h1.tr (s1.mono (by decide))) (by decide), ?_, ?_, fun f hf => ?_⟩
  · rw [us_f (by decide), s2, h2, upd_upd, show w - (i + 1) = w - i - 1 by omega]
  · rw [us_self, s1.at (by decide), h3, Int32.add_assoc, nI_1]
  · have e : (us ρ' 141 0 0 (ρ'.1 141 0 0 0 + 1)).1 f 0 0 = sh (ρ.1 f 0 0) (4 * q) (4 * q + (w - i - 1)) := by
      rw [us_f (by omega)]
      rcases hf with rfl | rfl | rfl
      · exact s3
      · exact s4
      · exact s5
    rw [e]
    refine ⟨fun k hk => ?_, fun x hx => ?_⟩
    · unfold sh
      rw [if_pos (by omega)]
      have := (h4 f hf).1 (k + 1) (by omega)
      rw [show 4 * q + k + 1 = 4 * q + (k + 1) by omega, this, show 4 * q + (k + 1) + i = 4 * q + k + (i + 1) by omega]
    · unfold sh
      rw [if_neg (by omega)]
      exact (h4 f hf).2 x hx
theorem qDropm_35 {σ : Sg} {i t q m j : Nat} (h : j < (q - m) * 3) : (qDrop σ i t q m).1 35 i t j = σ.1 35 i t (m * 3 + j) := by
  unfold qDrop
  rw [upA_self, pk_cpy_in (by omega) (by omega), show m * 3 + (j - 0) = m * 3 + j by omega]
theorem subD_35 {σ : Sg} {j t e : Nat} : (subD σ j t e).1 35 = (qDrop σ j t (qsz σ j t) (qsz σ j t - e)).1 35 := by
  unfold subD qDeep
  rw [us_f (by decide), us_f (by decide)]
theorem subD_off {σ : Sg} {j t e : Nat} : Off [2, 33, 34, 35] σ (subD σ j t e) := Off.us (Off.us (Off_qDrop (by decide) (by decide)) (by decide)) (by decide)
theorem subD_o {σ : Sg} {j t e i' t' f : Nat} (hf : f ≠ 2) (h : ¬ (i' = j ∧ t' = t)) : (subD σ j t e).1 f i' t' = σ.1 f i' t' := by
  unfold subD qDeep
  rw [us_f hf, us_ne (by simp; omega), qDrop_ne (by simp; omega) (by simp; omega)]
theorem Rl_sub {e0 p a : Int32} {σ τ ρ : Sg} {j t e : Nat} (hj : j < 6) (ht : t < 6) (hpj : ¬ σ.1 30 j 0 0 = 0) (he1 : 1 ≤ e) (he : e ≤ 4) (h0 : Rl e0 p a σ τ) (hp : sbP (upA τ (105, 0, 0) (upd (τ.1 105 0 0) (6 * j + t) (nI e))) (6 * j + t) (qsz σ j t) (qsz σ j t - e) ρ) : Rl e0 p a (subD σ j t e) ρ := by
  obtain ⟨p1, p2, p3, p4⟩ := hp
  have ho : Off [105, 106, 107, 108, 109, 141] τ ρ := Off.tr (Off.rf.uA (by decide)) (p1.mono (by decide))
  have hσ : Off [2, 33, 34, 35] σ (subD σ j t e) := subD_off
  have gBI := h0.2.2.2.2.2.2.2.2.2.2.2.2.2.2
  obtain ⟨z1, z2, z3, z4⟩ := gBI.1 j t hj ht
  have r5 : ρ.1 105 0 0 = upd (τ.1 105 0 0) (6 * j + t) (nI e) := by rw [p1.at (by decide), upA_self]
  rw [upA_f (by decide)] at p2
  rw [upA_f (by decide)] at p3
  have hQI : QI (subD σ j t e) := by
    intro i' t' hi' ht'
    by_cases hx : i' = j ∧ t' = t
    · obtain ⟨rfl, rfl⟩ := hx
      unfold qsz qdp
      rw [subD_33, subD_34, nI_clamp (by omega), nI_clamp (by omega)]
      exact ⟨rfl, rfl, by omega, by omega⟩
    · unfold qsz qdp
      rw [subD_o (by decide) hx, subD_o (by decide) hx]
      exact gBI.1 i' t' hi' ht'
  refine h0.upd [2, 33, 34, 35] [105, 106, 107, 108, 109, 141] hσ ho (by rw [ho.at (by decide)]; exact h0.1) (Or.inr ?_) (Or.inr ?_) (Or.inl rfl) (Or.inl rfl) (Or.inr ?_) (Or.inl rfl) (Or.inl rfl) (Or.inl rfl) (Or.inl rfl) (Or.inl rfl) (Or.inl rfl) (Or.inl rfl) (Or.inl rfl) (Or.inr ?_)
  · obtain ⟨c1, c2, c3, c4, c5⟩ := h0.2.1
    refine ⟨by rw [ho.at (by decide), hσ.at (by decide)]; exact c1, ?_, by rw [ho.at (by decide)]; exact c3, by rw [ho.at (by decide)]; exact c4, by rw [ho.at (by decide), hσ.at (by decide)]; exact c5⟩
    rw [p3, c2]
    unfold subD
    rw [us_self]
  · intro i' hi'
    obtain ⟨k1, k2⟩ := h0.2.2.1 i' hi'
    rw [ho.at (f := 102) (by decide), hσ.at (f := 30) (by decide)]
    refine ⟨k1, fun z t' ht' => ?_⟩
    have hx : ¬ (i' = j ∧ t' = t) := fun w => hpj (w.1 ▸ z)
    rw [subD_o (by decide) hx]
    exact k2 z t' ht'
  · intro i' hi' t' ht'
    obtain ⟨g1, g2, g3⟩ := h0.2.2.2.2.2.1 i' hi' t' ht'
    rw [r5, p2]
    have b7 := p4 107 (Or.inl rfl)
    have b8 := p4 108 (Or.inr (Or.inl rfl))
    have b9 := p4 109 (Or.inr (Or.inr rfl))
    rw [upA_f (by decide)] at b7 b8 b9
    by_cases hx : i' = j ∧ t' = t
    · obtain ⟨rfl, rfl⟩ := hx
      rw [pk_us, pk_us, subD_33, subD_34, nI_clamp (by omega), subD_35]
      refine ⟨rfl, rfl, fun k hk => ?_⟩
      rw [b7.1 k hk, b8.1 k hk, b9.1 k hk, qDropm_35 (by omega), qDropm_35 (by omega), qDropm_35 (by omega)]
      have := g3 (k + (qsz σ i' t' - e)) (by show _ < qsz σ i' t'; omega)
      rw [show 4 * (6 * i' + t') + (k + (qsz σ i' t' - e)) = 4 * (6 * i' + t') + k + (qsz σ i' t' - e) by omega, show (k + (qsz σ i' t' - e)) * 3 = (qsz σ i' t' - e) * 3 + k * 3 by omega] at this
      rw [show (qsz σ i' t' - e) * 3 + (k * 3 + 1) = (qsz σ i' t' - e) * 3 + k * 3 + 1 by omega, show (qsz σ i' t' - e) * 3 + (k * 3 + 2) = (qsz σ i' t' - e) * 3 + k * 3 + 2 by omega]
      exact this
    · have hn : 6 * i' + t' ≠ 6 * j + t := fun z => hx ⟨by omega, by omega⟩
      have hq4 : (σ.1 34 i' t' 0).toNatClampNeg ≤ 4 := by have := (gBI.1 i' t' hi' ht'); unfold qsz at this; omega
      rw [pk_un hn, pk_un hn, subD_o (by decide) hx, subD_o (by decide) hx, subD_o (by decide) hx]
      refine ⟨g1, g2, fun k hk => ?_⟩
      rw [b7.2 _ (by omega), b8.2 _ (by omega), b9.2 _ (by omega)]
      exact g3 k hk
  · exact BI_q hσ rfl hQI gBI
theorem Rl_2 {e p a y : Int32} {σ τ : Sg} (h : Rl e p a (us σ 2 0 0 y) τ) (hy : y = σ.1 2 0 0 0) : Rl e p a σ τ := by
  have hσ : Off [2] (us σ 2 0 0 y) σ := fun f hf => ⟨(us_f (fun z => hf (by simp [z]))).symm, rfl, rfl⟩
  refine h.upd [2] [] hσ Off.rf h.1 (Or.inr ?_) (Or.inl rfl) (Or.inl rfl) (Or.inl rfl) (Or.inl rfl) (Or.inl rfl) (Or.inl rfl) (Or.inl rfl) (Or.inl rfl) (Or.inl rfl) (Or.inl rfl) (Or.inl rfl) (Or.inl rfl) (Or.inl rfl)
  obtain ⟨c1, c2, c3, c4, c5⟩ := h.2.1
  rw [us_f (by decide)] at c1 c5
  rw [us_self] at c2
  exact ⟨c1, c2.trans hy, c3, c4, c5⟩
set_option maxRecDepth 100000 in
set_option maxHeartbeats 4000000 in
theorem lp_Mdl_sub (l : Launch) (D : va_G) (ca : Nat → ClassId) (b : Nat) {R : Room} {X : Zx} {y0 : MethodName} {c0 : ByteArray} {n0 : Nat} {r0 : Option FieldType} (hR : 1 ≤ R.frames ∧ 22 ≤ R.locals) (C : Cs D ca b_Mdl_subscribe 6 "RobotBusModel" (Cond.code y0 c0 n0 r0) X) (τ : Sg) {q w e : Nat} (hq : q < 36) (hw : w ≤ 4) (he : e ≤ 4) (fr x1 x2 : Int32) : ∀ m i, i + m = w - e → ∀ (ρ : Sg), sbP τ q w i ρ → (∀ ρ', sbP τ q w (w - e) ρ' → Zs l D ca SM b 31 R 6 X ρ' 153 [(5, .int fr), (4, .int (nI q)), (0, .ref (b + 0)), (1, .int x1), (2, .int x2), (3, .int (nI e))] []) → Zs l D ca SM b 31 R 6 X ρ 123 [(5, .int fr), (4, .int (nI q)), (0, .ref (b + 0)), (1, .int x1), (2, .int x2), (3, .int (nI e))] [] := by
  intro m
  induction m with
  | zero =>
    intro i hi ρ hp kk
    have hi6 : i = w - e := by omega
    have hwq : ρ.1 106 0 0 q = nI (w - i) := by rw [hp.2.1, pk_us]
    refine z_aload_n C d_Mdl_subscribe_123 rfl 2 rfl ?_
    refine gB_Mdl_waiting C d_Mdl_subscribe_124 tw_745  ?_
    refine z_iload C d_Mdl_subscribe_127 1 rfl ?_
    refine lB_m_waiting C (q := q) d_Mdl_subscribe_129  rfl (by omega) ?_
    refine z_iload_n C d_Mdl_subscribe_130 rfl 5 rfl ?_
    refine z_icmp_le C 153 d_Mdl_subscribe_131 (by decide) (fun h131 => ?_) (fun h131 => False.elim (h131 (ge_T (a := e) (b := (w - i)) rfl hwq (by omega) (by omega))))
    rw [hi6] at hp
    exact kk _ hp
  | succ m ih =>
    intro i hi ρ hp kk
    have hwq : ρ.1 106 0 0 q = nI (w - i) := by rw [hp.2.1, pk_us]
    refine z_aload_n C d_Mdl_subscribe_123 rfl 2 rfl ?_
    refine gB_Mdl_waiting C d_Mdl_subscribe_124 tw_745  ?_
    refine z_iload C d_Mdl_subscribe_127 1 rfl ?_
    refine lB_m_waiting C (q := q) d_Mdl_subscribe_129  rfl (by omega) ?_
    refine z_iload_n C d_Mdl_subscribe_130 rfl 5 rfl ?_
    refine z_icmp_le C 153 d_Mdl_subscribe_131 (by decide) (fun h131 => False.elim (ge_F (a := e) (b := (w - i)) rfl hwq (by omega) (by omega) h131)) (fun h131 => ?_)
    refine z_aload_n C d_Mdl_subscribe_134 rfl 2 rfl ?_
    refine z_iload C d_Mdl_subscribe_135 1 rfl ?_
    refine zc_Vv C d_Mdl_subscribe_137 (c_Mdl_shift l D ca b ρ hq (w := w - i - 1) (by rw [hwq]; congr 1; omega) (by omega)) tw_915 tw_917 tp_Mdl_shift tw_10 tw_918 pd_Mdl_shift ⟨⟨Nat.le_trans (by decide) hR.1, Nat.le_trans (by decide) hR.2⟩, rfl, rfl, Nat.zero_le _, Nat.zero_le _⟩ (by omega) rfl (eB_Mdl ) rfl (Nat.le_of_ble_eq_true rfl) rfl (fun ρ1 hs => ?_)
    refine z_aload_n C d_Mdl_subscribe_140 rfl 2 rfl ?_
    refine z_dup C d_Mdl_subscribe_141 rfl ?_
    refine gB_Mdl_lost C d_Mdl_subscribe_142 tw_780  ?_
    refine z_iconst C (v := 1) d_Mdl_subscribe_145 (by decide) ?_
    refine z_iadd C d_Mdl_subscribe_146 ?_
    refine pB_Mdl_lost C d_Mdl_subscribe_147 tw_780  ?_
    refine z_goto C 123 d_Mdl_subscribe_150 (by decide) ?_
    exact ih (i + 1) (by omega) _ (sbP_s (by omega) hw hp hs) kk
set_option maxRecDepth 100000 in
set_option maxHeartbeats 4000000 in
/-- subF of the model -/
theorem c_Mdl_subscribe (l : Launch) (D : va_G) (ca : Nat → ClassId) (b : Nat) (τ : Sg) {σ : Sg} (e : Int32) (x y d : Int32) (h : Rl e (σ.1 3 0 0 0) (σ.1 4 0 0 0) σ τ) : CtI l D ca SM b 31 y_Mdl_subscribe w_Mdl_subscribe (rmN 3 62) τ [.ref (b + 0), .int x, .int y, .int d] (fun r τ' => Pm [xNSE, xIAE] (subF σ x y d) r τ') := by
  refine ct_i "RobotBusModel" [(0, .ref (b + 0)), (1, .int x), (2, .int y), (3, .int d)] (by decide) rfl (Nat.le_of_ble_eq_true rfl) rfl (fun X C hret => ?_)
  refine z_aload_n C d_Mdl_subscribe_0 rfl 0 rfl ?_
  refine z_iconst C (v := 0) d_Mdl_subscribe_1 (by decide) ?_
  refine pB_Mdl_thrown C d_Mdl_subscribe_2 tw_739  ?_
  have h0 := Rl_e (e' := 0) h
  generalize us τ 100 0 0 0 = τ0 at h0 ⊢
  refine z_aload_n C d_Mdl_subscribe_5 rfl 0 rfl ?_
  refine z_iload_n C d_Mdl_subscribe_6 rfl 1 rfl ?_
  refine zf_Vi C d_Mdl_subscribe_7 (c_Mdl_noNode l D ca b τ0 x) tw_899 tw_901 tp_Mdl_noNode tw_10 tw_902 pd_Mdl_noNode ⟨⟨by decide, by decide⟩, rfl, rfl, by decide, by decide⟩ (by omega) rfl (eB_Mdl ) rfl (Nat.le_of_ble_eq_true rfl) rfl ?_
  refine z_if_eq C 19 d_Mdl_subscribe_10 (by decide) (fun h10 => ?_) (fun h10 => ?_)
  · have hth := (isNo_th h0 _).mp h10
    obtain ⟨j, hj, rfl, hpj⟩ := isTh_nat hth
    have hcj : (nI j).toNatClampNeg = j := nI_clamp (by omega)
    refine z_iload_n C d_Mdl_subscribe_19 rfl 2 rfl ?_
    refine z_iconst C (v := 0) d_Mdl_subscribe_20 (by decide) ?_
    refine z_iconst C (v := 5) d_Mdl_subscribe_21 (by decide) ?_
    refine zf_Si C d_Mdl_subscribe_22 (c_Mdl_in l D ca b τ0 y 0 5) tw_888 tw_889 tw_10 tw_890 pd_Mdl_in ⟨⟨by decide, by decide⟩, rfl, rfl, by decide, by decide⟩ (Nat.le_of_ble_eq_true rfl) rfl ?_
    refine z_ri (x' := bel y 6) (wit0_bel y 5 (by decide)) ?_
    refine z_if_eq C 37 d_Mdl_subscribe_25 (by decide) (fun h25 => ?_) (fun h25 => ?_)
    · refine z_aload_n C d_Mdl_subscribe_37 rfl 0 rfl ?_
      refine z_iconst C (v := 2) d_Mdl_subscribe_38 (by decide) ?_
      refine zf_Vi C d_Mdl_subscribe_39 (c_Mdl_raise l D ca b τ0 2) tw_891 tw_893 tp_Mdl_raise tw_10 tw_894 pd_Mdl_raise ⟨⟨by decide, by decide⟩, rfl, rfl, by decide, by decide⟩ (by omega) rfl (eB_Mdl ) rfl (Nat.le_of_ble_eq_true rfl) rfl ?_
      exact hret _ _ _ _ d_Mdl_subscribe_42 (Pm_err xIAE (by simp [subF, *]) (by decide +kernel) (Rl_e h0))
    · obtain ⟨t, ht, rfl⟩ := bel_nat (n := 6) (by decide) h25
      have hct : (nI t).toNatClampNeg = t := nI_clamp (by omega)
      refine z_iload_n C d_Mdl_subscribe_28 rfl 3 rfl ?_
      refine z_iconst C (v := 1) d_Mdl_subscribe_29 (by decide) ?_
      refine z_iconst C (v := 4) d_Mdl_subscribe_30 (by decide) ?_
      refine zf_Si C d_Mdl_subscribe_31 (c_Mdl_in l D ca b τ0 d 1 4) tw_888 tw_889 tw_10 tw_890 pd_Mdl_in ⟨⟨by decide, by decide⟩, rfl, rfl, by decide, by decide⟩ (Nat.le_of_ble_eq_true rfl) rfl ?_
      refine z_if_ne C 43 d_Mdl_subscribe_34 (by decide) (fun h34_ => ?_) (fun h34_ => ?_)
      · obtain ⟨e, he1, he, rfl⟩ := wit_nat (lo := 1) (hi := 4) (by decide) (by decide) h34_
        have hce : (nI e).toNatClampNeg = e := nI_clamp (by omega)
        have hQ := h0.2.2.2.2.2.1 j hj t ht
        have hz := h0.2.2.2.2.2.2.2.2.2.2.2.2.2.2.1 j t hj ht
        have hw0 := hQ.2.1.trans hz.1
        refine z_bipush C (v := 6) d_Mdl_subscribe_43 (by decide) ?_
        refine z_iload_n C d_Mdl_subscribe_45 rfl 1 rfl ?_
        refine z_imul C d_Mdl_subscribe_46 ?_
        refine z_iload_n C d_Mdl_subscribe_47 rfl 2 rfl ?_
        refine z_iadd C d_Mdl_subscribe_48 ?_
        refine z_ri (x' := nI ((6 * j) + t)) (nadd (nmul (rfl : (6 : Int32) = nI 6) rfl) rfl) ?_
        refine z_istore C d_Mdl_subscribe_49 (by decide) [(4, .int (nI ((6 * j) + t))), (0, .ref (b + 0)), (1, .int (nI j)), (2, .int (nI t)), (3, .int (nI e))] rfl ?_
        refine z_aload_n C d_Mdl_subscribe_51 rfl 1 rfl ?_
        refine gB_Mdl_depth C d_Mdl_subscribe_52 tw_744  ?_
        refine z_iload C d_Mdl_subscribe_55 0 rfl ?_
        refine lB_m_depth C (q := ((6 * j) + t)) d_Mdl_subscribe_57  rfl (by omega) ?_
        refine z_if_ne C 65 d_Mdl_subscribe_58 (by decide) (fun h58 => ?_) (fun h58 => ?_)
        · have hop := (qOpen_p h0.2.2.2.2.2.2.2.2.2.2.2.2.2.2.1 hj ht (fun z => h58 (hQ.1.trans z))).1
          refine z_iconst C (v := 0) d_Mdl_subscribe_65 (by decide) ?_
          refine z_istore C d_Mdl_subscribe_66 (by decide) [(5, .int 0), (4, .int (nI ((6 * j) + t))), (0, .ref (b + 0)), (1, .int (nI j)), (2, .int (nI t)), (3, .int (nI e))] rfl ?_
          refine z_aload_n C d_Mdl_subscribe_68 rfl 2 rfl ?_
          refine gB_Mdl_depth C d_Mdl_subscribe_69 tw_744  ?_
          refine z_iload C d_Mdl_subscribe_72 1 rfl ?_
          refine z_iload_n C d_Mdl_subscribe_74 rfl 5 rfl ?_
          refine stB_m_depth C (q := ((6 * j) + t)) d_Mdl_subscribe_75  rfl (by omega) ?_
          refine z_iload C d_Mdl_subscribe_76 0 rfl ?_
          refine z_if_eq C 123 d_Mdl_subscribe_78 (by decide) (fun h78 => ?_) (fun h78 => False.elim (absurd (by decide) h78))
          refine lp_Mdl_sub l D ca b ⟨by decide, by decide⟩ C _ (q := 6 * j + t) (w := qsz σ j t) (e := e) (by omega) (by omega) he _ _ _ (qsz σ j t - e) 0 (by omega) _ (sbP_0 (by rw [upA_f (by decide)]; exact hw0)) (fun ρ hp => ?_)
          have hfin := Rl_sub hj ht hpj he1 he h0 hp
          have hfq := (hfin.2.2.2.2.2.1 j hj t ht).2.1
          refine z_aload_n C d_Mdl_subscribe_153 rfl 2 rfl ?_
          refine gB_Mdl_waiting C d_Mdl_subscribe_154 tw_745  ?_
          refine z_iload C d_Mdl_subscribe_157 1 rfl ?_
          refine lB_m_waiting C (q := ((6 * j) + t)) d_Mdl_subscribe_159  rfl (by omega) ?_
          exact hret _ _ _ _ d_Mdl_subscribe_160 (Pm_ok (subD σ j t e) (by
      have hss : subS σ j t e = subD σ j t e := by
        unfold subS
        have hT := h0.2.2.2.2.2.2.2.1 t ht
        first | rw [if_neg hop] | rw [if_pos hcl, if_pos (hT.1.symm.trans (by rw [upA_f (by decide)] at h87; exact h87))] | rw [if_pos hcl, if_neg (fun z => h87 (by rw [upA_f (by decide)]; exact hT.1.trans z)), if_pos (hT.2.2.1.symm.trans (by rw [upA_f (by decide)] at h96; exact h96))]
      simp only [subF, hcj, hct, hce, hss, if_neg hth, if_neg h25, if_neg h34_, hfq]) (by
      rw [subD_off.at (by decide), subD_off.at (by decide)]
      exact hfin))
        · have hcl : qOpen σ j t = 0 := qOpen_z (hQ.1.symm.trans h58)
          have hq0 : qsz σ j t = 0 := by have := qOpen_no h0.2.2.2.2.2.2.2.2.2.2.2.2.2.2.1 hj ht hcl; omega
          refine z_iconst C (v := 1) d_Mdl_subscribe_61 (by decide) ?_
          refine z_goto C 66 d_Mdl_subscribe_62 (by decide) ?_
          refine z_istore C d_Mdl_subscribe_66 (by decide) [(5, .int 1), (4, .int (nI ((6 * j) + t))), (0, .ref (b + 0)), (1, .int (nI j)), (2, .int (nI t)), (3, .int (nI e))] rfl ?_
          refine z_aload_n C d_Mdl_subscribe_68 rfl 2 rfl ?_
          refine gB_Mdl_depth C d_Mdl_subscribe_69 tw_744  ?_
          refine z_iload C d_Mdl_subscribe_72 1 rfl ?_
          refine z_iload_n C d_Mdl_subscribe_74 rfl 5 rfl ?_
          refine stB_m_depth C (q := ((6 * j) + t)) d_Mdl_subscribe_75  rfl (by omega) ?_
          refine z_iload C d_Mdl_subscribe_76 0 rfl ?_
          refine z_if_eq C 123 d_Mdl_subscribe_78 (by decide) (fun h78 => False.elim (absurd h78 (by decide))) (fun h78 => ?_)
          refine z_aload_n C d_Mdl_subscribe_81 rfl 2 rfl ?_
          refine gB_Mdl_latched C d_Mdl_subscribe_82 tw_752  ?_
          refine z_iload_n C d_Mdl_subscribe_85 rfl 4 rfl ?_
          refine lB_m_latched C (q := t) d_Mdl_subscribe_86 rfl (by omega) ?_
          refine z_if_eq C 123 d_Mdl_subscribe_87 (by decide) (fun h87 => ?_) (fun h87 => ?_)
          · refine lp_Mdl_sub l D ca b ⟨by decide, by decide⟩ C _ (q := 6 * j + t) (w := qsz σ j t) (e := e) (by omega) (by omega) he _ _ _ (qsz σ j t - e) 0 (by omega) _ (sbP_0 (by rw [upA_f (by decide)]; exact hw0)) (fun ρ hp => ?_)
            have hfin := Rl_sub hj ht hpj he1 he h0 hp
            have hfq := (hfin.2.2.2.2.2.1 j hj t ht).2.1
            refine z_aload_n C d_Mdl_subscribe_153 rfl 2 rfl ?_
            refine gB_Mdl_waiting C d_Mdl_subscribe_154 tw_745  ?_
            refine z_iload C d_Mdl_subscribe_157 1 rfl ?_
            refine lB_m_waiting C (q := ((6 * j) + t)) d_Mdl_subscribe_159  rfl (by omega) ?_
            exact hret _ _ _ _ d_Mdl_subscribe_160 (Pm_ok (subD σ j t e) (by
      have hss : subS σ j t e = subD σ j t e := by
        unfold subS
        have hT := h0.2.2.2.2.2.2.2.1 t ht
        first | rw [if_neg hop] | rw [if_pos hcl, if_pos (hT.1.symm.trans (by rw [upA_f (by decide)] at h87; exact h87))] | rw [if_pos hcl, if_neg (fun z => h87 (by rw [upA_f (by decide)]; exact hT.1.trans z)), if_pos (hT.2.2.1.symm.trans (by rw [upA_f (by decide)] at h96; exact h96))]
      simp only [subF, hcj, hct, hce, hss, if_neg hth, if_neg h25, if_neg h34_, hfq]) (by
      rw [subD_off.at (by decide), subD_off.at (by decide)]
      exact hfin))
          · refine z_aload_n C d_Mdl_subscribe_90 rfl 2 rfl ?_
            refine gB_Mdl_hasLast C d_Mdl_subscribe_91 tw_753  ?_
            refine z_iload_n C d_Mdl_subscribe_94 rfl 4 rfl ?_
            refine lB_m_hasLast C (q := t) d_Mdl_subscribe_95 rfl (by omega) ?_
            refine z_if_eq C 123 d_Mdl_subscribe_96 (by decide) (fun h96 => ?_) (fun h96 => ?_)
            · refine lp_Mdl_sub l D ca b ⟨by decide, by decide⟩ C _ (q := 6 * j + t) (w := qsz σ j t) (e := e) (by omega) (by omega) he _ _ _ (qsz σ j t - e) 0 (by omega) _ (sbP_0 (by rw [upA_f (by decide)]; exact hw0)) (fun ρ hp => ?_)
              have hfin := Rl_sub hj ht hpj he1 he h0 hp
              have hfq := (hfin.2.2.2.2.2.1 j hj t ht).2.1
              refine z_aload_n C d_Mdl_subscribe_153 rfl 2 rfl ?_
              refine gB_Mdl_waiting C d_Mdl_subscribe_154 tw_745  ?_
              refine z_iload C d_Mdl_subscribe_157 1 rfl ?_
              refine lB_m_waiting C (q := ((6 * j) + t)) d_Mdl_subscribe_159  rfl (by omega) ?_
              exact hret _ _ _ _ d_Mdl_subscribe_160 (Pm_ok (subD σ j t e) (by
      have hss : subS σ j t e = subD σ j t e := by
        unfold subS
        have hT := h0.2.2.2.2.2.2.2.1 t ht
        first | rw [if_neg hop] | rw [if_pos hcl, if_pos (hT.1.symm.trans (by rw [upA_f (by decide)] at h87; exact h87))] | rw [if_pos hcl, if_neg (fun z => h87 (by rw [upA_f (by decide)]; exact hT.1.trans z)), if_pos (hT.2.2.1.symm.trans (by rw [upA_f (by decide)] at h96; exact h96))]
      simp only [subF, hcj, hct, hce, hss, if_neg hth, if_neg h25, if_neg h34_, hfq]) (by
      rw [subD_off.at (by decide), subD_off.at (by decide)]
      exact hfin))
            · refine z_aload_n C d_Mdl_subscribe_99 rfl 2 rfl ?_
              refine z_iload C d_Mdl_subscribe_100 1 rfl ?_
              refine z_aload_n C d_Mdl_subscribe_102 rfl 2 rfl ?_
              refine gB_Mdl_lastValue C d_Mdl_subscribe_103 tw_754  ?_
              refine z_iload_n C d_Mdl_subscribe_106 rfl 4 rfl ?_
              refine lB_m_lastValue C (q := t) d_Mdl_subscribe_107  rfl (by omega) ?_
              refine z_aload_n C d_Mdl_subscribe_108 rfl 2 rfl ?_
              refine gB_Mdl_lastSender C d_Mdl_subscribe_109 tw_755  ?_
              refine z_iload_n C d_Mdl_subscribe_112 rfl 4 rfl ?_
              refine lB_m_lastSender C (q := t) d_Mdl_subscribe_113  rfl (by omega) ?_
              refine z_aload_n C d_Mdl_subscribe_114 rfl 2 rfl ?_
              refine gB_Mdl_lastStamp C d_Mdl_subscribe_115 tw_756  ?_
              refine z_iload_n C d_Mdl_subscribe_118 rfl 4 rfl ?_
              refine lB_m_lastStamp C (q := t) d_Mdl_subscribe_119  rfl (by omega) ?_
              rw [hq0] at hw0
              refine zc_Vv C d_Mdl_subscribe_120 (c_Mdl_put l D ca b (upA τ0 (105, 0, 0) (upd (τ0.1 105 0 0) ((6 * j) + t) (nI e))) (q := 6 * j + t) (w := 0) (e := e) (by omega) (by rw [upA_f (by decide)]; exact hw0) (by rw [upA_self, pk_us]) (by omega) he1 he _ _ _) tw_911 tw_913 tp_Mdl_put tw_10 tw_914 pd_Mdl_put ⟨⟨by decide, by decide⟩, rfl, rfl, by decide, by decide⟩ (by omega) rfl (eB_Mdl ) rfl (Nat.le_of_ble_eq_true rfl) rfl (fun ρ1 hp => ?_)
              have hsd := Rl_sub hj ht hpj he1 he h0 (ρ := (upA τ0 (105, 0, 0) (upd (τ0.1 105 0 0) (6 * j + t) (nI e)))) (by
                rw [hq0, show 0 - e = 0 by omega]
                exact sbP_0 (by rw [upA_f (by decide)]; exact hw0))
              have hsz : qsz (subD σ j t e) j t = 0 := by unfold qsz; rw [subD_34, nI_clamp (by omega)]; omega
              have hdp : qdp (subD σ j t e) j t = e := by unfold qdp; rw [subD_33, nI_clamp (by omega)]
              have hT := h0.2.2.2.2.2.2.2.1 t ht
              have hlv := hT.2.2.2 (fun z => h96 (by rw [upA_f (by decide)]; exact hT.2.2.1.trans z))
              have hpp := Rl_put (ρ := ρ1) (v := σ.1 43 t 0 0) (s := σ.1 44 t 0 0) (u := σ.1 45 t 0 0) hsd hj ht (by rw [hdp]; exact he1) (by
                rw [hsz, hdp]
                simp only [upA_f (σ := τ0) (v := (105, 0, 0)) (f := 115) (by decide), upA_f (σ := τ0) (v := (105, 0, 0)) (f := 116) (by decide), upA_f (σ := τ0) (v := (105, 0, 0)) (f := 117) (by decide), hlv.1, hlv.2.1, hlv.2.2] at hp
                exact hp)
              rw [hsz, hdp] at hpp
              have hfin : Rl 0 (σ.1 3 0 0 0) (σ.1 4 0 0 0) (qApp (subD σ j t e) j t 0 e (σ.1 43 t 0 0) (σ.1 44 t 0 0) (σ.1 45 t 0 0)) ρ1 := Rl_2 hpp (by
                unfold qLost
                rw [if_pos (by omega), qApp_f (by decide) (by decide)]
                simp)
              have hfq := (hfin.2.2.2.2.2.1 j hj t ht).2.1
              have h34 : (qApp (subD σ j t e) j t 0 e (σ.1 43 t 0 0) (σ.1 44 t 0 0) (σ.1 45 t 0 0)).1 34 j t 0 = nI 1 := by rw [qApp_sz, if_pos (by omega)]
              refine z_aload_n C d_Mdl_subscribe_123 rfl 2 rfl ?_
              refine gB_Mdl_waiting C d_Mdl_subscribe_124 tw_745  ?_
              refine z_iload C d_Mdl_subscribe_127 1 rfl ?_
              refine lB_m_waiting C (q := ((6 * j) + t)) d_Mdl_subscribe_129  rfl (by omega) ?_
              refine z_iload_n C d_Mdl_subscribe_130 rfl 5 rfl ?_
              refine z_icmp_le C 153 d_Mdl_subscribe_131 (by decide) (fun h131 => ?_) (fun h131 => False.elim (h131 (ge_T (a := e) (b := 1) rfl (hfq.trans h34) (by omega) (by omega))))
              refine z_aload_n C d_Mdl_subscribe_153 rfl 2 rfl ?_
              refine gB_Mdl_waiting C d_Mdl_subscribe_154 tw_745  ?_
              refine z_iload C d_Mdl_subscribe_157 1 rfl ?_
              refine lB_m_waiting C (q := ((6 * j) + t)) d_Mdl_subscribe_159  rfl (by omega) ?_
              exact hret _ _ _ _ d_Mdl_subscribe_160 (Pm_ok (qApp (subD σ j t e) j t 0 e (σ.1 43 t 0 0) (σ.1 44 t 0 0) (σ.1 45 t 0 0)) (by
      have hss : subS σ j t e = qApp (subD σ j t e) j t 0 e (σ.1 43 t 0 0) (σ.1 44 t 0 0) (σ.1 45 t 0 0) := by
        unfold subS
        rw [if_pos hcl, if_neg (fun z => h87 (by rw [upA_f (by decide)]; exact hT.1.trans z)), if_neg (fun z => h96 (by rw [upA_f (by decide)]; exact hT.2.2.1.trans z)), hq0, show 0 - (0 - e) = 0 by omega]
      simp only [subF, hcj, hct, hce, hss, if_neg hth, if_neg h25, if_neg h34_, hfq]) (by
      rw [qApp_f (by decide) (by decide), qApp_f (by decide) (by decide), subD_off.at (by decide), subD_off.at (by decide)]
      exact hfin))
      · refine z_aload_n C d_Mdl_subscribe_37 rfl 0 rfl ?_
        refine z_iconst C (v := 2) d_Mdl_subscribe_38 (by decide) ?_
        refine zf_Vi C d_Mdl_subscribe_39 (c_Mdl_raise l D ca b τ0 2) tw_891 tw_893 tp_Mdl_raise tw_10 tw_894 pd_Mdl_raise ⟨⟨by decide, by decide⟩, rfl, rfl, by decide, by decide⟩ (by omega) rfl (eB_Mdl ) rfl (Nat.le_of_ble_eq_true rfl) rfl ?_
        exact hret _ _ _ _ d_Mdl_subscribe_42 (Pm_err xIAE (by simp [subF, *]) (by decide +kernel) (Rl_e h0))
  · have hth : isTh σ x = 0 := Decidable.byContradiction (fun z => h10 ((isNo_th h0 _).mpr z))
    refine z_aload_n C d_Mdl_subscribe_13 rfl 0 rfl ?_
    refine z_iconst C (v := 1) d_Mdl_subscribe_14 (by decide) ?_
    refine zf_Vi C d_Mdl_subscribe_15 (c_Mdl_raise l D ca b τ0 1) tw_891 tw_893 tp_Mdl_raise tw_10 tw_894 pd_Mdl_raise ⟨⟨by decide, by decide⟩, rfl, rfl, by decide, by decide⟩ (by omega) rfl (eB_Mdl ) rfl (Nat.le_of_ble_eq_true rfl) rfl ?_
    exact hret _ _ _ _ d_Mdl_subscribe_18 (Pm_err xNSE (by simp [subF, *]) (by decide +kernel) (Rl_e h0))
