/-! The model's send -/
theorem qOpen_z {σ : Sg} {i t : Nat} (h : σ.1 33 i t 0 = 0) : qOpen σ i t = 0 := by
  unfold qOpen
  rw [h]
  rfl
theorem qOpen_p {σ : Sg} {i t : Nat} (hQ : QI σ) (hi : i < 6) (ht : t < 6) (h : ¬ σ.1 33 i t 0 = 0) : ¬ qOpen σ i t = 0 ∧ 1 ≤ qdp σ i t := by
  obtain ⟨-, h2, -, h4⟩ := hQ i t hi ht
  have h1 : 1 ≤ qdp σ i t := by
    apply Nat.pos_of_ne_zero
    intro z
    rw [z] at h2
    exact h h2
  refine ⟨fun z => ?_, h1⟩
  unfold qOpen at z
  rw [h2, if_neg (nI_nle h1 (by omega))] at z
  exact absurd z (by decide)
theorem Rl_last {e p a : Int32} {σ τ ρ : Sg} {t : Nat} {v s : Int32} (ht : t < 6) (h : Rl e p a σ τ) (ho : Off [114, 115, 116, 117] τ ρ) (h1 : ρ.1 114 0 0 = upd (τ.1 114 0 0) t 1) (h2 : ρ.1 115 0 0 = upd (τ.1 115 0 0) t v) (h3 : ρ.1 116 0 0 = upd (τ.1 116 0 0) t s) (h4 : ρ.1 117 0 0 = upd (τ.1 117 0 0) t (τ.1 101 0 0 0)) : Rl e p a (tLast σ t v s (σ.1 1 0 0 0)) ρ := by
  have h' := h
  obtain ⟨h0, gC, gN, gV, gK, gQ, gA, gT, gS, gP, gB, gF, gFV, gY, gBI⟩ := h
  have hσ : Off [42, 43, 44, 45] σ (tLast σ t v s (σ.1 1 0 0 0)) := (((Off.rf.us (by decide)).us (by decide)).us (by decide)).us (by decide)
  refine h'.upd [42, 43, 44, 45] [114, 115, 116, 117] hσ ho (by rw [ho.at (by decide)]; exact h0) (Or.inl ⟨rfl, rfl, rfl⟩) (Or.inl rfl) (Or.inl rfl) (Or.inl rfl) (Or.inl rfl) (Or.inl rfl) (Or.inr ?_) (Or.inl rfl) (Or.inl rfl) (Or.inl rfl) (Or.inl rfl) (Or.inl rfl) (Or.inl rfl) (Or.inl rfl)
  intro t' ht'
  obtain ⟨k1, k2, k3, k4⟩ := gT t' ht'
  have e40 := hσ.at (f := 40) (by decide)
  have e41 := hσ.at (f := 41) (by decide)
  rw [ho.at (f := 113) (by decide), ho.at (f := 118) (by decide), e40, e41, h1, h2, h3, h4]
  refine ⟨k1, k2, ?_⟩
  by_cases ht2 : t' = t
  · subst ht2
    rw [pk_us, pk_us, pk_us, pk_us, gC.1]
    simp [tLast, us, upA]
  · rw [pk_un ht2, pk_un ht2, pk_un ht2, pk_un ht2]
    have e : ∀ f, (tLast σ t v s (σ.1 1 0 0 0)).1 f t' 0 0 = σ.1 f t' 0 0 := fun f => by
      unfold tLast
      rw [us_ne (by simp; omega), us_ne (by simp; omega), us_ne (by simp; omega), us_ne (by simp; omega)]
    rw [e, e, e, e]
    exact ⟨k3, k4⟩
theorem Rl_rec {e p a : Int32} {σ τ ρ : Sg} {t : Nat} {v : Int32} (ht : t < 6) (h : Rl e p a σ τ) (hz : bsz σ < 30) (ho : Off [123, 124, 125, 126] τ ρ) (h1 : ρ.1 123 0 0 = upd (τ.1 123 0 0) (bsz σ) (τ.1 101 0 0 0)) (h2 : ρ.1 124 0 0 = upd (τ.1 124 0 0) (bsz σ) (nI t)) (h3 : ρ.1 125 0 0 = upd (τ.1 125 0 0) (bsz σ) v) (h4 : ρ.1 126 0 0 0 = nI (bsz σ + 1)) : Rl e p a (bApp σ (bsz σ) (σ.1 1 0 0 0) (nI t) v) ρ := by
  have h' := h
  obtain ⟨h0, gC, gN, gV, gK, gQ, gA, gT, gS, gP, gB, gF, gFV, gY, gBI⟩ := h
  have hbi := bApp_BI ht (a := σ.1 1 0 0 0) (v := v) gBI
  have eb : bApp σ (bsz σ) (σ.1 1 0 0 0) (nI t) v = us (upA (upA (upA σ (15, 0, 0) (upd (σ.1 15 0 0) (bsz σ) (σ.1 1 0 0 0))) (16, 0, 0) (upd (σ.1 16 0 0) (bsz σ) (nI t))) (17, 0, 0) (upd (σ.1 17 0 0) (bsz σ) v)) 10 0 0 (nI (bsz σ + 1)) := by
    unfold bApp
    rw [if_pos hz]
  have hσ : Off [10, 15, 16, 17] σ (bApp σ (bsz σ) (σ.1 1 0 0 0) (nI t) v) := by
    rw [eb]
    exact (((Off.rf.uA (by decide)).uA (by decide)).uA (by decide)).us (by decide)
  refine h'.upd [10, 15, 16, 17] [123, 124, 125, 126] hσ ho (by rw [ho.at (by decide)]; exact h0) (Or.inl ⟨rfl, rfl, rfl⟩) (Or.inl rfl) (Or.inl rfl) (Or.inl rfl) (Or.inl rfl) (Or.inl rfl) (Or.inl rfl) (Or.inl rfl) (Or.inl rfl) (Or.inr ?_) (Or.inl rfl) (Or.inl rfl) (Or.inl rfl) (Or.inr hbi)
  obtain ⟨k1, k2, k3, k4⟩ := gB
  have ebp : bPlay (bApp σ (bsz σ) (σ.1 1 0 0 0) (nI t) v) = bPlay σ := by
    unfold bPlay
    rw [hσ.at (f := 12) (by decide), hσ.at (f := 11) (by decide)]
  have e10 : (bApp σ (bsz σ) (σ.1 1 0 0 0) (nI t) v).1 10 0 0 0 = nI (bsz σ + 1) := by rw [eb, us_self]
  have e15 : (bApp σ (bsz σ) (σ.1 1 0 0 0) (nI t) v).1 15 0 0 = upd (σ.1 15 0 0) (bsz σ) (σ.1 1 0 0 0) := by rw [eb]; simp [us, upA]
  have e16 : (bApp σ (bsz σ) (σ.1 1 0 0 0) (nI t) v).1 16 0 0 = upd (σ.1 16 0 0) (bsz σ) (nI t) := by rw [eb]; simp [us, upA]
  have e17 : (bApp σ (bsz σ) (σ.1 1 0 0 0) (nI t) v).1 17 0 0 = upd (σ.1 17 0 0) (bsz σ) v := by rw [eb]; simp [us, upA]
  unfold RB
  rw [ebp, e10, e15, e16, e17, h4, nI_clamp (by omega), hσ.at (f := 11) (by decide), hσ.at (f := 12) (by decide), hσ.at (f := 13) (by decide), hσ.at (f := 14) (by decide), ho.at (f := 127) (by decide), ho.at (f := 128) (by decide), ho.at (f := 129) (by decide), ho.at (f := 130) (by decide), ho.at (f := 131) (by decide)]
  refine ⟨rfl, fun j hj => ?_, k3, k4⟩
  rw [h1, h2, h3]
  by_cases hjz : j = bsz σ
  · subst hjz
    rw [pk_us, pk_us, pk_us, pk_us, pk_us, pk_us]
    exact ⟨gC.1, rfl, rfl⟩
  · rw [pk_un hjz, pk_un hjz, pk_un hjz, pk_un hjz, pk_un hjz, pk_un hjz]
    exact k2 j (by show j < bsz σ; omega)
theorem Rl_pub {e p a : Int32} {σ τ : Sg} (h : Rl e p a σ τ) : Rl e p a (sPub σ) τ :=
  h.upd [3] [] (Off.rf.us (by decide)) Off.rf h.1 (Or.inl ⟨rfl, rfl, rfl⟩) (Or.inl rfl) (Or.inl rfl) (Or.inl rfl) (Or.inl rfl) (Or.inl rfl) (Or.inl rfl) (Or.inl rfl) (Or.inl rfl) (Or.inl rfl) (Or.inl rfl) (Or.inl rfl) (Or.inl rfl) (Or.inl rfl)
theorem sSend_3 {σ : Sg} {t : Nat} {v s : Int32} : (sSend σ t v s).1 3 0 0 0 = σ.1 3 0 0 0 + 1 := by
  unfold sSend sPub
  rw [us_self, sRec_ne (by decide) (by decide) (by decide) (by decide), tLast_ne (by decide) (by decide) (by decide) (by decide), sLp_ne (by decide) (by decide) (by decide)]
set_option maxRecDepth 100000 in
set_option maxHeartbeats 4000000 in
theorem lp_Mdl_send (l : Launch) (D : va_G) (ca : Nat → ClassId) (b : Nat) {R : Room} {X : Zx} {y0 : MethodName} {c0 : ByteArray} {n0 : Nat} {r0 : Option FieldType} (hR : 3 ≤ R.frames ∧ 60 ≤ R.locals) (C : Cs D ca b_Mdl_send 7 "RobotBusModel" (Cond.code y0 c0 n0 r0) X) {t : Nat} (ht : t < 6) (v s e p a : Int32) : ∀ m k, k + m = 6 → ∀ (σ ρ : Sg) (n : Int32), Rl e p a σ ρ → (∀ ρ', Rl e p a (sLp t v s m k σ n).1 ρ' → Zs l D ca SM b 31 R 7 X ρ' 76 [(5, .int (nI 6)), (4, .int (sLp t v s m k σ n).2), (0, .ref (b + 0)), (1, .int (nI t)), (2, .int v), (3, .int s)] []) → Zs l D ca SM b 31 R 7 X ρ 16 [(5, .int (nI k)), (4, .int n), (0, .ref (b + 0)), (1, .int (nI t)), (2, .int v), (3, .int s)] [] := by
  intro m
  induction m with
  | zero =>
    intro k hk σ ρ n h kk
    have hk6 : k = 6 := by omega
    subst hk6
    refine z_iload C d_Mdl_send_16 0 rfl ?_
    refine z_bipush C (v := 6) d_Mdl_send_18 (by decide) ?_
    refine z_icmp_ge C 76 d_Mdl_send_20 (by decide) (fun h20 => ?_) (fun h20 => False.elim (h20 (ge_T (a := 6) (b := 6) rfl (rfl : (6 : Int32) = nI 6) (by omega) (by omega))))
    exact kk _ h
  | succ m ih =>
    intro k hk σ ρ n h kk
    have hk6 : k < 6 := by omega
    have hN := h.2.2.1 k hk6
    have hQ := h.2.2.2.2.2.1 k hk6 t ht
    have hBI := h.2.2.2.2.2.2.2.2.2.2.2.2.2.2
    have hq := hBI.1 k t hk6 ht
    have hclk := h.2.1.1
    refine z_iload C d_Mdl_send_16 0 rfl ?_
    refine z_bipush C (v := 6) d_Mdl_send_18 (by decide) ?_
    refine z_icmp_ge C 76 d_Mdl_send_20 (by decide) (fun h20 => False.elim (ge_F (a := k) (b := 6) rfl (rfl : (6 : Int32) = nI 6) (by omega) (by omega) h20)) (fun h20 => ?_)
    refine z_bipush C (v := 6) d_Mdl_send_23 (by decide) ?_
    refine z_iload C d_Mdl_send_25 0 rfl ?_
    refine z_imul C d_Mdl_send_27 ?_
    refine z_iload_n C d_Mdl_send_28 rfl 3 rfl ?_
    refine z_iadd C d_Mdl_send_29 ?_
    refine z_ri (x' := nI ((6 * k) + t)) (nadd (nmul (rfl : (6 : Int32) = nI 6) rfl) rfl) ?_
    refine z_istore C d_Mdl_send_30 (by decide) [(6, .int (nI ((6 * k) + t))), (5, .int (nI k)), (4, .int n), (0, .ref (b + 0)), (1, .int (nI t)), (2, .int v), (3, .int s)] rfl ?_
    refine z_aload_n C d_Mdl_send_32 rfl 3 rfl ?_
    refine gB_Mdl_there C d_Mdl_send_33 tw_741  ?_
    refine z_iload C d_Mdl_send_36 1 rfl ?_
    refine lB_m_there C (q := k) d_Mdl_send_38 rfl hk6 ?_
    refine z_if_eq C 70 d_Mdl_send_39 (by decide) (fun h39 => ?_) (fun h39 => ?_)
    · have hcl : qOpen σ k t = 0 := qOpen_z (hN.2 (by rw [← hN.1]; exact h39) t ht)
      refine z_iinc C d_Mdl_send_70 1 rfl (v := (nI (k + 1))) (by rw [← nI_1]; rfl) (by decide) [(5, .int (nI (k + 1))), (6, .int (nI ((6 * k) + t))), (4, .int n), (0, .ref (b + 0)), (1, .int (nI t)), (2, .int v), (3, .int s)] rfl ?_
      refine z_goto C 16 d_Mdl_send_73 (by decide) ?_
      refine z_loc [0, 2, 3, 4, 5, 6] rfl ?_
      rw [sLp, if_pos hcl] at kk
      exact ih (k + 1) (by omega) σ ρ n h kk
    · refine z_aload_n C d_Mdl_send_42 rfl 3 rfl ?_
      refine gB_Mdl_depth C d_Mdl_send_43 tw_744  ?_
      refine z_iload C d_Mdl_send_46 0 rfl ?_
      refine lB_m_depth C (q := ((6 * k) + t)) d_Mdl_send_48  rfl (by omega) ?_
      refine z_if_ne C 55 d_Mdl_send_49 (by decide) (fun h49 => ?_) (fun h49 => ?_)
      · have hop := qOpen_p hBI.1 hk6 ht (fun z => h49 (hQ.1.trans z))
        refine z_aload_n C d_Mdl_send_55 rfl 3 rfl ?_
        refine z_iload C d_Mdl_send_56 0 rfl ?_
        refine z_iload_n C d_Mdl_send_58 rfl 5 rfl ?_
        refine z_iload_n C d_Mdl_send_59 rfl 6 rfl ?_
        refine z_aload_n C d_Mdl_send_60 rfl 3 rfl ?_
        refine gB_Mdl_clock C d_Mdl_send_61 tw_740  ?_
        refine zc_Vv C d_Mdl_send_64 (c_Mdl_put l D ca b ρ (q := 6 * k + t) (by omega) (hQ.2.1.trans hq.1) (hQ.1.trans hq.2.1) hq.2.2.1 hop.2 hq.2.2.2 v s (ρ.1 101 0 0 0)) tw_911 tw_913 tp_Mdl_put tw_10 tw_914 pd_Mdl_put ⟨⟨Nat.le_trans (by decide) hR.1, Nat.le_trans (by decide) hR.2⟩, rfl, rfl, Nat.zero_le _, Nat.zero_le _⟩ (by omega) rfl (eB_Mdl ) rfl (Nat.le_of_ble_eq_true rfl) rfl (fun ρ1 hp => ?_)
        refine z_iinc C d_Mdl_send_67 2 rfl (v := (n + 1)) (by rw [show Int32.ofInt 1 = 1 by decide]) (by decide) [(4, .int (n + 1)), (6, .int (nI ((6 * k) + t))), (5, .int (nI k)), (0, .ref (b + 0)), (1, .int (nI t)), (2, .int v), (3, .int s)] rfl ?_
        refine z_iinc C d_Mdl_send_70 2 rfl (v := (nI (k + 1))) (by rw [← nI_1]; rfl) (by decide) [(5, .int (nI (k + 1))), (4, .int (n + 1)), (6, .int (nI ((6 * k) + t))), (0, .ref (b + 0)), (1, .int (nI t)), (2, .int v), (3, .int s)] rfl ?_
        refine z_goto C 16 d_Mdl_send_73 (by decide) ?_
        refine z_loc [0, 1, 3, 4, 5, 6] rfl ?_
        rw [sLp, if_neg hop.1] at kk
        rw [hclk] at hp
        exact ih (k + 1) (by omega) _ _ _ (Rl_put h hk6 ht hop.2 hp) kk
      · have hcl : qOpen σ k t = 0 := qOpen_z (hQ.1.symm.trans h49)
        refine z_goto C 70 d_Mdl_send_52 (by decide) ?_
        refine z_iinc C d_Mdl_send_70 1 rfl (v := (nI (k + 1))) (by rw [← nI_1]; rfl) (by decide) [(5, .int (nI (k + 1))), (6, .int (nI ((6 * k) + t))), (4, .int n), (0, .ref (b + 0)), (1, .int (nI t)), (2, .int v), (3, .int s)] rfl ?_
        refine z_goto C 16 d_Mdl_send_73 (by decide) ?_
        refine z_loc [0, 2, 3, 4, 5, 6] rfl ?_
        rw [sLp, if_pos hcl] at kk
        exact ih (k + 1) (by omega) σ ρ n h kk
set_option maxRecDepth 100000 in
set_option maxHeartbeats 4000000 in
/-- the model publishes a message as the bus does -/
theorem c_Mdl_send (l : Launch) (D : va_G) (ca : Nat → ClassId) (b : Nat) (τ : Sg) {σ : Sg} {t : Nat} (ht : t < 6) (v s e p a : Int32) (hs : s = -1 ∨ ¬ s < 0) (h : Rl e p a σ τ) : CtI l D ca SM b 31 y_Mdl_send w_Mdl_send (rmN 3 60) τ [.ref (b + 0), .int (nI t), .int v, .int s] (fun r τ' => r = sCnt σ t v s ∧ Rl e (p + 1) a (sSend σ t v s) τ') := by
  refine ct_i "RobotBusModel" [(0, .ref (b + 0)), (1, .int (nI t)), (2, .int v), (3, .int s)] (by decide) rfl (Nat.le_of_ble_eq_true rfl) rfl (fun X C hret => ?_)
  refine z_iconst C (v := 0) d_Mdl_send_0 (by decide) ?_
  refine z_istore C d_Mdl_send_1 (by decide) [(4, .int 0), (0, .ref (b + 0)), (1, .int (nI t)), (2, .int v), (3, .int s)] rfl ?_
  refine z_aload_n C d_Mdl_send_3 rfl 1 rfl ?_
  refine z_dup C d_Mdl_send_4 rfl ?_
  refine gB_Mdl_published C d_Mdl_send_5 tw_781  ?_
  refine z_iconst C (v := 1) d_Mdl_send_8 (by decide) ?_
  refine z_iadd C d_Mdl_send_9 ?_
  refine pB_Mdl_published C d_Mdl_send_10 tw_781  ?_
  refine z_iconst C (v := 0) d_Mdl_send_13 (by decide) ?_
  refine z_istore C d_Mdl_send_14 (by decide) [(5, .int 0), (4, .int 0), (0, .ref (b + 0)), (1, .int (nI t)), (2, .int v), (3, .int s)] rfl ?_
  have h1 : Rl e (p + 1) a σ (us τ 142 0 0 (τ.1 142 0 0 0 + 1)) := by
    have h0 := h.2.1
    refine h.upd [] [142] Off.rf (Off.rf.us (by decide)) (by rw [us_f (by decide)]; exact h.1) (Or.inr ⟨?_, ?_, ?_, ?_, ?_⟩) (Or.inl rfl) (Or.inl rfl) (Or.inl rfl) (Or.inl rfl) (Or.inl rfl) (Or.inl rfl) (Or.inl rfl) (Or.inl rfl) (Or.inl rfl) (Or.inl rfl) (Or.inl rfl) (Or.inl rfl) (Or.inl rfl)
    · rw [us_f (by decide)]; exact h0.1
    · rw [us_f (by decide)]; exact h0.2.1
    · rw [us_self, h0.2.2.1]
    · rw [us_f (by decide)]; exact h0.2.2.2.1
    · rw [us_f (by decide)]; exact h0.2.2.2.2
  refine lp_Mdl_send l D ca b ⟨by decide, by decide⟩ C ht v s e (p + 1) a 6 0 rfl σ _ 0 h1 (fun ρ hr => ?_)
  refine z_aload_n C d_Mdl_send_76 rfl 2 rfl ?_
  refine gB_Mdl_hasLast C d_Mdl_send_77 tw_753  ?_
  refine z_iload_n C d_Mdl_send_80 rfl 3 rfl ?_
  refine z_iconst C (v := 1) d_Mdl_send_81 (by decide) ?_
  refine stB_m_hasLast C (q := t) d_Mdl_send_82 rfl (by omega) (by decide) ?_
  refine z_aload_n C d_Mdl_send_83 rfl 2 rfl ?_
  refine gB_Mdl_lastValue C d_Mdl_send_84 tw_754  ?_
  refine z_iload_n C d_Mdl_send_87 rfl 3 rfl ?_
  refine z_iload_n C d_Mdl_send_88 rfl 4 rfl ?_
  refine stB_m_lastValue C (q := t) d_Mdl_send_89  rfl (by omega) ?_
  refine z_aload_n C d_Mdl_send_90 rfl 2 rfl ?_
  refine gB_Mdl_lastSender C d_Mdl_send_91 tw_755  ?_
  refine z_iload_n C d_Mdl_send_94 rfl 3 rfl ?_
  refine z_iload_n C d_Mdl_send_95 rfl 5 rfl ?_
  refine stB_m_lastSender C (q := t) d_Mdl_send_96  rfl (by omega) ?_
  refine z_aload_n C d_Mdl_send_97 rfl 2 rfl ?_
  refine gB_Mdl_lastStamp C d_Mdl_send_98 tw_756  ?_
  refine z_iload_n C d_Mdl_send_101 rfl 3 rfl ?_
  refine z_aload_n C d_Mdl_send_102 rfl 2 rfl ?_
  refine gB_Mdl_clock C d_Mdl_send_103 tw_740  ?_
  refine stB_m_lastStamp C (q := t) d_Mdl_send_106  rfl (by omega) ?_
  have hr2 := Rl_last (ρ := (upA (upA (upA (upA ρ (114, 0, 0) (upd (ρ.1 114 0 0) t 1)) (115, 0, 0) (upd ((upA ρ (114, 0, 0) (upd (ρ.1 114 0 0) t 1)).1 115 0 0) t v)) (116, 0, 0) (upd ((upA (upA ρ (114, 0, 0) (upd (ρ.1 114 0 0) t 1)) (115, 0, 0) (upd ((upA ρ (114, 0, 0) (upd (ρ.1 114 0 0) t 1)).1 115 0 0) t v)).1 116 0 0) t s)) (117, 0, 0) (upd ((upA (upA (upA ρ (114, 0, 0) (upd (ρ.1 114 0 0) t 1)) (115, 0, 0) (upd ((upA ρ (114, 0, 0) (upd (ρ.1 114 0 0) t 1)).1 115 0 0) t v)) (116, 0, 0) (upd ((upA (upA ρ (114, 0, 0) (upd (ρ.1 114 0 0) t 1)) (115, 0, 0) (upd ((upA ρ (114, 0, 0) (upd (ρ.1 114 0 0) t 1)).1 115 0 0) t v)).1 116 0 0) t s)).1 117 0 0) t ((upA (upA (upA ρ (114, 0, 0) (upd (ρ.1 114 0 0) t 1)) (115, 0, 0) (upd ((upA ρ (114, 0, 0) (upd (ρ.1 114 0 0) t 1)).1 115 0 0) t v)) (116, 0, 0) (upd ((upA (upA ρ (114, 0, 0) (upd (ρ.1 114 0 0) t 1)) (115, 0, 0) (upd ((upA ρ (114, 0, 0) (upd (ρ.1 114 0 0) t 1)).1 115 0 0) t v)).1 116 0 0) t s)).1 101 0 0 0)))) (v := v) (s := s) ht hr (by repeat (first | exact Off.rf | assumption | refine Off.us ?_ (by decide) | refine Off.uA ?_ (by decide) | refine Off.uL ?_ (by decide) | refine Off.uE ?_ (by decide))) (by simp [upA]) (by simp [upA]) (by simp [upA]) (by simp [upA])
  generalize (upA (upA (upA (upA ρ (114, 0, 0) (upd (ρ.1 114 0 0) t 1)) (115, 0, 0) (upd ((upA ρ (114, 0, 0) (upd (ρ.1 114 0 0) t 1)).1 115 0 0) t v)) (116, 0, 0) (upd ((upA (upA ρ (114, 0, 0) (upd (ρ.1 114 0 0) t 1)) (115, 0, 0) (upd ((upA ρ (114, 0, 0) (upd (ρ.1 114 0 0) t 1)).1 115 0 0) t v)).1 116 0 0) t s)) (117, 0, 0) (upd ((upA (upA (upA ρ (114, 0, 0) (upd (ρ.1 114 0 0) t 1)) (115, 0, 0) (upd ((upA ρ (114, 0, 0) (upd (ρ.1 114 0 0) t 1)).1 115 0 0) t v)) (116, 0, 0) (upd ((upA (upA ρ (114, 0, 0) (upd (ρ.1 114 0 0) t 1)) (115, 0, 0) (upd ((upA ρ (114, 0, 0) (upd (ρ.1 114 0 0) t 1)).1 115 0 0) t v)).1 116 0 0) t s)).1 117 0 0) t ((upA (upA (upA ρ (114, 0, 0) (upd (ρ.1 114 0 0) t 1)) (115, 0, 0) (upd ((upA ρ (114, 0, 0) (upd (ρ.1 114 0 0) t 1)).1 115 0 0) t v)) (116, 0, 0) (upd ((upA (upA ρ (114, 0, 0) (upd (ρ.1 114 0 0) t 1)) (115, 0, 0) (upd ((upA ρ (114, 0, 0) (upd (ρ.1 114 0 0) t 1)).1 115 0 0) t v)).1 116 0 0) t s)).1 101 0 0 0))) = ρ2 at hr2 ⊢
  have hret2 : ∀ (τ' : Sg) (L' : List (Nat × Value)), Rl e (p + 1) a (sRec (tLast (sLp t v s 6 0 σ 0).1 t v s ((sLp t v s 6 0 σ 0).1.1 1 0 0 0)) t v s) τ' → Zs l D ca SM b 31 (rmN 3 60) 7 X τ' 174 L' [.int (sLp t v s 6 0 σ 0).2] := fun τ' L' h9 => hret _ _ _ _ d_Mdl_send_174 ⟨rfl, Rl_pub h9⟩
  generalize tLast (sLp t v s 6 0 σ 0).1 t v s ((sLp t v s 6 0 σ 0).1.1 1 0 0 0) = σ1 at hr2 hret2
  generalize (sLp t v s 6 0 σ 0).2 = cnt at hret2 ⊢
  have hT := hr2.2.2.2.2.2.2.2.1 t ht
  have hB := hr2.2.2.2.2.2.2.2.2.2.2.1
  have hZ := hr2.2.2.2.2.2.2.2.2.2.2.2.2.2.2.2.1
  refine z_aload_n C d_Mdl_send_107 rfl 2 rfl ?_
  refine gB_Mdl_kept C d_Mdl_send_108 tw_757  ?_
  refine z_iload_n C d_Mdl_send_111 rfl 3 rfl ?_
  refine lB_m_kept C (q := t) d_Mdl_send_112 rfl (by omega) ?_
  refine z_if_eq C 172 d_Mdl_send_113 (by decide) (fun h113 => ?_) (fun h113 => ?_)
  · have hq0 : σ1.1 41 t 0 0 = 0 := hT.2.1.symm.trans h113
    refine z_iload C d_Mdl_send_172 1 rfl ?_
    refine hret2 _ _ ?_
    unfold sRec
    first | (rw [if_pos hq0]; exact hr2) | (rw [if_neg hq0, if_pos hs0]; exact hr2) | (rw [if_neg hq0, if_neg hs0]; unfold bApp; rw [if_neg hfull]; exact hr2)
  · have hq0 : ¬ σ1.1 41 t 0 0 = 0 := fun z => h113 (hT.2.1.trans z)
    refine z_iload_n C d_Mdl_send_116 rfl 5 rfl ?_
    refine z_if_lt C 172 d_Mdl_send_117 (by decide) (fun h117 => ?_) (fun h117 => ?_)
    · have hs0 : s = -1 := hs.resolve_right (fun z => z h117)
      refine z_iload C d_Mdl_send_172 1 rfl ?_
      refine hret2 _ _ ?_
      unfold sRec
      first | (rw [if_pos hq0]; exact hr2) | (rw [if_neg hq0, if_pos hs0]; exact hr2) | (rw [if_neg hq0, if_neg hs0]; unfold bApp; rw [if_neg hfull]; exact hr2)
    · have hs0 : ¬ s = -1 := fun z => h117 (by rw [z]; decide)
      have hbg : ρ2.1 126 0 0 0 = nI (bsz σ1) := hB.1.trans hZ.1
      refine z_aload_n C d_Mdl_send_120 rfl 2 rfl ?_
      refine gB_Mdl_bag C d_Mdl_send_121 tw_765  ?_
      refine z_bipush C (v := 30) d_Mdl_send_124 (by decide) ?_
      refine z_icmp_ge C 172 d_Mdl_send_126 (by decide) (fun h126 => ?_) (fun h126 => ?_)
      · have hfull : ¬ bsz σ1 < 30 := fun z => ge_F (a := bsz σ1) (b := 30) hbg (rfl : (30 : Int32) = nI 30) z (by decide) h126
        refine z_iload C d_Mdl_send_172 1 rfl ?_
        refine hret2 _ _ ?_
        unfold sRec
        first | (rw [if_pos hq0]; exact hr2) | (rw [if_neg hq0, if_pos hs0]; exact hr2) | (rw [if_neg hq0, if_neg hs0]; unfold bApp; rw [if_neg hfull]; exact hr2)
      · have hfree : bsz σ1 < 30 := Nat.lt_of_not_le (fun z => h126 (ge_T (a := bsz σ1) (b := 30) hbg (rfl : (30 : Int32) = nI 30) z (by have := hZ.2; omega)))
        refine z_aload_n C d_Mdl_send_129 rfl 2 rfl ?_
        refine gB_Mdl_bagTime C d_Mdl_send_130 tw_762  ?_
        refine z_aload_n C d_Mdl_send_133 rfl 2 rfl ?_
        refine gB_Mdl_bag C d_Mdl_send_134 tw_765  ?_
        refine z_aload_n C d_Mdl_send_137 rfl 2 rfl ?_
        refine gB_Mdl_clock C d_Mdl_send_138 tw_740  ?_
        refine stB_m_bagTime C (q := (bsz σ1)) d_Mdl_send_141  hbg (by omega) ?_
        refine z_aload_n C d_Mdl_send_142 rfl 2 rfl ?_
        refine gB_Mdl_bagTopic C d_Mdl_send_143 tw_763  ?_
        refine z_aload_n C d_Mdl_send_146 rfl 2 rfl ?_
        refine gB_Mdl_bag C d_Mdl_send_147 tw_765  ?_
        refine z_iload_n C d_Mdl_send_150 rfl 3 rfl ?_
        refine stB_m_bagTopic C (q := (bsz σ1)) d_Mdl_send_151  (by rw [upA_f (by decide)]; exact hbg) (by omega) ?_
        refine z_aload_n C d_Mdl_send_152 rfl 2 rfl ?_
        refine gB_Mdl_bagValue C d_Mdl_send_153 tw_764  ?_
        refine z_aload_n C d_Mdl_send_156 rfl 2 rfl ?_
        refine gB_Mdl_bag C d_Mdl_send_157 tw_765  ?_
        refine z_iload_n C d_Mdl_send_160 rfl 4 rfl ?_
        refine stB_m_bagValue C (q := (bsz σ1)) d_Mdl_send_161  (by rw [upA_f (by decide), upA_f (by decide)]; exact hbg) (by omega) ?_
        refine z_aload_n C d_Mdl_send_162 rfl 2 rfl ?_
        refine z_dup C d_Mdl_send_163 rfl ?_
        refine gB_Mdl_bag C d_Mdl_send_164 tw_765  ?_
        refine z_iconst C (v := 1) d_Mdl_send_167 (by decide) ?_
        refine z_iadd C d_Mdl_send_168 ?_
        refine pB_Mdl_bag C d_Mdl_send_169 tw_765  ?_
        refine z_iload C d_Mdl_send_172 1 rfl ?_
        refine hret2 _ _ ?_
        unfold sRec
        rw [if_neg hq0, if_neg hs0]
        refine Rl_rec ht hr2 hfree (by repeat (first | exact Off.rf | assumption | refine Off.us ?_ (by decide) | refine Off.uA ?_ (by decide) | refine Off.uL ?_ (by decide) | refine Off.uE ?_ (by decide))) ?_ ?_ ?_ ?_
        · simp [us, upA]
        · simp [us, upA]
        · simp [us, upA]
        · rw [us_self]
          simp only [upA_f (v := (123, 0, 0)) (f := 126) (by decide), upA_f (v := (124, 0, 0)) (f := 126) (by decide), upA_f (v := (125, 0, 0)) (f := 126) (by decide), hbg]
          exact nI_1 _
