/-! playDue, tick -/
theorem bPlay_1 {σ : Sg} (hG : GI σ) (h : ¬ bPlay σ = 0) : bnx σ < ben σ := by
  obtain ⟨g1, g2, g3, g4, -⟩ := hG
  apply Nat.lt_of_not_le
  intro z
  apply h
  unfold bPlay
  rw [g1, g2, if_pos (nI_le z (by omega))]
theorem Rl_next {e p a : Int32} {σ τ ρ : Sg} (h0 : Rl e p a σ τ) (hp : ¬ bPlay σ = 0) (ho : Off [127, 130] τ ρ) (r1 : ρ.1 130 0 0 0 = τ.1 130 0 0 0 + 1) (r2 : ρ.1 127 0 0 0 = if τ.1 131 0 0 0 ≤ τ.1 130 0 0 0 + 1 then 0 else 1) : Rl e p a (us σ 11 0 0 (σ.1 11 0 0 0 + 1)) ρ := by
  have hσ : Off [11] σ (us σ 11 0 0 (σ.1 11 0 0 0 + 1)) := Off.rf.us (by decide)
  have gBI := h0.2.2.2.2.2.2.2.2.2.2.2.2.2.2
  refine h0.upd [11] [127, 130] hσ ho (by rw [ho.at (by decide)]; exact h0.1) (Or.inl ⟨rfl, rfl, rfl⟩) (Or.inl rfl) (Or.inl rfl) (Or.inl rfl) (Or.inl rfl) (Or.inl rfl) (Or.inl rfl) (Or.inl rfl) (Or.inl rfl) (Or.inr ?_) (Or.inl rfl) (Or.inl rfl) (Or.inl rfl) (Or.inr ?_)
  · obtain ⟨k1, k2, k3, k4⟩ := h0.2.2.2.2.2.2.2.2.2.2.1
    obtain ⟨l1, l2, l3, l4⟩ := k4 hp
    have e11 : (us σ 11 0 0 (σ.1 11 0 0 0 + 1)).1 11 0 0 0 = σ.1 11 0 0 0 + 1 := us_self
    unfold RB bPlay
    rw [e11, hσ.at (f := 10) (by decide), hσ.at (f := 12) (by decide), hσ.at (f := 13) (by decide), hσ.at (f := 14) (by decide), hσ.at (f := 15) (by decide), hσ.at (f := 16) (by decide), hσ.at (f := 17) (by decide), r1, r2, ho.at (f := 123) (by decide), ho.at (f := 124) (by decide), ho.at (f := 125) (by decide), ho.at (f := 126) (by decide), ho.at (f := 128) (by decide), ho.at (f := 129) (by decide), ho.at (f := 131) (by decide), l3, l4]
    exact ⟨k1, k2, rfl, fun _ => ⟨l1, l2, rfl, rfl⟩⟩
  · exact next_BI gBI (bPlay_1 gBI.2.2.2.2.2 hp)
theorem plS_nx {σ : Sg} (hG : GI σ) (h : bnx σ < ben σ) : bnx (plS σ) = bnx σ + 1 ∧ ben (plS σ) = ben σ := by
  obtain ⟨g1, g2, g3, g4, -⟩ := hG
  unfold plS bnx ben
  rw [sSend_ne (by decide), sSend_ne (by decide), us_self, us_f (by decide)]
  refine ⟨?_, rfl⟩
  rw [g1, nI_1, nI_clamp (by omega), nI_clamp (by omega)]
theorem plS_34 {σ : Sg} : (plS σ).1 3 0 0 0 = σ.1 3 0 0 0 + 1 ∧ (plS σ).1 4 0 0 0 = σ.1 4 0 0 0 := by
  unfold plS
  rw [sSend_3, us_f (by decide), sSend_ne (by decide), us_f (by decide)]
  exact ⟨rfl, rfl⟩
set_option maxRecDepth 100000 in
set_option maxHeartbeats 4000000 in
theorem lp_Mdl_playDue (l : Launch) (D : va_G) (ca : Nat → ClassId) (b : Nat) {R : Room} {X : Zx} {y0 : MethodName} {c0 : ByteArray} {n0 : Nat} {r0 : Option FieldType} (hR : 4 ≤ R.frames ∧ 86 ≤ R.locals) (C : Cs D ca b_Mdl_playDue 3 "RobotBusModel" (Cond.code y0 c0 n0 r0) X) (e : Int32) : ∀ m, ∀ (σ τ : Sg), ben σ - bnx σ ≤ m → Rl e (σ.1 3 0 0 0) (σ.1 4 0 0 0) σ τ → (∀ (τ' : Sg) (pc : Nat) (L' : List (Nat × Value)), decode b_Mdl_playDue pc = .ok (.return_, 1) → Rl e ((plL m σ).1 3 0 0 0) ((plL m σ).1 4 0 0 0) (plL m σ) τ' → Zs l D ca SM b 31 R 3 X τ' pc L' []) → Zs l D ca SM b 31 R 3 X τ 0 [(0, .ref (b + 0))] [] := by
  intro m
  induction m with
  | zero =>
    intro σ τ hm h hret
    have hB := h.2.2.2.2.2.2.2.2.2.2.1
    have hG := h.2.2.2.2.2.2.2.2.2.2.2.2.2.2.2.2.2.2.2
    have hpl : bPlay σ = 0 := Decidable.byContradiction (fun z => by have := bPlay_1 hG z; omega)
    refine z_aload_n C d_Mdl_playDue_0 rfl 0 rfl ?_
    refine gB_Mdl_playing C d_Mdl_playDue_1 tw_766  ?_
    refine z_if_eq C 106 d_Mdl_playDue_4 (by decide) (fun h4 => ?_) (fun h4 => False.elim (h4 (hB.2.2.1.trans hpl)))
    exact hret _ _ _ d_Mdl_playDue_106 h
  | succ m ih =>
    intro σ τ hm h hret
    have hB := h.2.2.2.2.2.2.2.2.2.2.1
    have hBI := h.2.2.2.2.2.2.2.2.2.2.2.2.2.2
    have hG := hBI.2.2.2.2.2
    refine z_aload_n C d_Mdl_playDue_0 rfl 0 rfl ?_
    refine gB_Mdl_playing C d_Mdl_playDue_1 tw_766  ?_
    refine z_if_eq C 106 d_Mdl_playDue_4 (by decide) (fun h4 => ?_) (fun h4 => ?_)
    · have hpl : bPlay σ = 0 := hB.2.2.1.symm.trans h4
      have hnd : bDue σ (σ.1 1 0 0 0) (bnx σ) = 0 := by
        unfold bDue
        unfold bPlay at hpl
        rw [if_pos (Decidable.byContradiction (fun z => by rw [if_neg z] at hpl; exact absurd hpl (by decide)))]
      rw [plL, if_pos hnd] at hret
      exact hret _ _ _ d_Mdl_playDue_106 h
    · have hpl : ¬ bPlay σ = 0 := fun z => h4 (hB.2.2.1.trans z)
      have hlt := bPlay_1 hG hpl
      obtain ⟨b1, b2, b3, b4⟩ := hB.2.2.2 hpl
      have hle := hG.2.2.2.2.1 hlt
      have h30 : bnx σ < 30 := by have := hG.2.2.2.1; omega
      have hnx : τ.1 130 0 0 0 = nI (bnx σ) := b3.trans hG.1
      have hR0 := hB.2.1 (bnx σ) (by show _ < bsz σ; omega)
      have hR1 := hB.2.1 0 (by show _ < bsz σ; omega)
      have ht9 := hG.2.2.2.2.2.2 (bnx σ) (by omega)
      refine z_aload_n C d_Mdl_playDue_7 rfl 0 rfl ?_
      refine gB_Mdl_bagTime C d_Mdl_playDue_8 tw_762  ?_
      refine z_aload_n C d_Mdl_playDue_11 rfl 0 rfl ?_
      refine gB_Mdl_nextRecord C d_Mdl_playDue_12 tw_769  ?_
      refine lB_m_bagTime C (q := (bnx σ)) d_Mdl_playDue_15  hnx h30 ?_
      refine z_ri (x' := (σ.1 15 0 0 (bnx σ))) hR0.1 ?_
      refine z_aload_n C d_Mdl_playDue_16 rfl 0 rfl ?_
      refine gB_Mdl_bagTime C d_Mdl_playDue_17 tw_762  ?_
      refine z_iconst C (v := 0) d_Mdl_playDue_20 (by decide) ?_
      refine lB_m_bagTime C (q := 0) d_Mdl_playDue_21  (rfl : (0 : Int32) = nI 0) (by omega) ?_
      refine z_ri (x' := (σ.1 15 0 0 0)) hR1.1 ?_
      refine z_isub C d_Mdl_playDue_22 ?_
      refine z_istore_n C d_Mdl_playDue_23 rfl (by decide) [(1, .int ((σ.1 15 0 0 (bnx σ)) - (σ.1 15 0 0 0))), (0, .ref (b + 0))] rfl ?_
      refine z_aload_n C d_Mdl_playDue_24 rfl 1 rfl ?_
      refine gB_Mdl_began C d_Mdl_playDue_25 tw_767  ?_
      refine z_ri (x' := (σ.1 13 0 0 0)) b1 ?_
      refine z_iload_n C d_Mdl_playDue_28 rfl 0 rfl ?_
      refine z_aload_n C d_Mdl_playDue_29 rfl 1 rfl ?_
      refine gB_Mdl_speed C d_Mdl_playDue_30 tw_768  ?_
      refine z_ri (x' := (σ.1 14 0 0 0)) b2 ?_
      refine z_iadd C d_Mdl_playDue_33 ?_
      refine z_iconst C (v := 1) d_Mdl_playDue_34 (by decide) ?_
      refine z_isub C d_Mdl_playDue_35 ?_
      refine z_aload_n C d_Mdl_playDue_36 rfl 1 rfl ?_
      refine gB_Mdl_speed C d_Mdl_playDue_37 tw_768  ?_
      refine z_ri (x' := σ.1 14 0 0 0) b2 ?_
      refine z_idiv C d_Mdl_playDue_40 (pace_ne hG) ?_
      refine z_iadd C d_Mdl_playDue_41 ?_
      refine z_aload_n C d_Mdl_playDue_42 rfl 1 rfl ?_
      refine gB_Mdl_clock C d_Mdl_playDue_43 tw_740  ?_
      refine z_ri (x' := (σ.1 1 0 0 0)) h.2.1.1 ?_
      refine z_icmp_le C 50 d_Mdl_playDue_46 (by decide) (fun h46 => ?_) (fun h46 => ?_)
      · have hnd : ¬ bDue σ (σ.1 1 0 0 0) (bnx σ) = 0 := by
          unfold bDue
          rw [if_neg (by rw [hG.1, hG.2.1]; exact nI_ge hlt (by have := hG.2.2.2.1; omega)), if_neg (fun z => absurd z (Int32.not_lt.mpr h46))]
          decide
        rw [plL, if_neg hnd] at hret
        refine z_aload_n C d_Mdl_playDue_50 rfl 1 rfl ?_
        refine gB_Mdl_nextRecord C d_Mdl_playDue_51 tw_769  ?_
        refine z_ri (x' := nI (bnx σ)) hnx ?_
        refine z_istore_n C d_Mdl_playDue_54 rfl (by decide) [(2, .int (nI (bnx σ))), (1, .int ((σ.1 15 0 0 (bnx σ)) - (σ.1 15 0 0 0))), (0, .ref (b + 0))] rfl ?_
        refine z_aload_n C d_Mdl_playDue_55 rfl 2 rfl ?_
        refine z_dup C d_Mdl_playDue_56 rfl ?_
        refine gB_Mdl_nextRecord C d_Mdl_playDue_57 tw_769  ?_
        refine z_iconst C (v := 1) d_Mdl_playDue_60 (by decide) ?_
        refine z_iadd C d_Mdl_playDue_61 ?_
        refine pB_Mdl_nextRecord C d_Mdl_playDue_62 tw_769  ?_
        refine z_aload_n C d_Mdl_playDue_65 rfl 2 rfl ?_
        refine z_aload_n C d_Mdl_playDue_66 rfl 2 rfl ?_
        refine gB_Mdl_nextRecord C d_Mdl_playDue_67 tw_769  ?_
        refine z_aload_n C d_Mdl_playDue_70 rfl 2 rfl ?_
        refine gB_Mdl_lastRecord C d_Mdl_playDue_71 tw_770  ?_
        refine z_icmp_ge C 81 d_Mdl_playDue_74 (by decide) (fun h74 => ?_) (fun h74 => ?_)
        · have h74q : τ.1 131 0 0 0 ≤ τ.1 130 0 0 0 + 1 := by simpa [us, upA] using h74
          refine z_iconst C (v := 0) d_Mdl_playDue_81 (by decide) ?_
          refine pB_Mdl_playing C d_Mdl_playDue_82 tw_766  (by decide) ?_
          have hn := Rl_next (ρ := (us (us τ 130 0 0 ((τ.1 130 0 0 0) + 1)) 127 0 0 0)) h hpl (by repeat (first | exact Off.rf | assumption | refine Off.us ?_ (by decide) | refine Off.uA ?_ (by decide) | refine Off.uL ?_ (by decide) | refine Off.uE ?_ (by decide))) (by simp [us, upA]) (by simp [us, upA, h74q])
          have hk16 : (us (us τ 130 0 0 ((τ.1 130 0 0 0) + 1)) 127 0 0 0).1 124 0 0 (bnx σ) = nI (bto σ (bnx σ)) := by rw [us_f (by decide), us_f (by decide)]; exact hR0.2.1.trans ht9.1
          have hk17 : (us (us τ 130 0 0 ((τ.1 130 0 0 0) + 1)) 127 0 0 0).1 125 0 0 (bnx σ) = σ.1 17 0 0 (bnx σ) := by rw [us_f (by decide), us_f (by decide)]; exact hR0.2.2
          generalize (us (us τ 130 0 0 ((τ.1 130 0 0 0) + 1)) 127 0 0 0) = τ1 at hn hk16 hk17 ⊢
          refine z_aload_n C d_Mdl_playDue_85 rfl 2 rfl ?_
          refine z_aload_n C d_Mdl_playDue_86 rfl 2 rfl ?_
          refine gB_Mdl_bagTopic C d_Mdl_playDue_87 tw_763  ?_
          refine z_iload_n C d_Mdl_playDue_90 rfl 0 rfl ?_
          refine lB_m_bagTopic C (q := (bnx σ)) d_Mdl_playDue_91  rfl h30 ?_
          refine z_ri (x' := (nI (bto σ (bnx σ)))) hk16 ?_
          refine z_aload_n C d_Mdl_playDue_92 rfl 2 rfl ?_
          refine gB_Mdl_bagValue C d_Mdl_playDue_93 tw_764  ?_
          refine z_iload_n C d_Mdl_playDue_96 rfl 0 rfl ?_
          refine lB_m_bagValue C (q := (bnx σ)) d_Mdl_playDue_97  rfl h30 ?_
          refine z_ri (x' := (σ.1 17 0 0 (bnx σ))) hk17 ?_
          refine z_iconst C (v := -1) d_Mdl_playDue_98 (by decide) ?_
          refine zc_Vi C d_Mdl_playDue_99 (c_Mdl_send l D ca b τ1 ht9.2 (σ.1 17 0 0 (bnx σ)) (-1) e _ _ (Or.inl rfl) hn) tw_927 tw_929 tp_Mdl_send tw_10 tw_930 pd_Mdl_send ⟨⟨Nat.le_trans (by decide) hR.1, Nat.le_trans (by decide) hR.2⟩, rfl, rfl, Nat.zero_le _, Nat.zero_le _⟩ (by omega) rfl (eB_Mdl ) rfl (Nat.le_of_ble_eq_true rfl) rfl (fun r τ2 hp => ?_)
          refine z_pop C d_Mdl_playDue_102 rfl ?_
          refine z_goto C 0 d_Mdl_playDue_103 (by decide) ?_
          refine z_loc [2] rfl ?_
          have hh : Rl e ((plS σ).1 3 0 0 0) ((plS σ).1 4 0 0 0) (plS σ) τ2 := by
            rw [plS_34.1, plS_34.2]
            exact hp.2
          exact ih (plS σ) τ2 (by rw [(plS_nx hG hlt).1, (plS_nx hG hlt).2]; omega) hh hret
        · have h74q : ¬ τ.1 131 0 0 0 ≤ τ.1 130 0 0 0 + 1 := by simpa [us, upA] using h74
          refine z_iconst C (v := 1) d_Mdl_playDue_77 (by decide) ?_
          refine z_goto C 82 d_Mdl_playDue_78 (by decide) ?_
          refine pB_Mdl_playing C d_Mdl_playDue_82 tw_766  (by decide) ?_
          have hn := Rl_next (ρ := (us (us τ 130 0 0 ((τ.1 130 0 0 0) + 1)) 127 0 0 1)) h hpl (by repeat (first | exact Off.rf | assumption | refine Off.us ?_ (by decide) | refine Off.uA ?_ (by decide) | refine Off.uL ?_ (by decide) | refine Off.uE ?_ (by decide))) (by simp [us, upA]) (by simp [us, upA, h74q])
          have hk16 : (us (us τ 130 0 0 ((τ.1 130 0 0 0) + 1)) 127 0 0 1).1 124 0 0 (bnx σ) = nI (bto σ (bnx σ)) := by rw [us_f (by decide), us_f (by decide)]; exact hR0.2.1.trans ht9.1
          have hk17 : (us (us τ 130 0 0 ((τ.1 130 0 0 0) + 1)) 127 0 0 1).1 125 0 0 (bnx σ) = σ.1 17 0 0 (bnx σ) := by rw [us_f (by decide), us_f (by decide)]; exact hR0.2.2
          generalize (us (us τ 130 0 0 ((τ.1 130 0 0 0) + 1)) 127 0 0 1) = τ1 at hn hk16 hk17 ⊢
          refine z_aload_n C d_Mdl_playDue_85 rfl 2 rfl ?_
          refine z_aload_n C d_Mdl_playDue_86 rfl 2 rfl ?_
          refine gB_Mdl_bagTopic C d_Mdl_playDue_87 tw_763  ?_
          refine z_iload_n C d_Mdl_playDue_90 rfl 0 rfl ?_
          refine lB_m_bagTopic C (q := (bnx σ)) d_Mdl_playDue_91  rfl h30 ?_
          refine z_ri (x' := (nI (bto σ (bnx σ)))) hk16 ?_
          refine z_aload_n C d_Mdl_playDue_92 rfl 2 rfl ?_
          refine gB_Mdl_bagValue C d_Mdl_playDue_93 tw_764  ?_
          refine z_iload_n C d_Mdl_playDue_96 rfl 0 rfl ?_
          refine lB_m_bagValue C (q := (bnx σ)) d_Mdl_playDue_97  rfl h30 ?_
          refine z_ri (x' := (σ.1 17 0 0 (bnx σ))) hk17 ?_
          refine z_iconst C (v := -1) d_Mdl_playDue_98 (by decide) ?_
          refine zc_Vi C d_Mdl_playDue_99 (c_Mdl_send l D ca b τ1 ht9.2 (σ.1 17 0 0 (bnx σ)) (-1) e _ _ (Or.inl rfl) hn) tw_927 tw_929 tp_Mdl_send tw_10 tw_930 pd_Mdl_send ⟨⟨Nat.le_trans (by decide) hR.1, Nat.le_trans (by decide) hR.2⟩, rfl, rfl, Nat.zero_le _, Nat.zero_le _⟩ (by omega) rfl (eB_Mdl ) rfl (Nat.le_of_ble_eq_true rfl) rfl (fun r τ2 hp => ?_)
          refine z_pop C d_Mdl_playDue_102 rfl ?_
          refine z_goto C 0 d_Mdl_playDue_103 (by decide) ?_
          refine z_loc [2] rfl ?_
          have hh : Rl e ((plS σ).1 3 0 0 0) ((plS σ).1 4 0 0 0) (plS σ) τ2 := by
            rw [plS_34.1, plS_34.2]
            exact hp.2
          exact ih (plS σ) τ2 (by rw [(plS_nx hG hlt).1, (plS_nx hG hlt).2]; omega) hh hret
      · have hnd : bDue σ (σ.1 1 0 0 0) (bnx σ) = 0 := by
          unfold bDue
          rw [if_neg (by rw [hG.1, hG.2.1]; exact nI_ge hlt (by have := hG.2.2.2.1; omega)), if_pos (Int32.not_le.mp h46)]
        rw [plL, if_pos hnd] at hret
        exact hret _ _ _ d_Mdl_playDue_49 h
set_option maxRecDepth 100000 in
set_option maxHeartbeats 4000000 in
/-- what is due is played in the model as in the bus -/
theorem c_Mdl_playDue (l : Launch) (D : va_G) (ca : Nat → ClassId) (b : Nat) (τ : Sg) {σ : Sg} (e : Int32) (h : Rl e (σ.1 3 0 0 0) (σ.1 4 0 0 0) σ τ) : CtV l D ca SM b 31 y_Mdl_playDue w_Mdl_playDue (rmN 4 86) τ [.ref (b + 0)] (fun τ' => Rl e ((plL 30 σ).1 3 0 0 0) ((plL 30 σ).1 4 0 0 0) (plL 30 σ) τ') := by
  refine ct_v "RobotBusModel" [(0, .ref (b + 0))] (by decide) rfl (Nat.le_of_ble_eq_true rfl) rfl (fun X C hret => ?_)
  exact lp_Mdl_playDue l D ca b ⟨by decide, by decide⟩ C e 30 σ τ (by have := h.2.2.2.2.2.2.2.2.2.2.2.2.2.2.2.2.2.2.2.2.2.2.1; omega) h hret
theorem Rl_clock {e p a : Int32} {σ τ : Sg} (h : Rl e p a σ τ) : Rl e p a (us σ 1 0 0 (σ.1 1 0 0 0 + 1)) (us τ 101 0 0 (τ.1 101 0 0 0 + 1)) := h.upd [1] [101] (Off.rf.us (by decide)) (Off.rf.us (by decide)) (by rw [us_f (by decide)]; exact h.1) (Or.inr ⟨(by rw [us_self, us_self, h.2.1.1]), (by rw [us_f (by decide), us_f (by decide)]; exact h.2.1.2.1), (by rw [us_f (by decide)]; exact h.2.1.2.2.1), (by rw [us_f (by decide)]; exact h.2.1.2.2.2.1), (by rw [us_f (by decide), us_f (by decide)]; exact h.2.1.2.2.2.2)⟩) (Or.inl rfl) (Or.inl rfl) (Or.inl rfl) (Or.inl rfl) (Or.inl rfl) (Or.inl rfl) (Or.inl rfl) (Or.inl rfl) (Or.inl rfl) (Or.inl rfl) (Or.inl rfl) (Or.inl rfl) (Or.inl rfl)
set_option maxRecDepth 100000 in
set_option maxHeartbeats 4000000 in
theorem lp_Mdl_tick2 (l : Launch) (D : va_G) (ca : Nat → ClassId) (b : Nat) {R : Room} {X : Zx} {y0 : MethodName} {c0 : ByteArray} {n0 : Nat} {r0 : Option FieldType} (hR : 6 ≤ R.frames ∧ 137 ≤ R.locals) (C : Cs D ca b_Mdl_tick 4 "RobotBusModel" (Cond.code y0 c0 n0 r0) X) (e x1 x2 : Int32) : ∀ m k, k + m = 6 → ∀ (σ τ : Sg), Rl e (σ.1 3 0 0 0) (σ.1 4 0 0 0) σ τ → (∀ τ', Rl e ((spL m k σ).1 3 0 0 0) ((spL m k σ).1 4 0 0 0) (spL m k σ) τ' → Zs l D ca SM b 31 R 4 X τ' 70 [(3, .int (nI 6)), (2, .int x2), (0, .ref (b + 0)), (1, .int x1)] []) → Zs l D ca SM b 31 R 4 X τ 44 [(3, .int (nI k)), (2, .int x2), (0, .ref (b + 0)), (1, .int x1)] [] := by
  intro m
  induction m with
  | zero =>
    intro k hk σ τ h kk
    have hk6 : k = 6 := by omega
    subst hk6
    refine z_iload_n C d_Mdl_tick_44 rfl 0 rfl ?_
    refine z_bipush C (v := 6) d_Mdl_tick_45 (by decide) ?_
    refine z_icmp_ge C 70 d_Mdl_tick_47 (by decide) (fun h47 => ?_) (fun h47 => False.elim (h47 (ge_T (a := 6) (b := 6) rfl (rfl : (6 : Int32) = nI 6) (by omega) (by omega))))
    exact kk _ h
  | succ m ih =>
    intro k hk σ τ h kk
    have hk6 : k < 6 := by omega
    have hN := h.2.2.1 k hk6
    refine z_iload_n C d_Mdl_tick_44 rfl 0 rfl ?_
    refine z_bipush C (v := 6) d_Mdl_tick_45 (by decide) ?_
    refine z_icmp_ge C 70 d_Mdl_tick_47 (by decide) (fun h47 => False.elim (ge_F (a := k) (b := 6) rfl (rfl : (6 : Int32) = nI 6) (by omega) (by omega) h47)) (fun h47 => ?_)
    refine z_aload_n C d_Mdl_tick_50 rfl 2 rfl ?_
    refine gB_Mdl_there C d_Mdl_tick_51 tw_741  ?_
    refine z_iload_n C d_Mdl_tick_54 rfl 0 rfl ?_
    refine lB_m_there C (q := k) d_Mdl_tick_55 rfl hk6 ?_
    refine z_if_eq C 64 d_Mdl_tick_56 (by decide) (fun h56 => ?_) (fun h56 => ?_)
    · rw [spL, if_pos (hN.1.symm.trans h56)] at kk
      refine z_iinc C d_Mdl_tick_64 0 rfl (v := (nI (k + 1))) (nI_1 _) (by decide) [(3, .int (nI (k + 1))), (2, .int x2), (0, .ref (b + 0)), (1, .int x1)] rfl ?_
      refine z_goto C 44 d_Mdl_tick_67 (by decide) ?_
      exact ih (k + 1) (by omega) _ _ h kk
    · rw [spL, if_neg (fun z => h56 (hN.1.trans z))] at kk
      refine z_aload_n C d_Mdl_tick_59 rfl 2 rfl ?_
      refine z_iload_n C d_Mdl_tick_60 rfl 0 rfl ?_
      refine zc_Vv C d_Mdl_tick_61 (c_Mdl_spin l D ca b τ hk6 (fun z => h56 (hN.1.trans z)) e h) tw_961 tw_963 tp_Mdl_spin tw_10 tw_964 pd_Mdl_spin ⟨⟨hR.1, hR.2⟩, rfl, rfl, Nat.zero_le _, Nat.zero_le _⟩ (by omega) rfl (eB_Mdl ) rfl (Nat.le_of_ble_eq_true rfl) rfl (fun τ1 hp => ?_)
      refine z_iinc C d_Mdl_tick_64 0 rfl (v := (nI (k + 1))) (nI_1 _) (by decide) [(3, .int (nI (k + 1))), (2, .int x2), (0, .ref (b + 0)), (1, .int x1)] rfl ?_
      refine z_goto C 44 d_Mdl_tick_67 (by decide) ?_
      exact ih (k + 1) (by omega) _ _ hp kk
set_option maxRecDepth 100000 in
set_option maxHeartbeats 4000000 in
theorem lp_Mdl_tick1 (l : Launch) (D : va_G) (ca : Nat → ClassId) (b : Nat) {R : Room} {X : Zx} {y0 : MethodName} {c0 : ByteArray} {n0 : Nat} {r0 : Option FieldType} (hR : 6 ≤ R.frames ∧ 137 ≤ R.locals) (C : Cs D ca b_Mdl_tick 4 "RobotBusModel" (Cond.code y0 c0 n0 r0) X) (e : Int32) {n : Nat} (hn : n ≤ 8) : ∀ m k, k + m = n → ∀ (σ τ : Sg), Rl e (σ.1 3 0 0 0) (σ.1 4 0 0 0) σ τ → (∀ τ', Rl e ((tkN m σ).1 3 0 0 0) ((tkN m σ).1 4 0 0 0) (tkN m σ) τ' → Zs l D ca SM b 31 R 4 X τ' 76 [(2, .int (nI n)), (0, .ref (b + 0)), (1, .int (nI n))] []) → Zs l D ca SM b 31 R 4 X τ 23 [(2, .int (nI k)), (0, .ref (b + 0)), (1, .int (nI n))] [] := by
  intro m
  induction m with
  | zero =>
    intro k hk σ τ h kk
    have hk6 : k = n := by omega
    refine z_iload_n C d_Mdl_tick_23 rfl 0 rfl ?_
    refine z_iload_n C d_Mdl_tick_24 rfl 2 rfl ?_
    refine z_icmp_ge C 76 d_Mdl_tick_25 (by decide) (fun h25 => ?_) (fun h25 => False.elim (h25 (ge_T (a := k) (b := n) rfl rfl (by omega) (by omega))))
    rw [hk6]
    exact kk _ h
  | succ m ih =>
    intro k hk σ τ h kk
    refine z_iload_n C d_Mdl_tick_23 rfl 0 rfl ?_
    refine z_iload_n C d_Mdl_tick_24 rfl 2 rfl ?_
    refine z_icmp_ge C 76 d_Mdl_tick_25 (by decide) (fun h25 => False.elim (ge_F (a := k) (b := n) rfl rfl (by omega) (by omega) h25)) (fun h25 => ?_)
    refine z_aload_n C d_Mdl_tick_28 rfl 1 rfl ?_
    refine z_dup C d_Mdl_tick_29 rfl ?_
    refine gB_Mdl_clock C d_Mdl_tick_30 tw_740  ?_
    refine z_iconst C (v := 1) d_Mdl_tick_33 (by decide) ?_
    refine z_iadd C d_Mdl_tick_34 ?_
    refine pB_Mdl_clock C d_Mdl_tick_35 tw_740  ?_
    refine z_aload_n C d_Mdl_tick_38 rfl 1 rfl ?_
    refine zc_Vv C d_Mdl_tick_39 (c_Mdl_playDue l D ca b (us τ 101 0 0 ((τ.1 101 0 0 0) + 1)) e (σ := us σ 1 0 0 (σ.1 1 0 0 0 + 1)) (by rw [us_f (by decide), us_f (by decide)]; exact Rl_clock h)) tw_957 tw_959 tp_Mdl_playDue tw_10 tw_960 pd_Mdl_playDue ⟨⟨Nat.le_trans (by decide) hR.1, Nat.le_trans (by decide) hR.2⟩, rfl, rfl, Nat.zero_le _, Nat.zero_le _⟩ (by omega) rfl (eB_Mdl ) rfl (Nat.le_of_ble_eq_true rfl) rfl (fun τ1 hp => ?_)
    refine z_iconst C (v := 0) d_Mdl_tick_42 (by decide) ?_
    refine z_istore_n C d_Mdl_tick_43 rfl (by decide) [(3, .int 0), (2, .int (nI k)), (0, .ref (b + 0)), (1, .int (nI n))] rfl ?_
    refine lp_Mdl_tick2 l D ca b hR C e (nI n) (nI k) 6 0 rfl _ _ hp (fun τ2 hp2 => ?_)
    refine z_iinc C d_Mdl_tick_70 1 rfl (v := (nI (k + 1))) (nI_1 _) (by decide) [(2, .int (nI (k + 1))), (3, .int (nI 6)), (0, .ref (b + 0)), (1, .int (nI n))] rfl ?_
    refine z_goto C 23 d_Mdl_tick_73 (by decide) ?_
    refine z_loc [0, 2, 3] rfl ?_
    exact ih (k + 1) (by omega) (tickF σ) _ hp2 kk
set_option maxRecDepth 100000 in
set_option maxHeartbeats 4000000 in
/-- tickX of the model -/
theorem c_Mdl_tick (l : Launch) (D : va_G) (ca : Nat → ClassId) (b : Nat) (τ : Sg) {σ : Sg} (e : Int32) (q : Int32) (h : Rl e (σ.1 3 0 0 0) (σ.1 4 0 0 0) σ τ) : CtI l D ca SM b 31 y_Mdl_tick w_Mdl_tick (rmN 6 137) τ [.ref (b + 0), .int q] (fun r τ' => Pm [xIAE] (tickX σ q) r τ') := by
  refine ct_i "RobotBusModel" [(0, .ref (b + 0)), (1, .int q)] (by decide) rfl (Nat.le_of_ble_eq_true rfl) rfl (fun X C hret => ?_)
  refine z_aload_n C d_Mdl_tick_0 rfl 0 rfl ?_
  refine z_iconst C (v := 0) d_Mdl_tick_1 (by decide) ?_
  refine pB_Mdl_thrown C d_Mdl_tick_2 tw_739  ?_
  have h0 := Rl_e (e' := 0) h
  generalize us τ 100 0 0 0 = τ0 at h0 ⊢
  refine z_iload_n C d_Mdl_tick_5 rfl 1 rfl ?_
  refine z_iconst C (v := 1) d_Mdl_tick_6 (by decide) ?_
  refine z_bipush C (v := 8) d_Mdl_tick_7 (by decide) ?_
  refine zf_Si C d_Mdl_tick_9 (c_Mdl_in l D ca b τ0 q 1 8) tw_888 tw_889 tw_10 tw_890 pd_Mdl_in ⟨⟨by decide, by decide⟩, rfl, rfl, by decide, by decide⟩ (Nat.le_of_ble_eq_true rfl) rfl ?_
  refine z_if_ne C 21 d_Mdl_tick_12 (by decide) (fun h12 => ?_) (fun h12 => ?_)
  · obtain ⟨n, hn1, hn, rfl⟩ := wit_nat (lo := 1) (hi := 8) (by decide) (by decide) h12
    have hcn : (nI n).toNatClampNeg = n := nI_clamp (by omega)
    refine z_iconst C (v := 0) d_Mdl_tick_21 (by decide) ?_
    refine z_istore_n C d_Mdl_tick_22 rfl (by decide) [(2, .int 0), (0, .ref (b + 0)), (1, .int (nI n))] rfl ?_
    refine lp_Mdl_tick1 l D ca b ⟨by decide, by decide⟩ C 0 hn n 0 (by omega) σ _ h0 (fun τ1 hp => ?_)
    refine z_aload_n C d_Mdl_tick_76 rfl 1 rfl ?_
    refine gB_Mdl_clock C d_Mdl_tick_77 tw_740  ?_
    exact hret _ _ _ _ d_Mdl_tick_80 (Pm_ok (tkN n σ) (by simp [tickX, *, hp.2.1.1]) hp)
  · refine z_aload_n C d_Mdl_tick_15 rfl 0 rfl ?_
    refine z_iconst C (v := 1) d_Mdl_tick_16 (by decide) ?_
    refine zf_Vi C d_Mdl_tick_17 (c_Mdl_raise l D ca b τ0 1) tw_891 tw_893 tp_Mdl_raise tw_10 tw_894 pd_Mdl_raise ⟨⟨by decide, by decide⟩, rfl, rfl, by decide, by decide⟩ (by omega) rfl (eB_Mdl ) rfl (Nat.le_of_ble_eq_true rfl) rfl ?_
    exact hret _ _ _ _ d_Mdl_tick_20 (Pm_err xIAE (by simp [tickX, *]) (by decide +kernel) (Rl_e h0))
