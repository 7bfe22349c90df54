set_option maxRecDepth 100000 in
set_option maxHeartbeats 4000000 in
/-- emptyF of the model -/
theorem c_Mdl_empty (l : Launch) (D : va_G) (ca : Nat → ClassId) (b : Nat) (τ : Sg) {σ : Sg} (e : Int32)  (h : Rl e (σ.1 3 0 0 0) (σ.1 4 0 0 0) σ τ) : CtI l D ca SM b 31 y_Mdl_empty w_Mdl_empty (rmN 1 22) τ [.ref (b + 0)] (fun r τ' => Pm [xISE] (emptyF σ ) r τ') := by
  refine ct_i "RobotBusModel" [(0, .ref (b + 0))] (by decide) rfl (Nat.le_of_ble_eq_true rfl) rfl (fun X C hret => ?_)
  refine z_aload_n C d_Mdl_empty_0 rfl 0 rfl ?_
  refine z_iconst C (v := 0) d_Mdl_empty_1 (by decide) ?_
  refine pB_Mdl_thrown C d_Mdl_empty_2 tw_739  ?_
  have h0 := Rl_e (e' := 0) h
  generalize us τ 100 0 0 0 = τ0 at h0 ⊢
  refine z_aload_n C d_Mdl_empty_5 rfl 0 rfl ?_
  refine gB_Mdl_playing C d_Mdl_empty_6 tw_766  ?_
  refine z_if_eq C 18 d_Mdl_empty_9 (by decide) (fun h9 => ?_) (fun h9 => ?_)
  · have hpl : bPlay σ = 0 := h0.2.2.2.2.2.2.2.2.2.2.1.2.2.1.symm.trans h9
    refine z_aload_n C d_Mdl_empty_18 rfl 0 rfl ?_
    refine gB_Mdl_bag C d_Mdl_empty_19 tw_765  ?_
    refine z_istore_n C d_Mdl_empty_22 rfl (by decide) [(1, .int (τ0.1 126 0 0 0)), (0, .ref (b + 0))] rfl ?_
    refine z_aload_n C d_Mdl_empty_23 rfl 1 rfl ?_
    refine z_iconst C (v := 0) d_Mdl_empty_24 (by decide) ?_
    refine pB_Mdl_bag C d_Mdl_empty_25 tw_765  ?_
    refine z_iload_n C d_Mdl_empty_28 rfl 0 rfl ?_
    exact hret _ _ _ _ d_Mdl_empty_29 (Pm_ok (us σ 10 0 0 0) (by simp [emptyF, *, h0.2.2.2.2.2.2.2.2.2.2.1.1]) (by rw [us_f (by decide), us_f (by decide)]; exact Rl_empty h0 hpl (Off.rf.us (by decide)) us_self))
  · have hpl : ¬ bPlay σ = 0 := fun z => h9 (h0.2.2.2.2.2.2.2.2.2.2.1.2.2.1.trans z)
    refine z_aload_n C d_Mdl_empty_12 rfl 0 rfl ?_
    refine z_iconst C (v := 1) d_Mdl_empty_13 (by decide) ?_
    refine zf_Vi C d_Mdl_empty_14 (c_Mdl_raise l D ca b τ0 1) tw_891 tw_893 tp_Mdl_raise tw_10 tw_894 pd_Mdl_raise ⟨⟨by decide, by decide⟩, rfl, rfl, by decide, by decide⟩ (by omega) rfl (eB_Mdl ) rfl (Nat.le_of_ble_eq_true rfl) rfl ?_
    exact hret _ _ _ _ d_Mdl_empty_17 (Pm_err xISE (by simp [emptyF, *]) (by decide +kernel) (Rl_e h0))
set_option maxRecDepth 100000 in
set_option maxHeartbeats 4000000 in
/-- playF of the model -/
theorem c_Mdl_play (l : Launch) (D : va_G) (ca : Nat → ClassId) (b : Nat) (τ : Sg) {σ : Sg} (e : Int32) (s : Int32) (h : Rl e (σ.1 3 0 0 0) (σ.1 4 0 0 0) σ τ) : CtI l D ca SM b 31 y_Mdl_play w_Mdl_play (rmN 1 22) τ [.ref (b + 0), .int s] (fun r τ' => Pm [xIAE, xISE, xUNS] (playF σ s) r τ') := by
  refine ct_i "RobotBusModel" [(0, .ref (b + 0)), (1, .int s)] (by decide) rfl (Nat.le_of_ble_eq_true rfl) rfl (fun X C hret => ?_)
  refine z_aload_n C d_Mdl_play_0 rfl 0 rfl ?_
  refine z_iconst C (v := 0) d_Mdl_play_1 (by decide) ?_
  refine pB_Mdl_thrown C d_Mdl_play_2 tw_739  ?_
  have h0 := Rl_e (e' := 0) h
  generalize us τ 100 0 0 0 = τ0 at h0 ⊢
  refine z_iload_n C d_Mdl_play_5 rfl 1 rfl ?_
  refine z_iconst C (v := 1) d_Mdl_play_6 (by decide) ?_
  refine z_iconst C (v := 4) d_Mdl_play_7 (by decide) ?_
  refine zf_Si C d_Mdl_play_8 (c_Mdl_in l D ca b τ0 s 1 4) tw_888 tw_889 tw_10 tw_890 pd_Mdl_in ⟨⟨by decide, by decide⟩, rfl, rfl, by decide, by decide⟩ (Nat.le_of_ble_eq_true rfl) rfl ?_
  refine z_if_ne C 20 d_Mdl_play_11 (by decide) (fun h11 => ?_) (fun h11 => ?_)
  · refine z_aload_n C d_Mdl_play_20 rfl 0 rfl ?_
    refine gB_Mdl_playing C d_Mdl_play_21 tw_766  ?_
    refine z_if_eq C 33 d_Mdl_play_24 (by decide) (fun h24 => ?_) (fun h24 => ?_)
    · have hpl : bPlay σ = 0 := h0.2.2.2.2.2.2.2.2.2.2.1.2.2.1.symm.trans h24
      refine z_aload_n C d_Mdl_play_33 rfl 0 rfl ?_
      refine gB_Mdl_bag C d_Mdl_play_34 tw_765  ?_
      refine z_if_ne C 46 d_Mdl_play_37 (by decide) (fun h37 => ?_) (fun h37 => ?_)
      · have hz : ¬ σ.1 10 0 0 0 = 0 := fun z => h37 (h0.2.2.2.2.2.2.2.2.2.2.1.1.trans z)
        refine z_aload_n C d_Mdl_play_46 rfl 0 rfl ?_
        refine z_iconst C (v := 1) d_Mdl_play_47 (by decide) ?_
        refine pB_Mdl_playing C d_Mdl_play_48 tw_766  (by decide) ?_
        refine z_aload_n C d_Mdl_play_51 rfl 0 rfl ?_
        refine z_aload_n C d_Mdl_play_52 rfl 0 rfl ?_
        refine gB_Mdl_clock C d_Mdl_play_53 tw_740  ?_
        refine pB_Mdl_began C d_Mdl_play_56 tw_767  ?_
        refine z_aload_n C d_Mdl_play_59 rfl 0 rfl ?_
        refine z_iload_n C d_Mdl_play_60 rfl 1 rfl ?_
        refine pB_Mdl_speed C d_Mdl_play_61 tw_768  ?_
        refine z_aload_n C d_Mdl_play_64 rfl 0 rfl ?_
        refine z_iconst C (v := 0) d_Mdl_play_65 (by decide) ?_
        refine pB_Mdl_nextRecord C d_Mdl_play_66 tw_769  ?_
        refine z_aload_n C d_Mdl_play_69 rfl 0 rfl ?_
        refine z_aload_n C d_Mdl_play_70 rfl 0 rfl ?_
        refine gB_Mdl_bag C d_Mdl_play_71 tw_765  ?_
        refine pB_Mdl_lastRecord C d_Mdl_play_74 tw_770  ?_
        refine z_aload_n C d_Mdl_play_77 rfl 0 rfl ?_
        refine gB_Mdl_bag C d_Mdl_play_78 tw_765  ?_
        exact hret _ _ _ _ d_Mdl_play_81 (Pm_ok (bStart σ (σ.1 1 0 0 0) s) (by simp [playF, *, us, upA, h0.2.2.2.2.2.2.2.2.2.2.1.1]) (by rw [show (bStart σ (σ.1 1 0 0 0) s).1 3 = σ.1 3 by unfold bStart; rw [us_f (by decide), us_f (by decide), us_f (by decide), us_f (by decide)], show (bStart σ (σ.1 1 0 0 0) s).1 4 = σ.1 4 by unfold bStart; rw [us_f (by decide), us_f (by decide), us_f (by decide), us_f (by decide)]]; exact Rl_play h0 h11 hz (by repeat (first | exact Off.rf | assumption | refine Off.us ?_ (by decide) | refine Off.uA ?_ (by decide) | refine Off.uL ?_ (by decide) | refine Off.uE ?_ (by decide))) (by simp [us, upA]) (by simp [us, upA]) (by simp [us, upA]) (by simp [us, upA]) (by simp [us, upA])))
      · have hz : σ.1 10 0 0 0 = 0 := h0.2.2.2.2.2.2.2.2.2.2.1.1.symm.trans h37
        refine z_aload_n C d_Mdl_play_40 rfl 0 rfl ?_
        refine z_iconst C (v := 3) d_Mdl_play_41 (by decide) ?_
        refine zf_Vi C d_Mdl_play_42 (c_Mdl_raise l D ca b τ0 3) tw_891 tw_893 tp_Mdl_raise tw_10 tw_894 pd_Mdl_raise ⟨⟨by decide, by decide⟩, rfl, rfl, by decide, by decide⟩ (by omega) rfl (eB_Mdl ) rfl (Nat.le_of_ble_eq_true rfl) rfl ?_
        exact hret _ _ _ _ d_Mdl_play_45 (Pm_err xUNS (by simp [playF, *]) (by decide +kernel) (Rl_e h0))
    · have hpl : ¬ bPlay σ = 0 := fun z => h24 (h0.2.2.2.2.2.2.2.2.2.2.1.2.2.1.trans z)
      refine z_aload_n C d_Mdl_play_27 rfl 0 rfl ?_
      refine z_iconst C (v := 2) d_Mdl_play_28 (by decide) ?_
      refine zf_Vi C d_Mdl_play_29 (c_Mdl_raise l D ca b τ0 2) tw_891 tw_893 tp_Mdl_raise tw_10 tw_894 pd_Mdl_raise ⟨⟨by decide, by decide⟩, rfl, rfl, by decide, by decide⟩ (by omega) rfl (eB_Mdl ) rfl (Nat.le_of_ble_eq_true rfl) rfl ?_
      exact hret _ _ _ _ d_Mdl_play_32 (Pm_err xISE (by simp [playF, *]) (by decide +kernel) (Rl_e h0))
  · refine z_aload_n C d_Mdl_play_14 rfl 0 rfl ?_
    refine z_iconst C (v := 1) d_Mdl_play_15 (by decide) ?_
    refine zf_Vi C d_Mdl_play_16 (c_Mdl_raise l D ca b τ0 1) tw_891 tw_893 tp_Mdl_raise tw_10 tw_894 pd_Mdl_raise ⟨⟨by decide, by decide⟩, rfl, rfl, by decide, by decide⟩ (by omega) rfl (eB_Mdl ) rfl (Nat.le_of_ble_eq_true rfl) rfl ?_
    exact hret _ _ _ _ d_Mdl_play_19 (Pm_err xIAE (by simp [playF, *]) (by decide +kernel) (Rl_e h0))
set_option maxRecDepth 100000 in
set_option maxHeartbeats 4000000 in
/-- unsubF of the model -/
theorem c_Mdl_unsubscribe (l : Launch) (D : va_G) (ca : Nat → ClassId) (b : Nat) (τ : Sg) {σ : Sg} (e : Int32) (x y : Int32) (h : Rl e (σ.1 3 0 0 0) (σ.1 4 0 0 0) σ τ) : CtI l D ca SM b 31 y_Mdl_unsubscribe w_Mdl_unsubscribe (rmN 2 44) τ [.ref (b + 0), .int x, .int y] (fun r τ' => Pm [xNSE, xIAE] (unsubF σ x y) r τ') := by
  refine ct_i "RobotBusModel" [(0, .ref (b + 0)), (1, .int x), (2, .int y)] (by decide) rfl (Nat.le_of_ble_eq_true rfl) rfl (fun X C hret => ?_)
  refine z_aload_n C d_Mdl_unsubscribe_0 rfl 0 rfl ?_
  refine z_iconst C (v := 0) d_Mdl_unsubscribe_1 (by decide) ?_
  refine pB_Mdl_thrown C d_Mdl_unsubscribe_2 tw_739  ?_
  have h0 := Rl_e (e' := 0) h
  generalize us τ 100 0 0 0 = τ0 at h0 ⊢
  refine z_aload_n C d_Mdl_unsubscribe_5 rfl 0 rfl ?_
  refine z_iload_n C d_Mdl_unsubscribe_6 rfl 1 rfl ?_
  refine zf_Vi C d_Mdl_unsubscribe_7 (c_Mdl_noNode l D ca b τ0 x) tw_899 tw_901 tp_Mdl_noNode tw_10 tw_902 pd_Mdl_noNode ⟨⟨by decide, by decide⟩, rfl, rfl, by decide, by decide⟩ (by omega) rfl (eB_Mdl ) rfl (Nat.le_of_ble_eq_true rfl) rfl ?_
  refine z_if_eq C 19 d_Mdl_unsubscribe_10 (by decide) (fun h10 => ?_) (fun h10 => ?_)
  · have hth := (isNo_th h0 _).mp h10
    obtain ⟨j, hj, rfl, hpj⟩ := isTh_nat hth
    have hcj : (nI j).toNatClampNeg = j := nI_clamp (by omega)
    refine z_iload_n C d_Mdl_unsubscribe_19 rfl 2 rfl ?_
    refine z_iconst C (v := 0) d_Mdl_unsubscribe_20 (by decide) ?_
    refine z_iconst C (v := 5) d_Mdl_unsubscribe_21 (by decide) ?_
    refine zf_Si C d_Mdl_unsubscribe_22 (c_Mdl_in l D ca b τ0 y 0 5) tw_888 tw_889 tw_10 tw_890 pd_Mdl_in ⟨⟨by decide, by decide⟩, rfl, rfl, by decide, by decide⟩ (Nat.le_of_ble_eq_true rfl) rfl ?_
    refine z_ri (x' := bel y 6) (wit0_bel y 5 (by decide)) ?_
    refine z_if_ne C 34 d_Mdl_unsubscribe_25 (by decide) (fun h25 => ?_) (fun h25 => ?_)
    · obtain ⟨t, ht, rfl⟩ := bel_nat (n := 6) (by decide) h25
      have hct : (nI t).toNatClampNeg = t := nI_clamp (by omega)
      refine z_bipush C (v := 6) d_Mdl_unsubscribe_34 (by decide) ?_
      refine z_iload_n C d_Mdl_unsubscribe_36 rfl 1 rfl ?_
      refine z_imul C d_Mdl_unsubscribe_37 ?_
      refine z_iload_n C d_Mdl_unsubscribe_38 rfl 2 rfl ?_
      refine z_iadd C d_Mdl_unsubscribe_39 ?_
      refine z_ri (x' := nI ((6 * j) + t)) (nadd (nmul (rfl : (6 : Int32) = nI 6) rfl) rfl) ?_
      refine z_istore_n C d_Mdl_unsubscribe_40 rfl (by decide) [(3, .int (nI ((6 * j) + t))), (0, .ref (b + 0)), (1, .int (nI j)), (2, .int (nI t))] rfl ?_
      refine z_aload_n C d_Mdl_unsubscribe_41 rfl 1 rfl ?_
      refine gB_Mdl_depth C d_Mdl_unsubscribe_42 tw_744  ?_
      refine z_iload_n C d_Mdl_unsubscribe_45 rfl 0 rfl ?_
      refine lB_m_depth C (q := ((6 * j) + t)) d_Mdl_unsubscribe_46  rfl (by omega) ?_
      refine z_if_ne C 56 d_Mdl_unsubscribe_47 (by decide) (fun h47 => ?_) (fun h47 => ?_)
      · have hQ := h0.2.2.2.2.2.1 j hj t ht
        have hop := qOpen_p h0.2.2.2.2.2.2.2.2.2.2.2.2.2.2.1 hj ht (fun z => h47 (hQ.1.trans z))
        refine z_aload_n C d_Mdl_unsubscribe_56 rfl 1 rfl ?_
        refine gB_Mdl_waiting C d_Mdl_unsubscribe_57 tw_745  ?_
        refine z_iload_n C d_Mdl_unsubscribe_60 rfl 0 rfl ?_
        refine lB_m_waiting C (q := ((6 * j) + t)) d_Mdl_unsubscribe_61  rfl (by omega) ?_
        refine z_istore C d_Mdl_unsubscribe_62 (by decide) [(4, .int (τ0.1 106 0 0 ((6 * j) + t))), (3, .int (nI ((6 * j) + t))), (0, .ref (b + 0)), (1, .int (nI j)), (2, .int (nI t))] rfl ?_
        refine z_aload_n C d_Mdl_unsubscribe_64 rfl 2 rfl ?_
        refine gB_Mdl_depth C d_Mdl_unsubscribe_65 tw_744  ?_
        refine z_iload_n C d_Mdl_unsubscribe_68 rfl 1 rfl ?_
        refine z_iconst C (v := 0) d_Mdl_unsubscribe_69 (by decide) ?_
        refine stB_m_depth C (q := ((6 * j) + t)) d_Mdl_unsubscribe_70  rfl (by omega) ?_
        refine z_aload_n C d_Mdl_unsubscribe_71 rfl 2 rfl ?_
        refine gB_Mdl_waiting C d_Mdl_unsubscribe_72 tw_745  ?_
        refine z_iload_n C d_Mdl_unsubscribe_75 rfl 1 rfl ?_
        refine z_iconst C (v := 0) d_Mdl_unsubscribe_76 (by decide) ?_
        refine stB_m_waiting C (q := ((6 * j) + t)) d_Mdl_unsubscribe_77  rfl (by omega) ?_
        refine z_iload C d_Mdl_unsubscribe_78 0 rfl ?_
        exact hret _ _ _ _ d_Mdl_unsubscribe_80 (Pm_ok (qClose σ j t) (by simp [unsubF, *, hop.1, hQ.2.1]) (by rw [show (qClose σ j t).1 3 = σ.1 3 by unfold qClose; rw [us_f (by decide), us_f (by decide)], show (qClose σ j t).1 4 = σ.1 4 by unfold qClose; rw [us_f (by decide), us_f (by decide)]]; exact Rl_close hj ht h0 (by repeat (first | exact Off.rf | assumption | refine Off.us ?_ (by decide) | refine Off.uA ?_ (by decide) | refine Off.uL ?_ (by decide) | refine Off.uE ?_ (by decide))) (by simp [us, upA]) (by simp [us, upA])))
      · have hcl : qOpen σ j t = 0 := qOpen_z ((h0.2.2.2.2.2.1 j hj t ht).1.symm.trans h47)
        refine z_aload_n C d_Mdl_unsubscribe_50 rfl 1 rfl ?_
        refine z_iconst C (v := 1) d_Mdl_unsubscribe_51 (by decide) ?_
        refine zf_Vi C d_Mdl_unsubscribe_52 (c_Mdl_raise l D ca b τ0 1) tw_891 tw_893 tp_Mdl_raise tw_10 tw_894 pd_Mdl_raise ⟨⟨by decide, by decide⟩, rfl, rfl, by decide, by decide⟩ (by omega) rfl (eB_Mdl ) rfl (Nat.le_of_ble_eq_true rfl) rfl ?_
        exact hret _ _ _ _ d_Mdl_unsubscribe_55 (Pm_err xNSE (by simp [unsubF, *]) (by decide +kernel) (Rl_e h0))
    · refine z_aload_n C d_Mdl_unsubscribe_28 rfl 0 rfl ?_
      refine z_iconst C (v := 2) d_Mdl_unsubscribe_29 (by decide) ?_
      refine zf_Vi C d_Mdl_unsubscribe_30 (c_Mdl_raise l D ca b τ0 2) tw_891 tw_893 tp_Mdl_raise tw_10 tw_894 pd_Mdl_raise ⟨⟨by decide, by decide⟩, rfl, rfl, by decide, by decide⟩ (by omega) rfl (eB_Mdl ) rfl (Nat.le_of_ble_eq_true rfl) rfl ?_
      exact hret _ _ _ _ d_Mdl_unsubscribe_33 (Pm_err xIAE (by simp [unsubF, *]) (by decide +kernel) (Rl_e h0))
  · have hth : isTh σ x = 0 := Decidable.byContradiction (fun z => h10 ((isNo_th h0 _).mpr z))
    refine z_aload_n C d_Mdl_unsubscribe_13 rfl 0 rfl ?_
    refine z_iconst C (v := 1) d_Mdl_unsubscribe_14 (by decide) ?_
    refine zf_Vi C d_Mdl_unsubscribe_15 (c_Mdl_raise l D ca b τ0 1) tw_891 tw_893 tp_Mdl_raise tw_10 tw_894 pd_Mdl_raise ⟨⟨by decide, by decide⟩, rfl, rfl, by decide, by decide⟩ (by omega) rfl (eB_Mdl ) rfl (Nat.le_of_ble_eq_true rfl) rfl ?_
    exact hret _ _ _ _ d_Mdl_unsubscribe_18 (Pm_err xNSE (by simp [unsubF, *]) (by decide +kernel) (Rl_e h0))
set_option maxRecDepth 100000 in
set_option maxHeartbeats 4000000 in
/-- actF of the model -/
theorem c_Mdl_act (l : Launch) (D : va_G) (ca : Nat → ClassId) (b : Nat) (τ : Sg) {σ : Sg} (e : Int32) (x y k a c : Int32) (h : Rl e (σ.1 3 0 0 0) (σ.1 4 0 0 0) σ τ) : CtI l D ca SM b 31 y_Mdl_act w_Mdl_act (rmN 2 44) τ [.ref (b + 0), .int x, .int y, .int k, .int a, .int c] (fun r τ' => Pm [xNSE, xIAE] (actF σ x y k a c) r τ') := by
  refine ct_i "RobotBusModel" [(0, .ref (b + 0)), (1, .int x), (2, .int y), (3, .int k), (4, .int a), (5, .int c)] (by decide) rfl (Nat.le_of_ble_eq_true rfl) rfl (fun X C hret => ?_)
  refine z_aload_n C d_Mdl_act_0 rfl 0 rfl ?_
  refine z_iconst C (v := 0) d_Mdl_act_1 (by decide) ?_
  refine pB_Mdl_thrown C d_Mdl_act_2 tw_739  ?_
  have h0 := Rl_e (e' := 0) h
  generalize us τ 100 0 0 0 = τ0 at h0 ⊢
  refine z_aload_n C d_Mdl_act_5 rfl 0 rfl ?_
  refine z_iload_n C d_Mdl_act_6 rfl 1 rfl ?_
  refine zf_Vi C d_Mdl_act_7 (c_Mdl_noNode l D ca b τ0 x) tw_899 tw_901 tp_Mdl_noNode tw_10 tw_902 pd_Mdl_noNode ⟨⟨by decide, by decide⟩, rfl, rfl, by decide, by decide⟩ (by omega) rfl (eB_Mdl ) rfl (Nat.le_of_ble_eq_true rfl) rfl ?_
  refine z_if_eq C 19 d_Mdl_act_10 (by decide) (fun h10 => ?_) (fun h10 => ?_)
  · have hth := (isNo_th h0 _).mp h10
    obtain ⟨j, hj, rfl, hpj⟩ := isTh_nat hth
    have hcj : (nI j).toNatClampNeg = j := nI_clamp (by omega)
    refine z_iload_n C d_Mdl_act_19 rfl 2 rfl ?_
    refine z_iconst C (v := 0) d_Mdl_act_20 (by decide) ?_
    refine z_iconst C (v := 5) d_Mdl_act_21 (by decide) ?_
    refine zf_Si C d_Mdl_act_22 (c_Mdl_in l D ca b τ0 y 0 5) tw_888 tw_889 tw_10 tw_890 pd_Mdl_in ⟨⟨by decide, by decide⟩, rfl, rfl, by decide, by decide⟩ (Nat.le_of_ble_eq_true rfl) rfl ?_
    refine z_ri (x' := bel y 6) (wit0_bel y 5 (by decide)) ?_
    refine z_if_eq C 39 d_Mdl_act_25 (by decide) (fun h25 => ?_) (fun h25 => ?_)
    · refine z_aload_n C d_Mdl_act_39 rfl 0 rfl ?_
      refine z_iconst C (v := 2) d_Mdl_act_40 (by decide) ?_
      refine zf_Vi C d_Mdl_act_41 (c_Mdl_raise l D ca b τ0 2) tw_891 tw_893 tp_Mdl_raise tw_10 tw_894 pd_Mdl_raise ⟨⟨by decide, by decide⟩, rfl, rfl, by decide, by decide⟩ (by omega) rfl (eB_Mdl ) rfl (Nat.le_of_ble_eq_true rfl) rfl ?_
      exact hret _ _ _ _ d_Mdl_act_44 (Pm_err xIAE (by simp [actF, *]) (by decide +kernel) (Rl_e h0))
    · obtain ⟨t, ht, rfl⟩ := bel_nat (n := 6) (by decide) h25
      have hct : (nI t).toNatClampNeg = t := nI_clamp (by omega)
      refine z_iload_n C d_Mdl_act_28 rfl 3 rfl ?_
      refine z_iload C d_Mdl_act_29 4 rfl ?_
      refine z_iload C d_Mdl_act_31 5 rfl ?_
      refine zf_Si C d_Mdl_act_33 (c_Mdl_actionFits l D ca b τ0 k a c) tw_935 tw_936 tw_10 tw_937 pd_Mdl_actionFits ⟨⟨by decide, by decide⟩, rfl, rfl, by decide, by decide⟩ (Nat.le_of_ble_eq_true rfl) rfl ?_
      refine z_ri (isAm_ac k a c) ?_
      refine z_if_ne C 45 d_Mdl_act_36 (by decide) (fun h36 => ?_) (fun h36 => ?_)
      · refine z_bipush C (v := 6) d_Mdl_act_45 (by decide) ?_
        refine z_iload_n C d_Mdl_act_47 rfl 1 rfl ?_
        refine z_imul C d_Mdl_act_48 ?_
        refine z_iload_n C d_Mdl_act_49 rfl 2 rfl ?_
        refine z_iadd C d_Mdl_act_50 ?_
        refine z_ri (x' := nI ((6 * j) + t)) (nadd (nmul (rfl : (6 : Int32) = nI 6) rfl) rfl) ?_
        refine z_istore C d_Mdl_act_51 (by decide) [(6, .int (nI ((6 * j) + t))), (0, .ref (b + 0)), (1, .int (nI j)), (2, .int (nI t)), (3, .int k), (4, .int a), (5, .int c)] rfl ?_
        refine z_aload_n C d_Mdl_act_53 rfl 1 rfl ?_
        refine gB_Mdl_aKind C d_Mdl_act_54 tw_749  ?_
        refine z_iload C d_Mdl_act_57 0 rfl ?_
        refine lB_m_aKind C (q := ((6 * j) + t)) d_Mdl_act_59  rfl (by omega) ?_
        refine z_istore C d_Mdl_act_60 (by decide) [(7, .int (τ0.1 110 0 0 ((6 * j) + t))), (6, .int (nI ((6 * j) + t))), (0, .ref (b + 0)), (1, .int (nI j)), (2, .int (nI t)), (3, .int k), (4, .int a), (5, .int c)] rfl ?_
        refine z_aload_n C d_Mdl_act_62 rfl 2 rfl ?_
        refine gB_Mdl_aKind C d_Mdl_act_63 tw_749  ?_
        refine z_iload C d_Mdl_act_66 1 rfl ?_
        refine z_iload_n C d_Mdl_act_68 rfl 5 rfl ?_
        refine stB_m_aKind C (q := ((6 * j) + t)) d_Mdl_act_69  rfl (by omega) ?_
        refine z_aload_n C d_Mdl_act_70 rfl 2 rfl ?_
        refine gB_Mdl_aA C d_Mdl_act_71 tw_750  ?_
        refine z_iload C d_Mdl_act_74 1 rfl ?_
        refine z_iload C d_Mdl_act_76 6 rfl ?_
        refine stB_m_aA C (q := ((6 * j) + t)) d_Mdl_act_78  rfl (by omega) ?_
        refine z_aload_n C d_Mdl_act_79 rfl 2 rfl ?_
        refine gB_Mdl_aB C d_Mdl_act_80 tw_751  ?_
        refine z_iload C d_Mdl_act_83 1 rfl ?_
        refine z_iload C d_Mdl_act_85 7 rfl ?_
        refine stB_m_aB C (q := ((6 * j) + t)) d_Mdl_act_87  rfl (by omega) ?_
        refine z_iload C d_Mdl_act_88 0 rfl ?_
        refine z_if_ge C 97 d_Mdl_act_90 (by decide) (fun h90 => ?_) (fun h90 => ?_)
        · have hA := h0.2.2.2.2.2.2.1 j hj t ht
          have hm : ¬ σ.1 36 j t 0 = -1 := fun z => absurd (hA.1.trans z ▸ h90) (by decide)
          refine z_iconst C (v := 0) d_Mdl_act_97 (by decide) ?_
          exact hret _ _ _ _ d_Mdl_act_98 (Pm_ok (us (us (us σ 36 j t k) 37 j t a) 38 j t c) (by simp [actF, *]) (by rw [us_f (by decide), us_f (by decide), us_f (by decide), us_f (by decide), us_f (by decide), us_f (by decide)]; exact Rl_act hj ht h0 h36 (by repeat (first | exact Off.rf | assumption | refine Off.us ?_ (by decide) | refine Off.uA ?_ (by decide) | refine Off.uL ?_ (by decide) | refine Off.uE ?_ (by decide))) (by simp [us, upA]) (by simp [us, upA]) (by simp [us, upA])))
        · have hA := h0.2.2.2.2.2.2.1 j hj t ht
          have hm : σ.1 36 j t 0 = -1 := by
            rcases hA.2.1 with z | z | z | z | z | z
            · exact z
            all_goals exact absurd (by rw [hA.1, z]; decide) h90
          refine z_iconst C (v := 1) d_Mdl_act_93 (by decide) ?_
          refine z_goto C 98 d_Mdl_act_94 (by decide) ?_
          exact hret _ _ _ _ d_Mdl_act_98 (Pm_ok (us (us (us σ 36 j t k) 37 j t a) 38 j t c) (by simp [actF, *]) (by rw [us_f (by decide), us_f (by decide), us_f (by decide), us_f (by decide), us_f (by decide), us_f (by decide)]; exact Rl_act hj ht h0 h36 (by repeat (first | exact Off.rf | assumption | refine Off.us ?_ (by decide) | refine Off.uA ?_ (by decide) | refine Off.uL ?_ (by decide) | refine Off.uE ?_ (by decide))) (by simp [us, upA]) (by simp [us, upA]) (by simp [us, upA])))
      · refine z_aload_n C d_Mdl_act_39 rfl 0 rfl ?_
        refine z_iconst C (v := 2) d_Mdl_act_40 (by decide) ?_
        refine zf_Vi C d_Mdl_act_41 (c_Mdl_raise l D ca b τ0 2) tw_891 tw_893 tp_Mdl_raise tw_10 tw_894 pd_Mdl_raise ⟨⟨by decide, by decide⟩, rfl, rfl, by decide, by decide⟩ (by omega) rfl (eB_Mdl ) rfl (Nat.le_of_ble_eq_true rfl) rfl ?_
        exact hret _ _ _ _ d_Mdl_act_44 (Pm_err xIAE (by simp [actF, *]) (by decide +kernel) (Rl_e h0))
  · have hth : isTh σ x = 0 := Decidable.byContradiction (fun z => h10 ((isNo_th h0 _).mpr z))
    refine z_aload_n C d_Mdl_act_13 rfl 0 rfl ?_
    refine z_iconst C (v := 1) d_Mdl_act_14 (by decide) ?_
    refine zf_Vi C d_Mdl_act_15 (c_Mdl_raise l D ca b τ0 1) tw_891 tw_893 tp_Mdl_raise tw_10 tw_894 pd_Mdl_raise ⟨⟨by decide, by decide⟩, rfl, rfl, by decide, by decide⟩ (by omega) rfl (eB_Mdl ) rfl (Nat.le_of_ble_eq_true rfl) rfl ?_
    exact hret _ _ _ _ d_Mdl_act_18 (Pm_err xNSE (by simp [actF, *]) (by decide +kernel) (Rl_e h0))
set_option maxRecDepth 100000 in
set_option maxHeartbeats 4000000 in
/-- offerF of the model -/
theorem c_Mdl_offer (l : Launch) (D : va_G) (ca : Nat → ClassId) (b : Nat) (τ : Sg) {σ : Sg} (e : Int32) (x y k c d : Int32) (h : Rl e (σ.1 3 0 0 0) (σ.1 4 0 0 0) σ τ) : CtI l D ca SM b 31 y_Mdl_offer w_Mdl_offer (rmN 2 45) τ [.ref (b + 0), .int x, .int y, .int k, .int c, .int d] (fun r τ' => Pm [xNSE, xIAE] (offerF σ x y k c d) r τ') := by
  refine ct_i "RobotBusModel" [(0, .ref (b + 0)), (1, .int x), (2, .int y), (3, .int k), (4, .int c), (5, .int d)] (by decide) rfl (Nat.le_of_ble_eq_true rfl) rfl (fun X C hret => ?_)
  refine z_aload_n C d_Mdl_offer_0 rfl 0 rfl ?_
  refine z_iconst C (v := 0) d_Mdl_offer_1 (by decide) ?_
  refine pB_Mdl_thrown C d_Mdl_offer_2 tw_739  ?_
  have h0 := Rl_e (e' := 0) h
  generalize us τ 100 0 0 0 = τ0 at h0 ⊢
  refine z_aload_n C d_Mdl_offer_5 rfl 0 rfl ?_
  refine z_iload_n C d_Mdl_offer_6 rfl 1 rfl ?_
  refine zf_Vi C d_Mdl_offer_7 (c_Mdl_noNode l D ca b τ0 x) tw_899 tw_901 tp_Mdl_noNode tw_10 tw_902 pd_Mdl_noNode ⟨⟨by decide, by decide⟩, rfl, rfl, by decide, by decide⟩ (by omega) rfl (eB_Mdl ) rfl (Nat.le_of_ble_eq_true rfl) rfl ?_
  refine z_if_eq C 19 d_Mdl_offer_10 (by decide) (fun h10 => ?_) (fun h10 => ?_)
  · have hth := (isNo_th h0 _).mp h10
    obtain ⟨j, hj, rfl, hpj⟩ := isTh_nat hth
    have hcj : (nI j).toNatClampNeg = j := nI_clamp (by omega)
    refine z_iload_n C d_Mdl_offer_19 rfl 2 rfl ?_
    refine z_iload_n C d_Mdl_offer_20 rfl 3 rfl ?_
    refine z_iload C d_Mdl_offer_21 4 rfl ?_
    refine z_iload C d_Mdl_offer_23 5 rfl ?_
    refine zf_Si C d_Mdl_offer_25 (c_Mdl_serviceFits l D ca b τ0 y k c d) tw_942 tw_943 tw_10 tw_944 pd_Mdl_serviceFits ⟨⟨by decide, by decide⟩, rfl, rfl, by decide, by decide⟩ (Nat.le_of_ble_eq_true rfl) rfl ?_
    refine z_if_ne C 37 d_Mdl_offer_28 (by decide) (fun h28 => ?_) (fun h28 => ?_)
    · have hb : ¬ bel y 4 = 0 := fun z => h28 (isSm_no z)
      have hsv : ¬ isSv y k c d = 0 := fun z => h28 ((isSm_sv hb).mpr z)
      obtain ⟨s, hs, rfl⟩ := bel_nat (n := 4) (by decide) hb
      have hcs : (nI s).toNatClampNeg = s := nI_clamp (by omega)
      have hS := h0.2.2.2.2.2.2.2.2.1 s hs
      refine z_aload_n C d_Mdl_offer_37 rfl 0 rfl ?_
      refine gB_Mdl_by C d_Mdl_offer_38 tw_758  ?_
      refine z_iload_n C d_Mdl_offer_41 rfl 2 rfl ?_
      refine lB_m_by C (q := s) d_Mdl_offer_42  rfl (by omega) ?_
      refine z_if_ge C 50 d_Mdl_offer_43 (by decide) (fun h43 => ?_) (fun h43 => ?_)
      · have hm : ¬ σ.1 50 s 0 0 = -1 := fun z => absurd (hS.1.trans z ▸ h43) (by decide)
        refine z_iconst C (v := 0) d_Mdl_offer_50 (by decide) ?_
        refine z_istore C d_Mdl_offer_51 (by decide) [(6, .int 0), (0, .ref (b + 0)), (1, .int (nI j)), (2, .int (nI s)), (3, .int k), (4, .int c), (5, .int d)] rfl ?_
        refine z_aload_n C d_Mdl_offer_53 rfl 1 rfl ?_
        refine gB_Mdl_by C d_Mdl_offer_54 tw_758  ?_
        refine z_iload_n C d_Mdl_offer_57 rfl 3 rfl ?_
        refine z_iload_n C d_Mdl_offer_58 rfl 2 rfl ?_
        refine stB_m_by C (q := s) d_Mdl_offer_59  rfl (by omega) ?_
        refine z_aload_n C d_Mdl_offer_60 rfl 1 rfl ?_
        refine gB_Mdl_sKind C d_Mdl_offer_61 tw_759  ?_
        refine z_iload_n C d_Mdl_offer_64 rfl 3 rfl ?_
        refine z_iload_n C d_Mdl_offer_65 rfl 4 rfl ?_
        refine stB_m_sKind C (q := s) d_Mdl_offer_66  rfl (by omega) ?_
        refine z_aload_n C d_Mdl_offer_67 rfl 1 rfl ?_
        refine gB_Mdl_sC C d_Mdl_offer_68 tw_760  ?_
        refine z_iload_n C d_Mdl_offer_71 rfl 3 rfl ?_
        refine z_iload C d_Mdl_offer_72 5 rfl ?_
        refine stB_m_sC C (q := s) d_Mdl_offer_74  rfl (by omega) ?_
        refine z_aload_n C d_Mdl_offer_75 rfl 1 rfl ?_
        refine gB_Mdl_sD C d_Mdl_offer_76 tw_761  ?_
        refine z_iload_n C d_Mdl_offer_79 rfl 3 rfl ?_
        refine z_iload C d_Mdl_offer_80 6 rfl ?_
        refine stB_m_sD C (q := s) d_Mdl_offer_82  rfl (by omega) ?_
        refine z_iload C d_Mdl_offer_83 0 rfl ?_
        refine z_if_eq C 92 d_Mdl_offer_85 (by decide) (fun h85 => ?_) (fun h85 => False.elim (absurd (by decide) h85))
        refine z_iconst C (v := 0) d_Mdl_offer_92 (by decide) ?_
        exact hret _ _ _ _ d_Mdl_offer_93 (Pm_ok (us (us (us (us σ 50 s 0 (nI j)) 51 s 0 k) 52 s 0 c) 53 s 0 d) (by simp [offerF, *]) (by rw [us_f (by decide), us_f (by decide), us_f (by decide), us_f (by decide), us_f (by decide), us_f (by decide), us_f (by decide), us_f (by decide)]; exact Rl_offer hj hpj hs h0 hsv (by repeat (first | exact Off.rf | assumption | refine Off.us ?_ (by decide) | refine Off.uA ?_ (by decide) | refine Off.uL ?_ (by decide) | refine Off.uE ?_ (by decide))) (by simp [us, upA]) (by simp [us, upA]) (by simp [us, upA]) (by simp [us, upA])))
      · have hm : σ.1 50 s 0 0 = -1 := Decidable.byContradiction (fun z => h43 (by rw [hS.1, (h0.2.2.2.2.2.2.2.2.2.2.2.2.2.2.2.2.1 s hs z).1.1]; exact nI_pos' (by have := (h0.2.2.2.2.2.2.2.2.2.2.2.2.2.2.2.2.1 s hs z).1.2; omega)))
        refine z_iconst C (v := 1) d_Mdl_offer_46 (by decide) ?_
        refine z_goto C 51 d_Mdl_offer_47 (by decide) ?_
        refine z_istore C d_Mdl_offer_51 (by decide) [(6, .int 1), (0, .ref (b + 0)), (1, .int (nI j)), (2, .int (nI s)), (3, .int k), (4, .int c), (5, .int d)] rfl ?_
        refine z_aload_n C d_Mdl_offer_53 rfl 1 rfl ?_
        refine gB_Mdl_by C d_Mdl_offer_54 tw_758  ?_
        refine z_iload_n C d_Mdl_offer_57 rfl 3 rfl ?_
        refine z_iload_n C d_Mdl_offer_58 rfl 2 rfl ?_
        refine stB_m_by C (q := s) d_Mdl_offer_59  rfl (by omega) ?_
        refine z_aload_n C d_Mdl_offer_60 rfl 1 rfl ?_
        refine gB_Mdl_sKind C d_Mdl_offer_61 tw_759  ?_
        refine z_iload_n C d_Mdl_offer_64 rfl 3 rfl ?_
        refine z_iload_n C d_Mdl_offer_65 rfl 4 rfl ?_
        refine stB_m_sKind C (q := s) d_Mdl_offer_66  rfl (by omega) ?_
        refine z_aload_n C d_Mdl_offer_67 rfl 1 rfl ?_
        refine gB_Mdl_sC C d_Mdl_offer_68 tw_760  ?_
        refine z_iload_n C d_Mdl_offer_71 rfl 3 rfl ?_
        refine z_iload C d_Mdl_offer_72 5 rfl ?_
        refine stB_m_sC C (q := s) d_Mdl_offer_74  rfl (by omega) ?_
        refine z_aload_n C d_Mdl_offer_75 rfl 1 rfl ?_
        refine gB_Mdl_sD C d_Mdl_offer_76 tw_761  ?_
        refine z_iload_n C d_Mdl_offer_79 rfl 3 rfl ?_
        refine z_iload C d_Mdl_offer_80 6 rfl ?_
        refine stB_m_sD C (q := s) d_Mdl_offer_82  rfl (by omega) ?_
        refine z_iload C d_Mdl_offer_83 0 rfl ?_
        refine z_if_eq C 92 d_Mdl_offer_85 (by decide) (fun h85 => False.elim (absurd h85 (by decide))) (fun h85 => ?_)
        refine z_iconst C (v := 1) d_Mdl_offer_88 (by decide) ?_
        refine z_goto C 93 d_Mdl_offer_89 (by decide) ?_
        exact hret _ _ _ _ d_Mdl_offer_93 (Pm_ok (us (us (us (us σ 50 s 0 (nI j)) 51 s 0 k) 52 s 0 c) 53 s 0 d) (by simp [offerF, *]) (by rw [us_f (by decide), us_f (by decide), us_f (by decide), us_f (by decide), us_f (by decide), us_f (by decide), us_f (by decide), us_f (by decide)]; exact Rl_offer hj hpj hs h0 hsv (by repeat (first | exact Off.rf | assumption | refine Off.us ?_ (by decide) | refine Off.uA ?_ (by decide) | refine Off.uL ?_ (by decide) | refine Off.uE ?_ (by decide))) (by simp [us, upA]) (by simp [us, upA]) (by simp [us, upA]) (by simp [us, upA])))
    · have herr : offerF σ (nI j) y k c d = (.inr xIAE, σ) := by
        unfold offerF
        rw [if_neg hth]
        by_cases hb : bel y 4 = 0
        · rw [if_pos hb]
        · rw [if_neg hb, if_pos ((isSm_sv hb).mp h28)]
      refine z_aload_n C d_Mdl_offer_31 rfl 0 rfl ?_
      refine z_iconst C (v := 2) d_Mdl_offer_32 (by decide) ?_
      refine zf_Vi C d_Mdl_offer_33 (c_Mdl_raise l D ca b τ0 2) tw_891 tw_893 tp_Mdl_raise tw_10 tw_894 pd_Mdl_raise ⟨⟨by decide, by decide⟩, rfl, rfl, by decide, by decide⟩ (by omega) rfl (eB_Mdl ) rfl (Nat.le_of_ble_eq_true rfl) rfl ?_
      exact hret _ _ _ _ d_Mdl_offer_36 (Pm_err xIAE herr (by decide +kernel) (Rl_e h0))
  · have hth : isTh σ x = 0 := Decidable.byContradiction (fun z => h10 ((isNo_th h0 _).mpr z))
    refine z_aload_n C d_Mdl_offer_13 rfl 0 rfl ?_
    refine z_iconst C (v := 1) d_Mdl_offer_14 (by decide) ?_
    refine zf_Vi C d_Mdl_offer_15 (c_Mdl_raise l D ca b τ0 1) tw_891 tw_893 tp_Mdl_raise tw_10 tw_894 pd_Mdl_raise ⟨⟨by decide, by decide⟩, rfl, rfl, by decide, by decide⟩ (by omega) rfl (eB_Mdl ) rfl (Nat.le_of_ble_eq_true rfl) rfl ?_
    exact hret _ _ _ _ d_Mdl_offer_18 (Pm_err xNSE (by simp [offerF, *]) (by decide +kernel) (Rl_e h0))
set_option maxRecDepth 100000 in
set_option maxHeartbeats 4000000 in
/-- publF of the model -/
theorem c_Mdl_publish (l : Launch) (D : va_G) (ca : Nat → ClassId) (b : Nat) (τ : Sg) {σ : Sg} (e : Int32) (x y v : Int32) (h : Rl e (σ.1 3 0 0 0) (σ.1 4 0 0 0) σ τ) : CtI l D ca SM b 31 y_Mdl_publish w_Mdl_publish (rmN 4 86) τ [.ref (b + 0), .int x, .int y, .int v] (fun r τ' => Pm [xNSE, xIAE] (publF σ x y v) r τ') := by
  refine ct_i "RobotBusModel" [(0, .ref (b + 0)), (1, .int x), (2, .int y), (3, .int v)] (by decide) rfl (Nat.le_of_ble_eq_true rfl) rfl (fun X C hret => ?_)
  refine z_aload_n C d_Mdl_publish_0 rfl 0 rfl ?_
  refine z_iconst C (v := 0) d_Mdl_publish_1 (by decide) ?_
  refine pB_Mdl_thrown C d_Mdl_publish_2 tw_739  ?_
  have h0 := Rl_e (e' := 0) h
  generalize us τ 100 0 0 0 = τ0 at h0 ⊢
  refine z_aload_n C d_Mdl_publish_5 rfl 0 rfl ?_
  refine z_iload_n C d_Mdl_publish_6 rfl 1 rfl ?_
  refine zf_Vi C d_Mdl_publish_7 (c_Mdl_noNode l D ca b τ0 x) tw_899 tw_901 tp_Mdl_noNode tw_10 tw_902 pd_Mdl_noNode ⟨⟨by decide, by decide⟩, rfl, rfl, by decide, by decide⟩ (by omega) rfl (eB_Mdl ) rfl (Nat.le_of_ble_eq_true rfl) rfl ?_
  refine z_if_eq C 19 d_Mdl_publish_10 (by decide) (fun h10 => ?_) (fun h10 => ?_)
  · have hth := (isNo_th h0 _).mp h10
    obtain ⟨j, hj, rfl, hpj⟩ := isTh_nat hth
    have hcj : (nI j).toNatClampNeg = j := nI_clamp (by omega)
    refine z_iload_n C d_Mdl_publish_19 rfl 2 rfl ?_
    refine z_iconst C (v := 0) d_Mdl_publish_20 (by decide) ?_
    refine z_iconst C (v := 5) d_Mdl_publish_21 (by decide) ?_
    refine zf_Si C d_Mdl_publish_22 (c_Mdl_in l D ca b τ0 y 0 5) tw_888 tw_889 tw_10 tw_890 pd_Mdl_in ⟨⟨by decide, by decide⟩, rfl, rfl, by decide, by decide⟩ (Nat.le_of_ble_eq_true rfl) rfl ?_
    refine z_ri (x' := bel y 6) (wit0_bel y 5 (by decide)) ?_
    refine z_if_eq C 38 d_Mdl_publish_25 (by decide) (fun h25 => ?_) (fun h25 => ?_)
    · refine z_aload_n C d_Mdl_publish_38 rfl 0 rfl ?_
      refine z_iconst C (v := 2) d_Mdl_publish_39 (by decide) ?_
      refine zf_Vi C d_Mdl_publish_40 (c_Mdl_raise l D ca b τ0 2) tw_891 tw_893 tp_Mdl_raise tw_10 tw_894 pd_Mdl_raise ⟨⟨by decide, by decide⟩, rfl, rfl, by decide, by decide⟩ (by omega) rfl (eB_Mdl ) rfl (Nat.le_of_ble_eq_true rfl) rfl ?_
      exact hret _ _ _ _ d_Mdl_publish_43 (Pm_err xIAE (by simp [publF, *]) (by decide +kernel) (Rl_e h0))
    · obtain ⟨t, ht, rfl⟩ := bel_nat (n := 6) (by decide) h25
      have hct : (nI t).toNatClampNeg = t := nI_clamp (by omega)
      refine z_aload_n C d_Mdl_publish_28 rfl 0 rfl ?_
      refine z_iload_n C d_Mdl_publish_29 rfl 2 rfl ?_
      refine z_iload_n C d_Mdl_publish_30 rfl 3 rfl ?_
      refine z_iload_n C d_Mdl_publish_31 rfl 1 rfl ?_
      refine zc_Vi C d_Mdl_publish_32 (c_Mdl_send l D ca b τ0 ht v (nI j) 0 _ _ (Or.inr (nI_pos (by omega))) h0) tw_927 tw_929 tp_Mdl_send tw_10 tw_930 pd_Mdl_send ⟨⟨by decide, by decide⟩, rfl, rfl, by decide, by decide⟩ (by omega) rfl (eB_Mdl ) rfl (Nat.le_of_ble_eq_true rfl) rfl (fun r τ1 hp => ?_)
      refine z_goto C 43 d_Mdl_publish_35 (by decide) ?_
      exact hret _ _ _ _ d_Mdl_publish_43 (Pm_ok (sSend σ t v (nI j)) (by simp [publF, *, hp.1]) (by rw [sSend_3, show (sSend σ t v (nI j)).1 4 0 0 0 = σ.1 4 0 0 0 by rw [sSend_ne (by decide)]]; exact hp.2))
  · have hth : isTh σ x = 0 := Decidable.byContradiction (fun z => h10 ((isNo_th h0 _).mpr z))
    refine z_aload_n C d_Mdl_publish_13 rfl 0 rfl ?_
    refine z_iconst C (v := 1) d_Mdl_publish_14 (by decide) ?_
    refine zf_Vi C d_Mdl_publish_15 (c_Mdl_raise l D ca b τ0 1) tw_891 tw_893 tp_Mdl_raise tw_10 tw_894 pd_Mdl_raise ⟨⟨by decide, by decide⟩, rfl, rfl, by decide, by decide⟩ (by omega) rfl (eB_Mdl ) rfl (Nat.le_of_ble_eq_true rfl) rfl ?_
    exact hret _ _ _ _ d_Mdl_publish_18 (Pm_err xNSE (by simp [publF, *]) (by decide +kernel) (Rl_e h0))
theorem Rl_join {e p a : Int32} {σ τ ρ : Sg} {i : Nat} (hi : i < 6) (h0 : Rl e p a σ τ) (hz : σ.1 30 i 0 0 = 0) (ho : Off [102, 103, 104] τ ρ) (r1 : ρ.1 102 0 0 = upd (τ.1 102 0 0) i 1) (r2 : ρ.1 103 0 0 = zr (τ.1 103 0 0) (4 * i) (4 * i + 4) 0) (r3 : ρ.1 104 0 0 = upd (τ.1 104 0 0) i 5) : Rl e p a (us σ 30 i 0 1) ρ := by
  have hσ : Off [30] σ (us σ 30 i 0 1) := Off.rf.us (by decide)
  have e0 : (us σ 30 i 0 1).1 30 i 0 0 = 1 := us_self
  have en : ∀ i', ¬ i' = i → (us σ 30 i 0 1).1 30 i' 0 0 = σ.1 30 i' 0 0 := fun i' h => by rw [us_ne (by simp; omega)]
  refine h0.upd [30] [102, 103, 104] hσ ho (by rw [ho.at (by decide)]; exact h0.1) (Or.inl ⟨rfl, rfl, rfl⟩) (Or.inr ?_) (Or.inr ?_) (Or.inr ?_) (Or.inl rfl) (Or.inl rfl) (Or.inl rfl) (Or.inl rfl) (Or.inr ?_) (Or.inl rfl) (Or.inl rfl) (Or.inl rfl) (Or.inl rfl) (Or.inl rfl)
  · intro i' hi'
    rw [r1, hσ.at (f := 33) (by decide)]
    by_cases he : i' = i
    · subst he
      rw [pk_us, e0]
      exact ⟨rfl, fun z => absurd z (by decide)⟩
    · rw [pk_un he, en i' he]
      exact h0.2.2.1 i' hi'
  · intro i' hi' j hj
    rw [r2, hσ.at (f := 32) (by decide)]
    by_cases he : i' = i
    · subst he
      rw [e0]
      refine ⟨fun _ => ?_, fun z => absurd z (by decide)⟩
      rw [(h0.2.2.2.1 i' hi' j hj).2 hz]
      unfold zr
      rw [if_pos (by omega)]
    · rw [en i' he]
      have : zr (τ.1 103 0 0) (4 * i) (4 * i + 4) 0 (4 * i' + j) = τ.1 103 0 0 (4 * i' + j) := by
        unfold zr
        rw [if_neg (by omega)]
      rw [this]
      exact h0.2.2.2.1 i' hi' j hj
  · intro i' hi'
    rw [r3, hσ.at (f := 31) (by decide)]
    by_cases he : i' = i
    · subst he
      rw [e0, pk_us]
      refine ⟨fun _ => ⟨5, by decide, rfl, ?_⟩, fun z => absurd z (by decide)⟩
      rw [(h0.2.2.2.2.1 i' hi').2 hz]
      rfl
    · rw [en i' he, pk_un he]
      exact h0.2.2.2.2.1 i' hi'
  · intro s hs hn
    rw [hσ.at (f := 50) (by decide)] at hn ⊢
    have h9 := h0.2.2.2.2.2.2.2.2.2.1 s hs hn
    by_cases he : (σ.1 50 s 0 0).toNatClampNeg = i
    · rw [he, e0]
      decide
    · rw [en _ he]
      exact h9
set_option maxRecDepth 100000 in
set_option maxHeartbeats 4000000 in
theorem lp_Mdl_join (l : Launch) (D : va_G) (ca : Nat → ClassId) (b : Nat) {R : Room} {X : Zx} {y0 : MethodName} {c0 : ByteArray} {n0 : Nat} {r0 : Option FieldType} (C : Cs D ca b_Mdl_join 3 "RobotBusModel" (Cond.code y0 c0 n0 r0) X) (τ : Sg) {j : Nat} (hj : j < 6) : ∀ m k, k + m = 4 → ∀ ρ : Sg, Off [103] τ ρ ∧ ρ.1 103 0 0 = zr (τ.1 103 0 0) (4 * j) (4 * j + k) 0 → (∀ ρ', Off [103] τ ρ' ∧ ρ'.1 103 0 0 = zr (τ.1 103 0 0) (4 * j) (4 * j + 4) 0 → Zs l D ca SM b 31 R 3 X ρ' 73 [(2, .int (nI 4)), (0, .ref (b + 0)), (1, .int (nI j))] []) → Zs l D ca SM b 31 R 3 X ρ 51 [(2, .int (nI k)), (0, .ref (b + 0)), (1, .int (nI j))] [] := by
  intro m
  induction m with
  | zero =>
    intro k hk ρ hp kk
    have hk6 : k = 4 := by omega
    subst hk6
    refine z_iload_n C d_Mdl_join_51 rfl 0 rfl ?_
    refine z_iconst C (v := 4) d_Mdl_join_52 (by decide) ?_
    refine z_icmp_ge C 73 d_Mdl_join_53 (by decide) (fun h53 => ?_) (fun h53 => False.elim (h53 (ge_T (a := 4) (b := 4) rfl (rfl : (4 : Int32) = nI 4) (by omega) (by omega))))
    exact kk _ hp
  | succ m ih =>
    intro k hk ρ hp kk
    refine z_iload_n C d_Mdl_join_51 rfl 0 rfl ?_
    refine z_iconst C (v := 4) d_Mdl_join_52 (by decide) ?_
    refine z_icmp_ge C 73 d_Mdl_join_53 (by decide) (fun h53 => False.elim (ge_F (a := k) (b := 4) rfl (rfl : (4 : Int32) = nI 4) (by omega) (by omega) h53)) (fun h53 => ?_)
    refine z_aload_n C d_Mdl_join_56 rfl 1 rfl ?_
    refine gB_Mdl_vars C d_Mdl_join_57 tw_742  ?_
    refine z_iconst C (v := 4) d_Mdl_join_60 (by decide) ?_
    refine z_iload_n C d_Mdl_join_61 rfl 2 rfl ?_
    refine z_imul C d_Mdl_join_62 ?_
    refine z_iload_n C d_Mdl_join_63 rfl 0 rfl ?_
    refine z_iadd C d_Mdl_join_64 ?_
    refine z_iconst C (v := 0) d_Mdl_join_65 (by decide) ?_
    refine stB_m_vars C (q := ((4 * j) + k)) d_Mdl_join_66  (nadd (nmul (rfl : (4 : Int32) = nI 4) rfl) rfl) (by omega) ?_
    refine z_iinc C d_Mdl_join_67 0 rfl (v := (nI (k + 1))) (by rw [← nI_1]; rfl) (by decide) [(2, .int (nI (k + 1))), (0, .ref (b + 0)), (1, .int (nI j))] rfl ?_
    refine z_goto C 51 d_Mdl_join_70 (by decide) ?_
    refine ih (k + 1) (by omega) _ ⟨hp.1.uA (by decide), ?_⟩ kk
    rw [upA_self, hp.2]
    exact zr_step (by omega)
set_option maxRecDepth 100000 in
set_option maxHeartbeats 4000000 in
/-- joinF of the model -/
theorem c_Mdl_join (l : Launch) (D : va_G) (ca : Nat → ClassId) (b : Nat) (τ : Sg) {σ : Sg} (e : Int32) (x : Int32) (h : Rl e (σ.1 3 0 0 0) (σ.1 4 0 0 0) σ τ) : CtI l D ca SM b 31 y_Mdl_join w_Mdl_join (rmN 1 22) τ [.ref (b + 0), .int x] (fun r τ' => Pm [xIAE, xISE] (joinF σ x) r τ') := by
  refine ct_i "RobotBusModel" [(0, .ref (b + 0)), (1, .int x)] (by decide) rfl (Nat.le_of_ble_eq_true rfl) rfl (fun X C hret => ?_)
  refine z_aload_n C d_Mdl_join_0 rfl 0 rfl ?_
  refine z_iconst C (v := 0) d_Mdl_join_1 (by decide) ?_
  refine pB_Mdl_thrown C d_Mdl_join_2 tw_739  ?_
  have h0 := Rl_e (e' := 0) h
  generalize us τ 100 0 0 0 = τ0 at h0 ⊢
  refine z_iload_n C d_Mdl_join_5 rfl 1 rfl ?_
  refine z_iconst C (v := 0) d_Mdl_join_6 (by decide) ?_
  refine z_iconst C (v := 5) d_Mdl_join_7 (by decide) ?_
  refine zf_Si C d_Mdl_join_8 (c_Mdl_in l D ca b τ0 x 0 5) tw_888 tw_889 tw_10 tw_890 pd_Mdl_in ⟨⟨by decide, by decide⟩, rfl, rfl, by decide, by decide⟩ (Nat.le_of_ble_eq_true rfl) rfl ?_
  refine z_ri (x' := bel x 6) (wit0_bel x 5 (by decide)) ?_
  refine z_if_ne C 20 d_Mdl_join_11 (by decide) (fun h11 => ?_) (fun h11 => ?_)
  · obtain ⟨j, hj, rfl⟩ := bel_nat (n := 6) (by decide) h11
    have hcj : (nI j).toNatClampNeg = j := nI_clamp (by omega)
    refine z_aload_n C d_Mdl_join_20 rfl 0 rfl ?_
    refine gB_Mdl_there C d_Mdl_join_21 tw_741  ?_
    refine z_iload_n C d_Mdl_join_24 rfl 1 rfl ?_
    refine lB_m_there C (q := j) d_Mdl_join_25 rfl hj ?_
    refine z_if_eq C 35 d_Mdl_join_26 (by decide) (fun h26 => ?_) (fun h26 => ?_)
    · have hz : σ.1 30 j 0 0 = 0 := (h0.2.2.1 j hj).1.symm.trans h26
      refine z_aload_n C d_Mdl_join_35 rfl 0 rfl ?_
      refine gB_Mdl_there C d_Mdl_join_36 tw_741  ?_
      refine z_iload_n C d_Mdl_join_39 rfl 1 rfl ?_
      refine z_iconst C (v := 1) d_Mdl_join_40 (by decide) ?_
      refine stB_m_there C (q := j) d_Mdl_join_41 rfl hj (by decide) ?_
      refine z_aload_n C d_Mdl_join_42 rfl 0 rfl ?_
      refine gB_Mdl_took C d_Mdl_join_43 tw_743  ?_
      refine z_iload_n C d_Mdl_join_46 rfl 1 rfl ?_
      refine z_iconst C (v := 5) d_Mdl_join_47 (by decide) ?_
      refine stB_m_took C (q := j) d_Mdl_join_48  rfl hj ?_
      refine z_iconst C (v := 0) d_Mdl_join_49 (by decide) ?_
      refine z_istore_n C d_Mdl_join_50 rfl (by decide) [(2, .int 0), (0, .ref (b + 0)), (1, .int (nI j))] rfl ?_
      refine lp_Mdl_join l D ca b C _ hj 4 0 rfl _ ⟨Off.rf, (zr_0 _ _ _).symm⟩ (fun ρ hp => ?_)
      refine z_iconst C (v := 1) d_Mdl_join_73 (by decide) ?_
      exact hret _ _ _ _ d_Mdl_join_74 (Pm_ok (us σ 30 j 0 1) (by simp [joinF, *]) (by rw [us_f (by decide), us_f (by decide)]; exact Rl_join hj h0 hz (((Off.rf.uA (by decide)).uA (by decide)).tr (hp.1.mono (by decide))) (by rw [hp.1.at (by decide)]; simp [upA]) (by rw [hp.2]; simp [upA]) (by rw [hp.1.at (by decide)]; simp [upA])))
    · have hz : ¬ σ.1 30 j 0 0 = 0 := fun z => h26 ((h0.2.2.1 j hj).1.trans z)
      refine z_aload_n C d_Mdl_join_29 rfl 0 rfl ?_
      refine z_iconst C (v := 2) d_Mdl_join_30 (by decide) ?_
      refine zf_Vi C d_Mdl_join_31 (c_Mdl_raise l D ca b τ0 2) tw_891 tw_893 tp_Mdl_raise tw_10 tw_894 pd_Mdl_raise ⟨⟨by decide, by decide⟩, rfl, rfl, by decide, by decide⟩ (by omega) rfl (eB_Mdl ) rfl (Nat.le_of_ble_eq_true rfl) rfl ?_
      exact hret _ _ _ _ d_Mdl_join_34 (Pm_err xISE (by simp [joinF, *]) (by decide +kernel) (Rl_e h0))
  · refine z_aload_n C d_Mdl_join_14 rfl 0 rfl ?_
    refine z_iconst C (v := 1) d_Mdl_join_15 (by decide) ?_
    refine zf_Vi C d_Mdl_join_16 (c_Mdl_raise l D ca b τ0 1) tw_891 tw_893 tp_Mdl_raise tw_10 tw_894 pd_Mdl_raise ⟨⟨by decide, by decide⟩, rfl, rfl, by decide, by decide⟩ (by omega) rfl (eB_Mdl ) rfl (Nat.le_of_ble_eq_true rfl) rfl ?_
    exact hret _ _ _ _ d_Mdl_join_19 (Pm_err xIAE (by simp [joinF, *]) (by decide +kernel) (Rl_e h0))
set_option maxRecDepth 100000 in
set_option maxHeartbeats 4000000 in
theorem c_Mdl_lastY (l : Launch) (D : va_G) (ca : Nat → ClassId) (b : Nat) (τ : Sg) {σ : Sg} (e : Int32) (h : Rl e (σ.1 3 0 0 0) (σ.1 4 0 0 0) σ τ) : CtD l D ca SM b 31 y_Mdl_lastY w_Mdl_lastY (rmN 0 0) τ [.ref (b + 0)] (fun r τ' => r = σ.2.1 7 0 0 0 ∧ Rl 0 (σ.1 3 0 0 0) (σ.1 4 0 0 0) σ τ') := by
  refine ct_d "RobotBusModel" [(0, .ref (b + 0))] (by decide) rfl (Nat.le_of_ble_eq_true rfl) rfl (fun X C hret => ?_)
  refine z_aload_n C d_Mdl_lastY_0 rfl 0 rfl ?_
  refine z_iconst C (v := 0) d_Mdl_lastY_1 (by decide) ?_
  refine pB_Mdl_thrown C d_Mdl_lastY_2 tw_739  ?_
  have h0 := Rl_e (e' := 0) h
  generalize us τ 100 0 0 0 = τ0 at h0 ⊢
  refine z_aload_n C d_Mdl_lastY_5 rfl 0 rfl ?_
  refine gB_Mdl_lastY C d_Mdl_lastY_6 tw_779  ?_
  exact hret _ _ _ _ d_Mdl_lastY_9 ⟨h0.2.2.2.2.2.2.2.2.2.2.2.2.2.1, h0⟩
