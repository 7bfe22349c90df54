/-! send -/
set_option maxRecDepth 100000 in
set_option maxHeartbeats 4000000 in
theorem lp_Bus_send (l : Launch) (D : va_G) (ca : Nat → ClassId) (b : Nat) {R : Room} {X : Zx} {y0 : MethodName} {c0 : ByteArray} {n0 : Nat} {r0 : Option FieldType} (hR : 3 ≤ R.frames ∧ 64 ≤ R.locals) (C : Cs D ca b_Bus_send 7 "RobotBus" (Cond.code y0 c0 n0 r0) X) {t : Nat} (ht : t < 6) (v s : Int32) : ∀ m k, k + m = 6 → ∀ (σ : Sg) (n : Int32), QI σ → Zs l D ca SB b 182 R 7 X (sLp t v s m k σ n).1 64 [(5, .int (nI 6)), (4, .int (sLp t v s m k σ n).2), (0, .ref (b + 0)), (1, .int (nI t)), (2, .int v), (3, .int s)] [] → Zs l D ca SB b 182 R 7 X σ 6 [(5, .int (nI k)), (4, .int n), (0, .ref (b + 0)), (1, .int (nI t)), (2, .int v), (3, .int s)] [] := by
  intro m
  induction m with
  | zero =>
    intro k hk σ n hQ kk
    have hk6 : k = 6 := by omega
    subst hk6
    refine z_iload C d_Bus_send_6 0 rfl ?_
    refine z_bipush C (v := 6) d_Bus_send_8 (by decide) ?_
    refine z_icmp_ge C 64 d_Bus_send_10 (by decide) (fun h10 => ?_) (fun h10 => False.elim (h10 (by decide)))
    exact kk
  | succ m ih =>
    intro k hk σ n hQ kk
    have hk6 : k < 6 := by omega
    obtain ⟨hq1, hq2, hq3, hq4⟩ := hQ k t hk6 ht
    refine z_iload C d_Bus_send_6 0 rfl ?_
    refine z_bipush C (v := 6) d_Bus_send_8 (by decide) ?_
    refine z_icmp_ge C 64 d_Bus_send_10 (by decide) (fun h10 => False.elim (nI_ge (a := k) (b := 6) (by omega) (by decide) h10)) (fun h10 => ?_)
    refine z_aload_n C d_Bus_send_13 rfl 2 rfl ?_
    refine gB_Bus_nodes C d_Bus_send_14 tw_233  ?_
    refine z_iload C d_Bus_send_17 0 rfl ?_
    refine rB_nods C (j := k) d_Bus_send_19  rfl hk6 ?_
    refine gB_Nod_queues C d_Bus_send_20 tw_135 hk6 ?_
    refine z_iload_n C d_Bus_send_23 rfl 3 rfl ?_
    refine rB_ques C (j := t) d_Bus_send_24 hk6 rfl ht ?_
    refine z_astore C d_Bus_send_25 (by decide) [(6, .ref (b + (14 + 22 * k + 3 * t))), (5, .int (nI k)), (4, .int n), (0, .ref (b + 0)), (1, .int (nI t)), (2, .int v), (3, .int s)] rfl ?_
    refine z_aload C d_Bus_send_27 0 rfl ?_
    refine zf_Vi C d_Bus_send_29 (c_Que_isOpen l D ca b σ hk6 ht) tw_430 tw_431 tw_432 tw_5 tw_433 pd_Que_isOpen ⟨⟨Nat.le_trans (by decide) hR.1, Nat.le_trans (by decide) hR.2⟩, rfl, rfl, Nat.zero_le _, Nat.zero_le _⟩ (by omega) rfl (eB_Que hk6 ht) rfl (Nat.le_of_ble_eq_true rfl) rfl ?_
    refine z_if_eq C 58 d_Bus_send_32 (by decide) (fun h32 => ?_) (fun h32 => ?_)
    · refine z_iinc C d_Bus_send_58 1 rfl (v := (nI (k + 1))) (by rw [← nI_1]; rfl) (by decide) [(5, .int (nI (k + 1))), (6, .ref (b + (14 + 22 * k + 3 * t))), (4, .int n), (0, .ref (b + 0)), (1, .int (nI t)), (2, .int v), (3, .int s)] rfl ?_
      refine z_goto C 6 d_Bus_send_61 (by decide) ?_
      refine z_loc [0, 2, 3, 4, 5, 6] rfl ?_
      rw [sLp, if_pos h32] at kk
      exact ih (k + 1) (by omega) σ n hQ kk
    · refine z_aload_n C d_Bus_send_35 rfl 3 rfl ?_
      refine z_dup C d_Bus_send_36 rfl ?_
      refine gB_Bus_messagesLost C d_Bus_send_37 tw_240  ?_
      refine z_aload C d_Bus_send_40 0 rfl ?_
      refine z_iload_n C d_Bus_send_42 rfl 5 rfl ?_
      refine z_iload_n C d_Bus_send_43 rfl 6 rfl ?_
      refine z_aload_n C d_Bus_send_44 rfl 3 rfl ?_
      refine gB_Bus_clock C d_Bus_send_45 tw_239  ?_
      refine zf_Vi C d_Bus_send_48 (c_Que_append l D ca b σ hk6 ht hq1 hq2 hq3 (qOpen_dp hQ hk6 ht h32) (by omega) hq4 v s (σ.1 1 0 0 0)) tw_448 tw_449 tw_450 tw_5 tw_451 pd_Que_append ⟨⟨hR.1, hR.2⟩, rfl, rfl, Nat.zero_le _, Nat.zero_le _⟩ (by omega) rfl (eB_Que hk6 ht) rfl (Nat.le_of_ble_eq_true rfl) rfl ?_
      refine z_iadd C d_Bus_send_51 ?_
      refine pB_Bus_messagesLost C d_Bus_send_52 tw_240  ?_
      refine z_iinc C d_Bus_send_55 2 rfl (v := (n + 1)) (by rw [show Int32.ofInt 1 = 1 by decide]) (by decide) [(4, .int (n + 1)), (6, .ref (b + (14 + 22 * k + 3 * t))), (5, .int (nI k)), (0, .ref (b + 0)), (1, .int (nI t)), (2, .int v), (3, .int s)] rfl ?_
      refine z_iinc C d_Bus_send_58 2 rfl (v := (nI (k + 1))) (by rw [← nI_1]; rfl) (by decide) [(5, .int (nI (k + 1))), (4, .int (n + 1)), (6, .ref (b + (14 + 22 * k + 3 * t))), (0, .ref (b + 0)), (1, .int (nI t)), (2, .int v), (3, .int s)] rfl ?_
      refine z_goto C 6 d_Bus_send_61 (by decide) ?_
      refine z_loc [0, 1, 3, 4, 5, 6] rfl ?_
      rw [sLp, if_neg h32] at kk
      exact ih (k + 1) (by omega) _ _ (QI_us (by decide) (by decide) (QI_app hQ hk6 ht (qOpen_dp hQ hk6 ht h32))) kk
set_option maxRecDepth 100000 in
set_option maxHeartbeats 4000000 in
/-- publishing a message -/
theorem c_Bus_send (l : Launch) (D : va_G) (ca : Nat → ClassId) (b : Nat) (σ : Sg) {t : Nat} (ht : t < 6) (v s : Int32) (hQ : QI σ) (hB : BZ σ) : CtI l D ca SB b 182 y_Bus_send w_Bus_send (rmN 3 64) σ [.ref (b + 0), .int (nI t), .int v, .int s] (fun r σ' => r = sCnt σ t v s ∧ σ' = sSend σ t v s) := by
  refine ct_i "RobotBus" [(0, .ref (b + 0)), (1, .int (nI t)), (2, .int v), (3, .int s)] (by decide) rfl (Nat.le_of_ble_eq_true rfl) rfl (fun X C hret => ?_)
  refine z_iconst C (v := 0) d_Bus_send_0 (by decide) ?_
  refine z_istore C d_Bus_send_1 (by decide) [(4, .int 0), (0, .ref (b + 0)), (1, .int (nI t)), (2, .int v), (3, .int s)] rfl ?_
  refine z_iconst C (v := 0) d_Bus_send_3 (by decide) ?_
  refine z_istore C d_Bus_send_4 (by decide) [(5, .int 0), (4, .int 0), (0, .ref (b + 0)), (1, .int (nI t)), (2, .int v), (3, .int s)] rfl ?_
  refine lp_Bus_send l D ca b ⟨by decide, by decide⟩ C ht v s 6 0 rfl σ 0 hQ ?_
  have hz1 : BZ (tLast (sLp t v s 6 0 σ 0).1 t v s ((sLp t v s 6 0 σ 0).1.1 1 0 0 0)) := by
    unfold BZ bsz
    rw [tLast_ne (by decide) (by decide) (by decide) (by decide), sLp_ne (by decide) (by decide) (by decide)]
    exact hB
  have hret2 : ∀ (σ' : Sg) (L' : List (Nat × Value)), σ' = sSend σ t v s → Zs l D ca SB b 182 (rmN 3 64) 7 X σ' 121 L' [.int (sLp t v s 6 0 σ 0).2] := fun σ' L' h9 => hret _ _ _ _ d_Bus_send_121 ⟨rfl, h9⟩
  unfold sSend sRec at hret2
  generalize hS1 : tLast (sLp t v s 6 0 σ 0).1 t v s ((sLp t v s 6 0 σ 0).1.1 1 0 0 0) = σ1 at hz1 hret2
  refine z_aload_n C d_Bus_send_64 rfl 2 rfl ?_
  refine gB_Bus_topics C d_Bus_send_65 tw_234  ?_
  refine z_iload_n C d_Bus_send_68 rfl 3 rfl ?_
  refine rB_tops C (j := t) d_Bus_send_69  rfl ht ?_
  refine z_iload_n C d_Bus_send_70 rfl 4 rfl ?_
  refine z_iload_n C d_Bus_send_71 rfl 5 rfl ?_
  refine z_aload_n C d_Bus_send_72 rfl 2 rfl ?_
  refine gB_Bus_clock C d_Bus_send_73 tw_239  ?_
  refine zf_Vv C d_Bus_send_76 (c_Top_setLast l D ca b (sLp t v s 6 0 σ 0).1 ht v s _) tw_472 tw_473 tw_474 tw_7 tw_475 pd_Top_setLast ⟨⟨by decide, by decide⟩, rfl, rfl, by decide, by decide⟩ (by omega) rfl (eB_Top ht) rfl (Nat.le_of_ble_eq_true rfl) rfl ?_
  rw [hS1]
  refine z_aload_n C d_Bus_send_79 rfl 2 rfl ?_
  refine gB_Bus_topics C d_Bus_send_80 tw_234  ?_
  refine z_iload_n C d_Bus_send_83 rfl 3 rfl ?_
  refine rB_tops C (j := t) d_Bus_send_84  rfl ht ?_
  refine gB_Top_recorded C d_Bus_send_85 tw_160 ht ?_
  refine z_if_eq C 109 d_Bus_send_88 (by decide) (fun h88 => ?_) (fun h88 => ?_)
  · refine z_aload_n C d_Bus_send_109 rfl 2 rfl ?_
    refine z_dup C d_Bus_send_110 rfl ?_
    refine gB_Bus_messagesPublished C d_Bus_send_111 tw_241  ?_
    refine z_iconst C (v := 1) d_Bus_send_114 (by decide) ?_
    refine z_iadd C d_Bus_send_115 ?_
    refine pB_Bus_messagesPublished C d_Bus_send_116 tw_241  ?_
    refine z_iload C d_Bus_send_119 1 rfl ?_
    exact hret2 _ _ (by simp [sPub, *])
  · refine z_iload_n C d_Bus_send_91 rfl 5 rfl ?_
    refine z_iconst C (v := -1) d_Bus_send_92 (by decide) ?_
    refine z_icmp_eq C 109 d_Bus_send_93 (by decide) (fun h93 => ?_) (fun h93 => ?_)
    · refine z_aload_n C d_Bus_send_109 rfl 2 rfl ?_
      refine z_dup C d_Bus_send_110 rfl ?_
      refine gB_Bus_messagesPublished C d_Bus_send_111 tw_241  ?_
      refine z_iconst C (v := 1) d_Bus_send_114 (by decide) ?_
      refine z_iadd C d_Bus_send_115 ?_
      refine pB_Bus_messagesPublished C d_Bus_send_116 tw_241  ?_
      refine z_iload C d_Bus_send_119 1 rfl ?_
      exact hret2 _ _ (by simp [sPub, *])
    · refine z_aload_n C d_Bus_send_96 rfl 2 rfl ?_
      refine gB_Bus_bag C d_Bus_send_97 tw_237  ?_
      refine z_aload_n C d_Bus_send_100 rfl 2 rfl ?_
      refine gB_Bus_clock C d_Bus_send_101 tw_239  ?_
      refine z_iload_n C d_Bus_send_104 rfl 3 rfl ?_
      refine z_iload_n C d_Bus_send_105 rfl 4 rfl ?_
      refine zf_Vv C d_Bus_send_106 (c_Bag_append l D ca b σ1 hz1.1 hz1.2 _ _ _) tw_476 tw_477 tw_478 tw_2 tw_479 pd_Bag_append ⟨⟨by decide, by decide⟩, rfl, rfl, by decide, by decide⟩ (by omega) rfl (eB_Bag ) rfl (Nat.le_of_ble_eq_true rfl) rfl ?_
      refine z_aload_n C d_Bus_send_109 rfl 2 rfl ?_
      refine z_dup C d_Bus_send_110 rfl ?_
      refine gB_Bus_messagesPublished C d_Bus_send_111 tw_241  ?_
      refine z_iconst C (v := 1) d_Bus_send_114 (by decide) ?_
      refine z_iadd C d_Bus_send_115 ?_
      refine pB_Bus_messagesPublished C d_Bus_send_116 tw_241  ?_
      refine z_iload C d_Bus_send_119 1 rfl ?_
      exact hret2 _ _ (by simp [sPub, *])
