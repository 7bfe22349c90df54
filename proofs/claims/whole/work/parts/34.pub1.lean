/-! The bus' methods, one a call: how each ends, and the state behind it -/
abbrev cn (x : Int32) : Nat := x.toNatClampNeg
theorem isTh_nat {σ : Sg} {x : Int32} (h : ¬ isTh σ x = 0) : ∃ j, j < 6 ∧ x = nI j ∧ ¬ σ.1 30 j 0 0 = 0 := by
  unfold isTh at h
  by_cases h1 : bel x 6 = 0
  · rw [if_pos h1] at h; exact absurd rfl h
  · obtain ⟨j, hj, rfl⟩ := bel_nat (n := 6) (by decide) h1
    rw [if_neg h1, nI_clamp (by omega)] at h
    refine ⟨j, hj, rfl, fun q => ?_⟩
    rw [if_pos q] at h
    exact h rfl
def joinF (σ : Sg) (x : Int32) : Out × Sg := if bel x 6 = 0 then (.inr xIAE, σ) else if σ.1 30 (cn x) 0 0 = 0 then (.inl (.int 1), us σ 30 (cn x) 0 1) else (.inr xISE, σ)
def latchF (σ : Sg) (x o : Int32) : Out × Sg := if bel x 6 = 0 then (.inr xIAE, σ) else (.inl (.int (if σ.1 40 (cn x) 0 0 = o then 0 else 1)), us σ 40 (cn x) 0 o)
def keepF (σ : Sg) (x o : Int32) : Out × Sg := if bel x 6 = 0 then (.inr xIAE, σ) else (.inl (.int (if σ.1 41 (cn x) 0 0 = o then 0 else 1)), us σ 41 (cn x) 0 o)
def unsubF (σ : Sg) (x t : Int32) : Out × Sg := if isTh σ x = 0 then (.inr xNSE, σ) else if bel t 6 = 0 then (.inr xIAE, σ) else if qOpen σ (cn x) (cn t) = 0 then (.inr xNSE, σ) else (.inl (.int (σ.1 34 (cn x) (cn t) 0)), qClose σ (cn x) (cn t))
def publF (σ : Sg) (x t v : Int32) : Out × Sg := if isTh σ x = 0 then (.inr xNSE, σ) else if bel t 6 = 0 then (.inr xIAE, σ) else (.inl (.int (sCnt σ (cn t) v x)), sSend σ (cn t) v x)
def actF (σ : Sg) (x t k a c : Int32) : Out × Sg := if isTh σ x = 0 then (.inr xNSE, σ) else if bel t 6 = 0 then (.inr xIAE, σ) else if isAc k a c = 0 then (.inr xIAE, σ) else (.inl (.int (if σ.1 36 (cn x) (cn t) 0 = -1 then 1 else 0)), us (us (us σ 36 (cn x) (cn t) k) 37 (cn x) (cn t) a) 38 (cn x) (cn t) c)
def offerF (σ : Sg) (x s k c e : Int32) : Out × Sg := if isTh σ x = 0 then (.inr xNSE, σ) else if bel s 4 = 0 then (.inr xIAE, σ) else if isSv s k c e = 0 then (.inr xIAE, σ) else (.inl (.int (if σ.1 50 (cn s) 0 0 = -1 then 1 else 0)), us (us (us (us σ 50 (cn s) 0 x) 51 (cn s) 0 k) 52 (cn s) 0 c) 53 (cn s) 0 e)
def callF (σ : Sg) (s q : Int32) : Out × Sg := if bel s 4 = 0 then (.inr xIAE, σ) else if (askF σ (cn s) q).2 = 1 then (.inr xNSE, (askF σ (cn s) q).1) else if (askF σ (cn s) q).2 = 2 then (.inr xARI, (askF σ (cn s) q).1) else (.inl (.int ((askF σ (cn s) q).1.1 6 0 0 0)), (askF σ (cn s) q).1)
def varF' (σ : Sg) (x v : Int32) : Out × Sg := if isTh σ x = 0 then (.inr xNSE, σ) else if bel v 4 = 0 then (.inr xIAE, σ) else (.inl (.int (σ.1 32 (cn x) 0 (cn v))), σ)
def queuF (σ : Sg) (x t k w : Int32) : Out × Sg := if isTh σ x = 0 then (.inr xNSE, σ) else if bel t 6 = 0 then (.inr xNSE, σ) else if bel k (σ.1 34 (cn x) (cn t) 0) = 0 then (.inr xNSE, σ) else if bel w 3 = 0 then (.inr xIAE, σ) else (.inl (.int (σ.1 35 (cn x) (cn t) (cn k * 3 + cn w))), σ)
def playF (σ : Sg) (s : Int32) : Out × Sg := if wit s 1 4 = 0 then (.inr xIAE, σ) else if bPlay σ = 0 then (if σ.1 10 0 0 0 = 0 then (.inr xUNS, σ) else (.inl (.int (σ.1 10 0 0 0)), bStart σ (σ.1 1 0 0 0) s)) else (.inr xISE, σ)
def emptyF (σ : Sg) : Out × Sg := if bPlay σ = 0 then (.inl (.int (σ.1 10 0 0 0)), us σ 10 0 0 0) else (.inr xISE, σ)
def countF (σ : Sg) (w : Int32) : Out × Sg := if w = 0 then (.inl (.int (σ.1 1 0 0 0)), σ) else if w = 1 then (.inl (.int (σ.1 2 0 0 0)), σ) else if w = 2 then (.inl (.int (σ.1 3 0 0 0)), σ) else if w = 3 then (.inl (.int (σ.1 10 0 0 0)), σ) else if w = 4 then (.inl (.int (if bPlay σ = 0 then 0 else 1)), σ) else if w = 5 then (.inl (.int (σ.1 4 0 0 0)), σ) else if w = 6 then (.inl (.int (σ.1 5 0 0 0)), σ) else (.inr xIAE, σ)
set_option maxRecDepth 100000 in
set_option maxHeartbeats 4000000 in
/-- join -/
theorem c_Bus_join (l : Launch) (hl : l.stackTraces = false) (D : va_G) (ca : Nat → ClassId) (b : Nat) (σ : Sg) (x : Int32) : CtX l D ca b y_Bus_join w_Bus_join (rmX 6 82) σ [.ref (b + 0), .int x] (fun r σ' => r = (joinF σ x).1 ∧ σ' = (joinF σ x).2) := by
  refine cx_i "RobotBus" [(0, .ref (b + 0)), (1, .int x)] hl (by decide) rfl rfl (Nat.le_of_ble_eq_true rfl) rfl ⟨by decide, by decide, by decide, by decide⟩ (fun X C hret hthr => ?_)
  refine z_iload_n C d_Bus_join_0 rfl 1 rfl ?_
  refine z_bipush C (v := 6) d_Bus_join_1 (by decide) ?_
  refine zf_Si C d_Bus_join_3 (c_Bus_isBelow l D ca b σ x 6) tw_286 tw_287 tw_1 tw_288 pd_Bus_isBelow ⟨⟨by decide, by decide⟩, rfl, rfl, by decide, by decide⟩ (Nat.le_of_ble_eq_true rfl) rfl ?_
  refine z_if_ne C 19 d_Bus_join_6 (by decide) (fun h6 => ?_) (fun h6 => ?_)
  · obtain ⟨j, hj, rfl⟩ := bel_nat (n := 6) (by decide) h6
    have hcj : (nI j).toNatClampNeg = j := nI_clamp (by omega)
    refine z_aload_n C d_Bus_join_19 rfl 0 rfl ?_
    refine gB_Bus_nodes C d_Bus_join_20 tw_233  ?_
    refine z_iload_n C d_Bus_join_23 rfl 1 rfl ?_
    refine rB_nods C (j := j) d_Bus_join_24  rfl hj ?_
    refine gB_Nod_present C d_Bus_join_25 tw_139 hj ?_
    refine z_if_eq C 41 d_Bus_join_28 (by decide) (fun h28 => ?_) (fun h28 => ?_)
    · refine z_aload_n C d_Bus_join_41 rfl 0 rfl ?_
      refine gB_Bus_nodes C d_Bus_join_42 tw_233  ?_
      refine z_iload_n C d_Bus_join_45 rfl 1 rfl ?_
      refine rB_nods C (j := j) d_Bus_join_46  rfl hj ?_
      refine z_iconst C (v := 1) d_Bus_join_47 (by decide) ?_
      refine pB_Nod_present C d_Bus_join_48 tw_139 hj (by decide) ?_
      refine z_iconst C (v := 1) d_Bus_join_51 (by decide) ?_
      exact hret _ _ _ _ d_Bus_join_52 (by simp [joinF, *])
    · exact hthr _ _ _ _ 91 _ 2 "the node is there" _ XC_ISE (List.mem_of_getElem? (i := 1) rfl) (Or.inl ⟨d_Bus_join_35, rfl⟩) d_Bus_join_31 d_Bus_join_34 d_Bus_join_37 d_Bus_join_40 (by simp [joinF, *])
  · exact hthr _ _ _ _ 80 _ 2 "no such number of a node" _ XC_IAE (List.mem_of_getElem? (i := 0) rfl) (Or.inl ⟨d_Bus_join_13, rfl⟩) d_Bus_join_9 d_Bus_join_12 d_Bus_join_15 d_Bus_join_18 (by simp [joinF, *])
set_option maxRecDepth 100000 in
set_option maxHeartbeats 4000000 in
/-- Bus_latch -/
theorem c_Bus_latch (l : Launch) (hl : l.stackTraces = false) (D : va_G) (ca : Nat → ClassId) (b : Nat) (σ : Sg) (x o : Int32) (ho : o = 0 ∨ o = 1) : CtX l D ca b y_Bus_latch w_Bus_latch (rmX 6 82) σ [.ref (b + 0), .int x, .int o] (fun r σ' => r = (latchF σ x o).1 ∧ σ' = (latchF σ x o).2) := by
  refine cx_i "RobotBus" [(0, .ref (b + 0)), (1, .int x), (2, .int o)] hl (by decide) rfl rfl (Nat.le_of_ble_eq_true rfl) rfl ⟨by decide, by decide, by decide, by decide⟩ (fun X C hret hthr => ?_)
  refine z_iload_n C d_Bus_latch_0 rfl 1 rfl ?_
  refine z_bipush C (v := 6) d_Bus_latch_1 (by decide) ?_
  refine zf_Si C d_Bus_latch_3 (c_Bus_isBelow l D ca b σ x 6) tw_286 tw_287 tw_1 tw_288 pd_Bus_isBelow ⟨⟨by decide, by decide⟩, rfl, rfl, by decide, by decide⟩ (Nat.le_of_ble_eq_true rfl) rfl ?_
  refine z_if_ne C 19 d_Bus_latch_6 (by decide) (fun h6 => ?_) (fun h6 => ?_)
  · obtain ⟨j, hj, rfl⟩ := bel_nat (n := 6) (by decide) h6
    have hcj : (nI j).toNatClampNeg = j := nI_clamp (by omega)
    refine z_aload_n C d_Bus_latch_19 rfl 0 rfl ?_
    refine gB_Bus_topics C d_Bus_latch_20 tw_234  ?_
    refine z_iload_n C d_Bus_latch_23 rfl 1 rfl ?_
    refine rB_tops C (j := j) d_Bus_latch_24  rfl hj ?_
    refine gB_Top_latched C d_Bus_latch_25 tw_158 hj ?_
    refine z_iload_n C d_Bus_latch_28 rfl 2 rfl ?_
    refine z_icmp_eq C 36 d_Bus_latch_29 (by decide) (fun h29 => ?_) (fun h29 => ?_)
    · refine z_iconst C (v := 0) d_Bus_latch_36 (by decide) ?_
      refine z_istore_n C d_Bus_latch_37 rfl (by decide) [(3, .int 0), (0, .ref (b + 0)), (1, .int (nI j)), (2, .int o)] rfl ?_
      refine z_aload_n C d_Bus_latch_38 rfl 1 rfl ?_
      refine gB_Bus_topics C d_Bus_latch_39 tw_234  ?_
      refine z_iload_n C d_Bus_latch_42 rfl 2 rfl ?_
      refine rB_tops C (j := j) d_Bus_latch_43  rfl hj ?_
      refine z_iload_n C d_Bus_latch_44 rfl 3 rfl ?_
      refine pB_Top_latched C d_Bus_latch_45 tw_158 hj ho ?_
      refine z_iload_n C d_Bus_latch_48 rfl 0 rfl ?_
      refine z_if_eq C 56 d_Bus_latch_49 (by decide) (fun h49 => ?_) (fun h49 => False.elim (absurd (by decide) h49))
      refine z_iconst C (v := 0) d_Bus_latch_56 (by decide) ?_
      exact hret _ _ _ _ d_Bus_latch_57 (by simp [latchF, *])
    · refine z_iconst C (v := 1) d_Bus_latch_32 (by decide) ?_
      refine z_goto C 37 d_Bus_latch_33 (by decide) ?_
      refine z_istore_n C d_Bus_latch_37 rfl (by decide) [(3, .int 1), (0, .ref (b + 0)), (1, .int (nI j)), (2, .int o)] rfl ?_
      refine z_aload_n C d_Bus_latch_38 rfl 1 rfl ?_
      refine gB_Bus_topics C d_Bus_latch_39 tw_234  ?_
      refine z_iload_n C d_Bus_latch_42 rfl 2 rfl ?_
      refine rB_tops C (j := j) d_Bus_latch_43  rfl hj ?_
      refine z_iload_n C d_Bus_latch_44 rfl 3 rfl ?_
      refine pB_Top_latched C d_Bus_latch_45 tw_158 hj ho ?_
      refine z_iload_n C d_Bus_latch_48 rfl 0 rfl ?_
      refine z_if_eq C 56 d_Bus_latch_49 (by decide) (fun h49 => False.elim (absurd h49 (by decide))) (fun h49 => ?_)
      refine z_iconst C (v := 1) d_Bus_latch_52 (by decide) ?_
      refine z_goto C 57 d_Bus_latch_53 (by decide) ?_
      exact hret _ _ _ _ d_Bus_latch_57 (by simp [latchF, *])
  · exact hthr _ _ _ _ 110 _ 2 "no such topic" _ XC_IAE (List.mem_of_getElem? (i := 3) rfl) (Or.inl ⟨d_Bus_latch_13, rfl⟩) d_Bus_latch_9 d_Bus_latch_12 d_Bus_latch_15 d_Bus_latch_18 (by simp [latchF, *])
set_option maxRecDepth 100000 in
set_option maxHeartbeats 4000000 in
/-- Bus_keep -/
theorem c_Bus_keep (l : Launch) (hl : l.stackTraces = false) (D : va_G) (ca : Nat → ClassId) (b : Nat) (σ : Sg) (x o : Int32) (ho : o = 0 ∨ o = 1) : CtX l D ca b y_Bus_keep w_Bus_keep (rmX 6 82) σ [.ref (b + 0), .int x, .int o] (fun r σ' => r = (keepF σ x o).1 ∧ σ' = (keepF σ x o).2) := by
  refine cx_i "RobotBus" [(0, .ref (b + 0)), (1, .int x), (2, .int o)] hl (by decide) rfl rfl (Nat.le_of_ble_eq_true rfl) rfl ⟨by decide, by decide, by decide, by decide⟩ (fun X C hret hthr => ?_)
  refine z_iload_n C d_Bus_keep_0 rfl 1 rfl ?_
  refine z_bipush C (v := 6) d_Bus_keep_1 (by decide) ?_
  refine zf_Si C d_Bus_keep_3 (c_Bus_isBelow l D ca b σ x 6) tw_286 tw_287 tw_1 tw_288 pd_Bus_isBelow ⟨⟨by decide, by decide⟩, rfl, rfl, by decide, by decide⟩ (Nat.le_of_ble_eq_true rfl) rfl ?_
  refine z_if_ne C 19 d_Bus_keep_6 (by decide) (fun h6 => ?_) (fun h6 => ?_)
  · obtain ⟨j, hj, rfl⟩ := bel_nat (n := 6) (by decide) h6
    have hcj : (nI j).toNatClampNeg = j := nI_clamp (by omega)
    refine z_aload_n C d_Bus_keep_19 rfl 0 rfl ?_
    refine gB_Bus_topics C d_Bus_keep_20 tw_234  ?_
    refine z_iload_n C d_Bus_keep_23 rfl 1 rfl ?_
    refine rB_tops C (j := j) d_Bus_keep_24  rfl hj ?_
    refine gB_Top_recorded C d_Bus_keep_25 tw_160 hj ?_
    refine z_iload_n C d_Bus_keep_28 rfl 2 rfl ?_
    refine z_icmp_eq C 36 d_Bus_keep_29 (by decide) (fun h29 => ?_) (fun h29 => ?_)
    · refine z_iconst C (v := 0) d_Bus_keep_36 (by decide) ?_
      refine z_istore_n C d_Bus_keep_37 rfl (by decide) [(3, .int 0), (0, .ref (b + 0)), (1, .int (nI j)), (2, .int o)] rfl ?_
      refine z_aload_n C d_Bus_keep_38 rfl 1 rfl ?_
      refine gB_Bus_topics C d_Bus_keep_39 tw_234  ?_
      refine z_iload_n C d_Bus_keep_42 rfl 2 rfl ?_
      refine rB_tops C (j := j) d_Bus_keep_43  rfl hj ?_
      refine z_iload_n C d_Bus_keep_44 rfl 3 rfl ?_
      refine pB_Top_recorded C d_Bus_keep_45 tw_160 hj ho ?_
      refine z_iload_n C d_Bus_keep_48 rfl 0 rfl ?_
      refine z_if_eq C 56 d_Bus_keep_49 (by decide) (fun h49 => ?_) (fun h49 => False.elim (absurd (by decide) h49))
      refine z_iconst C (v := 0) d_Bus_keep_56 (by decide) ?_
      exact hret _ _ _ _ d_Bus_keep_57 (by simp [keepF, *])
    · refine z_iconst C (v := 1) d_Bus_keep_32 (by decide) ?_
      refine z_goto C 37 d_Bus_keep_33 (by decide) ?_
      refine z_istore_n C d_Bus_keep_37 rfl (by decide) [(3, .int 1), (0, .ref (b + 0)), (1, .int (nI j)), (2, .int o)] rfl ?_
      refine z_aload_n C d_Bus_keep_38 rfl 1 rfl ?_
      refine gB_Bus_topics C d_Bus_keep_39 tw_234  ?_
      refine z_iload_n C d_Bus_keep_42 rfl 2 rfl ?_
      refine rB_tops C (j := j) d_Bus_keep_43  rfl hj ?_
      refine z_iload_n C d_Bus_keep_44 rfl 3 rfl ?_
      refine pB_Top_recorded C d_Bus_keep_45 tw_160 hj ho ?_
      refine z_iload_n C d_Bus_keep_48 rfl 0 rfl ?_
      refine z_if_eq C 56 d_Bus_keep_49 (by decide) (fun h49 => False.elim (absurd h49 (by decide))) (fun h49 => ?_)
      refine z_iconst C (v := 1) d_Bus_keep_52 (by decide) ?_
      refine z_goto C 57 d_Bus_keep_53 (by decide) ?_
      exact hret _ _ _ _ d_Bus_keep_57 (by simp [keepF, *])
  · exact hthr _ _ _ _ 110 _ 2 "no such topic" _ XC_IAE (List.mem_of_getElem? (i := 3) rfl) (Or.inl ⟨d_Bus_keep_13, rfl⟩) d_Bus_keep_9 d_Bus_keep_12 d_Bus_keep_15 d_Bus_keep_18 (by simp [keepF, *])
set_option maxRecDepth 100000 in
set_option maxHeartbeats 4000000 in
/-- Bus_unsubscribe -/
theorem c_Bus_unsubscribe (l : Launch) (hl : l.stackTraces = false) (D : va_G) (ca : Nat → ClassId) (b : Nat) (σ : Sg) (x t : Int32) : CtX l D ca b y_Bus_unsubscribe w_Bus_unsubscribe (rmX 6 82) σ [.ref (b + 0), .int x, .int t] (fun r σ' => r = (unsubF σ x t).1 ∧ σ' = (unsubF σ x t).2) := by
  refine cx_i "RobotBus" [(0, .ref (b + 0)), (1, .int x), (2, .int t)] hl (by decide) rfl rfl (Nat.le_of_ble_eq_true rfl) rfl ⟨by decide, by decide, by decide, by decide⟩ (fun X C hret hthr => ?_)
  refine z_aload_n C d_Bus_unsubscribe_0 rfl 0 rfl ?_
  refine z_iload_n C d_Bus_unsubscribe_1 rfl 1 rfl ?_
  refine zf_Vi C d_Bus_unsubscribe_2 (c_Bus_isThere l D ca b σ x) tw_383 tw_385 tp_Bus_isThere tw_1 tw_386 pd_Bus_isThere ⟨⟨by decide, by decide⟩, rfl, rfl, by decide, by decide⟩ (by omega) rfl (eB_Bus ) rfl (Nat.le_of_ble_eq_true rfl) rfl ?_
  refine z_if_ne C 18 d_Bus_unsubscribe_5 (by decide) (fun h5 => ?_) (fun h5 => ?_)
  · obtain ⟨j, hj, rfl, hpj⟩ := isTh_nat h5
    have hcj : (nI j).toNatClampNeg = j := nI_clamp (by omega)
    refine z_iload_n C d_Bus_unsubscribe_18 rfl 2 rfl ?_
    refine z_bipush C (v := 6) d_Bus_unsubscribe_19 (by decide) ?_
    refine zf_Si C d_Bus_unsubscribe_21 (c_Bus_isBelow l D ca b σ t 6) tw_286 tw_287 tw_1 tw_288 pd_Bus_isBelow ⟨⟨by decide, by decide⟩, rfl, rfl, by decide, by decide⟩ (Nat.le_of_ble_eq_true rfl) rfl ?_
    refine z_if_ne C 37 d_Bus_unsubscribe_24 (by decide) (fun h24 => ?_) (fun h24 => ?_)
    · obtain ⟨u, hu, rfl⟩ := bel_nat (n := 6) (by decide) h24
      have hcu : (nI u).toNatClampNeg = u := nI_clamp (by omega)
      refine z_aload_n C d_Bus_unsubscribe_37 rfl 0 rfl ?_
      refine gB_Bus_nodes C d_Bus_unsubscribe_38 tw_233  ?_
      refine z_iload_n C d_Bus_unsubscribe_41 rfl 1 rfl ?_
      refine rB_nods C (j := j) d_Bus_unsubscribe_42  rfl hj ?_
      refine gB_Nod_queues C d_Bus_unsubscribe_43 tw_135 hj ?_
      refine z_iload_n C d_Bus_unsubscribe_46 rfl 2 rfl ?_
      refine rB_ques C (j := u) d_Bus_unsubscribe_47 hj rfl hu ?_
      refine zf_Vi C d_Bus_unsubscribe_48 (c_Que_isOpen l D ca b σ hj hu) tw_430 tw_431 tw_432 tw_5 tw_433 pd_Que_isOpen ⟨⟨by decide, by decide⟩, rfl, rfl, by decide, by decide⟩ (by omega) rfl (eB_Que hj hu) rfl (Nat.le_of_ble_eq_true rfl) rfl ?_
      refine z_if_ne C 64 d_Bus_unsubscribe_51 (by decide) (fun h51 => ?_) (fun h51 => ?_)
      · refine z_aload_n C d_Bus_unsubscribe_64 rfl 0 rfl ?_
        refine gB_Bus_nodes C d_Bus_unsubscribe_65 tw_233  ?_
        refine z_iload_n C d_Bus_unsubscribe_68 rfl 1 rfl ?_
        refine rB_nods C (j := j) d_Bus_unsubscribe_69  rfl hj ?_
        refine gB_Nod_queues C d_Bus_unsubscribe_70 tw_135 hj ?_
        refine z_iload_n C d_Bus_unsubscribe_73 rfl 2 rfl ?_
        refine rB_ques C (j := u) d_Bus_unsubscribe_74 hj rfl hu ?_
        refine zf_Vi C d_Bus_unsubscribe_75 (c_Que_close l D ca b σ hj hu) tw_460 tw_408 tw_409 tw_5 tw_410 pd_Que_close ⟨⟨by decide, by decide⟩, rfl, rfl, by decide, by decide⟩ (by omega) rfl (eB_Que hj hu) rfl (Nat.le_of_ble_eq_true rfl) rfl ?_
        exact hret _ _ _ _ d_Bus_unsubscribe_78 (by simp [unsubF, *])
      · exact hthr _ _ _ _ 154 _ 2 "the node is not subscribed" _ XC_NSE (List.mem_of_getElem? (i := 5) rfl) (Or.inl ⟨d_Bus_unsubscribe_58, rfl⟩) d_Bus_unsubscribe_54 d_Bus_unsubscribe_57 d_Bus_unsubscribe_60 d_Bus_unsubscribe_63 (by simp [unsubF, *])
    · exact hthr _ _ _ _ 110 _ 2 "no such topic" _ XC_IAE (List.mem_of_getElem? (i := 3) rfl) (Or.inl ⟨d_Bus_unsubscribe_31, rfl⟩) d_Bus_unsubscribe_27 d_Bus_unsubscribe_30 d_Bus_unsubscribe_33 d_Bus_unsubscribe_36 (by simp [unsubF, *])
  · exact hthr _ _ _ _ 100 _ 2 "no such node" _ XC_NSE (List.mem_of_getElem? (i := 2) rfl) (Or.inl ⟨d_Bus_unsubscribe_12, rfl⟩) d_Bus_unsubscribe_8 d_Bus_unsubscribe_11 d_Bus_unsubscribe_14 d_Bus_unsubscribe_17 (by simp [unsubF, *])
set_option maxRecDepth 100000 in
set_option maxHeartbeats 4000000 in
/-- Bus_variable -/
theorem c_Bus_variable (l : Launch) (hl : l.stackTraces = false) (D : va_G) (ca : Nat → ClassId) (b : Nat) (σ : Sg) (x v : Int32) : CtX l D ca b y_Bus_variable w_Bus_variable (rmX 6 82) σ [.ref (b + 0), .int x, .int v] (fun r σ' => r = (varF' σ x v).1 ∧ σ' = (varF' σ x v).2) := by
  refine cx_i "RobotBus" [(0, .ref (b + 0)), (1, .int x), (2, .int v)] hl (by decide) rfl rfl (Nat.le_of_ble_eq_true rfl) rfl ⟨by decide, by decide, by decide, by decide⟩ (fun X C hret hthr => ?_)
  refine z_aload_n C d_Bus_variable_0 rfl 0 rfl ?_
  refine z_iload_n C d_Bus_variable_1 rfl 1 rfl ?_
  refine zf_Vi C d_Bus_variable_2 (c_Bus_isThere l D ca b σ x) tw_383 tw_385 tp_Bus_isThere tw_1 tw_386 pd_Bus_isThere ⟨⟨by decide, by decide⟩, rfl, rfl, by decide, by decide⟩ (by omega) rfl (eB_Bus ) rfl (Nat.le_of_ble_eq_true rfl) rfl ?_
  refine z_if_ne C 18 d_Bus_variable_5 (by decide) (fun h5 => ?_) (fun h5 => ?_)
  · obtain ⟨j, hj, rfl, hpj⟩ := isTh_nat h5
    have hcj : (nI j).toNatClampNeg = j := nI_clamp (by omega)
    refine z_iload_n C d_Bus_variable_18 rfl 2 rfl ?_
    refine z_iconst C (v := 4) d_Bus_variable_19 (by decide) ?_
    refine zf_Si C d_Bus_variable_20 (c_Bus_isBelow l D ca b σ v 4) tw_286 tw_287 tw_1 tw_288 pd_Bus_isBelow ⟨⟨by decide, by decide⟩, rfl, rfl, by decide, by decide⟩ (Nat.le_of_ble_eq_true rfl) rfl ?_
    refine z_if_ne C 36 d_Bus_variable_23 (by decide) (fun h23 => ?_) (fun h23 => ?_)
    · obtain ⟨u, hu, rfl⟩ := bel_nat (n := 4) (by decide) h23
      have hcu : (nI u).toNatClampNeg = u := nI_clamp (by omega)
      refine z_aload_n C d_Bus_variable_36 rfl 0 rfl ?_
      refine gB_Bus_nodes C d_Bus_variable_37 tw_233  ?_
      refine z_iload_n C d_Bus_variable_40 rfl 1 rfl ?_
      refine rB_nods C (j := j) d_Bus_variable_41  rfl hj ?_
      refine gB_Nod_variables C d_Bus_variable_42 tw_133 hj ?_
      refine z_iload_n C d_Bus_variable_45 rfl 2 rfl ?_
      refine lB_vars C (q := u) d_Bus_variable_46 hj rfl hu ?_
      exact hret _ _ _ _ d_Bus_variable_47 (by simp [varF', *])
    · exact hthr _ _ _ _ 213 _ 2 "no such variable" _ XC_IAE (List.mem_of_getElem? (i := 12) rfl) (Or.inl ⟨d_Bus_variable_30, rfl⟩) d_Bus_variable_26 d_Bus_variable_29 d_Bus_variable_32 d_Bus_variable_35 (by simp [varF', *])
  · exact hthr _ _ _ _ 100 _ 2 "no such node" _ XC_NSE (List.mem_of_getElem? (i := 2) rfl) (Or.inl ⟨d_Bus_variable_12, rfl⟩) d_Bus_variable_8 d_Bus_variable_11 d_Bus_variable_14 d_Bus_variable_17 (by simp [varF', *])
set_option maxRecDepth 100000 in
set_option maxHeartbeats 4000000 in
/-- Bus_act -/
theorem c_Bus_act (l : Launch) (hl : l.stackTraces = false) (D : va_G) (ca : Nat → ClassId) (b : Nat) (σ : Sg) (x t k a c : Int32) : CtX l D ca b y_Bus_act w_Bus_act (rmX 6 82) σ [.ref (b + 0), .int x, .int t, .int k, .int a, .int c] (fun r σ' => r = (actF σ x t k a c).1 ∧ σ' = (actF σ x t k a c).2) := by
  refine cx_i "RobotBus" [(0, .ref (b + 0)), (1, .int x), (2, .int t), (3, .int k), (4, .int a), (5, .int c)] hl (by decide) rfl rfl (Nat.le_of_ble_eq_true rfl) rfl ⟨by decide, by decide, by decide, by decide⟩ (fun X C hret hthr => ?_)
  refine z_aload_n C d_Bus_act_0 rfl 0 rfl ?_
  refine z_iload_n C d_Bus_act_1 rfl 1 rfl ?_
  refine zf_Vi C d_Bus_act_2 (c_Bus_isThere l D ca b σ x) tw_383 tw_385 tp_Bus_isThere tw_1 tw_386 pd_Bus_isThere ⟨⟨by decide, by decide⟩, rfl, rfl, by decide, by decide⟩ (by omega) rfl (eB_Bus ) rfl (Nat.le_of_ble_eq_true rfl) rfl ?_
  refine z_if_ne C 18 d_Bus_act_5 (by decide) (fun h5 => ?_) (fun h5 => ?_)
  · obtain ⟨j, hj, rfl, hpj⟩ := isTh_nat h5
    have hcj : (nI j).toNatClampNeg = j := nI_clamp (by omega)
    refine z_iload_n C d_Bus_act_18 rfl 2 rfl ?_
    refine z_bipush C (v := 6) d_Bus_act_19 (by decide) ?_
    refine zf_Si C d_Bus_act_21 (c_Bus_isBelow l D ca b σ t 6) tw_286 tw_287 tw_1 tw_288 pd_Bus_isBelow ⟨⟨by decide, by decide⟩, rfl, rfl, by decide, by decide⟩ (Nat.le_of_ble_eq_true rfl) rfl ?_
    refine z_if_eq C 38 d_Bus_act_24 (by decide) (fun h24 => ?_) (fun h24 => ?_)
    · exact hthr _ _ _ _ 165 _ 2 "no such topic or action" _ XC_IAE (List.mem_of_getElem? (i := 6) rfl) (Or.inl ⟨d_Bus_act_42, rfl⟩) d_Bus_act_38 d_Bus_act_41 d_Bus_act_44 d_Bus_act_47 (by simp [actF, *])
    · obtain ⟨u, hu, rfl⟩ := bel_nat (n := 6) (by decide) h24
      have hcu : (nI u).toNatClampNeg = u := nI_clamp (by omega)
      refine z_iload_n C d_Bus_act_27 rfl 3 rfl ?_
      refine z_iload C d_Bus_act_28 4 rfl ?_
      refine z_iload C d_Bus_act_30 5 rfl ?_
      refine zf_Si C d_Bus_act_32 (c_Bus_isAction l D ca b σ k a c) tw_487 tw_488 tw_1 tw_489 pd_Bus_isAction ⟨⟨by decide, by decide⟩, rfl, rfl, by decide, by decide⟩ (Nat.le_of_ble_eq_true rfl) rfl ?_
      refine z_if_ne C 48 d_Bus_act_35 (by decide) (fun h35 => ?_) (fun h35 => ?_)
      · refine z_aload_n C d_Bus_act_48 rfl 0 rfl ?_
        refine gB_Bus_nodes C d_Bus_act_49 tw_233  ?_
        refine z_iload_n C d_Bus_act_52 rfl 1 rfl ?_
        refine rB_nods C (j := j) d_Bus_act_53  rfl hj ?_
        refine gB_Nod_actions C d_Bus_act_54 tw_137 hj ?_
        refine z_iload_n C d_Bus_act_57 rfl 2 rfl ?_
        refine rB_acts C (j := u) d_Bus_act_58 hj rfl hu ?_
        refine z_astore C d_Bus_act_59 (by decide) [(6, .ref (b + (16 + 22 * j + 3 * u))), (0, .ref (b + 0)), (1, .int (nI j)), (2, .int (nI u)), (3, .int k), (4, .int a), (5, .int c)] rfl ?_
        refine z_aload C d_Bus_act_61 0 rfl ?_
        refine gB_Act_kind C d_Bus_act_63 tw_120 hj hu ?_
        refine z_iconst C (v := -1) d_Bus_act_66 (by decide) ?_
        refine z_icmp_ne C 74 d_Bus_act_67 (by decide) (fun h67 => ?_) (fun h67 => ?_)
        · refine z_iconst C (v := 0) d_Bus_act_74 (by decide) ?_
          refine z_istore C d_Bus_act_75 (by decide) [(7, .int 0), (6, .ref (b + (16 + 22 * j + 3 * u))), (0, .ref (b + 0)), (1, .int (nI j)), (2, .int (nI u)), (3, .int k), (4, .int a), (5, .int c)] rfl ?_
          refine z_aload C d_Bus_act_77 1 rfl ?_
          refine z_iload_n C d_Bus_act_79 rfl 5 rfl ?_
          refine pB_Act_kind C d_Bus_act_80 tw_120 hj hu ?_
          refine z_aload C d_Bus_act_83 1 rfl ?_
          refine z_iload C d_Bus_act_85 6 rfl ?_
          refine pB_Act_a C d_Bus_act_87 tw_122 hj hu ?_
          refine z_aload C d_Bus_act_90 1 rfl ?_
          refine z_iload C d_Bus_act_92 7 rfl ?_
          refine pB_Act_b C d_Bus_act_94 tw_124 hj hu ?_
          refine z_iload C d_Bus_act_97 0 rfl ?_
          exact hret _ _ _ _ d_Bus_act_99 (by simp [actF, *])
        · refine z_iconst C (v := 1) d_Bus_act_70 (by decide) ?_
          refine z_goto C 75 d_Bus_act_71 (by decide) ?_
          refine z_istore C d_Bus_act_75 (by decide) [(7, .int 1), (6, .ref (b + (16 + 22 * j + 3 * u))), (0, .ref (b + 0)), (1, .int (nI j)), (2, .int (nI u)), (3, .int k), (4, .int a), (5, .int c)] rfl ?_
          refine z_aload C d_Bus_act_77 1 rfl ?_
          refine z_iload_n C d_Bus_act_79 rfl 5 rfl ?_
          refine pB_Act_kind C d_Bus_act_80 tw_120 hj hu ?_
          refine z_aload C d_Bus_act_83 1 rfl ?_
          refine z_iload C d_Bus_act_85 6 rfl ?_
          refine pB_Act_a C d_Bus_act_87 tw_122 hj hu ?_
          refine z_aload C d_Bus_act_90 1 rfl ?_
          refine z_iload C d_Bus_act_92 7 rfl ?_
          refine pB_Act_b C d_Bus_act_94 tw_124 hj hu ?_
          refine z_iload C d_Bus_act_97 0 rfl ?_
          exact hret _ _ _ _ d_Bus_act_99 (by simp [actF, *])
      · exact hthr _ _ _ _ 165 _ 2 "no such topic or action" _ XC_IAE (List.mem_of_getElem? (i := 6) rfl) (Or.inl ⟨d_Bus_act_42, rfl⟩) d_Bus_act_38 d_Bus_act_41 d_Bus_act_44 d_Bus_act_47 (by simp [actF, *])
  · exact hthr _ _ _ _ 100 _ 2 "no such node" _ XC_NSE (List.mem_of_getElem? (i := 2) rfl) (Or.inl ⟨d_Bus_act_12, rfl⟩) d_Bus_act_8 d_Bus_act_11 d_Bus_act_14 d_Bus_act_17 (by simp [actF, *])
set_option maxRecDepth 100000 in
set_option maxHeartbeats 4000000 in
/-- Bus_offer -/
theorem c_Bus_offer (l : Launch) (hl : l.stackTraces = false) (D : va_G) (ca : Nat → ClassId) (b : Nat) (σ : Sg) (x s k c e : Int32) : CtX l D ca b y_Bus_offer w_Bus_offer (rmX 6 82) σ [.ref (b + 0), .int x, .int s, .int k, .int c, .int e] (fun r σ' => r = (offerF σ x s k c e).1 ∧ σ' = (offerF σ x s k c e).2) := by
  refine cx_i "RobotBus" [(0, .ref (b + 0)), (1, .int x), (2, .int s), (3, .int k), (4, .int c), (5, .int e)] hl (by decide) rfl rfl (Nat.le_of_ble_eq_true rfl) rfl ⟨by decide, by decide, by decide, by decide⟩ (fun X C hret hthr => ?_)
  refine z_aload_n C d_Bus_offer_0 rfl 0 rfl ?_
  refine z_iload_n C d_Bus_offer_1 rfl 1 rfl ?_
  refine zf_Vi C d_Bus_offer_2 (c_Bus_isThere l D ca b σ x) tw_383 tw_385 tp_Bus_isThere tw_1 tw_386 pd_Bus_isThere ⟨⟨by decide, by decide⟩, rfl, rfl, by decide, by decide⟩ (by omega) rfl (eB_Bus ) rfl (Nat.le_of_ble_eq_true rfl) rfl ?_
  refine z_if_ne C 18 d_Bus_offer_5 (by decide) (fun h5 => ?_) (fun h5 => ?_)
  · obtain ⟨j, hj, rfl, hpj⟩ := isTh_nat h5
    have hcj : (nI j).toNatClampNeg = j := nI_clamp (by omega)
    refine z_iload_n C d_Bus_offer_18 rfl 2 rfl ?_
    refine z_iconst C (v := 4) d_Bus_offer_19 (by decide) ?_
    refine zf_Si C d_Bus_offer_20 (c_Bus_isBelow l D ca b σ s 4) tw_286 tw_287 tw_1 tw_288 pd_Bus_isBelow ⟨⟨by decide, by decide⟩, rfl, rfl, by decide, by decide⟩ (Nat.le_of_ble_eq_true rfl) rfl ?_
    refine z_if_eq C 38 d_Bus_offer_23 (by decide) (fun h23 => ?_) (fun h23 => ?_)
    · exact hthr _ _ _ _ 186 _ 2 "no such service or kind of it" _ XC_IAE (List.mem_of_getElem? (i := 7) rfl) (Or.inl ⟨d_Bus_offer_42, rfl⟩) d_Bus_offer_38 d_Bus_offer_41 d_Bus_offer_44 d_Bus_offer_47 (by simp [offerF, *])
    · obtain ⟨u, hu, rfl⟩ := bel_nat (n := 4) (by decide) h23
      have hcu : (nI u).toNatClampNeg = u := nI_clamp (by omega)
      refine z_iload_n C d_Bus_offer_26 rfl 2 rfl ?_
      refine z_iload_n C d_Bus_offer_27 rfl 3 rfl ?_
      refine z_iload C d_Bus_offer_28 4 rfl ?_
      refine z_iload C d_Bus_offer_30 5 rfl ?_
      refine zf_Si C d_Bus_offer_32 (c_Bus_isService l D ca b σ (nI u) k c e) tw_498 tw_499 tw_1 tw_500 pd_Bus_isService ⟨⟨by decide, by decide⟩, rfl, rfl, by decide, by decide⟩ (Nat.le_of_ble_eq_true rfl) rfl ?_
      refine z_if_ne C 48 d_Bus_offer_35 (by decide) (fun h35 => ?_) (fun h35 => ?_)
      · refine z_aload_n C d_Bus_offer_48 rfl 0 rfl ?_
        refine gB_Bus_services C d_Bus_offer_49 tw_235  ?_
        refine z_iload_n C d_Bus_offer_52 rfl 2 rfl ?_
        refine rB_srvs C (j := u) d_Bus_offer_53  rfl hu ?_
        refine z_astore C d_Bus_offer_54 (by decide) [(6, .ref (b + (148 + u))), (0, .ref (b + 0)), (1, .int (nI j)), (2, .int (nI u)), (3, .int k), (4, .int c), (5, .int e)] rfl ?_
        refine z_aload C d_Bus_offer_56 0 rfl ?_
        refine gB_Srv_node C d_Bus_offer_58 tw_188 hu ?_
        refine z_iconst C (v := -1) d_Bus_offer_61 (by decide) ?_
        refine z_icmp_ne C 69 d_Bus_offer_62 (by decide) (fun h62 => ?_) (fun h62 => ?_)
        · refine z_iconst C (v := 0) d_Bus_offer_69 (by decide) ?_
          refine z_istore C d_Bus_offer_70 (by decide) [(7, .int 0), (6, .ref (b + (148 + u))), (0, .ref (b + 0)), (1, .int (nI j)), (2, .int (nI u)), (3, .int k), (4, .int c), (5, .int e)] rfl ?_
          refine z_aload C d_Bus_offer_72 1 rfl ?_
          refine z_iload_n C d_Bus_offer_74 rfl 3 rfl ?_
          refine pB_Srv_node C d_Bus_offer_75 tw_188 hu ?_
          refine z_aload C d_Bus_offer_78 1 rfl ?_
          refine z_iload_n C d_Bus_offer_80 rfl 5 rfl ?_
          refine pB_Srv_kind C d_Bus_offer_81 tw_190 hu ?_
          refine z_aload C d_Bus_offer_84 1 rfl ?_
          refine z_iload C d_Bus_offer_86 6 rfl ?_
          refine pB_Srv_c C d_Bus_offer_88 tw_192 hu ?_
          refine z_aload C d_Bus_offer_91 1 rfl ?_
          refine z_iload C d_Bus_offer_93 7 rfl ?_
          refine pB_Srv_d C d_Bus_offer_95 tw_194 hu ?_
          refine z_iload C d_Bus_offer_98 0 rfl ?_
          exact hret _ _ _ _ d_Bus_offer_100 (by simp [offerF, *])
        · refine z_iconst C (v := 1) d_Bus_offer_65 (by decide) ?_
          refine z_goto C 70 d_Bus_offer_66 (by decide) ?_
          refine z_istore C d_Bus_offer_70 (by decide) [(7, .int 1), (6, .ref (b + (148 + u))), (0, .ref (b + 0)), (1, .int (nI j)), (2, .int (nI u)), (3, .int k), (4, .int c), (5, .int e)] rfl ?_
          refine z_aload C d_Bus_offer_72 1 rfl ?_
          refine z_iload_n C d_Bus_offer_74 rfl 3 rfl ?_
          refine pB_Srv_node C d_Bus_offer_75 tw_188 hu ?_
          refine z_aload C d_Bus_offer_78 1 rfl ?_
          refine z_iload_n C d_Bus_offer_80 rfl 5 rfl ?_
          refine pB_Srv_kind C d_Bus_offer_81 tw_190 hu ?_
          refine z_aload C d_Bus_offer_84 1 rfl ?_
          refine z_iload C d_Bus_offer_86 6 rfl ?_
          refine pB_Srv_c C d_Bus_offer_88 tw_192 hu ?_
          refine z_aload C d_Bus_offer_91 1 rfl ?_
          refine z_iload C d_Bus_offer_93 7 rfl ?_
          refine pB_Srv_d C d_Bus_offer_95 tw_194 hu ?_
          refine z_iload C d_Bus_offer_98 0 rfl ?_
          exact hret _ _ _ _ d_Bus_offer_100 (by simp [offerF, *])
      · exact hthr _ _ _ _ 186 _ 2 "no such service or kind of it" _ XC_IAE (List.mem_of_getElem? (i := 7) rfl) (Or.inl ⟨d_Bus_offer_42, rfl⟩) d_Bus_offer_38 d_Bus_offer_41 d_Bus_offer_44 d_Bus_offer_47 (by simp [offerF, *])
  · exact hthr _ _ _ _ 100 _ 2 "no such node" _ XC_NSE (List.mem_of_getElem? (i := 2) rfl) (Or.inl ⟨d_Bus_offer_12, rfl⟩) d_Bus_offer_8 d_Bus_offer_11 d_Bus_offer_14 d_Bus_offer_17 (by simp [offerF, *])
set_option maxRecDepth 100000 in
set_option maxHeartbeats 4000000 in
/-- Bus_empty -/
theorem c_Bus_empty (l : Launch) (hl : l.stackTraces = false) (D : va_G) (ca : Nat → ClassId) (b : Nat) (σ : Sg)  : CtX l D ca b y_Bus_empty w_Bus_empty (rmX 6 82) σ [.ref (b + 0)] (fun r σ' => r = (emptyF σ).1 ∧ σ' = (emptyF σ).2) := by
  refine cx_i "RobotBus" [(0, .ref (b + 0))] hl (by decide) rfl rfl (Nat.le_of_ble_eq_true rfl) rfl ⟨by decide, by decide, by decide, by decide⟩ (fun X C hret hthr => ?_)
  refine z_aload_n C d_Bus_empty_0 rfl 0 rfl ?_
  refine gB_Bus_bag C d_Bus_empty_1 tw_237  ?_
  refine zf_Vi C d_Bus_empty_4 (c_Bag_isPlaying l D ca b σ) tw_616 tw_553 tw_554 tw_2 tw_555 pd_Bag_isPlaying ⟨⟨by decide, by decide⟩, rfl, rfl, by decide, by decide⟩ (by omega) rfl (eB_Bag ) rfl (Nat.le_of_ble_eq_true rfl) rfl ?_
  refine z_if_eq C 20 d_Bus_empty_7 (by decide) (fun h7 => ?_) (fun h7 => ?_)
  · refine z_aload_n C d_Bus_empty_20 rfl 0 rfl ?_
    refine gB_Bus_bag C d_Bus_empty_21 tw_237  ?_
    refine gB_Bag_size C d_Bus_empty_24 tw_49  ?_
    refine z_istore_n C d_Bus_empty_27 rfl (by decide) [(1, .int (σ.1 10 0 0 0)), (0, .ref (b + 0))] rfl ?_
    refine z_aload_n C d_Bus_empty_28 rfl 1 rfl ?_
    refine gB_Bus_bag C d_Bus_empty_29 tw_237  ?_
    refine z_iconst C (v := 0) d_Bus_empty_32 (by decide) ?_
    refine pB_Bag_size C d_Bus_empty_33 tw_49  ?_
    refine z_iload_n C d_Bus_empty_36 rfl 0 rfl ?_
    exact hret _ _ _ _ d_Bus_empty_37 (by simp [emptyF, *])
  · exact hthr _ _ _ _ 236 _ 2 "the bag is playing" _ XC_ISE (List.mem_of_getElem? (i := 17) rfl) (Or.inl ⟨d_Bus_empty_14, rfl⟩) d_Bus_empty_10 d_Bus_empty_13 d_Bus_empty_16 d_Bus_empty_19 (by simp [emptyF, *])
theorem bSt10 {σ : Sg} {c s : Int32} : (bStart σ c s).1 10 0 0 0 = σ.1 10 0 0 0 := by unfold bStart; rw [us_ne (by decide), us_ne (by decide), us_ne (by decide), us_ne (by decide)]
set_option maxRecDepth 100000 in
set_option maxHeartbeats 4000000 in
/-- Bus_play -/
theorem c_Bus_play (l : Launch) (hl : l.stackTraces = false) (D : va_G) (ca : Nat → ClassId) (b : Nat) (σ : Sg) (s : Int32) : CtX l D ca b y_Bus_play w_Bus_play (rmX 6 82) σ [.ref (b + 0), .int s] (fun r σ' => r = (playF σ s).1 ∧ σ' = (playF σ s).2) := by
  refine cx_i "RobotBus" [(0, .ref (b + 0)), (1, .int s)] hl (by decide) rfl rfl (Nat.le_of_ble_eq_true rfl) rfl ⟨by decide, by decide, by decide, by decide⟩ (fun X C hret hthr => ?_)
  refine z_iload_n C d_Bus_play_0 rfl 1 rfl ?_
  refine z_iconst C (v := 1) d_Bus_play_1 (by decide) ?_
  refine z_iconst C (v := 4) d_Bus_play_2 (by decide) ?_
  refine zf_Si C d_Bus_play_3 (c_Bus_isWithin l D ca b σ s 1 4) tw_426 tw_427 tw_1 tw_428 pd_Bus_isWithin ⟨⟨by decide, by decide⟩, rfl, rfl, by decide, by decide⟩ (Nat.le_of_ble_eq_true rfl) rfl ?_
  refine z_if_ne C 19 d_Bus_play_6 (by decide) (fun h6 => ?_) (fun h6 => ?_)
  · refine z_aload_n C d_Bus_play_19 rfl 0 rfl ?_
    refine gB_Bus_bag C d_Bus_play_20 tw_237  ?_
    refine zf_Vi C d_Bus_play_23 (c_Bag_isPlaying l D ca b σ) tw_616 tw_553 tw_554 tw_2 tw_555 pd_Bag_isPlaying ⟨⟨by decide, by decide⟩, rfl, rfl, by decide, by decide⟩ (by omega) rfl (eB_Bag ) rfl (Nat.le_of_ble_eq_true rfl) rfl ?_
    refine z_if_eq C 39 d_Bus_play_26 (by decide) (fun h26 => ?_) (fun h26 => ?_)
    · refine z_aload_n C d_Bus_play_39 rfl 0 rfl ?_
      refine gB_Bus_bag C d_Bus_play_40 tw_237  ?_
      refine gB_Bag_size C d_Bus_play_43 tw_49  ?_
      refine z_if_ne C 59 d_Bus_play_46 (by decide) (fun h46 => ?_) (fun h46 => ?_)
      · refine z_aload_n C d_Bus_play_59 rfl 0 rfl ?_
        refine gB_Bus_bag C d_Bus_play_60 tw_237  ?_
        refine z_aload_n C d_Bus_play_63 rfl 0 rfl ?_
        refine gB_Bus_clock C d_Bus_play_64 tw_239  ?_
        refine z_iload_n C d_Bus_play_67 rfl 1 rfl ?_
        refine zf_Vv C d_Bus_play_68 (c_Bag_start l D ca b σ (σ.1 1 0 0 0) s) tw_634 tw_635 tw_636 tw_2 tw_637 pd_Bag_start ⟨⟨by decide, by decide⟩, rfl, rfl, by decide, by decide⟩ (by omega) rfl (eB_Bag ) rfl (Nat.le_of_ble_eq_true rfl) rfl ?_
        refine z_aload_n C d_Bus_play_71 rfl 0 rfl ?_
        refine gB_Bus_bag C d_Bus_play_72 tw_237  ?_
        refine gB_Bag_size C d_Bus_play_75 tw_49  ?_
        exact hret _ _ _ _ d_Bus_play_78 (by simp [playF, bSt10, *])
      · exact hthr _ _ _ _ 241 _ 2 "the bag is empty" _ XC_UNS (List.mem_of_getElem? (i := 18) rfl) (Or.inl ⟨d_Bus_play_53, rfl⟩) d_Bus_play_49 d_Bus_play_52 d_Bus_play_55 d_Bus_play_58 (by simp [playF, bSt10, *])
    · exact hthr _ _ _ _ 236 _ 2 "the bag is playing" _ XC_ISE (List.mem_of_getElem? (i := 17) rfl) (Or.inl ⟨d_Bus_play_33, rfl⟩) d_Bus_play_29 d_Bus_play_32 d_Bus_play_35 d_Bus_play_38 (by simp [playF, bSt10, *])
  · exact hthr _ _ _ _ 231 _ 2 "no such speed" _ XC_IAE (List.mem_of_getElem? (i := 16) rfl) (Or.inl ⟨d_Bus_play_13, rfl⟩) d_Bus_play_9 d_Bus_play_12 d_Bus_play_15 d_Bus_play_18 (by simp [playF, bSt10, *])
set_option maxRecDepth 100000 in
set_option maxHeartbeats 4000000 in
/-- Bus_count -/
theorem c_Bus_count (l : Launch) (hl : l.stackTraces = false) (D : va_G) (ca : Nat → ClassId) (b : Nat) (σ : Sg) (w : Int32) : CtX l D ca b y_Bus_count w_Bus_count (rmX 6 82) σ [.ref (b + 0), .int w] (fun r σ' => r = (countF σ w).1 ∧ σ' = (countF σ w).2) := by
  refine cx_i "RobotBus" [(0, .ref (b + 0)), (1, .int w)] hl (by decide) rfl rfl (Nat.le_of_ble_eq_true rfl) rfl ⟨by decide, by decide, by decide, by decide⟩ (fun X C hret hthr => ?_)
  refine z_iload_n C d_Bus_count_0 rfl 1 rfl ?_
  by_cases q1_0 : w = 0
  · refine z_ri q1_0 ?_
    refine z_tableIn C 44 d_Bus_count_1 (off := 43) (by decide) (by decide) (by decide) (by decide) ?_
    refine z_aload_n C d_Bus_count_44 rfl 0 rfl ?_
    refine gB_Bus_clock C d_Bus_count_45 tw_239  ?_
    exact hret _ _ _ _ d_Bus_count_48 (by simp [countF, *])
  by_cases q1_1 : w = 1
  · refine z_ri q1_1 ?_
    refine z_tableIn C 49 d_Bus_count_1 (off := 48) (by decide) (by decide) (by decide) (by decide) ?_
    refine z_aload_n C d_Bus_count_49 rfl 0 rfl ?_
    refine gB_Bus_messagesLost C d_Bus_count_50 tw_240  ?_
    exact hret _ _ _ _ d_Bus_count_53 (by simp [countF, *])
  by_cases q1_2 : w = 2
  · refine z_ri q1_2 ?_
    refine z_tableIn C 54 d_Bus_count_1 (off := 53) (by decide) (by decide) (by decide) (by decide) ?_
    refine z_aload_n C d_Bus_count_54 rfl 0 rfl ?_
    refine gB_Bus_messagesPublished C d_Bus_count_55 tw_241  ?_
    exact hret _ _ _ _ d_Bus_count_58 (by simp [countF, *])
  by_cases q1_3 : w = 3
  · refine z_ri q1_3 ?_
    refine z_tableIn C 59 d_Bus_count_1 (off := 58) (by decide) (by decide) (by decide) (by decide) ?_
    refine z_aload_n C d_Bus_count_59 rfl 0 rfl ?_
    refine gB_Bus_bag C d_Bus_count_60 tw_237  ?_
    refine gB_Bag_size C d_Bus_count_63 tw_49  ?_
    exact hret _ _ _ _ d_Bus_count_66 (by simp [countF, *])
  by_cases q1_4 : w = 4
  · refine z_ri q1_4 ?_
    refine z_tableIn C 67 d_Bus_count_1 (off := 66) (by decide) (by decide) (by decide) (by decide) ?_
    refine z_aload_n C d_Bus_count_67 rfl 0 rfl ?_
    refine gB_Bus_bag C d_Bus_count_68 tw_237  ?_
    refine zf_Vi C d_Bus_count_71 (c_Bag_isPlaying l D ca b σ) tw_616 tw_553 tw_554 tw_2 tw_555 pd_Bag_isPlaying ⟨⟨by decide, by decide⟩, rfl, rfl, by decide, by decide⟩ (by omega) rfl (eB_Bag ) rfl (Nat.le_of_ble_eq_true rfl) rfl ?_
    refine z_if_eq C 81 d_Bus_count_74 (by decide) (fun h74 => ?_) (fun h74 => ?_)
    · refine z_iconst C (v := 0) d_Bus_count_81 (by decide) ?_
      exact hret _ _ _ _ d_Bus_count_82 (by simp [countF, *])
    · refine z_iconst C (v := 1) d_Bus_count_77 (by decide) ?_
      refine z_goto C 82 d_Bus_count_78 (by decide) ?_
      exact hret _ _ _ _ d_Bus_count_82 (by simp [countF, *])
  by_cases q1_5 : w = 5
  · refine z_ri q1_5 ?_
    refine z_tableIn C 83 d_Bus_count_1 (off := 82) (by decide) (by decide) (by decide) (by decide) ?_
    refine z_aload_n C d_Bus_count_83 rfl 0 rfl ?_
    refine gB_Bus_actionsDone C d_Bus_count_84 tw_242  ?_
    exact hret _ _ _ _ d_Bus_count_87 (by simp [countF, *])
  by_cases q1_6 : w = 6
  · refine z_ri q1_6 ?_
    refine z_tableIn C 88 d_Bus_count_1 (off := 87) (by decide) (by decide) (by decide) (by decide) ?_
    refine z_aload_n C d_Bus_count_88 rfl 0 rfl ?_
    refine gB_Bus_asksFailed C d_Bus_count_89 tw_243  ?_
    exact hret _ _ _ _ d_Bus_count_92 (by simp [countF, *])
  refine z_tableOut C 93 d_Bus_count_1 (by have e0 := lv_neT q1_0 (a := 0) (by decide); have e1 := lv_neT q1_1 (a := 1) (by decide); have e2 := lv_neT q1_2 (a := 2) (by decide); have e3 := lv_neT q1_3 (a := 3) (by decide); have e4 := lv_neT q1_4 (a := 4) (by decide); have e5 := lv_neT q1_5 (a := 5) (by decide); have e6 := lv_neT q1_6 (a := 6) (by decide); omega) (by decide) ?_
  exact hthr _ _ _ _ 297 _ 3 "nothing is counted under that number" _ XC_IAE (List.mem_of_getElem? (i := 27) rfl) (Or.inr ⟨d_Bus_count_97, rfl⟩) d_Bus_count_93 d_Bus_count_96 d_Bus_count_100 d_Bus_count_103 (by simp [countF, *])
set_option maxRecDepth 100000 in
set_option maxHeartbeats 4000000 in
/-- Bus_publish -/
theorem c_Bus_publish (l : Launch) (hl : l.stackTraces = false) (D : va_G) (ca : Nat → ClassId) (b : Nat) (σ : Sg) (x y v : Int32) (hB : BI σ) : CtX l D ca b y_Bus_publish w_Bus_publish (rmX 6 90) σ [.ref (b + 0), .int x, .int y, .int v] (fun r σ' => r = (publF σ x y v).1 ∧ σ' = (publF σ x y v).2) := by
  refine cx_i "RobotBus" [(0, .ref (b + 0)), (1, .int x), (2, .int y), (3, .int v)] hl (by decide) rfl rfl (Nat.le_of_ble_eq_true rfl) rfl ⟨by decide, by decide, by decide, by decide⟩ (fun X C hret hthr => ?_)
  refine z_aload_n C d_Bus_publish_0 rfl 0 rfl ?_
  refine z_iload_n C d_Bus_publish_1 rfl 1 rfl ?_
  refine zf_Vi C d_Bus_publish_2 (c_Bus_isThere l D ca b σ x) tw_383 tw_385 tp_Bus_isThere tw_1 tw_386 pd_Bus_isThere ⟨⟨by decide, by decide⟩, rfl, rfl, by decide, by decide⟩ (by omega) rfl (eB_Bus ) rfl (Nat.le_of_ble_eq_true rfl) rfl ?_
  refine z_if_ne C 18 d_Bus_publish_5 (by decide) (fun h5 => ?_) (fun h5 => ?_)
  · obtain ⟨j, hj, rfl, hpj⟩ := isTh_nat h5
    have hcj : (nI j).toNatClampNeg = j := nI_clamp (by omega)
    refine z_iload_n C d_Bus_publish_18 rfl 2 rfl ?_
    refine z_bipush C (v := 6) d_Bus_publish_19 (by decide) ?_
    refine zf_Si C d_Bus_publish_21 (c_Bus_isBelow l D ca b σ y 6) tw_286 tw_287 tw_1 tw_288 pd_Bus_isBelow ⟨⟨by decide, by decide⟩, rfl, rfl, by decide, by decide⟩ (Nat.le_of_ble_eq_true rfl) rfl ?_
    refine z_if_ne C 37 d_Bus_publish_24 (by decide) (fun h24 => ?_) (fun h24 => ?_)
    · obtain ⟨t, ht, rfl⟩ := bel_nat (n := 6) (by decide) h24
      have hct : (nI t).toNatClampNeg = t := nI_clamp (by omega)
      refine z_aload_n C d_Bus_publish_37 rfl 0 rfl ?_
      refine z_iload_n C d_Bus_publish_38 rfl 2 rfl ?_
      refine z_iload_n C d_Bus_publish_39 rfl 3 rfl ?_
      refine z_iload_n C d_Bus_publish_40 rfl 1 rfl ?_
      refine zf_Vi C d_Bus_publish_41 (c_Bus_send l D ca b σ ht v (nI j) hB.1 hB.2.1) tw_468 tw_470 tp_Bus_send tw_1 tw_471 pd_Bus_send ⟨⟨by decide, by decide⟩, rfl, rfl, by decide, by decide⟩ (by omega) rfl (eB_Bus ) rfl (Nat.le_of_ble_eq_true rfl) rfl ?_
      exact hret _ _ _ _ d_Bus_publish_44 (by simp [publF, *])
    · exact hthr _ _ _ _ 110 _ 2 "no such topic" _ XC_IAE (List.mem_of_getElem? (i := 3) rfl) (Or.inl ⟨d_Bus_publish_31, rfl⟩) d_Bus_publish_27 d_Bus_publish_30 d_Bus_publish_33 d_Bus_publish_36 (by simp [publF, *])
  · exact hthr _ _ _ _ 100 _ 2 "no such node" _ XC_NSE (List.mem_of_getElem? (i := 2) rfl) (Or.inl ⟨d_Bus_publish_12, rfl⟩) d_Bus_publish_8 d_Bus_publish_11 d_Bus_publish_14 d_Bus_publish_17 (by simp [publF, *])
set_option maxRecDepth 100000 in
set_option maxHeartbeats 4000000 in
/-- Bus_call -/
theorem c_Bus_call (l : Launch) (hl : l.stackTraces = false) (D : va_G) (ca : Nat → ClassId) (b : Nat) (σ : Sg) (z q : Int32) (hB : BI σ) : CtX l D ca b y_Bus_call w_Bus_call (rmX 6 82) σ [.ref (b + 0), .int z, .int q] (fun r σ' => r = (callF σ z q).1 ∧ σ' = (callF σ z q).2) := by
  refine cx_i "RobotBus" [(0, .ref (b + 0)), (1, .int z), (2, .int q)] hl (by decide) rfl rfl (Nat.le_of_ble_eq_true rfl) rfl ⟨by decide, by decide, by decide, by decide⟩ (fun X C hret hthr => ?_)
  refine z_iload_n C d_Bus_call_0 rfl 1 rfl ?_
  refine z_iconst C (v := 4) d_Bus_call_1 (by decide) ?_
  refine zf_Si C d_Bus_call_2 (c_Bus_isBelow l D ca b σ z 4) tw_286 tw_287 tw_1 tw_288 pd_Bus_isBelow ⟨⟨by decide, by decide⟩, rfl, rfl, by decide, by decide⟩ (Nat.le_of_ble_eq_true rfl) rfl ?_
  refine z_if_ne C 18 d_Bus_call_5 (by decide) (fun h5 => ?_) (fun h5 => ?_)
  · obtain ⟨s, hs, rfl⟩ := bel_nat (n := 4) (by decide) h5
    have hcs : (nI s).toNatClampNeg = s := nI_clamp (by omega)
    refine z_aload_n C d_Bus_call_18 rfl 0 rfl ?_
    refine z_iload_n C d_Bus_call_19 rfl 1 rfl ?_
    refine z_iload_n C d_Bus_call_20 rfl 2 rfl ?_
    refine zf_Vi C d_Bus_call_21 (c_Bus_ask l D ca b σ hs q hB.2.2.1) tw_511 tw_513 tp_Bus_ask tw_1 tw_514 pd_Bus_ask ⟨⟨by decide, by decide⟩, rfl, rfl, by decide, by decide⟩ (by omega) rfl (eB_Bus ) rfl (Nat.le_of_ble_eq_true rfl) rfl ?_
    refine z_istore_n C d_Bus_call_24 rfl (by decide) [(3, .int (askF σ s q).2), (0, .ref (b + 0)), (1, .int (nI s)), (2, .int q)] rfl ?_
    refine z_iload_n C d_Bus_call_25 rfl 0 rfl ?_
    refine z_iconst C (v := 1) d_Bus_call_26 (by decide) ?_
    refine z_icmp_ne C 40 d_Bus_call_27 (by decide) (fun h27 => ?_) (fun h27 => ?_)
    · refine z_iload_n C d_Bus_call_40 rfl 0 rfl ?_
      refine z_iconst C (v := 2) d_Bus_call_41 (by decide) ?_
      refine z_icmp_ne C 55 d_Bus_call_42 (by decide) (fun h42 => ?_) (fun h42 => ?_)
      · refine z_aload_n C d_Bus_call_55 rfl 1 rfl ?_
        refine gB_Bus_answer C d_Bus_call_56 tw_244  ?_
        exact hret _ _ _ _ d_Bus_call_59 (by simp [callF, *])
      · exact hthr _ _ _ _ 205 _ 2 "the service would divide by 0" _ XC_ARI (List.mem_of_getElem? (i := 10) rfl) (Or.inl ⟨d_Bus_call_49, rfl⟩) d_Bus_call_45 d_Bus_call_48 d_Bus_call_51 d_Bus_call_54 (by simp [callF, *])
    · exact hthr _ _ _ _ 201 _ 2 "none offers the service, or one that it asks" _ XC_NSE (List.mem_of_getElem? (i := 9) rfl) (Or.inl ⟨d_Bus_call_34, rfl⟩) d_Bus_call_30 d_Bus_call_33 d_Bus_call_36 d_Bus_call_39 (by simp [callF, *])
  · exact hthr _ _ _ _ 195 _ 2 "no such service" _ XC_IAE (List.mem_of_getElem? (i := 8) rfl) (Or.inl ⟨d_Bus_call_12, rfl⟩) d_Bus_call_8 d_Bus_call_11 d_Bus_call_14 d_Bus_call_17 (by simp [callF, *])
set_option maxRecDepth 100000 in
set_option maxHeartbeats 4000000 in
/-- Bus_queued -/
theorem c_Bus_queued (l : Launch) (hl : l.stackTraces = false) (D : va_G) (ca : Nat → ClassId) (b : Nat) (σ : Sg) (x y p q : Int32) (hB : BI σ) : CtX l D ca b y_Bus_queued w_Bus_queued (rmX 6 82) σ [.ref (b + 0), .int x, .int y, .int p, .int q] (fun r σ' => r = (queuF σ x y p q).1 ∧ σ' = (queuF σ x y p q).2) := by
  refine cx_i "RobotBus" [(0, .ref (b + 0)), (1, .int x), (2, .int y), (3, .int p), (4, .int q)] hl (by decide) rfl rfl (Nat.le_of_ble_eq_true rfl) rfl ⟨by decide, by decide, by decide, by decide⟩ (fun X C hret hthr => ?_)
  refine z_aload_n C d_Bus_queued_0 rfl 0 rfl ?_
  refine z_iload_n C d_Bus_queued_1 rfl 1 rfl ?_
  refine zf_Vi C d_Bus_queued_2 (c_Bus_isThere l D ca b σ x) tw_383 tw_385 tp_Bus_isThere tw_1 tw_386 pd_Bus_isThere ⟨⟨by decide, by decide⟩, rfl, rfl, by decide, by decide⟩ (by omega) rfl (eB_Bus ) rfl (Nat.le_of_ble_eq_true rfl) rfl ?_
  refine z_if_eq C 17 d_Bus_queued_5 (by decide) (fun h5 => ?_) (fun h5 => ?_)
  · exact hthr _ _ _ _ 219 _ 2 "no such node or queue" _ XC_NSE (List.mem_of_getElem? (i := 13) rfl) (Or.inl ⟨d_Bus_queued_21, rfl⟩) d_Bus_queued_17 d_Bus_queued_20 d_Bus_queued_23 d_Bus_queued_26 (by simp [queuF, *])
  · obtain ⟨j, hj, rfl, hpj⟩ := isTh_nat h5
    have hcj : (nI j).toNatClampNeg = j := nI_clamp (by omega)
    refine z_iload_n C d_Bus_queued_8 rfl 2 rfl ?_
    refine z_bipush C (v := 6) d_Bus_queued_9 (by decide) ?_
    refine zf_Si C d_Bus_queued_11 (c_Bus_isBelow l D ca b σ y 6) tw_286 tw_287 tw_1 tw_288 pd_Bus_isBelow ⟨⟨by decide, by decide⟩, rfl, rfl, by decide, by decide⟩ (Nat.le_of_ble_eq_true rfl) rfl ?_
    refine z_if_ne C 27 d_Bus_queued_14 (by decide) (fun h14 => ?_) (fun h14 => ?_)
    · obtain ⟨t, ht, rfl⟩ := bel_nat (n := 6) (by decide) h14
      have hct : (nI t).toNatClampNeg = t := nI_clamp (by omega)
      refine z_aload_n C d_Bus_queued_27 rfl 0 rfl ?_
      refine gB_Bus_nodes C d_Bus_queued_28 tw_233  ?_
      refine z_iload_n C d_Bus_queued_31 rfl 1 rfl ?_
      refine rB_nods C (j := j) d_Bus_queued_32  rfl hj ?_
      refine gB_Nod_queues C d_Bus_queued_33 tw_135 hj ?_
      refine z_iload_n C d_Bus_queued_36 rfl 2 rfl ?_
      refine rB_ques C (j := t) d_Bus_queued_37 hj rfl ht ?_
      refine z_astore C d_Bus_queued_38 (by decide) [(5, .ref (b + (14 + 22 * j + 3 * t))), (0, .ref (b + 0)), (1, .int (nI j)), (2, .int (nI t)), (3, .int p), (4, .int q)] rfl ?_
      refine z_iload_n C d_Bus_queued_40 rfl 4 rfl ?_
      refine z_aload C d_Bus_queued_41 0 rfl ?_
      refine gB_Que_size C d_Bus_queued_43 tw_105 hj ht ?_
      refine zf_Si C d_Bus_queued_46 (c_Bus_isBelow l D ca b σ p (σ.1 34 j t 0)) tw_286 tw_287 tw_1 tw_288 pd_Bus_isBelow ⟨⟨by decide, by decide⟩, rfl, rfl, by decide, by decide⟩ (Nat.le_of_ble_eq_true rfl) rfl ?_
      refine z_if_ne C 62 d_Bus_queued_49 (by decide) (fun h49 => ?_) (fun h49 => ?_)
      · have hQ := hB.1 j t hj ht
        have hX := h49
        rw [hQ.1] at hX
        obtain ⟨k, hk, rfl⟩ := bel_nat (n := qsz σ j t) (by omega) hX
        have hck : (nI k).toNatClampNeg = k := nI_clamp (by omega)
        have hk4 : k < 4 := by omega
        refine z_iload C d_Bus_queued_62 5 rfl ?_
        refine z_iconst C (v := 3) d_Bus_queued_64 (by decide) ?_
        refine zf_Si C d_Bus_queued_65 (c_Bus_isBelow l D ca b σ q 3) tw_286 tw_287 tw_1 tw_288 pd_Bus_isBelow ⟨⟨by decide, by decide⟩, rfl, rfl, by decide, by decide⟩ (Nat.le_of_ble_eq_true rfl) rfl ?_
        refine z_if_ne C 81 d_Bus_queued_68 (by decide) (fun h68 => ?_) (fun h68 => ?_)
        · obtain ⟨w, hw, rfl⟩ := bel_nat (n := 3) (by decide) h68
          have hcw : (nI w).toNatClampNeg = w := nI_clamp (by omega)
          refine z_aload C d_Bus_queued_81 0 rfl ?_
          refine z_iload_n C d_Bus_queued_83 rfl 4 rfl ?_
          refine z_iload C d_Bus_queued_84 5 rfl ?_
          refine zf_Vi C d_Bus_queued_86 (c_Que_part l D ca b σ hj ht hk4 hw) tw_599 tw_573 tw_574 tw_5 tw_575 pd_Que_part ⟨⟨by decide, by decide⟩, rfl, rfl, by decide, by decide⟩ (by omega) rfl (eB_Que hj ht) rfl (Nat.le_of_ble_eq_true rfl) rfl ?_
          exact hret _ _ _ _ d_Bus_queued_89 (by simp [queuF, *])
        · exact hthr _ _ _ _ 223 _ 2 "no such part of a message" _ XC_IAE (List.mem_of_getElem? (i := 15) rfl) (Or.inl ⟨d_Bus_queued_75, rfl⟩) d_Bus_queued_71 d_Bus_queued_74 d_Bus_queued_77 d_Bus_queued_80 (by simp [queuF, *])
      · exact hthr _ _ _ _ 221 _ 2 "no such message" _ XC_NSE (List.mem_of_getElem? (i := 14) rfl) (Or.inl ⟨d_Bus_queued_56, rfl⟩) d_Bus_queued_52 d_Bus_queued_55 d_Bus_queued_58 d_Bus_queued_61 (by simp [queuF, *])
    · exact hthr _ _ _ _ 219 _ 2 "no such node or queue" _ XC_NSE (List.mem_of_getElem? (i := 13) rfl) (Or.inl ⟨d_Bus_queued_21, rfl⟩) d_Bus_queued_17 d_Bus_queued_20 d_Bus_queued_23 d_Bus_queued_26 (by simp [queuF, *])
