/-! The bus' own questions -/
def bel (x m : Int32) : Int32 := if x < 0 then 0 else if m ≤ x then 0 else 1
def wit (x lo hi : Int32) : Int32 := if x < lo then 0 else if hi < x then 0 else 1
theorem bel_01 (x m : Int32) : bel x m = 0 ∨ bel x m = 1 := by unfold bel; split <;> first | exact Or.inl rfl | (split <;> first | exact Or.inl rfl | exact Or.inr rfl)
theorem wit_01 (x lo hi : Int32) : wit x lo hi = 0 ∨ wit x lo hi = 1 := by unfold wit; split <;> first | exact Or.inl rfl | (split <;> first | exact Or.inl rfl | exact Or.inr rfl)
theorem bel_nat {x : Int32} {n : Nat} (hn : n < 2 ^ 31) (h : ¬ bel x (nI n) = 0) : ∃ k, k < n ∧ x = nI k := by
  unfold bel at h
  by_cases h1 : x < 0
  · simp [h1] at h
  · by_cases h2 : nI n ≤ x
    · simp [h1, h2] at h
    · rcases pk_ix x hn with q | q | q
      · exact absurd q h1
      · exact absurd q h2
      · exact q
theorem bel_in {k n : Nat} (hk : k < n) (hn : n < 2 ^ 31) : bel (nI k) (nI n) = 1 := by
  unfold bel
  rw [if_neg (nI_pos (by omega)), if_neg (nI_ge hk hn)]
set_option maxRecDepth 100000 in
set_option maxHeartbeats 4000000 in
/-- isBelow -/
theorem c_Bus_isBelow (l : Launch) (D : va_G) (ca : Nat → ClassId) (b : Nat) (σ : Sg) {n : Nat} {S : List Cee} (x m : Int32) : CtI l D ca S b n y_Bus_isBelow w_Bus_isBelow (rmN 0 0) σ [.int x, .int m] (fun r σ' => r = bel x m ∧ σ' = σ) := by
  refine ct_z "RobotBus" [(0, .int x), (1, .int m)] (by decide) rfl (Nat.le_of_ble_eq_true rfl) rfl (fun X C hret => ?_)
  refine z_iload_n C d_Bus_isBelow_0 rfl 0 rfl ?_
  refine z_if_lt C 13 d_Bus_isBelow_1 (by decide) (fun h1 => ?_) (fun h1 => ?_)
  · refine z_iconst C (v := 0) d_Bus_isBelow_13 (by decide) ?_
    exact hret _ _ _ _ d_Bus_isBelow_14 (by decide) ⟨by simp [bel, *], rfl⟩
  · refine z_iload_n C d_Bus_isBelow_4 rfl 0 rfl ?_
    refine z_iload_n C d_Bus_isBelow_5 rfl 1 rfl ?_
    refine z_icmp_ge C 13 d_Bus_isBelow_6 (by decide) (fun h6 => ?_) (fun h6 => ?_)
    · refine z_iconst C (v := 0) d_Bus_isBelow_13 (by decide) ?_
      exact hret _ _ _ _ d_Bus_isBelow_14 (by decide) ⟨by simp [bel, *], rfl⟩
    · refine z_iconst C (v := 1) d_Bus_isBelow_9 (by decide) ?_
      refine z_goto C 14 d_Bus_isBelow_10 (by decide) ?_
      exact hret _ _ _ _ d_Bus_isBelow_14 (by decide) ⟨by simp [bel, *], rfl⟩
set_option maxRecDepth 100000 in
set_option maxHeartbeats 4000000 in
/-- isWithin -/
theorem c_Bus_isWithin (l : Launch) (D : va_G) (ca : Nat → ClassId) (b : Nat) (σ : Sg) {n : Nat} {S : List Cee} (x lo hi : Int32) : CtI l D ca S b n y_Bus_isWithin w_Bus_isWithin (rmN 0 0) σ [.int x, .int lo, .int hi] (fun r σ' => r = wit x lo hi ∧ σ' = σ) := by
  refine ct_z "RobotBus" [(0, .int x), (1, .int lo), (2, .int hi)] (by decide) rfl (Nat.le_of_ble_eq_true rfl) rfl (fun X C hret => ?_)
  refine z_iload_n C d_Bus_isWithin_0 rfl 0 rfl ?_
  refine z_iload_n C d_Bus_isWithin_1 rfl 1 rfl ?_
  refine z_icmp_lt C 14 d_Bus_isWithin_2 (by decide) (fun h2 => ?_) (fun h2 => ?_)
  · refine z_iconst C (v := 0) d_Bus_isWithin_14 (by decide) ?_
    exact hret _ _ _ _ d_Bus_isWithin_15 (by decide) ⟨by simp [wit, *], rfl⟩
  · refine z_iload_n C d_Bus_isWithin_5 rfl 0 rfl ?_
    refine z_iload_n C d_Bus_isWithin_6 rfl 2 rfl ?_
    refine z_icmp_gt C 14 d_Bus_isWithin_7 (by decide) (fun h7 => ?_) (fun h7 => ?_)
    · refine z_iconst C (v := 0) d_Bus_isWithin_14 (by decide) ?_
      exact hret _ _ _ _ d_Bus_isWithin_15 (by decide) ⟨by simp [wit, *], rfl⟩
    · refine z_iconst C (v := 1) d_Bus_isWithin_10 (by decide) ?_
      refine z_goto C 15 d_Bus_isWithin_11 (by decide) ?_
      exact hret _ _ _ _ d_Bus_isWithin_15 (by decide) ⟨by simp [wit, *], rfl⟩
def isTh (σ : Sg) (x : Int32) : Int32 := if bel x 6 = 0 then 0 else if σ.1 30 x.toNatClampNeg 0 0 = 0 then 0 else 1
set_option maxRecDepth 100000 in
set_option maxHeartbeats 4000000 in
/-- whether a node is there -/
theorem c_Bus_isThere (l : Launch) (D : va_G) (ca : Nat → ClassId) (b : Nat) (σ : Sg) (x : Int32) : CtI l D ca SB b 182 y_Bus_isThere w_Bus_isThere (rmN 1 21) σ [.ref (b + 0), .int x] (fun r σ' => r = isTh σ x ∧ σ' = σ) := by
  refine ct_z "RobotBus" [(0, .ref (b + 0)), (1, .int x)] (by decide) rfl (Nat.le_of_ble_eq_true rfl) rfl (fun X C hret => ?_)
  refine z_iload_n C d_Bus_isThere_0 rfl 1 rfl ?_
  refine z_bipush C (v := 6) d_Bus_isThere_1 (by decide) ?_
  refine zf_Si C d_Bus_isThere_3 (c_Bus_isBelow l D ca b σ x 6) tw_286 tw_287 tw_1 tw_288 pd_Bus_isBelow ⟨⟨by decide, by decide⟩, rfl, rfl, by decide, by decide⟩ (Nat.le_of_ble_eq_true rfl) rfl ?_
  refine z_if_eq C 25 d_Bus_isThere_6 (by decide) (fun h6 => ?_) (fun h6 => ?_)
  · refine z_iconst C (v := 0) d_Bus_isThere_25 (by decide) ?_
    exact hret _ _ _ _ d_Bus_isThere_26 (by decide) ⟨by simp [isTh, h6], rfl⟩
  · obtain ⟨j, hj, rfl⟩ := bel_nat (n := 6) (by decide) h6
    refine z_aload_n C d_Bus_isThere_9 rfl 0 rfl ?_
    refine gB_Bus_nodes C d_Bus_isThere_10 tw_233  ?_
    refine z_iload_n C d_Bus_isThere_13 rfl 1 rfl ?_
    refine rB_nods C (j := j) d_Bus_isThere_14  rfl hj ?_
    refine gB_Nod_present C d_Bus_isThere_15 tw_139 hj ?_
    refine z_if_eq C 25 d_Bus_isThere_18 (by decide) (fun h18 => ?_) (fun h18 => ?_)
    · refine z_iconst C (v := 0) d_Bus_isThere_25 (by decide) ?_
      exact hret _ _ _ _ d_Bus_isThere_26 (by decide) ⟨by simp [isTh, h6, h18, nI_clamp (show j < 2 ^ 31 by omega)], rfl⟩
    · refine z_iconst C (v := 1) d_Bus_isThere_21 (by decide) ?_
      refine z_goto C 26 d_Bus_isThere_22 (by decide) ?_
      exact hret _ _ _ _ d_Bus_isThere_26 (by decide) ⟨by simp [isTh, h6, h18, nI_clamp (show j < 2 ^ 31 by omega)], rfl⟩
def isAc (k a c : Int32) : Int32 := if k = -1 then 1 else if k = 0 then bel a 4 else if k = 1 then bel a 4 else if k = 2 then (if bel a 6 = 0 then 0 else if wit c (-100) 100 = 0 then 0 else 1) else if k = 3 then (if bel a 4 = 0 then 0 else if bel c 4 = 0 then 0 else 1) else if k = 4 then (if bel a 6 = 0 then 0 else if bel c 4 = 0 then 0 else 1) else 0
theorem sw_lo {x : Int32} {lo hi : Int} (h : ¬ (lo ≤ x.toInt ∧ x.toInt ≤ hi)) : x.toInt < lo ∨ hi < x.toInt := by omega
theorem sw_eq {x : Int32} (k : Int32) (h : x.toInt = k.toInt) : x = k := Int32.toInt_inj.mp h
