/-! A tick -/
def plS (σ : Sg) : Sg := sSend (us σ 11 0 0 (σ.1 11 0 0 0 + 1)) (bto σ (bnx σ)) (σ.1 17 0 0 (bnx σ)) (-1)
def plL : Nat → Sg → Sg
  | 0, σ => σ
  | m + 1, σ => if bDue σ (σ.1 1 0 0 0) (bnx σ) = 0 then σ else plL m (plS σ)
def spL : Nat → Nat → Sg → Sg
  | 0, _, σ => σ
  | m + 1, k, σ => if σ.1 30 k 0 0 = 0 then spL m (k + 1) σ else spL m (k + 1) (spn σ k)
def tickF (σ : Sg) : Sg := spL 6 0 (plL 30 (us σ 1 0 0 (σ.1 1 0 0 0 + 1)))
theorem due_lt {σ : Sg} {c : Int32} (hG : GI σ) (h : ¬ bDue σ c (bnx σ) = 0) : bnx σ < ben σ := by
  obtain ⟨g1, g2, g3, g4, -⟩ := hG
  rcases Nat.lt_or_ge (bnx σ) (ben σ) with h1 | h1
  · exact h1
  · exfalso
    apply h
    unfold bDue
    rw [g1, g2, if_pos (nI_le h1 (by omega))]
theorem play_lt {σ : Sg} (hG : GI σ) (h : ¬ σ.1 12 0 0 0 ≤ σ.1 11 0 0 0) : bnx σ < 30 := by
  obtain ⟨g1, g2, g3, g4, -⟩ := hG
  rcases Nat.lt_or_ge (bnx σ) (ben σ) with h1 | h1
  · omega
  · exact absurd (by rw [g1, g2]; exact nI_le h1 (by omega)) h
theorem pace_ne {σ : Sg} (hG : GI σ) : ¬ σ.1 14 0 0 0 = 0 := by
  intro h
  have := hG.2.2.2.2.2.1.1
  rw [h] at this
  exact absurd this (by decide)
theorem next_BI {σ : Sg} (hB : BI σ) (h : bnx σ < ben σ) : BI (us σ 11 0 0 (σ.1 11 0 0 0 + 1)) := by
  obtain ⟨h1, h2, h3, h4, h5, h6⟩ := hB
  have e : ∀ f i t, f ≠ 11 → (us σ 11 0 0 (σ.1 11 0 0 0 + 1)).1 f i t = σ.1 f i t := fun f i t a => us_ne (by simp; intro q; exact absurd q a)
  refine ⟨QI_us (by decide) (by decide) h1, BZ_eq (e 10 0 0 (by decide)) h2, SI_eq (fun f i a b => e f i 0 (by omega)) h3, AI_eq (fun f i t a b => e f i t (by omega)) h4, NF_eq (fun i => e 31 i 0 (by decide)) h5, ?_⟩
  obtain ⟨g1, g2, g3, g4, g5, g6, g7⟩ := h6
  have n0 : (us σ 11 0 0 (σ.1 11 0 0 0 + 1)).1 11 0 0 0 = nI (bnx σ + 1) := by rw [us_self, g1]; exact nI_1 _
  have n1 : bnx (us σ 11 0 0 (σ.1 11 0 0 0 + 1)) = bnx σ + 1 := by
    show ((us σ 11 0 0 (σ.1 11 0 0 0 + 1)).1 11 0 0 0).toNatClampNeg = _
    rw [n0, nI_clamp (by omega)]
  have n2 : ben (us σ 11 0 0 (σ.1 11 0 0 0 + 1)) = ben σ := by unfold ben; rw [e 12 0 0 (by decide)]
  have n3 : bsz (us σ 11 0 0 (σ.1 11 0 0 0 + 1)) = bsz σ := by unfold bsz; rw [e 10 0 0 (by decide)]
  refine ⟨by rw [n1]; exact n0, by rw [n2, e 12 0 0 (by decide)]; exact g2, by rw [n1, n2]; omega, by rw [n2]; exact g4, by rw [n1, n2, n3]; omega, by rw [e 14 0 0 (by decide)]; exact g6, ?_⟩
  intro j hj
  rw [n3] at hj
  unfold bto
  rw [e 16 0 0 (by decide)]
  exact g7 j hj
theorem plS_BI {σ : Sg} (hB : BI σ) (h : bnx σ < ben σ) : BI (plS σ) :=
  sSend_BI (hB.2.2.2.2.2.2.2.2.2.2.2 (bnx σ) (by have := hB.2.2.2.2.2.2.2.2.2.1 h; omega)).2 (next_BI hB h)
theorem plL_BI : ∀ (m : Nat) {σ : Sg}, BI σ → BI (plL m σ) := by
  intro m
  induction m with
  | zero => intro σ h; exact h
  | succ m ih =>
    intro σ h
    unfold plL
    split
    · exact h
    · rename_i q
      exact ih (plS_BI h (due_lt h.2.2.2.2.2 q))
theorem spL_BI : ∀ (m k : Nat), k + m = 6 → ∀ {σ : Sg}, BI σ → BI (spL m k σ) := by
  intro m
  induction m with
  | zero => intro k _ σ h; exact h
  | succ m ih =>
    intro k hk σ h
    unfold spL
    split
    · exact ih (k + 1) (by omega) h
    · exact ih (k + 1) (by omega) (spn_BI (by omega) h)
theorem tickF_BI {σ : Sg} (hB : BI σ) : BI (tickF σ) := spL_BI 6 0 rfl (plL_BI 30 (BI_us (by decide) hB))
set_option maxRecDepth 100000 in
set_option maxHeartbeats 4000000 in
theorem lp_Bus_tick1 (l : Launch) (D : va_G) (ca : Nat → ClassId) (b : Nat) {R : Room} {X : Zx} {y0 : MethodName} {c0 : ByteArray} {n0 : Nat} {r0 : Option FieldType} (hR : 6 ≤ R.frames ∧ 138 ≤ R.locals) (C : Cs D ca b_Bus_passOneTick 3 "RobotBus" (Cond.code y0 c0 n0 r0) X) : ∀ m k, k + m = 30 → ∀ (σ : Sg), BI σ → (∀ k', Zs l D ca SB b 182 R 3 X (plL m σ) 70 [(1, .int (nI k')), (0, .ref (b + 0))] []) → Zs l D ca SB b 182 R 3 X σ 12 [(1, .int (nI k)), (0, .ref (b + 0))] [] := by
  intro m
  induction m with
  | zero =>
    intro k hk σ hB kk
    have hk6 : k = 30 := by omega
    subst hk6
    refine z_iload_n C d_Bus_passOneTick_12 rfl 0 rfl ?_
    refine z_bipush C (v := 30) d_Bus_passOneTick_13 (by decide) ?_
    refine z_icmp_ge C 70 d_Bus_passOneTick_15 (by decide) (fun h15 => ?_) (fun h15 => False.elim (h15 (by decide)))
    exact kk 30
  | succ m ih =>
    intro k hk σ hB kk
    have hG := hB.2.2.2.2.2
    refine z_iload_n C d_Bus_passOneTick_12 rfl 0 rfl ?_
    refine z_bipush C (v := 30) d_Bus_passOneTick_13 (by decide) ?_
    refine z_icmp_ge C 70 d_Bus_passOneTick_15 (by decide) (fun h15 => False.elim (nI_ge (a := k) (b := 30) (by omega) (by decide) h15)) (fun h15 => ?_)
    refine z_aload_n C d_Bus_passOneTick_18 rfl 1 rfl ?_
    refine gB_Bus_bag C d_Bus_passOneTick_19 tw_237  ?_
    refine z_aload_n C d_Bus_passOneTick_22 rfl 1 rfl ?_
    refine gB_Bus_clock C d_Bus_passOneTick_23 tw_239  ?_
    refine zf_Vi C d_Bus_passOneTick_26 (c_Bag_isDue l D ca b σ (σ.1 1 0 0 0) hG.1 (play_lt hG) (pace_ne hG)) tw_548 tw_549 tw_550 tw_2 tw_551 pd_Bag_isDue ⟨⟨Nat.le_trans (by decide) hR.1, Nat.le_trans (by decide) hR.2⟩, rfl, rfl, Nat.zero_le _, Nat.zero_le _⟩ (by omega) rfl (eB_Bag ) rfl (Nat.le_of_ble_eq_true rfl) rfl ?_
    refine z_if_eq C 70 d_Bus_passOneTick_29 (by decide) (fun h29 => ?_) (fun h29 => ?_)
    · rw [plL, if_pos h29] at kk
      exact kk k
    · rw [plL, if_neg h29] at kk
      have hlt := due_lt hG h29
      have hle := hG.2.2.2.2.1 hlt
      have hB1 := next_BI hB hlt
      have ht9 := hG.2.2.2.2.2.2 (bnx σ) (by omega)
      have h30 : bnx σ < 30 := by have := hG.2.2.2.1; omega
      refine z_aload_n C d_Bus_passOneTick_32 rfl 1 rfl ?_
      refine gB_Bus_bag C d_Bus_passOneTick_33 tw_237  ?_
      refine zf_Vi C d_Bus_passOneTick_36 (c_Bag_takeNext l D ca b σ) tw_556 tw_557 tw_558 tw_2 tw_559 pd_Bag_takeNext ⟨⟨Nat.le_trans (by decide) hR.1, Nat.le_trans (by decide) hR.2⟩, rfl, rfl, Nat.zero_le _, Nat.zero_le _⟩ (by omega) rfl (eB_Bag ) rfl (Nat.le_of_ble_eq_true rfl) rfl ?_
      refine z_ri (x' := nI (bnx σ)) hG.1 ?_
      refine z_istore_n C d_Bus_passOneTick_39 rfl (by decide) [(2, .int (nI (bnx σ))), (1, .int (nI k)), (0, .ref (b + 0))] rfl ?_
      refine z_aload_n C d_Bus_passOneTick_40 rfl 2 rfl ?_
      refine z_aload_n C d_Bus_passOneTick_41 rfl 2 rfl ?_
      refine gB_Bus_bag C d_Bus_passOneTick_42 tw_237  ?_
      refine gB_Bag_topics C d_Bus_passOneTick_45 tw_45  ?_
      refine z_iload_n C d_Bus_passOneTick_48 rfl 0 rfl ?_
      refine lB_bagO C (q := (bnx σ)) d_Bus_passOneTick_49  rfl h30 ?_
      refine z_ri (x' := nI (bto σ (bnx σ))) (by rw [us_ne (by decide)]; exact ht9.1) ?_
      refine z_aload_n C d_Bus_passOneTick_50 rfl 2 rfl ?_
      refine gB_Bus_bag C d_Bus_passOneTick_51 tw_237  ?_
      refine gB_Bag_values C d_Bus_passOneTick_54 tw_47  ?_
      refine z_iload_n C d_Bus_passOneTick_57 rfl 0 rfl ?_
      refine lB_bagV C (q := (bnx σ)) d_Bus_passOneTick_58  rfl h30 ?_
      refine z_ri (x' := σ.1 17 0 0 (bnx σ)) (by rw [us_ne (by decide)]) ?_
      refine z_iconst C (v := -1) d_Bus_passOneTick_59 (by decide) ?_
      refine zf_Vi C d_Bus_passOneTick_60 (c_Bus_send l D ca b (us σ 11 0 0 (σ.1 11 0 0 0 + 1)) ht9.2 (σ.1 17 0 0 (bnx σ)) (-1) hB1.1 hB1.2.1) tw_468 tw_470 tp_Bus_send tw_1 tw_471 pd_Bus_send ⟨⟨Nat.le_trans (by decide) hR.1, Nat.le_trans (by decide) hR.2⟩, rfl, rfl, Nat.zero_le _, Nat.zero_le _⟩ (by omega) rfl (eB_Bus ) rfl (Nat.le_of_ble_eq_true rfl) rfl ?_
      refine z_pop C d_Bus_passOneTick_63 rfl ?_
      refine z_iinc C d_Bus_passOneTick_64 1 rfl (v := (nI (k + 1))) (by rw [← nI_1]; rfl) (by decide) [(1, .int (nI (k + 1))), (2, .int (nI (bnx σ))), (0, .ref (b + 0))] rfl ?_
      refine z_goto C 12 d_Bus_passOneTick_67 (by decide) ?_
      refine z_loc [0, 2] rfl ?_
      exact ih (k + 1) (by omega) _ (plS_BI hB hlt) kk
set_option maxRecDepth 100000 in
set_option maxHeartbeats 4000000 in
theorem lp_Bus_tick2 (l : Launch) (D : va_G) (ca : Nat → ClassId) (b : Nat) {R : Room} {X : Zx} {y0 : MethodName} {c0 : ByteArray} {n0 : Nat} {r0 : Option FieldType} (hR : 6 ≤ R.frames ∧ 138 ≤ R.locals) (C : Cs D ca b_Bus_passOneTick 3 "RobotBus" (Cond.code y0 c0 n0 r0) X) : ∀ m k, k + m = 6 → ∀ (σ : Sg), BI σ → (∀ k', Zs l D ca SB b 182 R 3 X (spL m k σ) 101 [(1, .int (nI k')), (0, .ref (b + 0))] []) → Zs l D ca SB b 182 R 3 X σ 72 [(1, .int (nI k)), (0, .ref (b + 0))] [] := by
  intro m
  induction m with
  | zero =>
    intro k hk σ hB kk
    have hk6 : k = 6 := by omega
    subst hk6
    refine z_iload_n C d_Bus_passOneTick_72 rfl 0 rfl ?_
    refine z_bipush C (v := 6) d_Bus_passOneTick_73 (by decide) ?_
    refine z_icmp_ge C 101 d_Bus_passOneTick_75 (by decide) (fun h75 => ?_) (fun h75 => False.elim (h75 (by decide)))
    exact kk 6
  | succ m ih =>
    intro k hk σ hB kk
    have hk6 : k < 6 := by omega
    refine z_iload_n C d_Bus_passOneTick_72 rfl 0 rfl ?_
    refine z_bipush C (v := 6) d_Bus_passOneTick_73 (by decide) ?_
    refine z_icmp_ge C 101 d_Bus_passOneTick_75 (by decide) (fun h75 => False.elim (nI_ge (a := k) (b := 6) (by omega) (by decide) h75)) (fun h75 => ?_)
    refine z_aload_n C d_Bus_passOneTick_78 rfl 1 rfl ?_
    refine gB_Bus_nodes C d_Bus_passOneTick_79 tw_233  ?_
    refine z_iload_n C d_Bus_passOneTick_82 rfl 0 rfl ?_
    refine rB_nods C (j := k) d_Bus_passOneTick_83  rfl hk6 ?_
    refine gB_Nod_present C d_Bus_passOneTick_84 tw_139 hk6 ?_
    refine z_if_eq C 95 d_Bus_passOneTick_87 (by decide) (fun h87 => ?_) (fun h87 => ?_)
    · rw [spL, if_pos h87] at kk
      refine z_iinc C d_Bus_passOneTick_95 0 rfl (v := (nI (k + 1))) (by rw [← nI_1]; rfl) (by decide) [(1, .int (nI (k + 1))), (0, .ref (b + 0))] rfl ?_
      refine z_goto C 72 d_Bus_passOneTick_98 (by decide) ?_
      exact ih (k + 1) (by omega) _ hB kk
    · rw [spL, if_neg h87] at kk
      refine z_aload_n C d_Bus_passOneTick_90 rfl 1 rfl ?_
      refine z_iload_n C d_Bus_passOneTick_91 rfl 0 rfl ?_
      refine zf_Vv C d_Bus_passOneTick_92 (c_Bus_spin l D ca b σ hk6 hB) tw_560 tw_562 tp_Bus_spin tw_1 tw_563 pd_Bus_spin ⟨⟨hR.1, hR.2⟩, rfl, rfl, Nat.zero_le _, Nat.zero_le _⟩ (by omega) rfl (eB_Bus ) rfl (Nat.le_of_ble_eq_true rfl) rfl ?_
      refine z_iinc C d_Bus_passOneTick_95 0 rfl (v := (nI (k + 1))) (by rw [← nI_1]; rfl) (by decide) [(1, .int (nI (k + 1))), (0, .ref (b + 0))] rfl ?_
      refine z_goto C 72 d_Bus_passOneTick_98 (by decide) ?_
      exact ih (k + 1) (by omega) _ (spn_BI hk6 hB) kk
set_option maxRecDepth 100000 in
set_option maxHeartbeats 4000000 in
/-- one tick -/
theorem c_Bus_passOneTick (l : Launch) (D : va_G) (ca : Nat → ClassId) (b : Nat) (σ : Sg) (hB : BI σ) : CtV l D ca SB b 182 y_Bus_passOneTick w_Bus_passOneTick (rmN 6 138) σ [.ref (b + 0)] (fun σ' => σ' = tickF σ) := by
  refine ct_v "RobotBus" [(0, .ref (b + 0))] (by decide) rfl (Nat.le_of_ble_eq_true rfl) rfl (fun X C hret => ?_)
  refine z_aload_n C d_Bus_passOneTick_0 rfl 0 rfl ?_
  refine z_dup C d_Bus_passOneTick_1 rfl ?_
  refine gB_Bus_clock C d_Bus_passOneTick_2 tw_239  ?_
  refine z_iconst C (v := 1) d_Bus_passOneTick_5 (by decide) ?_
  refine z_iadd C d_Bus_passOneTick_6 ?_
  refine pB_Bus_clock C d_Bus_passOneTick_7 tw_239  ?_
  refine z_iconst C (v := 0) d_Bus_passOneTick_10 (by decide) ?_
  refine z_istore_n C d_Bus_passOneTick_11 rfl (by decide) [(1, .int 0), (0, .ref (b + 0))] rfl ?_
  refine lp_Bus_tick1 l D ca b ⟨by decide, by decide⟩ C 30 0 rfl _ (BI_us (by decide) hB) (fun k1 => ?_)
  refine z_iconst C (v := 0) d_Bus_passOneTick_70 (by decide) ?_
  refine z_istore_n C d_Bus_passOneTick_71 rfl (by decide) [(1, .int 0), (0, .ref (b + 0))] rfl ?_
  refine lp_Bus_tick2 l D ca b ⟨by decide, by decide⟩ C 6 0 rfl _ (plL_BI 30 (BI_us (by decide) hB)) (fun k2 => ?_)
  exact hret _ _ _ d_Bus_passOneTick_101 rfl
/-! liftToRoot -/
def fsz (σ : Sg) (i : Nat) : Nat := (σ.1 61 i 0 0).toNatClampNeg
def ftn (σ : Sg) (i k : Nat) : Nat := (σ.1 65 i 0 k).toNatClampNeg
def FI (σ : Sg) : Prop := ∀ i, i < 6 → σ.1 61 i 0 0 = nI (fsz σ i) ∧ fsz σ i ≤ 4 ∧ ∀ k, k < fsz σ i → σ.1 65 i 0 k = nI (ftn σ i k) ∧ ftn σ i k ≤ 3
theorem pLift_ne {σ : Sg} {i z k u f i' t' : Nat} {w : Int32} (h1 : f ≠ 20) (h2 : f ≠ 21) : (pLift σ i z k w u).1 f i' t' = σ.1 f i' t' := by
  unfold pLift
  rw [us_ne (by simp; intro q; exact absurd q h2), us_ne (by simp; intro q; exact absurd q h1), pTurn_ne h1 h2]
theorem FI_eq {σ σ' : Sg} (h : ∀ f i, 60 ≤ f → f ≤ 65 → σ'.1 f i 0 = σ.1 f i 0) (hF : FI σ) : FI σ' := by
  intro i hi
  unfold fsz ftn
  rw [h 61 i (by decide) (by decide), h 65 i (by decide) (by decide)]
  exact hF i hi
theorem FP_eq {σ σ' : Sg} (h : ∀ i, σ'.1 60 i 0 = σ.1 60 i 0) (hF : FP σ) : FP σ' := by
  intro i hi
  rw [h i]
  exact hF i hi
theorem abv_eq {σ σ' : Sg} (h : ∀ i, σ'.1 60 i 0 = σ.1 60 i 0) (u : Int32) : ∀ m x, abv σ' u m x = abv σ u m x := by
  intro m
  induction m with
  | zero => intro x; rfl
  | succ m ih => intro x; simp only [abv, ih, h]
theorem fIx_spec {σ : Sg} {i : Nat} {w : Int32} : ∀ (m k : Nat) (a : Int32), fIx σ i w m k a = a ∨ ∃ j, k ≤ j ∧ j < k + m ∧ fIx σ i w m k a = nI j := by
  intro m
  induction m with
  | zero => intro k a; exact Or.inl rfl
  | succ m ih =>
    intro k a
    unfold fIx
    split
    · exact Or.inl rfl
    · rcases ih (k + 1) (nI k) with h | ⟨j, h1, h2, h3⟩
      · exact Or.inr ⟨k, by omega, by omega, h⟩
      · exact Or.inr ⟨j, by omega, by omega, h3⟩
theorem fIdx_spec {σ : Sg} {i z : Nat} {w : Int32} : fIdx σ i z w = -1 ∨ ∃ j, j < z ∧ fIdx σ i z w = nI j := by
  unfold fIdx
  split
  · rcases fIx_spec (σ := σ) (i := i) (w := w) z 0 (-1) with h | ⟨j, h1, h2, h3⟩
    · exact Or.inl h
    · exact Or.inr ⟨j, by omega, h3⟩
  · exact Or.inl rfl
def lftS (σ : Sg) (p : Nat) (w : Int32) : Sg := pLift σ p (fsz σ p) (fIdx σ p (fsz σ p) w).toNatClampNeg w (ftn σ p (fIdx σ p (fsz σ p) w).toNatClampNeg)
def lft (w : Int32) : Nat → Int32 → Sg → Sg × Int32
  | 0, _, σ => (σ, 1)
  | m + 1, x, σ => if x = 0 then (σ, 1) else if fIdx σ x.toNatClampNeg (fsz σ x.toNatClampNeg) w = -1 then (σ, 0) else lft w m (σ.1 60 x.toNatClampNeg 0 0) (lftS σ x.toNatClampNeg w)
set_option maxRecDepth 100000 in
set_option maxHeartbeats 4000000 in
theorem lp_Bus_lift (l : Launch) (D : va_G) (ca : Nat → ClassId) (b : Nat) {R : Room} {X : Zx} {y0 : MethodName} {c0 : ByteArray} {n0 : Nat} {r0 : Option FieldType} (hR : 3 ≤ R.frames ∧ 74 ≤ R.locals) (C : Cs D ca b_Bus_liftToRoot 6 "RobotBus" (Cond.code y0 c0 n0 r0) X) (w y : Int32) (F : Sg × Int32) (hret : ∀ (v : Int32) (σ' : Sg) (pc : Nat) (L' : List (Nat × Value)), decode b_Bus_liftToRoot pc = .ok (.ireturn, 1) → (v = 0 ∨ v = 1) → (v = F.2 ∧ σ' = F.1) → Zs l D ca SB b 182 R 6 X σ' pc L' [.int v]) : ∀ m k, k + m = 6 → ∀ (x : Int32) (σ : Sg), FI σ → FP σ → isFr x → abv σ 0 m x = 1 → F = lft w m x σ → Zs l D ca SB b 182 R 6 X σ 5 [(4, .int (nI k)), (3, .int x), (0, .ref (b + 0)), (1, .int y), (2, .int w)] [] := by
  intro m
  induction m with
  | zero =>
    intro k hk x σ hF hP hx ha he
    exact absurd ha (by simp [abv])
  | succ m ih =>
    intro k hk x σ hF hP hx ha he
    have hx1 : ¬ x = -1 := fun q => by rw [abv, if_pos q] at ha; exact absurd ha (by decide)
    obtain ⟨p, hp, rfl⟩ := hx.resolve_left hx1
    obtain ⟨f1, f2, f3⟩ := hF p hp
    have hcp : (nI p).toNatClampNeg = p := nI_clamp (by omega)
    refine z_iload C d_Bus_liftToRoot_5 0 rfl ?_
    refine z_bipush C (v := 6) d_Bus_liftToRoot_7 (by decide) ?_
    refine z_icmp_ge C 68 d_Bus_liftToRoot_9 (by decide) (fun h9 => False.elim (nI_ge (a := k) (b := 6) (by omega) (by decide) h9)) (fun h9 => ?_)
    refine z_iload_n C d_Bus_liftToRoot_12 rfl 1 rfl ?_
    refine z_if_eq C 68 d_Bus_liftToRoot_13 (by decide) (fun h13 => ?_) (fun h13 => ?_)
    · refine z_iconst C (v := 1) d_Bus_liftToRoot_68 (by decide) ?_
      exact hret _ _ _ _ d_Bus_liftToRoot_69 (by decide) ⟨by rw [he, lft, if_pos h13], by rw [he, lft, if_pos h13]⟩
    · refine z_aload_n C d_Bus_liftToRoot_16 rfl 2 rfl ?_
      refine gB_Bus_frames C d_Bus_liftToRoot_17 tw_236  ?_
      refine z_iload_n C d_Bus_liftToRoot_20 rfl 1 rfl ?_
      refine rB_frms C (j := p) d_Bus_liftToRoot_21  rfl hp ?_
      refine z_iload_n C d_Bus_liftToRoot_22 rfl 4 rfl ?_
      refine zf_Vi C d_Bus_liftToRoot_23 (c_Frm_indexAt l D ca b σ hp f1 f2 w) tw_704 tw_705 tw_706 tw_9 tw_707 pd_Frm_indexAt ⟨⟨Nat.le_trans (by decide) hR.1, Nat.le_trans (by decide) hR.2⟩, rfl, rfl, Nat.zero_le _, Nat.zero_le _⟩ (by omega) rfl (eB_Frm hp) rfl (Nat.le_of_ble_eq_true rfl) rfl ?_
      refine z_istore C d_Bus_liftToRoot_26 (by decide) [(5, .int (fIdx σ p (fsz σ p) w)), (4, .int (nI k)), (3, .int (nI p)), (0, .ref (b + 0)), (1, .int y), (2, .int w)] rfl ?_
      refine z_iload C d_Bus_liftToRoot_28 0 rfl ?_
      refine z_iconst C (v := -1) d_Bus_liftToRoot_30 (by decide) ?_
      refine z_icmp_ne C 36 d_Bus_liftToRoot_31 (by decide) (fun h31 => ?_) (fun h31 => ?_)
      · obtain ⟨j, hj, hj2⟩ := (fIdx_spec (σ := σ) (i := p) (z := fsz σ p) (w := w)).resolve_left h31
        refine z_aload_n C d_Bus_liftToRoot_36 rfl 3 rfl ?_
        refine gB_Bus_point C d_Bus_liftToRoot_37 tw_238  ?_
        refine z_aload_n C d_Bus_liftToRoot_40 rfl 3 rfl ?_
        refine gB_Bus_frames C d_Bus_liftToRoot_41 tw_236  ?_
        refine z_iload_n C d_Bus_liftToRoot_44 rfl 2 rfl ?_
        refine rB_frms C (j := p) d_Bus_liftToRoot_45  rfl hp ?_
        refine z_iload C d_Bus_liftToRoot_46 0 rfl ?_
        refine z_ri (x' := nI j) hj2 ?_
        refine z_iload_n C d_Bus_liftToRoot_48 rfl 5 rfl ?_
        refine zf_Vv C d_Bus_liftToRoot_49 (c_Pnt_lift l D ca b σ hp f1 f2 hj w (f3 j hj).1 (f3 j hj).2) tw_709 tw_710 tw_711 tw_3 tw_712 pd_Pnt_lift ⟨⟨hR.1, hR.2⟩, rfl, rfl, Nat.zero_le _, Nat.zero_le _⟩ (by omega) rfl (eB_Pnt ) rfl (Nat.le_of_ble_eq_true rfl) rfl ?_
        rw [show pLift σ p (fsz σ p) j w (ftn σ p j) = lftS σ p w by unfold lftS; rw [hj2, nI_clamp (by omega)]]
        refine z_aload_n C d_Bus_liftToRoot_52 rfl 3 rfl ?_
        refine gB_Bus_frames C d_Bus_liftToRoot_53 tw_236  ?_
        refine z_iload_n C d_Bus_liftToRoot_56 rfl 2 rfl ?_
        refine rB_frms C (j := p) d_Bus_liftToRoot_57  rfl hp ?_
        refine gB_Frm_parent C d_Bus_liftToRoot_58 tw_217 hp ?_
        refine z_ri (x' := σ.1 60 p 0 0) (by unfold lftS; rw [pLift_ne (by decide) (by decide)]) ?_
        refine z_istore_n C d_Bus_liftToRoot_61 rfl (by decide) [(3, .int (σ.1 60 p 0 0)), (5, .int (fIdx σ p (fsz σ p) w)), (4, .int (nI k)), (0, .ref (b + 0)), (1, .int y), (2, .int w)] rfl ?_
        refine z_iinc C d_Bus_liftToRoot_62 2 rfl (v := (nI (k + 1))) (by rw [← nI_1]; rfl) (by decide) [(4, .int (nI (k + 1))), (3, .int (σ.1 60 p 0 0)), (5, .int (fIdx σ p (fsz σ p) w)), (0, .ref (b + 0)), (1, .int y), (2, .int w)] rfl ?_
        refine z_goto C 5 d_Bus_liftToRoot_65 (by decide) ?_
        refine z_loc [0, 1, 3, 4, 5] rfl ?_
        have e60 : ∀ i, (lftS σ p w).1 60 i 0 = σ.1 60 i 0 := fun i => pLift_ne (by decide) (by decide)
        exact ih (k + 1) (by omega) _ _ (FI_eq (fun f i a c => pLift_ne (by omega) (by omega)) hF) (FP_eq e60 hP) (hP p hp) (by rw [abv_eq e60]; rw [abv, if_neg hx1, if_neg h13, hcp] at ha; exact ha) (by rw [he, lft, if_neg h13, hcp, if_neg h31])
      · refine z_iconst C (v := 0) d_Bus_liftToRoot_34 (by decide) ?_
        exact hret _ _ _ _ d_Bus_liftToRoot_35 (by decide) ⟨by rw [he, lft, if_neg h13, hcp, if_pos h31], by rw [he, lft, if_neg h13, hcp, if_pos h31]⟩
set_option maxRecDepth 100000 in
set_option maxHeartbeats 4000000 in
/-- lifts the point to the root -/
theorem c_Bus_liftToRoot (l : Launch) (D : va_G) (ca : Nat → ClassId) (b : Nat) (σ : Sg) (x w : Int32) (hF : FI σ) (hP : FP σ) (hx : isFr x) (ha : abv σ 0 6 x = 1) : CtI l D ca SB b 182 y_Bus_liftToRoot w_Bus_liftToRoot (rmN 3 74) σ [.ref (b + 0), .int x, .int w] (fun r σ' => r = (lft w 6 x σ).2 ∧ σ' = (lft w 6 x σ).1) := by
  refine ct_z "RobotBus" [(0, .ref (b + 0)), (1, .int x), (2, .int w)] (by decide) rfl (Nat.le_of_ble_eq_true rfl) rfl (fun X C hret => ?_)
  refine z_iload_n C d_Bus_liftToRoot_0 rfl 1 rfl ?_
  refine z_istore_n C d_Bus_liftToRoot_1 rfl (by decide) [(3, .int x), (0, .ref (b + 0)), (1, .int x), (2, .int w)] rfl ?_
  refine z_iconst C (v := 0) d_Bus_liftToRoot_2 (by decide) ?_
  refine z_istore C d_Bus_liftToRoot_3 (by decide) [(4, .int 0), (3, .int x), (0, .ref (b + 0)), (1, .int x), (2, .int w)] rfl ?_
  exact lp_Bus_lift l D ca b ⟨by decide, by decide⟩ C w x _ hret 6 0 rfl x σ hF hP hx ha rfl
