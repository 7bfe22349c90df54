/-! Services -/
def sN (σ : Sg) (j : Nat) : Nat := (σ.1 50 j 0 0).toNatClampNeg
def sC (σ : Sg) (j : Nat) : Nat := (σ.1 52 j 0 0).toNatClampNeg
def SI (σ : Sg) : Prop := ∀ j, j < 4 → ¬ σ.1 50 j 0 0 = -1 → (σ.1 50 j 0 0 = nI (sN σ j) ∧ sN σ j < 6) ∧ (σ.1 51 j 0 0 = 0 ∨ (σ.1 52 j 0 0 = nI (sC σ j) ∧ sC σ j < 4 ∧ (σ.1 51 j 0 0 = 3 → sC σ j < j)))
def cmpF (σ : Sg) (j : Nat) (q a : Int32) : Sg × Int32 :=
  if σ.1 51 j 0 0 = 0 then (us σ 6 0 0 (σ.1 52 j 0 0 * q + σ.1 53 j 0 0 + a), 0)
  else if σ.1 51 j 0 0 = 1 then (us (upA σ (32, sN σ j, 0) (upd (σ.1 32 (sN σ j) 0) (sC σ j) (σ.1 32 (sN σ j) 0 (sC σ j) + q))) 6 0 0 (σ.1 32 (sN σ j) 0 (sC σ j) + q + a), 0)
  else if σ.1 32 (sN σ j) 0 (sC σ j) = 0 then (σ, 2) else (us σ 6 0 0 (q / σ.1 32 (sN σ j) 0 (sC σ j) + a), 0)
set_option maxRecDepth 100000 in
set_option maxHeartbeats 4000000 in
/-- what a service answers -/
theorem c_Bus_compute (l : Launch) (D : va_G) (ca : Nat → ClassId) (b : Nat) (σ : Sg) {j : Nat} (hj : j < 4) (hn : σ.1 50 j 0 0 = nI (sN σ j)) (hn6 : sN σ j < 6) (hc : σ.1 51 j 0 0 = 0 ∨ (σ.1 52 j 0 0 = nI (sC σ j) ∧ sC σ j < 4)) (q a : Int32) : CtI l D ca SB b 182 y_Bus_compute w_Bus_compute (rmN 0 0) σ [.ref (b + 0), .ref (b + (148 + j)), .int q, .int a] (fun r σ' => r = (cmpF σ j q a).2 ∧ σ' = (cmpF σ j q a).1) := by
  refine ct_i "RobotBus" [(0, .ref (b + 0)), (1, .ref (b + (148 + j))), (2, .int q), (3, .int a)] (by decide) rfl (Nat.le_of_ble_eq_true rfl) rfl (fun X C hret => ?_)
  refine z_aload_n C d_Bus_compute_0 rfl 1 rfl ?_
  refine gB_Srv_kind C d_Bus_compute_1 tw_190 hj ?_
  refine z_if_ne C 26 d_Bus_compute_4 (by decide) (fun h4 => ?_) (fun h4 => ?_)
  · have hc' := hc.resolve_left h4
    refine z_aload_n C d_Bus_compute_26 rfl 0 rfl ?_
    refine gB_Bus_nodes C d_Bus_compute_27 tw_233  ?_
    refine z_aload_n C d_Bus_compute_30 rfl 1 rfl ?_
    refine gB_Srv_node C d_Bus_compute_31 tw_188 hj ?_
    refine z_ri (x' := nI (sN σ j)) hn ?_
    refine rB_nods C (j := (sN σ j)) d_Bus_compute_34  rfl hn6 ?_
    refine gB_Nod_variables C d_Bus_compute_35 tw_133 hn6 ?_
    refine z_astore C d_Bus_compute_38 (by decide) [(4, .ref (b + (11 + 22 * (sN σ j)))), (0, .ref (b + 0)), (1, .ref (b + (148 + j))), (2, .int q), (3, .int a)] rfl ?_
    refine z_aload_n C d_Bus_compute_40 rfl 2 rfl ?_
    refine gB_Srv_kind C d_Bus_compute_41 tw_190 hj ?_
    refine z_iconst C (v := 1) d_Bus_compute_44 (by decide) ?_
    refine z_icmp_ne C 74 d_Bus_compute_45 (by decide) (fun h45 => ?_) (fun h45 => ?_)
    · refine z_aload C d_Bus_compute_74 0 rfl ?_
      refine z_aload_n C d_Bus_compute_76 rfl 2 rfl ?_
      refine gB_Srv_c C d_Bus_compute_77 tw_192 hj ?_
      refine z_ri (x' := nI (sC σ j)) (by exact hc'.1) ?_
      refine lB_vars C (q := (sC σ j)) d_Bus_compute_80 hn6 rfl hc'.2 ?_
      refine z_istore C d_Bus_compute_81 (by decide) [(5, .int (σ.1 32 (sN σ j) 0 (sC σ j))), (4, .ref (b + (11 + 22 * (sN σ j)))), (0, .ref (b + 0)), (1, .ref (b + (148 + j))), (2, .int q), (3, .int a)] rfl ?_
      refine z_iload C d_Bus_compute_83 0 rfl ?_
      refine z_if_ne C 90 d_Bus_compute_85 (by decide) (fun h85 => ?_) (fun h85 => ?_)
      · refine z_aload_n C d_Bus_compute_90 rfl 2 rfl ?_
        refine z_iload_n C d_Bus_compute_91 rfl 4 rfl ?_
        refine z_iload C d_Bus_compute_92 0 rfl ?_
        refine z_idiv C d_Bus_compute_94 h85 ?_
        refine z_iload_n C d_Bus_compute_95 rfl 5 rfl ?_
        refine z_iadd C d_Bus_compute_96 ?_
        refine pB_Bus_answer C d_Bus_compute_97 tw_244  ?_
        refine z_iconst C (v := 0) d_Bus_compute_100 (by decide) ?_
        exact hret _ _ _ _ d_Bus_compute_101 ⟨by simp [cmpF, *], by simp [cmpF, *]⟩
      · refine z_iconst C (v := 2) d_Bus_compute_88 (by decide) ?_
        exact hret _ _ _ _ d_Bus_compute_89 ⟨by simp [cmpF, *], by simp [cmpF, *]⟩
    · refine z_aload C d_Bus_compute_48 0 rfl ?_
      refine z_aload_n C d_Bus_compute_50 rfl 2 rfl ?_
      refine gB_Srv_c C d_Bus_compute_51 tw_192 hj ?_
      refine z_ri (x' := nI (sC σ j)) (by exact hc'.1) ?_
      refine z_dup2 C d_Bus_compute_54 rfl rfl ?_
      refine lB_vars C (q := (sC σ j)) d_Bus_compute_55 hn6 rfl hc'.2 ?_
      refine z_iload_n C d_Bus_compute_56 rfl 3 rfl ?_
      refine z_iadd C d_Bus_compute_57 ?_
      refine stB_vars C (q := (sC σ j)) d_Bus_compute_58 hn6 rfl hc'.2 ?_
      refine z_aload_n C d_Bus_compute_59 rfl 1 rfl ?_
      refine z_aload C d_Bus_compute_60 0 rfl ?_
      refine z_aload_n C d_Bus_compute_62 rfl 2 rfl ?_
      refine gB_Srv_c C d_Bus_compute_63 tw_192 hj ?_
      refine z_ri (x' := nI (sC σ j)) (by rw [upA_ne (by simp)]; exact hc'.1) ?_
      refine lB_vars C (q := (sC σ j)) d_Bus_compute_66 hn6 rfl hc'.2 ?_
      refine z_iload_n C d_Bus_compute_67 rfl 4 rfl ?_
      refine z_iadd C d_Bus_compute_68 ?_
      refine z_ri (x' := σ.1 32 (sN σ j) 0 (sC σ j) + q + a) (by simp [upA, upd]) ?_
      refine pB_Bus_answer C d_Bus_compute_69 tw_244  ?_
      refine z_iconst C (v := 0) d_Bus_compute_72 (by decide) ?_
      exact hret _ _ _ _ d_Bus_compute_73 ⟨by simp [cmpF, *], by simp [cmpF, *]⟩
  · refine z_aload_n C d_Bus_compute_7 rfl 0 rfl ?_
    refine z_aload_n C d_Bus_compute_8 rfl 1 rfl ?_
    refine gB_Srv_c C d_Bus_compute_9 tw_192 hj ?_
    refine z_iload_n C d_Bus_compute_12 rfl 2 rfl ?_
    refine z_imul C d_Bus_compute_13 ?_
    refine z_aload_n C d_Bus_compute_14 rfl 1 rfl ?_
    refine gB_Srv_d C d_Bus_compute_15 tw_194 hj ?_
    refine z_iadd C d_Bus_compute_18 ?_
    refine z_iload_n C d_Bus_compute_19 rfl 3 rfl ?_
    refine z_iadd C d_Bus_compute_20 ?_
    refine pB_Bus_answer C d_Bus_compute_21 tw_244  ?_
    refine z_iconst C (v := 0) d_Bus_compute_24 (by decide) ?_
    exact hret _ _ _ _ d_Bus_compute_25 ⟨by simp [cmpF, *], by simp [cmpF, *]⟩
def askL (σ : Sg) (q : Int32) : Nat → Nat → Int32 → Sg × Int32
  | 0, _, _ => (σ, 1)
  | m + 1, j, a => if σ.1 50 j 0 0 = -1 then (σ, 1) else if σ.1 51 j 0 0 = 3 then askL σ q m (sC σ j) (a + σ.1 53 j 0 0) else cmpF σ j q a
def askF (σ : Sg) (j : Nat) (q : Int32) : Sg × Int32 := askL σ q 4 j 0
set_option maxRecDepth 100000 in
set_option maxHeartbeats 4000000 in
theorem lp_Bus_ask (l : Launch) (D : va_G) (ca : Nat → ClassId) (b : Nat) {R : Room} {X : Zx} {y0 : MethodName} {c0 : ByteArray} {n0 : Nat} {r0 : Option FieldType} (hR : 1 ≤ R.frames ∧ 25 ≤ R.locals) (C : Cs D ca b_Bus_ask 7 "RobotBus" (Cond.code y0 c0 n0 r0) X) (σ : Sg) (hS : SI σ) (q x : Int32) (F : Sg × Int32) (hret : ∀ (v : Int32) (σ' : Sg) (pc : Nat) (L' : List (Nat × Value)), decode b_Bus_ask pc = .ok (.ireturn, 1) → (v = F.2 ∧ σ' = F.1) → Zs l D ca SB b 182 R 7 X σ' pc L' [.int v]) : ∀ m k, k + m = 4 → ∀ (j : Nat) (a : Int32), j < 4 → F = askL σ q m j a → Zs l D ca SB b 182 R 7 X σ 8 [(5, .int (nI k)), (4, .int a), (3, .int (nI j)), (0, .ref (b + 0)), (1, .int x), (2, .int q)] [] := by
  intro m
  induction m with
  | zero =>
    intro k hk j a hj he
    have hk6 : k = 4 := by omega
    subst hk6
    refine z_iload C d_Bus_ask_8 0 rfl ?_
    refine z_iconst C (v := 4) d_Bus_ask_10 (by decide) ?_
    refine z_icmp_ge C 74 d_Bus_ask_11 (by decide) (fun h11 => ?_) (fun h11 => False.elim (h11 (by decide)))
    refine z_iconst C (v := 1) d_Bus_ask_74 (by decide) ?_
    exact hret _ _ _ _ d_Bus_ask_75 ⟨by rw [he]; rfl, by rw [he]; rfl⟩
  | succ m ih =>
    intro k hk j a hj he
    refine z_iload C d_Bus_ask_8 0 rfl ?_
    refine z_iconst C (v := 4) d_Bus_ask_10 (by decide) ?_
    refine z_icmp_ge C 74 d_Bus_ask_11 (by decide) (fun h11 => False.elim (nI_ge (a := k) (b := 4) (by omega) (by decide) h11)) (fun h11 => ?_)
    refine z_aload_n C d_Bus_ask_14 rfl 3 rfl ?_
    refine gB_Bus_services C d_Bus_ask_15 tw_235  ?_
    refine z_iload_n C d_Bus_ask_18 rfl 2 rfl ?_
    refine rB_srvs C (j := j) d_Bus_ask_19  rfl hj ?_
    refine z_astore C d_Bus_ask_20 (by decide) [(6, .ref (b + (148 + j))), (5, .int (nI k)), (4, .int a), (3, .int (nI j)), (0, .ref (b + 0)), (1, .int x), (2, .int q)] rfl ?_
    refine z_aload C d_Bus_ask_22 0 rfl ?_
    refine gB_Srv_node C d_Bus_ask_24 tw_188 hj ?_
    refine z_iconst C (v := -1) d_Bus_ask_27 (by decide) ?_
    refine z_icmp_ne C 33 d_Bus_ask_28 (by decide) (fun h28 => ?_) (fun h28 => ?_)
    · obtain ⟨hs1, hs2⟩ := hS j hj h28
      refine z_aload C d_Bus_ask_33 0 rfl ?_
      refine gB_Srv_kind C d_Bus_ask_35 tw_190 hj ?_
      refine z_iconst C (v := 3) d_Bus_ask_38 (by decide) ?_
      refine z_icmp_eq C 52 d_Bus_ask_39 (by decide) (fun h39 => ?_) (fun h39 => ?_)
      · refine z_iload C d_Bus_ask_52 2 rfl ?_
        refine z_aload C d_Bus_ask_54 0 rfl ?_
        refine gB_Srv_d C d_Bus_ask_56 tw_194 hj ?_
        refine z_iadd C d_Bus_ask_59 ?_
        refine z_istore C d_Bus_ask_60 (by decide) [(4, .int (a + (σ.1 53 j 0 0))), (6, .ref (b + (148 + j))), (5, .int (nI k)), (3, .int (nI j)), (0, .ref (b + 0)), (1, .int x), (2, .int q)] rfl ?_
        refine z_aload C d_Bus_ask_62 1 rfl ?_
        refine gB_Srv_c C d_Bus_ask_64 tw_192 hj ?_
        have hs3 := hs2.resolve_left (by rw [h39]; decide)
        refine z_ri (x' := nI (sC σ j)) hs3.1 ?_
        refine z_istore_n C d_Bus_ask_67 rfl (by decide) [(3, .int (nI (sC σ j))), (4, .int (a + (σ.1 53 j 0 0))), (6, .ref (b + (148 + j))), (5, .int (nI k)), (0, .ref (b + 0)), (1, .int x), (2, .int q)] rfl ?_
        refine z_iinc C d_Bus_ask_68 3 rfl (v := (nI (k + 1))) (by rw [← nI_1]; rfl) (by decide) [(5, .int (nI (k + 1))), (3, .int (nI (sC σ j))), (4, .int (a + (σ.1 53 j 0 0))), (6, .ref (b + (148 + j))), (0, .ref (b + 0)), (1, .int x), (2, .int q)] rfl ?_
        refine z_goto C 8 d_Bus_ask_71 (by decide) ?_
        refine z_loc [0, 2, 1, 4, 5, 6] rfl ?_
        exact ih (k + 1) (by omega) _ _ hs3.2.1 (by rw [he, askL, if_neg h28, if_pos h39])
      · refine z_aload_n C d_Bus_ask_42 rfl 4 rfl ?_
        refine z_aload C d_Bus_ask_43 0 rfl ?_
        refine z_iload_n C d_Bus_ask_45 rfl 6 rfl ?_
        refine z_iload C d_Bus_ask_46 2 rfl ?_
        refine zf_Vi C d_Bus_ask_48 (c_Bus_compute l D ca b σ hj hs1.1 hs1.2 (hs2.imp id (fun z => ⟨z.1, z.2.1⟩)) q a) tw_515 tw_517 tp_Bus_compute tw_1 tw_518 pd_Bus_compute ⟨⟨hR.1, hR.2⟩, rfl, rfl, Nat.zero_le _, Nat.zero_le _⟩ (by omega) rfl (eB_Bus ) rfl (Nat.le_of_ble_eq_true rfl) rfl ?_
        exact hret _ _ _ _ d_Bus_ask_51 ⟨by rw [he, askL, if_neg h28, if_neg h39], by rw [he, askL, if_neg h28, if_neg h39]⟩
    · refine z_iconst C (v := 1) d_Bus_ask_31 (by decide) ?_
      exact hret _ _ _ _ d_Bus_ask_32 ⟨by rw [he, askL, if_pos h28], by rw [he, askL, if_pos h28]⟩
set_option maxRecDepth 100000 in
set_option maxHeartbeats 4000000 in
/-- asks a service -/
theorem c_Bus_ask (l : Launch) (D : va_G) (ca : Nat → ClassId) (b : Nat) (σ : Sg) {j : Nat} (hj : j < 4) (q : Int32) (hS : SI σ) : CtI l D ca SB b 182 y_Bus_ask w_Bus_ask (rmN 1 25) σ [.ref (b + 0), .int (nI j), .int q] (fun r σ' => r = (askF σ j q).2 ∧ σ' = (askF σ j q).1) := by
  refine ct_i "RobotBus" [(0, .ref (b + 0)), (1, .int (nI j)), (2, .int q)] (by decide) rfl (Nat.le_of_ble_eq_true rfl) rfl (fun X C hret => ?_)
  refine z_iload_n C d_Bus_ask_0 rfl 1 rfl ?_
  refine z_istore_n C d_Bus_ask_1 rfl (by decide) [(3, .int (nI j)), (0, .ref (b + 0)), (1, .int (nI j)), (2, .int q)] rfl ?_
  refine z_iconst C (v := 0) d_Bus_ask_2 (by decide) ?_
  refine z_istore C d_Bus_ask_3 (by decide) [(4, .int 0), (3, .int (nI j)), (0, .ref (b + 0)), (1, .int (nI j)), (2, .int q)] rfl ?_
  refine z_iconst C (v := 0) d_Bus_ask_5 (by decide) ?_
  refine z_istore C d_Bus_ask_6 (by decide) [(5, .int 0), (4, .int 0), (3, .int (nI j)), (0, .ref (b + 0)), (1, .int (nI j)), (2, .int q)] rfl ?_
  exact lp_Bus_ask l D ca b ⟨by decide, by decide⟩ C σ hS q (nI j) _ hret 4 0 rfl j 0 hj rfl
/-! Frames above -/
def isFr (x : Int32) : Prop := x = -1 ∨ ∃ p, p < 6 ∧ x = nI p
def FP (σ : Sg) : Prop := ∀ i, i < 6 → isFr (σ.1 60 i 0 0)
def abv (σ : Sg) (u : Int32) : Nat → Int32 → Int32
  | 0, _ => 0
  | m + 1, x => if x = -1 then 0 else if x = u then 1 else abv σ u m (σ.1 60 x.toNatClampNeg 0 0)
set_option maxRecDepth 100000 in
set_option maxHeartbeats 4000000 in
theorem lp_Bus_isAbove (l : Launch) (D : va_G) (ca : Nat → ClassId) (b : Nat) {R : Room} {X : Zx} {y0 : MethodName} {c0 : ByteArray} {n0 : Nat} {r0 : Option FieldType} (C : Cs D ca b_Bus_isAbove 5 "RobotBus" (Cond.code y0 c0 n0 r0) X) (σ : Sg) (hF : FP σ) (u y F : Int32) (hret : ∀ (v : Int32) (σ' : Sg) (pc : Nat) (L' : List (Nat × Value)), decode b_Bus_isAbove pc = .ok (.ireturn, 1) → (v = 0 ∨ v = 1) → (v = F ∧ σ' = σ) → Zs l D ca SB b 182 R 5 X σ' pc L' [.int v]) : ∀ m k, k + m = 6 → ∀ (x : Int32), isFr x → F = abv σ u m x → Zs l D ca SB b 182 R 5 X σ 5 [(4, .int (nI k)), (3, .int x), (0, .ref (b + 0)), (1, .int u), (2, .int y)] [] := by
  intro m
  induction m with
  | zero =>
    intro k hk x hx he
    have hk6 : k = 6 := by omega
    subst hk6
    refine z_iload C d_Bus_isAbove_5 0 rfl ?_
    refine z_bipush C (v := 6) d_Bus_isAbove_7 (by decide) ?_
    refine z_icmp_ge C 40 d_Bus_isAbove_9 (by decide) (fun h9 => ?_) (fun h9 => False.elim (h9 (by decide)))
    refine z_iconst C (v := 0) d_Bus_isAbove_40 (by decide) ?_
    exact hret _ _ _ _ d_Bus_isAbove_41 (by decide) ⟨by rw [he]; rfl, rfl⟩
  | succ m ih =>
    intro k hk x hx he
    refine z_iload C d_Bus_isAbove_5 0 rfl ?_
    refine z_bipush C (v := 6) d_Bus_isAbove_7 (by decide) ?_
    refine z_icmp_ge C 40 d_Bus_isAbove_9 (by decide) (fun h9 => False.elim (nI_ge (a := k) (b := 6) (by omega) (by decide) h9)) (fun h9 => ?_)
    refine z_iload_n C d_Bus_isAbove_12 rfl 1 rfl ?_
    refine z_iconst C (v := -1) d_Bus_isAbove_13 (by decide) ?_
    refine z_icmp_eq C 40 d_Bus_isAbove_14 (by decide) (fun h14 => ?_) (fun h14 => ?_)
    · refine z_iconst C (v := 0) d_Bus_isAbove_40 (by decide) ?_
      exact hret _ _ _ _ d_Bus_isAbove_41 (by decide) ⟨by rw [he, abv, if_pos h14], rfl⟩
    · obtain ⟨p, hp, rfl⟩ := hx.resolve_left h14
      refine z_iload_n C d_Bus_isAbove_17 rfl 1 rfl ?_
      refine z_iload_n C d_Bus_isAbove_18 rfl 3 rfl ?_
      refine z_icmp_ne C 24 d_Bus_isAbove_19 (by decide) (fun h19 => ?_) (fun h19 => ?_)
      · refine z_aload_n C d_Bus_isAbove_24 rfl 2 rfl ?_
        refine gB_Bus_frames C d_Bus_isAbove_25 tw_236  ?_
        refine z_iload_n C d_Bus_isAbove_28 rfl 1 rfl ?_
        refine rB_frms C (j := p) d_Bus_isAbove_29  rfl hp ?_
        refine gB_Frm_parent C d_Bus_isAbove_30 tw_217 hp ?_
        refine z_istore_n C d_Bus_isAbove_33 rfl (by decide) [(3, .int (σ.1 60 p 0 0)), (4, .int (nI k)), (0, .ref (b + 0)), (1, .int u), (2, .int y)] rfl ?_
        refine z_iinc C d_Bus_isAbove_34 1 rfl (v := (nI (k + 1))) (by rw [← nI_1]; rfl) (by decide) [(4, .int (nI (k + 1))), (3, .int (σ.1 60 p 0 0)), (0, .ref (b + 0)), (1, .int u), (2, .int y)] rfl ?_
        refine z_goto C 5 d_Bus_isAbove_37 (by decide) ?_
        refine z_loc [0, 1, 2, 3, 4] rfl ?_
        exact ih (k + 1) (by omega) _ (hF p hp) (by rw [he, abv, if_neg h14, if_neg h19, nI_clamp (by omega)])
      · refine z_iconst C (v := 1) d_Bus_isAbove_22 (by decide) ?_
        exact hret _ _ _ _ d_Bus_isAbove_23 (by decide) ⟨by rw [he, abv, if_neg h14, if_pos h19], rfl⟩
set_option maxRecDepth 100000 in
set_option maxHeartbeats 4000000 in
/-- whether a frame is above another -/
theorem c_Bus_isAbove (l : Launch) (D : va_G) (ca : Nat → ClassId) (b : Nat) (σ : Sg) (u y : Int32) (hy : isFr y) (hF : FP σ) : CtI l D ca SB b 182 y_Bus_isAbove w_Bus_isAbove (rmN 0 0) σ [.ref (b + 0), .int u, .int y] (fun r σ' => r = abv σ u 6 y ∧ σ' = σ) := by
  refine ct_z "RobotBus" [(0, .ref (b + 0)), (1, .int u), (2, .int y)] (by decide) rfl (Nat.le_of_ble_eq_true rfl) rfl (fun X C hret => ?_)
  refine z_iload_n C d_Bus_isAbove_0 rfl 2 rfl ?_
  refine z_istore_n C d_Bus_isAbove_1 rfl (by decide) [(3, .int y), (0, .ref (b + 0)), (1, .int u), (2, .int y)] rfl ?_
  refine z_iconst C (v := 0) d_Bus_isAbove_2 (by decide) ?_
  refine z_istore C d_Bus_isAbove_3 (by decide) [(4, .int 0), (3, .int y), (0, .ref (b + 0)), (1, .int u), (2, .int y)] rfl ?_
  exact lp_Bus_isAbove l D ca b C σ hF u y _ hret 6 0 rfl y hy rfl
