/-! locate -/
def PmD (ks : List String) (F : Out × Sg) (r : UInt64) (τ' : Sg) : Prop := Rl (cd ks F.1) (F.2.1 3 0 0 0) (F.2.1 4 0 0 0) F.2 τ' ∧ ∀ v, F.1 = .inl v → v = .double r
theorem PmD_err {ks : List String} {F : Out × Sg} {r : UInt64} {n : Int32} {σ τ' : Sg} (c : String) (hF : F = (.inr c, σ)) (hc : nI (cdL c ks 1) = n) (h : Rl n (σ.1 3 0 0 0) (σ.1 4 0 0 0) σ τ') : PmD ks F r τ' := by
  subst hF
  exact ⟨by show Rl (nI (cdL c ks 1)) _ _ _ _; rw [hc]; exact h, fun v hv => by cases hv⟩
theorem PmD_ok {ks : List String} {F : Out × Sg} {r : UInt64} {τ' : Sg} (σ' : Sg) (hF : F = (.inl (.double r), σ')) (h : Rl 0 (σ'.1 3 0 0 0) (σ'.1 4 0 0 0) σ' τ') : PmD ks F r τ' := by
  subst hF
  exact ⟨h, fun v hv => by cases hv; rfl⟩
theorem PXr_mono {σ τ : Sg} {B B' : Int} (h : PXr σ τ B) (hB : B ≤ B') : PXr σ τ B' := ⟨h.1, h.2.1, by have := h.2.2.1; omega, by have := h.2.2.2; omega⟩
theorem Rl_off0 {e p a : Int32} {σ σ' τ τ' : Sg} (h : Rl e p a σ τ) (hσ : Off [20, 21] σ σ') (ho : Off [138, 139] τ τ') : Rl e p a σ' τ' :=
  h.upd [20, 21] [138, 139] hσ ho (by rw [ho.at (by decide)]; exact h.1) (Or.inl ⟨rfl, rfl, rfl⟩) (Or.inl rfl) (Or.inl rfl) (Or.inl rfl) (Or.inl rfl) (Or.inl rfl) (Or.inl rfl) (Or.inl rfl) (Or.inl rfl) (Or.inl rfl) (Or.inl rfl) (Or.inl rfl) (Or.inl rfl) (Or.inl rfl)
theorem lftS_off {σ : Sg} {f : Nat} {w : Int32} : Off [20, 21] σ (lftS σ f w) := by
  unfold lftS
  have h : ∀ (u : Nat) (ρ : Sg), Off [20, 21] ρ (pTurn u ρ) := by
    intro u
    induction u with
    | zero => intro ρ; exact Off.rf
    | succ u ih => intro ρ; exact Off.tr ((Off.rf.us (by decide)).us (by decide)) (ih _)
  unfold pLift
  exact Off.us (Off.us (h _ _) (by decide)) (by decide)
theorem lft_off {w : Int32} : ∀ (m : Nat) (x : Int32) (σ : Sg), Off [20, 21] σ (lft w m x σ).1 := by
  intro m
  induction m with
  | zero => intro x σ; exact Off.rf
  | succ m ih =>
    intro x σ
    unfold lft
    split
    · exact Off.rf
    · split
      · exact Off.rf
      · exact Off.tr lftS_off (ih _ _)
set_option maxRecDepth 100000 in
set_option maxHeartbeats 4000000 in
theorem lp_Mdl_loc1 (l : Launch) (D : va_G) (ca : Nat → ClassId) (b : Nat) {R : Room} {X : Zx} {y0 : MethodName} {c0 : ByteArray} {n0 : Nat} {r0 : Option FieldType} (C : Cs D ca b_Mdl_locate 8 "RobotBusModel" (Cond.code y0 c0 n0 r0) X) {σ τ : Sg} {f : Nat} (w x y : Int32) (hP : ∀ k, k < 6 → τ.1 132 0 0 k = σ.1 60 k 0 0) (hF : FP σ) {r : Nat → Nat} (hr : ∀ f p, f < 6 → p < 6 → σ.1 60 f 0 0 = nI p → r p < r f) (k1 : abv σ 0 6 (nI f) = 1 → Zs l D ca SM b 31 R 8 X τ 56 [(7, .int 0), (0, .ref (b + 0)), (1, .int (nI f)), (2, .int w), (3, .double (cx x)), (5, .double (cx y))] []) (k0 : abv σ 0 6 (nI f) = 0 → Zs l D ca SM b 31 R 8 X τ 56 [(7, .int (-1)), (0, .ref (b + 0)), (1, .int (nI f)), (2, .int w), (3, .double (cx x)), (5, .double (cx y))] []) : ∀ m (z : Int32), (z = -1 ∨ ∃ k, k < 6 ∧ z = nI k ∧ r k < m) → abv σ 0 6 (nI f) = abv σ 0 m z → Zs l D ca SM b 31 R 8 X τ 39 [(7, .int z), (0, .ref (b + 0)), (1, .int (nI f)), (2, .int w), (3, .double (cx x)), (5, .double (cx y))] [] := by
  intro m
  induction m with
  | zero =>
    intro z hz he
    have hz1 : z = -1 := hz.resolve_right (fun ⟨k, _, _, h⟩ => absurd h (by omega))
    subst hz1
    refine z_iload C d_Mdl_locate_39 0 rfl ?_
    refine z_if_le C 56 d_Mdl_locate_41 (by decide) (fun h41 => ?_) (fun h41 => False.elim (absurd (by decide) h41))
    exact k0 he
  | succ m ih =>
    intro z hz he
    rcases hz with rfl | ⟨k, hk, rfl, hrk⟩
    · rw [abv_m1] at he
      refine z_iload C d_Mdl_locate_39 0 rfl ?_
      refine z_if_le C 56 d_Mdl_locate_41 (by decide) (fun h41 => ?_) (fun h41 => False.elim (absurd (by decide) h41))
      exact k0 he
    · rw [show abv σ 0 (m + 1) (nI k) = if nI k = -1 then 0 else if nI k = 0 then 1 else abv σ 0 m (σ.1 60 (nI k).toNatClampNeg 0 0) from rfl, if_neg (nI_m1 hk), nI_clamp (by omega)] at he
      by_cases hk0 : k = 0
      · subst hk0
        rw [if_pos (show nI 0 = 0 from rfl)] at he
        rw [show nI 0 = 0 from rfl]
        refine z_iload C d_Mdl_locate_39 0 rfl ?_
        refine z_if_le C 56 d_Mdl_locate_41 (by decide) (fun h41 => ?_) (fun h41 => False.elim (absurd (by decide) h41))
        exact k1 he
      · rw [if_neg (nI_ne0 (Nat.pos_of_ne_zero hk0) (by omega))] at he
        refine z_iload C d_Mdl_locate_39 0 rfl ?_
        refine z_if_le C 56 d_Mdl_locate_41 (by decide) (fun h41 => False.elim (nI_nle (Nat.pos_of_ne_zero hk0) (by omega) h41)) (fun h41 => ?_)
        refine z_aload_n C d_Mdl_locate_44 rfl 1 rfl ?_
        refine gB_Mdl_parent C d_Mdl_locate_45 tw_771  ?_
        refine z_iload C d_Mdl_locate_48 0 rfl ?_
        refine lB_m_parent C (q := k) d_Mdl_locate_50  rfl hk ?_
        refine z_ri (x' := (σ.1 60 k 0 0)) (hP k hk) ?_
        refine z_istore C d_Mdl_locate_51 (by decide) [(7, .int (σ.1 60 k 0 0)), (0, .ref (b + 0)), (1, .int (nI f)), (2, .int w), (3, .double (cx x)), (5, .double (cx y))] rfl ?_
        refine z_goto C 39 d_Mdl_locate_53 (by decide) ?_
        refine ih _ ?_ he
        rcases hF k hk with h3 | ⟨q, hq, h3⟩
        · exact Or.inl h3
        · exact Or.inr ⟨q, hq, h3, by have := hr k q hk hq h3; omega⟩
set_option maxRecDepth 100000 in
set_option maxHeartbeats 4000000 in
theorem lp_Mdl_loc2 (l : Launch) (D : va_G) (ca : Nat → ClassId) (b : Nat) {R : Room} {X : Zx} {y0 : MethodName} {c0 : ByteArray} {n0 : Nat} {r0 : Option FieldType} (hR : 2 ≤ R.frames ∧ 63 ≤ R.locals) (C : Cs D ca b_Mdl_locate 8 "RobotBusModel" (Cond.code y0 c0 n0 r0) X) {f : Nat} (w x y e p a : Int32) : ∀ m (z : Int32) (σ τ : Sg) (B : Int), abv σ 0 m z = 1 → isFr z → Rl e p a σ τ → PXr σ τ B → B + 8192 * m ≤ 90000 → (∀ τ' z', (lft w m z σ).2 = 1 → Rl e p a (lft w m z σ).1 τ' → PXr (lft w m z σ).1 τ' 90000 → Zs l D ca SM b 31 R 8 X τ' 126 [(7, .int z'), (0, .ref (b + 0)), (1, .int (nI f)), (2, .int w), (3, .double (cx x)), (5, .double (cx y))] []) → (∀ τ' z', (lft w m z σ).2 = 0 → Rl e p a (lft w m z σ).1 τ' → Zs l D ca SM b 31 R 8 X τ' 107 [(7, .int z'), (0, .ref (b + 0)), (1, .int (nI f)), (2, .int w), (3, .double (cx x)), (5, .double (cx y))] []) → Zs l D ca SM b 31 R 8 X τ 92 [(7, .int z), (0, .ref (b + 0)), (1, .int (nI f)), (2, .int w), (3, .double (cx x)), (5, .double (cx y))] [] := by
  intro m
  induction m with
  | zero =>
    intro z σ τ B ha
    exact absurd ha (by simp [abv])
  | succ m ih =>
    intro z σ τ B ha hz h hpx hB k1 k0
    have hz1 : ¬ z = -1 := fun q => by rw [abv, if_pos q] at ha; exact absurd ha (by decide)
    obtain ⟨k, hk, rfl⟩ := hz.resolve_left hz1
    rw [show abv σ 0 (m + 1) (nI k) = if nI k = -1 then 0 else if nI k = 0 then 1 else abv σ 0 m (σ.1 60 (nI k).toNatClampNeg 0 0) from rfl, if_neg hz1, nI_clamp (by omega)] at ha
    have hlf : lft w (m + 1) (nI k) σ = if nI k = 0 then (σ, 1) else if fIdx σ k (fsz σ k) w = -1 then (σ, 0) else lft w m (σ.1 60 k 0 0) (lftS σ k w) := by
      show (if nI k = 0 then (σ, 1) else if fIdx σ (nI k).toNatClampNeg (fsz σ (nI k).toNatClampNeg) w = -1 then (σ, 0) else lft w m (σ.1 60 (nI k).toNatClampNeg 0 0) (lftS σ (nI k).toNatClampNeg w)) = _
      rw [nI_clamp (by omega)]
    by_cases hk0 : k = 0
    · subst hk0
      rw [if_pos (show nI 0 = 0 from rfl)] at hlf
      rw [hlf] at k1
      rw [show nI 0 = 0 from rfl]
      refine z_iload C d_Mdl_locate_92 0 rfl ?_
      refine z_if_le C 126 d_Mdl_locate_94 (by decide) (fun h94 => ?_) (fun h94 => False.elim (absurd (by decide) h94))
      exact k1 _ _ rfl h (PXr_mono hpx (by omega))
    · have hkn := nI_ne0 (Nat.pos_of_ne_zero hk0) (by omega)
      rw [if_neg hkn] at hlf ha
      refine z_iload C d_Mdl_locate_92 0 rfl ?_
      refine z_if_le C 126 d_Mdl_locate_94 (by decide) (fun h94 => False.elim (nI_nle (Nat.pos_of_ne_zero hk0) (by omega) h94)) (fun h94 => ?_)
      refine z_aload_n C d_Mdl_locate_97 rfl 1 rfl ?_
      refine z_iload C d_Mdl_locate_98 0 rfl ?_
      refine z_iload_n C d_Mdl_locate_100 rfl 3 rfl ?_
      refine zc_Vi C d_Mdl_locate_101 (c_Mdl_rise l D ca b τ hk w h (B := B) (by omega) hpx) tw_1008 tw_1010 tp_Mdl_rise tw_10 tw_1011 pd_Mdl_rise ⟨⟨Nat.le_trans (by decide) hR.1, Nat.le_trans (by decide) hR.2⟩, rfl, rfl, Nat.zero_le _, Nat.zero_le _⟩ (by omega) rfl (eB_Mdl ) rfl (Nat.le_of_ble_eq_true rfl) rfl (fun r τ1 hp => ?_)
      refine z_if_ne C 114 d_Mdl_locate_104 (by decide) (fun h104 => ?_) (fun h104 => ?_)
      · obtain ⟨hi, hr1, hoff, hpx1⟩ : ¬ fIdx σ k (fsz σ k) w = -1 ∧ r = 1 ∧ Off [138, 139] τ τ1 ∧ PXr (lftS σ k w) τ1 (B + 8192) := by
          rcases hp with ⟨u1, u2, u3⟩ | ⟨u1, u2, u3, u4⟩
          · exact absurd u2 h104
          · exact ⟨u1, u2, u3, u4⟩
        rw [if_neg hi] at hlf
        rw [hlf] at k1 k0
        have h1 : Rl e p a (lftS σ k w) τ1 := Rl_off0 h lftS_off hoff
        have hpar : τ1.1 132 0 0 k = σ.1 60 k 0 0 := by rw [hoff.at (by decide)]; exact (h.2.2.2.2.2.2.2.2.2.2.2.1 k hk).1
        refine z_aload_n C d_Mdl_locate_114 rfl 1 rfl ?_
        refine gB_Mdl_parent C d_Mdl_locate_115 tw_771  ?_
        refine z_iload C d_Mdl_locate_118 0 rfl ?_
        refine lB_m_parent C (q := k) d_Mdl_locate_120  rfl hk ?_
        refine z_ri (x' := (σ.1 60 k 0 0)) hpar ?_
        refine z_istore C d_Mdl_locate_121 (by decide) [(7, .int (σ.1 60 k 0 0)), (0, .ref (b + 0)), (1, .int (nI f)), (2, .int w), (3, .double (cx x)), (5, .double (cx y))] rfl ?_
        refine z_goto C 92 d_Mdl_locate_123 (by decide) ?_
        refine ih _ _ _ (B + 8192) ?_ (h.2.2.2.2.2.2.2.2.2.2.2.2.1.2.1 k hk) h1 hpx1 (by omega) k1 k0
        rw [abv_eq (σ := σ) (fun i => by rw [lftS_off.at (by decide)])]
        exact ha
      · obtain ⟨hi, hr1, rfl⟩ : fIdx σ k (fsz σ k) w = -1 ∧ r = 0 ∧ τ1 = τ := by
          rcases hp with ⟨u1, u2, u3⟩ | ⟨u1, u2, u3, u4⟩
          · exact ⟨u1, u2, u3⟩
          · exact absurd (u2.symm.trans h104) (by decide)
        rw [if_pos hi] at hlf
        rw [hlf] at k0
        exact k0 _ _ rfl h
set_option maxRecDepth 100000 in
set_option maxHeartbeats 4000000 in
/-- locate of the model -/
theorem c_Mdl_locate (l : Launch) (D : va_G) (ca : Nat → ClassId) (b : Nat) (τ : Sg) {σ : Sg} (e : Int32) (g w x y : Int32) (h : Rl e (σ.1 3 0 0 0) (σ.1 4 0 0 0) σ τ) : CtD l D ca SM b 31 y_Mdl_locate w_Mdl_locate (rmN 2 63) τ [.ref (b + 0), .int g, .int w, .double (cx x), .double (cx y)] (fun r τ' => PmD [xIAE, xNSE, xARI] (locaF σ g w x y) r τ') := by
  refine ct_d "RobotBusModel" [(0, .ref (b + 0)), (1, .int g), (2, .int w), (3, .double (cx x)), (5, .double (cx y))] (by decide) rfl (Nat.le_of_ble_eq_true rfl) rfl (fun X C hret => ?_)
  refine z_aload_n C d_Mdl_locate_0 rfl 0 rfl ?_
  refine z_iconst C (v := 0) d_Mdl_locate_1 (by decide) ?_
  refine pB_Mdl_thrown C d_Mdl_locate_2 tw_739  ?_
  have h0 := Rl_e (e' := 0) h
  generalize us τ 100 0 0 0 = τ0 at h0 ⊢
  refine z_iload_n C d_Mdl_locate_5 rfl 1 rfl ?_
  refine z_iconst C (v := 0) d_Mdl_locate_6 (by decide) ?_
  refine z_iconst C (v := 5) d_Mdl_locate_7 (by decide) ?_
  refine zf_Si C d_Mdl_locate_8 (c_Mdl_in l D ca b τ0 g 0 5) tw_888 tw_889 tw_10 tw_890 pd_Mdl_in ⟨⟨by decide, by decide⟩, rfl, rfl, by decide, by decide⟩ (Nat.le_of_ble_eq_true rfl) rfl ?_
  refine z_ri (x' := bel g 6) (wit0_bel g 5 (by decide)) ?_
  refine z_if_eq C 29 d_Mdl_locate_11 (by decide) (fun h11 => ?_) (fun h11 => ?_)
  · refine z_aload_n C d_Mdl_locate_29 rfl 0 rfl ?_
    refine z_iconst C (v := 1) d_Mdl_locate_30 (by decide) ?_
    refine zf_Vi C d_Mdl_locate_31 (c_Mdl_raise l D ca b τ0 1) tw_891 tw_893 tp_Mdl_raise tw_10 tw_894 pd_Mdl_raise ⟨⟨by decide, by decide⟩, rfl, rfl, by decide, by decide⟩ (by omega) rfl (eB_Mdl ) rfl (Nat.le_of_ble_eq_true rfl) rfl ?_
    refine z_i2d C d_Mdl_locate_34 ?_
    exact hret _ _ _ _ d_Mdl_locate_35 (PmD_err xIAE (by simp [locaF, *]) (by decide +kernel) (Rl_e h0))
  · obtain ⟨f, hf, rfl⟩ := bel_nat (n := 6) (by decide) h11
    have hcf : (nI f).toNatClampNeg = f := nI_clamp (by omega)
    refine z_dload_n C d_Mdl_locate_14 rfl 3 rfl ?_
    refine zf_Si C d_Mdl_locate_15 (c_Mdl_near l D ca b τ0 x) tw_997 tw_998 tw_10 tw_999 pd_Mdl_near ⟨⟨by decide, by decide⟩, rfl, rfl, by decide, by decide⟩ (Nat.le_of_ble_eq_true rfl) rfl ?_
    refine z_if_eq C 29 d_Mdl_locate_18 (by decide) (fun h18 => ?_) (fun h18 => ?_)
    · refine z_aload_n C d_Mdl_locate_29 rfl 0 rfl ?_
      refine z_iconst C (v := 1) d_Mdl_locate_30 (by decide) ?_
      refine zf_Vi C d_Mdl_locate_31 (c_Mdl_raise l D ca b τ0 1) tw_891 tw_893 tp_Mdl_raise tw_10 tw_894 pd_Mdl_raise ⟨⟨by decide, by decide⟩, rfl, rfl, by decide, by decide⟩ (by omega) rfl (eB_Mdl ) rfl (Nat.le_of_ble_eq_true rfl) rfl ?_
      refine z_i2d C d_Mdl_locate_34 ?_
      exact hret _ _ _ _ d_Mdl_locate_35 (PmD_err xIAE (by simp [locaF, *]) (by decide +kernel) (Rl_e h0))
    · refine z_dload C d_Mdl_locate_21 4 rfl ?_
      refine zf_Si C d_Mdl_locate_23 (c_Mdl_near l D ca b τ0 y) tw_997 tw_998 tw_10 tw_999 pd_Mdl_near ⟨⟨by decide, by decide⟩, rfl, rfl, by decide, by decide⟩ (Nat.le_of_ble_eq_true rfl) rfl ?_
      refine z_if_ne C 36 d_Mdl_locate_26 (by decide) (fun h26 => ?_) (fun h26 => ?_)
      · obtain ⟨v1, v2, v3, v4, v5⟩ := h0.2.2.2.2.2.2.2.2.2.2.2.2.1
        obtain ⟨r, h6, hr⟩ := AC_bd v4
        refine z_iload_n C d_Mdl_locate_36 rfl 1 rfl ?_
        refine z_istore C d_Mdl_locate_37 (by decide) [(7, .int (nI f)), (0, .ref (b + 0)), (1, .int (nI f)), (2, .int w), (3, .double (cx x)), (5, .double (cx y))] rfl ?_
        refine z_loc [0, 1, 2, 3, 4, 5] rfl ?_
        refine lp_Mdl_loc1 l D ca b C w x y (fun k hk => (h0.2.2.2.2.2.2.2.2.2.2.2.1 k hk).1) v2 hr ?_ ?_ 6 (nI f) (Or.inr ⟨f, hf, rfl, h6 f hf⟩) rfl
        · intro ha
          refine z_iload C d_Mdl_locate_56 0 rfl ?_
          refine z_if_ge C 68 d_Mdl_locate_58 (by decide) (fun h58 => ?_) (fun h58 => False.elim (absurd (by decide) h58))
          refine z_aload_n C d_Mdl_locate_68 rfl 1 rfl ?_
          refine z_dload_n C d_Mdl_locate_69 rfl 4 rfl ?_
          refine z_ldc2d C (List.mem_cons_of_mem _ tw_1002) d_Mdl_locate_70 ?_
          refine z_dmul C d_Mdl_locate_73 (cx_m64 x) ?_
          refine z_d2l C d_Mdl_locate_74 ?_
          refine pB_Mdl_px C d_Mdl_locate_75 tw_777  ?_
          refine z_aload_n C d_Mdl_locate_78 rfl 1 rfl ?_
          refine z_dload C d_Mdl_locate_79 5 rfl ?_
          refine z_ldc2d C (List.mem_cons_of_mem _ tw_1002) d_Mdl_locate_81 ?_
          refine z_dmul C d_Mdl_locate_84 (cx_m64 y) ?_
          refine z_d2l C d_Mdl_locate_85 ?_
          refine pB_Mdl_py C d_Mdl_locate_86 tw_778  ?_
          refine z_iload_n C d_Mdl_locate_89 rfl 2 rfl ?_
          refine z_istore C d_Mdl_locate_90 (by decide) [(7, .int (nI f)), (0, .ref (b + 0)), (1, .int (nI f)), (2, .int w), (3, .double (cx x)), (5, .double (cx y))] rfl ?_
          refine z_loc [0, 1, 2, 3, 4, 5] rfl ?_
          have hxr := wit_int (by rw [isCo_wit] at h18; exact h18)
          have hyr := wit_int (by rw [isCo_wit] at h26; exact h26)
          have hlo : Off [20, 21] σ (locaP σ x y) := (Off.rf.us (by decide)).us (by decide)
          have h1 : Rl 0 (σ.1 3 0 0 0) (σ.1 4 0 0 0) (locaP σ x y) (upL (upL τ0 (138, 0, 0) (fun _ => (FP.d2l (FP.dmul (cx x) 4620693217682128896)))) (139, 0, 0) (fun _ => (FP.d2l (FP.dmul (cx y) 4620693217682128896)))) := Rl_off0 h0 hlo ((Off.rf.uL (by decide)).uL (by decide))
          have hpx : PXr (locaP σ x y) (upL (upL τ0 (138, 0, 0) (fun _ => (FP.d2l (FP.dmul (cx x) 4620693217682128896)))) (139, 0, 0) (fun _ => (FP.d2l (FP.dmul (cx y) 4620693217682128896)))) 8192 := by
            refine ⟨by simp [upL, locaP, us, upA, cx_mul, d2l_i2d], by simp [upL, locaP, us, upA, cx_mul, d2l_i2d], ?_, ?_⟩
            · rw [show (locaP σ x y).1 20 0 0 0 = x by simp [locaP, us, upA]]; exact hxr
            · rw [show (locaP σ x y).1 21 0 0 0 = y by simp [locaP, us, upA]]; exact hyr
          refine lp_Mdl_loc2 l D ca b ⟨by decide, by decide⟩ C w x y 0 _ _ 6 (nI f) _ _ 8192 ?_ (Or.inr ⟨f, hf, rfl⟩) h1 hpx (by decide) ?_ ?_
          · rw [abv_eq (σ := σ) (fun i => by rw [hlo.at (by decide)])]; exact ha
          · intro τ1 z1 hl2 h2 hpx2
            refine z_aload_n C d_Mdl_locate_126 rfl 1 rfl ?_
            refine z_aload_n C d_Mdl_locate_127 rfl 1 rfl ?_
            refine gB_Mdl_py C d_Mdl_locate_128 tw_778  ?_
            refine z_l2d C d_Mdl_locate_131 ?_
            refine z_rd (x' := FP.i2d ((lft w 6 (nI f) (locaP σ x y)).1.1 21 0 0 0)) (by rw [hpx2.2.1, l2d_i2d]) ?_
            refine z_ldc2d C (List.mem_cons_of_mem _ tw_1015) d_Mdl_locate_132 ?_
            refine z_dmul C d_Mdl_locate_135 (cx_n64 _) ?_
            refine pB_Mdl_lastY C d_Mdl_locate_136 tw_779  ?_
            refine z_aload_n C d_Mdl_locate_139 rfl 1 rfl ?_
            refine gB_Mdl_px C d_Mdl_locate_140 tw_777  ?_
            refine z_l2d C d_Mdl_locate_143 ?_
            refine z_rd (x' := FP.i2d ((lft w 6 (nI f) (locaP σ x y)).1.1 20 0 0 0)) (by show FP.l2d (τ1.2.2 138 0 0 0) = _; rw [hpx2.1, l2d_i2d]) ?_
            refine z_ldc2d C (List.mem_cons_of_mem _ tw_1015) d_Mdl_locate_144 ?_
            refine z_dmul C d_Mdl_locate_147 (cx_n64 _) ?_
            exact hret _ _ _ _ d_Mdl_locate_148 (PmD_ok (upE (lft w 6 (nI f) (locaP σ x y)).1 (7, 0, 0) (fun _ => FP.ddiv (FP.i2d ((lft w 6 (nI f) (locaP σ x y)).1.1 21 0 0 0)) e8)) (by
      simp only [locaF, if_neg h11, if_neg h18, if_neg h26, ha, hl2]
      rw [i2d_div ((lft w 6 (nI f) (locaP σ x y)).1.1 20 0 0 0)]
      rfl) (by
      rw [upE_1, (lft_off 6 (nI f) (locaP σ x y)).at (f := 3) (by decide), (lft_off 6 (nI f) (locaP σ x y)).at (f := 4) (by decide), hlo.at (by decide), hlo.at (by decide)]
      refine h2.upd [7] [140] (Off.rf.uE (by decide)) (Off.rf.uE (by decide)) h2.1 (Or.inl ⟨rfl, rfl, rfl⟩) (Or.inl rfl) (Or.inl rfl) (Or.inl rfl) (Or.inl rfl) (Or.inl rfl) (Or.inl rfl) (Or.inl rfl) (Or.inl rfl) (Or.inl rfl) (Or.inl rfl) (Or.inl rfl) (Or.inr ?_) (Or.inl rfl)
      show (upE τ1 (140, 0, 0) _).2.1 140 0 0 0 = (upE _ (7, 0, 0) _).2.1 7 0 0 0
      rw [upE_self, upE_self, i2d_div]
      rfl))
          · intro τ1 z1 hl2 h2
            refine z_aload_n C d_Mdl_locate_107 rfl 1 rfl ?_
            refine z_iconst C (v := 3) d_Mdl_locate_108 (by decide) ?_
            refine zf_Vi C d_Mdl_locate_109 (c_Mdl_raise l D ca b τ1 3) tw_891 tw_893 tp_Mdl_raise tw_10 tw_894 pd_Mdl_raise ⟨⟨by decide, by decide⟩, rfl, rfl, by decide, by decide⟩ (by omega) rfl (eB_Mdl ) rfl (Nat.le_of_ble_eq_true rfl) rfl ?_
            refine z_i2d C d_Mdl_locate_112 ?_
            exact hret _ _ _ _ d_Mdl_locate_113 (PmD_err xARI (n := 3) (σ := (lft w 6 (nI f) (locaP σ x y)).1) (by simp only [locaF, if_neg h11, if_neg h18, if_neg h26, ha, hl2, if_true]; rfl) (by decide +kernel) (by rw [(lft_off 6 (nI f) (locaP σ x y)).at (f := 3) (by decide), (lft_off 6 (nI f) (locaP σ x y)).at (f := 4) (by decide), hlo.at (by decide), hlo.at (by decide)]; exact Rl_e h2))
        · intro ha
          refine z_iload C d_Mdl_locate_56 0 rfl ?_
          refine z_if_ge C 68 d_Mdl_locate_58 (by decide) (fun h58 => False.elim (absurd h58 (by decide))) (fun h58 => ?_)
          refine z_aload_n C d_Mdl_locate_61 rfl 1 rfl ?_
          refine z_iconst C (v := 2) d_Mdl_locate_62 (by decide) ?_
          refine zf_Vi C d_Mdl_locate_63 (c_Mdl_raise l D ca b τ0 2) tw_891 tw_893 tp_Mdl_raise tw_10 tw_894 pd_Mdl_raise ⟨⟨by decide, by decide⟩, rfl, rfl, by decide, by decide⟩ (by omega) rfl (eB_Mdl ) rfl (Nat.le_of_ble_eq_true rfl) rfl ?_
          refine z_i2d C d_Mdl_locate_66 ?_
          exact hret _ _ _ _ d_Mdl_locate_67 (PmD_err xNSE (by simp only [locaF, if_neg h11, if_neg h18, if_neg h26, ha, if_true]) (by decide +kernel) (Rl_e h0))
      · refine z_aload_n C d_Mdl_locate_29 rfl 0 rfl ?_
        refine z_iconst C (v := 1) d_Mdl_locate_30 (by decide) ?_
        refine zf_Vi C d_Mdl_locate_31 (c_Mdl_raise l D ca b τ0 1) tw_891 tw_893 tp_Mdl_raise tw_10 tw_894 pd_Mdl_raise ⟨⟨by decide, by decide⟩, rfl, rfl, by decide, by decide⟩ (by omega) rfl (eB_Mdl ) rfl (Nat.le_of_ble_eq_true rfl) rfl ?_
        refine z_i2d C d_Mdl_locate_34 ?_
        exact hret _ _ _ _ d_Mdl_locate_35 (PmD_err xIAE (by simp [locaF, *]) (by decide +kernel) (Rl_e h0))
