/-! ask, call -/
theorem Rl_145 {e p a x : Int32} {σ τ : Sg} (h : Rl e p a σ τ) : Rl e p a σ (us τ 145 0 0 x) := h.upd [] [145] Off.rf (Off.rf.us (by decide)) (by rw [us_f (by decide)]; exact h.1) (Or.inl ⟨rfl, rfl, rfl⟩) (Or.inl rfl) (Or.inl rfl) (Or.inl rfl) (Or.inl rfl) (Or.inl rfl) (Or.inl rfl) (Or.inl rfl) (Or.inl rfl) (Or.inl rfl) (Or.inl rfl) (Or.inl rfl) (Or.inl rfl) (Or.inl rfl)
theorem Rl_6 {e p a x : Int32} {σ τ : Sg} (h : Rl e p a σ τ) : Rl e p a (us σ 6 0 0 x) τ := h.upd [6] [] (Off.rf.us (by decide)) Off.rf h.1 (Or.inl ⟨rfl, rfl, rfl⟩) (Or.inl rfl) (Or.inl rfl) (Or.inl rfl) (Or.inl rfl) (Or.inl rfl) (Or.inl rfl) (Or.inl rfl) (Or.inl rfl) (Or.inl rfl) (Or.inl rfl) (Or.inl rfl) (Or.inl rfl) (Or.inl rfl)
theorem Rl_var {e p a : Int32} {σ τ : Sg} {n c : Nat} {y : Int32} (hn : n < 6) (hc : c < 4) (hpn : ¬ σ.1 30 n 0 0 = 0) (h0 : Rl e p a σ τ) : Rl e p a (upA σ (32, n, 0) (upd (σ.1 32 n 0) c y)) (upA τ (103, 0, 0) (upd (τ.1 103 0 0) (4 * n + c) y)) := by
  have hσ : Off [32] σ (upA σ (32, n, 0) (upd (σ.1 32 n 0) c y)) := Off.rf.uA (by decide)
  have ho : Off [103] τ (upA τ (103, 0, 0) (upd (τ.1 103 0 0) (4 * n + c) y)) := Off.rf.uA (by decide)
  refine h0.upd [32] [103] hσ ho (by rw [ho.at (by decide)]; exact h0.1) (Or.inl ⟨rfl, rfl, rfl⟩) (Or.inl rfl) (Or.inr ?_) (Or.inl rfl) (Or.inl rfl) (Or.inl rfl) (Or.inl rfl) (Or.inl rfl) (Or.inl rfl) (Or.inl rfl) (Or.inl rfl) (Or.inl rfl) (Or.inl rfl) (Or.inl rfl)
  intro i hi j hj
  obtain ⟨k1, k2⟩ := h0.2.2.2.1 i hi j hj
  rw [hσ.at (f := 30) (by decide), upA_self]
  by_cases he : i = n
  · subst he
    rw [upA_self]
    refine ⟨fun _ => ?_, fun z => absurd z hpn⟩
    by_cases hjc : j = c
    · subst hjc; rw [pk_us, pk_us]
    · rw [pk_un (by omega), pk_un hjc]
      exact k1 hpn
  · rw [upA_ne (by simp; omega), pk_un (by omega)]
    exact ⟨k1, k2⟩
def AP (e p a : Int32) (F : Sg × Int32) (v : Int32) (τ' : Sg) : Prop := Rl e p a F.1 τ' ∧ ((F.2 = 0 ∧ τ'.1 145 0 0 0 = 0 ∧ v = F.1.1 6 0 0 0) ∨ (F.2 = 1 ∧ τ'.1 145 0 0 0 = 2) ∨ (F.2 = 2 ∧ τ'.1 145 0 0 0 = 3))
set_option maxRecDepth 100000 in
set_option maxHeartbeats 4000000 in
theorem lp_Mdl_ask (l : Launch) (D : va_G) (ca : Nat → ClassId) (b : Nat) {R : Room} {X : Zx} {y0 : MethodName} {c0 : ByteArray} {n0 : Nat} {r0 : Option FieldType} (C : Cs D ca b_Mdl_ask 6 "RobotBusModel" (Cond.code y0 c0 n0 r0) X) {σ τ : Sg} {e p a0 : Int32} (h0 : Rl e p a0 σ τ) (hz : τ.1 145 0 0 0 = 0) (q x : Int32) : ∀ m j a, j < m → m ≤ 4 → (∀ (v : Int32) (τ' : Sg) (pc : Nat) (L' : List (Nat × Value)), decode b_Mdl_ask pc = .ok (.ireturn, 1) → AP e p a0 (askL σ q m j a) v τ' → Zs l D ca SM b 31 R 6 X τ' pc L' [.int v]) → Zs l D ca SM b 31 R 6 X τ 10 [(4, .int a), (3, .int (nI j)), (0, .ref (b + 0)), (1, .int x), (2, .int q)] [] := by
  intro m
  induction m with
  | zero => intro j a hj; exact absurd hj (by omega)
  | succ m ih =>
    intro j a hj hm hret
    have hj4 : j < 4 := by omega
    have hS := h0.2.2.2.2.2.2.2.2.1 j hj4
    have hSI := h0.2.2.2.2.2.2.2.2.2.2.2.2.2.2.2.2.1 j hj4
    have hP := h0.2.2.2.2.2.2.2.2.2.1 j hj4
    refine z_aload_n C d_Mdl_ask_10 rfl 2 rfl ?_
    refine gB_Mdl_by C d_Mdl_ask_11 tw_758  ?_
    refine z_iload_n C d_Mdl_ask_14 rfl 1 rfl ?_
    refine lB_m_by C (q := j) d_Mdl_ask_15  rfl hj4 ?_
    refine z_if_lt C 50 d_Mdl_ask_16 (by decide) (fun h16 => ?_) (fun h16 => ?_)
    · have hn : σ.1 50 j 0 0 = -1 := Decidable.byContradiction (fun z => by rw [hS.1, (hSI z).1.1] at h16; exact nI_pos (by have := (hSI z).1.2; omega) h16)
      refine z_aload_n C d_Mdl_ask_50 rfl 2 rfl ?_
      refine gB_Mdl_by C d_Mdl_ask_51 tw_758  ?_
      refine z_iload_n C d_Mdl_ask_54 rfl 1 rfl ?_
      refine lB_m_by C (q := j) d_Mdl_ask_55  rfl hj4 ?_
      refine z_if_ge C 66 d_Mdl_ask_56 (by decide) (fun h56 => False.elim (absurd h16 (Int32.not_lt.mpr h56))) (fun h56 => ?_)
      refine z_aload_n C d_Mdl_ask_59 rfl 2 rfl ?_
      refine z_iconst C (v := 2) d_Mdl_ask_60 (by decide) ?_
      refine pB_Mdl_trouble C d_Mdl_ask_61 tw_784  ?_
      refine z_iconst C (v := 0) d_Mdl_ask_64 (by decide) ?_
      refine hret _ _ _ _ d_Mdl_ask_65 ?_
      rw [askL, if_pos hn]
      exact ⟨Rl_145 h0, Or.inr (Or.inl ⟨rfl, us_self⟩)⟩
    · have hn : ¬ σ.1 50 j 0 0 = -1 := fun z => absurd (by rw [hS.1, z]; decide : τ.1 119 0 0 j < 0) h16
      obtain ⟨s1, s2⟩ := hSI hn
      obtain ⟨k1, k2, k3, k4⟩ := hS.2 hn
      have hpn := hP hn
      have hby : τ.1 119 0 0 j = nI (sN σ j) := hS.1.trans s1.1
      have hV := fun c (hc : c < 4) => (h0.2.2.2.1 (sN σ j) s1.2 c hc).1 hpn
      refine z_aload_n C d_Mdl_ask_19 rfl 2 rfl ?_
      refine gB_Mdl_sKind C d_Mdl_ask_20 tw_759  ?_
      refine z_iload_n C d_Mdl_ask_23 rfl 1 rfl ?_
      refine lB_m_sKind C (q := j) d_Mdl_ask_24  rfl hj4 ?_
      refine z_iconst C (v := 3) d_Mdl_ask_25 (by decide) ?_
      refine z_icmp_ne C 50 d_Mdl_ask_26 (by decide) (fun h26 => ?_) (fun h26 => ?_)
      · have hk3 : ¬ σ.1 51 j 0 0 = 3 := fun z => h26 (k1.trans z)
        rw [askL, if_neg hn, if_neg hk3] at hret
        refine z_aload_n C d_Mdl_ask_50 rfl 2 rfl ?_
        refine gB_Mdl_by C d_Mdl_ask_51 tw_758  ?_
        refine z_iload_n C d_Mdl_ask_54 rfl 1 rfl ?_
        refine lB_m_by C (q := j) d_Mdl_ask_55  rfl hj4 ?_
        refine z_if_ge C 66 d_Mdl_ask_56 (by decide) (fun h56 => ?_) (fun h56 => False.elim (h56 (by rw [hby]; exact nI_pos' (by omega))))
        refine z_iconst C (v := 4) d_Mdl_ask_66 (by decide) ?_
        refine z_aload_n C d_Mdl_ask_67 rfl 2 rfl ?_
        refine gB_Mdl_by C d_Mdl_ask_68 tw_758  ?_
        refine z_iload_n C d_Mdl_ask_71 rfl 1 rfl ?_
        refine lB_m_by C (q := j) d_Mdl_ask_72  rfl hj4 ?_
        refine z_imul C d_Mdl_ask_73 ?_
        refine z_aload_n C d_Mdl_ask_74 rfl 2 rfl ?_
        refine gB_Mdl_sKind C d_Mdl_ask_75 tw_759  ?_
        refine z_iload_n C d_Mdl_ask_78 rfl 1 rfl ?_
        refine lB_m_sKind C (q := j) d_Mdl_ask_79  rfl hj4 ?_
        refine z_if_ne C 87 d_Mdl_ask_80 (by decide) (fun h80 => ?_) (fun h80 => ?_)
        · have hk0 : ¬ σ.1 51 j 0 0 = 0 := fun z => h80 (k1.trans z)
          have hc := s2.resolve_left hk0
          have hsc := k2.trans hc.1
          refine z_aload_n C d_Mdl_ask_87 rfl 2 rfl ?_
          refine gB_Mdl_sC C d_Mdl_ask_88 tw_760  ?_
          refine z_iload_n C d_Mdl_ask_91 rfl 1 rfl ?_
          refine lB_m_sC C (q := j) d_Mdl_ask_92  rfl hj4 ?_
          refine z_iadd C d_Mdl_ask_93 ?_
          refine z_ri (x' := nI ((4 * (sN σ j)) + (sC σ j))) (nadd (nmul (rfl : (4 : Int32) = nI 4) hby) hsc) ?_
          refine z_istore C d_Mdl_ask_94 (by decide) [(5, .int (nI ((4 * (sN σ j)) + (sC σ j)))), (4, .int a), (3, .int (nI j)), (0, .ref (b + 0)), (1, .int x), (2, .int q)] rfl ?_
          refine z_aload_n C d_Mdl_ask_96 rfl 3 rfl ?_
          refine gB_Mdl_sKind C d_Mdl_ask_97 tw_759  ?_
          refine z_iload_n C d_Mdl_ask_100 rfl 2 rfl ?_
          refine lB_m_sKind C (q := j) d_Mdl_ask_101  rfl hj4 ?_
          refine z_if_ne C 124 d_Mdl_ask_102 (by decide) (fun h102 => ?_) (fun h102 => False.elim (h80 h102))
          refine z_aload_n C d_Mdl_ask_124 rfl 3 rfl ?_
          refine gB_Mdl_sKind C d_Mdl_ask_125 tw_759  ?_
          refine z_iload_n C d_Mdl_ask_128 rfl 2 rfl ?_
          refine lB_m_sKind C (q := j) d_Mdl_ask_129  rfl hj4 ?_
          refine z_iconst C (v := 1) d_Mdl_ask_130 (by decide) ?_
          refine z_icmp_ne C 156 d_Mdl_ask_131 (by decide) (fun h131 => ?_) (fun h131 => ?_)
          · have hk1 : ¬ σ.1 51 j 0 0 = 1 := fun z => h131 (k1.trans z)
            refine z_aload_n C d_Mdl_ask_156 rfl 3 rfl ?_
            refine gB_Mdl_vars C d_Mdl_ask_157 tw_742  ?_
            refine z_iload C d_Mdl_ask_160 0 rfl ?_
            refine lB_m_vars C (q := ((4 * (sN σ j)) + (sC σ j))) d_Mdl_ask_162  rfl (by omega) ?_
            refine z_if_ne C 173 d_Mdl_ask_163 (by decide) (fun h163 => ?_) (fun h163 => ?_)
            · have hv0 : ¬ σ.1 32 (sN σ j) 0 (sC σ j) = 0 := fun z => h163 ((hV _ hc.2.1).trans z)
              refine z_iload_n C d_Mdl_ask_173 rfl 5 rfl ?_
              refine z_aload_n C d_Mdl_ask_174 rfl 3 rfl ?_
              refine gB_Mdl_vars C d_Mdl_ask_175 tw_742  ?_
              refine z_iload C d_Mdl_ask_178 0 rfl ?_
              refine lB_m_vars C (q := ((4 * (sN σ j)) + (sC σ j))) d_Mdl_ask_180  rfl (by omega) ?_
              refine z_idiv C d_Mdl_ask_181 h163 ?_
              refine z_iload C d_Mdl_ask_182 1 rfl ?_
              refine z_iadd C d_Mdl_ask_184 ?_
              refine hret _ _ _ _ d_Mdl_ask_185 ?_
              rw [show cmpF σ j q a = (us σ 6 0 0 (q / σ.1 32 (sN σ j) 0 (sC σ j) + a), 0) by unfold cmpF; rw [if_neg hk0, if_neg hk1, if_neg hv0]]
              exact ⟨Rl_6 h0, Or.inl ⟨rfl, hz, by rw [us_self, hV _ hc.2.1]⟩⟩
            · have hv0 : σ.1 32 (sN σ j) 0 (sC σ j) = 0 := (hV _ hc.2.1).symm.trans h163
              refine z_aload_n C d_Mdl_ask_166 rfl 3 rfl ?_
              refine z_iconst C (v := 3) d_Mdl_ask_167 (by decide) ?_
              refine pB_Mdl_trouble C d_Mdl_ask_168 tw_784  ?_
              refine z_iconst C (v := 0) d_Mdl_ask_171 (by decide) ?_
              refine hret _ _ _ _ d_Mdl_ask_172 ?_
              rw [show cmpF σ j q a = (σ, 2) by unfold cmpF; rw [if_neg hk0, if_neg hk1, if_pos hv0]]
              exact ⟨Rl_145 h0, Or.inr (Or.inr ⟨rfl, us_self⟩)⟩
          · have hk1 : σ.1 51 j 0 0 = 1 := k1.symm.trans h131
            refine z_aload_n C d_Mdl_ask_134 rfl 3 rfl ?_
            refine gB_Mdl_vars C d_Mdl_ask_135 tw_742  ?_
            refine z_iload C d_Mdl_ask_138 0 rfl ?_
            refine z_dup2 C d_Mdl_ask_140 rfl rfl ?_
            refine lB_m_vars C (q := ((4 * (sN σ j)) + (sC σ j))) d_Mdl_ask_141  rfl (by omega) ?_
            refine z_iload_n C d_Mdl_ask_142 rfl 5 rfl ?_
            refine z_iadd C d_Mdl_ask_143 ?_
            refine stB_m_vars C (q := ((4 * (sN σ j)) + (sC σ j))) d_Mdl_ask_144  rfl (by omega) ?_
            refine z_aload_n C d_Mdl_ask_145 rfl 3 rfl ?_
            refine gB_Mdl_vars C d_Mdl_ask_146 tw_742  ?_
            refine z_iload C d_Mdl_ask_149 0 rfl ?_
            refine lB_m_vars C (q := ((4 * (sN σ j)) + (sC σ j))) d_Mdl_ask_151  rfl (by omega) ?_
            refine z_iload C d_Mdl_ask_152 1 rfl ?_
            refine z_iadd C d_Mdl_ask_154 ?_
            refine hret _ _ _ _ d_Mdl_ask_155 ?_
            rw [show cmpF σ j q a = (us (upA σ (32, sN σ j, 0) (upd (σ.1 32 (sN σ j) 0) (sC σ j) (σ.1 32 (sN σ j) 0 (sC σ j) + q))) 6 0 0 (σ.1 32 (sN σ j) 0 (sC σ j) + q + a), 0) by unfold cmpF; rw [if_neg hk0, if_pos hk1]]
            rw [hV _ hc.2.1]
            exact ⟨Rl_6 (Rl_var s1.2 hc.2.1 hpn h0), Or.inl ⟨rfl, by rw [upA_f (by decide)]; exact hz, by rw [us_self, upA_self, pk_us]⟩⟩
        · have hk0 : σ.1 51 j 0 0 = 0 := k1.symm.trans h80
          refine z_iconst C (v := 0) d_Mdl_ask_83 (by decide) ?_
          refine z_goto C 93 d_Mdl_ask_84 (by decide) ?_
          refine z_iadd C d_Mdl_ask_93 ?_
          refine z_ri (x' := nI ((4 * (sN σ j)) + 0)) (nadd (nmul (rfl : (4 : Int32) = nI 4) hby) (rfl : (0 : Int32) = nI 0)) ?_
          refine z_istore C d_Mdl_ask_94 (by decide) [(5, .int (nI ((4 * (sN σ j)) + 0))), (4, .int a), (3, .int (nI j)), (0, .ref (b + 0)), (1, .int x), (2, .int q)] rfl ?_
          refine z_aload_n C d_Mdl_ask_96 rfl 3 rfl ?_
          refine gB_Mdl_sKind C d_Mdl_ask_97 tw_759  ?_
          refine z_iload_n C d_Mdl_ask_100 rfl 2 rfl ?_
          refine lB_m_sKind C (q := j) d_Mdl_ask_101  rfl hj4 ?_
          refine z_if_ne C 124 d_Mdl_ask_102 (by decide) (fun h102 => False.elim (h102 h80)) (fun h102 => ?_)
          refine z_aload_n C d_Mdl_ask_105 rfl 3 rfl ?_
          refine gB_Mdl_sC C d_Mdl_ask_106 tw_760  ?_
          refine z_iload_n C d_Mdl_ask_109 rfl 2 rfl ?_
          refine lB_m_sC C (q := j) d_Mdl_ask_110  rfl hj4 ?_
          refine z_iload_n C d_Mdl_ask_111 rfl 5 rfl ?_
          refine z_imul C d_Mdl_ask_112 ?_
          refine z_aload_n C d_Mdl_ask_113 rfl 3 rfl ?_
          refine gB_Mdl_sD C d_Mdl_ask_114 tw_761  ?_
          refine z_iload_n C d_Mdl_ask_117 rfl 2 rfl ?_
          refine lB_m_sD C (q := j) d_Mdl_ask_118  rfl hj4 ?_
          refine z_iadd C d_Mdl_ask_119 ?_
          refine z_iload C d_Mdl_ask_120 1 rfl ?_
          refine z_iadd C d_Mdl_ask_122 ?_
          refine hret _ _ _ _ d_Mdl_ask_123 ?_
          rw [show cmpF σ j q a = (us σ 6 0 0 (σ.1 52 j 0 0 * q + σ.1 53 j 0 0 + a), 0) by unfold cmpF; rw [if_pos hk0]]
          exact ⟨Rl_6 h0, Or.inl ⟨rfl, hz, by rw [us_self, k2, k3]⟩⟩
      · have hk3 : σ.1 51 j 0 0 = 3 := k1.symm.trans h26
        rw [askL, if_neg hn, if_pos hk3] at hret
        have hc3 := s2.resolve_left (fun z => absurd (hk3.symm.trans z) (by decide))
        refine z_iload C d_Mdl_ask_29 0 rfl ?_
        refine z_aload_n C d_Mdl_ask_31 rfl 2 rfl ?_
        refine gB_Mdl_sD C d_Mdl_ask_32 tw_761  ?_
        refine z_iload_n C d_Mdl_ask_35 rfl 1 rfl ?_
        refine lB_m_sD C (q := j) d_Mdl_ask_36  rfl hj4 ?_
        refine z_ri (x' := σ.1 53 j 0 0) k3 ?_
        refine z_iadd C d_Mdl_ask_37 ?_
        refine z_istore C d_Mdl_ask_38 (by decide) [(4, .int (a + (σ.1 53 j 0 0))), (3, .int (nI j)), (0, .ref (b + 0)), (1, .int x), (2, .int q)] rfl ?_
        refine z_aload_n C d_Mdl_ask_40 rfl 2 rfl ?_
        refine gB_Mdl_sC C d_Mdl_ask_41 tw_760  ?_
        refine z_iload_n C d_Mdl_ask_44 rfl 1 rfl ?_
        refine lB_m_sC C (q := j) d_Mdl_ask_45  rfl hj4 ?_
        refine z_ri (x' := nI (sC σ j)) (k2.trans hc3.1) ?_
        refine z_istore_n C d_Mdl_ask_46 rfl (by decide) [(3, .int (nI (sC σ j))), (4, .int (a + (σ.1 53 j 0 0))), (0, .ref (b + 0)), (1, .int x), (2, .int q)] rfl ?_
        refine z_goto C 10 d_Mdl_ask_47 (by decide) ?_
        refine z_loc [1, 0, 2, 3, 4] rfl ?_
        exact ih (sC σ j) (a + σ.1 53 j 0 0) (by have := hc3.2.2 hk3; omega) (by omega) hret
set_option maxRecDepth 100000 in
set_option maxHeartbeats 4000000 in
/-- the model asks as the bus does -/
theorem c_Mdl_ask (l : Launch) (D : va_G) (ca : Nat → ClassId) (b : Nat) (τ : Sg) {σ : Sg} {j : Nat} (hj : j < 4) (q e p a : Int32) (h : Rl e p a σ τ) : CtI l D ca SM b 31 y_Mdl_ask w_Mdl_ask (rmN 0 0) τ [.ref (b + 0), .int (nI j), .int q] (fun r τ' => AP e p a (askF σ j q) r τ') := by
  refine ct_i "RobotBusModel" [(0, .ref (b + 0)), (1, .int (nI j)), (2, .int q)] (by decide) rfl (Nat.le_of_ble_eq_true rfl) rfl (fun X C hret => ?_)
  refine z_iload_n C d_Mdl_ask_0 rfl 1 rfl ?_
  refine z_istore_n C d_Mdl_ask_1 rfl (by decide) [(3, .int (nI j)), (0, .ref (b + 0)), (1, .int (nI j)), (2, .int q)] rfl ?_
  refine z_iconst C (v := 0) d_Mdl_ask_2 (by decide) ?_
  refine z_istore C d_Mdl_ask_3 (by decide) [(4, .int 0), (3, .int (nI j)), (0, .ref (b + 0)), (1, .int (nI j)), (2, .int q)] rfl ?_
  refine z_aload_n C d_Mdl_ask_5 rfl 2 rfl ?_
  refine z_iconst C (v := 0) d_Mdl_ask_6 (by decide) ?_
  refine pB_Mdl_trouble C d_Mdl_ask_7 tw_784  ?_
  exact lp_Mdl_ask l D ca b C (Rl_145 (x := 0) h) us_self q (nI j) 4 j 0 hj (by decide) hret
theorem AP_3 {e p a : Int32} {σ τ' : Sg} {j : Nat} {q v : Int32} (h : AP e (σ.1 3 0 0 0) (σ.1 4 0 0 0) (askF σ j q) v τ') : Rl e ((askF σ j q).1.1 3 0 0 0) ((askF σ j q).1.1 4 0 0 0) (askF σ j q).1 τ' := by
  have e3 : (askF σ j q).1.1 3 0 0 0 = σ.1 3 0 0 0 := by unfold askF; rw [askL_ne (by decide) (by decide)]
  have e4 : (askF σ j q).1.1 4 0 0 0 = σ.1 4 0 0 0 := by unfold askF; rw [askL_ne (by decide) (by decide)]
  rw [e3, e4]
  exact h.1
set_option maxRecDepth 100000 in
set_option maxHeartbeats 4000000 in
/-- callF of the model -/
theorem c_Mdl_call (l : Launch) (D : va_G) (ca : Nat → ClassId) (b : Nat) (τ : Sg) {σ : Sg} (e : Int32) (z q : Int32) (h : Rl e (σ.1 3 0 0 0) (σ.1 4 0 0 0) σ τ) : CtI l D ca SM b 31 y_Mdl_call w_Mdl_call (rmN 1 25) τ [.ref (b + 0), .int z, .int q] (fun r τ' => Pm [xIAE, xNSE, xARI] (callF σ z q) r τ') := by
  refine ct_i "RobotBusModel" [(0, .ref (b + 0)), (1, .int z), (2, .int q)] (by decide) rfl (Nat.le_of_ble_eq_true rfl) rfl (fun X C hret => ?_)
  refine z_aload_n C d_Mdl_call_0 rfl 0 rfl ?_
  refine z_iconst C (v := 0) d_Mdl_call_1 (by decide) ?_
  refine pB_Mdl_thrown C d_Mdl_call_2 tw_739  ?_
  have h0 := Rl_e (e' := 0) h
  generalize us τ 100 0 0 0 = τ0 at h0 ⊢
  refine z_iload_n C d_Mdl_call_5 rfl 1 rfl ?_
  refine z_iconst C (v := 0) d_Mdl_call_6 (by decide) ?_
  refine z_iconst C (v := 3) d_Mdl_call_7 (by decide) ?_
  refine zf_Si C d_Mdl_call_8 (c_Mdl_in l D ca b τ0 z 0 3) tw_888 tw_889 tw_10 tw_890 pd_Mdl_in ⟨⟨by decide, by decide⟩, rfl, rfl, by decide, by decide⟩ (Nat.le_of_ble_eq_true rfl) rfl ?_
  refine z_ri (x' := bel z 4) (wit0_bel z 3 (by decide)) ?_
  refine z_if_ne C 20 d_Mdl_call_11 (by decide) (fun h11 => ?_) (fun h11 => ?_)
  · obtain ⟨s, hs, rfl⟩ := bel_nat (n := 4) (by decide) h11
    have hcs : (nI s).toNatClampNeg = s := nI_clamp (by omega)
    refine z_aload_n C d_Mdl_call_20 rfl 0 rfl ?_
    refine z_iload_n C d_Mdl_call_21 rfl 1 rfl ?_
    refine z_iload_n C d_Mdl_call_22 rfl 2 rfl ?_
    refine zc_Vi C d_Mdl_call_23 (c_Mdl_ask l D ca b τ0 hs q 0 _ _ h0) tw_949 tw_951 tp_Mdl_ask tw_10 tw_952 pd_Mdl_ask ⟨⟨by decide, by decide⟩, rfl, rfl, by decide, by decide⟩ (by omega) rfl (eB_Mdl ) rfl (Nat.le_of_ble_eq_true rfl) rfl (fun r τ1 hp => ?_)
    refine z_istore_n C d_Mdl_call_26 rfl (by decide) [(3, .int r), (0, .ref (b + 0)), (1, .int (nI s)), (2, .int q)] rfl ?_
    refine z_aload_n C d_Mdl_call_27 rfl 1 rfl ?_
    refine gB_Mdl_trouble C d_Mdl_call_28 tw_784  ?_
    refine z_if_ne C 38 d_Mdl_call_31 (by decide) (fun h31 => ?_) (fun h31 => ?_)
    · have hA := AP_3 (a := 0) (p := 0) hp
      refine z_aload_n C d_Mdl_call_38 rfl 1 rfl ?_
      refine z_aload_n C d_Mdl_call_39 rfl 1 rfl ?_
      refine gB_Mdl_trouble C d_Mdl_call_40 tw_784  ?_
      refine zf_Vi C d_Mdl_call_43 (c_Mdl_raise l D ca b τ1 (τ1.1 145 0 0 0)) tw_891 tw_893 tp_Mdl_raise tw_10 tw_894 pd_Mdl_raise ⟨⟨by decide, by decide⟩, rfl, rfl, by decide, by decide⟩ (by omega) rfl (eB_Mdl ) rfl (Nat.le_of_ble_eq_true rfl) rfl ?_
      exact hret _ _ _ _ d_Mdl_call_46 (by
      rcases hp.2 with ⟨u1, u2, u3⟩ | ⟨u1, u2⟩ | ⟨u1, u2⟩
      · exact absurd u2 h31
      · exact Pm_err xNSE (n := 2) (σ := (askF σ s q).1) (by simp only [callF, hcs, if_neg h11, u1, if_true]) (by decide +kernel) (by rw [u2]; exact Rl_e hA)
      · exact Pm_err xARI (n := 3) (σ := (askF σ s q).1) (by simp only [callF, hcs, if_neg h11, u1, if_true]; rfl) (by decide +kernel) (by rw [u2]; exact Rl_e hA))
    · have hA := AP_3 (a := 0) (p := 0) hp
      have hok : (askF σ s q).2 = 0 ∧ r = (askF σ s q).1.1 6 0 0 0 := by
        rcases hp.2 with ⟨u1, u2, u3⟩ | ⟨u1, u2⟩ | ⟨u1, u2⟩
        · exact ⟨u1, u3⟩
        · exact absurd (u2.symm.trans h31) (by decide)
        · exact absurd (u2.symm.trans h31) (by decide)
      refine z_iload_n C d_Mdl_call_34 rfl 0 rfl ?_
      refine z_goto C 46 d_Mdl_call_35 (by decide) ?_
      exact hret _ _ _ _ d_Mdl_call_46 (Pm_ok (askF σ s q).1 (by simp only [callF, hcs, if_neg h11, hok.1, hok.2]; rfl) hA)
  · refine z_aload_n C d_Mdl_call_14 rfl 0 rfl ?_
    refine z_iconst C (v := 1) d_Mdl_call_15 (by decide) ?_
    refine zf_Vi C d_Mdl_call_16 (c_Mdl_raise l D ca b τ0 1) tw_891 tw_893 tp_Mdl_raise tw_10 tw_894 pd_Mdl_raise ⟨⟨by decide, by decide⟩, rfl, rfl, by decide, by decide⟩ (by omega) rfl (eB_Mdl ) rfl (Nat.le_of_ble_eq_true rfl) rfl ?_
    exact hret _ _ _ _ d_Mdl_call_19 (Pm_err xIAE (by simp [callF, *]) (by decide +kernel) (Rl_e h0))
