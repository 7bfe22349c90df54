/-! sample -/
def shJ (f : Nat → Int64) (a k : Nat) : Nat → Int64 := fun j => if a ≤ j ∧ j < k then f (j + 1) else f j
theorem shJ_0 (f : Nat → Int64) (a : Nat) : shJ f a a = f := by
  funext j
  unfold shJ
  rw [if_neg (by omega)]
theorem shJ_step {f : Nat → Int64} {a k : Nat} (h : a ≤ k) : vp_updL (shJ f a k) k (shJ f a k (k + 1)) = shJ f a (k + 1) := by
  funext j
  by_cases hj : j = k
  · subst hj
    rw [pk_uLs]
    unfold shJ
    rw [if_neg (by omega), if_pos (by omega)]
  · rw [pk_uLn hj]
    unfold shJ
    by_cases h2 : a ≤ j ∧ j < k
    · rw [if_pos h2, if_pos (by omega)]
    · rw [if_neg h2, if_neg (by omega)]
theorem fPut_at {σ : Sg} {i z : Nat} {w x y u : Int32} : (fPut σ i z w x y u).1 61 i 0 0 = nI (z + 1) ∧ (fPut σ i z w x y u).1 62 i 0 = upd (σ.1 62 i 0) z w ∧ (fPut σ i z w x y u).1 63 i 0 = upd (σ.1 63 i 0) z x ∧ (fPut σ i z w x y u).1 64 i 0 = upd (σ.1 64 i 0) z y ∧ (fPut σ i z w x y u).1 65 i 0 = upd (σ.1 65 i 0) z u ∧ Off [61, 62, 63, 64, 65] σ (fPut σ i z w x y u) ∧ ∀ f i', ¬ i' = i → (fPut σ i z w x y u).1 f i' 0 = σ.1 f i' 0 := by
  refine ⟨by unfold fPut; rw [us_self], by simp [fPut, us, upA], by simp [fPut, us, upA], by simp [fPut, us, upA], by simp [fPut, us, upA], (((((Off.rf.uA (by decide)).uA (by decide)).uA (by decide)).uA (by decide)).us (by decide)), fun f i' h => ?_⟩
  unfold fPut
  rw [us_ne (by simp; omega), upA_ne (by simp; omega), upA_ne (by simp; omega), upA_ne (by simp; omega), upA_ne (by simp; omega)]
theorem fDrop_at {σ : Sg} {i : Nat} : (∀ f, f = 62 ∨ f = 63 ∨ f = 64 ∨ f = 65 → ∀ k, k < 3 → (fDrop σ i 4).1 f i 0 k = σ.1 f i 0 (k + 1)) ∧ Off [61, 62, 63, 64, 65] σ (fDrop σ i 4) ∧ ∀ f i', ¬ i' = i → (fDrop σ i 4).1 f i' 0 = σ.1 f i' 0 := by
  refine ⟨fun f hf k hk => ?_, (((((Off.rf.us (by decide)).uA (by decide)).uA (by decide)).uA (by decide)).uA (by decide)), fun f i' h => ?_⟩
  · have e : (fDrop σ i 4).1 f i 0 = va_cpy (σ.1 f i 0) (σ.1 f i 0) 1 0 (4 - 1) := by
      rcases hf with rfl | rfl | rfl | rfl <;> simp [fDrop, us, upA]
    rw [e, pk_cpy_in (by omega) (by omega), show 1 + (k - 0) = k + 1 by omega]
  · unfold fDrop
    rw [upA_ne (by simp; omega), upA_ne (by simp; omega), upA_ne (by simp; omega), upA_ne (by simp; omega), us_ne (by simp; omega)]
/-- a sample comes: the rows of its frame, in a word for both cases -/
theorem fApp_at {σ : Sg} {i z d n : Nat} {w x y u : Int32} (hz : z ≤ 4) (hd : (z = 4 ∧ d = 1 ∧ n = 3) ∨ (z < 4 ∧ d = 0 ∧ n = z)) : (fApp σ i z w x y u).1 61 i 0 0 = nI (n + 1) ∧
    (∀ k, k < n → (fApp σ i z w x y u).1 62 i 0 k = σ.1 62 i 0 (k + d) ∧ (fApp σ i z w x y u).1 63 i 0 k = σ.1 63 i 0 (k + d) ∧ (fApp σ i z w x y u).1 64 i 0 k = σ.1 64 i 0 (k + d) ∧ (fApp σ i z w x y u).1 65 i 0 k = σ.1 65 i 0 (k + d)) ∧
    ((fApp σ i z w x y u).1 62 i 0 n = w ∧ (fApp σ i z w x y u).1 63 i 0 n = x ∧ (fApp σ i z w x y u).1 64 i 0 n = y ∧ (fApp σ i z w x y u).1 65 i 0 n = u) ∧ Off [61, 62, 63, 64, 65] σ (fApp σ i z w x y u) ∧ ∀ f i', ¬ i' = i → (fApp σ i z w x y u).1 f i' 0 = σ.1 f i' 0 := by
  rcases hd with ⟨h1, h2, h3⟩ | ⟨h1, h2, h3⟩
  · subst h1; subst h2; subst h3
    have e : fApp σ i 4 w x y u = fPut (fDrop σ i 4) i 3 w x y u := by unfold fApp; rw [if_pos rfl]
    rw [e]
    obtain ⟨p1, p2, p3, p4, p5, p6, p7⟩ := fPut_at (σ := fDrop σ i 4) (i := i) (z := 3) (w := w) (x := x) (y := y) (u := u)
    obtain ⟨q1, q2, q3⟩ := fDrop_at (σ := σ) (i := i)
    rw [p1, p2, p3, p4, p5]
    refine ⟨rfl, fun k hk => ?_, by rw [pk_us, pk_us, pk_us, pk_us]; exact ⟨rfl, rfl, rfl, rfl⟩, q2.tr p6, fun f i' h => (p7 f i' h).trans (q3 f i' h)⟩
    rw [pk_un (by omega), pk_un (by omega), pk_un (by omega), pk_un (by omega), q1 62 (by simp) k hk, q1 63 (by simp) k hk, q1 64 (by simp) k hk, q1 65 (by simp) k hk]
    exact ⟨rfl, rfl, rfl, rfl⟩
  · subst h2; subst h3
    have e : fApp σ i n w x y u = fPut σ i n w x y u := by unfold fApp; rw [if_neg (by omega)]
    rw [e]
    obtain ⟨p1, p2, p3, p4, p5, p6, p7⟩ := fPut_at (σ := σ) (i := i) (z := n) (w := w) (x := x) (y := y) (u := u)
    rw [p1, p2, p3, p4, p5]
    refine ⟨rfl, fun k hk => ?_, by rw [pk_us, pk_us, pk_us, pk_us]; exact ⟨rfl, rfl, rfl, rfl⟩, p6, p7⟩
    rw [pk_un (by omega), pk_un (by omega), pk_un (by omega), pk_un (by omega)]
    exact ⟨rfl, rfl, rfl, rfl⟩
theorem wit_int {x : Int32} {lo hi : Int32} (h : ¬ wit x lo hi = 0) : lo.toInt ≤ x.toInt ∧ x.toInt ≤ hi.toInt := by
  unfold wit at h
  by_cases h1 : x < lo
  · simp [h1] at h
  · by_cases h2 : hi < x
    · simp [h1, h2] at h
    · rw [Int32.lt_iff_toInt_lt] at h1 h2
      omega
theorem Rl_samp {e p0 a : Int32} {σ τ ρ : Sg} {f d n : Nat} {w x y u : Int32} (hf : f < 6) (h0 : Rl e p0 a σ τ) (hx : ¬ isCo x = 0) (hy : ¬ isCo y = 0) (hu : ¬ bel u 4 = 0) (hw : ¬ wit w 0 100000 = 0) (hb : ¬ fBeh σ f (fsz σ f) w = 0) (hd : (fsz σ f = 4 ∧ d = 1 ∧ n = 3) ∨ (fsz σ f < 4 ∧ d = 0 ∧ n = fsz σ f)) (ho : Off [133, 134, 135, 136, 137] τ ρ) (r1 : ρ.1 133 0 0 = upd (τ.1 133 0 0) f (nI (n + 1)))
    (r2 : ∀ k, k < n → ρ.1 134 0 0 (4 * f + k) = τ.1 134 0 0 (4 * f + (k + d)) ∧ ρ.2.2 135 0 0 (4 * f + k) = τ.2.2 135 0 0 (4 * f + (k + d)) ∧ ρ.2.2 136 0 0 (4 * f + k) = τ.2.2 136 0 0 (4 * f + (k + d)) ∧ ρ.1 137 0 0 (4 * f + k) = τ.1 137 0 0 (4 * f + (k + d)))
    (r3 : ρ.1 134 0 0 (4 * f + n) = w ∧ ρ.2.2 135 0 0 (4 * f + n) = x.toInt64 ∧ ρ.2.2 136 0 0 (4 * f + n) = y.toInt64 ∧ ρ.1 137 0 0 (4 * f + n) = u)
    (r4 : ∀ j, j < 4 * f ∨ 4 * f + 4 ≤ j → ρ.1 134 0 0 j = τ.1 134 0 0 j ∧ ρ.2.2 135 0 0 j = τ.2.2 135 0 0 j ∧ ρ.2.2 136 0 0 j = τ.2.2 136 0 0 j ∧ ρ.1 137 0 0 j = τ.1 137 0 0 j) : Rl e p0 a (fApp σ f (fsz σ f) w x y u) ρ := by
  have gF := h0.2.2.2.2.2.2.2.2.2.2.2.1
  obtain ⟨v1, v2, v3, v4, v5⟩ := h0.2.2.2.2.2.2.2.2.2.2.2.2.1
  obtain ⟨z1, z2, z3⟩ := v1 f hf
  obtain ⟨a1, a2, a3, hσ, a5⟩ := fApp_at (σ := σ) (i := f) (w := w) (x := x) (y := y) (u := u) z2 hd
  have hn : n + d = fsz σ f ∧ n ≤ 3 := by omega
  have e60 := hσ.at (f := 60) (by decide)
  obtain ⟨u9, hu4, rfl⟩ := bel_nat (n := 4) (by decide) hu
  have hxr := wit_int (by rw [isCo_wit] at hx; exact hx)
  have hyr := wit_int (by rw [isCo_wit] at hy; exact hy)
  have hwr := wit_int hw
  generalize fApp σ f (fsz σ f) w x y (nI u9) = σ' at a1 a2 a3 hσ a5 e60 ⊢
  refine h0.upd [61, 62, 63, 64, 65] [133, 134, 135, 136, 137] hσ ho (by rw [ho.at (by decide)]; exact h0.1) (Or.inl ⟨rfl, rfl, rfl⟩) (Or.inl rfl) (Or.inl rfl) (Or.inl rfl) (Or.inl rfl) (Or.inl rfl) (Or.inl rfl) (Or.inl rfl) (Or.inl rfl) (Or.inl rfl) (Or.inr ?_) (Or.inr ?_) (Or.inl rfl) (Or.inl rfl)
  · intro f' hf'
    obtain ⟨g1, g2, g3⟩ := gF f' hf'
    rw [ho.at (f := 132) (by decide), r1, e60]
    by_cases he : f' = f
    · subst he
      rw [pk_us, a1, nI_clamp (by omega)]
      refine ⟨g1, rfl, fun k hk => ?_⟩
      by_cases hk2 : k = n
      · subst hk2
        rw [r3.1, r3.2.1, r3.2.2.1, r3.2.2.2, a3.1, a3.2.1, a3.2.2.1, a3.2.2.2]
        exact ⟨rfl, rfl, rfl, rfl⟩
      · obtain ⟨b1, b2, b3, b4⟩ := r2 k (by omega)
        obtain ⟨c1, c2, c3, c4⟩ := a2 k (by omega)
        rw [b1, b2, b3, b4, c1, c2, c3, c4]
        exact g3 (k + d) (by show _ < fsz σ f'; omega)
    · have h4 : (σ.1 61 f' 0 0).toNatClampNeg ≤ 4 := (v1 f' hf').2.1
      rw [pk_un he, a5 61 f' he, a5 62 f' he, a5 63 f' he, a5 64 f' he, a5 65 f' he]
      refine ⟨g1, g2, fun k hk => ?_⟩
      obtain ⟨b1, b2, b3, b4⟩ := r4 (4 * f' + k) (by omega)
      rw [b1, b2, b3, b4]
      exact g3 k hk
  · refine ⟨fun f' hf' => ?_, fun f' hf' => by rw [e60]; exact v2 f' hf', fun f' hf' => ?_, ?_, by rw [e60]; exact v5⟩
    · unfold fsz ftn
      by_cases he : f' = f
      · subst he
        rw [a1, nI_clamp (by omega)]
        refine ⟨rfl, by omega, fun k hk => ?_⟩
        by_cases hk2 : k = n
        · subst hk2
          rw [a3.2.2.2, nI_clamp (by omega)]
          exact ⟨rfl, by omega⟩
        · rw [(a2 k (by omega)).2.2.2]
          exact z3 (k + d) (by omega)
      · rw [a5 61 f' he, a5 65 f' he]
        exact v1 f' hf'
    · by_cases he : f' = f
      · subst he
        rw [a1, nI_clamp (by omega)]
        intro k hk
        by_cases hk2 : k = n
        · subst hk2
          rw [a3.1, a3.2.1, a3.2.2.1]
          exact ⟨hxr, hyr, hwr, fun z => absurd z (by omega)⟩
        · obtain ⟨c1, c2, c3, c4⟩ := a2 k (by omega)
          rw [c1, c2, c3]
          obtain ⟨t1, t2, t3, t4⟩ := v3 f' hf' (k + d) (by show _ < fsz σ f'; omega)
          refine ⟨t1, t2, t3, fun z => ?_⟩
          by_cases hk3 : k + 1 = n
          · rw [hk3, a3.1]
            unfold fBeh at hb
            rw [if_neg (by omega)] at hb
            by_cases hle : w ≤ σ.1 62 f' 0 (fsz σ f' - 1)
            · rw [if_pos hle] at hb; exact absurd rfl hb
            · rw [show fsz σ f' - 1 = k + d by omega] at hle
              exact Int32.not_le.mp hle
          · rw [(a2 (k + 1) (by omega)).1]
            have := t4 (by show _ < fsz σ f'; omega)
            rw [show k + d + 1 = k + 1 + d by omega] at this
            exact this
      · rw [a5 61 f' he, a5 62 f' he, a5 63 f' he, a5 64 f' he]
        exact v3 f' hf'
    · obtain ⟨r, hr⟩ := v4
      exact ⟨r, fun f' q h1 h2 h3 => hr f' q h1 h2 (by rw [← e60]; exact h3)⟩
def saP (τ : Sg) (f k : Nat) (ρ : Sg) : Prop := Off [134, 135, 136, 137] τ ρ ∧ ρ.1 134 0 0 = sh (τ.1 134 0 0) (4 * f) k ∧ ρ.2.2 135 0 0 = shJ (τ.2.2 135 0 0) (4 * f) k ∧ ρ.2.2 136 0 0 = shJ (τ.2.2 136 0 0) (4 * f) k ∧ ρ.1 137 0 0 = sh (τ.1 137 0 0) (4 * f) k
set_option maxRecDepth 100000 in
set_option maxHeartbeats 4000000 in
theorem lp_Mdl_sample (l : Launch) (D : va_G) (ca : Nat → ClassId) (b : Nat) {R : Room} {X : Zx} {y0 : MethodName} {c0 : ByteArray} {n0 : Nat} {r0 : Option FieldType} (C : Cs D ca b_Mdl_sample 10 "RobotBusModel" (Cond.code y0 c0 n0 r0) X) (τ : Sg) {f : Nat} (hf : f < 6) (w x y u x8 : Int32) : ∀ m k, k + m = 3 → ∀ ρ : Sg, saP τ f (4 * f + k) ρ → (∀ ρ' k', saP τ f (4 * f + 3) ρ' → Zs l D ca SM b 31 R 10 X ρ' 197 [(9, .int (nI k')), (8, .int x8), (0, .ref (b + 0)), (1, .int (nI f)), (2, .int w), (3, .double (cx x)), (5, .double (cx y)), (7, .int u)] []) → Zs l D ca SM b 31 R 10 X ρ 117 [(9, .int (nI (4 * f + k))), (8, .int x8), (0, .ref (b + 0)), (1, .int (nI f)), (2, .int w), (3, .double (cx x)), (5, .double (cx y)), (7, .int u)] [] := by
  intro m
  induction m with
  | zero =>
    intro k hk ρ hp kk
    have hk6 : k = 3 := by omega
    subst hk6
    refine z_iload C d_Mdl_sample_117 0 rfl ?_
    refine z_iconst C (v := 4) d_Mdl_sample_119 (by decide) ?_
    refine z_iload_n C d_Mdl_sample_120 rfl 3 rfl ?_
    refine z_imul C d_Mdl_sample_121 ?_
    refine z_iconst C (v := 3) d_Mdl_sample_122 (by decide) ?_
    refine z_iadd C d_Mdl_sample_123 ?_
    refine z_icmp_ge C 197 d_Mdl_sample_124 (by decide) (fun h124 => ?_) (fun h124 => False.elim (h124 (ge_T (a := (4 * f + 3)) (b := ((4 * f) + 3)) rfl (nadd (nmul (rfl : (4 : Int32) = nI 4) rfl) (rfl : (3 : Int32) = nI 3)) (by omega) (by omega))))
    exact kk _ _ hp
  | succ m ih =>
    intro k hk ρ hp kk
    refine z_iload C d_Mdl_sample_117 0 rfl ?_
    refine z_iconst C (v := 4) d_Mdl_sample_119 (by decide) ?_
    refine z_iload_n C d_Mdl_sample_120 rfl 3 rfl ?_
    refine z_imul C d_Mdl_sample_121 ?_
    refine z_iconst C (v := 3) d_Mdl_sample_122 (by decide) ?_
    refine z_iadd C d_Mdl_sample_123 ?_
    refine z_icmp_ge C 197 d_Mdl_sample_124 (by decide) (fun h124 => False.elim (ge_F (a := (4 * f + k)) (b := ((4 * f) + 3)) rfl (nadd (nmul (rfl : (4 : Int32) = nI 4) rfl) (rfl : (3 : Int32) = nI 3)) (by omega) (by omega) h124)) (fun h124 => ?_)
    refine z_aload_n C d_Mdl_sample_127 rfl 2 rfl ?_
    refine gB_Mdl_sTime C d_Mdl_sample_128 tw_773  ?_
    refine z_iload C d_Mdl_sample_131 0 rfl ?_
    refine z_aload_n C d_Mdl_sample_133 rfl 2 rfl ?_
    refine gB_Mdl_sTime C d_Mdl_sample_134 tw_773  ?_
    refine z_iload C d_Mdl_sample_137 0 rfl ?_
    refine z_iconst C (v := 1) d_Mdl_sample_139 (by decide) ?_
    refine z_iadd C d_Mdl_sample_140 ?_
    refine lB_m_sTime C (q := ((4 * f + k) + 1)) d_Mdl_sample_141  (nadd rfl (rfl : (1 : Int32) = nI 1)) (by omega) ?_
    refine stB_m_sTime C (q := (4 * f + k)) d_Mdl_sample_142  rfl (by omega) ?_
    refine z_aload_n C d_Mdl_sample_143 rfl 2 rfl ?_
    refine gB_Mdl_sX C d_Mdl_sample_144 tw_774  ?_
    refine z_iload C d_Mdl_sample_147 0 rfl ?_
    refine z_aload_n C d_Mdl_sample_149 rfl 2 rfl ?_
    refine gB_Mdl_sX C d_Mdl_sample_150 tw_774  ?_
    refine z_iload C d_Mdl_sample_153 0 rfl ?_
    refine z_iconst C (v := 1) d_Mdl_sample_155 (by decide) ?_
    refine z_iadd C d_Mdl_sample_156 ?_
    refine lB_m_sX C (q := ((4 * f + k) + 1)) d_Mdl_sample_157 (nadd rfl (rfl : (1 : Int32) = nI 1)) (by omega) ?_
    refine stB_m_sX C (q := (4 * f + k)) d_Mdl_sample_158 rfl (by omega) ?_
    refine z_aload_n C d_Mdl_sample_159 rfl 2 rfl ?_
    refine gB_Mdl_sY C d_Mdl_sample_160 tw_775  ?_
    refine z_iload C d_Mdl_sample_163 0 rfl ?_
    refine z_aload_n C d_Mdl_sample_165 rfl 2 rfl ?_
    refine gB_Mdl_sY C d_Mdl_sample_166 tw_775  ?_
    refine z_iload C d_Mdl_sample_169 0 rfl ?_
    refine z_iconst C (v := 1) d_Mdl_sample_171 (by decide) ?_
    refine z_iadd C d_Mdl_sample_172 ?_
    refine lB_m_sY C (q := ((4 * f + k) + 1)) d_Mdl_sample_173 (nadd rfl (rfl : (1 : Int32) = nI 1)) (by omega) ?_
    refine stB_m_sY C (q := (4 * f + k)) d_Mdl_sample_174 rfl (by omega) ?_
    refine z_aload_n C d_Mdl_sample_175 rfl 2 rfl ?_
    refine gB_Mdl_sTurn C d_Mdl_sample_176 tw_776  ?_
    refine z_iload C d_Mdl_sample_179 0 rfl ?_
    refine z_aload_n C d_Mdl_sample_181 rfl 2 rfl ?_
    refine gB_Mdl_sTurn C d_Mdl_sample_182 tw_776  ?_
    refine z_iload C d_Mdl_sample_185 0 rfl ?_
    refine z_iconst C (v := 1) d_Mdl_sample_187 (by decide) ?_
    refine z_iadd C d_Mdl_sample_188 ?_
    refine lB_m_sTurn C (q := ((4 * f + k) + 1)) d_Mdl_sample_189  (nadd rfl (rfl : (1 : Int32) = nI 1)) (by omega) ?_
    refine stB_m_sTurn C (q := (4 * f + k)) d_Mdl_sample_190  rfl (by omega) ?_
    refine z_iinc C d_Mdl_sample_191 0 rfl (v := (nI ((4 * f + k) + 1))) (nI_1 _) (by decide) [(9, .int (nI ((4 * f + k) + 1))), (8, .int x8), (0, .ref (b + 0)), (1, .int (nI f)), (2, .int w), (3, .double (cx x)), (5, .double (cx y)), (7, .int u)] rfl ?_
    refine z_goto C 117 d_Mdl_sample_194 (by decide) ?_
    refine ih (k + 1) (by omega) _ ?_ kk
    obtain ⟨h1, h2, h3, h4, h5⟩ := hp
    refine ⟨(by repeat (first | exact Off.rf | assumption | refine Off.us ?_ (by decide) | refine Off.uA ?_ (by decide) | refine Off.uL ?_ (by decide) | refine Off.uE ?_ (by decide))), ?_, ?_, ?_, ?_⟩
    · simp [upA, upL, h2]; exact sh_step (by omega)
    · simp [upA, upL, h3]; exact shJ_step (by omega)
    · simp [upA, upL, h4]; exact shJ_step (by omega)
    · simp [upA, upL, h5]; exact sh_step (by omega)
set_option maxRecDepth 100000 in
set_option maxHeartbeats 4000000 in
/-- sampF of the model -/
theorem c_Mdl_sample (l : Launch) (D : va_G) (ca : Nat → ClassId) (b : Nat) (τ : Sg) {σ : Sg} (e : Int32) (g w x y u : Int32) (h : Rl e (σ.1 3 0 0 0) (σ.1 4 0 0 0) σ τ) : CtI l D ca SM b 31 y_Mdl_sample w_Mdl_sample (rmN 1 22) τ [.ref (b + 0), .int g, .int w, .double (cx x), .double (cx y), .int u] (fun r τ' => Pm [xNSE, xIAE, xISE] (sampF σ g w x y u) r τ') := by
  refine ct_i "RobotBusModel" [(0, .ref (b + 0)), (1, .int g), (2, .int w), (3, .double (cx x)), (5, .double (cx y)), (7, .int u)] (by decide) rfl (Nat.le_of_ble_eq_true rfl) rfl (fun X C hret => ?_)
  refine z_aload_n C d_Mdl_sample_0 rfl 0 rfl ?_
  refine z_iconst C (v := 0) d_Mdl_sample_1 (by decide) ?_
  refine pB_Mdl_thrown C d_Mdl_sample_2 tw_739  ?_
  have h0 := Rl_e (e' := 0) h
  generalize us τ 100 0 0 0 = τ0 at h0 ⊢
  refine z_iload_n C d_Mdl_sample_5 rfl 1 rfl ?_
  refine z_iconst C (v := 0) d_Mdl_sample_6 (by decide) ?_
  refine z_iconst C (v := 5) d_Mdl_sample_7 (by decide) ?_
  refine zf_Si C d_Mdl_sample_8 (c_Mdl_in l D ca b τ0 g 0 5) tw_888 tw_889 tw_10 tw_890 pd_Mdl_in ⟨⟨by decide, by decide⟩, rfl, rfl, by decide, by decide⟩ (Nat.le_of_ble_eq_true rfl) rfl ?_
  refine z_ri (x' := bel g 6) (wit0_bel g 5 (by decide)) ?_
  refine z_if_eq C 23 d_Mdl_sample_11 (by decide) (fun h11 => ?_) (fun h11 => ?_)
  · refine z_aload_n C d_Mdl_sample_23 rfl 0 rfl ?_
    refine z_iconst C (v := 1) d_Mdl_sample_24 (by decide) ?_
    refine zf_Vi C d_Mdl_sample_25 (c_Mdl_raise l D ca b τ0 1) tw_891 tw_893 tp_Mdl_raise tw_10 tw_894 pd_Mdl_raise ⟨⟨by decide, by decide⟩, rfl, rfl, by decide, by decide⟩ (by omega) rfl (eB_Mdl ) rfl (Nat.le_of_ble_eq_true rfl) rfl ?_
    exact hret _ _ _ _ d_Mdl_sample_28 (Pm_err xNSE (by simp [sampF, *]) (by decide +kernel) (Rl_e h0))
  · obtain ⟨f, hf, rfl⟩ := bel_nat (n := 6) (by decide) h11
    have hcf : (nI f).toNatClampNeg = f := nI_clamp (by omega)
    refine z_aload_n C d_Mdl_sample_14 rfl 0 rfl ?_
    refine gB_Mdl_parent C d_Mdl_sample_15 tw_771  ?_
    refine z_iload_n C d_Mdl_sample_18 rfl 1 rfl ?_
    refine lB_m_parent C (q := f) d_Mdl_sample_19  rfl hf ?_
    refine z_if_ge C 29 d_Mdl_sample_20 (by decide) (fun h20 => ?_) (fun h20 => ?_)
    · have hF := h0.2.2.2.2.2.2.2.2.2.2.2.1 f hf
      have hFV := h0.2.2.2.2.2.2.2.2.2.2.2.2.1
      have hpar : ¬ σ.1 60 f 0 0 = -1 := fun z => absurd (by rw [hF.1, z] at h20; exact h20 : (0 : Int32) ≤ -1) (by decide)
      obtain ⟨hz1, hz4, -⟩ := hFV.1 f hf
      have hzz := hF.2.1.trans hz1
      refine z_dload_n C d_Mdl_sample_29 rfl 3 rfl ?_
      refine zf_Si C d_Mdl_sample_30 (c_Mdl_near l D ca b τ0 x) tw_997 tw_998 tw_10 tw_999 pd_Mdl_near ⟨⟨by decide, by decide⟩, rfl, rfl, by decide, by decide⟩ (Nat.le_of_ble_eq_true rfl) rfl ?_
      refine z_if_eq C 64 d_Mdl_sample_33 (by decide) (fun h33 => ?_) (fun h33 => ?_)
      · refine z_aload_n C d_Mdl_sample_64 rfl 0 rfl ?_
        refine z_iconst C (v := 2) d_Mdl_sample_65 (by decide) ?_
        refine zf_Vi C d_Mdl_sample_66 (c_Mdl_raise l D ca b τ0 2) tw_891 tw_893 tp_Mdl_raise tw_10 tw_894 pd_Mdl_raise ⟨⟨by decide, by decide⟩, rfl, rfl, by decide, by decide⟩ (by omega) rfl (eB_Mdl ) rfl (Nat.le_of_ble_eq_true rfl) rfl ?_
        exact hret _ _ _ _ d_Mdl_sample_69 (Pm_err xIAE (by simp [sampF, *]) (by decide +kernel) (Rl_e h0))
      · refine z_dload C d_Mdl_sample_36 4 rfl ?_
        refine zf_Si C d_Mdl_sample_38 (c_Mdl_near l D ca b τ0 y) tw_997 tw_998 tw_10 tw_999 pd_Mdl_near ⟨⟨by decide, by decide⟩, rfl, rfl, by decide, by decide⟩ (Nat.le_of_ble_eq_true rfl) rfl ?_
        refine z_if_eq C 64 d_Mdl_sample_41 (by decide) (fun h41 => ?_) (fun h41 => ?_)
        · refine z_aload_n C d_Mdl_sample_64 rfl 0 rfl ?_
          refine z_iconst C (v := 2) d_Mdl_sample_65 (by decide) ?_
          refine zf_Vi C d_Mdl_sample_66 (c_Mdl_raise l D ca b τ0 2) tw_891 tw_893 tp_Mdl_raise tw_10 tw_894 pd_Mdl_raise ⟨⟨by decide, by decide⟩, rfl, rfl, by decide, by decide⟩ (by omega) rfl (eB_Mdl ) rfl (Nat.le_of_ble_eq_true rfl) rfl ?_
          exact hret _ _ _ _ d_Mdl_sample_69 (Pm_err xIAE (by simp [sampF, *]) (by decide +kernel) (Rl_e h0))
        · refine z_iload C d_Mdl_sample_44 5 rfl ?_
          refine z_iconst C (v := 0) d_Mdl_sample_46 (by decide) ?_
          refine z_iconst C (v := 3) d_Mdl_sample_47 (by decide) ?_
          refine zf_Si C d_Mdl_sample_48 (c_Mdl_in l D ca b τ0 u 0 3) tw_888 tw_889 tw_10 tw_890 pd_Mdl_in ⟨⟨by decide, by decide⟩, rfl, rfl, by decide, by decide⟩ (Nat.le_of_ble_eq_true rfl) rfl ?_
          refine z_ri (x' := bel u 4) (wit0_bel u 3 (by decide)) ?_
          refine z_if_eq C 64 d_Mdl_sample_51 (by decide) (fun h51 => ?_) (fun h51 => ?_)
          · refine z_aload_n C d_Mdl_sample_64 rfl 0 rfl ?_
            refine z_iconst C (v := 2) d_Mdl_sample_65 (by decide) ?_
            refine zf_Vi C d_Mdl_sample_66 (c_Mdl_raise l D ca b τ0 2) tw_891 tw_893 tp_Mdl_raise tw_10 tw_894 pd_Mdl_raise ⟨⟨by decide, by decide⟩, rfl, rfl, by decide, by decide⟩ (by omega) rfl (eB_Mdl ) rfl (Nat.le_of_ble_eq_true rfl) rfl ?_
            exact hret _ _ _ _ d_Mdl_sample_69 (Pm_err xIAE (by simp [sampF, *]) (by decide +kernel) (Rl_e h0))
          · refine z_iload_n C d_Mdl_sample_54 rfl 2 rfl ?_
            refine z_iconst C (v := 0) d_Mdl_sample_55 (by decide) ?_
            refine z_ldc C (List.mem_cons_of_mem _ tw_1003) d_Mdl_sample_56 ?_
            refine zf_Si C d_Mdl_sample_58 (c_Mdl_in l D ca b τ0 w 0 100000) tw_888 tw_889 tw_10 tw_890 pd_Mdl_in ⟨⟨by decide, by decide⟩, rfl, rfl, by decide, by decide⟩ (Nat.le_of_ble_eq_true rfl) rfl ?_
            refine z_if_ne C 70 d_Mdl_sample_61 (by decide) (fun h61 => ?_) (fun h61 => ?_)
            · refine z_aload_n C d_Mdl_sample_70 rfl 0 rfl ?_
              refine gB_Mdl_samples C d_Mdl_sample_71 tw_772  ?_
              refine z_iload_n C d_Mdl_sample_74 rfl 1 rfl ?_
              refine lB_m_samples C (q := f) d_Mdl_sample_75  rfl hf ?_
              refine z_ri (x' := nI (fsz σ f)) hzz ?_
              refine z_istore C d_Mdl_sample_76 (by decide) [(8, .int (nI (fsz σ f))), (0, .ref (b + 0)), (1, .int (nI f)), (2, .int w), (3, .double (cx x)), (5, .double (cx y)), (7, .int u)] rfl ?_
              refine z_iload C d_Mdl_sample_78 0 rfl ?_
              refine z_if_le C 106 d_Mdl_sample_80 (by decide) (fun h80 => ?_) (fun h80 => ?_)
              · have hz0 : fsz σ f = 0 := Decidable.byContradiction (fun z => nI_nle (Nat.pos_of_ne_zero z) (by omega) h80)
                have hb9 : ¬ fBeh σ f (fsz σ f) w = 0 := by
                  unfold fBeh
                  first | (rw [if_pos hz0]; decide) | (rw [if_neg hz0, if_neg (fun z => absurd h97 (Int32.not_lt.mpr (by rw [hlast]; exact z)))]; decide)
                refine z_iload C d_Mdl_sample_106 0 rfl ?_
                refine z_iconst C (v := 4) d_Mdl_sample_108 (by decide) ?_
                refine z_icmp_ne C 200 d_Mdl_sample_109 (by decide) (fun h109 => ?_) (fun h109 => ?_)
                · have hz9 : fsz σ f < 4 := by
                    have : ¬ fsz σ f = 4 := fun z => h109 (by rw [z]; rfl)
                    omega
                  refine z_iconst C (v := 4) d_Mdl_sample_200 (by decide) ?_
                  refine z_iload_n C d_Mdl_sample_201 rfl 2 rfl ?_
                  refine z_imul C d_Mdl_sample_202 ?_
                  refine z_iload C d_Mdl_sample_203 0 rfl ?_
                  refine z_iadd C d_Mdl_sample_205 ?_
                  refine z_ri (x' := nI ((4 * f) + (fsz σ f))) (nadd (nmul (rfl : (4 : Int32) = nI 4) rfl) rfl) ?_
                  refine z_istore C d_Mdl_sample_206 (by decide) [(9, .int (nI ((4 * f) + (fsz σ f)))), (8, .int (nI (fsz σ f))), (0, .ref (b + 0)), (1, .int (nI f)), (2, .int w), (3, .double (cx x)), (5, .double (cx y)), (7, .int u)] rfl ?_
                  refine z_aload_n C d_Mdl_sample_208 rfl 2 rfl ?_
                  refine gB_Mdl_sTime C d_Mdl_sample_209 tw_773  ?_
                  refine z_iload C d_Mdl_sample_212 0 rfl ?_
                  refine z_iload_n C d_Mdl_sample_214 rfl 4 rfl ?_
                  refine stB_m_sTime C (q := ((4 * f) + (fsz σ f))) d_Mdl_sample_215  rfl (by omega) ?_
                  refine z_aload_n C d_Mdl_sample_216 rfl 2 rfl ?_
                  refine gB_Mdl_sX C d_Mdl_sample_217 tw_774  ?_
                  refine z_iload C d_Mdl_sample_220 0 rfl ?_
                  refine z_dload_n C d_Mdl_sample_222 rfl 5 rfl ?_
                  refine z_ldc2d C (List.mem_cons_of_mem _ tw_1002) d_Mdl_sample_223 ?_
                  refine z_dmul C d_Mdl_sample_226 (cx_m64 x) ?_
                  refine z_d2l C d_Mdl_sample_227 ?_
                  refine stB_m_sX C (q := ((4 * f) + (fsz σ f))) d_Mdl_sample_228 rfl (by omega) ?_
                  refine z_aload_n C d_Mdl_sample_229 rfl 2 rfl ?_
                  refine gB_Mdl_sY C d_Mdl_sample_230 tw_775  ?_
                  refine z_iload C d_Mdl_sample_233 0 rfl ?_
                  refine z_dload C d_Mdl_sample_235 6 rfl ?_
                  refine z_ldc2d C (List.mem_cons_of_mem _ tw_1002) d_Mdl_sample_237 ?_
                  refine z_dmul C d_Mdl_sample_240 (cx_m64 y) ?_
                  refine z_d2l C d_Mdl_sample_241 ?_
                  refine stB_m_sY C (q := ((4 * f) + (fsz σ f))) d_Mdl_sample_242 rfl (by omega) ?_
                  refine z_aload_n C d_Mdl_sample_243 rfl 2 rfl ?_
                  refine gB_Mdl_sTurn C d_Mdl_sample_244 tw_776  ?_
                  refine z_iload C d_Mdl_sample_247 0 rfl ?_
                  refine z_iload C d_Mdl_sample_249 7 rfl ?_
                  refine stB_m_sTurn C (q := ((4 * f) + (fsz σ f))) d_Mdl_sample_251  rfl (by omega) ?_
                  refine z_aload_n C d_Mdl_sample_252 rfl 2 rfl ?_
                  refine gB_Mdl_samples C d_Mdl_sample_253 tw_772  ?_
                  refine z_iload_n C d_Mdl_sample_256 rfl 3 rfl ?_
                  refine z_iload C d_Mdl_sample_257 1 rfl ?_
                  refine z_iconst C (v := 1) d_Mdl_sample_259 (by decide) ?_
                  refine z_iadd C d_Mdl_sample_260 ?_
                  refine stB_m_samples C (q := f) d_Mdl_sample_261  rfl hf ?_
                  refine z_iload C d_Mdl_sample_262 1 rfl ?_
                  refine z_iconst C (v := 1) d_Mdl_sample_264 (by decide) ?_
                  refine z_iadd C d_Mdl_sample_265 ?_
                  exact hret _ _ _ _ d_Mdl_sample_266 (Pm_ok (fApp σ f (fsz σ f) w x y u) (by
      obtain ⟨a1, -⟩ := fApp_at (σ := σ) (i := f) (w := w) (x := x) (y := y) (u := u) hz4 (d := 0) (n := (fsz σ f)) (by omega)
      simp only [sampF, hcf, if_neg h11, if_neg hpar, if_neg h33, if_neg h41, if_neg h51, if_neg h61, if_neg hb9, a1]
      rw [show ((nI (fsz σ f)) + 1) = nI (fsz σ f + 1) from nI_1 _]) (by
      obtain ⟨-, -, -, hσ9, -⟩ := fApp_at (σ := σ) (i := f) (w := w) (x := x) (y := y) (u := u) hz4 (d := 0) (n := (fsz σ f)) (by omega)
      rw [hσ9.at (by decide), hσ9.at (by decide)]
      refine Rl_samp hf h0 h33 h41 h51 h61 hb9 (d := 0) (n := (fsz σ f)) (by omega) ?_ ?_ ?_ ?_ ?_
      · exact Off.uA (Off.uA (Off.uL (Off.uL (Off.uA Off.rf (by decide)) (by decide)) (by decide)) (by decide)) (by decide)
      · simp [upA, upL, nI_1]
      · intro k hk
        simp only [upA, upL]
        simp [pk_un (show 4 * f + k ≠ 4 * f + fsz σ f by omega), pk_uLn (show 4 * f + k ≠ 4 * f + fsz σ f by omega)]
      · simp [upA, upL, pk_us, pk_uLs, cx_mul, d2l_i2d]
      · intro j hj4
        simp only [upA, upL]
        simp [pk_un (show j ≠ 4 * f + fsz σ f by omega), pk_uLn (show j ≠ 4 * f + fsz σ f by omega)]))
                · have hz9 : fsz σ f = 4 := (nI_eq (by omega) (by decide)).mp h109
                  refine z_iconst C (v := 4) d_Mdl_sample_112 (by decide) ?_
                  refine z_iload_n C d_Mdl_sample_113 rfl 2 rfl ?_
                  refine z_imul C d_Mdl_sample_114 ?_
                  refine z_ri (x' := nI (4 * f)) (nmul (rfl : (4 : Int32) = nI 4) rfl) ?_
                  refine z_istore C d_Mdl_sample_115 (by decide) [(9, .int (nI (4 * f))), (8, .int (nI (fsz σ f))), (0, .ref (b + 0)), (1, .int (nI f)), (2, .int w), (3, .double (cx x)), (5, .double (cx y)), (7, .int u)] rfl ?_
                  refine z_loc [0, 1, 2, 3, 4, 5, 6, 7] rfl ?_
                  refine lp_Mdl_sample l D ca b C τ0 hf w x y u _ 3 0 rfl _ ⟨Off.rf, (sh_0 _ _).symm, (shJ_0 _ _).symm, (shJ_0 _ _).symm, (sh_0 _ _).symm⟩ (fun ρ k9 hp => ?_)
                  refine z_iconst C (v := 3) d_Mdl_sample_197 (by decide) ?_
                  refine z_istore C d_Mdl_sample_198 (by decide) [(8, .int 3), (9, .int (nI k9)), (0, .ref (b + 0)), (1, .int (nI f)), (2, .int w), (3, .double (cx x)), (5, .double (cx y)), (7, .int u)] rfl ?_
                  refine z_iconst C (v := 4) d_Mdl_sample_200 (by decide) ?_
                  refine z_iload_n C d_Mdl_sample_201 rfl 3 rfl ?_
                  refine z_imul C d_Mdl_sample_202 ?_
                  refine z_iload C d_Mdl_sample_203 0 rfl ?_
                  refine z_iadd C d_Mdl_sample_205 ?_
                  refine z_ri (x' := nI ((4 * f) + 3)) (nadd (nmul (rfl : (4 : Int32) = nI 4) rfl) (rfl : (3 : Int32) = nI 3)) ?_
                  refine z_istore C d_Mdl_sample_206 (by decide) [(9, .int (nI ((4 * f) + 3))), (8, .int 3), (0, .ref (b + 0)), (1, .int (nI f)), (2, .int w), (3, .double (cx x)), (5, .double (cx y)), (7, .int u)] rfl ?_
                  refine z_aload_n C d_Mdl_sample_208 rfl 2 rfl ?_
                  refine gB_Mdl_sTime C d_Mdl_sample_209 tw_773  ?_
                  refine z_iload C d_Mdl_sample_212 0 rfl ?_
                  refine z_iload_n C d_Mdl_sample_214 rfl 4 rfl ?_
                  refine stB_m_sTime C (q := ((4 * f) + 3)) d_Mdl_sample_215  rfl (by omega) ?_
                  refine z_aload_n C d_Mdl_sample_216 rfl 2 rfl ?_
                  refine gB_Mdl_sX C d_Mdl_sample_217 tw_774  ?_
                  refine z_iload C d_Mdl_sample_220 0 rfl ?_
                  refine z_dload_n C d_Mdl_sample_222 rfl 5 rfl ?_
                  refine z_ldc2d C (List.mem_cons_of_mem _ tw_1002) d_Mdl_sample_223 ?_
                  refine z_dmul C d_Mdl_sample_226 (cx_m64 x) ?_
                  refine z_d2l C d_Mdl_sample_227 ?_
                  refine stB_m_sX C (q := ((4 * f) + 3)) d_Mdl_sample_228 rfl (by omega) ?_
                  refine z_aload_n C d_Mdl_sample_229 rfl 2 rfl ?_
                  refine gB_Mdl_sY C d_Mdl_sample_230 tw_775  ?_
                  refine z_iload C d_Mdl_sample_233 0 rfl ?_
                  refine z_dload C d_Mdl_sample_235 6 rfl ?_
                  refine z_ldc2d C (List.mem_cons_of_mem _ tw_1002) d_Mdl_sample_237 ?_
                  refine z_dmul C d_Mdl_sample_240 (cx_m64 y) ?_
                  refine z_d2l C d_Mdl_sample_241 ?_
                  refine stB_m_sY C (q := ((4 * f) + 3)) d_Mdl_sample_242 rfl (by omega) ?_
                  refine z_aload_n C d_Mdl_sample_243 rfl 2 rfl ?_
                  refine gB_Mdl_sTurn C d_Mdl_sample_244 tw_776  ?_
                  refine z_iload C d_Mdl_sample_247 0 rfl ?_
                  refine z_iload C d_Mdl_sample_249 7 rfl ?_
                  refine stB_m_sTurn C (q := ((4 * f) + 3)) d_Mdl_sample_251  rfl (by omega) ?_
                  refine z_aload_n C d_Mdl_sample_252 rfl 2 rfl ?_
                  refine gB_Mdl_samples C d_Mdl_sample_253 tw_772  ?_
                  refine z_iload_n C d_Mdl_sample_256 rfl 3 rfl ?_
                  refine z_iload C d_Mdl_sample_257 1 rfl ?_
                  refine z_iconst C (v := 1) d_Mdl_sample_259 (by decide) ?_
                  refine z_iadd C d_Mdl_sample_260 ?_
                  refine stB_m_samples C (q := f) d_Mdl_sample_261  rfl hf ?_
                  refine z_iload C d_Mdl_sample_262 1 rfl ?_
                  refine z_iconst C (v := 1) d_Mdl_sample_264 (by decide) ?_
                  refine z_iadd C d_Mdl_sample_265 ?_
                  exact hret _ _ _ _ d_Mdl_sample_266 (Pm_ok (fApp σ f (fsz σ f) w x y u) (by
      obtain ⟨a1, -⟩ := fApp_at (σ := σ) (i := f) (w := w) (x := x) (y := y) (u := u) hz4 (d := 1) (n := 3) (by omega)
      simp only [sampF, hcf, if_neg h11, if_neg hpar, if_neg h33, if_neg h41, if_neg h51, if_neg h61, if_neg hb9, a1]
      rw [show (3 + 1) = nI (3 + 1) from rfl]) (by
      obtain ⟨-, -, -, hσ9, -⟩ := fApp_at (σ := σ) (i := f) (w := w) (x := x) (y := y) (u := u) hz4 (d := 1) (n := 3) (by omega)
      rw [hσ9.at (by decide), hσ9.at (by decide)]
      refine Rl_samp hf h0 h33 h41 h51 h61 hb9 (d := 1) (n := 3) (by omega) ?_ ?_ ?_ ?_ ?_
      · exact Off.uA (Off.uA (Off.uL (Off.uL (Off.uA (hp.1.mono (by decide)) (by decide)) (by decide)) (by decide)) (by decide)) (by decide)
      · obtain ⟨p1, p2, p3, p4, p5⟩ := hp
        simp [upA, upL, p1.at (f := 133) (by decide)]
        rfl
      · intro k hk
        obtain ⟨p1, p2, p3, p4, p5⟩ := hp
        have hs : ∀ g : Nat → Int32, sh g (4 * f) (4 * f + 3) (4 * f + k) = g (4 * f + (k + 1)) := fun g => by unfold sh; rw [if_pos (by omega)]; rfl
        have hj : ∀ g : Nat → Int64, shJ g (4 * f) (4 * f + 3) (4 * f + k) = g (4 * f + (k + 1)) := fun g => by unfold shJ; rw [if_pos (by omega)]; rfl
        simp only [upA, upL]
        simp [p2, p3, p4, p5, pk_un (show 4 * f + k ≠ 4 * f + 3 by omega), pk_uLn (show 4 * f + k ≠ 4 * f + 3 by omega), hs, hj]
      · simp [upA, upL, pk_us, pk_uLs, cx_mul, d2l_i2d]
      · intro j hj4
        obtain ⟨p1, p2, p3, p4, p5⟩ := hp
        have hs : ∀ g : Nat → Int32, sh g (4 * f) (4 * f + 3) j = g j := fun g => by unfold sh; rw [if_neg (by omega)]
        have hj : ∀ g : Nat → Int64, shJ g (4 * f) (4 * f + 3) j = g j := fun g => by unfold shJ; rw [if_neg (by omega)]
        simp only [upA, upL]
        simp [p2, p3, p4, p5, pk_un (show j ≠ 4 * f + 3 by omega), pk_uLn (show j ≠ 4 * f + 3 by omega), hs, hj]))
              · have hz0 : ¬ fsz σ f = 0 := fun z => h80 (by rw [z]; decide)
                have hlast := (hF.2.2 (fsz σ f - 1) (by show _ < fsz σ f; omega)).1
                refine z_iload_n C d_Mdl_sample_83 rfl 3 rfl ?_
                refine z_aload_n C d_Mdl_sample_84 rfl 1 rfl ?_
                refine gB_Mdl_sTime C d_Mdl_sample_85 tw_773  ?_
                refine z_iconst C (v := 4) d_Mdl_sample_88 (by decide) ?_
                refine z_iload_n C d_Mdl_sample_89 rfl 2 rfl ?_
                refine z_imul C d_Mdl_sample_90 ?_
                refine z_iload C d_Mdl_sample_91 0 rfl ?_
                refine z_iadd C d_Mdl_sample_93 ?_
                refine z_iconst C (v := 1) d_Mdl_sample_94 (by decide) ?_
                refine z_isub C d_Mdl_sample_95 ?_
                refine z_ri (x' := nI (4 * f + (fsz σ f - 1))) ((nsub (a := 4 * f + fsz σ f) (b := 1) (nadd (nmul (rfl : (4 : Int32) = nI 4) rfl) rfl) (rfl : (1 : Int32) = nI 1) (by omega)).trans (by congr 1; omega)) ?_
                refine lB_m_sTime C (q := (4 * f + (fsz σ f - 1))) d_Mdl_sample_96  rfl (by omega) ?_
                refine z_icmp_gt C 106 d_Mdl_sample_97 (by decide) (fun h97 => ?_) (fun h97 => ?_)
                · have hb9 : ¬ fBeh σ f (fsz σ f) w = 0 := by
                    unfold fBeh
                    first | (rw [if_pos hz0]; decide) | (rw [if_neg hz0, if_neg (fun z => absurd h97 (Int32.not_lt.mpr (by rw [hlast]; exact z)))]; decide)
                  refine z_iload C d_Mdl_sample_106 0 rfl ?_
                  refine z_iconst C (v := 4) d_Mdl_sample_108 (by decide) ?_
                  refine z_icmp_ne C 200 d_Mdl_sample_109 (by decide) (fun h109 => ?_) (fun h109 => ?_)
                  · have hz9 : fsz σ f < 4 := by
                      have : ¬ fsz σ f = 4 := fun z => h109 (by rw [z]; rfl)
                      omega
                    refine z_iconst C (v := 4) d_Mdl_sample_200 (by decide) ?_
                    refine z_iload_n C d_Mdl_sample_201 rfl 2 rfl ?_
                    refine z_imul C d_Mdl_sample_202 ?_
                    refine z_iload C d_Mdl_sample_203 0 rfl ?_
                    refine z_iadd C d_Mdl_sample_205 ?_
                    refine z_ri (x' := nI ((4 * f) + (fsz σ f))) (nadd (nmul (rfl : (4 : Int32) = nI 4) rfl) rfl) ?_
                    refine z_istore C d_Mdl_sample_206 (by decide) [(9, .int (nI ((4 * f) + (fsz σ f)))), (8, .int (nI (fsz σ f))), (0, .ref (b + 0)), (1, .int (nI f)), (2, .int w), (3, .double (cx x)), (5, .double (cx y)), (7, .int u)] rfl ?_
                    refine z_aload_n C d_Mdl_sample_208 rfl 2 rfl ?_
                    refine gB_Mdl_sTime C d_Mdl_sample_209 tw_773  ?_
                    refine z_iload C d_Mdl_sample_212 0 rfl ?_
                    refine z_iload_n C d_Mdl_sample_214 rfl 4 rfl ?_
                    refine stB_m_sTime C (q := ((4 * f) + (fsz σ f))) d_Mdl_sample_215  rfl (by omega) ?_
                    refine z_aload_n C d_Mdl_sample_216 rfl 2 rfl ?_
                    refine gB_Mdl_sX C d_Mdl_sample_217 tw_774  ?_
                    refine z_iload C d_Mdl_sample_220 0 rfl ?_
                    refine z_dload_n C d_Mdl_sample_222 rfl 5 rfl ?_
                    refine z_ldc2d C (List.mem_cons_of_mem _ tw_1002) d_Mdl_sample_223 ?_
                    refine z_dmul C d_Mdl_sample_226 (cx_m64 x) ?_
                    refine z_d2l C d_Mdl_sample_227 ?_
                    refine stB_m_sX C (q := ((4 * f) + (fsz σ f))) d_Mdl_sample_228 rfl (by omega) ?_
                    refine z_aload_n C d_Mdl_sample_229 rfl 2 rfl ?_
                    refine gB_Mdl_sY C d_Mdl_sample_230 tw_775  ?_
                    refine z_iload C d_Mdl_sample_233 0 rfl ?_
                    refine z_dload C d_Mdl_sample_235 6 rfl ?_
                    refine z_ldc2d C (List.mem_cons_of_mem _ tw_1002) d_Mdl_sample_237 ?_
                    refine z_dmul C d_Mdl_sample_240 (cx_m64 y) ?_
                    refine z_d2l C d_Mdl_sample_241 ?_
                    refine stB_m_sY C (q := ((4 * f) + (fsz σ f))) d_Mdl_sample_242 rfl (by omega) ?_
                    refine z_aload_n C d_Mdl_sample_243 rfl 2 rfl ?_
                    refine gB_Mdl_sTurn C d_Mdl_sample_244 tw_776  ?_
                    refine z_iload C d_Mdl_sample_247 0 rfl ?_
                    refine z_iload C d_Mdl_sample_249 7 rfl ?_
                    refine stB_m_sTurn C (q := ((4 * f) + (fsz σ f))) d_Mdl_sample_251  rfl (by omega) ?_
                    refine z_aload_n C d_Mdl_sample_252 rfl 2 rfl ?_
                    refine gB_Mdl_samples C d_Mdl_sample_253 tw_772  ?_
                    refine z_iload_n C d_Mdl_sample_256 rfl 3 rfl ?_
                    refine z_iload C d_Mdl_sample_257 1 rfl ?_
                    refine z_iconst C (v := 1) d_Mdl_sample_259 (by decide) ?_
                    refine z_iadd C d_Mdl_sample_260 ?_
                    refine stB_m_samples C (q := f) d_Mdl_sample_261  rfl hf ?_
                    refine z_iload C d_Mdl_sample_262 1 rfl ?_
                    refine z_iconst C (v := 1) d_Mdl_sample_264 (by decide) ?_
                    refine z_iadd C d_Mdl_sample_265 ?_
                    exact hret _ _ _ _ d_Mdl_sample_266 (Pm_ok (fApp σ f (fsz σ f) w x y u) (by
      obtain ⟨a1, -⟩ := fApp_at (σ := σ) (i := f) (w := w) (x := x) (y := y) (u := u) hz4 (d := 0) (n := (fsz σ f)) (by omega)
      simp only [sampF, hcf, if_neg h11, if_neg hpar, if_neg h33, if_neg h41, if_neg h51, if_neg h61, if_neg hb9, a1]
      rw [show ((nI (fsz σ f)) + 1) = nI (fsz σ f + 1) from nI_1 _]) (by
      obtain ⟨-, -, -, hσ9, -⟩ := fApp_at (σ := σ) (i := f) (w := w) (x := x) (y := y) (u := u) hz4 (d := 0) (n := (fsz σ f)) (by omega)
      rw [hσ9.at (by decide), hσ9.at (by decide)]
      refine Rl_samp hf h0 h33 h41 h51 h61 hb9 (d := 0) (n := (fsz σ f)) (by omega) ?_ ?_ ?_ ?_ ?_
      · exact Off.uA (Off.uA (Off.uL (Off.uL (Off.uA Off.rf (by decide)) (by decide)) (by decide)) (by decide)) (by decide)
      · simp [upA, upL, nI_1]
      · intro k hk
        simp only [upA, upL]
        simp [pk_un (show 4 * f + k ≠ 4 * f + fsz σ f by omega), pk_uLn (show 4 * f + k ≠ 4 * f + fsz σ f by omega)]
      · simp [upA, upL, pk_us, pk_uLs, cx_mul, d2l_i2d]
      · intro j hj4
        simp only [upA, upL]
        simp [pk_un (show j ≠ 4 * f + fsz σ f by omega), pk_uLn (show j ≠ 4 * f + fsz σ f by omega)]))
                  · have hz9 : fsz σ f = 4 := (nI_eq (by omega) (by decide)).mp h109
                    refine z_iconst C (v := 4) d_Mdl_sample_112 (by decide) ?_
                    refine z_iload_n C d_Mdl_sample_113 rfl 2 rfl ?_
                    refine z_imul C d_Mdl_sample_114 ?_
                    refine z_ri (x' := nI (4 * f)) (nmul (rfl : (4 : Int32) = nI 4) rfl) ?_
                    refine z_istore C d_Mdl_sample_115 (by decide) [(9, .int (nI (4 * f))), (8, .int (nI (fsz σ f))), (0, .ref (b + 0)), (1, .int (nI f)), (2, .int w), (3, .double (cx x)), (5, .double (cx y)), (7, .int u)] rfl ?_
                    refine z_loc [0, 1, 2, 3, 4, 5, 6, 7] rfl ?_
                    refine lp_Mdl_sample l D ca b C τ0 hf w x y u _ 3 0 rfl _ ⟨Off.rf, (sh_0 _ _).symm, (shJ_0 _ _).symm, (shJ_0 _ _).symm, (sh_0 _ _).symm⟩ (fun ρ k9 hp => ?_)
                    refine z_iconst C (v := 3) d_Mdl_sample_197 (by decide) ?_
                    refine z_istore C d_Mdl_sample_198 (by decide) [(8, .int 3), (9, .int (nI k9)), (0, .ref (b + 0)), (1, .int (nI f)), (2, .int w), (3, .double (cx x)), (5, .double (cx y)), (7, .int u)] rfl ?_
                    refine z_iconst C (v := 4) d_Mdl_sample_200 (by decide) ?_
                    refine z_iload_n C d_Mdl_sample_201 rfl 3 rfl ?_
                    refine z_imul C d_Mdl_sample_202 ?_
                    refine z_iload C d_Mdl_sample_203 0 rfl ?_
                    refine z_iadd C d_Mdl_sample_205 ?_
                    refine z_ri (x' := nI ((4 * f) + 3)) (nadd (nmul (rfl : (4 : Int32) = nI 4) rfl) (rfl : (3 : Int32) = nI 3)) ?_
                    refine z_istore C d_Mdl_sample_206 (by decide) [(9, .int (nI ((4 * f) + 3))), (8, .int 3), (0, .ref (b + 0)), (1, .int (nI f)), (2, .int w), (3, .double (cx x)), (5, .double (cx y)), (7, .int u)] rfl ?_
                    refine z_aload_n C d_Mdl_sample_208 rfl 2 rfl ?_
                    refine gB_Mdl_sTime C d_Mdl_sample_209 tw_773  ?_
                    refine z_iload C d_Mdl_sample_212 0 rfl ?_
                    refine z_iload_n C d_Mdl_sample_214 rfl 4 rfl ?_
                    refine stB_m_sTime C (q := ((4 * f) + 3)) d_Mdl_sample_215  rfl (by omega) ?_
                    refine z_aload_n C d_Mdl_sample_216 rfl 2 rfl ?_
                    refine gB_Mdl_sX C d_Mdl_sample_217 tw_774  ?_
                    refine z_iload C d_Mdl_sample_220 0 rfl ?_
                    refine z_dload_n C d_Mdl_sample_222 rfl 5 rfl ?_
                    refine z_ldc2d C (List.mem_cons_of_mem _ tw_1002) d_Mdl_sample_223 ?_
                    refine z_dmul C d_Mdl_sample_226 (cx_m64 x) ?_
                    refine z_d2l C d_Mdl_sample_227 ?_
                    refine stB_m_sX C (q := ((4 * f) + 3)) d_Mdl_sample_228 rfl (by omega) ?_
                    refine z_aload_n C d_Mdl_sample_229 rfl 2 rfl ?_
                    refine gB_Mdl_sY C d_Mdl_sample_230 tw_775  ?_
                    refine z_iload C d_Mdl_sample_233 0 rfl ?_
                    refine z_dload C d_Mdl_sample_235 6 rfl ?_
                    refine z_ldc2d C (List.mem_cons_of_mem _ tw_1002) d_Mdl_sample_237 ?_
                    refine z_dmul C d_Mdl_sample_240 (cx_m64 y) ?_
                    refine z_d2l C d_Mdl_sample_241 ?_
                    refine stB_m_sY C (q := ((4 * f) + 3)) d_Mdl_sample_242 rfl (by omega) ?_
                    refine z_aload_n C d_Mdl_sample_243 rfl 2 rfl ?_
                    refine gB_Mdl_sTurn C d_Mdl_sample_244 tw_776  ?_
                    refine z_iload C d_Mdl_sample_247 0 rfl ?_
                    refine z_iload C d_Mdl_sample_249 7 rfl ?_
                    refine stB_m_sTurn C (q := ((4 * f) + 3)) d_Mdl_sample_251  rfl (by omega) ?_
                    refine z_aload_n C d_Mdl_sample_252 rfl 2 rfl ?_
                    refine gB_Mdl_samples C d_Mdl_sample_253 tw_772  ?_
                    refine z_iload_n C d_Mdl_sample_256 rfl 3 rfl ?_
                    refine z_iload C d_Mdl_sample_257 1 rfl ?_
                    refine z_iconst C (v := 1) d_Mdl_sample_259 (by decide) ?_
                    refine z_iadd C d_Mdl_sample_260 ?_
                    refine stB_m_samples C (q := f) d_Mdl_sample_261  rfl hf ?_
                    refine z_iload C d_Mdl_sample_262 1 rfl ?_
                    refine z_iconst C (v := 1) d_Mdl_sample_264 (by decide) ?_
                    refine z_iadd C d_Mdl_sample_265 ?_
                    exact hret _ _ _ _ d_Mdl_sample_266 (Pm_ok (fApp σ f (fsz σ f) w x y u) (by
      obtain ⟨a1, -⟩ := fApp_at (σ := σ) (i := f) (w := w) (x := x) (y := y) (u := u) hz4 (d := 1) (n := 3) (by omega)
      simp only [sampF, hcf, if_neg h11, if_neg hpar, if_neg h33, if_neg h41, if_neg h51, if_neg h61, if_neg hb9, a1]
      rw [show (3 + 1) = nI (3 + 1) from rfl]) (by
      obtain ⟨-, -, -, hσ9, -⟩ := fApp_at (σ := σ) (i := f) (w := w) (x := x) (y := y) (u := u) hz4 (d := 1) (n := 3) (by omega)
      rw [hσ9.at (by decide), hσ9.at (by decide)]
      refine Rl_samp hf h0 h33 h41 h51 h61 hb9 (d := 1) (n := 3) (by omega) ?_ ?_ ?_ ?_ ?_
      · exact Off.uA (Off.uA (Off.uL (Off.uL (Off.uA (hp.1.mono (by decide)) (by decide)) (by decide)) (by decide)) (by decide)) (by decide)
      · obtain ⟨p1, p2, p3, p4, p5⟩ := hp
        simp [upA, upL, p1.at (f := 133) (by decide)]
        rfl
      · intro k hk
        obtain ⟨p1, p2, p3, p4, p5⟩ := hp
        have hs : ∀ g : Nat → Int32, sh g (4 * f) (4 * f + 3) (4 * f + k) = g (4 * f + (k + 1)) := fun g => by unfold sh; rw [if_pos (by omega)]; rfl
        have hj : ∀ g : Nat → Int64, shJ g (4 * f) (4 * f + 3) (4 * f + k) = g (4 * f + (k + 1)) := fun g => by unfold shJ; rw [if_pos (by omega)]; rfl
        simp only [upA, upL]
        simp [p2, p3, p4, p5, pk_un (show 4 * f + k ≠ 4 * f + 3 by omega), pk_uLn (show 4 * f + k ≠ 4 * f + 3 by omega), hs, hj]
      · simp [upA, upL, pk_us, pk_uLs, cx_mul, d2l_i2d]
      · intro j hj4
        obtain ⟨p1, p2, p3, p4, p5⟩ := hp
        have hs : ∀ g : Nat → Int32, sh g (4 * f) (4 * f + 3) j = g j := fun g => by unfold sh; rw [if_neg (by omega)]
        have hj : ∀ g : Nat → Int64, shJ g (4 * f) (4 * f + 3) j = g j := fun g => by unfold shJ; rw [if_neg (by omega)]
        simp only [upA, upL]
        simp [p2, p3, p4, p5, pk_un (show j ≠ 4 * f + 3 by omega), pk_uLn (show j ≠ 4 * f + 3 by omega), hs, hj]))
                · have hb9 : fBeh σ f (fsz σ f) w = 0 := by
                    unfold fBeh
                    rw [if_neg hz0, if_pos (by rw [← hlast]; exact Int32.not_lt.mp h97)]
                  refine z_aload_n C d_Mdl_sample_100 rfl 1 rfl ?_
                  refine z_iconst C (v := 3) d_Mdl_sample_101 (by decide) ?_
                  refine zf_Vi C d_Mdl_sample_102 (c_Mdl_raise l D ca b τ0 3) tw_891 tw_893 tp_Mdl_raise tw_10 tw_894 pd_Mdl_raise ⟨⟨by decide, by decide⟩, rfl, rfl, by decide, by decide⟩ (by omega) rfl (eB_Mdl ) rfl (Nat.le_of_ble_eq_true rfl) rfl ?_
                  exact hret _ _ _ _ d_Mdl_sample_105 (Pm_err xISE (by simp [sampF, *]) (by decide +kernel) (Rl_e h0))
            · refine z_aload_n C d_Mdl_sample_64 rfl 0 rfl ?_
              refine z_iconst C (v := 2) d_Mdl_sample_65 (by decide) ?_
              refine zf_Vi C d_Mdl_sample_66 (c_Mdl_raise l D ca b τ0 2) tw_891 tw_893 tp_Mdl_raise tw_10 tw_894 pd_Mdl_raise ⟨⟨by decide, by decide⟩, rfl, rfl, by decide, by decide⟩ (by omega) rfl (eB_Mdl ) rfl (Nat.le_of_ble_eq_true rfl) rfl ?_
              exact hret _ _ _ _ d_Mdl_sample_69 (Pm_err xIAE (by simp [sampF, *]) (by decide +kernel) (Rl_e h0))
    · have hF := h0.2.2.2.2.2.2.2.2.2.2.2.1 f hf
      have hFV := h0.2.2.2.2.2.2.2.2.2.2.2.2.1
      have hpar : σ.1 60 f 0 0 = -1 := (hFV.2.1 f hf).resolve_right (fun ⟨q, hq, z⟩ => h20 (by rw [hF.1, z]; exact nI_pos' (by omega)))
      refine z_aload_n C d_Mdl_sample_23 rfl 0 rfl ?_
      refine z_iconst C (v := 1) d_Mdl_sample_24 (by decide) ?_
      refine zf_Vi C d_Mdl_sample_25 (c_Mdl_raise l D ca b τ0 1) tw_891 tw_893 tp_Mdl_raise tw_10 tw_894 pd_Mdl_raise ⟨⟨by decide, by decide⟩, rfl, rfl, by decide, by decide⟩ (by omega) rfl (eB_Mdl ) rfl (Nat.le_of_ble_eq_true rfl) rfl ?_
      exact hret _ _ _ _ d_Mdl_sample_28 (Pm_err xNSE (by simp [sampF, *]) (by decide +kernel) (Rl_e h0))
