/-! The frames above one another, and mount -/
def AC (σ : Sg) : Prop := ∃ r : Nat → Nat, ∀ f p, f < 6 → p < 6 → σ.1 60 f 0 0 = nI p → r p < r f
def rk (r : Nat → Nat) (x : Nat) : Nat := (if r 0 < r x then 1 else 0) + (if r 1 < r x then 1 else 0) + (if r 2 < r x then 1 else 0) + (if r 3 < r x then 1 else 0) + (if r 4 < r x then 1 else 0) + (if r 5 < r x then 1 else 0)
theorem rk_t {r : Nat → Nat} {y p f : Nat} (h : r p < r f) : (if r y < r p then 1 else 0) ≤ (if r y < r f then 1 else 0) := by
  by_cases h1 : r y < r p
  · rw [if_pos h1, if_pos (by omega)]; exact Nat.le_refl _
  · rw [if_neg h1]; exact Nat.zero_le _
theorem rk_lt {r : Nat → Nat} {p f : Nat} (hp : p < 6) (h : r p < r f) : rk r p < rk r f := by
  have t := fun y => rk_t (y := y) h
  have t0 := t 0
  have t1 := t 1
  have t2 := t 2
  have t3 := t 3
  have t4 := t 4
  have t5 := t 5
  have e0 : (if r p < r p then 1 else 0) = 0 := if_neg (Nat.lt_irrefl _)
  have e1 : (if r p < r f then 1 else 0) = 1 := if_pos h
  unfold rk
  have h9 : p = 0 ∨ p = 1 ∨ p = 2 ∨ p = 3 ∨ p = 4 ∨ p = 5 := by omega
  rcases h9 with rfl | rfl | rfl | rfl | rfl | rfl <;> omega
theorem rk_6 {r : Nat → Nat} {x : Nat} (hx : x < 6) : rk r x < 6 := by
  have b : ∀ y, (if r y < r x then 1 else 0) ≤ 1 := fun y => by split <;> omega
  have b0 := b 0
  have b1 := b 1
  have b2 := b 2
  have b3 := b 3
  have b4 := b 4
  have b5 := b 5
  have e0 : (if r x < r x then 1 else 0) = 0 := if_neg (Nat.lt_irrefl _)
  unfold rk
  have h9 : x = 0 ∨ x = 1 ∨ x = 2 ∨ x = 3 ∨ x = 4 ∨ x = 5 := by omega
  rcases h9 with rfl | rfl | rfl | rfl | rfl | rfl <;> omega
theorem AC_bd {σ : Sg} (h : AC σ) : ∃ r : Nat → Nat, (∀ f, f < 6 → r f < 6) ∧ ∀ f p, f < 6 → p < 6 → σ.1 60 f 0 0 = nI p → r p < r f := by
  obtain ⟨r, hr⟩ := h
  exact ⟨rk r, fun f hf => rk_6 hf, fun f p hf hp he => rk_lt hp (hr f p hf hp he)⟩
theorem nI_m1 {k : Nat} (h : k < 6) : ¬ nI k = -1 := by
  intro z
  have := congrArg Int32.toInt z
  rw [nI_toInt (by omega), show (-1 : Int32).toInt = -1 by decide] at this
  omega
theorem abv_m1 {σ : Sg} {u : Int32} : ∀ m, abv σ u m (-1) = 0 := by
  intro m
  cases m with
  | zero => rfl
  | succ m => unfold abv; exact if_pos rfl
/-- the fuel doesn't matter where it reaches -/
theorem abv_more {σ : Sg} {u : Int32} {r : Nat → Nat} (hF : FP σ) (hr : ∀ f p, f < 6 → p < 6 → σ.1 60 f 0 0 = nI p → r p < r f) : ∀ m y, y < 6 → r y < m → abv σ u (m + 1) (nI y) = abv σ u m (nI y) := by
  intro m
  induction m with
  | zero => intro y _ h; exact absurd h (by omega)
  | succ m ih =>
    intro y hy h
    show (if nI y = -1 then 0 else if nI y = u then 1 else abv σ u (m + 1) (σ.1 60 (nI y).toNatClampNeg 0 0)) = if nI y = -1 then 0 else if nI y = u then 1 else abv σ u m (σ.1 60 (nI y).toNatClampNeg 0 0)
    by_cases h1 : nI y = -1
    · rw [if_pos h1, if_pos h1]
    · rw [if_neg h1, if_neg h1]
      by_cases h2 : nI y = u
      · rw [if_pos h2, if_pos h2]
      · rw [if_neg h2, if_neg h2, nI_clamp (by omega)]
        rcases hF y hy with h3 | ⟨p, hp, h3⟩
        · rw [h3, abv_m1, abv_m1]
        · rw [h3]
          have := hr y p hy hp h3
          exact ih p hp (by omega)
theorem abv_step {σ : Sg} {u : Int32} {r : Nat → Nat} (hF : FP σ) (h6 : ∀ f, f < 6 → r f < 6) (hr : ∀ f p, f < 6 → p < 6 → σ.1 60 f 0 0 = nI p → r p < r f) {y : Nat} (hy : y < 6) : abv σ u 6 (nI y) = if nI y = u then 1 else abv σ u 6 (σ.1 60 y 0 0) := by
  rw [show abv σ u 6 (nI y) = if nI y = -1 then 0 else if nI y = u then 1 else abv σ u 5 (σ.1 60 (nI y).toNatClampNeg 0 0) from rfl, if_neg (nI_m1 hy), nI_clamp (by omega)]
  rcases hF y hy with h3 | ⟨p, hp, h3⟩
  · rw [h3, abv_m1, abv_m1]
  · rw [h3]
    have h4 := hr y p hy hp h3
    have h5 := h6 y hy
    rw [abv_more hF hr 5 p hp (by omega)]
theorem AC_mount {σ : Sg} {f p : Nat} (hf : f < 6) (hp : p < 6) (hF : FP σ) (hA : AC σ) (hn : abv σ (nI f) 6 (nI p) = 0) : AC (us (us σ 60 f 0 (nI p)) 61 f 0 0) := by
  obtain ⟨r, h6, hr⟩ := AC_bd hA
  refine ⟨fun x => if abv σ (nI f) 6 (nI x) = 1 then r x + r p + 1 else r x, fun x q hx hq he => ?_⟩
  rw [us_f (by decide)] at he
  by_cases hxf : x = f
  · subst hxf
    rw [us_self] at he
    have hpq : p = q := (nI_eq (by omega) (by omega)).mp he
    subst hpq
    have h1 : abv σ (nI x) 6 (nI x) = 1 := by rw [abv_step hF h6 hr hx, if_pos rfl]
    simp only [h1, hn, if_true]
    rw [if_neg (by decide)]
    omega
  · rw [us_ne (by simp; omega)] at he
    have hrq := hr x q hx hq he
    have h1 : abv σ (nI f) 6 (nI x) = abv σ (nI f) 6 (nI q) := by
      rw [abv_step hF h6 hr hx, if_neg (fun z => hxf ((nI_eq (by omega) (by omega)).mp z)), he]
    simp only [h1]
    split <;> omega
theorem Rl_mount {e p0 a : Int32} {σ τ ρ : Sg} {f p : Nat} (hf : f < 6) (hf0 : f ≠ 0) (hp : p < 6) (h0 : Rl e p0 a σ τ) (hn : abv σ (nI f) 6 (nI p) = 0) (ho : Off [132, 133] τ ρ) (r1 : ρ.1 132 0 0 = upd (τ.1 132 0 0) f (nI p)) (r2 : ρ.1 133 0 0 = upd (τ.1 133 0 0) f 0) : Rl e p0 a (us (us σ 60 f 0 (nI p)) 61 f 0 0) ρ := by
  have hσ : Off [60, 61] σ (us (us σ 60 f 0 (nI p)) 61 f 0 0) := (Off.rf.us (by decide)).us (by decide)
  have gF := h0.2.2.2.2.2.2.2.2.2.2.2.1
  obtain ⟨v1, v2, v3, v4, v5⟩ := h0.2.2.2.2.2.2.2.2.2.2.2.2.1
  have e60 : (us (us σ 60 f 0 (nI p)) 61 f 0 0).1 60 f 0 0 = nI p := by rw [us_f (by decide), us_self]
  have e61 : (us (us σ 60 f 0 (nI p)) 61 f 0 0).1 61 f 0 0 = 0 := us_self
  have en : ∀ k f', ¬ f' = f → (us (us σ 60 f 0 (nI p)) 61 f 0 0).1 k f' 0 = σ.1 k f' 0 := fun k f' h => by rw [us_ne (by simp; omega), us_ne (by simp; omega)]
  have z0 : (0 : Int32).toNatClampNeg = 0 := by decide
  refine h0.upd [60, 61] [132, 133] hσ ho (by rw [ho.at (by decide)]; exact h0.1) (Or.inl ⟨rfl, rfl, rfl⟩) (Or.inl rfl) (Or.inl rfl) (Or.inl rfl) (Or.inl rfl) (Or.inl rfl) (Or.inl rfl) (Or.inl rfl) (Or.inl rfl) (Or.inl rfl) (Or.inr ?_) (Or.inr ?_) (Or.inl rfl) (Or.inl rfl)
  · intro f' hf'
    obtain ⟨g1, g2, g3⟩ := gF f' hf'
    rw [r1, r2, hσ.at (f := 62) (by decide), hσ.at (f := 63) (by decide), hσ.at (f := 64) (by decide), hσ.at (f := 65) (by decide), ho.at (f := 134) (by decide), ho.atL (f := 135) (by decide), ho.atL (f := 136) (by decide), ho.at (f := 137) (by decide)]
    by_cases he : f' = f
    · subst he
      rw [pk_us, pk_us, e60, e61, z0]
      exact ⟨rfl, rfl, fun k hk => absurd hk (by omega)⟩
    · rw [pk_un he, pk_un he, en _ _ he, en _ _ he]
      exact ⟨g1, g2, g3⟩
  · refine ⟨fun f' hf' => ?_, fun f' hf' => ?_, fun f' hf' => ?_, AC_mount hf hp v2 v4 hn, by rw [en _ _ (Ne.symm hf0)]; exact v5⟩
    · unfold fsz ftn
      by_cases he : f' = f
      · subst he
        rw [e61, z0]
        exact ⟨rfl, by decide, fun k hk => absurd hk (by omega)⟩
      · rw [en _ _ he, hσ.at (f := 65) (by decide)]
        exact v1 f' hf'
    · by_cases he : f' = f
      · subst he
        rw [e60]
        exact Or.inr ⟨p, hp, rfl⟩
      · rw [en _ _ he]
        exact v2 f' hf'
    · rw [hσ.at (f := 62) (by decide), hσ.at (f := 63) (by decide), hσ.at (f := 64) (by decide)]
      by_cases he : f' = f
      · subst he
        rw [e61, z0]
        exact fun k hk => absurd hk (by omega)
      · rw [en _ _ he]
        exact v3 f' hf'
theorem wit15 {x : Int32} : wit x 1 5 = 0 ↔ (x = 0 ∨ bel x 6 = 0) := by
  constructor
  · intro h
    by_cases h1 : bel x 6 = 0
    · exact Or.inr h1
    · left
      obtain ⟨k, hk, rfl⟩ := bel_nat (n := 6) (by decide) h1
      have h9 : k = 0 ∨ k = 1 ∨ k = 2 ∨ k = 3 ∨ k = 4 ∨ k = 5 := by omega
      rcases h9 with rfl | rfl | rfl | rfl | rfl | rfl
      · rfl
      all_goals exact absurd h (by decide)
  · rintro (rfl | h)
    · decide
    · exact Decidable.byContradiction (fun z => by
        obtain ⟨k, h1, h2, rfl⟩ := wit_nat (lo := 1) (hi := 5) (by decide) (by decide) z
        exact absurd ((bel_in (k := k) (n := 6) (by omega) (by decide)).symm.trans h) (by decide))
set_option maxRecDepth 100000 in
set_option maxHeartbeats 4000000 in
theorem lp_Mdl_mount (l : Launch) (D : va_G) (ca : Nat → ClassId) (b : Nat) {R : Room} {X : Zx} {y0 : MethodName} {c0 : ByteArray} {n0 : Nat} {r0 : Option FieldType} (C : Cs D ca b_Mdl_mount 4 "RobotBusModel" (Cond.code y0 c0 n0 r0) X) {σ τ : Sg} {f p : Nat} (hP : ∀ k, k < 6 → τ.1 132 0 0 k = σ.1 60 k 0 0) (hF : FP σ) {r : Nat → Nat} (hr : ∀ f p, f < 6 → p < 6 → σ.1 60 f 0 0 = nI p → r p < r f) (k1 : ∀ y', abv σ (nI f) 6 (nI p) = 1 → Zs l D ca SM b 31 R 4 X τ 40 [(3, .int y'), (0, .ref (b + 0)), (1, .int (nI f)), (2, .int (nI p))] []) (k0 : ∀ y', abv σ (nI f) 6 (nI p) = 0 → Zs l D ca SM b 31 R 4 X τ 56 [(3, .int y'), (0, .ref (b + 0)), (1, .int (nI f)), (2, .int (nI p))] []) : ∀ m (y : Int32), (y = -1 ∨ ∃ k, k < 6 ∧ y = nI k ∧ r k < m) → abv σ (nI f) 6 (nI p) = abv σ (nI f) m y → Zs l D ca SM b 31 R 4 X τ 31 [(3, .int y), (0, .ref (b + 0)), (1, .int (nI f)), (2, .int (nI p))] [] := by
  intro m
  induction m with
  | zero =>
    intro y hy he
    have hy1 : y = -1 := hy.resolve_right (fun ⟨k, _, _, h⟩ => absurd h (by omega))
    subst hy1
    refine z_iload_n C d_Mdl_mount_31 rfl 0 rfl ?_
    refine z_if_lt C 56 d_Mdl_mount_32 (by decide) (fun h32 => ?_) (fun h32 => False.elim (h32 (by decide)))
    exact k0 _ he
  | succ m ih =>
    intro y hy he
    rcases hy with rfl | ⟨k, hk, rfl, hrk⟩
    · rw [abv_m1] at he
      refine z_iload_n C d_Mdl_mount_31 rfl 0 rfl ?_
      refine z_if_lt C 56 d_Mdl_mount_32 (by decide) (fun h32 => ?_) (fun h32 => False.elim (h32 (by decide)))
      exact k0 _ he
    · rw [show abv σ (nI f) (m + 1) (nI k) = if nI k = -1 then 0 else if nI k = nI f then 1 else abv σ (nI f) m (σ.1 60 (nI k).toNatClampNeg 0 0) from rfl, if_neg (nI_m1 hk), nI_clamp (by omega)] at he
      refine z_iload_n C d_Mdl_mount_31 rfl 0 rfl ?_
      refine z_if_lt C 56 d_Mdl_mount_32 (by decide) (fun h32 => False.elim (nI_pos (by omega) h32)) (fun h32 => ?_)
      refine z_iload_n C d_Mdl_mount_35 rfl 0 rfl ?_
      refine z_iload_n C d_Mdl_mount_36 rfl 2 rfl ?_
      refine z_icmp_ne C 46 d_Mdl_mount_37 (by decide) (fun h37 => ?_) (fun h37 => ?_)
      · rw [if_neg h37] at he
        refine z_aload_n C d_Mdl_mount_46 rfl 1 rfl ?_
        refine gB_Mdl_parent C d_Mdl_mount_47 tw_771  ?_
        refine z_iload_n C d_Mdl_mount_50 rfl 0 rfl ?_
        refine lB_m_parent C (q := k) d_Mdl_mount_51  rfl hk ?_
        refine z_ri (x' := σ.1 60 k 0 0) (hP k hk) ?_
        refine z_istore_n C d_Mdl_mount_52 rfl (by decide) [(3, .int (σ.1 60 k 0 0)), (0, .ref (b + 0)), (1, .int (nI f)), (2, .int (nI p))] rfl ?_
        refine z_goto C 31 d_Mdl_mount_53 (by decide) ?_
        refine ih _ ?_ he
        rcases hF k hk with h3 | ⟨q, hq, h3⟩
        · exact Or.inl h3
        · exact Or.inr ⟨q, hq, h3, by have := hr k q hk hq h3; omega⟩
      · rw [if_pos h37] at he
        exact k1 _ he
set_option maxRecDepth 100000 in
set_option maxHeartbeats 4000000 in
/-- mountF of the model -/
theorem c_Mdl_mount (l : Launch) (D : va_G) (ca : Nat → ClassId) (b : Nat) (τ : Sg) {σ : Sg} (e : Int32) (x y : Int32) (h : Rl e (σ.1 3 0 0 0) (σ.1 4 0 0 0) σ τ) : CtI l D ca SM b 31 y_Mdl_mount w_Mdl_mount (rmN 1 22) τ [.ref (b + 0), .int x, .int y] (fun r τ' => Pm [xIAE, xISE] (mountF σ x y) r τ') := by
  refine ct_i "RobotBusModel" [(0, .ref (b + 0)), (1, .int x), (2, .int y)] (by decide) rfl (Nat.le_of_ble_eq_true rfl) rfl (fun X C hret => ?_)
  refine z_aload_n C d_Mdl_mount_0 rfl 0 rfl ?_
  refine z_iconst C (v := 0) d_Mdl_mount_1 (by decide) ?_
  refine pB_Mdl_thrown C d_Mdl_mount_2 tw_739  ?_
  have h0 := Rl_e (e' := 0) h
  generalize us τ 100 0 0 0 = τ0 at h0 ⊢
  refine z_iload_n C d_Mdl_mount_5 rfl 1 rfl ?_
  refine z_iconst C (v := 1) d_Mdl_mount_6 (by decide) ?_
  refine z_iconst C (v := 5) d_Mdl_mount_7 (by decide) ?_
  refine zf_Si C d_Mdl_mount_8 (c_Mdl_in l D ca b τ0 x 1 5) tw_888 tw_889 tw_10 tw_890 pd_Mdl_in ⟨⟨by decide, by decide⟩, rfl, rfl, by decide, by decide⟩ (Nat.le_of_ble_eq_true rfl) rfl ?_
  refine z_if_eq C 23 d_Mdl_mount_11 (by decide) (fun h11 => ?_) (fun h11 => ?_)
  · have hbad : x = 0 ∨ bel x 6 = 0 := wit15.mp h11
    have herr : mountF σ x y = (.inr xIAE, σ) := by
      unfold mountF
      rcases hbad with z | z
      · rw [if_pos z]
      · by_cases z0 : x = 0
        · rw [if_pos z0]
        · rw [if_neg z0, if_pos z]
    refine z_aload_n C d_Mdl_mount_23 rfl 0 rfl ?_
    refine z_iconst C (v := 1) d_Mdl_mount_24 (by decide) ?_
    refine zf_Vi C d_Mdl_mount_25 (c_Mdl_raise l D ca b τ0 1) tw_891 tw_893 tp_Mdl_raise tw_10 tw_894 pd_Mdl_raise ⟨⟨by decide, by decide⟩, rfl, rfl, by decide, by decide⟩ (by omega) rfl (eB_Mdl ) rfl (Nat.le_of_ble_eq_true rfl) rfl ?_
    exact hret _ _ _ _ d_Mdl_mount_28 (Pm_err xIAE herr (by decide +kernel) (Rl_e h0))
  · have hx0 : ¬ x = 0 := fun z => h11 (wit15.mpr (Or.inl z))
    have hxb : ¬ bel x 6 = 0 := fun z => h11 (wit15.mpr (Or.inr z))
    refine z_iload_n C d_Mdl_mount_14 rfl 2 rfl ?_
    refine z_iconst C (v := 0) d_Mdl_mount_15 (by decide) ?_
    refine z_iconst C (v := 5) d_Mdl_mount_16 (by decide) ?_
    refine zf_Si C d_Mdl_mount_17 (c_Mdl_in l D ca b τ0 y 0 5) tw_888 tw_889 tw_10 tw_890 pd_Mdl_in ⟨⟨by decide, by decide⟩, rfl, rfl, by decide, by decide⟩ (Nat.le_of_ble_eq_true rfl) rfl ?_
    refine z_ri (x' := bel y 6) (wit0_bel y 5 (by decide)) ?_
    refine z_if_ne C 29 d_Mdl_mount_20 (by decide) (fun h20 => ?_) (fun h20 => ?_)
    · obtain ⟨p, hp, rfl⟩ := bel_nat (n := 6) (by decide) h20
      have hcp : (nI p).toNatClampNeg = p := nI_clamp (by omega)
      obtain ⟨f, hf, rfl⟩ := bel_nat (n := 6) (by decide) hxb
      have hcf : (nI f).toNatClampNeg = f := nI_clamp (by omega)
      have hf0 : f ≠ 0 := fun z => hx0 (by rw [z]; rfl)
      obtain ⟨v1, v2, v3, v4, v5⟩ := h0.2.2.2.2.2.2.2.2.2.2.2.2.1
      obtain ⟨r, h6, hr⟩ := AC_bd v4
      refine z_iload_n C d_Mdl_mount_29 rfl 2 rfl ?_
      refine z_istore_n C d_Mdl_mount_30 rfl (by decide) [(3, .int (nI p)), (0, .ref (b + 0)), (1, .int (nI f)), (2, .int (nI p))] rfl ?_
      refine lp_Mdl_mount l D ca b C (fun k hk => (h0.2.2.2.2.2.2.2.2.2.2.2.1 k hk).1) v2 hr ?_ ?_ 6 (nI p) (Or.inr ⟨p, hp, rfl, h6 p hp⟩) rfl
      · intro y' ha
        refine z_aload_n C d_Mdl_mount_40 rfl 1 rfl ?_
        refine z_iconst C (v := 2) d_Mdl_mount_41 (by decide) ?_
        refine zf_Vi C d_Mdl_mount_42 (c_Mdl_raise l D ca b τ0 2) tw_891 tw_893 tp_Mdl_raise tw_10 tw_894 pd_Mdl_raise ⟨⟨by decide, by decide⟩, rfl, rfl, by decide, by decide⟩ (by omega) rfl (eB_Mdl ) rfl (Nat.le_of_ble_eq_true rfl) rfl ?_
        exact hret _ _ _ _ d_Mdl_mount_45 (Pm_err xISE (by simp only [mountF, if_neg hx0, if_neg hxb, if_neg h20, hcf, ha]; rfl) (by decide +kernel) (Rl_e h0))
      · intro y' ha
        refine z_aload_n C d_Mdl_mount_56 rfl 1 rfl ?_
        refine gB_Mdl_parent C d_Mdl_mount_57 tw_771  ?_
        refine z_iload_n C d_Mdl_mount_60 rfl 2 rfl ?_
        refine lB_m_parent C (q := f) d_Mdl_mount_61  rfl (by omega) ?_
        refine z_istore_n C d_Mdl_mount_62 rfl (by decide) [(3, .int (τ0.1 132 0 0 f)), (0, .ref (b + 0)), (1, .int (nI f)), (2, .int (nI p))] rfl ?_
        refine z_aload_n C d_Mdl_mount_63 rfl 1 rfl ?_
        refine gB_Mdl_parent C d_Mdl_mount_64 tw_771  ?_
        refine z_iload_n C d_Mdl_mount_67 rfl 2 rfl ?_
        refine z_iload_n C d_Mdl_mount_68 rfl 3 rfl ?_
        refine stB_m_parent C (q := f) d_Mdl_mount_69  rfl (by omega) ?_
        refine z_aload_n C d_Mdl_mount_70 rfl 1 rfl ?_
        refine gB_Mdl_samples C d_Mdl_mount_71 tw_772  ?_
        refine z_iload_n C d_Mdl_mount_74 rfl 2 rfl ?_
        refine z_iconst C (v := 0) d_Mdl_mount_75 (by decide) ?_
        refine stB_m_samples C (q := f) d_Mdl_mount_76  rfl (by omega) ?_
        refine z_iload_n C d_Mdl_mount_77 rfl 0 rfl ?_
        exact hret _ _ _ _ d_Mdl_mount_78 (Pm_ok (us (us σ 60 f 0 (nI p)) 61 f 0 0) (by simp only [mountF, if_neg hx0, if_neg hxb, if_neg h20, hcf, ha, (h0.2.2.2.2.2.2.2.2.2.2.2.1 f hf).1]; rfl) (by rw [us_f (by decide), us_f (by decide), us_f (by decide), us_f (by decide)]; exact Rl_mount hf hf0 hp h0 ha (by repeat (first | exact Off.rf | assumption | refine Off.us ?_ (by decide) | refine Off.uA ?_ (by decide) | refine Off.uL ?_ (by decide) | refine Off.uE ?_ (by decide))) (by simp [upA]) (by simp [upA])))
    · have herr : mountF σ x y = (.inr xIAE, σ) := by
        unfold mountF
        rw [if_neg hx0, if_neg hxb, if_pos h20]
      refine z_aload_n C d_Mdl_mount_23 rfl 0 rfl ?_
      refine z_iconst C (v := 1) d_Mdl_mount_24 (by decide) ?_
      refine zf_Vi C d_Mdl_mount_25 (c_Mdl_raise l D ca b τ0 1) tw_891 tw_893 tp_Mdl_raise tw_10 tw_894 pd_Mdl_raise ⟨⟨by decide, by decide⟩, rfl, rfl, by decide, by decide⟩ (by omega) rfl (eB_Mdl ) rfl (Nat.le_of_ble_eq_true rfl) rfl ?_
      exact hret _ _ _ _ d_Mdl_mount_28 (Pm_err xIAE herr (by decide +kernel) (Rl_e h0))
