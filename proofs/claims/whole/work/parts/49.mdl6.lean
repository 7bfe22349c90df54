/-! leave -/
def cntF (f : Nat → Int32) : Nat → Nat → Int32 → Int32
  | 0, _, a => a
  | m + 1, k, a => cntF f m (k + 1) (a + f k)
theorem nR1_cnt {i : Nat} {f : Nat → Int32} : ∀ (m k : Nat) (σ : Sg) (a : Int32), (∀ t, k ≤ t → σ.1 34 i t 0 = f t) → (nR1 i m k σ a).2 = cntF f m k a := by
  intro m
  induction m with
  | zero => intro k σ a _; rfl
  | succ m ih =>
    intro k σ a h
    show (nR1 i m (k + 1) (us (qClose σ i k) 36 i k (-1)) (a + σ.1 34 i k 0)).2 = cntF f m (k + 1) (a + f k)
    rw [h k (Nat.le_refl _)]
    refine ih (k + 1) _ _ (fun t ht => ?_)
    rw [us_f (by decide), qClose_ne (by simp) (by simp; omega)]
    exact h t (by omega)
theorem nR1_at {i : Nat} : ∀ (m k : Nat) (σ : Sg) (a : Int32), (∀ f i' t', f = 33 ∨ f = 34 → (nR1 i m k σ a).1.1 f i' t' 0 = if i' = i ∧ k ≤ t' ∧ t' < k + m then 0 else σ.1 f i' t' 0) ∧ (∀ i' t', (nR1 i m k σ a).1.1 36 i' t' 0 = if i' = i ∧ k ≤ t' ∧ t' < k + m then -1 else σ.1 36 i' t' 0) ∧ Off [33, 34, 36] σ (nR1 i m k σ a).1 := by
  intro m
  induction m with
  | zero =>
    intro k σ a
    refine ⟨fun f i' t' _ => ?_, fun i' t' => ?_, Off.rf⟩
    · rw [if_neg (by omega)]; rfl
    · rw [if_neg (by omega)]; rfl
  | succ m ih =>
    intro k σ a
    obtain ⟨h1, h2, h3⟩ := ih (k + 1) (us (qClose σ i k) 36 i k (-1)) (a + σ.1 34 i k 0)
    refine ⟨fun f i' t' hf => ?_, fun i' t' => ?_, Off.tr (((Off.rf.us (by decide)).us (by decide)).us (by decide)) h3⟩
    · refine (h1 f i' t' hf).trans ?_
      by_cases hc : i' = i ∧ k + 1 ≤ t' ∧ t' < k + 1 + m
      · rw [if_pos hc, if_pos (by omega)]
      · rw [if_neg hc]
        by_cases hk : i' = i ∧ t' = k
        · obtain ⟨rfl, rfl⟩ := hk
          rw [if_pos (by omega)]
          rcases hf with rfl | rfl
          · rw [us_f (by decide)]; exact qClose_33
          · rw [us_f (by decide)]; exact qClose_34
        · rw [if_neg (by omega)]
          rcases hf with rfl | rfl
          · rw [us_f (by decide), qClose_ne (by simp; omega) (by simp)]
          · rw [us_f (by decide), qClose_ne (by simp) (by simp; omega)]
    · refine (h2 i' t').trans ?_
      by_cases hc : i' = i ∧ k + 1 ≤ t' ∧ t' < k + 1 + m
      · rw [if_pos hc, if_pos (by omega)]
      · rw [if_neg hc]
        by_cases hk : i' = i ∧ t' = k
        · obtain ⟨rfl, rfl⟩ := hk
          rw [if_pos (by omega), us_self]
        · rw [if_neg (by omega), us_ne (by simp; omega), qClose_ne (by simp) (by simp)]
theorem nR2_at {i : Nat} : ∀ (m k : Nat) (σ : Sg), (∀ i' j, (nR2 i m k σ).1 32 i' 0 j = if i' = i ∧ k ≤ j ∧ j < k + m then 0 else σ.1 32 i' 0 j) ∧ Off [32] σ (nR2 i m k σ) := by
  intro m
  induction m with
  | zero =>
    intro k σ
    refine ⟨fun i' j => ?_, Off.rf⟩
    rw [if_neg (by omega)]; rfl
  | succ m ih =>
    intro k σ
    obtain ⟨h1, h3⟩ := ih (k + 1) (upA σ (32, i, 0) (upd (σ.1 32 i 0) k 0))
    refine ⟨fun i' j => ?_, Off.tr (Off.rf.uA (by decide)) h3⟩
    refine (h1 i' j).trans ?_
    by_cases hc : i' = i ∧ k + 1 ≤ j ∧ j < k + 1 + m
    · rw [if_pos hc, if_pos (by omega)]
    · rw [if_neg hc]
      by_cases hi : i' = i
      · subst hi
        rw [upA_self]
        by_cases hj : j = k
        · subst hj
          rw [pk_us, if_pos (by omega)]
        · rw [pk_un hj, if_neg (by omega)]
      · rw [upA_ne (by simp; omega), if_neg (by omega)]
theorem lvL_at {x : Int32} : ∀ (m k : Nat) (σ : Sg), (∀ s, (lvL x m k σ).1 50 s 0 0 = if (k ≤ s ∧ s < k + m) ∧ σ.1 50 s 0 0 = x then -1 else σ.1 50 s 0 0) ∧ Off [50] σ (lvL x m k σ) := by
  intro m
  induction m with
  | zero =>
    intro k σ
    refine ⟨fun s => ?_, Off.rf⟩
    rw [if_neg (by omega)]; rfl
  | succ m ih =>
    intro k σ
    obtain ⟨h1, h3⟩ := ih (k + 1) (if σ.1 50 k 0 0 = x then us σ 50 k 0 (-1) else σ)
    refine ⟨fun s => ?_, Off.tr ?_ h3⟩
    · refine (h1 s).trans ?_
      by_cases hs : s = k
      · subst hs
        rw [if_neg (by omega)]
        by_cases hx : σ.1 50 s 0 0 = x
        · rw [if_pos hx, if_pos ⟨by omega, hx⟩, us_self]
        · rw [if_neg hx, if_neg (fun z => hx z.2)]
      · have e : (if σ.1 50 k 0 0 = x then us σ 50 k 0 (-1) else σ).1 50 s 0 0 = σ.1 50 s 0 0 := by
          split
          · rw [us_ne (by simp; omega)]
          · rfl
        rw [e]
        by_cases hc : (k + 1 ≤ s ∧ s < k + 1 + m) ∧ σ.1 50 s 0 0 = x
        · rw [if_pos hc, if_pos ⟨by omega, hc.2⟩]
        · rw [if_neg hc, if_neg (fun z => hc ⟨by omega, z.2⟩)]
    · split
      · exact Off.rf.us (by decide)
      · exact Off.rf
def lvM (f : Nat → Int32) (x : Int32) (k : Nat) : Nat → Int32 := fun s => if s < k ∧ f s = x then -1 else f s
theorem lvM_0 (f : Nat → Int32) (x : Int32) : lvM f x 0 = f := by
  funext s
  unfold lvM
  rw [if_neg (by omega)]
theorem lvM_y {f : Nat → Int32} {x : Int32} {k : Nat} (h : f k = x) : upd (lvM f x k) k (-1) = lvM f x (k + 1) := by
  funext s
  by_cases hs : s = k
  · subst hs
    rw [pk_us]
    unfold lvM
    rw [if_pos ⟨by omega, h⟩]
  · rw [pk_un hs]
    unfold lvM
    by_cases hc : s < k ∧ f s = x
    · rw [if_pos hc, if_pos ⟨by omega, hc.2⟩]
    · rw [if_neg hc, if_neg (fun z => hc ⟨by omega, z.2⟩)]
theorem lvM_n {f : Nat → Int32} {x : Int32} {k : Nat} (h : ¬ f k = x) : lvM f x k = lvM f x (k + 1) := by
  funext s
  unfold lvM
  by_cases hc : s < k ∧ f s = x
  · rw [if_pos hc, if_pos ⟨by omega, hc.2⟩]
  · rw [if_neg hc, if_neg (fun z => hc ⟨by
      rcases Nat.lt_or_ge s k with q | q
      · exact q
      · exact absurd (show f k = x by rw [show k = s by omega]; exact z.2) h, z.2⟩)]
theorem Rl_leave {e p a : Int32} {σ τ ρ : Sg} {i : Nat} (hi : i < 6) (h0 : Rl e p a σ τ) (ho : Off [102, 105, 106, 110, 119] τ ρ) (r1 : ρ.1 102 0 0 = upd (τ.1 102 0 0) i 0) (r2 : ρ.1 105 0 0 = zr (τ.1 105 0 0) (6 * i) (6 * i + 6) 0) (r3 : ρ.1 106 0 0 = zr (τ.1 106 0 0) (6 * i) (6 * i + 6) 0) (r4 : ρ.1 110 0 0 = zr (τ.1 110 0 0) (6 * i) (6 * i + 6) (-1)) (r5 : ρ.1 119 0 0 = lvM (τ.1 119 0 0) (nI i) 4) : Rl e p a (nRst (lvL (nI i) 4 0 σ) i) ρ := by
  obtain ⟨v1, v2⟩ := lvL_at (x := nI i) 4 0 σ
  obtain ⟨u1, u2, u3⟩ := nR1_at (i := i) 6 0 (lvL (nI i) 4 0 σ) 0
  obtain ⟨w1, w2⟩ := nR2_at (i := i) 4 0 (nR1 i 6 0 (lvL (nI i) 4 0 σ) 0).1
  have gBI := h0.2.2.2.2.2.2.2.2.2.2.2.2.2.2
  have hσ : Off [30, 31, 32, 33, 34, 36, 50] σ (nRst (lvL (nI i) 4 0 σ) i) :=
    Off.us (Off.us (((v2.mono (by decide)).tr (u3.mono (by decide))).tr (w2.mono (by decide))) (by decide)) (by decide)
  have e30 : ∀ i', (nRst (lvL (nI i) 4 0 σ) i).1 30 i' 0 0 = if i' = i then 0 else σ.1 30 i' 0 0 := fun i' => by
    unfold nRst
    rw [us_f (by decide)]
    by_cases h : i' = i
    · subst h; rw [us_self, if_pos rfl]
    · rw [us_ne (by simp; omega), if_neg h, w2.at (by decide), u3.at (by decide), v2.at (by decide)]
  have e31 : ∀ i', (nRst (lvL (nI i) 4 0 σ) i).1 31 i' 0 0 = if i' = i then 0 else σ.1 31 i' 0 0 := fun i' => by
    unfold nRst
    by_cases h : i' = i
    · subst h; rw [us_self, if_pos rfl]
    · rw [us_ne (by simp; omega), us_f (by decide), if_neg h, w2.at (by decide), u3.at (by decide), v2.at (by decide)]
  have e32 : ∀ i' j, j < 4 → (nRst (lvL (nI i) 4 0 σ) i).1 32 i' 0 j = if i' = i then 0 else σ.1 32 i' 0 j := fun i' j hj => by
    unfold nRst
    rw [us_f (by decide), us_f (by decide), w1, u3.at (by decide), v2.at (by decide)]
    by_cases h : i' = i
    · rw [if_pos ⟨h, by omega, by omega⟩, if_pos h]
    · rw [if_neg (fun z => h z.1), if_neg h]
  have e33 : ∀ f i' t, (f = 33 ∨ f = 34) → t < 6 → (nRst (lvL (nI i) 4 0 σ) i).1 f i' t 0 = if i' = i then 0 else σ.1 f i' t 0 := fun f i' t hf ht => by
    unfold nRst
    have hz : (lvL (nI i) 4 0 σ).1 f = σ.1 f := v2.at (by simp; omega)
    rw [us_f (by omega), us_f (by omega), w2.at (by simp; omega), u1 f i' t hf, hz]
    by_cases h : i' = i
    · rw [if_pos ⟨h, by omega, by omega⟩, if_pos h]
    · rw [if_neg (fun z => h z.1), if_neg h]
  have e36 : ∀ i' t, t < 6 → (nRst (lvL (nI i) 4 0 σ) i).1 36 i' t 0 = if i' = i then -1 else σ.1 36 i' t 0 := fun i' t ht => by
    unfold nRst
    rw [us_f (by decide), us_f (by decide), w2.at (by decide), u2 i' t, v2.at (by decide)]
    by_cases h : i' = i
    · rw [if_pos ⟨h, by omega, by omega⟩, if_pos h]
    · rw [if_neg (fun z => h z.1), if_neg h]
  have e50 : ∀ s, s < 4 → (nRst (lvL (nI i) 4 0 σ) i).1 50 s 0 0 = if σ.1 50 s 0 0 = nI i then -1 else σ.1 50 s 0 0 := fun s hs => by
    unfold nRst
    rw [us_f (by decide), us_f (by decide), w2.at (by decide), u3.at (by decide), v1 s]
    by_cases h : σ.1 50 s 0 0 = nI i
    · rw [if_pos ⟨by omega, h⟩, if_pos h]
    · rw [if_neg (fun z => h z.2), if_neg h]
  have hzr : ∀ (f : Nat → Int32) (c : Int32) (i' t : Nat), t < 6 → zr f (6 * i) (6 * i + 6) c (6 * i' + t) = if i' = i then c else f (6 * i' + t) := fun f c i' t ht => by
    unfold zr
    by_cases h : i' = i
    · rw [if_pos h, if_pos (by omega)]
    · rw [if_neg h, if_neg (by omega)]
  have h35 := hσ.at (f := 35) (by decide)
  refine h0.upd [30, 31, 32, 33, 34, 36, 50] [102, 105, 106, 110, 119] hσ ho (by rw [ho.at (by decide)]; exact h0.1) (Or.inl ⟨rfl, rfl, rfl⟩) (Or.inr ?_) (Or.inr ?_) (Or.inr ?_) (Or.inr ?_) (Or.inr ?_) (Or.inl rfl) (Or.inr ?_) (Or.inr ?_) (Or.inl rfl) (Or.inl rfl) (Or.inl rfl) (Or.inl rfl) (Or.inr ?_)
  · intro i' hi'
    obtain ⟨k1, k2⟩ := h0.2.2.1 i' hi'
    rw [r1, e30]
    by_cases h : i' = i
    · subst h
      rw [pk_us, if_pos rfl]
      exact ⟨rfl, fun _ t ht => by rw [e33 33 i' t (Or.inl rfl) ht, if_pos rfl]⟩
    · rw [pk_un h, if_neg h]
      exact ⟨k1, fun z t ht => by rw [e33 33 i' t (Or.inl rfl) ht, if_neg h]; exact k2 z t ht⟩
  · intro i' hi' j hj
    obtain ⟨k1, k2⟩ := h0.2.2.2.1 i' hi' j hj
    rw [e30, e32 i' j hj, ho.at (f := 103) (by decide)]
    by_cases h : i' = i
    · rw [if_pos h, if_pos h]
      exact ⟨fun z => absurd rfl z, fun _ => rfl⟩
    · rw [if_neg h, if_neg h]
      exact ⟨k1, k2⟩
  · intro i' hi'
    obtain ⟨k1, k2⟩ := h0.2.2.2.2.1 i' hi'
    rw [e30, e31, ho.at (f := 104) (by decide)]
    by_cases h : i' = i
    · rw [if_pos h, if_pos h]
      exact ⟨fun z => absurd rfl z, fun _ => rfl⟩
    · rw [if_neg h, if_neg h]
      exact ⟨k1, k2⟩
  · intro i' hi' t ht
    obtain ⟨k1, k2, k3⟩ := h0.2.2.2.2.2.1 i' hi' t ht
    rw [r2, r3, hzr _ _ i' t ht, hzr _ _ i' t ht, e33 33 i' t (Or.inl rfl) ht, e33 34 i' t (Or.inr rfl) ht, h35, ho.at (f := 107) (by decide), ho.at (f := 108) (by decide), ho.at (f := 109) (by decide)]
    by_cases h : i' = i
    · rw [if_pos h, if_pos h, if_pos h, if_pos h]
      refine ⟨rfl, rfl, fun k hk => absurd hk ?_⟩
      rw [show (0 : Int32).toNatClampNeg = 0 by decide]
      omega
    · rw [if_neg h, if_neg h, if_neg h, if_neg h]
      exact ⟨k1, k2, k3⟩
  · intro i' hi' t ht
    obtain ⟨k1, k2, k3⟩ := h0.2.2.2.2.2.2.1 i' hi' t ht
    rw [r4, hzr _ _ i' t ht, e36 i' t ht, hσ.at (f := 37) (by decide), hσ.at (f := 38) (by decide), ho.at (f := 111) (by decide), ho.at (f := 112) (by decide)]
    by_cases h : i' = i
    · rw [if_pos h, if_pos h]
      exact ⟨rfl, Or.inl rfl, fun z => absurd rfl z⟩
    · rw [if_neg h, if_neg h]
      exact ⟨k1, k2, k3⟩
  · intro s hs
    obtain ⟨k1, k2⟩ := h0.2.2.2.2.2.2.2.2.1 s hs
    rw [r5, e50 s hs, hσ.at (f := 51) (by decide), hσ.at (f := 52) (by decide), hσ.at (f := 53) (by decide), ho.at (f := 120) (by decide), ho.at (f := 121) (by decide), ho.at (f := 122) (by decide)]
    unfold lvM
    rw [k1]
    by_cases h : σ.1 50 s 0 0 = nI i
    · rw [if_pos h, if_pos ⟨hs, h⟩]
      exact ⟨rfl, fun z => absurd rfl z⟩
    · rw [if_neg h, if_neg (fun z => h z.2)]
      exact ⟨rfl, k2⟩
  · intro s hs hn
    rw [e50 s hs] at hn ⊢
    by_cases h : σ.1 50 s 0 0 = nI i
    · rw [if_pos h] at hn
      exact absurd rfl hn
    · rw [if_neg h] at hn ⊢
      have h9 := gBI.2.2.1 s hs hn
      rw [e30, if_neg (fun z => h (by rw [h9.1.1]; unfold sN; rw [z]))]
      exact h0.2.2.2.2.2.2.2.2.2.1 s hs hn
  · obtain ⟨k1, k2, k3, k4, k5, k6⟩ := gBI
    refine ⟨fun i' t hi' ht => ?_, BZ_eq (by rw [hσ.at (by decide)]) k2, fun s hs hn => ?_, fun i' t hi' ht => ?_, fun i' hi' => ?_, GI_eq (fun f x y => by rw [hσ.at (by simp; omega)]) k6⟩
    · unfold qsz qdp
      rw [e33 33 i' t (Or.inl rfl) ht, e33 34 i' t (Or.inr rfl) ht]
      by_cases h : i' = i
      · rw [if_pos h, if_pos h]
        exact ⟨by decide, by decide, by decide, by decide⟩
      · rw [if_neg h, if_neg h]
        exact k1 i' t hi' ht
    · unfold sN sC
      rw [e50 s hs] at hn ⊢
      by_cases h : σ.1 50 s 0 0 = nI i
      · rw [if_pos h] at hn
        exact absurd rfl hn
      · rw [if_neg h] at hn ⊢
        rw [hσ.at (f := 51) (by decide), hσ.at (f := 52) (by decide)]
        exact k3 s hs hn
    · unfold okA okB aA aB
      rw [e36 i' t ht, hσ.at (f := 37) (by decide), hσ.at (f := 38) (by decide)]
      by_cases h : i' = i
      · rw [if_pos h]
        exact ⟨fun z => absurd z (by decide), fun z => absurd z (by decide), fun z => absurd z (by decide), fun z => absurd z (by decide)⟩
      · rw [if_neg h]
        exact k4 i' t hi' ht
    · unfold nF
      rw [e31]
      by_cases h : i' = i
      · rw [if_pos h]
        exact ⟨by decide, by decide⟩
      · rw [if_neg h]
        exact k5 i' hi'
theorem nRst_34 {σ : Sg} {i : Nat} : (nRst (lvL (nI i) 4 0 σ) i).1 3 = σ.1 3 ∧ (nRst (lvL (nI i) 4 0 σ) i).1 4 = σ.1 4 := by
  obtain ⟨v1, v2⟩ := lvL_at (x := nI i) 4 0 σ
  obtain ⟨u1, u2, u3⟩ := nR1_at (i := i) 6 0 (lvL (nI i) 4 0 σ) 0
  obtain ⟨w1, w2⟩ := nR2_at (i := i) 4 0 (nR1 i 6 0 (lvL (nI i) 4 0 σ) 0).1
  unfold nRst
  exact ⟨by rw [us_f (by decide), us_f (by decide), w2.at (by decide), u3.at (by decide), v2.at (by decide)], by rw [us_f (by decide), us_f (by decide), w2.at (by decide), u3.at (by decide), v2.at (by decide)]⟩
def lv1 (τ : Sg) (j k : Nat) (ρ : Sg) : Prop := Off [105, 106, 110] τ ρ ∧ ρ.1 105 0 0 = zr (τ.1 105 0 0) (6 * j) k 0 ∧ ρ.1 106 0 0 = zr (τ.1 106 0 0) (6 * j) k 0 ∧ ρ.1 110 0 0 = zr (τ.1 110 0 0) (6 * j) k (-1)
set_option maxRecDepth 100000 in
set_option maxHeartbeats 4000000 in
theorem lp_Mdl_leave1 (l : Launch) (D : va_G) (ca : Nat → ClassId) (b : Nat) {R : Room} {X : Zx} {y0 : MethodName} {c0 : ByteArray} {n0 : Nat} {r0 : Option FieldType} (C : Cs D ca b_Mdl_leave 4 "RobotBusModel" (Cond.code y0 c0 n0 r0) X) (τ : Sg) {j : Nat} (hj : j < 6) : ∀ m k, k + m = 6 → ∀ (ρ : Sg) (n : Int32), lv1 τ j (6 * j + k) ρ → (∀ ρ', lv1 τ j (6 * j + 6) ρ' → Zs l D ca SM b 31 R 4 X ρ' 73 [(3, .int (nI (6 * j + 6))), (2, .int (cntF (fun t => τ.1 106 0 0 (6 * j + t)) m k n)), (0, .ref (b + 0)), (1, .int (nI j))] []) → Zs l D ca SM b 31 R 4 X ρ 26 [(3, .int (nI (6 * j + k))), (2, .int n), (0, .ref (b + 0)), (1, .int (nI j))] [] := by
  intro m
  induction m with
  | zero =>
    intro k hk ρ n hp kk
    have hk6 : k = 6 := by omega
    subst hk6
    refine z_iload_n C d_Mdl_leave_26 rfl 0 rfl ?_
    refine z_bipush C (v := 6) d_Mdl_leave_27 (by decide) ?_
    refine z_iload_n C d_Mdl_leave_29 rfl 3 rfl ?_
    refine z_imul C d_Mdl_leave_30 ?_
    refine z_bipush C (v := 6) d_Mdl_leave_31 (by decide) ?_
    refine z_iadd C d_Mdl_leave_33 ?_
    refine z_icmp_ge C 73 d_Mdl_leave_34 (by decide) (fun h34 => ?_) (fun h34 => False.elim (h34 (ge_T (a := (6 * j + 6)) (b := ((6 * j) + 6)) rfl (nadd (nmul (rfl : (6 : Int32) = nI 6) rfl) (rfl : (6 : Int32) = nI 6)) (by omega) (by omega))))
    exact kk _ hp
  | succ m ih =>
    intro k hk ρ n hp kk
    have hw : ρ.1 106 0 0 (6 * j + k) = τ.1 106 0 0 (6 * j + k) := by
      rw [hp.2.2.1]
      unfold zr
      rw [if_neg (by omega)]
    refine z_iload_n C d_Mdl_leave_26 rfl 0 rfl ?_
    refine z_bipush C (v := 6) d_Mdl_leave_27 (by decide) ?_
    refine z_iload_n C d_Mdl_leave_29 rfl 3 rfl ?_
    refine z_imul C d_Mdl_leave_30 ?_
    refine z_bipush C (v := 6) d_Mdl_leave_31 (by decide) ?_
    refine z_iadd C d_Mdl_leave_33 ?_
    refine z_icmp_ge C 73 d_Mdl_leave_34 (by decide) (fun h34 => False.elim (ge_F (a := (6 * j + k)) (b := ((6 * j) + 6)) rfl (nadd (nmul (rfl : (6 : Int32) = nI 6) rfl) (rfl : (6 : Int32) = nI 6)) (by omega) (by omega) h34)) (fun h34 => ?_)
    refine z_iload_n C d_Mdl_leave_37 rfl 1 rfl ?_
    refine z_aload_n C d_Mdl_leave_38 rfl 2 rfl ?_
    refine gB_Mdl_waiting C d_Mdl_leave_39 tw_745  ?_
    refine z_iload_n C d_Mdl_leave_42 rfl 0 rfl ?_
    refine lB_m_waiting C (q := (6 * j + k)) d_Mdl_leave_43  rfl (by omega) ?_
    refine z_ri (x' := τ.1 106 0 0 (6 * j + k)) hw ?_
    refine z_iadd C d_Mdl_leave_44 ?_
    refine z_istore_n C d_Mdl_leave_45 rfl (by decide) [(2, .int (n + (τ.1 106 0 0 (6 * j + k)))), (3, .int (nI (6 * j + k))), (0, .ref (b + 0)), (1, .int (nI j))] rfl ?_
    refine z_aload_n C d_Mdl_leave_46 rfl 2 rfl ?_
    refine gB_Mdl_waiting C d_Mdl_leave_47 tw_745  ?_
    refine z_iload_n C d_Mdl_leave_50 rfl 1 rfl ?_
    refine z_iconst C (v := 0) d_Mdl_leave_51 (by decide) ?_
    refine stB_m_waiting C (q := (6 * j + k)) d_Mdl_leave_52  rfl (by omega) ?_
    refine z_aload_n C d_Mdl_leave_53 rfl 2 rfl ?_
    refine gB_Mdl_depth C d_Mdl_leave_54 tw_744  ?_
    refine z_iload_n C d_Mdl_leave_57 rfl 1 rfl ?_
    refine z_iconst C (v := 0) d_Mdl_leave_58 (by decide) ?_
    refine stB_m_depth C (q := (6 * j + k)) d_Mdl_leave_59  rfl (by omega) ?_
    refine z_aload_n C d_Mdl_leave_60 rfl 2 rfl ?_
    refine gB_Mdl_aKind C d_Mdl_leave_61 tw_749  ?_
    refine z_iload_n C d_Mdl_leave_64 rfl 1 rfl ?_
    refine z_iconst C (v := -1) d_Mdl_leave_65 (by decide) ?_
    refine stB_m_aKind C (q := (6 * j + k)) d_Mdl_leave_66  rfl (by omega) ?_
    refine z_iinc C d_Mdl_leave_67 1 rfl (v := (nI ((6 * j + k) + 1))) (by rw [← nI_1]; rfl) (by decide) [(3, .int (nI ((6 * j + k) + 1))), (2, .int (n + (τ.1 106 0 0 (6 * j + k)))), (0, .ref (b + 0)), (1, .int (nI j))] rfl ?_
    refine z_goto C 26 d_Mdl_leave_70 (by decide) ?_
    refine ih (k + 1) (by omega) _ _ ?_ kk
    obtain ⟨h1, h2, h3, h4⟩ := hp
    refine ⟨(by repeat (first | exact Off.rf | assumption | refine Off.us ?_ (by decide) | refine Off.uA ?_ (by decide) | refine Off.uL ?_ (by decide) | refine Off.uE ?_ (by decide))), ?_, ?_, ?_⟩
    · simp [upA, h2]; exact zr_step (by omega)
    · simp [upA, h3]; exact zr_step (by omega)
    · simp [upA, h4]; exact zr_step (by omega)
set_option maxRecDepth 100000 in
set_option maxHeartbeats 4000000 in
theorem lp_Mdl_leave2 (l : Launch) (D : va_G) (ca : Nat → ClassId) (b : Nat) {R : Room} {X : Zx} {y0 : MethodName} {c0 : ByteArray} {n0 : Nat} {r0 : Option FieldType} (C : Cs D ca b_Mdl_leave 4 "RobotBusModel" (Cond.code y0 c0 n0 r0) X) (τ : Sg) {j : Nat} (n : Int32) : ∀ m k, k + m = 4 → ∀ (ρ : Sg), (Off [119] τ ρ ∧ ρ.1 119 0 0 = lvM (τ.1 119 0 0) (nI j) k) → (∀ ρ', (Off [119] τ ρ' ∧ ρ'.1 119 0 0 = lvM (τ.1 119 0 0) (nI j) 4) → Zs l D ca SM b 31 R 4 X ρ' 103 [(3, .int (nI 4)), (2, .int n), (0, .ref (b + 0)), (1, .int (nI j))] []) → Zs l D ca SM b 31 R 4 X ρ 75 [(3, .int (nI k)), (2, .int n), (0, .ref (b + 0)), (1, .int (nI j))] [] := by
  intro m
  induction m with
  | zero =>
    intro k hk ρ hp kk
    have hk6 : k = 4 := by omega
    subst hk6
    refine z_iload_n C d_Mdl_leave_75 rfl 0 rfl ?_
    refine z_iconst C (v := 4) d_Mdl_leave_76 (by decide) ?_
    refine z_icmp_ge C 103 d_Mdl_leave_77 (by decide) (fun h77 => ?_) (fun h77 => False.elim (h77 (ge_T (a := 4) (b := 4) rfl (rfl : (4 : Int32) = nI 4) (by omega) (by omega))))
    exact kk _ hp
  | succ m ih =>
    intro k hk ρ hp kk
    have hw : ρ.1 119 0 0 k = τ.1 119 0 0 k := by
      rw [hp.2]
      unfold lvM
      rw [if_neg (by omega)]
    refine z_iload_n C d_Mdl_leave_75 rfl 0 rfl ?_
    refine z_iconst C (v := 4) d_Mdl_leave_76 (by decide) ?_
    refine z_icmp_ge C 103 d_Mdl_leave_77 (by decide) (fun h77 => False.elim (ge_F (a := k) (b := 4) rfl (rfl : (4 : Int32) = nI 4) (by omega) (by omega) h77)) (fun h77 => ?_)
    refine z_aload_n C d_Mdl_leave_80 rfl 2 rfl ?_
    refine gB_Mdl_by C d_Mdl_leave_81 tw_758  ?_
    refine z_iload_n C d_Mdl_leave_84 rfl 0 rfl ?_
    refine lB_m_by C (q := k) d_Mdl_leave_85  rfl (by omega) ?_
    refine z_iload_n C d_Mdl_leave_86 rfl 3 rfl ?_
    refine z_icmp_ne C 97 d_Mdl_leave_87 (by decide) (fun h87 => ?_) (fun h87 => ?_)
    · have hx : ¬ τ.1 119 0 0 k = nI j := fun z => h87 (hw.trans z)
      refine z_iinc C d_Mdl_leave_97 0 rfl (v := (nI (k + 1))) (by rw [← nI_1]; rfl) (by decide) [(3, .int (nI (k + 1))), (2, .int n), (0, .ref (b + 0)), (1, .int (nI j))] rfl ?_
      refine z_goto C 75 d_Mdl_leave_100 (by decide) ?_
      exact ih (k + 1) (by omega) _ ⟨hp.1, by rw [hp.2]; exact lvM_n hx⟩ kk
    · have hx : τ.1 119 0 0 k = nI j := hw.symm.trans h87
      refine z_aload_n C d_Mdl_leave_90 rfl 2 rfl ?_
      refine gB_Mdl_by C d_Mdl_leave_91 tw_758  ?_
      refine z_iload_n C d_Mdl_leave_94 rfl 0 rfl ?_
      refine z_iconst C (v := -1) d_Mdl_leave_95 (by decide) ?_
      refine stB_m_by C (q := k) d_Mdl_leave_96  rfl (by omega) ?_
      refine z_iinc C d_Mdl_leave_97 0 rfl (v := (nI (k + 1))) (by rw [← nI_1]; rfl) (by decide) [(3, .int (nI (k + 1))), (2, .int n), (0, .ref (b + 0)), (1, .int (nI j))] rfl ?_
      refine z_goto C 75 d_Mdl_leave_100 (by decide) ?_
      exact ih (k + 1) (by omega) _ ⟨hp.1.uA (by decide), by rw [upA_self, hp.2]; exact lvM_y hx⟩ kk
set_option maxRecDepth 100000 in
set_option maxHeartbeats 4000000 in
/-- leaveF of the model -/
theorem c_Mdl_leave (l : Launch) (D : va_G) (ca : Nat → ClassId) (b : Nat) (τ : Sg) {σ : Sg} (e : Int32) (x : Int32) (h : Rl e (σ.1 3 0 0 0) (σ.1 4 0 0 0) σ τ) : CtI l D ca SM b 31 y_Mdl_leave w_Mdl_leave (rmN 2 44) τ [.ref (b + 0), .int x] (fun r τ' => Pm [xNSE] (leaveF σ x) r τ') := by
  refine ct_i "RobotBusModel" [(0, .ref (b + 0)), (1, .int x)] (by decide) rfl (Nat.le_of_ble_eq_true rfl) rfl (fun X C hret => ?_)
  refine z_aload_n C d_Mdl_leave_0 rfl 0 rfl ?_
  refine z_iconst C (v := 0) d_Mdl_leave_1 (by decide) ?_
  refine pB_Mdl_thrown C d_Mdl_leave_2 tw_739  ?_
  have h0 := Rl_e (e' := 0) h
  generalize us τ 100 0 0 0 = τ0 at h0 ⊢
  refine z_aload_n C d_Mdl_leave_5 rfl 0 rfl ?_
  refine z_iload_n C d_Mdl_leave_6 rfl 1 rfl ?_
  refine zf_Vi C d_Mdl_leave_7 (c_Mdl_noNode l D ca b τ0 x) tw_899 tw_901 tp_Mdl_noNode tw_10 tw_902 pd_Mdl_noNode ⟨⟨by decide, by decide⟩, rfl, rfl, by decide, by decide⟩ (by omega) rfl (eB_Mdl ) rfl (Nat.le_of_ble_eq_true rfl) rfl ?_
  refine z_if_eq C 19 d_Mdl_leave_10 (by decide) (fun h10 => ?_) (fun h10 => ?_)
  · have hth := (isNo_th h0 _).mp h10
    obtain ⟨j, hj, rfl, hpj⟩ := isTh_nat hth
    have hcj : (nI j).toNatClampNeg = j := nI_clamp (by omega)
    refine z_iconst C (v := 0) d_Mdl_leave_19 (by decide) ?_
    refine z_istore_n C d_Mdl_leave_20 rfl (by decide) [(2, .int 0), (0, .ref (b + 0)), (1, .int (nI j))] rfl ?_
    refine z_bipush C (v := 6) d_Mdl_leave_21 (by decide) ?_
    refine z_iload_n C d_Mdl_leave_23 rfl 2 rfl ?_
    refine z_imul C d_Mdl_leave_24 ?_
    refine z_ri (x' := nI (6 * j)) (nmul (rfl : (6 : Int32) = nI 6) rfl) ?_
    refine z_istore_n C d_Mdl_leave_25 rfl (by decide) [(3, .int (nI (6 * j))), (2, .int 0), (0, .ref (b + 0)), (1, .int (nI j))] rfl ?_
    refine lp_Mdl_leave1 l D ca b C τ0 hj 6 0 rfl _ 0 ⟨Off.rf, (zr_0 _ _ _).symm, (zr_0 _ _ _).symm, (zr_0 _ _ _).symm⟩ (fun ρ1 hp1 => ?_)
    refine z_iconst C (v := 0) d_Mdl_leave_73 (by decide) ?_
    refine z_istore_n C d_Mdl_leave_74 rfl (by decide) [(3, .int 0), (2, .int (cntF (fun t => τ0.1 106 0 0 (6 * j + t)) 6 0 0)), (0, .ref (b + 0)), (1, .int (nI j))] rfl ?_
    refine lp_Mdl_leave2 l D ca b C ρ1 _ 4 0 rfl _ ⟨Off.rf, (lvM_0 _ _).symm⟩ (fun ρ2 hp2 => ?_)
    refine z_aload_n C d_Mdl_leave_103 rfl 2 rfl ?_
    refine gB_Mdl_there C d_Mdl_leave_104 tw_741  ?_
    refine z_iload_n C d_Mdl_leave_107 rfl 3 rfl ?_
    refine z_iconst C (v := 0) d_Mdl_leave_108 (by decide) ?_
    refine stB_m_there C (q := j) d_Mdl_leave_109 rfl hj (by decide) ?_
    refine z_iload_n C d_Mdl_leave_110 rfl 1 rfl ?_
    exact hret _ _ _ _ d_Mdl_leave_111 (Pm_ok (nRst (lvL (nI j) 4 0 σ) j) (by
      have hcnt : (nR1 j 6 0 (lvL (nI j) 4 0 σ) 0).2 = cntF (fun t => σ.1 34 j t 0) 6 0 0 := nR1_cnt 6 0 _ 0 (fun t _ => by rw [(lvL_at (x := nI j) 4 0 σ).2.at (f := 34) (by decide)])
      have hc2 : cntF (fun t => τ0.1 106 0 0 (6 * j + t)) 6 0 0 = cntF (fun t => σ.1 34 j t 0) 6 0 0 := by
        have hq := fun t ht => (h0.2.2.2.2.2.1 j hj t ht).2.1
        simp only [cntF]
        rw [hq 0 (by decide), hq 1 (by decide), hq 2 (by decide), hq 3 (by decide), hq 4 (by decide), hq 5 (by decide)]
      rw [hc2]
      unfold leaveF
      rw [if_neg hth, show cn (nI j) = j from hcj, hcnt]) (by
      rw [nRst_34.1, nRst_34.2]
      obtain ⟨p1, p2, p3, p4⟩ := hp1
      obtain ⟨p5, p6⟩ := hp2
      refine Rl_leave hj h0 ?_ ?_ ?_ ?_ ?_ ?_
      · exact Off.uA ((p1.mono (by decide)).tr (p5.mono (by decide))) (by decide)
      · rw [upA_self, p5.at (by decide), p1.at (by decide)]
      · rw [upA_f (by decide), p5.at (by decide), p2]
      · rw [upA_f (by decide), p5.at (by decide), p3]
      · rw [upA_f (by decide), p5.at (by decide), p4]
      · rw [upA_f (by decide), p6, p1.at (by decide)]))
  · have hth : isTh σ x = 0 := Decidable.byContradiction (fun z => h10 ((isNo_th h0 _).mpr z))
    refine z_aload_n C d_Mdl_leave_13 rfl 0 rfl ?_
    refine z_iconst C (v := 1) d_Mdl_leave_14 (by decide) ?_
    refine zf_Vi C d_Mdl_leave_15 (c_Mdl_raise l D ca b τ0 1) tw_891 tw_893 tp_Mdl_raise tw_10 tw_894 pd_Mdl_raise ⟨⟨by decide, by decide⟩, rfl, rfl, by decide, by decide⟩ (by omega) rfl (eB_Mdl ) rfl (Nat.le_of_ble_eq_true rfl) rfl ?_
    exact hret _ _ _ _ d_Mdl_leave_18 (Pm_err xNSE (by simp [leaveF, *]) (by decide +kernel) (Rl_e h0))
