/-! Relation: play, empty, unsubscribe, act, offer, join, leave -/
theorem BI_g {L : List Nat} {σ σ' : Sg} (hσ : Off L σ σ') (d : dj [31, 33, 34, 36, 37, 38, 50, 51, 52, 53] L = true) (hZ : BZ σ') (hG : GI σ') (hB : BI σ) : BI σ' := by
  obtain ⟨k1, k2, k3, k4, k5, k6⟩ := hB
  have e : ∀ f, f ∈ [31, 33, 34, 36, 37, 38, 50, 51, 52, 53] → σ'.1 f = σ.1 f := fun f hf => hσ.at (dj_spec d hf)
  refine ⟨QI_eq (fun i t _ _ => ⟨by rw [e 33 (by decide)], by rw [e 34 (by decide)]⟩) k1, hZ, SI_eq (fun f i a b => ?_) k3, AI_eq (fun f i t a b => ?_) k4, NF_eq (fun i => by rw [e 31 (by decide)]) k5, hG⟩
  · rw [e f (by simp; omega)]
  · rw [e f (by simp; omega)]
theorem BI_a {L : List Nat} {σ σ' : Sg} (hσ : Off L σ σ') (d : dj [10, 11, 12, 13, 14, 15, 16, 31, 33, 34, 50, 51, 52, 53] L = true) (hA : AI σ') (hB : BI σ) : BI σ' := by
  obtain ⟨k1, k2, k3, k4, k5, k6⟩ := hB
  have e : ∀ f, f ∈ [10, 11, 12, 13, 14, 15, 16, 31, 33, 34, 50, 51, 52, 53] → σ'.1 f = σ.1 f := fun f hf => hσ.at (dj_spec d hf)
  refine ⟨QI_eq (fun i t _ _ => ⟨by rw [e 33 (by decide)], by rw [e 34 (by decide)]⟩) k1, BZ_eq (by rw [e 10 (by decide)]) k2, SI_eq (fun f i a b => ?_) k3, hA, NF_eq (fun i => by rw [e 31 (by decide)]) k5, GI_eq (fun f a b => ?_) k6⟩
  · rw [e f (by simp; omega)]
  · rw [e f (by simp; omega)]
theorem BI_s {L : List Nat} {σ σ' : Sg} (hσ : Off L σ σ') (d : dj [10, 11, 12, 13, 14, 15, 16, 31, 33, 34, 36, 37, 38] L = true) (hS : SI σ') (hB : BI σ) : BI σ' := by
  obtain ⟨k1, k2, k3, k4, k5, k6⟩ := hB
  have e : ∀ f, f ∈ [10, 11, 12, 13, 14, 15, 16, 31, 33, 34, 36, 37, 38] → σ'.1 f = σ.1 f := fun f hf => hσ.at (dj_spec d hf)
  refine ⟨QI_eq (fun i t _ _ => ⟨by rw [e 33 (by decide)], by rw [e 34 (by decide)]⟩) k1, BZ_eq (by rw [e 10 (by decide)]) k2, hS, AI_eq (fun f i t a b => ?_) k4, NF_eq (fun i => by rw [e 31 (by decide)]) k5, GI_eq (fun f a b => ?_) k6⟩
  · rw [e f (by simp; omega)]
  · rw [e f (by simp; omega)]
theorem Rl_play {e p a : Int32} {σ τ ρ : Sg} {s : Int32} (h0 : Rl e p a σ τ) (hs : ¬ wit s 1 4 = 0) (hz : ¬ σ.1 10 0 0 0 = 0) (ho : Off [127, 128, 129, 130, 131] τ ρ) (r1 : ρ.1 127 0 0 0 = 1) (r2 : ρ.1 128 0 0 0 = τ.1 101 0 0 0) (r3 : ρ.1 129 0 0 0 = s) (r4 : ρ.1 130 0 0 0 = 0) (r5 : ρ.1 131 0 0 0 = τ.1 126 0 0 0) : Rl e p a (bStart σ (σ.1 1 0 0 0) s) ρ := by
  have hσ : Off [11, 12, 13, 14] σ (bStart σ (σ.1 1 0 0 0) s) := (((Off.rf.us (by decide)).us (by decide)).us (by decide)).us (by decide)
  have gBI := h0.2.2.2.2.2.2.2.2.2.2.2.2.2.2
  obtain ⟨z1, z2⟩ := gBI.2.1
  have hz1 : 1 ≤ bsz σ := by
    apply Nat.pos_of_ne_zero
    intro z
    rw [z] at z1
    exact hz z1
  have e11 : (bStart σ (σ.1 1 0 0 0) s).1 11 0 0 0 = 0 := by simp [bStart, us, upA]
  have e12 : (bStart σ (σ.1 1 0 0 0) s).1 12 0 0 0 = nI (bsz σ) := by simp [bStart, us, upA]; exact z1
  have e13 : (bStart σ (σ.1 1 0 0 0) s).1 13 0 0 0 = σ.1 1 0 0 0 := by simp [bStart, us, upA]
  have e14 : (bStart σ (σ.1 1 0 0 0) s).1 14 0 0 0 = s := by simp [bStart, us, upA]
  have e10 := hσ.at (f := 10) (by decide)
  have e16 := hσ.at (f := 16) (by decide)
  have hsz : bsz (bStart σ (σ.1 1 0 0 0) s) = bsz σ := by unfold bsz; rw [e10]
  have hnx : bnx (bStart σ (σ.1 1 0 0 0) s) = 0 := by unfold bnx; rw [e11]; decide
  have hen : ben (bStart σ (σ.1 1 0 0 0) s) = bsz σ := by unfold ben; rw [e12, nI_clamp (by omega)]
  refine h0.upd [11, 12, 13, 14] [127, 128, 129, 130, 131] hσ ho (by rw [ho.at (by decide)]; exact h0.1) (Or.inl ⟨rfl, rfl, rfl⟩) (Or.inl rfl) (Or.inl rfl) (Or.inl rfl) (Or.inl rfl) (Or.inl rfl) (Or.inl rfl) (Or.inl rfl) (Or.inl rfl) (Or.inr ?_) (Or.inl rfl) (Or.inl rfl) (Or.inl rfl) (Or.inr ?_)
  · obtain ⟨k1, k2, k3, k4⟩ := h0.2.2.2.2.2.2.2.2.2.2.1
    have hbp : bPlay (bStart σ (σ.1 1 0 0 0) s) = 1 := by
      unfold bPlay
      rw [e11, e12, if_neg (nI_nle hz1 (by omega))]
    unfold RB
    rw [hbp, e10, e11, e12, e13, e14, r1, r2, r3, r4, r5, hσ.at (f := 15) (by decide), e16, hσ.at (f := 17) (by decide), ho.at (f := 126) (by decide), ho.at (f := 123) (by decide), ho.at (f := 124) (by decide), ho.at (f := 125) (by decide)]
    exact ⟨k1, k2, rfl, fun _ => ⟨h0.2.1.1, rfl, rfl, k1.trans z1⟩⟩
  · refine BI_g hσ rfl ⟨by rw [hsz, e10]; exact z1, by rw [hsz]; exact z2⟩ ?_ gBI
    obtain ⟨w1, w2, w3, w4, w5, w6, w7⟩ := gBI.2.2.2.2.2
    obtain ⟨n, hn1, hn2, rfl⟩ := wit_nat (lo := 1) (hi := 4) (by decide) (by decide) hs
    refine ⟨by rw [hnx, e11]; rfl, by rw [hen, e12], by omega, by omega, by rw [hnx, hen, hsz]; intro; omega, ?_, ?_⟩
    · rw [e14]
      exact ⟨nI_le (a := 1) hn1 (by omega), nI_le (b := 4) hn2 (by omega)⟩
    · intro j hj
      rw [hsz] at hj
      unfold bto
      rw [e16]
      exact w7 j hj
theorem bPlay_no {σ : Sg} (hG : GI σ) (h : bPlay σ = 0) : ¬ bnx σ < ben σ := by
  intro hlt
  obtain ⟨g1, g2, g3, g4, -⟩ := hG
  unfold bPlay at h
  rw [g1, g2, if_neg (nI_ge hlt (by omega))] at h
  exact absurd h (by decide)
theorem Rl_empty {e p a : Int32} {σ τ ρ : Sg} (h0 : Rl e p a σ τ) (hp : bPlay σ = 0) (ho : Off [126] τ ρ) (r1 : ρ.1 126 0 0 0 = 0) : Rl e p a (us σ 10 0 0 0) ρ := by
  have hσ : Off [10] σ (us σ 10 0 0 0) := Off.rf.us (by decide)
  have gBI := h0.2.2.2.2.2.2.2.2.2.2.2.2.2.2
  have e10 : (us σ 10 0 0 0).1 10 0 0 0 = 0 := us_self
  have hsz : bsz (us σ 10 0 0 0) = 0 := by unfold bsz; rw [e10]; decide
  have hbp : bPlay (us σ 10 0 0 0) = bPlay σ := by
    unfold bPlay
    rw [hσ.at (f := 12) (by decide), hσ.at (f := 11) (by decide)]
  refine h0.upd [10] [126] hσ ho (by rw [ho.at (by decide)]; exact h0.1) (Or.inl ⟨rfl, rfl, rfl⟩) (Or.inl rfl) (Or.inl rfl) (Or.inl rfl) (Or.inl rfl) (Or.inl rfl) (Or.inl rfl) (Or.inl rfl) (Or.inl rfl) (Or.inr ?_) (Or.inl rfl) (Or.inl rfl) (Or.inl rfl) (Or.inr ?_)
  · obtain ⟨k1, k2, k3, k4⟩ := h0.2.2.2.2.2.2.2.2.2.2.1
    unfold RB
    rw [hbp, e10, r1, ho.at (f := 127) (by decide)]
    refine ⟨rfl, fun j hj => ?_, k3, fun z => absurd hp z⟩
    exact absurd hj (by rw [show (0 : Int32).toNatClampNeg = 0 by decide]; omega)
  · refine BI_g hσ rfl ⟨by rw [hsz, e10]; rfl, by omega⟩ ?_ gBI
    have hno := bPlay_no gBI.2.2.2.2.2 hp
    obtain ⟨w1, w2, w3, w4, w5, w6, w7⟩ := gBI.2.2.2.2.2
    have n1 : bnx (us σ 10 0 0 0) = bnx σ := by unfold bnx; rw [us_f (by decide)]
    have n2 : ben (us σ 10 0 0 0) = ben σ := by unfold ben; rw [us_f (by decide)]
    refine ⟨by rw [n1, us_f (by decide)]; exact w1, by rw [n2, us_f (by decide)]; exact w2, by omega, by omega, by rw [n1, n2]; intro z; exact absurd z hno, by rw [us_f (by decide)]; exact w6, fun j hj => by rw [hsz] at hj; omega⟩
theorem qClose_ne {σ : Sg} {i t f i' t' : Nat} (h1 : ¬ (f, i', t') = (33, i, t)) (h2 : ¬ (f, i', t') = (34, i, t)) : (qClose σ i t).1 f i' t' = σ.1 f i' t' := by
  unfold qClose
  rw [us_ne h2, us_ne h1]
theorem qClose_33 {σ : Sg} {i t : Nat} : (qClose σ i t).1 33 i t 0 = 0 := by simp [qClose, us, upA]
theorem qClose_34 {σ : Sg} {i t : Nat} : (qClose σ i t).1 34 i t 0 = 0 := by simp [qClose, us, upA]
theorem QI_close {σ : Sg} {i t : Nat} (hQ : QI σ) : QI (qClose σ i t) := by
  intro i' t' hi' ht'
  by_cases he : i' = i ∧ t' = t
  · obtain ⟨rfl, rfl⟩ := he
    unfold qsz qdp
    rw [qClose_33, qClose_34]
    exact ⟨by decide, by decide, by decide, by decide⟩
  · unfold qsz qdp
    rw [qClose_ne (by simp) (by simp; omega), qClose_ne (by simp; omega) (by simp)]
    exact hQ i' t' hi' ht'
theorem RQ_close {σ τ ρ : Sg} {i t : Nat} (hi : i < 6) (ht : t < 6) (hQ : RQ σ τ) (hI : QI σ) (ho : Off [105, 106] τ ρ) (r1 : ρ.1 105 0 0 = upd (τ.1 105 0 0) (6 * i + t) 0) (r2 : ρ.1 106 0 0 = upd (τ.1 106 0 0) (6 * i + t) 0) : RQ (qClose σ i t) ρ := by
  intro i' hi' t' ht'
  obtain ⟨g1, g2, g3⟩ := hQ i' hi' t' ht'
  rw [r1, r2, ho.at (f := 107) (by decide), ho.at (f := 108) (by decide), ho.at (f := 109) (by decide)]
  by_cases he : i' = i ∧ t' = t
  · obtain ⟨rfl, rfl⟩ := he
    rw [pk_us, pk_us, qClose_33, qClose_34]
    refine ⟨rfl, rfl, fun k hk => absurd hk ?_⟩
    rw [show (0 : Int32).toNatClampNeg = 0 by decide]
    omega
  · have hx : 6 * i' + t' ≠ 6 * i + t := fun z => he ⟨by omega, by omega⟩
    rw [pk_un hx, pk_un hx, qClose_ne (by simp; omega) (by simp), qClose_ne (by simp) (by simp; omega), qClose_ne (by simp) (by simp)]
    exact ⟨g1, g2, g3⟩
theorem Rl_close {e p a : Int32} {σ τ ρ : Sg} {i t : Nat} (hi : i < 6) (ht : t < 6) (h0 : Rl e p a σ τ) (ho : Off [105, 106] τ ρ) (r1 : ρ.1 105 0 0 = upd (τ.1 105 0 0) (6 * i + t) 0) (r2 : ρ.1 106 0 0 = upd (τ.1 106 0 0) (6 * i + t) 0) : Rl e p a (qClose σ i t) ρ := by
  have hσ : Off [33, 34] σ (qClose σ i t) := (Off.rf.us (by decide)).us (by decide)
  have gBI := h0.2.2.2.2.2.2.2.2.2.2.2.2.2.2
  refine h0.upd [33, 34] [105, 106] hσ ho (by rw [ho.at (by decide)]; exact h0.1) (Or.inl ⟨rfl, rfl, rfl⟩) (Or.inr ?_) (Or.inl rfl) (Or.inl rfl) (Or.inr ?_) (Or.inl rfl) (Or.inl rfl) (Or.inl rfl) (Or.inl rfl) (Or.inl rfl) (Or.inl rfl) (Or.inl rfl) (Or.inl rfl) (Or.inr ?_)
  · intro i' hi'
    obtain ⟨k1, k2⟩ := h0.2.2.1 i' hi'
    rw [ho.at (f := 102) (by decide), hσ.at (f := 30) (by decide)]
    refine ⟨k1, fun z t' ht' => ?_⟩
    by_cases he : i' = i ∧ t' = t
    · obtain ⟨rfl, rfl⟩ := he
      exact qClose_33
    · rw [qClose_ne (by simp; omega) (by simp)]
      exact k2 z t' ht'
  · exact RQ_close hi ht h0.2.2.2.2.2.1 gBI.1 ho r1 r2
  · exact BI_q hσ rfl (QI_close gBI.1) gBI
theorem isAc_k {k a c : Int32} (h : ¬ isAc k a c = 0) : (k = -1 ∨ k = 0 ∨ k = 1 ∨ k = 2 ∨ k = 3 ∨ k = 4) ∧ (k = 0 ∨ k = 1 → ¬ bel a 4 = 0) ∧ (k = 2 → ¬ bel a 6 = 0) ∧ (k = 3 → ¬ bel a 4 = 0 ∧ ¬ bel c 4 = 0) ∧ (k = 4 → ¬ bel a 6 = 0 ∧ ¬ bel c 4 = 0) := by
  unfold isAc at h
  by_cases h0 : k = -1
  · subst h0; simp
  · rw [if_neg h0] at h
    by_cases h1 : k = 0
    · subst h1; simp at h ⊢; exact h
    · rw [if_neg h1] at h
      by_cases h2 : k = 1
      · subst h2; simp at h ⊢; exact h
      · rw [if_neg h2] at h
        by_cases h3 : k = 2
        · subst h3
          simp at h ⊢
          exact h.1
        · rw [if_neg h3] at h
          by_cases h4 : k = 3
          · subst h4
            simp at h ⊢
            exact ⟨h.1, h.2⟩
          · rw [if_neg h4] at h
            by_cases h5 : k = 4
            · subst h5
              simp at h ⊢
              exact ⟨h.1, h.2⟩
            · rw [if_neg h5] at h
              exact absurd rfl h
theorem bel_cl {x : Int32} {n : Nat} (hn : n < 2 ^ 31) (h : ¬ bel x (nI n) = 0) : x = nI x.toNatClampNeg ∧ x.toNatClampNeg < n := by
  obtain ⟨k, hk, rfl⟩ := bel_nat hn h
  rw [nI_clamp (by omega)]
  exact ⟨rfl, hk⟩
theorem Rl_act {e p a0 : Int32} {σ τ ρ : Sg} {i t : Nat} {k a c : Int32} (hi : i < 6) (ht : t < 6) (h0 : Rl e p a0 σ τ) (hk : ¬ isAc k a c = 0) (ho : Off [110, 111, 112] τ ρ) (r1 : ρ.1 110 0 0 = upd (τ.1 110 0 0) (6 * i + t) k) (r2 : ρ.1 111 0 0 = upd (τ.1 111 0 0) (6 * i + t) a) (r3 : ρ.1 112 0 0 = upd (τ.1 112 0 0) (6 * i + t) c) : Rl e p a0 (us (us (us σ 36 i t k) 37 i t a) 38 i t c) ρ := by
  have hσ : Off [36, 37, 38] σ (us (us (us σ 36 i t k) 37 i t a) 38 i t c) := ((Off.rf.us (by decide)).us (by decide)).us (by decide)
  have gBI := h0.2.2.2.2.2.2.2.2.2.2.2.2.2.2
  obtain ⟨q1, q2, q3, q4, q5⟩ := isAc_k hk
  have e36 : (us (us (us σ 36 i t k) 37 i t a) 38 i t c).1 36 i t 0 = k := by simp [us, upA]
  have e37 : (us (us (us σ 36 i t k) 37 i t a) 38 i t c).1 37 i t 0 = a := by simp [us, upA]
  have e38 : (us (us (us σ 36 i t k) 37 i t a) 38 i t c).1 38 i t 0 = c := by simp [us, upA]
  have en : ∀ f i' t', ¬ (i' = i ∧ t' = t) → (us (us (us σ 36 i t k) 37 i t a) 38 i t c).1 f i' t' = σ.1 f i' t' := fun f i' t' hne => by
    rw [us_ne (by simp; omega), us_ne (by simp; omega), us_ne (by simp; omega)]
  refine h0.upd [36, 37, 38] [110, 111, 112] hσ ho (by rw [ho.at (by decide)]; exact h0.1) (Or.inl ⟨rfl, rfl, rfl⟩) (Or.inl rfl) (Or.inl rfl) (Or.inl rfl) (Or.inl rfl) (Or.inr ?_) (Or.inl rfl) (Or.inl rfl) (Or.inl rfl) (Or.inl rfl) (Or.inl rfl) (Or.inl rfl) (Or.inl rfl) (Or.inr ?_)
  · intro i' hi' t' ht'
    by_cases he : i' = i ∧ t' = t
    · obtain ⟨rfl, rfl⟩ := he
      rw [r1, r2, r3, pk_us, pk_us, pk_us, e36, e37, e38]
      exact ⟨rfl, q1, fun _ => ⟨rfl, rfl⟩⟩
    · have hx : 6 * i' + t' ≠ 6 * i + t := fun z => he ⟨by omega, by omega⟩
      rw [r1, r2, r3, pk_un hx, pk_un hx, pk_un hx, en _ _ _ he, en _ _ _ he, en _ _ _ he]
      exact h0.2.2.2.2.2.2.1 i' hi' t' ht'
  · refine BI_a hσ rfl ?_ gBI
    intro i' t' hi' ht'
    by_cases he : i' = i ∧ t' = t
    · obtain ⟨rfl, rfl⟩ := he
      unfold okA okB aA aB
      rw [e36, e37, e38]
      exact ⟨fun z => bel_cl (n := 4) (by decide) (q2 z), fun z => bel_cl (n := 6) (by decide) (q3 z), fun z => ⟨bel_cl (n := 4) (by decide) (q4 z).1, bel_cl (n := 4) (by decide) (q4 z).2⟩, fun z => ⟨bel_cl (n := 6) (by decide) (q5 z).1, bel_cl (n := 4) (by decide) (q5 z).2⟩⟩
    · unfold okA okB aA aB
      rw [en _ _ _ he, en _ _ _ he, en _ _ _ he]
      exact gBI.2.2.2.1 i' t' hi' ht'
theorem isSv_k {s k c d : Int32} (h : ¬ isSv s k c d = 0) : (k = 0 ∨ k = 1 ∨ k = 2 ∨ k = 3) ∧ (k = 1 ∨ k = 2 → ¬ bel c 4 = 0) ∧ (k = 3 → ¬ bel c s = 0) := by
  unfold isSv at h
  by_cases h9 : wit d (-1000) 1000 = 0
  · rw [if_pos h9] at h; exact absurd rfl h
  · rw [if_neg h9] at h
    by_cases h0 : k = 0
    · subst h0; simp
    · rw [if_neg h0] at h
      by_cases h1 : k = 1
      · subst h1; simp at h ⊢; exact h
      · rw [if_neg h1] at h
        by_cases h2 : k = 2
        · subst h2; simp at h ⊢; exact h
        · rw [if_neg h2] at h
          by_cases h3 : k = 3
          · subst h3; simp at h ⊢; exact h
          · rw [if_neg h3] at h; exact absurd rfl h
theorem isSm_sv {s k c d : Int32} (hs : ¬ bel s 4 = 0) : isSm s k c d = 0 ↔ isSv s k c d = 0 := by
  unfold isSm isSv
  by_cases h9 : wit d (-1000) 1000 = 0
  · rw [if_pos h9, if_pos h9]
  · rw [if_neg h9, if_neg h9, show wit s 0 3 = bel s 4 from wit0_bel s 3 (by decide), if_neg hs]
    by_cases h0 : k = 0
    · rw [if_pos h0, if_pos h0]
    · rw [if_neg h0, if_neg h0]
      by_cases h3 : k = 3
      · subst h3
        rw [if_pos rfl, if_neg (by decide), if_neg (by decide), if_pos rfl]
        obtain ⟨n, hn, rfl⟩ := bel_nat (n := 4) (by decide) hs
        unfold wit bel
        by_cases h5 : c < 0
        · rw [if_pos h5, if_pos h5]
        · rw [if_neg h5, if_neg h5]
          have e : (nI n - 1 < c) = (nI n ≤ c) := by
            apply propext
            rw [Int32.lt_iff_toInt_lt, Int32.le_iff_toInt_le, nI_toInt (by omega)]
            have e1 : (nI n - 1).toInt = (n : Int) - 1 := by
              have h9 : n = 0 ∨ n = 1 ∨ n = 2 ∨ n = 3 := by omega
              rcases h9 with rfl | rfl | rfl | rfl <;> decide
            rw [e1]
            omega
          simp only [e]
      · rw [if_neg h3, if_neg h3]
        by_cases h1 : k = 1
        · subst h1
          rw [if_pos rfl, show wit c 0 3 = bel c 4 from wit0_bel c 3 (by decide), if_neg (by decide)]
          by_cases h5 : bel c 4 = 0
          · rw [if_pos h5]; exact ⟨fun _ => h5, fun _ => rfl⟩
          · rw [if_neg h5]; exact ⟨fun z => absurd z (by decide), fun z => absurd z h5⟩
        · rw [if_neg h1]
          by_cases h2 : k = 2
          · subst h2
            rw [if_pos rfl, show wit c 0 3 = bel c 4 from wit0_bel c 3 (by decide), if_neg (by decide)]
            by_cases h5 : bel c 4 = 0
            · rw [if_pos h5]; exact ⟨fun _ => h5, fun _ => rfl⟩
            · rw [if_neg h5]; exact ⟨fun z => absurd z (by decide), fun z => absurd z h5⟩
          · rw [if_neg h2]
            have h6 : wit k 1 2 = 0 := Decidable.byContradiction (fun z => by
              obtain ⟨n, n1, n2, rfl⟩ := wit_nat (lo := 1) (hi := 2) (by decide) (by decide) z
              have h9 : n = 1 ∨ n = 2 := by omega
              rcases h9 with rfl | rfl
              · exact h1 rfl
              · exact h2 rfl)
            rw [if_pos h6]
theorem isSm_no {s k c d : Int32} (hs : bel s 4 = 0) : isSm s k c d = 0 := by
  unfold isSm
  rw [show wit s 0 3 = bel s 4 from wit0_bel s 3 (by decide), if_pos hs]
  split <;> rfl
theorem Rl_offer {e p a0 : Int32} {σ τ ρ : Sg} {i s : Nat} {k c d : Int32} (hi : i < 6) (hpi : ¬ σ.1 30 i 0 0 = 0) (hs : s < 4) (h0 : Rl e p a0 σ τ) (hk : ¬ isSv (nI s) k c d = 0) (ho : Off [119, 120, 121, 122] τ ρ) (r1 : ρ.1 119 0 0 = upd (τ.1 119 0 0) s (nI i)) (r2 : ρ.1 120 0 0 = upd (τ.1 120 0 0) s k) (r3 : ρ.1 121 0 0 = upd (τ.1 121 0 0) s c) (r4 : ρ.1 122 0 0 = upd (τ.1 122 0 0) s d) : Rl e p a0 (us (us (us (us σ 50 s 0 (nI i)) 51 s 0 k) 52 s 0 c) 53 s 0 d) ρ := by
  have hσ : Off [50, 51, 52, 53] σ (us (us (us (us σ 50 s 0 (nI i)) 51 s 0 k) 52 s 0 c) 53 s 0 d) := (((Off.rf.us (by decide)).us (by decide)).us (by decide)).us (by decide)
  have gBI := h0.2.2.2.2.2.2.2.2.2.2.2.2.2.2
  obtain ⟨q1, q2, q3⟩ := isSv_k hk
  have e0 : (us (us (us (us σ 50 s 0 (nI i)) 51 s 0 k) 52 s 0 c) 53 s 0 d).1 50 s 0 0 = nI i := by simp [us, upA]
  have e1 : (us (us (us (us σ 50 s 0 (nI i)) 51 s 0 k) 52 s 0 c) 53 s 0 d).1 51 s 0 0 = k := by simp [us, upA]
  have e2 : (us (us (us (us σ 50 s 0 (nI i)) 51 s 0 k) 52 s 0 c) 53 s 0 d).1 52 s 0 0 = c := by simp [us, upA]
  have e3 : (us (us (us (us σ 50 s 0 (nI i)) 51 s 0 k) 52 s 0 c) 53 s 0 d).1 53 s 0 0 = d := by simp [us, upA]
  have en : ∀ f s' t', ¬ s' = s → (us (us (us (us σ 50 s 0 (nI i)) 51 s 0 k) 52 s 0 c) 53 s 0 d).1 f s' t' = σ.1 f s' t' := fun f s' t' hne => by
    rw [us_ne (by simp; omega), us_ne (by simp; omega), us_ne (by simp; omega), us_ne (by simp; omega)]
  refine h0.upd [50, 51, 52, 53] [119, 120, 121, 122] hσ ho (by rw [ho.at (by decide)]; exact h0.1) (Or.inl ⟨rfl, rfl, rfl⟩) (Or.inl rfl) (Or.inl rfl) (Or.inl rfl) (Or.inl rfl) (Or.inl rfl) (Or.inl rfl) (Or.inr ?_) (Or.inr ?_) (Or.inl rfl) (Or.inl rfl) (Or.inl rfl) (Or.inl rfl) (Or.inr ?_)
  · intro s' hs'
    by_cases he : s' = s
    · subst he
      rw [r1, r2, r3, r4, pk_us, pk_us, pk_us, pk_us, e0, e1, e2, e3]
      exact ⟨rfl, fun _ => ⟨rfl, rfl, rfl, q1⟩⟩
    · rw [r1, r2, r3, r4, pk_un he, pk_un he, pk_un he, pk_un he, en _ _ _ he, en _ _ _ he, en _ _ _ he, en _ _ _ he]
      exact h0.2.2.2.2.2.2.2.2.1 s' hs'
  · intro s' hs' hn
    rw [hσ.at (f := 30) (by decide)]
    by_cases he : s' = s
    · subst he
      rw [e0, nI_clamp (by omega)]
      exact hpi
    · rw [en _ _ _ he] at hn ⊢
      exact h0.2.2.2.2.2.2.2.2.2.1 s' hs' hn
  · refine BI_s hσ rfl ?_ gBI
    intro s' hs' hn
    by_cases he : s' = s
    · subst he
      unfold sN sC
      rw [e0, e1, e2, nI_clamp (by omega)]
      refine ⟨⟨rfl, hi⟩, ?_⟩
      rcases q1 with q | q | q | q
      · exact Or.inl q
      · obtain ⟨y1, y2⟩ := bel_cl (n := 4) (by decide) (q2 (Or.inl q))
        exact Or.inr ⟨y1, y2, fun z => absurd (q.symm.trans z) (by decide)⟩
      · obtain ⟨y1, y2⟩ := bel_cl (n := 4) (by decide) (q2 (Or.inr q))
        exact Or.inr ⟨y1, y2, fun z => absurd (q.symm.trans z) (by decide)⟩
      · obtain ⟨y1, y2⟩ := bel_cl (n := s') (by omega) (q3 q)
        exact Or.inr ⟨y1, by omega, fun _ => y2⟩
    · unfold sN sC
      rw [en _ _ _ he] at hn ⊢
      rw [en _ _ _ he, en _ _ _ he]
      exact gBI.2.2.1 s' hs' hn
