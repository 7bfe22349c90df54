/-! Queues: what the bus does to one, and the model -/
theorem qDrop0_35 {σ : Sg} {i t q j : Nat} (h : j < q * 3) : (qDrop σ i t q 0).1 35 i t j = σ.1 35 i t j := by
  unfold qDrop
  rw [upA_self, pk_cpy_in (by omega) (by omega), show 0 * 3 + (j - 0) = j by omega]
theorem BI_q {L : List Nat} {σ σ' : Sg} (hσ : Off L σ σ') (d : dj [10, 11, 12, 13, 14, 15, 16, 31, 36, 37, 38, 50, 51, 52, 53] L = true) (hQ : QI σ') (hB : BI σ) : BI σ' := by
  obtain ⟨_, k2, k3, k4, k5, k6⟩ := hB
  have e : ∀ f, f ∈ [10, 11, 12, 13, 14, 15, 16, 31, 36, 37, 38, 50, 51, 52, 53] → σ'.1 f = σ.1 f := fun f hf => hσ.at (dj_spec d hf)
  refine ⟨hQ, BZ_eq (by rw [e 10 (by decide)]) k2, SI_eq (fun f i a b => ?_) k3, AI_eq (fun f i t a b => ?_) k4, NF_eq (fun i => by rw [e 31 (by decide)]) k5, GI_eq (fun f a b => ?_) k6⟩
  · rw [e f (by simp; omega)]
  · rw [e f (by simp; omega)]
  · rw [e f (by simp; omega)]
theorem qDrop1_35 {σ : Sg} {i t q j : Nat} (h : j < (q - 1) * 3) : (qDrop σ i t q 1).1 35 i t j = σ.1 35 i t (j + 3) := by
  unfold qDrop
  rw [upA_self, pk_cpy_in (by omega) (by omega), show 1 * 3 + (j - 0) = j + 3 by omega]
theorem qPut_35 {σ : Sg} {i t q : Nat} {v s w : Int32} : (∀ j, j < q * 3 → (qPut σ i t q v s w).1 35 i t j = σ.1 35 i t j) ∧ (qPut σ i t q v s w).1 35 i t (q * 3) = v ∧ (qPut σ i t q v s w).1 35 i t (q * 3 + 1) = s ∧ (qPut σ i t q v s w).1 35 i t (q * 3 + 2) = w := by
  have e : (qPut σ i t q v s w).1 35 i t = upd (upd (upd (σ.1 35 i t) (q * 3) v) (q * 3 + 1) s) (q * 3 + 2) w := by
    unfold qPut
    rw [us_ne (by simp), upA_self]
  rw [e]
  refine ⟨fun j hj => ?_, ?_, ?_, ?_⟩
  · rw [pk_un (by omega), pk_un (by omega), pk_un (by omega)]
  · rw [pk_un (by omega), pk_un (by omega), pk_us]
  · rw [pk_un (by omega), pk_us]
  · rw [pk_us]
theorem qApp_f {σ : Sg} {i t q d f : Nat} {v s w : Int32} (h1 : f ≠ 34) (h2 : f ≠ 35) : (qApp σ i t q d v s w).1 f = σ.1 f := by
  funext i' t'
  exact qApp_ne (fun z => h1 (congrArg Prod.fst z)) (fun z => h2 (congrArg Prod.fst z))
theorem upA_23 {σ : Sg} {v : Ky} {g : Nat → Int32} : (upA σ v g).2 = σ.2 := rfl
theorem qApp_23 {σ : Sg} {i t q d : Nat} {v s w : Int32} : (qApp σ i t q d v s w).2 = σ.2 := by
  unfold qApp
  split <;> rfl
theorem Off_qApp {L : List Nat} {σ : Sg} {i t q d : Nat} {v s w : Int32} (h1 : 34 ∈ L) (h2 : 35 ∈ L) : Off L σ (qApp σ i t q d v s w) := fun f hf =>
  ⟨qApp_f (fun z => hf (z ▸ h1)) (fun z => hf (z ▸ h2)), by rw [qApp_23], by rw [qApp_23]⟩
theorem Off_qDrop {L : List Nat} {σ : Sg} {i t q m : Nat} (h1 : 34 ∈ L) (h2 : 35 ∈ L) : Off L σ (qDrop σ i t q m) := (Off.rf.us h1).uA h2
theorem RQ_put {σ τ ρ : Sg} {i t q d : Nat} {v s u : Int32} (hi : i < 6) (ht : t < 6) (hQ : RQ σ τ) (hI : QI σ) (hq : σ.1 34 i t 0 = nI q) (hqd : q ≤ d) (h1 : 1 ≤ d) (h4 : d ≤ 4) (hp : puP τ (6 * i + t) q d v s u ρ) : RQ (qApp σ i t q d v s u) ρ := by
  obtain ⟨ho, hA, hB⟩ := hp
  intro i' hi' t' ht'
  obtain ⟨g1, g2, g3⟩ := hQ i' hi' t' ht'
  have e5 := ho.at (f := 105) (by decide)
  have e33 : (qApp σ i t q d v s u).1 33 = σ.1 33 := qApp_f (by decide) (by decide)
  rw [e5, e33]
  refine ⟨g1, ?_⟩
  by_cases he : i' = i ∧ t' = t
  · obtain ⟨rfl, rfl⟩ := he
    rw [hq, nI_clamp (by omega)] at g3
    rw [qApp_sz]
    by_cases hlt : q < d
    · obtain ⟨b1, b2, b3, b4, b5⟩ := hB (by omega)
      rw [if_pos hlt, nI_clamp (by omega), b2, pk_us]
      refine ⟨rfl, fun k hk => ?_⟩
      rw [b3, b4, b5]
      have eA : qApp σ i' t' q d v s u = qPut (qDrop σ i' t' q 0) i' t' q v s u := by unfold qApp; rw [if_pos hlt]
      obtain ⟨p0, p1, p2, p3⟩ := qPut_35 (σ := qDrop σ i' t' q 0) (i := i') (t := t') (q := q) (v := v) (s := s) (w := u)
      rw [eA]
      by_cases hkq : k = q
      · subst hkq
        rw [pk_us, pk_us, pk_us, p1, p2, p3]
        exact ⟨rfl, rfl, rfl⟩
      · rw [pk_un (by omega), pk_un (by omega), pk_un (by omega), p0 _ (by omega), p0 _ (by omega), p0 _ (by omega), qDrop0_35 (by omega), qDrop0_35 (by omega), qDrop0_35 (by omega)]
        exact g3 k (by omega)
    · have hqe : q = d := by omega
      obtain ⟨b1, b2, b3, b4, b5⟩ := hA hqe
      rw [if_neg hlt, nI_clamp (by omega), b2, pk_us]
      refine ⟨by rw [show q - 1 + 1 = d by omega], fun k hk => ?_⟩
      rw [b3, b4, b5]
      have eA : qApp σ i' t' q d v s u = qPut (qDrop σ i' t' q 1) i' t' (q - 1) v s u := by unfold qApp; rw [if_neg hlt]
      obtain ⟨p0, p1, p2, p3⟩ := qPut_35 (σ := qDrop σ i' t' q 1) (i := i') (t := t') (q := q - 1) (v := v) (s := s) (w := u)
      rw [eA]
      by_cases hkq : k = q - 1
      · have hkd : 4 * (6 * i' + t') + k = 4 * (6 * i' + t') + (d - 1) := by omega
        rw [hkd, pk_us, pk_us, pk_us, hkq, p1, p2, p3]
        exact ⟨rfl, rfl, rfl⟩
      · rw [pk_un (by omega), pk_un (by omega), pk_un (by omega), p0 _ (by omega), p0 _ (by omega), p0 _ (by omega), qDrop1_35 (by omega), qDrop1_35 (by omega), qDrop1_35 (by omega)]
        have hs : ∀ f : Nat → Int32, sh f (4 * (6 * i' + t')) (4 * (6 * i' + t') + (d - 1)) (4 * (6 * i' + t') + k) = f (4 * (6 * i' + t') + (k + 1)) := fun f => by
          unfold sh
          rw [if_pos (by omega)]
          rfl
        rw [hs, hs, hs]
        have := g3 (k + 1) (by omega)
        rw [show (k + 1) * 3 = k * 3 + 3 by omega] at this
        exact this
  · have hne : ¬ (34, i', t') = (34, i, t) := fun z => he ⟨by simpa using congrArg (fun x => x.2.1) z, by simpa using congrArg (fun x => x.2.2) z⟩
    have hne5 : ¬ (35, i', t') = (35, i, t) := fun z => he ⟨by simpa using congrArg (fun x => x.2.1) z, by simpa using congrArg (fun x => x.2.2) z⟩
    rw [qApp_ne hne (by simp), qApp_ne (by simp) hne5]
    have hs4 := (hI i' t' hi' ht')
    have hsz : (σ.1 34 i' t' 0).toNatClampNeg ≤ 4 := by have := hs4.2.2; unfold qsz at this; omega
    have hx : 6 * i' + t' ≠ 6 * i + t := fun z => he ⟨by omega, by omega⟩
    by_cases hqe : q = d
    · obtain ⟨b1, b2, b3, b4, b5⟩ := hA hqe
      rw [b2, pk_un hx, b3, b4, b5]
      refine ⟨g2, fun k hk => ?_⟩
      have hs : ∀ (f : Nat → Int32), sh f (4 * (6 * i + t)) (4 * (6 * i + t) + (d - 1)) (4 * (6 * i' + t') + k) = f (4 * (6 * i' + t') + k) := fun f => by
        unfold sh
        rw [if_neg (by omega)]
      rw [pk_un (by omega), pk_un (by omega), pk_un (by omega), hs, hs, hs]
      exact g3 k hk
    · obtain ⟨b1, b2, b3, b4, b5⟩ := hB hqe
      rw [b2, pk_un hx, b3, b4, b5]
      refine ⟨g2, fun k hk => ?_⟩
      rw [pk_un (by omega), pk_un (by omega), pk_un (by omega)]
      exact g3 k hk
theorem RQ_shift {σ τ ρ : Sg} {i t q : Nat} (hi : i < 6) (ht : t < 6) (hQ : RQ σ τ) (hI : QI σ) (hq : σ.1 34 i t 0 = nI (q + 1)) (h4 : q ≤ 3) (hp : shP τ (6 * i + t) q (4 * (6 * i + t) + q) ρ) : RQ (qDrop σ i t (q + 1) 1) ρ := by
  obtain ⟨ho, b2, b3, b4, b5⟩ := hp
  intro i' hi' t' ht'
  obtain ⟨g1, g2, g3⟩ := hQ i' hi' t' ht'
  have e5 := ho.at (f := 105) (by decide)
  rw [e5, qDrop_ne (by simp) (by simp)]
  refine ⟨g1, ?_⟩
  by_cases he : i' = i ∧ t' = t
  · obtain ⟨rfl, rfl⟩ := he
    rw [hq, nI_clamp (by omega)] at g3
    rw [qDrop_sz, nI_clamp (by omega), b2, pk_us]
    refine ⟨rfl, fun k hk => ?_⟩
    have hs : ∀ f : Nat → Int32, sh f (4 * (6 * i' + t')) (4 * (6 * i' + t') + q) (4 * (6 * i' + t') + k) = f (4 * (6 * i' + t') + (k + 1)) := fun f => by
      unfold sh
      rw [if_pos (by omega)]
      rfl
    rw [b3, b4, b5, hs, hs, hs, qDrop1_35 (by omega), qDrop1_35 (by omega), qDrop1_35 (by omega)]
    have := g3 (k + 1) (by omega)
    rw [show (k + 1) * 3 = k * 3 + 3 by omega] at this
    exact this
  · have hne : ¬ (34, i', t') = (34, i, t) := fun z => he ⟨by simpa using congrArg (fun x => x.2.1) z, by simpa using congrArg (fun x => x.2.2) z⟩
    have hne5 : ¬ (35, i', t') = (35, i, t) := fun z => he ⟨by simpa using congrArg (fun x => x.2.1) z, by simpa using congrArg (fun x => x.2.2) z⟩
    rw [qDrop_ne hne (by simp), qDrop_ne (by simp) hne5]
    have hs4 := (hI i' t' hi' ht')
    have hsz : (σ.1 34 i' t' 0).toNatClampNeg ≤ 4 := by have := hs4.2.2; unfold qsz at this; omega
    have hx : 6 * i' + t' ≠ 6 * i + t := fun z => he ⟨by omega, by omega⟩
    rw [b2, pk_un hx, b3, b4, b5]
    refine ⟨g2, fun k hk => ?_⟩
    have hs : ∀ (f : Nat → Int32), sh f (4 * (6 * i + t)) (4 * (6 * i + t) + q) (4 * (6 * i' + t') + k) = f (4 * (6 * i' + t') + k) := fun f => by
      unfold sh
      rw [if_neg (by omega)]
    rw [hs, hs, hs]
    exact g3 k hk
/-- a message comes: the whole relation -/
theorem Rl_put {e p a : Int32} {σ τ ρ : Sg} {i t : Nat} {v s u : Int32} (h : Rl e p a σ τ) (hi : i < 6) (ht : t < 6) (h1 : 1 ≤ qdp σ i t) (hp : puP τ (6 * i + t) (qsz σ i t) (qdp σ i t) v s u ρ) :
    Rl e p a (us (qApp σ i t (qsz σ i t) (qdp σ i t) v s u) 2 0 0 (σ.1 2 0 0 0 + qLost (qsz σ i t) (qdp σ i t))) ρ := by
  have h' := h
  obtain ⟨h0, gC, gN, gV, gK, gQ, gA, gT, gS, gP, gB, gF, gFV, gY, gBI⟩ := h
  obtain ⟨q1, q2, q3, q4⟩ := gBI.1 i t hi ht
  have hQ := RQ_put hi ht gQ gBI.1 q1 q3 h1 q4 hp
  obtain ⟨ho, hA, hB⟩ := hp
  have hσ : Off [2, 34, 35] σ (us (qApp σ i t (qsz σ i t) (qdp σ i t) v s u) 2 0 0 (σ.1 2 0 0 0 + qLost (qsz σ i t) (qdp σ i t))) := Off.us (Off_qApp (by decide) (by decide)) (by decide)
  have hbi : BI (us (qApp σ i t (qsz σ i t) (qdp σ i t) v s u) 2 0 0 (σ.1 2 0 0 0 + qLost (qsz σ i t) (qdp σ i t))) := by
    exact BI_q hσ rfl (QI_us (by decide) (by decide) (QI_app gBI.1 hi ht h1)) gBI
  refine h'.upd [2, 34, 35] [106, 107, 108, 109, 141] hσ ho (by rw [ho.at (by decide)]; exact h0) (Or.inr ?_) (Or.inl rfl) (Or.inl rfl) (Or.inl rfl) (Or.inr ?_) (Or.inl rfl) (Or.inl rfl) (Or.inl rfl) (Or.inl rfl) (Or.inl rfl) (Or.inl rfl) (Or.inl rfl) (Or.inl rfl) (Or.inr hbi)
  · obtain ⟨c1, c2, c3, c4, c5⟩ := gC
    have e : ∀ f, f ≠ 2 → f ≠ 34 → f ≠ 35 → (us (qApp σ i t (qsz σ i t) (qdp σ i t) v s u) 2 0 0 (σ.1 2 0 0 0 + qLost (qsz σ i t) (qdp σ i t))).1 f = σ.1 f := fun f a b c => hσ.at (by simp; omega)
    refine ⟨by rw [ho.at (by decide), e 1 (by decide) (by decide) (by decide)]; exact c1, ?_, by rw [ho.at (by decide)]; exact c3, by rw [ho.at (by decide)]; exact c4, by rw [ho.at (by decide), e 5 (by decide) (by decide) (by decide)]; exact c5⟩
    rw [us_self]
    unfold qLost
    by_cases hqe : qsz σ i t = qdp σ i t
    · rw [(hA hqe).1, if_neg (by omega), c2]
    · rw [(hB hqe).1, if_pos (by omega), c2]
      simp
  · refine RQ_off (L := [2]) (L' := []) (Off.us Off.rf (by decide)) Off.rf rfl hQ
