/-! What always holds of nodes, actions, the bag; what publishing keeps. -/
def aA (σ : Sg) (i t : Nat) : Nat := (σ.1 37 i t 0).toNatClampNeg
def aB (σ : Sg) (i t : Nat) : Nat := (σ.1 38 i t 0).toNatClampNeg
def okA (σ : Sg) (i t n : Nat) : Prop := σ.1 37 i t 0 = nI (aA σ i t) ∧ aA σ i t < n
def okB (σ : Sg) (i t n : Nat) : Prop := σ.1 38 i t 0 = nI (aB σ i t) ∧ aB σ i t < n
def AI (σ : Sg) : Prop := ∀ i t, i < 6 → t < 6 → (σ.1 36 i t 0 = 0 ∨ σ.1 36 i t 0 = 1 → okA σ i t 4) ∧ (σ.1 36 i t 0 = 2 → okA σ i t 6) ∧ (σ.1 36 i t 0 = 3 → okA σ i t 4 ∧ okB σ i t 4) ∧ (σ.1 36 i t 0 = 4 → okA σ i t 6 ∧ okB σ i t 4)
def nF (σ : Sg) (i : Nat) : Nat := (σ.1 31 i 0 0).toNatClampNeg
def NF (σ : Sg) : Prop := ∀ i, i < 6 → σ.1 31 i 0 0 = nI (nF σ i) ∧ nF σ i < 6
def bnx (σ : Sg) : Nat := (σ.1 11 0 0 0).toNatClampNeg
def ben (σ : Sg) : Nat := (σ.1 12 0 0 0).toNatClampNeg
def bto (σ : Sg) (j : Nat) : Nat := (σ.1 16 0 0 j).toNatClampNeg
def GI (σ : Sg) : Prop := σ.1 11 0 0 0 = nI (bnx σ) ∧ σ.1 12 0 0 0 = nI (ben σ) ∧ bnx σ ≤ ben σ ∧ ben σ ≤ 30 ∧ (bnx σ < ben σ → ben σ ≤ bsz σ) ∧ (1 ≤ σ.1 14 0 0 0 ∧ σ.1 14 0 0 0 ≤ 4) ∧ ∀ j, j < bsz σ → σ.1 16 0 0 j = nI (bto σ j) ∧ bto σ j < 6
def BI (σ : Sg) : Prop := QI σ ∧ BZ σ ∧ SI σ ∧ AI σ ∧ NF σ ∧ GI σ
theorem SI_eq {σ σ' : Sg} (h : ∀ f i, 50 ≤ f → f ≤ 53 → σ'.1 f i 0 = σ.1 f i 0) (hS : SI σ) : SI σ' := by
  intro j hj hn
  unfold sN sC
  rw [h 50 j (by decide) (by decide)] at hn ⊢
  rw [h 51 j (by decide) (by decide), h 52 j (by decide) (by decide)]
  exact hS j hj hn
theorem AI_eq {σ σ' : Sg} (h : ∀ f i t, 36 ≤ f → f ≤ 38 → σ'.1 f i t = σ.1 f i t) (hA : AI σ) : AI σ' := by
  intro i t hi ht
  unfold okA okB aA aB
  rw [h 36 i t (by decide) (by decide), h 37 i t (by decide) (by decide), h 38 i t (by decide) (by decide)]
  exact hA i t hi ht
theorem NF_eq {σ σ' : Sg} (h : ∀ i, σ'.1 31 i 0 = σ.1 31 i 0) (hN : NF σ) : NF σ' := by
  intro i hi
  unfold nF
  rw [h i]
  exact hN i hi
theorem BZ_eq {σ σ' : Sg} (h : σ'.1 10 0 0 = σ.1 10 0 0) (hB : BZ σ) : BZ σ' := by
  unfold BZ bsz
  rw [h]
  exact hB
theorem GI_eq {σ σ' : Sg} (h : ∀ f, 10 ≤ f → f ≤ 16 → σ'.1 f 0 0 = σ.1 f 0 0) (hG : GI σ) : GI σ' := by
  unfold GI bnx ben bsz bto
  rw [h 10 (by decide) (by decide), h 11 (by decide) (by decide), h 12 (by decide) (by decide), h 14 (by decide) (by decide), h 16 (by decide) (by decide)]
  exact hG
/-- a state that differs only at names that none of these speak of -/
theorem BI_eq {σ σ' : Sg} (h : ∀ f i t, (f = 33 ∨ f = 34 ∨ (50 ≤ f ∧ f ≤ 53) ∨ (36 ≤ f ∧ f ≤ 38) ∨ f = 31 ∨ (10 ≤ f ∧ f ≤ 16)) → σ'.1 f i t = σ.1 f i t) (hB : BI σ) : BI σ' := by
  obtain ⟨h1, h2, h3, h4, h5, h6⟩ := hB
  exact ⟨QI_eq (fun i t _ _ => ⟨by rw [h 33 i t (by simp)], by rw [h 34 i t (by simp)]⟩) h1, BZ_eq (h 10 0 0 (by simp)) h2, SI_eq (fun f i a b => h f i 0 (by omega)) h3, AI_eq (fun f i t a b => h f i t (by omega)) h4, NF_eq (fun i => h 31 i 0 (by simp)) h5, GI_eq (fun f a b => h f 0 0 (by omega)) h6⟩
theorem BI_us {σ : Sg} {f i t : Nat} {x : Int32} (h : ¬ (f = 33 ∨ f = 34 ∨ (50 ≤ f ∧ f ≤ 53) ∨ (36 ≤ f ∧ f ≤ 38) ∨ f = 31 ∨ (10 ≤ f ∧ f ≤ 16))) (hB : BI σ) : BI (us σ f i t x) :=
  BI_eq (fun f' i' t' h' => us_ne (by simp; intro q; subst q; exact absurd h' h)) hB
theorem BI_upA {σ : Sg} {f i t : Nat} {g : Nat → Int32} (h : ¬ (f = 33 ∨ f = 34 ∨ (50 ≤ f ∧ f ≤ 53) ∨ (36 ≤ f ∧ f ≤ 38) ∨ f = 31 ∨ (10 ≤ f ∧ f ≤ 16))) (hB : BI σ) : BI (upA σ (f, i, t) g) :=
  BI_eq (fun f' i' t' h' => upA_ne (by simp; intro q; subst q; exact absurd h' h)) hB
theorem sLp_BI {t : Nat} {v s : Int32} (ht : t < 6) {σ : Sg} (hB : BI σ) : BI (sLp t v s 6 0 σ 0).1 := by
  obtain ⟨h1, h2, h3, h4, h5, h6⟩ := hB
  have e : ∀ f i' t', f ≠ 2 → f ≠ 34 → f ≠ 35 → (sLp t v s 6 0 σ 0).1.1 f i' t' = σ.1 f i' t' := fun f i' t' a b c => sLp_ne a b c 6 0 σ 0
  exact ⟨sLp_QI ht 6 0 rfl σ 0 h1, BZ_eq (e 10 0 0 (by decide) (by decide) (by decide)) h2, SI_eq (fun f i a b => e f i 0 (by omega) (by omega) (by omega)) h3, AI_eq (fun f i t a b => e f i t (by omega) (by omega) (by omega)) h4, NF_eq (fun i => e 31 i 0 (by decide) (by decide) (by decide)) h5, GI_eq (fun f a b => e f 0 0 (by omega) (by omega) (by omega)) h6⟩
theorem tLast_BI {i : Nat} {v s w : Int32} {σ : Sg} (hB : BI σ) : BI (tLast σ i v s w) :=
  BI_eq (fun f i' t' h => tLast_ne (by omega) (by omega) (by omega) (by omega)) hB
theorem bApp_BI {σ : Sg} {t : Nat} (ht : t < 6) {a v : Int32} (hB : BI σ) : BI (bApp σ (bsz σ) a (nI t) v) := by
  obtain ⟨h1, h2, h3, h4, h5, h6⟩ := hB
  by_cases hz : bsz σ < 30
  · have e : ∀ f i' t', f ≠ 10 → f ≠ 15 → f ≠ 16 → f ≠ 17 → (bApp σ (bsz σ) a (nI t) v).1 f i' t' = σ.1 f i' t' := fun f i' t' a b c d => bApp_ne a b c d
    have e10 : (bApp σ (bsz σ) a (nI t) v).1 10 0 0 0 = nI (bsz σ + 1) := by
      unfold bApp
      rw [if_pos hz, us_self]
    have e16 : (bApp σ (bsz σ) a (nI t) v).1 16 0 0 = upd (σ.1 16 0 0) (bsz σ) (nI t) := by
      unfold bApp
      rw [if_pos hz, us_ne (by decide), upA_ne (by decide), upA_self]
    have eb : bsz (bApp σ (bsz σ) a (nI t) v) = bsz σ + 1 := by
      show ((bApp σ (bsz σ) a (nI t) v).1 10 0 0 0).toNatClampNeg = _
      rw [e10, nI_clamp (by omega)]
    refine ⟨QI_eq (fun i t _ _ => ⟨by rw [e 33 i t (by decide) (by decide) (by decide) (by decide)], by rw [e 34 i t (by decide) (by decide) (by decide) (by decide)]⟩) h1, ?_, SI_eq (fun f i a b => e f i 0 (by omega) (by omega) (by omega) (by omega)) h3, AI_eq (fun f i t a b => e f i t (by omega) (by omega) (by omega) (by omega)) h4, NF_eq (fun i => e 31 i 0 (by decide) (by decide) (by decide) (by decide)) h5, ?_⟩
    · exact ⟨by rw [eb]; exact e10, by rw [eb]; omega⟩
    · obtain ⟨g1, g2, g3, g4, g5, g6, g7⟩ := h6
      have n1 : bnx (bApp σ (bsz σ) a (nI t) v) = bnx σ := by unfold bnx; rw [e 11 0 0 (by decide) (by decide) (by decide) (by decide)]
      have n2 : ben (bApp σ (bsz σ) a (nI t) v) = ben σ := by unfold ben; rw [e 12 0 0 (by decide) (by decide) (by decide) (by decide)]
      refine ⟨by rw [n1, e 11 0 0 (by decide) (by decide) (by decide) (by decide)]; exact g1, by rw [n2, e 12 0 0 (by decide) (by decide) (by decide) (by decide)]; exact g2, by rw [n1, n2]; exact g3, by rw [n2]; exact g4, by rw [n1, n2, eb]; omega, by rw [e 14 0 0 (by decide) (by decide) (by decide) (by decide)]; exact g6, ?_⟩
      intro j hj
      rw [eb] at hj
      unfold bto
      rw [e16]
      by_cases hjz : j = bsz σ
      · rw [hjz, pk_us, nI_clamp (by omega)]
        exact ⟨rfl, ht⟩
      · rw [pk_un hjz]
        exact g7 j (by omega)
  · have e : bApp σ (bsz σ) a (nI t) v = σ := by unfold bApp; rw [if_neg hz]
    rw [e]
    exact ⟨h1, h2, h3, h4, h5, h6⟩
theorem sSend_BI {σ : Sg} {t : Nat} (ht : t < 6) {v s : Int32} (hB : BI σ) : BI (sSend σ t v s) := by
  unfold sSend sPub
  refine BI_us (by decide) ?_
  have h1 := tLast_BI (i := t) (v := v) (s := s) (w := (sLp t v s 6 0 σ 0).1.1 1 0 0 0) (sLp_BI (v := v) (s := s) ht hB)
  unfold sRec
  split
  · exact h1
  · split
    · exact h1
    · exact bApp_BI ht h1
theorem sSend_ne {σ : Sg} {t f i' t' : Nat} {v s : Int32} (h : ¬ (f = 2 ∨ f = 3 ∨ f = 10 ∨ f = 15 ∨ f = 16 ∨ f = 17 ∨ f = 34 ∨ f = 35 ∨ f = 42 ∨ f = 43 ∨ f = 44 ∨ f = 45)) : (sSend σ t v s).1 f i' t' = σ.1 f i' t' := by
  unfold sSend sPub
  rw [us_ne (by simp; intro q; omega), sRec_ne (by omega) (by omega) (by omega) (by omega), tLast_ne (by omega) (by omega) (by omega) (by omega), sLp_ne (by omega) (by omega) (by omega)]
theorem cmpF_ne {σ : Sg} {j f i' t' : Nat} {q a : Int32} (h1 : f ≠ 6) (h2 : f ≠ 32) : (cmpF σ j q a).1.1 f i' t' = σ.1 f i' t' := by
  unfold cmpF
  split
  · exact us_ne (by simp; intro q; exact absurd q h1)
  · split
    · show (us _ 6 0 0 _).1 f i' t' = _
      rw [us_ne (by simp; intro q; exact absurd q h1), upA_ne (by simp; intro q; exact absurd q h2)]
    · split
      · rfl
      · exact us_ne (by simp; intro q; exact absurd q h1)
theorem askL_ne {σ : Sg} {f i' t' : Nat} {q : Int32} (h1 : f ≠ 6) (h2 : f ≠ 32) : ∀ (m j : Nat) (a : Int32), (askL σ q m j a).1.1 f i' t' = σ.1 f i' t' := by
  intro m
  induction m with
  | zero => intro j a; rfl
  | succ m ih =>
    intro j a
    unfold askL
    split
    · rfl
    · split
      · exact ih _ _
      · exact cmpF_ne h1 h2
theorem askF_BI {σ : Sg} {j : Nat} {q : Int32} (hB : BI σ) : BI (askF σ j q).1 := BI_eq (fun f i t h => askL_ne (by omega) (by omega) 4 j 0) hB
