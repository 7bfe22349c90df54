/-! What always holds of the bus' state, and what keeps it. -/
def qsz (σ : Sg) (i t : Nat) : Nat := (σ.1 34 i t 0).toNatClampNeg
def qdp (σ : Sg) (i t : Nat) : Nat := (σ.1 33 i t 0).toNatClampNeg
def bsz (σ : Sg) : Nat := (σ.1 10 0 0 0).toNatClampNeg
def QI (σ : Sg) : Prop := ∀ i t, i < 6 → t < 6 → σ.1 34 i t 0 = nI (qsz σ i t) ∧ σ.1 33 i t 0 = nI (qdp σ i t) ∧ qsz σ i t ≤ qdp σ i t ∧ qdp σ i t ≤ 4
def BZ (σ : Sg) : Prop := σ.1 10 0 0 0 = nI (bsz σ) ∧ bsz σ ≤ 30
theorem qDrop_ne {σ : Sg} {i t q m f i' t' : Nat} (h1 : ¬ (f, i', t') = (34, i, t)) (h2 : ¬ (f, i', t') = (35, i, t)) : (qDrop σ i t q m).1 f i' t' = σ.1 f i' t' := by
  unfold qDrop
  rw [upA_ne h2, us_ne h1]
theorem qPut_ne {σ : Sg} {i t q f i' t' : Nat} {v s w : Int32} (h1 : ¬ (f, i', t') = (34, i, t)) (h2 : ¬ (f, i', t') = (35, i, t)) : (qPut σ i t q v s w).1 f i' t' = σ.1 f i' t' := by
  unfold qPut
  rw [us_ne h1, upA_ne h2]
theorem qApp_ne {σ : Sg} {i t q d f i' t' : Nat} {v s w : Int32} (h1 : ¬ (f, i', t') = (34, i, t)) (h2 : ¬ (f, i', t') = (35, i, t)) : (qApp σ i t q d v s w).1 f i' t' = σ.1 f i' t' := by
  unfold qApp
  split <;> rw [qPut_ne h1 h2, qDrop_ne h1 h2]
theorem qApp_sz {σ : Sg} {i t q d : Nat} {v s w : Int32} : (qApp σ i t q d v s w).1 34 i t 0 = nI (if q < d then q + 1 else q - 1 + 1) := by
  unfold qApp
  split <;> simp [qPut, us, upA]
theorem qOpen_dp {σ : Sg} {i t : Nat} (hQ : QI σ) (hi : i < 6) (ht : t < 6) (h : ¬ qOpen σ i t = 0) : 1 ≤ qdp σ i t := by
  obtain ⟨-, h2, -, h4⟩ := hQ i t hi ht
  rcases Nat.eq_zero_or_pos (qdp σ i t) with h0 | h0
  · exfalso
    apply h
    unfold qOpen
    rw [h2, h0, if_pos (by decide)]
  · exact h0
theorem qOpen_no {σ : Sg} {i t : Nat} (hQ : QI σ) (hi : i < 6) (ht : t < 6) (h : qOpen σ i t = 0) : qdp σ i t = 0 := by
  obtain ⟨-, h2, -, h4⟩ := hQ i t hi ht
  rcases Nat.eq_zero_or_pos (qdp σ i t) with h0 | h0
  · exact h0
  · exfalso
    unfold qOpen at h
    rw [h2, if_neg (nI_nle h0 (by omega))] at h
    exact absurd h (by decide)
/-- two states that agree at the queues' numbers -/
theorem QI_eq {σ σ' : Sg} (h : ∀ i t, i < 6 → t < 6 → σ'.1 33 i t 0 = σ.1 33 i t 0 ∧ σ'.1 34 i t 0 = σ.1 34 i t 0) (hQ : QI σ) : QI σ' := by
  intro i t hi ht
  obtain ⟨h1, h2⟩ := h i t hi ht
  unfold qsz qdp
  rw [h1, h2]
  exact hQ i t hi ht
theorem QI_app {σ : Sg} {i t : Nat} {v s w : Int32} (hQ : QI σ) (hi : i < 6) (ht : t < 6) (h1 : 1 ≤ qdp σ i t) : QI (qApp σ i t (qsz σ i t) (qdp σ i t) v s w) := by
  intro i' t' hi' ht'
  by_cases h : i' = i ∧ t' = t
  · obtain ⟨rfl, rfl⟩ := h
    obtain ⟨a1, a2, a3, a4⟩ := hQ i' t' hi ht
    have e1 : (qApp σ i' t' (qsz σ i' t') (qdp σ i' t') v s w).1 33 i' t' 0 = nI (qdp σ i' t') := by rw [qApp_ne (by simp) (by simp)]; exact a2
    have e2 := qApp_sz (σ := σ) (i := i') (t := t') (q := qsz σ i' t') (d := qdp σ i' t') (v := v) (s := s) (w := w)
    have hz : (if qsz σ i' t' < qdp σ i' t' then qsz σ i' t' + 1 else qsz σ i' t' - 1 + 1) ≤ qdp σ i' t' := by split <;> omega
    unfold qsz qdp at *
    rw [e1, e2, nI_clamp (by omega), nI_clamp (by omega)]
    exact ⟨rfl, rfl, hz, a4⟩
  · have hk : ¬ (34, i', t') = (34, i, t) := by simp; intro q1 q2; exact h ⟨q1, q2⟩
    have hb : σ.1 33 i' t' 0 = (qApp σ i t (qsz σ i t) (qdp σ i t) v s w).1 33 i' t' 0 := by rw [qApp_ne (by simp) (by simp)]
    have hc : σ.1 34 i' t' 0 = (qApp σ i t (qsz σ i t) (qdp σ i t) v s w).1 34 i' t' 0 := by rw [qApp_ne hk (by simp)]
    have h0 := hQ i' t' hi' ht'
    unfold qsz qdp at h0 ⊢
    rw [hb, hc] at h0
    exact h0
theorem QI_us {σ : Sg} {f i t : Nat} {x : Int32} (h3 : f ≠ 33) (h4 : f ≠ 34) (hQ : QI σ) : QI (us σ f i t x) :=
  QI_eq (fun i' t' _ _ => ⟨by rw [us_ne (by simp; intro q; exact absurd q.symm h3)], by rw [us_ne (by simp; intro q; exact absurd q.symm h4)]⟩) hQ
theorem QI_upA {σ : Sg} {f i t : Nat} {g : Nat → Int32} (h3 : f ≠ 33) (h4 : f ≠ 34) (hQ : QI σ) : QI (upA σ (f, i, t) g) :=
  QI_eq (fun i' t' _ _ => ⟨by rw [upA_ne (by simp; intro q; exact absurd q.symm h3)], by rw [upA_ne (by simp; intro q; exact absurd q.symm h4)]⟩) hQ
/-- publishing: the queues -/
def sLp (t : Nat) (v s : Int32) : Nat → Nat → Sg → Int32 → Sg × Int32
  | 0, _, σ, n => (σ, n)
  | m + 1, k, σ, n => if qOpen σ k t = 0 then sLp t v s m (k + 1) σ n else sLp t v s m (k + 1) (us (qApp σ k t (qsz σ k t) (qdp σ k t) v s (σ.1 1 0 0 0)) 2 0 0 (σ.1 2 0 0 0 + qLost (qsz σ k t) (qdp σ k t))) (n + 1)
theorem sLp_ne {t : Nat} {v s : Int32} {f i' t' : Nat} (h2 : f ≠ 2) (h3 : f ≠ 34) (h4 : f ≠ 35) : ∀ (m k : Nat) (σ : Sg) (n : Int32), (sLp t v s m k σ n).1.1 f i' t' = σ.1 f i' t' := by
  intro m
  induction m with
  | zero => intro k σ n; rfl
  | succ m ih =>
    intro k σ n
    unfold sLp
    split
    · exact ih (k + 1) σ n
    · rw [ih, us_ne (by simp; intro q; exact absurd q h2), qApp_ne (by simp; intro q; exact absurd q h3) (by simp; intro q; exact absurd q h4)]
theorem sLp_QI {t : Nat} {v s : Int32} (ht : t < 6) : ∀ (m k : Nat), k + m = 6 → ∀ (σ : Sg) (n : Int32), QI σ → QI (sLp t v s m k σ n).1 := by
  intro m
  induction m with
  | zero => intro k _ σ n h; exact h
  | succ m ih =>
    intro k hk σ n h
    unfold sLp
    split
    · exact ih (k + 1) (by omega) σ n h
    · rename_i ho
      exact ih (k + 1) (by omega) _ _ (QI_us (by decide) (by decide) (QI_app h (by omega) ht (qOpen_dp h (by omega) ht ho)))
def sRec (σ : Sg) (t : Nat) (v s : Int32) : Sg := if σ.1 41 t 0 0 = 0 then σ else if s = -1 then σ else bApp σ (bsz σ) (σ.1 1 0 0 0) (nI t) v
def sPub (σ : Sg) : Sg := us σ 3 0 0 (σ.1 3 0 0 0 + 1)
def sSend (σ : Sg) (t : Nat) (v s : Int32) : Sg := sPub (sRec (tLast (sLp t v s 6 0 σ 0).1 t v s ((sLp t v s 6 0 σ 0).1.1 1 0 0 0)) t v s)
def sCnt (σ : Sg) (t : Nat) (v s : Int32) : Int32 := (sLp t v s 6 0 σ 0).2
theorem tLast_ne {σ : Sg} {i f i' t' : Nat} {v s w : Int32} (h1 : f ≠ 42) (h2 : f ≠ 43) (h3 : f ≠ 44) (h4 : f ≠ 45) : (tLast σ i v s w).1 f i' t' = σ.1 f i' t' := by
  unfold tLast
  rw [us_ne (by simp; intro q; exact absurd q h4), us_ne (by simp; intro q; exact absurd q h3), us_ne (by simp; intro q; exact absurd q h2), us_ne (by simp; intro q; exact absurd q h1)]
theorem bApp_ne {σ : Sg} {z f i' t' : Nat} {a o v : Int32} (h1 : f ≠ 10) (h2 : f ≠ 15) (h3 : f ≠ 16) (h4 : f ≠ 17) : (bApp σ z a o v).1 f i' t' = σ.1 f i' t' := by
  unfold bApp
  split
  · rw [us_ne (by simp; intro q; exact absurd q h1), upA_ne (by simp; intro q; exact absurd q h4), upA_ne (by simp; intro q; exact absurd q h3), upA_ne (by simp; intro q; exact absurd q h2)]
  · rfl
theorem sRec_ne {σ : Sg} {t f i' t' : Nat} {v s : Int32} (h1 : f ≠ 10) (h2 : f ≠ 15) (h3 : f ≠ 16) (h4 : f ≠ 17) : (sRec σ t v s).1 f i' t' = σ.1 f i' t' := by
  unfold sRec
  split
  · rfl
  · split
    · rfl
    · exact bApp_ne h1 h2 h3 h4
