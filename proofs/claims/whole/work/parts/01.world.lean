/-! A block of cells: n of them, one behind another from the address b on; the o-th one is M o. All that an object of the class owns lies in one block, so a method's contract speaks of the whole block and of the map M alone. -/
def mw (b n : Nat) (M : Nat → va_E) : va_W := (List.range n).map (fun o => (b + o, M o))
theorem mw_len {b n : Nat} {M : Nat → va_E} : (mw b n M).length = n := by simp [mw]
theorem mw_get {b n o : Nat} {M : Nat → va_E} (h : o < n) : (mw b n M)[o]? = some (b + o, M o) := by
  simp [mw, List.getElem?_map, List.getElem?_range h]
theorem mw_out {b n o : Nat} {M : Nat → va_E} (h : ¬ o < n) : (mw b n M)[o]? = none := by
  rw [List.getElem?_eq_none_iff, mw_len]
  omega
theorem mw_inv {b n k : Nat} {M : Nat → va_E} {q : Nat × va_E} (h : (mw b n M)[k]? = some q) : k < n ∧ q = (b + k, M k) := by
  by_cases hk : k < n
  · rw [mw_get hk] at h
    exact ⟨hk, (Option.some.inj h).symm⟩
  · rw [mw_out hk] at h
    cases h
theorem mw_at {b n o a : Nat} {M : Nat → va_E} {e : va_E} (h : o < n) (ha : b + o = a) (he : M o = e) : (mw b n M)[o]? = some (a, e) := by
  rw [mw_get h, ha, he]
theorem mw_set {b n o : Nat} {M : Nat → va_E} {e : va_E} (ho : o < n) : (mw b n M).set o (b + o, e) = mw b n (va_up M o e) := by
  apply List.ext_getElem?
  intro k
  by_cases hk : k < n
  · by_cases h : o = k
    · subst h
      rw [List.getElem?_set_self (by rw [mw_len]; exact hk), mw_get hk, va_up_self]
    · rw [List.getElem?_set_ne h, mw_get hk, mw_get hk, va_up_ne _ _ (Ne.symm h)]
  · rw [mw_out hk, List.getElem?_eq_none_iff, List.length_set, mw_len]
    omega
theorem mw_setA {b n o a : Nat} {M : Nat → va_E} {e : va_E} (ho : o < n) (ha : b + o = a) : (mw b n M).set o (a, e) = mw b n (va_up M o e) := by
  subst ha
  exact mw_set ho
theorem mw_D {A : Nat → Prop} {b n : Nat} {M : Nat → va_E} (h : ∀ o, o < n → A (b + o)) : va_D A (mw b n M) := by
  refine ⟨fun i j p q hi hj hpq => ?_, fun k q hk => ?_⟩
  · obtain ⟨-, rfl⟩ := mw_inv hi
    obtain ⟨-, rfl⟩ := mw_inv hj
    exact Nat.add_left_cancel hpq
  · obtain ⟨h1, rfl⟩ := mw_inv hk
    exact h k h1
theorem mw_push {b n : Nat} {M : Nat → va_E} {e : va_E} : mw b n M ++ [(b + n, e)] = mw b (n + 1) (va_up M n e) := by
  apply List.ext_getElem?
  intro k
  by_cases hk : k < n
  · rw [List.getElem?_append_left (by rw [mw_len]; exact hk), mw_get hk, mw_get (by omega), va_up_ne _ _ (by omega)]
  · rw [List.getElem?_append_right (by rw [mw_len]; omega), mw_len]
    by_cases hn : k = n
    · subst hn
      rw [mw_get (by omega), va_up_self, Nat.sub_self]
      rfl
    · rw [mw_out (by omega), List.getElem?_eq_none_iff]
      simp
      omega
theorem mw_kept {D : va_G} {cl : List vw_C} {b n : Nat} {M : Nat → va_E} {H H1 : Heap} (h : va_P D cl (mw b n M) H) (hq : ∀ q : Nat, b ≤ q → q < b + n → H1[q]? = H[q]?) : va_P D cl (mw b n M) H1 :=
  h.kept (fun k q hk => by
    obtain ⟨h1, rfl⟩ := mw_inv hk
    exact hq _ (by simp) (by simp; omega))
theorem mw_le {D : va_G} {cl : List vw_C} {b n : Nat} {M : Nat → va_E} {H : Heap} (h : va_P D cl (mw b n M) H) (hn : 0 < n) : b + n ≤ H.size := by
  have h1 := (h (n - 1) _ (mw_get (by omega))).lt
  simp at h1
  omega
/-- what a method of the block may change: the block, and what it makes -/
def mA (b n sz : Nat) : Nat → Prop := fun q => (b ≤ q ∧ q < b + n) ∨ sz ≤ q
theorem mA_in {b n sz o : Nat} (h : o < n) : mA b n sz (b + o) := Or.inl ⟨Nat.le_add_right _ _, Nat.add_lt_add_left h _⟩
theorem mA_D {b n sz : Nat} {M : Nat → va_E} : va_D (mA b n sz) (mw b n M) := mw_D fun _ h => mA_in h
theorem mA_new {b n sz : Nat} : ∀ q : Nat, sz ≤ q → mA b n sz q := fun _ h => Or.inr h
theorem mA_le {b n sz sz' : Nat} (h : sz ≤ sz') : ∀ q : Nat, mA b n sz' q → mA b n sz q := fun _ hq => hq.elim Or.inl (fun h1 => Or.inr (Nat.le_trans h h1))
/-- a method's start and end over a block -/
def mPc (D : va_G) (cl : List vw_C) (tys : List (ClassId × FieldType)) (b n sz : Nat) (M : Nat → va_E) (av : List Value) : Array Value → State → Prop :=
  va_Pc av (fun U => U.heap.size = sz ∧ va_P D cl (mw b n M) U.heap ∧ va_K D cl tys U)
def mB (D : va_G) (cl : List vw_C) (tys : List (ClassId × FieldType)) (b n : Nat) (u : Nat → va_E) (t : State) : Prop := va_P D cl (mw b n u) t.heap ∧ va_K D cl tys t
theorem mPc_blind {D : va_G} {cl : List vw_C} {tys : List (ClassId × FieldType)} {b n sz : Nat} {M : Nat → va_E} {av : List Value} : FrameBlind (mPc D cl tys b n sz M av) := fun a U g mk q => by
  obtain ⟨q0, q1, qP, qK⟩ := q
  exact ⟨q0, q1, qP, va_K.moved (u := U) (U := U.calling g mk a) (Vm.Alike.refl U.vm) qK⟩
