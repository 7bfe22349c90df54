/-! The map of a block out of a table and a state. A cell's field is a place in the block, or a number of the state by its name, which is three numbers; an array's contents are a row of the state. Kinds: 0 int, 1 double, else long. -/
abbrev Ky : Type := Nat × Nat × Nat
abbrev Fdd : Type := Nat ⊕ (Nat × Ky)
abbrev Cee : Type := (Nat × List Fdd) ⊕ ((Nat × Nat × Nat × Ky) ⊕ (Nat × Nat × List Nat))
abbrev Sg : Type := (Nat → Nat → Nat → Nat → Int32) × (Nat → Nat → Nat → Nat → UInt64) × (Nat → Nat → Nat → Nat → Int64)
def rzN (σ : Sg) (v : Ky) : Nat → Value
  | 0 => .int (σ.1 v.1 v.2.1 v.2.2 0)
  | 1 => .double (σ.2.1 v.1 v.2.1 v.2.2 0)
  | _ => .long (σ.2.2 v.1 v.2.1 v.2.2 0)
def rzF (b : Nat) (σ : Sg) : Fdd → Value
  | .inl o => .ref (b + o)
  | .inr q => rzN σ q.2 q.1
def rzA (σ : Sg) (n : Nat) (v : Ky) : Nat → vp_A
  | 0 => (n, .inl (σ.1 v.1 v.2.1 v.2.2))
  | 1 => (n, .inr (.inr (.inr (.inl (σ.2.1 v.1 v.2.1 v.2.2)))))
  | _ => (n, .inr (.inl (σ.2.2 v.1 v.2.1 v.2.2)))
def rz (b : Nat) (ca : Nat → ClassId) (σ : Sg) : Cee → va_E
  | .inl c => .inr (c.1, c.2.map (rzF b σ))
  | .inr (.inl a) => .inl (ca a.1, rzA σ a.2.1 a.2.2.2 a.2.2.1)
  | .inr (.inr a) => .inl (ca a.1, a.2.1, .inr (.inr (.inr (.inr (fun j => (a.2.2[j]?).map (fun o => b + o))))))
def enc (b : Nat) (ca : Nat → ClassId) (S : List Cee) (σ : Sg) : Nat → va_E := fun o => match S[o]? with
  | some c => rz b ca σ c
  | none => .inr (0, [])
theorem enc_at {b o : Nat} {ca : Nat → ClassId} {S : List Cee} {σ : Sg} {c : Cee} (h : S[o]? = some c) : enc b ca S σ o = rz b ca σ c := by
  simp [enc, h]
/-- the row v becomes g -/
def upA (σ : Sg) (v : Ky) (g : Nat → Int32) : Sg := (fun f i t => if f = v.1 ∧ i = v.2.1 ∧ t = v.2.2 then g else σ.1 f i t, σ.2)
def upE (σ : Sg) (v : Ky) (g : Nat → UInt64) : Sg := (σ.1, fun f i t => if f = v.1 ∧ i = v.2.1 ∧ t = v.2.2 then g else σ.2.1 f i t, σ.2.2)
def upL (σ : Sg) (v : Ky) (g : Nat → Int64) : Sg := (σ.1, σ.2.1, fun f i t => if f = v.1 ∧ i = v.2.1 ∧ t = v.2.2 then g else σ.2.2 f i t)
theorem ky_ne {f i t : Nat} {v : Ky} (h : ¬ (f, i, t) = v) : ¬ (f = v.1 ∧ i = v.2.1 ∧ t = v.2.2) := fun q => h (by
  obtain ⟨a, b, c⟩ := v
  obtain ⟨q1, q2, q3⟩ := q
  subst q1; subst q2; subst q3
  rfl)
theorem upA_self {σ : Sg} {f i t : Nat} {g : Nat → Int32} : (upA σ (f, i, t) g).1 f i t = g := by simp [upA]
theorem upA_ne {σ : Sg} {v : Ky} {g : Nat → Int32} {f i t : Nat} (h : ¬ (f, i, t) = v) : (upA σ v g).1 f i t = σ.1 f i t := by
  simp [upA, ky_ne h]
theorem upE_self {σ : Sg} {f i t : Nat} {g : Nat → UInt64} : (upE σ (f, i, t) g).2.1 f i t = g := by simp [upE]
theorem upE_ne {σ : Sg} {v : Ky} {g : Nat → UInt64} {f i t : Nat} (h : ¬ (f, i, t) = v) : (upE σ v g).2.1 f i t = σ.2.1 f i t := by
  simp [upE, ky_ne h]
theorem upL_self {σ : Sg} {f i t : Nat} {g : Nat → Int64} : (upL σ (f, i, t) g).2.2 f i t = g := by simp [upL]
theorem upL_ne {σ : Sg} {v : Ky} {g : Nat → Int64} {f i t : Nat} (h : ¬ (f, i, t) = v) : (upL σ v g).2.2 f i t = σ.2.2 f i t := by
  simp [upL, ky_ne h]
/-- two states that say the same of all names but v -/
def offK (v : Ky) (σ σ' : Sg) : Prop := ∀ f i t : Nat, ¬ (f, i, t) = v → σ'.1 f i t = σ.1 f i t ∧ σ'.2.1 f i t = σ.2.1 f i t ∧ σ'.2.2 f i t = σ.2.2 f i t
theorem offK_A {σ : Sg} {v : Ky} {g : Nat → Int32} : offK v σ (upA σ v g) := fun _ _ _ h => ⟨upA_ne h, rfl, rfl⟩
theorem offK_E {σ : Sg} {v : Ky} {g : Nat → UInt64} : offK v σ (upE σ v g) := fun _ _ _ h => ⟨rfl, upE_ne h, rfl⟩
theorem offK_L {σ : Sg} {v : Ky} {g : Nat → Int64} : offK v σ (upL σ v g) := fun _ _ _ h => ⟨rfl, rfl, upL_ne h⟩
def mentF (v : Ky) : Fdd → Bool
  | .inr q => q.2 == v
  | .inl _ => false
def ment (v : Ky) : Cee → Bool
  | .inl c => c.2.any (mentF v)
  | .inr (.inl a) => a.2.2.2 == v
  | .inr (.inr _) => false
def varF : Fdd → List Ky
  | .inr q => [q.2]
  | .inl _ => []
def varC : Cee → List Ky
  | .inl c => c.2.flatMap varF
  | .inr (.inl a) => [a.2.2.2]
  | .inr (.inr _) => []
theorem rzN_off {σ σ' : Sg} {v w : Ky} (ho : offK v σ σ') (h : ¬ w = v) (k : Nat) : rzN σ' w k = rzN σ w k := by
  obtain ⟨a, i, t⟩ := w
  obtain ⟨h1, h2, h3⟩ := ho a i t h
  match k with
  | 0 => show Value.int (σ'.1 a i t 0) = Value.int (σ.1 a i t 0); rw [h1]
  | 1 => show Value.double (σ'.2.1 a i t 0) = Value.double (σ.2.1 a i t 0); rw [h2]
  | (n + 2) => show Value.long (σ'.2.2 a i t 0) = Value.long (σ.2.2 a i t 0); rw [h3]
theorem rzA_off {σ σ' : Sg} {v w : Ky} {n : Nat} (ho : offK v σ σ') (h : ¬ w = v) (k : Nat) : rzA σ' n w k = rzA σ n w k := by
  obtain ⟨a, i, t⟩ := w
  obtain ⟨h1, h2, h3⟩ := ho a i t h
  match k with
  | 0 => show ((n, .inl (σ'.1 a i t)) : vp_A) = (n, .inl (σ.1 a i t)); rw [h1]
  | 1 => show ((n, .inr (.inr (.inr (.inl (σ'.2.1 a i t))))) : vp_A) = (n, .inr (.inr (.inr (.inl (σ.2.1 a i t))))); rw [h2]
  | (m + 2) => show ((n, .inr (.inl (σ'.2.2 a i t))) : vp_A) = (n, .inr (.inl (σ.2.2 a i t))); rw [h3]
theorem rzF_off {b : Nat} {σ σ' : Sg} {v : Ky} {f : Fdd} (ho : offK v σ σ') (h : mentF v f = false) : rzF b σ' f = rzF b σ f := by
  match f, h with
  | .inl _, _ => rfl
  | .inr (k, w), h =>
    have h1 : ¬ w = v := by simpa [mentF] using h
    exact rzN_off ho h1 k
theorem rz_off {b : Nat} {ca : Nat → ClassId} {σ σ' : Sg} {v : Ky} {c : Cee} (ho : offK v σ σ') (h : ment v c = false) : rz b ca σ' c = rz b ca σ c := by
  match c, h with
  | .inr (.inr _), _ => rfl
  | .inr (.inl (x, y, k, w)), h =>
    have h1 : ¬ w = v := by simpa [ment] using h
    show (Sum.inl (ca x, rzA σ' y w k) : va_E) = Sum.inl (ca x, rzA σ y w k)
    rw [rzA_off ho h1]
  | .inl (x, fs), h =>
    show (Sum.inr (x, fs.map (rzF b σ')) : va_E) = Sum.inr (x, fs.map (rzF b σ))
    have h1 : fs.map (rzF b σ') = fs.map (rzF b σ) := List.map_congr_left fun f hf => rzF_off ho (by
      have h2 : fs.any (mentF v) = false := h
      rw [List.any_eq_false] at h2
      simpa using h2 f hf)
    rw [h1]
/-- each name stands in one cell of the table -/
def chkU : List Cee → Bool
  | [] => true
  | c :: r => (varC c).all (fun v => r.all (fun c' => !ment v c')) && chkU r
theorem mentF_var {v : Ky} {f : Fdd} (h : mentF v f = true) : v ∈ varF f := by
  match f, h with
  | .inr (k, w), h =>
    have h1 : w = v := by simpa [mentF] using h
    simp [varF, h1]
theorem ment_var {v : Ky} {c : Cee} (h : ment v c = true) : v ∈ varC c := by
  match c, h with
  | .inr (.inl (x, y, k, w)), h =>
    have h1 : w = v := by simpa [ment] using h
    simp [varC, h1]
  | .inl (x, fs), h =>
    have h1 : fs.any (mentF v) = true := h
    obtain ⟨f, hf, h2⟩ := List.any_eq_true.mp h1
    exact List.mem_flatMap.mpr ⟨f, hf, mentF_var h2⟩
theorem chkU_spec {S : List Cee} (h : chkU S = true) : ∀ {o o' : Nat} {c c' : Cee} {v : Ky}, S[o]? = some c → S[o']? = some c' → ment v c = true → ment v c' = true → o = o' := by
  induction S with
  | nil => intro o o' c c' v h1; simp at h1
  | cons a r ih =>
    have h0 : (varC a).all (fun v => r.all (fun c' => !ment v c')) = true ∧ chkU r = true := by
      have h9 := h
      unfold chkU at h9
      exact Bool.and_eq_true_iff.mp h9
    intro o o' c c' v h1 h2 m1 m2
    cases o with
    | zero =>
      cases o' with
      | zero => rfl
      | succ j =>
        exfalso
        have e1 : a = c := by simpa using h1
        subst e1
        have h3 := List.all_eq_true.mp h0.1 v (ment_var m1)
        have h4 := List.all_eq_true.mp h3 c' (List.mem_of_getElem? (by simpa using h2))
        rw [m2] at h4
        cases h4
    | succ i =>
      cases o' with
      | zero =>
        exfalso
        have e1 : a = c' := by simpa using h2
        subst e1
        have h3 := List.all_eq_true.mp h0.1 v (ment_var m2)
        have h4 := List.all_eq_true.mp h3 c (List.mem_of_getElem? (by simpa using h1))
        rw [m1] at h4
        cases h4
      | succ j =>
        have h1' : r[i]? = some c := by simpa using h1
        have h2' : r[j]? = some c' := by simpa using h2
        exact congrArg Nat.succ (ih h0.2 h1' h2' m1 m2)
/-- one cell is written: the state's row behind it has changed, and nothing else -/
theorem enc_up {b o : Nat} {ca : Nat → ClassId} {S : List Cee} {σ σ' : Sg} {c : Cee} {v : Ky} (hU : chkU S = true) (hS : S[o]? = some c) (hm : ment v c = true) (ho : offK v σ σ') {e : va_E} (he : e = rz b ca σ' c) : va_up (enc b ca S σ) o e = enc b ca S σ' := by
  subst he
  funext q
  by_cases hq : q = o
  · subst hq
    rw [va_up_self, enc_at hS]
  · rw [va_up_ne _ _ hq]
    unfold enc
    cases hc : S[q]? with
    | none => rfl
    | some c' =>
      show rz b ca σ c' = rz b ca σ' c'
      rw [rz_off ho]
      cases hm' : ment v c' with
      | false => rfl
      | true => exact absurd (chkU_spec hU hc hS hm' hm) hq
