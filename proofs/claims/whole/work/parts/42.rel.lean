/-! What the two objects' states have to do with each other. -/
def Off (L : List Nat) (σ σ' : Sg) : Prop := ∀ f : Nat, f ∉ L → σ'.1 f = σ.1 f ∧ σ'.2.1 f = σ.2.1 f ∧ σ'.2.2 f = σ.2.2 f
theorem Off.rf {L : List Nat} {σ : Sg} : Off L σ σ := fun _ _ => ⟨rfl, rfl, rfl⟩
theorem Off.tr {L : List Nat} {σ σ' σ'' : Sg} (h : Off L σ σ') (h' : Off L σ' σ'') : Off L σ σ'' := fun f hf => ⟨(h' f hf).1.trans (h f hf).1, (h' f hf).2.1.trans (h f hf).2.1, (h' f hf).2.2.trans (h f hf).2.2⟩
theorem Off.mono {L L' : List Nat} {σ σ' : Sg} (h : Off L σ σ') (hL : ∀ f ∈ L, f ∈ L') : Off L' σ σ' := fun f hf => h f (fun q => hf (hL f q))
theorem Off.at {L : List Nat} {σ σ' : Sg} (h : Off L σ σ') {f : Nat} (hf : f ∉ L) : σ'.1 f = σ.1 f := (h f hf).1
theorem Off.atE {L : List Nat} {σ σ' : Sg} (h : Off L σ σ') {f : Nat} (hf : f ∉ L) : σ'.2.1 f = σ.2.1 f := (h f hf).2.1
theorem Off.atL {L : List Nat} {σ σ' : Sg} (h : Off L σ σ') {f : Nat} (hf : f ∉ L) : σ'.2.2 f = σ.2.2 f := (h f hf).2.2
theorem upA_f {σ : Sg} {v : Ky} {g : Nat → Int32} {f : Nat} (h : f ≠ v.1) : (upA σ v g).1 f = σ.1 f := by
  funext i t
  exact upA_ne (fun q => h (by rw [← q]))
theorem upE_f {σ : Sg} {v : Ky} {g : Nat → UInt64} {f : Nat} (h : f ≠ v.1) : (upE σ v g).2.1 f = σ.2.1 f := by
  funext i t
  exact upE_ne (fun q => h (by rw [← q]))
theorem upL_f {σ : Sg} {v : Ky} {g : Nat → Int64} {f : Nat} (h : f ≠ v.1) : (upL σ v g).2.2 f = σ.2.2 f := by
  funext i t
  exact upL_ne (fun q => h (by rw [← q]))
theorem us_f {σ : Sg} {f' i t : Nat} {x : Int32} {f : Nat} (h : f ≠ f') : (us σ f' i t x).1 f = σ.1 f := upA_f h
theorem Off.uA {L : List Nat} {σ σ' : Sg} {f i t : Nat} {g : Nat → Int32} (h : Off L σ σ') (hf : f ∈ L) : Off L σ (upA σ' (f, i, t) g) := fun k hk => ⟨(upA_f (v := (f, i, t)) (fun q : k = f => hk (q ▸ hf))).trans (h k hk).1, (h k hk).2.1, (h k hk).2.2⟩
theorem Off.uE {L : List Nat} {σ σ' : Sg} {f i t : Nat} {g : Nat → UInt64} (h : Off L σ σ') (hf : f ∈ L) : Off L σ (upE σ' (f, i, t) g) := fun k hk => ⟨(h k hk).1, (upE_f (v := (f, i, t)) (fun q : k = f => hk (q ▸ hf))).trans (h k hk).2.1, (h k hk).2.2⟩
theorem Off.uL {L : List Nat} {σ σ' : Sg} {f i t : Nat} {g : Nat → Int64} (h : Off L σ σ') (hf : f ∈ L) : Off L σ (upL σ' (f, i, t) g) := fun k hk => ⟨(h k hk).1, (h k hk).2.1, (upL_f (v := (f, i, t)) (fun q : k = f => hk (q ▸ hf))).trans (h k hk).2.2⟩
theorem Off.us {L : List Nat} {σ σ' : Sg} {f i t : Nat} {x : Int32} (h : Off L σ σ') (hf : f ∈ L) : Off L σ (us σ' f i t x) := h.uA hf
def dj (A L : List Nat) : Bool := A.all (fun x => !L.contains x)
theorem dj_spec {A L : List Nat} (h : dj A L = true) {f : Nat} (hf : f ∈ A) : f ∉ L := fun q => by
  have h1 := List.all_eq_true.mp h f hf
  simp [q] at h1
/-! the parts of the relation -/
def RC (p a : Int32) (σ τ : Sg) : Prop := τ.1 101 0 0 0 = σ.1 1 0 0 0 ∧ τ.1 141 0 0 0 = σ.1 2 0 0 0 ∧ τ.1 142 0 0 0 = p ∧ τ.1 143 0 0 0 = a ∧ τ.1 144 0 0 0 = σ.1 5 0 0 0
def RN (σ τ : Sg) : Prop := ∀ i, i < 6 → τ.1 102 0 0 i = σ.1 30 i 0 0 ∧ (σ.1 30 i 0 0 = 0 → ∀ t, t < 6 → σ.1 33 i t 0 = 0)
def RV (σ τ : Sg) : Prop := ∀ i, i < 6 → ∀ j, j < 4 → (¬ σ.1 30 i 0 0 = 0 → τ.1 103 0 0 (4 * i + j) = σ.1 32 i 0 j) ∧ (σ.1 30 i 0 0 = 0 → σ.1 32 i 0 j = 0)
def RK (σ τ : Sg) : Prop := ∀ i, i < 6 → (¬ σ.1 30 i 0 0 = 0 → ∃ k, k < 6 ∧ τ.1 104 0 0 i = nI k ∧ σ.1 31 i 0 0 = nI ((k + 1) % 6)) ∧ (σ.1 30 i 0 0 = 0 → σ.1 31 i 0 0 = 0)
def RQ (σ τ : Sg) : Prop := ∀ i, i < 6 → ∀ t, t < 6 → τ.1 105 0 0 (6 * i + t) = σ.1 33 i t 0 ∧ τ.1 106 0 0 (6 * i + t) = σ.1 34 i t 0 ∧ ∀ k, k < (σ.1 34 i t 0).toNatClampNeg → τ.1 107 0 0 (4 * (6 * i + t) + k) = σ.1 35 i t (k * 3) ∧ τ.1 108 0 0 (4 * (6 * i + t) + k) = σ.1 35 i t (k * 3 + 1) ∧ τ.1 109 0 0 (4 * (6 * i + t) + k) = σ.1 35 i t (k * 3 + 2)
def RA (σ τ : Sg) : Prop := ∀ i, i < 6 → ∀ t, t < 6 → τ.1 110 0 0 (6 * i + t) = σ.1 36 i t 0 ∧ (σ.1 36 i t 0 = -1 ∨ σ.1 36 i t 0 = 0 ∨ σ.1 36 i t 0 = 1 ∨ σ.1 36 i t 0 = 2 ∨ σ.1 36 i t 0 = 3 ∨ σ.1 36 i t 0 = 4) ∧ (¬ σ.1 36 i t 0 = -1 → τ.1 111 0 0 (6 * i + t) = σ.1 37 i t 0 ∧ τ.1 112 0 0 (6 * i + t) = σ.1 38 i t 0)
def RT (σ τ : Sg) : Prop := ∀ t, t < 6 → τ.1 113 0 0 t = σ.1 40 t 0 0 ∧ τ.1 118 0 0 t = σ.1 41 t 0 0 ∧ τ.1 114 0 0 t = σ.1 42 t 0 0 ∧ (¬ σ.1 42 t 0 0 = 0 → τ.1 115 0 0 t = σ.1 43 t 0 0 ∧ τ.1 116 0 0 t = σ.1 44 t 0 0 ∧ τ.1 117 0 0 t = σ.1 45 t 0 0)
def RS (σ τ : Sg) : Prop := ∀ s, s < 4 → τ.1 119 0 0 s = σ.1 50 s 0 0 ∧ (¬ σ.1 50 s 0 0 = -1 → τ.1 120 0 0 s = σ.1 51 s 0 0 ∧ τ.1 121 0 0 s = σ.1 52 s 0 0 ∧ τ.1 122 0 0 s = σ.1 53 s 0 0 ∧ (σ.1 51 s 0 0 = 0 ∨ σ.1 51 s 0 0 = 1 ∨ σ.1 51 s 0 0 = 2 ∨ σ.1 51 s 0 0 = 3))
def RP (σ : Sg) : Prop := ∀ s, s < 4 → ¬ σ.1 50 s 0 0 = -1 → ¬ σ.1 30 (σ.1 50 s 0 0).toNatClampNeg 0 0 = 0
def RB (σ τ : Sg) : Prop := τ.1 126 0 0 0 = σ.1 10 0 0 0 ∧ (∀ j, j < (σ.1 10 0 0 0).toNatClampNeg → τ.1 123 0 0 j = σ.1 15 0 0 j ∧ τ.1 124 0 0 j = σ.1 16 0 0 j ∧ τ.1 125 0 0 j = σ.1 17 0 0 j) ∧ τ.1 127 0 0 0 = bPlay σ ∧ (¬ bPlay σ = 0 → τ.1 128 0 0 0 = σ.1 13 0 0 0 ∧ τ.1 129 0 0 0 = σ.1 14 0 0 0 ∧ τ.1 130 0 0 0 = σ.1 11 0 0 0 ∧ τ.1 131 0 0 0 = σ.1 12 0 0 0)
def RF (σ τ : Sg) : Prop := ∀ f, f < 6 → τ.1 132 0 0 f = σ.1 60 f 0 0 ∧ τ.1 133 0 0 f = σ.1 61 f 0 0 ∧ ∀ k, k < (σ.1 61 f 0 0).toNatClampNeg → τ.1 134 0 0 (4 * f + k) = σ.1 62 f 0 k ∧ τ.2.2 135 0 0 (4 * f + k) = (σ.1 63 f 0 k).toInt64 ∧ τ.2.2 136 0 0 (4 * f + k) = (σ.1 64 f 0 k).toInt64 ∧ τ.1 137 0 0 (4 * f + k) = σ.1 65 f 0 k
def rngC (x : Int32) : Prop := -8192 ≤ x.toInt ∧ x.toInt ≤ 8192
def rngT (x : Int32) : Prop := 0 ≤ x.toInt ∧ x.toInt ≤ 100000
def FV (σ : Sg) : Prop := FI σ ∧ FP σ ∧ (∀ f, f < 6 → ∀ k, k < (σ.1 61 f 0 0).toNatClampNeg → rngC (σ.1 63 f 0 k) ∧ rngC (σ.1 64 f 0 k) ∧ rngT (σ.1 62 f 0 k) ∧ (k + 1 < (σ.1 61 f 0 0).toNatClampNeg → σ.1 62 f 0 k < σ.1 62 f 0 (k + 1))) ∧ (∃ r : Nat → Nat, ∀ f p, f < 6 → p < 6 → σ.1 60 f 0 0 = nI p → r p < r f) ∧ σ.1 60 0 0 0 = -1
def RY (σ τ : Sg) : Prop := τ.2.1 140 0 0 0 = σ.2.1 7 0 0 0
def Rl (e p a : Int32) (σ τ : Sg) : Prop := τ.1 100 0 0 0 = e ∧ RC p a σ τ ∧ RN σ τ ∧ RV σ τ ∧ RK σ τ ∧ RQ σ τ ∧ RA σ τ ∧ RT σ τ ∧ RS σ τ ∧ RP σ ∧ RB σ τ ∧ RF σ τ ∧ FV σ ∧ RY σ τ ∧ BI σ
theorem RC_off {L L' : List Nat} {σ σ' τ τ' : Sg} {p a : Int32} (hσ : Off L σ σ') (hτ : Off L' τ τ') (d : (dj [1, 2, 5] L && dj [101, 141, 142, 143, 144] L') = true) (h : RC p a σ τ) : RC p a σ' τ' := by
  obtain ⟨d1, d2⟩ := Bool.and_eq_true_iff.mp d
  have e1 := hσ.at (f := 1) (dj_spec d1 (by decide))
  have e2 := hσ.at (f := 2) (dj_spec d1 (by decide))
  have e5 := hσ.at (f := 5) (dj_spec d1 (by decide))
  have e101 := hτ.at (f := 101) (dj_spec d2 (by decide))
  have e141 := hτ.at (f := 141) (dj_spec d2 (by decide))
  have e142 := hτ.at (f := 142) (dj_spec d2 (by decide))
  have e143 := hτ.at (f := 143) (dj_spec d2 (by decide))
  have e144 := hτ.at (f := 144) (dj_spec d2 (by decide))
  unfold RC at h ⊢
  simp only [e1, e2, e5, e101, e141, e142, e143, e144]
  exact h
theorem RN_off {L L' : List Nat} {σ σ' τ τ' : Sg} (hσ : Off L σ σ') (hτ : Off L' τ τ') (d : (dj [30, 33] L && dj [102] L') = true) (h : RN σ τ) : RN σ' τ' := by
  obtain ⟨d1, d2⟩ := Bool.and_eq_true_iff.mp d
  have e30 := hσ.at (f := 30) (dj_spec d1 (by decide))
  have e33 := hσ.at (f := 33) (dj_spec d1 (by decide))
  have e102 := hτ.at (f := 102) (dj_spec d2 (by decide))
  unfold RN at h ⊢
  simp only [e30, e33, e102]
  exact h
theorem RV_off {L L' : List Nat} {σ σ' τ τ' : Sg} (hσ : Off L σ σ') (hτ : Off L' τ τ') (d : (dj [30, 32] L && dj [103] L') = true) (h : RV σ τ) : RV σ' τ' := by
  obtain ⟨d1, d2⟩ := Bool.and_eq_true_iff.mp d
  have e30 := hσ.at (f := 30) (dj_spec d1 (by decide))
  have e32 := hσ.at (f := 32) (dj_spec d1 (by decide))
  have e103 := hτ.at (f := 103) (dj_spec d2 (by decide))
  unfold RV at h ⊢
  simp only [e30, e32, e103]
  exact h
theorem RK_off {L L' : List Nat} {σ σ' τ τ' : Sg} (hσ : Off L σ σ') (hτ : Off L' τ τ') (d : (dj [30, 31] L && dj [104] L') = true) (h : RK σ τ) : RK σ' τ' := by
  obtain ⟨d1, d2⟩ := Bool.and_eq_true_iff.mp d
  have e30 := hσ.at (f := 30) (dj_spec d1 (by decide))
  have e31 := hσ.at (f := 31) (dj_spec d1 (by decide))
  have e104 := hτ.at (f := 104) (dj_spec d2 (by decide))
  unfold RK at h ⊢
  simp only [e30, e31, e104]
  exact h
theorem RQ_off {L L' : List Nat} {σ σ' τ τ' : Sg} (hσ : Off L σ σ') (hτ : Off L' τ τ') (d : (dj [33, 34, 35] L && dj [105, 106, 107, 108, 109] L') = true) (h : RQ σ τ) : RQ σ' τ' := by
  obtain ⟨d1, d2⟩ := Bool.and_eq_true_iff.mp d
  have e33 := hσ.at (f := 33) (dj_spec d1 (by decide))
  have e34 := hσ.at (f := 34) (dj_spec d1 (by decide))
  have e35 := hσ.at (f := 35) (dj_spec d1 (by decide))
  have e105 := hτ.at (f := 105) (dj_spec d2 (by decide))
  have e106 := hτ.at (f := 106) (dj_spec d2 (by decide))
  have e107 := hτ.at (f := 107) (dj_spec d2 (by decide))
  have e108 := hτ.at (f := 108) (dj_spec d2 (by decide))
  have e109 := hτ.at (f := 109) (dj_spec d2 (by decide))
  unfold RQ at h ⊢
  simp only [e33, e34, e35, e105, e106, e107, e108, e109]
  exact h
theorem RA_off {L L' : List Nat} {σ σ' τ τ' : Sg} (hσ : Off L σ σ') (hτ : Off L' τ τ') (d : (dj [36, 37, 38] L && dj [110, 111, 112] L') = true) (h : RA σ τ) : RA σ' τ' := by
  obtain ⟨d1, d2⟩ := Bool.and_eq_true_iff.mp d
  have e36 := hσ.at (f := 36) (dj_spec d1 (by decide))
  have e37 := hσ.at (f := 37) (dj_spec d1 (by decide))
  have e38 := hσ.at (f := 38) (dj_spec d1 (by decide))
  have e110 := hτ.at (f := 110) (dj_spec d2 (by decide))
  have e111 := hτ.at (f := 111) (dj_spec d2 (by decide))
  have e112 := hτ.at (f := 112) (dj_spec d2 (by decide))
  unfold RA at h ⊢
  simp only [e36, e37, e38, e110, e111, e112]
  exact h
theorem RT_off {L L' : List Nat} {σ σ' τ τ' : Sg} (hσ : Off L σ σ') (hτ : Off L' τ τ') (d : (dj [40, 41, 42, 43, 44, 45] L && dj [113, 114, 115, 116, 117, 118] L') = true) (h : RT σ τ) : RT σ' τ' := by
  obtain ⟨d1, d2⟩ := Bool.and_eq_true_iff.mp d
  have e40 := hσ.at (f := 40) (dj_spec d1 (by decide))
  have e41 := hσ.at (f := 41) (dj_spec d1 (by decide))
  have e42 := hσ.at (f := 42) (dj_spec d1 (by decide))
  have e43 := hσ.at (f := 43) (dj_spec d1 (by decide))
  have e44 := hσ.at (f := 44) (dj_spec d1 (by decide))
  have e45 := hσ.at (f := 45) (dj_spec d1 (by decide))
  have e113 := hτ.at (f := 113) (dj_spec d2 (by decide))
  have e114 := hτ.at (f := 114) (dj_spec d2 (by decide))
  have e115 := hτ.at (f := 115) (dj_spec d2 (by decide))
  have e116 := hτ.at (f := 116) (dj_spec d2 (by decide))
  have e117 := hτ.at (f := 117) (dj_spec d2 (by decide))
  have e118 := hτ.at (f := 118) (dj_spec d2 (by decide))
  unfold RT at h ⊢
  simp only [e40, e41, e42, e43, e44, e45, e113, e114, e115, e116, e117, e118]
  exact h
theorem RS_off {L L' : List Nat} {σ σ' τ τ' : Sg} (hσ : Off L σ σ') (hτ : Off L' τ τ') (d : (dj [50, 51, 52, 53] L && dj [119, 120, 121, 122] L') = true) (h : RS σ τ) : RS σ' τ' := by
  obtain ⟨d1, d2⟩ := Bool.and_eq_true_iff.mp d
  have e50 := hσ.at (f := 50) (dj_spec d1 (by decide))
  have e51 := hσ.at (f := 51) (dj_spec d1 (by decide))
  have e52 := hσ.at (f := 52) (dj_spec d1 (by decide))
  have e53 := hσ.at (f := 53) (dj_spec d1 (by decide))
  have e119 := hτ.at (f := 119) (dj_spec d2 (by decide))
  have e120 := hτ.at (f := 120) (dj_spec d2 (by decide))
  have e121 := hτ.at (f := 121) (dj_spec d2 (by decide))
  have e122 := hτ.at (f := 122) (dj_spec d2 (by decide))
  unfold RS at h ⊢
  simp only [e50, e51, e52, e53, e119, e120, e121, e122]
  exact h
theorem RP_off {L L' : List Nat} {σ σ' τ τ' : Sg} (hσ : Off L σ σ') (hτ : Off L' τ τ') (d : (dj [30, 50] L && dj [] L') = true) (h : RP σ) : RP σ' := by
  obtain ⟨d1, d2⟩ := Bool.and_eq_true_iff.mp d
  have e30 := hσ.at (f := 30) (dj_spec d1 (by decide))
  have e50 := hσ.at (f := 50) (dj_spec d1 (by decide))
  unfold RP at h ⊢
  simp only [e30, e50]
  exact h
theorem RB_off {L L' : List Nat} {σ σ' τ τ' : Sg} (hσ : Off L σ σ') (hτ : Off L' τ τ') (d : (dj [10, 11, 12, 13, 14, 15, 16, 17] L && dj [123, 124, 125, 126, 127, 128, 129, 130, 131] L') = true) (h : RB σ τ) : RB σ' τ' := by
  obtain ⟨d1, d2⟩ := Bool.and_eq_true_iff.mp d
  have e10 := hσ.at (f := 10) (dj_spec d1 (by decide))
  have e11 := hσ.at (f := 11) (dj_spec d1 (by decide))
  have e12 := hσ.at (f := 12) (dj_spec d1 (by decide))
  have e13 := hσ.at (f := 13) (dj_spec d1 (by decide))
  have e14 := hσ.at (f := 14) (dj_spec d1 (by decide))
  have e15 := hσ.at (f := 15) (dj_spec d1 (by decide))
  have e16 := hσ.at (f := 16) (dj_spec d1 (by decide))
  have e17 := hσ.at (f := 17) (dj_spec d1 (by decide))
  have e123 := hτ.at (f := 123) (dj_spec d2 (by decide))
  have e124 := hτ.at (f := 124) (dj_spec d2 (by decide))
  have e125 := hτ.at (f := 125) (dj_spec d2 (by decide))
  have e126 := hτ.at (f := 126) (dj_spec d2 (by decide))
  have e127 := hτ.at (f := 127) (dj_spec d2 (by decide))
  have e128 := hτ.at (f := 128) (dj_spec d2 (by decide))
  have e129 := hτ.at (f := 129) (dj_spec d2 (by decide))
  have e130 := hτ.at (f := 130) (dj_spec d2 (by decide))
  have e131 := hτ.at (f := 131) (dj_spec d2 (by decide))
  unfold RB bPlay at h ⊢
  simp only [e10, e11, e12, e13, e14, e15, e16, e17, e123, e124, e125, e126, e127, e128, e129, e130, e131]
  exact h
theorem RF_off {L L' : List Nat} {σ σ' τ τ' : Sg} (hσ : Off L σ σ') (hτ : Off L' τ τ') (d : (dj [60, 61, 62, 63, 64, 65] L && dj [132, 133, 134, 135, 136, 137] L') = true) (h : RF σ τ) : RF σ' τ' := by
  obtain ⟨d1, d2⟩ := Bool.and_eq_true_iff.mp d
  have e60 := hσ.at (f := 60) (dj_spec d1 (by decide))
  have e61 := hσ.at (f := 61) (dj_spec d1 (by decide))
  have e62 := hσ.at (f := 62) (dj_spec d1 (by decide))
  have e63 := hσ.at (f := 63) (dj_spec d1 (by decide))
  have e64 := hσ.at (f := 64) (dj_spec d1 (by decide))
  have e65 := hσ.at (f := 65) (dj_spec d1 (by decide))
  have e132 := hτ.at (f := 132) (dj_spec d2 (by decide))
  have e133 := hτ.at (f := 133) (dj_spec d2 (by decide))
  have e134 := hτ.at (f := 134) (dj_spec d2 (by decide))
  have e135 := hτ.atL (f := 135) (dj_spec d2 (by decide))
  have e136 := hτ.atL (f := 136) (dj_spec d2 (by decide))
  have e137 := hτ.at (f := 137) (dj_spec d2 (by decide))
  unfold RF at h ⊢
  simp only [e60, e61, e62, e63, e64, e65, e132, e133, e134, e135, e136, e137]
  exact h
theorem FV_off {L L' : List Nat} {σ σ' τ τ' : Sg} (hσ : Off L σ σ') (hτ : Off L' τ τ') (d : (dj [60, 61, 62, 63, 64, 65] L && dj [] L') = true) (h : FV σ) : FV σ' := by
  obtain ⟨d1, d2⟩ := Bool.and_eq_true_iff.mp d
  have e60 := hσ.at (f := 60) (dj_spec d1 (by decide))
  have e61 := hσ.at (f := 61) (dj_spec d1 (by decide))
  have e62 := hσ.at (f := 62) (dj_spec d1 (by decide))
  have e63 := hσ.at (f := 63) (dj_spec d1 (by decide))
  have e64 := hσ.at (f := 64) (dj_spec d1 (by decide))
  have e65 := hσ.at (f := 65) (dj_spec d1 (by decide))
  unfold FV FI FP isFr fsz ftn at h ⊢
  simp only [e60, e61, e62, e63, e64, e65]
  exact h
theorem RY_off {L L' : List Nat} {σ σ' τ τ' : Sg} (hσ : Off L σ σ') (hτ : Off L' τ τ') (d : (dj [7] L && dj [140] L') = true) (h : RY σ τ) : RY σ' τ' := by
  obtain ⟨d1, d2⟩ := Bool.and_eq_true_iff.mp d
  have e7 := hσ.atE (f := 7) (dj_spec d1 (by decide))
  have e140 := hτ.atE (f := 140) (dj_spec d2 (by decide))
  unfold RY at h ⊢
  simp only [e7, e140]
  exact h
theorem BI_off {L L' : List Nat} {σ σ' τ τ' : Sg} (hσ : Off L σ σ') (hτ : Off L' τ τ') (d : (dj [10, 11, 12, 14, 16, 31, 33, 34, 36, 37, 38, 50, 51, 52] L && dj [] L') = true) (h : BI σ) : BI σ' := by
  obtain ⟨d1, d2⟩ := Bool.and_eq_true_iff.mp d
  have e10 := hσ.at (f := 10) (dj_spec d1 (by decide))
  have e11 := hσ.at (f := 11) (dj_spec d1 (by decide))
  have e12 := hσ.at (f := 12) (dj_spec d1 (by decide))
  have e14 := hσ.at (f := 14) (dj_spec d1 (by decide))
  have e16 := hσ.at (f := 16) (dj_spec d1 (by decide))
  have e31 := hσ.at (f := 31) (dj_spec d1 (by decide))
  have e33 := hσ.at (f := 33) (dj_spec d1 (by decide))
  have e34 := hσ.at (f := 34) (dj_spec d1 (by decide))
  have e36 := hσ.at (f := 36) (dj_spec d1 (by decide))
  have e37 := hσ.at (f := 37) (dj_spec d1 (by decide))
  have e38 := hσ.at (f := 38) (dj_spec d1 (by decide))
  have e50 := hσ.at (f := 50) (dj_spec d1 (by decide))
  have e51 := hσ.at (f := 51) (dj_spec d1 (by decide))
  have e52 := hσ.at (f := 52) (dj_spec d1 (by decide))
  unfold BI QI BZ SI AI okA okB NF GI qsz qdp bsz sN sC aA aB nF bnx ben bto at h ⊢
  simp only [e10, e11, e12, e14, e16, e31, e33, e34, e36, e37, e38, e50, e51, e52]
  exact h
theorem Rl.upd {e p a e' p' a' : Int32} {σ τ σ' τ' : Sg} (h : Rl e p a σ τ) (L L' : List Nat) (hσ : Off L σ σ') (hτ : Off L' τ τ') (hE : τ'.1 100 0 0 0 = e') (hRC : ((dj [1, 2, 5] L && dj [101, 141, 142, 143, 144] L') = true ∧ p' = p ∧ a' = a) ∨ RC p' a' σ' τ')
    (hRN : (dj [30, 33] L && dj [102] L') = true ∨ RN σ' τ') (hRV : (dj [30, 32] L && dj [103] L') = true ∨ RV σ' τ') (hRK : (dj [30, 31] L && dj [104] L') = true ∨ RK σ' τ') (hRQ : (dj [33, 34, 35] L && dj [105, 106, 107, 108, 109] L') = true ∨ RQ σ' τ') (hRA : (dj [36, 37, 38] L && dj [110, 111, 112] L') = true ∨ RA σ' τ') (hRT : (dj [40, 41, 42, 43, 44, 45] L && dj [113, 114, 115, 116, 117, 118] L') = true ∨ RT σ' τ') (hRS : (dj [50, 51, 52, 53] L && dj [119, 120, 121, 122] L') = true ∨ RS σ' τ') (hRP : (dj [30, 50] L && dj [] L') = true ∨ RP σ') (hRB : (dj [10, 11, 12, 13, 14, 15, 16, 17] L && dj [123, 124, 125, 126, 127, 128, 129, 130, 131] L') = true ∨ RB σ' τ') (hRF : (dj [60, 61, 62, 63, 64, 65] L && dj [132, 133, 134, 135, 136, 137] L') = true ∨ RF σ' τ') (hFV : (dj [60, 61, 62, 63, 64, 65] L && dj [] L') = true ∨ FV σ') (hRY : (dj [7] L && dj [140] L') = true ∨ RY σ' τ') (hBI : (dj [10, 11, 12, 14, 16, 31, 33, 34, 36, 37, 38, 50, 51, 52] L && dj [] L') = true ∨ BI σ') : Rl e' p' a' σ' τ' := by
  obtain ⟨h0, gRC, gRN, gRV, gRK, gRQ, gRA, gRT, gRS, gRP, gRB, gRF, gFV, gRY, gBI⟩ := h
  refine ⟨hE, ?_, hRN.elim (fun d => RN_off hσ hτ d gRN) id, hRV.elim (fun d => RV_off hσ hτ d gRV) id, hRK.elim (fun d => RK_off hσ hτ d gRK) id, hRQ.elim (fun d => RQ_off hσ hτ d gRQ) id, hRA.elim (fun d => RA_off hσ hτ d gRA) id, hRT.elim (fun d => RT_off hσ hτ d gRT) id, hRS.elim (fun d => RS_off hσ hτ d gRS) id, hRP.elim (fun d => RP_off hσ hτ d gRP) id, hRB.elim (fun d => RB_off hσ hτ d gRB) id, hRF.elim (fun d => RF_off hσ hτ d gRF) id, hFV.elim (fun d => FV_off hσ hτ d gFV) id, hRY.elim (fun d => RY_off hσ hτ d gRY) id, hBI.elim (fun d => BI_off hσ hτ d gBI) id⟩
  rcases hRC with ⟨d, rfl, rfl⟩ | h
  · exact RC_off hσ hτ d gRC
  · exact h
