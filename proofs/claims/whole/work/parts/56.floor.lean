/-! Between two samples: the bus' floor and the model's -/
theorem i32_sub' {a c : Int32} (h1 : -2147483648 ≤ a.toInt - c.toInt) (h2 : a.toInt - c.toInt < 2147483648) : (a - c).toInt = a.toInt - c.toInt := by
  rw [Int32.toInt_sub]
  exact Int.bmod_eq_of_le (by omega) (by omega)
theorem i32_add' {a c : Int32} (h1 : -2147483648 ≤ a.toInt + c.toInt) (h2 : a.toInt + c.toInt < 2147483648) : (a + c).toInt = a.toInt + c.toInt := by
  rw [Int32.toInt_add]
  exact Int.bmod_eq_of_le (by omega) (by omega)
theorem i32_neg' {a : Int32} (h1 : -2147483648 < a.toInt) : (-a).toInt = -a.toInt := by
  have h2 := a.toInt_lt
  rw [Int32.toInt_neg]
  exact Int.bmod_eq_of_le (by omega) (by omega)
theorem l32 (a : Int32) : a.toInt64.toInt = a.toInt := Int32.toInt_toInt64 a
theorem lt0_msb (x : Int64) : x < 0 ↔ x.toBitVec.msb = true := by
  rw [Int64.lt_iff_toInt_lt, show (0 : Int64).toInt = 0 by decide, BitVec.msb_eq_toInt]
  simp
theorem xor_sign {x y : Int64} (hy : ¬ y < 0) : (0 ≤ lg_cmp (x ^^^ y) 0) ↔ ¬ x < 0 := by
  rw [lg_cmp_ge, ← Int64.not_lt, lt0_msb, lt0_msb]
  rw [lt0_msb] at hy
  have e : (x ^^^ y).toBitVec.msb = (x.toBitVec.msb ^^ y.toBitVec.msb) := by
    rw [Int64.toBitVec_xor, BitVec.msb_xor]
  rw [e]
  cases hx : x.toBitVec.msb <;> cases hz : y.toBitVec.msb <;> simp_all
theorem lg_cmp_0 (x y : Int64) : lg_cmp x y = 0 ↔ x = y := by
  unfold lg_cmp
  by_cases h1 : x > y
  · rw [if_pos h1]
    refine ⟨fun z => absurd z (by decide), fun z => ?_⟩
    subst z
    exact absurd h1 (Int64.lt_irrefl)
  · rw [if_neg h1]
    by_cases h2 : x = y
    · rw [if_pos h2]; exact ⟨fun _ => h2, fun _ => rfl⟩
    · rw [if_neg h2]; exact ⟨fun z => absurd z (by decide), fun z => absurd z h2⟩
/-- both are the floor -/
theorem fdv_floor {m y : Int64} (hy : 0 < y.toInt) (hm : m.toInt.natAbs < 2 ^ 62) : (fdv m y).toInt = m.toInt / y.toInt ∧ fdv m y = m / y - (if 0 ≤ lg_cmp (m - m / y * y) 0 then (0 : Int32) else 1).toInt64 := by
  have hq : (m / y).toInt = m.toInt.tdiv y.toInt := Jvm.Kit.i64_div (by omega)
  have hqa : (m / y).toInt.natAbs ≤ m.toInt.natAbs := by rw [hq, Int.natAbs_tdiv]; exact Nat.div_le_self _ _
  have hqm : ((m / y).toInt * y.toInt).natAbs ≤ m.toInt.natAbs := by
    rw [Int.natAbs_mul, hq, Int.natAbs_tdiv]
    exact Nat.div_mul_le_self _ _
  have hmul : (m / y * y).toInt = (m / y).toInt * y.toInt := FP.Core.int64_mul (by omega) (by omega)
  have hsub : (m - m / y * y).toInt = m.toInt - (m / y).toInt * y.toInt := by
    rw [← hmul]
    exact FP.Core.int64_sub (by rw [hmul]; omega) (by rw [hmul]; omega)
  have hmod : m.toInt - (m / y).toInt * y.toInt = m.toInt.tmod y.toInt := by
    have := Int.mul_tdiv_add_tmod m.toInt y.toInt
    rw [hq, Int.mul_comm]
    omega
  have hr : (0 ≤ lg_cmp (m - m / y * y) 0) ↔ 0 ≤ m.toInt.tmod y.toInt := by
    rw [lg_cmp_ge, Int64.le_iff_toInt_le, hsub, hmod]
    exact Iff.rfl
  have hy0 : ¬ y < 0 := by rw [Int64.lt_iff_toInt_lt, show (0 : Int64).toInt = 0 by decide]; omega
  have hm1 : (m / y - 1).toInt = (m / y).toInt - 1 := by
    have : (1 : Int64).toInt = 1 := by decide
    rw [FP.Core.int64_sub (by omega) (by omega), this]
  unfold fdv
  by_cases hneg : m < 0
  · have hmi : m.toInt < 0 := by rw [Int64.lt_iff_toInt_lt, show (0 : Int64).toInt = 0 by decide] at hneg; exact hneg
    rw [if_neg (fun z => (xor_sign hy0).mp z hneg)]
    by_cases hd : lg_cmp (m / y * y) m = 0
    · rw [if_pos hd]
      have hd' := (lg_cmp_0 _ _).mp hd
      have hz : m.toInt.tmod y.toInt = 0 := by rw [← hmod, ← hmul, hd']; omega
      have hdvd : y.toInt ∣ m.toInt := Int.dvd_of_tmod_eq_zero hz
      refine ⟨by rw [hq, Int.tdiv_eq_ediv, if_pos (Or.inr hdvd)]; omega, ?_⟩
      rw [if_pos (hr.mpr (by omega))]
      show m / y = m / y - 0
      simp
    · rw [if_neg hd]
      have hnd : ¬ m.toInt.tmod y.toInt = 0 := fun z => hd ((lg_cmp_0 _ _).mpr (Int64.toInt_inj.mp (by rw [hmul]; omega)))
      have hdvd : ¬ y.toInt ∣ m.toInt := fun z => hnd (Int.tmod_eq_zero_of_dvd z)
      have htn : m.toInt.tmod y.toInt < 0 := by
        have h1 : 0 ≤ (-m.toInt).tmod y.toInt := Int.tmod_nonneg _ (by omega)
        rw [Int.neg_tmod] at h1
        omega
      refine ⟨?_, ?_⟩
      · rw [hm1, hq, Int.tdiv_eq_ediv, if_neg (fun z => z.elim (fun z => by omega) hdvd), Int.sign_eq_one_of_pos hy]
        omega
      · rw [if_neg (fun z => by have := hr.mp z; omega)]
        rfl
  · have hmi : 0 ≤ m.toInt := by rw [Int64.lt_iff_toInt_lt, show (0 : Int64).toInt = 0 by decide] at hneg; omega
    rw [if_pos ((xor_sign hy0).mpr hneg)]
    refine ⟨by rw [hq, Int.tdiv_eq_ediv, if_pos (Or.inl hmi)]; omega, ?_⟩
    rw [if_pos (hr.mpr (Int.tmod_nonneg _ hmi))]
    show m / y = m / y - 0
    simp
theorem floor_bd {D P S : Int} (hP : 0 ≤ P) (hPS : P < S) : (0 ≤ D → 0 ≤ D * P / S ∧ D * P / S ≤ D) ∧ (D ≤ 0 → D ≤ D * P / S ∧ D * P / S ≤ 0) := by
  have hS : 0 < S := by omega
  constructor
  · intro hD
    have h1 : 0 ≤ D * P := Int.mul_nonneg hD hP
    have h2 : D * P ≤ D * S := Int.mul_le_mul_of_nonneg_left (by omega) hD
    refine ⟨Int.ediv_nonneg h1 (by omega), ?_⟩
    have h3 : D * P / S ≤ D * S / S := Int.ediv_le_ediv hS h2
    rw [Int.mul_ediv_cancel _ (by omega)] at h3
    exact h3
  · intro hD
    have h1 : D * P ≤ 0 := Int.mul_nonpos_of_nonpos_of_nonneg hD hP
    have h2 : D * S ≤ D * P := Int.mul_le_mul_of_nonpos_left hD (by omega)
    have h3 : D * S / S ≤ D * P / S := Int.ediv_le_ediv hS h2
    rw [Int.mul_ediv_cancel _ (by omega)] at h3
    refine ⟨h3, ?_⟩
    have h4 : D * P / S ≤ 0 / S := Int.ediv_le_ediv hS h1
    rw [Int.zero_ediv] at h4
    exact h4
/-- the place between two samples, of the bus and of the model -/
theorem bet_eq {a c w t0 t1 : Int32} (ha : rngC a) (hc : rngC c) (h0 : rngT t0) (h1 : rngT t1) (hw : t0.toInt ≤ w.toInt) (hw1 : w.toInt < t1.toInt) :
    (a + (fdv ((c - a).toInt64 * (w - t0).toInt64) (t1 - t0).toInt64).toInt32).toInt64 = btw a.toInt64 c.toInt64 (w - t0).toInt64 (t1 - t0).toInt64 ∧ rngC (a + (fdv ((c - a).toInt64 * (w - t0).toInt64) (t1 - t0).toInt64).toInt32) := by
  obtain ⟨a1, a2⟩ := ha
  obtain ⟨c1, c2⟩ := hc
  obtain ⟨p1, p2⟩ := h0
  obtain ⟨q1, q2⟩ := h1
  have e1 : (c - a).toInt = c.toInt - a.toInt := i32_sub' (by omega) (by omega)
  have e2 : (w - t0).toInt = w.toInt - t0.toInt := i32_sub' (by omega) (by omega)
  have e3 : (t1 - t0).toInt = t1.toInt - t0.toInt := i32_sub' (by omega) (by omega)
  have hca : (c - a).toInt64 = c.toInt64 - a.toInt64 := Int64.toInt_inj.mp (by
    rw [FP.Core.int64_sub (by rw [l32, l32]; omega) (by rw [l32, l32]; omega), l32, l32, l32, e1])
  have hMb : ((c.toInt - a.toInt) * (w.toInt - t0.toInt)).natAbs ≤ 16384 * 100000 := by
    rw [Int.natAbs_mul]
    exact Nat.mul_le_mul (by omega) (by omega)
  have hM : ((c - a).toInt64 * (w - t0).toInt64).toInt = (c.toInt - a.toInt) * (w.toInt - t0.toInt) := by
    rw [FP.Core.int64_mul (by rw [l32, l32, e1, e2]; omega) (by rw [l32, l32, e1, e2]; omega), l32, l32, e1, e2]
  have hS : (t1 - t0).toInt64.toInt = t1.toInt - t0.toInt := by rw [l32, e3]
  obtain ⟨f1, f2⟩ := fdv_floor (m := (c - a).toInt64 * (w - t0).toInt64) (y := (t1 - t0).toInt64) (by rw [hS]; omega) (by rw [hM]; omega)
  rw [hM, hS] at f1
  obtain ⟨b1, b2⟩ := floor_bd (D := c.toInt - a.toInt) (P := w.toInt - t0.toInt) (S := t1.toInt - t0.toInt) (by omega) (by omega)
  have hF : -16384 ≤ (fdv ((c - a).toInt64 * (w - t0).toInt64) (t1 - t0).toInt64).toInt ∧ (fdv ((c - a).toInt64 * (w - t0).toInt64) (t1 - t0).toInt64).toInt ≤ 16384 ∧ -8192 ≤ a.toInt + (fdv ((c - a).toInt64 * (w - t0).toInt64) (t1 - t0).toInt64).toInt ∧ a.toInt + (fdv ((c - a).toInt64 * (w - t0).toInt64) (t1 - t0).toInt64).toInt ≤ 8192 := by
    rw [f1]
    rcases Int.le_total 0 (c.toInt - a.toInt) with h | h
    · have := b1 h; omega
    · have := b2 h; omega
  generalize hz : fdv ((c - a).toInt64 * (w - t0).toInt64) (t1 - t0).toInt64 = z at f1 f2 hF ⊢
  have g1 : z.toInt32.toInt = z.toInt := FP.Core.int64_toInt32 (by omega) (by omega)
  have g2 : (a + z.toInt32).toInt = a.toInt + z.toInt := by rw [i32_add' (by rw [g1]; omega) (by rw [g1]; omega), g1]
  refine ⟨?_, by unfold rngC; rw [g2]; omega⟩
  have g3 : (a + z.toInt32).toInt64 = a.toInt64 + z := Int64.toInt_inj.mp (by
    rw [FP.Core.int64_add (by rw [l32]; omega) (by rw [l32]; omega), l32, l32, g2])
  rw [g3, f2, hca]
  unfold btw
  rw [Int64.sub_eq_add_neg, Int64.sub_eq_add_neg (a := a.toInt64 + _), Int64.add_assoc]
