/-! Numbers in eighths: x = k * 0.125. -/
abbrev c8 : UInt64 := 4593671619917905920
abbrev e8 : UInt64 := 4620693217682128896
def cx (k : Int32) : UInt64 := FP.dmul (FP.i2d k) c8
theorem val_c8 : FP.Core.val64 c8 = .fin false (2 ^ 52) (-55) := by decide +kernel
theorem val_e8 : FP.Core.val64 e8 = .fin false (2 ^ 52) (-49) := by decide +kernel
theorem n64_of {a : UInt64} (h : FP.Core.val64 a ≠ .nan) : vf_n64 a := by
  show (a &&& 0x7fffffffffffffff) ≤ 0x7ff0000000000000
  rw [UInt64.le_iff_toNat_le, FP.Core.mask_toNat]
  show a.toNat % 2 ^ 63 ≤ 9218868437227405312
  apply Nat.le_of_not_lt
  intro hlt
  apply h
  unfold FP.Core.val64 FP.Core.decode
  have e1 : FP.Core.b64.tails = 2 ^ 52 := by decide
  have e2 : FP.Core.b64.exps = 2 ^ 11 := by decide
  have h64 : a.toNat < 2 ^ 64 := a.toNat_lt
  have f1 : FP.Core.fieldE FP.Core.b64 a.toNat = 2047 := by
    unfold FP.Core.fieldE
    rw [e1, e2]
    omega
  have f2 : FP.Core.fieldT FP.Core.b64 a.toNat ≠ 0 := by
    unfold FP.Core.fieldT
    rw [e1]
    omega
  simp only [f1, f2, e2]
  simp
theorem fit_sh {s : Bool} {c : Nat} {q : Int} (hf : FP.Core.fits FP.Core.b64 (.fin s c q)) (h1 : -1000 ≤ q) (d : Int) (h2 : -1000 ≤ q + d) (h3 : q + d ≤ 900) : FP.Core.fits FP.Core.b64 (.fin s c (q + d)) := by
  obtain ⟨g1, g2, g3, g4⟩ := hf
  have e1 : FP.Core.b64.qmin = -1074 := by decide
  have e2 : FP.Core.b64.qmax = 971 := by decide
  refine ⟨g1, by rw [e1]; omega, by rw [e2]; omega, Or.inr ?_⟩
  rcases g4 with g | g
  · rw [e1] at g; omega
  · exact g
theorem mul_sh {a b : UInt64} {s : Bool} {c : Nat} {q r : Int} (ha : FP.Core.val64 a = .fin s c q) (hb : FP.Core.val64 b = .fin false (2 ^ 52) r) (hf : FP.Core.fits FP.Core.b64 (.fin s c (q + (r + 52)))) : FP.Core.val64 (FP.dmul a b) = .fin s c (q + (r + 52)) := by
  rw [FP.Core.val64_dmul, ha, hb]
  show FP.Core.roundRatio FP.Core.b64 (s != false) (c * 2 ^ 52) 1 (q + r) = _
  rw [show (s != false) = s by cases s <;> rfl]
  refine FP.Core.roundRatio_exact FP.Core.good_b64 (by decide) hf ?_
  rw [show (q + r - (q + (r + 52))).toNat = 0 by omega, show (q + (r + 52) - (q + r)).toNat = 52 by omega]
  simp
theorem div_sh {a b : UInt64} {s : Bool} {c : Nat} {q r : Int} (ha : FP.Core.val64 a = .fin s c q) (hb : FP.Core.val64 b = .fin false (2 ^ 52) r) (hf : FP.Core.fits FP.Core.b64 (.fin s c (q - (r + 52)))) : FP.Core.val64 (FP.ddiv a b) = .fin s c (q - (r + 52)) := by
  rw [FP.Core.val64_ddiv, ha, hb]
  show (if (2 ^ 52 : Nat) = 0 then (if c = 0 then .nan else .inf (s != false)) else FP.Core.roundRatio FP.Core.b64 (s != false) c (2 ^ 52) (q - r)) = _
  rw [if_neg (by decide), show (s != false) = s by cases s <;> rfl]
  refine FP.Core.roundRatio_exact FP.Core.good_b64 (by decide) hf ?_
  rw [show (q - r - (q - (r + 52))).toNat = 52 by omega, show (q - (r + 52) - (q - r)).toNat = 0 by omega]
  simp
theorem i2d_fin (k : Int32) (h0 : k ≠ 0) : ∃ (s : Bool) (c : Nat) (q : Int), FP.Core.val64 (FP.i2d k) = .fin s c q ∧ FP.Core.fits FP.Core.b64 (.fin s c q) ∧ -53 ≤ q ∧ q ≤ 32 := by
  have hw : FP.Core.Whole k.toInt (FP.Core.val64 (FP.i2d k)) := FP.Core.i2d_int k
  have hf := FP.Core.val64_fits (FP.i2d k)
  have hk : k.toInt ≠ 0 := fun h => h0 (Int32.toInt_inj.mp (h.trans (by decide)))
  have hb1 := k.toInt_lt
  have hb2 := k.le_toInt
  cases hv : FP.Core.val64 (FP.i2d k) with
  | nan => rw [hv] at hw; exact hw.elim
  | inf s => rw [hv] at hw; exact hw.elim
  | fin s c q =>
    rw [hv] at hw hf
    refine ⟨s, c, q, rfl, hf, ?_, ?_⟩
    · apply Int.le_of_not_gt
      intro hq
      have hw' : FP.Core.signed s (c * 2 ^ q.toNat) = k.toInt * ((2 ^ (-q).toNat : Nat) : Int) := hw
      rw [show q.toNat = 0 by omega] at hw'
      have h1 := congrArg Int.natAbs hw'
      rw [FP.Core.natAbs_signed, Int.natAbs_mul] at h1
      have h2 : (2 : Nat) ^ 54 ≤ 2 ^ (-q).toNat := Nat.pow_le_pow_right (by decide) (by omega)
      have h3 : 1 ≤ k.toInt.natAbs := by omega
      have h4 : c < 2 ^ 53 := hf.1
      have h5 : ((2 ^ (-q).toNat : Nat) : Int).natAbs = 2 ^ (-q).toNat := Int.natAbs_natCast _
      rw [h5, Nat.pow_zero, Nat.mul_one] at h1
      have h6 := Nat.mul_le_mul h3 h2
      rw [← h1] at h6
      omega
    · apply Int.le_of_not_gt
      intro hq
      have hw' : FP.Core.signed s (c * 2 ^ q.toNat) = k.toInt * ((2 ^ (-q).toNat : Nat) : Int) := hw
      rw [show (-q).toNat = 0 by omega] at hw'
      have h1 := congrArg Int.natAbs hw'
      rw [FP.Core.natAbs_signed, Int.natAbs_mul] at h1
      have h2 : (2 : Nat) ^ 33 ≤ 2 ^ q.toNat := Nat.pow_le_pow_right (by decide) (by omega)
      have h3 : 1 ≤ c := by
        apply Nat.pos_of_ne_zero
        intro hc
        subst hc
        rw [Nat.zero_mul] at h1
        have := h1.symm
        simp at this
        exact hk this
      have h6 := Nat.mul_le_mul h3 h2
      rw [h1] at h6
      simp at h6
      omega
theorem cx_val {k : Int32} {s : Bool} {c : Nat} {q : Int} (hv : FP.Core.val64 (FP.i2d k) = .fin s c q) (hf : FP.Core.fits FP.Core.b64 (.fin s c q)) (h1 : -53 ≤ q) (h2 : q ≤ 32) : FP.Core.val64 (cx k) = .fin s c (q + (-3)) :=
  mul_sh hv val_c8 (fit_sh hf (by omega) _ (by omega) (by omega))
theorem cx_mul (k : Int32) : FP.dmul (cx k) e8 = FP.i2d k := by
  by_cases h0 : k = 0
  · subst h0; decide +kernel
  · obtain ⟨s, c, q, hv, hf, h1, h2⟩ := i2d_fin k h0
    have hc := cx_val hv hf h1 h2
    have hm : FP.Core.val64 (FP.dmul (cx k) e8) = .fin s c (q + (-3) + (-49 + 52)) := mul_sh hc val_e8 (fit_sh (fit_sh hf (by omega) _ (by omega) (by omega)) (by omega) _ (by omega) (by omega))
    rw [show q + (-3) + (-49 + 52) = q by omega] at hm
    exact FP.Core.val64_inj (by rw [hm]; intro h; cases h) (hm.trans hv.symm)
theorem i2d_div (k : Int32) : FP.ddiv (FP.i2d k) e8 = cx k := by
  by_cases h0 : k = 0
  · subst h0; decide +kernel
  · obtain ⟨s, c, q, hv, hf, h1, h2⟩ := i2d_fin k h0
    have hc := cx_val hv hf h1 h2
    have hm : FP.Core.val64 (FP.ddiv (FP.i2d k) e8) = .fin s c (q - (-49 + 52)) := div_sh hv val_e8 (by rw [Int.sub_eq_add_neg]; exact fit_sh hf (by omega) _ (by omega) (by omega))
    rw [show q - (-49 + 52) = q + (-3) by omega] at hm
    exact FP.Core.val64_inj (by rw [hm]; intro h; cases h) (hm.trans hc.symm)
theorem i2d_nn (k : Int32) : FP.Core.val64 (FP.i2d k) ≠ .nan := by
  show FP.Core.val64 (FP.Core.i2d k) ≠ .nan
  rw [FP.Core.i2d_l2d]
  exact (FP.Core.notNaN_iff _).mp (FP.Core.l2d_notNaN _)
theorem cx_nn (k : Int32) : FP.Core.val64 (cx k) ≠ .nan := by
  by_cases h0 : k = 0
  · subst h0; decide +kernel
  · obtain ⟨s, c, q, hv, hf, h1, h2⟩ := i2d_fin k h0
    rw [cx_val hv hf h1 h2]
    intro h; cases h
theorem cx_n64 (k : Int32) : vf_n64 (cx k) := n64_of (cx_nn k)
theorem cx_m64 (k : Int32) : vf_n64 (FP.dmul (cx k) e8) := by rw [cx_mul]; exact n64_of (i2d_nn k)
theorem cx_d64 (k : Int32) : vf_n64 (FP.ddiv (FP.i2d k) e8) := by rw [i2d_div]; exact cx_n64 k
theorem d2i_i2d (k : Int32) : FP.d2i (FP.i2d k) = k := FP.Core.d2i_int (FP.Core.i2d_int k)
theorem d2l_i2d (k : Int32) : FP.d2l (FP.i2d k) = k.toInt64 := FP.Core.d2l_int (by
  show FP.Core.DInt k.toInt64.toInt (FP.Core.i2d k)
  rw [FP.Core.i2d_l2d]
  exact FP.Core.l2d_int (by
    rw [Int32.toInt_toInt64]
    have h1 := k.toInt_lt
    have h2 := k.le_toInt
    omega))
theorem l2d_i2d (k : Int32) : FP.l2d k.toInt64 = FP.i2d k := (FP.Core.i2d_l2d k).symm
theorem i2d_eq (k : Int32) : FP.dcmp (FP.i2d k) (FP.i2d k) = some .eq := FP.Core.dcmp_refl ((FP.Core.notNaN_iff _).mpr (i2d_nn k))
theorem order_sh {s t : Bool} {c d : Nat} {q r : Int} (z : Int) : FP.Core.order (.fin s c (q + z)) (.fin t d (r + z)) = FP.Core.order (.fin s c q) (.fin t d r) := by
  simp only [FP.Core.order, FP.Core.inUnits]
  rw [show q + z - min (q + z) (r + z) = q - min q r by omega, show r + z - min (q + z) (r + z) = r - min q r by omega]
theorem cx_lo (k : Int32) : FP.dcmp (cx k) 13875590451928498176 = some (compare k.toInt (-8192)) := by
  by_cases h0 : k = 0
  · subst h0; decide +kernel
  · obtain ⟨s, c, q, hv, hf, h1, h2⟩ := i2d_fin k h0
    have hc := cx_val hv hf h1 h2
    have hb : FP.Core.val64 13875590451928498176 = .fin true (2 ^ 52) (-39 + (-3)) := by decide +kernel
    show FP.Core.order (FP.Core.val64 (cx k)) (FP.Core.val64 13875590451928498176) = _
    rw [hc, hb, order_sh, ← hv]
    exact FP.Core.order_whole (FP.Core.i2d_int k) (show FP.Core.Whole (-8192) (.fin true (2 ^ 52) (-39)) by unfold FP.Core.Whole; decide)
theorem cx_hi (k : Int32) : FP.dcmp (cx k) 4652218415073722368 = some (compare k.toInt 8192) := by
  by_cases h0 : k = 0
  · subst h0; decide +kernel
  · obtain ⟨s, c, q, hv, hf, h1, h2⟩ := i2d_fin k h0
    have hc := cx_val hv hf h1 h2
    have hb : FP.Core.val64 4652218415073722368 = .fin false (2 ^ 52) (-39 + (-3)) := by decide +kernel
    show FP.Core.order (FP.Core.val64 (cx k)) (FP.Core.val64 4652218415073722368) = _
    rw [hc, hb, order_sh, ← hv]
    exact FP.Core.order_whole (FP.Core.i2d_int k) (show FP.Core.Whole 8192 (.fin false (2 ^ 52) (-39)) by unfold FP.Core.Whole; decide)
theorem cmpV_lo (k : Int32) (op : CmpOp) : Op.cmpValue (FP.dcmp (cx k) 13875590451928498176) op = if k.toInt < -8192 then -1 else if k.toInt = -8192 then 0 else 1 := by
  rw [cx_lo, FP.Core.compare_ite]
  by_cases h : k.toInt < -8192
  · rw [if_pos h, if_pos h]; rfl
  · rw [if_neg h, if_neg h]
    by_cases h : k.toInt = -8192
    · rw [if_pos h, if_pos h]; rfl
    · rw [if_neg h, if_neg h]; rfl
theorem cmpV_hi (k : Int32) (op : CmpOp) : Op.cmpValue (FP.dcmp (cx k) 4652218415073722368) op = if k.toInt < 8192 then -1 else if k.toInt = 8192 then 0 else 1 := by
  rw [cx_hi, FP.Core.compare_ite]
  by_cases h : k.toInt < 8192
  · rw [if_pos h, if_pos h]; rfl
  · rw [if_neg h, if_neg h]
    by_cases h : k.toInt = 8192
    · rw [if_pos h, if_pos h]; rfl
    · rw [if_neg h, if_neg h]; rfl
theorem cmpV_eq (k : Int32) (op : CmpOp) : Op.cmpValue (FP.dcmp (FP.i2d k) (FP.i2d k)) op = 0 := by
  rw [i2d_eq]
  unfold Op.cmpValue
  rfl
