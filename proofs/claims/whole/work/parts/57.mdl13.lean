/-! rise -/
def PXr (σ τ : Sg) (B : Int) : Prop := τ.2.2 138 0 0 0 = (σ.1 20 0 0 0).toInt64 ∧ τ.2.2 139 0 0 0 = (σ.1 21 0 0 0).toInt64 ∧ (-B ≤ (σ.1 20 0 0 0).toInt ∧ (σ.1 20 0 0 0).toInt ≤ B) ∧ (-B ≤ (σ.1 21 0 0 0).toInt ∧ (σ.1 21 0 0 0).toInt ≤ B)
theorem pTurn_xy {σ : Sg} : ((pTurn 0 σ).1 20 0 0 0 = σ.1 20 0 0 0 ∧ (pTurn 0 σ).1 21 0 0 0 = σ.1 21 0 0 0) ∧ ((pTurn 1 σ).1 20 0 0 0 = -(σ.1 21 0 0 0) ∧ (pTurn 1 σ).1 21 0 0 0 = σ.1 20 0 0 0) ∧ ((pTurn 2 σ).1 20 0 0 0 = -(σ.1 20 0 0 0) ∧ (pTurn 2 σ).1 21 0 0 0 = -(σ.1 21 0 0 0)) ∧ ((pTurn 3 σ).1 20 0 0 0 = σ.1 21 0 0 0 ∧ (pTurn 3 σ).1 21 0 0 0 = -(σ.1 20 0 0 0)) := by
  simp [pTurn, us, upA]
theorem pLift_xy {σ : Sg} {i z k u : Nat} {w : Int32} : (pLift σ i z k w u).1 20 0 0 0 = (pTurn u σ).1 20 0 0 0 + fBet σ i z k 63 w ∧ (pLift σ i z k w u).1 21 0 0 0 = (pTurn u σ).1 21 0 0 0 + fBet σ i z k 64 w := by
  unfold pLift
  rw [us_f (by decide), us_self, us_self]
  exact ⟨rfl, rfl⟩
theorem betW {σ : Sg} {f z k key : Nat} {w : Int32} (hkey : key = 63 ∨ key = 64) (hz : z = fsz σ f) (hf : f < 6) (hV : FV σ) (hk : k < z) (h0 : σ.1 62 f 0 k ≤ w) (h1 : k + 1 < z → w < σ.1 62 f 0 (k + 1)) (he : k + 1 = z → w = σ.1 62 f 0 k) : rngC (fBet σ f z k key w) ∧ (fBet σ f z k key w).toInt64 = if σ.1 62 f 0 k = w then (σ.1 key f 0 k).toInt64 else btw (σ.1 key f 0 k).toInt64 (σ.1 key f 0 (k + 1)).toInt64 (w - σ.1 62 f 0 k).toInt64 (σ.1 62 f 0 (k + 1) - σ.1 62 f 0 k).toInt64 := by
  obtain ⟨v1, v2, v3, v4, v5⟩ := hV
  have hzz : (σ.1 61 f 0 0).toNatClampNeg = z := hz.symm
  have hA := v3 f hf k (by omega)
  have hrk : rngC (σ.1 key f 0 k) := by
    rcases hkey with rfl | rfl
    · exact hA.1
    · exact hA.2.1
  rw [Int32.le_iff_toInt_le] at h0
  unfold fBet fSpan
  by_cases hk1 : k + 1 < z
  · have hB := v3 f hf (k + 1) (by omega)
    have hrk1 : rngC (σ.1 key f 0 (k + 1)) := by
      rcases hkey with rfl | rfl
      · exact hB.1
      · exact hB.2.1
    have hlt := h1 hk1
    have hri := hA.2.2.2 (by omega)
    rw [Int32.lt_iff_toInt_lt] at hlt hri
    have hsp : (σ.1 62 f 0 (k + 1) - σ.1 62 f 0 k).toInt = (σ.1 62 f 0 (k + 1)).toInt - (σ.1 62 f 0 k).toInt := i32_sub' (by have := hA.2.2.1; have := hB.2.2.1; unfold rngT at *; omega) (by have := hA.2.2.1; have := hB.2.2.1; unfold rngT at *; omega)
    have hpos : 0 < σ.1 62 f 0 (k + 1) - σ.1 62 f 0 k := by rw [Int32.lt_iff_toInt_lt, hsp, show (0 : Int32).toInt = 0 by decide]; omega
    rw [if_pos hk1, if_pos hpos]
    obtain ⟨b1, b2⟩ := bet_eq hrk hrk1 hA.2.2.1 hB.2.2.1 h0 hlt
    refine ⟨b2, b1.trans ?_⟩
    by_cases hq : σ.1 62 f 0 k = w
    · rw [if_pos hq]
      have hz0 : w - σ.1 62 f 0 k = 0 := by rw [hq]; simp
      rw [hz0]
      unfold btw
      simp [lg_cmp]
    · rw [if_neg hq]
  · have hwk := he (by omega)
    rw [if_neg hk1, if_neg (by decide), if_pos hwk.symm]
    exact ⟨hrk, rfl⟩
/-- what rise answers, and what it does to the point -/
def RiP (σ τ : Sg) (f : Nat) (w : Int32) (B : Int) (r : Int32) (τ' : Sg) : Prop := (fIdx σ f (fsz σ f) w = -1 ∧ r = 0 ∧ τ' = τ) ∨ (¬ fIdx σ f (fsz σ f) w = -1 ∧ r = 1 ∧ Off [138, 139] τ τ' ∧ PXr (lftS σ f w) τ' (B + 8192))
theorem l_add {a c : Int32} {B : Int} (hB : B ≤ 100000) (ha : -B ≤ a.toInt ∧ a.toInt ≤ B) (hc : rngC c) : (a + c).toInt64 = c.toInt64 + a.toInt64 ∧ (-(B + 8192) ≤ (a + c).toInt ∧ (a + c).toInt ≤ B + 8192) := by
  obtain ⟨c1, c2⟩ := hc
  have e : (a + c).toInt = a.toInt + c.toInt := i32_add' (by omega) (by omega)
  refine ⟨Int64.toInt_inj.mp ?_, by rw [e]; omega⟩
  rw [FP.Core.int64_add (by rw [l32, l32]; omega) (by rw [l32, l32]; omega), l32, l32, l32, e]
  omega
theorem l_neg {a : Int32} {B : Int} (hB : B ≤ 100000) (ha : -B ≤ a.toInt ∧ a.toInt ≤ B) : (-a).toInt64 = -(a.toInt64) ∧ (-B ≤ (-a).toInt ∧ (-a).toInt ≤ B) := by
  have e : (-a).toInt = -a.toInt := i32_neg' (by omega)
  refine ⟨Int64.toInt_inj.mp ?_, by rw [e]; omega⟩
  rw [FP.Core.int64_neg (by rw [l32]; omega), l32, l32, e]
theorem px_up {σ τ τ' : Sg} {f u k : Nat} {w : Int32} {B : Int} {X Y P Q : Int64} (hB : B ≤ 90000) (h : PXr σ τ B) (hl : lftS σ f w = pLift σ f (fsz σ f) k w u) (hu : u ≤ 3) (hx : rngC (fBet σ f (fsz σ f) k 63 w) ∧ (fBet σ f (fsz σ f) k 63 w).toInt64 = X) (hy : rngC (fBet σ f (fsz σ f) k 64 w) ∧ (fBet σ f (fsz σ f) k 64 w).toInt64 = Y)
    (h1 : τ'.2.2 138 0 0 0 = X + P) (h2 : τ'.2.2 139 0 0 0 = Y + Q) (hP : (u = 0 ∧ P = τ.2.2 138 0 0 0 ∧ Q = τ.2.2 139 0 0 0) ∨ (u = 1 ∧ P = -(τ.2.2 139 0 0 0) ∧ Q = τ.2.2 138 0 0 0) ∨ (u = 2 ∧ P = -(τ.2.2 138 0 0 0) ∧ Q = -(τ.2.2 139 0 0 0)) ∨ (u = 3 ∧ P = τ.2.2 139 0 0 0 ∧ Q = -(τ.2.2 138 0 0 0))) : PXr (lftS σ f w) τ' (B + 8192) := by
  obtain ⟨p1, p2, p3, p4⟩ := h
  obtain ⟨t0, t1, t2, t3⟩ := pTurn_xy (σ := σ)
  have n1 := l_neg (B := B) (by omega) p3
  have n2 := l_neg (B := B) (by omega) p4
  rw [p1, p2] at hP
  unfold PXr
  rw [hl, pLift_xy.1, pLift_xy.2, h1, h2]
  rcases hP with ⟨rfl, rfl, rfl⟩ | ⟨rfl, rfl, rfl⟩ | ⟨rfl, rfl, rfl⟩ | ⟨rfl, rfl, rfl⟩
  · rw [t0.1, t0.2]
    have a1 := l_add (B := B) (by omega) p3 hx.1
    have a2 := l_add (B := B) (by omega) p4 hy.1
    exact ⟨by rw [a1.1, hx.2], by rw [a2.1, hy.2], a1.2, a2.2⟩
  · rw [t1.1, t1.2]
    have a1 := l_add (B := B) (by omega) n2.2 hx.1
    have a2 := l_add (B := B) (by omega) p3 hy.1
    exact ⟨by rw [a1.1, hx.2, n2.1], by rw [a2.1, hy.2], a1.2, a2.2⟩
  · rw [t2.1, t2.2]
    have a1 := l_add (B := B) (by omega) n1.2 hx.1
    have a2 := l_add (B := B) (by omega) n2.2 hy.1
    exact ⟨by rw [a1.1, hx.2, n1.1], by rw [a2.1, hy.2, n2.1], a1.2, a2.2⟩
  · rw [t3.1, t3.2]
    have a1 := l_add (B := B) (by omega) p4 hx.1
    have a2 := l_add (B := B) (by omega) n1.2 hy.1
    exact ⟨by rw [a1.1, hx.2], by rw [a2.1, hy.2, n1.1], a1.2, a2.2⟩
set_option maxRecDepth 100000 in
set_option maxHeartbeats 4000000 in
theorem lp_Mdl_rise (l : Launch) (D : va_G) (ca : Nat → ClassId) (b : Nat) {R : Room} {X : Zx} {y0 : MethodName} {c0 : ByteArray} {n0 : Nat} {r0 : Option FieldType} (C : Cs D ca b_Mdl_rise 14 "RobotBusModel" (Cond.code y0 c0 n0 r0) X) {σ τ : Sg} {f : Nat} (hf : f < 6) (w : Int32) (hz1 : 1 ≤ fsz σ f) (hz4 : fsz σ f ≤ 4) (hT : ∀ k, k < fsz σ f → τ.1 134 0 0 (4 * f + k) = σ.1 62 f 0 k) (I0 : Int32) (kk : ∀ k, k < fsz σ f → I0 = nI k → σ.1 62 f 0 k ≤ w → (k + 1 < fsz σ f → w < σ.1 62 f 0 (k + 1)) → Zs l D ca SM b 31 R 14 X τ 72 [(3, .int (nI (4 * f + k))), (4, .int (nI (4 * f + (fsz σ f - 1)))), (0, .ref (b + 0)), (1, .int (nI f)), (2, .int w)] []) : ∀ m k, k + m + 1 = fsz σ f → I0 = fIx σ f w m (k + 1) (nI k) → σ.1 62 f 0 k ≤ w → Zs l D ca SM b 31 R 14 X τ 48 [(3, .int (nI (4 * f + k))), (4, .int (nI (4 * f + (fsz σ f - 1)))), (0, .ref (b + 0)), (1, .int (nI f)), (2, .int w)] [] := by
  intro m
  induction m with
  | zero =>
    intro k hk he hw
    refine z_iload_n C d_Mdl_rise_48 rfl 0 rfl ?_
    refine z_iload C d_Mdl_rise_49 1 rfl ?_
    refine z_icmp_ge C 72 d_Mdl_rise_51 (by decide) (fun h51 => ?_) (fun h51 => False.elim (h51 (ge_T (a := (4 * f + k)) (b := (4 * f + (fsz σ f - 1))) rfl rfl (by omega) (by omega))))
    exact kk k (by omega) he hw (fun z => absurd z (by omega))
  | succ m ih =>
    intro k hk he hw
    rw [show fIx σ f w (m + 1) (k + 1) (nI k) = if w < σ.1 62 f 0 (k + 1) then nI k else fIx σ f w m (k + 1 + 1) (nI (k + 1)) from rfl] at he
    refine z_iload_n C d_Mdl_rise_48 rfl 0 rfl ?_
    refine z_iload C d_Mdl_rise_49 1 rfl ?_
    refine z_icmp_ge C 72 d_Mdl_rise_51 (by decide) (fun h51 => False.elim (ge_F (a := (4 * f + k)) (b := (4 * f + (fsz σ f - 1))) rfl rfl (by omega) (by omega) h51)) (fun h51 => ?_)
    refine z_aload_n C d_Mdl_rise_54 rfl 2 rfl ?_
    refine gB_Mdl_sTime C d_Mdl_rise_55 tw_773  ?_
    refine z_iload_n C d_Mdl_rise_58 rfl 0 rfl ?_
    refine z_iconst C (v := 1) d_Mdl_rise_59 (by decide) ?_
    refine z_iadd C d_Mdl_rise_60 ?_
    refine lB_m_sTime C (q := (4 * f + (k + 1))) d_Mdl_rise_61  ((nadd (a := 4 * f + k) (b := 1) rfl (rfl : (1 : Int32) = nI 1)).trans (by rw [Nat.add_assoc])) (by omega) ?_
    refine z_ri (x' := (σ.1 62 f 0 (k + 1))) (hT (k + 1) (by omega)) ?_
    refine z_iload_n C d_Mdl_rise_62 rfl 4 rfl ?_
    refine z_icmp_gt C 72 d_Mdl_rise_63 (by decide) (fun h63 => ?_) (fun h63 => ?_)
    · rw [if_pos h63] at he
      exact kk k (by omega) he hw (fun _ => h63)
    · rw [if_neg h63] at he
      refine z_iinc C d_Mdl_rise_66 0 rfl (v := (nI ((4 * f + k) + 1))) (nI_1 _) (by decide) [(3, .int (nI ((4 * f + k) + 1))), (4, .int (nI (4 * f + (fsz σ f - 1)))), (0, .ref (b + 0)), (1, .int (nI f)), (2, .int w)] rfl ?_
      refine z_goto C 48 d_Mdl_rise_69 (by decide) ?_
      exact ih (k + 1) (by omega) he (Int32.not_lt.mp h63)
theorem z_rl {l : Launch} {D : va_G} {cl : List vw_C} {b n : Nat} {R : Room} {nL : Nat} {X : Zx} {k sl : Nat} {M : Nat → va_E} {pc : Nat} {L : List (Nat × Value)} {st : List Value} {x x' : Int64} (h : x = x') (kk : Z l D cl b n R nL X k sl M pc L (.long x' :: st)) : Z l D cl b n R nL X k sl M pc L (.long x :: st) := by rw [h]; exact kk
set_option maxRecDepth 100000 in
set_option maxHeartbeats 4000000 in
/-- the model lifts the point out of a frame as the bus does -/
theorem c_Mdl_rise (l : Launch) (D : va_G) (ca : Nat → ClassId) (b : Nat) (τ : Sg) {σ : Sg} {f : Nat} (hf : f < 6) (w : Int32) {e p a : Int32} (h : Rl e p a σ τ) {B : Int} (hB : B ≤ 90000) (hpx : PXr σ τ B) : CtI l D ca SM b 31 y_Mdl_rise w_Mdl_rise (rmN 1 30) τ [.ref (b + 0), .int (nI f), .int w] (fun r τ' => RiP σ τ f w B r τ') := by
  have hF := h.2.2.2.2.2.2.2.2.2.2.2.1 f hf
  have hV := h.2.2.2.2.2.2.2.2.2.2.2.2.1
  obtain ⟨hzs, hz4, -⟩ := hV.1 f hf
  have hzz := hF.2.1.trans hzs
  have hRF : ∀ k, k < fsz σ f → _ := fun k hk => hF.2.2 k hk
  have hT : ∀ k, k < fsz σ f → τ.1 134 0 0 (4 * f + k) = σ.1 62 f 0 k := fun k hk => (hRF k hk).1
  refine ct_z "RobotBusModel" [(0, .ref (b + 0)), (1, .int (nI f)), (2, .int w)] (by decide) rfl (Nat.le_of_ble_eq_true rfl) rfl (fun X C hret => ?_)
  refine z_iconst C (v := 4) d_Mdl_rise_0 (by decide) ?_
  refine z_iload_n C d_Mdl_rise_1 rfl 1 rfl ?_
  refine z_imul C d_Mdl_rise_2 ?_
  refine z_ri (x' := nI (4 * f)) (nmul (rfl : (4 : Int32) = nI 4) rfl) ?_
  refine z_istore_n C d_Mdl_rise_3 rfl (by decide) [(3, .int (nI (4 * f))), (0, .ref (b + 0)), (1, .int (nI f)), (2, .int w)] rfl ?_
  refine z_iload_n C d_Mdl_rise_4 rfl 0 rfl ?_
  refine z_aload_n C d_Mdl_rise_5 rfl 1 rfl ?_
  refine gB_Mdl_samples C d_Mdl_rise_6 tw_772  ?_
  refine z_iload_n C d_Mdl_rise_9 rfl 2 rfl ?_
  refine lB_m_samples C (q := f) d_Mdl_rise_10  rfl hf ?_
  refine z_ri (x' := (nI (fsz σ f))) hzz ?_
  refine z_iadd C d_Mdl_rise_11 ?_
  refine z_iconst C (v := 1) d_Mdl_rise_12 (by decide) ?_
  refine z_isub C d_Mdl_rise_13 ?_
  refine z_istore C d_Mdl_rise_14 (by decide) [(4, .int (((nI (4 * f)) + (nI (fsz σ f))) - 1)), (3, .int (nI (4 * f))), (0, .ref (b + 0)), (1, .int (nI f)), (2, .int w)] rfl ?_
  refine z_aload_n C d_Mdl_rise_16 rfl 2 rfl ?_
  refine gB_Mdl_samples C d_Mdl_rise_17 tw_772  ?_
  refine z_iload_n C d_Mdl_rise_20 rfl 3 rfl ?_
  refine lB_m_samples C (q := f) d_Mdl_rise_21  rfl hf ?_
  refine z_if_eq C 46 d_Mdl_rise_22 (by decide) (fun h22 => ?_) (fun h22 => ?_)
  · have hz0 : fsz σ f = 0 := by
      apply Decidable.byContradiction
      intro z
      exact nI_ne0 (Nat.pos_of_ne_zero z) (by omega) (hzz.symm.trans h22)
    refine z_iconst C (v := 0) d_Mdl_rise_46 (by decide) ?_
    refine hret _ _ _ _ d_Mdl_rise_47 (by decide) (Or.inl ⟨?_, rfl, rfl⟩)
    first | exact hno | (unfold fIdx fBeh; rw [if_pos hz0, if_neg (by decide)])
  · have hz1 : 1 ≤ fsz σ f := Nat.pos_of_ne_zero (fun z => h22 (by rw [hzz, z]; rfl))
    rw [show nI (4 * f) + nI (fsz σ f) - 1 = nI (4 * f + (fsz σ f - 1)) from (nsub (a := 4 * f + fsz σ f) (b := 1) (nI_add _ _) (rfl : (1 : Int32) = nI 1) (by omega)).trans (by congr 1; omega)]
    have hT0 := hT 0 (by omega)
    have hTe := hT (fsz σ f - 1) (by omega)
    refine z_iload_n C d_Mdl_rise_25 rfl 4 rfl ?_
    refine z_aload_n C d_Mdl_rise_26 rfl 2 rfl ?_
    refine gB_Mdl_sTime C d_Mdl_rise_27 tw_773  ?_
    refine z_iload_n C d_Mdl_rise_30 rfl 1 rfl ?_
    refine lB_m_sTime C (q := (4 * f)) d_Mdl_rise_31  rfl (by omega) ?_
    refine z_ri (x' := σ.1 62 f 0 0) hT0 ?_
    refine z_icmp_lt C 46 d_Mdl_rise_32 (by decide) (fun h32 => ?_) (fun h32 => ?_)
    · have hno : fIdx σ f (fsz σ f) w = -1 := by
        unfold fIdx
        split
        · rw [show fsz σ f = (fsz σ f - 1) + 1 by omega]
          show (if w < σ.1 62 f 0 0 then (-1 : Int32) else _) = -1
          rw [if_pos h32]
        · rfl
      refine z_iconst C (v := 0) d_Mdl_rise_46 (by decide) ?_
      refine hret _ _ _ _ d_Mdl_rise_47 (by decide) (Or.inl ⟨?_, rfl, rfl⟩)
      first | exact hno | (unfold fIdx fBeh; rw [if_pos hz0, if_neg (by decide)])
    · skip
      refine z_iload_n C d_Mdl_rise_35 rfl 4 rfl ?_
      refine z_aload_n C d_Mdl_rise_36 rfl 2 rfl ?_
      refine gB_Mdl_sTime C d_Mdl_rise_37 tw_773  ?_
      refine z_iload C d_Mdl_rise_40 0 rfl ?_
      refine lB_m_sTime C (q := (4 * f + (fsz σ f - 1))) d_Mdl_rise_42  rfl (by omega) ?_
      refine z_ri (x' := σ.1 62 f 0 (fsz σ f - 1)) hTe ?_
      refine z_icmp_le C 48 d_Mdl_rise_43 (by decide) (fun h43 => ?_) (fun h43 => ?_)
      · skip
        refine z_loc [1, 0, 2, 3, 4] rfl ?_
        have hI0 : fIdx σ f (fsz σ f) w = fIx σ f w (fsz σ f - 1) 1 (nI 0) := by
          have e9 : fIx σ f w (fsz σ f) 0 (-1) = fIx σ f w (fsz σ f - 1) 1 (nI 0) := by
            have e8 : fIx σ f w (fsz σ f - 1 + 1) 0 (-1) = fIx σ f w (fsz σ f - 1) 1 (nI 0) := by
              show (if w < σ.1 62 f 0 0 then (-1 : Int32) else fIx σ f w (fsz σ f - 1) (0 + 1) (nI 0)) = _
              rw [if_neg h32]
            rw [← e8, show fsz σ f - 1 + 1 = fsz σ f by omega]
          unfold fIdx fBeh
          rw [if_neg (show ¬ fsz σ f = 0 by omega), if_pos h43, if_pos rfl, e9]
        refine lp_Mdl_rise l D ca b C hf w hz1 hz4 hT (fIdx σ f (fsz σ f) w) (fun k hk hik hw0 hw1 => ?_) (fsz σ f - 1) 0 (by omega) hI0 (Int32.not_lt.mp h32)
        have hRk := hRF k hk
        have hu1 := (hV.1 f hf).2.2 k hk
        have hnm : ¬ fIdx σ f (fsz σ f) w = -1 := by
          rw [hik]
          exact nI_m1 (by omega)
        have hls : lftS σ f w = pLift σ f (fsz σ f) k w (ftn σ f k) := by
          unfold lftS
          rw [hik, nI_clamp (by omega)]
        have hwe : k + 1 = fsz σ f → w = σ.1 62 f 0 k := fun z => by
          rw [Int32.le_iff_toInt_le] at h43 hw0
          refine Int32.toInt_inj.mp ?_
          rw [show fsz σ f - 1 = k by omega] at h43
          omega
        have hbx := betW (key := 63) (Or.inl rfl) rfl hf hV hk hw0 hw1 hwe
        have hby := betW (key := 64) (Or.inr rfl) rfl hf hV hk hw0 hw1 hwe
        refine z_aload_n C d_Mdl_rise_72 rfl 2 rfl ?_
        refine gB_Mdl_sX C d_Mdl_rise_73 tw_774  ?_
        refine z_iload_n C d_Mdl_rise_76 rfl 0 rfl ?_
        refine lB_m_sX C (q := (4 * f + k)) d_Mdl_rise_77 rfl (by omega) ?_
        refine z_rl (x' := (σ.1 63 f 0 k).toInt64) hRk.2.1 ?_
        refine z_lstore C d_Mdl_rise_78 (by decide) [(5, .long (σ.1 63 f 0 k).toInt64), (3, .int (nI (4 * f + k))), (4, .int (nI (4 * f + (fsz σ f - 1)))), (0, .ref (b + 0)), (1, .int (nI f)), (2, .int w)] rfl ?_
        refine z_aload_n C d_Mdl_rise_80 rfl 3 rfl ?_
        refine gB_Mdl_sY C d_Mdl_rise_81 tw_775  ?_
        refine z_iload_n C d_Mdl_rise_84 rfl 1 rfl ?_
        refine lB_m_sY C (q := (4 * f + k)) d_Mdl_rise_85 rfl (by omega) ?_
        refine z_rl (x' := (σ.1 64 f 0 k).toInt64) hRk.2.2.1 ?_
        refine z_lstore C d_Mdl_rise_86 (by decide) [(7, .long (σ.1 64 f 0 k).toInt64), (5, .long (σ.1 63 f 0 k).toInt64), (3, .int (nI (4 * f + k))), (4, .int (nI (4 * f + (fsz σ f - 1)))), (0, .ref (b + 0)), (1, .int (nI f)), (2, .int w)] rfl ?_
        refine z_aload_n C d_Mdl_rise_88 rfl 4 rfl ?_
        refine gB_Mdl_sTime C d_Mdl_rise_89 tw_773  ?_
        refine z_iload_n C d_Mdl_rise_92 rfl 2 rfl ?_
        refine lB_m_sTime C (q := (4 * f + k)) d_Mdl_rise_93  rfl (by omega) ?_
        refine z_ri (x' := (σ.1 62 f 0 k)) hRk.1 ?_
        refine z_iload_n C d_Mdl_rise_94 rfl 6 rfl ?_
        refine z_icmp_eq C 186 d_Mdl_rise_95 (by decide) (fun h95 => ?_) (fun h95 => ?_)
        · rw [if_pos h95] at hbx hby
          refine z_aload_n C d_Mdl_rise_186 rfl 4 rfl ?_
          refine gB_Mdl_px C d_Mdl_rise_187 tw_777  ?_
          refine z_lstore C d_Mdl_rise_190 (by decide) [(9, .long (τ.2.2 138 0 0 0)), (7, .long (σ.1 64 f 0 k).toInt64), (5, .long (σ.1 63 f 0 k).toInt64), (3, .int (nI (4 * f + k))), (4, .int (nI (4 * f + (fsz σ f - 1)))), (0, .ref (b + 0)), (1, .int (nI f)), (2, .int w)] rfl ?_
          refine z_aload_n C d_Mdl_rise_192 rfl 5 rfl ?_
          refine gB_Mdl_py C d_Mdl_rise_193 tw_778  ?_
          refine z_lstore C d_Mdl_rise_196 (by decide) [(11, .long (τ.2.2 139 0 0 0)), (9, .long (τ.2.2 138 0 0 0)), (7, .long (σ.1 64 f 0 k).toInt64), (5, .long (σ.1 63 f 0 k).toInt64), (3, .int (nI (4 * f + k))), (4, .int (nI (4 * f + (fsz σ f - 1)))), (0, .ref (b + 0)), (1, .int (nI f)), (2, .int w)] rfl ?_
          refine z_aload_n C d_Mdl_rise_198 rfl 6 rfl ?_
          refine gB_Mdl_sTurn C d_Mdl_rise_199 tw_776  ?_
          refine z_iload_n C d_Mdl_rise_202 rfl 4 rfl ?_
          refine lB_m_sTurn C (q := (4 * f + k)) d_Mdl_rise_203  rfl (by omega) ?_
          rcases (show ftn σ f k = 0 ∨ ftn σ f k = 1 ∨ ftn σ f k = 2 ∨ ftn σ f k = 3 by omega) with hu | hu | hu | hu
          · refine z_ri (x' := 0) (by rw [hRk.2.2.2, hu1.1, hu]; rfl) ?_
            refine z_istore C d_Mdl_rise_204 (by decide) [(13, .int 0), (11, .long (τ.2.2 139 0 0 0)), (9, .long (τ.2.2 138 0 0 0)), (7, .long (σ.1 64 f 0 k).toInt64), (5, .long (σ.1 63 f 0 k).toInt64), (3, .int (nI (4 * f + k))), (4, .int (nI (4 * f + (fsz σ f - 1)))), (0, .ref (b + 0)), (1, .int (nI f)), (2, .int w)] rfl ?_
            refine z_aload_n C d_Mdl_rise_206 rfl 7 rfl ?_
            refine z_lload C d_Mdl_rise_207 4 rfl ?_
            refine z_iload C d_Mdl_rise_209 0 rfl ?_
            refine z_if_ne C 219 d_Mdl_rise_211 (by decide) (fun h211 => False.elim (absurd (by decide) h211)) (fun h211 => ?_)
            refine z_lload C d_Mdl_rise_214 2 rfl ?_
            refine z_goto C 245 d_Mdl_rise_216 (by decide) ?_
            refine z_ladd C d_Mdl_rise_245 ?_
            refine pB_Mdl_px C d_Mdl_rise_246 tw_777  ?_
            refine z_aload_n C d_Mdl_rise_249 rfl 7 rfl ?_
            refine z_lload C d_Mdl_rise_250 3 rfl ?_
            refine z_iload C d_Mdl_rise_252 0 rfl ?_
            refine z_if_ne C 262 d_Mdl_rise_254 (by decide) (fun h254 => False.elim (absurd (by decide) h254)) (fun h254 => ?_)
            refine z_lload C d_Mdl_rise_257 1 rfl ?_
            refine z_goto C 288 d_Mdl_rise_259 (by decide) ?_
            refine z_ladd C d_Mdl_rise_288 ?_
            refine pB_Mdl_py C d_Mdl_rise_289 tw_778  ?_
            refine z_iconst C (v := 1) d_Mdl_rise_292 (by decide) ?_
            refine hret _ _ _ _ d_Mdl_rise_293 (by decide) (Or.inr ⟨hnm, rfl, (by repeat (first | exact Off.rf | assumption | refine Off.us ?_ (by decide) | refine Off.uA ?_ (by decide) | refine Off.uL ?_ (by decide) | refine Off.uE ?_ (by decide))), ?_⟩)
            exact px_up (P := τ.2.2 138 0 0 0) (Q := τ.2.2 139 0 0 0) hB hpx hls (by omega) hbx hby (by simp [upL]) (by simp [upL]) (by simp [hu])
          · refine z_ri (x' := 1) (by rw [hRk.2.2.2, hu1.1, hu]; rfl) ?_
            refine z_istore C d_Mdl_rise_204 (by decide) [(13, .int 1), (11, .long (τ.2.2 139 0 0 0)), (9, .long (τ.2.2 138 0 0 0)), (7, .long (σ.1 64 f 0 k).toInt64), (5, .long (σ.1 63 f 0 k).toInt64), (3, .int (nI (4 * f + k))), (4, .int (nI (4 * f + (fsz σ f - 1)))), (0, .ref (b + 0)), (1, .int (nI f)), (2, .int w)] rfl ?_
            refine z_aload_n C d_Mdl_rise_206 rfl 7 rfl ?_
            refine z_lload C d_Mdl_rise_207 4 rfl ?_
            refine z_iload C d_Mdl_rise_209 0 rfl ?_
            refine z_if_ne C 219 d_Mdl_rise_211 (by decide) (fun h211 => ?_) (fun h211 => False.elim (absurd h211 (by decide)))
            refine z_iload C d_Mdl_rise_219 0 rfl ?_
            refine z_iconst C (v := 1) d_Mdl_rise_221 (by decide) ?_
            refine z_icmp_ne C 231 d_Mdl_rise_222 (by decide) (fun h222 => False.elim (absurd (by decide) (h222))) (fun h222 => ?_)
            refine z_lload C d_Mdl_rise_225 1 rfl ?_
            refine z_lneg C d_Mdl_rise_227 ?_
            refine z_goto C 245 d_Mdl_rise_228 (by decide) ?_
            refine z_ladd C d_Mdl_rise_245 ?_
            refine pB_Mdl_px C d_Mdl_rise_246 tw_777  ?_
            refine z_aload_n C d_Mdl_rise_249 rfl 7 rfl ?_
            refine z_lload C d_Mdl_rise_250 3 rfl ?_
            refine z_iload C d_Mdl_rise_252 0 rfl ?_
            refine z_if_ne C 262 d_Mdl_rise_254 (by decide) (fun h254 => ?_) (fun h254 => False.elim (absurd h254 (by decide)))
            refine z_iload C d_Mdl_rise_262 0 rfl ?_
            refine z_iconst C (v := 1) d_Mdl_rise_264 (by decide) ?_
            refine z_icmp_ne C 273 d_Mdl_rise_265 (by decide) (fun h265 => False.elim (absurd (by decide) (h265))) (fun h265 => ?_)
            refine z_lload C d_Mdl_rise_268 2 rfl ?_
            refine z_goto C 288 d_Mdl_rise_270 (by decide) ?_
            refine z_ladd C d_Mdl_rise_288 ?_
            refine pB_Mdl_py C d_Mdl_rise_289 tw_778  ?_
            refine z_iconst C (v := 1) d_Mdl_rise_292 (by decide) ?_
            refine hret _ _ _ _ d_Mdl_rise_293 (by decide) (Or.inr ⟨hnm, rfl, (by repeat (first | exact Off.rf | assumption | refine Off.us ?_ (by decide) | refine Off.uA ?_ (by decide) | refine Off.uL ?_ (by decide) | refine Off.uE ?_ (by decide))), ?_⟩)
            exact px_up (P := -(τ.2.2 139 0 0 0)) (Q := τ.2.2 138 0 0 0) hB hpx hls (by omega) hbx hby (by simp [upL]) (by simp [upL]) (by simp [hu])
          · refine z_ri (x' := 2) (by rw [hRk.2.2.2, hu1.1, hu]; rfl) ?_
            refine z_istore C d_Mdl_rise_204 (by decide) [(13, .int 2), (11, .long (τ.2.2 139 0 0 0)), (9, .long (τ.2.2 138 0 0 0)), (7, .long (σ.1 64 f 0 k).toInt64), (5, .long (σ.1 63 f 0 k).toInt64), (3, .int (nI (4 * f + k))), (4, .int (nI (4 * f + (fsz σ f - 1)))), (0, .ref (b + 0)), (1, .int (nI f)), (2, .int w)] rfl ?_
            refine z_aload_n C d_Mdl_rise_206 rfl 7 rfl ?_
            refine z_lload C d_Mdl_rise_207 4 rfl ?_
            refine z_iload C d_Mdl_rise_209 0 rfl ?_
            refine z_if_ne C 219 d_Mdl_rise_211 (by decide) (fun h211 => ?_) (fun h211 => False.elim (absurd h211 (by decide)))
            refine z_iload C d_Mdl_rise_219 0 rfl ?_
            refine z_iconst C (v := 1) d_Mdl_rise_221 (by decide) ?_
            refine z_icmp_ne C 231 d_Mdl_rise_222 (by decide) (fun h222 => ?_) (fun h222 => False.elim (absurd (h222) (by decide)))
            refine z_iload C d_Mdl_rise_231 0 rfl ?_
            refine z_iconst C (v := 2) d_Mdl_rise_233 (by decide) ?_
            refine z_icmp_ne C 243 d_Mdl_rise_234 (by decide) (fun h234 => False.elim (absurd (by decide) (h234))) (fun h234 => ?_)
            refine z_lload C d_Mdl_rise_237 2 rfl ?_
            refine z_lneg C d_Mdl_rise_239 ?_
            refine z_goto C 245 d_Mdl_rise_240 (by decide) ?_
            refine z_ladd C d_Mdl_rise_245 ?_
            refine pB_Mdl_px C d_Mdl_rise_246 tw_777  ?_
            refine z_aload_n C d_Mdl_rise_249 rfl 7 rfl ?_
            refine z_lload C d_Mdl_rise_250 3 rfl ?_
            refine z_iload C d_Mdl_rise_252 0 rfl ?_
            refine z_if_ne C 262 d_Mdl_rise_254 (by decide) (fun h254 => ?_) (fun h254 => False.elim (absurd h254 (by decide)))
            refine z_iload C d_Mdl_rise_262 0 rfl ?_
            refine z_iconst C (v := 1) d_Mdl_rise_264 (by decide) ?_
            refine z_icmp_ne C 273 d_Mdl_rise_265 (by decide) (fun h265 => ?_) (fun h265 => False.elim (absurd (h265) (by decide)))
            refine z_iload C d_Mdl_rise_273 0 rfl ?_
            refine z_iconst C (v := 2) d_Mdl_rise_275 (by decide) ?_
            refine z_icmp_ne C 285 d_Mdl_rise_276 (by decide) (fun h276 => False.elim (absurd (by decide) (h276))) (fun h276 => ?_)
            refine z_lload C d_Mdl_rise_279 1 rfl ?_
            refine z_lneg C d_Mdl_rise_281 ?_
            refine z_goto C 288 d_Mdl_rise_282 (by decide) ?_
            refine z_ladd C d_Mdl_rise_288 ?_
            refine pB_Mdl_py C d_Mdl_rise_289 tw_778  ?_
            refine z_iconst C (v := 1) d_Mdl_rise_292 (by decide) ?_
            refine hret _ _ _ _ d_Mdl_rise_293 (by decide) (Or.inr ⟨hnm, rfl, (by repeat (first | exact Off.rf | assumption | refine Off.us ?_ (by decide) | refine Off.uA ?_ (by decide) | refine Off.uL ?_ (by decide) | refine Off.uE ?_ (by decide))), ?_⟩)
            exact px_up (P := -(τ.2.2 138 0 0 0)) (Q := -(τ.2.2 139 0 0 0)) hB hpx hls (by omega) hbx hby (by simp [upL]) (by simp [upL]) (by simp [hu])
          · refine z_ri (x' := 3) (by rw [hRk.2.2.2, hu1.1, hu]; rfl) ?_
            refine z_istore C d_Mdl_rise_204 (by decide) [(13, .int 3), (11, .long (τ.2.2 139 0 0 0)), (9, .long (τ.2.2 138 0 0 0)), (7, .long (σ.1 64 f 0 k).toInt64), (5, .long (σ.1 63 f 0 k).toInt64), (3, .int (nI (4 * f + k))), (4, .int (nI (4 * f + (fsz σ f - 1)))), (0, .ref (b + 0)), (1, .int (nI f)), (2, .int w)] rfl ?_
            refine z_aload_n C d_Mdl_rise_206 rfl 7 rfl ?_
            refine z_lload C d_Mdl_rise_207 4 rfl ?_
            refine z_iload C d_Mdl_rise_209 0 rfl ?_
            refine z_if_ne C 219 d_Mdl_rise_211 (by decide) (fun h211 => ?_) (fun h211 => False.elim (absurd h211 (by decide)))
            refine z_iload C d_Mdl_rise_219 0 rfl ?_
            refine z_iconst C (v := 1) d_Mdl_rise_221 (by decide) ?_
            refine z_icmp_ne C 231 d_Mdl_rise_222 (by decide) (fun h222 => ?_) (fun h222 => False.elim (absurd (h222) (by decide)))
            refine z_iload C d_Mdl_rise_231 0 rfl ?_
            refine z_iconst C (v := 2) d_Mdl_rise_233 (by decide) ?_
            refine z_icmp_ne C 243 d_Mdl_rise_234 (by decide) (fun h234 => ?_) (fun h234 => False.elim (absurd (h234) (by decide)))
            refine z_lload C d_Mdl_rise_243 1 rfl ?_
            refine z_ladd C d_Mdl_rise_245 ?_
            refine pB_Mdl_px C d_Mdl_rise_246 tw_777  ?_
            refine z_aload_n C d_Mdl_rise_249 rfl 7 rfl ?_
            refine z_lload C d_Mdl_rise_250 3 rfl ?_
            refine z_iload C d_Mdl_rise_252 0 rfl ?_
            refine z_if_ne C 262 d_Mdl_rise_254 (by decide) (fun h254 => ?_) (fun h254 => False.elim (absurd h254 (by decide)))
            refine z_iload C d_Mdl_rise_262 0 rfl ?_
            refine z_iconst C (v := 1) d_Mdl_rise_264 (by decide) ?_
            refine z_icmp_ne C 273 d_Mdl_rise_265 (by decide) (fun h265 => ?_) (fun h265 => False.elim (absurd (h265) (by decide)))
            refine z_iload C d_Mdl_rise_273 0 rfl ?_
            refine z_iconst C (v := 2) d_Mdl_rise_275 (by decide) ?_
            refine z_icmp_ne C 285 d_Mdl_rise_276 (by decide) (fun h276 => ?_) (fun h276 => False.elim (absurd (h276) (by decide)))
            refine z_lload C d_Mdl_rise_285 2 rfl ?_
            refine z_lneg C d_Mdl_rise_287 ?_
            refine z_ladd C d_Mdl_rise_288 ?_
            refine pB_Mdl_py C d_Mdl_rise_289 tw_778  ?_
            refine z_iconst C (v := 1) d_Mdl_rise_292 (by decide) ?_
            refine hret _ _ _ _ d_Mdl_rise_293 (by decide) (Or.inr ⟨hnm, rfl, (by repeat (first | exact Off.rf | assumption | refine Off.us ?_ (by decide) | refine Off.uA ?_ (by decide) | refine Off.uL ?_ (by decide) | refine Off.uE ?_ (by decide))), ?_⟩)
            exact px_up (P := τ.2.2 139 0 0 0) (Q := -(τ.2.2 138 0 0 0)) hB hpx hls (by omega) hbx hby (by simp [upL]) (by simp [upL]) (by simp [hu])
        · rw [if_neg h95] at hbx hby
          have hk1 : k + 1 < fsz σ f := by
            have : ¬ k + 1 = fsz σ f := fun z => h95 (hwe z).symm
            omega
          have hRk1 := hRF (k + 1) hk1
          have hsp : ¬ (σ.1 62 f 0 (k + 1) - σ.1 62 f 0 k).toInt64 = 0 := by
            intro z
            have hz9 := congrArg Int64.toInt z
            have q1 := hV.2.2.1 f hf k (by show _ < fsz σ f; omega)
            have q2 := hV.2.2.1 f hf (k + 1) (by show _ < fsz σ f; omega)
            have q3 := q1.2.2.2 (by show _ < fsz σ f; omega)
            rw [Int32.lt_iff_toInt_lt] at q3
            have q4 := q1.2.2.1
            have q5 := q2.2.2.1
            unfold rngT at q4 q5
            rw [l32, i32_sub' (by omega) (by omega), show (0 : Int64).toInt = 0 by decide] at hz9
            omega
          refine z_aload_n C d_Mdl_rise_98 rfl 4 rfl ?_
          refine gB_Mdl_sX C d_Mdl_rise_99 tw_774  ?_
          refine z_iload_n C d_Mdl_rise_102 rfl 2 rfl ?_
          refine lB_m_sX C (q := (4 * f + k)) d_Mdl_rise_103 rfl (by omega) ?_
          refine z_rl (x' := (σ.1 63 f 0 k).toInt64) hRk.2.1 ?_
          refine z_aload_n C d_Mdl_rise_104 rfl 4 rfl ?_
          refine gB_Mdl_sX C d_Mdl_rise_105 tw_774  ?_
          refine z_iload_n C d_Mdl_rise_108 rfl 2 rfl ?_
          refine z_iconst C (v := 1) d_Mdl_rise_109 (by decide) ?_
          refine z_iadd C d_Mdl_rise_110 ?_
          refine lB_m_sX C (q := (4 * f + (k + 1))) d_Mdl_rise_111 ((nadd (a := 4 * f + k) (b := 1) rfl (rfl : (1 : Int32) = nI 1)).trans (by rw [Nat.add_assoc])) (by omega) ?_
          refine z_rl (x' := (σ.1 63 f 0 (k + 1)).toInt64) hRk1.2.1 ?_
          refine z_iload_n C d_Mdl_rise_112 rfl 6 rfl ?_
          refine z_aload_n C d_Mdl_rise_113 rfl 4 rfl ?_
          refine gB_Mdl_sTime C d_Mdl_rise_114 tw_773  ?_
          refine z_iload_n C d_Mdl_rise_117 rfl 2 rfl ?_
          refine lB_m_sTime C (q := (4 * f + k)) d_Mdl_rise_118  rfl (by omega) ?_
          refine z_ri (x' := (σ.1 62 f 0 k)) hRk.1 ?_
          refine z_isub C d_Mdl_rise_119 ?_
          refine z_i2l C d_Mdl_rise_120 ?_
          refine z_aload_n C d_Mdl_rise_121 rfl 4 rfl ?_
          refine gB_Mdl_sTime C d_Mdl_rise_122 tw_773  ?_
          refine z_iload_n C d_Mdl_rise_125 rfl 2 rfl ?_
          refine z_iconst C (v := 1) d_Mdl_rise_126 (by decide) ?_
          refine z_iadd C d_Mdl_rise_127 ?_
          refine lB_m_sTime C (q := (4 * f + (k + 1))) d_Mdl_rise_128  ((nadd (a := 4 * f + k) (b := 1) rfl (rfl : (1 : Int32) = nI 1)).trans (by rw [Nat.add_assoc])) (by omega) ?_
          refine z_ri (x' := (σ.1 62 f 0 (k + 1))) hRk1.1 ?_
          refine z_aload_n C d_Mdl_rise_129 rfl 4 rfl ?_
          refine gB_Mdl_sTime C d_Mdl_rise_130 tw_773  ?_
          refine z_iload_n C d_Mdl_rise_133 rfl 2 rfl ?_
          refine lB_m_sTime C (q := (4 * f + k)) d_Mdl_rise_134  rfl (by omega) ?_
          refine z_ri (x' := (σ.1 62 f 0 k)) hRk.1 ?_
          refine z_isub C d_Mdl_rise_135 ?_
          refine z_i2l C d_Mdl_rise_136 ?_
          refine zf_Sl C d_Mdl_rise_137 (c_Mdl_between l D ca b τ (σ.1 63 f 0 k).toInt64 (σ.1 63 f 0 (k + 1)).toInt64 (w - (σ.1 62 f 0 k)).toInt64 ((σ.1 62 f 0 (k + 1)) - (σ.1 62 f 0 k)).toInt64 hsp) tw_1012 tw_1013 tw_10 tw_1014 pd_Mdl_between ⟨⟨by decide, by decide⟩, rfl, rfl, by decide, by decide⟩ (Nat.le_of_ble_eq_true rfl) rfl ?_
          refine z_lstore C d_Mdl_rise_140 (by decide) [(5, .long (btw (σ.1 63 f 0 k).toInt64 (σ.1 63 f 0 (k + 1)).toInt64 (w - (σ.1 62 f 0 k)).toInt64 ((σ.1 62 f 0 (k + 1)) - (σ.1 62 f 0 k)).toInt64)), (7, .long (σ.1 64 f 0 k).toInt64), (3, .int (nI (4 * f + k))), (4, .int (nI (4 * f + (fsz σ f - 1)))), (0, .ref (b + 0)), (1, .int (nI f)), (2, .int w)] rfl ?_
          refine z_aload_n C d_Mdl_rise_142 rfl 4 rfl ?_
          refine gB_Mdl_sY C d_Mdl_rise_143 tw_775  ?_
          refine z_iload_n C d_Mdl_rise_146 rfl 2 rfl ?_
          refine lB_m_sY C (q := (4 * f + k)) d_Mdl_rise_147 rfl (by omega) ?_
          refine z_rl (x' := (σ.1 64 f 0 k).toInt64) hRk.2.2.1 ?_
          refine z_aload_n C d_Mdl_rise_148 rfl 4 rfl ?_
          refine gB_Mdl_sY C d_Mdl_rise_149 tw_775  ?_
          refine z_iload_n C d_Mdl_rise_152 rfl 2 rfl ?_
          refine z_iconst C (v := 1) d_Mdl_rise_153 (by decide) ?_
          refine z_iadd C d_Mdl_rise_154 ?_
          refine lB_m_sY C (q := (4 * f + (k + 1))) d_Mdl_rise_155 ((nadd (a := 4 * f + k) (b := 1) rfl (rfl : (1 : Int32) = nI 1)).trans (by rw [Nat.add_assoc])) (by omega) ?_
          refine z_rl (x' := (σ.1 64 f 0 (k + 1)).toInt64) hRk1.2.2.1 ?_
          refine z_iload_n C d_Mdl_rise_156 rfl 6 rfl ?_
          refine z_aload_n C d_Mdl_rise_157 rfl 4 rfl ?_
          refine gB_Mdl_sTime C d_Mdl_rise_158 tw_773  ?_
          refine z_iload_n C d_Mdl_rise_161 rfl 2 rfl ?_
          refine lB_m_sTime C (q := (4 * f + k)) d_Mdl_rise_162  rfl (by omega) ?_
          refine z_ri (x' := (σ.1 62 f 0 k)) hRk.1 ?_
          refine z_isub C d_Mdl_rise_163 ?_
          refine z_i2l C d_Mdl_rise_164 ?_
          refine z_aload_n C d_Mdl_rise_165 rfl 4 rfl ?_
          refine gB_Mdl_sTime C d_Mdl_rise_166 tw_773  ?_
          refine z_iload_n C d_Mdl_rise_169 rfl 2 rfl ?_
          refine z_iconst C (v := 1) d_Mdl_rise_170 (by decide) ?_
          refine z_iadd C d_Mdl_rise_171 ?_
          refine lB_m_sTime C (q := (4 * f + (k + 1))) d_Mdl_rise_172  ((nadd (a := 4 * f + k) (b := 1) rfl (rfl : (1 : Int32) = nI 1)).trans (by rw [Nat.add_assoc])) (by omega) ?_
          refine z_ri (x' := (σ.1 62 f 0 (k + 1))) hRk1.1 ?_
          refine z_aload_n C d_Mdl_rise_173 rfl 4 rfl ?_
          refine gB_Mdl_sTime C d_Mdl_rise_174 tw_773  ?_
          refine z_iload_n C d_Mdl_rise_177 rfl 2 rfl ?_
          refine lB_m_sTime C (q := (4 * f + k)) d_Mdl_rise_178  rfl (by omega) ?_
          refine z_ri (x' := (σ.1 62 f 0 k)) hRk.1 ?_
          refine z_isub C d_Mdl_rise_179 ?_
          refine z_i2l C d_Mdl_rise_180 ?_
          refine zf_Sl C d_Mdl_rise_181 (c_Mdl_between l D ca b τ (σ.1 64 f 0 k).toInt64 (σ.1 64 f 0 (k + 1)).toInt64 (w - (σ.1 62 f 0 k)).toInt64 ((σ.1 62 f 0 (k + 1)) - (σ.1 62 f 0 k)).toInt64 hsp) tw_1012 tw_1013 tw_10 tw_1014 pd_Mdl_between ⟨⟨by decide, by decide⟩, rfl, rfl, by decide, by decide⟩ (Nat.le_of_ble_eq_true rfl) rfl ?_
          refine z_lstore C d_Mdl_rise_184 (by decide) [(7, .long (btw (σ.1 64 f 0 k).toInt64 (σ.1 64 f 0 (k + 1)).toInt64 (w - (σ.1 62 f 0 k)).toInt64 ((σ.1 62 f 0 (k + 1)) - (σ.1 62 f 0 k)).toInt64)), (5, .long (btw (σ.1 63 f 0 k).toInt64 (σ.1 63 f 0 (k + 1)).toInt64 (w - (σ.1 62 f 0 k)).toInt64 ((σ.1 62 f 0 (k + 1)) - (σ.1 62 f 0 k)).toInt64)), (3, .int (nI (4 * f + k))), (4, .int (nI (4 * f + (fsz σ f - 1)))), (0, .ref (b + 0)), (1, .int (nI f)), (2, .int w)] rfl ?_
          refine z_aload_n C d_Mdl_rise_186 rfl 4 rfl ?_
          refine gB_Mdl_px C d_Mdl_rise_187 tw_777  ?_
          refine z_lstore C d_Mdl_rise_190 (by decide) [(9, .long (τ.2.2 138 0 0 0)), (7, .long (btw (σ.1 64 f 0 k).toInt64 (σ.1 64 f 0 (k + 1)).toInt64 (w - (σ.1 62 f 0 k)).toInt64 ((σ.1 62 f 0 (k + 1)) - (σ.1 62 f 0 k)).toInt64)), (5, .long (btw (σ.1 63 f 0 k).toInt64 (σ.1 63 f 0 (k + 1)).toInt64 (w - (σ.1 62 f 0 k)).toInt64 ((σ.1 62 f 0 (k + 1)) - (σ.1 62 f 0 k)).toInt64)), (3, .int (nI (4 * f + k))), (4, .int (nI (4 * f + (fsz σ f - 1)))), (0, .ref (b + 0)), (1, .int (nI f)), (2, .int w)] rfl ?_
          refine z_aload_n C d_Mdl_rise_192 rfl 5 rfl ?_
          refine gB_Mdl_py C d_Mdl_rise_193 tw_778  ?_
          refine z_lstore C d_Mdl_rise_196 (by decide) [(11, .long (τ.2.2 139 0 0 0)), (9, .long (τ.2.2 138 0 0 0)), (7, .long (btw (σ.1 64 f 0 k).toInt64 (σ.1 64 f 0 (k + 1)).toInt64 (w - (σ.1 62 f 0 k)).toInt64 ((σ.1 62 f 0 (k + 1)) - (σ.1 62 f 0 k)).toInt64)), (5, .long (btw (σ.1 63 f 0 k).toInt64 (σ.1 63 f 0 (k + 1)).toInt64 (w - (σ.1 62 f 0 k)).toInt64 ((σ.1 62 f 0 (k + 1)) - (σ.1 62 f 0 k)).toInt64)), (3, .int (nI (4 * f + k))), (4, .int (nI (4 * f + (fsz σ f - 1)))), (0, .ref (b + 0)), (1, .int (nI f)), (2, .int w)] rfl ?_
          refine z_aload_n C d_Mdl_rise_198 rfl 6 rfl ?_
          refine gB_Mdl_sTurn C d_Mdl_rise_199 tw_776  ?_
          refine z_iload_n C d_Mdl_rise_202 rfl 4 rfl ?_
          refine lB_m_sTurn C (q := (4 * f + k)) d_Mdl_rise_203  rfl (by omega) ?_
          rcases (show ftn σ f k = 0 ∨ ftn σ f k = 1 ∨ ftn σ f k = 2 ∨ ftn σ f k = 3 by omega) with hu | hu | hu | hu
          · refine z_ri (x' := 0) (by rw [hRk.2.2.2, hu1.1, hu]; rfl) ?_
            refine z_istore C d_Mdl_rise_204 (by decide) [(13, .int 0), (11, .long (τ.2.2 139 0 0 0)), (9, .long (τ.2.2 138 0 0 0)), (7, .long (btw (σ.1 64 f 0 k).toInt64 (σ.1 64 f 0 (k + 1)).toInt64 (w - (σ.1 62 f 0 k)).toInt64 ((σ.1 62 f 0 (k + 1)) - (σ.1 62 f 0 k)).toInt64)), (5, .long (btw (σ.1 63 f 0 k).toInt64 (σ.1 63 f 0 (k + 1)).toInt64 (w - (σ.1 62 f 0 k)).toInt64 ((σ.1 62 f 0 (k + 1)) - (σ.1 62 f 0 k)).toInt64)), (3, .int (nI (4 * f + k))), (4, .int (nI (4 * f + (fsz σ f - 1)))), (0, .ref (b + 0)), (1, .int (nI f)), (2, .int w)] rfl ?_
            refine z_aload_n C d_Mdl_rise_206 rfl 7 rfl ?_
            refine z_lload C d_Mdl_rise_207 4 rfl ?_
            refine z_iload C d_Mdl_rise_209 0 rfl ?_
            refine z_if_ne C 219 d_Mdl_rise_211 (by decide) (fun h211 => False.elim (absurd (by decide) h211)) (fun h211 => ?_)
            refine z_lload C d_Mdl_rise_214 2 rfl ?_
            refine z_goto C 245 d_Mdl_rise_216 (by decide) ?_
            refine z_ladd C d_Mdl_rise_245 ?_
            refine pB_Mdl_px C d_Mdl_rise_246 tw_777  ?_
            refine z_aload_n C d_Mdl_rise_249 rfl 7 rfl ?_
            refine z_lload C d_Mdl_rise_250 3 rfl ?_
            refine z_iload C d_Mdl_rise_252 0 rfl ?_
            refine z_if_ne C 262 d_Mdl_rise_254 (by decide) (fun h254 => False.elim (absurd (by decide) h254)) (fun h254 => ?_)
            refine z_lload C d_Mdl_rise_257 1 rfl ?_
            refine z_goto C 288 d_Mdl_rise_259 (by decide) ?_
            refine z_ladd C d_Mdl_rise_288 ?_
            refine pB_Mdl_py C d_Mdl_rise_289 tw_778  ?_
            refine z_iconst C (v := 1) d_Mdl_rise_292 (by decide) ?_
            refine hret _ _ _ _ d_Mdl_rise_293 (by decide) (Or.inr ⟨hnm, rfl, (by repeat (first | exact Off.rf | assumption | refine Off.us ?_ (by decide) | refine Off.uA ?_ (by decide) | refine Off.uL ?_ (by decide) | refine Off.uE ?_ (by decide))), ?_⟩)
            exact px_up (P := τ.2.2 138 0 0 0) (Q := τ.2.2 139 0 0 0) hB hpx hls (by omega) hbx hby (by simp [upL]) (by simp [upL]) (by simp [hu])
          · refine z_ri (x' := 1) (by rw [hRk.2.2.2, hu1.1, hu]; rfl) ?_
            refine z_istore C d_Mdl_rise_204 (by decide) [(13, .int 1), (11, .long (τ.2.2 139 0 0 0)), (9, .long (τ.2.2 138 0 0 0)), (7, .long (btw (σ.1 64 f 0 k).toInt64 (σ.1 64 f 0 (k + 1)).toInt64 (w - (σ.1 62 f 0 k)).toInt64 ((σ.1 62 f 0 (k + 1)) - (σ.1 62 f 0 k)).toInt64)), (5, .long (btw (σ.1 63 f 0 k).toInt64 (σ.1 63 f 0 (k + 1)).toInt64 (w - (σ.1 62 f 0 k)).toInt64 ((σ.1 62 f 0 (k + 1)) - (σ.1 62 f 0 k)).toInt64)), (3, .int (nI (4 * f + k))), (4, .int (nI (4 * f + (fsz σ f - 1)))), (0, .ref (b + 0)), (1, .int (nI f)), (2, .int w)] rfl ?_
            refine z_aload_n C d_Mdl_rise_206 rfl 7 rfl ?_
            refine z_lload C d_Mdl_rise_207 4 rfl ?_
            refine z_iload C d_Mdl_rise_209 0 rfl ?_
            refine z_if_ne C 219 d_Mdl_rise_211 (by decide) (fun h211 => ?_) (fun h211 => False.elim (absurd h211 (by decide)))
            refine z_iload C d_Mdl_rise_219 0 rfl ?_
            refine z_iconst C (v := 1) d_Mdl_rise_221 (by decide) ?_
            refine z_icmp_ne C 231 d_Mdl_rise_222 (by decide) (fun h222 => False.elim (absurd (by decide) (h222))) (fun h222 => ?_)
            refine z_lload C d_Mdl_rise_225 1 rfl ?_
            refine z_lneg C d_Mdl_rise_227 ?_
            refine z_goto C 245 d_Mdl_rise_228 (by decide) ?_
            refine z_ladd C d_Mdl_rise_245 ?_
            refine pB_Mdl_px C d_Mdl_rise_246 tw_777  ?_
            refine z_aload_n C d_Mdl_rise_249 rfl 7 rfl ?_
            refine z_lload C d_Mdl_rise_250 3 rfl ?_
            refine z_iload C d_Mdl_rise_252 0 rfl ?_
            refine z_if_ne C 262 d_Mdl_rise_254 (by decide) (fun h254 => ?_) (fun h254 => False.elim (absurd h254 (by decide)))
            refine z_iload C d_Mdl_rise_262 0 rfl ?_
            refine z_iconst C (v := 1) d_Mdl_rise_264 (by decide) ?_
            refine z_icmp_ne C 273 d_Mdl_rise_265 (by decide) (fun h265 => False.elim (absurd (by decide) (h265))) (fun h265 => ?_)
            refine z_lload C d_Mdl_rise_268 2 rfl ?_
            refine z_goto C 288 d_Mdl_rise_270 (by decide) ?_
            refine z_ladd C d_Mdl_rise_288 ?_
            refine pB_Mdl_py C d_Mdl_rise_289 tw_778  ?_
            refine z_iconst C (v := 1) d_Mdl_rise_292 (by decide) ?_
            refine hret _ _ _ _ d_Mdl_rise_293 (by decide) (Or.inr ⟨hnm, rfl, (by repeat (first | exact Off.rf | assumption | refine Off.us ?_ (by decide) | refine Off.uA ?_ (by decide) | refine Off.uL ?_ (by decide) | refine Off.uE ?_ (by decide))), ?_⟩)
            exact px_up (P := -(τ.2.2 139 0 0 0)) (Q := τ.2.2 138 0 0 0) hB hpx hls (by omega) hbx hby (by simp [upL]) (by simp [upL]) (by simp [hu])
          · refine z_ri (x' := 2) (by rw [hRk.2.2.2, hu1.1, hu]; rfl) ?_
            refine z_istore C d_Mdl_rise_204 (by decide) [(13, .int 2), (11, .long (τ.2.2 139 0 0 0)), (9, .long (τ.2.2 138 0 0 0)), (7, .long (btw (σ.1 64 f 0 k).toInt64 (σ.1 64 f 0 (k + 1)).toInt64 (w - (σ.1 62 f 0 k)).toInt64 ((σ.1 62 f 0 (k + 1)) - (σ.1 62 f 0 k)).toInt64)), (5, .long (btw (σ.1 63 f 0 k).toInt64 (σ.1 63 f 0 (k + 1)).toInt64 (w - (σ.1 62 f 0 k)).toInt64 ((σ.1 62 f 0 (k + 1)) - (σ.1 62 f 0 k)).toInt64)), (3, .int (nI (4 * f + k))), (4, .int (nI (4 * f + (fsz σ f - 1)))), (0, .ref (b + 0)), (1, .int (nI f)), (2, .int w)] rfl ?_
            refine z_aload_n C d_Mdl_rise_206 rfl 7 rfl ?_
            refine z_lload C d_Mdl_rise_207 4 rfl ?_
            refine z_iload C d_Mdl_rise_209 0 rfl ?_
            refine z_if_ne C 219 d_Mdl_rise_211 (by decide) (fun h211 => ?_) (fun h211 => False.elim (absurd h211 (by decide)))
            refine z_iload C d_Mdl_rise_219 0 rfl ?_
            refine z_iconst C (v := 1) d_Mdl_rise_221 (by decide) ?_
            refine z_icmp_ne C 231 d_Mdl_rise_222 (by decide) (fun h222 => ?_) (fun h222 => False.elim (absurd (h222) (by decide)))
            refine z_iload C d_Mdl_rise_231 0 rfl ?_
            refine z_iconst C (v := 2) d_Mdl_rise_233 (by decide) ?_
            refine z_icmp_ne C 243 d_Mdl_rise_234 (by decide) (fun h234 => False.elim (absurd (by decide) (h234))) (fun h234 => ?_)
            refine z_lload C d_Mdl_rise_237 2 rfl ?_
            refine z_lneg C d_Mdl_rise_239 ?_
            refine z_goto C 245 d_Mdl_rise_240 (by decide) ?_
            refine z_ladd C d_Mdl_rise_245 ?_
            refine pB_Mdl_px C d_Mdl_rise_246 tw_777  ?_
            refine z_aload_n C d_Mdl_rise_249 rfl 7 rfl ?_
            refine z_lload C d_Mdl_rise_250 3 rfl ?_
            refine z_iload C d_Mdl_rise_252 0 rfl ?_
            refine z_if_ne C 262 d_Mdl_rise_254 (by decide) (fun h254 => ?_) (fun h254 => False.elim (absurd h254 (by decide)))
            refine z_iload C d_Mdl_rise_262 0 rfl ?_
            refine z_iconst C (v := 1) d_Mdl_rise_264 (by decide) ?_
            refine z_icmp_ne C 273 d_Mdl_rise_265 (by decide) (fun h265 => ?_) (fun h265 => False.elim (absurd (h265) (by decide)))
            refine z_iload C d_Mdl_rise_273 0 rfl ?_
            refine z_iconst C (v := 2) d_Mdl_rise_275 (by decide) ?_
            refine z_icmp_ne C 285 d_Mdl_rise_276 (by decide) (fun h276 => False.elim (absurd (by decide) (h276))) (fun h276 => ?_)
            refine z_lload C d_Mdl_rise_279 1 rfl ?_
            refine z_lneg C d_Mdl_rise_281 ?_
            refine z_goto C 288 d_Mdl_rise_282 (by decide) ?_
            refine z_ladd C d_Mdl_rise_288 ?_
            refine pB_Mdl_py C d_Mdl_rise_289 tw_778  ?_
            refine z_iconst C (v := 1) d_Mdl_rise_292 (by decide) ?_
            refine hret _ _ _ _ d_Mdl_rise_293 (by decide) (Or.inr ⟨hnm, rfl, (by repeat (first | exact Off.rf | assumption | refine Off.us ?_ (by decide) | refine Off.uA ?_ (by decide) | refine Off.uL ?_ (by decide) | refine Off.uE ?_ (by decide))), ?_⟩)
            exact px_up (P := -(τ.2.2 138 0 0 0)) (Q := -(τ.2.2 139 0 0 0)) hB hpx hls (by omega) hbx hby (by simp [upL]) (by simp [upL]) (by simp [hu])
          · refine z_ri (x' := 3) (by rw [hRk.2.2.2, hu1.1, hu]; rfl) ?_
            refine z_istore C d_Mdl_rise_204 (by decide) [(13, .int 3), (11, .long (τ.2.2 139 0 0 0)), (9, .long (τ.2.2 138 0 0 0)), (7, .long (btw (σ.1 64 f 0 k).toInt64 (σ.1 64 f 0 (k + 1)).toInt64 (w - (σ.1 62 f 0 k)).toInt64 ((σ.1 62 f 0 (k + 1)) - (σ.1 62 f 0 k)).toInt64)), (5, .long (btw (σ.1 63 f 0 k).toInt64 (σ.1 63 f 0 (k + 1)).toInt64 (w - (σ.1 62 f 0 k)).toInt64 ((σ.1 62 f 0 (k + 1)) - (σ.1 62 f 0 k)).toInt64)), (3, .int (nI (4 * f + k))), (4, .int (nI (4 * f + (fsz σ f - 1)))), (0, .ref (b + 0)), (1, .int (nI f)), (2, .int w)] rfl ?_
            refine z_aload_n C d_Mdl_rise_206 rfl 7 rfl ?_
            refine z_lload C d_Mdl_rise_207 4 rfl ?_
            refine z_iload C d_Mdl_rise_209 0 rfl ?_
            refine z_if_ne C 219 d_Mdl_rise_211 (by decide) (fun h211 => ?_) (fun h211 => False.elim (absurd h211 (by decide)))
            refine z_iload C d_Mdl_rise_219 0 rfl ?_
            refine z_iconst C (v := 1) d_Mdl_rise_221 (by decide) ?_
            refine z_icmp_ne C 231 d_Mdl_rise_222 (by decide) (fun h222 => ?_) (fun h222 => False.elim (absurd (h222) (by decide)))
            refine z_iload C d_Mdl_rise_231 0 rfl ?_
            refine z_iconst C (v := 2) d_Mdl_rise_233 (by decide) ?_
            refine z_icmp_ne C 243 d_Mdl_rise_234 (by decide) (fun h234 => ?_) (fun h234 => False.elim (absurd (h234) (by decide)))
            refine z_lload C d_Mdl_rise_243 1 rfl ?_
            refine z_ladd C d_Mdl_rise_245 ?_
            refine pB_Mdl_px C d_Mdl_rise_246 tw_777  ?_
            refine z_aload_n C d_Mdl_rise_249 rfl 7 rfl ?_
            refine z_lload C d_Mdl_rise_250 3 rfl ?_
            refine z_iload C d_Mdl_rise_252 0 rfl ?_
            refine z_if_ne C 262 d_Mdl_rise_254 (by decide) (fun h254 => ?_) (fun h254 => False.elim (absurd h254 (by decide)))
            refine z_iload C d_Mdl_rise_262 0 rfl ?_
            refine z_iconst C (v := 1) d_Mdl_rise_264 (by decide) ?_
            refine z_icmp_ne C 273 d_Mdl_rise_265 (by decide) (fun h265 => ?_) (fun h265 => False.elim (absurd (h265) (by decide)))
            refine z_iload C d_Mdl_rise_273 0 rfl ?_
            refine z_iconst C (v := 2) d_Mdl_rise_275 (by decide) ?_
            refine z_icmp_ne C 285 d_Mdl_rise_276 (by decide) (fun h276 => ?_) (fun h276 => False.elim (absurd (h276) (by decide)))
            refine z_lload C d_Mdl_rise_285 2 rfl ?_
            refine z_lneg C d_Mdl_rise_287 ?_
            refine z_ladd C d_Mdl_rise_288 ?_
            refine pB_Mdl_py C d_Mdl_rise_289 tw_778  ?_
            refine z_iconst C (v := 1) d_Mdl_rise_292 (by decide) ?_
            refine hret _ _ _ _ d_Mdl_rise_293 (by decide) (Or.inr ⟨hnm, rfl, (by repeat (first | exact Off.rf | assumption | refine Off.us ?_ (by decide) | refine Off.uA ?_ (by decide) | refine Off.uL ?_ (by decide) | refine Off.uE ?_ (by decide))), ?_⟩)
            exact px_up (P := τ.2.2 139 0 0 0) (Q := -(τ.2.2 138 0 0 0)) hB hpx hls (by omega) hbx hby (by simp [upL]) (by simp [upL]) (by simp [hu])
      · have hno : fIdx σ f (fsz σ f) w = -1 := by
          unfold fIdx fBeh
          rw [if_neg (show ¬ fsz σ f = 0 by omega), if_neg h43, if_neg (by decide)]
        refine z_iconst C (v := 0) d_Mdl_rise_46 (by decide) ?_
        refine hret _ _ _ _ d_Mdl_rise_47 (by decide) (Or.inl ⟨?_, rfl, rfl⟩)
        first | exact hno | (unfold fIdx fBeh; rw [if_pos hz0, if_neg (by decide)])
