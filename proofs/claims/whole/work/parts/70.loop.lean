/-! The law's loop, and what it does before the loop. -/
theorem lim {N t : Nat} (hN : N ≤ 3072) (ht : 6 * t ≤ N) (h : ¬ (nI N - 6 < nI (6 * t))) : 6 * t + 6 ≤ N := by
  by_cases h6 : 6 ≤ N
  · have e : nI N - 6 = nI (N - 6) := by
      have h1 : nI N = nI (N - 6) + 6 := by rw [show (6 : Int32) = nI 6 from rfl, nI_add, show N - 6 + 6 = N by omega]
      rw [h1]
      exact Int32.add_sub_cancel _ _
    rw [e] at h
    exact Nat.le_of_not_lt fun h2 => h (nI_lt (by omega) (by omega))
  · have h0 : t = 0 := by omega
    subst h0
    have h9 : N = 0 ∨ N = 1 ∨ N = 2 ∨ N = 3 ∨ N = 4 ∨ N = 5 := by omega
    rcases h9 with rfl | rfl | rfl | rfl | rfl | rfl <;> exact absurd (by decide) h
set_option maxRecDepth 100000 in
set_option maxHeartbeats 4000000 in
theorem law_loop {l : Launch} {D : va_G} {ca : Nat → ClassId} {B a N : Nat} {X : Zx} {y0 : MethodName} {c0 : ByteArray} {n0 : Nat} {r0 : Option FieldType} {xs : Nat → Int32} (hl : l.stackTraces = false) (C : Cx D clsB (tyL ca) code 10 "RobotBusLaw" (Cond.code y0 c0 n0 r0 :: gtb) X) (hE : ExA X.2.2.1 B) (hX : va_X a N xs X.2.2.1 X.2.2.1.heap) (ha : a < X.2.2.1.heap.size) (hB : X.2.2.1.heap.size ≤ B) (hN : N ≤ 3072)
    (hend : ∀ (k sl : Nat) (M : Nat → va_E) (L' : List (Nat × Value)), k ≤ 632047 → sl ≤ 7199964 → Z l D clsB B 215 RL 10 X k sl M 1669 L' [.int 1]) : ∀ m t, m + t = 513 → 6 * t ≤ N → ∀ (σ τ : Sg) (xo : Nat → Int64) (yo : Nat → UInt64) (e : Int32), Rl e (σ.1 3 0 0 0) (σ.1 4 0 0 0) σ τ → Z l D clsB B 215 RL 10 X (215 + t) (2039 + 6 * t) (LM B ca σ τ xo yo) 28 (LLw a B t) [] := by
  intro m
  induction m with
  | zero => intro t h1 h2; omega
  | succ m ih =>
    intro t hm ht0 σ τ xo yo e h
    refine z_iload C d_law_28 0 rfl ?_
    refine z_aload_n C d_law_30 rfl 5 rfl ?_
    refine z_slen C hX ha hB d_law_31 ?_
    refine z_bipush C (v := 6) d_law_32 (by decide) ?_
    refine z_isub C d_law_34 ?_
    refine z_icmp_gt C 1668 d_law_35 (by decide) (fun _ => ?_) (fun h9 => ?_)
    · refine z_iconst C (v := 1) d_law_1668 (by decide) ?_
      exact hend _ _ _ _ (by omega) (by omega)
    · have ht : 6 * t + 6 ≤ N := lim hN ht0 h9
      refine z_aload_n C d_law_38 rfl 5 rfl ?_
      refine z_iload C d_law_39 0 rfl ?_
      refine z_sld C hX ha hB d_law_41 (vp_in_nI (by omega) (by omega)) ?_
      refine z_bipush C (v := 31) d_law_42 (by decide) ?_
      refine z_iand C d_law_44 ?_
      have kk : ∀ (σ' τ' : Sg) (x' : Nat → Int64) (y' : Nat → UInt64) (e' : Int32), Rl e' (σ'.1 3 0 0 0) (σ'.1 4 0 0 0) σ' τ' → Z l D clsB B 215 RL 10 X (215 + t + 1) (2039 + 6 * t + 6) (LM B ca σ' τ' x' y') 1662 (LLw a B t) [] := by
        intro σ' τ' x' y' e' h'
        refine z_iinc C d_law_1662 0 rfl (v := nI (6 * (t + 1))) (nI_add (6 * t) 6) (by decide) (LLw a B (t + 1)) rfl ?_
        refine z_goto C 28 d_law_1665 (by decide) ?_
        have h2 := ih (t + 1) (by omega) (by omega) σ' τ' x' y' e' h'
        rw [show 2039 + 6 * (t + 1) = 2039 + 6 * t + 6 by omega] at h2
        exact h2
      have hk : 215 + t + 1 ≤ 632047 := by omega
      have hs : 2039 + 6 * t + 6 ≤ 7199964 := by omega
      generalize xs (nI (6 * t)).toNatClampNeg &&& 31 = v
      by_cases hv : v.toInt < 0 ∨ 19 < v.toInt
      · refine z_tableOut C 1662 d_law_45 hv (by decide) ?_
        exact z_widen (Nat.le_succ _) (Nat.le_add_right _ 6) (kk σ τ xo yo e h)
      · have h20 : v.toInt = 0 ∨ v.toInt = 1 ∨ v.toInt = 2 ∨ v.toInt = 3 ∨ v.toInt = 4 ∨ v.toInt = 5 ∨ v.toInt = 6 ∨ v.toInt = 7 ∨ v.toInt = 8 ∨ v.toInt = 9 ∨ v.toInt = 10 ∨ v.toInt = 11 ∨ v.toInt = 12 ∨ v.toInt = 13 ∨ v.toInt = 14 ∨ v.toInt = 15 ∨ v.toInt = 16 ∨ v.toInt = 17 ∨ v.toInt = 18 ∨ v.toInt = 19 := by omega
        rcases h20 with h0 | h0 | h0 | h0 | h0 | h0 | h0 | h0 | h0 | h0 | h0 | h0 | h0 | h0 | h0 | h0 | h0 | h0 | h0 | h0
        · refine z_tableIn C 140 d_law_45 (by omega) (by omega) (off := 95) (by rw [h0]; rfl) (by decide) ?_
          exact law_join hl C hE hX ha hB ht hN hk hs h kk
        · refine z_tableIn C 196 d_law_45 (by omega) (by omega) (off := 151) (by rw [h0]; rfl) (by decide) ?_
          exact law_leave hl C hE hX ha hB ht hN hk hs h kk
        · refine z_tableIn C 252 d_law_45 (by omega) (by omega) (off := 207) (by rw [h0]; rfl) (by decide) ?_
          exact law_latch hl C hE hX ha hB ht hN hk hs h kk
        · refine z_tableIn C 336 d_law_45 (by omega) (by omega) (off := 291) (by rw [h0]; rfl) (by decide) ?_
          exact law_subscribe hl C hE hX ha hB ht hN hk hs h kk
        · refine z_tableIn C 416 d_law_45 (by omega) (by omega) (off := 371) (by rw [h0]; rfl) (by decide) ?_
          exact law_unsubscribe hl C hE hX ha hB ht hN hk hs h kk
        · refine z_tableIn C 484 d_law_45 (by omega) (by omega) (off := 439) (by rw [h0]; rfl) (by decide) ?_
          exact law_publish hl C hE hX ha hB ht hN hk hs h kk
        · refine z_tableIn C 564 d_law_45 (by omega) (by omega) (off := 519) (by rw [h0]; rfl) (by decide) ?_
          exact law_act hl C hE hX ha hB ht hN hk hs h kk
        · refine z_tableIn C 668 d_law_45 (by omega) (by omega) (off := 623) (by rw [h0]; rfl) (by decide) ?_
          exact law_offer hl C hE hX ha hB ht hN hk hs h kk
        · refine z_tableIn C 772 d_law_45 (by omega) (by omega) (off := 727) (by rw [h0]; rfl) (by decide) ?_
          exact law_call hl C hE hX ha hB ht hN hk hs h kk
        · refine z_tableIn C 840 d_law_45 (by omega) (by omega) (off := 795) (by rw [h0]; rfl) (by decide) ?_
          exact law_tick hl C hE hX ha hB ht hN hk hs h kk
        · refine z_tableIn C 896 d_law_45 (by omega) (by omega) (off := 851) (by rw [h0]; rfl) (by decide) ?_
          exact law_variable hl C hE hX ha hB ht hN hk hs h kk
        · refine z_tableIn C 964 d_law_45 (by omega) (by omega) (off := 919) (by rw [h0]; rfl) (by decide) ?_
          exact law_queued hl C hE hX ha hB ht hN hk hs h kk
        · refine z_tableIn C 1056 d_law_45 (by omega) (by omega) (off := 1011) (by rw [h0]; rfl) (by decide) ?_
          exact law_keep hl C hE hX ha hB ht hN hk hs h kk
        · refine z_tableIn C 1140 d_law_45 (by omega) (by omega) (off := 1095) (by rw [h0]; rfl) (by decide) ?_
          exact law_play hl C hE hX ha hB ht hN hk hs h kk
        · refine z_tableIn C 1196 d_law_45 (by omega) (by omega) (off := 1151) (by rw [h0]; rfl) (by decide) ?_
          exact law_empty hl C hE hX ha hB ht hN hk hs h kk
        · refine z_tableIn C 1240 d_law_45 (by omega) (by omega) (off := 1195) (by rw [h0]; rfl) (by decide) ?_
          exact law_mount hl C hE hX ha hB ht hN hk hs h kk
        · refine z_tableIn C 1308 d_law_45 (by omega) (by omega) (off := 1263) (by rw [h0]; rfl) (by decide) ?_
          exact law_sample hl C hE hX ha hB ht hN hk hs h kk
        · refine z_tableIn C 1432 d_law_45 (by omega) (by omega) (off := 1387) (by rw [h0]; rfl) (by decide) ?_
          exact law_locate hl C hE hX ha hB ht hN hk hs h kk
        · refine z_tableIn C 1565 d_law_45 (by omega) (by omega) (off := 1520) (by rw [h0]; rfl) (by decide) ?_
          exact law_lastY hl C hE hX ha hB ht hN hk hs h kk
        · refine z_tableIn C 1606 d_law_45 (by omega) (by omega) (off := 1561) (by rw [h0]; rfl) (by decide) ?_
          exact law_count hl C hE hX ha hB ht hN hk hs h kk
set_option maxRecDepth 100000 in
set_option maxHeartbeats 4000000 in
theorem law_start {l : Launch} {D : va_G} {ca : Nat → ClassId} {B a N : Nat} {X : Zx} {y0 : MethodName} {c0 : ByteArray} {n0 : Nat} {r0 : Option FieldType} {xs : Nat → Int32} (hl : l.stackTraces = false) (C : Cx D clsB (tyL ca) code 10 "RobotBusLaw" (Cond.code y0 c0 n0 r0 :: gtb) X) (hE : ExA X.2.2.1 B) (hX : va_X a N xs X.2.2.1 X.2.2.1.heap) (ha : a < X.2.2.1.heap.size) (hB : X.2.2.1.heap.size ≤ B) (hN : N ≤ 3072)
    (hend : ∀ (k sl : Nat) (M : Nat → va_E) (L' : List (Nat × Value)), k ≤ 632047 → sl ≤ 7199964 → Z l D clsB B 215 RL 10 X k sl M 1669 L' [.int 1]) (hI : ExI X.2.2.1) (hBs : X.2.2.1.heap.size = B) {M : Nat → va_E} : Z l D clsB B 0 RL 10 X 0 0 M 0 [(0, .ref a)] [] := by
  refine y_new C (T := F_Bus) (N := 13) (ci := 0) (fs := [.null, .null, .null, .null, .null, .null, .int 0, .int 0, .int 0, .int 0, .int 0, .int 0, .double FP.dconst0]) d_law_0 (List.mem_cons_of_mem _ tw_21) (List.mem_cons_of_mem _ tw_22) (List.mem_cons_of_mem _ tw_1) (fun w h => List.mem_cons_of_mem _ (in_Bus w h)) t_Bus tk_Bus rfl (by decide +kernel) ⟨by omega, Or.inr rfl⟩ ⟨by decide, by decide⟩ ?_
  refine z_dup C d_law_3 rfl ?_
  refine y_initP (n := 0) C d_law_4 (c_Bus_init l D ca) hI tw_23 tw_24 tw_1 tw_25 ⟨rfl, pd_Bus_init.2⟩ ⟨⟨by decide, by decide⟩, rfl, rfl, by decide, by decide⟩ (Nat.le_of_ble_eq_true rfl) (by omega) ⟨by omega, Or.inl (by decide)⟩ rfl (by decide) ?_
  refine z_congr (n := 182) (M' := enc B ca SB σ0) (fun o _ => by rw [if_neg (Nat.not_lt_zero o)]; rfl) ?_
  refine z_astore_n C d_law_7 rfl (by decide) [(1, .ref (B + 0)), (0, .ref a)] rfl ?_
  refine y_new (n := 182) C (T := F_Mdl) (N := 46) (ci := 9) (fs := [.int 0, .int 0, .null, .null, .null, .null, .null, .null, .null, .null, .null, .null, .null, .null, .null, .null, .null, .null, .null, .null, .null, .null, .null, .null, .null, .null, .int 0, .int 0, .int 0, .int 0, .int 0, .int 0, .null, .null, .null, .null, .null, .null, .long 0, .long 0, .double FP.dconst0, .int 0, .int 0, .int 0, .int 0, .int 0]) d_law_8 (List.mem_cons_of_mem _ tw_733) (List.mem_cons_of_mem _ tw_734) (List.mem_cons_of_mem _ tw_10) (fun w h => List.mem_cons_of_mem _ (in_Mdl w h)) t_Mdl tk_Mdl rfl (by decide +kernel) ⟨by omega, Or.inl (by decide)⟩ ⟨by decide, by decide⟩ ?_
  refine z_dup C d_law_11 rfl ?_
  refine y_initP (n := 182) C d_law_12 (c_Mdl_init l D ca) hI tw_735 tw_736 tw_10 tw_737 ⟨rfl, pd_Mdl_init.2⟩ ⟨⟨by decide, by decide⟩, rfl, rfl, by decide, by decide⟩ (Nat.le_of_ble_eq_true rfl) (by omega) ⟨by omega, Or.inl (by decide)⟩ rfl (by decide) ?_
  refine z_congr (n := 213) (M' := LM B ca σ0 τ0 (fun _ => 0) (fun _ => FP.dconst0)) (fun o ho => ?_) ?_
  · unfold LM
    by_cases h1 : o < 182
    · rw [if_pos h1, if_pos h1, va_up_ne _ _ (by omega)]
    · have h2 : o < 213 := ho
      rw [if_neg h1, if_neg h1, if_pos h2]
  refine z_astore_n C d_law_15 rfl (by decide) [(2, .ref (B + 182)), (1, .ref (B + 0)), (0, .ref a)] rfl ?_
  refine z_iconst C (v := 1) d_law_16 (by decide) ?_
  refine y_newa (n := 213) C (a0 := (1, .inr (.inl (fun _ => 0)))) (N := 1) (t0 := 8) (cA := ca 8) d_law_17 (List.mem_cons_of_mem _ tw_879) rfl rfl (fun _ _ h => h) (by decide) (by decide) (by decide) ⟨by omega, Or.inl (by decide)⟩ ⟨by decide, by decide⟩ ?_
  refine z_astore_n C d_law_19 rfl (by decide) [(3, .ref (B + 213)), (2, .ref (B + 182)), (1, .ref (B + 0)), (0, .ref a)] rfl ?_
  refine z_iconst C (v := 1) d_law_20 (by decide) ?_
  refine y_newa (n := 214) C (a0 := (1, .inr (.inr (.inr (.inl (fun _ => FP.dconst0)))))) (N := 1) (t0 := 9) (cA := ca 9) d_law_21 (List.mem_cons_of_mem _ tw_1025) rfl rfl (fun _ _ h => h) (by decide) (by decide) (by decide) ⟨by omega, Or.inl (by decide)⟩ ⟨by decide, by decide⟩ ?_
  refine z_congr (n := 215) (M' := LM B ca σ0 τ0 (fun _ => 0) (fun _ => FP.dconst0)) (fun o ho => ?_) ?_
  · rw [LM_x, LM_y o ho]
  refine z_astore C d_law_23 (by decide) [(4, .ref (B + 214)), (3, .ref (B + 213)), (2, .ref (B + 182)), (1, .ref (B + 0)), (0, .ref a)] rfl ?_
  refine z_iconst C (v := nI 0) d_law_25 (by decide) ?_
  refine z_istore C d_law_26 (by decide) (LLw a B 0) rfl ?_
  exact law_loop hl C hE hX ha hB hN hend 513 0 rfl (Nat.zero_le _) _ _ _ _ _ rl0
