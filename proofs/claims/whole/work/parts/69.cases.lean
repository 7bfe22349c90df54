abbrev RL : Room := rmK 11 426 632047 7199964
abbrev LLw (a B t : Nat) : List (Nat × Value) := [(5, .int (nI (6 * t))), (4, .ref (B + 214)), (3, .ref (B + 213)), (2, .ref (B + 182)), (1, .ref (B + 0)), (0, .ref a)]
def ob (v : Int32) : Int32 := if v = 0 then 0 else 1
theorem ob_01 (v : Int32) : ob v = 0 ∨ ob v = 1 := by
  unfold ob
  split
  · exact Or.inl rfl
  · exact Or.inr rfl
theorem Rl.bi {e p a : Int32} {σ τ : Sg} (h : Rl e p a σ τ) : BI σ := h.2.2.2.2.2.2.2.2.2.2.2.2.2.2
theorem Rl.fv {e p a : Int32} {σ τ : Sg} (h : Rl e p a σ τ) : FV σ := h.2.2.2.2.2.2.2.2.2.2.2.2.1
theorem Rl.fi {e p a : Int32} {σ τ : Sg} (h : Rl e p a σ τ) : FI σ := h.fv.1
theorem Rl.fp {e p a : Int32} {σ τ : Sg} (h : Rl e p a σ τ) : FP σ := h.fv.2.1
theorem cdL_pos {c : String} : ∀ {ks : List String} {n : Nat}, c ∈ ks → n ≤ cdL c ks n ∧ cdL c ks n < n + ks.length
  | [], _, h => by cases h
  | x :: r, n, h => by
    unfold cdL
    split
    · exact ⟨Nat.le_refl _, by simp⟩
    · rename_i hne
      have h1 := cdL_pos (ks := r) (n := n + 1) ((List.mem_cons.mp h).elim (fun q => absurd q hne) id)
      exact ⟨by omega, by simp; omega⟩
theorem cd_no {ks : List String} {c : String} (hk : ks.length ≤ 3) (hc : c ∈ ks) : ¬ cd ks (.inr c) = 0 := by
  intro h
  have h1 := cdL_pos (n := 1) hc
  have h2 : (nI (cdL c ks 1)).toNatClampNeg = cdL c ks 1 := nI_clamp (by omega)
  have h3 : nI (cdL c ks 1) = 0 := h
  rw [h3] at h2
  have h4 : Int32.toNatClampNeg 0 = 0 := by decide
  omega
theorem cd_I {ks : List String} {r : Out} (hk : ks.length ≤ 3) (ho : OkI ks r) (h : cd ks r = 0) : ∃ v, r = .inl (.int v) := by
  rcases ho with ho | ⟨c, hc, rfl⟩
  · exact ho
  · exact absurd h (cd_no hk hc)
theorem cd_D {ks : List String} {r : Out} (hk : ks.length ≤ 3) (ho : OkD ks r) (h : cd ks r = 0) : ∃ v, r = .inl (.double v) := by
  rcases ho with ho | ⟨c, hc, rfl⟩
  · exact ho
  · exact absurd h (cd_no hk hc)
theorem lg_same (x : Int64) : lg_cmp x x = 0 := by simp [lg_cmp]
section LC
variable {l : Launch} {D : va_G} {ca : Nat → ClassId} {B n : Nat} {R : Room} {nL : Nat} {X : Zx} {k sl : Nat} {pc : Nat} {L : List (Nat × Value)} {st : List Value} {cc : ByteArray} {own : String} {Ts : List Cond} {M : Nat → va_E}
theorem z_scr {a N t j : Nat} {xs : Nat → Int32} (C : Cx D clsB (tyL ca) cc nL own Ts X) (hX : va_X a N xs X.2.2.1 X.2.2.1.heap) (ha : a < X.2.2.1.heap.size) (hB : X.2.2.1.heap.size ≤ B) (ht : 6 * t + 6 ≤ N) (hN : N ≤ 3072) (hj : j < 6) (q5 q0 : Nat) (h5 : L[q5]? = some (5, .int (nI (6 * t)))) (h0 : L[q0]? = some (0, .ref a))
    (d0 : decode cc pc = .ok (.aload_n 0, 1)) (d1 : decode cc (pc + 1) = .ok (.iload 5, 2)) (d3 : decode cc (pc + 3) = .ok (.iconst (j : Int), 1)) (d4 : decode cc (pc + 4) = .ok (.iadd, 1)) (d5 : decode cc (pc + 5) = .ok (.iaload, 1)) (kk : Z l D clsB B n R nL X k sl M (pc + 6) L (.int (xs (6 * t + j)) :: st)) : Z l D clsB B n R nL X k sl M pc L st := by
  refine z_aload_n C d0 rfl q0 h0 ?_
  refine z_iload C d1 q5 h5 ?_
  refine z_iconst C (v := nI j) d3 (by unfold nI; rfl) ?_
  refine z_iadd C d4 ?_
  refine z_ri (x' := nI (6 * t + j)) (nI_add _ _) ?_
  refine z_sld C hX ha hB d5 (vp_in_nI (by omega) (by omega)) ?_
  rw [nI_clamp (by omega)]
  exact kk
theorem z_bool {v : Int32} (C : Cx D clsB (tyL ca) cc nL own Ts X) (d0 : decode cc pc = .ok (.ifCond .eq 7, 3)) (d3 : decode cc (pc + 3) = .ok (.iconst 1, 1)) (d4 : decode cc (pc + 4) = .ok (.goto 4, 3)) (d7 : decode cc (pc + 7) = .ok (.iconst 0, 1)) (kk : Z l D clsB B n R nL X k sl M (pc + 8) L (.int (ob v) :: st)) : Z l D clsB B n R nL X k sl M pc L (.int v :: st) := by
  refine z_if_eq C (pc + 7) d0 (by omega) (fun h9 => ?_) (fun h9 => ?_)
  · refine z_iconst C (v := 0) d7 (by decide) ?_
    refine z_ri (x' := ob v) (by unfold ob; rw [if_pos h9]) ?_
    exact kk
  · refine z_iconst C (v := 1) d3 (by decide) ?_
    refine z_goto C (pc + 8) d4 (by omega) ?_
    refine z_ri (x' := ob v) (by unfold ob; rw [if_neg h9]) ?_
    exact kk
end LC
set_option maxRecDepth 100000 in
set_option maxHeartbeats 4000000 in
theorem law_join {l : Launch} {D : va_G} {ca : Nat → ClassId} {B a N t k sl : Nat} {X : Zx} {w0 : Cond} {σ τ : Sg} {xo : Nat → Int64} {yo : Nat → UInt64} {e : Int32} {xs : Nat → Int32} (hl : l.stackTraces = false) (C : Cx D clsB (tyL ca) code 10 "RobotBusLaw" (w0 :: gtb) X) (hE : ExA X.2.2.1 B) (hX : va_X a N xs X.2.2.1 X.2.2.1.heap) (ha : a < X.2.2.1.heap.size) (hB : X.2.2.1.heap.size ≤ B) (ht : 6 * t + 6 ≤ N) (hN : N ≤ 3072) (hk : k + 1 ≤ 632047) (hs : sl + 6 ≤ 7199964) (h : Rl e (σ.1 3 0 0 0) (σ.1 4 0 0 0) σ τ)
    (kk : ∀ (σ' τ' : Sg) (x' : Nat → Int64) (y' : Nat → UInt64) (e' : Int32), Rl e' (σ'.1 3 0 0 0) (σ'.1 4 0 0 0) σ' τ' → Z l D clsB B 215 RL 10 X (k + 1) (sl + 6) (LM B ca σ' τ' x' y') 1662 (LLw a B t) []) : Z l D clsB B 215 RL 10 X k sl (LM B ca σ τ xo yo) 140 (LLw a B t) [] := by
  refine z_aload_n C d_law_140 rfl 4 rfl ?_
  refine z_scr C hX ha hB ht hN (j := 1) (by decide) 0 5 rfl rfl d_law_141 d_law_142 d_law_144 d_law_145 d_law_146 ?_
  refine z_aload_n C d_law_147 rfl 2 rfl ?_
  refine z_ad C hE d_law_148 (c_Law_join l hl D ca B σ τ xo yo (xs (6 * t + 1))) tw_277 tw_278 tw_0 tv_Law_join pd_Law_join ⟨⟨by decide, by decide⟩, rfl, rfl, hk, hs⟩ (Nat.le_of_ble_eq_true rfl) rfl (fun r σ' x' y' hp => ?_)
  obtain ⟨hr, rfl, hx⟩ := hp
  refine z_istore C d_law_151 (by decide) [(6, .int r), (5, .int (nI (6 * t))), (4, .ref (B + 214)), (3, .ref (B + 213)), (2, .ref (B + 182)), (1, .ref (B + 0)), (0, .ref a)] rfl ?_
  refine z_aload_n C d_law_153 rfl 4 rfl ?_
  refine z_scr C hX ha hB ht hN (j := 1) (by decide) 1 6 rfl rfl d_law_154 d_law_155 d_law_157 d_law_158 d_law_159 ?_
  refine z_mdl C d_law_160 (c_Mdl_join l D ca (B + 182) τ e (xs (6 * t + 1)) h) tw_884 tw_885 tw_886 tw_10 tw_887 pd_Mdl_join ⟨⟨by decide, by decide⟩, rfl, rfl, hk, hs⟩ (Nat.le_of_ble_eq_true rfl) rfl (fun r2 τ' hq => ?_)
  obtain ⟨hq1, hq2⟩ := hq
  refine z_istore C d_law_163 (by decide) [(7, .int r2), (6, .int r), (5, .int (nI (6 * t))), (4, .ref (B + 214)), (3, .ref (B + 213)), (2, .ref (B + 182)), (1, .ref (B + 0)), (0, .ref a)] rfl ?_
  refine z_aload_n C d_law_165 rfl 5 rfl ?_
  refine z_mdl C d_law_166 (c_Mdl_thrown l D ca (B + 182) τ') tw_880 tw_881 tw_882 tw_10 tw_883 pd_Mdl_thrown ⟨⟨by decide, by decide⟩, rfl, rfl, hk, hs⟩ (Nat.le_of_ble_eq_true rfl) rfl (fun r3 τ'' h3 => ?_)
  obtain ⟨rfl, rfl⟩ := h3
  refine z_iload C d_law_169 1 rfl ?_
  refine z_icmp_eq C 176 d_law_171 (by decide) (fun _ => ?_) (fun h9 => absurd (hq1.1.trans hr.symm) h9)
  refine z_iload C d_law_176 1 rfl ?_
  have hfin : Z l D clsB B 215 RL 10 X (k + 1) (sl + 6) (LM B ca (joinF σ (xs (6 * t + 1))).2 τ'' x' y') 193 [(7, .int r2), (6, .int r), (5, .int (nI (6 * t))), (4, .ref (B + 214)), (3, .ref (B + 213)), (2, .ref (B + 182)), (1, .ref (B + 0)), (0, .ref a)] [] := by
    refine z_goto C 1662 d_law_193 (by decide) ?_
    refine z_loc [2, 3, 4, 5, 6, 7] rfl ?_
    exact kk _ _ _ _ _ hq1
  refine z_if_ne C 193 d_law_178 (by decide) (fun _ => hfin) (fun h9 => ?_)
  obtain ⟨v9, hv⟩ := cd_I (by decide) (ok_join σ (xs (6 * t + 1))) (hr.symm.trans h9)
  have e1 := hq2 _ hv
  cases e1
  refine z_aload_n C d_law_181 rfl 4 rfl ?_
  refine z_iconst C (v := 0) d_law_182 (by decide) ?_
  refine z_lald C (o := 213) d_law_183 8 rfl (by decide) rfl rfl (by unfold vp_in; decide) ?_
  refine z_iload C d_law_184 0 rfl ?_
  refine z_i2l C d_law_186 ?_
  refine z_lcmp C d_law_187 ?_
  refine z_ri (x' := 0) (by rw [show x' (Int32.toNatClampNeg 0) = _ from hx _ hv]; exact lg_same _) ?_
  exact z_if_eq C 193 d_law_188 (by decide) (fun _ => hfin) (fun h8 => absurd rfl h8)
set_option maxRecDepth 100000 in
set_option maxHeartbeats 4000000 in
theorem law_leave {l : Launch} {D : va_G} {ca : Nat → ClassId} {B a N t k sl : Nat} {X : Zx} {w0 : Cond} {σ τ : Sg} {xo : Nat → Int64} {yo : Nat → UInt64} {e : Int32} {xs : Nat → Int32} (hl : l.stackTraces = false) (C : Cx D clsB (tyL ca) code 10 "RobotBusLaw" (w0 :: gtb) X) (hE : ExA X.2.2.1 B) (hX : va_X a N xs X.2.2.1 X.2.2.1.heap) (ha : a < X.2.2.1.heap.size) (hB : X.2.2.1.heap.size ≤ B) (ht : 6 * t + 6 ≤ N) (hN : N ≤ 3072) (hk : k + 1 ≤ 632047) (hs : sl + 6 ≤ 7199964) (h : Rl e (σ.1 3 0 0 0) (σ.1 4 0 0 0) σ τ)
    (kk : ∀ (σ' τ' : Sg) (x' : Nat → Int64) (y' : Nat → UInt64) (e' : Int32), Rl e' (σ'.1 3 0 0 0) (σ'.1 4 0 0 0) σ' τ' → Z l D clsB B 215 RL 10 X (k + 1) (sl + 6) (LM B ca σ' τ' x' y') 1662 (LLw a B t) []) : Z l D clsB B 215 RL 10 X k sl (LM B ca σ τ xo yo) 196 (LLw a B t) [] := by
  refine z_aload_n C d_law_196 rfl 4 rfl ?_
  refine z_scr C hX ha hB ht hN (j := 1) (by decide) 0 5 rfl rfl d_law_197 d_law_198 d_law_200 d_law_201 d_law_202 ?_
  refine z_aload_n C d_law_203 rfl 2 rfl ?_
  refine z_ad C hE d_law_204 (c_Law_leave l hl D ca B σ τ xo yo (xs (6 * t + 1))) tw_375 tw_376 tw_0 tv_Law_leave pd_Law_leave ⟨⟨by decide, by decide⟩, rfl, rfl, hk, hs⟩ (Nat.le_of_ble_eq_true rfl) rfl (fun r σ' x' y' hp => ?_)
  obtain ⟨hr, rfl, hx⟩ := hp
  refine z_istore C d_law_207 (by decide) [(6, .int r), (5, .int (nI (6 * t))), (4, .ref (B + 214)), (3, .ref (B + 213)), (2, .ref (B + 182)), (1, .ref (B + 0)), (0, .ref a)] rfl ?_
  refine z_aload_n C d_law_209 rfl 4 rfl ?_
  refine z_scr C hX ha hB ht hN (j := 1) (by decide) 1 6 rfl rfl d_law_210 d_law_211 d_law_213 d_law_214 d_law_215 ?_
  refine z_mdl C d_law_216 (c_Mdl_leave l D ca (B + 182) τ e (xs (6 * t + 1)) h) tw_895 tw_896 tw_897 tw_10 tw_898 pd_Mdl_leave ⟨⟨by decide, by decide⟩, rfl, rfl, hk, hs⟩ (Nat.le_of_ble_eq_true rfl) rfl (fun r2 τ' hq => ?_)
  obtain ⟨hq1, hq2⟩ := hq
  refine z_istore C d_law_219 (by decide) [(7, .int r2), (6, .int r), (5, .int (nI (6 * t))), (4, .ref (B + 214)), (3, .ref (B + 213)), (2, .ref (B + 182)), (1, .ref (B + 0)), (0, .ref a)] rfl ?_
  refine z_aload_n C d_law_221 rfl 5 rfl ?_
  refine z_mdl C d_law_222 (c_Mdl_thrown l D ca (B + 182) τ') tw_880 tw_881 tw_882 tw_10 tw_883 pd_Mdl_thrown ⟨⟨by decide, by decide⟩, rfl, rfl, hk, hs⟩ (Nat.le_of_ble_eq_true rfl) rfl (fun r3 τ'' h3 => ?_)
  obtain ⟨rfl, rfl⟩ := h3
  refine z_iload C d_law_225 1 rfl ?_
  refine z_icmp_eq C 232 d_law_227 (by decide) (fun _ => ?_) (fun h9 => absurd (hq1.1.trans hr.symm) h9)
  refine z_iload C d_law_232 1 rfl ?_
  have hfin : Z l D clsB B 215 RL 10 X (k + 1) (sl + 6) (LM B ca (leaveF σ (xs (6 * t + 1))).2 τ'' x' y') 249 [(7, .int r2), (6, .int r), (5, .int (nI (6 * t))), (4, .ref (B + 214)), (3, .ref (B + 213)), (2, .ref (B + 182)), (1, .ref (B + 0)), (0, .ref a)] [] := by
    refine z_goto C 1662 d_law_249 (by decide) ?_
    refine z_loc [2, 3, 4, 5, 6, 7] rfl ?_
    exact kk _ _ _ _ _ hq1
  refine z_if_ne C 249 d_law_234 (by decide) (fun _ => hfin) (fun h9 => ?_)
  obtain ⟨v9, hv⟩ := cd_I (by decide) (ok_leave σ (xs (6 * t + 1))) (hr.symm.trans h9)
  have e1 := hq2 _ hv
  cases e1
  refine z_aload_n C d_law_237 rfl 4 rfl ?_
  refine z_iconst C (v := 0) d_law_238 (by decide) ?_
  refine z_lald C (o := 213) d_law_239 8 rfl (by decide) rfl rfl (by unfold vp_in; decide) ?_
  refine z_iload C d_law_240 0 rfl ?_
  refine z_i2l C d_law_242 ?_
  refine z_lcmp C d_law_243 ?_
  refine z_ri (x' := 0) (by rw [show x' (Int32.toNatClampNeg 0) = _ from hx _ hv]; exact lg_same _) ?_
  exact z_if_eq C 249 d_law_244 (by decide) (fun _ => hfin) (fun h8 => absurd rfl h8)
set_option maxRecDepth 100000 in
set_option maxHeartbeats 4000000 in
theorem law_latch {l : Launch} {D : va_G} {ca : Nat → ClassId} {B a N t k sl : Nat} {X : Zx} {w0 : Cond} {σ τ : Sg} {xo : Nat → Int64} {yo : Nat → UInt64} {e : Int32} {xs : Nat → Int32} (hl : l.stackTraces = false) (C : Cx D clsB (tyL ca) code 10 "RobotBusLaw" (w0 :: gtb) X) (hE : ExA X.2.2.1 B) (hX : va_X a N xs X.2.2.1 X.2.2.1.heap) (ha : a < X.2.2.1.heap.size) (hB : X.2.2.1.heap.size ≤ B) (ht : 6 * t + 6 ≤ N) (hN : N ≤ 3072) (hk : k + 1 ≤ 632047) (hs : sl + 6 ≤ 7199964) (h : Rl e (σ.1 3 0 0 0) (σ.1 4 0 0 0) σ τ)
    (kk : ∀ (σ' τ' : Sg) (x' : Nat → Int64) (y' : Nat → UInt64) (e' : Int32), Rl e' (σ'.1 3 0 0 0) (σ'.1 4 0 0 0) σ' τ' → Z l D clsB B 215 RL 10 X (k + 1) (sl + 6) (LM B ca σ' τ' x' y') 1662 (LLw a B t) []) : Z l D clsB B 215 RL 10 X k sl (LM B ca σ τ xo yo) 252 (LLw a B t) [] := by
  refine z_aload_n C d_law_252 rfl 4 rfl ?_
  refine z_scr C hX ha hB ht hN (j := 1) (by decide) 0 5 rfl rfl d_law_253 d_law_254 d_law_256 d_law_257 d_law_258 ?_
  refine z_scr C hX ha hB ht hN (j := 2) (by decide) 0 5 rfl rfl d_law_259 d_law_260 d_law_262 d_law_263 d_law_264 ?_
  refine z_bool C d_law_265 d_law_268 d_law_269 d_law_272 ?_
  refine z_aload_n C d_law_273 rfl 2 rfl ?_
  refine z_ad C hE d_law_274 (c_Law_latch l hl D ca B σ τ xo yo (xs (6 * t + 1)) (ob (xs (6 * t + 2))) (ob_01 _)) tw_411 tw_412 tw_0 tv_Law_latch pd_Law_latch ⟨⟨by decide, by decide⟩, rfl, rfl, hk, hs⟩ (Nat.le_of_ble_eq_true rfl) rfl (fun r σ' x' y' hp => ?_)
  obtain ⟨hr, rfl, hx⟩ := hp
  refine z_istore C d_law_277 (by decide) [(6, .int r), (5, .int (nI (6 * t))), (4, .ref (B + 214)), (3, .ref (B + 213)), (2, .ref (B + 182)), (1, .ref (B + 0)), (0, .ref a)] rfl ?_
  refine z_aload_n C d_law_279 rfl 4 rfl ?_
  refine z_scr C hX ha hB ht hN (j := 1) (by decide) 1 6 rfl rfl d_law_280 d_law_281 d_law_283 d_law_284 d_law_285 ?_
  refine z_scr C hX ha hB ht hN (j := 2) (by decide) 1 6 rfl rfl d_law_286 d_law_287 d_law_289 d_law_290 d_law_291 ?_
  refine z_bool C d_law_292 d_law_295 d_law_296 d_law_299 ?_
  refine z_mdl C d_law_300 (c_Mdl_latch l D ca (B + 182) τ e (xs (6 * t + 1)) (ob (xs (6 * t + 2))) (ob_01 _) h) tw_903 tw_904 tw_905 tw_10 tw_906 pd_Mdl_latch ⟨⟨by decide, by decide⟩, rfl, rfl, hk, hs⟩ (Nat.le_of_ble_eq_true rfl) rfl (fun r2 τ' hq => ?_)
  obtain ⟨hq1, hq2⟩ := hq
  refine z_istore C d_law_303 (by decide) [(7, .int r2), (6, .int r), (5, .int (nI (6 * t))), (4, .ref (B + 214)), (3, .ref (B + 213)), (2, .ref (B + 182)), (1, .ref (B + 0)), (0, .ref a)] rfl ?_
  refine z_aload_n C d_law_305 rfl 5 rfl ?_
  refine z_mdl C d_law_306 (c_Mdl_thrown l D ca (B + 182) τ') tw_880 tw_881 tw_882 tw_10 tw_883 pd_Mdl_thrown ⟨⟨by decide, by decide⟩, rfl, rfl, hk, hs⟩ (Nat.le_of_ble_eq_true rfl) rfl (fun r3 τ'' h3 => ?_)
  obtain ⟨rfl, rfl⟩ := h3
  refine z_iload C d_law_309 1 rfl ?_
  refine z_icmp_eq C 316 d_law_311 (by decide) (fun _ => ?_) (fun h9 => absurd (hq1.1.trans hr.symm) h9)
  refine z_iload C d_law_316 1 rfl ?_
  have hfin : Z l D clsB B 215 RL 10 X (k + 1) (sl + 6) (LM B ca (latchF σ (xs (6 * t + 1)) (ob (xs (6 * t + 2)))).2 τ'' x' y') 333 [(7, .int r2), (6, .int r), (5, .int (nI (6 * t))), (4, .ref (B + 214)), (3, .ref (B + 213)), (2, .ref (B + 182)), (1, .ref (B + 0)), (0, .ref a)] [] := by
    refine z_goto C 1662 d_law_333 (by decide) ?_
    refine z_loc [2, 3, 4, 5, 6, 7] rfl ?_
    exact kk _ _ _ _ _ hq1
  refine z_if_ne C 333 d_law_318 (by decide) (fun _ => hfin) (fun h9 => ?_)
  obtain ⟨v9, hv⟩ := cd_I (by decide) (ok_latch σ (xs (6 * t + 1)) (ob (xs (6 * t + 2)))) (hr.symm.trans h9)
  have e1 := hq2 _ hv
  cases e1
  refine z_aload_n C d_law_321 rfl 4 rfl ?_
  refine z_iconst C (v := 0) d_law_322 (by decide) ?_
  refine z_lald C (o := 213) d_law_323 8 rfl (by decide) rfl rfl (by unfold vp_in; decide) ?_
  refine z_iload C d_law_324 0 rfl ?_
  refine z_i2l C d_law_326 ?_
  refine z_lcmp C d_law_327 ?_
  refine z_ri (x' := 0) (by rw [show x' (Int32.toNatClampNeg 0) = _ from hx _ hv]; exact lg_same _) ?_
  exact z_if_eq C 333 d_law_328 (by decide) (fun _ => hfin) (fun h8 => absurd rfl h8)
set_option maxRecDepth 100000 in
set_option maxHeartbeats 4000000 in
theorem law_subscribe {l : Launch} {D : va_G} {ca : Nat → ClassId} {B a N t k sl : Nat} {X : Zx} {w0 : Cond} {σ τ : Sg} {xo : Nat → Int64} {yo : Nat → UInt64} {e : Int32} {xs : Nat → Int32} (hl : l.stackTraces = false) (C : Cx D clsB (tyL ca) code 10 "RobotBusLaw" (w0 :: gtb) X) (hE : ExA X.2.2.1 B) (hX : va_X a N xs X.2.2.1 X.2.2.1.heap) (ha : a < X.2.2.1.heap.size) (hB : X.2.2.1.heap.size ≤ B) (ht : 6 * t + 6 ≤ N) (hN : N ≤ 3072) (hk : k + 1 ≤ 632047) (hs : sl + 6 ≤ 7199964) (h : Rl e (σ.1 3 0 0 0) (σ.1 4 0 0 0) σ τ)
    (kk : ∀ (σ' τ' : Sg) (x' : Nat → Int64) (y' : Nat → UInt64) (e' : Int32), Rl e' (σ'.1 3 0 0 0) (σ'.1 4 0 0 0) σ' τ' → Z l D clsB B 215 RL 10 X (k + 1) (sl + 6) (LM B ca σ' τ' x' y') 1662 (LLw a B t) []) : Z l D clsB B 215 RL 10 X k sl (LM B ca σ τ xo yo) 336 (LLw a B t) [] := by
  refine z_aload_n C d_law_336 rfl 4 rfl ?_
  refine z_scr C hX ha hB ht hN (j := 1) (by decide) 0 5 rfl rfl d_law_337 d_law_338 d_law_340 d_law_341 d_law_342 ?_
  refine z_scr C hX ha hB ht hN (j := 2) (by decide) 0 5 rfl rfl d_law_343 d_law_344 d_law_346 d_law_347 d_law_348 ?_
  refine z_scr C hX ha hB ht hN (j := 3) (by decide) 0 5 rfl rfl d_law_349 d_law_350 d_law_352 d_law_353 d_law_354 ?_
  refine z_aload_n C d_law_355 rfl 2 rfl ?_
  refine z_ad C hE d_law_356 (c_Law_subscribe l hl D ca B σ τ xo yo (xs (6 * t + 1)) (xs (6 * t + 2)) (xs (6 * t + 3)) h.bi) tw_419 tw_420 tw_0 tv_Law_subscribe pd_Law_subscribe ⟨⟨by decide, by decide⟩, rfl, rfl, hk, hs⟩ (Nat.le_of_ble_eq_true rfl) rfl (fun r σ' x' y' hp => ?_)
  obtain ⟨hr, rfl, hx⟩ := hp
  refine z_istore C d_law_359 (by decide) [(6, .int r), (5, .int (nI (6 * t))), (4, .ref (B + 214)), (3, .ref (B + 213)), (2, .ref (B + 182)), (1, .ref (B + 0)), (0, .ref a)] rfl ?_
  refine z_aload_n C d_law_361 rfl 4 rfl ?_
  refine z_scr C hX ha hB ht hN (j := 1) (by decide) 1 6 rfl rfl d_law_362 d_law_363 d_law_365 d_law_366 d_law_367 ?_
  refine z_scr C hX ha hB ht hN (j := 2) (by decide) 1 6 rfl rfl d_law_368 d_law_369 d_law_371 d_law_372 d_law_373 ?_
  refine z_scr C hX ha hB ht hN (j := 3) (by decide) 1 6 rfl rfl d_law_374 d_law_375 d_law_377 d_law_378 d_law_379 ?_
  refine z_mdl C d_law_380 (c_Mdl_subscribe l D ca (B + 182) τ e (xs (6 * t + 1)) (xs (6 * t + 2)) (xs (6 * t + 3)) h) tw_907 tw_908 tw_909 tw_10 tw_910 pd_Mdl_subscribe ⟨⟨by decide, by decide⟩, rfl, rfl, hk, hs⟩ (Nat.le_of_ble_eq_true rfl) rfl (fun r2 τ' hq => ?_)
  obtain ⟨hq1, hq2⟩ := hq
  refine z_istore C d_law_383 (by decide) [(7, .int r2), (6, .int r), (5, .int (nI (6 * t))), (4, .ref (B + 214)), (3, .ref (B + 213)), (2, .ref (B + 182)), (1, .ref (B + 0)), (0, .ref a)] rfl ?_
  refine z_aload_n C d_law_385 rfl 5 rfl ?_
  refine z_mdl C d_law_386 (c_Mdl_thrown l D ca (B + 182) τ') tw_880 tw_881 tw_882 tw_10 tw_883 pd_Mdl_thrown ⟨⟨by decide, by decide⟩, rfl, rfl, hk, hs⟩ (Nat.le_of_ble_eq_true rfl) rfl (fun r3 τ'' h3 => ?_)
  obtain ⟨rfl, rfl⟩ := h3
  refine z_iload C d_law_389 1 rfl ?_
  refine z_icmp_eq C 396 d_law_391 (by decide) (fun _ => ?_) (fun h9 => absurd (hq1.1.trans hr.symm) h9)
  refine z_iload C d_law_396 1 rfl ?_
  have hfin : Z l D clsB B 215 RL 10 X (k + 1) (sl + 6) (LM B ca (subF σ (xs (6 * t + 1)) (xs (6 * t + 2)) (xs (6 * t + 3))).2 τ'' x' y') 413 [(7, .int r2), (6, .int r), (5, .int (nI (6 * t))), (4, .ref (B + 214)), (3, .ref (B + 213)), (2, .ref (B + 182)), (1, .ref (B + 0)), (0, .ref a)] [] := by
    refine z_goto C 1662 d_law_413 (by decide) ?_
    refine z_loc [2, 3, 4, 5, 6, 7] rfl ?_
    exact kk _ _ _ _ _ hq1
  refine z_if_ne C 413 d_law_398 (by decide) (fun _ => hfin) (fun h9 => ?_)
  obtain ⟨v9, hv⟩ := cd_I (by decide) (ok_subscribe σ (xs (6 * t + 1)) (xs (6 * t + 2)) (xs (6 * t + 3))) (hr.symm.trans h9)
  have e1 := hq2 _ hv
  cases e1
  refine z_aload_n C d_law_401 rfl 4 rfl ?_
  refine z_iconst C (v := 0) d_law_402 (by decide) ?_
  refine z_lald C (o := 213) d_law_403 8 rfl (by decide) rfl rfl (by unfold vp_in; decide) ?_
  refine z_iload C d_law_404 0 rfl ?_
  refine z_i2l C d_law_406 ?_
  refine z_lcmp C d_law_407 ?_
  refine z_ri (x' := 0) (by rw [show x' (Int32.toNatClampNeg 0) = _ from hx _ hv]; exact lg_same _) ?_
  exact z_if_eq C 413 d_law_408 (by decide) (fun _ => hfin) (fun h8 => absurd rfl h8)
set_option maxRecDepth 100000 in
set_option maxHeartbeats 4000000 in
theorem law_unsubscribe {l : Launch} {D : va_G} {ca : Nat → ClassId} {B a N t k sl : Nat} {X : Zx} {w0 : Cond} {σ τ : Sg} {xo : Nat → Int64} {yo : Nat → UInt64} {e : Int32} {xs : Nat → Int32} (hl : l.stackTraces = false) (C : Cx D clsB (tyL ca) code 10 "RobotBusLaw" (w0 :: gtb) X) (hE : ExA X.2.2.1 B) (hX : va_X a N xs X.2.2.1 X.2.2.1.heap) (ha : a < X.2.2.1.heap.size) (hB : X.2.2.1.heap.size ≤ B) (ht : 6 * t + 6 ≤ N) (hN : N ≤ 3072) (hk : k + 1 ≤ 632047) (hs : sl + 6 ≤ 7199964) (h : Rl e (σ.1 3 0 0 0) (σ.1 4 0 0 0) σ τ)
    (kk : ∀ (σ' τ' : Sg) (x' : Nat → Int64) (y' : Nat → UInt64) (e' : Int32), Rl e' (σ'.1 3 0 0 0) (σ'.1 4 0 0 0) σ' τ' → Z l D clsB B 215 RL 10 X (k + 1) (sl + 6) (LM B ca σ' τ' x' y') 1662 (LLw a B t) []) : Z l D clsB B 215 RL 10 X k sl (LM B ca σ τ xo yo) 416 (LLw a B t) [] := by
  refine z_aload_n C d_law_416 rfl 4 rfl ?_
  refine z_scr C hX ha hB ht hN (j := 1) (by decide) 0 5 rfl rfl d_law_417 d_law_418 d_law_420 d_law_421 d_law_422 ?_
  refine z_scr C hX ha hB ht hN (j := 2) (by decide) 0 5 rfl rfl d_law_423 d_law_424 d_law_426 d_law_427 d_law_428 ?_
  refine z_aload_n C d_law_429 rfl 2 rfl ?_
  refine z_ad C hE d_law_430 (c_Law_unsubscribe l hl D ca B σ τ xo yo (xs (6 * t + 1)) (xs (6 * t + 2))) tw_452 tw_453 tw_0 tv_Law_unsubscribe pd_Law_unsubscribe ⟨⟨by decide, by decide⟩, rfl, rfl, hk, hs⟩ (Nat.le_of_ble_eq_true rfl) rfl (fun r σ' x' y' hp => ?_)
  obtain ⟨hr, rfl, hx⟩ := hp
  refine z_istore C d_law_433 (by decide) [(6, .int r), (5, .int (nI (6 * t))), (4, .ref (B + 214)), (3, .ref (B + 213)), (2, .ref (B + 182)), (1, .ref (B + 0)), (0, .ref a)] rfl ?_
  refine z_aload_n C d_law_435 rfl 4 rfl ?_
  refine z_scr C hX ha hB ht hN (j := 1) (by decide) 1 6 rfl rfl d_law_436 d_law_437 d_law_439 d_law_440 d_law_441 ?_
  refine z_scr C hX ha hB ht hN (j := 2) (by decide) 1 6 rfl rfl d_law_442 d_law_443 d_law_445 d_law_446 d_law_447 ?_
  refine z_mdl C d_law_448 (c_Mdl_unsubscribe l D ca (B + 182) τ e (xs (6 * t + 1)) (xs (6 * t + 2)) h) tw_919 tw_920 tw_921 tw_10 tw_922 pd_Mdl_unsubscribe ⟨⟨by decide, by decide⟩, rfl, rfl, hk, hs⟩ (Nat.le_of_ble_eq_true rfl) rfl (fun r2 τ' hq => ?_)
  obtain ⟨hq1, hq2⟩ := hq
  refine z_istore C d_law_451 (by decide) [(7, .int r2), (6, .int r), (5, .int (nI (6 * t))), (4, .ref (B + 214)), (3, .ref (B + 213)), (2, .ref (B + 182)), (1, .ref (B + 0)), (0, .ref a)] rfl ?_
  refine z_aload_n C d_law_453 rfl 5 rfl ?_
  refine z_mdl C d_law_454 (c_Mdl_thrown l D ca (B + 182) τ') tw_880 tw_881 tw_882 tw_10 tw_883 pd_Mdl_thrown ⟨⟨by decide, by decide⟩, rfl, rfl, hk, hs⟩ (Nat.le_of_ble_eq_true rfl) rfl (fun r3 τ'' h3 => ?_)
  obtain ⟨rfl, rfl⟩ := h3
  refine z_iload C d_law_457 1 rfl ?_
  refine z_icmp_eq C 464 d_law_459 (by decide) (fun _ => ?_) (fun h9 => absurd (hq1.1.trans hr.symm) h9)
  refine z_iload C d_law_464 1 rfl ?_
  have hfin : Z l D clsB B 215 RL 10 X (k + 1) (sl + 6) (LM B ca (unsubF σ (xs (6 * t + 1)) (xs (6 * t + 2))).2 τ'' x' y') 481 [(7, .int r2), (6, .int r), (5, .int (nI (6 * t))), (4, .ref (B + 214)), (3, .ref (B + 213)), (2, .ref (B + 182)), (1, .ref (B + 0)), (0, .ref a)] [] := by
    refine z_goto C 1662 d_law_481 (by decide) ?_
    refine z_loc [2, 3, 4, 5, 6, 7] rfl ?_
    exact kk _ _ _ _ _ hq1
  refine z_if_ne C 481 d_law_466 (by decide) (fun _ => hfin) (fun h9 => ?_)
  obtain ⟨v9, hv⟩ := cd_I (by decide) (ok_unsubscribe σ (xs (6 * t + 1)) (xs (6 * t + 2))) (hr.symm.trans h9)
  have e1 := hq2 _ hv
  cases e1
  refine z_aload_n C d_law_469 rfl 4 rfl ?_
  refine z_iconst C (v := 0) d_law_470 (by decide) ?_
  refine z_lald C (o := 213) d_law_471 8 rfl (by decide) rfl rfl (by unfold vp_in; decide) ?_
  refine z_iload C d_law_472 0 rfl ?_
  refine z_i2l C d_law_474 ?_
  refine z_lcmp C d_law_475 ?_
  refine z_ri (x' := 0) (by rw [show x' (Int32.toNatClampNeg 0) = _ from hx _ hv]; exact lg_same _) ?_
  exact z_if_eq C 481 d_law_476 (by decide) (fun _ => hfin) (fun h8 => absurd rfl h8)
set_option maxRecDepth 100000 in
set_option maxHeartbeats 4000000 in
theorem law_publish {l : Launch} {D : va_G} {ca : Nat → ClassId} {B a N t k sl : Nat} {X : Zx} {w0 : Cond} {σ τ : Sg} {xo : Nat → Int64} {yo : Nat → UInt64} {e : Int32} {xs : Nat → Int32} (hl : l.stackTraces = false) (C : Cx D clsB (tyL ca) code 10 "RobotBusLaw" (w0 :: gtb) X) (hE : ExA X.2.2.1 B) (hX : va_X a N xs X.2.2.1 X.2.2.1.heap) (ha : a < X.2.2.1.heap.size) (hB : X.2.2.1.heap.size ≤ B) (ht : 6 * t + 6 ≤ N) (hN : N ≤ 3072) (hk : k + 1 ≤ 632047) (hs : sl + 6 ≤ 7199964) (h : Rl e (σ.1 3 0 0 0) (σ.1 4 0 0 0) σ τ)
    (kk : ∀ (σ' τ' : Sg) (x' : Nat → Int64) (y' : Nat → UInt64) (e' : Int32), Rl e' (σ'.1 3 0 0 0) (σ'.1 4 0 0 0) σ' τ' → Z l D clsB B 215 RL 10 X (k + 1) (sl + 6) (LM B ca σ' τ' x' y') 1662 (LLw a B t) []) : Z l D clsB B 215 RL 10 X k sl (LM B ca σ τ xo yo) 484 (LLw a B t) [] := by
  refine z_aload_n C d_law_484 rfl 4 rfl ?_
  refine z_scr C hX ha hB ht hN (j := 1) (by decide) 0 5 rfl rfl d_law_485 d_law_486 d_law_488 d_law_489 d_law_490 ?_
  refine z_scr C hX ha hB ht hN (j := 2) (by decide) 0 5 rfl rfl d_law_491 d_law_492 d_law_494 d_law_495 d_law_496 ?_
  refine z_scr C hX ha hB ht hN (j := 3) (by decide) 0 5 rfl rfl d_law_497 d_law_498 d_law_500 d_law_501 d_law_502 ?_
  refine z_aload_n C d_law_503 rfl 2 rfl ?_
  refine z_ad C hE d_law_504 (c_Law_publish l hl D ca B σ τ xo yo (xs (6 * t + 1)) (xs (6 * t + 2)) (xs (6 * t + 3)) h.bi) tw_461 tw_462 tw_0 tv_Law_publish pd_Law_publish ⟨⟨by decide, by decide⟩, rfl, rfl, hk, hs⟩ (Nat.le_of_ble_eq_true rfl) rfl (fun r σ' x' y' hp => ?_)
  obtain ⟨hr, rfl, hx⟩ := hp
  refine z_istore C d_law_507 (by decide) [(6, .int r), (5, .int (nI (6 * t))), (4, .ref (B + 214)), (3, .ref (B + 213)), (2, .ref (B + 182)), (1, .ref (B + 0)), (0, .ref a)] rfl ?_
  refine z_aload_n C d_law_509 rfl 4 rfl ?_
  refine z_scr C hX ha hB ht hN (j := 1) (by decide) 1 6 rfl rfl d_law_510 d_law_511 d_law_513 d_law_514 d_law_515 ?_
  refine z_scr C hX ha hB ht hN (j := 2) (by decide) 1 6 rfl rfl d_law_516 d_law_517 d_law_519 d_law_520 d_law_521 ?_
  refine z_scr C hX ha hB ht hN (j := 3) (by decide) 1 6 rfl rfl d_law_522 d_law_523 d_law_525 d_law_526 d_law_527 ?_
  refine z_mdl C d_law_528 (c_Mdl_publish l D ca (B + 182) τ e (xs (6 * t + 1)) (xs (6 * t + 2)) (xs (6 * t + 3)) h) tw_923 tw_924 tw_925 tw_10 tw_926 pd_Mdl_publish ⟨⟨by decide, by decide⟩, rfl, rfl, hk, hs⟩ (Nat.le_of_ble_eq_true rfl) rfl (fun r2 τ' hq => ?_)
  obtain ⟨hq1, hq2⟩ := hq
  refine z_istore C d_law_531 (by decide) [(7, .int r2), (6, .int r), (5, .int (nI (6 * t))), (4, .ref (B + 214)), (3, .ref (B + 213)), (2, .ref (B + 182)), (1, .ref (B + 0)), (0, .ref a)] rfl ?_
  refine z_aload_n C d_law_533 rfl 5 rfl ?_
  refine z_mdl C d_law_534 (c_Mdl_thrown l D ca (B + 182) τ') tw_880 tw_881 tw_882 tw_10 tw_883 pd_Mdl_thrown ⟨⟨by decide, by decide⟩, rfl, rfl, hk, hs⟩ (Nat.le_of_ble_eq_true rfl) rfl (fun r3 τ'' h3 => ?_)
  obtain ⟨rfl, rfl⟩ := h3
  refine z_iload C d_law_537 1 rfl ?_
  refine z_icmp_eq C 544 d_law_539 (by decide) (fun _ => ?_) (fun h9 => absurd (hq1.1.trans hr.symm) h9)
  refine z_iload C d_law_544 1 rfl ?_
  have hfin : Z l D clsB B 215 RL 10 X (k + 1) (sl + 6) (LM B ca (publF σ (xs (6 * t + 1)) (xs (6 * t + 2)) (xs (6 * t + 3))).2 τ'' x' y') 561 [(7, .int r2), (6, .int r), (5, .int (nI (6 * t))), (4, .ref (B + 214)), (3, .ref (B + 213)), (2, .ref (B + 182)), (1, .ref (B + 0)), (0, .ref a)] [] := by
    refine z_goto C 1662 d_law_561 (by decide) ?_
    refine z_loc [2, 3, 4, 5, 6, 7] rfl ?_
    exact kk _ _ _ _ _ hq1
  refine z_if_ne C 561 d_law_546 (by decide) (fun _ => hfin) (fun h9 => ?_)
  obtain ⟨v9, hv⟩ := cd_I (by decide) (ok_publish σ (xs (6 * t + 1)) (xs (6 * t + 2)) (xs (6 * t + 3))) (hr.symm.trans h9)
  have e1 := hq2 _ hv
  cases e1
  refine z_aload_n C d_law_549 rfl 4 rfl ?_
  refine z_iconst C (v := 0) d_law_550 (by decide) ?_
  refine z_lald C (o := 213) d_law_551 8 rfl (by decide) rfl rfl (by unfold vp_in; decide) ?_
  refine z_iload C d_law_552 0 rfl ?_
  refine z_i2l C d_law_554 ?_
  refine z_lcmp C d_law_555 ?_
  refine z_ri (x' := 0) (by rw [show x' (Int32.toNatClampNeg 0) = _ from hx _ hv]; exact lg_same _) ?_
  exact z_if_eq C 561 d_law_556 (by decide) (fun _ => hfin) (fun h8 => absurd rfl h8)
set_option maxRecDepth 100000 in
set_option maxHeartbeats 4000000 in
theorem law_act {l : Launch} {D : va_G} {ca : Nat → ClassId} {B a N t k sl : Nat} {X : Zx} {w0 : Cond} {σ τ : Sg} {xo : Nat → Int64} {yo : Nat → UInt64} {e : Int32} {xs : Nat → Int32} (hl : l.stackTraces = false) (C : Cx D clsB (tyL ca) code 10 "RobotBusLaw" (w0 :: gtb) X) (hE : ExA X.2.2.1 B) (hX : va_X a N xs X.2.2.1 X.2.2.1.heap) (ha : a < X.2.2.1.heap.size) (hB : X.2.2.1.heap.size ≤ B) (ht : 6 * t + 6 ≤ N) (hN : N ≤ 3072) (hk : k + 1 ≤ 632047) (hs : sl + 6 ≤ 7199964) (h : Rl e (σ.1 3 0 0 0) (σ.1 4 0 0 0) σ τ)
    (kk : ∀ (σ' τ' : Sg) (x' : Nat → Int64) (y' : Nat → UInt64) (e' : Int32), Rl e' (σ'.1 3 0 0 0) (σ'.1 4 0 0 0) σ' τ' → Z l D clsB B 215 RL 10 X (k + 1) (sl + 6) (LM B ca σ' τ' x' y') 1662 (LLw a B t) []) : Z l D clsB B 215 RL 10 X k sl (LM B ca σ τ xo yo) 564 (LLw a B t) [] := by
  refine z_aload_n C d_law_564 rfl 4 rfl ?_
  refine z_scr C hX ha hB ht hN (j := 1) (by decide) 0 5 rfl rfl d_law_565 d_law_566 d_law_568 d_law_569 d_law_570 ?_
  refine z_scr C hX ha hB ht hN (j := 2) (by decide) 0 5 rfl rfl d_law_571 d_law_572 d_law_574 d_law_575 d_law_576 ?_
  refine z_scr C hX ha hB ht hN (j := 3) (by decide) 0 5 rfl rfl d_law_577 d_law_578 d_law_580 d_law_581 d_law_582 ?_
  refine z_scr C hX ha hB ht hN (j := 4) (by decide) 0 5 rfl rfl d_law_583 d_law_584 d_law_586 d_law_587 d_law_588 ?_
  refine z_scr C hX ha hB ht hN (j := 5) (by decide) 0 5 rfl rfl d_law_589 d_law_590 d_law_592 d_law_593 d_law_594 ?_
  refine z_aload_n C d_law_595 rfl 2 rfl ?_
  refine z_ad C hE d_law_596 (c_Law_act l hl D ca B σ τ xo yo (xs (6 * t + 1)) (xs (6 * t + 2)) (xs (6 * t + 3)) (xs (6 * t + 4)) (xs (6 * t + 5))) tw_480 tw_481 tw_0 tv_Law_act pd_Law_act ⟨⟨by decide, by decide⟩, rfl, rfl, hk, hs⟩ (Nat.le_of_ble_eq_true rfl) rfl (fun r σ' x' y' hp => ?_)
  obtain ⟨hr, rfl, hx⟩ := hp
  refine z_istore C d_law_599 (by decide) [(6, .int r), (5, .int (nI (6 * t))), (4, .ref (B + 214)), (3, .ref (B + 213)), (2, .ref (B + 182)), (1, .ref (B + 0)), (0, .ref a)] rfl ?_
  refine z_aload_n C d_law_601 rfl 4 rfl ?_
  refine z_scr C hX ha hB ht hN (j := 1) (by decide) 1 6 rfl rfl d_law_602 d_law_603 d_law_605 d_law_606 d_law_607 ?_
  refine z_scr C hX ha hB ht hN (j := 2) (by decide) 1 6 rfl rfl d_law_608 d_law_609 d_law_611 d_law_612 d_law_613 ?_
  refine z_scr C hX ha hB ht hN (j := 3) (by decide) 1 6 rfl rfl d_law_614 d_law_615 d_law_617 d_law_618 d_law_619 ?_
  refine z_scr C hX ha hB ht hN (j := 4) (by decide) 1 6 rfl rfl d_law_620 d_law_621 d_law_623 d_law_624 d_law_625 ?_
  refine z_scr C hX ha hB ht hN (j := 5) (by decide) 1 6 rfl rfl d_law_626 d_law_627 d_law_629 d_law_630 d_law_631 ?_
  refine z_mdl C d_law_632 (c_Mdl_act l D ca (B + 182) τ e (xs (6 * t + 1)) (xs (6 * t + 2)) (xs (6 * t + 3)) (xs (6 * t + 4)) (xs (6 * t + 5)) h) tw_931 tw_932 tw_933 tw_10 tw_934 pd_Mdl_act ⟨⟨by decide, by decide⟩, rfl, rfl, hk, hs⟩ (Nat.le_of_ble_eq_true rfl) rfl (fun r2 τ' hq => ?_)
  obtain ⟨hq1, hq2⟩ := hq
  refine z_istore C d_law_635 (by decide) [(7, .int r2), (6, .int r), (5, .int (nI (6 * t))), (4, .ref (B + 214)), (3, .ref (B + 213)), (2, .ref (B + 182)), (1, .ref (B + 0)), (0, .ref a)] rfl ?_
  refine z_aload_n C d_law_637 rfl 5 rfl ?_
  refine z_mdl C d_law_638 (c_Mdl_thrown l D ca (B + 182) τ') tw_880 tw_881 tw_882 tw_10 tw_883 pd_Mdl_thrown ⟨⟨by decide, by decide⟩, rfl, rfl, hk, hs⟩ (Nat.le_of_ble_eq_true rfl) rfl (fun r3 τ'' h3 => ?_)
  obtain ⟨rfl, rfl⟩ := h3
  refine z_iload C d_law_641 1 rfl ?_
  refine z_icmp_eq C 648 d_law_643 (by decide) (fun _ => ?_) (fun h9 => absurd (hq1.1.trans hr.symm) h9)
  refine z_iload C d_law_648 1 rfl ?_
  have hfin : Z l D clsB B 215 RL 10 X (k + 1) (sl + 6) (LM B ca (actF σ (xs (6 * t + 1)) (xs (6 * t + 2)) (xs (6 * t + 3)) (xs (6 * t + 4)) (xs (6 * t + 5))).2 τ'' x' y') 665 [(7, .int r2), (6, .int r), (5, .int (nI (6 * t))), (4, .ref (B + 214)), (3, .ref (B + 213)), (2, .ref (B + 182)), (1, .ref (B + 0)), (0, .ref a)] [] := by
    refine z_goto C 1662 d_law_665 (by decide) ?_
    refine z_loc [2, 3, 4, 5, 6, 7] rfl ?_
    exact kk _ _ _ _ _ hq1
  refine z_if_ne C 665 d_law_650 (by decide) (fun _ => hfin) (fun h9 => ?_)
  obtain ⟨v9, hv⟩ := cd_I (by decide) (ok_act σ (xs (6 * t + 1)) (xs (6 * t + 2)) (xs (6 * t + 3)) (xs (6 * t + 4)) (xs (6 * t + 5))) (hr.symm.trans h9)
  have e1 := hq2 _ hv
  cases e1
  refine z_aload_n C d_law_653 rfl 4 rfl ?_
  refine z_iconst C (v := 0) d_law_654 (by decide) ?_
  refine z_lald C (o := 213) d_law_655 8 rfl (by decide) rfl rfl (by unfold vp_in; decide) ?_
  refine z_iload C d_law_656 0 rfl ?_
  refine z_i2l C d_law_658 ?_
  refine z_lcmp C d_law_659 ?_
  refine z_ri (x' := 0) (by rw [show x' (Int32.toNatClampNeg 0) = _ from hx _ hv]; exact lg_same _) ?_
  exact z_if_eq C 665 d_law_660 (by decide) (fun _ => hfin) (fun h8 => absurd rfl h8)
set_option maxRecDepth 100000 in
set_option maxHeartbeats 4000000 in
theorem law_offer {l : Launch} {D : va_G} {ca : Nat → ClassId} {B a N t k sl : Nat} {X : Zx} {w0 : Cond} {σ τ : Sg} {xo : Nat → Int64} {yo : Nat → UInt64} {e : Int32} {xs : Nat → Int32} (hl : l.stackTraces = false) (C : Cx D clsB (tyL ca) code 10 "RobotBusLaw" (w0 :: gtb) X) (hE : ExA X.2.2.1 B) (hX : va_X a N xs X.2.2.1 X.2.2.1.heap) (ha : a < X.2.2.1.heap.size) (hB : X.2.2.1.heap.size ≤ B) (ht : 6 * t + 6 ≤ N) (hN : N ≤ 3072) (hk : k + 1 ≤ 632047) (hs : sl + 6 ≤ 7199964) (h : Rl e (σ.1 3 0 0 0) (σ.1 4 0 0 0) σ τ)
    (kk : ∀ (σ' τ' : Sg) (x' : Nat → Int64) (y' : Nat → UInt64) (e' : Int32), Rl e' (σ'.1 3 0 0 0) (σ'.1 4 0 0 0) σ' τ' → Z l D clsB B 215 RL 10 X (k + 1) (sl + 6) (LM B ca σ' τ' x' y') 1662 (LLw a B t) []) : Z l D clsB B 215 RL 10 X k sl (LM B ca σ τ xo yo) 668 (LLw a B t) [] := by
  refine z_aload_n C d_law_668 rfl 4 rfl ?_
  refine z_scr C hX ha hB ht hN (j := 1) (by decide) 0 5 rfl rfl d_law_669 d_law_670 d_law_672 d_law_673 d_law_674 ?_
  refine z_scr C hX ha hB ht hN (j := 2) (by decide) 0 5 rfl rfl d_law_675 d_law_676 d_law_678 d_law_679 d_law_680 ?_
  refine z_scr C hX ha hB ht hN (j := 3) (by decide) 0 5 rfl rfl d_law_681 d_law_682 d_law_684 d_law_685 d_law_686 ?_
  refine z_scr C hX ha hB ht hN (j := 4) (by decide) 0 5 rfl rfl d_law_687 d_law_688 d_law_690 d_law_691 d_law_692 ?_
  refine z_scr C hX ha hB ht hN (j := 5) (by decide) 0 5 rfl rfl d_law_693 d_law_694 d_law_696 d_law_697 d_law_698 ?_
  refine z_aload_n C d_law_699 rfl 2 rfl ?_
  refine z_ad C hE d_law_700 (c_Law_offer l hl D ca B σ τ xo yo (xs (6 * t + 1)) (xs (6 * t + 2)) (xs (6 * t + 3)) (xs (6 * t + 4)) (xs (6 * t + 5))) tw_491 tw_492 tw_0 tv_Law_offer pd_Law_offer ⟨⟨by decide, by decide⟩, rfl, rfl, hk, hs⟩ (Nat.le_of_ble_eq_true rfl) rfl (fun r σ' x' y' hp => ?_)
  obtain ⟨hr, rfl, hx⟩ := hp
  refine z_istore C d_law_703 (by decide) [(6, .int r), (5, .int (nI (6 * t))), (4, .ref (B + 214)), (3, .ref (B + 213)), (2, .ref (B + 182)), (1, .ref (B + 0)), (0, .ref a)] rfl ?_
  refine z_aload_n C d_law_705 rfl 4 rfl ?_
  refine z_scr C hX ha hB ht hN (j := 1) (by decide) 1 6 rfl rfl d_law_706 d_law_707 d_law_709 d_law_710 d_law_711 ?_
  refine z_scr C hX ha hB ht hN (j := 2) (by decide) 1 6 rfl rfl d_law_712 d_law_713 d_law_715 d_law_716 d_law_717 ?_
  refine z_scr C hX ha hB ht hN (j := 3) (by decide) 1 6 rfl rfl d_law_718 d_law_719 d_law_721 d_law_722 d_law_723 ?_
  refine z_scr C hX ha hB ht hN (j := 4) (by decide) 1 6 rfl rfl d_law_724 d_law_725 d_law_727 d_law_728 d_law_729 ?_
  refine z_scr C hX ha hB ht hN (j := 5) (by decide) 1 6 rfl rfl d_law_730 d_law_731 d_law_733 d_law_734 d_law_735 ?_
  refine z_mdl C d_law_736 (c_Mdl_offer l D ca (B + 182) τ e (xs (6 * t + 1)) (xs (6 * t + 2)) (xs (6 * t + 3)) (xs (6 * t + 4)) (xs (6 * t + 5)) h) tw_938 tw_939 tw_940 tw_10 tw_941 pd_Mdl_offer ⟨⟨by decide, by decide⟩, rfl, rfl, hk, hs⟩ (Nat.le_of_ble_eq_true rfl) rfl (fun r2 τ' hq => ?_)
  obtain ⟨hq1, hq2⟩ := hq
  refine z_istore C d_law_739 (by decide) [(7, .int r2), (6, .int r), (5, .int (nI (6 * t))), (4, .ref (B + 214)), (3, .ref (B + 213)), (2, .ref (B + 182)), (1, .ref (B + 0)), (0, .ref a)] rfl ?_
  refine z_aload_n C d_law_741 rfl 5 rfl ?_
  refine z_mdl C d_law_742 (c_Mdl_thrown l D ca (B + 182) τ') tw_880 tw_881 tw_882 tw_10 tw_883 pd_Mdl_thrown ⟨⟨by decide, by decide⟩, rfl, rfl, hk, hs⟩ (Nat.le_of_ble_eq_true rfl) rfl (fun r3 τ'' h3 => ?_)
  obtain ⟨rfl, rfl⟩ := h3
  refine z_iload C d_law_745 1 rfl ?_
  refine z_icmp_eq C 752 d_law_747 (by decide) (fun _ => ?_) (fun h9 => absurd (hq1.1.trans hr.symm) h9)
  refine z_iload C d_law_752 1 rfl ?_
  have hfin : Z l D clsB B 215 RL 10 X (k + 1) (sl + 6) (LM B ca (offerF σ (xs (6 * t + 1)) (xs (6 * t + 2)) (xs (6 * t + 3)) (xs (6 * t + 4)) (xs (6 * t + 5))).2 τ'' x' y') 769 [(7, .int r2), (6, .int r), (5, .int (nI (6 * t))), (4, .ref (B + 214)), (3, .ref (B + 213)), (2, .ref (B + 182)), (1, .ref (B + 0)), (0, .ref a)] [] := by
    refine z_goto C 1662 d_law_769 (by decide) ?_
    refine z_loc [2, 3, 4, 5, 6, 7] rfl ?_
    exact kk _ _ _ _ _ hq1
  refine z_if_ne C 769 d_law_754 (by decide) (fun _ => hfin) (fun h9 => ?_)
  obtain ⟨v9, hv⟩ := cd_I (by decide) (ok_offer σ (xs (6 * t + 1)) (xs (6 * t + 2)) (xs (6 * t + 3)) (xs (6 * t + 4)) (xs (6 * t + 5))) (hr.symm.trans h9)
  have e1 := hq2 _ hv
  cases e1
  refine z_aload_n C d_law_757 rfl 4 rfl ?_
  refine z_iconst C (v := 0) d_law_758 (by decide) ?_
  refine z_lald C (o := 213) d_law_759 8 rfl (by decide) rfl rfl (by unfold vp_in; decide) ?_
  refine z_iload C d_law_760 0 rfl ?_
  refine z_i2l C d_law_762 ?_
  refine z_lcmp C d_law_763 ?_
  refine z_ri (x' := 0) (by rw [show x' (Int32.toNatClampNeg 0) = _ from hx _ hv]; exact lg_same _) ?_
  exact z_if_eq C 769 d_law_764 (by decide) (fun _ => hfin) (fun h8 => absurd rfl h8)
set_option maxRecDepth 100000 in
set_option maxHeartbeats 4000000 in
theorem law_call {l : Launch} {D : va_G} {ca : Nat → ClassId} {B a N t k sl : Nat} {X : Zx} {w0 : Cond} {σ τ : Sg} {xo : Nat → Int64} {yo : Nat → UInt64} {e : Int32} {xs : Nat → Int32} (hl : l.stackTraces = false) (C : Cx D clsB (tyL ca) code 10 "RobotBusLaw" (w0 :: gtb) X) (hE : ExA X.2.2.1 B) (hX : va_X a N xs X.2.2.1 X.2.2.1.heap) (ha : a < X.2.2.1.heap.size) (hB : X.2.2.1.heap.size ≤ B) (ht : 6 * t + 6 ≤ N) (hN : N ≤ 3072) (hk : k + 1 ≤ 632047) (hs : sl + 6 ≤ 7199964) (h : Rl e (σ.1 3 0 0 0) (σ.1 4 0 0 0) σ τ)
    (kk : ∀ (σ' τ' : Sg) (x' : Nat → Int64) (y' : Nat → UInt64) (e' : Int32), Rl e' (σ'.1 3 0 0 0) (σ'.1 4 0 0 0) σ' τ' → Z l D clsB B 215 RL 10 X (k + 1) (sl + 6) (LM B ca σ' τ' x' y') 1662 (LLw a B t) []) : Z l D clsB B 215 RL 10 X k sl (LM B ca σ τ xo yo) 772 (LLw a B t) [] := by
  refine z_aload_n C d_law_772 rfl 4 rfl ?_
  refine z_scr C hX ha hB ht hN (j := 1) (by decide) 0 5 rfl rfl d_law_773 d_law_774 d_law_776 d_law_777 d_law_778 ?_
  refine z_scr C hX ha hB ht hN (j := 2) (by decide) 0 5 rfl rfl d_law_779 d_law_780 d_law_782 d_law_783 d_law_784 ?_
  refine z_aload_n C d_law_785 rfl 2 rfl ?_
  refine z_ad C hE d_law_786 (c_Law_call l hl D ca B σ τ xo yo (xs (6 * t + 1)) (xs (6 * t + 2)) h.bi) tw_502 tw_503 tw_0 tv_Law_call pd_Law_call ⟨⟨by decide, by decide⟩, rfl, rfl, hk, hs⟩ (Nat.le_of_ble_eq_true rfl) rfl (fun r σ' x' y' hp => ?_)
  obtain ⟨hr, rfl, hx⟩ := hp
  refine z_istore C d_law_789 (by decide) [(6, .int r), (5, .int (nI (6 * t))), (4, .ref (B + 214)), (3, .ref (B + 213)), (2, .ref (B + 182)), (1, .ref (B + 0)), (0, .ref a)] rfl ?_
  refine z_aload_n C d_law_791 rfl 4 rfl ?_
  refine z_scr C hX ha hB ht hN (j := 1) (by decide) 1 6 rfl rfl d_law_792 d_law_793 d_law_795 d_law_796 d_law_797 ?_
  refine z_scr C hX ha hB ht hN (j := 2) (by decide) 1 6 rfl rfl d_law_798 d_law_799 d_law_801 d_law_802 d_law_803 ?_
  refine z_mdl C d_law_804 (c_Mdl_call l D ca (B + 182) τ e (xs (6 * t + 1)) (xs (6 * t + 2)) h) tw_945 tw_946 tw_947 tw_10 tw_948 pd_Mdl_call ⟨⟨by decide, by decide⟩, rfl, rfl, hk, hs⟩ (Nat.le_of_ble_eq_true rfl) rfl (fun r2 τ' hq => ?_)
  obtain ⟨hq1, hq2⟩ := hq
  refine z_istore C d_law_807 (by decide) [(7, .int r2), (6, .int r), (5, .int (nI (6 * t))), (4, .ref (B + 214)), (3, .ref (B + 213)), (2, .ref (B + 182)), (1, .ref (B + 0)), (0, .ref a)] rfl ?_
  refine z_aload_n C d_law_809 rfl 5 rfl ?_
  refine z_mdl C d_law_810 (c_Mdl_thrown l D ca (B + 182) τ') tw_880 tw_881 tw_882 tw_10 tw_883 pd_Mdl_thrown ⟨⟨by decide, by decide⟩, rfl, rfl, hk, hs⟩ (Nat.le_of_ble_eq_true rfl) rfl (fun r3 τ'' h3 => ?_)
  obtain ⟨rfl, rfl⟩ := h3
  refine z_iload C d_law_813 1 rfl ?_
  refine z_icmp_eq C 820 d_law_815 (by decide) (fun _ => ?_) (fun h9 => absurd (hq1.1.trans hr.symm) h9)
  refine z_iload C d_law_820 1 rfl ?_
  have hfin : Z l D clsB B 215 RL 10 X (k + 1) (sl + 6) (LM B ca (callF σ (xs (6 * t + 1)) (xs (6 * t + 2))).2 τ'' x' y') 837 [(7, .int r2), (6, .int r), (5, .int (nI (6 * t))), (4, .ref (B + 214)), (3, .ref (B + 213)), (2, .ref (B + 182)), (1, .ref (B + 0)), (0, .ref a)] [] := by
    refine z_goto C 1662 d_law_837 (by decide) ?_
    refine z_loc [2, 3, 4, 5, 6, 7] rfl ?_
    exact kk _ _ _ _ _ hq1
  refine z_if_ne C 837 d_law_822 (by decide) (fun _ => hfin) (fun h9 => ?_)
  obtain ⟨v9, hv⟩ := cd_I (by decide) (ok_call σ (xs (6 * t + 1)) (xs (6 * t + 2))) (hr.symm.trans h9)
  have e1 := hq2 _ hv
  cases e1
  refine z_aload_n C d_law_825 rfl 4 rfl ?_
  refine z_iconst C (v := 0) d_law_826 (by decide) ?_
  refine z_lald C (o := 213) d_law_827 8 rfl (by decide) rfl rfl (by unfold vp_in; decide) ?_
  refine z_iload C d_law_828 0 rfl ?_
  refine z_i2l C d_law_830 ?_
  refine z_lcmp C d_law_831 ?_
  refine z_ri (x' := 0) (by rw [show x' (Int32.toNatClampNeg 0) = _ from hx _ hv]; exact lg_same _) ?_
  exact z_if_eq C 837 d_law_832 (by decide) (fun _ => hfin) (fun h8 => absurd rfl h8)
set_option maxRecDepth 100000 in
set_option maxHeartbeats 4000000 in
theorem law_tick {l : Launch} {D : va_G} {ca : Nat → ClassId} {B a N t k sl : Nat} {X : Zx} {w0 : Cond} {σ τ : Sg} {xo : Nat → Int64} {yo : Nat → UInt64} {e : Int32} {xs : Nat → Int32} (hl : l.stackTraces = false) (C : Cx D clsB (tyL ca) code 10 "RobotBusLaw" (w0 :: gtb) X) (hE : ExA X.2.2.1 B) (hX : va_X a N xs X.2.2.1 X.2.2.1.heap) (ha : a < X.2.2.1.heap.size) (hB : X.2.2.1.heap.size ≤ B) (ht : 6 * t + 6 ≤ N) (hN : N ≤ 3072) (hk : k + 1 ≤ 632047) (hs : sl + 6 ≤ 7199964) (h : Rl e (σ.1 3 0 0 0) (σ.1 4 0 0 0) σ τ)
    (kk : ∀ (σ' τ' : Sg) (x' : Nat → Int64) (y' : Nat → UInt64) (e' : Int32), Rl e' (σ'.1 3 0 0 0) (σ'.1 4 0 0 0) σ' τ' → Z l D clsB B 215 RL 10 X (k + 1) (sl + 6) (LM B ca σ' τ' x' y') 1662 (LLw a B t) []) : Z l D clsB B 215 RL 10 X k sl (LM B ca σ τ xo yo) 840 (LLw a B t) [] := by
  refine z_aload_n C d_law_840 rfl 4 rfl ?_
  refine z_scr C hX ha hB ht hN (j := 1) (by decide) 0 5 rfl rfl d_law_841 d_law_842 d_law_844 d_law_845 d_law_846 ?_
  refine z_aload_n C d_law_847 rfl 2 rfl ?_
  refine z_ad C hE d_law_848 (c_Law_tick l hl D ca B σ τ xo yo (xs (6 * t + 1)) h.bi) tw_536 tw_537 tw_0 tv_Law_tick pd_Law_tick ⟨⟨by decide, by decide⟩, rfl, rfl, hk, hs⟩ (Nat.le_of_ble_eq_true rfl) rfl (fun r σ' x' y' hp => ?_)
  obtain ⟨hr, rfl, hx⟩ := hp
  refine z_istore C d_law_851 (by decide) [(6, .int r), (5, .int (nI (6 * t))), (4, .ref (B + 214)), (3, .ref (B + 213)), (2, .ref (B + 182)), (1, .ref (B + 0)), (0, .ref a)] rfl ?_
  refine z_aload_n C d_law_853 rfl 4 rfl ?_
  refine z_scr C hX ha hB ht hN (j := 1) (by decide) 1 6 rfl rfl d_law_854 d_law_855 d_law_857 d_law_858 d_law_859 ?_
  refine z_mdl C d_law_860 (c_Mdl_tick l D ca (B + 182) τ e (xs (6 * t + 1)) h) tw_953 tw_954 tw_955 tw_10 tw_956 pd_Mdl_tick ⟨⟨by decide, by decide⟩, rfl, rfl, hk, hs⟩ (Nat.le_of_ble_eq_true rfl) rfl (fun r2 τ' hq => ?_)
  obtain ⟨hq1, hq2⟩ := hq
  refine z_istore C d_law_863 (by decide) [(7, .int r2), (6, .int r), (5, .int (nI (6 * t))), (4, .ref (B + 214)), (3, .ref (B + 213)), (2, .ref (B + 182)), (1, .ref (B + 0)), (0, .ref a)] rfl ?_
  refine z_aload_n C d_law_865 rfl 5 rfl ?_
  refine z_mdl C d_law_866 (c_Mdl_thrown l D ca (B + 182) τ') tw_880 tw_881 tw_882 tw_10 tw_883 pd_Mdl_thrown ⟨⟨by decide, by decide⟩, rfl, rfl, hk, hs⟩ (Nat.le_of_ble_eq_true rfl) rfl (fun r3 τ'' h3 => ?_)
  obtain ⟨rfl, rfl⟩ := h3
  refine z_iload C d_law_869 1 rfl ?_
  refine z_icmp_eq C 876 d_law_871 (by decide) (fun _ => ?_) (fun h9 => absurd (hq1.1.trans hr.symm) h9)
  refine z_iload C d_law_876 1 rfl ?_
  have hfin : Z l D clsB B 215 RL 10 X (k + 1) (sl + 6) (LM B ca (tickX σ (xs (6 * t + 1))).2 τ'' x' y') 893 [(7, .int r2), (6, .int r), (5, .int (nI (6 * t))), (4, .ref (B + 214)), (3, .ref (B + 213)), (2, .ref (B + 182)), (1, .ref (B + 0)), (0, .ref a)] [] := by
    refine z_goto C 1662 d_law_893 (by decide) ?_
    refine z_loc [2, 3, 4, 5, 6, 7] rfl ?_
    exact kk _ _ _ _ _ hq1
  refine z_if_ne C 893 d_law_878 (by decide) (fun _ => hfin) (fun h9 => ?_)
  obtain ⟨v9, hv⟩ := cd_I (by decide) (ok_tick σ (xs (6 * t + 1))) (hr.symm.trans h9)
  have e1 := hq2 _ hv
  cases e1
  refine z_aload_n C d_law_881 rfl 4 rfl ?_
  refine z_iconst C (v := 0) d_law_882 (by decide) ?_
  refine z_lald C (o := 213) d_law_883 8 rfl (by decide) rfl rfl (by unfold vp_in; decide) ?_
  refine z_iload C d_law_884 0 rfl ?_
  refine z_i2l C d_law_886 ?_
  refine z_lcmp C d_law_887 ?_
  refine z_ri (x' := 0) (by rw [show x' (Int32.toNatClampNeg 0) = _ from hx _ hv]; exact lg_same _) ?_
  exact z_if_eq C 893 d_law_888 (by decide) (fun _ => hfin) (fun h8 => absurd rfl h8)
set_option maxRecDepth 100000 in
set_option maxHeartbeats 4000000 in
theorem law_variable {l : Launch} {D : va_G} {ca : Nat → ClassId} {B a N t k sl : Nat} {X : Zx} {w0 : Cond} {σ τ : Sg} {xo : Nat → Int64} {yo : Nat → UInt64} {e : Int32} {xs : Nat → Int32} (hl : l.stackTraces = false) (C : Cx D clsB (tyL ca) code 10 "RobotBusLaw" (w0 :: gtb) X) (hE : ExA X.2.2.1 B) (hX : va_X a N xs X.2.2.1 X.2.2.1.heap) (ha : a < X.2.2.1.heap.size) (hB : X.2.2.1.heap.size ≤ B) (ht : 6 * t + 6 ≤ N) (hN : N ≤ 3072) (hk : k + 1 ≤ 632047) (hs : sl + 6 ≤ 7199964) (h : Rl e (σ.1 3 0 0 0) (σ.1 4 0 0 0) σ τ)
    (kk : ∀ (σ' τ' : Sg) (x' : Nat → Int64) (y' : Nat → UInt64) (e' : Int32), Rl e' (σ'.1 3 0 0 0) (σ'.1 4 0 0 0) σ' τ' → Z l D clsB B 215 RL 10 X (k + 1) (sl + 6) (LM B ca σ' τ' x' y') 1662 (LLw a B t) []) : Z l D clsB B 215 RL 10 X k sl (LM B ca σ τ xo yo) 896 (LLw a B t) [] := by
  refine z_aload_n C d_law_896 rfl 4 rfl ?_
  refine z_scr C hX ha hB ht hN (j := 1) (by decide) 0 5 rfl rfl d_law_897 d_law_898 d_law_900 d_law_901 d_law_902 ?_
  refine z_scr C hX ha hB ht hN (j := 2) (by decide) 0 5 rfl rfl d_law_903 d_law_904 d_law_906 d_law_907 d_law_908 ?_
  refine z_aload_n C d_law_909 rfl 2 rfl ?_
  refine z_ad C hE d_law_910 (c_Law_variable l hl D ca B σ τ xo yo (xs (6 * t + 1)) (xs (6 * t + 2))) tw_581 tw_582 tw_0 tv_Law_variable pd_Law_variable ⟨⟨by decide, by decide⟩, rfl, rfl, hk, hs⟩ (Nat.le_of_ble_eq_true rfl) rfl (fun r σ' x' y' hp => ?_)
  obtain ⟨hr, rfl, hx⟩ := hp
  refine z_istore C d_law_913 (by decide) [(6, .int r), (5, .int (nI (6 * t))), (4, .ref (B + 214)), (3, .ref (B + 213)), (2, .ref (B + 182)), (1, .ref (B + 0)), (0, .ref a)] rfl ?_
  refine z_aload_n C d_law_915 rfl 4 rfl ?_
  refine z_scr C hX ha hB ht hN (j := 1) (by decide) 1 6 rfl rfl d_law_916 d_law_917 d_law_919 d_law_920 d_law_921 ?_
  refine z_scr C hX ha hB ht hN (j := 2) (by decide) 1 6 rfl rfl d_law_922 d_law_923 d_law_925 d_law_926 d_law_927 ?_
  refine z_mdl C d_law_928 (c_Mdl_variable l D ca (B + 182) τ e (xs (6 * t + 1)) (xs (6 * t + 2)) h) tw_969 tw_970 tw_971 tw_10 tw_972 pd_Mdl_variable ⟨⟨by decide, by decide⟩, rfl, rfl, hk, hs⟩ (Nat.le_of_ble_eq_true rfl) rfl (fun r2 τ' hq => ?_)
  obtain ⟨hq1, hq2⟩ := hq
  refine z_istore C d_law_931 (by decide) [(7, .int r2), (6, .int r), (5, .int (nI (6 * t))), (4, .ref (B + 214)), (3, .ref (B + 213)), (2, .ref (B + 182)), (1, .ref (B + 0)), (0, .ref a)] rfl ?_
  refine z_aload_n C d_law_933 rfl 5 rfl ?_
  refine z_mdl C d_law_934 (c_Mdl_thrown l D ca (B + 182) τ') tw_880 tw_881 tw_882 tw_10 tw_883 pd_Mdl_thrown ⟨⟨by decide, by decide⟩, rfl, rfl, hk, hs⟩ (Nat.le_of_ble_eq_true rfl) rfl (fun r3 τ'' h3 => ?_)
  obtain ⟨rfl, rfl⟩ := h3
  refine z_iload C d_law_937 1 rfl ?_
  refine z_icmp_eq C 944 d_law_939 (by decide) (fun _ => ?_) (fun h9 => absurd (hq1.1.trans hr.symm) h9)
  refine z_iload C d_law_944 1 rfl ?_
  have hfin : Z l D clsB B 215 RL 10 X (k + 1) (sl + 6) (LM B ca (varF' σ (xs (6 * t + 1)) (xs (6 * t + 2))).2 τ'' x' y') 961 [(7, .int r2), (6, .int r), (5, .int (nI (6 * t))), (4, .ref (B + 214)), (3, .ref (B + 213)), (2, .ref (B + 182)), (1, .ref (B + 0)), (0, .ref a)] [] := by
    refine z_goto C 1662 d_law_961 (by decide) ?_
    refine z_loc [2, 3, 4, 5, 6, 7] rfl ?_
    exact kk _ _ _ _ _ hq1
  refine z_if_ne C 961 d_law_946 (by decide) (fun _ => hfin) (fun h9 => ?_)
  obtain ⟨v9, hv⟩ := cd_I (by decide) (ok_variable σ (xs (6 * t + 1)) (xs (6 * t + 2))) (hr.symm.trans h9)
  have e1 := hq2 _ hv
  cases e1
  refine z_aload_n C d_law_949 rfl 4 rfl ?_
  refine z_iconst C (v := 0) d_law_950 (by decide) ?_
  refine z_lald C (o := 213) d_law_951 8 rfl (by decide) rfl rfl (by unfold vp_in; decide) ?_
  refine z_iload C d_law_952 0 rfl ?_
  refine z_i2l C d_law_954 ?_
  refine z_lcmp C d_law_955 ?_
  refine z_ri (x' := 0) (by rw [show x' (Int32.toNatClampNeg 0) = _ from hx _ hv]; exact lg_same _) ?_
  exact z_if_eq C 961 d_law_956 (by decide) (fun _ => hfin) (fun h8 => absurd rfl h8)
set_option maxRecDepth 100000 in
set_option maxHeartbeats 4000000 in
theorem law_queued {l : Launch} {D : va_G} {ca : Nat → ClassId} {B a N t k sl : Nat} {X : Zx} {w0 : Cond} {σ τ : Sg} {xo : Nat → Int64} {yo : Nat → UInt64} {e : Int32} {xs : Nat → Int32} (hl : l.stackTraces = false) (C : Cx D clsB (tyL ca) code 10 "RobotBusLaw" (w0 :: gtb) X) (hE : ExA X.2.2.1 B) (hX : va_X a N xs X.2.2.1 X.2.2.1.heap) (ha : a < X.2.2.1.heap.size) (hB : X.2.2.1.heap.size ≤ B) (ht : 6 * t + 6 ≤ N) (hN : N ≤ 3072) (hk : k + 1 ≤ 632047) (hs : sl + 6 ≤ 7199964) (h : Rl e (σ.1 3 0 0 0) (σ.1 4 0 0 0) σ τ)
    (kk : ∀ (σ' τ' : Sg) (x' : Nat → Int64) (y' : Nat → UInt64) (e' : Int32), Rl e' (σ'.1 3 0 0 0) (σ'.1 4 0 0 0) σ' τ' → Z l D clsB B 215 RL 10 X (k + 1) (sl + 6) (LM B ca σ' τ' x' y') 1662 (LLw a B t) []) : Z l D clsB B 215 RL 10 X k sl (LM B ca σ τ xo yo) 964 (LLw a B t) [] := by
  refine z_aload_n C d_law_964 rfl 4 rfl ?_
  refine z_scr C hX ha hB ht hN (j := 1) (by decide) 0 5 rfl rfl d_law_965 d_law_966 d_law_968 d_law_969 d_law_970 ?_
  refine z_scr C hX ha hB ht hN (j := 2) (by decide) 0 5 rfl rfl d_law_971 d_law_972 d_law_974 d_law_975 d_law_976 ?_
  refine z_scr C hX ha hB ht hN (j := 3) (by decide) 0 5 rfl rfl d_law_977 d_law_978 d_law_980 d_law_981 d_law_982 ?_
  refine z_scr C hX ha hB ht hN (j := 4) (by decide) 0 5 rfl rfl d_law_983 d_law_984 d_law_986 d_law_987 d_law_988 ?_
  refine z_aload_n C d_law_989 rfl 2 rfl ?_
  refine z_ad C hE d_law_990 (c_Law_queued l hl D ca B σ τ xo yo (xs (6 * t + 1)) (xs (6 * t + 2)) (xs (6 * t + 3)) (xs (6 * t + 4)) h.bi) tw_589 tw_590 tw_0 tv_Law_queued pd_Law_queued ⟨⟨by decide, by decide⟩, rfl, rfl, hk, hs⟩ (Nat.le_of_ble_eq_true rfl) rfl (fun r σ' x' y' hp => ?_)
  obtain ⟨hr, rfl, hx⟩ := hp
  refine z_istore C d_law_993 (by decide) [(6, .int r), (5, .int (nI (6 * t))), (4, .ref (B + 214)), (3, .ref (B + 213)), (2, .ref (B + 182)), (1, .ref (B + 0)), (0, .ref a)] rfl ?_
  refine z_aload_n C d_law_995 rfl 4 rfl ?_
  refine z_scr C hX ha hB ht hN (j := 1) (by decide) 1 6 rfl rfl d_law_996 d_law_997 d_law_999 d_law_1000 d_law_1001 ?_
  refine z_scr C hX ha hB ht hN (j := 2) (by decide) 1 6 rfl rfl d_law_1002 d_law_1003 d_law_1005 d_law_1006 d_law_1007 ?_
  refine z_scr C hX ha hB ht hN (j := 3) (by decide) 1 6 rfl rfl d_law_1008 d_law_1009 d_law_1011 d_law_1012 d_law_1013 ?_
  refine z_scr C hX ha hB ht hN (j := 4) (by decide) 1 6 rfl rfl d_law_1014 d_law_1015 d_law_1017 d_law_1018 d_law_1019 ?_
  refine z_mdl C d_law_1020 (c_Mdl_queued l D ca (B + 182) τ e (xs (6 * t + 1)) (xs (6 * t + 2)) (xs (6 * t + 3)) (xs (6 * t + 4)) h) tw_973 tw_974 tw_975 tw_10 tw_976 pd_Mdl_queued ⟨⟨by decide, by decide⟩, rfl, rfl, hk, hs⟩ (Nat.le_of_ble_eq_true rfl) rfl (fun r2 τ' hq => ?_)
  obtain ⟨hq1, hq2⟩ := hq
  refine z_istore C d_law_1023 (by decide) [(7, .int r2), (6, .int r), (5, .int (nI (6 * t))), (4, .ref (B + 214)), (3, .ref (B + 213)), (2, .ref (B + 182)), (1, .ref (B + 0)), (0, .ref a)] rfl ?_
  refine z_aload_n C d_law_1025 rfl 5 rfl ?_
  refine z_mdl C d_law_1026 (c_Mdl_thrown l D ca (B + 182) τ') tw_880 tw_881 tw_882 tw_10 tw_883 pd_Mdl_thrown ⟨⟨by decide, by decide⟩, rfl, rfl, hk, hs⟩ (Nat.le_of_ble_eq_true rfl) rfl (fun r3 τ'' h3 => ?_)
  obtain ⟨rfl, rfl⟩ := h3
  refine z_iload C d_law_1029 1 rfl ?_
  refine z_icmp_eq C 1036 d_law_1031 (by decide) (fun _ => ?_) (fun h9 => absurd (hq1.1.trans hr.symm) h9)
  refine z_iload C d_law_1036 1 rfl ?_
  have hfin : Z l D clsB B 215 RL 10 X (k + 1) (sl + 6) (LM B ca (queuF σ (xs (6 * t + 1)) (xs (6 * t + 2)) (xs (6 * t + 3)) (xs (6 * t + 4))).2 τ'' x' y') 1053 [(7, .int r2), (6, .int r), (5, .int (nI (6 * t))), (4, .ref (B + 214)), (3, .ref (B + 213)), (2, .ref (B + 182)), (1, .ref (B + 0)), (0, .ref a)] [] := by
    refine z_goto C 1662 d_law_1053 (by decide) ?_
    refine z_loc [2, 3, 4, 5, 6, 7] rfl ?_
    exact kk _ _ _ _ _ hq1
  refine z_if_ne C 1053 d_law_1038 (by decide) (fun _ => hfin) (fun h9 => ?_)
  obtain ⟨v9, hv⟩ := cd_I (by decide) (ok_queued σ (xs (6 * t + 1)) (xs (6 * t + 2)) (xs (6 * t + 3)) (xs (6 * t + 4))) (hr.symm.trans h9)
  have e1 := hq2 _ hv
  cases e1
  refine z_aload_n C d_law_1041 rfl 4 rfl ?_
  refine z_iconst C (v := 0) d_law_1042 (by decide) ?_
  refine z_lald C (o := 213) d_law_1043 8 rfl (by decide) rfl rfl (by unfold vp_in; decide) ?_
  refine z_iload C d_law_1044 0 rfl ?_
  refine z_i2l C d_law_1046 ?_
  refine z_lcmp C d_law_1047 ?_
  refine z_ri (x' := 0) (by rw [show x' (Int32.toNatClampNeg 0) = _ from hx _ hv]; exact lg_same _) ?_
  exact z_if_eq C 1053 d_law_1048 (by decide) (fun _ => hfin) (fun h8 => absurd rfl h8)
set_option maxRecDepth 100000 in
set_option maxHeartbeats 4000000 in
theorem law_keep {l : Launch} {D : va_G} {ca : Nat → ClassId} {B a N t k sl : Nat} {X : Zx} {w0 : Cond} {σ τ : Sg} {xo : Nat → Int64} {yo : Nat → UInt64} {e : Int32} {xs : Nat → Int32} (hl : l.stackTraces = false) (C : Cx D clsB (tyL ca) code 10 "RobotBusLaw" (w0 :: gtb) X) (hE : ExA X.2.2.1 B) (hX : va_X a N xs X.2.2.1 X.2.2.1.heap) (ha : a < X.2.2.1.heap.size) (hB : X.2.2.1.heap.size ≤ B) (ht : 6 * t + 6 ≤ N) (hN : N ≤ 3072) (hk : k + 1 ≤ 632047) (hs : sl + 6 ≤ 7199964) (h : Rl e (σ.1 3 0 0 0) (σ.1 4 0 0 0) σ τ)
    (kk : ∀ (σ' τ' : Sg) (x' : Nat → Int64) (y' : Nat → UInt64) (e' : Int32), Rl e' (σ'.1 3 0 0 0) (σ'.1 4 0 0 0) σ' τ' → Z l D clsB B 215 RL 10 X (k + 1) (sl + 6) (LM B ca σ' τ' x' y') 1662 (LLw a B t) []) : Z l D clsB B 215 RL 10 X k sl (LM B ca σ τ xo yo) 1056 (LLw a B t) [] := by
  refine z_aload_n C d_law_1056 rfl 4 rfl ?_
  refine z_scr C hX ha hB ht hN (j := 1) (by decide) 0 5 rfl rfl d_law_1057 d_law_1058 d_law_1060 d_law_1061 d_law_1062 ?_
  refine z_scr C hX ha hB ht hN (j := 2) (by decide) 0 5 rfl rfl d_law_1063 d_law_1064 d_law_1066 d_law_1067 d_law_1068 ?_
  refine z_bool C d_law_1069 d_law_1072 d_law_1073 d_law_1076 ?_
  refine z_aload_n C d_law_1077 rfl 2 rfl ?_
  refine z_ad C hE d_law_1078 (c_Law_keep l hl D ca B σ τ xo yo (xs (6 * t + 1)) (ob (xs (6 * t + 2))) (ob_01 _)) tw_600 tw_601 tw_0 tv_Law_keep pd_Law_keep ⟨⟨by decide, by decide⟩, rfl, rfl, hk, hs⟩ (Nat.le_of_ble_eq_true rfl) rfl (fun r σ' x' y' hp => ?_)
  obtain ⟨hr, rfl, hx⟩ := hp
  refine z_istore C d_law_1081 (by decide) [(6, .int r), (5, .int (nI (6 * t))), (4, .ref (B + 214)), (3, .ref (B + 213)), (2, .ref (B + 182)), (1, .ref (B + 0)), (0, .ref a)] rfl ?_
  refine z_aload_n C d_law_1083 rfl 4 rfl ?_
  refine z_scr C hX ha hB ht hN (j := 1) (by decide) 1 6 rfl rfl d_law_1084 d_law_1085 d_law_1087 d_law_1088 d_law_1089 ?_
  refine z_scr C hX ha hB ht hN (j := 2) (by decide) 1 6 rfl rfl d_law_1090 d_law_1091 d_law_1093 d_law_1094 d_law_1095 ?_
  refine z_bool C d_law_1096 d_law_1099 d_law_1100 d_law_1103 ?_
  refine z_mdl C d_law_1104 (c_Mdl_keep l D ca (B + 182) τ e (xs (6 * t + 1)) (ob (xs (6 * t + 2))) (ob_01 _) h) tw_977 tw_978 tw_979 tw_10 tw_980 pd_Mdl_keep ⟨⟨by decide, by decide⟩, rfl, rfl, hk, hs⟩ (Nat.le_of_ble_eq_true rfl) rfl (fun r2 τ' hq => ?_)
  obtain ⟨hq1, hq2⟩ := hq
  refine z_istore C d_law_1107 (by decide) [(7, .int r2), (6, .int r), (5, .int (nI (6 * t))), (4, .ref (B + 214)), (3, .ref (B + 213)), (2, .ref (B + 182)), (1, .ref (B + 0)), (0, .ref a)] rfl ?_
  refine z_aload_n C d_law_1109 rfl 5 rfl ?_
  refine z_mdl C d_law_1110 (c_Mdl_thrown l D ca (B + 182) τ') tw_880 tw_881 tw_882 tw_10 tw_883 pd_Mdl_thrown ⟨⟨by decide, by decide⟩, rfl, rfl, hk, hs⟩ (Nat.le_of_ble_eq_true rfl) rfl (fun r3 τ'' h3 => ?_)
  obtain ⟨rfl, rfl⟩ := h3
  refine z_iload C d_law_1113 1 rfl ?_
  refine z_icmp_eq C 1120 d_law_1115 (by decide) (fun _ => ?_) (fun h9 => absurd (hq1.1.trans hr.symm) h9)
  refine z_iload C d_law_1120 1 rfl ?_
  have hfin : Z l D clsB B 215 RL 10 X (k + 1) (sl + 6) (LM B ca (keepF σ (xs (6 * t + 1)) (ob (xs (6 * t + 2)))).2 τ'' x' y') 1137 [(7, .int r2), (6, .int r), (5, .int (nI (6 * t))), (4, .ref (B + 214)), (3, .ref (B + 213)), (2, .ref (B + 182)), (1, .ref (B + 0)), (0, .ref a)] [] := by
    refine z_goto C 1662 d_law_1137 (by decide) ?_
    refine z_loc [2, 3, 4, 5, 6, 7] rfl ?_
    exact kk _ _ _ _ _ hq1
  refine z_if_ne C 1137 d_law_1122 (by decide) (fun _ => hfin) (fun h9 => ?_)
  obtain ⟨v9, hv⟩ := cd_I (by decide) (ok_keep σ (xs (6 * t + 1)) (ob (xs (6 * t + 2)))) (hr.symm.trans h9)
  have e1 := hq2 _ hv
  cases e1
  refine z_aload_n C d_law_1125 rfl 4 rfl ?_
  refine z_iconst C (v := 0) d_law_1126 (by decide) ?_
  refine z_lald C (o := 213) d_law_1127 8 rfl (by decide) rfl rfl (by unfold vp_in; decide) ?_
  refine z_iload C d_law_1128 0 rfl ?_
  refine z_i2l C d_law_1130 ?_
  refine z_lcmp C d_law_1131 ?_
  refine z_ri (x' := 0) (by rw [show x' (Int32.toNatClampNeg 0) = _ from hx _ hv]; exact lg_same _) ?_
  exact z_if_eq C 1137 d_law_1132 (by decide) (fun _ => hfin) (fun h8 => absurd rfl h8)
set_option maxRecDepth 100000 in
set_option maxHeartbeats 4000000 in
theorem law_play {l : Launch} {D : va_G} {ca : Nat → ClassId} {B a N t k sl : Nat} {X : Zx} {w0 : Cond} {σ τ : Sg} {xo : Nat → Int64} {yo : Nat → UInt64} {e : Int32} {xs : Nat → Int32} (hl : l.stackTraces = false) (C : Cx D clsB (tyL ca) code 10 "RobotBusLaw" (w0 :: gtb) X) (hE : ExA X.2.2.1 B) (hX : va_X a N xs X.2.2.1 X.2.2.1.heap) (ha : a < X.2.2.1.heap.size) (hB : X.2.2.1.heap.size ≤ B) (ht : 6 * t + 6 ≤ N) (hN : N ≤ 3072) (hk : k + 1 ≤ 632047) (hs : sl + 6 ≤ 7199964) (h : Rl e (σ.1 3 0 0 0) (σ.1 4 0 0 0) σ τ)
    (kk : ∀ (σ' τ' : Sg) (x' : Nat → Int64) (y' : Nat → UInt64) (e' : Int32), Rl e' (σ'.1 3 0 0 0) (σ'.1 4 0 0 0) σ' τ' → Z l D clsB B 215 RL 10 X (k + 1) (sl + 6) (LM B ca σ' τ' x' y') 1662 (LLw a B t) []) : Z l D clsB B 215 RL 10 X k sl (LM B ca σ τ xo yo) 1140 (LLw a B t) [] := by
  refine z_aload_n C d_law_1140 rfl 4 rfl ?_
  refine z_scr C hX ha hB ht hN (j := 1) (by decide) 0 5 rfl rfl d_law_1141 d_law_1142 d_law_1144 d_law_1145 d_law_1146 ?_
  refine z_aload_n C d_law_1147 rfl 2 rfl ?_
  refine z_ad C hE d_law_1148 (c_Law_play l hl D ca B σ τ xo yo (xs (6 * t + 1))) tw_607 tw_608 tw_0 tv_Law_play pd_Law_play ⟨⟨by decide, by decide⟩, rfl, rfl, hk, hs⟩ (Nat.le_of_ble_eq_true rfl) rfl (fun r σ' x' y' hp => ?_)
  obtain ⟨hr, rfl, hx⟩ := hp
  refine z_istore C d_law_1151 (by decide) [(6, .int r), (5, .int (nI (6 * t))), (4, .ref (B + 214)), (3, .ref (B + 213)), (2, .ref (B + 182)), (1, .ref (B + 0)), (0, .ref a)] rfl ?_
  refine z_aload_n C d_law_1153 rfl 4 rfl ?_
  refine z_scr C hX ha hB ht hN (j := 1) (by decide) 1 6 rfl rfl d_law_1154 d_law_1155 d_law_1157 d_law_1158 d_law_1159 ?_
  refine z_mdl C d_law_1160 (c_Mdl_play l D ca (B + 182) τ e (xs (6 * t + 1)) h) tw_981 tw_982 tw_983 tw_10 tw_984 pd_Mdl_play ⟨⟨by decide, by decide⟩, rfl, rfl, hk, hs⟩ (Nat.le_of_ble_eq_true rfl) rfl (fun r2 τ' hq => ?_)
  obtain ⟨hq1, hq2⟩ := hq
  refine z_istore C d_law_1163 (by decide) [(7, .int r2), (6, .int r), (5, .int (nI (6 * t))), (4, .ref (B + 214)), (3, .ref (B + 213)), (2, .ref (B + 182)), (1, .ref (B + 0)), (0, .ref a)] rfl ?_
  refine z_aload_n C d_law_1165 rfl 5 rfl ?_
  refine z_mdl C d_law_1166 (c_Mdl_thrown l D ca (B + 182) τ') tw_880 tw_881 tw_882 tw_10 tw_883 pd_Mdl_thrown ⟨⟨by decide, by decide⟩, rfl, rfl, hk, hs⟩ (Nat.le_of_ble_eq_true rfl) rfl (fun r3 τ'' h3 => ?_)
  obtain ⟨rfl, rfl⟩ := h3
  refine z_iload C d_law_1169 1 rfl ?_
  refine z_icmp_eq C 1176 d_law_1171 (by decide) (fun _ => ?_) (fun h9 => absurd (hq1.1.trans hr.symm) h9)
  refine z_iload C d_law_1176 1 rfl ?_
  have hfin : Z l D clsB B 215 RL 10 X (k + 1) (sl + 6) (LM B ca (playF σ (xs (6 * t + 1))).2 τ'' x' y') 1193 [(7, .int r2), (6, .int r), (5, .int (nI (6 * t))), (4, .ref (B + 214)), (3, .ref (B + 213)), (2, .ref (B + 182)), (1, .ref (B + 0)), (0, .ref a)] [] := by
    refine z_goto C 1662 d_law_1193 (by decide) ?_
    refine z_loc [2, 3, 4, 5, 6, 7] rfl ?_
    exact kk _ _ _ _ _ hq1
  refine z_if_ne C 1193 d_law_1178 (by decide) (fun _ => hfin) (fun h9 => ?_)
  obtain ⟨v9, hv⟩ := cd_I (by decide) (ok_play σ (xs (6 * t + 1))) (hr.symm.trans h9)
  have e1 := hq2 _ hv
  cases e1
  refine z_aload_n C d_law_1181 rfl 4 rfl ?_
  refine z_iconst C (v := 0) d_law_1182 (by decide) ?_
  refine z_lald C (o := 213) d_law_1183 8 rfl (by decide) rfl rfl (by unfold vp_in; decide) ?_
  refine z_iload C d_law_1184 0 rfl ?_
  refine z_i2l C d_law_1186 ?_
  refine z_lcmp C d_law_1187 ?_
  refine z_ri (x' := 0) (by rw [show x' (Int32.toNatClampNeg 0) = _ from hx _ hv]; exact lg_same _) ?_
  exact z_if_eq C 1193 d_law_1188 (by decide) (fun _ => hfin) (fun h8 => absurd rfl h8)
set_option maxRecDepth 100000 in
set_option maxHeartbeats 4000000 in
theorem law_empty {l : Launch} {D : va_G} {ca : Nat → ClassId} {B a N t k sl : Nat} {X : Zx} {w0 : Cond} {σ τ : Sg} {xo : Nat → Int64} {yo : Nat → UInt64} {e : Int32} {xs : Nat → Int32} (hl : l.stackTraces = false) (C : Cx D clsB (tyL ca) code 10 "RobotBusLaw" (w0 :: gtb) X) (hE : ExA X.2.2.1 B) (hX : va_X a N xs X.2.2.1 X.2.2.1.heap) (ha : a < X.2.2.1.heap.size) (hB : X.2.2.1.heap.size ≤ B) (ht : 6 * t + 6 ≤ N) (hN : N ≤ 3072) (hk : k + 1 ≤ 632047) (hs : sl + 6 ≤ 7199964) (h : Rl e (σ.1 3 0 0 0) (σ.1 4 0 0 0) σ τ)
    (kk : ∀ (σ' τ' : Sg) (x' : Nat → Int64) (y' : Nat → UInt64) (e' : Int32), Rl e' (σ'.1 3 0 0 0) (σ'.1 4 0 0 0) σ' τ' → Z l D clsB B 215 RL 10 X (k + 1) (sl + 6) (LM B ca σ' τ' x' y') 1662 (LLw a B t) []) : Z l D clsB B 215 RL 10 X k sl (LM B ca σ τ xo yo) 1196 (LLw a B t) [] := by
  refine z_aload_n C d_law_1196 rfl 4 rfl ?_
  refine z_aload_n C d_law_1197 rfl 2 rfl ?_
  refine z_ad C hE d_law_1198 (c_Law_empty l hl D ca B σ τ xo yo) tw_638 tw_639 tw_0 tv_Law_empty pd_Law_empty ⟨⟨by decide, by decide⟩, rfl, rfl, hk, hs⟩ (Nat.le_of_ble_eq_true rfl) rfl (fun r σ' x' y' hp => ?_)
  obtain ⟨hr, rfl, hx⟩ := hp
  refine z_istore C d_law_1201 (by decide) [(6, .int r), (5, .int (nI (6 * t))), (4, .ref (B + 214)), (3, .ref (B + 213)), (2, .ref (B + 182)), (1, .ref (B + 0)), (0, .ref a)] rfl ?_
  refine z_aload_n C d_law_1203 rfl 4 rfl ?_
  refine z_mdl C d_law_1204 (c_Mdl_empty l D ca (B + 182) τ e h) tw_985 tw_986 tw_987 tw_10 tw_988 pd_Mdl_empty ⟨⟨by decide, by decide⟩, rfl, rfl, hk, hs⟩ (Nat.le_of_ble_eq_true rfl) rfl (fun r2 τ' hq => ?_)
  obtain ⟨hq1, hq2⟩ := hq
  refine z_istore C d_law_1207 (by decide) [(7, .int r2), (6, .int r), (5, .int (nI (6 * t))), (4, .ref (B + 214)), (3, .ref (B + 213)), (2, .ref (B + 182)), (1, .ref (B + 0)), (0, .ref a)] rfl ?_
  refine z_aload_n C d_law_1209 rfl 5 rfl ?_
  refine z_mdl C d_law_1210 (c_Mdl_thrown l D ca (B + 182) τ') tw_880 tw_881 tw_882 tw_10 tw_883 pd_Mdl_thrown ⟨⟨by decide, by decide⟩, rfl, rfl, hk, hs⟩ (Nat.le_of_ble_eq_true rfl) rfl (fun r3 τ'' h3 => ?_)
  obtain ⟨rfl, rfl⟩ := h3
  refine z_iload C d_law_1213 1 rfl ?_
  refine z_icmp_eq C 1220 d_law_1215 (by decide) (fun _ => ?_) (fun h9 => absurd (hq1.1.trans hr.symm) h9)
  refine z_iload C d_law_1220 1 rfl ?_
  have hfin : Z l D clsB B 215 RL 10 X (k + 1) (sl + 6) (LM B ca (emptyF σ).2 τ'' x' y') 1237 [(7, .int r2), (6, .int r), (5, .int (nI (6 * t))), (4, .ref (B + 214)), (3, .ref (B + 213)), (2, .ref (B + 182)), (1, .ref (B + 0)), (0, .ref a)] [] := by
    refine z_goto C 1662 d_law_1237 (by decide) ?_
    refine z_loc [2, 3, 4, 5, 6, 7] rfl ?_
    exact kk _ _ _ _ _ hq1
  refine z_if_ne C 1237 d_law_1222 (by decide) (fun _ => hfin) (fun h9 => ?_)
  obtain ⟨v9, hv⟩ := cd_I (by decide) (ok_empty σ) (hr.symm.trans h9)
  have e1 := hq2 _ hv
  cases e1
  refine z_aload_n C d_law_1225 rfl 4 rfl ?_
  refine z_iconst C (v := 0) d_law_1226 (by decide) ?_
  refine z_lald C (o := 213) d_law_1227 8 rfl (by decide) rfl rfl (by unfold vp_in; decide) ?_
  refine z_iload C d_law_1228 0 rfl ?_
  refine z_i2l C d_law_1230 ?_
  refine z_lcmp C d_law_1231 ?_
  refine z_ri (x' := 0) (by rw [show x' (Int32.toNatClampNeg 0) = _ from hx _ hv]; exact lg_same _) ?_
  exact z_if_eq C 1237 d_law_1232 (by decide) (fun _ => hfin) (fun h8 => absurd rfl h8)
set_option maxRecDepth 100000 in
set_option maxHeartbeats 4000000 in
theorem law_mount {l : Launch} {D : va_G} {ca : Nat → ClassId} {B a N t k sl : Nat} {X : Zx} {w0 : Cond} {σ τ : Sg} {xo : Nat → Int64} {yo : Nat → UInt64} {e : Int32} {xs : Nat → Int32} (hl : l.stackTraces = false) (C : Cx D clsB (tyL ca) code 10 "RobotBusLaw" (w0 :: gtb) X) (hE : ExA X.2.2.1 B) (hX : va_X a N xs X.2.2.1 X.2.2.1.heap) (ha : a < X.2.2.1.heap.size) (hB : X.2.2.1.heap.size ≤ B) (ht : 6 * t + 6 ≤ N) (hN : N ≤ 3072) (hk : k + 1 ≤ 632047) (hs : sl + 6 ≤ 7199964) (h : Rl e (σ.1 3 0 0 0) (σ.1 4 0 0 0) σ τ)
    (kk : ∀ (σ' τ' : Sg) (x' : Nat → Int64) (y' : Nat → UInt64) (e' : Int32), Rl e' (σ'.1 3 0 0 0) (σ'.1 4 0 0 0) σ' τ' → Z l D clsB B 215 RL 10 X (k + 1) (sl + 6) (LM B ca σ' τ' x' y') 1662 (LLw a B t) []) : Z l D clsB B 215 RL 10 X k sl (LM B ca σ τ xo yo) 1240 (LLw a B t) [] := by
  refine z_aload_n C d_law_1240 rfl 4 rfl ?_
  refine z_scr C hX ha hB ht hN (j := 1) (by decide) 0 5 rfl rfl d_law_1241 d_law_1242 d_law_1244 d_law_1245 d_law_1246 ?_
  refine z_scr C hX ha hB ht hN (j := 2) (by decide) 0 5 rfl rfl d_law_1247 d_law_1248 d_law_1250 d_law_1251 d_law_1252 ?_
  refine z_aload_n C d_law_1253 rfl 2 rfl ?_
  refine z_ad C hE d_law_1254 (c_Law_mount l hl D ca B σ τ xo yo (xs (6 * t + 1)) (xs (6 * t + 2)) h.fp) tw_645 tw_646 tw_0 tv_Law_mount pd_Law_mount ⟨⟨by decide, by decide⟩, rfl, rfl, hk, hs⟩ (Nat.le_of_ble_eq_true rfl) rfl (fun r σ' x' y' hp => ?_)
  obtain ⟨hr, rfl, hx⟩ := hp
  refine z_istore C d_law_1257 (by decide) [(6, .int r), (5, .int (nI (6 * t))), (4, .ref (B + 214)), (3, .ref (B + 213)), (2, .ref (B + 182)), (1, .ref (B + 0)), (0, .ref a)] rfl ?_
  refine z_aload_n C d_law_1259 rfl 4 rfl ?_
  refine z_scr C hX ha hB ht hN (j := 1) (by decide) 1 6 rfl rfl d_law_1260 d_law_1261 d_law_1263 d_law_1264 d_law_1265 ?_
  refine z_scr C hX ha hB ht hN (j := 2) (by decide) 1 6 rfl rfl d_law_1266 d_law_1267 d_law_1269 d_law_1270 d_law_1271 ?_
  refine z_mdl C d_law_1272 (c_Mdl_mount l D ca (B + 182) τ e (xs (6 * t + 1)) (xs (6 * t + 2)) h) tw_989 tw_990 tw_991 tw_10 tw_992 pd_Mdl_mount ⟨⟨by decide, by decide⟩, rfl, rfl, hk, hs⟩ (Nat.le_of_ble_eq_true rfl) rfl (fun r2 τ' hq => ?_)
  obtain ⟨hq1, hq2⟩ := hq
  refine z_istore C d_law_1275 (by decide) [(7, .int r2), (6, .int r), (5, .int (nI (6 * t))), (4, .ref (B + 214)), (3, .ref (B + 213)), (2, .ref (B + 182)), (1, .ref (B + 0)), (0, .ref a)] rfl ?_
  refine z_aload_n C d_law_1277 rfl 5 rfl ?_
  refine z_mdl C d_law_1278 (c_Mdl_thrown l D ca (B + 182) τ') tw_880 tw_881 tw_882 tw_10 tw_883 pd_Mdl_thrown ⟨⟨by decide, by decide⟩, rfl, rfl, hk, hs⟩ (Nat.le_of_ble_eq_true rfl) rfl (fun r3 τ'' h3 => ?_)
  obtain ⟨rfl, rfl⟩ := h3
  refine z_iload C d_law_1281 1 rfl ?_
  refine z_icmp_eq C 1288 d_law_1283 (by decide) (fun _ => ?_) (fun h9 => absurd (hq1.1.trans hr.symm) h9)
  refine z_iload C d_law_1288 1 rfl ?_
  have hfin : Z l D clsB B 215 RL 10 X (k + 1) (sl + 6) (LM B ca (mountF σ (xs (6 * t + 1)) (xs (6 * t + 2))).2 τ'' x' y') 1305 [(7, .int r2), (6, .int r), (5, .int (nI (6 * t))), (4, .ref (B + 214)), (3, .ref (B + 213)), (2, .ref (B + 182)), (1, .ref (B + 0)), (0, .ref a)] [] := by
    refine z_goto C 1662 d_law_1305 (by decide) ?_
    refine z_loc [2, 3, 4, 5, 6, 7] rfl ?_
    exact kk _ _ _ _ _ hq1
  refine z_if_ne C 1305 d_law_1290 (by decide) (fun _ => hfin) (fun h9 => ?_)
  obtain ⟨v9, hv⟩ := cd_I (by decide) (ok_mount σ (xs (6 * t + 1)) (xs (6 * t + 2))) (hr.symm.trans h9)
  have e1 := hq2 _ hv
  cases e1
  refine z_aload_n C d_law_1293 rfl 4 rfl ?_
  refine z_iconst C (v := 0) d_law_1294 (by decide) ?_
  refine z_lald C (o := 213) d_law_1295 8 rfl (by decide) rfl rfl (by unfold vp_in; decide) ?_
  refine z_iload C d_law_1296 0 rfl ?_
  refine z_i2l C d_law_1298 ?_
  refine z_lcmp C d_law_1299 ?_
  refine z_ri (x' := 0) (by rw [show x' (Int32.toNatClampNeg 0) = _ from hx _ hv]; exact lg_same _) ?_
  exact z_if_eq C 1305 d_law_1300 (by decide) (fun _ => hfin) (fun h8 => absurd rfl h8)
set_option maxRecDepth 100000 in
set_option maxHeartbeats 4000000 in
theorem law_sample {l : Launch} {D : va_G} {ca : Nat → ClassId} {B a N t k sl : Nat} {X : Zx} {w0 : Cond} {σ τ : Sg} {xo : Nat → Int64} {yo : Nat → UInt64} {e : Int32} {xs : Nat → Int32} (hl : l.stackTraces = false) (C : Cx D clsB (tyL ca) code 10 "RobotBusLaw" (w0 :: gtb) X) (hE : ExA X.2.2.1 B) (hX : va_X a N xs X.2.2.1 X.2.2.1.heap) (ha : a < X.2.2.1.heap.size) (hB : X.2.2.1.heap.size ≤ B) (ht : 6 * t + 6 ≤ N) (hN : N ≤ 3072) (hk : k + 1 ≤ 632047) (hs : sl + 6 ≤ 7199964) (h : Rl e (σ.1 3 0 0 0) (σ.1 4 0 0 0) σ τ)
    (kk : ∀ (σ' τ' : Sg) (x' : Nat → Int64) (y' : Nat → UInt64) (e' : Int32), Rl e' (σ'.1 3 0 0 0) (σ'.1 4 0 0 0) σ' τ' → Z l D clsB B 215 RL 10 X (k + 1) (sl + 6) (LM B ca σ' τ' x' y') 1662 (LLw a B t) []) : Z l D clsB B 215 RL 10 X k sl (LM B ca σ τ xo yo) 1308 (LLw a B t) [] := by
  refine z_aload_n C d_law_1308 rfl 4 rfl ?_
  refine z_scr C hX ha hB ht hN (j := 1) (by decide) 0 5 rfl rfl d_law_1309 d_law_1310 d_law_1312 d_law_1313 d_law_1314 ?_
  refine z_scr C hX ha hB ht hN (j := 2) (by decide) 0 5 rfl rfl d_law_1315 d_law_1316 d_law_1318 d_law_1319 d_law_1320 ?_
  refine z_scr C hX ha hB ht hN (j := 3) (by decide) 0 5 rfl rfl d_law_1321 d_law_1322 d_law_1324 d_law_1325 d_law_1326 ?_
  refine z_i2d C d_law_1327 ?_
  refine z_ldc2d C (List.mem_cons_of_mem _ tw_1024) d_law_1328 ?_
  refine z_dmul C d_law_1331 (cx_n64 (xs (6 * t + 3))) ?_
  refine z_scr C hX ha hB ht hN (j := 4) (by decide) 0 5 rfl rfl d_law_1332 d_law_1333 d_law_1335 d_law_1336 d_law_1337 ?_
  refine z_i2d C d_law_1338 ?_
  refine z_ldc2d C (List.mem_cons_of_mem _ tw_1024) d_law_1339 ?_
  refine z_dmul C d_law_1342 (cx_n64 (xs (6 * t + 4))) ?_
  refine z_scr C hX ha hB ht hN (j := 5) (by decide) 0 5 rfl rfl d_law_1343 d_law_1344 d_law_1346 d_law_1347 d_law_1348 ?_
  refine z_aload_n C d_law_1349 rfl 2 rfl ?_
  refine z_ad C hE d_law_1350 (c_Law_sample l hl D ca B σ τ xo yo (xs (6 * t + 1)) (xs (6 * t + 2)) (xs (6 * t + 3)) (xs (6 * t + 4)) (xs (6 * t + 5)) h.fi) tw_658 tw_659 tw_0 tv_Law_sample pd_Law_sample ⟨⟨by decide, by decide⟩, rfl, rfl, hk, hs⟩ (Nat.le_of_ble_eq_true rfl) rfl (fun r σ' x' y' hp => ?_)
  obtain ⟨hr, rfl, hx⟩ := hp
  refine z_istore C d_law_1353 (by decide) [(6, .int r), (5, .int (nI (6 * t))), (4, .ref (B + 214)), (3, .ref (B + 213)), (2, .ref (B + 182)), (1, .ref (B + 0)), (0, .ref a)] rfl ?_
  refine z_aload_n C d_law_1355 rfl 4 rfl ?_
  refine z_scr C hX ha hB ht hN (j := 1) (by decide) 1 6 rfl rfl d_law_1356 d_law_1357 d_law_1359 d_law_1360 d_law_1361 ?_
  refine z_scr C hX ha hB ht hN (j := 2) (by decide) 1 6 rfl rfl d_law_1362 d_law_1363 d_law_1365 d_law_1366 d_law_1367 ?_
  refine z_scr C hX ha hB ht hN (j := 3) (by decide) 1 6 rfl rfl d_law_1368 d_law_1369 d_law_1371 d_law_1372 d_law_1373 ?_
  refine z_i2d C d_law_1374 ?_
  refine z_ldc2d C (List.mem_cons_of_mem _ tw_1024) d_law_1375 ?_
  refine z_dmul C d_law_1378 (cx_n64 (xs (6 * t + 3))) ?_
  refine z_scr C hX ha hB ht hN (j := 4) (by decide) 1 6 rfl rfl d_law_1379 d_law_1380 d_law_1382 d_law_1383 d_law_1384 ?_
  refine z_i2d C d_law_1385 ?_
  refine z_ldc2d C (List.mem_cons_of_mem _ tw_1024) d_law_1386 ?_
  refine z_dmul C d_law_1389 (cx_n64 (xs (6 * t + 4))) ?_
  refine z_scr C hX ha hB ht hN (j := 5) (by decide) 1 6 rfl rfl d_law_1390 d_law_1391 d_law_1393 d_law_1394 d_law_1395 ?_
  refine z_mdl C d_law_1396 (c_Mdl_sample l D ca (B + 182) τ e (xs (6 * t + 1)) (xs (6 * t + 2)) (xs (6 * t + 3)) (xs (6 * t + 4)) (xs (6 * t + 5)) h) tw_993 tw_994 tw_995 tw_10 tw_996 pd_Mdl_sample ⟨⟨by decide, by decide⟩, rfl, rfl, hk, hs⟩ (Nat.le_of_ble_eq_true rfl) rfl (fun r2 τ' hq => ?_)
  obtain ⟨hq1, hq2⟩ := hq
  refine z_istore C d_law_1399 (by decide) [(7, .int r2), (6, .int r), (5, .int (nI (6 * t))), (4, .ref (B + 214)), (3, .ref (B + 213)), (2, .ref (B + 182)), (1, .ref (B + 0)), (0, .ref a)] rfl ?_
  refine z_aload_n C d_law_1401 rfl 5 rfl ?_
  refine z_mdl C d_law_1402 (c_Mdl_thrown l D ca (B + 182) τ') tw_880 tw_881 tw_882 tw_10 tw_883 pd_Mdl_thrown ⟨⟨by decide, by decide⟩, rfl, rfl, hk, hs⟩ (Nat.le_of_ble_eq_true rfl) rfl (fun r3 τ'' h3 => ?_)
  obtain ⟨rfl, rfl⟩ := h3
  refine z_iload C d_law_1405 1 rfl ?_
  refine z_icmp_eq C 1412 d_law_1407 (by decide) (fun _ => ?_) (fun h9 => absurd (hq1.1.trans hr.symm) h9)
  refine z_iload C d_law_1412 1 rfl ?_
  have hfin : Z l D clsB B 215 RL 10 X (k + 1) (sl + 6) (LM B ca (sampF σ (xs (6 * t + 1)) (xs (6 * t + 2)) (xs (6 * t + 3)) (xs (6 * t + 4)) (xs (6 * t + 5))).2 τ'' x' y') 1429 [(7, .int r2), (6, .int r), (5, .int (nI (6 * t))), (4, .ref (B + 214)), (3, .ref (B + 213)), (2, .ref (B + 182)), (1, .ref (B + 0)), (0, .ref a)] [] := by
    refine z_goto C 1662 d_law_1429 (by decide) ?_
    refine z_loc [2, 3, 4, 5, 6, 7] rfl ?_
    exact kk _ _ _ _ _ hq1
  refine z_if_ne C 1429 d_law_1414 (by decide) (fun _ => hfin) (fun h9 => ?_)
  obtain ⟨v9, hv⟩ := cd_I (by decide) (ok_sample σ (xs (6 * t + 1)) (xs (6 * t + 2)) (xs (6 * t + 3)) (xs (6 * t + 4)) (xs (6 * t + 5))) (hr.symm.trans h9)
  have e1 := hq2 _ hv
  cases e1
  refine z_aload_n C d_law_1417 rfl 4 rfl ?_
  refine z_iconst C (v := 0) d_law_1418 (by decide) ?_
  refine z_lald C (o := 213) d_law_1419 8 rfl (by decide) rfl rfl (by unfold vp_in; decide) ?_
  refine z_iload C d_law_1420 0 rfl ?_
  refine z_i2l C d_law_1422 ?_
  refine z_lcmp C d_law_1423 ?_
  refine z_ri (x' := 0) (by rw [show x' (Int32.toNatClampNeg 0) = _ from hx _ hv]; exact lg_same _) ?_
  exact z_if_eq C 1429 d_law_1424 (by decide) (fun _ => hfin) (fun h8 => absurd rfl h8)
set_option maxRecDepth 100000 in
set_option maxHeartbeats 4000000 in
theorem law_locate {l : Launch} {D : va_G} {ca : Nat → ClassId} {B a N t k sl : Nat} {X : Zx} {w0 : Cond} {σ τ : Sg} {xo : Nat → Int64} {yo : Nat → UInt64} {e : Int32} {xs : Nat → Int32} (hl : l.stackTraces = false) (C : Cx D clsB (tyL ca) code 10 "RobotBusLaw" (w0 :: gtb) X) (hE : ExA X.2.2.1 B) (hX : va_X a N xs X.2.2.1 X.2.2.1.heap) (ha : a < X.2.2.1.heap.size) (hB : X.2.2.1.heap.size ≤ B) (ht : 6 * t + 6 ≤ N) (hN : N ≤ 3072) (hk : k + 1 ≤ 632047) (hs : sl + 6 ≤ 7199964) (h : Rl e (σ.1 3 0 0 0) (σ.1 4 0 0 0) σ τ)
    (kk : ∀ (σ' τ' : Sg) (x' : Nat → Int64) (y' : Nat → UInt64) (e' : Int32), Rl e' (σ'.1 3 0 0 0) (σ'.1 4 0 0 0) σ' τ' → Z l D clsB B 215 RL 10 X (k + 1) (sl + 6) (LM B ca σ' τ' x' y') 1662 (LLw a B t) []) : Z l D clsB B 215 RL 10 X k sl (LM B ca σ τ xo yo) 1432 (LLw a B t) [] := by
  refine z_aload_n C d_law_1432 rfl 4 rfl ?_
  refine z_scr C hX ha hB ht hN (j := 1) (by decide) 0 5 rfl rfl d_law_1433 d_law_1434 d_law_1436 d_law_1437 d_law_1438 ?_
  refine z_scr C hX ha hB ht hN (j := 2) (by decide) 0 5 rfl rfl d_law_1439 d_law_1440 d_law_1442 d_law_1443 d_law_1444 ?_
  refine z_scr C hX ha hB ht hN (j := 3) (by decide) 0 5 rfl rfl d_law_1445 d_law_1446 d_law_1448 d_law_1449 d_law_1450 ?_
  refine z_i2d C d_law_1451 ?_
  refine z_ldc2d C (List.mem_cons_of_mem _ tw_1024) d_law_1452 ?_
  refine z_dmul C d_law_1455 (cx_n64 (xs (6 * t + 3))) ?_
  refine z_scr C hX ha hB ht hN (j := 4) (by decide) 0 5 rfl rfl d_law_1456 d_law_1457 d_law_1459 d_law_1460 d_law_1461 ?_
  refine z_i2d C d_law_1462 ?_
  refine z_ldc2d C (List.mem_cons_of_mem _ tw_1024) d_law_1463 ?_
  refine z_dmul C d_law_1466 (cx_n64 (xs (6 * t + 4))) ?_
  refine z_aload C d_law_1467 1 rfl ?_
  refine z_ad C hE d_law_1469 (c_Law_locate l hl D ca B σ τ xo yo (xs (6 * t + 1)) (xs (6 * t + 2)) (xs (6 * t + 3)) (xs (6 * t + 4)) h.fi h.fp) tw_691 tw_692 tw_0 tv_Law_locate pd_Law_locate ⟨⟨by decide, by decide⟩, rfl, rfl, hk, hs⟩ (Nat.le_of_ble_eq_true rfl) rfl (fun r σ' x' y' hp => ?_)
  obtain ⟨hr, rfl, hx⟩ := hp
  refine z_istore C d_law_1472 (by decide) [(6, .int r), (5, .int (nI (6 * t))), (4, .ref (B + 214)), (3, .ref (B + 213)), (2, .ref (B + 182)), (1, .ref (B + 0)), (0, .ref a)] rfl ?_
  refine z_aload_n C d_law_1474 rfl 4 rfl ?_
  refine z_scr C hX ha hB ht hN (j := 1) (by decide) 1 6 rfl rfl d_law_1475 d_law_1476 d_law_1478 d_law_1479 d_law_1480 ?_
  refine z_scr C hX ha hB ht hN (j := 2) (by decide) 1 6 rfl rfl d_law_1481 d_law_1482 d_law_1484 d_law_1485 d_law_1486 ?_
  refine z_scr C hX ha hB ht hN (j := 3) (by decide) 1 6 rfl rfl d_law_1487 d_law_1488 d_law_1490 d_law_1491 d_law_1492 ?_
  refine z_i2d C d_law_1493 ?_
  refine z_ldc2d C (List.mem_cons_of_mem _ tw_1024) d_law_1494 ?_
  refine z_dmul C d_law_1497 (cx_n64 (xs (6 * t + 3))) ?_
  refine z_scr C hX ha hB ht hN (j := 4) (by decide) 1 6 rfl rfl d_law_1498 d_law_1499 d_law_1501 d_law_1502 d_law_1503 ?_
  refine z_i2d C d_law_1504 ?_
  refine z_ldc2d C (List.mem_cons_of_mem _ tw_1024) d_law_1505 ?_
  refine z_dmul C d_law_1508 (cx_n64 (xs (6 * t + 4))) ?_
  refine z_mdlD C d_law_1509 (c_Mdl_locate l D ca (B + 182) τ e (xs (6 * t + 1)) (xs (6 * t + 2)) (xs (6 * t + 3)) (xs (6 * t + 4)) h) tw_1004 tw_1005 tw_1006 tw_10 tw_1007 pd_Mdl_locate ⟨⟨by decide, by decide⟩, rfl, rfl, hk, hs⟩ (Nat.le_of_ble_eq_true rfl) rfl (fun r2 τ' hq => ?_)
  obtain ⟨hq1, hq2⟩ := hq
  refine z_dstore C d_law_1512 (by decide) [(7, .double r2), (6, .int r), (5, .int (nI (6 * t))), (4, .ref (B + 214)), (3, .ref (B + 213)), (2, .ref (B + 182)), (1, .ref (B + 0)), (0, .ref a)] rfl ?_
  refine z_aload_n C d_law_1514 rfl 5 rfl ?_
  refine z_mdl C d_law_1515 (c_Mdl_thrown l D ca (B + 182) τ') tw_880 tw_881 tw_882 tw_10 tw_883 pd_Mdl_thrown ⟨⟨by decide, by decide⟩, rfl, rfl, hk, hs⟩ (Nat.le_of_ble_eq_true rfl) rfl (fun r3 τ'' h3 => ?_)
  obtain ⟨rfl, rfl⟩ := h3
  refine z_iload C d_law_1518 1 rfl ?_
  refine z_icmp_eq C 1525 d_law_1520 (by decide) (fun _ => ?_) (fun h9 => absurd (hq1.1.trans hr.symm) h9)
  refine z_iload C d_law_1525 1 rfl ?_
  have hfin : Z l D clsB B 215 RL 10 X (k + 1) (sl + 6) (LM B ca (locaF σ (xs (6 * t + 1)) (xs (6 * t + 2)) (xs (6 * t + 3)) (xs (6 * t + 4))).2 τ'' x' y') 1562 [(7, .double r2), (6, .int r), (5, .int (nI (6 * t))), (4, .ref (B + 214)), (3, .ref (B + 213)), (2, .ref (B + 182)), (1, .ref (B + 0)), (0, .ref a)] [] := by
    refine z_goto C 1662 d_law_1562 (by decide) ?_
    refine z_loc [2, 3, 4, 5, 6, 7] rfl ?_
    exact kk _ _ _ _ _ hq1
  refine z_if_ne C 1562 d_law_1527 (by decide) (fun _ => hfin) (fun h9 => ?_)
  obtain ⟨v9, hv⟩ := cd_D (by decide) (ok_locate σ (xs (6 * t + 1)) (xs (6 * t + 2)) (xs (6 * t + 3)) (xs (6 * t + 4))) (hr.symm.trans h9)
  have e1 := hq2 _ hv
  cases e1
  have hy : y' (Int32.toNatClampNeg 0) = r2 := hx _ hv
  refine z_aload C d_law_1530 3 rfl ?_
  refine z_iconst C (v := 0) d_law_1532 (by decide) ?_
  refine z_dald C (o := 214) d_law_1533 9 rfl (by decide) rfl rfl (by unfold vp_in; decide) ?_
  refine z_dload C d_law_1534 0 rfl ?_
  refine z_dcmp C d_law_1536 ?_
  rw [hy]
  refine z_if_eq C 1562 d_law_1537 (by decide) (fun _ => hfin) (fun h8 => ?_)
  refine z_aload C d_law_1540 3 rfl ?_
  refine z_iconst C (v := 0) d_law_1542 (by decide) ?_
  refine z_dald C (o := 214) d_law_1543 9 rfl (by decide) rfl rfl (by unfold vp_in; decide) ?_
  refine z_aload C d_law_1544 3 rfl ?_
  refine z_iconst C (v := 0) d_law_1546 (by decide) ?_
  refine z_dald C (o := 214) d_law_1547 9 rfl (by decide) rfl rfl (by unfold vp_in; decide) ?_
  refine z_dcmp C d_law_1548 ?_
  rw [hy]
  refine z_if_eq C 1560 d_law_1549 (by decide) (fun h7 => absurd h7 h8) (fun _ => ?_)
  refine z_dload C d_law_1552 0 rfl ?_
  refine z_dload C d_law_1554 0 rfl ?_
  refine z_dcmp C d_law_1556 ?_
  exact z_if_ne C 1562 d_law_1557 (by decide) (fun _ => hfin) (fun h7 => absurd h7 h8)
set_option maxRecDepth 100000 in
set_option maxHeartbeats 4000000 in
theorem law_lastY {l : Launch} {D : va_G} {ca : Nat → ClassId} {B a N t k sl : Nat} {X : Zx} {w0 : Cond} {σ τ : Sg} {xo : Nat → Int64} {yo : Nat → UInt64} {e : Int32} {xs : Nat → Int32} (hl : l.stackTraces = false) (C : Cx D clsB (tyL ca) code 10 "RobotBusLaw" (w0 :: gtb) X) (hE : ExA X.2.2.1 B) (hX : va_X a N xs X.2.2.1 X.2.2.1.heap) (ha : a < X.2.2.1.heap.size) (hB : X.2.2.1.heap.size ≤ B) (ht : 6 * t + 6 ≤ N) (hN : N ≤ 3072) (hk : k + 1 ≤ 632047) (hs : sl + 6 ≤ 7199964) (h : Rl e (σ.1 3 0 0 0) (σ.1 4 0 0 0) σ τ)
    (kk : ∀ (σ' τ' : Sg) (x' : Nat → Int64) (y' : Nat → UInt64) (e' : Int32), Rl e' (σ'.1 3 0 0 0) (σ'.1 4 0 0 0) σ' τ' → Z l D clsB B 215 RL 10 X (k + 1) (sl + 6) (LM B ca σ' τ' x' y') 1662 (LLw a B t) []) : Z l D clsB B 215 RL 10 X k sl (LM B ca σ τ xo yo) 1565 (LLw a B t) [] := by
  refine z_aload_n C d_law_1565 rfl 4 rfl ?_
  refine z_busD C d_law_1566 (c_Bus_lastY l D ca B σ) tw_273 tw_274 tw_275 tw_1 tw_276 pd_Bus_lastY ⟨⟨by decide, by decide⟩, rfl, rfl, Nat.le_of_succ_le hk, Nat.le_trans (Nat.le_add_right _ _) hs⟩ (Nat.le_of_ble_eq_true rfl) rfl (fun r σ' hp => ?_)
  obtain ⟨rfl, rfl⟩ := hp
  refine z_dstore C d_law_1569 (by decide) [(6, .double (σ'.2.1 7 0 0 0)), (5, .int (nI (6 * t))), (4, .ref (B + 214)), (3, .ref (B + 213)), (2, .ref (B + 182)), (1, .ref (B + 0)), (0, .ref a)] rfl ?_
  refine z_aload_n C d_law_1571 rfl 4 rfl ?_
  refine z_mdlD C d_law_1572 (c_Mdl_lastY l D ca (B + 182) τ e h) tw_1016 tw_1017 tw_1018 tw_10 tw_1019 pd_Mdl_lastY ⟨⟨by decide, by decide⟩, rfl, rfl, Nat.le_of_succ_le hk, Nat.le_trans (Nat.le_add_right _ _) hs⟩ (Nat.le_of_ble_eq_true rfl) rfl (fun r2 τ' hq => ?_)
  obtain ⟨rfl, hq1⟩ := hq
  refine z_dstore C d_law_1575 (by decide) [(8, .double (σ'.2.1 7 0 0 0)), (6, .double (σ'.2.1 7 0 0 0)), (5, .int (nI (6 * t))), (4, .ref (B + 214)), (3, .ref (B + 213)), (2, .ref (B + 182)), (1, .ref (B + 0)), (0, .ref a)] rfl ?_
  refine z_widen (Nat.le_succ k) (Nat.le_add_right sl 6) ?_
  have hfin : Z l D clsB B 215 RL 10 X (k + 1) (sl + 6) (LM B ca σ' τ' xo yo) 1603 [(8, .double (σ'.2.1 7 0 0 0)), (6, .double (σ'.2.1 7 0 0 0)), (5, .int (nI (6 * t))), (4, .ref (B + 214)), (3, .ref (B + 213)), (2, .ref (B + 182)), (1, .ref (B + 0)), (0, .ref a)] [] := by
    refine z_goto C 1662 d_law_1603 (by decide) ?_
    refine z_loc [2, 3, 4, 5, 6, 7] rfl ?_
    exact kk _ _ _ _ _ hq1
  refine z_dload C d_law_1577 1 rfl ?_
  refine z_dload C d_law_1579 0 rfl ?_
  refine z_dcmp C d_law_1581 ?_
  refine z_if_eq C 1603 d_law_1582 (by decide) (fun _ => hfin) (fun h9 => ?_)
  refine z_dload C d_law_1585 1 rfl ?_
  refine z_dload C d_law_1587 1 rfl ?_
  refine z_dcmp C d_law_1589 ?_
  refine z_if_eq C 1601 d_law_1590 (by decide) (fun h8 => absurd h8 h9) (fun _ => ?_)
  refine z_dload C d_law_1593 0 rfl ?_
  refine z_dload C d_law_1595 0 rfl ?_
  refine z_dcmp C d_law_1597 ?_
  exact z_if_ne C 1603 d_law_1598 (by decide) (fun _ => hfin) (fun h8 => absurd h8 h9)
set_option maxRecDepth 100000 in
set_option maxHeartbeats 4000000 in
theorem law_count {l : Launch} {D : va_G} {ca : Nat → ClassId} {B a N t k sl : Nat} {X : Zx} {w0 : Cond} {σ τ : Sg} {xo : Nat → Int64} {yo : Nat → UInt64} {e : Int32} {xs : Nat → Int32} (hl : l.stackTraces = false) (C : Cx D clsB (tyL ca) code 10 "RobotBusLaw" (w0 :: gtb) X) (hE : ExA X.2.2.1 B) (hX : va_X a N xs X.2.2.1 X.2.2.1.heap) (ha : a < X.2.2.1.heap.size) (hB : X.2.2.1.heap.size ≤ B) (ht : 6 * t + 6 ≤ N) (hN : N ≤ 3072) (hk : k + 1 ≤ 632047) (hs : sl + 6 ≤ 7199964) (h : Rl e (σ.1 3 0 0 0) (σ.1 4 0 0 0) σ τ)
    (kk : ∀ (σ' τ' : Sg) (x' : Nat → Int64) (y' : Nat → UInt64) (e' : Int32), Rl e' (σ'.1 3 0 0 0) (σ'.1 4 0 0 0) σ' τ' → Z l D clsB B 215 RL 10 X (k + 1) (sl + 6) (LM B ca σ' τ' x' y') 1662 (LLw a B t) []) : Z l D clsB B 215 RL 10 X k sl (LM B ca σ τ xo yo) 1606 (LLw a B t) [] := by
  refine z_aload_n C d_law_1606 rfl 4 rfl ?_
  refine z_scr C hX ha hB ht hN (j := 1) (by decide) 0 5 rfl rfl d_law_1607 d_law_1608 d_law_1610 d_law_1611 d_law_1612 ?_
  refine z_aload_n C d_law_1613 rfl 2 rfl ?_
  refine z_ad C hE d_law_1614 (c_Law_count l hl D ca B σ τ xo yo (xs (6 * t + 1))) tw_725 tw_726 tw_0 tv_Law_count pd_Law_count ⟨⟨by decide, by decide⟩, rfl, rfl, hk, hs⟩ (Nat.le_of_ble_eq_true rfl) rfl (fun r σ' x' y' hp => ?_)
  obtain ⟨hr, rfl, hx⟩ := hp
  refine z_istore C d_law_1617 (by decide) [(6, .int r), (5, .int (nI (6 * t))), (4, .ref (B + 214)), (3, .ref (B + 213)), (2, .ref (B + 182)), (1, .ref (B + 0)), (0, .ref a)] rfl ?_
  refine z_aload_n C d_law_1619 rfl 4 rfl ?_
  refine z_scr C hX ha hB ht hN (j := 1) (by decide) 1 6 rfl rfl d_law_1620 d_law_1621 d_law_1623 d_law_1624 d_law_1625 ?_
  refine z_mdl C d_law_1626 (c_Mdl_count l D ca (B + 182) τ e (xs (6 * t + 1)) h) tw_1020 tw_1021 tw_1022 tw_10 tw_1023 pd_Mdl_count ⟨⟨by decide, by decide⟩, rfl, rfl, hk, hs⟩ (Nat.le_of_ble_eq_true rfl) rfl (fun r2 τ' hq => ?_)
  obtain ⟨hq1, hq2⟩ := hq
  refine z_istore C d_law_1629 (by decide) [(7, .int r2), (6, .int r), (5, .int (nI (6 * t))), (4, .ref (B + 214)), (3, .ref (B + 213)), (2, .ref (B + 182)), (1, .ref (B + 0)), (0, .ref a)] rfl ?_
  refine z_aload_n C d_law_1631 rfl 5 rfl ?_
  refine z_mdl C d_law_1632 (c_Mdl_thrown l D ca (B + 182) τ') tw_880 tw_881 tw_882 tw_10 tw_883 pd_Mdl_thrown ⟨⟨by decide, by decide⟩, rfl, rfl, hk, hs⟩ (Nat.le_of_ble_eq_true rfl) rfl (fun r3 τ'' h3 => ?_)
  obtain ⟨rfl, rfl⟩ := h3
  refine z_iload C d_law_1635 1 rfl ?_
  refine z_icmp_eq C 1642 d_law_1637 (by decide) (fun _ => ?_) (fun h9 => absurd (hq1.1.trans hr.symm) h9)
  refine z_iload C d_law_1642 1 rfl ?_
  have hfin : Z l D clsB B 215 RL 10 X (k + 1) (sl + 6) (LM B ca (countF σ (xs (6 * t + 1))).2 τ'' x' y') 1659 [(7, .int r2), (6, .int r), (5, .int (nI (6 * t))), (4, .ref (B + 214)), (3, .ref (B + 213)), (2, .ref (B + 182)), (1, .ref (B + 0)), (0, .ref a)] [] := by
    refine z_goto C 1662 d_law_1659 (by decide) ?_
    refine z_loc [2, 3, 4, 5, 6, 7] rfl ?_
    exact kk _ _ _ _ _ hq1
  refine z_if_ne C 1659 d_law_1644 (by decide) (fun _ => hfin) (fun h9 => ?_)
  obtain ⟨v9, hv⟩ := cd_I (by decide) (ok_count σ (xs (6 * t + 1))) (hr.symm.trans h9)
  have e1 := hq2 _ hv
  cases e1
  refine z_aload_n C d_law_1647 rfl 4 rfl ?_
  refine z_iconst C (v := 0) d_law_1648 (by decide) ?_
  refine z_lald C (o := 213) d_law_1649 8 rfl (by decide) rfl rfl (by unfold vp_in; decide) ?_
  refine z_iload C d_law_1650 0 rfl ?_
  refine z_i2l C d_law_1652 ?_
  refine z_lcmp C d_law_1653 ?_
  refine z_ri (x' := 0) (by rw [show x' (Int32.toNatClampNeg 0) = _ from hx _ hv]; exact lg_same _) ?_
  exact z_if_eq C 1659 d_law_1654 (by decide) (fun _ => hfin) (fun h8 => absurd rfl h8)
