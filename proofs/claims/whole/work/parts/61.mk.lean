/-! The constructors: what they make is the map of a table at the first state. -/
def eqF : Fdd → Fdd → Bool
  | .inl a, .inl b => a == b
  | .inr a, .inr b => a == b
  | _, _ => false
def eqFs : List Fdd → List Fdd → Bool
  | [], [] => true
  | a :: s, b :: t => eqF a b && eqFs s t
  | _, _ => false
def eqC : Cee → Cee → Bool
  | .inl a, .inl b => a.1 == b.1 && eqFs a.2 b.2
  | .inr (.inl a), .inr (.inl b) => a == b
  | .inr (.inr a), .inr (.inr b) => a == b
  | _, _ => false
def eqL : List Cee → List Cee → Bool
  | [], [] => true
  | a :: s, b :: t => eqC a b && eqL s t
  | _, _ => false
theorem eqF_s {a b : Fdd} (h : eqF a b = true) : a = b := by
  match a, b, h with
  | .inl a, .inl b, h => exact congrArg Sum.inl (eq_of_beq h)
  | .inr a, .inr b, h => exact congrArg Sum.inr (eq_of_beq h)
theorem eqFs_s : ∀ {a b : List Fdd}, eqFs a b = true → a = b
  | [], [], _ => rfl
  | a :: s, b :: t, h => by
    have h := Bool.and_eq_true_iff.mp h
    rw [eqF_s h.1, eqFs_s h.2]
theorem eqC_s {a b : Cee} (h : eqC a b = true) : a = b := by
  match a, b, h with
  | .inl (a, c), .inl (b, d), h =>
    have h := Bool.and_eq_true_iff.mp h
    have h1 : a = b := eq_of_beq h.1
    have h2 : c = d := eqFs_s h.2
    rw [h1, h2]
  | .inr (.inl a), .inr (.inl b), h => exact congrArg (fun q => Sum.inr (Sum.inl q)) (eq_of_beq h)
  | .inr (.inr a), .inr (.inr b), h => exact congrArg (fun q => Sum.inr (Sum.inr q)) (eq_of_beq h)
theorem eqL_s : ∀ {a b : List Cee}, eqL a b = true → a = b
  | [], [], _ => rfl
  | a :: s, b :: t, h => by
    have h := Bool.and_eq_true_iff.mp h
    rw [eqC_s h.1, eqL_s h.2]
def nkF : Fdd → Fdd
  | .inl o => .inl o
  | .inr q => .inr (q.1, q.2.1, 0, 0)
def nk : Cee → Cee
  | .inl c => .inl (c.1, c.2.map nkF)
  | .inr (.inl a) => .inr (.inl (a.1, a.2.1, a.2.2.1, a.2.2.2.1, 0, 0))
  | .inr (.inr a) => .inr (.inr a)
/-- nothing depends on which object it is -/
def evenS (σ : Sg) : Prop := ∀ f i t, σ.1 f i t = σ.1 f 0 0 ∧ σ.2.1 f i t = σ.2.1 f 0 0 ∧ σ.2.2 f i t = σ.2.2 f 0 0
theorem rzF_nk {b : Nat} {σ : Sg} (h : evenS σ) (f : Fdd) : rzF b σ (nkF f) = rzF b σ f := by
  match f with
  | .inl _ => rfl
  | .inr (k, f, i, t) =>
    obtain ⟨h1, h2, h3⟩ := h f i t
    match k with
    | 0 => show Value.int (σ.1 f 0 0 0) = Value.int (σ.1 f i t 0); rw [h1]
    | 1 => show Value.double (σ.2.1 f 0 0 0) = Value.double (σ.2.1 f i t 0); rw [h2]
    | (n + 2) => show Value.long (σ.2.2 f 0 0 0) = Value.long (σ.2.2 f i t 0); rw [h3]
theorem rz_nk {b : Nat} {ca : Nat → ClassId} {σ : Sg} (h : evenS σ) (c : Cee) : rz b ca σ (nk c) = rz b ca σ c := by
  match c with
  | .inl (c, fs) =>
    show (Sum.inr (c, (fs.map nkF).map (rzF b σ)) : va_E) = Sum.inr (c, fs.map (rzF b σ))
    rw [List.map_map]
    refine congrArg (fun q => (Sum.inr (c, q) : va_E)) (List.map_congr_left fun f _ => rzF_nk h f)
  | .inr (.inl (c, n, k, f, i, t)) =>
    obtain ⟨h1, h2, h3⟩ := h f i t
    match k with
    | 0 => show (Sum.inl (ca c, (n, .inl (σ.1 f 0 0))) : va_E) = Sum.inl (ca c, (n, .inl (σ.1 f i t))); rw [h1]
    | 1 => show (Sum.inl (ca c, (n, .inr (.inr (.inr (.inl (σ.2.1 f 0 0)))))) : va_E) = Sum.inl (ca c, (n, .inr (.inr (.inr (.inl (σ.2.1 f i t)))))); rw [h2]
    | (m + 2) => show (Sum.inl (ca c, (n, .inr (.inl (σ.2.2 f 0 0)))) : va_E) = Sum.inl (ca c, (n, .inr (.inl (σ.2.2 f i t)))); rw [h3]
  | .inr (.inr _) => rfl
theorem enc_nk {b : Nat} {ca : Nat → ClassId} {S : List Cee} {σ : Sg} (h : evenS σ) (o : Nat) : enc b ca (S.map nk) σ o = enc b ca S σ o := by
  unfold enc
  rw [List.getElem?_map]
  cases S[o]? with
  | none => rfl
  | some c => exact rz_nk h c
def shF (n : Nat) : Fdd → Fdd
  | .inl o => .inl (n + o)
  | .inr q => .inr q
def shC (n : Nat) : Cee → Cee
  | .inl c => .inl (c.1, c.2.map (shF n))
  | .inr (.inl a) => .inr (.inl a)
  | .inr (.inr a) => .inr (.inr (a.1, a.2.1, a.2.2.map (n + ·)))
theorem rz_sh {b n : Nat} {ca : Nat → ClassId} {σ : Sg} (c : Cee) : rz b ca σ (shC n c) = rz (b + n) ca σ c := by
  match c with
  | .inl (c, fs) =>
    show (Sum.inr (c, (fs.map (shF n)).map (rzF b σ)) : va_E) = Sum.inr (c, fs.map (rzF (b + n) σ))
    rw [List.map_map]
    refine congrArg (fun q => (Sum.inr (c, q) : va_E)) (List.map_congr_left fun f _ => ?_)
    match f with
    | .inl o => show Value.ref (b + (n + o)) = Value.ref (b + n + o); rw [Nat.add_assoc]
    | .inr (k, v) => rfl
  | .inr (.inl _) => rfl
  | .inr (.inr (c, m, ls)) =>
    show (Sum.inl (ca c, m, _) : va_E) = Sum.inl (ca c, m, _)
    refine congrArg (fun q => (Sum.inl (ca c, m, .inr (.inr (.inr (.inr q)))) : va_E)) (funext fun j => ?_)
    show ((ls.map (n + ·))[j]?).map (fun o => b + o) = (ls[j]?).map (fun o => b + n + o)
    rw [List.getElem?_map, Option.map_map]
    cases ls[j]? with
    | none => rfl
    | some o => show some (b + (n + o)) = some (b + n + o); rw [Nat.add_assoc]
theorem it_at {b n oa : Nat} {ca : Nat → ClassId} {σ : Sg} {S : List Cee} {c NN : Nat} {lst : List Nat} {x G : va_E} (hoa : oa < n) (hc : S[oa]? = some (.inr (.inr (c, NN, lst)))) : (if oa < n then va_up (enc b ca S σ) n x oa else G) = .inl (ca c, NN, .inr (.inr (.inr (.inr (fun j => (lst[j]?).map (fun o => b + o)))))) := by
  rw [if_pos hoa, va_up_ne _ _ (by omega), enc_at hc]
  rfl
theorem it_eq {b n N' oa t : Nat} {ca : Nat → ClassId} {σ : Sg} {S S' S2 : List Cee} {c NN : Nat} {lst : List Nat} {x : va_E} (hn : S.length = n) (hN : S'.length = N') (hoa : oa < n) (hl : lst.length = t) (hS2 : S.set oa (.inr (.inr (c, NN, lst ++ [n]))) ++ S'.map (shC n) = S2) :
    ∀ o, o < n + N' → va_up (fun o => if o < n then va_up (enc b ca S σ) n x o else enc (b + n) ca S' σ (o - n)) oa (.inl (ca c, NN, .inr (.inr (.inr (.inr (va_up (fun j => (lst[j]?).map (fun o => b + o)) t (some (b + n)))))))) o = enc b ca S2 σ o := by
  intro o ho
  subst hS2
  have hlen : (S.set oa (.inr (.inr (c, NN, lst ++ [n])))).length = n := by rw [List.length_set]; exact hn
  by_cases h1 : o = oa
  · subst h1
    rw [va_up_self, enc_at (c := .inr (.inr (c, NN, lst ++ [n]))) (by rw [List.getElem?_append_left (by omega), List.getElem?_set_self (by omega)])]
    show (Sum.inl (ca c, NN, _) : va_E) = Sum.inl (ca c, NN, _)
    refine congrArg (fun q => (Sum.inl (ca c, NN, .inr (.inr (.inr (.inr q)))) : va_E)) (funext fun j => ?_)
    by_cases hj : j = t
    · subst hj
      rw [va_up_self]
      show some (b + n) = ((lst ++ [n])[j]?).map _
      rw [List.getElem?_append_right (by omega), hl]
      simp
    · rw [va_up_ne _ _ hj]
      show _ = ((lst ++ [n])[j]?).map _
      by_cases hj2 : j < t
      · rw [List.getElem?_append_left (by omega)]
      · rw [List.getElem?_append_right (by omega), List.getElem?_eq_none (by omega), List.getElem?_eq_none (by simp; omega)]
  · rw [va_up_ne _ _ h1]
    show (if o < n then va_up (enc b ca S σ) n x o else enc (b + n) ca S' σ (o - n)) = _
    by_cases h2 : o < n
    · rw [if_pos h2, va_up_ne _ _ (by omega)]
      unfold enc
      rw [List.getElem?_append_left (by omega), List.getElem?_set_ne (fun h => h1 h.symm)]
    · rw [if_neg h2]
      unfold enc
      rw [List.getElem?_append_right (by omega), hlen, List.getElem?_map]
      cases S'[o - n]? with
      | none => rfl
      | some c => exact (rz_sh c).symm
theorem z_dconst0 {l : Launch} {D : va_G} {cl : List vw_C} {tys : List (ClassId × FieldType)} {b n : Nat} {R : Room} {nL : Nat} {X : Zx} {k sl : Nat} {M : Nat → va_E} {pc : Nat} {L : List (Nat × Value)} {st : List Value} {cc : ByteArray} {own : String} {Ts : List Cond} (C : Cx D cl tys cc nL own Ts X) (hd : decode cc pc = .ok (.dconst 0, 1)) (kk : Z l D cl b n R nL X k sl M (pc + 1) L (.double FP.dconst0 :: st)) : Z l D cl b n R nL X k sl M pc L st := by
  obtain ⟨p, e, s, m, args, below, meth, c, Q⟩ := X
  obtain ⟨hx, hb, hml, hown, hts, hK⟩ := C
  exact fun H locs ls hP hS hl => lv_dconst0 hx hb hd (kk H locs ls hP hS hl)
def σ0 : Sg := (fun f _ _ _ => if f = 36 then -1 else if f = 50 then -1 else if f = 60 then -1 else if f = 14 then 1 else 0, fun _ _ _ _ => FP.dconst0, fun _ _ _ _ => 0)
theorem σ0_even : evenS σ0 := fun _ _ _ => ⟨rfl, rfl, rfl⟩
def rowM : Nat → Nat → Int32
  | 0 => fun _ => 0
  | n + 1 => upd (rowM n) (Int32.toNatClampNeg (Int32.ofNat n)) (-1)
theorem rowM_lt {n j : Nat} (hn : n ≤ 36) (h : j < n) : rowM n j = -1 := by
  induction n with
  | zero => omega
  | succ n ih =>
    show upd (rowM n) (Int32.toNatClampNeg (Int32.ofNat n)) (-1) j = -1
    have h2 : Int32.toNatClampNeg (Int32.ofNat n) = n := nI_clamp (by omega)
    rw [h2]
    unfold upd
    split
    · rfl
    · exact ih (by omega) (by omega)
/-- the model's first state; the array of a loop is filled below t -/
def τt (t : Nat) : Sg := (fun f i u => if f = 110 ∧ i = 0 ∧ u = 0 then rowM t else if f = 119 then rowM 4 else if f = 132 then rowM 6 else fun _ => 0, fun _ _ _ _ => FP.dconst0, fun _ _ _ _ => 0)
theorem τt_up (t : Nat) : upA (τt t) (110, 0, 0) (upd ((τt t).1 110 0 0) (nI t).toNatClampNeg (-1)) = τt (t + 1) := by
  have h : (fun f i u => if f = (110 : Nat) ∧ i = (0 : Nat) ∧ u = (0 : Nat) then upd ((τt t).1 110 0 0) (nI t).toNatClampNeg (-1) else (τt t).1 f i u) = (τt (t + 1)).1 := by
    funext f i u
    by_cases h9 : f = 110 ∧ i = 0 ∧ u = 0
    · rw [if_pos h9]
      show upd (rowM t) _ _ = if f = 110 ∧ i = 0 ∧ u = 0 then rowM (t + 1) else _
      rw [if_pos h9]
      rfl
    · rw [if_neg h9]
      show (if f = 110 ∧ i = 0 ∧ u = 0 then rowM t else _) = if f = 110 ∧ i = 0 ∧ u = 0 then rowM (t + 1) else _
      rw [if_neg h9, if_neg h9]
  exact Prod.ext h rfl
abbrev τ0 : Sg := τt 36
theorem va_up_idem (M : Nat → va_E) (n : Nat) (x : va_E) {y : va_E} (o : Nat) : va_up (va_up M n x) n y o = va_up M n y o := by
  by_cases h : o = n
  · subst h
    rw [va_up_self, va_up_self]
  · rw [va_up_ne _ _ h, va_up_ne _ _ h, va_up_ne _ _ h]
theorem it_m {E : Nat → va_E} {n : Nat} {x y z w : va_E} (hn : 0 < n) (hx : x = E n) (hy : y = z) : ∀ o, o < n + 1 → va_up (va_up (va_up E 0 w) n x) 0 y o = va_up E 0 z o := by
  intro o _
  subst hx hy
  by_cases h : o = 0
  · subst h
    rw [va_up_self, va_up_self]
  · rw [va_up_ne _ _ h, va_up_ne _ _ h]
    by_cases h2 : o = n
    · subst h2
      rw [va_up_self]
    · rw [va_up_ne _ _ h2, va_up_ne _ _ h]
theorem it_0 {E : Nat → va_E} {y : va_E} : ∀ o, o < 1 → y = va_up E 0 y o := by
  intro o ho
  rw [show o = 0 by omega, va_up_self]
theorem it_z {E : Nat → va_E} {y : va_E} (hy : y = E 0) (o : Nat) : va_up E 0 y o = E o := by
  by_cases h : o = 0
  · subst h
    rw [va_up_self, hy]
  · rw [va_up_ne _ _ h]

def SQue : List Cee := [.inl (2, [.inl 1, .inr (0, 33, 0, 0), .inr (0, 34, 0, 0)]), .inr (.inl (0, 12, 0, 35, 0, 0))]
def SAct : List Cee := [.inl (3, [.inr (0, 36, 0, 0), .inr (0, 37, 0, 0), .inr (0, 38, 0, 0)])]
def STop : List Cee := [.inl (4, [.inr (0, 40, 0, 0), .inr (0, 41, 0, 0), .inr (0, 42, 0, 0), .inr (0, 43, 0, 0), .inr (0, 44, 0, 0), .inr (0, 45, 0, 0)])]
def SSrv : List Cee := [.inl (5, [.inr (0, 50, 0, 0), .inr (0, 51, 0, 0), .inr (0, 52, 0, 0), .inr (0, 53, 0, 0)])]
def SPnt : List Cee := [.inl (8, [.inr (0, 20, 0, 0), .inr (0, 21, 0, 0)])]
def SFrm : List Cee := [.inl (6, [.inl 1, .inl 2, .inl 3, .inl 4, .inr (0, 60, 0, 0), .inr (0, 61, 0, 0)]), .inr (.inl (0, 4, 0, 62, 0, 0)), .inr (.inl (0, 4, 0, 63, 0, 0)), .inr (.inl (0, 4, 0, 64, 0, 0)), .inr (.inl (0, 4, 0, 65, 0, 0))]
def SBag : List Cee := [.inl (7, [.inl 1, .inl 2, .inl 3, .inr (0, 10, 0, 0), .inr (0, 11, 0, 0), .inr (0, 12, 0, 0), .inr (0, 13, 0, 0), .inr (0, 14, 0, 0)]), .inr (.inl (0, 30, 0, 15, 0, 0)), .inr (.inl (0, 30, 0, 16, 0, 0)), .inr (.inl (0, 30, 0, 17, 0, 0))]
def SNod0 : List Cee := [.inl (2, [.inl 5, .inr (0, 33, 0, 0), .inr (0, 34, 0, 0)]), .inr (.inl (0, 12, 0, 35, 0, 0)), .inl (3, [.inr (0, 36, 0, 0), .inr (0, 37, 0, 0), .inr (0, 38, 0, 0)]), .inl (2, [.inl 8, .inr (0, 33, 0, 0), .inr (0, 34, 0, 0)]), .inr (.inl (0, 12, 0, 35, 0, 0)), .inl (3, [.inr (0, 36, 0, 0), .inr (0, 37, 0, 0), .inr (0, 38, 0, 0)]), .inl (2, [.inl 11, .inr (0, 33, 0, 0), .inr (0, 34, 0, 0)]), .inr (.inl (0, 12, 0, 35, 0, 0)), .inl (3, [.inr (0, 36, 0, 0), .inr (0, 37, 0, 0), .inr (0, 38, 0, 0)]), .inl (2, [.inl 14, .inr (0, 33, 0, 0), .inr (0, 34, 0, 0)]), .inr (.inl (0, 12, 0, 35, 0, 0)), .inl (3, [.inr (0, 36, 0, 0), .inr (0, 37, 0, 0), .inr (0, 38, 0, 0)]), .inl (2, [.inl 17, .inr (0, 33, 0, 0), .inr (0, 34, 0, 0)]), .inr (.inl (0, 12, 0, 35, 0, 0)), .inl (3, [.inr (0, 36, 0, 0), .inr (0, 37, 0, 0), .inr (0, 38, 0, 0)]), .inl (2, [.inl 20, .inr (0, 33, 0, 0), .inr (0, 34, 0, 0)]), .inr (.inl (0, 12, 0, 35, 0, 0)), .inl (3, [.inr (0, 36, 0, 0), .inr (0, 37, 0, 0), .inr (0, 38, 0, 0)])]
def SNt (n t1 t2 : Nat) : List Cee := [.inl (1, [.inl 1, .inl 2, .inl 3, .inr (0, 30, 0, 0), .inr (0, 31, 0, 0)]), .inr (.inl (0, 4, 0, 32, 0, 0)), .inr (.inr (5, 6, [4, 7, 10, 13, 16, 19].take t1)), .inr (.inr (6, 6, [6, 9, 12, 15, 18, 21].take t2))] ++ SNod0.take (n - 4)
abbrev SNod : List Cee := SNt 22 6 6
def SBt (n t1 t2 t3 t4 : Nat) : List Cee := [.inl (0, [.inl 1, .inl 2, .inl 3, .inl 4, .inl 5, .inl 9, .inr (0, 1, 0, 0), .inr (0, 2, 0, 0), .inr (0, 3, 0, 0), .inr (0, 4, 0, 0), .inr (0, 5, 0, 0), .inr (0, 6, 0, 0), .inr (1, 7, 0, 0)]), .inr (.inr (1, 6, [10, 32, 54, 76, 98, 120].take t1)), .inr (.inr (2, 6, [142, 143, 144, 145, 146, 147].take t2)), .inr (.inr (3, 4, [148, 149, 150, 151].take t3)), .inr (.inr (4, 6, [152, 157, 162, 167, 172, 177].take t4))] ++ (((SB.drop 5).take (n - 5)).map nk)
theorem SBt_all : SBt 182 6 6 4 6 = SB.map nk := eqL_s (by decide +kernel)
set_option maxRecDepth 100000 in
set_option maxHeartbeats 4000000 in
theorem c_Que_init (l : Launch) (D : va_G) (ca : Nat → ClassId) : CtN l D ca y_Que_init w_Que_init (rmK 1 20 1 12) 2 [.null, .int 0, .int 0] 2 (fun a => enc a ca SQue σ0) 1 12 := by
  refine ct_n "RobotBus$Queue" (by decide) rfl rfl (by decide) (by decide) (fun a X C hI hmn hX0 hret => ?_)
  have hX : ∀ j, Xs X a (1 + j) j := fun j => ⟨by have := hX0.1; omega, Or.inl (by omega)⟩
  have hsn : ∀ j, X.2.2.1.heap.size ≤ a + (1 + j) := fun j => by have := hX0.1; omega
  refine z_aload_n C d_Que_init_0 rfl 0 rfl ?_
  refine y_obj C d_Que_init_1 (List.mem_cons_of_mem _ tw_100) (List.mem_cons_of_mem _ tw_27) (List.mem_cons_of_mem _ tw_28) ⟨by decide, by decide⟩ (by decide) ?_
  refine z_aload_n C d_Que_init_4 rfl 0 rfl ?_
  refine z_bipush C (v := 12) d_Que_init_5 (by decide) ?_
  refine y_newa C (a0 := (12, .inl (fun _ => 0))) (N := 12) (t0 := 0) (cA := ca 0) d_Que_init_7 (List.mem_cons_of_mem _ tw_71) rfl rfl (fun _ _ h => h) (by decide) (by decide) (by decide) (hX 0) ⟨by decide, by decide⟩ ?_
  refine y_putF C (T := F_Que) (N := 3) (ci := 2) (o := 0) (ty := (.array .int)) d_Que_init_9 (fun w h => List.mem_cons_of_mem _ (in_Que w h)) tk_Que n_Que rfl 0 (by decide) (List.mem_cons_of_mem _ tw_101) rfl hmn rfl (by decide +kernel) rfl rfl (Nat.le_of_ble_eq_true rfl) rfl rfl (Nat.le_of_ble_eq_true rfl) ?_
  refine z_aload_n C d_Que_init_12 rfl 0 rfl ?_
  refine z_iconst C (v := 0) d_Que_init_13 (by decide) ?_
  refine z_put C (T := F_Que) (N := 3) (ci := 2) (o := 0) (ty := .int) d_Que_init_14 (fun w h => List.mem_cons_of_mem _ (in_Que w h)) tk_Que n_Que rfl 1 (by decide) (List.mem_cons_of_mem _ tw_102) rfl (by decide +kernel) rfl rfl (Nat.le_of_ble_eq_true rfl) rfl rfl (Nat.le_of_ble_eq_true rfl) ?_
  refine z_aload_n C d_Que_init_17 rfl 0 rfl ?_
  refine z_iconst C (v := 0) d_Que_init_18 (by decide) ?_
  refine z_put C (T := F_Que) (N := 3) (ci := 2) (o := 0) (ty := .int) d_Que_init_19 (fun w h => List.mem_cons_of_mem _ (in_Que w h)) tk_Que n_Que rfl 2 (by decide) (List.mem_cons_of_mem _ tw_103) rfl (by decide +kernel) rfl rfl (Nat.le_of_ble_eq_true rfl) rfl rfl (Nat.le_of_ble_eq_true rfl) ?_
  exact hret _ _ _ d_Que_init_22 (fun o ho => by
    have h9 : o = 0 ∨ o = 1 := by omega
    rcases h9 with rfl | rfl <;> rfl)
set_option maxRecDepth 100000 in
set_option maxHeartbeats 4000000 in
theorem c_Act_init (l : Launch) (D : va_G) (ca : Nat → ClassId) : CtN l D ca y_Act_init w_Act_init (rmK 1 20 0 0) 3 [.int 0, .int 0, .int 0] 1 (fun a => enc a ca SAct σ0) 0 0 := by
  refine ct_n "RobotBus$Action" (by decide) rfl rfl (by decide) (by decide) (fun a X C hI hmn hX0 hret => ?_)
  have hX : ∀ j, Xs X a (1 + j) j := fun j => ⟨by have := hX0.1; omega, Or.inl (by omega)⟩
  have hsn : ∀ j, X.2.2.1.heap.size ≤ a + (1 + j) := fun j => by have := hX0.1; omega
  refine z_aload_n C d_Act_init_0 rfl 0 rfl ?_
  refine y_obj C d_Act_init_1 (List.mem_cons_of_mem _ tw_117) (List.mem_cons_of_mem _ tw_27) (List.mem_cons_of_mem _ tw_28) ⟨by decide, by decide⟩ (by decide) ?_
  refine z_aload_n C d_Act_init_4 rfl 0 rfl ?_
  refine z_iconst C (v := -1) d_Act_init_5 (by decide) ?_
  refine z_put C (T := F_Act) (N := 3) (ci := 3) (o := 0) (ty := .int) d_Act_init_6 (fun w h => List.mem_cons_of_mem _ (in_Act w h)) tk_Act n_Act rfl 0 (by decide) (List.mem_cons_of_mem _ tw_118) rfl (by decide +kernel) rfl rfl (Nat.le_of_ble_eq_true rfl) rfl rfl (Nat.le_of_ble_eq_true rfl) ?_
  refine z_aload_n C d_Act_init_9 rfl 0 rfl ?_
  refine z_iconst C (v := 0) d_Act_init_10 (by decide) ?_
  refine z_put C (T := F_Act) (N := 3) (ci := 3) (o := 0) (ty := .int) d_Act_init_11 (fun w h => List.mem_cons_of_mem _ (in_Act w h)) tk_Act n_Act rfl 1 (by decide) (List.mem_cons_of_mem _ tw_121) rfl (by decide +kernel) rfl rfl (Nat.le_of_ble_eq_true rfl) rfl rfl (Nat.le_of_ble_eq_true rfl) ?_
  refine z_aload_n C d_Act_init_14 rfl 0 rfl ?_
  refine z_iconst C (v := 0) d_Act_init_15 (by decide) ?_
  refine z_put C (T := F_Act) (N := 3) (ci := 3) (o := 0) (ty := .int) d_Act_init_16 (fun w h => List.mem_cons_of_mem _ (in_Act w h)) tk_Act n_Act rfl 2 (by decide) (List.mem_cons_of_mem _ tw_123) rfl (by decide +kernel) rfl rfl (Nat.le_of_ble_eq_true rfl) rfl rfl (Nat.le_of_ble_eq_true rfl) ?_
  exact hret _ _ _ d_Act_init_19 (fun o ho => by
    have h9 : o = 0 := by omega
    subst h9
    rfl)
set_option maxRecDepth 100000 in
set_option maxHeartbeats 4000000 in
theorem c_Top_init (l : Launch) (D : va_G) (ca : Nat → ClassId) : CtN l D ca y_Top_init w_Top_init (rmK 1 20 0 0) 4 [.int 0, .int 0, .int 0, .int 0, .int 0, .int 0] 1 (fun a => enc a ca STop σ0) 0 0 := by
  refine ct_n "RobotBus$Topic" (by decide) rfl rfl (by decide) (by decide) (fun a X C hI hmn hX0 hret => ?_)
  have hX : ∀ j, Xs X a (1 + j) j := fun j => ⟨by have := hX0.1; omega, Or.inl (by omega)⟩
  have hsn : ∀ j, X.2.2.1.heap.size ≤ a + (1 + j) := fun j => by have := hX0.1; omega
  refine z_aload_n C d_Top_init_0 rfl 0 rfl ?_
  refine y_obj C d_Top_init_1 (List.mem_cons_of_mem _ tw_156) (List.mem_cons_of_mem _ tw_27) (List.mem_cons_of_mem _ tw_28) ⟨by decide, by decide⟩ (by decide) ?_
  refine z_aload_n C d_Top_init_4 rfl 0 rfl ?_
  refine z_iconst C (v := 0) d_Top_init_5 (by decide) ?_
  refine z_put C (T := F_Top) (N := 6) (ci := 4) (o := 0) (ty := .boolean) d_Top_init_6 (fun w h => List.mem_cons_of_mem _ (in_Top w h)) tk_Top n_Top rfl 0 (by decide) (List.mem_cons_of_mem _ tw_157) rfl (by decide +kernel) rfl rfl (Nat.le_of_ble_eq_true rfl) rfl rfl (Nat.le_of_ble_eq_true rfl) ?_
  refine z_aload_n C d_Top_init_9 rfl 0 rfl ?_
  refine z_iconst C (v := 0) d_Top_init_10 (by decide) ?_
  refine z_put C (T := F_Top) (N := 6) (ci := 4) (o := 0) (ty := .boolean) d_Top_init_11 (fun w h => List.mem_cons_of_mem _ (in_Top w h)) tk_Top n_Top rfl 1 (by decide) (List.mem_cons_of_mem _ tw_159) rfl (by decide +kernel) rfl rfl (Nat.le_of_ble_eq_true rfl) rfl rfl (Nat.le_of_ble_eq_true rfl) ?_
  refine z_aload_n C d_Top_init_14 rfl 0 rfl ?_
  refine z_iconst C (v := 0) d_Top_init_15 (by decide) ?_
  refine z_put C (T := F_Top) (N := 6) (ci := 4) (o := 0) (ty := .boolean) d_Top_init_16 (fun w h => List.mem_cons_of_mem _ (in_Top w h)) tk_Top n_Top rfl 2 (by decide) (List.mem_cons_of_mem _ tw_161) rfl (by decide +kernel) rfl rfl (Nat.le_of_ble_eq_true rfl) rfl rfl (Nat.le_of_ble_eq_true rfl) ?_
  refine z_aload_n C d_Top_init_19 rfl 0 rfl ?_
  refine z_iconst C (v := 0) d_Top_init_20 (by decide) ?_
  refine z_put C (T := F_Top) (N := 6) (ci := 4) (o := 0) (ty := .int) d_Top_init_21 (fun w h => List.mem_cons_of_mem _ (in_Top w h)) tk_Top n_Top rfl 3 (by decide) (List.mem_cons_of_mem _ tw_163) rfl (by decide +kernel) rfl rfl (Nat.le_of_ble_eq_true rfl) rfl rfl (Nat.le_of_ble_eq_true rfl) ?_
  refine z_aload_n C d_Top_init_24 rfl 0 rfl ?_
  refine z_iconst C (v := 0) d_Top_init_25 (by decide) ?_
  refine z_put C (T := F_Top) (N := 6) (ci := 4) (o := 0) (ty := .int) d_Top_init_26 (fun w h => List.mem_cons_of_mem _ (in_Top w h)) tk_Top n_Top rfl 4 (by decide) (List.mem_cons_of_mem _ tw_165) rfl (by decide +kernel) rfl rfl (Nat.le_of_ble_eq_true rfl) rfl rfl (Nat.le_of_ble_eq_true rfl) ?_
  refine z_aload_n C d_Top_init_29 rfl 0 rfl ?_
  refine z_iconst C (v := 0) d_Top_init_30 (by decide) ?_
  refine z_put C (T := F_Top) (N := 6) (ci := 4) (o := 0) (ty := .int) d_Top_init_31 (fun w h => List.mem_cons_of_mem _ (in_Top w h)) tk_Top n_Top rfl 5 (by decide) (List.mem_cons_of_mem _ tw_167) rfl (by decide +kernel) rfl rfl (Nat.le_of_ble_eq_true rfl) rfl rfl (Nat.le_of_ble_eq_true rfl) ?_
  exact hret _ _ _ d_Top_init_34 (fun o ho => by
    have h9 : o = 0 := by omega
    subst h9
    rfl)
set_option maxRecDepth 100000 in
set_option maxHeartbeats 4000000 in
theorem c_Srv_init (l : Launch) (D : va_G) (ca : Nat → ClassId) : CtN l D ca y_Srv_init w_Srv_init (rmK 1 20 0 0) 5 [.int 0, .int 0, .int 0, .int 0] 1 (fun a => enc a ca SSrv σ0) 0 0 := by
  refine ct_n "RobotBus$Service" (by decide) rfl rfl (by decide) (by decide) (fun a X C hI hmn hX0 hret => ?_)
  have hX : ∀ j, Xs X a (1 + j) j := fun j => ⟨by have := hX0.1; omega, Or.inl (by omega)⟩
  have hsn : ∀ j, X.2.2.1.heap.size ≤ a + (1 + j) := fun j => by have := hX0.1; omega
  refine z_aload_n C d_Srv_init_0 rfl 0 rfl ?_
  refine y_obj C d_Srv_init_1 (List.mem_cons_of_mem _ tw_186) (List.mem_cons_of_mem _ tw_27) (List.mem_cons_of_mem _ tw_28) ⟨by decide, by decide⟩ (by decide) ?_
  refine z_aload_n C d_Srv_init_4 rfl 0 rfl ?_
  refine z_iconst C (v := -1) d_Srv_init_5 (by decide) ?_
  refine z_put C (T := F_Srv) (N := 4) (ci := 5) (o := 0) (ty := .int) d_Srv_init_6 (fun w h => List.mem_cons_of_mem _ (in_Srv w h)) tk_Srv n_Srv rfl 0 (by decide) (List.mem_cons_of_mem _ tw_187) rfl (by decide +kernel) rfl rfl (Nat.le_of_ble_eq_true rfl) rfl rfl (Nat.le_of_ble_eq_true rfl) ?_
  refine z_aload_n C d_Srv_init_9 rfl 0 rfl ?_
  refine z_iconst C (v := 0) d_Srv_init_10 (by decide) ?_
  refine z_put C (T := F_Srv) (N := 4) (ci := 5) (o := 0) (ty := .int) d_Srv_init_11 (fun w h => List.mem_cons_of_mem _ (in_Srv w h)) tk_Srv n_Srv rfl 1 (by decide) (List.mem_cons_of_mem _ tw_189) rfl (by decide +kernel) rfl rfl (Nat.le_of_ble_eq_true rfl) rfl rfl (Nat.le_of_ble_eq_true rfl) ?_
  refine z_aload_n C d_Srv_init_14 rfl 0 rfl ?_
  refine z_iconst C (v := 0) d_Srv_init_15 (by decide) ?_
  refine z_put C (T := F_Srv) (N := 4) (ci := 5) (o := 0) (ty := .int) d_Srv_init_16 (fun w h => List.mem_cons_of_mem _ (in_Srv w h)) tk_Srv n_Srv rfl 2 (by decide) (List.mem_cons_of_mem _ tw_191) rfl (by decide +kernel) rfl rfl (Nat.le_of_ble_eq_true rfl) rfl rfl (Nat.le_of_ble_eq_true rfl) ?_
  refine z_aload_n C d_Srv_init_19 rfl 0 rfl ?_
  refine z_iconst C (v := 0) d_Srv_init_20 (by decide) ?_
  refine z_put C (T := F_Srv) (N := 4) (ci := 5) (o := 0) (ty := .int) d_Srv_init_21 (fun w h => List.mem_cons_of_mem _ (in_Srv w h)) tk_Srv n_Srv rfl 3 (by decide) (List.mem_cons_of_mem _ tw_193) rfl (by decide +kernel) rfl rfl (Nat.le_of_ble_eq_true rfl) rfl rfl (Nat.le_of_ble_eq_true rfl) ?_
  exact hret _ _ _ d_Srv_init_24 (fun o ho => by
    have h9 : o = 0 := by omega
    subst h9
    rfl)
set_option maxRecDepth 100000 in
set_option maxHeartbeats 4000000 in
theorem c_Pnt_init (l : Launch) (D : va_G) (ca : Nat → ClassId) : CtN l D ca y_Pnt_init w_Pnt_init (rmK 1 20 0 0) 8 [.int 0, .int 0] 1 (fun a => enc a ca SPnt σ0) 0 0 := by
  refine ct_n "RobotBus$Point" (by decide) rfl rfl (by decide) (by decide) (fun a X C hI hmn hX0 hret => ?_)
  have hX : ∀ j, Xs X a (1 + j) j := fun j => ⟨by have := hX0.1; omega, Or.inl (by omega)⟩
  have hsn : ∀ j, X.2.2.1.heap.size ≤ a + (1 + j) := fun j => by have := hX0.1; omega
  refine z_aload_n C d_Pnt_init_0 rfl 0 rfl ?_
  refine y_obj C d_Pnt_init_1 (List.mem_cons_of_mem _ tw_77) (List.mem_cons_of_mem _ tw_27) (List.mem_cons_of_mem _ tw_28) ⟨by decide, by decide⟩ (by decide) ?_
  refine z_aload_n C d_Pnt_init_4 rfl 0 rfl ?_
  refine z_iconst C (v := 0) d_Pnt_init_5 (by decide) ?_
  refine z_put C (T := F_Pnt) (N := 2) (ci := 8) (o := 0) (ty := .int) d_Pnt_init_6 (fun w h => List.mem_cons_of_mem _ (in_Pnt w h)) tk_Pnt n_Pnt rfl 0 (by decide) (List.mem_cons_of_mem _ tw_78) rfl (by decide +kernel) rfl rfl (Nat.le_of_ble_eq_true rfl) rfl rfl (Nat.le_of_ble_eq_true rfl) ?_
  refine z_aload_n C d_Pnt_init_9 rfl 0 rfl ?_
  refine z_iconst C (v := 0) d_Pnt_init_10 (by decide) ?_
  refine z_put C (T := F_Pnt) (N := 2) (ci := 8) (o := 0) (ty := .int) d_Pnt_init_11 (fun w h => List.mem_cons_of_mem _ (in_Pnt w h)) tk_Pnt n_Pnt rfl 1 (by decide) (List.mem_cons_of_mem _ tw_80) rfl (by decide +kernel) rfl rfl (Nat.le_of_ble_eq_true rfl) rfl rfl (Nat.le_of_ble_eq_true rfl) ?_
  exact hret _ _ _ d_Pnt_init_14 (fun o ho => by
    have h9 : o = 0 := by omega
    subst h9
    rfl)
set_option maxRecDepth 100000 in
set_option maxHeartbeats 4000000 in
theorem c_Frm_init (l : Launch) (D : va_G) (ca : Nat → ClassId) : CtN l D ca y_Frm_init w_Frm_init (rmK 1 20 4 16) 6 [.null, .null, .null, .null, .int 0, .int 0] 5 (fun a => enc a ca SFrm σ0) 4 16 := by
  refine ct_n "RobotBus$Frame" (by decide) rfl rfl (by decide) (by decide) (fun a X C hI hmn hX0 hret => ?_)
  have hX : ∀ j, Xs X a (1 + j) j := fun j => ⟨by have := hX0.1; omega, Or.inl (by omega)⟩
  have hsn : ∀ j, X.2.2.1.heap.size ≤ a + (1 + j) := fun j => by have := hX0.1; omega
  refine z_aload_n C d_Frm_init_0 rfl 0 rfl ?_
  refine y_obj C d_Frm_init_1 (List.mem_cons_of_mem _ tw_208) (List.mem_cons_of_mem _ tw_27) (List.mem_cons_of_mem _ tw_28) ⟨by decide, by decide⟩ (by decide) ?_
  refine z_aload_n C d_Frm_init_4 rfl 0 rfl ?_
  refine z_iconst C (v := 4) d_Frm_init_5 (by decide) ?_
  refine y_newa C (a0 := (4, .inl (fun _ => 0))) (N := 4) (t0 := 0) (cA := ca 0) d_Frm_init_6 (List.mem_cons_of_mem _ tw_71) rfl rfl (fun _ _ h => h) (by decide) (by decide) (by decide) (hX 0) ⟨by decide, by decide⟩ ?_
  refine y_putF C (T := F_Frm) (N := 6) (ci := 6) (o := 0) (ty := (.array .int)) d_Frm_init_8 (fun w h => List.mem_cons_of_mem _ (in_Frm w h)) tk_Frm n_Frm rfl 0 (by decide) (List.mem_cons_of_mem _ tw_209) rfl hmn rfl (by decide +kernel) rfl rfl (Nat.le_of_ble_eq_true rfl) rfl rfl (Nat.le_of_ble_eq_true rfl) ?_
  refine z_aload_n C d_Frm_init_11 rfl 0 rfl ?_
  refine z_iconst C (v := 4) d_Frm_init_12 (by decide) ?_
  refine y_newa C (a0 := (4, .inl (fun _ => 0))) (N := 4) (t0 := 0) (cA := ca 0) d_Frm_init_13 (List.mem_cons_of_mem _ tw_71) rfl rfl (fun _ _ h => h) (by decide) (by decide) (by decide) (hX 1) ⟨by decide, by decide⟩ ?_
  refine y_putF C (T := F_Frm) (N := 6) (ci := 6) (o := 0) (ty := (.array .int)) d_Frm_init_15 (fun w h => List.mem_cons_of_mem _ (in_Frm w h)) tk_Frm n_Frm rfl 1 (by decide) (List.mem_cons_of_mem _ tw_210) rfl hmn rfl (by decide +kernel) rfl rfl (Nat.le_of_ble_eq_true rfl) rfl rfl (Nat.le_of_ble_eq_true rfl) ?_
  refine z_aload_n C d_Frm_init_18 rfl 0 rfl ?_
  refine z_iconst C (v := 4) d_Frm_init_19 (by decide) ?_
  refine y_newa C (a0 := (4, .inl (fun _ => 0))) (N := 4) (t0 := 0) (cA := ca 0) d_Frm_init_20 (List.mem_cons_of_mem _ tw_71) rfl rfl (fun _ _ h => h) (by decide) (by decide) (by decide) (hX 2) ⟨by decide, by decide⟩ ?_
  refine y_putF C (T := F_Frm) (N := 6) (ci := 6) (o := 0) (ty := (.array .int)) d_Frm_init_22 (fun w h => List.mem_cons_of_mem _ (in_Frm w h)) tk_Frm n_Frm rfl 2 (by decide) (List.mem_cons_of_mem _ tw_212) rfl hmn rfl (by decide +kernel) rfl rfl (Nat.le_of_ble_eq_true rfl) rfl rfl (Nat.le_of_ble_eq_true rfl) ?_
  refine z_aload_n C d_Frm_init_25 rfl 0 rfl ?_
  refine z_iconst C (v := 4) d_Frm_init_26 (by decide) ?_
  refine y_newa C (a0 := (4, .inl (fun _ => 0))) (N := 4) (t0 := 0) (cA := ca 0) d_Frm_init_27 (List.mem_cons_of_mem _ tw_71) rfl rfl (fun _ _ h => h) (by decide) (by decide) (by decide) (hX 3) ⟨by decide, by decide⟩ ?_
  refine y_putF C (T := F_Frm) (N := 6) (ci := 6) (o := 0) (ty := (.array .int)) d_Frm_init_29 (fun w h => List.mem_cons_of_mem _ (in_Frm w h)) tk_Frm n_Frm rfl 3 (by decide) (List.mem_cons_of_mem _ tw_214) rfl hmn rfl (by decide +kernel) rfl rfl (Nat.le_of_ble_eq_true rfl) rfl rfl (Nat.le_of_ble_eq_true rfl) ?_
  refine z_aload_n C d_Frm_init_32 rfl 0 rfl ?_
  refine z_iconst C (v := -1) d_Frm_init_33 (by decide) ?_
  refine z_put C (T := F_Frm) (N := 6) (ci := 6) (o := 0) (ty := .int) d_Frm_init_34 (fun w h => List.mem_cons_of_mem _ (in_Frm w h)) tk_Frm n_Frm rfl 4 (by decide) (List.mem_cons_of_mem _ tw_216) rfl (by decide +kernel) rfl rfl (Nat.le_of_ble_eq_true rfl) rfl rfl (Nat.le_of_ble_eq_true rfl) ?_
  refine z_aload_n C d_Frm_init_37 rfl 0 rfl ?_
  refine z_iconst C (v := 0) d_Frm_init_38 (by decide) ?_
  refine z_put C (T := F_Frm) (N := 6) (ci := 6) (o := 0) (ty := .int) d_Frm_init_39 (fun w h => List.mem_cons_of_mem _ (in_Frm w h)) tk_Frm n_Frm rfl 5 (by decide) (List.mem_cons_of_mem _ tw_218) rfl (by decide +kernel) rfl rfl (Nat.le_of_ble_eq_true rfl) rfl rfl (Nat.le_of_ble_eq_true rfl) ?_
  exact hret _ _ _ d_Frm_init_42 (fun o ho => by
    have h9 : o = 0 ∨ o = 1 ∨ o = 2 ∨ o = 3 ∨ o = 4 := by omega
    rcases h9 with rfl | rfl | rfl | rfl | rfl <;> rfl)
set_option maxRecDepth 100000 in
set_option maxHeartbeats 4000000 in
theorem c_Bag_init (l : Launch) (D : va_G) (ca : Nat → ClassId) : CtN l D ca y_Bag_init w_Bag_init (rmK 1 20 3 90) 7 [.null, .null, .null, .int 0, .int 0, .int 0, .int 0, .int 0] 4 (fun a => enc a ca SBag σ0) 3 90 := by
  refine ct_n "RobotBus$Bag" (by decide) rfl rfl (by decide) (by decide) (fun a X C hI hmn hX0 hret => ?_)
  have hX : ∀ j, Xs X a (1 + j) j := fun j => ⟨by have := hX0.1; omega, Or.inl (by omega)⟩
  have hsn : ∀ j, X.2.2.1.heap.size ≤ a + (1 + j) := fun j => by have := hX0.1; omega
  refine z_aload_n C d_Bag_init_0 rfl 0 rfl ?_
  refine y_obj C d_Bag_init_1 (List.mem_cons_of_mem _ tw_42) (List.mem_cons_of_mem _ tw_27) (List.mem_cons_of_mem _ tw_28) ⟨by decide, by decide⟩ (by decide) ?_
  refine z_aload_n C d_Bag_init_4 rfl 0 rfl ?_
  refine z_bipush C (v := 30) d_Bag_init_5 (by decide) ?_
  refine y_newa C (a0 := (30, .inl (fun _ => 0))) (N := 30) (t0 := 0) (cA := ca 0) d_Bag_init_7 (List.mem_cons_of_mem _ tw_71) rfl rfl (fun _ _ h => h) (by decide) (by decide) (by decide) (hX 0) ⟨by decide, by decide⟩ ?_
  refine y_putF C (T := F_Bag) (N := 8) (ci := 7) (o := 0) (ty := (.array .int)) d_Bag_init_9 (fun w h => List.mem_cons_of_mem _ (in_Bag w h)) tk_Bag n_Bag rfl 0 (by decide) (List.mem_cons_of_mem _ tw_43) rfl hmn rfl (by decide +kernel) rfl rfl (Nat.le_of_ble_eq_true rfl) rfl rfl (Nat.le_of_ble_eq_true rfl) ?_
  refine z_aload_n C d_Bag_init_12 rfl 0 rfl ?_
  refine z_bipush C (v := 30) d_Bag_init_13 (by decide) ?_
  refine y_newa C (a0 := (30, .inl (fun _ => 0))) (N := 30) (t0 := 0) (cA := ca 0) d_Bag_init_15 (List.mem_cons_of_mem _ tw_71) rfl rfl (fun _ _ h => h) (by decide) (by decide) (by decide) (hX 1) ⟨by decide, by decide⟩ ?_
  refine y_putF C (T := F_Bag) (N := 8) (ci := 7) (o := 0) (ty := (.array .int)) d_Bag_init_17 (fun w h => List.mem_cons_of_mem _ (in_Bag w h)) tk_Bag n_Bag rfl 1 (by decide) (List.mem_cons_of_mem _ tw_44) rfl hmn rfl (by decide +kernel) rfl rfl (Nat.le_of_ble_eq_true rfl) rfl rfl (Nat.le_of_ble_eq_true rfl) ?_
  refine z_aload_n C d_Bag_init_20 rfl 0 rfl ?_
  refine z_bipush C (v := 30) d_Bag_init_21 (by decide) ?_
  refine y_newa C (a0 := (30, .inl (fun _ => 0))) (N := 30) (t0 := 0) (cA := ca 0) d_Bag_init_23 (List.mem_cons_of_mem _ tw_71) rfl rfl (fun _ _ h => h) (by decide) (by decide) (by decide) (hX 2) ⟨by decide, by decide⟩ ?_
  refine y_putF C (T := F_Bag) (N := 8) (ci := 7) (o := 0) (ty := (.array .int)) d_Bag_init_25 (fun w h => List.mem_cons_of_mem _ (in_Bag w h)) tk_Bag n_Bag rfl 2 (by decide) (List.mem_cons_of_mem _ tw_46) rfl hmn rfl (by decide +kernel) rfl rfl (Nat.le_of_ble_eq_true rfl) rfl rfl (Nat.le_of_ble_eq_true rfl) ?_
  refine z_aload_n C d_Bag_init_28 rfl 0 rfl ?_
  refine z_iconst C (v := 0) d_Bag_init_29 (by decide) ?_
  refine z_put C (T := F_Bag) (N := 8) (ci := 7) (o := 0) (ty := .int) d_Bag_init_30 (fun w h => List.mem_cons_of_mem _ (in_Bag w h)) tk_Bag n_Bag rfl 3 (by decide) (List.mem_cons_of_mem _ tw_48) rfl (by decide +kernel) rfl rfl (Nat.le_of_ble_eq_true rfl) rfl rfl (Nat.le_of_ble_eq_true rfl) ?_
  refine z_aload_n C d_Bag_init_33 rfl 0 rfl ?_
  refine z_iconst C (v := 0) d_Bag_init_34 (by decide) ?_
  refine z_put C (T := F_Bag) (N := 8) (ci := 7) (o := 0) (ty := .int) d_Bag_init_35 (fun w h => List.mem_cons_of_mem _ (in_Bag w h)) tk_Bag n_Bag rfl 4 (by decide) (List.mem_cons_of_mem _ tw_50) rfl (by decide +kernel) rfl rfl (Nat.le_of_ble_eq_true rfl) rfl rfl (Nat.le_of_ble_eq_true rfl) ?_
  refine z_aload_n C d_Bag_init_38 rfl 0 rfl ?_
  refine z_iconst C (v := 0) d_Bag_init_39 (by decide) ?_
  refine z_put C (T := F_Bag) (N := 8) (ci := 7) (o := 0) (ty := .int) d_Bag_init_40 (fun w h => List.mem_cons_of_mem _ (in_Bag w h)) tk_Bag n_Bag rfl 5 (by decide) (List.mem_cons_of_mem _ tw_51) rfl (by decide +kernel) rfl rfl (Nat.le_of_ble_eq_true rfl) rfl rfl (Nat.le_of_ble_eq_true rfl) ?_
  refine z_aload_n C d_Bag_init_43 rfl 0 rfl ?_
  refine z_iconst C (v := 0) d_Bag_init_44 (by decide) ?_
  refine z_put C (T := F_Bag) (N := 8) (ci := 7) (o := 0) (ty := .int) d_Bag_init_45 (fun w h => List.mem_cons_of_mem _ (in_Bag w h)) tk_Bag n_Bag rfl 6 (by decide) (List.mem_cons_of_mem _ tw_52) rfl (by decide +kernel) rfl rfl (Nat.le_of_ble_eq_true rfl) rfl rfl (Nat.le_of_ble_eq_true rfl) ?_
  refine z_aload_n C d_Bag_init_48 rfl 0 rfl ?_
  refine z_iconst C (v := 1) d_Bag_init_49 (by decide) ?_
  refine z_put C (T := F_Bag) (N := 8) (ci := 7) (o := 0) (ty := .int) d_Bag_init_50 (fun w h => List.mem_cons_of_mem _ (in_Bag w h)) tk_Bag n_Bag rfl 7 (by decide) (List.mem_cons_of_mem _ tw_53) rfl (by decide +kernel) rfl rfl (Nat.le_of_ble_eq_true rfl) rfl rfl (Nat.le_of_ble_eq_true rfl) ?_
  exact hret _ _ _ d_Bag_init_53 (fun o ho => by
    have h9 : o = 0 ∨ o = 1 ∨ o = 2 ∨ o = 3 := by omega
    rcases h9 with rfl | rfl | rfl | rfl <;> rfl)
set_option maxRecDepth 100000 in
set_option maxHeartbeats 4000000 in
theorem c_Nod_init (l : Launch) (D : va_G) (ca : Nat → ClassId) : CtN l D ca y_Nod_init w_Nod_init (rmK 2 40 21 124) 1 [.null, .null, .null, .int 0, .int 0] 22 (fun a => enc a ca SNod σ0) 21 124 := by
  refine ct_n "RobotBus$Node" (by decide) rfl rfl (by decide) (by decide) (fun a X C hI hmn hX0 hret => ?_)
  have hX : ∀ j, Xs X a (1 + j) j := fun j => ⟨by have := hX0.1; omega, Or.inl (by omega)⟩
  have hsn : ∀ j, X.2.2.1.heap.size ≤ a + (1 + j) := fun j => by have := hX0.1; omega
  refine z_aload_n C d_Nod_init_0 rfl 0 rfl ?_
  refine y_obj C d_Nod_init_1 (List.mem_cons_of_mem _ tw_91) (List.mem_cons_of_mem _ tw_27) (List.mem_cons_of_mem _ tw_28) ⟨by decide, by decide⟩ (by decide) ?_
  refine z_aload_n C d_Nod_init_4 rfl 0 rfl ?_
  refine z_iconst C (v := 4) d_Nod_init_5 (by decide) ?_
  refine y_newa C (a0 := (4, .inl (fun _ => 0))) (N := 4) (t0 := 0) (cA := ca 0) d_Nod_init_6 (List.mem_cons_of_mem _ tw_71) rfl rfl (fun _ _ h => h) (by decide) (by decide) (by decide) (hX 0) ⟨by decide, by decide⟩ ?_
  refine y_putF C (T := F_Nod) (N := 5) (ci := 1) (o := 0) (ty := (.array .int)) d_Nod_init_8 (fun w h => List.mem_cons_of_mem _ (in_Nod w h)) tk_Nod n_Nod rfl 0 (by decide) (List.mem_cons_of_mem _ tw_132) rfl hmn rfl (by decide +kernel) rfl rfl (Nat.le_of_ble_eq_true rfl) rfl rfl (Nat.le_of_ble_eq_true rfl) ?_
  refine z_aload_n C d_Nod_init_11 rfl 0 rfl ?_
  refine z_bipush C (v := 6) d_Nod_init_12 (by decide) ?_
  refine y_anew C (N := 6) (t0 := 5) (cA := ca 5) d_Nod_init_14 (List.mem_cons_of_mem _ tw_92) (hI.2 _ (by decide)) rfl (by decide) (by decide) (by decide) (hX 1) ⟨by decide, by decide⟩ ?_
  refine y_putF C (T := F_Nod) (N := 5) (ci := 1) (o := 0) (ty := (.array (.object "RobotBus$Queue"))) d_Nod_init_17 (fun w h => List.mem_cons_of_mem _ (in_Nod w h)) tk_Nod n_Nod rfl 1 (by decide) (List.mem_cons_of_mem _ tw_134) rfl hmn rfl (by decide +kernel) rfl rfl (Nat.le_of_ble_eq_true rfl) rfl rfl (Nat.le_of_ble_eq_true rfl) ?_
  refine z_aload_n C d_Nod_init_20 rfl 0 rfl ?_
  refine z_bipush C (v := 6) d_Nod_init_21 (by decide) ?_
  refine y_anew C (N := 6) (t0 := 6) (cA := ca 6) d_Nod_init_23 (List.mem_cons_of_mem _ tw_94) (hI.2 _ (by decide)) rfl (by decide) (by decide) (by decide) (hX 2) ⟨by decide, by decide⟩ ?_
  refine y_putF C (T := F_Nod) (N := 5) (ci := 1) (o := 0) (ty := (.array (.object "RobotBus$Action"))) d_Nod_init_26 (fun w h => List.mem_cons_of_mem _ (in_Nod w h)) tk_Nod n_Nod rfl 2 (by decide) (List.mem_cons_of_mem _ tw_136) rfl hmn rfl (by decide +kernel) rfl rfl (Nat.le_of_ble_eq_true rfl) rfl rfl (Nat.le_of_ble_eq_true rfl) ?_
  refine z_aload_n C d_Nod_init_29 rfl 0 rfl ?_
  refine z_iconst C (v := 0) d_Nod_init_30 (by decide) ?_
  refine z_put C (T := F_Nod) (N := 5) (ci := 1) (o := 0) (ty := .boolean) d_Nod_init_31 (fun w h => List.mem_cons_of_mem _ (in_Nod w h)) tk_Nod n_Nod rfl 3 (by decide) (List.mem_cons_of_mem _ tw_138) rfl (by decide +kernel) rfl rfl (Nat.le_of_ble_eq_true rfl) rfl rfl (Nat.le_of_ble_eq_true rfl) ?_
  refine z_aload_n C d_Nod_init_34 rfl 0 rfl ?_
  refine z_iconst C (v := 0) d_Nod_init_35 (by decide) ?_
  refine z_put C (T := F_Nod) (N := 5) (ci := 1) (o := 0) (ty := .int) d_Nod_init_36 (fun w h => List.mem_cons_of_mem _ (in_Nod w h)) tk_Nod n_Nod rfl 4 (by decide) (List.mem_cons_of_mem _ tw_140) rfl (by decide +kernel) rfl rfl (Nat.le_of_ble_eq_true rfl) rfl rfl (Nat.le_of_ble_eq_true rfl) ?_
  refine z_iconst C (v := 0) d_Nod_init_39 (by decide) ?_
  refine z_istore_n C d_Nod_init_40 rfl (by decide) [(1, .int 0), (0, .ref a)] rfl ?_
  refine z_congr (n := 4) (M' := enc a ca (SNt 4 0 0) σ0) (fun o ho => by
    have h9 : o = 0 ∨ o = 1 ∨ o = 2 ∨ o = 3 := by omega
    rcases h9 with rfl | rfl | rfl | rfl <;> rfl) ?_
  refine z_iload_n C d_Nod_init_41 rfl 0 rfl ?_
  refine z_bipush C (v := 6) d_Nod_init_42 (by decide) ?_
  refine z_icmp_ge C 79 d_Nod_init_44 (by decide) (fun h9 => False.elim (absurd h9 (by decide))) (fun _ => ?_)
  refine z_aload_n C d_Nod_init_47 rfl 1 rfl ?_
  refine z_get C (T := F_Nod) (N := 5) (ci := 1) (o := 0) (v := .ref (a + 2)) d_Nod_init_48 (fun w h => List.mem_cons_of_mem _ (in_Nod w h)) rfl 1 (by decide) (List.mem_cons_of_mem _ tw_134) (Nat.le_of_ble_eq_true rfl) rfl rfl rfl ?_
  refine z_iload_n C d_Nod_init_51 rfl 0 rfl ?_
  refine y_new C (T := F_Que) (N := 3) (ci := 2) (fs := [.null, .int 0, .int 0]) d_Nod_init_52 (List.mem_cons_of_mem _ tw_92) (List.mem_cons_of_mem _ tw_96) (List.mem_cons_of_mem _ tw_5) (fun w h => List.mem_cons_of_mem _ (in_Que w h)) t_Que tk_Que rfl (by decide +kernel) (hX 3) ⟨by decide, by decide⟩ ?_
  refine z_dup C d_Nod_init_55 rfl ?_
  refine y_initN (n := 4) C d_Nod_init_56 (c_Que_init l D ca) hI (by decide) tw_98 tw_5 tw_99 ⟨rfl, pd_Que_init.2⟩ ⟨⟨by decide, by decide⟩, rfl, rfl, by decide, by decide⟩ (Nat.le_of_ble_eq_true rfl) (hsn 3) (hX 4) rfl (by decide) ?_
  refine y_aast C (o := 2) (ov := 4) (ci := 2) (r := (R_Que, F_Que, 3)) (t0 := 5) (vs := _) d_Nod_init_59 rfl (Nat.le_of_ble_eq_true rfl) rfl (it_at (n := 4) (S := SNt 4 0 0) (Nat.le_of_ble_eq_true rfl) rfl) (Nat.le_of_ble_eq_true rfl) rfl rfl rfl (by unfold vp_in; decide) ?_
  refine z_congr (n := 6) (M' := enc a ca (SNt 6 1 0) σ0) (it_eq (n := 4) (N' := 2) (S := SNt 4 0 0) (S' := SQue) (by decide +kernel) (by decide +kernel) (by decide) (by decide +kernel) (eqL_s (by decide +kernel))) ?_
  refine z_aload_n C d_Nod_init_60 rfl 1 rfl ?_
  refine z_get C (T := F_Nod) (N := 5) (ci := 1) (o := 0) (v := .ref (a + 3)) d_Nod_init_61 (fun w h => List.mem_cons_of_mem _ (in_Nod w h)) rfl 2 (by decide) (List.mem_cons_of_mem _ tw_136) (Nat.le_of_ble_eq_true rfl) rfl rfl rfl ?_
  refine z_iload_n C d_Nod_init_64 rfl 0 rfl ?_
  refine y_new C (T := F_Act) (N := 3) (ci := 3) (fs := [.int 0, .int 0, .int 0]) d_Nod_init_65 (List.mem_cons_of_mem _ tw_94) (List.mem_cons_of_mem _ tw_113) (List.mem_cons_of_mem _ tw_6) (fun w h => List.mem_cons_of_mem _ (in_Act w h)) t_Act tk_Act rfl (by decide +kernel) (hX 5) ⟨by decide, by decide⟩ ?_
  refine z_dup C d_Nod_init_68 rfl ?_
  refine y_initN (n := 6) C d_Nod_init_69 (c_Act_init l D ca) hI (by decide) tw_115 tw_6 tw_116 ⟨rfl, pd_Act_init.2⟩ ⟨⟨by decide, by decide⟩, rfl, rfl, by decide, by decide⟩ (Nat.le_of_ble_eq_true rfl) (hsn 5) (hX 6) rfl (by decide) ?_
  refine y_aast C (o := 3) (ov := 6) (ci := 3) (r := (R_Act, F_Act, 3)) (t0 := 6) (vs := _) d_Nod_init_72 rfl (Nat.le_of_ble_eq_true rfl) rfl (it_at (n := 6) (S := SNt 6 1 0) (Nat.le_of_ble_eq_true rfl) rfl) (Nat.le_of_ble_eq_true rfl) rfl rfl rfl (by unfold vp_in; decide) ?_
  refine z_congr (n := 7) (M' := enc a ca (SNt 7 1 1) σ0) (it_eq (n := 6) (N' := 1) (S := SNt 6 1 0) (S' := SAct) (by decide +kernel) (by decide +kernel) (by decide) (by decide +kernel) (eqL_s (by decide +kernel))) ?_
  refine z_iinc C (v := 1) d_Nod_init_73 0 rfl (by decide) (by decide) [(1, .int 1), (0, .ref a)] rfl ?_
  refine z_goto C 41 d_Nod_init_76 (by decide) ?_
  refine z_iload_n C d_Nod_init_41 rfl 0 rfl ?_
  refine z_bipush C (v := 6) d_Nod_init_42 (by decide) ?_
  refine z_icmp_ge C 79 d_Nod_init_44 (by decide) (fun h9 => False.elim (absurd h9 (by decide))) (fun _ => ?_)
  refine z_aload_n C d_Nod_init_47 rfl 1 rfl ?_
  refine z_get C (T := F_Nod) (N := 5) (ci := 1) (o := 0) (v := .ref (a + 2)) d_Nod_init_48 (fun w h => List.mem_cons_of_mem _ (in_Nod w h)) rfl 1 (by decide) (List.mem_cons_of_mem _ tw_134) (Nat.le_of_ble_eq_true rfl) rfl rfl rfl ?_
  refine z_iload_n C d_Nod_init_51 rfl 0 rfl ?_
  refine y_new C (T := F_Que) (N := 3) (ci := 2) (fs := [.null, .int 0, .int 0]) d_Nod_init_52 (List.mem_cons_of_mem _ tw_92) (List.mem_cons_of_mem _ tw_96) (List.mem_cons_of_mem _ tw_5) (fun w h => List.mem_cons_of_mem _ (in_Que w h)) t_Que tk_Que rfl (by decide +kernel) (hX 6) ⟨by decide, by decide⟩ ?_
  refine z_dup C d_Nod_init_55 rfl ?_
  refine y_initN (n := 7) C d_Nod_init_56 (c_Que_init l D ca) hI (by decide) tw_98 tw_5 tw_99 ⟨rfl, pd_Que_init.2⟩ ⟨⟨by decide, by decide⟩, rfl, rfl, by decide, by decide⟩ (Nat.le_of_ble_eq_true rfl) (hsn 6) (hX 7) rfl (by decide) ?_
  refine y_aast C (o := 2) (ov := 7) (ci := 2) (r := (R_Que, F_Que, 3)) (t0 := 5) (vs := _) d_Nod_init_59 rfl (Nat.le_of_ble_eq_true rfl) rfl (it_at (n := 7) (S := SNt 7 1 1) (Nat.le_of_ble_eq_true rfl) rfl) (Nat.le_of_ble_eq_true rfl) rfl rfl rfl (by unfold vp_in; decide) ?_
  refine z_congr (n := 9) (M' := enc a ca (SNt 9 2 1) σ0) (it_eq (n := 7) (N' := 2) (S := SNt 7 1 1) (S' := SQue) (by decide +kernel) (by decide +kernel) (by decide) (by decide +kernel) (eqL_s (by decide +kernel))) ?_
  refine z_aload_n C d_Nod_init_60 rfl 1 rfl ?_
  refine z_get C (T := F_Nod) (N := 5) (ci := 1) (o := 0) (v := .ref (a + 3)) d_Nod_init_61 (fun w h => List.mem_cons_of_mem _ (in_Nod w h)) rfl 2 (by decide) (List.mem_cons_of_mem _ tw_136) (Nat.le_of_ble_eq_true rfl) rfl rfl rfl ?_
  refine z_iload_n C d_Nod_init_64 rfl 0 rfl ?_
  refine y_new C (T := F_Act) (N := 3) (ci := 3) (fs := [.int 0, .int 0, .int 0]) d_Nod_init_65 (List.mem_cons_of_mem _ tw_94) (List.mem_cons_of_mem _ tw_113) (List.mem_cons_of_mem _ tw_6) (fun w h => List.mem_cons_of_mem _ (in_Act w h)) t_Act tk_Act rfl (by decide +kernel) (hX 8) ⟨by decide, by decide⟩ ?_
  refine z_dup C d_Nod_init_68 rfl ?_
  refine y_initN (n := 9) C d_Nod_init_69 (c_Act_init l D ca) hI (by decide) tw_115 tw_6 tw_116 ⟨rfl, pd_Act_init.2⟩ ⟨⟨by decide, by decide⟩, rfl, rfl, by decide, by decide⟩ (Nat.le_of_ble_eq_true rfl) (hsn 8) (hX 9) rfl (by decide) ?_
  refine y_aast C (o := 3) (ov := 9) (ci := 3) (r := (R_Act, F_Act, 3)) (t0 := 6) (vs := _) d_Nod_init_72 rfl (Nat.le_of_ble_eq_true rfl) rfl (it_at (n := 9) (S := SNt 9 2 1) (Nat.le_of_ble_eq_true rfl) rfl) (Nat.le_of_ble_eq_true rfl) rfl rfl rfl (by unfold vp_in; decide) ?_
  refine z_congr (n := 10) (M' := enc a ca (SNt 10 2 2) σ0) (it_eq (n := 9) (N' := 1) (S := SNt 9 2 1) (S' := SAct) (by decide +kernel) (by decide +kernel) (by decide) (by decide +kernel) (eqL_s (by decide +kernel))) ?_
  refine z_iinc C (v := 2) d_Nod_init_73 0 rfl (by decide) (by decide) [(1, .int 2), (0, .ref a)] rfl ?_
  refine z_goto C 41 d_Nod_init_76 (by decide) ?_
  refine z_iload_n C d_Nod_init_41 rfl 0 rfl ?_
  refine z_bipush C (v := 6) d_Nod_init_42 (by decide) ?_
  refine z_icmp_ge C 79 d_Nod_init_44 (by decide) (fun h9 => False.elim (absurd h9 (by decide))) (fun _ => ?_)
  refine z_aload_n C d_Nod_init_47 rfl 1 rfl ?_
  refine z_get C (T := F_Nod) (N := 5) (ci := 1) (o := 0) (v := .ref (a + 2)) d_Nod_init_48 (fun w h => List.mem_cons_of_mem _ (in_Nod w h)) rfl 1 (by decide) (List.mem_cons_of_mem _ tw_134) (Nat.le_of_ble_eq_true rfl) rfl rfl rfl ?_
  refine z_iload_n C d_Nod_init_51 rfl 0 rfl ?_
  refine y_new C (T := F_Que) (N := 3) (ci := 2) (fs := [.null, .int 0, .int 0]) d_Nod_init_52 (List.mem_cons_of_mem _ tw_92) (List.mem_cons_of_mem _ tw_96) (List.mem_cons_of_mem _ tw_5) (fun w h => List.mem_cons_of_mem _ (in_Que w h)) t_Que tk_Que rfl (by decide +kernel) (hX 9) ⟨by decide, by decide⟩ ?_
  refine z_dup C d_Nod_init_55 rfl ?_
  refine y_initN (n := 10) C d_Nod_init_56 (c_Que_init l D ca) hI (by decide) tw_98 tw_5 tw_99 ⟨rfl, pd_Que_init.2⟩ ⟨⟨by decide, by decide⟩, rfl, rfl, by decide, by decide⟩ (Nat.le_of_ble_eq_true rfl) (hsn 9) (hX 10) rfl (by decide) ?_
  refine y_aast C (o := 2) (ov := 10) (ci := 2) (r := (R_Que, F_Que, 3)) (t0 := 5) (vs := _) d_Nod_init_59 rfl (Nat.le_of_ble_eq_true rfl) rfl (it_at (n := 10) (S := SNt 10 2 2) (Nat.le_of_ble_eq_true rfl) rfl) (Nat.le_of_ble_eq_true rfl) rfl rfl rfl (by unfold vp_in; decide) ?_
  refine z_congr (n := 12) (M' := enc a ca (SNt 12 3 2) σ0) (it_eq (n := 10) (N' := 2) (S := SNt 10 2 2) (S' := SQue) (by decide +kernel) (by decide +kernel) (by decide) (by decide +kernel) (eqL_s (by decide +kernel))) ?_
  refine z_aload_n C d_Nod_init_60 rfl 1 rfl ?_
  refine z_get C (T := F_Nod) (N := 5) (ci := 1) (o := 0) (v := .ref (a + 3)) d_Nod_init_61 (fun w h => List.mem_cons_of_mem _ (in_Nod w h)) rfl 2 (by decide) (List.mem_cons_of_mem _ tw_136) (Nat.le_of_ble_eq_true rfl) rfl rfl rfl ?_
  refine z_iload_n C d_Nod_init_64 rfl 0 rfl ?_
  refine y_new C (T := F_Act) (N := 3) (ci := 3) (fs := [.int 0, .int 0, .int 0]) d_Nod_init_65 (List.mem_cons_of_mem _ tw_94) (List.mem_cons_of_mem _ tw_113) (List.mem_cons_of_mem _ tw_6) (fun w h => List.mem_cons_of_mem _ (in_Act w h)) t_Act tk_Act rfl (by decide +kernel) (hX 11) ⟨by decide, by decide⟩ ?_
  refine z_dup C d_Nod_init_68 rfl ?_
  refine y_initN (n := 12) C d_Nod_init_69 (c_Act_init l D ca) hI (by decide) tw_115 tw_6 tw_116 ⟨rfl, pd_Act_init.2⟩ ⟨⟨by decide, by decide⟩, rfl, rfl, by decide, by decide⟩ (Nat.le_of_ble_eq_true rfl) (hsn 11) (hX 12) rfl (by decide) ?_
  refine y_aast C (o := 3) (ov := 12) (ci := 3) (r := (R_Act, F_Act, 3)) (t0 := 6) (vs := _) d_Nod_init_72 rfl (Nat.le_of_ble_eq_true rfl) rfl (it_at (n := 12) (S := SNt 12 3 2) (Nat.le_of_ble_eq_true rfl) rfl) (Nat.le_of_ble_eq_true rfl) rfl rfl rfl (by unfold vp_in; decide) ?_
  refine z_congr (n := 13) (M' := enc a ca (SNt 13 3 3) σ0) (it_eq (n := 12) (N' := 1) (S := SNt 12 3 2) (S' := SAct) (by decide +kernel) (by decide +kernel) (by decide) (by decide +kernel) (eqL_s (by decide +kernel))) ?_
  refine z_iinc C (v := 3) d_Nod_init_73 0 rfl (by decide) (by decide) [(1, .int 3), (0, .ref a)] rfl ?_
  refine z_goto C 41 d_Nod_init_76 (by decide) ?_
  refine z_iload_n C d_Nod_init_41 rfl 0 rfl ?_
  refine z_bipush C (v := 6) d_Nod_init_42 (by decide) ?_
  refine z_icmp_ge C 79 d_Nod_init_44 (by decide) (fun h9 => False.elim (absurd h9 (by decide))) (fun _ => ?_)
  refine z_aload_n C d_Nod_init_47 rfl 1 rfl ?_
  refine z_get C (T := F_Nod) (N := 5) (ci := 1) (o := 0) (v := .ref (a + 2)) d_Nod_init_48 (fun w h => List.mem_cons_of_mem _ (in_Nod w h)) rfl 1 (by decide) (List.mem_cons_of_mem _ tw_134) (Nat.le_of_ble_eq_true rfl) rfl rfl rfl ?_
  refine z_iload_n C d_Nod_init_51 rfl 0 rfl ?_
  refine y_new C (T := F_Que) (N := 3) (ci := 2) (fs := [.null, .int 0, .int 0]) d_Nod_init_52 (List.mem_cons_of_mem _ tw_92) (List.mem_cons_of_mem _ tw_96) (List.mem_cons_of_mem _ tw_5) (fun w h => List.mem_cons_of_mem _ (in_Que w h)) t_Que tk_Que rfl (by decide +kernel) (hX 12) ⟨by decide, by decide⟩ ?_
  refine z_dup C d_Nod_init_55 rfl ?_
  refine y_initN (n := 13) C d_Nod_init_56 (c_Que_init l D ca) hI (by decide) tw_98 tw_5 tw_99 ⟨rfl, pd_Que_init.2⟩ ⟨⟨by decide, by decide⟩, rfl, rfl, by decide, by decide⟩ (Nat.le_of_ble_eq_true rfl) (hsn 12) (hX 13) rfl (by decide) ?_
  refine y_aast C (o := 2) (ov := 13) (ci := 2) (r := (R_Que, F_Que, 3)) (t0 := 5) (vs := _) d_Nod_init_59 rfl (Nat.le_of_ble_eq_true rfl) rfl (it_at (n := 13) (S := SNt 13 3 3) (Nat.le_of_ble_eq_true rfl) rfl) (Nat.le_of_ble_eq_true rfl) rfl rfl rfl (by unfold vp_in; decide) ?_
  refine z_congr (n := 15) (M' := enc a ca (SNt 15 4 3) σ0) (it_eq (n := 13) (N' := 2) (S := SNt 13 3 3) (S' := SQue) (by decide +kernel) (by decide +kernel) (by decide) (by decide +kernel) (eqL_s (by decide +kernel))) ?_
  refine z_aload_n C d_Nod_init_60 rfl 1 rfl ?_
  refine z_get C (T := F_Nod) (N := 5) (ci := 1) (o := 0) (v := .ref (a + 3)) d_Nod_init_61 (fun w h => List.mem_cons_of_mem _ (in_Nod w h)) rfl 2 (by decide) (List.mem_cons_of_mem _ tw_136) (Nat.le_of_ble_eq_true rfl) rfl rfl rfl ?_
  refine z_iload_n C d_Nod_init_64 rfl 0 rfl ?_
  refine y_new C (T := F_Act) (N := 3) (ci := 3) (fs := [.int 0, .int 0, .int 0]) d_Nod_init_65 (List.mem_cons_of_mem _ tw_94) (List.mem_cons_of_mem _ tw_113) (List.mem_cons_of_mem _ tw_6) (fun w h => List.mem_cons_of_mem _ (in_Act w h)) t_Act tk_Act rfl (by decide +kernel) (hX 14) ⟨by decide, by decide⟩ ?_
  refine z_dup C d_Nod_init_68 rfl ?_
  refine y_initN (n := 15) C d_Nod_init_69 (c_Act_init l D ca) hI (by decide) tw_115 tw_6 tw_116 ⟨rfl, pd_Act_init.2⟩ ⟨⟨by decide, by decide⟩, rfl, rfl, by decide, by decide⟩ (Nat.le_of_ble_eq_true rfl) (hsn 14) (hX 15) rfl (by decide) ?_
  refine y_aast C (o := 3) (ov := 15) (ci := 3) (r := (R_Act, F_Act, 3)) (t0 := 6) (vs := _) d_Nod_init_72 rfl (Nat.le_of_ble_eq_true rfl) rfl (it_at (n := 15) (S := SNt 15 4 3) (Nat.le_of_ble_eq_true rfl) rfl) (Nat.le_of_ble_eq_true rfl) rfl rfl rfl (by unfold vp_in; decide) ?_
  refine z_congr (n := 16) (M' := enc a ca (SNt 16 4 4) σ0) (it_eq (n := 15) (N' := 1) (S := SNt 15 4 3) (S' := SAct) (by decide +kernel) (by decide +kernel) (by decide) (by decide +kernel) (eqL_s (by decide +kernel))) ?_
  refine z_iinc C (v := 4) d_Nod_init_73 0 rfl (by decide) (by decide) [(1, .int 4), (0, .ref a)] rfl ?_
  refine z_goto C 41 d_Nod_init_76 (by decide) ?_
  refine z_iload_n C d_Nod_init_41 rfl 0 rfl ?_
  refine z_bipush C (v := 6) d_Nod_init_42 (by decide) ?_
  refine z_icmp_ge C 79 d_Nod_init_44 (by decide) (fun h9 => False.elim (absurd h9 (by decide))) (fun _ => ?_)
  refine z_aload_n C d_Nod_init_47 rfl 1 rfl ?_
  refine z_get C (T := F_Nod) (N := 5) (ci := 1) (o := 0) (v := .ref (a + 2)) d_Nod_init_48 (fun w h => List.mem_cons_of_mem _ (in_Nod w h)) rfl 1 (by decide) (List.mem_cons_of_mem _ tw_134) (Nat.le_of_ble_eq_true rfl) rfl rfl rfl ?_
  refine z_iload_n C d_Nod_init_51 rfl 0 rfl ?_
  refine y_new C (T := F_Que) (N := 3) (ci := 2) (fs := [.null, .int 0, .int 0]) d_Nod_init_52 (List.mem_cons_of_mem _ tw_92) (List.mem_cons_of_mem _ tw_96) (List.mem_cons_of_mem _ tw_5) (fun w h => List.mem_cons_of_mem _ (in_Que w h)) t_Que tk_Que rfl (by decide +kernel) (hX 15) ⟨by decide, by decide⟩ ?_
  refine z_dup C d_Nod_init_55 rfl ?_
  refine y_initN (n := 16) C d_Nod_init_56 (c_Que_init l D ca) hI (by decide) tw_98 tw_5 tw_99 ⟨rfl, pd_Que_init.2⟩ ⟨⟨by decide, by decide⟩, rfl, rfl, by decide, by decide⟩ (Nat.le_of_ble_eq_true rfl) (hsn 15) (hX 16) rfl (by decide) ?_
  refine y_aast C (o := 2) (ov := 16) (ci := 2) (r := (R_Que, F_Que, 3)) (t0 := 5) (vs := _) d_Nod_init_59 rfl (Nat.le_of_ble_eq_true rfl) rfl (it_at (n := 16) (S := SNt 16 4 4) (Nat.le_of_ble_eq_true rfl) rfl) (Nat.le_of_ble_eq_true rfl) rfl rfl rfl (by unfold vp_in; decide) ?_
  refine z_congr (n := 18) (M' := enc a ca (SNt 18 5 4) σ0) (it_eq (n := 16) (N' := 2) (S := SNt 16 4 4) (S' := SQue) (by decide +kernel) (by decide +kernel) (by decide) (by decide +kernel) (eqL_s (by decide +kernel))) ?_
  refine z_aload_n C d_Nod_init_60 rfl 1 rfl ?_
  refine z_get C (T := F_Nod) (N := 5) (ci := 1) (o := 0) (v := .ref (a + 3)) d_Nod_init_61 (fun w h => List.mem_cons_of_mem _ (in_Nod w h)) rfl 2 (by decide) (List.mem_cons_of_mem _ tw_136) (Nat.le_of_ble_eq_true rfl) rfl rfl rfl ?_
  refine z_iload_n C d_Nod_init_64 rfl 0 rfl ?_
  refine y_new C (T := F_Act) (N := 3) (ci := 3) (fs := [.int 0, .int 0, .int 0]) d_Nod_init_65 (List.mem_cons_of_mem _ tw_94) (List.mem_cons_of_mem _ tw_113) (List.mem_cons_of_mem _ tw_6) (fun w h => List.mem_cons_of_mem _ (in_Act w h)) t_Act tk_Act rfl (by decide +kernel) (hX 17) ⟨by decide, by decide⟩ ?_
  refine z_dup C d_Nod_init_68 rfl ?_
  refine y_initN (n := 18) C d_Nod_init_69 (c_Act_init l D ca) hI (by decide) tw_115 tw_6 tw_116 ⟨rfl, pd_Act_init.2⟩ ⟨⟨by decide, by decide⟩, rfl, rfl, by decide, by decide⟩ (Nat.le_of_ble_eq_true rfl) (hsn 17) (hX 18) rfl (by decide) ?_
  refine y_aast C (o := 3) (ov := 18) (ci := 3) (r := (R_Act, F_Act, 3)) (t0 := 6) (vs := _) d_Nod_init_72 rfl (Nat.le_of_ble_eq_true rfl) rfl (it_at (n := 18) (S := SNt 18 5 4) (Nat.le_of_ble_eq_true rfl) rfl) (Nat.le_of_ble_eq_true rfl) rfl rfl rfl (by unfold vp_in; decide) ?_
  refine z_congr (n := 19) (M' := enc a ca (SNt 19 5 5) σ0) (it_eq (n := 18) (N' := 1) (S := SNt 18 5 4) (S' := SAct) (by decide +kernel) (by decide +kernel) (by decide) (by decide +kernel) (eqL_s (by decide +kernel))) ?_
  refine z_iinc C (v := 5) d_Nod_init_73 0 rfl (by decide) (by decide) [(1, .int 5), (0, .ref a)] rfl ?_
  refine z_goto C 41 d_Nod_init_76 (by decide) ?_
  refine z_iload_n C d_Nod_init_41 rfl 0 rfl ?_
  refine z_bipush C (v := 6) d_Nod_init_42 (by decide) ?_
  refine z_icmp_ge C 79 d_Nod_init_44 (by decide) (fun h9 => False.elim (absurd h9 (by decide))) (fun _ => ?_)
  refine z_aload_n C d_Nod_init_47 rfl 1 rfl ?_
  refine z_get C (T := F_Nod) (N := 5) (ci := 1) (o := 0) (v := .ref (a + 2)) d_Nod_init_48 (fun w h => List.mem_cons_of_mem _ (in_Nod w h)) rfl 1 (by decide) (List.mem_cons_of_mem _ tw_134) (Nat.le_of_ble_eq_true rfl) rfl rfl rfl ?_
  refine z_iload_n C d_Nod_init_51 rfl 0 rfl ?_
  refine y_new C (T := F_Que) (N := 3) (ci := 2) (fs := [.null, .int 0, .int 0]) d_Nod_init_52 (List.mem_cons_of_mem _ tw_92) (List.mem_cons_of_mem _ tw_96) (List.mem_cons_of_mem _ tw_5) (fun w h => List.mem_cons_of_mem _ (in_Que w h)) t_Que tk_Que rfl (by decide +kernel) (hX 18) ⟨by decide, by decide⟩ ?_
  refine z_dup C d_Nod_init_55 rfl ?_
  refine y_initN (n := 19) C d_Nod_init_56 (c_Que_init l D ca) hI (by decide) tw_98 tw_5 tw_99 ⟨rfl, pd_Que_init.2⟩ ⟨⟨by decide, by decide⟩, rfl, rfl, by decide, by decide⟩ (Nat.le_of_ble_eq_true rfl) (hsn 18) (hX 19) rfl (by decide) ?_
  refine y_aast C (o := 2) (ov := 19) (ci := 2) (r := (R_Que, F_Que, 3)) (t0 := 5) (vs := _) d_Nod_init_59 rfl (Nat.le_of_ble_eq_true rfl) rfl (it_at (n := 19) (S := SNt 19 5 5) (Nat.le_of_ble_eq_true rfl) rfl) (Nat.le_of_ble_eq_true rfl) rfl rfl rfl (by unfold vp_in; decide) ?_
  refine z_congr (n := 21) (M' := enc a ca (SNt 21 6 5) σ0) (it_eq (n := 19) (N' := 2) (S := SNt 19 5 5) (S' := SQue) (by decide +kernel) (by decide +kernel) (by decide) (by decide +kernel) (eqL_s (by decide +kernel))) ?_
  refine z_aload_n C d_Nod_init_60 rfl 1 rfl ?_
  refine z_get C (T := F_Nod) (N := 5) (ci := 1) (o := 0) (v := .ref (a + 3)) d_Nod_init_61 (fun w h => List.mem_cons_of_mem _ (in_Nod w h)) rfl 2 (by decide) (List.mem_cons_of_mem _ tw_136) (Nat.le_of_ble_eq_true rfl) rfl rfl rfl ?_
  refine z_iload_n C d_Nod_init_64 rfl 0 rfl ?_
  refine y_new C (T := F_Act) (N := 3) (ci := 3) (fs := [.int 0, .int 0, .int 0]) d_Nod_init_65 (List.mem_cons_of_mem _ tw_94) (List.mem_cons_of_mem _ tw_113) (List.mem_cons_of_mem _ tw_6) (fun w h => List.mem_cons_of_mem _ (in_Act w h)) t_Act tk_Act rfl (by decide +kernel) (hX 20) ⟨by decide, by decide⟩ ?_
  refine z_dup C d_Nod_init_68 rfl ?_
  refine y_initN (n := 21) C d_Nod_init_69 (c_Act_init l D ca) hI (by decide) tw_115 tw_6 tw_116 ⟨rfl, pd_Act_init.2⟩ ⟨⟨by decide, by decide⟩, rfl, rfl, by decide, by decide⟩ (Nat.le_of_ble_eq_true rfl) (hsn 20) (hX 21) rfl (by decide) ?_
  refine y_aast C (o := 3) (ov := 21) (ci := 3) (r := (R_Act, F_Act, 3)) (t0 := 6) (vs := _) d_Nod_init_72 rfl (Nat.le_of_ble_eq_true rfl) rfl (it_at (n := 21) (S := SNt 21 6 5) (Nat.le_of_ble_eq_true rfl) rfl) (Nat.le_of_ble_eq_true rfl) rfl rfl rfl (by unfold vp_in; decide) ?_
  refine z_congr (n := 22) (M' := enc a ca (SNt 22 6 6) σ0) (it_eq (n := 21) (N' := 1) (S := SNt 21 6 5) (S' := SAct) (by decide +kernel) (by decide +kernel) (by decide) (by decide +kernel) (eqL_s (by decide +kernel))) ?_
  refine z_iinc C (v := 6) d_Nod_init_73 0 rfl (by decide) (by decide) [(1, .int 6), (0, .ref a)] rfl ?_
  refine z_goto C 41 d_Nod_init_76 (by decide) ?_
  refine z_iload_n C d_Nod_init_41 rfl 0 rfl ?_
  refine z_bipush C (v := 6) d_Nod_init_42 (by decide) ?_
  refine z_icmp_ge C 79 d_Nod_init_44 (by decide) (fun _ => ?_) (fun h9 => False.elim (absurd (by decide) h9))
  exact hret _ _ _ d_Nod_init_79 (fun _ _ => rfl)
set_option maxRecDepth 100000 in
set_option maxHeartbeats 4000000 in
theorem c_Bus_init (l : Launch) (D : va_G) (ca : Nat → ClassId) : CtN l D ca y_Bus_init w_Bus_init (rmK 3 61 181 1080) 0 [.null, .null, .null, .null, .null, .null, .int 0, .int 0, .int 0, .int 0, .int 0, .int 0, .double FP.dconst0] 182 (fun a => enc a ca SB σ0) 181 1080 := by
  refine ct_n "RobotBus" (by decide) rfl rfl (by decide) (by decide) (fun a X C hI hmn hX0 hret => ?_)
  have hX : ∀ j, Xs X a (1 + j) j := fun j => ⟨by have := hX0.1; omega, Or.inl (by omega)⟩
  have hsn : ∀ j, X.2.2.1.heap.size ≤ a + (1 + j) := fun j => by have := hX0.1; omega
  refine z_aload_n C d_Bus_init_0 rfl 0 rfl ?_
  refine y_obj C d_Bus_init_1 (List.mem_cons_of_mem _ tw_26) (List.mem_cons_of_mem _ tw_27) (List.mem_cons_of_mem _ tw_28) ⟨by decide, by decide⟩ (by decide) ?_
  refine z_aload_n C d_Bus_init_4 rfl 0 rfl ?_
  refine z_bipush C (v := 6) d_Bus_init_5 (by decide) ?_
  refine y_anew C (N := 6) (t0 := 1) (cA := ca 1) d_Bus_init_7 (List.mem_cons_of_mem _ tw_29) (hI.2 _ (by decide)) rfl (by decide) (by decide) (by decide) (hX 0) ⟨by decide, by decide⟩ ?_
  refine y_putF C (T := F_Bus) (N := 13) (ci := 0) (o := 0) (ty := (.array (.object "RobotBus$Node"))) d_Bus_init_10 (fun w h => List.mem_cons_of_mem _ (in_Bus w h)) tk_Bus n_Bus rfl 0 (by decide) (List.mem_cons_of_mem _ tw_233) rfl hmn rfl (by decide +kernel) rfl rfl (Nat.le_of_ble_eq_true rfl) rfl rfl (Nat.le_of_ble_eq_true rfl) ?_
  refine z_aload_n C d_Bus_init_13 rfl 0 rfl ?_
  refine z_bipush C (v := 6) d_Bus_init_14 (by decide) ?_
  refine y_anew C (N := 6) (t0 := 2) (cA := ca 2) d_Bus_init_16 (List.mem_cons_of_mem _ tw_31) (hI.2 _ (by decide)) rfl (by decide) (by decide) (by decide) (hX 1) ⟨by decide, by decide⟩ ?_
  refine y_putF C (T := F_Bus) (N := 13) (ci := 0) (o := 0) (ty := (.array (.object "RobotBus$Topic"))) d_Bus_init_19 (fun w h => List.mem_cons_of_mem _ (in_Bus w h)) tk_Bus n_Bus rfl 1 (by decide) (List.mem_cons_of_mem _ tw_234) rfl hmn rfl (by decide +kernel) rfl rfl (Nat.le_of_ble_eq_true rfl) rfl rfl (Nat.le_of_ble_eq_true rfl) ?_
  refine z_aload_n C d_Bus_init_22 rfl 0 rfl ?_
  refine z_iconst C (v := 4) d_Bus_init_23 (by decide) ?_
  refine y_anew C (N := 4) (t0 := 3) (cA := ca 3) d_Bus_init_24 (List.mem_cons_of_mem _ tw_33) (hI.2 _ (by decide)) rfl (by decide) (by decide) (by decide) (hX 2) ⟨by decide, by decide⟩ ?_
  refine y_putF C (T := F_Bus) (N := 13) (ci := 0) (o := 0) (ty := (.array (.object "RobotBus$Service"))) d_Bus_init_27 (fun w h => List.mem_cons_of_mem _ (in_Bus w h)) tk_Bus n_Bus rfl 2 (by decide) (List.mem_cons_of_mem _ tw_235) rfl hmn rfl (by decide +kernel) rfl rfl (Nat.le_of_ble_eq_true rfl) rfl rfl (Nat.le_of_ble_eq_true rfl) ?_
  refine z_aload_n C d_Bus_init_30 rfl 0 rfl ?_
  refine z_bipush C (v := 6) d_Bus_init_31 (by decide) ?_
  refine y_anew C (N := 6) (t0 := 4) (cA := ca 4) d_Bus_init_33 (List.mem_cons_of_mem _ tw_35) (hI.2 _ (by decide)) rfl (by decide) (by decide) (by decide) (hX 3) ⟨by decide, by decide⟩ ?_
  refine y_putF C (T := F_Bus) (N := 13) (ci := 0) (o := 0) (ty := (.array (.object "RobotBus$Frame"))) d_Bus_init_36 (fun w h => List.mem_cons_of_mem _ (in_Bus w h)) tk_Bus n_Bus rfl 3 (by decide) (List.mem_cons_of_mem _ tw_236) rfl hmn rfl (by decide +kernel) rfl rfl (Nat.le_of_ble_eq_true rfl) rfl rfl (Nat.le_of_ble_eq_true rfl) ?_
  refine z_aload_n C d_Bus_init_39 rfl 0 rfl ?_
  refine y_new C (T := F_Bag) (N := 8) (ci := 7) (fs := [.null, .null, .null, .int 0, .int 0, .int 0, .int 0, .int 0]) d_Bus_init_40 (List.mem_cons_of_mem _ tw_37) (List.mem_cons_of_mem _ tw_38) (List.mem_cons_of_mem _ tw_2) (fun w h => List.mem_cons_of_mem _ (in_Bag w h)) t_Bag tk_Bag rfl (by decide +kernel) (hX 4) ⟨by decide, by decide⟩ ?_
  refine z_dup C d_Bus_init_43 rfl ?_
  refine y_initN (n := 5) C d_Bus_init_44 (c_Bag_init l D ca) hI (by decide) tw_40 tw_2 tw_41 ⟨rfl, pd_Bag_init.2⟩ ⟨⟨by decide, by decide⟩, rfl, rfl, by decide, by decide⟩ (Nat.le_of_ble_eq_true rfl) (hsn 4) (hX 5) rfl (by decide) ?_
  refine y_putF C (T := F_Bus) (N := 13) (ci := 0) (o := 0) (ty := (.object "RobotBus$Bag")) d_Bus_init_47 (fun w h => List.mem_cons_of_mem _ (in_Bus w h)) tk_Bus n_Bus rfl 4 (by decide) (List.mem_cons_of_mem _ tw_237) rfl hmn rfl (by decide +kernel) rfl rfl (Nat.le_of_ble_eq_true rfl) rfl rfl (Nat.le_of_ble_eq_true rfl) ?_
  refine z_aload_n C d_Bus_init_50 rfl 0 rfl ?_
  refine y_new C (T := F_Pnt) (N := 2) (ci := 8) (fs := [.int 0, .int 0]) d_Bus_init_51 (List.mem_cons_of_mem _ tw_72) (List.mem_cons_of_mem _ tw_73) (List.mem_cons_of_mem _ tw_3) (fun w h => List.mem_cons_of_mem _ (in_Pnt w h)) t_Pnt tk_Pnt rfl (by decide +kernel) (hX 8) ⟨by decide, by decide⟩ ?_
  refine z_dup C d_Bus_init_54 rfl ?_
  refine y_initN (n := 9) C d_Bus_init_55 (c_Pnt_init l D ca) hI (by decide) tw_75 tw_3 tw_76 ⟨rfl, pd_Pnt_init.2⟩ ⟨⟨by decide, by decide⟩, rfl, rfl, by decide, by decide⟩ (Nat.le_of_ble_eq_true rfl) (hsn 8) (hX 9) rfl (by decide) ?_
  refine y_putF C (T := F_Bus) (N := 13) (ci := 0) (o := 0) (ty := (.object "RobotBus$Point")) d_Bus_init_58 (fun w h => List.mem_cons_of_mem _ (in_Bus w h)) tk_Bus n_Bus rfl 5 (by decide) (List.mem_cons_of_mem _ tw_238) rfl hmn rfl (by decide +kernel) rfl rfl (Nat.le_of_ble_eq_true rfl) rfl rfl (Nat.le_of_ble_eq_true rfl) ?_
  refine z_aload_n C d_Bus_init_61 rfl 0 rfl ?_
  refine z_iconst C (v := 0) d_Bus_init_62 (by decide) ?_
  refine z_put C (T := F_Bus) (N := 13) (ci := 0) (o := 0) (ty := .int) d_Bus_init_63 (fun w h => List.mem_cons_of_mem _ (in_Bus w h)) tk_Bus n_Bus rfl 6 (by decide) (List.mem_cons_of_mem _ tw_239) rfl (by decide +kernel) rfl rfl (Nat.le_of_ble_eq_true rfl) rfl rfl (Nat.le_of_ble_eq_true rfl) ?_
  refine z_aload_n C d_Bus_init_66 rfl 0 rfl ?_
  refine z_iconst C (v := 0) d_Bus_init_67 (by decide) ?_
  refine z_put C (T := F_Bus) (N := 13) (ci := 0) (o := 0) (ty := .int) d_Bus_init_68 (fun w h => List.mem_cons_of_mem _ (in_Bus w h)) tk_Bus n_Bus rfl 7 (by decide) (List.mem_cons_of_mem _ tw_240) rfl (by decide +kernel) rfl rfl (Nat.le_of_ble_eq_true rfl) rfl rfl (Nat.le_of_ble_eq_true rfl) ?_
  refine z_aload_n C d_Bus_init_71 rfl 0 rfl ?_
  refine z_iconst C (v := 0) d_Bus_init_72 (by decide) ?_
  refine z_put C (T := F_Bus) (N := 13) (ci := 0) (o := 0) (ty := .int) d_Bus_init_73 (fun w h => List.mem_cons_of_mem _ (in_Bus w h)) tk_Bus n_Bus rfl 8 (by decide) (List.mem_cons_of_mem _ tw_241) rfl (by decide +kernel) rfl rfl (Nat.le_of_ble_eq_true rfl) rfl rfl (Nat.le_of_ble_eq_true rfl) ?_
  refine z_aload_n C d_Bus_init_76 rfl 0 rfl ?_
  refine z_iconst C (v := 0) d_Bus_init_77 (by decide) ?_
  refine z_put C (T := F_Bus) (N := 13) (ci := 0) (o := 0) (ty := .int) d_Bus_init_78 (fun w h => List.mem_cons_of_mem _ (in_Bus w h)) tk_Bus n_Bus rfl 9 (by decide) (List.mem_cons_of_mem _ tw_242) rfl (by decide +kernel) rfl rfl (Nat.le_of_ble_eq_true rfl) rfl rfl (Nat.le_of_ble_eq_true rfl) ?_
  refine z_aload_n C d_Bus_init_81 rfl 0 rfl ?_
  refine z_iconst C (v := 0) d_Bus_init_82 (by decide) ?_
  refine z_put C (T := F_Bus) (N := 13) (ci := 0) (o := 0) (ty := .int) d_Bus_init_83 (fun w h => List.mem_cons_of_mem _ (in_Bus w h)) tk_Bus n_Bus rfl 10 (by decide) (List.mem_cons_of_mem _ tw_243) rfl (by decide +kernel) rfl rfl (Nat.le_of_ble_eq_true rfl) rfl rfl (Nat.le_of_ble_eq_true rfl) ?_
  refine z_aload_n C d_Bus_init_86 rfl 0 rfl ?_
  refine z_iconst C (v := 0) d_Bus_init_87 (by decide) ?_
  refine z_put C (T := F_Bus) (N := 13) (ci := 0) (o := 0) (ty := .int) d_Bus_init_88 (fun w h => List.mem_cons_of_mem _ (in_Bus w h)) tk_Bus n_Bus rfl 11 (by decide) (List.mem_cons_of_mem _ tw_244) rfl (by decide +kernel) rfl rfl (Nat.le_of_ble_eq_true rfl) rfl rfl (Nat.le_of_ble_eq_true rfl) ?_
  refine z_aload_n C d_Bus_init_91 rfl 0 rfl ?_
  refine z_dconst0 C d_Bus_init_92 ?_
  refine z_put C (T := F_Bus) (N := 13) (ci := 0) (o := 0) (ty := .double) d_Bus_init_93 (fun w h => List.mem_cons_of_mem _ (in_Bus w h)) tk_Bus n_Bus rfl 12 (by decide) (List.mem_cons_of_mem _ tw_245) rfl (by decide +kernel) rfl rfl (Nat.le_of_ble_eq_true rfl) rfl rfl (Nat.le_of_ble_eq_true rfl) ?_
  refine z_iconst C (v := 0) d_Bus_init_96 (by decide) ?_
  refine z_istore_n C d_Bus_init_97 rfl (by decide) [(1, .int 0), (0, .ref a)] rfl ?_
  refine z_congr (n := 10) (M' := enc a ca (SBt 10 0 0 0 0) σ0) (fun o ho => by
    have h9 : o = 0 ∨ o = 1 ∨ o = 2 ∨ o = 3 ∨ o = 4 ∨ o = 5 ∨ o = 6 ∨ o = 7 ∨ o = 8 ∨ o = 9 := by omega
    rcases h9 with rfl | rfl | rfl | rfl | rfl | rfl | rfl | rfl | rfl | rfl <;> rfl) ?_
  refine z_iload_n C d_Bus_init_98 rfl 0 rfl ?_
  refine z_bipush C (v := 6) d_Bus_init_99 (by decide) ?_
  refine z_icmp_ge C 123 d_Bus_init_101 (by decide) (fun h9 => False.elim (absurd h9 (by decide))) (fun _ => ?_)
  refine z_aload_n C d_Bus_init_104 rfl 1 rfl ?_
  refine z_get C (T := F_Bus) (N := 13) (ci := 0) (o := 0) (v := .ref (a + 1)) d_Bus_init_105 (fun w h => List.mem_cons_of_mem _ (in_Bus w h)) rfl 0 (by decide) (List.mem_cons_of_mem _ tw_233) (Nat.le_of_ble_eq_true rfl) rfl rfl rfl ?_
  refine z_iload_n C d_Bus_init_108 rfl 0 rfl ?_
  refine y_new C (T := F_Nod) (N := 5) (ci := 1) (fs := [.null, .null, .null, .int 0, .int 0]) d_Bus_init_109 (List.mem_cons_of_mem _ tw_29) (List.mem_cons_of_mem _ tw_87) (List.mem_cons_of_mem _ tw_4) (fun w h => List.mem_cons_of_mem _ (in_Nod w h)) t_Nod tk_Nod rfl (by decide +kernel) (hX 9) ⟨by decide, by decide⟩ ?_
  refine z_dup C d_Bus_init_112 rfl ?_
  refine y_initP (n := 10) C d_Bus_init_113 (c_Nod_init l D ca) hI tw_88 tw_89 tw_4 tw_90 ⟨rfl, pd_Nod_init.2⟩ ⟨⟨by decide, by decide⟩, rfl, rfl, by decide, by decide⟩ (Nat.le_of_ble_eq_true rfl) (hsn 9) (hX 10) rfl (by decide) ?_
  refine y_aast C (o := 1) (ov := 10) (ci := 1) (r := (R_Nod, F_Nod, 5)) (t0 := 1) (vs := _) d_Bus_init_116 rfl (Nat.le_of_ble_eq_true rfl) rfl (it_at (n := 10) (S := SBt 10 0 0 0 0) (Nat.le_of_ble_eq_true rfl) rfl) (Nat.le_of_ble_eq_true rfl) rfl rfl rfl (by unfold vp_in; decide) ?_
  refine z_congr (n := 32) (M' := enc a ca (SBt 32 1 0 0 0) σ0) (it_eq (n := 10) (N' := 22) (S := SBt 10 0 0 0 0) (S' := SNod) (by decide +kernel) (by decide +kernel) (by decide) (by decide +kernel) (eqL_s (by decide +kernel))) ?_
  refine z_iinc C (v := 1) d_Bus_init_117 0 rfl (by decide) (by decide) [(1, .int 1), (0, .ref a)] rfl ?_
  refine z_goto C 98 d_Bus_init_120 (by decide) ?_
  refine z_iload_n C d_Bus_init_98 rfl 0 rfl ?_
  refine z_bipush C (v := 6) d_Bus_init_99 (by decide) ?_
  refine z_icmp_ge C 123 d_Bus_init_101 (by decide) (fun h9 => False.elim (absurd h9 (by decide))) (fun _ => ?_)
  refine z_aload_n C d_Bus_init_104 rfl 1 rfl ?_
  refine z_get C (T := F_Bus) (N := 13) (ci := 0) (o := 0) (v := .ref (a + 1)) d_Bus_init_105 (fun w h => List.mem_cons_of_mem _ (in_Bus w h)) rfl 0 (by decide) (List.mem_cons_of_mem _ tw_233) (Nat.le_of_ble_eq_true rfl) rfl rfl rfl ?_
  refine z_iload_n C d_Bus_init_108 rfl 0 rfl ?_
  refine y_new C (T := F_Nod) (N := 5) (ci := 1) (fs := [.null, .null, .null, .int 0, .int 0]) d_Bus_init_109 (List.mem_cons_of_mem _ tw_29) (List.mem_cons_of_mem _ tw_87) (List.mem_cons_of_mem _ tw_4) (fun w h => List.mem_cons_of_mem _ (in_Nod w h)) t_Nod tk_Nod rfl (by decide +kernel) (hX 31) ⟨by decide, by decide⟩ ?_
  refine z_dup C d_Bus_init_112 rfl ?_
  refine y_initP (n := 32) C d_Bus_init_113 (c_Nod_init l D ca) hI tw_88 tw_89 tw_4 tw_90 ⟨rfl, pd_Nod_init.2⟩ ⟨⟨by decide, by decide⟩, rfl, rfl, by decide, by decide⟩ (Nat.le_of_ble_eq_true rfl) (hsn 31) (hX 32) rfl (by decide) ?_
  refine y_aast C (o := 1) (ov := 32) (ci := 1) (r := (R_Nod, F_Nod, 5)) (t0 := 1) (vs := _) d_Bus_init_116 rfl (Nat.le_of_ble_eq_true rfl) rfl (it_at (n := 32) (S := SBt 32 1 0 0 0) (Nat.le_of_ble_eq_true rfl) rfl) (Nat.le_of_ble_eq_true rfl) rfl rfl rfl (by unfold vp_in; decide) ?_
  refine z_congr (n := 54) (M' := enc a ca (SBt 54 2 0 0 0) σ0) (it_eq (n := 32) (N' := 22) (S := SBt 32 1 0 0 0) (S' := SNod) (by decide +kernel) (by decide +kernel) (by decide) (by decide +kernel) (eqL_s (by decide +kernel))) ?_
  refine z_iinc C (v := 2) d_Bus_init_117 0 rfl (by decide) (by decide) [(1, .int 2), (0, .ref a)] rfl ?_
  refine z_goto C 98 d_Bus_init_120 (by decide) ?_
  refine z_iload_n C d_Bus_init_98 rfl 0 rfl ?_
  refine z_bipush C (v := 6) d_Bus_init_99 (by decide) ?_
  refine z_icmp_ge C 123 d_Bus_init_101 (by decide) (fun h9 => False.elim (absurd h9 (by decide))) (fun _ => ?_)
  refine z_aload_n C d_Bus_init_104 rfl 1 rfl ?_
  refine z_get C (T := F_Bus) (N := 13) (ci := 0) (o := 0) (v := .ref (a + 1)) d_Bus_init_105 (fun w h => List.mem_cons_of_mem _ (in_Bus w h)) rfl 0 (by decide) (List.mem_cons_of_mem _ tw_233) (Nat.le_of_ble_eq_true rfl) rfl rfl rfl ?_
  refine z_iload_n C d_Bus_init_108 rfl 0 rfl ?_
  refine y_new C (T := F_Nod) (N := 5) (ci := 1) (fs := [.null, .null, .null, .int 0, .int 0]) d_Bus_init_109 (List.mem_cons_of_mem _ tw_29) (List.mem_cons_of_mem _ tw_87) (List.mem_cons_of_mem _ tw_4) (fun w h => List.mem_cons_of_mem _ (in_Nod w h)) t_Nod tk_Nod rfl (by decide +kernel) (hX 53) ⟨by decide, by decide⟩ ?_
  refine z_dup C d_Bus_init_112 rfl ?_
  refine y_initP (n := 54) C d_Bus_init_113 (c_Nod_init l D ca) hI tw_88 tw_89 tw_4 tw_90 ⟨rfl, pd_Nod_init.2⟩ ⟨⟨by decide, by decide⟩, rfl, rfl, by decide, by decide⟩ (Nat.le_of_ble_eq_true rfl) (hsn 53) (hX 54) rfl (by decide) ?_
  refine y_aast C (o := 1) (ov := 54) (ci := 1) (r := (R_Nod, F_Nod, 5)) (t0 := 1) (vs := _) d_Bus_init_116 rfl (Nat.le_of_ble_eq_true rfl) rfl (it_at (n := 54) (S := SBt 54 2 0 0 0) (Nat.le_of_ble_eq_true rfl) rfl) (Nat.le_of_ble_eq_true rfl) rfl rfl rfl (by unfold vp_in; decide) ?_
  refine z_congr (n := 76) (M' := enc a ca (SBt 76 3 0 0 0) σ0) (it_eq (n := 54) (N' := 22) (S := SBt 54 2 0 0 0) (S' := SNod) (by decide +kernel) (by decide +kernel) (by decide) (by decide +kernel) (eqL_s (by decide +kernel))) ?_
  refine z_iinc C (v := 3) d_Bus_init_117 0 rfl (by decide) (by decide) [(1, .int 3), (0, .ref a)] rfl ?_
  refine z_goto C 98 d_Bus_init_120 (by decide) ?_
  refine z_iload_n C d_Bus_init_98 rfl 0 rfl ?_
  refine z_bipush C (v := 6) d_Bus_init_99 (by decide) ?_
  refine z_icmp_ge C 123 d_Bus_init_101 (by decide) (fun h9 => False.elim (absurd h9 (by decide))) (fun _ => ?_)
  refine z_aload_n C d_Bus_init_104 rfl 1 rfl ?_
  refine z_get C (T := F_Bus) (N := 13) (ci := 0) (o := 0) (v := .ref (a + 1)) d_Bus_init_105 (fun w h => List.mem_cons_of_mem _ (in_Bus w h)) rfl 0 (by decide) (List.mem_cons_of_mem _ tw_233) (Nat.le_of_ble_eq_true rfl) rfl rfl rfl ?_
  refine z_iload_n C d_Bus_init_108 rfl 0 rfl ?_
  refine y_new C (T := F_Nod) (N := 5) (ci := 1) (fs := [.null, .null, .null, .int 0, .int 0]) d_Bus_init_109 (List.mem_cons_of_mem _ tw_29) (List.mem_cons_of_mem _ tw_87) (List.mem_cons_of_mem _ tw_4) (fun w h => List.mem_cons_of_mem _ (in_Nod w h)) t_Nod tk_Nod rfl (by decide +kernel) (hX 75) ⟨by decide, by decide⟩ ?_
  refine z_dup C d_Bus_init_112 rfl ?_
  refine y_initP (n := 76) C d_Bus_init_113 (c_Nod_init l D ca) hI tw_88 tw_89 tw_4 tw_90 ⟨rfl, pd_Nod_init.2⟩ ⟨⟨by decide, by decide⟩, rfl, rfl, by decide, by decide⟩ (Nat.le_of_ble_eq_true rfl) (hsn 75) (hX 76) rfl (by decide) ?_
  refine y_aast C (o := 1) (ov := 76) (ci := 1) (r := (R_Nod, F_Nod, 5)) (t0 := 1) (vs := _) d_Bus_init_116 rfl (Nat.le_of_ble_eq_true rfl) rfl (it_at (n := 76) (S := SBt 76 3 0 0 0) (Nat.le_of_ble_eq_true rfl) rfl) (Nat.le_of_ble_eq_true rfl) rfl rfl rfl (by unfold vp_in; decide) ?_
  refine z_congr (n := 98) (M' := enc a ca (SBt 98 4 0 0 0) σ0) (it_eq (n := 76) (N' := 22) (S := SBt 76 3 0 0 0) (S' := SNod) (by decide +kernel) (by decide +kernel) (by decide) (by decide +kernel) (eqL_s (by decide +kernel))) ?_
  refine z_iinc C (v := 4) d_Bus_init_117 0 rfl (by decide) (by decide) [(1, .int 4), (0, .ref a)] rfl ?_
  refine z_goto C 98 d_Bus_init_120 (by decide) ?_
  refine z_iload_n C d_Bus_init_98 rfl 0 rfl ?_
  refine z_bipush C (v := 6) d_Bus_init_99 (by decide) ?_
  refine z_icmp_ge C 123 d_Bus_init_101 (by decide) (fun h9 => False.elim (absurd h9 (by decide))) (fun _ => ?_)
  refine z_aload_n C d_Bus_init_104 rfl 1 rfl ?_
  refine z_get C (T := F_Bus) (N := 13) (ci := 0) (o := 0) (v := .ref (a + 1)) d_Bus_init_105 (fun w h => List.mem_cons_of_mem _ (in_Bus w h)) rfl 0 (by decide) (List.mem_cons_of_mem _ tw_233) (Nat.le_of_ble_eq_true rfl) rfl rfl rfl ?_
  refine z_iload_n C d_Bus_init_108 rfl 0 rfl ?_
  refine y_new C (T := F_Nod) (N := 5) (ci := 1) (fs := [.null, .null, .null, .int 0, .int 0]) d_Bus_init_109 (List.mem_cons_of_mem _ tw_29) (List.mem_cons_of_mem _ tw_87) (List.mem_cons_of_mem _ tw_4) (fun w h => List.mem_cons_of_mem _ (in_Nod w h)) t_Nod tk_Nod rfl (by decide +kernel) (hX 97) ⟨by decide, by decide⟩ ?_
  refine z_dup C d_Bus_init_112 rfl ?_
  refine y_initP (n := 98) C d_Bus_init_113 (c_Nod_init l D ca) hI tw_88 tw_89 tw_4 tw_90 ⟨rfl, pd_Nod_init.2⟩ ⟨⟨by decide, by decide⟩, rfl, rfl, by decide, by decide⟩ (Nat.le_of_ble_eq_true rfl) (hsn 97) (hX 98) rfl (by decide) ?_
  refine y_aast C (o := 1) (ov := 98) (ci := 1) (r := (R_Nod, F_Nod, 5)) (t0 := 1) (vs := _) d_Bus_init_116 rfl (Nat.le_of_ble_eq_true rfl) rfl (it_at (n := 98) (S := SBt 98 4 0 0 0) (Nat.le_of_ble_eq_true rfl) rfl) (Nat.le_of_ble_eq_true rfl) rfl rfl rfl (by unfold vp_in; decide) ?_
  refine z_congr (n := 120) (M' := enc a ca (SBt 120 5 0 0 0) σ0) (it_eq (n := 98) (N' := 22) (S := SBt 98 4 0 0 0) (S' := SNod) (by decide +kernel) (by decide +kernel) (by decide) (by decide +kernel) (eqL_s (by decide +kernel))) ?_
  refine z_iinc C (v := 5) d_Bus_init_117 0 rfl (by decide) (by decide) [(1, .int 5), (0, .ref a)] rfl ?_
  refine z_goto C 98 d_Bus_init_120 (by decide) ?_
  refine z_iload_n C d_Bus_init_98 rfl 0 rfl ?_
  refine z_bipush C (v := 6) d_Bus_init_99 (by decide) ?_
  refine z_icmp_ge C 123 d_Bus_init_101 (by decide) (fun h9 => False.elim (absurd h9 (by decide))) (fun _ => ?_)
  refine z_aload_n C d_Bus_init_104 rfl 1 rfl ?_
  refine z_get C (T := F_Bus) (N := 13) (ci := 0) (o := 0) (v := .ref (a + 1)) d_Bus_init_105 (fun w h => List.mem_cons_of_mem _ (in_Bus w h)) rfl 0 (by decide) (List.mem_cons_of_mem _ tw_233) (Nat.le_of_ble_eq_true rfl) rfl rfl rfl ?_
  refine z_iload_n C d_Bus_init_108 rfl 0 rfl ?_
  refine y_new C (T := F_Nod) (N := 5) (ci := 1) (fs := [.null, .null, .null, .int 0, .int 0]) d_Bus_init_109 (List.mem_cons_of_mem _ tw_29) (List.mem_cons_of_mem _ tw_87) (List.mem_cons_of_mem _ tw_4) (fun w h => List.mem_cons_of_mem _ (in_Nod w h)) t_Nod tk_Nod rfl (by decide +kernel) (hX 119) ⟨by decide, by decide⟩ ?_
  refine z_dup C d_Bus_init_112 rfl ?_
  refine y_initP (n := 120) C d_Bus_init_113 (c_Nod_init l D ca) hI tw_88 tw_89 tw_4 tw_90 ⟨rfl, pd_Nod_init.2⟩ ⟨⟨by decide, by decide⟩, rfl, rfl, by decide, by decide⟩ (Nat.le_of_ble_eq_true rfl) (hsn 119) (hX 120) rfl (by decide) ?_
  refine y_aast C (o := 1) (ov := 120) (ci := 1) (r := (R_Nod, F_Nod, 5)) (t0 := 1) (vs := _) d_Bus_init_116 rfl (Nat.le_of_ble_eq_true rfl) rfl (it_at (n := 120) (S := SBt 120 5 0 0 0) (Nat.le_of_ble_eq_true rfl) rfl) (Nat.le_of_ble_eq_true rfl) rfl rfl rfl (by unfold vp_in; decide) ?_
  refine z_congr (n := 142) (M' := enc a ca (SBt 142 6 0 0 0) σ0) (it_eq (n := 120) (N' := 22) (S := SBt 120 5 0 0 0) (S' := SNod) (by decide +kernel) (by decide +kernel) (by decide) (by decide +kernel) (eqL_s (by decide +kernel))) ?_
  refine z_iinc C (v := 6) d_Bus_init_117 0 rfl (by decide) (by decide) [(1, .int 6), (0, .ref a)] rfl ?_
  refine z_goto C 98 d_Bus_init_120 (by decide) ?_
  refine z_iload_n C d_Bus_init_98 rfl 0 rfl ?_
  refine z_bipush C (v := 6) d_Bus_init_99 (by decide) ?_
  refine z_icmp_ge C 123 d_Bus_init_101 (by decide) (fun _ => ?_) (fun h9 => False.elim (absurd (by decide) h9))
  refine z_iconst C (v := 0) d_Bus_init_123 (by decide) ?_
  refine z_istore_n C d_Bus_init_124 rfl (by decide) [(1, .int 0), (0, .ref a)] rfl ?_
  refine z_iload_n C d_Bus_init_125 rfl 0 rfl ?_
  refine z_bipush C (v := 6) d_Bus_init_126 (by decide) ?_
  refine z_icmp_ge C 150 d_Bus_init_128 (by decide) (fun h9 => False.elim (absurd h9 (by decide))) (fun _ => ?_)
  refine z_aload_n C d_Bus_init_131 rfl 1 rfl ?_
  refine z_get C (T := F_Bus) (N := 13) (ci := 0) (o := 0) (v := .ref (a + 2)) d_Bus_init_132 (fun w h => List.mem_cons_of_mem _ (in_Bus w h)) rfl 1 (by decide) (List.mem_cons_of_mem _ tw_234) (Nat.le_of_ble_eq_true rfl) rfl rfl rfl ?_
  refine z_iload_n C d_Bus_init_135 rfl 0 rfl ?_
  refine y_new C (T := F_Top) (N := 6) (ci := 4) (fs := [.int 0, .int 0, .int 0, .int 0, .int 0, .int 0]) d_Bus_init_136 (List.mem_cons_of_mem _ tw_31) (List.mem_cons_of_mem _ tw_152) (List.mem_cons_of_mem _ tw_7) (fun w h => List.mem_cons_of_mem _ (in_Top w h)) t_Top tk_Top rfl (by decide +kernel) (hX 141) ⟨by decide, by decide⟩ ?_
  refine z_dup C d_Bus_init_139 rfl ?_
  refine y_initN (n := 142) C d_Bus_init_140 (c_Top_init l D ca) hI (by decide) tw_154 tw_7 tw_155 ⟨rfl, pd_Top_init.2⟩ ⟨⟨by decide, by decide⟩, rfl, rfl, by decide, by decide⟩ (Nat.le_of_ble_eq_true rfl) (hsn 141) (hX 142) rfl (by decide) ?_
  refine y_aast C (o := 2) (ov := 142) (ci := 4) (r := (R_Top, F_Top, 6)) (t0 := 2) (vs := _) d_Bus_init_143 rfl (Nat.le_of_ble_eq_true rfl) rfl (it_at (n := 142) (S := SBt 142 6 0 0 0) (Nat.le_of_ble_eq_true rfl) rfl) (Nat.le_of_ble_eq_true rfl) rfl rfl rfl (by unfold vp_in; decide) ?_
  refine z_congr (n := 143) (M' := enc a ca (SBt 143 6 1 0 0) σ0) (it_eq (n := 142) (N' := 1) (S := SBt 142 6 0 0 0) (S' := STop) (by decide +kernel) (by decide +kernel) (by decide) (by decide +kernel) (eqL_s (by decide +kernel))) ?_
  refine z_iinc C (v := 1) d_Bus_init_144 0 rfl (by decide) (by decide) [(1, .int 1), (0, .ref a)] rfl ?_
  refine z_goto C 125 d_Bus_init_147 (by decide) ?_
  refine z_iload_n C d_Bus_init_125 rfl 0 rfl ?_
  refine z_bipush C (v := 6) d_Bus_init_126 (by decide) ?_
  refine z_icmp_ge C 150 d_Bus_init_128 (by decide) (fun h9 => False.elim (absurd h9 (by decide))) (fun _ => ?_)
  refine z_aload_n C d_Bus_init_131 rfl 1 rfl ?_
  refine z_get C (T := F_Bus) (N := 13) (ci := 0) (o := 0) (v := .ref (a + 2)) d_Bus_init_132 (fun w h => List.mem_cons_of_mem _ (in_Bus w h)) rfl 1 (by decide) (List.mem_cons_of_mem _ tw_234) (Nat.le_of_ble_eq_true rfl) rfl rfl rfl ?_
  refine z_iload_n C d_Bus_init_135 rfl 0 rfl ?_
  refine y_new C (T := F_Top) (N := 6) (ci := 4) (fs := [.int 0, .int 0, .int 0, .int 0, .int 0, .int 0]) d_Bus_init_136 (List.mem_cons_of_mem _ tw_31) (List.mem_cons_of_mem _ tw_152) (List.mem_cons_of_mem _ tw_7) (fun w h => List.mem_cons_of_mem _ (in_Top w h)) t_Top tk_Top rfl (by decide +kernel) (hX 142) ⟨by decide, by decide⟩ ?_
  refine z_dup C d_Bus_init_139 rfl ?_
  refine y_initN (n := 143) C d_Bus_init_140 (c_Top_init l D ca) hI (by decide) tw_154 tw_7 tw_155 ⟨rfl, pd_Top_init.2⟩ ⟨⟨by decide, by decide⟩, rfl, rfl, by decide, by decide⟩ (Nat.le_of_ble_eq_true rfl) (hsn 142) (hX 143) rfl (by decide) ?_
  refine y_aast C (o := 2) (ov := 143) (ci := 4) (r := (R_Top, F_Top, 6)) (t0 := 2) (vs := _) d_Bus_init_143 rfl (Nat.le_of_ble_eq_true rfl) rfl (it_at (n := 143) (S := SBt 143 6 1 0 0) (Nat.le_of_ble_eq_true rfl) rfl) (Nat.le_of_ble_eq_true rfl) rfl rfl rfl (by unfold vp_in; decide) ?_
  refine z_congr (n := 144) (M' := enc a ca (SBt 144 6 2 0 0) σ0) (it_eq (n := 143) (N' := 1) (S := SBt 143 6 1 0 0) (S' := STop) (by decide +kernel) (by decide +kernel) (by decide) (by decide +kernel) (eqL_s (by decide +kernel))) ?_
  refine z_iinc C (v := 2) d_Bus_init_144 0 rfl (by decide) (by decide) [(1, .int 2), (0, .ref a)] rfl ?_
  refine z_goto C 125 d_Bus_init_147 (by decide) ?_
  refine z_iload_n C d_Bus_init_125 rfl 0 rfl ?_
  refine z_bipush C (v := 6) d_Bus_init_126 (by decide) ?_
  refine z_icmp_ge C 150 d_Bus_init_128 (by decide) (fun h9 => False.elim (absurd h9 (by decide))) (fun _ => ?_)
  refine z_aload_n C d_Bus_init_131 rfl 1 rfl ?_
  refine z_get C (T := F_Bus) (N := 13) (ci := 0) (o := 0) (v := .ref (a + 2)) d_Bus_init_132 (fun w h => List.mem_cons_of_mem _ (in_Bus w h)) rfl 1 (by decide) (List.mem_cons_of_mem _ tw_234) (Nat.le_of_ble_eq_true rfl) rfl rfl rfl ?_
  refine z_iload_n C d_Bus_init_135 rfl 0 rfl ?_
  refine y_new C (T := F_Top) (N := 6) (ci := 4) (fs := [.int 0, .int 0, .int 0, .int 0, .int 0, .int 0]) d_Bus_init_136 (List.mem_cons_of_mem _ tw_31) (List.mem_cons_of_mem _ tw_152) (List.mem_cons_of_mem _ tw_7) (fun w h => List.mem_cons_of_mem _ (in_Top w h)) t_Top tk_Top rfl (by decide +kernel) (hX 143) ⟨by decide, by decide⟩ ?_
  refine z_dup C d_Bus_init_139 rfl ?_
  refine y_initN (n := 144) C d_Bus_init_140 (c_Top_init l D ca) hI (by decide) tw_154 tw_7 tw_155 ⟨rfl, pd_Top_init.2⟩ ⟨⟨by decide, by decide⟩, rfl, rfl, by decide, by decide⟩ (Nat.le_of_ble_eq_true rfl) (hsn 143) (hX 144) rfl (by decide) ?_
  refine y_aast C (o := 2) (ov := 144) (ci := 4) (r := (R_Top, F_Top, 6)) (t0 := 2) (vs := _) d_Bus_init_143 rfl (Nat.le_of_ble_eq_true rfl) rfl (it_at (n := 144) (S := SBt 144 6 2 0 0) (Nat.le_of_ble_eq_true rfl) rfl) (Nat.le_of_ble_eq_true rfl) rfl rfl rfl (by unfold vp_in; decide) ?_
  refine z_congr (n := 145) (M' := enc a ca (SBt 145 6 3 0 0) σ0) (it_eq (n := 144) (N' := 1) (S := SBt 144 6 2 0 0) (S' := STop) (by decide +kernel) (by decide +kernel) (by decide) (by decide +kernel) (eqL_s (by decide +kernel))) ?_
  refine z_iinc C (v := 3) d_Bus_init_144 0 rfl (by decide) (by decide) [(1, .int 3), (0, .ref a)] rfl ?_
  refine z_goto C 125 d_Bus_init_147 (by decide) ?_
  refine z_iload_n C d_Bus_init_125 rfl 0 rfl ?_
  refine z_bipush C (v := 6) d_Bus_init_126 (by decide) ?_
  refine z_icmp_ge C 150 d_Bus_init_128 (by decide) (fun h9 => False.elim (absurd h9 (by decide))) (fun _ => ?_)
  refine z_aload_n C d_Bus_init_131 rfl 1 rfl ?_
  refine z_get C (T := F_Bus) (N := 13) (ci := 0) (o := 0) (v := .ref (a + 2)) d_Bus_init_132 (fun w h => List.mem_cons_of_mem _ (in_Bus w h)) rfl 1 (by decide) (List.mem_cons_of_mem _ tw_234) (Nat.le_of_ble_eq_true rfl) rfl rfl rfl ?_
  refine z_iload_n C d_Bus_init_135 rfl 0 rfl ?_
  refine y_new C (T := F_Top) (N := 6) (ci := 4) (fs := [.int 0, .int 0, .int 0, .int 0, .int 0, .int 0]) d_Bus_init_136 (List.mem_cons_of_mem _ tw_31) (List.mem_cons_of_mem _ tw_152) (List.mem_cons_of_mem _ tw_7) (fun w h => List.mem_cons_of_mem _ (in_Top w h)) t_Top tk_Top rfl (by decide +kernel) (hX 144) ⟨by decide, by decide⟩ ?_
  refine z_dup C d_Bus_init_139 rfl ?_
  refine y_initN (n := 145) C d_Bus_init_140 (c_Top_init l D ca) hI (by decide) tw_154 tw_7 tw_155 ⟨rfl, pd_Top_init.2⟩ ⟨⟨by decide, by decide⟩, rfl, rfl, by decide, by decide⟩ (Nat.le_of_ble_eq_true rfl) (hsn 144) (hX 145) rfl (by decide) ?_
  refine y_aast C (o := 2) (ov := 145) (ci := 4) (r := (R_Top, F_Top, 6)) (t0 := 2) (vs := _) d_Bus_init_143 rfl (Nat.le_of_ble_eq_true rfl) rfl (it_at (n := 145) (S := SBt 145 6 3 0 0) (Nat.le_of_ble_eq_true rfl) rfl) (Nat.le_of_ble_eq_true rfl) rfl rfl rfl (by unfold vp_in; decide) ?_
  refine z_congr (n := 146) (M' := enc a ca (SBt 146 6 4 0 0) σ0) (it_eq (n := 145) (N' := 1) (S := SBt 145 6 3 0 0) (S' := STop) (by decide +kernel) (by decide +kernel) (by decide) (by decide +kernel) (eqL_s (by decide +kernel))) ?_
  refine z_iinc C (v := 4) d_Bus_init_144 0 rfl (by decide) (by decide) [(1, .int 4), (0, .ref a)] rfl ?_
  refine z_goto C 125 d_Bus_init_147 (by decide) ?_
  refine z_iload_n C d_Bus_init_125 rfl 0 rfl ?_
  refine z_bipush C (v := 6) d_Bus_init_126 (by decide) ?_
  refine z_icmp_ge C 150 d_Bus_init_128 (by decide) (fun h9 => False.elim (absurd h9 (by decide))) (fun _ => ?_)
  refine z_aload_n C d_Bus_init_131 rfl 1 rfl ?_
  refine z_get C (T := F_Bus) (N := 13) (ci := 0) (o := 0) (v := .ref (a + 2)) d_Bus_init_132 (fun w h => List.mem_cons_of_mem _ (in_Bus w h)) rfl 1 (by decide) (List.mem_cons_of_mem _ tw_234) (Nat.le_of_ble_eq_true rfl) rfl rfl rfl ?_
  refine z_iload_n C d_Bus_init_135 rfl 0 rfl ?_
  refine y_new C (T := F_Top) (N := 6) (ci := 4) (fs := [.int 0, .int 0, .int 0, .int 0, .int 0, .int 0]) d_Bus_init_136 (List.mem_cons_of_mem _ tw_31) (List.mem_cons_of_mem _ tw_152) (List.mem_cons_of_mem _ tw_7) (fun w h => List.mem_cons_of_mem _ (in_Top w h)) t_Top tk_Top rfl (by decide +kernel) (hX 145) ⟨by decide, by decide⟩ ?_
  refine z_dup C d_Bus_init_139 rfl ?_
  refine y_initN (n := 146) C d_Bus_init_140 (c_Top_init l D ca) hI (by decide) tw_154 tw_7 tw_155 ⟨rfl, pd_Top_init.2⟩ ⟨⟨by decide, by decide⟩, rfl, rfl, by decide, by decide⟩ (Nat.le_of_ble_eq_true rfl) (hsn 145) (hX 146) rfl (by decide) ?_
  refine y_aast C (o := 2) (ov := 146) (ci := 4) (r := (R_Top, F_Top, 6)) (t0 := 2) (vs := _) d_Bus_init_143 rfl (Nat.le_of_ble_eq_true rfl) rfl (it_at (n := 146) (S := SBt 146 6 4 0 0) (Nat.le_of_ble_eq_true rfl) rfl) (Nat.le_of_ble_eq_true rfl) rfl rfl rfl (by unfold vp_in; decide) ?_
  refine z_congr (n := 147) (M' := enc a ca (SBt 147 6 5 0 0) σ0) (it_eq (n := 146) (N' := 1) (S := SBt 146 6 4 0 0) (S' := STop) (by decide +kernel) (by decide +kernel) (by decide) (by decide +kernel) (eqL_s (by decide +kernel))) ?_
  refine z_iinc C (v := 5) d_Bus_init_144 0 rfl (by decide) (by decide) [(1, .int 5), (0, .ref a)] rfl ?_
  refine z_goto C 125 d_Bus_init_147 (by decide) ?_
  refine z_iload_n C d_Bus_init_125 rfl 0 rfl ?_
  refine z_bipush C (v := 6) d_Bus_init_126 (by decide) ?_
  refine z_icmp_ge C 150 d_Bus_init_128 (by decide) (fun h9 => False.elim (absurd h9 (by decide))) (fun _ => ?_)
  refine z_aload_n C d_Bus_init_131 rfl 1 rfl ?_
  refine z_get C (T := F_Bus) (N := 13) (ci := 0) (o := 0) (v := .ref (a + 2)) d_Bus_init_132 (fun w h => List.mem_cons_of_mem _ (in_Bus w h)) rfl 1 (by decide) (List.mem_cons_of_mem _ tw_234) (Nat.le_of_ble_eq_true rfl) rfl rfl rfl ?_
  refine z_iload_n C d_Bus_init_135 rfl 0 rfl ?_
  refine y_new C (T := F_Top) (N := 6) (ci := 4) (fs := [.int 0, .int 0, .int 0, .int 0, .int 0, .int 0]) d_Bus_init_136 (List.mem_cons_of_mem _ tw_31) (List.mem_cons_of_mem _ tw_152) (List.mem_cons_of_mem _ tw_7) (fun w h => List.mem_cons_of_mem _ (in_Top w h)) t_Top tk_Top rfl (by decide +kernel) (hX 146) ⟨by decide, by decide⟩ ?_
  refine z_dup C d_Bus_init_139 rfl ?_
  refine y_initN (n := 147) C d_Bus_init_140 (c_Top_init l D ca) hI (by decide) tw_154 tw_7 tw_155 ⟨rfl, pd_Top_init.2⟩ ⟨⟨by decide, by decide⟩, rfl, rfl, by decide, by decide⟩ (Nat.le_of_ble_eq_true rfl) (hsn 146) (hX 147) rfl (by decide) ?_
  refine y_aast C (o := 2) (ov := 147) (ci := 4) (r := (R_Top, F_Top, 6)) (t0 := 2) (vs := _) d_Bus_init_143 rfl (Nat.le_of_ble_eq_true rfl) rfl (it_at (n := 147) (S := SBt 147 6 5 0 0) (Nat.le_of_ble_eq_true rfl) rfl) (Nat.le_of_ble_eq_true rfl) rfl rfl rfl (by unfold vp_in; decide) ?_
  refine z_congr (n := 148) (M' := enc a ca (SBt 148 6 6 0 0) σ0) (it_eq (n := 147) (N' := 1) (S := SBt 147 6 5 0 0) (S' := STop) (by decide +kernel) (by decide +kernel) (by decide) (by decide +kernel) (eqL_s (by decide +kernel))) ?_
  refine z_iinc C (v := 6) d_Bus_init_144 0 rfl (by decide) (by decide) [(1, .int 6), (0, .ref a)] rfl ?_
  refine z_goto C 125 d_Bus_init_147 (by decide) ?_
  refine z_iload_n C d_Bus_init_125 rfl 0 rfl ?_
  refine z_bipush C (v := 6) d_Bus_init_126 (by decide) ?_
  refine z_icmp_ge C 150 d_Bus_init_128 (by decide) (fun _ => ?_) (fun h9 => False.elim (absurd (by decide) h9))
  refine z_iconst C (v := 0) d_Bus_init_150 (by decide) ?_
  refine z_istore_n C d_Bus_init_151 rfl (by decide) [(1, .int 0), (0, .ref a)] rfl ?_
  refine z_iload_n C d_Bus_init_152 rfl 0 rfl ?_
  refine z_iconst C (v := 4) d_Bus_init_153 (by decide) ?_
  refine z_icmp_ge C 176 d_Bus_init_154 (by decide) (fun h9 => False.elim (absurd h9 (by decide))) (fun _ => ?_)
  refine z_aload_n C d_Bus_init_157 rfl 1 rfl ?_
  refine z_get C (T := F_Bus) (N := 13) (ci := 0) (o := 0) (v := .ref (a + 3)) d_Bus_init_158 (fun w h => List.mem_cons_of_mem _ (in_Bus w h)) rfl 2 (by decide) (List.mem_cons_of_mem _ tw_235) (Nat.le_of_ble_eq_true rfl) rfl rfl rfl ?_
  refine z_iload_n C d_Bus_init_161 rfl 0 rfl ?_
  refine y_new C (T := F_Srv) (N := 4) (ci := 5) (fs := [.int 0, .int 0, .int 0, .int 0]) d_Bus_init_162 (List.mem_cons_of_mem _ tw_33) (List.mem_cons_of_mem _ tw_182) (List.mem_cons_of_mem _ tw_8) (fun w h => List.mem_cons_of_mem _ (in_Srv w h)) t_Srv tk_Srv rfl (by decide +kernel) (hX 147) ⟨by decide, by decide⟩ ?_
  refine z_dup C d_Bus_init_165 rfl ?_
  refine y_initN (n := 148) C d_Bus_init_166 (c_Srv_init l D ca) hI (by decide) tw_184 tw_8 tw_185 ⟨rfl, pd_Srv_init.2⟩ ⟨⟨by decide, by decide⟩, rfl, rfl, by decide, by decide⟩ (Nat.le_of_ble_eq_true rfl) (hsn 147) (hX 148) rfl (by decide) ?_
  refine y_aast C (o := 3) (ov := 148) (ci := 5) (r := (R_Srv, F_Srv, 4)) (t0 := 3) (vs := _) d_Bus_init_169 rfl (Nat.le_of_ble_eq_true rfl) rfl (it_at (n := 148) (S := SBt 148 6 6 0 0) (Nat.le_of_ble_eq_true rfl) rfl) (Nat.le_of_ble_eq_true rfl) rfl rfl rfl (by unfold vp_in; decide) ?_
  refine z_congr (n := 149) (M' := enc a ca (SBt 149 6 6 1 0) σ0) (it_eq (n := 148) (N' := 1) (S := SBt 148 6 6 0 0) (S' := SSrv) (by decide +kernel) (by decide +kernel) (by decide) (by decide +kernel) (eqL_s (by decide +kernel))) ?_
  refine z_iinc C (v := 1) d_Bus_init_170 0 rfl (by decide) (by decide) [(1, .int 1), (0, .ref a)] rfl ?_
  refine z_goto C 152 d_Bus_init_173 (by decide) ?_
  refine z_iload_n C d_Bus_init_152 rfl 0 rfl ?_
  refine z_iconst C (v := 4) d_Bus_init_153 (by decide) ?_
  refine z_icmp_ge C 176 d_Bus_init_154 (by decide) (fun h9 => False.elim (absurd h9 (by decide))) (fun _ => ?_)
  refine z_aload_n C d_Bus_init_157 rfl 1 rfl ?_
  refine z_get C (T := F_Bus) (N := 13) (ci := 0) (o := 0) (v := .ref (a + 3)) d_Bus_init_158 (fun w h => List.mem_cons_of_mem _ (in_Bus w h)) rfl 2 (by decide) (List.mem_cons_of_mem _ tw_235) (Nat.le_of_ble_eq_true rfl) rfl rfl rfl ?_
  refine z_iload_n C d_Bus_init_161 rfl 0 rfl ?_
  refine y_new C (T := F_Srv) (N := 4) (ci := 5) (fs := [.int 0, .int 0, .int 0, .int 0]) d_Bus_init_162 (List.mem_cons_of_mem _ tw_33) (List.mem_cons_of_mem _ tw_182) (List.mem_cons_of_mem _ tw_8) (fun w h => List.mem_cons_of_mem _ (in_Srv w h)) t_Srv tk_Srv rfl (by decide +kernel) (hX 148) ⟨by decide, by decide⟩ ?_
  refine z_dup C d_Bus_init_165 rfl ?_
  refine y_initN (n := 149) C d_Bus_init_166 (c_Srv_init l D ca) hI (by decide) tw_184 tw_8 tw_185 ⟨rfl, pd_Srv_init.2⟩ ⟨⟨by decide, by decide⟩, rfl, rfl, by decide, by decide⟩ (Nat.le_of_ble_eq_true rfl) (hsn 148) (hX 149) rfl (by decide) ?_
  refine y_aast C (o := 3) (ov := 149) (ci := 5) (r := (R_Srv, F_Srv, 4)) (t0 := 3) (vs := _) d_Bus_init_169 rfl (Nat.le_of_ble_eq_true rfl) rfl (it_at (n := 149) (S := SBt 149 6 6 1 0) (Nat.le_of_ble_eq_true rfl) rfl) (Nat.le_of_ble_eq_true rfl) rfl rfl rfl (by unfold vp_in; decide) ?_
  refine z_congr (n := 150) (M' := enc a ca (SBt 150 6 6 2 0) σ0) (it_eq (n := 149) (N' := 1) (S := SBt 149 6 6 1 0) (S' := SSrv) (by decide +kernel) (by decide +kernel) (by decide) (by decide +kernel) (eqL_s (by decide +kernel))) ?_
  refine z_iinc C (v := 2) d_Bus_init_170 0 rfl (by decide) (by decide) [(1, .int 2), (0, .ref a)] rfl ?_
  refine z_goto C 152 d_Bus_init_173 (by decide) ?_
  refine z_iload_n C d_Bus_init_152 rfl 0 rfl ?_
  refine z_iconst C (v := 4) d_Bus_init_153 (by decide) ?_
  refine z_icmp_ge C 176 d_Bus_init_154 (by decide) (fun h9 => False.elim (absurd h9 (by decide))) (fun _ => ?_)
  refine z_aload_n C d_Bus_init_157 rfl 1 rfl ?_
  refine z_get C (T := F_Bus) (N := 13) (ci := 0) (o := 0) (v := .ref (a + 3)) d_Bus_init_158 (fun w h => List.mem_cons_of_mem _ (in_Bus w h)) rfl 2 (by decide) (List.mem_cons_of_mem _ tw_235) (Nat.le_of_ble_eq_true rfl) rfl rfl rfl ?_
  refine z_iload_n C d_Bus_init_161 rfl 0 rfl ?_
  refine y_new C (T := F_Srv) (N := 4) (ci := 5) (fs := [.int 0, .int 0, .int 0, .int 0]) d_Bus_init_162 (List.mem_cons_of_mem _ tw_33) (List.mem_cons_of_mem _ tw_182) (List.mem_cons_of_mem _ tw_8) (fun w h => List.mem_cons_of_mem _ (in_Srv w h)) t_Srv tk_Srv rfl (by decide +kernel) (hX 149) ⟨by decide, by decide⟩ ?_
  refine z_dup C d_Bus_init_165 rfl ?_
  refine y_initN (n := 150) C d_Bus_init_166 (c_Srv_init l D ca) hI (by decide) tw_184 tw_8 tw_185 ⟨rfl, pd_Srv_init.2⟩ ⟨⟨by decide, by decide⟩, rfl, rfl, by decide, by decide⟩ (Nat.le_of_ble_eq_true rfl) (hsn 149) (hX 150) rfl (by decide) ?_
  refine y_aast C (o := 3) (ov := 150) (ci := 5) (r := (R_Srv, F_Srv, 4)) (t0 := 3) (vs := _) d_Bus_init_169 rfl (Nat.le_of_ble_eq_true rfl) rfl (it_at (n := 150) (S := SBt 150 6 6 2 0) (Nat.le_of_ble_eq_true rfl) rfl) (Nat.le_of_ble_eq_true rfl) rfl rfl rfl (by unfold vp_in; decide) ?_
  refine z_congr (n := 151) (M' := enc a ca (SBt 151 6 6 3 0) σ0) (it_eq (n := 150) (N' := 1) (S := SBt 150 6 6 2 0) (S' := SSrv) (by decide +kernel) (by decide +kernel) (by decide) (by decide +kernel) (eqL_s (by decide +kernel))) ?_
  refine z_iinc C (v := 3) d_Bus_init_170 0 rfl (by decide) (by decide) [(1, .int 3), (0, .ref a)] rfl ?_
  refine z_goto C 152 d_Bus_init_173 (by decide) ?_
  refine z_iload_n C d_Bus_init_152 rfl 0 rfl ?_
  refine z_iconst C (v := 4) d_Bus_init_153 (by decide) ?_
  refine z_icmp_ge C 176 d_Bus_init_154 (by decide) (fun h9 => False.elim (absurd h9 (by decide))) (fun _ => ?_)
  refine z_aload_n C d_Bus_init_157 rfl 1 rfl ?_
  refine z_get C (T := F_Bus) (N := 13) (ci := 0) (o := 0) (v := .ref (a + 3)) d_Bus_init_158 (fun w h => List.mem_cons_of_mem _ (in_Bus w h)) rfl 2 (by decide) (List.mem_cons_of_mem _ tw_235) (Nat.le_of_ble_eq_true rfl) rfl rfl rfl ?_
  refine z_iload_n C d_Bus_init_161 rfl 0 rfl ?_
  refine y_new C (T := F_Srv) (N := 4) (ci := 5) (fs := [.int 0, .int 0, .int 0, .int 0]) d_Bus_init_162 (List.mem_cons_of_mem _ tw_33) (List.mem_cons_of_mem _ tw_182) (List.mem_cons_of_mem _ tw_8) (fun w h => List.mem_cons_of_mem _ (in_Srv w h)) t_Srv tk_Srv rfl (by decide +kernel) (hX 150) ⟨by decide, by decide⟩ ?_
  refine z_dup C d_Bus_init_165 rfl ?_
  refine y_initN (n := 151) C d_Bus_init_166 (c_Srv_init l D ca) hI (by decide) tw_184 tw_8 tw_185 ⟨rfl, pd_Srv_init.2⟩ ⟨⟨by decide, by decide⟩, rfl, rfl, by decide, by decide⟩ (Nat.le_of_ble_eq_true rfl) (hsn 150) (hX 151) rfl (by decide) ?_
  refine y_aast C (o := 3) (ov := 151) (ci := 5) (r := (R_Srv, F_Srv, 4)) (t0 := 3) (vs := _) d_Bus_init_169 rfl (Nat.le_of_ble_eq_true rfl) rfl (it_at (n := 151) (S := SBt 151 6 6 3 0) (Nat.le_of_ble_eq_true rfl) rfl) (Nat.le_of_ble_eq_true rfl) rfl rfl rfl (by unfold vp_in; decide) ?_
  refine z_congr (n := 152) (M' := enc a ca (SBt 152 6 6 4 0) σ0) (it_eq (n := 151) (N' := 1) (S := SBt 151 6 6 3 0) (S' := SSrv) (by decide +kernel) (by decide +kernel) (by decide) (by decide +kernel) (eqL_s (by decide +kernel))) ?_
  refine z_iinc C (v := 4) d_Bus_init_170 0 rfl (by decide) (by decide) [(1, .int 4), (0, .ref a)] rfl ?_
  refine z_goto C 152 d_Bus_init_173 (by decide) ?_
  refine z_iload_n C d_Bus_init_152 rfl 0 rfl ?_
  refine z_iconst C (v := 4) d_Bus_init_153 (by decide) ?_
  refine z_icmp_ge C 176 d_Bus_init_154 (by decide) (fun _ => ?_) (fun h9 => False.elim (absurd (by decide) h9))
  refine z_iconst C (v := 0) d_Bus_init_176 (by decide) ?_
  refine z_istore_n C d_Bus_init_177 rfl (by decide) [(1, .int 0), (0, .ref a)] rfl ?_
  refine z_iload_n C d_Bus_init_178 rfl 0 rfl ?_
  refine z_bipush C (v := 6) d_Bus_init_179 (by decide) ?_
  refine z_icmp_ge C 203 d_Bus_init_181 (by decide) (fun h9 => False.elim (absurd h9 (by decide))) (fun _ => ?_)
  refine z_aload_n C d_Bus_init_184 rfl 1 rfl ?_
  refine z_get C (T := F_Bus) (N := 13) (ci := 0) (o := 0) (v := .ref (a + 4)) d_Bus_init_185 (fun w h => List.mem_cons_of_mem _ (in_Bus w h)) rfl 3 (by decide) (List.mem_cons_of_mem _ tw_236) (Nat.le_of_ble_eq_true rfl) rfl rfl rfl ?_
  refine z_iload_n C d_Bus_init_188 rfl 0 rfl ?_
  refine y_new C (T := F_Frm) (N := 6) (ci := 6) (fs := [.null, .null, .null, .null, .int 0, .int 0]) d_Bus_init_189 (List.mem_cons_of_mem _ tw_35) (List.mem_cons_of_mem _ tw_204) (List.mem_cons_of_mem _ tw_9) (fun w h => List.mem_cons_of_mem _ (in_Frm w h)) t_Frm tk_Frm rfl (by decide +kernel) (hX 151) ⟨by decide, by decide⟩ ?_
  refine z_dup C d_Bus_init_192 rfl ?_
  refine y_initN (n := 152) C d_Bus_init_193 (c_Frm_init l D ca) hI (by decide) tw_206 tw_9 tw_207 ⟨rfl, pd_Frm_init.2⟩ ⟨⟨by decide, by decide⟩, rfl, rfl, by decide, by decide⟩ (Nat.le_of_ble_eq_true rfl) (hsn 151) (hX 152) rfl (by decide) ?_
  refine y_aast C (o := 4) (ov := 152) (ci := 6) (r := (R_Frm, F_Frm, 6)) (t0 := 4) (vs := _) d_Bus_init_196 rfl (Nat.le_of_ble_eq_true rfl) rfl (it_at (n := 152) (S := SBt 152 6 6 4 0) (Nat.le_of_ble_eq_true rfl) rfl) (Nat.le_of_ble_eq_true rfl) rfl rfl rfl (by unfold vp_in; decide) ?_
  refine z_congr (n := 157) (M' := enc a ca (SBt 157 6 6 4 1) σ0) (it_eq (n := 152) (N' := 5) (S := SBt 152 6 6 4 0) (S' := SFrm) (by decide +kernel) (by decide +kernel) (by decide) (by decide +kernel) (eqL_s (by decide +kernel))) ?_
  refine z_iinc C (v := 1) d_Bus_init_197 0 rfl (by decide) (by decide) [(1, .int 1), (0, .ref a)] rfl ?_
  refine z_goto C 178 d_Bus_init_200 (by decide) ?_
  refine z_iload_n C d_Bus_init_178 rfl 0 rfl ?_
  refine z_bipush C (v := 6) d_Bus_init_179 (by decide) ?_
  refine z_icmp_ge C 203 d_Bus_init_181 (by decide) (fun h9 => False.elim (absurd h9 (by decide))) (fun _ => ?_)
  refine z_aload_n C d_Bus_init_184 rfl 1 rfl ?_
  refine z_get C (T := F_Bus) (N := 13) (ci := 0) (o := 0) (v := .ref (a + 4)) d_Bus_init_185 (fun w h => List.mem_cons_of_mem _ (in_Bus w h)) rfl 3 (by decide) (List.mem_cons_of_mem _ tw_236) (Nat.le_of_ble_eq_true rfl) rfl rfl rfl ?_
  refine z_iload_n C d_Bus_init_188 rfl 0 rfl ?_
  refine y_new C (T := F_Frm) (N := 6) (ci := 6) (fs := [.null, .null, .null, .null, .int 0, .int 0]) d_Bus_init_189 (List.mem_cons_of_mem _ tw_35) (List.mem_cons_of_mem _ tw_204) (List.mem_cons_of_mem _ tw_9) (fun w h => List.mem_cons_of_mem _ (in_Frm w h)) t_Frm tk_Frm rfl (by decide +kernel) (hX 156) ⟨by decide, by decide⟩ ?_
  refine z_dup C d_Bus_init_192 rfl ?_
  refine y_initN (n := 157) C d_Bus_init_193 (c_Frm_init l D ca) hI (by decide) tw_206 tw_9 tw_207 ⟨rfl, pd_Frm_init.2⟩ ⟨⟨by decide, by decide⟩, rfl, rfl, by decide, by decide⟩ (Nat.le_of_ble_eq_true rfl) (hsn 156) (hX 157) rfl (by decide) ?_
  refine y_aast C (o := 4) (ov := 157) (ci := 6) (r := (R_Frm, F_Frm, 6)) (t0 := 4) (vs := _) d_Bus_init_196 rfl (Nat.le_of_ble_eq_true rfl) rfl (it_at (n := 157) (S := SBt 157 6 6 4 1) (Nat.le_of_ble_eq_true rfl) rfl) (Nat.le_of_ble_eq_true rfl) rfl rfl rfl (by unfold vp_in; decide) ?_
  refine z_congr (n := 162) (M' := enc a ca (SBt 162 6 6 4 2) σ0) (it_eq (n := 157) (N' := 5) (S := SBt 157 6 6 4 1) (S' := SFrm) (by decide +kernel) (by decide +kernel) (by decide) (by decide +kernel) (eqL_s (by decide +kernel))) ?_
  refine z_iinc C (v := 2) d_Bus_init_197 0 rfl (by decide) (by decide) [(1, .int 2), (0, .ref a)] rfl ?_
  refine z_goto C 178 d_Bus_init_200 (by decide) ?_
  refine z_iload_n C d_Bus_init_178 rfl 0 rfl ?_
  refine z_bipush C (v := 6) d_Bus_init_179 (by decide) ?_
  refine z_icmp_ge C 203 d_Bus_init_181 (by decide) (fun h9 => False.elim (absurd h9 (by decide))) (fun _ => ?_)
  refine z_aload_n C d_Bus_init_184 rfl 1 rfl ?_
  refine z_get C (T := F_Bus) (N := 13) (ci := 0) (o := 0) (v := .ref (a + 4)) d_Bus_init_185 (fun w h => List.mem_cons_of_mem _ (in_Bus w h)) rfl 3 (by decide) (List.mem_cons_of_mem _ tw_236) (Nat.le_of_ble_eq_true rfl) rfl rfl rfl ?_
  refine z_iload_n C d_Bus_init_188 rfl 0 rfl ?_
  refine y_new C (T := F_Frm) (N := 6) (ci := 6) (fs := [.null, .null, .null, .null, .int 0, .int 0]) d_Bus_init_189 (List.mem_cons_of_mem _ tw_35) (List.mem_cons_of_mem _ tw_204) (List.mem_cons_of_mem _ tw_9) (fun w h => List.mem_cons_of_mem _ (in_Frm w h)) t_Frm tk_Frm rfl (by decide +kernel) (hX 161) ⟨by decide, by decide⟩ ?_
  refine z_dup C d_Bus_init_192 rfl ?_
  refine y_initN (n := 162) C d_Bus_init_193 (c_Frm_init l D ca) hI (by decide) tw_206 tw_9 tw_207 ⟨rfl, pd_Frm_init.2⟩ ⟨⟨by decide, by decide⟩, rfl, rfl, by decide, by decide⟩ (Nat.le_of_ble_eq_true rfl) (hsn 161) (hX 162) rfl (by decide) ?_
  refine y_aast C (o := 4) (ov := 162) (ci := 6) (r := (R_Frm, F_Frm, 6)) (t0 := 4) (vs := _) d_Bus_init_196 rfl (Nat.le_of_ble_eq_true rfl) rfl (it_at (n := 162) (S := SBt 162 6 6 4 2) (Nat.le_of_ble_eq_true rfl) rfl) (Nat.le_of_ble_eq_true rfl) rfl rfl rfl (by unfold vp_in; decide) ?_
  refine z_congr (n := 167) (M' := enc a ca (SBt 167 6 6 4 3) σ0) (it_eq (n := 162) (N' := 5) (S := SBt 162 6 6 4 2) (S' := SFrm) (by decide +kernel) (by decide +kernel) (by decide) (by decide +kernel) (eqL_s (by decide +kernel))) ?_
  refine z_iinc C (v := 3) d_Bus_init_197 0 rfl (by decide) (by decide) [(1, .int 3), (0, .ref a)] rfl ?_
  refine z_goto C 178 d_Bus_init_200 (by decide) ?_
  refine z_iload_n C d_Bus_init_178 rfl 0 rfl ?_
  refine z_bipush C (v := 6) d_Bus_init_179 (by decide) ?_
  refine z_icmp_ge C 203 d_Bus_init_181 (by decide) (fun h9 => False.elim (absurd h9 (by decide))) (fun _ => ?_)
  refine z_aload_n C d_Bus_init_184 rfl 1 rfl ?_
  refine z_get C (T := F_Bus) (N := 13) (ci := 0) (o := 0) (v := .ref (a + 4)) d_Bus_init_185 (fun w h => List.mem_cons_of_mem _ (in_Bus w h)) rfl 3 (by decide) (List.mem_cons_of_mem _ tw_236) (Nat.le_of_ble_eq_true rfl) rfl rfl rfl ?_
  refine z_iload_n C d_Bus_init_188 rfl 0 rfl ?_
  refine y_new C (T := F_Frm) (N := 6) (ci := 6) (fs := [.null, .null, .null, .null, .int 0, .int 0]) d_Bus_init_189 (List.mem_cons_of_mem _ tw_35) (List.mem_cons_of_mem _ tw_204) (List.mem_cons_of_mem _ tw_9) (fun w h => List.mem_cons_of_mem _ (in_Frm w h)) t_Frm tk_Frm rfl (by decide +kernel) (hX 166) ⟨by decide, by decide⟩ ?_
  refine z_dup C d_Bus_init_192 rfl ?_
  refine y_initN (n := 167) C d_Bus_init_193 (c_Frm_init l D ca) hI (by decide) tw_206 tw_9 tw_207 ⟨rfl, pd_Frm_init.2⟩ ⟨⟨by decide, by decide⟩, rfl, rfl, by decide, by decide⟩ (Nat.le_of_ble_eq_true rfl) (hsn 166) (hX 167) rfl (by decide) ?_
  refine y_aast C (o := 4) (ov := 167) (ci := 6) (r := (R_Frm, F_Frm, 6)) (t0 := 4) (vs := _) d_Bus_init_196 rfl (Nat.le_of_ble_eq_true rfl) rfl (it_at (n := 167) (S := SBt 167 6 6 4 3) (Nat.le_of_ble_eq_true rfl) rfl) (Nat.le_of_ble_eq_true rfl) rfl rfl rfl (by unfold vp_in; decide) ?_
  refine z_congr (n := 172) (M' := enc a ca (SBt 172 6 6 4 4) σ0) (it_eq (n := 167) (N' := 5) (S := SBt 167 6 6 4 3) (S' := SFrm) (by decide +kernel) (by decide +kernel) (by decide) (by decide +kernel) (eqL_s (by decide +kernel))) ?_
  refine z_iinc C (v := 4) d_Bus_init_197 0 rfl (by decide) (by decide) [(1, .int 4), (0, .ref a)] rfl ?_
  refine z_goto C 178 d_Bus_init_200 (by decide) ?_
  refine z_iload_n C d_Bus_init_178 rfl 0 rfl ?_
  refine z_bipush C (v := 6) d_Bus_init_179 (by decide) ?_
  refine z_icmp_ge C 203 d_Bus_init_181 (by decide) (fun h9 => False.elim (absurd h9 (by decide))) (fun _ => ?_)
  refine z_aload_n C d_Bus_init_184 rfl 1 rfl ?_
  refine z_get C (T := F_Bus) (N := 13) (ci := 0) (o := 0) (v := .ref (a + 4)) d_Bus_init_185 (fun w h => List.mem_cons_of_mem _ (in_Bus w h)) rfl 3 (by decide) (List.mem_cons_of_mem _ tw_236) (Nat.le_of_ble_eq_true rfl) rfl rfl rfl ?_
  refine z_iload_n C d_Bus_init_188 rfl 0 rfl ?_
  refine y_new C (T := F_Frm) (N := 6) (ci := 6) (fs := [.null, .null, .null, .null, .int 0, .int 0]) d_Bus_init_189 (List.mem_cons_of_mem _ tw_35) (List.mem_cons_of_mem _ tw_204) (List.mem_cons_of_mem _ tw_9) (fun w h => List.mem_cons_of_mem _ (in_Frm w h)) t_Frm tk_Frm rfl (by decide +kernel) (hX 171) ⟨by decide, by decide⟩ ?_
  refine z_dup C d_Bus_init_192 rfl ?_
  refine y_initN (n := 172) C d_Bus_init_193 (c_Frm_init l D ca) hI (by decide) tw_206 tw_9 tw_207 ⟨rfl, pd_Frm_init.2⟩ ⟨⟨by decide, by decide⟩, rfl, rfl, by decide, by decide⟩ (Nat.le_of_ble_eq_true rfl) (hsn 171) (hX 172) rfl (by decide) ?_
  refine y_aast C (o := 4) (ov := 172) (ci := 6) (r := (R_Frm, F_Frm, 6)) (t0 := 4) (vs := _) d_Bus_init_196 rfl (Nat.le_of_ble_eq_true rfl) rfl (it_at (n := 172) (S := SBt 172 6 6 4 4) (Nat.le_of_ble_eq_true rfl) rfl) (Nat.le_of_ble_eq_true rfl) rfl rfl rfl (by unfold vp_in; decide) ?_
  refine z_congr (n := 177) (M' := enc a ca (SBt 177 6 6 4 5) σ0) (it_eq (n := 172) (N' := 5) (S := SBt 172 6 6 4 4) (S' := SFrm) (by decide +kernel) (by decide +kernel) (by decide) (by decide +kernel) (eqL_s (by decide +kernel))) ?_
  refine z_iinc C (v := 5) d_Bus_init_197 0 rfl (by decide) (by decide) [(1, .int 5), (0, .ref a)] rfl ?_
  refine z_goto C 178 d_Bus_init_200 (by decide) ?_
  refine z_iload_n C d_Bus_init_178 rfl 0 rfl ?_
  refine z_bipush C (v := 6) d_Bus_init_179 (by decide) ?_
  refine z_icmp_ge C 203 d_Bus_init_181 (by decide) (fun h9 => False.elim (absurd h9 (by decide))) (fun _ => ?_)
  refine z_aload_n C d_Bus_init_184 rfl 1 rfl ?_
  refine z_get C (T := F_Bus) (N := 13) (ci := 0) (o := 0) (v := .ref (a + 4)) d_Bus_init_185 (fun w h => List.mem_cons_of_mem _ (in_Bus w h)) rfl 3 (by decide) (List.mem_cons_of_mem _ tw_236) (Nat.le_of_ble_eq_true rfl) rfl rfl rfl ?_
  refine z_iload_n C d_Bus_init_188 rfl 0 rfl ?_
  refine y_new C (T := F_Frm) (N := 6) (ci := 6) (fs := [.null, .null, .null, .null, .int 0, .int 0]) d_Bus_init_189 (List.mem_cons_of_mem _ tw_35) (List.mem_cons_of_mem _ tw_204) (List.mem_cons_of_mem _ tw_9) (fun w h => List.mem_cons_of_mem _ (in_Frm w h)) t_Frm tk_Frm rfl (by decide +kernel) (hX 176) ⟨by decide, by decide⟩ ?_
  refine z_dup C d_Bus_init_192 rfl ?_
  refine y_initN (n := 177) C d_Bus_init_193 (c_Frm_init l D ca) hI (by decide) tw_206 tw_9 tw_207 ⟨rfl, pd_Frm_init.2⟩ ⟨⟨by decide, by decide⟩, rfl, rfl, by decide, by decide⟩ (Nat.le_of_ble_eq_true rfl) (hsn 176) (hX 177) rfl (by decide) ?_
  refine y_aast C (o := 4) (ov := 177) (ci := 6) (r := (R_Frm, F_Frm, 6)) (t0 := 4) (vs := _) d_Bus_init_196 rfl (Nat.le_of_ble_eq_true rfl) rfl (it_at (n := 177) (S := SBt 177 6 6 4 5) (Nat.le_of_ble_eq_true rfl) rfl) (Nat.le_of_ble_eq_true rfl) rfl rfl rfl (by unfold vp_in; decide) ?_
  refine z_congr (n := 182) (M' := enc a ca (SBt 182 6 6 4 6) σ0) (it_eq (n := 177) (N' := 5) (S := SBt 177 6 6 4 5) (S' := SFrm) (by decide +kernel) (by decide +kernel) (by decide) (by decide +kernel) (eqL_s (by decide +kernel))) ?_
  refine z_iinc C (v := 6) d_Bus_init_197 0 rfl (by decide) (by decide) [(1, .int 6), (0, .ref a)] rfl ?_
  refine z_goto C 178 d_Bus_init_200 (by decide) ?_
  refine z_iload_n C d_Bus_init_178 rfl 0 rfl ?_
  refine z_bipush C (v := 6) d_Bus_init_179 (by decide) ?_
  refine z_icmp_ge C 203 d_Bus_init_181 (by decide) (fun _ => ?_) (fun h9 => False.elim (absurd (by decide) h9))
  exact hret _ _ _ d_Bus_init_203 (fun o _ => by
    rw [SBt_all]
    exact enc_nk σ0_even o)
set_option maxRecDepth 100000 in
theorem Mdl_loop {l : Launch} {D : va_G} {ca : Nat → ClassId} {a : Nat} {X : Zx} (C : Cx D clsB (tyL ca) prog_11_method_1_code 2 "RobotBusModel" (Cond.code y_Mdl_init prog_11_method_1_code 2 none :: gtb) X)
    (hret : ∀ (M' : Nat → va_E) (pc : Nat) (L' : List (Nat × Value)), decode prog_11_method_1_code pc = .ok (.return_, 1) → (∀ o, o < 31 → M' o = enc a ca SM τ0 o) → Z l D clsB a 31 (rmK 1 20 30 898) 2 X 30 898 M' pc L' []) (t : Nat) (ht : t ≤ 36) : Z l D clsB a 31 (rmK 1 20 30 898) 2 X 30 898 (enc a ca SM (τt t)) 285 [(1, .int (nI t)), (0, .ref a)] [] := by
  generalize hd : 36 - t = d
  induction d generalizing t with
  | zero =>
    obtain rfl : t = 36 := by omega
    refine z_iload_n C d_Mdl_init_285 rfl 0 rfl ?_
    refine z_bipush C (v := 36) d_Mdl_init_286 (by decide) ?_
    refine z_icmp_ge C 304 d_Mdl_init_288 (by decide) (fun _ => ?_) (fun h9 => False.elim (absurd (by decide) h9))
    exact hret _ _ _ d_Mdl_init_304 (fun _ _ => rfl)
  | succ d ih =>
    refine z_iload_n C d_Mdl_init_285 rfl 0 rfl ?_
    refine z_bipush C (v := 36) d_Mdl_init_286 (by decide) ?_
    refine z_icmp_ge C 304 d_Mdl_init_288 (by decide) (fun h9 => False.elim (ge_F (a := t) (b := 36) rfl (rfl : (36 : Int32) = nI 36) (by omega) (by omega) h9)) (fun _ => ?_)
    refine z_aload_n C d_Mdl_init_291 rfl 1 rfl ?_
    refine z_get C (T := F_Mdl) (N := 46) (ci := 9) (o := 0) (v := .ref (a + 9)) d_Mdl_init_292 (fun w h => List.mem_cons_of_mem _ (in_Mdl w h)) rfl 10 (by decide) (List.mem_cons_of_mem _ tw_749) (by decide) rfl eB_Mdl rfl ?_
    refine z_iload_n C d_Mdl_init_295 rfl 0 rfl ?_
    refine z_iconst C (v := -1) d_Mdl_init_296 (by decide) ?_
    refine z_iast C (o := 9) d_Mdl_init_297 0 rfl (by decide) rfl eB_m_aKind (vp_in_nI (by omega) (by decide)) ?_
    refine z_map ((uB_m_aKind _).trans (congrArg (enc a ca SM) (τt_up t))) ?_
    refine z_iinc C d_Mdl_init_298 0 rfl (v := nI (t + 1)) (nI_1 _) (by decide) [(1, .int (nI (t + 1))), (0, .ref a)] rfl ?_
    refine z_goto C 285 d_Mdl_init_301 (by decide) ?_
    exact ih (t + 1) (by omega) (by omega)
