/-! The model: its block has 31 cells. -/
def SM : List Cee := [
  .inl (9, [.inr (0, 100, 0, 0), .inr (0, 101, 0, 0), .inl 1, .inl 2, .inl 3, .inl 4, .inl 5, .inl 6, .inl 7, .inl 8, .inl 9, .inl 10, .inl 11, .inl 12, .inl 13, .inl 14, .inl 15, .inl 16, .inl 17, .inl 18, .inl 19, .inl 20, .inl 21, .inl 22, .inl 23, .inl 24, .inr (0, 126, 0, 0), .inr (0, 127, 0, 0), .inr (0, 128, 0, 0), .inr (0, 129, 0, 0), .inr (0, 130, 0, 0), .inr (0, 131, 0, 0), .inl 25, .inl 26, .inl 27, .inl 28, .inl 29, .inl 30, .inr (2, 138, 0, 0), .inr (2, 139, 0, 0), .inr (1, 140, 0, 0), .inr (0, 141, 0, 0), .inr (0, 142, 0, 0), .inr (0, 143, 0, 0), .inr (0, 144, 0, 0), .inr (0, 145, 0, 0)]),
  .inr (.inl (7, 6, 0, 102, 0, 0)),
  .inr (.inl (0, 24, 0, 103, 0, 0)),
  .inr (.inl (0, 6, 0, 104, 0, 0)),
  .inr (.inl (0, 36, 0, 105, 0, 0)),
  .inr (.inl (0, 36, 0, 106, 0, 0)),
  .inr (.inl (0, 144, 0, 107, 0, 0)),
  .inr (.inl (0, 144, 0, 108, 0, 0)),
  .inr (.inl (0, 144, 0, 109, 0, 0)),
  .inr (.inl (0, 36, 0, 110, 0, 0)),
  .inr (.inl (0, 36, 0, 111, 0, 0)),
  .inr (.inl (0, 36, 0, 112, 0, 0)),
  .inr (.inl (7, 6, 0, 113, 0, 0)),
  .inr (.inl (7, 6, 0, 114, 0, 0)),
  .inr (.inl (0, 6, 0, 115, 0, 0)),
  .inr (.inl (0, 6, 0, 116, 0, 0)),
  .inr (.inl (0, 6, 0, 117, 0, 0)),
  .inr (.inl (7, 6, 0, 118, 0, 0)),
  .inr (.inl (0, 4, 0, 119, 0, 0)),
  .inr (.inl (0, 4, 0, 120, 0, 0)),
  .inr (.inl (0, 4, 0, 121, 0, 0)),
  .inr (.inl (0, 4, 0, 122, 0, 0)),
  .inr (.inl (0, 30, 0, 123, 0, 0)),
  .inr (.inl (0, 30, 0, 124, 0, 0)),
  .inr (.inl (0, 30, 0, 125, 0, 0)),
  .inr (.inl (0, 6, 0, 132, 0, 0)),
  .inr (.inl (0, 6, 0, 133, 0, 0)),
  .inr (.inl (0, 24, 0, 134, 0, 0)),
  .inr (.inl (8, 24, 2, 135, 0, 0)),
  .inr (.inl (8, 24, 2, 136, 0, 0)),
  .inr (.inl (0, 24, 0, 137, 0, 0))
]
theorem SM_U : chkU SM = true := by decide +kernel
section ZB
variable {l : Launch} {D : va_G} {cl : List vw_C} {tys : List (ClassId × FieldType)} {b n : Nat} {R : Room} {nL : Nat} {X : Zx} {k sl : Nat} {M : Nat → va_E} {pc : Nat} {L : List (Nat × Value)} {st : List Value} {cc : ByteArray} {own : String} {Ts : List Cond}
theorem z_zald (C : Cx D cl tys cc nL own Ts X) {cA : ClassId} {N a o : Nat} {f : Nat → Int32} {i : Int32} (hd : decode cc pc = .ok (.baload, 1)) (t0 : Nat) (ht : tys[t0]? = some (cA, .boolean)) (ho : o < n) (ha : b + o = a) (hM : M o = .inl (cA, N, .inl f)) (hin : vp_in i N) (kk : Z l D cl b n R nL X k sl M (pc + 1) L (.int (f i.toNatClampNeg) :: st)) : Z l D cl b n R nL X k sl M pc L (.int i :: .ref a :: st) := by
  obtain ⟨p, e, s, m, args, below, meth, c, Q⟩ := X
  obtain ⟨hx, hb, hml, hown, hts, hK⟩ := C
  exact fun H locs ls hP hS hl => va_zald hx hb hK hP o t0 (mw_at ho ha hM) ht hin hd (kk H locs ls hP hS hl)
theorem z_zast (C : Cx D cl tys cc nL own Ts X) {cA : ClassId} {N a o : Nat} {f : Nat → Int32} {i x : Int32} (hd : decode cc pc = .ok (.bastore, 1)) (t0 : Nat) (ht : tys[t0]? = some (cA, .boolean)) (ho : o < n) (ha : b + o = a) (hM : M o = .inl (cA, N, .inl f)) (hin : vp_in i N) (hx01 : x = 0 ∨ x = 1) (kk : Z l D cl b n R nL X k sl (va_up M o (.inl (cA, N, .inl (upd f i.toNatClampNeg x)))) (pc + 1) L st) : Z l D cl b n R nL X k sl M pc L (.int x :: .int i :: .ref a :: st) := by
  obtain ⟨p, e, s, m, args, below, meth, c, Q⟩ := X
  obtain ⟨hx, hb, hml, hown, hts, hK⟩ := C
  have h9 : vp_nar .boolean x = x := by rcases hx01 with rfl | rfl <;> rfl
  exact fun H locs ls hP hS hl => va_zast hx hb hK hP mA_D hS o t0 (mw_at ho ha hM) ht hin hd (fun H1 locs1 hP1 _ hS1 => kk H1 locs1 ls (by rw [mw_setA ho ha, h9] at hP1; exact hP1) hS1 hl)
end ZB
section MDLROWS
variable {l : Launch} {D : va_G} {ca : Nat → ClassId} {b : Nat} {R : Room} {nL : Nat} {X : Zx} {σ : Sg} {pc : Nat} {L : List (Nat × Value)} {st : List Value} {cc : ByteArray} {own : String} {cx : Cond}
theorem sB_Mdl : ∃ c, SM[0]? = some c ∧ (∀ (b : Nat) (ca : Nat → ClassId) (σ : Sg), rz b ca σ c = .inr (9, [.int (σ.1 100 0 0 0), .int (σ.1 101 0 0 0), .ref (b + 1), .ref (b + 2), .ref (b + 3), .ref (b + 4), .ref (b + 5), .ref (b + 6), .ref (b + 7), .ref (b + 8), .ref (b + 9), .ref (b + 10), .ref (b + 11), .ref (b + 12), .ref (b + 13), .ref (b + 14), .ref (b + 15), .ref (b + 16), .ref (b + 17), .ref (b + 18), .ref (b + 19), .ref (b + 20), .ref (b + 21), .ref (b + 22), .ref (b + 23), .ref (b + 24), .int (σ.1 126 0 0 0), .int (σ.1 127 0 0 0), .int (σ.1 128 0 0 0), .int (σ.1 129 0 0 0), .int (σ.1 130 0 0 0), .int (σ.1 131 0 0 0), .ref (b + 25), .ref (b + 26), .ref (b + 27), .ref (b + 28), .ref (b + 29), .ref (b + 30), .long (σ.2.2 138 0 0 0), .long (σ.2.2 139 0 0 0), .double (σ.2.1 140 0 0 0), .int (σ.1 141 0 0 0), .int (σ.1 142 0 0 0), .int (σ.1 143 0 0 0), .int (σ.1 144 0 0 0), .int (σ.1 145 0 0 0)])) ∧ ∀ v : Ky, v ∈ [(100, 0, 0), (101, 0, 0), (126, 0, 0), (127, 0, 0), (128, 0, 0), (129, 0, 0), (130, 0, 0), (131, 0, 0), (138, 0, 0), (139, 0, 0), (140, 0, 0), (141, 0, 0), (142, 0, 0), (143, 0, 0), (144, 0, 0), (145, 0, 0)] → ment v c = true := ⟨_, rfl, fun _ _ _ => rfl, by decide +kernel⟩
theorem eB_Mdl : enc b ca SM σ 0 = .inr (9, [.int (σ.1 100 0 0 0), .int (σ.1 101 0 0 0), .ref (b + 1), .ref (b + 2), .ref (b + 3), .ref (b + 4), .ref (b + 5), .ref (b + 6), .ref (b + 7), .ref (b + 8), .ref (b + 9), .ref (b + 10), .ref (b + 11), .ref (b + 12), .ref (b + 13), .ref (b + 14), .ref (b + 15), .ref (b + 16), .ref (b + 17), .ref (b + 18), .ref (b + 19), .ref (b + 20), .ref (b + 21), .ref (b + 22), .ref (b + 23), .ref (b + 24), .int (σ.1 126 0 0 0), .int (σ.1 127 0 0 0), .int (σ.1 128 0 0 0), .int (σ.1 129 0 0 0), .int (σ.1 130 0 0 0), .int (σ.1 131 0 0 0), .ref (b + 25), .ref (b + 26), .ref (b + 27), .ref (b + 28), .ref (b + 29), .ref (b + 30), .long (σ.2.2 138 0 0 0), .long (σ.2.2 139 0 0 0), .double (σ.2.1 140 0 0 0), .int (σ.1 141 0 0 0), .int (σ.1 142 0 0 0), .int (σ.1 143 0 0 0), .int (σ.1 144 0 0 0), .int (σ.1 145 0 0 0)]) := by
  obtain ⟨c, h1, h2, -⟩ := sB_Mdl
  rw [enc_at h1, h2]
theorem gB_Mdl_thrown (C : Cs D ca cc nL own cx X) {index : Nat} (hd : decode cc pc = .ok (.getfield index, 3)) (hw : Cond.fieldLink own index "RobotBusModel" "thrown" "I" ∈ gtb) (kk : Zs l D ca SM b 31 R nL X σ (pc + 3) L (.int (σ.1 100 0 0 0) :: st)) : Zs l D ca SM b 31 R nL X σ pc L (.ref (b + 0) :: st) :=
  z_get C hd (fun w h => List.mem_cons_of_mem _ (in_Mdl w h)) (T := F_Mdl) (N := 46) (ci := 9) rfl 0 (by decide) (List.mem_cons_of_mem _ hw) (by omega) rfl eB_Mdl rfl kk
theorem uB_Mdl_thrown (x : Int32) : va_up (enc b ca SM σ) 0 (.inr (9, [.int x, .int (σ.1 101 0 0 0), .ref (b + 1), .ref (b + 2), .ref (b + 3), .ref (b + 4), .ref (b + 5), .ref (b + 6), .ref (b + 7), .ref (b + 8), .ref (b + 9), .ref (b + 10), .ref (b + 11), .ref (b + 12), .ref (b + 13), .ref (b + 14), .ref (b + 15), .ref (b + 16), .ref (b + 17), .ref (b + 18), .ref (b + 19), .ref (b + 20), .ref (b + 21), .ref (b + 22), .ref (b + 23), .ref (b + 24), .int (σ.1 126 0 0 0), .int (σ.1 127 0 0 0), .int (σ.1 128 0 0 0), .int (σ.1 129 0 0 0), .int (σ.1 130 0 0 0), .int (σ.1 131 0 0 0), .ref (b + 25), .ref (b + 26), .ref (b + 27), .ref (b + 28), .ref (b + 29), .ref (b + 30), .long (σ.2.2 138 0 0 0), .long (σ.2.2 139 0 0 0), .double (σ.2.1 140 0 0 0), .int (σ.1 141 0 0 0), .int (σ.1 142 0 0 0), .int (σ.1 143 0 0 0), .int (σ.1 144 0 0 0), .int (σ.1 145 0 0 0)])) = enc b ca SM (us σ 100 0 0 x) := by
  obtain ⟨c, h1, h2, m⟩ := sB_Mdl
  refine enc_up SM_U h1 (m (100, 0, 0) (by decide)) offK_A ?_
  rw [h2]
  simp [us, upA, upE, upL]
theorem pB_Mdl_thrown (C : Cs D ca cc nL own cx X) {index : Nat} {x : Int32} (hd : decode cc pc = .ok (.putfield index, 3)) (hw : Cond.fieldLink own index "RobotBusModel" "thrown" "I" ∈ gtb) (kk : Zs l D ca SM b 31 R nL X (us σ 100 0 0 x) (pc + 3) L st) : Zs l D ca SM b 31 R nL X σ pc L (.int x :: .ref (b + 0) :: st) :=
  z_put C hd (fun w h => List.mem_cons_of_mem _ (in_Mdl w h)) (T := F_Mdl) (N := 46) (ci := 9) (ty := .int) tk_Mdl n_Mdl rfl 0 (by decide) (List.mem_cons_of_mem _ hw) rfl (by decide +kernel) rfl rfl (by omega) rfl eB_Mdl (by simp) (z_map (uB_Mdl_thrown x) kk)
theorem gB_Mdl_clock (C : Cs D ca cc nL own cx X) {index : Nat} (hd : decode cc pc = .ok (.getfield index, 3)) (hw : Cond.fieldLink own index "RobotBusModel" "clock" "I" ∈ gtb) (kk : Zs l D ca SM b 31 R nL X σ (pc + 3) L (.int (σ.1 101 0 0 0) :: st)) : Zs l D ca SM b 31 R nL X σ pc L (.ref (b + 0) :: st) :=
  z_get C hd (fun w h => List.mem_cons_of_mem _ (in_Mdl w h)) (T := F_Mdl) (N := 46) (ci := 9) rfl 1 (by decide) (List.mem_cons_of_mem _ hw) (by omega) rfl eB_Mdl rfl kk
theorem uB_Mdl_clock (x : Int32) : va_up (enc b ca SM σ) 0 (.inr (9, [.int (σ.1 100 0 0 0), .int x, .ref (b + 1), .ref (b + 2), .ref (b + 3), .ref (b + 4), .ref (b + 5), .ref (b + 6), .ref (b + 7), .ref (b + 8), .ref (b + 9), .ref (b + 10), .ref (b + 11), .ref (b + 12), .ref (b + 13), .ref (b + 14), .ref (b + 15), .ref (b + 16), .ref (b + 17), .ref (b + 18), .ref (b + 19), .ref (b + 20), .ref (b + 21), .ref (b + 22), .ref (b + 23), .ref (b + 24), .int (σ.1 126 0 0 0), .int (σ.1 127 0 0 0), .int (σ.1 128 0 0 0), .int (σ.1 129 0 0 0), .int (σ.1 130 0 0 0), .int (σ.1 131 0 0 0), .ref (b + 25), .ref (b + 26), .ref (b + 27), .ref (b + 28), .ref (b + 29), .ref (b + 30), .long (σ.2.2 138 0 0 0), .long (σ.2.2 139 0 0 0), .double (σ.2.1 140 0 0 0), .int (σ.1 141 0 0 0), .int (σ.1 142 0 0 0), .int (σ.1 143 0 0 0), .int (σ.1 144 0 0 0), .int (σ.1 145 0 0 0)])) = enc b ca SM (us σ 101 0 0 x) := by
  obtain ⟨c, h1, h2, m⟩ := sB_Mdl
  refine enc_up SM_U h1 (m (101, 0, 0) (by decide)) offK_A ?_
  rw [h2]
  simp [us, upA, upE, upL]
theorem pB_Mdl_clock (C : Cs D ca cc nL own cx X) {index : Nat} {x : Int32} (hd : decode cc pc = .ok (.putfield index, 3)) (hw : Cond.fieldLink own index "RobotBusModel" "clock" "I" ∈ gtb) (kk : Zs l D ca SM b 31 R nL X (us σ 101 0 0 x) (pc + 3) L st) : Zs l D ca SM b 31 R nL X σ pc L (.int x :: .ref (b + 0) :: st) :=
  z_put C hd (fun w h => List.mem_cons_of_mem _ (in_Mdl w h)) (T := F_Mdl) (N := 46) (ci := 9) (ty := .int) tk_Mdl n_Mdl rfl 1 (by decide) (List.mem_cons_of_mem _ hw) rfl (by decide +kernel) rfl rfl (by omega) rfl eB_Mdl (by simp) (z_map (uB_Mdl_clock x) kk)
theorem gB_Mdl_there (C : Cs D ca cc nL own cx X) {index : Nat} (hd : decode cc pc = .ok (.getfield index, 3)) (hw : Cond.fieldLink own index "RobotBusModel" "there" "[Z" ∈ gtb) (kk : Zs l D ca SM b 31 R nL X σ (pc + 3) L (.ref (b + 1) :: st)) : Zs l D ca SM b 31 R nL X σ pc L (.ref (b + 0) :: st) :=
  z_get C hd (fun w h => List.mem_cons_of_mem _ (in_Mdl w h)) (T := F_Mdl) (N := 46) (ci := 9) rfl 2 (by decide) (List.mem_cons_of_mem _ hw) (by omega) rfl eB_Mdl rfl kk
theorem gB_Mdl_vars (C : Cs D ca cc nL own cx X) {index : Nat} (hd : decode cc pc = .ok (.getfield index, 3)) (hw : Cond.fieldLink own index "RobotBusModel" "vars" "[I" ∈ gtb) (kk : Zs l D ca SM b 31 R nL X σ (pc + 3) L (.ref (b + 2) :: st)) : Zs l D ca SM b 31 R nL X σ pc L (.ref (b + 0) :: st) :=
  z_get C hd (fun w h => List.mem_cons_of_mem _ (in_Mdl w h)) (T := F_Mdl) (N := 46) (ci := 9) rfl 3 (by decide) (List.mem_cons_of_mem _ hw) (by omega) rfl eB_Mdl rfl kk
theorem gB_Mdl_took (C : Cs D ca cc nL own cx X) {index : Nat} (hd : decode cc pc = .ok (.getfield index, 3)) (hw : Cond.fieldLink own index "RobotBusModel" "took" "[I" ∈ gtb) (kk : Zs l D ca SM b 31 R nL X σ (pc + 3) L (.ref (b + 3) :: st)) : Zs l D ca SM b 31 R nL X σ pc L (.ref (b + 0) :: st) :=
  z_get C hd (fun w h => List.mem_cons_of_mem _ (in_Mdl w h)) (T := F_Mdl) (N := 46) (ci := 9) rfl 4 (by decide) (List.mem_cons_of_mem _ hw) (by omega) rfl eB_Mdl rfl kk
theorem gB_Mdl_depth (C : Cs D ca cc nL own cx X) {index : Nat} (hd : decode cc pc = .ok (.getfield index, 3)) (hw : Cond.fieldLink own index "RobotBusModel" "depth" "[I" ∈ gtb) (kk : Zs l D ca SM b 31 R nL X σ (pc + 3) L (.ref (b + 4) :: st)) : Zs l D ca SM b 31 R nL X σ pc L (.ref (b + 0) :: st) :=
  z_get C hd (fun w h => List.mem_cons_of_mem _ (in_Mdl w h)) (T := F_Mdl) (N := 46) (ci := 9) rfl 5 (by decide) (List.mem_cons_of_mem _ hw) (by omega) rfl eB_Mdl rfl kk
theorem gB_Mdl_waiting (C : Cs D ca cc nL own cx X) {index : Nat} (hd : decode cc pc = .ok (.getfield index, 3)) (hw : Cond.fieldLink own index "RobotBusModel" "waiting" "[I" ∈ gtb) (kk : Zs l D ca SM b 31 R nL X σ (pc + 3) L (.ref (b + 5) :: st)) : Zs l D ca SM b 31 R nL X σ pc L (.ref (b + 0) :: st) :=
  z_get C hd (fun w h => List.mem_cons_of_mem _ (in_Mdl w h)) (T := F_Mdl) (N := 46) (ci := 9) rfl 6 (by decide) (List.mem_cons_of_mem _ hw) (by omega) rfl eB_Mdl rfl kk
theorem gB_Mdl_value (C : Cs D ca cc nL own cx X) {index : Nat} (hd : decode cc pc = .ok (.getfield index, 3)) (hw : Cond.fieldLink own index "RobotBusModel" "value" "[I" ∈ gtb) (kk : Zs l D ca SM b 31 R nL X σ (pc + 3) L (.ref (b + 6) :: st)) : Zs l D ca SM b 31 R nL X σ pc L (.ref (b + 0) :: st) :=
  z_get C hd (fun w h => List.mem_cons_of_mem _ (in_Mdl w h)) (T := F_Mdl) (N := 46) (ci := 9) rfl 7 (by decide) (List.mem_cons_of_mem _ hw) (by omega) rfl eB_Mdl rfl kk
theorem gB_Mdl_sender (C : Cs D ca cc nL own cx X) {index : Nat} (hd : decode cc pc = .ok (.getfield index, 3)) (hw : Cond.fieldLink own index "RobotBusModel" "sender" "[I" ∈ gtb) (kk : Zs l D ca SM b 31 R nL X σ (pc + 3) L (.ref (b + 7) :: st)) : Zs l D ca SM b 31 R nL X σ pc L (.ref (b + 0) :: st) :=
  z_get C hd (fun w h => List.mem_cons_of_mem _ (in_Mdl w h)) (T := F_Mdl) (N := 46) (ci := 9) rfl 8 (by decide) (List.mem_cons_of_mem _ hw) (by omega) rfl eB_Mdl rfl kk
theorem gB_Mdl_stamp (C : Cs D ca cc nL own cx X) {index : Nat} (hd : decode cc pc = .ok (.getfield index, 3)) (hw : Cond.fieldLink own index "RobotBusModel" "stamp" "[I" ∈ gtb) (kk : Zs l D ca SM b 31 R nL X σ (pc + 3) L (.ref (b + 8) :: st)) : Zs l D ca SM b 31 R nL X σ pc L (.ref (b + 0) :: st) :=
  z_get C hd (fun w h => List.mem_cons_of_mem _ (in_Mdl w h)) (T := F_Mdl) (N := 46) (ci := 9) rfl 9 (by decide) (List.mem_cons_of_mem _ hw) (by omega) rfl eB_Mdl rfl kk
theorem gB_Mdl_aKind (C : Cs D ca cc nL own cx X) {index : Nat} (hd : decode cc pc = .ok (.getfield index, 3)) (hw : Cond.fieldLink own index "RobotBusModel" "aKind" "[I" ∈ gtb) (kk : Zs l D ca SM b 31 R nL X σ (pc + 3) L (.ref (b + 9) :: st)) : Zs l D ca SM b 31 R nL X σ pc L (.ref (b + 0) :: st) :=
  z_get C hd (fun w h => List.mem_cons_of_mem _ (in_Mdl w h)) (T := F_Mdl) (N := 46) (ci := 9) rfl 10 (by decide) (List.mem_cons_of_mem _ hw) (by omega) rfl eB_Mdl rfl kk
theorem gB_Mdl_aA (C : Cs D ca cc nL own cx X) {index : Nat} (hd : decode cc pc = .ok (.getfield index, 3)) (hw : Cond.fieldLink own index "RobotBusModel" "aA" "[I" ∈ gtb) (kk : Zs l D ca SM b 31 R nL X σ (pc + 3) L (.ref (b + 10) :: st)) : Zs l D ca SM b 31 R nL X σ pc L (.ref (b + 0) :: st) :=
  z_get C hd (fun w h => List.mem_cons_of_mem _ (in_Mdl w h)) (T := F_Mdl) (N := 46) (ci := 9) rfl 11 (by decide) (List.mem_cons_of_mem _ hw) (by omega) rfl eB_Mdl rfl kk
theorem gB_Mdl_aB (C : Cs D ca cc nL own cx X) {index : Nat} (hd : decode cc pc = .ok (.getfield index, 3)) (hw : Cond.fieldLink own index "RobotBusModel" "aB" "[I" ∈ gtb) (kk : Zs l D ca SM b 31 R nL X σ (pc + 3) L (.ref (b + 11) :: st)) : Zs l D ca SM b 31 R nL X σ pc L (.ref (b + 0) :: st) :=
  z_get C hd (fun w h => List.mem_cons_of_mem _ (in_Mdl w h)) (T := F_Mdl) (N := 46) (ci := 9) rfl 12 (by decide) (List.mem_cons_of_mem _ hw) (by omega) rfl eB_Mdl rfl kk
theorem gB_Mdl_latched (C : Cs D ca cc nL own cx X) {index : Nat} (hd : decode cc pc = .ok (.getfield index, 3)) (hw : Cond.fieldLink own index "RobotBusModel" "latched" "[Z" ∈ gtb) (kk : Zs l D ca SM b 31 R nL X σ (pc + 3) L (.ref (b + 12) :: st)) : Zs l D ca SM b 31 R nL X σ pc L (.ref (b + 0) :: st) :=
  z_get C hd (fun w h => List.mem_cons_of_mem _ (in_Mdl w h)) (T := F_Mdl) (N := 46) (ci := 9) rfl 13 (by decide) (List.mem_cons_of_mem _ hw) (by omega) rfl eB_Mdl rfl kk
theorem gB_Mdl_hasLast (C : Cs D ca cc nL own cx X) {index : Nat} (hd : decode cc pc = .ok (.getfield index, 3)) (hw : Cond.fieldLink own index "RobotBusModel" "hasLast" "[Z" ∈ gtb) (kk : Zs l D ca SM b 31 R nL X σ (pc + 3) L (.ref (b + 13) :: st)) : Zs l D ca SM b 31 R nL X σ pc L (.ref (b + 0) :: st) :=
  z_get C hd (fun w h => List.mem_cons_of_mem _ (in_Mdl w h)) (T := F_Mdl) (N := 46) (ci := 9) rfl 14 (by decide) (List.mem_cons_of_mem _ hw) (by omega) rfl eB_Mdl rfl kk
theorem gB_Mdl_lastValue (C : Cs D ca cc nL own cx X) {index : Nat} (hd : decode cc pc = .ok (.getfield index, 3)) (hw : Cond.fieldLink own index "RobotBusModel" "lastValue" "[I" ∈ gtb) (kk : Zs l D ca SM b 31 R nL X σ (pc + 3) L (.ref (b + 14) :: st)) : Zs l D ca SM b 31 R nL X σ pc L (.ref (b + 0) :: st) :=
  z_get C hd (fun w h => List.mem_cons_of_mem _ (in_Mdl w h)) (T := F_Mdl) (N := 46) (ci := 9) rfl 15 (by decide) (List.mem_cons_of_mem _ hw) (by omega) rfl eB_Mdl rfl kk
theorem gB_Mdl_lastSender (C : Cs D ca cc nL own cx X) {index : Nat} (hd : decode cc pc = .ok (.getfield index, 3)) (hw : Cond.fieldLink own index "RobotBusModel" "lastSender" "[I" ∈ gtb) (kk : Zs l D ca SM b 31 R nL X σ (pc + 3) L (.ref (b + 15) :: st)) : Zs l D ca SM b 31 R nL X σ pc L (.ref (b + 0) :: st) :=
  z_get C hd (fun w h => List.mem_cons_of_mem _ (in_Mdl w h)) (T := F_Mdl) (N := 46) (ci := 9) rfl 16 (by decide) (List.mem_cons_of_mem _ hw) (by omega) rfl eB_Mdl rfl kk
theorem gB_Mdl_lastStamp (C : Cs D ca cc nL own cx X) {index : Nat} (hd : decode cc pc = .ok (.getfield index, 3)) (hw : Cond.fieldLink own index "RobotBusModel" "lastStamp" "[I" ∈ gtb) (kk : Zs l D ca SM b 31 R nL X σ (pc + 3) L (.ref (b + 16) :: st)) : Zs l D ca SM b 31 R nL X σ pc L (.ref (b + 0) :: st) :=
  z_get C hd (fun w h => List.mem_cons_of_mem _ (in_Mdl w h)) (T := F_Mdl) (N := 46) (ci := 9) rfl 17 (by decide) (List.mem_cons_of_mem _ hw) (by omega) rfl eB_Mdl rfl kk
theorem gB_Mdl_kept (C : Cs D ca cc nL own cx X) {index : Nat} (hd : decode cc pc = .ok (.getfield index, 3)) (hw : Cond.fieldLink own index "RobotBusModel" "kept" "[Z" ∈ gtb) (kk : Zs l D ca SM b 31 R nL X σ (pc + 3) L (.ref (b + 17) :: st)) : Zs l D ca SM b 31 R nL X σ pc L (.ref (b + 0) :: st) :=
  z_get C hd (fun w h => List.mem_cons_of_mem _ (in_Mdl w h)) (T := F_Mdl) (N := 46) (ci := 9) rfl 18 (by decide) (List.mem_cons_of_mem _ hw) (by omega) rfl eB_Mdl rfl kk
theorem gB_Mdl_by (C : Cs D ca cc nL own cx X) {index : Nat} (hd : decode cc pc = .ok (.getfield index, 3)) (hw : Cond.fieldLink own index "RobotBusModel" "by" "[I" ∈ gtb) (kk : Zs l D ca SM b 31 R nL X σ (pc + 3) L (.ref (b + 18) :: st)) : Zs l D ca SM b 31 R nL X σ pc L (.ref (b + 0) :: st) :=
  z_get C hd (fun w h => List.mem_cons_of_mem _ (in_Mdl w h)) (T := F_Mdl) (N := 46) (ci := 9) rfl 19 (by decide) (List.mem_cons_of_mem _ hw) (by omega) rfl eB_Mdl rfl kk
theorem gB_Mdl_sKind (C : Cs D ca cc nL own cx X) {index : Nat} (hd : decode cc pc = .ok (.getfield index, 3)) (hw : Cond.fieldLink own index "RobotBusModel" "sKind" "[I" ∈ gtb) (kk : Zs l D ca SM b 31 R nL X σ (pc + 3) L (.ref (b + 19) :: st)) : Zs l D ca SM b 31 R nL X σ pc L (.ref (b + 0) :: st) :=
  z_get C hd (fun w h => List.mem_cons_of_mem _ (in_Mdl w h)) (T := F_Mdl) (N := 46) (ci := 9) rfl 20 (by decide) (List.mem_cons_of_mem _ hw) (by omega) rfl eB_Mdl rfl kk
theorem gB_Mdl_sC (C : Cs D ca cc nL own cx X) {index : Nat} (hd : decode cc pc = .ok (.getfield index, 3)) (hw : Cond.fieldLink own index "RobotBusModel" "sC" "[I" ∈ gtb) (kk : Zs l D ca SM b 31 R nL X σ (pc + 3) L (.ref (b + 20) :: st)) : Zs l D ca SM b 31 R nL X σ pc L (.ref (b + 0) :: st) :=
  z_get C hd (fun w h => List.mem_cons_of_mem _ (in_Mdl w h)) (T := F_Mdl) (N := 46) (ci := 9) rfl 21 (by decide) (List.mem_cons_of_mem _ hw) (by omega) rfl eB_Mdl rfl kk
theorem gB_Mdl_sD (C : Cs D ca cc nL own cx X) {index : Nat} (hd : decode cc pc = .ok (.getfield index, 3)) (hw : Cond.fieldLink own index "RobotBusModel" "sD" "[I" ∈ gtb) (kk : Zs l D ca SM b 31 R nL X σ (pc + 3) L (.ref (b + 21) :: st)) : Zs l D ca SM b 31 R nL X σ pc L (.ref (b + 0) :: st) :=
  z_get C hd (fun w h => List.mem_cons_of_mem _ (in_Mdl w h)) (T := F_Mdl) (N := 46) (ci := 9) rfl 22 (by decide) (List.mem_cons_of_mem _ hw) (by omega) rfl eB_Mdl rfl kk
theorem gB_Mdl_bagTime (C : Cs D ca cc nL own cx X) {index : Nat} (hd : decode cc pc = .ok (.getfield index, 3)) (hw : Cond.fieldLink own index "RobotBusModel" "bagTime" "[I" ∈ gtb) (kk : Zs l D ca SM b 31 R nL X σ (pc + 3) L (.ref (b + 22) :: st)) : Zs l D ca SM b 31 R nL X σ pc L (.ref (b + 0) :: st) :=
  z_get C hd (fun w h => List.mem_cons_of_mem _ (in_Mdl w h)) (T := F_Mdl) (N := 46) (ci := 9) rfl 23 (by decide) (List.mem_cons_of_mem _ hw) (by omega) rfl eB_Mdl rfl kk
theorem gB_Mdl_bagTopic (C : Cs D ca cc nL own cx X) {index : Nat} (hd : decode cc pc = .ok (.getfield index, 3)) (hw : Cond.fieldLink own index "RobotBusModel" "bagTopic" "[I" ∈ gtb) (kk : Zs l D ca SM b 31 R nL X σ (pc + 3) L (.ref (b + 23) :: st)) : Zs l D ca SM b 31 R nL X σ pc L (.ref (b + 0) :: st) :=
  z_get C hd (fun w h => List.mem_cons_of_mem _ (in_Mdl w h)) (T := F_Mdl) (N := 46) (ci := 9) rfl 24 (by decide) (List.mem_cons_of_mem _ hw) (by omega) rfl eB_Mdl rfl kk
theorem gB_Mdl_bagValue (C : Cs D ca cc nL own cx X) {index : Nat} (hd : decode cc pc = .ok (.getfield index, 3)) (hw : Cond.fieldLink own index "RobotBusModel" "bagValue" "[I" ∈ gtb) (kk : Zs l D ca SM b 31 R nL X σ (pc + 3) L (.ref (b + 24) :: st)) : Zs l D ca SM b 31 R nL X σ pc L (.ref (b + 0) :: st) :=
  z_get C hd (fun w h => List.mem_cons_of_mem _ (in_Mdl w h)) (T := F_Mdl) (N := 46) (ci := 9) rfl 25 (by decide) (List.mem_cons_of_mem _ hw) (by omega) rfl eB_Mdl rfl kk
theorem gB_Mdl_bag (C : Cs D ca cc nL own cx X) {index : Nat} (hd : decode cc pc = .ok (.getfield index, 3)) (hw : Cond.fieldLink own index "RobotBusModel" "bag" "I" ∈ gtb) (kk : Zs l D ca SM b 31 R nL X σ (pc + 3) L (.int (σ.1 126 0 0 0) :: st)) : Zs l D ca SM b 31 R nL X σ pc L (.ref (b + 0) :: st) :=
  z_get C hd (fun w h => List.mem_cons_of_mem _ (in_Mdl w h)) (T := F_Mdl) (N := 46) (ci := 9) rfl 26 (by decide) (List.mem_cons_of_mem _ hw) (by omega) rfl eB_Mdl rfl kk
theorem uB_Mdl_bag (x : Int32) : va_up (enc b ca SM σ) 0 (.inr (9, [.int (σ.1 100 0 0 0), .int (σ.1 101 0 0 0), .ref (b + 1), .ref (b + 2), .ref (b + 3), .ref (b + 4), .ref (b + 5), .ref (b + 6), .ref (b + 7), .ref (b + 8), .ref (b + 9), .ref (b + 10), .ref (b + 11), .ref (b + 12), .ref (b + 13), .ref (b + 14), .ref (b + 15), .ref (b + 16), .ref (b + 17), .ref (b + 18), .ref (b + 19), .ref (b + 20), .ref (b + 21), .ref (b + 22), .ref (b + 23), .ref (b + 24), .int x, .int (σ.1 127 0 0 0), .int (σ.1 128 0 0 0), .int (σ.1 129 0 0 0), .int (σ.1 130 0 0 0), .int (σ.1 131 0 0 0), .ref (b + 25), .ref (b + 26), .ref (b + 27), .ref (b + 28), .ref (b + 29), .ref (b + 30), .long (σ.2.2 138 0 0 0), .long (σ.2.2 139 0 0 0), .double (σ.2.1 140 0 0 0), .int (σ.1 141 0 0 0), .int (σ.1 142 0 0 0), .int (σ.1 143 0 0 0), .int (σ.1 144 0 0 0), .int (σ.1 145 0 0 0)])) = enc b ca SM (us σ 126 0 0 x) := by
  obtain ⟨c, h1, h2, m⟩ := sB_Mdl
  refine enc_up SM_U h1 (m (126, 0, 0) (by decide)) offK_A ?_
  rw [h2]
  simp [us, upA, upE, upL]
theorem pB_Mdl_bag (C : Cs D ca cc nL own cx X) {index : Nat} {x : Int32} (hd : decode cc pc = .ok (.putfield index, 3)) (hw : Cond.fieldLink own index "RobotBusModel" "bag" "I" ∈ gtb) (kk : Zs l D ca SM b 31 R nL X (us σ 126 0 0 x) (pc + 3) L st) : Zs l D ca SM b 31 R nL X σ pc L (.int x :: .ref (b + 0) :: st) :=
  z_put C hd (fun w h => List.mem_cons_of_mem _ (in_Mdl w h)) (T := F_Mdl) (N := 46) (ci := 9) (ty := .int) tk_Mdl n_Mdl rfl 26 (by decide) (List.mem_cons_of_mem _ hw) rfl (by decide +kernel) rfl rfl (by omega) rfl eB_Mdl (by simp) (z_map (uB_Mdl_bag x) kk)
theorem gB_Mdl_playing (C : Cs D ca cc nL own cx X) {index : Nat} (hd : decode cc pc = .ok (.getfield index, 3)) (hw : Cond.fieldLink own index "RobotBusModel" "playing" "Z" ∈ gtb) (kk : Zs l D ca SM b 31 R nL X σ (pc + 3) L (.int (σ.1 127 0 0 0) :: st)) : Zs l D ca SM b 31 R nL X σ pc L (.ref (b + 0) :: st) :=
  z_get C hd (fun w h => List.mem_cons_of_mem _ (in_Mdl w h)) (T := F_Mdl) (N := 46) (ci := 9) rfl 27 (by decide) (List.mem_cons_of_mem _ hw) (by omega) rfl eB_Mdl rfl kk
theorem uB_Mdl_playing (x : Int32) : va_up (enc b ca SM σ) 0 (.inr (9, [.int (σ.1 100 0 0 0), .int (σ.1 101 0 0 0), .ref (b + 1), .ref (b + 2), .ref (b + 3), .ref (b + 4), .ref (b + 5), .ref (b + 6), .ref (b + 7), .ref (b + 8), .ref (b + 9), .ref (b + 10), .ref (b + 11), .ref (b + 12), .ref (b + 13), .ref (b + 14), .ref (b + 15), .ref (b + 16), .ref (b + 17), .ref (b + 18), .ref (b + 19), .ref (b + 20), .ref (b + 21), .ref (b + 22), .ref (b + 23), .ref (b + 24), .int (σ.1 126 0 0 0), .int x, .int (σ.1 128 0 0 0), .int (σ.1 129 0 0 0), .int (σ.1 130 0 0 0), .int (σ.1 131 0 0 0), .ref (b + 25), .ref (b + 26), .ref (b + 27), .ref (b + 28), .ref (b + 29), .ref (b + 30), .long (σ.2.2 138 0 0 0), .long (σ.2.2 139 0 0 0), .double (σ.2.1 140 0 0 0), .int (σ.1 141 0 0 0), .int (σ.1 142 0 0 0), .int (σ.1 143 0 0 0), .int (σ.1 144 0 0 0), .int (σ.1 145 0 0 0)])) = enc b ca SM (us σ 127 0 0 x) := by
  obtain ⟨c, h1, h2, m⟩ := sB_Mdl
  refine enc_up SM_U h1 (m (127, 0, 0) (by decide)) offK_A ?_
  rw [h2]
  simp [us, upA, upE, upL]
theorem pB_Mdl_playing (C : Cs D ca cc nL own cx X) {index : Nat} {x : Int32} (hd : decode cc pc = .ok (.putfield index, 3)) (hw : Cond.fieldLink own index "RobotBusModel" "playing" "Z" ∈ gtb) (hx : x = 0 ∨ x = 1) (kk : Zs l D ca SM b 31 R nL X (us σ 127 0 0 x) (pc + 3) L st) : Zs l D ca SM b 31 R nL X σ pc L (.int x :: .ref (b + 0) :: st) :=
  z_put C hd (fun w h => List.mem_cons_of_mem _ (in_Mdl w h)) (T := F_Mdl) (N := 46) (ci := 9) (ty := .boolean) tk_Mdl n_Mdl rfl 27 (by decide) (List.mem_cons_of_mem _ hw) rfl (by decide +kernel) (by rcases hx with rfl | rfl <;> rfl) (by rcases hx with rfl | rfl <;> decide) (by omega) rfl eB_Mdl (by simp) (z_map (uB_Mdl_playing x) kk)
theorem gB_Mdl_began (C : Cs D ca cc nL own cx X) {index : Nat} (hd : decode cc pc = .ok (.getfield index, 3)) (hw : Cond.fieldLink own index "RobotBusModel" "began" "I" ∈ gtb) (kk : Zs l D ca SM b 31 R nL X σ (pc + 3) L (.int (σ.1 128 0 0 0) :: st)) : Zs l D ca SM b 31 R nL X σ pc L (.ref (b + 0) :: st) :=
  z_get C hd (fun w h => List.mem_cons_of_mem _ (in_Mdl w h)) (T := F_Mdl) (N := 46) (ci := 9) rfl 28 (by decide) (List.mem_cons_of_mem _ hw) (by omega) rfl eB_Mdl rfl kk
theorem uB_Mdl_began (x : Int32) : va_up (enc b ca SM σ) 0 (.inr (9, [.int (σ.1 100 0 0 0), .int (σ.1 101 0 0 0), .ref (b + 1), .ref (b + 2), .ref (b + 3), .ref (b + 4), .ref (b + 5), .ref (b + 6), .ref (b + 7), .ref (b + 8), .ref (b + 9), .ref (b + 10), .ref (b + 11), .ref (b + 12), .ref (b + 13), .ref (b + 14), .ref (b + 15), .ref (b + 16), .ref (b + 17), .ref (b + 18), .ref (b + 19), .ref (b + 20), .ref (b + 21), .ref (b + 22), .ref (b + 23), .ref (b + 24), .int (σ.1 126 0 0 0), .int (σ.1 127 0 0 0), .int x, .int (σ.1 129 0 0 0), .int (σ.1 130 0 0 0), .int (σ.1 131 0 0 0), .ref (b + 25), .ref (b + 26), .ref (b + 27), .ref (b + 28), .ref (b + 29), .ref (b + 30), .long (σ.2.2 138 0 0 0), .long (σ.2.2 139 0 0 0), .double (σ.2.1 140 0 0 0), .int (σ.1 141 0 0 0), .int (σ.1 142 0 0 0), .int (σ.1 143 0 0 0), .int (σ.1 144 0 0 0), .int (σ.1 145 0 0 0)])) = enc b ca SM (us σ 128 0 0 x) := by
  obtain ⟨c, h1, h2, m⟩ := sB_Mdl
  refine enc_up SM_U h1 (m (128, 0, 0) (by decide)) offK_A ?_
  rw [h2]
  simp [us, upA, upE, upL]
theorem pB_Mdl_began (C : Cs D ca cc nL own cx X) {index : Nat} {x : Int32} (hd : decode cc pc = .ok (.putfield index, 3)) (hw : Cond.fieldLink own index "RobotBusModel" "began" "I" ∈ gtb) (kk : Zs l D ca SM b 31 R nL X (us σ 128 0 0 x) (pc + 3) L st) : Zs l D ca SM b 31 R nL X σ pc L (.int x :: .ref (b + 0) :: st) :=
  z_put C hd (fun w h => List.mem_cons_of_mem _ (in_Mdl w h)) (T := F_Mdl) (N := 46) (ci := 9) (ty := .int) tk_Mdl n_Mdl rfl 28 (by decide) (List.mem_cons_of_mem _ hw) rfl (by decide +kernel) rfl rfl (by omega) rfl eB_Mdl (by simp) (z_map (uB_Mdl_began x) kk)
theorem gB_Mdl_speed (C : Cs D ca cc nL own cx X) {index : Nat} (hd : decode cc pc = .ok (.getfield index, 3)) (hw : Cond.fieldLink own index "RobotBusModel" "speed" "I" ∈ gtb) (kk : Zs l D ca SM b 31 R nL X σ (pc + 3) L (.int (σ.1 129 0 0 0) :: st)) : Zs l D ca SM b 31 R nL X σ pc L (.ref (b + 0) :: st) :=
  z_get C hd (fun w h => List.mem_cons_of_mem _ (in_Mdl w h)) (T := F_Mdl) (N := 46) (ci := 9) rfl 29 (by decide) (List.mem_cons_of_mem _ hw) (by omega) rfl eB_Mdl rfl kk
theorem uB_Mdl_speed (x : Int32) : va_up (enc b ca SM σ) 0 (.inr (9, [.int (σ.1 100 0 0 0), .int (σ.1 101 0 0 0), .ref (b + 1), .ref (b + 2), .ref (b + 3), .ref (b + 4), .ref (b + 5), .ref (b + 6), .ref (b + 7), .ref (b + 8), .ref (b + 9), .ref (b + 10), .ref (b + 11), .ref (b + 12), .ref (b + 13), .ref (b + 14), .ref (b + 15), .ref (b + 16), .ref (b + 17), .ref (b + 18), .ref (b + 19), .ref (b + 20), .ref (b + 21), .ref (b + 22), .ref (b + 23), .ref (b + 24), .int (σ.1 126 0 0 0), .int (σ.1 127 0 0 0), .int (σ.1 128 0 0 0), .int x, .int (σ.1 130 0 0 0), .int (σ.1 131 0 0 0), .ref (b + 25), .ref (b + 26), .ref (b + 27), .ref (b + 28), .ref (b + 29), .ref (b + 30), .long (σ.2.2 138 0 0 0), .long (σ.2.2 139 0 0 0), .double (σ.2.1 140 0 0 0), .int (σ.1 141 0 0 0), .int (σ.1 142 0 0 0), .int (σ.1 143 0 0 0), .int (σ.1 144 0 0 0), .int (σ.1 145 0 0 0)])) = enc b ca SM (us σ 129 0 0 x) := by
  obtain ⟨c, h1, h2, m⟩ := sB_Mdl
  refine enc_up SM_U h1 (m (129, 0, 0) (by decide)) offK_A ?_
  rw [h2]
  simp [us, upA, upE, upL]
theorem pB_Mdl_speed (C : Cs D ca cc nL own cx X) {index : Nat} {x : Int32} (hd : decode cc pc = .ok (.putfield index, 3)) (hw : Cond.fieldLink own index "RobotBusModel" "speed" "I" ∈ gtb) (kk : Zs l D ca SM b 31 R nL X (us σ 129 0 0 x) (pc + 3) L st) : Zs l D ca SM b 31 R nL X σ pc L (.int x :: .ref (b + 0) :: st) :=
  z_put C hd (fun w h => List.mem_cons_of_mem _ (in_Mdl w h)) (T := F_Mdl) (N := 46) (ci := 9) (ty := .int) tk_Mdl n_Mdl rfl 29 (by decide) (List.mem_cons_of_mem _ hw) rfl (by decide +kernel) rfl rfl (by omega) rfl eB_Mdl (by simp) (z_map (uB_Mdl_speed x) kk)
theorem gB_Mdl_nextRecord (C : Cs D ca cc nL own cx X) {index : Nat} (hd : decode cc pc = .ok (.getfield index, 3)) (hw : Cond.fieldLink own index "RobotBusModel" "nextRecord" "I" ∈ gtb) (kk : Zs l D ca SM b 31 R nL X σ (pc + 3) L (.int (σ.1 130 0 0 0) :: st)) : Zs l D ca SM b 31 R nL X σ pc L (.ref (b + 0) :: st) :=
  z_get C hd (fun w h => List.mem_cons_of_mem _ (in_Mdl w h)) (T := F_Mdl) (N := 46) (ci := 9) rfl 30 (by decide) (List.mem_cons_of_mem _ hw) (by omega) rfl eB_Mdl rfl kk
theorem uB_Mdl_nextRecord (x : Int32) : va_up (enc b ca SM σ) 0 (.inr (9, [.int (σ.1 100 0 0 0), .int (σ.1 101 0 0 0), .ref (b + 1), .ref (b + 2), .ref (b + 3), .ref (b + 4), .ref (b + 5), .ref (b + 6), .ref (b + 7), .ref (b + 8), .ref (b + 9), .ref (b + 10), .ref (b + 11), .ref (b + 12), .ref (b + 13), .ref (b + 14), .ref (b + 15), .ref (b + 16), .ref (b + 17), .ref (b + 18), .ref (b + 19), .ref (b + 20), .ref (b + 21), .ref (b + 22), .ref (b + 23), .ref (b + 24), .int (σ.1 126 0 0 0), .int (σ.1 127 0 0 0), .int (σ.1 128 0 0 0), .int (σ.1 129 0 0 0), .int x, .int (σ.1 131 0 0 0), .ref (b + 25), .ref (b + 26), .ref (b + 27), .ref (b + 28), .ref (b + 29), .ref (b + 30), .long (σ.2.2 138 0 0 0), .long (σ.2.2 139 0 0 0), .double (σ.2.1 140 0 0 0), .int (σ.1 141 0 0 0), .int (σ.1 142 0 0 0), .int (σ.1 143 0 0 0), .int (σ.1 144 0 0 0), .int (σ.1 145 0 0 0)])) = enc b ca SM (us σ 130 0 0 x) := by
  obtain ⟨c, h1, h2, m⟩ := sB_Mdl
  refine enc_up SM_U h1 (m (130, 0, 0) (by decide)) offK_A ?_
  rw [h2]
  simp [us, upA, upE, upL]
theorem pB_Mdl_nextRecord (C : Cs D ca cc nL own cx X) {index : Nat} {x : Int32} (hd : decode cc pc = .ok (.putfield index, 3)) (hw : Cond.fieldLink own index "RobotBusModel" "nextRecord" "I" ∈ gtb) (kk : Zs l D ca SM b 31 R nL X (us σ 130 0 0 x) (pc + 3) L st) : Zs l D ca SM b 31 R nL X σ pc L (.int x :: .ref (b + 0) :: st) :=
  z_put C hd (fun w h => List.mem_cons_of_mem _ (in_Mdl w h)) (T := F_Mdl) (N := 46) (ci := 9) (ty := .int) tk_Mdl n_Mdl rfl 30 (by decide) (List.mem_cons_of_mem _ hw) rfl (by decide +kernel) rfl rfl (by omega) rfl eB_Mdl (by simp) (z_map (uB_Mdl_nextRecord x) kk)
theorem gB_Mdl_lastRecord (C : Cs D ca cc nL own cx X) {index : Nat} (hd : decode cc pc = .ok (.getfield index, 3)) (hw : Cond.fieldLink own index "RobotBusModel" "lastRecord" "I" ∈ gtb) (kk : Zs l D ca SM b 31 R nL X σ (pc + 3) L (.int (σ.1 131 0 0 0) :: st)) : Zs l D ca SM b 31 R nL X σ pc L (.ref (b + 0) :: st) :=
  z_get C hd (fun w h => List.mem_cons_of_mem _ (in_Mdl w h)) (T := F_Mdl) (N := 46) (ci := 9) rfl 31 (by decide) (List.mem_cons_of_mem _ hw) (by omega) rfl eB_Mdl rfl kk
theorem uB_Mdl_lastRecord (x : Int32) : va_up (enc b ca SM σ) 0 (.inr (9, [.int (σ.1 100 0 0 0), .int (σ.1 101 0 0 0), .ref (b + 1), .ref (b + 2), .ref (b + 3), .ref (b + 4), .ref (b + 5), .ref (b + 6), .ref (b + 7), .ref (b + 8), .ref (b + 9), .ref (b + 10), .ref (b + 11), .ref (b + 12), .ref (b + 13), .ref (b + 14), .ref (b + 15), .ref (b + 16), .ref (b + 17), .ref (b + 18), .ref (b + 19), .ref (b + 20), .ref (b + 21), .ref (b + 22), .ref (b + 23), .ref (b + 24), .int (σ.1 126 0 0 0), .int (σ.1 127 0 0 0), .int (σ.1 128 0 0 0), .int (σ.1 129 0 0 0), .int (σ.1 130 0 0 0), .int x, .ref (b + 25), .ref (b + 26), .ref (b + 27), .ref (b + 28), .ref (b + 29), .ref (b + 30), .long (σ.2.2 138 0 0 0), .long (σ.2.2 139 0 0 0), .double (σ.2.1 140 0 0 0), .int (σ.1 141 0 0 0), .int (σ.1 142 0 0 0), .int (σ.1 143 0 0 0), .int (σ.1 144 0 0 0), .int (σ.1 145 0 0 0)])) = enc b ca SM (us σ 131 0 0 x) := by
  obtain ⟨c, h1, h2, m⟩ := sB_Mdl
  refine enc_up SM_U h1 (m (131, 0, 0) (by decide)) offK_A ?_
  rw [h2]
  simp [us, upA, upE, upL]
theorem pB_Mdl_lastRecord (C : Cs D ca cc nL own cx X) {index : Nat} {x : Int32} (hd : decode cc pc = .ok (.putfield index, 3)) (hw : Cond.fieldLink own index "RobotBusModel" "lastRecord" "I" ∈ gtb) (kk : Zs l D ca SM b 31 R nL X (us σ 131 0 0 x) (pc + 3) L st) : Zs l D ca SM b 31 R nL X σ pc L (.int x :: .ref (b + 0) :: st) :=
  z_put C hd (fun w h => List.mem_cons_of_mem _ (in_Mdl w h)) (T := F_Mdl) (N := 46) (ci := 9) (ty := .int) tk_Mdl n_Mdl rfl 31 (by decide) (List.mem_cons_of_mem _ hw) rfl (by decide +kernel) rfl rfl (by omega) rfl eB_Mdl (by simp) (z_map (uB_Mdl_lastRecord x) kk)
theorem gB_Mdl_parent (C : Cs D ca cc nL own cx X) {index : Nat} (hd : decode cc pc = .ok (.getfield index, 3)) (hw : Cond.fieldLink own index "RobotBusModel" "parent" "[I" ∈ gtb) (kk : Zs l D ca SM b 31 R nL X σ (pc + 3) L (.ref (b + 25) :: st)) : Zs l D ca SM b 31 R nL X σ pc L (.ref (b + 0) :: st) :=
  z_get C hd (fun w h => List.mem_cons_of_mem _ (in_Mdl w h)) (T := F_Mdl) (N := 46) (ci := 9) rfl 32 (by decide) (List.mem_cons_of_mem _ hw) (by omega) rfl eB_Mdl rfl kk
theorem gB_Mdl_samples (C : Cs D ca cc nL own cx X) {index : Nat} (hd : decode cc pc = .ok (.getfield index, 3)) (hw : Cond.fieldLink own index "RobotBusModel" "samples" "[I" ∈ gtb) (kk : Zs l D ca SM b 31 R nL X σ (pc + 3) L (.ref (b + 26) :: st)) : Zs l D ca SM b 31 R nL X σ pc L (.ref (b + 0) :: st) :=
  z_get C hd (fun w h => List.mem_cons_of_mem _ (in_Mdl w h)) (T := F_Mdl) (N := 46) (ci := 9) rfl 33 (by decide) (List.mem_cons_of_mem _ hw) (by omega) rfl eB_Mdl rfl kk
theorem gB_Mdl_sTime (C : Cs D ca cc nL own cx X) {index : Nat} (hd : decode cc pc = .ok (.getfield index, 3)) (hw : Cond.fieldLink own index "RobotBusModel" "sTime" "[I" ∈ gtb) (kk : Zs l D ca SM b 31 R nL X σ (pc + 3) L (.ref (b + 27) :: st)) : Zs l D ca SM b 31 R nL X σ pc L (.ref (b + 0) :: st) :=
  z_get C hd (fun w h => List.mem_cons_of_mem _ (in_Mdl w h)) (T := F_Mdl) (N := 46) (ci := 9) rfl 34 (by decide) (List.mem_cons_of_mem _ hw) (by omega) rfl eB_Mdl rfl kk
theorem gB_Mdl_sX (C : Cs D ca cc nL own cx X) {index : Nat} (hd : decode cc pc = .ok (.getfield index, 3)) (hw : Cond.fieldLink own index "RobotBusModel" "sX" "[J" ∈ gtb) (kk : Zs l D ca SM b 31 R nL X σ (pc + 3) L (.ref (b + 28) :: st)) : Zs l D ca SM b 31 R nL X σ pc L (.ref (b + 0) :: st) :=
  z_get C hd (fun w h => List.mem_cons_of_mem _ (in_Mdl w h)) (T := F_Mdl) (N := 46) (ci := 9) rfl 35 (by decide) (List.mem_cons_of_mem _ hw) (by omega) rfl eB_Mdl rfl kk
theorem gB_Mdl_sY (C : Cs D ca cc nL own cx X) {index : Nat} (hd : decode cc pc = .ok (.getfield index, 3)) (hw : Cond.fieldLink own index "RobotBusModel" "sY" "[J" ∈ gtb) (kk : Zs l D ca SM b 31 R nL X σ (pc + 3) L (.ref (b + 29) :: st)) : Zs l D ca SM b 31 R nL X σ pc L (.ref (b + 0) :: st) :=
  z_get C hd (fun w h => List.mem_cons_of_mem _ (in_Mdl w h)) (T := F_Mdl) (N := 46) (ci := 9) rfl 36 (by decide) (List.mem_cons_of_mem _ hw) (by omega) rfl eB_Mdl rfl kk
theorem gB_Mdl_sTurn (C : Cs D ca cc nL own cx X) {index : Nat} (hd : decode cc pc = .ok (.getfield index, 3)) (hw : Cond.fieldLink own index "RobotBusModel" "sTurn" "[I" ∈ gtb) (kk : Zs l D ca SM b 31 R nL X σ (pc + 3) L (.ref (b + 30) :: st)) : Zs l D ca SM b 31 R nL X σ pc L (.ref (b + 0) :: st) :=
  z_get C hd (fun w h => List.mem_cons_of_mem _ (in_Mdl w h)) (T := F_Mdl) (N := 46) (ci := 9) rfl 37 (by decide) (List.mem_cons_of_mem _ hw) (by omega) rfl eB_Mdl rfl kk
theorem gB_Mdl_px (C : Cs D ca cc nL own cx X) {index : Nat} (hd : decode cc pc = .ok (.getfield index, 3)) (hw : Cond.fieldLink own index "RobotBusModel" "px" "J" ∈ gtb) (kk : Zs l D ca SM b 31 R nL X σ (pc + 3) L (.long (σ.2.2 138 0 0 0) :: st)) : Zs l D ca SM b 31 R nL X σ pc L (.ref (b + 0) :: st) :=
  z_get C hd (fun w h => List.mem_cons_of_mem _ (in_Mdl w h)) (T := F_Mdl) (N := 46) (ci := 9) rfl 38 (by decide) (List.mem_cons_of_mem _ hw) (by omega) rfl eB_Mdl rfl kk
theorem uB_Mdl_px (x : Int64) : va_up (enc b ca SM σ) 0 (.inr (9, [.int (σ.1 100 0 0 0), .int (σ.1 101 0 0 0), .ref (b + 1), .ref (b + 2), .ref (b + 3), .ref (b + 4), .ref (b + 5), .ref (b + 6), .ref (b + 7), .ref (b + 8), .ref (b + 9), .ref (b + 10), .ref (b + 11), .ref (b + 12), .ref (b + 13), .ref (b + 14), .ref (b + 15), .ref (b + 16), .ref (b + 17), .ref (b + 18), .ref (b + 19), .ref (b + 20), .ref (b + 21), .ref (b + 22), .ref (b + 23), .ref (b + 24), .int (σ.1 126 0 0 0), .int (σ.1 127 0 0 0), .int (σ.1 128 0 0 0), .int (σ.1 129 0 0 0), .int (σ.1 130 0 0 0), .int (σ.1 131 0 0 0), .ref (b + 25), .ref (b + 26), .ref (b + 27), .ref (b + 28), .ref (b + 29), .ref (b + 30), .long x, .long (σ.2.2 139 0 0 0), .double (σ.2.1 140 0 0 0), .int (σ.1 141 0 0 0), .int (σ.1 142 0 0 0), .int (σ.1 143 0 0 0), .int (σ.1 144 0 0 0), .int (σ.1 145 0 0 0)])) = enc b ca SM (upL σ (138, 0, 0) (fun _ => x)) := by
  obtain ⟨c, h1, h2, m⟩ := sB_Mdl
  refine enc_up SM_U h1 (m (138, 0, 0) (by decide)) offK_L ?_
  rw [h2]
  simp [us, upA, upE, upL]
theorem pB_Mdl_px (C : Cs D ca cc nL own cx X) {index : Nat} {x : Int64} (hd : decode cc pc = .ok (.putfield index, 3)) (hw : Cond.fieldLink own index "RobotBusModel" "px" "J" ∈ gtb) (kk : Zs l D ca SM b 31 R nL X (upL σ (138, 0, 0) (fun _ => x)) (pc + 3) L st) : Zs l D ca SM b 31 R nL X σ pc L (.long x :: .ref (b + 0) :: st) :=
  z_put C hd (fun w h => List.mem_cons_of_mem _ (in_Mdl w h)) (T := F_Mdl) (N := 46) (ci := 9) (ty := .long) tk_Mdl n_Mdl rfl 38 (by decide) (List.mem_cons_of_mem _ hw) rfl (by decide +kernel) rfl rfl (by omega) rfl eB_Mdl (by simp) (z_map (uB_Mdl_px x) kk)
theorem gB_Mdl_py (C : Cs D ca cc nL own cx X) {index : Nat} (hd : decode cc pc = .ok (.getfield index, 3)) (hw : Cond.fieldLink own index "RobotBusModel" "py" "J" ∈ gtb) (kk : Zs l D ca SM b 31 R nL X σ (pc + 3) L (.long (σ.2.2 139 0 0 0) :: st)) : Zs l D ca SM b 31 R nL X σ pc L (.ref (b + 0) :: st) :=
  z_get C hd (fun w h => List.mem_cons_of_mem _ (in_Mdl w h)) (T := F_Mdl) (N := 46) (ci := 9) rfl 39 (by decide) (List.mem_cons_of_mem _ hw) (by omega) rfl eB_Mdl rfl kk
theorem uB_Mdl_py (x : Int64) : va_up (enc b ca SM σ) 0 (.inr (9, [.int (σ.1 100 0 0 0), .int (σ.1 101 0 0 0), .ref (b + 1), .ref (b + 2), .ref (b + 3), .ref (b + 4), .ref (b + 5), .ref (b + 6), .ref (b + 7), .ref (b + 8), .ref (b + 9), .ref (b + 10), .ref (b + 11), .ref (b + 12), .ref (b + 13), .ref (b + 14), .ref (b + 15), .ref (b + 16), .ref (b + 17), .ref (b + 18), .ref (b + 19), .ref (b + 20), .ref (b + 21), .ref (b + 22), .ref (b + 23), .ref (b + 24), .int (σ.1 126 0 0 0), .int (σ.1 127 0 0 0), .int (σ.1 128 0 0 0), .int (σ.1 129 0 0 0), .int (σ.1 130 0 0 0), .int (σ.1 131 0 0 0), .ref (b + 25), .ref (b + 26), .ref (b + 27), .ref (b + 28), .ref (b + 29), .ref (b + 30), .long (σ.2.2 138 0 0 0), .long x, .double (σ.2.1 140 0 0 0), .int (σ.1 141 0 0 0), .int (σ.1 142 0 0 0), .int (σ.1 143 0 0 0), .int (σ.1 144 0 0 0), .int (σ.1 145 0 0 0)])) = enc b ca SM (upL σ (139, 0, 0) (fun _ => x)) := by
  obtain ⟨c, h1, h2, m⟩ := sB_Mdl
  refine enc_up SM_U h1 (m (139, 0, 0) (by decide)) offK_L ?_
  rw [h2]
  simp [us, upA, upE, upL]
theorem pB_Mdl_py (C : Cs D ca cc nL own cx X) {index : Nat} {x : Int64} (hd : decode cc pc = .ok (.putfield index, 3)) (hw : Cond.fieldLink own index "RobotBusModel" "py" "J" ∈ gtb) (kk : Zs l D ca SM b 31 R nL X (upL σ (139, 0, 0) (fun _ => x)) (pc + 3) L st) : Zs l D ca SM b 31 R nL X σ pc L (.long x :: .ref (b + 0) :: st) :=
  z_put C hd (fun w h => List.mem_cons_of_mem _ (in_Mdl w h)) (T := F_Mdl) (N := 46) (ci := 9) (ty := .long) tk_Mdl n_Mdl rfl 39 (by decide) (List.mem_cons_of_mem _ hw) rfl (by decide +kernel) rfl rfl (by omega) rfl eB_Mdl (by simp) (z_map (uB_Mdl_py x) kk)
theorem gB_Mdl_lastY (C : Cs D ca cc nL own cx X) {index : Nat} (hd : decode cc pc = .ok (.getfield index, 3)) (hw : Cond.fieldLink own index "RobotBusModel" "lastY" "D" ∈ gtb) (kk : Zs l D ca SM b 31 R nL X σ (pc + 3) L (.double (σ.2.1 140 0 0 0) :: st)) : Zs l D ca SM b 31 R nL X σ pc L (.ref (b + 0) :: st) :=
  z_get C hd (fun w h => List.mem_cons_of_mem _ (in_Mdl w h)) (T := F_Mdl) (N := 46) (ci := 9) rfl 40 (by decide) (List.mem_cons_of_mem _ hw) (by omega) rfl eB_Mdl rfl kk
theorem uB_Mdl_lastY (x : UInt64) : va_up (enc b ca SM σ) 0 (.inr (9, [.int (σ.1 100 0 0 0), .int (σ.1 101 0 0 0), .ref (b + 1), .ref (b + 2), .ref (b + 3), .ref (b + 4), .ref (b + 5), .ref (b + 6), .ref (b + 7), .ref (b + 8), .ref (b + 9), .ref (b + 10), .ref (b + 11), .ref (b + 12), .ref (b + 13), .ref (b + 14), .ref (b + 15), .ref (b + 16), .ref (b + 17), .ref (b + 18), .ref (b + 19), .ref (b + 20), .ref (b + 21), .ref (b + 22), .ref (b + 23), .ref (b + 24), .int (σ.1 126 0 0 0), .int (σ.1 127 0 0 0), .int (σ.1 128 0 0 0), .int (σ.1 129 0 0 0), .int (σ.1 130 0 0 0), .int (σ.1 131 0 0 0), .ref (b + 25), .ref (b + 26), .ref (b + 27), .ref (b + 28), .ref (b + 29), .ref (b + 30), .long (σ.2.2 138 0 0 0), .long (σ.2.2 139 0 0 0), .double x, .int (σ.1 141 0 0 0), .int (σ.1 142 0 0 0), .int (σ.1 143 0 0 0), .int (σ.1 144 0 0 0), .int (σ.1 145 0 0 0)])) = enc b ca SM (upE σ (140, 0, 0) (fun _ => x)) := by
  obtain ⟨c, h1, h2, m⟩ := sB_Mdl
  refine enc_up SM_U h1 (m (140, 0, 0) (by decide)) offK_E ?_
  rw [h2]
  simp [us, upA, upE, upL]
theorem pB_Mdl_lastY (C : Cs D ca cc nL own cx X) {index : Nat} {x : UInt64} (hd : decode cc pc = .ok (.putfield index, 3)) (hw : Cond.fieldLink own index "RobotBusModel" "lastY" "D" ∈ gtb) (kk : Zs l D ca SM b 31 R nL X (upE σ (140, 0, 0) (fun _ => x)) (pc + 3) L st) : Zs l D ca SM b 31 R nL X σ pc L (.double x :: .ref (b + 0) :: st) :=
  z_put C hd (fun w h => List.mem_cons_of_mem _ (in_Mdl w h)) (T := F_Mdl) (N := 46) (ci := 9) (ty := .double) tk_Mdl n_Mdl rfl 40 (by decide) (List.mem_cons_of_mem _ hw) rfl (by decide +kernel) rfl rfl (by omega) rfl eB_Mdl (by simp) (z_map (uB_Mdl_lastY x) kk)
theorem gB_Mdl_lost (C : Cs D ca cc nL own cx X) {index : Nat} (hd : decode cc pc = .ok (.getfield index, 3)) (hw : Cond.fieldLink own index "RobotBusModel" "lost" "I" ∈ gtb) (kk : Zs l D ca SM b 31 R nL X σ (pc + 3) L (.int (σ.1 141 0 0 0) :: st)) : Zs l D ca SM b 31 R nL X σ pc L (.ref (b + 0) :: st) :=
  z_get C hd (fun w h => List.mem_cons_of_mem _ (in_Mdl w h)) (T := F_Mdl) (N := 46) (ci := 9) rfl 41 (by decide) (List.mem_cons_of_mem _ hw) (by omega) rfl eB_Mdl rfl kk
theorem uB_Mdl_lost (x : Int32) : va_up (enc b ca SM σ) 0 (.inr (9, [.int (σ.1 100 0 0 0), .int (σ.1 101 0 0 0), .ref (b + 1), .ref (b + 2), .ref (b + 3), .ref (b + 4), .ref (b + 5), .ref (b + 6), .ref (b + 7), .ref (b + 8), .ref (b + 9), .ref (b + 10), .ref (b + 11), .ref (b + 12), .ref (b + 13), .ref (b + 14), .ref (b + 15), .ref (b + 16), .ref (b + 17), .ref (b + 18), .ref (b + 19), .ref (b + 20), .ref (b + 21), .ref (b + 22), .ref (b + 23), .ref (b + 24), .int (σ.1 126 0 0 0), .int (σ.1 127 0 0 0), .int (σ.1 128 0 0 0), .int (σ.1 129 0 0 0), .int (σ.1 130 0 0 0), .int (σ.1 131 0 0 0), .ref (b + 25), .ref (b + 26), .ref (b + 27), .ref (b + 28), .ref (b + 29), .ref (b + 30), .long (σ.2.2 138 0 0 0), .long (σ.2.2 139 0 0 0), .double (σ.2.1 140 0 0 0), .int x, .int (σ.1 142 0 0 0), .int (σ.1 143 0 0 0), .int (σ.1 144 0 0 0), .int (σ.1 145 0 0 0)])) = enc b ca SM (us σ 141 0 0 x) := by
  obtain ⟨c, h1, h2, m⟩ := sB_Mdl
  refine enc_up SM_U h1 (m (141, 0, 0) (by decide)) offK_A ?_
  rw [h2]
  simp [us, upA, upE, upL]
theorem pB_Mdl_lost (C : Cs D ca cc nL own cx X) {index : Nat} {x : Int32} (hd : decode cc pc = .ok (.putfield index, 3)) (hw : Cond.fieldLink own index "RobotBusModel" "lost" "I" ∈ gtb) (kk : Zs l D ca SM b 31 R nL X (us σ 141 0 0 x) (pc + 3) L st) : Zs l D ca SM b 31 R nL X σ pc L (.int x :: .ref (b + 0) :: st) :=
  z_put C hd (fun w h => List.mem_cons_of_mem _ (in_Mdl w h)) (T := F_Mdl) (N := 46) (ci := 9) (ty := .int) tk_Mdl n_Mdl rfl 41 (by decide) (List.mem_cons_of_mem _ hw) rfl (by decide +kernel) rfl rfl (by omega) rfl eB_Mdl (by simp) (z_map (uB_Mdl_lost x) kk)
theorem gB_Mdl_published (C : Cs D ca cc nL own cx X) {index : Nat} (hd : decode cc pc = .ok (.getfield index, 3)) (hw : Cond.fieldLink own index "RobotBusModel" "published" "I" ∈ gtb) (kk : Zs l D ca SM b 31 R nL X σ (pc + 3) L (.int (σ.1 142 0 0 0) :: st)) : Zs l D ca SM b 31 R nL X σ pc L (.ref (b + 0) :: st) :=
  z_get C hd (fun w h => List.mem_cons_of_mem _ (in_Mdl w h)) (T := F_Mdl) (N := 46) (ci := 9) rfl 42 (by decide) (List.mem_cons_of_mem _ hw) (by omega) rfl eB_Mdl rfl kk
theorem uB_Mdl_published (x : Int32) : va_up (enc b ca SM σ) 0 (.inr (9, [.int (σ.1 100 0 0 0), .int (σ.1 101 0 0 0), .ref (b + 1), .ref (b + 2), .ref (b + 3), .ref (b + 4), .ref (b + 5), .ref (b + 6), .ref (b + 7), .ref (b + 8), .ref (b + 9), .ref (b + 10), .ref (b + 11), .ref (b + 12), .ref (b + 13), .ref (b + 14), .ref (b + 15), .ref (b + 16), .ref (b + 17), .ref (b + 18), .ref (b + 19), .ref (b + 20), .ref (b + 21), .ref (b + 22), .ref (b + 23), .ref (b + 24), .int (σ.1 126 0 0 0), .int (σ.1 127 0 0 0), .int (σ.1 128 0 0 0), .int (σ.1 129 0 0 0), .int (σ.1 130 0 0 0), .int (σ.1 131 0 0 0), .ref (b + 25), .ref (b + 26), .ref (b + 27), .ref (b + 28), .ref (b + 29), .ref (b + 30), .long (σ.2.2 138 0 0 0), .long (σ.2.2 139 0 0 0), .double (σ.2.1 140 0 0 0), .int (σ.1 141 0 0 0), .int x, .int (σ.1 143 0 0 0), .int (σ.1 144 0 0 0), .int (σ.1 145 0 0 0)])) = enc b ca SM (us σ 142 0 0 x) := by
  obtain ⟨c, h1, h2, m⟩ := sB_Mdl
  refine enc_up SM_U h1 (m (142, 0, 0) (by decide)) offK_A ?_
  rw [h2]
  simp [us, upA, upE, upL]
theorem pB_Mdl_published (C : Cs D ca cc nL own cx X) {index : Nat} {x : Int32} (hd : decode cc pc = .ok (.putfield index, 3)) (hw : Cond.fieldLink own index "RobotBusModel" "published" "I" ∈ gtb) (kk : Zs l D ca SM b 31 R nL X (us σ 142 0 0 x) (pc + 3) L st) : Zs l D ca SM b 31 R nL X σ pc L (.int x :: .ref (b + 0) :: st) :=
  z_put C hd (fun w h => List.mem_cons_of_mem _ (in_Mdl w h)) (T := F_Mdl) (N := 46) (ci := 9) (ty := .int) tk_Mdl n_Mdl rfl 42 (by decide) (List.mem_cons_of_mem _ hw) rfl (by decide +kernel) rfl rfl (by omega) rfl eB_Mdl (by simp) (z_map (uB_Mdl_published x) kk)
theorem gB_Mdl_actions (C : Cs D ca cc nL own cx X) {index : Nat} (hd : decode cc pc = .ok (.getfield index, 3)) (hw : Cond.fieldLink own index "RobotBusModel" "actions" "I" ∈ gtb) (kk : Zs l D ca SM b 31 R nL X σ (pc + 3) L (.int (σ.1 143 0 0 0) :: st)) : Zs l D ca SM b 31 R nL X σ pc L (.ref (b + 0) :: st) :=
  z_get C hd (fun w h => List.mem_cons_of_mem _ (in_Mdl w h)) (T := F_Mdl) (N := 46) (ci := 9) rfl 43 (by decide) (List.mem_cons_of_mem _ hw) (by omega) rfl eB_Mdl rfl kk
theorem uB_Mdl_actions (x : Int32) : va_up (enc b ca SM σ) 0 (.inr (9, [.int (σ.1 100 0 0 0), .int (σ.1 101 0 0 0), .ref (b + 1), .ref (b + 2), .ref (b + 3), .ref (b + 4), .ref (b + 5), .ref (b + 6), .ref (b + 7), .ref (b + 8), .ref (b + 9), .ref (b + 10), .ref (b + 11), .ref (b + 12), .ref (b + 13), .ref (b + 14), .ref (b + 15), .ref (b + 16), .ref (b + 17), .ref (b + 18), .ref (b + 19), .ref (b + 20), .ref (b + 21), .ref (b + 22), .ref (b + 23), .ref (b + 24), .int (σ.1 126 0 0 0), .int (σ.1 127 0 0 0), .int (σ.1 128 0 0 0), .int (σ.1 129 0 0 0), .int (σ.1 130 0 0 0), .int (σ.1 131 0 0 0), .ref (b + 25), .ref (b + 26), .ref (b + 27), .ref (b + 28), .ref (b + 29), .ref (b + 30), .long (σ.2.2 138 0 0 0), .long (σ.2.2 139 0 0 0), .double (σ.2.1 140 0 0 0), .int (σ.1 141 0 0 0), .int (σ.1 142 0 0 0), .int x, .int (σ.1 144 0 0 0), .int (σ.1 145 0 0 0)])) = enc b ca SM (us σ 143 0 0 x) := by
  obtain ⟨c, h1, h2, m⟩ := sB_Mdl
  refine enc_up SM_U h1 (m (143, 0, 0) (by decide)) offK_A ?_
  rw [h2]
  simp [us, upA, upE, upL]
theorem pB_Mdl_actions (C : Cs D ca cc nL own cx X) {index : Nat} {x : Int32} (hd : decode cc pc = .ok (.putfield index, 3)) (hw : Cond.fieldLink own index "RobotBusModel" "actions" "I" ∈ gtb) (kk : Zs l D ca SM b 31 R nL X (us σ 143 0 0 x) (pc + 3) L st) : Zs l D ca SM b 31 R nL X σ pc L (.int x :: .ref (b + 0) :: st) :=
  z_put C hd (fun w h => List.mem_cons_of_mem _ (in_Mdl w h)) (T := F_Mdl) (N := 46) (ci := 9) (ty := .int) tk_Mdl n_Mdl rfl 43 (by decide) (List.mem_cons_of_mem _ hw) rfl (by decide +kernel) rfl rfl (by omega) rfl eB_Mdl (by simp) (z_map (uB_Mdl_actions x) kk)
theorem gB_Mdl_failures (C : Cs D ca cc nL own cx X) {index : Nat} (hd : decode cc pc = .ok (.getfield index, 3)) (hw : Cond.fieldLink own index "RobotBusModel" "failures" "I" ∈ gtb) (kk : Zs l D ca SM b 31 R nL X σ (pc + 3) L (.int (σ.1 144 0 0 0) :: st)) : Zs l D ca SM b 31 R nL X σ pc L (.ref (b + 0) :: st) :=
  z_get C hd (fun w h => List.mem_cons_of_mem _ (in_Mdl w h)) (T := F_Mdl) (N := 46) (ci := 9) rfl 44 (by decide) (List.mem_cons_of_mem _ hw) (by omega) rfl eB_Mdl rfl kk
theorem uB_Mdl_failures (x : Int32) : va_up (enc b ca SM σ) 0 (.inr (9, [.int (σ.1 100 0 0 0), .int (σ.1 101 0 0 0), .ref (b + 1), .ref (b + 2), .ref (b + 3), .ref (b + 4), .ref (b + 5), .ref (b + 6), .ref (b + 7), .ref (b + 8), .ref (b + 9), .ref (b + 10), .ref (b + 11), .ref (b + 12), .ref (b + 13), .ref (b + 14), .ref (b + 15), .ref (b + 16), .ref (b + 17), .ref (b + 18), .ref (b + 19), .ref (b + 20), .ref (b + 21), .ref (b + 22), .ref (b + 23), .ref (b + 24), .int (σ.1 126 0 0 0), .int (σ.1 127 0 0 0), .int (σ.1 128 0 0 0), .int (σ.1 129 0 0 0), .int (σ.1 130 0 0 0), .int (σ.1 131 0 0 0), .ref (b + 25), .ref (b + 26), .ref (b + 27), .ref (b + 28), .ref (b + 29), .ref (b + 30), .long (σ.2.2 138 0 0 0), .long (σ.2.2 139 0 0 0), .double (σ.2.1 140 0 0 0), .int (σ.1 141 0 0 0), .int (σ.1 142 0 0 0), .int (σ.1 143 0 0 0), .int x, .int (σ.1 145 0 0 0)])) = enc b ca SM (us σ 144 0 0 x) := by
  obtain ⟨c, h1, h2, m⟩ := sB_Mdl
  refine enc_up SM_U h1 (m (144, 0, 0) (by decide)) offK_A ?_
  rw [h2]
  simp [us, upA, upE, upL]
theorem pB_Mdl_failures (C : Cs D ca cc nL own cx X) {index : Nat} {x : Int32} (hd : decode cc pc = .ok (.putfield index, 3)) (hw : Cond.fieldLink own index "RobotBusModel" "failures" "I" ∈ gtb) (kk : Zs l D ca SM b 31 R nL X (us σ 144 0 0 x) (pc + 3) L st) : Zs l D ca SM b 31 R nL X σ pc L (.int x :: .ref (b + 0) :: st) :=
  z_put C hd (fun w h => List.mem_cons_of_mem _ (in_Mdl w h)) (T := F_Mdl) (N := 46) (ci := 9) (ty := .int) tk_Mdl n_Mdl rfl 44 (by decide) (List.mem_cons_of_mem _ hw) rfl (by decide +kernel) rfl rfl (by omega) rfl eB_Mdl (by simp) (z_map (uB_Mdl_failures x) kk)
theorem gB_Mdl_trouble (C : Cs D ca cc nL own cx X) {index : Nat} (hd : decode cc pc = .ok (.getfield index, 3)) (hw : Cond.fieldLink own index "RobotBusModel" "trouble" "I" ∈ gtb) (kk : Zs l D ca SM b 31 R nL X σ (pc + 3) L (.int (σ.1 145 0 0 0) :: st)) : Zs l D ca SM b 31 R nL X σ pc L (.ref (b + 0) :: st) :=
  z_get C hd (fun w h => List.mem_cons_of_mem _ (in_Mdl w h)) (T := F_Mdl) (N := 46) (ci := 9) rfl 45 (by decide) (List.mem_cons_of_mem _ hw) (by omega) rfl eB_Mdl rfl kk
theorem uB_Mdl_trouble (x : Int32) : va_up (enc b ca SM σ) 0 (.inr (9, [.int (σ.1 100 0 0 0), .int (σ.1 101 0 0 0), .ref (b + 1), .ref (b + 2), .ref (b + 3), .ref (b + 4), .ref (b + 5), .ref (b + 6), .ref (b + 7), .ref (b + 8), .ref (b + 9), .ref (b + 10), .ref (b + 11), .ref (b + 12), .ref (b + 13), .ref (b + 14), .ref (b + 15), .ref (b + 16), .ref (b + 17), .ref (b + 18), .ref (b + 19), .ref (b + 20), .ref (b + 21), .ref (b + 22), .ref (b + 23), .ref (b + 24), .int (σ.1 126 0 0 0), .int (σ.1 127 0 0 0), .int (σ.1 128 0 0 0), .int (σ.1 129 0 0 0), .int (σ.1 130 0 0 0), .int (σ.1 131 0 0 0), .ref (b + 25), .ref (b + 26), .ref (b + 27), .ref (b + 28), .ref (b + 29), .ref (b + 30), .long (σ.2.2 138 0 0 0), .long (σ.2.2 139 0 0 0), .double (σ.2.1 140 0 0 0), .int (σ.1 141 0 0 0), .int (σ.1 142 0 0 0), .int (σ.1 143 0 0 0), .int (σ.1 144 0 0 0), .int x])) = enc b ca SM (us σ 145 0 0 x) := by
  obtain ⟨c, h1, h2, m⟩ := sB_Mdl
  refine enc_up SM_U h1 (m (145, 0, 0) (by decide)) offK_A ?_
  rw [h2]
  simp [us, upA, upE, upL]
theorem pB_Mdl_trouble (C : Cs D ca cc nL own cx X) {index : Nat} {x : Int32} (hd : decode cc pc = .ok (.putfield index, 3)) (hw : Cond.fieldLink own index "RobotBusModel" "trouble" "I" ∈ gtb) (kk : Zs l D ca SM b 31 R nL X (us σ 145 0 0 x) (pc + 3) L st) : Zs l D ca SM b 31 R nL X σ pc L (.int x :: .ref (b + 0) :: st) :=
  z_put C hd (fun w h => List.mem_cons_of_mem _ (in_Mdl w h)) (T := F_Mdl) (N := 46) (ci := 9) (ty := .int) tk_Mdl n_Mdl rfl 45 (by decide) (List.mem_cons_of_mem _ hw) rfl (by decide +kernel) rfl rfl (by omega) rfl eB_Mdl (by simp) (z_map (uB_Mdl_trouble x) kk)
theorem eB_m_there : enc b ca SM σ 1 = .inl (ca 7, 6, .inl (σ.1 102 0 0)) := rfl
theorem uB_m_there (g : Nat → Int32) : va_up (enc b ca SM σ) 1 (.inl (ca 7, 6, .inl g)) = enc b ca SM (upA σ (102, 0, 0) g) :=
  enc_up SM_U (c := SM[1]) rfl (by decide) offK_A (by show _ = (Sum.inl (ca 7, 6, .inl ((upA σ (102, 0, 0) g).1 102 0 0)) : va_E); rw [upA_self])
theorem lB_m_there (C : Cs D ca cc nL own cx X) {x : Int32} {q : Nat} (hd : decode cc pc = .ok (.baload, 1)) (hx : x = nI q) (hq : q < 6) (kk : Zs l D ca SM b 31 R nL X σ (pc + 1) L (.int (σ.1 102 0 0 q) :: st)) : Zs l D ca SM b 31 R nL X σ pc L (.int x :: .ref (b + 1) :: st) := by
  subst hx
  refine z_zald C hd 7 rfl (by omega) rfl eB_m_there (vp_in_nI hq (by decide)) ?_
  rw [nI_clamp (by omega)]
  exact kk
theorem stB_m_there (C : Cs D ca cc nL own cx X) {x : Int32} {v : Int32} {q : Nat} (hd : decode cc pc = .ok (.bastore, 1)) (hx : x = nI q) (hq : q < 6) (hv : v = 0 ∨ v = 1) (kk : Zs l D ca SM b 31 R nL X (upA σ (102, 0, 0) (upd (σ.1 102 0 0) q v)) (pc + 1) L st) : Zs l D ca SM b 31 R nL X σ pc L (.int v :: .int x :: .ref (b + 1) :: st) := by
  subst hx
  refine z_zast C hd 7 rfl (by omega) rfl eB_m_there (vp_in_nI hq (by decide)) hv ?_
  rw [nI_clamp (by omega)]
  exact z_map (uB_m_there _) kk
theorem eB_m_vars : enc b ca SM σ 2 = .inl (ca 0, 24, .inl (σ.1 103 0 0)) := rfl
theorem uB_m_vars (g : Nat → Int32) : va_up (enc b ca SM σ) 2 (.inl (ca 0, 24, .inl g)) = enc b ca SM (upA σ (103, 0, 0) g) :=
  enc_up SM_U (c := SM[2]) rfl (by decide) offK_A (by show _ = (Sum.inl (ca 0, 24, .inl ((upA σ (103, 0, 0) g).1 103 0 0)) : va_E); rw [upA_self])
theorem lB_m_vars (C : Cs D ca cc nL own cx X) {x : Int32} {q : Nat} (hd : decode cc pc = .ok (.iaload, 1)) (hx : x = nI q) (hq : q < 24) (kk : Zs l D ca SM b 31 R nL X σ (pc + 1) L (.int (σ.1 103 0 0 q) :: st)) : Zs l D ca SM b 31 R nL X σ pc L (.int x :: .ref (b + 2) :: st) := by
  subst hx
  refine z_iald C hd 0 rfl (by omega) rfl eB_m_vars (vp_in_nI hq (by decide)) ?_
  rw [nI_clamp (by omega)]
  exact kk
theorem stB_m_vars (C : Cs D ca cc nL own cx X) {x : Int32} {v : Int32} {q : Nat} (hd : decode cc pc = .ok (.iastore, 1)) (hx : x = nI q) (hq : q < 24) (kk : Zs l D ca SM b 31 R nL X (upA σ (103, 0, 0) (upd (σ.1 103 0 0) q v)) (pc + 1) L st) : Zs l D ca SM b 31 R nL X σ pc L (.int v :: .int x :: .ref (b + 2) :: st) := by
  subst hx
  refine z_iast C hd 0 rfl (by omega) rfl eB_m_vars (vp_in_nI hq (by decide)) ?_
  rw [nI_clamp (by omega)]
  exact z_map (uB_m_vars _) kk
theorem eB_m_took : enc b ca SM σ 3 = .inl (ca 0, 6, .inl (σ.1 104 0 0)) := rfl
theorem uB_m_took (g : Nat → Int32) : va_up (enc b ca SM σ) 3 (.inl (ca 0, 6, .inl g)) = enc b ca SM (upA σ (104, 0, 0) g) :=
  enc_up SM_U (c := SM[3]) rfl (by decide) offK_A (by show _ = (Sum.inl (ca 0, 6, .inl ((upA σ (104, 0, 0) g).1 104 0 0)) : va_E); rw [upA_self])
theorem lB_m_took (C : Cs D ca cc nL own cx X) {x : Int32} {q : Nat} (hd : decode cc pc = .ok (.iaload, 1)) (hx : x = nI q) (hq : q < 6) (kk : Zs l D ca SM b 31 R nL X σ (pc + 1) L (.int (σ.1 104 0 0 q) :: st)) : Zs l D ca SM b 31 R nL X σ pc L (.int x :: .ref (b + 3) :: st) := by
  subst hx
  refine z_iald C hd 0 rfl (by omega) rfl eB_m_took (vp_in_nI hq (by decide)) ?_
  rw [nI_clamp (by omega)]
  exact kk
theorem stB_m_took (C : Cs D ca cc nL own cx X) {x : Int32} {v : Int32} {q : Nat} (hd : decode cc pc = .ok (.iastore, 1)) (hx : x = nI q) (hq : q < 6) (kk : Zs l D ca SM b 31 R nL X (upA σ (104, 0, 0) (upd (σ.1 104 0 0) q v)) (pc + 1) L st) : Zs l D ca SM b 31 R nL X σ pc L (.int v :: .int x :: .ref (b + 3) :: st) := by
  subst hx
  refine z_iast C hd 0 rfl (by omega) rfl eB_m_took (vp_in_nI hq (by decide)) ?_
  rw [nI_clamp (by omega)]
  exact z_map (uB_m_took _) kk
theorem eB_m_depth : enc b ca SM σ 4 = .inl (ca 0, 36, .inl (σ.1 105 0 0)) := rfl
theorem uB_m_depth (g : Nat → Int32) : va_up (enc b ca SM σ) 4 (.inl (ca 0, 36, .inl g)) = enc b ca SM (upA σ (105, 0, 0) g) :=
  enc_up SM_U (c := SM[4]) rfl (by decide) offK_A (by show _ = (Sum.inl (ca 0, 36, .inl ((upA σ (105, 0, 0) g).1 105 0 0)) : va_E); rw [upA_self])
theorem lB_m_depth (C : Cs D ca cc nL own cx X) {x : Int32} {q : Nat} (hd : decode cc pc = .ok (.iaload, 1)) (hx : x = nI q) (hq : q < 36) (kk : Zs l D ca SM b 31 R nL X σ (pc + 1) L (.int (σ.1 105 0 0 q) :: st)) : Zs l D ca SM b 31 R nL X σ pc L (.int x :: .ref (b + 4) :: st) := by
  subst hx
  refine z_iald C hd 0 rfl (by omega) rfl eB_m_depth (vp_in_nI hq (by decide)) ?_
  rw [nI_clamp (by omega)]
  exact kk
theorem stB_m_depth (C : Cs D ca cc nL own cx X) {x : Int32} {v : Int32} {q : Nat} (hd : decode cc pc = .ok (.iastore, 1)) (hx : x = nI q) (hq : q < 36) (kk : Zs l D ca SM b 31 R nL X (upA σ (105, 0, 0) (upd (σ.1 105 0 0) q v)) (pc + 1) L st) : Zs l D ca SM b 31 R nL X σ pc L (.int v :: .int x :: .ref (b + 4) :: st) := by
  subst hx
  refine z_iast C hd 0 rfl (by omega) rfl eB_m_depth (vp_in_nI hq (by decide)) ?_
  rw [nI_clamp (by omega)]
  exact z_map (uB_m_depth _) kk
theorem eB_m_waiting : enc b ca SM σ 5 = .inl (ca 0, 36, .inl (σ.1 106 0 0)) := rfl
theorem uB_m_waiting (g : Nat → Int32) : va_up (enc b ca SM σ) 5 (.inl (ca 0, 36, .inl g)) = enc b ca SM (upA σ (106, 0, 0) g) :=
  enc_up SM_U (c := SM[5]) rfl (by decide) offK_A (by show _ = (Sum.inl (ca 0, 36, .inl ((upA σ (106, 0, 0) g).1 106 0 0)) : va_E); rw [upA_self])
theorem lB_m_waiting (C : Cs D ca cc nL own cx X) {x : Int32} {q : Nat} (hd : decode cc pc = .ok (.iaload, 1)) (hx : x = nI q) (hq : q < 36) (kk : Zs l D ca SM b 31 R nL X σ (pc + 1) L (.int (σ.1 106 0 0 q) :: st)) : Zs l D ca SM b 31 R nL X σ pc L (.int x :: .ref (b + 5) :: st) := by
  subst hx
  refine z_iald C hd 0 rfl (by omega) rfl eB_m_waiting (vp_in_nI hq (by decide)) ?_
  rw [nI_clamp (by omega)]
  exact kk
theorem stB_m_waiting (C : Cs D ca cc nL own cx X) {x : Int32} {v : Int32} {q : Nat} (hd : decode cc pc = .ok (.iastore, 1)) (hx : x = nI q) (hq : q < 36) (kk : Zs l D ca SM b 31 R nL X (upA σ (106, 0, 0) (upd (σ.1 106 0 0) q v)) (pc + 1) L st) : Zs l D ca SM b 31 R nL X σ pc L (.int v :: .int x :: .ref (b + 5) :: st) := by
  subst hx
  refine z_iast C hd 0 rfl (by omega) rfl eB_m_waiting (vp_in_nI hq (by decide)) ?_
  rw [nI_clamp (by omega)]
  exact z_map (uB_m_waiting _) kk
theorem eB_m_value : enc b ca SM σ 6 = .inl (ca 0, 144, .inl (σ.1 107 0 0)) := rfl
theorem uB_m_value (g : Nat → Int32) : va_up (enc b ca SM σ) 6 (.inl (ca 0, 144, .inl g)) = enc b ca SM (upA σ (107, 0, 0) g) :=
  enc_up SM_U (c := SM[6]) rfl (by decide) offK_A (by show _ = (Sum.inl (ca 0, 144, .inl ((upA σ (107, 0, 0) g).1 107 0 0)) : va_E); rw [upA_self])
theorem lB_m_value (C : Cs D ca cc nL own cx X) {x : Int32} {q : Nat} (hd : decode cc pc = .ok (.iaload, 1)) (hx : x = nI q) (hq : q < 144) (kk : Zs l D ca SM b 31 R nL X σ (pc + 1) L (.int (σ.1 107 0 0 q) :: st)) : Zs l D ca SM b 31 R nL X σ pc L (.int x :: .ref (b + 6) :: st) := by
  subst hx
  refine z_iald C hd 0 rfl (by omega) rfl eB_m_value (vp_in_nI hq (by decide)) ?_
  rw [nI_clamp (by omega)]
  exact kk
theorem stB_m_value (C : Cs D ca cc nL own cx X) {x : Int32} {v : Int32} {q : Nat} (hd : decode cc pc = .ok (.iastore, 1)) (hx : x = nI q) (hq : q < 144) (kk : Zs l D ca SM b 31 R nL X (upA σ (107, 0, 0) (upd (σ.1 107 0 0) q v)) (pc + 1) L st) : Zs l D ca SM b 31 R nL X σ pc L (.int v :: .int x :: .ref (b + 6) :: st) := by
  subst hx
  refine z_iast C hd 0 rfl (by omega) rfl eB_m_value (vp_in_nI hq (by decide)) ?_
  rw [nI_clamp (by omega)]
  exact z_map (uB_m_value _) kk
theorem eB_m_sender : enc b ca SM σ 7 = .inl (ca 0, 144, .inl (σ.1 108 0 0)) := rfl
theorem uB_m_sender (g : Nat → Int32) : va_up (enc b ca SM σ) 7 (.inl (ca 0, 144, .inl g)) = enc b ca SM (upA σ (108, 0, 0) g) :=
  enc_up SM_U (c := SM[7]) rfl (by decide) offK_A (by show _ = (Sum.inl (ca 0, 144, .inl ((upA σ (108, 0, 0) g).1 108 0 0)) : va_E); rw [upA_self])
theorem lB_m_sender (C : Cs D ca cc nL own cx X) {x : Int32} {q : Nat} (hd : decode cc pc = .ok (.iaload, 1)) (hx : x = nI q) (hq : q < 144) (kk : Zs l D ca SM b 31 R nL X σ (pc + 1) L (.int (σ.1 108 0 0 q) :: st)) : Zs l D ca SM b 31 R nL X σ pc L (.int x :: .ref (b + 7) :: st) := by
  subst hx
  refine z_iald C hd 0 rfl (by omega) rfl eB_m_sender (vp_in_nI hq (by decide)) ?_
  rw [nI_clamp (by omega)]
  exact kk
theorem stB_m_sender (C : Cs D ca cc nL own cx X) {x : Int32} {v : Int32} {q : Nat} (hd : decode cc pc = .ok (.iastore, 1)) (hx : x = nI q) (hq : q < 144) (kk : Zs l D ca SM b 31 R nL X (upA σ (108, 0, 0) (upd (σ.1 108 0 0) q v)) (pc + 1) L st) : Zs l D ca SM b 31 R nL X σ pc L (.int v :: .int x :: .ref (b + 7) :: st) := by
  subst hx
  refine z_iast C hd 0 rfl (by omega) rfl eB_m_sender (vp_in_nI hq (by decide)) ?_
  rw [nI_clamp (by omega)]
  exact z_map (uB_m_sender _) kk
theorem eB_m_stamp : enc b ca SM σ 8 = .inl (ca 0, 144, .inl (σ.1 109 0 0)) := rfl
theorem uB_m_stamp (g : Nat → Int32) : va_up (enc b ca SM σ) 8 (.inl (ca 0, 144, .inl g)) = enc b ca SM (upA σ (109, 0, 0) g) :=
  enc_up SM_U (c := SM[8]) rfl (by decide) offK_A (by show _ = (Sum.inl (ca 0, 144, .inl ((upA σ (109, 0, 0) g).1 109 0 0)) : va_E); rw [upA_self])
theorem lB_m_stamp (C : Cs D ca cc nL own cx X) {x : Int32} {q : Nat} (hd : decode cc pc = .ok (.iaload, 1)) (hx : x = nI q) (hq : q < 144) (kk : Zs l D ca SM b 31 R nL X σ (pc + 1) L (.int (σ.1 109 0 0 q) :: st)) : Zs l D ca SM b 31 R nL X σ pc L (.int x :: .ref (b + 8) :: st) := by
  subst hx
  refine z_iald C hd 0 rfl (by omega) rfl eB_m_stamp (vp_in_nI hq (by decide)) ?_
  rw [nI_clamp (by omega)]
  exact kk
theorem stB_m_stamp (C : Cs D ca cc nL own cx X) {x : Int32} {v : Int32} {q : Nat} (hd : decode cc pc = .ok (.iastore, 1)) (hx : x = nI q) (hq : q < 144) (kk : Zs l D ca SM b 31 R nL X (upA σ (109, 0, 0) (upd (σ.1 109 0 0) q v)) (pc + 1) L st) : Zs l D ca SM b 31 R nL X σ pc L (.int v :: .int x :: .ref (b + 8) :: st) := by
  subst hx
  refine z_iast C hd 0 rfl (by omega) rfl eB_m_stamp (vp_in_nI hq (by decide)) ?_
  rw [nI_clamp (by omega)]
  exact z_map (uB_m_stamp _) kk
theorem eB_m_aKind : enc b ca SM σ 9 = .inl (ca 0, 36, .inl (σ.1 110 0 0)) := rfl
theorem uB_m_aKind (g : Nat → Int32) : va_up (enc b ca SM σ) 9 (.inl (ca 0, 36, .inl g)) = enc b ca SM (upA σ (110, 0, 0) g) :=
  enc_up SM_U (c := SM[9]) rfl (by decide) offK_A (by show _ = (Sum.inl (ca 0, 36, .inl ((upA σ (110, 0, 0) g).1 110 0 0)) : va_E); rw [upA_self])
theorem lB_m_aKind (C : Cs D ca cc nL own cx X) {x : Int32} {q : Nat} (hd : decode cc pc = .ok (.iaload, 1)) (hx : x = nI q) (hq : q < 36) (kk : Zs l D ca SM b 31 R nL X σ (pc + 1) L (.int (σ.1 110 0 0 q) :: st)) : Zs l D ca SM b 31 R nL X σ pc L (.int x :: .ref (b + 9) :: st) := by
  subst hx
  refine z_iald C hd 0 rfl (by omega) rfl eB_m_aKind (vp_in_nI hq (by decide)) ?_
  rw [nI_clamp (by omega)]
  exact kk
theorem stB_m_aKind (C : Cs D ca cc nL own cx X) {x : Int32} {v : Int32} {q : Nat} (hd : decode cc pc = .ok (.iastore, 1)) (hx : x = nI q) (hq : q < 36) (kk : Zs l D ca SM b 31 R nL X (upA σ (110, 0, 0) (upd (σ.1 110 0 0) q v)) (pc + 1) L st) : Zs l D ca SM b 31 R nL X σ pc L (.int v :: .int x :: .ref (b + 9) :: st) := by
  subst hx
  refine z_iast C hd 0 rfl (by omega) rfl eB_m_aKind (vp_in_nI hq (by decide)) ?_
  rw [nI_clamp (by omega)]
  exact z_map (uB_m_aKind _) kk
theorem eB_m_aA : enc b ca SM σ 10 = .inl (ca 0, 36, .inl (σ.1 111 0 0)) := rfl
theorem uB_m_aA (g : Nat → Int32) : va_up (enc b ca SM σ) 10 (.inl (ca 0, 36, .inl g)) = enc b ca SM (upA σ (111, 0, 0) g) :=
  enc_up SM_U (c := SM[10]) rfl (by decide) offK_A (by show _ = (Sum.inl (ca 0, 36, .inl ((upA σ (111, 0, 0) g).1 111 0 0)) : va_E); rw [upA_self])
theorem lB_m_aA (C : Cs D ca cc nL own cx X) {x : Int32} {q : Nat} (hd : decode cc pc = .ok (.iaload, 1)) (hx : x = nI q) (hq : q < 36) (kk : Zs l D ca SM b 31 R nL X σ (pc + 1) L (.int (σ.1 111 0 0 q) :: st)) : Zs l D ca SM b 31 R nL X σ pc L (.int x :: .ref (b + 10) :: st) := by
  subst hx
  refine z_iald C hd 0 rfl (by omega) rfl eB_m_aA (vp_in_nI hq (by decide)) ?_
  rw [nI_clamp (by omega)]
  exact kk
theorem stB_m_aA (C : Cs D ca cc nL own cx X) {x : Int32} {v : Int32} {q : Nat} (hd : decode cc pc = .ok (.iastore, 1)) (hx : x = nI q) (hq : q < 36) (kk : Zs l D ca SM b 31 R nL X (upA σ (111, 0, 0) (upd (σ.1 111 0 0) q v)) (pc + 1) L st) : Zs l D ca SM b 31 R nL X σ pc L (.int v :: .int x :: .ref (b + 10) :: st) := by
  subst hx
  refine z_iast C hd 0 rfl (by omega) rfl eB_m_aA (vp_in_nI hq (by decide)) ?_
  rw [nI_clamp (by omega)]
  exact z_map (uB_m_aA _) kk
theorem eB_m_aB : enc b ca SM σ 11 = .inl (ca 0, 36, .inl (σ.1 112 0 0)) := rfl
theorem uB_m_aB (g : Nat → Int32) : va_up (enc b ca SM σ) 11 (.inl (ca 0, 36, .inl g)) = enc b ca SM (upA σ (112, 0, 0) g) :=
  enc_up SM_U (c := SM[11]) rfl (by decide) offK_A (by show _ = (Sum.inl (ca 0, 36, .inl ((upA σ (112, 0, 0) g).1 112 0 0)) : va_E); rw [upA_self])
theorem lB_m_aB (C : Cs D ca cc nL own cx X) {x : Int32} {q : Nat} (hd : decode cc pc = .ok (.iaload, 1)) (hx : x = nI q) (hq : q < 36) (kk : Zs l D ca SM b 31 R nL X σ (pc + 1) L (.int (σ.1 112 0 0 q) :: st)) : Zs l D ca SM b 31 R nL X σ pc L (.int x :: .ref (b + 11) :: st) := by
  subst hx
  refine z_iald C hd 0 rfl (by omega) rfl eB_m_aB (vp_in_nI hq (by decide)) ?_
  rw [nI_clamp (by omega)]
  exact kk
theorem stB_m_aB (C : Cs D ca cc nL own cx X) {x : Int32} {v : Int32} {q : Nat} (hd : decode cc pc = .ok (.iastore, 1)) (hx : x = nI q) (hq : q < 36) (kk : Zs l D ca SM b 31 R nL X (upA σ (112, 0, 0) (upd (σ.1 112 0 0) q v)) (pc + 1) L st) : Zs l D ca SM b 31 R nL X σ pc L (.int v :: .int x :: .ref (b + 11) :: st) := by
  subst hx
  refine z_iast C hd 0 rfl (by omega) rfl eB_m_aB (vp_in_nI hq (by decide)) ?_
  rw [nI_clamp (by omega)]
  exact z_map (uB_m_aB _) kk
theorem eB_m_latched : enc b ca SM σ 12 = .inl (ca 7, 6, .inl (σ.1 113 0 0)) := rfl
theorem uB_m_latched (g : Nat → Int32) : va_up (enc b ca SM σ) 12 (.inl (ca 7, 6, .inl g)) = enc b ca SM (upA σ (113, 0, 0) g) :=
  enc_up SM_U (c := SM[12]) rfl (by decide) offK_A (by show _ = (Sum.inl (ca 7, 6, .inl ((upA σ (113, 0, 0) g).1 113 0 0)) : va_E); rw [upA_self])
theorem lB_m_latched (C : Cs D ca cc nL own cx X) {x : Int32} {q : Nat} (hd : decode cc pc = .ok (.baload, 1)) (hx : x = nI q) (hq : q < 6) (kk : Zs l D ca SM b 31 R nL X σ (pc + 1) L (.int (σ.1 113 0 0 q) :: st)) : Zs l D ca SM b 31 R nL X σ pc L (.int x :: .ref (b + 12) :: st) := by
  subst hx
  refine z_zald C hd 7 rfl (by omega) rfl eB_m_latched (vp_in_nI hq (by decide)) ?_
  rw [nI_clamp (by omega)]
  exact kk
theorem stB_m_latched (C : Cs D ca cc nL own cx X) {x : Int32} {v : Int32} {q : Nat} (hd : decode cc pc = .ok (.bastore, 1)) (hx : x = nI q) (hq : q < 6) (hv : v = 0 ∨ v = 1) (kk : Zs l D ca SM b 31 R nL X (upA σ (113, 0, 0) (upd (σ.1 113 0 0) q v)) (pc + 1) L st) : Zs l D ca SM b 31 R nL X σ pc L (.int v :: .int x :: .ref (b + 12) :: st) := by
  subst hx
  refine z_zast C hd 7 rfl (by omega) rfl eB_m_latched (vp_in_nI hq (by decide)) hv ?_
  rw [nI_clamp (by omega)]
  exact z_map (uB_m_latched _) kk
theorem eB_m_hasLast : enc b ca SM σ 13 = .inl (ca 7, 6, .inl (σ.1 114 0 0)) := rfl
theorem uB_m_hasLast (g : Nat → Int32) : va_up (enc b ca SM σ) 13 (.inl (ca 7, 6, .inl g)) = enc b ca SM (upA σ (114, 0, 0) g) :=
  enc_up SM_U (c := SM[13]) rfl (by decide) offK_A (by show _ = (Sum.inl (ca 7, 6, .inl ((upA σ (114, 0, 0) g).1 114 0 0)) : va_E); rw [upA_self])
theorem lB_m_hasLast (C : Cs D ca cc nL own cx X) {x : Int32} {q : Nat} (hd : decode cc pc = .ok (.baload, 1)) (hx : x = nI q) (hq : q < 6) (kk : Zs l D ca SM b 31 R nL X σ (pc + 1) L (.int (σ.1 114 0 0 q) :: st)) : Zs l D ca SM b 31 R nL X σ pc L (.int x :: .ref (b + 13) :: st) := by
  subst hx
  refine z_zald C hd 7 rfl (by omega) rfl eB_m_hasLast (vp_in_nI hq (by decide)) ?_
  rw [nI_clamp (by omega)]
  exact kk
theorem stB_m_hasLast (C : Cs D ca cc nL own cx X) {x : Int32} {v : Int32} {q : Nat} (hd : decode cc pc = .ok (.bastore, 1)) (hx : x = nI q) (hq : q < 6) (hv : v = 0 ∨ v = 1) (kk : Zs l D ca SM b 31 R nL X (upA σ (114, 0, 0) (upd (σ.1 114 0 0) q v)) (pc + 1) L st) : Zs l D ca SM b 31 R nL X σ pc L (.int v :: .int x :: .ref (b + 13) :: st) := by
  subst hx
  refine z_zast C hd 7 rfl (by omega) rfl eB_m_hasLast (vp_in_nI hq (by decide)) hv ?_
  rw [nI_clamp (by omega)]
  exact z_map (uB_m_hasLast _) kk
theorem eB_m_lastValue : enc b ca SM σ 14 = .inl (ca 0, 6, .inl (σ.1 115 0 0)) := rfl
theorem uB_m_lastValue (g : Nat → Int32) : va_up (enc b ca SM σ) 14 (.inl (ca 0, 6, .inl g)) = enc b ca SM (upA σ (115, 0, 0) g) :=
  enc_up SM_U (c := SM[14]) rfl (by decide) offK_A (by show _ = (Sum.inl (ca 0, 6, .inl ((upA σ (115, 0, 0) g).1 115 0 0)) : va_E); rw [upA_self])
theorem lB_m_lastValue (C : Cs D ca cc nL own cx X) {x : Int32} {q : Nat} (hd : decode cc pc = .ok (.iaload, 1)) (hx : x = nI q) (hq : q < 6) (kk : Zs l D ca SM b 31 R nL X σ (pc + 1) L (.int (σ.1 115 0 0 q) :: st)) : Zs l D ca SM b 31 R nL X σ pc L (.int x :: .ref (b + 14) :: st) := by
  subst hx
  refine z_iald C hd 0 rfl (by omega) rfl eB_m_lastValue (vp_in_nI hq (by decide)) ?_
  rw [nI_clamp (by omega)]
  exact kk
theorem stB_m_lastValue (C : Cs D ca cc nL own cx X) {x : Int32} {v : Int32} {q : Nat} (hd : decode cc pc = .ok (.iastore, 1)) (hx : x = nI q) (hq : q < 6) (kk : Zs l D ca SM b 31 R nL X (upA σ (115, 0, 0) (upd (σ.1 115 0 0) q v)) (pc + 1) L st) : Zs l D ca SM b 31 R nL X σ pc L (.int v :: .int x :: .ref (b + 14) :: st) := by
  subst hx
  refine z_iast C hd 0 rfl (by omega) rfl eB_m_lastValue (vp_in_nI hq (by decide)) ?_
  rw [nI_clamp (by omega)]
  exact z_map (uB_m_lastValue _) kk
theorem eB_m_lastSender : enc b ca SM σ 15 = .inl (ca 0, 6, .inl (σ.1 116 0 0)) := rfl
theorem uB_m_lastSender (g : Nat → Int32) : va_up (enc b ca SM σ) 15 (.inl (ca 0, 6, .inl g)) = enc b ca SM (upA σ (116, 0, 0) g) :=
  enc_up SM_U (c := SM[15]) rfl (by decide) offK_A (by show _ = (Sum.inl (ca 0, 6, .inl ((upA σ (116, 0, 0) g).1 116 0 0)) : va_E); rw [upA_self])
theorem lB_m_lastSender (C : Cs D ca cc nL own cx X) {x : Int32} {q : Nat} (hd : decode cc pc = .ok (.iaload, 1)) (hx : x = nI q) (hq : q < 6) (kk : Zs l D ca SM b 31 R nL X σ (pc + 1) L (.int (σ.1 116 0 0 q) :: st)) : Zs l D ca SM b 31 R nL X σ pc L (.int x :: .ref (b + 15) :: st) := by
  subst hx
  refine z_iald C hd 0 rfl (by omega) rfl eB_m_lastSender (vp_in_nI hq (by decide)) ?_
  rw [nI_clamp (by omega)]
  exact kk
theorem stB_m_lastSender (C : Cs D ca cc nL own cx X) {x : Int32} {v : Int32} {q : Nat} (hd : decode cc pc = .ok (.iastore, 1)) (hx : x = nI q) (hq : q < 6) (kk : Zs l D ca SM b 31 R nL X (upA σ (116, 0, 0) (upd (σ.1 116 0 0) q v)) (pc + 1) L st) : Zs l D ca SM b 31 R nL X σ pc L (.int v :: .int x :: .ref (b + 15) :: st) := by
  subst hx
  refine z_iast C hd 0 rfl (by omega) rfl eB_m_lastSender (vp_in_nI hq (by decide)) ?_
  rw [nI_clamp (by omega)]
  exact z_map (uB_m_lastSender _) kk
theorem eB_m_lastStamp : enc b ca SM σ 16 = .inl (ca 0, 6, .inl (σ.1 117 0 0)) := rfl
theorem uB_m_lastStamp (g : Nat → Int32) : va_up (enc b ca SM σ) 16 (.inl (ca 0, 6, .inl g)) = enc b ca SM (upA σ (117, 0, 0) g) :=
  enc_up SM_U (c := SM[16]) rfl (by decide) offK_A (by show _ = (Sum.inl (ca 0, 6, .inl ((upA σ (117, 0, 0) g).1 117 0 0)) : va_E); rw [upA_self])
theorem lB_m_lastStamp (C : Cs D ca cc nL own cx X) {x : Int32} {q : Nat} (hd : decode cc pc = .ok (.iaload, 1)) (hx : x = nI q) (hq : q < 6) (kk : Zs l D ca SM b 31 R nL X σ (pc + 1) L (.int (σ.1 117 0 0 q) :: st)) : Zs l D ca SM b 31 R nL X σ pc L (.int x :: .ref (b + 16) :: st) := by
  subst hx
  refine z_iald C hd 0 rfl (by omega) rfl eB_m_lastStamp (vp_in_nI hq (by decide)) ?_
  rw [nI_clamp (by omega)]
  exact kk
theorem stB_m_lastStamp (C : Cs D ca cc nL own cx X) {x : Int32} {v : Int32} {q : Nat} (hd : decode cc pc = .ok (.iastore, 1)) (hx : x = nI q) (hq : q < 6) (kk : Zs l D ca SM b 31 R nL X (upA σ (117, 0, 0) (upd (σ.1 117 0 0) q v)) (pc + 1) L st) : Zs l D ca SM b 31 R nL X σ pc L (.int v :: .int x :: .ref (b + 16) :: st) := by
  subst hx
  refine z_iast C hd 0 rfl (by omega) rfl eB_m_lastStamp (vp_in_nI hq (by decide)) ?_
  rw [nI_clamp (by omega)]
  exact z_map (uB_m_lastStamp _) kk
theorem eB_m_kept : enc b ca SM σ 17 = .inl (ca 7, 6, .inl (σ.1 118 0 0)) := rfl
theorem uB_m_kept (g : Nat → Int32) : va_up (enc b ca SM σ) 17 (.inl (ca 7, 6, .inl g)) = enc b ca SM (upA σ (118, 0, 0) g) :=
  enc_up SM_U (c := SM[17]) rfl (by decide) offK_A (by show _ = (Sum.inl (ca 7, 6, .inl ((upA σ (118, 0, 0) g).1 118 0 0)) : va_E); rw [upA_self])
theorem lB_m_kept (C : Cs D ca cc nL own cx X) {x : Int32} {q : Nat} (hd : decode cc pc = .ok (.baload, 1)) (hx : x = nI q) (hq : q < 6) (kk : Zs l D ca SM b 31 R nL X σ (pc + 1) L (.int (σ.1 118 0 0 q) :: st)) : Zs l D ca SM b 31 R nL X σ pc L (.int x :: .ref (b + 17) :: st) := by
  subst hx
  refine z_zald C hd 7 rfl (by omega) rfl eB_m_kept (vp_in_nI hq (by decide)) ?_
  rw [nI_clamp (by omega)]
  exact kk
theorem stB_m_kept (C : Cs D ca cc nL own cx X) {x : Int32} {v : Int32} {q : Nat} (hd : decode cc pc = .ok (.bastore, 1)) (hx : x = nI q) (hq : q < 6) (hv : v = 0 ∨ v = 1) (kk : Zs l D ca SM b 31 R nL X (upA σ (118, 0, 0) (upd (σ.1 118 0 0) q v)) (pc + 1) L st) : Zs l D ca SM b 31 R nL X σ pc L (.int v :: .int x :: .ref (b + 17) :: st) := by
  subst hx
  refine z_zast C hd 7 rfl (by omega) rfl eB_m_kept (vp_in_nI hq (by decide)) hv ?_
  rw [nI_clamp (by omega)]
  exact z_map (uB_m_kept _) kk
theorem eB_m_by : enc b ca SM σ 18 = .inl (ca 0, 4, .inl (σ.1 119 0 0)) := rfl
theorem uB_m_by (g : Nat → Int32) : va_up (enc b ca SM σ) 18 (.inl (ca 0, 4, .inl g)) = enc b ca SM (upA σ (119, 0, 0) g) :=
  enc_up SM_U (c := SM[18]) rfl (by decide) offK_A (by show _ = (Sum.inl (ca 0, 4, .inl ((upA σ (119, 0, 0) g).1 119 0 0)) : va_E); rw [upA_self])
theorem lB_m_by (C : Cs D ca cc nL own cx X) {x : Int32} {q : Nat} (hd : decode cc pc = .ok (.iaload, 1)) (hx : x = nI q) (hq : q < 4) (kk : Zs l D ca SM b 31 R nL X σ (pc + 1) L (.int (σ.1 119 0 0 q) :: st)) : Zs l D ca SM b 31 R nL X σ pc L (.int x :: .ref (b + 18) :: st) := by
  subst hx
  refine z_iald C hd 0 rfl (by omega) rfl eB_m_by (vp_in_nI hq (by decide)) ?_
  rw [nI_clamp (by omega)]
  exact kk
theorem stB_m_by (C : Cs D ca cc nL own cx X) {x : Int32} {v : Int32} {q : Nat} (hd : decode cc pc = .ok (.iastore, 1)) (hx : x = nI q) (hq : q < 4) (kk : Zs l D ca SM b 31 R nL X (upA σ (119, 0, 0) (upd (σ.1 119 0 0) q v)) (pc + 1) L st) : Zs l D ca SM b 31 R nL X σ pc L (.int v :: .int x :: .ref (b + 18) :: st) := by
  subst hx
  refine z_iast C hd 0 rfl (by omega) rfl eB_m_by (vp_in_nI hq (by decide)) ?_
  rw [nI_clamp (by omega)]
  exact z_map (uB_m_by _) kk
theorem eB_m_sKind : enc b ca SM σ 19 = .inl (ca 0, 4, .inl (σ.1 120 0 0)) := rfl
theorem uB_m_sKind (g : Nat → Int32) : va_up (enc b ca SM σ) 19 (.inl (ca 0, 4, .inl g)) = enc b ca SM (upA σ (120, 0, 0) g) :=
  enc_up SM_U (c := SM[19]) rfl (by decide) offK_A (by show _ = (Sum.inl (ca 0, 4, .inl ((upA σ (120, 0, 0) g).1 120 0 0)) : va_E); rw [upA_self])
theorem lB_m_sKind (C : Cs D ca cc nL own cx X) {x : Int32} {q : Nat} (hd : decode cc pc = .ok (.iaload, 1)) (hx : x = nI q) (hq : q < 4) (kk : Zs l D ca SM b 31 R nL X σ (pc + 1) L (.int (σ.1 120 0 0 q) :: st)) : Zs l D ca SM b 31 R nL X σ pc L (.int x :: .ref (b + 19) :: st) := by
  subst hx
  refine z_iald C hd 0 rfl (by omega) rfl eB_m_sKind (vp_in_nI hq (by decide)) ?_
  rw [nI_clamp (by omega)]
  exact kk
theorem stB_m_sKind (C : Cs D ca cc nL own cx X) {x : Int32} {v : Int32} {q : Nat} (hd : decode cc pc = .ok (.iastore, 1)) (hx : x = nI q) (hq : q < 4) (kk : Zs l D ca SM b 31 R nL X (upA σ (120, 0, 0) (upd (σ.1 120 0 0) q v)) (pc + 1) L st) : Zs l D ca SM b 31 R nL X σ pc L (.int v :: .int x :: .ref (b + 19) :: st) := by
  subst hx
  refine z_iast C hd 0 rfl (by omega) rfl eB_m_sKind (vp_in_nI hq (by decide)) ?_
  rw [nI_clamp (by omega)]
  exact z_map (uB_m_sKind _) kk
theorem eB_m_sC : enc b ca SM σ 20 = .inl (ca 0, 4, .inl (σ.1 121 0 0)) := rfl
theorem uB_m_sC (g : Nat → Int32) : va_up (enc b ca SM σ) 20 (.inl (ca 0, 4, .inl g)) = enc b ca SM (upA σ (121, 0, 0) g) :=
  enc_up SM_U (c := SM[20]) rfl (by decide) offK_A (by show _ = (Sum.inl (ca 0, 4, .inl ((upA σ (121, 0, 0) g).1 121 0 0)) : va_E); rw [upA_self])
theorem lB_m_sC (C : Cs D ca cc nL own cx X) {x : Int32} {q : Nat} (hd : decode cc pc = .ok (.iaload, 1)) (hx : x = nI q) (hq : q < 4) (kk : Zs l D ca SM b 31 R nL X σ (pc + 1) L (.int (σ.1 121 0 0 q) :: st)) : Zs l D ca SM b 31 R nL X σ pc L (.int x :: .ref (b + 20) :: st) := by
  subst hx
  refine z_iald C hd 0 rfl (by omega) rfl eB_m_sC (vp_in_nI hq (by decide)) ?_
  rw [nI_clamp (by omega)]
  exact kk
theorem stB_m_sC (C : Cs D ca cc nL own cx X) {x : Int32} {v : Int32} {q : Nat} (hd : decode cc pc = .ok (.iastore, 1)) (hx : x = nI q) (hq : q < 4) (kk : Zs l D ca SM b 31 R nL X (upA σ (121, 0, 0) (upd (σ.1 121 0 0) q v)) (pc + 1) L st) : Zs l D ca SM b 31 R nL X σ pc L (.int v :: .int x :: .ref (b + 20) :: st) := by
  subst hx
  refine z_iast C hd 0 rfl (by omega) rfl eB_m_sC (vp_in_nI hq (by decide)) ?_
  rw [nI_clamp (by omega)]
  exact z_map (uB_m_sC _) kk
theorem eB_m_sD : enc b ca SM σ 21 = .inl (ca 0, 4, .inl (σ.1 122 0 0)) := rfl
theorem uB_m_sD (g : Nat → Int32) : va_up (enc b ca SM σ) 21 (.inl (ca 0, 4, .inl g)) = enc b ca SM (upA σ (122, 0, 0) g) :=
  enc_up SM_U (c := SM[21]) rfl (by decide) offK_A (by show _ = (Sum.inl (ca 0, 4, .inl ((upA σ (122, 0, 0) g).1 122 0 0)) : va_E); rw [upA_self])
theorem lB_m_sD (C : Cs D ca cc nL own cx X) {x : Int32} {q : Nat} (hd : decode cc pc = .ok (.iaload, 1)) (hx : x = nI q) (hq : q < 4) (kk : Zs l D ca SM b 31 R nL X σ (pc + 1) L (.int (σ.1 122 0 0 q) :: st)) : Zs l D ca SM b 31 R nL X σ pc L (.int x :: .ref (b + 21) :: st) := by
  subst hx
  refine z_iald C hd 0 rfl (by omega) rfl eB_m_sD (vp_in_nI hq (by decide)) ?_
  rw [nI_clamp (by omega)]
  exact kk
theorem stB_m_sD (C : Cs D ca cc nL own cx X) {x : Int32} {v : Int32} {q : Nat} (hd : decode cc pc = .ok (.iastore, 1)) (hx : x = nI q) (hq : q < 4) (kk : Zs l D ca SM b 31 R nL X (upA σ (122, 0, 0) (upd (σ.1 122 0 0) q v)) (pc + 1) L st) : Zs l D ca SM b 31 R nL X σ pc L (.int v :: .int x :: .ref (b + 21) :: st) := by
  subst hx
  refine z_iast C hd 0 rfl (by omega) rfl eB_m_sD (vp_in_nI hq (by decide)) ?_
  rw [nI_clamp (by omega)]
  exact z_map (uB_m_sD _) kk
theorem eB_m_bagTime : enc b ca SM σ 22 = .inl (ca 0, 30, .inl (σ.1 123 0 0)) := rfl
theorem uB_m_bagTime (g : Nat → Int32) : va_up (enc b ca SM σ) 22 (.inl (ca 0, 30, .inl g)) = enc b ca SM (upA σ (123, 0, 0) g) :=
  enc_up SM_U (c := SM[22]) rfl (by decide) offK_A (by show _ = (Sum.inl (ca 0, 30, .inl ((upA σ (123, 0, 0) g).1 123 0 0)) : va_E); rw [upA_self])
theorem lB_m_bagTime (C : Cs D ca cc nL own cx X) {x : Int32} {q : Nat} (hd : decode cc pc = .ok (.iaload, 1)) (hx : x = nI q) (hq : q < 30) (kk : Zs l D ca SM b 31 R nL X σ (pc + 1) L (.int (σ.1 123 0 0 q) :: st)) : Zs l D ca SM b 31 R nL X σ pc L (.int x :: .ref (b + 22) :: st) := by
  subst hx
  refine z_iald C hd 0 rfl (by omega) rfl eB_m_bagTime (vp_in_nI hq (by decide)) ?_
  rw [nI_clamp (by omega)]
  exact kk
theorem stB_m_bagTime (C : Cs D ca cc nL own cx X) {x : Int32} {v : Int32} {q : Nat} (hd : decode cc pc = .ok (.iastore, 1)) (hx : x = nI q) (hq : q < 30) (kk : Zs l D ca SM b 31 R nL X (upA σ (123, 0, 0) (upd (σ.1 123 0 0) q v)) (pc + 1) L st) : Zs l D ca SM b 31 R nL X σ pc L (.int v :: .int x :: .ref (b + 22) :: st) := by
  subst hx
  refine z_iast C hd 0 rfl (by omega) rfl eB_m_bagTime (vp_in_nI hq (by decide)) ?_
  rw [nI_clamp (by omega)]
  exact z_map (uB_m_bagTime _) kk
theorem eB_m_bagTopic : enc b ca SM σ 23 = .inl (ca 0, 30, .inl (σ.1 124 0 0)) := rfl
theorem uB_m_bagTopic (g : Nat → Int32) : va_up (enc b ca SM σ) 23 (.inl (ca 0, 30, .inl g)) = enc b ca SM (upA σ (124, 0, 0) g) :=
  enc_up SM_U (c := SM[23]) rfl (by decide) offK_A (by show _ = (Sum.inl (ca 0, 30, .inl ((upA σ (124, 0, 0) g).1 124 0 0)) : va_E); rw [upA_self])
theorem lB_m_bagTopic (C : Cs D ca cc nL own cx X) {x : Int32} {q : Nat} (hd : decode cc pc = .ok (.iaload, 1)) (hx : x = nI q) (hq : q < 30) (kk : Zs l D ca SM b 31 R nL X σ (pc + 1) L (.int (σ.1 124 0 0 q) :: st)) : Zs l D ca SM b 31 R nL X σ pc L (.int x :: .ref (b + 23) :: st) := by
  subst hx
  refine z_iald C hd 0 rfl (by omega) rfl eB_m_bagTopic (vp_in_nI hq (by decide)) ?_
  rw [nI_clamp (by omega)]
  exact kk
theorem stB_m_bagTopic (C : Cs D ca cc nL own cx X) {x : Int32} {v : Int32} {q : Nat} (hd : decode cc pc = .ok (.iastore, 1)) (hx : x = nI q) (hq : q < 30) (kk : Zs l D ca SM b 31 R nL X (upA σ (124, 0, 0) (upd (σ.1 124 0 0) q v)) (pc + 1) L st) : Zs l D ca SM b 31 R nL X σ pc L (.int v :: .int x :: .ref (b + 23) :: st) := by
  subst hx
  refine z_iast C hd 0 rfl (by omega) rfl eB_m_bagTopic (vp_in_nI hq (by decide)) ?_
  rw [nI_clamp (by omega)]
  exact z_map (uB_m_bagTopic _) kk
theorem eB_m_bagValue : enc b ca SM σ 24 = .inl (ca 0, 30, .inl (σ.1 125 0 0)) := rfl
theorem uB_m_bagValue (g : Nat → Int32) : va_up (enc b ca SM σ) 24 (.inl (ca 0, 30, .inl g)) = enc b ca SM (upA σ (125, 0, 0) g) :=
  enc_up SM_U (c := SM[24]) rfl (by decide) offK_A (by show _ = (Sum.inl (ca 0, 30, .inl ((upA σ (125, 0, 0) g).1 125 0 0)) : va_E); rw [upA_self])
theorem lB_m_bagValue (C : Cs D ca cc nL own cx X) {x : Int32} {q : Nat} (hd : decode cc pc = .ok (.iaload, 1)) (hx : x = nI q) (hq : q < 30) (kk : Zs l D ca SM b 31 R nL X σ (pc + 1) L (.int (σ.1 125 0 0 q) :: st)) : Zs l D ca SM b 31 R nL X σ pc L (.int x :: .ref (b + 24) :: st) := by
  subst hx
  refine z_iald C hd 0 rfl (by omega) rfl eB_m_bagValue (vp_in_nI hq (by decide)) ?_
  rw [nI_clamp (by omega)]
  exact kk
theorem stB_m_bagValue (C : Cs D ca cc nL own cx X) {x : Int32} {v : Int32} {q : Nat} (hd : decode cc pc = .ok (.iastore, 1)) (hx : x = nI q) (hq : q < 30) (kk : Zs l D ca SM b 31 R nL X (upA σ (125, 0, 0) (upd (σ.1 125 0 0) q v)) (pc + 1) L st) : Zs l D ca SM b 31 R nL X σ pc L (.int v :: .int x :: .ref (b + 24) :: st) := by
  subst hx
  refine z_iast C hd 0 rfl (by omega) rfl eB_m_bagValue (vp_in_nI hq (by decide)) ?_
  rw [nI_clamp (by omega)]
  exact z_map (uB_m_bagValue _) kk
theorem eB_m_parent : enc b ca SM σ 25 = .inl (ca 0, 6, .inl (σ.1 132 0 0)) := rfl
theorem uB_m_parent (g : Nat → Int32) : va_up (enc b ca SM σ) 25 (.inl (ca 0, 6, .inl g)) = enc b ca SM (upA σ (132, 0, 0) g) :=
  enc_up SM_U (c := SM[25]) rfl (by decide) offK_A (by show _ = (Sum.inl (ca 0, 6, .inl ((upA σ (132, 0, 0) g).1 132 0 0)) : va_E); rw [upA_self])
theorem lB_m_parent (C : Cs D ca cc nL own cx X) {x : Int32} {q : Nat} (hd : decode cc pc = .ok (.iaload, 1)) (hx : x = nI q) (hq : q < 6) (kk : Zs l D ca SM b 31 R nL X σ (pc + 1) L (.int (σ.1 132 0 0 q) :: st)) : Zs l D ca SM b 31 R nL X σ pc L (.int x :: .ref (b + 25) :: st) := by
  subst hx
  refine z_iald C hd 0 rfl (by omega) rfl eB_m_parent (vp_in_nI hq (by decide)) ?_
  rw [nI_clamp (by omega)]
  exact kk
theorem stB_m_parent (C : Cs D ca cc nL own cx X) {x : Int32} {v : Int32} {q : Nat} (hd : decode cc pc = .ok (.iastore, 1)) (hx : x = nI q) (hq : q < 6) (kk : Zs l D ca SM b 31 R nL X (upA σ (132, 0, 0) (upd (σ.1 132 0 0) q v)) (pc + 1) L st) : Zs l D ca SM b 31 R nL X σ pc L (.int v :: .int x :: .ref (b + 25) :: st) := by
  subst hx
  refine z_iast C hd 0 rfl (by omega) rfl eB_m_parent (vp_in_nI hq (by decide)) ?_
  rw [nI_clamp (by omega)]
  exact z_map (uB_m_parent _) kk
theorem eB_m_samples : enc b ca SM σ 26 = .inl (ca 0, 6, .inl (σ.1 133 0 0)) := rfl
theorem uB_m_samples (g : Nat → Int32) : va_up (enc b ca SM σ) 26 (.inl (ca 0, 6, .inl g)) = enc b ca SM (upA σ (133, 0, 0) g) :=
  enc_up SM_U (c := SM[26]) rfl (by decide) offK_A (by show _ = (Sum.inl (ca 0, 6, .inl ((upA σ (133, 0, 0) g).1 133 0 0)) : va_E); rw [upA_self])
theorem lB_m_samples (C : Cs D ca cc nL own cx X) {x : Int32} {q : Nat} (hd : decode cc pc = .ok (.iaload, 1)) (hx : x = nI q) (hq : q < 6) (kk : Zs l D ca SM b 31 R nL X σ (pc + 1) L (.int (σ.1 133 0 0 q) :: st)) : Zs l D ca SM b 31 R nL X σ pc L (.int x :: .ref (b + 26) :: st) := by
  subst hx
  refine z_iald C hd 0 rfl (by omega) rfl eB_m_samples (vp_in_nI hq (by decide)) ?_
  rw [nI_clamp (by omega)]
  exact kk
theorem stB_m_samples (C : Cs D ca cc nL own cx X) {x : Int32} {v : Int32} {q : Nat} (hd : decode cc pc = .ok (.iastore, 1)) (hx : x = nI q) (hq : q < 6) (kk : Zs l D ca SM b 31 R nL X (upA σ (133, 0, 0) (upd (σ.1 133 0 0) q v)) (pc + 1) L st) : Zs l D ca SM b 31 R nL X σ pc L (.int v :: .int x :: .ref (b + 26) :: st) := by
  subst hx
  refine z_iast C hd 0 rfl (by omega) rfl eB_m_samples (vp_in_nI hq (by decide)) ?_
  rw [nI_clamp (by omega)]
  exact z_map (uB_m_samples _) kk
theorem eB_m_sTime : enc b ca SM σ 27 = .inl (ca 0, 24, .inl (σ.1 134 0 0)) := rfl
theorem uB_m_sTime (g : Nat → Int32) : va_up (enc b ca SM σ) 27 (.inl (ca 0, 24, .inl g)) = enc b ca SM (upA σ (134, 0, 0) g) :=
  enc_up SM_U (c := SM[27]) rfl (by decide) offK_A (by show _ = (Sum.inl (ca 0, 24, .inl ((upA σ (134, 0, 0) g).1 134 0 0)) : va_E); rw [upA_self])
theorem lB_m_sTime (C : Cs D ca cc nL own cx X) {x : Int32} {q : Nat} (hd : decode cc pc = .ok (.iaload, 1)) (hx : x = nI q) (hq : q < 24) (kk : Zs l D ca SM b 31 R nL X σ (pc + 1) L (.int (σ.1 134 0 0 q) :: st)) : Zs l D ca SM b 31 R nL X σ pc L (.int x :: .ref (b + 27) :: st) := by
  subst hx
  refine z_iald C hd 0 rfl (by omega) rfl eB_m_sTime (vp_in_nI hq (by decide)) ?_
  rw [nI_clamp (by omega)]
  exact kk
theorem stB_m_sTime (C : Cs D ca cc nL own cx X) {x : Int32} {v : Int32} {q : Nat} (hd : decode cc pc = .ok (.iastore, 1)) (hx : x = nI q) (hq : q < 24) (kk : Zs l D ca SM b 31 R nL X (upA σ (134, 0, 0) (upd (σ.1 134 0 0) q v)) (pc + 1) L st) : Zs l D ca SM b 31 R nL X σ pc L (.int v :: .int x :: .ref (b + 27) :: st) := by
  subst hx
  refine z_iast C hd 0 rfl (by omega) rfl eB_m_sTime (vp_in_nI hq (by decide)) ?_
  rw [nI_clamp (by omega)]
  exact z_map (uB_m_sTime _) kk
theorem eB_m_sX : enc b ca SM σ 28 = .inl (ca 8, 24, .inr (.inl (σ.2.2 135 0 0))) := rfl
theorem uB_m_sX (g : Nat → Int64) : va_up (enc b ca SM σ) 28 (.inl (ca 8, 24, .inr (.inl g))) = enc b ca SM (upL σ (135, 0, 0) g) :=
  enc_up SM_U (c := SM[28]) rfl (by decide) offK_L (by show _ = (Sum.inl (ca 8, 24, .inr (.inl ((upL σ (135, 0, 0) g).2.2 135 0 0))) : va_E); rw [upL_self])
theorem lB_m_sX (C : Cs D ca cc nL own cx X) {x : Int32} {q : Nat} (hd : decode cc pc = .ok (.laload, 1)) (hx : x = nI q) (hq : q < 24) (kk : Zs l D ca SM b 31 R nL X σ (pc + 1) L (.long (σ.2.2 135 0 0 q) :: st)) : Zs l D ca SM b 31 R nL X σ pc L (.int x :: .ref (b + 28) :: st) := by
  subst hx
  refine z_lald C hd 8 rfl (by omega) rfl eB_m_sX (vp_in_nI hq (by decide)) ?_
  rw [nI_clamp (by omega)]
  exact kk
theorem stB_m_sX (C : Cs D ca cc nL own cx X) {x : Int32} {v : Int64} {q : Nat} (hd : decode cc pc = .ok (.lastore, 1)) (hx : x = nI q) (hq : q < 24) (kk : Zs l D ca SM b 31 R nL X (upL σ (135, 0, 0) (vp_updL (σ.2.2 135 0 0) q v)) (pc + 1) L st) : Zs l D ca SM b 31 R nL X σ pc L (.long v :: .int x :: .ref (b + 28) :: st) := by
  subst hx
  refine z_last C hd 8 rfl (by omega) rfl eB_m_sX (vp_in_nI hq (by decide)) ?_
  rw [nI_clamp (by omega)]
  exact z_map (uB_m_sX _) kk
theorem eB_m_sY : enc b ca SM σ 29 = .inl (ca 8, 24, .inr (.inl (σ.2.2 136 0 0))) := rfl
theorem uB_m_sY (g : Nat → Int64) : va_up (enc b ca SM σ) 29 (.inl (ca 8, 24, .inr (.inl g))) = enc b ca SM (upL σ (136, 0, 0) g) :=
  enc_up SM_U (c := SM[29]) rfl (by decide) offK_L (by show _ = (Sum.inl (ca 8, 24, .inr (.inl ((upL σ (136, 0, 0) g).2.2 136 0 0))) : va_E); rw [upL_self])
theorem lB_m_sY (C : Cs D ca cc nL own cx X) {x : Int32} {q : Nat} (hd : decode cc pc = .ok (.laload, 1)) (hx : x = nI q) (hq : q < 24) (kk : Zs l D ca SM b 31 R nL X σ (pc + 1) L (.long (σ.2.2 136 0 0 q) :: st)) : Zs l D ca SM b 31 R nL X σ pc L (.int x :: .ref (b + 29) :: st) := by
  subst hx
  refine z_lald C hd 8 rfl (by omega) rfl eB_m_sY (vp_in_nI hq (by decide)) ?_
  rw [nI_clamp (by omega)]
  exact kk
theorem stB_m_sY (C : Cs D ca cc nL own cx X) {x : Int32} {v : Int64} {q : Nat} (hd : decode cc pc = .ok (.lastore, 1)) (hx : x = nI q) (hq : q < 24) (kk : Zs l D ca SM b 31 R nL X (upL σ (136, 0, 0) (vp_updL (σ.2.2 136 0 0) q v)) (pc + 1) L st) : Zs l D ca SM b 31 R nL X σ pc L (.long v :: .int x :: .ref (b + 29) :: st) := by
  subst hx
  refine z_last C hd 8 rfl (by omega) rfl eB_m_sY (vp_in_nI hq (by decide)) ?_
  rw [nI_clamp (by omega)]
  exact z_map (uB_m_sY _) kk
theorem eB_m_sTurn : enc b ca SM σ 30 = .inl (ca 0, 24, .inl (σ.1 137 0 0)) := rfl
theorem uB_m_sTurn (g : Nat → Int32) : va_up (enc b ca SM σ) 30 (.inl (ca 0, 24, .inl g)) = enc b ca SM (upA σ (137, 0, 0) g) :=
  enc_up SM_U (c := SM[30]) rfl (by decide) offK_A (by show _ = (Sum.inl (ca 0, 24, .inl ((upA σ (137, 0, 0) g).1 137 0 0)) : va_E); rw [upA_self])
theorem lB_m_sTurn (C : Cs D ca cc nL own cx X) {x : Int32} {q : Nat} (hd : decode cc pc = .ok (.iaload, 1)) (hx : x = nI q) (hq : q < 24) (kk : Zs l D ca SM b 31 R nL X σ (pc + 1) L (.int (σ.1 137 0 0 q) :: st)) : Zs l D ca SM b 31 R nL X σ pc L (.int x :: .ref (b + 30) :: st) := by
  subst hx
  refine z_iald C hd 0 rfl (by omega) rfl eB_m_sTurn (vp_in_nI hq (by decide)) ?_
  rw [nI_clamp (by omega)]
  exact kk
theorem stB_m_sTurn (C : Cs D ca cc nL own cx X) {x : Int32} {v : Int32} {q : Nat} (hd : decode cc pc = .ok (.iastore, 1)) (hx : x = nI q) (hq : q < 24) (kk : Zs l D ca SM b 31 R nL X (upA σ (137, 0, 0) (upd (σ.1 137 0 0) q v)) (pc + 1) L st) : Zs l D ca SM b 31 R nL X σ pc L (.int v :: .int x :: .ref (b + 30) :: st) := by
  subst hx
  refine z_iast C hd 0 rfl (by omega) rfl eB_m_sTurn (vp_in_nI hq (by decide)) ?_
  rw [nI_clamp (by omega)]
  exact z_map (uB_m_sTurn _) kk
end MDLROWS
