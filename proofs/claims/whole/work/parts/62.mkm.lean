set_option maxRecDepth 100000 in
set_option maxHeartbeats 4000000 in
theorem c_Mdl_init (l : Launch) (D : va_G) (ca : Nat → ClassId) : CtN l D ca y_Mdl_init w_Mdl_init (rmK 1 20 30 898) 9 [.int 0, .int 0, .null, .null, .null, .null, .null, .null, .null, .null, .null, .null, .null, .null, .null, .null, .null, .null, .null, .null, .null, .null, .null, .null, .null, .null, .int 0, .int 0, .int 0, .int 0, .int 0, .int 0, .null, .null, .null, .null, .null, .null, .long 0, .long 0, .double FP.dconst0, .int 0, .int 0, .int 0, .int 0, .int 0] 31 (fun a => enc a ca SM τ0) 30 898 := by
  refine ct_n "RobotBusModel" (by decide) rfl rfl (by decide) (by decide) (fun a X C hI hmn hX0 hret => ?_)
  have hX : ∀ j, Xs X a (1 + j) j := fun j => ⟨by have := hX0.1; omega, Or.inl (by omega)⟩
  refine z_congr (M' := va_up (enc a ca SM (τt 0)) 0 (.inr (9, [.int 0, .int 0, .null, .null, .null, .null, .null, .null, .null, .null, .null, .null, .null, .null, .null, .null, .null, .null, .null, .null, .null, .null, .null, .null, .null, .null, .int 0, .int 0, .int 0, .int 0, .int 0, .int 0, .null, .null, .null, .null, .null, .null, .long 0, .long 0, .double FP.dconst0, .int 0, .int 0, .int 0, .int 0, .int 0]))) it_0 ?_
  refine z_aload_n C d_Mdl_init_0 rfl 0 rfl ?_
  refine y_obj C d_Mdl_init_1 (List.mem_cons_of_mem _ tw_738) (List.mem_cons_of_mem _ tw_27) (List.mem_cons_of_mem _ tw_28) ⟨by decide, by decide⟩ (by decide) ?_
  refine z_aload_n C d_Mdl_init_4 rfl 0 rfl ?_
  refine z_bipush C (v := 6) d_Mdl_init_5 (by decide) ?_
  refine y_newa C (a0 := (6, .inl (fun _ => 0))) (N := 6) (t0 := 7) (cA := ca 7) d_Mdl_init_7 (List.mem_cons_of_mem _ tw_878) rfl rfl (fun _ _ h => h) (by decide) (by decide) (by decide) (hX 0) ⟨by decide, by decide⟩ ?_
  refine y_putF C (T := F_Mdl) (N := 46) (ci := 9) (o := 0) (ty := (.array .boolean)) d_Mdl_init_9 (fun w h => List.mem_cons_of_mem _ (in_Mdl w h)) tk_Mdl n_Mdl rfl 2 (by decide) (List.mem_cons_of_mem _ tw_741) rfl hmn rfl (by decide +kernel) rfl rfl (Nat.le_of_ble_eq_true rfl) rfl rfl (Nat.le_of_ble_eq_true rfl) ?_
  refine z_congr (M' := va_up (enc a ca SM (τt 0)) 0 (.inr (9, [.int 0, .int 0, .ref (a + 1), .null, .null, .null, .null, .null, .null, .null, .null, .null, .null, .null, .null, .null, .null, .null, .null, .null, .null, .null, .null, .null, .null, .null, .int 0, .int 0, .int 0, .int 0, .int 0, .int 0, .null, .null, .null, .null, .null, .null, .long 0, .long 0, .double FP.dconst0, .int 0, .int 0, .int 0, .int 0, .int 0]))) (it_m (n := 1) (Nat.le_of_ble_eq_true rfl) rfl rfl) ?_
  refine z_aload_n C d_Mdl_init_12 rfl 0 rfl ?_
  refine z_bipush C (v := 24) d_Mdl_init_13 (by decide) ?_
  refine y_newa C (a0 := (24, .inl (fun _ => 0))) (N := 24) (t0 := 0) (cA := ca 0) d_Mdl_init_15 (List.mem_cons_of_mem _ tw_71) rfl rfl (fun _ _ h => h) (by decide) (by decide) (by decide) (hX 1) ⟨by decide, by decide⟩ ?_
  refine y_putF C (T := F_Mdl) (N := 46) (ci := 9) (o := 0) (ty := (.array .int)) d_Mdl_init_17 (fun w h => List.mem_cons_of_mem _ (in_Mdl w h)) tk_Mdl n_Mdl rfl 3 (by decide) (List.mem_cons_of_mem _ tw_742) rfl hmn rfl (by decide +kernel) rfl rfl (Nat.le_of_ble_eq_true rfl) rfl rfl (Nat.le_of_ble_eq_true rfl) ?_
  refine z_congr (M' := va_up (enc a ca SM (τt 0)) 0 (.inr (9, [.int 0, .int 0, .ref (a + 1), .ref (a + 2), .null, .null, .null, .null, .null, .null, .null, .null, .null, .null, .null, .null, .null, .null, .null, .null, .null, .null, .null, .null, .null, .null, .int 0, .int 0, .int 0, .int 0, .int 0, .int 0, .null, .null, .null, .null, .null, .null, .long 0, .long 0, .double FP.dconst0, .int 0, .int 0, .int 0, .int 0, .int 0]))) (it_m (n := 2) (Nat.le_of_ble_eq_true rfl) rfl rfl) ?_
  refine z_aload_n C d_Mdl_init_20 rfl 0 rfl ?_
  refine z_bipush C (v := 6) d_Mdl_init_21 (by decide) ?_
  refine y_newa C (a0 := (6, .inl (fun _ => 0))) (N := 6) (t0 := 0) (cA := ca 0) d_Mdl_init_23 (List.mem_cons_of_mem _ tw_71) rfl rfl (fun _ _ h => h) (by decide) (by decide) (by decide) (hX 2) ⟨by decide, by decide⟩ ?_
  refine y_putF C (T := F_Mdl) (N := 46) (ci := 9) (o := 0) (ty := (.array .int)) d_Mdl_init_25 (fun w h => List.mem_cons_of_mem _ (in_Mdl w h)) tk_Mdl n_Mdl rfl 4 (by decide) (List.mem_cons_of_mem _ tw_743) rfl hmn rfl (by decide +kernel) rfl rfl (Nat.le_of_ble_eq_true rfl) rfl rfl (Nat.le_of_ble_eq_true rfl) ?_
  refine z_congr (M' := va_up (enc a ca SM (τt 0)) 0 (.inr (9, [.int 0, .int 0, .ref (a + 1), .ref (a + 2), .ref (a + 3), .null, .null, .null, .null, .null, .null, .null, .null, .null, .null, .null, .null, .null, .null, .null, .null, .null, .null, .null, .null, .null, .int 0, .int 0, .int 0, .int 0, .int 0, .int 0, .null, .null, .null, .null, .null, .null, .long 0, .long 0, .double FP.dconst0, .int 0, .int 0, .int 0, .int 0, .int 0]))) (it_m (n := 3) (Nat.le_of_ble_eq_true rfl) rfl rfl) ?_
  refine z_aload_n C d_Mdl_init_28 rfl 0 rfl ?_
  refine z_bipush C (v := 36) d_Mdl_init_29 (by decide) ?_
  refine y_newa C (a0 := (36, .inl (fun _ => 0))) (N := 36) (t0 := 0) (cA := ca 0) d_Mdl_init_31 (List.mem_cons_of_mem _ tw_71) rfl rfl (fun _ _ h => h) (by decide) (by decide) (by decide) (hX 3) ⟨by decide, by decide⟩ ?_
  refine y_putF C (T := F_Mdl) (N := 46) (ci := 9) (o := 0) (ty := (.array .int)) d_Mdl_init_33 (fun w h => List.mem_cons_of_mem _ (in_Mdl w h)) tk_Mdl n_Mdl rfl 5 (by decide) (List.mem_cons_of_mem _ tw_744) rfl hmn rfl (by decide +kernel) rfl rfl (Nat.le_of_ble_eq_true rfl) rfl rfl (Nat.le_of_ble_eq_true rfl) ?_
  refine z_congr (M' := va_up (enc a ca SM (τt 0)) 0 (.inr (9, [.int 0, .int 0, .ref (a + 1), .ref (a + 2), .ref (a + 3), .ref (a + 4), .null, .null, .null, .null, .null, .null, .null, .null, .null, .null, .null, .null, .null, .null, .null, .null, .null, .null, .null, .null, .int 0, .int 0, .int 0, .int 0, .int 0, .int 0, .null, .null, .null, .null, .null, .null, .long 0, .long 0, .double FP.dconst0, .int 0, .int 0, .int 0, .int 0, .int 0]))) (it_m (n := 4) (Nat.le_of_ble_eq_true rfl) rfl rfl) ?_
  refine z_aload_n C d_Mdl_init_36 rfl 0 rfl ?_
  refine z_bipush C (v := 36) d_Mdl_init_37 (by decide) ?_
  refine y_newa C (a0 := (36, .inl (fun _ => 0))) (N := 36) (t0 := 0) (cA := ca 0) d_Mdl_init_39 (List.mem_cons_of_mem _ tw_71) rfl rfl (fun _ _ h => h) (by decide) (by decide) (by decide) (hX 4) ⟨by decide, by decide⟩ ?_
  refine y_putF C (T := F_Mdl) (N := 46) (ci := 9) (o := 0) (ty := (.array .int)) d_Mdl_init_41 (fun w h => List.mem_cons_of_mem _ (in_Mdl w h)) tk_Mdl n_Mdl rfl 6 (by decide) (List.mem_cons_of_mem _ tw_745) rfl hmn rfl (by decide +kernel) rfl rfl (Nat.le_of_ble_eq_true rfl) rfl rfl (Nat.le_of_ble_eq_true rfl) ?_
  refine z_congr (M' := va_up (enc a ca SM (τt 0)) 0 (.inr (9, [.int 0, .int 0, .ref (a + 1), .ref (a + 2), .ref (a + 3), .ref (a + 4), .ref (a + 5), .null, .null, .null, .null, .null, .null, .null, .null, .null, .null, .null, .null, .null, .null, .null, .null, .null, .null, .null, .int 0, .int 0, .int 0, .int 0, .int 0, .int 0, .null, .null, .null, .null, .null, .null, .long 0, .long 0, .double FP.dconst0, .int 0, .int 0, .int 0, .int 0, .int 0]))) (it_m (n := 5) (Nat.le_of_ble_eq_true rfl) rfl rfl) ?_
  refine z_aload_n C d_Mdl_init_44 rfl 0 rfl ?_
  refine z_sipush C (v := 144) d_Mdl_init_45 (by decide) ?_
  refine y_newa C (a0 := (144, .inl (fun _ => 0))) (N := 144) (t0 := 0) (cA := ca 0) d_Mdl_init_48 (List.mem_cons_of_mem _ tw_71) rfl rfl (fun _ _ h => h) (by decide) (by decide) (by decide) (hX 5) ⟨by decide, by decide⟩ ?_
  refine y_putF C (T := F_Mdl) (N := 46) (ci := 9) (o := 0) (ty := (.array .int)) d_Mdl_init_50 (fun w h => List.mem_cons_of_mem _ (in_Mdl w h)) tk_Mdl n_Mdl rfl 7 (by decide) (List.mem_cons_of_mem _ tw_746) rfl hmn rfl (by decide +kernel) rfl rfl (Nat.le_of_ble_eq_true rfl) rfl rfl (Nat.le_of_ble_eq_true rfl) ?_
  refine z_congr (M' := va_up (enc a ca SM (τt 0)) 0 (.inr (9, [.int 0, .int 0, .ref (a + 1), .ref (a + 2), .ref (a + 3), .ref (a + 4), .ref (a + 5), .ref (a + 6), .null, .null, .null, .null, .null, .null, .null, .null, .null, .null, .null, .null, .null, .null, .null, .null, .null, .null, .int 0, .int 0, .int 0, .int 0, .int 0, .int 0, .null, .null, .null, .null, .null, .null, .long 0, .long 0, .double FP.dconst0, .int 0, .int 0, .int 0, .int 0, .int 0]))) (it_m (n := 6) (Nat.le_of_ble_eq_true rfl) rfl rfl) ?_
  refine z_aload_n C d_Mdl_init_53 rfl 0 rfl ?_
  refine z_sipush C (v := 144) d_Mdl_init_54 (by decide) ?_
  refine y_newa C (a0 := (144, .inl (fun _ => 0))) (N := 144) (t0 := 0) (cA := ca 0) d_Mdl_init_57 (List.mem_cons_of_mem _ tw_71) rfl rfl (fun _ _ h => h) (by decide) (by decide) (by decide) (hX 6) ⟨by decide, by decide⟩ ?_
  refine y_putF C (T := F_Mdl) (N := 46) (ci := 9) (o := 0) (ty := (.array .int)) d_Mdl_init_59 (fun w h => List.mem_cons_of_mem _ (in_Mdl w h)) tk_Mdl n_Mdl rfl 8 (by decide) (List.mem_cons_of_mem _ tw_747) rfl hmn rfl (by decide +kernel) rfl rfl (Nat.le_of_ble_eq_true rfl) rfl rfl (Nat.le_of_ble_eq_true rfl) ?_
  refine z_congr (M' := va_up (enc a ca SM (τt 0)) 0 (.inr (9, [.int 0, .int 0, .ref (a + 1), .ref (a + 2), .ref (a + 3), .ref (a + 4), .ref (a + 5), .ref (a + 6), .ref (a + 7), .null, .null, .null, .null, .null, .null, .null, .null, .null, .null, .null, .null, .null, .null, .null, .null, .null, .int 0, .int 0, .int 0, .int 0, .int 0, .int 0, .null, .null, .null, .null, .null, .null, .long 0, .long 0, .double FP.dconst0, .int 0, .int 0, .int 0, .int 0, .int 0]))) (it_m (n := 7) (Nat.le_of_ble_eq_true rfl) rfl rfl) ?_
  refine z_aload_n C d_Mdl_init_62 rfl 0 rfl ?_
  refine z_sipush C (v := 144) d_Mdl_init_63 (by decide) ?_
  refine y_newa C (a0 := (144, .inl (fun _ => 0))) (N := 144) (t0 := 0) (cA := ca 0) d_Mdl_init_66 (List.mem_cons_of_mem _ tw_71) rfl rfl (fun _ _ h => h) (by decide) (by decide) (by decide) (hX 7) ⟨by decide, by decide⟩ ?_
  refine y_putF C (T := F_Mdl) (N := 46) (ci := 9) (o := 0) (ty := (.array .int)) d_Mdl_init_68 (fun w h => List.mem_cons_of_mem _ (in_Mdl w h)) tk_Mdl n_Mdl rfl 9 (by decide) (List.mem_cons_of_mem _ tw_748) rfl hmn rfl (by decide +kernel) rfl rfl (Nat.le_of_ble_eq_true rfl) rfl rfl (Nat.le_of_ble_eq_true rfl) ?_
  refine z_congr (M' := va_up (enc a ca SM (τt 0)) 0 (.inr (9, [.int 0, .int 0, .ref (a + 1), .ref (a + 2), .ref (a + 3), .ref (a + 4), .ref (a + 5), .ref (a + 6), .ref (a + 7), .ref (a + 8), .null, .null, .null, .null, .null, .null, .null, .null, .null, .null, .null, .null, .null, .null, .null, .null, .int 0, .int 0, .int 0, .int 0, .int 0, .int 0, .null, .null, .null, .null, .null, .null, .long 0, .long 0, .double FP.dconst0, .int 0, .int 0, .int 0, .int 0, .int 0]))) (it_m (n := 8) (Nat.le_of_ble_eq_true rfl) rfl rfl) ?_
  refine z_aload_n C d_Mdl_init_71 rfl 0 rfl ?_
  refine z_bipush C (v := 36) d_Mdl_init_72 (by decide) ?_
  refine y_newa C (a0 := (36, .inl (fun _ => 0))) (N := 36) (t0 := 0) (cA := ca 0) d_Mdl_init_74 (List.mem_cons_of_mem _ tw_71) rfl rfl (fun _ _ h => h) (by decide) (by decide) (by decide) (hX 8) ⟨by decide, by decide⟩ ?_
  refine y_putF C (T := F_Mdl) (N := 46) (ci := 9) (o := 0) (ty := (.array .int)) d_Mdl_init_76 (fun w h => List.mem_cons_of_mem _ (in_Mdl w h)) tk_Mdl n_Mdl rfl 10 (by decide) (List.mem_cons_of_mem _ tw_749) rfl hmn rfl (by decide +kernel) rfl rfl (Nat.le_of_ble_eq_true rfl) rfl rfl (Nat.le_of_ble_eq_true rfl) ?_
  refine z_congr (M' := va_up (enc a ca SM (τt 0)) 0 (.inr (9, [.int 0, .int 0, .ref (a + 1), .ref (a + 2), .ref (a + 3), .ref (a + 4), .ref (a + 5), .ref (a + 6), .ref (a + 7), .ref (a + 8), .ref (a + 9), .null, .null, .null, .null, .null, .null, .null, .null, .null, .null, .null, .null, .null, .null, .null, .int 0, .int 0, .int 0, .int 0, .int 0, .int 0, .null, .null, .null, .null, .null, .null, .long 0, .long 0, .double FP.dconst0, .int 0, .int 0, .int 0, .int 0, .int 0]))) (it_m (n := 9) (Nat.le_of_ble_eq_true rfl) rfl rfl) ?_
  refine z_aload_n C d_Mdl_init_79 rfl 0 rfl ?_
  refine z_bipush C (v := 36) d_Mdl_init_80 (by decide) ?_
  refine y_newa C (a0 := (36, .inl (fun _ => 0))) (N := 36) (t0 := 0) (cA := ca 0) d_Mdl_init_82 (List.mem_cons_of_mem _ tw_71) rfl rfl (fun _ _ h => h) (by decide) (by decide) (by decide) (hX 9) ⟨by decide, by decide⟩ ?_
  refine y_putF C (T := F_Mdl) (N := 46) (ci := 9) (o := 0) (ty := (.array .int)) d_Mdl_init_84 (fun w h => List.mem_cons_of_mem _ (in_Mdl w h)) tk_Mdl n_Mdl rfl 11 (by decide) (List.mem_cons_of_mem _ tw_750) rfl hmn rfl (by decide +kernel) rfl rfl (Nat.le_of_ble_eq_true rfl) rfl rfl (Nat.le_of_ble_eq_true rfl) ?_
  refine z_congr (M' := va_up (enc a ca SM (τt 0)) 0 (.inr (9, [.int 0, .int 0, .ref (a + 1), .ref (a + 2), .ref (a + 3), .ref (a + 4), .ref (a + 5), .ref (a + 6), .ref (a + 7), .ref (a + 8), .ref (a + 9), .ref (a + 10), .null, .null, .null, .null, .null, .null, .null, .null, .null, .null, .null, .null, .null, .null, .int 0, .int 0, .int 0, .int 0, .int 0, .int 0, .null, .null, .null, .null, .null, .null, .long 0, .long 0, .double FP.dconst0, .int 0, .int 0, .int 0, .int 0, .int 0]))) (it_m (n := 10) (Nat.le_of_ble_eq_true rfl) rfl rfl) ?_
  refine z_aload_n C d_Mdl_init_87 rfl 0 rfl ?_
  refine z_bipush C (v := 36) d_Mdl_init_88 (by decide) ?_
  refine y_newa C (a0 := (36, .inl (fun _ => 0))) (N := 36) (t0 := 0) (cA := ca 0) d_Mdl_init_90 (List.mem_cons_of_mem _ tw_71) rfl rfl (fun _ _ h => h) (by decide) (by decide) (by decide) (hX 10) ⟨by decide, by decide⟩ ?_
  refine y_putF C (T := F_Mdl) (N := 46) (ci := 9) (o := 0) (ty := (.array .int)) d_Mdl_init_92 (fun w h => List.mem_cons_of_mem _ (in_Mdl w h)) tk_Mdl n_Mdl rfl 12 (by decide) (List.mem_cons_of_mem _ tw_751) rfl hmn rfl (by decide +kernel) rfl rfl (Nat.le_of_ble_eq_true rfl) rfl rfl (Nat.le_of_ble_eq_true rfl) ?_
  refine z_congr (M' := va_up (enc a ca SM (τt 0)) 0 (.inr (9, [.int 0, .int 0, .ref (a + 1), .ref (a + 2), .ref (a + 3), .ref (a + 4), .ref (a + 5), .ref (a + 6), .ref (a + 7), .ref (a + 8), .ref (a + 9), .ref (a + 10), .ref (a + 11), .null, .null, .null, .null, .null, .null, .null, .null, .null, .null, .null, .null, .null, .int 0, .int 0, .int 0, .int 0, .int 0, .int 0, .null, .null, .null, .null, .null, .null, .long 0, .long 0, .double FP.dconst0, .int 0, .int 0, .int 0, .int 0, .int 0]))) (it_m (n := 11) (Nat.le_of_ble_eq_true rfl) rfl rfl) ?_
  refine z_aload_n C d_Mdl_init_95 rfl 0 rfl ?_
  refine z_bipush C (v := 6) d_Mdl_init_96 (by decide) ?_
  refine y_newa C (a0 := (6, .inl (fun _ => 0))) (N := 6) (t0 := 7) (cA := ca 7) d_Mdl_init_98 (List.mem_cons_of_mem _ tw_878) rfl rfl (fun _ _ h => h) (by decide) (by decide) (by decide) (hX 11) ⟨by decide, by decide⟩ ?_
  refine y_putF C (T := F_Mdl) (N := 46) (ci := 9) (o := 0) (ty := (.array .boolean)) d_Mdl_init_100 (fun w h => List.mem_cons_of_mem _ (in_Mdl w h)) tk_Mdl n_Mdl rfl 13 (by decide) (List.mem_cons_of_mem _ tw_752) rfl hmn rfl (by decide +kernel) rfl rfl (Nat.le_of_ble_eq_true rfl) rfl rfl (Nat.le_of_ble_eq_true rfl) ?_
  refine z_congr (M' := va_up (enc a ca SM (τt 0)) 0 (.inr (9, [.int 0, .int 0, .ref (a + 1), .ref (a + 2), .ref (a + 3), .ref (a + 4), .ref (a + 5), .ref (a + 6), .ref (a + 7), .ref (a + 8), .ref (a + 9), .ref (a + 10), .ref (a + 11), .ref (a + 12), .null, .null, .null, .null, .null, .null, .null, .null, .null, .null, .null, .null, .int 0, .int 0, .int 0, .int 0, .int 0, .int 0, .null, .null, .null, .null, .null, .null, .long 0, .long 0, .double FP.dconst0, .int 0, .int 0, .int 0, .int 0, .int 0]))) (it_m (n := 12) (Nat.le_of_ble_eq_true rfl) rfl rfl) ?_
  refine z_aload_n C d_Mdl_init_103 rfl 0 rfl ?_
  refine z_bipush C (v := 6) d_Mdl_init_104 (by decide) ?_
  refine y_newa C (a0 := (6, .inl (fun _ => 0))) (N := 6) (t0 := 7) (cA := ca 7) d_Mdl_init_106 (List.mem_cons_of_mem _ tw_878) rfl rfl (fun _ _ h => h) (by decide) (by decide) (by decide) (hX 12) ⟨by decide, by decide⟩ ?_
  refine y_putF C (T := F_Mdl) (N := 46) (ci := 9) (o := 0) (ty := (.array .boolean)) d_Mdl_init_108 (fun w h => List.mem_cons_of_mem _ (in_Mdl w h)) tk_Mdl n_Mdl rfl 14 (by decide) (List.mem_cons_of_mem _ tw_753) rfl hmn rfl (by decide +kernel) rfl rfl (Nat.le_of_ble_eq_true rfl) rfl rfl (Nat.le_of_ble_eq_true rfl) ?_
  refine z_congr (M' := va_up (enc a ca SM (τt 0)) 0 (.inr (9, [.int 0, .int 0, .ref (a + 1), .ref (a + 2), .ref (a + 3), .ref (a + 4), .ref (a + 5), .ref (a + 6), .ref (a + 7), .ref (a + 8), .ref (a + 9), .ref (a + 10), .ref (a + 11), .ref (a + 12), .ref (a + 13), .null, .null, .null, .null, .null, .null, .null, .null, .null, .null, .null, .int 0, .int 0, .int 0, .int 0, .int 0, .int 0, .null, .null, .null, .null, .null, .null, .long 0, .long 0, .double FP.dconst0, .int 0, .int 0, .int 0, .int 0, .int 0]))) (it_m (n := 13) (Nat.le_of_ble_eq_true rfl) rfl rfl) ?_
  refine z_aload_n C d_Mdl_init_111 rfl 0 rfl ?_
  refine z_bipush C (v := 6) d_Mdl_init_112 (by decide) ?_
  refine y_newa C (a0 := (6, .inl (fun _ => 0))) (N := 6) (t0 := 0) (cA := ca 0) d_Mdl_init_114 (List.mem_cons_of_mem _ tw_71) rfl rfl (fun _ _ h => h) (by decide) (by decide) (by decide) (hX 13) ⟨by decide, by decide⟩ ?_
  refine y_putF C (T := F_Mdl) (N := 46) (ci := 9) (o := 0) (ty := (.array .int)) d_Mdl_init_116 (fun w h => List.mem_cons_of_mem _ (in_Mdl w h)) tk_Mdl n_Mdl rfl 15 (by decide) (List.mem_cons_of_mem _ tw_754) rfl hmn rfl (by decide +kernel) rfl rfl (Nat.le_of_ble_eq_true rfl) rfl rfl (Nat.le_of_ble_eq_true rfl) ?_
  refine z_congr (M' := va_up (enc a ca SM (τt 0)) 0 (.inr (9, [.int 0, .int 0, .ref (a + 1), .ref (a + 2), .ref (a + 3), .ref (a + 4), .ref (a + 5), .ref (a + 6), .ref (a + 7), .ref (a + 8), .ref (a + 9), .ref (a + 10), .ref (a + 11), .ref (a + 12), .ref (a + 13), .ref (a + 14), .null, .null, .null, .null, .null, .null, .null, .null, .null, .null, .int 0, .int 0, .int 0, .int 0, .int 0, .int 0, .null, .null, .null, .null, .null, .null, .long 0, .long 0, .double FP.dconst0, .int 0, .int 0, .int 0, .int 0, .int 0]))) (it_m (n := 14) (Nat.le_of_ble_eq_true rfl) rfl rfl) ?_
  refine z_aload_n C d_Mdl_init_119 rfl 0 rfl ?_
  refine z_bipush C (v := 6) d_Mdl_init_120 (by decide) ?_
  refine y_newa C (a0 := (6, .inl (fun _ => 0))) (N := 6) (t0 := 0) (cA := ca 0) d_Mdl_init_122 (List.mem_cons_of_mem _ tw_71) rfl rfl (fun _ _ h => h) (by decide) (by decide) (by decide) (hX 14) ⟨by decide, by decide⟩ ?_
  refine y_putF C (T := F_Mdl) (N := 46) (ci := 9) (o := 0) (ty := (.array .int)) d_Mdl_init_124 (fun w h => List.mem_cons_of_mem _ (in_Mdl w h)) tk_Mdl n_Mdl rfl 16 (by decide) (List.mem_cons_of_mem _ tw_755) rfl hmn rfl (by decide +kernel) rfl rfl (Nat.le_of_ble_eq_true rfl) rfl rfl (Nat.le_of_ble_eq_true rfl) ?_
  refine z_congr (M' := va_up (enc a ca SM (τt 0)) 0 (.inr (9, [.int 0, .int 0, .ref (a + 1), .ref (a + 2), .ref (a + 3), .ref (a + 4), .ref (a + 5), .ref (a + 6), .ref (a + 7), .ref (a + 8), .ref (a + 9), .ref (a + 10), .ref (a + 11), .ref (a + 12), .ref (a + 13), .ref (a + 14), .ref (a + 15), .null, .null, .null, .null, .null, .null, .null, .null, .null, .int 0, .int 0, .int 0, .int 0, .int 0, .int 0, .null, .null, .null, .null, .null, .null, .long 0, .long 0, .double FP.dconst0, .int 0, .int 0, .int 0, .int 0, .int 0]))) (it_m (n := 15) (Nat.le_of_ble_eq_true rfl) rfl rfl) ?_
  refine z_aload_n C d_Mdl_init_127 rfl 0 rfl ?_
  refine z_bipush C (v := 6) d_Mdl_init_128 (by decide) ?_
  refine y_newa C (a0 := (6, .inl (fun _ => 0))) (N := 6) (t0 := 0) (cA := ca 0) d_Mdl_init_130 (List.mem_cons_of_mem _ tw_71) rfl rfl (fun _ _ h => h) (by decide) (by decide) (by decide) (hX 15) ⟨by decide, by decide⟩ ?_
  refine y_putF C (T := F_Mdl) (N := 46) (ci := 9) (o := 0) (ty := (.array .int)) d_Mdl_init_132 (fun w h => List.mem_cons_of_mem _ (in_Mdl w h)) tk_Mdl n_Mdl rfl 17 (by decide) (List.mem_cons_of_mem _ tw_756) rfl hmn rfl (by decide +kernel) rfl rfl (Nat.le_of_ble_eq_true rfl) rfl rfl (Nat.le_of_ble_eq_true rfl) ?_
  refine z_congr (M' := va_up (enc a ca SM (τt 0)) 0 (.inr (9, [.int 0, .int 0, .ref (a + 1), .ref (a + 2), .ref (a + 3), .ref (a + 4), .ref (a + 5), .ref (a + 6), .ref (a + 7), .ref (a + 8), .ref (a + 9), .ref (a + 10), .ref (a + 11), .ref (a + 12), .ref (a + 13), .ref (a + 14), .ref (a + 15), .ref (a + 16), .null, .null, .null, .null, .null, .null, .null, .null, .int 0, .int 0, .int 0, .int 0, .int 0, .int 0, .null, .null, .null, .null, .null, .null, .long 0, .long 0, .double FP.dconst0, .int 0, .int 0, .int 0, .int 0, .int 0]))) (it_m (n := 16) (Nat.le_of_ble_eq_true rfl) rfl rfl) ?_
  refine z_aload_n C d_Mdl_init_135 rfl 0 rfl ?_
  refine z_bipush C (v := 6) d_Mdl_init_136 (by decide) ?_
  refine y_newa C (a0 := (6, .inl (fun _ => 0))) (N := 6) (t0 := 7) (cA := ca 7) d_Mdl_init_138 (List.mem_cons_of_mem _ tw_878) rfl rfl (fun _ _ h => h) (by decide) (by decide) (by decide) (hX 16) ⟨by decide, by decide⟩ ?_
  refine y_putF C (T := F_Mdl) (N := 46) (ci := 9) (o := 0) (ty := (.array .boolean)) d_Mdl_init_140 (fun w h => List.mem_cons_of_mem _ (in_Mdl w h)) tk_Mdl n_Mdl rfl 18 (by decide) (List.mem_cons_of_mem _ tw_757) rfl hmn rfl (by decide +kernel) rfl rfl (Nat.le_of_ble_eq_true rfl) rfl rfl (Nat.le_of_ble_eq_true rfl) ?_
  refine z_congr (M' := va_up (enc a ca SM (τt 0)) 0 (.inr (9, [.int 0, .int 0, .ref (a + 1), .ref (a + 2), .ref (a + 3), .ref (a + 4), .ref (a + 5), .ref (a + 6), .ref (a + 7), .ref (a + 8), .ref (a + 9), .ref (a + 10), .ref (a + 11), .ref (a + 12), .ref (a + 13), .ref (a + 14), .ref (a + 15), .ref (a + 16), .ref (a + 17), .null, .null, .null, .null, .null, .null, .null, .int 0, .int 0, .int 0, .int 0, .int 0, .int 0, .null, .null, .null, .null, .null, .null, .long 0, .long 0, .double FP.dconst0, .int 0, .int 0, .int 0, .int 0, .int 0]))) (it_m (n := 17) (Nat.le_of_ble_eq_true rfl) rfl rfl) ?_
  refine z_aload_n C d_Mdl_init_143 rfl 0 rfl ?_
  refine z_iconst C (v := 4) d_Mdl_init_144 (by decide) ?_
  refine y_newa C (a0 := (4, .inl (fun _ => 0))) (N := 4) (t0 := 0) (cA := ca 0) d_Mdl_init_145 (List.mem_cons_of_mem _ tw_71) rfl rfl (fun _ _ h => h) (by decide) (by decide) (by decide) (hX 17) ⟨by decide, by decide⟩ ?_
  refine z_dup C d_Mdl_init_147 rfl ?_
  refine z_iconst C (v := 0) d_Mdl_init_148 (by decide) ?_
  refine z_iconst C (v := -1) d_Mdl_init_149 (by decide) ?_
  refine z_iast C (o := 18) d_Mdl_init_150 0 rfl (Nat.le_of_ble_eq_true rfl) rfl rfl (by unfold vp_in; decide) ?_
  refine z_congr (fun o _ => va_up_idem _ _ _ o) ?_
  refine z_dup C d_Mdl_init_151 rfl ?_
  refine z_iconst C (v := 1) d_Mdl_init_152 (by decide) ?_
  refine z_iconst C (v := -1) d_Mdl_init_153 (by decide) ?_
  refine z_iast C (o := 18) d_Mdl_init_154 0 rfl (Nat.le_of_ble_eq_true rfl) rfl rfl (by unfold vp_in; decide) ?_
  refine z_congr (fun o _ => va_up_idem _ _ _ o) ?_
  refine z_dup C d_Mdl_init_155 rfl ?_
  refine z_iconst C (v := 2) d_Mdl_init_156 (by decide) ?_
  refine z_iconst C (v := -1) d_Mdl_init_157 (by decide) ?_
  refine z_iast C (o := 18) d_Mdl_init_158 0 rfl (Nat.le_of_ble_eq_true rfl) rfl rfl (by unfold vp_in; decide) ?_
  refine z_congr (fun o _ => va_up_idem _ _ _ o) ?_
  refine z_dup C d_Mdl_init_159 rfl ?_
  refine z_iconst C (v := 3) d_Mdl_init_160 (by decide) ?_
  refine z_iconst C (v := -1) d_Mdl_init_161 (by decide) ?_
  refine z_iast C (o := 18) d_Mdl_init_162 0 rfl (Nat.le_of_ble_eq_true rfl) rfl rfl (by unfold vp_in; decide) ?_
  refine z_congr (fun o _ => va_up_idem _ _ _ o) ?_
  refine y_putF C (T := F_Mdl) (N := 46) (ci := 9) (o := 0) (ty := (.array .int)) d_Mdl_init_163 (fun w h => List.mem_cons_of_mem _ (in_Mdl w h)) tk_Mdl n_Mdl rfl 19 (by decide) (List.mem_cons_of_mem _ tw_758) rfl hmn rfl (by decide +kernel) rfl rfl (Nat.le_of_ble_eq_true rfl) rfl rfl (Nat.le_of_ble_eq_true rfl) ?_
  refine z_congr (M' := va_up (enc a ca SM (τt 0)) 0 (.inr (9, [.int 0, .int 0, .ref (a + 1), .ref (a + 2), .ref (a + 3), .ref (a + 4), .ref (a + 5), .ref (a + 6), .ref (a + 7), .ref (a + 8), .ref (a + 9), .ref (a + 10), .ref (a + 11), .ref (a + 12), .ref (a + 13), .ref (a + 14), .ref (a + 15), .ref (a + 16), .ref (a + 17), .ref (a + 18), .null, .null, .null, .null, .null, .null, .int 0, .int 0, .int 0, .int 0, .int 0, .int 0, .null, .null, .null, .null, .null, .null, .long 0, .long 0, .double FP.dconst0, .int 0, .int 0, .int 0, .int 0, .int 0]))) (it_m (n := 18) (Nat.le_of_ble_eq_true rfl) rfl rfl) ?_
  refine z_aload_n C d_Mdl_init_166 rfl 0 rfl ?_
  refine z_iconst C (v := 4) d_Mdl_init_167 (by decide) ?_
  refine y_newa C (a0 := (4, .inl (fun _ => 0))) (N := 4) (t0 := 0) (cA := ca 0) d_Mdl_init_168 (List.mem_cons_of_mem _ tw_71) rfl rfl (fun _ _ h => h) (by decide) (by decide) (by decide) (hX 18) ⟨by decide, by decide⟩ ?_
  refine y_putF C (T := F_Mdl) (N := 46) (ci := 9) (o := 0) (ty := (.array .int)) d_Mdl_init_170 (fun w h => List.mem_cons_of_mem _ (in_Mdl w h)) tk_Mdl n_Mdl rfl 20 (by decide) (List.mem_cons_of_mem _ tw_759) rfl hmn rfl (by decide +kernel) rfl rfl (Nat.le_of_ble_eq_true rfl) rfl rfl (Nat.le_of_ble_eq_true rfl) ?_
  refine z_congr (M' := va_up (enc a ca SM (τt 0)) 0 (.inr (9, [.int 0, .int 0, .ref (a + 1), .ref (a + 2), .ref (a + 3), .ref (a + 4), .ref (a + 5), .ref (a + 6), .ref (a + 7), .ref (a + 8), .ref (a + 9), .ref (a + 10), .ref (a + 11), .ref (a + 12), .ref (a + 13), .ref (a + 14), .ref (a + 15), .ref (a + 16), .ref (a + 17), .ref (a + 18), .ref (a + 19), .null, .null, .null, .null, .null, .int 0, .int 0, .int 0, .int 0, .int 0, .int 0, .null, .null, .null, .null, .null, .null, .long 0, .long 0, .double FP.dconst0, .int 0, .int 0, .int 0, .int 0, .int 0]))) (it_m (n := 19) (Nat.le_of_ble_eq_true rfl) rfl rfl) ?_
  refine z_aload_n C d_Mdl_init_173 rfl 0 rfl ?_
  refine z_iconst C (v := 4) d_Mdl_init_174 (by decide) ?_
  refine y_newa C (a0 := (4, .inl (fun _ => 0))) (N := 4) (t0 := 0) (cA := ca 0) d_Mdl_init_175 (List.mem_cons_of_mem _ tw_71) rfl rfl (fun _ _ h => h) (by decide) (by decide) (by decide) (hX 19) ⟨by decide, by decide⟩ ?_
  refine y_putF C (T := F_Mdl) (N := 46) (ci := 9) (o := 0) (ty := (.array .int)) d_Mdl_init_177 (fun w h => List.mem_cons_of_mem _ (in_Mdl w h)) tk_Mdl n_Mdl rfl 21 (by decide) (List.mem_cons_of_mem _ tw_760) rfl hmn rfl (by decide +kernel) rfl rfl (Nat.le_of_ble_eq_true rfl) rfl rfl (Nat.le_of_ble_eq_true rfl) ?_
  refine z_congr (M' := va_up (enc a ca SM (τt 0)) 0 (.inr (9, [.int 0, .int 0, .ref (a + 1), .ref (a + 2), .ref (a + 3), .ref (a + 4), .ref (a + 5), .ref (a + 6), .ref (a + 7), .ref (a + 8), .ref (a + 9), .ref (a + 10), .ref (a + 11), .ref (a + 12), .ref (a + 13), .ref (a + 14), .ref (a + 15), .ref (a + 16), .ref (a + 17), .ref (a + 18), .ref (a + 19), .ref (a + 20), .null, .null, .null, .null, .int 0, .int 0, .int 0, .int 0, .int 0, .int 0, .null, .null, .null, .null, .null, .null, .long 0, .long 0, .double FP.dconst0, .int 0, .int 0, .int 0, .int 0, .int 0]))) (it_m (n := 20) (Nat.le_of_ble_eq_true rfl) rfl rfl) ?_
  refine z_aload_n C d_Mdl_init_180 rfl 0 rfl ?_
  refine z_iconst C (v := 4) d_Mdl_init_181 (by decide) ?_
  refine y_newa C (a0 := (4, .inl (fun _ => 0))) (N := 4) (t0 := 0) (cA := ca 0) d_Mdl_init_182 (List.mem_cons_of_mem _ tw_71) rfl rfl (fun _ _ h => h) (by decide) (by decide) (by decide) (hX 20) ⟨by decide, by decide⟩ ?_
  refine y_putF C (T := F_Mdl) (N := 46) (ci := 9) (o := 0) (ty := (.array .int)) d_Mdl_init_184 (fun w h => List.mem_cons_of_mem _ (in_Mdl w h)) tk_Mdl n_Mdl rfl 22 (by decide) (List.mem_cons_of_mem _ tw_761) rfl hmn rfl (by decide +kernel) rfl rfl (Nat.le_of_ble_eq_true rfl) rfl rfl (Nat.le_of_ble_eq_true rfl) ?_
  refine z_congr (M' := va_up (enc a ca SM (τt 0)) 0 (.inr (9, [.int 0, .int 0, .ref (a + 1), .ref (a + 2), .ref (a + 3), .ref (a + 4), .ref (a + 5), .ref (a + 6), .ref (a + 7), .ref (a + 8), .ref (a + 9), .ref (a + 10), .ref (a + 11), .ref (a + 12), .ref (a + 13), .ref (a + 14), .ref (a + 15), .ref (a + 16), .ref (a + 17), .ref (a + 18), .ref (a + 19), .ref (a + 20), .ref (a + 21), .null, .null, .null, .int 0, .int 0, .int 0, .int 0, .int 0, .int 0, .null, .null, .null, .null, .null, .null, .long 0, .long 0, .double FP.dconst0, .int 0, .int 0, .int 0, .int 0, .int 0]))) (it_m (n := 21) (Nat.le_of_ble_eq_true rfl) rfl rfl) ?_
  refine z_aload_n C d_Mdl_init_187 rfl 0 rfl ?_
  refine z_bipush C (v := 30) d_Mdl_init_188 (by decide) ?_
  refine y_newa C (a0 := (30, .inl (fun _ => 0))) (N := 30) (t0 := 0) (cA := ca 0) d_Mdl_init_190 (List.mem_cons_of_mem _ tw_71) rfl rfl (fun _ _ h => h) (by decide) (by decide) (by decide) (hX 21) ⟨by decide, by decide⟩ ?_
  refine y_putF C (T := F_Mdl) (N := 46) (ci := 9) (o := 0) (ty := (.array .int)) d_Mdl_init_192 (fun w h => List.mem_cons_of_mem _ (in_Mdl w h)) tk_Mdl n_Mdl rfl 23 (by decide) (List.mem_cons_of_mem _ tw_762) rfl hmn rfl (by decide +kernel) rfl rfl (Nat.le_of_ble_eq_true rfl) rfl rfl (Nat.le_of_ble_eq_true rfl) ?_
  refine z_congr (M' := va_up (enc a ca SM (τt 0)) 0 (.inr (9, [.int 0, .int 0, .ref (a + 1), .ref (a + 2), .ref (a + 3), .ref (a + 4), .ref (a + 5), .ref (a + 6), .ref (a + 7), .ref (a + 8), .ref (a + 9), .ref (a + 10), .ref (a + 11), .ref (a + 12), .ref (a + 13), .ref (a + 14), .ref (a + 15), .ref (a + 16), .ref (a + 17), .ref (a + 18), .ref (a + 19), .ref (a + 20), .ref (a + 21), .ref (a + 22), .null, .null, .int 0, .int 0, .int 0, .int 0, .int 0, .int 0, .null, .null, .null, .null, .null, .null, .long 0, .long 0, .double FP.dconst0, .int 0, .int 0, .int 0, .int 0, .int 0]))) (it_m (n := 22) (Nat.le_of_ble_eq_true rfl) rfl rfl) ?_
  refine z_aload_n C d_Mdl_init_195 rfl 0 rfl ?_
  refine z_bipush C (v := 30) d_Mdl_init_196 (by decide) ?_
  refine y_newa C (a0 := (30, .inl (fun _ => 0))) (N := 30) (t0 := 0) (cA := ca 0) d_Mdl_init_198 (List.mem_cons_of_mem _ tw_71) rfl rfl (fun _ _ h => h) (by decide) (by decide) (by decide) (hX 22) ⟨by decide, by decide⟩ ?_
  refine y_putF C (T := F_Mdl) (N := 46) (ci := 9) (o := 0) (ty := (.array .int)) d_Mdl_init_200 (fun w h => List.mem_cons_of_mem _ (in_Mdl w h)) tk_Mdl n_Mdl rfl 24 (by decide) (List.mem_cons_of_mem _ tw_763) rfl hmn rfl (by decide +kernel) rfl rfl (Nat.le_of_ble_eq_true rfl) rfl rfl (Nat.le_of_ble_eq_true rfl) ?_
  refine z_congr (M' := va_up (enc a ca SM (τt 0)) 0 (.inr (9, [.int 0, .int 0, .ref (a + 1), .ref (a + 2), .ref (a + 3), .ref (a + 4), .ref (a + 5), .ref (a + 6), .ref (a + 7), .ref (a + 8), .ref (a + 9), .ref (a + 10), .ref (a + 11), .ref (a + 12), .ref (a + 13), .ref (a + 14), .ref (a + 15), .ref (a + 16), .ref (a + 17), .ref (a + 18), .ref (a + 19), .ref (a + 20), .ref (a + 21), .ref (a + 22), .ref (a + 23), .null, .int 0, .int 0, .int 0, .int 0, .int 0, .int 0, .null, .null, .null, .null, .null, .null, .long 0, .long 0, .double FP.dconst0, .int 0, .int 0, .int 0, .int 0, .int 0]))) (it_m (n := 23) (Nat.le_of_ble_eq_true rfl) rfl rfl) ?_
  refine z_aload_n C d_Mdl_init_203 rfl 0 rfl ?_
  refine z_bipush C (v := 30) d_Mdl_init_204 (by decide) ?_
  refine y_newa C (a0 := (30, .inl (fun _ => 0))) (N := 30) (t0 := 0) (cA := ca 0) d_Mdl_init_206 (List.mem_cons_of_mem _ tw_71) rfl rfl (fun _ _ h => h) (by decide) (by decide) (by decide) (hX 23) ⟨by decide, by decide⟩ ?_
  refine y_putF C (T := F_Mdl) (N := 46) (ci := 9) (o := 0) (ty := (.array .int)) d_Mdl_init_208 (fun w h => List.mem_cons_of_mem _ (in_Mdl w h)) tk_Mdl n_Mdl rfl 25 (by decide) (List.mem_cons_of_mem _ tw_764) rfl hmn rfl (by decide +kernel) rfl rfl (Nat.le_of_ble_eq_true rfl) rfl rfl (Nat.le_of_ble_eq_true rfl) ?_
  refine z_congr (M' := va_up (enc a ca SM (τt 0)) 0 (.inr (9, [.int 0, .int 0, .ref (a + 1), .ref (a + 2), .ref (a + 3), .ref (a + 4), .ref (a + 5), .ref (a + 6), .ref (a + 7), .ref (a + 8), .ref (a + 9), .ref (a + 10), .ref (a + 11), .ref (a + 12), .ref (a + 13), .ref (a + 14), .ref (a + 15), .ref (a + 16), .ref (a + 17), .ref (a + 18), .ref (a + 19), .ref (a + 20), .ref (a + 21), .ref (a + 22), .ref (a + 23), .ref (a + 24), .int 0, .int 0, .int 0, .int 0, .int 0, .int 0, .null, .null, .null, .null, .null, .null, .long 0, .long 0, .double FP.dconst0, .int 0, .int 0, .int 0, .int 0, .int 0]))) (it_m (n := 24) (Nat.le_of_ble_eq_true rfl) rfl rfl) ?_
  refine z_aload_n C d_Mdl_init_211 rfl 0 rfl ?_
  refine z_bipush C (v := 6) d_Mdl_init_212 (by decide) ?_
  refine y_newa C (a0 := (6, .inl (fun _ => 0))) (N := 6) (t0 := 0) (cA := ca 0) d_Mdl_init_214 (List.mem_cons_of_mem _ tw_71) rfl rfl (fun _ _ h => h) (by decide) (by decide) (by decide) (hX 24) ⟨by decide, by decide⟩ ?_
  refine z_dup C d_Mdl_init_216 rfl ?_
  refine z_iconst C (v := 0) d_Mdl_init_217 (by decide) ?_
  refine z_iconst C (v := -1) d_Mdl_init_218 (by decide) ?_
  refine z_iast C (o := 25) d_Mdl_init_219 0 rfl (Nat.le_of_ble_eq_true rfl) rfl rfl (by unfold vp_in; decide) ?_
  refine z_congr (fun o _ => va_up_idem _ _ _ o) ?_
  refine z_dup C d_Mdl_init_220 rfl ?_
  refine z_iconst C (v := 1) d_Mdl_init_221 (by decide) ?_
  refine z_iconst C (v := -1) d_Mdl_init_222 (by decide) ?_
  refine z_iast C (o := 25) d_Mdl_init_223 0 rfl (Nat.le_of_ble_eq_true rfl) rfl rfl (by unfold vp_in; decide) ?_
  refine z_congr (fun o _ => va_up_idem _ _ _ o) ?_
  refine z_dup C d_Mdl_init_224 rfl ?_
  refine z_iconst C (v := 2) d_Mdl_init_225 (by decide) ?_
  refine z_iconst C (v := -1) d_Mdl_init_226 (by decide) ?_
  refine z_iast C (o := 25) d_Mdl_init_227 0 rfl (Nat.le_of_ble_eq_true rfl) rfl rfl (by unfold vp_in; decide) ?_
  refine z_congr (fun o _ => va_up_idem _ _ _ o) ?_
  refine z_dup C d_Mdl_init_228 rfl ?_
  refine z_iconst C (v := 3) d_Mdl_init_229 (by decide) ?_
  refine z_iconst C (v := -1) d_Mdl_init_230 (by decide) ?_
  refine z_iast C (o := 25) d_Mdl_init_231 0 rfl (Nat.le_of_ble_eq_true rfl) rfl rfl (by unfold vp_in; decide) ?_
  refine z_congr (fun o _ => va_up_idem _ _ _ o) ?_
  refine z_dup C d_Mdl_init_232 rfl ?_
  refine z_iconst C (v := 4) d_Mdl_init_233 (by decide) ?_
  refine z_iconst C (v := -1) d_Mdl_init_234 (by decide) ?_
  refine z_iast C (o := 25) d_Mdl_init_235 0 rfl (Nat.le_of_ble_eq_true rfl) rfl rfl (by unfold vp_in; decide) ?_
  refine z_congr (fun o _ => va_up_idem _ _ _ o) ?_
  refine z_dup C d_Mdl_init_236 rfl ?_
  refine z_iconst C (v := 5) d_Mdl_init_237 (by decide) ?_
  refine z_iconst C (v := -1) d_Mdl_init_238 (by decide) ?_
  refine z_iast C (o := 25) d_Mdl_init_239 0 rfl (Nat.le_of_ble_eq_true rfl) rfl rfl (by unfold vp_in; decide) ?_
  refine z_congr (fun o _ => va_up_idem _ _ _ o) ?_
  refine y_putF C (T := F_Mdl) (N := 46) (ci := 9) (o := 0) (ty := (.array .int)) d_Mdl_init_240 (fun w h => List.mem_cons_of_mem _ (in_Mdl w h)) tk_Mdl n_Mdl rfl 32 (by decide) (List.mem_cons_of_mem _ tw_771) rfl hmn rfl (by decide +kernel) rfl rfl (Nat.le_of_ble_eq_true rfl) rfl rfl (Nat.le_of_ble_eq_true rfl) ?_
  refine z_congr (M' := va_up (enc a ca SM (τt 0)) 0 (.inr (9, [.int 0, .int 0, .ref (a + 1), .ref (a + 2), .ref (a + 3), .ref (a + 4), .ref (a + 5), .ref (a + 6), .ref (a + 7), .ref (a + 8), .ref (a + 9), .ref (a + 10), .ref (a + 11), .ref (a + 12), .ref (a + 13), .ref (a + 14), .ref (a + 15), .ref (a + 16), .ref (a + 17), .ref (a + 18), .ref (a + 19), .ref (a + 20), .ref (a + 21), .ref (a + 22), .ref (a + 23), .ref (a + 24), .int 0, .int 0, .int 0, .int 0, .int 0, .int 0, .ref (a + 25), .null, .null, .null, .null, .null, .long 0, .long 0, .double FP.dconst0, .int 0, .int 0, .int 0, .int 0, .int 0]))) (it_m (n := 25) (Nat.le_of_ble_eq_true rfl) rfl rfl) ?_
  refine z_aload_n C d_Mdl_init_243 rfl 0 rfl ?_
  refine z_bipush C (v := 6) d_Mdl_init_244 (by decide) ?_
  refine y_newa C (a0 := (6, .inl (fun _ => 0))) (N := 6) (t0 := 0) (cA := ca 0) d_Mdl_init_246 (List.mem_cons_of_mem _ tw_71) rfl rfl (fun _ _ h => h) (by decide) (by decide) (by decide) (hX 25) ⟨by decide, by decide⟩ ?_
  refine y_putF C (T := F_Mdl) (N := 46) (ci := 9) (o := 0) (ty := (.array .int)) d_Mdl_init_248 (fun w h => List.mem_cons_of_mem _ (in_Mdl w h)) tk_Mdl n_Mdl rfl 33 (by decide) (List.mem_cons_of_mem _ tw_772) rfl hmn rfl (by decide +kernel) rfl rfl (Nat.le_of_ble_eq_true rfl) rfl rfl (Nat.le_of_ble_eq_true rfl) ?_
  refine z_congr (M' := va_up (enc a ca SM (τt 0)) 0 (.inr (9, [.int 0, .int 0, .ref (a + 1), .ref (a + 2), .ref (a + 3), .ref (a + 4), .ref (a + 5), .ref (a + 6), .ref (a + 7), .ref (a + 8), .ref (a + 9), .ref (a + 10), .ref (a + 11), .ref (a + 12), .ref (a + 13), .ref (a + 14), .ref (a + 15), .ref (a + 16), .ref (a + 17), .ref (a + 18), .ref (a + 19), .ref (a + 20), .ref (a + 21), .ref (a + 22), .ref (a + 23), .ref (a + 24), .int 0, .int 0, .int 0, .int 0, .int 0, .int 0, .ref (a + 25), .ref (a + 26), .null, .null, .null, .null, .long 0, .long 0, .double FP.dconst0, .int 0, .int 0, .int 0, .int 0, .int 0]))) (it_m (n := 26) (Nat.le_of_ble_eq_true rfl) rfl rfl) ?_
  refine z_aload_n C d_Mdl_init_251 rfl 0 rfl ?_
  refine z_bipush C (v := 24) d_Mdl_init_252 (by decide) ?_
  refine y_newa C (a0 := (24, .inl (fun _ => 0))) (N := 24) (t0 := 0) (cA := ca 0) d_Mdl_init_254 (List.mem_cons_of_mem _ tw_71) rfl rfl (fun _ _ h => h) (by decide) (by decide) (by decide) (hX 26) ⟨by decide, by decide⟩ ?_
  refine y_putF C (T := F_Mdl) (N := 46) (ci := 9) (o := 0) (ty := (.array .int)) d_Mdl_init_256 (fun w h => List.mem_cons_of_mem _ (in_Mdl w h)) tk_Mdl n_Mdl rfl 34 (by decide) (List.mem_cons_of_mem _ tw_773) rfl hmn rfl (by decide +kernel) rfl rfl (Nat.le_of_ble_eq_true rfl) rfl rfl (Nat.le_of_ble_eq_true rfl) ?_
  refine z_congr (M' := va_up (enc a ca SM (τt 0)) 0 (.inr (9, [.int 0, .int 0, .ref (a + 1), .ref (a + 2), .ref (a + 3), .ref (a + 4), .ref (a + 5), .ref (a + 6), .ref (a + 7), .ref (a + 8), .ref (a + 9), .ref (a + 10), .ref (a + 11), .ref (a + 12), .ref (a + 13), .ref (a + 14), .ref (a + 15), .ref (a + 16), .ref (a + 17), .ref (a + 18), .ref (a + 19), .ref (a + 20), .ref (a + 21), .ref (a + 22), .ref (a + 23), .ref (a + 24), .int 0, .int 0, .int 0, .int 0, .int 0, .int 0, .ref (a + 25), .ref (a + 26), .ref (a + 27), .null, .null, .null, .long 0, .long 0, .double FP.dconst0, .int 0, .int 0, .int 0, .int 0, .int 0]))) (it_m (n := 27) (Nat.le_of_ble_eq_true rfl) rfl rfl) ?_
  refine z_aload_n C d_Mdl_init_259 rfl 0 rfl ?_
  refine z_bipush C (v := 24) d_Mdl_init_260 (by decide) ?_
  refine y_newa C (a0 := (24, .inr (.inl (fun _ => 0)))) (N := 24) (t0 := 8) (cA := ca 8) d_Mdl_init_262 (List.mem_cons_of_mem _ tw_879) rfl rfl (fun _ _ h => h) (by decide) (by decide) (by decide) (hX 27) ⟨by decide, by decide⟩ ?_
  refine y_putF C (T := F_Mdl) (N := 46) (ci := 9) (o := 0) (ty := (.array .long)) d_Mdl_init_264 (fun w h => List.mem_cons_of_mem _ (in_Mdl w h)) tk_Mdl n_Mdl rfl 35 (by decide) (List.mem_cons_of_mem _ tw_774) rfl hmn rfl (by decide +kernel) rfl rfl (Nat.le_of_ble_eq_true rfl) rfl rfl (Nat.le_of_ble_eq_true rfl) ?_
  refine z_congr (M' := va_up (enc a ca SM (τt 0)) 0 (.inr (9, [.int 0, .int 0, .ref (a + 1), .ref (a + 2), .ref (a + 3), .ref (a + 4), .ref (a + 5), .ref (a + 6), .ref (a + 7), .ref (a + 8), .ref (a + 9), .ref (a + 10), .ref (a + 11), .ref (a + 12), .ref (a + 13), .ref (a + 14), .ref (a + 15), .ref (a + 16), .ref (a + 17), .ref (a + 18), .ref (a + 19), .ref (a + 20), .ref (a + 21), .ref (a + 22), .ref (a + 23), .ref (a + 24), .int 0, .int 0, .int 0, .int 0, .int 0, .int 0, .ref (a + 25), .ref (a + 26), .ref (a + 27), .ref (a + 28), .null, .null, .long 0, .long 0, .double FP.dconst0, .int 0, .int 0, .int 0, .int 0, .int 0]))) (it_m (n := 28) (Nat.le_of_ble_eq_true rfl) rfl rfl) ?_
  refine z_aload_n C d_Mdl_init_267 rfl 0 rfl ?_
  refine z_bipush C (v := 24) d_Mdl_init_268 (by decide) ?_
  refine y_newa C (a0 := (24, .inr (.inl (fun _ => 0)))) (N := 24) (t0 := 8) (cA := ca 8) d_Mdl_init_270 (List.mem_cons_of_mem _ tw_879) rfl rfl (fun _ _ h => h) (by decide) (by decide) (by decide) (hX 28) ⟨by decide, by decide⟩ ?_
  refine y_putF C (T := F_Mdl) (N := 46) (ci := 9) (o := 0) (ty := (.array .long)) d_Mdl_init_272 (fun w h => List.mem_cons_of_mem _ (in_Mdl w h)) tk_Mdl n_Mdl rfl 36 (by decide) (List.mem_cons_of_mem _ tw_775) rfl hmn rfl (by decide +kernel) rfl rfl (Nat.le_of_ble_eq_true rfl) rfl rfl (Nat.le_of_ble_eq_true rfl) ?_
  refine z_congr (M' := va_up (enc a ca SM (τt 0)) 0 (.inr (9, [.int 0, .int 0, .ref (a + 1), .ref (a + 2), .ref (a + 3), .ref (a + 4), .ref (a + 5), .ref (a + 6), .ref (a + 7), .ref (a + 8), .ref (a + 9), .ref (a + 10), .ref (a + 11), .ref (a + 12), .ref (a + 13), .ref (a + 14), .ref (a + 15), .ref (a + 16), .ref (a + 17), .ref (a + 18), .ref (a + 19), .ref (a + 20), .ref (a + 21), .ref (a + 22), .ref (a + 23), .ref (a + 24), .int 0, .int 0, .int 0, .int 0, .int 0, .int 0, .ref (a + 25), .ref (a + 26), .ref (a + 27), .ref (a + 28), .ref (a + 29), .null, .long 0, .long 0, .double FP.dconst0, .int 0, .int 0, .int 0, .int 0, .int 0]))) (it_m (n := 29) (Nat.le_of_ble_eq_true rfl) rfl rfl) ?_
  refine z_aload_n C d_Mdl_init_275 rfl 0 rfl ?_
  refine z_bipush C (v := 24) d_Mdl_init_276 (by decide) ?_
  refine y_newa C (a0 := (24, .inl (fun _ => 0))) (N := 24) (t0 := 0) (cA := ca 0) d_Mdl_init_278 (List.mem_cons_of_mem _ tw_71) rfl rfl (fun _ _ h => h) (by decide) (by decide) (by decide) (hX 29) ⟨by decide, by decide⟩ ?_
  refine y_putF C (T := F_Mdl) (N := 46) (ci := 9) (o := 0) (ty := (.array .int)) d_Mdl_init_280 (fun w h => List.mem_cons_of_mem _ (in_Mdl w h)) tk_Mdl n_Mdl rfl 37 (by decide) (List.mem_cons_of_mem _ tw_776) rfl hmn rfl (by decide +kernel) rfl rfl (Nat.le_of_ble_eq_true rfl) rfl rfl (Nat.le_of_ble_eq_true rfl) ?_
  refine z_congr (M' := va_up (enc a ca SM (τt 0)) 0 (.inr (9, [.int 0, .int 0, .ref (a + 1), .ref (a + 2), .ref (a + 3), .ref (a + 4), .ref (a + 5), .ref (a + 6), .ref (a + 7), .ref (a + 8), .ref (a + 9), .ref (a + 10), .ref (a + 11), .ref (a + 12), .ref (a + 13), .ref (a + 14), .ref (a + 15), .ref (a + 16), .ref (a + 17), .ref (a + 18), .ref (a + 19), .ref (a + 20), .ref (a + 21), .ref (a + 22), .ref (a + 23), .ref (a + 24), .int 0, .int 0, .int 0, .int 0, .int 0, .int 0, .ref (a + 25), .ref (a + 26), .ref (a + 27), .ref (a + 28), .ref (a + 29), .ref (a + 30), .long 0, .long 0, .double FP.dconst0, .int 0, .int 0, .int 0, .int 0, .int 0]))) (it_m (n := 30) (Nat.le_of_ble_eq_true rfl) rfl rfl) ?_
  refine z_iconst C (v := 0) d_Mdl_init_283 (by decide) ?_
  refine z_istore_n C d_Mdl_init_284 rfl (by decide) [(1, .int 0), (0, .ref a)] rfl ?_
  refine z_congr (n := 31) (M' := enc a ca SM (τt 0)) (fun o _ => it_z rfl o) ?_
  exact Mdl_loop C hret 0 (by decide)
