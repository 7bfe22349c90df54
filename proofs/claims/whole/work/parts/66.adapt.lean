/-! The adapters of the law: each calls one method of the bus and gives the number of what it threw, or 0. -/
theorem d_Law_join_0 : decode b_Law_join 0 = .ok (.aload_n 2, 1) := by decide +kernel
theorem d_Law_join_1 : decode b_Law_join 1 = .ok (.iconst 0, 1) := by decide +kernel
theorem d_Law_join_2 : decode b_Law_join 2 = .ok (.aload_n 0, 1) := by decide +kernel
theorem d_Law_join_3 : decode b_Law_join 3 = .ok (.iload_n 1, 1) := by decide +kernel
theorem d_Law_join_4 : decode b_Law_join 4 = .ok (.invokevirtual 7, 3) := by decide +kernel
theorem d_Law_join_7 : decode b_Law_join 7 = .ok (.i2l, 1) := by decide +kernel
theorem d_Law_join_8 : decode b_Law_join 8 = .ok (.lastore, 1) := by decide +kernel
theorem d_Law_join_9 : decode b_Law_join 9 = .ok (.goto 9, 3) := by decide +kernel
theorem d_Law_join_12 : decode b_Law_join 12 = .ok (.astore_n 3, 1) := by decide +kernel
theorem d_Law_join_13 : decode b_Law_join 13 = .ok (.iconst 1, 1) := by decide +kernel
theorem d_Law_join_14 : decode b_Law_join 14 = .ok (.ireturn, 1) := by decide +kernel
theorem d_Law_join_15 : decode b_Law_join 15 = .ok (.astore_n 3, 1) := by decide +kernel
theorem d_Law_join_16 : decode b_Law_join 16 = .ok (.iconst 2, 1) := by decide +kernel
theorem d_Law_join_17 : decode b_Law_join 17 = .ok (.ireturn, 1) := by decide +kernel
theorem d_Law_join_18 : decode b_Law_join 18 = .ok (.iconst 0, 1) := by decide +kernel
theorem d_Law_join_19 : decode b_Law_join 19 = .ok (.ireturn, 1) := by decide +kernel
abbrev w_Law_join : List Cond := Cond.codeWith y_Law_join b_Law_join 4 (some .int) [(0, 9, 12, 13), (0, 9, 15, 15)] :: gtb
theorem tv_Law_join : Cond.codeWith y_Law_join b_Law_join 4 (some .int) [(0, 9, 12, 13), (0, 9, 15, 15)] ∈ gtb := gtb_of (tb_2 (List.mem_of_getElem? (i := 39) (by decide +kernel))) (by decide +kernel)
theorem pd_Law_join : y_Law_join.cls = "RobotBusLaw" ∧ y_Law_join.cls ≠ "java/lang/invoke/MethodHandle" ∧ y_Law_join.cls ≠ "java/lang/invoke/VarHandle" ∧ (parseMethodDescriptor y_Law_join.desc).map (fun d => d.parameters.length) = some 3 := by decide +kernel
theorem d_Law_leave_0 : decode b_Law_leave 0 = .ok (.aload_n 2, 1) := by decide +kernel
theorem d_Law_leave_1 : decode b_Law_leave 1 = .ok (.iconst 0, 1) := by decide +kernel
theorem d_Law_leave_2 : decode b_Law_leave 2 = .ok (.aload_n 0, 1) := by decide +kernel
theorem d_Law_leave_3 : decode b_Law_leave 3 = .ok (.iload_n 1, 1) := by decide +kernel
theorem d_Law_leave_4 : decode b_Law_leave 4 = .ok (.invokevirtual 17, 3) := by decide +kernel
theorem d_Law_leave_7 : decode b_Law_leave 7 = .ok (.i2l, 1) := by decide +kernel
theorem d_Law_leave_8 : decode b_Law_leave 8 = .ok (.lastore, 1) := by decide +kernel
theorem d_Law_leave_9 : decode b_Law_leave 9 = .ok (.goto 6, 3) := by decide +kernel
theorem d_Law_leave_12 : decode b_Law_leave 12 = .ok (.astore_n 3, 1) := by decide +kernel
theorem d_Law_leave_13 : decode b_Law_leave 13 = .ok (.iconst 1, 1) := by decide +kernel
theorem d_Law_leave_14 : decode b_Law_leave 14 = .ok (.ireturn, 1) := by decide +kernel
theorem d_Law_leave_15 : decode b_Law_leave 15 = .ok (.iconst 0, 1) := by decide +kernel
theorem d_Law_leave_16 : decode b_Law_leave 16 = .ok (.ireturn, 1) := by decide +kernel
abbrev w_Law_leave : List Cond := Cond.codeWith y_Law_leave b_Law_leave 4 (some .int) [(0, 9, 12, 20)] :: gtb
theorem tv_Law_leave : Cond.codeWith y_Law_leave b_Law_leave 4 (some .int) [(0, 9, 12, 20)] ∈ gtb := gtb_of (tb_2 (List.mem_of_getElem? (i := 137) (by decide +kernel))) (by decide +kernel)
theorem pd_Law_leave : y_Law_leave.cls = "RobotBusLaw" ∧ y_Law_leave.cls ≠ "java/lang/invoke/MethodHandle" ∧ y_Law_leave.cls ≠ "java/lang/invoke/VarHandle" ∧ (parseMethodDescriptor y_Law_leave.desc).map (fun d => d.parameters.length) = some 3 := by decide +kernel
theorem d_Law_latch_0 : decode b_Law_latch 0 = .ok (.aload_n 3, 1) := by decide +kernel
theorem d_Law_latch_1 : decode b_Law_latch 1 = .ok (.iconst 0, 1) := by decide +kernel
theorem d_Law_latch_2 : decode b_Law_latch 2 = .ok (.aload_n 0, 1) := by decide +kernel
theorem d_Law_latch_3 : decode b_Law_latch 3 = .ok (.iload_n 1, 1) := by decide +kernel
theorem d_Law_latch_4 : decode b_Law_latch 4 = .ok (.iload_n 2, 1) := by decide +kernel
theorem d_Law_latch_5 : decode b_Law_latch 5 = .ok (.invokevirtual 22, 3) := by decide +kernel
theorem d_Law_latch_8 : decode b_Law_latch 8 = .ok (.i2l, 1) := by decide +kernel
theorem d_Law_latch_9 : decode b_Law_latch 9 = .ok (.lastore, 1) := by decide +kernel
theorem d_Law_latch_10 : decode b_Law_latch 10 = .ok (.goto 7, 3) := by decide +kernel
theorem d_Law_latch_13 : decode b_Law_latch 13 = .ok (.astore 4, 2) := by decide +kernel
theorem d_Law_latch_15 : decode b_Law_latch 15 = .ok (.iconst 1, 1) := by decide +kernel
theorem d_Law_latch_16 : decode b_Law_latch 16 = .ok (.ireturn, 1) := by decide +kernel
theorem d_Law_latch_17 : decode b_Law_latch 17 = .ok (.iconst 0, 1) := by decide +kernel
theorem d_Law_latch_18 : decode b_Law_latch 18 = .ok (.ireturn, 1) := by decide +kernel
abbrev w_Law_latch : List Cond := Cond.codeWith y_Law_latch b_Law_latch 5 (some .int) [(0, 10, 13, 13)] :: gtb
theorem tv_Law_latch : Cond.codeWith y_Law_latch b_Law_latch 5 (some .int) [(0, 10, 13, 13)] ∈ gtb := gtb_of (tb_2 (List.mem_of_getElem? (i := 173) (by decide +kernel))) (by decide +kernel)
theorem pd_Law_latch : y_Law_latch.cls = "RobotBusLaw" ∧ y_Law_latch.cls ≠ "java/lang/invoke/MethodHandle" ∧ y_Law_latch.cls ≠ "java/lang/invoke/VarHandle" ∧ (parseMethodDescriptor y_Law_latch.desc).map (fun d => d.parameters.length) = some 4 := by decide +kernel
theorem d_Law_subscribe_0 : decode b_Law_subscribe 0 = .ok (.aload 4, 2) := by decide +kernel
theorem d_Law_subscribe_2 : decode b_Law_subscribe 2 = .ok (.iconst 0, 1) := by decide +kernel
theorem d_Law_subscribe_3 : decode b_Law_subscribe 3 = .ok (.aload_n 0, 1) := by decide +kernel
theorem d_Law_subscribe_4 : decode b_Law_subscribe 4 = .ok (.iload_n 1, 1) := by decide +kernel
theorem d_Law_subscribe_5 : decode b_Law_subscribe 5 = .ok (.iload_n 2, 1) := by decide +kernel
theorem d_Law_subscribe_6 : decode b_Law_subscribe 6 = .ok (.iload_n 3, 1) := by decide +kernel
theorem d_Law_subscribe_7 : decode b_Law_subscribe 7 = .ok (.invokevirtual 26, 3) := by decide +kernel
theorem d_Law_subscribe_10 : decode b_Law_subscribe 10 = .ok (.i2l, 1) := by decide +kernel
theorem d_Law_subscribe_11 : decode b_Law_subscribe 11 = .ok (.lastore, 1) := by decide +kernel
theorem d_Law_subscribe_12 : decode b_Law_subscribe 12 = .ok (.goto 11, 3) := by decide +kernel
theorem d_Law_subscribe_15 : decode b_Law_subscribe 15 = .ok (.astore 5, 2) := by decide +kernel
theorem d_Law_subscribe_17 : decode b_Law_subscribe 17 = .ok (.iconst 1, 1) := by decide +kernel
theorem d_Law_subscribe_18 : decode b_Law_subscribe 18 = .ok (.ireturn, 1) := by decide +kernel
theorem d_Law_subscribe_19 : decode b_Law_subscribe 19 = .ok (.astore 5, 2) := by decide +kernel
theorem d_Law_subscribe_21 : decode b_Law_subscribe 21 = .ok (.iconst 2, 1) := by decide +kernel
theorem d_Law_subscribe_22 : decode b_Law_subscribe 22 = .ok (.ireturn, 1) := by decide +kernel
theorem d_Law_subscribe_23 : decode b_Law_subscribe 23 = .ok (.iconst 0, 1) := by decide +kernel
theorem d_Law_subscribe_24 : decode b_Law_subscribe 24 = .ok (.ireturn, 1) := by decide +kernel
abbrev w_Law_subscribe : List Cond := Cond.codeWith y_Law_subscribe b_Law_subscribe 6 (some .int) [(0, 12, 15, 20), (0, 12, 19, 13)] :: gtb
theorem tv_Law_subscribe : Cond.codeWith y_Law_subscribe b_Law_subscribe 6 (some .int) [(0, 12, 15, 20), (0, 12, 19, 13)] ∈ gtb := gtb_of (tb_2 (List.mem_of_getElem? (i := 181) (by decide +kernel))) (by decide +kernel)
theorem pd_Law_subscribe : y_Law_subscribe.cls = "RobotBusLaw" ∧ y_Law_subscribe.cls ≠ "java/lang/invoke/MethodHandle" ∧ y_Law_subscribe.cls ≠ "java/lang/invoke/VarHandle" ∧ (parseMethodDescriptor y_Law_subscribe.desc).map (fun d => d.parameters.length) = some 5 := by decide +kernel
theorem d_Law_unsubscribe_0 : decode b_Law_unsubscribe 0 = .ok (.aload_n 3, 1) := by decide +kernel
theorem d_Law_unsubscribe_1 : decode b_Law_unsubscribe 1 = .ok (.iconst 0, 1) := by decide +kernel
theorem d_Law_unsubscribe_2 : decode b_Law_unsubscribe 2 = .ok (.aload_n 0, 1) := by decide +kernel
theorem d_Law_unsubscribe_3 : decode b_Law_unsubscribe 3 = .ok (.iload_n 1, 1) := by decide +kernel
theorem d_Law_unsubscribe_4 : decode b_Law_unsubscribe 4 = .ok (.iload_n 2, 1) := by decide +kernel
theorem d_Law_unsubscribe_5 : decode b_Law_unsubscribe 5 = .ok (.invokevirtual 30, 3) := by decide +kernel
theorem d_Law_unsubscribe_8 : decode b_Law_unsubscribe 8 = .ok (.i2l, 1) := by decide +kernel
theorem d_Law_unsubscribe_9 : decode b_Law_unsubscribe 9 = .ok (.lastore, 1) := by decide +kernel
theorem d_Law_unsubscribe_10 : decode b_Law_unsubscribe 10 = .ok (.goto 11, 3) := by decide +kernel
theorem d_Law_unsubscribe_13 : decode b_Law_unsubscribe 13 = .ok (.astore 4, 2) := by decide +kernel
theorem d_Law_unsubscribe_15 : decode b_Law_unsubscribe 15 = .ok (.iconst 1, 1) := by decide +kernel
theorem d_Law_unsubscribe_16 : decode b_Law_unsubscribe 16 = .ok (.ireturn, 1) := by decide +kernel
theorem d_Law_unsubscribe_17 : decode b_Law_unsubscribe 17 = .ok (.astore 4, 2) := by decide +kernel
theorem d_Law_unsubscribe_19 : decode b_Law_unsubscribe 19 = .ok (.iconst 2, 1) := by decide +kernel
theorem d_Law_unsubscribe_20 : decode b_Law_unsubscribe 20 = .ok (.ireturn, 1) := by decide +kernel
theorem d_Law_unsubscribe_21 : decode b_Law_unsubscribe 21 = .ok (.iconst 0, 1) := by decide +kernel
theorem d_Law_unsubscribe_22 : decode b_Law_unsubscribe 22 = .ok (.ireturn, 1) := by decide +kernel
abbrev w_Law_unsubscribe : List Cond := Cond.codeWith y_Law_unsubscribe b_Law_unsubscribe 5 (some .int) [(0, 10, 13, 20), (0, 10, 17, 13)] :: gtb
theorem tv_Law_unsubscribe : Cond.codeWith y_Law_unsubscribe b_Law_unsubscribe 5 (some .int) [(0, 10, 13, 20), (0, 10, 17, 13)] ∈ gtb := gtb_of (tb_2 (List.mem_of_getElem? (i := 214) (by decide +kernel))) (by decide +kernel)
theorem pd_Law_unsubscribe : y_Law_unsubscribe.cls = "RobotBusLaw" ∧ y_Law_unsubscribe.cls ≠ "java/lang/invoke/MethodHandle" ∧ y_Law_unsubscribe.cls ≠ "java/lang/invoke/VarHandle" ∧ (parseMethodDescriptor y_Law_unsubscribe.desc).map (fun d => d.parameters.length) = some 4 := by decide +kernel
theorem d_Law_publish_0 : decode b_Law_publish 0 = .ok (.aload 4, 2) := by decide +kernel
theorem d_Law_publish_2 : decode b_Law_publish 2 = .ok (.iconst 0, 1) := by decide +kernel
theorem d_Law_publish_3 : decode b_Law_publish 3 = .ok (.aload_n 0, 1) := by decide +kernel
theorem d_Law_publish_4 : decode b_Law_publish 4 = .ok (.iload_n 1, 1) := by decide +kernel
theorem d_Law_publish_5 : decode b_Law_publish 5 = .ok (.iload_n 2, 1) := by decide +kernel
theorem d_Law_publish_6 : decode b_Law_publish 6 = .ok (.iload_n 3, 1) := by decide +kernel
theorem d_Law_publish_7 : decode b_Law_publish 7 = .ok (.invokevirtual 34, 3) := by decide +kernel
theorem d_Law_publish_10 : decode b_Law_publish 10 = .ok (.i2l, 1) := by decide +kernel
theorem d_Law_publish_11 : decode b_Law_publish 11 = .ok (.lastore, 1) := by decide +kernel
theorem d_Law_publish_12 : decode b_Law_publish 12 = .ok (.goto 11, 3) := by decide +kernel
theorem d_Law_publish_15 : decode b_Law_publish 15 = .ok (.astore 5, 2) := by decide +kernel
theorem d_Law_publish_17 : decode b_Law_publish 17 = .ok (.iconst 1, 1) := by decide +kernel
theorem d_Law_publish_18 : decode b_Law_publish 18 = .ok (.ireturn, 1) := by decide +kernel
theorem d_Law_publish_19 : decode b_Law_publish 19 = .ok (.astore 5, 2) := by decide +kernel
theorem d_Law_publish_21 : decode b_Law_publish 21 = .ok (.iconst 2, 1) := by decide +kernel
theorem d_Law_publish_22 : decode b_Law_publish 22 = .ok (.ireturn, 1) := by decide +kernel
theorem d_Law_publish_23 : decode b_Law_publish 23 = .ok (.iconst 0, 1) := by decide +kernel
theorem d_Law_publish_24 : decode b_Law_publish 24 = .ok (.ireturn, 1) := by decide +kernel
abbrev w_Law_publish : List Cond := Cond.codeWith y_Law_publish b_Law_publish 6 (some .int) [(0, 12, 15, 20), (0, 12, 19, 13)] :: gtb
theorem tv_Law_publish : Cond.codeWith y_Law_publish b_Law_publish 6 (some .int) [(0, 12, 15, 20), (0, 12, 19, 13)] ∈ gtb := gtb_of (tb_2 (List.mem_of_getElem? (i := 223) (by decide +kernel))) (by decide +kernel)
theorem pd_Law_publish : y_Law_publish.cls = "RobotBusLaw" ∧ y_Law_publish.cls ≠ "java/lang/invoke/MethodHandle" ∧ y_Law_publish.cls ≠ "java/lang/invoke/VarHandle" ∧ (parseMethodDescriptor y_Law_publish.desc).map (fun d => d.parameters.length) = some 5 := by decide +kernel
theorem d_Law_act_0 : decode b_Law_act 0 = .ok (.aload 6, 2) := by decide +kernel
theorem d_Law_act_2 : decode b_Law_act 2 = .ok (.iconst 0, 1) := by decide +kernel
theorem d_Law_act_3 : decode b_Law_act 3 = .ok (.aload_n 0, 1) := by decide +kernel
theorem d_Law_act_4 : decode b_Law_act 4 = .ok (.iload_n 1, 1) := by decide +kernel
theorem d_Law_act_5 : decode b_Law_act 5 = .ok (.iload_n 2, 1) := by decide +kernel
theorem d_Law_act_6 : decode b_Law_act 6 = .ok (.iload_n 3, 1) := by decide +kernel
theorem d_Law_act_7 : decode b_Law_act 7 = .ok (.iload 4, 2) := by decide +kernel
theorem d_Law_act_9 : decode b_Law_act 9 = .ok (.iload 5, 2) := by decide +kernel
theorem d_Law_act_11 : decode b_Law_act 11 = .ok (.invokevirtual 37, 3) := by decide +kernel
theorem d_Law_act_14 : decode b_Law_act 14 = .ok (.i2l, 1) := by decide +kernel
theorem d_Law_act_15 : decode b_Law_act 15 = .ok (.lastore, 1) := by decide +kernel
theorem d_Law_act_16 : decode b_Law_act 16 = .ok (.goto 11, 3) := by decide +kernel
theorem d_Law_act_19 : decode b_Law_act 19 = .ok (.astore 7, 2) := by decide +kernel
theorem d_Law_act_21 : decode b_Law_act 21 = .ok (.iconst 1, 1) := by decide +kernel
theorem d_Law_act_22 : decode b_Law_act 22 = .ok (.ireturn, 1) := by decide +kernel
theorem d_Law_act_23 : decode b_Law_act 23 = .ok (.astore 7, 2) := by decide +kernel
theorem d_Law_act_25 : decode b_Law_act 25 = .ok (.iconst 2, 1) := by decide +kernel
theorem d_Law_act_26 : decode b_Law_act 26 = .ok (.ireturn, 1) := by decide +kernel
theorem d_Law_act_27 : decode b_Law_act 27 = .ok (.iconst 0, 1) := by decide +kernel
theorem d_Law_act_28 : decode b_Law_act 28 = .ok (.ireturn, 1) := by decide +kernel
abbrev w_Law_act : List Cond := Cond.codeWith y_Law_act b_Law_act 8 (some .int) [(0, 16, 19, 20), (0, 16, 23, 13)] :: gtb
theorem tv_Law_act : Cond.codeWith y_Law_act b_Law_act 8 (some .int) [(0, 16, 19, 20), (0, 16, 23, 13)] ∈ gtb := gtb_of (tb_3 (List.mem_of_getElem? (i := 2) (by decide +kernel))) (by decide +kernel)
theorem pd_Law_act : y_Law_act.cls = "RobotBusLaw" ∧ y_Law_act.cls ≠ "java/lang/invoke/MethodHandle" ∧ y_Law_act.cls ≠ "java/lang/invoke/VarHandle" ∧ (parseMethodDescriptor y_Law_act.desc).map (fun d => d.parameters.length) = some 7 := by decide +kernel
theorem d_Law_offer_0 : decode b_Law_offer 0 = .ok (.aload 6, 2) := by decide +kernel
theorem d_Law_offer_2 : decode b_Law_offer 2 = .ok (.iconst 0, 1) := by decide +kernel
theorem d_Law_offer_3 : decode b_Law_offer 3 = .ok (.aload_n 0, 1) := by decide +kernel
theorem d_Law_offer_4 : decode b_Law_offer 4 = .ok (.iload_n 1, 1) := by decide +kernel
theorem d_Law_offer_5 : decode b_Law_offer 5 = .ok (.iload_n 2, 1) := by decide +kernel
theorem d_Law_offer_6 : decode b_Law_offer 6 = .ok (.iload_n 3, 1) := by decide +kernel
theorem d_Law_offer_7 : decode b_Law_offer 7 = .ok (.iload 4, 2) := by decide +kernel
theorem d_Law_offer_9 : decode b_Law_offer 9 = .ok (.iload 5, 2) := by decide +kernel
theorem d_Law_offer_11 : decode b_Law_offer 11 = .ok (.invokevirtual 41, 3) := by decide +kernel
theorem d_Law_offer_14 : decode b_Law_offer 14 = .ok (.i2l, 1) := by decide +kernel
theorem d_Law_offer_15 : decode b_Law_offer 15 = .ok (.lastore, 1) := by decide +kernel
theorem d_Law_offer_16 : decode b_Law_offer 16 = .ok (.goto 11, 3) := by decide +kernel
theorem d_Law_offer_19 : decode b_Law_offer 19 = .ok (.astore 7, 2) := by decide +kernel
theorem d_Law_offer_21 : decode b_Law_offer 21 = .ok (.iconst 1, 1) := by decide +kernel
theorem d_Law_offer_22 : decode b_Law_offer 22 = .ok (.ireturn, 1) := by decide +kernel
theorem d_Law_offer_23 : decode b_Law_offer 23 = .ok (.astore 7, 2) := by decide +kernel
theorem d_Law_offer_25 : decode b_Law_offer 25 = .ok (.iconst 2, 1) := by decide +kernel
theorem d_Law_offer_26 : decode b_Law_offer 26 = .ok (.ireturn, 1) := by decide +kernel
theorem d_Law_offer_27 : decode b_Law_offer 27 = .ok (.iconst 0, 1) := by decide +kernel
theorem d_Law_offer_28 : decode b_Law_offer 28 = .ok (.ireturn, 1) := by decide +kernel
abbrev w_Law_offer : List Cond := Cond.codeWith y_Law_offer b_Law_offer 8 (some .int) [(0, 16, 19, 20), (0, 16, 23, 13)] :: gtb
theorem tv_Law_offer : Cond.codeWith y_Law_offer b_Law_offer 8 (some .int) [(0, 16, 19, 20), (0, 16, 23, 13)] ∈ gtb := gtb_of (tb_3 (List.mem_of_getElem? (i := 13) (by decide +kernel))) (by decide +kernel)
theorem pd_Law_offer : y_Law_offer.cls = "RobotBusLaw" ∧ y_Law_offer.cls ≠ "java/lang/invoke/MethodHandle" ∧ y_Law_offer.cls ≠ "java/lang/invoke/VarHandle" ∧ (parseMethodDescriptor y_Law_offer.desc).map (fun d => d.parameters.length) = some 7 := by decide +kernel
theorem d_Law_call_0 : decode b_Law_call 0 = .ok (.aload_n 3, 1) := by decide +kernel
theorem d_Law_call_1 : decode b_Law_call 1 = .ok (.iconst 0, 1) := by decide +kernel
theorem d_Law_call_2 : decode b_Law_call 2 = .ok (.aload_n 0, 1) := by decide +kernel
theorem d_Law_call_3 : decode b_Law_call 3 = .ok (.iload_n 1, 1) := by decide +kernel
theorem d_Law_call_4 : decode b_Law_call 4 = .ok (.iload_n 2, 1) := by decide +kernel
theorem d_Law_call_5 : decode b_Law_call 5 = .ok (.invokevirtual 44, 3) := by decide +kernel
theorem d_Law_call_8 : decode b_Law_call 8 = .ok (.i2l, 1) := by decide +kernel
theorem d_Law_call_9 : decode b_Law_call 9 = .ok (.lastore, 1) := by decide +kernel
theorem d_Law_call_10 : decode b_Law_call 10 = .ok (.goto 15, 3) := by decide +kernel
theorem d_Law_call_13 : decode b_Law_call 13 = .ok (.astore 4, 2) := by decide +kernel
theorem d_Law_call_15 : decode b_Law_call 15 = .ok (.iconst 1, 1) := by decide +kernel
theorem d_Law_call_16 : decode b_Law_call 16 = .ok (.ireturn, 1) := by decide +kernel
theorem d_Law_call_17 : decode b_Law_call 17 = .ok (.astore 4, 2) := by decide +kernel
theorem d_Law_call_19 : decode b_Law_call 19 = .ok (.iconst 2, 1) := by decide +kernel
theorem d_Law_call_20 : decode b_Law_call 20 = .ok (.ireturn, 1) := by decide +kernel
theorem d_Law_call_21 : decode b_Law_call 21 = .ok (.astore 4, 2) := by decide +kernel
theorem d_Law_call_23 : decode b_Law_call 23 = .ok (.iconst 3, 1) := by decide +kernel
theorem d_Law_call_24 : decode b_Law_call 24 = .ok (.ireturn, 1) := by decide +kernel
theorem d_Law_call_25 : decode b_Law_call 25 = .ok (.iconst 0, 1) := by decide +kernel
theorem d_Law_call_26 : decode b_Law_call 26 = .ok (.ireturn, 1) := by decide +kernel
abbrev w_Law_call : List Cond := Cond.codeWith y_Law_call b_Law_call 5 (some .int) [(0, 10, 13, 13), (0, 10, 17, 20), (0, 10, 21, 47)] :: gtb
theorem tv_Law_call : Cond.codeWith y_Law_call b_Law_call 5 (some .int) [(0, 10, 13, 13), (0, 10, 17, 20), (0, 10, 21, 47)] ∈ gtb := gtb_of (tb_3 (List.mem_of_getElem? (i := 24) (by decide +kernel))) (by decide +kernel)
theorem pd_Law_call : y_Law_call.cls = "RobotBusLaw" ∧ y_Law_call.cls ≠ "java/lang/invoke/MethodHandle" ∧ y_Law_call.cls ≠ "java/lang/invoke/VarHandle" ∧ (parseMethodDescriptor y_Law_call.desc).map (fun d => d.parameters.length) = some 4 := by decide +kernel
theorem d_Law_tick_0 : decode b_Law_tick 0 = .ok (.aload_n 2, 1) := by decide +kernel
theorem d_Law_tick_1 : decode b_Law_tick 1 = .ok (.iconst 0, 1) := by decide +kernel
theorem d_Law_tick_2 : decode b_Law_tick 2 = .ok (.aload_n 0, 1) := by decide +kernel
theorem d_Law_tick_3 : decode b_Law_tick 3 = .ok (.iload_n 1, 1) := by decide +kernel
theorem d_Law_tick_4 : decode b_Law_tick 4 = .ok (.invokevirtual 49, 3) := by decide +kernel
theorem d_Law_tick_7 : decode b_Law_tick 7 = .ok (.i2l, 1) := by decide +kernel
theorem d_Law_tick_8 : decode b_Law_tick 8 = .ok (.lastore, 1) := by decide +kernel
theorem d_Law_tick_9 : decode b_Law_tick 9 = .ok (.goto 6, 3) := by decide +kernel
theorem d_Law_tick_12 : decode b_Law_tick 12 = .ok (.astore_n 3, 1) := by decide +kernel
theorem d_Law_tick_13 : decode b_Law_tick 13 = .ok (.iconst 1, 1) := by decide +kernel
theorem d_Law_tick_14 : decode b_Law_tick 14 = .ok (.ireturn, 1) := by decide +kernel
theorem d_Law_tick_15 : decode b_Law_tick 15 = .ok (.iconst 0, 1) := by decide +kernel
theorem d_Law_tick_16 : decode b_Law_tick 16 = .ok (.ireturn, 1) := by decide +kernel
abbrev w_Law_tick : List Cond := Cond.codeWith y_Law_tick b_Law_tick 4 (some .int) [(0, 9, 12, 13)] :: gtb
theorem tv_Law_tick : Cond.codeWith y_Law_tick b_Law_tick 4 (some .int) [(0, 9, 12, 13)] ∈ gtb := gtb_of (tb_3 (List.mem_of_getElem? (i := 58) (by decide +kernel))) (by decide +kernel)
theorem pd_Law_tick : y_Law_tick.cls = "RobotBusLaw" ∧ y_Law_tick.cls ≠ "java/lang/invoke/MethodHandle" ∧ y_Law_tick.cls ≠ "java/lang/invoke/VarHandle" ∧ (parseMethodDescriptor y_Law_tick.desc).map (fun d => d.parameters.length) = some 3 := by decide +kernel
theorem d_Law_variable_0 : decode b_Law_variable 0 = .ok (.aload_n 3, 1) := by decide +kernel
theorem d_Law_variable_1 : decode b_Law_variable 1 = .ok (.iconst 0, 1) := by decide +kernel
theorem d_Law_variable_2 : decode b_Law_variable 2 = .ok (.aload_n 0, 1) := by decide +kernel
theorem d_Law_variable_3 : decode b_Law_variable 3 = .ok (.iload_n 1, 1) := by decide +kernel
theorem d_Law_variable_4 : decode b_Law_variable 4 = .ok (.iload_n 2, 1) := by decide +kernel
theorem d_Law_variable_5 : decode b_Law_variable 5 = .ok (.invokevirtual 52, 3) := by decide +kernel
theorem d_Law_variable_8 : decode b_Law_variable 8 = .ok (.i2l, 1) := by decide +kernel
theorem d_Law_variable_9 : decode b_Law_variable 9 = .ok (.lastore, 1) := by decide +kernel
theorem d_Law_variable_10 : decode b_Law_variable 10 = .ok (.goto 11, 3) := by decide +kernel
theorem d_Law_variable_13 : decode b_Law_variable 13 = .ok (.astore 4, 2) := by decide +kernel
theorem d_Law_variable_15 : decode b_Law_variable 15 = .ok (.iconst 1, 1) := by decide +kernel
theorem d_Law_variable_16 : decode b_Law_variable 16 = .ok (.ireturn, 1) := by decide +kernel
theorem d_Law_variable_17 : decode b_Law_variable 17 = .ok (.astore 4, 2) := by decide +kernel
theorem d_Law_variable_19 : decode b_Law_variable 19 = .ok (.iconst 2, 1) := by decide +kernel
theorem d_Law_variable_20 : decode b_Law_variable 20 = .ok (.ireturn, 1) := by decide +kernel
theorem d_Law_variable_21 : decode b_Law_variable 21 = .ok (.iconst 0, 1) := by decide +kernel
theorem d_Law_variable_22 : decode b_Law_variable 22 = .ok (.ireturn, 1) := by decide +kernel
abbrev w_Law_variable : List Cond := Cond.codeWith y_Law_variable b_Law_variable 5 (some .int) [(0, 10, 13, 20), (0, 10, 17, 13)] :: gtb
theorem tv_Law_variable : Cond.codeWith y_Law_variable b_Law_variable 5 (some .int) [(0, 10, 13, 20), (0, 10, 17, 13)] ∈ gtb := gtb_of (tb_3 (List.mem_of_getElem? (i := 103) (by decide +kernel))) (by decide +kernel)
theorem pd_Law_variable : y_Law_variable.cls = "RobotBusLaw" ∧ y_Law_variable.cls ≠ "java/lang/invoke/MethodHandle" ∧ y_Law_variable.cls ≠ "java/lang/invoke/VarHandle" ∧ (parseMethodDescriptor y_Law_variable.desc).map (fun d => d.parameters.length) = some 4 := by decide +kernel
theorem d_Law_queued_0 : decode b_Law_queued 0 = .ok (.aload 5, 2) := by decide +kernel
theorem d_Law_queued_2 : decode b_Law_queued 2 = .ok (.iconst 0, 1) := by decide +kernel
theorem d_Law_queued_3 : decode b_Law_queued 3 = .ok (.aload_n 0, 1) := by decide +kernel
theorem d_Law_queued_4 : decode b_Law_queued 4 = .ok (.iload_n 1, 1) := by decide +kernel
theorem d_Law_queued_5 : decode b_Law_queued 5 = .ok (.iload_n 2, 1) := by decide +kernel
theorem d_Law_queued_6 : decode b_Law_queued 6 = .ok (.iload_n 3, 1) := by decide +kernel
theorem d_Law_queued_7 : decode b_Law_queued 7 = .ok (.iload 4, 2) := by decide +kernel
theorem d_Law_queued_9 : decode b_Law_queued 9 = .ok (.invokevirtual 55, 3) := by decide +kernel
theorem d_Law_queued_12 : decode b_Law_queued 12 = .ok (.i2l, 1) := by decide +kernel
theorem d_Law_queued_13 : decode b_Law_queued 13 = .ok (.lastore, 1) := by decide +kernel
theorem d_Law_queued_14 : decode b_Law_queued 14 = .ok (.goto 11, 3) := by decide +kernel
theorem d_Law_queued_17 : decode b_Law_queued 17 = .ok (.astore 6, 2) := by decide +kernel
theorem d_Law_queued_19 : decode b_Law_queued 19 = .ok (.iconst 1, 1) := by decide +kernel
theorem d_Law_queued_20 : decode b_Law_queued 20 = .ok (.ireturn, 1) := by decide +kernel
theorem d_Law_queued_21 : decode b_Law_queued 21 = .ok (.astore 6, 2) := by decide +kernel
theorem d_Law_queued_23 : decode b_Law_queued 23 = .ok (.iconst 2, 1) := by decide +kernel
theorem d_Law_queued_24 : decode b_Law_queued 24 = .ok (.ireturn, 1) := by decide +kernel
theorem d_Law_queued_25 : decode b_Law_queued 25 = .ok (.iconst 0, 1) := by decide +kernel
theorem d_Law_queued_26 : decode b_Law_queued 26 = .ok (.ireturn, 1) := by decide +kernel
abbrev w_Law_queued : List Cond := Cond.codeWith y_Law_queued b_Law_queued 7 (some .int) [(0, 14, 17, 20), (0, 14, 21, 13)] :: gtb
theorem tv_Law_queued : Cond.codeWith y_Law_queued b_Law_queued 7 (some .int) [(0, 14, 17, 20), (0, 14, 21, 13)] ∈ gtb := gtb_of (tb_3 (List.mem_of_getElem? (i := 111) (by decide +kernel))) (by decide +kernel)
theorem pd_Law_queued : y_Law_queued.cls = "RobotBusLaw" ∧ y_Law_queued.cls ≠ "java/lang/invoke/MethodHandle" ∧ y_Law_queued.cls ≠ "java/lang/invoke/VarHandle" ∧ (parseMethodDescriptor y_Law_queued.desc).map (fun d => d.parameters.length) = some 6 := by decide +kernel
theorem d_Law_keep_0 : decode b_Law_keep 0 = .ok (.aload_n 3, 1) := by decide +kernel
theorem d_Law_keep_1 : decode b_Law_keep 1 = .ok (.iconst 0, 1) := by decide +kernel
theorem d_Law_keep_2 : decode b_Law_keep 2 = .ok (.aload_n 0, 1) := by decide +kernel
theorem d_Law_keep_3 : decode b_Law_keep 3 = .ok (.iload_n 1, 1) := by decide +kernel
theorem d_Law_keep_4 : decode b_Law_keep 4 = .ok (.iload_n 2, 1) := by decide +kernel
theorem d_Law_keep_5 : decode b_Law_keep 5 = .ok (.invokevirtual 59, 3) := by decide +kernel
theorem d_Law_keep_8 : decode b_Law_keep 8 = .ok (.i2l, 1) := by decide +kernel
theorem d_Law_keep_9 : decode b_Law_keep 9 = .ok (.lastore, 1) := by decide +kernel
theorem d_Law_keep_10 : decode b_Law_keep 10 = .ok (.goto 7, 3) := by decide +kernel
theorem d_Law_keep_13 : decode b_Law_keep 13 = .ok (.astore 4, 2) := by decide +kernel
theorem d_Law_keep_15 : decode b_Law_keep 15 = .ok (.iconst 1, 1) := by decide +kernel
theorem d_Law_keep_16 : decode b_Law_keep 16 = .ok (.ireturn, 1) := by decide +kernel
theorem d_Law_keep_17 : decode b_Law_keep 17 = .ok (.iconst 0, 1) := by decide +kernel
theorem d_Law_keep_18 : decode b_Law_keep 18 = .ok (.ireturn, 1) := by decide +kernel
abbrev w_Law_keep : List Cond := Cond.codeWith y_Law_keep b_Law_keep 5 (some .int) [(0, 10, 13, 13)] :: gtb
theorem tv_Law_keep : Cond.codeWith y_Law_keep b_Law_keep 5 (some .int) [(0, 10, 13, 13)] ∈ gtb := gtb_of (tb_3 (List.mem_of_getElem? (i := 122) (by decide +kernel))) (by decide +kernel)
theorem pd_Law_keep : y_Law_keep.cls = "RobotBusLaw" ∧ y_Law_keep.cls ≠ "java/lang/invoke/MethodHandle" ∧ y_Law_keep.cls ≠ "java/lang/invoke/VarHandle" ∧ (parseMethodDescriptor y_Law_keep.desc).map (fun d => d.parameters.length) = some 4 := by decide +kernel
theorem d_Law_play_0 : decode b_Law_play 0 = .ok (.aload_n 2, 1) := by decide +kernel
theorem d_Law_play_1 : decode b_Law_play 1 = .ok (.iconst 0, 1) := by decide +kernel
theorem d_Law_play_2 : decode b_Law_play 2 = .ok (.aload_n 0, 1) := by decide +kernel
theorem d_Law_play_3 : decode b_Law_play 3 = .ok (.iload_n 1, 1) := by decide +kernel
theorem d_Law_play_4 : decode b_Law_play 4 = .ok (.invokevirtual 62, 3) := by decide +kernel
theorem d_Law_play_7 : decode b_Law_play 7 = .ok (.i2l, 1) := by decide +kernel
theorem d_Law_play_8 : decode b_Law_play 8 = .ok (.lastore, 1) := by decide +kernel
theorem d_Law_play_9 : decode b_Law_play 9 = .ok (.goto 12, 3) := by decide +kernel
theorem d_Law_play_12 : decode b_Law_play 12 = .ok (.astore_n 3, 1) := by decide +kernel
theorem d_Law_play_13 : decode b_Law_play 13 = .ok (.iconst 1, 1) := by decide +kernel
theorem d_Law_play_14 : decode b_Law_play 14 = .ok (.ireturn, 1) := by decide +kernel
theorem d_Law_play_15 : decode b_Law_play 15 = .ok (.astore_n 3, 1) := by decide +kernel
theorem d_Law_play_16 : decode b_Law_play 16 = .ok (.iconst 2, 1) := by decide +kernel
theorem d_Law_play_17 : decode b_Law_play 17 = .ok (.ireturn, 1) := by decide +kernel
theorem d_Law_play_18 : decode b_Law_play 18 = .ok (.astore_n 3, 1) := by decide +kernel
theorem d_Law_play_19 : decode b_Law_play 19 = .ok (.iconst 3, 1) := by decide +kernel
theorem d_Law_play_20 : decode b_Law_play 20 = .ok (.ireturn, 1) := by decide +kernel
theorem d_Law_play_21 : decode b_Law_play 21 = .ok (.iconst 0, 1) := by decide +kernel
theorem d_Law_play_22 : decode b_Law_play 22 = .ok (.ireturn, 1) := by decide +kernel
abbrev w_Law_play : List Cond := Cond.codeWith y_Law_play b_Law_play 4 (some .int) [(0, 9, 12, 13), (0, 9, 15, 15), (0, 9, 18, 65)] :: gtb
theorem tv_Law_play : Cond.codeWith y_Law_play b_Law_play 4 (some .int) [(0, 9, 12, 13), (0, 9, 15, 15), (0, 9, 18, 65)] ∈ gtb := gtb_of (tb_3 (List.mem_of_getElem? (i := 129) (by decide +kernel))) (by decide +kernel)
theorem pd_Law_play : y_Law_play.cls = "RobotBusLaw" ∧ y_Law_play.cls ≠ "java/lang/invoke/MethodHandle" ∧ y_Law_play.cls ≠ "java/lang/invoke/VarHandle" ∧ (parseMethodDescriptor y_Law_play.desc).map (fun d => d.parameters.length) = some 3 := by decide +kernel
theorem d_Law_empty_0 : decode b_Law_empty 0 = .ok (.aload_n 1, 1) := by decide +kernel
theorem d_Law_empty_1 : decode b_Law_empty 1 = .ok (.iconst 0, 1) := by decide +kernel
theorem d_Law_empty_2 : decode b_Law_empty 2 = .ok (.aload_n 0, 1) := by decide +kernel
theorem d_Law_empty_3 : decode b_Law_empty 3 = .ok (.invokevirtual 67, 3) := by decide +kernel
theorem d_Law_empty_6 : decode b_Law_empty 6 = .ok (.i2l, 1) := by decide +kernel
theorem d_Law_empty_7 : decode b_Law_empty 7 = .ok (.lastore, 1) := by decide +kernel
theorem d_Law_empty_8 : decode b_Law_empty 8 = .ok (.goto 6, 3) := by decide +kernel
theorem d_Law_empty_11 : decode b_Law_empty 11 = .ok (.astore_n 2, 1) := by decide +kernel
theorem d_Law_empty_12 : decode b_Law_empty 12 = .ok (.iconst 1, 1) := by decide +kernel
theorem d_Law_empty_13 : decode b_Law_empty 13 = .ok (.ireturn, 1) := by decide +kernel
theorem d_Law_empty_14 : decode b_Law_empty 14 = .ok (.iconst 0, 1) := by decide +kernel
theorem d_Law_empty_15 : decode b_Law_empty 15 = .ok (.ireturn, 1) := by decide +kernel
abbrev w_Law_empty : List Cond := Cond.codeWith y_Law_empty b_Law_empty 3 (some .int) [(0, 8, 11, 15)] :: gtb
theorem tv_Law_empty : Cond.codeWith y_Law_empty b_Law_empty 3 (some .int) [(0, 8, 11, 15)] ∈ gtb := gtb_of (tb_3 (List.mem_of_getElem? (i := 160) (by decide +kernel))) (by decide +kernel)
theorem pd_Law_empty : y_Law_empty.cls = "RobotBusLaw" ∧ y_Law_empty.cls ≠ "java/lang/invoke/MethodHandle" ∧ y_Law_empty.cls ≠ "java/lang/invoke/VarHandle" ∧ (parseMethodDescriptor y_Law_empty.desc).map (fun d => d.parameters.length) = some 2 := by decide +kernel
theorem d_Law_mount_0 : decode b_Law_mount 0 = .ok (.aload_n 3, 1) := by decide +kernel
theorem d_Law_mount_1 : decode b_Law_mount 1 = .ok (.iconst 0, 1) := by decide +kernel
theorem d_Law_mount_2 : decode b_Law_mount 2 = .ok (.aload_n 0, 1) := by decide +kernel
theorem d_Law_mount_3 : decode b_Law_mount 3 = .ok (.iload_n 1, 1) := by decide +kernel
theorem d_Law_mount_4 : decode b_Law_mount 4 = .ok (.iload_n 2, 1) := by decide +kernel
theorem d_Law_mount_5 : decode b_Law_mount 5 = .ok (.invokevirtual 71, 3) := by decide +kernel
theorem d_Law_mount_8 : decode b_Law_mount 8 = .ok (.i2l, 1) := by decide +kernel
theorem d_Law_mount_9 : decode b_Law_mount 9 = .ok (.lastore, 1) := by decide +kernel
theorem d_Law_mount_10 : decode b_Law_mount 10 = .ok (.goto 11, 3) := by decide +kernel
theorem d_Law_mount_13 : decode b_Law_mount 13 = .ok (.astore 4, 2) := by decide +kernel
theorem d_Law_mount_15 : decode b_Law_mount 15 = .ok (.iconst 1, 1) := by decide +kernel
theorem d_Law_mount_16 : decode b_Law_mount 16 = .ok (.ireturn, 1) := by decide +kernel
theorem d_Law_mount_17 : decode b_Law_mount 17 = .ok (.astore 4, 2) := by decide +kernel
theorem d_Law_mount_19 : decode b_Law_mount 19 = .ok (.iconst 2, 1) := by decide +kernel
theorem d_Law_mount_20 : decode b_Law_mount 20 = .ok (.ireturn, 1) := by decide +kernel
theorem d_Law_mount_21 : decode b_Law_mount 21 = .ok (.iconst 0, 1) := by decide +kernel
theorem d_Law_mount_22 : decode b_Law_mount 22 = .ok (.ireturn, 1) := by decide +kernel
abbrev w_Law_mount : List Cond := Cond.codeWith y_Law_mount b_Law_mount 5 (some .int) [(0, 10, 13, 13), (0, 10, 17, 15)] :: gtb
theorem tv_Law_mount : Cond.codeWith y_Law_mount b_Law_mount 5 (some .int) [(0, 10, 13, 13), (0, 10, 17, 15)] ∈ gtb := gtb_of (tb_3 (List.mem_of_getElem? (i := 167) (by decide +kernel))) (by decide +kernel)
theorem pd_Law_mount : y_Law_mount.cls = "RobotBusLaw" ∧ y_Law_mount.cls ≠ "java/lang/invoke/MethodHandle" ∧ y_Law_mount.cls ≠ "java/lang/invoke/VarHandle" ∧ (parseMethodDescriptor y_Law_mount.desc).map (fun d => d.parameters.length) = some 4 := by decide +kernel
theorem d_Law_sample_0 : decode b_Law_sample 0 = .ok (.aload 8, 2) := by decide +kernel
theorem d_Law_sample_2 : decode b_Law_sample 2 = .ok (.iconst 0, 1) := by decide +kernel
theorem d_Law_sample_3 : decode b_Law_sample 3 = .ok (.aload_n 0, 1) := by decide +kernel
theorem d_Law_sample_4 : decode b_Law_sample 4 = .ok (.iload_n 1, 1) := by decide +kernel
theorem d_Law_sample_5 : decode b_Law_sample 5 = .ok (.iload_n 2, 1) := by decide +kernel
theorem d_Law_sample_6 : decode b_Law_sample 6 = .ok (.dload_n 3, 1) := by decide +kernel
theorem d_Law_sample_7 : decode b_Law_sample 7 = .ok (.dload 5, 2) := by decide +kernel
theorem d_Law_sample_9 : decode b_Law_sample 9 = .ok (.iload 7, 2) := by decide +kernel
theorem d_Law_sample_11 : decode b_Law_sample 11 = .ok (.invokevirtual 74, 3) := by decide +kernel
theorem d_Law_sample_14 : decode b_Law_sample 14 = .ok (.i2l, 1) := by decide +kernel
theorem d_Law_sample_15 : decode b_Law_sample 15 = .ok (.lastore, 1) := by decide +kernel
theorem d_Law_sample_16 : decode b_Law_sample 16 = .ok (.goto 15, 3) := by decide +kernel
theorem d_Law_sample_19 : decode b_Law_sample 19 = .ok (.astore 9, 2) := by decide +kernel
theorem d_Law_sample_21 : decode b_Law_sample 21 = .ok (.iconst 1, 1) := by decide +kernel
theorem d_Law_sample_22 : decode b_Law_sample 22 = .ok (.ireturn, 1) := by decide +kernel
theorem d_Law_sample_23 : decode b_Law_sample 23 = .ok (.astore 9, 2) := by decide +kernel
theorem d_Law_sample_25 : decode b_Law_sample 25 = .ok (.iconst 2, 1) := by decide +kernel
theorem d_Law_sample_26 : decode b_Law_sample 26 = .ok (.ireturn, 1) := by decide +kernel
theorem d_Law_sample_27 : decode b_Law_sample 27 = .ok (.astore 9, 2) := by decide +kernel
theorem d_Law_sample_29 : decode b_Law_sample 29 = .ok (.iconst 3, 1) := by decide +kernel
theorem d_Law_sample_30 : decode b_Law_sample 30 = .ok (.ireturn, 1) := by decide +kernel
theorem d_Law_sample_31 : decode b_Law_sample 31 = .ok (.iconst 0, 1) := by decide +kernel
theorem d_Law_sample_32 : decode b_Law_sample 32 = .ok (.ireturn, 1) := by decide +kernel
abbrev w_Law_sample : List Cond := Cond.codeWith y_Law_sample b_Law_sample 10 (some .int) [(0, 16, 19, 20), (0, 16, 23, 13), (0, 16, 27, 15)] :: gtb
theorem tv_Law_sample : Cond.codeWith y_Law_sample b_Law_sample 10 (some .int) [(0, 16, 19, 20), (0, 16, 23, 13), (0, 16, 27, 15)] ∈ gtb := gtb_of (tb_3 (List.mem_of_getElem? (i := 180) (by decide +kernel))) (by decide +kernel)
theorem pd_Law_sample : y_Law_sample.cls = "RobotBusLaw" ∧ y_Law_sample.cls ≠ "java/lang/invoke/MethodHandle" ∧ y_Law_sample.cls ≠ "java/lang/invoke/VarHandle" ∧ (parseMethodDescriptor y_Law_sample.desc).map (fun d => d.parameters.length) = some 7 := by decide +kernel
theorem d_Law_locate_0 : decode b_Law_locate 0 = .ok (.aload 7, 2) := by decide +kernel
theorem d_Law_locate_2 : decode b_Law_locate 2 = .ok (.iconst 0, 1) := by decide +kernel
theorem d_Law_locate_3 : decode b_Law_locate 3 = .ok (.aload_n 0, 1) := by decide +kernel
theorem d_Law_locate_4 : decode b_Law_locate 4 = .ok (.iload_n 1, 1) := by decide +kernel
theorem d_Law_locate_5 : decode b_Law_locate 5 = .ok (.iload_n 2, 1) := by decide +kernel
theorem d_Law_locate_6 : decode b_Law_locate 6 = .ok (.dload_n 3, 1) := by decide +kernel
theorem d_Law_locate_7 : decode b_Law_locate 7 = .ok (.dload 5, 2) := by decide +kernel
theorem d_Law_locate_9 : decode b_Law_locate 9 = .ok (.invokevirtual 78, 3) := by decide +kernel
theorem d_Law_locate_12 : decode b_Law_locate 12 = .ok (.dastore, 1) := by decide +kernel
theorem d_Law_locate_13 : decode b_Law_locate 13 = .ok (.goto 15, 3) := by decide +kernel
theorem d_Law_locate_16 : decode b_Law_locate 16 = .ok (.astore 8, 2) := by decide +kernel
theorem d_Law_locate_18 : decode b_Law_locate 18 = .ok (.iconst 1, 1) := by decide +kernel
theorem d_Law_locate_19 : decode b_Law_locate 19 = .ok (.ireturn, 1) := by decide +kernel
theorem d_Law_locate_20 : decode b_Law_locate 20 = .ok (.astore 8, 2) := by decide +kernel
theorem d_Law_locate_22 : decode b_Law_locate 22 = .ok (.iconst 2, 1) := by decide +kernel
theorem d_Law_locate_23 : decode b_Law_locate 23 = .ok (.ireturn, 1) := by decide +kernel
theorem d_Law_locate_24 : decode b_Law_locate 24 = .ok (.astore 8, 2) := by decide +kernel
theorem d_Law_locate_26 : decode b_Law_locate 26 = .ok (.iconst 3, 1) := by decide +kernel
theorem d_Law_locate_27 : decode b_Law_locate 27 = .ok (.ireturn, 1) := by decide +kernel
theorem d_Law_locate_28 : decode b_Law_locate 28 = .ok (.iconst 0, 1) := by decide +kernel
theorem d_Law_locate_29 : decode b_Law_locate 29 = .ok (.ireturn, 1) := by decide +kernel
abbrev w_Law_locate : List Cond := Cond.codeWith y_Law_locate b_Law_locate 9 (some .int) [(0, 13, 16, 13), (0, 13, 20, 20), (0, 13, 24, 47)] :: gtb
theorem tv_Law_locate : Cond.codeWith y_Law_locate b_Law_locate 9 (some .int) [(0, 13, 16, 13), (0, 13, 20, 20), (0, 13, 24, 47)] ∈ gtb := gtb_of (tb_3 (List.mem_of_getElem? (i := 213) (by decide +kernel))) (by decide +kernel)
theorem pd_Law_locate : y_Law_locate.cls = "RobotBusLaw" ∧ y_Law_locate.cls ≠ "java/lang/invoke/MethodHandle" ∧ y_Law_locate.cls ≠ "java/lang/invoke/VarHandle" ∧ (parseMethodDescriptor y_Law_locate.desc).map (fun d => d.parameters.length) = some 6 := by decide +kernel
theorem d_Law_count_0 : decode b_Law_count 0 = .ok (.aload_n 2, 1) := by decide +kernel
theorem d_Law_count_1 : decode b_Law_count 1 = .ok (.iconst 0, 1) := by decide +kernel
theorem d_Law_count_2 : decode b_Law_count 2 = .ok (.aload_n 0, 1) := by decide +kernel
theorem d_Law_count_3 : decode b_Law_count 3 = .ok (.iload_n 1, 1) := by decide +kernel
theorem d_Law_count_4 : decode b_Law_count 4 = .ok (.invokevirtual 82, 3) := by decide +kernel
theorem d_Law_count_7 : decode b_Law_count 7 = .ok (.i2l, 1) := by decide +kernel
theorem d_Law_count_8 : decode b_Law_count 8 = .ok (.lastore, 1) := by decide +kernel
theorem d_Law_count_9 : decode b_Law_count 9 = .ok (.goto 6, 3) := by decide +kernel
theorem d_Law_count_12 : decode b_Law_count 12 = .ok (.astore_n 3, 1) := by decide +kernel
theorem d_Law_count_13 : decode b_Law_count 13 = .ok (.iconst 1, 1) := by decide +kernel
theorem d_Law_count_14 : decode b_Law_count 14 = .ok (.ireturn, 1) := by decide +kernel
theorem d_Law_count_15 : decode b_Law_count 15 = .ok (.iconst 0, 1) := by decide +kernel
theorem d_Law_count_16 : decode b_Law_count 16 = .ok (.ireturn, 1) := by decide +kernel
abbrev w_Law_count : List Cond := Cond.codeWith y_Law_count b_Law_count 4 (some .int) [(0, 9, 12, 13)] :: gtb
theorem tv_Law_count : Cond.codeWith y_Law_count b_Law_count 4 (some .int) [(0, 9, 12, 13)] ∈ gtb := gtb_of (tb_4 (List.mem_of_getElem? (i := 7) (by decide +kernel))) (by decide +kernel)
theorem pd_Law_count : y_Law_count.cls = "RobotBusLaw" ∧ y_Law_count.cls ≠ "java/lang/invoke/MethodHandle" ∧ y_Law_count.cls ≠ "java/lang/invoke/VarHandle" ∧ (parseMethodDescriptor y_Law_count.desc).map (fun d => d.parameters.length) = some 3 := by decide +kernel
section DA
variable {l : Launch} {D : va_G} {cl : List vw_C} {tys : List (ClassId × FieldType)} {b n : Nat} {R : Room} {nL : Nat} {X : Zx} {k sl : Nat} {M : Nat → va_E} {pc : Nat} {L : List (Nat × Value)} {st : List Value} {cc : ByteArray} {own : String} {Ts : List Cond}
theorem z_dast (C : Cx D cl tys cc nL own Ts X) {cA : ClassId} {N a o : Nat} {f : Nat → UInt64} {i : Int32} {x : UInt64} (hd : decode cc pc = .ok (.dastore, 1)) (t0 : Nat) (ht : tys[t0]? = some (cA, .double)) (ho : o < n) (ha : b + o = a) (hM : M o = .inl (cA, N, .inr (.inr (.inr (.inl f))))) (hin : vp_in i N) (kk : Z l D cl b n R nL X k sl (va_up M o (.inl (cA, N, .inr (.inr (.inr (.inl (vf_upd f i.toNatClampNeg x))))))) (pc + 1) L st) : Z l D cl b n R nL X k sl M pc L (.double x :: .int i :: .ref a :: st) := by
  obtain ⟨p, e, s, m, args, below, meth, c, Q⟩ := X
  obtain ⟨hx, hb, hml, hown, hts, hK⟩ := C
  exact fun H locs ls hP hS hl => va_dast hx hb hK hP mA_D hS o t0 (mw_at ho ha hM) ht hin hd (fun H1 locs1 hP1 _ hS1 => kk H1 locs1 ls (by rw [mw_setA ho ha] at hP1; exact hP1) hS1 hl)
end DA
theorem LM_x {B : Nat} {ca : Nat → ClassId} {σ τ : Sg} {x x' : Nat → Int64} {y : Nat → UInt64} : va_up (LM B ca σ τ x y) 213 (.inl (ca 8, 1, .inr (.inl x'))) = LM B ca σ τ x' y := by
  funext o
  by_cases h : o = 213
  · subst h
    rw [va_up_self]
    rfl
  · rw [va_up_ne _ _ h]
    unfold LM
    rw [if_neg h, if_neg h]
theorem LM_y {B : Nat} {ca : Nat → ClassId} {σ τ : Sg} {x : Nat → Int64} {y y' : Nat → UInt64} : ∀ o, o < 215 → va_up (LM B ca σ τ x y) 214 (.inl (ca 9, 1, .inr (.inr (.inr (.inl y'))))) o = LM B ca σ τ x y' o := by
  intro o ho
  by_cases h : o = 214
  · subst h
    rw [va_up_self]
    rfl
  · rw [va_up_ne _ _ h]
    unfold LM
    by_cases h1 : o < 182
    · rw [if_pos h1, if_pos h1]
    · by_cases h2 : o < 213
      · rw [if_neg h1, if_pos h2, if_neg h1, if_pos h2]
      · rw [if_neg h1, if_neg h2, if_pos (by omega), if_neg h1, if_neg h2, if_pos (by omega)]
/-- what a method's function can give: an int, or one of the types -/
def OkI (ks : List String) (r : Out) : Prop := (∃ i, r = .inl (.int i)) ∨ ∃ c, c ∈ ks ∧ r = .inr c
def OkD (ks : List String) (r : Out) : Prop := (∃ i, r = .inl (.double i)) ∨ ∃ c, c ∈ ks ∧ r = .inr c
/-- an adapter's end -/
def pA (ks : List String) (F : Out × Sg) : Int32 → Sg → (Nat → Int64) → (Nat → UInt64) → Prop := fun r σ' x' _ => r = cd ks F.1 ∧ σ' = F.2 ∧ ∀ v, F.1 = .inl (.int v) → x' 0 = v.toInt64
def pD (ks : List String) (F : Out × Sg) : Int32 → Sg → (Nat → Int64) → (Nat → UInt64) → Prop := fun r σ' _ y' => r = cd ks F.1 ∧ σ' = F.2 ∧ ∀ v, F.1 = .inl (.double v) → y' 0 = v
theorem ok_join (σ : Sg) (x : Int32) : OkI [xIAE, xISE] (joinF σ x).1 := by
  unfold joinF
  repeat' split
  all_goals first | exact Or.inl ⟨_, rfl⟩ | exact Or.inr ⟨_, by simp, rfl⟩
set_option maxRecDepth 100000 in
set_option maxHeartbeats 4000000 in
theorem c_Law_join (l : Launch) (hl : l.stackTraces = false) (D : va_G) (ca : Nat → ClassId) (B : Nat) (σ τ : Sg) (xo : Nat → Int64) (yo : Nat → UInt64) (x : Int32) : CtA l D ca B y_Law_join w_Law_join (rmX 7 103) σ τ xo yo [.ref (B + 0), .int x, .ref (B + 213)] (pA [xIAE, xISE] (joinF σ x)) := by
  refine ct_a "RobotBusLaw" [(0, .ref (B + 0)), (1, .int x), (2, .ref (B + 213))] (by decide) rfl (Nat.le_of_ble_eq_true rfl) rfl (fun X C hE htab hret => ?_)
  refine z_aload_n C d_Law_join_0 rfl 2 rfl ?_
  refine z_iconst C (v := 0) d_Law_join_1 (by decide) ?_
  refine z_aload_n C d_Law_join_2 rfl 0 rfl ?_
  refine z_iload_n C d_Law_join_3 rfl 1 rfl ?_
  refine z_try (F := (joinF σ x)) (hN := [((0, 9, 12, 13), xIAE), ((0, 9, 15, 15), xISE)]) (st := [.int 0, .ref (B + 213)]) C hE htab d_Law_join_4 (c_Bus_join l hl D ca B σ x) tw_282 tw_283 tw_284 tw_1 tw_285 pd_Bus_join ⟨⟨by decide, by decide⟩, rfl, rfl, by decide, by decide⟩ (Nat.le_of_ble_eq_true rfl) (fun cls hc => ?_) ?_ (fun v9 hv => ?_) (fun cls hc => ?_) rfl
  · rcases ok_join σ x with ⟨i, h⟩ | ⟨c, h1, h2⟩
    · rw [hc] at h; cases h
    · rw [hc] at h2
      cases h2
      simp only [List.mem_cons, List.not_mem_nil, or_false] at h1
      rcases h1 with rfl | rfl <;> decide
  · intro q hq
    simp only [List.mem_cons, List.not_mem_nil, or_false] at hq
    rcases hq with rfl | rfl
    · exact ⟨tw_280, by decide, by decide, by decide⟩
    · exact ⟨tw_281, by decide, by decide, by decide⟩
  · have h9 := ok_join σ x
    rw [hv] at h9
    rcases h9 with ⟨i, h⟩ | ⟨c, h1, h2⟩
    · cases h
      refine z_i2l C d_Law_join_7 ?_
      refine z_last C (o := 213) d_Law_join_8 8 rfl (by decide) rfl rfl (by unfold vp_in; decide) ?_
      refine z_map LM_x ?_
      refine z_goto C 18 d_Law_join_9 (by decide) ?_
      refine z_iconst C (v := 0) d_Law_join_18 (by decide) ?_
      exact hret _ _ _ _ _ _ d_Law_join_19 ⟨by rw [hv]; rfl, rfl, fun v h => by rw [hv] at h; cases h; rfl⟩
    · cases h2
  · have h9 := ok_join σ x
    rw [hc] at h9
    rcases h9 with ⟨i, h⟩ | ⟨c, h1, h2⟩
    · cases h
    · cases h2
      simp only [List.mem_cons, List.not_mem_nil, or_false] at h1
      rcases h1 with rfl | rfl
      · refine ⟨12, by decide, fun a' => ?_⟩
        refine z_astore_n C d_Law_join_12 rfl (by decide) [(3, .ref a'), (0, .ref (B + 0)), (1, .int x), (2, .ref (B + 213))] rfl ?_
        refine z_iconst C (v := 1) d_Law_join_13 (by decide) ?_
        exact hret _ _ _ _ _ _ d_Law_join_14 ⟨by rw [hc]; decide, rfl, fun v h => by rw [hc] at h; cases h⟩
      · refine ⟨15, by decide, fun a' => ?_⟩
        refine z_astore_n C d_Law_join_15 rfl (by decide) [(3, .ref a'), (0, .ref (B + 0)), (1, .int x), (2, .ref (B + 213))] rfl ?_
        refine z_iconst C (v := 2) d_Law_join_16 (by decide) ?_
        exact hret _ _ _ _ _ _ d_Law_join_17 ⟨by rw [hc]; decide, rfl, fun v h => by rw [hc] at h; cases h⟩
theorem ok_leave (σ : Sg) (x : Int32) : OkI [xNSE] (leaveF σ x).1 := by
  unfold leaveF
  repeat' split
  all_goals first | exact Or.inl ⟨_, rfl⟩ | exact Or.inr ⟨_, by simp, rfl⟩
set_option maxRecDepth 100000 in
set_option maxHeartbeats 4000000 in
theorem c_Law_leave (l : Launch) (hl : l.stackTraces = false) (D : va_G) (ca : Nat → ClassId) (B : Nat) (σ τ : Sg) (xo : Nat → Int64) (yo : Nat → UInt64) (x : Int32) : CtA l D ca B y_Law_leave w_Law_leave (rmX 7 104) σ τ xo yo [.ref (B + 0), .int x, .ref (B + 213)] (pA [xNSE] (leaveF σ x)) := by
  refine ct_a "RobotBusLaw" [(0, .ref (B + 0)), (1, .int x), (2, .ref (B + 213))] (by decide) rfl (Nat.le_of_ble_eq_true rfl) rfl (fun X C hE htab hret => ?_)
  refine z_aload_n C d_Law_leave_0 rfl 2 rfl ?_
  refine z_iconst C (v := 0) d_Law_leave_1 (by decide) ?_
  refine z_aload_n C d_Law_leave_2 rfl 0 rfl ?_
  refine z_iload_n C d_Law_leave_3 rfl 1 rfl ?_
  refine z_try (F := (leaveF σ x)) (hN := [((0, 9, 12, 20), xNSE)]) (st := [.int 0, .ref (B + 213)]) C hE htab d_Law_leave_4 (c_Bus_leave l hl D ca B σ x) tw_379 tw_380 tw_381 tw_1 tw_382 pd_Bus_leave ⟨⟨by decide, by decide⟩, rfl, rfl, by decide, by decide⟩ (Nat.le_of_ble_eq_true rfl) (fun cls hc => ?_) ?_ (fun v9 hv => ?_) (fun cls hc => ?_) rfl
  · rcases ok_leave σ x with ⟨i, h⟩ | ⟨c, h1, h2⟩
    · rw [hc] at h; cases h
    · rw [hc] at h2
      cases h2
      simp only [List.mem_cons, List.not_mem_nil, or_false] at h1
      rcases h1 with rfl <;> decide
  · intro q hq
    simp only [List.mem_cons, List.not_mem_nil, or_false] at hq
    rcases hq with rfl
    · exact ⟨tw_378, by decide, by decide, by decide⟩
  · have h9 := ok_leave σ x
    rw [hv] at h9
    rcases h9 with ⟨i, h⟩ | ⟨c, h1, h2⟩
    · cases h
      refine z_i2l C d_Law_leave_7 ?_
      refine z_last C (o := 213) d_Law_leave_8 8 rfl (by decide) rfl rfl (by unfold vp_in; decide) ?_
      refine z_map LM_x ?_
      refine z_goto C 15 d_Law_leave_9 (by decide) ?_
      refine z_iconst C (v := 0) d_Law_leave_15 (by decide) ?_
      exact hret _ _ _ _ _ _ d_Law_leave_16 ⟨by rw [hv]; rfl, rfl, fun v h => by rw [hv] at h; cases h; rfl⟩
    · cases h2
  · have h9 := ok_leave σ x
    rw [hc] at h9
    rcases h9 with ⟨i, h⟩ | ⟨c, h1, h2⟩
    · cases h
    · cases h2
      simp only [List.mem_cons, List.not_mem_nil, or_false] at h1
      rcases h1 with rfl
      · refine ⟨12, by decide, fun a' => ?_⟩
        refine z_astore_n C d_Law_leave_12 rfl (by decide) [(3, .ref a'), (0, .ref (B + 0)), (1, .int x), (2, .ref (B + 213))] rfl ?_
        refine z_iconst C (v := 1) d_Law_leave_13 (by decide) ?_
        exact hret _ _ _ _ _ _ d_Law_leave_14 ⟨by rw [hc]; decide, rfl, fun v h => by rw [hc] at h; cases h⟩
theorem ok_latch (σ : Sg) (x o : Int32) : OkI [xIAE] (latchF σ x o).1 := by
  unfold latchF
  repeat' split
  all_goals first | exact Or.inl ⟨_, rfl⟩ | exact Or.inr ⟨_, by simp, rfl⟩
set_option maxRecDepth 100000 in
set_option maxHeartbeats 4000000 in
theorem c_Law_latch (l : Launch) (hl : l.stackTraces = false) (D : va_G) (ca : Nat → ClassId) (B : Nat) (σ τ : Sg) (xo : Nat → Int64) (yo : Nat → UInt64) (x o : Int32) (ho : o = 0 ∨ o = 1) : CtA l D ca B y_Law_latch w_Law_latch (rmX 7 105) σ τ xo yo [.ref (B + 0), .int x, .int o, .ref (B + 213)] (pA [xIAE] (latchF σ x o)) := by
  refine ct_a "RobotBusLaw" [(0, .ref (B + 0)), (1, .int x), (2, .int o), (3, .ref (B + 213))] (by decide) rfl (Nat.le_of_ble_eq_true rfl) rfl (fun X C hE htab hret => ?_)
  refine z_aload_n C d_Law_latch_0 rfl 3 rfl ?_
  refine z_iconst C (v := 0) d_Law_latch_1 (by decide) ?_
  refine z_aload_n C d_Law_latch_2 rfl 0 rfl ?_
  refine z_iload_n C d_Law_latch_3 rfl 1 rfl ?_
  refine z_iload_n C d_Law_latch_4 rfl 2 rfl ?_
  refine z_try (F := (latchF σ x o)) (hN := [((0, 10, 13, 13), xIAE)]) (st := [.int 0, .ref (B + 213)]) C hE htab d_Law_latch_5 (c_Bus_latch l hl D ca B σ x o ho) tw_414 tw_415 tw_416 tw_1 tw_417 pd_Bus_latch ⟨⟨by decide, by decide⟩, rfl, rfl, by decide, by decide⟩ (Nat.le_of_ble_eq_true rfl) (fun cls hc => ?_) ?_ (fun v9 hv => ?_) (fun cls hc => ?_) rfl
  · rcases ok_latch σ x o with ⟨i, h⟩ | ⟨c, h1, h2⟩
    · rw [hc] at h; cases h
    · rw [hc] at h2
      cases h2
      simp only [List.mem_cons, List.not_mem_nil, or_false] at h1
      rcases h1 with rfl <;> decide
  · intro q hq
    simp only [List.mem_cons, List.not_mem_nil, or_false] at hq
    rcases hq with rfl
    · exact ⟨tw_280, by decide, by decide, by decide⟩
  · have h9 := ok_latch σ x o
    rw [hv] at h9
    rcases h9 with ⟨i, h⟩ | ⟨c, h1, h2⟩
    · cases h
      refine z_i2l C d_Law_latch_8 ?_
      refine z_last C (o := 213) d_Law_latch_9 8 rfl (by decide) rfl rfl (by unfold vp_in; decide) ?_
      refine z_map LM_x ?_
      refine z_goto C 17 d_Law_latch_10 (by decide) ?_
      refine z_iconst C (v := 0) d_Law_latch_17 (by decide) ?_
      exact hret _ _ _ _ _ _ d_Law_latch_18 ⟨by rw [hv]; rfl, rfl, fun v h => by rw [hv] at h; cases h; rfl⟩
    · cases h2
  · have h9 := ok_latch σ x o
    rw [hc] at h9
    rcases h9 with ⟨i, h⟩ | ⟨c, h1, h2⟩
    · cases h
    · cases h2
      simp only [List.mem_cons, List.not_mem_nil, or_false] at h1
      rcases h1 with rfl
      · refine ⟨13, by decide, fun a' => ?_⟩
        refine z_astore C d_Law_latch_13 (by decide) [(4, .ref a'), (0, .ref (B + 0)), (1, .int x), (2, .int o), (3, .ref (B + 213))] rfl ?_
        refine z_iconst C (v := 1) d_Law_latch_15 (by decide) ?_
        exact hret _ _ _ _ _ _ d_Law_latch_16 ⟨by rw [hc]; decide, rfl, fun v h => by rw [hc] at h; cases h⟩
theorem ok_subscribe (σ : Sg) (x y d : Int32) : OkI [xNSE, xIAE] (subF σ x y d).1 := by
  unfold subF
  repeat' split
  all_goals first | exact Or.inl ⟨_, rfl⟩ | exact Or.inr ⟨_, by simp, rfl⟩
set_option maxRecDepth 100000 in
set_option maxHeartbeats 4000000 in
theorem c_Law_subscribe (l : Launch) (hl : l.stackTraces = false) (D : va_G) (ca : Nat → ClassId) (B : Nat) (σ τ : Sg) (xo : Nat → Int64) (yo : Nat → UInt64) (x y d : Int32) (hB : BI σ) : CtA l D ca B y_Law_subscribe w_Law_subscribe (rmX 7 116) σ τ xo yo [.ref (B + 0), .int x, .int y, .int d, .ref (B + 213)] (pA [xNSE, xIAE] (subF σ x y d)) := by
  refine ct_a "RobotBusLaw" [(0, .ref (B + 0)), (1, .int x), (2, .int y), (3, .int d), (4, .ref (B + 213))] (by decide) rfl (Nat.le_of_ble_eq_true rfl) rfl (fun X C hE htab hret => ?_)
  refine z_aload C d_Law_subscribe_0 4 rfl ?_
  refine z_iconst C (v := 0) d_Law_subscribe_2 (by decide) ?_
  refine z_aload_n C d_Law_subscribe_3 rfl 0 rfl ?_
  refine z_iload_n C d_Law_subscribe_4 rfl 1 rfl ?_
  refine z_iload_n C d_Law_subscribe_5 rfl 2 rfl ?_
  refine z_iload_n C d_Law_subscribe_6 rfl 3 rfl ?_
  refine z_try (F := (subF σ x y d)) (hN := [((0, 12, 15, 20), xNSE), ((0, 12, 19, 13), xIAE)]) (st := [.int 0, .ref (B + 213)]) C hE htab d_Law_subscribe_7 (c_Bus_subscribe l hl D ca B σ x y d hB) tw_422 tw_423 tw_424 tw_1 tw_425 pd_Bus_subscribe ⟨⟨by decide, by decide⟩, rfl, rfl, by decide, by decide⟩ (Nat.le_of_ble_eq_true rfl) (fun cls hc => ?_) ?_ (fun v9 hv => ?_) (fun cls hc => ?_) rfl
  · rcases ok_subscribe σ x y d with ⟨i, h⟩ | ⟨c, h1, h2⟩
    · rw [hc] at h; cases h
    · rw [hc] at h2
      cases h2
      simp only [List.mem_cons, List.not_mem_nil, or_false] at h1
      rcases h1 with rfl | rfl <;> decide
  · intro q hq
    simp only [List.mem_cons, List.not_mem_nil, or_false] at hq
    rcases hq with rfl | rfl
    · exact ⟨tw_378, by decide, by decide, by decide⟩
    · exact ⟨tw_280, by decide, by decide, by decide⟩
  · have h9 := ok_subscribe σ x y d
    rw [hv] at h9
    rcases h9 with ⟨i, h⟩ | ⟨c, h1, h2⟩
    · cases h
      refine z_i2l C d_Law_subscribe_10 ?_
      refine z_last C (o := 213) d_Law_subscribe_11 8 rfl (by decide) rfl rfl (by unfold vp_in; decide) ?_
      refine z_map LM_x ?_
      refine z_goto C 23 d_Law_subscribe_12 (by decide) ?_
      refine z_iconst C (v := 0) d_Law_subscribe_23 (by decide) ?_
      exact hret _ _ _ _ _ _ d_Law_subscribe_24 ⟨by rw [hv]; rfl, rfl, fun v h => by rw [hv] at h; cases h; rfl⟩
    · cases h2
  · have h9 := ok_subscribe σ x y d
    rw [hc] at h9
    rcases h9 with ⟨i, h⟩ | ⟨c, h1, h2⟩
    · cases h
    · cases h2
      simp only [List.mem_cons, List.not_mem_nil, or_false] at h1
      rcases h1 with rfl | rfl
      · refine ⟨15, by decide, fun a' => ?_⟩
        refine z_astore C d_Law_subscribe_15 (by decide) [(5, .ref a'), (0, .ref (B + 0)), (1, .int x), (2, .int y), (3, .int d), (4, .ref (B + 213))] rfl ?_
        refine z_iconst C (v := 1) d_Law_subscribe_17 (by decide) ?_
        exact hret _ _ _ _ _ _ d_Law_subscribe_18 ⟨by rw [hc]; decide, rfl, fun v h => by rw [hc] at h; cases h⟩
      · refine ⟨19, by decide, fun a' => ?_⟩
        refine z_astore C d_Law_subscribe_19 (by decide) [(5, .ref a'), (0, .ref (B + 0)), (1, .int x), (2, .int y), (3, .int d), (4, .ref (B + 213))] rfl ?_
        refine z_iconst C (v := 2) d_Law_subscribe_21 (by decide) ?_
        exact hret _ _ _ _ _ _ d_Law_subscribe_22 ⟨by rw [hc]; decide, rfl, fun v h => by rw [hc] at h; cases h⟩
theorem ok_unsubscribe (σ : Sg) (x t : Int32) : OkI [xNSE, xIAE] (unsubF σ x t).1 := by
  unfold unsubF
  repeat' split
  all_goals first | exact Or.inl ⟨_, rfl⟩ | exact Or.inr ⟨_, by simp, rfl⟩
set_option maxRecDepth 100000 in
set_option maxHeartbeats 4000000 in
theorem c_Law_unsubscribe (l : Launch) (hl : l.stackTraces = false) (D : va_G) (ca : Nat → ClassId) (B : Nat) (σ τ : Sg) (xo : Nat → Int64) (yo : Nat → UInt64) (x t : Int32) : CtA l D ca B y_Law_unsubscribe w_Law_unsubscribe (rmX 7 104) σ τ xo yo [.ref (B + 0), .int x, .int t, .ref (B + 213)] (pA [xNSE, xIAE] (unsubF σ x t)) := by
  refine ct_a "RobotBusLaw" [(0, .ref (B + 0)), (1, .int x), (2, .int t), (3, .ref (B + 213))] (by decide) rfl (Nat.le_of_ble_eq_true rfl) rfl (fun X C hE htab hret => ?_)
  refine z_aload_n C d_Law_unsubscribe_0 rfl 3 rfl ?_
  refine z_iconst C (v := 0) d_Law_unsubscribe_1 (by decide) ?_
  refine z_aload_n C d_Law_unsubscribe_2 rfl 0 rfl ?_
  refine z_iload_n C d_Law_unsubscribe_3 rfl 1 rfl ?_
  refine z_iload_n C d_Law_unsubscribe_4 rfl 2 rfl ?_
  refine z_try (F := (unsubF σ x t)) (hN := [((0, 10, 13, 20), xNSE), ((0, 10, 17, 13), xIAE)]) (st := [.int 0, .ref (B + 213)]) C hE htab d_Law_unsubscribe_5 (c_Bus_unsubscribe l hl D ca B σ x t) tw_455 tw_456 tw_457 tw_1 tw_458 pd_Bus_unsubscribe ⟨⟨by decide, by decide⟩, rfl, rfl, by decide, by decide⟩ (Nat.le_of_ble_eq_true rfl) (fun cls hc => ?_) ?_ (fun v9 hv => ?_) (fun cls hc => ?_) rfl
  · rcases ok_unsubscribe σ x t with ⟨i, h⟩ | ⟨c, h1, h2⟩
    · rw [hc] at h; cases h
    · rw [hc] at h2
      cases h2
      simp only [List.mem_cons, List.not_mem_nil, or_false] at h1
      rcases h1 with rfl | rfl <;> decide
  · intro q hq
    simp only [List.mem_cons, List.not_mem_nil, or_false] at hq
    rcases hq with rfl | rfl
    · exact ⟨tw_378, by decide, by decide, by decide⟩
    · exact ⟨tw_280, by decide, by decide, by decide⟩
  · have h9 := ok_unsubscribe σ x t
    rw [hv] at h9
    rcases h9 with ⟨i, h⟩ | ⟨c, h1, h2⟩
    · cases h
      refine z_i2l C d_Law_unsubscribe_8 ?_
      refine z_last C (o := 213) d_Law_unsubscribe_9 8 rfl (by decide) rfl rfl (by unfold vp_in; decide) ?_
      refine z_map LM_x ?_
      refine z_goto C 21 d_Law_unsubscribe_10 (by decide) ?_
      refine z_iconst C (v := 0) d_Law_unsubscribe_21 (by decide) ?_
      exact hret _ _ _ _ _ _ d_Law_unsubscribe_22 ⟨by rw [hv]; rfl, rfl, fun v h => by rw [hv] at h; cases h; rfl⟩
    · cases h2
  · have h9 := ok_unsubscribe σ x t
    rw [hc] at h9
    rcases h9 with ⟨i, h⟩ | ⟨c, h1, h2⟩
    · cases h
    · cases h2
      simp only [List.mem_cons, List.not_mem_nil, or_false] at h1
      rcases h1 with rfl | rfl
      · refine ⟨13, by decide, fun a' => ?_⟩
        refine z_astore C d_Law_unsubscribe_13 (by decide) [(4, .ref a'), (0, .ref (B + 0)), (1, .int x), (2, .int t), (3, .ref (B + 213))] rfl ?_
        refine z_iconst C (v := 1) d_Law_unsubscribe_15 (by decide) ?_
        exact hret _ _ _ _ _ _ d_Law_unsubscribe_16 ⟨by rw [hc]; decide, rfl, fun v h => by rw [hc] at h; cases h⟩
      · refine ⟨17, by decide, fun a' => ?_⟩
        refine z_astore C d_Law_unsubscribe_17 (by decide) [(4, .ref a'), (0, .ref (B + 0)), (1, .int x), (2, .int t), (3, .ref (B + 213))] rfl ?_
        refine z_iconst C (v := 2) d_Law_unsubscribe_19 (by decide) ?_
        exact hret _ _ _ _ _ _ d_Law_unsubscribe_20 ⟨by rw [hc]; decide, rfl, fun v h => by rw [hc] at h; cases h⟩
theorem ok_publish (σ : Sg) (x y v : Int32) : OkI [xNSE, xIAE] (publF σ x y v).1 := by
  unfold publF
  repeat' split
  all_goals first | exact Or.inl ⟨_, rfl⟩ | exact Or.inr ⟨_, by simp, rfl⟩
set_option maxRecDepth 100000 in
set_option maxHeartbeats 4000000 in
theorem c_Law_publish (l : Launch) (hl : l.stackTraces = false) (D : va_G) (ca : Nat → ClassId) (B : Nat) (σ τ : Sg) (xo : Nat → Int64) (yo : Nat → UInt64) (x y v : Int32) (hB : BI σ) : CtA l D ca B y_Law_publish w_Law_publish (rmX 7 113) σ τ xo yo [.ref (B + 0), .int x, .int y, .int v, .ref (B + 213)] (pA [xNSE, xIAE] (publF σ x y v)) := by
  refine ct_a "RobotBusLaw" [(0, .ref (B + 0)), (1, .int x), (2, .int y), (3, .int v), (4, .ref (B + 213))] (by decide) rfl (Nat.le_of_ble_eq_true rfl) rfl (fun X C hE htab hret => ?_)
  refine z_aload C d_Law_publish_0 4 rfl ?_
  refine z_iconst C (v := 0) d_Law_publish_2 (by decide) ?_
  refine z_aload_n C d_Law_publish_3 rfl 0 rfl ?_
  refine z_iload_n C d_Law_publish_4 rfl 1 rfl ?_
  refine z_iload_n C d_Law_publish_5 rfl 2 rfl ?_
  refine z_iload_n C d_Law_publish_6 rfl 3 rfl ?_
  refine z_try (F := (publF σ x y v)) (hN := [((0, 12, 15, 20), xNSE), ((0, 12, 19, 13), xIAE)]) (st := [.int 0, .ref (B + 213)]) C hE htab d_Law_publish_7 (c_Bus_publish l hl D ca B σ x y v hB) tw_464 tw_465 tw_466 tw_1 tw_467 pd_Bus_publish ⟨⟨by decide, by decide⟩, rfl, rfl, by decide, by decide⟩ (Nat.le_of_ble_eq_true rfl) (fun cls hc => ?_) ?_ (fun v9 hv => ?_) (fun cls hc => ?_) rfl
  · rcases ok_publish σ x y v with ⟨i, h⟩ | ⟨c, h1, h2⟩
    · rw [hc] at h; cases h
    · rw [hc] at h2
      cases h2
      simp only [List.mem_cons, List.not_mem_nil, or_false] at h1
      rcases h1 with rfl | rfl <;> decide
  · intro q hq
    simp only [List.mem_cons, List.not_mem_nil, or_false] at hq
    rcases hq with rfl | rfl
    · exact ⟨tw_378, by decide, by decide, by decide⟩
    · exact ⟨tw_280, by decide, by decide, by decide⟩
  · have h9 := ok_publish σ x y v
    rw [hv] at h9
    rcases h9 with ⟨i, h⟩ | ⟨c, h1, h2⟩
    · cases h
      refine z_i2l C d_Law_publish_10 ?_
      refine z_last C (o := 213) d_Law_publish_11 8 rfl (by decide) rfl rfl (by unfold vp_in; decide) ?_
      refine z_map LM_x ?_
      refine z_goto C 23 d_Law_publish_12 (by decide) ?_
      refine z_iconst C (v := 0) d_Law_publish_23 (by decide) ?_
      exact hret _ _ _ _ _ _ d_Law_publish_24 ⟨by rw [hv]; rfl, rfl, fun v h => by rw [hv] at h; cases h; rfl⟩
    · cases h2
  · have h9 := ok_publish σ x y v
    rw [hc] at h9
    rcases h9 with ⟨i, h⟩ | ⟨c, h1, h2⟩
    · cases h
    · cases h2
      simp only [List.mem_cons, List.not_mem_nil, or_false] at h1
      rcases h1 with rfl | rfl
      · refine ⟨15, by decide, fun a' => ?_⟩
        refine z_astore C d_Law_publish_15 (by decide) [(5, .ref a'), (0, .ref (B + 0)), (1, .int x), (2, .int y), (3, .int v), (4, .ref (B + 213))] rfl ?_
        refine z_iconst C (v := 1) d_Law_publish_17 (by decide) ?_
        exact hret _ _ _ _ _ _ d_Law_publish_18 ⟨by rw [hc]; decide, rfl, fun v h => by rw [hc] at h; cases h⟩
      · refine ⟨19, by decide, fun a' => ?_⟩
        refine z_astore C d_Law_publish_19 (by decide) [(5, .ref a'), (0, .ref (B + 0)), (1, .int x), (2, .int y), (3, .int v), (4, .ref (B + 213))] rfl ?_
        refine z_iconst C (v := 2) d_Law_publish_21 (by decide) ?_
        exact hret _ _ _ _ _ _ d_Law_publish_22 ⟨by rw [hc]; decide, rfl, fun v h => by rw [hc] at h; cases h⟩
theorem ok_act (σ : Sg) (x t k a c : Int32) : OkI [xNSE, xIAE] (actF σ x t k a c).1 := by
  unfold actF
  repeat' split
  all_goals first | exact Or.inl ⟨_, rfl⟩ | exact Or.inr ⟨_, by simp, rfl⟩
set_option maxRecDepth 100000 in
set_option maxHeartbeats 4000000 in
theorem c_Law_act (l : Launch) (hl : l.stackTraces = false) (D : va_G) (ca : Nat → ClassId) (B : Nat) (σ τ : Sg) (xo : Nat → Int64) (yo : Nat → UInt64) (x t k a c : Int32) : CtA l D ca B y_Law_act w_Law_act (rmX 7 109) σ τ xo yo [.ref (B + 0), .int x, .int t, .int k, .int a, .int c, .ref (B + 213)] (pA [xNSE, xIAE] (actF σ x t k a c)) := by
  refine ct_a "RobotBusLaw" [(0, .ref (B + 0)), (1, .int x), (2, .int t), (3, .int k), (4, .int a), (5, .int c), (6, .ref (B + 213))] (by decide) rfl (Nat.le_of_ble_eq_true rfl) rfl (fun X C hE htab hret => ?_)
  refine z_aload C d_Law_act_0 6 rfl ?_
  refine z_iconst C (v := 0) d_Law_act_2 (by decide) ?_
  refine z_aload_n C d_Law_act_3 rfl 0 rfl ?_
  refine z_iload_n C d_Law_act_4 rfl 1 rfl ?_
  refine z_iload_n C d_Law_act_5 rfl 2 rfl ?_
  refine z_iload_n C d_Law_act_6 rfl 3 rfl ?_
  refine z_iload C d_Law_act_7 4 rfl ?_
  refine z_iload C d_Law_act_9 5 rfl ?_
  refine z_try (F := (actF σ x t k a c)) (hN := [((0, 16, 19, 20), xNSE), ((0, 16, 23, 13), xIAE)]) (st := [.int 0, .ref (B + 213)]) C hE htab d_Law_act_11 (c_Bus_act l hl D ca B σ x t k a c) tw_483 tw_484 tw_485 tw_1 tw_486 pd_Bus_act ⟨⟨by decide, by decide⟩, rfl, rfl, by decide, by decide⟩ (Nat.le_of_ble_eq_true rfl) (fun cls hc => ?_) ?_ (fun v9 hv => ?_) (fun cls hc => ?_) rfl
  · rcases ok_act σ x t k a c with ⟨i, h⟩ | ⟨c, h1, h2⟩
    · rw [hc] at h; cases h
    · rw [hc] at h2
      cases h2
      simp only [List.mem_cons, List.not_mem_nil, or_false] at h1
      rcases h1 with rfl | rfl <;> decide
  · intro q hq
    simp only [List.mem_cons, List.not_mem_nil, or_false] at hq
    rcases hq with rfl | rfl
    · exact ⟨tw_378, by decide, by decide, by decide⟩
    · exact ⟨tw_280, by decide, by decide, by decide⟩
  · have h9 := ok_act σ x t k a c
    rw [hv] at h9
    rcases h9 with ⟨i, h⟩ | ⟨c, h1, h2⟩
    · cases h
      refine z_i2l C d_Law_act_14 ?_
      refine z_last C (o := 213) d_Law_act_15 8 rfl (by decide) rfl rfl (by unfold vp_in; decide) ?_
      refine z_map LM_x ?_
      refine z_goto C 27 d_Law_act_16 (by decide) ?_
      refine z_iconst C (v := 0) d_Law_act_27 (by decide) ?_
      exact hret _ _ _ _ _ _ d_Law_act_28 ⟨by rw [hv]; rfl, rfl, fun v h => by rw [hv] at h; cases h; rfl⟩
    · cases h2
  · have h9 := ok_act σ x t k a c
    rw [hc] at h9
    rcases h9 with ⟨i, h⟩ | ⟨c, h1, h2⟩
    · cases h
    · cases h2
      simp only [List.mem_cons, List.not_mem_nil, or_false] at h1
      rcases h1 with rfl | rfl
      · refine ⟨19, by decide, fun a' => ?_⟩
        refine z_astore C d_Law_act_19 (by decide) [(7, .ref a'), (0, .ref (B + 0)), (1, .int x), (2, .int t), (3, .int k), (4, .int a), (5, .int c), (6, .ref (B + 213))] rfl ?_
        refine z_iconst C (v := 1) d_Law_act_21 (by decide) ?_
        exact hret _ _ _ _ _ _ d_Law_act_22 ⟨by rw [hc]; decide, rfl, fun v h => by rw [hc] at h; cases h⟩
      · refine ⟨23, by decide, fun a' => ?_⟩
        refine z_astore C d_Law_act_23 (by decide) [(7, .ref a'), (0, .ref (B + 0)), (1, .int x), (2, .int t), (3, .int k), (4, .int a), (5, .int c), (6, .ref (B + 213))] rfl ?_
        refine z_iconst C (v := 2) d_Law_act_25 (by decide) ?_
        exact hret _ _ _ _ _ _ d_Law_act_26 ⟨by rw [hc]; decide, rfl, fun v h => by rw [hc] at h; cases h⟩
theorem ok_offer (σ : Sg) (x s k c e : Int32) : OkI [xNSE, xIAE] (offerF σ x s k c e).1 := by
  unfold offerF
  repeat' split
  all_goals first | exact Or.inl ⟨_, rfl⟩ | exact Or.inr ⟨_, by simp, rfl⟩
set_option maxRecDepth 100000 in
set_option maxHeartbeats 4000000 in
theorem c_Law_offer (l : Launch) (hl : l.stackTraces = false) (D : va_G) (ca : Nat → ClassId) (B : Nat) (σ τ : Sg) (xo : Nat → Int64) (yo : Nat → UInt64) (x s k c e : Int32) : CtA l D ca B y_Law_offer w_Law_offer (rmX 7 109) σ τ xo yo [.ref (B + 0), .int x, .int s, .int k, .int c, .int e, .ref (B + 213)] (pA [xNSE, xIAE] (offerF σ x s k c e)) := by
  refine ct_a "RobotBusLaw" [(0, .ref (B + 0)), (1, .int x), (2, .int s), (3, .int k), (4, .int c), (5, .int e), (6, .ref (B + 213))] (by decide) rfl (Nat.le_of_ble_eq_true rfl) rfl (fun X C hE htab hret => ?_)
  refine z_aload C d_Law_offer_0 6 rfl ?_
  refine z_iconst C (v := 0) d_Law_offer_2 (by decide) ?_
  refine z_aload_n C d_Law_offer_3 rfl 0 rfl ?_
  refine z_iload_n C d_Law_offer_4 rfl 1 rfl ?_
  refine z_iload_n C d_Law_offer_5 rfl 2 rfl ?_
  refine z_iload_n C d_Law_offer_6 rfl 3 rfl ?_
  refine z_iload C d_Law_offer_7 4 rfl ?_
  refine z_iload C d_Law_offer_9 5 rfl ?_
  refine z_try (F := (offerF σ x s k c e)) (hN := [((0, 16, 19, 20), xNSE), ((0, 16, 23, 13), xIAE)]) (st := [.int 0, .ref (B + 213)]) C hE htab d_Law_offer_11 (c_Bus_offer l hl D ca B σ x s k c e) tw_494 tw_495 tw_496 tw_1 tw_497 pd_Bus_offer ⟨⟨by decide, by decide⟩, rfl, rfl, by decide, by decide⟩ (Nat.le_of_ble_eq_true rfl) (fun cls hc => ?_) ?_ (fun v9 hv => ?_) (fun cls hc => ?_) rfl
  · rcases ok_offer σ x s k c e with ⟨i, h⟩ | ⟨c, h1, h2⟩
    · rw [hc] at h; cases h
    · rw [hc] at h2
      cases h2
      simp only [List.mem_cons, List.not_mem_nil, or_false] at h1
      rcases h1 with rfl | rfl <;> decide
  · intro q hq
    simp only [List.mem_cons, List.not_mem_nil, or_false] at hq
    rcases hq with rfl | rfl
    · exact ⟨tw_378, by decide, by decide, by decide⟩
    · exact ⟨tw_280, by decide, by decide, by decide⟩
  · have h9 := ok_offer σ x s k c e
    rw [hv] at h9
    rcases h9 with ⟨i, h⟩ | ⟨c, h1, h2⟩
    · cases h
      refine z_i2l C d_Law_offer_14 ?_
      refine z_last C (o := 213) d_Law_offer_15 8 rfl (by decide) rfl rfl (by unfold vp_in; decide) ?_
      refine z_map LM_x ?_
      refine z_goto C 27 d_Law_offer_16 (by decide) ?_
      refine z_iconst C (v := 0) d_Law_offer_27 (by decide) ?_
      exact hret _ _ _ _ _ _ d_Law_offer_28 ⟨by rw [hv]; rfl, rfl, fun v h => by rw [hv] at h; cases h; rfl⟩
    · cases h2
  · have h9 := ok_offer σ x s k c e
    rw [hc] at h9
    rcases h9 with ⟨i, h⟩ | ⟨c, h1, h2⟩
    · cases h
    · cases h2
      simp only [List.mem_cons, List.not_mem_nil, or_false] at h1
      rcases h1 with rfl | rfl
      · refine ⟨19, by decide, fun a' => ?_⟩
        refine z_astore C d_Law_offer_19 (by decide) [(7, .ref a'), (0, .ref (B + 0)), (1, .int x), (2, .int s), (3, .int k), (4, .int c), (5, .int e), (6, .ref (B + 213))] rfl ?_
        refine z_iconst C (v := 1) d_Law_offer_21 (by decide) ?_
        exact hret _ _ _ _ _ _ d_Law_offer_22 ⟨by rw [hc]; decide, rfl, fun v h => by rw [hc] at h; cases h⟩
      · refine ⟨23, by decide, fun a' => ?_⟩
        refine z_astore C d_Law_offer_23 (by decide) [(7, .ref a'), (0, .ref (B + 0)), (1, .int x), (2, .int s), (3, .int k), (4, .int c), (5, .int e), (6, .ref (B + 213))] rfl ?_
        refine z_iconst C (v := 2) d_Law_offer_25 (by decide) ?_
        exact hret _ _ _ _ _ _ d_Law_offer_26 ⟨by rw [hc]; decide, rfl, fun v h => by rw [hc] at h; cases h⟩
theorem ok_call (σ : Sg) (z q : Int32) : OkI [xIAE, xNSE, xARI] (callF σ z q).1 := by
  unfold callF
  repeat' split
  all_goals first | exact Or.inl ⟨_, rfl⟩ | exact Or.inr ⟨_, by simp, rfl⟩
set_option maxRecDepth 100000 in
set_option maxHeartbeats 4000000 in
theorem c_Law_call (l : Launch) (hl : l.stackTraces = false) (D : va_G) (ca : Nat → ClassId) (B : Nat) (σ τ : Sg) (xo : Nat → Int64) (yo : Nat → UInt64) (z q : Int32) (hB : BI σ) : CtA l D ca B y_Law_call w_Law_call (rmX 7 105) σ τ xo yo [.ref (B + 0), .int z, .int q, .ref (B + 213)] (pA [xIAE, xNSE, xARI] (callF σ z q)) := by
  refine ct_a "RobotBusLaw" [(0, .ref (B + 0)), (1, .int z), (2, .int q), (3, .ref (B + 213))] (by decide) rfl (Nat.le_of_ble_eq_true rfl) rfl (fun X C hE htab hret => ?_)
  refine z_aload_n C d_Law_call_0 rfl 3 rfl ?_
  refine z_iconst C (v := 0) d_Law_call_1 (by decide) ?_
  refine z_aload_n C d_Law_call_2 rfl 0 rfl ?_
  refine z_iload_n C d_Law_call_3 rfl 1 rfl ?_
  refine z_iload_n C d_Law_call_4 rfl 2 rfl ?_
  refine z_try (F := (callF σ z q)) (hN := [((0, 10, 13, 13), xIAE), ((0, 10, 17, 20), xNSE), ((0, 10, 21, 47), xARI)]) (st := [.int 0, .ref (B + 213)]) C hE htab d_Law_call_5 (c_Bus_call l hl D ca B σ z q hB) tw_506 tw_507 tw_508 tw_1 tw_509 pd_Bus_call ⟨⟨by decide, by decide⟩, rfl, rfl, by decide, by decide⟩ (Nat.le_of_ble_eq_true rfl) (fun cls hc => ?_) ?_ (fun v9 hv => ?_) (fun cls hc => ?_) rfl
  · rcases ok_call σ z q with ⟨i, h⟩ | ⟨c, h1, h2⟩
    · rw [hc] at h; cases h
    · rw [hc] at h2
      cases h2
      simp only [List.mem_cons, List.not_mem_nil, or_false] at h1
      rcases h1 with rfl | rfl | rfl <;> decide
  · intro q hq
    simp only [List.mem_cons, List.not_mem_nil, or_false] at hq
    rcases hq with rfl | rfl | rfl
    · exact ⟨tw_280, by decide, by decide, by decide⟩
    · exact ⟨tw_378, by decide, by decide, by decide⟩
    · exact ⟨tw_505, by decide, by decide, by decide⟩
  · have h9 := ok_call σ z q
    rw [hv] at h9
    rcases h9 with ⟨i, h⟩ | ⟨c, h1, h2⟩
    · cases h
      refine z_i2l C d_Law_call_8 ?_
      refine z_last C (o := 213) d_Law_call_9 8 rfl (by decide) rfl rfl (by unfold vp_in; decide) ?_
      refine z_map LM_x ?_
      refine z_goto C 25 d_Law_call_10 (by decide) ?_
      refine z_iconst C (v := 0) d_Law_call_25 (by decide) ?_
      exact hret _ _ _ _ _ _ d_Law_call_26 ⟨by rw [hv]; rfl, rfl, fun v h => by rw [hv] at h; cases h; rfl⟩
    · cases h2
  · have h9 := ok_call σ z q
    rw [hc] at h9
    rcases h9 with ⟨i, h⟩ | ⟨c, h1, h2⟩
    · cases h
    · cases h2
      simp only [List.mem_cons, List.not_mem_nil, or_false] at h1
      rcases h1 with rfl | rfl | rfl
      · refine ⟨13, by decide, fun a' => ?_⟩
        refine z_astore C d_Law_call_13 (by decide) [(4, .ref a'), (0, .ref (B + 0)), (1, .int z), (2, .int q), (3, .ref (B + 213))] rfl ?_
        refine z_iconst C (v := 1) d_Law_call_15 (by decide) ?_
        exact hret _ _ _ _ _ _ d_Law_call_16 ⟨by rw [hc]; decide, rfl, fun v h => by rw [hc] at h; cases h⟩
      · refine ⟨17, by decide, fun a' => ?_⟩
        refine z_astore C d_Law_call_17 (by decide) [(4, .ref a'), (0, .ref (B + 0)), (1, .int z), (2, .int q), (3, .ref (B + 213))] rfl ?_
        refine z_iconst C (v := 2) d_Law_call_19 (by decide) ?_
        exact hret _ _ _ _ _ _ d_Law_call_20 ⟨by rw [hc]; decide, rfl, fun v h => by rw [hc] at h; cases h⟩
      · refine ⟨21, by decide, fun a' => ?_⟩
        refine z_astore C d_Law_call_21 (by decide) [(4, .ref a'), (0, .ref (B + 0)), (1, .int z), (2, .int q), (3, .ref (B + 213))] rfl ?_
        refine z_iconst C (v := 3) d_Law_call_23 (by decide) ?_
        exact hret _ _ _ _ _ _ d_Law_call_24 ⟨by rw [hc]; decide, rfl, fun v h => by rw [hc] at h; cases h⟩
theorem ok_tick (σ : Sg) (q : Int32) : OkI [xIAE] (tickX σ q).1 := by
  unfold tickX
  repeat' split
  all_goals first | exact Or.inl ⟨_, rfl⟩ | exact Or.inr ⟨_, by simp, rfl⟩
set_option maxRecDepth 100000 in
set_option maxHeartbeats 4000000 in
theorem c_Law_tick (l : Launch) (hl : l.stackTraces = false) (D : va_G) (ca : Nat → ClassId) (B : Nat) (σ τ : Sg) (xo : Nat → Int64) (yo : Nat → UInt64) (q : Int32) (hB : BI σ) : CtA l D ca B y_Law_tick w_Law_tick (rmX 8 182) σ τ xo yo [.ref (B + 0), .int q, .ref (B + 213)] (pA [xIAE] (tickX σ q)) := by
  refine ct_a "RobotBusLaw" [(0, .ref (B + 0)), (1, .int q), (2, .ref (B + 213))] (by decide) rfl (Nat.le_of_ble_eq_true rfl) rfl (fun X C hE htab hret => ?_)
  refine z_aload_n C d_Law_tick_0 rfl 2 rfl ?_
  refine z_iconst C (v := 0) d_Law_tick_1 (by decide) ?_
  refine z_aload_n C d_Law_tick_2 rfl 0 rfl ?_
  refine z_iload_n C d_Law_tick_3 rfl 1 rfl ?_
  refine z_try (F := (tickX σ q)) (hN := [((0, 9, 12, 13), xIAE)]) (st := [.int 0, .ref (B + 213)]) C hE htab d_Law_tick_4 (c_Bus_tick l hl D ca B σ q hB) tw_539 tw_540 tw_541 tw_1 tw_542 pd_Bus_tick ⟨⟨by decide, by decide⟩, rfl, rfl, by decide, by decide⟩ (Nat.le_of_ble_eq_true rfl) (fun cls hc => ?_) ?_ (fun v9 hv => ?_) (fun cls hc => ?_) rfl
  · rcases ok_tick σ q with ⟨i, h⟩ | ⟨c, h1, h2⟩
    · rw [hc] at h; cases h
    · rw [hc] at h2
      cases h2
      simp only [List.mem_cons, List.not_mem_nil, or_false] at h1
      rcases h1 with rfl <;> decide
  · intro q hq
    simp only [List.mem_cons, List.not_mem_nil, or_false] at hq
    rcases hq with rfl
    · exact ⟨tw_280, by decide, by decide, by decide⟩
  · have h9 := ok_tick σ q
    rw [hv] at h9
    rcases h9 with ⟨i, h⟩ | ⟨c, h1, h2⟩
    · cases h
      refine z_i2l C d_Law_tick_7 ?_
      refine z_last C (o := 213) d_Law_tick_8 8 rfl (by decide) rfl rfl (by unfold vp_in; decide) ?_
      refine z_map LM_x ?_
      refine z_goto C 15 d_Law_tick_9 (by decide) ?_
      refine z_iconst C (v := 0) d_Law_tick_15 (by decide) ?_
      exact hret _ _ _ _ _ _ d_Law_tick_16 ⟨by rw [hv]; rfl, rfl, fun v h => by rw [hv] at h; cases h; rfl⟩
    · cases h2
  · have h9 := ok_tick σ q
    rw [hc] at h9
    rcases h9 with ⟨i, h⟩ | ⟨c, h1, h2⟩
    · cases h
    · cases h2
      simp only [List.mem_cons, List.not_mem_nil, or_false] at h1
      rcases h1 with rfl
      · refine ⟨12, by decide, fun a' => ?_⟩
        refine z_astore_n C d_Law_tick_12 rfl (by decide) [(3, .ref a'), (0, .ref (B + 0)), (1, .int q), (2, .ref (B + 213))] rfl ?_
        refine z_iconst C (v := 1) d_Law_tick_13 (by decide) ?_
        exact hret _ _ _ _ _ _ d_Law_tick_14 ⟨by rw [hc]; decide, rfl, fun v h => by rw [hc] at h; cases h⟩
theorem ok_variable (σ : Sg) (x v : Int32) : OkI [xNSE, xIAE] (varF' σ x v).1 := by
  unfold varF'
  repeat' split
  all_goals first | exact Or.inl ⟨_, rfl⟩ | exact Or.inr ⟨_, by simp, rfl⟩
set_option maxRecDepth 100000 in
set_option maxHeartbeats 4000000 in
theorem c_Law_variable (l : Launch) (hl : l.stackTraces = false) (D : va_G) (ca : Nat → ClassId) (B : Nat) (σ τ : Sg) (xo : Nat → Int64) (yo : Nat → UInt64) (x v : Int32) : CtA l D ca B y_Law_variable w_Law_variable (rmX 7 104) σ τ xo yo [.ref (B + 0), .int x, .int v, .ref (B + 213)] (pA [xNSE, xIAE] (varF' σ x v)) := by
  refine ct_a "RobotBusLaw" [(0, .ref (B + 0)), (1, .int x), (2, .int v), (3, .ref (B + 213))] (by decide) rfl (Nat.le_of_ble_eq_true rfl) rfl (fun X C hE htab hret => ?_)
  refine z_aload_n C d_Law_variable_0 rfl 3 rfl ?_
  refine z_iconst C (v := 0) d_Law_variable_1 (by decide) ?_
  refine z_aload_n C d_Law_variable_2 rfl 0 rfl ?_
  refine z_iload_n C d_Law_variable_3 rfl 1 rfl ?_
  refine z_iload_n C d_Law_variable_4 rfl 2 rfl ?_
  refine z_try (F := (varF' σ x v)) (hN := [((0, 10, 13, 20), xNSE), ((0, 10, 17, 13), xIAE)]) (st := [.int 0, .ref (B + 213)]) C hE htab d_Law_variable_5 (c_Bus_variable l hl D ca B σ x v) tw_584 tw_585 tw_586 tw_1 tw_587 pd_Bus_variable ⟨⟨by decide, by decide⟩, rfl, rfl, by decide, by decide⟩ (Nat.le_of_ble_eq_true rfl) (fun cls hc => ?_) ?_ (fun v9 hv => ?_) (fun cls hc => ?_) rfl
  · rcases ok_variable σ x v with ⟨i, h⟩ | ⟨c, h1, h2⟩
    · rw [hc] at h; cases h
    · rw [hc] at h2
      cases h2
      simp only [List.mem_cons, List.not_mem_nil, or_false] at h1
      rcases h1 with rfl | rfl <;> decide
  · intro q hq
    simp only [List.mem_cons, List.not_mem_nil, or_false] at hq
    rcases hq with rfl | rfl
    · exact ⟨tw_378, by decide, by decide, by decide⟩
    · exact ⟨tw_280, by decide, by decide, by decide⟩
  · have h9 := ok_variable σ x v
    rw [hv] at h9
    rcases h9 with ⟨i, h⟩ | ⟨c, h1, h2⟩
    · cases h
      refine z_i2l C d_Law_variable_8 ?_
      refine z_last C (o := 213) d_Law_variable_9 8 rfl (by decide) rfl rfl (by unfold vp_in; decide) ?_
      refine z_map LM_x ?_
      refine z_goto C 21 d_Law_variable_10 (by decide) ?_
      refine z_iconst C (v := 0) d_Law_variable_21 (by decide) ?_
      exact hret _ _ _ _ _ _ d_Law_variable_22 ⟨by rw [hv]; rfl, rfl, fun v h => by rw [hv] at h; cases h; rfl⟩
    · cases h2
  · have h9 := ok_variable σ x v
    rw [hc] at h9
    rcases h9 with ⟨i, h⟩ | ⟨c, h1, h2⟩
    · cases h
    · cases h2
      simp only [List.mem_cons, List.not_mem_nil, or_false] at h1
      rcases h1 with rfl | rfl
      · refine ⟨13, by decide, fun a' => ?_⟩
        refine z_astore C d_Law_variable_13 (by decide) [(4, .ref a'), (0, .ref (B + 0)), (1, .int x), (2, .int v), (3, .ref (B + 213))] rfl ?_
        refine z_iconst C (v := 1) d_Law_variable_15 (by decide) ?_
        exact hret _ _ _ _ _ _ d_Law_variable_16 ⟨by rw [hc]; decide, rfl, fun v h => by rw [hc] at h; cases h⟩
      · refine ⟨17, by decide, fun a' => ?_⟩
        refine z_astore C d_Law_variable_17 (by decide) [(4, .ref a'), (0, .ref (B + 0)), (1, .int x), (2, .int v), (3, .ref (B + 213))] rfl ?_
        refine z_iconst C (v := 2) d_Law_variable_19 (by decide) ?_
        exact hret _ _ _ _ _ _ d_Law_variable_20 ⟨by rw [hc]; decide, rfl, fun v h => by rw [hc] at h; cases h⟩
theorem ok_queued (σ : Sg) (x y p q : Int32) : OkI [xNSE, xIAE] (queuF σ x y p q).1 := by
  unfold queuF
  repeat' split
  all_goals first | exact Or.inl ⟨_, rfl⟩ | exact Or.inr ⟨_, by simp, rfl⟩
set_option maxRecDepth 100000 in
set_option maxHeartbeats 4000000 in
theorem c_Law_queued (l : Launch) (hl : l.stackTraces = false) (D : va_G) (ca : Nat → ClassId) (B : Nat) (σ τ : Sg) (xo : Nat → Int64) (yo : Nat → UInt64) (x y p q : Int32) (hB : BI σ) : CtA l D ca B y_Law_queued w_Law_queued (rmX 7 107) σ τ xo yo [.ref (B + 0), .int x, .int y, .int p, .int q, .ref (B + 213)] (pA [xNSE, xIAE] (queuF σ x y p q)) := by
  refine ct_a "RobotBusLaw" [(0, .ref (B + 0)), (1, .int x), (2, .int y), (3, .int p), (4, .int q), (5, .ref (B + 213))] (by decide) rfl (Nat.le_of_ble_eq_true rfl) rfl (fun X C hE htab hret => ?_)
  refine z_aload C d_Law_queued_0 5 rfl ?_
  refine z_iconst C (v := 0) d_Law_queued_2 (by decide) ?_
  refine z_aload_n C d_Law_queued_3 rfl 0 rfl ?_
  refine z_iload_n C d_Law_queued_4 rfl 1 rfl ?_
  refine z_iload_n C d_Law_queued_5 rfl 2 rfl ?_
  refine z_iload_n C d_Law_queued_6 rfl 3 rfl ?_
  refine z_iload C d_Law_queued_7 4 rfl ?_
  refine z_try (F := (queuF σ x y p q)) (hN := [((0, 14, 17, 20), xNSE), ((0, 14, 21, 13), xIAE)]) (st := [.int 0, .ref (B + 213)]) C hE htab d_Law_queued_9 (c_Bus_queued l hl D ca B σ x y p q hB) tw_592 tw_593 tw_594 tw_1 tw_595 pd_Bus_queued ⟨⟨by decide, by decide⟩, rfl, rfl, by decide, by decide⟩ (Nat.le_of_ble_eq_true rfl) (fun cls hc => ?_) ?_ (fun v9 hv => ?_) (fun cls hc => ?_) rfl
  · rcases ok_queued σ x y p q with ⟨i, h⟩ | ⟨c, h1, h2⟩
    · rw [hc] at h; cases h
    · rw [hc] at h2
      cases h2
      simp only [List.mem_cons, List.not_mem_nil, or_false] at h1
      rcases h1 with rfl | rfl <;> decide
  · intro q hq
    simp only [List.mem_cons, List.not_mem_nil, or_false] at hq
    rcases hq with rfl | rfl
    · exact ⟨tw_378, by decide, by decide, by decide⟩
    · exact ⟨tw_280, by decide, by decide, by decide⟩
  · have h9 := ok_queued σ x y p q
    rw [hv] at h9
    rcases h9 with ⟨i, h⟩ | ⟨c, h1, h2⟩
    · cases h
      refine z_i2l C d_Law_queued_12 ?_
      refine z_last C (o := 213) d_Law_queued_13 8 rfl (by decide) rfl rfl (by unfold vp_in; decide) ?_
      refine z_map LM_x ?_
      refine z_goto C 25 d_Law_queued_14 (by decide) ?_
      refine z_iconst C (v := 0) d_Law_queued_25 (by decide) ?_
      exact hret _ _ _ _ _ _ d_Law_queued_26 ⟨by rw [hv]; rfl, rfl, fun v h => by rw [hv] at h; cases h; rfl⟩
    · cases h2
  · have h9 := ok_queued σ x y p q
    rw [hc] at h9
    rcases h9 with ⟨i, h⟩ | ⟨c, h1, h2⟩
    · cases h
    · cases h2
      simp only [List.mem_cons, List.not_mem_nil, or_false] at h1
      rcases h1 with rfl | rfl
      · refine ⟨17, by decide, fun a' => ?_⟩
        refine z_astore C d_Law_queued_17 (by decide) [(6, .ref a'), (0, .ref (B + 0)), (1, .int x), (2, .int y), (3, .int p), (4, .int q), (5, .ref (B + 213))] rfl ?_
        refine z_iconst C (v := 1) d_Law_queued_19 (by decide) ?_
        exact hret _ _ _ _ _ _ d_Law_queued_20 ⟨by rw [hc]; decide, rfl, fun v h => by rw [hc] at h; cases h⟩
      · refine ⟨21, by decide, fun a' => ?_⟩
        refine z_astore C d_Law_queued_21 (by decide) [(6, .ref a'), (0, .ref (B + 0)), (1, .int x), (2, .int y), (3, .int p), (4, .int q), (5, .ref (B + 213))] rfl ?_
        refine z_iconst C (v := 2) d_Law_queued_23 (by decide) ?_
        exact hret _ _ _ _ _ _ d_Law_queued_24 ⟨by rw [hc]; decide, rfl, fun v h => by rw [hc] at h; cases h⟩
theorem ok_keep (σ : Sg) (x o : Int32) : OkI [xIAE] (keepF σ x o).1 := by
  unfold keepF
  repeat' split
  all_goals first | exact Or.inl ⟨_, rfl⟩ | exact Or.inr ⟨_, by simp, rfl⟩
set_option maxRecDepth 100000 in
set_option maxHeartbeats 4000000 in
theorem c_Law_keep (l : Launch) (hl : l.stackTraces = false) (D : va_G) (ca : Nat → ClassId) (B : Nat) (σ τ : Sg) (xo : Nat → Int64) (yo : Nat → UInt64) (x o : Int32) (ho : o = 0 ∨ o = 1) : CtA l D ca B y_Law_keep w_Law_keep (rmX 7 105) σ τ xo yo [.ref (B + 0), .int x, .int o, .ref (B + 213)] (pA [xIAE] (keepF σ x o)) := by
  refine ct_a "RobotBusLaw" [(0, .ref (B + 0)), (1, .int x), (2, .int o), (3, .ref (B + 213))] (by decide) rfl (Nat.le_of_ble_eq_true rfl) rfl (fun X C hE htab hret => ?_)
  refine z_aload_n C d_Law_keep_0 rfl 3 rfl ?_
  refine z_iconst C (v := 0) d_Law_keep_1 (by decide) ?_
  refine z_aload_n C d_Law_keep_2 rfl 0 rfl ?_
  refine z_iload_n C d_Law_keep_3 rfl 1 rfl ?_
  refine z_iload_n C d_Law_keep_4 rfl 2 rfl ?_
  refine z_try (F := (keepF σ x o)) (hN := [((0, 10, 13, 13), xIAE)]) (st := [.int 0, .ref (B + 213)]) C hE htab d_Law_keep_5 (c_Bus_keep l hl D ca B σ x o ho) tw_603 tw_604 tw_605 tw_1 tw_606 pd_Bus_keep ⟨⟨by decide, by decide⟩, rfl, rfl, by decide, by decide⟩ (Nat.le_of_ble_eq_true rfl) (fun cls hc => ?_) ?_ (fun v9 hv => ?_) (fun cls hc => ?_) rfl
  · rcases ok_keep σ x o with ⟨i, h⟩ | ⟨c, h1, h2⟩
    · rw [hc] at h; cases h
    · rw [hc] at h2
      cases h2
      simp only [List.mem_cons, List.not_mem_nil, or_false] at h1
      rcases h1 with rfl <;> decide
  · intro q hq
    simp only [List.mem_cons, List.not_mem_nil, or_false] at hq
    rcases hq with rfl
    · exact ⟨tw_280, by decide, by decide, by decide⟩
  · have h9 := ok_keep σ x o
    rw [hv] at h9
    rcases h9 with ⟨i, h⟩ | ⟨c, h1, h2⟩
    · cases h
      refine z_i2l C d_Law_keep_8 ?_
      refine z_last C (o := 213) d_Law_keep_9 8 rfl (by decide) rfl rfl (by unfold vp_in; decide) ?_
      refine z_map LM_x ?_
      refine z_goto C 17 d_Law_keep_10 (by decide) ?_
      refine z_iconst C (v := 0) d_Law_keep_17 (by decide) ?_
      exact hret _ _ _ _ _ _ d_Law_keep_18 ⟨by rw [hv]; rfl, rfl, fun v h => by rw [hv] at h; cases h; rfl⟩
    · cases h2
  · have h9 := ok_keep σ x o
    rw [hc] at h9
    rcases h9 with ⟨i, h⟩ | ⟨c, h1, h2⟩
    · cases h
    · cases h2
      simp only [List.mem_cons, List.not_mem_nil, or_false] at h1
      rcases h1 with rfl
      · refine ⟨13, by decide, fun a' => ?_⟩
        refine z_astore C d_Law_keep_13 (by decide) [(4, .ref a'), (0, .ref (B + 0)), (1, .int x), (2, .int o), (3, .ref (B + 213))] rfl ?_
        refine z_iconst C (v := 1) d_Law_keep_15 (by decide) ?_
        exact hret _ _ _ _ _ _ d_Law_keep_16 ⟨by rw [hc]; decide, rfl, fun v h => by rw [hc] at h; cases h⟩
theorem ok_play (σ : Sg) (s : Int32) : OkI [xIAE, xISE, xUNS] (playF σ s).1 := by
  unfold playF
  repeat' split
  all_goals first | exact Or.inl ⟨_, rfl⟩ | exact Or.inr ⟨_, by simp, rfl⟩
set_option maxRecDepth 100000 in
set_option maxHeartbeats 4000000 in
theorem c_Law_play (l : Launch) (hl : l.stackTraces = false) (D : va_G) (ca : Nat → ClassId) (B : Nat) (σ τ : Sg) (xo : Nat → Int64) (yo : Nat → UInt64) (s : Int32) : CtA l D ca B y_Law_play w_Law_play (rmX 7 103) σ τ xo yo [.ref (B + 0), .int s, .ref (B + 213)] (pA [xIAE, xISE, xUNS] (playF σ s)) := by
  refine ct_a "RobotBusLaw" [(0, .ref (B + 0)), (1, .int s), (2, .ref (B + 213))] (by decide) rfl (Nat.le_of_ble_eq_true rfl) rfl (fun X C hE htab hret => ?_)
  refine z_aload_n C d_Law_play_0 rfl 2 rfl ?_
  refine z_iconst C (v := 0) d_Law_play_1 (by decide) ?_
  refine z_aload_n C d_Law_play_2 rfl 0 rfl ?_
  refine z_iload_n C d_Law_play_3 rfl 1 rfl ?_
  refine z_try (F := (playF σ s)) (hN := [((0, 9, 12, 13), xIAE), ((0, 9, 15, 15), xISE), ((0, 9, 18, 65), xUNS)]) (st := [.int 0, .ref (B + 213)]) C hE htab d_Law_play_4 (c_Bus_play l hl D ca B σ s) tw_611 tw_612 tw_613 tw_1 tw_614 pd_Bus_play ⟨⟨by decide, by decide⟩, rfl, rfl, by decide, by decide⟩ (Nat.le_of_ble_eq_true rfl) (fun cls hc => ?_) ?_ (fun v9 hv => ?_) (fun cls hc => ?_) rfl
  · rcases ok_play σ s with ⟨i, h⟩ | ⟨c, h1, h2⟩
    · rw [hc] at h; cases h
    · rw [hc] at h2
      cases h2
      simp only [List.mem_cons, List.not_mem_nil, or_false] at h1
      rcases h1 with rfl | rfl | rfl <;> decide
  · intro q hq
    simp only [List.mem_cons, List.not_mem_nil, or_false] at hq
    rcases hq with rfl | rfl | rfl
    · exact ⟨tw_280, by decide, by decide, by decide⟩
    · exact ⟨tw_281, by decide, by decide, by decide⟩
    · exact ⟨tw_610, by decide, by decide, by decide⟩
  · have h9 := ok_play σ s
    rw [hv] at h9
    rcases h9 with ⟨i, h⟩ | ⟨c, h1, h2⟩
    · cases h
      refine z_i2l C d_Law_play_7 ?_
      refine z_last C (o := 213) d_Law_play_8 8 rfl (by decide) rfl rfl (by unfold vp_in; decide) ?_
      refine z_map LM_x ?_
      refine z_goto C 21 d_Law_play_9 (by decide) ?_
      refine z_iconst C (v := 0) d_Law_play_21 (by decide) ?_
      exact hret _ _ _ _ _ _ d_Law_play_22 ⟨by rw [hv]; rfl, rfl, fun v h => by rw [hv] at h; cases h; rfl⟩
    · cases h2
  · have h9 := ok_play σ s
    rw [hc] at h9
    rcases h9 with ⟨i, h⟩ | ⟨c, h1, h2⟩
    · cases h
    · cases h2
      simp only [List.mem_cons, List.not_mem_nil, or_false] at h1
      rcases h1 with rfl | rfl | rfl
      · refine ⟨12, by decide, fun a' => ?_⟩
        refine z_astore_n C d_Law_play_12 rfl (by decide) [(3, .ref a'), (0, .ref (B + 0)), (1, .int s), (2, .ref (B + 213))] rfl ?_
        refine z_iconst C (v := 1) d_Law_play_13 (by decide) ?_
        exact hret _ _ _ _ _ _ d_Law_play_14 ⟨by rw [hc]; decide, rfl, fun v h => by rw [hc] at h; cases h⟩
      · refine ⟨15, by decide, fun a' => ?_⟩
        refine z_astore_n C d_Law_play_15 rfl (by decide) [(3, .ref a'), (0, .ref (B + 0)), (1, .int s), (2, .ref (B + 213))] rfl ?_
        refine z_iconst C (v := 2) d_Law_play_16 (by decide) ?_
        exact hret _ _ _ _ _ _ d_Law_play_17 ⟨by rw [hc]; decide, rfl, fun v h => by rw [hc] at h; cases h⟩
      · refine ⟨18, by decide, fun a' => ?_⟩
        refine z_astore_n C d_Law_play_18 rfl (by decide) [(3, .ref a'), (0, .ref (B + 0)), (1, .int s), (2, .ref (B + 213))] rfl ?_
        refine z_iconst C (v := 3) d_Law_play_19 (by decide) ?_
        exact hret _ _ _ _ _ _ d_Law_play_20 ⟨by rw [hc]; decide, rfl, fun v h => by rw [hc] at h; cases h⟩
theorem ok_empty (σ : Sg) : OkI [xISE] (emptyF σ).1 := by
  unfold emptyF
  repeat' split
  all_goals first | exact Or.inl ⟨_, rfl⟩ | exact Or.inr ⟨_, by simp, rfl⟩
set_option maxRecDepth 100000 in
set_option maxHeartbeats 4000000 in
theorem c_Law_empty (l : Launch) (hl : l.stackTraces = false) (D : va_G) (ca : Nat → ClassId) (B : Nat) (σ τ : Sg) (xo : Nat → Int64) (yo : Nat → UInt64) : CtA l D ca B y_Law_empty w_Law_empty (rmX 7 103) σ τ xo yo [.ref (B + 0), .ref (B + 213)] (pA [xISE] (emptyF σ)) := by
  refine ct_a "RobotBusLaw" [(0, .ref (B + 0)), (1, .ref (B + 213))] (by decide) rfl (Nat.le_of_ble_eq_true rfl) rfl (fun X C hE htab hret => ?_)
  refine z_aload_n C d_Law_empty_0 rfl 1 rfl ?_
  refine z_iconst C (v := 0) d_Law_empty_1 (by decide) ?_
  refine z_aload_n C d_Law_empty_2 rfl 0 rfl ?_
  refine z_try (F := (emptyF σ)) (hN := [((0, 8, 11, 15), xISE)]) (st := [.int 0, .ref (B + 213)]) C hE htab d_Law_empty_3 (c_Bus_empty l hl D ca B σ) tw_641 tw_642 tw_643 tw_1 tw_644 pd_Bus_empty ⟨⟨by decide, by decide⟩, rfl, rfl, by decide, by decide⟩ (Nat.le_of_ble_eq_true rfl) (fun cls hc => ?_) ?_ (fun v9 hv => ?_) (fun cls hc => ?_) rfl
  · rcases ok_empty σ with ⟨i, h⟩ | ⟨c, h1, h2⟩
    · rw [hc] at h; cases h
    · rw [hc] at h2
      cases h2
      simp only [List.mem_cons, List.not_mem_nil, or_false] at h1
      rcases h1 with rfl <;> decide
  · intro q hq
    simp only [List.mem_cons, List.not_mem_nil, or_false] at hq
    rcases hq with rfl
    · exact ⟨tw_281, by decide, by decide, by decide⟩
  · have h9 := ok_empty σ
    rw [hv] at h9
    rcases h9 with ⟨i, h⟩ | ⟨c, h1, h2⟩
    · cases h
      refine z_i2l C d_Law_empty_6 ?_
      refine z_last C (o := 213) d_Law_empty_7 8 rfl (by decide) rfl rfl (by unfold vp_in; decide) ?_
      refine z_map LM_x ?_
      refine z_goto C 14 d_Law_empty_8 (by decide) ?_
      refine z_iconst C (v := 0) d_Law_empty_14 (by decide) ?_
      exact hret _ _ _ _ _ _ d_Law_empty_15 ⟨by rw [hv]; rfl, rfl, fun v h => by rw [hv] at h; cases h; rfl⟩
    · cases h2
  · have h9 := ok_empty σ
    rw [hc] at h9
    rcases h9 with ⟨i, h⟩ | ⟨c, h1, h2⟩
    · cases h
    · cases h2
      simp only [List.mem_cons, List.not_mem_nil, or_false] at h1
      rcases h1 with rfl
      · refine ⟨11, by decide, fun a' => ?_⟩
        refine z_astore_n C d_Law_empty_11 rfl (by decide) [(2, .ref a'), (0, .ref (B + 0)), (1, .ref (B + 213))] rfl ?_
        refine z_iconst C (v := 1) d_Law_empty_12 (by decide) ?_
        exact hret _ _ _ _ _ _ d_Law_empty_13 ⟨by rw [hc]; decide, rfl, fun v h => by rw [hc] at h; cases h⟩
theorem ok_mount (σ : Sg) (x y : Int32) : OkI [xIAE, xISE] (mountF σ x y).1 := by
  unfold mountF
  repeat' split
  all_goals first | exact Or.inl ⟨_, rfl⟩ | exact Or.inr ⟨_, by simp, rfl⟩
set_option maxRecDepth 100000 in
set_option maxHeartbeats 4000000 in
theorem c_Law_mount (l : Launch) (hl : l.stackTraces = false) (D : va_G) (ca : Nat → ClassId) (B : Nat) (σ τ : Sg) (xo : Nat → Int64) (yo : Nat → UInt64) (x y : Int32) (hF : FP σ) : CtA l D ca B y_Law_mount w_Law_mount (rmX 7 105) σ τ xo yo [.ref (B + 0), .int x, .int y, .ref (B + 213)] (pA [xIAE, xISE] (mountF σ x y)) := by
  refine ct_a "RobotBusLaw" [(0, .ref (B + 0)), (1, .int x), (2, .int y), (3, .ref (B + 213))] (by decide) rfl (Nat.le_of_ble_eq_true rfl) rfl (fun X C hE htab hret => ?_)
  refine z_aload_n C d_Law_mount_0 rfl 3 rfl ?_
  refine z_iconst C (v := 0) d_Law_mount_1 (by decide) ?_
  refine z_aload_n C d_Law_mount_2 rfl 0 rfl ?_
  refine z_iload_n C d_Law_mount_3 rfl 1 rfl ?_
  refine z_iload_n C d_Law_mount_4 rfl 2 rfl ?_
  refine z_try (F := (mountF σ x y)) (hN := [((0, 10, 13, 13), xIAE), ((0, 10, 17, 15), xISE)]) (st := [.int 0, .ref (B + 213)]) C hE htab d_Law_mount_5 (c_Bus_mount l hl D ca B σ x y hF) tw_648 tw_649 tw_650 tw_1 tw_651 pd_Bus_mount ⟨⟨by decide, by decide⟩, rfl, rfl, by decide, by decide⟩ (Nat.le_of_ble_eq_true rfl) (fun cls hc => ?_) ?_ (fun v9 hv => ?_) (fun cls hc => ?_) rfl
  · rcases ok_mount σ x y with ⟨i, h⟩ | ⟨c, h1, h2⟩
    · rw [hc] at h; cases h
    · rw [hc] at h2
      cases h2
      simp only [List.mem_cons, List.not_mem_nil, or_false] at h1
      rcases h1 with rfl | rfl <;> decide
  · intro q hq
    simp only [List.mem_cons, List.not_mem_nil, or_false] at hq
    rcases hq with rfl | rfl
    · exact ⟨tw_280, by decide, by decide, by decide⟩
    · exact ⟨tw_281, by decide, by decide, by decide⟩
  · have h9 := ok_mount σ x y
    rw [hv] at h9
    rcases h9 with ⟨i, h⟩ | ⟨c, h1, h2⟩
    · cases h
      refine z_i2l C d_Law_mount_8 ?_
      refine z_last C (o := 213) d_Law_mount_9 8 rfl (by decide) rfl rfl (by unfold vp_in; decide) ?_
      refine z_map LM_x ?_
      refine z_goto C 21 d_Law_mount_10 (by decide) ?_
      refine z_iconst C (v := 0) d_Law_mount_21 (by decide) ?_
      exact hret _ _ _ _ _ _ d_Law_mount_22 ⟨by rw [hv]; rfl, rfl, fun v h => by rw [hv] at h; cases h; rfl⟩
    · cases h2
  · have h9 := ok_mount σ x y
    rw [hc] at h9
    rcases h9 with ⟨i, h⟩ | ⟨c, h1, h2⟩
    · cases h
    · cases h2
      simp only [List.mem_cons, List.not_mem_nil, or_false] at h1
      rcases h1 with rfl | rfl
      · refine ⟨13, by decide, fun a' => ?_⟩
        refine z_astore C d_Law_mount_13 (by decide) [(4, .ref a'), (0, .ref (B + 0)), (1, .int x), (2, .int y), (3, .ref (B + 213))] rfl ?_
        refine z_iconst C (v := 1) d_Law_mount_15 (by decide) ?_
        exact hret _ _ _ _ _ _ d_Law_mount_16 ⟨by rw [hc]; decide, rfl, fun v h => by rw [hc] at h; cases h⟩
      · refine ⟨17, by decide, fun a' => ?_⟩
        refine z_astore C d_Law_mount_17 (by decide) [(4, .ref a'), (0, .ref (B + 0)), (1, .int x), (2, .int y), (3, .ref (B + 213))] rfl ?_
        refine z_iconst C (v := 2) d_Law_mount_19 (by decide) ?_
        exact hret _ _ _ _ _ _ d_Law_mount_20 ⟨by rw [hc]; decide, rfl, fun v h => by rw [hc] at h; cases h⟩
theorem ok_sample (σ : Sg) (g w x y u : Int32) : OkI [xNSE, xIAE, xISE] (sampF σ g w x y u).1 := by
  unfold sampF
  repeat' split
  all_goals first | exact Or.inl ⟨_, rfl⟩ | exact Or.inr ⟨_, by simp, rfl⟩
set_option maxRecDepth 100000 in
set_option maxHeartbeats 4000000 in
theorem c_Law_sample (l : Launch) (hl : l.stackTraces = false) (D : va_G) (ca : Nat → ClassId) (B : Nat) (σ τ : Sg) (xo : Nat → Int64) (yo : Nat → UInt64) (g w x y u : Int32) (hF : FI σ) : CtA l D ca B y_Law_sample w_Law_sample (rmX 7 117) σ τ xo yo [.ref (B + 0), .int g, .int w, .double (cx x), .double (cx y), .int u, .ref (B + 213)] (pA [xNSE, xIAE, xISE] (sampF σ g w x y u)) := by
  refine ct_a "RobotBusLaw" [(0, .ref (B + 0)), (1, .int g), (2, .int w), (3, .double (cx x)), (5, .double (cx y)), (7, .int u), (8, .ref (B + 213))] (by decide) rfl (Nat.le_of_ble_eq_true rfl) rfl (fun X C hE htab hret => ?_)
  refine z_aload C d_Law_sample_0 6 rfl ?_
  refine z_iconst C (v := 0) d_Law_sample_2 (by decide) ?_
  refine z_aload_n C d_Law_sample_3 rfl 0 rfl ?_
  refine z_iload_n C d_Law_sample_4 rfl 1 rfl ?_
  refine z_iload_n C d_Law_sample_5 rfl 2 rfl ?_
  refine z_dload_n C d_Law_sample_6 rfl 3 rfl ?_
  refine z_dload C d_Law_sample_7 4 rfl ?_
  refine z_iload C d_Law_sample_9 5 rfl ?_
  refine z_try (F := (sampF σ g w x y u)) (hN := [((0, 16, 19, 20), xNSE), ((0, 16, 23, 13), xIAE), ((0, 16, 27, 15), xISE)]) (st := [.int 0, .ref (B + 213)]) C hE htab d_Law_sample_11 (c_Bus_sample l hl D ca B σ g w x y u hF) tw_661 tw_662 tw_663 tw_1 tw_664 pd_Bus_sample ⟨⟨by decide, by decide⟩, rfl, rfl, by decide, by decide⟩ (Nat.le_of_ble_eq_true rfl) (fun cls hc => ?_) ?_ (fun v9 hv => ?_) (fun cls hc => ?_) rfl
  · rcases ok_sample σ g w x y u with ⟨i, h⟩ | ⟨c, h1, h2⟩
    · rw [hc] at h; cases h
    · rw [hc] at h2
      cases h2
      simp only [List.mem_cons, List.not_mem_nil, or_false] at h1
      rcases h1 with rfl | rfl | rfl <;> decide
  · intro q hq
    simp only [List.mem_cons, List.not_mem_nil, or_false] at hq
    rcases hq with rfl | rfl | rfl
    · exact ⟨tw_378, by decide, by decide, by decide⟩
    · exact ⟨tw_280, by decide, by decide, by decide⟩
    · exact ⟨tw_281, by decide, by decide, by decide⟩
  · have h9 := ok_sample σ g w x y u
    rw [hv] at h9
    rcases h9 with ⟨i, h⟩ | ⟨c, h1, h2⟩
    · cases h
      refine z_i2l C d_Law_sample_14 ?_
      refine z_last C (o := 213) d_Law_sample_15 8 rfl (by decide) rfl rfl (by unfold vp_in; decide) ?_
      refine z_map LM_x ?_
      refine z_goto C 31 d_Law_sample_16 (by decide) ?_
      refine z_iconst C (v := 0) d_Law_sample_31 (by decide) ?_
      exact hret _ _ _ _ _ _ d_Law_sample_32 ⟨by rw [hv]; rfl, rfl, fun v h => by rw [hv] at h; cases h; rfl⟩
    · cases h2
  · have h9 := ok_sample σ g w x y u
    rw [hc] at h9
    rcases h9 with ⟨i, h⟩ | ⟨c, h1, h2⟩
    · cases h
    · cases h2
      simp only [List.mem_cons, List.not_mem_nil, or_false] at h1
      rcases h1 with rfl | rfl | rfl
      · refine ⟨19, by decide, fun a' => ?_⟩
        refine z_astore C d_Law_sample_19 (by decide) [(9, .ref a'), (0, .ref (B + 0)), (1, .int g), (2, .int w), (3, .double (cx x)), (5, .double (cx y)), (7, .int u), (8, .ref (B + 213))] rfl ?_
        refine z_iconst C (v := 1) d_Law_sample_21 (by decide) ?_
        exact hret _ _ _ _ _ _ d_Law_sample_22 ⟨by rw [hc]; decide, rfl, fun v h => by rw [hc] at h; cases h⟩
      · refine ⟨23, by decide, fun a' => ?_⟩
        refine z_astore C d_Law_sample_23 (by decide) [(9, .ref a'), (0, .ref (B + 0)), (1, .int g), (2, .int w), (3, .double (cx x)), (5, .double (cx y)), (7, .int u), (8, .ref (B + 213))] rfl ?_
        refine z_iconst C (v := 2) d_Law_sample_25 (by decide) ?_
        exact hret _ _ _ _ _ _ d_Law_sample_26 ⟨by rw [hc]; decide, rfl, fun v h => by rw [hc] at h; cases h⟩
      · refine ⟨27, by decide, fun a' => ?_⟩
        refine z_astore C d_Law_sample_27 (by decide) [(9, .ref a'), (0, .ref (B + 0)), (1, .int g), (2, .int w), (3, .double (cx x)), (5, .double (cx y)), (7, .int u), (8, .ref (B + 213))] rfl ?_
        refine z_iconst C (v := 3) d_Law_sample_29 (by decide) ?_
        exact hret _ _ _ _ _ _ d_Law_sample_30 ⟨by rw [hc]; decide, rfl, fun v h => by rw [hc] at h; cases h⟩
theorem ok_locate (σ : Sg) (g w x y : Int32) : OkD [xIAE, xNSE, xARI] (locaF σ g w x y).1 := by
  unfold locaF
  repeat' split
  all_goals first | exact Or.inl ⟨_, rfl⟩ | exact Or.inr ⟨_, by simp, rfl⟩
set_option maxRecDepth 100000 in
set_option maxHeartbeats 4000000 in
theorem c_Law_locate (l : Launch) (hl : l.stackTraces = false) (D : va_G) (ca : Nat → ClassId) (B : Nat) (σ τ : Sg) (xo : Nat → Int64) (yo : Nat → UInt64) (g w x y : Int32) (hF : FI σ) (hP : FP σ) : CtA l D ca B y_Law_locate w_Law_locate (rmX 7 126) σ τ xo yo [.ref (B + 0), .int g, .int w, .double (cx x), .double (cx y), .ref (B + 214)] (pD [xIAE, xNSE, xARI] (locaF σ g w x y)) := by
  refine ct_a "RobotBusLaw" [(0, .ref (B + 0)), (1, .int g), (2, .int w), (3, .double (cx x)), (5, .double (cx y)), (7, .ref (B + 214))] (by decide) rfl (Nat.le_of_ble_eq_true rfl) rfl (fun X C hE htab hret => ?_)
  refine z_aload C d_Law_locate_0 5 rfl ?_
  refine z_iconst C (v := 0) d_Law_locate_2 (by decide) ?_
  refine z_aload_n C d_Law_locate_3 rfl 0 rfl ?_
  refine z_iload_n C d_Law_locate_4 rfl 1 rfl ?_
  refine z_iload_n C d_Law_locate_5 rfl 2 rfl ?_
  refine z_dload_n C d_Law_locate_6 rfl 3 rfl ?_
  refine z_dload C d_Law_locate_7 4 rfl ?_
  refine z_try (F := (locaF σ g w x y)) (hN := [((0, 13, 16, 13), xIAE), ((0, 13, 20, 20), xNSE), ((0, 13, 24, 47), xARI)]) (st := [.int 0, .ref (B + 214)]) C hE htab d_Law_locate_9 (c_Bus_locate l hl D ca B σ g w x y hF hP) tw_694 tw_695 tw_696 tw_1 tw_697 pd_Bus_locate ⟨⟨by decide, by decide⟩, rfl, rfl, by decide, by decide⟩ (Nat.le_of_ble_eq_true rfl) (fun cls hc => ?_) ?_ (fun v9 hv => ?_) (fun cls hc => ?_) rfl
  · rcases ok_locate σ g w x y with ⟨i, h⟩ | ⟨c, h1, h2⟩
    · rw [hc] at h; cases h
    · rw [hc] at h2
      cases h2
      simp only [List.mem_cons, List.not_mem_nil, or_false] at h1
      rcases h1 with rfl | rfl | rfl <;> decide
  · intro q hq
    simp only [List.mem_cons, List.not_mem_nil, or_false] at hq
    rcases hq with rfl | rfl | rfl
    · exact ⟨tw_280, by decide, by decide, by decide⟩
    · exact ⟨tw_378, by decide, by decide, by decide⟩
    · exact ⟨tw_505, by decide, by decide, by decide⟩
  · have h9 := ok_locate σ g w x y
    rw [hv] at h9
    rcases h9 with ⟨i, h⟩ | ⟨c, h1, h2⟩
    · cases h
      refine z_dast C (o := 214) d_Law_locate_12 9 rfl (by decide) rfl rfl (by unfold vp_in; decide) ?_
      refine z_congr LM_y ?_
      refine z_goto C 28 d_Law_locate_13 (by decide) ?_
      refine z_iconst C (v := 0) d_Law_locate_28 (by decide) ?_
      exact hret _ _ _ _ _ _ d_Law_locate_29 ⟨by rw [hv]; rfl, rfl, fun v h => by rw [hv] at h; cases h; rfl⟩
    · cases h2
  · have h9 := ok_locate σ g w x y
    rw [hc] at h9
    rcases h9 with ⟨i, h⟩ | ⟨c, h1, h2⟩
    · cases h
    · cases h2
      simp only [List.mem_cons, List.not_mem_nil, or_false] at h1
      rcases h1 with rfl | rfl | rfl
      · refine ⟨16, by decide, fun a' => ?_⟩
        refine z_astore C d_Law_locate_16 (by decide) [(8, .ref a'), (0, .ref (B + 0)), (1, .int g), (2, .int w), (3, .double (cx x)), (5, .double (cx y)), (7, .ref (B + 214))] rfl ?_
        refine z_iconst C (v := 1) d_Law_locate_18 (by decide) ?_
        exact hret _ _ _ _ _ _ d_Law_locate_19 ⟨by rw [hc]; decide, rfl, fun v h => by rw [hc] at h; cases h⟩
      · refine ⟨20, by decide, fun a' => ?_⟩
        refine z_astore C d_Law_locate_20 (by decide) [(8, .ref a'), (0, .ref (B + 0)), (1, .int g), (2, .int w), (3, .double (cx x)), (5, .double (cx y)), (7, .ref (B + 214))] rfl ?_
        refine z_iconst C (v := 2) d_Law_locate_22 (by decide) ?_
        exact hret _ _ _ _ _ _ d_Law_locate_23 ⟨by rw [hc]; decide, rfl, fun v h => by rw [hc] at h; cases h⟩
      · refine ⟨24, by decide, fun a' => ?_⟩
        refine z_astore C d_Law_locate_24 (by decide) [(8, .ref a'), (0, .ref (B + 0)), (1, .int g), (2, .int w), (3, .double (cx x)), (5, .double (cx y)), (7, .ref (B + 214))] rfl ?_
        refine z_iconst C (v := 3) d_Law_locate_26 (by decide) ?_
        exact hret _ _ _ _ _ _ d_Law_locate_27 ⟨by rw [hc]; decide, rfl, fun v h => by rw [hc] at h; cases h⟩
theorem ok_count (σ : Sg) (w : Int32) : OkI [xIAE] (countF σ w).1 := by
  unfold countF
  repeat' split
  all_goals first | exact Or.inl ⟨_, rfl⟩ | exact Or.inr ⟨_, by simp, rfl⟩
set_option maxRecDepth 100000 in
set_option maxHeartbeats 4000000 in
theorem c_Law_count (l : Launch) (hl : l.stackTraces = false) (D : va_G) (ca : Nat → ClassId) (B : Nat) (σ τ : Sg) (xo : Nat → Int64) (yo : Nat → UInt64) (w : Int32) : CtA l D ca B y_Law_count w_Law_count (rmX 7 103) σ τ xo yo [.ref (B + 0), .int w, .ref (B + 213)] (pA [xIAE] (countF σ w)) := by
  refine ct_a "RobotBusLaw" [(0, .ref (B + 0)), (1, .int w), (2, .ref (B + 213))] (by decide) rfl (Nat.le_of_ble_eq_true rfl) rfl (fun X C hE htab hret => ?_)
  refine z_aload_n C d_Law_count_0 rfl 2 rfl ?_
  refine z_iconst C (v := 0) d_Law_count_1 (by decide) ?_
  refine z_aload_n C d_Law_count_2 rfl 0 rfl ?_
  refine z_iload_n C d_Law_count_3 rfl 1 rfl ?_
  refine z_try (F := (countF σ w)) (hN := [((0, 9, 12, 13), xIAE)]) (st := [.int 0, .ref (B + 213)]) C hE htab d_Law_count_4 (c_Bus_count l hl D ca B σ w) tw_728 tw_729 tw_730 tw_1 tw_731 pd_Bus_count ⟨⟨by decide, by decide⟩, rfl, rfl, by decide, by decide⟩ (Nat.le_of_ble_eq_true rfl) (fun cls hc => ?_) ?_ (fun v9 hv => ?_) (fun cls hc => ?_) rfl
  · rcases ok_count σ w with ⟨i, h⟩ | ⟨c, h1, h2⟩
    · rw [hc] at h; cases h
    · rw [hc] at h2
      cases h2
      simp only [List.mem_cons, List.not_mem_nil, or_false] at h1
      rcases h1 with rfl <;> decide
  · intro q hq
    simp only [List.mem_cons, List.not_mem_nil, or_false] at hq
    rcases hq with rfl
    · exact ⟨tw_280, by decide, by decide, by decide⟩
  · have h9 := ok_count σ w
    rw [hv] at h9
    rcases h9 with ⟨i, h⟩ | ⟨c, h1, h2⟩
    · cases h
      refine z_i2l C d_Law_count_7 ?_
      refine z_last C (o := 213) d_Law_count_8 8 rfl (by decide) rfl rfl (by unfold vp_in; decide) ?_
      refine z_map LM_x ?_
      refine z_goto C 15 d_Law_count_9 (by decide) ?_
      refine z_iconst C (v := 0) d_Law_count_15 (by decide) ?_
      exact hret _ _ _ _ _ _ d_Law_count_16 ⟨by rw [hv]; rfl, rfl, fun v h => by rw [hv] at h; cases h; rfl⟩
    · cases h2
  · have h9 := ok_count σ w
    rw [hc] at h9
    rcases h9 with ⟨i, h⟩ | ⟨c, h1, h2⟩
    · cases h
    · cases h2
      simp only [List.mem_cons, List.not_mem_nil, or_false] at h1
      rcases h1 with rfl
      · refine ⟨12, by decide, fun a' => ?_⟩
        refine z_astore_n C d_Law_count_12 rfl (by decide) [(3, .ref a'), (0, .ref (B + 0)), (1, .int w), (2, .ref (B + 213))] rfl ?_
        refine z_iconst C (v := 1) d_Law_count_13 (by decide) ?_
        exact hret _ _ _ _ _ _ d_Law_count_14 ⟨by rw [hc]; decide, rfl, fun v h => by rw [hc] at h; cases h⟩
