theorem d_Que_init_0 : decode b_Que_init 0 = .ok (.aload_n 0, 1) := by decide +kernel
theorem d_Que_init_1 : decode b_Que_init 1 = .ok (.invokespecial 3, 3) := by decide +kernel
theorem d_Que_init_4 : decode b_Que_init 4 = .ok (.aload_n 0, 1) := by decide +kernel
theorem d_Que_init_5 : decode b_Que_init 5 = .ok (.bipush 12, 2) := by decide +kernel
theorem d_Que_init_7 : decode b_Que_init 7 = .ok (.newarray .int, 2) := by decide +kernel
theorem d_Que_init_9 : decode b_Que_init 9 = .ok (.putfield 11, 3) := by decide +kernel
theorem d_Que_init_12 : decode b_Que_init 12 = .ok (.aload_n 0, 1) := by decide +kernel
theorem d_Que_init_13 : decode b_Que_init 13 = .ok (.iconst 0, 1) := by decide +kernel
theorem d_Que_init_14 : decode b_Que_init 14 = .ok (.putfield 15, 3) := by decide +kernel
theorem d_Que_init_17 : decode b_Que_init 17 = .ok (.aload_n 0, 1) := by decide +kernel
theorem d_Que_init_18 : decode b_Que_init 18 = .ok (.iconst 0, 1) := by decide +kernel
theorem d_Que_init_19 : decode b_Que_init 19 = .ok (.putfield 19, 3) := by decide +kernel
theorem d_Que_init_22 : decode b_Que_init 22 = .ok (.return_, 1) := by decide +kernel
theorem d_Que_close_0 : decode b_Que_close 0 = .ok (.aload_n 0, 1) := by decide +kernel
theorem d_Que_close_1 : decode b_Que_close 1 = .ok (.getfield 19, 3) := by decide +kernel
theorem d_Que_close_4 : decode b_Que_close 4 = .ok (.istore_n 1, 1) := by decide +kernel
theorem d_Que_close_5 : decode b_Que_close 5 = .ok (.aload_n 0, 1) := by decide +kernel
theorem d_Que_close_6 : decode b_Que_close 6 = .ok (.iconst 0, 1) := by decide +kernel
theorem d_Que_close_7 : decode b_Que_close 7 = .ok (.putfield 15, 3) := by decide +kernel
theorem d_Que_close_10 : decode b_Que_close 10 = .ok (.aload_n 0, 1) := by decide +kernel
theorem d_Que_close_11 : decode b_Que_close 11 = .ok (.iconst 0, 1) := by decide +kernel
theorem d_Que_close_12 : decode b_Que_close 12 = .ok (.putfield 19, 3) := by decide +kernel
theorem d_Que_close_15 : decode b_Que_close 15 = .ok (.iload_n 1, 1) := by decide +kernel
theorem d_Que_close_16 : decode b_Que_close 16 = .ok (.ireturn, 1) := by decide +kernel
theorem d_Que_isOpen_0 : decode b_Que_isOpen 0 = .ok (.aload_n 0, 1) := by decide +kernel
theorem d_Que_isOpen_1 : decode b_Que_isOpen 1 = .ok (.getfield 15, 3) := by decide +kernel
theorem d_Que_isOpen_4 : decode b_Que_isOpen 4 = .ok (.ifCond .le 7, 3) := by decide +kernel
theorem d_Que_isOpen_7 : decode b_Que_isOpen 7 = .ok (.iconst 1, 1) := by decide +kernel
theorem d_Que_isOpen_8 : decode b_Que_isOpen 8 = .ok (.goto 4, 3) := by decide +kernel
theorem d_Que_isOpen_11 : decode b_Que_isOpen 11 = .ok (.iconst 0, 1) := by decide +kernel
theorem d_Que_isOpen_12 : decode b_Que_isOpen 12 = .ok (.ireturn, 1) := by decide +kernel
theorem d_Que_deepen_0 : decode b_Que_deepen 0 = .ok (.iconst 0, 1) := by decide +kernel
theorem d_Que_deepen_1 : decode b_Que_deepen 1 = .ok (.aload_n 0, 1) := by decide +kernel
theorem d_Que_deepen_2 : decode b_Que_deepen 2 = .ok (.getfield 19, 3) := by decide +kernel
theorem d_Que_deepen_5 : decode b_Que_deepen 5 = .ok (.iload_n 1, 1) := by decide +kernel
theorem d_Que_deepen_6 : decode b_Que_deepen 6 = .ok (.isub, 1) := by decide +kernel
theorem d_Que_deepen_7 : decode b_Que_deepen 7 = .ok (.invokestatic 22, 3) := by decide +kernel
theorem d_Que_deepen_10 : decode b_Que_deepen 10 = .ok (.istore_n 2, 1) := by decide +kernel
theorem d_Que_deepen_11 : decode b_Que_deepen 11 = .ok (.aload_n 0, 1) := by decide +kernel
theorem d_Que_deepen_12 : decode b_Que_deepen 12 = .ok (.iload_n 2, 1) := by decide +kernel
theorem d_Que_deepen_13 : decode b_Que_deepen 13 = .ok (.invokevirtual 28, 3) := by decide +kernel
theorem d_Que_deepen_16 : decode b_Que_deepen 16 = .ok (.aload_n 0, 1) := by decide +kernel
theorem d_Que_deepen_17 : decode b_Que_deepen 17 = .ok (.iload_n 1, 1) := by decide +kernel
theorem d_Que_deepen_18 : decode b_Que_deepen 18 = .ok (.putfield 15, 3) := by decide +kernel
theorem d_Que_deepen_21 : decode b_Que_deepen 21 = .ok (.iload_n 2, 1) := by decide +kernel
theorem d_Que_deepen_22 : decode b_Que_deepen 22 = .ok (.ireturn, 1) := by decide +kernel
theorem d_Que_dropOldest_0 : decode b_Que_dropOldest 0 = .ok (.aload_n 0, 1) := by decide +kernel
theorem d_Que_dropOldest_1 : decode b_Que_dropOldest 1 = .ok (.dup, 1) := by decide +kernel
theorem d_Que_dropOldest_2 : decode b_Que_dropOldest 2 = .ok (.getfield 19, 3) := by decide +kernel
theorem d_Que_dropOldest_5 : decode b_Que_dropOldest 5 = .ok (.iload_n 1, 1) := by decide +kernel
theorem d_Que_dropOldest_6 : decode b_Que_dropOldest 6 = .ok (.isub, 1) := by decide +kernel
theorem d_Que_dropOldest_7 : decode b_Que_dropOldest 7 = .ok (.putfield 19, 3) := by decide +kernel
theorem d_Que_dropOldest_10 : decode b_Que_dropOldest 10 = .ok (.aload_n 0, 1) := by decide +kernel
theorem d_Que_dropOldest_11 : decode b_Que_dropOldest 11 = .ok (.getfield 11, 3) := by decide +kernel
theorem d_Que_dropOldest_14 : decode b_Que_dropOldest 14 = .ok (.iload_n 1, 1) := by decide +kernel
theorem d_Que_dropOldest_15 : decode b_Que_dropOldest 15 = .ok (.iconst 3, 1) := by decide +kernel
theorem d_Que_dropOldest_16 : decode b_Que_dropOldest 16 = .ok (.imul, 1) := by decide +kernel
theorem d_Que_dropOldest_17 : decode b_Que_dropOldest 17 = .ok (.aload_n 0, 1) := by decide +kernel
theorem d_Que_dropOldest_18 : decode b_Que_dropOldest 18 = .ok (.getfield 11, 3) := by decide +kernel
theorem d_Que_dropOldest_21 : decode b_Que_dropOldest 21 = .ok (.iconst 0, 1) := by decide +kernel
theorem d_Que_dropOldest_22 : decode b_Que_dropOldest 22 = .ok (.aload_n 0, 1) := by decide +kernel
theorem d_Que_dropOldest_23 : decode b_Que_dropOldest 23 = .ok (.getfield 19, 3) := by decide +kernel
theorem d_Que_dropOldest_26 : decode b_Que_dropOldest 26 = .ok (.iconst 3, 1) := by decide +kernel
theorem d_Que_dropOldest_27 : decode b_Que_dropOldest 27 = .ok (.imul, 1) := by decide +kernel
theorem d_Que_dropOldest_28 : decode b_Que_dropOldest 28 = .ok (.invokestatic 32, 3) := by decide +kernel
theorem d_Que_dropOldest_31 : decode b_Que_dropOldest 31 = .ok (.return_, 1) := by decide +kernel
theorem d_Que_append_0 : decode b_Que_append 0 = .ok (.aload_n 0, 1) := by decide +kernel
theorem d_Que_append_1 : decode b_Que_append 1 = .ok (.getfield 19, 3) := by decide +kernel
theorem d_Que_append_4 : decode b_Que_append 4 = .ok (.aload_n 0, 1) := by decide +kernel
theorem d_Que_append_5 : decode b_Que_append 5 = .ok (.getfield 15, 3) := by decide +kernel
theorem d_Que_append_8 : decode b_Que_append 8 = .ok (.if_icmp .ge 7, 3) := by decide +kernel
theorem d_Que_append_11 : decode b_Que_append 11 = .ok (.iconst 0, 1) := by decide +kernel
theorem d_Que_append_12 : decode b_Que_append 12 = .ok (.goto 4, 3) := by decide +kernel
theorem d_Que_append_15 : decode b_Que_append 15 = .ok (.iconst 1, 1) := by decide +kernel
theorem d_Que_append_16 : decode b_Que_append 16 = .ok (.istore 4, 2) := by decide +kernel
theorem d_Que_append_18 : decode b_Que_append 18 = .ok (.aload_n 0, 1) := by decide +kernel
theorem d_Que_append_19 : decode b_Que_append 19 = .ok (.iload 4, 2) := by decide +kernel
theorem d_Que_append_21 : decode b_Que_append 21 = .ok (.invokevirtual 28, 3) := by decide +kernel
theorem d_Que_append_24 : decode b_Que_append 24 = .ok (.aload_n 0, 1) := by decide +kernel
theorem d_Que_append_25 : decode b_Que_append 25 = .ok (.getfield 19, 3) := by decide +kernel
theorem d_Que_append_28 : decode b_Que_append 28 = .ok (.iconst 3, 1) := by decide +kernel
theorem d_Que_append_29 : decode b_Que_append 29 = .ok (.imul, 1) := by decide +kernel
theorem d_Que_append_30 : decode b_Que_append 30 = .ok (.istore 5, 2) := by decide +kernel
theorem d_Que_append_32 : decode b_Que_append 32 = .ok (.aload_n 0, 1) := by decide +kernel
theorem d_Que_append_33 : decode b_Que_append 33 = .ok (.getfield 11, 3) := by decide +kernel
theorem d_Que_append_36 : decode b_Que_append 36 = .ok (.iload 5, 2) := by decide +kernel
theorem d_Que_append_38 : decode b_Que_append 38 = .ok (.iload_n 1, 1) := by decide +kernel
theorem d_Que_append_39 : decode b_Que_append 39 = .ok (.iastore, 1) := by decide +kernel
theorem d_Que_append_40 : decode b_Que_append 40 = .ok (.aload_n 0, 1) := by decide +kernel
theorem d_Que_append_41 : decode b_Que_append 41 = .ok (.getfield 11, 3) := by decide +kernel
theorem d_Que_append_44 : decode b_Que_append 44 = .ok (.iload 5, 2) := by decide +kernel
theorem d_Que_append_46 : decode b_Que_append 46 = .ok (.iconst 1, 1) := by decide +kernel
theorem d_Que_append_47 : decode b_Que_append 47 = .ok (.iadd, 1) := by decide +kernel
theorem d_Que_append_48 : decode b_Que_append 48 = .ok (.iload_n 2, 1) := by decide +kernel
theorem d_Que_append_49 : decode b_Que_append 49 = .ok (.iastore, 1) := by decide +kernel
theorem d_Que_append_50 : decode b_Que_append 50 = .ok (.aload_n 0, 1) := by decide +kernel
theorem d_Que_append_51 : decode b_Que_append 51 = .ok (.getfield 11, 3) := by decide +kernel
theorem d_Que_append_54 : decode b_Que_append 54 = .ok (.iload 5, 2) := by decide +kernel
theorem d_Que_append_56 : decode b_Que_append 56 = .ok (.iconst 2, 1) := by decide +kernel
theorem d_Que_append_57 : decode b_Que_append 57 = .ok (.iadd, 1) := by decide +kernel
theorem d_Que_append_58 : decode b_Que_append 58 = .ok (.iload_n 3, 1) := by decide +kernel
theorem d_Que_append_59 : decode b_Que_append 59 = .ok (.iastore, 1) := by decide +kernel
theorem d_Que_append_60 : decode b_Que_append 60 = .ok (.aload_n 0, 1) := by decide +kernel
theorem d_Que_append_61 : decode b_Que_append 61 = .ok (.dup, 1) := by decide +kernel
theorem d_Que_append_62 : decode b_Que_append 62 = .ok (.getfield 19, 3) := by decide +kernel
theorem d_Que_append_65 : decode b_Que_append 65 = .ok (.iconst 1, 1) := by decide +kernel
theorem d_Que_append_66 : decode b_Que_append 66 = .ok (.iadd, 1) := by decide +kernel
theorem d_Que_append_67 : decode b_Que_append 67 = .ok (.putfield 19, 3) := by decide +kernel
theorem d_Que_append_70 : decode b_Que_append 70 = .ok (.iload 4, 2) := by decide +kernel
theorem d_Que_append_72 : decode b_Que_append 72 = .ok (.ireturn, 1) := by decide +kernel
theorem d_Que_part_0 : decode b_Que_part 0 = .ok (.aload_n 0, 1) := by decide +kernel
theorem d_Que_part_1 : decode b_Que_part 1 = .ok (.getfield 11, 3) := by decide +kernel
theorem d_Que_part_4 : decode b_Que_part 4 = .ok (.iload_n 1, 1) := by decide +kernel
theorem d_Que_part_5 : decode b_Que_part 5 = .ok (.iconst 3, 1) := by decide +kernel
theorem d_Que_part_6 : decode b_Que_part 6 = .ok (.imul, 1) := by decide +kernel
theorem d_Que_part_7 : decode b_Que_part 7 = .ok (.iload_n 2, 1) := by decide +kernel
theorem d_Que_part_8 : decode b_Que_part 8 = .ok (.iadd, 1) := by decide +kernel
theorem d_Que_part_9 : decode b_Que_part 9 = .ok (.iaload, 1) := by decide +kernel
theorem d_Que_part_10 : decode b_Que_part 10 = .ok (.ireturn, 1) := by decide +kernel
theorem d_Act_init_0 : decode b_Act_init 0 = .ok (.aload_n 0, 1) := by decide +kernel
theorem d_Act_init_1 : decode b_Act_init 1 = .ok (.invokespecial 3, 3) := by decide +kernel
theorem d_Act_init_4 : decode b_Act_init 4 = .ok (.aload_n 0, 1) := by decide +kernel
theorem d_Act_init_5 : decode b_Act_init 5 = .ok (.iconst (-1), 1) := by decide +kernel
theorem d_Act_init_6 : decode b_Act_init 6 = .ok (.putfield 9, 3) := by decide +kernel
theorem d_Act_init_9 : decode b_Act_init 9 = .ok (.aload_n 0, 1) := by decide +kernel
theorem d_Act_init_10 : decode b_Act_init 10 = .ok (.iconst 0, 1) := by decide +kernel
theorem d_Act_init_11 : decode b_Act_init 11 = .ok (.putfield 15, 3) := by decide +kernel
theorem d_Act_init_14 : decode b_Act_init 14 = .ok (.aload_n 0, 1) := by decide +kernel
theorem d_Act_init_15 : decode b_Act_init 15 = .ok (.iconst 0, 1) := by decide +kernel
theorem d_Act_init_16 : decode b_Act_init 16 = .ok (.putfield 18, 3) := by decide +kernel
theorem d_Act_init_19 : decode b_Act_init 19 = .ok (.return_, 1) := by decide +kernel
theorem d_Top_init_0 : decode b_Top_init 0 = .ok (.aload_n 0, 1) := by decide +kernel
theorem d_Top_init_1 : decode b_Top_init 1 = .ok (.invokespecial 1, 3) := by decide +kernel
theorem d_Top_init_4 : decode b_Top_init 4 = .ok (.aload_n 0, 1) := by decide +kernel
theorem d_Top_init_5 : decode b_Top_init 5 = .ok (.iconst 0, 1) := by decide +kernel
theorem d_Top_init_6 : decode b_Top_init 6 = .ok (.putfield 7, 3) := by decide +kernel
theorem d_Top_init_9 : decode b_Top_init 9 = .ok (.aload_n 0, 1) := by decide +kernel
theorem d_Top_init_10 : decode b_Top_init 10 = .ok (.iconst 0, 1) := by decide +kernel
theorem d_Top_init_11 : decode b_Top_init 11 = .ok (.putfield 13, 3) := by decide +kernel
theorem d_Top_init_14 : decode b_Top_init 14 = .ok (.aload_n 0, 1) := by decide +kernel
theorem d_Top_init_15 : decode b_Top_init 15 = .ok (.iconst 0, 1) := by decide +kernel
theorem d_Top_init_16 : decode b_Top_init 16 = .ok (.putfield 16, 3) := by decide +kernel
theorem d_Top_init_19 : decode b_Top_init 19 = .ok (.aload_n 0, 1) := by decide +kernel
theorem d_Top_init_20 : decode b_Top_init 20 = .ok (.iconst 0, 1) := by decide +kernel
theorem d_Top_init_21 : decode b_Top_init 21 = .ok (.putfield 19, 3) := by decide +kernel
theorem d_Top_init_24 : decode b_Top_init 24 = .ok (.aload_n 0, 1) := by decide +kernel
theorem d_Top_init_25 : decode b_Top_init 25 = .ok (.iconst 0, 1) := by decide +kernel
theorem d_Top_init_26 : decode b_Top_init 26 = .ok (.putfield 23, 3) := by decide +kernel
theorem d_Top_init_29 : decode b_Top_init 29 = .ok (.aload_n 0, 1) := by decide +kernel
theorem d_Top_init_30 : decode b_Top_init 30 = .ok (.iconst 0, 1) := by decide +kernel
theorem d_Top_init_31 : decode b_Top_init 31 = .ok (.putfield 26, 3) := by decide +kernel
theorem d_Top_init_34 : decode b_Top_init 34 = .ok (.return_, 1) := by decide +kernel
theorem d_Top_setLast_0 : decode b_Top_setLast 0 = .ok (.aload_n 0, 1) := by decide +kernel
theorem d_Top_setLast_1 : decode b_Top_setLast 1 = .ok (.iconst 1, 1) := by decide +kernel
theorem d_Top_setLast_2 : decode b_Top_setLast 2 = .ok (.putfield 16, 3) := by decide +kernel
theorem d_Top_setLast_5 : decode b_Top_setLast 5 = .ok (.aload_n 0, 1) := by decide +kernel
theorem d_Top_setLast_6 : decode b_Top_setLast 6 = .ok (.iload_n 1, 1) := by decide +kernel
theorem d_Top_setLast_7 : decode b_Top_setLast 7 = .ok (.putfield 19, 3) := by decide +kernel
theorem d_Top_setLast_10 : decode b_Top_setLast 10 = .ok (.aload_n 0, 1) := by decide +kernel
theorem d_Top_setLast_11 : decode b_Top_setLast 11 = .ok (.iload_n 2, 1) := by decide +kernel
theorem d_Top_setLast_12 : decode b_Top_setLast 12 = .ok (.putfield 23, 3) := by decide +kernel
theorem d_Top_setLast_15 : decode b_Top_setLast 15 = .ok (.aload_n 0, 1) := by decide +kernel
theorem d_Top_setLast_16 : decode b_Top_setLast 16 = .ok (.iload_n 3, 1) := by decide +kernel
theorem d_Top_setLast_17 : decode b_Top_setLast 17 = .ok (.putfield 26, 3) := by decide +kernel
theorem d_Top_setLast_20 : decode b_Top_setLast 20 = .ok (.return_, 1) := by decide +kernel
theorem d_Srv_init_0 : decode b_Srv_init 0 = .ok (.aload_n 0, 1) := by decide +kernel
theorem d_Srv_init_1 : decode b_Srv_init 1 = .ok (.invokespecial 3, 3) := by decide +kernel
theorem d_Srv_init_4 : decode b_Srv_init 4 = .ok (.aload_n 0, 1) := by decide +kernel
theorem d_Srv_init_5 : decode b_Srv_init 5 = .ok (.iconst (-1), 1) := by decide +kernel
theorem d_Srv_init_6 : decode b_Srv_init 6 = .ok (.putfield 9, 3) := by decide +kernel
theorem d_Srv_init_9 : decode b_Srv_init 9 = .ok (.aload_n 0, 1) := by decide +kernel
theorem d_Srv_init_10 : decode b_Srv_init 10 = .ok (.iconst 0, 1) := by decide +kernel
theorem d_Srv_init_11 : decode b_Srv_init 11 = .ok (.putfield 15, 3) := by decide +kernel
theorem d_Srv_init_14 : decode b_Srv_init 14 = .ok (.aload_n 0, 1) := by decide +kernel
theorem d_Srv_init_15 : decode b_Srv_init 15 = .ok (.iconst 0, 1) := by decide +kernel
theorem d_Srv_init_16 : decode b_Srv_init 16 = .ok (.putfield 18, 3) := by decide +kernel
theorem d_Srv_init_19 : decode b_Srv_init 19 = .ok (.aload_n 0, 1) := by decide +kernel
theorem d_Srv_init_20 : decode b_Srv_init 20 = .ok (.iconst 0, 1) := by decide +kernel
theorem d_Srv_init_21 : decode b_Srv_init 21 = .ok (.putfield 21, 3) := by decide +kernel
theorem d_Srv_init_24 : decode b_Srv_init 24 = .ok (.return_, 1) := by decide +kernel
theorem d_Nod_init_0 : decode b_Nod_init 0 = .ok (.aload_n 0, 1) := by decide +kernel
theorem d_Nod_init_1 : decode b_Nod_init 1 = .ok (.invokespecial 3, 3) := by decide +kernel
theorem d_Nod_init_4 : decode b_Nod_init 4 = .ok (.aload_n 0, 1) := by decide +kernel
theorem d_Nod_init_5 : decode b_Nod_init 5 = .ok (.iconst 4, 1) := by decide +kernel
theorem d_Nod_init_6 : decode b_Nod_init 6 = .ok (.newarray .int, 2) := by decide +kernel
theorem d_Nod_init_8 : decode b_Nod_init 8 = .ok (.putfield 9, 3) := by decide +kernel
theorem d_Nod_init_11 : decode b_Nod_init 11 = .ok (.aload_n 0, 1) := by decide +kernel
theorem d_Nod_init_12 : decode b_Nod_init 12 = .ok (.bipush 6, 2) := by decide +kernel
theorem d_Nod_init_14 : decode b_Nod_init 14 = .ok (.anewarray 15, 3) := by decide +kernel
theorem d_Nod_init_17 : decode b_Nod_init 17 = .ok (.putfield 17, 3) := by decide +kernel
theorem d_Nod_init_20 : decode b_Nod_init 20 = .ok (.aload_n 0, 1) := by decide +kernel
theorem d_Nod_init_21 : decode b_Nod_init 21 = .ok (.bipush 6, 2) := by decide +kernel
theorem d_Nod_init_23 : decode b_Nod_init 23 = .ok (.anewarray 21, 3) := by decide +kernel
theorem d_Nod_init_26 : decode b_Nod_init 26 = .ok (.putfield 23, 3) := by decide +kernel
theorem d_Nod_init_29 : decode b_Nod_init 29 = .ok (.aload_n 0, 1) := by decide +kernel
theorem d_Nod_init_30 : decode b_Nod_init 30 = .ok (.iconst 0, 1) := by decide +kernel
theorem d_Nod_init_31 : decode b_Nod_init 31 = .ok (.putfield 27, 3) := by decide +kernel
theorem d_Nod_init_34 : decode b_Nod_init 34 = .ok (.aload_n 0, 1) := by decide +kernel
theorem d_Nod_init_35 : decode b_Nod_init 35 = .ok (.iconst 0, 1) := by decide +kernel
theorem d_Nod_init_36 : decode b_Nod_init 36 = .ok (.putfield 31, 3) := by decide +kernel
theorem d_Nod_init_39 : decode b_Nod_init 39 = .ok (.iconst 0, 1) := by decide +kernel
theorem d_Nod_init_40 : decode b_Nod_init 40 = .ok (.istore_n 1, 1) := by decide +kernel
theorem d_Nod_init_41 : decode b_Nod_init 41 = .ok (.iload_n 1, 1) := by decide +kernel
theorem d_Nod_init_42 : decode b_Nod_init 42 = .ok (.bipush 6, 2) := by decide +kernel
theorem d_Nod_init_44 : decode b_Nod_init 44 = .ok (.if_icmp .ge 35, 3) := by decide +kernel
theorem d_Nod_init_47 : decode b_Nod_init 47 = .ok (.aload_n 0, 1) := by decide +kernel
theorem d_Nod_init_48 : decode b_Nod_init 48 = .ok (.getfield 17, 3) := by decide +kernel
theorem d_Nod_init_51 : decode b_Nod_init 51 = .ok (.iload_n 1, 1) := by decide +kernel
theorem d_Nod_init_52 : decode b_Nod_init 52 = .ok (.new 15, 3) := by decide +kernel
theorem d_Nod_init_55 : decode b_Nod_init 55 = .ok (.dup, 1) := by decide +kernel
theorem d_Nod_init_56 : decode b_Nod_init 56 = .ok (.invokespecial 35, 3) := by decide +kernel
theorem d_Nod_init_59 : decode b_Nod_init 59 = .ok (.aastore, 1) := by decide +kernel
theorem d_Nod_init_60 : decode b_Nod_init 60 = .ok (.aload_n 0, 1) := by decide +kernel
theorem d_Nod_init_61 : decode b_Nod_init 61 = .ok (.getfield 23, 3) := by decide +kernel
theorem d_Nod_init_64 : decode b_Nod_init 64 = .ok (.iload_n 1, 1) := by decide +kernel
theorem d_Nod_init_65 : decode b_Nod_init 65 = .ok (.new 21, 3) := by decide +kernel
theorem d_Nod_init_68 : decode b_Nod_init 68 = .ok (.dup, 1) := by decide +kernel
theorem d_Nod_init_69 : decode b_Nod_init 69 = .ok (.invokespecial 36, 3) := by decide +kernel
theorem d_Nod_init_72 : decode b_Nod_init 72 = .ok (.aastore, 1) := by decide +kernel
theorem d_Nod_init_73 : decode b_Nod_init 73 = .ok (.iinc 1 1, 3) := by decide +kernel
theorem d_Nod_init_76 : decode b_Nod_init 76 = .ok (.goto (-35), 3) := by decide +kernel
theorem d_Nod_init_79 : decode b_Nod_init 79 = .ok (.return_, 1) := by decide +kernel
theorem d_Nod_reset_0 : decode b_Nod_reset 0 = .ok (.iconst 0, 1) := by decide +kernel
theorem d_Nod_reset_1 : decode b_Nod_reset 1 = .ok (.istore_n 1, 1) := by decide +kernel
theorem d_Nod_reset_2 : decode b_Nod_reset 2 = .ok (.iconst 0, 1) := by decide +kernel
theorem d_Nod_reset_3 : decode b_Nod_reset 3 = .ok (.istore_n 2, 1) := by decide +kernel
theorem d_Nod_reset_4 : decode b_Nod_reset 4 = .ok (.iload_n 2, 1) := by decide +kernel
theorem d_Nod_reset_5 : decode b_Nod_reset 5 = .ok (.bipush 6, 2) := by decide +kernel
theorem d_Nod_reset_7 : decode b_Nod_reset 7 = .ok (.if_icmp .ge 31, 3) := by decide +kernel
theorem d_Nod_reset_10 : decode b_Nod_reset 10 = .ok (.iload_n 1, 1) := by decide +kernel
theorem d_Nod_reset_11 : decode b_Nod_reset 11 = .ok (.aload_n 0, 1) := by decide +kernel
theorem d_Nod_reset_12 : decode b_Nod_reset 12 = .ok (.getfield 17, 3) := by decide +kernel
theorem d_Nod_reset_15 : decode b_Nod_reset 15 = .ok (.iload_n 2, 1) := by decide +kernel
theorem d_Nod_reset_16 : decode b_Nod_reset 16 = .ok (.aaload, 1) := by decide +kernel
theorem d_Nod_reset_17 : decode b_Nod_reset 17 = .ok (.invokevirtual 37, 3) := by decide +kernel
theorem d_Nod_reset_20 : decode b_Nod_reset 20 = .ok (.iadd, 1) := by decide +kernel
theorem d_Nod_reset_21 : decode b_Nod_reset 21 = .ok (.istore_n 1, 1) := by decide +kernel
theorem d_Nod_reset_22 : decode b_Nod_reset 22 = .ok (.aload_n 0, 1) := by decide +kernel
theorem d_Nod_reset_23 : decode b_Nod_reset 23 = .ok (.getfield 23, 3) := by decide +kernel
theorem d_Nod_reset_26 : decode b_Nod_reset 26 = .ok (.iload_n 2, 1) := by decide +kernel
theorem d_Nod_reset_27 : decode b_Nod_reset 27 = .ok (.aaload, 1) := by decide +kernel
theorem d_Nod_reset_28 : decode b_Nod_reset 28 = .ok (.iconst (-1), 1) := by decide +kernel
theorem d_Nod_reset_29 : decode b_Nod_reset 29 = .ok (.putfield 41, 3) := by decide +kernel
theorem d_Nod_reset_32 : decode b_Nod_reset 32 = .ok (.iinc 2 1, 3) := by decide +kernel
theorem d_Nod_reset_35 : decode b_Nod_reset 35 = .ok (.goto (-31), 3) := by decide +kernel
theorem d_Nod_reset_38 : decode b_Nod_reset 38 = .ok (.iconst 0, 1) := by decide +kernel
theorem d_Nod_reset_39 : decode b_Nod_reset 39 = .ok (.istore_n 2, 1) := by decide +kernel
theorem d_Nod_reset_40 : decode b_Nod_reset 40 = .ok (.iload_n 2, 1) := by decide +kernel
theorem d_Nod_reset_41 : decode b_Nod_reset 41 = .ok (.iconst 4, 1) := by decide +kernel
theorem d_Nod_reset_42 : decode b_Nod_reset 42 = .ok (.if_icmp .ge 16, 3) := by decide +kernel
theorem d_Nod_reset_45 : decode b_Nod_reset 45 = .ok (.aload_n 0, 1) := by decide +kernel
theorem d_Nod_reset_46 : decode b_Nod_reset 46 = .ok (.getfield 9, 3) := by decide +kernel
theorem d_Nod_reset_49 : decode b_Nod_reset 49 = .ok (.iload_n 2, 1) := by decide +kernel
theorem d_Nod_reset_50 : decode b_Nod_reset 50 = .ok (.iconst 0, 1) := by decide +kernel
theorem d_Nod_reset_51 : decode b_Nod_reset 51 = .ok (.iastore, 1) := by decide +kernel
theorem d_Nod_reset_52 : decode b_Nod_reset 52 = .ok (.iinc 2 1, 3) := by decide +kernel
theorem d_Nod_reset_55 : decode b_Nod_reset 55 = .ok (.goto (-15), 3) := by decide +kernel
theorem d_Nod_reset_58 : decode b_Nod_reset 58 = .ok (.aload_n 0, 1) := by decide +kernel
theorem d_Nod_reset_59 : decode b_Nod_reset 59 = .ok (.iconst 0, 1) := by decide +kernel
theorem d_Nod_reset_60 : decode b_Nod_reset 60 = .ok (.putfield 27, 3) := by decide +kernel
theorem d_Nod_reset_63 : decode b_Nod_reset 63 = .ok (.aload_n 0, 1) := by decide +kernel
theorem d_Nod_reset_64 : decode b_Nod_reset 64 = .ok (.iconst 0, 1) := by decide +kernel
theorem d_Nod_reset_65 : decode b_Nod_reset 65 = .ok (.putfield 31, 3) := by decide +kernel
theorem d_Nod_reset_68 : decode b_Nod_reset 68 = .ok (.iload_n 1, 1) := by decide +kernel
theorem d_Nod_reset_69 : decode b_Nod_reset 69 = .ok (.ireturn, 1) := by decide +kernel
theorem d_Nod_nextTopic_0 : decode b_Nod_nextTopic 0 = .ok (.iconst 0, 1) := by decide +kernel
theorem d_Nod_nextTopic_1 : decode b_Nod_nextTopic 1 = .ok (.istore_n 1, 1) := by decide +kernel
theorem d_Nod_nextTopic_2 : decode b_Nod_nextTopic 2 = .ok (.iload_n 1, 1) := by decide +kernel
theorem d_Nod_nextTopic_3 : decode b_Nod_nextTopic 3 = .ok (.bipush 6, 2) := by decide +kernel
theorem d_Nod_nextTopic_5 : decode b_Nod_nextTopic 5 = .ok (.if_icmp .ge 33, 3) := by decide +kernel
theorem d_Nod_nextTopic_8 : decode b_Nod_nextTopic 8 = .ok (.aload_n 0, 1) := by decide +kernel
theorem d_Nod_nextTopic_9 : decode b_Nod_nextTopic 9 = .ok (.getfield 31, 3) := by decide +kernel
theorem d_Nod_nextTopic_12 : decode b_Nod_nextTopic 12 = .ok (.iload_n 1, 1) := by decide +kernel
theorem d_Nod_nextTopic_13 : decode b_Nod_nextTopic 13 = .ok (.iadd, 1) := by decide +kernel
theorem d_Nod_nextTopic_14 : decode b_Nod_nextTopic 14 = .ok (.bipush 6, 2) := by decide +kernel
theorem d_Nod_nextTopic_16 : decode b_Nod_nextTopic 16 = .ok (.irem, 1) := by decide +kernel
theorem d_Nod_nextTopic_17 : decode b_Nod_nextTopic 17 = .ok (.istore_n 2, 1) := by decide +kernel
theorem d_Nod_nextTopic_18 : decode b_Nod_nextTopic 18 = .ok (.aload_n 0, 1) := by decide +kernel
theorem d_Nod_nextTopic_19 : decode b_Nod_nextTopic 19 = .ok (.getfield 17, 3) := by decide +kernel
theorem d_Nod_nextTopic_22 : decode b_Nod_nextTopic 22 = .ok (.iload_n 2, 1) := by decide +kernel
theorem d_Nod_nextTopic_23 : decode b_Nod_nextTopic 23 = .ok (.aaload, 1) := by decide +kernel
theorem d_Nod_nextTopic_24 : decode b_Nod_nextTopic 24 = .ok (.getfield 44, 3) := by decide +kernel
theorem d_Nod_nextTopic_27 : decode b_Nod_nextTopic 27 = .ok (.ifCond .le 5, 3) := by decide +kernel
theorem d_Nod_nextTopic_30 : decode b_Nod_nextTopic 30 = .ok (.iload_n 2, 1) := by decide +kernel
theorem d_Nod_nextTopic_31 : decode b_Nod_nextTopic 31 = .ok (.ireturn, 1) := by decide +kernel
theorem d_Nod_nextTopic_32 : decode b_Nod_nextTopic 32 = .ok (.iinc 1 1, 3) := by decide +kernel
theorem d_Nod_nextTopic_35 : decode b_Nod_nextTopic 35 = .ok (.goto (-33), 3) := by decide +kernel
theorem d_Nod_nextTopic_38 : decode b_Nod_nextTopic 38 = .ok (.iconst (-1), 1) := by decide +kernel
theorem d_Nod_nextTopic_39 : decode b_Nod_nextTopic 39 = .ok (.ireturn, 1) := by decide +kernel
theorem d_Nod_takeFrom_0 : decode b_Nod_takeFrom 0 = .ok (.aload_n 0, 1) := by decide +kernel
theorem d_Nod_takeFrom_1 : decode b_Nod_takeFrom 1 = .ok (.getfield 17, 3) := by decide +kernel
theorem d_Nod_takeFrom_4 : decode b_Nod_takeFrom 4 = .ok (.iload_n 1, 1) := by decide +kernel
theorem d_Nod_takeFrom_5 : decode b_Nod_takeFrom 5 = .ok (.aaload, 1) := by decide +kernel
theorem d_Nod_takeFrom_6 : decode b_Nod_takeFrom 6 = .ok (.iconst 0, 1) := by decide +kernel
theorem d_Nod_takeFrom_7 : decode b_Nod_takeFrom 7 = .ok (.iconst 0, 1) := by decide +kernel
theorem d_Nod_takeFrom_8 : decode b_Nod_takeFrom 8 = .ok (.invokevirtual 47, 3) := by decide +kernel
theorem d_Nod_takeFrom_11 : decode b_Nod_takeFrom 11 = .ok (.istore_n 2, 1) := by decide +kernel
theorem d_Nod_takeFrom_12 : decode b_Nod_takeFrom 12 = .ok (.aload_n 0, 1) := by decide +kernel
theorem d_Nod_takeFrom_13 : decode b_Nod_takeFrom 13 = .ok (.getfield 17, 3) := by decide +kernel
theorem d_Nod_takeFrom_16 : decode b_Nod_takeFrom 16 = .ok (.iload_n 1, 1) := by decide +kernel
theorem d_Nod_takeFrom_17 : decode b_Nod_takeFrom 17 = .ok (.aaload, 1) := by decide +kernel
theorem d_Nod_takeFrom_18 : decode b_Nod_takeFrom 18 = .ok (.iconst 1, 1) := by decide +kernel
theorem d_Nod_takeFrom_19 : decode b_Nod_takeFrom 19 = .ok (.invokevirtual 51, 3) := by decide +kernel
theorem d_Nod_takeFrom_22 : decode b_Nod_takeFrom 22 = .ok (.aload_n 0, 1) := by decide +kernel
theorem d_Nod_takeFrom_23 : decode b_Nod_takeFrom 23 = .ok (.iload_n 1, 1) := by decide +kernel
theorem d_Nod_takeFrom_24 : decode b_Nod_takeFrom 24 = .ok (.iconst 1, 1) := by decide +kernel
theorem d_Nod_takeFrom_25 : decode b_Nod_takeFrom 25 = .ok (.iadd, 1) := by decide +kernel
theorem d_Nod_takeFrom_26 : decode b_Nod_takeFrom 26 = .ok (.bipush 6, 2) := by decide +kernel
theorem d_Nod_takeFrom_28 : decode b_Nod_takeFrom 28 = .ok (.irem, 1) := by decide +kernel
theorem d_Nod_takeFrom_29 : decode b_Nod_takeFrom 29 = .ok (.putfield 31, 3) := by decide +kernel
theorem d_Nod_takeFrom_32 : decode b_Nod_takeFrom 32 = .ok (.iload_n 2, 1) := by decide +kernel
theorem d_Nod_takeFrom_33 : decode b_Nod_takeFrom 33 = .ok (.ireturn, 1) := by decide +kernel
theorem d_Bag_init_0 : decode b_Bag_init 0 = .ok (.aload_n 0, 1) := by decide +kernel
theorem d_Bag_init_1 : decode b_Bag_init 1 = .ok (.invokespecial 3, 3) := by decide +kernel
theorem d_Bag_init_4 : decode b_Bag_init 4 = .ok (.aload_n 0, 1) := by decide +kernel
theorem d_Bag_init_5 : decode b_Bag_init 5 = .ok (.bipush 30, 2) := by decide +kernel
theorem d_Bag_init_7 : decode b_Bag_init 7 = .ok (.newarray .int, 2) := by decide +kernel
theorem d_Bag_init_9 : decode b_Bag_init 9 = .ok (.putfield 9, 3) := by decide +kernel
theorem d_Bag_init_12 : decode b_Bag_init 12 = .ok (.aload_n 0, 1) := by decide +kernel
theorem d_Bag_init_13 : decode b_Bag_init 13 = .ok (.bipush 30, 2) := by decide +kernel
theorem d_Bag_init_15 : decode b_Bag_init 15 = .ok (.newarray .int, 2) := by decide +kernel
theorem d_Bag_init_17 : decode b_Bag_init 17 = .ok (.putfield 15, 3) := by decide +kernel
theorem d_Bag_init_20 : decode b_Bag_init 20 = .ok (.aload_n 0, 1) := by decide +kernel
theorem d_Bag_init_21 : decode b_Bag_init 21 = .ok (.bipush 30, 2) := by decide +kernel
theorem d_Bag_init_23 : decode b_Bag_init 23 = .ok (.newarray .int, 2) := by decide +kernel
theorem d_Bag_init_25 : decode b_Bag_init 25 = .ok (.putfield 18, 3) := by decide +kernel
theorem d_Bag_init_28 : decode b_Bag_init 28 = .ok (.aload_n 0, 1) := by decide +kernel
theorem d_Bag_init_29 : decode b_Bag_init 29 = .ok (.iconst 0, 1) := by decide +kernel
theorem d_Bag_init_30 : decode b_Bag_init 30 = .ok (.putfield 21, 3) := by decide +kernel
theorem d_Bag_init_33 : decode b_Bag_init 33 = .ok (.aload_n 0, 1) := by decide +kernel
theorem d_Bag_init_34 : decode b_Bag_init 34 = .ok (.iconst 0, 1) := by decide +kernel
theorem d_Bag_init_35 : decode b_Bag_init 35 = .ok (.putfield 25, 3) := by decide +kernel
theorem d_Bag_init_38 : decode b_Bag_init 38 = .ok (.aload_n 0, 1) := by decide +kernel
theorem d_Bag_init_39 : decode b_Bag_init 39 = .ok (.iconst 0, 1) := by decide +kernel
theorem d_Bag_init_40 : decode b_Bag_init 40 = .ok (.putfield 28, 3) := by decide +kernel
theorem d_Bag_init_43 : decode b_Bag_init 43 = .ok (.aload_n 0, 1) := by decide +kernel
theorem d_Bag_init_44 : decode b_Bag_init 44 = .ok (.iconst 0, 1) := by decide +kernel
theorem d_Bag_init_45 : decode b_Bag_init 45 = .ok (.putfield 31, 3) := by decide +kernel
theorem d_Bag_init_48 : decode b_Bag_init 48 = .ok (.aload_n 0, 1) := by decide +kernel
theorem d_Bag_init_49 : decode b_Bag_init 49 = .ok (.iconst 1, 1) := by decide +kernel
theorem d_Bag_init_50 : decode b_Bag_init 50 = .ok (.putfield 34, 3) := by decide +kernel
theorem d_Bag_init_53 : decode b_Bag_init 53 = .ok (.return_, 1) := by decide +kernel
theorem d_Bag_append_0 : decode b_Bag_append 0 = .ok (.aload_n 0, 1) := by decide +kernel
theorem d_Bag_append_1 : decode b_Bag_append 1 = .ok (.getfield 21, 3) := by decide +kernel
theorem d_Bag_append_4 : decode b_Bag_append 4 = .ok (.bipush 30, 2) := by decide +kernel
theorem d_Bag_append_6 : decode b_Bag_append 6 = .ok (.if_icmp .ge 43, 3) := by decide +kernel
theorem d_Bag_append_9 : decode b_Bag_append 9 = .ok (.aload_n 0, 1) := by decide +kernel
theorem d_Bag_append_10 : decode b_Bag_append 10 = .ok (.getfield 9, 3) := by decide +kernel
theorem d_Bag_append_13 : decode b_Bag_append 13 = .ok (.aload_n 0, 1) := by decide +kernel
theorem d_Bag_append_14 : decode b_Bag_append 14 = .ok (.getfield 21, 3) := by decide +kernel
theorem d_Bag_append_17 : decode b_Bag_append 17 = .ok (.iload_n 1, 1) := by decide +kernel
theorem d_Bag_append_18 : decode b_Bag_append 18 = .ok (.iastore, 1) := by decide +kernel
theorem d_Bag_append_19 : decode b_Bag_append 19 = .ok (.aload_n 0, 1) := by decide +kernel
theorem d_Bag_append_20 : decode b_Bag_append 20 = .ok (.getfield 15, 3) := by decide +kernel
theorem d_Bag_append_23 : decode b_Bag_append 23 = .ok (.aload_n 0, 1) := by decide +kernel
theorem d_Bag_append_24 : decode b_Bag_append 24 = .ok (.getfield 21, 3) := by decide +kernel
theorem d_Bag_append_27 : decode b_Bag_append 27 = .ok (.iload_n 2, 1) := by decide +kernel
theorem d_Bag_append_28 : decode b_Bag_append 28 = .ok (.iastore, 1) := by decide +kernel
theorem d_Bag_append_29 : decode b_Bag_append 29 = .ok (.aload_n 0, 1) := by decide +kernel
theorem d_Bag_append_30 : decode b_Bag_append 30 = .ok (.getfield 18, 3) := by decide +kernel
theorem d_Bag_append_33 : decode b_Bag_append 33 = .ok (.aload_n 0, 1) := by decide +kernel
theorem d_Bag_append_34 : decode b_Bag_append 34 = .ok (.getfield 21, 3) := by decide +kernel
theorem d_Bag_append_37 : decode b_Bag_append 37 = .ok (.iload_n 3, 1) := by decide +kernel
theorem d_Bag_append_38 : decode b_Bag_append 38 = .ok (.iastore, 1) := by decide +kernel
theorem d_Bag_append_39 : decode b_Bag_append 39 = .ok (.aload_n 0, 1) := by decide +kernel
theorem d_Bag_append_40 : decode b_Bag_append 40 = .ok (.dup, 1) := by decide +kernel
theorem d_Bag_append_41 : decode b_Bag_append 41 = .ok (.getfield 21, 3) := by decide +kernel
theorem d_Bag_append_44 : decode b_Bag_append 44 = .ok (.iconst 1, 1) := by decide +kernel
theorem d_Bag_append_45 : decode b_Bag_append 45 = .ok (.iadd, 1) := by decide +kernel
theorem d_Bag_append_46 : decode b_Bag_append 46 = .ok (.putfield 21, 3) := by decide +kernel
theorem d_Bag_append_49 : decode b_Bag_append 49 = .ok (.return_, 1) := by decide +kernel
theorem d_Bag_isDue_0 : decode b_Bag_isDue 0 = .ok (.aload_n 0, 1) := by decide +kernel
theorem d_Bag_isDue_1 : decode b_Bag_isDue 1 = .ok (.invokevirtual 37, 3) := by decide +kernel
theorem d_Bag_isDue_4 : decode b_Bag_isDue 4 = .ok (.ifCond .ne 5, 3) := by decide +kernel
theorem d_Bag_isDue_7 : decode b_Bag_isDue 7 = .ok (.iconst 0, 1) := by decide +kernel
theorem d_Bag_isDue_8 : decode b_Bag_isDue 8 = .ok (.ireturn, 1) := by decide +kernel
theorem d_Bag_isDue_9 : decode b_Bag_isDue 9 = .ok (.aload_n 0, 1) := by decide +kernel
theorem d_Bag_isDue_10 : decode b_Bag_isDue 10 = .ok (.getfield 9, 3) := by decide +kernel
theorem d_Bag_isDue_13 : decode b_Bag_isDue 13 = .ok (.aload_n 0, 1) := by decide +kernel
theorem d_Bag_isDue_14 : decode b_Bag_isDue 14 = .ok (.getfield 25, 3) := by decide +kernel
theorem d_Bag_isDue_17 : decode b_Bag_isDue 17 = .ok (.iaload, 1) := by decide +kernel
theorem d_Bag_isDue_18 : decode b_Bag_isDue 18 = .ok (.aload_n 0, 1) := by decide +kernel
theorem d_Bag_isDue_19 : decode b_Bag_isDue 19 = .ok (.getfield 9, 3) := by decide +kernel
theorem d_Bag_isDue_22 : decode b_Bag_isDue 22 = .ok (.iconst 0, 1) := by decide +kernel
theorem d_Bag_isDue_23 : decode b_Bag_isDue 23 = .ok (.iaload, 1) := by decide +kernel
theorem d_Bag_isDue_24 : decode b_Bag_isDue 24 = .ok (.isub, 1) := by decide +kernel
theorem d_Bag_isDue_25 : decode b_Bag_isDue 25 = .ok (.istore_n 2, 1) := by decide +kernel
theorem d_Bag_isDue_26 : decode b_Bag_isDue 26 = .ok (.aload_n 0, 1) := by decide +kernel
theorem d_Bag_isDue_27 : decode b_Bag_isDue 27 = .ok (.getfield 31, 3) := by decide +kernel
theorem d_Bag_isDue_30 : decode b_Bag_isDue 30 = .ok (.iload_n 2, 1) := by decide +kernel
theorem d_Bag_isDue_31 : decode b_Bag_isDue 31 = .ok (.aload_n 0, 1) := by decide +kernel
theorem d_Bag_isDue_32 : decode b_Bag_isDue 32 = .ok (.getfield 34, 3) := by decide +kernel
theorem d_Bag_isDue_35 : decode b_Bag_isDue 35 = .ok (.iadd, 1) := by decide +kernel
theorem d_Bag_isDue_36 : decode b_Bag_isDue 36 = .ok (.iconst 1, 1) := by decide +kernel
theorem d_Bag_isDue_37 : decode b_Bag_isDue 37 = .ok (.isub, 1) := by decide +kernel
theorem d_Bag_isDue_38 : decode b_Bag_isDue 38 = .ok (.aload_n 0, 1) := by decide +kernel
theorem d_Bag_isDue_39 : decode b_Bag_isDue 39 = .ok (.getfield 34, 3) := by decide +kernel
theorem d_Bag_isDue_42 : decode b_Bag_isDue 42 = .ok (.idiv, 1) := by decide +kernel
theorem d_Bag_isDue_43 : decode b_Bag_isDue 43 = .ok (.iadd, 1) := by decide +kernel
theorem d_Bag_isDue_44 : decode b_Bag_isDue 44 = .ok (.iload_n 1, 1) := by decide +kernel
theorem d_Bag_isDue_45 : decode b_Bag_isDue 45 = .ok (.if_icmp .gt 7, 3) := by decide +kernel
theorem d_Bag_isDue_48 : decode b_Bag_isDue 48 = .ok (.iconst 1, 1) := by decide +kernel
theorem d_Bag_isDue_49 : decode b_Bag_isDue 49 = .ok (.goto 4, 3) := by decide +kernel
theorem d_Bag_isDue_52 : decode b_Bag_isDue 52 = .ok (.iconst 0, 1) := by decide +kernel
theorem d_Bag_isDue_53 : decode b_Bag_isDue 53 = .ok (.ireturn, 1) := by decide +kernel
theorem d_Bag_isPlaying_0 : decode b_Bag_isPlaying 0 = .ok (.aload_n 0, 1) := by decide +kernel
theorem d_Bag_isPlaying_1 : decode b_Bag_isPlaying 1 = .ok (.getfield 25, 3) := by decide +kernel
theorem d_Bag_isPlaying_4 : decode b_Bag_isPlaying 4 = .ok (.aload_n 0, 1) := by decide +kernel
theorem d_Bag_isPlaying_5 : decode b_Bag_isPlaying 5 = .ok (.getfield 28, 3) := by decide +kernel
theorem d_Bag_isPlaying_8 : decode b_Bag_isPlaying 8 = .ok (.if_icmp .ge 7, 3) := by decide +kernel
theorem d_Bag_isPlaying_11 : decode b_Bag_isPlaying 11 = .ok (.iconst 1, 1) := by decide +kernel
theorem d_Bag_isPlaying_12 : decode b_Bag_isPlaying 12 = .ok (.goto 4, 3) := by decide +kernel
theorem d_Bag_isPlaying_15 : decode b_Bag_isPlaying 15 = .ok (.iconst 0, 1) := by decide +kernel
theorem d_Bag_isPlaying_16 : decode b_Bag_isPlaying 16 = .ok (.ireturn, 1) := by decide +kernel
theorem d_Bag_takeNext_0 : decode b_Bag_takeNext 0 = .ok (.aload_n 0, 1) := by decide +kernel
theorem d_Bag_takeNext_1 : decode b_Bag_takeNext 1 = .ok (.getfield 25, 3) := by decide +kernel
theorem d_Bag_takeNext_4 : decode b_Bag_takeNext 4 = .ok (.istore_n 1, 1) := by decide +kernel
theorem d_Bag_takeNext_5 : decode b_Bag_takeNext 5 = .ok (.aload_n 0, 1) := by decide +kernel
theorem d_Bag_takeNext_6 : decode b_Bag_takeNext 6 = .ok (.dup, 1) := by decide +kernel
theorem d_Bag_takeNext_7 : decode b_Bag_takeNext 7 = .ok (.getfield 25, 3) := by decide +kernel
theorem d_Bag_takeNext_10 : decode b_Bag_takeNext 10 = .ok (.iconst 1, 1) := by decide +kernel
theorem d_Bag_takeNext_11 : decode b_Bag_takeNext 11 = .ok (.iadd, 1) := by decide +kernel
theorem d_Bag_takeNext_12 : decode b_Bag_takeNext 12 = .ok (.putfield 25, 3) := by decide +kernel
theorem d_Bag_takeNext_15 : decode b_Bag_takeNext 15 = .ok (.iload_n 1, 1) := by decide +kernel
theorem d_Bag_takeNext_16 : decode b_Bag_takeNext 16 = .ok (.ireturn, 1) := by decide +kernel
theorem d_Bag_start_0 : decode b_Bag_start 0 = .ok (.aload_n 0, 1) := by decide +kernel
theorem d_Bag_start_1 : decode b_Bag_start 1 = .ok (.iconst 0, 1) := by decide +kernel
theorem d_Bag_start_2 : decode b_Bag_start 2 = .ok (.putfield 25, 3) := by decide +kernel
theorem d_Bag_start_5 : decode b_Bag_start 5 = .ok (.aload_n 0, 1) := by decide +kernel
theorem d_Bag_start_6 : decode b_Bag_start 6 = .ok (.aload_n 0, 1) := by decide +kernel
theorem d_Bag_start_7 : decode b_Bag_start 7 = .ok (.getfield 21, 3) := by decide +kernel
theorem d_Bag_start_10 : decode b_Bag_start 10 = .ok (.putfield 28, 3) := by decide +kernel
theorem d_Bag_start_13 : decode b_Bag_start 13 = .ok (.aload_n 0, 1) := by decide +kernel
theorem d_Bag_start_14 : decode b_Bag_start 14 = .ok (.iload_n 1, 1) := by decide +kernel
theorem d_Bag_start_15 : decode b_Bag_start 15 = .ok (.putfield 31, 3) := by decide +kernel
theorem d_Bag_start_18 : decode b_Bag_start 18 = .ok (.aload_n 0, 1) := by decide +kernel
theorem d_Bag_start_19 : decode b_Bag_start 19 = .ok (.iload_n 2, 1) := by decide +kernel
theorem d_Bag_start_20 : decode b_Bag_start 20 = .ok (.putfield 34, 3) := by decide +kernel
theorem d_Bag_start_23 : decode b_Bag_start 23 = .ok (.return_, 1) := by decide +kernel
theorem d_Frm_init_0 : decode b_Frm_init 0 = .ok (.aload_n 0, 1) := by decide +kernel
theorem d_Frm_init_1 : decode b_Frm_init 1 = .ok (.invokespecial 3, 3) := by decide +kernel
theorem d_Frm_init_4 : decode b_Frm_init 4 = .ok (.aload_n 0, 1) := by decide +kernel
theorem d_Frm_init_5 : decode b_Frm_init 5 = .ok (.iconst 4, 1) := by decide +kernel
theorem d_Frm_init_6 : decode b_Frm_init 6 = .ok (.newarray .int, 2) := by decide +kernel
theorem d_Frm_init_8 : decode b_Frm_init 8 = .ok (.putfield 9, 3) := by decide +kernel
theorem d_Frm_init_11 : decode b_Frm_init 11 = .ok (.aload_n 0, 1) := by decide +kernel
theorem d_Frm_init_12 : decode b_Frm_init 12 = .ok (.iconst 4, 1) := by decide +kernel
theorem d_Frm_init_13 : decode b_Frm_init 13 = .ok (.newarray .int, 2) := by decide +kernel
theorem d_Frm_init_15 : decode b_Frm_init 15 = .ok (.putfield 15, 3) := by decide +kernel
theorem d_Frm_init_18 : decode b_Frm_init 18 = .ok (.aload_n 0, 1) := by decide +kernel
theorem d_Frm_init_19 : decode b_Frm_init 19 = .ok (.iconst 4, 1) := by decide +kernel
theorem d_Frm_init_20 : decode b_Frm_init 20 = .ok (.newarray .int, 2) := by decide +kernel
theorem d_Frm_init_22 : decode b_Frm_init 22 = .ok (.putfield 18, 3) := by decide +kernel
theorem d_Frm_init_25 : decode b_Frm_init 25 = .ok (.aload_n 0, 1) := by decide +kernel
theorem d_Frm_init_26 : decode b_Frm_init 26 = .ok (.iconst 4, 1) := by decide +kernel
theorem d_Frm_init_27 : decode b_Frm_init 27 = .ok (.newarray .int, 2) := by decide +kernel
theorem d_Frm_init_29 : decode b_Frm_init 29 = .ok (.putfield 21, 3) := by decide +kernel
theorem d_Frm_init_32 : decode b_Frm_init 32 = .ok (.aload_n 0, 1) := by decide +kernel
theorem d_Frm_init_33 : decode b_Frm_init 33 = .ok (.iconst (-1), 1) := by decide +kernel
theorem d_Frm_init_34 : decode b_Frm_init 34 = .ok (.putfield 24, 3) := by decide +kernel
theorem d_Frm_init_37 : decode b_Frm_init 37 = .ok (.aload_n 0, 1) := by decide +kernel
theorem d_Frm_init_38 : decode b_Frm_init 38 = .ok (.iconst 0, 1) := by decide +kernel
theorem d_Frm_init_39 : decode b_Frm_init 39 = .ok (.putfield 28, 3) := by decide +kernel
theorem d_Frm_init_42 : decode b_Frm_init 42 = .ok (.return_, 1) := by decide +kernel
theorem d_Frm_isBehindLast_0 : decode b_Frm_isBehindLast 0 = .ok (.aload_n 0, 1) := by decide +kernel
theorem d_Frm_isBehindLast_1 : decode b_Frm_isBehindLast 1 = .ok (.getfield 28, 3) := by decide +kernel
theorem d_Frm_isBehindLast_4 : decode b_Frm_isBehindLast 4 = .ok (.ifCond .eq 18, 3) := by decide +kernel
theorem d_Frm_isBehindLast_7 : decode b_Frm_isBehindLast 7 = .ok (.iload_n 1, 1) := by decide +kernel
theorem d_Frm_isBehindLast_8 : decode b_Frm_isBehindLast 8 = .ok (.aload_n 0, 1) := by decide +kernel
theorem d_Frm_isBehindLast_9 : decode b_Frm_isBehindLast 9 = .ok (.getfield 9, 3) := by decide +kernel
theorem d_Frm_isBehindLast_12 : decode b_Frm_isBehindLast 12 = .ok (.aload_n 0, 1) := by decide +kernel
theorem d_Frm_isBehindLast_13 : decode b_Frm_isBehindLast 13 = .ok (.getfield 28, 3) := by decide +kernel
theorem d_Frm_isBehindLast_16 : decode b_Frm_isBehindLast 16 = .ok (.iconst 1, 1) := by decide +kernel
theorem d_Frm_isBehindLast_17 : decode b_Frm_isBehindLast 17 = .ok (.isub, 1) := by decide +kernel
theorem d_Frm_isBehindLast_18 : decode b_Frm_isBehindLast 18 = .ok (.iaload, 1) := by decide +kernel
theorem d_Frm_isBehindLast_19 : decode b_Frm_isBehindLast 19 = .ok (.if_icmp .le 7, 3) := by decide +kernel
theorem d_Frm_isBehindLast_22 : decode b_Frm_isBehindLast 22 = .ok (.iconst 1, 1) := by decide +kernel
theorem d_Frm_isBehindLast_23 : decode b_Frm_isBehindLast 23 = .ok (.goto 4, 3) := by decide +kernel
theorem d_Frm_isBehindLast_26 : decode b_Frm_isBehindLast 26 = .ok (.iconst 0, 1) := by decide +kernel
theorem d_Frm_isBehindLast_27 : decode b_Frm_isBehindLast 27 = .ok (.ireturn, 1) := by decide +kernel
theorem d_Frm_append_0 : decode b_Frm_append 0 = .ok (.aload_n 0, 1) := by decide +kernel
theorem d_Frm_append_1 : decode b_Frm_append 1 = .ok (.getfield 28, 3) := by decide +kernel
theorem d_Frm_append_4 : decode b_Frm_append 4 = .ok (.iconst 4, 1) := by decide +kernel
theorem d_Frm_append_5 : decode b_Frm_append 5 = .ok (.if_icmp .ne 7, 3) := by decide +kernel
theorem d_Frm_append_8 : decode b_Frm_append 8 = .ok (.aload_n 0, 1) := by decide +kernel
theorem d_Frm_append_9 : decode b_Frm_append 9 = .ok (.invokevirtual 31, 3) := by decide +kernel
theorem d_Frm_append_12 : decode b_Frm_append 12 = .ok (.aload_n 0, 1) := by decide +kernel
theorem d_Frm_append_13 : decode b_Frm_append 13 = .ok (.getfield 9, 3) := by decide +kernel
theorem d_Frm_append_16 : decode b_Frm_append 16 = .ok (.aload_n 0, 1) := by decide +kernel
theorem d_Frm_append_17 : decode b_Frm_append 17 = .ok (.getfield 28, 3) := by decide +kernel
theorem d_Frm_append_20 : decode b_Frm_append 20 = .ok (.iload_n 1, 1) := by decide +kernel
theorem d_Frm_append_21 : decode b_Frm_append 21 = .ok (.iastore, 1) := by decide +kernel
theorem d_Frm_append_22 : decode b_Frm_append 22 = .ok (.aload_n 0, 1) := by decide +kernel
theorem d_Frm_append_23 : decode b_Frm_append 23 = .ok (.getfield 15, 3) := by decide +kernel
theorem d_Frm_append_26 : decode b_Frm_append 26 = .ok (.aload_n 0, 1) := by decide +kernel
theorem d_Frm_append_27 : decode b_Frm_append 27 = .ok (.getfield 28, 3) := by decide +kernel
theorem d_Frm_append_30 : decode b_Frm_append 30 = .ok (.iload_n 2, 1) := by decide +kernel
theorem d_Frm_append_31 : decode b_Frm_append 31 = .ok (.iastore, 1) := by decide +kernel
theorem d_Frm_append_32 : decode b_Frm_append 32 = .ok (.aload_n 0, 1) := by decide +kernel
theorem d_Frm_append_33 : decode b_Frm_append 33 = .ok (.getfield 18, 3) := by decide +kernel
theorem d_Frm_append_36 : decode b_Frm_append 36 = .ok (.aload_n 0, 1) := by decide +kernel
theorem d_Frm_append_37 : decode b_Frm_append 37 = .ok (.getfield 28, 3) := by decide +kernel
theorem d_Frm_append_40 : decode b_Frm_append 40 = .ok (.iload_n 3, 1) := by decide +kernel
theorem d_Frm_append_41 : decode b_Frm_append 41 = .ok (.iastore, 1) := by decide +kernel
theorem d_Frm_append_42 : decode b_Frm_append 42 = .ok (.aload_n 0, 1) := by decide +kernel
theorem d_Frm_append_43 : decode b_Frm_append 43 = .ok (.getfield 21, 3) := by decide +kernel
theorem d_Frm_append_46 : decode b_Frm_append 46 = .ok (.aload_n 0, 1) := by decide +kernel
theorem d_Frm_append_47 : decode b_Frm_append 47 = .ok (.getfield 28, 3) := by decide +kernel
theorem d_Frm_append_50 : decode b_Frm_append 50 = .ok (.iload 4, 2) := by decide +kernel
theorem d_Frm_append_52 : decode b_Frm_append 52 = .ok (.iastore, 1) := by decide +kernel
theorem d_Frm_append_53 : decode b_Frm_append 53 = .ok (.aload_n 0, 1) := by decide +kernel
theorem d_Frm_append_54 : decode b_Frm_append 54 = .ok (.dup, 1) := by decide +kernel
theorem d_Frm_append_55 : decode b_Frm_append 55 = .ok (.getfield 28, 3) := by decide +kernel
theorem d_Frm_append_58 : decode b_Frm_append 58 = .ok (.iconst 1, 1) := by decide +kernel
theorem d_Frm_append_59 : decode b_Frm_append 59 = .ok (.iadd, 1) := by decide +kernel
theorem d_Frm_append_60 : decode b_Frm_append 60 = .ok (.putfield 28, 3) := by decide +kernel
theorem d_Frm_append_63 : decode b_Frm_append 63 = .ok (.return_, 1) := by decide +kernel
theorem d_Frm_dropFirst_0 : decode b_Frm_dropFirst 0 = .ok (.aload_n 0, 1) := by decide +kernel
theorem d_Frm_dropFirst_1 : decode b_Frm_dropFirst 1 = .ok (.dup, 1) := by decide +kernel
theorem d_Frm_dropFirst_2 : decode b_Frm_dropFirst 2 = .ok (.getfield 28, 3) := by decide +kernel
theorem d_Frm_dropFirst_5 : decode b_Frm_dropFirst 5 = .ok (.iconst 1, 1) := by decide +kernel
theorem d_Frm_dropFirst_6 : decode b_Frm_dropFirst 6 = .ok (.isub, 1) := by decide +kernel
theorem d_Frm_dropFirst_7 : decode b_Frm_dropFirst 7 = .ok (.putfield 28, 3) := by decide +kernel
theorem d_Frm_dropFirst_10 : decode b_Frm_dropFirst 10 = .ok (.aload_n 0, 1) := by decide +kernel
theorem d_Frm_dropFirst_11 : decode b_Frm_dropFirst 11 = .ok (.getfield 9, 3) := by decide +kernel
theorem d_Frm_dropFirst_14 : decode b_Frm_dropFirst 14 = .ok (.iconst 1, 1) := by decide +kernel
theorem d_Frm_dropFirst_15 : decode b_Frm_dropFirst 15 = .ok (.aload_n 0, 1) := by decide +kernel
theorem d_Frm_dropFirst_16 : decode b_Frm_dropFirst 16 = .ok (.getfield 9, 3) := by decide +kernel
theorem d_Frm_dropFirst_19 : decode b_Frm_dropFirst 19 = .ok (.iconst 0, 1) := by decide +kernel
theorem d_Frm_dropFirst_20 : decode b_Frm_dropFirst 20 = .ok (.aload_n 0, 1) := by decide +kernel
theorem d_Frm_dropFirst_21 : decode b_Frm_dropFirst 21 = .ok (.getfield 28, 3) := by decide +kernel
theorem d_Frm_dropFirst_24 : decode b_Frm_dropFirst 24 = .ok (.invokestatic 34, 3) := by decide +kernel
theorem d_Frm_dropFirst_27 : decode b_Frm_dropFirst 27 = .ok (.aload_n 0, 1) := by decide +kernel
theorem d_Frm_dropFirst_28 : decode b_Frm_dropFirst 28 = .ok (.getfield 15, 3) := by decide +kernel
theorem d_Frm_dropFirst_31 : decode b_Frm_dropFirst 31 = .ok (.iconst 1, 1) := by decide +kernel
theorem d_Frm_dropFirst_32 : decode b_Frm_dropFirst 32 = .ok (.aload_n 0, 1) := by decide +kernel
theorem d_Frm_dropFirst_33 : decode b_Frm_dropFirst 33 = .ok (.getfield 15, 3) := by decide +kernel
theorem d_Frm_dropFirst_36 : decode b_Frm_dropFirst 36 = .ok (.iconst 0, 1) := by decide +kernel
theorem d_Frm_dropFirst_37 : decode b_Frm_dropFirst 37 = .ok (.aload_n 0, 1) := by decide +kernel
theorem d_Frm_dropFirst_38 : decode b_Frm_dropFirst 38 = .ok (.getfield 28, 3) := by decide +kernel
theorem d_Frm_dropFirst_41 : decode b_Frm_dropFirst 41 = .ok (.invokestatic 34, 3) := by decide +kernel
theorem d_Frm_dropFirst_44 : decode b_Frm_dropFirst 44 = .ok (.aload_n 0, 1) := by decide +kernel
theorem d_Frm_dropFirst_45 : decode b_Frm_dropFirst 45 = .ok (.getfield 18, 3) := by decide +kernel
theorem d_Frm_dropFirst_48 : decode b_Frm_dropFirst 48 = .ok (.iconst 1, 1) := by decide +kernel
theorem d_Frm_dropFirst_49 : decode b_Frm_dropFirst 49 = .ok (.aload_n 0, 1) := by decide +kernel
theorem d_Frm_dropFirst_50 : decode b_Frm_dropFirst 50 = .ok (.getfield 18, 3) := by decide +kernel
theorem d_Frm_dropFirst_53 : decode b_Frm_dropFirst 53 = .ok (.iconst 0, 1) := by decide +kernel
theorem d_Frm_dropFirst_54 : decode b_Frm_dropFirst 54 = .ok (.aload_n 0, 1) := by decide +kernel
theorem d_Frm_dropFirst_55 : decode b_Frm_dropFirst 55 = .ok (.getfield 28, 3) := by decide +kernel
theorem d_Frm_dropFirst_58 : decode b_Frm_dropFirst 58 = .ok (.invokestatic 34, 3) := by decide +kernel
theorem d_Frm_dropFirst_61 : decode b_Frm_dropFirst 61 = .ok (.aload_n 0, 1) := by decide +kernel
theorem d_Frm_dropFirst_62 : decode b_Frm_dropFirst 62 = .ok (.getfield 21, 3) := by decide +kernel
theorem d_Frm_dropFirst_65 : decode b_Frm_dropFirst 65 = .ok (.iconst 1, 1) := by decide +kernel
theorem d_Frm_dropFirst_66 : decode b_Frm_dropFirst 66 = .ok (.aload_n 0, 1) := by decide +kernel
theorem d_Frm_dropFirst_67 : decode b_Frm_dropFirst 67 = .ok (.getfield 21, 3) := by decide +kernel
theorem d_Frm_dropFirst_70 : decode b_Frm_dropFirst 70 = .ok (.iconst 0, 1) := by decide +kernel
theorem d_Frm_dropFirst_71 : decode b_Frm_dropFirst 71 = .ok (.aload_n 0, 1) := by decide +kernel
theorem d_Frm_dropFirst_72 : decode b_Frm_dropFirst 72 = .ok (.getfield 28, 3) := by decide +kernel
theorem d_Frm_dropFirst_75 : decode b_Frm_dropFirst 75 = .ok (.invokestatic 34, 3) := by decide +kernel
theorem d_Frm_dropFirst_78 : decode b_Frm_dropFirst 78 = .ok (.return_, 1) := by decide +kernel
theorem d_Frm_indexAt_0 : decode b_Frm_indexAt 0 = .ok (.aload_n 0, 1) := by decide +kernel
theorem d_Frm_indexAt_1 : decode b_Frm_indexAt 1 = .ok (.iload_n 1, 1) := by decide +kernel
theorem d_Frm_indexAt_2 : decode b_Frm_indexAt 2 = .ok (.invokevirtual 40, 3) := by decide +kernel
theorem d_Frm_indexAt_5 : decode b_Frm_indexAt 5 = .ok (.ifCond .eq 5, 3) := by decide +kernel
theorem d_Frm_indexAt_8 : decode b_Frm_indexAt 8 = .ok (.iconst (-1), 1) := by decide +kernel
theorem d_Frm_indexAt_9 : decode b_Frm_indexAt 9 = .ok (.ireturn, 1) := by decide +kernel
theorem d_Frm_indexAt_10 : decode b_Frm_indexAt 10 = .ok (.iconst (-1), 1) := by decide +kernel
theorem d_Frm_indexAt_11 : decode b_Frm_indexAt 11 = .ok (.istore_n 2, 1) := by decide +kernel
theorem d_Frm_indexAt_12 : decode b_Frm_indexAt 12 = .ok (.iconst 0, 1) := by decide +kernel
theorem d_Frm_indexAt_13 : decode b_Frm_indexAt 13 = .ok (.istore_n 3, 1) := by decide +kernel
theorem d_Frm_indexAt_14 : decode b_Frm_indexAt 14 = .ok (.iload_n 3, 1) := by decide +kernel
theorem d_Frm_indexAt_15 : decode b_Frm_indexAt 15 = .ok (.aload_n 0, 1) := by decide +kernel
theorem d_Frm_indexAt_16 : decode b_Frm_indexAt 16 = .ok (.getfield 28, 3) := by decide +kernel
theorem d_Frm_indexAt_19 : decode b_Frm_indexAt 19 = .ok (.if_icmp .ge 21, 3) := by decide +kernel
theorem d_Frm_indexAt_22 : decode b_Frm_indexAt 22 = .ok (.aload_n 0, 1) := by decide +kernel
theorem d_Frm_indexAt_23 : decode b_Frm_indexAt 23 = .ok (.getfield 9, 3) := by decide +kernel
theorem d_Frm_indexAt_26 : decode b_Frm_indexAt 26 = .ok (.iload_n 3, 1) := by decide +kernel
theorem d_Frm_indexAt_27 : decode b_Frm_indexAt 27 = .ok (.iaload, 1) := by decide +kernel
theorem d_Frm_indexAt_28 : decode b_Frm_indexAt 28 = .ok (.iload_n 1, 1) := by decide +kernel
theorem d_Frm_indexAt_29 : decode b_Frm_indexAt 29 = .ok (.if_icmp .gt 11, 3) := by decide +kernel
theorem d_Frm_indexAt_32 : decode b_Frm_indexAt 32 = .ok (.iload_n 3, 1) := by decide +kernel
theorem d_Frm_indexAt_33 : decode b_Frm_indexAt 33 = .ok (.istore_n 2, 1) := by decide +kernel
theorem d_Frm_indexAt_34 : decode b_Frm_indexAt 34 = .ok (.iinc 3 1, 3) := by decide +kernel
theorem d_Frm_indexAt_37 : decode b_Frm_indexAt 37 = .ok (.goto (-23), 3) := by decide +kernel
theorem d_Frm_indexAt_40 : decode b_Frm_indexAt 40 = .ok (.iload_n 2, 1) := by decide +kernel
theorem d_Frm_indexAt_41 : decode b_Frm_indexAt 41 = .ok (.ireturn, 1) := by decide +kernel
theorem d_Frm_between_0 : decode b_Frm_between 0 = .ok (.iload_n 2, 1) := by decide +kernel
theorem d_Frm_between_1 : decode b_Frm_between 1 = .ok (.iconst 1, 1) := by decide +kernel
theorem d_Frm_between_2 : decode b_Frm_between 2 = .ok (.iadd, 1) := by decide +kernel
theorem d_Frm_between_3 : decode b_Frm_between 3 = .ok (.aload_n 0, 1) := by decide +kernel
theorem d_Frm_between_4 : decode b_Frm_between 4 = .ok (.getfield 28, 3) := by decide +kernel
theorem d_Frm_between_7 : decode b_Frm_between 7 = .ok (.if_icmp .ge 21, 3) := by decide +kernel
theorem d_Frm_between_10 : decode b_Frm_between 10 = .ok (.aload_n 0, 1) := by decide +kernel
theorem d_Frm_between_11 : decode b_Frm_between 11 = .ok (.getfield 9, 3) := by decide +kernel
theorem d_Frm_between_14 : decode b_Frm_between 14 = .ok (.iload_n 2, 1) := by decide +kernel
theorem d_Frm_between_15 : decode b_Frm_between 15 = .ok (.iconst 1, 1) := by decide +kernel
theorem d_Frm_between_16 : decode b_Frm_between 16 = .ok (.iadd, 1) := by decide +kernel
theorem d_Frm_between_17 : decode b_Frm_between 17 = .ok (.iaload, 1) := by decide +kernel
theorem d_Frm_between_18 : decode b_Frm_between 18 = .ok (.aload_n 0, 1) := by decide +kernel
theorem d_Frm_between_19 : decode b_Frm_between 19 = .ok (.getfield 9, 3) := by decide +kernel
theorem d_Frm_between_22 : decode b_Frm_between 22 = .ok (.iload_n 2, 1) := by decide +kernel
theorem d_Frm_between_23 : decode b_Frm_between 23 = .ok (.iaload, 1) := by decide +kernel
theorem d_Frm_between_24 : decode b_Frm_between 24 = .ok (.isub, 1) := by decide +kernel
theorem d_Frm_between_25 : decode b_Frm_between 25 = .ok (.goto 4, 3) := by decide +kernel
theorem d_Frm_between_28 : decode b_Frm_between 28 = .ok (.iconst 0, 1) := by decide +kernel
theorem d_Frm_between_29 : decode b_Frm_between 29 = .ok (.istore 4, 2) := by decide +kernel
theorem d_Frm_between_31 : decode b_Frm_between 31 = .ok (.iload 4, 2) := by decide +kernel
theorem d_Frm_between_33 : decode b_Frm_between 33 = .ok (.ifCond .gt 7, 3) := by decide +kernel
theorem d_Frm_between_36 : decode b_Frm_between 36 = .ok (.aload_n 1, 1) := by decide +kernel
theorem d_Frm_between_37 : decode b_Frm_between 37 = .ok (.iload_n 2, 1) := by decide +kernel
theorem d_Frm_between_38 : decode b_Frm_between 38 = .ok (.iaload, 1) := by decide +kernel
theorem d_Frm_between_39 : decode b_Frm_between 39 = .ok (.ireturn, 1) := by decide +kernel
theorem d_Frm_between_40 : decode b_Frm_between 40 = .ok (.aload_n 1, 1) := by decide +kernel
theorem d_Frm_between_41 : decode b_Frm_between 41 = .ok (.iload_n 2, 1) := by decide +kernel
theorem d_Frm_between_42 : decode b_Frm_between 42 = .ok (.iconst 1, 1) := by decide +kernel
theorem d_Frm_between_43 : decode b_Frm_between 43 = .ok (.iadd, 1) := by decide +kernel
theorem d_Frm_between_44 : decode b_Frm_between 44 = .ok (.iaload, 1) := by decide +kernel
theorem d_Frm_between_45 : decode b_Frm_between 45 = .ok (.aload_n 1, 1) := by decide +kernel
theorem d_Frm_between_46 : decode b_Frm_between 46 = .ok (.iload_n 2, 1) := by decide +kernel
theorem d_Frm_between_47 : decode b_Frm_between 47 = .ok (.iaload, 1) := by decide +kernel
theorem d_Frm_between_48 : decode b_Frm_between 48 = .ok (.isub, 1) := by decide +kernel
theorem d_Frm_between_49 : decode b_Frm_between 49 = .ok (.i2l, 1) := by decide +kernel
theorem d_Frm_between_50 : decode b_Frm_between 50 = .ok (.iload_n 3, 1) := by decide +kernel
theorem d_Frm_between_51 : decode b_Frm_between 51 = .ok (.aload_n 0, 1) := by decide +kernel
theorem d_Frm_between_52 : decode b_Frm_between 52 = .ok (.getfield 9, 3) := by decide +kernel
theorem d_Frm_between_55 : decode b_Frm_between 55 = .ok (.iload_n 2, 1) := by decide +kernel
theorem d_Frm_between_56 : decode b_Frm_between 56 = .ok (.iaload, 1) := by decide +kernel
theorem d_Frm_between_57 : decode b_Frm_between 57 = .ok (.isub, 1) := by decide +kernel
theorem d_Frm_between_58 : decode b_Frm_between 58 = .ok (.i2l, 1) := by decide +kernel
theorem d_Frm_between_59 : decode b_Frm_between 59 = .ok (.lmul, 1) := by decide +kernel
theorem d_Frm_between_60 : decode b_Frm_between 60 = .ok (.lstore 5, 2) := by decide +kernel
theorem d_Frm_between_62 : decode b_Frm_between 62 = .ok (.aload_n 1, 1) := by decide +kernel
theorem d_Frm_between_63 : decode b_Frm_between 63 = .ok (.iload_n 2, 1) := by decide +kernel
theorem d_Frm_between_64 : decode b_Frm_between 64 = .ok (.iaload, 1) := by decide +kernel
theorem d_Frm_between_65 : decode b_Frm_between 65 = .ok (.lload 5, 2) := by decide +kernel
theorem d_Frm_between_67 : decode b_Frm_between 67 = .ok (.iload 4, 2) := by decide +kernel
theorem d_Frm_between_69 : decode b_Frm_between 69 = .ok (.i2l, 1) := by decide +kernel
theorem d_Frm_between_70 : decode b_Frm_between 70 = .ok (.invokestatic 44, 3) := by decide +kernel
theorem d_Frm_between_73 : decode b_Frm_between 73 = .ok (.l2i, 1) := by decide +kernel
theorem d_Frm_between_74 : decode b_Frm_between 74 = .ok (.iadd, 1) := by decide +kernel
theorem d_Frm_between_75 : decode b_Frm_between 75 = .ok (.ireturn, 1) := by decide +kernel
theorem d_Pnt_init_0 : decode b_Pnt_init 0 = .ok (.aload_n 0, 1) := by decide +kernel
theorem d_Pnt_init_1 : decode b_Pnt_init 1 = .ok (.invokespecial 1, 3) := by decide +kernel
theorem d_Pnt_init_4 : decode b_Pnt_init 4 = .ok (.aload_n 0, 1) := by decide +kernel
theorem d_Pnt_init_5 : decode b_Pnt_init 5 = .ok (.iconst 0, 1) := by decide +kernel
theorem d_Pnt_init_6 : decode b_Pnt_init 6 = .ok (.putfield 7, 3) := by decide +kernel
theorem d_Pnt_init_9 : decode b_Pnt_init 9 = .ok (.aload_n 0, 1) := by decide +kernel
theorem d_Pnt_init_10 : decode b_Pnt_init 10 = .ok (.iconst 0, 1) := by decide +kernel
theorem d_Pnt_init_11 : decode b_Pnt_init 11 = .ok (.putfield 13, 3) := by decide +kernel
theorem d_Pnt_init_14 : decode b_Pnt_init 14 = .ok (.return_, 1) := by decide +kernel
theorem d_Pnt_lift_0 : decode b_Pnt_lift 0 = .ok (.aload_n 0, 1) := by decide +kernel
theorem d_Pnt_lift_1 : decode b_Pnt_lift 1 = .ok (.aload_n 1, 1) := by decide +kernel
theorem d_Pnt_lift_2 : decode b_Pnt_lift 2 = .ok (.getfield 16, 3) := by decide +kernel
theorem d_Pnt_lift_5 : decode b_Pnt_lift 5 = .ok (.iload_n 2, 1) := by decide +kernel
theorem d_Pnt_lift_6 : decode b_Pnt_lift 6 = .ok (.iaload, 1) := by decide +kernel
theorem d_Pnt_lift_7 : decode b_Pnt_lift 7 = .ok (.invokevirtual 22, 3) := by decide +kernel
theorem d_Pnt_lift_10 : decode b_Pnt_lift 10 = .ok (.aload_n 0, 1) := by decide +kernel
theorem d_Pnt_lift_11 : decode b_Pnt_lift 11 = .ok (.dup, 1) := by decide +kernel
theorem d_Pnt_lift_12 : decode b_Pnt_lift 12 = .ok (.getfield 7, 3) := by decide +kernel
theorem d_Pnt_lift_15 : decode b_Pnt_lift 15 = .ok (.aload_n 1, 1) := by decide +kernel
theorem d_Pnt_lift_16 : decode b_Pnt_lift 16 = .ok (.aload_n 1, 1) := by decide +kernel
theorem d_Pnt_lift_17 : decode b_Pnt_lift 17 = .ok (.getfield 26, 3) := by decide +kernel
theorem d_Pnt_lift_20 : decode b_Pnt_lift 20 = .ok (.iload_n 2, 1) := by decide +kernel
theorem d_Pnt_lift_21 : decode b_Pnt_lift 21 = .ok (.iload_n 3, 1) := by decide +kernel
theorem d_Pnt_lift_22 : decode b_Pnt_lift 22 = .ok (.invokevirtual 29, 3) := by decide +kernel
theorem d_Pnt_lift_25 : decode b_Pnt_lift 25 = .ok (.iadd, 1) := by decide +kernel
theorem d_Pnt_lift_26 : decode b_Pnt_lift 26 = .ok (.putfield 7, 3) := by decide +kernel
theorem d_Pnt_lift_29 : decode b_Pnt_lift 29 = .ok (.aload_n 0, 1) := by decide +kernel
theorem d_Pnt_lift_30 : decode b_Pnt_lift 30 = .ok (.dup, 1) := by decide +kernel
theorem d_Pnt_lift_31 : decode b_Pnt_lift 31 = .ok (.getfield 13, 3) := by decide +kernel
theorem d_Pnt_lift_34 : decode b_Pnt_lift 34 = .ok (.aload_n 1, 1) := by decide +kernel
theorem d_Pnt_lift_35 : decode b_Pnt_lift 35 = .ok (.aload_n 1, 1) := by decide +kernel
theorem d_Pnt_lift_36 : decode b_Pnt_lift 36 = .ok (.getfield 33, 3) := by decide +kernel
theorem d_Pnt_lift_39 : decode b_Pnt_lift 39 = .ok (.iload_n 2, 1) := by decide +kernel
theorem d_Pnt_lift_40 : decode b_Pnt_lift 40 = .ok (.iload_n 3, 1) := by decide +kernel
theorem d_Pnt_lift_41 : decode b_Pnt_lift 41 = .ok (.invokevirtual 29, 3) := by decide +kernel
theorem d_Pnt_lift_44 : decode b_Pnt_lift 44 = .ok (.iadd, 1) := by decide +kernel
theorem d_Pnt_lift_45 : decode b_Pnt_lift 45 = .ok (.putfield 13, 3) := by decide +kernel
theorem d_Pnt_lift_48 : decode b_Pnt_lift 48 = .ok (.return_, 1) := by decide +kernel
theorem d_Pnt_turnBy_0 : decode b_Pnt_turnBy 0 = .ok (.iconst 0, 1) := by decide +kernel
theorem d_Pnt_turnBy_1 : decode b_Pnt_turnBy 1 = .ok (.istore_n 2, 1) := by decide +kernel
theorem d_Pnt_turnBy_2 : decode b_Pnt_turnBy 2 = .ok (.iload_n 2, 1) := by decide +kernel
theorem d_Pnt_turnBy_3 : decode b_Pnt_turnBy 3 = .ok (.iload_n 1, 1) := by decide +kernel
theorem d_Pnt_turnBy_4 : decode b_Pnt_turnBy 4 = .ok (.if_icmp .ge 28, 3) := by decide +kernel
theorem d_Pnt_turnBy_7 : decode b_Pnt_turnBy 7 = .ok (.aload_n 0, 1) := by decide +kernel
theorem d_Pnt_turnBy_8 : decode b_Pnt_turnBy 8 = .ok (.getfield 7, 3) := by decide +kernel
theorem d_Pnt_turnBy_11 : decode b_Pnt_turnBy 11 = .ok (.istore_n 3, 1) := by decide +kernel
theorem d_Pnt_turnBy_12 : decode b_Pnt_turnBy 12 = .ok (.aload_n 0, 1) := by decide +kernel
theorem d_Pnt_turnBy_13 : decode b_Pnt_turnBy 13 = .ok (.aload_n 0, 1) := by decide +kernel
theorem d_Pnt_turnBy_14 : decode b_Pnt_turnBy 14 = .ok (.getfield 13, 3) := by decide +kernel
theorem d_Pnt_turnBy_17 : decode b_Pnt_turnBy 17 = .ok (.ineg, 1) := by decide +kernel
theorem d_Pnt_turnBy_18 : decode b_Pnt_turnBy 18 = .ok (.putfield 7, 3) := by decide +kernel
theorem d_Pnt_turnBy_21 : decode b_Pnt_turnBy 21 = .ok (.aload_n 0, 1) := by decide +kernel
theorem d_Pnt_turnBy_22 : decode b_Pnt_turnBy 22 = .ok (.iload_n 3, 1) := by decide +kernel
theorem d_Pnt_turnBy_23 : decode b_Pnt_turnBy 23 = .ok (.putfield 13, 3) := by decide +kernel
theorem d_Pnt_turnBy_26 : decode b_Pnt_turnBy 26 = .ok (.iinc 2 1, 3) := by decide +kernel
theorem d_Pnt_turnBy_29 : decode b_Pnt_turnBy 29 = .ok (.goto (-27), 3) := by decide +kernel
theorem d_Pnt_turnBy_32 : decode b_Pnt_turnBy 32 = .ok (.return_, 1) := by decide +kernel
theorem d_Math_max_0 : decode b_Math_max 0 = .ok (.iload_n 0, 1) := by decide +kernel
theorem d_Math_max_1 : decode b_Math_max 1 = .ok (.iload_n 1, 1) := by decide +kernel
theorem d_Math_max_2 : decode b_Math_max 2 = .ok (.if_icmp .lt 7, 3) := by decide +kernel
theorem d_Math_max_5 : decode b_Math_max 5 = .ok (.iload_n 0, 1) := by decide +kernel
theorem d_Math_max_6 : decode b_Math_max 6 = .ok (.goto 4, 3) := by decide +kernel
theorem d_Math_max_9 : decode b_Math_max 9 = .ok (.iload_n 1, 1) := by decide +kernel
theorem d_Math_max_10 : decode b_Math_max 10 = .ok (.ireturn, 1) := by decide +kernel
theorem d_Math_floorDiv_0 : decode b_Math_floorDiv 0 = .ok (.lload_n 0, 1) := by decide +kernel
theorem d_Math_floorDiv_1 : decode b_Math_floorDiv 1 = .ok (.lload_n 2, 1) := by decide +kernel
theorem d_Math_floorDiv_2 : decode b_Math_floorDiv 2 = .ok (.ldiv, 1) := by decide +kernel
theorem d_Math_floorDiv_3 : decode b_Math_floorDiv 3 = .ok (.lstore 4, 2) := by decide +kernel
theorem d_Math_floorDiv_5 : decode b_Math_floorDiv 5 = .ok (.lload_n 0, 1) := by decide +kernel
theorem d_Math_floorDiv_6 : decode b_Math_floorDiv 6 = .ok (.lload_n 2, 1) := by decide +kernel
theorem d_Math_floorDiv_7 : decode b_Math_floorDiv 7 = .ok (.lxor, 1) := by decide +kernel
theorem d_Math_floorDiv_8 : decode b_Math_floorDiv 8 = .ok (.lconst 0, 1) := by decide +kernel
theorem d_Math_floorDiv_9 : decode b_Math_floorDiv 9 = .ok (.lcmp, 1) := by decide +kernel
theorem d_Math_floorDiv_10 : decode b_Math_floorDiv 10 = .ok (.ifCond .ge 17, 3) := by decide +kernel
theorem d_Math_floorDiv_13 : decode b_Math_floorDiv 13 = .ok (.lload 4, 2) := by decide +kernel
theorem d_Math_floorDiv_15 : decode b_Math_floorDiv 15 = .ok (.lload_n 2, 1) := by decide +kernel
theorem d_Math_floorDiv_16 : decode b_Math_floorDiv 16 = .ok (.lmul, 1) := by decide +kernel
theorem d_Math_floorDiv_17 : decode b_Math_floorDiv 17 = .ok (.lload_n 0, 1) := by decide +kernel
theorem d_Math_floorDiv_18 : decode b_Math_floorDiv 18 = .ok (.lcmp, 1) := by decide +kernel
theorem d_Math_floorDiv_19 : decode b_Math_floorDiv 19 = .ok (.ifCond .eq 8, 3) := by decide +kernel
theorem d_Math_floorDiv_22 : decode b_Math_floorDiv 22 = .ok (.lload 4, 2) := by decide +kernel
theorem d_Math_floorDiv_24 : decode b_Math_floorDiv 24 = .ok (.lconst 1, 1) := by decide +kernel
theorem d_Math_floorDiv_25 : decode b_Math_floorDiv 25 = .ok (.lsub, 1) := by decide +kernel
theorem d_Math_floorDiv_26 : decode b_Math_floorDiv 26 = .ok (.lreturn, 1) := by decide +kernel
theorem d_Math_floorDiv_27 : decode b_Math_floorDiv 27 = .ok (.lload 4, 2) := by decide +kernel
theorem d_Math_floorDiv_29 : decode b_Math_floorDiv 29 = .ok (.lreturn, 1) := by decide +kernel
