theorem dX0_init_0 : decode cX0_init 0 = .ok (.aload_n 0, 1) := by decide +kernel
theorem dX0_init_1 : decode cX0_init 1 = .ok (.invokespecial 3, 3) := by decide +kernel
theorem dX0_init_4 : decode cX0_init 4 = .ok (.aload_n 0, 1) := by decide +kernel
theorem dX0_init_5 : decode cX0_init 5 = .ok (.bipush 24, 2) := by decide +kernel
theorem dX0_init_7 : decode cX0_init 7 = .ok (.newarray .int, 2) := by decide +kernel
theorem dX0_init_9 : decode cX0_init 9 = .ok (.putfield 9, 3) := by decide +kernel
theorem dX0_init_12 : decode cX0_init 12 = .ok (.aload_n 0, 1) := by decide +kernel
theorem dX0_init_13 : decode cX0_init 13 = .ok (.bipush 24, 2) := by decide +kernel
theorem dX0_init_15 : decode cX0_init 15 = .ok (.newarray .int, 2) := by decide +kernel
theorem dX0_init_17 : decode cX0_init 17 = .ok (.putfield 15, 3) := by decide +kernel
theorem dX0_init_20 : decode cX0_init 20 = .ok (.aload_n 0, 1) := by decide +kernel
theorem dX0_init_21 : decode cX0_init 21 = .ok (.bipush 24, 2) := by decide +kernel
theorem dX0_init_23 : decode cX0_init 23 = .ok (.newarray .int, 2) := by decide +kernel
theorem dX0_init_25 : decode cX0_init 25 = .ok (.putfield 18, 3) := by decide +kernel
theorem dX0_init_28 : decode cX0_init 28 = .ok (.aload_n 0, 1) := by decide +kernel
theorem dX0_init_29 : decode cX0_init 29 = .ok (.bipush 24, 2) := by decide +kernel
theorem dX0_init_31 : decode cX0_init 31 = .ok (.newarray .int, 2) := by decide +kernel
theorem dX0_init_33 : decode cX0_init 33 = .ok (.putfield 21, 3) := by decide +kernel
theorem dX0_init_36 : decode cX0_init 36 = .ok (.aload_n 0, 1) := by decide +kernel
theorem dX0_init_37 : decode cX0_init 37 = .ok (.bipush 24, 2) := by decide +kernel
theorem dX0_init_39 : decode cX0_init 39 = .ok (.newarray .int, 2) := by decide +kernel
theorem dX0_init_41 : decode cX0_init 41 = .ok (.putfield 24, 3) := by decide +kernel
theorem dX0_init_44 : decode cX0_init 44 = .ok (.return_, 1) := by decide +kernel
theorem dX0_isFull_0 : decode cX0_isFull 0 = .ok (.aload_n 0, 1) := by decide +kernel
theorem dX0_isFull_1 : decode cX0_isFull 1 = .ok (.getfield 27, 3) := by decide +kernel
theorem dX0_isFull_4 : decode cX0_isFull 4 = .ok (.bipush 24, 2) := by decide +kernel
theorem dX0_isFull_6 : decode cX0_isFull 6 = .ok (.if_icmp .lt 7, 3) := by decide +kernel
theorem dX0_isFull_9 : decode cX0_isFull 9 = .ok (.iconst 1, 1) := by decide +kernel
theorem dX0_isFull_10 : decode cX0_isFull 10 = .ok (.goto 4, 3) := by decide +kernel
theorem dX0_isFull_13 : decode cX0_isFull 13 = .ok (.iconst 0, 1) := by decide +kernel
theorem dX0_isFull_14 : decode cX0_isFull 14 = .ok (.ireturn, 1) := by decide +kernel
theorem dX0_markAt_0 : decode cX0_markAt 0 = .ok (.iload_n 1, 1) := by decide +kernel
theorem dX0_markAt_1 : decode cX0_markAt 1 = .ok (.iconst 1, 1) := by decide +kernel
theorem dX0_markAt_2 : decode cX0_markAt 2 = .ok (.if_icmp .lt 22, 3) := by decide +kernel
theorem dX0_markAt_5 : decode cX0_markAt 5 = .ok (.iload_n 1, 1) := by decide +kernel
theorem dX0_markAt_6 : decode cX0_markAt 6 = .ok (.aload_n 0, 1) := by decide +kernel
theorem dX0_markAt_7 : decode cX0_markAt 7 = .ok (.getfield 27, 3) := by decide +kernel
theorem dX0_markAt_10 : decode cX0_markAt 10 = .ok (.if_icmp .gt 14, 3) := by decide +kernel
theorem dX0_markAt_13 : decode cX0_markAt 13 = .ok (.aload_n 0, 1) := by decide +kernel
theorem dX0_markAt_14 : decode cX0_markAt 14 = .ok (.getfield 9, 3) := by decide +kernel
theorem dX0_markAt_17 : decode cX0_markAt 17 = .ok (.iload_n 1, 1) := by decide +kernel
theorem dX0_markAt_18 : decode cX0_markAt 18 = .ok (.iconst 1, 1) := by decide +kernel
theorem dX0_markAt_19 : decode cX0_markAt 19 = .ok (.isub, 1) := by decide +kernel
theorem dX0_markAt_20 : decode cX0_markAt 20 = .ok (.iaload, 1) := by decide +kernel
theorem dX0_markAt_21 : decode cX0_markAt 21 = .ok (.goto 4, 3) := by decide +kernel
theorem dX0_markAt_24 : decode cX0_markAt 24 = .ok (.iconst 0, 1) := by decide +kernel
theorem dX0_markAt_25 : decode cX0_markAt 25 = .ok (.ireturn, 1) := by decide +kernel
theorem dX0_lastMark_0 : decode cX0_lastMark 0 = .ok (.aload_n 0, 1) := by decide +kernel
theorem dX0_lastMark_1 : decode cX0_lastMark 1 = .ok (.aload_n 0, 1) := by decide +kernel
theorem dX0_lastMark_2 : decode cX0_lastMark 2 = .ok (.getfield 27, 3) := by decide +kernel
theorem dX0_lastMark_5 : decode cX0_lastMark 5 = .ok (.invokevirtual 31, 3) := by decide +kernel
theorem dX0_lastMark_8 : decode cX0_lastMark 8 = .ok (.ireturn, 1) := by decide +kernel
theorem dX0_append_0 : decode cX0_append 0 = .ok (.aload_n 0, 1) := by decide +kernel
theorem dX0_append_1 : decode cX0_append 1 = .ok (.invokevirtual 35, 3) := by decide +kernel
theorem dX0_append_4 : decode cX0_append 4 = .ok (.ifCond .eq 4, 3) := by decide +kernel
theorem dX0_append_7 : decode cX0_append 7 = .ok (.return_, 1) := by decide +kernel
theorem dX0_append_8 : decode cX0_append 8 = .ok (.aload_n 0, 1) := by decide +kernel
theorem dX0_append_9 : decode cX0_append 9 = .ok (.getfield 9, 3) := by decide +kernel
theorem dX0_append_12 : decode cX0_append 12 = .ok (.aload_n 0, 1) := by decide +kernel
theorem dX0_append_13 : decode cX0_append 13 = .ok (.getfield 27, 3) := by decide +kernel
theorem dX0_append_16 : decode cX0_append 16 = .ok (.iload_n 1, 1) := by decide +kernel
theorem dX0_append_17 : decode cX0_append 17 = .ok (.iastore, 1) := by decide +kernel
theorem dX0_append_18 : decode cX0_append 18 = .ok (.aload_n 0, 1) := by decide +kernel
theorem dX0_append_19 : decode cX0_append 19 = .ok (.getfield 15, 3) := by decide +kernel
theorem dX0_append_22 : decode cX0_append 22 = .ok (.aload_n 0, 1) := by decide +kernel
theorem dX0_append_23 : decode cX0_append 23 = .ok (.getfield 27, 3) := by decide +kernel
theorem dX0_append_26 : decode cX0_append 26 = .ok (.iload_n 2, 1) := by decide +kernel
theorem dX0_append_27 : decode cX0_append 27 = .ok (.iastore, 1) := by decide +kernel
theorem dX0_append_28 : decode cX0_append 28 = .ok (.aload_n 0, 1) := by decide +kernel
theorem dX0_append_29 : decode cX0_append 29 = .ok (.getfield 18, 3) := by decide +kernel
theorem dX0_append_32 : decode cX0_append 32 = .ok (.aload_n 0, 1) := by decide +kernel
theorem dX0_append_33 : decode cX0_append 33 = .ok (.getfield 27, 3) := by decide +kernel
theorem dX0_append_36 : decode cX0_append 36 = .ok (.iload_n 3, 1) := by decide +kernel
theorem dX0_append_37 : decode cX0_append 37 = .ok (.iastore, 1) := by decide +kernel
theorem dX0_append_38 : decode cX0_append 38 = .ok (.aload_n 0, 1) := by decide +kernel
theorem dX0_append_39 : decode cX0_append 39 = .ok (.getfield 21, 3) := by decide +kernel
theorem dX0_append_42 : decode cX0_append 42 = .ok (.aload_n 0, 1) := by decide +kernel
theorem dX0_append_43 : decode cX0_append 43 = .ok (.getfield 27, 3) := by decide +kernel
theorem dX0_append_46 : decode cX0_append 46 = .ok (.iload 4, 2) := by decide +kernel
theorem dX0_append_48 : decode cX0_append 48 = .ok (.iastore, 1) := by decide +kernel
theorem dX0_append_49 : decode cX0_append 49 = .ok (.aload_n 0, 1) := by decide +kernel
theorem dX0_append_50 : decode cX0_append 50 = .ok (.getfield 24, 3) := by decide +kernel
theorem dX0_append_53 : decode cX0_append 53 = .ok (.aload_n 0, 1) := by decide +kernel
theorem dX0_append_54 : decode cX0_append 54 = .ok (.getfield 27, 3) := by decide +kernel
theorem dX0_append_57 : decode cX0_append 57 = .ok (.iload 5, 2) := by decide +kernel
theorem dX0_append_59 : decode cX0_append 59 = .ok (.iastore, 1) := by decide +kernel
theorem dX0_append_60 : decode cX0_append 60 = .ok (.aload_n 0, 1) := by decide +kernel
theorem dX0_append_61 : decode cX0_append 61 = .ok (.dup, 1) := by decide +kernel
theorem dX0_append_62 : decode cX0_append 62 = .ok (.getfield 27, 3) := by decide +kernel
theorem dX0_append_65 : decode cX0_append 65 = .ok (.iconst 1, 1) := by decide +kernel
theorem dX0_append_66 : decode cX0_append 66 = .ok (.iadd, 1) := by decide +kernel
theorem dX0_append_67 : decode cX0_append 67 = .ok (.putfield 27, 3) := by decide +kernel
theorem dX0_append_70 : decode cX0_append 70 = .ok (.return_, 1) := by decide +kernel
theorem dX0_appendFrom_0 : decode cX0_appendFrom 0 = .ok (.iload_n 2, 1) := by decide +kernel
theorem dX0_appendFrom_1 : decode cX0_appendFrom 1 = .ok (.iconst 1, 1) := by decide +kernel
theorem dX0_appendFrom_2 : decode cX0_appendFrom 2 = .ok (.if_icmp .lt 49, 3) := by decide +kernel
theorem dX0_appendFrom_5 : decode cX0_appendFrom 5 = .ok (.iload_n 2, 1) := by decide +kernel
theorem dX0_appendFrom_6 : decode cX0_appendFrom 6 = .ok (.aload_n 1, 1) := by decide +kernel
theorem dX0_appendFrom_7 : decode cX0_appendFrom 7 = .ok (.getfield 27, 3) := by decide +kernel
theorem dX0_appendFrom_10 : decode cX0_appendFrom 10 = .ok (.if_icmp .gt 41, 3) := by decide +kernel
theorem dX0_appendFrom_13 : decode cX0_appendFrom 13 = .ok (.iload_n 2, 1) := by decide +kernel
theorem dX0_appendFrom_14 : decode cX0_appendFrom 14 = .ok (.iconst 1, 1) := by decide +kernel
theorem dX0_appendFrom_15 : decode cX0_appendFrom 15 = .ok (.isub, 1) := by decide +kernel
theorem dX0_appendFrom_16 : decode cX0_appendFrom 16 = .ok (.istore_n 3, 1) := by decide +kernel
theorem dX0_appendFrom_17 : decode cX0_appendFrom 17 = .ok (.aload_n 0, 1) := by decide +kernel
theorem dX0_appendFrom_18 : decode cX0_appendFrom 18 = .ok (.aload_n 1, 1) := by decide +kernel
theorem dX0_appendFrom_19 : decode cX0_appendFrom 19 = .ok (.getfield 9, 3) := by decide +kernel
theorem dX0_appendFrom_22 : decode cX0_appendFrom 22 = .ok (.iload_n 3, 1) := by decide +kernel
theorem dX0_appendFrom_23 : decode cX0_appendFrom 23 = .ok (.iaload, 1) := by decide +kernel
theorem dX0_appendFrom_24 : decode cX0_appendFrom 24 = .ok (.aload_n 1, 1) := by decide +kernel
theorem dX0_appendFrom_25 : decode cX0_appendFrom 25 = .ok (.getfield 15, 3) := by decide +kernel
theorem dX0_appendFrom_28 : decode cX0_appendFrom 28 = .ok (.iload_n 3, 1) := by decide +kernel
theorem dX0_appendFrom_29 : decode cX0_appendFrom 29 = .ok (.iaload, 1) := by decide +kernel
theorem dX0_appendFrom_30 : decode cX0_appendFrom 30 = .ok (.aload_n 1, 1) := by decide +kernel
theorem dX0_appendFrom_31 : decode cX0_appendFrom 31 = .ok (.getfield 18, 3) := by decide +kernel
theorem dX0_appendFrom_34 : decode cX0_appendFrom 34 = .ok (.iload_n 3, 1) := by decide +kernel
theorem dX0_appendFrom_35 : decode cX0_appendFrom 35 = .ok (.iaload, 1) := by decide +kernel
theorem dX0_appendFrom_36 : decode cX0_appendFrom 36 = .ok (.aload_n 1, 1) := by decide +kernel
theorem dX0_appendFrom_37 : decode cX0_appendFrom 37 = .ok (.getfield 21, 3) := by decide +kernel
theorem dX0_appendFrom_40 : decode cX0_appendFrom 40 = .ok (.iload_n 3, 1) := by decide +kernel
theorem dX0_appendFrom_41 : decode cX0_appendFrom 41 = .ok (.iaload, 1) := by decide +kernel
theorem dX0_appendFrom_42 : decode cX0_appendFrom 42 = .ok (.aload_n 1, 1) := by decide +kernel
theorem dX0_appendFrom_43 : decode cX0_appendFrom 43 = .ok (.getfield 24, 3) := by decide +kernel
theorem dX0_appendFrom_46 : decode cX0_appendFrom 46 = .ok (.iload_n 3, 1) := by decide +kernel
theorem dX0_appendFrom_47 : decode cX0_appendFrom 47 = .ok (.iaload, 1) := by decide +kernel
theorem dX0_appendFrom_48 : decode cX0_appendFrom 48 = .ok (.invokevirtual 39, 3) := by decide +kernel
theorem dX0_appendFrom_51 : decode cX0_appendFrom 51 = .ok (.return_, 1) := by decide +kernel
theorem dX0_becomeFirst_0 : decode cX0_becomeFirst 0 = .ok (.aload_n 0, 1) := by decide +kernel
theorem dX0_becomeFirst_1 : decode cX0_becomeFirst 1 = .ok (.iconst 0, 1) := by decide +kernel
theorem dX0_becomeFirst_2 : decode cX0_becomeFirst 2 = .ok (.putfield 27, 3) := by decide +kernel
theorem dX0_becomeFirst_5 : decode cX0_becomeFirst 5 = .ok (.iconst 1, 1) := by decide +kernel
theorem dX0_becomeFirst_6 : decode cX0_becomeFirst 6 = .ok (.istore_n 3, 1) := by decide +kernel
theorem dX0_becomeFirst_7 : decode cX0_becomeFirst 7 = .ok (.iload_n 3, 1) := by decide +kernel
theorem dX0_becomeFirst_8 : decode cX0_becomeFirst 8 = .ok (.iload_n 2, 1) := by decide +kernel
theorem dX0_becomeFirst_9 : decode cX0_becomeFirst 9 = .ok (.if_icmp .gt 23, 3) := by decide +kernel
theorem dX0_becomeFirst_12 : decode cX0_becomeFirst 12 = .ok (.iload_n 3, 1) := by decide +kernel
theorem dX0_becomeFirst_13 : decode cX0_becomeFirst 13 = .ok (.aload_n 1, 1) := by decide +kernel
theorem dX0_becomeFirst_14 : decode cX0_becomeFirst 14 = .ok (.getfield 27, 3) := by decide +kernel
theorem dX0_becomeFirst_17 : decode cX0_becomeFirst 17 = .ok (.if_icmp .gt 15, 3) := by decide +kernel
theorem dX0_becomeFirst_20 : decode cX0_becomeFirst 20 = .ok (.aload_n 0, 1) := by decide +kernel
theorem dX0_becomeFirst_21 : decode cX0_becomeFirst 21 = .ok (.aload_n 1, 1) := by decide +kernel
theorem dX0_becomeFirst_22 : decode cX0_becomeFirst 22 = .ok (.iload_n 3, 1) := by decide +kernel
theorem dX0_becomeFirst_23 : decode cX0_becomeFirst 23 = .ok (.invokevirtual 43, 3) := by decide +kernel
theorem dX0_becomeFirst_26 : decode cX0_becomeFirst 26 = .ok (.iinc 3 1, 3) := by decide +kernel
theorem dX0_becomeFirst_29 : decode cX0_becomeFirst 29 = .ok (.goto (-22), 3) := by decide +kernel
theorem dX0_becomeFirst_32 : decode cX0_becomeFirst 32 = .ok (.return_, 1) := by decide +kernel
theorem dX1_init_0 : decode cX1_init 0 = .ok (.aload_n 0, 1) := by decide +kernel
theorem dX1_init_1 : decode cX1_init 1 = .ok (.invokespecial 3, 3) := by decide +kernel
theorem dX1_init_4 : decode cX1_init 4 = .ok (.aload_n 0, 1) := by decide +kernel
theorem dX1_init_5 : decode cX1_init 5 = .ok (.new 9, 3) := by decide +kernel
theorem dX1_init_8 : decode cX1_init 8 = .ok (.dup, 1) := by decide +kernel
theorem dX1_init_9 : decode cX1_init 9 = .ok (.bipush 27, 2) := by decide +kernel
theorem dX1_init_11 : decode cX1_init 11 = .ok (.invokespecial 11, 3) := by decide +kernel
theorem dX1_init_14 : decode cX1_init 14 = .ok (.putfield 14, 3) := by decide +kernel
theorem dX1_init_17 : decode cX1_init 17 = .ok (.aload_n 0, 1) := by decide +kernel
theorem dX1_init_18 : decode cX1_init 18 = .ok (.new 9, 3) := by decide +kernel
theorem dX1_init_21 : decode cX1_init 21 = .ok (.dup, 1) := by decide +kernel
theorem dX1_init_22 : decode cX1_init 22 = .ok (.bipush 51, 2) := by decide +kernel
theorem dX1_init_24 : decode cX1_init 24 = .ok (.invokespecial 11, 3) := by decide +kernel
theorem dX1_init_27 : decode cX1_init 27 = .ok (.putfield 20, 3) := by decide +kernel
theorem dX1_init_30 : decode cX1_init 30 = .ok (.return_, 1) := by decide +kernel
theorem dX1_clear_0 : decode cX1_clear 0 = .ok (.aload_n 0, 1) := by decide +kernel
theorem dX1_clear_1 : decode cX1_clear 1 = .ok (.getfield 14, 3) := by decide +kernel
theorem dX1_clear_4 : decode cX1_clear 4 = .ok (.invokevirtual 23, 3) := by decide +kernel
theorem dX1_clear_7 : decode cX1_clear 7 = .ok (.aload_n 0, 1) := by decide +kernel
theorem dX1_clear_8 : decode cX1_clear 8 = .ok (.getfield 20, 3) := by decide +kernel
theorem dX1_clear_11 : decode cX1_clear 11 = .ok (.invokevirtual 23, 3) := by decide +kernel
theorem dX1_clear_14 : decode cX1_clear 14 = .ok (.aload_n 0, 1) := by decide +kernel
theorem dX1_clear_15 : decode cX1_clear 15 = .ok (.iconst 0, 1) := by decide +kernel
theorem dX1_clear_16 : decode cX1_clear 16 = .ok (.putfield 26, 3) := by decide +kernel
theorem dX1_clear_19 : decode cX1_clear 19 = .ok (.aload_n 0, 1) := by decide +kernel
theorem dX1_clear_20 : decode cX1_clear 20 = .ok (.iconst 0, 1) := by decide +kernel
theorem dX1_clear_21 : decode cX1_clear 21 = .ok (.putfield 30, 3) := by decide +kernel
theorem dX1_clear_24 : decode cX1_clear 24 = .ok (.aload_n 0, 1) := by decide +kernel
theorem dX1_clear_25 : decode cX1_clear 25 = .ok (.iconst 0, 1) := by decide +kernel
theorem dX1_clear_26 : decode cX1_clear 26 = .ok (.putfield 33, 3) := by decide +kernel
theorem dX1_clear_29 : decode cX1_clear 29 = .ok (.return_, 1) := by decide +kernel
theorem dX2_init_0 : decode cX2_init 0 = .ok (.aload_n 0, 1) := by decide +kernel
theorem dX2_init_1 : decode cX2_init 1 = .ok (.invokespecial 1, 3) := by decide +kernel
theorem dX2_init_4 : decode cX2_init 4 = .ok (.aload_n 0, 1) := by decide +kernel
theorem dX2_init_5 : decode cX2_init 5 = .ok (.iload_n 1, 1) := by decide +kernel
theorem dX2_init_6 : decode cX2_init 6 = .ok (.newarray .int, 2) := by decide +kernel
theorem dX2_init_8 : decode cX2_init 8 = .ok (.putfield 7, 3) := by decide +kernel
theorem dX2_init_11 : decode cX2_init 11 = .ok (.aload_n 0, 1) := by decide +kernel
theorem dX2_init_12 : decode cX2_init 12 = .ok (.iload_n 1, 1) := by decide +kernel
theorem dX2_init_13 : decode cX2_init 13 = .ok (.newarray .int, 2) := by decide +kernel
theorem dX2_init_15 : decode cX2_init 15 = .ok (.putfield 13, 3) := by decide +kernel
theorem dX2_init_18 : decode cX2_init 18 = .ok (.return_, 1) := by decide +kernel
theorem dX2_clear_0 : decode cX2_clear 0 = .ok (.aload_n 0, 1) := by decide +kernel
theorem dX2_clear_1 : decode cX2_clear 1 = .ok (.iconst 0, 1) := by decide +kernel
theorem dX2_clear_2 : decode cX2_clear 2 = .ok (.putfield 16, 3) := by decide +kernel
theorem dX2_clear_5 : decode cX2_clear 5 = .ok (.aload_n 0, 1) := by decide +kernel
theorem dX2_clear_6 : decode cX2_clear 6 = .ok (.iconst 0, 1) := by decide +kernel
theorem dX2_clear_7 : decode cX2_clear 7 = .ok (.putfield 20, 3) := by decide +kernel
theorem dX2_clear_10 : decode cX2_clear 10 = .ok (.return_, 1) := by decide +kernel
theorem dX2_count_0 : decode cX2_count 0 = .ok (.aload_n 0, 1) := by decide +kernel
theorem dX2_count_1 : decode cX2_count 1 = .ok (.getfield 20, 3) := by decide +kernel
theorem dX2_count_4 : decode cX2_count 4 = .ok (.aload_n 0, 1) := by decide +kernel
theorem dX2_count_5 : decode cX2_count 5 = .ok (.getfield 16, 3) := by decide +kernel
theorem dX2_count_8 : decode cX2_count 8 = .ok (.isub, 1) := by decide +kernel
theorem dX2_count_9 : decode cX2_count 9 = .ok (.ireturn, 1) := by decide +kernel
theorem dX2_send_0 : decode cX2_send 0 = .ok (.aload_n 0, 1) := by decide +kernel
theorem dX2_send_1 : decode cX2_send 1 = .ok (.getfield 20, 3) := by decide +kernel
theorem dX2_send_4 : decode cX2_send 4 = .ok (.aload_n 0, 1) := by decide +kernel
theorem dX2_send_5 : decode cX2_send 5 = .ok (.getfield 7, 3) := by decide +kernel
theorem dX2_send_8 : decode cX2_send 8 = .ok (.arraylength, 1) := by decide +kernel
theorem dX2_send_9 : decode cX2_send 9 = .ok (.if_icmp .ge 33, 3) := by decide +kernel
theorem dX2_send_12 : decode cX2_send 12 = .ok (.aload_n 0, 1) := by decide +kernel
theorem dX2_send_13 : decode cX2_send 13 = .ok (.getfield 7, 3) := by decide +kernel
theorem dX2_send_16 : decode cX2_send 16 = .ok (.aload_n 0, 1) := by decide +kernel
theorem dX2_send_17 : decode cX2_send 17 = .ok (.getfield 20, 3) := by decide +kernel
theorem dX2_send_20 : decode cX2_send 20 = .ok (.iload_n 1, 1) := by decide +kernel
theorem dX2_send_21 : decode cX2_send 21 = .ok (.iastore, 1) := by decide +kernel
theorem dX2_send_22 : decode cX2_send 22 = .ok (.aload_n 0, 1) := by decide +kernel
theorem dX2_send_23 : decode cX2_send 23 = .ok (.getfield 13, 3) := by decide +kernel
theorem dX2_send_26 : decode cX2_send 26 = .ok (.aload_n 0, 1) := by decide +kernel
theorem dX2_send_27 : decode cX2_send 27 = .ok (.getfield 20, 3) := by decide +kernel
theorem dX2_send_30 : decode cX2_send 30 = .ok (.iload_n 2, 1) := by decide +kernel
theorem dX2_send_31 : decode cX2_send 31 = .ok (.iastore, 1) := by decide +kernel
theorem dX2_send_32 : decode cX2_send 32 = .ok (.aload_n 0, 1) := by decide +kernel
theorem dX2_send_33 : decode cX2_send 33 = .ok (.dup, 1) := by decide +kernel
theorem dX2_send_34 : decode cX2_send 34 = .ok (.getfield 20, 3) := by decide +kernel
theorem dX2_send_37 : decode cX2_send 37 = .ok (.iconst 1, 1) := by decide +kernel
theorem dX2_send_38 : decode cX2_send 38 = .ok (.iadd, 1) := by decide +kernel
theorem dX2_send_39 : decode cX2_send 39 = .ok (.putfield 20, 3) := by decide +kernel
theorem dX2_send_42 : decode cX2_send 42 = .ok (.return_, 1) := by decide +kernel
theorem dX2_firstKind_0 : decode cX2_firstKind 0 = .ok (.aload_n 0, 1) := by decide +kernel
theorem dX2_firstKind_1 : decode cX2_firstKind 1 = .ok (.getfield 16, 3) := by decide +kernel
theorem dX2_firstKind_4 : decode cX2_firstKind 4 = .ok (.aload_n 0, 1) := by decide +kernel
theorem dX2_firstKind_5 : decode cX2_firstKind 5 = .ok (.getfield 20, 3) := by decide +kernel
theorem dX2_firstKind_8 : decode cX2_firstKind 8 = .ok (.if_icmp .ge 15, 3) := by decide +kernel
theorem dX2_firstKind_11 : decode cX2_firstKind 11 = .ok (.aload_n 0, 1) := by decide +kernel
theorem dX2_firstKind_12 : decode cX2_firstKind 12 = .ok (.getfield 7, 3) := by decide +kernel
theorem dX2_firstKind_15 : decode cX2_firstKind 15 = .ok (.aload_n 0, 1) := by decide +kernel
theorem dX2_firstKind_16 : decode cX2_firstKind 16 = .ok (.getfield 16, 3) := by decide +kernel
theorem dX2_firstKind_19 : decode cX2_firstKind 19 = .ok (.iaload, 1) := by decide +kernel
theorem dX2_firstKind_20 : decode cX2_firstKind 20 = .ok (.goto 4, 3) := by decide +kernel
theorem dX2_firstKind_23 : decode cX2_firstKind 23 = .ok (.iconst 0, 1) := by decide +kernel
theorem dX2_firstKind_24 : decode cX2_firstKind 24 = .ok (.ireturn, 1) := by decide +kernel
theorem dX2_firstValue_0 : decode cX2_firstValue 0 = .ok (.aload_n 0, 1) := by decide +kernel
theorem dX2_firstValue_1 : decode cX2_firstValue 1 = .ok (.getfield 16, 3) := by decide +kernel
theorem dX2_firstValue_4 : decode cX2_firstValue 4 = .ok (.aload_n 0, 1) := by decide +kernel
theorem dX2_firstValue_5 : decode cX2_firstValue 5 = .ok (.getfield 20, 3) := by decide +kernel
theorem dX2_firstValue_8 : decode cX2_firstValue 8 = .ok (.if_icmp .ge 15, 3) := by decide +kernel
theorem dX2_firstValue_11 : decode cX2_firstValue 11 = .ok (.aload_n 0, 1) := by decide +kernel
theorem dX2_firstValue_12 : decode cX2_firstValue 12 = .ok (.getfield 13, 3) := by decide +kernel
theorem dX2_firstValue_15 : decode cX2_firstValue 15 = .ok (.aload_n 0, 1) := by decide +kernel
theorem dX2_firstValue_16 : decode cX2_firstValue 16 = .ok (.getfield 16, 3) := by decide +kernel
theorem dX2_firstValue_19 : decode cX2_firstValue 19 = .ok (.iaload, 1) := by decide +kernel
theorem dX2_firstValue_20 : decode cX2_firstValue 20 = .ok (.goto 4, 3) := by decide +kernel
theorem dX2_firstValue_23 : decode cX2_firstValue 23 = .ok (.iconst 0, 1) := by decide +kernel
theorem dX2_firstValue_24 : decode cX2_firstValue 24 = .ok (.ireturn, 1) := by decide +kernel
theorem dX2_dropFirst_0 : decode cX2_dropFirst 0 = .ok (.aload_n 0, 1) := by decide +kernel
theorem dX2_dropFirst_1 : decode cX2_dropFirst 1 = .ok (.getfield 16, 3) := by decide +kernel
theorem dX2_dropFirst_4 : decode cX2_dropFirst 4 = .ok (.aload_n 0, 1) := by decide +kernel
theorem dX2_dropFirst_5 : decode cX2_dropFirst 5 = .ok (.getfield 20, 3) := by decide +kernel
theorem dX2_dropFirst_8 : decode cX2_dropFirst 8 = .ok (.if_icmp .ge 13, 3) := by decide +kernel
theorem dX2_dropFirst_11 : decode cX2_dropFirst 11 = .ok (.aload_n 0, 1) := by decide +kernel
theorem dX2_dropFirst_12 : decode cX2_dropFirst 12 = .ok (.dup, 1) := by decide +kernel
theorem dX2_dropFirst_13 : decode cX2_dropFirst 13 = .ok (.getfield 16, 3) := by decide +kernel
theorem dX2_dropFirst_16 : decode cX2_dropFirst 16 = .ok (.iconst 1, 1) := by decide +kernel
theorem dX2_dropFirst_17 : decode cX2_dropFirst 17 = .ok (.iadd, 1) := by decide +kernel
theorem dX2_dropFirst_18 : decode cX2_dropFirst 18 = .ok (.putfield 16, 3) := by decide +kernel
theorem dX2_dropFirst_21 : decode cX2_dropFirst 21 = .ok (.return_, 1) := by decide +kernel
theorem dX3_init_0 : decode cX3_init 0 = .ok (.aload_n 0, 1) := by decide +kernel
theorem dX3_init_1 : decode cX3_init 1 = .ok (.invokespecial 3, 3) := by decide +kernel
theorem dX3_init_4 : decode cX3_init 4 = .ok (.aload_n 0, 1) := by decide +kernel
theorem dX3_init_5 : decode cX3_init 5 = .ok (.iload_n 1, 1) := by decide +kernel
theorem dX3_init_6 : decode cX3_init 6 = .ok (.putfield 9, 3) := by decide +kernel
theorem dX3_init_9 : decode cX3_init 9 = .ok (.aload_n 0, 1) := by decide +kernel
theorem dX3_init_10 : decode cX3_init 10 = .ok (.new 15, 3) := by decide +kernel
theorem dX3_init_13 : decode cX3_init 13 = .ok (.dup, 1) := by decide +kernel
theorem dX3_init_14 : decode cX3_init 14 = .ok (.invokespecial 17, 3) := by decide +kernel
theorem dX3_init_17 : decode cX3_init 17 = .ok (.putfield 18, 3) := by decide +kernel
theorem dX3_init_20 : decode cX3_init 20 = .ok (.aload_n 0, 1) := by decide +kernel
theorem dX3_init_21 : decode cX3_init 21 = .ok (.iconst 1, 1) := by decide +kernel
theorem dX3_init_22 : decode cX3_init 22 = .ok (.putfield 22, 3) := by decide +kernel
theorem dX3_init_25 : decode cX3_init 25 = .ok (.aload_n 0, 1) := by decide +kernel
theorem dX3_init_26 : decode cX3_init 26 = .ok (.bipush 24, 2) := by decide +kernel
theorem dX3_init_28 : decode cX3_init 28 = .ok (.newarray .int, 2) := by decide +kernel
theorem dX3_init_30 : decode cX3_init 30 = .ok (.putfield 25, 3) := by decide +kernel
theorem dX3_init_33 : decode cX3_init 33 = .ok (.aload_n 0, 1) := by decide +kernel
theorem dX3_init_34 : decode cX3_init 34 = .ok (.new 29, 3) := by decide +kernel
theorem dX3_init_37 : decode cX3_init 37 = .ok (.dup, 1) := by decide +kernel
theorem dX3_init_38 : decode cX3_init 38 = .ok (.invokespecial 31, 3) := by decide +kernel
theorem dX3_init_41 : decode cX3_init 41 = .ok (.putfield 32, 3) := by decide +kernel
theorem dX3_init_44 : decode cX3_init 44 = .ok (.aload_n 0, 1) := by decide +kernel
theorem dX3_init_45 : decode cX3_init 45 = .ok (.new 36, 3) := by decide +kernel
theorem dX3_init_48 : decode cX3_init 48 = .ok (.dup, 1) := by decide +kernel
theorem dX3_init_49 : decode cX3_init 49 = .ok (.invokespecial 38, 3) := by decide +kernel
theorem dX3_init_52 : decode cX3_init 52 = .ok (.putfield 39, 3) := by decide +kernel
theorem dX3_init_55 : decode cX3_init 55 = .ok (.aload_n 0, 1) := by decide +kernel
theorem dX3_init_56 : decode cX3_init 56 = .ok (.new 43, 3) := by decide +kernel
theorem dX3_init_59 : decode cX3_init 59 = .ok (.dup, 1) := by decide +kernel
theorem dX3_init_60 : decode cX3_init 60 = .ok (.invokespecial 45, 3) := by decide +kernel
theorem dX3_init_63 : decode cX3_init 63 = .ok (.putfield 46, 3) := by decide +kernel
theorem dX3_init_66 : decode cX3_init 66 = .ok (.return_, 1) := by decide +kernel
theorem dX3_applyUpTo_0 : decode cX3_applyUpTo 0 = .ok (.iload_n 1, 1) := by decide +kernel
theorem dX3_applyUpTo_1 : decode cX3_applyUpTo 1 = .ok (.aload_n 0, 1) := by decide +kernel
theorem dX3_applyUpTo_2 : decode cX3_applyUpTo 2 = .ok (.getfield 18, 3) := by decide +kernel
theorem dX3_applyUpTo_5 : decode cX3_applyUpTo 5 = .ok (.getfield 50, 3) := by decide +kernel
theorem dX3_applyUpTo_8 : decode cX3_applyUpTo 8 = .ok (.invokestatic 53, 3) := by decide +kernel
theorem dX3_applyUpTo_11 : decode cX3_applyUpTo 11 = .ok (.istore_n 2, 1) := by decide +kernel
theorem dX3_applyUpTo_12 : decode cX3_applyUpTo 12 = .ok (.aload_n 0, 1) := by decide +kernel
theorem dX3_applyUpTo_13 : decode cX3_applyUpTo 13 = .ok (.getfield 59, 3) := by decide +kernel
theorem dX3_applyUpTo_16 : decode cX3_applyUpTo 16 = .ok (.istore_n 3, 1) := by decide +kernel
theorem dX3_applyUpTo_17 : decode cX3_applyUpTo 17 = .ok (.iload_n 3, 1) := by decide +kernel
theorem dX3_applyUpTo_18 : decode cX3_applyUpTo 18 = .ok (.iload_n 2, 1) := by decide +kernel
theorem dX3_applyUpTo_19 : decode cX3_applyUpTo 19 = .ok (.if_icmp .ge 65, 3) := by decide +kernel
theorem dX3_applyUpTo_22 : decode cX3_applyUpTo 22 = .ok (.aload_n 0, 1) := by decide +kernel
theorem dX3_applyUpTo_23 : decode cX3_applyUpTo 23 = .ok (.getfield 25, 3) := by decide +kernel
theorem dX3_applyUpTo_26 : decode cX3_applyUpTo 26 = .ok (.iload_n 3, 1) := by decide +kernel
theorem dX3_applyUpTo_27 : decode cX3_applyUpTo 27 = .ok (.aload_n 0, 1) := by decide +kernel
theorem dX3_applyUpTo_28 : decode cX3_applyUpTo 28 = .ok (.getfield 32, 3) := by decide +kernel
theorem dX3_applyUpTo_31 : decode cX3_applyUpTo 31 = .ok (.aload_n 0, 1) := by decide +kernel
theorem dX3_applyUpTo_32 : decode cX3_applyUpTo 32 = .ok (.getfield 18, 3) := by decide +kernel
theorem dX3_applyUpTo_35 : decode cX3_applyUpTo 35 = .ok (.getfield 62, 3) := by decide +kernel
theorem dX3_applyUpTo_38 : decode cX3_applyUpTo 38 = .ok (.iload_n 3, 1) := by decide +kernel
theorem dX3_applyUpTo_39 : decode cX3_applyUpTo 39 = .ok (.iaload, 1) := by decide +kernel
theorem dX3_applyUpTo_40 : decode cX3_applyUpTo 40 = .ok (.aload_n 0, 1) := by decide +kernel
theorem dX3_applyUpTo_41 : decode cX3_applyUpTo 41 = .ok (.getfield 18, 3) := by decide +kernel
theorem dX3_applyUpTo_44 : decode cX3_applyUpTo 44 = .ok (.getfield 65, 3) := by decide +kernel
theorem dX3_applyUpTo_47 : decode cX3_applyUpTo 47 = .ok (.iload_n 3, 1) := by decide +kernel
theorem dX3_applyUpTo_48 : decode cX3_applyUpTo 48 = .ok (.iaload, 1) := by decide +kernel
theorem dX3_applyUpTo_49 : decode cX3_applyUpTo 49 = .ok (.aload_n 0, 1) := by decide +kernel
theorem dX3_applyUpTo_50 : decode cX3_applyUpTo 50 = .ok (.getfield 18, 3) := by decide +kernel
theorem dX3_applyUpTo_53 : decode cX3_applyUpTo 53 = .ok (.getfield 68, 3) := by decide +kernel
theorem dX3_applyUpTo_56 : decode cX3_applyUpTo 56 = .ok (.iload_n 3, 1) := by decide +kernel
theorem dX3_applyUpTo_57 : decode cX3_applyUpTo 57 = .ok (.iaload, 1) := by decide +kernel
theorem dX3_applyUpTo_58 : decode cX3_applyUpTo 58 = .ok (.aload_n 0, 1) := by decide +kernel
theorem dX3_applyUpTo_59 : decode cX3_applyUpTo 59 = .ok (.getfield 18, 3) := by decide +kernel
theorem dX3_applyUpTo_62 : decode cX3_applyUpTo 62 = .ok (.getfield 71, 3) := by decide +kernel
theorem dX3_applyUpTo_65 : decode cX3_applyUpTo 65 = .ok (.iload_n 3, 1) := by decide +kernel
theorem dX3_applyUpTo_66 : decode cX3_applyUpTo 66 = .ok (.iaload, 1) := by decide +kernel
theorem dX3_applyUpTo_67 : decode cX3_applyUpTo 67 = .ok (.invokevirtual 74, 3) := by decide +kernel
theorem dX3_applyUpTo_70 : decode cX3_applyUpTo 70 = .ok (.iastore, 1) := by decide +kernel
theorem dX3_applyUpTo_71 : decode cX3_applyUpTo 71 = .ok (.aload_n 0, 1) := by decide +kernel
theorem dX3_applyUpTo_72 : decode cX3_applyUpTo 72 = .ok (.iload_n 3, 1) := by decide +kernel
theorem dX3_applyUpTo_73 : decode cX3_applyUpTo 73 = .ok (.iconst 1, 1) := by decide +kernel
theorem dX3_applyUpTo_74 : decode cX3_applyUpTo 74 = .ok (.iadd, 1) := by decide +kernel
theorem dX3_applyUpTo_75 : decode cX3_applyUpTo 75 = .ok (.putfield 59, 3) := by decide +kernel
theorem dX3_applyUpTo_78 : decode cX3_applyUpTo 78 = .ok (.iinc 3 1, 3) := by decide +kernel
theorem dX3_applyUpTo_81 : decode cX3_applyUpTo 81 = .ok (.goto (-64), 3) := by decide +kernel
theorem dX3_applyUpTo_84 : decode cX3_applyUpTo 84 = .ok (.return_, 1) := by decide +kernel
theorem dX3_forgetApplied_0 : decode cX3_forgetApplied 0 = .ok (.aload_n 0, 1) := by decide +kernel
theorem dX3_forgetApplied_1 : decode cX3_forgetApplied 1 = .ok (.iconst 0, 1) := by decide +kernel
theorem dX3_forgetApplied_2 : decode cX3_forgetApplied 2 = .ok (.putfield 59, 3) := by decide +kernel
theorem dX3_forgetApplied_5 : decode cX3_forgetApplied 5 = .ok (.aload_n 0, 1) := by decide +kernel
theorem dX3_forgetApplied_6 : decode cX3_forgetApplied 6 = .ok (.getfield 32, 3) := by decide +kernel
theorem dX3_forgetApplied_9 : decode cX3_forgetApplied 9 = .ok (.invokevirtual 78, 3) := by decide +kernel
theorem dX3_forgetApplied_12 : decode cX3_forgetApplied 12 = .ok (.return_, 1) := by decide +kernel
theorem dX4_init_0 : decode cX4_init 0 = .ok (.aload_n 0, 1) := by decide +kernel
theorem dX4_init_1 : decode cX4_init 1 = .ok (.invokespecial 3, 3) := by decide +kernel
theorem dX4_init_4 : decode cX4_init 4 = .ok (.aload_n 0, 1) := by decide +kernel
theorem dX4_init_5 : decode cX4_init 5 = .ok (.iconst 5, 1) := by decide +kernel
theorem dX4_init_6 : decode cX4_init 6 = .ok (.newarray .int, 2) := by decide +kernel
theorem dX4_init_8 : decode cX4_init 8 = .ok (.putfield 9, 3) := by decide +kernel
theorem dX4_init_11 : decode cX4_init 11 = .ok (.return_, 1) := by decide +kernel
theorem dX4_begin_0 : decode cX4_begin 0 = .ok (.aload_n 0, 1) := by decide +kernel
theorem dX4_begin_1 : decode cX4_begin 1 = .ok (.iconst 0, 1) := by decide +kernel
theorem dX4_begin_2 : decode cX4_begin 2 = .ok (.putfield 15, 3) := by decide +kernel
theorem dX4_begin_5 : decode cX4_begin 5 = .ok (.aload_n 0, 1) := by decide +kernel
theorem dX4_begin_6 : decode cX4_begin 6 = .ok (.iconst 0, 1) := by decide +kernel
theorem dX4_begin_7 : decode cX4_begin 7 = .ok (.putfield 19, 3) := by decide +kernel
theorem dX4_begin_10 : decode cX4_begin 10 = .ok (.aload_n 0, 1) := by decide +kernel
theorem dX4_begin_11 : decode cX4_begin 11 = .ok (.iconst 0, 1) := by decide +kernel
theorem dX4_begin_12 : decode cX4_begin 12 = .ok (.putfield 22, 3) := by decide +kernel
theorem dX4_begin_15 : decode cX4_begin 15 = .ok (.return_, 1) := by decide +kernel
theorem dXA_fill_0 : decode cXA_fill 0 = .ok (.iconst 0, 1) := by decide +kernel
theorem dXA_fill_1 : decode cXA_fill 1 = .ok (.istore_n 2, 1) := by decide +kernel
theorem dXA_fill_2 : decode cXA_fill 2 = .ok (.aload_n 0, 1) := by decide +kernel
theorem dXA_fill_3 : decode cXA_fill 3 = .ok (.arraylength, 1) := by decide +kernel
theorem dXA_fill_4 : decode cXA_fill 4 = .ok (.istore_n 3, 1) := by decide +kernel
theorem dXA_fill_5 : decode cXA_fill 5 = .ok (.iload_n 2, 1) := by decide +kernel
theorem dXA_fill_6 : decode cXA_fill 6 = .ok (.iload_n 3, 1) := by decide +kernel
theorem dXA_fill_7 : decode cXA_fill 7 = .ok (.if_icmp .ge 13, 3) := by decide +kernel
theorem dXA_fill_10 : decode cXA_fill 10 = .ok (.aload_n 0, 1) := by decide +kernel
theorem dXA_fill_11 : decode cXA_fill 11 = .ok (.iload_n 2, 1) := by decide +kernel
theorem dXA_fill_12 : decode cXA_fill 12 = .ok (.iload_n 1, 1) := by decide +kernel
theorem dXA_fill_13 : decode cXA_fill 13 = .ok (.iastore, 1) := by decide +kernel
theorem dXA_fill_14 : decode cXA_fill 14 = .ok (.iinc 2 1, 3) := by decide +kernel
theorem dXA_fill_17 : decode cXA_fill 17 = .ok (.goto (-12), 3) := by decide +kernel
theorem dXA_fill_20 : decode cXA_fill 20 = .ok (.return_, 1) := by decide +kernel
