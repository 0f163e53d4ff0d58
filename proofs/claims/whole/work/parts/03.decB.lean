theorem dX5_init_0 : decode cX5_init 0 = .ok (.aload_n 0, 1) := by decide +kernel
theorem dX5_init_1 : decode cX5_init 1 = .ok (.invokespecial 3, 3) := by decide +kernel
theorem dX5_init_4 : decode cX5_init 4 = .ok (.aload_n 0, 1) := by decide +kernel
theorem dX5_init_5 : decode cX5_init 5 = .ok (.bipush 24, 2) := by decide +kernel
theorem dX5_init_7 : decode cX5_init 7 = .ok (.newarray .int, 2) := by decide +kernel
theorem dX5_init_9 : decode cX5_init 9 = .ok (.putfield 9, 3) := by decide +kernel
theorem dX5_init_12 : decode cX5_init 12 = .ok (.aload_n 0, 1) := by decide +kernel
theorem dX5_init_13 : decode cX5_init 13 = .ok (.bipush 24, 2) := by decide +kernel
theorem dX5_init_15 : decode cX5_init 15 = .ok (.newarray .int, 2) := by decide +kernel
theorem dX5_init_17 : decode cX5_init 17 = .ok (.putfield 15, 3) := by decide +kernel
theorem dX5_init_20 : decode cX5_init 20 = .ok (.aload_n 0, 1) := by decide +kernel
theorem dX5_init_21 : decode cX5_init 21 = .ok (.bipush 24, 2) := by decide +kernel
theorem dX5_init_23 : decode cX5_init 23 = .ok (.newarray .int, 2) := by decide +kernel
theorem dX5_init_25 : decode cX5_init 25 = .ok (.putfield 18, 3) := by decide +kernel
theorem dX5_init_28 : decode cX5_init 28 = .ok (.aload_n 0, 1) := by decide +kernel
theorem dX5_init_29 : decode cX5_init 29 = .ok (.bipush 24, 2) := by decide +kernel
theorem dX5_init_31 : decode cX5_init 31 = .ok (.newarray .int, 2) := by decide +kernel
theorem dX5_init_33 : decode cX5_init 33 = .ok (.putfield 21, 3) := by decide +kernel
theorem dX5_init_36 : decode cX5_init 36 = .ok (.return_, 1) := by decide +kernel
theorem dX5_clear_0 : decode cX5_clear 0 = .ok (.aload_n 0, 1) := by decide +kernel
theorem dX5_clear_1 : decode cX5_clear 1 = .ok (.iconst 0, 1) := by decide +kernel
theorem dX5_clear_2 : decode cX5_clear 2 = .ok (.putfield 24, 3) := by decide +kernel
theorem dX5_clear_5 : decode cX5_clear 5 = .ok (.aload_n 0, 1) := by decide +kernel
theorem dX5_clear_6 : decode cX5_clear 6 = .ok (.iconst 0, 1) := by decide +kernel
theorem dX5_clear_7 : decode cX5_clear 7 = .ok (.putfield 28, 3) := by decide +kernel
theorem dX5_clear_10 : decode cX5_clear 10 = .ok (.return_, 1) := by decide +kernel
theorem dX5_summary_0 : decode cX5_summary 0 = .ok (.aload_n 0, 1) := by decide +kernel
theorem dX5_summary_1 : decode cX5_summary 1 = .ok (.getfield 24, 3) := by decide +kernel
theorem dX5_summary_4 : decode cX5_summary 4 = .ok (.bipush 64, 2) := by decide +kernel
theorem dX5_summary_6 : decode cX5_summary 6 = .ok (.aload_n 0, 1) := by decide +kernel
theorem dX5_summary_7 : decode cX5_summary 7 = .ok (.getfield 28, 3) := by decide +kernel
theorem dX5_summary_10 : decode cX5_summary 10 = .ok (.imul, 1) := by decide +kernel
theorem dX5_summary_11 : decode cX5_summary 11 = .ok (.iadd, 1) := by decide +kernel
theorem dX5_summary_12 : decode cX5_summary 12 = .ok (.ireturn, 1) := by decide +kernel
theorem dX5_isOpen_0 : decode cX5_isOpen 0 = .ok (.iload_n 1, 1) := by decide +kernel
theorem dX5_isOpen_1 : decode cX5_isOpen 1 = .ok (.invokestatic 31, 3) := by decide +kernel
theorem dX5_isOpen_4 : decode cX5_isOpen 4 = .ok (.ifCond .eq 18, 3) := by decide +kernel
theorem dX5_isOpen_7 : decode cX5_isOpen 7 = .ok (.aload_n 0, 1) := by decide +kernel
theorem dX5_isOpen_8 : decode cX5_isOpen 8 = .ok (.getfield 28, 3) := by decide +kernel
theorem dX5_isOpen_11 : decode cX5_isOpen 11 = .ok (.iconst 1, 1) := by decide +kernel
theorem dX5_isOpen_12 : decode cX5_isOpen 12 = .ok (.iload_n 1, 1) := by decide +kernel
theorem dX5_isOpen_13 : decode cX5_isOpen 13 = .ok (.ishl, 1) := by decide +kernel
theorem dX5_isOpen_14 : decode cX5_isOpen 14 = .ok (.iand, 1) := by decide +kernel
theorem dX5_isOpen_15 : decode cX5_isOpen 15 = .ok (.ifCond .eq 7, 3) := by decide +kernel
theorem dX5_isOpen_18 : decode cX5_isOpen 18 = .ok (.iconst 1, 1) := by decide +kernel
theorem dX5_isOpen_19 : decode cX5_isOpen 19 = .ok (.goto 4, 3) := by decide +kernel
theorem dX5_isOpen_22 : decode cX5_isOpen 22 = .ok (.iconst 0, 1) := by decide +kernel
theorem dX5_isOpen_23 : decode cX5_isOpen 23 = .ok (.ireturn, 1) := by decide +kernel
theorem dX5_look_0 : decode cX5_look 0 = .ok (.iload_n 1, 1) := by decide +kernel
theorem dX5_look_1 : decode cX5_look 1 = .ok (.ifCond .ne 9, 3) := by decide +kernel
theorem dX5_look_4 : decode cX5_look 4 = .ok (.aload_n 0, 1) := by decide +kernel
theorem dX5_look_5 : decode cX5_look 5 = .ok (.iload_n 2, 1) := by decide +kernel
theorem dX5_look_6 : decode cX5_look 6 = .ok (.invokevirtual 35, 3) := by decide +kernel
theorem dX5_look_9 : decode cX5_look 9 = .ok (.ireturn, 1) := by decide +kernel
theorem dX5_look_10 : decode cX5_look 10 = .ok (.aload_n 0, 1) := by decide +kernel
theorem dX5_look_11 : decode cX5_look 11 = .ok (.iload_n 1, 1) := by decide +kernel
theorem dX5_look_12 : decode cX5_look 12 = .ok (.invokevirtual 39, 3) := by decide +kernel
theorem dX5_look_15 : decode cX5_look 15 = .ok (.istore_n 3, 1) := by decide +kernel
theorem dX5_look_16 : decode cX5_look 16 = .ok (.iload_n 3, 1) := by decide +kernel
theorem dX5_look_17 : decode cX5_look 17 = .ok (.iconst (-1), 1) := by decide +kernel
theorem dX5_look_18 : decode cX5_look 18 = .ok (.if_icmp .ne 5, 3) := by decide +kernel
theorem dX5_look_21 : decode cX5_look 21 = .ok (.iconst 0, 1) := by decide +kernel
theorem dX5_look_22 : decode cX5_look 22 = .ok (.ireturn, 1) := by decide +kernel
theorem dX5_look_23 : decode cX5_look 23 = .ok (.iload_n 2, 1) := by decide +kernel
theorem dX5_look_24 : decode cX5_look 24 = .ok (.tableswitch 65 0 4 #[36, 38, 45, 52, 58], 36) := by decide +kernel
theorem dX5_look_60 : decode cX5_look 60 = .ok (.iconst 1, 1) := by decide +kernel
theorem dX5_look_61 : decode cX5_look 61 = .ok (.ireturn, 1) := by decide +kernel
theorem dX5_look_62 : decode cX5_look 62 = .ok (.aload_n 0, 1) := by decide +kernel
theorem dX5_look_63 : decode cX5_look 63 = .ok (.getfield 15, 3) := by decide +kernel
theorem dX5_look_66 : decode cX5_look 66 = .ok (.iload_n 3, 1) := by decide +kernel
theorem dX5_look_67 : decode cX5_look 67 = .ok (.iaload, 1) := by decide +kernel
theorem dX5_look_68 : decode cX5_look 68 = .ok (.ireturn, 1) := by decide +kernel
theorem dX5_look_69 : decode cX5_look 69 = .ok (.aload_n 0, 1) := by decide +kernel
theorem dX5_look_70 : decode cX5_look 70 = .ok (.getfield 18, 3) := by decide +kernel
theorem dX5_look_73 : decode cX5_look 73 = .ok (.iload_n 3, 1) := by decide +kernel
theorem dX5_look_74 : decode cX5_look 74 = .ok (.iaload, 1) := by decide +kernel
theorem dX5_look_75 : decode cX5_look 75 = .ok (.ireturn, 1) := by decide +kernel
theorem dX5_look_76 : decode cX5_look 76 = .ok (.aload_n 0, 1) := by decide +kernel
theorem dX5_look_77 : decode cX5_look 77 = .ok (.iload_n 1, 1) := by decide +kernel
theorem dX5_look_78 : decode cX5_look 78 = .ok (.invokevirtual 42, 3) := by decide +kernel
theorem dX5_look_81 : decode cX5_look 81 = .ok (.ireturn, 1) := by decide +kernel
theorem dX5_look_82 : decode cX5_look 82 = .ok (.aload_n 0, 1) := by decide +kernel
theorem dX5_look_83 : decode cX5_look 83 = .ok (.getfield 21, 3) := by decide +kernel
theorem dX5_look_86 : decode cX5_look 86 = .ok (.iload_n 3, 1) := by decide +kernel
theorem dX5_look_87 : decode cX5_look 87 = .ok (.iaload, 1) := by decide +kernel
theorem dX5_look_88 : decode cX5_look 88 = .ok (.ireturn, 1) := by decide +kernel
theorem dX5_look_89 : decode cX5_look 89 = .ok (.iconst 0, 1) := by decide +kernel
theorem dX5_look_90 : decode cX5_look 90 = .ok (.ireturn, 1) := by decide +kernel
theorem dX5_lookAtRoot_0 : decode cX5_lookAtRoot 0 = .ok (.iload_n 1, 1) := by decide +kernel
theorem dX5_lookAtRoot_1 : decode cX5_lookAtRoot 1 = .ok (.ifCond .ne 5, 3) := by decide +kernel
theorem dX5_lookAtRoot_4 : decode cX5_lookAtRoot 4 = .ok (.iconst 1, 1) := by decide +kernel
theorem dX5_lookAtRoot_5 : decode cX5_lookAtRoot 5 = .ok (.ireturn, 1) := by decide +kernel
theorem dX5_lookAtRoot_6 : decode cX5_lookAtRoot 6 = .ok (.iload_n 1, 1) := by decide +kernel
theorem dX5_lookAtRoot_7 : decode cX5_lookAtRoot 7 = .ok (.iconst 3, 1) := by decide +kernel
theorem dX5_lookAtRoot_8 : decode cX5_lookAtRoot 8 = .ok (.if_icmp .ne 11, 3) := by decide +kernel
theorem dX5_lookAtRoot_11 : decode cX5_lookAtRoot 11 = .ok (.aload_n 0, 1) := by decide +kernel
theorem dX5_lookAtRoot_12 : decode cX5_lookAtRoot 12 = .ok (.iconst 0, 1) := by decide +kernel
theorem dX5_lookAtRoot_13 : decode cX5_lookAtRoot 13 = .ok (.invokevirtual 42, 3) := by decide +kernel
theorem dX5_lookAtRoot_16 : decode cX5_lookAtRoot 16 = .ok (.goto 4, 3) := by decide +kernel
theorem dX5_lookAtRoot_19 : decode cX5_lookAtRoot 19 = .ok (.iconst 0, 1) := by decide +kernel
theorem dX5_lookAtRoot_20 : decode cX5_lookAtRoot 20 = .ok (.ireturn, 1) := by decide +kernel
theorem dX5_find_0 : decode cX5_find 0 = .ok (.iconst 0, 1) := by decide +kernel
theorem dX5_find_1 : decode cX5_find 1 = .ok (.istore_n 2, 1) := by decide +kernel
theorem dX5_find_2 : decode cX5_find 2 = .ok (.iload_n 2, 1) := by decide +kernel
theorem dX5_find_3 : decode cX5_find 3 = .ok (.aload_n 0, 1) := by decide +kernel
theorem dX5_find_4 : decode cX5_find 4 = .ok (.getfield 24, 3) := by decide +kernel
theorem dX5_find_7 : decode cX5_find 7 = .ok (.if_icmp .ge 21, 3) := by decide +kernel
theorem dX5_find_10 : decode cX5_find 10 = .ok (.aload_n 0, 1) := by decide +kernel
theorem dX5_find_11 : decode cX5_find 11 = .ok (.getfield 9, 3) := by decide +kernel
theorem dX5_find_14 : decode cX5_find 14 = .ok (.iload_n 2, 1) := by decide +kernel
theorem dX5_find_15 : decode cX5_find 15 = .ok (.iaload, 1) := by decide +kernel
theorem dX5_find_16 : decode cX5_find 16 = .ok (.iload_n 1, 1) := by decide +kernel
theorem dX5_find_17 : decode cX5_find 17 = .ok (.if_icmp .ne 5, 3) := by decide +kernel
theorem dX5_find_20 : decode cX5_find 20 = .ok (.iload_n 2, 1) := by decide +kernel
theorem dX5_find_21 : decode cX5_find 21 = .ok (.ireturn, 1) := by decide +kernel
theorem dX5_find_22 : decode cX5_find 22 = .ok (.iinc 2 1, 3) := by decide +kernel
theorem dX5_find_25 : decode cX5_find 25 = .ok (.goto (-23), 3) := by decide +kernel
theorem dX5_find_28 : decode cX5_find 28 = .ok (.iconst (-1), 1) := by decide +kernel
theorem dX5_find_29 : decode cX5_find 29 = .ok (.ireturn, 1) := by decide +kernel
theorem dX5_countChildren_0 : decode cX5_countChildren 0 = .ok (.iconst 0, 1) := by decide +kernel
theorem dX5_countChildren_1 : decode cX5_countChildren 1 = .ok (.istore_n 2, 1) := by decide +kernel
theorem dX5_countChildren_2 : decode cX5_countChildren 2 = .ok (.iconst 0, 1) := by decide +kernel
theorem dX5_countChildren_3 : decode cX5_countChildren 3 = .ok (.istore_n 3, 1) := by decide +kernel
theorem dX5_countChildren_4 : decode cX5_countChildren 4 = .ok (.iload_n 3, 1) := by decide +kernel
theorem dX5_countChildren_5 : decode cX5_countChildren 5 = .ok (.aload_n 0, 1) := by decide +kernel
theorem dX5_countChildren_6 : decode cX5_countChildren 6 = .ok (.getfield 24, 3) := by decide +kernel
theorem dX5_countChildren_9 : decode cX5_countChildren 9 = .ok (.if_icmp .ge 25, 3) := by decide +kernel
theorem dX5_countChildren_12 : decode cX5_countChildren 12 = .ok (.aload_n 0, 1) := by decide +kernel
theorem dX5_countChildren_13 : decode cX5_countChildren 13 = .ok (.getfield 9, 3) := by decide +kernel
theorem dX5_countChildren_16 : decode cX5_countChildren 16 = .ok (.iload_n 3, 1) := by decide +kernel
theorem dX5_countChildren_17 : decode cX5_countChildren 17 = .ok (.iaload, 1) := by decide +kernel
theorem dX5_countChildren_18 : decode cX5_countChildren 18 = .ok (.bipush 8, 2) := by decide +kernel
theorem dX5_countChildren_20 : decode cX5_countChildren 20 = .ok (.idiv, 1) := by decide +kernel
theorem dX5_countChildren_21 : decode cX5_countChildren 21 = .ok (.iload_n 1, 1) := by decide +kernel
theorem dX5_countChildren_22 : decode cX5_countChildren 22 = .ok (.if_icmp .ne 6, 3) := by decide +kernel
theorem dX5_countChildren_25 : decode cX5_countChildren 25 = .ok (.iinc 2 1, 3) := by decide +kernel
theorem dX5_countChildren_28 : decode cX5_countChildren 28 = .ok (.iinc 3 1, 3) := by decide +kernel
theorem dX5_countChildren_31 : decode cX5_countChildren 31 = .ok (.goto (-27), 3) := by decide +kernel
theorem dX5_countChildren_34 : decode cX5_countChildren 34 = .ok (.iload_n 2, 1) := by decide +kernel
theorem dX5_countChildren_35 : decode cX5_countChildren 35 = .ok (.ireturn, 1) := by decide +kernel
theorem dX5_change_0 : decode cX5_change 0 = .ok (.iload_n 1, 1) := by decide +kernel
theorem dX5_change_1 : decode cX5_change 1 = .ok (.tableswitch 64 1 4 #[31, 40, 49, 57], 31) := by decide +kernel
theorem dX5_change_32 : decode cX5_change 32 = .ok (.aload_n 0, 1) := by decide +kernel
theorem dX5_change_33 : decode cX5_change 33 = .ok (.iload_n 2, 1) := by decide +kernel
theorem dX5_change_34 : decode cX5_change 34 = .ok (.iload_n 3, 1) := by decide +kernel
theorem dX5_change_35 : decode cX5_change 35 = .ok (.iload 4, 2) := by decide +kernel
theorem dX5_change_37 : decode cX5_change 37 = .ok (.invokevirtual 45, 3) := by decide +kernel
theorem dX5_change_40 : decode cX5_change 40 = .ok (.ireturn, 1) := by decide +kernel
theorem dX5_change_41 : decode cX5_change 41 = .ok (.aload_n 0, 1) := by decide +kernel
theorem dX5_change_42 : decode cX5_change 42 = .ok (.iload_n 2, 1) := by decide +kernel
theorem dX5_change_43 : decode cX5_change 43 = .ok (.iload_n 3, 1) := by decide +kernel
theorem dX5_change_44 : decode cX5_change 44 = .ok (.iload 4, 2) := by decide +kernel
theorem dX5_change_46 : decode cX5_change 46 = .ok (.invokevirtual 49, 3) := by decide +kernel
theorem dX5_change_49 : decode cX5_change 49 = .ok (.ireturn, 1) := by decide +kernel
theorem dX5_change_50 : decode cX5_change 50 = .ok (.aload_n 0, 1) := by decide +kernel
theorem dX5_change_51 : decode cX5_change 51 = .ok (.iload_n 2, 1) := by decide +kernel
theorem dX5_change_52 : decode cX5_change 52 = .ok (.iload 4, 2) := by decide +kernel
theorem dX5_change_54 : decode cX5_change 54 = .ok (.invokevirtual 52, 3) := by decide +kernel
theorem dX5_change_57 : decode cX5_change 57 = .ok (.ireturn, 1) := by decide +kernel
theorem dX5_change_58 : decode cX5_change 58 = .ok (.aload_n 0, 1) := by decide +kernel
theorem dX5_change_59 : decode cX5_change 59 = .ok (.iload 4, 2) := by decide +kernel
theorem dX5_change_61 : decode cX5_change 61 = .ok (.invokevirtual 56, 3) := by decide +kernel
theorem dX5_change_64 : decode cX5_change 64 = .ok (.ireturn, 1) := by decide +kernel
theorem dX5_change_65 : decode cX5_change 65 = .ok (.aload_n 0, 1) := by decide +kernel
theorem dX5_change_66 : decode cX5_change 66 = .ok (.iload 4, 2) := by decide +kernel
theorem dX5_change_68 : decode cX5_change 68 = .ok (.invokevirtual 59, 3) := by decide +kernel
theorem dX5_change_71 : decode cX5_change 71 = .ok (.ireturn, 1) := by decide +kernel
theorem dX5_create_0 : decode cX5_create 0 = .ok (.iload_n 3, 1) := by decide +kernel
theorem dX5_create_1 : decode cX5_create 1 = .ok (.ifCond .eq 14, 3) := by decide +kernel
theorem dX5_create_4 : decode cX5_create 4 = .ok (.aload_n 0, 1) := by decide +kernel
theorem dX5_create_5 : decode cX5_create 5 = .ok (.iload_n 3, 1) := by decide +kernel
theorem dX5_create_6 : decode cX5_create 6 = .ok (.invokevirtual 62, 3) := by decide +kernel
theorem dX5_create_9 : decode cX5_create 9 = .ok (.ifCond .ne 6, 3) := by decide +kernel
theorem dX5_create_12 : decode cX5_create 12 = .ok (.bipush 6, 2) := by decide +kernel
theorem dX5_create_14 : decode cX5_create 14 = .ok (.ireturn, 1) := by decide +kernel
theorem dX5_create_15 : decode cX5_create 15 = .ok (.aload_n 0, 1) := by decide +kernel
theorem dX5_create_16 : decode cX5_create 16 = .ok (.iload_n 1, 1) := by decide +kernel
theorem dX5_create_17 : decode cX5_create 17 = .ok (.invokevirtual 39, 3) := by decide +kernel
theorem dX5_create_20 : decode cX5_create 20 = .ok (.iconst (-1), 1) := by decide +kernel
theorem dX5_create_21 : decode cX5_create 21 = .ok (.if_icmp .eq 5, 3) := by decide +kernel
theorem dX5_create_24 : decode cX5_create 24 = .ok (.iconst 2, 1) := by decide +kernel
theorem dX5_create_25 : decode cX5_create 25 = .ok (.ireturn, 1) := by decide +kernel
theorem dX5_create_26 : decode cX5_create 26 = .ok (.iload_n 1, 1) := by decide +kernel
theorem dX5_create_27 : decode cX5_create 27 = .ok (.bipush 8, 2) := by decide +kernel
theorem dX5_create_29 : decode cX5_create 29 = .ok (.idiv, 1) := by decide +kernel
theorem dX5_create_30 : decode cX5_create 30 = .ok (.istore 4, 2) := by decide +kernel
theorem dX5_create_32 : decode cX5_create 32 = .ok (.aload_n 0, 1) := by decide +kernel
theorem dX5_create_33 : decode cX5_create 33 = .ok (.iload 4, 2) := by decide +kernel
theorem dX5_create_35 : decode cX5_create 35 = .ok (.invokevirtual 39, 3) := by decide +kernel
theorem dX5_create_38 : decode cX5_create 38 = .ok (.istore 5, 2) := by decide +kernel
theorem dX5_create_40 : decode cX5_create 40 = .ok (.iload 4, 2) := by decide +kernel
theorem dX5_create_42 : decode cX5_create 42 = .ok (.ifCond .eq 11, 3) := by decide +kernel
theorem dX5_create_45 : decode cX5_create 45 = .ok (.iload 5, 2) := by decide +kernel
theorem dX5_create_47 : decode cX5_create 47 = .ok (.iconst (-1), 1) := by decide +kernel
theorem dX5_create_48 : decode cX5_create 48 = .ok (.if_icmp .ne 5, 3) := by decide +kernel
theorem dX5_create_51 : decode cX5_create 51 = .ok (.iconst 1, 1) := by decide +kernel
theorem dX5_create_52 : decode cX5_create 52 = .ok (.ireturn, 1) := by decide +kernel
theorem dX5_create_53 : decode cX5_create 53 = .ok (.iload 5, 2) := by decide +kernel
theorem dX5_create_55 : decode cX5_create 55 = .ok (.iconst (-1), 1) := by decide +kernel
theorem dX5_create_56 : decode cX5_create 56 = .ok (.if_icmp .eq 15, 3) := by decide +kernel
theorem dX5_create_59 : decode cX5_create 59 = .ok (.aload_n 0, 1) := by decide +kernel
theorem dX5_create_60 : decode cX5_create 60 = .ok (.getfield 21, 3) := by decide +kernel
theorem dX5_create_63 : decode cX5_create 63 = .ok (.iload 5, 2) := by decide +kernel
theorem dX5_create_65 : decode cX5_create 65 = .ok (.iaload, 1) := by decide +kernel
theorem dX5_create_66 : decode cX5_create 66 = .ok (.ifCond .eq 5, 3) := by decide +kernel
theorem dX5_create_69 : decode cX5_create 69 = .ok (.iconst 3, 1) := by decide +kernel
theorem dX5_create_70 : decode cX5_create 70 = .ok (.ireturn, 1) := by decide +kernel
theorem dX5_create_71 : decode cX5_create 71 = .ok (.aload_n 0, 1) := by decide +kernel
theorem dX5_create_72 : decode cX5_create 72 = .ok (.iload_n 1, 1) := by decide +kernel
theorem dX5_create_73 : decode cX5_create 73 = .ok (.iload_n 2, 1) := by decide +kernel
theorem dX5_create_74 : decode cX5_create 74 = .ok (.iload_n 3, 1) := by decide +kernel
theorem dX5_create_75 : decode cX5_create 75 = .ok (.invokevirtual 65, 3) := by decide +kernel
theorem dX5_create_78 : decode cX5_create 78 = .ok (.iconst 0, 1) := by decide +kernel
theorem dX5_create_79 : decode cX5_create 79 = .ok (.ireturn, 1) := by decide +kernel
theorem dX5_add_0 : decode cX5_add 0 = .ok (.aload_n 0, 1) := by decide +kernel
theorem dX5_add_1 : decode cX5_add 1 = .ok (.getfield 24, 3) := by decide +kernel
theorem dX5_add_4 : decode cX5_add 4 = .ok (.bipush 24, 2) := by decide +kernel
theorem dX5_add_6 : decode cX5_add 6 = .ok (.if_icmp .ge 53, 3) := by decide +kernel
theorem dX5_add_9 : decode cX5_add 9 = .ok (.aload_n 0, 1) := by decide +kernel
theorem dX5_add_10 : decode cX5_add 10 = .ok (.getfield 9, 3) := by decide +kernel
theorem dX5_add_13 : decode cX5_add 13 = .ok (.aload_n 0, 1) := by decide +kernel
theorem dX5_add_14 : decode cX5_add 14 = .ok (.getfield 24, 3) := by decide +kernel
theorem dX5_add_17 : decode cX5_add 17 = .ok (.iload_n 1, 1) := by decide +kernel
theorem dX5_add_18 : decode cX5_add 18 = .ok (.iastore, 1) := by decide +kernel
theorem dX5_add_19 : decode cX5_add 19 = .ok (.aload_n 0, 1) := by decide +kernel
theorem dX5_add_20 : decode cX5_add 20 = .ok (.getfield 15, 3) := by decide +kernel
theorem dX5_add_23 : decode cX5_add 23 = .ok (.aload_n 0, 1) := by decide +kernel
theorem dX5_add_24 : decode cX5_add 24 = .ok (.getfield 24, 3) := by decide +kernel
theorem dX5_add_27 : decode cX5_add 27 = .ok (.iload_n 2, 1) := by decide +kernel
theorem dX5_add_28 : decode cX5_add 28 = .ok (.iastore, 1) := by decide +kernel
theorem dX5_add_29 : decode cX5_add 29 = .ok (.aload_n 0, 1) := by decide +kernel
theorem dX5_add_30 : decode cX5_add 30 = .ok (.getfield 18, 3) := by decide +kernel
theorem dX5_add_33 : decode cX5_add 33 = .ok (.aload_n 0, 1) := by decide +kernel
theorem dX5_add_34 : decode cX5_add 34 = .ok (.getfield 24, 3) := by decide +kernel
theorem dX5_add_37 : decode cX5_add 37 = .ok (.iconst 0, 1) := by decide +kernel
theorem dX5_add_38 : decode cX5_add 38 = .ok (.iastore, 1) := by decide +kernel
theorem dX5_add_39 : decode cX5_add 39 = .ok (.aload_n 0, 1) := by decide +kernel
theorem dX5_add_40 : decode cX5_add 40 = .ok (.getfield 21, 3) := by decide +kernel
theorem dX5_add_43 : decode cX5_add 43 = .ok (.aload_n 0, 1) := by decide +kernel
theorem dX5_add_44 : decode cX5_add 44 = .ok (.getfield 24, 3) := by decide +kernel
theorem dX5_add_47 : decode cX5_add 47 = .ok (.iload_n 3, 1) := by decide +kernel
theorem dX5_add_48 : decode cX5_add 48 = .ok (.iastore, 1) := by decide +kernel
theorem dX5_add_49 : decode cX5_add 49 = .ok (.aload_n 0, 1) := by decide +kernel
theorem dX5_add_50 : decode cX5_add 50 = .ok (.dup, 1) := by decide +kernel
theorem dX5_add_51 : decode cX5_add 51 = .ok (.getfield 24, 3) := by decide +kernel
theorem dX5_add_54 : decode cX5_add 54 = .ok (.iconst 1, 1) := by decide +kernel
theorem dX5_add_55 : decode cX5_add 55 = .ok (.iadd, 1) := by decide +kernel
theorem dX5_add_56 : decode cX5_add 56 = .ok (.putfield 24, 3) := by decide +kernel
theorem dX5_add_59 : decode cX5_add 59 = .ok (.return_, 1) := by decide +kernel
theorem dX5_set_0 : decode cX5_set 0 = .ok (.aload_n 0, 1) := by decide +kernel
theorem dX5_set_1 : decode cX5_set 1 = .ok (.iload_n 1, 1) := by decide +kernel
theorem dX5_set_2 : decode cX5_set 2 = .ok (.invokevirtual 39, 3) := by decide +kernel
theorem dX5_set_5 : decode cX5_set 5 = .ok (.istore 4, 2) := by decide +kernel
theorem dX5_set_7 : decode cX5_set 7 = .ok (.iload 4, 2) := by decide +kernel
theorem dX5_set_9 : decode cX5_set 9 = .ok (.iconst (-1), 1) := by decide +kernel
theorem dX5_set_10 : decode cX5_set 10 = .ok (.if_icmp .ne 5, 3) := by decide +kernel
theorem dX5_set_13 : decode cX5_set 13 = .ok (.iconst 1, 1) := by decide +kernel
theorem dX5_set_14 : decode cX5_set 14 = .ok (.ireturn, 1) := by decide +kernel
theorem dX5_set_15 : decode cX5_set 15 = .ok (.iload_n 3, 1) := by decide +kernel
theorem dX5_set_16 : decode cX5_set 16 = .ok (.iconst (-1), 1) := by decide +kernel
theorem dX5_set_17 : decode cX5_set 17 = .ok (.if_icmp .eq 16, 3) := by decide +kernel
theorem dX5_set_20 : decode cX5_set 20 = .ok (.iload_n 3, 1) := by decide +kernel
theorem dX5_set_21 : decode cX5_set 21 = .ok (.aload_n 0, 1) := by decide +kernel
theorem dX5_set_22 : decode cX5_set 22 = .ok (.getfield 18, 3) := by decide +kernel
theorem dX5_set_25 : decode cX5_set 25 = .ok (.iload 4, 2) := by decide +kernel
theorem dX5_set_27 : decode cX5_set 27 = .ok (.iaload, 1) := by decide +kernel
theorem dX5_set_28 : decode cX5_set 28 = .ok (.if_icmp .eq 5, 3) := by decide +kernel
theorem dX5_set_31 : decode cX5_set 31 = .ok (.iconst 5, 1) := by decide +kernel
theorem dX5_set_32 : decode cX5_set 32 = .ok (.ireturn, 1) := by decide +kernel
theorem dX5_set_33 : decode cX5_set 33 = .ok (.aload_n 0, 1) := by decide +kernel
theorem dX5_set_34 : decode cX5_set 34 = .ok (.getfield 15, 3) := by decide +kernel
theorem dX5_set_37 : decode cX5_set 37 = .ok (.iload 4, 2) := by decide +kernel
theorem dX5_set_39 : decode cX5_set 39 = .ok (.iload_n 2, 1) := by decide +kernel
theorem dX5_set_40 : decode cX5_set 40 = .ok (.iastore, 1) := by decide +kernel
theorem dX5_set_41 : decode cX5_set 41 = .ok (.aload_n 0, 1) := by decide +kernel
theorem dX5_set_42 : decode cX5_set 42 = .ok (.getfield 18, 3) := by decide +kernel
theorem dX5_set_45 : decode cX5_set 45 = .ok (.iload 4, 2) := by decide +kernel
theorem dX5_set_47 : decode cX5_set 47 = .ok (.dup2, 1) := by decide +kernel
theorem dX5_set_48 : decode cX5_set 48 = .ok (.iaload, 1) := by decide +kernel
theorem dX5_set_49 : decode cX5_set 49 = .ok (.iconst 1, 1) := by decide +kernel
theorem dX5_set_50 : decode cX5_set 50 = .ok (.iadd, 1) := by decide +kernel
theorem dX5_set_51 : decode cX5_set 51 = .ok (.iastore, 1) := by decide +kernel
theorem dX5_set_52 : decode cX5_set 52 = .ok (.iconst 0, 1) := by decide +kernel
theorem dX5_set_53 : decode cX5_set 53 = .ok (.ireturn, 1) := by decide +kernel
theorem dX5_delete_0 : decode cX5_delete 0 = .ok (.aload_n 0, 1) := by decide +kernel
theorem dX5_delete_1 : decode cX5_delete 1 = .ok (.iload_n 1, 1) := by decide +kernel
theorem dX5_delete_2 : decode cX5_delete 2 = .ok (.invokevirtual 39, 3) := by decide +kernel
theorem dX5_delete_5 : decode cX5_delete 5 = .ok (.istore_n 3, 1) := by decide +kernel
theorem dX5_delete_6 : decode cX5_delete 6 = .ok (.iload_n 3, 1) := by decide +kernel
theorem dX5_delete_7 : decode cX5_delete 7 = .ok (.iconst (-1), 1) := by decide +kernel
theorem dX5_delete_8 : decode cX5_delete 8 = .ok (.if_icmp .ne 5, 3) := by decide +kernel
theorem dX5_delete_11 : decode cX5_delete 11 = .ok (.iconst 1, 1) := by decide +kernel
theorem dX5_delete_12 : decode cX5_delete 12 = .ok (.ireturn, 1) := by decide +kernel
theorem dX5_delete_13 : decode cX5_delete 13 = .ok (.iload_n 2, 1) := by decide +kernel
theorem dX5_delete_14 : decode cX5_delete 14 = .ok (.iconst (-1), 1) := by decide +kernel
theorem dX5_delete_15 : decode cX5_delete 15 = .ok (.if_icmp .eq 15, 3) := by decide +kernel
theorem dX5_delete_18 : decode cX5_delete 18 = .ok (.iload_n 2, 1) := by decide +kernel
theorem dX5_delete_19 : decode cX5_delete 19 = .ok (.aload_n 0, 1) := by decide +kernel
theorem dX5_delete_20 : decode cX5_delete 20 = .ok (.getfield 18, 3) := by decide +kernel
theorem dX5_delete_23 : decode cX5_delete 23 = .ok (.iload_n 3, 1) := by decide +kernel
theorem dX5_delete_24 : decode cX5_delete 24 = .ok (.iaload, 1) := by decide +kernel
theorem dX5_delete_25 : decode cX5_delete 25 = .ok (.if_icmp .eq 5, 3) := by decide +kernel
theorem dX5_delete_28 : decode cX5_delete 28 = .ok (.iconst 5, 1) := by decide +kernel
theorem dX5_delete_29 : decode cX5_delete 29 = .ok (.ireturn, 1) := by decide +kernel
theorem dX5_delete_30 : decode cX5_delete 30 = .ok (.aload_n 0, 1) := by decide +kernel
theorem dX5_delete_31 : decode cX5_delete 31 = .ok (.iload_n 1, 1) := by decide +kernel
theorem dX5_delete_32 : decode cX5_delete 32 = .ok (.invokevirtual 42, 3) := by decide +kernel
theorem dX5_delete_35 : decode cX5_delete 35 = .ok (.ifCond .le 5, 3) := by decide +kernel
theorem dX5_delete_38 : decode cX5_delete 38 = .ok (.iconst 4, 1) := by decide +kernel
theorem dX5_delete_39 : decode cX5_delete 39 = .ok (.ireturn, 1) := by decide +kernel
theorem dX5_delete_40 : decode cX5_delete 40 = .ok (.aload_n 0, 1) := by decide +kernel
theorem dX5_delete_41 : decode cX5_delete 41 = .ok (.iload_n 3, 1) := by decide +kernel
theorem dX5_delete_42 : decode cX5_delete 42 = .ok (.invokevirtual 69, 3) := by decide +kernel
theorem dX5_delete_45 : decode cX5_delete 45 = .ok (.iconst 0, 1) := by decide +kernel
theorem dX5_delete_46 : decode cX5_delete 46 = .ok (.ireturn, 1) := by decide +kernel
theorem dX5_remove_0 : decode cX5_remove 0 = .ok (.aload_n 0, 1) := by decide +kernel
theorem dX5_remove_1 : decode cX5_remove 1 = .ok (.dup, 1) := by decide +kernel
theorem dX5_remove_2 : decode cX5_remove 2 = .ok (.getfield 24, 3) := by decide +kernel
theorem dX5_remove_5 : decode cX5_remove 5 = .ok (.iconst 1, 1) := by decide +kernel
theorem dX5_remove_6 : decode cX5_remove 6 = .ok (.isub, 1) := by decide +kernel
theorem dX5_remove_7 : decode cX5_remove 7 = .ok (.putfield 24, 3) := by decide +kernel
theorem dX5_remove_10 : decode cX5_remove 10 = .ok (.aload_n 0, 1) := by decide +kernel
theorem dX5_remove_11 : decode cX5_remove 11 = .ok (.getfield 9, 3) := by decide +kernel
theorem dX5_remove_14 : decode cX5_remove 14 = .ok (.iload_n 1, 1) := by decide +kernel
theorem dX5_remove_15 : decode cX5_remove 15 = .ok (.aload_n 0, 1) := by decide +kernel
theorem dX5_remove_16 : decode cX5_remove 16 = .ok (.getfield 9, 3) := by decide +kernel
theorem dX5_remove_19 : decode cX5_remove 19 = .ok (.aload_n 0, 1) := by decide +kernel
theorem dX5_remove_20 : decode cX5_remove 20 = .ok (.getfield 24, 3) := by decide +kernel
theorem dX5_remove_23 : decode cX5_remove 23 = .ok (.iaload, 1) := by decide +kernel
theorem dX5_remove_24 : decode cX5_remove 24 = .ok (.iastore, 1) := by decide +kernel
theorem dX5_remove_25 : decode cX5_remove 25 = .ok (.aload_n 0, 1) := by decide +kernel
theorem dX5_remove_26 : decode cX5_remove 26 = .ok (.getfield 15, 3) := by decide +kernel
theorem dX5_remove_29 : decode cX5_remove 29 = .ok (.iload_n 1, 1) := by decide +kernel
theorem dX5_remove_30 : decode cX5_remove 30 = .ok (.aload_n 0, 1) := by decide +kernel
theorem dX5_remove_31 : decode cX5_remove 31 = .ok (.getfield 15, 3) := by decide +kernel
theorem dX5_remove_34 : decode cX5_remove 34 = .ok (.aload_n 0, 1) := by decide +kernel
theorem dX5_remove_35 : decode cX5_remove 35 = .ok (.getfield 24, 3) := by decide +kernel
theorem dX5_remove_38 : decode cX5_remove 38 = .ok (.iaload, 1) := by decide +kernel
theorem dX5_remove_39 : decode cX5_remove 39 = .ok (.iastore, 1) := by decide +kernel
theorem dX5_remove_40 : decode cX5_remove 40 = .ok (.aload_n 0, 1) := by decide +kernel
theorem dX5_remove_41 : decode cX5_remove 41 = .ok (.getfield 18, 3) := by decide +kernel
theorem dX5_remove_44 : decode cX5_remove 44 = .ok (.iload_n 1, 1) := by decide +kernel
theorem dX5_remove_45 : decode cX5_remove 45 = .ok (.aload_n 0, 1) := by decide +kernel
theorem dX5_remove_46 : decode cX5_remove 46 = .ok (.getfield 18, 3) := by decide +kernel
theorem dX5_remove_49 : decode cX5_remove 49 = .ok (.aload_n 0, 1) := by decide +kernel
theorem dX5_remove_50 : decode cX5_remove 50 = .ok (.getfield 24, 3) := by decide +kernel
theorem dX5_remove_53 : decode cX5_remove 53 = .ok (.iaload, 1) := by decide +kernel
theorem dX5_remove_54 : decode cX5_remove 54 = .ok (.iastore, 1) := by decide +kernel
theorem dX5_remove_55 : decode cX5_remove 55 = .ok (.aload_n 0, 1) := by decide +kernel
theorem dX5_remove_56 : decode cX5_remove 56 = .ok (.getfield 21, 3) := by decide +kernel
theorem dX5_remove_59 : decode cX5_remove 59 = .ok (.iload_n 1, 1) := by decide +kernel
theorem dX5_remove_60 : decode cX5_remove 60 = .ok (.aload_n 0, 1) := by decide +kernel
theorem dX5_remove_61 : decode cX5_remove 61 = .ok (.getfield 21, 3) := by decide +kernel
theorem dX5_remove_64 : decode cX5_remove 64 = .ok (.aload_n 0, 1) := by decide +kernel
theorem dX5_remove_65 : decode cX5_remove 65 = .ok (.getfield 24, 3) := by decide +kernel
theorem dX5_remove_68 : decode cX5_remove 68 = .ok (.iaload, 1) := by decide +kernel
theorem dX5_remove_69 : decode cX5_remove 69 = .ok (.iastore, 1) := by decide +kernel
theorem dX5_remove_70 : decode cX5_remove 70 = .ok (.return_, 1) := by decide +kernel
theorem dX5_open_0 : decode cX5_open 0 = .ok (.aload_n 0, 1) := by decide +kernel
theorem dX5_open_1 : decode cX5_open 1 = .ok (.iload_n 1, 1) := by decide +kernel
theorem dX5_open_2 : decode cX5_open 2 = .ok (.invokevirtual 62, 3) := by decide +kernel
theorem dX5_open_5 : decode cX5_open 5 = .ok (.ifCond .eq 5, 3) := by decide +kernel
theorem dX5_open_8 : decode cX5_open 8 = .ok (.iconst 2, 1) := by decide +kernel
theorem dX5_open_9 : decode cX5_open 9 = .ok (.ireturn, 1) := by decide +kernel
theorem dX5_open_10 : decode cX5_open 10 = .ok (.aload_n 0, 1) := by decide +kernel
theorem dX5_open_11 : decode cX5_open 11 = .ok (.dup, 1) := by decide +kernel
theorem dX5_open_12 : decode cX5_open 12 = .ok (.getfield 28, 3) := by decide +kernel
theorem dX5_open_15 : decode cX5_open 15 = .ok (.iconst 1, 1) := by decide +kernel
theorem dX5_open_16 : decode cX5_open 16 = .ok (.iload_n 1, 1) := by decide +kernel
theorem dX5_open_17 : decode cX5_open 17 = .ok (.ishl, 1) := by decide +kernel
theorem dX5_open_18 : decode cX5_open 18 = .ok (.ior, 1) := by decide +kernel
theorem dX5_open_19 : decode cX5_open 19 = .ok (.putfield 28, 3) := by decide +kernel
theorem dX5_open_22 : decode cX5_open 22 = .ok (.iconst 0, 1) := by decide +kernel
theorem dX5_open_23 : decode cX5_open 23 = .ok (.ireturn, 1) := by decide +kernel
theorem dX5_close_0 : decode cX5_close 0 = .ok (.aload_n 0, 1) := by decide +kernel
theorem dX5_close_1 : decode cX5_close 1 = .ok (.iload_n 1, 1) := by decide +kernel
theorem dX5_close_2 : decode cX5_close 2 = .ok (.invokevirtual 62, 3) := by decide +kernel
theorem dX5_close_5 : decode cX5_close 5 = .ok (.ifCond .ne 6, 3) := by decide +kernel
theorem dX5_close_8 : decode cX5_close 8 = .ok (.bipush 6, 2) := by decide +kernel
theorem dX5_close_10 : decode cX5_close 10 = .ok (.ireturn, 1) := by decide +kernel
theorem dX5_close_11 : decode cX5_close 11 = .ok (.aload_n 0, 1) := by decide +kernel
theorem dX5_close_12 : decode cX5_close 12 = .ok (.getfield 24, 3) := by decide +kernel
theorem dX5_close_15 : decode cX5_close 15 = .ok (.iconst 1, 1) := by decide +kernel
theorem dX5_close_16 : decode cX5_close 16 = .ok (.isub, 1) := by decide +kernel
theorem dX5_close_17 : decode cX5_close 17 = .ok (.istore_n 2, 1) := by decide +kernel
theorem dX5_close_18 : decode cX5_close 18 = .ok (.iload_n 2, 1) := by decide +kernel
theorem dX5_close_19 : decode cX5_close 19 = .ok (.ifCond .lt 24, 3) := by decide +kernel
theorem dX5_close_22 : decode cX5_close 22 = .ok (.aload_n 0, 1) := by decide +kernel
theorem dX5_close_23 : decode cX5_close 23 = .ok (.getfield 21, 3) := by decide +kernel
theorem dX5_close_26 : decode cX5_close 26 = .ok (.iload_n 2, 1) := by decide +kernel
theorem dX5_close_27 : decode cX5_close 27 = .ok (.iaload, 1) := by decide +kernel
theorem dX5_close_28 : decode cX5_close 28 = .ok (.iload_n 1, 1) := by decide +kernel
theorem dX5_close_29 : decode cX5_close 29 = .ok (.if_icmp .ne 8, 3) := by decide +kernel
theorem dX5_close_32 : decode cX5_close 32 = .ok (.aload_n 0, 1) := by decide +kernel
theorem dX5_close_33 : decode cX5_close 33 = .ok (.iload_n 2, 1) := by decide +kernel
theorem dX5_close_34 : decode cX5_close 34 = .ok (.invokevirtual 69, 3) := by decide +kernel
theorem dX5_close_37 : decode cX5_close 37 = .ok (.iinc 2 (-1), 3) := by decide +kernel
theorem dX5_close_40 : decode cX5_close 40 = .ok (.goto (-22), 3) := by decide +kernel
theorem dX5_close_43 : decode cX5_close 43 = .ok (.aload_n 0, 1) := by decide +kernel
theorem dX5_close_44 : decode cX5_close 44 = .ok (.dup, 1) := by decide +kernel
theorem dX5_close_45 : decode cX5_close 45 = .ok (.getfield 28, 3) := by decide +kernel
theorem dX5_close_48 : decode cX5_close 48 = .ok (.iconst 1, 1) := by decide +kernel
theorem dX5_close_49 : decode cX5_close 49 = .ok (.iload_n 1, 1) := by decide +kernel
theorem dX5_close_50 : decode cX5_close 50 = .ok (.ishl, 1) := by decide +kernel
theorem dX5_close_51 : decode cX5_close 51 = .ok (.iconst (-1), 1) := by decide +kernel
theorem dX5_close_52 : decode cX5_close 52 = .ok (.ixor, 1) := by decide +kernel
theorem dX5_close_53 : decode cX5_close 53 = .ok (.iand, 1) := by decide +kernel
theorem dX5_close_54 : decode cX5_close 54 = .ok (.putfield 28, 3) := by decide +kernel
theorem dX5_close_57 : decode cX5_close 57 = .ok (.iconst 0, 1) := by decide +kernel
theorem dX5_close_58 : decode cX5_close 58 = .ok (.ireturn, 1) := by decide +kernel
