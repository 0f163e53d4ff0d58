theorem dX6_init_0 : decode cX6_init 0 = .ok (.aload_n 0, 1) := by decide +kernel
theorem dX6_init_1 : decode cX6_init 1 = .ok (.invokespecial 3, 3) := by decide +kernel
theorem dX6_init_4 : decode cX6_init 4 = .ok (.aload_n 0, 1) := by decide +kernel
theorem dX6_init_5 : decode cX6_init 5 = .ok (.iconst 3, 1) := by decide +kernel
theorem dX6_init_6 : decode cX6_init 6 = .ok (.anewarray 9, 3) := by decide +kernel
theorem dX6_init_9 : decode cX6_init 9 = .ok (.putfield 11, 3) := by decide +kernel
theorem dX6_init_12 : decode cX6_init 12 = .ok (.iconst 0, 1) := by decide +kernel
theorem dX6_init_13 : decode cX6_init 13 = .ok (.istore_n 1, 1) := by decide +kernel
theorem dX6_init_14 : decode cX6_init 14 = .ok (.iload_n 1, 1) := by decide +kernel
theorem dX6_init_15 : decode cX6_init 15 = .ok (.iconst 3, 1) := by decide +kernel
theorem dX6_init_16 : decode cX6_init 16 = .ok (.if_icmp .ge 23, 3) := by decide +kernel
theorem dX6_init_19 : decode cX6_init 19 = .ok (.aload_n 0, 1) := by decide +kernel
theorem dX6_init_20 : decode cX6_init 20 = .ok (.getfield 11, 3) := by decide +kernel
theorem dX6_init_23 : decode cX6_init 23 = .ok (.iload_n 1, 1) := by decide +kernel
theorem dX6_init_24 : decode cX6_init 24 = .ok (.new 9, 3) := by decide +kernel
theorem dX6_init_27 : decode cX6_init 27 = .ok (.dup, 1) := by decide +kernel
theorem dX6_init_28 : decode cX6_init 28 = .ok (.iload_n 1, 1) := by decide +kernel
theorem dX6_init_29 : decode cX6_init 29 = .ok (.invokespecial 15, 3) := by decide +kernel
theorem dX6_init_32 : decode cX6_init 32 = .ok (.aastore, 1) := by decide +kernel
theorem dX6_init_33 : decode cX6_init 33 = .ok (.iinc 1 1, 3) := by decide +kernel
theorem dX6_init_36 : decode cX6_init 36 = .ok (.goto (-22), 3) := by decide +kernel
theorem dX6_init_39 : decode cX6_init 39 = .ok (.return_, 1) := by decide +kernel
theorem dX6_lead_0 : decode cX6_lead 0 = .ok (.aload_n 0, 1) := by decide +kernel
theorem dX6_lead_1 : decode cX6_lead 1 = .ok (.iload_n 1, 1) := by decide +kernel
theorem dX6_lead_2 : decode cX6_lead 2 = .ok (.iconst 1, 1) := by decide +kernel
theorem dX6_lead_3 : decode cX6_lead 3 = .ok (.invokevirtual 18, 3) := by decide +kernel
theorem dX6_lead_6 : decode cX6_lead 6 = .ok (.ifCond .ne 5, 3) := by decide +kernel
theorem dX6_lead_9 : decode cX6_lead 9 = .ok (.iconst 0, 1) := by decide +kernel
theorem dX6_lead_10 : decode cX6_lead 10 = .ok (.ireturn, 1) := by decide +kernel
theorem dX6_lead_11 : decode cX6_lead 11 = .ok (.aload_n 0, 1) := by decide +kernel
theorem dX6_lead_12 : decode cX6_lead 12 = .ok (.getfield 11, 3) := by decide +kernel
theorem dX6_lead_15 : decode cX6_lead 15 = .ok (.iload_n 1, 1) := by decide +kernel
theorem dX6_lead_16 : decode cX6_lead 16 = .ok (.aaload, 1) := by decide +kernel
theorem dX6_lead_17 : decode cX6_lead 17 = .ok (.iconst 3, 1) := by decide +kernel
theorem dX6_lead_18 : decode cX6_lead 18 = .ok (.putfield 22, 3) := by decide +kernel
theorem dX6_lead_21 : decode cX6_lead 21 = .ok (.aload_n 0, 1) := by decide +kernel
theorem dX6_lead_22 : decode cX6_lead 22 = .ok (.getfield 11, 3) := by decide +kernel
theorem dX6_lead_25 : decode cX6_lead 25 = .ok (.iload_n 1, 1) := by decide +kernel
theorem dX6_lead_26 : decode cX6_lead 26 = .ok (.aaload, 1) := by decide +kernel
theorem dX6_lead_27 : decode cX6_lead 27 = .ok (.getfield 26, 3) := by decide +kernel
theorem dX6_lead_30 : decode cX6_lead 30 = .ok (.invokevirtual 30, 3) := by decide +kernel
theorem dX6_lead_33 : decode cX6_lead 33 = .ok (.iconst 1, 1) := by decide +kernel
theorem dX6_lead_34 : decode cX6_lead 34 = .ok (.ireturn, 1) := by decide +kernel
theorem dX6_follow_0 : decode cX6_follow 0 = .ok (.aload_n 0, 1) := by decide +kernel
theorem dX6_follow_1 : decode cX6_follow 1 = .ok (.iload_n 1, 1) := by decide +kernel
theorem dX6_follow_2 : decode cX6_follow 2 = .ok (.iconst 1, 1) := by decide +kernel
theorem dX6_follow_3 : decode cX6_follow 3 = .ok (.invokevirtual 18, 3) := by decide +kernel
theorem dX6_follow_6 : decode cX6_follow 6 = .ok (.ifCond .eq 11, 3) := by decide +kernel
theorem dX6_follow_9 : decode cX6_follow 9 = .ok (.aload_n 0, 1) := by decide +kernel
theorem dX6_follow_10 : decode cX6_follow 10 = .ok (.iload_n 2, 1) := by decide +kernel
theorem dX6_follow_11 : decode cX6_follow 11 = .ok (.invokevirtual 35, 3) := by decide +kernel
theorem dX6_follow_14 : decode cX6_follow 14 = .ok (.ifCond .ne 5, 3) := by decide +kernel
theorem dX6_follow_17 : decode cX6_follow 17 = .ok (.iconst 0, 1) := by decide +kernel
theorem dX6_follow_18 : decode cX6_follow 18 = .ok (.ireturn, 1) := by decide +kernel
theorem dX6_follow_19 : decode cX6_follow 19 = .ok (.aload_n 0, 1) := by decide +kernel
theorem dX6_follow_20 : decode cX6_follow 20 = .ok (.getfield 11, 3) := by decide +kernel
theorem dX6_follow_23 : decode cX6_follow 23 = .ok (.iload_n 1, 1) := by decide +kernel
theorem dX6_follow_24 : decode cX6_follow 24 = .ok (.aaload, 1) := by decide +kernel
theorem dX6_follow_25 : decode cX6_follow 25 = .ok (.astore_n 3, 1) := by decide +kernel
theorem dX6_follow_26 : decode cX6_follow 26 = .ok (.aload_n 3, 1) := by decide +kernel
theorem dX6_follow_27 : decode cX6_follow 27 = .ok (.iconst 2, 1) := by decide +kernel
theorem dX6_follow_28 : decode cX6_follow 28 = .ok (.putfield 22, 3) := by decide +kernel
theorem dX6_follow_31 : decode cX6_follow 31 = .ok (.aload_n 3, 1) := by decide +kernel
theorem dX6_follow_32 : decode cX6_follow 32 = .ok (.iload_n 2, 1) := by decide +kernel
theorem dX6_follow_33 : decode cX6_follow 33 = .ok (.putfield 39, 3) := by decide +kernel
theorem dX6_follow_36 : decode cX6_follow 36 = .ok (.aload_n 3, 1) := by decide +kernel
theorem dX6_follow_37 : decode cX6_follow 37 = .ok (.getfield 42, 3) := by decide +kernel
theorem dX6_follow_40 : decode cX6_follow 40 = .ok (.getfield 46, 3) := by decide +kernel
theorem dX6_follow_43 : decode cX6_follow 43 = .ok (.iconst 1, 1) := by decide +kernel
theorem dX6_follow_44 : decode cX6_follow 44 = .ok (.aload_n 3, 1) := by decide +kernel
theorem dX6_follow_45 : decode cX6_follow 45 = .ok (.getfield 52, 3) := by decide +kernel
theorem dX6_follow_48 : decode cX6_follow 48 = .ok (.invokevirtual 55, 3) := by decide +kernel
theorem dX6_follow_51 : decode cX6_follow 51 = .ok (.iconst 1, 1) := by decide +kernel
theorem dX6_follow_52 : decode cX6_follow 52 = .ok (.ireturn, 1) := by decide +kernel
theorem dX6_quit_0 : decode cX6_quit 0 = .ok (.aload_n 0, 1) := by decide +kernel
theorem dX6_quit_1 : decode cX6_quit 1 = .ok (.iload_n 1, 1) := by decide +kernel
theorem dX6_quit_2 : decode cX6_quit 2 = .ok (.iconst 2, 1) := by decide +kernel
theorem dX6_quit_3 : decode cX6_quit 3 = .ok (.invokevirtual 18, 3) := by decide +kernel
theorem dX6_quit_6 : decode cX6_quit 6 = .ok (.ifCond .ne 13, 3) := by decide +kernel
theorem dX6_quit_9 : decode cX6_quit 9 = .ok (.aload_n 0, 1) := by decide +kernel
theorem dX6_quit_10 : decode cX6_quit 10 = .ok (.iload_n 1, 1) := by decide +kernel
theorem dX6_quit_11 : decode cX6_quit 11 = .ok (.invokevirtual 35, 3) := by decide +kernel
theorem dX6_quit_14 : decode cX6_quit 14 = .ok (.ifCond .ne 5, 3) := by decide +kernel
theorem dX6_quit_17 : decode cX6_quit 17 = .ok (.iconst 0, 1) := by decide +kernel
theorem dX6_quit_18 : decode cX6_quit 18 = .ok (.ireturn, 1) := by decide +kernel
theorem dX6_quit_19 : decode cX6_quit 19 = .ok (.aload_n 0, 1) := by decide +kernel
theorem dX6_quit_20 : decode cX6_quit 20 = .ok (.iload_n 1, 1) := by decide +kernel
theorem dX6_quit_21 : decode cX6_quit 21 = .ok (.iconst 1, 1) := by decide +kernel
theorem dX6_quit_22 : decode cX6_quit 22 = .ok (.invokevirtual 61, 3) := by decide +kernel
theorem dX6_quit_25 : decode cX6_quit 25 = .ok (.iconst 1, 1) := by decide +kernel
theorem dX6_quit_26 : decode cX6_quit 26 = .ok (.ireturn, 1) := by decide +kernel
theorem dX6_crash_0 : decode cX6_crash 0 = .ok (.iload_n 1, 1) := by decide +kernel
theorem dX6_crash_1 : decode cX6_crash 1 = .ok (.invokestatic 64, 3) := by decide +kernel
theorem dX6_crash_4 : decode cX6_crash 4 = .ok (.ifCond .eq 15, 3) := by decide +kernel
theorem dX6_crash_7 : decode cX6_crash 7 = .ok (.aload_n 0, 1) := by decide +kernel
theorem dX6_crash_8 : decode cX6_crash 8 = .ok (.getfield 11, 3) := by decide +kernel
theorem dX6_crash_11 : decode cX6_crash 11 = .ok (.iload_n 1, 1) := by decide +kernel
theorem dX6_crash_12 : decode cX6_crash 12 = .ok (.aaload, 1) := by decide +kernel
theorem dX6_crash_13 : decode cX6_crash 13 = .ok (.getfield 22, 3) := by decide +kernel
theorem dX6_crash_16 : decode cX6_crash 16 = .ok (.ifCond .ne 5, 3) := by decide +kernel
theorem dX6_crash_19 : decode cX6_crash 19 = .ok (.iconst 0, 1) := by decide +kernel
theorem dX6_crash_20 : decode cX6_crash 20 = .ok (.ireturn, 1) := by decide +kernel
theorem dX6_crash_21 : decode cX6_crash 21 = .ok (.aload_n 0, 1) := by decide +kernel
theorem dX6_crash_22 : decode cX6_crash 22 = .ok (.iload_n 1, 1) := by decide +kernel
theorem dX6_crash_23 : decode cX6_crash 23 = .ok (.iconst 0, 1) := by decide +kernel
theorem dX6_crash_24 : decode cX6_crash 24 = .ok (.invokevirtual 61, 3) := by decide +kernel
theorem dX6_crash_27 : decode cX6_crash 27 = .ok (.aload_n 0, 1) := by decide +kernel
theorem dX6_crash_28 : decode cX6_crash 28 = .ok (.getfield 11, 3) := by decide +kernel
theorem dX6_crash_31 : decode cX6_crash 31 = .ok (.iload_n 1, 1) := by decide +kernel
theorem dX6_crash_32 : decode cX6_crash 32 = .ok (.aaload, 1) := by decide +kernel
theorem dX6_crash_33 : decode cX6_crash 33 = .ok (.invokevirtual 67, 3) := by decide +kernel
theorem dX6_crash_36 : decode cX6_crash 36 = .ok (.iconst 1, 1) := by decide +kernel
theorem dX6_crash_37 : decode cX6_crash 37 = .ok (.ireturn, 1) := by decide +kernel
theorem dX6_restart_0 : decode cX6_restart 0 = .ok (.aload_n 0, 1) := by decide +kernel
theorem dX6_restart_1 : decode cX6_restart 1 = .ok (.iload_n 1, 1) := by decide +kernel
theorem dX6_restart_2 : decode cX6_restart 2 = .ok (.iconst 0, 1) := by decide +kernel
theorem dX6_restart_3 : decode cX6_restart 3 = .ok (.invokevirtual 18, 3) := by decide +kernel
theorem dX6_restart_6 : decode cX6_restart 6 = .ok (.ifCond .ne 5, 3) := by decide +kernel
theorem dX6_restart_9 : decode cX6_restart 9 = .ok (.iconst 0, 1) := by decide +kernel
theorem dX6_restart_10 : decode cX6_restart 10 = .ok (.ireturn, 1) := by decide +kernel
theorem dX6_restart_11 : decode cX6_restart 11 = .ok (.aload_n 0, 1) := by decide +kernel
theorem dX6_restart_12 : decode cX6_restart 12 = .ok (.getfield 11, 3) := by decide +kernel
theorem dX6_restart_15 : decode cX6_restart 15 = .ok (.iload_n 1, 1) := by decide +kernel
theorem dX6_restart_16 : decode cX6_restart 16 = .ok (.aaload, 1) := by decide +kernel
theorem dX6_restart_17 : decode cX6_restart 17 = .ok (.iconst 1, 1) := by decide +kernel
theorem dX6_restart_18 : decode cX6_restart 18 = .ok (.putfield 22, 3) := by decide +kernel
theorem dX6_restart_21 : decode cX6_restart 21 = .ok (.iconst 1, 1) := by decide +kernel
theorem dX6_restart_22 : decode cX6_restart 22 = .ok (.ireturn, 1) := by decide +kernel
theorem dX6_up_0 : decode cX6_up 0 = .ok (.aload_n 0, 1) := by decide +kernel
theorem dX6_up_1 : decode cX6_up 1 = .ok (.iload_n 1, 1) := by decide +kernel
theorem dX6_up_2 : decode cX6_up 2 = .ok (.iconst 2, 1) := by decide +kernel
theorem dX6_up_3 : decode cX6_up 3 = .ok (.invokevirtual 18, 3) := by decide +kernel
theorem dX6_up_6 : decode cX6_up 6 = .ok (.ifCond .ne 5, 3) := by decide +kernel
theorem dX6_up_9 : decode cX6_up 9 = .ok (.iconst 0, 1) := by decide +kernel
theorem dX6_up_10 : decode cX6_up 10 = .ok (.ireturn, 1) := by decide +kernel
theorem dX6_up_11 : decode cX6_up 11 = .ok (.aload_n 0, 1) := by decide +kernel
theorem dX6_up_12 : decode cX6_up 12 = .ok (.getfield 11, 3) := by decide +kernel
theorem dX6_up_15 : decode cX6_up 15 = .ok (.iload_n 1, 1) := by decide +kernel
theorem dX6_up_16 : decode cX6_up 16 = .ok (.aaload, 1) := by decide +kernel
theorem dX6_up_17 : decode cX6_up 17 = .ok (.astore_n 2, 1) := by decide +kernel
theorem dX6_up_18 : decode cX6_up 18 = .ok (.aload_n 0, 1) := by decide +kernel
theorem dX6_up_19 : decode cX6_up 19 = .ok (.getfield 11, 3) := by decide +kernel
theorem dX6_up_22 : decode cX6_up 22 = .ok (.aload_n 2, 1) := by decide +kernel
theorem dX6_up_23 : decode cX6_up 23 = .ok (.getfield 39, 3) := by decide +kernel
theorem dX6_up_26 : decode cX6_up 26 = .ok (.aaload, 1) := by decide +kernel
theorem dX6_up_27 : decode cX6_up 27 = .ok (.astore_n 3, 1) := by decide +kernel
theorem dX6_up_28 : decode cX6_up 28 = .ok (.aload_n 2, 1) := by decide +kernel
theorem dX6_up_29 : decode cX6_up 29 = .ok (.getfield 42, 3) := by decide +kernel
theorem dX6_up_32 : decode cX6_up 32 = .ok (.getfield 46, 3) := by decide +kernel
theorem dX6_up_35 : decode cX6_up 35 = .ok (.astore 4, 2) := by decide +kernel
theorem dX6_up_37 : decode cX6_up 37 = .ok (.aload 4, 2) := by decide +kernel
theorem dX6_up_39 : decode cX6_up 39 = .ok (.invokevirtual 70, 3) := by decide +kernel
theorem dX6_up_42 : decode cX6_up 42 = .ok (.ifCond .ne 5, 3) := by decide +kernel
theorem dX6_up_45 : decode cX6_up 45 = .ok (.iconst 0, 1) := by decide +kernel
theorem dX6_up_46 : decode cX6_up 46 = .ok (.ireturn, 1) := by decide +kernel
theorem dX6_up_47 : decode cX6_up 47 = .ok (.aload 4, 2) := by decide +kernel
theorem dX6_up_49 : decode cX6_up 49 = .ok (.invokevirtual 74, 3) := by decide +kernel
theorem dX6_up_52 : decode cX6_up 52 = .ok (.istore 5, 2) := by decide +kernel
theorem dX6_up_54 : decode cX6_up 54 = .ok (.aload 4, 2) := by decide +kernel
theorem dX6_up_56 : decode cX6_up 56 = .ok (.invokevirtual 77, 3) := by decide +kernel
theorem dX6_up_59 : decode cX6_up 59 = .ok (.istore 6, 2) := by decide +kernel
theorem dX6_up_61 : decode cX6_up 61 = .ok (.aload 4, 2) := by decide +kernel
theorem dX6_up_63 : decode cX6_up 63 = .ok (.invokevirtual 80, 3) := by decide +kernel
theorem dX6_up_66 : decode cX6_up 66 = .ok (.iload 5, 2) := by decide +kernel
theorem dX6_up_68 : decode cX6_up 68 = .ok (.iconst 1, 1) := by decide +kernel
theorem dX6_up_69 : decode cX6_up 69 = .ok (.if_icmp .ne 13, 3) := by decide +kernel
theorem dX6_up_72 : decode cX6_up 72 = .ok (.aload_n 3, 1) := by decide +kernel
theorem dX6_up_73 : decode cX6_up 73 = .ok (.aload_n 2, 1) := by decide +kernel
theorem dX6_up_74 : decode cX6_up 74 = .ok (.iload 6, 2) := by decide +kernel
theorem dX6_up_76 : decode cX6_up 76 = .ok (.invokestatic 83, 3) := by decide +kernel
theorem dX6_up_79 : decode cX6_up 79 = .ok (.goto 36, 3) := by decide +kernel
theorem dX6_up_82 : decode cX6_up 82 = .ok (.iload 5, 2) := by decide +kernel
theorem dX6_up_84 : decode cX6_up 84 = .ok (.iconst 2, 1) := by decide +kernel
theorem dX6_up_85 : decode cX6_up 85 = .ok (.if_icmp .ne 22, 3) := by decide +kernel
theorem dX6_up_88 : decode cX6_up 88 = .ok (.aload_n 0, 1) := by decide +kernel
theorem dX6_up_89 : decode cX6_up 89 = .ok (.aload_n 3, 1) := by decide +kernel
theorem dX6_up_90 : decode cX6_up 90 = .ok (.aload_n 2, 1) := by decide +kernel
theorem dX6_up_91 : decode cX6_up 91 = .ok (.iload 6, 2) := by decide +kernel
theorem dX6_up_93 : decode cX6_up 93 = .ok (.ifCond .eq 7, 3) := by decide +kernel
theorem dX6_up_96 : decode cX6_up 96 = .ok (.iconst 1, 1) := by decide +kernel
theorem dX6_up_97 : decode cX6_up 97 = .ok (.goto 4, 3) := by decide +kernel
theorem dX6_up_100 : decode cX6_up 100 = .ok (.iconst 0, 1) := by decide +kernel
theorem dX6_up_101 : decode cX6_up 101 = .ok (.invokevirtual 87, 3) := by decide +kernel
theorem dX6_up_104 : decode cX6_up 104 = .ok (.goto 11, 3) := by decide +kernel
theorem dX6_up_107 : decode cX6_up 107 = .ok (.aload_n 0, 1) := by decide +kernel
theorem dX6_up_108 : decode cX6_up 108 = .ok (.aload_n 3, 1) := by decide +kernel
theorem dX6_up_109 : decode cX6_up 109 = .ok (.aload_n 2, 1) := by decide +kernel
theorem dX6_up_110 : decode cX6_up 110 = .ok (.iload 6, 2) := by decide +kernel
theorem dX6_up_112 : decode cX6_up 112 = .ok (.invokevirtual 91, 3) := by decide +kernel
theorem dX6_up_115 : decode cX6_up 115 = .ok (.iload 5, 2) := by decide +kernel
theorem dX6_up_117 : decode cX6_up 117 = .ok (.ireturn, 1) := by decide +kernel
theorem dX6_down_0 : decode cX6_down 0 = .ok (.aload_n 0, 1) := by decide +kernel
theorem dX6_down_1 : decode cX6_down 1 = .ok (.iload_n 1, 1) := by decide +kernel
theorem dX6_down_2 : decode cX6_down 2 = .ok (.iconst 2, 1) := by decide +kernel
theorem dX6_down_3 : decode cX6_down 3 = .ok (.invokevirtual 18, 3) := by decide +kernel
theorem dX6_down_6 : decode cX6_down 6 = .ok (.ifCond .ne 5, 3) := by decide +kernel
theorem dX6_down_9 : decode cX6_down 9 = .ok (.iconst 0, 1) := by decide +kernel
theorem dX6_down_10 : decode cX6_down 10 = .ok (.ireturn, 1) := by decide +kernel
theorem dX6_down_11 : decode cX6_down 11 = .ok (.aload_n 0, 1) := by decide +kernel
theorem dX6_down_12 : decode cX6_down 12 = .ok (.getfield 11, 3) := by decide +kernel
theorem dX6_down_15 : decode cX6_down 15 = .ok (.iload_n 1, 1) := by decide +kernel
theorem dX6_down_16 : decode cX6_down 16 = .ok (.aaload, 1) := by decide +kernel
theorem dX6_down_17 : decode cX6_down 17 = .ok (.astore_n 2, 1) := by decide +kernel
theorem dX6_down_18 : decode cX6_down 18 = .ok (.aload_n 2, 1) := by decide +kernel
theorem dX6_down_19 : decode cX6_down 19 = .ok (.getfield 42, 3) := by decide +kernel
theorem dX6_down_22 : decode cX6_down 22 = .ok (.getfield 94, 3) := by decide +kernel
theorem dX6_down_25 : decode cX6_down 25 = .ok (.astore_n 3, 1) := by decide +kernel
theorem dX6_down_26 : decode cX6_down 26 = .ok (.aload_n 3, 1) := by decide +kernel
theorem dX6_down_27 : decode cX6_down 27 = .ok (.invokevirtual 70, 3) := by decide +kernel
theorem dX6_down_30 : decode cX6_down 30 = .ok (.ifCond .ne 5, 3) := by decide +kernel
theorem dX6_down_33 : decode cX6_down 33 = .ok (.iconst 0, 1) := by decide +kernel
theorem dX6_down_34 : decode cX6_down 34 = .ok (.ireturn, 1) := by decide +kernel
theorem dX6_down_35 : decode cX6_down 35 = .ok (.aload_n 3, 1) := by decide +kernel
theorem dX6_down_36 : decode cX6_down 36 = .ok (.invokevirtual 74, 3) := by decide +kernel
theorem dX6_down_39 : decode cX6_down 39 = .ok (.istore 4, 2) := by decide +kernel
theorem dX6_down_41 : decode cX6_down 41 = .ok (.aload_n 3, 1) := by decide +kernel
theorem dX6_down_42 : decode cX6_down 42 = .ok (.invokevirtual 77, 3) := by decide +kernel
theorem dX6_down_45 : decode cX6_down 45 = .ok (.istore 5, 2) := by decide +kernel
theorem dX6_down_47 : decode cX6_down 47 = .ok (.aload_n 3, 1) := by decide +kernel
theorem dX6_down_48 : decode cX6_down 48 = .ok (.invokevirtual 80, 3) := by decide +kernel
theorem dX6_down_51 : decode cX6_down 51 = .ok (.iload 4, 2) := by decide +kernel
theorem dX6_down_53 : decode cX6_down 53 = .ok (.iconst 4, 1) := by decide +kernel
theorem dX6_down_54 : decode cX6_down 54 = .ok (.if_icmp .ne 13, 3) := by decide +kernel
theorem dX6_down_57 : decode cX6_down 57 = .ok (.aload_n 0, 1) := by decide +kernel
theorem dX6_down_58 : decode cX6_down 58 = .ok (.iload_n 1, 1) := by decide +kernel
theorem dX6_down_59 : decode cX6_down 59 = .ok (.iload 5, 2) := by decide +kernel
theorem dX6_down_61 : decode cX6_down 61 = .ok (.invokevirtual 97, 3) := by decide +kernel
theorem dX6_down_64 : decode cX6_down 64 = .ok (.goto 42, 3) := by decide +kernel
theorem dX6_down_67 : decode cX6_down 67 = .ok (.iload 4, 2) := by decide +kernel
theorem dX6_down_69 : decode cX6_down 69 = .ok (.iconst 5, 1) := by decide +kernel
theorem dX6_down_70 : decode cX6_down 70 = .ok (.if_icmp .ne 13, 3) := by decide +kernel
theorem dX6_down_73 : decode cX6_down 73 = .ok (.aload_n 0, 1) := by decide +kernel
theorem dX6_down_74 : decode cX6_down 74 = .ok (.aload_n 2, 1) := by decide +kernel
theorem dX6_down_75 : decode cX6_down 75 = .ok (.iload 5, 2) := by decide +kernel
theorem dX6_down_77 : decode cX6_down 77 = .ok (.invokevirtual 100, 3) := by decide +kernel
theorem dX6_down_80 : decode cX6_down 80 = .ok (.goto 26, 3) := by decide +kernel
theorem dX6_down_83 : decode cX6_down 83 = .ok (.iload 4, 2) := by decide +kernel
theorem dX6_down_85 : decode cX6_down 85 = .ok (.bipush 6, 2) := by decide +kernel
theorem dX6_down_87 : decode cX6_down 87 = .ok (.if_icmp .ne 13, 3) := by decide +kernel
theorem dX6_down_90 : decode cX6_down 90 = .ok (.aload_n 0, 1) := by decide +kernel
theorem dX6_down_91 : decode cX6_down 91 = .ok (.aload_n 2, 1) := by decide +kernel
theorem dX6_down_92 : decode cX6_down 92 = .ok (.iload 5, 2) := by decide +kernel
theorem dX6_down_94 : decode cX6_down 94 = .ok (.invokevirtual 104, 3) := by decide +kernel
theorem dX6_down_97 : decode cX6_down 97 = .ok (.goto 9, 3) := by decide +kernel
theorem dX6_down_100 : decode cX6_down 100 = .ok (.aload_n 2, 1) := by decide +kernel
theorem dX6_down_101 : decode cX6_down 101 = .ok (.iload 5, 2) := by decide +kernel
theorem dX6_down_103 : decode cX6_down 103 = .ok (.invokevirtual 107, 3) := by decide +kernel
theorem dX6_down_106 : decode cX6_down 106 = .ok (.iload 4, 2) := by decide +kernel
theorem dX6_down_108 : decode cX6_down 108 = .ok (.ireturn, 1) := by decide +kernel
theorem dX6_submit_0 : decode cX6_submit 0 = .ok (.iload_n 1, 1) := by decide +kernel
theorem dX6_submit_1 : decode cX6_submit 1 = .ok (.invokestatic 64, 3) := by decide +kernel
theorem dX6_submit_4 : decode cX6_submit 4 = .ok (.ifCond .eq 13, 3) := by decide +kernel
theorem dX6_submit_7 : decode cX6_submit 7 = .ok (.iload_n 2, 1) := by decide +kernel
theorem dX6_submit_8 : decode cX6_submit 8 = .ok (.iload_n 3, 1) := by decide +kernel
theorem dX6_submit_9 : decode cX6_submit 9 = .ok (.iload 5, 2) := by decide +kernel
theorem dX6_submit_11 : decode cX6_submit 11 = .ok (.invokestatic 110, 3) := by decide +kernel
theorem dX6_submit_14 : decode cX6_submit 14 = .ok (.ifCond .ne 5, 3) := by decide +kernel
theorem dX6_submit_17 : decode cX6_submit 17 = .ok (.iconst (-1), 1) := by decide +kernel
theorem dX6_submit_18 : decode cX6_submit 18 = .ok (.ireturn, 1) := by decide +kernel
theorem dX6_submit_19 : decode cX6_submit 19 = .ok (.aload_n 0, 1) := by decide +kernel
theorem dX6_submit_20 : decode cX6_submit 20 = .ok (.getfield 11, 3) := by decide +kernel
theorem dX6_submit_23 : decode cX6_submit 23 = .ok (.iload_n 1, 1) := by decide +kernel
theorem dX6_submit_24 : decode cX6_submit 24 = .ok (.aaload, 1) := by decide +kernel
theorem dX6_submit_25 : decode cX6_submit 25 = .ok (.astore 6, 2) := by decide +kernel
theorem dX6_submit_27 : decode cX6_submit 27 = .ok (.aload 6, 2) := by decide +kernel
theorem dX6_submit_29 : decode cX6_submit 29 = .ok (.getfield 22, 3) := by decide +kernel
theorem dX6_submit_32 : decode cX6_submit 32 = .ok (.iconst 4, 1) := by decide +kernel
theorem dX6_submit_33 : decode cX6_submit 33 = .ok (.if_icmp .eq 6, 3) := by decide +kernel
theorem dX6_submit_36 : decode cX6_submit 36 = .ok (.bipush (-2), 2) := by decide +kernel
theorem dX6_submit_38 : decode cX6_submit 38 = .ok (.ireturn, 1) := by decide +kernel
theorem dX6_submit_39 : decode cX6_submit 39 = .ok (.aload 6, 2) := by decide +kernel
theorem dX6_submit_41 : decode cX6_submit 41 = .ok (.getfield 114, 3) := by decide +kernel
theorem dX6_submit_44 : decode cX6_submit 44 = .ok (.invokevirtual 118, 3) := by decide +kernel
theorem dX6_submit_47 : decode cX6_submit 47 = .ok (.ifCond .eq 6, 3) := by decide +kernel
theorem dX6_submit_50 : decode cX6_submit 50 = .ok (.bipush (-3), 2) := by decide +kernel
theorem dX6_submit_52 : decode cX6_submit 52 = .ok (.ireturn, 1) := by decide +kernel
theorem dX6_submit_53 : decode cX6_submit 53 = .ok (.aload_n 0, 1) := by decide +kernel
theorem dX6_submit_54 : decode cX6_submit 54 = .ok (.aload 6, 2) := by decide +kernel
theorem dX6_submit_56 : decode cX6_submit 56 = .ok (.iload_n 2, 1) := by decide +kernel
theorem dX6_submit_57 : decode cX6_submit 57 = .ok (.iload_n 3, 1) := by decide +kernel
theorem dX6_submit_58 : decode cX6_submit 58 = .ok (.iload 4, 2) := by decide +kernel
theorem dX6_submit_60 : decode cX6_submit 60 = .ok (.iload 5, 2) := by decide +kernel
theorem dX6_submit_62 : decode cX6_submit 62 = .ok (.invokevirtual 124, 3) := by decide +kernel
theorem dX6_submit_65 : decode cX6_submit 65 = .ok (.aload 6, 2) := by decide +kernel
theorem dX6_submit_67 : decode cX6_submit 67 = .ok (.getfield 114, 3) := by decide +kernel
theorem dX6_submit_70 : decode cX6_submit 70 = .ok (.getfield 128, 3) := by decide +kernel
theorem dX6_submit_73 : decode cX6_submit 73 = .ok (.ireturn, 1) := by decide +kernel
theorem dX6_tick_0 : decode cX6_tick 0 = .ok (.iconst 0, 1) := by decide +kernel
theorem dX6_tick_1 : decode cX6_tick 1 = .ok (.istore_n 1, 1) := by decide +kernel
theorem dX6_tick_2 : decode cX6_tick 2 = .ok (.iconst 0, 1) := by decide +kernel
theorem dX6_tick_3 : decode cX6_tick 3 = .ok (.istore_n 2, 1) := by decide +kernel
theorem dX6_tick_4 : decode cX6_tick 4 = .ok (.iload_n 2, 1) := by decide +kernel
theorem dX6_tick_5 : decode cX6_tick 5 = .ok (.iconst 3, 1) := by decide +kernel
theorem dX6_tick_6 : decode cX6_tick 6 = .ok (.if_icmp .ge 44, 3) := by decide +kernel
theorem dX6_tick_9 : decode cX6_tick 9 = .ok (.aload_n 0, 1) := by decide +kernel
theorem dX6_tick_10 : decode cX6_tick 10 = .ok (.getfield 11, 3) := by decide +kernel
theorem dX6_tick_13 : decode cX6_tick 13 = .ok (.iload_n 2, 1) := by decide +kernel
theorem dX6_tick_14 : decode cX6_tick 14 = .ok (.aaload, 1) := by decide +kernel
theorem dX6_tick_15 : decode cX6_tick 15 = .ok (.getfield 22, 3) := by decide +kernel
theorem dX6_tick_18 : decode cX6_tick 18 = .ok (.iconst 4, 1) := by decide +kernel
theorem dX6_tick_19 : decode cX6_tick 19 = .ok (.if_icmp .ne 25, 3) := by decide +kernel
theorem dX6_tick_22 : decode cX6_tick 22 = .ok (.aload_n 0, 1) := by decide +kernel
theorem dX6_tick_23 : decode cX6_tick 23 = .ok (.getfield 11, 3) := by decide +kernel
theorem dX6_tick_26 : decode cX6_tick 26 = .ok (.iload_n 2, 1) := by decide +kernel
theorem dX6_tick_27 : decode cX6_tick 27 = .ok (.aaload, 1) := by decide +kernel
theorem dX6_tick_28 : decode cX6_tick 28 = .ok (.invokestatic 131, 3) := by decide +kernel
theorem dX6_tick_31 : decode cX6_tick 31 = .ok (.iload_n 1, 1) := by decide +kernel
theorem dX6_tick_32 : decode cX6_tick 32 = .ok (.aload_n 0, 1) := by decide +kernel
theorem dX6_tick_33 : decode cX6_tick 33 = .ok (.aload_n 0, 1) := by decide +kernel
theorem dX6_tick_34 : decode cX6_tick 34 = .ok (.getfield 11, 3) := by decide +kernel
theorem dX6_tick_37 : decode cX6_tick 37 = .ok (.iload_n 2, 1) := by decide +kernel
theorem dX6_tick_38 : decode cX6_tick 38 = .ok (.aaload, 1) := by decide +kernel
theorem dX6_tick_39 : decode cX6_tick 39 = .ok (.invokevirtual 135, 3) := by decide +kernel
theorem dX6_tick_42 : decode cX6_tick 42 = .ok (.iadd, 1) := by decide +kernel
theorem dX6_tick_43 : decode cX6_tick 43 = .ok (.istore_n 1, 1) := by decide +kernel
theorem dX6_tick_44 : decode cX6_tick 44 = .ok (.iinc 2 1, 3) := by decide +kernel
theorem dX6_tick_47 : decode cX6_tick 47 = .ok (.goto (-43), 3) := by decide +kernel
theorem dX6_tick_50 : decode cX6_tick 50 = .ok (.iload_n 1, 1) := by decide +kernel
theorem dX6_tick_51 : decode cX6_tick 51 = .ok (.ireturn, 1) := by decide +kernel
theorem dX6_touch_0 : decode cX6_touch 0 = .ok (.aload_n 0, 1) := by decide +kernel
theorem dX6_touch_1 : decode cX6_touch 1 = .ok (.iload_n 1, 1) := by decide +kernel
theorem dX6_touch_2 : decode cX6_touch 2 = .ok (.iconst 4, 1) := by decide +kernel
theorem dX6_touch_3 : decode cX6_touch 3 = .ok (.invokevirtual 18, 3) := by decide +kernel
theorem dX6_touch_6 : decode cX6_touch 6 = .ok (.ifCond .eq 10, 3) := by decide +kernel
theorem dX6_touch_9 : decode cX6_touch 9 = .ok (.iload_n 2, 1) := by decide +kernel
theorem dX6_touch_10 : decode cX6_touch 10 = .ok (.invokestatic 139, 3) := by decide +kernel
theorem dX6_touch_13 : decode cX6_touch 13 = .ok (.ifCond .ne 5, 3) := by decide +kernel
theorem dX6_touch_16 : decode cX6_touch 16 = .ok (.iconst 0, 1) := by decide +kernel
theorem dX6_touch_17 : decode cX6_touch 17 = .ok (.ireturn, 1) := by decide +kernel
theorem dX6_touch_18 : decode cX6_touch 18 = .ok (.aload_n 0, 1) := by decide +kernel
theorem dX6_touch_19 : decode cX6_touch 19 = .ok (.getfield 11, 3) := by decide +kernel
theorem dX6_touch_22 : decode cX6_touch 22 = .ok (.iload_n 1, 1) := by decide +kernel
theorem dX6_touch_23 : decode cX6_touch 23 = .ok (.aaload, 1) := by decide +kernel
theorem dX6_touch_24 : decode cX6_touch 24 = .ok (.astore_n 3, 1) := by decide +kernel
theorem dX6_touch_25 : decode cX6_touch 25 = .ok (.aload_n 3, 1) := by decide +kernel
theorem dX6_touch_26 : decode cX6_touch 26 = .ok (.getfield 142, 3) := by decide +kernel
theorem dX6_touch_29 : decode cX6_touch 29 = .ok (.iload_n 2, 1) := by decide +kernel
theorem dX6_touch_30 : decode cX6_touch 30 = .ok (.invokevirtual 146, 3) := by decide +kernel
theorem dX6_touch_33 : decode cX6_touch 33 = .ok (.ifCond .ne 5, 3) := by decide +kernel
theorem dX6_touch_36 : decode cX6_touch 36 = .ok (.iconst 0, 1) := by decide +kernel
theorem dX6_touch_37 : decode cX6_touch 37 = .ok (.ireturn, 1) := by decide +kernel
theorem dX6_touch_38 : decode cX6_touch 38 = .ok (.aload_n 3, 1) := by decide +kernel
theorem dX6_touch_39 : decode cX6_touch 39 = .ok (.getfield 26, 3) := by decide +kernel
theorem dX6_touch_42 : decode cX6_touch 42 = .ok (.getfield 151, 3) := by decide +kernel
theorem dX6_touch_45 : decode cX6_touch 45 = .ok (.iload_n 2, 1) := by decide +kernel
theorem dX6_touch_46 : decode cX6_touch 46 = .ok (.iconst 0, 1) := by decide +kernel
theorem dX6_touch_47 : decode cX6_touch 47 = .ok (.iastore, 1) := by decide +kernel
theorem dX6_touch_48 : decode cX6_touch 48 = .ok (.iconst 1, 1) := by decide +kernel
theorem dX6_touch_49 : decode cX6_touch 49 = .ok (.ireturn, 1) := by decide +kernel
theorem dX6_role_0 : decode cX6_role 0 = .ok (.iload_n 1, 1) := by decide +kernel
theorem dX6_role_1 : decode cX6_role 1 = .ok (.invokestatic 64, 3) := by decide +kernel
theorem dX6_role_4 : decode cX6_role 4 = .ok (.ifCond .eq 15, 3) := by decide +kernel
theorem dX6_role_7 : decode cX6_role 7 = .ok (.aload_n 0, 1) := by decide +kernel
theorem dX6_role_8 : decode cX6_role 8 = .ok (.getfield 11, 3) := by decide +kernel
theorem dX6_role_11 : decode cX6_role 11 = .ok (.iload_n 1, 1) := by decide +kernel
theorem dX6_role_12 : decode cX6_role 12 = .ok (.aaload, 1) := by decide +kernel
theorem dX6_role_13 : decode cX6_role 13 = .ok (.getfield 22, 3) := by decide +kernel
theorem dX6_role_16 : decode cX6_role 16 = .ok (.goto 4, 3) := by decide +kernel
theorem dX6_role_19 : decode cX6_role 19 = .ok (.iconst (-1), 1) := by decide +kernel
theorem dX6_role_20 : decode cX6_role 20 = .ok (.ireturn, 1) := by decide +kernel
theorem dX6_promise_0 : decode cX6_promise 0 = .ok (.iload_n 1, 1) := by decide +kernel
theorem dX6_promise_1 : decode cX6_promise 1 = .ok (.invokestatic 64, 3) := by decide +kernel
theorem dX6_promise_4 : decode cX6_promise 4 = .ok (.ifCond .eq 15, 3) := by decide +kernel
theorem dX6_promise_7 : decode cX6_promise 7 = .ok (.aload_n 0, 1) := by decide +kernel
theorem dX6_promise_8 : decode cX6_promise 8 = .ok (.getfield 11, 3) := by decide +kernel
theorem dX6_promise_11 : decode cX6_promise 11 = .ok (.iload_n 1, 1) := by decide +kernel
theorem dX6_promise_12 : decode cX6_promise 12 = .ok (.aaload, 1) := by decide +kernel
theorem dX6_promise_13 : decode cX6_promise 13 = .ok (.getfield 52, 3) := by decide +kernel
theorem dX6_promise_16 : decode cX6_promise 16 = .ok (.goto 4, 3) := by decide +kernel
theorem dX6_promise_19 : decode cX6_promise 19 = .ok (.iconst (-1), 1) := by decide +kernel
theorem dX6_promise_20 : decode cX6_promise 20 = .ok (.ireturn, 1) := by decide +kernel
theorem dX6_epoch_0 : decode cX6_epoch 0 = .ok (.iload_n 1, 1) := by decide +kernel
theorem dX6_epoch_1 : decode cX6_epoch 1 = .ok (.invokestatic 64, 3) := by decide +kernel
theorem dX6_epoch_4 : decode cX6_epoch 4 = .ok (.ifCond .eq 15, 3) := by decide +kernel
theorem dX6_epoch_7 : decode cX6_epoch 7 = .ok (.aload_n 0, 1) := by decide +kernel
theorem dX6_epoch_8 : decode cX6_epoch 8 = .ok (.getfield 11, 3) := by decide +kernel
theorem dX6_epoch_11 : decode cX6_epoch 11 = .ok (.iload_n 1, 1) := by decide +kernel
theorem dX6_epoch_12 : decode cX6_epoch 12 = .ok (.aaload, 1) := by decide +kernel
theorem dX6_epoch_13 : decode cX6_epoch 13 = .ok (.getfield 155, 3) := by decide +kernel
theorem dX6_epoch_16 : decode cX6_epoch 16 = .ok (.goto 4, 3) := by decide +kernel
theorem dX6_epoch_19 : decode cX6_epoch 19 = .ok (.iconst (-1), 1) := by decide +kernel
theorem dX6_epoch_20 : decode cX6_epoch 20 = .ok (.ireturn, 1) := by decide +kernel
theorem dX6_length_0 : decode cX6_length 0 = .ok (.iload_n 1, 1) := by decide +kernel
theorem dX6_length_1 : decode cX6_length 1 = .ok (.invokestatic 64, 3) := by decide +kernel
theorem dX6_length_4 : decode cX6_length 4 = .ok (.ifCond .eq 18, 3) := by decide +kernel
theorem dX6_length_7 : decode cX6_length 7 = .ok (.aload_n 0, 1) := by decide +kernel
theorem dX6_length_8 : decode cX6_length 8 = .ok (.getfield 11, 3) := by decide +kernel
theorem dX6_length_11 : decode cX6_length 11 = .ok (.iload_n 1, 1) := by decide +kernel
theorem dX6_length_12 : decode cX6_length 12 = .ok (.aaload, 1) := by decide +kernel
theorem dX6_length_13 : decode cX6_length 13 = .ok (.getfield 114, 3) := by decide +kernel
theorem dX6_length_16 : decode cX6_length 16 = .ok (.getfield 128, 3) := by decide +kernel
theorem dX6_length_19 : decode cX6_length 19 = .ok (.goto 4, 3) := by decide +kernel
theorem dX6_length_22 : decode cX6_length 22 = .ok (.iconst (-1), 1) := by decide +kernel
theorem dX6_length_23 : decode cX6_length 23 = .ok (.ireturn, 1) := by decide +kernel
theorem dX6_mark_0 : decode cX6_mark 0 = .ok (.iload_n 1, 1) := by decide +kernel
theorem dX6_mark_1 : decode cX6_mark 1 = .ok (.invokestatic 64, 3) := by decide +kernel
theorem dX6_mark_4 : decode cX6_mark 4 = .ok (.ifCond .eq 19, 3) := by decide +kernel
theorem dX6_mark_7 : decode cX6_mark 7 = .ok (.aload_n 0, 1) := by decide +kernel
theorem dX6_mark_8 : decode cX6_mark 8 = .ok (.getfield 11, 3) := by decide +kernel
theorem dX6_mark_11 : decode cX6_mark 11 = .ok (.iload_n 1, 1) := by decide +kernel
theorem dX6_mark_12 : decode cX6_mark 12 = .ok (.aaload, 1) := by decide +kernel
theorem dX6_mark_13 : decode cX6_mark 13 = .ok (.getfield 114, 3) := by decide +kernel
theorem dX6_mark_16 : decode cX6_mark 16 = .ok (.iload_n 2, 1) := by decide +kernel
theorem dX6_mark_17 : decode cX6_mark 17 = .ok (.invokevirtual 158, 3) := by decide +kernel
theorem dX6_mark_20 : decode cX6_mark 20 = .ok (.goto 4, 3) := by decide +kernel
theorem dX6_mark_23 : decode cX6_mark 23 = .ok (.iconst 0, 1) := by decide +kernel
theorem dX6_mark_24 : decode cX6_mark 24 = .ok (.ireturn, 1) := by decide +kernel
theorem dX6_applied_0 : decode cX6_applied 0 = .ok (.iload_n 1, 1) := by decide +kernel
theorem dX6_applied_1 : decode cX6_applied 1 = .ok (.invokestatic 64, 3) := by decide +kernel
theorem dX6_applied_4 : decode cX6_applied 4 = .ok (.ifCond .eq 15, 3) := by decide +kernel
theorem dX6_applied_7 : decode cX6_applied 7 = .ok (.aload_n 0, 1) := by decide +kernel
theorem dX6_applied_8 : decode cX6_applied 8 = .ok (.getfield 11, 3) := by decide +kernel
theorem dX6_applied_11 : decode cX6_applied 11 = .ok (.iload_n 1, 1) := by decide +kernel
theorem dX6_applied_12 : decode cX6_applied 12 = .ok (.aaload, 1) := by decide +kernel
theorem dX6_applied_13 : decode cX6_applied 13 = .ok (.getfield 162, 3) := by decide +kernel
theorem dX6_applied_16 : decode cX6_applied 16 = .ok (.goto 4, 3) := by decide +kernel
theorem dX6_applied_19 : decode cX6_applied 19 = .ok (.iconst (-1), 1) := by decide +kernel
theorem dX6_applied_20 : decode cX6_applied 20 = .ok (.ireturn, 1) := by decide +kernel
theorem dX6_result_0 : decode cX6_result 0 = .ok (.iload_n 1, 1) := by decide +kernel
theorem dX6_result_1 : decode cX6_result 1 = .ok (.invokestatic 64, 3) := by decide +kernel
theorem dX6_result_4 : decode cX6_result 4 = .ok (.ifCond .eq 21, 3) := by decide +kernel
theorem dX6_result_7 : decode cX6_result 7 = .ok (.iload_n 2, 1) := by decide +kernel
theorem dX6_result_8 : decode cX6_result 8 = .ok (.iconst 1, 1) := by decide +kernel
theorem dX6_result_9 : decode cX6_result 9 = .ok (.if_icmp .lt 16, 3) := by decide +kernel
theorem dX6_result_12 : decode cX6_result 12 = .ok (.iload_n 2, 1) := by decide +kernel
theorem dX6_result_13 : decode cX6_result 13 = .ok (.aload_n 0, 1) := by decide +kernel
theorem dX6_result_14 : decode cX6_result 14 = .ok (.getfield 11, 3) := by decide +kernel
theorem dX6_result_17 : decode cX6_result 17 = .ok (.iload_n 1, 1) := by decide +kernel
theorem dX6_result_18 : decode cX6_result 18 = .ok (.aaload, 1) := by decide +kernel
theorem dX6_result_19 : decode cX6_result 19 = .ok (.getfield 162, 3) := by decide +kernel
theorem dX6_result_22 : decode cX6_result 22 = .ok (.if_icmp .le 5, 3) := by decide +kernel
theorem dX6_result_25 : decode cX6_result 25 = .ok (.iconst (-1), 1) := by decide +kernel
theorem dX6_result_26 : decode cX6_result 26 = .ok (.ireturn, 1) := by decide +kernel
theorem dX6_result_27 : decode cX6_result 27 = .ok (.aload_n 0, 1) := by decide +kernel
theorem dX6_result_28 : decode cX6_result 28 = .ok (.getfield 11, 3) := by decide +kernel
theorem dX6_result_31 : decode cX6_result 31 = .ok (.iload_n 1, 1) := by decide +kernel
theorem dX6_result_32 : decode cX6_result 32 = .ok (.aaload, 1) := by decide +kernel
theorem dX6_result_33 : decode cX6_result 33 = .ok (.getfield 165, 3) := by decide +kernel
theorem dX6_result_36 : decode cX6_result 36 = .ok (.iload_n 2, 1) := by decide +kernel
theorem dX6_result_37 : decode cX6_result 37 = .ok (.iconst 1, 1) := by decide +kernel
theorem dX6_result_38 : decode cX6_result 38 = .ok (.isub, 1) := by decide +kernel
theorem dX6_result_39 : decode cX6_result 39 = .ok (.iaload, 1) := by decide +kernel
theorem dX6_result_40 : decode cX6_result 40 = .ok (.ireturn, 1) := by decide +kernel
theorem dX6_node_0 : decode cX6_node 0 = .ok (.iload_n 1, 1) := by decide +kernel
theorem dX6_node_1 : decode cX6_node 1 = .ok (.invokestatic 64, 3) := by decide +kernel
theorem dX6_node_4 : decode cX6_node 4 = .ok (.ifCond .eq 20, 3) := by decide +kernel
theorem dX6_node_7 : decode cX6_node 7 = .ok (.aload_n 0, 1) := by decide +kernel
theorem dX6_node_8 : decode cX6_node 8 = .ok (.getfield 11, 3) := by decide +kernel
theorem dX6_node_11 : decode cX6_node 11 = .ok (.iload_n 1, 1) := by decide +kernel
theorem dX6_node_12 : decode cX6_node 12 = .ok (.aaload, 1) := by decide +kernel
theorem dX6_node_13 : decode cX6_node 13 = .ok (.getfield 142, 3) := by decide +kernel
theorem dX6_node_16 : decode cX6_node 16 = .ok (.iload_n 2, 1) := by decide +kernel
theorem dX6_node_17 : decode cX6_node 17 = .ok (.iload_n 3, 1) := by decide +kernel
theorem dX6_node_18 : decode cX6_node 18 = .ok (.invokevirtual 168, 3) := by decide +kernel
theorem dX6_node_21 : decode cX6_node 21 = .ok (.goto 4, 3) := by decide +kernel
theorem dX6_node_24 : decode cX6_node 24 = .ok (.iconst 0, 1) := by decide +kernel
theorem dX6_node_25 : decode cX6_node 25 = .ok (.ireturn, 1) := by decide +kernel
theorem dX6_tree_0 : decode cX6_tree 0 = .ok (.iload_n 1, 1) := by decide +kernel
theorem dX6_tree_1 : decode cX6_tree 1 = .ok (.invokestatic 64, 3) := by decide +kernel
theorem dX6_tree_4 : decode cX6_tree 4 = .ok (.ifCond .eq 18, 3) := by decide +kernel
theorem dX6_tree_7 : decode cX6_tree 7 = .ok (.aload_n 0, 1) := by decide +kernel
theorem dX6_tree_8 : decode cX6_tree 8 = .ok (.getfield 11, 3) := by decide +kernel
theorem dX6_tree_11 : decode cX6_tree 11 = .ok (.iload_n 1, 1) := by decide +kernel
theorem dX6_tree_12 : decode cX6_tree 12 = .ok (.aaload, 1) := by decide +kernel
theorem dX6_tree_13 : decode cX6_tree 13 = .ok (.getfield 142, 3) := by decide +kernel
theorem dX6_tree_16 : decode cX6_tree 16 = .ok (.invokevirtual 172, 3) := by decide +kernel
theorem dX6_tree_19 : decode cX6_tree 19 = .ok (.goto 4, 3) := by decide +kernel
theorem dX6_tree_22 : decode cX6_tree 22 = .ok (.iconst (-1), 1) := by decide +kernel
theorem dX6_tree_23 : decode cX6_tree 23 = .ok (.ireturn, 1) := by decide +kernel
theorem dX6_waiting_0 : decode cX6_waiting 0 = .ok (.aload_n 0, 1) := by decide +kernel
theorem dX6_waiting_1 : decode cX6_waiting 1 = .ok (.iload_n 1, 1) := by decide +kernel
theorem dX6_waiting_2 : decode cX6_waiting 2 = .ok (.iconst 2, 1) := by decide +kernel
theorem dX6_waiting_3 : decode cX6_waiting 3 = .ok (.invokevirtual 18, 3) := by decide +kernel
theorem dX6_waiting_6 : decode cX6_waiting 6 = .ok (.ifCond .ne 5, 3) := by decide +kernel
theorem dX6_waiting_9 : decode cX6_waiting 9 = .ok (.iconst 0, 1) := by decide +kernel
theorem dX6_waiting_10 : decode cX6_waiting 10 = .ok (.ireturn, 1) := by decide +kernel
theorem dX6_waiting_11 : decode cX6_waiting 11 = .ok (.aload_n 0, 1) := by decide +kernel
theorem dX6_waiting_12 : decode cX6_waiting 12 = .ok (.getfield 11, 3) := by decide +kernel
theorem dX6_waiting_15 : decode cX6_waiting 15 = .ok (.iload_n 1, 1) := by decide +kernel
theorem dX6_waiting_16 : decode cX6_waiting 16 = .ok (.aaload, 1) := by decide +kernel
theorem dX6_waiting_17 : decode cX6_waiting 17 = .ok (.getfield 42, 3) := by decide +kernel
theorem dX6_waiting_20 : decode cX6_waiting 20 = .ok (.astore_n 3, 1) := by decide +kernel
theorem dX6_waiting_21 : decode cX6_waiting 21 = .ok (.iload_n 2, 1) := by decide +kernel
theorem dX6_waiting_22 : decode cX6_waiting 22 = .ok (.ifCond .eq 13, 3) := by decide +kernel
theorem dX6_waiting_25 : decode cX6_waiting 25 = .ok (.aload_n 3, 1) := by decide +kernel
theorem dX6_waiting_26 : decode cX6_waiting 26 = .ok (.getfield 46, 3) := by decide +kernel
theorem dX6_waiting_29 : decode cX6_waiting 29 = .ok (.invokevirtual 70, 3) := by decide +kernel
theorem dX6_waiting_32 : decode cX6_waiting 32 = .ok (.goto 10, 3) := by decide +kernel
theorem dX6_waiting_35 : decode cX6_waiting 35 = .ok (.aload_n 3, 1) := by decide +kernel
theorem dX6_waiting_36 : decode cX6_waiting 36 = .ok (.getfield 94, 3) := by decide +kernel
theorem dX6_waiting_39 : decode cX6_waiting 39 = .ok (.invokevirtual 70, 3) := by decide +kernel
theorem dX6_waiting_42 : decode cX6_waiting 42 = .ok (.ireturn, 1) := by decide +kernel
theorem dX6_isServer_0 : decode cX6_isServer 0 = .ok (.iload_n 0, 1) := by decide +kernel
theorem dX6_isServer_1 : decode cX6_isServer 1 = .ok (.ifCond .lt 12, 3) := by decide +kernel
theorem dX6_isServer_4 : decode cX6_isServer 4 = .ok (.iload_n 0, 1) := by decide +kernel
theorem dX6_isServer_5 : decode cX6_isServer 5 = .ok (.iconst 3, 1) := by decide +kernel
theorem dX6_isServer_6 : decode cX6_isServer 6 = .ok (.if_icmp .ge 7, 3) := by decide +kernel
theorem dX6_isServer_9 : decode cX6_isServer 9 = .ok (.iconst 1, 1) := by decide +kernel
theorem dX6_isServer_10 : decode cX6_isServer 10 = .ok (.goto 4, 3) := by decide +kernel
theorem dX6_isServer_13 : decode cX6_isServer 13 = .ok (.iconst 0, 1) := by decide +kernel
theorem dX6_isServer_14 : decode cX6_isServer 14 = .ok (.ireturn, 1) := by decide +kernel
theorem dX6_isSession_0 : decode cX6_isSession 0 = .ok (.iload_n 0, 1) := by decide +kernel
theorem dX6_isSession_1 : decode cX6_isSession 1 = .ok (.iconst 1, 1) := by decide +kernel
theorem dX6_isSession_2 : decode cX6_isSession 2 = .ok (.if_icmp .lt 12, 3) := by decide +kernel
theorem dX6_isSession_5 : decode cX6_isSession 5 = .ok (.iload_n 0, 1) := by decide +kernel
theorem dX6_isSession_6 : decode cX6_isSession 6 = .ok (.iconst 4, 1) := by decide +kernel
theorem dX6_isSession_7 : decode cX6_isSession 7 = .ok (.if_icmp .gt 7, 3) := by decide +kernel
theorem dX6_isSession_10 : decode cX6_isSession 10 = .ok (.iconst 1, 1) := by decide +kernel
theorem dX6_isSession_11 : decode cX6_isSession 11 = .ok (.goto 4, 3) := by decide +kernel
theorem dX6_isSession_14 : decode cX6_isSession 14 = .ok (.iconst 0, 1) := by decide +kernel
theorem dX6_isSession_15 : decode cX6_isSession 15 = .ok (.ireturn, 1) := by decide +kernel
theorem dX6_isNodePath_0 : decode cX6_isNodePath 0 = .ok (.iload_n 0, 1) := by decide +kernel
theorem dX6_isNodePath_1 : decode cX6_isNodePath 1 = .ok (.iconst 1, 1) := by decide +kernel
theorem dX6_isNodePath_2 : decode cX6_isNodePath 2 = .ok (.if_icmp .lt 10, 3) := by decide +kernel
theorem dX6_isNodePath_5 : decode cX6_isNodePath 5 = .ok (.iload_n 0, 1) := by decide +kernel
theorem dX6_isNodePath_6 : decode cX6_isNodePath 6 = .ok (.sipush 511, 3) := by decide +kernel
theorem dX6_isNodePath_9 : decode cX6_isNodePath 9 = .ok (.if_icmp .le 5, 3) := by decide +kernel
theorem dX6_isNodePath_12 : decode cX6_isNodePath 12 = .ok (.iconst 0, 1) := by decide +kernel
theorem dX6_isNodePath_13 : decode cX6_isNodePath 13 = .ok (.ireturn, 1) := by decide +kernel
theorem dX6_isNodePath_14 : decode cX6_isNodePath 14 = .ok (.iload_n 0, 1) := by decide +kernel
theorem dX6_isNodePath_15 : decode cX6_isNodePath 15 = .ok (.istore_n 1, 1) := by decide +kernel
theorem dX6_isNodePath_16 : decode cX6_isNodePath 16 = .ok (.iload_n 1, 1) := by decide +kernel
theorem dX6_isNodePath_17 : decode cX6_isNodePath 17 = .ok (.ifCond .le 20, 3) := by decide +kernel
theorem dX6_isNodePath_20 : decode cX6_isNodePath 20 = .ok (.iload_n 1, 1) := by decide +kernel
theorem dX6_isNodePath_21 : decode cX6_isNodePath 21 = .ok (.bipush 8, 2) := by decide +kernel
theorem dX6_isNodePath_23 : decode cX6_isNodePath 23 = .ok (.irem, 1) := by decide +kernel
theorem dX6_isNodePath_24 : decode cX6_isNodePath 24 = .ok (.ifCond .ne 5, 3) := by decide +kernel
theorem dX6_isNodePath_27 : decode cX6_isNodePath 27 = .ok (.iconst 0, 1) := by decide +kernel
theorem dX6_isNodePath_28 : decode cX6_isNodePath 28 = .ok (.ireturn, 1) := by decide +kernel
theorem dX6_isNodePath_29 : decode cX6_isNodePath 29 = .ok (.iload_n 1, 1) := by decide +kernel
theorem dX6_isNodePath_30 : decode cX6_isNodePath 30 = .ok (.bipush 8, 2) := by decide +kernel
theorem dX6_isNodePath_32 : decode cX6_isNodePath 32 = .ok (.idiv, 1) := by decide +kernel
theorem dX6_isNodePath_33 : decode cX6_isNodePath 33 = .ok (.istore_n 1, 1) := by decide +kernel
theorem dX6_isNodePath_34 : decode cX6_isNodePath 34 = .ok (.goto (-18), 3) := by decide +kernel
theorem dX6_isNodePath_37 : decode cX6_isNodePath 37 = .ok (.iconst 1, 1) := by decide +kernel
theorem dX6_isNodePath_38 : decode cX6_isNodePath 38 = .ok (.ireturn, 1) := by decide +kernel
theorem dX6_isChange_0 : decode cX6_isChange 0 = .ok (.iload_n 0, 1) := by decide +kernel
theorem dX6_isChange_1 : decode cX6_isChange 1 = .ok (.tableswitch 82 1 5 #[35, 59, 59, 77, 77], 35) := by decide +kernel
theorem dX6_isChange_36 : decode cX6_isChange 36 = .ok (.iload_n 1, 1) := by decide +kernel
theorem dX6_isChange_37 : decode cX6_isChange 37 = .ok (.invokestatic 175, 3) := by decide +kernel
theorem dX6_isChange_40 : decode cX6_isChange 40 = .ok (.ifCond .eq 18, 3) := by decide +kernel
theorem dX6_isChange_43 : decode cX6_isChange 43 = .ok (.iload_n 2, 1) := by decide +kernel
theorem dX6_isChange_44 : decode cX6_isChange 44 = .ok (.ifCond .eq 10, 3) := by decide +kernel
theorem dX6_isChange_47 : decode cX6_isChange 47 = .ok (.iload_n 2, 1) := by decide +kernel
theorem dX6_isChange_48 : decode cX6_isChange 48 = .ok (.invokestatic 139, 3) := by decide +kernel
theorem dX6_isChange_51 : decode cX6_isChange 51 = .ok (.ifCond .eq 7, 3) := by decide +kernel
theorem dX6_isChange_54 : decode cX6_isChange 54 = .ok (.iconst 1, 1) := by decide +kernel
theorem dX6_isChange_55 : decode cX6_isChange 55 = .ok (.goto 4, 3) := by decide +kernel
theorem dX6_isChange_58 : decode cX6_isChange 58 = .ok (.iconst 0, 1) := by decide +kernel
theorem dX6_isChange_59 : decode cX6_isChange 59 = .ok (.ireturn, 1) := by decide +kernel
theorem dX6_isChange_60 : decode cX6_isChange 60 = .ok (.iload_n 1, 1) := by decide +kernel
theorem dX6_isChange_61 : decode cX6_isChange 61 = .ok (.invokestatic 175, 3) := by decide +kernel
theorem dX6_isChange_64 : decode cX6_isChange 64 = .ok (.ifCond .eq 12, 3) := by decide +kernel
theorem dX6_isChange_67 : decode cX6_isChange 67 = .ok (.iload_n 2, 1) := by decide +kernel
theorem dX6_isChange_68 : decode cX6_isChange 68 = .ok (.iconst (-1), 1) := by decide +kernel
theorem dX6_isChange_69 : decode cX6_isChange 69 = .ok (.if_icmp .lt 7, 3) := by decide +kernel
theorem dX6_isChange_72 : decode cX6_isChange 72 = .ok (.iconst 1, 1) := by decide +kernel
theorem dX6_isChange_73 : decode cX6_isChange 73 = .ok (.goto 4, 3) := by decide +kernel
theorem dX6_isChange_76 : decode cX6_isChange 76 = .ok (.iconst 0, 1) := by decide +kernel
theorem dX6_isChange_77 : decode cX6_isChange 77 = .ok (.ireturn, 1) := by decide +kernel
theorem dX6_isChange_78 : decode cX6_isChange 78 = .ok (.iload_n 2, 1) := by decide +kernel
theorem dX6_isChange_79 : decode cX6_isChange 79 = .ok (.invokestatic 139, 3) := by decide +kernel
theorem dX6_isChange_82 : decode cX6_isChange 82 = .ok (.ireturn, 1) := by decide +kernel
theorem dX6_isChange_83 : decode cX6_isChange 83 = .ok (.iconst 0, 1) := by decide +kernel
theorem dX6_isChange_84 : decode cX6_isChange 84 = .ok (.ireturn, 1) := by decide +kernel
theorem dX6_hasRole_0 : decode cX6_hasRole 0 = .ok (.iload_n 1, 1) := by decide +kernel
theorem dX6_hasRole_1 : decode cX6_hasRole 1 = .ok (.invokestatic 64, 3) := by decide +kernel
theorem dX6_hasRole_4 : decode cX6_hasRole 4 = .ok (.ifCond .eq 20, 3) := by decide +kernel
theorem dX6_hasRole_7 : decode cX6_hasRole 7 = .ok (.aload_n 0, 1) := by decide +kernel
theorem dX6_hasRole_8 : decode cX6_hasRole 8 = .ok (.getfield 11, 3) := by decide +kernel
theorem dX6_hasRole_11 : decode cX6_hasRole 11 = .ok (.iload_n 1, 1) := by decide +kernel
theorem dX6_hasRole_12 : decode cX6_hasRole 12 = .ok (.aaload, 1) := by decide +kernel
theorem dX6_hasRole_13 : decode cX6_hasRole 13 = .ok (.getfield 22, 3) := by decide +kernel
theorem dX6_hasRole_16 : decode cX6_hasRole 16 = .ok (.iload_n 2, 1) := by decide +kernel
theorem dX6_hasRole_17 : decode cX6_hasRole 17 = .ok (.if_icmp .ne 7, 3) := by decide +kernel
theorem dX6_hasRole_20 : decode cX6_hasRole 20 = .ok (.iconst 1, 1) := by decide +kernel
theorem dX6_hasRole_21 : decode cX6_hasRole 21 = .ok (.goto 4, 3) := by decide +kernel
theorem dX6_hasRole_24 : decode cX6_hasRole 24 = .ok (.iconst 0, 1) := by decide +kernel
theorem dX6_hasRole_25 : decode cX6_hasRole 25 = .ok (.ireturn, 1) := by decide +kernel
theorem dX6_leads_0 : decode cX6_leads 0 = .ok (.aload_n 0, 1) := by decide +kernel
theorem dX6_leads_1 : decode cX6_leads 1 = .ok (.iload_n 1, 1) := by decide +kernel
theorem dX6_leads_2 : decode cX6_leads 2 = .ok (.iconst 3, 1) := by decide +kernel
theorem dX6_leads_3 : decode cX6_leads 3 = .ok (.invokevirtual 18, 3) := by decide +kernel
theorem dX6_leads_6 : decode cX6_leads 6 = .ok (.ifCond .ne 12, 3) := by decide +kernel
theorem dX6_leads_9 : decode cX6_leads 9 = .ok (.aload_n 0, 1) := by decide +kernel
theorem dX6_leads_10 : decode cX6_leads 10 = .ok (.iload_n 1, 1) := by decide +kernel
theorem dX6_leads_11 : decode cX6_leads 11 = .ok (.iconst 4, 1) := by decide +kernel
theorem dX6_leads_12 : decode cX6_leads 12 = .ok (.invokevirtual 18, 3) := by decide +kernel
theorem dX6_leads_15 : decode cX6_leads 15 = .ok (.ifCond .eq 7, 3) := by decide +kernel
theorem dX6_leads_18 : decode cX6_leads 18 = .ok (.iconst 1, 1) := by decide +kernel
theorem dX6_leads_19 : decode cX6_leads 19 = .ok (.goto 4, 3) := by decide +kernel
theorem dX6_leads_22 : decode cX6_leads 22 = .ok (.iconst 0, 1) := by decide +kernel
theorem dX6_leads_23 : decode cX6_leads 23 = .ok (.ireturn, 1) := by decide +kernel
theorem dX6_isFollowerOf_0 : decode cX6_isFollowerOf 0 = .ok (.aload_n 0, 1) := by decide +kernel
theorem dX6_isFollowerOf_1 : decode cX6_isFollowerOf 1 = .ok (.getfield 22, 3) := by decide +kernel
theorem dX6_isFollowerOf_4 : decode cX6_isFollowerOf 4 = .ok (.iconst 2, 1) := by decide +kernel
theorem dX6_isFollowerOf_5 : decode cX6_isFollowerOf 5 = .ok (.if_icmp .ne 18, 3) := by decide +kernel
theorem dX6_isFollowerOf_8 : decode cX6_isFollowerOf 8 = .ok (.aload_n 0, 1) := by decide +kernel
theorem dX6_isFollowerOf_9 : decode cX6_isFollowerOf 9 = .ok (.getfield 39, 3) := by decide +kernel
theorem dX6_isFollowerOf_12 : decode cX6_isFollowerOf 12 = .ok (.aload_n 1, 1) := by decide +kernel
theorem dX6_isFollowerOf_13 : decode cX6_isFollowerOf 13 = .ok (.getfield 178, 3) := by decide +kernel
theorem dX6_isFollowerOf_16 : decode cX6_isFollowerOf 16 = .ok (.if_icmp .ne 7, 3) := by decide +kernel
theorem dX6_isFollowerOf_19 : decode cX6_isFollowerOf 19 = .ok (.iconst 1, 1) := by decide +kernel
theorem dX6_isFollowerOf_20 : decode cX6_isFollowerOf 20 = .ok (.goto 4, 3) := by decide +kernel
theorem dX6_isFollowerOf_23 : decode cX6_isFollowerOf 23 = .ok (.iconst 0, 1) := by decide +kernel
theorem dX6_isFollowerOf_24 : decode cX6_isFollowerOf 24 = .ok (.ireturn, 1) := by decide +kernel
theorem dX6_stopTo_0 : decode cX6_stopTo 0 = .ok (.aload_n 0, 1) := by decide +kernel
theorem dX6_stopTo_1 : decode cX6_stopTo 1 = .ok (.getfield 11, 3) := by decide +kernel
theorem dX6_stopTo_4 : decode cX6_stopTo 4 = .ok (.iload_n 1, 1) := by decide +kernel
theorem dX6_stopTo_5 : decode cX6_stopTo 5 = .ok (.aaload, 1) := by decide +kernel
theorem dX6_stopTo_6 : decode cX6_stopTo 6 = .ok (.astore_n 3, 1) := by decide +kernel
theorem dX6_stopTo_7 : decode cX6_stopTo 7 = .ok (.iconst 0, 1) := by decide +kernel
theorem dX6_stopTo_8 : decode cX6_stopTo 8 = .ok (.istore 4, 2) := by decide +kernel
theorem dX6_stopTo_10 : decode cX6_stopTo 10 = .ok (.iload 4, 2) := by decide +kernel
theorem dX6_stopTo_12 : decode cX6_stopTo 12 = .ok (.iconst 3, 1) := by decide +kernel
theorem dX6_stopTo_13 : decode cX6_stopTo 13 = .ok (.if_icmp .ge 47, 3) := by decide +kernel
theorem dX6_stopTo_16 : decode cX6_stopTo 16 = .ok (.aload_n 0, 1) := by decide +kernel
theorem dX6_stopTo_17 : decode cX6_stopTo 17 = .ok (.getfield 11, 3) := by decide +kernel
theorem dX6_stopTo_20 : decode cX6_stopTo 20 = .ok (.iload 4, 2) := by decide +kernel
theorem dX6_stopTo_22 : decode cX6_stopTo 22 = .ok (.aaload, 1) := by decide +kernel
theorem dX6_stopTo_23 : decode cX6_stopTo 23 = .ok (.aload_n 3, 1) := by decide +kernel
theorem dX6_stopTo_24 : decode cX6_stopTo 24 = .ok (.invokestatic 181, 3) := by decide +kernel
theorem dX6_stopTo_27 : decode cX6_stopTo 27 = .ok (.ifCond .eq 27, 3) := by decide +kernel
theorem dX6_stopTo_30 : decode cX6_stopTo 30 = .ok (.aload_n 0, 1) := by decide +kernel
theorem dX6_stopTo_31 : decode cX6_stopTo 31 = .ok (.getfield 11, 3) := by decide +kernel
theorem dX6_stopTo_34 : decode cX6_stopTo 34 = .ok (.iload 4, 2) := by decide +kernel
theorem dX6_stopTo_36 : decode cX6_stopTo 36 = .ok (.aaload, 1) := by decide +kernel
theorem dX6_stopTo_37 : decode cX6_stopTo 37 = .ok (.getfield 42, 3) := by decide +kernel
theorem dX6_stopTo_40 : decode cX6_stopTo 40 = .ok (.invokevirtual 185, 3) := by decide +kernel
theorem dX6_stopTo_43 : decode cX6_stopTo 43 = .ok (.aload_n 0, 1) := by decide +kernel
theorem dX6_stopTo_44 : decode cX6_stopTo 44 = .ok (.getfield 11, 3) := by decide +kernel
theorem dX6_stopTo_47 : decode cX6_stopTo 47 = .ok (.iload 4, 2) := by decide +kernel
theorem dX6_stopTo_49 : decode cX6_stopTo 49 = .ok (.aaload, 1) := by decide +kernel
theorem dX6_stopTo_50 : decode cX6_stopTo 50 = .ok (.iconst 1, 1) := by decide +kernel
theorem dX6_stopTo_51 : decode cX6_stopTo 51 = .ok (.putfield 22, 3) := by decide +kernel
theorem dX6_stopTo_54 : decode cX6_stopTo 54 = .ok (.iinc 4 1, 3) := by decide +kernel
theorem dX6_stopTo_57 : decode cX6_stopTo 57 = .ok (.goto (-47), 3) := by decide +kernel
theorem dX6_stopTo_60 : decode cX6_stopTo 60 = .ok (.aload_n 3, 1) := by decide +kernel
theorem dX6_stopTo_61 : decode cX6_stopTo 61 = .ok (.getfield 42, 3) := by decide +kernel
theorem dX6_stopTo_64 : decode cX6_stopTo 64 = .ok (.invokevirtual 185, 3) := by decide +kernel
theorem dX6_stopTo_67 : decode cX6_stopTo 67 = .ok (.aload_n 3, 1) := by decide +kernel
theorem dX6_stopTo_68 : decode cX6_stopTo 68 = .ok (.iload_n 2, 1) := by decide +kernel
theorem dX6_stopTo_69 : decode cX6_stopTo 69 = .ok (.putfield 22, 3) := by decide +kernel
theorem dX6_stopTo_72 : decode cX6_stopTo 72 = .ok (.return_, 1) := by decide +kernel
theorem dX6_readJoin_0 : decode cX6_readJoin 0 = .ok (.aload_n 0, 1) := by decide +kernel
theorem dX6_readJoin_1 : decode cX6_readJoin 1 = .ok (.getfield 26, 3) := by decide +kernel
theorem dX6_readJoin_4 : decode cX6_readJoin 4 = .ok (.getfield 188, 3) := by decide +kernel
theorem dX6_readJoin_7 : decode cX6_readJoin 7 = .ok (.ifCond .ne 25, 3) := by decide +kernel
theorem dX6_readJoin_10 : decode cX6_readJoin 10 = .ok (.aload_n 0, 1) := by decide +kernel
theorem dX6_readJoin_11 : decode cX6_readJoin 11 = .ok (.getfield 26, 3) := by decide +kernel
theorem dX6_readJoin_14 : decode cX6_readJoin 14 = .ok (.iconst 1, 1) := by decide +kernel
theorem dX6_readJoin_15 : decode cX6_readJoin 15 = .ok (.putfield 188, 3) := by decide +kernel
theorem dX6_readJoin_18 : decode cX6_readJoin 18 = .ok (.aload_n 0, 1) := by decide +kernel
theorem dX6_readJoin_19 : decode cX6_readJoin 19 = .ok (.iload_n 2, 1) := by decide +kernel
theorem dX6_readJoin_20 : decode cX6_readJoin 20 = .ok (.aload_n 0, 1) := by decide +kernel
theorem dX6_readJoin_21 : decode cX6_readJoin 21 = .ok (.getfield 52, 3) := by decide +kernel
theorem dX6_readJoin_24 : decode cX6_readJoin 24 = .ok (.invokestatic 192, 3) := by decide +kernel
theorem dX6_readJoin_27 : decode cX6_readJoin 27 = .ok (.iconst 1, 1) := by decide +kernel
theorem dX6_readJoin_28 : decode cX6_readJoin 28 = .ok (.iadd, 1) := by decide +kernel
theorem dX6_readJoin_29 : decode cX6_readJoin 29 = .ok (.putfield 52, 3) := by decide +kernel
theorem dX6_readJoin_32 : decode cX6_readJoin 32 = .ok (.aload_n 1, 1) := by decide +kernel
theorem dX6_readJoin_33 : decode cX6_readJoin 33 = .ok (.getfield 42, 3) := by decide +kernel
theorem dX6_readJoin_36 : decode cX6_readJoin 36 = .ok (.getfield 94, 3) := by decide +kernel
theorem dX6_readJoin_39 : decode cX6_readJoin 39 = .ok (.iconst 4, 1) := by decide +kernel
theorem dX6_readJoin_40 : decode cX6_readJoin 40 = .ok (.aload_n 0, 1) := by decide +kernel
theorem dX6_readJoin_41 : decode cX6_readJoin 41 = .ok (.getfield 52, 3) := by decide +kernel
theorem dX6_readJoin_44 : decode cX6_readJoin 44 = .ok (.invokevirtual 55, 3) := by decide +kernel
theorem dX6_readJoin_47 : decode cX6_readJoin 47 = .ok (.return_, 1) := by decide +kernel
theorem dX6_readAccepted_0 : decode cX6_readAccepted 0 = .ok (.aload_n 1, 1) := by decide +kernel
theorem dX6_readAccepted_1 : decode cX6_readAccepted 1 = .ok (.getfield 26, 3) := by decide +kernel
theorem dX6_readAccepted_4 : decode cX6_readAccepted 4 = .ok (.getfield 197, 3) := by decide +kernel
theorem dX6_readAccepted_7 : decode cX6_readAccepted 7 = .ok (.ifCond .eq 11, 3) := by decide +kernel
theorem dX6_readAccepted_10 : decode cX6_readAccepted 10 = .ok (.aload_n 1, 1) := by decide +kernel
theorem dX6_readAccepted_11 : decode cX6_readAccepted 11 = .ok (.aload_n 2, 1) := by decide +kernel
theorem dX6_readAccepted_12 : decode cX6_readAccepted 12 = .ok (.invokestatic 200, 3) := by decide +kernel
theorem dX6_readAccepted_15 : decode cX6_readAccepted 15 = .ok (.goto 33, 3) := by decide +kernel
theorem dX6_readAccepted_18 : decode cX6_readAccepted 18 = .ok (.iload_n 3, 1) := by decide +kernel
theorem dX6_readAccepted_19 : decode cX6_readAccepted 19 = .ok (.ifCond .eq 21, 3) := by decide +kernel
theorem dX6_readAccepted_22 : decode cX6_readAccepted 22 = .ok (.aload_n 1, 1) := by decide +kernel
theorem dX6_readAccepted_23 : decode cX6_readAccepted 23 = .ok (.aload_n 2, 1) := by decide +kernel
theorem dX6_readAccepted_24 : decode cX6_readAccepted 24 = .ok (.invokestatic 204, 3) := by decide +kernel
theorem dX6_readAccepted_27 : decode cX6_readAccepted 27 = .ok (.aload_n 1, 1) := by decide +kernel
theorem dX6_readAccepted_28 : decode cX6_readAccepted 28 = .ok (.aload_n 2, 1) := by decide +kernel
theorem dX6_readAccepted_29 : decode cX6_readAccepted 29 = .ok (.invokestatic 200, 3) := by decide +kernel
theorem dX6_readAccepted_32 : decode cX6_readAccepted 32 = .ok (.aload_n 0, 1) := by decide +kernel
theorem dX6_readAccepted_33 : decode cX6_readAccepted 33 = .ok (.aload_n 1, 1) := by decide +kernel
theorem dX6_readAccepted_34 : decode cX6_readAccepted 34 = .ok (.invokevirtual 207, 3) := by decide +kernel
theorem dX6_readAccepted_37 : decode cX6_readAccepted 37 = .ok (.goto 11, 3) := by decide +kernel
theorem dX6_readAccepted_40 : decode cX6_readAccepted 40 = .ok (.aload_n 2, 1) := by decide +kernel
theorem dX6_readAccepted_41 : decode cX6_readAccepted 41 = .ok (.getfield 42, 3) := by decide +kernel
theorem dX6_readAccepted_44 : decode cX6_readAccepted 44 = .ok (.iconst 1, 1) := by decide +kernel
theorem dX6_readAccepted_45 : decode cX6_readAccepted 45 = .ok (.putfield 210, 3) := by decide +kernel
theorem dX6_readAccepted_48 : decode cX6_readAccepted 48 = .ok (.return_, 1) := by decide +kernel
theorem dX6_chooseList_0 : decode cX6_chooseList 0 = .ok (.aload_n 1, 1) := by decide +kernel
theorem dX6_chooseList_1 : decode cX6_chooseList 1 = .ok (.getfield 155, 3) := by decide +kernel
theorem dX6_chooseList_4 : decode cX6_chooseList 4 = .ok (.aload_n 0, 1) := by decide +kernel
theorem dX6_chooseList_5 : decode cX6_chooseList 5 = .ok (.getfield 155, 3) := by decide +kernel
theorem dX6_chooseList_8 : decode cX6_chooseList 8 = .ok (.if_icmp .ne 7, 3) := by decide +kernel
theorem dX6_chooseList_11 : decode cX6_chooseList 11 = .ok (.iconst 1, 1) := by decide +kernel
theorem dX6_chooseList_12 : decode cX6_chooseList 12 = .ok (.goto 4, 3) := by decide +kernel
theorem dX6_chooseList_15 : decode cX6_chooseList 15 = .ok (.iconst 0, 1) := by decide +kernel
theorem dX6_chooseList_16 : decode cX6_chooseList 16 = .ok (.istore_n 2, 1) := by decide +kernel
theorem dX6_chooseList_17 : decode cX6_chooseList 17 = .ok (.aload_n 1, 1) := by decide +kernel
theorem dX6_chooseList_18 : decode cX6_chooseList 18 = .ok (.getfield 114, 3) := by decide +kernel
theorem dX6_chooseList_21 : decode cX6_chooseList 21 = .ok (.invokevirtual 213, 3) := by decide +kernel
theorem dX6_chooseList_24 : decode cX6_chooseList 24 = .ok (.aload_n 0, 1) := by decide +kernel
theorem dX6_chooseList_25 : decode cX6_chooseList 25 = .ok (.getfield 114, 3) := by decide +kernel
theorem dX6_chooseList_28 : decode cX6_chooseList 28 = .ok (.invokevirtual 213, 3) := by decide +kernel
theorem dX6_chooseList_31 : decode cX6_chooseList 31 = .ok (.if_icmp .le 7, 3) := by decide +kernel
theorem dX6_chooseList_34 : decode cX6_chooseList 34 = .ok (.iconst 1, 1) := by decide +kernel
theorem dX6_chooseList_35 : decode cX6_chooseList 35 = .ok (.goto 4, 3) := by decide +kernel
theorem dX6_chooseList_38 : decode cX6_chooseList 38 = .ok (.iconst 0, 1) := by decide +kernel
theorem dX6_chooseList_39 : decode cX6_chooseList 39 = .ok (.istore_n 3, 1) := by decide +kernel
theorem dX6_chooseList_40 : decode cX6_chooseList 40 = .ok (.aload_n 1, 1) := by decide +kernel
theorem dX6_chooseList_41 : decode cX6_chooseList 41 = .ok (.getfield 155, 3) := by decide +kernel
theorem dX6_chooseList_44 : decode cX6_chooseList 44 = .ok (.aload_n 0, 1) := by decide +kernel
theorem dX6_chooseList_45 : decode cX6_chooseList 45 = .ok (.getfield 155, 3) := by decide +kernel
theorem dX6_chooseList_48 : decode cX6_chooseList 48 = .ok (.if_icmp .gt 11, 3) := by decide +kernel
theorem dX6_chooseList_51 : decode cX6_chooseList 51 = .ok (.iload_n 2, 1) := by decide +kernel
theorem dX6_chooseList_52 : decode cX6_chooseList 52 = .ok (.ifCond .eq 25, 3) := by decide +kernel
theorem dX6_chooseList_55 : decode cX6_chooseList 55 = .ok (.iload_n 3, 1) := by decide +kernel
theorem dX6_chooseList_56 : decode cX6_chooseList 56 = .ok (.ifCond .eq 21, 3) := by decide +kernel
theorem dX6_chooseList_59 : decode cX6_chooseList 59 = .ok (.aload_n 0, 1) := by decide +kernel
theorem dX6_chooseList_60 : decode cX6_chooseList 60 = .ok (.getfield 114, 3) := by decide +kernel
theorem dX6_chooseList_63 : decode cX6_chooseList 63 = .ok (.aload_n 1, 1) := by decide +kernel
theorem dX6_chooseList_64 : decode cX6_chooseList 64 = .ok (.getfield 114, 3) := by decide +kernel
theorem dX6_chooseList_67 : decode cX6_chooseList 67 = .ok (.aload_n 1, 1) := by decide +kernel
theorem dX6_chooseList_68 : decode cX6_chooseList 68 = .ok (.getfield 114, 3) := by decide +kernel
theorem dX6_chooseList_71 : decode cX6_chooseList 71 = .ok (.getfield 128, 3) := by decide +kernel
theorem dX6_chooseList_74 : decode cX6_chooseList 74 = .ok (.invokevirtual 216, 3) := by decide +kernel
theorem dX6_chooseList_77 : decode cX6_chooseList 77 = .ok (.aload_n 0, 1) := by decide +kernel
theorem dX6_chooseList_78 : decode cX6_chooseList 78 = .ok (.aload_n 0, 1) := by decide +kernel
theorem dX6_chooseList_79 : decode cX6_chooseList 79 = .ok (.getfield 52, 3) := by decide +kernel
theorem dX6_chooseList_82 : decode cX6_chooseList 82 = .ok (.putfield 155, 3) := by decide +kernel
theorem dX6_chooseList_85 : decode cX6_chooseList 85 = .ok (.aload_n 0, 1) := by decide +kernel
theorem dX6_chooseList_86 : decode cX6_chooseList 86 = .ok (.getfield 26, 3) := by decide +kernel
theorem dX6_chooseList_89 : decode cX6_chooseList 89 = .ok (.iconst 1, 1) := by decide +kernel
theorem dX6_chooseList_90 : decode cX6_chooseList 90 = .ok (.putfield 197, 3) := by decide +kernel
theorem dX6_chooseList_93 : decode cX6_chooseList 93 = .ok (.return_, 1) := by decide +kernel
theorem dX6_sendNewLeader_0 : decode cX6_sendNewLeader 0 = .ok (.aload_n 1, 1) := by decide +kernel
theorem dX6_sendNewLeader_1 : decode cX6_sendNewLeader 1 = .ok (.getfield 42, 3) := by decide +kernel
theorem dX6_sendNewLeader_4 : decode cX6_sendNewLeader 4 = .ok (.iconst 1, 1) := by decide +kernel
theorem dX6_sendNewLeader_5 : decode cX6_sendNewLeader 5 = .ok (.putfield 220, 3) := by decide +kernel
theorem dX6_sendNewLeader_8 : decode cX6_sendNewLeader 8 = .ok (.aload_n 1, 1) := by decide +kernel
theorem dX6_sendNewLeader_9 : decode cX6_sendNewLeader 9 = .ok (.getfield 42, 3) := by decide +kernel
theorem dX6_sendNewLeader_12 : decode cX6_sendNewLeader 12 = .ok (.iconst 0, 1) := by decide +kernel
theorem dX6_sendNewLeader_13 : decode cX6_sendNewLeader 13 = .ok (.putfield 210, 3) := by decide +kernel
theorem dX6_sendNewLeader_16 : decode cX6_sendNewLeader 16 = .ok (.aload_n 1, 1) := by decide +kernel
theorem dX6_sendNewLeader_17 : decode cX6_sendNewLeader 17 = .ok (.getfield 42, 3) := by decide +kernel
theorem dX6_sendNewLeader_20 : decode cX6_sendNewLeader 20 = .ok (.getfield 94, 3) := by decide +kernel
theorem dX6_sendNewLeader_23 : decode cX6_sendNewLeader 23 = .ok (.iconst 5, 1) := by decide +kernel
theorem dX6_sendNewLeader_24 : decode cX6_sendNewLeader 24 = .ok (.aload_n 0, 1) := by decide +kernel
theorem dX6_sendNewLeader_25 : decode cX6_sendNewLeader 25 = .ok (.getfield 114, 3) := by decide +kernel
theorem dX6_sendNewLeader_28 : decode cX6_sendNewLeader 28 = .ok (.getfield 128, 3) := by decide +kernel
theorem dX6_sendNewLeader_31 : decode cX6_sendNewLeader 31 = .ok (.invokevirtual 55, 3) := by decide +kernel
theorem dX6_sendNewLeader_34 : decode cX6_sendNewLeader 34 = .ok (.return_, 1) := by decide +kernel
theorem dX6_sendNewLeaderToWaiting_0 : decode cX6_sendNewLeaderToWaiting 0 = .ok (.iconst 0, 1) := by decide +kernel
theorem dX6_sendNewLeaderToWaiting_1 : decode cX6_sendNewLeaderToWaiting 1 = .ok (.istore_n 2, 1) := by decide +kernel
theorem dX6_sendNewLeaderToWaiting_2 : decode cX6_sendNewLeaderToWaiting 2 = .ok (.iload_n 2, 1) := by decide +kernel
theorem dX6_sendNewLeaderToWaiting_3 : decode cX6_sendNewLeaderToWaiting 3 = .ok (.iconst 3, 1) := by decide +kernel
theorem dX6_sendNewLeaderToWaiting_4 : decode cX6_sendNewLeaderToWaiting 4 = .ok (.if_icmp .ge 47, 3) := by decide +kernel
theorem dX6_sendNewLeaderToWaiting_7 : decode cX6_sendNewLeaderToWaiting 7 = .ok (.aload_n 0, 1) := by decide +kernel
theorem dX6_sendNewLeaderToWaiting_8 : decode cX6_sendNewLeaderToWaiting 8 = .ok (.getfield 11, 3) := by decide +kernel
theorem dX6_sendNewLeaderToWaiting_11 : decode cX6_sendNewLeaderToWaiting 11 = .ok (.iload_n 2, 1) := by decide +kernel
theorem dX6_sendNewLeaderToWaiting_12 : decode cX6_sendNewLeaderToWaiting 12 = .ok (.aaload, 1) := by decide +kernel
theorem dX6_sendNewLeaderToWaiting_13 : decode cX6_sendNewLeaderToWaiting 13 = .ok (.aload_n 1, 1) := by decide +kernel
theorem dX6_sendNewLeaderToWaiting_14 : decode cX6_sendNewLeaderToWaiting 14 = .ok (.invokestatic 181, 3) := by decide +kernel
theorem dX6_sendNewLeaderToWaiting_17 : decode cX6_sendNewLeaderToWaiting 17 = .ok (.ifCond .eq 28, 3) := by decide +kernel
theorem dX6_sendNewLeaderToWaiting_20 : decode cX6_sendNewLeaderToWaiting 20 = .ok (.aload_n 0, 1) := by decide +kernel
theorem dX6_sendNewLeaderToWaiting_21 : decode cX6_sendNewLeaderToWaiting 21 = .ok (.getfield 11, 3) := by decide +kernel
theorem dX6_sendNewLeaderToWaiting_24 : decode cX6_sendNewLeaderToWaiting 24 = .ok (.iload_n 2, 1) := by decide +kernel
theorem dX6_sendNewLeaderToWaiting_25 : decode cX6_sendNewLeaderToWaiting 25 = .ok (.aaload, 1) := by decide +kernel
theorem dX6_sendNewLeaderToWaiting_26 : decode cX6_sendNewLeaderToWaiting 26 = .ok (.getfield 42, 3) := by decide +kernel
theorem dX6_sendNewLeaderToWaiting_29 : decode cX6_sendNewLeaderToWaiting 29 = .ok (.getfield 210, 3) := by decide +kernel
theorem dX6_sendNewLeaderToWaiting_32 : decode cX6_sendNewLeaderToWaiting 32 = .ok (.ifCond .eq 13, 3) := by decide +kernel
theorem dX6_sendNewLeaderToWaiting_35 : decode cX6_sendNewLeaderToWaiting 35 = .ok (.aload_n 1, 1) := by decide +kernel
theorem dX6_sendNewLeaderToWaiting_36 : decode cX6_sendNewLeaderToWaiting 36 = .ok (.aload_n 0, 1) := by decide +kernel
theorem dX6_sendNewLeaderToWaiting_37 : decode cX6_sendNewLeaderToWaiting 37 = .ok (.getfield 11, 3) := by decide +kernel
theorem dX6_sendNewLeaderToWaiting_40 : decode cX6_sendNewLeaderToWaiting 40 = .ok (.iload_n 2, 1) := by decide +kernel
theorem dX6_sendNewLeaderToWaiting_41 : decode cX6_sendNewLeaderToWaiting 41 = .ok (.aaload, 1) := by decide +kernel
theorem dX6_sendNewLeaderToWaiting_42 : decode cX6_sendNewLeaderToWaiting 42 = .ok (.invokestatic 200, 3) := by decide +kernel
theorem dX6_sendNewLeaderToWaiting_45 : decode cX6_sendNewLeaderToWaiting 45 = .ok (.iinc 2 1, 3) := by decide +kernel
theorem dX6_sendNewLeaderToWaiting_48 : decode cX6_sendNewLeaderToWaiting 48 = .ok (.goto (-46), 3) := by decide +kernel
theorem dX6_sendNewLeaderToWaiting_51 : decode cX6_sendNewLeaderToWaiting 51 = .ok (.return_, 1) := by decide +kernel
theorem dX6_readAck_0 : decode cX6_readAck 0 = .ok (.aload_n 1, 1) := by decide +kernel
theorem dX6_readAck_1 : decode cX6_readAck 1 = .ok (.getfield 22, 3) := by decide +kernel
theorem dX6_readAck_4 : decode cX6_readAck 4 = .ok (.iconst 3, 1) := by decide +kernel
theorem dX6_readAck_5 : decode cX6_readAck 5 = .ok (.if_icmp .ne 19, 3) := by decide +kernel
theorem dX6_readAck_8 : decode cX6_readAck 8 = .ok (.aload_n 1, 1) := by decide +kernel
theorem dX6_readAck_9 : decode cX6_readAck 9 = .ok (.iconst 4, 1) := by decide +kernel
theorem dX6_readAck_10 : decode cX6_readAck 10 = .ok (.putfield 22, 3) := by decide +kernel
theorem dX6_readAck_13 : decode cX6_readAck 13 = .ok (.aload_n 1, 1) := by decide +kernel
theorem dX6_readAck_14 : decode cX6_readAck 14 = .ok (.getfield 26, 3) := by decide +kernel
theorem dX6_readAck_17 : decode cX6_readAck 17 = .ok (.getfield 151, 3) := by decide +kernel
theorem dX6_readAck_20 : decode cX6_readAck 20 = .ok (.iconst 0, 1) := by decide +kernel
theorem dX6_readAck_21 : decode cX6_readAck 21 = .ok (.invokestatic 223, 3) := by decide +kernel
theorem dX6_readAck_24 : decode cX6_readAck 24 = .ok (.aload_n 2, 1) := by decide +kernel
theorem dX6_readAck_25 : decode cX6_readAck 25 = .ok (.getfield 42, 3) := by decide +kernel
theorem dX6_readAck_28 : decode cX6_readAck 28 = .ok (.getfield 229, 3) := by decide +kernel
theorem dX6_readAck_31 : decode cX6_readAck 31 = .ok (.ifCond .ne 7, 3) := by decide +kernel
theorem dX6_readAck_34 : decode cX6_readAck 34 = .ok (.iconst 1, 1) := by decide +kernel
theorem dX6_readAck_35 : decode cX6_readAck 35 = .ok (.goto 4, 3) := by decide +kernel
theorem dX6_readAck_38 : decode cX6_readAck 38 = .ok (.iconst 0, 1) := by decide +kernel
theorem dX6_readAck_39 : decode cX6_readAck 39 = .ok (.istore 4, 2) := by decide +kernel
theorem dX6_readAck_41 : decode cX6_readAck 41 = .ok (.aload_n 2, 1) := by decide +kernel
theorem dX6_readAck_42 : decode cX6_readAck 42 = .ok (.getfield 42, 3) := by decide +kernel
theorem dX6_readAck_45 : decode cX6_readAck 45 = .ok (.iconst 1, 1) := by decide +kernel
theorem dX6_readAck_46 : decode cX6_readAck 46 = .ok (.putfield 229, 3) := by decide +kernel
theorem dX6_readAck_49 : decode cX6_readAck 49 = .ok (.iload_n 3, 1) := by decide +kernel
theorem dX6_readAck_50 : decode cX6_readAck 50 = .ok (.aload_n 1, 1) := by decide +kernel
theorem dX6_readAck_51 : decode cX6_readAck 51 = .ok (.getfield 162, 3) := by decide +kernel
theorem dX6_readAck_54 : decode cX6_readAck 54 = .ok (.if_icmp .le 19, 3) := by decide +kernel
theorem dX6_readAck_57 : decode cX6_readAck 57 = .ok (.aload_n 1, 1) := by decide +kernel
theorem dX6_readAck_58 : decode cX6_readAck 58 = .ok (.iload_n 3, 1) := by decide +kernel
theorem dX6_readAck_59 : decode cX6_readAck 59 = .ok (.invokevirtual 107, 3) := by decide +kernel
theorem dX6_readAck_62 : decode cX6_readAck 62 = .ok (.aload_n 0, 1) := by decide +kernel
theorem dX6_readAck_63 : decode cX6_readAck 63 = .ok (.aload_n 1, 1) := by decide +kernel
theorem dX6_readAck_64 : decode cX6_readAck 64 = .ok (.bipush 7, 2) := by decide +kernel
theorem dX6_readAck_66 : decode cX6_readAck 66 = .ok (.iload_n 3, 1) := by decide +kernel
theorem dX6_readAck_67 : decode cX6_readAck 67 = .ok (.invokevirtual 232, 3) := by decide +kernel
theorem dX6_readAck_70 : decode cX6_readAck 70 = .ok (.goto 24, 3) := by decide +kernel
theorem dX6_readAck_73 : decode cX6_readAck 73 = .ok (.iload 4, 2) := by decide +kernel
theorem dX6_readAck_75 : decode cX6_readAck 75 = .ok (.ifCond .eq 19, 3) := by decide +kernel
theorem dX6_readAck_78 : decode cX6_readAck 78 = .ok (.aload_n 2, 1) := by decide +kernel
theorem dX6_readAck_79 : decode cX6_readAck 79 = .ok (.getfield 42, 3) := by decide +kernel
theorem dX6_readAck_82 : decode cX6_readAck 82 = .ok (.getfield 94, 3) := by decide +kernel
theorem dX6_readAck_85 : decode cX6_readAck 85 = .ok (.bipush 7, 2) := by decide +kernel
theorem dX6_readAck_87 : decode cX6_readAck 87 = .ok (.aload_n 1, 1) := by decide +kernel
theorem dX6_readAck_88 : decode cX6_readAck 88 = .ok (.getfield 162, 3) := by decide +kernel
theorem dX6_readAck_91 : decode cX6_readAck 91 = .ok (.invokevirtual 55, 3) := by decide +kernel
theorem dX6_readAck_94 : decode cX6_readAck 94 = .ok (.return_, 1) := by decide +kernel
theorem dX6_sendOnTiedLinks_0 : decode cX6_sendOnTiedLinks 0 = .ok (.iconst 0, 1) := by decide +kernel
theorem dX6_sendOnTiedLinks_1 : decode cX6_sendOnTiedLinks 1 = .ok (.istore 4, 2) := by decide +kernel
theorem dX6_sendOnTiedLinks_3 : decode cX6_sendOnTiedLinks 3 = .ok (.iload 4, 2) := by decide +kernel
theorem dX6_sendOnTiedLinks_5 : decode cX6_sendOnTiedLinks 5 = .ok (.iconst 3, 1) := by decide +kernel
theorem dX6_sendOnTiedLinks_6 : decode cX6_sendOnTiedLinks 6 = .ok (.if_icmp .ge 57, 3) := by decide +kernel
theorem dX6_sendOnTiedLinks_9 : decode cX6_sendOnTiedLinks 9 = .ok (.aload_n 0, 1) := by decide +kernel
theorem dX6_sendOnTiedLinks_10 : decode cX6_sendOnTiedLinks 10 = .ok (.getfield 11, 3) := by decide +kernel
theorem dX6_sendOnTiedLinks_13 : decode cX6_sendOnTiedLinks 13 = .ok (.iload 4, 2) := by decide +kernel
theorem dX6_sendOnTiedLinks_15 : decode cX6_sendOnTiedLinks 15 = .ok (.aaload, 1) := by decide +kernel
theorem dX6_sendOnTiedLinks_16 : decode cX6_sendOnTiedLinks 16 = .ok (.aload_n 1, 1) := by decide +kernel
theorem dX6_sendOnTiedLinks_17 : decode cX6_sendOnTiedLinks 17 = .ok (.invokestatic 181, 3) := by decide +kernel
theorem dX6_sendOnTiedLinks_20 : decode cX6_sendOnTiedLinks 20 = .ok (.ifCond .eq 37, 3) := by decide +kernel
theorem dX6_sendOnTiedLinks_23 : decode cX6_sendOnTiedLinks 23 = .ok (.aload_n 0, 1) := by decide +kernel
theorem dX6_sendOnTiedLinks_24 : decode cX6_sendOnTiedLinks 24 = .ok (.getfield 11, 3) := by decide +kernel
theorem dX6_sendOnTiedLinks_27 : decode cX6_sendOnTiedLinks 27 = .ok (.iload 4, 2) := by decide +kernel
theorem dX6_sendOnTiedLinks_29 : decode cX6_sendOnTiedLinks 29 = .ok (.aaload, 1) := by decide +kernel
theorem dX6_sendOnTiedLinks_30 : decode cX6_sendOnTiedLinks 30 = .ok (.getfield 42, 3) := by decide +kernel
theorem dX6_sendOnTiedLinks_33 : decode cX6_sendOnTiedLinks 33 = .ok (.getfield 220, 3) := by decide +kernel
theorem dX6_sendOnTiedLinks_36 : decode cX6_sendOnTiedLinks 36 = .ok (.ifCond .eq 21, 3) := by decide +kernel
theorem dX6_sendOnTiedLinks_39 : decode cX6_sendOnTiedLinks 39 = .ok (.aload_n 0, 1) := by decide +kernel
theorem dX6_sendOnTiedLinks_40 : decode cX6_sendOnTiedLinks 40 = .ok (.getfield 11, 3) := by decide +kernel
theorem dX6_sendOnTiedLinks_43 : decode cX6_sendOnTiedLinks 43 = .ok (.iload 4, 2) := by decide +kernel
theorem dX6_sendOnTiedLinks_45 : decode cX6_sendOnTiedLinks 45 = .ok (.aaload, 1) := by decide +kernel
theorem dX6_sendOnTiedLinks_46 : decode cX6_sendOnTiedLinks 46 = .ok (.getfield 42, 3) := by decide +kernel
theorem dX6_sendOnTiedLinks_49 : decode cX6_sendOnTiedLinks 49 = .ok (.getfield 94, 3) := by decide +kernel
theorem dX6_sendOnTiedLinks_52 : decode cX6_sendOnTiedLinks 52 = .ok (.iload_n 2, 1) := by decide +kernel
theorem dX6_sendOnTiedLinks_53 : decode cX6_sendOnTiedLinks 53 = .ok (.iload_n 3, 1) := by decide +kernel
theorem dX6_sendOnTiedLinks_54 : decode cX6_sendOnTiedLinks 54 = .ok (.invokevirtual 55, 3) := by decide +kernel
theorem dX6_sendOnTiedLinks_57 : decode cX6_sendOnTiedLinks 57 = .ok (.iinc 4 1, 3) := by decide +kernel
theorem dX6_sendOnTiedLinks_60 : decode cX6_sendOnTiedLinks 60 = .ok (.goto (-57), 3) := by decide +kernel
theorem dX6_sendOnTiedLinks_63 : decode cX6_sendOnTiedLinks 63 = .ok (.return_, 1) := by decide +kernel
theorem dX6_readNewEpoch_0 : decode cX6_readNewEpoch 0 = .ok (.aload_n 0, 1) := by decide +kernel
theorem dX6_readNewEpoch_1 : decode cX6_readNewEpoch 1 = .ok (.getfield 11, 3) := by decide +kernel
theorem dX6_readNewEpoch_4 : decode cX6_readNewEpoch 4 = .ok (.iload_n 1, 1) := by decide +kernel
theorem dX6_readNewEpoch_5 : decode cX6_readNewEpoch 5 = .ok (.aaload, 1) := by decide +kernel
theorem dX6_readNewEpoch_6 : decode cX6_readNewEpoch 6 = .ok (.astore_n 3, 1) := by decide +kernel
theorem dX6_readNewEpoch_7 : decode cX6_readNewEpoch 7 = .ok (.iload_n 2, 1) := by decide +kernel
theorem dX6_readNewEpoch_8 : decode cX6_readNewEpoch 8 = .ok (.aload_n 3, 1) := by decide +kernel
theorem dX6_readNewEpoch_9 : decode cX6_readNewEpoch 9 = .ok (.getfield 52, 3) := by decide +kernel
theorem dX6_readNewEpoch_12 : decode cX6_readNewEpoch 12 = .ok (.if_icmp .ge 10, 3) := by decide +kernel
theorem dX6_readNewEpoch_15 : decode cX6_readNewEpoch 15 = .ok (.aload_n 0, 1) := by decide +kernel
theorem dX6_readNewEpoch_16 : decode cX6_readNewEpoch 16 = .ok (.iload_n 1, 1) := by decide +kernel
theorem dX6_readNewEpoch_17 : decode cX6_readNewEpoch 17 = .ok (.iconst 1, 1) := by decide +kernel
theorem dX6_readNewEpoch_18 : decode cX6_readNewEpoch 18 = .ok (.invokevirtual 61, 3) := by decide +kernel
theorem dX6_readNewEpoch_21 : decode cX6_readNewEpoch 21 = .ok (.return_, 1) := by decide +kernel
theorem dX6_readNewEpoch_22 : decode cX6_readNewEpoch 22 = .ok (.iload_n 2, 1) := by decide +kernel
theorem dX6_readNewEpoch_23 : decode cX6_readNewEpoch 23 = .ok (.aload_n 3, 1) := by decide +kernel
theorem dX6_readNewEpoch_24 : decode cX6_readNewEpoch 24 = .ok (.getfield 52, 3) := by decide +kernel
theorem dX6_readNewEpoch_27 : decode cX6_readNewEpoch 27 = .ok (.if_icmp .le 7, 3) := by decide +kernel
theorem dX6_readNewEpoch_30 : decode cX6_readNewEpoch 30 = .ok (.iconst 1, 1) := by decide +kernel
theorem dX6_readNewEpoch_31 : decode cX6_readNewEpoch 31 = .ok (.goto 4, 3) := by decide +kernel
theorem dX6_readNewEpoch_34 : decode cX6_readNewEpoch 34 = .ok (.iconst 0, 1) := by decide +kernel
theorem dX6_readNewEpoch_35 : decode cX6_readNewEpoch 35 = .ok (.istore 4, 2) := by decide +kernel
theorem dX6_readNewEpoch_37 : decode cX6_readNewEpoch 37 = .ok (.aload_n 3, 1) := by decide +kernel
theorem dX6_readNewEpoch_38 : decode cX6_readNewEpoch 38 = .ok (.iload_n 2, 1) := by decide +kernel
theorem dX6_readNewEpoch_39 : decode cX6_readNewEpoch 39 = .ok (.putfield 52, 3) := by decide +kernel
theorem dX6_readNewEpoch_42 : decode cX6_readNewEpoch 42 = .ok (.aload_n 3, 1) := by decide +kernel
theorem dX6_readNewEpoch_43 : decode cX6_readNewEpoch 43 = .ok (.getfield 42, 3) := by decide +kernel
theorem dX6_readNewEpoch_46 : decode cX6_readNewEpoch 46 = .ok (.getfield 46, 3) := by decide +kernel
theorem dX6_readNewEpoch_49 : decode cX6_readNewEpoch 49 = .ok (.iconst 2, 1) := by decide +kernel
theorem dX6_readNewEpoch_50 : decode cX6_readNewEpoch 50 = .ok (.iload 4, 2) := by decide +kernel
theorem dX6_readNewEpoch_52 : decode cX6_readNewEpoch 52 = .ok (.ifCond .eq 7, 3) := by decide +kernel
theorem dX6_readNewEpoch_55 : decode cX6_readNewEpoch 55 = .ok (.iconst 1, 1) := by decide +kernel
theorem dX6_readNewEpoch_56 : decode cX6_readNewEpoch 56 = .ok (.goto 4, 3) := by decide +kernel
theorem dX6_readNewEpoch_59 : decode cX6_readNewEpoch 59 = .ok (.iconst 0, 1) := by decide +kernel
theorem dX6_readNewEpoch_60 : decode cX6_readNewEpoch 60 = .ok (.invokevirtual 55, 3) := by decide +kernel
theorem dX6_readNewEpoch_63 : decode cX6_readNewEpoch 63 = .ok (.return_, 1) := by decide +kernel
theorem dX6_readNewLeader_0 : decode cX6_readNewLeader 0 = .ok (.aload_n 1, 1) := by decide +kernel
theorem dX6_readNewLeader_1 : decode cX6_readNewLeader 1 = .ok (.aload_n 1, 1) := by decide +kernel
theorem dX6_readNewLeader_2 : decode cX6_readNewLeader 2 = .ok (.getfield 52, 3) := by decide +kernel
theorem dX6_readNewLeader_5 : decode cX6_readNewLeader 5 = .ok (.putfield 155, 3) := by decide +kernel
theorem dX6_readNewLeader_8 : decode cX6_readNewLeader 8 = .ok (.aload_n 1, 1) := by decide +kernel
theorem dX6_readNewLeader_9 : decode cX6_readNewLeader 9 = .ok (.getfield 114, 3) := by decide +kernel
theorem dX6_readNewLeader_12 : decode cX6_readNewLeader 12 = .ok (.aload_n 0, 1) := by decide +kernel
theorem dX6_readNewLeader_13 : decode cX6_readNewLeader 13 = .ok (.getfield 11, 3) := by decide +kernel
theorem dX6_readNewLeader_16 : decode cX6_readNewLeader 16 = .ok (.aload_n 1, 1) := by decide +kernel
theorem dX6_readNewLeader_17 : decode cX6_readNewLeader 17 = .ok (.getfield 39, 3) := by decide +kernel
theorem dX6_readNewLeader_20 : decode cX6_readNewLeader 20 = .ok (.aaload, 1) := by decide +kernel
theorem dX6_readNewLeader_21 : decode cX6_readNewLeader 21 = .ok (.getfield 114, 3) := by decide +kernel
theorem dX6_readNewLeader_24 : decode cX6_readNewLeader 24 = .ok (.iload_n 2, 1) := by decide +kernel
theorem dX6_readNewLeader_25 : decode cX6_readNewLeader 25 = .ok (.invokevirtual 216, 3) := by decide +kernel
theorem dX6_readNewLeader_28 : decode cX6_readNewLeader 28 = .ok (.aload_n 1, 1) := by decide +kernel
theorem dX6_readNewLeader_29 : decode cX6_readNewLeader 29 = .ok (.getfield 42, 3) := by decide +kernel
theorem dX6_readNewLeader_32 : decode cX6_readNewLeader 32 = .ok (.getfield 46, 3) := by decide +kernel
theorem dX6_readNewLeader_35 : decode cX6_readNewLeader 35 = .ok (.iconst 3, 1) := by decide +kernel
theorem dX6_readNewLeader_36 : decode cX6_readNewLeader 36 = .ok (.iload_n 2, 1) := by decide +kernel
theorem dX6_readNewLeader_37 : decode cX6_readNewLeader 37 = .ok (.invokevirtual 55, 3) := by decide +kernel
theorem dX6_readNewLeader_40 : decode cX6_readNewLeader 40 = .ok (.return_, 1) := by decide +kernel
theorem dX6_readProposal_0 : decode cX6_readProposal 0 = .ok (.aload_n 1, 1) := by decide +kernel
theorem dX6_readProposal_1 : decode cX6_readProposal 1 = .ok (.getfield 114, 3) := by decide +kernel
theorem dX6_readProposal_4 : decode cX6_readProposal 4 = .ok (.aload_n 0, 1) := by decide +kernel
theorem dX6_readProposal_5 : decode cX6_readProposal 5 = .ok (.getfield 11, 3) := by decide +kernel
theorem dX6_readProposal_8 : decode cX6_readProposal 8 = .ok (.aload_n 1, 1) := by decide +kernel
theorem dX6_readProposal_9 : decode cX6_readProposal 9 = .ok (.getfield 39, 3) := by decide +kernel
theorem dX6_readProposal_12 : decode cX6_readProposal 12 = .ok (.aaload, 1) := by decide +kernel
theorem dX6_readProposal_13 : decode cX6_readProposal 13 = .ok (.getfield 114, 3) := by decide +kernel
theorem dX6_readProposal_16 : decode cX6_readProposal 16 = .ok (.iload_n 2, 1) := by decide +kernel
theorem dX6_readProposal_17 : decode cX6_readProposal 17 = .ok (.invokevirtual 236, 3) := by decide +kernel
theorem dX6_readProposal_20 : decode cX6_readProposal 20 = .ok (.aload_n 1, 1) := by decide +kernel
theorem dX6_readProposal_21 : decode cX6_readProposal 21 = .ok (.getfield 42, 3) := by decide +kernel
theorem dX6_readProposal_24 : decode cX6_readProposal 24 = .ok (.getfield 46, 3) := by decide +kernel
theorem dX6_readProposal_27 : decode cX6_readProposal 27 = .ok (.iconst 3, 1) := by decide +kernel
theorem dX6_readProposal_28 : decode cX6_readProposal 28 = .ok (.aload_n 1, 1) := by decide +kernel
theorem dX6_readProposal_29 : decode cX6_readProposal 29 = .ok (.getfield 114, 3) := by decide +kernel
theorem dX6_readProposal_32 : decode cX6_readProposal 32 = .ok (.getfield 128, 3) := by decide +kernel
theorem dX6_readProposal_35 : decode cX6_readProposal 35 = .ok (.invokevirtual 55, 3) := by decide +kernel
theorem dX6_readProposal_38 : decode cX6_readProposal 38 = .ok (.return_, 1) := by decide +kernel
theorem dX6_makeEntry_0 : decode cX6_makeEntry 0 = .ok (.aload_n 1, 1) := by decide +kernel
theorem dX6_makeEntry_1 : decode cX6_makeEntry 1 = .ok (.getfield 26, 3) := by decide +kernel
theorem dX6_makeEntry_4 : decode cX6_makeEntry 4 = .ok (.dup, 1) := by decide +kernel
theorem dX6_makeEntry_5 : decode cX6_makeEntry 5 = .ok (.getfield 239, 3) := by decide +kernel
theorem dX6_makeEntry_8 : decode cX6_makeEntry 8 = .ok (.iconst 1, 1) := by decide +kernel
theorem dX6_makeEntry_9 : decode cX6_makeEntry 9 = .ok (.iadd, 1) := by decide +kernel
theorem dX6_makeEntry_10 : decode cX6_makeEntry 10 = .ok (.putfield 239, 3) := by decide +kernel
theorem dX6_makeEntry_13 : decode cX6_makeEntry 13 = .ok (.sipush 1000, 3) := by decide +kernel
theorem dX6_makeEntry_16 : decode cX6_makeEntry 16 = .ok (.aload_n 1, 1) := by decide +kernel
theorem dX6_makeEntry_17 : decode cX6_makeEntry 17 = .ok (.getfield 155, 3) := by decide +kernel
theorem dX6_makeEntry_20 : decode cX6_makeEntry 20 = .ok (.imul, 1) := by decide +kernel
theorem dX6_makeEntry_21 : decode cX6_makeEntry 21 = .ok (.aload_n 1, 1) := by decide +kernel
theorem dX6_makeEntry_22 : decode cX6_makeEntry 22 = .ok (.getfield 26, 3) := by decide +kernel
theorem dX6_makeEntry_25 : decode cX6_makeEntry 25 = .ok (.getfield 239, 3) := by decide +kernel
theorem dX6_makeEntry_28 : decode cX6_makeEntry 28 = .ok (.iadd, 1) := by decide +kernel
theorem dX6_makeEntry_29 : decode cX6_makeEntry 29 = .ok (.istore 6, 2) := by decide +kernel
theorem dX6_makeEntry_31 : decode cX6_makeEntry 31 = .ok (.aload_n 1, 1) := by decide +kernel
theorem dX6_makeEntry_32 : decode cX6_makeEntry 32 = .ok (.getfield 114, 3) := by decide +kernel
theorem dX6_makeEntry_35 : decode cX6_makeEntry 35 = .ok (.iload 6, 2) := by decide +kernel
theorem dX6_makeEntry_37 : decode cX6_makeEntry 37 = .ok (.iload_n 2, 1) := by decide +kernel
theorem dX6_makeEntry_38 : decode cX6_makeEntry 38 = .ok (.iload_n 3, 1) := by decide +kernel
theorem dX6_makeEntry_39 : decode cX6_makeEntry 39 = .ok (.iload 4, 2) := by decide +kernel
theorem dX6_makeEntry_41 : decode cX6_makeEntry 41 = .ok (.iload 5, 2) := by decide +kernel
theorem dX6_makeEntry_43 : decode cX6_makeEntry 43 = .ok (.invokevirtual 242, 3) := by decide +kernel
theorem dX6_makeEntry_46 : decode cX6_makeEntry 46 = .ok (.aload_n 0, 1) := by decide +kernel
theorem dX6_makeEntry_47 : decode cX6_makeEntry 47 = .ok (.aload_n 1, 1) := by decide +kernel
theorem dX6_makeEntry_48 : decode cX6_makeEntry 48 = .ok (.bipush 6, 2) := by decide +kernel
theorem dX6_makeEntry_50 : decode cX6_makeEntry 50 = .ok (.aload_n 1, 1) := by decide +kernel
theorem dX6_makeEntry_51 : decode cX6_makeEntry 51 = .ok (.getfield 114, 3) := by decide +kernel
theorem dX6_makeEntry_54 : decode cX6_makeEntry 54 = .ok (.getfield 128, 3) := by decide +kernel
theorem dX6_makeEntry_57 : decode cX6_makeEntry 57 = .ok (.invokevirtual 232, 3) := by decide +kernel
theorem dX6_makeEntry_60 : decode cX6_makeEntry 60 = .ok (.return_, 1) := by decide +kernel
theorem dX6_growAges_0 : decode cX6_growAges 0 = .ok (.aload_n 0, 1) := by decide +kernel
theorem dX6_growAges_1 : decode cX6_growAges 1 = .ok (.getfield 26, 3) := by decide +kernel
theorem dX6_growAges_4 : decode cX6_growAges 4 = .ok (.getfield 151, 3) := by decide +kernel
theorem dX6_growAges_7 : decode cX6_growAges 7 = .ok (.astore_n 1, 1) := by decide +kernel
theorem dX6_growAges_8 : decode cX6_growAges 8 = .ok (.iconst 1, 1) := by decide +kernel
theorem dX6_growAges_9 : decode cX6_growAges 9 = .ok (.istore_n 2, 1) := by decide +kernel
theorem dX6_growAges_10 : decode cX6_growAges 10 = .ok (.iload_n 2, 1) := by decide +kernel
theorem dX6_growAges_11 : decode cX6_growAges 11 = .ok (.iconst 4, 1) := by decide +kernel
theorem dX6_growAges_12 : decode cX6_growAges 12 = .ok (.if_icmp .gt 36, 3) := by decide +kernel
theorem dX6_growAges_15 : decode cX6_growAges 15 = .ok (.aload_n 1, 1) := by decide +kernel
theorem dX6_growAges_16 : decode cX6_growAges 16 = .ok (.iload_n 2, 1) := by decide +kernel
theorem dX6_growAges_17 : decode cX6_growAges 17 = .ok (.aload_n 0, 1) := by decide +kernel
theorem dX6_growAges_18 : decode cX6_growAges 18 = .ok (.getfield 142, 3) := by decide +kernel
theorem dX6_growAges_21 : decode cX6_growAges 21 = .ok (.iload_n 2, 1) := by decide +kernel
theorem dX6_growAges_22 : decode cX6_growAges 22 = .ok (.invokevirtual 146, 3) := by decide +kernel
theorem dX6_growAges_25 : decode cX6_growAges 25 = .ok (.ifCond .eq 15, 3) := by decide +kernel
theorem dX6_growAges_28 : decode cX6_growAges 28 = .ok (.aload_n 1, 1) := by decide +kernel
theorem dX6_growAges_29 : decode cX6_growAges 29 = .ok (.iload_n 2, 1) := by decide +kernel
theorem dX6_growAges_30 : decode cX6_growAges 30 = .ok (.iaload, 1) := by decide +kernel
theorem dX6_growAges_31 : decode cX6_growAges 31 = .ok (.iconst 1, 1) := by decide +kernel
theorem dX6_growAges_32 : decode cX6_growAges 32 = .ok (.iadd, 1) := by decide +kernel
theorem dX6_growAges_33 : decode cX6_growAges 33 = .ok (.iconst 3, 1) := by decide +kernel
theorem dX6_growAges_34 : decode cX6_growAges 34 = .ok (.invokestatic 246, 3) := by decide +kernel
theorem dX6_growAges_37 : decode cX6_growAges 37 = .ok (.goto 4, 3) := by decide +kernel
theorem dX6_growAges_40 : decode cX6_growAges 40 = .ok (.iconst 0, 1) := by decide +kernel
theorem dX6_growAges_41 : decode cX6_growAges 41 = .ok (.iastore, 1) := by decide +kernel
theorem dX6_growAges_42 : decode cX6_growAges 42 = .ok (.iinc 2 1, 3) := by decide +kernel
theorem dX6_growAges_45 : decode cX6_growAges 45 = .ok (.goto (-35), 3) := by decide +kernel
theorem dX6_growAges_48 : decode cX6_growAges 48 = .ok (.return_, 1) := by decide +kernel
theorem dX6_closeOldSessions_0 : decode cX6_closeOldSessions 0 = .ok (.aload_n 1, 1) := by decide +kernel
theorem dX6_closeOldSessions_1 : decode cX6_closeOldSessions 1 = .ok (.getfield 26, 3) := by decide +kernel
theorem dX6_closeOldSessions_4 : decode cX6_closeOldSessions 4 = .ok (.getfield 151, 3) := by decide +kernel
theorem dX6_closeOldSessions_7 : decode cX6_closeOldSessions 7 = .ok (.astore_n 2, 1) := by decide +kernel
theorem dX6_closeOldSessions_8 : decode cX6_closeOldSessions 8 = .ok (.iconst 0, 1) := by decide +kernel
theorem dX6_closeOldSessions_9 : decode cX6_closeOldSessions 9 = .ok (.istore_n 3, 1) := by decide +kernel
theorem dX6_closeOldSessions_10 : decode cX6_closeOldSessions 10 = .ok (.iconst 1, 1) := by decide +kernel
theorem dX6_closeOldSessions_11 : decode cX6_closeOldSessions 11 = .ok (.istore 4, 2) := by decide +kernel
theorem dX6_closeOldSessions_13 : decode cX6_closeOldSessions 13 = .ok (.iload 4, 2) := by decide +kernel
theorem dX6_closeOldSessions_15 : decode cX6_closeOldSessions 15 = .ok (.iconst 4, 1) := by decide +kernel
theorem dX6_closeOldSessions_16 : decode cX6_closeOldSessions 16 = .ok (.if_icmp .gt 45, 3) := by decide +kernel
theorem dX6_closeOldSessions_19 : decode cX6_closeOldSessions 19 = .ok (.aload_n 2, 1) := by decide +kernel
theorem dX6_closeOldSessions_20 : decode cX6_closeOldSessions 20 = .ok (.iload 4, 2) := by decide +kernel
theorem dX6_closeOldSessions_22 : decode cX6_closeOldSessions 22 = .ok (.iaload, 1) := by decide +kernel
theorem dX6_closeOldSessions_23 : decode cX6_closeOldSessions 23 = .ok (.iconst 3, 1) := by decide +kernel
theorem dX6_closeOldSessions_24 : decode cX6_closeOldSessions 24 = .ok (.if_icmp .ne 31, 3) := by decide +kernel
theorem dX6_closeOldSessions_27 : decode cX6_closeOldSessions 27 = .ok (.aload_n 1, 1) := by decide +kernel
theorem dX6_closeOldSessions_28 : decode cX6_closeOldSessions 28 = .ok (.getfield 114, 3) := by decide +kernel
theorem dX6_closeOldSessions_31 : decode cX6_closeOldSessions 31 = .ok (.invokevirtual 118, 3) := by decide +kernel
theorem dX6_closeOldSessions_34 : decode cX6_closeOldSessions 34 = .ok (.ifCond .ne 21, 3) := by decide +kernel
theorem dX6_closeOldSessions_37 : decode cX6_closeOldSessions 37 = .ok (.aload_n 0, 1) := by decide +kernel
theorem dX6_closeOldSessions_38 : decode cX6_closeOldSessions 38 = .ok (.aload_n 1, 1) := by decide +kernel
theorem dX6_closeOldSessions_39 : decode cX6_closeOldSessions 39 = .ok (.iconst 5, 1) := by decide +kernel
theorem dX6_closeOldSessions_40 : decode cX6_closeOldSessions 40 = .ok (.iconst 0, 1) := by decide +kernel
theorem dX6_closeOldSessions_41 : decode cX6_closeOldSessions 41 = .ok (.iconst 0, 1) := by decide +kernel
theorem dX6_closeOldSessions_42 : decode cX6_closeOldSessions 42 = .ok (.iload 4, 2) := by decide +kernel
theorem dX6_closeOldSessions_44 : decode cX6_closeOldSessions 44 = .ok (.invokevirtual 124, 3) := by decide +kernel
theorem dX6_closeOldSessions_47 : decode cX6_closeOldSessions 47 = .ok (.aload_n 2, 1) := by decide +kernel
theorem dX6_closeOldSessions_48 : decode cX6_closeOldSessions 48 = .ok (.iload 4, 2) := by decide +kernel
theorem dX6_closeOldSessions_50 : decode cX6_closeOldSessions 50 = .ok (.iconst 0, 1) := by decide +kernel
theorem dX6_closeOldSessions_51 : decode cX6_closeOldSessions 51 = .ok (.iastore, 1) := by decide +kernel
theorem dX6_closeOldSessions_52 : decode cX6_closeOldSessions 52 = .ok (.iinc 3 1, 3) := by decide +kernel
theorem dX6_closeOldSessions_55 : decode cX6_closeOldSessions 55 = .ok (.iinc 4 1, 3) := by decide +kernel
theorem dX6_closeOldSessions_58 : decode cX6_closeOldSessions 58 = .ok (.goto (-45), 3) := by decide +kernel
theorem dX6_closeOldSessions_61 : decode cX6_closeOldSessions 61 = .ok (.iload_n 3, 1) := by decide +kernel
theorem dX6_closeOldSessions_62 : decode cX6_closeOldSessions 62 = .ok (.ireturn, 1) := by decide +kernel
