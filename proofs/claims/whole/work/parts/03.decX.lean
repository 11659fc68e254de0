theorem d_X_init_0 : decode b_X_init 0 = .ok (.aload_n 0, 1) := by decide +kernel
theorem d_X_init_1 : decode b_X_init 1 = .ok (.invokespecial 1, 3) := by decide +kernel
theorem d_X_init_4 : decode b_X_init 4 = .ok (.aload_n 0, 1) := by decide +kernel
theorem d_X_init_5 : decode b_X_init 5 = .ok (.new 7, 3) := by decide +kernel
theorem d_X_init_8 : decode b_X_init 8 = .ok (.dup, 1) := by decide +kernel
theorem d_X_init_9 : decode b_X_init 9 = .ok (.iload_n 1, 1) := by decide +kernel
theorem d_X_init_10 : decode b_X_init 10 = .ok (.invokespecial 9, 3) := by decide +kernel
theorem d_X_init_13 : decode b_X_init 13 = .ok (.putfield 12, 3) := by decide +kernel
theorem d_X_init_16 : decode b_X_init 16 = .ok (.aload_n 0, 1) := by decide +kernel
theorem d_X_init_17 : decode b_X_init 17 = .ok (.new 18, 3) := by decide +kernel
theorem d_X_init_20 : decode b_X_init 20 = .ok (.dup, 1) := by decide +kernel
theorem d_X_init_21 : decode b_X_init 21 = .ok (.invokespecial 20, 3) := by decide +kernel
theorem d_X_init_24 : decode b_X_init 24 = .ok (.putfield 21, 3) := by decide +kernel
theorem d_X_init_27 : decode b_X_init 27 = .ok (.aload_n 0, 1) := by decide +kernel
theorem d_X_init_28 : decode b_X_init 28 = .ok (.new 25, 3) := by decide +kernel
theorem d_X_init_31 : decode b_X_init 31 = .ok (.dup, 1) := by decide +kernel
theorem d_X_init_32 : decode b_X_init 32 = .ok (.invokespecial 27, 3) := by decide +kernel
theorem d_X_init_35 : decode b_X_init 35 = .ok (.putfield 28, 3) := by decide +kernel
theorem d_X_init_38 : decode b_X_init 38 = .ok (.aload_n 0, 1) := by decide +kernel
theorem d_X_init_39 : decode b_X_init 39 = .ok (.new 32, 3) := by decide +kernel
theorem d_X_init_42 : decode b_X_init 42 = .ok (.dup, 1) := by decide +kernel
theorem d_X_init_43 : decode b_X_init 43 = .ok (.invokespecial 34, 3) := by decide +kernel
theorem d_X_init_46 : decode b_X_init 46 = .ok (.putfield 35, 3) := by decide +kernel
theorem d_X_init_49 : decode b_X_init 49 = .ok (.aload_n 0, 1) := by decide +kernel
theorem d_X_init_50 : decode b_X_init 50 = .ok (.iconst 0, 1) := by decide +kernel
theorem d_X_init_51 : decode b_X_init 51 = .ok (.putfield 39, 3) := by decide +kernel
theorem d_X_init_54 : decode b_X_init 54 = .ok (.return_, 1) := by decide +kernel
theorem d_X_come_0 : decode b_X_come 0 = .ok (.iload_n 1, 1) := by decide +kernel
theorem d_X_come_1 : decode b_X_come 1 = .ok (.invokestatic 43, 3) := by decide +kernel
theorem d_X_come_4 : decode b_X_come 4 = .ok (.ifCond .ne 5, 3) := by decide +kernel
theorem d_X_come_7 : decode b_X_come 7 = .ok (.iconst (-1), 1) := by decide +kernel
theorem d_X_come_8 : decode b_X_come 8 = .ok (.ireturn, 1) := by decide +kernel
theorem d_X_come_9 : decode b_X_come 9 = .ok (.aload_n 0, 1) := by decide +kernel
theorem d_X_come_10 : decode b_X_come 10 = .ok (.getfield 12, 3) := by decide +kernel
theorem d_X_come_13 : decode b_X_come 13 = .ok (.iload_n 1, 1) := by decide +kernel
theorem d_X_come_14 : decode b_X_come 14 = .ok (.invokevirtual 47, 3) := by decide +kernel
theorem d_X_come_17 : decode b_X_come 17 = .ok (.ifCond .eq 6, 3) := by decide +kernel
theorem d_X_come_20 : decode b_X_come 20 = .ok (.bipush (-3), 2) := by decide +kernel
theorem d_X_come_22 : decode b_X_come 22 = .ok (.ireturn, 1) := by decide +kernel
theorem d_X_come_23 : decode b_X_come 23 = .ok (.aload_n 0, 1) := by decide +kernel
theorem d_X_come_24 : decode b_X_come 24 = .ok (.getfield 12, 3) := by decide +kernel
theorem d_X_come_27 : decode b_X_come 27 = .ok (.iload_n 1, 1) := by decide +kernel
theorem d_X_come_28 : decode b_X_come 28 = .ok (.invokevirtual 50, 3) := by decide +kernel
theorem d_X_come_31 : decode b_X_come 31 = .ok (.ireturn, 1) := by decide +kernel
theorem d_X_leave_0 : decode b_X_leave 0 = .ok (.iload_n 1, 1) := by decide +kernel
theorem d_X_leave_1 : decode b_X_leave 1 = .ok (.invokestatic 43, 3) := by decide +kernel
theorem d_X_leave_4 : decode b_X_leave 4 = .ok (.ifCond .ne 5, 3) := by decide +kernel
theorem d_X_leave_7 : decode b_X_leave 7 = .ok (.iconst (-1), 1) := by decide +kernel
theorem d_X_leave_8 : decode b_X_leave 8 = .ok (.ireturn, 1) := by decide +kernel
theorem d_X_leave_9 : decode b_X_leave 9 = .ok (.aload_n 0, 1) := by decide +kernel
theorem d_X_leave_10 : decode b_X_leave 10 = .ok (.getfield 12, 3) := by decide +kernel
theorem d_X_leave_13 : decode b_X_leave 13 = .ok (.iload_n 1, 1) := by decide +kernel
theorem d_X_leave_14 : decode b_X_leave 14 = .ok (.invokevirtual 47, 3) := by decide +kernel
theorem d_X_leave_17 : decode b_X_leave 17 = .ok (.ifCond .eq 14, 3) := by decide +kernel
theorem d_X_leave_20 : decode b_X_leave 20 = .ok (.aload_n 0, 1) := by decide +kernel
theorem d_X_leave_21 : decode b_X_leave 21 = .ok (.getfield 35, 3) := by decide +kernel
theorem d_X_leave_24 : decode b_X_leave 24 = .ok (.iload_n 1, 1) := by decide +kernel
theorem d_X_leave_25 : decode b_X_leave 25 = .ok (.invokevirtual 54, 3) := by decide +kernel
theorem d_X_leave_28 : decode b_X_leave 28 = .ok (.ifCond .le 6, 3) := by decide +kernel
theorem d_X_leave_31 : decode b_X_leave 31 = .ok (.bipush (-3), 2) := by decide +kernel
theorem d_X_leave_33 : decode b_X_leave 33 = .ok (.ireturn, 1) := by decide +kernel
theorem d_X_leave_34 : decode b_X_leave 34 = .ok (.aload_n 0, 1) := by decide +kernel
theorem d_X_leave_35 : decode b_X_leave 35 = .ok (.getfield 12, 3) := by decide +kernel
theorem d_X_leave_38 : decode b_X_leave 38 = .ok (.iload_n 1, 1) := by decide +kernel
theorem d_X_leave_39 : decode b_X_leave 39 = .ok (.invokevirtual 57, 3) := by decide +kernel
theorem d_X_leave_42 : decode b_X_leave 42 = .ok (.ireturn, 1) := by decide +kernel
theorem d_X_ask_0 : decode b_X_ask 0 = .ok (.iload_n 1, 1) := by decide +kernel
theorem d_X_ask_1 : decode b_X_ask 1 = .ok (.invokestatic 43, 3) := by decide +kernel
theorem d_X_ask_4 : decode b_X_ask 4 = .ok (.ifCond .eq 10, 3) := by decide +kernel
theorem d_X_ask_7 : decode b_X_ask 7 = .ok (.iload_n 2, 1) := by decide +kernel
theorem d_X_ask_8 : decode b_X_ask 8 = .ok (.invokestatic 60, 3) := by decide +kernel
theorem d_X_ask_11 : decode b_X_ask 11 = .ok (.ifCond .ne 5, 3) := by decide +kernel
theorem d_X_ask_14 : decode b_X_ask 14 = .ok (.iconst (-1), 1) := by decide +kernel
theorem d_X_ask_15 : decode b_X_ask 15 = .ok (.ireturn, 1) := by decide +kernel
theorem d_X_ask_16 : decode b_X_ask 16 = .ok (.aload_n 0, 1) := by decide +kernel
theorem d_X_ask_17 : decode b_X_ask 17 = .ok (.iload_n 3, 1) := by decide +kernel
theorem d_X_ask_18 : decode b_X_ask 18 = .ok (.invokevirtual 63, 3) := by decide +kernel
theorem d_X_ask_21 : decode b_X_ask 21 = .ok (.ifCond .ne 6, 3) := by decide +kernel
theorem d_X_ask_24 : decode b_X_ask 24 = .ok (.bipush (-2), 2) := by decide +kernel
theorem d_X_ask_26 : decode b_X_ask 26 = .ok (.ireturn, 1) := by decide +kernel
theorem d_X_ask_27 : decode b_X_ask 27 = .ok (.aload_n 0, 1) := by decide +kernel
theorem d_X_ask_28 : decode b_X_ask 28 = .ok (.getfield 12, 3) := by decide +kernel
theorem d_X_ask_31 : decode b_X_ask 31 = .ok (.iload_n 1, 1) := by decide +kernel
theorem d_X_ask_32 : decode b_X_ask 32 = .ok (.invokevirtual 66, 3) := by decide +kernel
theorem d_X_ask_35 : decode b_X_ask 35 = .ok (.ifCond .eq 15, 3) := by decide +kernel
theorem d_X_ask_38 : decode b_X_ask 38 = .ok (.aload_n 0, 1) := by decide +kernel
theorem d_X_ask_39 : decode b_X_ask 39 = .ok (.getfield 35, 3) := by decide +kernel
theorem d_X_ask_42 : decode b_X_ask 42 = .ok (.iload_n 1, 1) := by decide +kernel
theorem d_X_ask_43 : decode b_X_ask 43 = .ok (.iload_n 2, 1) := by decide +kernel
theorem d_X_ask_44 : decode b_X_ask 44 = .ok (.invokevirtual 69, 3) := by decide +kernel
theorem d_X_ask_47 : decode b_X_ask 47 = .ok (.ifCond .eq 6, 3) := by decide +kernel
theorem d_X_ask_50 : decode b_X_ask 50 = .ok (.bipush (-3), 2) := by decide +kernel
theorem d_X_ask_52 : decode b_X_ask 52 = .ok (.ireturn, 1) := by decide +kernel
theorem d_X_ask_53 : decode b_X_ask 53 = .ok (.aload_n 0, 1) := by decide +kernel
theorem d_X_ask_54 : decode b_X_ask 54 = .ok (.iload_n 1, 1) := by decide +kernel
theorem d_X_ask_55 : decode b_X_ask 55 = .ok (.iload_n 2, 1) := by decide +kernel
theorem d_X_ask_56 : decode b_X_ask 56 = .ok (.invokevirtual 73, 3) := by decide +kernel
theorem d_X_ask_59 : decode b_X_ask 59 = .ok (.ifCond .eq 6, 3) := by decide +kernel
theorem d_X_ask_62 : decode b_X_ask 62 = .ok (.bipush (-5), 2) := by decide +kernel
theorem d_X_ask_64 : decode b_X_ask 64 = .ok (.ireturn, 1) := by decide +kernel
theorem d_X_ask_65 : decode b_X_ask 65 = .ok (.aload_n 0, 1) := by decide +kernel
theorem d_X_ask_66 : decode b_X_ask 66 = .ok (.getfield 35, 3) := by decide +kernel
theorem d_X_ask_69 : decode b_X_ask 69 = .ok (.iload_n 1, 1) := by decide +kernel
theorem d_X_ask_70 : decode b_X_ask 70 = .ok (.invokevirtual 76, 3) := by decide +kernel
theorem d_X_ask_73 : decode b_X_ask 73 = .ok (.aload_n 0, 1) := by decide +kernel
theorem d_X_ask_74 : decode b_X_ask 74 = .ok (.getfield 21, 3) := by decide +kernel
theorem d_X_ask_77 : decode b_X_ask 77 = .ok (.iload_n 1, 1) := by decide +kernel
theorem d_X_ask_78 : decode b_X_ask 78 = .ok (.invokevirtual 79, 3) := by decide +kernel
theorem d_X_ask_81 : decode b_X_ask 81 = .ok (.if_icmp .ge 13, 3) := by decide +kernel
theorem d_X_ask_84 : decode b_X_ask 84 = .ok (.aload_n 0, 1) := by decide +kernel
theorem d_X_ask_85 : decode b_X_ask 85 = .ok (.getfield 35, 3) := by decide +kernel
theorem d_X_ask_88 : decode b_X_ask 88 = .ok (.invokevirtual 82, 3) := by decide +kernel
theorem d_X_ask_91 : decode b_X_ask 91 = .ok (.ifCond .eq 6, 3) := by decide +kernel
theorem d_X_ask_94 : decode b_X_ask 94 = .ok (.bipush (-4), 2) := by decide +kernel
theorem d_X_ask_96 : decode b_X_ask 96 = .ok (.ireturn, 1) := by decide +kernel
theorem d_X_ask_97 : decode b_X_ask 97 = .ok (.aload_n 0, 1) := by decide +kernel
theorem d_X_ask_98 : decode b_X_ask 98 = .ok (.iload_n 3, 1) := by decide +kernel
theorem d_X_ask_99 : decode b_X_ask 99 = .ok (.putfield 39, 3) := by decide +kernel
theorem d_X_ask_102 : decode b_X_ask 102 = .ok (.aload_n 0, 1) := by decide +kernel
theorem d_X_ask_103 : decode b_X_ask 103 = .ok (.getfield 35, 3) := by decide +kernel
theorem d_X_ask_106 : decode b_X_ask 106 = .ok (.iload_n 1, 1) := by decide +kernel
theorem d_X_ask_107 : decode b_X_ask 107 = .ok (.iload_n 2, 1) := by decide +kernel
theorem d_X_ask_108 : decode b_X_ask 108 = .ok (.iload_n 3, 1) := by decide +kernel
theorem d_X_ask_109 : decode b_X_ask 109 = .ok (.invokevirtual 86, 3) := by decide +kernel
theorem d_X_ask_112 : decode b_X_ask 112 = .ok (.ireturn, 1) := by decide +kernel
theorem d_X_fetch_0 : decode b_X_fetch 0 = .ok (.iload_n 1, 1) := by decide +kernel
theorem d_X_fetch_1 : decode b_X_fetch 1 = .ok (.invokestatic 60, 3) := by decide +kernel
theorem d_X_fetch_4 : decode b_X_fetch 4 = .ok (.ifCond .ne 5, 3) := by decide +kernel
theorem d_X_fetch_7 : decode b_X_fetch 7 = .ok (.iconst (-1), 1) := by decide +kernel
theorem d_X_fetch_8 : decode b_X_fetch 8 = .ok (.ireturn, 1) := by decide +kernel
theorem d_X_fetch_9 : decode b_X_fetch 9 = .ok (.aload_n 0, 1) := by decide +kernel
theorem d_X_fetch_10 : decode b_X_fetch 10 = .ok (.iload_n 2, 1) := by decide +kernel
theorem d_X_fetch_11 : decode b_X_fetch 11 = .ok (.invokevirtual 63, 3) := by decide +kernel
theorem d_X_fetch_14 : decode b_X_fetch 14 = .ok (.ifCond .ne 6, 3) := by decide +kernel
theorem d_X_fetch_17 : decode b_X_fetch 17 = .ok (.bipush (-2), 2) := by decide +kernel
theorem d_X_fetch_19 : decode b_X_fetch 19 = .ok (.ireturn, 1) := by decide +kernel
theorem d_X_fetch_20 : decode b_X_fetch 20 = .ok (.aload_n 0, 1) := by decide +kernel
theorem d_X_fetch_21 : decode b_X_fetch 21 = .ok (.getfield 35, 3) := by decide +kernel
theorem d_X_fetch_24 : decode b_X_fetch 24 = .ok (.iload_n 1, 1) := by decide +kernel
theorem d_X_fetch_25 : decode b_X_fetch 25 = .ok (.iconst 0, 1) := by decide +kernel
theorem d_X_fetch_26 : decode b_X_fetch 26 = .ok (.invokevirtual 90, 3) := by decide +kernel
theorem d_X_fetch_29 : decode b_X_fetch 29 = .ok (.istore_n 3, 1) := by decide +kernel
theorem d_X_fetch_30 : decode b_X_fetch 30 = .ok (.aload_n 0, 1) := by decide +kernel
theorem d_X_fetch_31 : decode b_X_fetch 31 = .ok (.getfield 28, 3) := by decide +kernel
theorem d_X_fetch_34 : decode b_X_fetch 34 = .ok (.iload_n 1, 1) := by decide +kernel
theorem d_X_fetch_35 : decode b_X_fetch 35 = .ok (.invokevirtual 94, 3) := by decide +kernel
theorem d_X_fetch_38 : decode b_X_fetch 38 = .ok (.ifCond .ne 20, 3) := by decide +kernel
theorem d_X_fetch_41 : decode b_X_fetch 41 = .ok (.iload_n 3, 1) := by decide +kernel
theorem d_X_fetch_42 : decode b_X_fetch 42 = .ok (.iconst (-1), 1) := by decide +kernel
theorem d_X_fetch_43 : decode b_X_fetch 43 = .ok (.if_icmp .eq 15, 3) := by decide +kernel
theorem d_X_fetch_46 : decode b_X_fetch 46 = .ok (.aload_n 0, 1) := by decide +kernel
theorem d_X_fetch_47 : decode b_X_fetch 47 = .ok (.getfield 28, 3) := by decide +kernel
theorem d_X_fetch_50 : decode b_X_fetch 50 = .ok (.iload_n 1, 1) := by decide +kernel
theorem d_X_fetch_51 : decode b_X_fetch 51 = .ok (.invokevirtual 97, 3) := by decide +kernel
theorem d_X_fetch_54 : decode b_X_fetch 54 = .ok (.iconst 2, 1) := by decide +kernel
theorem d_X_fetch_55 : decode b_X_fetch 55 = .ok (.if_icmp .le 6, 3) := by decide +kernel
theorem d_X_fetch_58 : decode b_X_fetch 58 = .ok (.bipush (-3), 2) := by decide +kernel
theorem d_X_fetch_60 : decode b_X_fetch 60 = .ok (.ireturn, 1) := by decide +kernel
theorem d_X_fetch_61 : decode b_X_fetch 61 = .ok (.aload_n 0, 1) := by decide +kernel
theorem d_X_fetch_62 : decode b_X_fetch 62 = .ok (.iload_n 2, 1) := by decide +kernel
theorem d_X_fetch_63 : decode b_X_fetch 63 = .ok (.putfield 39, 3) := by decide +kernel
theorem d_X_fetch_66 : decode b_X_fetch 66 = .ok (.aload_n 0, 1) := by decide +kernel
theorem d_X_fetch_67 : decode b_X_fetch 67 = .ok (.iload_n 1, 1) := by decide +kernel
theorem d_X_fetch_68 : decode b_X_fetch 68 = .ok (.iload_n 3, 1) := by decide +kernel
theorem d_X_fetch_69 : decode b_X_fetch 69 = .ok (.invokevirtual 100, 3) := by decide +kernel
theorem d_X_fetch_72 : decode b_X_fetch 72 = .ok (.iload_n 3, 1) := by decide +kernel
theorem d_X_fetch_73 : decode b_X_fetch 73 = .ok (.ireturn, 1) := by decide +kernel
theorem d_X_handOut_0 : decode b_X_handOut 0 = .ok (.iload_n 1, 1) := by decide +kernel
theorem d_X_handOut_1 : decode b_X_handOut 1 = .ok (.invokestatic 60, 3) := by decide +kernel
theorem d_X_handOut_4 : decode b_X_handOut 4 = .ok (.ifCond .ne 5, 3) := by decide +kernel
theorem d_X_handOut_7 : decode b_X_handOut 7 = .ok (.iconst (-1), 1) := by decide +kernel
theorem d_X_handOut_8 : decode b_X_handOut 8 = .ok (.ireturn, 1) := by decide +kernel
theorem d_X_handOut_9 : decode b_X_handOut 9 = .ok (.aload_n 0, 1) := by decide +kernel
theorem d_X_handOut_10 : decode b_X_handOut 10 = .ok (.iload_n 2, 1) := by decide +kernel
theorem d_X_handOut_11 : decode b_X_handOut 11 = .ok (.invokevirtual 63, 3) := by decide +kernel
theorem d_X_handOut_14 : decode b_X_handOut 14 = .ok (.ifCond .ne 6, 3) := by decide +kernel
theorem d_X_handOut_17 : decode b_X_handOut 17 = .ok (.bipush (-2), 2) := by decide +kernel
theorem d_X_handOut_19 : decode b_X_handOut 19 = .ok (.ireturn, 1) := by decide +kernel
theorem d_X_handOut_20 : decode b_X_handOut 20 = .ok (.aload_n 0, 1) := by decide +kernel
theorem d_X_handOut_21 : decode b_X_handOut 21 = .ok (.getfield 28, 3) := by decide +kernel
theorem d_X_handOut_24 : decode b_X_handOut 24 = .ok (.iload_n 1, 1) := by decide +kernel
theorem d_X_handOut_25 : decode b_X_handOut 25 = .ok (.invokevirtual 104, 3) := by decide +kernel
theorem d_X_handOut_28 : decode b_X_handOut 28 = .ok (.istore_n 3, 1) := by decide +kernel
theorem d_X_handOut_29 : decode b_X_handOut 29 = .ok (.aload_n 0, 1) := by decide +kernel
theorem d_X_handOut_30 : decode b_X_handOut 30 = .ok (.getfield 35, 3) := by decide +kernel
theorem d_X_handOut_33 : decode b_X_handOut 33 = .ok (.iload_n 3, 1) := by decide +kernel
theorem d_X_handOut_34 : decode b_X_handOut 34 = .ok (.invokevirtual 107, 3) := by decide +kernel
theorem d_X_handOut_37 : decode b_X_handOut 37 = .ok (.istore 4, 2) := by decide +kernel
theorem d_X_handOut_39 : decode b_X_handOut 39 = .ok (.aload_n 0, 1) := by decide +kernel
theorem d_X_handOut_40 : decode b_X_handOut 40 = .ok (.getfield 28, 3) := by decide +kernel
theorem d_X_handOut_43 : decode b_X_handOut 43 = .ok (.iload_n 1, 1) := by decide +kernel
theorem d_X_handOut_44 : decode b_X_handOut 44 = .ok (.invokevirtual 94, 3) := by decide +kernel
theorem d_X_handOut_47 : decode b_X_handOut 47 = .ok (.iconst 1, 1) := by decide +kernel
theorem d_X_handOut_48 : decode b_X_handOut 48 = .ok (.if_icmp .ne 15, 3) := by decide +kernel
theorem d_X_handOut_51 : decode b_X_handOut 51 = .ok (.aload_n 0, 1) := by decide +kernel
theorem d_X_handOut_52 : decode b_X_handOut 52 = .ok (.getfield 12, 3) := by decide +kernel
theorem d_X_handOut_55 : decode b_X_handOut 55 = .ok (.iload 4, 2) := by decide +kernel
theorem d_X_handOut_57 : decode b_X_handOut 57 = .ok (.invokevirtual 66, 3) := by decide +kernel
theorem d_X_handOut_60 : decode b_X_handOut 60 = .ok (.ifCond .ne 6, 3) := by decide +kernel
theorem d_X_handOut_63 : decode b_X_handOut 63 = .ok (.bipush (-3), 2) := by decide +kernel
theorem d_X_handOut_65 : decode b_X_handOut 65 = .ok (.ireturn, 1) := by decide +kernel
theorem d_X_handOut_66 : decode b_X_handOut 66 = .ok (.aload_n 0, 1) := by decide +kernel
theorem d_X_handOut_67 : decode b_X_handOut 67 = .ok (.iload 4, 2) := by decide +kernel
theorem d_X_handOut_69 : decode b_X_handOut 69 = .ok (.iload_n 1, 1) := by decide +kernel
theorem d_X_handOut_70 : decode b_X_handOut 70 = .ok (.invokevirtual 73, 3) := by decide +kernel
theorem d_X_handOut_73 : decode b_X_handOut 73 = .ok (.ifCond .eq 6, 3) := by decide +kernel
theorem d_X_handOut_76 : decode b_X_handOut 76 = .ok (.bipush (-5), 2) := by decide +kernel
theorem d_X_handOut_78 : decode b_X_handOut 78 = .ok (.ireturn, 1) := by decide +kernel
theorem d_X_handOut_79 : decode b_X_handOut 79 = .ok (.aload_n 0, 1) := by decide +kernel
theorem d_X_handOut_80 : decode b_X_handOut 80 = .ok (.iload_n 2, 1) := by decide +kernel
theorem d_X_handOut_81 : decode b_X_handOut 81 = .ok (.putfield 39, 3) := by decide +kernel
theorem d_X_handOut_84 : decode b_X_handOut 84 = .ok (.aload_n 0, 1) := by decide +kernel
theorem d_X_handOut_85 : decode b_X_handOut 85 = .ok (.getfield 28, 3) := by decide +kernel
theorem d_X_handOut_88 : decode b_X_handOut 88 = .ok (.iload_n 1, 1) := by decide +kernel
theorem d_X_handOut_89 : decode b_X_handOut 89 = .ok (.iconst 2, 1) := by decide +kernel
theorem d_X_handOut_90 : decode b_X_handOut 90 = .ok (.iload_n 3, 1) := by decide +kernel
theorem d_X_handOut_91 : decode b_X_handOut 91 = .ok (.invokevirtual 110, 3) := by decide +kernel
theorem d_X_handOut_94 : decode b_X_handOut 94 = .ok (.aload_n 0, 1) := by decide +kernel
theorem d_X_handOut_95 : decode b_X_handOut 95 = .ok (.getfield 35, 3) := by decide +kernel
theorem d_X_handOut_98 : decode b_X_handOut 98 = .ok (.iload_n 3, 1) := by decide +kernel
theorem d_X_handOut_99 : decode b_X_handOut 99 = .ok (.iload_n 2, 1) := by decide +kernel
theorem d_X_handOut_100 : decode b_X_handOut 100 = .ok (.invokevirtual 114, 3) := by decide +kernel
theorem d_X_handOut_103 : decode b_X_handOut 103 = .ok (.iload 4, 2) := by decide +kernel
theorem d_X_handOut_105 : decode b_X_handOut 105 = .ok (.ireturn, 1) := by decide +kernel
theorem d_X_back_0 : decode b_X_back 0 = .ok (.iload_n 1, 1) := by decide +kernel
theorem d_X_back_1 : decode b_X_back 1 = .ok (.invokestatic 60, 3) := by decide +kernel
theorem d_X_back_4 : decode b_X_back 4 = .ok (.ifCond .ne 5, 3) := by decide +kernel
theorem d_X_back_7 : decode b_X_back 7 = .ok (.iconst (-1), 1) := by decide +kernel
theorem d_X_back_8 : decode b_X_back 8 = .ok (.ireturn, 1) := by decide +kernel
theorem d_X_back_9 : decode b_X_back 9 = .ok (.aload_n 0, 1) := by decide +kernel
theorem d_X_back_10 : decode b_X_back 10 = .ok (.iload_n 2, 1) := by decide +kernel
theorem d_X_back_11 : decode b_X_back 11 = .ok (.invokevirtual 63, 3) := by decide +kernel
theorem d_X_back_14 : decode b_X_back 14 = .ok (.ifCond .ne 6, 3) := by decide +kernel
theorem d_X_back_17 : decode b_X_back 17 = .ok (.bipush (-2), 2) := by decide +kernel
theorem d_X_back_19 : decode b_X_back 19 = .ok (.ireturn, 1) := by decide +kernel
theorem d_X_back_20 : decode b_X_back 20 = .ok (.aload_n 0, 1) := by decide +kernel
theorem d_X_back_21 : decode b_X_back 21 = .ok (.getfield 28, 3) := by decide +kernel
theorem d_X_back_24 : decode b_X_back 24 = .ok (.iload_n 1, 1) := by decide +kernel
theorem d_X_back_25 : decode b_X_back 25 = .ok (.invokevirtual 94, 3) := by decide +kernel
theorem d_X_back_28 : decode b_X_back 28 = .ok (.iconst 2, 1) := by decide +kernel
theorem d_X_back_29 : decode b_X_back 29 = .ok (.if_icmp .eq 6, 3) := by decide +kernel
theorem d_X_back_32 : decode b_X_back 32 = .ok (.bipush (-3), 2) := by decide +kernel
theorem d_X_back_34 : decode b_X_back 34 = .ok (.ireturn, 1) := by decide +kernel
theorem d_X_back_35 : decode b_X_back 35 = .ok (.aload_n 0, 1) := by decide +kernel
theorem d_X_back_36 : decode b_X_back 36 = .ok (.iload_n 2, 1) := by decide +kernel
theorem d_X_back_37 : decode b_X_back 37 = .ok (.putfield 39, 3) := by decide +kernel
theorem d_X_back_40 : decode b_X_back 40 = .ok (.aload_n 0, 1) := by decide +kernel
theorem d_X_back_41 : decode b_X_back 41 = .ok (.getfield 28, 3) := by decide +kernel
theorem d_X_back_44 : decode b_X_back 44 = .ok (.iload_n 1, 1) := by decide +kernel
theorem d_X_back_45 : decode b_X_back 45 = .ok (.invokevirtual 104, 3) := by decide +kernel
theorem d_X_back_48 : decode b_X_back 48 = .ok (.istore_n 3, 1) := by decide +kernel
theorem d_X_back_49 : decode b_X_back 49 = .ok (.aload_n 0, 1) := by decide +kernel
theorem d_X_back_50 : decode b_X_back 50 = .ok (.getfield 28, 3) := by decide +kernel
theorem d_X_back_53 : decode b_X_back 53 = .ok (.iload_n 1, 1) := by decide +kernel
theorem d_X_back_54 : decode b_X_back 54 = .ok (.iconst 3, 1) := by decide +kernel
theorem d_X_back_55 : decode b_X_back 55 = .ok (.iload_n 3, 1) := by decide +kernel
theorem d_X_back_56 : decode b_X_back 56 = .ok (.invokevirtual 110, 3) := by decide +kernel
theorem d_X_back_59 : decode b_X_back 59 = .ok (.aload_n 0, 1) := by decide +kernel
theorem d_X_back_60 : decode b_X_back 60 = .ok (.getfield 35, 3) := by decide +kernel
theorem d_X_back_63 : decode b_X_back 63 = .ok (.iload_n 3, 1) := by decide +kernel
theorem d_X_back_64 : decode b_X_back 64 = .ok (.iload_n 2, 1) := by decide +kernel
theorem d_X_back_65 : decode b_X_back 65 = .ok (.invokevirtual 117, 3) := by decide +kernel
theorem d_X_back_68 : decode b_X_back 68 = .ok (.iload_n 3, 1) := by decide +kernel
theorem d_X_back_69 : decode b_X_back 69 = .ok (.ireturn, 1) := by decide +kernel
theorem d_X_look_0 : decode b_X_look 0 = .ok (.iload_n 1, 1) := by decide +kernel
theorem d_X_look_1 : decode b_X_look 1 = .ok (.invokestatic 60, 3) := by decide +kernel
theorem d_X_look_4 : decode b_X_look 4 = .ok (.ifCond .ne 5, 3) := by decide +kernel
theorem d_X_look_7 : decode b_X_look 7 = .ok (.iconst (-1), 1) := by decide +kernel
theorem d_X_look_8 : decode b_X_look 8 = .ok (.ireturn, 1) := by decide +kernel
theorem d_X_look_9 : decode b_X_look 9 = .ok (.iload_n 2, 1) := by decide +kernel
theorem d_X_look_10 : decode b_X_look 10 = .ok (.aload_n 0, 1) := by decide +kernel
theorem d_X_look_11 : decode b_X_look 11 = .ok (.getfield 28, 3) := by decide +kernel
theorem d_X_look_14 : decode b_X_look 14 = .ok (.iload_n 1, 1) := by decide +kernel
theorem d_X_look_15 : decode b_X_look 15 = .ok (.invokevirtual 97, 3) := by decide +kernel
theorem d_X_look_18 : decode b_X_look 18 = .ok (.iconst 3, 1) := by decide +kernel
theorem d_X_look_19 : decode b_X_look 19 = .ok (.invokestatic 120, 3) := by decide +kernel
theorem d_X_look_22 : decode b_X_look 22 = .ok (.ifCond .ne 6, 3) := by decide +kernel
theorem d_X_look_25 : decode b_X_look 25 = .ok (.bipush (-2), 2) := by decide +kernel
theorem d_X_look_27 : decode b_X_look 27 = .ok (.ireturn, 1) := by decide +kernel
theorem d_X_look_28 : decode b_X_look 28 = .ok (.aload_n 0, 1) := by decide +kernel
theorem d_X_look_29 : decode b_X_look 29 = .ok (.getfield 28, 3) := by decide +kernel
theorem d_X_look_32 : decode b_X_look 32 = .ok (.iload_n 1, 1) := by decide +kernel
theorem d_X_look_33 : decode b_X_look 33 = .ok (.invokevirtual 94, 3) := by decide +kernel
theorem d_X_look_36 : decode b_X_look 36 = .ok (.iconst 3, 1) := by decide +kernel
theorem d_X_look_37 : decode b_X_look 37 = .ok (.if_icmp .eq 6, 3) := by decide +kernel
theorem d_X_look_40 : decode b_X_look 40 = .ok (.bipush (-3), 2) := by decide +kernel
theorem d_X_look_42 : decode b_X_look 42 = .ok (.ireturn, 1) := by decide +kernel
theorem d_X_look_43 : decode b_X_look 43 = .ok (.aload_n 0, 1) := by decide +kernel
theorem d_X_look_44 : decode b_X_look 44 = .ok (.getfield 28, 3) := by decide +kernel
theorem d_X_look_47 : decode b_X_look 47 = .ok (.iload_n 1, 1) := by decide +kernel
theorem d_X_look_48 : decode b_X_look 48 = .ok (.iload_n 2, 1) := by decide +kernel
theorem d_X_look_49 : decode b_X_look 49 = .ok (.invokevirtual 124, 3) := by decide +kernel
theorem d_X_look_52 : decode b_X_look 52 = .ok (.aload_n 0, 1) := by decide +kernel
theorem d_X_look_53 : decode b_X_look 53 = .ok (.getfield 35, 3) := by decide +kernel
theorem d_X_look_56 : decode b_X_look 56 = .ok (.iload_n 1, 1) := by decide +kernel
theorem d_X_look_57 : decode b_X_look 57 = .ok (.iconst 0, 1) := by decide +kernel
theorem d_X_look_58 : decode b_X_look 58 = .ok (.invokevirtual 90, 3) := by decide +kernel
theorem d_X_look_61 : decode b_X_look 61 = .ok (.istore_n 3, 1) := by decide +kernel
theorem d_X_look_62 : decode b_X_look 62 = .ok (.iload_n 2, 1) := by decide +kernel
theorem d_X_look_63 : decode b_X_look 63 = .ok (.iconst 1, 1) := by decide +kernel
theorem d_X_look_64 : decode b_X_look 64 = .ok (.if_icmp .gt 8, 3) := by decide +kernel
theorem d_X_look_67 : decode b_X_look 67 = .ok (.iload_n 3, 1) := by decide +kernel
theorem d_X_look_68 : decode b_X_look 68 = .ok (.iconst (-1), 1) := by decide +kernel
theorem d_X_look_69 : decode b_X_look 69 = .ok (.if_icmp .ne 17, 3) := by decide +kernel
theorem d_X_look_72 : decode b_X_look 72 = .ok (.aload_n 0, 1) := by decide +kernel
theorem d_X_look_73 : decode b_X_look 73 = .ok (.getfield 28, 3) := by decide +kernel
theorem d_X_look_76 : decode b_X_look 76 = .ok (.iload_n 1, 1) := by decide +kernel
theorem d_X_look_77 : decode b_X_look 77 = .ok (.iconst 0, 1) := by decide +kernel
theorem d_X_look_78 : decode b_X_look 78 = .ok (.iconst (-1), 1) := by decide +kernel
theorem d_X_look_79 : decode b_X_look 79 = .ok (.invokevirtual 110, 3) := by decide +kernel
theorem d_X_look_82 : decode b_X_look 82 = .ok (.sipush 1000, 3) := by decide +kernel
theorem d_X_look_85 : decode b_X_look 85 = .ok (.ireturn, 1) := by decide +kernel
theorem d_X_look_86 : decode b_X_look 86 = .ok (.aload_n 0, 1) := by decide +kernel
theorem d_X_look_87 : decode b_X_look 87 = .ok (.iload_n 1, 1) := by decide +kernel
theorem d_X_look_88 : decode b_X_look 88 = .ok (.iload_n 3, 1) := by decide +kernel
theorem d_X_look_89 : decode b_X_look 89 = .ok (.invokevirtual 100, 3) := by decide +kernel
theorem d_X_look_92 : decode b_X_look 92 = .ok (.iload_n 3, 1) := by decide +kernel
theorem d_X_look_93 : decode b_X_look 93 = .ok (.ireturn, 1) := by decide +kernel
theorem d_X_mend_0 : decode b_X_mend 0 = .ok (.iload_n 1, 1) := by decide +kernel
theorem d_X_mend_1 : decode b_X_mend 1 = .ok (.invokestatic 60, 3) := by decide +kernel
theorem d_X_mend_4 : decode b_X_mend 4 = .ok (.ifCond .ne 5, 3) := by decide +kernel
theorem d_X_mend_7 : decode b_X_mend 7 = .ok (.iconst (-1), 1) := by decide +kernel
theorem d_X_mend_8 : decode b_X_mend 8 = .ok (.ireturn, 1) := by decide +kernel
theorem d_X_mend_9 : decode b_X_mend 9 = .ok (.aload_n 0, 1) := by decide +kernel
theorem d_X_mend_10 : decode b_X_mend 10 = .ok (.getfield 28, 3) := by decide +kernel
theorem d_X_mend_13 : decode b_X_mend 13 = .ok (.iload_n 1, 1) := by decide +kernel
theorem d_X_mend_14 : decode b_X_mend 14 = .ok (.invokevirtual 94, 3) := by decide +kernel
theorem d_X_mend_17 : decode b_X_mend 17 = .ok (.ifCond .eq 6, 3) := by decide +kernel
theorem d_X_mend_20 : decode b_X_mend 20 = .ok (.bipush (-3), 2) := by decide +kernel
theorem d_X_mend_22 : decode b_X_mend 22 = .ok (.ireturn, 1) := by decide +kernel
theorem d_X_mend_23 : decode b_X_mend 23 = .ok (.aload_n 0, 1) := by decide +kernel
theorem d_X_mend_24 : decode b_X_mend 24 = .ok (.getfield 28, 3) := by decide +kernel
theorem d_X_mend_27 : decode b_X_mend 27 = .ok (.iload_n 1, 1) := by decide +kernel
theorem d_X_mend_28 : decode b_X_mend 28 = .ok (.iconst 0, 1) := by decide +kernel
theorem d_X_mend_29 : decode b_X_mend 29 = .ok (.invokevirtual 124, 3) := by decide +kernel
theorem d_X_mend_32 : decode b_X_mend 32 = .ok (.iconst 1, 1) := by decide +kernel
theorem d_X_mend_33 : decode b_X_mend 33 = .ok (.ireturn, 1) := by decide +kernel
theorem d_X_restrict_0 : decode b_X_restrict 0 = .ok (.iload_n 1, 1) := by decide +kernel
theorem d_X_restrict_1 : decode b_X_restrict 1 = .ok (.invokestatic 60, 3) := by decide +kernel
theorem d_X_restrict_4 : decode b_X_restrict 4 = .ok (.ifCond .ne 5, 3) := by decide +kernel
theorem d_X_restrict_7 : decode b_X_restrict 7 = .ok (.iconst (-1), 1) := by decide +kernel
theorem d_X_restrict_8 : decode b_X_restrict 8 = .ok (.ireturn, 1) := by decide +kernel
theorem d_X_restrict_9 : decode b_X_restrict 9 = .ok (.iload_n 2, 1) := by decide +kernel
theorem d_X_restrict_10 : decode b_X_restrict 10 = .ok (.iconst 0, 1) := by decide +kernel
theorem d_X_restrict_11 : decode b_X_restrict 11 = .ok (.iconst 3, 1) := by decide +kernel
theorem d_X_restrict_12 : decode b_X_restrict 12 = .ok (.invokestatic 120, 3) := by decide +kernel
theorem d_X_restrict_15 : decode b_X_restrict 15 = .ok (.ifCond .ne 6, 3) := by decide +kernel
theorem d_X_restrict_18 : decode b_X_restrict 18 = .ok (.bipush (-2), 2) := by decide +kernel
theorem d_X_restrict_20 : decode b_X_restrict 20 = .ok (.ireturn, 1) := by decide +kernel
theorem d_X_restrict_21 : decode b_X_restrict 21 = .ok (.aload_n 0, 1) := by decide +kernel
theorem d_X_restrict_22 : decode b_X_restrict 22 = .ok (.getfield 28, 3) := by decide +kernel
theorem d_X_restrict_25 : decode b_X_restrict 25 = .ok (.iload_n 1, 1) := by decide +kernel
theorem d_X_restrict_26 : decode b_X_restrict 26 = .ok (.iload_n 2, 1) := by decide +kernel
theorem d_X_restrict_27 : decode b_X_restrict 27 = .ok (.invokevirtual 127, 3) := by decide +kernel
theorem d_X_restrict_30 : decode b_X_restrict 30 = .ok (.aload_n 0, 1) := by decide +kernel
theorem d_X_restrict_31 : decode b_X_restrict 31 = .ok (.iload_n 1, 1) := by decide +kernel
theorem d_X_restrict_32 : decode b_X_restrict 32 = .ok (.invokevirtual 130, 3) := by decide +kernel
theorem d_X_restrict_35 : decode b_X_restrict 35 = .ok (.ireturn, 1) := by decide +kernel
theorem d_X_right_0 : decode b_X_right 0 = .ok (.iload_n 1, 1) := by decide +kernel
theorem d_X_right_1 : decode b_X_right 1 = .ok (.invokestatic 43, 3) := by decide +kernel
theorem d_X_right_4 : decode b_X_right 4 = .ok (.ifCond .ne 5, 3) := by decide +kernel
theorem d_X_right_7 : decode b_X_right 7 = .ok (.iconst (-1), 1) := by decide +kernel
theorem d_X_right_8 : decode b_X_right 8 = .ok (.ireturn, 1) := by decide +kernel
theorem d_X_right_9 : decode b_X_right 9 = .ok (.iload_n 2, 1) := by decide +kernel
theorem d_X_right_10 : decode b_X_right 10 = .ok (.iconst 0, 1) := by decide +kernel
theorem d_X_right_11 : decode b_X_right 11 = .ok (.iconst 3, 1) := by decide +kernel
theorem d_X_right_12 : decode b_X_right 12 = .ok (.invokestatic 120, 3) := by decide +kernel
theorem d_X_right_15 : decode b_X_right 15 = .ok (.ifCond .ne 6, 3) := by decide +kernel
theorem d_X_right_18 : decode b_X_right 18 = .ok (.bipush (-2), 2) := by decide +kernel
theorem d_X_right_20 : decode b_X_right 20 = .ok (.ireturn, 1) := by decide +kernel
theorem d_X_right_21 : decode b_X_right 21 = .ok (.aload_n 0, 1) := by decide +kernel
theorem d_X_right_22 : decode b_X_right 22 = .ok (.getfield 21, 3) := by decide +kernel
theorem d_X_right_25 : decode b_X_right 25 = .ok (.iload_n 1, 1) := by decide +kernel
theorem d_X_right_26 : decode b_X_right 26 = .ok (.iload_n 2, 1) := by decide +kernel
theorem d_X_right_27 : decode b_X_right 27 = .ok (.invokevirtual 133, 3) := by decide +kernel
theorem d_X_right_30 : decode b_X_right 30 = .ok (.iconst 1, 1) := by decide +kernel
theorem d_X_right_31 : decode b_X_right 31 = .ok (.ireturn, 1) := by decide +kernel
theorem d_X_limit_0 : decode b_X_limit 0 = .ok (.iload_n 1, 1) := by decide +kernel
theorem d_X_limit_1 : decode b_X_limit 1 = .ok (.invokestatic 43, 3) := by decide +kernel
theorem d_X_limit_4 : decode b_X_limit 4 = .ok (.ifCond .ne 5, 3) := by decide +kernel
theorem d_X_limit_7 : decode b_X_limit 7 = .ok (.iconst (-1), 1) := by decide +kernel
theorem d_X_limit_8 : decode b_X_limit 8 = .ok (.ireturn, 1) := by decide +kernel
theorem d_X_limit_9 : decode b_X_limit 9 = .ok (.iload_n 2, 1) := by decide +kernel
theorem d_X_limit_10 : decode b_X_limit 10 = .ok (.iconst 0, 1) := by decide +kernel
theorem d_X_limit_11 : decode b_X_limit 11 = .ok (.bipush 9, 2) := by decide +kernel
theorem d_X_limit_13 : decode b_X_limit 13 = .ok (.invokestatic 120, 3) := by decide +kernel
theorem d_X_limit_16 : decode b_X_limit 16 = .ok (.ifCond .eq 14, 3) := by decide +kernel
theorem d_X_limit_19 : decode b_X_limit 19 = .ok (.iload_n 3, 1) := by decide +kernel
theorem d_X_limit_20 : decode b_X_limit 20 = .ok (.iconst 0, 1) := by decide +kernel
theorem d_X_limit_21 : decode b_X_limit 21 = .ok (.sipush 500, 3) := by decide +kernel
theorem d_X_limit_24 : decode b_X_limit 24 = .ok (.invokestatic 120, 3) := by decide +kernel
theorem d_X_limit_27 : decode b_X_limit 27 = .ok (.ifCond .ne 6, 3) := by decide +kernel
theorem d_X_limit_30 : decode b_X_limit 30 = .ok (.bipush (-2), 2) := by decide +kernel
theorem d_X_limit_32 : decode b_X_limit 32 = .ok (.ireturn, 1) := by decide +kernel
theorem d_X_limit_33 : decode b_X_limit 33 = .ok (.aload_n 0, 1) := by decide +kernel
theorem d_X_limit_34 : decode b_X_limit 34 = .ok (.getfield 21, 3) := by decide +kernel
theorem d_X_limit_37 : decode b_X_limit 37 = .ok (.iload_n 1, 1) := by decide +kernel
theorem d_X_limit_38 : decode b_X_limit 38 = .ok (.iload_n 2, 1) := by decide +kernel
theorem d_X_limit_39 : decode b_X_limit 39 = .ok (.iload_n 3, 1) := by decide +kernel
theorem d_X_limit_40 : decode b_X_limit 40 = .ok (.invokevirtual 136, 3) := by decide +kernel
theorem d_X_limit_43 : decode b_X_limit 43 = .ok (.iconst 1, 1) := by decide +kernel
theorem d_X_limit_44 : decode b_X_limit 44 = .ok (.ireturn, 1) := by decide +kernel
theorem d_X_copy_0 : decode b_X_copy 0 = .ok (.iload_n 1, 1) := by decide +kernel
theorem d_X_copy_1 : decode b_X_copy 1 = .ok (.invokestatic 60, 3) := by decide +kernel
theorem d_X_copy_4 : decode b_X_copy 4 = .ok (.ifCond .ne 5, 3) := by decide +kernel
theorem d_X_copy_7 : decode b_X_copy 7 = .ok (.iconst (-1), 1) := by decide +kernel
theorem d_X_copy_8 : decode b_X_copy 8 = .ok (.ireturn, 1) := by decide +kernel
theorem d_X_copy_9 : decode b_X_copy 9 = .ok (.iload_n 2, 1) := by decide +kernel
theorem d_X_copy_10 : decode b_X_copy 10 = .ok (.iconst 1, 1) := by decide +kernel
theorem d_X_copy_11 : decode b_X_copy 11 = .ok (.sipush 500, 3) := by decide +kernel
theorem d_X_copy_14 : decode b_X_copy 14 = .ok (.invokestatic 120, 3) := by decide +kernel
theorem d_X_copy_17 : decode b_X_copy 17 = .ok (.ifCond .eq 11, 3) := by decide +kernel
theorem d_X_copy_20 : decode b_X_copy 20 = .ok (.aload_n 0, 1) := by decide +kernel
theorem d_X_copy_21 : decode b_X_copy 21 = .ok (.iload_n 3, 1) := by decide +kernel
theorem d_X_copy_22 : decode b_X_copy 22 = .ok (.invokevirtual 63, 3) := by decide +kernel
theorem d_X_copy_25 : decode b_X_copy 25 = .ok (.ifCond .ne 6, 3) := by decide +kernel
theorem d_X_copy_28 : decode b_X_copy 28 = .ok (.bipush (-2), 2) := by decide +kernel
theorem d_X_copy_30 : decode b_X_copy 30 = .ok (.ireturn, 1) := by decide +kernel
theorem d_X_copy_31 : decode b_X_copy 31 = .ok (.aload_n 0, 1) := by decide +kernel
theorem d_X_copy_32 : decode b_X_copy 32 = .ok (.getfield 28, 3) := by decide +kernel
theorem d_X_copy_35 : decode b_X_copy 35 = .ok (.iload_n 1, 1) := by decide +kernel
theorem d_X_copy_36 : decode b_X_copy 36 = .ok (.invokevirtual 94, 3) := by decide +kernel
theorem d_X_copy_39 : decode b_X_copy 39 = .ok (.iconst 2, 1) := by decide +kernel
theorem d_X_copy_40 : decode b_X_copy 40 = .ok (.if_icmp .ne 15, 3) := by decide +kernel
theorem d_X_copy_43 : decode b_X_copy 43 = .ok (.aload_n 0, 1) := by decide +kernel
theorem d_X_copy_44 : decode b_X_copy 44 = .ok (.getfield 28, 3) := by decide +kernel
theorem d_X_copy_47 : decode b_X_copy 47 = .ok (.iload_n 1, 1) := by decide +kernel
theorem d_X_copy_48 : decode b_X_copy 48 = .ok (.invokevirtual 97, 3) := by decide +kernel
theorem d_X_copy_51 : decode b_X_copy 51 = .ok (.iconst 1, 1) := by decide +kernel
theorem d_X_copy_52 : decode b_X_copy 52 = .ok (.if_icmp .le 6, 3) := by decide +kernel
theorem d_X_copy_55 : decode b_X_copy 55 = .ok (.bipush (-3), 2) := by decide +kernel
theorem d_X_copy_57 : decode b_X_copy 57 = .ok (.ireturn, 1) := by decide +kernel
theorem d_X_copy_58 : decode b_X_copy 58 = .ok (.aload_n 0, 1) := by decide +kernel
theorem d_X_copy_59 : decode b_X_copy 59 = .ok (.getfield 35, 3) := by decide +kernel
theorem d_X_copy_62 : decode b_X_copy 62 = .ok (.aload_n 0, 1) := by decide +kernel
theorem d_X_copy_63 : decode b_X_copy 63 = .ok (.getfield 28, 3) := by decide +kernel
theorem d_X_copy_66 : decode b_X_copy 66 = .ok (.iload_n 1, 1) := by decide +kernel
theorem d_X_copy_67 : decode b_X_copy 67 = .ok (.invokevirtual 104, 3) := by decide +kernel
theorem d_X_copy_70 : decode b_X_copy 70 = .ok (.invokevirtual 107, 3) := by decide +kernel
theorem d_X_copy_73 : decode b_X_copy 73 = .ok (.istore 4, 2) := by decide +kernel
theorem d_X_copy_75 : decode b_X_copy 75 = .ok (.iload_n 3, 1) := by decide +kernel
theorem d_X_copy_76 : decode b_X_copy 76 = .ok (.ldc 139, 2) := by decide +kernel
theorem d_X_copy_78 : decode b_X_copy 78 = .ok (.idiv, 1) := by decide +kernel
theorem d_X_copy_79 : decode b_X_copy 79 = .ok (.istore 5, 2) := by decide +kernel
theorem d_X_copy_81 : decode b_X_copy 81 = .ok (.iload_n 2, 1) := by decide +kernel
theorem d_X_copy_82 : decode b_X_copy 82 = .ok (.aload_n 0, 1) := by decide +kernel
theorem d_X_copy_83 : decode b_X_copy 83 = .ok (.getfield 21, 3) := by decide +kernel
theorem d_X_copy_86 : decode b_X_copy 86 = .ok (.iload 4, 2) := by decide +kernel
theorem d_X_copy_88 : decode b_X_copy 88 = .ok (.iload 5, 2) := by decide +kernel
theorem d_X_copy_90 : decode b_X_copy 90 = .ok (.invokevirtual 140, 3) := by decide +kernel
theorem d_X_copy_93 : decode b_X_copy 93 = .ok (.if_icmp .le 6, 3) := by decide +kernel
theorem d_X_copy_96 : decode b_X_copy 96 = .ok (.bipush (-4), 2) := by decide +kernel
theorem d_X_copy_98 : decode b_X_copy 98 = .ok (.ireturn, 1) := by decide +kernel
theorem d_X_copy_99 : decode b_X_copy 99 = .ok (.aload_n 0, 1) := by decide +kernel
theorem d_X_copy_100 : decode b_X_copy 100 = .ok (.iload_n 3, 1) := by decide +kernel
theorem d_X_copy_101 : decode b_X_copy 101 = .ok (.putfield 39, 3) := by decide +kernel
theorem d_X_copy_104 : decode b_X_copy 104 = .ok (.aload_n 0, 1) := by decide +kernel
theorem d_X_copy_105 : decode b_X_copy 105 = .ok (.getfield 21, 3) := by decide +kernel
theorem d_X_copy_108 : decode b_X_copy 108 = .ok (.iload 4, 2) := by decide +kernel
theorem d_X_copy_110 : decode b_X_copy 110 = .ok (.iload 5, 2) := by decide +kernel
theorem d_X_copy_112 : decode b_X_copy 112 = .ok (.iload_n 2, 1) := by decide +kernel
theorem d_X_copy_113 : decode b_X_copy 113 = .ok (.invokevirtual 143, 3) := by decide +kernel
theorem d_X_copy_116 : decode b_X_copy 116 = .ok (.aload_n 0, 1) := by decide +kernel
theorem d_X_copy_117 : decode b_X_copy 117 = .ok (.getfield 21, 3) := by decide +kernel
theorem d_X_copy_120 : decode b_X_copy 120 = .ok (.iload 4, 2) := by decide +kernel
theorem d_X_copy_122 : decode b_X_copy 122 = .ok (.iload 5, 2) := by decide +kernel
theorem d_X_copy_124 : decode b_X_copy 124 = .ok (.invokevirtual 140, 3) := by decide +kernel
theorem d_X_copy_127 : decode b_X_copy 127 = .ok (.ireturn, 1) := by decide +kernel
theorem d_X_close_0 : decode b_X_close 0 = .ok (.aload_n 0, 1) := by decide +kernel
theorem d_X_close_1 : decode b_X_close 1 = .ok (.iload_n 1, 1) := by decide +kernel
theorem d_X_close_2 : decode b_X_close 2 = .ok (.invokevirtual 63, 3) := by decide +kernel
theorem d_X_close_5 : decode b_X_close 5 = .ok (.ifCond .ne 6, 3) := by decide +kernel
theorem d_X_close_8 : decode b_X_close 8 = .ok (.bipush (-2), 2) := by decide +kernel
theorem d_X_close_10 : decode b_X_close 10 = .ok (.ireturn, 1) := by decide +kernel
theorem d_X_close_11 : decode b_X_close 11 = .ok (.aload_n 0, 1) := by decide +kernel
theorem d_X_close_12 : decode b_X_close 12 = .ok (.iload_n 1, 1) := by decide +kernel
theorem d_X_close_13 : decode b_X_close 13 = .ok (.putfield 39, 3) := by decide +kernel
theorem d_X_close_16 : decode b_X_close 16 = .ok (.aload_n 0, 1) := by decide +kernel
theorem d_X_close_17 : decode b_X_close 17 = .ok (.getfield 35, 3) := by decide +kernel
theorem d_X_close_20 : decode b_X_close 20 = .ok (.iload_n 1, 1) := by decide +kernel
theorem d_X_close_21 : decode b_X_close 21 = .ok (.invokevirtual 146, 3) := by decide +kernel
theorem d_X_close_24 : decode b_X_close 24 = .ok (.aload_n 0, 1) := by decide +kernel
theorem d_X_close_25 : decode b_X_close 25 = .ok (.getfield 12, 3) := by decide +kernel
theorem d_X_close_28 : decode b_X_close 28 = .ok (.invokevirtual 149, 3) := by decide +kernel
theorem d_X_close_31 : decode b_X_close 31 = .ok (.aload_n 0, 1) := by decide +kernel
theorem d_X_close_32 : decode b_X_close 32 = .ok (.getfield 28, 3) := by decide +kernel
theorem d_X_close_35 : decode b_X_close 35 = .ok (.invokevirtual 152, 3) := by decide +kernel
theorem d_X_close_38 : decode b_X_close 38 = .ok (.ireturn, 1) := by decide +kernel
theorem d_X_unit_0 : decode b_X_unit 0 = .ok (.iload_n 1, 1) := by decide +kernel
theorem d_X_unit_1 : decode b_X_unit 1 = .ok (.invokestatic 60, 3) := by decide +kernel
theorem d_X_unit_4 : decode b_X_unit 4 = .ok (.ifCond .ne 5, 3) := by decide +kernel
theorem d_X_unit_7 : decode b_X_unit 7 = .ok (.iconst (-1), 1) := by decide +kernel
theorem d_X_unit_8 : decode b_X_unit 8 = .ok (.ireturn, 1) := by decide +kernel
theorem d_X_unit_9 : decode b_X_unit 9 = .ok (.iload_n 2, 1) := by decide +kernel
theorem d_X_unit_10 : decode b_X_unit 10 = .ok (.tableswitch 79 0 4 #[34, 43, 52, 61, 70], 34) := by decide +kernel
theorem d_X_unit_44 : decode b_X_unit 44 = .ok (.aload_n 0, 1) := by decide +kernel
theorem d_X_unit_45 : decode b_X_unit 45 = .ok (.getfield 28, 3) := by decide +kernel
theorem d_X_unit_48 : decode b_X_unit 48 = .ok (.iload_n 1, 1) := by decide +kernel
theorem d_X_unit_49 : decode b_X_unit 49 = .ok (.invokevirtual 94, 3) := by decide +kernel
theorem d_X_unit_52 : decode b_X_unit 52 = .ok (.ireturn, 1) := by decide +kernel
theorem d_X_unit_53 : decode b_X_unit 53 = .ok (.aload_n 0, 1) := by decide +kernel
theorem d_X_unit_54 : decode b_X_unit 54 = .ok (.getfield 28, 3) := by decide +kernel
theorem d_X_unit_57 : decode b_X_unit 57 = .ok (.iload_n 1, 1) := by decide +kernel
theorem d_X_unit_58 : decode b_X_unit 58 = .ok (.invokevirtual 97, 3) := by decide +kernel
theorem d_X_unit_61 : decode b_X_unit 61 = .ok (.ireturn, 1) := by decide +kernel
theorem d_X_unit_62 : decode b_X_unit 62 = .ok (.aload_n 0, 1) := by decide +kernel
theorem d_X_unit_63 : decode b_X_unit 63 = .ok (.getfield 28, 3) := by decide +kernel
theorem d_X_unit_66 : decode b_X_unit 66 = .ok (.iload_n 1, 1) := by decide +kernel
theorem d_X_unit_67 : decode b_X_unit 67 = .ok (.invokevirtual 156, 3) := by decide +kernel
theorem d_X_unit_70 : decode b_X_unit 70 = .ok (.ireturn, 1) := by decide +kernel
theorem d_X_unit_71 : decode b_X_unit 71 = .ok (.aload_n 0, 1) := by decide +kernel
theorem d_X_unit_72 : decode b_X_unit 72 = .ok (.getfield 28, 3) := by decide +kernel
theorem d_X_unit_75 : decode b_X_unit 75 = .ok (.iload_n 1, 1) := by decide +kernel
theorem d_X_unit_76 : decode b_X_unit 76 = .ok (.invokevirtual 104, 3) := by decide +kernel
theorem d_X_unit_79 : decode b_X_unit 79 = .ok (.ireturn, 1) := by decide +kernel
theorem d_X_unit_80 : decode b_X_unit 80 = .ok (.aload_n 0, 1) := by decide +kernel
theorem d_X_unit_81 : decode b_X_unit 81 = .ok (.getfield 35, 3) := by decide +kernel
theorem d_X_unit_84 : decode b_X_unit 84 = .ok (.iload_n 1, 1) := by decide +kernel
theorem d_X_unit_85 : decode b_X_unit 85 = .ok (.invokevirtual 159, 3) := by decide +kernel
theorem d_X_unit_88 : decode b_X_unit 88 = .ok (.ireturn, 1) := by decide +kernel
theorem d_X_unit_89 : decode b_X_unit 89 = .ok (.iconst (-1), 1) := by decide +kernel
theorem d_X_unit_90 : decode b_X_unit 90 = .ok (.ireturn, 1) := by decide +kernel
theorem d_X_person_0 : decode b_X_person 0 = .ok (.iload_n 1, 1) := by decide +kernel
theorem d_X_person_1 : decode b_X_person 1 = .ok (.invokestatic 43, 3) := by decide +kernel
theorem d_X_person_4 : decode b_X_person 4 = .ok (.ifCond .ne 5, 3) := by decide +kernel
theorem d_X_person_7 : decode b_X_person 7 = .ok (.iconst (-1), 1) := by decide +kernel
theorem d_X_person_8 : decode b_X_person 8 = .ok (.ireturn, 1) := by decide +kernel
theorem d_X_person_9 : decode b_X_person 9 = .ok (.iload_n 2, 1) := by decide +kernel
theorem d_X_person_10 : decode b_X_person 10 = .ok (.tableswitch 79 0 4 #[34, 43, 52, 61, 70], 34) := by decide +kernel
theorem d_X_person_44 : decode b_X_person 44 = .ok (.aload_n 0, 1) := by decide +kernel
theorem d_X_person_45 : decode b_X_person 45 = .ok (.getfield 12, 3) := by decide +kernel
theorem d_X_person_48 : decode b_X_person 48 = .ok (.iload_n 1, 1) := by decide +kernel
theorem d_X_person_49 : decode b_X_person 49 = .ok (.invokevirtual 162, 3) := by decide +kernel
theorem d_X_person_52 : decode b_X_person 52 = .ok (.ireturn, 1) := by decide +kernel
theorem d_X_person_53 : decode b_X_person 53 = .ok (.aload_n 0, 1) := by decide +kernel
theorem d_X_person_54 : decode b_X_person 54 = .ok (.getfield 12, 3) := by decide +kernel
theorem d_X_person_57 : decode b_X_person 57 = .ok (.iload_n 1, 1) := by decide +kernel
theorem d_X_person_58 : decode b_X_person 58 = .ok (.invokevirtual 165, 3) := by decide +kernel
theorem d_X_person_61 : decode b_X_person 61 = .ok (.ireturn, 1) := by decide +kernel
theorem d_X_person_62 : decode b_X_person 62 = .ok (.aload_n 0, 1) := by decide +kernel
theorem d_X_person_63 : decode b_X_person 63 = .ok (.getfield 35, 3) := by decide +kernel
theorem d_X_person_66 : decode b_X_person 66 = .ok (.iload_n 1, 1) := by decide +kernel
theorem d_X_person_67 : decode b_X_person 67 = .ok (.invokevirtual 76, 3) := by decide +kernel
theorem d_X_person_70 : decode b_X_person 70 = .ok (.ireturn, 1) := by decide +kernel
theorem d_X_person_71 : decode b_X_person 71 = .ok (.aload_n 0, 1) := by decide +kernel
theorem d_X_person_72 : decode b_X_person 72 = .ok (.getfield 35, 3) := by decide +kernel
theorem d_X_person_75 : decode b_X_person 75 = .ok (.iload_n 1, 1) := by decide +kernel
theorem d_X_person_76 : decode b_X_person 76 = .ok (.invokevirtual 54, 3) := by decide +kernel
theorem d_X_person_79 : decode b_X_person 79 = .ok (.ireturn, 1) := by decide +kernel
theorem d_X_person_80 : decode b_X_person 80 = .ok (.aload_n 0, 1) := by decide +kernel
theorem d_X_person_81 : decode b_X_person 81 = .ok (.getfield 21, 3) := by decide +kernel
theorem d_X_person_84 : decode b_X_person 84 = .ok (.iload_n 1, 1) := by decide +kernel
theorem d_X_person_85 : decode b_X_person 85 = .ok (.invokevirtual 168, 3) := by decide +kernel
theorem d_X_person_88 : decode b_X_person 88 = .ok (.ireturn, 1) := by decide +kernel
theorem d_X_person_89 : decode b_X_person 89 = .ok (.iconst (-1), 1) := by decide +kernel
theorem d_X_person_90 : decode b_X_person 90 = .ok (.ireturn, 1) := by decide +kernel
theorem d_X_request_0 : decode b_X_request 0 = .ok (.aload_n 0, 1) := by decide +kernel
theorem d_X_request_1 : decode b_X_request 1 = .ok (.getfield 35, 3) := by decide +kernel
theorem d_X_request_4 : decode b_X_request 4 = .ok (.iload_n 1, 1) := by decide +kernel
theorem d_X_request_5 : decode b_X_request 5 = .ok (.invokevirtual 171, 3) := by decide +kernel
theorem d_X_request_8 : decode b_X_request 8 = .ok (.ifCond .ne 13, 3) := by decide +kernel
theorem d_X_request_11 : decode b_X_request 11 = .ok (.new 174, 3) := by decide +kernel
theorem d_X_request_14 : decode b_X_request 14 = .ok (.dup, 1) := by decide +kernel
theorem d_X_request_15 : decode b_X_request 15 = .ok (.ldc 176, 2) := by decide +kernel
theorem d_X_request_17 : decode b_X_request 17 = .ok (.invokespecial 178, 3) := by decide +kernel
theorem d_X_request_20 : decode b_X_request 20 = .ok (.athrow, 1) := by decide +kernel
theorem d_X_request_21 : decode b_X_request 21 = .ok (.iload_n 2, 1) := by decide +kernel
theorem d_X_request_22 : decode b_X_request 22 = .ok (.tableswitch 92 0 5 #[38, 47, 56, 65, 74, 83], 38) := by decide +kernel
theorem d_X_request_60 : decode b_X_request 60 = .ok (.aload_n 0, 1) := by decide +kernel
theorem d_X_request_61 : decode b_X_request 61 = .ok (.getfield 35, 3) := by decide +kernel
theorem d_X_request_64 : decode b_X_request 64 = .ok (.iload_n 1, 1) := by decide +kernel
theorem d_X_request_65 : decode b_X_request 65 = .ok (.invokevirtual 107, 3) := by decide +kernel
theorem d_X_request_68 : decode b_X_request 68 = .ok (.ireturn, 1) := by decide +kernel
theorem d_X_request_69 : decode b_X_request 69 = .ok (.aload_n 0, 1) := by decide +kernel
theorem d_X_request_70 : decode b_X_request 70 = .ok (.getfield 35, 3) := by decide +kernel
theorem d_X_request_73 : decode b_X_request 73 = .ok (.iload_n 1, 1) := by decide +kernel
theorem d_X_request_74 : decode b_X_request 74 = .ok (.invokevirtual 181, 3) := by decide +kernel
theorem d_X_request_77 : decode b_X_request 77 = .ok (.ireturn, 1) := by decide +kernel
theorem d_X_request_78 : decode b_X_request 78 = .ok (.aload_n 0, 1) := by decide +kernel
theorem d_X_request_79 : decode b_X_request 79 = .ok (.getfield 35, 3) := by decide +kernel
theorem d_X_request_82 : decode b_X_request 82 = .ok (.iload_n 1, 1) := by decide +kernel
theorem d_X_request_83 : decode b_X_request 83 = .ok (.invokevirtual 184, 3) := by decide +kernel
theorem d_X_request_86 : decode b_X_request 86 = .ok (.ireturn, 1) := by decide +kernel
theorem d_X_request_87 : decode b_X_request 87 = .ok (.aload_n 0, 1) := by decide +kernel
theorem d_X_request_88 : decode b_X_request 88 = .ok (.getfield 35, 3) := by decide +kernel
theorem d_X_request_91 : decode b_X_request 91 = .ok (.iload_n 1, 1) := by decide +kernel
theorem d_X_request_92 : decode b_X_request 92 = .ok (.invokevirtual 187, 3) := by decide +kernel
theorem d_X_request_95 : decode b_X_request 95 = .ok (.ireturn, 1) := by decide +kernel
theorem d_X_request_96 : decode b_X_request 96 = .ok (.aload_n 0, 1) := by decide +kernel
theorem d_X_request_97 : decode b_X_request 97 = .ok (.getfield 35, 3) := by decide +kernel
theorem d_X_request_100 : decode b_X_request 100 = .ok (.iload_n 1, 1) := by decide +kernel
theorem d_X_request_101 : decode b_X_request 101 = .ok (.invokevirtual 190, 3) := by decide +kernel
theorem d_X_request_104 : decode b_X_request 104 = .ok (.ireturn, 1) := by decide +kernel
theorem d_X_request_105 : decode b_X_request 105 = .ok (.aload_n 0, 1) := by decide +kernel
theorem d_X_request_106 : decode b_X_request 106 = .ok (.getfield 35, 3) := by decide +kernel
theorem d_X_request_109 : decode b_X_request 109 = .ok (.iload_n 1, 1) := by decide +kernel
theorem d_X_request_110 : decode b_X_request 110 = .ok (.invokevirtual 193, 3) := by decide +kernel
theorem d_X_request_113 : decode b_X_request 113 = .ok (.ireturn, 1) := by decide +kernel
theorem d_X_request_114 : decode b_X_request 114 = .ok (.new 174, 3) := by decide +kernel
theorem d_X_request_117 : decode b_X_request 117 = .ok (.dup, 1) := by decide +kernel
theorem d_X_request_118 : decode b_X_request 118 = .ok (.ldc 196, 2) := by decide +kernel
theorem d_X_request_120 : decode b_X_request 120 = .ok (.invokespecial 178, 3) := by decide +kernel
theorem d_X_request_123 : decode b_X_request 123 = .ok (.athrow, 1) := by decide +kernel
theorem d_X_waits_0 : decode b_X_waits 0 = .ok (.aload_n 0, 1) := by decide +kernel
theorem d_X_waits_1 : decode b_X_waits 1 = .ok (.getfield 35, 3) := by decide +kernel
theorem d_X_waits_4 : decode b_X_waits 4 = .ok (.iload_n 1, 1) := by decide +kernel
theorem d_X_waits_5 : decode b_X_waits 5 = .ok (.iload_n 2, 1) := by decide +kernel
theorem d_X_waits_6 : decode b_X_waits 6 = .ok (.invokevirtual 90, 3) := by decide +kernel
theorem d_X_waits_9 : decode b_X_waits 9 = .ok (.istore_n 3, 1) := by decide +kernel
theorem d_X_waits_10 : decode b_X_waits 10 = .ok (.iload_n 3, 1) := by decide +kernel
theorem d_X_waits_11 : decode b_X_waits 11 = .ok (.iconst (-1), 1) := by decide +kernel
theorem d_X_waits_12 : decode b_X_waits 12 = .ok (.if_icmp .ne 13, 3) := by decide +kernel
theorem d_X_waits_15 : decode b_X_waits 15 = .ok (.new 174, 3) := by decide +kernel
theorem d_X_waits_18 : decode b_X_waits 18 = .ok (.dup, 1) := by decide +kernel
theorem d_X_waits_19 : decode b_X_waits 19 = .ok (.ldc 198, 2) := by decide +kernel
theorem d_X_waits_21 : decode b_X_waits 21 = .ok (.invokespecial 178, 3) := by decide +kernel
theorem d_X_waits_24 : decode b_X_waits 24 = .ok (.athrow, 1) := by decide +kernel
theorem d_X_waits_25 : decode b_X_waits 25 = .ok (.iload_n 3, 1) := by decide +kernel
theorem d_X_waits_26 : decode b_X_waits 26 = .ok (.ireturn, 1) := by decide +kernel
theorem d_X_isWithin_0 : decode b_X_isWithin 0 = .ok (.iload_n 0, 1) := by decide +kernel
theorem d_X_isWithin_1 : decode b_X_isWithin 1 = .ok (.iload_n 1, 1) := by decide +kernel
theorem d_X_isWithin_2 : decode b_X_isWithin 2 = .ok (.if_icmp .lt 12, 3) := by decide +kernel
theorem d_X_isWithin_5 : decode b_X_isWithin 5 = .ok (.iload_n 0, 1) := by decide +kernel
theorem d_X_isWithin_6 : decode b_X_isWithin 6 = .ok (.iload_n 2, 1) := by decide +kernel
theorem d_X_isWithin_7 : decode b_X_isWithin 7 = .ok (.if_icmp .gt 7, 3) := by decide +kernel
theorem d_X_isWithin_10 : decode b_X_isWithin 10 = .ok (.iconst 1, 1) := by decide +kernel
theorem d_X_isWithin_11 : decode b_X_isWithin 11 = .ok (.goto 4, 3) := by decide +kernel
theorem d_X_isWithin_14 : decode b_X_isWithin 14 = .ok (.iconst 0, 1) := by decide +kernel
theorem d_X_isWithin_15 : decode b_X_isWithin 15 = .ok (.ireturn, 1) := by decide +kernel
theorem d_X_isPerson_0 : decode b_X_isPerson 0 = .ok (.iload_n 0, 1) := by decide +kernel
theorem d_X_isPerson_1 : decode b_X_isPerson 1 = .ok (.iconst 0, 1) := by decide +kernel
theorem d_X_isPerson_2 : decode b_X_isPerson 2 = .ok (.bipush 59, 2) := by decide +kernel
theorem d_X_isPerson_4 : decode b_X_isPerson 4 = .ok (.invokestatic 120, 3) := by decide +kernel
theorem d_X_isPerson_7 : decode b_X_isPerson 7 = .ok (.ireturn, 1) := by decide +kernel
theorem d_X_isUnit_0 : decode b_X_isUnit 0 = .ok (.iload_n 0, 1) := by decide +kernel
theorem d_X_isUnit_1 : decode b_X_isUnit 1 = .ok (.iconst 0, 1) := by decide +kernel
theorem d_X_isUnit_2 : decode b_X_isUnit 2 = .ok (.bipush 79, 2) := by decide +kernel
theorem d_X_isUnit_4 : decode b_X_isUnit 4 = .ok (.invokestatic 120, 3) := by decide +kernel
theorem d_X_isUnit_7 : decode b_X_isUnit 7 = .ok (.ireturn, 1) := by decide +kernel
theorem d_X_isTime_0 : decode b_X_isTime 0 = .ok (.iload_n 1, 1) := by decide +kernel
theorem d_X_isTime_1 : decode b_X_isTime 1 = .ok (.aload_n 0, 1) := by decide +kernel
theorem d_X_isTime_2 : decode b_X_isTime 2 = .ok (.getfield 39, 3) := by decide +kernel
theorem d_X_isTime_5 : decode b_X_isTime 5 = .ok (.ldc 200, 2) := by decide +kernel
theorem d_X_isTime_7 : decode b_X_isTime 7 = .ok (.invokestatic 120, 3) := by decide +kernel
theorem d_X_isTime_10 : decode b_X_isTime 10 = .ok (.ireturn, 1) := by decide +kernel
theorem d_X_isRightTooLow_0 : decode b_X_isRightTooLow 0 = .ok (.aload_n 0, 1) := by decide +kernel
theorem d_X_isRightTooLow_1 : decode b_X_isRightTooLow 1 = .ok (.getfield 21, 3) := by decide +kernel
theorem d_X_isRightTooLow_4 : decode b_X_isRightTooLow 4 = .ok (.iload_n 1, 1) := by decide +kernel
theorem d_X_isRightTooLow_5 : decode b_X_isRightTooLow 5 = .ok (.invokevirtual 201, 3) := by decide +kernel
theorem d_X_isRightTooLow_8 : decode b_X_isRightTooLow 8 = .ok (.aload_n 0, 1) := by decide +kernel
theorem d_X_isRightTooLow_9 : decode b_X_isRightTooLow 9 = .ok (.getfield 28, 3) := by decide +kernel
theorem d_X_isRightTooLow_12 : decode b_X_isRightTooLow 12 = .ok (.iload_n 2, 1) := by decide +kernel
theorem d_X_isRightTooLow_13 : decode b_X_isRightTooLow 13 = .ok (.invokevirtual 156, 3) := by decide +kernel
theorem d_X_isRightTooLow_16 : decode b_X_isRightTooLow 16 = .ok (.if_icmp .ge 7, 3) := by decide +kernel
theorem d_X_isRightTooLow_19 : decode b_X_isRightTooLow 19 = .ok (.iconst 1, 1) := by decide +kernel
theorem d_X_isRightTooLow_20 : decode b_X_isRightTooLow 20 = .ok (.goto 4, 3) := by decide +kernel
theorem d_X_isRightTooLow_23 : decode b_X_isRightTooLow 23 = .ok (.iconst 0, 1) := by decide +kernel
theorem d_X_isRightTooLow_24 : decode b_X_isRightTooLow 24 = .ok (.ireturn, 1) := by decide +kernel
theorem d_X_sendFor_0 : decode b_X_sendFor 0 = .ok (.aload_n 0, 1) := by decide +kernel
theorem d_X_sendFor_1 : decode b_X_sendFor 1 = .ok (.getfield 28, 3) := by decide +kernel
theorem d_X_sendFor_4 : decode b_X_sendFor 4 = .ok (.iload_n 1, 1) := by decide +kernel
theorem d_X_sendFor_5 : decode b_X_sendFor 5 = .ok (.iconst 1, 1) := by decide +kernel
theorem d_X_sendFor_6 : decode b_X_sendFor 6 = .ok (.iload_n 2, 1) := by decide +kernel
theorem d_X_sendFor_7 : decode b_X_sendFor 7 = .ok (.invokevirtual 110, 3) := by decide +kernel
theorem d_X_sendFor_10 : decode b_X_sendFor 10 = .ok (.aload_n 0, 1) := by decide +kernel
theorem d_X_sendFor_11 : decode b_X_sendFor 11 = .ok (.getfield 35, 3) := by decide +kernel
theorem d_X_sendFor_14 : decode b_X_sendFor 14 = .ok (.iload_n 2, 1) := by decide +kernel
theorem d_X_sendFor_15 : decode b_X_sendFor 15 = .ok (.iconst 1, 1) := by decide +kernel
theorem d_X_sendFor_16 : decode b_X_sendFor 16 = .ok (.invokevirtual 204, 3) := by decide +kernel
theorem d_X_sendFor_19 : decode b_X_sendFor 19 = .ok (.return_, 1) := by decide +kernel
theorem d_X_withdrawFromLowRights_0 : decode b_X_withdrawFromLowRights 0 = .ok (.iconst 0, 1) := by decide +kernel
theorem d_X_withdrawFromLowRights_1 : decode b_X_withdrawFromLowRights 1 = .ok (.istore_n 2, 1) := by decide +kernel
theorem d_X_withdrawFromLowRights_2 : decode b_X_withdrawFromLowRights 2 = .ok (.iconst 0, 1) := by decide +kernel
theorem d_X_withdrawFromLowRights_3 : decode b_X_withdrawFromLowRights 3 = .ok (.istore_n 3, 1) := by decide +kernel
theorem d_X_withdrawFromLowRights_4 : decode b_X_withdrawFromLowRights 4 = .ok (.iload_n 3, 1) := by decide +kernel
theorem d_X_withdrawFromLowRights_5 : decode b_X_withdrawFromLowRights 5 = .ok (.sipush 300, 3) := by decide +kernel
theorem d_X_withdrawFromLowRights_8 : decode b_X_withdrawFromLowRights 8 = .ok (.if_icmp .ge 49, 3) := by decide +kernel
theorem d_X_withdrawFromLowRights_11 : decode b_X_withdrawFromLowRights 11 = .ok (.aload_n 0, 1) := by decide +kernel
theorem d_X_withdrawFromLowRights_12 : decode b_X_withdrawFromLowRights 12 = .ok (.getfield 35, 3) := by decide +kernel
theorem d_X_withdrawFromLowRights_15 : decode b_X_withdrawFromLowRights 15 = .ok (.iload_n 3, 1) := by decide +kernel
theorem d_X_withdrawFromLowRights_16 : decode b_X_withdrawFromLowRights 16 = .ok (.iload_n 1, 1) := by decide +kernel
theorem d_X_withdrawFromLowRights_17 : decode b_X_withdrawFromLowRights 17 = .ok (.invokevirtual 207, 3) := by decide +kernel
theorem d_X_withdrawFromLowRights_20 : decode b_X_withdrawFromLowRights 20 = .ok (.ifCond .eq 31, 3) := by decide +kernel
theorem d_X_withdrawFromLowRights_23 : decode b_X_withdrawFromLowRights 23 = .ok (.aload_n 0, 1) := by decide +kernel
theorem d_X_withdrawFromLowRights_24 : decode b_X_withdrawFromLowRights 24 = .ok (.aload_n 0, 1) := by decide +kernel
theorem d_X_withdrawFromLowRights_25 : decode b_X_withdrawFromLowRights 25 = .ok (.getfield 35, 3) := by decide +kernel
theorem d_X_withdrawFromLowRights_28 : decode b_X_withdrawFromLowRights 28 = .ok (.iload_n 3, 1) := by decide +kernel
theorem d_X_withdrawFromLowRights_29 : decode b_X_withdrawFromLowRights 29 = .ok (.invokevirtual 107, 3) := by decide +kernel
theorem d_X_withdrawFromLowRights_32 : decode b_X_withdrawFromLowRights 32 = .ok (.iload_n 1, 1) := by decide +kernel
theorem d_X_withdrawFromLowRights_33 : decode b_X_withdrawFromLowRights 33 = .ok (.invokevirtual 73, 3) := by decide +kernel
theorem d_X_withdrawFromLowRights_36 : decode b_X_withdrawFromLowRights 36 = .ok (.ifCond .eq 15, 3) := by decide +kernel
theorem d_X_withdrawFromLowRights_39 : decode b_X_withdrawFromLowRights 39 = .ok (.aload_n 0, 1) := by decide +kernel
theorem d_X_withdrawFromLowRights_40 : decode b_X_withdrawFromLowRights 40 = .ok (.getfield 35, 3) := by decide +kernel
theorem d_X_withdrawFromLowRights_43 : decode b_X_withdrawFromLowRights 43 = .ok (.iload_n 3, 1) := by decide +kernel
theorem d_X_withdrawFromLowRights_44 : decode b_X_withdrawFromLowRights 44 = .ok (.iconst 4, 1) := by decide +kernel
theorem d_X_withdrawFromLowRights_45 : decode b_X_withdrawFromLowRights 45 = .ok (.invokevirtual 204, 3) := by decide +kernel
theorem d_X_withdrawFromLowRights_48 : decode b_X_withdrawFromLowRights 48 = .ok (.iinc 2 1, 3) := by decide +kernel
theorem d_X_withdrawFromLowRights_51 : decode b_X_withdrawFromLowRights 51 = .ok (.iinc 3 1, 3) := by decide +kernel
theorem d_X_withdrawFromLowRights_54 : decode b_X_withdrawFromLowRights 54 = .ok (.goto (-50), 3) := by decide +kernel
theorem d_X_withdrawFromLowRights_57 : decode b_X_withdrawFromLowRights 57 = .ok (.iload_n 2, 1) := by decide +kernel
theorem d_X_withdrawFromLowRights_58 : decode b_X_withdrawFromLowRights 58 = .ok (.ireturn, 1) := by decide +kernel
