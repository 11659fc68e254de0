theorem d_M_restrict_0 : decode b_M_restrict 0 = .ok (.aload_n 0, 1) := by decide +kernel
theorem d_M_restrict_1 : decode b_M_restrict 1 = .ok (.iconst 0, 1) := by decide +kernel
theorem d_M_restrict_2 : decode b_M_restrict 2 = .ok (.putfield 65, 3) := by decide +kernel
theorem d_M_restrict_5 : decode b_M_restrict 5 = .ok (.iload_n 1, 1) := by decide +kernel
theorem d_M_restrict_6 : decode b_M_restrict 6 = .ok (.invokestatic 103, 3) := by decide +kernel
theorem d_M_restrict_9 : decode b_M_restrict 9 = .ok (.ifCond .ne 5, 3) := by decide +kernel
theorem d_M_restrict_12 : decode b_M_restrict 12 = .ok (.iconst (-1), 1) := by decide +kernel
theorem d_M_restrict_13 : decode b_M_restrict 13 = .ok (.ireturn, 1) := by decide +kernel
theorem d_M_restrict_14 : decode b_M_restrict 14 = .ok (.iload_n 2, 1) := by decide +kernel
theorem d_M_restrict_15 : decode b_M_restrict 15 = .ok (.iconst 0, 1) := by decide +kernel
theorem d_M_restrict_16 : decode b_M_restrict 16 = .ok (.iconst 3, 1) := by decide +kernel
theorem d_M_restrict_17 : decode b_M_restrict 17 = .ok (.invokestatic 68, 3) := by decide +kernel
theorem d_M_restrict_20 : decode b_M_restrict 20 = .ok (.ifCond .ne 6, 3) := by decide +kernel
theorem d_M_restrict_23 : decode b_M_restrict 23 = .ok (.bipush (-2), 2) := by decide +kernel
theorem d_M_restrict_25 : decode b_M_restrict 25 = .ok (.ireturn, 1) := by decide +kernel
theorem d_M_restrict_26 : decode b_M_restrict 26 = .ok (.aload_n 0, 1) := by decide +kernel
theorem d_M_restrict_27 : decode b_M_restrict 27 = .ok (.getfield 37, 3) := by decide +kernel
theorem d_M_restrict_30 : decode b_M_restrict 30 = .ok (.iload_n 1, 1) := by decide +kernel
theorem d_M_restrict_31 : decode b_M_restrict 31 = .ok (.iload_n 2, 1) := by decide +kernel
theorem d_M_restrict_32 : decode b_M_restrict 32 = .ok (.iastore, 1) := by decide +kernel
theorem d_M_restrict_33 : decode b_M_restrict 33 = .ok (.iconst 0, 1) := by decide +kernel
theorem d_M_restrict_34 : decode b_M_restrict 34 = .ok (.istore_n 3, 1) := by decide +kernel
theorem d_M_restrict_35 : decode b_M_restrict 35 = .ok (.iconst 0, 1) := by decide +kernel
theorem d_M_restrict_36 : decode b_M_restrict 36 = .ok (.istore 4, 2) := by decide +kernel
theorem d_M_restrict_38 : decode b_M_restrict 38 = .ok (.iload 4, 2) := by decide +kernel
theorem d_M_restrict_40 : decode b_M_restrict 40 = .ok (.aload_n 0, 1) := by decide +kernel
theorem d_M_restrict_41 : decode b_M_restrict 41 = .ok (.getfield 97, 3) := by decide +kernel
theorem d_M_restrict_44 : decode b_M_restrict 44 = .ok (.if_icmp .ge 60, 3) := by decide +kernel
theorem d_M_restrict_47 : decode b_M_restrict 47 = .ok (.aload_n 0, 1) := by decide +kernel
theorem d_M_restrict_48 : decode b_M_restrict 48 = .ok (.getfield 46, 3) := by decide +kernel
theorem d_M_restrict_51 : decode b_M_restrict 51 = .ok (.iload 4, 2) := by decide +kernel
theorem d_M_restrict_53 : decode b_M_restrict 53 = .ok (.iaload, 1) := by decide +kernel
theorem d_M_restrict_54 : decode b_M_restrict 54 = .ok (.iload_n 1, 1) := by decide +kernel
theorem d_M_restrict_55 : decode b_M_restrict 55 = .ok (.if_icmp .ne 43, 3) := by decide +kernel
theorem d_M_restrict_58 : decode b_M_restrict 58 = .ok (.aload_n 0, 1) := by decide +kernel
theorem d_M_restrict_59 : decode b_M_restrict 59 = .ok (.getfield 49, 3) := by decide +kernel
theorem d_M_restrict_62 : decode b_M_restrict 62 = .ok (.iload 4, 2) := by decide +kernel
theorem d_M_restrict_64 : decode b_M_restrict 64 = .ok (.iaload, 1) := by decide +kernel
theorem d_M_restrict_65 : decode b_M_restrict 65 = .ok (.ifCond .ne 33, 3) := by decide +kernel
theorem d_M_restrict_68 : decode b_M_restrict 68 = .ok (.aload_n 0, 1) := by decide +kernel
theorem d_M_restrict_69 : decode b_M_restrict 69 = .ok (.getfield 16, 3) := by decide +kernel
theorem d_M_restrict_72 : decode b_M_restrict 72 = .ok (.aload_n 0, 1) := by decide +kernel
theorem d_M_restrict_73 : decode b_M_restrict 73 = .ok (.getfield 43, 3) := by decide +kernel
theorem d_M_restrict_76 : decode b_M_restrict 76 = .ok (.iload 4, 2) := by decide +kernel
theorem d_M_restrict_78 : decode b_M_restrict 78 = .ok (.iaload, 1) := by decide +kernel
theorem d_M_restrict_79 : decode b_M_restrict 79 = .ok (.iaload, 1) := by decide +kernel
theorem d_M_restrict_80 : decode b_M_restrict 80 = .ok (.iload_n 2, 1) := by decide +kernel
theorem d_M_restrict_81 : decode b_M_restrict 81 = .ok (.if_icmp .lt 6, 3) := by decide +kernel
theorem d_M_restrict_84 : decode b_M_restrict 84 = .ok (.goto 14, 3) := by decide +kernel
theorem d_M_restrict_87 : decode b_M_restrict 87 = .ok (.aload_n 0, 1) := by decide +kernel
theorem d_M_restrict_88 : decode b_M_restrict 88 = .ok (.getfield 49, 3) := by decide +kernel
theorem d_M_restrict_91 : decode b_M_restrict 91 = .ok (.iload 4, 2) := by decide +kernel
theorem d_M_restrict_93 : decode b_M_restrict 93 = .ok (.iconst 4, 1) := by decide +kernel
theorem d_M_restrict_94 : decode b_M_restrict 94 = .ok (.iastore, 1) := by decide +kernel
theorem d_M_restrict_95 : decode b_M_restrict 95 = .ok (.iinc 3 1, 3) := by decide +kernel
theorem d_M_restrict_98 : decode b_M_restrict 98 = .ok (.iinc 4 1, 3) := by decide +kernel
theorem d_M_restrict_101 : decode b_M_restrict 101 = .ok (.goto (-63), 3) := by decide +kernel
theorem d_M_restrict_104 : decode b_M_restrict 104 = .ok (.iload_n 3, 1) := by decide +kernel
theorem d_M_restrict_105 : decode b_M_restrict 105 = .ok (.ireturn, 1) := by decide +kernel
theorem d_M_copy_0 : decode b_M_copy 0 = .ok (.aload_n 0, 1) := by decide +kernel
theorem d_M_copy_1 : decode b_M_copy 1 = .ok (.iconst 0, 1) := by decide +kernel
theorem d_M_copy_2 : decode b_M_copy 2 = .ok (.putfield 65, 3) := by decide +kernel
theorem d_M_copy_5 : decode b_M_copy 5 = .ok (.iload_n 1, 1) := by decide +kernel
theorem d_M_copy_6 : decode b_M_copy 6 = .ok (.invokestatic 103, 3) := by decide +kernel
theorem d_M_copy_9 : decode b_M_copy 9 = .ok (.ifCond .ne 5, 3) := by decide +kernel
theorem d_M_copy_12 : decode b_M_copy 12 = .ok (.iconst (-1), 1) := by decide +kernel
theorem d_M_copy_13 : decode b_M_copy 13 = .ok (.ireturn, 1) := by decide +kernel
theorem d_M_copy_14 : decode b_M_copy 14 = .ok (.iload_n 2, 1) := by decide +kernel
theorem d_M_copy_15 : decode b_M_copy 15 = .ok (.iconst 1, 1) := by decide +kernel
theorem d_M_copy_16 : decode b_M_copy 16 = .ok (.sipush 500, 3) := by decide +kernel
theorem d_M_copy_19 : decode b_M_copy 19 = .ok (.invokestatic 68, 3) := by decide +kernel
theorem d_M_copy_22 : decode b_M_copy 22 = .ok (.ifCond .eq 11, 3) := by decide +kernel
theorem d_M_copy_25 : decode b_M_copy 25 = .ok (.aload_n 0, 1) := by decide +kernel
theorem d_M_copy_26 : decode b_M_copy 26 = .ok (.iload_n 3, 1) := by decide +kernel
theorem d_M_copy_27 : decode b_M_copy 27 = .ok (.invokevirtual 106, 3) := by decide +kernel
theorem d_M_copy_30 : decode b_M_copy 30 = .ok (.ifCond .ne 6, 3) := by decide +kernel
theorem d_M_copy_33 : decode b_M_copy 33 = .ok (.bipush (-2), 2) := by decide +kernel
theorem d_M_copy_35 : decode b_M_copy 35 = .ok (.ireturn, 1) := by decide +kernel
theorem d_M_copy_36 : decode b_M_copy 36 = .ok (.aload_n 0, 1) := by decide +kernel
theorem d_M_copy_37 : decode b_M_copy 37 = .ok (.getfield 31, 3) := by decide +kernel
theorem d_M_copy_40 : decode b_M_copy 40 = .ok (.iload_n 1, 1) := by decide +kernel
theorem d_M_copy_41 : decode b_M_copy 41 = .ok (.iaload, 1) := by decide +kernel
theorem d_M_copy_42 : decode b_M_copy 42 = .ok (.iconst 2, 1) := by decide +kernel
theorem d_M_copy_43 : decode b_M_copy 43 = .ok (.if_icmp .ne 13, 3) := by decide +kernel
theorem d_M_copy_46 : decode b_M_copy 46 = .ok (.aload_n 0, 1) := by decide +kernel
theorem d_M_copy_47 : decode b_M_copy 47 = .ok (.getfield 34, 3) := by decide +kernel
theorem d_M_copy_50 : decode b_M_copy 50 = .ok (.iload_n 1, 1) := by decide +kernel
theorem d_M_copy_51 : decode b_M_copy 51 = .ok (.iaload, 1) := by decide +kernel
theorem d_M_copy_52 : decode b_M_copy 52 = .ok (.iconst 1, 1) := by decide +kernel
theorem d_M_copy_53 : decode b_M_copy 53 = .ok (.if_icmp .le 6, 3) := by decide +kernel
theorem d_M_copy_56 : decode b_M_copy 56 = .ok (.bipush (-3), 2) := by decide +kernel
theorem d_M_copy_58 : decode b_M_copy 58 = .ok (.ireturn, 1) := by decide +kernel
theorem d_M_copy_59 : decode b_M_copy 59 = .ok (.aload_n 0, 1) := by decide +kernel
theorem d_M_copy_60 : decode b_M_copy 60 = .ok (.getfield 43, 3) := by decide +kernel
theorem d_M_copy_63 : decode b_M_copy 63 = .ok (.aload_n 0, 1) := by decide +kernel
theorem d_M_copy_64 : decode b_M_copy 64 = .ok (.getfield 40, 3) := by decide +kernel
theorem d_M_copy_67 : decode b_M_copy 67 = .ok (.iload_n 1, 1) := by decide +kernel
theorem d_M_copy_68 : decode b_M_copy 68 = .ok (.iaload, 1) := by decide +kernel
theorem d_M_copy_69 : decode b_M_copy 69 = .ok (.iaload, 1) := by decide +kernel
theorem d_M_copy_70 : decode b_M_copy 70 = .ok (.istore 4, 2) := by decide +kernel
theorem d_M_copy_72 : decode b_M_copy 72 = .ok (.aload_n 0, 1) := by decide +kernel
theorem d_M_copy_73 : decode b_M_copy 73 = .ok (.getfield 28, 3) := by decide +kernel
theorem d_M_copy_76 : decode b_M_copy 76 = .ok (.iload 4, 2) := by decide +kernel
theorem d_M_copy_78 : decode b_M_copy 78 = .ok (.iaload, 1) := by decide +kernel
theorem d_M_copy_79 : decode b_M_copy 79 = .ok (.iload_n 3, 1) := by decide +kernel
theorem d_M_copy_80 : decode b_M_copy 80 = .ok (.ldc 119, 2) := by decide +kernel
theorem d_M_copy_82 : decode b_M_copy 82 = .ok (.idiv, 1) := by decide +kernel
theorem d_M_copy_83 : decode b_M_copy 83 = .ok (.if_icmp .ne 13, 3) := by decide +kernel
theorem d_M_copy_86 : decode b_M_copy 86 = .ok (.aload_n 0, 1) := by decide +kernel
theorem d_M_copy_87 : decode b_M_copy 87 = .ok (.getfield 25, 3) := by decide +kernel
theorem d_M_copy_90 : decode b_M_copy 90 = .ok (.iload 4, 2) := by decide +kernel
theorem d_M_copy_92 : decode b_M_copy 92 = .ok (.iaload, 1) := by decide +kernel
theorem d_M_copy_93 : decode b_M_copy 93 = .ok (.goto 4, 3) := by decide +kernel
theorem d_M_copy_96 : decode b_M_copy 96 = .ok (.iconst 0, 1) := by decide +kernel
theorem d_M_copy_97 : decode b_M_copy 97 = .ok (.istore 5, 2) := by decide +kernel
theorem d_M_copy_99 : decode b_M_copy 99 = .ok (.iload 5, 2) := by decide +kernel
theorem d_M_copy_101 : decode b_M_copy 101 = .ok (.iload_n 2, 1) := by decide +kernel
theorem d_M_copy_102 : decode b_M_copy 102 = .ok (.iadd, 1) := by decide +kernel
theorem d_M_copy_103 : decode b_M_copy 103 = .ok (.aload_n 0, 1) := by decide +kernel
theorem d_M_copy_104 : decode b_M_copy 104 = .ok (.getfield 22, 3) := by decide +kernel
theorem d_M_copy_107 : decode b_M_copy 107 = .ok (.iload 4, 2) := by decide +kernel
theorem d_M_copy_109 : decode b_M_copy 109 = .ok (.iaload, 1) := by decide +kernel
theorem d_M_copy_110 : decode b_M_copy 110 = .ok (.if_icmp .le 6, 3) := by decide +kernel
theorem d_M_copy_113 : decode b_M_copy 113 = .ok (.bipush (-4), 2) := by decide +kernel
theorem d_M_copy_115 : decode b_M_copy 115 = .ok (.ireturn, 1) := by decide +kernel
theorem d_M_copy_116 : decode b_M_copy 116 = .ok (.aload_n 0, 1) := by decide +kernel
theorem d_M_copy_117 : decode b_M_copy 117 = .ok (.iload_n 3, 1) := by decide +kernel
theorem d_M_copy_118 : decode b_M_copy 118 = .ok (.putfield 72, 3) := by decide +kernel
theorem d_M_copy_121 : decode b_M_copy 121 = .ok (.aload_n 0, 1) := by decide +kernel
theorem d_M_copy_122 : decode b_M_copy 122 = .ok (.getfield 25, 3) := by decide +kernel
theorem d_M_copy_125 : decode b_M_copy 125 = .ok (.iload 4, 2) := by decide +kernel
theorem d_M_copy_127 : decode b_M_copy 127 = .ok (.iload 5, 2) := by decide +kernel
theorem d_M_copy_129 : decode b_M_copy 129 = .ok (.iload_n 2, 1) := by decide +kernel
theorem d_M_copy_130 : decode b_M_copy 130 = .ok (.iadd, 1) := by decide +kernel
theorem d_M_copy_131 : decode b_M_copy 131 = .ok (.iastore, 1) := by decide +kernel
theorem d_M_copy_132 : decode b_M_copy 132 = .ok (.aload_n 0, 1) := by decide +kernel
theorem d_M_copy_133 : decode b_M_copy 133 = .ok (.getfield 28, 3) := by decide +kernel
theorem d_M_copy_136 : decode b_M_copy 136 = .ok (.iload 4, 2) := by decide +kernel
theorem d_M_copy_138 : decode b_M_copy 138 = .ok (.iload_n 3, 1) := by decide +kernel
theorem d_M_copy_139 : decode b_M_copy 139 = .ok (.ldc 119, 2) := by decide +kernel
theorem d_M_copy_141 : decode b_M_copy 141 = .ok (.idiv, 1) := by decide +kernel
theorem d_M_copy_142 : decode b_M_copy 142 = .ok (.iastore, 1) := by decide +kernel
theorem d_M_copy_143 : decode b_M_copy 143 = .ok (.aload_n 0, 1) := by decide +kernel
theorem d_M_copy_144 : decode b_M_copy 144 = .ok (.getfield 22, 3) := by decide +kernel
theorem d_M_copy_147 : decode b_M_copy 147 = .ok (.iload 4, 2) := by decide +kernel
theorem d_M_copy_149 : decode b_M_copy 149 = .ok (.iaload, 1) := by decide +kernel
theorem d_M_copy_150 : decode b_M_copy 150 = .ok (.aload_n 0, 1) := by decide +kernel
theorem d_M_copy_151 : decode b_M_copy 151 = .ok (.getfield 25, 3) := by decide +kernel
theorem d_M_copy_154 : decode b_M_copy 154 = .ok (.iload 4, 2) := by decide +kernel
theorem d_M_copy_156 : decode b_M_copy 156 = .ok (.iaload, 1) := by decide +kernel
theorem d_M_copy_157 : decode b_M_copy 157 = .ok (.isub, 1) := by decide +kernel
theorem d_M_copy_158 : decode b_M_copy 158 = .ok (.ireturn, 1) := by decide +kernel
theorem d_M_close_0 : decode b_M_close 0 = .ok (.aload_n 0, 1) := by decide +kernel
theorem d_M_close_1 : decode b_M_close 1 = .ok (.iconst 0, 1) := by decide +kernel
theorem d_M_close_2 : decode b_M_close 2 = .ok (.putfield 65, 3) := by decide +kernel
theorem d_M_close_5 : decode b_M_close 5 = .ok (.aload_n 0, 1) := by decide +kernel
theorem d_M_close_6 : decode b_M_close 6 = .ok (.iload_n 1, 1) := by decide +kernel
theorem d_M_close_7 : decode b_M_close 7 = .ok (.invokevirtual 106, 3) := by decide +kernel
theorem d_M_close_10 : decode b_M_close 10 = .ok (.ifCond .ne 6, 3) := by decide +kernel
theorem d_M_close_13 : decode b_M_close 13 = .ok (.bipush (-2), 2) := by decide +kernel
theorem d_M_close_15 : decode b_M_close 15 = .ok (.ireturn, 1) := by decide +kernel
theorem d_M_close_16 : decode b_M_close 16 = .ok (.aload_n 0, 1) := by decide +kernel
theorem d_M_close_17 : decode b_M_close 17 = .ok (.iload_n 1, 1) := by decide +kernel
theorem d_M_close_18 : decode b_M_close 18 = .ok (.putfield 72, 3) := by decide +kernel
theorem d_M_close_21 : decode b_M_close 21 = .ok (.iconst 0, 1) := by decide +kernel
theorem d_M_close_22 : decode b_M_close 22 = .ok (.istore_n 2, 1) := by decide +kernel
theorem d_M_close_23 : decode b_M_close 23 = .ok (.iconst 0, 1) := by decide +kernel
theorem d_M_close_24 : decode b_M_close 24 = .ok (.istore_n 3, 1) := by decide +kernel
theorem d_M_close_25 : decode b_M_close 25 = .ok (.iload_n 3, 1) := by decide +kernel
theorem d_M_close_26 : decode b_M_close 26 = .ok (.bipush 80, 2) := by decide +kernel
theorem d_M_close_28 : decode b_M_close 28 = .ok (.if_icmp .ge 40, 3) := by decide +kernel
theorem d_M_close_31 : decode b_M_close 31 = .ok (.iload_n 2, 1) := by decide +kernel
theorem d_M_close_32 : decode b_M_close 32 = .ok (.aload_n 0, 1) := by decide +kernel
theorem d_M_close_33 : decode b_M_close 33 = .ok (.getfield 31, 3) := by decide +kernel
theorem d_M_close_36 : decode b_M_close 36 = .ok (.iload_n 3, 1) := by decide +kernel
theorem d_M_close_37 : decode b_M_close 37 = .ok (.iaload, 1) := by decide +kernel
theorem d_M_close_38 : decode b_M_close 38 = .ok (.ifCond .eq 7, 3) := by decide +kernel
theorem d_M_close_41 : decode b_M_close 41 = .ok (.iconst 1, 1) := by decide +kernel
theorem d_M_close_42 : decode b_M_close 42 = .ok (.goto 4, 3) := by decide +kernel
theorem d_M_close_45 : decode b_M_close 45 = .ok (.iconst 0, 1) := by decide +kernel
theorem d_M_close_46 : decode b_M_close 46 = .ok (.iadd, 1) := by decide +kernel
theorem d_M_close_47 : decode b_M_close 47 = .ok (.istore_n 2, 1) := by decide +kernel
theorem d_M_close_48 : decode b_M_close 48 = .ok (.aload_n 0, 1) := by decide +kernel
theorem d_M_close_49 : decode b_M_close 49 = .ok (.getfield 31, 3) := by decide +kernel
theorem d_M_close_52 : decode b_M_close 52 = .ok (.iload_n 3, 1) := by decide +kernel
theorem d_M_close_53 : decode b_M_close 53 = .ok (.iconst 0, 1) := by decide +kernel
theorem d_M_close_54 : decode b_M_close 54 = .ok (.iastore, 1) := by decide +kernel
theorem d_M_close_55 : decode b_M_close 55 = .ok (.aload_n 0, 1) := by decide +kernel
theorem d_M_close_56 : decode b_M_close 56 = .ok (.getfield 40, 3) := by decide +kernel
theorem d_M_close_59 : decode b_M_close 59 = .ok (.iload_n 3, 1) := by decide +kernel
theorem d_M_close_60 : decode b_M_close 60 = .ok (.iconst (-1), 1) := by decide +kernel
theorem d_M_close_61 : decode b_M_close 61 = .ok (.iastore, 1) := by decide +kernel
theorem d_M_close_62 : decode b_M_close 62 = .ok (.iinc 3 1, 3) := by decide +kernel
theorem d_M_close_65 : decode b_M_close 65 = .ok (.goto (-40), 3) := by decide +kernel
theorem d_M_close_68 : decode b_M_close 68 = .ok (.iconst 0, 1) := by decide +kernel
theorem d_M_close_69 : decode b_M_close 69 = .ok (.istore_n 3, 1) := by decide +kernel
theorem d_M_close_70 : decode b_M_close 70 = .ok (.iload_n 3, 1) := by decide +kernel
theorem d_M_close_71 : decode b_M_close 71 = .ok (.aload_n 0, 1) := by decide +kernel
theorem d_M_close_72 : decode b_M_close 72 = .ok (.getfield 97, 3) := by decide +kernel
theorem d_M_close_75 : decode b_M_close 75 = .ok (.if_icmp .ge 65, 3) := by decide +kernel
theorem d_M_close_78 : decode b_M_close 78 = .ok (.aload_n 0, 1) := by decide +kernel
theorem d_M_close_79 : decode b_M_close 79 = .ok (.getfield 49, 3) := by decide +kernel
theorem d_M_close_82 : decode b_M_close 82 = .ok (.iload_n 3, 1) := by decide +kernel
theorem d_M_close_83 : decode b_M_close 83 = .ok (.iaload, 1) := by decide +kernel
theorem d_M_close_84 : decode b_M_close 84 = .ok (.iconst 2, 1) := by decide +kernel
theorem d_M_close_85 : decode b_M_close 85 = .ok (.if_icmp .ne 10, 3) := by decide +kernel
theorem d_M_close_88 : decode b_M_close 88 = .ok (.aload_n 0, 1) := by decide +kernel
theorem d_M_close_89 : decode b_M_close 89 = .ok (.getfield 58, 3) := by decide +kernel
theorem d_M_close_92 : decode b_M_close 92 = .ok (.iload_n 3, 1) := by decide +kernel
theorem d_M_close_93 : decode b_M_close 93 = .ok (.iload_n 1, 1) := by decide +kernel
theorem d_M_close_94 : decode b_M_close 94 = .ok (.iastore, 1) := by decide +kernel
theorem d_M_close_95 : decode b_M_close 95 = .ok (.aload_n 0, 1) := by decide +kernel
theorem d_M_close_96 : decode b_M_close 96 = .ok (.getfield 49, 3) := by decide +kernel
theorem d_M_close_99 : decode b_M_close 99 = .ok (.iload_n 3, 1) := by decide +kernel
theorem d_M_close_100 : decode b_M_close 100 = .ok (.aload_n 0, 1) := by decide +kernel
theorem d_M_close_101 : decode b_M_close 101 = .ok (.getfield 49, 3) := by decide +kernel
theorem d_M_close_104 : decode b_M_close 104 = .ok (.iload_n 3, 1) := by decide +kernel
theorem d_M_close_105 : decode b_M_close 105 = .ok (.iaload, 1) := by decide +kernel
theorem d_M_close_106 : decode b_M_close 106 = .ok (.ifCond .ne 7, 3) := by decide +kernel
theorem d_M_close_109 : decode b_M_close 109 = .ok (.iconst 4, 1) := by decide +kernel
theorem d_M_close_110 : decode b_M_close 110 = .ok (.goto 23, 3) := by decide +kernel
theorem d_M_close_113 : decode b_M_close 113 = .ok (.aload_n 0, 1) := by decide +kernel
theorem d_M_close_114 : decode b_M_close 114 = .ok (.getfield 49, 3) := by decide +kernel
theorem d_M_close_117 : decode b_M_close 117 = .ok (.iload_n 3, 1) := by decide +kernel
theorem d_M_close_118 : decode b_M_close 118 = .ok (.iaload, 1) := by decide +kernel
theorem d_M_close_119 : decode b_M_close 119 = .ok (.iconst 3, 1) := by decide +kernel
theorem d_M_close_120 : decode b_M_close 120 = .ok (.if_icmp .ge 7, 3) := by decide +kernel
theorem d_M_close_123 : decode b_M_close 123 = .ok (.iconst 3, 1) := by decide +kernel
theorem d_M_close_124 : decode b_M_close 124 = .ok (.goto 9, 3) := by decide +kernel
theorem d_M_close_127 : decode b_M_close 127 = .ok (.aload_n 0, 1) := by decide +kernel
theorem d_M_close_128 : decode b_M_close 128 = .ok (.getfield 49, 3) := by decide +kernel
theorem d_M_close_131 : decode b_M_close 131 = .ok (.iload_n 3, 1) := by decide +kernel
theorem d_M_close_132 : decode b_M_close 132 = .ok (.iaload, 1) := by decide +kernel
theorem d_M_close_133 : decode b_M_close 133 = .ok (.iastore, 1) := by decide +kernel
theorem d_M_close_134 : decode b_M_close 134 = .ok (.iinc 3 1, 3) := by decide +kernel
theorem d_M_close_137 : decode b_M_close 137 = .ok (.goto (-67), 3) := by decide +kernel
theorem d_M_close_140 : decode b_M_close 140 = .ok (.iconst 0, 1) := by decide +kernel
theorem d_M_close_141 : decode b_M_close 141 = .ok (.istore_n 3, 1) := by decide +kernel
theorem d_M_close_142 : decode b_M_close 142 = .ok (.iload_n 3, 1) := by decide +kernel
theorem d_M_close_143 : decode b_M_close 143 = .ok (.aload_n 0, 1) := by decide +kernel
theorem d_M_close_144 : decode b_M_close 144 = .ok (.getfield 61, 3) := by decide +kernel
theorem d_M_close_147 : decode b_M_close 147 = .ok (.if_icmp .ge 16, 3) := by decide +kernel
theorem d_M_close_150 : decode b_M_close 150 = .ok (.aload_n 0, 1) := by decide +kernel
theorem d_M_close_151 : decode b_M_close 151 = .ok (.getfield 7, 3) := by decide +kernel
theorem d_M_close_154 : decode b_M_close 154 = .ok (.iload_n 3, 1) := by decide +kernel
theorem d_M_close_155 : decode b_M_close 155 = .ok (.iconst (-1), 1) := by decide +kernel
theorem d_M_close_156 : decode b_M_close 156 = .ok (.iastore, 1) := by decide +kernel
theorem d_M_close_157 : decode b_M_close 157 = .ok (.iinc 3 1, 3) := by decide +kernel
theorem d_M_close_160 : decode b_M_close 160 = .ok (.goto (-18), 3) := by decide +kernel
theorem d_M_close_163 : decode b_M_close 163 = .ok (.aload_n 0, 1) := by decide +kernel
theorem d_M_close_164 : decode b_M_close 164 = .ok (.iconst 0, 1) := by decide +kernel
theorem d_M_close_165 : decode b_M_close 165 = .ok (.putfield 76, 3) := by decide +kernel
theorem d_M_close_168 : decode b_M_close 168 = .ok (.iload_n 2, 1) := by decide +kernel
theorem d_M_close_169 : decode b_M_close 169 = .ok (.ireturn, 1) := by decide +kernel
theorem d_M_unit_0 : decode b_M_unit 0 = .ok (.aload_n 0, 1) := by decide +kernel
theorem d_M_unit_1 : decode b_M_unit 1 = .ok (.iconst 0, 1) := by decide +kernel
theorem d_M_unit_2 : decode b_M_unit 2 = .ok (.putfield 65, 3) := by decide +kernel
theorem d_M_unit_5 : decode b_M_unit 5 = .ok (.iload_n 1, 1) := by decide +kernel
theorem d_M_unit_6 : decode b_M_unit 6 = .ok (.invokestatic 103, 3) := by decide +kernel
theorem d_M_unit_9 : decode b_M_unit 9 = .ok (.ifCond .eq 12, 3) := by decide +kernel
theorem d_M_unit_12 : decode b_M_unit 12 = .ok (.iload_n 2, 1) := by decide +kernel
theorem d_M_unit_13 : decode b_M_unit 13 = .ok (.iconst 0, 1) := by decide +kernel
theorem d_M_unit_14 : decode b_M_unit 14 = .ok (.iconst 4, 1) := by decide +kernel
theorem d_M_unit_15 : decode b_M_unit 15 = .ok (.invokestatic 68, 3) := by decide +kernel
theorem d_M_unit_18 : decode b_M_unit 18 = .ok (.ifCond .ne 5, 3) := by decide +kernel
theorem d_M_unit_21 : decode b_M_unit 21 = .ok (.iconst (-1), 1) := by decide +kernel
theorem d_M_unit_22 : decode b_M_unit 22 = .ok (.ireturn, 1) := by decide +kernel
theorem d_M_unit_23 : decode b_M_unit 23 = .ok (.iload_n 2, 1) := by decide +kernel
theorem d_M_unit_24 : decode b_M_unit 24 = .ok (.iconst 4, 1) := by decide +kernel
theorem d_M_unit_25 : decode b_M_unit 25 = .ok (.if_icmp .ge 51, 3) := by decide +kernel
theorem d_M_unit_28 : decode b_M_unit 28 = .ok (.iload_n 2, 1) := by decide +kernel
theorem d_M_unit_29 : decode b_M_unit 29 = .ok (.ifCond .ne 12, 3) := by decide +kernel
theorem d_M_unit_32 : decode b_M_unit 32 = .ok (.aload_n 0, 1) := by decide +kernel
theorem d_M_unit_33 : decode b_M_unit 33 = .ok (.getfield 31, 3) := by decide +kernel
theorem d_M_unit_36 : decode b_M_unit 36 = .ok (.iload_n 1, 1) := by decide +kernel
theorem d_M_unit_37 : decode b_M_unit 37 = .ok (.iaload, 1) := by decide +kernel
theorem d_M_unit_38 : decode b_M_unit 38 = .ok (.goto 37, 3) := by decide +kernel
theorem d_M_unit_41 : decode b_M_unit 41 = .ok (.iload_n 2, 1) := by decide +kernel
theorem d_M_unit_42 : decode b_M_unit 42 = .ok (.iconst 1, 1) := by decide +kernel
theorem d_M_unit_43 : decode b_M_unit 43 = .ok (.if_icmp .ne 12, 3) := by decide +kernel
theorem d_M_unit_46 : decode b_M_unit 46 = .ok (.aload_n 0, 1) := by decide +kernel
theorem d_M_unit_47 : decode b_M_unit 47 = .ok (.getfield 34, 3) := by decide +kernel
theorem d_M_unit_50 : decode b_M_unit 50 = .ok (.iload_n 1, 1) := by decide +kernel
theorem d_M_unit_51 : decode b_M_unit 51 = .ok (.iaload, 1) := by decide +kernel
theorem d_M_unit_52 : decode b_M_unit 52 = .ok (.goto 23, 3) := by decide +kernel
theorem d_M_unit_55 : decode b_M_unit 55 = .ok (.iload_n 2, 1) := by decide +kernel
theorem d_M_unit_56 : decode b_M_unit 56 = .ok (.iconst 2, 1) := by decide +kernel
theorem d_M_unit_57 : decode b_M_unit 57 = .ok (.if_icmp .ne 12, 3) := by decide +kernel
theorem d_M_unit_60 : decode b_M_unit 60 = .ok (.aload_n 0, 1) := by decide +kernel
theorem d_M_unit_61 : decode b_M_unit 61 = .ok (.getfield 37, 3) := by decide +kernel
theorem d_M_unit_64 : decode b_M_unit 64 = .ok (.iload_n 1, 1) := by decide +kernel
theorem d_M_unit_65 : decode b_M_unit 65 = .ok (.iaload, 1) := by decide +kernel
theorem d_M_unit_66 : decode b_M_unit 66 = .ok (.goto 9, 3) := by decide +kernel
theorem d_M_unit_69 : decode b_M_unit 69 = .ok (.aload_n 0, 1) := by decide +kernel
theorem d_M_unit_70 : decode b_M_unit 70 = .ok (.getfield 40, 3) := by decide +kernel
theorem d_M_unit_73 : decode b_M_unit 73 = .ok (.iload_n 1, 1) := by decide +kernel
theorem d_M_unit_74 : decode b_M_unit 74 = .ok (.iaload, 1) := by decide +kernel
theorem d_M_unit_75 : decode b_M_unit 75 = .ok (.ireturn, 1) := by decide +kernel
theorem d_M_unit_76 : decode b_M_unit 76 = .ok (.iconst 0, 1) := by decide +kernel
theorem d_M_unit_77 : decode b_M_unit 77 = .ok (.istore_n 3, 1) := by decide +kernel
theorem d_M_unit_78 : decode b_M_unit 78 = .ok (.iconst 0, 1) := by decide +kernel
theorem d_M_unit_79 : decode b_M_unit 79 = .ok (.istore 4, 2) := by decide +kernel
theorem d_M_unit_81 : decode b_M_unit 81 = .ok (.iload 4, 2) := by decide +kernel
theorem d_M_unit_83 : decode b_M_unit 83 = .ok (.aload_n 0, 1) := by decide +kernel
theorem d_M_unit_84 : decode b_M_unit 84 = .ok (.getfield 97, 3) := by decide +kernel
theorem d_M_unit_87 : decode b_M_unit 87 = .ok (.if_icmp .ge 38, 3) := by decide +kernel
theorem d_M_unit_90 : decode b_M_unit 90 = .ok (.iload_n 3, 1) := by decide +kernel
theorem d_M_unit_91 : decode b_M_unit 91 = .ok (.aload_n 0, 1) := by decide +kernel
theorem d_M_unit_92 : decode b_M_unit 92 = .ok (.getfield 46, 3) := by decide +kernel
theorem d_M_unit_95 : decode b_M_unit 95 = .ok (.iload 4, 2) := by decide +kernel
theorem d_M_unit_97 : decode b_M_unit 97 = .ok (.iaload, 1) := by decide +kernel
theorem d_M_unit_98 : decode b_M_unit 98 = .ok (.iload_n 1, 1) := by decide +kernel
theorem d_M_unit_99 : decode b_M_unit 99 = .ok (.if_icmp .ne 17, 3) := by decide +kernel
theorem d_M_unit_102 : decode b_M_unit 102 = .ok (.aload_n 0, 1) := by decide +kernel
theorem d_M_unit_103 : decode b_M_unit 103 = .ok (.getfield 49, 3) := by decide +kernel
theorem d_M_unit_106 : decode b_M_unit 106 = .ok (.iload 4, 2) := by decide +kernel
theorem d_M_unit_108 : decode b_M_unit 108 = .ok (.iaload, 1) := by decide +kernel
theorem d_M_unit_109 : decode b_M_unit 109 = .ok (.ifCond .ne 7, 3) := by decide +kernel
theorem d_M_unit_112 : decode b_M_unit 112 = .ok (.iconst 1, 1) := by decide +kernel
theorem d_M_unit_113 : decode b_M_unit 113 = .ok (.goto 4, 3) := by decide +kernel
theorem d_M_unit_116 : decode b_M_unit 116 = .ok (.iconst 0, 1) := by decide +kernel
theorem d_M_unit_117 : decode b_M_unit 117 = .ok (.iadd, 1) := by decide +kernel
theorem d_M_unit_118 : decode b_M_unit 118 = .ok (.istore_n 3, 1) := by decide +kernel
theorem d_M_unit_119 : decode b_M_unit 119 = .ok (.iinc 4 1, 3) := by decide +kernel
theorem d_M_unit_122 : decode b_M_unit 122 = .ok (.goto (-41), 3) := by decide +kernel
theorem d_M_unit_125 : decode b_M_unit 125 = .ok (.iload_n 3, 1) := by decide +kernel
theorem d_M_unit_126 : decode b_M_unit 126 = .ok (.ireturn, 1) := by decide +kernel
theorem d_M_person_0 : decode b_M_person 0 = .ok (.aload_n 0, 1) := by decide +kernel
theorem d_M_person_1 : decode b_M_person 1 = .ok (.iconst 0, 1) := by decide +kernel
theorem d_M_person_2 : decode b_M_person 2 = .ok (.putfield 65, 3) := by decide +kernel
theorem d_M_person_5 : decode b_M_person 5 = .ok (.iload_n 1, 1) := by decide +kernel
theorem d_M_person_6 : decode b_M_person 6 = .ok (.invokestatic 79, 3) := by decide +kernel
theorem d_M_person_9 : decode b_M_person 9 = .ok (.ifCond .ne 5, 3) := by decide +kernel
theorem d_M_person_12 : decode b_M_person 12 = .ok (.iconst (-1), 1) := by decide +kernel
theorem d_M_person_13 : decode b_M_person 13 = .ok (.ireturn, 1) := by decide +kernel
theorem d_M_person_14 : decode b_M_person 14 = .ok (.iload_n 2, 1) := by decide +kernel
theorem d_M_person_15 : decode b_M_person 15 = .ok (.tableswitch 64 0 4 #[33, 39, 45, 51, 57], 33) := by decide +kernel
theorem d_M_person_48 : decode b_M_person 48 = .ok (.aload_n 0, 1) := by decide +kernel
theorem d_M_person_49 : decode b_M_person 49 = .ok (.iload_n 1, 1) := by decide +kernel
theorem d_M_person_50 : decode b_M_person 50 = .ok (.invokevirtual 83, 3) := by decide +kernel
theorem d_M_person_53 : decode b_M_person 53 = .ok (.ireturn, 1) := by decide +kernel
theorem d_M_person_54 : decode b_M_person 54 = .ok (.aload_n 0, 1) := by decide +kernel
theorem d_M_person_55 : decode b_M_person 55 = .ok (.iload_n 1, 1) := by decide +kernel
theorem d_M_person_56 : decode b_M_person 56 = .ok (.invokevirtual 87, 3) := by decide +kernel
theorem d_M_person_59 : decode b_M_person 59 = .ok (.ireturn, 1) := by decide +kernel
theorem d_M_person_60 : decode b_M_person 60 = .ok (.aload_n 0, 1) := by decide +kernel
theorem d_M_person_61 : decode b_M_person 61 = .ok (.iload_n 1, 1) := by decide +kernel
theorem d_M_person_62 : decode b_M_person 62 = .ok (.invokevirtual 109, 3) := by decide +kernel
theorem d_M_person_65 : decode b_M_person 65 = .ok (.ireturn, 1) := by decide +kernel
theorem d_M_person_66 : decode b_M_person 66 = .ok (.aload_n 0, 1) := by decide +kernel
theorem d_M_person_67 : decode b_M_person 67 = .ok (.iload_n 1, 1) := by decide +kernel
theorem d_M_person_68 : decode b_M_person 68 = .ok (.invokevirtual 90, 3) := by decide +kernel
theorem d_M_person_71 : decode b_M_person 71 = .ok (.ireturn, 1) := by decide +kernel
theorem d_M_person_72 : decode b_M_person 72 = .ok (.aload_n 0, 1) := by decide +kernel
theorem d_M_person_73 : decode b_M_person 73 = .ok (.getfield 25, 3) := by decide +kernel
theorem d_M_person_76 : decode b_M_person 76 = .ok (.iload_n 1, 1) := by decide +kernel
theorem d_M_person_77 : decode b_M_person 77 = .ok (.iaload, 1) := by decide +kernel
theorem d_M_person_78 : decode b_M_person 78 = .ok (.ireturn, 1) := by decide +kernel
theorem d_M_person_79 : decode b_M_person 79 = .ok (.iconst (-1), 1) := by decide +kernel
theorem d_M_person_80 : decode b_M_person 80 = .ok (.ireturn, 1) := by decide +kernel
theorem d_M_request_0 : decode b_M_request 0 = .ok (.aload_n 0, 1) := by decide +kernel
theorem d_M_request_1 : decode b_M_request 1 = .ok (.iload_n 1, 1) := by decide +kernel
theorem d_M_request_2 : decode b_M_request 2 = .ok (.iconst 0, 1) := by decide +kernel
theorem d_M_request_3 : decode b_M_request 3 = .ok (.aload_n 0, 1) := by decide +kernel
theorem d_M_request_4 : decode b_M_request 4 = .ok (.getfield 97, 3) := by decide +kernel
theorem d_M_request_7 : decode b_M_request 7 = .ok (.iconst 1, 1) := by decide +kernel
theorem d_M_request_8 : decode b_M_request 8 = .ok (.isub, 1) := by decide +kernel
theorem d_M_request_9 : decode b_M_request 9 = .ok (.invokestatic 68, 3) := by decide +kernel
theorem d_M_request_12 : decode b_M_request 12 = .ok (.ifCond .eq 12, 3) := by decide +kernel
theorem d_M_request_15 : decode b_M_request 15 = .ok (.iload_n 2, 1) := by decide +kernel
theorem d_M_request_16 : decode b_M_request 16 = .ok (.iconst 0, 1) := by decide +kernel
theorem d_M_request_17 : decode b_M_request 17 = .ok (.iconst 5, 1) := by decide +kernel
theorem d_M_request_18 : decode b_M_request 18 = .ok (.invokestatic 68, 3) := by decide +kernel
theorem d_M_request_21 : decode b_M_request 21 = .ok (.ifCond .ne 7, 3) := by decide +kernel
theorem d_M_request_24 : decode b_M_request 24 = .ok (.iconst 1, 1) := by decide +kernel
theorem d_M_request_25 : decode b_M_request 25 = .ok (.goto 4, 3) := by decide +kernel
theorem d_M_request_28 : decode b_M_request 28 = .ok (.iconst 0, 1) := by decide +kernel
theorem d_M_request_29 : decode b_M_request 29 = .ok (.putfield 65, 3) := by decide +kernel
theorem d_M_request_32 : decode b_M_request 32 = .ok (.aload_n 0, 1) := by decide +kernel
theorem d_M_request_33 : decode b_M_request 33 = .ok (.getfield 65, 3) := by decide +kernel
theorem d_M_request_36 : decode b_M_request 36 = .ok (.ifCond .le 5, 3) := by decide +kernel
theorem d_M_request_39 : decode b_M_request 39 = .ok (.iconst 0, 1) := by decide +kernel
theorem d_M_request_40 : decode b_M_request 40 = .ok (.ireturn, 1) := by decide +kernel
theorem d_M_request_41 : decode b_M_request 41 = .ok (.iload_n 2, 1) := by decide +kernel
theorem d_M_request_42 : decode b_M_request 42 = .ok (.ifCond .ne 12, 3) := by decide +kernel
theorem d_M_request_45 : decode b_M_request 45 = .ok (.aload_n 0, 1) := by decide +kernel
theorem d_M_request_46 : decode b_M_request 46 = .ok (.getfield 43, 3) := by decide +kernel
theorem d_M_request_49 : decode b_M_request 49 = .ok (.iload_n 1, 1) := by decide +kernel
theorem d_M_request_50 : decode b_M_request 50 = .ok (.iaload, 1) := by decide +kernel
theorem d_M_request_51 : decode b_M_request 51 = .ok (.goto 65, 3) := by decide +kernel
theorem d_M_request_54 : decode b_M_request 54 = .ok (.iload_n 2, 1) := by decide +kernel
theorem d_M_request_55 : decode b_M_request 55 = .ok (.iconst 1, 1) := by decide +kernel
theorem d_M_request_56 : decode b_M_request 56 = .ok (.if_icmp .ne 12, 3) := by decide +kernel
theorem d_M_request_59 : decode b_M_request 59 = .ok (.aload_n 0, 1) := by decide +kernel
theorem d_M_request_60 : decode b_M_request 60 = .ok (.getfield 46, 3) := by decide +kernel
theorem d_M_request_63 : decode b_M_request 63 = .ok (.iload_n 1, 1) := by decide +kernel
theorem d_M_request_64 : decode b_M_request 64 = .ok (.iaload, 1) := by decide +kernel
theorem d_M_request_65 : decode b_M_request 65 = .ok (.goto 51, 3) := by decide +kernel
theorem d_M_request_68 : decode b_M_request 68 = .ok (.iload_n 2, 1) := by decide +kernel
theorem d_M_request_69 : decode b_M_request 69 = .ok (.iconst 2, 1) := by decide +kernel
theorem d_M_request_70 : decode b_M_request 70 = .ok (.if_icmp .ne 12, 3) := by decide +kernel
theorem d_M_request_73 : decode b_M_request 73 = .ok (.aload_n 0, 1) := by decide +kernel
theorem d_M_request_74 : decode b_M_request 74 = .ok (.getfield 49, 3) := by decide +kernel
theorem d_M_request_77 : decode b_M_request 77 = .ok (.iload_n 1, 1) := by decide +kernel
theorem d_M_request_78 : decode b_M_request 78 = .ok (.iaload, 1) := by decide +kernel
theorem d_M_request_79 : decode b_M_request 79 = .ok (.goto 37, 3) := by decide +kernel
theorem d_M_request_82 : decode b_M_request 82 = .ok (.iload_n 2, 1) := by decide +kernel
theorem d_M_request_83 : decode b_M_request 83 = .ok (.iconst 3, 1) := by decide +kernel
theorem d_M_request_84 : decode b_M_request 84 = .ok (.if_icmp .ne 12, 3) := by decide +kernel
theorem d_M_request_87 : decode b_M_request 87 = .ok (.aload_n 0, 1) := by decide +kernel
theorem d_M_request_88 : decode b_M_request 88 = .ok (.getfield 52, 3) := by decide +kernel
theorem d_M_request_91 : decode b_M_request 91 = .ok (.iload_n 1, 1) := by decide +kernel
theorem d_M_request_92 : decode b_M_request 92 = .ok (.iaload, 1) := by decide +kernel
theorem d_M_request_93 : decode b_M_request 93 = .ok (.goto 23, 3) := by decide +kernel
theorem d_M_request_96 : decode b_M_request 96 = .ok (.iload_n 2, 1) := by decide +kernel
theorem d_M_request_97 : decode b_M_request 97 = .ok (.iconst 4, 1) := by decide +kernel
theorem d_M_request_98 : decode b_M_request 98 = .ok (.if_icmp .ne 12, 3) := by decide +kernel
theorem d_M_request_101 : decode b_M_request 101 = .ok (.aload_n 0, 1) := by decide +kernel
theorem d_M_request_102 : decode b_M_request 102 = .ok (.getfield 55, 3) := by decide +kernel
theorem d_M_request_105 : decode b_M_request 105 = .ok (.iload_n 1, 1) := by decide +kernel
theorem d_M_request_106 : decode b_M_request 106 = .ok (.iaload, 1) := by decide +kernel
theorem d_M_request_107 : decode b_M_request 107 = .ok (.goto 9, 3) := by decide +kernel
theorem d_M_request_110 : decode b_M_request 110 = .ok (.aload_n 0, 1) := by decide +kernel
theorem d_M_request_111 : decode b_M_request 111 = .ok (.getfield 58, 3) := by decide +kernel
theorem d_M_request_114 : decode b_M_request 114 = .ok (.iload_n 1, 1) := by decide +kernel
theorem d_M_request_115 : decode b_M_request 115 = .ok (.iaload, 1) := by decide +kernel
theorem d_M_request_116 : decode b_M_request 116 = .ok (.ireturn, 1) := by decide +kernel
theorem d_M_waits_0 : decode b_M_waits 0 = .ok (.iload_n 2, 1) := by decide +kernel
theorem d_M_waits_1 : decode b_M_waits 1 = .ok (.istore_n 3, 1) := by decide +kernel
theorem d_M_waits_2 : decode b_M_waits 2 = .ok (.iconst 0, 1) := by decide +kernel
theorem d_M_waits_3 : decode b_M_waits 3 = .ok (.istore 4, 2) := by decide +kernel
theorem d_M_waits_5 : decode b_M_waits 5 = .ok (.iload 4, 2) := by decide +kernel
theorem d_M_waits_7 : decode b_M_waits 7 = .ok (.aload_n 0, 1) := by decide +kernel
theorem d_M_waits_8 : decode b_M_waits 8 = .ok (.getfield 97, 3) := by decide +kernel
theorem d_M_waits_11 : decode b_M_waits 11 = .ok (.if_icmp .ge 48, 3) := by decide +kernel
theorem d_M_waits_14 : decode b_M_waits 14 = .ok (.aload_n 0, 1) := by decide +kernel
theorem d_M_waits_15 : decode b_M_waits 15 = .ok (.getfield 46, 3) := by decide +kernel
theorem d_M_waits_18 : decode b_M_waits 18 = .ok (.iload 4, 2) := by decide +kernel
theorem d_M_waits_20 : decode b_M_waits 20 = .ok (.iaload, 1) := by decide +kernel
theorem d_M_waits_21 : decode b_M_waits 21 = .ok (.iload_n 1, 1) := by decide +kernel
theorem d_M_waits_22 : decode b_M_waits 22 = .ok (.if_icmp .ne 31, 3) := by decide +kernel
theorem d_M_waits_25 : decode b_M_waits 25 = .ok (.aload_n 0, 1) := by decide +kernel
theorem d_M_waits_26 : decode b_M_waits 26 = .ok (.getfield 49, 3) := by decide +kernel
theorem d_M_waits_29 : decode b_M_waits 29 = .ok (.iload 4, 2) := by decide +kernel
theorem d_M_waits_31 : decode b_M_waits 31 = .ok (.iaload, 1) := by decide +kernel
theorem d_M_waits_32 : decode b_M_waits 32 = .ok (.ifCond .eq 6, 3) := by decide +kernel
theorem d_M_waits_35 : decode b_M_waits 35 = .ok (.goto 18, 3) := by decide +kernel
theorem d_M_waits_38 : decode b_M_waits 38 = .ok (.iload_n 3, 1) := by decide +kernel
theorem d_M_waits_39 : decode b_M_waits 39 = .ok (.ifCond .ne 11, 3) := by decide +kernel
theorem d_M_waits_42 : decode b_M_waits 42 = .ok (.aload_n 0, 1) := by decide +kernel
theorem d_M_waits_43 : decode b_M_waits 43 = .ok (.iconst 0, 1) := by decide +kernel
theorem d_M_waits_44 : decode b_M_waits 44 = .ok (.putfield 65, 3) := by decide +kernel
theorem d_M_waits_47 : decode b_M_waits 47 = .ok (.iload 4, 2) := by decide +kernel
theorem d_M_waits_49 : decode b_M_waits 49 = .ok (.ireturn, 1) := by decide +kernel
theorem d_M_waits_50 : decode b_M_waits 50 = .ok (.iinc 3 (-1), 3) := by decide +kernel
theorem d_M_waits_53 : decode b_M_waits 53 = .ok (.iinc 4 1, 3) := by decide +kernel
theorem d_M_waits_56 : decode b_M_waits 56 = .ok (.goto (-51), 3) := by decide +kernel
theorem d_M_waits_59 : decode b_M_waits 59 = .ok (.aload_n 0, 1) := by decide +kernel
theorem d_M_waits_60 : decode b_M_waits 60 = .ok (.iconst 1, 1) := by decide +kernel
theorem d_M_waits_61 : decode b_M_waits 61 = .ok (.putfield 65, 3) := by decide +kernel
theorem d_M_waits_64 : decode b_M_waits 64 = .ok (.iconst 0, 1) := by decide +kernel
theorem d_M_waits_65 : decode b_M_waits 65 = .ok (.ireturn, 1) := by decide +kernel
