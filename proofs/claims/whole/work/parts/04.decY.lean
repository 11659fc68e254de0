theorem d_H_init_0 : decode b_H_init 0 = .ok (.aload_n 0, 1) := by decide +kernel
theorem d_H_init_1 : decode b_H_init 1 = .ok (.invokespecial 3, 3) := by decide +kernel
theorem d_H_init_4 : decode b_H_init 4 = .ok (.aload_n 0, 1) := by decide +kernel
theorem d_H_init_5 : decode b_H_init 5 = .ok (.bipush 80, 2) := by decide +kernel
theorem d_H_init_7 : decode b_H_init 7 = .ok (.newarray .int, 2) := by decide +kernel
theorem d_H_init_9 : decode b_H_init 9 = .ok (.putfield 9, 3) := by decide +kernel
theorem d_H_init_12 : decode b_H_init 12 = .ok (.aload_n 0, 1) := by decide +kernel
theorem d_H_init_13 : decode b_H_init 13 = .ok (.bipush 80, 2) := by decide +kernel
theorem d_H_init_15 : decode b_H_init 15 = .ok (.newarray .int, 2) := by decide +kernel
theorem d_H_init_17 : decode b_H_init 17 = .ok (.putfield 15, 3) := by decide +kernel
theorem d_H_init_20 : decode b_H_init 20 = .ok (.aload_n 0, 1) := by decide +kernel
theorem d_H_init_21 : decode b_H_init 21 = .ok (.bipush 80, 2) := by decide +kernel
theorem d_H_init_23 : decode b_H_init 23 = .ok (.newarray .int, 2) := by decide +kernel
theorem d_H_init_25 : decode b_H_init 25 = .ok (.putfield 18, 3) := by decide +kernel
theorem d_H_init_28 : decode b_H_init 28 = .ok (.aload_n 0, 1) := by decide +kernel
theorem d_H_init_29 : decode b_H_init 29 = .ok (.bipush 80, 2) := by decide +kernel
theorem d_H_init_31 : decode b_H_init 31 = .ok (.newarray .int, 2) := by decide +kernel
theorem d_H_init_33 : decode b_H_init 33 = .ok (.putfield 21, 3) := by decide +kernel
theorem d_H_init_36 : decode b_H_init 36 = .ok (.aload_n 0, 1) := by decide +kernel
theorem d_H_init_37 : decode b_H_init 37 = .ok (.getfield 21, 3) := by decide +kernel
theorem d_H_init_40 : decode b_H_init 40 = .ok (.iconst (-1), 1) := by decide +kernel
theorem d_H_init_41 : decode b_H_init 41 = .ok (.invokestatic 24, 3) := by decide +kernel
theorem d_H_init_44 : decode b_H_init 44 = .ok (.return_, 1) := by decide +kernel
theorem d_H_placeOf_0 : decode b_H_placeOf 0 = .ok (.iload_n 1, 1) := by decide +kernel
theorem d_H_placeOf_1 : decode b_H_placeOf 1 = .ok (.invokestatic 30, 3) := by decide +kernel
theorem d_H_placeOf_4 : decode b_H_placeOf 4 = .ok (.ifCond .eq 12, 3) := by decide +kernel
theorem d_H_placeOf_7 : decode b_H_placeOf 7 = .ok (.aload_n 0, 1) := by decide +kernel
theorem d_H_placeOf_8 : decode b_H_placeOf 8 = .ok (.getfield 9, 3) := by decide +kernel
theorem d_H_placeOf_11 : decode b_H_placeOf 11 = .ok (.iload_n 1, 1) := by decide +kernel
theorem d_H_placeOf_12 : decode b_H_placeOf 12 = .ok (.iaload, 1) := by decide +kernel
theorem d_H_placeOf_13 : decode b_H_placeOf 13 = .ok (.goto 4, 3) := by decide +kernel
theorem d_H_placeOf_16 : decode b_H_placeOf 16 = .ok (.iconst (-1), 1) := by decide +kernel
theorem d_H_placeOf_17 : decode b_H_placeOf 17 = .ok (.ireturn, 1) := by decide +kernel
theorem d_H_conditionOf_0 : decode b_H_conditionOf 0 = .ok (.iload_n 1, 1) := by decide +kernel
theorem d_H_conditionOf_1 : decode b_H_conditionOf 1 = .ok (.invokestatic 30, 3) := by decide +kernel
theorem d_H_conditionOf_4 : decode b_H_conditionOf 4 = .ok (.ifCond .eq 12, 3) := by decide +kernel
theorem d_H_conditionOf_7 : decode b_H_conditionOf 7 = .ok (.aload_n 0, 1) := by decide +kernel
theorem d_H_conditionOf_8 : decode b_H_conditionOf 8 = .ok (.getfield 15, 3) := by decide +kernel
theorem d_H_conditionOf_11 : decode b_H_conditionOf 11 = .ok (.iload_n 1, 1) := by decide +kernel
theorem d_H_conditionOf_12 : decode b_H_conditionOf 12 = .ok (.iaload, 1) := by decide +kernel
theorem d_H_conditionOf_13 : decode b_H_conditionOf 13 = .ok (.goto 4, 3) := by decide +kernel
theorem d_H_conditionOf_16 : decode b_H_conditionOf 16 = .ok (.iconst (-1), 1) := by decide +kernel
theorem d_H_conditionOf_17 : decode b_H_conditionOf 17 = .ok (.ireturn, 1) := by decide +kernel
theorem d_H_restrictionOf_0 : decode b_H_restrictionOf 0 = .ok (.iload_n 1, 1) := by decide +kernel
theorem d_H_restrictionOf_1 : decode b_H_restrictionOf 1 = .ok (.invokestatic 30, 3) := by decide +kernel
theorem d_H_restrictionOf_4 : decode b_H_restrictionOf 4 = .ok (.ifCond .eq 12, 3) := by decide +kernel
theorem d_H_restrictionOf_7 : decode b_H_restrictionOf 7 = .ok (.aload_n 0, 1) := by decide +kernel
theorem d_H_restrictionOf_8 : decode b_H_restrictionOf 8 = .ok (.getfield 18, 3) := by decide +kernel
theorem d_H_restrictionOf_11 : decode b_H_restrictionOf 11 = .ok (.iload_n 1, 1) := by decide +kernel
theorem d_H_restrictionOf_12 : decode b_H_restrictionOf 12 = .ok (.iaload, 1) := by decide +kernel
theorem d_H_restrictionOf_13 : decode b_H_restrictionOf 13 = .ok (.goto 4, 3) := by decide +kernel
theorem d_H_restrictionOf_16 : decode b_H_restrictionOf 16 = .ok (.iconst (-1), 1) := by decide +kernel
theorem d_H_restrictionOf_17 : decode b_H_restrictionOf 17 = .ok (.ireturn, 1) := by decide +kernel
theorem d_H_requestOf_0 : decode b_H_requestOf 0 = .ok (.iload_n 1, 1) := by decide +kernel
theorem d_H_requestOf_1 : decode b_H_requestOf 1 = .ok (.invokestatic 30, 3) := by decide +kernel
theorem d_H_requestOf_4 : decode b_H_requestOf 4 = .ok (.ifCond .eq 12, 3) := by decide +kernel
theorem d_H_requestOf_7 : decode b_H_requestOf 7 = .ok (.aload_n 0, 1) := by decide +kernel
theorem d_H_requestOf_8 : decode b_H_requestOf 8 = .ok (.getfield 21, 3) := by decide +kernel
theorem d_H_requestOf_11 : decode b_H_requestOf 11 = .ok (.iload_n 1, 1) := by decide +kernel
theorem d_H_requestOf_12 : decode b_H_requestOf 12 = .ok (.iaload, 1) := by decide +kernel
theorem d_H_requestOf_13 : decode b_H_requestOf 13 = .ok (.goto 4, 3) := by decide +kernel
theorem d_H_requestOf_16 : decode b_H_requestOf 16 = .ok (.iconst (-1), 1) := by decide +kernel
theorem d_H_requestOf_17 : decode b_H_requestOf 17 = .ok (.ireturn, 1) := by decide +kernel
theorem d_H_put_0 : decode b_H_put 0 = .ok (.iload_n 1, 1) := by decide +kernel
theorem d_H_put_1 : decode b_H_put 1 = .ok (.invokestatic 30, 3) := by decide +kernel
theorem d_H_put_4 : decode b_H_put 4 = .ok (.ifCond .eq 17, 3) := by decide +kernel
theorem d_H_put_7 : decode b_H_put 7 = .ok (.aload_n 0, 1) := by decide +kernel
theorem d_H_put_8 : decode b_H_put 8 = .ok (.getfield 9, 3) := by decide +kernel
theorem d_H_put_11 : decode b_H_put 11 = .ok (.iload_n 1, 1) := by decide +kernel
theorem d_H_put_12 : decode b_H_put 12 = .ok (.iload_n 2, 1) := by decide +kernel
theorem d_H_put_13 : decode b_H_put 13 = .ok (.iastore, 1) := by decide +kernel
theorem d_H_put_14 : decode b_H_put 14 = .ok (.aload_n 0, 1) := by decide +kernel
theorem d_H_put_15 : decode b_H_put 15 = .ok (.getfield 21, 3) := by decide +kernel
theorem d_H_put_18 : decode b_H_put 18 = .ok (.iload_n 1, 1) := by decide +kernel
theorem d_H_put_19 : decode b_H_put 19 = .ok (.iload_n 3, 1) := by decide +kernel
theorem d_H_put_20 : decode b_H_put 20 = .ok (.iastore, 1) := by decide +kernel
theorem d_H_put_21 : decode b_H_put 21 = .ok (.return_, 1) := by decide +kernel
theorem d_H_setCondition_0 : decode b_H_setCondition 0 = .ok (.iload_n 1, 1) := by decide +kernel
theorem d_H_setCondition_1 : decode b_H_setCondition 1 = .ok (.invokestatic 30, 3) := by decide +kernel
theorem d_H_setCondition_4 : decode b_H_setCondition 4 = .ok (.ifCond .eq 10, 3) := by decide +kernel
theorem d_H_setCondition_7 : decode b_H_setCondition 7 = .ok (.aload_n 0, 1) := by decide +kernel
theorem d_H_setCondition_8 : decode b_H_setCondition 8 = .ok (.getfield 15, 3) := by decide +kernel
theorem d_H_setCondition_11 : decode b_H_setCondition 11 = .ok (.iload_n 1, 1) := by decide +kernel
theorem d_H_setCondition_12 : decode b_H_setCondition 12 = .ok (.iload_n 2, 1) := by decide +kernel
theorem d_H_setCondition_13 : decode b_H_setCondition 13 = .ok (.iastore, 1) := by decide +kernel
theorem d_H_setCondition_14 : decode b_H_setCondition 14 = .ok (.return_, 1) := by decide +kernel
theorem d_H_setRestriction_0 : decode b_H_setRestriction 0 = .ok (.iload_n 1, 1) := by decide +kernel
theorem d_H_setRestriction_1 : decode b_H_setRestriction 1 = .ok (.invokestatic 30, 3) := by decide +kernel
theorem d_H_setRestriction_4 : decode b_H_setRestriction 4 = .ok (.ifCond .eq 10, 3) := by decide +kernel
theorem d_H_setRestriction_7 : decode b_H_setRestriction 7 = .ok (.aload_n 0, 1) := by decide +kernel
theorem d_H_setRestriction_8 : decode b_H_setRestriction 8 = .ok (.getfield 18, 3) := by decide +kernel
theorem d_H_setRestriction_11 : decode b_H_setRestriction 11 = .ok (.iload_n 1, 1) := by decide +kernel
theorem d_H_setRestriction_12 : decode b_H_setRestriction 12 = .ok (.iload_n 2, 1) := by decide +kernel
theorem d_H_setRestriction_13 : decode b_H_setRestriction 13 = .ok (.iastore, 1) := by decide +kernel
theorem d_H_setRestriction_14 : decode b_H_setRestriction 14 = .ok (.return_, 1) := by decide +kernel
theorem d_H_storeAll_0 : decode b_H_storeAll 0 = .ok (.iconst 0, 1) := by decide +kernel
theorem d_H_storeAll_1 : decode b_H_storeAll 1 = .ok (.istore_n 1, 1) := by decide +kernel
theorem d_H_storeAll_2 : decode b_H_storeAll 2 = .ok (.iconst 0, 1) := by decide +kernel
theorem d_H_storeAll_3 : decode b_H_storeAll 3 = .ok (.istore_n 2, 1) := by decide +kernel
theorem d_H_storeAll_4 : decode b_H_storeAll 4 = .ok (.iload_n 2, 1) := by decide +kernel
theorem d_H_storeAll_5 : decode b_H_storeAll 5 = .ok (.bipush 80, 2) := by decide +kernel
theorem d_H_storeAll_7 : decode b_H_storeAll 7 = .ok (.if_icmp .ge 28, 3) := by decide +kernel
theorem d_H_storeAll_10 : decode b_H_storeAll 10 = .ok (.aload_n 0, 1) := by decide +kernel
theorem d_H_storeAll_11 : decode b_H_storeAll 11 = .ok (.getfield 9, 3) := by decide +kernel
theorem d_H_storeAll_14 : decode b_H_storeAll 14 = .ok (.iload_n 2, 1) := by decide +kernel
theorem d_H_storeAll_15 : decode b_H_storeAll 15 = .ok (.iaload, 1) := by decide +kernel
theorem d_H_storeAll_16 : decode b_H_storeAll 16 = .ok (.ifCond .eq 13, 3) := by decide +kernel
theorem d_H_storeAll_19 : decode b_H_storeAll 19 = .ok (.aload_n 0, 1) := by decide +kernel
theorem d_H_storeAll_20 : decode b_H_storeAll 20 = .ok (.iload_n 2, 1) := by decide +kernel
theorem d_H_storeAll_21 : decode b_H_storeAll 21 = .ok (.iconst 0, 1) := by decide +kernel
theorem d_H_storeAll_22 : decode b_H_storeAll 22 = .ok (.iconst (-1), 1) := by decide +kernel
theorem d_H_storeAll_23 : decode b_H_storeAll 23 = .ok (.invokevirtual 34, 3) := by decide +kernel
theorem d_H_storeAll_26 : decode b_H_storeAll 26 = .ok (.iinc 1 1, 3) := by decide +kernel
theorem d_H_storeAll_29 : decode b_H_storeAll 29 = .ok (.iinc 2 1, 3) := by decide +kernel
theorem d_H_storeAll_32 : decode b_H_storeAll 32 = .ok (.goto (-28), 3) := by decide +kernel
theorem d_H_storeAll_35 : decode b_H_storeAll 35 = .ok (.iload_n 1, 1) := by decide +kernel
theorem d_H_storeAll_36 : decode b_H_storeAll 36 = .ok (.ireturn, 1) := by decide +kernel
theorem d_R_init_0 : decode b_R_init 0 = .ok (.aload_n 0, 1) := by decide +kernel
theorem d_R_init_1 : decode b_R_init 1 = .ok (.invokespecial 3, 3) := by decide +kernel
theorem d_R_init_4 : decode b_R_init 4 = .ok (.aload_n 0, 1) := by decide +kernel
theorem d_R_init_5 : decode b_R_init 5 = .ok (.bipush 60, 2) := by decide +kernel
theorem d_R_init_7 : decode b_R_init 7 = .ok (.newarray .int, 2) := by decide +kernel
theorem d_R_init_9 : decode b_R_init 9 = .ok (.putfield 9, 3) := by decide +kernel
theorem d_R_init_12 : decode b_R_init 12 = .ok (.aload_n 0, 1) := by decide +kernel
theorem d_R_init_13 : decode b_R_init 13 = .ok (.bipush 60, 2) := by decide +kernel
theorem d_R_init_15 : decode b_R_init 15 = .ok (.newarray .int, 2) := by decide +kernel
theorem d_R_init_17 : decode b_R_init 17 = .ok (.putfield 15, 3) := by decide +kernel
theorem d_R_init_20 : decode b_R_init 20 = .ok (.aload_n 0, 1) := by decide +kernel
theorem d_R_init_21 : decode b_R_init 21 = .ok (.bipush 60, 2) := by decide +kernel
theorem d_R_init_23 : decode b_R_init 23 = .ok (.newarray .int, 2) := by decide +kernel
theorem d_R_init_25 : decode b_R_init 25 = .ok (.putfield 18, 3) := by decide +kernel
theorem d_R_init_28 : decode b_R_init 28 = .ok (.aload_n 0, 1) := by decide +kernel
theorem d_R_init_29 : decode b_R_init 29 = .ok (.bipush 60, 2) := by decide +kernel
theorem d_R_init_31 : decode b_R_init 31 = .ok (.newarray .int, 2) := by decide +kernel
theorem d_R_init_33 : decode b_R_init 33 = .ok (.putfield 21, 3) := by decide +kernel
theorem d_R_init_36 : decode b_R_init 36 = .ok (.aload_n 0, 1) := by decide +kernel
theorem d_R_init_37 : decode b_R_init 37 = .ok (.bipush 60, 2) := by decide +kernel
theorem d_R_init_39 : decode b_R_init 39 = .ok (.newarray .int, 2) := by decide +kernel
theorem d_R_init_41 : decode b_R_init 41 = .ok (.putfield 24, 3) := by decide +kernel
theorem d_R_init_44 : decode b_R_init 44 = .ok (.aload_n 0, 1) := by decide +kernel
theorem d_R_init_45 : decode b_R_init 45 = .ok (.getfield 15, 3) := by decide +kernel
theorem d_R_init_48 : decode b_R_init 48 = .ok (.iconst 3, 1) := by decide +kernel
theorem d_R_init_49 : decode b_R_init 49 = .ok (.invokestatic 27, 3) := by decide +kernel
theorem d_R_init_52 : decode b_R_init 52 = .ok (.aload_n 0, 1) := by decide +kernel
theorem d_R_init_53 : decode b_R_init 53 = .ok (.getfield 18, 3) := by decide +kernel
theorem d_R_init_56 : decode b_R_init 56 = .ok (.bipush 20, 2) := by decide +kernel
theorem d_R_init_58 : decode b_R_init 58 = .ok (.invokestatic 27, 3) := by decide +kernel
theorem d_R_init_61 : decode b_R_init 61 = .ok (.return_, 1) := by decide +kernel
theorem d_R_rightOf_0 : decode b_R_rightOf 0 = .ok (.iload_n 1, 1) := by decide +kernel
theorem d_R_rightOf_1 : decode b_R_rightOf 1 = .ok (.invokestatic 33, 3) := by decide +kernel
theorem d_R_rightOf_4 : decode b_R_rightOf 4 = .ok (.ifCond .eq 12, 3) := by decide +kernel
theorem d_R_rightOf_7 : decode b_R_rightOf 7 = .ok (.aload_n 0, 1) := by decide +kernel
theorem d_R_rightOf_8 : decode b_R_rightOf 8 = .ok (.getfield 9, 3) := by decide +kernel
theorem d_R_rightOf_11 : decode b_R_rightOf 11 = .ok (.iload_n 1, 1) := by decide +kernel
theorem d_R_rightOf_12 : decode b_R_rightOf 12 = .ok (.iaload, 1) := by decide +kernel
theorem d_R_rightOf_13 : decode b_R_rightOf 13 = .ok (.goto 4, 3) := by decide +kernel
theorem d_R_rightOf_16 : decode b_R_rightOf 16 = .ok (.iconst 0, 1) := by decide +kernel
theorem d_R_rightOf_17 : decode b_R_rightOf 17 = .ok (.ireturn, 1) := by decide +kernel
theorem d_R_requestLimitOf_0 : decode b_R_requestLimitOf 0 = .ok (.iload_n 1, 1) := by decide +kernel
theorem d_R_requestLimitOf_1 : decode b_R_requestLimitOf 1 = .ok (.invokestatic 33, 3) := by decide +kernel
theorem d_R_requestLimitOf_4 : decode b_R_requestLimitOf 4 = .ok (.ifCond .eq 12, 3) := by decide +kernel
theorem d_R_requestLimitOf_7 : decode b_R_requestLimitOf 7 = .ok (.aload_n 0, 1) := by decide +kernel
theorem d_R_requestLimitOf_8 : decode b_R_requestLimitOf 8 = .ok (.getfield 15, 3) := by decide +kernel
theorem d_R_requestLimitOf_11 : decode b_R_requestLimitOf 11 = .ok (.iload_n 1, 1) := by decide +kernel
theorem d_R_requestLimitOf_12 : decode b_R_requestLimitOf 12 = .ok (.iaload, 1) := by decide +kernel
theorem d_R_requestLimitOf_13 : decode b_R_requestLimitOf 13 = .ok (.goto 4, 3) := by decide +kernel
theorem d_R_requestLimitOf_16 : decode b_R_requestLimitOf 16 = .ok (.iconst 0, 1) := by decide +kernel
theorem d_R_requestLimitOf_17 : decode b_R_requestLimitOf 17 = .ok (.ireturn, 1) := by decide +kernel
theorem d_R_copiedLatelyBy_0 : decode b_R_copiedLatelyBy 0 = .ok (.iload_n 1, 1) := by decide +kernel
theorem d_R_copiedLatelyBy_1 : decode b_R_copiedLatelyBy 1 = .ok (.invokestatic 33, 3) := by decide +kernel
theorem d_R_copiedLatelyBy_4 : decode b_R_copiedLatelyBy 4 = .ok (.ifCond .eq 12, 3) := by decide +kernel
theorem d_R_copiedLatelyBy_7 : decode b_R_copiedLatelyBy 7 = .ok (.aload_n 0, 1) := by decide +kernel
theorem d_R_copiedLatelyBy_8 : decode b_R_copiedLatelyBy 8 = .ok (.getfield 24, 3) := by decide +kernel
theorem d_R_copiedLatelyBy_11 : decode b_R_copiedLatelyBy 11 = .ok (.iload_n 1, 1) := by decide +kernel
theorem d_R_copiedLatelyBy_12 : decode b_R_copiedLatelyBy 12 = .ok (.iaload, 1) := by decide +kernel
theorem d_R_copiedLatelyBy_13 : decode b_R_copiedLatelyBy 13 = .ok (.goto 4, 3) := by decide +kernel
theorem d_R_copiedLatelyBy_16 : decode b_R_copiedLatelyBy 16 = .ok (.iconst 0, 1) := by decide +kernel
theorem d_R_copiedLatelyBy_17 : decode b_R_copiedLatelyBy 17 = .ok (.ireturn, 1) := by decide +kernel
theorem d_R_pagesLeft_0 : decode b_R_pagesLeft 0 = .ok (.iload_n 1, 1) := by decide +kernel
theorem d_R_pagesLeft_1 : decode b_R_pagesLeft 1 = .ok (.invokestatic 33, 3) := by decide +kernel
theorem d_R_pagesLeft_4 : decode b_R_pagesLeft 4 = .ok (.ifCond .eq 19, 3) := by decide +kernel
theorem d_R_pagesLeft_7 : decode b_R_pagesLeft 7 = .ok (.aload_n 0, 1) := by decide +kernel
theorem d_R_pagesLeft_8 : decode b_R_pagesLeft 8 = .ok (.getfield 18, 3) := by decide +kernel
theorem d_R_pagesLeft_11 : decode b_R_pagesLeft 11 = .ok (.iload_n 1, 1) := by decide +kernel
theorem d_R_pagesLeft_12 : decode b_R_pagesLeft 12 = .ok (.iaload, 1) := by decide +kernel
theorem d_R_pagesLeft_13 : decode b_R_pagesLeft 13 = .ok (.aload_n 0, 1) := by decide +kernel
theorem d_R_pagesLeft_14 : decode b_R_pagesLeft 14 = .ok (.iload_n 1, 1) := by decide +kernel
theorem d_R_pagesLeft_15 : decode b_R_pagesLeft 15 = .ok (.iload_n 2, 1) := by decide +kernel
theorem d_R_pagesLeft_16 : decode b_R_pagesLeft 16 = .ok (.invokevirtual 37, 3) := by decide +kernel
theorem d_R_pagesLeft_19 : decode b_R_pagesLeft 19 = .ok (.isub, 1) := by decide +kernel
theorem d_R_pagesLeft_20 : decode b_R_pagesLeft 20 = .ok (.goto 4, 3) := by decide +kernel
theorem d_R_pagesLeft_23 : decode b_R_pagesLeft 23 = .ok (.iconst 0, 1) := by decide +kernel
theorem d_R_pagesLeft_24 : decode b_R_pagesLeft 24 = .ok (.ireturn, 1) := by decide +kernel
theorem d_R_setRight_0 : decode b_R_setRight 0 = .ok (.iload_n 1, 1) := by decide +kernel
theorem d_R_setRight_1 : decode b_R_setRight 1 = .ok (.invokestatic 33, 3) := by decide +kernel
theorem d_R_setRight_4 : decode b_R_setRight 4 = .ok (.ifCond .eq 10, 3) := by decide +kernel
theorem d_R_setRight_7 : decode b_R_setRight 7 = .ok (.aload_n 0, 1) := by decide +kernel
theorem d_R_setRight_8 : decode b_R_setRight 8 = .ok (.getfield 9, 3) := by decide +kernel
theorem d_R_setRight_11 : decode b_R_setRight 11 = .ok (.iload_n 1, 1) := by decide +kernel
theorem d_R_setRight_12 : decode b_R_setRight 12 = .ok (.iload_n 2, 1) := by decide +kernel
theorem d_R_setRight_13 : decode b_R_setRight 13 = .ok (.iastore, 1) := by decide +kernel
theorem d_R_setRight_14 : decode b_R_setRight 14 = .ok (.return_, 1) := by decide +kernel
theorem d_R_setLimits_0 : decode b_R_setLimits 0 = .ok (.iload_n 1, 1) := by decide +kernel
theorem d_R_setLimits_1 : decode b_R_setLimits 1 = .ok (.invokestatic 33, 3) := by decide +kernel
theorem d_R_setLimits_4 : decode b_R_setLimits 4 = .ok (.ifCond .eq 17, 3) := by decide +kernel
theorem d_R_setLimits_7 : decode b_R_setLimits 7 = .ok (.aload_n 0, 1) := by decide +kernel
theorem d_R_setLimits_8 : decode b_R_setLimits 8 = .ok (.getfield 15, 3) := by decide +kernel
theorem d_R_setLimits_11 : decode b_R_setLimits 11 = .ok (.iload_n 1, 1) := by decide +kernel
theorem d_R_setLimits_12 : decode b_R_setLimits 12 = .ok (.iload_n 2, 1) := by decide +kernel
theorem d_R_setLimits_13 : decode b_R_setLimits 13 = .ok (.iastore, 1) := by decide +kernel
theorem d_R_setLimits_14 : decode b_R_setLimits 14 = .ok (.aload_n 0, 1) := by decide +kernel
theorem d_R_setLimits_15 : decode b_R_setLimits 15 = .ok (.getfield 18, 3) := by decide +kernel
theorem d_R_setLimits_18 : decode b_R_setLimits 18 = .ok (.iload_n 1, 1) := by decide +kernel
theorem d_R_setLimits_19 : decode b_R_setLimits 19 = .ok (.iload_n 3, 1) := by decide +kernel
theorem d_R_setLimits_20 : decode b_R_setLimits 20 = .ok (.iastore, 1) := by decide +kernel
theorem d_R_setLimits_21 : decode b_R_setLimits 21 = .ok (.return_, 1) := by decide +kernel
theorem d_R_addCopied_0 : decode b_R_addCopied 0 = .ok (.iload_n 1, 1) := by decide +kernel
theorem d_R_addCopied_1 : decode b_R_addCopied 1 = .ok (.invokestatic 33, 3) := by decide +kernel
theorem d_R_addCopied_4 : decode b_R_addCopied 4 = .ok (.ifCond .eq 24, 3) := by decide +kernel
theorem d_R_addCopied_7 : decode b_R_addCopied 7 = .ok (.aload_n 0, 1) := by decide +kernel
theorem d_R_addCopied_8 : decode b_R_addCopied 8 = .ok (.getfield 24, 3) := by decide +kernel
theorem d_R_addCopied_11 : decode b_R_addCopied 11 = .ok (.iload_n 1, 1) := by decide +kernel
theorem d_R_addCopied_12 : decode b_R_addCopied 12 = .ok (.aload_n 0, 1) := by decide +kernel
theorem d_R_addCopied_13 : decode b_R_addCopied 13 = .ok (.iload_n 1, 1) := by decide +kernel
theorem d_R_addCopied_14 : decode b_R_addCopied 14 = .ok (.iload_n 2, 1) := by decide +kernel
theorem d_R_addCopied_15 : decode b_R_addCopied 15 = .ok (.invokevirtual 37, 3) := by decide +kernel
theorem d_R_addCopied_18 : decode b_R_addCopied 18 = .ok (.iload_n 3, 1) := by decide +kernel
theorem d_R_addCopied_19 : decode b_R_addCopied 19 = .ok (.iadd, 1) := by decide +kernel
theorem d_R_addCopied_20 : decode b_R_addCopied 20 = .ok (.iastore, 1) := by decide +kernel
theorem d_R_addCopied_21 : decode b_R_addCopied 21 = .ok (.aload_n 0, 1) := by decide +kernel
theorem d_R_addCopied_22 : decode b_R_addCopied 22 = .ok (.getfield 21, 3) := by decide +kernel
theorem d_R_addCopied_25 : decode b_R_addCopied 25 = .ok (.iload_n 1, 1) := by decide +kernel
theorem d_R_addCopied_26 : decode b_R_addCopied 26 = .ok (.iload_n 2, 1) := by decide +kernel
theorem d_R_addCopied_27 : decode b_R_addCopied 27 = .ok (.iastore, 1) := by decide +kernel
theorem d_R_addCopied_28 : decode b_R_addCopied 28 = .ok (.return_, 1) := by decide +kernel
theorem d_R_copiedOn_0 : decode b_R_copiedOn 0 = .ok (.iload_n 1, 1) := by decide +kernel
theorem d_R_copiedOn_1 : decode b_R_copiedOn 1 = .ok (.invokestatic 33, 3) := by decide +kernel
theorem d_R_copiedOn_4 : decode b_R_copiedOn 4 = .ok (.ifCond .eq 22, 3) := by decide +kernel
theorem d_R_copiedOn_7 : decode b_R_copiedOn 7 = .ok (.aload_n 0, 1) := by decide +kernel
theorem d_R_copiedOn_8 : decode b_R_copiedOn 8 = .ok (.getfield 21, 3) := by decide +kernel
theorem d_R_copiedOn_11 : decode b_R_copiedOn 11 = .ok (.iload_n 1, 1) := by decide +kernel
theorem d_R_copiedOn_12 : decode b_R_copiedOn 12 = .ok (.iaload, 1) := by decide +kernel
theorem d_R_copiedOn_13 : decode b_R_copiedOn 13 = .ok (.iload_n 2, 1) := by decide +kernel
theorem d_R_copiedOn_14 : decode b_R_copiedOn 14 = .ok (.if_icmp .ne 12, 3) := by decide +kernel
theorem d_R_copiedOn_17 : decode b_R_copiedOn 17 = .ok (.aload_n 0, 1) := by decide +kernel
theorem d_R_copiedOn_18 : decode b_R_copiedOn 18 = .ok (.getfield 24, 3) := by decide +kernel
theorem d_R_copiedOn_21 : decode b_R_copiedOn 21 = .ok (.iload_n 1, 1) := by decide +kernel
theorem d_R_copiedOn_22 : decode b_R_copiedOn 22 = .ok (.iaload, 1) := by decide +kernel
theorem d_R_copiedOn_23 : decode b_R_copiedOn 23 = .ok (.goto 4, 3) := by decide +kernel
theorem d_R_copiedOn_26 : decode b_R_copiedOn 26 = .ok (.iconst 0, 1) := by decide +kernel
theorem d_R_copiedOn_27 : decode b_R_copiedOn 27 = .ok (.ireturn, 1) := by decide +kernel
theorem d_Q_init_0 : decode b_Q_init 0 = .ok (.aload_n 0, 1) := by decide +kernel
theorem d_Q_init_1 : decode b_Q_init 1 = .ok (.invokespecial 3, 3) := by decide +kernel
theorem d_Q_init_4 : decode b_Q_init 4 = .ok (.aload_n 0, 1) := by decide +kernel
theorem d_Q_init_5 : decode b_Q_init 5 = .ok (.sipush 300, 3) := by decide +kernel
theorem d_Q_init_8 : decode b_Q_init 8 = .ok (.newarray .int, 2) := by decide +kernel
theorem d_Q_init_10 : decode b_Q_init 10 = .ok (.putfield 9, 3) := by decide +kernel
theorem d_Q_init_13 : decode b_Q_init 13 = .ok (.aload_n 0, 1) := by decide +kernel
theorem d_Q_init_14 : decode b_Q_init 14 = .ok (.sipush 300, 3) := by decide +kernel
theorem d_Q_init_17 : decode b_Q_init 17 = .ok (.newarray .int, 2) := by decide +kernel
theorem d_Q_init_19 : decode b_Q_init 19 = .ok (.putfield 15, 3) := by decide +kernel
theorem d_Q_init_22 : decode b_Q_init 22 = .ok (.aload_n 0, 1) := by decide +kernel
theorem d_Q_init_23 : decode b_Q_init 23 = .ok (.sipush 300, 3) := by decide +kernel
theorem d_Q_init_26 : decode b_Q_init 26 = .ok (.newarray .int, 2) := by decide +kernel
theorem d_Q_init_28 : decode b_Q_init 28 = .ok (.putfield 18, 3) := by decide +kernel
theorem d_Q_init_31 : decode b_Q_init 31 = .ok (.aload_n 0, 1) := by decide +kernel
theorem d_Q_init_32 : decode b_Q_init 32 = .ok (.sipush 300, 3) := by decide +kernel
theorem d_Q_init_35 : decode b_Q_init 35 = .ok (.newarray .int, 2) := by decide +kernel
theorem d_Q_init_37 : decode b_Q_init 37 = .ok (.putfield 21, 3) := by decide +kernel
theorem d_Q_init_40 : decode b_Q_init 40 = .ok (.aload_n 0, 1) := by decide +kernel
theorem d_Q_init_41 : decode b_Q_init 41 = .ok (.sipush 300, 3) := by decide +kernel
theorem d_Q_init_44 : decode b_Q_init 44 = .ok (.newarray .int, 2) := by decide +kernel
theorem d_Q_init_46 : decode b_Q_init 46 = .ok (.putfield 24, 3) := by decide +kernel
theorem d_Q_init_49 : decode b_Q_init 49 = .ok (.aload_n 0, 1) := by decide +kernel
theorem d_Q_init_50 : decode b_Q_init 50 = .ok (.sipush 300, 3) := by decide +kernel
theorem d_Q_init_53 : decode b_Q_init 53 = .ok (.newarray .int, 2) := by decide +kernel
theorem d_Q_init_55 : decode b_Q_init 55 = .ok (.putfield 27, 3) := by decide +kernel
theorem d_Q_init_58 : decode b_Q_init 58 = .ok (.return_, 1) := by decide +kernel
theorem d_Q_has_0 : decode b_Q_has 0 = .ok (.iload_n 1, 1) := by decide +kernel
theorem d_Q_has_1 : decode b_Q_has 1 = .ok (.iconst 0, 1) := by decide +kernel
theorem d_Q_has_2 : decode b_Q_has 2 = .ok (.aload_n 0, 1) := by decide +kernel
theorem d_Q_has_3 : decode b_Q_has 3 = .ok (.getfield 30, 3) := by decide +kernel
theorem d_Q_has_6 : decode b_Q_has 6 = .ok (.iconst 1, 1) := by decide +kernel
theorem d_Q_has_7 : decode b_Q_has 7 = .ok (.isub, 1) := by decide +kernel
theorem d_Q_has_8 : decode b_Q_has 8 = .ok (.invokestatic 34, 3) := by decide +kernel
theorem d_Q_has_11 : decode b_Q_has 11 = .ok (.ireturn, 1) := by decide +kernel
theorem d_Q_isFull_0 : decode b_Q_isFull 0 = .ok (.aload_n 0, 1) := by decide +kernel
theorem d_Q_isFull_1 : decode b_Q_isFull 1 = .ok (.getfield 30, 3) := by decide +kernel
theorem d_Q_isFull_4 : decode b_Q_isFull 4 = .ok (.sipush 300, 3) := by decide +kernel
theorem d_Q_isFull_7 : decode b_Q_isFull 7 = .ok (.if_icmp .lt 7, 3) := by decide +kernel
theorem d_Q_isFull_10 : decode b_Q_isFull 10 = .ok (.iconst 1, 1) := by decide +kernel
theorem d_Q_isFull_11 : decode b_Q_isFull 11 = .ok (.goto 4, 3) := by decide +kernel
theorem d_Q_isFull_14 : decode b_Q_isFull 14 = .ok (.iconst 0, 1) := by decide +kernel
theorem d_Q_isFull_15 : decode b_Q_isFull 15 = .ok (.ireturn, 1) := by decide +kernel
theorem d_Q_personOf_0 : decode b_Q_personOf 0 = .ok (.aload_n 0, 1) := by decide +kernel
theorem d_Q_personOf_1 : decode b_Q_personOf 1 = .ok (.iload_n 1, 1) := by decide +kernel
theorem d_Q_personOf_2 : decode b_Q_personOf 2 = .ok (.invokevirtual 38, 3) := by decide +kernel
theorem d_Q_personOf_5 : decode b_Q_personOf 5 = .ok (.ifCond .eq 12, 3) := by decide +kernel
theorem d_Q_personOf_8 : decode b_Q_personOf 8 = .ok (.aload_n 0, 1) := by decide +kernel
theorem d_Q_personOf_9 : decode b_Q_personOf 9 = .ok (.getfield 9, 3) := by decide +kernel
theorem d_Q_personOf_12 : decode b_Q_personOf 12 = .ok (.iload_n 1, 1) := by decide +kernel
theorem d_Q_personOf_13 : decode b_Q_personOf 13 = .ok (.iaload, 1) := by decide +kernel
theorem d_Q_personOf_14 : decode b_Q_personOf 14 = .ok (.goto 4, 3) := by decide +kernel
theorem d_Q_personOf_17 : decode b_Q_personOf 17 = .ok (.iconst (-1), 1) := by decide +kernel
theorem d_Q_personOf_18 : decode b_Q_personOf 18 = .ok (.ireturn, 1) := by decide +kernel
theorem d_Q_unitOf_0 : decode b_Q_unitOf 0 = .ok (.aload_n 0, 1) := by decide +kernel
theorem d_Q_unitOf_1 : decode b_Q_unitOf 1 = .ok (.iload_n 1, 1) := by decide +kernel
theorem d_Q_unitOf_2 : decode b_Q_unitOf 2 = .ok (.invokevirtual 38, 3) := by decide +kernel
theorem d_Q_unitOf_5 : decode b_Q_unitOf 5 = .ok (.ifCond .eq 12, 3) := by decide +kernel
theorem d_Q_unitOf_8 : decode b_Q_unitOf 8 = .ok (.aload_n 0, 1) := by decide +kernel
theorem d_Q_unitOf_9 : decode b_Q_unitOf 9 = .ok (.getfield 15, 3) := by decide +kernel
theorem d_Q_unitOf_12 : decode b_Q_unitOf 12 = .ok (.iload_n 1, 1) := by decide +kernel
theorem d_Q_unitOf_13 : decode b_Q_unitOf 13 = .ok (.iaload, 1) := by decide +kernel
theorem d_Q_unitOf_14 : decode b_Q_unitOf 14 = .ok (.goto 4, 3) := by decide +kernel
theorem d_Q_unitOf_17 : decode b_Q_unitOf 17 = .ok (.iconst (-1), 1) := by decide +kernel
theorem d_Q_unitOf_18 : decode b_Q_unitOf 18 = .ok (.ireturn, 1) := by decide +kernel
theorem d_Q_stateOf_0 : decode b_Q_stateOf 0 = .ok (.aload_n 0, 1) := by decide +kernel
theorem d_Q_stateOf_1 : decode b_Q_stateOf 1 = .ok (.iload_n 1, 1) := by decide +kernel
theorem d_Q_stateOf_2 : decode b_Q_stateOf 2 = .ok (.invokevirtual 38, 3) := by decide +kernel
theorem d_Q_stateOf_5 : decode b_Q_stateOf 5 = .ok (.ifCond .eq 12, 3) := by decide +kernel
theorem d_Q_stateOf_8 : decode b_Q_stateOf 8 = .ok (.aload_n 0, 1) := by decide +kernel
theorem d_Q_stateOf_9 : decode b_Q_stateOf 9 = .ok (.getfield 18, 3) := by decide +kernel
theorem d_Q_stateOf_12 : decode b_Q_stateOf 12 = .ok (.iload_n 1, 1) := by decide +kernel
theorem d_Q_stateOf_13 : decode b_Q_stateOf 13 = .ok (.iaload, 1) := by decide +kernel
theorem d_Q_stateOf_14 : decode b_Q_stateOf 14 = .ok (.goto 4, 3) := by decide +kernel
theorem d_Q_stateOf_17 : decode b_Q_stateOf 17 = .ok (.iconst (-1), 1) := by decide +kernel
theorem d_Q_stateOf_18 : decode b_Q_stateOf 18 = .ok (.ireturn, 1) := by decide +kernel
theorem d_Q_askedAt_0 : decode b_Q_askedAt 0 = .ok (.aload_n 0, 1) := by decide +kernel
theorem d_Q_askedAt_1 : decode b_Q_askedAt 1 = .ok (.iload_n 1, 1) := by decide +kernel
theorem d_Q_askedAt_2 : decode b_Q_askedAt 2 = .ok (.invokevirtual 38, 3) := by decide +kernel
theorem d_Q_askedAt_5 : decode b_Q_askedAt 5 = .ok (.ifCond .eq 12, 3) := by decide +kernel
theorem d_Q_askedAt_8 : decode b_Q_askedAt 8 = .ok (.aload_n 0, 1) := by decide +kernel
theorem d_Q_askedAt_9 : decode b_Q_askedAt 9 = .ok (.getfield 21, 3) := by decide +kernel
theorem d_Q_askedAt_12 : decode b_Q_askedAt 12 = .ok (.iload_n 1, 1) := by decide +kernel
theorem d_Q_askedAt_13 : decode b_Q_askedAt 13 = .ok (.iaload, 1) := by decide +kernel
theorem d_Q_askedAt_14 : decode b_Q_askedAt 14 = .ok (.goto 4, 3) := by decide +kernel
theorem d_Q_askedAt_17 : decode b_Q_askedAt 17 = .ok (.iconst (-1), 1) := by decide +kernel
theorem d_Q_askedAt_18 : decode b_Q_askedAt 18 = .ok (.ireturn, 1) := by decide +kernel
theorem d_Q_handedOutAt_0 : decode b_Q_handedOutAt 0 = .ok (.aload_n 0, 1) := by decide +kernel
theorem d_Q_handedOutAt_1 : decode b_Q_handedOutAt 1 = .ok (.iload_n 1, 1) := by decide +kernel
theorem d_Q_handedOutAt_2 : decode b_Q_handedOutAt 2 = .ok (.invokevirtual 38, 3) := by decide +kernel
theorem d_Q_handedOutAt_5 : decode b_Q_handedOutAt 5 = .ok (.ifCond .eq 12, 3) := by decide +kernel
theorem d_Q_handedOutAt_8 : decode b_Q_handedOutAt 8 = .ok (.aload_n 0, 1) := by decide +kernel
theorem d_Q_handedOutAt_9 : decode b_Q_handedOutAt 9 = .ok (.getfield 24, 3) := by decide +kernel
theorem d_Q_handedOutAt_12 : decode b_Q_handedOutAt 12 = .ok (.iload_n 1, 1) := by decide +kernel
theorem d_Q_handedOutAt_13 : decode b_Q_handedOutAt 13 = .ok (.iaload, 1) := by decide +kernel
theorem d_Q_handedOutAt_14 : decode b_Q_handedOutAt 14 = .ok (.goto 4, 3) := by decide +kernel
theorem d_Q_handedOutAt_17 : decode b_Q_handedOutAt 17 = .ok (.iconst (-1), 1) := by decide +kernel
theorem d_Q_handedOutAt_18 : decode b_Q_handedOutAt 18 = .ok (.ireturn, 1) := by decide +kernel
theorem d_Q_backAt_0 : decode b_Q_backAt 0 = .ok (.aload_n 0, 1) := by decide +kernel
theorem d_Q_backAt_1 : decode b_Q_backAt 1 = .ok (.iload_n 1, 1) := by decide +kernel
theorem d_Q_backAt_2 : decode b_Q_backAt 2 = .ok (.invokevirtual 38, 3) := by decide +kernel
theorem d_Q_backAt_5 : decode b_Q_backAt 5 = .ok (.ifCond .eq 12, 3) := by decide +kernel
theorem d_Q_backAt_8 : decode b_Q_backAt 8 = .ok (.aload_n 0, 1) := by decide +kernel
theorem d_Q_backAt_9 : decode b_Q_backAt 9 = .ok (.getfield 27, 3) := by decide +kernel
theorem d_Q_backAt_12 : decode b_Q_backAt 12 = .ok (.iload_n 1, 1) := by decide +kernel
theorem d_Q_backAt_13 : decode b_Q_backAt 13 = .ok (.iaload, 1) := by decide +kernel
theorem d_Q_backAt_14 : decode b_Q_backAt 14 = .ok (.goto 4, 3) := by decide +kernel
theorem d_Q_backAt_17 : decode b_Q_backAt 17 = .ok (.iconst (-1), 1) := by decide +kernel
theorem d_Q_backAt_18 : decode b_Q_backAt 18 = .ok (.ireturn, 1) := by decide +kernel
theorem d_Q_isOpenFor_0 : decode b_Q_isOpenFor 0 = .ok (.aload_n 0, 1) := by decide +kernel
theorem d_Q_isOpenFor_1 : decode b_Q_isOpenFor 1 = .ok (.iload_n 1, 1) := by decide +kernel
theorem d_Q_isOpenFor_2 : decode b_Q_isOpenFor 2 = .ok (.invokevirtual 38, 3) := by decide +kernel
theorem d_Q_isOpenFor_5 : decode b_Q_isOpenFor 5 = .ok (.ifCond .eq 26, 3) := by decide +kernel
theorem d_Q_isOpenFor_8 : decode b_Q_isOpenFor 8 = .ok (.aload_n 0, 1) := by decide +kernel
theorem d_Q_isOpenFor_9 : decode b_Q_isOpenFor 9 = .ok (.getfield 15, 3) := by decide +kernel
theorem d_Q_isOpenFor_12 : decode b_Q_isOpenFor 12 = .ok (.iload_n 1, 1) := by decide +kernel
theorem d_Q_isOpenFor_13 : decode b_Q_isOpenFor 13 = .ok (.iaload, 1) := by decide +kernel
theorem d_Q_isOpenFor_14 : decode b_Q_isOpenFor 14 = .ok (.iload_n 2, 1) := by decide +kernel
theorem d_Q_isOpenFor_15 : decode b_Q_isOpenFor 15 = .ok (.if_icmp .ne 16, 3) := by decide +kernel
theorem d_Q_isOpenFor_18 : decode b_Q_isOpenFor 18 = .ok (.aload_n 0, 1) := by decide +kernel
theorem d_Q_isOpenFor_19 : decode b_Q_isOpenFor 19 = .ok (.getfield 18, 3) := by decide +kernel
theorem d_Q_isOpenFor_22 : decode b_Q_isOpenFor 22 = .ok (.iload_n 1, 1) := by decide +kernel
theorem d_Q_isOpenFor_23 : decode b_Q_isOpenFor 23 = .ok (.iaload, 1) := by decide +kernel
theorem d_Q_isOpenFor_24 : decode b_Q_isOpenFor 24 = .ok (.ifCond .ne 7, 3) := by decide +kernel
theorem d_Q_isOpenFor_27 : decode b_Q_isOpenFor 27 = .ok (.iconst 1, 1) := by decide +kernel
theorem d_Q_isOpenFor_28 : decode b_Q_isOpenFor 28 = .ok (.goto 4, 3) := by decide +kernel
theorem d_Q_isOpenFor_31 : decode b_Q_isOpenFor 31 = .ok (.iconst 0, 1) := by decide +kernel
theorem d_Q_isOpenFor_32 : decode b_Q_isOpenFor 32 = .ok (.ireturn, 1) := by decide +kernel
theorem d_Q_isRunning_0 : decode b_Q_isRunning 0 = .ok (.iconst 0, 1) := by decide +kernel
theorem d_Q_isRunning_1 : decode b_Q_isRunning 1 = .ok (.istore_n 3, 1) := by decide +kernel
theorem d_Q_isRunning_2 : decode b_Q_isRunning 2 = .ok (.iload_n 3, 1) := by decide +kernel
theorem d_Q_isRunning_3 : decode b_Q_isRunning 3 = .ok (.aload_n 0, 1) := by decide +kernel
theorem d_Q_isRunning_4 : decode b_Q_isRunning 4 = .ok (.getfield 30, 3) := by decide +kernel
theorem d_Q_isRunning_7 : decode b_Q_isRunning 7 = .ok (.if_icmp .ge 30, 3) := by decide +kernel
theorem d_Q_isRunning_10 : decode b_Q_isRunning 10 = .ok (.aload_n 0, 1) := by decide +kernel
theorem d_Q_isRunning_11 : decode b_Q_isRunning 11 = .ok (.iload_n 3, 1) := by decide +kernel
theorem d_Q_isRunning_12 : decode b_Q_isRunning 12 = .ok (.iload_n 1, 1) := by decide +kernel
theorem d_Q_isRunning_13 : decode b_Q_isRunning 13 = .ok (.invokevirtual 42, 3) := by decide +kernel
theorem d_Q_isRunning_16 : decode b_Q_isRunning 16 = .ok (.ifCond .eq 15, 3) := by decide +kernel
theorem d_Q_isRunning_19 : decode b_Q_isRunning 19 = .ok (.aload_n 0, 1) := by decide +kernel
theorem d_Q_isRunning_20 : decode b_Q_isRunning 20 = .ok (.getfield 15, 3) := by decide +kernel
theorem d_Q_isRunning_23 : decode b_Q_isRunning 23 = .ok (.iload_n 3, 1) := by decide +kernel
theorem d_Q_isRunning_24 : decode b_Q_isRunning 24 = .ok (.iaload, 1) := by decide +kernel
theorem d_Q_isRunning_25 : decode b_Q_isRunning 25 = .ok (.iload_n 2, 1) := by decide +kernel
theorem d_Q_isRunning_26 : decode b_Q_isRunning 26 = .ok (.if_icmp .ne 5, 3) := by decide +kernel
theorem d_Q_isRunning_29 : decode b_Q_isRunning 29 = .ok (.iconst 1, 1) := by decide +kernel
theorem d_Q_isRunning_30 : decode b_Q_isRunning 30 = .ok (.ireturn, 1) := by decide +kernel
theorem d_Q_isRunning_31 : decode b_Q_isRunning 31 = .ok (.iinc 3 1, 3) := by decide +kernel
theorem d_Q_isRunning_34 : decode b_Q_isRunning 34 = .ok (.goto (-32), 3) := by decide +kernel
theorem d_Q_isRunning_37 : decode b_Q_isRunning 37 = .ok (.iconst 0, 1) := by decide +kernel
theorem d_Q_isRunning_38 : decode b_Q_isRunning 38 = .ok (.ireturn, 1) := by decide +kernel
theorem d_Q_countRunning_0 : decode b_Q_countRunning 0 = .ok (.iconst 0, 1) := by decide +kernel
theorem d_Q_countRunning_1 : decode b_Q_countRunning 1 = .ok (.istore_n 2, 1) := by decide +kernel
theorem d_Q_countRunning_2 : decode b_Q_countRunning 2 = .ok (.iconst 0, 1) := by decide +kernel
theorem d_Q_countRunning_3 : decode b_Q_countRunning 3 = .ok (.istore_n 3, 1) := by decide +kernel
theorem d_Q_countRunning_4 : decode b_Q_countRunning 4 = .ok (.iload_n 3, 1) := by decide +kernel
theorem d_Q_countRunning_5 : decode b_Q_countRunning 5 = .ok (.aload_n 0, 1) := by decide +kernel
theorem d_Q_countRunning_6 : decode b_Q_countRunning 6 = .ok (.getfield 30, 3) := by decide +kernel
theorem d_Q_countRunning_9 : decode b_Q_countRunning 9 = .ok (.if_icmp .ge 21, 3) := by decide +kernel
theorem d_Q_countRunning_12 : decode b_Q_countRunning 12 = .ok (.aload_n 0, 1) := by decide +kernel
theorem d_Q_countRunning_13 : decode b_Q_countRunning 13 = .ok (.iload_n 3, 1) := by decide +kernel
theorem d_Q_countRunning_14 : decode b_Q_countRunning 14 = .ok (.iload_n 1, 1) := by decide +kernel
theorem d_Q_countRunning_15 : decode b_Q_countRunning 15 = .ok (.invokevirtual 42, 3) := by decide +kernel
theorem d_Q_countRunning_18 : decode b_Q_countRunning 18 = .ok (.ifCond .eq 6, 3) := by decide +kernel
theorem d_Q_countRunning_21 : decode b_Q_countRunning 21 = .ok (.iinc 2 1, 3) := by decide +kernel
theorem d_Q_countRunning_24 : decode b_Q_countRunning 24 = .ok (.iinc 3 1, 3) := by decide +kernel
theorem d_Q_countRunning_27 : decode b_Q_countRunning 27 = .ok (.goto (-23), 3) := by decide +kernel
theorem d_Q_countRunning_30 : decode b_Q_countRunning 30 = .ok (.iload_n 2, 1) := by decide +kernel
theorem d_Q_countRunning_31 : decode b_Q_countRunning 31 = .ok (.ireturn, 1) := by decide +kernel
theorem d_Q_countHandedOut_0 : decode b_Q_countHandedOut 0 = .ok (.iconst 0, 1) := by decide +kernel
theorem d_Q_countHandedOut_1 : decode b_Q_countHandedOut 1 = .ok (.istore_n 2, 1) := by decide +kernel
theorem d_Q_countHandedOut_2 : decode b_Q_countHandedOut 2 = .ok (.iconst 0, 1) := by decide +kernel
theorem d_Q_countHandedOut_3 : decode b_Q_countHandedOut 3 = .ok (.istore_n 3, 1) := by decide +kernel
theorem d_Q_countHandedOut_4 : decode b_Q_countHandedOut 4 = .ok (.iload_n 3, 1) := by decide +kernel
theorem d_Q_countHandedOut_5 : decode b_Q_countHandedOut 5 = .ok (.aload_n 0, 1) := by decide +kernel
theorem d_Q_countHandedOut_6 : decode b_Q_countHandedOut 6 = .ok (.getfield 30, 3) := by decide +kernel
theorem d_Q_countHandedOut_9 : decode b_Q_countHandedOut 9 = .ok (.if_icmp .ge 32, 3) := by decide +kernel
theorem d_Q_countHandedOut_12 : decode b_Q_countHandedOut 12 = .ok (.aload_n 0, 1) := by decide +kernel
theorem d_Q_countHandedOut_13 : decode b_Q_countHandedOut 13 = .ok (.getfield 9, 3) := by decide +kernel
theorem d_Q_countHandedOut_16 : decode b_Q_countHandedOut 16 = .ok (.iload_n 3, 1) := by decide +kernel
theorem d_Q_countHandedOut_17 : decode b_Q_countHandedOut 17 = .ok (.iaload, 1) := by decide +kernel
theorem d_Q_countHandedOut_18 : decode b_Q_countHandedOut 18 = .ok (.iload_n 1, 1) := by decide +kernel
theorem d_Q_countHandedOut_19 : decode b_Q_countHandedOut 19 = .ok (.if_icmp .ne 16, 3) := by decide +kernel
theorem d_Q_countHandedOut_22 : decode b_Q_countHandedOut 22 = .ok (.aload_n 0, 1) := by decide +kernel
theorem d_Q_countHandedOut_23 : decode b_Q_countHandedOut 23 = .ok (.getfield 18, 3) := by decide +kernel
theorem d_Q_countHandedOut_26 : decode b_Q_countHandedOut 26 = .ok (.iload_n 3, 1) := by decide +kernel
theorem d_Q_countHandedOut_27 : decode b_Q_countHandedOut 27 = .ok (.iaload, 1) := by decide +kernel
theorem d_Q_countHandedOut_28 : decode b_Q_countHandedOut 28 = .ok (.iconst 2, 1) := by decide +kernel
theorem d_Q_countHandedOut_29 : decode b_Q_countHandedOut 29 = .ok (.if_icmp .ne 6, 3) := by decide +kernel
theorem d_Q_countHandedOut_32 : decode b_Q_countHandedOut 32 = .ok (.iinc 2 1, 3) := by decide +kernel
theorem d_Q_countHandedOut_35 : decode b_Q_countHandedOut 35 = .ok (.iinc 3 1, 3) := by decide +kernel
theorem d_Q_countHandedOut_38 : decode b_Q_countHandedOut 38 = .ok (.goto (-34), 3) := by decide +kernel
theorem d_Q_countHandedOut_41 : decode b_Q_countHandedOut 41 = .ok (.iload_n 2, 1) := by decide +kernel
theorem d_Q_countHandedOut_42 : decode b_Q_countHandedOut 42 = .ok (.ireturn, 1) := by decide +kernel
theorem d_Q_countOpen_0 : decode b_Q_countOpen 0 = .ok (.iconst 0, 1) := by decide +kernel
theorem d_Q_countOpen_1 : decode b_Q_countOpen 1 = .ok (.istore_n 2, 1) := by decide +kernel
theorem d_Q_countOpen_2 : decode b_Q_countOpen 2 = .ok (.iconst 0, 1) := by decide +kernel
theorem d_Q_countOpen_3 : decode b_Q_countOpen 3 = .ok (.istore_n 3, 1) := by decide +kernel
theorem d_Q_countOpen_4 : decode b_Q_countOpen 4 = .ok (.iload_n 3, 1) := by decide +kernel
theorem d_Q_countOpen_5 : decode b_Q_countOpen 5 = .ok (.aload_n 0, 1) := by decide +kernel
theorem d_Q_countOpen_6 : decode b_Q_countOpen 6 = .ok (.getfield 30, 3) := by decide +kernel
theorem d_Q_countOpen_9 : decode b_Q_countOpen 9 = .ok (.if_icmp .ge 21, 3) := by decide +kernel
theorem d_Q_countOpen_12 : decode b_Q_countOpen 12 = .ok (.aload_n 0, 1) := by decide +kernel
theorem d_Q_countOpen_13 : decode b_Q_countOpen 13 = .ok (.iload_n 3, 1) := by decide +kernel
theorem d_Q_countOpen_14 : decode b_Q_countOpen 14 = .ok (.iload_n 1, 1) := by decide +kernel
theorem d_Q_countOpen_15 : decode b_Q_countOpen 15 = .ok (.invokevirtual 46, 3) := by decide +kernel
theorem d_Q_countOpen_18 : decode b_Q_countOpen 18 = .ok (.ifCond .eq 6, 3) := by decide +kernel
theorem d_Q_countOpen_21 : decode b_Q_countOpen 21 = .ok (.iinc 2 1, 3) := by decide +kernel
theorem d_Q_countOpen_24 : decode b_Q_countOpen 24 = .ok (.iinc 3 1, 3) := by decide +kernel
theorem d_Q_countOpen_27 : decode b_Q_countOpen 27 = .ok (.goto (-23), 3) := by decide +kernel
theorem d_Q_countOpen_30 : decode b_Q_countOpen 30 = .ok (.iload_n 2, 1) := by decide +kernel
theorem d_Q_countOpen_31 : decode b_Q_countOpen 31 = .ok (.ireturn, 1) := by decide +kernel
theorem d_Q_openOf_0 : decode b_Q_openOf 0 = .ok (.iconst 0, 1) := by decide +kernel
theorem d_Q_openOf_1 : decode b_Q_openOf 1 = .ok (.istore_n 3, 1) := by decide +kernel
theorem d_Q_openOf_2 : decode b_Q_openOf 2 = .ok (.iconst 0, 1) := by decide +kernel
theorem d_Q_openOf_3 : decode b_Q_openOf 3 = .ok (.istore 4, 2) := by decide +kernel
theorem d_Q_openOf_5 : decode b_Q_openOf 5 = .ok (.iload 4, 2) := by decide +kernel
theorem d_Q_openOf_7 : decode b_Q_openOf 7 = .ok (.aload_n 0, 1) := by decide +kernel
theorem d_Q_openOf_8 : decode b_Q_openOf 8 = .ok (.getfield 30, 3) := by decide +kernel
theorem d_Q_openOf_11 : decode b_Q_openOf 11 = .ok (.if_icmp .ge 30, 3) := by decide +kernel
theorem d_Q_openOf_14 : decode b_Q_openOf 14 = .ok (.aload_n 0, 1) := by decide +kernel
theorem d_Q_openOf_15 : decode b_Q_openOf 15 = .ok (.iload 4, 2) := by decide +kernel
theorem d_Q_openOf_17 : decode b_Q_openOf 17 = .ok (.iload_n 1, 1) := by decide +kernel
theorem d_Q_openOf_18 : decode b_Q_openOf 18 = .ok (.invokevirtual 46, 3) := by decide +kernel
theorem d_Q_openOf_21 : decode b_Q_openOf 21 = .ok (.ifCond .eq 14, 3) := by decide +kernel
theorem d_Q_openOf_24 : decode b_Q_openOf 24 = .ok (.iload_n 3, 1) := by decide +kernel
theorem d_Q_openOf_25 : decode b_Q_openOf 25 = .ok (.iload_n 2, 1) := by decide +kernel
theorem d_Q_openOf_26 : decode b_Q_openOf 26 = .ok (.if_icmp .ne 6, 3) := by decide +kernel
theorem d_Q_openOf_29 : decode b_Q_openOf 29 = .ok (.iload 4, 2) := by decide +kernel
theorem d_Q_openOf_31 : decode b_Q_openOf 31 = .ok (.ireturn, 1) := by decide +kernel
theorem d_Q_openOf_32 : decode b_Q_openOf 32 = .ok (.iinc 3 1, 3) := by decide +kernel
theorem d_Q_openOf_35 : decode b_Q_openOf 35 = .ok (.iinc 4 1, 3) := by decide +kernel
theorem d_Q_openOf_38 : decode b_Q_openOf 38 = .ok (.goto (-33), 3) := by decide +kernel
theorem d_Q_openOf_41 : decode b_Q_openOf 41 = .ok (.iconst (-1), 1) := by decide +kernel
theorem d_Q_openOf_42 : decode b_Q_openOf 42 = .ok (.ireturn, 1) := by decide +kernel
theorem d_Q_add_0 : decode b_Q_add 0 = .ok (.aload_n 0, 1) := by decide +kernel
theorem d_Q_add_1 : decode b_Q_add 1 = .ok (.invokevirtual 49, 3) := by decide +kernel
theorem d_Q_add_4 : decode b_Q_add 4 = .ok (.ifCond .eq 6, 3) := by decide +kernel
theorem d_Q_add_7 : decode b_Q_add 7 = .ok (.bipush (-4), 2) := by decide +kernel
theorem d_Q_add_9 : decode b_Q_add 9 = .ok (.ireturn, 1) := by decide +kernel
theorem d_Q_add_10 : decode b_Q_add 10 = .ok (.aload_n 0, 1) := by decide +kernel
theorem d_Q_add_11 : decode b_Q_add 11 = .ok (.getfield 30, 3) := by decide +kernel
theorem d_Q_add_14 : decode b_Q_add 14 = .ok (.istore 4, 2) := by decide +kernel
theorem d_Q_add_16 : decode b_Q_add 16 = .ok (.aload_n 0, 1) := by decide +kernel
theorem d_Q_add_17 : decode b_Q_add 17 = .ok (.getfield 9, 3) := by decide +kernel
theorem d_Q_add_20 : decode b_Q_add 20 = .ok (.iload 4, 2) := by decide +kernel
theorem d_Q_add_22 : decode b_Q_add 22 = .ok (.iload_n 1, 1) := by decide +kernel
theorem d_Q_add_23 : decode b_Q_add 23 = .ok (.iastore, 1) := by decide +kernel
theorem d_Q_add_24 : decode b_Q_add 24 = .ok (.aload_n 0, 1) := by decide +kernel
theorem d_Q_add_25 : decode b_Q_add 25 = .ok (.getfield 15, 3) := by decide +kernel
theorem d_Q_add_28 : decode b_Q_add 28 = .ok (.iload 4, 2) := by decide +kernel
theorem d_Q_add_30 : decode b_Q_add 30 = .ok (.iload_n 2, 1) := by decide +kernel
theorem d_Q_add_31 : decode b_Q_add 31 = .ok (.iastore, 1) := by decide +kernel
theorem d_Q_add_32 : decode b_Q_add 32 = .ok (.aload_n 0, 1) := by decide +kernel
theorem d_Q_add_33 : decode b_Q_add 33 = .ok (.getfield 18, 3) := by decide +kernel
theorem d_Q_add_36 : decode b_Q_add 36 = .ok (.iload 4, 2) := by decide +kernel
theorem d_Q_add_38 : decode b_Q_add 38 = .ok (.iconst 0, 1) := by decide +kernel
theorem d_Q_add_39 : decode b_Q_add 39 = .ok (.iastore, 1) := by decide +kernel
theorem d_Q_add_40 : decode b_Q_add 40 = .ok (.aload_n 0, 1) := by decide +kernel
theorem d_Q_add_41 : decode b_Q_add 41 = .ok (.getfield 21, 3) := by decide +kernel
theorem d_Q_add_44 : decode b_Q_add 44 = .ok (.iload 4, 2) := by decide +kernel
theorem d_Q_add_46 : decode b_Q_add 46 = .ok (.iload_n 3, 1) := by decide +kernel
theorem d_Q_add_47 : decode b_Q_add 47 = .ok (.iastore, 1) := by decide +kernel
theorem d_Q_add_48 : decode b_Q_add 48 = .ok (.aload_n 0, 1) := by decide +kernel
theorem d_Q_add_49 : decode b_Q_add 49 = .ok (.getfield 24, 3) := by decide +kernel
theorem d_Q_add_52 : decode b_Q_add 52 = .ok (.iload 4, 2) := by decide +kernel
theorem d_Q_add_54 : decode b_Q_add 54 = .ok (.iconst (-1), 1) := by decide +kernel
theorem d_Q_add_55 : decode b_Q_add 55 = .ok (.iastore, 1) := by decide +kernel
theorem d_Q_add_56 : decode b_Q_add 56 = .ok (.aload_n 0, 1) := by decide +kernel
theorem d_Q_add_57 : decode b_Q_add 57 = .ok (.getfield 27, 3) := by decide +kernel
theorem d_Q_add_60 : decode b_Q_add 60 = .ok (.iload 4, 2) := by decide +kernel
theorem d_Q_add_62 : decode b_Q_add 62 = .ok (.iconst (-1), 1) := by decide +kernel
theorem d_Q_add_63 : decode b_Q_add 63 = .ok (.iastore, 1) := by decide +kernel
theorem d_Q_add_64 : decode b_Q_add 64 = .ok (.aload_n 0, 1) := by decide +kernel
theorem d_Q_add_65 : decode b_Q_add 65 = .ok (.dup, 1) := by decide +kernel
theorem d_Q_add_66 : decode b_Q_add 66 = .ok (.getfield 30, 3) := by decide +kernel
theorem d_Q_add_69 : decode b_Q_add 69 = .ok (.iconst 1, 1) := by decide +kernel
theorem d_Q_add_70 : decode b_Q_add 70 = .ok (.iadd, 1) := by decide +kernel
theorem d_Q_add_71 : decode b_Q_add 71 = .ok (.putfield 30, 3) := by decide +kernel
theorem d_Q_add_74 : decode b_Q_add 74 = .ok (.iload 4, 2) := by decide +kernel
theorem d_Q_add_76 : decode b_Q_add 76 = .ok (.ireturn, 1) := by decide +kernel
theorem d_Q_setState_0 : decode b_Q_setState 0 = .ok (.aload_n 0, 1) := by decide +kernel
theorem d_Q_setState_1 : decode b_Q_setState 1 = .ok (.iload_n 1, 1) := by decide +kernel
theorem d_Q_setState_2 : decode b_Q_setState 2 = .ok (.invokevirtual 38, 3) := by decide +kernel
theorem d_Q_setState_5 : decode b_Q_setState 5 = .ok (.ifCond .eq 10, 3) := by decide +kernel
theorem d_Q_setState_8 : decode b_Q_setState 8 = .ok (.aload_n 0, 1) := by decide +kernel
theorem d_Q_setState_9 : decode b_Q_setState 9 = .ok (.getfield 18, 3) := by decide +kernel
theorem d_Q_setState_12 : decode b_Q_setState 12 = .ok (.iload_n 1, 1) := by decide +kernel
theorem d_Q_setState_13 : decode b_Q_setState 13 = .ok (.iload_n 2, 1) := by decide +kernel
theorem d_Q_setState_14 : decode b_Q_setState 14 = .ok (.iastore, 1) := by decide +kernel
theorem d_Q_setState_15 : decode b_Q_setState 15 = .ok (.return_, 1) := by decide +kernel
theorem d_Q_markHandedOut_0 : decode b_Q_markHandedOut 0 = .ok (.aload_n 0, 1) := by decide +kernel
theorem d_Q_markHandedOut_1 : decode b_Q_markHandedOut 1 = .ok (.iload_n 1, 1) := by decide +kernel
theorem d_Q_markHandedOut_2 : decode b_Q_markHandedOut 2 = .ok (.invokevirtual 38, 3) := by decide +kernel
theorem d_Q_markHandedOut_5 : decode b_Q_markHandedOut 5 = .ok (.ifCond .eq 17, 3) := by decide +kernel
theorem d_Q_markHandedOut_8 : decode b_Q_markHandedOut 8 = .ok (.aload_n 0, 1) := by decide +kernel
theorem d_Q_markHandedOut_9 : decode b_Q_markHandedOut 9 = .ok (.getfield 18, 3) := by decide +kernel
theorem d_Q_markHandedOut_12 : decode b_Q_markHandedOut 12 = .ok (.iload_n 1, 1) := by decide +kernel
theorem d_Q_markHandedOut_13 : decode b_Q_markHandedOut 13 = .ok (.iconst 2, 1) := by decide +kernel
theorem d_Q_markHandedOut_14 : decode b_Q_markHandedOut 14 = .ok (.iastore, 1) := by decide +kernel
theorem d_Q_markHandedOut_15 : decode b_Q_markHandedOut 15 = .ok (.aload_n 0, 1) := by decide +kernel
theorem d_Q_markHandedOut_16 : decode b_Q_markHandedOut 16 = .ok (.getfield 24, 3) := by decide +kernel
theorem d_Q_markHandedOut_19 : decode b_Q_markHandedOut 19 = .ok (.iload_n 1, 1) := by decide +kernel
theorem d_Q_markHandedOut_20 : decode b_Q_markHandedOut 20 = .ok (.iload_n 2, 1) := by decide +kernel
theorem d_Q_markHandedOut_21 : decode b_Q_markHandedOut 21 = .ok (.iastore, 1) := by decide +kernel
theorem d_Q_markHandedOut_22 : decode b_Q_markHandedOut 22 = .ok (.return_, 1) := by decide +kernel
theorem d_Q_markBack_0 : decode b_Q_markBack 0 = .ok (.aload_n 0, 1) := by decide +kernel
theorem d_Q_markBack_1 : decode b_Q_markBack 1 = .ok (.iload_n 1, 1) := by decide +kernel
theorem d_Q_markBack_2 : decode b_Q_markBack 2 = .ok (.invokevirtual 38, 3) := by decide +kernel
theorem d_Q_markBack_5 : decode b_Q_markBack 5 = .ok (.ifCond .eq 17, 3) := by decide +kernel
theorem d_Q_markBack_8 : decode b_Q_markBack 8 = .ok (.aload_n 0, 1) := by decide +kernel
theorem d_Q_markBack_9 : decode b_Q_markBack 9 = .ok (.getfield 18, 3) := by decide +kernel
theorem d_Q_markBack_12 : decode b_Q_markBack 12 = .ok (.iload_n 1, 1) := by decide +kernel
theorem d_Q_markBack_13 : decode b_Q_markBack 13 = .ok (.iconst 3, 1) := by decide +kernel
theorem d_Q_markBack_14 : decode b_Q_markBack 14 = .ok (.iastore, 1) := by decide +kernel
theorem d_Q_markBack_15 : decode b_Q_markBack 15 = .ok (.aload_n 0, 1) := by decide +kernel
theorem d_Q_markBack_16 : decode b_Q_markBack 16 = .ok (.getfield 27, 3) := by decide +kernel
theorem d_Q_markBack_19 : decode b_Q_markBack 19 = .ok (.iload_n 1, 1) := by decide +kernel
theorem d_Q_markBack_20 : decode b_Q_markBack 20 = .ok (.iload_n 2, 1) := by decide +kernel
theorem d_Q_markBack_21 : decode b_Q_markBack 21 = .ok (.iastore, 1) := by decide +kernel
theorem d_Q_markBack_22 : decode b_Q_markBack 22 = .ok (.return_, 1) := by decide +kernel
theorem d_Q_endAll_0 : decode b_Q_endAll 0 = .ok (.iconst 0, 1) := by decide +kernel
theorem d_Q_endAll_1 : decode b_Q_endAll 1 = .ok (.istore_n 2, 1) := by decide +kernel
theorem d_Q_endAll_2 : decode b_Q_endAll 2 = .ok (.iload_n 2, 1) := by decide +kernel
theorem d_Q_endAll_3 : decode b_Q_endAll 3 = .ok (.aload_n 0, 1) := by decide +kernel
theorem d_Q_endAll_4 : decode b_Q_endAll 4 = .ok (.getfield 30, 3) := by decide +kernel
theorem d_Q_endAll_7 : decode b_Q_endAll 7 = .ok (.if_icmp .ge 15, 3) := by decide +kernel
theorem d_Q_endAll_10 : decode b_Q_endAll 10 = .ok (.aload_n 0, 1) := by decide +kernel
theorem d_Q_endAll_11 : decode b_Q_endAll 11 = .ok (.iload_n 2, 1) := by decide +kernel
theorem d_Q_endAll_12 : decode b_Q_endAll 12 = .ok (.iload_n 1, 1) := by decide +kernel
theorem d_Q_endAll_13 : decode b_Q_endAll 13 = .ok (.invokevirtual 53, 3) := by decide +kernel
theorem d_Q_endAll_16 : decode b_Q_endAll 16 = .ok (.iinc 2 1, 3) := by decide +kernel
theorem d_Q_endAll_19 : decode b_Q_endAll 19 = .ok (.goto (-17), 3) := by decide +kernel
theorem d_Q_endAll_22 : decode b_Q_endAll 22 = .ok (.return_, 1) := by decide +kernel
theorem d_Q_endAtClosing_0 : decode b_Q_endAtClosing 0 = .ok (.aload_n 0, 1) := by decide +kernel
theorem d_Q_endAtClosing_1 : decode b_Q_endAtClosing 1 = .ok (.iload_n 1, 1) := by decide +kernel
theorem d_Q_endAtClosing_2 : decode b_Q_endAtClosing 2 = .ok (.invokevirtual 57, 3) := by decide +kernel
theorem d_Q_endAtClosing_5 : decode b_Q_endAtClosing 5 = .ok (.tableswitch 54 0 2 #[27, 36, 45], 27) := by decide +kernel
theorem d_Q_endAtClosing_32 : decode b_Q_endAtClosing 32 = .ok (.aload_n 0, 1) := by decide +kernel
theorem d_Q_endAtClosing_33 : decode b_Q_endAtClosing 33 = .ok (.iload_n 1, 1) := by decide +kernel
theorem d_Q_endAtClosing_34 : decode b_Q_endAtClosing 34 = .ok (.iconst 4, 1) := by decide +kernel
theorem d_Q_endAtClosing_35 : decode b_Q_endAtClosing 35 = .ok (.invokevirtual 61, 3) := by decide +kernel
theorem d_Q_endAtClosing_38 : decode b_Q_endAtClosing 38 = .ok (.goto 21, 3) := by decide +kernel
theorem d_Q_endAtClosing_41 : decode b_Q_endAtClosing 41 = .ok (.aload_n 0, 1) := by decide +kernel
theorem d_Q_endAtClosing_42 : decode b_Q_endAtClosing 42 = .ok (.iload_n 1, 1) := by decide +kernel
theorem d_Q_endAtClosing_43 : decode b_Q_endAtClosing 43 = .ok (.iconst 3, 1) := by decide +kernel
theorem d_Q_endAtClosing_44 : decode b_Q_endAtClosing 44 = .ok (.invokevirtual 61, 3) := by decide +kernel
theorem d_Q_endAtClosing_47 : decode b_Q_endAtClosing 47 = .ok (.goto 12, 3) := by decide +kernel
theorem d_Q_endAtClosing_50 : decode b_Q_endAtClosing 50 = .ok (.aload_n 0, 1) := by decide +kernel
theorem d_Q_endAtClosing_51 : decode b_Q_endAtClosing 51 = .ok (.iload_n 1, 1) := by decide +kernel
theorem d_Q_endAtClosing_52 : decode b_Q_endAtClosing 52 = .ok (.iload_n 2, 1) := by decide +kernel
theorem d_Q_endAtClosing_53 : decode b_Q_endAtClosing 53 = .ok (.invokevirtual 64, 3) := by decide +kernel
theorem d_Q_endAtClosing_56 : decode b_Q_endAtClosing 56 = .ok (.goto 3, 3) := by decide +kernel
theorem d_Q_endAtClosing_59 : decode b_Q_endAtClosing 59 = .ok (.return_, 1) := by decide +kernel
theorem d_Q_isRunningBy_0 : decode b_Q_isRunningBy 0 = .ok (.aload_n 0, 1) := by decide +kernel
theorem d_Q_isRunningBy_1 : decode b_Q_isRunningBy 1 = .ok (.iload_n 1, 1) := by decide +kernel
theorem d_Q_isRunningBy_2 : decode b_Q_isRunningBy 2 = .ok (.invokevirtual 38, 3) := by decide +kernel
theorem d_Q_isRunningBy_5 : decode b_Q_isRunningBy 5 = .ok (.ifCond .eq 27, 3) := by decide +kernel
theorem d_Q_isRunningBy_8 : decode b_Q_isRunningBy 8 = .ok (.aload_n 0, 1) := by decide +kernel
theorem d_Q_isRunningBy_9 : decode b_Q_isRunningBy 9 = .ok (.getfield 9, 3) := by decide +kernel
theorem d_Q_isRunningBy_12 : decode b_Q_isRunningBy 12 = .ok (.iload_n 1, 1) := by decide +kernel
theorem d_Q_isRunningBy_13 : decode b_Q_isRunningBy 13 = .ok (.iaload, 1) := by decide +kernel
theorem d_Q_isRunningBy_14 : decode b_Q_isRunningBy 14 = .ok (.iload_n 2, 1) := by decide +kernel
theorem d_Q_isRunningBy_15 : decode b_Q_isRunningBy 15 = .ok (.if_icmp .ne 17, 3) := by decide +kernel
theorem d_Q_isRunningBy_18 : decode b_Q_isRunningBy 18 = .ok (.aload_n 0, 1) := by decide +kernel
theorem d_Q_isRunningBy_19 : decode b_Q_isRunningBy 19 = .ok (.getfield 18, 3) := by decide +kernel
theorem d_Q_isRunningBy_22 : decode b_Q_isRunningBy 22 = .ok (.iload_n 1, 1) := by decide +kernel
theorem d_Q_isRunningBy_23 : decode b_Q_isRunningBy 23 = .ok (.iaload, 1) := by decide +kernel
theorem d_Q_isRunningBy_24 : decode b_Q_isRunningBy 24 = .ok (.iconst 2, 1) := by decide +kernel
theorem d_Q_isRunningBy_25 : decode b_Q_isRunningBy 25 = .ok (.if_icmp .gt 7, 3) := by decide +kernel
theorem d_Q_isRunningBy_28 : decode b_Q_isRunningBy 28 = .ok (.iconst 1, 1) := by decide +kernel
theorem d_Q_isRunningBy_29 : decode b_Q_isRunningBy 29 = .ok (.goto 4, 3) := by decide +kernel
theorem d_Q_isRunningBy_32 : decode b_Q_isRunningBy 32 = .ok (.iconst 0, 1) := by decide +kernel
theorem d_Q_isRunningBy_33 : decode b_Q_isRunningBy 33 = .ok (.ireturn, 1) := by decide +kernel
theorem d_S_init_0 : decode b_S_init 0 = .ok (.aload_n 0, 1) := by decide +kernel
theorem d_S_init_1 : decode b_S_init 1 = .ok (.invokespecial 3, 3) := by decide +kernel
theorem d_S_init_4 : decode b_S_init 4 = .ok (.aload_n 0, 1) := by decide +kernel
theorem d_S_init_5 : decode b_S_init 5 = .ok (.bipush 20, 2) := by decide +kernel
theorem d_S_init_7 : decode b_S_init 7 = .ok (.newarray .int, 2) := by decide +kernel
theorem d_S_init_9 : decode b_S_init 9 = .ok (.putfield 9, 3) := by decide +kernel
theorem d_S_init_12 : decode b_S_init 12 = .ok (.aload_n 0, 1) := by decide +kernel
theorem d_S_init_13 : decode b_S_init 13 = .ok (.bipush 60, 2) := by decide +kernel
theorem d_S_init_15 : decode b_S_init 15 = .ok (.newarray .int, 2) := by decide +kernel
theorem d_S_init_17 : decode b_S_init 17 = .ok (.putfield 15, 3) := by decide +kernel
theorem d_S_init_20 : decode b_S_init 20 = .ok (.aload_n 0, 1) := by decide +kernel
theorem d_S_init_21 : decode b_S_init 21 = .ok (.iconst 0, 1) := by decide +kernel
theorem d_S_init_22 : decode b_S_init 22 = .ok (.bipush 20, 2) := by decide +kernel
theorem d_S_init_24 : decode b_S_init 24 = .ok (.iload_n 1, 1) := by decide +kernel
theorem d_S_init_25 : decode b_S_init 25 = .ok (.invokestatic 18, 3) := by decide +kernel
theorem d_S_init_28 : decode b_S_init 28 = .ok (.invokestatic 24, 3) := by decide +kernel
theorem d_S_init_31 : decode b_S_init 31 = .ok (.putfield 27, 3) := by decide +kernel
theorem d_S_init_34 : decode b_S_init 34 = .ok (.aload_n 0, 1) := by decide +kernel
theorem d_S_init_35 : decode b_S_init 35 = .ok (.getfield 9, 3) := by decide +kernel
theorem d_S_init_38 : decode b_S_init 38 = .ok (.iconst (-1), 1) := by decide +kernel
theorem d_S_init_39 : decode b_S_init 39 = .ok (.invokestatic 31, 3) := by decide +kernel
theorem d_S_init_42 : decode b_S_init 42 = .ok (.return_, 1) := by decide +kernel
theorem d_S_isSeated_0 : decode b_S_isSeated 0 = .ok (.aload_n 0, 1) := by decide +kernel
theorem d_S_isSeated_1 : decode b_S_isSeated 1 = .ok (.iload_n 1, 1) := by decide +kernel
theorem d_S_isSeated_2 : decode b_S_isSeated 2 = .ok (.invokevirtual 37, 3) := by decide +kernel
theorem d_S_isSeated_5 : decode b_S_isSeated 5 = .ok (.iconst (-1), 1) := by decide +kernel
theorem d_S_isSeated_6 : decode b_S_isSeated 6 = .ok (.if_icmp .eq 7, 3) := by decide +kernel
theorem d_S_isSeated_9 : decode b_S_isSeated 9 = .ok (.iconst 1, 1) := by decide +kernel
theorem d_S_isSeated_10 : decode b_S_isSeated 10 = .ok (.goto 4, 3) := by decide +kernel
theorem d_S_isSeated_13 : decode b_S_isSeated 13 = .ok (.iconst 0, 1) := by decide +kernel
theorem d_S_isSeated_14 : decode b_S_isSeated 14 = .ok (.ireturn, 1) := by decide +kernel
theorem d_S_isPresent_0 : decode b_S_isPresent 0 = .ok (.aload_n 0, 1) := by decide +kernel
theorem d_S_isPresent_1 : decode b_S_isPresent 1 = .ok (.iload_n 1, 1) := by decide +kernel
theorem d_S_isPresent_2 : decode b_S_isPresent 2 = .ok (.invokevirtual 41, 3) := by decide +kernel
theorem d_S_isPresent_5 : decode b_S_isPresent 5 = .ok (.ifCond .ne 12, 3) := by decide +kernel
theorem d_S_isPresent_8 : decode b_S_isPresent 8 = .ok (.aload_n 0, 1) := by decide +kernel
theorem d_S_isPresent_9 : decode b_S_isPresent 9 = .ok (.iload_n 1, 1) := by decide +kernel
theorem d_S_isPresent_10 : decode b_S_isPresent 10 = .ok (.invokevirtual 45, 3) := by decide +kernel
theorem d_S_isPresent_13 : decode b_S_isPresent 13 = .ok (.iconst (-1), 1) := by decide +kernel
theorem d_S_isPresent_14 : decode b_S_isPresent 14 = .ok (.if_icmp .eq 7, 3) := by decide +kernel
theorem d_S_isPresent_17 : decode b_S_isPresent 17 = .ok (.iconst 1, 1) := by decide +kernel
theorem d_S_isPresent_18 : decode b_S_isPresent 18 = .ok (.goto 4, 3) := by decide +kernel
theorem d_S_isPresent_21 : decode b_S_isPresent 21 = .ok (.iconst 0, 1) := by decide +kernel
theorem d_S_isPresent_22 : decode b_S_isPresent 22 = .ok (.ireturn, 1) := by decide +kernel
theorem d_S_seatOf_0 : decode b_S_seatOf 0 = .ok (.iload_n 1, 1) := by decide +kernel
theorem d_S_seatOf_1 : decode b_S_seatOf 1 = .ok (.invokestatic 48, 3) := by decide +kernel
theorem d_S_seatOf_4 : decode b_S_seatOf 4 = .ok (.ifCond .eq 11, 3) := by decide +kernel
theorem d_S_seatOf_7 : decode b_S_seatOf 7 = .ok (.aload_n 0, 1) := by decide +kernel
theorem d_S_seatOf_8 : decode b_S_seatOf 8 = .ok (.iload_n 1, 1) := by decide +kernel
theorem d_S_seatOf_9 : decode b_S_seatOf 9 = .ok (.invokevirtual 51, 3) := by decide +kernel
theorem d_S_seatOf_12 : decode b_S_seatOf 12 = .ok (.goto 4, 3) := by decide +kernel
theorem d_S_seatOf_15 : decode b_S_seatOf 15 = .ok (.iconst (-1), 1) := by decide +kernel
theorem d_S_seatOf_16 : decode b_S_seatOf 16 = .ok (.ireturn, 1) := by decide +kernel
theorem d_S_placeInRow_0 : decode b_S_placeInRow 0 = .ok (.iconst 0, 1) := by decide +kernel
theorem d_S_placeInRow_1 : decode b_S_placeInRow 1 = .ok (.istore_n 2, 1) := by decide +kernel
theorem d_S_placeInRow_2 : decode b_S_placeInRow 2 = .ok (.iload_n 2, 1) := by decide +kernel
theorem d_S_placeInRow_3 : decode b_S_placeInRow 3 = .ok (.aload_n 0, 1) := by decide +kernel
theorem d_S_placeInRow_4 : decode b_S_placeInRow 4 = .ok (.getfield 54, 3) := by decide +kernel
theorem d_S_placeInRow_7 : decode b_S_placeInRow 7 = .ok (.if_icmp .ge 21, 3) := by decide +kernel
theorem d_S_placeInRow_10 : decode b_S_placeInRow 10 = .ok (.aload_n 0, 1) := by decide +kernel
theorem d_S_placeInRow_11 : decode b_S_placeInRow 11 = .ok (.getfield 15, 3) := by decide +kernel
theorem d_S_placeInRow_14 : decode b_S_placeInRow 14 = .ok (.iload_n 2, 1) := by decide +kernel
theorem d_S_placeInRow_15 : decode b_S_placeInRow 15 = .ok (.iaload, 1) := by decide +kernel
theorem d_S_placeInRow_16 : decode b_S_placeInRow 16 = .ok (.iload_n 1, 1) := by decide +kernel
theorem d_S_placeInRow_17 : decode b_S_placeInRow 17 = .ok (.if_icmp .ne 5, 3) := by decide +kernel
theorem d_S_placeInRow_20 : decode b_S_placeInRow 20 = .ok (.iload_n 2, 1) := by decide +kernel
theorem d_S_placeInRow_21 : decode b_S_placeInRow 21 = .ok (.ireturn, 1) := by decide +kernel
theorem d_S_placeInRow_22 : decode b_S_placeInRow 22 = .ok (.iinc 2 1, 3) := by decide +kernel
theorem d_S_placeInRow_25 : decode b_S_placeInRow 25 = .ok (.goto (-23), 3) := by decide +kernel
theorem d_S_placeInRow_28 : decode b_S_placeInRow 28 = .ok (.iconst (-1), 1) := by decide +kernel
theorem d_S_placeInRow_29 : decode b_S_placeInRow 29 = .ok (.ireturn, 1) := by decide +kernel
theorem d_S_admit_0 : decode b_S_admit 0 = .ok (.aload_n 0, 1) := by decide +kernel
theorem d_S_admit_1 : decode b_S_admit 1 = .ok (.iconst (-1), 1) := by decide +kernel
theorem d_S_admit_2 : decode b_S_admit 2 = .ok (.invokevirtual 51, 3) := by decide +kernel
theorem d_S_admit_5 : decode b_S_admit 5 = .ok (.istore_n 2, 1) := by decide +kernel
theorem d_S_admit_6 : decode b_S_admit 6 = .ok (.iload_n 2, 1) := by decide +kernel
theorem d_S_admit_7 : decode b_S_admit 7 = .ok (.iconst (-1), 1) := by decide +kernel
theorem d_S_admit_8 : decode b_S_admit 8 = .ok (.if_icmp .eq 12, 3) := by decide +kernel
theorem d_S_admit_11 : decode b_S_admit 11 = .ok (.aload_n 0, 1) := by decide +kernel
theorem d_S_admit_12 : decode b_S_admit 12 = .ok (.getfield 9, 3) := by decide +kernel
theorem d_S_admit_15 : decode b_S_admit 15 = .ok (.iload_n 2, 1) := by decide +kernel
theorem d_S_admit_16 : decode b_S_admit 16 = .ok (.iload_n 1, 1) := by decide +kernel
theorem d_S_admit_17 : decode b_S_admit 17 = .ok (.iastore, 1) := by decide +kernel
theorem d_S_admit_18 : decode b_S_admit 18 = .ok (.iload_n 2, 1) := by decide +kernel
theorem d_S_admit_19 : decode b_S_admit 19 = .ok (.ireturn, 1) := by decide +kernel
theorem d_S_admit_20 : decode b_S_admit 20 = .ok (.aload_n 0, 1) := by decide +kernel
theorem d_S_admit_21 : decode b_S_admit 21 = .ok (.getfield 54, 3) := by decide +kernel
theorem d_S_admit_24 : decode b_S_admit 24 = .ok (.istore_n 3, 1) := by decide +kernel
theorem d_S_admit_25 : decode b_S_admit 25 = .ok (.iload_n 3, 1) := by decide +kernel
theorem d_S_admit_26 : decode b_S_admit 26 = .ok (.bipush 60, 2) := by decide +kernel
theorem d_S_admit_28 : decode b_S_admit 28 = .ok (.if_icmp .ge 20, 3) := by decide +kernel
theorem d_S_admit_31 : decode b_S_admit 31 = .ok (.aload_n 0, 1) := by decide +kernel
theorem d_S_admit_32 : decode b_S_admit 32 = .ok (.getfield 15, 3) := by decide +kernel
theorem d_S_admit_35 : decode b_S_admit 35 = .ok (.iload_n 3, 1) := by decide +kernel
theorem d_S_admit_36 : decode b_S_admit 36 = .ok (.iload_n 1, 1) := by decide +kernel
theorem d_S_admit_37 : decode b_S_admit 37 = .ok (.iastore, 1) := by decide +kernel
theorem d_S_admit_38 : decode b_S_admit 38 = .ok (.aload_n 0, 1) := by decide +kernel
theorem d_S_admit_39 : decode b_S_admit 39 = .ok (.dup, 1) := by decide +kernel
theorem d_S_admit_40 : decode b_S_admit 40 = .ok (.getfield 54, 3) := by decide +kernel
theorem d_S_admit_43 : decode b_S_admit 43 = .ok (.iconst 1, 1) := by decide +kernel
theorem d_S_admit_44 : decode b_S_admit 44 = .ok (.iadd, 1) := by decide +kernel
theorem d_S_admit_45 : decode b_S_admit 45 = .ok (.putfield 54, 3) := by decide +kernel
theorem d_S_admit_48 : decode b_S_admit 48 = .ok (.bipush (-10), 2) := by decide +kernel
theorem d_S_admit_50 : decode b_S_admit 50 = .ok (.iload_n 3, 1) := by decide +kernel
theorem d_S_admit_51 : decode b_S_admit 51 = .ok (.isub, 1) := by decide +kernel
theorem d_S_admit_52 : decode b_S_admit 52 = .ok (.ireturn, 1) := by decide +kernel
theorem d_S_release_0 : decode b_S_release 0 = .ok (.aload_n 0, 1) := by decide +kernel
theorem d_S_release_1 : decode b_S_release 1 = .ok (.iload_n 1, 1) := by decide +kernel
theorem d_S_release_2 : decode b_S_release 2 = .ok (.invokevirtual 37, 3) := by decide +kernel
theorem d_S_release_5 : decode b_S_release 5 = .ok (.istore_n 2, 1) := by decide +kernel
theorem d_S_release_6 : decode b_S_release 6 = .ok (.iload_n 2, 1) := by decide +kernel
theorem d_S_release_7 : decode b_S_release 7 = .ok (.iconst (-1), 1) := by decide +kernel
theorem d_S_release_8 : decode b_S_release 8 = .ok (.if_icmp .ne 15, 3) := by decide +kernel
theorem d_S_release_11 : decode b_S_release 11 = .ok (.aload_n 0, 1) := by decide +kernel
theorem d_S_release_12 : decode b_S_release 12 = .ok (.aload_n 0, 1) := by decide +kernel
theorem d_S_release_13 : decode b_S_release 13 = .ok (.iload_n 1, 1) := by decide +kernel
theorem d_S_release_14 : decode b_S_release 14 = .ok (.invokevirtual 45, 3) := by decide +kernel
theorem d_S_release_17 : decode b_S_release 17 = .ok (.invokevirtual 57, 3) := by decide +kernel
theorem d_S_release_20 : decode b_S_release 20 = .ok (.bipush 100, 2) := by decide +kernel
theorem d_S_release_22 : decode b_S_release 22 = .ok (.ireturn, 1) := by decide +kernel
theorem d_S_release_23 : decode b_S_release 23 = .ok (.aload_n 0, 1) := by decide +kernel
theorem d_S_release_24 : decode b_S_release 24 = .ok (.getfield 54, 3) := by decide +kernel
theorem d_S_release_27 : decode b_S_release 27 = .ok (.ifCond .ne 13, 3) := by decide +kernel
theorem d_S_release_30 : decode b_S_release 30 = .ok (.aload_n 0, 1) := by decide +kernel
theorem d_S_release_31 : decode b_S_release 31 = .ok (.getfield 9, 3) := by decide +kernel
theorem d_S_release_34 : decode b_S_release 34 = .ok (.iload_n 2, 1) := by decide +kernel
theorem d_S_release_35 : decode b_S_release 35 = .ok (.iconst (-1), 1) := by decide +kernel
theorem d_S_release_36 : decode b_S_release 36 = .ok (.iastore, 1) := by decide +kernel
theorem d_S_release_37 : decode b_S_release 37 = .ok (.bipush 100, 2) := by decide +kernel
theorem d_S_release_39 : decode b_S_release 39 = .ok (.ireturn, 1) := by decide +kernel
theorem d_S_release_40 : decode b_S_release 40 = .ok (.aload_n 0, 1) := by decide +kernel
theorem d_S_release_41 : decode b_S_release 41 = .ok (.getfield 9, 3) := by decide +kernel
theorem d_S_release_44 : decode b_S_release 44 = .ok (.iload_n 2, 1) := by decide +kernel
theorem d_S_release_45 : decode b_S_release 45 = .ok (.aload_n 0, 1) := by decide +kernel
theorem d_S_release_46 : decode b_S_release 46 = .ok (.getfield 15, 3) := by decide +kernel
theorem d_S_release_49 : decode b_S_release 49 = .ok (.iconst 0, 1) := by decide +kernel
theorem d_S_release_50 : decode b_S_release 50 = .ok (.iaload, 1) := by decide +kernel
theorem d_S_release_51 : decode b_S_release 51 = .ok (.iastore, 1) := by decide +kernel
theorem d_S_release_52 : decode b_S_release 52 = .ok (.aload_n 0, 1) := by decide +kernel
theorem d_S_release_53 : decode b_S_release 53 = .ok (.iconst 0, 1) := by decide +kernel
theorem d_S_release_54 : decode b_S_release 54 = .ok (.invokevirtual 57, 3) := by decide +kernel
theorem d_S_release_57 : decode b_S_release 57 = .ok (.aload_n 0, 1) := by decide +kernel
theorem d_S_release_58 : decode b_S_release 58 = .ok (.getfield 9, 3) := by decide +kernel
theorem d_S_release_61 : decode b_S_release 61 = .ok (.iload_n 2, 1) := by decide +kernel
theorem d_S_release_62 : decode b_S_release 62 = .ok (.iaload, 1) := by decide +kernel
theorem d_S_release_63 : decode b_S_release 63 = .ok (.ireturn, 1) := by decide +kernel
theorem d_S_clear_0 : decode b_S_clear 0 = .ok (.aload_n 0, 1) := by decide +kernel
theorem d_S_clear_1 : decode b_S_clear 1 = .ok (.getfield 9, 3) := by decide +kernel
theorem d_S_clear_4 : decode b_S_clear 4 = .ok (.iconst (-1), 1) := by decide +kernel
theorem d_S_clear_5 : decode b_S_clear 5 = .ok (.invokestatic 31, 3) := by decide +kernel
theorem d_S_clear_8 : decode b_S_clear 8 = .ok (.aload_n 0, 1) := by decide +kernel
theorem d_S_clear_9 : decode b_S_clear 9 = .ok (.iconst 0, 1) := by decide +kernel
theorem d_S_clear_10 : decode b_S_clear 10 = .ok (.putfield 54, 3) := by decide +kernel
theorem d_S_clear_13 : decode b_S_clear 13 = .ok (.return_, 1) := by decide +kernel
theorem d_S_firstSeatWith_0 : decode b_S_firstSeatWith 0 = .ok (.iconst 0, 1) := by decide +kernel
theorem d_S_firstSeatWith_1 : decode b_S_firstSeatWith 1 = .ok (.istore_n 2, 1) := by decide +kernel
theorem d_S_firstSeatWith_2 : decode b_S_firstSeatWith 2 = .ok (.iload_n 2, 1) := by decide +kernel
theorem d_S_firstSeatWith_3 : decode b_S_firstSeatWith 3 = .ok (.aload_n 0, 1) := by decide +kernel
theorem d_S_firstSeatWith_4 : decode b_S_firstSeatWith 4 = .ok (.getfield 27, 3) := by decide +kernel
theorem d_S_firstSeatWith_7 : decode b_S_firstSeatWith 7 = .ok (.if_icmp .ge 21, 3) := by decide +kernel
theorem d_S_firstSeatWith_10 : decode b_S_firstSeatWith 10 = .ok (.aload_n 0, 1) := by decide +kernel
theorem d_S_firstSeatWith_11 : decode b_S_firstSeatWith 11 = .ok (.getfield 9, 3) := by decide +kernel
theorem d_S_firstSeatWith_14 : decode b_S_firstSeatWith 14 = .ok (.iload_n 2, 1) := by decide +kernel
theorem d_S_firstSeatWith_15 : decode b_S_firstSeatWith 15 = .ok (.iaload, 1) := by decide +kernel
theorem d_S_firstSeatWith_16 : decode b_S_firstSeatWith 16 = .ok (.iload_n 1, 1) := by decide +kernel
theorem d_S_firstSeatWith_17 : decode b_S_firstSeatWith 17 = .ok (.if_icmp .ne 5, 3) := by decide +kernel
theorem d_S_firstSeatWith_20 : decode b_S_firstSeatWith 20 = .ok (.iload_n 2, 1) := by decide +kernel
theorem d_S_firstSeatWith_21 : decode b_S_firstSeatWith 21 = .ok (.ireturn, 1) := by decide +kernel
theorem d_S_firstSeatWith_22 : decode b_S_firstSeatWith 22 = .ok (.iinc 2 1, 3) := by decide +kernel
theorem d_S_firstSeatWith_25 : decode b_S_firstSeatWith 25 = .ok (.goto (-23), 3) := by decide +kernel
theorem d_S_firstSeatWith_28 : decode b_S_firstSeatWith 28 = .ok (.iconst (-1), 1) := by decide +kernel
theorem d_S_firstSeatWith_29 : decode b_S_firstSeatWith 29 = .ok (.ireturn, 1) := by decide +kernel
theorem d_S_dropFromRow_0 : decode b_S_dropFromRow 0 = .ok (.iload_n 1, 1) := by decide +kernel
theorem d_S_dropFromRow_1 : decode b_S_dropFromRow 1 = .ok (.iconst 0, 1) := by decide +kernel
theorem d_S_dropFromRow_2 : decode b_S_dropFromRow 2 = .ok (.aload_n 0, 1) := by decide +kernel
theorem d_S_dropFromRow_3 : decode b_S_dropFromRow 3 = .ok (.getfield 54, 3) := by decide +kernel
theorem d_S_dropFromRow_6 : decode b_S_dropFromRow 6 = .ok (.iconst 1, 1) := by decide +kernel
theorem d_S_dropFromRow_7 : decode b_S_dropFromRow 7 = .ok (.isub, 1) := by decide +kernel
theorem d_S_dropFromRow_8 : decode b_S_dropFromRow 8 = .ok (.invokestatic 61, 3) := by decide +kernel
theorem d_S_dropFromRow_11 : decode b_S_dropFromRow 11 = .ok (.ifCond .ne 4, 3) := by decide +kernel
theorem d_S_dropFromRow_14 : decode b_S_dropFromRow 14 = .ok (.return_, 1) := by decide +kernel
theorem d_S_dropFromRow_15 : decode b_S_dropFromRow 15 = .ok (.iload_n 1, 1) := by decide +kernel
theorem d_S_dropFromRow_16 : decode b_S_dropFromRow 16 = .ok (.iconst 1, 1) := by decide +kernel
theorem d_S_dropFromRow_17 : decode b_S_dropFromRow 17 = .ok (.iadd, 1) := by decide +kernel
theorem d_S_dropFromRow_18 : decode b_S_dropFromRow 18 = .ok (.istore_n 2, 1) := by decide +kernel
theorem d_S_dropFromRow_19 : decode b_S_dropFromRow 19 = .ok (.iload_n 2, 1) := by decide +kernel
theorem d_S_dropFromRow_20 : decode b_S_dropFromRow 20 = .ok (.aload_n 0, 1) := by decide +kernel
theorem d_S_dropFromRow_21 : decode b_S_dropFromRow 21 = .ok (.getfield 54, 3) := by decide +kernel
theorem d_S_dropFromRow_24 : decode b_S_dropFromRow 24 = .ok (.if_icmp .ge 23, 3) := by decide +kernel
theorem d_S_dropFromRow_27 : decode b_S_dropFromRow 27 = .ok (.aload_n 0, 1) := by decide +kernel
theorem d_S_dropFromRow_28 : decode b_S_dropFromRow 28 = .ok (.getfield 15, 3) := by decide +kernel
theorem d_S_dropFromRow_31 : decode b_S_dropFromRow 31 = .ok (.iload_n 2, 1) := by decide +kernel
theorem d_S_dropFromRow_32 : decode b_S_dropFromRow 32 = .ok (.iconst 1, 1) := by decide +kernel
theorem d_S_dropFromRow_33 : decode b_S_dropFromRow 33 = .ok (.isub, 1) := by decide +kernel
theorem d_S_dropFromRow_34 : decode b_S_dropFromRow 34 = .ok (.aload_n 0, 1) := by decide +kernel
theorem d_S_dropFromRow_35 : decode b_S_dropFromRow 35 = .ok (.getfield 15, 3) := by decide +kernel
theorem d_S_dropFromRow_38 : decode b_S_dropFromRow 38 = .ok (.iload_n 2, 1) := by decide +kernel
theorem d_S_dropFromRow_39 : decode b_S_dropFromRow 39 = .ok (.iaload, 1) := by decide +kernel
theorem d_S_dropFromRow_40 : decode b_S_dropFromRow 40 = .ok (.iastore, 1) := by decide +kernel
theorem d_S_dropFromRow_41 : decode b_S_dropFromRow 41 = .ok (.iinc 2 1, 3) := by decide +kernel
theorem d_S_dropFromRow_44 : decode b_S_dropFromRow 44 = .ok (.goto (-25), 3) := by decide +kernel
theorem d_S_dropFromRow_47 : decode b_S_dropFromRow 47 = .ok (.aload_n 0, 1) := by decide +kernel
theorem d_S_dropFromRow_48 : decode b_S_dropFromRow 48 = .ok (.dup, 1) := by decide +kernel
theorem d_S_dropFromRow_49 : decode b_S_dropFromRow 49 = .ok (.getfield 54, 3) := by decide +kernel
theorem d_S_dropFromRow_52 : decode b_S_dropFromRow 52 = .ok (.iconst 1, 1) := by decide +kernel
theorem d_S_dropFromRow_53 : decode b_S_dropFromRow 53 = .ok (.isub, 1) := by decide +kernel
theorem d_S_dropFromRow_54 : decode b_S_dropFromRow 54 = .ok (.putfield 54, 3) := by decide +kernel
theorem d_S_dropFromRow_57 : decode b_S_dropFromRow 57 = .ok (.return_, 1) := by decide +kernel
theorem d_JA_fill_0 : decode b_JA_fill 0 = .ok (.iconst 0, 1) := by decide +kernel
theorem d_JA_fill_1 : decode b_JA_fill 1 = .ok (.istore_n 2, 1) := by decide +kernel
theorem d_JA_fill_2 : decode b_JA_fill 2 = .ok (.aload_n 0, 1) := by decide +kernel
theorem d_JA_fill_3 : decode b_JA_fill 3 = .ok (.arraylength, 1) := by decide +kernel
theorem d_JA_fill_4 : decode b_JA_fill 4 = .ok (.istore_n 3, 1) := by decide +kernel
theorem d_JA_fill_5 : decode b_JA_fill 5 = .ok (.iload_n 2, 1) := by decide +kernel
theorem d_JA_fill_6 : decode b_JA_fill 6 = .ok (.iload_n 3, 1) := by decide +kernel
theorem d_JA_fill_7 : decode b_JA_fill 7 = .ok (.if_icmp .ge 13, 3) := by decide +kernel
theorem d_JA_fill_10 : decode b_JA_fill 10 = .ok (.aload_n 0, 1) := by decide +kernel
theorem d_JA_fill_11 : decode b_JA_fill 11 = .ok (.iload_n 2, 1) := by decide +kernel
theorem d_JA_fill_12 : decode b_JA_fill 12 = .ok (.iload_n 1, 1) := by decide +kernel
theorem d_JA_fill_13 : decode b_JA_fill 13 = .ok (.iastore, 1) := by decide +kernel
theorem d_JA_fill_14 : decode b_JA_fill 14 = .ok (.iinc 2 1, 3) := by decide +kernel
theorem d_JA_fill_17 : decode b_JA_fill 17 = .ok (.goto (-12), 3) := by decide +kernel
theorem d_JA_fill_20 : decode b_JA_fill 20 = .ok (.return_, 1) := by decide +kernel
