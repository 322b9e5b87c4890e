theorem dX2_init_0 : decode cX2_init 0 = .ok (.aload_n 0, 1) := by decide +kernel
theorem dX2_init_1 : decode cX2_init 1 = .ok (.invokespecial 3, 3) := by decide +kernel
theorem dX2_init_4 : decode cX2_init 4 = .ok (.aload_n 0, 1) := by decide +kernel
theorem dX2_init_5 : decode cX2_init 5 = .ok (.bipush 6, 2) := by decide +kernel
theorem dX2_init_7 : decode cX2_init 7 = .ok (.newarray .int, 2) := by decide +kernel
theorem dX2_init_9 : decode cX2_init 9 = .ok (.putfield 9, 3) := by decide +kernel
theorem dX2_init_12 : decode cX2_init 12 = .ok (.aload_n 0, 1) := by decide +kernel
theorem dX2_init_13 : decode cX2_init 13 = .ok (.bipush 11, 2) := by decide +kernel
theorem dX2_init_15 : decode cX2_init 15 = .ok (.putfield 15, 3) := by decide +kernel
theorem dX2_init_18 : decode cX2_init 18 = .ok (.iconst 0, 1) := by decide +kernel
theorem dX2_init_19 : decode cX2_init 19 = .ok (.istore_n 1, 1) := by decide +kernel
theorem dX2_init_20 : decode cX2_init 20 = .ok (.iload_n 1, 1) := by decide +kernel
theorem dX2_init_21 : decode cX2_init 21 = .ok (.aload_n 0, 1) := by decide +kernel
theorem dX2_init_22 : decode cX2_init 22 = .ok (.getfield 9, 3) := by decide +kernel
theorem dX2_init_25 : decode cX2_init 25 = .ok (.arraylength, 1) := by decide +kernel
theorem dX2_init_26 : decode cX2_init 26 = .ok (.if_icmp .ge 18, 3) := by decide +kernel
theorem dX2_init_29 : decode cX2_init 29 = .ok (.aload_n 0, 1) := by decide +kernel
theorem dX2_init_30 : decode cX2_init 30 = .ok (.getfield 9, 3) := by decide +kernel
theorem dX2_init_33 : decode cX2_init 33 = .ok (.iload_n 1, 1) := by decide +kernel
theorem dX2_init_34 : decode cX2_init 34 = .ok (.iconst 1, 1) := by decide +kernel
theorem dX2_init_35 : decode cX2_init 35 = .ok (.iload_n 1, 1) := by decide +kernel
theorem dX2_init_36 : decode cX2_init 36 = .ok (.iadd, 1) := by decide +kernel
theorem dX2_init_37 : decode cX2_init 37 = .ok (.iastore, 1) := by decide +kernel
theorem dX2_init_38 : decode cX2_init 38 = .ok (.iinc 1 1, 3) := by decide +kernel
theorem dX2_init_41 : decode cX2_init 41 = .ok (.goto (-21), 3) := by decide +kernel
theorem dX2_init_44 : decode cX2_init 44 = .ok (.return_, 1) := by decide +kernel
theorem dX2_copyFrom_0 : decode cX2_copyFrom 0 = .ok (.aload_n 1, 1) := by decide +kernel
theorem dX2_copyFrom_1 : decode cX2_copyFrom 1 = .ok (.getfield 9, 3) := by decide +kernel
theorem dX2_copyFrom_4 : decode cX2_copyFrom 4 = .ok (.aload_n 0, 1) := by decide +kernel
theorem dX2_copyFrom_5 : decode cX2_copyFrom 5 = .ok (.getfield 9, 3) := by decide +kernel
theorem dX2_copyFrom_8 : decode cX2_copyFrom 8 = .ok (.invokestatic 19, 3) := by decide +kernel
theorem dX2_copyFrom_11 : decode cX2_copyFrom 11 = .ok (.aload_n 0, 1) := by decide +kernel
theorem dX2_copyFrom_12 : decode cX2_copyFrom 12 = .ok (.aload_n 1, 1) := by decide +kernel
theorem dX2_copyFrom_13 : decode cX2_copyFrom 13 = .ok (.getfield 15, 3) := by decide +kernel
theorem dX2_copyFrom_16 : decode cX2_copyFrom 16 = .ok (.putfield 15, 3) := by decide +kernel
theorem dX2_copyFrom_19 : decode cX2_copyFrom 19 = .ok (.return_, 1) := by decide +kernel
theorem dX2_weightAt_0 : decode cX2_weightAt 0 = .ok (.iload_n 1, 1) := by decide +kernel
theorem dX2_weightAt_1 : decode cX2_weightAt 1 = .ok (.ifCond .lt 21, 3) := by decide +kernel
theorem dX2_weightAt_4 : decode cX2_weightAt 4 = .ok (.iload_n 1, 1) := by decide +kernel
theorem dX2_weightAt_5 : decode cX2_weightAt 5 = .ok (.aload_n 0, 1) := by decide +kernel
theorem dX2_weightAt_6 : decode cX2_weightAt 6 = .ok (.getfield 9, 3) := by decide +kernel
theorem dX2_weightAt_9 : decode cX2_weightAt 9 = .ok (.arraylength, 1) := by decide +kernel
theorem dX2_weightAt_10 : decode cX2_weightAt 10 = .ok (.if_icmp .ge 12, 3) := by decide +kernel
theorem dX2_weightAt_13 : decode cX2_weightAt 13 = .ok (.aload_n 0, 1) := by decide +kernel
theorem dX2_weightAt_14 : decode cX2_weightAt 14 = .ok (.getfield 9, 3) := by decide +kernel
theorem dX2_weightAt_17 : decode cX2_weightAt 17 = .ok (.iload_n 1, 1) := by decide +kernel
theorem dX2_weightAt_18 : decode cX2_weightAt 18 = .ok (.iaload, 1) := by decide +kernel
theorem dX2_weightAt_19 : decode cX2_weightAt 19 = .ok (.goto 4, 3) := by decide +kernel
theorem dX2_weightAt_22 : decode cX2_weightAt 22 = .ok (.iconst 0, 1) := by decide +kernel
theorem dX2_weightAt_23 : decode cX2_weightAt 23 = .ok (.ireturn, 1) := by decide +kernel
theorem dX2_setWeight_0 : decode cX2_setWeight 0 = .ok (.iload_n 1, 1) := by decide +kernel
theorem dX2_setWeight_1 : decode cX2_setWeight 1 = .ok (.ifCond .lt 19, 3) := by decide +kernel
theorem dX2_setWeight_4 : decode cX2_setWeight 4 = .ok (.iload_n 1, 1) := by decide +kernel
theorem dX2_setWeight_5 : decode cX2_setWeight 5 = .ok (.aload_n 0, 1) := by decide +kernel
theorem dX2_setWeight_6 : decode cX2_setWeight 6 = .ok (.getfield 9, 3) := by decide +kernel
theorem dX2_setWeight_9 : decode cX2_setWeight 9 = .ok (.arraylength, 1) := by decide +kernel
theorem dX2_setWeight_10 : decode cX2_setWeight 10 = .ok (.if_icmp .ge 10, 3) := by decide +kernel
theorem dX2_setWeight_13 : decode cX2_setWeight 13 = .ok (.aload_n 0, 1) := by decide +kernel
theorem dX2_setWeight_14 : decode cX2_setWeight 14 = .ok (.getfield 9, 3) := by decide +kernel
theorem dX2_setWeight_17 : decode cX2_setWeight 17 = .ok (.iload_n 1, 1) := by decide +kernel
theorem dX2_setWeight_18 : decode cX2_setWeight 18 = .ok (.iload_n 2, 1) := by decide +kernel
theorem dX2_setWeight_19 : decode cX2_setWeight 19 = .ok (.iastore, 1) := by decide +kernel
theorem dX2_setWeight_20 : decode cX2_setWeight 20 = .ok (.return_, 1) := by decide +kernel
theorem dX2_letterOf_0 : decode cX2_letterOf 0 = .ok (.iconst 0, 1) := by decide +kernel
theorem dX2_letterOf_1 : decode cX2_letterOf 1 = .ok (.istore_n 2, 1) := by decide +kernel
theorem dX2_letterOf_2 : decode cX2_letterOf 2 = .ok (.iload_n 1, 1) := by decide +kernel
theorem dX2_letterOf_3 : decode cX2_letterOf 3 = .ok (.istore_n 3, 1) := by decide +kernel
theorem dX2_letterOf_4 : decode cX2_letterOf 4 = .ok (.iconst 5, 1) := by decide +kernel
theorem dX2_letterOf_5 : decode cX2_letterOf 5 = .ok (.istore 4, 2) := by decide +kernel
theorem dX2_letterOf_7 : decode cX2_letterOf 7 = .ok (.iload 4, 2) := by decide +kernel
theorem dX2_letterOf_9 : decode cX2_letterOf 9 = .ok (.ifCond .lt 28, 3) := by decide +kernel
theorem dX2_letterOf_12 : decode cX2_letterOf 12 = .ok (.iload_n 2, 1) := by decide +kernel
theorem dX2_letterOf_13 : decode cX2_letterOf 13 = .ok (.aload_n 0, 1) := by decide +kernel
theorem dX2_letterOf_14 : decode cX2_letterOf 14 = .ok (.iload 4, 2) := by decide +kernel
theorem dX2_letterOf_16 : decode cX2_letterOf 16 = .ok (.invokevirtual 23, 3) := by decide +kernel
theorem dX2_letterOf_19 : decode cX2_letterOf 19 = .ok (.iload_n 3, 1) := by decide +kernel
theorem dX2_letterOf_20 : decode cX2_letterOf 20 = .ok (.bipush 10, 2) := by decide +kernel
theorem dX2_letterOf_22 : decode cX2_letterOf 22 = .ok (.irem, 1) := by decide +kernel
theorem dX2_letterOf_23 : decode cX2_letterOf 23 = .ok (.imul, 1) := by decide +kernel
theorem dX2_letterOf_24 : decode cX2_letterOf 24 = .ok (.iadd, 1) := by decide +kernel
theorem dX2_letterOf_25 : decode cX2_letterOf 25 = .ok (.istore_n 2, 1) := by decide +kernel
theorem dX2_letterOf_26 : decode cX2_letterOf 26 = .ok (.iload_n 3, 1) := by decide +kernel
theorem dX2_letterOf_27 : decode cX2_letterOf 27 = .ok (.bipush 10, 2) := by decide +kernel
theorem dX2_letterOf_29 : decode cX2_letterOf 29 = .ok (.idiv, 1) := by decide +kernel
theorem dX2_letterOf_30 : decode cX2_letterOf 30 = .ok (.istore_n 3, 1) := by decide +kernel
theorem dX2_letterOf_31 : decode cX2_letterOf 31 = .ok (.iinc 4 (-1), 3) := by decide +kernel
theorem dX2_letterOf_34 : decode cX2_letterOf 34 = .ok (.goto (-27), 3) := by decide +kernel
theorem dX2_letterOf_37 : decode cX2_letterOf 37 = .ok (.aload_n 0, 1) := by decide +kernel
theorem dX2_letterOf_38 : decode cX2_letterOf 38 = .ok (.iload_n 2, 1) := by decide +kernel
theorem dX2_letterOf_39 : decode cX2_letterOf 39 = .ok (.invokevirtual 27, 3) := by decide +kernel
theorem dX2_letterOf_42 : decode cX2_letterOf 42 = .ok (.ireturn, 1) := by decide +kernel
theorem dX2_restOf_0 : decode cX2_restOf 0 = .ok (.aload_n 0, 1) := by decide +kernel
theorem dX2_restOf_1 : decode cX2_restOf 1 = .ok (.getfield 15, 3) := by decide +kernel
theorem dX2_restOf_4 : decode cX2_restOf 4 = .ok (.iconst 1, 1) := by decide +kernel
theorem dX2_restOf_5 : decode cX2_restOf 5 = .ok (.if_icmp .ge 5, 3) := by decide +kernel
theorem dX2_restOf_8 : decode cX2_restOf 8 = .ok (.iconst 0, 1) := by decide +kernel
theorem dX2_restOf_9 : decode cX2_restOf 9 = .ok (.ireturn, 1) := by decide +kernel
theorem dX2_restOf_10 : decode cX2_restOf 10 = .ok (.iload_n 1, 1) := by decide +kernel
theorem dX2_restOf_11 : decode cX2_restOf 11 = .ok (.aload_n 0, 1) := by decide +kernel
theorem dX2_restOf_12 : decode cX2_restOf 12 = .ok (.getfield 15, 3) := by decide +kernel
theorem dX2_restOf_15 : decode cX2_restOf 15 = .ok (.irem, 1) := by decide +kernel
theorem dX2_restOf_16 : decode cX2_restOf 16 = .ok (.istore_n 2, 1) := by decide +kernel
theorem dX2_restOf_17 : decode cX2_restOf 17 = .ok (.iload_n 2, 1) := by decide +kernel
theorem dX2_restOf_18 : decode cX2_restOf 18 = .ok (.ifCond .ge 12, 3) := by decide +kernel
theorem dX2_restOf_21 : decode cX2_restOf 21 = .ok (.iload_n 2, 1) := by decide +kernel
theorem dX2_restOf_22 : decode cX2_restOf 22 = .ok (.aload_n 0, 1) := by decide +kernel
theorem dX2_restOf_23 : decode cX2_restOf 23 = .ok (.getfield 15, 3) := by decide +kernel
theorem dX2_restOf_26 : decode cX2_restOf 26 = .ok (.iadd, 1) := by decide +kernel
theorem dX2_restOf_27 : decode cX2_restOf 27 = .ok (.goto 4, 3) := by decide +kernel
theorem dX2_restOf_30 : decode cX2_restOf 30 = .ok (.iload_n 2, 1) := by decide +kernel
theorem dX2_restOf_31 : decode cX2_restOf 31 = .ok (.ireturn, 1) := by decide +kernel
theorem dX2_digitAt_0 : decode cX2_digitAt 0 = .ok (.iload_n 0, 1) := by decide +kernel
theorem dX2_digitAt_1 : decode cX2_digitAt 1 = .ok (.istore_n 2, 1) := by decide +kernel
theorem dX2_digitAt_2 : decode cX2_digitAt 2 = .ok (.iconst 5, 1) := by decide +kernel
theorem dX2_digitAt_3 : decode cX2_digitAt 3 = .ok (.istore_n 3, 1) := by decide +kernel
theorem dX2_digitAt_4 : decode cX2_digitAt 4 = .ok (.iload_n 3, 1) := by decide +kernel
theorem dX2_digitAt_5 : decode cX2_digitAt 5 = .ok (.iload_n 1, 1) := by decide +kernel
theorem dX2_digitAt_6 : decode cX2_digitAt 6 = .ok (.if_icmp .le 14, 3) := by decide +kernel
theorem dX2_digitAt_9 : decode cX2_digitAt 9 = .ok (.iload_n 2, 1) := by decide +kernel
theorem dX2_digitAt_10 : decode cX2_digitAt 10 = .ok (.bipush 10, 2) := by decide +kernel
theorem dX2_digitAt_12 : decode cX2_digitAt 12 = .ok (.idiv, 1) := by decide +kernel
theorem dX2_digitAt_13 : decode cX2_digitAt 13 = .ok (.istore_n 2, 1) := by decide +kernel
theorem dX2_digitAt_14 : decode cX2_digitAt 14 = .ok (.iinc 3 (-1), 3) := by decide +kernel
theorem dX2_digitAt_17 : decode cX2_digitAt 17 = .ok (.goto (-13), 3) := by decide +kernel
theorem dX2_digitAt_20 : decode cX2_digitAt 20 = .ok (.iload_n 2, 1) := by decide +kernel
theorem dX2_digitAt_21 : decode cX2_digitAt 21 = .ok (.bipush 10, 2) := by decide +kernel
theorem dX2_digitAt_23 : decode cX2_digitAt 23 = .ok (.irem, 1) := by decide +kernel
theorem dX2_digitAt_24 : decode cX2_digitAt 24 = .ok (.ireturn, 1) := by decide +kernel
theorem dX2_factorAt_0 : decode cX2_factorAt 0 = .ok (.aload_n 0, 1) := by decide +kernel
theorem dX2_factorAt_1 : decode cX2_factorAt 1 = .ok (.iload_n 1, 1) := by decide +kernel
theorem dX2_factorAt_2 : decode cX2_factorAt 2 = .ok (.invokevirtual 23, 3) := by decide +kernel
theorem dX2_factorAt_5 : decode cX2_factorAt 5 = .ok (.istore_n 3, 1) := by decide +kernel
theorem dX2_factorAt_6 : decode cX2_factorAt 6 = .ok (.iload_n 2, 1) := by decide +kernel
theorem dX2_factorAt_7 : decode cX2_factorAt 7 = .ok (.iconst 1, 1) := by decide +kernel
theorem dX2_factorAt_8 : decode cX2_factorAt 8 = .ok (.if_icmp .ne 15, 3) := by decide +kernel
theorem dX2_factorAt_11 : decode cX2_factorAt 11 = .ok (.iload_n 3, 1) := by decide +kernel
theorem dX2_factorAt_12 : decode cX2_factorAt 12 = .ok (.aload_n 0, 1) := by decide +kernel
theorem dX2_factorAt_13 : decode cX2_factorAt 13 = .ok (.iload_n 1, 1) := by decide +kernel
theorem dX2_factorAt_14 : decode cX2_factorAt 14 = .ok (.iconst 1, 1) := by decide +kernel
theorem dX2_factorAt_15 : decode cX2_factorAt 15 = .ok (.iadd, 1) := by decide +kernel
theorem dX2_factorAt_16 : decode cX2_factorAt 16 = .ok (.invokevirtual 23, 3) := by decide +kernel
theorem dX2_factorAt_19 : decode cX2_factorAt 19 = .ok (.isub, 1) := by decide +kernel
theorem dX2_factorAt_20 : decode cX2_factorAt 20 = .ok (.goto 4, 3) := by decide +kernel
theorem dX2_factorAt_23 : decode cX2_factorAt 23 = .ok (.iload_n 3, 1) := by decide +kernel
theorem dX2_factorAt_24 : decode cX2_factorAt 24 = .ok (.ireturn, 1) := by decide +kernel
theorem dX2_isHidden_0 : decode cX2_isHidden 0 = .ok (.aload_n 0, 1) := by decide +kernel
theorem dX2_isHidden_1 : decode cX2_isHidden 1 = .ok (.iload_n 1, 1) := by decide +kernel
theorem dX2_isHidden_2 : decode cX2_isHidden 2 = .ok (.iload_n 2, 1) := by decide +kernel
theorem dX2_isHidden_3 : decode cX2_isHidden 3 = .ok (.imul, 1) := by decide +kernel
theorem dX2_isHidden_4 : decode cX2_isHidden 4 = .ok (.invokevirtual 27, 3) := by decide +kernel
theorem dX2_isHidden_7 : decode cX2_isHidden 7 = .ok (.ifCond .ne 7, 3) := by decide +kernel
theorem dX2_isHidden_10 : decode cX2_isHidden 10 = .ok (.iconst 1, 1) := by decide +kernel
theorem dX2_isHidden_11 : decode cX2_isHidden 11 = .ok (.goto 4, 3) := by decide +kernel
theorem dX2_isHidden_14 : decode cX2_isHidden 14 = .ok (.iconst 0, 1) := by decide +kernel
theorem dX2_isHidden_15 : decode cX2_isHidden 15 = .ok (.ireturn, 1) := by decide +kernel
theorem dX2_hiddenPairsTried_0 : decode cX2_hiddenPairsTried 0 = .ok (.iconst 0, 1) := by decide +kernel
theorem dX2_hiddenPairsTried_1 : decode cX2_hiddenPairsTried 1 = .ok (.istore_n 2, 1) := by decide +kernel
theorem dX2_hiddenPairsTried_2 : decode cX2_hiddenPairsTried 2 = .ok (.iconst 0, 1) := by decide +kernel
theorem dX2_hiddenPairsTried_3 : decode cX2_hiddenPairsTried 3 = .ok (.istore_n 3, 1) := by decide +kernel
theorem dX2_hiddenPairsTried_4 : decode cX2_hiddenPairsTried 4 = .ok (.iload_n 3, 1) := by decide +kernel
theorem dX2_hiddenPairsTried_5 : decode cX2_hiddenPairsTried 5 = .ok (.bipush 9, 2) := by decide +kernel
theorem dX2_hiddenPairsTried_7 : decode cX2_hiddenPairsTried 7 = .ok (.if_icmp .gt 48, 3) := by decide +kernel
theorem dX2_hiddenPairsTried_10 : decode cX2_hiddenPairsTried 10 = .ok (.iload_n 3, 1) := by decide +kernel
theorem dX2_hiddenPairsTried_11 : decode cX2_hiddenPairsTried 11 = .ok (.iconst 1, 1) := by decide +kernel
theorem dX2_hiddenPairsTried_12 : decode cX2_hiddenPairsTried 12 = .ok (.iadd, 1) := by decide +kernel
theorem dX2_hiddenPairsTried_13 : decode cX2_hiddenPairsTried 13 = .ok (.istore 4, 2) := by decide +kernel
theorem dX2_hiddenPairsTried_15 : decode cX2_hiddenPairsTried 15 = .ok (.iload 4, 2) := by decide +kernel
theorem dX2_hiddenPairsTried_17 : decode cX2_hiddenPairsTried 17 = .ok (.bipush 9, 2) := by decide +kernel
theorem dX2_hiddenPairsTried_19 : decode cX2_hiddenPairsTried 19 = .ok (.if_icmp .gt 30, 3) := by decide +kernel
theorem dX2_hiddenPairsTried_22 : decode cX2_hiddenPairsTried 22 = .ok (.aload_n 0, 1) := by decide +kernel
theorem dX2_hiddenPairsTried_23 : decode cX2_hiddenPairsTried 23 = .ok (.iload_n 1, 1) := by decide +kernel
theorem dX2_hiddenPairsTried_24 : decode cX2_hiddenPairsTried 24 = .ok (.iload_n 3, 1) := by decide +kernel
theorem dX2_hiddenPairsTried_25 : decode cX2_hiddenPairsTried 25 = .ok (.imul, 1) := by decide +kernel
theorem dX2_hiddenPairsTried_26 : decode cX2_hiddenPairsTried 26 = .ok (.invokevirtual 27, 3) := by decide +kernel
theorem dX2_hiddenPairsTried_29 : decode cX2_hiddenPairsTried 29 = .ok (.aload_n 0, 1) := by decide +kernel
theorem dX2_hiddenPairsTried_30 : decode cX2_hiddenPairsTried 30 = .ok (.iload_n 1, 1) := by decide +kernel
theorem dX2_hiddenPairsTried_31 : decode cX2_hiddenPairsTried 31 = .ok (.iload 4, 2) := by decide +kernel
theorem dX2_hiddenPairsTried_33 : decode cX2_hiddenPairsTried 33 = .ok (.imul, 1) := by decide +kernel
theorem dX2_hiddenPairsTried_34 : decode cX2_hiddenPairsTried 34 = .ok (.invokevirtual 27, 3) := by decide +kernel
theorem dX2_hiddenPairsTried_37 : decode cX2_hiddenPairsTried 37 = .ok (.if_icmp .ne 6, 3) := by decide +kernel
theorem dX2_hiddenPairsTried_40 : decode cX2_hiddenPairsTried 40 = .ok (.iinc 2 1, 3) := by decide +kernel
theorem dX2_hiddenPairsTried_43 : decode cX2_hiddenPairsTried 43 = .ok (.iinc 4 1, 3) := by decide +kernel
theorem dX2_hiddenPairsTried_46 : decode cX2_hiddenPairsTried 46 = .ok (.goto (-31), 3) := by decide +kernel
theorem dX2_hiddenPairsTried_49 : decode cX2_hiddenPairsTried 49 = .ok (.iinc 3 1, 3) := by decide +kernel
theorem dX2_hiddenPairsTried_52 : decode cX2_hiddenPairsTried 52 = .ok (.goto (-48), 3) := by decide +kernel
theorem dX2_hiddenPairsTried_55 : decode cX2_hiddenPairsTried 55 = .ok (.iload_n 2, 1) := by decide +kernel
theorem dX2_hiddenPairsTried_56 : decode cX2_hiddenPairsTried 56 = .ok (.ireturn, 1) := by decide +kernel
theorem dX2_hiddenPairs_0 : decode cX2_hiddenPairs 0 = .ok (.iconst 0, 1) := by decide +kernel
theorem dX2_hiddenPairs_1 : decode cX2_hiddenPairs 1 = .ok (.istore_n 2, 1) := by decide +kernel
theorem dX2_hiddenPairs_2 : decode cX2_hiddenPairs 2 = .ok (.iconst 1, 1) := by decide +kernel
theorem dX2_hiddenPairs_3 : decode cX2_hiddenPairs 3 = .ok (.istore_n 3, 1) := by decide +kernel
theorem dX2_hiddenPairs_4 : decode cX2_hiddenPairs 4 = .ok (.iload_n 3, 1) := by decide +kernel
theorem dX2_hiddenPairs_5 : decode cX2_hiddenPairs 5 = .ok (.bipush 9, 2) := by decide +kernel
theorem dX2_hiddenPairs_7 : decode cX2_hiddenPairs 7 = .ok (.if_icmp .gt 25, 3) := by decide +kernel
theorem dX2_hiddenPairs_10 : decode cX2_hiddenPairs 10 = .ok (.aload_n 0, 1) := by decide +kernel
theorem dX2_hiddenPairs_11 : decode cX2_hiddenPairs 11 = .ok (.iload_n 1, 1) := by decide +kernel
theorem dX2_hiddenPairs_12 : decode cX2_hiddenPairs 12 = .ok (.iload_n 3, 1) := by decide +kernel
theorem dX2_hiddenPairs_13 : decode cX2_hiddenPairs 13 = .ok (.invokevirtual 30, 3) := by decide +kernel
theorem dX2_hiddenPairs_16 : decode cX2_hiddenPairs 16 = .ok (.ifCond .eq 10, 3) := by decide +kernel
theorem dX2_hiddenPairs_19 : decode cX2_hiddenPairs 19 = .ok (.iload_n 2, 1) := by decide +kernel
theorem dX2_hiddenPairs_20 : decode cX2_hiddenPairs 20 = .ok (.bipush 10, 2) := by decide +kernel
theorem dX2_hiddenPairs_22 : decode cX2_hiddenPairs 22 = .ok (.iload_n 3, 1) := by decide +kernel
theorem dX2_hiddenPairs_23 : decode cX2_hiddenPairs 23 = .ok (.isub, 1) := by decide +kernel
theorem dX2_hiddenPairs_24 : decode cX2_hiddenPairs 24 = .ok (.iadd, 1) := by decide +kernel
theorem dX2_hiddenPairs_25 : decode cX2_hiddenPairs 25 = .ok (.istore_n 2, 1) := by decide +kernel
theorem dX2_hiddenPairs_26 : decode cX2_hiddenPairs 26 = .ok (.iinc 3 1, 3) := by decide +kernel
theorem dX2_hiddenPairs_29 : decode cX2_hiddenPairs 29 = .ok (.goto (-25), 3) := by decide +kernel
theorem dX2_hiddenPairs_32 : decode cX2_hiddenPairs 32 = .ok (.iload_n 2, 1) := by decide +kernel
theorem dX2_hiddenPairs_33 : decode cX2_hiddenPairs 33 = .ok (.ireturn, 1) := by decide +kernel
theorem dX2_hiddenPairsWith_0 : decode cX2_hiddenPairsWith 0 = .ok (.iconst 0, 1) := by decide +kernel
theorem dX2_hiddenPairsWith_1 : decode cX2_hiddenPairsWith 1 = .ok (.istore_n 3, 1) := by decide +kernel
theorem dX2_hiddenPairsWith_2 : decode cX2_hiddenPairsWith 2 = .ok (.iconst 0, 1) := by decide +kernel
theorem dX2_hiddenPairsWith_3 : decode cX2_hiddenPairsWith 3 = .ok (.istore 4, 2) := by decide +kernel
theorem dX2_hiddenPairsWith_5 : decode cX2_hiddenPairsWith 5 = .ok (.iload 4, 2) := by decide +kernel
theorem dX2_hiddenPairsWith_7 : decode cX2_hiddenPairsWith 7 = .ok (.bipush 6, 2) := by decide +kernel
theorem dX2_hiddenPairsWith_9 : decode cX2_hiddenPairsWith 9 = .ok (.if_icmp .ge 79, 3) := by decide +kernel
theorem dX2_hiddenPairsWith_12 : decode cX2_hiddenPairsWith 12 = .ok (.iload 4, 2) := by decide +kernel
theorem dX2_hiddenPairsWith_14 : decode cX2_hiddenPairsWith 14 = .ok (.iload_n 1, 1) := by decide +kernel
theorem dX2_hiddenPairsWith_15 : decode cX2_hiddenPairsWith 15 = .ok (.if_icmp .ne 7, 3) := by decide +kernel
theorem dX2_hiddenPairsWith_18 : decode cX2_hiddenPairsWith 18 = .ok (.iload_n 2, 1) := by decide +kernel
theorem dX2_hiddenPairsWith_19 : decode cX2_hiddenPairsWith 19 = .ok (.goto 9, 3) := by decide +kernel
theorem dX2_hiddenPairsWith_22 : decode cX2_hiddenPairsWith 22 = .ok (.aload_n 0, 1) := by decide +kernel
theorem dX2_hiddenPairsWith_23 : decode cX2_hiddenPairsWith 23 = .ok (.iload 4, 2) := by decide +kernel
theorem dX2_hiddenPairsWith_25 : decode cX2_hiddenPairsWith 25 = .ok (.invokevirtual 23, 3) := by decide +kernel
theorem dX2_hiddenPairsWith_28 : decode cX2_hiddenPairsWith 28 = .ok (.istore 5, 2) := by decide +kernel
theorem dX2_hiddenPairsWith_30 : decode cX2_hiddenPairsWith 30 = .ok (.iload_n 3, 1) := by decide +kernel
theorem dX2_hiddenPairsWith_31 : decode cX2_hiddenPairsWith 31 = .ok (.aload_n 0, 1) := by decide +kernel
theorem dX2_hiddenPairsWith_32 : decode cX2_hiddenPairsWith 32 = .ok (.iload 5, 2) := by decide +kernel
theorem dX2_hiddenPairsWith_34 : decode cX2_hiddenPairsWith 34 = .ok (.invokevirtual 34, 3) := by decide +kernel
theorem dX2_hiddenPairsWith_37 : decode cX2_hiddenPairsWith 37 = .ok (.iadd, 1) := by decide +kernel
theorem dX2_hiddenPairsWith_38 : decode cX2_hiddenPairsWith 38 = .ok (.istore_n 3, 1) := by decide +kernel
theorem dX2_hiddenPairsWith_39 : decode cX2_hiddenPairsWith 39 = .ok (.iload 4, 2) := by decide +kernel
theorem dX2_hiddenPairsWith_41 : decode cX2_hiddenPairsWith 41 = .ok (.iconst 1, 1) := by decide +kernel
theorem dX2_hiddenPairsWith_42 : decode cX2_hiddenPairsWith 42 = .ok (.iadd, 1) := by decide +kernel
theorem dX2_hiddenPairsWith_43 : decode cX2_hiddenPairsWith 43 = .ok (.bipush 6, 2) := by decide +kernel
theorem dX2_hiddenPairsWith_45 : decode cX2_hiddenPairsWith 45 = .ok (.if_icmp .ge 37, 3) := by decide +kernel
theorem dX2_hiddenPairsWith_48 : decode cX2_hiddenPairsWith 48 = .ok (.iload 4, 2) := by decide +kernel
theorem dX2_hiddenPairsWith_50 : decode cX2_hiddenPairsWith 50 = .ok (.iconst 1, 1) := by decide +kernel
theorem dX2_hiddenPairsWith_51 : decode cX2_hiddenPairsWith 51 = .ok (.iadd, 1) := by decide +kernel
theorem dX2_hiddenPairsWith_52 : decode cX2_hiddenPairsWith 52 = .ok (.iload_n 1, 1) := by decide +kernel
theorem dX2_hiddenPairsWith_53 : decode cX2_hiddenPairsWith 53 = .ok (.if_icmp .ne 7, 3) := by decide +kernel
theorem dX2_hiddenPairsWith_56 : decode cX2_hiddenPairsWith 56 = .ok (.iload_n 2, 1) := by decide +kernel
theorem dX2_hiddenPairsWith_57 : decode cX2_hiddenPairsWith 57 = .ok (.goto 11, 3) := by decide +kernel
theorem dX2_hiddenPairsWith_60 : decode cX2_hiddenPairsWith 60 = .ok (.aload_n 0, 1) := by decide +kernel
theorem dX2_hiddenPairsWith_61 : decode cX2_hiddenPairsWith 61 = .ok (.iload 4, 2) := by decide +kernel
theorem dX2_hiddenPairsWith_63 : decode cX2_hiddenPairsWith 63 = .ok (.iconst 1, 1) := by decide +kernel
theorem dX2_hiddenPairsWith_64 : decode cX2_hiddenPairsWith 64 = .ok (.iadd, 1) := by decide +kernel
theorem dX2_hiddenPairsWith_65 : decode cX2_hiddenPairsWith 65 = .ok (.invokevirtual 23, 3) := by decide +kernel
theorem dX2_hiddenPairsWith_68 : decode cX2_hiddenPairsWith 68 = .ok (.istore 6, 2) := by decide +kernel
theorem dX2_hiddenPairsWith_70 : decode cX2_hiddenPairsWith 70 = .ok (.iload_n 3, 1) := by decide +kernel
theorem dX2_hiddenPairsWith_71 : decode cX2_hiddenPairsWith 71 = .ok (.aload_n 0, 1) := by decide +kernel
theorem dX2_hiddenPairsWith_72 : decode cX2_hiddenPairsWith 72 = .ok (.iload 5, 2) := by decide +kernel
theorem dX2_hiddenPairsWith_74 : decode cX2_hiddenPairsWith 74 = .ok (.iload 6, 2) := by decide +kernel
theorem dX2_hiddenPairsWith_76 : decode cX2_hiddenPairsWith 76 = .ok (.isub, 1) := by decide +kernel
theorem dX2_hiddenPairsWith_77 : decode cX2_hiddenPairsWith 77 = .ok (.invokevirtual 34, 3) := by decide +kernel
theorem dX2_hiddenPairsWith_80 : decode cX2_hiddenPairsWith 80 = .ok (.iadd, 1) := by decide +kernel
theorem dX2_hiddenPairsWith_81 : decode cX2_hiddenPairsWith 81 = .ok (.istore_n 3, 1) := by decide +kernel
theorem dX2_hiddenPairsWith_82 : decode cX2_hiddenPairsWith 82 = .ok (.iinc 4 1, 3) := by decide +kernel
theorem dX2_hiddenPairsWith_85 : decode cX2_hiddenPairsWith 85 = .ok (.goto (-80), 3) := by decide +kernel
theorem dX2_hiddenPairsWith_88 : decode cX2_hiddenPairsWith 88 = .ok (.iload_n 3, 1) := by decide +kernel
theorem dX2_hiddenPairsWith_89 : decode cX2_hiddenPairsWith 89 = .ok (.ireturn, 1) := by decide +kernel
theorem dX2_hidesNothing_0 : decode cX2_hidesNothing 0 = .ok (.iconst 0, 1) := by decide +kernel
theorem dX2_hidesNothing_1 : decode cX2_hidesNothing 1 = .ok (.istore_n 2, 1) := by decide +kernel
theorem dX2_hidesNothing_2 : decode cX2_hidesNothing 2 = .ok (.iload_n 2, 1) := by decide +kernel
theorem dX2_hidesNothing_3 : decode cX2_hidesNothing 3 = .ok (.iload_n 1, 1) := by decide +kernel
theorem dX2_hidesNothing_4 : decode cX2_hidesNothing 4 = .ok (.invokestatic 37, 3) := by decide +kernel
theorem dX2_hidesNothing_7 : decode cX2_hidesNothing 7 = .ok (.if_icmp .ge 24, 3) := by decide +kernel
theorem dX2_hidesNothing_10 : decode cX2_hidesNothing 10 = .ok (.aload_n 0, 1) := by decide +kernel
theorem dX2_hidesNothing_11 : decode cX2_hidesNothing 11 = .ok (.aload_n 0, 1) := by decide +kernel
theorem dX2_hidesNothing_12 : decode cX2_hidesNothing 12 = .ok (.iload_n 2, 1) := by decide +kernel
theorem dX2_hidesNothing_13 : decode cX2_hidesNothing 13 = .ok (.iload_n 1, 1) := by decide +kernel
theorem dX2_hidesNothing_14 : decode cX2_hidesNothing 14 = .ok (.invokevirtual 40, 3) := by decide +kernel
theorem dX2_hidesNothing_17 : decode cX2_hidesNothing 17 = .ok (.invokevirtual 34, 3) := by decide +kernel
theorem dX2_hidesNothing_20 : decode cX2_hidesNothing 20 = .ok (.ifCond .le 5, 3) := by decide +kernel
theorem dX2_hidesNothing_23 : decode cX2_hidesNothing 23 = .ok (.iconst 0, 1) := by decide +kernel
theorem dX2_hidesNothing_24 : decode cX2_hidesNothing 24 = .ok (.ireturn, 1) := by decide +kernel
theorem dX2_hidesNothing_25 : decode cX2_hidesNothing 25 = .ok (.iinc 2 1, 3) := by decide +kernel
theorem dX2_hidesNothing_28 : decode cX2_hidesNothing 28 = .ok (.goto (-26), 3) := by decide +kernel
theorem dX2_hidesNothing_31 : decode cX2_hidesNothing 31 = .ok (.iconst 1, 1) := by decide +kernel
theorem dX2_hidesNothing_32 : decode cX2_hidesNothing 32 = .ok (.ireturn, 1) := by decide +kernel
theorem dX2_hiddenMisreadings_0 : decode cX2_hiddenMisreadings 0 = .ok (.iconst 0, 1) := by decide +kernel
theorem dX2_hiddenMisreadings_1 : decode cX2_hiddenMisreadings 1 = .ok (.istore_n 2, 1) := by decide +kernel
theorem dX2_hiddenMisreadings_2 : decode cX2_hiddenMisreadings 2 = .ok (.iconst 0, 1) := by decide +kernel
theorem dX2_hiddenMisreadings_3 : decode cX2_hiddenMisreadings 3 = .ok (.istore_n 3, 1) := by decide +kernel
theorem dX2_hiddenMisreadings_4 : decode cX2_hiddenMisreadings 4 = .ok (.iload_n 3, 1) := by decide +kernel
theorem dX2_hiddenMisreadings_5 : decode cX2_hiddenMisreadings 5 = .ok (.bipush 6, 2) := by decide +kernel
theorem dX2_hiddenMisreadings_7 : decode cX2_hiddenMisreadings 7 = .ok (.if_icmp .ge 64, 3) := by decide +kernel
theorem dX2_hiddenMisreadings_10 : decode cX2_hiddenMisreadings 10 = .ok (.iload_n 1, 1) := by decide +kernel
theorem dX2_hiddenMisreadings_11 : decode cX2_hiddenMisreadings 11 = .ok (.iload_n 3, 1) := by decide +kernel
theorem dX2_hiddenMisreadings_12 : decode cX2_hiddenMisreadings 12 = .ok (.invokestatic 44, 3) := by decide +kernel
theorem dX2_hiddenMisreadings_15 : decode cX2_hiddenMisreadings 15 = .ok (.istore 4, 2) := by decide +kernel
theorem dX2_hiddenMisreadings_17 : decode cX2_hiddenMisreadings 17 = .ok (.aload_n 0, 1) := by decide +kernel
theorem dX2_hiddenMisreadings_18 : decode cX2_hiddenMisreadings 18 = .ok (.iload_n 3, 1) := by decide +kernel
theorem dX2_hiddenMisreadings_19 : decode cX2_hiddenMisreadings 19 = .ok (.iconst 0, 1) := by decide +kernel
theorem dX2_hiddenMisreadings_20 : decode cX2_hiddenMisreadings 20 = .ok (.invokevirtual 40, 3) := by decide +kernel
theorem dX2_hiddenMisreadings_23 : decode cX2_hiddenMisreadings 23 = .ok (.istore 5, 2) := by decide +kernel
theorem dX2_hiddenMisreadings_25 : decode cX2_hiddenMisreadings 25 = .ok (.iconst 0, 1) := by decide +kernel
theorem dX2_hiddenMisreadings_26 : decode cX2_hiddenMisreadings 26 = .ok (.istore 6, 2) := by decide +kernel
theorem dX2_hiddenMisreadings_28 : decode cX2_hiddenMisreadings 28 = .ok (.iload 6, 2) := by decide +kernel
theorem dX2_hiddenMisreadings_30 : decode cX2_hiddenMisreadings 30 = .ok (.bipush 9, 2) := by decide +kernel
theorem dX2_hiddenMisreadings_32 : decode cX2_hiddenMisreadings 32 = .ok (.if_icmp .gt 33, 3) := by decide +kernel
theorem dX2_hiddenMisreadings_35 : decode cX2_hiddenMisreadings 35 = .ok (.iload 6, 2) := by decide +kernel
theorem dX2_hiddenMisreadings_37 : decode cX2_hiddenMisreadings 37 = .ok (.iload 4, 2) := by decide +kernel
theorem dX2_hiddenMisreadings_39 : decode cX2_hiddenMisreadings 39 = .ok (.if_icmp .eq 20, 3) := by decide +kernel
theorem dX2_hiddenMisreadings_42 : decode cX2_hiddenMisreadings 42 = .ok (.aload_n 0, 1) := by decide +kernel
theorem dX2_hiddenMisreadings_43 : decode cX2_hiddenMisreadings 43 = .ok (.iload 5, 2) := by decide +kernel
theorem dX2_hiddenMisreadings_45 : decode cX2_hiddenMisreadings 45 = .ok (.iload 6, 2) := by decide +kernel
theorem dX2_hiddenMisreadings_47 : decode cX2_hiddenMisreadings 47 = .ok (.iload 4, 2) := by decide +kernel
theorem dX2_hiddenMisreadings_49 : decode cX2_hiddenMisreadings 49 = .ok (.isub, 1) := by decide +kernel
theorem dX2_hiddenMisreadings_50 : decode cX2_hiddenMisreadings 50 = .ok (.invokevirtual 30, 3) := by decide +kernel
theorem dX2_hiddenMisreadings_53 : decode cX2_hiddenMisreadings 53 = .ok (.ifCond .eq 6, 3) := by decide +kernel
theorem dX2_hiddenMisreadings_56 : decode cX2_hiddenMisreadings 56 = .ok (.iinc 2 1, 3) := by decide +kernel
theorem dX2_hiddenMisreadings_59 : decode cX2_hiddenMisreadings 59 = .ok (.iinc 6 1, 3) := by decide +kernel
theorem dX2_hiddenMisreadings_62 : decode cX2_hiddenMisreadings 62 = .ok (.goto (-34), 3) := by decide +kernel
theorem dX2_hiddenMisreadings_65 : decode cX2_hiddenMisreadings 65 = .ok (.iinc 3 1, 3) := by decide +kernel
theorem dX2_hiddenMisreadings_68 : decode cX2_hiddenMisreadings 68 = .ok (.goto (-64), 3) := by decide +kernel
theorem dX2_hiddenMisreadings_71 : decode cX2_hiddenMisreadings 71 = .ok (.iload_n 2, 1) := by decide +kernel
theorem dX2_hiddenMisreadings_72 : decode cX2_hiddenMisreadings 72 = .ok (.ireturn, 1) := by decide +kernel
theorem dX2_hiddenSwaps_0 : decode cX2_hiddenSwaps 0 = .ok (.iconst 0, 1) := by decide +kernel
theorem dX2_hiddenSwaps_1 : decode cX2_hiddenSwaps 1 = .ok (.istore_n 2, 1) := by decide +kernel
theorem dX2_hiddenSwaps_2 : decode cX2_hiddenSwaps 2 = .ok (.iconst 0, 1) := by decide +kernel
theorem dX2_hiddenSwaps_3 : decode cX2_hiddenSwaps 3 = .ok (.istore_n 3, 1) := by decide +kernel
theorem dX2_hiddenSwaps_4 : decode cX2_hiddenSwaps 4 = .ok (.iload_n 3, 1) := by decide +kernel
theorem dX2_hiddenSwaps_5 : decode cX2_hiddenSwaps 5 = .ok (.iconst 1, 1) := by decide +kernel
theorem dX2_hiddenSwaps_6 : decode cX2_hiddenSwaps 6 = .ok (.iadd, 1) := by decide +kernel
theorem dX2_hiddenSwaps_7 : decode cX2_hiddenSwaps 7 = .ok (.bipush 6, 2) := by decide +kernel
theorem dX2_hiddenSwaps_9 : decode cX2_hiddenSwaps 9 = .ok (.if_icmp .ge 51, 3) := by decide +kernel
theorem dX2_hiddenSwaps_12 : decode cX2_hiddenSwaps 12 = .ok (.iload_n 1, 1) := by decide +kernel
theorem dX2_hiddenSwaps_13 : decode cX2_hiddenSwaps 13 = .ok (.iload_n 3, 1) := by decide +kernel
theorem dX2_hiddenSwaps_14 : decode cX2_hiddenSwaps 14 = .ok (.iconst 1, 1) := by decide +kernel
theorem dX2_hiddenSwaps_15 : decode cX2_hiddenSwaps 15 = .ok (.iadd, 1) := by decide +kernel
theorem dX2_hiddenSwaps_16 : decode cX2_hiddenSwaps 16 = .ok (.invokestatic 44, 3) := by decide +kernel
theorem dX2_hiddenSwaps_19 : decode cX2_hiddenSwaps 19 = .ok (.iload_n 1, 1) := by decide +kernel
theorem dX2_hiddenSwaps_20 : decode cX2_hiddenSwaps 20 = .ok (.iload_n 3, 1) := by decide +kernel
theorem dX2_hiddenSwaps_21 : decode cX2_hiddenSwaps 21 = .ok (.invokestatic 44, 3) := by decide +kernel
theorem dX2_hiddenSwaps_24 : decode cX2_hiddenSwaps 24 = .ok (.isub, 1) := by decide +kernel
theorem dX2_hiddenSwaps_25 : decode cX2_hiddenSwaps 25 = .ok (.istore 4, 2) := by decide +kernel
theorem dX2_hiddenSwaps_27 : decode cX2_hiddenSwaps 27 = .ok (.aload_n 0, 1) := by decide +kernel
theorem dX2_hiddenSwaps_28 : decode cX2_hiddenSwaps 28 = .ok (.iload_n 3, 1) := by decide +kernel
theorem dX2_hiddenSwaps_29 : decode cX2_hiddenSwaps 29 = .ok (.iconst 1, 1) := by decide +kernel
theorem dX2_hiddenSwaps_30 : decode cX2_hiddenSwaps 30 = .ok (.invokevirtual 40, 3) := by decide +kernel
theorem dX2_hiddenSwaps_33 : decode cX2_hiddenSwaps 33 = .ok (.istore 5, 2) := by decide +kernel
theorem dX2_hiddenSwaps_35 : decode cX2_hiddenSwaps 35 = .ok (.iload 4, 2) := by decide +kernel
theorem dX2_hiddenSwaps_37 : decode cX2_hiddenSwaps 37 = .ok (.ifCond .eq 17, 3) := by decide +kernel
theorem dX2_hiddenSwaps_40 : decode cX2_hiddenSwaps 40 = .ok (.aload_n 0, 1) := by decide +kernel
theorem dX2_hiddenSwaps_41 : decode cX2_hiddenSwaps 41 = .ok (.iload 5, 2) := by decide +kernel
theorem dX2_hiddenSwaps_43 : decode cX2_hiddenSwaps 43 = .ok (.iload 4, 2) := by decide +kernel
theorem dX2_hiddenSwaps_45 : decode cX2_hiddenSwaps 45 = .ok (.invokevirtual 30, 3) := by decide +kernel
theorem dX2_hiddenSwaps_48 : decode cX2_hiddenSwaps 48 = .ok (.ifCond .eq 6, 3) := by decide +kernel
theorem dX2_hiddenSwaps_51 : decode cX2_hiddenSwaps 51 = .ok (.iinc 2 1, 3) := by decide +kernel
theorem dX2_hiddenSwaps_54 : decode cX2_hiddenSwaps 54 = .ok (.iinc 3 1, 3) := by decide +kernel
theorem dX2_hiddenSwaps_57 : decode cX2_hiddenSwaps 57 = .ok (.goto (-53), 3) := by decide +kernel
theorem dX2_hiddenSwaps_60 : decode cX2_hiddenSwaps 60 = .ok (.iload_n 2, 1) := by decide +kernel
theorem dX2_hiddenSwaps_61 : decode cX2_hiddenSwaps 61 = .ok (.ireturn, 1) := by decide +kernel
theorem dX2_slipKind_0 : decode cX2_slipKind 0 = .ok (.iload_n 3, 1) := by decide +kernel
theorem dX2_slipKind_1 : decode cX2_slipKind 1 = .ok (.aload_n 0, 1) := by decide +kernel
theorem dX2_slipKind_2 : decode cX2_slipKind 2 = .ok (.getfield 15, 3) := by decide +kernel
theorem dX2_slipKind_5 : decode cX2_slipKind 5 = .ok (.if_icmp .lt 5, 3) := by decide +kernel
theorem dX2_slipKind_8 : decode cX2_slipKind 8 = .ok (.iconst (-1), 1) := by decide +kernel
theorem dX2_slipKind_9 : decode cX2_slipKind 9 = .ok (.ireturn, 1) := by decide +kernel
theorem dX2_slipKind_10 : decode cX2_slipKind 10 = .ok (.aload_n 0, 1) := by decide +kernel
theorem dX2_slipKind_11 : decode cX2_slipKind 11 = .ok (.iload_n 1, 1) := by decide +kernel
theorem dX2_slipKind_12 : decode cX2_slipKind 12 = .ok (.invokevirtual 47, 3) := by decide +kernel
theorem dX2_slipKind_15 : decode cX2_slipKind 15 = .ok (.iload_n 3, 1) := by decide +kernel
theorem dX2_slipKind_16 : decode cX2_slipKind 16 = .ok (.if_icmp .ne 7, 3) := by decide +kernel
theorem dX2_slipKind_19 : decode cX2_slipKind 19 = .ok (.iconst 1, 1) := by decide +kernel
theorem dX2_slipKind_20 : decode cX2_slipKind 20 = .ok (.goto 4, 3) := by decide +kernel
theorem dX2_slipKind_23 : decode cX2_slipKind 23 = .ok (.iconst 0, 1) := by decide +kernel
theorem dX2_slipKind_24 : decode cX2_slipKind 24 = .ok (.istore 4, 2) := by decide +kernel
theorem dX2_slipKind_26 : decode cX2_slipKind 26 = .ok (.iload_n 1, 1) := by decide +kernel
theorem dX2_slipKind_27 : decode cX2_slipKind 27 = .ok (.iload_n 2, 1) := by decide +kernel
theorem dX2_slipKind_28 : decode cX2_slipKind 28 = .ok (.if_icmp .ne 14, 3) := by decide +kernel
theorem dX2_slipKind_31 : decode cX2_slipKind 31 = .ok (.iload 4, 2) := by decide +kernel
theorem dX2_slipKind_33 : decode cX2_slipKind 33 = .ok (.ifCond .eq 7, 3) := by decide +kernel
theorem dX2_slipKind_36 : decode cX2_slipKind 36 = .ok (.iconst 3, 1) := by decide +kernel
theorem dX2_slipKind_37 : decode cX2_slipKind 37 = .ok (.goto 4, 3) := by decide +kernel
theorem dX2_slipKind_40 : decode cX2_slipKind 40 = .ok (.iconst 2, 1) := by decide +kernel
theorem dX2_slipKind_41 : decode cX2_slipKind 41 = .ok (.ireturn, 1) := by decide +kernel
theorem dX2_slipKind_42 : decode cX2_slipKind 42 = .ok (.iload 4, 2) := by decide +kernel
theorem dX2_slipKind_44 : decode cX2_slipKind 44 = .ok (.ifCond .eq 11, 3) := by decide +kernel
theorem dX2_slipKind_47 : decode cX2_slipKind 47 = .ok (.iload_n 1, 1) := by decide +kernel
theorem dX2_slipKind_48 : decode cX2_slipKind 48 = .ok (.iload_n 2, 1) := by decide +kernel
theorem dX2_slipKind_49 : decode cX2_slipKind 49 = .ok (.invokestatic 50, 3) := by decide +kernel
theorem dX2_slipKind_52 : decode cX2_slipKind 52 = .ok (.goto 4, 3) := by decide +kernel
theorem dX2_slipKind_55 : decode cX2_slipKind 55 = .ok (.iconst (-1), 1) := by decide +kernel
theorem dX2_slipKind_56 : decode cX2_slipKind 56 = .ok (.ireturn, 1) := by decide +kernel
theorem dX2_digitSlip_0 : decode cX2_digitSlip 0 = .ok (.iconst 0, 1) := by decide +kernel
theorem dX2_digitSlip_1 : decode cX2_digitSlip 1 = .ok (.istore_n 2, 1) := by decide +kernel
theorem dX2_digitSlip_2 : decode cX2_digitSlip 2 = .ok (.iconst 0, 1) := by decide +kernel
theorem dX2_digitSlip_3 : decode cX2_digitSlip 3 = .ok (.istore_n 3, 1) := by decide +kernel
theorem dX2_digitSlip_4 : decode cX2_digitSlip 4 = .ok (.iconst 0, 1) := by decide +kernel
theorem dX2_digitSlip_5 : decode cX2_digitSlip 5 = .ok (.istore 4, 2) := by decide +kernel
theorem dX2_digitSlip_7 : decode cX2_digitSlip 7 = .ok (.iload 4, 2) := by decide +kernel
theorem dX2_digitSlip_9 : decode cX2_digitSlip 9 = .ok (.bipush 6, 2) := by decide +kernel
theorem dX2_digitSlip_11 : decode cX2_digitSlip 11 = .ok (.if_icmp .ge 34, 3) := by decide +kernel
theorem dX2_digitSlip_14 : decode cX2_digitSlip 14 = .ok (.iload_n 0, 1) := by decide +kernel
theorem dX2_digitSlip_15 : decode cX2_digitSlip 15 = .ok (.iload 4, 2) := by decide +kernel
theorem dX2_digitSlip_17 : decode cX2_digitSlip 17 = .ok (.invokestatic 44, 3) := by decide +kernel
theorem dX2_digitSlip_20 : decode cX2_digitSlip 20 = .ok (.iload_n 1, 1) := by decide +kernel
theorem dX2_digitSlip_21 : decode cX2_digitSlip 21 = .ok (.iload 4, 2) := by decide +kernel
theorem dX2_digitSlip_23 : decode cX2_digitSlip 23 = .ok (.invokestatic 44, 3) := by decide +kernel
theorem dX2_digitSlip_26 : decode cX2_digitSlip 26 = .ok (.if_icmp .eq 13, 3) := by decide +kernel
theorem dX2_digitSlip_29 : decode cX2_digitSlip 29 = .ok (.iload_n 2, 1) := by decide +kernel
theorem dX2_digitSlip_30 : decode cX2_digitSlip 30 = .ok (.ifCond .ne 6, 3) := by decide +kernel
theorem dX2_digitSlip_33 : decode cX2_digitSlip 33 = .ok (.iload 4, 2) := by decide +kernel
theorem dX2_digitSlip_35 : decode cX2_digitSlip 35 = .ok (.istore_n 3, 1) := by decide +kernel
theorem dX2_digitSlip_36 : decode cX2_digitSlip 36 = .ok (.iinc 2 1, 3) := by decide +kernel
theorem dX2_digitSlip_39 : decode cX2_digitSlip 39 = .ok (.iinc 4 1, 3) := by decide +kernel
theorem dX2_digitSlip_42 : decode cX2_digitSlip 42 = .ok (.goto (-35), 3) := by decide +kernel
theorem dX2_digitSlip_45 : decode cX2_digitSlip 45 = .ok (.iload_n 2, 1) := by decide +kernel
theorem dX2_digitSlip_46 : decode cX2_digitSlip 46 = .ok (.iconst 1, 1) := by decide +kernel
theorem dX2_digitSlip_47 : decode cX2_digitSlip 47 = .ok (.if_icmp .ne 5, 3) := by decide +kernel
theorem dX2_digitSlip_50 : decode cX2_digitSlip 50 = .ok (.iconst 0, 1) := by decide +kernel
theorem dX2_digitSlip_51 : decode cX2_digitSlip 51 = .ok (.ireturn, 1) := by decide +kernel
theorem dX2_digitSlip_52 : decode cX2_digitSlip 52 = .ok (.iload_n 2, 1) := by decide +kernel
theorem dX2_digitSlip_53 : decode cX2_digitSlip 53 = .ok (.iconst 2, 1) := by decide +kernel
theorem dX2_digitSlip_54 : decode cX2_digitSlip 54 = .ok (.if_icmp .ne 16, 3) := by decide +kernel
theorem dX2_digitSlip_57 : decode cX2_digitSlip 57 = .ok (.iload_n 0, 1) := by decide +kernel
theorem dX2_digitSlip_58 : decode cX2_digitSlip 58 = .ok (.iload_n 1, 1) := by decide +kernel
theorem dX2_digitSlip_59 : decode cX2_digitSlip 59 = .ok (.iload_n 3, 1) := by decide +kernel
theorem dX2_digitSlip_60 : decode cX2_digitSlip 60 = .ok (.invokestatic 53, 3) := by decide +kernel
theorem dX2_digitSlip_63 : decode cX2_digitSlip 63 = .ok (.ifCond .eq 7, 3) := by decide +kernel
theorem dX2_digitSlip_66 : decode cX2_digitSlip 66 = .ok (.iconst 1, 1) := by decide +kernel
theorem dX2_digitSlip_67 : decode cX2_digitSlip 67 = .ok (.goto 4, 3) := by decide +kernel
theorem dX2_digitSlip_70 : decode cX2_digitSlip 70 = .ok (.iconst 0, 1) := by decide +kernel
theorem dX2_digitSlip_71 : decode cX2_digitSlip 71 = .ok (.istore 4, 2) := by decide +kernel
theorem dX2_digitSlip_73 : decode cX2_digitSlip 73 = .ok (.iload 4, 2) := by decide +kernel
theorem dX2_digitSlip_75 : decode cX2_digitSlip 75 = .ok (.ifCond .eq 7, 3) := by decide +kernel
theorem dX2_digitSlip_78 : decode cX2_digitSlip 78 = .ok (.iconst 1, 1) := by decide +kernel
theorem dX2_digitSlip_79 : decode cX2_digitSlip 79 = .ok (.goto 4, 3) := by decide +kernel
theorem dX2_digitSlip_82 : decode cX2_digitSlip 82 = .ok (.iconst (-1), 1) := by decide +kernel
theorem dX2_digitSlip_83 : decode cX2_digitSlip 83 = .ok (.ireturn, 1) := by decide +kernel
theorem dX2_isSwapped_0 : decode cX2_isSwapped 0 = .ok (.iload_n 0, 1) := by decide +kernel
theorem dX2_isSwapped_1 : decode cX2_isSwapped 1 = .ok (.iload_n 2, 1) := by decide +kernel
theorem dX2_isSwapped_2 : decode cX2_isSwapped 2 = .ok (.invokestatic 44, 3) := by decide +kernel
theorem dX2_isSwapped_5 : decode cX2_isSwapped 5 = .ok (.iload_n 1, 1) := by decide +kernel
theorem dX2_isSwapped_6 : decode cX2_isSwapped 6 = .ok (.iload_n 2, 1) := by decide +kernel
theorem dX2_isSwapped_7 : decode cX2_isSwapped 7 = .ok (.iconst 1, 1) := by decide +kernel
theorem dX2_isSwapped_8 : decode cX2_isSwapped 8 = .ok (.iadd, 1) := by decide +kernel
theorem dX2_isSwapped_9 : decode cX2_isSwapped 9 = .ok (.invokestatic 44, 3) := by decide +kernel
theorem dX2_isSwapped_12 : decode cX2_isSwapped 12 = .ok (.if_icmp .ne 22, 3) := by decide +kernel
theorem dX2_isSwapped_15 : decode cX2_isSwapped 15 = .ok (.iload_n 0, 1) := by decide +kernel
theorem dX2_isSwapped_16 : decode cX2_isSwapped 16 = .ok (.iload_n 2, 1) := by decide +kernel
theorem dX2_isSwapped_17 : decode cX2_isSwapped 17 = .ok (.iconst 1, 1) := by decide +kernel
theorem dX2_isSwapped_18 : decode cX2_isSwapped 18 = .ok (.iadd, 1) := by decide +kernel
theorem dX2_isSwapped_19 : decode cX2_isSwapped 19 = .ok (.invokestatic 44, 3) := by decide +kernel
theorem dX2_isSwapped_22 : decode cX2_isSwapped 22 = .ok (.iload_n 1, 1) := by decide +kernel
theorem dX2_isSwapped_23 : decode cX2_isSwapped 23 = .ok (.iload_n 2, 1) := by decide +kernel
theorem dX2_isSwapped_24 : decode cX2_isSwapped 24 = .ok (.invokestatic 44, 3) := by decide +kernel
theorem dX2_isSwapped_27 : decode cX2_isSwapped 27 = .ok (.if_icmp .ne 7, 3) := by decide +kernel
theorem dX2_isSwapped_30 : decode cX2_isSwapped 30 = .ok (.iconst 1, 1) := by decide +kernel
theorem dX2_isSwapped_31 : decode cX2_isSwapped 31 = .ok (.goto 4, 3) := by decide +kernel
theorem dX2_isSwapped_34 : decode cX2_isSwapped 34 = .ok (.iconst 0, 1) := by decide +kernel
theorem dX2_isSwapped_35 : decode cX2_isSwapped 35 = .ok (.ireturn, 1) := by decide +kernel
