theorem dX0_init_0 : decode cX0_init 0 = .ok (.aload_n 0, 1) := by decide +kernel
theorem dX0_init_1 : decode cX0_init 1 = .ok (.invokespecial 3, 3) := by decide +kernel
theorem dX0_init_4 : decode cX0_init 4 = .ok (.aload_n 0, 1) := by decide +kernel
theorem dX0_init_5 : decode cX0_init 5 = .ok (.bipush 6, 2) := by decide +kernel
theorem dX0_init_7 : decode cX0_init 7 = .ok (.newarray .int, 2) := by decide +kernel
theorem dX0_init_9 : decode cX0_init 9 = .ok (.putfield 9, 3) := by decide +kernel
theorem dX0_init_12 : decode cX0_init 12 = .ok (.aload_n 0, 1) := by decide +kernel
theorem dX0_init_13 : decode cX0_init 13 = .ok (.bipush 6, 2) := by decide +kernel
theorem dX0_init_15 : decode cX0_init 15 = .ok (.newarray .int, 2) := by decide +kernel
theorem dX0_init_17 : decode cX0_init 17 = .ok (.putfield 15, 3) := by decide +kernel
theorem dX0_init_20 : decode cX0_init 20 = .ok (.aload_n 0, 1) := by decide +kernel
theorem dX0_init_21 : decode cX0_init 21 = .ok (.sipush 240, 3) := by decide +kernel
theorem dX0_init_24 : decode cX0_init 24 = .ok (.newarray .int, 2) := by decide +kernel
theorem dX0_init_26 : decode cX0_init 26 = .ok (.putfield 18, 3) := by decide +kernel
theorem dX0_init_29 : decode cX0_init 29 = .ok (.aload_n 0, 1) := by decide +kernel
theorem dX0_init_30 : decode cX0_init 30 = .ok (.sipush 240, 3) := by decide +kernel
theorem dX0_init_33 : decode cX0_init 33 = .ok (.newarray .int, 2) := by decide +kernel
theorem dX0_init_35 : decode cX0_init 35 = .ok (.putfield 21, 3) := by decide +kernel
theorem dX0_init_38 : decode cX0_init 38 = .ok (.return_, 1) := by decide +kernel
theorem dX0_copyFrom_0 : decode cX0_copyFrom 0 = .ok (.aload_n 1, 1) := by decide +kernel
theorem dX0_copyFrom_1 : decode cX0_copyFrom 1 = .ok (.getfield 9, 3) := by decide +kernel
theorem dX0_copyFrom_4 : decode cX0_copyFrom 4 = .ok (.aload_n 0, 1) := by decide +kernel
theorem dX0_copyFrom_5 : decode cX0_copyFrom 5 = .ok (.getfield 9, 3) := by decide +kernel
theorem dX0_copyFrom_8 : decode cX0_copyFrom 8 = .ok (.invokestatic 24, 3) := by decide +kernel
theorem dX0_copyFrom_11 : decode cX0_copyFrom 11 = .ok (.aload_n 1, 1) := by decide +kernel
theorem dX0_copyFrom_12 : decode cX0_copyFrom 12 = .ok (.getfield 15, 3) := by decide +kernel
theorem dX0_copyFrom_15 : decode cX0_copyFrom 15 = .ok (.aload_n 0, 1) := by decide +kernel
theorem dX0_copyFrom_16 : decode cX0_copyFrom 16 = .ok (.getfield 15, 3) := by decide +kernel
theorem dX0_copyFrom_19 : decode cX0_copyFrom 19 = .ok (.invokestatic 24, 3) := by decide +kernel
theorem dX0_copyFrom_22 : decode cX0_copyFrom 22 = .ok (.aload_n 1, 1) := by decide +kernel
theorem dX0_copyFrom_23 : decode cX0_copyFrom 23 = .ok (.getfield 18, 3) := by decide +kernel
theorem dX0_copyFrom_26 : decode cX0_copyFrom 26 = .ok (.aload_n 0, 1) := by decide +kernel
theorem dX0_copyFrom_27 : decode cX0_copyFrom 27 = .ok (.getfield 18, 3) := by decide +kernel
theorem dX0_copyFrom_30 : decode cX0_copyFrom 30 = .ok (.invokestatic 24, 3) := by decide +kernel
theorem dX0_copyFrom_33 : decode cX0_copyFrom 33 = .ok (.aload_n 1, 1) := by decide +kernel
theorem dX0_copyFrom_34 : decode cX0_copyFrom 34 = .ok (.getfield 21, 3) := by decide +kernel
theorem dX0_copyFrom_37 : decode cX0_copyFrom 37 = .ok (.aload_n 0, 1) := by decide +kernel
theorem dX0_copyFrom_38 : decode cX0_copyFrom 38 = .ok (.getfield 21, 3) := by decide +kernel
theorem dX0_copyFrom_41 : decode cX0_copyFrom 41 = .ok (.invokestatic 24, 3) := by decide +kernel
theorem dX0_copyFrom_44 : decode cX0_copyFrom 44 = .ok (.aload_n 0, 1) := by decide +kernel
theorem dX0_copyFrom_45 : decode cX0_copyFrom 45 = .ok (.aload_n 1, 1) := by decide +kernel
theorem dX0_copyFrom_46 : decode cX0_copyFrom 46 = .ok (.getfield 28, 3) := by decide +kernel
theorem dX0_copyFrom_49 : decode cX0_copyFrom 49 = .ok (.putfield 28, 3) := by decide +kernel
theorem dX0_copyFrom_52 : decode cX0_copyFrom 52 = .ok (.return_, 1) := by decide +kernel
theorem dX0_firstOf_0 : decode cX0_firstOf 0 = .ok (.iload_n 1, 1) := by decide +kernel
theorem dX0_firstOf_1 : decode cX0_firstOf 1 = .ok (.ifCond .lt 21, 3) := by decide +kernel
theorem dX0_firstOf_4 : decode cX0_firstOf 4 = .ok (.iload_n 1, 1) := by decide +kernel
theorem dX0_firstOf_5 : decode cX0_firstOf 5 = .ok (.aload_n 0, 1) := by decide +kernel
theorem dX0_firstOf_6 : decode cX0_firstOf 6 = .ok (.getfield 9, 3) := by decide +kernel
theorem dX0_firstOf_9 : decode cX0_firstOf 9 = .ok (.arraylength, 1) := by decide +kernel
theorem dX0_firstOf_10 : decode cX0_firstOf 10 = .ok (.if_icmp .ge 12, 3) := by decide +kernel
theorem dX0_firstOf_13 : decode cX0_firstOf 13 = .ok (.aload_n 0, 1) := by decide +kernel
theorem dX0_firstOf_14 : decode cX0_firstOf 14 = .ok (.getfield 9, 3) := by decide +kernel
theorem dX0_firstOf_17 : decode cX0_firstOf 17 = .ok (.iload_n 1, 1) := by decide +kernel
theorem dX0_firstOf_18 : decode cX0_firstOf 18 = .ok (.iaload, 1) := by decide +kernel
theorem dX0_firstOf_19 : decode cX0_firstOf 19 = .ok (.goto 4, 3) := by decide +kernel
theorem dX0_firstOf_22 : decode cX0_firstOf 22 = .ok (.iconst (-1), 1) := by decide +kernel
theorem dX0_firstOf_23 : decode cX0_firstOf 23 = .ok (.ireturn, 1) := by decide +kernel
theorem dX0_sizeOf_0 : decode cX0_sizeOf 0 = .ok (.iload_n 1, 1) := by decide +kernel
theorem dX0_sizeOf_1 : decode cX0_sizeOf 1 = .ok (.ifCond .lt 21, 3) := by decide +kernel
theorem dX0_sizeOf_4 : decode cX0_sizeOf 4 = .ok (.iload_n 1, 1) := by decide +kernel
theorem dX0_sizeOf_5 : decode cX0_sizeOf 5 = .ok (.aload_n 0, 1) := by decide +kernel
theorem dX0_sizeOf_6 : decode cX0_sizeOf 6 = .ok (.getfield 15, 3) := by decide +kernel
theorem dX0_sizeOf_9 : decode cX0_sizeOf 9 = .ok (.arraylength, 1) := by decide +kernel
theorem dX0_sizeOf_10 : decode cX0_sizeOf 10 = .ok (.if_icmp .ge 12, 3) := by decide +kernel
theorem dX0_sizeOf_13 : decode cX0_sizeOf 13 = .ok (.aload_n 0, 1) := by decide +kernel
theorem dX0_sizeOf_14 : decode cX0_sizeOf 14 = .ok (.getfield 15, 3) := by decide +kernel
theorem dX0_sizeOf_17 : decode cX0_sizeOf 17 = .ok (.iload_n 1, 1) := by decide +kernel
theorem dX0_sizeOf_18 : decode cX0_sizeOf 18 = .ok (.iaload, 1) := by decide +kernel
theorem dX0_sizeOf_19 : decode cX0_sizeOf 19 = .ok (.goto 4, 3) := by decide +kernel
theorem dX0_sizeOf_22 : decode cX0_sizeOf 22 = .ok (.iconst 0, 1) := by decide +kernel
theorem dX0_sizeOf_23 : decode cX0_sizeOf 23 = .ok (.ireturn, 1) := by decide +kernel
theorem dX0_canTake_0 : decode cX0_canTake 0 = .ok (.aload_n 0, 1) := by decide +kernel
theorem dX0_canTake_1 : decode cX0_canTake 1 = .ok (.getfield 28, 3) := by decide +kernel
theorem dX0_canTake_4 : decode cX0_canTake 4 = .ok (.bipush 6, 2) := by decide +kernel
theorem dX0_canTake_6 : decode cX0_canTake 6 = .ok (.if_icmp .lt 5, 3) := by decide +kernel
theorem dX0_canTake_9 : decode cX0_canTake 9 = .ok (.iconst 0, 1) := by decide +kernel
theorem dX0_canTake_10 : decode cX0_canTake 10 = .ok (.ireturn, 1) := by decide +kernel
theorem dX0_canTake_11 : decode cX0_canTake 11 = .ok (.iconst 0, 1) := by decide +kernel
theorem dX0_canTake_12 : decode cX0_canTake 12 = .ok (.istore_n 3, 1) := by decide +kernel
theorem dX0_canTake_13 : decode cX0_canTake 13 = .ok (.iload_n 3, 1) := by decide +kernel
theorem dX0_canTake_14 : decode cX0_canTake 14 = .ok (.aload_n 0, 1) := by decide +kernel
theorem dX0_canTake_15 : decode cX0_canTake 15 = .ok (.getfield 28, 3) := by decide +kernel
theorem dX0_canTake_18 : decode cX0_canTake 18 = .ok (.if_icmp .ge 38, 3) := by decide +kernel
theorem dX0_canTake_21 : decode cX0_canTake 21 = .ok (.aload_n 0, 1) := by decide +kernel
theorem dX0_canTake_22 : decode cX0_canTake 22 = .ok (.iload_n 3, 1) := by decide +kernel
theorem dX0_canTake_23 : decode cX0_canTake 23 = .ok (.invokevirtual 32, 3) := by decide +kernel
theorem dX0_canTake_26 : decode cX0_canTake 26 = .ok (.istore 4, 2) := by decide +kernel
theorem dX0_canTake_28 : decode cX0_canTake 28 = .ok (.iload_n 1, 1) := by decide +kernel
theorem dX0_canTake_29 : decode cX0_canTake 29 = .ok (.iload 4, 2) := by decide +kernel
theorem dX0_canTake_31 : decode cX0_canTake 31 = .ok (.aload_n 0, 1) := by decide +kernel
theorem dX0_canTake_32 : decode cX0_canTake 32 = .ok (.iload_n 3, 1) := by decide +kernel
theorem dX0_canTake_33 : decode cX0_canTake 33 = .ok (.invokevirtual 36, 3) := by decide +kernel
theorem dX0_canTake_36 : decode cX0_canTake 36 = .ok (.iadd, 1) := by decide +kernel
theorem dX0_canTake_37 : decode cX0_canTake 37 = .ok (.if_icmp .ge 13, 3) := by decide +kernel
theorem dX0_canTake_40 : decode cX0_canTake 40 = .ok (.iload 4, 2) := by decide +kernel
theorem dX0_canTake_42 : decode cX0_canTake 42 = .ok (.iload_n 1, 1) := by decide +kernel
theorem dX0_canTake_43 : decode cX0_canTake 43 = .ok (.iload_n 2, 1) := by decide +kernel
theorem dX0_canTake_44 : decode cX0_canTake 44 = .ok (.iadd, 1) := by decide +kernel
theorem dX0_canTake_45 : decode cX0_canTake 45 = .ok (.if_icmp .ge 5, 3) := by decide +kernel
theorem dX0_canTake_48 : decode cX0_canTake 48 = .ok (.iconst 0, 1) := by decide +kernel
theorem dX0_canTake_49 : decode cX0_canTake 49 = .ok (.ireturn, 1) := by decide +kernel
theorem dX0_canTake_50 : decode cX0_canTake 50 = .ok (.iinc 3 1, 3) := by decide +kernel
theorem dX0_canTake_53 : decode cX0_canTake 53 = .ok (.goto (-40), 3) := by decide +kernel
theorem dX0_canTake_56 : decode cX0_canTake 56 = .ok (.iconst 1, 1) := by decide +kernel
theorem dX0_canTake_57 : decode cX0_canTake 57 = .ok (.ireturn, 1) := by decide +kernel
theorem dX0_add_0 : decode cX0_add 0 = .ok (.aload_n 0, 1) := by decide +kernel
theorem dX0_add_1 : decode cX0_add 1 = .ok (.getfield 28, 3) := by decide +kernel
theorem dX0_add_4 : decode cX0_add 4 = .ok (.istore_n 3, 1) := by decide +kernel
theorem dX0_add_5 : decode cX0_add 5 = .ok (.iload_n 3, 1) := by decide +kernel
theorem dX0_add_6 : decode cX0_add 6 = .ok (.ifCond .lt 21, 3) := by decide +kernel
theorem dX0_add_9 : decode cX0_add 9 = .ok (.iload_n 3, 1) := by decide +kernel
theorem dX0_add_10 : decode cX0_add 10 = .ok (.aload_n 0, 1) := by decide +kernel
theorem dX0_add_11 : decode cX0_add 11 = .ok (.getfield 9, 3) := by decide +kernel
theorem dX0_add_14 : decode cX0_add 14 = .ok (.arraylength, 1) := by decide +kernel
theorem dX0_add_15 : decode cX0_add 15 = .ok (.if_icmp .ge 12, 3) := by decide +kernel
theorem dX0_add_18 : decode cX0_add 18 = .ok (.iload_n 3, 1) := by decide +kernel
theorem dX0_add_19 : decode cX0_add 19 = .ok (.aload_n 0, 1) := by decide +kernel
theorem dX0_add_20 : decode cX0_add 20 = .ok (.getfield 15, 3) := by decide +kernel
theorem dX0_add_23 : decode cX0_add 23 = .ok (.arraylength, 1) := by decide +kernel
theorem dX0_add_24 : decode cX0_add 24 = .ok (.if_icmp .lt 5, 3) := by decide +kernel
theorem dX0_add_27 : decode cX0_add 27 = .ok (.iconst (-1), 1) := by decide +kernel
theorem dX0_add_28 : decode cX0_add 28 = .ok (.ireturn, 1) := by decide +kernel
theorem dX0_add_29 : decode cX0_add 29 = .ok (.aload_n 0, 1) := by decide +kernel
theorem dX0_add_30 : decode cX0_add 30 = .ok (.getfield 9, 3) := by decide +kernel
theorem dX0_add_33 : decode cX0_add 33 = .ok (.iload_n 3, 1) := by decide +kernel
theorem dX0_add_34 : decode cX0_add 34 = .ok (.iload_n 1, 1) := by decide +kernel
theorem dX0_add_35 : decode cX0_add 35 = .ok (.iastore, 1) := by decide +kernel
theorem dX0_add_36 : decode cX0_add 36 = .ok (.aload_n 0, 1) := by decide +kernel
theorem dX0_add_37 : decode cX0_add 37 = .ok (.getfield 15, 3) := by decide +kernel
theorem dX0_add_40 : decode cX0_add 40 = .ok (.iload_n 3, 1) := by decide +kernel
theorem dX0_add_41 : decode cX0_add 41 = .ok (.iload_n 2, 1) := by decide +kernel
theorem dX0_add_42 : decode cX0_add 42 = .ok (.iastore, 1) := by decide +kernel
theorem dX0_add_43 : decode cX0_add 43 = .ok (.iconst 0, 1) := by decide +kernel
theorem dX0_add_44 : decode cX0_add 44 = .ok (.istore 4, 2) := by decide +kernel
theorem dX0_add_46 : decode cX0_add 46 = .ok (.iload 4, 2) := by decide +kernel
theorem dX0_add_48 : decode cX0_add 48 = .ok (.iload_n 2, 1) := by decide +kernel
theorem dX0_add_49 : decode cX0_add 49 = .ok (.if_icmp .ge 22, 3) := by decide +kernel
theorem dX0_add_52 : decode cX0_add 52 = .ok (.aload_n 0, 1) := by decide +kernel
theorem dX0_add_53 : decode cX0_add 53 = .ok (.iload_n 3, 1) := by decide +kernel
theorem dX0_add_54 : decode cX0_add 54 = .ok (.bipush 40, 2) := by decide +kernel
theorem dX0_add_56 : decode cX0_add 56 = .ok (.imul, 1) := by decide +kernel
theorem dX0_add_57 : decode cX0_add 57 = .ok (.iload 4, 2) := by decide +kernel
theorem dX0_add_59 : decode cX0_add 59 = .ok (.iadd, 1) := by decide +kernel
theorem dX0_add_60 : decode cX0_add 60 = .ok (.iconst 0, 1) := by decide +kernel
theorem dX0_add_61 : decode cX0_add 61 = .ok (.iconst 0, 1) := by decide +kernel
theorem dX0_add_62 : decode cX0_add 62 = .ok (.invokevirtual 39, 3) := by decide +kernel
theorem dX0_add_65 : decode cX0_add 65 = .ok (.iinc 4 1, 3) := by decide +kernel
theorem dX0_add_68 : decode cX0_add 68 = .ok (.goto (-22), 3) := by decide +kernel
theorem dX0_add_71 : decode cX0_add 71 = .ok (.aload_n 0, 1) := by decide +kernel
theorem dX0_add_72 : decode cX0_add 72 = .ok (.iload_n 3, 1) := by decide +kernel
theorem dX0_add_73 : decode cX0_add 73 = .ok (.iconst 1, 1) := by decide +kernel
theorem dX0_add_74 : decode cX0_add 74 = .ok (.iadd, 1) := by decide +kernel
theorem dX0_add_75 : decode cX0_add 75 = .ok (.putfield 28, 3) := by decide +kernel
theorem dX0_add_78 : decode cX0_add 78 = .ok (.iload_n 3, 1) := by decide +kernel
theorem dX0_add_79 : decode cX0_add 79 = .ok (.ireturn, 1) := by decide +kernel
theorem dX0_cellOf_0 : decode cX0_cellOf 0 = .ok (.iconst 0, 1) := by decide +kernel
theorem dX0_cellOf_1 : decode cX0_cellOf 1 = .ok (.istore_n 2, 1) := by decide +kernel
theorem dX0_cellOf_2 : decode cX0_cellOf 2 = .ok (.iload_n 2, 1) := by decide +kernel
theorem dX0_cellOf_3 : decode cX0_cellOf 3 = .ok (.aload_n 0, 1) := by decide +kernel
theorem dX0_cellOf_4 : decode cX0_cellOf 4 = .ok (.getfield 28, 3) := by decide +kernel
theorem dX0_cellOf_7 : decode cX0_cellOf 7 = .ok (.if_icmp .ge 40, 3) := by decide +kernel
theorem dX0_cellOf_10 : decode cX0_cellOf 10 = .ok (.aload_n 0, 1) := by decide +kernel
theorem dX0_cellOf_11 : decode cX0_cellOf 11 = .ok (.iload_n 2, 1) := by decide +kernel
theorem dX0_cellOf_12 : decode cX0_cellOf 12 = .ok (.invokevirtual 32, 3) := by decide +kernel
theorem dX0_cellOf_15 : decode cX0_cellOf 15 = .ok (.istore_n 3, 1) := by decide +kernel
theorem dX0_cellOf_16 : decode cX0_cellOf 16 = .ok (.iload_n 1, 1) := by decide +kernel
theorem dX0_cellOf_17 : decode cX0_cellOf 17 = .ok (.iload_n 3, 1) := by decide +kernel
theorem dX0_cellOf_18 : decode cX0_cellOf 18 = .ok (.if_icmp .lt 23, 3) := by decide +kernel
theorem dX0_cellOf_21 : decode cX0_cellOf 21 = .ok (.iload_n 1, 1) := by decide +kernel
theorem dX0_cellOf_22 : decode cX0_cellOf 22 = .ok (.iload_n 3, 1) := by decide +kernel
theorem dX0_cellOf_23 : decode cX0_cellOf 23 = .ok (.aload_n 0, 1) := by decide +kernel
theorem dX0_cellOf_24 : decode cX0_cellOf 24 = .ok (.iload_n 2, 1) := by decide +kernel
theorem dX0_cellOf_25 : decode cX0_cellOf 25 = .ok (.invokevirtual 36, 3) := by decide +kernel
theorem dX0_cellOf_28 : decode cX0_cellOf 28 = .ok (.iadd, 1) := by decide +kernel
theorem dX0_cellOf_29 : decode cX0_cellOf 29 = .ok (.if_icmp .ge 12, 3) := by decide +kernel
theorem dX0_cellOf_32 : decode cX0_cellOf 32 = .ok (.iload_n 2, 1) := by decide +kernel
theorem dX0_cellOf_33 : decode cX0_cellOf 33 = .ok (.bipush 40, 2) := by decide +kernel
theorem dX0_cellOf_35 : decode cX0_cellOf 35 = .ok (.imul, 1) := by decide +kernel
theorem dX0_cellOf_36 : decode cX0_cellOf 36 = .ok (.iload_n 1, 1) := by decide +kernel
theorem dX0_cellOf_37 : decode cX0_cellOf 37 = .ok (.iadd, 1) := by decide +kernel
theorem dX0_cellOf_38 : decode cX0_cellOf 38 = .ok (.iload_n 3, 1) := by decide +kernel
theorem dX0_cellOf_39 : decode cX0_cellOf 39 = .ok (.isub, 1) := by decide +kernel
theorem dX0_cellOf_40 : decode cX0_cellOf 40 = .ok (.ireturn, 1) := by decide +kernel
theorem dX0_cellOf_41 : decode cX0_cellOf 41 = .ok (.iinc 2 1, 3) := by decide +kernel
theorem dX0_cellOf_44 : decode cX0_cellOf 44 = .ok (.goto (-42), 3) := by decide +kernel
theorem dX0_cellOf_47 : decode cX0_cellOf 47 = .ok (.iconst (-1), 1) := by decide +kernel
theorem dX0_cellOf_48 : decode cX0_cellOf 48 = .ok (.ireturn, 1) := by decide +kernel
theorem dX0_kindAt_0 : decode cX0_kindAt 0 = .ok (.iload_n 1, 1) := by decide +kernel
theorem dX0_kindAt_1 : decode cX0_kindAt 1 = .ok (.ifCond .lt 21, 3) := by decide +kernel
theorem dX0_kindAt_4 : decode cX0_kindAt 4 = .ok (.iload_n 1, 1) := by decide +kernel
theorem dX0_kindAt_5 : decode cX0_kindAt 5 = .ok (.aload_n 0, 1) := by decide +kernel
theorem dX0_kindAt_6 : decode cX0_kindAt 6 = .ok (.getfield 18, 3) := by decide +kernel
theorem dX0_kindAt_9 : decode cX0_kindAt 9 = .ok (.arraylength, 1) := by decide +kernel
theorem dX0_kindAt_10 : decode cX0_kindAt 10 = .ok (.if_icmp .ge 12, 3) := by decide +kernel
theorem dX0_kindAt_13 : decode cX0_kindAt 13 = .ok (.aload_n 0, 1) := by decide +kernel
theorem dX0_kindAt_14 : decode cX0_kindAt 14 = .ok (.getfield 18, 3) := by decide +kernel
theorem dX0_kindAt_17 : decode cX0_kindAt 17 = .ok (.iload_n 1, 1) := by decide +kernel
theorem dX0_kindAt_18 : decode cX0_kindAt 18 = .ok (.iaload, 1) := by decide +kernel
theorem dX0_kindAt_19 : decode cX0_kindAt 19 = .ok (.goto 4, 3) := by decide +kernel
theorem dX0_kindAt_22 : decode cX0_kindAt 22 = .ok (.iconst (-1), 1) := by decide +kernel
theorem dX0_kindAt_23 : decode cX0_kindAt 23 = .ok (.ireturn, 1) := by decide +kernel
theorem dX0_amountAt_0 : decode cX0_amountAt 0 = .ok (.iload_n 1, 1) := by decide +kernel
theorem dX0_amountAt_1 : decode cX0_amountAt 1 = .ok (.ifCond .lt 21, 3) := by decide +kernel
theorem dX0_amountAt_4 : decode cX0_amountAt 4 = .ok (.iload_n 1, 1) := by decide +kernel
theorem dX0_amountAt_5 : decode cX0_amountAt 5 = .ok (.aload_n 0, 1) := by decide +kernel
theorem dX0_amountAt_6 : decode cX0_amountAt 6 = .ok (.getfield 21, 3) := by decide +kernel
theorem dX0_amountAt_9 : decode cX0_amountAt 9 = .ok (.arraylength, 1) := by decide +kernel
theorem dX0_amountAt_10 : decode cX0_amountAt 10 = .ok (.if_icmp .ge 12, 3) := by decide +kernel
theorem dX0_amountAt_13 : decode cX0_amountAt 13 = .ok (.aload_n 0, 1) := by decide +kernel
theorem dX0_amountAt_14 : decode cX0_amountAt 14 = .ok (.getfield 21, 3) := by decide +kernel
theorem dX0_amountAt_17 : decode cX0_amountAt 17 = .ok (.iload_n 1, 1) := by decide +kernel
theorem dX0_amountAt_18 : decode cX0_amountAt 18 = .ok (.iaload, 1) := by decide +kernel
theorem dX0_amountAt_19 : decode cX0_amountAt 19 = .ok (.goto 4, 3) := by decide +kernel
theorem dX0_amountAt_22 : decode cX0_amountAt 22 = .ok (.iconst 0, 1) := by decide +kernel
theorem dX0_amountAt_23 : decode cX0_amountAt 23 = .ok (.ireturn, 1) := by decide +kernel
theorem dX0_setCell_0 : decode cX0_setCell 0 = .ok (.iload_n 1, 1) := by decide +kernel
theorem dX0_setCell_1 : decode cX0_setCell 1 = .ok (.ifCond .lt 35, 3) := by decide +kernel
theorem dX0_setCell_4 : decode cX0_setCell 4 = .ok (.iload_n 1, 1) := by decide +kernel
theorem dX0_setCell_5 : decode cX0_setCell 5 = .ok (.aload_n 0, 1) := by decide +kernel
theorem dX0_setCell_6 : decode cX0_setCell 6 = .ok (.getfield 18, 3) := by decide +kernel
theorem dX0_setCell_9 : decode cX0_setCell 9 = .ok (.arraylength, 1) := by decide +kernel
theorem dX0_setCell_10 : decode cX0_setCell 10 = .ok (.if_icmp .ge 26, 3) := by decide +kernel
theorem dX0_setCell_13 : decode cX0_setCell 13 = .ok (.iload_n 1, 1) := by decide +kernel
theorem dX0_setCell_14 : decode cX0_setCell 14 = .ok (.aload_n 0, 1) := by decide +kernel
theorem dX0_setCell_15 : decode cX0_setCell 15 = .ok (.getfield 21, 3) := by decide +kernel
theorem dX0_setCell_18 : decode cX0_setCell 18 = .ok (.arraylength, 1) := by decide +kernel
theorem dX0_setCell_19 : decode cX0_setCell 19 = .ok (.if_icmp .ge 17, 3) := by decide +kernel
theorem dX0_setCell_22 : decode cX0_setCell 22 = .ok (.aload_n 0, 1) := by decide +kernel
theorem dX0_setCell_23 : decode cX0_setCell 23 = .ok (.getfield 18, 3) := by decide +kernel
theorem dX0_setCell_26 : decode cX0_setCell 26 = .ok (.iload_n 1, 1) := by decide +kernel
theorem dX0_setCell_27 : decode cX0_setCell 27 = .ok (.iload_n 2, 1) := by decide +kernel
theorem dX0_setCell_28 : decode cX0_setCell 28 = .ok (.iastore, 1) := by decide +kernel
theorem dX0_setCell_29 : decode cX0_setCell 29 = .ok (.aload_n 0, 1) := by decide +kernel
theorem dX0_setCell_30 : decode cX0_setCell 30 = .ok (.getfield 21, 3) := by decide +kernel
theorem dX0_setCell_33 : decode cX0_setCell 33 = .ok (.iload_n 1, 1) := by decide +kernel
theorem dX0_setCell_34 : decode cX0_setCell 34 = .ok (.iload_n 3, 1) := by decide +kernel
theorem dX0_setCell_35 : decode cX0_setCell 35 = .ok (.iastore, 1) := by decide +kernel
theorem dX0_setCell_36 : decode cX0_setCell 36 = .ok (.return_, 1) := by decide +kernel
theorem dX0_makeWritten_0 : decode cX0_makeWritten 0 = .ok (.aload_n 0, 1) := by decide +kernel
theorem dX0_makeWritten_1 : decode cX0_makeWritten 1 = .ok (.iload_n 1, 1) := by decide +kernel
theorem dX0_makeWritten_2 : decode cX0_makeWritten 2 = .ok (.iconst 1, 1) := by decide +kernel
theorem dX0_makeWritten_3 : decode cX0_makeWritten 3 = .ok (.iload_n 2, 1) := by decide +kernel
theorem dX0_makeWritten_4 : decode cX0_makeWritten 4 = .ok (.invokevirtual 39, 3) := by decide +kernel
theorem dX0_makeWritten_7 : decode cX0_makeWritten 7 = .ok (.return_, 1) := by decide +kernel
theorem dX0_makeCashed_0 : decode cX0_makeCashed 0 = .ok (.aload_n 0, 1) := by decide +kernel
theorem dX0_makeCashed_1 : decode cX0_makeCashed 1 = .ok (.iload_n 1, 1) := by decide +kernel
theorem dX0_makeCashed_2 : decode cX0_makeCashed 2 = .ok (.iconst 2, 1) := by decide +kernel
theorem dX0_makeCashed_3 : decode cX0_makeCashed 3 = .ok (.aload_n 0, 1) := by decide +kernel
theorem dX0_makeCashed_4 : decode cX0_makeCashed 4 = .ok (.iload_n 1, 1) := by decide +kernel
theorem dX0_makeCashed_5 : decode cX0_makeCashed 5 = .ok (.invokevirtual 43, 3) := by decide +kernel
theorem dX0_makeCashed_8 : decode cX0_makeCashed 8 = .ok (.invokevirtual 39, 3) := by decide +kernel
theorem dX0_makeCashed_11 : decode cX0_makeCashed 11 = .ok (.return_, 1) := by decide +kernel
theorem dX0_makeRunVoid_0 : decode cX0_makeRunVoid 0 = .ok (.iconst 0, 1) := by decide +kernel
theorem dX0_makeRunVoid_1 : decode cX0_makeRunVoid 1 = .ok (.istore_n 3, 1) := by decide +kernel
theorem dX0_makeRunVoid_2 : decode cX0_makeRunVoid 2 = .ok (.iconst 0, 1) := by decide +kernel
theorem dX0_makeRunVoid_3 : decode cX0_makeRunVoid 3 = .ok (.istore 4, 2) := by decide +kernel
theorem dX0_makeRunVoid_5 : decode cX0_makeRunVoid 5 = .ok (.iload 4, 2) := by decide +kernel
theorem dX0_makeRunVoid_7 : decode cX0_makeRunVoid 7 = .ok (.aload_n 0, 1) := by decide +kernel
theorem dX0_makeRunVoid_8 : decode cX0_makeRunVoid 8 = .ok (.getfield 28, 3) := by decide +kernel
theorem dX0_makeRunVoid_11 : decode cX0_makeRunVoid 11 = .ok (.if_icmp .ge 73, 3) := by decide +kernel
theorem dX0_makeRunVoid_14 : decode cX0_makeRunVoid 14 = .ok (.aload_n 0, 1) := by decide +kernel
theorem dX0_makeRunVoid_15 : decode cX0_makeRunVoid 15 = .ok (.iload 4, 2) := by decide +kernel
theorem dX0_makeRunVoid_17 : decode cX0_makeRunVoid 17 = .ok (.invokevirtual 32, 3) := by decide +kernel
theorem dX0_makeRunVoid_20 : decode cX0_makeRunVoid 20 = .ok (.istore 5, 2) := by decide +kernel
theorem dX0_makeRunVoid_22 : decode cX0_makeRunVoid 22 = .ok (.iload_n 2, 1) := by decide +kernel
theorem dX0_makeRunVoid_23 : decode cX0_makeRunVoid 23 = .ok (.iload 5, 2) := by decide +kernel
theorem dX0_makeRunVoid_25 : decode cX0_makeRunVoid 25 = .ok (.aload_n 0, 1) := by decide +kernel
theorem dX0_makeRunVoid_26 : decode cX0_makeRunVoid 26 = .ok (.iload 4, 2) := by decide +kernel
theorem dX0_makeRunVoid_28 : decode cX0_makeRunVoid 28 = .ok (.invokevirtual 36, 3) := by decide +kernel
theorem dX0_makeRunVoid_31 : decode cX0_makeRunVoid 31 = .ok (.iadd, 1) := by decide +kernel
theorem dX0_makeRunVoid_32 : decode cX0_makeRunVoid 32 = .ok (.iconst 1, 1) := by decide +kernel
theorem dX0_makeRunVoid_33 : decode cX0_makeRunVoid 33 = .ok (.isub, 1) := by decide +kernel
theorem dX0_makeRunVoid_34 : decode cX0_makeRunVoid 34 = .ok (.invokestatic 46, 3) := by decide +kernel
theorem dX0_makeRunVoid_37 : decode cX0_makeRunVoid 37 = .ok (.istore 6, 2) := by decide +kernel
theorem dX0_makeRunVoid_39 : decode cX0_makeRunVoid 39 = .ok (.iload_n 1, 1) := by decide +kernel
theorem dX0_makeRunVoid_40 : decode cX0_makeRunVoid 40 = .ok (.iload 5, 2) := by decide +kernel
theorem dX0_makeRunVoid_42 : decode cX0_makeRunVoid 42 = .ok (.invokestatic 52, 3) := by decide +kernel
theorem dX0_makeRunVoid_45 : decode cX0_makeRunVoid 45 = .ok (.istore 7, 2) := by decide +kernel
theorem dX0_makeRunVoid_47 : decode cX0_makeRunVoid 47 = .ok (.iload 7, 2) := by decide +kernel
theorem dX0_makeRunVoid_49 : decode cX0_makeRunVoid 49 = .ok (.iload 6, 2) := by decide +kernel
theorem dX0_makeRunVoid_51 : decode cX0_makeRunVoid 51 = .ok (.if_icmp .gt 27, 3) := by decide +kernel
theorem dX0_makeRunVoid_54 : decode cX0_makeRunVoid 54 = .ok (.iload_n 3, 1) := by decide +kernel
theorem dX0_makeRunVoid_55 : decode cX0_makeRunVoid 55 = .ok (.aload_n 0, 1) := by decide +kernel
theorem dX0_makeRunVoid_56 : decode cX0_makeRunVoid 56 = .ok (.iload 4, 2) := by decide +kernel
theorem dX0_makeRunVoid_58 : decode cX0_makeRunVoid 58 = .ok (.bipush 40, 2) := by decide +kernel
theorem dX0_makeRunVoid_60 : decode cX0_makeRunVoid 60 = .ok (.imul, 1) := by decide +kernel
theorem dX0_makeRunVoid_61 : decode cX0_makeRunVoid 61 = .ok (.iload 7, 2) := by decide +kernel
theorem dX0_makeRunVoid_63 : decode cX0_makeRunVoid 63 = .ok (.iadd, 1) := by decide +kernel
theorem dX0_makeRunVoid_64 : decode cX0_makeRunVoid 64 = .ok (.iload 5, 2) := by decide +kernel
theorem dX0_makeRunVoid_66 : decode cX0_makeRunVoid 66 = .ok (.isub, 1) := by decide +kernel
theorem dX0_makeRunVoid_67 : decode cX0_makeRunVoid 67 = .ok (.invokevirtual 55, 3) := by decide +kernel
theorem dX0_makeRunVoid_70 : decode cX0_makeRunVoid 70 = .ok (.iadd, 1) := by decide +kernel
theorem dX0_makeRunVoid_71 : decode cX0_makeRunVoid 71 = .ok (.istore_n 3, 1) := by decide +kernel
theorem dX0_makeRunVoid_72 : decode cX0_makeRunVoid 72 = .ok (.iinc 7 1, 3) := by decide +kernel
theorem dX0_makeRunVoid_75 : decode cX0_makeRunVoid 75 = .ok (.goto (-28), 3) := by decide +kernel
theorem dX0_makeRunVoid_78 : decode cX0_makeRunVoid 78 = .ok (.iinc 4 1, 3) := by decide +kernel
theorem dX0_makeRunVoid_81 : decode cX0_makeRunVoid 81 = .ok (.goto (-76), 3) := by decide +kernel
theorem dX0_makeRunVoid_84 : decode cX0_makeRunVoid 84 = .ok (.iload_n 3, 1) := by decide +kernel
theorem dX0_makeRunVoid_85 : decode cX0_makeRunVoid 85 = .ok (.ireturn, 1) := by decide +kernel
theorem dX0_makeVoid_0 : decode cX0_makeVoid 0 = .ok (.aload_n 0, 1) := by decide +kernel
theorem dX0_makeVoid_1 : decode cX0_makeVoid 1 = .ok (.iload_n 1, 1) := by decide +kernel
theorem dX0_makeVoid_2 : decode cX0_makeVoid 2 = .ok (.invokevirtual 58, 3) := by decide +kernel
theorem dX0_makeVoid_5 : decode cX0_makeVoid 5 = .ok (.istore_n 2, 1) := by decide +kernel
theorem dX0_makeVoid_6 : decode cX0_makeVoid 6 = .ok (.iload_n 2, 1) := by decide +kernel
theorem dX0_makeVoid_7 : decode cX0_makeVoid 7 = .ok (.ifCond .eq 10, 3) := by decide +kernel
theorem dX0_makeVoid_10 : decode cX0_makeVoid 10 = .ok (.iload_n 2, 1) := by decide +kernel
theorem dX0_makeVoid_11 : decode cX0_makeVoid 11 = .ok (.iconst 1, 1) := by decide +kernel
theorem dX0_makeVoid_12 : decode cX0_makeVoid 12 = .ok (.if_icmp .eq 5, 3) := by decide +kernel
theorem dX0_makeVoid_15 : decode cX0_makeVoid 15 = .ok (.iconst 0, 1) := by decide +kernel
theorem dX0_makeVoid_16 : decode cX0_makeVoid 16 = .ok (.ireturn, 1) := by decide +kernel
theorem dX0_makeVoid_17 : decode cX0_makeVoid 17 = .ok (.aload_n 0, 1) := by decide +kernel
theorem dX0_makeVoid_18 : decode cX0_makeVoid 18 = .ok (.iload_n 1, 1) := by decide +kernel
theorem dX0_makeVoid_19 : decode cX0_makeVoid 19 = .ok (.iconst 3, 1) := by decide +kernel
theorem dX0_makeVoid_20 : decode cX0_makeVoid 20 = .ok (.iconst 0, 1) := by decide +kernel
theorem dX0_makeVoid_21 : decode cX0_makeVoid 21 = .ok (.invokevirtual 39, 3) := by decide +kernel
theorem dX0_makeVoid_24 : decode cX0_makeVoid 24 = .ok (.iconst 1, 1) := by decide +kernel
theorem dX0_makeVoid_25 : decode cX0_makeVoid 25 = .ok (.ireturn, 1) := by decide +kernel
theorem dX0_sameKindFrom_0 : decode cX0_sameKindFrom 0 = .ok (.iload_n 1, 1) := by decide +kernel
theorem dX0_sameKindFrom_1 : decode cX0_sameKindFrom 1 = .ok (.bipush 40, 2) := by decide +kernel
theorem dX0_sameKindFrom_3 : decode cX0_sameKindFrom 3 = .ok (.idiv, 1) := by decide +kernel
theorem dX0_sameKindFrom_4 : decode cX0_sameKindFrom 4 = .ok (.istore_n 2, 1) := by decide +kernel
theorem dX0_sameKindFrom_5 : decode cX0_sameKindFrom 5 = .ok (.iload_n 2, 1) := by decide +kernel
theorem dX0_sameKindFrom_6 : decode cX0_sameKindFrom 6 = .ok (.bipush 40, 2) := by decide +kernel
theorem dX0_sameKindFrom_8 : decode cX0_sameKindFrom 8 = .ok (.imul, 1) := by decide +kernel
theorem dX0_sameKindFrom_9 : decode cX0_sameKindFrom 9 = .ok (.aload_n 0, 1) := by decide +kernel
theorem dX0_sameKindFrom_10 : decode cX0_sameKindFrom 10 = .ok (.iload_n 2, 1) := by decide +kernel
theorem dX0_sameKindFrom_11 : decode cX0_sameKindFrom 11 = .ok (.invokevirtual 36, 3) := by decide +kernel
theorem dX0_sameKindFrom_14 : decode cX0_sameKindFrom 14 = .ok (.iadd, 1) := by decide +kernel
theorem dX0_sameKindFrom_15 : decode cX0_sameKindFrom 15 = .ok (.istore_n 3, 1) := by decide +kernel
theorem dX0_sameKindFrom_16 : decode cX0_sameKindFrom 16 = .ok (.aload_n 0, 1) := by decide +kernel
theorem dX0_sameKindFrom_17 : decode cX0_sameKindFrom 17 = .ok (.iload_n 1, 1) := by decide +kernel
theorem dX0_sameKindFrom_18 : decode cX0_sameKindFrom 18 = .ok (.invokevirtual 58, 3) := by decide +kernel
theorem dX0_sameKindFrom_21 : decode cX0_sameKindFrom 21 = .ok (.istore 4, 2) := by decide +kernel
theorem dX0_sameKindFrom_23 : decode cX0_sameKindFrom 23 = .ok (.iconst 0, 1) := by decide +kernel
theorem dX0_sameKindFrom_24 : decode cX0_sameKindFrom 24 = .ok (.istore 5, 2) := by decide +kernel
theorem dX0_sameKindFrom_26 : decode cX0_sameKindFrom 26 = .ok (.iload_n 1, 1) := by decide +kernel
theorem dX0_sameKindFrom_27 : decode cX0_sameKindFrom 27 = .ok (.istore 6, 2) := by decide +kernel
theorem dX0_sameKindFrom_29 : decode cX0_sameKindFrom 29 = .ok (.iload 6, 2) := by decide +kernel
theorem dX0_sameKindFrom_31 : decode cX0_sameKindFrom 31 = .ok (.iload_n 3, 1) := by decide +kernel
theorem dX0_sameKindFrom_32 : decode cX0_sameKindFrom 32 = .ok (.if_icmp .ge 23, 3) := by decide +kernel
theorem dX0_sameKindFrom_35 : decode cX0_sameKindFrom 35 = .ok (.aload_n 0, 1) := by decide +kernel
theorem dX0_sameKindFrom_36 : decode cX0_sameKindFrom 36 = .ok (.iload 6, 2) := by decide +kernel
theorem dX0_sameKindFrom_38 : decode cX0_sameKindFrom 38 = .ok (.invokevirtual 58, 3) := by decide +kernel
theorem dX0_sameKindFrom_41 : decode cX0_sameKindFrom 41 = .ok (.iload 4, 2) := by decide +kernel
theorem dX0_sameKindFrom_43 : decode cX0_sameKindFrom 43 = .ok (.if_icmp .ne 12, 3) := by decide +kernel
theorem dX0_sameKindFrom_46 : decode cX0_sameKindFrom 46 = .ok (.iinc 5 1, 3) := by decide +kernel
theorem dX0_sameKindFrom_49 : decode cX0_sameKindFrom 49 = .ok (.iinc 6 1, 3) := by decide +kernel
theorem dX0_sameKindFrom_52 : decode cX0_sameKindFrom 52 = .ok (.goto (-23), 3) := by decide +kernel
theorem dX0_sameKindFrom_55 : decode cX0_sameKindFrom 55 = .ok (.iload 5, 2) := by decide +kernel
theorem dX0_sameKindFrom_57 : decode cX0_sameKindFrom 57 = .ok (.ireturn, 1) := by decide +kernel
theorem dX0_numberOf_0 : decode cX0_numberOf 0 = .ok (.iload_n 2, 1) := by decide +kernel
theorem dX0_numberOf_1 : decode cX0_numberOf 1 = .ok (.tableswitch 83 0 8 #[51, 57, 83, 83, 83, 83, 63, 70, 77], 51) := by decide +kernel
theorem dX0_numberOf_52 : decode cX0_numberOf 52 = .ok (.aload_n 0, 1) := by decide +kernel
theorem dX0_numberOf_53 : decode cX0_numberOf 53 = .ok (.iload_n 1, 1) := by decide +kernel
theorem dX0_numberOf_54 : decode cX0_numberOf 54 = .ok (.invokevirtual 32, 3) := by decide +kernel
theorem dX0_numberOf_57 : decode cX0_numberOf 57 = .ok (.ireturn, 1) := by decide +kernel
theorem dX0_numberOf_58 : decode cX0_numberOf 58 = .ok (.aload_n 0, 1) := by decide +kernel
theorem dX0_numberOf_59 : decode cX0_numberOf 59 = .ok (.iload_n 1, 1) := by decide +kernel
theorem dX0_numberOf_60 : decode cX0_numberOf 60 = .ok (.invokevirtual 36, 3) := by decide +kernel
theorem dX0_numberOf_63 : decode cX0_numberOf 63 = .ok (.ireturn, 1) := by decide +kernel
theorem dX0_numberOf_64 : decode cX0_numberOf 64 = .ok (.aload_n 0, 1) := by decide +kernel
theorem dX0_numberOf_65 : decode cX0_numberOf 65 = .ok (.iload_n 1, 1) := by decide +kernel
theorem dX0_numberOf_66 : decode cX0_numberOf 66 = .ok (.iconst 1, 1) := by decide +kernel
theorem dX0_numberOf_67 : decode cX0_numberOf 67 = .ok (.invokevirtual 61, 3) := by decide +kernel
theorem dX0_numberOf_70 : decode cX0_numberOf 70 = .ok (.ireturn, 1) := by decide +kernel
theorem dX0_numberOf_71 : decode cX0_numberOf 71 = .ok (.aload_n 0, 1) := by decide +kernel
theorem dX0_numberOf_72 : decode cX0_numberOf 72 = .ok (.iload_n 1, 1) := by decide +kernel
theorem dX0_numberOf_73 : decode cX0_numberOf 73 = .ok (.iconst 2, 1) := by decide +kernel
theorem dX0_numberOf_74 : decode cX0_numberOf 74 = .ok (.invokevirtual 61, 3) := by decide +kernel
theorem dX0_numberOf_77 : decode cX0_numberOf 77 = .ok (.ireturn, 1) := by decide +kernel
theorem dX0_numberOf_78 : decode cX0_numberOf 78 = .ok (.aload_n 0, 1) := by decide +kernel
theorem dX0_numberOf_79 : decode cX0_numberOf 79 = .ok (.iload_n 1, 1) := by decide +kernel
theorem dX0_numberOf_80 : decode cX0_numberOf 80 = .ok (.invokevirtual 64, 3) := by decide +kernel
theorem dX0_numberOf_83 : decode cX0_numberOf 83 = .ok (.ireturn, 1) := by decide +kernel
theorem dX0_numberOf_84 : decode cX0_numberOf 84 = .ok (.aload_n 0, 1) := by decide +kernel
theorem dX0_numberOf_85 : decode cX0_numberOf 85 = .ok (.iload_n 1, 1) := by decide +kernel
theorem dX0_numberOf_86 : decode cX0_numberOf 86 = .ok (.iload_n 2, 1) := by decide +kernel
theorem dX0_numberOf_87 : decode cX0_numberOf 87 = .ok (.iconst 2, 1) := by decide +kernel
theorem dX0_numberOf_88 : decode cX0_numberOf 88 = .ok (.isub, 1) := by decide +kernel
theorem dX0_numberOf_89 : decode cX0_numberOf 89 = .ok (.invokevirtual 67, 3) := by decide +kernel
theorem dX0_numberOf_92 : decode cX0_numberOf 92 = .ok (.ireturn, 1) := by decide +kernel
theorem dX0_numberOfAll_0 : decode cX0_numberOfAll 0 = .ok (.iconst 0, 1) := by decide +kernel
theorem dX0_numberOfAll_1 : decode cX0_numberOfAll 1 = .ok (.istore_n 2, 1) := by decide +kernel
theorem dX0_numberOfAll_2 : decode cX0_numberOfAll 2 = .ok (.iconst 0, 1) := by decide +kernel
theorem dX0_numberOfAll_3 : decode cX0_numberOfAll 3 = .ok (.istore_n 3, 1) := by decide +kernel
theorem dX0_numberOfAll_4 : decode cX0_numberOfAll 4 = .ok (.iload_n 3, 1) := by decide +kernel
theorem dX0_numberOfAll_5 : decode cX0_numberOfAll 5 = .ok (.aload_n 0, 1) := by decide +kernel
theorem dX0_numberOfAll_6 : decode cX0_numberOfAll 6 = .ok (.getfield 28, 3) := by decide +kernel
theorem dX0_numberOfAll_9 : decode cX0_numberOfAll 9 = .ok (.if_icmp .ge 18, 3) := by decide +kernel
theorem dX0_numberOfAll_12 : decode cX0_numberOfAll 12 = .ok (.iload_n 2, 1) := by decide +kernel
theorem dX0_numberOfAll_13 : decode cX0_numberOfAll 13 = .ok (.aload_n 0, 1) := by decide +kernel
theorem dX0_numberOfAll_14 : decode cX0_numberOfAll 14 = .ok (.iload_n 3, 1) := by decide +kernel
theorem dX0_numberOfAll_15 : decode cX0_numberOfAll 15 = .ok (.iload_n 1, 1) := by decide +kernel
theorem dX0_numberOfAll_16 : decode cX0_numberOfAll 16 = .ok (.invokevirtual 70, 3) := by decide +kernel
theorem dX0_numberOfAll_19 : decode cX0_numberOfAll 19 = .ok (.iadd, 1) := by decide +kernel
theorem dX0_numberOfAll_20 : decode cX0_numberOfAll 20 = .ok (.istore_n 2, 1) := by decide +kernel
theorem dX0_numberOfAll_21 : decode cX0_numberOfAll 21 = .ok (.iinc 3 1, 3) := by decide +kernel
theorem dX0_numberOfAll_24 : decode cX0_numberOfAll 24 = .ok (.goto (-20), 3) := by decide +kernel
theorem dX0_numberOfAll_27 : decode cX0_numberOfAll 27 = .ok (.iload_n 2, 1) := by decide +kernel
theorem dX0_numberOfAll_28 : decode cX0_numberOfAll 28 = .ok (.ireturn, 1) := by decide +kernel
theorem dX0_chequesOf_0 : decode cX0_chequesOf 0 = .ok (.iconst 0, 1) := by decide +kernel
theorem dX0_chequesOf_1 : decode cX0_chequesOf 1 = .ok (.istore_n 3, 1) := by decide +kernel
theorem dX0_chequesOf_2 : decode cX0_chequesOf 2 = .ok (.aload_n 0, 1) := by decide +kernel
theorem dX0_chequesOf_3 : decode cX0_chequesOf 3 = .ok (.iload_n 1, 1) := by decide +kernel
theorem dX0_chequesOf_4 : decode cX0_chequesOf 4 = .ok (.invokevirtual 36, 3) := by decide +kernel
theorem dX0_chequesOf_7 : decode cX0_chequesOf 7 = .ok (.istore 4, 2) := by decide +kernel
theorem dX0_chequesOf_9 : decode cX0_chequesOf 9 = .ok (.iconst 0, 1) := by decide +kernel
theorem dX0_chequesOf_10 : decode cX0_chequesOf 10 = .ok (.istore 5, 2) := by decide +kernel
theorem dX0_chequesOf_12 : decode cX0_chequesOf 12 = .ok (.iload 5, 2) := by decide +kernel
theorem dX0_chequesOf_14 : decode cX0_chequesOf 14 = .ok (.iload 4, 2) := by decide +kernel
theorem dX0_chequesOf_16 : decode cX0_chequesOf 16 = .ok (.if_icmp .ge 27, 3) := by decide +kernel
theorem dX0_chequesOf_19 : decode cX0_chequesOf 19 = .ok (.aload_n 0, 1) := by decide +kernel
theorem dX0_chequesOf_20 : decode cX0_chequesOf 20 = .ok (.iload_n 1, 1) := by decide +kernel
theorem dX0_chequesOf_21 : decode cX0_chequesOf 21 = .ok (.bipush 40, 2) := by decide +kernel
theorem dX0_chequesOf_23 : decode cX0_chequesOf 23 = .ok (.imul, 1) := by decide +kernel
theorem dX0_chequesOf_24 : decode cX0_chequesOf 24 = .ok (.iload 5, 2) := by decide +kernel
theorem dX0_chequesOf_26 : decode cX0_chequesOf 26 = .ok (.iadd, 1) := by decide +kernel
theorem dX0_chequesOf_27 : decode cX0_chequesOf 27 = .ok (.invokevirtual 58, 3) := by decide +kernel
theorem dX0_chequesOf_30 : decode cX0_chequesOf 30 = .ok (.iload_n 2, 1) := by decide +kernel
theorem dX0_chequesOf_31 : decode cX0_chequesOf 31 = .ok (.if_icmp .ne 6, 3) := by decide +kernel
theorem dX0_chequesOf_34 : decode cX0_chequesOf 34 = .ok (.iinc 3 1, 3) := by decide +kernel
theorem dX0_chequesOf_37 : decode cX0_chequesOf 37 = .ok (.iinc 5 1, 3) := by decide +kernel
theorem dX0_chequesOf_40 : decode cX0_chequesOf 40 = .ok (.goto (-28), 3) := by decide +kernel
theorem dX0_chequesOf_43 : decode cX0_chequesOf 43 = .ok (.iload_n 3, 1) := by decide +kernel
theorem dX0_chequesOf_44 : decode cX0_chequesOf 44 = .ok (.ireturn, 1) := by decide +kernel
theorem dX0_amountsOf_0 : decode cX0_amountsOf 0 = .ok (.iconst 0, 1) := by decide +kernel
theorem dX0_amountsOf_1 : decode cX0_amountsOf 1 = .ok (.istore_n 3, 1) := by decide +kernel
theorem dX0_amountsOf_2 : decode cX0_amountsOf 2 = .ok (.aload_n 0, 1) := by decide +kernel
theorem dX0_amountsOf_3 : decode cX0_amountsOf 3 = .ok (.iload_n 1, 1) := by decide +kernel
theorem dX0_amountsOf_4 : decode cX0_amountsOf 4 = .ok (.invokevirtual 36, 3) := by decide +kernel
theorem dX0_amountsOf_7 : decode cX0_amountsOf 7 = .ok (.istore 4, 2) := by decide +kernel
theorem dX0_amountsOf_9 : decode cX0_amountsOf 9 = .ok (.iconst 0, 1) := by decide +kernel
theorem dX0_amountsOf_10 : decode cX0_amountsOf 10 = .ok (.istore 5, 2) := by decide +kernel
theorem dX0_amountsOf_12 : decode cX0_amountsOf 12 = .ok (.iload 5, 2) := by decide +kernel
theorem dX0_amountsOf_14 : decode cX0_amountsOf 14 = .ok (.iload 4, 2) := by decide +kernel
theorem dX0_amountsOf_16 : decode cX0_amountsOf 16 = .ok (.if_icmp .ge 37, 3) := by decide +kernel
theorem dX0_amountsOf_19 : decode cX0_amountsOf 19 = .ok (.iload_n 1, 1) := by decide +kernel
theorem dX0_amountsOf_20 : decode cX0_amountsOf 20 = .ok (.bipush 40, 2) := by decide +kernel
theorem dX0_amountsOf_22 : decode cX0_amountsOf 22 = .ok (.imul, 1) := by decide +kernel
theorem dX0_amountsOf_23 : decode cX0_amountsOf 23 = .ok (.iload 5, 2) := by decide +kernel
theorem dX0_amountsOf_25 : decode cX0_amountsOf 25 = .ok (.iadd, 1) := by decide +kernel
theorem dX0_amountsOf_26 : decode cX0_amountsOf 26 = .ok (.istore 6, 2) := by decide +kernel
theorem dX0_amountsOf_28 : decode cX0_amountsOf 28 = .ok (.aload_n 0, 1) := by decide +kernel
theorem dX0_amountsOf_29 : decode cX0_amountsOf 29 = .ok (.iload 6, 2) := by decide +kernel
theorem dX0_amountsOf_31 : decode cX0_amountsOf 31 = .ok (.invokevirtual 58, 3) := by decide +kernel
theorem dX0_amountsOf_34 : decode cX0_amountsOf 34 = .ok (.iload_n 2, 1) := by decide +kernel
theorem dX0_amountsOf_35 : decode cX0_amountsOf 35 = .ok (.if_icmp .ne 12, 3) := by decide +kernel
theorem dX0_amountsOf_38 : decode cX0_amountsOf 38 = .ok (.iload_n 3, 1) := by decide +kernel
theorem dX0_amountsOf_39 : decode cX0_amountsOf 39 = .ok (.aload_n 0, 1) := by decide +kernel
theorem dX0_amountsOf_40 : decode cX0_amountsOf 40 = .ok (.iload 6, 2) := by decide +kernel
theorem dX0_amountsOf_42 : decode cX0_amountsOf 42 = .ok (.invokevirtual 43, 3) := by decide +kernel
theorem dX0_amountsOf_45 : decode cX0_amountsOf 45 = .ok (.iadd, 1) := by decide +kernel
theorem dX0_amountsOf_46 : decode cX0_amountsOf 46 = .ok (.istore_n 3, 1) := by decide +kernel
theorem dX0_amountsOf_47 : decode cX0_amountsOf 47 = .ok (.iinc 5 1, 3) := by decide +kernel
theorem dX0_amountsOf_50 : decode cX0_amountsOf 50 = .ok (.goto (-38), 3) := by decide +kernel
theorem dX0_amountsOf_53 : decode cX0_amountsOf 53 = .ok (.iload_n 3, 1) := by decide +kernel
theorem dX0_amountsOf_54 : decode cX0_amountsOf 54 = .ok (.ireturn, 1) := by decide +kernel
theorem dX0_firstBlankOf_0 : decode cX0_firstBlankOf 0 = .ok (.aload_n 0, 1) := by decide +kernel
theorem dX0_firstBlankOf_1 : decode cX0_firstBlankOf 1 = .ok (.iload_n 1, 1) := by decide +kernel
theorem dX0_firstBlankOf_2 : decode cX0_firstBlankOf 2 = .ok (.invokevirtual 36, 3) := by decide +kernel
theorem dX0_firstBlankOf_5 : decode cX0_firstBlankOf 5 = .ok (.istore_n 2, 1) := by decide +kernel
theorem dX0_firstBlankOf_6 : decode cX0_firstBlankOf 6 = .ok (.iconst 0, 1) := by decide +kernel
theorem dX0_firstBlankOf_7 : decode cX0_firstBlankOf 7 = .ok (.istore_n 3, 1) := by decide +kernel
theorem dX0_firstBlankOf_8 : decode cX0_firstBlankOf 8 = .ok (.iload_n 3, 1) := by decide +kernel
theorem dX0_firstBlankOf_9 : decode cX0_firstBlankOf 9 = .ok (.iload_n 2, 1) := by decide +kernel
theorem dX0_firstBlankOf_10 : decode cX0_firstBlankOf 10 = .ok (.if_icmp .ge 30, 3) := by decide +kernel
theorem dX0_firstBlankOf_13 : decode cX0_firstBlankOf 13 = .ok (.aload_n 0, 1) := by decide +kernel
theorem dX0_firstBlankOf_14 : decode cX0_firstBlankOf 14 = .ok (.iload_n 1, 1) := by decide +kernel
theorem dX0_firstBlankOf_15 : decode cX0_firstBlankOf 15 = .ok (.bipush 40, 2) := by decide +kernel
theorem dX0_firstBlankOf_17 : decode cX0_firstBlankOf 17 = .ok (.imul, 1) := by decide +kernel
theorem dX0_firstBlankOf_18 : decode cX0_firstBlankOf 18 = .ok (.iload_n 3, 1) := by decide +kernel
theorem dX0_firstBlankOf_19 : decode cX0_firstBlankOf 19 = .ok (.iadd, 1) := by decide +kernel
theorem dX0_firstBlankOf_20 : decode cX0_firstBlankOf 20 = .ok (.invokevirtual 58, 3) := by decide +kernel
theorem dX0_firstBlankOf_23 : decode cX0_firstBlankOf 23 = .ok (.ifCond .ne 11, 3) := by decide +kernel
theorem dX0_firstBlankOf_26 : decode cX0_firstBlankOf 26 = .ok (.aload_n 0, 1) := by decide +kernel
theorem dX0_firstBlankOf_27 : decode cX0_firstBlankOf 27 = .ok (.iload_n 1, 1) := by decide +kernel
theorem dX0_firstBlankOf_28 : decode cX0_firstBlankOf 28 = .ok (.invokevirtual 32, 3) := by decide +kernel
theorem dX0_firstBlankOf_31 : decode cX0_firstBlankOf 31 = .ok (.iload_n 3, 1) := by decide +kernel
theorem dX0_firstBlankOf_32 : decode cX0_firstBlankOf 32 = .ok (.iadd, 1) := by decide +kernel
theorem dX0_firstBlankOf_33 : decode cX0_firstBlankOf 33 = .ok (.ireturn, 1) := by decide +kernel
theorem dX0_firstBlankOf_34 : decode cX0_firstBlankOf 34 = .ok (.iinc 3 1, 3) := by decide +kernel
theorem dX0_firstBlankOf_37 : decode cX0_firstBlankOf 37 = .ok (.goto (-29), 3) := by decide +kernel
theorem dX0_firstBlankOf_40 : decode cX0_firstBlankOf 40 = .ok (.iconst (-1), 1) := by decide +kernel
theorem dX0_firstBlankOf_41 : decode cX0_firstBlankOf 41 = .ok (.ireturn, 1) := by decide +kernel
theorem dX0_bookOfRank_0 : decode cX0_bookOfRank 0 = .ok (.iconst 0, 1) := by decide +kernel
theorem dX0_bookOfRank_1 : decode cX0_bookOfRank 1 = .ok (.istore_n 2, 1) := by decide +kernel
theorem dX0_bookOfRank_2 : decode cX0_bookOfRank 2 = .ok (.iload_n 2, 1) := by decide +kernel
theorem dX0_bookOfRank_3 : decode cX0_bookOfRank 3 = .ok (.aload_n 0, 1) := by decide +kernel
theorem dX0_bookOfRank_4 : decode cX0_bookOfRank 4 = .ok (.getfield 28, 3) := by decide +kernel
theorem dX0_bookOfRank_7 : decode cX0_bookOfRank 7 = .ok (.if_icmp .ge 24, 3) := by decide +kernel
theorem dX0_bookOfRank_10 : decode cX0_bookOfRank 10 = .ok (.aload_n 0, 1) := by decide +kernel
theorem dX0_bookOfRank_11 : decode cX0_bookOfRank 11 = .ok (.aload_n 0, 1) := by decide +kernel
theorem dX0_bookOfRank_12 : decode cX0_bookOfRank 12 = .ok (.iload_n 2, 1) := by decide +kernel
theorem dX0_bookOfRank_13 : decode cX0_bookOfRank 13 = .ok (.invokevirtual 32, 3) := by decide +kernel
theorem dX0_bookOfRank_16 : decode cX0_bookOfRank 16 = .ok (.invokevirtual 73, 3) := by decide +kernel
theorem dX0_bookOfRank_19 : decode cX0_bookOfRank 19 = .ok (.iload_n 1, 1) := by decide +kernel
theorem dX0_bookOfRank_20 : decode cX0_bookOfRank 20 = .ok (.if_icmp .ne 5, 3) := by decide +kernel
theorem dX0_bookOfRank_23 : decode cX0_bookOfRank 23 = .ok (.iload_n 2, 1) := by decide +kernel
theorem dX0_bookOfRank_24 : decode cX0_bookOfRank 24 = .ok (.ireturn, 1) := by decide +kernel
theorem dX0_bookOfRank_25 : decode cX0_bookOfRank 25 = .ok (.iinc 2 1, 3) := by decide +kernel
theorem dX0_bookOfRank_28 : decode cX0_bookOfRank 28 = .ok (.goto (-26), 3) := by decide +kernel
theorem dX0_bookOfRank_31 : decode cX0_bookOfRank 31 = .ok (.iconst (-1), 1) := by decide +kernel
theorem dX0_bookOfRank_32 : decode cX0_bookOfRank 32 = .ok (.ireturn, 1) := by decide +kernel
theorem dX0_booksBefore_0 : decode cX0_booksBefore 0 = .ok (.iconst 0, 1) := by decide +kernel
theorem dX0_booksBefore_1 : decode cX0_booksBefore 1 = .ok (.istore_n 2, 1) := by decide +kernel
theorem dX0_booksBefore_2 : decode cX0_booksBefore 2 = .ok (.iconst 0, 1) := by decide +kernel
theorem dX0_booksBefore_3 : decode cX0_booksBefore 3 = .ok (.istore_n 3, 1) := by decide +kernel
theorem dX0_booksBefore_4 : decode cX0_booksBefore 4 = .ok (.iload_n 3, 1) := by decide +kernel
theorem dX0_booksBefore_5 : decode cX0_booksBefore 5 = .ok (.aload_n 0, 1) := by decide +kernel
theorem dX0_booksBefore_6 : decode cX0_booksBefore 6 = .ok (.getfield 28, 3) := by decide +kernel
theorem dX0_booksBefore_9 : decode cX0_booksBefore 9 = .ok (.if_icmp .ge 21, 3) := by decide +kernel
theorem dX0_booksBefore_12 : decode cX0_booksBefore 12 = .ok (.aload_n 0, 1) := by decide +kernel
theorem dX0_booksBefore_13 : decode cX0_booksBefore 13 = .ok (.iload_n 3, 1) := by decide +kernel
theorem dX0_booksBefore_14 : decode cX0_booksBefore 14 = .ok (.invokevirtual 32, 3) := by decide +kernel
theorem dX0_booksBefore_17 : decode cX0_booksBefore 17 = .ok (.iload_n 1, 1) := by decide +kernel
theorem dX0_booksBefore_18 : decode cX0_booksBefore 18 = .ok (.if_icmp .ge 6, 3) := by decide +kernel
theorem dX0_booksBefore_21 : decode cX0_booksBefore 21 = .ok (.iinc 2 1, 3) := by decide +kernel
theorem dX0_booksBefore_24 : decode cX0_booksBefore 24 = .ok (.iinc 3 1, 3) := by decide +kernel
theorem dX0_booksBefore_27 : decode cX0_booksBefore 27 = .ok (.goto (-23), 3) := by decide +kernel
theorem dX0_booksBefore_30 : decode cX0_booksBefore 30 = .ok (.iload_n 2, 1) := by decide +kernel
theorem dX0_booksBefore_31 : decode cX0_booksBefore 31 = .ok (.ireturn, 1) := by decide +kernel
theorem dX0_serialOfRank_0 : decode cX0_serialOfRank 0 = .ok (.iload_n 1, 1) := by decide +kernel
theorem dX0_serialOfRank_1 : decode cX0_serialOfRank 1 = .ok (.istore_n 2, 1) := by decide +kernel
theorem dX0_serialOfRank_2 : decode cX0_serialOfRank 2 = .ok (.iconst 0, 1) := by decide +kernel
theorem dX0_serialOfRank_3 : decode cX0_serialOfRank 3 = .ok (.istore_n 3, 1) := by decide +kernel
theorem dX0_serialOfRank_4 : decode cX0_serialOfRank 4 = .ok (.iload_n 3, 1) := by decide +kernel
theorem dX0_serialOfRank_5 : decode cX0_serialOfRank 5 = .ok (.aload_n 0, 1) := by decide +kernel
theorem dX0_serialOfRank_6 : decode cX0_serialOfRank 6 = .ok (.getfield 28, 3) := by decide +kernel
theorem dX0_serialOfRank_9 : decode cX0_serialOfRank 9 = .ok (.if_icmp .ge 44, 3) := by decide +kernel
theorem dX0_serialOfRank_12 : decode cX0_serialOfRank 12 = .ok (.aload_n 0, 1) := by decide +kernel
theorem dX0_serialOfRank_13 : decode cX0_serialOfRank 13 = .ok (.iload_n 3, 1) := by decide +kernel
theorem dX0_serialOfRank_14 : decode cX0_serialOfRank 14 = .ok (.invokevirtual 76, 3) := by decide +kernel
theorem dX0_serialOfRank_17 : decode cX0_serialOfRank 17 = .ok (.istore 4, 2) := by decide +kernel
theorem dX0_serialOfRank_19 : decode cX0_serialOfRank 19 = .ok (.aload_n 0, 1) := by decide +kernel
theorem dX0_serialOfRank_20 : decode cX0_serialOfRank 20 = .ok (.iload 4, 2) := by decide +kernel
theorem dX0_serialOfRank_22 : decode cX0_serialOfRank 22 = .ok (.invokevirtual 36, 3) := by decide +kernel
theorem dX0_serialOfRank_25 : decode cX0_serialOfRank 25 = .ok (.istore 5, 2) := by decide +kernel
theorem dX0_serialOfRank_27 : decode cX0_serialOfRank 27 = .ok (.iload_n 2, 1) := by decide +kernel
theorem dX0_serialOfRank_28 : decode cX0_serialOfRank 28 = .ok (.iload 5, 2) := by decide +kernel
theorem dX0_serialOfRank_30 : decode cX0_serialOfRank 30 = .ok (.if_icmp .ge 12, 3) := by decide +kernel
theorem dX0_serialOfRank_33 : decode cX0_serialOfRank 33 = .ok (.aload_n 0, 1) := by decide +kernel
theorem dX0_serialOfRank_34 : decode cX0_serialOfRank 34 = .ok (.iload 4, 2) := by decide +kernel
theorem dX0_serialOfRank_36 : decode cX0_serialOfRank 36 = .ok (.invokevirtual 32, 3) := by decide +kernel
theorem dX0_serialOfRank_39 : decode cX0_serialOfRank 39 = .ok (.iload_n 2, 1) := by decide +kernel
theorem dX0_serialOfRank_40 : decode cX0_serialOfRank 40 = .ok (.iadd, 1) := by decide +kernel
theorem dX0_serialOfRank_41 : decode cX0_serialOfRank 41 = .ok (.ireturn, 1) := by decide +kernel
theorem dX0_serialOfRank_42 : decode cX0_serialOfRank 42 = .ok (.iload_n 2, 1) := by decide +kernel
theorem dX0_serialOfRank_43 : decode cX0_serialOfRank 43 = .ok (.iload 5, 2) := by decide +kernel
theorem dX0_serialOfRank_45 : decode cX0_serialOfRank 45 = .ok (.isub, 1) := by decide +kernel
theorem dX0_serialOfRank_46 : decode cX0_serialOfRank 46 = .ok (.istore_n 2, 1) := by decide +kernel
theorem dX0_serialOfRank_47 : decode cX0_serialOfRank 47 = .ok (.iinc 3 1, 3) := by decide +kernel
theorem dX0_serialOfRank_50 : decode cX0_serialOfRank 50 = .ok (.goto (-46), 3) := by decide +kernel
theorem dX0_serialOfRank_53 : decode cX0_serialOfRank 53 = .ok (.iconst (-1), 1) := by decide +kernel
theorem dX0_serialOfRank_54 : decode cX0_serialOfRank 54 = .ok (.ireturn, 1) := by decide +kernel
theorem dX1_init_0 : decode cX1_init 0 = .ok (.aload_n 0, 1) := by decide +kernel
theorem dX1_init_1 : decode cX1_init 1 = .ok (.invokespecial 3, 3) := by decide +kernel
theorem dX1_init_4 : decode cX1_init 4 = .ok (.aload_n 0, 1) := by decide +kernel
theorem dX1_init_5 : decode cX1_init 5 = .ok (.bipush 6, 2) := by decide +kernel
theorem dX1_init_7 : decode cX1_init 7 = .ok (.anewarray 9, 3) := by decide +kernel
theorem dX1_init_10 : decode cX1_init 10 = .ok (.putfield 11, 3) := by decide +kernel
theorem dX1_init_13 : decode cX1_init 13 = .ok (.aload_n 0, 1) := by decide +kernel
theorem dX1_init_14 : decode cX1_init 14 = .ok (.iconst 2, 1) := by decide +kernel
theorem dX1_init_15 : decode cX1_init 15 = .ok (.anewarray 9, 3) := by decide +kernel
theorem dX1_init_18 : decode cX1_init 18 = .ok (.putfield 17, 3) := by decide +kernel
theorem dX1_init_21 : decode cX1_init 21 = .ok (.aload_n 0, 1) := by decide +kernel
theorem dX1_init_22 : decode cX1_init 22 = .ok (.iconst 2, 1) := by decide +kernel
theorem dX1_init_23 : decode cX1_init 23 = .ok (.newarray .boolean, 2) := by decide +kernel
theorem dX1_init_25 : decode cX1_init 25 = .ok (.putfield 20, 3) := by decide +kernel
theorem dX1_init_28 : decode cX1_init 28 = .ok (.iconst 0, 1) := by decide +kernel
theorem dX1_init_29 : decode cX1_init 29 = .ok (.istore_n 1, 1) := by decide +kernel
theorem dX1_init_30 : decode cX1_init 30 = .ok (.iload_n 1, 1) := by decide +kernel
theorem dX1_init_31 : decode cX1_init 31 = .ok (.aload_n 0, 1) := by decide +kernel
theorem dX1_init_32 : decode cX1_init 32 = .ok (.getfield 11, 3) := by decide +kernel
theorem dX1_init_35 : decode cX1_init 35 = .ok (.arraylength, 1) := by decide +kernel
theorem dX1_init_36 : decode cX1_init 36 = .ok (.if_icmp .ge 22, 3) := by decide +kernel
theorem dX1_init_39 : decode cX1_init 39 = .ok (.aload_n 0, 1) := by decide +kernel
theorem dX1_init_40 : decode cX1_init 40 = .ok (.getfield 11, 3) := by decide +kernel
theorem dX1_init_43 : decode cX1_init 43 = .ok (.iload_n 1, 1) := by decide +kernel
theorem dX1_init_44 : decode cX1_init 44 = .ok (.new 9, 3) := by decide +kernel
theorem dX1_init_47 : decode cX1_init 47 = .ok (.dup, 1) := by decide +kernel
theorem dX1_init_48 : decode cX1_init 48 = .ok (.invokespecial 24, 3) := by decide +kernel
theorem dX1_init_51 : decode cX1_init 51 = .ok (.aastore, 1) := by decide +kernel
theorem dX1_init_52 : decode cX1_init 52 = .ok (.iinc 1 1, 3) := by decide +kernel
theorem dX1_init_55 : decode cX1_init 55 = .ok (.goto (-25), 3) := by decide +kernel
theorem dX1_init_58 : decode cX1_init 58 = .ok (.iconst 0, 1) := by decide +kernel
theorem dX1_init_59 : decode cX1_init 59 = .ok (.istore_n 1, 1) := by decide +kernel
theorem dX1_init_60 : decode cX1_init 60 = .ok (.iload_n 1, 1) := by decide +kernel
theorem dX1_init_61 : decode cX1_init 61 = .ok (.aload_n 0, 1) := by decide +kernel
theorem dX1_init_62 : decode cX1_init 62 = .ok (.getfield 17, 3) := by decide +kernel
theorem dX1_init_65 : decode cX1_init 65 = .ok (.arraylength, 1) := by decide +kernel
theorem dX1_init_66 : decode cX1_init 66 = .ok (.if_icmp .ge 22, 3) := by decide +kernel
theorem dX1_init_69 : decode cX1_init 69 = .ok (.aload_n 0, 1) := by decide +kernel
theorem dX1_init_70 : decode cX1_init 70 = .ok (.getfield 17, 3) := by decide +kernel
theorem dX1_init_73 : decode cX1_init 73 = .ok (.iload_n 1, 1) := by decide +kernel
theorem dX1_init_74 : decode cX1_init 74 = .ok (.new 9, 3) := by decide +kernel
theorem dX1_init_77 : decode cX1_init 77 = .ok (.dup, 1) := by decide +kernel
theorem dX1_init_78 : decode cX1_init 78 = .ok (.invokespecial 24, 3) := by decide +kernel
theorem dX1_init_81 : decode cX1_init 81 = .ok (.aastore, 1) := by decide +kernel
theorem dX1_init_82 : decode cX1_init 82 = .ok (.iinc 1 1, 3) := by decide +kernel
theorem dX1_init_85 : decode cX1_init 85 = .ok (.goto (-25), 3) := by decide +kernel
theorem dX1_init_88 : decode cX1_init 88 = .ok (.return_, 1) := by decide +kernel
theorem dX1_save_0 : decode cX1_save 0 = .ok (.aload_n 0, 1) := by decide +kernel
theorem dX1_save_1 : decode cX1_save 1 = .ok (.getfield 25, 3) := by decide +kernel
theorem dX1_save_4 : decode cX1_save 4 = .ok (.aload_n 0, 1) := by decide +kernel
theorem dX1_save_5 : decode cX1_save 5 = .ok (.getfield 11, 3) := by decide +kernel
theorem dX1_save_8 : decode cX1_save 8 = .ok (.arraylength, 1) := by decide +kernel
theorem dX1_save_9 : decode cX1_save 9 = .ok (.if_icmp .lt 7, 3) := by decide +kernel
theorem dX1_save_12 : decode cX1_save 12 = .ok (.aload_n 0, 1) := by decide +kernel
theorem dX1_save_13 : decode cX1_save 13 = .ok (.invokevirtual 29, 3) := by decide +kernel
theorem dX1_save_16 : decode cX1_save 16 = .ok (.aload_n 0, 1) := by decide +kernel
theorem dX1_save_17 : decode cX1_save 17 = .ok (.getfield 25, 3) := by decide +kernel
theorem dX1_save_20 : decode cX1_save 20 = .ok (.ifCond .lt 38, 3) := by decide +kernel
theorem dX1_save_23 : decode cX1_save 23 = .ok (.aload_n 0, 1) := by decide +kernel
theorem dX1_save_24 : decode cX1_save 24 = .ok (.getfield 25, 3) := by decide +kernel
theorem dX1_save_27 : decode cX1_save 27 = .ok (.aload_n 0, 1) := by decide +kernel
theorem dX1_save_28 : decode cX1_save 28 = .ok (.getfield 11, 3) := by decide +kernel
theorem dX1_save_31 : decode cX1_save 31 = .ok (.arraylength, 1) := by decide +kernel
theorem dX1_save_32 : decode cX1_save 32 = .ok (.if_icmp .ge 26, 3) := by decide +kernel
theorem dX1_save_35 : decode cX1_save 35 = .ok (.aload_n 1, 1) := by decide +kernel
theorem dX1_save_36 : decode cX1_save 36 = .ok (.aload_n 0, 1) := by decide +kernel
theorem dX1_save_37 : decode cX1_save 37 = .ok (.getfield 11, 3) := by decide +kernel
theorem dX1_save_40 : decode cX1_save 40 = .ok (.aload_n 0, 1) := by decide +kernel
theorem dX1_save_41 : decode cX1_save 41 = .ok (.getfield 25, 3) := by decide +kernel
theorem dX1_save_44 : decode cX1_save 44 = .ok (.aaload, 1) := by decide +kernel
theorem dX1_save_45 : decode cX1_save 45 = .ok (.invokestatic 32, 3) := by decide +kernel
theorem dX1_save_48 : decode cX1_save 48 = .ok (.aload_n 0, 1) := by decide +kernel
theorem dX1_save_49 : decode cX1_save 49 = .ok (.dup, 1) := by decide +kernel
theorem dX1_save_50 : decode cX1_save 50 = .ok (.getfield 25, 3) := by decide +kernel
theorem dX1_save_53 : decode cX1_save 53 = .ok (.iconst 1, 1) := by decide +kernel
theorem dX1_save_54 : decode cX1_save 54 = .ok (.iadd, 1) := by decide +kernel
theorem dX1_save_55 : decode cX1_save 55 = .ok (.putfield 25, 3) := by decide +kernel
theorem dX1_save_58 : decode cX1_save 58 = .ok (.return_, 1) := by decide +kernel
theorem dX1_dropOldest_0 : decode cX1_dropOldest 0 = .ok (.aload_n 0, 1) := by decide +kernel
theorem dX1_dropOldest_1 : decode cX1_dropOldest 1 = .ok (.getfield 11, 3) := by decide +kernel
theorem dX1_dropOldest_4 : decode cX1_dropOldest 4 = .ok (.arraylength, 1) := by decide +kernel
theorem dX1_dropOldest_5 : decode cX1_dropOldest 5 = .ok (.iconst 1, 1) := by decide +kernel
theorem dX1_dropOldest_6 : decode cX1_dropOldest 6 = .ok (.if_icmp .ge 4, 3) := by decide +kernel
theorem dX1_dropOldest_9 : decode cX1_dropOldest 9 = .ok (.return_, 1) := by decide +kernel
theorem dX1_dropOldest_10 : decode cX1_dropOldest 10 = .ok (.aload_n 0, 1) := by decide +kernel
theorem dX1_dropOldest_11 : decode cX1_dropOldest 11 = .ok (.getfield 11, 3) := by decide +kernel
theorem dX1_dropOldest_14 : decode cX1_dropOldest 14 = .ok (.iconst 0, 1) := by decide +kernel
theorem dX1_dropOldest_15 : decode cX1_dropOldest 15 = .ok (.aaload, 1) := by decide +kernel
theorem dX1_dropOldest_16 : decode cX1_dropOldest 16 = .ok (.astore_n 1, 1) := by decide +kernel
theorem dX1_dropOldest_17 : decode cX1_dropOldest 17 = .ok (.iconst 1, 1) := by decide +kernel
theorem dX1_dropOldest_18 : decode cX1_dropOldest 18 = .ok (.istore_n 2, 1) := by decide +kernel
theorem dX1_dropOldest_19 : decode cX1_dropOldest 19 = .ok (.iload_n 2, 1) := by decide +kernel
theorem dX1_dropOldest_20 : decode cX1_dropOldest 20 = .ok (.aload_n 0, 1) := by decide +kernel
theorem dX1_dropOldest_21 : decode cX1_dropOldest 21 = .ok (.getfield 11, 3) := by decide +kernel
theorem dX1_dropOldest_24 : decode cX1_dropOldest 24 = .ok (.arraylength, 1) := by decide +kernel
theorem dX1_dropOldest_25 : decode cX1_dropOldest 25 = .ok (.if_icmp .ge 23, 3) := by decide +kernel
theorem dX1_dropOldest_28 : decode cX1_dropOldest 28 = .ok (.aload_n 0, 1) := by decide +kernel
theorem dX1_dropOldest_29 : decode cX1_dropOldest 29 = .ok (.getfield 11, 3) := by decide +kernel
theorem dX1_dropOldest_32 : decode cX1_dropOldest 32 = .ok (.iload_n 2, 1) := by decide +kernel
theorem dX1_dropOldest_33 : decode cX1_dropOldest 33 = .ok (.iconst 1, 1) := by decide +kernel
theorem dX1_dropOldest_34 : decode cX1_dropOldest 34 = .ok (.isub, 1) := by decide +kernel
theorem dX1_dropOldest_35 : decode cX1_dropOldest 35 = .ok (.aload_n 0, 1) := by decide +kernel
theorem dX1_dropOldest_36 : decode cX1_dropOldest 36 = .ok (.getfield 11, 3) := by decide +kernel
theorem dX1_dropOldest_39 : decode cX1_dropOldest 39 = .ok (.iload_n 2, 1) := by decide +kernel
theorem dX1_dropOldest_40 : decode cX1_dropOldest 40 = .ok (.aaload, 1) := by decide +kernel
theorem dX1_dropOldest_41 : decode cX1_dropOldest 41 = .ok (.aastore, 1) := by decide +kernel
theorem dX1_dropOldest_42 : decode cX1_dropOldest 42 = .ok (.iinc 2 1, 3) := by decide +kernel
theorem dX1_dropOldest_45 : decode cX1_dropOldest 45 = .ok (.goto (-26), 3) := by decide +kernel
theorem dX1_dropOldest_48 : decode cX1_dropOldest 48 = .ok (.aload_n 0, 1) := by decide +kernel
theorem dX1_dropOldest_49 : decode cX1_dropOldest 49 = .ok (.getfield 11, 3) := by decide +kernel
theorem dX1_dropOldest_52 : decode cX1_dropOldest 52 = .ok (.aload_n 0, 1) := by decide +kernel
theorem dX1_dropOldest_53 : decode cX1_dropOldest 53 = .ok (.getfield 11, 3) := by decide +kernel
theorem dX1_dropOldest_56 : decode cX1_dropOldest 56 = .ok (.arraylength, 1) := by decide +kernel
theorem dX1_dropOldest_57 : decode cX1_dropOldest 57 = .ok (.iconst 1, 1) := by decide +kernel
theorem dX1_dropOldest_58 : decode cX1_dropOldest 58 = .ok (.isub, 1) := by decide +kernel
theorem dX1_dropOldest_59 : decode cX1_dropOldest 59 = .ok (.aload_n 1, 1) := by decide +kernel
theorem dX1_dropOldest_60 : decode cX1_dropOldest 60 = .ok (.aastore, 1) := by decide +kernel
theorem dX1_dropOldest_61 : decode cX1_dropOldest 61 = .ok (.aload_n 0, 1) := by decide +kernel
theorem dX1_dropOldest_62 : decode cX1_dropOldest 62 = .ok (.aload_n 0, 1) := by decide +kernel
theorem dX1_dropOldest_63 : decode cX1_dropOldest 63 = .ok (.getfield 11, 3) := by decide +kernel
theorem dX1_dropOldest_66 : decode cX1_dropOldest 66 = .ok (.arraylength, 1) := by decide +kernel
theorem dX1_dropOldest_67 : decode cX1_dropOldest 67 = .ok (.iconst 1, 1) := by decide +kernel
theorem dX1_dropOldest_68 : decode cX1_dropOldest 68 = .ok (.isub, 1) := by decide +kernel
theorem dX1_dropOldest_69 : decode cX1_dropOldest 69 = .ok (.putfield 25, 3) := by decide +kernel
theorem dX1_dropOldest_72 : decode cX1_dropOldest 72 = .ok (.return_, 1) := by decide +kernel
theorem dX1_restoreLast_0 : decode cX1_restoreLast 0 = .ok (.aload_n 0, 1) := by decide +kernel
theorem dX1_restoreLast_1 : decode cX1_restoreLast 1 = .ok (.getfield 25, 3) := by decide +kernel
theorem dX1_restoreLast_4 : decode cX1_restoreLast 4 = .ok (.iconst 1, 1) := by decide +kernel
theorem dX1_restoreLast_5 : decode cX1_restoreLast 5 = .ok (.isub, 1) := by decide +kernel
theorem dX1_restoreLast_6 : decode cX1_restoreLast 6 = .ok (.istore_n 2, 1) := by decide +kernel
theorem dX1_restoreLast_7 : decode cX1_restoreLast 7 = .ok (.iload_n 2, 1) := by decide +kernel
theorem dX1_restoreLast_8 : decode cX1_restoreLast 8 = .ok (.ifCond .lt 27, 3) := by decide +kernel
theorem dX1_restoreLast_11 : decode cX1_restoreLast 11 = .ok (.iload_n 2, 1) := by decide +kernel
theorem dX1_restoreLast_12 : decode cX1_restoreLast 12 = .ok (.aload_n 0, 1) := by decide +kernel
theorem dX1_restoreLast_13 : decode cX1_restoreLast 13 = .ok (.getfield 11, 3) := by decide +kernel
theorem dX1_restoreLast_16 : decode cX1_restoreLast 16 = .ok (.arraylength, 1) := by decide +kernel
theorem dX1_restoreLast_17 : decode cX1_restoreLast 17 = .ok (.if_icmp .ge 18, 3) := by decide +kernel
theorem dX1_restoreLast_20 : decode cX1_restoreLast 20 = .ok (.aload_n 0, 1) := by decide +kernel
theorem dX1_restoreLast_21 : decode cX1_restoreLast 21 = .ok (.getfield 11, 3) := by decide +kernel
theorem dX1_restoreLast_24 : decode cX1_restoreLast 24 = .ok (.iload_n 2, 1) := by decide +kernel
theorem dX1_restoreLast_25 : decode cX1_restoreLast 25 = .ok (.aaload, 1) := by decide +kernel
theorem dX1_restoreLast_26 : decode cX1_restoreLast 26 = .ok (.aload_n 1, 1) := by decide +kernel
theorem dX1_restoreLast_27 : decode cX1_restoreLast 27 = .ok (.invokestatic 32, 3) := by decide +kernel
theorem dX1_restoreLast_30 : decode cX1_restoreLast 30 = .ok (.aload_n 0, 1) := by decide +kernel
theorem dX1_restoreLast_31 : decode cX1_restoreLast 31 = .ok (.iload_n 2, 1) := by decide +kernel
theorem dX1_restoreLast_32 : decode cX1_restoreLast 32 = .ok (.putfield 25, 3) := by decide +kernel
theorem dX1_restoreLast_35 : decode cX1_restoreLast 35 = .ok (.return_, 1) := by decide +kernel
theorem dX1_isSlotFilled_0 : decode cX1_isSlotFilled 0 = .ok (.iload_n 1, 1) := by decide +kernel
theorem dX1_isSlotFilled_1 : decode cX1_isSlotFilled 1 = .ok (.ifCond .lt 25, 3) := by decide +kernel
theorem dX1_isSlotFilled_4 : decode cX1_isSlotFilled 4 = .ok (.iload_n 1, 1) := by decide +kernel
theorem dX1_isSlotFilled_5 : decode cX1_isSlotFilled 5 = .ok (.aload_n 0, 1) := by decide +kernel
theorem dX1_isSlotFilled_6 : decode cX1_isSlotFilled 6 = .ok (.getfield 20, 3) := by decide +kernel
theorem dX1_isSlotFilled_9 : decode cX1_isSlotFilled 9 = .ok (.arraylength, 1) := by decide +kernel
theorem dX1_isSlotFilled_10 : decode cX1_isSlotFilled 10 = .ok (.if_icmp .ge 16, 3) := by decide +kernel
theorem dX1_isSlotFilled_13 : decode cX1_isSlotFilled 13 = .ok (.aload_n 0, 1) := by decide +kernel
theorem dX1_isSlotFilled_14 : decode cX1_isSlotFilled 14 = .ok (.getfield 20, 3) := by decide +kernel
theorem dX1_isSlotFilled_17 : decode cX1_isSlotFilled 17 = .ok (.iload_n 1, 1) := by decide +kernel
theorem dX1_isSlotFilled_18 : decode cX1_isSlotFilled 18 = .ok (.baload, 1) := by decide +kernel
theorem dX1_isSlotFilled_19 : decode cX1_isSlotFilled 19 = .ok (.ifCond .eq 7, 3) := by decide +kernel
theorem dX1_isSlotFilled_22 : decode cX1_isSlotFilled 22 = .ok (.iconst 1, 1) := by decide +kernel
theorem dX1_isSlotFilled_23 : decode cX1_isSlotFilled 23 = .ok (.goto 4, 3) := by decide +kernel
theorem dX1_isSlotFilled_26 : decode cX1_isSlotFilled 26 = .ok (.iconst 0, 1) := by decide +kernel
theorem dX1_isSlotFilled_27 : decode cX1_isSlotFilled 27 = .ok (.ireturn, 1) := by decide +kernel
theorem dX1_putIntoSlot_0 : decode cX1_putIntoSlot 0 = .ok (.iload_n 1, 1) := by decide +kernel
theorem dX1_putIntoSlot_1 : decode cX1_putIntoSlot 1 = .ok (.ifCond .lt 38, 3) := by decide +kernel
theorem dX1_putIntoSlot_4 : decode cX1_putIntoSlot 4 = .ok (.iload_n 1, 1) := by decide +kernel
theorem dX1_putIntoSlot_5 : decode cX1_putIntoSlot 5 = .ok (.aload_n 0, 1) := by decide +kernel
theorem dX1_putIntoSlot_6 : decode cX1_putIntoSlot 6 = .ok (.getfield 17, 3) := by decide +kernel
theorem dX1_putIntoSlot_9 : decode cX1_putIntoSlot 9 = .ok (.arraylength, 1) := by decide +kernel
theorem dX1_putIntoSlot_10 : decode cX1_putIntoSlot 10 = .ok (.if_icmp .ge 29, 3) := by decide +kernel
theorem dX1_putIntoSlot_13 : decode cX1_putIntoSlot 13 = .ok (.iload_n 1, 1) := by decide +kernel
theorem dX1_putIntoSlot_14 : decode cX1_putIntoSlot 14 = .ok (.aload_n 0, 1) := by decide +kernel
theorem dX1_putIntoSlot_15 : decode cX1_putIntoSlot 15 = .ok (.getfield 20, 3) := by decide +kernel
theorem dX1_putIntoSlot_18 : decode cX1_putIntoSlot 18 = .ok (.arraylength, 1) := by decide +kernel
theorem dX1_putIntoSlot_19 : decode cX1_putIntoSlot 19 = .ok (.if_icmp .ge 20, 3) := by decide +kernel
theorem dX1_putIntoSlot_22 : decode cX1_putIntoSlot 22 = .ok (.aload_n 2, 1) := by decide +kernel
theorem dX1_putIntoSlot_23 : decode cX1_putIntoSlot 23 = .ok (.aload_n 0, 1) := by decide +kernel
theorem dX1_putIntoSlot_24 : decode cX1_putIntoSlot 24 = .ok (.getfield 17, 3) := by decide +kernel
theorem dX1_putIntoSlot_27 : decode cX1_putIntoSlot 27 = .ok (.iload_n 1, 1) := by decide +kernel
theorem dX1_putIntoSlot_28 : decode cX1_putIntoSlot 28 = .ok (.aaload, 1) := by decide +kernel
theorem dX1_putIntoSlot_29 : decode cX1_putIntoSlot 29 = .ok (.invokestatic 32, 3) := by decide +kernel
theorem dX1_putIntoSlot_32 : decode cX1_putIntoSlot 32 = .ok (.aload_n 0, 1) := by decide +kernel
theorem dX1_putIntoSlot_33 : decode cX1_putIntoSlot 33 = .ok (.getfield 20, 3) := by decide +kernel
theorem dX1_putIntoSlot_36 : decode cX1_putIntoSlot 36 = .ok (.iload_n 1, 1) := by decide +kernel
theorem dX1_putIntoSlot_37 : decode cX1_putIntoSlot 37 = .ok (.iconst 1, 1) := by decide +kernel
theorem dX1_putIntoSlot_38 : decode cX1_putIntoSlot 38 = .ok (.bastore, 1) := by decide +kernel
theorem dX1_putIntoSlot_39 : decode cX1_putIntoSlot 39 = .ok (.return_, 1) := by decide +kernel
theorem dX1_restoreSlot_0 : decode cX1_restoreSlot 0 = .ok (.iload_n 1, 1) := by decide +kernel
theorem dX1_restoreSlot_1 : decode cX1_restoreSlot 1 = .ok (.ifCond .lt 22, 3) := by decide +kernel
theorem dX1_restoreSlot_4 : decode cX1_restoreSlot 4 = .ok (.iload_n 1, 1) := by decide +kernel
theorem dX1_restoreSlot_5 : decode cX1_restoreSlot 5 = .ok (.aload_n 0, 1) := by decide +kernel
theorem dX1_restoreSlot_6 : decode cX1_restoreSlot 6 = .ok (.getfield 17, 3) := by decide +kernel
theorem dX1_restoreSlot_9 : decode cX1_restoreSlot 9 = .ok (.arraylength, 1) := by decide +kernel
theorem dX1_restoreSlot_10 : decode cX1_restoreSlot 10 = .ok (.if_icmp .ge 13, 3) := by decide +kernel
theorem dX1_restoreSlot_13 : decode cX1_restoreSlot 13 = .ok (.aload_n 0, 1) := by decide +kernel
theorem dX1_restoreSlot_14 : decode cX1_restoreSlot 14 = .ok (.getfield 17, 3) := by decide +kernel
theorem dX1_restoreSlot_17 : decode cX1_restoreSlot 17 = .ok (.iload_n 1, 1) := by decide +kernel
theorem dX1_restoreSlot_18 : decode cX1_restoreSlot 18 = .ok (.aaload, 1) := by decide +kernel
theorem dX1_restoreSlot_19 : decode cX1_restoreSlot 19 = .ok (.aload_n 2, 1) := by decide +kernel
theorem dX1_restoreSlot_20 : decode cX1_restoreSlot 20 = .ok (.invokestatic 32, 3) := by decide +kernel
theorem dX1_restoreSlot_23 : decode cX1_restoreSlot 23 = .ok (.return_, 1) := by decide +kernel
theorem dX1_copyState_0 : decode cX1_copyState 0 = .ok (.aload_n 0, 1) := by decide +kernel
theorem dX1_copyState_1 : decode cX1_copyState 1 = .ok (.ifnull 12, 3) := by decide +kernel
theorem dX1_copyState_4 : decode cX1_copyState 4 = .ok (.aload_n 1, 1) := by decide +kernel
theorem dX1_copyState_5 : decode cX1_copyState 5 = .ok (.ifnull 8, 3) := by decide +kernel
theorem dX1_copyState_8 : decode cX1_copyState 8 = .ok (.aload_n 1, 1) := by decide +kernel
theorem dX1_copyState_9 : decode cX1_copyState 9 = .ok (.aload_n 0, 1) := by decide +kernel
theorem dX1_copyState_10 : decode cX1_copyState 10 = .ok (.invokevirtual 36, 3) := by decide +kernel
theorem dX1_copyState_13 : decode cX1_copyState 13 = .ok (.return_, 1) := by decide +kernel
theorem dX2_init_0 : decode cX2_init 0 = .ok (.aload_n 0, 1) := by decide +kernel
theorem dX2_init_1 : decode cX2_init 1 = .ok (.invokespecial 3, 3) := by decide +kernel
theorem dX2_init_4 : decode cX2_init 4 = .ok (.aload_n 0, 1) := by decide +kernel
theorem dX2_init_5 : decode cX2_init 5 = .ok (.bipush 6, 2) := by decide +kernel
theorem dX2_init_7 : decode cX2_init 7 = .ok (.newarray .int, 2) := by decide +kernel
theorem dX2_init_9 : decode cX2_init 9 = .ok (.putfield 9, 3) := by decide +kernel
theorem dX2_init_12 : decode cX2_init 12 = .ok (.aload_n 0, 1) := by decide +kernel
theorem dX2_init_13 : decode cX2_init 13 = .ok (.bipush 11, 2) := by decide +kernel
theorem dX2_init_15 : decode cX2_init 15 = .ok (.putfield 15, 3) := by decide +kernel
theorem dX2_init_18 : decode cX2_init 18 = .ok (.iconst 0, 1) := by decide +kernel
theorem dX2_init_19 : decode cX2_init 19 = .ok (.istore_n 1, 1) := by decide +kernel
theorem dX2_init_20 : decode cX2_init 20 = .ok (.iload_n 1, 1) := by decide +kernel
theorem dX2_init_21 : decode cX2_init 21 = .ok (.aload_n 0, 1) := by decide +kernel
theorem dX2_init_22 : decode cX2_init 22 = .ok (.getfield 9, 3) := by decide +kernel
theorem dX2_init_25 : decode cX2_init 25 = .ok (.arraylength, 1) := by decide +kernel
theorem dX2_init_26 : decode cX2_init 26 = .ok (.if_icmp .ge 18, 3) := by decide +kernel
theorem dX2_init_29 : decode cX2_init 29 = .ok (.aload_n 0, 1) := by decide +kernel
theorem dX2_init_30 : decode cX2_init 30 = .ok (.getfield 9, 3) := by decide +kernel
theorem dX2_init_33 : decode cX2_init 33 = .ok (.iload_n 1, 1) := by decide +kernel
theorem dX2_init_34 : decode cX2_init 34 = .ok (.iconst 1, 1) := by decide +kernel
theorem dX2_init_35 : decode cX2_init 35 = .ok (.iload_n 1, 1) := by decide +kernel
theorem dX2_init_36 : decode cX2_init 36 = .ok (.iadd, 1) := by decide +kernel
theorem dX2_init_37 : decode cX2_init 37 = .ok (.iastore, 1) := by decide +kernel
theorem dX2_init_38 : decode cX2_init 38 = .ok (.iinc 1 1, 3) := by decide +kernel
theorem dX2_init_41 : decode cX2_init 41 = .ok (.goto (-21), 3) := by decide +kernel
theorem dX2_init_44 : decode cX2_init 44 = .ok (.return_, 1) := by decide +kernel
theorem dX2_copyFrom_0 : decode cX2_copyFrom 0 = .ok (.aload_n 1, 1) := by decide +kernel
theorem dX2_copyFrom_1 : decode cX2_copyFrom 1 = .ok (.getfield 9, 3) := by decide +kernel
theorem dX2_copyFrom_4 : decode cX2_copyFrom 4 = .ok (.aload_n 0, 1) := by decide +kernel
theorem dX2_copyFrom_5 : decode cX2_copyFrom 5 = .ok (.getfield 9, 3) := by decide +kernel
theorem dX2_copyFrom_8 : decode cX2_copyFrom 8 = .ok (.invokestatic 19, 3) := by decide +kernel
theorem dX2_copyFrom_11 : decode cX2_copyFrom 11 = .ok (.aload_n 0, 1) := by decide +kernel
theorem dX2_copyFrom_12 : decode cX2_copyFrom 12 = .ok (.aload_n 1, 1) := by decide +kernel
theorem dX2_copyFrom_13 : decode cX2_copyFrom 13 = .ok (.getfield 15, 3) := by decide +kernel
theorem dX2_copyFrom_16 : decode cX2_copyFrom 16 = .ok (.putfield 15, 3) := by decide +kernel
theorem dX2_copyFrom_19 : decode cX2_copyFrom 19 = .ok (.return_, 1) := by decide +kernel
theorem dX2_weightAt_0 : decode cX2_weightAt 0 = .ok (.iload_n 1, 1) := by decide +kernel
theorem dX2_weightAt_1 : decode cX2_weightAt 1 = .ok (.ifCond .lt 21, 3) := by decide +kernel
theorem dX2_weightAt_4 : decode cX2_weightAt 4 = .ok (.iload_n 1, 1) := by decide +kernel
theorem dX2_weightAt_5 : decode cX2_weightAt 5 = .ok (.aload_n 0, 1) := by decide +kernel
theorem dX2_weightAt_6 : decode cX2_weightAt 6 = .ok (.getfield 9, 3) := by decide +kernel
theorem dX2_weightAt_9 : decode cX2_weightAt 9 = .ok (.arraylength, 1) := by decide +kernel
theorem dX2_weightAt_10 : decode cX2_weightAt 10 = .ok (.if_icmp .ge 12, 3) := by decide +kernel
theorem dX2_weightAt_13 : decode cX2_weightAt 13 = .ok (.aload_n 0, 1) := by decide +kernel
theorem dX2_weightAt_14 : decode cX2_weightAt 14 = .ok (.getfield 9, 3) := by decide +kernel
theorem dX2_weightAt_17 : decode cX2_weightAt 17 = .ok (.iload_n 1, 1) := by decide +kernel
theorem dX2_weightAt_18 : decode cX2_weightAt 18 = .ok (.iaload, 1) := by decide +kernel
theorem dX2_weightAt_19 : decode cX2_weightAt 19 = .ok (.goto 4, 3) := by decide +kernel
theorem dX2_weightAt_22 : decode cX2_weightAt 22 = .ok (.iconst 0, 1) := by decide +kernel
theorem dX2_weightAt_23 : decode cX2_weightAt 23 = .ok (.ireturn, 1) := by decide +kernel
theorem dX2_setWeight_0 : decode cX2_setWeight 0 = .ok (.iload_n 1, 1) := by decide +kernel
theorem dX2_setWeight_1 : decode cX2_setWeight 1 = .ok (.ifCond .lt 19, 3) := by decide +kernel
theorem dX2_setWeight_4 : decode cX2_setWeight 4 = .ok (.iload_n 1, 1) := by decide +kernel
theorem dX2_setWeight_5 : decode cX2_setWeight 5 = .ok (.aload_n 0, 1) := by decide +kernel
theorem dX2_setWeight_6 : decode cX2_setWeight 6 = .ok (.getfield 9, 3) := by decide +kernel
theorem dX2_setWeight_9 : decode cX2_setWeight 9 = .ok (.arraylength, 1) := by decide +kernel
theorem dX2_setWeight_10 : decode cX2_setWeight 10 = .ok (.if_icmp .ge 10, 3) := by decide +kernel
theorem dX2_setWeight_13 : decode cX2_setWeight 13 = .ok (.aload_n 0, 1) := by decide +kernel
theorem dX2_setWeight_14 : decode cX2_setWeight 14 = .ok (.getfield 9, 3) := by decide +kernel
theorem dX2_setWeight_17 : decode cX2_setWeight 17 = .ok (.iload_n 1, 1) := by decide +kernel
theorem dX2_setWeight_18 : decode cX2_setWeight 18 = .ok (.iload_n 2, 1) := by decide +kernel
theorem dX2_setWeight_19 : decode cX2_setWeight 19 = .ok (.iastore, 1) := by decide +kernel
theorem dX2_setWeight_20 : decode cX2_setWeight 20 = .ok (.return_, 1) := by decide +kernel
theorem dX2_letterOf_0 : decode cX2_letterOf 0 = .ok (.iconst 0, 1) := by decide +kernel
theorem dX2_letterOf_1 : decode cX2_letterOf 1 = .ok (.istore_n 2, 1) := by decide +kernel
theorem dX2_letterOf_2 : decode cX2_letterOf 2 = .ok (.iload_n 1, 1) := by decide +kernel
theorem dX2_letterOf_3 : decode cX2_letterOf 3 = .ok (.istore_n 3, 1) := by decide +kernel
theorem dX2_letterOf_4 : decode cX2_letterOf 4 = .ok (.iconst 5, 1) := by decide +kernel
theorem dX2_letterOf_5 : decode cX2_letterOf 5 = .ok (.istore 4, 2) := by decide +kernel
theorem dX2_letterOf_7 : decode cX2_letterOf 7 = .ok (.iload 4, 2) := by decide +kernel
theorem dX2_letterOf_9 : decode cX2_letterOf 9 = .ok (.ifCond .lt 28, 3) := by decide +kernel
theorem dX2_letterOf_12 : decode cX2_letterOf 12 = .ok (.iload_n 2, 1) := by decide +kernel
theorem dX2_letterOf_13 : decode cX2_letterOf 13 = .ok (.aload_n 0, 1) := by decide +kernel
theorem dX2_letterOf_14 : decode cX2_letterOf 14 = .ok (.iload 4, 2) := by decide +kernel
theorem dX2_letterOf_16 : decode cX2_letterOf 16 = .ok (.invokevirtual 23, 3) := by decide +kernel
theorem dX2_letterOf_19 : decode cX2_letterOf 19 = .ok (.iload_n 3, 1) := by decide +kernel
theorem dX2_letterOf_20 : decode cX2_letterOf 20 = .ok (.bipush 10, 2) := by decide +kernel
theorem dX2_letterOf_22 : decode cX2_letterOf 22 = .ok (.irem, 1) := by decide +kernel
theorem dX2_letterOf_23 : decode cX2_letterOf 23 = .ok (.imul, 1) := by decide +kernel
theorem dX2_letterOf_24 : decode cX2_letterOf 24 = .ok (.iadd, 1) := by decide +kernel
theorem dX2_letterOf_25 : decode cX2_letterOf 25 = .ok (.istore_n 2, 1) := by decide +kernel
theorem dX2_letterOf_26 : decode cX2_letterOf 26 = .ok (.iload_n 3, 1) := by decide +kernel
theorem dX2_letterOf_27 : decode cX2_letterOf 27 = .ok (.bipush 10, 2) := by decide +kernel
theorem dX2_letterOf_29 : decode cX2_letterOf 29 = .ok (.idiv, 1) := by decide +kernel
theorem dX2_letterOf_30 : decode cX2_letterOf 30 = .ok (.istore_n 3, 1) := by decide +kernel
theorem dX2_letterOf_31 : decode cX2_letterOf 31 = .ok (.iinc 4 (-1), 3) := by decide +kernel
theorem dX2_letterOf_34 : decode cX2_letterOf 34 = .ok (.goto (-27), 3) := by decide +kernel
theorem dX2_letterOf_37 : decode cX2_letterOf 37 = .ok (.aload_n 0, 1) := by decide +kernel
theorem dX2_letterOf_38 : decode cX2_letterOf 38 = .ok (.iload_n 2, 1) := by decide +kernel
theorem dX2_letterOf_39 : decode cX2_letterOf 39 = .ok (.invokevirtual 27, 3) := by decide +kernel
theorem dX2_letterOf_42 : decode cX2_letterOf 42 = .ok (.ireturn, 1) := by decide +kernel
theorem dX2_restOf_0 : decode cX2_restOf 0 = .ok (.aload_n 0, 1) := by decide +kernel
theorem dX2_restOf_1 : decode cX2_restOf 1 = .ok (.getfield 15, 3) := by decide +kernel
theorem dX2_restOf_4 : decode cX2_restOf 4 = .ok (.iconst 1, 1) := by decide +kernel
theorem dX2_restOf_5 : decode cX2_restOf 5 = .ok (.if_icmp .ge 5, 3) := by decide +kernel
theorem dX2_restOf_8 : decode cX2_restOf 8 = .ok (.iconst 0, 1) := by decide +kernel
theorem dX2_restOf_9 : decode cX2_restOf 9 = .ok (.ireturn, 1) := by decide +kernel
theorem dX2_restOf_10 : decode cX2_restOf 10 = .ok (.iload_n 1, 1) := by decide +kernel
theorem dX2_restOf_11 : decode cX2_restOf 11 = .ok (.aload_n 0, 1) := by decide +kernel
theorem dX2_restOf_12 : decode cX2_restOf 12 = .ok (.getfield 15, 3) := by decide +kernel
theorem dX2_restOf_15 : decode cX2_restOf 15 = .ok (.irem, 1) := by decide +kernel
theorem dX2_restOf_16 : decode cX2_restOf 16 = .ok (.istore_n 2, 1) := by decide +kernel
theorem dX2_restOf_17 : decode cX2_restOf 17 = .ok (.iload_n 2, 1) := by decide +kernel
theorem dX2_restOf_18 : decode cX2_restOf 18 = .ok (.ifCond .ge 12, 3) := by decide +kernel
theorem dX2_restOf_21 : decode cX2_restOf 21 = .ok (.iload_n 2, 1) := by decide +kernel
theorem dX2_restOf_22 : decode cX2_restOf 22 = .ok (.aload_n 0, 1) := by decide +kernel
theorem dX2_restOf_23 : decode cX2_restOf 23 = .ok (.getfield 15, 3) := by decide +kernel
theorem dX2_restOf_26 : decode cX2_restOf 26 = .ok (.iadd, 1) := by decide +kernel
theorem dX2_restOf_27 : decode cX2_restOf 27 = .ok (.goto 4, 3) := by decide +kernel
theorem dX2_restOf_30 : decode cX2_restOf 30 = .ok (.iload_n 2, 1) := by decide +kernel
theorem dX2_restOf_31 : decode cX2_restOf 31 = .ok (.ireturn, 1) := by decide +kernel
theorem dX2_digitAt_0 : decode cX2_digitAt 0 = .ok (.iload_n 0, 1) := by decide +kernel
theorem dX2_digitAt_1 : decode cX2_digitAt 1 = .ok (.istore_n 2, 1) := by decide +kernel
theorem dX2_digitAt_2 : decode cX2_digitAt 2 = .ok (.iconst 5, 1) := by decide +kernel
theorem dX2_digitAt_3 : decode cX2_digitAt 3 = .ok (.istore_n 3, 1) := by decide +kernel
theorem dX2_digitAt_4 : decode cX2_digitAt 4 = .ok (.iload_n 3, 1) := by decide +kernel
theorem dX2_digitAt_5 : decode cX2_digitAt 5 = .ok (.iload_n 1, 1) := by decide +kernel
theorem dX2_digitAt_6 : decode cX2_digitAt 6 = .ok (.if_icmp .le 14, 3) := by decide +kernel
theorem dX2_digitAt_9 : decode cX2_digitAt 9 = .ok (.iload_n 2, 1) := by decide +kernel
theorem dX2_digitAt_10 : decode cX2_digitAt 10 = .ok (.bipush 10, 2) := by decide +kernel
theorem dX2_digitAt_12 : decode cX2_digitAt 12 = .ok (.idiv, 1) := by decide +kernel
theorem dX2_digitAt_13 : decode cX2_digitAt 13 = .ok (.istore_n 2, 1) := by decide +kernel
theorem dX2_digitAt_14 : decode cX2_digitAt 14 = .ok (.iinc 3 (-1), 3) := by decide +kernel
theorem dX2_digitAt_17 : decode cX2_digitAt 17 = .ok (.goto (-13), 3) := by decide +kernel
theorem dX2_digitAt_20 : decode cX2_digitAt 20 = .ok (.iload_n 2, 1) := by decide +kernel
theorem dX2_digitAt_21 : decode cX2_digitAt 21 = .ok (.bipush 10, 2) := by decide +kernel
theorem dX2_digitAt_23 : decode cX2_digitAt 23 = .ok (.irem, 1) := by decide +kernel
theorem dX2_digitAt_24 : decode cX2_digitAt 24 = .ok (.ireturn, 1) := by decide +kernel
theorem dX2_factorAt_0 : decode cX2_factorAt 0 = .ok (.aload_n 0, 1) := by decide +kernel
theorem dX2_factorAt_1 : decode cX2_factorAt 1 = .ok (.iload_n 1, 1) := by decide +kernel
theorem dX2_factorAt_2 : decode cX2_factorAt 2 = .ok (.invokevirtual 23, 3) := by decide +kernel
theorem dX2_factorAt_5 : decode cX2_factorAt 5 = .ok (.istore_n 3, 1) := by decide +kernel
theorem dX2_factorAt_6 : decode cX2_factorAt 6 = .ok (.iload_n 2, 1) := by decide +kernel
theorem dX2_factorAt_7 : decode cX2_factorAt 7 = .ok (.iconst 1, 1) := by decide +kernel
theorem dX2_factorAt_8 : decode cX2_factorAt 8 = .ok (.if_icmp .ne 15, 3) := by decide +kernel
theorem dX2_factorAt_11 : decode cX2_factorAt 11 = .ok (.iload_n 3, 1) := by decide +kernel
theorem dX2_factorAt_12 : decode cX2_factorAt 12 = .ok (.aload_n 0, 1) := by decide +kernel
theorem dX2_factorAt_13 : decode cX2_factorAt 13 = .ok (.iload_n 1, 1) := by decide +kernel
theorem dX2_factorAt_14 : decode cX2_factorAt 14 = .ok (.iconst 1, 1) := by decide +kernel
theorem dX2_factorAt_15 : decode cX2_factorAt 15 = .ok (.iadd, 1) := by decide +kernel
theorem dX2_factorAt_16 : decode cX2_factorAt 16 = .ok (.invokevirtual 23, 3) := by decide +kernel
theorem dX2_factorAt_19 : decode cX2_factorAt 19 = .ok (.isub, 1) := by decide +kernel
theorem dX2_factorAt_20 : decode cX2_factorAt 20 = .ok (.goto 4, 3) := by decide +kernel
theorem dX2_factorAt_23 : decode cX2_factorAt 23 = .ok (.iload_n 3, 1) := by decide +kernel
theorem dX2_factorAt_24 : decode cX2_factorAt 24 = .ok (.ireturn, 1) := by decide +kernel
theorem dX2_isHidden_0 : decode cX2_isHidden 0 = .ok (.aload_n 0, 1) := by decide +kernel
theorem dX2_isHidden_1 : decode cX2_isHidden 1 = .ok (.iload_n 1, 1) := by decide +kernel
theorem dX2_isHidden_2 : decode cX2_isHidden 2 = .ok (.iload_n 2, 1) := by decide +kernel
theorem dX2_isHidden_3 : decode cX2_isHidden 3 = .ok (.imul, 1) := by decide +kernel
theorem dX2_isHidden_4 : decode cX2_isHidden 4 = .ok (.invokevirtual 27, 3) := by decide +kernel
theorem dX2_isHidden_7 : decode cX2_isHidden 7 = .ok (.ifCond .ne 7, 3) := by decide +kernel
theorem dX2_isHidden_10 : decode cX2_isHidden 10 = .ok (.iconst 1, 1) := by decide +kernel
theorem dX2_isHidden_11 : decode cX2_isHidden 11 = .ok (.goto 4, 3) := by decide +kernel
theorem dX2_isHidden_14 : decode cX2_isHidden 14 = .ok (.iconst 0, 1) := by decide +kernel
theorem dX2_isHidden_15 : decode cX2_isHidden 15 = .ok (.ireturn, 1) := by decide +kernel
theorem dX2_hiddenPairsTried_0 : decode cX2_hiddenPairsTried 0 = .ok (.iconst 0, 1) := by decide +kernel
theorem dX2_hiddenPairsTried_1 : decode cX2_hiddenPairsTried 1 = .ok (.istore_n 2, 1) := by decide +kernel
theorem dX2_hiddenPairsTried_2 : decode cX2_hiddenPairsTried 2 = .ok (.iconst 0, 1) := by decide +kernel
theorem dX2_hiddenPairsTried_3 : decode cX2_hiddenPairsTried 3 = .ok (.istore_n 3, 1) := by decide +kernel
theorem dX2_hiddenPairsTried_4 : decode cX2_hiddenPairsTried 4 = .ok (.iload_n 3, 1) := by decide +kernel
theorem dX2_hiddenPairsTried_5 : decode cX2_hiddenPairsTried 5 = .ok (.bipush 9, 2) := by decide +kernel
theorem dX2_hiddenPairsTried_7 : decode cX2_hiddenPairsTried 7 = .ok (.if_icmp .gt 48, 3) := by decide +kernel
theorem dX2_hiddenPairsTried_10 : decode cX2_hiddenPairsTried 10 = .ok (.iload_n 3, 1) := by decide +kernel
theorem dX2_hiddenPairsTried_11 : decode cX2_hiddenPairsTried 11 = .ok (.iconst 1, 1) := by decide +kernel
theorem dX2_hiddenPairsTried_12 : decode cX2_hiddenPairsTried 12 = .ok (.iadd, 1) := by decide +kernel
theorem dX2_hiddenPairsTried_13 : decode cX2_hiddenPairsTried 13 = .ok (.istore 4, 2) := by decide +kernel
theorem dX2_hiddenPairsTried_15 : decode cX2_hiddenPairsTried 15 = .ok (.iload 4, 2) := by decide +kernel
theorem dX2_hiddenPairsTried_17 : decode cX2_hiddenPairsTried 17 = .ok (.bipush 9, 2) := by decide +kernel
theorem dX2_hiddenPairsTried_19 : decode cX2_hiddenPairsTried 19 = .ok (.if_icmp .gt 30, 3) := by decide +kernel
theorem dX2_hiddenPairsTried_22 : decode cX2_hiddenPairsTried 22 = .ok (.aload_n 0, 1) := by decide +kernel
theorem dX2_hiddenPairsTried_23 : decode cX2_hiddenPairsTried 23 = .ok (.iload_n 1, 1) := by decide +kernel
theorem dX2_hiddenPairsTried_24 : decode cX2_hiddenPairsTried 24 = .ok (.iload_n 3, 1) := by decide +kernel
theorem dX2_hiddenPairsTried_25 : decode cX2_hiddenPairsTried 25 = .ok (.imul, 1) := by decide +kernel
theorem dX2_hiddenPairsTried_26 : decode cX2_hiddenPairsTried 26 = .ok (.invokevirtual 27, 3) := by decide +kernel
theorem dX2_hiddenPairsTried_29 : decode cX2_hiddenPairsTried 29 = .ok (.aload_n 0, 1) := by decide +kernel
theorem dX2_hiddenPairsTried_30 : decode cX2_hiddenPairsTried 30 = .ok (.iload_n 1, 1) := by decide +kernel
theorem dX2_hiddenPairsTried_31 : decode cX2_hiddenPairsTried 31 = .ok (.iload 4, 2) := by decide +kernel
theorem dX2_hiddenPairsTried_33 : decode cX2_hiddenPairsTried 33 = .ok (.imul, 1) := by decide +kernel
theorem dX2_hiddenPairsTried_34 : decode cX2_hiddenPairsTried 34 = .ok (.invokevirtual 27, 3) := by decide +kernel
theorem dX2_hiddenPairsTried_37 : decode cX2_hiddenPairsTried 37 = .ok (.if_icmp .ne 6, 3) := by decide +kernel
theorem dX2_hiddenPairsTried_40 : decode cX2_hiddenPairsTried 40 = .ok (.iinc 2 1, 3) := by decide +kernel
theorem dX2_hiddenPairsTried_43 : decode cX2_hiddenPairsTried 43 = .ok (.iinc 4 1, 3) := by decide +kernel
theorem dX2_hiddenPairsTried_46 : decode cX2_hiddenPairsTried 46 = .ok (.goto (-31), 3) := by decide +kernel
theorem dX2_hiddenPairsTried_49 : decode cX2_hiddenPairsTried 49 = .ok (.iinc 3 1, 3) := by decide +kernel
theorem dX2_hiddenPairsTried_52 : decode cX2_hiddenPairsTried 52 = .ok (.goto (-48), 3) := by decide +kernel
theorem dX2_hiddenPairsTried_55 : decode cX2_hiddenPairsTried 55 = .ok (.iload_n 2, 1) := by decide +kernel
theorem dX2_hiddenPairsTried_56 : decode cX2_hiddenPairsTried 56 = .ok (.ireturn, 1) := by decide +kernel
theorem dX2_hiddenPairs_0 : decode cX2_hiddenPairs 0 = .ok (.iconst 0, 1) := by decide +kernel
theorem dX2_hiddenPairs_1 : decode cX2_hiddenPairs 1 = .ok (.istore_n 2, 1) := by decide +kernel
theorem dX2_hiddenPairs_2 : decode cX2_hiddenPairs 2 = .ok (.iconst 1, 1) := by decide +kernel
theorem dX2_hiddenPairs_3 : decode cX2_hiddenPairs 3 = .ok (.istore_n 3, 1) := by decide +kernel
theorem dX2_hiddenPairs_4 : decode cX2_hiddenPairs 4 = .ok (.iload_n 3, 1) := by decide +kernel
theorem dX2_hiddenPairs_5 : decode cX2_hiddenPairs 5 = .ok (.bipush 9, 2) := by decide +kernel
theorem dX2_hiddenPairs_7 : decode cX2_hiddenPairs 7 = .ok (.if_icmp .gt 25, 3) := by decide +kernel
theorem dX2_hiddenPairs_10 : decode cX2_hiddenPairs 10 = .ok (.aload_n 0, 1) := by decide +kernel
theorem dX2_hiddenPairs_11 : decode cX2_hiddenPairs 11 = .ok (.iload_n 1, 1) := by decide +kernel
theorem dX2_hiddenPairs_12 : decode cX2_hiddenPairs 12 = .ok (.iload_n 3, 1) := by decide +kernel
theorem dX2_hiddenPairs_13 : decode cX2_hiddenPairs 13 = .ok (.invokevirtual 30, 3) := by decide +kernel
theorem dX2_hiddenPairs_16 : decode cX2_hiddenPairs 16 = .ok (.ifCond .eq 10, 3) := by decide +kernel
theorem dX2_hiddenPairs_19 : decode cX2_hiddenPairs 19 = .ok (.iload_n 2, 1) := by decide +kernel
theorem dX2_hiddenPairs_20 : decode cX2_hiddenPairs 20 = .ok (.bipush 10, 2) := by decide +kernel
theorem dX2_hiddenPairs_22 : decode cX2_hiddenPairs 22 = .ok (.iload_n 3, 1) := by decide +kernel
theorem dX2_hiddenPairs_23 : decode cX2_hiddenPairs 23 = .ok (.isub, 1) := by decide +kernel
theorem dX2_hiddenPairs_24 : decode cX2_hiddenPairs 24 = .ok (.iadd, 1) := by decide +kernel
theorem dX2_hiddenPairs_25 : decode cX2_hiddenPairs 25 = .ok (.istore_n 2, 1) := by decide +kernel
theorem dX2_hiddenPairs_26 : decode cX2_hiddenPairs 26 = .ok (.iinc 3 1, 3) := by decide +kernel
theorem dX2_hiddenPairs_29 : decode cX2_hiddenPairs 29 = .ok (.goto (-25), 3) := by decide +kernel
theorem dX2_hiddenPairs_32 : decode cX2_hiddenPairs 32 = .ok (.iload_n 2, 1) := by decide +kernel
theorem dX2_hiddenPairs_33 : decode cX2_hiddenPairs 33 = .ok (.ireturn, 1) := by decide +kernel
theorem dX2_hiddenPairsWith_0 : decode cX2_hiddenPairsWith 0 = .ok (.iconst 0, 1) := by decide +kernel
theorem dX2_hiddenPairsWith_1 : decode cX2_hiddenPairsWith 1 = .ok (.istore_n 3, 1) := by decide +kernel
theorem dX2_hiddenPairsWith_2 : decode cX2_hiddenPairsWith 2 = .ok (.iconst 0, 1) := by decide +kernel
theorem dX2_hiddenPairsWith_3 : decode cX2_hiddenPairsWith 3 = .ok (.istore 4, 2) := by decide +kernel
theorem dX2_hiddenPairsWith_5 : decode cX2_hiddenPairsWith 5 = .ok (.iload 4, 2) := by decide +kernel
theorem dX2_hiddenPairsWith_7 : decode cX2_hiddenPairsWith 7 = .ok (.bipush 6, 2) := by decide +kernel
theorem dX2_hiddenPairsWith_9 : decode cX2_hiddenPairsWith 9 = .ok (.if_icmp .ge 79, 3) := by decide +kernel
theorem dX2_hiddenPairsWith_12 : decode cX2_hiddenPairsWith 12 = .ok (.iload 4, 2) := by decide +kernel
theorem dX2_hiddenPairsWith_14 : decode cX2_hiddenPairsWith 14 = .ok (.iload_n 1, 1) := by decide +kernel
theorem dX2_hiddenPairsWith_15 : decode cX2_hiddenPairsWith 15 = .ok (.if_icmp .ne 7, 3) := by decide +kernel
theorem dX2_hiddenPairsWith_18 : decode cX2_hiddenPairsWith 18 = .ok (.iload_n 2, 1) := by decide +kernel
theorem dX2_hiddenPairsWith_19 : decode cX2_hiddenPairsWith 19 = .ok (.goto 9, 3) := by decide +kernel
theorem dX2_hiddenPairsWith_22 : decode cX2_hiddenPairsWith 22 = .ok (.aload_n 0, 1) := by decide +kernel
theorem dX2_hiddenPairsWith_23 : decode cX2_hiddenPairsWith 23 = .ok (.iload 4, 2) := by decide +kernel
theorem dX2_hiddenPairsWith_25 : decode cX2_hiddenPairsWith 25 = .ok (.invokevirtual 23, 3) := by decide +kernel
theorem dX2_hiddenPairsWith_28 : decode cX2_hiddenPairsWith 28 = .ok (.istore 5, 2) := by decide +kernel
theorem dX2_hiddenPairsWith_30 : decode cX2_hiddenPairsWith 30 = .ok (.iload_n 3, 1) := by decide +kernel
theorem dX2_hiddenPairsWith_31 : decode cX2_hiddenPairsWith 31 = .ok (.aload_n 0, 1) := by decide +kernel
theorem dX2_hiddenPairsWith_32 : decode cX2_hiddenPairsWith 32 = .ok (.iload 5, 2) := by decide +kernel
theorem dX2_hiddenPairsWith_34 : decode cX2_hiddenPairsWith 34 = .ok (.invokevirtual 34, 3) := by decide +kernel
theorem dX2_hiddenPairsWith_37 : decode cX2_hiddenPairsWith 37 = .ok (.iadd, 1) := by decide +kernel
theorem dX2_hiddenPairsWith_38 : decode cX2_hiddenPairsWith 38 = .ok (.istore_n 3, 1) := by decide +kernel
theorem dX2_hiddenPairsWith_39 : decode cX2_hiddenPairsWith 39 = .ok (.iload 4, 2) := by decide +kernel
theorem dX2_hiddenPairsWith_41 : decode cX2_hiddenPairsWith 41 = .ok (.iconst 1, 1) := by decide +kernel
theorem dX2_hiddenPairsWith_42 : decode cX2_hiddenPairsWith 42 = .ok (.iadd, 1) := by decide +kernel
theorem dX2_hiddenPairsWith_43 : decode cX2_hiddenPairsWith 43 = .ok (.bipush 6, 2) := by decide +kernel
theorem dX2_hiddenPairsWith_45 : decode cX2_hiddenPairsWith 45 = .ok (.if_icmp .ge 37, 3) := by decide +kernel
theorem dX2_hiddenPairsWith_48 : decode cX2_hiddenPairsWith 48 = .ok (.iload 4, 2) := by decide +kernel
theorem dX2_hiddenPairsWith_50 : decode cX2_hiddenPairsWith 50 = .ok (.iconst 1, 1) := by decide +kernel
theorem dX2_hiddenPairsWith_51 : decode cX2_hiddenPairsWith 51 = .ok (.iadd, 1) := by decide +kernel
theorem dX2_hiddenPairsWith_52 : decode cX2_hiddenPairsWith 52 = .ok (.iload_n 1, 1) := by decide +kernel
theorem dX2_hiddenPairsWith_53 : decode cX2_hiddenPairsWith 53 = .ok (.if_icmp .ne 7, 3) := by decide +kernel
theorem dX2_hiddenPairsWith_56 : decode cX2_hiddenPairsWith 56 = .ok (.iload_n 2, 1) := by decide +kernel
theorem dX2_hiddenPairsWith_57 : decode cX2_hiddenPairsWith 57 = .ok (.goto 11, 3) := by decide +kernel
theorem dX2_hiddenPairsWith_60 : decode cX2_hiddenPairsWith 60 = .ok (.aload_n 0, 1) := by decide +kernel
theorem dX2_hiddenPairsWith_61 : decode cX2_hiddenPairsWith 61 = .ok (.iload 4, 2) := by decide +kernel
theorem dX2_hiddenPairsWith_63 : decode cX2_hiddenPairsWith 63 = .ok (.iconst 1, 1) := by decide +kernel
theorem dX2_hiddenPairsWith_64 : decode cX2_hiddenPairsWith 64 = .ok (.iadd, 1) := by decide +kernel
theorem dX2_hiddenPairsWith_65 : decode cX2_hiddenPairsWith 65 = .ok (.invokevirtual 23, 3) := by decide +kernel
theorem dX2_hiddenPairsWith_68 : decode cX2_hiddenPairsWith 68 = .ok (.istore 6, 2) := by decide +kernel
theorem dX2_hiddenPairsWith_70 : decode cX2_hiddenPairsWith 70 = .ok (.iload_n 3, 1) := by decide +kernel
theorem dX2_hiddenPairsWith_71 : decode cX2_hiddenPairsWith 71 = .ok (.aload_n 0, 1) := by decide +kernel
theorem dX2_hiddenPairsWith_72 : decode cX2_hiddenPairsWith 72 = .ok (.iload 5, 2) := by decide +kernel
theorem dX2_hiddenPairsWith_74 : decode cX2_hiddenPairsWith 74 = .ok (.iload 6, 2) := by decide +kernel
theorem dX2_hiddenPairsWith_76 : decode cX2_hiddenPairsWith 76 = .ok (.isub, 1) := by decide +kernel
theorem dX2_hiddenPairsWith_77 : decode cX2_hiddenPairsWith 77 = .ok (.invokevirtual 34, 3) := by decide +kernel
theorem dX2_hiddenPairsWith_80 : decode cX2_hiddenPairsWith 80 = .ok (.iadd, 1) := by decide +kernel
theorem dX2_hiddenPairsWith_81 : decode cX2_hiddenPairsWith 81 = .ok (.istore_n 3, 1) := by decide +kernel
theorem dX2_hiddenPairsWith_82 : decode cX2_hiddenPairsWith 82 = .ok (.iinc 4 1, 3) := by decide +kernel
theorem dX2_hiddenPairsWith_85 : decode cX2_hiddenPairsWith 85 = .ok (.goto (-80), 3) := by decide +kernel
theorem dX2_hiddenPairsWith_88 : decode cX2_hiddenPairsWith 88 = .ok (.iload_n 3, 1) := by decide +kernel
theorem dX2_hiddenPairsWith_89 : decode cX2_hiddenPairsWith 89 = .ok (.ireturn, 1) := by decide +kernel
theorem dX2_hidesNothing_0 : decode cX2_hidesNothing 0 = .ok (.iconst 0, 1) := by decide +kernel
theorem dX2_hidesNothing_1 : decode cX2_hidesNothing 1 = .ok (.istore_n 2, 1) := by decide +kernel
theorem dX2_hidesNothing_2 : decode cX2_hidesNothing 2 = .ok (.iload_n 2, 1) := by decide +kernel
theorem dX2_hidesNothing_3 : decode cX2_hidesNothing 3 = .ok (.iload_n 1, 1) := by decide +kernel
theorem dX2_hidesNothing_4 : decode cX2_hidesNothing 4 = .ok (.invokestatic 37, 3) := by decide +kernel
theorem dX2_hidesNothing_7 : decode cX2_hidesNothing 7 = .ok (.if_icmp .ge 24, 3) := by decide +kernel
theorem dX2_hidesNothing_10 : decode cX2_hidesNothing 10 = .ok (.aload_n 0, 1) := by decide +kernel
theorem dX2_hidesNothing_11 : decode cX2_hidesNothing 11 = .ok (.aload_n 0, 1) := by decide +kernel
theorem dX2_hidesNothing_12 : decode cX2_hidesNothing 12 = .ok (.iload_n 2, 1) := by decide +kernel
theorem dX2_hidesNothing_13 : decode cX2_hidesNothing 13 = .ok (.iload_n 1, 1) := by decide +kernel
theorem dX2_hidesNothing_14 : decode cX2_hidesNothing 14 = .ok (.invokevirtual 40, 3) := by decide +kernel
theorem dX2_hidesNothing_17 : decode cX2_hidesNothing 17 = .ok (.invokevirtual 34, 3) := by decide +kernel
theorem dX2_hidesNothing_20 : decode cX2_hidesNothing 20 = .ok (.ifCond .le 5, 3) := by decide +kernel
theorem dX2_hidesNothing_23 : decode cX2_hidesNothing 23 = .ok (.iconst 0, 1) := by decide +kernel
theorem dX2_hidesNothing_24 : decode cX2_hidesNothing 24 = .ok (.ireturn, 1) := by decide +kernel
theorem dX2_hidesNothing_25 : decode cX2_hidesNothing 25 = .ok (.iinc 2 1, 3) := by decide +kernel
theorem dX2_hidesNothing_28 : decode cX2_hidesNothing 28 = .ok (.goto (-26), 3) := by decide +kernel
theorem dX2_hidesNothing_31 : decode cX2_hidesNothing 31 = .ok (.iconst 1, 1) := by decide +kernel
theorem dX2_hidesNothing_32 : decode cX2_hidesNothing 32 = .ok (.ireturn, 1) := by decide +kernel
theorem dX2_hiddenMisreadings_0 : decode cX2_hiddenMisreadings 0 = .ok (.iconst 0, 1) := by decide +kernel
theorem dX2_hiddenMisreadings_1 : decode cX2_hiddenMisreadings 1 = .ok (.istore_n 2, 1) := by decide +kernel
theorem dX2_hiddenMisreadings_2 : decode cX2_hiddenMisreadings 2 = .ok (.iconst 0, 1) := by decide +kernel
theorem dX2_hiddenMisreadings_3 : decode cX2_hiddenMisreadings 3 = .ok (.istore_n 3, 1) := by decide +kernel
theorem dX2_hiddenMisreadings_4 : decode cX2_hiddenMisreadings 4 = .ok (.iload_n 3, 1) := by decide +kernel
theorem dX2_hiddenMisreadings_5 : decode cX2_hiddenMisreadings 5 = .ok (.bipush 6, 2) := by decide +kernel
theorem dX2_hiddenMisreadings_7 : decode cX2_hiddenMisreadings 7 = .ok (.if_icmp .ge 64, 3) := by decide +kernel
theorem dX2_hiddenMisreadings_10 : decode cX2_hiddenMisreadings 10 = .ok (.iload_n 1, 1) := by decide +kernel
theorem dX2_hiddenMisreadings_11 : decode cX2_hiddenMisreadings 11 = .ok (.iload_n 3, 1) := by decide +kernel
theorem dX2_hiddenMisreadings_12 : decode cX2_hiddenMisreadings 12 = .ok (.invokestatic 44, 3) := by decide +kernel
theorem dX2_hiddenMisreadings_15 : decode cX2_hiddenMisreadings 15 = .ok (.istore 4, 2) := by decide +kernel
theorem dX2_hiddenMisreadings_17 : decode cX2_hiddenMisreadings 17 = .ok (.aload_n 0, 1) := by decide +kernel
theorem dX2_hiddenMisreadings_18 : decode cX2_hiddenMisreadings 18 = .ok (.iload_n 3, 1) := by decide +kernel
theorem dX2_hiddenMisreadings_19 : decode cX2_hiddenMisreadings 19 = .ok (.iconst 0, 1) := by decide +kernel
theorem dX2_hiddenMisreadings_20 : decode cX2_hiddenMisreadings 20 = .ok (.invokevirtual 40, 3) := by decide +kernel
theorem dX2_hiddenMisreadings_23 : decode cX2_hiddenMisreadings 23 = .ok (.istore 5, 2) := by decide +kernel
theorem dX2_hiddenMisreadings_25 : decode cX2_hiddenMisreadings 25 = .ok (.iconst 0, 1) := by decide +kernel
theorem dX2_hiddenMisreadings_26 : decode cX2_hiddenMisreadings 26 = .ok (.istore 6, 2) := by decide +kernel
theorem dX2_hiddenMisreadings_28 : decode cX2_hiddenMisreadings 28 = .ok (.iload 6, 2) := by decide +kernel
theorem dX2_hiddenMisreadings_30 : decode cX2_hiddenMisreadings 30 = .ok (.bipush 9, 2) := by decide +kernel
theorem dX2_hiddenMisreadings_32 : decode cX2_hiddenMisreadings 32 = .ok (.if_icmp .gt 33, 3) := by decide +kernel
theorem dX2_hiddenMisreadings_35 : decode cX2_hiddenMisreadings 35 = .ok (.iload 6, 2) := by decide +kernel
theorem dX2_hiddenMisreadings_37 : decode cX2_hiddenMisreadings 37 = .ok (.iload 4, 2) := by decide +kernel
theorem dX2_hiddenMisreadings_39 : decode cX2_hiddenMisreadings 39 = .ok (.if_icmp .eq 20, 3) := by decide +kernel
theorem dX2_hiddenMisreadings_42 : decode cX2_hiddenMisreadings 42 = .ok (.aload_n 0, 1) := by decide +kernel
theorem dX2_hiddenMisreadings_43 : decode cX2_hiddenMisreadings 43 = .ok (.iload 5, 2) := by decide +kernel
theorem dX2_hiddenMisreadings_45 : decode cX2_hiddenMisreadings 45 = .ok (.iload 6, 2) := by decide +kernel
theorem dX2_hiddenMisreadings_47 : decode cX2_hiddenMisreadings 47 = .ok (.iload 4, 2) := by decide +kernel
theorem dX2_hiddenMisreadings_49 : decode cX2_hiddenMisreadings 49 = .ok (.isub, 1) := by decide +kernel
theorem dX2_hiddenMisreadings_50 : decode cX2_hiddenMisreadings 50 = .ok (.invokevirtual 30, 3) := by decide +kernel
theorem dX2_hiddenMisreadings_53 : decode cX2_hiddenMisreadings 53 = .ok (.ifCond .eq 6, 3) := by decide +kernel
theorem dX2_hiddenMisreadings_56 : decode cX2_hiddenMisreadings 56 = .ok (.iinc 2 1, 3) := by decide +kernel
theorem dX2_hiddenMisreadings_59 : decode cX2_hiddenMisreadings 59 = .ok (.iinc 6 1, 3) := by decide +kernel
theorem dX2_hiddenMisreadings_62 : decode cX2_hiddenMisreadings 62 = .ok (.goto (-34), 3) := by decide +kernel
theorem dX2_hiddenMisreadings_65 : decode cX2_hiddenMisreadings 65 = .ok (.iinc 3 1, 3) := by decide +kernel
theorem dX2_hiddenMisreadings_68 : decode cX2_hiddenMisreadings 68 = .ok (.goto (-64), 3) := by decide +kernel
theorem dX2_hiddenMisreadings_71 : decode cX2_hiddenMisreadings 71 = .ok (.iload_n 2, 1) := by decide +kernel
theorem dX2_hiddenMisreadings_72 : decode cX2_hiddenMisreadings 72 = .ok (.ireturn, 1) := by decide +kernel
theorem dX2_hiddenSwaps_0 : decode cX2_hiddenSwaps 0 = .ok (.iconst 0, 1) := by decide +kernel
theorem dX2_hiddenSwaps_1 : decode cX2_hiddenSwaps 1 = .ok (.istore_n 2, 1) := by decide +kernel
theorem dX2_hiddenSwaps_2 : decode cX2_hiddenSwaps 2 = .ok (.iconst 0, 1) := by decide +kernel
theorem dX2_hiddenSwaps_3 : decode cX2_hiddenSwaps 3 = .ok (.istore_n 3, 1) := by decide +kernel
theorem dX2_hiddenSwaps_4 : decode cX2_hiddenSwaps 4 = .ok (.iload_n 3, 1) := by decide +kernel
theorem dX2_hiddenSwaps_5 : decode cX2_hiddenSwaps 5 = .ok (.iconst 1, 1) := by decide +kernel
theorem dX2_hiddenSwaps_6 : decode cX2_hiddenSwaps 6 = .ok (.iadd, 1) := by decide +kernel
theorem dX2_hiddenSwaps_7 : decode cX2_hiddenSwaps 7 = .ok (.bipush 6, 2) := by decide +kernel
theorem dX2_hiddenSwaps_9 : decode cX2_hiddenSwaps 9 = .ok (.if_icmp .ge 51, 3) := by decide +kernel
theorem dX2_hiddenSwaps_12 : decode cX2_hiddenSwaps 12 = .ok (.iload_n 1, 1) := by decide +kernel
theorem dX2_hiddenSwaps_13 : decode cX2_hiddenSwaps 13 = .ok (.iload_n 3, 1) := by decide +kernel
theorem dX2_hiddenSwaps_14 : decode cX2_hiddenSwaps 14 = .ok (.iconst 1, 1) := by decide +kernel
theorem dX2_hiddenSwaps_15 : decode cX2_hiddenSwaps 15 = .ok (.iadd, 1) := by decide +kernel
theorem dX2_hiddenSwaps_16 : decode cX2_hiddenSwaps 16 = .ok (.invokestatic 44, 3) := by decide +kernel
theorem dX2_hiddenSwaps_19 : decode cX2_hiddenSwaps 19 = .ok (.iload_n 1, 1) := by decide +kernel
theorem dX2_hiddenSwaps_20 : decode cX2_hiddenSwaps 20 = .ok (.iload_n 3, 1) := by decide +kernel
theorem dX2_hiddenSwaps_21 : decode cX2_hiddenSwaps 21 = .ok (.invokestatic 44, 3) := by decide +kernel
theorem dX2_hiddenSwaps_24 : decode cX2_hiddenSwaps 24 = .ok (.isub, 1) := by decide +kernel
theorem dX2_hiddenSwaps_25 : decode cX2_hiddenSwaps 25 = .ok (.istore 4, 2) := by decide +kernel
theorem dX2_hiddenSwaps_27 : decode cX2_hiddenSwaps 27 = .ok (.aload_n 0, 1) := by decide +kernel
theorem dX2_hiddenSwaps_28 : decode cX2_hiddenSwaps 28 = .ok (.iload_n 3, 1) := by decide +kernel
theorem dX2_hiddenSwaps_29 : decode cX2_hiddenSwaps 29 = .ok (.iconst 1, 1) := by decide +kernel
theorem dX2_hiddenSwaps_30 : decode cX2_hiddenSwaps 30 = .ok (.invokevirtual 40, 3) := by decide +kernel
theorem dX2_hiddenSwaps_33 : decode cX2_hiddenSwaps 33 = .ok (.istore 5, 2) := by decide +kernel
theorem dX2_hiddenSwaps_35 : decode cX2_hiddenSwaps 35 = .ok (.iload 4, 2) := by decide +kernel
theorem dX2_hiddenSwaps_37 : decode cX2_hiddenSwaps 37 = .ok (.ifCond .eq 17, 3) := by decide +kernel
theorem dX2_hiddenSwaps_40 : decode cX2_hiddenSwaps 40 = .ok (.aload_n 0, 1) := by decide +kernel
theorem dX2_hiddenSwaps_41 : decode cX2_hiddenSwaps 41 = .ok (.iload 5, 2) := by decide +kernel
theorem dX2_hiddenSwaps_43 : decode cX2_hiddenSwaps 43 = .ok (.iload 4, 2) := by decide +kernel
theorem dX2_hiddenSwaps_45 : decode cX2_hiddenSwaps 45 = .ok (.invokevirtual 30, 3) := by decide +kernel
theorem dX2_hiddenSwaps_48 : decode cX2_hiddenSwaps 48 = .ok (.ifCond .eq 6, 3) := by decide +kernel
theorem dX2_hiddenSwaps_51 : decode cX2_hiddenSwaps 51 = .ok (.iinc 2 1, 3) := by decide +kernel
theorem dX2_hiddenSwaps_54 : decode cX2_hiddenSwaps 54 = .ok (.iinc 3 1, 3) := by decide +kernel
theorem dX2_hiddenSwaps_57 : decode cX2_hiddenSwaps 57 = .ok (.goto (-53), 3) := by decide +kernel
theorem dX2_hiddenSwaps_60 : decode cX2_hiddenSwaps 60 = .ok (.iload_n 2, 1) := by decide +kernel
theorem dX2_hiddenSwaps_61 : decode cX2_hiddenSwaps 61 = .ok (.ireturn, 1) := by decide +kernel
theorem dX2_slipKind_0 : decode cX2_slipKind 0 = .ok (.iload_n 3, 1) := by decide +kernel
theorem dX2_slipKind_1 : decode cX2_slipKind 1 = .ok (.aload_n 0, 1) := by decide +kernel
theorem dX2_slipKind_2 : decode cX2_slipKind 2 = .ok (.getfield 15, 3) := by decide +kernel
theorem dX2_slipKind_5 : decode cX2_slipKind 5 = .ok (.if_icmp .lt 5, 3) := by decide +kernel
theorem dX2_slipKind_8 : decode cX2_slipKind 8 = .ok (.iconst (-1), 1) := by decide +kernel
theorem dX2_slipKind_9 : decode cX2_slipKind 9 = .ok (.ireturn, 1) := by decide +kernel
theorem dX2_slipKind_10 : decode cX2_slipKind 10 = .ok (.aload_n 0, 1) := by decide +kernel
theorem dX2_slipKind_11 : decode cX2_slipKind 11 = .ok (.iload_n 1, 1) := by decide +kernel
theorem dX2_slipKind_12 : decode cX2_slipKind 12 = .ok (.invokevirtual 47, 3) := by decide +kernel
theorem dX2_slipKind_15 : decode cX2_slipKind 15 = .ok (.iload_n 3, 1) := by decide +kernel
theorem dX2_slipKind_16 : decode cX2_slipKind 16 = .ok (.if_icmp .ne 7, 3) := by decide +kernel
theorem dX2_slipKind_19 : decode cX2_slipKind 19 = .ok (.iconst 1, 1) := by decide +kernel
theorem dX2_slipKind_20 : decode cX2_slipKind 20 = .ok (.goto 4, 3) := by decide +kernel
theorem dX2_slipKind_23 : decode cX2_slipKind 23 = .ok (.iconst 0, 1) := by decide +kernel
theorem dX2_slipKind_24 : decode cX2_slipKind 24 = .ok (.istore 4, 2) := by decide +kernel
theorem dX2_slipKind_26 : decode cX2_slipKind 26 = .ok (.iload_n 1, 1) := by decide +kernel
theorem dX2_slipKind_27 : decode cX2_slipKind 27 = .ok (.iload_n 2, 1) := by decide +kernel
theorem dX2_slipKind_28 : decode cX2_slipKind 28 = .ok (.if_icmp .ne 14, 3) := by decide +kernel
theorem dX2_slipKind_31 : decode cX2_slipKind 31 = .ok (.iload 4, 2) := by decide +kernel
theorem dX2_slipKind_33 : decode cX2_slipKind 33 = .ok (.ifCond .eq 7, 3) := by decide +kernel
theorem dX2_slipKind_36 : decode cX2_slipKind 36 = .ok (.iconst 3, 1) := by decide +kernel
theorem dX2_slipKind_37 : decode cX2_slipKind 37 = .ok (.goto 4, 3) := by decide +kernel
theorem dX2_slipKind_40 : decode cX2_slipKind 40 = .ok (.iconst 2, 1) := by decide +kernel
theorem dX2_slipKind_41 : decode cX2_slipKind 41 = .ok (.ireturn, 1) := by decide +kernel
theorem dX2_slipKind_42 : decode cX2_slipKind 42 = .ok (.iload 4, 2) := by decide +kernel
theorem dX2_slipKind_44 : decode cX2_slipKind 44 = .ok (.ifCond .eq 11, 3) := by decide +kernel
theorem dX2_slipKind_47 : decode cX2_slipKind 47 = .ok (.iload_n 1, 1) := by decide +kernel
theorem dX2_slipKind_48 : decode cX2_slipKind 48 = .ok (.iload_n 2, 1) := by decide +kernel
theorem dX2_slipKind_49 : decode cX2_slipKind 49 = .ok (.invokestatic 50, 3) := by decide +kernel
theorem dX2_slipKind_52 : decode cX2_slipKind 52 = .ok (.goto 4, 3) := by decide +kernel
theorem dX2_slipKind_55 : decode cX2_slipKind 55 = .ok (.iconst (-1), 1) := by decide +kernel
theorem dX2_slipKind_56 : decode cX2_slipKind 56 = .ok (.ireturn, 1) := by decide +kernel
theorem dX2_digitSlip_0 : decode cX2_digitSlip 0 = .ok (.iconst 0, 1) := by decide +kernel
theorem dX2_digitSlip_1 : decode cX2_digitSlip 1 = .ok (.istore_n 2, 1) := by decide +kernel
theorem dX2_digitSlip_2 : decode cX2_digitSlip 2 = .ok (.iconst 0, 1) := by decide +kernel
theorem dX2_digitSlip_3 : decode cX2_digitSlip 3 = .ok (.istore_n 3, 1) := by decide +kernel
theorem dX2_digitSlip_4 : decode cX2_digitSlip 4 = .ok (.iconst 0, 1) := by decide +kernel
theorem dX2_digitSlip_5 : decode cX2_digitSlip 5 = .ok (.istore 4, 2) := by decide +kernel
theorem dX2_digitSlip_7 : decode cX2_digitSlip 7 = .ok (.iload 4, 2) := by decide +kernel
theorem dX2_digitSlip_9 : decode cX2_digitSlip 9 = .ok (.bipush 6, 2) := by decide +kernel
theorem dX2_digitSlip_11 : decode cX2_digitSlip 11 = .ok (.if_icmp .ge 34, 3) := by decide +kernel
theorem dX2_digitSlip_14 : decode cX2_digitSlip 14 = .ok (.iload_n 0, 1) := by decide +kernel
theorem dX2_digitSlip_15 : decode cX2_digitSlip 15 = .ok (.iload 4, 2) := by decide +kernel
theorem dX2_digitSlip_17 : decode cX2_digitSlip 17 = .ok (.invokestatic 44, 3) := by decide +kernel
theorem dX2_digitSlip_20 : decode cX2_digitSlip 20 = .ok (.iload_n 1, 1) := by decide +kernel
theorem dX2_digitSlip_21 : decode cX2_digitSlip 21 = .ok (.iload 4, 2) := by decide +kernel
theorem dX2_digitSlip_23 : decode cX2_digitSlip 23 = .ok (.invokestatic 44, 3) := by decide +kernel
theorem dX2_digitSlip_26 : decode cX2_digitSlip 26 = .ok (.if_icmp .eq 13, 3) := by decide +kernel
theorem dX2_digitSlip_29 : decode cX2_digitSlip 29 = .ok (.iload_n 2, 1) := by decide +kernel
theorem dX2_digitSlip_30 : decode cX2_digitSlip 30 = .ok (.ifCond .ne 6, 3) := by decide +kernel
theorem dX2_digitSlip_33 : decode cX2_digitSlip 33 = .ok (.iload 4, 2) := by decide +kernel
theorem dX2_digitSlip_35 : decode cX2_digitSlip 35 = .ok (.istore_n 3, 1) := by decide +kernel
theorem dX2_digitSlip_36 : decode cX2_digitSlip 36 = .ok (.iinc 2 1, 3) := by decide +kernel
theorem dX2_digitSlip_39 : decode cX2_digitSlip 39 = .ok (.iinc 4 1, 3) := by decide +kernel
theorem dX2_digitSlip_42 : decode cX2_digitSlip 42 = .ok (.goto (-35), 3) := by decide +kernel
theorem dX2_digitSlip_45 : decode cX2_digitSlip 45 = .ok (.iload_n 2, 1) := by decide +kernel
theorem dX2_digitSlip_46 : decode cX2_digitSlip 46 = .ok (.iconst 1, 1) := by decide +kernel
theorem dX2_digitSlip_47 : decode cX2_digitSlip 47 = .ok (.if_icmp .ne 5, 3) := by decide +kernel
theorem dX2_digitSlip_50 : decode cX2_digitSlip 50 = .ok (.iconst 0, 1) := by decide +kernel
theorem dX2_digitSlip_51 : decode cX2_digitSlip 51 = .ok (.ireturn, 1) := by decide +kernel
theorem dX2_digitSlip_52 : decode cX2_digitSlip 52 = .ok (.iload_n 2, 1) := by decide +kernel
theorem dX2_digitSlip_53 : decode cX2_digitSlip 53 = .ok (.iconst 2, 1) := by decide +kernel
theorem dX2_digitSlip_54 : decode cX2_digitSlip 54 = .ok (.if_icmp .ne 16, 3) := by decide +kernel
theorem dX2_digitSlip_57 : decode cX2_digitSlip 57 = .ok (.iload_n 0, 1) := by decide +kernel
theorem dX2_digitSlip_58 : decode cX2_digitSlip 58 = .ok (.iload_n 1, 1) := by decide +kernel
theorem dX2_digitSlip_59 : decode cX2_digitSlip 59 = .ok (.iload_n 3, 1) := by decide +kernel
theorem dX2_digitSlip_60 : decode cX2_digitSlip 60 = .ok (.invokestatic 53, 3) := by decide +kernel
theorem dX2_digitSlip_63 : decode cX2_digitSlip 63 = .ok (.ifCond .eq 7, 3) := by decide +kernel
theorem dX2_digitSlip_66 : decode cX2_digitSlip 66 = .ok (.iconst 1, 1) := by decide +kernel
theorem dX2_digitSlip_67 : decode cX2_digitSlip 67 = .ok (.goto 4, 3) := by decide +kernel
theorem dX2_digitSlip_70 : decode cX2_digitSlip 70 = .ok (.iconst 0, 1) := by decide +kernel
theorem dX2_digitSlip_71 : decode cX2_digitSlip 71 = .ok (.istore 4, 2) := by decide +kernel
theorem dX2_digitSlip_73 : decode cX2_digitSlip 73 = .ok (.iload 4, 2) := by decide +kernel
theorem dX2_digitSlip_75 : decode cX2_digitSlip 75 = .ok (.ifCond .eq 7, 3) := by decide +kernel
theorem dX2_digitSlip_78 : decode cX2_digitSlip 78 = .ok (.iconst 1, 1) := by decide +kernel
theorem dX2_digitSlip_79 : decode cX2_digitSlip 79 = .ok (.goto 4, 3) := by decide +kernel
theorem dX2_digitSlip_82 : decode cX2_digitSlip 82 = .ok (.iconst (-1), 1) := by decide +kernel
theorem dX2_digitSlip_83 : decode cX2_digitSlip 83 = .ok (.ireturn, 1) := by decide +kernel
theorem dX2_isSwapped_0 : decode cX2_isSwapped 0 = .ok (.iload_n 0, 1) := by decide +kernel
theorem dX2_isSwapped_1 : decode cX2_isSwapped 1 = .ok (.iload_n 2, 1) := by decide +kernel
theorem dX2_isSwapped_2 : decode cX2_isSwapped 2 = .ok (.invokestatic 44, 3) := by decide +kernel
theorem dX2_isSwapped_5 : decode cX2_isSwapped 5 = .ok (.iload_n 1, 1) := by decide +kernel
theorem dX2_isSwapped_6 : decode cX2_isSwapped 6 = .ok (.iload_n 2, 1) := by decide +kernel
theorem dX2_isSwapped_7 : decode cX2_isSwapped 7 = .ok (.iconst 1, 1) := by decide +kernel
theorem dX2_isSwapped_8 : decode cX2_isSwapped 8 = .ok (.iadd, 1) := by decide +kernel
theorem dX2_isSwapped_9 : decode cX2_isSwapped 9 = .ok (.invokestatic 44, 3) := by decide +kernel
theorem dX2_isSwapped_12 : decode cX2_isSwapped 12 = .ok (.if_icmp .ne 22, 3) := by decide +kernel
theorem dX2_isSwapped_15 : decode cX2_isSwapped 15 = .ok (.iload_n 0, 1) := by decide +kernel
theorem dX2_isSwapped_16 : decode cX2_isSwapped 16 = .ok (.iload_n 2, 1) := by decide +kernel
theorem dX2_isSwapped_17 : decode cX2_isSwapped 17 = .ok (.iconst 1, 1) := by decide +kernel
theorem dX2_isSwapped_18 : decode cX2_isSwapped 18 = .ok (.iadd, 1) := by decide +kernel
theorem dX2_isSwapped_19 : decode cX2_isSwapped 19 = .ok (.invokestatic 44, 3) := by decide +kernel
theorem dX2_isSwapped_22 : decode cX2_isSwapped 22 = .ok (.iload_n 1, 1) := by decide +kernel
theorem dX2_isSwapped_23 : decode cX2_isSwapped 23 = .ok (.iload_n 2, 1) := by decide +kernel
theorem dX2_isSwapped_24 : decode cX2_isSwapped 24 = .ok (.invokestatic 44, 3) := by decide +kernel
theorem dX2_isSwapped_27 : decode cX2_isSwapped 27 = .ok (.if_icmp .ne 7, 3) := by decide +kernel
theorem dX2_isSwapped_30 : decode cX2_isSwapped 30 = .ok (.iconst 1, 1) := by decide +kernel
theorem dX2_isSwapped_31 : decode cX2_isSwapped 31 = .ok (.goto 4, 3) := by decide +kernel
theorem dX2_isSwapped_34 : decode cX2_isSwapped 34 = .ok (.iconst 0, 1) := by decide +kernel
theorem dX2_isSwapped_35 : decode cX2_isSwapped 35 = .ok (.ireturn, 1) := by decide +kernel
theorem dX3_init_0 : decode cX3_init 0 = .ok (.aload_n 0, 1) := by decide +kernel
theorem dX3_init_1 : decode cX3_init 1 = .ok (.invokespecial 3, 3) := by decide +kernel
theorem dX3_init_4 : decode cX3_init 4 = .ok (.aload_n 0, 1) := by decide +kernel
theorem dX3_init_5 : decode cX3_init 5 = .ok (.bipush 60, 2) := by decide +kernel
theorem dX3_init_7 : decode cX3_init 7 = .ok (.newarray .int, 2) := by decide +kernel
theorem dX3_init_9 : decode cX3_init 9 = .ok (.putfield 9, 3) := by decide +kernel
theorem dX3_init_12 : decode cX3_init 12 = .ok (.return_, 1) := by decide +kernel
theorem dX3_isFull_0 : decode cX3_isFull 0 = .ok (.aload_n 0, 1) := by decide +kernel
theorem dX3_isFull_1 : decode cX3_isFull 1 = .ok (.getfield 15, 3) := by decide +kernel
theorem dX3_isFull_4 : decode cX3_isFull 4 = .ok (.aload_n 0, 1) := by decide +kernel
theorem dX3_isFull_5 : decode cX3_isFull 5 = .ok (.getfield 9, 3) := by decide +kernel
theorem dX3_isFull_8 : decode cX3_isFull 8 = .ok (.arraylength, 1) := by decide +kernel
theorem dX3_isFull_9 : decode cX3_isFull 9 = .ok (.if_icmp .lt 7, 3) := by decide +kernel
theorem dX3_isFull_12 : decode cX3_isFull 12 = .ok (.iconst 1, 1) := by decide +kernel
theorem dX3_isFull_13 : decode cX3_isFull 13 = .ok (.goto 4, 3) := by decide +kernel
theorem dX3_isFull_16 : decode cX3_isFull 16 = .ok (.iconst 0, 1) := by decide +kernel
theorem dX3_isFull_17 : decode cX3_isFull 17 = .ok (.ireturn, 1) := by decide +kernel
theorem dX3_add_0 : decode cX3_add 0 = .ok (.aload_n 0, 1) := by decide +kernel
theorem dX3_add_1 : decode cX3_add 1 = .ok (.getfield 15, 3) := by decide +kernel
theorem dX3_add_4 : decode cX3_add 4 = .ok (.ifCond .lt 35, 3) := by decide +kernel
theorem dX3_add_7 : decode cX3_add 7 = .ok (.aload_n 0, 1) := by decide +kernel
theorem dX3_add_8 : decode cX3_add 8 = .ok (.getfield 15, 3) := by decide +kernel
theorem dX3_add_11 : decode cX3_add 11 = .ok (.aload_n 0, 1) := by decide +kernel
theorem dX3_add_12 : decode cX3_add 12 = .ok (.getfield 9, 3) := by decide +kernel
theorem dX3_add_15 : decode cX3_add 15 = .ok (.arraylength, 1) := by decide +kernel
theorem dX3_add_16 : decode cX3_add 16 = .ok (.if_icmp .ge 23, 3) := by decide +kernel
theorem dX3_add_19 : decode cX3_add 19 = .ok (.aload_n 0, 1) := by decide +kernel
theorem dX3_add_20 : decode cX3_add 20 = .ok (.getfield 9, 3) := by decide +kernel
theorem dX3_add_23 : decode cX3_add 23 = .ok (.aload_n 0, 1) := by decide +kernel
theorem dX3_add_24 : decode cX3_add 24 = .ok (.getfield 15, 3) := by decide +kernel
theorem dX3_add_27 : decode cX3_add 27 = .ok (.iload_n 1, 1) := by decide +kernel
theorem dX3_add_28 : decode cX3_add 28 = .ok (.iastore, 1) := by decide +kernel
theorem dX3_add_29 : decode cX3_add 29 = .ok (.aload_n 0, 1) := by decide +kernel
theorem dX3_add_30 : decode cX3_add 30 = .ok (.dup, 1) := by decide +kernel
theorem dX3_add_31 : decode cX3_add 31 = .ok (.getfield 15, 3) := by decide +kernel
theorem dX3_add_34 : decode cX3_add 34 = .ok (.iconst 1, 1) := by decide +kernel
theorem dX3_add_35 : decode cX3_add 35 = .ok (.iadd, 1) := by decide +kernel
theorem dX3_add_36 : decode cX3_add 36 = .ok (.putfield 15, 3) := by decide +kernel
theorem dX3_add_39 : decode cX3_add 39 = .ok (.aload_n 0, 1) := by decide +kernel
theorem dX3_add_40 : decode cX3_add 40 = .ok (.getfield 15, 3) := by decide +kernel
theorem dX3_add_43 : decode cX3_add 43 = .ok (.ireturn, 1) := by decide +kernel
theorem dX3_clear_0 : decode cX3_clear 0 = .ok (.aload_n 0, 1) := by decide +kernel
theorem dX3_clear_1 : decode cX3_clear 1 = .ok (.getfield 15, 3) := by decide +kernel
theorem dX3_clear_4 : decode cX3_clear 4 = .ok (.istore_n 1, 1) := by decide +kernel
theorem dX3_clear_5 : decode cX3_clear 5 = .ok (.aload_n 0, 1) := by decide +kernel
theorem dX3_clear_6 : decode cX3_clear 6 = .ok (.iconst 0, 1) := by decide +kernel
theorem dX3_clear_7 : decode cX3_clear 7 = .ok (.putfield 15, 3) := by decide +kernel
theorem dX3_clear_10 : decode cX3_clear 10 = .ok (.iload_n 1, 1) := by decide +kernel
theorem dX3_clear_11 : decode cX3_clear 11 = .ok (.ireturn, 1) := by decide +kernel
theorem dX3_signAt_0 : decode cX3_signAt 0 = .ok (.iload_n 1, 1) := by decide +kernel
theorem dX3_signAt_1 : decode cX3_signAt 1 = .ok (.ifCond .lt 29, 3) := by decide +kernel
theorem dX3_signAt_4 : decode cX3_signAt 4 = .ok (.iload_n 1, 1) := by decide +kernel
theorem dX3_signAt_5 : decode cX3_signAt 5 = .ok (.aload_n 0, 1) := by decide +kernel
theorem dX3_signAt_6 : decode cX3_signAt 6 = .ok (.getfield 15, 3) := by decide +kernel
theorem dX3_signAt_9 : decode cX3_signAt 9 = .ok (.if_icmp .ge 21, 3) := by decide +kernel
theorem dX3_signAt_12 : decode cX3_signAt 12 = .ok (.iload_n 1, 1) := by decide +kernel
theorem dX3_signAt_13 : decode cX3_signAt 13 = .ok (.aload_n 0, 1) := by decide +kernel
theorem dX3_signAt_14 : decode cX3_signAt 14 = .ok (.getfield 9, 3) := by decide +kernel
theorem dX3_signAt_17 : decode cX3_signAt 17 = .ok (.arraylength, 1) := by decide +kernel
theorem dX3_signAt_18 : decode cX3_signAt 18 = .ok (.if_icmp .ge 12, 3) := by decide +kernel
theorem dX3_signAt_21 : decode cX3_signAt 21 = .ok (.aload_n 0, 1) := by decide +kernel
theorem dX3_signAt_22 : decode cX3_signAt 22 = .ok (.getfield 9, 3) := by decide +kernel
theorem dX3_signAt_25 : decode cX3_signAt 25 = .ok (.iload_n 1, 1) := by decide +kernel
theorem dX3_signAt_26 : decode cX3_signAt 26 = .ok (.iaload, 1) := by decide +kernel
theorem dX3_signAt_27 : decode cX3_signAt 27 = .ok (.goto 4, 3) := by decide +kernel
theorem dX3_signAt_30 : decode cX3_signAt 30 = .ok (.iconst 0, 1) := by decide +kernel
theorem dX3_signAt_31 : decode cX3_signAt 31 = .ok (.ireturn, 1) := by decide +kernel
theorem dX3_numberIn_0 : decode cX3_numberIn 0 = .ok (.iconst 0, 1) := by decide +kernel
theorem dX3_numberIn_1 : decode cX3_numberIn 1 = .ok (.istore_n 3, 1) := by decide +kernel
theorem dX3_numberIn_2 : decode cX3_numberIn 2 = .ok (.iload_n 1, 1) := by decide +kernel
theorem dX3_numberIn_3 : decode cX3_numberIn 3 = .ok (.istore 4, 2) := by decide +kernel
theorem dX3_numberIn_5 : decode cX3_numberIn 5 = .ok (.iload 4, 2) := by decide +kernel
theorem dX3_numberIn_7 : decode cX3_numberIn 7 = .ok (.iload_n 2, 1) := by decide +kernel
theorem dX3_numberIn_8 : decode cX3_numberIn 8 = .ok (.if_icmp .ge 24, 3) := by decide +kernel
theorem dX3_numberIn_11 : decode cX3_numberIn 11 = .ok (.iload_n 3, 1) := by decide +kernel
theorem dX3_numberIn_12 : decode cX3_numberIn 12 = .ok (.bipush 10, 2) := by decide +kernel
theorem dX3_numberIn_14 : decode cX3_numberIn 14 = .ok (.imul, 1) := by decide +kernel
theorem dX3_numberIn_15 : decode cX3_numberIn 15 = .ok (.aload_n 0, 1) := by decide +kernel
theorem dX3_numberIn_16 : decode cX3_numberIn 16 = .ok (.iload 4, 2) := by decide +kernel
theorem dX3_numberIn_18 : decode cX3_numberIn 18 = .ok (.invokevirtual 19, 3) := by decide +kernel
theorem dX3_numberIn_21 : decode cX3_numberIn 21 = .ok (.iadd, 1) := by decide +kernel
theorem dX3_numberIn_22 : decode cX3_numberIn 22 = .ok (.bipush 48, 2) := by decide +kernel
theorem dX3_numberIn_24 : decode cX3_numberIn 24 = .ok (.isub, 1) := by decide +kernel
theorem dX3_numberIn_25 : decode cX3_numberIn 25 = .ok (.istore_n 3, 1) := by decide +kernel
theorem dX3_numberIn_26 : decode cX3_numberIn 26 = .ok (.iinc 4 1, 3) := by decide +kernel
theorem dX3_numberIn_29 : decode cX3_numberIn 29 = .ok (.goto (-24), 3) := by decide +kernel
theorem dX3_numberIn_32 : decode cX3_numberIn 32 = .ok (.iload_n 3, 1) := by decide +kernel
theorem dX3_numberIn_33 : decode cX3_numberIn 33 = .ok (.ireturn, 1) := by decide +kernel
theorem dX3_errorIndex_0 : decode cX3_errorIndex 0 = .ok (.iconst 0, 1) := by decide +kernel
theorem dX3_errorIndex_1 : decode cX3_errorIndex 1 = .ok (.istore_n 1, 1) := by decide +kernel
theorem dX3_errorIndex_2 : decode cX3_errorIndex 2 = .ok (.iconst 0, 1) := by decide +kernel
theorem dX3_errorIndex_3 : decode cX3_errorIndex 3 = .ok (.istore_n 2, 1) := by decide +kernel
theorem dX3_errorIndex_4 : decode cX3_errorIndex 4 = .ok (.iload_n 2, 1) := by decide +kernel
theorem dX3_errorIndex_5 : decode cX3_errorIndex 5 = .ok (.aload_n 0, 1) := by decide +kernel
theorem dX3_errorIndex_6 : decode cX3_errorIndex 6 = .ok (.getfield 15, 3) := by decide +kernel
theorem dX3_errorIndex_9 : decode cX3_errorIndex 9 = .ok (.if_icmp .ge 34, 3) := by decide +kernel
theorem dX3_errorIndex_12 : decode cX3_errorIndex 12 = .ok (.aload_n 0, 1) := by decide +kernel
theorem dX3_errorIndex_13 : decode cX3_errorIndex 13 = .ok (.iload_n 1, 1) := by decide +kernel
theorem dX3_errorIndex_14 : decode cX3_errorIndex 14 = .ok (.iload_n 2, 1) := by decide +kernel
theorem dX3_errorIndex_15 : decode cX3_errorIndex 15 = .ok (.invokevirtual 23, 3) := by decide +kernel
theorem dX3_errorIndex_18 : decode cX3_errorIndex 18 = .ok (.ifCond .ne 5, 3) := by decide +kernel
theorem dX3_errorIndex_21 : decode cX3_errorIndex 21 = .ok (.iload_n 2, 1) := by decide +kernel
theorem dX3_errorIndex_22 : decode cX3_errorIndex 22 = .ok (.ireturn, 1) := by decide +kernel
theorem dX3_errorIndex_23 : decode cX3_errorIndex 23 = .ok (.aload_n 0, 1) := by decide +kernel
theorem dX3_errorIndex_24 : decode cX3_errorIndex 24 = .ok (.iload_n 2, 1) := by decide +kernel
theorem dX3_errorIndex_25 : decode cX3_errorIndex 25 = .ok (.invokevirtual 19, 3) := by decide +kernel
theorem dX3_errorIndex_28 : decode cX3_errorIndex 28 = .ok (.bipush 59, 2) := by decide +kernel
theorem dX3_errorIndex_30 : decode cX3_errorIndex 30 = .ok (.if_icmp .ne 7, 3) := by decide +kernel
theorem dX3_errorIndex_33 : decode cX3_errorIndex 33 = .ok (.iload_n 2, 1) := by decide +kernel
theorem dX3_errorIndex_34 : decode cX3_errorIndex 34 = .ok (.iconst 1, 1) := by decide +kernel
theorem dX3_errorIndex_35 : decode cX3_errorIndex 35 = .ok (.iadd, 1) := by decide +kernel
theorem dX3_errorIndex_36 : decode cX3_errorIndex 36 = .ok (.istore_n 1, 1) := by decide +kernel
theorem dX3_errorIndex_37 : decode cX3_errorIndex 37 = .ok (.iinc 2 1, 3) := by decide +kernel
theorem dX3_errorIndex_40 : decode cX3_errorIndex 40 = .ok (.goto (-36), 3) := by decide +kernel
theorem dX3_errorIndex_43 : decode cX3_errorIndex 43 = .ok (.aload_n 0, 1) := by decide +kernel
theorem dX3_errorIndex_44 : decode cX3_errorIndex 44 = .ok (.getfield 15, 3) := by decide +kernel
theorem dX3_errorIndex_47 : decode cX3_errorIndex 47 = .ok (.ireturn, 1) := by decide +kernel
theorem dX3_isComplete_0 : decode cX3_isComplete 0 = .ok (.aload_n 0, 1) := by decide +kernel
theorem dX3_isComplete_1 : decode cX3_isComplete 1 = .ok (.invokevirtual 27, 3) := by decide +kernel
theorem dX3_isComplete_4 : decode cX3_isComplete 4 = .ok (.aload_n 0, 1) := by decide +kernel
theorem dX3_isComplete_5 : decode cX3_isComplete 5 = .ok (.getfield 15, 3) := by decide +kernel
theorem dX3_isComplete_8 : decode cX3_isComplete 8 = .ok (.if_icmp .ge 5, 3) := by decide +kernel
theorem dX3_isComplete_11 : decode cX3_isComplete 11 = .ok (.iconst 0, 1) := by decide +kernel
theorem dX3_isComplete_12 : decode cX3_isComplete 12 = .ok (.ireturn, 1) := by decide +kernel
theorem dX3_isComplete_13 : decode cX3_isComplete 13 = .ok (.iconst 0, 1) := by decide +kernel
theorem dX3_isComplete_14 : decode cX3_isComplete 14 = .ok (.istore_n 1, 1) := by decide +kernel
theorem dX3_isComplete_15 : decode cX3_isComplete 15 = .ok (.iconst 0, 1) := by decide +kernel
theorem dX3_isComplete_16 : decode cX3_isComplete 16 = .ok (.istore_n 2, 1) := by decide +kernel
theorem dX3_isComplete_17 : decode cX3_isComplete 17 = .ok (.iload_n 2, 1) := by decide +kernel
theorem dX3_isComplete_18 : decode cX3_isComplete 18 = .ok (.aload_n 0, 1) := by decide +kernel
theorem dX3_isComplete_19 : decode cX3_isComplete 19 = .ok (.getfield 15, 3) := by decide +kernel
theorem dX3_isComplete_22 : decode cX3_isComplete 22 = .ok (.if_icmp .ge 23, 3) := by decide +kernel
theorem dX3_isComplete_25 : decode cX3_isComplete 25 = .ok (.aload_n 0, 1) := by decide +kernel
theorem dX3_isComplete_26 : decode cX3_isComplete 26 = .ok (.iload_n 2, 1) := by decide +kernel
theorem dX3_isComplete_27 : decode cX3_isComplete 27 = .ok (.invokevirtual 19, 3) := by decide +kernel
theorem dX3_isComplete_30 : decode cX3_isComplete 30 = .ok (.bipush 59, 2) := by decide +kernel
theorem dX3_isComplete_32 : decode cX3_isComplete 32 = .ok (.if_icmp .ne 7, 3) := by decide +kernel
theorem dX3_isComplete_35 : decode cX3_isComplete 35 = .ok (.iload_n 2, 1) := by decide +kernel
theorem dX3_isComplete_36 : decode cX3_isComplete 36 = .ok (.iconst 1, 1) := by decide +kernel
theorem dX3_isComplete_37 : decode cX3_isComplete 37 = .ok (.iadd, 1) := by decide +kernel
theorem dX3_isComplete_38 : decode cX3_isComplete 38 = .ok (.istore_n 1, 1) := by decide +kernel
theorem dX3_isComplete_39 : decode cX3_isComplete 39 = .ok (.iinc 2 1, 3) := by decide +kernel
theorem dX3_isComplete_42 : decode cX3_isComplete 42 = .ok (.goto (-25), 3) := by decide +kernel
theorem dX3_isComplete_45 : decode cX3_isComplete 45 = .ok (.aload_n 0, 1) := by decide +kernel
theorem dX3_isComplete_46 : decode cX3_isComplete 46 = .ok (.iload_n 1, 1) := by decide +kernel
theorem dX3_isComplete_47 : decode cX3_isComplete 47 = .ok (.aload_n 0, 1) := by decide +kernel
theorem dX3_isComplete_48 : decode cX3_isComplete 48 = .ok (.getfield 15, 3) := by decide +kernel
theorem dX3_isComplete_51 : decode cX3_isComplete 51 = .ok (.invokevirtual 31, 3) := by decide +kernel
theorem dX3_isComplete_54 : decode cX3_isComplete 54 = .ok (.ireturn, 1) := by decide +kernel
theorem dX3_fits_0 : decode cX3_fits 0 = .ok (.aload_n 0, 1) := by decide +kernel
theorem dX3_fits_1 : decode cX3_fits 1 = .ok (.iload_n 2, 1) := by decide +kernel
theorem dX3_fits_2 : decode cX3_fits 2 = .ok (.invokevirtual 19, 3) := by decide +kernel
theorem dX3_fits_5 : decode cX3_fits 5 = .ok (.istore_n 3, 1) := by decide +kernel
theorem dX3_fits_6 : decode cX3_fits 6 = .ok (.iload_n 2, 1) := by decide +kernel
theorem dX3_fits_7 : decode cX3_fits 7 = .ok (.iload_n 1, 1) := by decide +kernel
theorem dX3_fits_8 : decode cX3_fits 8 = .ok (.isub, 1) := by decide +kernel
theorem dX3_fits_9 : decode cX3_fits 9 = .ok (.istore 4, 2) := by decide +kernel
theorem dX3_fits_11 : decode cX3_fits 11 = .ok (.iload_n 3, 1) := by decide +kernel
theorem dX3_fits_12 : decode cX3_fits 12 = .ok (.bipush 59, 2) := by decide +kernel
theorem dX3_fits_14 : decode cX3_fits 14 = .ok (.if_icmp .ne 10, 3) := by decide +kernel
theorem dX3_fits_17 : decode cX3_fits 17 = .ok (.aload_n 0, 1) := by decide +kernel
theorem dX3_fits_18 : decode cX3_fits 18 = .ok (.iload_n 1, 1) := by decide +kernel
theorem dX3_fits_19 : decode cX3_fits 19 = .ok (.iload_n 2, 1) := by decide +kernel
theorem dX3_fits_20 : decode cX3_fits 20 = .ok (.invokevirtual 31, 3) := by decide +kernel
theorem dX3_fits_23 : decode cX3_fits 23 = .ok (.ireturn, 1) := by decide +kernel
theorem dX3_fits_24 : decode cX3_fits 24 = .ok (.iload 4, 2) := by decide +kernel
theorem dX3_fits_26 : decode cX3_fits 26 = .ok (.ifCond .ne 33, 3) := by decide +kernel
theorem dX3_fits_29 : decode cX3_fits 29 = .ok (.iload_n 3, 1) := by decide +kernel
theorem dX3_fits_30 : decode cX3_fits 30 = .ok (.bipush 98, 2) := by decide +kernel
theorem dX3_fits_32 : decode cX3_fits 32 = .ok (.if_icmp .eq 21, 3) := by decide +kernel
theorem dX3_fits_35 : decode cX3_fits 35 = .ok (.iload_n 3, 1) := by decide +kernel
theorem dX3_fits_36 : decode cX3_fits 36 = .ok (.bipush 119, 2) := by decide +kernel
theorem dX3_fits_38 : decode cX3_fits 38 = .ok (.if_icmp .eq 15, 3) := by decide +kernel
theorem dX3_fits_41 : decode cX3_fits 41 = .ok (.iload_n 3, 1) := by decide +kernel
theorem dX3_fits_42 : decode cX3_fits 42 = .ok (.bipush 99, 2) := by decide +kernel
theorem dX3_fits_44 : decode cX3_fits 44 = .ok (.if_icmp .eq 9, 3) := by decide +kernel
theorem dX3_fits_47 : decode cX3_fits 47 = .ok (.iload_n 3, 1) := by decide +kernel
theorem dX3_fits_48 : decode cX3_fits 48 = .ok (.bipush 118, 2) := by decide +kernel
theorem dX3_fits_50 : decode cX3_fits 50 = .ok (.if_icmp .ne 7, 3) := by decide +kernel
theorem dX3_fits_53 : decode cX3_fits 53 = .ok (.iconst 1, 1) := by decide +kernel
theorem dX3_fits_54 : decode cX3_fits 54 = .ok (.goto 4, 3) := by decide +kernel
theorem dX3_fits_57 : decode cX3_fits 57 = .ok (.iconst 0, 1) := by decide +kernel
theorem dX3_fits_58 : decode cX3_fits 58 = .ok (.ireturn, 1) := by decide +kernel
theorem dX3_fits_59 : decode cX3_fits 59 = .ok (.iload 4, 2) := by decide +kernel
theorem dX3_fits_61 : decode cX3_fits 61 = .ok (.bipush 6, 2) := by decide +kernel
theorem dX3_fits_63 : decode cX3_fits 63 = .ok (.if_icmp .gt 8, 3) := by decide +kernel
theorem dX3_fits_66 : decode cX3_fits 66 = .ok (.iload_n 3, 1) := by decide +kernel
theorem dX3_fits_67 : decode cX3_fits 67 = .ok (.invokestatic 34, 3) := by decide +kernel
theorem dX3_fits_70 : decode cX3_fits 70 = .ok (.ireturn, 1) := by decide +kernel
theorem dX3_fits_71 : decode cX3_fits 71 = .ok (.iload 4, 2) := by decide +kernel
theorem dX3_fits_73 : decode cX3_fits 73 = .ok (.bipush 8, 2) := by decide +kernel
theorem dX3_fits_75 : decode cX3_fits 75 = .ok (.if_icmp .ge 13, 3) := by decide +kernel
theorem dX3_fits_78 : decode cX3_fits 78 = .ok (.aload_n 0, 1) := by decide +kernel
theorem dX3_fits_79 : decode cX3_fits 79 = .ok (.iload_n 1, 1) := by decide +kernel
theorem dX3_fits_80 : decode cX3_fits 80 = .ok (.invokevirtual 19, 3) := by decide +kernel
theorem dX3_fits_83 : decode cX3_fits 83 = .ok (.iload_n 3, 1) := by decide +kernel
theorem dX3_fits_84 : decode cX3_fits 84 = .ok (.invokestatic 38, 3) := by decide +kernel
theorem dX3_fits_87 : decode cX3_fits 87 = .ok (.ireturn, 1) := by decide +kernel
theorem dX3_fits_88 : decode cX3_fits 88 = .ok (.iload_n 3, 1) := by decide +kernel
theorem dX3_fits_89 : decode cX3_fits 89 = .ok (.invokestatic 34, 3) := by decide +kernel
theorem dX3_fits_92 : decode cX3_fits 92 = .ok (.ifCond .eq 16, 3) := by decide +kernel
theorem dX3_fits_95 : decode cX3_fits 95 = .ok (.aload_n 0, 1) := by decide +kernel
theorem dX3_fits_96 : decode cX3_fits 96 = .ok (.iload_n 1, 1) := by decide +kernel
theorem dX3_fits_97 : decode cX3_fits 97 = .ok (.iload_n 2, 1) := by decide +kernel
theorem dX3_fits_98 : decode cX3_fits 98 = .ok (.invokevirtual 41, 3) := by decide +kernel
theorem dX3_fits_101 : decode cX3_fits 101 = .ok (.ifCond .eq 7, 3) := by decide +kernel
theorem dX3_fits_104 : decode cX3_fits 104 = .ok (.iconst 1, 1) := by decide +kernel
theorem dX3_fits_105 : decode cX3_fits 105 = .ok (.goto 4, 3) := by decide +kernel
theorem dX3_fits_108 : decode cX3_fits 108 = .ok (.iconst 0, 1) := by decide +kernel
theorem dX3_fits_109 : decode cX3_fits 109 = .ok (.ireturn, 1) := by decide +kernel
theorem dX3_isWhole_0 : decode cX3_isWhole 0 = .ok (.iload_n 2, 1) := by decide +kernel
theorem dX3_isWhole_1 : decode cX3_isWhole 1 = .ok (.iload_n 1, 1) := by decide +kernel
theorem dX3_isWhole_2 : decode cX3_isWhole 2 = .ok (.isub, 1) := by decide +kernel
theorem dX3_isWhole_3 : decode cX3_isWhole 3 = .ok (.istore_n 3, 1) := by decide +kernel
theorem dX3_isWhole_4 : decode cX3_isWhole 4 = .ok (.aload_n 0, 1) := by decide +kernel
theorem dX3_isWhole_5 : decode cX3_isWhole 5 = .ok (.iload_n 1, 1) := by decide +kernel
theorem dX3_isWhole_6 : decode cX3_isWhole 6 = .ok (.invokevirtual 19, 3) := by decide +kernel
theorem dX3_isWhole_9 : decode cX3_isWhole 9 = .ok (.lookupswitch 79 #[(98, 43), (99, 55), (118, 67), (119, 43)], 43) := by decide +kernel
theorem dX3_isWhole_52 : decode cX3_isWhole 52 = .ok (.iload_n 3, 1) := by decide +kernel
theorem dX3_isWhole_53 : decode cX3_isWhole 53 = .ok (.bipush 8, 2) := by decide +kernel
theorem dX3_isWhole_55 : decode cX3_isWhole 55 = .ok (.if_icmp .le 7, 3) := by decide +kernel
theorem dX3_isWhole_58 : decode cX3_isWhole 58 = .ok (.iconst 1, 1) := by decide +kernel
theorem dX3_isWhole_59 : decode cX3_isWhole 59 = .ok (.goto 4, 3) := by decide +kernel
theorem dX3_isWhole_62 : decode cX3_isWhole 62 = .ok (.iconst 0, 1) := by decide +kernel
theorem dX3_isWhole_63 : decode cX3_isWhole 63 = .ok (.ireturn, 1) := by decide +kernel
theorem dX3_isWhole_64 : decode cX3_isWhole 64 = .ok (.iload_n 3, 1) := by decide +kernel
theorem dX3_isWhole_65 : decode cX3_isWhole 65 = .ok (.bipush 8, 2) := by decide +kernel
theorem dX3_isWhole_67 : decode cX3_isWhole 67 = .ok (.if_icmp .ne 7, 3) := by decide +kernel
theorem dX3_isWhole_70 : decode cX3_isWhole 70 = .ok (.iconst 1, 1) := by decide +kernel
theorem dX3_isWhole_71 : decode cX3_isWhole 71 = .ok (.goto 4, 3) := by decide +kernel
theorem dX3_isWhole_74 : decode cX3_isWhole 74 = .ok (.iconst 0, 1) := by decide +kernel
theorem dX3_isWhole_75 : decode cX3_isWhole 75 = .ok (.ireturn, 1) := by decide +kernel
theorem dX3_isWhole_76 : decode cX3_isWhole 76 = .ok (.iload_n 3, 1) := by decide +kernel
theorem dX3_isWhole_77 : decode cX3_isWhole 77 = .ok (.bipush 14, 2) := by decide +kernel
theorem dX3_isWhole_79 : decode cX3_isWhole 79 = .ok (.if_icmp .ne 7, 3) := by decide +kernel
theorem dX3_isWhole_82 : decode cX3_isWhole 82 = .ok (.iconst 1, 1) := by decide +kernel
theorem dX3_isWhole_83 : decode cX3_isWhole 83 = .ok (.goto 4, 3) := by decide +kernel
theorem dX3_isWhole_86 : decode cX3_isWhole 86 = .ok (.iconst 0, 1) := by decide +kernel
theorem dX3_isWhole_87 : decode cX3_isWhole 87 = .ok (.ireturn, 1) := by decide +kernel
theorem dX3_isWhole_88 : decode cX3_isWhole 88 = .ok (.iconst 0, 1) := by decide +kernel
theorem dX3_isWhole_89 : decode cX3_isWhole 89 = .ok (.ireturn, 1) := by decide +kernel
theorem dX3_isDigit_0 : decode cX3_isDigit 0 = .ok (.iload_n 0, 1) := by decide +kernel
theorem dX3_isDigit_1 : decode cX3_isDigit 1 = .ok (.bipush 48, 2) := by decide +kernel
theorem dX3_isDigit_3 : decode cX3_isDigit 3 = .ok (.if_icmp .lt 13, 3) := by decide +kernel
theorem dX3_isDigit_6 : decode cX3_isDigit 6 = .ok (.iload_n 0, 1) := by decide +kernel
theorem dX3_isDigit_7 : decode cX3_isDigit 7 = .ok (.bipush 57, 2) := by decide +kernel
theorem dX3_isDigit_9 : decode cX3_isDigit 9 = .ok (.if_icmp .gt 7, 3) := by decide +kernel
theorem dX3_isDigit_12 : decode cX3_isDigit 12 = .ok (.iconst 1, 1) := by decide +kernel
theorem dX3_isDigit_13 : decode cX3_isDigit 13 = .ok (.goto 4, 3) := by decide +kernel
theorem dX3_isDigit_16 : decode cX3_isDigit 16 = .ok (.iconst 0, 1) := by decide +kernel
theorem dX3_isDigit_17 : decode cX3_isDigit 17 = .ok (.ireturn, 1) := by decide +kernel
theorem dX3_endsHead_0 : decode cX3_endsHead 0 = .ok (.iload_n 0, 1) := by decide +kernel
theorem dX3_endsHead_1 : decode cX3_endsHead 1 = .ok (.lookupswitch 97 #[(98, 43), (99, 67), (118, 85), (119, 55)], 43) := by decide +kernel
theorem dX3_endsHead_44 : decode cX3_endsHead 44 = .ok (.iload_n 1, 1) := by decide +kernel
theorem dX3_endsHead_45 : decode cX3_endsHead 45 = .ok (.bipush 43, 2) := by decide +kernel
theorem dX3_endsHead_47 : decode cX3_endsHead 47 = .ok (.if_icmp .ne 7, 3) := by decide +kernel
theorem dX3_endsHead_50 : decode cX3_endsHead 50 = .ok (.iconst 1, 1) := by decide +kernel
theorem dX3_endsHead_51 : decode cX3_endsHead 51 = .ok (.goto 4, 3) := by decide +kernel
theorem dX3_endsHead_54 : decode cX3_endsHead 54 = .ok (.iconst 0, 1) := by decide +kernel
theorem dX3_endsHead_55 : decode cX3_endsHead 55 = .ok (.ireturn, 1) := by decide +kernel
theorem dX3_endsHead_56 : decode cX3_endsHead 56 = .ok (.iload_n 1, 1) := by decide +kernel
theorem dX3_endsHead_57 : decode cX3_endsHead 57 = .ok (.bipush 61, 2) := by decide +kernel
theorem dX3_endsHead_59 : decode cX3_endsHead 59 = .ok (.if_icmp .ne 7, 3) := by decide +kernel
theorem dX3_endsHead_62 : decode cX3_endsHead 62 = .ok (.iconst 1, 1) := by decide +kernel
theorem dX3_endsHead_63 : decode cX3_endsHead 63 = .ok (.goto 4, 3) := by decide +kernel
theorem dX3_endsHead_66 : decode cX3_endsHead 66 = .ok (.iconst 0, 1) := by decide +kernel
theorem dX3_endsHead_67 : decode cX3_endsHead 67 = .ok (.ireturn, 1) := by decide +kernel
theorem dX3_endsHead_68 : decode cX3_endsHead 68 = .ok (.iload_n 1, 1) := by decide +kernel
theorem dX3_endsHead_69 : decode cX3_endsHead 69 = .ok (.bipush 65, 2) := by decide +kernel
theorem dX3_endsHead_71 : decode cX3_endsHead 71 = .ok (.if_icmp .lt 13, 3) := by decide +kernel
theorem dX3_endsHead_74 : decode cX3_endsHead 74 = .ok (.iload_n 1, 1) := by decide +kernel
theorem dX3_endsHead_75 : decode cX3_endsHead 75 = .ok (.bipush 90, 2) := by decide +kernel
theorem dX3_endsHead_77 : decode cX3_endsHead 77 = .ok (.if_icmp .gt 7, 3) := by decide +kernel
theorem dX3_endsHead_80 : decode cX3_endsHead 80 = .ok (.iconst 1, 1) := by decide +kernel
theorem dX3_endsHead_81 : decode cX3_endsHead 81 = .ok (.goto 4, 3) := by decide +kernel
theorem dX3_endsHead_84 : decode cX3_endsHead 84 = .ok (.iconst 0, 1) := by decide +kernel
theorem dX3_endsHead_85 : decode cX3_endsHead 85 = .ok (.ireturn, 1) := by decide +kernel
theorem dX3_endsHead_86 : decode cX3_endsHead 86 = .ok (.iload_n 1, 1) := by decide +kernel
theorem dX3_endsHead_87 : decode cX3_endsHead 87 = .ok (.bipush 45, 2) := by decide +kernel
theorem dX3_endsHead_89 : decode cX3_endsHead 89 = .ok (.if_icmp .ne 7, 3) := by decide +kernel
theorem dX3_endsHead_92 : decode cX3_endsHead 92 = .ok (.iconst 1, 1) := by decide +kernel
theorem dX3_endsHead_93 : decode cX3_endsHead 93 = .ok (.goto 4, 3) := by decide +kernel
theorem dX3_endsHead_96 : decode cX3_endsHead 96 = .ok (.iconst 0, 1) := by decide +kernel
theorem dX3_endsHead_97 : decode cX3_endsHead 97 = .ok (.ireturn, 1) := by decide +kernel
theorem dX3_endsHead_98 : decode cX3_endsHead 98 = .ok (.iconst 0, 1) := by decide +kernel
theorem dX3_endsHead_99 : decode cX3_endsHead 99 = .ok (.ireturn, 1) := by decide +kernel
theorem dX3_fitsBehindHead_0 : decode cX3_fitsBehindHead 0 = .ok (.aload_n 0, 1) := by decide +kernel
theorem dX3_fitsBehindHead_1 : decode cX3_fitsBehindHead 1 = .ok (.iload_n 1, 1) := by decide +kernel
theorem dX3_fitsBehindHead_2 : decode cX3_fitsBehindHead 2 = .ok (.bipush 8, 2) := by decide +kernel
theorem dX3_fitsBehindHead_4 : decode cX3_fitsBehindHead 4 = .ok (.iadd, 1) := by decide +kernel
theorem dX3_fitsBehindHead_5 : decode cX3_fitsBehindHead 5 = .ok (.iload_n 2, 1) := by decide +kernel
theorem dX3_fitsBehindHead_6 : decode cX3_fitsBehindHead 6 = .ok (.iconst 1, 1) := by decide +kernel
theorem dX3_fitsBehindHead_7 : decode cX3_fitsBehindHead 7 = .ok (.iadd, 1) := by decide +kernel
theorem dX3_fitsBehindHead_8 : decode cX3_fitsBehindHead 8 = .ok (.invokevirtual 44, 3) := by decide +kernel
theorem dX3_fitsBehindHead_11 : decode cX3_fitsBehindHead 11 = .ok (.istore_n 3, 1) := by decide +kernel
theorem dX3_fitsBehindHead_12 : decode cX3_fitsBehindHead 12 = .ok (.aload_n 0, 1) := by decide +kernel
theorem dX3_fitsBehindHead_13 : decode cX3_fitsBehindHead 13 = .ok (.iload_n 1, 1) := by decide +kernel
theorem dX3_fitsBehindHead_14 : decode cX3_fitsBehindHead 14 = .ok (.invokevirtual 19, 3) := by decide +kernel
theorem dX3_fitsBehindHead_17 : decode cX3_fitsBehindHead 17 = .ok (.lookupswitch 84 #[(98, 35), (118, 70), (119, 52)], 35) := by decide +kernel
theorem dX3_fitsBehindHead_52 : decode cX3_fitsBehindHead 52 = .ok (.iload_n 3, 1) := by decide +kernel
theorem dX3_fitsBehindHead_53 : decode cX3_fitsBehindHead 53 = .ok (.iconst 1, 1) := by decide +kernel
theorem dX3_fitsBehindHead_54 : decode cX3_fitsBehindHead 54 = .ok (.if_icmp .lt 13, 3) := by decide +kernel
theorem dX3_fitsBehindHead_57 : decode cX3_fitsBehindHead 57 = .ok (.iload_n 3, 1) := by decide +kernel
theorem dX3_fitsBehindHead_58 : decode cX3_fitsBehindHead 58 = .ok (.bipush 40, 2) := by decide +kernel
theorem dX3_fitsBehindHead_60 : decode cX3_fitsBehindHead 60 = .ok (.if_icmp .gt 7, 3) := by decide +kernel
theorem dX3_fitsBehindHead_63 : decode cX3_fitsBehindHead 63 = .ok (.iconst 1, 1) := by decide +kernel
theorem dX3_fitsBehindHead_64 : decode cX3_fitsBehindHead 64 = .ok (.goto 4, 3) := by decide +kernel
theorem dX3_fitsBehindHead_67 : decode cX3_fitsBehindHead 67 = .ok (.iconst 0, 1) := by decide +kernel
theorem dX3_fitsBehindHead_68 : decode cX3_fitsBehindHead 68 = .ok (.ireturn, 1) := by decide +kernel
theorem dX3_fitsBehindHead_69 : decode cX3_fitsBehindHead 69 = .ok (.iload_n 3, 1) := by decide +kernel
theorem dX3_fitsBehindHead_70 : decode cX3_fitsBehindHead 70 = .ok (.iconst 1, 1) := by decide +kernel
theorem dX3_fitsBehindHead_71 : decode cX3_fitsBehindHead 71 = .ok (.if_icmp .lt 14, 3) := by decide +kernel
theorem dX3_fitsBehindHead_74 : decode cX3_fitsBehindHead 74 = .ok (.iload_n 3, 1) := by decide +kernel
theorem dX3_fitsBehindHead_75 : decode cX3_fitsBehindHead 75 = .ok (.sipush 999, 3) := by decide +kernel
theorem dX3_fitsBehindHead_78 : decode cX3_fitsBehindHead 78 = .ok (.if_icmp .gt 7, 3) := by decide +kernel
theorem dX3_fitsBehindHead_81 : decode cX3_fitsBehindHead 81 = .ok (.iconst 1, 1) := by decide +kernel
theorem dX3_fitsBehindHead_82 : decode cX3_fitsBehindHead 82 = .ok (.goto 4, 3) := by decide +kernel
theorem dX3_fitsBehindHead_85 : decode cX3_fitsBehindHead 85 = .ok (.iconst 0, 1) := by decide +kernel
theorem dX3_fitsBehindHead_86 : decode cX3_fitsBehindHead 86 = .ok (.ireturn, 1) := by decide +kernel
theorem dX3_fitsBehindHead_87 : decode cX3_fitsBehindHead 87 = .ok (.iload_n 2, 1) := by decide +kernel
theorem dX3_fitsBehindHead_88 : decode cX3_fitsBehindHead 88 = .ok (.iload_n 1, 1) := by decide +kernel
theorem dX3_fitsBehindHead_89 : decode cX3_fitsBehindHead 89 = .ok (.isub, 1) := by decide +kernel
theorem dX3_fitsBehindHead_90 : decode cX3_fitsBehindHead 90 = .ok (.bipush 14, 2) := by decide +kernel
theorem dX3_fitsBehindHead_92 : decode cX3_fitsBehindHead 92 = .ok (.if_icmp .ge 7, 3) := by decide +kernel
theorem dX3_fitsBehindHead_95 : decode cX3_fitsBehindHead 95 = .ok (.iconst 1, 1) := by decide +kernel
theorem dX3_fitsBehindHead_96 : decode cX3_fitsBehindHead 96 = .ok (.goto 4, 3) := by decide +kernel
theorem dX3_fitsBehindHead_99 : decode cX3_fitsBehindHead 99 = .ok (.iconst 0, 1) := by decide +kernel
theorem dX3_fitsBehindHead_100 : decode cX3_fitsBehindHead 100 = .ok (.ireturn, 1) := by decide +kernel
theorem dX3_fitsBehindHead_101 : decode cX3_fitsBehindHead 101 = .ok (.iconst 0, 1) := by decide +kernel
theorem dX3_fitsBehindHead_102 : decode cX3_fitsBehindHead 102 = .ok (.ireturn, 1) := by decide +kernel
theorem dX4_init_0 : decode cX4_init 0 = .ok (.aload_n 0, 1) := by decide +kernel
theorem dX4_init_1 : decode cX4_init 1 = .ok (.invokespecial 3, 3) := by decide +kernel
theorem dX4_init_4 : decode cX4_init 4 = .ok (.aload_n 0, 1) := by decide +kernel
theorem dX4_init_5 : decode cX4_init 5 = .ok (.new 9, 3) := by decide +kernel
theorem dX4_init_8 : decode cX4_init 8 = .ok (.dup, 1) := by decide +kernel
theorem dX4_init_9 : decode cX4_init 9 = .ok (.invokespecial 11, 3) := by decide +kernel
theorem dX4_init_12 : decode cX4_init 12 = .ok (.putfield 12, 3) := by decide +kernel
theorem dX4_init_15 : decode cX4_init 15 = .ok (.aload_n 0, 1) := by decide +kernel
theorem dX4_init_16 : decode cX4_init 16 = .ok (.new 18, 3) := by decide +kernel
theorem dX4_init_19 : decode cX4_init 19 = .ok (.dup, 1) := by decide +kernel
theorem dX4_init_20 : decode cX4_init 20 = .ok (.invokespecial 20, 3) := by decide +kernel
theorem dX4_init_23 : decode cX4_init 23 = .ok (.putfield 21, 3) := by decide +kernel
theorem dX4_init_26 : decode cX4_init 26 = .ok (.return_, 1) := by decide +kernel
theorem dX4_copyFrom_0 : decode cX4_copyFrom 0 = .ok (.aload_n 0, 1) := by decide +kernel
theorem dX4_copyFrom_1 : decode cX4_copyFrom 1 = .ok (.getfield 12, 3) := by decide +kernel
theorem dX4_copyFrom_4 : decode cX4_copyFrom 4 = .ok (.aload_n 1, 1) := by decide +kernel
theorem dX4_copyFrom_5 : decode cX4_copyFrom 5 = .ok (.getfield 12, 3) := by decide +kernel
theorem dX4_copyFrom_8 : decode cX4_copyFrom 8 = .ok (.invokevirtual 25, 3) := by decide +kernel
theorem dX4_copyFrom_11 : decode cX4_copyFrom 11 = .ok (.aload_n 0, 1) := by decide +kernel
theorem dX4_copyFrom_12 : decode cX4_copyFrom 12 = .ok (.getfield 21, 3) := by decide +kernel
theorem dX4_copyFrom_15 : decode cX4_copyFrom 15 = .ok (.aload_n 1, 1) := by decide +kernel
theorem dX4_copyFrom_16 : decode cX4_copyFrom 16 = .ok (.getfield 21, 3) := by decide +kernel
theorem dX4_copyFrom_19 : decode cX4_copyFrom 19 = .ok (.invokevirtual 29, 3) := by decide +kernel
theorem dX4_copyFrom_22 : decode cX4_copyFrom 22 = .ok (.aload_n 0, 1) := by decide +kernel
theorem dX4_copyFrom_23 : decode cX4_copyFrom 23 = .ok (.aload_n 1, 1) := by decide +kernel
theorem dX4_copyFrom_24 : decode cX4_copyFrom 24 = .ok (.getfield 32, 3) := by decide +kernel
theorem dX4_copyFrom_27 : decode cX4_copyFrom 27 = .ok (.putfield 32, 3) := by decide +kernel
theorem dX4_copyFrom_30 : decode cX4_copyFrom 30 = .ok (.return_, 1) := by decide +kernel
theorem dX4_cashByReading_0 : decode cX4_cashByReading 0 = .ok (.aload_n 0, 1) := by decide +kernel
theorem dX4_cashByReading_1 : decode cX4_cashByReading 1 = .ok (.iload_n 1, 1) := by decide +kernel
theorem dX4_cashByReading_2 : decode cX4_cashByReading 2 = .ok (.iload_n 2, 1) := by decide +kernel
theorem dX4_cashByReading_3 : decode cX4_cashByReading 3 = .ok (.invokevirtual 36, 3) := by decide +kernel
theorem dX4_cashByReading_6 : decode cX4_cashByReading 6 = .ok (.istore_n 3, 1) := by decide +kernel
theorem dX4_cashByReading_7 : decode cX4_cashByReading 7 = .ok (.iload_n 3, 1) := by decide +kernel
theorem dX4_cashByReading_8 : decode cX4_cashByReading 8 = .ok (.ifCond .eq 16, 3) := by decide +kernel
theorem dX4_cashByReading_11 : decode cX4_cashByReading 11 = .ok (.aload_n 0, 1) := by decide +kernel
theorem dX4_cashByReading_12 : decode cX4_cashByReading 12 = .ok (.dup, 1) := by decide +kernel
theorem dX4_cashByReading_13 : decode cX4_cashByReading 13 = .ok (.getfield 32, 3) := by decide +kernel
theorem dX4_cashByReading_16 : decode cX4_cashByReading 16 = .ok (.iconst 1, 1) := by decide +kernel
theorem dX4_cashByReading_17 : decode cX4_cashByReading 17 = .ok (.iadd, 1) := by decide +kernel
theorem dX4_cashByReading_18 : decode cX4_cashByReading 18 = .ok (.putfield 32, 3) := by decide +kernel
theorem dX4_cashByReading_21 : decode cX4_cashByReading 21 = .ok (.iload_n 3, 1) := by decide +kernel
theorem dX4_cashByReading_22 : decode cX4_cashByReading 22 = .ok (.ineg, 1) := by decide +kernel
theorem dX4_cashByReading_23 : decode cX4_cashByReading 23 = .ok (.ireturn, 1) := by decide +kernel
theorem dX4_cashByReading_24 : decode cX4_cashByReading 24 = .ok (.aload_n 0, 1) := by decide +kernel
theorem dX4_cashByReading_25 : decode cX4_cashByReading 25 = .ok (.getfield 21, 3) := by decide +kernel
theorem dX4_cashByReading_28 : decode cX4_cashByReading 28 = .ok (.iload_n 1, 1) := by decide +kernel
theorem dX4_cashByReading_29 : decode cX4_cashByReading 29 = .ok (.invokevirtual 40, 3) := by decide +kernel
theorem dX4_cashByReading_32 : decode cX4_cashByReading 32 = .ok (.istore 4, 2) := by decide +kernel
theorem dX4_cashByReading_34 : decode cX4_cashByReading 34 = .ok (.aload_n 0, 1) := by decide +kernel
theorem dX4_cashByReading_35 : decode cX4_cashByReading 35 = .ok (.getfield 21, 3) := by decide +kernel
theorem dX4_cashByReading_38 : decode cX4_cashByReading 38 = .ok (.iload 4, 2) := by decide +kernel
theorem dX4_cashByReading_40 : decode cX4_cashByReading 40 = .ok (.invokevirtual 44, 3) := by decide +kernel
theorem dX4_cashByReading_43 : decode cX4_cashByReading 43 = .ok (.aload_n 0, 1) := by decide +kernel
theorem dX4_cashByReading_44 : decode cX4_cashByReading 44 = .ok (.getfield 21, 3) := by decide +kernel
theorem dX4_cashByReading_47 : decode cX4_cashByReading 47 = .ok (.iload 4, 2) := by decide +kernel
theorem dX4_cashByReading_49 : decode cX4_cashByReading 49 = .ok (.invokevirtual 48, 3) := by decide +kernel
theorem dX4_cashByReading_52 : decode cX4_cashByReading 52 = .ok (.ireturn, 1) := by decide +kernel
theorem dX4_reasonAgainstCashing_0 : decode cX4_reasonAgainstCashing 0 = .ok (.aload_n 0, 1) := by decide +kernel
theorem dX4_reasonAgainstCashing_1 : decode cX4_reasonAgainstCashing 1 = .ok (.getfield 12, 3) := by decide +kernel
theorem dX4_reasonAgainstCashing_4 : decode cX4_reasonAgainstCashing 4 = .ok (.iload_n 1, 1) := by decide +kernel
theorem dX4_reasonAgainstCashing_5 : decode cX4_reasonAgainstCashing 5 = .ok (.invokevirtual 51, 3) := by decide +kernel
theorem dX4_reasonAgainstCashing_8 : decode cX4_reasonAgainstCashing 8 = .ok (.iload_n 2, 1) := by decide +kernel
theorem dX4_reasonAgainstCashing_9 : decode cX4_reasonAgainstCashing 9 = .ok (.if_icmp .eq 5, 3) := by decide +kernel
theorem dX4_reasonAgainstCashing_12 : decode cX4_reasonAgainstCashing 12 = .ok (.iconst 1, 1) := by decide +kernel
theorem dX4_reasonAgainstCashing_13 : decode cX4_reasonAgainstCashing 13 = .ok (.ireturn, 1) := by decide +kernel
theorem dX4_reasonAgainstCashing_14 : decode cX4_reasonAgainstCashing 14 = .ok (.aload_n 0, 1) := by decide +kernel
theorem dX4_reasonAgainstCashing_15 : decode cX4_reasonAgainstCashing 15 = .ok (.getfield 21, 3) := by decide +kernel
theorem dX4_reasonAgainstCashing_18 : decode cX4_reasonAgainstCashing 18 = .ok (.iload_n 1, 1) := by decide +kernel
theorem dX4_reasonAgainstCashing_19 : decode cX4_reasonAgainstCashing 19 = .ok (.invokevirtual 40, 3) := by decide +kernel
theorem dX4_reasonAgainstCashing_22 : decode cX4_reasonAgainstCashing 22 = .ok (.istore_n 3, 1) := by decide +kernel
theorem dX4_reasonAgainstCashing_23 : decode cX4_reasonAgainstCashing 23 = .ok (.iload_n 3, 1) := by decide +kernel
theorem dX4_reasonAgainstCashing_24 : decode cX4_reasonAgainstCashing 24 = .ok (.iconst (-1), 1) := by decide +kernel
theorem dX4_reasonAgainstCashing_25 : decode cX4_reasonAgainstCashing 25 = .ok (.if_icmp .ne 5, 3) := by decide +kernel
theorem dX4_reasonAgainstCashing_28 : decode cX4_reasonAgainstCashing 28 = .ok (.iconst 2, 1) := by decide +kernel
theorem dX4_reasonAgainstCashing_29 : decode cX4_reasonAgainstCashing 29 = .ok (.ireturn, 1) := by decide +kernel
theorem dX4_reasonAgainstCashing_30 : decode cX4_reasonAgainstCashing 30 = .ok (.aload_n 0, 1) := by decide +kernel
theorem dX4_reasonAgainstCashing_31 : decode cX4_reasonAgainstCashing 31 = .ok (.getfield 21, 3) := by decide +kernel
theorem dX4_reasonAgainstCashing_34 : decode cX4_reasonAgainstCashing 34 = .ok (.iload_n 3, 1) := by decide +kernel
theorem dX4_reasonAgainstCashing_35 : decode cX4_reasonAgainstCashing 35 = .ok (.invokevirtual 54, 3) := by decide +kernel
theorem dX4_reasonAgainstCashing_38 : decode cX4_reasonAgainstCashing 38 = .ok (.iconst 1, 1) := by decide +kernel
theorem dX4_reasonAgainstCashing_39 : decode cX4_reasonAgainstCashing 39 = .ok (.if_icmp .ne 7, 3) := by decide +kernel
theorem dX4_reasonAgainstCashing_42 : decode cX4_reasonAgainstCashing 42 = .ok (.iconst 0, 1) := by decide +kernel
theorem dX4_reasonAgainstCashing_43 : decode cX4_reasonAgainstCashing 43 = .ok (.goto 4, 3) := by decide +kernel
theorem dX4_reasonAgainstCashing_46 : decode cX4_reasonAgainstCashing 46 = .ok (.iconst 3, 1) := by decide +kernel
theorem dX4_reasonAgainstCashing_47 : decode cX4_reasonAgainstCashing 47 = .ok (.ireturn, 1) := by decide +kernel
theorem dX4_meantCheques_0 : decode cX4_meantCheques 0 = .ok (.iconst 0, 1) := by decide +kernel
theorem dX4_meantCheques_1 : decode cX4_meantCheques 1 = .ok (.istore 4, 2) := by decide +kernel
theorem dX4_meantCheques_3 : decode cX4_meantCheques 3 = .ok (.iconst 0, 1) := by decide +kernel
theorem dX4_meantCheques_4 : decode cX4_meantCheques 4 = .ok (.istore 5, 2) := by decide +kernel
theorem dX4_meantCheques_6 : decode cX4_meantCheques 6 = .ok (.iload 5, 2) := by decide +kernel
theorem dX4_meantCheques_8 : decode cX4_meantCheques 8 = .ok (.aload_n 0, 1) := by decide +kernel
theorem dX4_meantCheques_9 : decode cX4_meantCheques 9 = .ok (.getfield 21, 3) := by decide +kernel
theorem dX4_meantCheques_12 : decode cX4_meantCheques 12 = .ok (.getfield 57, 3) := by decide +kernel
theorem dX4_meantCheques_15 : decode cX4_meantCheques 15 = .ok (.if_icmp .ge 92, 3) := by decide +kernel
theorem dX4_meantCheques_18 : decode cX4_meantCheques 18 = .ok (.aload_n 0, 1) := by decide +kernel
theorem dX4_meantCheques_19 : decode cX4_meantCheques 19 = .ok (.getfield 21, 3) := by decide +kernel
theorem dX4_meantCheques_22 : decode cX4_meantCheques 22 = .ok (.iload 5, 2) := by decide +kernel
theorem dX4_meantCheques_24 : decode cX4_meantCheques 24 = .ok (.invokevirtual 60, 3) := by decide +kernel
theorem dX4_meantCheques_27 : decode cX4_meantCheques 27 = .ok (.istore 6, 2) := by decide +kernel
theorem dX4_meantCheques_29 : decode cX4_meantCheques 29 = .ok (.aload_n 0, 1) := by decide +kernel
theorem dX4_meantCheques_30 : decode cX4_meantCheques 30 = .ok (.getfield 21, 3) := by decide +kernel
theorem dX4_meantCheques_33 : decode cX4_meantCheques 33 = .ok (.iload 6, 2) := by decide +kernel
theorem dX4_meantCheques_35 : decode cX4_meantCheques 35 = .ok (.invokevirtual 63, 3) := by decide +kernel
theorem dX4_meantCheques_38 : decode cX4_meantCheques 38 = .ok (.aload_n 0, 1) := by decide +kernel
theorem dX4_meantCheques_39 : decode cX4_meantCheques 39 = .ok (.getfield 21, 3) := by decide +kernel
theorem dX4_meantCheques_42 : decode cX4_meantCheques 42 = .ok (.iload 6, 2) := by decide +kernel
theorem dX4_meantCheques_44 : decode cX4_meantCheques 44 = .ok (.invokevirtual 66, 3) := by decide +kernel
theorem dX4_meantCheques_47 : decode cX4_meantCheques 47 = .ok (.iadd, 1) := by decide +kernel
theorem dX4_meantCheques_48 : decode cX4_meantCheques 48 = .ok (.istore 7, 2) := by decide +kernel
theorem dX4_meantCheques_50 : decode cX4_meantCheques 50 = .ok (.aload_n 0, 1) := by decide +kernel
theorem dX4_meantCheques_51 : decode cX4_meantCheques 51 = .ok (.getfield 21, 3) := by decide +kernel
theorem dX4_meantCheques_54 : decode cX4_meantCheques 54 = .ok (.iload 6, 2) := by decide +kernel
theorem dX4_meantCheques_56 : decode cX4_meantCheques 56 = .ok (.invokevirtual 63, 3) := by decide +kernel
theorem dX4_meantCheques_59 : decode cX4_meantCheques 59 = .ok (.istore 8, 2) := by decide +kernel
theorem dX4_meantCheques_61 : decode cX4_meantCheques 61 = .ok (.iload 8, 2) := by decide +kernel
theorem dX4_meantCheques_63 : decode cX4_meantCheques 63 = .ok (.iload 7, 2) := by decide +kernel
theorem dX4_meantCheques_65 : decode cX4_meantCheques 65 = .ok (.if_icmp .ge 36, 3) := by decide +kernel
theorem dX4_meantCheques_68 : decode cX4_meantCheques 68 = .ok (.aload_n 0, 1) := by decide +kernel
theorem dX4_meantCheques_69 : decode cX4_meantCheques 69 = .ok (.getfield 12, 3) := by decide +kernel
theorem dX4_meantCheques_72 : decode cX4_meantCheques 72 = .ok (.iload 8, 2) := by decide +kernel
theorem dX4_meantCheques_74 : decode cX4_meantCheques 74 = .ok (.iload_n 1, 1) := by decide +kernel
theorem dX4_meantCheques_75 : decode cX4_meantCheques 75 = .ok (.iload_n 2, 1) := by decide +kernel
theorem dX4_meantCheques_76 : decode cX4_meantCheques 76 = .ok (.invokevirtual 69, 3) := by decide +kernel
theorem dX4_meantCheques_79 : decode cX4_meantCheques 79 = .ok (.iconst (-1), 1) := by decide +kernel
theorem dX4_meantCheques_80 : decode cX4_meantCheques 80 = .ok (.if_icmp .eq 15, 3) := by decide +kernel
theorem dX4_meantCheques_83 : decode cX4_meantCheques 83 = .ok (.iload 4, 2) := by decide +kernel
theorem dX4_meantCheques_85 : decode cX4_meantCheques 85 = .ok (.iload_n 3, 1) := by decide +kernel
theorem dX4_meantCheques_86 : decode cX4_meantCheques 86 = .ok (.if_icmp .ne 6, 3) := by decide +kernel
theorem dX4_meantCheques_89 : decode cX4_meantCheques 89 = .ok (.iload 8, 2) := by decide +kernel
theorem dX4_meantCheques_91 : decode cX4_meantCheques 91 = .ok (.ireturn, 1) := by decide +kernel
theorem dX4_meantCheques_92 : decode cX4_meantCheques 92 = .ok (.iinc 4 1, 3) := by decide +kernel
theorem dX4_meantCheques_95 : decode cX4_meantCheques 95 = .ok (.iinc 8 1, 3) := by decide +kernel
theorem dX4_meantCheques_98 : decode cX4_meantCheques 98 = .ok (.goto (-37), 3) := by decide +kernel
theorem dX4_meantCheques_101 : decode cX4_meantCheques 101 = .ok (.iinc 5 1, 3) := by decide +kernel
theorem dX4_meantCheques_104 : decode cX4_meantCheques 104 = .ok (.goto (-98), 3) := by decide +kernel
theorem dX4_meantCheques_107 : decode cX4_meantCheques 107 = .ok (.iload_n 3, 1) := by decide +kernel
theorem dX4_meantCheques_108 : decode cX4_meantCheques 108 = .ok (.iconst (-1), 1) := by decide +kernel
theorem dX4_meantCheques_109 : decode cX4_meantCheques 109 = .ok (.if_icmp .ne 8, 3) := by decide +kernel
theorem dX4_meantCheques_112 : decode cX4_meantCheques 112 = .ok (.iload 4, 2) := by decide +kernel
theorem dX4_meantCheques_114 : decode cX4_meantCheques 114 = .ok (.goto 4, 3) := by decide +kernel
theorem dX4_meantCheques_117 : decode cX4_meantCheques 117 = .ok (.iconst (-1), 1) := by decide +kernel
theorem dX4_meantCheques_118 : decode cX4_meantCheques 118 = .ok (.ireturn, 1) := by decide +kernel
theorem dX5_init_0 : decode cX5_init 0 = .ok (.aload_n 0, 1) := by decide +kernel
theorem dX5_init_1 : decode cX5_init 1 = .ok (.invokespecial 1, 3) := by decide +kernel
theorem dX5_init_4 : decode cX5_init 4 = .ok (.aload_n 0, 1) := by decide +kernel
theorem dX5_init_5 : decode cX5_init 5 = .ok (.new 7, 3) := by decide +kernel
theorem dX5_init_8 : decode cX5_init 8 = .ok (.dup, 1) := by decide +kernel
theorem dX5_init_9 : decode cX5_init 9 = .ok (.invokespecial 9, 3) := by decide +kernel
theorem dX5_init_12 : decode cX5_init 12 = .ok (.putfield 10, 3) := by decide +kernel
theorem dX5_init_15 : decode cX5_init 15 = .ok (.aload_n 0, 1) := by decide +kernel
theorem dX5_init_16 : decode cX5_init 16 = .ok (.new 16, 3) := by decide +kernel
theorem dX5_init_19 : decode cX5_init 19 = .ok (.dup, 1) := by decide +kernel
theorem dX5_init_20 : decode cX5_init 20 = .ok (.invokespecial 18, 3) := by decide +kernel
theorem dX5_init_23 : decode cX5_init 23 = .ok (.putfield 19, 3) := by decide +kernel
theorem dX5_init_26 : decode cX5_init 26 = .ok (.aload_n 0, 1) := by decide +kernel
theorem dX5_init_27 : decode cX5_init 27 = .ok (.new 23, 3) := by decide +kernel
theorem dX5_init_30 : decode cX5_init 30 = .ok (.dup, 1) := by decide +kernel
theorem dX5_init_31 : decode cX5_init 31 = .ok (.invokespecial 25, 3) := by decide +kernel
theorem dX5_init_34 : decode cX5_init 34 = .ok (.putfield 26, 3) := by decide +kernel
theorem dX5_init_37 : decode cX5_init 37 = .ok (.return_, 1) := by decide +kernel
theorem dX5_weight_0 : decode cX5_weight 0 = .ok (.iload_n 1, 1) := by decide +kernel
theorem dX5_weight_1 : decode cX5_weight 1 = .ok (.invokestatic 30, 3) := by decide +kernel
theorem dX5_weight_4 : decode cX5_weight 4 = .ok (.iload_n 2, 1) := by decide +kernel
theorem dX5_weight_5 : decode cX5_weight 5 = .ok (.iconst 1, 1) := by decide +kernel
theorem dX5_weight_6 : decode cX5_weight 6 = .ok (.if_icmp .lt 9, 3) := by decide +kernel
theorem dX5_weight_9 : decode cX5_weight 9 = .ok (.iload_n 2, 1) := by decide +kernel
theorem dX5_weight_10 : decode cX5_weight 10 = .ok (.bipush 9, 2) := by decide +kernel
theorem dX5_weight_12 : decode cX5_weight 12 = .ok (.if_icmp .le 13, 3) := by decide +kernel
theorem dX5_weight_15 : decode cX5_weight 15 = .ok (.new 34, 3) := by decide +kernel
theorem dX5_weight_18 : decode cX5_weight 18 = .ok (.dup, 1) := by decide +kernel
theorem dX5_weight_19 : decode cX5_weight 19 = .ok (.ldc 36, 2) := by decide +kernel
theorem dX5_weight_21 : decode cX5_weight 21 = .ok (.invokespecial 38, 3) := by decide +kernel
theorem dX5_weight_24 : decode cX5_weight 24 = .ok (.athrow, 1) := by decide +kernel
theorem dX5_weight_25 : decode cX5_weight 25 = .ok (.aload_n 0, 1) := by decide +kernel
theorem dX5_weight_26 : decode cX5_weight 26 = .ok (.getfield 19, 3) := by decide +kernel
theorem dX5_weight_29 : decode cX5_weight 29 = .ok (.aload_n 0, 1) := by decide +kernel
theorem dX5_weight_30 : decode cX5_weight 30 = .ok (.getfield 10, 3) := by decide +kernel
theorem dX5_weight_33 : decode cX5_weight 33 = .ok (.invokevirtual 41, 3) := by decide +kernel
theorem dX5_weight_36 : decode cX5_weight 36 = .ok (.aload_n 0, 1) := by decide +kernel
theorem dX5_weight_37 : decode cX5_weight 37 = .ok (.getfield 10, 3) := by decide +kernel
theorem dX5_weight_40 : decode cX5_weight 40 = .ok (.getfield 45, 3) := by decide +kernel
theorem dX5_weight_43 : decode cX5_weight 43 = .ok (.iload_n 1, 1) := by decide +kernel
theorem dX5_weight_44 : decode cX5_weight 44 = .ok (.invokevirtual 49, 3) := by decide +kernel
theorem dX5_weight_47 : decode cX5_weight 47 = .ok (.istore_n 3, 1) := by decide +kernel
theorem dX5_weight_48 : decode cX5_weight 48 = .ok (.aload_n 0, 1) := by decide +kernel
theorem dX5_weight_49 : decode cX5_weight 49 = .ok (.getfield 10, 3) := by decide +kernel
theorem dX5_weight_52 : decode cX5_weight 52 = .ok (.getfield 45, 3) := by decide +kernel
theorem dX5_weight_55 : decode cX5_weight 55 = .ok (.iload_n 1, 1) := by decide +kernel
theorem dX5_weight_56 : decode cX5_weight 56 = .ok (.iload_n 2, 1) := by decide +kernel
theorem dX5_weight_57 : decode cX5_weight 57 = .ok (.invokevirtual 55, 3) := by decide +kernel
theorem dX5_weight_60 : decode cX5_weight 60 = .ok (.iload_n 3, 1) := by decide +kernel
theorem dX5_weight_61 : decode cX5_weight 61 = .ok (.ireturn, 1) := by decide +kernel
theorem dX5_modulus_0 : decode cX5_modulus 0 = .ok (.iload_n 1, 1) := by decide +kernel
theorem dX5_modulus_1 : decode cX5_modulus 1 = .ok (.bipush 7, 2) := by decide +kernel
theorem dX5_modulus_3 : decode cX5_modulus 3 = .ok (.if_icmp .lt 9, 3) := by decide +kernel
theorem dX5_modulus_6 : decode cX5_modulus 6 = .ok (.iload_n 1, 1) := by decide +kernel
theorem dX5_modulus_7 : decode cX5_modulus 7 = .ok (.bipush 26, 2) := by decide +kernel
theorem dX5_modulus_9 : decode cX5_modulus 9 = .ok (.if_icmp .le 13, 3) := by decide +kernel
theorem dX5_modulus_12 : decode cX5_modulus 12 = .ok (.new 34, 3) := by decide +kernel
theorem dX5_modulus_15 : decode cX5_modulus 15 = .ok (.dup, 1) := by decide +kernel
theorem dX5_modulus_16 : decode cX5_modulus 16 = .ok (.ldc 59, 2) := by decide +kernel
theorem dX5_modulus_18 : decode cX5_modulus 18 = .ok (.invokespecial 38, 3) := by decide +kernel
theorem dX5_modulus_21 : decode cX5_modulus 21 = .ok (.athrow, 1) := by decide +kernel
theorem dX5_modulus_22 : decode cX5_modulus 22 = .ok (.aload_n 0, 1) := by decide +kernel
theorem dX5_modulus_23 : decode cX5_modulus 23 = .ok (.getfield 19, 3) := by decide +kernel
theorem dX5_modulus_26 : decode cX5_modulus 26 = .ok (.aload_n 0, 1) := by decide +kernel
theorem dX5_modulus_27 : decode cX5_modulus 27 = .ok (.getfield 10, 3) := by decide +kernel
theorem dX5_modulus_30 : decode cX5_modulus 30 = .ok (.invokevirtual 41, 3) := by decide +kernel
theorem dX5_modulus_33 : decode cX5_modulus 33 = .ok (.aload_n 0, 1) := by decide +kernel
theorem dX5_modulus_34 : decode cX5_modulus 34 = .ok (.getfield 10, 3) := by decide +kernel
theorem dX5_modulus_37 : decode cX5_modulus 37 = .ok (.getfield 45, 3) := by decide +kernel
theorem dX5_modulus_40 : decode cX5_modulus 40 = .ok (.getfield 61, 3) := by decide +kernel
theorem dX5_modulus_43 : decode cX5_modulus 43 = .ok (.istore_n 2, 1) := by decide +kernel
theorem dX5_modulus_44 : decode cX5_modulus 44 = .ok (.aload_n 0, 1) := by decide +kernel
theorem dX5_modulus_45 : decode cX5_modulus 45 = .ok (.getfield 10, 3) := by decide +kernel
theorem dX5_modulus_48 : decode cX5_modulus 48 = .ok (.getfield 45, 3) := by decide +kernel
theorem dX5_modulus_51 : decode cX5_modulus 51 = .ok (.iload_n 1, 1) := by decide +kernel
theorem dX5_modulus_52 : decode cX5_modulus 52 = .ok (.putfield 61, 3) := by decide +kernel
theorem dX5_modulus_55 : decode cX5_modulus 55 = .ok (.iload_n 2, 1) := by decide +kernel
theorem dX5_modulus_56 : decode cX5_modulus 56 = .ok (.ireturn, 1) := by decide +kernel
theorem dX5_book_0 : decode cX5_book 0 = .ok (.aload_n 0, 1) := by decide +kernel
theorem dX5_book_1 : decode cX5_book 1 = .ok (.iload_n 1, 1) := by decide +kernel
theorem dX5_book_2 : decode cX5_book 2 = .ok (.iload_n 2, 1) := by decide +kernel
theorem dX5_book_3 : decode cX5_book 3 = .ok (.invokevirtual 65, 3) := by decide +kernel
theorem dX5_book_6 : decode cX5_book 6 = .ok (.invokestatic 69, 3) := by decide +kernel
theorem dX5_book_9 : decode cX5_book 9 = .ok (.aload_n 0, 1) := by decide +kernel
theorem dX5_book_10 : decode cX5_book 10 = .ok (.getfield 19, 3) := by decide +kernel
theorem dX5_book_13 : decode cX5_book 13 = .ok (.aload_n 0, 1) := by decide +kernel
theorem dX5_book_14 : decode cX5_book 14 = .ok (.getfield 10, 3) := by decide +kernel
theorem dX5_book_17 : decode cX5_book 17 = .ok (.invokevirtual 41, 3) := by decide +kernel
theorem dX5_book_20 : decode cX5_book 20 = .ok (.aload_n 0, 1) := by decide +kernel
theorem dX5_book_21 : decode cX5_book 21 = .ok (.getfield 10, 3) := by decide +kernel
theorem dX5_book_24 : decode cX5_book 24 = .ok (.getfield 72, 3) := by decide +kernel
theorem dX5_book_27 : decode cX5_book 27 = .ok (.iload_n 1, 1) := by decide +kernel
theorem dX5_book_28 : decode cX5_book 28 = .ok (.iload_n 2, 1) := by decide +kernel
theorem dX5_book_29 : decode cX5_book 29 = .ok (.invokevirtual 76, 3) := by decide +kernel
theorem dX5_book_32 : decode cX5_book 32 = .ok (.ireturn, 1) := by decide +kernel
theorem dX5_write_0 : decode cX5_write 0 = .ok (.aload_n 0, 1) := by decide +kernel
theorem dX5_write_1 : decode cX5_write 1 = .ok (.iload_n 1, 1) := by decide +kernel
theorem dX5_write_2 : decode cX5_write 2 = .ok (.iload_n 2, 1) := by decide +kernel
theorem dX5_write_3 : decode cX5_write 3 = .ok (.invokevirtual 81, 3) := by decide +kernel
theorem dX5_write_6 : decode cX5_write 6 = .ok (.invokestatic 69, 3) := by decide +kernel
theorem dX5_write_9 : decode cX5_write 9 = .ok (.aload_n 0, 1) := by decide +kernel
theorem dX5_write_10 : decode cX5_write 10 = .ok (.getfield 19, 3) := by decide +kernel
theorem dX5_write_13 : decode cX5_write 13 = .ok (.aload_n 0, 1) := by decide +kernel
theorem dX5_write_14 : decode cX5_write 14 = .ok (.getfield 10, 3) := by decide +kernel
theorem dX5_write_17 : decode cX5_write 17 = .ok (.invokevirtual 41, 3) := by decide +kernel
theorem dX5_write_20 : decode cX5_write 20 = .ok (.aload_n 0, 1) := by decide +kernel
theorem dX5_write_21 : decode cX5_write 21 = .ok (.getfield 10, 3) := by decide +kernel
theorem dX5_write_24 : decode cX5_write 24 = .ok (.getfield 72, 3) := by decide +kernel
theorem dX5_write_27 : decode cX5_write 27 = .ok (.aload_n 0, 1) := by decide +kernel
theorem dX5_write_28 : decode cX5_write 28 = .ok (.getfield 10, 3) := by decide +kernel
theorem dX5_write_31 : decode cX5_write 31 = .ok (.getfield 72, 3) := by decide +kernel
theorem dX5_write_34 : decode cX5_write 34 = .ok (.iload_n 1, 1) := by decide +kernel
theorem dX5_write_35 : decode cX5_write 35 = .ok (.invokevirtual 84, 3) := by decide +kernel
theorem dX5_write_38 : decode cX5_write 38 = .ok (.iload_n 2, 1) := by decide +kernel
theorem dX5_write_39 : decode cX5_write 39 = .ok (.invokevirtual 87, 3) := by decide +kernel
theorem dX5_write_42 : decode cX5_write 42 = .ok (.aload_n 0, 1) := by decide +kernel
theorem dX5_write_43 : decode cX5_write 43 = .ok (.getfield 10, 3) := by decide +kernel
theorem dX5_write_46 : decode cX5_write 46 = .ok (.getfield 45, 3) := by decide +kernel
theorem dX5_write_49 : decode cX5_write 49 = .ok (.iload_n 1, 1) := by decide +kernel
theorem dX5_write_50 : decode cX5_write 50 = .ok (.invokevirtual 90, 3) := by decide +kernel
theorem dX5_write_53 : decode cX5_write 53 = .ok (.ireturn, 1) := by decide +kernel
theorem dX5_cash_0 : decode cX5_cash 0 = .ok (.iload_n 1, 1) := by decide +kernel
theorem dX5_cash_1 : decode cX5_cash 1 = .ok (.invokestatic 93, 3) := by decide +kernel
theorem dX5_cash_4 : decode cX5_cash 4 = .ok (.iload_n 2, 1) := by decide +kernel
theorem dX5_cash_5 : decode cX5_cash 5 = .ok (.invokestatic 96, 3) := by decide +kernel
theorem dX5_cash_8 : decode cX5_cash 8 = .ok (.aload_n 0, 1) := by decide +kernel
theorem dX5_cash_9 : decode cX5_cash 9 = .ok (.getfield 19, 3) := by decide +kernel
theorem dX5_cash_12 : decode cX5_cash 12 = .ok (.aload_n 0, 1) := by decide +kernel
theorem dX5_cash_13 : decode cX5_cash 13 = .ok (.getfield 10, 3) := by decide +kernel
theorem dX5_cash_16 : decode cX5_cash 16 = .ok (.invokevirtual 41, 3) := by decide +kernel
theorem dX5_cash_19 : decode cX5_cash 19 = .ok (.aload_n 0, 1) := by decide +kernel
theorem dX5_cash_20 : decode cX5_cash 20 = .ok (.getfield 10, 3) := by decide +kernel
theorem dX5_cash_23 : decode cX5_cash 23 = .ok (.iload_n 1, 1) := by decide +kernel
theorem dX5_cash_24 : decode cX5_cash 24 = .ok (.iload_n 2, 1) := by decide +kernel
theorem dX5_cash_25 : decode cX5_cash 25 = .ok (.invokevirtual 99, 3) := by decide +kernel
theorem dX5_cash_28 : decode cX5_cash 28 = .ok (.ireturn, 1) := by decide +kernel
theorem dX5_voidRun_0 : decode cX5_voidRun 0 = .ok (.iload_n 1, 1) := by decide +kernel
theorem dX5_voidRun_1 : decode cX5_voidRun 1 = .ok (.iload_n 2, 1) := by decide +kernel
theorem dX5_voidRun_2 : decode cX5_voidRun 2 = .ok (.invokestatic 102, 3) := by decide +kernel
theorem dX5_voidRun_5 : decode cX5_voidRun 5 = .ok (.invokestatic 69, 3) := by decide +kernel
theorem dX5_voidRun_8 : decode cX5_voidRun 8 = .ok (.aload_n 0, 1) := by decide +kernel
theorem dX5_voidRun_9 : decode cX5_voidRun 9 = .ok (.getfield 19, 3) := by decide +kernel
theorem dX5_voidRun_12 : decode cX5_voidRun 12 = .ok (.aload_n 0, 1) := by decide +kernel
theorem dX5_voidRun_13 : decode cX5_voidRun 13 = .ok (.getfield 10, 3) := by decide +kernel
theorem dX5_voidRun_16 : decode cX5_voidRun 16 = .ok (.invokevirtual 41, 3) := by decide +kernel
theorem dX5_voidRun_19 : decode cX5_voidRun 19 = .ok (.aload_n 0, 1) := by decide +kernel
theorem dX5_voidRun_20 : decode cX5_voidRun 20 = .ok (.getfield 10, 3) := by decide +kernel
theorem dX5_voidRun_23 : decode cX5_voidRun 23 = .ok (.getfield 72, 3) := by decide +kernel
theorem dX5_voidRun_26 : decode cX5_voidRun 26 = .ok (.iload_n 1, 1) := by decide +kernel
theorem dX5_voidRun_27 : decode cX5_voidRun 27 = .ok (.iload_n 2, 1) := by decide +kernel
theorem dX5_voidRun_28 : decode cX5_voidRun 28 = .ok (.invokevirtual 105, 3) := by decide +kernel
theorem dX5_voidRun_31 : decode cX5_voidRun 31 = .ok (.ireturn, 1) := by decide +kernel
theorem dX5_append_0 : decode cX5_append 0 = .ok (.iload_n 1, 1) := by decide +kernel
theorem dX5_append_1 : decode cX5_append 1 = .ok (.bipush 33, 2) := by decide +kernel
theorem dX5_append_3 : decode cX5_append 3 = .ok (.if_icmp .lt 9, 3) := by decide +kernel
theorem dX5_append_6 : decode cX5_append 6 = .ok (.iload_n 1, 1) := by decide +kernel
theorem dX5_append_7 : decode cX5_append 7 = .ok (.bipush 126, 2) := by decide +kernel
theorem dX5_append_9 : decode cX5_append 9 = .ok (.if_icmp .le 13, 3) := by decide +kernel
theorem dX5_append_12 : decode cX5_append 12 = .ok (.new 34, 3) := by decide +kernel
theorem dX5_append_15 : decode cX5_append 15 = .ok (.dup, 1) := by decide +kernel
theorem dX5_append_16 : decode cX5_append 16 = .ok (.ldc 108, 2) := by decide +kernel
theorem dX5_append_18 : decode cX5_append 18 = .ok (.invokespecial 38, 3) := by decide +kernel
theorem dX5_append_21 : decode cX5_append 21 = .ok (.athrow, 1) := by decide +kernel
theorem dX5_append_22 : decode cX5_append 22 = .ok (.aload_n 0, 1) := by decide +kernel
theorem dX5_append_23 : decode cX5_append 23 = .ok (.getfield 26, 3) := by decide +kernel
theorem dX5_append_26 : decode cX5_append 26 = .ok (.invokevirtual 110, 3) := by decide +kernel
theorem dX5_append_29 : decode cX5_append 29 = .ok (.ifCond .eq 13, 3) := by decide +kernel
theorem dX5_append_32 : decode cX5_append 32 = .ok (.new 114, 3) := by decide +kernel
theorem dX5_append_35 : decode cX5_append 35 = .ok (.dup, 1) := by decide +kernel
theorem dX5_append_36 : decode cX5_append 36 = .ok (.ldc 116, 2) := by decide +kernel
theorem dX5_append_38 : decode cX5_append 38 = .ok (.invokespecial 118, 3) := by decide +kernel
theorem dX5_append_41 : decode cX5_append 41 = .ok (.athrow, 1) := by decide +kernel
theorem dX5_append_42 : decode cX5_append 42 = .ok (.aload_n 0, 1) := by decide +kernel
theorem dX5_append_43 : decode cX5_append 43 = .ok (.getfield 26, 3) := by decide +kernel
theorem dX5_append_46 : decode cX5_append 46 = .ok (.iload_n 1, 1) := by decide +kernel
theorem dX5_append_47 : decode cX5_append 47 = .ok (.invokevirtual 119, 3) := by decide +kernel
theorem dX5_append_50 : decode cX5_append 50 = .ok (.ireturn, 1) := by decide +kernel
theorem dX5_clearBuffer_0 : decode cX5_clearBuffer 0 = .ok (.aload_n 0, 1) := by decide +kernel
theorem dX5_clearBuffer_1 : decode cX5_clearBuffer 1 = .ok (.getfield 26, 3) := by decide +kernel
theorem dX5_clearBuffer_4 : decode cX5_clearBuffer 4 = .ok (.invokevirtual 121, 3) := by decide +kernel
theorem dX5_clearBuffer_7 : decode cX5_clearBuffer 7 = .ok (.ireturn, 1) := by decide +kernel
theorem dX5_firstError_0 : decode cX5_firstError 0 = .ok (.aload_n 0, 1) := by decide +kernel
theorem dX5_firstError_1 : decode cX5_firstError 1 = .ok (.getfield 26, 3) := by decide +kernel
theorem dX5_firstError_4 : decode cX5_firstError 4 = .ok (.invokevirtual 125, 3) := by decide +kernel
theorem dX5_firstError_7 : decode cX5_firstError 7 = .ok (.ireturn, 1) := by decide +kernel
theorem dX5_execute_0 : decode cX5_execute 0 = .ok (.aload_n 0, 1) := by decide +kernel
theorem dX5_execute_1 : decode cX5_execute 1 = .ok (.getfield 26, 3) := by decide +kernel
theorem dX5_execute_4 : decode cX5_execute 4 = .ok (.invokevirtual 128, 3) := by decide +kernel
theorem dX5_execute_7 : decode cX5_execute 7 = .ok (.ifCond .ne 13, 3) := by decide +kernel
theorem dX5_execute_10 : decode cX5_execute 10 = .ok (.new 34, 3) := by decide +kernel
theorem dX5_execute_13 : decode cX5_execute 13 = .ok (.dup, 1) := by decide +kernel
theorem dX5_execute_14 : decode cX5_execute 14 = .ok (.ldc 131, 2) := by decide +kernel
theorem dX5_execute_16 : decode cX5_execute 16 = .ok (.invokespecial 38, 3) := by decide +kernel
theorem dX5_execute_19 : decode cX5_execute 19 = .ok (.athrow, 1) := by decide +kernel
theorem dX5_execute_20 : decode cX5_execute 20 = .ok (.aload_n 0, 1) := by decide +kernel
theorem dX5_execute_21 : decode cX5_execute 21 = .ok (.getfield 19, 3) := by decide +kernel
theorem dX5_execute_24 : decode cX5_execute 24 = .ok (.aload_n 0, 1) := by decide +kernel
theorem dX5_execute_25 : decode cX5_execute 25 = .ok (.getfield 10, 3) := by decide +kernel
theorem dX5_execute_28 : decode cX5_execute 28 = .ok (.invokevirtual 41, 3) := by decide +kernel
theorem dX5_execute_31 : decode cX5_execute 31 = .ok (.aload_n 0, 1) := by decide +kernel
theorem dX5_execute_32 : decode cX5_execute 32 = .ok (.invokevirtual 133, 3) := by decide +kernel
theorem dX5_execute_35 : decode cX5_execute 35 = .ok (.istore_n 1, 1) := by decide +kernel
theorem dX5_execute_36 : decode cX5_execute 36 = .ok (.aload_n 0, 1) := by decide +kernel
theorem dX5_execute_37 : decode cX5_execute 37 = .ok (.getfield 26, 3) := by decide +kernel
theorem dX5_execute_40 : decode cX5_execute 40 = .ok (.invokevirtual 121, 3) := by decide +kernel
theorem dX5_execute_43 : decode cX5_execute 43 = .ok (.pop, 1) := by decide +kernel
theorem dX5_execute_44 : decode cX5_execute 44 = .ok (.iload_n 1, 1) := by decide +kernel
theorem dX5_execute_45 : decode cX5_execute 45 = .ok (.ireturn, 1) := by decide +kernel
theorem dX5_undo_0 : decode cX5_undo 0 = .ok (.aload_n 0, 1) := by decide +kernel
theorem dX5_undo_1 : decode cX5_undo 1 = .ok (.getfield 19, 3) := by decide +kernel
theorem dX5_undo_4 : decode cX5_undo 4 = .ok (.getfield 136, 3) := by decide +kernel
theorem dX5_undo_7 : decode cX5_undo 7 = .ok (.iconst 1, 1) := by decide +kernel
theorem dX5_undo_8 : decode cX5_undo 8 = .ok (.if_icmp .ge 13, 3) := by decide +kernel
theorem dX5_undo_11 : decode cX5_undo 11 = .ok (.new 114, 3) := by decide +kernel
theorem dX5_undo_14 : decode cX5_undo 14 = .ok (.dup, 1) := by decide +kernel
theorem dX5_undo_15 : decode cX5_undo 15 = .ok (.ldc 139, 2) := by decide +kernel
theorem dX5_undo_17 : decode cX5_undo 17 = .ok (.invokespecial 118, 3) := by decide +kernel
theorem dX5_undo_20 : decode cX5_undo 20 = .ok (.athrow, 1) := by decide +kernel
theorem dX5_undo_21 : decode cX5_undo 21 = .ok (.aload_n 0, 1) := by decide +kernel
theorem dX5_undo_22 : decode cX5_undo 22 = .ok (.getfield 19, 3) := by decide +kernel
theorem dX5_undo_25 : decode cX5_undo 25 = .ok (.aload_n 0, 1) := by decide +kernel
theorem dX5_undo_26 : decode cX5_undo 26 = .ok (.getfield 10, 3) := by decide +kernel
theorem dX5_undo_29 : decode cX5_undo 29 = .ok (.invokevirtual 141, 3) := by decide +kernel
theorem dX5_undo_32 : decode cX5_undo 32 = .ok (.aload_n 0, 1) := by decide +kernel
theorem dX5_undo_33 : decode cX5_undo 33 = .ok (.getfield 19, 3) := by decide +kernel
theorem dX5_undo_36 : decode cX5_undo 36 = .ok (.getfield 136, 3) := by decide +kernel
theorem dX5_undo_39 : decode cX5_undo 39 = .ok (.ireturn, 1) := by decide +kernel
theorem dX5_keep_0 : decode cX5_keep 0 = .ok (.iload_n 1, 1) := by decide +kernel
theorem dX5_keep_1 : decode cX5_keep 1 = .ok (.invokestatic 144, 3) := by decide +kernel
theorem dX5_keep_4 : decode cX5_keep 4 = .ok (.aload_n 0, 1) := by decide +kernel
theorem dX5_keep_5 : decode cX5_keep 5 = .ok (.getfield 19, 3) := by decide +kernel
theorem dX5_keep_8 : decode cX5_keep 8 = .ok (.iload_n 1, 1) := by decide +kernel
theorem dX5_keep_9 : decode cX5_keep 9 = .ok (.aload_n 0, 1) := by decide +kernel
theorem dX5_keep_10 : decode cX5_keep 10 = .ok (.getfield 10, 3) := by decide +kernel
theorem dX5_keep_13 : decode cX5_keep 13 = .ok (.invokevirtual 147, 3) := by decide +kernel
theorem dX5_keep_16 : decode cX5_keep 16 = .ok (.aload_n 0, 1) := by decide +kernel
theorem dX5_keep_17 : decode cX5_keep 17 = .ok (.getfield 10, 3) := by decide +kernel
theorem dX5_keep_20 : decode cX5_keep 20 = .ok (.getfield 72, 3) := by decide +kernel
theorem dX5_keep_23 : decode cX5_keep 23 = .ok (.getfield 151, 3) := by decide +kernel
theorem dX5_keep_26 : decode cX5_keep 26 = .ok (.ireturn, 1) := by decide +kernel
theorem dX5_goBack_0 : decode cX5_goBack 0 = .ok (.iload_n 1, 1) := by decide +kernel
theorem dX5_goBack_1 : decode cX5_goBack 1 = .ok (.invokestatic 144, 3) := by decide +kernel
theorem dX5_goBack_4 : decode cX5_goBack 4 = .ok (.aload_n 0, 1) := by decide +kernel
theorem dX5_goBack_5 : decode cX5_goBack 5 = .ok (.getfield 19, 3) := by decide +kernel
theorem dX5_goBack_8 : decode cX5_goBack 8 = .ok (.iload_n 1, 1) := by decide +kernel
theorem dX5_goBack_9 : decode cX5_goBack 9 = .ok (.invokevirtual 154, 3) := by decide +kernel
theorem dX5_goBack_12 : decode cX5_goBack 12 = .ok (.ifCond .ne 13, 3) := by decide +kernel
theorem dX5_goBack_15 : decode cX5_goBack 15 = .ok (.new 114, 3) := by decide +kernel
theorem dX5_goBack_18 : decode cX5_goBack 18 = .ok (.dup, 1) := by decide +kernel
theorem dX5_goBack_19 : decode cX5_goBack 19 = .ok (.ldc 158, 2) := by decide +kernel
theorem dX5_goBack_21 : decode cX5_goBack 21 = .ok (.invokespecial 118, 3) := by decide +kernel
theorem dX5_goBack_24 : decode cX5_goBack 24 = .ok (.athrow, 1) := by decide +kernel
theorem dX5_goBack_25 : decode cX5_goBack 25 = .ok (.aload_n 0, 1) := by decide +kernel
theorem dX5_goBack_26 : decode cX5_goBack 26 = .ok (.getfield 19, 3) := by decide +kernel
theorem dX5_goBack_29 : decode cX5_goBack 29 = .ok (.aload_n 0, 1) := by decide +kernel
theorem dX5_goBack_30 : decode cX5_goBack 30 = .ok (.getfield 10, 3) := by decide +kernel
theorem dX5_goBack_33 : decode cX5_goBack 33 = .ok (.invokevirtual 41, 3) := by decide +kernel
theorem dX5_goBack_36 : decode cX5_goBack 36 = .ok (.aload_n 0, 1) := by decide +kernel
theorem dX5_goBack_37 : decode cX5_goBack 37 = .ok (.getfield 19, 3) := by decide +kernel
theorem dX5_goBack_40 : decode cX5_goBack 40 = .ok (.iload_n 1, 1) := by decide +kernel
theorem dX5_goBack_41 : decode cX5_goBack 41 = .ok (.aload_n 0, 1) := by decide +kernel
theorem dX5_goBack_42 : decode cX5_goBack 42 = .ok (.getfield 10, 3) := by decide +kernel
theorem dX5_goBack_45 : decode cX5_goBack 45 = .ok (.invokevirtual 160, 3) := by decide +kernel
theorem dX5_goBack_48 : decode cX5_goBack 48 = .ok (.aload_n 0, 1) := by decide +kernel
theorem dX5_goBack_49 : decode cX5_goBack 49 = .ok (.getfield 10, 3) := by decide +kernel
theorem dX5_goBack_52 : decode cX5_goBack 52 = .ok (.getfield 72, 3) := by decide +kernel
theorem dX5_goBack_55 : decode cX5_goBack 55 = .ok (.getfield 151, 3) := by decide +kernel
theorem dX5_goBack_58 : decode cX5_goBack 58 = .ok (.ireturn, 1) := by decide +kernel
theorem dX5_letter_0 : decode cX5_letter 0 = .ok (.iload_n 1, 1) := by decide +kernel
theorem dX5_letter_1 : decode cX5_letter 1 = .ok (.invokestatic 93, 3) := by decide +kernel
theorem dX5_letter_4 : decode cX5_letter 4 = .ok (.aload_n 0, 1) := by decide +kernel
theorem dX5_letter_5 : decode cX5_letter 5 = .ok (.getfield 10, 3) := by decide +kernel
theorem dX5_letter_8 : decode cX5_letter 8 = .ok (.getfield 45, 3) := by decide +kernel
theorem dX5_letter_11 : decode cX5_letter 11 = .ok (.iload_n 1, 1) := by decide +kernel
theorem dX5_letter_12 : decode cX5_letter 12 = .ok (.invokevirtual 90, 3) := by decide +kernel
theorem dX5_letter_15 : decode cX5_letter 15 = .ok (.ireturn, 1) := by decide +kernel
theorem dX5_cheque_0 : decode cX5_cheque 0 = .ok (.aload_n 0, 1) := by decide +kernel
theorem dX5_cheque_1 : decode cX5_cheque 1 = .ok (.getfield 10, 3) := by decide +kernel
theorem dX5_cheque_4 : decode cX5_cheque 4 = .ok (.getfield 72, 3) := by decide +kernel
theorem dX5_cheque_7 : decode cX5_cheque 7 = .ok (.iload_n 1, 1) := by decide +kernel
theorem dX5_cheque_8 : decode cX5_cheque 8 = .ok (.invokevirtual 84, 3) := by decide +kernel
theorem dX5_cheque_11 : decode cX5_cheque 11 = .ok (.istore_n 3, 1) := by decide +kernel
theorem dX5_cheque_12 : decode cX5_cheque 12 = .ok (.iload_n 3, 1) := by decide +kernel
theorem dX5_cheque_13 : decode cX5_cheque 13 = .ok (.iconst (-1), 1) := by decide +kernel
theorem dX5_cheque_14 : decode cX5_cheque 14 = .ok (.if_icmp .ne 13, 3) := by decide +kernel
theorem dX5_cheque_17 : decode cX5_cheque 17 = .ok (.new 163, 3) := by decide +kernel
theorem dX5_cheque_20 : decode cX5_cheque 20 = .ok (.dup, 1) := by decide +kernel
theorem dX5_cheque_21 : decode cX5_cheque 21 = .ok (.ldc 165, 2) := by decide +kernel
theorem dX5_cheque_23 : decode cX5_cheque 23 = .ok (.invokespecial 167, 3) := by decide +kernel
theorem dX5_cheque_26 : decode cX5_cheque 26 = .ok (.athrow, 1) := by decide +kernel
theorem dX5_cheque_27 : decode cX5_cheque 27 = .ok (.iload_n 2, 1) := by decide +kernel
theorem dX5_cheque_28 : decode cX5_cheque 28 = .ok (.tableswitch 82 0 4 #[36, 48, 60, 65, 70], 36) := by decide +kernel
theorem dX5_cheque_64 : decode cX5_cheque 64 = .ok (.aload_n 0, 1) := by decide +kernel
theorem dX5_cheque_65 : decode cX5_cheque 65 = .ok (.getfield 10, 3) := by decide +kernel
theorem dX5_cheque_68 : decode cX5_cheque 68 = .ok (.getfield 72, 3) := by decide +kernel
theorem dX5_cheque_71 : decode cX5_cheque 71 = .ok (.iload_n 3, 1) := by decide +kernel
theorem dX5_cheque_72 : decode cX5_cheque 72 = .ok (.invokevirtual 168, 3) := by decide +kernel
theorem dX5_cheque_75 : decode cX5_cheque 75 = .ok (.ireturn, 1) := by decide +kernel
theorem dX5_cheque_76 : decode cX5_cheque 76 = .ok (.aload_n 0, 1) := by decide +kernel
theorem dX5_cheque_77 : decode cX5_cheque 77 = .ok (.getfield 10, 3) := by decide +kernel
theorem dX5_cheque_80 : decode cX5_cheque 80 = .ok (.getfield 72, 3) := by decide +kernel
theorem dX5_cheque_83 : decode cX5_cheque 83 = .ok (.iload_n 3, 1) := by decide +kernel
theorem dX5_cheque_84 : decode cX5_cheque 84 = .ok (.invokevirtual 171, 3) := by decide +kernel
theorem dX5_cheque_87 : decode cX5_cheque 87 = .ok (.ireturn, 1) := by decide +kernel
theorem dX5_cheque_88 : decode cX5_cheque 88 = .ok (.iload_n 3, 1) := by decide +kernel
theorem dX5_cheque_89 : decode cX5_cheque 89 = .ok (.bipush 40, 2) := by decide +kernel
theorem dX5_cheque_91 : decode cX5_cheque 91 = .ok (.idiv, 1) := by decide +kernel
theorem dX5_cheque_92 : decode cX5_cheque 92 = .ok (.ireturn, 1) := by decide +kernel
theorem dX5_cheque_93 : decode cX5_cheque 93 = .ok (.iload_n 3, 1) := by decide +kernel
theorem dX5_cheque_94 : decode cX5_cheque 94 = .ok (.bipush 40, 2) := by decide +kernel
theorem dX5_cheque_96 : decode cX5_cheque 96 = .ok (.irem, 1) := by decide +kernel
theorem dX5_cheque_97 : decode cX5_cheque 97 = .ok (.ireturn, 1) := by decide +kernel
theorem dX5_cheque_98 : decode cX5_cheque 98 = .ok (.aload_n 0, 1) := by decide +kernel
theorem dX5_cheque_99 : decode cX5_cheque 99 = .ok (.getfield 10, 3) := by decide +kernel
theorem dX5_cheque_102 : decode cX5_cheque 102 = .ok (.getfield 72, 3) := by decide +kernel
theorem dX5_cheque_105 : decode cX5_cheque 105 = .ok (.iload_n 3, 1) := by decide +kernel
theorem dX5_cheque_106 : decode cX5_cheque 106 = .ok (.invokevirtual 174, 3) := by decide +kernel
theorem dX5_cheque_109 : decode cX5_cheque 109 = .ok (.ireturn, 1) := by decide +kernel
theorem dX5_cheque_110 : decode cX5_cheque 110 = .ok (.new 34, 3) := by decide +kernel
theorem dX5_cheque_113 : decode cX5_cheque 113 = .ok (.dup, 1) := by decide +kernel
theorem dX5_cheque_114 : decode cX5_cheque 114 = .ok (.ldc 177, 2) := by decide +kernel
theorem dX5_cheque_116 : decode cX5_cheque 116 = .ok (.invokespecial 38, 3) := by decide +kernel
theorem dX5_cheque_119 : decode cX5_cheque 119 = .ok (.athrow, 1) := by decide +kernel
theorem dX5_bookOf_0 : decode cX5_bookOf 0 = .ok (.iload_n 1, 1) := by decide +kernel
theorem dX5_bookOf_1 : decode cX5_bookOf 1 = .ok (.ifCond .lt 17, 3) := by decide +kernel
theorem dX5_bookOf_4 : decode cX5_bookOf 4 = .ok (.iload_n 1, 1) := by decide +kernel
theorem dX5_bookOf_5 : decode cX5_bookOf 5 = .ok (.aload_n 0, 1) := by decide +kernel
theorem dX5_bookOf_6 : decode cX5_bookOf 6 = .ok (.getfield 10, 3) := by decide +kernel
theorem dX5_bookOf_9 : decode cX5_bookOf 9 = .ok (.getfield 72, 3) := by decide +kernel
theorem dX5_bookOf_12 : decode cX5_bookOf 12 = .ok (.getfield 151, 3) := by decide +kernel
theorem dX5_bookOf_15 : decode cX5_bookOf 15 = .ok (.if_icmp .lt 13, 3) := by decide +kernel
theorem dX5_bookOf_18 : decode cX5_bookOf 18 = .ok (.new 163, 3) := by decide +kernel
theorem dX5_bookOf_21 : decode cX5_bookOf 21 = .ok (.dup, 1) := by decide +kernel
theorem dX5_bookOf_22 : decode cX5_bookOf 22 = .ok (.ldc 179, 2) := by decide +kernel
theorem dX5_bookOf_24 : decode cX5_bookOf 24 = .ok (.invokespecial 167, 3) := by decide +kernel
theorem dX5_bookOf_27 : decode cX5_bookOf 27 = .ok (.athrow, 1) := by decide +kernel
theorem dX5_bookOf_28 : decode cX5_bookOf 28 = .ok (.iload_n 2, 1) := by decide +kernel
theorem dX5_bookOf_29 : decode cX5_bookOf 29 = .ok (.ifCond .lt 9, 3) := by decide +kernel
theorem dX5_bookOf_32 : decode cX5_bookOf 32 = .ok (.iload_n 2, 1) := by decide +kernel
theorem dX5_bookOf_33 : decode cX5_bookOf 33 = .ok (.bipush 8, 2) := by decide +kernel
theorem dX5_bookOf_35 : decode cX5_bookOf 35 = .ok (.if_icmp .le 13, 3) := by decide +kernel
theorem dX5_bookOf_38 : decode cX5_bookOf 38 = .ok (.new 34, 3) := by decide +kernel
theorem dX5_bookOf_41 : decode cX5_bookOf 41 = .ok (.dup, 1) := by decide +kernel
theorem dX5_bookOf_42 : decode cX5_bookOf 42 = .ok (.ldc 181, 2) := by decide +kernel
theorem dX5_bookOf_44 : decode cX5_bookOf 44 = .ok (.invokespecial 38, 3) := by decide +kernel
theorem dX5_bookOf_47 : decode cX5_bookOf 47 = .ok (.athrow, 1) := by decide +kernel
theorem dX5_bookOf_48 : decode cX5_bookOf 48 = .ok (.aload_n 0, 1) := by decide +kernel
theorem dX5_bookOf_49 : decode cX5_bookOf 49 = .ok (.getfield 10, 3) := by decide +kernel
theorem dX5_bookOf_52 : decode cX5_bookOf 52 = .ok (.getfield 72, 3) := by decide +kernel
theorem dX5_bookOf_55 : decode cX5_bookOf 55 = .ok (.iload_n 1, 1) := by decide +kernel
theorem dX5_bookOf_56 : decode cX5_bookOf 56 = .ok (.iload_n 2, 1) := by decide +kernel
theorem dX5_bookOf_57 : decode cX5_bookOf 57 = .ok (.invokevirtual 183, 3) := by decide +kernel
theorem dX5_bookOf_60 : decode cX5_bookOf 60 = .ok (.ireturn, 1) := by decide +kernel
theorem dX5_count_0 : decode cX5_count 0 = .ok (.iload_n 1, 1) := by decide +kernel
theorem dX5_count_1 : decode cX5_count 1 = .ok (.ifCond .lt 9, 3) := by decide +kernel
theorem dX5_count_4 : decode cX5_count 4 = .ok (.iload_n 1, 1) := by decide +kernel
theorem dX5_count_5 : decode cX5_count 5 = .ok (.bipush 17, 2) := by decide +kernel
theorem dX5_count_7 : decode cX5_count 7 = .ok (.if_icmp .le 13, 3) := by decide +kernel
theorem dX5_count_10 : decode cX5_count 10 = .ok (.new 34, 3) := by decide +kernel
theorem dX5_count_13 : decode cX5_count 13 = .ok (.dup, 1) := by decide +kernel
theorem dX5_count_14 : decode cX5_count 14 = .ok (.ldc 186, 2) := by decide +kernel
theorem dX5_count_16 : decode cX5_count 16 = .ok (.invokespecial 38, 3) := by decide +kernel
theorem dX5_count_19 : decode cX5_count 19 = .ok (.athrow, 1) := by decide +kernel
theorem dX5_count_20 : decode cX5_count 20 = .ok (.iload_n 1, 1) := by decide +kernel
theorem dX5_count_21 : decode cX5_count 21 = .ok (.bipush 12, 2) := by decide +kernel
theorem dX5_count_23 : decode cX5_count 23 = .ok (.if_icmp .lt 18, 3) := by decide +kernel
theorem dX5_count_26 : decode cX5_count 26 = .ok (.aload_n 0, 1) := by decide +kernel
theorem dX5_count_27 : decode cX5_count 27 = .ok (.getfield 10, 3) := by decide +kernel
theorem dX5_count_30 : decode cX5_count 30 = .ok (.getfield 45, 3) := by decide +kernel
theorem dX5_count_33 : decode cX5_count 33 = .ok (.iload_n 1, 1) := by decide +kernel
theorem dX5_count_34 : decode cX5_count 34 = .ok (.bipush 12, 2) := by decide +kernel
theorem dX5_count_36 : decode cX5_count 36 = .ok (.isub, 1) := by decide +kernel
theorem dX5_count_37 : decode cX5_count 37 = .ok (.invokevirtual 49, 3) := by decide +kernel
theorem dX5_count_40 : decode cX5_count 40 = .ok (.ireturn, 1) := by decide +kernel
theorem dX5_count_41 : decode cX5_count 41 = .ok (.iload_n 1, 1) := by decide +kernel
theorem dX5_count_42 : decode cX5_count 42 = .ok (.tableswitch 108 0 11 #[62, 108, 108, 108, 108, 108, 108, 108, 73, 81, 92, 100], 62) := by decide +kernel
theorem dX5_count_104 : decode cX5_count 104 = .ok (.aload_n 0, 1) := by decide +kernel
theorem dX5_count_105 : decode cX5_count 105 = .ok (.getfield 10, 3) := by decide +kernel
theorem dX5_count_108 : decode cX5_count 108 = .ok (.getfield 72, 3) := by decide +kernel
theorem dX5_count_111 : decode cX5_count 111 = .ok (.getfield 151, 3) := by decide +kernel
theorem dX5_count_114 : decode cX5_count 114 = .ok (.ireturn, 1) := by decide +kernel
theorem dX5_count_115 : decode cX5_count 115 = .ok (.aload_n 0, 1) := by decide +kernel
theorem dX5_count_116 : decode cX5_count 116 = .ok (.getfield 10, 3) := by decide +kernel
theorem dX5_count_119 : decode cX5_count 119 = .ok (.getfield 188, 3) := by decide +kernel
theorem dX5_count_122 : decode cX5_count 122 = .ok (.ireturn, 1) := by decide +kernel
theorem dX5_count_123 : decode cX5_count 123 = .ok (.aload_n 0, 1) := by decide +kernel
theorem dX5_count_124 : decode cX5_count 124 = .ok (.getfield 10, 3) := by decide +kernel
theorem dX5_count_127 : decode cX5_count 127 = .ok (.getfield 45, 3) := by decide +kernel
theorem dX5_count_130 : decode cX5_count 130 = .ok (.getfield 61, 3) := by decide +kernel
theorem dX5_count_133 : decode cX5_count 133 = .ok (.ireturn, 1) := by decide +kernel
theorem dX5_count_134 : decode cX5_count 134 = .ok (.aload_n 0, 1) := by decide +kernel
theorem dX5_count_135 : decode cX5_count 135 = .ok (.getfield 19, 3) := by decide +kernel
theorem dX5_count_138 : decode cX5_count 138 = .ok (.getfield 136, 3) := by decide +kernel
theorem dX5_count_141 : decode cX5_count 141 = .ok (.ireturn, 1) := by decide +kernel
theorem dX5_count_142 : decode cX5_count 142 = .ok (.aload_n 0, 1) := by decide +kernel
theorem dX5_count_143 : decode cX5_count 143 = .ok (.getfield 26, 3) := by decide +kernel
theorem dX5_count_146 : decode cX5_count 146 = .ok (.getfield 191, 3) := by decide +kernel
theorem dX5_count_149 : decode cX5_count 149 = .ok (.ireturn, 1) := by decide +kernel
theorem dX5_count_150 : decode cX5_count 150 = .ok (.aload_n 0, 1) := by decide +kernel
theorem dX5_count_151 : decode cX5_count 151 = .ok (.getfield 10, 3) := by decide +kernel
theorem dX5_count_154 : decode cX5_count 154 = .ok (.getfield 72, 3) := by decide +kernel
theorem dX5_count_157 : decode cX5_count 157 = .ok (.iload_n 1, 1) := by decide +kernel
theorem dX5_count_158 : decode cX5_count 158 = .ok (.invokevirtual 194, 3) := by decide +kernel
theorem dX5_count_161 : decode cX5_count 161 = .ok (.ireturn, 1) := by decide +kernel
theorem dX5_ranked_0 : decode cX5_ranked 0 = .ok (.iload_n 1, 1) := by decide +kernel
theorem dX5_ranked_1 : decode cX5_ranked 1 = .ok (.ifCond .ge 13, 3) := by decide +kernel
theorem dX5_ranked_4 : decode cX5_ranked 4 = .ok (.new 34, 3) := by decide +kernel
theorem dX5_ranked_7 : decode cX5_ranked 7 = .ok (.dup, 1) := by decide +kernel
theorem dX5_ranked_8 : decode cX5_ranked 8 = .ok (.ldc 197, 2) := by decide +kernel
theorem dX5_ranked_10 : decode cX5_ranked 10 = .ok (.invokespecial 38, 3) := by decide +kernel
theorem dX5_ranked_13 : decode cX5_ranked 13 = .ok (.athrow, 1) := by decide +kernel
theorem dX5_ranked_14 : decode cX5_ranked 14 = .ok (.aload_n 0, 1) := by decide +kernel
theorem dX5_ranked_15 : decode cX5_ranked 15 = .ok (.getfield 10, 3) := by decide +kernel
theorem dX5_ranked_18 : decode cX5_ranked 18 = .ok (.getfield 72, 3) := by decide +kernel
theorem dX5_ranked_21 : decode cX5_ranked 21 = .ok (.iload_n 1, 1) := by decide +kernel
theorem dX5_ranked_22 : decode cX5_ranked 22 = .ok (.invokevirtual 199, 3) := by decide +kernel
theorem dX5_ranked_25 : decode cX5_ranked 25 = .ok (.ireturn, 1) := by decide +kernel
theorem dX5_missed_0 : decode cX5_missed 0 = .ok (.iload_n 1, 1) := by decide +kernel
theorem dX5_missed_1 : decode cX5_missed 1 = .ok (.invokestatic 93, 3) := by decide +kernel
theorem dX5_missed_4 : decode cX5_missed 4 = .ok (.iload_n 2, 1) := by decide +kernel
theorem dX5_missed_5 : decode cX5_missed 5 = .ok (.invokestatic 202, 3) := by decide +kernel
theorem dX5_missed_8 : decode cX5_missed 8 = .ok (.iload_n 2, 1) := by decide +kernel
theorem dX5_missed_9 : decode cX5_missed 9 = .ok (.lookupswitch 51 #[(0, 27), (1, 39)], 27) := by decide +kernel
theorem dX5_missed_36 : decode cX5_missed 36 = .ok (.aload_n 0, 1) := by decide +kernel
theorem dX5_missed_37 : decode cX5_missed 37 = .ok (.getfield 10, 3) := by decide +kernel
theorem dX5_missed_40 : decode cX5_missed 40 = .ok (.getfield 45, 3) := by decide +kernel
theorem dX5_missed_43 : decode cX5_missed 43 = .ok (.iload_n 1, 1) := by decide +kernel
theorem dX5_missed_44 : decode cX5_missed 44 = .ok (.invokevirtual 205, 3) := by decide +kernel
theorem dX5_missed_47 : decode cX5_missed 47 = .ok (.ireturn, 1) := by decide +kernel
theorem dX5_missed_48 : decode cX5_missed 48 = .ok (.aload_n 0, 1) := by decide +kernel
theorem dX5_missed_49 : decode cX5_missed 49 = .ok (.getfield 10, 3) := by decide +kernel
theorem dX5_missed_52 : decode cX5_missed 52 = .ok (.getfield 45, 3) := by decide +kernel
theorem dX5_missed_55 : decode cX5_missed 55 = .ok (.iload_n 1, 1) := by decide +kernel
theorem dX5_missed_56 : decode cX5_missed 56 = .ok (.invokevirtual 208, 3) := by decide +kernel
theorem dX5_missed_59 : decode cX5_missed 59 = .ok (.ireturn, 1) := by decide +kernel
theorem dX5_missed_60 : decode cX5_missed 60 = .ok (.iconst 0, 1) := by decide +kernel
theorem dX5_missed_61 : decode cX5_missed 61 = .ok (.ireturn, 1) := by decide +kernel
theorem dX5_weak_0 : decode cX5_weak 0 = .ok (.iload_n 1, 1) := by decide +kernel
theorem dX5_weak_1 : decode cX5_weak 1 = .ok (.ifCond .lt 11, 3) := by decide +kernel
theorem dX5_weak_4 : decode cX5_weak 4 = .ok (.iload_n 1, 1) := by decide +kernel
theorem dX5_weak_5 : decode cX5_weak 5 = .ok (.iload_n 2, 1) := by decide +kernel
theorem dX5_weak_6 : decode cX5_weak 6 = .ok (.invokestatic 211, 3) := by decide +kernel
theorem dX5_weak_9 : decode cX5_weak 9 = .ok (.if_icmp .lt 13, 3) := by decide +kernel
theorem dX5_weak_12 : decode cX5_weak 12 = .ok (.new 163, 3) := by decide +kernel
theorem dX5_weak_15 : decode cX5_weak 15 = .ok (.dup, 1) := by decide +kernel
theorem dX5_weak_16 : decode cX5_weak 16 = .ok (.ldc 214, 2) := by decide +kernel
theorem dX5_weak_18 : decode cX5_weak 18 = .ok (.invokespecial 167, 3) := by decide +kernel
theorem dX5_weak_21 : decode cX5_weak 21 = .ok (.athrow, 1) := by decide +kernel
theorem dX5_weak_22 : decode cX5_weak 22 = .ok (.iload_n 2, 1) := by decide +kernel
theorem dX5_weak_23 : decode cX5_weak 23 = .ok (.ifCond .lt 17, 3) := by decide +kernel
theorem dX5_weak_26 : decode cX5_weak 26 = .ok (.iload_n 2, 1) := by decide +kernel
theorem dX5_weak_27 : decode cX5_weak 27 = .ok (.iconst 1, 1) := by decide +kernel
theorem dX5_weak_28 : decode cX5_weak 28 = .ok (.if_icmp .gt 12, 3) := by decide +kernel
theorem dX5_weak_31 : decode cX5_weak 31 = .ok (.iload_n 3, 1) := by decide +kernel
theorem dX5_weak_32 : decode cX5_weak 32 = .ok (.ifCond .lt 8, 3) := by decide +kernel
theorem dX5_weak_35 : decode cX5_weak 35 = .ok (.iload_n 3, 1) := by decide +kernel
theorem dX5_weak_36 : decode cX5_weak 36 = .ok (.iconst 1, 1) := by decide +kernel
theorem dX5_weak_37 : decode cX5_weak 37 = .ok (.if_icmp .le 13, 3) := by decide +kernel
theorem dX5_weak_40 : decode cX5_weak 40 = .ok (.new 34, 3) := by decide +kernel
theorem dX5_weak_43 : decode cX5_weak 43 = .ok (.dup, 1) := by decide +kernel
theorem dX5_weak_44 : decode cX5_weak 44 = .ok (.ldc 216, 2) := by decide +kernel
theorem dX5_weak_46 : decode cX5_weak 46 = .ok (.invokespecial 38, 3) := by decide +kernel
theorem dX5_weak_49 : decode cX5_weak 49 = .ok (.athrow, 1) := by decide +kernel
theorem dX5_weak_50 : decode cX5_weak 50 = .ok (.aload_n 0, 1) := by decide +kernel
theorem dX5_weak_51 : decode cX5_weak 51 = .ok (.getfield 10, 3) := by decide +kernel
theorem dX5_weak_54 : decode cX5_weak 54 = .ok (.getfield 45, 3) := by decide +kernel
theorem dX5_weak_57 : decode cX5_weak 57 = .ok (.iload_n 1, 1) := by decide +kernel
theorem dX5_weak_58 : decode cX5_weak 58 = .ok (.iload_n 2, 1) := by decide +kernel
theorem dX5_weak_59 : decode cX5_weak 59 = .ok (.invokevirtual 218, 3) := by decide +kernel
theorem dX5_weak_62 : decode cX5_weak 62 = .ok (.istore 4, 2) := by decide +kernel
theorem dX5_weak_64 : decode cX5_weak 64 = .ok (.iload_n 3, 1) := by decide +kernel
theorem dX5_weak_65 : decode cX5_weak 65 = .ok (.ifCond .ne 18, 3) := by decide +kernel
theorem dX5_weak_68 : decode cX5_weak 68 = .ok (.aload_n 0, 1) := by decide +kernel
theorem dX5_weak_69 : decode cX5_weak 69 = .ok (.getfield 10, 3) := by decide +kernel
theorem dX5_weak_72 : decode cX5_weak 72 = .ok (.getfield 45, 3) := by decide +kernel
theorem dX5_weak_75 : decode cX5_weak 75 = .ok (.iload 4, 2) := by decide +kernel
theorem dX5_weak_77 : decode cX5_weak 77 = .ok (.invokevirtual 221, 3) := by decide +kernel
theorem dX5_weak_80 : decode cX5_weak 80 = .ok (.goto 15, 3) := by decide +kernel
theorem dX5_weak_83 : decode cX5_weak 83 = .ok (.aload_n 0, 1) := by decide +kernel
theorem dX5_weak_84 : decode cX5_weak 84 = .ok (.getfield 10, 3) := by decide +kernel
theorem dX5_weak_87 : decode cX5_weak 87 = .ok (.getfield 45, 3) := by decide +kernel
theorem dX5_weak_90 : decode cX5_weak 90 = .ok (.iload 4, 2) := by decide +kernel
theorem dX5_weak_92 : decode cX5_weak 92 = .ok (.invokevirtual 224, 3) := by decide +kernel
theorem dX5_weak_95 : decode cX5_weak 95 = .ok (.ireturn, 1) := by decide +kernel
theorem dX5_finds_0 : decode cX5_finds 0 = .ok (.iload_n 1, 1) := by decide +kernel
theorem dX5_finds_1 : decode cX5_finds 1 = .ok (.invokestatic 202, 3) := by decide +kernel
theorem dX5_finds_4 : decode cX5_finds 4 = .ok (.iload_n 1, 1) := by decide +kernel
theorem dX5_finds_5 : decode cX5_finds 5 = .ok (.iconst 2, 1) := by decide +kernel
theorem dX5_finds_6 : decode cX5_finds 6 = .ok (.if_icmp .eq 17, 3) := by decide +kernel
theorem dX5_finds_9 : decode cX5_finds 9 = .ok (.aload_n 0, 1) := by decide +kernel
theorem dX5_finds_10 : decode cX5_finds 10 = .ok (.getfield 10, 3) := by decide +kernel
theorem dX5_finds_13 : decode cX5_finds 13 = .ok (.getfield 45, 3) := by decide +kernel
theorem dX5_finds_16 : decode cX5_finds 16 = .ok (.iload_n 1, 1) := by decide +kernel
theorem dX5_finds_17 : decode cX5_finds 17 = .ok (.invokevirtual 227, 3) := by decide +kernel
theorem dX5_finds_20 : decode cX5_finds 20 = .ok (.ifCond .eq 7, 3) := by decide +kernel
theorem dX5_finds_23 : decode cX5_finds 23 = .ok (.iconst 1, 1) := by decide +kernel
theorem dX5_finds_24 : decode cX5_finds 24 = .ok (.goto 4, 3) := by decide +kernel
theorem dX5_finds_27 : decode cX5_finds 27 = .ok (.iconst 0, 1) := by decide +kernel
theorem dX5_finds_28 : decode cX5_finds 28 = .ok (.ireturn, 1) := by decide +kernel
theorem dX5_bestWeight_0 : decode cX5_bestWeight 0 = .ok (.iload_n 1, 1) := by decide +kernel
theorem dX5_bestWeight_1 : decode cX5_bestWeight 1 = .ok (.invokestatic 30, 3) := by decide +kernel
theorem dX5_bestWeight_4 : decode cX5_bestWeight 4 = .ok (.iconst 1, 1) := by decide +kernel
theorem dX5_bestWeight_5 : decode cX5_bestWeight 5 = .ok (.istore_n 2, 1) := by decide +kernel
theorem dX5_bestWeight_6 : decode cX5_bestWeight 6 = .ok (.aload_n 0, 1) := by decide +kernel
theorem dX5_bestWeight_7 : decode cX5_bestWeight 7 = .ok (.getfield 10, 3) := by decide +kernel
theorem dX5_bestWeight_10 : decode cX5_bestWeight 10 = .ok (.getfield 45, 3) := by decide +kernel
theorem dX5_bestWeight_13 : decode cX5_bestWeight 13 = .ok (.iload_n 1, 1) := by decide +kernel
theorem dX5_bestWeight_14 : decode cX5_bestWeight 14 = .ok (.iload_n 2, 1) := by decide +kernel
theorem dX5_bestWeight_15 : decode cX5_bestWeight 15 = .ok (.invokevirtual 230, 3) := by decide +kernel
theorem dX5_bestWeight_18 : decode cX5_bestWeight 18 = .ok (.istore_n 3, 1) := by decide +kernel
theorem dX5_bestWeight_19 : decode cX5_bestWeight 19 = .ok (.iconst 2, 1) := by decide +kernel
theorem dX5_bestWeight_20 : decode cX5_bestWeight 20 = .ok (.istore 4, 2) := by decide +kernel
theorem dX5_bestWeight_22 : decode cX5_bestWeight 22 = .ok (.iload 4, 2) := by decide +kernel
theorem dX5_bestWeight_24 : decode cX5_bestWeight 24 = .ok (.bipush 9, 2) := by decide +kernel
theorem dX5_bestWeight_26 : decode cX5_bestWeight 26 = .ok (.if_icmp .gt 36, 3) := by decide +kernel
theorem dX5_bestWeight_29 : decode cX5_bestWeight 29 = .ok (.aload_n 0, 1) := by decide +kernel
theorem dX5_bestWeight_30 : decode cX5_bestWeight 30 = .ok (.getfield 10, 3) := by decide +kernel
theorem dX5_bestWeight_33 : decode cX5_bestWeight 33 = .ok (.getfield 45, 3) := by decide +kernel
theorem dX5_bestWeight_36 : decode cX5_bestWeight 36 = .ok (.iload_n 1, 1) := by decide +kernel
theorem dX5_bestWeight_37 : decode cX5_bestWeight 37 = .ok (.iload 4, 2) := by decide +kernel
theorem dX5_bestWeight_39 : decode cX5_bestWeight 39 = .ok (.invokevirtual 230, 3) := by decide +kernel
theorem dX5_bestWeight_42 : decode cX5_bestWeight 42 = .ok (.istore 5, 2) := by decide +kernel
theorem dX5_bestWeight_44 : decode cX5_bestWeight 44 = .ok (.iload 5, 2) := by decide +kernel
theorem dX5_bestWeight_46 : decode cX5_bestWeight 46 = .ok (.iload_n 3, 1) := by decide +kernel
theorem dX5_bestWeight_47 : decode cX5_bestWeight 47 = .ok (.if_icmp .ge 9, 3) := by decide +kernel
theorem dX5_bestWeight_50 : decode cX5_bestWeight 50 = .ok (.iload 4, 2) := by decide +kernel
theorem dX5_bestWeight_52 : decode cX5_bestWeight 52 = .ok (.istore_n 2, 1) := by decide +kernel
theorem dX5_bestWeight_53 : decode cX5_bestWeight 53 = .ok (.iload 5, 2) := by decide +kernel
theorem dX5_bestWeight_55 : decode cX5_bestWeight 55 = .ok (.istore_n 3, 1) := by decide +kernel
theorem dX5_bestWeight_56 : decode cX5_bestWeight 56 = .ok (.iinc 4 1, 3) := by decide +kernel
theorem dX5_bestWeight_59 : decode cX5_bestWeight 59 = .ok (.goto (-37), 3) := by decide +kernel
theorem dX5_bestWeight_62 : decode cX5_bestWeight 62 = .ok (.iload_n 2, 1) := by decide +kernel
theorem dX5_bestWeight_63 : decode cX5_bestWeight 63 = .ok (.ireturn, 1) := by decide +kernel
theorem dX5_meant_0 : decode cX5_meant 0 = .ok (.iload_n 1, 1) := by decide +kernel
theorem dX5_meant_1 : decode cX5_meant 1 = .ok (.invokestatic 93, 3) := by decide +kernel
theorem dX5_meant_4 : decode cX5_meant 4 = .ok (.iload_n 2, 1) := by decide +kernel
theorem dX5_meant_5 : decode cX5_meant 5 = .ok (.invokestatic 96, 3) := by decide +kernel
theorem dX5_meant_8 : decode cX5_meant 8 = .ok (.iload_n 3, 1) := by decide +kernel
theorem dX5_meant_9 : decode cX5_meant 9 = .ok (.iconst (-1), 1) := by decide +kernel
theorem dX5_meant_10 : decode cX5_meant 10 = .ok (.if_icmp .ge 13, 3) := by decide +kernel
theorem dX5_meant_13 : decode cX5_meant 13 = .ok (.new 34, 3) := by decide +kernel
theorem dX5_meant_16 : decode cX5_meant 16 = .ok (.dup, 1) := by decide +kernel
theorem dX5_meant_17 : decode cX5_meant 17 = .ok (.ldc 233, 2) := by decide +kernel
theorem dX5_meant_19 : decode cX5_meant 19 = .ok (.invokespecial 38, 3) := by decide +kernel
theorem dX5_meant_22 : decode cX5_meant 22 = .ok (.athrow, 1) := by decide +kernel
theorem dX5_meant_23 : decode cX5_meant 23 = .ok (.aload_n 0, 1) := by decide +kernel
theorem dX5_meant_24 : decode cX5_meant 24 = .ok (.getfield 10, 3) := by decide +kernel
theorem dX5_meant_27 : decode cX5_meant 27 = .ok (.iload_n 1, 1) := by decide +kernel
theorem dX5_meant_28 : decode cX5_meant 28 = .ok (.iload_n 2, 1) := by decide +kernel
theorem dX5_meant_29 : decode cX5_meant 29 = .ok (.iload_n 3, 1) := by decide +kernel
theorem dX5_meant_30 : decode cX5_meant 30 = .ok (.invokevirtual 235, 3) := by decide +kernel
theorem dX5_meant_33 : decode cX5_meant 33 = .ok (.ireturn, 1) := by decide +kernel
theorem dX5_slip_0 : decode cX5_slip 0 = .ok (.iload_n 1, 1) := by decide +kernel
theorem dX5_slip_1 : decode cX5_slip 1 = .ok (.invokestatic 93, 3) := by decide +kernel
theorem dX5_slip_4 : decode cX5_slip 4 = .ok (.iload_n 2, 1) := by decide +kernel
theorem dX5_slip_5 : decode cX5_slip 5 = .ok (.invokestatic 93, 3) := by decide +kernel
theorem dX5_slip_8 : decode cX5_slip 8 = .ok (.iload_n 3, 1) := by decide +kernel
theorem dX5_slip_9 : decode cX5_slip 9 = .ok (.invokestatic 96, 3) := by decide +kernel
theorem dX5_slip_12 : decode cX5_slip 12 = .ok (.aload_n 0, 1) := by decide +kernel
theorem dX5_slip_13 : decode cX5_slip 13 = .ok (.getfield 10, 3) := by decide +kernel
theorem dX5_slip_16 : decode cX5_slip 16 = .ok (.getfield 45, 3) := by decide +kernel
theorem dX5_slip_19 : decode cX5_slip 19 = .ok (.iload_n 1, 1) := by decide +kernel
theorem dX5_slip_20 : decode cX5_slip 20 = .ok (.iload_n 2, 1) := by decide +kernel
theorem dX5_slip_21 : decode cX5_slip 21 = .ok (.iload_n 3, 1) := by decide +kernel
theorem dX5_slip_22 : decode cX5_slip 22 = .ok (.invokevirtual 239, 3) := by decide +kernel
theorem dX5_slip_25 : decode cX5_slip 25 = .ok (.ireturn, 1) := by decide +kernel
theorem dX5_cashed_0 : decode cX5_cashed 0 = .ok (.aload_n 0, 1) := by decide +kernel
theorem dX5_cashed_1 : decode cX5_cashed 1 = .ok (.getfield 10, 3) := by decide +kernel
theorem dX5_cashed_4 : decode cX5_cashed 4 = .ok (.getfield 72, 3) := by decide +kernel
theorem dX5_cashed_7 : decode cX5_cashed 7 = .ok (.iconst 1, 1) := by decide +kernel
theorem dX5_cashed_8 : decode cX5_cashed 8 = .ok (.invokevirtual 194, 3) := by decide +kernel
theorem dX5_cashed_11 : decode cX5_cashed 11 = .ok (.istore_n 1, 1) := by decide +kernel
theorem dX5_cashed_12 : decode cX5_cashed 12 = .ok (.iload_n 1, 1) := by decide +kernel
theorem dX5_cashed_13 : decode cX5_cashed 13 = .ok (.iconst 1, 1) := by decide +kernel
theorem dX5_cashed_14 : decode cX5_cashed 14 = .ok (.if_icmp .ge 5, 3) := by decide +kernel
theorem dX5_cashed_17 : decode cX5_cashed 17 = .ok (.dconst 0, 1) := by decide +kernel
theorem dX5_cashed_18 : decode cX5_cashed 18 = .ok (.dreturn, 1) := by decide +kernel
theorem dX5_cashed_19 : decode cX5_cashed 19 = .ok (.aload_n 0, 1) := by decide +kernel
theorem dX5_cashed_20 : decode cX5_cashed 20 = .ok (.getfield 10, 3) := by decide +kernel
theorem dX5_cashed_23 : decode cX5_cashed 23 = .ok (.getfield 72, 3) := by decide +kernel
theorem dX5_cashed_26 : decode cX5_cashed 26 = .ok (.iconst 4, 1) := by decide +kernel
theorem dX5_cashed_27 : decode cX5_cashed 27 = .ok (.invokevirtual 194, 3) := by decide +kernel
theorem dX5_cashed_30 : decode cX5_cashed 30 = .ok (.i2d, 1) := by decide +kernel
theorem dX5_cashed_31 : decode cX5_cashed 31 = .ok (.iload_n 1, 1) := by decide +kernel
theorem dX5_cashed_32 : decode cX5_cashed 32 = .ok (.i2d, 1) := by decide +kernel
theorem dX5_cashed_33 : decode cX5_cashed 33 = .ok (.ddiv, 1) := by decide +kernel
theorem dX5_cashed_34 : decode cX5_cashed 34 = .ok (.dreturn, 1) := by decide +kernel
theorem dX5_throwIfNoPosition_0 : decode cX5_throwIfNoPosition 0 = .ok (.iload_n 0, 1) := by decide +kernel
theorem dX5_throwIfNoPosition_1 : decode cX5_throwIfNoPosition 1 = .ok (.ifCond .lt 9, 3) := by decide +kernel
theorem dX5_throwIfNoPosition_4 : decode cX5_throwIfNoPosition 4 = .ok (.iload_n 0, 1) := by decide +kernel
theorem dX5_throwIfNoPosition_5 : decode cX5_throwIfNoPosition 5 = .ok (.bipush 6, 2) := by decide +kernel
theorem dX5_throwIfNoPosition_7 : decode cX5_throwIfNoPosition 7 = .ok (.if_icmp .lt 13, 3) := by decide +kernel
theorem dX5_throwIfNoPosition_10 : decode cX5_throwIfNoPosition 10 = .ok (.new 163, 3) := by decide +kernel
theorem dX5_throwIfNoPosition_13 : decode cX5_throwIfNoPosition 13 = .ok (.dup, 1) := by decide +kernel
theorem dX5_throwIfNoPosition_14 : decode cX5_throwIfNoPosition 14 = .ok (.ldc 214, 2) := by decide +kernel
theorem dX5_throwIfNoPosition_16 : decode cX5_throwIfNoPosition 16 = .ok (.invokespecial 167, 3) := by decide +kernel
theorem dX5_throwIfNoPosition_19 : decode cX5_throwIfNoPosition 19 = .ok (.athrow, 1) := by decide +kernel
theorem dX5_throwIfNoPosition_20 : decode cX5_throwIfNoPosition 20 = .ok (.return_, 1) := by decide +kernel
theorem dX5_throwIfNoSerial_0 : decode cX5_throwIfNoSerial 0 = .ok (.iload_n 0, 1) := by decide +kernel
theorem dX5_throwIfNoSerial_1 : decode cX5_throwIfNoSerial 1 = .ok (.invokestatic 242, 3) := by decide +kernel
theorem dX5_throwIfNoSerial_4 : decode cX5_throwIfNoSerial 4 = .ok (.ifCond .ne 13, 3) := by decide +kernel
theorem dX5_throwIfNoSerial_7 : decode cX5_throwIfNoSerial 7 = .ok (.new 163, 3) := by decide +kernel
theorem dX5_throwIfNoSerial_10 : decode cX5_throwIfNoSerial 10 = .ok (.dup, 1) := by decide +kernel
theorem dX5_throwIfNoSerial_11 : decode cX5_throwIfNoSerial 11 = .ok (.ldc 245, 2) := by decide +kernel
theorem dX5_throwIfNoSerial_13 : decode cX5_throwIfNoSerial 13 = .ok (.invokespecial 167, 3) := by decide +kernel
theorem dX5_throwIfNoSerial_16 : decode cX5_throwIfNoSerial 16 = .ok (.athrow, 1) := by decide +kernel
theorem dX5_throwIfNoSerial_17 : decode cX5_throwIfNoSerial 17 = .ok (.return_, 1) := by decide +kernel
theorem dX5_throwIfNoLetter_0 : decode cX5_throwIfNoLetter 0 = .ok (.iload_n 0, 1) := by decide +kernel
theorem dX5_throwIfNoLetter_1 : decode cX5_throwIfNoLetter 1 = .ok (.ifCond .lt 9, 3) := by decide +kernel
theorem dX5_throwIfNoLetter_4 : decode cX5_throwIfNoLetter 4 = .ok (.iload_n 0, 1) := by decide +kernel
theorem dX5_throwIfNoLetter_5 : decode cX5_throwIfNoLetter 5 = .ok (.bipush 26, 2) := by decide +kernel
theorem dX5_throwIfNoLetter_7 : decode cX5_throwIfNoLetter 7 = .ok (.if_icmp .lt 13, 3) := by decide +kernel
theorem dX5_throwIfNoLetter_10 : decode cX5_throwIfNoLetter 10 = .ok (.new 34, 3) := by decide +kernel
theorem dX5_throwIfNoLetter_13 : decode cX5_throwIfNoLetter 13 = .ok (.dup, 1) := by decide +kernel
theorem dX5_throwIfNoLetter_14 : decode cX5_throwIfNoLetter 14 = .ok (.ldc 247, 2) := by decide +kernel
theorem dX5_throwIfNoLetter_16 : decode cX5_throwIfNoLetter 16 = .ok (.invokespecial 38, 3) := by decide +kernel
theorem dX5_throwIfNoLetter_19 : decode cX5_throwIfNoLetter 19 = .ok (.athrow, 1) := by decide +kernel
theorem dX5_throwIfNoLetter_20 : decode cX5_throwIfNoLetter 20 = .ok (.return_, 1) := by decide +kernel
theorem dX5_throwIfNoSlipKind_0 : decode cX5_throwIfNoSlipKind 0 = .ok (.iload_n 0, 1) := by decide +kernel
theorem dX5_throwIfNoSlipKind_1 : decode cX5_throwIfNoSlipKind 1 = .ok (.ifCond .lt 8, 3) := by decide +kernel
theorem dX5_throwIfNoSlipKind_4 : decode cX5_throwIfNoSlipKind 4 = .ok (.iload_n 0, 1) := by decide +kernel
theorem dX5_throwIfNoSlipKind_5 : decode cX5_throwIfNoSlipKind 5 = .ok (.iconst 2, 1) := by decide +kernel
theorem dX5_throwIfNoSlipKind_6 : decode cX5_throwIfNoSlipKind 6 = .ok (.if_icmp .le 13, 3) := by decide +kernel
theorem dX5_throwIfNoSlipKind_9 : decode cX5_throwIfNoSlipKind 9 = .ok (.new 34, 3) := by decide +kernel
theorem dX5_throwIfNoSlipKind_12 : decode cX5_throwIfNoSlipKind 12 = .ok (.dup, 1) := by decide +kernel
theorem dX5_throwIfNoSlipKind_13 : decode cX5_throwIfNoSlipKind 13 = .ok (.ldc 249, 2) := by decide +kernel
theorem dX5_throwIfNoSlipKind_15 : decode cX5_throwIfNoSlipKind 15 = .ok (.invokespecial 38, 3) := by decide +kernel
theorem dX5_throwIfNoSlipKind_18 : decode cX5_throwIfNoSlipKind 18 = .ok (.athrow, 1) := by decide +kernel
theorem dX5_throwIfNoSlipKind_19 : decode cX5_throwIfNoSlipKind 19 = .ok (.return_, 1) := by decide +kernel
theorem dX5_throwIfNoSlot_0 : decode cX5_throwIfNoSlot 0 = .ok (.iload_n 0, 1) := by decide +kernel
theorem dX5_throwIfNoSlot_1 : decode cX5_throwIfNoSlot 1 = .ok (.ifCond .lt 8, 3) := by decide +kernel
theorem dX5_throwIfNoSlot_4 : decode cX5_throwIfNoSlot 4 = .ok (.iload_n 0, 1) := by decide +kernel
theorem dX5_throwIfNoSlot_5 : decode cX5_throwIfNoSlot 5 = .ok (.iconst 2, 1) := by decide +kernel
theorem dX5_throwIfNoSlot_6 : decode cX5_throwIfNoSlot 6 = .ok (.if_icmp .lt 13, 3) := by decide +kernel
theorem dX5_throwIfNoSlot_9 : decode cX5_throwIfNoSlot 9 = .ok (.new 34, 3) := by decide +kernel
theorem dX5_throwIfNoSlot_12 : decode cX5_throwIfNoSlot 12 = .ok (.dup, 1) := by decide +kernel
theorem dX5_throwIfNoSlot_13 : decode cX5_throwIfNoSlot 13 = .ok (.ldc 251, 2) := by decide +kernel
theorem dX5_throwIfNoSlot_15 : decode cX5_throwIfNoSlot 15 = .ok (.invokespecial 38, 3) := by decide +kernel
theorem dX5_throwIfNoSlot_18 : decode cX5_throwIfNoSlot 18 = .ok (.athrow, 1) := by decide +kernel
theorem dX5_throwIfNoSlot_19 : decode cX5_throwIfNoSlot 19 = .ok (.return_, 1) := by decide +kernel
theorem dX5_throwIfFaulty_0 : decode cX5_throwIfFaulty 0 = .ok (.iload_n 0, 1) := by decide +kernel
theorem dX5_throwIfFaulty_1 : decode cX5_throwIfFaulty 1 = .ok (.iconst 1, 1) := by decide +kernel
theorem dX5_throwIfFaulty_2 : decode cX5_throwIfFaulty 2 = .ok (.if_icmp .ne 13, 3) := by decide +kernel
theorem dX5_throwIfFaulty_5 : decode cX5_throwIfFaulty 5 = .ok (.new 163, 3) := by decide +kernel
theorem dX5_throwIfFaulty_8 : decode cX5_throwIfFaulty 8 = .ok (.dup, 1) := by decide +kernel
theorem dX5_throwIfFaulty_9 : decode cX5_throwIfFaulty 9 = .ok (.ldc 253, 2) := by decide +kernel
theorem dX5_throwIfFaulty_11 : decode cX5_throwIfFaulty 11 = .ok (.invokespecial 167, 3) := by decide +kernel
theorem dX5_throwIfFaulty_14 : decode cX5_throwIfFaulty 14 = .ok (.athrow, 1) := by decide +kernel
theorem dX5_throwIfFaulty_15 : decode cX5_throwIfFaulty 15 = .ok (.iload_n 0, 1) := by decide +kernel
theorem dX5_throwIfFaulty_16 : decode cX5_throwIfFaulty 16 = .ok (.iconst 2, 1) := by decide +kernel
theorem dX5_throwIfFaulty_17 : decode cX5_throwIfFaulty 17 = .ok (.if_icmp .ne 13, 3) := by decide +kernel
theorem dX5_throwIfFaulty_20 : decode cX5_throwIfFaulty 20 = .ok (.new 34, 3) := by decide +kernel
theorem dX5_throwIfFaulty_23 : decode cX5_throwIfFaulty 23 = .ok (.dup, 1) := by decide +kernel
theorem dX5_throwIfFaulty_24 : decode cX5_throwIfFaulty 24 = .ok (.ldc 255, 2) := by decide +kernel
theorem dX5_throwIfFaulty_26 : decode cX5_throwIfFaulty 26 = .ok (.invokespecial 38, 3) := by decide +kernel
theorem dX5_throwIfFaulty_29 : decode cX5_throwIfFaulty 29 = .ok (.athrow, 1) := by decide +kernel
theorem dX5_throwIfFaulty_30 : decode cX5_throwIfFaulty 30 = .ok (.iload_n 0, 1) := by decide +kernel
theorem dX5_throwIfFaulty_31 : decode cX5_throwIfFaulty 31 = .ok (.iconst 3, 1) := by decide +kernel
theorem dX5_throwIfFaulty_32 : decode cX5_throwIfFaulty 32 = .ok (.if_icmp .ne 14, 3) := by decide +kernel
theorem dX5_throwIfFaulty_35 : decode cX5_throwIfFaulty 35 = .ok (.new 114, 3) := by decide +kernel
theorem dX5_throwIfFaulty_38 : decode cX5_throwIfFaulty 38 = .ok (.dup, 1) := by decide +kernel
theorem dX5_throwIfFaulty_39 : decode cX5_throwIfFaulty 39 = .ok (.ldc_w 257, 3) := by decide +kernel
theorem dX5_throwIfFaulty_42 : decode cX5_throwIfFaulty 42 = .ok (.invokespecial 118, 3) := by decide +kernel
theorem dX5_throwIfFaulty_45 : decode cX5_throwIfFaulty 45 = .ok (.athrow, 1) := by decide +kernel
theorem dX5_throwIfFaulty_46 : decode cX5_throwIfFaulty 46 = .ok (.return_, 1) := by decide +kernel
theorem dX5_isSerial_0 : decode cX5_isSerial 0 = .ok (.iload_n 0, 1) := by decide +kernel
theorem dX5_isSerial_1 : decode cX5_isSerial 1 = .ok (.ifCond .lt 14, 3) := by decide +kernel
theorem dX5_isSerial_4 : decode cX5_isSerial 4 = .ok (.iload_n 0, 1) := by decide +kernel
theorem dX5_isSerial_5 : decode cX5_isSerial 5 = .ok (.ldc_w 259, 3) := by decide +kernel
theorem dX5_isSerial_8 : decode cX5_isSerial 8 = .ok (.if_icmp .ge 7, 3) := by decide +kernel
theorem dX5_isSerial_11 : decode cX5_isSerial 11 = .ok (.iconst 1, 1) := by decide +kernel
theorem dX5_isSerial_12 : decode cX5_isSerial 12 = .ok (.goto 4, 3) := by decide +kernel
theorem dX5_isSerial_15 : decode cX5_isSerial 15 = .ok (.iconst 0, 1) := by decide +kernel
theorem dX5_isSerial_16 : decode cX5_isSerial 16 = .ok (.ireturn, 1) := by decide +kernel
theorem dX5_positionsOf_0 : decode cX5_positionsOf 0 = .ok (.iload_n 0, 1) := by decide +kernel
theorem dX5_positionsOf_1 : decode cX5_positionsOf 1 = .ok (.iconst 1, 1) := by decide +kernel
theorem dX5_positionsOf_2 : decode cX5_positionsOf 2 = .ok (.if_icmp .ne 7, 3) := by decide +kernel
theorem dX5_positionsOf_5 : decode cX5_positionsOf 5 = .ok (.iconst 5, 1) := by decide +kernel
theorem dX5_positionsOf_6 : decode cX5_positionsOf 6 = .ok (.goto 5, 3) := by decide +kernel
theorem dX5_positionsOf_9 : decode cX5_positionsOf 9 = .ok (.bipush 6, 2) := by decide +kernel
theorem dX5_positionsOf_11 : decode cX5_positionsOf 11 = .ok (.ireturn, 1) := by decide +kernel
theorem dX5_faultOfBook_0 : decode cX5_faultOfBook 0 = .ok (.iload_n 1, 1) := by decide +kernel
theorem dX5_faultOfBook_1 : decode cX5_faultOfBook 1 = .ok (.invokestatic 242, 3) := by decide +kernel
theorem dX5_faultOfBook_4 : decode cX5_faultOfBook 4 = .ok (.ifCond .ne 5, 3) := by decide +kernel
theorem dX5_faultOfBook_7 : decode cX5_faultOfBook 7 = .ok (.iconst 1, 1) := by decide +kernel
theorem dX5_faultOfBook_8 : decode cX5_faultOfBook 8 = .ok (.ireturn, 1) := by decide +kernel
theorem dX5_faultOfBook_9 : decode cX5_faultOfBook 9 = .ok (.iload_n 2, 1) := by decide +kernel
theorem dX5_faultOfBook_10 : decode cX5_faultOfBook 10 = .ok (.iconst 1, 1) := by decide +kernel
theorem dX5_faultOfBook_11 : decode cX5_faultOfBook 11 = .ok (.if_icmp .lt 9, 3) := by decide +kernel
theorem dX5_faultOfBook_14 : decode cX5_faultOfBook 14 = .ok (.iload_n 2, 1) := by decide +kernel
theorem dX5_faultOfBook_15 : decode cX5_faultOfBook 15 = .ok (.bipush 40, 2) := by decide +kernel
theorem dX5_faultOfBook_17 : decode cX5_faultOfBook 17 = .ok (.if_icmp .le 5, 3) := by decide +kernel
theorem dX5_faultOfBook_20 : decode cX5_faultOfBook 20 = .ok (.iconst 2, 1) := by decide +kernel
theorem dX5_faultOfBook_21 : decode cX5_faultOfBook 21 = .ok (.ireturn, 1) := by decide +kernel
theorem dX5_faultOfBook_22 : decode cX5_faultOfBook 22 = .ok (.iload_n 1, 1) := by decide +kernel
theorem dX5_faultOfBook_23 : decode cX5_faultOfBook 23 = .ok (.iload_n 2, 1) := by decide +kernel
theorem dX5_faultOfBook_24 : decode cX5_faultOfBook 24 = .ok (.iadd, 1) := by decide +kernel
theorem dX5_faultOfBook_25 : decode cX5_faultOfBook 25 = .ok (.iconst 1, 1) := by decide +kernel
theorem dX5_faultOfBook_26 : decode cX5_faultOfBook 26 = .ok (.isub, 1) := by decide +kernel
theorem dX5_faultOfBook_27 : decode cX5_faultOfBook 27 = .ok (.invokestatic 242, 3) := by decide +kernel
theorem dX5_faultOfBook_30 : decode cX5_faultOfBook 30 = .ok (.ifCond .ne 5, 3) := by decide +kernel
theorem dX5_faultOfBook_33 : decode cX5_faultOfBook 33 = .ok (.iconst 1, 1) := by decide +kernel
theorem dX5_faultOfBook_34 : decode cX5_faultOfBook 34 = .ok (.ireturn, 1) := by decide +kernel
theorem dX5_faultOfBook_35 : decode cX5_faultOfBook 35 = .ok (.aload_n 0, 1) := by decide +kernel
theorem dX5_faultOfBook_36 : decode cX5_faultOfBook 36 = .ok (.getfield 10, 3) := by decide +kernel
theorem dX5_faultOfBook_39 : decode cX5_faultOfBook 39 = .ok (.getfield 72, 3) := by decide +kernel
theorem dX5_faultOfBook_42 : decode cX5_faultOfBook 42 = .ok (.iload_n 1, 1) := by decide +kernel
theorem dX5_faultOfBook_43 : decode cX5_faultOfBook 43 = .ok (.iload_n 2, 1) := by decide +kernel
theorem dX5_faultOfBook_44 : decode cX5_faultOfBook 44 = .ok (.invokevirtual 260, 3) := by decide +kernel
theorem dX5_faultOfBook_47 : decode cX5_faultOfBook 47 = .ok (.ifCond .eq 7, 3) := by decide +kernel
theorem dX5_faultOfBook_50 : decode cX5_faultOfBook 50 = .ok (.iconst 0, 1) := by decide +kernel
theorem dX5_faultOfBook_51 : decode cX5_faultOfBook 51 = .ok (.goto 4, 3) := by decide +kernel
theorem dX5_faultOfBook_54 : decode cX5_faultOfBook 54 = .ok (.iconst 3, 1) := by decide +kernel
theorem dX5_faultOfBook_55 : decode cX5_faultOfBook 55 = .ok (.ireturn, 1) := by decide +kernel
theorem dX5_faultOfWriting_0 : decode cX5_faultOfWriting 0 = .ok (.aload_n 0, 1) := by decide +kernel
theorem dX5_faultOfWriting_1 : decode cX5_faultOfWriting 1 = .ok (.getfield 10, 3) := by decide +kernel
theorem dX5_faultOfWriting_4 : decode cX5_faultOfWriting 4 = .ok (.getfield 72, 3) := by decide +kernel
theorem dX5_faultOfWriting_7 : decode cX5_faultOfWriting 7 = .ok (.iload_n 1, 1) := by decide +kernel
theorem dX5_faultOfWriting_8 : decode cX5_faultOfWriting 8 = .ok (.invokevirtual 84, 3) := by decide +kernel
theorem dX5_faultOfWriting_11 : decode cX5_faultOfWriting 11 = .ok (.istore_n 3, 1) := by decide +kernel
theorem dX5_faultOfWriting_12 : decode cX5_faultOfWriting 12 = .ok (.iload_n 3, 1) := by decide +kernel
theorem dX5_faultOfWriting_13 : decode cX5_faultOfWriting 13 = .ok (.iconst (-1), 1) := by decide +kernel
theorem dX5_faultOfWriting_14 : decode cX5_faultOfWriting 14 = .ok (.if_icmp .ne 5, 3) := by decide +kernel
theorem dX5_faultOfWriting_17 : decode cX5_faultOfWriting 17 = .ok (.iconst 1, 1) := by decide +kernel
theorem dX5_faultOfWriting_18 : decode cX5_faultOfWriting 18 = .ok (.ireturn, 1) := by decide +kernel
theorem dX5_faultOfWriting_19 : decode cX5_faultOfWriting 19 = .ok (.iload_n 2, 1) := by decide +kernel
theorem dX5_faultOfWriting_20 : decode cX5_faultOfWriting 20 = .ok (.iconst 1, 1) := by decide +kernel
theorem dX5_faultOfWriting_21 : decode cX5_faultOfWriting 21 = .ok (.if_icmp .lt 10, 3) := by decide +kernel
theorem dX5_faultOfWriting_24 : decode cX5_faultOfWriting 24 = .ok (.iload_n 2, 1) := by decide +kernel
theorem dX5_faultOfWriting_25 : decode cX5_faultOfWriting 25 = .ok (.sipush 999, 3) := by decide +kernel
theorem dX5_faultOfWriting_28 : decode cX5_faultOfWriting 28 = .ok (.if_icmp .le 5, 3) := by decide +kernel
theorem dX5_faultOfWriting_31 : decode cX5_faultOfWriting 31 = .ok (.iconst 2, 1) := by decide +kernel
theorem dX5_faultOfWriting_32 : decode cX5_faultOfWriting 32 = .ok (.ireturn, 1) := by decide +kernel
theorem dX5_faultOfWriting_33 : decode cX5_faultOfWriting 33 = .ok (.aload_n 0, 1) := by decide +kernel
theorem dX5_faultOfWriting_34 : decode cX5_faultOfWriting 34 = .ok (.getfield 10, 3) := by decide +kernel
theorem dX5_faultOfWriting_37 : decode cX5_faultOfWriting 37 = .ok (.getfield 72, 3) := by decide +kernel
theorem dX5_faultOfWriting_40 : decode cX5_faultOfWriting 40 = .ok (.iload_n 3, 1) := by decide +kernel
theorem dX5_faultOfWriting_41 : decode cX5_faultOfWriting 41 = .ok (.invokevirtual 168, 3) := by decide +kernel
theorem dX5_faultOfWriting_44 : decode cX5_faultOfWriting 44 = .ok (.ifCond .ne 7, 3) := by decide +kernel
theorem dX5_faultOfWriting_47 : decode cX5_faultOfWriting 47 = .ok (.iconst 0, 1) := by decide +kernel
theorem dX5_faultOfWriting_48 : decode cX5_faultOfWriting 48 = .ok (.goto 4, 3) := by decide +kernel
theorem dX5_faultOfWriting_51 : decode cX5_faultOfWriting 51 = .ok (.iconst 3, 1) := by decide +kernel
theorem dX5_faultOfWriting_52 : decode cX5_faultOfWriting 52 = .ok (.ireturn, 1) := by decide +kernel
theorem dX5_faultOfRun_0 : decode cX5_faultOfRun 0 = .ok (.iload_n 0, 1) := by decide +kernel
theorem dX5_faultOfRun_1 : decode cX5_faultOfRun 1 = .ok (.invokestatic 242, 3) := by decide +kernel
theorem dX5_faultOfRun_4 : decode cX5_faultOfRun 4 = .ok (.ifCond .eq 10, 3) := by decide +kernel
theorem dX5_faultOfRun_7 : decode cX5_faultOfRun 7 = .ok (.iload_n 1, 1) := by decide +kernel
theorem dX5_faultOfRun_8 : decode cX5_faultOfRun 8 = .ok (.invokestatic 242, 3) := by decide +kernel
theorem dX5_faultOfRun_11 : decode cX5_faultOfRun 11 = .ok (.ifCond .ne 5, 3) := by decide +kernel
theorem dX5_faultOfRun_14 : decode cX5_faultOfRun 14 = .ok (.iconst 1, 1) := by decide +kernel
theorem dX5_faultOfRun_15 : decode cX5_faultOfRun 15 = .ok (.ireturn, 1) := by decide +kernel
theorem dX5_faultOfRun_16 : decode cX5_faultOfRun 16 = .ok (.iload_n 1, 1) := by decide +kernel
theorem dX5_faultOfRun_17 : decode cX5_faultOfRun 17 = .ok (.iload_n 0, 1) := by decide +kernel
theorem dX5_faultOfRun_18 : decode cX5_faultOfRun 18 = .ok (.if_icmp .ge 7, 3) := by decide +kernel
theorem dX5_faultOfRun_21 : decode cX5_faultOfRun 21 = .ok (.iconst 2, 1) := by decide +kernel
theorem dX5_faultOfRun_22 : decode cX5_faultOfRun 22 = .ok (.goto 4, 3) := by decide +kernel
theorem dX5_faultOfRun_25 : decode cX5_faultOfRun 25 = .ok (.iconst 0, 1) := by decide +kernel
theorem dX5_faultOfRun_26 : decode cX5_faultOfRun 26 = .ok (.ireturn, 1) := by decide +kernel
theorem dX5_runOrders_0 : decode cX5_runOrders 0 = .ok (.iconst 0, 1) := by decide +kernel
theorem dX5_runOrders_1 : decode cX5_runOrders 1 = .ok (.istore_n 1, 1) := by decide +kernel
theorem dX5_runOrders_2 : decode cX5_runOrders 2 = .ok (.iconst 0, 1) := by decide +kernel
theorem dX5_runOrders_3 : decode cX5_runOrders 3 = .ok (.istore_n 2, 1) := by decide +kernel
theorem dX5_runOrders_4 : decode cX5_runOrders 4 = .ok (.aload_n 0, 1) := by decide +kernel
theorem dX5_runOrders_5 : decode cX5_runOrders 5 = .ok (.getfield 26, 3) := by decide +kernel
theorem dX5_runOrders_8 : decode cX5_runOrders 8 = .ok (.getfield 191, 3) := by decide +kernel
theorem dX5_runOrders_11 : decode cX5_runOrders 11 = .ok (.istore_n 3, 1) := by decide +kernel
theorem dX5_runOrders_12 : decode cX5_runOrders 12 = .ok (.iconst 0, 1) := by decide +kernel
theorem dX5_runOrders_13 : decode cX5_runOrders 13 = .ok (.istore 4, 2) := by decide +kernel
theorem dX5_runOrders_15 : decode cX5_runOrders 15 = .ok (.iload 4, 2) := by decide +kernel
theorem dX5_runOrders_17 : decode cX5_runOrders 17 = .ok (.iload_n 3, 1) := by decide +kernel
theorem dX5_runOrders_18 : decode cX5_runOrders 18 = .ok (.if_icmp .gt 49, 3) := by decide +kernel
theorem dX5_runOrders_21 : decode cX5_runOrders 21 = .ok (.iload 4, 2) := by decide +kernel
theorem dX5_runOrders_23 : decode cX5_runOrders 23 = .ok (.iload_n 3, 1) := by decide +kernel
theorem dX5_runOrders_24 : decode cX5_runOrders 24 = .ok (.if_icmp .eq 17, 3) := by decide +kernel
theorem dX5_runOrders_27 : decode cX5_runOrders 27 = .ok (.aload_n 0, 1) := by decide +kernel
theorem dX5_runOrders_28 : decode cX5_runOrders 28 = .ok (.getfield 26, 3) := by decide +kernel
theorem dX5_runOrders_31 : decode cX5_runOrders 31 = .ok (.iload 4, 2) := by decide +kernel
theorem dX5_runOrders_33 : decode cX5_runOrders 33 = .ok (.invokevirtual 264, 3) := by decide +kernel
theorem dX5_runOrders_36 : decode cX5_runOrders 36 = .ok (.bipush 59, 2) := by decide +kernel
theorem dX5_runOrders_38 : decode cX5_runOrders 38 = .ok (.if_icmp .ne 23, 3) := by decide +kernel
theorem dX5_runOrders_41 : decode cX5_runOrders 41 = .ok (.aload_n 0, 1) := by decide +kernel
theorem dX5_runOrders_42 : decode cX5_runOrders 42 = .ok (.iload_n 2, 1) := by decide +kernel
theorem dX5_runOrders_43 : decode cX5_runOrders 43 = .ok (.iload 4, 2) := by decide +kernel
theorem dX5_runOrders_45 : decode cX5_runOrders 45 = .ok (.invokevirtual 267, 3) := by decide +kernel
theorem dX5_runOrders_48 : decode cX5_runOrders 48 = .ok (.ifCond .ne 5, 3) := by decide +kernel
theorem dX5_runOrders_51 : decode cX5_runOrders 51 = .ok (.iload_n 1, 1) := by decide +kernel
theorem dX5_runOrders_52 : decode cX5_runOrders 52 = .ok (.ireturn, 1) := by decide +kernel
theorem dX5_runOrders_53 : decode cX5_runOrders 53 = .ok (.iinc 1 1, 3) := by decide +kernel
theorem dX5_runOrders_56 : decode cX5_runOrders 56 = .ok (.iload 4, 2) := by decide +kernel
theorem dX5_runOrders_58 : decode cX5_runOrders 58 = .ok (.iconst 1, 1) := by decide +kernel
theorem dX5_runOrders_59 : decode cX5_runOrders 59 = .ok (.iadd, 1) := by decide +kernel
theorem dX5_runOrders_60 : decode cX5_runOrders 60 = .ok (.istore_n 2, 1) := by decide +kernel
theorem dX5_runOrders_61 : decode cX5_runOrders 61 = .ok (.iinc 4 1, 3) := by decide +kernel
theorem dX5_runOrders_64 : decode cX5_runOrders 64 = .ok (.goto (-49), 3) := by decide +kernel
theorem dX5_runOrders_67 : decode cX5_runOrders 67 = .ok (.iload_n 1, 1) := by decide +kernel
theorem dX5_runOrders_68 : decode cX5_runOrders 68 = .ok (.ireturn, 1) := by decide +kernel
theorem dX5_runOrder_0 : decode cX5_runOrder 0 = .ok (.aload_n 0, 1) := by decide +kernel
theorem dX5_runOrder_1 : decode cX5_runOrder 1 = .ok (.getfield 26, 3) := by decide +kernel
theorem dX5_runOrder_4 : decode cX5_runOrder 4 = .ok (.iload_n 1, 1) := by decide +kernel
theorem dX5_runOrder_5 : decode cX5_runOrder 5 = .ok (.iconst 1, 1) := by decide +kernel
theorem dX5_runOrder_6 : decode cX5_runOrder 6 = .ok (.iadd, 1) := by decide +kernel
theorem dX5_runOrder_7 : decode cX5_runOrder 7 = .ok (.iload_n 1, 1) := by decide +kernel
theorem dX5_runOrder_8 : decode cX5_runOrder 8 = .ok (.iconst 1, 1) := by decide +kernel
theorem dX5_runOrder_9 : decode cX5_runOrder 9 = .ok (.iadd, 1) := by decide +kernel
theorem dX5_runOrder_10 : decode cX5_runOrder 10 = .ok (.bipush 6, 2) := by decide +kernel
theorem dX5_runOrder_12 : decode cX5_runOrder 12 = .ok (.iadd, 1) := by decide +kernel
theorem dX5_runOrder_13 : decode cX5_runOrder 13 = .ok (.invokevirtual 270, 3) := by decide +kernel
theorem dX5_runOrder_16 : decode cX5_runOrder 16 = .ok (.istore_n 3, 1) := by decide +kernel
theorem dX5_runOrder_17 : decode cX5_runOrder 17 = .ok (.aload_n 0, 1) := by decide +kernel
theorem dX5_runOrder_18 : decode cX5_runOrder 18 = .ok (.getfield 26, 3) := by decide +kernel
theorem dX5_runOrder_21 : decode cX5_runOrder 21 = .ok (.iload_n 1, 1) := by decide +kernel
theorem dX5_runOrder_22 : decode cX5_runOrder 22 = .ok (.bipush 8, 2) := by decide +kernel
theorem dX5_runOrder_24 : decode cX5_runOrder 24 = .ok (.iadd, 1) := by decide +kernel
theorem dX5_runOrder_25 : decode cX5_runOrder 25 = .ok (.iload_n 2, 1) := by decide +kernel
theorem dX5_runOrder_26 : decode cX5_runOrder 26 = .ok (.invokevirtual 270, 3) := by decide +kernel
theorem dX5_runOrder_29 : decode cX5_runOrder 29 = .ok (.istore 4, 2) := by decide +kernel
theorem dX5_runOrder_31 : decode cX5_runOrder 31 = .ok (.aload_n 0, 1) := by decide +kernel
theorem dX5_runOrder_32 : decode cX5_runOrder 32 = .ok (.getfield 26, 3) := by decide +kernel
theorem dX5_runOrder_35 : decode cX5_runOrder 35 = .ok (.iload_n 1, 1) := by decide +kernel
theorem dX5_runOrder_36 : decode cX5_runOrder 36 = .ok (.invokevirtual 264, 3) := by decide +kernel
theorem dX5_runOrder_39 : decode cX5_runOrder 39 = .ok (.lookupswitch 95 #[(98, 41), (99, 57), (118, 87), (119, 49)], 41) := by decide +kernel
theorem dX5_runOrder_80 : decode cX5_runOrder 80 = .ok (.aload_n 0, 1) := by decide +kernel
theorem dX5_runOrder_81 : decode cX5_runOrder 81 = .ok (.iload_n 3, 1) := by decide +kernel
theorem dX5_runOrder_82 : decode cX5_runOrder 82 = .ok (.iload 4, 2) := by decide +kernel
theorem dX5_runOrder_84 : decode cX5_runOrder 84 = .ok (.invokevirtual 273, 3) := by decide +kernel
theorem dX5_runOrder_87 : decode cX5_runOrder 87 = .ok (.ireturn, 1) := by decide +kernel
theorem dX5_runOrder_88 : decode cX5_runOrder 88 = .ok (.aload_n 0, 1) := by decide +kernel
theorem dX5_runOrder_89 : decode cX5_runOrder 89 = .ok (.iload_n 3, 1) := by decide +kernel
theorem dX5_runOrder_90 : decode cX5_runOrder 90 = .ok (.iload 4, 2) := by decide +kernel
theorem dX5_runOrder_92 : decode cX5_runOrder 92 = .ok (.invokevirtual 276, 3) := by decide +kernel
theorem dX5_runOrder_95 : decode cX5_runOrder 95 = .ok (.ireturn, 1) := by decide +kernel
theorem dX5_runOrder_96 : decode cX5_runOrder 96 = .ok (.aload_n 0, 1) := by decide +kernel
theorem dX5_runOrder_97 : decode cX5_runOrder 97 = .ok (.getfield 10, 3) := by decide +kernel
theorem dX5_runOrder_100 : decode cX5_runOrder 100 = .ok (.iload_n 3, 1) := by decide +kernel
theorem dX5_runOrder_101 : decode cX5_runOrder 101 = .ok (.aload_n 0, 1) := by decide +kernel
theorem dX5_runOrder_102 : decode cX5_runOrder 102 = .ok (.getfield 26, 3) := by decide +kernel
theorem dX5_runOrder_105 : decode cX5_runOrder 105 = .ok (.iload_n 2, 1) := by decide +kernel
theorem dX5_runOrder_106 : decode cX5_runOrder 106 = .ok (.iconst 1, 1) := by decide +kernel
theorem dX5_runOrder_107 : decode cX5_runOrder 107 = .ok (.isub, 1) := by decide +kernel
theorem dX5_runOrder_108 : decode cX5_runOrder 108 = .ok (.invokevirtual 264, 3) := by decide +kernel
theorem dX5_runOrder_111 : decode cX5_runOrder 111 = .ok (.bipush 65, 2) := by decide +kernel
theorem dX5_runOrder_113 : decode cX5_runOrder 113 = .ok (.isub, 1) := by decide +kernel
theorem dX5_runOrder_114 : decode cX5_runOrder 114 = .ok (.invokevirtual 99, 3) := by decide +kernel
theorem dX5_runOrder_117 : decode cX5_runOrder 117 = .ok (.ifCond .le 7, 3) := by decide +kernel
theorem dX5_runOrder_120 : decode cX5_runOrder 120 = .ok (.iconst 1, 1) := by decide +kernel
theorem dX5_runOrder_121 : decode cX5_runOrder 121 = .ok (.goto 4, 3) := by decide +kernel
theorem dX5_runOrder_124 : decode cX5_runOrder 124 = .ok (.iconst 0, 1) := by decide +kernel
theorem dX5_runOrder_125 : decode cX5_runOrder 125 = .ok (.ireturn, 1) := by decide +kernel
theorem dX5_runOrder_126 : decode cX5_runOrder 126 = .ok (.aload_n 0, 1) := by decide +kernel
theorem dX5_runOrder_127 : decode cX5_runOrder 127 = .ok (.iload_n 3, 1) := by decide +kernel
theorem dX5_runOrder_128 : decode cX5_runOrder 128 = .ok (.iload 4, 2) := by decide +kernel
theorem dX5_runOrder_130 : decode cX5_runOrder 130 = .ok (.invokevirtual 279, 3) := by decide +kernel
theorem dX5_runOrder_133 : decode cX5_runOrder 133 = .ok (.ireturn, 1) := by decide +kernel
theorem dX5_runOrder_134 : decode cX5_runOrder 134 = .ok (.iconst 0, 1) := by decide +kernel
theorem dX5_runOrder_135 : decode cX5_runOrder 135 = .ok (.ireturn, 1) := by decide +kernel
theorem dX5_runBook_0 : decode cX5_runBook 0 = .ok (.aload_n 0, 1) := by decide +kernel
theorem dX5_runBook_1 : decode cX5_runBook 1 = .ok (.iload_n 1, 1) := by decide +kernel
theorem dX5_runBook_2 : decode cX5_runBook 2 = .ok (.iload_n 2, 1) := by decide +kernel
theorem dX5_runBook_3 : decode cX5_runBook 3 = .ok (.invokevirtual 65, 3) := by decide +kernel
theorem dX5_runBook_6 : decode cX5_runBook 6 = .ok (.ifCond .eq 5, 3) := by decide +kernel
theorem dX5_runBook_9 : decode cX5_runBook 9 = .ok (.iconst 0, 1) := by decide +kernel
theorem dX5_runBook_10 : decode cX5_runBook 10 = .ok (.ireturn, 1) := by decide +kernel
theorem dX5_runBook_11 : decode cX5_runBook 11 = .ok (.aload_n 0, 1) := by decide +kernel
theorem dX5_runBook_12 : decode cX5_runBook 12 = .ok (.getfield 10, 3) := by decide +kernel
theorem dX5_runBook_15 : decode cX5_runBook 15 = .ok (.getfield 72, 3) := by decide +kernel
theorem dX5_runBook_18 : decode cX5_runBook 18 = .ok (.iload_n 1, 1) := by decide +kernel
theorem dX5_runBook_19 : decode cX5_runBook 19 = .ok (.iload_n 2, 1) := by decide +kernel
theorem dX5_runBook_20 : decode cX5_runBook 20 = .ok (.invokevirtual 76, 3) := by decide +kernel
theorem dX5_runBook_23 : decode cX5_runBook 23 = .ok (.pop, 1) := by decide +kernel
theorem dX5_runBook_24 : decode cX5_runBook 24 = .ok (.iconst 1, 1) := by decide +kernel
theorem dX5_runBook_25 : decode cX5_runBook 25 = .ok (.ireturn, 1) := by decide +kernel
theorem dX5_runWriting_0 : decode cX5_runWriting 0 = .ok (.aload_n 0, 1) := by decide +kernel
theorem dX5_runWriting_1 : decode cX5_runWriting 1 = .ok (.iload_n 1, 1) := by decide +kernel
theorem dX5_runWriting_2 : decode cX5_runWriting 2 = .ok (.iload_n 2, 1) := by decide +kernel
theorem dX5_runWriting_3 : decode cX5_runWriting 3 = .ok (.invokevirtual 81, 3) := by decide +kernel
theorem dX5_runWriting_6 : decode cX5_runWriting 6 = .ok (.ifCond .eq 5, 3) := by decide +kernel
theorem dX5_runWriting_9 : decode cX5_runWriting 9 = .ok (.iconst 0, 1) := by decide +kernel
theorem dX5_runWriting_10 : decode cX5_runWriting 10 = .ok (.ireturn, 1) := by decide +kernel
theorem dX5_runWriting_11 : decode cX5_runWriting 11 = .ok (.aload_n 0, 1) := by decide +kernel
theorem dX5_runWriting_12 : decode cX5_runWriting 12 = .ok (.getfield 10, 3) := by decide +kernel
theorem dX5_runWriting_15 : decode cX5_runWriting 15 = .ok (.getfield 72, 3) := by decide +kernel
theorem dX5_runWriting_18 : decode cX5_runWriting 18 = .ok (.aload_n 0, 1) := by decide +kernel
theorem dX5_runWriting_19 : decode cX5_runWriting 19 = .ok (.getfield 10, 3) := by decide +kernel
theorem dX5_runWriting_22 : decode cX5_runWriting 22 = .ok (.getfield 72, 3) := by decide +kernel
theorem dX5_runWriting_25 : decode cX5_runWriting 25 = .ok (.iload_n 1, 1) := by decide +kernel
theorem dX5_runWriting_26 : decode cX5_runWriting 26 = .ok (.invokevirtual 84, 3) := by decide +kernel
theorem dX5_runWriting_29 : decode cX5_runWriting 29 = .ok (.iload_n 2, 1) := by decide +kernel
theorem dX5_runWriting_30 : decode cX5_runWriting 30 = .ok (.invokevirtual 87, 3) := by decide +kernel
theorem dX5_runWriting_33 : decode cX5_runWriting 33 = .ok (.iconst 1, 1) := by decide +kernel
theorem dX5_runWriting_34 : decode cX5_runWriting 34 = .ok (.ireturn, 1) := by decide +kernel
theorem dX5_runVoiding_0 : decode cX5_runVoiding 0 = .ok (.iload_n 1, 1) := by decide +kernel
theorem dX5_runVoiding_1 : decode cX5_runVoiding 1 = .ok (.iload_n 2, 1) := by decide +kernel
theorem dX5_runVoiding_2 : decode cX5_runVoiding 2 = .ok (.invokestatic 102, 3) := by decide +kernel
theorem dX5_runVoiding_5 : decode cX5_runVoiding 5 = .ok (.ifCond .eq 5, 3) := by decide +kernel
theorem dX5_runVoiding_8 : decode cX5_runVoiding 8 = .ok (.iconst 0, 1) := by decide +kernel
theorem dX5_runVoiding_9 : decode cX5_runVoiding 9 = .ok (.ireturn, 1) := by decide +kernel
theorem dX5_runVoiding_10 : decode cX5_runVoiding 10 = .ok (.aload_n 0, 1) := by decide +kernel
theorem dX5_runVoiding_11 : decode cX5_runVoiding 11 = .ok (.getfield 10, 3) := by decide +kernel
theorem dX5_runVoiding_14 : decode cX5_runVoiding 14 = .ok (.getfield 72, 3) := by decide +kernel
theorem dX5_runVoiding_17 : decode cX5_runVoiding 17 = .ok (.iload_n 1, 1) := by decide +kernel
theorem dX5_runVoiding_18 : decode cX5_runVoiding 18 = .ok (.iload_n 2, 1) := by decide +kernel
theorem dX5_runVoiding_19 : decode cX5_runVoiding 19 = .ok (.invokevirtual 105, 3) := by decide +kernel
theorem dX5_runVoiding_22 : decode cX5_runVoiding 22 = .ok (.pop, 1) := by decide +kernel
theorem dX5_runVoiding_23 : decode cX5_runVoiding 23 = .ok (.iconst 1, 1) := by decide +kernel
theorem dX5_runVoiding_24 : decode cX5_runVoiding 24 = .ok (.ireturn, 1) := by decide +kernel
theorem dX5_copyRow_0 : decode cX5_copyRow 0 = .ok (.iconst 0, 1) := by decide +kernel
theorem dX5_copyRow_1 : decode cX5_copyRow 1 = .ok (.istore_n 2, 1) := by decide +kernel
theorem dX5_copyRow_2 : decode cX5_copyRow 2 = .ok (.iload_n 2, 1) := by decide +kernel
theorem dX5_copyRow_3 : decode cX5_copyRow 3 = .ok (.aload_n 1, 1) := by decide +kernel
theorem dX5_copyRow_4 : decode cX5_copyRow 4 = .ok (.arraylength, 1) := by decide +kernel
theorem dX5_copyRow_5 : decode cX5_copyRow 5 = .ok (.if_icmp .ge 21, 3) := by decide +kernel
theorem dX5_copyRow_8 : decode cX5_copyRow 8 = .ok (.iload_n 2, 1) := by decide +kernel
theorem dX5_copyRow_9 : decode cX5_copyRow 9 = .ok (.aload_n 0, 1) := by decide +kernel
theorem dX5_copyRow_10 : decode cX5_copyRow 10 = .ok (.arraylength, 1) := by decide +kernel
theorem dX5_copyRow_11 : decode cX5_copyRow 11 = .ok (.if_icmp .ge 15, 3) := by decide +kernel
theorem dX5_copyRow_14 : decode cX5_copyRow 14 = .ok (.aload_n 1, 1) := by decide +kernel
theorem dX5_copyRow_15 : decode cX5_copyRow 15 = .ok (.iload_n 2, 1) := by decide +kernel
theorem dX5_copyRow_16 : decode cX5_copyRow 16 = .ok (.aload_n 0, 1) := by decide +kernel
theorem dX5_copyRow_17 : decode cX5_copyRow 17 = .ok (.iload_n 2, 1) := by decide +kernel
theorem dX5_copyRow_18 : decode cX5_copyRow 18 = .ok (.iaload, 1) := by decide +kernel
theorem dX5_copyRow_19 : decode cX5_copyRow 19 = .ok (.iastore, 1) := by decide +kernel
theorem dX5_copyRow_20 : decode cX5_copyRow 20 = .ok (.iinc 2 1, 3) := by decide +kernel
theorem dX5_copyRow_23 : decode cX5_copyRow 23 = .ok (.goto (-21), 3) := by decide +kernel
theorem dX5_copyRow_26 : decode cX5_copyRow 26 = .ok (.return_, 1) := by decide +kernel
theorem dL_part_0 : decode cL_part 0 = .ok (.iload_n 0, 1) := by decide +kernel
theorem dL_part_1 : decode cL_part 1 = .ok (.ldc 7, 2) := by decide +kernel
theorem dL_part_3 : decode cL_part 3 = .ok (.iand, 1) := by decide +kernel
theorem dL_part_4 : decode cL_part 4 = .ok (.iload_n 1, 1) := by decide +kernel
theorem dL_part_5 : decode cL_part 5 = .ok (.irem, 1) := by decide +kernel
theorem dL_part_6 : decode cL_part 6 = .ok (.ireturn, 1) := by decide +kernel
theorem dL_drawn_0 : decode cL_drawn 0 = .ok (.aload_n 0, 1) := by decide +kernel
theorem dL_drawn_1 : decode cL_drawn 1 = .ok (.arraylength, 1) := by decide +kernel
theorem dL_drawn_2 : decode cL_drawn 2 = .ok (.ifCond .ne 13, 3) := by decide +kernel
theorem dL_drawn_5 : decode cL_drawn 5 = .ok (.sipush 7919, 3) := by decide +kernel
theorem dL_drawn_8 : decode cL_drawn 8 = .ok (.iload_n 1, 1) := by decide +kernel
theorem dL_drawn_9 : decode cL_drawn 9 = .ok (.imul, 1) := by decide +kernel
theorem dL_drawn_10 : decode cL_drawn 10 = .ok (.iconst 3, 1) := by decide +kernel
theorem dL_drawn_11 : decode cL_drawn 11 = .ok (.iadd, 1) := by decide +kernel
theorem dL_drawn_12 : decode cL_drawn 12 = .ok (.goto 27, 3) := by decide +kernel
theorem dL_drawn_15 : decode cL_drawn 15 = .ok (.aload_n 0, 1) := by decide +kernel
theorem dL_drawn_16 : decode cL_drawn 16 = .ok (.iload_n 1, 1) := by decide +kernel
theorem dL_drawn_17 : decode cL_drawn 17 = .ok (.aload_n 0, 1) := by decide +kernel
theorem dL_drawn_18 : decode cL_drawn 18 = .ok (.arraylength, 1) := by decide +kernel
theorem dL_drawn_19 : decode cL_drawn 19 = .ok (.irem, 1) := by decide +kernel
theorem dL_drawn_20 : decode cL_drawn 20 = .ok (.iaload, 1) := by decide +kernel
theorem dL_drawn_21 : decode cL_drawn 21 = .ok (.iload_n 1, 1) := by decide +kernel
theorem dL_drawn_22 : decode cL_drawn 22 = .ok (.bipush 7, 2) := by decide +kernel
theorem dL_drawn_24 : decode cL_drawn 24 = .ok (.irem, 1) := by decide +kernel
theorem dL_drawn_25 : decode cL_drawn 25 = .ok (.ishr, 1) := by decide +kernel
theorem dL_drawn_26 : decode cL_drawn 26 = .ok (.iload_n 1, 1) := by decide +kernel
theorem dL_drawn_27 : decode cL_drawn 27 = .ok (.aload_n 0, 1) := by decide +kernel
theorem dL_drawn_28 : decode cL_drawn 28 = .ok (.arraylength, 1) := by decide +kernel
theorem dL_drawn_29 : decode cL_drawn 29 = .ok (.idiv, 1) := by decide +kernel
theorem dL_drawn_30 : decode cL_drawn 30 = .ok (.bipush 31, 2) := by decide +kernel
theorem dL_drawn_32 : decode cL_drawn 32 = .ok (.imul, 1) := by decide +kernel
theorem dL_drawn_33 : decode cL_drawn 33 = .ok (.ixor, 1) := by decide +kernel
theorem dL_drawn_34 : decode cL_drawn 34 = .ok (.iload_n 1, 1) := by decide +kernel
theorem dL_drawn_35 : decode cL_drawn 35 = .ok (.ldc 8, 2) := by decide +kernel
theorem dL_drawn_37 : decode cL_drawn 37 = .ok (.imul, 1) := by decide +kernel
theorem dL_drawn_38 : decode cL_drawn 38 = .ok (.ixor, 1) := by decide +kernel
theorem dL_drawn_39 : decode cL_drawn 39 = .ok (.ireturn, 1) := by decide +kernel
theorem dL_call_0 : decode cL_call 0 = .ok (.iload_n 1, 1) := by decide +kernel
theorem dL_call_1 : decode cL_call 1 = .ok (.ifCond .ne 12, 3) := by decide +kernel
theorem dL_call_4 : decode cL_call 4 = .ok (.aload_n 0, 1) := by decide +kernel
theorem dL_call_5 : decode cL_call 5 = .ok (.iload_n 2, 1) := by decide +kernel
theorem dL_call_6 : decode cL_call 6 = .ok (.iload_n 3, 1) := by decide +kernel
theorem dL_call_7 : decode cL_call 7 = .ok (.invokevirtual 9, 3) := by decide +kernel
theorem dL_call_10 : decode cL_call 10 = .ok (.goto 305, 3) := by decide +kernel
theorem dL_call_13 : decode cL_call 13 = .ok (.iload_n 1, 1) := by decide +kernel
theorem dL_call_14 : decode cL_call 14 = .ok (.iconst 1, 1) := by decide +kernel
theorem dL_call_15 : decode cL_call 15 = .ok (.if_icmp .ne 11, 3) := by decide +kernel
theorem dL_call_18 : decode cL_call 18 = .ok (.aload_n 0, 1) := by decide +kernel
theorem dL_call_19 : decode cL_call 19 = .ok (.iload_n 2, 1) := by decide +kernel
theorem dL_call_20 : decode cL_call 20 = .ok (.invokevirtual 15, 3) := by decide +kernel
theorem dL_call_23 : decode cL_call 23 = .ok (.goto 292, 3) := by decide +kernel
theorem dL_call_26 : decode cL_call 26 = .ok (.iload_n 1, 1) := by decide +kernel
theorem dL_call_27 : decode cL_call 27 = .ok (.iconst 2, 1) := by decide +kernel
theorem dL_call_28 : decode cL_call 28 = .ok (.if_icmp .ne 12, 3) := by decide +kernel
theorem dL_call_31 : decode cL_call 31 = .ok (.aload_n 0, 1) := by decide +kernel
theorem dL_call_32 : decode cL_call 32 = .ok (.iload_n 2, 1) := by decide +kernel
theorem dL_call_33 : decode cL_call 33 = .ok (.iload_n 3, 1) := by decide +kernel
theorem dL_call_34 : decode cL_call 34 = .ok (.invokevirtual 19, 3) := by decide +kernel
theorem dL_call_37 : decode cL_call 37 = .ok (.goto 278, 3) := by decide +kernel
theorem dL_call_40 : decode cL_call 40 = .ok (.iload_n 1, 1) := by decide +kernel
theorem dL_call_41 : decode cL_call 41 = .ok (.iconst 3, 1) := by decide +kernel
theorem dL_call_42 : decode cL_call 42 = .ok (.if_icmp .ne 12, 3) := by decide +kernel
theorem dL_call_45 : decode cL_call 45 = .ok (.aload_n 0, 1) := by decide +kernel
theorem dL_call_46 : decode cL_call 46 = .ok (.iload_n 2, 1) := by decide +kernel
theorem dL_call_47 : decode cL_call 47 = .ok (.iload_n 3, 1) := by decide +kernel
theorem dL_call_48 : decode cL_call 48 = .ok (.invokevirtual 22, 3) := by decide +kernel
theorem dL_call_51 : decode cL_call 51 = .ok (.goto 264, 3) := by decide +kernel
theorem dL_call_54 : decode cL_call 54 = .ok (.iload_n 1, 1) := by decide +kernel
theorem dL_call_55 : decode cL_call 55 = .ok (.iconst 4, 1) := by decide +kernel
theorem dL_call_56 : decode cL_call 56 = .ok (.if_icmp .ne 12, 3) := by decide +kernel
theorem dL_call_59 : decode cL_call 59 = .ok (.aload_n 0, 1) := by decide +kernel
theorem dL_call_60 : decode cL_call 60 = .ok (.iload_n 2, 1) := by decide +kernel
theorem dL_call_61 : decode cL_call 61 = .ok (.iload_n 3, 1) := by decide +kernel
theorem dL_call_62 : decode cL_call 62 = .ok (.invokevirtual 25, 3) := by decide +kernel
theorem dL_call_65 : decode cL_call 65 = .ok (.goto 250, 3) := by decide +kernel
theorem dL_call_68 : decode cL_call 68 = .ok (.iload_n 1, 1) := by decide +kernel
theorem dL_call_69 : decode cL_call 69 = .ok (.iconst 5, 1) := by decide +kernel
theorem dL_call_70 : decode cL_call 70 = .ok (.if_icmp .ne 12, 3) := by decide +kernel
theorem dL_call_73 : decode cL_call 73 = .ok (.aload_n 0, 1) := by decide +kernel
theorem dL_call_74 : decode cL_call 74 = .ok (.iload_n 2, 1) := by decide +kernel
theorem dL_call_75 : decode cL_call 75 = .ok (.iload_n 3, 1) := by decide +kernel
theorem dL_call_76 : decode cL_call 76 = .ok (.invokevirtual 28, 3) := by decide +kernel
theorem dL_call_79 : decode cL_call 79 = .ok (.goto 236, 3) := by decide +kernel
theorem dL_call_82 : decode cL_call 82 = .ok (.iload_n 1, 1) := by decide +kernel
theorem dL_call_83 : decode cL_call 83 = .ok (.bipush 6, 2) := by decide +kernel
theorem dL_call_85 : decode cL_call 85 = .ok (.if_icmp .ne 11, 3) := by decide +kernel
theorem dL_call_88 : decode cL_call 88 = .ok (.aload_n 0, 1) := by decide +kernel
theorem dL_call_89 : decode cL_call 89 = .ok (.iload_n 2, 1) := by decide +kernel
theorem dL_call_90 : decode cL_call 90 = .ok (.invokevirtual 31, 3) := by decide +kernel
theorem dL_call_93 : decode cL_call 93 = .ok (.goto 222, 3) := by decide +kernel
theorem dL_call_96 : decode cL_call 96 = .ok (.iload_n 1, 1) := by decide +kernel
theorem dL_call_97 : decode cL_call 97 = .ok (.bipush 7, 2) := by decide +kernel
theorem dL_call_99 : decode cL_call 99 = .ok (.if_icmp .ne 10, 3) := by decide +kernel
theorem dL_call_102 : decode cL_call 102 = .ok (.aload_n 0, 1) := by decide +kernel
theorem dL_call_103 : decode cL_call 103 = .ok (.invokevirtual 34, 3) := by decide +kernel
theorem dL_call_106 : decode cL_call 106 = .ok (.goto 209, 3) := by decide +kernel
theorem dL_call_109 : decode cL_call 109 = .ok (.iload_n 1, 1) := by decide +kernel
theorem dL_call_110 : decode cL_call 110 = .ok (.bipush 8, 2) := by decide +kernel
theorem dL_call_112 : decode cL_call 112 = .ok (.if_icmp .ne 10, 3) := by decide +kernel
theorem dL_call_115 : decode cL_call 115 = .ok (.aload_n 0, 1) := by decide +kernel
theorem dL_call_116 : decode cL_call 116 = .ok (.invokevirtual 38, 3) := by decide +kernel
theorem dL_call_119 : decode cL_call 119 = .ok (.goto 196, 3) := by decide +kernel
theorem dL_call_122 : decode cL_call 122 = .ok (.iload_n 1, 1) := by decide +kernel
theorem dL_call_123 : decode cL_call 123 = .ok (.bipush 9, 2) := by decide +kernel
theorem dL_call_125 : decode cL_call 125 = .ok (.if_icmp .ne 11, 3) := by decide +kernel
theorem dL_call_128 : decode cL_call 128 = .ok (.aload_n 0, 1) := by decide +kernel
theorem dL_call_129 : decode cL_call 129 = .ok (.iload_n 2, 1) := by decide +kernel
theorem dL_call_130 : decode cL_call 130 = .ok (.invokevirtual 41, 3) := by decide +kernel
theorem dL_call_133 : decode cL_call 133 = .ok (.goto 182, 3) := by decide +kernel
theorem dL_call_136 : decode cL_call 136 = .ok (.iload_n 1, 1) := by decide +kernel
theorem dL_call_137 : decode cL_call 137 = .ok (.bipush 10, 2) := by decide +kernel
theorem dL_call_139 : decode cL_call 139 = .ok (.if_icmp .ne 11, 3) := by decide +kernel
theorem dL_call_142 : decode cL_call 142 = .ok (.aload_n 0, 1) := by decide +kernel
theorem dL_call_143 : decode cL_call 143 = .ok (.iload_n 2, 1) := by decide +kernel
theorem dL_call_144 : decode cL_call 144 = .ok (.invokevirtual 44, 3) := by decide +kernel
theorem dL_call_147 : decode cL_call 147 = .ok (.goto 168, 3) := by decide +kernel
theorem dL_call_150 : decode cL_call 150 = .ok (.iload_n 1, 1) := by decide +kernel
theorem dL_call_151 : decode cL_call 151 = .ok (.bipush 11, 2) := by decide +kernel
theorem dL_call_153 : decode cL_call 153 = .ok (.if_icmp .ne 11, 3) := by decide +kernel
theorem dL_call_156 : decode cL_call 156 = .ok (.aload_n 0, 1) := by decide +kernel
theorem dL_call_157 : decode cL_call 157 = .ok (.iload_n 2, 1) := by decide +kernel
theorem dL_call_158 : decode cL_call 158 = .ok (.invokevirtual 47, 3) := by decide +kernel
theorem dL_call_161 : decode cL_call 161 = .ok (.goto 154, 3) := by decide +kernel
theorem dL_call_164 : decode cL_call 164 = .ok (.iload_n 1, 1) := by decide +kernel
theorem dL_call_165 : decode cL_call 165 = .ok (.bipush 12, 2) := by decide +kernel
theorem dL_call_167 : decode cL_call 167 = .ok (.if_icmp .ne 12, 3) := by decide +kernel
theorem dL_call_170 : decode cL_call 170 = .ok (.aload_n 0, 1) := by decide +kernel
theorem dL_call_171 : decode cL_call 171 = .ok (.iload_n 2, 1) := by decide +kernel
theorem dL_call_172 : decode cL_call 172 = .ok (.iload_n 3, 1) := by decide +kernel
theorem dL_call_173 : decode cL_call 173 = .ok (.invokevirtual 50, 3) := by decide +kernel
theorem dL_call_176 : decode cL_call 176 = .ok (.goto 139, 3) := by decide +kernel
theorem dL_call_179 : decode cL_call 179 = .ok (.iload_n 1, 1) := by decide +kernel
theorem dL_call_180 : decode cL_call 180 = .ok (.bipush 13, 2) := by decide +kernel
theorem dL_call_182 : decode cL_call 182 = .ok (.if_icmp .ne 12, 3) := by decide +kernel
theorem dL_call_185 : decode cL_call 185 = .ok (.aload_n 0, 1) := by decide +kernel
theorem dL_call_186 : decode cL_call 186 = .ok (.iload_n 2, 1) := by decide +kernel
theorem dL_call_187 : decode cL_call 187 = .ok (.iload_n 3, 1) := by decide +kernel
theorem dL_call_188 : decode cL_call 188 = .ok (.invokevirtual 53, 3) := by decide +kernel
theorem dL_call_191 : decode cL_call 191 = .ok (.goto 124, 3) := by decide +kernel
theorem dL_call_194 : decode cL_call 194 = .ok (.iload_n 1, 1) := by decide +kernel
theorem dL_call_195 : decode cL_call 195 = .ok (.bipush 14, 2) := by decide +kernel
theorem dL_call_197 : decode cL_call 197 = .ok (.if_icmp .ne 11, 3) := by decide +kernel
theorem dL_call_200 : decode cL_call 200 = .ok (.aload_n 0, 1) := by decide +kernel
theorem dL_call_201 : decode cL_call 201 = .ok (.iload_n 2, 1) := by decide +kernel
theorem dL_call_202 : decode cL_call 202 = .ok (.invokevirtual 56, 3) := by decide +kernel
theorem dL_call_205 : decode cL_call 205 = .ok (.goto 110, 3) := by decide +kernel
theorem dL_call_208 : decode cL_call 208 = .ok (.iload_n 1, 1) := by decide +kernel
theorem dL_call_209 : decode cL_call 209 = .ok (.bipush 15, 2) := by decide +kernel
theorem dL_call_211 : decode cL_call 211 = .ok (.if_icmp .ne 11, 3) := by decide +kernel
theorem dL_call_214 : decode cL_call 214 = .ok (.aload_n 0, 1) := by decide +kernel
theorem dL_call_215 : decode cL_call 215 = .ok (.iload_n 2, 1) := by decide +kernel
theorem dL_call_216 : decode cL_call 216 = .ok (.invokevirtual 59, 3) := by decide +kernel
theorem dL_call_219 : decode cL_call 219 = .ok (.goto 96, 3) := by decide +kernel
theorem dL_call_222 : decode cL_call 222 = .ok (.iload_n 1, 1) := by decide +kernel
theorem dL_call_223 : decode cL_call 223 = .ok (.bipush 16, 2) := by decide +kernel
theorem dL_call_225 : decode cL_call 225 = .ok (.if_icmp .ne 12, 3) := by decide +kernel
theorem dL_call_228 : decode cL_call 228 = .ok (.aload_n 0, 1) := by decide +kernel
theorem dL_call_229 : decode cL_call 229 = .ok (.iload_n 2, 1) := by decide +kernel
theorem dL_call_230 : decode cL_call 230 = .ok (.iload_n 3, 1) := by decide +kernel
theorem dL_call_231 : decode cL_call 231 = .ok (.invokevirtual 62, 3) := by decide +kernel
theorem dL_call_234 : decode cL_call 234 = .ok (.goto 81, 3) := by decide +kernel
theorem dL_call_237 : decode cL_call 237 = .ok (.iload_n 1, 1) := by decide +kernel
theorem dL_call_238 : decode cL_call 238 = .ok (.bipush 17, 2) := by decide +kernel
theorem dL_call_240 : decode cL_call 240 = .ok (.if_icmp .ne 14, 3) := by decide +kernel
theorem dL_call_243 : decode cL_call 243 = .ok (.aload_n 0, 1) := by decide +kernel
theorem dL_call_244 : decode cL_call 244 = .ok (.iload_n 2, 1) := by decide +kernel
theorem dL_call_245 : decode cL_call 245 = .ok (.iload_n 3, 1) := by decide +kernel
theorem dL_call_246 : decode cL_call 246 = .ok (.iload 4, 2) := by decide +kernel
theorem dL_call_248 : decode cL_call 248 = .ok (.invokevirtual 65, 3) := by decide +kernel
theorem dL_call_251 : decode cL_call 251 = .ok (.goto 64, 3) := by decide +kernel
theorem dL_call_254 : decode cL_call 254 = .ok (.iload_n 1, 1) := by decide +kernel
theorem dL_call_255 : decode cL_call 255 = .ok (.bipush 18, 2) := by decide +kernel
theorem dL_call_257 : decode cL_call 257 = .ok (.if_icmp .ne 11, 3) := by decide +kernel
theorem dL_call_260 : decode cL_call 260 = .ok (.aload_n 0, 1) := by decide +kernel
theorem dL_call_261 : decode cL_call 261 = .ok (.iload_n 2, 1) := by decide +kernel
theorem dL_call_262 : decode cL_call 262 = .ok (.invokevirtual 69, 3) := by decide +kernel
theorem dL_call_265 : decode cL_call 265 = .ok (.goto 50, 3) := by decide +kernel
theorem dL_call_268 : decode cL_call 268 = .ok (.iload_n 1, 1) := by decide +kernel
theorem dL_call_269 : decode cL_call 269 = .ok (.bipush 19, 2) := by decide +kernel
theorem dL_call_271 : decode cL_call 271 = .ok (.if_icmp .ne 14, 3) := by decide +kernel
theorem dL_call_274 : decode cL_call 274 = .ok (.aload_n 0, 1) := by decide +kernel
theorem dL_call_275 : decode cL_call 275 = .ok (.iload_n 2, 1) := by decide +kernel
theorem dL_call_276 : decode cL_call 276 = .ok (.iload_n 3, 1) := by decide +kernel
theorem dL_call_277 : decode cL_call 277 = .ok (.iload 4, 2) := by decide +kernel
theorem dL_call_279 : decode cL_call 279 = .ok (.invokevirtual 72, 3) := by decide +kernel
theorem dL_call_282 : decode cL_call 282 = .ok (.goto 33, 3) := by decide +kernel
theorem dL_call_285 : decode cL_call 285 = .ok (.iload_n 1, 1) := by decide +kernel
theorem dL_call_286 : decode cL_call 286 = .ok (.bipush 20, 2) := by decide +kernel
theorem dL_call_288 : decode cL_call 288 = .ok (.if_icmp .ne 14, 3) := by decide +kernel
theorem dL_call_291 : decode cL_call 291 = .ok (.aload_n 0, 1) := by decide +kernel
theorem dL_call_292 : decode cL_call 292 = .ok (.iload_n 2, 1) := by decide +kernel
theorem dL_call_293 : decode cL_call 293 = .ok (.iload_n 3, 1) := by decide +kernel
theorem dL_call_294 : decode cL_call 294 = .ok (.iload 4, 2) := by decide +kernel
theorem dL_call_296 : decode cL_call 296 = .ok (.invokevirtual 75, 3) := by decide +kernel
theorem dL_call_299 : decode cL_call 299 = .ok (.goto 16, 3) := by decide +kernel
theorem dL_call_302 : decode cL_call 302 = .ok (.aload_n 0, 1) := by decide +kernel
theorem dL_call_303 : decode cL_call 303 = .ok (.iload_n 2, 1) := by decide +kernel
theorem dL_call_304 : decode cL_call 304 = .ok (.invokevirtual 78, 3) := by decide +kernel
theorem dL_call_307 : decode cL_call 307 = .ok (.ifCond .eq 7, 3) := by decide +kernel
theorem dL_call_310 : decode cL_call 310 = .ok (.iconst 1, 1) := by decide +kernel
theorem dL_call_311 : decode cL_call 311 = .ok (.goto 4, 3) := by decide +kernel
theorem dL_call_314 : decode cL_call 314 = .ok (.iconst 0, 1) := by decide +kernel
theorem dL_call_315 : decode cL_call 315 = .ok (.ireturn, 1) := by decide +kernel
theorem dL_call_316 : decode cL_call 316 = .ok (.astore 5, 2) := by decide +kernel
theorem dL_call_318 : decode cL_call 318 = .ok (.bipush (-11), 2) := by decide +kernel
theorem dL_call_320 : decode cL_call 320 = .ok (.ireturn, 1) := by decide +kernel
theorem dL_call_321 : decode cL_call 321 = .ok (.astore 5, 2) := by decide +kernel
theorem dL_call_323 : decode cL_call 323 = .ok (.bipush (-12), 2) := by decide +kernel
theorem dL_call_325 : decode cL_call 325 = .ok (.ireturn, 1) := by decide +kernel
theorem dL_call_326 : decode cL_call 326 = .ok (.astore 5, 2) := by decide +kernel
theorem dL_call_328 : decode cL_call 328 = .ok (.bipush (-13), 2) := by decide +kernel
theorem dL_call_330 : decode cL_call 330 = .ok (.ireturn, 1) := by decide +kernel
theorem dL_seen_0 : decode cL_seen 0 = .ok (.ldc2_w 88, 3) := by decide +kernel
theorem dL_seen_3 : decode cL_seen 3 = .ok (.lstore_n 1, 1) := by decide +kernel
theorem dL_seen_4 : decode cL_seen 4 = .ok (.iconst 0, 1) := by decide +kernel
theorem dL_seen_5 : decode cL_seen 5 = .ok (.istore_n 3, 1) := by decide +kernel
theorem dL_seen_6 : decode cL_seen 6 = .ok (.iload_n 3, 1) := by decide +kernel
theorem dL_seen_7 : decode cL_seen 7 = .ok (.bipush 10, 2) := by decide +kernel
theorem dL_seen_9 : decode cL_seen 9 = .ok (.if_icmp .ge 22, 3) := by decide +kernel
theorem dL_seen_12 : decode cL_seen 12 = .ok (.ldc2_w 90, 3) := by decide +kernel
theorem dL_seen_15 : decode cL_seen 15 = .ok (.lload_n 1, 1) := by decide +kernel
theorem dL_seen_16 : decode cL_seen 16 = .ok (.lmul, 1) := by decide +kernel
theorem dL_seen_17 : decode cL_seen 17 = .ok (.aload_n 0, 1) := by decide +kernel
theorem dL_seen_18 : decode cL_seen 18 = .ok (.iload_n 3, 1) := by decide +kernel
theorem dL_seen_19 : decode cL_seen 19 = .ok (.invokevirtual 56, 3) := by decide +kernel
theorem dL_seen_22 : decode cL_seen 22 = .ok (.i2l, 1) := by decide +kernel
theorem dL_seen_23 : decode cL_seen 23 = .ok (.ladd, 1) := by decide +kernel
theorem dL_seen_24 : decode cL_seen 24 = .ok (.lstore_n 1, 1) := by decide +kernel
theorem dL_seen_25 : decode cL_seen 25 = .ok (.iinc 3 1, 3) := by decide +kernel
theorem dL_seen_28 : decode cL_seen 28 = .ok (.goto (-22), 3) := by decide +kernel
theorem dL_seen_31 : decode cL_seen 31 = .ok (.bipush 12, 2) := by decide +kernel
theorem dL_seen_33 : decode cL_seen 33 = .ok (.istore_n 3, 1) := by decide +kernel
theorem dL_seen_34 : decode cL_seen 34 = .ok (.iload_n 3, 1) := by decide +kernel
theorem dL_seen_35 : decode cL_seen 35 = .ok (.bipush 18, 2) := by decide +kernel
theorem dL_seen_37 : decode cL_seen 37 = .ok (.if_icmp .ge 22, 3) := by decide +kernel
theorem dL_seen_40 : decode cL_seen 40 = .ok (.ldc2_w 90, 3) := by decide +kernel
theorem dL_seen_43 : decode cL_seen 43 = .ok (.lload_n 1, 1) := by decide +kernel
theorem dL_seen_44 : decode cL_seen 44 = .ok (.lmul, 1) := by decide +kernel
theorem dL_seen_45 : decode cL_seen 45 = .ok (.aload_n 0, 1) := by decide +kernel
theorem dL_seen_46 : decode cL_seen 46 = .ok (.iload_n 3, 1) := by decide +kernel
theorem dL_seen_47 : decode cL_seen 47 = .ok (.invokevirtual 56, 3) := by decide +kernel
theorem dL_seen_50 : decode cL_seen 50 = .ok (.i2l, 1) := by decide +kernel
theorem dL_seen_51 : decode cL_seen 51 = .ok (.ladd, 1) := by decide +kernel
theorem dL_seen_52 : decode cL_seen 52 = .ok (.lstore_n 1, 1) := by decide +kernel
theorem dL_seen_53 : decode cL_seen 53 = .ok (.iinc 3 1, 3) := by decide +kernel
theorem dL_seen_56 : decode cL_seen 56 = .ok (.goto (-22), 3) := by decide +kernel
theorem dL_seen_59 : decode cL_seen 59 = .ok (.iconst 0, 1) := by decide +kernel
theorem dL_seen_60 : decode cL_seen 60 = .ok (.istore_n 3, 1) := by decide +kernel
theorem dL_seen_61 : decode cL_seen 61 = .ok (.iload_n 3, 1) := by decide +kernel
theorem dL_seen_62 : decode cL_seen 62 = .ok (.bipush 9, 2) := by decide +kernel
theorem dL_seen_64 : decode cL_seen 64 = .ok (.aload_n 0, 1) := by decide +kernel
theorem dL_seen_65 : decode cL_seen 65 = .ok (.iconst 0, 1) := by decide +kernel
theorem dL_seen_66 : decode cL_seen 66 = .ok (.invokevirtual 56, 3) := by decide +kernel
theorem dL_seen_69 : decode cL_seen 69 = .ok (.imul, 1) := by decide +kernel
theorem dL_seen_70 : decode cL_seen 70 = .ok (.if_icmp .ge 29, 3) := by decide +kernel
theorem dL_seen_73 : decode cL_seen 73 = .ok (.ldc2_w 90, 3) := by decide +kernel
theorem dL_seen_76 : decode cL_seen 76 = .ok (.lload_n 1, 1) := by decide +kernel
theorem dL_seen_77 : decode cL_seen 77 = .ok (.lmul, 1) := by decide +kernel
theorem dL_seen_78 : decode cL_seen 78 = .ok (.aload_n 0, 1) := by decide +kernel
theorem dL_seen_79 : decode cL_seen 79 = .ok (.iload_n 3, 1) := by decide +kernel
theorem dL_seen_80 : decode cL_seen 80 = .ok (.bipush 9, 2) := by decide +kernel
theorem dL_seen_82 : decode cL_seen 82 = .ok (.idiv, 1) := by decide +kernel
theorem dL_seen_83 : decode cL_seen 83 = .ok (.iload_n 3, 1) := by decide +kernel
theorem dL_seen_84 : decode cL_seen 84 = .ok (.bipush 9, 2) := by decide +kernel
theorem dL_seen_86 : decode cL_seen 86 = .ok (.irem, 1) := by decide +kernel
theorem dL_seen_87 : decode cL_seen 87 = .ok (.invokevirtual 53, 3) := by decide +kernel
theorem dL_seen_90 : decode cL_seen 90 = .ok (.i2l, 1) := by decide +kernel
theorem dL_seen_91 : decode cL_seen 91 = .ok (.ladd, 1) := by decide +kernel
theorem dL_seen_92 : decode cL_seen 92 = .ok (.lstore_n 1, 1) := by decide +kernel
theorem dL_seen_93 : decode cL_seen 93 = .ok (.iinc 3 1, 3) := by decide +kernel
theorem dL_seen_96 : decode cL_seen 96 = .ok (.goto (-35), 3) := by decide +kernel
theorem dL_seen_99 : decode cL_seen 99 = .ok (.iconst 0, 1) := by decide +kernel
theorem dL_seen_100 : decode cL_seen 100 = .ok (.istore_n 3, 1) := by decide +kernel
theorem dL_seen_101 : decode cL_seen 101 = .ok (.iload_n 3, 1) := by decide +kernel
theorem dL_seen_102 : decode cL_seen 102 = .ok (.aload_n 0, 1) := by decide +kernel
theorem dL_seen_103 : decode cL_seen 103 = .ok (.iconst 1, 1) := by decide +kernel
theorem dL_seen_104 : decode cL_seen 104 = .ok (.invokevirtual 56, 3) := by decide +kernel
theorem dL_seen_107 : decode cL_seen 107 = .ok (.if_icmp .ge 60, 3) := by decide +kernel
theorem dL_seen_110 : decode cL_seen 110 = .ok (.iload_n 3, 1) := by decide +kernel
theorem dL_seen_111 : decode cL_seen 111 = .ok (.bipush 20, 2) := by decide +kernel
theorem dL_seen_113 : decode cL_seen 113 = .ok (.if_icmp .ge 54, 3) := by decide +kernel
theorem dL_seen_116 : decode cL_seen 116 = .ok (.ldc2_w 90, 3) := by decide +kernel
theorem dL_seen_119 : decode cL_seen 119 = .ok (.lload_n 1, 1) := by decide +kernel
theorem dL_seen_120 : decode cL_seen 120 = .ok (.lmul, 1) := by decide +kernel
theorem dL_seen_121 : decode cL_seen 121 = .ok (.ldc2_w 92, 3) := by decide +kernel
theorem dL_seen_124 : decode cL_seen 124 = .ok (.aload_n 0, 1) := by decide +kernel
theorem dL_seen_125 : decode cL_seen 125 = .ok (.iload_n 3, 1) := by decide +kernel
theorem dL_seen_126 : decode cL_seen 126 = .ok (.invokevirtual 59, 3) := by decide +kernel
theorem dL_seen_129 : decode cL_seen 129 = .ok (.i2l, 1) := by decide +kernel
theorem dL_seen_130 : decode cL_seen 130 = .ok (.lmul, 1) := by decide +kernel
theorem dL_seen_131 : decode cL_seen 131 = .ok (.ladd, 1) := by decide +kernel
theorem dL_seen_132 : decode cL_seen 132 = .ok (.aload_n 0, 1) := by decide +kernel
theorem dL_seen_133 : decode cL_seen 133 = .ok (.aload_n 0, 1) := by decide +kernel
theorem dL_seen_134 : decode cL_seen 134 = .ok (.iload_n 3, 1) := by decide +kernel
theorem dL_seen_135 : decode cL_seen 135 = .ok (.invokevirtual 59, 3) := by decide +kernel
theorem dL_seen_138 : decode cL_seen 138 = .ok (.iconst 0, 1) := by decide +kernel
theorem dL_seen_139 : decode cL_seen 139 = .ok (.invokevirtual 50, 3) := by decide +kernel
theorem dL_seen_142 : decode cL_seen 142 = .ok (.i2l, 1) := by decide +kernel
theorem dL_seen_143 : decode cL_seen 143 = .ok (.ladd, 1) := by decide +kernel
theorem dL_seen_144 : decode cL_seen 144 = .ok (.ldc2_w 94, 3) := by decide +kernel
theorem dL_seen_147 : decode cL_seen 147 = .ok (.aload_n 0, 1) := by decide +kernel
theorem dL_seen_148 : decode cL_seen 148 = .ok (.aload_n 0, 1) := by decide +kernel
theorem dL_seen_149 : decode cL_seen 149 = .ok (.iload_n 3, 1) := by decide +kernel
theorem dL_seen_150 : decode cL_seen 150 = .ok (.invokevirtual 59, 3) := by decide +kernel
theorem dL_seen_153 : decode cL_seen 153 = .ok (.iconst 1, 1) := by decide +kernel
theorem dL_seen_154 : decode cL_seen 154 = .ok (.invokevirtual 50, 3) := by decide +kernel
theorem dL_seen_157 : decode cL_seen 157 = .ok (.i2l, 1) := by decide +kernel
theorem dL_seen_158 : decode cL_seen 158 = .ok (.lmul, 1) := by decide +kernel
theorem dL_seen_159 : decode cL_seen 159 = .ok (.ladd, 1) := by decide +kernel
theorem dL_seen_160 : decode cL_seen 160 = .ok (.lstore_n 1, 1) := by decide +kernel
theorem dL_seen_161 : decode cL_seen 161 = .ok (.iinc 3 1, 3) := by decide +kernel
theorem dL_seen_164 : decode cL_seen 164 = .ok (.goto (-63), 3) := by decide +kernel
theorem dL_seen_167 : decode cL_seen 167 = .ok (.lload_n 1, 1) := by decide +kernel
theorem dL_seen_168 : decode cL_seen 168 = .ok (.lreturn, 1) := by decide +kernel
theorem dL_far_0 : decode cL_far 0 = .ok (.iload_n 0, 1) := by decide +kernel
theorem dL_far_1 : decode cL_far 1 = .ok (.ifCond .ne 9, 3) := by decide +kernel
theorem dL_far_4 : decode cL_far 4 = .ok (.iload_n 1, 1) := by decide +kernel
theorem dL_far_5 : decode cL_far 5 = .ok (.iconst 1, 1) := by decide +kernel
theorem dL_far_6 : decode cL_far 6 = .ok (.isub, 1) := by decide +kernel
theorem dL_far_7 : decode cL_far 7 = .ok (.goto 26, 3) := by decide +kernel
theorem dL_far_10 : decode cL_far 10 = .ok (.iload_n 0, 1) := by decide +kernel
theorem dL_far_11 : decode cL_far 11 = .ok (.iconst 1, 1) := by decide +kernel
theorem dL_far_12 : decode cL_far 12 = .ok (.if_icmp .ne 9, 3) := by decide +kernel
theorem dL_far_15 : decode cL_far 15 = .ok (.iload_n 2, 1) := by decide +kernel
theorem dL_far_16 : decode cL_far 16 = .ok (.iconst 1, 1) := by decide +kernel
theorem dL_far_17 : decode cL_far 17 = .ok (.iadd, 1) := by decide +kernel
theorem dL_far_18 : decode cL_far 18 = .ok (.goto 15, 3) := by decide +kernel
theorem dL_far_21 : decode cL_far 21 = .ok (.iload_n 0, 1) := by decide +kernel
theorem dL_far_22 : decode cL_far 22 = .ok (.iconst 2, 1) := by decide +kernel
theorem dL_far_23 : decode cL_far 23 = .ok (.if_icmp .ne 8, 3) := by decide +kernel
theorem dL_far_26 : decode cL_far 26 = .ok (.ldc 96, 2) := by decide +kernel
theorem dL_far_28 : decode cL_far 28 = .ok (.goto 5, 3) := by decide +kernel
theorem dL_far_31 : decode cL_far 31 = .ok (.ldc 7, 2) := by decide +kernel
theorem dL_far_33 : decode cL_far 33 = .ok (.ireturn, 1) := by decide +kernel
theorem dL_refusesOne_0 : decode cL_refusesOne 0 = .ok (.iload_n 1, 1) := by decide +kernel
theorem dL_refusesOne_1 : decode cL_refusesOne 1 = .ok (.iconst 0, 1) := by decide +kernel
theorem dL_refusesOne_2 : decode cL_refusesOne 2 = .ok (.ldc 97, 2) := by decide +kernel
theorem dL_refusesOne_4 : decode cL_refusesOne 4 = .ok (.invokestatic 98, 3) := by decide +kernel
theorem dL_refusesOne_7 : decode cL_refusesOne 7 = .ok (.istore_n 2, 1) := by decide +kernel
theorem dL_refusesOne_8 : decode cL_refusesOne 8 = .ok (.iload_n 1, 1) := by decide +kernel
theorem dL_refusesOne_9 : decode cL_refusesOne 9 = .ok (.iconst 0, 1) := by decide +kernel
theorem dL_refusesOne_10 : decode cL_refusesOne 10 = .ok (.bipush 25, 2) := by decide +kernel
theorem dL_refusesOne_12 : decode cL_refusesOne 12 = .ok (.invokestatic 98, 3) := by decide +kernel
theorem dL_refusesOne_15 : decode cL_refusesOne 15 = .ok (.istore_n 3, 1) := by decide +kernel
theorem dL_refusesOne_16 : decode cL_refusesOne 16 = .ok (.aload_n 0, 1) := by decide +kernel
theorem dL_refusesOne_17 : decode cL_refusesOne 17 = .ok (.iconst 0, 1) := by decide +kernel
theorem dL_refusesOne_18 : decode cL_refusesOne 18 = .ok (.iload_n 1, 1) := by decide +kernel
theorem dL_refusesOne_19 : decode cL_refusesOne 19 = .ok (.iconst 0, 1) := by decide +kernel
theorem dL_refusesOne_20 : decode cL_refusesOne 20 = .ok (.iconst 5, 1) := by decide +kernel
theorem dL_refusesOne_21 : decode cL_refusesOne 21 = .ok (.invokestatic 98, 3) := by decide +kernel
theorem dL_refusesOne_24 : decode cL_refusesOne 24 = .ok (.iconst 0, 1) := by decide +kernel
theorem dL_refusesOne_25 : decode cL_refusesOne 25 = .ok (.iconst 0, 1) := by decide +kernel
theorem dL_refusesOne_26 : decode cL_refusesOne 26 = .ok (.invokestatic 103, 3) := by decide +kernel
theorem dL_refusesOne_29 : decode cL_refusesOne 29 = .ok (.bipush (-11), 2) := by decide +kernel
theorem dL_refusesOne_31 : decode cL_refusesOne 31 = .ok (.if_icmp .ne 351, 3) := by decide +kernel
theorem dL_refusesOne_34 : decode cL_refusesOne 34 = .ok (.aload_n 0, 1) := by decide +kernel
theorem dL_refusesOne_35 : decode cL_refusesOne 35 = .ok (.iconst 0, 1) := by decide +kernel
theorem dL_refusesOne_36 : decode cL_refusesOne 36 = .ok (.iconst 5, 1) := by decide +kernel
theorem dL_refusesOne_37 : decode cL_refusesOne 37 = .ok (.iload_n 1, 1) := by decide +kernel
theorem dL_refusesOne_38 : decode cL_refusesOne 38 = .ok (.iconst 1, 1) := by decide +kernel
theorem dL_refusesOne_39 : decode cL_refusesOne 39 = .ok (.bipush 9, 2) := by decide +kernel
theorem dL_refusesOne_41 : decode cL_refusesOne 41 = .ok (.invokestatic 98, 3) := by decide +kernel
theorem dL_refusesOne_44 : decode cL_refusesOne 44 = .ok (.iconst 0, 1) := by decide +kernel
theorem dL_refusesOne_45 : decode cL_refusesOne 45 = .ok (.invokestatic 103, 3) := by decide +kernel
theorem dL_refusesOne_48 : decode cL_refusesOne 48 = .ok (.bipush (-12), 2) := by decide +kernel
theorem dL_refusesOne_50 : decode cL_refusesOne 50 = .ok (.if_icmp .ne 332, 3) := by decide +kernel
theorem dL_refusesOne_53 : decode cL_refusesOne 53 = .ok (.aload_n 0, 1) := by decide +kernel
theorem dL_refusesOne_54 : decode cL_refusesOne 54 = .ok (.iconst 1, 1) := by decide +kernel
theorem dL_refusesOne_55 : decode cL_refusesOne 55 = .ok (.iload_n 1, 1) := by decide +kernel
theorem dL_refusesOne_56 : decode cL_refusesOne 56 = .ok (.bipush 7, 2) := by decide +kernel
theorem dL_refusesOne_58 : decode cL_refusesOne 58 = .ok (.bipush 26, 2) := by decide +kernel
theorem dL_refusesOne_60 : decode cL_refusesOne 60 = .ok (.invokestatic 98, 3) := by decide +kernel
theorem dL_refusesOne_63 : decode cL_refusesOne 63 = .ok (.iconst 0, 1) := by decide +kernel
theorem dL_refusesOne_64 : decode cL_refusesOne 64 = .ok (.iconst 0, 1) := by decide +kernel
theorem dL_refusesOne_65 : decode cL_refusesOne 65 = .ok (.invokestatic 103, 3) := by decide +kernel
theorem dL_refusesOne_68 : decode cL_refusesOne 68 = .ok (.bipush (-12), 2) := by decide +kernel
theorem dL_refusesOne_70 : decode cL_refusesOne 70 = .ok (.if_icmp .ne 312, 3) := by decide +kernel
theorem dL_refusesOne_73 : decode cL_refusesOne 73 = .ok (.aload_n 0, 1) := by decide +kernel
theorem dL_refusesOne_74 : decode cL_refusesOne 74 = .ok (.iconst 2, 1) := by decide +kernel
theorem dL_refusesOne_75 : decode cL_refusesOne 75 = .ok (.iload_n 2, 1) := by decide +kernel
theorem dL_refusesOne_76 : decode cL_refusesOne 76 = .ok (.iconst 0, 1) := by decide +kernel
theorem dL_refusesOne_77 : decode cL_refusesOne 77 = .ok (.iconst 0, 1) := by decide +kernel
theorem dL_refusesOne_78 : decode cL_refusesOne 78 = .ok (.invokestatic 103, 3) := by decide +kernel
theorem dL_refusesOne_81 : decode cL_refusesOne 81 = .ok (.bipush (-11), 2) := by decide +kernel
theorem dL_refusesOne_83 : decode cL_refusesOne 83 = .ok (.if_icmp .ne 299, 3) := by decide +kernel
theorem dL_refusesOne_86 : decode cL_refusesOne 86 = .ok (.aload_n 0, 1) := by decide +kernel
theorem dL_refusesOne_87 : decode cL_refusesOne 87 = .ok (.iconst 2, 1) := by decide +kernel
theorem dL_refusesOne_88 : decode cL_refusesOne 88 = .ok (.ldc 97, 2) := by decide +kernel
theorem dL_refusesOne_90 : decode cL_refusesOne 90 = .ok (.iload_n 1, 1) := by decide +kernel
theorem dL_refusesOne_91 : decode cL_refusesOne 91 = .ok (.iconst 1, 1) := by decide +kernel
theorem dL_refusesOne_92 : decode cL_refusesOne 92 = .ok (.bipush 40, 2) := by decide +kernel
theorem dL_refusesOne_94 : decode cL_refusesOne 94 = .ok (.invokestatic 98, 3) := by decide +kernel
theorem dL_refusesOne_97 : decode cL_refusesOne 97 = .ok (.iconst 0, 1) := by decide +kernel
theorem dL_refusesOne_98 : decode cL_refusesOne 98 = .ok (.invokestatic 103, 3) := by decide +kernel
theorem dL_refusesOne_101 : decode cL_refusesOne 101 = .ok (.bipush (-12), 2) := by decide +kernel
theorem dL_refusesOne_103 : decode cL_refusesOne 103 = .ok (.if_icmp .ne 279, 3) := by decide +kernel
theorem dL_refusesOne_106 : decode cL_refusesOne 106 = .ok (.aload_n 0, 1) := by decide +kernel
theorem dL_refusesOne_107 : decode cL_refusesOne 107 = .ok (.iconst 2, 1) := by decide +kernel
theorem dL_refusesOne_108 : decode cL_refusesOne 108 = .ok (.ldc 97, 2) := by decide +kernel
theorem dL_refusesOne_110 : decode cL_refusesOne 110 = .ok (.iload_n 1, 1) := by decide +kernel
theorem dL_refusesOne_111 : decode cL_refusesOne 111 = .ok (.isub, 1) := by decide +kernel
theorem dL_refusesOne_112 : decode cL_refusesOne 112 = .ok (.iconst 2, 1) := by decide +kernel
theorem dL_refusesOne_113 : decode cL_refusesOne 113 = .ok (.iload_n 1, 1) := by decide +kernel
theorem dL_refusesOne_114 : decode cL_refusesOne 114 = .ok (.iadd, 1) := by decide +kernel
theorem dL_refusesOne_115 : decode cL_refusesOne 115 = .ok (.iconst 0, 1) := by decide +kernel
theorem dL_refusesOne_116 : decode cL_refusesOne 116 = .ok (.invokestatic 103, 3) := by decide +kernel
theorem dL_refusesOne_119 : decode cL_refusesOne 119 = .ok (.bipush (-11), 2) := by decide +kernel
theorem dL_refusesOne_121 : decode cL_refusesOne 121 = .ok (.if_icmp .ne 261, 3) := by decide +kernel
theorem dL_refusesOne_124 : decode cL_refusesOne 124 = .ok (.aload_n 0, 1) := by decide +kernel
theorem dL_refusesOne_125 : decode cL_refusesOne 125 = .ok (.iconst 3, 1) := by decide +kernel
theorem dL_refusesOne_126 : decode cL_refusesOne 126 = .ok (.iload_n 2, 1) := by decide +kernel
theorem dL_refusesOne_127 : decode cL_refusesOne 127 = .ok (.iconst 0, 1) := by decide +kernel
theorem dL_refusesOne_128 : decode cL_refusesOne 128 = .ok (.iconst 0, 1) := by decide +kernel
theorem dL_refusesOne_129 : decode cL_refusesOne 129 = .ok (.invokestatic 103, 3) := by decide +kernel
theorem dL_refusesOne_132 : decode cL_refusesOne 132 = .ok (.bipush (-11), 2) := by decide +kernel
theorem dL_refusesOne_134 : decode cL_refusesOne 134 = .ok (.if_icmp .ne 248, 3) := by decide +kernel
theorem dL_refusesOne_137 : decode cL_refusesOne 137 = .ok (.aload_n 0, 1) := by decide +kernel
theorem dL_refusesOne_138 : decode cL_refusesOne 138 = .ok (.iconst 4, 1) := by decide +kernel
theorem dL_refusesOne_139 : decode cL_refusesOne 139 = .ok (.iload_n 2, 1) := by decide +kernel
theorem dL_refusesOne_140 : decode cL_refusesOne 140 = .ok (.bipush 99, 2) := by decide +kernel
theorem dL_refusesOne_142 : decode cL_refusesOne 142 = .ok (.iconst 0, 1) := by decide +kernel
theorem dL_refusesOne_143 : decode cL_refusesOne 143 = .ok (.invokestatic 103, 3) := by decide +kernel
theorem dL_refusesOne_146 : decode cL_refusesOne 146 = .ok (.bipush (-11), 2) := by decide +kernel
theorem dL_refusesOne_148 : decode cL_refusesOne 148 = .ok (.if_icmp .ne 234, 3) := by decide +kernel
theorem dL_refusesOne_151 : decode cL_refusesOne 151 = .ok (.aload_n 0, 1) := by decide +kernel
theorem dL_refusesOne_152 : decode cL_refusesOne 152 = .ok (.iconst 4, 1) := by decide +kernel
theorem dL_refusesOne_153 : decode cL_refusesOne 153 = .ok (.iconst 0, 1) := by decide +kernel
theorem dL_refusesOne_154 : decode cL_refusesOne 154 = .ok (.iload_n 3, 1) := by decide +kernel
theorem dL_refusesOne_155 : decode cL_refusesOne 155 = .ok (.iconst 0, 1) := by decide +kernel
theorem dL_refusesOne_156 : decode cL_refusesOne 156 = .ok (.invokestatic 103, 3) := by decide +kernel
theorem dL_refusesOne_159 : decode cL_refusesOne 159 = .ok (.bipush (-12), 2) := by decide +kernel
theorem dL_refusesOne_161 : decode cL_refusesOne 161 = .ok (.if_icmp .ne 221, 3) := by decide +kernel
theorem dL_refusesOne_164 : decode cL_refusesOne 164 = .ok (.aload_n 0, 1) := by decide +kernel
theorem dL_refusesOne_165 : decode cL_refusesOne 165 = .ok (.iconst 5, 1) := by decide +kernel
theorem dL_refusesOne_166 : decode cL_refusesOne 166 = .ok (.iload_n 2, 1) := by decide +kernel
theorem dL_refusesOne_167 : decode cL_refusesOne 167 = .ok (.iconst 0, 1) := by decide +kernel
theorem dL_refusesOne_168 : decode cL_refusesOne 168 = .ok (.iconst 0, 1) := by decide +kernel
theorem dL_refusesOne_169 : decode cL_refusesOne 169 = .ok (.invokestatic 103, 3) := by decide +kernel
theorem dL_refusesOne_172 : decode cL_refusesOne 172 = .ok (.bipush (-11), 2) := by decide +kernel
theorem dL_refusesOne_174 : decode cL_refusesOne 174 = .ok (.if_icmp .ne 208, 3) := by decide +kernel
theorem dL_refusesOne_177 : decode cL_refusesOne 177 = .ok (.aload_n 0, 1) := by decide +kernel
theorem dL_refusesOne_178 : decode cL_refusesOne 178 = .ok (.iconst 5, 1) := by decide +kernel
theorem dL_refusesOne_179 : decode cL_refusesOne 179 = .ok (.ldc 97, 2) := by decide +kernel
theorem dL_refusesOne_181 : decode cL_refusesOne 181 = .ok (.iload_n 2, 1) := by decide +kernel
theorem dL_refusesOne_182 : decode cL_refusesOne 182 = .ok (.iconst 0, 1) := by decide +kernel
theorem dL_refusesOne_183 : decode cL_refusesOne 183 = .ok (.invokestatic 103, 3) := by decide +kernel
theorem dL_refusesOne_186 : decode cL_refusesOne 186 = .ok (.bipush (-11), 2) := by decide +kernel
theorem dL_refusesOne_188 : decode cL_refusesOne 188 = .ok (.if_icmp .ne 194, 3) := by decide +kernel
theorem dL_refusesOne_191 : decode cL_refusesOne 191 = .ok (.aload_n 0, 1) := by decide +kernel
theorem dL_refusesOne_192 : decode cL_refusesOne 192 = .ok (.iconst 5, 1) := by decide +kernel
theorem dL_refusesOne_193 : decode cL_refusesOne 193 = .ok (.ldc 97, 2) := by decide +kernel
theorem dL_refusesOne_195 : decode cL_refusesOne 195 = .ok (.ldc 107, 2) := by decide +kernel
theorem dL_refusesOne_197 : decode cL_refusesOne 197 = .ok (.iload_n 1, 1) := by decide +kernel
theorem dL_refusesOne_198 : decode cL_refusesOne 198 = .ok (.isub, 1) := by decide +kernel
theorem dL_refusesOne_199 : decode cL_refusesOne 199 = .ok (.iconst 0, 1) := by decide +kernel
theorem dL_refusesOne_200 : decode cL_refusesOne 200 = .ok (.invokestatic 103, 3) := by decide +kernel
theorem dL_refusesOne_203 : decode cL_refusesOne 203 = .ok (.bipush (-12), 2) := by decide +kernel
theorem dL_refusesOne_205 : decode cL_refusesOne 205 = .ok (.if_icmp .ne 177, 3) := by decide +kernel
theorem dL_refusesOne_208 : decode cL_refusesOne 208 = .ok (.aload_n 0, 1) := by decide +kernel
theorem dL_refusesOne_209 : decode cL_refusesOne 209 = .ok (.bipush 6, 2) := by decide +kernel
theorem dL_refusesOne_211 : decode cL_refusesOne 211 = .ok (.iload_n 1, 1) := by decide +kernel
theorem dL_refusesOne_212 : decode cL_refusesOne 212 = .ok (.bipush 33, 2) := by decide +kernel
theorem dL_refusesOne_214 : decode cL_refusesOne 214 = .ok (.bipush 126, 2) := by decide +kernel
theorem dL_refusesOne_216 : decode cL_refusesOne 216 = .ok (.invokestatic 98, 3) := by decide +kernel
theorem dL_refusesOne_219 : decode cL_refusesOne 219 = .ok (.iconst 0, 1) := by decide +kernel
theorem dL_refusesOne_220 : decode cL_refusesOne 220 = .ok (.iconst 0, 1) := by decide +kernel
theorem dL_refusesOne_221 : decode cL_refusesOne 221 = .ok (.invokestatic 103, 3) := by decide +kernel
theorem dL_refusesOne_224 : decode cL_refusesOne 224 = .ok (.bipush (-12), 2) := by decide +kernel
theorem dL_refusesOne_226 : decode cL_refusesOne 226 = .ok (.if_icmp .ne 156, 3) := by decide +kernel
theorem dL_refusesOne_229 : decode cL_refusesOne 229 = .ok (.aload_n 0, 1) := by decide +kernel
theorem dL_refusesOne_230 : decode cL_refusesOne 230 = .ok (.bipush 7, 2) := by decide +kernel
theorem dL_refusesOne_232 : decode cL_refusesOne 232 = .ok (.iconst 0, 1) := by decide +kernel
theorem dL_refusesOne_233 : decode cL_refusesOne 233 = .ok (.iconst 0, 1) := by decide +kernel
theorem dL_refusesOne_234 : decode cL_refusesOne 234 = .ok (.iconst 0, 1) := by decide +kernel
theorem dL_refusesOne_235 : decode cL_refusesOne 235 = .ok (.invokestatic 103, 3) := by decide +kernel
theorem dL_refusesOne_238 : decode cL_refusesOne 238 = .ok (.bipush (-12), 2) := by decide +kernel
theorem dL_refusesOne_240 : decode cL_refusesOne 240 = .ok (.if_icmp .ne 142, 3) := by decide +kernel
theorem dL_refusesOne_243 : decode cL_refusesOne 243 = .ok (.aload_n 0, 1) := by decide +kernel
theorem dL_refusesOne_244 : decode cL_refusesOne 244 = .ok (.bipush 9, 2) := by decide +kernel
theorem dL_refusesOne_246 : decode cL_refusesOne 246 = .ok (.iload_n 1, 1) := by decide +kernel
theorem dL_refusesOne_247 : decode cL_refusesOne 247 = .ok (.iconst 0, 1) := by decide +kernel
theorem dL_refusesOne_248 : decode cL_refusesOne 248 = .ok (.iconst 1, 1) := by decide +kernel
theorem dL_refusesOne_249 : decode cL_refusesOne 249 = .ok (.invokestatic 98, 3) := by decide +kernel
theorem dL_refusesOne_252 : decode cL_refusesOne 252 = .ok (.iconst 0, 1) := by decide +kernel
theorem dL_refusesOne_253 : decode cL_refusesOne 253 = .ok (.iconst 0, 1) := by decide +kernel
theorem dL_refusesOne_254 : decode cL_refusesOne 254 = .ok (.invokestatic 103, 3) := by decide +kernel
theorem dL_refusesOne_257 : decode cL_refusesOne 257 = .ok (.bipush (-12), 2) := by decide +kernel
theorem dL_refusesOne_259 : decode cL_refusesOne 259 = .ok (.if_icmp .ne 123, 3) := by decide +kernel
theorem dL_refusesOne_262 : decode cL_refusesOne 262 = .ok (.aload_n 0, 1) := by decide +kernel
theorem dL_refusesOne_263 : decode cL_refusesOne 263 = .ok (.bipush 10, 2) := by decide +kernel
theorem dL_refusesOne_265 : decode cL_refusesOne 265 = .ok (.iload_n 1, 1) := by decide +kernel
theorem dL_refusesOne_266 : decode cL_refusesOne 266 = .ok (.iconst 0, 1) := by decide +kernel
theorem dL_refusesOne_267 : decode cL_refusesOne 267 = .ok (.iconst 1, 1) := by decide +kernel
theorem dL_refusesOne_268 : decode cL_refusesOne 268 = .ok (.invokestatic 98, 3) := by decide +kernel
theorem dL_refusesOne_271 : decode cL_refusesOne 271 = .ok (.iconst 0, 1) := by decide +kernel
theorem dL_refusesOne_272 : decode cL_refusesOne 272 = .ok (.iconst 0, 1) := by decide +kernel
theorem dL_refusesOne_273 : decode cL_refusesOne 273 = .ok (.invokestatic 103, 3) := by decide +kernel
theorem dL_refusesOne_276 : decode cL_refusesOne 276 = .ok (.bipush (-12), 2) := by decide +kernel
theorem dL_refusesOne_278 : decode cL_refusesOne 278 = .ok (.if_icmp .ne 104, 3) := by decide +kernel
theorem dL_refusesOne_281 : decode cL_refusesOne 281 = .ok (.aload_n 0, 1) := by decide +kernel
theorem dL_refusesOne_282 : decode cL_refusesOne 282 = .ok (.bipush 11, 2) := by decide +kernel
theorem dL_refusesOne_284 : decode cL_refusesOne 284 = .ok (.iload_n 2, 1) := by decide +kernel
theorem dL_refusesOne_285 : decode cL_refusesOne 285 = .ok (.iconst 0, 1) := by decide +kernel
theorem dL_refusesOne_286 : decode cL_refusesOne 286 = .ok (.iconst 0, 1) := by decide +kernel
theorem dL_refusesOne_287 : decode cL_refusesOne 287 = .ok (.invokestatic 103, 3) := by decide +kernel
theorem dL_refusesOne_290 : decode cL_refusesOne 290 = .ok (.bipush (-11), 2) := by decide +kernel
theorem dL_refusesOne_292 : decode cL_refusesOne 292 = .ok (.if_icmp .ne 90, 3) := by decide +kernel
theorem dL_refusesOne_295 : decode cL_refusesOne 295 = .ok (.aload_n 0, 1) := by decide +kernel
theorem dL_refusesOne_296 : decode cL_refusesOne 296 = .ok (.bipush 12, 2) := by decide +kernel
theorem dL_refusesOne_298 : decode cL_refusesOne 298 = .ok (.iload_n 2, 1) := by decide +kernel
theorem dL_refusesOne_299 : decode cL_refusesOne 299 = .ok (.bipush 9, 2) := by decide +kernel
theorem dL_refusesOne_301 : decode cL_refusesOne 301 = .ok (.iconst 0, 1) := by decide +kernel
theorem dL_refusesOne_302 : decode cL_refusesOne 302 = .ok (.invokestatic 103, 3) := by decide +kernel
theorem dL_refusesOne_305 : decode cL_refusesOne 305 = .ok (.bipush (-11), 2) := by decide +kernel
theorem dL_refusesOne_307 : decode cL_refusesOne 307 = .ok (.if_icmp .ne 75, 3) := by decide +kernel
theorem dL_refusesOne_310 : decode cL_refusesOne 310 = .ok (.aload_n 0, 1) := by decide +kernel
theorem dL_refusesOne_311 : decode cL_refusesOne 311 = .ok (.bipush 13, 2) := by decide +kernel
theorem dL_refusesOne_313 : decode cL_refusesOne 313 = .ok (.iload_n 1, 1) := by decide +kernel
theorem dL_refusesOne_314 : decode cL_refusesOne 314 = .ok (.iconst 0, 1) := by decide +kernel
theorem dL_refusesOne_315 : decode cL_refusesOne 315 = .ok (.aload_n 0, 1) := by decide +kernel
theorem dL_refusesOne_316 : decode cL_refusesOne 316 = .ok (.iconst 0, 1) := by decide +kernel
theorem dL_refusesOne_317 : decode cL_refusesOne 317 = .ok (.invokevirtual 56, 3) := by decide +kernel
theorem dL_refusesOne_320 : decode cL_refusesOne 320 = .ok (.iconst 1, 1) := by decide +kernel
theorem dL_refusesOne_321 : decode cL_refusesOne 321 = .ok (.isub, 1) := by decide +kernel
theorem dL_refusesOne_322 : decode cL_refusesOne 322 = .ok (.invokestatic 98, 3) := by decide +kernel
theorem dL_refusesOne_325 : decode cL_refusesOne 325 = .ok (.bipush 9, 2) := by decide +kernel
theorem dL_refusesOne_327 : decode cL_refusesOne 327 = .ok (.iconst 0, 1) := by decide +kernel
theorem dL_refusesOne_328 : decode cL_refusesOne 328 = .ok (.invokestatic 103, 3) := by decide +kernel
theorem dL_refusesOne_331 : decode cL_refusesOne 331 = .ok (.bipush (-11), 2) := by decide +kernel
theorem dL_refusesOne_333 : decode cL_refusesOne 333 = .ok (.if_icmp .ne 49, 3) := by decide +kernel
theorem dL_refusesOne_336 : decode cL_refusesOne 336 = .ok (.aload_n 0, 1) := by decide +kernel
theorem dL_refusesOne_337 : decode cL_refusesOne 337 = .ok (.bipush 14, 2) := by decide +kernel
theorem dL_refusesOne_339 : decode cL_refusesOne 339 = .ok (.iload_n 1, 1) := by decide +kernel
theorem dL_refusesOne_340 : decode cL_refusesOne 340 = .ok (.iconst 0, 1) := by decide +kernel
theorem dL_refusesOne_341 : decode cL_refusesOne 341 = .ok (.bipush 17, 2) := by decide +kernel
theorem dL_refusesOne_343 : decode cL_refusesOne 343 = .ok (.invokestatic 98, 3) := by decide +kernel
theorem dL_refusesOne_346 : decode cL_refusesOne 346 = .ok (.iconst 0, 1) := by decide +kernel
theorem dL_refusesOne_347 : decode cL_refusesOne 347 = .ok (.iconst 0, 1) := by decide +kernel
theorem dL_refusesOne_348 : decode cL_refusesOne 348 = .ok (.invokestatic 103, 3) := by decide +kernel
theorem dL_refusesOne_351 : decode cL_refusesOne 351 = .ok (.bipush (-12), 2) := by decide +kernel
theorem dL_refusesOne_353 : decode cL_refusesOne 353 = .ok (.if_icmp .ne 29, 3) := by decide +kernel
theorem dL_refusesOne_356 : decode cL_refusesOne 356 = .ok (.aload_n 0, 1) := by decide +kernel
theorem dL_refusesOne_357 : decode cL_refusesOne 357 = .ok (.bipush 15, 2) := by decide +kernel
theorem dL_refusesOne_359 : decode cL_refusesOne 359 = .ok (.iload_n 1, 1) := by decide +kernel
theorem dL_refusesOne_360 : decode cL_refusesOne 360 = .ok (.iconst 2, 1) := by decide +kernel
theorem dL_refusesOne_361 : decode cL_refusesOne 361 = .ok (.if_icmp .ge 9, 3) := by decide +kernel
theorem dL_refusesOne_364 : decode cL_refusesOne 364 = .ok (.iconst (-1), 1) := by decide +kernel
theorem dL_refusesOne_365 : decode cL_refusesOne 365 = .ok (.iload_n 1, 1) := by decide +kernel
theorem dL_refusesOne_366 : decode cL_refusesOne 366 = .ok (.isub, 1) := by decide +kernel
theorem dL_refusesOne_367 : decode cL_refusesOne 367 = .ok (.goto 5, 3) := by decide +kernel
theorem dL_refusesOne_370 : decode cL_refusesOne 370 = .ok (.ldc 96, 2) := by decide +kernel
theorem dL_refusesOne_372 : decode cL_refusesOne 372 = .ok (.iconst 0, 1) := by decide +kernel
theorem dL_refusesOne_373 : decode cL_refusesOne 373 = .ok (.iconst 0, 1) := by decide +kernel
theorem dL_refusesOne_374 : decode cL_refusesOne 374 = .ok (.invokestatic 103, 3) := by decide +kernel
theorem dL_refusesOne_377 : decode cL_refusesOne 377 = .ok (.bipush (-12), 2) := by decide +kernel
theorem dL_refusesOne_379 : decode cL_refusesOne 379 = .ok (.if_icmp .eq 5, 3) := by decide +kernel
theorem dL_refusesOne_382 : decode cL_refusesOne 382 = .ok (.iconst 0, 1) := by decide +kernel
theorem dL_refusesOne_383 : decode cL_refusesOne 383 = .ok (.ireturn, 1) := by decide +kernel
theorem dL_refusesOne_384 : decode cL_refusesOne 384 = .ok (.aload_n 0, 1) := by decide +kernel
theorem dL_refusesOne_385 : decode cL_refusesOne 385 = .ok (.iconst 0, 1) := by decide +kernel
theorem dL_refusesOne_386 : decode cL_refusesOne 386 = .ok (.invokevirtual 56, 3) := by decide +kernel
theorem dL_refusesOne_389 : decode cL_refusesOne 389 = .ok (.ifCond .le 72, 3) := by decide +kernel
theorem dL_refusesOne_392 : decode cL_refusesOne 392 = .ok (.aload_n 0, 1) := by decide +kernel
theorem dL_refusesOne_393 : decode cL_refusesOne 393 = .ok (.bipush 12, 2) := by decide +kernel
theorem dL_refusesOne_395 : decode cL_refusesOne 395 = .ok (.aload_n 0, 1) := by decide +kernel
theorem dL_refusesOne_396 : decode cL_refusesOne 396 = .ok (.iconst 0, 1) := by decide +kernel
theorem dL_refusesOne_397 : decode cL_refusesOne 397 = .ok (.invokevirtual 59, 3) := by decide +kernel
theorem dL_refusesOne_400 : decode cL_refusesOne 400 = .ok (.iload_n 1, 1) := by decide +kernel
theorem dL_refusesOne_401 : decode cL_refusesOne 401 = .ok (.iconst 0, 1) := by decide +kernel
theorem dL_refusesOne_402 : decode cL_refusesOne 402 = .ok (.iconst 4, 1) := by decide +kernel
theorem dL_refusesOne_403 : decode cL_refusesOne 403 = .ok (.invokestatic 98, 3) := by decide +kernel
theorem dL_refusesOne_406 : decode cL_refusesOne 406 = .ok (.iconst 0, 1) := by decide +kernel
theorem dL_refusesOne_407 : decode cL_refusesOne 407 = .ok (.invokestatic 103, 3) := by decide +kernel
theorem dL_refusesOne_410 : decode cL_refusesOne 410 = .ok (.bipush (-12), 2) := by decide +kernel
theorem dL_refusesOne_412 : decode cL_refusesOne 412 = .ok (.if_icmp .ne 47, 3) := by decide +kernel
theorem dL_refusesOne_415 : decode cL_refusesOne 415 = .ok (.aload_n 0, 1) := by decide +kernel
theorem dL_refusesOne_416 : decode cL_refusesOne 416 = .ok (.bipush 13, 2) := by decide +kernel
theorem dL_refusesOne_418 : decode cL_refusesOne 418 = .ok (.iconst 0, 1) := by decide +kernel
theorem dL_refusesOne_419 : decode cL_refusesOne 419 = .ok (.iload_n 1, 1) := by decide +kernel
theorem dL_refusesOne_420 : decode cL_refusesOne 420 = .ok (.iconst 0, 1) := by decide +kernel
theorem dL_refusesOne_421 : decode cL_refusesOne 421 = .ok (.bipush 8, 2) := by decide +kernel
theorem dL_refusesOne_423 : decode cL_refusesOne 423 = .ok (.invokestatic 98, 3) := by decide +kernel
theorem dL_refusesOne_426 : decode cL_refusesOne 426 = .ok (.iconst 0, 1) := by decide +kernel
theorem dL_refusesOne_427 : decode cL_refusesOne 427 = .ok (.invokestatic 103, 3) := by decide +kernel
theorem dL_refusesOne_430 : decode cL_refusesOne 430 = .ok (.bipush (-12), 2) := by decide +kernel
theorem dL_refusesOne_432 : decode cL_refusesOne 432 = .ok (.if_icmp .ne 27, 3) := by decide +kernel
theorem dL_refusesOne_435 : decode cL_refusesOne 435 = .ok (.aload_n 0, 1) := by decide +kernel
theorem dL_refusesOne_436 : decode cL_refusesOne 436 = .ok (.iconst 3, 1) := by decide +kernel
theorem dL_refusesOne_437 : decode cL_refusesOne 437 = .ok (.aload_n 0, 1) := by decide +kernel
theorem dL_refusesOne_438 : decode cL_refusesOne 438 = .ok (.iconst 0, 1) := by decide +kernel
theorem dL_refusesOne_439 : decode cL_refusesOne 439 = .ok (.invokevirtual 59, 3) := by decide +kernel
theorem dL_refusesOne_442 : decode cL_refusesOne 442 = .ok (.iload_n 1, 1) := by decide +kernel
theorem dL_refusesOne_443 : decode cL_refusesOne 443 = .ok (.iconst 1, 1) := by decide +kernel
theorem dL_refusesOne_444 : decode cL_refusesOne 444 = .ok (.sipush 999, 3) := by decide +kernel
theorem dL_refusesOne_447 : decode cL_refusesOne 447 = .ok (.invokestatic 98, 3) := by decide +kernel
theorem dL_refusesOne_450 : decode cL_refusesOne 450 = .ok (.iconst 0, 1) := by decide +kernel
theorem dL_refusesOne_451 : decode cL_refusesOne 451 = .ok (.invokestatic 103, 3) := by decide +kernel
theorem dL_refusesOne_454 : decode cL_refusesOne 454 = .ok (.bipush (-12), 2) := by decide +kernel
theorem dL_refusesOne_456 : decode cL_refusesOne 456 = .ok (.if_icmp .eq 5, 3) := by decide +kernel
theorem dL_refusesOne_459 : decode cL_refusesOne 459 = .ok (.iconst 0, 1) := by decide +kernel
theorem dL_refusesOne_460 : decode cL_refusesOne 460 = .ok (.ireturn, 1) := by decide +kernel
theorem dL_refusesOne_461 : decode cL_refusesOne 461 = .ok (.aload_n 0, 1) := by decide +kernel
theorem dL_refusesOne_462 : decode cL_refusesOne 462 = .ok (.bipush 16, 2) := by decide +kernel
theorem dL_refusesOne_464 : decode cL_refusesOne 464 = .ok (.iload_n 2, 1) := by decide +kernel
theorem dL_refusesOne_465 : decode cL_refusesOne 465 = .ok (.bipush 9, 2) := by decide +kernel
theorem dL_refusesOne_467 : decode cL_refusesOne 467 = .ok (.iconst 0, 1) := by decide +kernel
theorem dL_refusesOne_468 : decode cL_refusesOne 468 = .ok (.invokestatic 103, 3) := by decide +kernel
theorem dL_refusesOne_471 : decode cL_refusesOne 471 = .ok (.bipush (-11), 2) := by decide +kernel
theorem dL_refusesOne_473 : decode cL_refusesOne 473 = .ok (.if_icmp .ne 145, 3) := by decide +kernel
theorem dL_refusesOne_476 : decode cL_refusesOne 476 = .ok (.aload_n 0, 1) := by decide +kernel
theorem dL_refusesOne_477 : decode cL_refusesOne 477 = .ok (.bipush 16, 2) := by decide +kernel
theorem dL_refusesOne_479 : decode cL_refusesOne 479 = .ok (.iconst 0, 1) := by decide +kernel
theorem dL_refusesOne_480 : decode cL_refusesOne 480 = .ok (.iload_n 1, 1) := by decide +kernel
theorem dL_refusesOne_481 : decode cL_refusesOne 481 = .ok (.iconst 0, 1) := by decide +kernel
theorem dL_refusesOne_482 : decode cL_refusesOne 482 = .ok (.iconst 2, 1) := by decide +kernel
theorem dL_refusesOne_483 : decode cL_refusesOne 483 = .ok (.invokestatic 98, 3) := by decide +kernel
theorem dL_refusesOne_486 : decode cL_refusesOne 486 = .ok (.iconst 0, 1) := by decide +kernel
theorem dL_refusesOne_487 : decode cL_refusesOne 487 = .ok (.invokestatic 103, 3) := by decide +kernel
theorem dL_refusesOne_490 : decode cL_refusesOne 490 = .ok (.bipush (-12), 2) := by decide +kernel
theorem dL_refusesOne_492 : decode cL_refusesOne 492 = .ok (.if_icmp .ne 126, 3) := by decide +kernel
theorem dL_refusesOne_495 : decode cL_refusesOne 495 = .ok (.aload_n 0, 1) := by decide +kernel
theorem dL_refusesOne_496 : decode cL_refusesOne 496 = .ok (.bipush 17, 2) := by decide +kernel
theorem dL_refusesOne_498 : decode cL_refusesOne 498 = .ok (.iload_n 1, 1) := by decide +kernel
theorem dL_refusesOne_499 : decode cL_refusesOne 499 = .ok (.iconst 0, 1) := by decide +kernel
theorem dL_refusesOne_500 : decode cL_refusesOne 500 = .ok (.iconst 5, 1) := by decide +kernel
theorem dL_refusesOne_501 : decode cL_refusesOne 501 = .ok (.invokestatic 98, 3) := by decide +kernel
theorem dL_refusesOne_504 : decode cL_refusesOne 504 = .ok (.iconst 0, 1) := by decide +kernel
theorem dL_refusesOne_505 : decode cL_refusesOne 505 = .ok (.iconst 0, 1) := by decide +kernel
theorem dL_refusesOne_506 : decode cL_refusesOne 506 = .ok (.invokestatic 103, 3) := by decide +kernel
theorem dL_refusesOne_509 : decode cL_refusesOne 509 = .ok (.bipush (-11), 2) := by decide +kernel
theorem dL_refusesOne_511 : decode cL_refusesOne 511 = .ok (.if_icmp .ne 107, 3) := by decide +kernel
theorem dL_refusesOne_514 : decode cL_refusesOne 514 = .ok (.aload_n 0, 1) := by decide +kernel
theorem dL_refusesOne_515 : decode cL_refusesOne 515 = .ok (.bipush 17, 2) := by decide +kernel
theorem dL_refusesOne_517 : decode cL_refusesOne 517 = .ok (.iload_n 1, 1) := by decide +kernel
theorem dL_refusesOne_518 : decode cL_refusesOne 518 = .ok (.iconst 0, 1) := by decide +kernel
theorem dL_refusesOne_519 : decode cL_refusesOne 519 = .ok (.iconst 4, 1) := by decide +kernel
theorem dL_refusesOne_520 : decode cL_refusesOne 520 = .ok (.invokestatic 98, 3) := by decide +kernel
theorem dL_refusesOne_523 : decode cL_refusesOne 523 = .ok (.iconst 1, 1) := by decide +kernel
theorem dL_refusesOne_524 : decode cL_refusesOne 524 = .ok (.bipush 9, 2) := by decide +kernel
theorem dL_refusesOne_526 : decode cL_refusesOne 526 = .ok (.invokestatic 103, 3) := by decide +kernel
theorem dL_refusesOne_529 : decode cL_refusesOne 529 = .ok (.bipush (-11), 2) := by decide +kernel
theorem dL_refusesOne_531 : decode cL_refusesOne 531 = .ok (.if_icmp .ne 87, 3) := by decide +kernel
theorem dL_refusesOne_534 : decode cL_refusesOne 534 = .ok (.aload_n 0, 1) := by decide +kernel
theorem dL_refusesOne_535 : decode cL_refusesOne 535 = .ok (.bipush 17, 2) := by decide +kernel
theorem dL_refusesOne_537 : decode cL_refusesOne 537 = .ok (.iconst 5, 1) := by decide +kernel
theorem dL_refusesOne_538 : decode cL_refusesOne 538 = .ok (.iload_n 1, 1) := by decide +kernel
theorem dL_refusesOne_539 : decode cL_refusesOne 539 = .ok (.ifCond .ne 7, 3) := by decide +kernel
theorem dL_refusesOne_542 : decode cL_refusesOne 542 = .ok (.iconst (-1), 1) := by decide +kernel
theorem dL_refusesOne_543 : decode cL_refusesOne 543 = .ok (.goto 9, 3) := by decide +kernel
theorem dL_refusesOne_546 : decode cL_refusesOne 546 = .ok (.iload_n 1, 1) := by decide +kernel
theorem dL_refusesOne_547 : decode cL_refusesOne 547 = .ok (.iconst 2, 1) := by decide +kernel
theorem dL_refusesOne_548 : decode cL_refusesOne 548 = .ok (.iconst 3, 1) := by decide +kernel
theorem dL_refusesOne_549 : decode cL_refusesOne 549 = .ok (.invokestatic 98, 3) := by decide +kernel
theorem dL_refusesOne_552 : decode cL_refusesOne 552 = .ok (.iconst 0, 1) := by decide +kernel
theorem dL_refusesOne_553 : decode cL_refusesOne 553 = .ok (.invokestatic 103, 3) := by decide +kernel
theorem dL_refusesOne_556 : decode cL_refusesOne 556 = .ok (.bipush (-12), 2) := by decide +kernel
theorem dL_refusesOne_558 : decode cL_refusesOne 558 = .ok (.if_icmp .ne 60, 3) := by decide +kernel
theorem dL_refusesOne_561 : decode cL_refusesOne 561 = .ok (.aload_n 0, 1) := by decide +kernel
theorem dL_refusesOne_562 : decode cL_refusesOne 562 = .ok (.bipush 17, 2) := by decide +kernel
theorem dL_refusesOne_564 : decode cL_refusesOne 564 = .ok (.iconst 4, 1) := by decide +kernel
theorem dL_refusesOne_565 : decode cL_refusesOne 565 = .ok (.iconst 1, 1) := by decide +kernel
theorem dL_refusesOne_566 : decode cL_refusesOne 566 = .ok (.iload_n 1, 1) := by decide +kernel
theorem dL_refusesOne_567 : decode cL_refusesOne 567 = .ok (.iconst 0, 1) := by decide +kernel
theorem dL_refusesOne_568 : decode cL_refusesOne 568 = .ok (.iconst 1, 1) := by decide +kernel
theorem dL_refusesOne_569 : decode cL_refusesOne 569 = .ok (.invokestatic 98, 3) := by decide +kernel
theorem dL_refusesOne_572 : decode cL_refusesOne 572 = .ok (.invokestatic 103, 3) := by decide +kernel
theorem dL_refusesOne_575 : decode cL_refusesOne 575 = .ok (.bipush (-12), 2) := by decide +kernel
theorem dL_refusesOne_577 : decode cL_refusesOne 577 = .ok (.if_icmp .ne 41, 3) := by decide +kernel
theorem dL_refusesOne_580 : decode cL_refusesOne 580 = .ok (.aload_n 0, 1) := by decide +kernel
theorem dL_refusesOne_581 : decode cL_refusesOne 581 = .ok (.bipush 18, 2) := by decide +kernel
theorem dL_refusesOne_583 : decode cL_refusesOne 583 = .ok (.iload_n 1, 1) := by decide +kernel
theorem dL_refusesOne_584 : decode cL_refusesOne 584 = .ok (.iconst 0, 1) := by decide +kernel
theorem dL_refusesOne_585 : decode cL_refusesOne 585 = .ok (.iconst 5, 1) := by decide +kernel
theorem dL_refusesOne_586 : decode cL_refusesOne 586 = .ok (.invokestatic 98, 3) := by decide +kernel
theorem dL_refusesOne_589 : decode cL_refusesOne 589 = .ok (.iconst 0, 1) := by decide +kernel
theorem dL_refusesOne_590 : decode cL_refusesOne 590 = .ok (.iconst 0, 1) := by decide +kernel
theorem dL_refusesOne_591 : decode cL_refusesOne 591 = .ok (.invokestatic 103, 3) := by decide +kernel
theorem dL_refusesOne_594 : decode cL_refusesOne 594 = .ok (.bipush (-11), 2) := by decide +kernel
theorem dL_refusesOne_596 : decode cL_refusesOne 596 = .ok (.if_icmp .ne 22, 3) := by decide +kernel
theorem dL_refusesOne_599 : decode cL_refusesOne 599 = .ok (.aload_n 0, 1) := by decide +kernel
theorem dL_refusesOne_600 : decode cL_refusesOne 600 = .ok (.bipush 21, 2) := by decide +kernel
theorem dL_refusesOne_602 : decode cL_refusesOne 602 = .ok (.iload_n 1, 1) := by decide +kernel
theorem dL_refusesOne_603 : decode cL_refusesOne 603 = .ok (.iconst 0, 1) := by decide +kernel
theorem dL_refusesOne_604 : decode cL_refusesOne 604 = .ok (.iconst 2, 1) := by decide +kernel
theorem dL_refusesOne_605 : decode cL_refusesOne 605 = .ok (.invokestatic 98, 3) := by decide +kernel
theorem dL_refusesOne_608 : decode cL_refusesOne 608 = .ok (.iconst 0, 1) := by decide +kernel
theorem dL_refusesOne_609 : decode cL_refusesOne 609 = .ok (.iconst 0, 1) := by decide +kernel
theorem dL_refusesOne_610 : decode cL_refusesOne 610 = .ok (.invokestatic 103, 3) := by decide +kernel
theorem dL_refusesOne_613 : decode cL_refusesOne 613 = .ok (.bipush (-12), 2) := by decide +kernel
theorem dL_refusesOne_615 : decode cL_refusesOne 615 = .ok (.if_icmp .eq 5, 3) := by decide +kernel
theorem dL_refusesOne_618 : decode cL_refusesOne 618 = .ok (.iconst 0, 1) := by decide +kernel
theorem dL_refusesOne_619 : decode cL_refusesOne 619 = .ok (.ireturn, 1) := by decide +kernel
theorem dL_refusesOne_620 : decode cL_refusesOne 620 = .ok (.aload_n 0, 1) := by decide +kernel
theorem dL_refusesOne_621 : decode cL_refusesOne 621 = .ok (.bipush 19, 2) := by decide +kernel
theorem dL_refusesOne_623 : decode cL_refusesOne 623 = .ok (.iload_n 2, 1) := by decide +kernel
theorem dL_refusesOne_624 : decode cL_refusesOne 624 = .ok (.bipush 99, 2) := by decide +kernel
theorem dL_refusesOne_626 : decode cL_refusesOne 626 = .ok (.bipush (-9), 2) := by decide +kernel
theorem dL_refusesOne_628 : decode cL_refusesOne 628 = .ok (.invokestatic 103, 3) := by decide +kernel
theorem dL_refusesOne_631 : decode cL_refusesOne 631 = .ok (.bipush (-11), 2) := by decide +kernel
theorem dL_refusesOne_633 : decode cL_refusesOne 633 = .ok (.if_icmp .ne 93, 3) := by decide +kernel
theorem dL_refusesOne_636 : decode cL_refusesOne 636 = .ok (.aload_n 0, 1) := by decide +kernel
theorem dL_refusesOne_637 : decode cL_refusesOne 637 = .ok (.bipush 19, 2) := by decide +kernel
theorem dL_refusesOne_639 : decode cL_refusesOne 639 = .ok (.iconst 0, 1) := by decide +kernel
theorem dL_refusesOne_640 : decode cL_refusesOne 640 = .ok (.iload_n 3, 1) := by decide +kernel
theorem dL_refusesOne_641 : decode cL_refusesOne 641 = .ok (.iconst 0, 1) := by decide +kernel
theorem dL_refusesOne_642 : decode cL_refusesOne 642 = .ok (.invokestatic 103, 3) := by decide +kernel
theorem dL_refusesOne_645 : decode cL_refusesOne 645 = .ok (.bipush (-12), 2) := by decide +kernel
theorem dL_refusesOne_647 : decode cL_refusesOne 647 = .ok (.if_icmp .ne 79, 3) := by decide +kernel
theorem dL_refusesOne_650 : decode cL_refusesOne 650 = .ok (.aload_n 0, 1) := by decide +kernel
theorem dL_refusesOne_651 : decode cL_refusesOne 651 = .ok (.bipush 19, 2) := by decide +kernel
theorem dL_refusesOne_653 : decode cL_refusesOne 653 = .ok (.iconst 0, 1) := by decide +kernel
theorem dL_refusesOne_654 : decode cL_refusesOne 654 = .ok (.bipush 25, 2) := by decide +kernel
theorem dL_refusesOne_656 : decode cL_refusesOne 656 = .ok (.iload_n 1, 1) := by decide +kernel
theorem dL_refusesOne_657 : decode cL_refusesOne 657 = .ok (.iconst 2, 1) := by decide +kernel
theorem dL_refusesOne_658 : decode cL_refusesOne 658 = .ok (.if_icmp .ge 10, 3) := by decide +kernel
theorem dL_refusesOne_661 : decode cL_refusesOne 661 = .ok (.bipush (-2), 2) := by decide +kernel
theorem dL_refusesOne_663 : decode cL_refusesOne 663 = .ok (.iload_n 1, 1) := by decide +kernel
theorem dL_refusesOne_664 : decode cL_refusesOne 664 = .ok (.isub, 1) := by decide +kernel
theorem dL_refusesOne_665 : decode cL_refusesOne 665 = .ok (.goto 5, 3) := by decide +kernel
theorem dL_refusesOne_668 : decode cL_refusesOne 668 = .ok (.ldc 96, 2) := by decide +kernel
theorem dL_refusesOne_670 : decode cL_refusesOne 670 = .ok (.invokestatic 103, 3) := by decide +kernel
theorem dL_refusesOne_673 : decode cL_refusesOne 673 = .ok (.bipush (-12), 2) := by decide +kernel
theorem dL_refusesOne_675 : decode cL_refusesOne 675 = .ok (.if_icmp .ne 51, 3) := by decide +kernel
theorem dL_refusesOne_678 : decode cL_refusesOne 678 = .ok (.aload_n 0, 1) := by decide +kernel
theorem dL_refusesOne_679 : decode cL_refusesOne 679 = .ok (.bipush 20, 2) := by decide +kernel
theorem dL_refusesOne_681 : decode cL_refusesOne 681 = .ok (.iload_n 2, 1) := by decide +kernel
theorem dL_refusesOne_682 : decode cL_refusesOne 682 = .ok (.iconst 0, 1) := by decide +kernel
theorem dL_refusesOne_683 : decode cL_refusesOne 683 = .ok (.bipush 99, 2) := by decide +kernel
theorem dL_refusesOne_685 : decode cL_refusesOne 685 = .ok (.invokestatic 103, 3) := by decide +kernel
theorem dL_refusesOne_688 : decode cL_refusesOne 688 = .ok (.bipush (-11), 2) := by decide +kernel
theorem dL_refusesOne_690 : decode cL_refusesOne 690 = .ok (.if_icmp .ne 36, 3) := by decide +kernel
theorem dL_refusesOne_693 : decode cL_refusesOne 693 = .ok (.aload_n 0, 1) := by decide +kernel
theorem dL_refusesOne_694 : decode cL_refusesOne 694 = .ok (.bipush 20, 2) := by decide +kernel
theorem dL_refusesOne_696 : decode cL_refusesOne 696 = .ok (.iconst 0, 1) := by decide +kernel
theorem dL_refusesOne_697 : decode cL_refusesOne 697 = .ok (.iload_n 2, 1) := by decide +kernel
theorem dL_refusesOne_698 : decode cL_refusesOne 698 = .ok (.bipush 99, 2) := by decide +kernel
theorem dL_refusesOne_700 : decode cL_refusesOne 700 = .ok (.invokestatic 103, 3) := by decide +kernel
theorem dL_refusesOne_703 : decode cL_refusesOne 703 = .ok (.bipush (-11), 2) := by decide +kernel
theorem dL_refusesOne_705 : decode cL_refusesOne 705 = .ok (.if_icmp .ne 21, 3) := by decide +kernel
theorem dL_refusesOne_708 : decode cL_refusesOne 708 = .ok (.aload_n 0, 1) := by decide +kernel
theorem dL_refusesOne_709 : decode cL_refusesOne 709 = .ok (.bipush 20, 2) := by decide +kernel
theorem dL_refusesOne_711 : decode cL_refusesOne 711 = .ok (.iconst 0, 1) := by decide +kernel
theorem dL_refusesOne_712 : decode cL_refusesOne 712 = .ok (.iconst 0, 1) := by decide +kernel
theorem dL_refusesOne_713 : decode cL_refusesOne 713 = .ok (.iload_n 3, 1) := by decide +kernel
theorem dL_refusesOne_714 : decode cL_refusesOne 714 = .ok (.invokestatic 103, 3) := by decide +kernel
theorem dL_refusesOne_717 : decode cL_refusesOne 717 = .ok (.bipush (-12), 2) := by decide +kernel
theorem dL_refusesOne_719 : decode cL_refusesOne 719 = .ok (.if_icmp .ne 7, 3) := by decide +kernel
theorem dL_refusesOne_722 : decode cL_refusesOne 722 = .ok (.iconst 1, 1) := by decide +kernel
theorem dL_refusesOne_723 : decode cL_refusesOne 723 = .ok (.goto 4, 3) := by decide +kernel
theorem dL_refusesOne_726 : decode cL_refusesOne 726 = .ok (.iconst 0, 1) := by decide +kernel
theorem dL_refusesOne_727 : decode cL_refusesOne 727 = .ok (.ireturn, 1) := by decide +kernel
theorem dL_refused_0 : decode cL_refused 0 = .ok (.aload_n 0, 1) := by decide +kernel
theorem dL_refused_1 : decode cL_refused 1 = .ok (.invokestatic 108, 3) := by decide +kernel
theorem dL_refused_4 : decode cL_refused 4 = .ok (.lstore_n 1, 1) := by decide +kernel
theorem dL_refused_5 : decode cL_refused 5 = .ok (.aload_n 0, 1) := by decide +kernel
theorem dL_refused_6 : decode cL_refused 6 = .ok (.bipush 10, 2) := by decide +kernel
theorem dL_refused_8 : decode cL_refused 8 = .ok (.invokevirtual 56, 3) := by decide +kernel
theorem dL_refused_11 : decode cL_refused 11 = .ok (.istore_n 3, 1) := by decide +kernel
theorem dL_refused_12 : decode cL_refused 12 = .ok (.iconst 0, 1) := by decide +kernel
theorem dL_refused_13 : decode cL_refused 13 = .ok (.istore 4, 2) := by decide +kernel
theorem dL_refused_15 : decode cL_refused 15 = .ok (.iload 4, 2) := by decide +kernel
theorem dL_refused_17 : decode cL_refused 17 = .ok (.iconst 4, 1) := by decide +kernel
theorem dL_refused_18 : decode cL_refused 18 = .ok (.if_icmp .ge 20, 3) := by decide +kernel
theorem dL_refused_21 : decode cL_refused 21 = .ok (.aload_n 0, 1) := by decide +kernel
theorem dL_refused_22 : decode cL_refused 22 = .ok (.iload 4, 2) := by decide +kernel
theorem dL_refused_24 : decode cL_refused 24 = .ok (.invokestatic 112, 3) := by decide +kernel
theorem dL_refused_27 : decode cL_refused 27 = .ok (.ifCond .ne 5, 3) := by decide +kernel
theorem dL_refused_30 : decode cL_refused 30 = .ok (.iconst 0, 1) := by decide +kernel
theorem dL_refused_31 : decode cL_refused 31 = .ok (.ireturn, 1) := by decide +kernel
theorem dL_refused_32 : decode cL_refused 32 = .ok (.iinc 4 1, 3) := by decide +kernel
theorem dL_refused_35 : decode cL_refused 35 = .ok (.goto (-20), 3) := by decide +kernel
theorem dL_refused_38 : decode cL_refused 38 = .ok (.aload_n 0, 1) := by decide +kernel
theorem dL_refused_39 : decode cL_refused 39 = .ok (.invokestatic 108, 3) := by decide +kernel
theorem dL_refused_42 : decode cL_refused 42 = .ok (.lload_n 1, 1) := by decide +kernel
theorem dL_refused_43 : decode cL_refused 43 = .ok (.lcmp, 1) := by decide +kernel
theorem dL_refused_44 : decode cL_refused 44 = .ok (.ifCond .ne 17, 3) := by decide +kernel
theorem dL_refused_47 : decode cL_refused 47 = .ok (.aload_n 0, 1) := by decide +kernel
theorem dL_refused_48 : decode cL_refused 48 = .ok (.bipush 10, 2) := by decide +kernel
theorem dL_refused_50 : decode cL_refused 50 = .ok (.invokevirtual 56, 3) := by decide +kernel
theorem dL_refused_53 : decode cL_refused 53 = .ok (.iload_n 3, 1) := by decide +kernel
theorem dL_refused_54 : decode cL_refused 54 = .ok (.if_icmp .ne 7, 3) := by decide +kernel
theorem dL_refused_57 : decode cL_refused 57 = .ok (.iconst 1, 1) := by decide +kernel
theorem dL_refused_58 : decode cL_refused 58 = .ok (.goto 4, 3) := by decide +kernel
theorem dL_refused_61 : decode cL_refused 61 = .ok (.iconst 0, 1) := by decide +kernel
theorem dL_refused_62 : decode cL_refused 62 = .ok (.ireturn, 1) := by decide +kernel
theorem dL_letters_0 : decode cL_letters 0 = .ok (.new 10, 3) := by decide +kernel
theorem dL_letters_3 : decode cL_letters 3 = .ok (.dup, 1) := by decide +kernel
theorem dL_letters_4 : decode cL_letters 4 = .ok (.invokespecial 116, 3) := by decide +kernel
theorem dL_letters_7 : decode cL_letters 7 = .ok (.astore_n 0, 1) := by decide +kernel
theorem dL_letters_8 : decode cL_letters 8 = .ok (.aload_n 0, 1) := by decide +kernel
theorem dL_letters_9 : decode cL_letters 9 = .ok (.bipush 8, 2) := by decide +kernel
theorem dL_letters_11 : decode cL_letters 11 = .ok (.iconst 0, 1) := by decide +kernel
theorem dL_letters_12 : decode cL_letters 12 = .ok (.iconst 0, 1) := by decide +kernel
theorem dL_letters_13 : decode cL_letters 13 = .ok (.iconst 0, 1) := by decide +kernel
theorem dL_letters_14 : decode cL_letters 14 = .ok (.invokestatic 103, 3) := by decide +kernel
theorem dL_letters_17 : decode cL_letters 17 = .ok (.bipush (-13), 2) := by decide +kernel
theorem dL_letters_19 : decode cL_letters 19 = .ok (.if_icmp .ne 164, 3) := by decide +kernel
theorem dL_letters_22 : decode cL_letters 22 = .ok (.aload_n 0, 1) := by decide +kernel
theorem dL_letters_23 : decode cL_letters 23 = .ok (.bipush 10, 2) := by decide +kernel
theorem dL_letters_25 : decode cL_letters 25 = .ok (.iconst 0, 1) := by decide +kernel
theorem dL_letters_26 : decode cL_letters 26 = .ok (.iconst 0, 1) := by decide +kernel
theorem dL_letters_27 : decode cL_letters 27 = .ok (.iconst 0, 1) := by decide +kernel
theorem dL_letters_28 : decode cL_letters 28 = .ok (.invokestatic 103, 3) := by decide +kernel
theorem dL_letters_31 : decode cL_letters 31 = .ok (.bipush (-13), 2) := by decide +kernel
theorem dL_letters_33 : decode cL_letters 33 = .ok (.if_icmp .ne 150, 3) := by decide +kernel
theorem dL_letters_36 : decode cL_letters 36 = .ok (.aload_n 0, 1) := by decide +kernel
theorem dL_letters_37 : decode cL_letters 37 = .ok (.bipush 9, 2) := by decide +kernel
theorem dL_letters_39 : decode cL_letters 39 = .ok (.invokevirtual 56, 3) := by decide +kernel
theorem dL_letters_42 : decode cL_letters 42 = .ok (.bipush 11, 2) := by decide +kernel
theorem dL_letters_44 : decode cL_letters 44 = .ok (.if_icmp .ne 139, 3) := by decide +kernel
theorem dL_letters_47 : decode cL_letters 47 = .ok (.aload_n 0, 1) := by decide +kernel
theorem dL_letters_48 : decode cL_letters 48 = .ok (.bipush 17, 2) := by decide +kernel
theorem dL_letters_50 : decode cL_letters 50 = .ok (.invokevirtual 56, 3) := by decide +kernel
theorem dL_letters_53 : decode cL_letters 53 = .ok (.bipush 6, 2) := by decide +kernel
theorem dL_letters_55 : decode cL_letters 55 = .ok (.if_icmp .ne 128, 3) := by decide +kernel
theorem dL_letters_58 : decode cL_letters 58 = .ok (.aload_n 0, 1) := by decide +kernel
theorem dL_letters_59 : decode cL_letters 59 = .ok (.bipush 123, 2) := by decide +kernel
theorem dL_letters_61 : decode cL_letters 61 = .ok (.invokevirtual 47, 3) := by decide +kernel
theorem dL_letters_64 : decode cL_letters 64 = .ok (.bipush 10, 2) := by decide +kernel
theorem dL_letters_66 : decode cL_letters 66 = .ok (.if_icmp .ne 117, 3) := by decide +kernel
theorem dL_letters_69 : decode cL_letters 69 = .ok (.aload_n 0, 1) := by decide +kernel
theorem dL_letters_70 : decode cL_letters 70 = .ok (.ldc 117, 2) := by decide +kernel
theorem dL_letters_72 : decode cL_letters 72 = .ok (.invokevirtual 47, 3) := by decide +kernel
theorem dL_letters_75 : decode cL_letters 75 = .ok (.iconst 3, 1) := by decide +kernel
theorem dL_letters_76 : decode cL_letters 76 = .ok (.if_icmp .ne 107, 3) := by decide +kernel
theorem dL_letters_79 : decode cL_letters 79 = .ok (.aload_n 0, 1) := by decide +kernel
theorem dL_letters_80 : decode cL_letters 80 = .ok (.iconst 0, 1) := by decide +kernel
theorem dL_letters_81 : decode cL_letters 81 = .ok (.invokevirtual 47, 3) := by decide +kernel
theorem dL_letters_84 : decode cL_letters 84 = .ok (.ifCond .ne 99, 3) := by decide +kernel
theorem dL_letters_87 : decode cL_letters 87 = .ok (.aload_n 0, 1) := by decide +kernel
theorem dL_letters_88 : decode cL_letters 88 = .ok (.ldc 97, 2) := by decide +kernel
theorem dL_letters_90 : decode cL_letters 90 = .ok (.invokevirtual 47, 3) := by decide +kernel
theorem dL_letters_93 : decode cL_letters 93 = .ok (.iconst 2, 1) := by decide +kernel
theorem dL_letters_94 : decode cL_letters 94 = .ok (.if_icmp .ne 89, 3) := by decide +kernel
theorem dL_letters_97 : decode cL_letters 97 = .ok (.aload_n 0, 1) := by decide +kernel
theorem dL_letters_98 : decode cL_letters 98 = .ok (.iconst 0, 1) := by decide +kernel
theorem dL_letters_99 : decode cL_letters 99 = .ok (.invokevirtual 78, 3) := by decide +kernel
theorem dL_letters_102 : decode cL_letters 102 = .ok (.ifCond .eq 81, 3) := by decide +kernel
theorem dL_letters_105 : decode cL_letters 105 = .ok (.aload_n 0, 1) := by decide +kernel
theorem dL_letters_106 : decode cL_letters 106 = .ok (.iconst 1, 1) := by decide +kernel
theorem dL_letters_107 : decode cL_letters 107 = .ok (.invokevirtual 78, 3) := by decide +kernel
theorem dL_letters_110 : decode cL_letters 110 = .ok (.ifCond .eq 73, 3) := by decide +kernel
theorem dL_letters_113 : decode cL_letters 113 = .ok (.aload_n 0, 1) := by decide +kernel
theorem dL_letters_114 : decode cL_letters 114 = .ok (.iconst 2, 1) := by decide +kernel
theorem dL_letters_115 : decode cL_letters 115 = .ok (.invokevirtual 78, 3) := by decide +kernel
theorem dL_letters_118 : decode cL_letters 118 = .ok (.ifCond .eq 65, 3) := by decide +kernel
theorem dL_letters_121 : decode cL_letters 121 = .ok (.aload_n 0, 1) := by decide +kernel
theorem dL_letters_122 : decode cL_letters 122 = .ok (.iconst 0, 1) := by decide +kernel
theorem dL_letters_123 : decode cL_letters 123 = .ok (.invokevirtual 69, 3) := by decide +kernel
theorem dL_letters_126 : decode cL_letters 126 = .ok (.iconst 1, 1) := by decide +kernel
theorem dL_letters_127 : decode cL_letters 127 = .ok (.if_icmp .ne 56, 3) := by decide +kernel
theorem dL_letters_130 : decode cL_letters 130 = .ok (.aload_n 0, 1) := by decide +kernel
theorem dL_letters_131 : decode cL_letters 131 = .ok (.iconst 1, 1) := by decide +kernel
theorem dL_letters_132 : decode cL_letters 132 = .ok (.invokevirtual 69, 3) := by decide +kernel
theorem dL_letters_135 : decode cL_letters 135 = .ok (.iconst 2, 1) := by decide +kernel
theorem dL_letters_136 : decode cL_letters 136 = .ok (.if_icmp .ne 47, 3) := by decide +kernel
theorem dL_letters_139 : decode cL_letters 139 = .ok (.aload_n 0, 1) := by decide +kernel
theorem dL_letters_140 : decode cL_letters 140 = .ok (.iconst 5, 1) := by decide +kernel
theorem dL_letters_141 : decode cL_letters 141 = .ok (.invokevirtual 69, 3) := by decide +kernel
theorem dL_letters_144 : decode cL_letters 144 = .ok (.iconst 1, 1) := by decide +kernel
theorem dL_letters_145 : decode cL_letters 145 = .ok (.if_icmp .ne 38, 3) := by decide +kernel
theorem dL_letters_148 : decode cL_letters 148 = .ok (.aload_n 0, 1) := by decide +kernel
theorem dL_letters_149 : decode cL_letters 149 = .ok (.bipush 123, 2) := by decide +kernel
theorem dL_letters_151 : decode cL_letters 151 = .ok (.iconst 0, 1) := by decide +kernel
theorem dL_letters_152 : decode cL_letters 152 = .ok (.invokevirtual 62, 3) := by decide +kernel
theorem dL_letters_155 : decode cL_letters 155 = .ok (.ifCond .ne 28, 3) := by decide +kernel
theorem dL_letters_158 : decode cL_letters 158 = .ok (.aload_n 0, 1) := by decide +kernel
theorem dL_letters_159 : decode cL_letters 159 = .ok (.iconst 0, 1) := by decide +kernel
theorem dL_letters_160 : decode cL_letters 160 = .ok (.invokevirtual 59, 3) := by decide +kernel
theorem dL_letters_163 : decode cL_letters 163 = .ok (.iconst (-1), 1) := by decide +kernel
theorem dL_letters_164 : decode cL_letters 164 = .ok (.if_icmp .ne 19, 3) := by decide +kernel
theorem dL_letters_167 : decode cL_letters 167 = .ok (.aload_n 0, 1) := by decide +kernel
theorem dL_letters_168 : decode cL_letters 168 = .ok (.invokevirtual 118, 3) := by decide +kernel
theorem dL_letters_171 : decode cL_letters 171 = .ok (.dconst 0, 1) := by decide +kernel
theorem dL_letters_172 : decode cL_letters 172 = .ok (.dcmp .l, 1) := by decide +kernel
theorem dL_letters_173 : decode cL_letters 173 = .ok (.ifCond .ne 10, 3) := by decide +kernel
theorem dL_letters_176 : decode cL_letters 176 = .ok (.aload_n 0, 1) := by decide +kernel
theorem dL_letters_177 : decode cL_letters 177 = .ok (.invokestatic 122, 3) := by decide +kernel
theorem dL_letters_180 : decode cL_letters 180 = .ok (.ifCond .ne 5, 3) := by decide +kernel
theorem dL_letters_183 : decode cL_letters 183 = .ok (.iconst 0, 1) := by decide +kernel
theorem dL_letters_184 : decode cL_letters 184 = .ok (.ireturn, 1) := by decide +kernel
theorem dL_letters_185 : decode cL_letters 185 = .ok (.aload_n 0, 1) := by decide +kernel
theorem dL_letters_186 : decode cL_letters 186 = .ok (.bipush 90, 2) := by decide +kernel
theorem dL_letters_188 : decode cL_letters 188 = .ok (.bipush 90, 2) := by decide +kernel
theorem dL_letters_190 : decode cL_letters 190 = .ok (.iconst 1, 1) := by decide +kernel
theorem dL_letters_191 : decode cL_letters 191 = .ok (.invokevirtual 75, 3) := by decide +kernel
theorem dL_letters_194 : decode cL_letters 194 = .ok (.iconst 3, 1) := by decide +kernel
theorem dL_letters_195 : decode cL_letters 195 = .ok (.if_icmp .ne 123, 3) := by decide +kernel
theorem dL_letters_198 : decode cL_letters 198 = .ok (.aload_n 0, 1) := by decide +kernel
theorem dL_letters_199 : decode cL_letters 199 = .ok (.bipush 90, 2) := by decide +kernel
theorem dL_letters_201 : decode cL_letters 201 = .ok (.bipush 90, 2) := by decide +kernel
theorem dL_letters_203 : decode cL_letters 203 = .ok (.iconst 2, 1) := by decide +kernel
theorem dL_letters_204 : decode cL_letters 204 = .ok (.invokevirtual 75, 3) := by decide +kernel
theorem dL_letters_207 : decode cL_letters 207 = .ok (.iconst 2, 1) := by decide +kernel
theorem dL_letters_208 : decode cL_letters 208 = .ok (.if_icmp .ne 110, 3) := by decide +kernel
theorem dL_letters_211 : decode cL_letters 211 = .ok (.aload_n 0, 1) := by decide +kernel
theorem dL_letters_212 : decode cL_letters 212 = .ok (.bipush 90, 2) := by decide +kernel
theorem dL_letters_214 : decode cL_letters 214 = .ok (.bipush 90, 2) := by decide +kernel
theorem dL_letters_216 : decode cL_letters 216 = .ok (.bipush 10, 2) := by decide +kernel
theorem dL_letters_218 : decode cL_letters 218 = .ok (.invokevirtual 75, 3) := by decide +kernel
theorem dL_letters_221 : decode cL_letters 221 = .ok (.iconst 2, 1) := by decide +kernel
theorem dL_letters_222 : decode cL_letters 222 = .ok (.if_icmp .ne 96, 3) := by decide +kernel
theorem dL_letters_225 : decode cL_letters 225 = .ok (.aload_n 0, 1) := by decide +kernel
theorem dL_letters_226 : decode cL_letters 226 = .ok (.bipush 90, 2) := by decide +kernel
theorem dL_letters_228 : decode cL_letters 228 = .ok (.bipush 90, 2) := by decide +kernel
theorem dL_letters_230 : decode cL_letters 230 = .ok (.bipush 11, 2) := by decide +kernel
theorem dL_letters_232 : decode cL_letters 232 = .ok (.invokevirtual 75, 3) := by decide +kernel
theorem dL_letters_235 : decode cL_letters 235 = .ok (.iconst (-1), 1) := by decide +kernel
theorem dL_letters_236 : decode cL_letters 236 = .ok (.if_icmp .ne 82, 3) := by decide +kernel
theorem dL_letters_239 : decode cL_letters 239 = .ok (.aload_n 0, 1) := by decide +kernel
theorem dL_letters_240 : decode cL_letters 240 = .ok (.bipush 90, 2) := by decide +kernel
theorem dL_letters_242 : decode cL_letters 242 = .ok (.bipush 91, 2) := by decide +kernel
theorem dL_letters_244 : decode cL_letters 244 = .ok (.iconst 1, 1) := by decide +kernel
theorem dL_letters_245 : decode cL_letters 245 = .ok (.invokevirtual 75, 3) := by decide +kernel
theorem dL_letters_248 : decode cL_letters 248 = .ok (.ifCond .ne 70, 3) := by decide +kernel
theorem dL_letters_251 : decode cL_letters 251 = .ok (.aload_n 0, 1) := by decide +kernel
theorem dL_letters_252 : decode cL_letters 252 = .ok (.bipush 90, 2) := by decide +kernel
theorem dL_letters_254 : decode cL_letters 254 = .ok (.bipush 9, 2) := by decide +kernel
theorem dL_letters_256 : decode cL_letters 256 = .ok (.iconst 1, 1) := by decide +kernel
theorem dL_letters_257 : decode cL_letters 257 = .ok (.invokevirtual 75, 3) := by decide +kernel
theorem dL_letters_260 : decode cL_letters 260 = .ok (.iconst 1, 1) := by decide +kernel
theorem dL_letters_261 : decode cL_letters 261 = .ok (.if_icmp .ne 57, 3) := by decide +kernel
theorem dL_letters_264 : decode cL_letters 264 = .ok (.aload_n 0, 1) := by decide +kernel
theorem dL_letters_265 : decode cL_letters 265 = .ok (.bipush 90, 2) := by decide +kernel
theorem dL_letters_267 : decode cL_letters 267 = .ok (.sipush 900, 3) := by decide +kernel
theorem dL_letters_270 : decode cL_letters 270 = .ok (.iconst 1, 1) := by decide +kernel
theorem dL_letters_271 : decode cL_letters 271 = .ok (.invokevirtual 75, 3) := by decide +kernel
theorem dL_letters_274 : decode cL_letters 274 = .ok (.iconst 1, 1) := by decide +kernel
theorem dL_letters_275 : decode cL_letters 275 = .ok (.if_icmp .ne 43, 3) := by decide +kernel
theorem dL_letters_278 : decode cL_letters 278 = .ok (.aload_n 0, 1) := by decide +kernel
theorem dL_letters_279 : decode cL_letters 279 = .ok (.bipush 90, 2) := by decide +kernel
theorem dL_letters_281 : decode cL_letters 281 = .ok (.sipush 9000, 3) := by decide +kernel
theorem dL_letters_284 : decode cL_letters 284 = .ok (.iconst 1, 1) := by decide +kernel
theorem dL_letters_285 : decode cL_letters 285 = .ok (.invokevirtual 75, 3) := by decide +kernel
theorem dL_letters_288 : decode cL_letters 288 = .ok (.iconst (-1), 1) := by decide +kernel
theorem dL_letters_289 : decode cL_letters 289 = .ok (.if_icmp .ne 29, 3) := by decide +kernel
theorem dL_letters_292 : decode cL_letters 292 = .ok (.aload_n 0, 1) := by decide +kernel
theorem dL_letters_293 : decode cL_letters 293 = .ok (.bipush 90, 2) := by decide +kernel
theorem dL_letters_295 : decode cL_letters 295 = .ok (.bipush 9, 2) := by decide +kernel
theorem dL_letters_297 : decode cL_letters 297 = .ok (.iconst 2, 1) := by decide +kernel
theorem dL_letters_298 : decode cL_letters 298 = .ok (.invokevirtual 75, 3) := by decide +kernel
theorem dL_letters_301 : decode cL_letters 301 = .ok (.iconst (-1), 1) := by decide +kernel
theorem dL_letters_302 : decode cL_letters 302 = .ok (.if_icmp .ne 16, 3) := by decide +kernel
theorem dL_letters_305 : decode cL_letters 305 = .ok (.aload_n 0, 1) := by decide +kernel
theorem dL_letters_306 : decode cL_letters 306 = .ok (.bipush 90, 2) := by decide +kernel
theorem dL_letters_308 : decode cL_letters 308 = .ok (.bipush 19, 2) := by decide +kernel
theorem dL_letters_310 : decode cL_letters 310 = .ok (.iconst 1, 1) := by decide +kernel
theorem dL_letters_311 : decode cL_letters 311 = .ok (.invokevirtual 75, 3) := by decide +kernel
theorem dL_letters_314 : decode cL_letters 314 = .ok (.iconst (-1), 1) := by decide +kernel
theorem dL_letters_315 : decode cL_letters 315 = .ok (.if_icmp .eq 5, 3) := by decide +kernel
theorem dL_letters_318 : decode cL_letters 318 = .ok (.iconst 0, 1) := by decide +kernel
theorem dL_letters_319 : decode cL_letters 319 = .ok (.ireturn, 1) := by decide +kernel
theorem dL_letters_320 : decode cL_letters 320 = .ok (.aload_n 0, 1) := by decide +kernel
theorem dL_letters_321 : decode cL_letters 321 = .ok (.bipush 10, 2) := by decide +kernel
theorem dL_letters_323 : decode cL_letters 323 = .ok (.invokevirtual 15, 3) := by decide +kernel
theorem dL_letters_326 : decode cL_letters 326 = .ok (.bipush 11, 2) := by decide +kernel
theorem dL_letters_328 : decode cL_letters 328 = .ok (.if_icmp .ne 222, 3) := by decide +kernel
theorem dL_letters_331 : decode cL_letters 331 = .ok (.aload_n 0, 1) := by decide +kernel
theorem dL_letters_332 : decode cL_letters 332 = .ok (.bipush 123, 2) := by decide +kernel
theorem dL_letters_334 : decode cL_letters 334 = .ok (.invokevirtual 47, 3) := by decide +kernel
theorem dL_letters_337 : decode cL_letters 337 = .ok (.iconst 2, 1) := by decide +kernel
theorem dL_letters_338 : decode cL_letters 338 = .ok (.if_icmp .ne 212, 3) := by decide +kernel
theorem dL_letters_341 : decode cL_letters 341 = .ok (.aload_n 0, 1) := by decide +kernel
theorem dL_letters_342 : decode cL_letters 342 = .ok (.iconst 0, 1) := by decide +kernel
theorem dL_letters_343 : decode cL_letters 343 = .ok (.iconst 0, 1) := by decide +kernel
theorem dL_letters_344 : decode cL_letters 344 = .ok (.iconst 0, 1) := by decide +kernel
theorem dL_letters_345 : decode cL_letters 345 = .ok (.invokevirtual 65, 3) := by decide +kernel
theorem dL_letters_348 : decode cL_letters 348 = .ok (.ifCond .ne 202, 3) := by decide +kernel
theorem dL_letters_351 : decode cL_letters 351 = .ok (.aload_n 0, 1) := by decide +kernel
theorem dL_letters_352 : decode cL_letters 352 = .ok (.iconst 1, 1) := by decide +kernel
theorem dL_letters_353 : decode cL_letters 353 = .ok (.iconst 0, 1) := by decide +kernel
theorem dL_letters_354 : decode cL_letters 354 = .ok (.iconst 0, 1) := by decide +kernel
theorem dL_letters_355 : decode cL_letters 355 = .ok (.invokevirtual 65, 3) := by decide +kernel
theorem dL_letters_358 : decode cL_letters 358 = .ok (.iconst 5, 1) := by decide +kernel
theorem dL_letters_359 : decode cL_letters 359 = .ok (.if_icmp .ne 191, 3) := by decide +kernel
theorem dL_letters_362 : decode cL_letters 362 = .ok (.aload_n 0, 1) := by decide +kernel
theorem dL_letters_363 : decode cL_letters 363 = .ok (.iconst 1, 1) := by decide +kernel
theorem dL_letters_364 : decode cL_letters 364 = .ok (.iconst 0, 1) := by decide +kernel
theorem dL_letters_365 : decode cL_letters 365 = .ok (.iconst 1, 1) := by decide +kernel
theorem dL_letters_366 : decode cL_letters 366 = .ok (.invokevirtual 65, 3) := by decide +kernel
theorem dL_letters_369 : decode cL_letters 369 = .ok (.iconst 5, 1) := by decide +kernel
theorem dL_letters_370 : decode cL_letters 370 = .ok (.if_icmp .ne 180, 3) := by decide +kernel
theorem dL_letters_373 : decode cL_letters 373 = .ok (.aload_n 0, 1) := by decide +kernel
theorem dL_letters_374 : decode cL_letters 374 = .ok (.iconst 4, 1) := by decide +kernel
theorem dL_letters_375 : decode cL_letters 375 = .ok (.iconst 0, 1) := by decide +kernel
theorem dL_letters_376 : decode cL_letters 376 = .ok (.iconst 0, 1) := by decide +kernel
theorem dL_letters_377 : decode cL_letters 377 = .ok (.invokevirtual 65, 3) := by decide +kernel
theorem dL_letters_380 : decode cL_letters 380 = .ok (.bipush 20, 2) := by decide +kernel
theorem dL_letters_382 : decode cL_letters 382 = .ok (.if_icmp .ne 168, 3) := by decide +kernel
theorem dL_letters_385 : decode cL_letters 385 = .ok (.aload_n 0, 1) := by decide +kernel
theorem dL_letters_386 : decode cL_letters 386 = .ok (.iconst 4, 1) := by decide +kernel
theorem dL_letters_387 : decode cL_letters 387 = .ok (.iconst 0, 1) := by decide +kernel
theorem dL_letters_388 : decode cL_letters 388 = .ok (.iconst 1, 1) := by decide +kernel
theorem dL_letters_389 : decode cL_letters 389 = .ok (.invokevirtual 65, 3) := by decide +kernel
theorem dL_letters_392 : decode cL_letters 392 = .ok (.bipush 20, 2) := by decide +kernel
theorem dL_letters_394 : decode cL_letters 394 = .ok (.if_icmp .ne 156, 3) := by decide +kernel
theorem dL_letters_397 : decode cL_letters 397 = .ok (.aload_n 0, 1) := by decide +kernel
theorem dL_letters_398 : decode cL_letters 398 = .ok (.iconst 5, 1) := by decide +kernel
theorem dL_letters_399 : decode cL_letters 399 = .ok (.iconst 0, 1) := by decide +kernel
theorem dL_letters_400 : decode cL_letters 400 = .ok (.iconst 0, 1) := by decide +kernel
theorem dL_letters_401 : decode cL_letters 401 = .ok (.invokevirtual 65, 3) := by decide +kernel
theorem dL_letters_404 : decode cL_letters 404 = .ok (.iconst 5, 1) := by decide +kernel
theorem dL_letters_405 : decode cL_letters 405 = .ok (.if_icmp .ne 145, 3) := by decide +kernel
theorem dL_letters_408 : decode cL_letters 408 = .ok (.aload_n 0, 1) := by decide +kernel
theorem dL_letters_409 : decode cL_letters 409 = .ok (.iconst 4, 1) := by decide +kernel
theorem dL_letters_410 : decode cL_letters 410 = .ok (.iconst 1, 1) := by decide +kernel
theorem dL_letters_411 : decode cL_letters 411 = .ok (.iconst 0, 1) := by decide +kernel
theorem dL_letters_412 : decode cL_letters 412 = .ok (.invokevirtual 65, 3) := by decide +kernel
theorem dL_letters_415 : decode cL_letters 415 = .ok (.ifCond .ne 135, 3) := by decide +kernel
theorem dL_letters_418 : decode cL_letters 418 = .ok (.aload_n 0, 1) := by decide +kernel
theorem dL_letters_419 : decode cL_letters 419 = .ok (.iconst 0, 1) := by decide +kernel
theorem dL_letters_420 : decode cL_letters 420 = .ok (.invokevirtual 78, 3) := by decide +kernel
theorem dL_letters_423 : decode cL_letters 423 = .ok (.ifCond .ne 127, 3) := by decide +kernel
theorem dL_letters_426 : decode cL_letters 426 = .ok (.aload_n 0, 1) := by decide +kernel
theorem dL_letters_427 : decode cL_letters 427 = .ok (.iconst 1, 1) := by decide +kernel
theorem dL_letters_428 : decode cL_letters 428 = .ok (.invokevirtual 78, 3) := by decide +kernel
theorem dL_letters_431 : decode cL_letters 431 = .ok (.ifCond .eq 119, 3) := by decide +kernel
theorem dL_letters_434 : decode cL_letters 434 = .ok (.aload_n 0, 1) := by decide +kernel
theorem dL_letters_435 : decode cL_letters 435 = .ok (.bipush 123, 2) := by decide +kernel
theorem dL_letters_437 : decode cL_letters 437 = .ok (.iconst 0, 1) := by decide +kernel
theorem dL_letters_438 : decode cL_letters 438 = .ok (.invokevirtual 62, 3) := by decide +kernel
theorem dL_letters_441 : decode cL_letters 441 = .ok (.bipush 7, 2) := by decide +kernel
theorem dL_letters_443 : decode cL_letters 443 = .ok (.if_icmp .ne 107, 3) := by decide +kernel
theorem dL_letters_446 : decode cL_letters 446 = .ok (.aload_n 0, 1) := by decide +kernel
theorem dL_letters_447 : decode cL_letters 447 = .ok (.bipush 123, 2) := by decide +kernel
theorem dL_letters_449 : decode cL_letters 449 = .ok (.iconst 1, 1) := by decide +kernel
theorem dL_letters_450 : decode cL_letters 450 = .ok (.invokevirtual 62, 3) := by decide +kernel
theorem dL_letters_453 : decode cL_letters 453 = .ok (.ifCond .ne 97, 3) := by decide +kernel
theorem dL_letters_456 : decode cL_letters 456 = .ok (.aload_n 0, 1) := by decide +kernel
theorem dL_letters_457 : decode cL_letters 457 = .ok (.iconst 4, 1) := by decide +kernel
theorem dL_letters_458 : decode cL_letters 458 = .ok (.invokevirtual 69, 3) := by decide +kernel
theorem dL_letters_461 : decode cL_letters 461 = .ok (.iconst 3, 1) := by decide +kernel
theorem dL_letters_462 : decode cL_letters 462 = .ok (.if_icmp .ne 88, 3) := by decide +kernel
theorem dL_letters_465 : decode cL_letters 465 = .ok (.aload_n 0, 1) := by decide +kernel
theorem dL_letters_466 : decode cL_letters 466 = .ok (.iconst 4, 1) := by decide +kernel
theorem dL_letters_467 : decode cL_letters 467 = .ok (.iconst 4, 1) := by decide +kernel
theorem dL_letters_468 : decode cL_letters 468 = .ok (.invokevirtual 9, 3) := by decide +kernel
theorem dL_letters_471 : decode cL_letters 471 = .ok (.iconst 5, 1) := by decide +kernel
theorem dL_letters_472 : decode cL_letters 472 = .ok (.if_icmp .ne 78, 3) := by decide +kernel
theorem dL_letters_475 : decode cL_letters 475 = .ok (.aload_n 0, 1) := by decide +kernel
theorem dL_letters_476 : decode cL_letters 476 = .ok (.iconst 3, 1) := by decide +kernel
theorem dL_letters_477 : decode cL_letters 477 = .ok (.iconst 1, 1) := by decide +kernel
theorem dL_letters_478 : decode cL_letters 478 = .ok (.iconst 0, 1) := by decide +kernel
theorem dL_letters_479 : decode cL_letters 479 = .ok (.invokevirtual 65, 3) := by decide +kernel
theorem dL_letters_482 : decode cL_letters 482 = .ok (.bipush 45, 2) := by decide +kernel
theorem dL_letters_484 : decode cL_letters 484 = .ok (.if_icmp .ne 66, 3) := by decide +kernel
theorem dL_letters_487 : decode cL_letters 487 = .ok (.aload_n 0, 1) := by decide +kernel
theorem dL_letters_488 : decode cL_letters 488 = .ok (.iconst 3, 1) := by decide +kernel
theorem dL_letters_489 : decode cL_letters 489 = .ok (.iconst 1, 1) := by decide +kernel
theorem dL_letters_490 : decode cL_letters 490 = .ok (.iconst 1, 1) := by decide +kernel
theorem dL_letters_491 : decode cL_letters 491 = .ok (.invokevirtual 65, 3) := by decide +kernel
theorem dL_letters_494 : decode cL_letters 494 = .ok (.bipush 45, 2) := by decide +kernel
theorem dL_letters_496 : decode cL_letters 496 = .ok (.if_icmp .ne 54, 3) := by decide +kernel
theorem dL_letters_499 : decode cL_letters 499 = .ok (.aload_n 0, 1) := by decide +kernel
theorem dL_letters_500 : decode cL_letters 500 = .ok (.iconst 4, 1) := by decide +kernel
theorem dL_letters_501 : decode cL_letters 501 = .ok (.iconst 1, 1) := by decide +kernel
theorem dL_letters_502 : decode cL_letters 502 = .ok (.iconst 0, 1) := by decide +kernel
theorem dL_letters_503 : decode cL_letters 503 = .ok (.invokevirtual 65, 3) := by decide +kernel
theorem dL_letters_506 : decode cL_letters 506 = .ok (.iconst 5, 1) := by decide +kernel
theorem dL_letters_507 : decode cL_letters 507 = .ok (.if_icmp .ne 43, 3) := by decide +kernel
theorem dL_letters_510 : decode cL_letters 510 = .ok (.aload_n 0, 1) := by decide +kernel
theorem dL_letters_511 : decode cL_letters 511 = .ok (.iconst 1, 1) := by decide +kernel
theorem dL_letters_512 : decode cL_letters 512 = .ok (.invokevirtual 78, 3) := by decide +kernel
theorem dL_letters_515 : decode cL_letters 515 = .ok (.ifCond .ne 35, 3) := by decide +kernel
theorem dL_letters_518 : decode cL_letters 518 = .ok (.aload_n 0, 1) := by decide +kernel
theorem dL_letters_519 : decode cL_letters 519 = .ok (.bipush 123, 2) := by decide +kernel
theorem dL_letters_521 : decode cL_letters 521 = .ok (.iconst 1, 1) := by decide +kernel
theorem dL_letters_522 : decode cL_letters 522 = .ok (.invokevirtual 62, 3) := by decide +kernel
theorem dL_letters_525 : decode cL_letters 525 = .ok (.iconst 1, 1) := by decide +kernel
theorem dL_letters_526 : decode cL_letters 526 = .ok (.if_icmp .ne 24, 3) := by decide +kernel
theorem dL_letters_529 : decode cL_letters 529 = .ok (.aload_n 0, 1) := by decide +kernel
theorem dL_letters_530 : decode cL_letters 530 = .ok (.ldc 126, 2) := by decide +kernel
theorem dL_letters_532 : decode cL_letters 532 = .ok (.iconst 1, 1) := by decide +kernel
theorem dL_letters_533 : decode cL_letters 533 = .ok (.invokevirtual 62, 3) := by decide +kernel
theorem dL_letters_536 : decode cL_letters 536 = .ok (.ifCond .ne 14, 3) := by decide +kernel
theorem dL_letters_539 : decode cL_letters 539 = .ok (.aload_n 0, 1) := by decide +kernel
theorem dL_letters_540 : decode cL_letters 540 = .ok (.bipush 16, 2) := by decide +kernel
theorem dL_letters_542 : decode cL_letters 542 = .ok (.iconst 1, 1) := by decide +kernel
theorem dL_letters_543 : decode cL_letters 543 = .ok (.invokevirtual 62, 3) := by decide +kernel
theorem dL_letters_546 : decode cL_letters 546 = .ok (.iconst 2, 1) := by decide +kernel
theorem dL_letters_547 : decode cL_letters 547 = .ok (.if_icmp .eq 5, 3) := by decide +kernel
theorem dL_letters_550 : decode cL_letters 550 = .ok (.iconst 0, 1) := by decide +kernel
theorem dL_letters_551 : decode cL_letters 551 = .ok (.ireturn, 1) := by decide +kernel
theorem dL_letters_552 : decode cL_letters 552 = .ok (.aload_n 0, 1) := by decide +kernel
theorem dL_letters_553 : decode cL_letters 553 = .ok (.invokevirtual 38, 3) := by decide +kernel
theorem dL_letters_556 : decode cL_letters 556 = .ok (.iconst 1, 1) := by decide +kernel
theorem dL_letters_557 : decode cL_letters 557 = .ok (.if_icmp .ne 35, 3) := by decide +kernel
theorem dL_letters_560 : decode cL_letters 560 = .ok (.aload_n 0, 1) := by decide +kernel
theorem dL_letters_561 : decode cL_letters 561 = .ok (.bipush 16, 2) := by decide +kernel
theorem dL_letters_563 : decode cL_letters 563 = .ok (.invokevirtual 56, 3) := by decide +kernel
theorem dL_letters_566 : decode cL_letters 566 = .ok (.iconst 5, 1) := by decide +kernel
theorem dL_letters_567 : decode cL_letters 567 = .ok (.if_icmp .ne 25, 3) := by decide +kernel
theorem dL_letters_570 : decode cL_letters 570 = .ok (.aload_n 0, 1) := by decide +kernel
theorem dL_letters_571 : decode cL_letters 571 = .ok (.invokevirtual 38, 3) := by decide +kernel
theorem dL_letters_574 : decode cL_letters 574 = .ok (.ifCond .ne 18, 3) := by decide +kernel
theorem dL_letters_577 : decode cL_letters 577 = .ok (.aload_n 0, 1) := by decide +kernel
theorem dL_letters_578 : decode cL_letters 578 = .ok (.bipush 9, 2) := by decide +kernel
theorem dL_letters_580 : decode cL_letters 580 = .ok (.invokevirtual 56, 3) := by decide +kernel
theorem dL_letters_583 : decode cL_letters 583 = .ok (.bipush 11, 2) := by decide +kernel
theorem dL_letters_585 : decode cL_letters 585 = .ok (.if_icmp .ne 7, 3) := by decide +kernel
theorem dL_letters_588 : decode cL_letters 588 = .ok (.iconst 1, 1) := by decide +kernel
theorem dL_letters_589 : decode cL_letters 589 = .ok (.goto 4, 3) := by decide +kernel
theorem dL_letters_592 : decode cL_letters 592 = .ok (.iconst 0, 1) := by decide +kernel
theorem dL_letters_593 : decode cL_letters 593 = .ok (.ireturn, 1) := by decide +kernel
theorem dL_cheques_0 : decode cL_cheques 0 = .ok (.new 10, 3) := by decide +kernel
theorem dL_cheques_3 : decode cL_cheques 3 = .ok (.dup, 1) := by decide +kernel
theorem dL_cheques_4 : decode cL_cheques 4 = .ok (.invokespecial 116, 3) := by decide +kernel
theorem dL_cheques_7 : decode cL_cheques 7 = .ok (.astore_n 0, 1) := by decide +kernel
theorem dL_cheques_8 : decode cL_cheques 8 = .ok (.aload_n 0, 1) := by decide +kernel
theorem dL_cheques_9 : decode cL_cheques 9 = .ok (.bipush 100, 2) := by decide +kernel
theorem dL_cheques_11 : decode cL_cheques 11 = .ok (.iconst 5, 1) := by decide +kernel
theorem dL_cheques_12 : decode cL_cheques 12 = .ok (.invokevirtual 19, 3) := by decide +kernel
theorem dL_cheques_15 : decode cL_cheques 15 = .ok (.ifCond .ne 174, 3) := by decide +kernel
theorem dL_cheques_18 : decode cL_cheques 18 = .ok (.aload_n 0, 1) := by decide +kernel
theorem dL_cheques_19 : decode cL_cheques 19 = .ok (.bipush 90, 2) := by decide +kernel
theorem dL_cheques_21 : decode cL_cheques 21 = .ok (.bipush 10, 2) := by decide +kernel
theorem dL_cheques_23 : decode cL_cheques 23 = .ok (.invokevirtual 19, 3) := by decide +kernel
theorem dL_cheques_26 : decode cL_cheques 26 = .ok (.iconst 1, 1) := by decide +kernel
theorem dL_cheques_27 : decode cL_cheques 27 = .ok (.if_icmp .ne 162, 3) := by decide +kernel
theorem dL_cheques_30 : decode cL_cheques 30 = .ok (.aload_n 0, 1) := by decide +kernel
theorem dL_cheques_31 : decode cL_cheques 31 = .ok (.iconst 2, 1) := by decide +kernel
theorem dL_cheques_32 : decode cL_cheques 32 = .ok (.bipush 95, 2) := by decide +kernel
theorem dL_cheques_34 : decode cL_cheques 34 = .ok (.iconst 2, 1) := by decide +kernel
theorem dL_cheques_35 : decode cL_cheques 35 = .ok (.iconst 0, 1) := by decide +kernel
theorem dL_cheques_36 : decode cL_cheques 36 = .ok (.invokestatic 103, 3) := by decide +kernel
theorem dL_cheques_39 : decode cL_cheques 39 = .ok (.bipush (-13), 2) := by decide +kernel
theorem dL_cheques_41 : decode cL_cheques 41 = .ok (.if_icmp .ne 148, 3) := by decide +kernel
theorem dL_cheques_44 : decode cL_cheques 44 = .ok (.aload_n 0, 1) := by decide +kernel
theorem dL_cheques_45 : decode cL_cheques 45 = .ok (.iconst 2, 1) := by decide +kernel
theorem dL_cheques_46 : decode cL_cheques 46 = .ok (.bipush 104, 2) := by decide +kernel
theorem dL_cheques_48 : decode cL_cheques 48 = .ok (.iconst 1, 1) := by decide +kernel
theorem dL_cheques_49 : decode cL_cheques 49 = .ok (.iconst 0, 1) := by decide +kernel
theorem dL_cheques_50 : decode cL_cheques 50 = .ok (.invokestatic 103, 3) := by decide +kernel
theorem dL_cheques_53 : decode cL_cheques 53 = .ok (.bipush (-13), 2) := by decide +kernel
theorem dL_cheques_55 : decode cL_cheques 55 = .ok (.if_icmp .ne 134, 3) := by decide +kernel
theorem dL_cheques_58 : decode cL_cheques 58 = .ok (.aload_n 0, 1) := by decide +kernel
theorem dL_cheques_59 : decode cL_cheques 59 = .ok (.iconst 2, 1) := by decide +kernel
theorem dL_cheques_60 : decode cL_cheques 60 = .ok (.bipush 80, 2) := by decide +kernel
theorem dL_cheques_62 : decode cL_cheques 62 = .ok (.bipush 11, 2) := by decide +kernel
theorem dL_cheques_64 : decode cL_cheques 64 = .ok (.iconst 0, 1) := by decide +kernel
theorem dL_cheques_65 : decode cL_cheques 65 = .ok (.invokestatic 103, 3) := by decide +kernel
theorem dL_cheques_68 : decode cL_cheques 68 = .ok (.bipush (-13), 2) := by decide +kernel
theorem dL_cheques_70 : decode cL_cheques 70 = .ok (.if_icmp .ne 119, 3) := by decide +kernel
theorem dL_cheques_73 : decode cL_cheques 73 = .ok (.aload_n 0, 1) := by decide +kernel
theorem dL_cheques_74 : decode cL_cheques 74 = .ok (.bipush 105, 2) := by decide +kernel
theorem dL_cheques_76 : decode cL_cheques 76 = .ok (.iconst 1, 1) := by decide +kernel
theorem dL_cheques_77 : decode cL_cheques 77 = .ok (.invokevirtual 19, 3) := by decide +kernel
theorem dL_cheques_80 : decode cL_cheques 80 = .ok (.iconst 2, 1) := by decide +kernel
theorem dL_cheques_81 : decode cL_cheques 81 = .ok (.if_icmp .ne 108, 3) := by decide +kernel
theorem dL_cheques_84 : decode cL_cheques 84 = .ok (.aload_n 0, 1) := by decide +kernel
theorem dL_cheques_85 : decode cL_cheques 85 = .ok (.ldc 97, 2) := by decide +kernel
theorem dL_cheques_87 : decode cL_cheques 87 = .ok (.iconst 1, 1) := by decide +kernel
theorem dL_cheques_88 : decode cL_cheques 88 = .ok (.invokevirtual 19, 3) := by decide +kernel
theorem dL_cheques_91 : decode cL_cheques 91 = .ok (.iconst 3, 1) := by decide +kernel
theorem dL_cheques_92 : decode cL_cheques 92 = .ok (.if_icmp .ne 97, 3) := by decide +kernel
theorem dL_cheques_95 : decode cL_cheques 95 = .ok (.aload_n 0, 1) := by decide +kernel
theorem dL_cheques_96 : decode cL_cheques 96 = .ok (.iconst 2, 1) := by decide +kernel
theorem dL_cheques_97 : decode cL_cheques 97 = .ok (.ldc 107, 2) := by decide +kernel
theorem dL_cheques_99 : decode cL_cheques 99 = .ok (.iconst 2, 1) := by decide +kernel
theorem dL_cheques_100 : decode cL_cheques 100 = .ok (.iconst 0, 1) := by decide +kernel
theorem dL_cheques_101 : decode cL_cheques 101 = .ok (.invokestatic 103, 3) := by decide +kernel
theorem dL_cheques_104 : decode cL_cheques 104 = .ok (.bipush (-13), 2) := by decide +kernel
theorem dL_cheques_106 : decode cL_cheques 106 = .ok (.if_icmp .ne 83, 3) := by decide +kernel
theorem dL_cheques_109 : decode cL_cheques 109 = .ok (.aload_n 0, 1) := by decide +kernel
theorem dL_cheques_110 : decode cL_cheques 110 = .ok (.iconst 0, 1) := by decide +kernel
theorem dL_cheques_111 : decode cL_cheques 111 = .ok (.invokevirtual 59, 3) := by decide +kernel
theorem dL_cheques_114 : decode cL_cheques 114 = .ok (.bipush 90, 2) := by decide +kernel
theorem dL_cheques_116 : decode cL_cheques 116 = .ok (.if_icmp .ne 73, 3) := by decide +kernel
theorem dL_cheques_119 : decode cL_cheques 119 = .ok (.aload_n 0, 1) := by decide +kernel
theorem dL_cheques_120 : decode cL_cheques 120 = .ok (.bipush 10, 2) := by decide +kernel
theorem dL_cheques_122 : decode cL_cheques 122 = .ok (.invokevirtual 59, 3) := by decide +kernel
theorem dL_cheques_125 : decode cL_cheques 125 = .ok (.bipush 100, 2) := by decide +kernel
theorem dL_cheques_127 : decode cL_cheques 127 = .ok (.if_icmp .ne 62, 3) := by decide +kernel
theorem dL_cheques_130 : decode cL_cheques 130 = .ok (.aload_n 0, 1) := by decide +kernel
theorem dL_cheques_131 : decode cL_cheques 131 = .ok (.bipush 15, 2) := by decide +kernel
theorem dL_cheques_133 : decode cL_cheques 133 = .ok (.invokevirtual 59, 3) := by decide +kernel
theorem dL_cheques_136 : decode cL_cheques 136 = .ok (.bipush 105, 2) := by decide +kernel
theorem dL_cheques_138 : decode cL_cheques 138 = .ok (.if_icmp .ne 51, 3) := by decide +kernel
theorem dL_cheques_141 : decode cL_cheques 141 = .ok (.aload_n 0, 1) := by decide +kernel
theorem dL_cheques_142 : decode cL_cheques 142 = .ok (.bipush 16, 2) := by decide +kernel
theorem dL_cheques_144 : decode cL_cheques 144 = .ok (.invokevirtual 59, 3) := by decide +kernel
theorem dL_cheques_147 : decode cL_cheques 147 = .ok (.ldc 97, 2) := by decide +kernel
theorem dL_cheques_149 : decode cL_cheques 149 = .ok (.if_icmp .ne 40, 3) := by decide +kernel
theorem dL_cheques_152 : decode cL_cheques 152 = .ok (.aload_n 0, 1) := by decide +kernel
theorem dL_cheques_153 : decode cL_cheques 153 = .ok (.bipush 17, 2) := by decide +kernel
theorem dL_cheques_155 : decode cL_cheques 155 = .ok (.invokevirtual 59, 3) := by decide +kernel
theorem dL_cheques_158 : decode cL_cheques 158 = .ok (.iconst (-1), 1) := by decide +kernel
theorem dL_cheques_159 : decode cL_cheques 159 = .ok (.if_icmp .ne 30, 3) := by decide +kernel
theorem dL_cheques_162 : decode cL_cheques 162 = .ok (.aload_n 0, 1) := by decide +kernel
theorem dL_cheques_163 : decode cL_cheques 163 = .ok (.ldc 7, 2) := by decide +kernel
theorem dL_cheques_165 : decode cL_cheques 165 = .ok (.invokevirtual 59, 3) := by decide +kernel
theorem dL_cheques_168 : decode cL_cheques 168 = .ok (.iconst (-1), 1) := by decide +kernel
theorem dL_cheques_169 : decode cL_cheques 169 = .ok (.if_icmp .ne 20, 3) := by decide +kernel
theorem dL_cheques_172 : decode cL_cheques 172 = .ok (.aload_n 0, 1) := by decide +kernel
theorem dL_cheques_173 : decode cL_cheques 173 = .ok (.iconst 1, 1) := by decide +kernel
theorem dL_cheques_174 : decode cL_cheques 174 = .ok (.invokevirtual 56, 3) := by decide +kernel
theorem dL_cheques_177 : decode cL_cheques 177 = .ok (.bipush 17, 2) := by decide +kernel
theorem dL_cheques_179 : decode cL_cheques 179 = .ok (.if_icmp .ne 10, 3) := by decide +kernel
theorem dL_cheques_182 : decode cL_cheques 182 = .ok (.aload_n 0, 1) := by decide +kernel
theorem dL_cheques_183 : decode cL_cheques 183 = .ok (.invokestatic 122, 3) := by decide +kernel
theorem dL_cheques_186 : decode cL_cheques 186 = .ok (.ifCond .ne 5, 3) := by decide +kernel
theorem dL_cheques_189 : decode cL_cheques 189 = .ok (.iconst 0, 1) := by decide +kernel
theorem dL_cheques_190 : decode cL_cheques 190 = .ok (.ireturn, 1) := by decide +kernel
theorem dL_cheques_191 : decode cL_cheques 191 = .ok (.aload_n 0, 1) := by decide +kernel
theorem dL_cheques_192 : decode cL_cheques 192 = .ok (.bipush 100, 2) := by decide +kernel
theorem dL_cheques_194 : decode cL_cheques 194 = .ok (.sipush 250, 3) := by decide +kernel
theorem dL_cheques_197 : decode cL_cheques 197 = .ok (.invokevirtual 22, 3) := by decide +kernel
theorem dL_cheques_200 : decode cL_cheques 200 = .ok (.iconst 4, 1) := by decide +kernel
theorem dL_cheques_201 : decode cL_cheques 201 = .ok (.if_icmp .ne 258, 3) := by decide +kernel
theorem dL_cheques_204 : decode cL_cheques 204 = .ok (.aload_n 0, 1) := by decide +kernel
theorem dL_cheques_205 : decode cL_cheques 205 = .ok (.iconst 3, 1) := by decide +kernel
theorem dL_cheques_206 : decode cL_cheques 206 = .ok (.bipush 100, 2) := by decide +kernel
theorem dL_cheques_208 : decode cL_cheques 208 = .ok (.iconst 1, 1) := by decide +kernel
theorem dL_cheques_209 : decode cL_cheques 209 = .ok (.iconst 0, 1) := by decide +kernel
theorem dL_cheques_210 : decode cL_cheques 210 = .ok (.invokestatic 103, 3) := by decide +kernel
theorem dL_cheques_213 : decode cL_cheques 213 = .ok (.bipush (-13), 2) := by decide +kernel
theorem dL_cheques_215 : decode cL_cheques 215 = .ok (.if_icmp .ne 244, 3) := by decide +kernel
theorem dL_cheques_218 : decode cL_cheques 218 = .ok (.aload_n 0, 1) := by decide +kernel
theorem dL_cheques_219 : decode cL_cheques 219 = .ok (.iconst 3, 1) := by decide +kernel
theorem dL_cheques_220 : decode cL_cheques 220 = .ok (.bipush 89, 2) := by decide +kernel
theorem dL_cheques_222 : decode cL_cheques 222 = .ok (.iconst 5, 1) := by decide +kernel
theorem dL_cheques_223 : decode cL_cheques 223 = .ok (.iconst 0, 1) := by decide +kernel
theorem dL_cheques_224 : decode cL_cheques 224 = .ok (.invokestatic 103, 3) := by decide +kernel
theorem dL_cheques_227 : decode cL_cheques 227 = .ok (.bipush (-11), 2) := by decide +kernel
theorem dL_cheques_229 : decode cL_cheques 229 = .ok (.if_icmp .ne 230, 3) := by decide +kernel
theorem dL_cheques_232 : decode cL_cheques 232 = .ok (.aload_n 0, 1) := by decide +kernel
theorem dL_cheques_233 : decode cL_cheques 233 = .ok (.bipush 6, 2) := by decide +kernel
theorem dL_cheques_235 : decode cL_cheques 235 = .ok (.invokevirtual 56, 3) := by decide +kernel
theorem dL_cheques_238 : decode cL_cheques 238 = .ok (.sipush 250, 3) := by decide +kernel
theorem dL_cheques_241 : decode cL_cheques 241 = .ok (.if_icmp .ne 218, 3) := by decide +kernel
theorem dL_cheques_244 : decode cL_cheques 244 = .ok (.aload_n 0, 1) := by decide +kernel
theorem dL_cheques_245 : decode cL_cheques 245 = .ok (.iconst 0, 1) := by decide +kernel
theorem dL_cheques_246 : decode cL_cheques 246 = .ok (.invokevirtual 41, 3) := by decide +kernel
theorem dL_cheques_249 : decode cL_cheques 249 = .ok (.iconst 4, 1) := by decide +kernel
theorem dL_cheques_250 : decode cL_cheques 250 = .ok (.if_icmp .ne 209, 3) := by decide +kernel
theorem dL_cheques_253 : decode cL_cheques 253 = .ok (.aload_n 0, 1) := by decide +kernel
theorem dL_cheques_254 : decode cL_cheques 254 = .ok (.bipush 100, 2) := by decide +kernel
theorem dL_cheques_256 : decode cL_cheques 256 = .ok (.iconst 5, 1) := by decide +kernel
theorem dL_cheques_257 : decode cL_cheques 257 = .ok (.invokevirtual 25, 3) := by decide +kernel
theorem dL_cheques_260 : decode cL_cheques 260 = .ok (.iconst (-1), 1) := by decide +kernel
theorem dL_cheques_261 : decode cL_cheques 261 = .ok (.if_icmp .ne 198, 3) := by decide +kernel
theorem dL_cheques_264 : decode cL_cheques 264 = .ok (.aload_n 0, 1) := by decide +kernel
theorem dL_cheques_265 : decode cL_cheques 265 = .ok (.bipush 89, 2) := by decide +kernel
theorem dL_cheques_267 : decode cL_cheques 267 = .ok (.bipush 6, 2) := by decide +kernel
theorem dL_cheques_269 : decode cL_cheques 269 = .ok (.invokevirtual 25, 3) := by decide +kernel
theorem dL_cheques_272 : decode cL_cheques 272 = .ok (.bipush (-2), 2) := by decide +kernel
theorem dL_cheques_274 : decode cL_cheques 274 = .ok (.if_icmp .ne 185, 3) := by decide +kernel
theorem dL_cheques_277 : decode cL_cheques 277 = .ok (.aload_n 0, 1) := by decide +kernel
theorem dL_cheques_278 : decode cL_cheques 278 = .ok (.bipush 101, 2) := by decide +kernel
theorem dL_cheques_280 : decode cL_cheques 280 = .ok (.bipush 10, 2) := by decide +kernel
theorem dL_cheques_282 : decode cL_cheques 282 = .ok (.invokevirtual 25, 3) := by decide +kernel
theorem dL_cheques_285 : decode cL_cheques 285 = .ok (.bipush (-3), 2) := by decide +kernel
theorem dL_cheques_287 : decode cL_cheques 287 = .ok (.if_icmp .ne 172, 3) := by decide +kernel
theorem dL_cheques_290 : decode cL_cheques 290 = .ok (.aload_n 0, 1) := by decide +kernel
theorem dL_cheques_291 : decode cL_cheques 291 = .ok (.bipush 100, 2) := by decide +kernel
theorem dL_cheques_293 : decode cL_cheques 293 = .ok (.iconst 4, 1) := by decide +kernel
theorem dL_cheques_294 : decode cL_cheques 294 = .ok (.invokevirtual 25, 3) := by decide +kernel
theorem dL_cheques_297 : decode cL_cheques 297 = .ok (.sipush 250, 3) := by decide +kernel
theorem dL_cheques_300 : decode cL_cheques 300 = .ok (.if_icmp .ne 159, 3) := by decide +kernel
theorem dL_cheques_303 : decode cL_cheques 303 = .ok (.aload_n 0, 1) := by decide +kernel
theorem dL_cheques_304 : decode cL_cheques 304 = .ok (.bipush 100, 2) := by decide +kernel
theorem dL_cheques_306 : decode cL_cheques 306 = .ok (.iconst 4, 1) := by decide +kernel
theorem dL_cheques_307 : decode cL_cheques 307 = .ok (.invokevirtual 25, 3) := by decide +kernel
theorem dL_cheques_310 : decode cL_cheques 310 = .ok (.bipush (-3), 2) := by decide +kernel
theorem dL_cheques_312 : decode cL_cheques 312 = .ok (.if_icmp .ne 147, 3) := by decide +kernel
theorem dL_cheques_315 : decode cL_cheques 315 = .ok (.aload_n 0, 1) := by decide +kernel
theorem dL_cheques_316 : decode cL_cheques 316 = .ok (.bipush 8, 2) := by decide +kernel
theorem dL_cheques_318 : decode cL_cheques 318 = .ok (.invokevirtual 56, 3) := by decide +kernel
theorem dL_cheques_321 : decode cL_cheques 321 = .ok (.iconst 4, 1) := by decide +kernel
theorem dL_cheques_322 : decode cL_cheques 322 = .ok (.if_icmp .ne 137, 3) := by decide +kernel
theorem dL_cheques_325 : decode cL_cheques 325 = .ok (.aload_n 0, 1) := by decide +kernel
theorem dL_cheques_326 : decode cL_cheques 326 = .ok (.bipush 7, 2) := by decide +kernel
theorem dL_cheques_328 : decode cL_cheques 328 = .ok (.invokevirtual 56, 3) := by decide +kernel
theorem dL_cheques_331 : decode cL_cheques 331 = .ok (.sipush 250, 3) := by decide +kernel
theorem dL_cheques_334 : decode cL_cheques 334 = .ok (.if_icmp .ne 125, 3) := by decide +kernel
theorem dL_cheques_337 : decode cL_cheques 337 = .ok (.aload_n 0, 1) := by decide +kernel
theorem dL_cheques_338 : decode cL_cheques 338 = .ok (.bipush 6, 2) := by decide +kernel
theorem dL_cheques_340 : decode cL_cheques 340 = .ok (.invokevirtual 56, 3) := by decide +kernel
theorem dL_cheques_343 : decode cL_cheques 343 = .ok (.ifCond .ne 116, 3) := by decide +kernel
theorem dL_cheques_346 : decode cL_cheques 346 = .ok (.aload_n 0, 1) := by decide +kernel
theorem dL_cheques_347 : decode cL_cheques 347 = .ok (.iconst 4, 1) := by decide +kernel
theorem dL_cheques_348 : decode cL_cheques 348 = .ok (.invokevirtual 56, 3) := by decide +kernel
theorem dL_cheques_351 : decode cL_cheques 351 = .ok (.iconst 1, 1) := by decide +kernel
theorem dL_cheques_352 : decode cL_cheques 352 = .ok (.if_icmp .ne 107, 3) := by decide +kernel
theorem dL_cheques_355 : decode cL_cheques 355 = .ok (.aload_n 0, 1) := by decide +kernel
theorem dL_cheques_356 : decode cL_cheques 356 = .ok (.bipush 100, 2) := by decide +kernel
theorem dL_cheques_358 : decode cL_cheques 358 = .ok (.iconst 0, 1) := by decide +kernel
theorem dL_cheques_359 : decode cL_cheques 359 = .ok (.invokevirtual 50, 3) := by decide +kernel
theorem dL_cheques_362 : decode cL_cheques 362 = .ok (.iconst 2, 1) := by decide +kernel
theorem dL_cheques_363 : decode cL_cheques 363 = .ok (.if_icmp .ne 96, 3) := by decide +kernel
theorem dL_cheques_366 : decode cL_cheques 366 = .ok (.aload_n 0, 1) := by decide +kernel
theorem dL_cheques_367 : decode cL_cheques 367 = .ok (.bipush 100, 2) := by decide +kernel
theorem dL_cheques_369 : decode cL_cheques 369 = .ok (.iconst 1, 1) := by decide +kernel
theorem dL_cheques_370 : decode cL_cheques 370 = .ok (.invokevirtual 50, 3) := by decide +kernel
theorem dL_cheques_373 : decode cL_cheques 373 = .ok (.sipush 250, 3) := by decide +kernel
theorem dL_cheques_376 : decode cL_cheques 376 = .ok (.if_icmp .ne 83, 3) := by decide +kernel
theorem dL_cheques_379 : decode cL_cheques 379 = .ok (.aload_n 0, 1) := by decide +kernel
theorem dL_cheques_380 : decode cL_cheques 380 = .ok (.bipush 101, 2) := by decide +kernel
theorem dL_cheques_382 : decode cL_cheques 382 = .ok (.iconst 4, 1) := by decide +kernel
theorem dL_cheques_383 : decode cL_cheques 383 = .ok (.invokevirtual 50, 3) := by decide +kernel
theorem dL_cheques_386 : decode cL_cheques 386 = .ok (.iconst 4, 1) := by decide +kernel
theorem dL_cheques_387 : decode cL_cheques 387 = .ok (.if_icmp .ne 72, 3) := by decide +kernel
theorem dL_cheques_390 : decode cL_cheques 390 = .ok (.aload_n 0, 1) := by decide +kernel
theorem dL_cheques_391 : decode cL_cheques 391 = .ok (.bipush 100, 2) := by decide +kernel
theorem dL_cheques_393 : decode cL_cheques 393 = .ok (.iconst 4, 1) := by decide +kernel
theorem dL_cheques_394 : decode cL_cheques 394 = .ok (.invokevirtual 50, 3) := by decide +kernel
theorem dL_cheques_397 : decode cL_cheques 397 = .ok (.iconst 1, 1) := by decide +kernel
theorem dL_cheques_398 : decode cL_cheques 398 = .ok (.if_icmp .ne 61, 3) := by decide +kernel
theorem dL_cheques_401 : decode cL_cheques 401 = .ok (.aload_n 0, 1) := by decide +kernel
theorem dL_cheques_402 : decode cL_cheques 402 = .ok (.bipush 99, 2) := by decide +kernel
theorem dL_cheques_404 : decode cL_cheques 404 = .ok (.iconst 3, 1) := by decide +kernel
theorem dL_cheques_405 : decode cL_cheques 405 = .ok (.invokevirtual 50, 3) := by decide +kernel
theorem dL_cheques_408 : decode cL_cheques 408 = .ok (.bipush 9, 2) := by decide +kernel
theorem dL_cheques_410 : decode cL_cheques 410 = .ok (.if_icmp .ne 49, 3) := by decide +kernel
theorem dL_cheques_413 : decode cL_cheques 413 = .ok (.aload_n 0, 1) := by decide +kernel
theorem dL_cheques_414 : decode cL_cheques 414 = .ok (.bipush 99, 2) := by decide +kernel
theorem dL_cheques_416 : decode cL_cheques 416 = .ok (.iconst 4, 1) := by decide +kernel
theorem dL_cheques_417 : decode cL_cheques 417 = .ok (.invokevirtual 50, 3) := by decide +kernel
theorem dL_cheques_420 : decode cL_cheques 420 = .ok (.iconst 1, 1) := by decide +kernel
theorem dL_cheques_421 : decode cL_cheques 421 = .ok (.if_icmp .ne 38, 3) := by decide +kernel
theorem dL_cheques_424 : decode cL_cheques 424 = .ok (.aload_n 0, 1) := by decide +kernel
theorem dL_cheques_425 : decode cL_cheques 425 = .ok (.iconst 0, 1) := by decide +kernel
theorem dL_cheques_426 : decode cL_cheques 426 = .ok (.bipush 8, 2) := by decide +kernel
theorem dL_cheques_428 : decode cL_cheques 428 = .ok (.invokevirtual 53, 3) := by decide +kernel
theorem dL_cheques_431 : decode cL_cheques 431 = .ok (.bipush 101, 2) := by decide +kernel
theorem dL_cheques_433 : decode cL_cheques 433 = .ok (.if_icmp .ne 26, 3) := by decide +kernel
theorem dL_cheques_436 : decode cL_cheques 436 = .ok (.aload_n 0, 1) := by decide +kernel
theorem dL_cheques_437 : decode cL_cheques 437 = .ok (.iconst 0, 1) := by decide +kernel
theorem dL_cheques_438 : decode cL_cheques 438 = .ok (.iconst 4, 1) := by decide +kernel
theorem dL_cheques_439 : decode cL_cheques 439 = .ok (.invokevirtual 53, 3) := by decide +kernel
theorem dL_cheques_442 : decode cL_cheques 442 = .ok (.iconst 1, 1) := by decide +kernel
theorem dL_cheques_443 : decode cL_cheques 443 = .ok (.if_icmp .ne 16, 3) := by decide +kernel
theorem dL_cheques_446 : decode cL_cheques 446 = .ok (.aload_n 0, 1) := by decide +kernel
theorem dL_cheques_447 : decode cL_cheques 447 = .ok (.iconst 0, 1) := by decide +kernel
theorem dL_cheques_448 : decode cL_cheques 448 = .ok (.bipush 7, 2) := by decide +kernel
theorem dL_cheques_450 : decode cL_cheques 450 = .ok (.invokevirtual 53, 3) := by decide +kernel
theorem dL_cheques_453 : decode cL_cheques 453 = .ok (.sipush 250, 3) := by decide +kernel
theorem dL_cheques_456 : decode cL_cheques 456 = .ok (.if_icmp .eq 5, 3) := by decide +kernel
theorem dL_cheques_459 : decode cL_cheques 459 = .ok (.iconst 0, 1) := by decide +kernel
theorem dL_cheques_460 : decode cL_cheques 460 = .ok (.ireturn, 1) := by decide +kernel
theorem dL_cheques_461 : decode cL_cheques 461 = .ok (.aload_n 0, 1) := by decide +kernel
theorem dL_cheques_462 : decode cL_cheques 462 = .ok (.bipush 100, 2) := by decide +kernel
theorem dL_cheques_464 : decode cL_cheques 464 = .ok (.iconst 4, 1) := by decide +kernel
theorem dL_cheques_465 : decode cL_cheques 465 = .ok (.iconst (-1), 1) := by decide +kernel
theorem dL_cheques_466 : decode cL_cheques 466 = .ok (.invokevirtual 72, 3) := by decide +kernel
theorem dL_cheques_469 : decode cL_cheques 469 = .ok (.iconst 1, 1) := by decide +kernel
theorem dL_cheques_470 : decode cL_cheques 470 = .ok (.if_icmp .ne 116, 3) := by decide +kernel
theorem dL_cheques_473 : decode cL_cheques 473 = .ok (.aload_n 0, 1) := by decide +kernel
theorem dL_cheques_474 : decode cL_cheques 474 = .ok (.bipush 100, 2) := by decide +kernel
theorem dL_cheques_476 : decode cL_cheques 476 = .ok (.iconst 4, 1) := by decide +kernel
theorem dL_cheques_477 : decode cL_cheques 477 = .ok (.iconst 0, 1) := by decide +kernel
theorem dL_cheques_478 : decode cL_cheques 478 = .ok (.invokevirtual 72, 3) := by decide +kernel
theorem dL_cheques_481 : decode cL_cheques 481 = .ok (.bipush 100, 2) := by decide +kernel
theorem dL_cheques_483 : decode cL_cheques 483 = .ok (.if_icmp .ne 103, 3) := by decide +kernel
theorem dL_cheques_486 : decode cL_cheques 486 = .ok (.aload_n 0, 1) := by decide +kernel
theorem dL_cheques_487 : decode cL_cheques 487 = .ok (.bipush 100, 2) := by decide +kernel
theorem dL_cheques_489 : decode cL_cheques 489 = .ok (.iconst 5, 1) := by decide +kernel
theorem dL_cheques_490 : decode cL_cheques 490 = .ok (.iconst (-1), 1) := by decide +kernel
theorem dL_cheques_491 : decode cL_cheques 491 = .ok (.invokevirtual 72, 3) := by decide +kernel
theorem dL_cheques_494 : decode cL_cheques 494 = .ok (.iconst 2, 1) := by decide +kernel
theorem dL_cheques_495 : decode cL_cheques 495 = .ok (.if_icmp .ne 91, 3) := by decide +kernel
theorem dL_cheques_498 : decode cL_cheques 498 = .ok (.aload_n 0, 1) := by decide +kernel
theorem dL_cheques_499 : decode cL_cheques 499 = .ok (.bipush 100, 2) := by decide +kernel
theorem dL_cheques_501 : decode cL_cheques 501 = .ok (.iconst 5, 1) := by decide +kernel
theorem dL_cheques_502 : decode cL_cheques 502 = .ok (.iconst 0, 1) := by decide +kernel
theorem dL_cheques_503 : decode cL_cheques 503 = .ok (.invokevirtual 72, 3) := by decide +kernel
theorem dL_cheques_506 : decode cL_cheques 506 = .ok (.bipush 100, 2) := by decide +kernel
theorem dL_cheques_508 : decode cL_cheques 508 = .ok (.if_icmp .ne 78, 3) := by decide +kernel
theorem dL_cheques_511 : decode cL_cheques 511 = .ok (.aload_n 0, 1) := by decide +kernel
theorem dL_cheques_512 : decode cL_cheques 512 = .ok (.bipush 100, 2) := by decide +kernel
theorem dL_cheques_514 : decode cL_cheques 514 = .ok (.iconst 5, 1) := by decide +kernel
theorem dL_cheques_515 : decode cL_cheques 515 = .ok (.iconst 1, 1) := by decide +kernel
theorem dL_cheques_516 : decode cL_cheques 516 = .ok (.invokevirtual 72, 3) := by decide +kernel
theorem dL_cheques_519 : decode cL_cheques 519 = .ok (.bipush 102, 2) := by decide +kernel
theorem dL_cheques_521 : decode cL_cheques 521 = .ok (.if_icmp .ne 65, 3) := by decide +kernel
theorem dL_cheques_524 : decode cL_cheques 524 = .ok (.aload_n 0, 1) := by decide +kernel
theorem dL_cheques_525 : decode cL_cheques 525 = .ok (.bipush 100, 2) := by decide +kernel
theorem dL_cheques_527 : decode cL_cheques 527 = .ok (.iconst 5, 1) := by decide +kernel
theorem dL_cheques_528 : decode cL_cheques 528 = .ok (.iconst 2, 1) := by decide +kernel
theorem dL_cheques_529 : decode cL_cheques 529 = .ok (.invokevirtual 72, 3) := by decide +kernel
theorem dL_cheques_532 : decode cL_cheques 532 = .ok (.iconst (-1), 1) := by decide +kernel
theorem dL_cheques_533 : decode cL_cheques 533 = .ok (.if_icmp .ne 53, 3) := by decide +kernel
theorem dL_cheques_536 : decode cL_cheques 536 = .ok (.aload_n 0, 1) := by decide +kernel
theorem dL_cheques_537 : decode cL_cheques 537 = .ok (.bipush 9, 2) := by decide +kernel
theorem dL_cheques_539 : decode cL_cheques 539 = .ok (.iconst 1, 1) := by decide +kernel
theorem dL_cheques_540 : decode cL_cheques 540 = .ok (.iconst (-1), 1) := by decide +kernel
theorem dL_cheques_541 : decode cL_cheques 541 = .ok (.invokevirtual 72, 3) := by decide +kernel
theorem dL_cheques_544 : decode cL_cheques 544 = .ok (.iconst 1, 1) := by decide +kernel
theorem dL_cheques_545 : decode cL_cheques 545 = .ok (.if_icmp .ne 41, 3) := by decide +kernel
theorem dL_cheques_548 : decode cL_cheques 548 = .ok (.aload_n 0, 1) := by decide +kernel
theorem dL_cheques_549 : decode cL_cheques 549 = .ok (.bipush 9, 2) := by decide +kernel
theorem dL_cheques_551 : decode cL_cheques 551 = .ok (.iconst 1, 1) := by decide +kernel
theorem dL_cheques_552 : decode cL_cheques 552 = .ok (.iconst 0, 1) := by decide +kernel
theorem dL_cheques_553 : decode cL_cheques 553 = .ok (.invokevirtual 72, 3) := by decide +kernel
theorem dL_cheques_556 : decode cL_cheques 556 = .ok (.bipush 90, 2) := by decide +kernel
theorem dL_cheques_558 : decode cL_cheques 558 = .ok (.if_icmp .ne 28, 3) := by decide +kernel
theorem dL_cheques_561 : decode cL_cheques 561 = .ok (.aload_n 0, 1) := by decide +kernel
theorem dL_cheques_562 : decode cL_cheques 562 = .ok (.bipush 100, 2) := by decide +kernel
theorem dL_cheques_564 : decode cL_cheques 564 = .ok (.bipush 11, 2) := by decide +kernel
theorem dL_cheques_566 : decode cL_cheques 566 = .ok (.iconst (-1), 1) := by decide +kernel
theorem dL_cheques_567 : decode cL_cheques 567 = .ok (.invokevirtual 72, 3) := by decide +kernel
theorem dL_cheques_570 : decode cL_cheques 570 = .ok (.ifCond .ne 16, 3) := by decide +kernel
theorem dL_cheques_573 : decode cL_cheques 573 = .ok (.aload_n 0, 1) := by decide +kernel
theorem dL_cheques_574 : decode cL_cheques 574 = .ok (.bipush 100, 2) := by decide +kernel
theorem dL_cheques_576 : decode cL_cheques 576 = .ok (.bipush 25, 2) := by decide +kernel
theorem dL_cheques_578 : decode cL_cheques 578 = .ok (.iconst 0, 1) := by decide +kernel
theorem dL_cheques_579 : decode cL_cheques 579 = .ok (.invokevirtual 72, 3) := by decide +kernel
theorem dL_cheques_582 : decode cL_cheques 582 = .ok (.iconst (-1), 1) := by decide +kernel
theorem dL_cheques_583 : decode cL_cheques 583 = .ok (.if_icmp .eq 5, 3) := by decide +kernel
theorem dL_cheques_586 : decode cL_cheques 586 = .ok (.iconst 0, 1) := by decide +kernel
theorem dL_cheques_587 : decode cL_cheques 587 = .ok (.ireturn, 1) := by decide +kernel
theorem dL_cheques_588 : decode cL_cheques 588 = .ok (.aload_n 0, 1) := by decide +kernel
theorem dL_cheques_589 : decode cL_cheques 589 = .ok (.bipush 98, 2) := by decide +kernel
theorem dL_cheques_591 : decode cL_cheques 591 = .ok (.bipush 102, 2) := by decide +kernel
theorem dL_cheques_593 : decode cL_cheques 593 = .ok (.invokevirtual 28, 3) := by decide +kernel
theorem dL_cheques_596 : decode cL_cheques 596 = .ok (.iconst 4, 1) := by decide +kernel
theorem dL_cheques_597 : decode cL_cheques 597 = .ok (.if_icmp .ne 167, 3) := by decide +kernel
theorem dL_cheques_600 : decode cL_cheques 600 = .ok (.aload_n 0, 1) := by decide +kernel
theorem dL_cheques_601 : decode cL_cheques 601 = .ok (.bipush 101, 2) := by decide +kernel
theorem dL_cheques_603 : decode cL_cheques 603 = .ok (.iconst 4, 1) := by decide +kernel
theorem dL_cheques_604 : decode cL_cheques 604 = .ok (.invokevirtual 50, 3) := by decide +kernel
theorem dL_cheques_607 : decode cL_cheques 607 = .ok (.iconst 2, 1) := by decide +kernel
theorem dL_cheques_608 : decode cL_cheques 608 = .ok (.if_icmp .ne 156, 3) := by decide +kernel
theorem dL_cheques_611 : decode cL_cheques 611 = .ok (.aload_n 0, 1) := by decide +kernel
theorem dL_cheques_612 : decode cL_cheques 612 = .ok (.bipush 98, 2) := by decide +kernel
theorem dL_cheques_614 : decode cL_cheques 614 = .ok (.iconst 0, 1) := by decide +kernel
theorem dL_cheques_615 : decode cL_cheques 615 = .ok (.invokevirtual 50, 3) := by decide +kernel
theorem dL_cheques_618 : decode cL_cheques 618 = .ok (.iconst 3, 1) := by decide +kernel
theorem dL_cheques_619 : decode cL_cheques 619 = .ok (.if_icmp .ne 145, 3) := by decide +kernel
theorem dL_cheques_622 : decode cL_cheques 622 = .ok (.aload_n 0, 1) := by decide +kernel
theorem dL_cheques_623 : decode cL_cheques 623 = .ok (.iconst 5, 1) := by decide +kernel
theorem dL_cheques_624 : decode cL_cheques 624 = .ok (.invokevirtual 56, 3) := by decide +kernel
theorem dL_cheques_627 : decode cL_cheques 627 = .ok (.iconst 4, 1) := by decide +kernel
theorem dL_cheques_628 : decode cL_cheques 628 = .ok (.if_icmp .ne 136, 3) := by decide +kernel
theorem dL_cheques_631 : decode cL_cheques 631 = .ok (.aload_n 0, 1) := by decide +kernel
theorem dL_cheques_632 : decode cL_cheques 632 = .ok (.bipush 98, 2) := by decide +kernel
theorem dL_cheques_634 : decode cL_cheques 634 = .ok (.bipush 102, 2) := by decide +kernel
theorem dL_cheques_636 : decode cL_cheques 636 = .ok (.invokevirtual 28, 3) := by decide +kernel
theorem dL_cheques_639 : decode cL_cheques 639 = .ok (.ifCond .ne 125, 3) := by decide +kernel
theorem dL_cheques_642 : decode cL_cheques 642 = .ok (.aload_n 0, 1) := by decide +kernel
theorem dL_cheques_643 : decode cL_cheques 643 = .ok (.invokevirtual 118, 3) := by decide +kernel
theorem dL_cheques_646 : decode cL_cheques 646 = .ok (.ldc2_w 127, 3) := by decide +kernel
theorem dL_cheques_649 : decode cL_cheques 649 = .ok (.dcmp .l, 1) := by decide +kernel
theorem dL_cheques_650 : decode cL_cheques 650 = .ok (.ifCond .ne 114, 3) := by decide +kernel
theorem dL_cheques_653 : decode cL_cheques 653 = .ok (.aload_n 0, 1) := by decide +kernel
theorem dL_cheques_654 : decode cL_cheques 654 = .ok (.iconst 3, 1) := by decide +kernel
theorem dL_cheques_655 : decode cL_cheques 655 = .ok (.bipush 101, 2) := by decide +kernel
theorem dL_cheques_657 : decode cL_cheques 657 = .ok (.iconst 5, 1) := by decide +kernel
theorem dL_cheques_658 : decode cL_cheques 658 = .ok (.iconst 0, 1) := by decide +kernel
theorem dL_cheques_659 : decode cL_cheques 659 = .ok (.invokestatic 103, 3) := by decide +kernel
theorem dL_cheques_662 : decode cL_cheques 662 = .ok (.bipush (-13), 2) := by decide +kernel
theorem dL_cheques_664 : decode cL_cheques 664 = .ok (.if_icmp .ne 100, 3) := by decide +kernel
theorem dL_cheques_667 : decode cL_cheques 667 = .ok (.aload_n 0, 1) := by decide +kernel
theorem dL_cheques_668 : decode cL_cheques 668 = .ok (.bipush 103, 2) := by decide +kernel
theorem dL_cheques_670 : decode cL_cheques 670 = .ok (.bipush 9, 2) := by decide +kernel
theorem dL_cheques_672 : decode cL_cheques 672 = .ok (.invokevirtual 22, 3) := by decide +kernel
theorem dL_cheques_675 : decode cL_cheques 675 = .ok (.ifCond .ne 89, 3) := by decide +kernel
theorem dL_cheques_678 : decode cL_cheques 678 = .ok (.aload_n 0, 1) := by decide +kernel
theorem dL_cheques_679 : decode cL_cheques 679 = .ok (.bipush 103, 2) := by decide +kernel
theorem dL_cheques_681 : decode cL_cheques 681 = .ok (.bipush 103, 2) := by decide +kernel
theorem dL_cheques_683 : decode cL_cheques 683 = .ok (.invokevirtual 28, 3) := by decide +kernel
theorem dL_cheques_686 : decode cL_cheques 686 = .ok (.iconst 1, 1) := by decide +kernel
theorem dL_cheques_687 : decode cL_cheques 687 = .ok (.if_icmp .ne 77, 3) := by decide +kernel
theorem dL_cheques_690 : decode cL_cheques 690 = .ok (.aload_n 0, 1) := by decide +kernel
theorem dL_cheques_691 : decode cL_cheques 691 = .ok (.bipush 103, 2) := by decide +kernel
theorem dL_cheques_693 : decode cL_cheques 693 = .ok (.iconst 1, 1) := by decide +kernel
theorem dL_cheques_694 : decode cL_cheques 694 = .ok (.invokevirtual 50, 3) := by decide +kernel
theorem dL_cheques_697 : decode cL_cheques 697 = .ok (.ifCond .ne 67, 3) := by decide +kernel
theorem dL_cheques_700 : decode cL_cheques 700 = .ok (.aload_n 0, 1) := by decide +kernel
theorem dL_cheques_701 : decode cL_cheques 701 = .ok (.bipush 103, 2) := by decide +kernel
theorem dL_cheques_703 : decode cL_cheques 703 = .ok (.iconst 0, 1) := by decide +kernel
theorem dL_cheques_704 : decode cL_cheques 704 = .ok (.invokevirtual 25, 3) := by decide +kernel
theorem dL_cheques_707 : decode cL_cheques 707 = .ok (.bipush (-3), 2) := by decide +kernel
theorem dL_cheques_709 : decode cL_cheques 709 = .ok (.if_icmp .ne 55, 3) := by decide +kernel
theorem dL_cheques_712 : decode cL_cheques 712 = .ok (.aload_n 0, 1) := by decide +kernel
theorem dL_cheques_713 : decode cL_cheques 713 = .ok (.iconst 0, 1) := by decide +kernel
theorem dL_cheques_714 : decode cL_cheques 714 = .ok (.bipush 8, 2) := by decide +kernel
theorem dL_cheques_716 : decode cL_cheques 716 = .ok (.invokevirtual 53, 3) := by decide +kernel
theorem dL_cheques_719 : decode cL_cheques 719 = .ok (.bipush 104, 2) := by decide +kernel
theorem dL_cheques_721 : decode cL_cheques 721 = .ok (.if_icmp .ne 43, 3) := by decide +kernel
theorem dL_cheques_724 : decode cL_cheques 724 = .ok (.aload_n 0, 1) := by decide +kernel
theorem dL_cheques_725 : decode cL_cheques 725 = .ok (.bipush 104, 2) := by decide +kernel
theorem dL_cheques_727 : decode cL_cheques 727 = .ok (.bipush 104, 2) := by decide +kernel
theorem dL_cheques_729 : decode cL_cheques 729 = .ok (.invokevirtual 28, 3) := by decide +kernel
theorem dL_cheques_732 : decode cL_cheques 732 = .ok (.iconst 1, 1) := by decide +kernel
theorem dL_cheques_733 : decode cL_cheques 733 = .ok (.if_icmp .ne 31, 3) := by decide +kernel
theorem dL_cheques_736 : decode cL_cheques 736 = .ok (.aload_n 0, 1) := by decide +kernel
theorem dL_cheques_737 : decode cL_cheques 737 = .ok (.iconst 0, 1) := by decide +kernel
theorem dL_cheques_738 : decode cL_cheques 738 = .ok (.bipush 8, 2) := by decide +kernel
theorem dL_cheques_740 : decode cL_cheques 740 = .ok (.invokevirtual 53, 3) := by decide +kernel
theorem dL_cheques_743 : decode cL_cheques 743 = .ok (.iconst (-1), 1) := by decide +kernel
theorem dL_cheques_744 : decode cL_cheques 744 = .ok (.if_icmp .ne 20, 3) := by decide +kernel
theorem dL_cheques_747 : decode cL_cheques 747 = .ok (.aload_n 0, 1) := by decide +kernel
theorem dL_cheques_748 : decode cL_cheques 748 = .ok (.iconst 0, 1) := by decide +kernel
theorem dL_cheques_749 : decode cL_cheques 749 = .ok (.iconst 5, 1) := by decide +kernel
theorem dL_cheques_750 : decode cL_cheques 750 = .ok (.invokevirtual 53, 3) := by decide +kernel
theorem dL_cheques_753 : decode cL_cheques 753 = .ok (.iconst 4, 1) := by decide +kernel
theorem dL_cheques_754 : decode cL_cheques 754 = .ok (.if_icmp .ne 10, 3) := by decide +kernel
theorem dL_cheques_757 : decode cL_cheques 757 = .ok (.aload_n 0, 1) := by decide +kernel
theorem dL_cheques_758 : decode cL_cheques 758 = .ok (.invokestatic 122, 3) := by decide +kernel
theorem dL_cheques_761 : decode cL_cheques 761 = .ok (.ifCond .ne 5, 3) := by decide +kernel
theorem dL_cheques_764 : decode cL_cheques 764 = .ok (.iconst 0, 1) := by decide +kernel
theorem dL_cheques_765 : decode cL_cheques 765 = .ok (.ireturn, 1) := by decide +kernel
theorem dL_cheques_766 : decode cL_cheques 766 = .ok (.aload_n 0, 1) := by decide +kernel
theorem dL_cheques_767 : decode cL_cheques 767 = .ok (.iconst 0, 1) := by decide +kernel
theorem dL_cheques_768 : decode cL_cheques 768 = .ok (.bipush 40, 2) := by decide +kernel
theorem dL_cheques_770 : decode cL_cheques 770 = .ok (.invokevirtual 19, 3) := by decide +kernel
theorem dL_cheques_773 : decode cL_cheques 773 = .ok (.iconst 4, 1) := by decide +kernel
theorem dL_cheques_774 : decode cL_cheques 774 = .ok (.if_icmp .ne 122, 3) := by decide +kernel
theorem dL_cheques_777 : decode cL_cheques 777 = .ok (.aload_n 0, 1) := by decide +kernel
theorem dL_cheques_778 : decode cL_cheques 778 = .ok (.bipush 40, 2) := by decide +kernel
theorem dL_cheques_780 : decode cL_cheques 780 = .ok (.bipush 40, 2) := by decide +kernel
theorem dL_cheques_782 : decode cL_cheques 782 = .ok (.invokevirtual 19, 3) := by decide +kernel
theorem dL_cheques_785 : decode cL_cheques 785 = .ok (.iconst 5, 1) := by decide +kernel
theorem dL_cheques_786 : decode cL_cheques 786 = .ok (.if_icmp .ne 110, 3) := by decide +kernel
theorem dL_cheques_789 : decode cL_cheques 789 = .ok (.aload_n 0, 1) := by decide +kernel
theorem dL_cheques_790 : decode cL_cheques 790 = .ok (.iconst 2, 1) := by decide +kernel
theorem dL_cheques_791 : decode cL_cheques 791 = .ok (.sipush 500, 3) := by decide +kernel
theorem dL_cheques_794 : decode cL_cheques 794 = .ok (.iconst 1, 1) := by decide +kernel
theorem dL_cheques_795 : decode cL_cheques 795 = .ok (.iconst 0, 1) := by decide +kernel
theorem dL_cheques_796 : decode cL_cheques 796 = .ok (.invokestatic 103, 3) := by decide +kernel
theorem dL_cheques_799 : decode cL_cheques 799 = .ok (.bipush (-13), 2) := by decide +kernel
theorem dL_cheques_801 : decode cL_cheques 801 = .ok (.if_icmp .ne 95, 3) := by decide +kernel
theorem dL_cheques_804 : decode cL_cheques 804 = .ok (.aload_n 0, 1) := by decide +kernel
theorem dL_cheques_805 : decode cL_cheques 805 = .ok (.bipush 79, 2) := by decide +kernel
theorem dL_cheques_807 : decode cL_cheques 807 = .ok (.iconst 3, 1) := by decide +kernel
theorem dL_cheques_808 : decode cL_cheques 808 = .ok (.invokevirtual 50, 3) := by decide +kernel
theorem dL_cheques_811 : decode cL_cheques 811 = .ok (.bipush 39, 2) := by decide +kernel
theorem dL_cheques_813 : decode cL_cheques 813 = .ok (.if_icmp .ne 83, 3) := by decide +kernel
theorem dL_cheques_816 : decode cL_cheques 816 = .ok (.aload_n 0, 1) := by decide +kernel
theorem dL_cheques_817 : decode cL_cheques 817 = .ok (.bipush 40, 2) := by decide +kernel
theorem dL_cheques_819 : decode cL_cheques 819 = .ok (.iconst 4, 1) := by decide +kernel
theorem dL_cheques_820 : decode cL_cheques 820 = .ok (.invokevirtual 50, 3) := by decide +kernel
theorem dL_cheques_823 : decode cL_cheques 823 = .ok (.bipush 40, 2) := by decide +kernel
theorem dL_cheques_825 : decode cL_cheques 825 = .ok (.if_icmp .ne 71, 3) := by decide +kernel
theorem dL_cheques_828 : decode cL_cheques 828 = .ok (.aload_n 0, 1) := by decide +kernel
theorem dL_cheques_829 : decode cL_cheques 829 = .ok (.bipush 79, 2) := by decide +kernel
theorem dL_cheques_831 : decode cL_cheques 831 = .ok (.invokevirtual 59, 3) := by decide +kernel
theorem dL_cheques_834 : decode cL_cheques 834 = .ok (.bipush 79, 2) := by decide +kernel
theorem dL_cheques_836 : decode cL_cheques 836 = .ok (.if_icmp .ne 60, 3) := by decide +kernel
theorem dL_cheques_839 : decode cL_cheques 839 = .ok (.aload_n 0, 1) := by decide +kernel
theorem dL_cheques_840 : decode cL_cheques 840 = .ok (.bipush 80, 2) := by decide +kernel
theorem dL_cheques_842 : decode cL_cheques 842 = .ok (.invokevirtual 59, 3) := by decide +kernel
theorem dL_cheques_845 : decode cL_cheques 845 = .ok (.bipush 90, 2) := by decide +kernel
theorem dL_cheques_847 : decode cL_cheques 847 = .ok (.if_icmp .ne 49, 3) := by decide +kernel
theorem dL_cheques_850 : decode cL_cheques 850 = .ok (.aload_n 0, 1) := by decide +kernel
theorem dL_cheques_851 : decode cL_cheques 851 = .ok (.iconst 0, 1) := by decide +kernel
theorem dL_cheques_852 : decode cL_cheques 852 = .ok (.invokevirtual 44, 3) := by decide +kernel
theorem dL_cheques_855 : decode cL_cheques 855 = .ok (.iconst 4, 1) := by decide +kernel
theorem dL_cheques_856 : decode cL_cheques 856 = .ok (.if_icmp .ne 40, 3) := by decide +kernel
theorem dL_cheques_859 : decode cL_cheques 859 = .ok (.aload_n 0, 1) := by decide +kernel
theorem dL_cheques_860 : decode cL_cheques 860 = .ok (.bipush 100, 2) := by decide +kernel
theorem dL_cheques_862 : decode cL_cheques 862 = .ok (.iconst 0, 1) := by decide +kernel
theorem dL_cheques_863 : decode cL_cheques 863 = .ok (.invokevirtual 50, 3) := by decide +kernel
theorem dL_cheques_866 : decode cL_cheques 866 = .ok (.iconst 1, 1) := by decide +kernel
theorem dL_cheques_867 : decode cL_cheques 867 = .ok (.if_icmp .ne 29, 3) := by decide +kernel
theorem dL_cheques_870 : decode cL_cheques 870 = .ok (.aload_n 0, 1) := by decide +kernel
theorem dL_cheques_871 : decode cL_cheques 871 = .ok (.bipush 8, 2) := by decide +kernel
theorem dL_cheques_873 : decode cL_cheques 873 = .ok (.invokevirtual 56, 3) := by decide +kernel
theorem dL_cheques_876 : decode cL_cheques 876 = .ok (.ifCond .ne 20, 3) := by decide +kernel
theorem dL_cheques_879 : decode cL_cheques 879 = .ok (.aload_n 0, 1) := by decide +kernel
theorem dL_cheques_880 : decode cL_cheques 880 = .ok (.iconst 0, 1) := by decide +kernel
theorem dL_cheques_881 : decode cL_cheques 881 = .ok (.bipush 6, 2) := by decide +kernel
theorem dL_cheques_883 : decode cL_cheques 883 = .ok (.invokevirtual 53, 3) := by decide +kernel
theorem dL_cheques_886 : decode cL_cheques 886 = .ok (.sipush 250, 3) := by decide +kernel
theorem dL_cheques_889 : decode cL_cheques 889 = .ok (.if_icmp .ne 7, 3) := by decide +kernel
theorem dL_cheques_892 : decode cL_cheques 892 = .ok (.iconst 1, 1) := by decide +kernel
theorem dL_cheques_893 : decode cL_cheques 893 = .ok (.goto 4, 3) := by decide +kernel
theorem dL_cheques_896 : decode cL_cheques 896 = .ok (.iconst 0, 1) := by decide +kernel
theorem dL_cheques_897 : decode cL_cheques 897 = .ok (.ireturn, 1) := by decide +kernel
theorem dL_types_0 : decode cL_types 0 = .ok (.iconst 1, 1) := by decide +kernel
theorem dL_types_1 : decode cL_types 1 = .ok (.istore_n 3, 1) := by decide +kernel
theorem dL_types_2 : decode cL_types 2 = .ok (.bipush 56, 2) := by decide +kernel
theorem dL_types_4 : decode cL_types 4 = .ok (.istore 4, 2) := by decide +kernel
theorem dL_types_6 : decode cL_types 6 = .ok (.iload 4, 2) := by decide +kernel
theorem dL_types_8 : decode cL_types 8 = .ok (.ifCond .lt 44, 3) := by decide +kernel
theorem dL_types_11 : decode cL_types 11 = .ok (.lload_n 1, 1) := by decide +kernel
theorem dL_types_12 : decode cL_types 12 = .ok (.iload 4, 2) := by decide +kernel
theorem dL_types_14 : decode cL_types 14 = .ok (.lshr, 1) := by decide +kernel
theorem dL_types_15 : decode cL_types 15 = .ok (.ldc2_w 129, 3) := by decide +kernel
theorem dL_types_18 : decode cL_types 18 = .ok (.land, 1) := by decide +kernel
theorem dL_types_19 : decode cL_types 19 = .ok (.l2i, 1) := by decide +kernel
theorem dL_types_20 : decode cL_types 20 = .ok (.istore 5, 2) := by decide +kernel
theorem dL_types_22 : decode cL_types 22 = .ok (.iload_n 3, 1) := by decide +kernel
theorem dL_types_23 : decode cL_types 23 = .ok (.ifCond .eq 21, 3) := by decide +kernel
theorem dL_types_26 : decode cL_types 26 = .ok (.iload 5, 2) := by decide +kernel
theorem dL_types_28 : decode cL_types 28 = .ok (.ifCond .eq 12, 3) := by decide +kernel
theorem dL_types_31 : decode cL_types 31 = .ok (.aload_n 0, 1) := by decide +kernel
theorem dL_types_32 : decode cL_types 32 = .ok (.iload 5, 2) := by decide +kernel
theorem dL_types_34 : decode cL_types 34 = .ok (.invokevirtual 31, 3) := by decide +kernel
theorem dL_types_37 : decode cL_types 37 = .ok (.ifCond .le 7, 3) := by decide +kernel
theorem dL_types_40 : decode cL_types 40 = .ok (.iconst 1, 1) := by decide +kernel
theorem dL_types_41 : decode cL_types 41 = .ok (.goto 4, 3) := by decide +kernel
theorem dL_types_44 : decode cL_types 44 = .ok (.iconst 0, 1) := by decide +kernel
theorem dL_types_45 : decode cL_types 45 = .ok (.istore_n 3, 1) := by decide +kernel
theorem dL_types_46 : decode cL_types 46 = .ok (.iinc 4 (-8), 3) := by decide +kernel
theorem dL_types_49 : decode cL_types 49 = .ok (.goto (-43), 3) := by decide +kernel
theorem dL_types_52 : decode cL_types 52 = .ok (.iload_n 3, 1) := by decide +kernel
theorem dL_types_53 : decode cL_types 53 = .ok (.ireturn, 1) := by decide +kernel
theorem dL_isError_0 : decode cL_isError 0 = .ok (.aload_n 0, 1) := by decide +kernel
theorem dL_isError_1 : decode cL_isError 1 = .ok (.invokevirtual 131, 3) := by decide +kernel
theorem dL_isError_4 : decode cL_isError 4 = .ok (.ifCond .lt 32, 3) := by decide +kernel
theorem dL_isError_7 : decode cL_isError 7 = .ok (.aload_n 0, 1) := by decide +kernel
theorem dL_isError_8 : decode cL_isError 8 = .ok (.lload_n 1, 1) := by decide +kernel
theorem dL_isError_9 : decode cL_isError 9 = .ok (.invokestatic 134, 3) := by decide +kernel
theorem dL_isError_12 : decode cL_isError 12 = .ok (.ifCond .eq 24, 3) := by decide +kernel
theorem dL_isError_15 : decode cL_isError 15 = .ok (.aload_n 0, 1) := by decide +kernel
theorem dL_isError_16 : decode cL_isError 16 = .ok (.lload_n 3, 1) := by decide +kernel
theorem dL_isError_17 : decode cL_isError 17 = .ok (.invokestatic 134, 3) := by decide +kernel
theorem dL_isError_20 : decode cL_isError 20 = .ok (.ifCond .eq 16, 3) := by decide +kernel
theorem dL_isError_23 : decode cL_isError 23 = .ok (.aload_n 0, 1) := by decide +kernel
theorem dL_isError_24 : decode cL_isError 24 = .ok (.invokevirtual 138, 3) := by decide +kernel
theorem dL_isError_27 : decode cL_isError 27 = .ok (.iload 5, 2) := by decide +kernel
theorem dL_isError_29 : decode cL_isError 29 = .ok (.if_icmp .ne 7, 3) := by decide +kernel
theorem dL_isError_32 : decode cL_isError 32 = .ok (.iconst 1, 1) := by decide +kernel
theorem dL_isError_33 : decode cL_isError 33 = .ok (.goto 4, 3) := by decide +kernel
theorem dL_isError_36 : decode cL_isError 36 = .ok (.iconst 0, 1) := by decide +kernel
theorem dL_isError_37 : decode cL_isError 37 = .ok (.ireturn, 1) := by decide +kernel
theorem dL_texts_0 : decode cL_texts 0 = .ok (.new 10, 3) := by decide +kernel
theorem dL_texts_3 : decode cL_texts 3 = .ok (.dup, 1) := by decide +kernel
theorem dL_texts_4 : decode cL_texts 4 = .ok (.invokespecial 116, 3) := by decide +kernel
theorem dL_texts_7 : decode cL_texts 7 = .ok (.astore_n 0, 1) := by decide +kernel
theorem dL_texts_8 : decode cL_texts 8 = .ok (.aload_n 0, 1) := by decide +kernel
theorem dL_texts_9 : decode cL_texts 9 = .ok (.ldc2_w 141, 3) := by decide +kernel
theorem dL_texts_12 : decode cL_texts 12 = .ok (.lconst 0, 1) := by decide +kernel
theorem dL_texts_13 : decode cL_texts 13 = .ok (.bipush 6, 2) := by decide +kernel
theorem dL_texts_15 : decode cL_texts 15 = .ok (.invokestatic 143, 3) := by decide +kernel
theorem dL_texts_18 : decode cL_texts 18 = .ok (.ifCond .eq 128, 3) := by decide +kernel
theorem dL_texts_21 : decode cL_texts 21 = .ok (.aload_n 0, 1) := by decide +kernel
theorem dL_texts_22 : decode cL_texts 22 = .ok (.ldc2_w 147, 3) := by decide +kernel
theorem dL_texts_25 : decode cL_texts 25 = .ok (.ldc2_w 149, 3) := by decide +kernel
theorem dL_texts_28 : decode cL_texts 28 = .ok (.bipush 8, 2) := by decide +kernel
theorem dL_texts_30 : decode cL_texts 30 = .ok (.invokestatic 143, 3) := by decide +kernel
theorem dL_texts_33 : decode cL_texts 33 = .ok (.ifCond .eq 113, 3) := by decide +kernel
theorem dL_texts_36 : decode cL_texts 36 = .ok (.aload_n 0, 1) := by decide +kernel
theorem dL_texts_37 : decode cL_texts 37 = .ok (.ldc2_w 147, 3) := by decide +kernel
theorem dL_texts_40 : decode cL_texts 40 = .ok (.ldc2_w 151, 3) := by decide +kernel
theorem dL_texts_43 : decode cL_texts 43 = .ok (.bipush 9, 2) := by decide +kernel
theorem dL_texts_45 : decode cL_texts 45 = .ok (.invokestatic 143, 3) := by decide +kernel
theorem dL_texts_48 : decode cL_texts 48 = .ok (.ifCond .eq 98, 3) := by decide +kernel
theorem dL_texts_51 : decode cL_texts 51 = .ok (.aload_n 0, 1) := by decide +kernel
theorem dL_texts_52 : decode cL_texts 52 = .ok (.ldc2_w 153, 3) := by decide +kernel
theorem dL_texts_55 : decode cL_texts 55 = .ok (.ldc2_w 155, 3) := by decide +kernel
theorem dL_texts_58 : decode cL_texts 58 = .ok (.bipush 11, 2) := by decide +kernel
theorem dL_texts_60 : decode cL_texts 60 = .ok (.invokestatic 143, 3) := by decide +kernel
theorem dL_texts_63 : decode cL_texts 63 = .ok (.ifCond .eq 83, 3) := by decide +kernel
theorem dL_texts_66 : decode cL_texts 66 = .ok (.aload_n 0, 1) := by decide +kernel
theorem dL_texts_67 : decode cL_texts 67 = .ok (.ldc2_w 157, 3) := by decide +kernel
theorem dL_texts_70 : decode cL_texts 70 = .ok (.lconst 0, 1) := by decide +kernel
theorem dL_texts_71 : decode cL_texts 71 = .ok (.bipush 7, 2) := by decide +kernel
theorem dL_texts_73 : decode cL_texts 73 = .ok (.invokestatic 143, 3) := by decide +kernel
theorem dL_texts_76 : decode cL_texts 76 = .ok (.ifCond .eq 70, 3) := by decide +kernel
theorem dL_texts_79 : decode cL_texts 79 = .ok (.aload_n 0, 1) := by decide +kernel
theorem dL_texts_80 : decode cL_texts 80 = .ok (.ldc2_w 159, 3) := by decide +kernel
theorem dL_texts_83 : decode cL_texts 83 = .ok (.ldc2_w 161, 3) := by decide +kernel
theorem dL_texts_86 : decode cL_texts 86 = .ok (.bipush 13, 2) := by decide +kernel
theorem dL_texts_88 : decode cL_texts 88 = .ok (.invokestatic 143, 3) := by decide +kernel
theorem dL_texts_91 : decode cL_texts 91 = .ok (.ifCond .eq 55, 3) := by decide +kernel
theorem dL_texts_94 : decode cL_texts 94 = .ok (.aload_n 0, 1) := by decide +kernel
theorem dL_texts_95 : decode cL_texts 95 = .ok (.ldc2_w 163, 3) := by decide +kernel
theorem dL_texts_98 : decode cL_texts 98 = .ok (.lconst 0, 1) := by decide +kernel
theorem dL_texts_99 : decode cL_texts 99 = .ok (.iconst 0, 1) := by decide +kernel
theorem dL_texts_100 : decode cL_texts 100 = .ok (.invokestatic 143, 3) := by decide +kernel
theorem dL_texts_103 : decode cL_texts 103 = .ok (.ifCond .eq 43, 3) := by decide +kernel
theorem dL_texts_106 : decode cL_texts 106 = .ok (.aload_n 0, 1) := by decide +kernel
theorem dL_texts_107 : decode cL_texts 107 = .ok (.lconst 0, 1) := by decide +kernel
theorem dL_texts_108 : decode cL_texts 108 = .ok (.lconst 0, 1) := by decide +kernel
theorem dL_texts_109 : decode cL_texts 109 = .ok (.iconst 0, 1) := by decide +kernel
theorem dL_texts_110 : decode cL_texts 110 = .ok (.invokestatic 143, 3) := by decide +kernel
theorem dL_texts_113 : decode cL_texts 113 = .ok (.ifCond .eq 33, 3) := by decide +kernel
theorem dL_texts_116 : decode cL_texts 116 = .ok (.aload_n 0, 1) := by decide +kernel
theorem dL_texts_117 : decode cL_texts 117 = .ok (.ldc2_w 165, 3) := by decide +kernel
theorem dL_texts_120 : decode cL_texts 120 = .ok (.ldc2_w 167, 3) := by decide +kernel
theorem dL_texts_123 : decode cL_texts 123 = .ok (.bipush 9, 2) := by decide +kernel
theorem dL_texts_125 : decode cL_texts 125 = .ok (.invokestatic 143, 3) := by decide +kernel
theorem dL_texts_128 : decode cL_texts 128 = .ok (.ifCond .eq 18, 3) := by decide +kernel
theorem dL_texts_131 : decode cL_texts 131 = .ok (.aload_n 0, 1) := by decide +kernel
theorem dL_texts_132 : decode cL_texts 132 = .ok (.ldc2_w 159, 3) := by decide +kernel
theorem dL_texts_135 : decode cL_texts 135 = .ok (.ldc2_w 169, 3) := by decide +kernel
theorem dL_texts_138 : decode cL_texts 138 = .ok (.bipush 14, 2) := by decide +kernel
theorem dL_texts_140 : decode cL_texts 140 = .ok (.invokestatic 143, 3) := by decide +kernel
theorem dL_texts_143 : decode cL_texts 143 = .ok (.ifCond .ne 5, 3) := by decide +kernel
theorem dL_texts_146 : decode cL_texts 146 = .ok (.iconst 0, 1) := by decide +kernel
theorem dL_texts_147 : decode cL_texts 147 = .ok (.ireturn, 1) := by decide +kernel
theorem dL_texts_148 : decode cL_texts 148 = .ok (.aload_n 0, 1) := by decide +kernel
theorem dL_texts_149 : decode cL_texts 149 = .ok (.ldc2_w 147, 3) := by decide +kernel
theorem dL_texts_152 : decode cL_texts 152 = .ok (.ldc2_w 171, 3) := by decide +kernel
theorem dL_texts_155 : decode cL_texts 155 = .ok (.bipush 10, 2) := by decide +kernel
theorem dL_texts_157 : decode cL_texts 157 = .ok (.invokestatic 143, 3) := by decide +kernel
theorem dL_texts_160 : decode cL_texts 160 = .ok (.ifCond .eq 114, 3) := by decide +kernel
theorem dL_texts_163 : decode cL_texts 163 = .ok (.aload_n 0, 1) := by decide +kernel
theorem dL_texts_164 : decode cL_texts 164 = .ok (.ldc2_w 153, 3) := by decide +kernel
theorem dL_texts_167 : decode cL_texts 167 = .ok (.ldc2_w 149, 3) := by decide +kernel
theorem dL_texts_170 : decode cL_texts 170 = .ok (.bipush 8, 2) := by decide +kernel
theorem dL_texts_172 : decode cL_texts 172 = .ok (.invokestatic 143, 3) := by decide +kernel
theorem dL_texts_175 : decode cL_texts 175 = .ok (.ifCond .eq 99, 3) := by decide +kernel
theorem dL_texts_178 : decode cL_texts 178 = .ok (.aload_n 0, 1) := by decide +kernel
theorem dL_texts_179 : decode cL_texts 179 = .ok (.ldc2_w 153, 3) := by decide +kernel
theorem dL_texts_182 : decode cL_texts 182 = .ok (.ldc2_w 173, 3) := by decide +kernel
theorem dL_texts_185 : decode cL_texts 185 = .ok (.bipush 8, 2) := by decide +kernel
theorem dL_texts_187 : decode cL_texts 187 = .ok (.invokestatic 143, 3) := by decide +kernel
theorem dL_texts_190 : decode cL_texts 190 = .ok (.ifCond .eq 84, 3) := by decide +kernel
theorem dL_texts_193 : decode cL_texts 193 = .ok (.aload_n 0, 1) := by decide +kernel
theorem dL_texts_194 : decode cL_texts 194 = .ok (.ldc2_w 175, 3) := by decide +kernel
theorem dL_texts_197 : decode cL_texts 197 = .ok (.lconst 0, 1) := by decide +kernel
theorem dL_texts_198 : decode cL_texts 198 = .ok (.bipush 7, 2) := by decide +kernel
theorem dL_texts_200 : decode cL_texts 200 = .ok (.invokestatic 143, 3) := by decide +kernel
theorem dL_texts_203 : decode cL_texts 203 = .ok (.ifCond .eq 71, 3) := by decide +kernel
theorem dL_texts_206 : decode cL_texts 206 = .ok (.aload_n 0, 1) := by decide +kernel
theorem dL_texts_207 : decode cL_texts 207 = .ok (.ldc2_w 177, 3) := by decide +kernel
theorem dL_texts_210 : decode cL_texts 210 = .ok (.lconst 0, 1) := by decide +kernel
theorem dL_texts_211 : decode cL_texts 211 = .ok (.bipush 6, 2) := by decide +kernel
theorem dL_texts_213 : decode cL_texts 213 = .ok (.invokestatic 143, 3) := by decide +kernel
theorem dL_texts_216 : decode cL_texts 216 = .ok (.ifCond .eq 58, 3) := by decide +kernel
theorem dL_texts_219 : decode cL_texts 219 = .ok (.aload_n 0, 1) := by decide +kernel
theorem dL_texts_220 : decode cL_texts 220 = .ok (.ldc2_w 165, 3) := by decide +kernel
theorem dL_texts_223 : decode cL_texts 223 = .ok (.ldc2_w 179, 3) := by decide +kernel
theorem dL_texts_226 : decode cL_texts 226 = .ok (.bipush 8, 2) := by decide +kernel
theorem dL_texts_228 : decode cL_texts 228 = .ok (.invokestatic 143, 3) := by decide +kernel
theorem dL_texts_231 : decode cL_texts 231 = .ok (.ifCond .eq 43, 3) := by decide +kernel
theorem dL_texts_234 : decode cL_texts 234 = .ok (.aload_n 0, 1) := by decide +kernel
theorem dL_texts_235 : decode cL_texts 235 = .ok (.ldc2_w 147, 3) := by decide +kernel
theorem dL_texts_238 : decode cL_texts 238 = .ok (.ldc2_w 181, 3) := by decide +kernel
theorem dL_texts_241 : decode cL_texts 241 = .ok (.bipush 10, 2) := by decide +kernel
theorem dL_texts_243 : decode cL_texts 243 = .ok (.invokestatic 143, 3) := by decide +kernel
theorem dL_texts_246 : decode cL_texts 246 = .ok (.ifCond .eq 28, 3) := by decide +kernel
theorem dL_texts_249 : decode cL_texts 249 = .ok (.aload_n 0, 1) := by decide +kernel
theorem dL_texts_250 : decode cL_texts 250 = .ok (.ldc2_w 183, 3) := by decide +kernel
theorem dL_texts_253 : decode cL_texts 253 = .ok (.lconst 0, 1) := by decide +kernel
theorem dL_texts_254 : decode cL_texts 254 = .ok (.bipush 7, 2) := by decide +kernel
theorem dL_texts_256 : decode cL_texts 256 = .ok (.invokestatic 143, 3) := by decide +kernel
theorem dL_texts_259 : decode cL_texts 259 = .ok (.ifCond .eq 15, 3) := by decide +kernel
theorem dL_texts_262 : decode cL_texts 262 = .ok (.aload_n 0, 1) := by decide +kernel
theorem dL_texts_263 : decode cL_texts 263 = .ok (.ldc2_w 185, 3) := by decide +kernel
theorem dL_texts_266 : decode cL_texts 266 = .ok (.lconst 0, 1) := by decide +kernel
theorem dL_texts_267 : decode cL_texts 267 = .ok (.iconst 0, 1) := by decide +kernel
theorem dL_texts_268 : decode cL_texts 268 = .ok (.invokestatic 143, 3) := by decide +kernel
theorem dL_texts_271 : decode cL_texts 271 = .ok (.ifCond .ne 5, 3) := by decide +kernel
theorem dL_texts_274 : decode cL_texts 274 = .ok (.iconst 0, 1) := by decide +kernel
theorem dL_texts_275 : decode cL_texts 275 = .ok (.ireturn, 1) := by decide +kernel
theorem dL_texts_276 : decode cL_texts 276 = .ok (.aload_n 0, 1) := by decide +kernel
theorem dL_texts_277 : decode cL_texts 277 = .ok (.invokevirtual 131, 3) := by decide +kernel
theorem dL_texts_280 : decode cL_texts 280 = .ok (.iconst 1, 1) := by decide +kernel
theorem dL_texts_281 : decode cL_texts 281 = .ok (.if_icmp .ne 325, 3) := by decide +kernel
theorem dL_texts_284 : decode cL_texts 284 = .ok (.aload_n 0, 1) := by decide +kernel
theorem dL_texts_285 : decode cL_texts 285 = .ok (.ldc2_w 187, 3) := by decide +kernel
theorem dL_texts_288 : decode cL_texts 288 = .ok (.invokestatic 134, 3) := by decide +kernel
theorem dL_texts_291 : decode cL_texts 291 = .ok (.ifCond .eq 315, 3) := by decide +kernel
theorem dL_texts_294 : decode cL_texts 294 = .ok (.aload_n 0, 1) := by decide +kernel
theorem dL_texts_295 : decode cL_texts 295 = .ok (.ldc2_w 189, 3) := by decide +kernel
theorem dL_texts_298 : decode cL_texts 298 = .ok (.invokestatic 134, 3) := by decide +kernel
theorem dL_texts_301 : decode cL_texts 301 = .ok (.ifCond .eq 305, 3) := by decide +kernel
theorem dL_texts_304 : decode cL_texts 304 = .ok (.aload_n 0, 1) := by decide +kernel
theorem dL_texts_305 : decode cL_texts 305 = .ok (.ldc2_w 191, 3) := by decide +kernel
theorem dL_texts_308 : decode cL_texts 308 = .ok (.invokestatic 134, 3) := by decide +kernel
theorem dL_texts_311 : decode cL_texts 311 = .ok (.ifCond .eq 295, 3) := by decide +kernel
theorem dL_texts_314 : decode cL_texts 314 = .ok (.aload_n 0, 1) := by decide +kernel
theorem dL_texts_315 : decode cL_texts 315 = .ok (.ldc2_w 193, 3) := by decide +kernel
theorem dL_texts_318 : decode cL_texts 318 = .ok (.invokestatic 134, 3) := by decide +kernel
theorem dL_texts_321 : decode cL_texts 321 = .ok (.ifCond .eq 285, 3) := by decide +kernel
theorem dL_texts_324 : decode cL_texts 324 = .ok (.aload_n 0, 1) := by decide +kernel
theorem dL_texts_325 : decode cL_texts 325 = .ok (.bipush 11, 2) := by decide +kernel
theorem dL_texts_327 : decode cL_texts 327 = .ok (.invokevirtual 56, 3) := by decide +kernel
theorem dL_texts_330 : decode cL_texts 330 = .ok (.bipush 29, 2) := by decide +kernel
theorem dL_texts_332 : decode cL_texts 332 = .ok (.if_icmp .ne 274, 3) := by decide +kernel
theorem dL_texts_335 : decode cL_texts 335 = .ok (.aload_n 0, 1) := by decide +kernel
theorem dL_texts_336 : decode cL_texts 336 = .ok (.invokevirtual 34, 3) := by decide +kernel
theorem dL_texts_339 : decode cL_texts 339 = .ok (.iconst 3, 1) := by decide +kernel
theorem dL_texts_340 : decode cL_texts 340 = .ok (.if_icmp .ne 266, 3) := by decide +kernel
theorem dL_texts_343 : decode cL_texts 343 = .ok (.aload_n 0, 1) := by decide +kernel
theorem dL_texts_344 : decode cL_texts 344 = .ok (.bipush 11, 2) := by decide +kernel
theorem dL_texts_346 : decode cL_texts 346 = .ok (.invokevirtual 56, 3) := by decide +kernel
theorem dL_texts_349 : decode cL_texts 349 = .ok (.ifCond .ne 257, 3) := by decide +kernel
theorem dL_texts_352 : decode cL_texts 352 = .ok (.aload_n 0, 1) := by decide +kernel
theorem dL_texts_353 : decode cL_texts 353 = .ok (.sipush 201, 3) := by decide +kernel
theorem dL_texts_356 : decode cL_texts 356 = .ok (.iconst 0, 1) := by decide +kernel
theorem dL_texts_357 : decode cL_texts 357 = .ok (.invokevirtual 50, 3) := by decide +kernel
theorem dL_texts_360 : decode cL_texts 360 = .ok (.iconst 2, 1) := by decide +kernel
theorem dL_texts_361 : decode cL_texts 361 = .ok (.if_icmp .ne 245, 3) := by decide +kernel
theorem dL_texts_364 : decode cL_texts 364 = .ok (.aload_n 0, 1) := by decide +kernel
theorem dL_texts_365 : decode cL_texts 365 = .ok (.bipush 7, 2) := by decide +kernel
theorem dL_texts_367 : decode cL_texts 367 = .ok (.invokevirtual 56, 3) := by decide +kernel
theorem dL_texts_370 : decode cL_texts 370 = .ok (.bipush 70, 2) := by decide +kernel
theorem dL_texts_372 : decode cL_texts 372 = .ok (.if_icmp .ne 234, 3) := by decide +kernel
theorem dL_texts_375 : decode cL_texts 375 = .ok (.aload_n 0, 1) := by decide +kernel
theorem dL_texts_376 : decode cL_texts 376 = .ok (.ldc2_w 195, 3) := by decide +kernel
theorem dL_texts_379 : decode cL_texts 379 = .ok (.invokestatic 134, 3) := by decide +kernel
theorem dL_texts_382 : decode cL_texts 382 = .ok (.ifCond .eq 224, 3) := by decide +kernel
theorem dL_texts_385 : decode cL_texts 385 = .ok (.aload_n 0, 1) := by decide +kernel
theorem dL_texts_386 : decode cL_texts 386 = .ok (.ldc2_w 197, 3) := by decide +kernel
theorem dL_texts_389 : decode cL_texts 389 = .ok (.invokestatic 134, 3) := by decide +kernel
theorem dL_texts_392 : decode cL_texts 392 = .ok (.ifCond .eq 214, 3) := by decide +kernel
theorem dL_texts_395 : decode cL_texts 395 = .ok (.aload_n 0, 1) := by decide +kernel
theorem dL_texts_396 : decode cL_texts 396 = .ok (.ldc2_w 199, 3) := by decide +kernel
theorem dL_texts_399 : decode cL_texts 399 = .ok (.invokestatic 134, 3) := by decide +kernel
theorem dL_texts_402 : decode cL_texts 402 = .ok (.ifCond .eq 204, 3) := by decide +kernel
theorem dL_texts_405 : decode cL_texts 405 = .ok (.aload_n 0, 1) := by decide +kernel
theorem dL_texts_406 : decode cL_texts 406 = .ok (.invokevirtual 34, 3) := by decide +kernel
theorem dL_texts_409 : decode cL_texts 409 = .ok (.ifCond .ne 197, 3) := by decide +kernel
theorem dL_texts_412 : decode cL_texts 412 = .ok (.aload_n 0, 1) := by decide +kernel
theorem dL_texts_413 : decode cL_texts 413 = .ok (.bipush 8, 2) := by decide +kernel
theorem dL_texts_415 : decode cL_texts 415 = .ok (.invokevirtual 56, 3) := by decide +kernel
theorem dL_texts_418 : decode cL_texts 418 = .ok (.iconst 1, 1) := by decide +kernel
theorem dL_texts_419 : decode cL_texts 419 = .ok (.if_icmp .ne 187, 3) := by decide +kernel
theorem dL_texts_422 : decode cL_texts 422 = .ok (.aload_n 0, 1) := by decide +kernel
theorem dL_texts_423 : decode cL_texts 423 = .ok (.iconst 0, 1) := by decide +kernel
theorem dL_texts_424 : decode cL_texts 424 = .ok (.invokevirtual 56, 3) := by decide +kernel
theorem dL_texts_427 : decode cL_texts 427 = .ok (.iconst 1, 1) := by decide +kernel
theorem dL_texts_428 : decode cL_texts 428 = .ok (.if_icmp .ne 178, 3) := by decide +kernel
theorem dL_texts_431 : decode cL_texts 431 = .ok (.aload_n 0, 1) := by decide +kernel
theorem dL_texts_432 : decode cL_texts 432 = .ok (.ldc2_w 201, 3) := by decide +kernel
theorem dL_texts_435 : decode cL_texts 435 = .ok (.invokestatic 134, 3) := by decide +kernel
theorem dL_texts_438 : decode cL_texts 438 = .ok (.ifCond .eq 168, 3) := by decide +kernel
theorem dL_texts_441 : decode cL_texts 441 = .ok (.aload_n 0, 1) := by decide +kernel
theorem dL_texts_442 : decode cL_texts 442 = .ok (.ldc2_w 203, 3) := by decide +kernel
theorem dL_texts_445 : decode cL_texts 445 = .ok (.invokestatic 134, 3) := by decide +kernel
theorem dL_texts_448 : decode cL_texts 448 = .ok (.ifCond .eq 158, 3) := by decide +kernel
theorem dL_texts_451 : decode cL_texts 451 = .ok (.aload_n 0, 1) := by decide +kernel
theorem dL_texts_452 : decode cL_texts 452 = .ok (.invokevirtual 34, 3) := by decide +kernel
theorem dL_texts_455 : decode cL_texts 455 = .ok (.ifCond .ne 151, 3) := by decide +kernel
theorem dL_texts_458 : decode cL_texts 458 = .ok (.aload_n 0, 1) := by decide +kernel
theorem dL_texts_459 : decode cL_texts 459 = .ok (.ldc2_w 159, 3) := by decide +kernel
theorem dL_texts_462 : decode cL_texts 462 = .ok (.invokestatic 134, 3) := by decide +kernel
theorem dL_texts_465 : decode cL_texts 465 = .ok (.ifCond .eq 141, 3) := by decide +kernel
theorem dL_texts_468 : decode cL_texts 468 = .ok (.aload_n 0, 1) := by decide +kernel
theorem dL_texts_469 : decode cL_texts 469 = .ok (.ldc2_w 205, 3) := by decide +kernel
theorem dL_texts_472 : decode cL_texts 472 = .ok (.invokestatic 134, 3) := by decide +kernel
theorem dL_texts_475 : decode cL_texts 475 = .ok (.ifCond .eq 131, 3) := by decide +kernel
theorem dL_texts_478 : decode cL_texts 478 = .ok (.aload_n 0, 1) := by decide +kernel
theorem dL_texts_479 : decode cL_texts 479 = .ok (.ldc2_w 207, 3) := by decide +kernel
theorem dL_texts_482 : decode cL_texts 482 = .ok (.invokestatic 134, 3) := by decide +kernel
theorem dL_texts_485 : decode cL_texts 485 = .ok (.ifCond .eq 121, 3) := by decide +kernel
theorem dL_texts_488 : decode cL_texts 488 = .ok (.aload_n 0, 1) := by decide +kernel
theorem dL_texts_489 : decode cL_texts 489 = .ok (.invokevirtual 34, 3) := by decide +kernel
theorem dL_texts_492 : decode cL_texts 492 = .ok (.iconst 1, 1) := by decide +kernel
theorem dL_texts_493 : decode cL_texts 493 = .ok (.if_icmp .ne 113, 3) := by decide +kernel
theorem dL_texts_496 : decode cL_texts 496 = .ok (.aload_n 0, 1) := by decide +kernel
theorem dL_texts_497 : decode cL_texts 497 = .ok (.iconst 5, 1) := by decide +kernel
theorem dL_texts_498 : decode cL_texts 498 = .ok (.invokevirtual 56, 3) := by decide +kernel
theorem dL_texts_501 : decode cL_texts 501 = .ok (.iconst 2, 1) := by decide +kernel
theorem dL_texts_502 : decode cL_texts 502 = .ok (.if_icmp .ne 104, 3) := by decide +kernel
theorem dL_texts_505 : decode cL_texts 505 = .ok (.aload_n 0, 1) := by decide +kernel
theorem dL_texts_506 : decode cL_texts 506 = .ok (.sipush 201, 3) := by decide +kernel
theorem dL_texts_509 : decode cL_texts 509 = .ok (.iconst 0, 1) := by decide +kernel
theorem dL_texts_510 : decode cL_texts 510 = .ok (.invokevirtual 50, 3) := by decide +kernel
theorem dL_texts_513 : decode cL_texts 513 = .ok (.iconst 2, 1) := by decide +kernel
theorem dL_texts_514 : decode cL_texts 514 = .ok (.if_icmp .ne 92, 3) := by decide +kernel
theorem dL_texts_517 : decode cL_texts 517 = .ok (.aload_n 0, 1) := by decide +kernel
theorem dL_texts_518 : decode cL_texts 518 = .ok (.bipush 10, 2) := by decide +kernel
theorem dL_texts_520 : decode cL_texts 520 = .ok (.invokevirtual 56, 3) := by decide +kernel
theorem dL_texts_523 : decode cL_texts 523 = .ok (.iconst 4, 1) := by decide +kernel
theorem dL_texts_524 : decode cL_texts 524 = .ok (.if_icmp .ne 82, 3) := by decide +kernel
theorem dL_texts_527 : decode cL_texts 527 = .ok (.aload_n 0, 1) := by decide +kernel
theorem dL_texts_528 : decode cL_texts 528 = .ok (.invokevirtual 38, 3) := by decide +kernel
theorem dL_texts_531 : decode cL_texts 531 = .ok (.iconst 3, 1) := by decide +kernel
theorem dL_texts_532 : decode cL_texts 532 = .ok (.if_icmp .ne 74, 3) := by decide +kernel
theorem dL_texts_535 : decode cL_texts 535 = .ok (.aload_n 0, 1) := by decide +kernel
theorem dL_texts_536 : decode cL_texts 536 = .ok (.iconst 5, 1) := by decide +kernel
theorem dL_texts_537 : decode cL_texts 537 = .ok (.invokevirtual 56, 3) := by decide +kernel
theorem dL_texts_540 : decode cL_texts 540 = .ok (.ifCond .ne 66, 3) := by decide +kernel
theorem dL_texts_543 : decode cL_texts 543 = .ok (.aload_n 0, 1) := by decide +kernel
theorem dL_texts_544 : decode cL_texts 544 = .ok (.ldc2_w 209, 3) := by decide +kernel
theorem dL_texts_547 : decode cL_texts 547 = .ok (.invokestatic 134, 3) := by decide +kernel
theorem dL_texts_550 : decode cL_texts 550 = .ok (.ifCond .eq 56, 3) := by decide +kernel
theorem dL_texts_553 : decode cL_texts 553 = .ok (.aload_n 0, 1) := by decide +kernel
theorem dL_texts_554 : decode cL_texts 554 = .ok (.ldc2_w 211, 3) := by decide +kernel
theorem dL_texts_557 : decode cL_texts 557 = .ok (.invokestatic 134, 3) := by decide +kernel
theorem dL_texts_560 : decode cL_texts 560 = .ok (.ifCond .eq 46, 3) := by decide +kernel
theorem dL_texts_563 : decode cL_texts 563 = .ok (.aload_n 0, 1) := by decide +kernel
theorem dL_texts_564 : decode cL_texts 564 = .ok (.invokevirtual 34, 3) := by decide +kernel
theorem dL_texts_567 : decode cL_texts 567 = .ok (.ifCond .ne 39, 3) := by decide +kernel
theorem dL_texts_570 : decode cL_texts 570 = .ok (.aload_n 0, 1) := by decide +kernel
theorem dL_texts_571 : decode cL_texts 571 = .ok (.ldc2_w 213, 3) := by decide +kernel
theorem dL_texts_574 : decode cL_texts 574 = .ok (.invokestatic 134, 3) := by decide +kernel
theorem dL_texts_577 : decode cL_texts 577 = .ok (.ifCond .eq 29, 3) := by decide +kernel
theorem dL_texts_580 : decode cL_texts 580 = .ok (.aload_n 0, 1) := by decide +kernel
theorem dL_texts_581 : decode cL_texts 581 = .ok (.ldc2_w 215, 3) := by decide +kernel
theorem dL_texts_584 : decode cL_texts 584 = .ok (.invokestatic 134, 3) := by decide +kernel
theorem dL_texts_587 : decode cL_texts 587 = .ok (.ifCond .eq 19, 3) := by decide +kernel
theorem dL_texts_590 : decode cL_texts 590 = .ok (.aload_n 0, 1) := by decide +kernel
theorem dL_texts_591 : decode cL_texts 591 = .ok (.invokevirtual 34, 3) := by decide +kernel
theorem dL_texts_594 : decode cL_texts 594 = .ok (.ifCond .ne 12, 3) := by decide +kernel
theorem dL_texts_597 : decode cL_texts 597 = .ok (.aload_n 0, 1) := by decide +kernel
theorem dL_texts_598 : decode cL_texts 598 = .ok (.iconst 0, 1) := by decide +kernel
theorem dL_texts_599 : decode cL_texts 599 = .ok (.invokevirtual 56, 3) := by decide +kernel
theorem dL_texts_602 : decode cL_texts 602 = .ok (.iconst 1, 1) := by decide +kernel
theorem dL_texts_603 : decode cL_texts 603 = .ok (.if_icmp .eq 5, 3) := by decide +kernel
theorem dL_texts_606 : decode cL_texts 606 = .ok (.iconst 0, 1) := by decide +kernel
theorem dL_texts_607 : decode cL_texts 607 = .ok (.ireturn, 1) := by decide +kernel
theorem dL_texts_608 : decode cL_texts 608 = .ok (.iconst 0, 1) := by decide +kernel
theorem dL_texts_609 : decode cL_texts 609 = .ok (.istore_n 1, 1) := by decide +kernel
theorem dL_texts_610 : decode cL_texts 610 = .ok (.iload_n 1, 1) := by decide +kernel
theorem dL_texts_611 : decode cL_texts 611 = .ok (.bipush 60, 2) := by decide +kernel
theorem dL_texts_613 : decode cL_texts 613 = .ok (.if_icmp .ge 30, 3) := by decide +kernel
theorem dL_texts_616 : decode cL_texts 616 = .ok (.aload_n 0, 1) := by decide +kernel
theorem dL_texts_617 : decode cL_texts 617 = .ok (.bipush 55, 2) := by decide +kernel
theorem dL_texts_619 : decode cL_texts 619 = .ok (.invokevirtual 31, 3) := by decide +kernel
theorem dL_texts_622 : decode cL_texts 622 = .ok (.iload_n 1, 1) := by decide +kernel
theorem dL_texts_623 : decode cL_texts 623 = .ok (.iconst 1, 1) := by decide +kernel
theorem dL_texts_624 : decode cL_texts 624 = .ok (.iadd, 1) := by decide +kernel
theorem dL_texts_625 : decode cL_texts 625 = .ok (.if_icmp .ne 10, 3) := by decide +kernel
theorem dL_texts_628 : decode cL_texts 628 = .ok (.aload_n 0, 1) := by decide +kernel
theorem dL_texts_629 : decode cL_texts 629 = .ok (.invokevirtual 138, 3) := by decide +kernel
theorem dL_texts_632 : decode cL_texts 632 = .ok (.ifCond .eq 5, 3) := by decide +kernel
theorem dL_texts_635 : decode cL_texts 635 = .ok (.iconst 0, 1) := by decide +kernel
theorem dL_texts_636 : decode cL_texts 636 = .ok (.ireturn, 1) := by decide +kernel
theorem dL_texts_637 : decode cL_texts 637 = .ok (.iinc 1 1, 3) := by decide +kernel
theorem dL_texts_640 : decode cL_texts 640 = .ok (.goto (-30), 3) := by decide +kernel
theorem dL_texts_643 : decode cL_texts 643 = .ok (.aload_n 0, 1) := by decide +kernel
theorem dL_texts_644 : decode cL_texts 644 = .ok (.bipush 6, 2) := by decide +kernel
theorem dL_texts_646 : decode cL_texts 646 = .ok (.bipush 59, 2) := by decide +kernel
theorem dL_texts_648 : decode cL_texts 648 = .ok (.iconst 0, 1) := by decide +kernel
theorem dL_texts_649 : decode cL_texts 649 = .ok (.iconst 0, 1) := by decide +kernel
theorem dL_texts_650 : decode cL_texts 650 = .ok (.invokestatic 103, 3) := by decide +kernel
theorem dL_texts_653 : decode cL_texts 653 = .ok (.bipush (-13), 2) := by decide +kernel
theorem dL_texts_655 : decode cL_texts 655 = .ok (.if_icmp .ne 30, 3) := by decide +kernel
theorem dL_texts_658 : decode cL_texts 658 = .ok (.aload_n 0, 1) := by decide +kernel
theorem dL_texts_659 : decode cL_texts 659 = .ok (.bipush 7, 2) := by decide +kernel
theorem dL_texts_661 : decode cL_texts 661 = .ok (.iconst 0, 1) := by decide +kernel
theorem dL_texts_662 : decode cL_texts 662 = .ok (.iconst 0, 1) := by decide +kernel
theorem dL_texts_663 : decode cL_texts 663 = .ok (.iconst 0, 1) := by decide +kernel
theorem dL_texts_664 : decode cL_texts 664 = .ok (.invokestatic 103, 3) := by decide +kernel
theorem dL_texts_667 : decode cL_texts 667 = .ok (.bipush (-12), 2) := by decide +kernel
theorem dL_texts_669 : decode cL_texts 669 = .ok (.if_icmp .ne 16, 3) := by decide +kernel
theorem dL_texts_672 : decode cL_texts 672 = .ok (.aload_n 0, 1) := by decide +kernel
theorem dL_texts_673 : decode cL_texts 673 = .ok (.invokevirtual 131, 3) := by decide +kernel
theorem dL_texts_676 : decode cL_texts 676 = .ok (.bipush 60, 2) := by decide +kernel
theorem dL_texts_678 : decode cL_texts 678 = .ok (.if_icmp .ne 7, 3) := by decide +kernel
theorem dL_texts_681 : decode cL_texts 681 = .ok (.iconst 1, 1) := by decide +kernel
theorem dL_texts_682 : decode cL_texts 682 = .ok (.goto 4, 3) := by decide +kernel
theorem dL_texts_685 : decode cL_texts 685 = .ok (.iconst 0, 1) := by decide +kernel
theorem dL_texts_686 : decode cL_texts 686 = .ok (.ireturn, 1) := by decide +kernel
theorem dL_law_0 : decode cL_law 0 = .ok (.invokestatic 217, 3) := by decide +kernel
theorem dL_law_3 : decode cL_law 3 = .ok (.ifCond .eq 15, 3) := by decide +kernel
theorem dL_law_6 : decode cL_law 6 = .ok (.invokestatic 221, 3) := by decide +kernel
theorem dL_law_9 : decode cL_law 9 = .ok (.ifCond .eq 9, 3) := by decide +kernel
theorem dL_law_12 : decode cL_law 12 = .ok (.invokestatic 224, 3) := by decide +kernel
theorem dL_law_15 : decode cL_law 15 = .ok (.ifCond .ne 5, 3) := by decide +kernel
theorem dL_law_18 : decode cL_law 18 = .ok (.iconst 0, 1) := by decide +kernel
theorem dL_law_19 : decode cL_law 19 = .ok (.ireturn, 1) := by decide +kernel
theorem dL_law_20 : decode cL_law 20 = .ok (.new 10, 3) := by decide +kernel
theorem dL_law_23 : decode cL_law 23 = .ok (.dup, 1) := by decide +kernel
theorem dL_law_24 : decode cL_law 24 = .ok (.invokespecial 116, 3) := by decide +kernel
theorem dL_law_27 : decode cL_law 27 = .ok (.astore_n 1, 1) := by decide +kernel
theorem dL_law_28 : decode cL_law 28 = .ok (.bipush 64, 2) := by decide +kernel
theorem dL_law_30 : decode cL_law 30 = .ok (.newarray .long, 2) := by decide +kernel
theorem dL_law_32 : decode cL_law 32 = .ok (.astore_n 2, 1) := by decide +kernel
theorem dL_law_33 : decode cL_law 33 = .ok (.iconst 0, 1) := by decide +kernel
theorem dL_law_34 : decode cL_law 34 = .ok (.istore_n 3, 1) := by decide +kernel
theorem dL_law_35 : decode cL_law 35 = .ok (.aload_n 1, 1) := by decide +kernel
theorem dL_law_36 : decode cL_law 36 = .ok (.bipush 10, 2) := by decide +kernel
theorem dL_law_38 : decode cL_law 38 = .ok (.bipush 6, 2) := by decide +kernel
theorem dL_law_40 : decode cL_law 40 = .ok (.invokevirtual 19, 3) := by decide +kernel
theorem dL_law_43 : decode cL_law 43 = .ok (.ifCond .ne 37, 3) := by decide +kernel
theorem dL_law_46 : decode cL_law 46 = .ok (.aload_n 1, 1) := by decide +kernel
theorem dL_law_47 : decode cL_law 47 = .ok (.bipush 12, 2) := by decide +kernel
theorem dL_law_49 : decode cL_law 49 = .ok (.bipush 90, 2) := by decide +kernel
theorem dL_law_51 : decode cL_law 51 = .ok (.invokevirtual 22, 3) := by decide +kernel
theorem dL_law_54 : decode cL_law 54 = .ok (.bipush 6, 2) := by decide +kernel
theorem dL_law_56 : decode cL_law 56 = .ok (.if_icmp .ne 24, 3) := by decide +kernel
theorem dL_law_59 : decode cL_law 59 = .ok (.aload_n 1, 1) := by decide +kernel
theorem dL_law_60 : decode cL_law 60 = .ok (.bipush 13, 2) := by decide +kernel
theorem dL_law_62 : decode cL_law 62 = .ok (.bipush 9, 2) := by decide +kernel
theorem dL_law_64 : decode cL_law 64 = .ok (.invokevirtual 25, 3) := by decide +kernel
theorem dL_law_67 : decode cL_law 67 = .ok (.iconst (-1), 1) := by decide +kernel
theorem dL_law_68 : decode cL_law 68 = .ok (.if_icmp .ne 12, 3) := by decide +kernel
theorem dL_law_71 : decode cL_law 71 = .ok (.aload_n 1, 1) := by decide +kernel
theorem dL_law_72 : decode cL_law 72 = .ok (.iconst 1, 1) := by decide +kernel
theorem dL_law_73 : decode cL_law 73 = .ok (.invokevirtual 41, 3) := by decide +kernel
theorem dL_law_76 : decode cL_law 76 = .ok (.iconst 1, 1) := by decide +kernel
theorem dL_law_77 : decode cL_law 77 = .ok (.if_icmp .eq 5, 3) := by decide +kernel
theorem dL_law_80 : decode cL_law 80 = .ok (.iconst 0, 1) := by decide +kernel
theorem dL_law_81 : decode cL_law 81 = .ok (.ireturn, 1) := by decide +kernel
theorem dL_law_82 : decode cL_law 82 = .ok (.aload_n 1, 1) := by decide +kernel
theorem dL_law_83 : decode cL_law 83 = .ok (.invokestatic 108, 3) := by decide +kernel
theorem dL_law_86 : decode cL_law 86 = .ok (.lstore 4, 2) := by decide +kernel
theorem dL_law_88 : decode cL_law 88 = .ok (.iconst 0, 1) := by decide +kernel
theorem dL_law_89 : decode cL_law 89 = .ok (.istore 6, 2) := by decide +kernel
theorem dL_law_91 : decode cL_law 91 = .ok (.iload 6, 2) := by decide +kernel
theorem dL_law_93 : decode cL_law 93 = .ok (.bipush 28, 2) := by decide +kernel
theorem dL_law_95 : decode cL_law 95 = .ok (.if_icmp .ge 359, 3) := by decide +kernel
theorem dL_law_98 : decode cL_law 98 = .ok (.aload_n 0, 1) := by decide +kernel
theorem dL_law_99 : decode cL_law 99 = .ok (.iload 6, 2) := by decide +kernel
theorem dL_law_101 : decode cL_law 101 = .ok (.invokestatic 227, 3) := by decide +kernel
theorem dL_law_104 : decode cL_law 104 = .ok (.istore 7, 2) := by decide +kernel
theorem dL_law_106 : decode cL_law 106 = .ok (.iload 7, 2) := by decide +kernel
theorem dL_law_108 : decode cL_law 108 = .ok (.bipush 18, 2) := by decide +kernel
theorem dL_law_110 : decode cL_law 110 = .ok (.invokestatic 231, 3) := by decide +kernel
theorem dL_law_113 : decode cL_law 113 = .ok (.istore 8, 2) := by decide +kernel
theorem dL_law_115 : decode cL_law 115 = .ok (.aload_n 2, 1) := by decide +kernel
theorem dL_law_116 : decode cL_law 116 = .ok (.iload_n 3, 1) := by decide +kernel
theorem dL_law_117 : decode cL_law 117 = .ok (.aload_n 1, 1) := by decide +kernel
theorem dL_law_118 : decode cL_law 118 = .ok (.invokestatic 108, 3) := by decide +kernel
theorem dL_law_121 : decode cL_law 121 = .ok (.lastore, 1) := by decide +kernel
theorem dL_law_122 : decode cL_law 122 = .ok (.aload_n 1, 1) := by decide +kernel
theorem dL_law_123 : decode cL_law 123 = .ok (.bipush 10, 2) := by decide +kernel
theorem dL_law_125 : decode cL_law 125 = .ok (.invokevirtual 56, 3) := by decide +kernel
theorem dL_law_128 : decode cL_law 128 = .ok (.istore 9, 2) := by decide +kernel
theorem dL_law_130 : decode cL_law 130 = .ok (.bipush 8, 2) := by decide +kernel
theorem dL_law_132 : decode cL_law 132 = .ok (.iload 7, 2) := by decide +kernel
theorem dL_law_134 : decode cL_law 134 = .ok (.iconst 5, 1) := by decide +kernel
theorem dL_law_135 : decode cL_law 135 = .ok (.ishr, 1) := by decide +kernel
theorem dL_law_136 : decode cL_law 136 = .ok (.bipush 16, 2) := by decide +kernel
theorem dL_law_138 : decode cL_law 138 = .ok (.invokestatic 231, 3) := by decide +kernel
theorem dL_law_141 : decode cL_law 141 = .ok (.iadd, 1) := by decide +kernel
theorem dL_law_142 : decode cL_law 142 = .ok (.istore 10, 2) := by decide +kernel
theorem dL_law_144 : decode cL_law 144 = .ok (.iload 7, 2) := by decide +kernel
theorem dL_law_146 : decode cL_law 146 = .ok (.bipush 9, 2) := by decide +kernel
theorem dL_law_148 : decode cL_law 148 = .ok (.ishr, 1) := by decide +kernel
theorem dL_law_149 : decode cL_law 149 = .ok (.sipush 1001, 3) := by decide +kernel
theorem dL_law_152 : decode cL_law 152 = .ok (.invokestatic 231, 3) := by decide +kernel
theorem dL_law_155 : decode cL_law 155 = .ok (.istore 11, 2) := by decide +kernel
theorem dL_law_157 : decode cL_law 157 = .ok (.iload 8, 2) := by decide +kernel
theorem dL_law_159 : decode cL_law 159 = .ok (.iconst 4, 1) := by decide +kernel
theorem dL_law_160 : decode cL_law 160 = .ok (.if_icmp .le 14, 3) := by decide +kernel
theorem dL_law_163 : decode cL_law 163 = .ok (.iload 8, 2) := by decide +kernel
theorem dL_law_165 : decode cL_law 165 = .ok (.bipush 10, 2) := by decide +kernel
theorem dL_law_167 : decode cL_law 167 = .ok (.if_icmp .ge 7, 3) := by decide +kernel
theorem dL_law_170 : decode cL_law 170 = .ok (.iconst 1, 1) := by decide +kernel
theorem dL_law_171 : decode cL_law 171 = .ok (.goto 4, 3) := by decide +kernel
theorem dL_law_174 : decode cL_law 174 = .ok (.iconst 0, 1) := by decide +kernel
theorem dL_law_175 : decode cL_law 175 = .ok (.istore 12, 2) := by decide +kernel
theorem dL_law_177 : decode cL_law 177 = .ok (.iload 7, 2) := by decide +kernel
theorem dL_law_179 : decode cL_law 179 = .ok (.bipush 9, 2) := by decide +kernel
theorem dL_law_181 : decode cL_law 181 = .ok (.ishr, 1) := by decide +kernel
theorem dL_law_182 : decode cL_law 182 = .ok (.iconst 3, 1) := by decide +kernel
theorem dL_law_183 : decode cL_law 183 = .ok (.invokestatic 231, 3) := by decide +kernel
theorem dL_law_186 : decode cL_law 186 = .ok (.ifCond .ne 16, 3) := by decide +kernel
theorem dL_law_189 : decode cL_law 189 = .ok (.iload 7, 2) := by decide +kernel
theorem dL_law_191 : decode cL_law 191 = .ok (.bipush 11, 2) := by decide +kernel
theorem dL_law_193 : decode cL_law 193 = .ok (.ishr, 1) := by decide +kernel
theorem dL_law_194 : decode cL_law 194 = .ok (.bipush 27, 2) := by decide +kernel
theorem dL_law_196 : decode cL_law 196 = .ok (.invokestatic 231, 3) := by decide +kernel
theorem dL_law_199 : decode cL_law 199 = .ok (.goto 9, 3) := by decide +kernel
theorem dL_law_202 : decode cL_law 202 = .ok (.aload_n 1, 1) := by decide +kernel
theorem dL_law_203 : decode cL_law 203 = .ok (.iload 10, 2) := by decide +kernel
theorem dL_law_205 : decode cL_law 205 = .ok (.invokevirtual 47, 3) := by decide +kernel
theorem dL_law_208 : decode cL_law 208 = .ok (.istore 13, 2) := by decide +kernel
theorem dL_law_210 : decode cL_law 210 = .ok (.iload 8, 2) := by decide +kernel
theorem dL_law_212 : decode cL_law 212 = .ok (.iconst 5, 1) := by decide +kernel
theorem dL_law_213 : decode cL_law 213 = .ok (.if_icmp .ge 16, 3) := by decide +kernel
theorem dL_law_216 : decode cL_law 216 = .ok (.aload_n 1, 1) := by decide +kernel
theorem dL_law_217 : decode cL_law 217 = .ok (.iconst 3, 1) := by decide +kernel
theorem dL_law_218 : decode cL_law 218 = .ok (.iload 10, 2) := by decide +kernel
theorem dL_law_220 : decode cL_law 220 = .ok (.iload 11, 2) := by decide +kernel
theorem dL_law_222 : decode cL_law 222 = .ok (.iconst 0, 1) := by decide +kernel
theorem dL_law_223 : decode cL_law 223 = .ok (.invokestatic 103, 3) := by decide +kernel
theorem dL_law_226 : decode cL_law 226 = .ok (.goto 164, 3) := by decide +kernel
theorem dL_law_229 : decode cL_law 229 = .ok (.iload 12, 2) := by decide +kernel
theorem dL_law_231 : decode cL_law 231 = .ok (.ifCond .eq 16, 3) := by decide +kernel
theorem dL_law_234 : decode cL_law 234 = .ok (.aload_n 1, 1) := by decide +kernel
theorem dL_law_235 : decode cL_law 235 = .ok (.iconst 4, 1) := by decide +kernel
theorem dL_law_236 : decode cL_law 236 = .ok (.iload 10, 2) := by decide +kernel
theorem dL_law_238 : decode cL_law 238 = .ok (.iload 13, 2) := by decide +kernel
theorem dL_law_240 : decode cL_law 240 = .ok (.iconst 0, 1) := by decide +kernel
theorem dL_law_241 : decode cL_law 241 = .ok (.invokestatic 103, 3) := by decide +kernel
theorem dL_law_244 : decode cL_law 244 = .ok (.goto 146, 3) := by decide +kernel
theorem dL_law_247 : decode cL_law 247 = .ok (.iload 8, 2) := by decide +kernel
theorem dL_law_249 : decode cL_law 249 = .ok (.bipush 12, 2) := by decide +kernel
theorem dL_law_251 : decode cL_law 251 = .ok (.if_icmp .ge 27, 3) := by decide +kernel
theorem dL_law_254 : decode cL_law 254 = .ok (.aload_n 1, 1) := by decide +kernel
theorem dL_law_255 : decode cL_law 255 = .ok (.iconst 5, 1) := by decide +kernel
theorem dL_law_256 : decode cL_law 256 = .ok (.iload 10, 2) := by decide +kernel
theorem dL_law_258 : decode cL_law 258 = .ok (.bipush 8, 2) := by decide +kernel
theorem dL_law_260 : decode cL_law 260 = .ok (.iload 7, 2) := by decide +kernel
theorem dL_law_262 : decode cL_law 262 = .ok (.bipush 9, 2) := by decide +kernel
theorem dL_law_264 : decode cL_law 264 = .ok (.ishr, 1) := by decide +kernel
theorem dL_law_265 : decode cL_law 265 = .ok (.bipush 17, 2) := by decide +kernel
theorem dL_law_267 : decode cL_law 267 = .ok (.invokestatic 231, 3) := by decide +kernel
theorem dL_law_270 : decode cL_law 270 = .ok (.iadd, 1) := by decide +kernel
theorem dL_law_271 : decode cL_law 271 = .ok (.iconst 0, 1) := by decide +kernel
theorem dL_law_272 : decode cL_law 272 = .ok (.invokestatic 103, 3) := by decide +kernel
theorem dL_law_275 : decode cL_law 275 = .ok (.goto 115, 3) := by decide +kernel
theorem dL_law_278 : decode cL_law 278 = .ok (.iload 8, 2) := by decide +kernel
theorem dL_law_280 : decode cL_law 280 = .ok (.bipush 12, 2) := by decide +kernel
theorem dL_law_282 : decode cL_law 282 = .ok (.if_icmp .ne 31, 3) := by decide +kernel
theorem dL_law_285 : decode cL_law 285 = .ok (.aload_n 1, 1) := by decide +kernel
theorem dL_law_286 : decode cL_law 286 = .ok (.iconst 2, 1) := by decide +kernel
theorem dL_law_287 : decode cL_law 287 = .ok (.iload 7, 2) := by decide +kernel
theorem dL_law_289 : decode cL_law 289 = .ok (.iconst 5, 1) := by decide +kernel
theorem dL_law_290 : decode cL_law 290 = .ok (.ishr, 1) := by decide +kernel
theorem dL_law_291 : decode cL_law 291 = .ok (.bipush 60, 2) := by decide +kernel
theorem dL_law_293 : decode cL_law 293 = .ok (.invokestatic 231, 3) := by decide +kernel
theorem dL_law_296 : decode cL_law 296 = .ok (.iload 7, 2) := by decide +kernel
theorem dL_law_298 : decode cL_law 298 = .ok (.bipush 11, 2) := by decide +kernel
theorem dL_law_300 : decode cL_law 300 = .ok (.ishr, 1) := by decide +kernel
theorem dL_law_301 : decode cL_law 301 = .ok (.bipush 9, 2) := by decide +kernel
theorem dL_law_303 : decode cL_law 303 = .ok (.invokestatic 231, 3) := by decide +kernel
theorem dL_law_306 : decode cL_law 306 = .ok (.iconst 0, 1) := by decide +kernel
theorem dL_law_307 : decode cL_law 307 = .ok (.invokestatic 103, 3) := by decide +kernel
theorem dL_law_310 : decode cL_law 310 = .ok (.goto 80, 3) := by decide +kernel
theorem dL_law_313 : decode cL_law 313 = .ok (.iload 8, 2) := by decide +kernel
theorem dL_law_315 : decode cL_law 315 = .ok (.bipush 15, 2) := by decide +kernel
theorem dL_law_317 : decode cL_law 317 = .ok (.if_icmp .ge 31, 3) := by decide +kernel
theorem dL_law_320 : decode cL_law 320 = .ok (.aload_n 1, 1) := by decide +kernel
theorem dL_law_321 : decode cL_law 321 = .ok (.iconst 0, 1) := by decide +kernel
theorem dL_law_322 : decode cL_law 322 = .ok (.iload 7, 2) := by decide +kernel
theorem dL_law_324 : decode cL_law 324 = .ok (.iconst 5, 1) := by decide +kernel
theorem dL_law_325 : decode cL_law 325 = .ok (.ishr, 1) := by decide +kernel
theorem dL_law_326 : decode cL_law 326 = .ok (.bipush 7, 2) := by decide +kernel
theorem dL_law_328 : decode cL_law 328 = .ok (.invokestatic 231, 3) := by decide +kernel
theorem dL_law_331 : decode cL_law 331 = .ok (.iload 7, 2) := by decide +kernel
theorem dL_law_333 : decode cL_law 333 = .ok (.bipush 9, 2) := by decide +kernel
theorem dL_law_335 : decode cL_law 335 = .ok (.ishr, 1) := by decide +kernel
theorem dL_law_336 : decode cL_law 336 = .ok (.bipush 11, 2) := by decide +kernel
theorem dL_law_338 : decode cL_law 338 = .ok (.invokestatic 231, 3) := by decide +kernel
theorem dL_law_341 : decode cL_law 341 = .ok (.iconst 0, 1) := by decide +kernel
theorem dL_law_342 : decode cL_law 342 = .ok (.invokestatic 103, 3) := by decide +kernel
theorem dL_law_345 : decode cL_law 345 = .ok (.goto 45, 3) := by decide +kernel
theorem dL_law_348 : decode cL_law 348 = .ok (.iload 8, 2) := by decide +kernel
theorem dL_law_350 : decode cL_law 350 = .ok (.bipush 15, 2) := by decide +kernel
theorem dL_law_352 : decode cL_law 352 = .ok (.if_icmp .ne 22, 3) := by decide +kernel
theorem dL_law_355 : decode cL_law 355 = .ok (.aload_n 1, 1) := by decide +kernel
theorem dL_law_356 : decode cL_law 356 = .ok (.iconst 1, 1) := by decide +kernel
theorem dL_law_357 : decode cL_law 357 = .ok (.iload 7, 2) := by decide +kernel
theorem dL_law_359 : decode cL_law 359 = .ok (.iconst 5, 1) := by decide +kernel
theorem dL_law_360 : decode cL_law 360 = .ok (.ishr, 1) := by decide +kernel
theorem dL_law_361 : decode cL_law 361 = .ok (.bipush 30, 2) := by decide +kernel
theorem dL_law_363 : decode cL_law 363 = .ok (.invokestatic 231, 3) := by decide +kernel
theorem dL_law_366 : decode cL_law 366 = .ok (.iconst 0, 1) := by decide +kernel
theorem dL_law_367 : decode cL_law 367 = .ok (.iconst 0, 1) := by decide +kernel
theorem dL_law_368 : decode cL_law 368 = .ok (.invokestatic 103, 3) := by decide +kernel
theorem dL_law_371 : decode cL_law 371 = .ok (.goto 19, 3) := by decide +kernel
theorem dL_law_374 : decode cL_law 374 = .ok (.aload_n 1, 1) := by decide +kernel
theorem dL_law_375 : decode cL_law 375 = .ok (.bipush 10, 2) := by decide +kernel
theorem dL_law_377 : decode cL_law 377 = .ok (.iload 7, 2) := by decide +kernel
theorem dL_law_379 : decode cL_law 379 = .ok (.iconst 5, 1) := by decide +kernel
theorem dL_law_380 : decode cL_law 380 = .ok (.ishr, 1) := by decide +kernel
theorem dL_law_381 : decode cL_law 381 = .ok (.iconst 2, 1) := by decide +kernel
theorem dL_law_382 : decode cL_law 382 = .ok (.invokestatic 231, 3) := by decide +kernel
theorem dL_law_385 : decode cL_law 385 = .ok (.iconst 0, 1) := by decide +kernel
theorem dL_law_386 : decode cL_law 386 = .ok (.iconst 0, 1) := by decide +kernel
theorem dL_law_387 : decode cL_law 387 = .ok (.invokestatic 103, 3) := by decide +kernel
theorem dL_law_390 : decode cL_law 390 = .ok (.istore 14, 2) := by decide +kernel
theorem dL_law_392 : decode cL_law 392 = .ok (.iload 14, 2) := by decide +kernel
theorem dL_law_394 : decode cL_law 394 = .ok (.bipush (-9), 2) := by decide +kernel
theorem dL_law_396 : decode cL_law 396 = .ok (.if_icmp .ge 7, 3) := by decide +kernel
theorem dL_law_399 : decode cL_law 399 = .ok (.iconst 1, 1) := by decide +kernel
theorem dL_law_400 : decode cL_law 400 = .ok (.goto 4, 3) := by decide +kernel
theorem dL_law_403 : decode cL_law 403 = .ok (.iconst 0, 1) := by decide +kernel
theorem dL_law_404 : decode cL_law 404 = .ok (.istore 15, 2) := by decide +kernel
theorem dL_law_406 : decode cL_law 406 = .ok (.iload 15, 2) := by decide +kernel
theorem dL_law_408 : decode cL_law 408 = .ok (.ifCond .eq 27, 3) := by decide +kernel
theorem dL_law_411 : decode cL_law 411 = .ok (.aload_n 1, 1) := by decide +kernel
theorem dL_law_412 : decode cL_law 412 = .ok (.bipush 10, 2) := by decide +kernel
theorem dL_law_414 : decode cL_law 414 = .ok (.invokevirtual 56, 3) := by decide +kernel
theorem dL_law_417 : decode cL_law 417 = .ok (.iload 9, 2) := by decide +kernel
theorem dL_law_419 : decode cL_law 419 = .ok (.if_icmp .ne 14, 3) := by decide +kernel
theorem dL_law_422 : decode cL_law 422 = .ok (.aload_n 1, 1) := by decide +kernel
theorem dL_law_423 : decode cL_law 423 = .ok (.invokestatic 108, 3) := by decide +kernel
theorem dL_law_426 : decode cL_law 426 = .ok (.aload_n 2, 1) := by decide +kernel
theorem dL_law_427 : decode cL_law 427 = .ok (.iload_n 3, 1) := by decide +kernel
theorem dL_law_428 : decode cL_law 428 = .ok (.laload, 1) := by decide +kernel
theorem dL_law_429 : decode cL_law 429 = .ok (.lcmp, 1) := by decide +kernel
theorem dL_law_430 : decode cL_law 430 = .ok (.ifCond .eq 5, 3) := by decide +kernel
theorem dL_law_433 : decode cL_law 433 = .ok (.iconst 0, 1) := by decide +kernel
theorem dL_law_434 : decode cL_law 434 = .ok (.ireturn, 1) := by decide +kernel
theorem dL_law_435 : decode cL_law 435 = .ok (.iload_n 3, 1) := by decide +kernel
theorem dL_law_436 : decode cL_law 436 = .ok (.iload 15, 2) := by decide +kernel
theorem dL_law_438 : decode cL_law 438 = .ok (.ifCond .eq 7, 3) := by decide +kernel
theorem dL_law_441 : decode cL_law 441 = .ok (.iconst 0, 1) := by decide +kernel
theorem dL_law_442 : decode cL_law 442 = .ok (.goto 4, 3) := by decide +kernel
theorem dL_law_445 : decode cL_law 445 = .ok (.iconst 1, 1) := by decide +kernel
theorem dL_law_446 : decode cL_law 446 = .ok (.iadd, 1) := by decide +kernel
theorem dL_law_447 : decode cL_law 447 = .ok (.istore_n 3, 1) := by decide +kernel
theorem dL_law_448 : decode cL_law 448 = .ok (.iinc 6 1, 3) := by decide +kernel
theorem dL_law_451 : decode cL_law 451 = .ok (.goto (-360), 3) := by decide +kernel
theorem dL_law_454 : decode cL_law 454 = .ok (.aload_n 2, 1) := by decide +kernel
theorem dL_law_455 : decode cL_law 455 = .ok (.iload_n 3, 1) := by decide +kernel
theorem dL_law_456 : decode cL_law 456 = .ok (.aload_n 1, 1) := by decide +kernel
theorem dL_law_457 : decode cL_law 457 = .ok (.invokestatic 108, 3) := by decide +kernel
theorem dL_law_460 : decode cL_law 460 = .ok (.lastore, 1) := by decide +kernel
theorem dL_law_461 : decode cL_law 461 = .ok (.aload_n 1, 1) := by decide +kernel
theorem dL_law_462 : decode cL_law 462 = .ok (.invokestatic 122, 3) := by decide +kernel
theorem dL_law_465 : decode cL_law 465 = .ok (.ifCond .ne 5, 3) := by decide +kernel
theorem dL_law_468 : decode cL_law 468 = .ok (.iconst 0, 1) := by decide +kernel
theorem dL_law_469 : decode cL_law 469 = .ok (.ireturn, 1) := by decide +kernel
theorem dL_law_470 : decode cL_law 470 = .ok (.iconst 0, 1) := by decide +kernel
theorem dL_law_471 : decode cL_law 471 = .ok (.istore 6, 2) := by decide +kernel
theorem dL_law_473 : decode cL_law 473 = .ok (.aload_n 1, 1) := by decide +kernel
theorem dL_law_474 : decode cL_law 474 = .ok (.bipush 10, 2) := by decide +kernel
theorem dL_law_476 : decode cL_law 476 = .ok (.invokevirtual 56, 3) := by decide +kernel
theorem dL_law_479 : decode cL_law 479 = .ok (.ifCond .le 56, 3) := by decide +kernel
theorem dL_law_482 : decode cL_law 482 = .ok (.iload 6, 2) := by decide +kernel
theorem dL_law_484 : decode cL_law 484 = .ok (.iload_n 3, 1) := by decide +kernel
theorem dL_law_485 : decode cL_law 485 = .ok (.if_icmp .ge 50, 3) := by decide +kernel
theorem dL_law_488 : decode cL_law 488 = .ok (.aload_n 1, 1) := by decide +kernel
theorem dL_law_489 : decode cL_law 489 = .ok (.bipush 10, 2) := by decide +kernel
theorem dL_law_491 : decode cL_law 491 = .ok (.invokevirtual 56, 3) := by decide +kernel
theorem dL_law_494 : decode cL_law 494 = .ok (.istore 7, 2) := by decide +kernel
theorem dL_law_496 : decode cL_law 496 = .ok (.iload 6, 2) := by decide +kernel
theorem dL_law_498 : decode cL_law 498 = .ok (.iconst 5, 1) := by decide +kernel
theorem dL_law_499 : decode cL_law 499 = .ok (.if_icmp .gt 28, 3) := by decide +kernel
theorem dL_law_502 : decode cL_law 502 = .ok (.aload_n 1, 1) := by decide +kernel
theorem dL_law_503 : decode cL_law 503 = .ok (.invokestatic 108, 3) := by decide +kernel
theorem dL_law_506 : decode cL_law 506 = .ok (.aload_n 2, 1) := by decide +kernel
theorem dL_law_507 : decode cL_law 507 = .ok (.iload_n 3, 1) := by decide +kernel
theorem dL_law_508 : decode cL_law 508 = .ok (.iload 6, 2) := by decide +kernel
theorem dL_law_510 : decode cL_law 510 = .ok (.isub, 1) := by decide +kernel
theorem dL_law_511 : decode cL_law 511 = .ok (.laload, 1) := by decide +kernel
theorem dL_law_512 : decode cL_law 512 = .ok (.lcmp, 1) := by decide +kernel
theorem dL_law_513 : decode cL_law 513 = .ok (.ifCond .ne 14, 3) := by decide +kernel
theorem dL_law_516 : decode cL_law 516 = .ok (.aload_n 1, 1) := by decide +kernel
theorem dL_law_517 : decode cL_law 517 = .ok (.invokevirtual 38, 3) := by decide +kernel
theorem dL_law_520 : decode cL_law 520 = .ok (.iload 7, 2) := by decide +kernel
theorem dL_law_522 : decode cL_law 522 = .ok (.iconst 1, 1) := by decide +kernel
theorem dL_law_523 : decode cL_law 523 = .ok (.isub, 1) := by decide +kernel
theorem dL_law_524 : decode cL_law 524 = .ok (.if_icmp .eq 5, 3) := by decide +kernel
theorem dL_law_527 : decode cL_law 527 = .ok (.iconst 0, 1) := by decide +kernel
theorem dL_law_528 : decode cL_law 528 = .ok (.ireturn, 1) := by decide +kernel
theorem dL_law_529 : decode cL_law 529 = .ok (.iinc 6 1, 3) := by decide +kernel
theorem dL_law_532 : decode cL_law 532 = .ok (.goto (-59), 3) := by decide +kernel
theorem dL_law_535 : decode cL_law 535 = .ok (.iconst 0, 1) := by decide +kernel
theorem dL_law_536 : decode cL_law 536 = .ok (.istore 6, 2) := by decide +kernel
theorem dL_law_538 : decode cL_law 538 = .ok (.iload 6, 2) := by decide +kernel
theorem dL_law_540 : decode cL_law 540 = .ok (.bipush 6, 2) := by decide +kernel
theorem dL_law_542 : decode cL_law 542 = .ok (.if_icmp .ge 27, 3) := by decide +kernel
theorem dL_law_545 : decode cL_law 545 = .ok (.aload_n 1, 1) := by decide +kernel
theorem dL_law_546 : decode cL_law 546 = .ok (.bipush 10, 2) := by decide +kernel
theorem dL_law_548 : decode cL_law 548 = .ok (.invokevirtual 56, 3) := by decide +kernel
theorem dL_law_551 : decode cL_law 551 = .ok (.ifCond .le 18, 3) := by decide +kernel
theorem dL_law_554 : decode cL_law 554 = .ok (.aload_n 1, 1) := by decide +kernel
theorem dL_law_555 : decode cL_law 555 = .ok (.invokevirtual 38, 3) := by decide +kernel
theorem dL_law_558 : decode cL_law 558 = .ok (.ifCond .ge 5, 3) := by decide +kernel
theorem dL_law_561 : decode cL_law 561 = .ok (.iconst 0, 1) := by decide +kernel
theorem dL_law_562 : decode cL_law 562 = .ok (.ireturn, 1) := by decide +kernel
theorem dL_law_563 : decode cL_law 563 = .ok (.iinc 6 1, 3) := by decide +kernel
theorem dL_law_566 : decode cL_law 566 = .ok (.goto (-28), 3) := by decide +kernel
theorem dL_law_569 : decode cL_law 569 = .ok (.aload_n 1, 1) := by decide +kernel
theorem dL_law_570 : decode cL_law 570 = .ok (.bipush 8, 2) := by decide +kernel
theorem dL_law_572 : decode cL_law 572 = .ok (.iconst 0, 1) := by decide +kernel
theorem dL_law_573 : decode cL_law 573 = .ok (.iconst 0, 1) := by decide +kernel
theorem dL_law_574 : decode cL_law 574 = .ok (.iconst 0, 1) := by decide +kernel
theorem dL_law_575 : decode cL_law 575 = .ok (.invokestatic 103, 3) := by decide +kernel
theorem dL_law_578 : decode cL_law 578 = .ok (.bipush (-13), 2) := by decide +kernel
theorem dL_law_580 : decode cL_law 580 = .ok (.if_icmp .ne 36, 3) := by decide +kernel
theorem dL_law_583 : decode cL_law 583 = .ok (.aload_n 1, 1) := by decide +kernel
theorem dL_law_584 : decode cL_law 584 = .ok (.iconst 1, 1) := by decide +kernel
theorem dL_law_585 : decode cL_law 585 = .ok (.invokevirtual 44, 3) := by decide +kernel
theorem dL_law_588 : decode cL_law 588 = .ok (.iconst 1, 1) := by decide +kernel
theorem dL_law_589 : decode cL_law 589 = .ok (.if_icmp .ne 27, 3) := by decide +kernel
theorem dL_law_592 : decode cL_law 592 = .ok (.aload_n 1, 1) := by decide +kernel
theorem dL_law_593 : decode cL_law 593 = .ok (.invokestatic 108, 3) := by decide +kernel
theorem dL_law_596 : decode cL_law 596 = .ok (.lload 4, 2) := by decide +kernel
theorem dL_law_598 : decode cL_law 598 = .ok (.lcmp, 1) := by decide +kernel
theorem dL_law_599 : decode cL_law 599 = .ok (.ifCond .ne 17, 3) := by decide +kernel
theorem dL_law_602 : decode cL_law 602 = .ok (.aload_n 1, 1) := by decide +kernel
theorem dL_law_603 : decode cL_law 603 = .ok (.bipush 10, 2) := by decide +kernel
theorem dL_law_605 : decode cL_law 605 = .ok (.invokevirtual 56, 3) := by decide +kernel
theorem dL_law_608 : decode cL_law 608 = .ok (.iconst 1, 1) := by decide +kernel
theorem dL_law_609 : decode cL_law 609 = .ok (.if_icmp .ne 7, 3) := by decide +kernel
theorem dL_law_612 : decode cL_law 612 = .ok (.iconst 1, 1) := by decide +kernel
theorem dL_law_613 : decode cL_law 613 = .ok (.goto 4, 3) := by decide +kernel
theorem dL_law_616 : decode cL_law 616 = .ok (.iconst 0, 1) := by decide +kernel
theorem dL_law_617 : decode cL_law 617 = .ok (.ireturn, 1) := by decide +kernel
