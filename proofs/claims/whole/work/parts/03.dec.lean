theorem dX0_init_0 : decode cX0_init 0 = .ok (.aload_n 0, 1) := by decide +kernel
theorem dX0_init_1 : decode cX0_init 1 = .ok (.invokespecial 3, 3) := by decide +kernel
theorem dX0_init_4 : decode cX0_init 4 = .ok (.aload_n 0, 1) := by decide +kernel
theorem dX0_init_5 : decode cX0_init 5 = .ok (.bipush 6, 2) := by decide +kernel
theorem dX0_init_7 : decode cX0_init 7 = .ok (.newarray .int, 2) := by decide +kernel
theorem dX0_init_9 : decode cX0_init 9 = .ok (.putfield 9, 3) := by decide +kernel
theorem dX0_init_12 : decode cX0_init 12 = .ok (.aload_n 0, 1) := by decide +kernel
theorem dX0_init_13 : decode cX0_init 13 = .ok (.bipush 6, 2) := by decide +kernel
theorem dX0_init_15 : decode cX0_init 15 = .ok (.newarray .int, 2) := by decide +kernel
theorem dX0_init_17 : decode cX0_init 17 = .ok (.putfield 15, 3) := by decide +kernel
theorem dX0_init_20 : decode cX0_init 20 = .ok (.aload_n 0, 1) := by decide +kernel
theorem dX0_init_21 : decode cX0_init 21 = .ok (.sipush 240, 3) := by decide +kernel
theorem dX0_init_24 : decode cX0_init 24 = .ok (.newarray .int, 2) := by decide +kernel
theorem dX0_init_26 : decode cX0_init 26 = .ok (.putfield 18, 3) := by decide +kernel
theorem dX0_init_29 : decode cX0_init 29 = .ok (.aload_n 0, 1) := by decide +kernel
theorem dX0_init_30 : decode cX0_init 30 = .ok (.sipush 240, 3) := by decide +kernel
theorem dX0_init_33 : decode cX0_init 33 = .ok (.newarray .int, 2) := by decide +kernel
theorem dX0_init_35 : decode cX0_init 35 = .ok (.putfield 21, 3) := by decide +kernel
theorem dX0_init_38 : decode cX0_init 38 = .ok (.return_, 1) := by decide +kernel
theorem dX0_copyFrom_0 : decode cX0_copyFrom 0 = .ok (.aload_n 1, 1) := by decide +kernel
theorem dX0_copyFrom_1 : decode cX0_copyFrom 1 = .ok (.getfield 9, 3) := by decide +kernel
theorem dX0_copyFrom_4 : decode cX0_copyFrom 4 = .ok (.aload_n 0, 1) := by decide +kernel
theorem dX0_copyFrom_5 : decode cX0_copyFrom 5 = .ok (.getfield 9, 3) := by decide +kernel
theorem dX0_copyFrom_8 : decode cX0_copyFrom 8 = .ok (.invokestatic 24, 3) := by decide +kernel
theorem dX0_copyFrom_11 : decode cX0_copyFrom 11 = .ok (.aload_n 1, 1) := by decide +kernel
theorem dX0_copyFrom_12 : decode cX0_copyFrom 12 = .ok (.getfield 15, 3) := by decide +kernel
theorem dX0_copyFrom_15 : decode cX0_copyFrom 15 = .ok (.aload_n 0, 1) := by decide +kernel
theorem dX0_copyFrom_16 : decode cX0_copyFrom 16 = .ok (.getfield 15, 3) := by decide +kernel
theorem dX0_copyFrom_19 : decode cX0_copyFrom 19 = .ok (.invokestatic 24, 3) := by decide +kernel
theorem dX0_copyFrom_22 : decode cX0_copyFrom 22 = .ok (.aload_n 1, 1) := by decide +kernel
theorem dX0_copyFrom_23 : decode cX0_copyFrom 23 = .ok (.getfield 18, 3) := by decide +kernel
theorem dX0_copyFrom_26 : decode cX0_copyFrom 26 = .ok (.aload_n 0, 1) := by decide +kernel
theorem dX0_copyFrom_27 : decode cX0_copyFrom 27 = .ok (.getfield 18, 3) := by decide +kernel
theorem dX0_copyFrom_30 : decode cX0_copyFrom 30 = .ok (.invokestatic 24, 3) := by decide +kernel
theorem dX0_copyFrom_33 : decode cX0_copyFrom 33 = .ok (.aload_n 1, 1) := by decide +kernel
theorem dX0_copyFrom_34 : decode cX0_copyFrom 34 = .ok (.getfield 21, 3) := by decide +kernel
theorem dX0_copyFrom_37 : decode cX0_copyFrom 37 = .ok (.aload_n 0, 1) := by decide +kernel
theorem dX0_copyFrom_38 : decode cX0_copyFrom 38 = .ok (.getfield 21, 3) := by decide +kernel
theorem dX0_copyFrom_41 : decode cX0_copyFrom 41 = .ok (.invokestatic 24, 3) := by decide +kernel
theorem dX0_copyFrom_44 : decode cX0_copyFrom 44 = .ok (.aload_n 0, 1) := by decide +kernel
theorem dX0_copyFrom_45 : decode cX0_copyFrom 45 = .ok (.aload_n 1, 1) := by decide +kernel
theorem dX0_copyFrom_46 : decode cX0_copyFrom 46 = .ok (.getfield 28, 3) := by decide +kernel
theorem dX0_copyFrom_49 : decode cX0_copyFrom 49 = .ok (.putfield 28, 3) := by decide +kernel
theorem dX0_copyFrom_52 : decode cX0_copyFrom 52 = .ok (.return_, 1) := by decide +kernel
theorem dX0_firstOf_0 : decode cX0_firstOf 0 = .ok (.iload_n 1, 1) := by decide +kernel
theorem dX0_firstOf_1 : decode cX0_firstOf 1 = .ok (.ifCond .lt 21, 3) := by decide +kernel
theorem dX0_firstOf_4 : decode cX0_firstOf 4 = .ok (.iload_n 1, 1) := by decide +kernel
theorem dX0_firstOf_5 : decode cX0_firstOf 5 = .ok (.aload_n 0, 1) := by decide +kernel
theorem dX0_firstOf_6 : decode cX0_firstOf 6 = .ok (.getfield 9, 3) := by decide +kernel
theorem dX0_firstOf_9 : decode cX0_firstOf 9 = .ok (.arraylength, 1) := by decide +kernel
theorem dX0_firstOf_10 : decode cX0_firstOf 10 = .ok (.if_icmp .ge 12, 3) := by decide +kernel
theorem dX0_firstOf_13 : decode cX0_firstOf 13 = .ok (.aload_n 0, 1) := by decide +kernel
theorem dX0_firstOf_14 : decode cX0_firstOf 14 = .ok (.getfield 9, 3) := by decide +kernel
theorem dX0_firstOf_17 : decode cX0_firstOf 17 = .ok (.iload_n 1, 1) := by decide +kernel
theorem dX0_firstOf_18 : decode cX0_firstOf 18 = .ok (.iaload, 1) := by decide +kernel
theorem dX0_firstOf_19 : decode cX0_firstOf 19 = .ok (.goto 4, 3) := by decide +kernel
theorem dX0_firstOf_22 : decode cX0_firstOf 22 = .ok (.iconst (-1), 1) := by decide +kernel
theorem dX0_firstOf_23 : decode cX0_firstOf 23 = .ok (.ireturn, 1) := by decide +kernel
theorem dX0_sizeOf_0 : decode cX0_sizeOf 0 = .ok (.iload_n 1, 1) := by decide +kernel
theorem dX0_sizeOf_1 : decode cX0_sizeOf 1 = .ok (.ifCond .lt 21, 3) := by decide +kernel
theorem dX0_sizeOf_4 : decode cX0_sizeOf 4 = .ok (.iload_n 1, 1) := by decide +kernel
theorem dX0_sizeOf_5 : decode cX0_sizeOf 5 = .ok (.aload_n 0, 1) := by decide +kernel
theorem dX0_sizeOf_6 : decode cX0_sizeOf 6 = .ok (.getfield 15, 3) := by decide +kernel
theorem dX0_sizeOf_9 : decode cX0_sizeOf 9 = .ok (.arraylength, 1) := by decide +kernel
theorem dX0_sizeOf_10 : decode cX0_sizeOf 10 = .ok (.if_icmp .ge 12, 3) := by decide +kernel
theorem dX0_sizeOf_13 : decode cX0_sizeOf 13 = .ok (.aload_n 0, 1) := by decide +kernel
theorem dX0_sizeOf_14 : decode cX0_sizeOf 14 = .ok (.getfield 15, 3) := by decide +kernel
theorem dX0_sizeOf_17 : decode cX0_sizeOf 17 = .ok (.iload_n 1, 1) := by decide +kernel
theorem dX0_sizeOf_18 : decode cX0_sizeOf 18 = .ok (.iaload, 1) := by decide +kernel
theorem dX0_sizeOf_19 : decode cX0_sizeOf 19 = .ok (.goto 4, 3) := by decide +kernel
theorem dX0_sizeOf_22 : decode cX0_sizeOf 22 = .ok (.iconst 0, 1) := by decide +kernel
theorem dX0_sizeOf_23 : decode cX0_sizeOf 23 = .ok (.ireturn, 1) := by decide +kernel
theorem dX0_canTake_0 : decode cX0_canTake 0 = .ok (.aload_n 0, 1) := by decide +kernel
theorem dX0_canTake_1 : decode cX0_canTake 1 = .ok (.getfield 28, 3) := by decide +kernel
theorem dX0_canTake_4 : decode cX0_canTake 4 = .ok (.bipush 6, 2) := by decide +kernel
theorem dX0_canTake_6 : decode cX0_canTake 6 = .ok (.if_icmp .lt 5, 3) := by decide +kernel
theorem dX0_canTake_9 : decode cX0_canTake 9 = .ok (.iconst 0, 1) := by decide +kernel
theorem dX0_canTake_10 : decode cX0_canTake 10 = .ok (.ireturn, 1) := by decide +kernel
theorem dX0_canTake_11 : decode cX0_canTake 11 = .ok (.iconst 0, 1) := by decide +kernel
theorem dX0_canTake_12 : decode cX0_canTake 12 = .ok (.istore_n 3, 1) := by decide +kernel
theorem dX0_canTake_13 : decode cX0_canTake 13 = .ok (.iload_n 3, 1) := by decide +kernel
theorem dX0_canTake_14 : decode cX0_canTake 14 = .ok (.aload_n 0, 1) := by decide +kernel
theorem dX0_canTake_15 : decode cX0_canTake 15 = .ok (.getfield 28, 3) := by decide +kernel
theorem dX0_canTake_18 : decode cX0_canTake 18 = .ok (.if_icmp .ge 38, 3) := by decide +kernel
theorem dX0_canTake_21 : decode cX0_canTake 21 = .ok (.aload_n 0, 1) := by decide +kernel
theorem dX0_canTake_22 : decode cX0_canTake 22 = .ok (.iload_n 3, 1) := by decide +kernel
theorem dX0_canTake_23 : decode cX0_canTake 23 = .ok (.invokevirtual 32, 3) := by decide +kernel
theorem dX0_canTake_26 : decode cX0_canTake 26 = .ok (.istore 4, 2) := by decide +kernel
theorem dX0_canTake_28 : decode cX0_canTake 28 = .ok (.iload_n 1, 1) := by decide +kernel
theorem dX0_canTake_29 : decode cX0_canTake 29 = .ok (.iload 4, 2) := by decide +kernel
theorem dX0_canTake_31 : decode cX0_canTake 31 = .ok (.aload_n 0, 1) := by decide +kernel
theorem dX0_canTake_32 : decode cX0_canTake 32 = .ok (.iload_n 3, 1) := by decide +kernel
theorem dX0_canTake_33 : decode cX0_canTake 33 = .ok (.invokevirtual 36, 3) := by decide +kernel
theorem dX0_canTake_36 : decode cX0_canTake 36 = .ok (.iadd, 1) := by decide +kernel
theorem dX0_canTake_37 : decode cX0_canTake 37 = .ok (.if_icmp .ge 13, 3) := by decide +kernel
theorem dX0_canTake_40 : decode cX0_canTake 40 = .ok (.iload 4, 2) := by decide +kernel
theorem dX0_canTake_42 : decode cX0_canTake 42 = .ok (.iload_n 1, 1) := by decide +kernel
theorem dX0_canTake_43 : decode cX0_canTake 43 = .ok (.iload_n 2, 1) := by decide +kernel
theorem dX0_canTake_44 : decode cX0_canTake 44 = .ok (.iadd, 1) := by decide +kernel
theorem dX0_canTake_45 : decode cX0_canTake 45 = .ok (.if_icmp .ge 5, 3) := by decide +kernel
theorem dX0_canTake_48 : decode cX0_canTake 48 = .ok (.iconst 0, 1) := by decide +kernel
theorem dX0_canTake_49 : decode cX0_canTake 49 = .ok (.ireturn, 1) := by decide +kernel
theorem dX0_canTake_50 : decode cX0_canTake 50 = .ok (.iinc 3 1, 3) := by decide +kernel
theorem dX0_canTake_53 : decode cX0_canTake 53 = .ok (.goto (-40), 3) := by decide +kernel
theorem dX0_canTake_56 : decode cX0_canTake 56 = .ok (.iconst 1, 1) := by decide +kernel
theorem dX0_canTake_57 : decode cX0_canTake 57 = .ok (.ireturn, 1) := by decide +kernel
theorem dX0_add_0 : decode cX0_add 0 = .ok (.aload_n 0, 1) := by decide +kernel
theorem dX0_add_1 : decode cX0_add 1 = .ok (.getfield 28, 3) := by decide +kernel
theorem dX0_add_4 : decode cX0_add 4 = .ok (.istore_n 3, 1) := by decide +kernel
theorem dX0_add_5 : decode cX0_add 5 = .ok (.iload_n 3, 1) := by decide +kernel
theorem dX0_add_6 : decode cX0_add 6 = .ok (.ifCond .lt 21, 3) := by decide +kernel
theorem dX0_add_9 : decode cX0_add 9 = .ok (.iload_n 3, 1) := by decide +kernel
theorem dX0_add_10 : decode cX0_add 10 = .ok (.aload_n 0, 1) := by decide +kernel
theorem dX0_add_11 : decode cX0_add 11 = .ok (.getfield 9, 3) := by decide +kernel
theorem dX0_add_14 : decode cX0_add 14 = .ok (.arraylength, 1) := by decide +kernel
theorem dX0_add_15 : decode cX0_add 15 = .ok (.if_icmp .ge 12, 3) := by decide +kernel
theorem dX0_add_18 : decode cX0_add 18 = .ok (.iload_n 3, 1) := by decide +kernel
theorem dX0_add_19 : decode cX0_add 19 = .ok (.aload_n 0, 1) := by decide +kernel
theorem dX0_add_20 : decode cX0_add 20 = .ok (.getfield 15, 3) := by decide +kernel
theorem dX0_add_23 : decode cX0_add 23 = .ok (.arraylength, 1) := by decide +kernel
theorem dX0_add_24 : decode cX0_add 24 = .ok (.if_icmp .lt 5, 3) := by decide +kernel
theorem dX0_add_27 : decode cX0_add 27 = .ok (.iconst (-1), 1) := by decide +kernel
theorem dX0_add_28 : decode cX0_add 28 = .ok (.ireturn, 1) := by decide +kernel
theorem dX0_add_29 : decode cX0_add 29 = .ok (.aload_n 0, 1) := by decide +kernel
theorem dX0_add_30 : decode cX0_add 30 = .ok (.getfield 9, 3) := by decide +kernel
theorem dX0_add_33 : decode cX0_add 33 = .ok (.iload_n 3, 1) := by decide +kernel
theorem dX0_add_34 : decode cX0_add 34 = .ok (.iload_n 1, 1) := by decide +kernel
theorem dX0_add_35 : decode cX0_add 35 = .ok (.iastore, 1) := by decide +kernel
theorem dX0_add_36 : decode cX0_add 36 = .ok (.aload_n 0, 1) := by decide +kernel
theorem dX0_add_37 : decode cX0_add 37 = .ok (.getfield 15, 3) := by decide +kernel
theorem dX0_add_40 : decode cX0_add 40 = .ok (.iload_n 3, 1) := by decide +kernel
theorem dX0_add_41 : decode cX0_add 41 = .ok (.iload_n 2, 1) := by decide +kernel
theorem dX0_add_42 : decode cX0_add 42 = .ok (.iastore, 1) := by decide +kernel
theorem dX0_add_43 : decode cX0_add 43 = .ok (.iconst 0, 1) := by decide +kernel
theorem dX0_add_44 : decode cX0_add 44 = .ok (.istore 4, 2) := by decide +kernel
theorem dX0_add_46 : decode cX0_add 46 = .ok (.iload 4, 2) := by decide +kernel
theorem dX0_add_48 : decode cX0_add 48 = .ok (.iload_n 2, 1) := by decide +kernel
theorem dX0_add_49 : decode cX0_add 49 = .ok (.if_icmp .ge 22, 3) := by decide +kernel
theorem dX0_add_52 : decode cX0_add 52 = .ok (.aload_n 0, 1) := by decide +kernel
theorem dX0_add_53 : decode cX0_add 53 = .ok (.iload_n 3, 1) := by decide +kernel
theorem dX0_add_54 : decode cX0_add 54 = .ok (.bipush 40, 2) := by decide +kernel
theorem dX0_add_56 : decode cX0_add 56 = .ok (.imul, 1) := by decide +kernel
theorem dX0_add_57 : decode cX0_add 57 = .ok (.iload 4, 2) := by decide +kernel
theorem dX0_add_59 : decode cX0_add 59 = .ok (.iadd, 1) := by decide +kernel
theorem dX0_add_60 : decode cX0_add 60 = .ok (.iconst 0, 1) := by decide +kernel
theorem dX0_add_61 : decode cX0_add 61 = .ok (.iconst 0, 1) := by decide +kernel
theorem dX0_add_62 : decode cX0_add 62 = .ok (.invokevirtual 39, 3) := by decide +kernel
theorem dX0_add_65 : decode cX0_add 65 = .ok (.iinc 4 1, 3) := by decide +kernel
theorem dX0_add_68 : decode cX0_add 68 = .ok (.goto (-22), 3) := by decide +kernel
theorem dX0_add_71 : decode cX0_add 71 = .ok (.aload_n 0, 1) := by decide +kernel
theorem dX0_add_72 : decode cX0_add 72 = .ok (.iload_n 3, 1) := by decide +kernel
theorem dX0_add_73 : decode cX0_add 73 = .ok (.iconst 1, 1) := by decide +kernel
theorem dX0_add_74 : decode cX0_add 74 = .ok (.iadd, 1) := by decide +kernel
theorem dX0_add_75 : decode cX0_add 75 = .ok (.putfield 28, 3) := by decide +kernel
theorem dX0_add_78 : decode cX0_add 78 = .ok (.iload_n 3, 1) := by decide +kernel
theorem dX0_add_79 : decode cX0_add 79 = .ok (.ireturn, 1) := by decide +kernel
theorem dX0_cellOf_0 : decode cX0_cellOf 0 = .ok (.iconst 0, 1) := by decide +kernel
theorem dX0_cellOf_1 : decode cX0_cellOf 1 = .ok (.istore_n 2, 1) := by decide +kernel
theorem dX0_cellOf_2 : decode cX0_cellOf 2 = .ok (.iload_n 2, 1) := by decide +kernel
theorem dX0_cellOf_3 : decode cX0_cellOf 3 = .ok (.aload_n 0, 1) := by decide +kernel
theorem dX0_cellOf_4 : decode cX0_cellOf 4 = .ok (.getfield 28, 3) := by decide +kernel
theorem dX0_cellOf_7 : decode cX0_cellOf 7 = .ok (.if_icmp .ge 40, 3) := by decide +kernel
theorem dX0_cellOf_10 : decode cX0_cellOf 10 = .ok (.aload_n 0, 1) := by decide +kernel
theorem dX0_cellOf_11 : decode cX0_cellOf 11 = .ok (.iload_n 2, 1) := by decide +kernel
theorem dX0_cellOf_12 : decode cX0_cellOf 12 = .ok (.invokevirtual 32, 3) := by decide +kernel
theorem dX0_cellOf_15 : decode cX0_cellOf 15 = .ok (.istore_n 3, 1) := by decide +kernel
theorem dX0_cellOf_16 : decode cX0_cellOf 16 = .ok (.iload_n 1, 1) := by decide +kernel
theorem dX0_cellOf_17 : decode cX0_cellOf 17 = .ok (.iload_n 3, 1) := by decide +kernel
theorem dX0_cellOf_18 : decode cX0_cellOf 18 = .ok (.if_icmp .lt 23, 3) := by decide +kernel
theorem dX0_cellOf_21 : decode cX0_cellOf 21 = .ok (.iload_n 1, 1) := by decide +kernel
theorem dX0_cellOf_22 : decode cX0_cellOf 22 = .ok (.iload_n 3, 1) := by decide +kernel
theorem dX0_cellOf_23 : decode cX0_cellOf 23 = .ok (.aload_n 0, 1) := by decide +kernel
theorem dX0_cellOf_24 : decode cX0_cellOf 24 = .ok (.iload_n 2, 1) := by decide +kernel
theorem dX0_cellOf_25 : decode cX0_cellOf 25 = .ok (.invokevirtual 36, 3) := by decide +kernel
theorem dX0_cellOf_28 : decode cX0_cellOf 28 = .ok (.iadd, 1) := by decide +kernel
theorem dX0_cellOf_29 : decode cX0_cellOf 29 = .ok (.if_icmp .ge 12, 3) := by decide +kernel
theorem dX0_cellOf_32 : decode cX0_cellOf 32 = .ok (.iload_n 2, 1) := by decide +kernel
theorem dX0_cellOf_33 : decode cX0_cellOf 33 = .ok (.bipush 40, 2) := by decide +kernel
theorem dX0_cellOf_35 : decode cX0_cellOf 35 = .ok (.imul, 1) := by decide +kernel
theorem dX0_cellOf_36 : decode cX0_cellOf 36 = .ok (.iload_n 1, 1) := by decide +kernel
theorem dX0_cellOf_37 : decode cX0_cellOf 37 = .ok (.iadd, 1) := by decide +kernel
theorem dX0_cellOf_38 : decode cX0_cellOf 38 = .ok (.iload_n 3, 1) := by decide +kernel
theorem dX0_cellOf_39 : decode cX0_cellOf 39 = .ok (.isub, 1) := by decide +kernel
theorem dX0_cellOf_40 : decode cX0_cellOf 40 = .ok (.ireturn, 1) := by decide +kernel
theorem dX0_cellOf_41 : decode cX0_cellOf 41 = .ok (.iinc 2 1, 3) := by decide +kernel
theorem dX0_cellOf_44 : decode cX0_cellOf 44 = .ok (.goto (-42), 3) := by decide +kernel
theorem dX0_cellOf_47 : decode cX0_cellOf 47 = .ok (.iconst (-1), 1) := by decide +kernel
theorem dX0_cellOf_48 : decode cX0_cellOf 48 = .ok (.ireturn, 1) := by decide +kernel
theorem dX0_kindAt_0 : decode cX0_kindAt 0 = .ok (.iload_n 1, 1) := by decide +kernel
theorem dX0_kindAt_1 : decode cX0_kindAt 1 = .ok (.ifCond .lt 21, 3) := by decide +kernel
theorem dX0_kindAt_4 : decode cX0_kindAt 4 = .ok (.iload_n 1, 1) := by decide +kernel
theorem dX0_kindAt_5 : decode cX0_kindAt 5 = .ok (.aload_n 0, 1) := by decide +kernel
theorem dX0_kindAt_6 : decode cX0_kindAt 6 = .ok (.getfield 18, 3) := by decide +kernel
theorem dX0_kindAt_9 : decode cX0_kindAt 9 = .ok (.arraylength, 1) := by decide +kernel
theorem dX0_kindAt_10 : decode cX0_kindAt 10 = .ok (.if_icmp .ge 12, 3) := by decide +kernel
theorem dX0_kindAt_13 : decode cX0_kindAt 13 = .ok (.aload_n 0, 1) := by decide +kernel
theorem dX0_kindAt_14 : decode cX0_kindAt 14 = .ok (.getfield 18, 3) := by decide +kernel
theorem dX0_kindAt_17 : decode cX0_kindAt 17 = .ok (.iload_n 1, 1) := by decide +kernel
theorem dX0_kindAt_18 : decode cX0_kindAt 18 = .ok (.iaload, 1) := by decide +kernel
theorem dX0_kindAt_19 : decode cX0_kindAt 19 = .ok (.goto 4, 3) := by decide +kernel
theorem dX0_kindAt_22 : decode cX0_kindAt 22 = .ok (.iconst (-1), 1) := by decide +kernel
theorem dX0_kindAt_23 : decode cX0_kindAt 23 = .ok (.ireturn, 1) := by decide +kernel
theorem dX0_amountAt_0 : decode cX0_amountAt 0 = .ok (.iload_n 1, 1) := by decide +kernel
theorem dX0_amountAt_1 : decode cX0_amountAt 1 = .ok (.ifCond .lt 21, 3) := by decide +kernel
theorem dX0_amountAt_4 : decode cX0_amountAt 4 = .ok (.iload_n 1, 1) := by decide +kernel
theorem dX0_amountAt_5 : decode cX0_amountAt 5 = .ok (.aload_n 0, 1) := by decide +kernel
theorem dX0_amountAt_6 : decode cX0_amountAt 6 = .ok (.getfield 21, 3) := by decide +kernel
theorem dX0_amountAt_9 : decode cX0_amountAt 9 = .ok (.arraylength, 1) := by decide +kernel
theorem dX0_amountAt_10 : decode cX0_amountAt 10 = .ok (.if_icmp .ge 12, 3) := by decide +kernel
theorem dX0_amountAt_13 : decode cX0_amountAt 13 = .ok (.aload_n 0, 1) := by decide +kernel
theorem dX0_amountAt_14 : decode cX0_amountAt 14 = .ok (.getfield 21, 3) := by decide +kernel
theorem dX0_amountAt_17 : decode cX0_amountAt 17 = .ok (.iload_n 1, 1) := by decide +kernel
theorem dX0_amountAt_18 : decode cX0_amountAt 18 = .ok (.iaload, 1) := by decide +kernel
theorem dX0_amountAt_19 : decode cX0_amountAt 19 = .ok (.goto 4, 3) := by decide +kernel
theorem dX0_amountAt_22 : decode cX0_amountAt 22 = .ok (.iconst 0, 1) := by decide +kernel
theorem dX0_amountAt_23 : decode cX0_amountAt 23 = .ok (.ireturn, 1) := by decide +kernel
theorem dX0_setCell_0 : decode cX0_setCell 0 = .ok (.iload_n 1, 1) := by decide +kernel
theorem dX0_setCell_1 : decode cX0_setCell 1 = .ok (.ifCond .lt 35, 3) := by decide +kernel
theorem dX0_setCell_4 : decode cX0_setCell 4 = .ok (.iload_n 1, 1) := by decide +kernel
theorem dX0_setCell_5 : decode cX0_setCell 5 = .ok (.aload_n 0, 1) := by decide +kernel
theorem dX0_setCell_6 : decode cX0_setCell 6 = .ok (.getfield 18, 3) := by decide +kernel
theorem dX0_setCell_9 : decode cX0_setCell 9 = .ok (.arraylength, 1) := by decide +kernel
theorem dX0_setCell_10 : decode cX0_setCell 10 = .ok (.if_icmp .ge 26, 3) := by decide +kernel
theorem dX0_setCell_13 : decode cX0_setCell 13 = .ok (.iload_n 1, 1) := by decide +kernel
theorem dX0_setCell_14 : decode cX0_setCell 14 = .ok (.aload_n 0, 1) := by decide +kernel
theorem dX0_setCell_15 : decode cX0_setCell 15 = .ok (.getfield 21, 3) := by decide +kernel
theorem dX0_setCell_18 : decode cX0_setCell 18 = .ok (.arraylength, 1) := by decide +kernel
theorem dX0_setCell_19 : decode cX0_setCell 19 = .ok (.if_icmp .ge 17, 3) := by decide +kernel
theorem dX0_setCell_22 : decode cX0_setCell 22 = .ok (.aload_n 0, 1) := by decide +kernel
theorem dX0_setCell_23 : decode cX0_setCell 23 = .ok (.getfield 18, 3) := by decide +kernel
theorem dX0_setCell_26 : decode cX0_setCell 26 = .ok (.iload_n 1, 1) := by decide +kernel
theorem dX0_setCell_27 : decode cX0_setCell 27 = .ok (.iload_n 2, 1) := by decide +kernel
theorem dX0_setCell_28 : decode cX0_setCell 28 = .ok (.iastore, 1) := by decide +kernel
theorem dX0_setCell_29 : decode cX0_setCell 29 = .ok (.aload_n 0, 1) := by decide +kernel
theorem dX0_setCell_30 : decode cX0_setCell 30 = .ok (.getfield 21, 3) := by decide +kernel
theorem dX0_setCell_33 : decode cX0_setCell 33 = .ok (.iload_n 1, 1) := by decide +kernel
theorem dX0_setCell_34 : decode cX0_setCell 34 = .ok (.iload_n 3, 1) := by decide +kernel
theorem dX0_setCell_35 : decode cX0_setCell 35 = .ok (.iastore, 1) := by decide +kernel
theorem dX0_setCell_36 : decode cX0_setCell 36 = .ok (.return_, 1) := by decide +kernel
theorem dX0_makeWritten_0 : decode cX0_makeWritten 0 = .ok (.aload_n 0, 1) := by decide +kernel
theorem dX0_makeWritten_1 : decode cX0_makeWritten 1 = .ok (.iload_n 1, 1) := by decide +kernel
theorem dX0_makeWritten_2 : decode cX0_makeWritten 2 = .ok (.iconst 1, 1) := by decide +kernel
theorem dX0_makeWritten_3 : decode cX0_makeWritten 3 = .ok (.iload_n 2, 1) := by decide +kernel
theorem dX0_makeWritten_4 : decode cX0_makeWritten 4 = .ok (.invokevirtual 39, 3) := by decide +kernel
theorem dX0_makeWritten_7 : decode cX0_makeWritten 7 = .ok (.return_, 1) := by decide +kernel
theorem dX0_makeCashed_0 : decode cX0_makeCashed 0 = .ok (.aload_n 0, 1) := by decide +kernel
theorem dX0_makeCashed_1 : decode cX0_makeCashed 1 = .ok (.iload_n 1, 1) := by decide +kernel
theorem dX0_makeCashed_2 : decode cX0_makeCashed 2 = .ok (.iconst 2, 1) := by decide +kernel
theorem dX0_makeCashed_3 : decode cX0_makeCashed 3 = .ok (.aload_n 0, 1) := by decide +kernel
theorem dX0_makeCashed_4 : decode cX0_makeCashed 4 = .ok (.iload_n 1, 1) := by decide +kernel
theorem dX0_makeCashed_5 : decode cX0_makeCashed 5 = .ok (.invokevirtual 43, 3) := by decide +kernel
theorem dX0_makeCashed_8 : decode cX0_makeCashed 8 = .ok (.invokevirtual 39, 3) := by decide +kernel
theorem dX0_makeCashed_11 : decode cX0_makeCashed 11 = .ok (.return_, 1) := by decide +kernel
theorem dX0_makeRunVoid_0 : decode cX0_makeRunVoid 0 = .ok (.iconst 0, 1) := by decide +kernel
theorem dX0_makeRunVoid_1 : decode cX0_makeRunVoid 1 = .ok (.istore_n 3, 1) := by decide +kernel
theorem dX0_makeRunVoid_2 : decode cX0_makeRunVoid 2 = .ok (.iconst 0, 1) := by decide +kernel
theorem dX0_makeRunVoid_3 : decode cX0_makeRunVoid 3 = .ok (.istore 4, 2) := by decide +kernel
theorem dX0_makeRunVoid_5 : decode cX0_makeRunVoid 5 = .ok (.iload 4, 2) := by decide +kernel
theorem dX0_makeRunVoid_7 : decode cX0_makeRunVoid 7 = .ok (.aload_n 0, 1) := by decide +kernel
theorem dX0_makeRunVoid_8 : decode cX0_makeRunVoid 8 = .ok (.getfield 28, 3) := by decide +kernel
theorem dX0_makeRunVoid_11 : decode cX0_makeRunVoid 11 = .ok (.if_icmp .ge 73, 3) := by decide +kernel
theorem dX0_makeRunVoid_14 : decode cX0_makeRunVoid 14 = .ok (.aload_n 0, 1) := by decide +kernel
theorem dX0_makeRunVoid_15 : decode cX0_makeRunVoid 15 = .ok (.iload 4, 2) := by decide +kernel
theorem dX0_makeRunVoid_17 : decode cX0_makeRunVoid 17 = .ok (.invokevirtual 32, 3) := by decide +kernel
theorem dX0_makeRunVoid_20 : decode cX0_makeRunVoid 20 = .ok (.istore 5, 2) := by decide +kernel
theorem dX0_makeRunVoid_22 : decode cX0_makeRunVoid 22 = .ok (.iload_n 2, 1) := by decide +kernel
theorem dX0_makeRunVoid_23 : decode cX0_makeRunVoid 23 = .ok (.iload 5, 2) := by decide +kernel
theorem dX0_makeRunVoid_25 : decode cX0_makeRunVoid 25 = .ok (.aload_n 0, 1) := by decide +kernel
theorem dX0_makeRunVoid_26 : decode cX0_makeRunVoid 26 = .ok (.iload 4, 2) := by decide +kernel
theorem dX0_makeRunVoid_28 : decode cX0_makeRunVoid 28 = .ok (.invokevirtual 36, 3) := by decide +kernel
theorem dX0_makeRunVoid_31 : decode cX0_makeRunVoid 31 = .ok (.iadd, 1) := by decide +kernel
theorem dX0_makeRunVoid_32 : decode cX0_makeRunVoid 32 = .ok (.iconst 1, 1) := by decide +kernel
theorem dX0_makeRunVoid_33 : decode cX0_makeRunVoid 33 = .ok (.isub, 1) := by decide +kernel
theorem dX0_makeRunVoid_34 : decode cX0_makeRunVoid 34 = .ok (.invokestatic 46, 3) := by decide +kernel
theorem dX0_makeRunVoid_37 : decode cX0_makeRunVoid 37 = .ok (.istore 6, 2) := by decide +kernel
theorem dX0_makeRunVoid_39 : decode cX0_makeRunVoid 39 = .ok (.iload_n 1, 1) := by decide +kernel
theorem dX0_makeRunVoid_40 : decode cX0_makeRunVoid 40 = .ok (.iload 5, 2) := by decide +kernel
theorem dX0_makeRunVoid_42 : decode cX0_makeRunVoid 42 = .ok (.invokestatic 52, 3) := by decide +kernel
theorem dX0_makeRunVoid_45 : decode cX0_makeRunVoid 45 = .ok (.istore 7, 2) := by decide +kernel
theorem dX0_makeRunVoid_47 : decode cX0_makeRunVoid 47 = .ok (.iload 7, 2) := by decide +kernel
theorem dX0_makeRunVoid_49 : decode cX0_makeRunVoid 49 = .ok (.iload 6, 2) := by decide +kernel
theorem dX0_makeRunVoid_51 : decode cX0_makeRunVoid 51 = .ok (.if_icmp .gt 27, 3) := by decide +kernel
theorem dX0_makeRunVoid_54 : decode cX0_makeRunVoid 54 = .ok (.iload_n 3, 1) := by decide +kernel
theorem dX0_makeRunVoid_55 : decode cX0_makeRunVoid 55 = .ok (.aload_n 0, 1) := by decide +kernel
theorem dX0_makeRunVoid_56 : decode cX0_makeRunVoid 56 = .ok (.iload 4, 2) := by decide +kernel
theorem dX0_makeRunVoid_58 : decode cX0_makeRunVoid 58 = .ok (.bipush 40, 2) := by decide +kernel
theorem dX0_makeRunVoid_60 : decode cX0_makeRunVoid 60 = .ok (.imul, 1) := by decide +kernel
theorem dX0_makeRunVoid_61 : decode cX0_makeRunVoid 61 = .ok (.iload 7, 2) := by decide +kernel
theorem dX0_makeRunVoid_63 : decode cX0_makeRunVoid 63 = .ok (.iadd, 1) := by decide +kernel
theorem dX0_makeRunVoid_64 : decode cX0_makeRunVoid 64 = .ok (.iload 5, 2) := by decide +kernel
theorem dX0_makeRunVoid_66 : decode cX0_makeRunVoid 66 = .ok (.isub, 1) := by decide +kernel
theorem dX0_makeRunVoid_67 : decode cX0_makeRunVoid 67 = .ok (.invokevirtual 55, 3) := by decide +kernel
theorem dX0_makeRunVoid_70 : decode cX0_makeRunVoid 70 = .ok (.iadd, 1) := by decide +kernel
theorem dX0_makeRunVoid_71 : decode cX0_makeRunVoid 71 = .ok (.istore_n 3, 1) := by decide +kernel
theorem dX0_makeRunVoid_72 : decode cX0_makeRunVoid 72 = .ok (.iinc 7 1, 3) := by decide +kernel
theorem dX0_makeRunVoid_75 : decode cX0_makeRunVoid 75 = .ok (.goto (-28), 3) := by decide +kernel
theorem dX0_makeRunVoid_78 : decode cX0_makeRunVoid 78 = .ok (.iinc 4 1, 3) := by decide +kernel
theorem dX0_makeRunVoid_81 : decode cX0_makeRunVoid 81 = .ok (.goto (-76), 3) := by decide +kernel
theorem dX0_makeRunVoid_84 : decode cX0_makeRunVoid 84 = .ok (.iload_n 3, 1) := by decide +kernel
theorem dX0_makeRunVoid_85 : decode cX0_makeRunVoid 85 = .ok (.ireturn, 1) := by decide +kernel
theorem dX0_makeVoid_0 : decode cX0_makeVoid 0 = .ok (.aload_n 0, 1) := by decide +kernel
theorem dX0_makeVoid_1 : decode cX0_makeVoid 1 = .ok (.iload_n 1, 1) := by decide +kernel
theorem dX0_makeVoid_2 : decode cX0_makeVoid 2 = .ok (.invokevirtual 58, 3) := by decide +kernel
theorem dX0_makeVoid_5 : decode cX0_makeVoid 5 = .ok (.istore_n 2, 1) := by decide +kernel
theorem dX0_makeVoid_6 : decode cX0_makeVoid 6 = .ok (.iload_n 2, 1) := by decide +kernel
theorem dX0_makeVoid_7 : decode cX0_makeVoid 7 = .ok (.ifCond .eq 10, 3) := by decide +kernel
theorem dX0_makeVoid_10 : decode cX0_makeVoid 10 = .ok (.iload_n 2, 1) := by decide +kernel
theorem dX0_makeVoid_11 : decode cX0_makeVoid 11 = .ok (.iconst 1, 1) := by decide +kernel
theorem dX0_makeVoid_12 : decode cX0_makeVoid 12 = .ok (.if_icmp .eq 5, 3) := by decide +kernel
theorem dX0_makeVoid_15 : decode cX0_makeVoid 15 = .ok (.iconst 0, 1) := by decide +kernel
theorem dX0_makeVoid_16 : decode cX0_makeVoid 16 = .ok (.ireturn, 1) := by decide +kernel
theorem dX0_makeVoid_17 : decode cX0_makeVoid 17 = .ok (.aload_n 0, 1) := by decide +kernel
theorem dX0_makeVoid_18 : decode cX0_makeVoid 18 = .ok (.iload_n 1, 1) := by decide +kernel
theorem dX0_makeVoid_19 : decode cX0_makeVoid 19 = .ok (.iconst 3, 1) := by decide +kernel
theorem dX0_makeVoid_20 : decode cX0_makeVoid 20 = .ok (.iconst 0, 1) := by decide +kernel
theorem dX0_makeVoid_21 : decode cX0_makeVoid 21 = .ok (.invokevirtual 39, 3) := by decide +kernel
theorem dX0_makeVoid_24 : decode cX0_makeVoid 24 = .ok (.iconst 1, 1) := by decide +kernel
theorem dX0_makeVoid_25 : decode cX0_makeVoid 25 = .ok (.ireturn, 1) := by decide +kernel
theorem dX0_sameKindFrom_0 : decode cX0_sameKindFrom 0 = .ok (.iload_n 1, 1) := by decide +kernel
theorem dX0_sameKindFrom_1 : decode cX0_sameKindFrom 1 = .ok (.bipush 40, 2) := by decide +kernel
theorem dX0_sameKindFrom_3 : decode cX0_sameKindFrom 3 = .ok (.idiv, 1) := by decide +kernel
theorem dX0_sameKindFrom_4 : decode cX0_sameKindFrom 4 = .ok (.istore_n 2, 1) := by decide +kernel
theorem dX0_sameKindFrom_5 : decode cX0_sameKindFrom 5 = .ok (.iload_n 2, 1) := by decide +kernel
theorem dX0_sameKindFrom_6 : decode cX0_sameKindFrom 6 = .ok (.bipush 40, 2) := by decide +kernel
theorem dX0_sameKindFrom_8 : decode cX0_sameKindFrom 8 = .ok (.imul, 1) := by decide +kernel
theorem dX0_sameKindFrom_9 : decode cX0_sameKindFrom 9 = .ok (.aload_n 0, 1) := by decide +kernel
theorem dX0_sameKindFrom_10 : decode cX0_sameKindFrom 10 = .ok (.iload_n 2, 1) := by decide +kernel
theorem dX0_sameKindFrom_11 : decode cX0_sameKindFrom 11 = .ok (.invokevirtual 36, 3) := by decide +kernel
theorem dX0_sameKindFrom_14 : decode cX0_sameKindFrom 14 = .ok (.iadd, 1) := by decide +kernel
theorem dX0_sameKindFrom_15 : decode cX0_sameKindFrom 15 = .ok (.istore_n 3, 1) := by decide +kernel
theorem dX0_sameKindFrom_16 : decode cX0_sameKindFrom 16 = .ok (.aload_n 0, 1) := by decide +kernel
theorem dX0_sameKindFrom_17 : decode cX0_sameKindFrom 17 = .ok (.iload_n 1, 1) := by decide +kernel
theorem dX0_sameKindFrom_18 : decode cX0_sameKindFrom 18 = .ok (.invokevirtual 58, 3) := by decide +kernel
theorem dX0_sameKindFrom_21 : decode cX0_sameKindFrom 21 = .ok (.istore 4, 2) := by decide +kernel
theorem dX0_sameKindFrom_23 : decode cX0_sameKindFrom 23 = .ok (.iconst 0, 1) := by decide +kernel
theorem dX0_sameKindFrom_24 : decode cX0_sameKindFrom 24 = .ok (.istore 5, 2) := by decide +kernel
theorem dX0_sameKindFrom_26 : decode cX0_sameKindFrom 26 = .ok (.iload_n 1, 1) := by decide +kernel
theorem dX0_sameKindFrom_27 : decode cX0_sameKindFrom 27 = .ok (.istore 6, 2) := by decide +kernel
theorem dX0_sameKindFrom_29 : decode cX0_sameKindFrom 29 = .ok (.iload 6, 2) := by decide +kernel
theorem dX0_sameKindFrom_31 : decode cX0_sameKindFrom 31 = .ok (.iload_n 3, 1) := by decide +kernel
theorem dX0_sameKindFrom_32 : decode cX0_sameKindFrom 32 = .ok (.if_icmp .ge 23, 3) := by decide +kernel
theorem dX0_sameKindFrom_35 : decode cX0_sameKindFrom 35 = .ok (.aload_n 0, 1) := by decide +kernel
theorem dX0_sameKindFrom_36 : decode cX0_sameKindFrom 36 = .ok (.iload 6, 2) := by decide +kernel
theorem dX0_sameKindFrom_38 : decode cX0_sameKindFrom 38 = .ok (.invokevirtual 58, 3) := by decide +kernel
theorem dX0_sameKindFrom_41 : decode cX0_sameKindFrom 41 = .ok (.iload 4, 2) := by decide +kernel
theorem dX0_sameKindFrom_43 : decode cX0_sameKindFrom 43 = .ok (.if_icmp .ne 12, 3) := by decide +kernel
theorem dX0_sameKindFrom_46 : decode cX0_sameKindFrom 46 = .ok (.iinc 5 1, 3) := by decide +kernel
theorem dX0_sameKindFrom_49 : decode cX0_sameKindFrom 49 = .ok (.iinc 6 1, 3) := by decide +kernel
theorem dX0_sameKindFrom_52 : decode cX0_sameKindFrom 52 = .ok (.goto (-23), 3) := by decide +kernel
theorem dX0_sameKindFrom_55 : decode cX0_sameKindFrom 55 = .ok (.iload 5, 2) := by decide +kernel
theorem dX0_sameKindFrom_57 : decode cX0_sameKindFrom 57 = .ok (.ireturn, 1) := by decide +kernel
theorem dX0_numberOf_0 : decode cX0_numberOf 0 = .ok (.iload_n 2, 1) := by decide +kernel
theorem dX0_numberOf_1 : decode cX0_numberOf 1 = .ok (.tableswitch 83 0 8 #[51, 57, 83, 83, 83, 83, 63, 70, 77], 51) := by decide +kernel
theorem dX0_numberOf_52 : decode cX0_numberOf 52 = .ok (.aload_n 0, 1) := by decide +kernel
theorem dX0_numberOf_53 : decode cX0_numberOf 53 = .ok (.iload_n 1, 1) := by decide +kernel
theorem dX0_numberOf_54 : decode cX0_numberOf 54 = .ok (.invokevirtual 32, 3) := by decide +kernel
theorem dX0_numberOf_57 : decode cX0_numberOf 57 = .ok (.ireturn, 1) := by decide +kernel
theorem dX0_numberOf_58 : decode cX0_numberOf 58 = .ok (.aload_n 0, 1) := by decide +kernel
theorem dX0_numberOf_59 : decode cX0_numberOf 59 = .ok (.iload_n 1, 1) := by decide +kernel
theorem dX0_numberOf_60 : decode cX0_numberOf 60 = .ok (.invokevirtual 36, 3) := by decide +kernel
theorem dX0_numberOf_63 : decode cX0_numberOf 63 = .ok (.ireturn, 1) := by decide +kernel
theorem dX0_numberOf_64 : decode cX0_numberOf 64 = .ok (.aload_n 0, 1) := by decide +kernel
theorem dX0_numberOf_65 : decode cX0_numberOf 65 = .ok (.iload_n 1, 1) := by decide +kernel
theorem dX0_numberOf_66 : decode cX0_numberOf 66 = .ok (.iconst 1, 1) := by decide +kernel
theorem dX0_numberOf_67 : decode cX0_numberOf 67 = .ok (.invokevirtual 61, 3) := by decide +kernel
theorem dX0_numberOf_70 : decode cX0_numberOf 70 = .ok (.ireturn, 1) := by decide +kernel
theorem dX0_numberOf_71 : decode cX0_numberOf 71 = .ok (.aload_n 0, 1) := by decide +kernel
theorem dX0_numberOf_72 : decode cX0_numberOf 72 = .ok (.iload_n 1, 1) := by decide +kernel
theorem dX0_numberOf_73 : decode cX0_numberOf 73 = .ok (.iconst 2, 1) := by decide +kernel
theorem dX0_numberOf_74 : decode cX0_numberOf 74 = .ok (.invokevirtual 61, 3) := by decide +kernel
theorem dX0_numberOf_77 : decode cX0_numberOf 77 = .ok (.ireturn, 1) := by decide +kernel
theorem dX0_numberOf_78 : decode cX0_numberOf 78 = .ok (.aload_n 0, 1) := by decide +kernel
theorem dX0_numberOf_79 : decode cX0_numberOf 79 = .ok (.iload_n 1, 1) := by decide +kernel
theorem dX0_numberOf_80 : decode cX0_numberOf 80 = .ok (.invokevirtual 64, 3) := by decide +kernel
theorem dX0_numberOf_83 : decode cX0_numberOf 83 = .ok (.ireturn, 1) := by decide +kernel
theorem dX0_numberOf_84 : decode cX0_numberOf 84 = .ok (.aload_n 0, 1) := by decide +kernel
theorem dX0_numberOf_85 : decode cX0_numberOf 85 = .ok (.iload_n 1, 1) := by decide +kernel
theorem dX0_numberOf_86 : decode cX0_numberOf 86 = .ok (.iload_n 2, 1) := by decide +kernel
theorem dX0_numberOf_87 : decode cX0_numberOf 87 = .ok (.iconst 2, 1) := by decide +kernel
theorem dX0_numberOf_88 : decode cX0_numberOf 88 = .ok (.isub, 1) := by decide +kernel
theorem dX0_numberOf_89 : decode cX0_numberOf 89 = .ok (.invokevirtual 67, 3) := by decide +kernel
theorem dX0_numberOf_92 : decode cX0_numberOf 92 = .ok (.ireturn, 1) := by decide +kernel
theorem dX0_numberOfAll_0 : decode cX0_numberOfAll 0 = .ok (.iconst 0, 1) := by decide +kernel
theorem dX0_numberOfAll_1 : decode cX0_numberOfAll 1 = .ok (.istore_n 2, 1) := by decide +kernel
theorem dX0_numberOfAll_2 : decode cX0_numberOfAll 2 = .ok (.iconst 0, 1) := by decide +kernel
theorem dX0_numberOfAll_3 : decode cX0_numberOfAll 3 = .ok (.istore_n 3, 1) := by decide +kernel
theorem dX0_numberOfAll_4 : decode cX0_numberOfAll 4 = .ok (.iload_n 3, 1) := by decide +kernel
theorem dX0_numberOfAll_5 : decode cX0_numberOfAll 5 = .ok (.aload_n 0, 1) := by decide +kernel
theorem dX0_numberOfAll_6 : decode cX0_numberOfAll 6 = .ok (.getfield 28, 3) := by decide +kernel
theorem dX0_numberOfAll_9 : decode cX0_numberOfAll 9 = .ok (.if_icmp .ge 18, 3) := by decide +kernel
theorem dX0_numberOfAll_12 : decode cX0_numberOfAll 12 = .ok (.iload_n 2, 1) := by decide +kernel
theorem dX0_numberOfAll_13 : decode cX0_numberOfAll 13 = .ok (.aload_n 0, 1) := by decide +kernel
theorem dX0_numberOfAll_14 : decode cX0_numberOfAll 14 = .ok (.iload_n 3, 1) := by decide +kernel
theorem dX0_numberOfAll_15 : decode cX0_numberOfAll 15 = .ok (.iload_n 1, 1) := by decide +kernel
theorem dX0_numberOfAll_16 : decode cX0_numberOfAll 16 = .ok (.invokevirtual 70, 3) := by decide +kernel
theorem dX0_numberOfAll_19 : decode cX0_numberOfAll 19 = .ok (.iadd, 1) := by decide +kernel
theorem dX0_numberOfAll_20 : decode cX0_numberOfAll 20 = .ok (.istore_n 2, 1) := by decide +kernel
theorem dX0_numberOfAll_21 : decode cX0_numberOfAll 21 = .ok (.iinc 3 1, 3) := by decide +kernel
theorem dX0_numberOfAll_24 : decode cX0_numberOfAll 24 = .ok (.goto (-20), 3) := by decide +kernel
theorem dX0_numberOfAll_27 : decode cX0_numberOfAll 27 = .ok (.iload_n 2, 1) := by decide +kernel
theorem dX0_numberOfAll_28 : decode cX0_numberOfAll 28 = .ok (.ireturn, 1) := by decide +kernel
theorem dX0_chequesOf_0 : decode cX0_chequesOf 0 = .ok (.iconst 0, 1) := by decide +kernel
theorem dX0_chequesOf_1 : decode cX0_chequesOf 1 = .ok (.istore_n 3, 1) := by decide +kernel
theorem dX0_chequesOf_2 : decode cX0_chequesOf 2 = .ok (.aload_n 0, 1) := by decide +kernel
theorem dX0_chequesOf_3 : decode cX0_chequesOf 3 = .ok (.iload_n 1, 1) := by decide +kernel
theorem dX0_chequesOf_4 : decode cX0_chequesOf 4 = .ok (.invokevirtual 36, 3) := by decide +kernel
theorem dX0_chequesOf_7 : decode cX0_chequesOf 7 = .ok (.istore 4, 2) := by decide +kernel
theorem dX0_chequesOf_9 : decode cX0_chequesOf 9 = .ok (.iconst 0, 1) := by decide +kernel
theorem dX0_chequesOf_10 : decode cX0_chequesOf 10 = .ok (.istore 5, 2) := by decide +kernel
theorem dX0_chequesOf_12 : decode cX0_chequesOf 12 = .ok (.iload 5, 2) := by decide +kernel
theorem dX0_chequesOf_14 : decode cX0_chequesOf 14 = .ok (.iload 4, 2) := by decide +kernel
theorem dX0_chequesOf_16 : decode cX0_chequesOf 16 = .ok (.if_icmp .ge 27, 3) := by decide +kernel
theorem dX0_chequesOf_19 : decode cX0_chequesOf 19 = .ok (.aload_n 0, 1) := by decide +kernel
theorem dX0_chequesOf_20 : decode cX0_chequesOf 20 = .ok (.iload_n 1, 1) := by decide +kernel
theorem dX0_chequesOf_21 : decode cX0_chequesOf 21 = .ok (.bipush 40, 2) := by decide +kernel
theorem dX0_chequesOf_23 : decode cX0_chequesOf 23 = .ok (.imul, 1) := by decide +kernel
theorem dX0_chequesOf_24 : decode cX0_chequesOf 24 = .ok (.iload 5, 2) := by decide +kernel
theorem dX0_chequesOf_26 : decode cX0_chequesOf 26 = .ok (.iadd, 1) := by decide +kernel
theorem dX0_chequesOf_27 : decode cX0_chequesOf 27 = .ok (.invokevirtual 58, 3) := by decide +kernel
theorem dX0_chequesOf_30 : decode cX0_chequesOf 30 = .ok (.iload_n 2, 1) := by decide +kernel
theorem dX0_chequesOf_31 : decode cX0_chequesOf 31 = .ok (.if_icmp .ne 6, 3) := by decide +kernel
theorem dX0_chequesOf_34 : decode cX0_chequesOf 34 = .ok (.iinc 3 1, 3) := by decide +kernel
theorem dX0_chequesOf_37 : decode cX0_chequesOf 37 = .ok (.iinc 5 1, 3) := by decide +kernel
theorem dX0_chequesOf_40 : decode cX0_chequesOf 40 = .ok (.goto (-28), 3) := by decide +kernel
theorem dX0_chequesOf_43 : decode cX0_chequesOf 43 = .ok (.iload_n 3, 1) := by decide +kernel
theorem dX0_chequesOf_44 : decode cX0_chequesOf 44 = .ok (.ireturn, 1) := by decide +kernel
theorem dX0_amountsOf_0 : decode cX0_amountsOf 0 = .ok (.iconst 0, 1) := by decide +kernel
theorem dX0_amountsOf_1 : decode cX0_amountsOf 1 = .ok (.istore_n 3, 1) := by decide +kernel
theorem dX0_amountsOf_2 : decode cX0_amountsOf 2 = .ok (.aload_n 0, 1) := by decide +kernel
theorem dX0_amountsOf_3 : decode cX0_amountsOf 3 = .ok (.iload_n 1, 1) := by decide +kernel
theorem dX0_amountsOf_4 : decode cX0_amountsOf 4 = .ok (.invokevirtual 36, 3) := by decide +kernel
theorem dX0_amountsOf_7 : decode cX0_amountsOf 7 = .ok (.istore 4, 2) := by decide +kernel
theorem dX0_amountsOf_9 : decode cX0_amountsOf 9 = .ok (.iconst 0, 1) := by decide +kernel
theorem dX0_amountsOf_10 : decode cX0_amountsOf 10 = .ok (.istore 5, 2) := by decide +kernel
theorem dX0_amountsOf_12 : decode cX0_amountsOf 12 = .ok (.iload 5, 2) := by decide +kernel
theorem dX0_amountsOf_14 : decode cX0_amountsOf 14 = .ok (.iload 4, 2) := by decide +kernel
theorem dX0_amountsOf_16 : decode cX0_amountsOf 16 = .ok (.if_icmp .ge 37, 3) := by decide +kernel
theorem dX0_amountsOf_19 : decode cX0_amountsOf 19 = .ok (.iload_n 1, 1) := by decide +kernel
theorem dX0_amountsOf_20 : decode cX0_amountsOf 20 = .ok (.bipush 40, 2) := by decide +kernel
theorem dX0_amountsOf_22 : decode cX0_amountsOf 22 = .ok (.imul, 1) := by decide +kernel
theorem dX0_amountsOf_23 : decode cX0_amountsOf 23 = .ok (.iload 5, 2) := by decide +kernel
theorem dX0_amountsOf_25 : decode cX0_amountsOf 25 = .ok (.iadd, 1) := by decide +kernel
theorem dX0_amountsOf_26 : decode cX0_amountsOf 26 = .ok (.istore 6, 2) := by decide +kernel
theorem dX0_amountsOf_28 : decode cX0_amountsOf 28 = .ok (.aload_n 0, 1) := by decide +kernel
theorem dX0_amountsOf_29 : decode cX0_amountsOf 29 = .ok (.iload 6, 2) := by decide +kernel
theorem dX0_amountsOf_31 : decode cX0_amountsOf 31 = .ok (.invokevirtual 58, 3) := by decide +kernel
theorem dX0_amountsOf_34 : decode cX0_amountsOf 34 = .ok (.iload_n 2, 1) := by decide +kernel
theorem dX0_amountsOf_35 : decode cX0_amountsOf 35 = .ok (.if_icmp .ne 12, 3) := by decide +kernel
theorem dX0_amountsOf_38 : decode cX0_amountsOf 38 = .ok (.iload_n 3, 1) := by decide +kernel
theorem dX0_amountsOf_39 : decode cX0_amountsOf 39 = .ok (.aload_n 0, 1) := by decide +kernel
theorem dX0_amountsOf_40 : decode cX0_amountsOf 40 = .ok (.iload 6, 2) := by decide +kernel
theorem dX0_amountsOf_42 : decode cX0_amountsOf 42 = .ok (.invokevirtual 43, 3) := by decide +kernel
theorem dX0_amountsOf_45 : decode cX0_amountsOf 45 = .ok (.iadd, 1) := by decide +kernel
theorem dX0_amountsOf_46 : decode cX0_amountsOf 46 = .ok (.istore_n 3, 1) := by decide +kernel
theorem dX0_amountsOf_47 : decode cX0_amountsOf 47 = .ok (.iinc 5 1, 3) := by decide +kernel
theorem dX0_amountsOf_50 : decode cX0_amountsOf 50 = .ok (.goto (-38), 3) := by decide +kernel
theorem dX0_amountsOf_53 : decode cX0_amountsOf 53 = .ok (.iload_n 3, 1) := by decide +kernel
theorem dX0_amountsOf_54 : decode cX0_amountsOf 54 = .ok (.ireturn, 1) := by decide +kernel
theorem dX0_firstBlankOf_0 : decode cX0_firstBlankOf 0 = .ok (.aload_n 0, 1) := by decide +kernel
theorem dX0_firstBlankOf_1 : decode cX0_firstBlankOf 1 = .ok (.iload_n 1, 1) := by decide +kernel
theorem dX0_firstBlankOf_2 : decode cX0_firstBlankOf 2 = .ok (.invokevirtual 36, 3) := by decide +kernel
theorem dX0_firstBlankOf_5 : decode cX0_firstBlankOf 5 = .ok (.istore_n 2, 1) := by decide +kernel
theorem dX0_firstBlankOf_6 : decode cX0_firstBlankOf 6 = .ok (.iconst 0, 1) := by decide +kernel
theorem dX0_firstBlankOf_7 : decode cX0_firstBlankOf 7 = .ok (.istore_n 3, 1) := by decide +kernel
theorem dX0_firstBlankOf_8 : decode cX0_firstBlankOf 8 = .ok (.iload_n 3, 1) := by decide +kernel
theorem dX0_firstBlankOf_9 : decode cX0_firstBlankOf 9 = .ok (.iload_n 2, 1) := by decide +kernel
theorem dX0_firstBlankOf_10 : decode cX0_firstBlankOf 10 = .ok (.if_icmp .ge 30, 3) := by decide +kernel
theorem dX0_firstBlankOf_13 : decode cX0_firstBlankOf 13 = .ok (.aload_n 0, 1) := by decide +kernel
theorem dX0_firstBlankOf_14 : decode cX0_firstBlankOf 14 = .ok (.iload_n 1, 1) := by decide +kernel
theorem dX0_firstBlankOf_15 : decode cX0_firstBlankOf 15 = .ok (.bipush 40, 2) := by decide +kernel
theorem dX0_firstBlankOf_17 : decode cX0_firstBlankOf 17 = .ok (.imul, 1) := by decide +kernel
theorem dX0_firstBlankOf_18 : decode cX0_firstBlankOf 18 = .ok (.iload_n 3, 1) := by decide +kernel
theorem dX0_firstBlankOf_19 : decode cX0_firstBlankOf 19 = .ok (.iadd, 1) := by decide +kernel
theorem dX0_firstBlankOf_20 : decode cX0_firstBlankOf 20 = .ok (.invokevirtual 58, 3) := by decide +kernel
theorem dX0_firstBlankOf_23 : decode cX0_firstBlankOf 23 = .ok (.ifCond .ne 11, 3) := by decide +kernel
theorem dX0_firstBlankOf_26 : decode cX0_firstBlankOf 26 = .ok (.aload_n 0, 1) := by decide +kernel
theorem dX0_firstBlankOf_27 : decode cX0_firstBlankOf 27 = .ok (.iload_n 1, 1) := by decide +kernel
theorem dX0_firstBlankOf_28 : decode cX0_firstBlankOf 28 = .ok (.invokevirtual 32, 3) := by decide +kernel
theorem dX0_firstBlankOf_31 : decode cX0_firstBlankOf 31 = .ok (.iload_n 3, 1) := by decide +kernel
theorem dX0_firstBlankOf_32 : decode cX0_firstBlankOf 32 = .ok (.iadd, 1) := by decide +kernel
theorem dX0_firstBlankOf_33 : decode cX0_firstBlankOf 33 = .ok (.ireturn, 1) := by decide +kernel
theorem dX0_firstBlankOf_34 : decode cX0_firstBlankOf 34 = .ok (.iinc 3 1, 3) := by decide +kernel
theorem dX0_firstBlankOf_37 : decode cX0_firstBlankOf 37 = .ok (.goto (-29), 3) := by decide +kernel
theorem dX0_firstBlankOf_40 : decode cX0_firstBlankOf 40 = .ok (.iconst (-1), 1) := by decide +kernel
theorem dX0_firstBlankOf_41 : decode cX0_firstBlankOf 41 = .ok (.ireturn, 1) := by decide +kernel
theorem dX0_bookOfRank_0 : decode cX0_bookOfRank 0 = .ok (.iconst 0, 1) := by decide +kernel
theorem dX0_bookOfRank_1 : decode cX0_bookOfRank 1 = .ok (.istore_n 2, 1) := by decide +kernel
theorem dX0_bookOfRank_2 : decode cX0_bookOfRank 2 = .ok (.iload_n 2, 1) := by decide +kernel
theorem dX0_bookOfRank_3 : decode cX0_bookOfRank 3 = .ok (.aload_n 0, 1) := by decide +kernel
theorem dX0_bookOfRank_4 : decode cX0_bookOfRank 4 = .ok (.getfield 28, 3) := by decide +kernel
theorem dX0_bookOfRank_7 : decode cX0_bookOfRank 7 = .ok (.if_icmp .ge 24, 3) := by decide +kernel
theorem dX0_bookOfRank_10 : decode cX0_bookOfRank 10 = .ok (.aload_n 0, 1) := by decide +kernel
theorem dX0_bookOfRank_11 : decode cX0_bookOfRank 11 = .ok (.aload_n 0, 1) := by decide +kernel
theorem dX0_bookOfRank_12 : decode cX0_bookOfRank 12 = .ok (.iload_n 2, 1) := by decide +kernel
theorem dX0_bookOfRank_13 : decode cX0_bookOfRank 13 = .ok (.invokevirtual 32, 3) := by decide +kernel
theorem dX0_bookOfRank_16 : decode cX0_bookOfRank 16 = .ok (.invokevirtual 73, 3) := by decide +kernel
theorem dX0_bookOfRank_19 : decode cX0_bookOfRank 19 = .ok (.iload_n 1, 1) := by decide +kernel
theorem dX0_bookOfRank_20 : decode cX0_bookOfRank 20 = .ok (.if_icmp .ne 5, 3) := by decide +kernel
theorem dX0_bookOfRank_23 : decode cX0_bookOfRank 23 = .ok (.iload_n 2, 1) := by decide +kernel
theorem dX0_bookOfRank_24 : decode cX0_bookOfRank 24 = .ok (.ireturn, 1) := by decide +kernel
theorem dX0_bookOfRank_25 : decode cX0_bookOfRank 25 = .ok (.iinc 2 1, 3) := by decide +kernel
theorem dX0_bookOfRank_28 : decode cX0_bookOfRank 28 = .ok (.goto (-26), 3) := by decide +kernel
theorem dX0_bookOfRank_31 : decode cX0_bookOfRank 31 = .ok (.iconst (-1), 1) := by decide +kernel
theorem dX0_bookOfRank_32 : decode cX0_bookOfRank 32 = .ok (.ireturn, 1) := by decide +kernel
theorem dX0_booksBefore_0 : decode cX0_booksBefore 0 = .ok (.iconst 0, 1) := by decide +kernel
theorem dX0_booksBefore_1 : decode cX0_booksBefore 1 = .ok (.istore_n 2, 1) := by decide +kernel
theorem dX0_booksBefore_2 : decode cX0_booksBefore 2 = .ok (.iconst 0, 1) := by decide +kernel
theorem dX0_booksBefore_3 : decode cX0_booksBefore 3 = .ok (.istore_n 3, 1) := by decide +kernel
theorem dX0_booksBefore_4 : decode cX0_booksBefore 4 = .ok (.iload_n 3, 1) := by decide +kernel
theorem dX0_booksBefore_5 : decode cX0_booksBefore 5 = .ok (.aload_n 0, 1) := by decide +kernel
theorem dX0_booksBefore_6 : decode cX0_booksBefore 6 = .ok (.getfield 28, 3) := by decide +kernel
theorem dX0_booksBefore_9 : decode cX0_booksBefore 9 = .ok (.if_icmp .ge 21, 3) := by decide +kernel
theorem dX0_booksBefore_12 : decode cX0_booksBefore 12 = .ok (.aload_n 0, 1) := by decide +kernel
theorem dX0_booksBefore_13 : decode cX0_booksBefore 13 = .ok (.iload_n 3, 1) := by decide +kernel
theorem dX0_booksBefore_14 : decode cX0_booksBefore 14 = .ok (.invokevirtual 32, 3) := by decide +kernel
theorem dX0_booksBefore_17 : decode cX0_booksBefore 17 = .ok (.iload_n 1, 1) := by decide +kernel
theorem dX0_booksBefore_18 : decode cX0_booksBefore 18 = .ok (.if_icmp .ge 6, 3) := by decide +kernel
theorem dX0_booksBefore_21 : decode cX0_booksBefore 21 = .ok (.iinc 2 1, 3) := by decide +kernel
theorem dX0_booksBefore_24 : decode cX0_booksBefore 24 = .ok (.iinc 3 1, 3) := by decide +kernel
theorem dX0_booksBefore_27 : decode cX0_booksBefore 27 = .ok (.goto (-23), 3) := by decide +kernel
theorem dX0_booksBefore_30 : decode cX0_booksBefore 30 = .ok (.iload_n 2, 1) := by decide +kernel
theorem dX0_booksBefore_31 : decode cX0_booksBefore 31 = .ok (.ireturn, 1) := by decide +kernel
theorem dX0_serialOfRank_0 : decode cX0_serialOfRank 0 = .ok (.iload_n 1, 1) := by decide +kernel
theorem dX0_serialOfRank_1 : decode cX0_serialOfRank 1 = .ok (.istore_n 2, 1) := by decide +kernel
theorem dX0_serialOfRank_2 : decode cX0_serialOfRank 2 = .ok (.iconst 0, 1) := by decide +kernel
theorem dX0_serialOfRank_3 : decode cX0_serialOfRank 3 = .ok (.istore_n 3, 1) := by decide +kernel
theorem dX0_serialOfRank_4 : decode cX0_serialOfRank 4 = .ok (.iload_n 3, 1) := by decide +kernel
theorem dX0_serialOfRank_5 : decode cX0_serialOfRank 5 = .ok (.aload_n 0, 1) := by decide +kernel
theorem dX0_serialOfRank_6 : decode cX0_serialOfRank 6 = .ok (.getfield 28, 3) := by decide +kernel
theorem dX0_serialOfRank_9 : decode cX0_serialOfRank 9 = .ok (.if_icmp .ge 44, 3) := by decide +kernel
theorem dX0_serialOfRank_12 : decode cX0_serialOfRank 12 = .ok (.aload_n 0, 1) := by decide +kernel
theorem dX0_serialOfRank_13 : decode cX0_serialOfRank 13 = .ok (.iload_n 3, 1) := by decide +kernel
theorem dX0_serialOfRank_14 : decode cX0_serialOfRank 14 = .ok (.invokevirtual 76, 3) := by decide +kernel
theorem dX0_serialOfRank_17 : decode cX0_serialOfRank 17 = .ok (.istore 4, 2) := by decide +kernel
theorem dX0_serialOfRank_19 : decode cX0_serialOfRank 19 = .ok (.aload_n 0, 1) := by decide +kernel
theorem dX0_serialOfRank_20 : decode cX0_serialOfRank 20 = .ok (.iload 4, 2) := by decide +kernel
theorem dX0_serialOfRank_22 : decode cX0_serialOfRank 22 = .ok (.invokevirtual 36, 3) := by decide +kernel
theorem dX0_serialOfRank_25 : decode cX0_serialOfRank 25 = .ok (.istore 5, 2) := by decide +kernel
theorem dX0_serialOfRank_27 : decode cX0_serialOfRank 27 = .ok (.iload_n 2, 1) := by decide +kernel
theorem dX0_serialOfRank_28 : decode cX0_serialOfRank 28 = .ok (.iload 5, 2) := by decide +kernel
theorem dX0_serialOfRank_30 : decode cX0_serialOfRank 30 = .ok (.if_icmp .ge 12, 3) := by decide +kernel
theorem dX0_serialOfRank_33 : decode cX0_serialOfRank 33 = .ok (.aload_n 0, 1) := by decide +kernel
theorem dX0_serialOfRank_34 : decode cX0_serialOfRank 34 = .ok (.iload 4, 2) := by decide +kernel
theorem dX0_serialOfRank_36 : decode cX0_serialOfRank 36 = .ok (.invokevirtual 32, 3) := by decide +kernel
theorem dX0_serialOfRank_39 : decode cX0_serialOfRank 39 = .ok (.iload_n 2, 1) := by decide +kernel
theorem dX0_serialOfRank_40 : decode cX0_serialOfRank 40 = .ok (.iadd, 1) := by decide +kernel
theorem dX0_serialOfRank_41 : decode cX0_serialOfRank 41 = .ok (.ireturn, 1) := by decide +kernel
theorem dX0_serialOfRank_42 : decode cX0_serialOfRank 42 = .ok (.iload_n 2, 1) := by decide +kernel
theorem dX0_serialOfRank_43 : decode cX0_serialOfRank 43 = .ok (.iload 5, 2) := by decide +kernel
theorem dX0_serialOfRank_45 : decode cX0_serialOfRank 45 = .ok (.isub, 1) := by decide +kernel
theorem dX0_serialOfRank_46 : decode cX0_serialOfRank 46 = .ok (.istore_n 2, 1) := by decide +kernel
theorem dX0_serialOfRank_47 : decode cX0_serialOfRank 47 = .ok (.iinc 3 1, 3) := by decide +kernel
theorem dX0_serialOfRank_50 : decode cX0_serialOfRank 50 = .ok (.goto (-46), 3) := by decide +kernel
theorem dX0_serialOfRank_53 : decode cX0_serialOfRank 53 = .ok (.iconst (-1), 1) := by decide +kernel
theorem dX0_serialOfRank_54 : decode cX0_serialOfRank 54 = .ok (.ireturn, 1) := by decide +kernel
theorem dX1_init_0 : decode cX1_init 0 = .ok (.aload_n 0, 1) := by decide +kernel
theorem dX1_init_1 : decode cX1_init 1 = .ok (.invokespecial 3, 3) := by decide +kernel
theorem dX1_init_4 : decode cX1_init 4 = .ok (.aload_n 0, 1) := by decide +kernel
theorem dX1_init_5 : decode cX1_init 5 = .ok (.bipush 6, 2) := by decide +kernel
theorem dX1_init_7 : decode cX1_init 7 = .ok (.anewarray 9, 3) := by decide +kernel
theorem dX1_init_10 : decode cX1_init 10 = .ok (.putfield 11, 3) := by decide +kernel
theorem dX1_init_13 : decode cX1_init 13 = .ok (.aload_n 0, 1) := by decide +kernel
theorem dX1_init_14 : decode cX1_init 14 = .ok (.iconst 2, 1) := by decide +kernel
theorem dX1_init_15 : decode cX1_init 15 = .ok (.anewarray 9, 3) := by decide +kernel
theorem dX1_init_18 : decode cX1_init 18 = .ok (.putfield 17, 3) := by decide +kernel
theorem dX1_init_21 : decode cX1_init 21 = .ok (.aload_n 0, 1) := by decide +kernel
theorem dX1_init_22 : decode cX1_init 22 = .ok (.iconst 2, 1) := by decide +kernel
theorem dX1_init_23 : decode cX1_init 23 = .ok (.newarray .boolean, 2) := by decide +kernel
theorem dX1_init_25 : decode cX1_init 25 = .ok (.putfield 20, 3) := by decide +kernel
theorem dX1_init_28 : decode cX1_init 28 = .ok (.iconst 0, 1) := by decide +kernel
theorem dX1_init_29 : decode cX1_init 29 = .ok (.istore_n 1, 1) := by decide +kernel
theorem dX1_init_30 : decode cX1_init 30 = .ok (.iload_n 1, 1) := by decide +kernel
theorem dX1_init_31 : decode cX1_init 31 = .ok (.aload_n 0, 1) := by decide +kernel
theorem dX1_init_32 : decode cX1_init 32 = .ok (.getfield 11, 3) := by decide +kernel
theorem dX1_init_35 : decode cX1_init 35 = .ok (.arraylength, 1) := by decide +kernel
theorem dX1_init_36 : decode cX1_init 36 = .ok (.if_icmp .ge 22, 3) := by decide +kernel
theorem dX1_init_39 : decode cX1_init 39 = .ok (.aload_n 0, 1) := by decide +kernel
theorem dX1_init_40 : decode cX1_init 40 = .ok (.getfield 11, 3) := by decide +kernel
theorem dX1_init_43 : decode cX1_init 43 = .ok (.iload_n 1, 1) := by decide +kernel
theorem dX1_init_44 : decode cX1_init 44 = .ok (.new 9, 3) := by decide +kernel
theorem dX1_init_47 : decode cX1_init 47 = .ok (.dup, 1) := by decide +kernel
theorem dX1_init_48 : decode cX1_init 48 = .ok (.invokespecial 24, 3) := by decide +kernel
theorem dX1_init_51 : decode cX1_init 51 = .ok (.aastore, 1) := by decide +kernel
theorem dX1_init_52 : decode cX1_init 52 = .ok (.iinc 1 1, 3) := by decide +kernel
theorem dX1_init_55 : decode cX1_init 55 = .ok (.goto (-25), 3) := by decide +kernel
theorem dX1_init_58 : decode cX1_init 58 = .ok (.iconst 0, 1) := by decide +kernel
theorem dX1_init_59 : decode cX1_init 59 = .ok (.istore_n 1, 1) := by decide +kernel
theorem dX1_init_60 : decode cX1_init 60 = .ok (.iload_n 1, 1) := by decide +kernel
theorem dX1_init_61 : decode cX1_init 61 = .ok (.aload_n 0, 1) := by decide +kernel
theorem dX1_init_62 : decode cX1_init 62 = .ok (.getfield 17, 3) := by decide +kernel
theorem dX1_init_65 : decode cX1_init 65 = .ok (.arraylength, 1) := by decide +kernel
theorem dX1_init_66 : decode cX1_init 66 = .ok (.if_icmp .ge 22, 3) := by decide +kernel
theorem dX1_init_69 : decode cX1_init 69 = .ok (.aload_n 0, 1) := by decide +kernel
theorem dX1_init_70 : decode cX1_init 70 = .ok (.getfield 17, 3) := by decide +kernel
theorem dX1_init_73 : decode cX1_init 73 = .ok (.iload_n 1, 1) := by decide +kernel
theorem dX1_init_74 : decode cX1_init 74 = .ok (.new 9, 3) := by decide +kernel
theorem dX1_init_77 : decode cX1_init 77 = .ok (.dup, 1) := by decide +kernel
theorem dX1_init_78 : decode cX1_init 78 = .ok (.invokespecial 24, 3) := by decide +kernel
theorem dX1_init_81 : decode cX1_init 81 = .ok (.aastore, 1) := by decide +kernel
theorem dX1_init_82 : decode cX1_init 82 = .ok (.iinc 1 1, 3) := by decide +kernel
theorem dX1_init_85 : decode cX1_init 85 = .ok (.goto (-25), 3) := by decide +kernel
theorem dX1_init_88 : decode cX1_init 88 = .ok (.return_, 1) := by decide +kernel
theorem dX1_save_0 : decode cX1_save 0 = .ok (.aload_n 0, 1) := by decide +kernel
theorem dX1_save_1 : decode cX1_save 1 = .ok (.getfield 25, 3) := by decide +kernel
theorem dX1_save_4 : decode cX1_save 4 = .ok (.aload_n 0, 1) := by decide +kernel
theorem dX1_save_5 : decode cX1_save 5 = .ok (.getfield 11, 3) := by decide +kernel
theorem dX1_save_8 : decode cX1_save 8 = .ok (.arraylength, 1) := by decide +kernel
theorem dX1_save_9 : decode cX1_save 9 = .ok (.if_icmp .lt 7, 3) := by decide +kernel
theorem dX1_save_12 : decode cX1_save 12 = .ok (.aload_n 0, 1) := by decide +kernel
theorem dX1_save_13 : decode cX1_save 13 = .ok (.invokevirtual 29, 3) := by decide +kernel
theorem dX1_save_16 : decode cX1_save 16 = .ok (.aload_n 0, 1) := by decide +kernel
theorem dX1_save_17 : decode cX1_save 17 = .ok (.getfield 25, 3) := by decide +kernel
theorem dX1_save_20 : decode cX1_save 20 = .ok (.ifCond .lt 38, 3) := by decide +kernel
theorem dX1_save_23 : decode cX1_save 23 = .ok (.aload_n 0, 1) := by decide +kernel
theorem dX1_save_24 : decode cX1_save 24 = .ok (.getfield 25, 3) := by decide +kernel
theorem dX1_save_27 : decode cX1_save 27 = .ok (.aload_n 0, 1) := by decide +kernel
theorem dX1_save_28 : decode cX1_save 28 = .ok (.getfield 11, 3) := by decide +kernel
theorem dX1_save_31 : decode cX1_save 31 = .ok (.arraylength, 1) := by decide +kernel
theorem dX1_save_32 : decode cX1_save 32 = .ok (.if_icmp .ge 26, 3) := by decide +kernel
theorem dX1_save_35 : decode cX1_save 35 = .ok (.aload_n 1, 1) := by decide +kernel
theorem dX1_save_36 : decode cX1_save 36 = .ok (.aload_n 0, 1) := by decide +kernel
theorem dX1_save_37 : decode cX1_save 37 = .ok (.getfield 11, 3) := by decide +kernel
theorem dX1_save_40 : decode cX1_save 40 = .ok (.aload_n 0, 1) := by decide +kernel
theorem dX1_save_41 : decode cX1_save 41 = .ok (.getfield 25, 3) := by decide +kernel
theorem dX1_save_44 : decode cX1_save 44 = .ok (.aaload, 1) := by decide +kernel
theorem dX1_save_45 : decode cX1_save 45 = .ok (.invokestatic 32, 3) := by decide +kernel
theorem dX1_save_48 : decode cX1_save 48 = .ok (.aload_n 0, 1) := by decide +kernel
theorem dX1_save_49 : decode cX1_save 49 = .ok (.dup, 1) := by decide +kernel
theorem dX1_save_50 : decode cX1_save 50 = .ok (.getfield 25, 3) := by decide +kernel
theorem dX1_save_53 : decode cX1_save 53 = .ok (.iconst 1, 1) := by decide +kernel
theorem dX1_save_54 : decode cX1_save 54 = .ok (.iadd, 1) := by decide +kernel
theorem dX1_save_55 : decode cX1_save 55 = .ok (.putfield 25, 3) := by decide +kernel
theorem dX1_save_58 : decode cX1_save 58 = .ok (.return_, 1) := by decide +kernel
theorem dX1_dropOldest_0 : decode cX1_dropOldest 0 = .ok (.aload_n 0, 1) := by decide +kernel
theorem dX1_dropOldest_1 : decode cX1_dropOldest 1 = .ok (.getfield 11, 3) := by decide +kernel
theorem dX1_dropOldest_4 : decode cX1_dropOldest 4 = .ok (.arraylength, 1) := by decide +kernel
theorem dX1_dropOldest_5 : decode cX1_dropOldest 5 = .ok (.iconst 1, 1) := by decide +kernel
theorem dX1_dropOldest_6 : decode cX1_dropOldest 6 = .ok (.if_icmp .ge 4, 3) := by decide +kernel
theorem dX1_dropOldest_9 : decode cX1_dropOldest 9 = .ok (.return_, 1) := by decide +kernel
theorem dX1_dropOldest_10 : decode cX1_dropOldest 10 = .ok (.aload_n 0, 1) := by decide +kernel
theorem dX1_dropOldest_11 : decode cX1_dropOldest 11 = .ok (.getfield 11, 3) := by decide +kernel
theorem dX1_dropOldest_14 : decode cX1_dropOldest 14 = .ok (.iconst 0, 1) := by decide +kernel
theorem dX1_dropOldest_15 : decode cX1_dropOldest 15 = .ok (.aaload, 1) := by decide +kernel
theorem dX1_dropOldest_16 : decode cX1_dropOldest 16 = .ok (.astore_n 1, 1) := by decide +kernel
theorem dX1_dropOldest_17 : decode cX1_dropOldest 17 = .ok (.iconst 1, 1) := by decide +kernel
theorem dX1_dropOldest_18 : decode cX1_dropOldest 18 = .ok (.istore_n 2, 1) := by decide +kernel
theorem dX1_dropOldest_19 : decode cX1_dropOldest 19 = .ok (.iload_n 2, 1) := by decide +kernel
theorem dX1_dropOldest_20 : decode cX1_dropOldest 20 = .ok (.aload_n 0, 1) := by decide +kernel
theorem dX1_dropOldest_21 : decode cX1_dropOldest 21 = .ok (.getfield 11, 3) := by decide +kernel
theorem dX1_dropOldest_24 : decode cX1_dropOldest 24 = .ok (.arraylength, 1) := by decide +kernel
theorem dX1_dropOldest_25 : decode cX1_dropOldest 25 = .ok (.if_icmp .ge 23, 3) := by decide +kernel
theorem dX1_dropOldest_28 : decode cX1_dropOldest 28 = .ok (.aload_n 0, 1) := by decide +kernel
theorem dX1_dropOldest_29 : decode cX1_dropOldest 29 = .ok (.getfield 11, 3) := by decide +kernel
theorem dX1_dropOldest_32 : decode cX1_dropOldest 32 = .ok (.iload_n 2, 1) := by decide +kernel
theorem dX1_dropOldest_33 : decode cX1_dropOldest 33 = .ok (.iconst 1, 1) := by decide +kernel
theorem dX1_dropOldest_34 : decode cX1_dropOldest 34 = .ok (.isub, 1) := by decide +kernel
theorem dX1_dropOldest_35 : decode cX1_dropOldest 35 = .ok (.aload_n 0, 1) := by decide +kernel
theorem dX1_dropOldest_36 : decode cX1_dropOldest 36 = .ok (.getfield 11, 3) := by decide +kernel
theorem dX1_dropOldest_39 : decode cX1_dropOldest 39 = .ok (.iload_n 2, 1) := by decide +kernel
theorem dX1_dropOldest_40 : decode cX1_dropOldest 40 = .ok (.aaload, 1) := by decide +kernel
theorem dX1_dropOldest_41 : decode cX1_dropOldest 41 = .ok (.aastore, 1) := by decide +kernel
theorem dX1_dropOldest_42 : decode cX1_dropOldest 42 = .ok (.iinc 2 1, 3) := by decide +kernel
theorem dX1_dropOldest_45 : decode cX1_dropOldest 45 = .ok (.goto (-26), 3) := by decide +kernel
theorem dX1_dropOldest_48 : decode cX1_dropOldest 48 = .ok (.aload_n 0, 1) := by decide +kernel
theorem dX1_dropOldest_49 : decode cX1_dropOldest 49 = .ok (.getfield 11, 3) := by decide +kernel
theorem dX1_dropOldest_52 : decode cX1_dropOldest 52 = .ok (.aload_n 0, 1) := by decide +kernel
theorem dX1_dropOldest_53 : decode cX1_dropOldest 53 = .ok (.getfield 11, 3) := by decide +kernel
theorem dX1_dropOldest_56 : decode cX1_dropOldest 56 = .ok (.arraylength, 1) := by decide +kernel
theorem dX1_dropOldest_57 : decode cX1_dropOldest 57 = .ok (.iconst 1, 1) := by decide +kernel
theorem dX1_dropOldest_58 : decode cX1_dropOldest 58 = .ok (.isub, 1) := by decide +kernel
theorem dX1_dropOldest_59 : decode cX1_dropOldest 59 = .ok (.aload_n 1, 1) := by decide +kernel
theorem dX1_dropOldest_60 : decode cX1_dropOldest 60 = .ok (.aastore, 1) := by decide +kernel
theorem dX1_dropOldest_61 : decode cX1_dropOldest 61 = .ok (.aload_n 0, 1) := by decide +kernel
theorem dX1_dropOldest_62 : decode cX1_dropOldest 62 = .ok (.aload_n 0, 1) := by decide +kernel
theorem dX1_dropOldest_63 : decode cX1_dropOldest 63 = .ok (.getfield 11, 3) := by decide +kernel
theorem dX1_dropOldest_66 : decode cX1_dropOldest 66 = .ok (.arraylength, 1) := by decide +kernel
theorem dX1_dropOldest_67 : decode cX1_dropOldest 67 = .ok (.iconst 1, 1) := by decide +kernel
theorem dX1_dropOldest_68 : decode cX1_dropOldest 68 = .ok (.isub, 1) := by decide +kernel
theorem dX1_dropOldest_69 : decode cX1_dropOldest 69 = .ok (.putfield 25, 3) := by decide +kernel
theorem dX1_dropOldest_72 : decode cX1_dropOldest 72 = .ok (.return_, 1) := by decide +kernel
theorem dX1_restoreLast_0 : decode cX1_restoreLast 0 = .ok (.aload_n 0, 1) := by decide +kernel
theorem dX1_restoreLast_1 : decode cX1_restoreLast 1 = .ok (.getfield 25, 3) := by decide +kernel
theorem dX1_restoreLast_4 : decode cX1_restoreLast 4 = .ok (.iconst 1, 1) := by decide +kernel
theorem dX1_restoreLast_5 : decode cX1_restoreLast 5 = .ok (.isub, 1) := by decide +kernel
theorem dX1_restoreLast_6 : decode cX1_restoreLast 6 = .ok (.istore_n 2, 1) := by decide +kernel
theorem dX1_restoreLast_7 : decode cX1_restoreLast 7 = .ok (.iload_n 2, 1) := by decide +kernel
theorem dX1_restoreLast_8 : decode cX1_restoreLast 8 = .ok (.ifCond .lt 27, 3) := by decide +kernel
theorem dX1_restoreLast_11 : decode cX1_restoreLast 11 = .ok (.iload_n 2, 1) := by decide +kernel
theorem dX1_restoreLast_12 : decode cX1_restoreLast 12 = .ok (.aload_n 0, 1) := by decide +kernel
theorem dX1_restoreLast_13 : decode cX1_restoreLast 13 = .ok (.getfield 11, 3) := by decide +kernel
theorem dX1_restoreLast_16 : decode cX1_restoreLast 16 = .ok (.arraylength, 1) := by decide +kernel
theorem dX1_restoreLast_17 : decode cX1_restoreLast 17 = .ok (.if_icmp .ge 18, 3) := by decide +kernel
theorem dX1_restoreLast_20 : decode cX1_restoreLast 20 = .ok (.aload_n 0, 1) := by decide +kernel
theorem dX1_restoreLast_21 : decode cX1_restoreLast 21 = .ok (.getfield 11, 3) := by decide +kernel
theorem dX1_restoreLast_24 : decode cX1_restoreLast 24 = .ok (.iload_n 2, 1) := by decide +kernel
theorem dX1_restoreLast_25 : decode cX1_restoreLast 25 = .ok (.aaload, 1) := by decide +kernel
theorem dX1_restoreLast_26 : decode cX1_restoreLast 26 = .ok (.aload_n 1, 1) := by decide +kernel
theorem dX1_restoreLast_27 : decode cX1_restoreLast 27 = .ok (.invokestatic 32, 3) := by decide +kernel
theorem dX1_restoreLast_30 : decode cX1_restoreLast 30 = .ok (.aload_n 0, 1) := by decide +kernel
theorem dX1_restoreLast_31 : decode cX1_restoreLast 31 = .ok (.iload_n 2, 1) := by decide +kernel
theorem dX1_restoreLast_32 : decode cX1_restoreLast 32 = .ok (.putfield 25, 3) := by decide +kernel
theorem dX1_restoreLast_35 : decode cX1_restoreLast 35 = .ok (.return_, 1) := by decide +kernel
theorem dX1_isSlotFilled_0 : decode cX1_isSlotFilled 0 = .ok (.iload_n 1, 1) := by decide +kernel
theorem dX1_isSlotFilled_1 : decode cX1_isSlotFilled 1 = .ok (.ifCond .lt 25, 3) := by decide +kernel
theorem dX1_isSlotFilled_4 : decode cX1_isSlotFilled 4 = .ok (.iload_n 1, 1) := by decide +kernel
theorem dX1_isSlotFilled_5 : decode cX1_isSlotFilled 5 = .ok (.aload_n 0, 1) := by decide +kernel
theorem dX1_isSlotFilled_6 : decode cX1_isSlotFilled 6 = .ok (.getfield 20, 3) := by decide +kernel
theorem dX1_isSlotFilled_9 : decode cX1_isSlotFilled 9 = .ok (.arraylength, 1) := by decide +kernel
theorem dX1_isSlotFilled_10 : decode cX1_isSlotFilled 10 = .ok (.if_icmp .ge 16, 3) := by decide +kernel
theorem dX1_isSlotFilled_13 : decode cX1_isSlotFilled 13 = .ok (.aload_n 0, 1) := by decide +kernel
theorem dX1_isSlotFilled_14 : decode cX1_isSlotFilled 14 = .ok (.getfield 20, 3) := by decide +kernel
theorem dX1_isSlotFilled_17 : decode cX1_isSlotFilled 17 = .ok (.iload_n 1, 1) := by decide +kernel
theorem dX1_isSlotFilled_18 : decode cX1_isSlotFilled 18 = .ok (.baload, 1) := by decide +kernel
theorem dX1_isSlotFilled_19 : decode cX1_isSlotFilled 19 = .ok (.ifCond .eq 7, 3) := by decide +kernel
theorem dX1_isSlotFilled_22 : decode cX1_isSlotFilled 22 = .ok (.iconst 1, 1) := by decide +kernel
theorem dX1_isSlotFilled_23 : decode cX1_isSlotFilled 23 = .ok (.goto 4, 3) := by decide +kernel
theorem dX1_isSlotFilled_26 : decode cX1_isSlotFilled 26 = .ok (.iconst 0, 1) := by decide +kernel
theorem dX1_isSlotFilled_27 : decode cX1_isSlotFilled 27 = .ok (.ireturn, 1) := by decide +kernel
theorem dX1_putIntoSlot_0 : decode cX1_putIntoSlot 0 = .ok (.iload_n 1, 1) := by decide +kernel
theorem dX1_putIntoSlot_1 : decode cX1_putIntoSlot 1 = .ok (.ifCond .lt 38, 3) := by decide +kernel
theorem dX1_putIntoSlot_4 : decode cX1_putIntoSlot 4 = .ok (.iload_n 1, 1) := by decide +kernel
theorem dX1_putIntoSlot_5 : decode cX1_putIntoSlot 5 = .ok (.aload_n 0, 1) := by decide +kernel
theorem dX1_putIntoSlot_6 : decode cX1_putIntoSlot 6 = .ok (.getfield 17, 3) := by decide +kernel
theorem dX1_putIntoSlot_9 : decode cX1_putIntoSlot 9 = .ok (.arraylength, 1) := by decide +kernel
theorem dX1_putIntoSlot_10 : decode cX1_putIntoSlot 10 = .ok (.if_icmp .ge 29, 3) := by decide +kernel
theorem dX1_putIntoSlot_13 : decode cX1_putIntoSlot 13 = .ok (.iload_n 1, 1) := by decide +kernel
theorem dX1_putIntoSlot_14 : decode cX1_putIntoSlot 14 = .ok (.aload_n 0, 1) := by decide +kernel
theorem dX1_putIntoSlot_15 : decode cX1_putIntoSlot 15 = .ok (.getfield 20, 3) := by decide +kernel
theorem dX1_putIntoSlot_18 : decode cX1_putIntoSlot 18 = .ok (.arraylength, 1) := by decide +kernel
theorem dX1_putIntoSlot_19 : decode cX1_putIntoSlot 19 = .ok (.if_icmp .ge 20, 3) := by decide +kernel
theorem dX1_putIntoSlot_22 : decode cX1_putIntoSlot 22 = .ok (.aload_n 2, 1) := by decide +kernel
theorem dX1_putIntoSlot_23 : decode cX1_putIntoSlot 23 = .ok (.aload_n 0, 1) := by decide +kernel
theorem dX1_putIntoSlot_24 : decode cX1_putIntoSlot 24 = .ok (.getfield 17, 3) := by decide +kernel
theorem dX1_putIntoSlot_27 : decode cX1_putIntoSlot 27 = .ok (.iload_n 1, 1) := by decide +kernel
theorem dX1_putIntoSlot_28 : decode cX1_putIntoSlot 28 = .ok (.aaload, 1) := by decide +kernel
theorem dX1_putIntoSlot_29 : decode cX1_putIntoSlot 29 = .ok (.invokestatic 32, 3) := by decide +kernel
theorem dX1_putIntoSlot_32 : decode cX1_putIntoSlot 32 = .ok (.aload_n 0, 1) := by decide +kernel
theorem dX1_putIntoSlot_33 : decode cX1_putIntoSlot 33 = .ok (.getfield 20, 3) := by decide +kernel
theorem dX1_putIntoSlot_36 : decode cX1_putIntoSlot 36 = .ok (.iload_n 1, 1) := by decide +kernel
theorem dX1_putIntoSlot_37 : decode cX1_putIntoSlot 37 = .ok (.iconst 1, 1) := by decide +kernel
theorem dX1_putIntoSlot_38 : decode cX1_putIntoSlot 38 = .ok (.bastore, 1) := by decide +kernel
theorem dX1_putIntoSlot_39 : decode cX1_putIntoSlot 39 = .ok (.return_, 1) := by decide +kernel
theorem dX1_restoreSlot_0 : decode cX1_restoreSlot 0 = .ok (.iload_n 1, 1) := by decide +kernel
theorem dX1_restoreSlot_1 : decode cX1_restoreSlot 1 = .ok (.ifCond .lt 22, 3) := by decide +kernel
theorem dX1_restoreSlot_4 : decode cX1_restoreSlot 4 = .ok (.iload_n 1, 1) := by decide +kernel
theorem dX1_restoreSlot_5 : decode cX1_restoreSlot 5 = .ok (.aload_n 0, 1) := by decide +kernel
theorem dX1_restoreSlot_6 : decode cX1_restoreSlot 6 = .ok (.getfield 17, 3) := by decide +kernel
theorem dX1_restoreSlot_9 : decode cX1_restoreSlot 9 = .ok (.arraylength, 1) := by decide +kernel
theorem dX1_restoreSlot_10 : decode cX1_restoreSlot 10 = .ok (.if_icmp .ge 13, 3) := by decide +kernel
theorem dX1_restoreSlot_13 : decode cX1_restoreSlot 13 = .ok (.aload_n 0, 1) := by decide +kernel
theorem dX1_restoreSlot_14 : decode cX1_restoreSlot 14 = .ok (.getfield 17, 3) := by decide +kernel
theorem dX1_restoreSlot_17 : decode cX1_restoreSlot 17 = .ok (.iload_n 1, 1) := by decide +kernel
theorem dX1_restoreSlot_18 : decode cX1_restoreSlot 18 = .ok (.aaload, 1) := by decide +kernel
theorem dX1_restoreSlot_19 : decode cX1_restoreSlot 19 = .ok (.aload_n 2, 1) := by decide +kernel
theorem dX1_restoreSlot_20 : decode cX1_restoreSlot 20 = .ok (.invokestatic 32, 3) := by decide +kernel
theorem dX1_restoreSlot_23 : decode cX1_restoreSlot 23 = .ok (.return_, 1) := by decide +kernel
theorem dX1_copyState_0 : decode cX1_copyState 0 = .ok (.aload_n 0, 1) := by decide +kernel
theorem dX1_copyState_1 : decode cX1_copyState 1 = .ok (.ifnull 12, 3) := by decide +kernel
theorem dX1_copyState_4 : decode cX1_copyState 4 = .ok (.aload_n 1, 1) := by decide +kernel
theorem dX1_copyState_5 : decode cX1_copyState 5 = .ok (.ifnull 8, 3) := by decide +kernel
theorem dX1_copyState_8 : decode cX1_copyState 8 = .ok (.aload_n 1, 1) := by decide +kernel
theorem dX1_copyState_9 : decode cX1_copyState 9 = .ok (.aload_n 0, 1) := by decide +kernel
theorem dX1_copyState_10 : decode cX1_copyState 10 = .ok (.invokevirtual 36, 3) := by decide +kernel
theorem dX1_copyState_13 : decode cX1_copyState 13 = .ok (.return_, 1) := by decide +kernel
theorem dX2_init_0 : decode cX2_init 0 = .ok (.aload_n 0, 1) := by decide +kernel
theorem dX2_init_1 : decode cX2_init 1 = .ok (.invokespecial 3, 3) := by decide +kernel
theorem dX2_init_4 : decode cX2_init 4 = .ok (.aload_n 0, 1) := by decide +kernel
theorem dX2_init_5 : decode cX2_init 5 = .ok (.bipush 6, 2) := by decide +kernel
theorem dX2_init_7 : decode cX2_init 7 = .ok (.newarray .int, 2) := by decide +kernel
theorem dX2_init_9 : decode cX2_init 9 = .ok (.putfield 9, 3) := by decide +kernel
theorem dX2_init_12 : decode cX2_init 12 = .ok (.aload_n 0, 1) := by decide +kernel
theorem dX2_init_13 : decode cX2_init 13 = .ok (.bipush 11, 2) := by decide +kernel
theorem dX2_init_15 : decode cX2_init 15 = .ok (.putfield 15, 3) := by decide +kernel
theorem dX2_init_18 : decode cX2_init 18 = .ok (.iconst 0, 1) := by decide +kernel
theorem dX2_init_19 : decode cX2_init 19 = .ok (.istore_n 1, 1) := by decide +kernel
theorem dX2_init_20 : decode cX2_init 20 = .ok (.iload_n 1, 1) := by decide +kernel
theorem dX2_init_21 : decode cX2_init 21 = .ok (.aload_n 0, 1) := by decide +kernel
theorem dX2_init_22 : decode cX2_init 22 = .ok (.getfield 9, 3) := by decide +kernel
theorem dX2_init_25 : decode cX2_init 25 = .ok (.arraylength, 1) := by decide +kernel
theorem dX2_init_26 : decode cX2_init 26 = .ok (.if_icmp .ge 18, 3) := by decide +kernel
theorem dX2_init_29 : decode cX2_init 29 = .ok (.aload_n 0, 1) := by decide +kernel
theorem dX2_init_30 : decode cX2_init 30 = .ok (.getfield 9, 3) := by decide +kernel
theorem dX2_init_33 : decode cX2_init 33 = .ok (.iload_n 1, 1) := by decide +kernel
theorem dX2_init_34 : decode cX2_init 34 = .ok (.iconst 1, 1) := by decide +kernel
theorem dX2_init_35 : decode cX2_init 35 = .ok (.iload_n 1, 1) := by decide +kernel
theorem dX2_init_36 : decode cX2_init 36 = .ok (.iadd, 1) := by decide +kernel
theorem dX2_init_37 : decode cX2_init 37 = .ok (.iastore, 1) := by decide +kernel
theorem dX2_init_38 : decode cX2_init 38 = .ok (.iinc 1 1, 3) := by decide +kernel
theorem dX2_init_41 : decode cX2_init 41 = .ok (.goto (-21), 3) := by decide +kernel
theorem dX2_init_44 : decode cX2_init 44 = .ok (.return_, 1) := by decide +kernel
theorem dX2_copyFrom_0 : decode cX2_copyFrom 0 = .ok (.aload_n 1, 1) := by decide +kernel
theorem dX2_copyFrom_1 : decode cX2_copyFrom 1 = .ok (.getfield 9, 3) := by decide +kernel
theorem dX2_copyFrom_4 : decode cX2_copyFrom 4 = .ok (.aload_n 0, 1) := by decide +kernel
theorem dX2_copyFrom_5 : decode cX2_copyFrom 5 = .ok (.getfield 9, 3) := by decide +kernel
theorem dX2_copyFrom_8 : decode cX2_copyFrom 8 = .ok (.invokestatic 19, 3) := by decide +kernel
theorem dX2_copyFrom_11 : decode cX2_copyFrom 11 = .ok (.aload_n 0, 1) := by decide +kernel
theorem dX2_copyFrom_12 : decode cX2_copyFrom 12 = .ok (.aload_n 1, 1) := by decide +kernel
theorem dX2_copyFrom_13 : decode cX2_copyFrom 13 = .ok (.getfield 15, 3) := by decide +kernel
theorem dX2_copyFrom_16 : decode cX2_copyFrom 16 = .ok (.putfield 15, 3) := by decide +kernel
theorem dX2_copyFrom_19 : decode cX2_copyFrom 19 = .ok (.return_, 1) := by decide +kernel
theorem dX2_weightAt_0 : decode cX2_weightAt 0 = .ok (.iload_n 1, 1) := by decide +kernel
theorem dX2_weightAt_1 : decode cX2_weightAt 1 = .ok (.ifCond .lt 21, 3) := by decide +kernel
theorem dX2_weightAt_4 : decode cX2_weightAt 4 = .ok (.iload_n 1, 1) := by decide +kernel
theorem dX2_weightAt_5 : decode cX2_weightAt 5 = .ok (.aload_n 0, 1) := by decide +kernel
theorem dX2_weightAt_6 : decode cX2_weightAt 6 = .ok (.getfield 9, 3) := by decide +kernel
theorem dX2_weightAt_9 : decode cX2_weightAt 9 = .ok (.arraylength, 1) := by decide +kernel
theorem dX2_weightAt_10 : decode cX2_weightAt 10 = .ok (.if_icmp .ge 12, 3) := by decide +kernel
theorem dX2_weightAt_13 : decode cX2_weightAt 13 = .ok (.aload_n 0, 1) := by decide +kernel
theorem dX2_weightAt_14 : decode cX2_weightAt 14 = .ok (.getfield 9, 3) := by decide +kernel
theorem dX2_weightAt_17 : decode cX2_weightAt 17 = .ok (.iload_n 1, 1) := by decide +kernel
theorem dX2_weightAt_18 : decode cX2_weightAt 18 = .ok (.iaload, 1) := by decide +kernel
theorem dX2_weightAt_19 : decode cX2_weightAt 19 = .ok (.goto 4, 3) := by decide +kernel
theorem dX2_weightAt_22 : decode cX2_weightAt 22 = .ok (.iconst 0, 1) := by decide +kernel
theorem dX2_weightAt_23 : decode cX2_weightAt 23 = .ok (.ireturn, 1) := by decide +kernel
theorem dX2_setWeight_0 : decode cX2_setWeight 0 = .ok (.iload_n 1, 1) := by decide +kernel
theorem dX2_setWeight_1 : decode cX2_setWeight 1 = .ok (.ifCond .lt 19, 3) := by decide +kernel
theorem dX2_setWeight_4 : decode cX2_setWeight 4 = .ok (.iload_n 1, 1) := by decide +kernel
theorem dX2_setWeight_5 : decode cX2_setWeight 5 = .ok (.aload_n 0, 1) := by decide +kernel
theorem dX2_setWeight_6 : decode cX2_setWeight 6 = .ok (.getfield 9, 3) := by decide +kernel
theorem dX2_setWeight_9 : decode cX2_setWeight 9 = .ok (.arraylength, 1) := by decide +kernel
theorem dX2_setWeight_10 : decode cX2_setWeight 10 = .ok (.if_icmp .ge 10, 3) := by decide +kernel
theorem dX2_setWeight_13 : decode cX2_setWeight 13 = .ok (.aload_n 0, 1) := by decide +kernel
theorem dX2_setWeight_14 : decode cX2_setWeight 14 = .ok (.getfield 9, 3) := by decide +kernel
theorem dX2_setWeight_17 : decode cX2_setWeight 17 = .ok (.iload_n 1, 1) := by decide +kernel
theorem dX2_setWeight_18 : decode cX2_setWeight 18 = .ok (.iload_n 2, 1) := by decide +kernel
theorem dX2_setWeight_19 : decode cX2_setWeight 19 = .ok (.iastore, 1) := by decide +kernel
theorem dX2_setWeight_20 : decode cX2_setWeight 20 = .ok (.return_, 1) := by decide +kernel
theorem dX2_letterOf_0 : decode cX2_letterOf 0 = .ok (.iconst 0, 1) := by decide +kernel
theorem dX2_letterOf_1 : decode cX2_letterOf 1 = .ok (.istore_n 2, 1) := by decide +kernel
theorem dX2_letterOf_2 : decode cX2_letterOf 2 = .ok (.iload_n 1, 1) := by decide +kernel
theorem dX2_letterOf_3 : decode cX2_letterOf 3 = .ok (.istore_n 3, 1) := by decide +kernel
theorem dX2_letterOf_4 : decode cX2_letterOf 4 = .ok (.iconst 5, 1) := by decide +kernel
theorem dX2_letterOf_5 : decode cX2_letterOf 5 = .ok (.istore 4, 2) := by decide +kernel
theorem dX2_letterOf_7 : decode cX2_letterOf 7 = .ok (.iload 4, 2) := by decide +kernel
theorem dX2_letterOf_9 : decode cX2_letterOf 9 = .ok (.ifCond .lt 28, 3) := by decide +kernel
theorem dX2_letterOf_12 : decode cX2_letterOf 12 = .ok (.iload_n 2, 1) := by decide +kernel
theorem dX2_letterOf_13 : decode cX2_letterOf 13 = .ok (.aload_n 0, 1) := by decide +kernel
theorem dX2_letterOf_14 : decode cX2_letterOf 14 = .ok (.iload 4, 2) := by decide +kernel
theorem dX2_letterOf_16 : decode cX2_letterOf 16 = .ok (.invokevirtual 23, 3) := by decide +kernel
theorem dX2_letterOf_19 : decode cX2_letterOf 19 = .ok (.iload_n 3, 1) := by decide +kernel
theorem dX2_letterOf_20 : decode cX2_letterOf 20 = .ok (.bipush 10, 2) := by decide +kernel
theorem dX2_letterOf_22 : decode cX2_letterOf 22 = .ok (.irem, 1) := by decide +kernel
theorem dX2_letterOf_23 : decode cX2_letterOf 23 = .ok (.imul, 1) := by decide +kernel
theorem dX2_letterOf_24 : decode cX2_letterOf 24 = .ok (.iadd, 1) := by decide +kernel
theorem dX2_letterOf_25 : decode cX2_letterOf 25 = .ok (.istore_n 2, 1) := by decide +kernel
theorem dX2_letterOf_26 : decode cX2_letterOf 26 = .ok (.iload_n 3, 1) := by decide +kernel
theorem dX2_letterOf_27 : decode cX2_letterOf 27 = .ok (.bipush 10, 2) := by decide +kernel
theorem dX2_letterOf_29 : decode cX2_letterOf 29 = .ok (.idiv, 1) := by decide +kernel
theorem dX2_letterOf_30 : decode cX2_letterOf 30 = .ok (.istore_n 3, 1) := by decide +kernel
theorem dX2_letterOf_31 : decode cX2_letterOf 31 = .ok (.iinc 4 (-1), 3) := by decide +kernel
theorem dX2_letterOf_34 : decode cX2_letterOf 34 = .ok (.goto (-27), 3) := by decide +kernel
theorem dX2_letterOf_37 : decode cX2_letterOf 37 = .ok (.aload_n 0, 1) := by decide +kernel
theorem dX2_letterOf_38 : decode cX2_letterOf 38 = .ok (.iload_n 2, 1) := by decide +kernel
theorem dX2_letterOf_39 : decode cX2_letterOf 39 = .ok (.invokevirtual 27, 3) := by decide +kernel
theorem dX2_letterOf_42 : decode cX2_letterOf 42 = .ok (.ireturn, 1) := by decide +kernel
theorem dX2_restOf_0 : decode cX2_restOf 0 = .ok (.aload_n 0, 1) := by decide +kernel
theorem dX2_restOf_1 : decode cX2_restOf 1 = .ok (.getfield 15, 3) := by decide +kernel
theorem dX2_restOf_4 : decode cX2_restOf 4 = .ok (.iconst 1, 1) := by decide +kernel
theorem dX2_restOf_5 : decode cX2_restOf 5 = .ok (.if_icmp .ge 5, 3) := by decide +kernel
theorem dX2_restOf_8 : decode cX2_restOf 8 = .ok (.iconst 0, 1) := by decide +kernel
theorem dX2_restOf_9 : decode cX2_restOf 9 = .ok (.ireturn, 1) := by decide +kernel
theorem dX2_restOf_10 : decode cX2_restOf 10 = .ok (.iload_n 1, 1) := by decide +kernel
theorem dX2_restOf_11 : decode cX2_restOf 11 = .ok (.aload_n 0, 1) := by decide +kernel
theorem dX2_restOf_12 : decode cX2_restOf 12 = .ok (.getfield 15, 3) := by decide +kernel
theorem dX2_restOf_15 : decode cX2_restOf 15 = .ok (.irem, 1) := by decide +kernel
theorem dX2_restOf_16 : decode cX2_restOf 16 = .ok (.istore_n 2, 1) := by decide +kernel
theorem dX2_restOf_17 : decode cX2_restOf 17 = .ok (.iload_n 2, 1) := by decide +kernel
theorem dX2_restOf_18 : decode cX2_restOf 18 = .ok (.ifCond .ge 12, 3) := by decide +kernel
theorem dX2_restOf_21 : decode cX2_restOf 21 = .ok (.iload_n 2, 1) := by decide +kernel
theorem dX2_restOf_22 : decode cX2_restOf 22 = .ok (.aload_n 0, 1) := by decide +kernel
theorem dX2_restOf_23 : decode cX2_restOf 23 = .ok (.getfield 15, 3) := by decide +kernel
theorem dX2_restOf_26 : decode cX2_restOf 26 = .ok (.iadd, 1) := by decide +kernel
theorem dX2_restOf_27 : decode cX2_restOf 27 = .ok (.goto 4, 3) := by decide +kernel
theorem dX2_restOf_30 : decode cX2_restOf 30 = .ok (.iload_n 2, 1) := by decide +kernel
theorem dX2_restOf_31 : decode cX2_restOf 31 = .ok (.ireturn, 1) := by decide +kernel
theorem dX2_digitAt_0 : decode cX2_digitAt 0 = .ok (.iload_n 0, 1) := by decide +kernel
theorem dX2_digitAt_1 : decode cX2_digitAt 1 = .ok (.istore_n 2, 1) := by decide +kernel
theorem dX2_digitAt_2 : decode cX2_digitAt 2 = .ok (.iconst 5, 1) := by decide +kernel
theorem dX2_digitAt_3 : decode cX2_digitAt 3 = .ok (.istore_n 3, 1) := by decide +kernel
theorem dX2_digitAt_4 : decode cX2_digitAt 4 = .ok (.iload_n 3, 1) := by decide +kernel
theorem dX2_digitAt_5 : decode cX2_digitAt 5 = .ok (.iload_n 1, 1) := by decide +kernel
theorem dX2_digitAt_6 : decode cX2_digitAt 6 = .ok (.if_icmp .le 14, 3) := by decide +kernel
theorem dX2_digitAt_9 : decode cX2_digitAt 9 = .ok (.iload_n 2, 1) := by decide +kernel
theorem dX2_digitAt_10 : decode cX2_digitAt 10 = .ok (.bipush 10, 2) := by decide +kernel
theorem dX2_digitAt_12 : decode cX2_digitAt 12 = .ok (.idiv, 1) := by decide +kernel
theorem dX2_digitAt_13 : decode cX2_digitAt 13 = .ok (.istore_n 2, 1) := by decide +kernel
theorem dX2_digitAt_14 : decode cX2_digitAt 14 = .ok (.iinc 3 (-1), 3) := by decide +kernel
theorem dX2_digitAt_17 : decode cX2_digitAt 17 = .ok (.goto (-13), 3) := by decide +kernel
theorem dX2_digitAt_20 : decode cX2_digitAt 20 = .ok (.iload_n 2, 1) := by decide +kernel
theorem dX2_digitAt_21 : decode cX2_digitAt 21 = .ok (.bipush 10, 2) := by decide +kernel
theorem dX2_digitAt_23 : decode cX2_digitAt 23 = .ok (.irem, 1) := by decide +kernel
theorem dX2_digitAt_24 : decode cX2_digitAt 24 = .ok (.ireturn, 1) := by decide +kernel
theorem dX2_factorAt_0 : decode cX2_factorAt 0 = .ok (.aload_n 0, 1) := by decide +kernel
theorem dX2_factorAt_1 : decode cX2_factorAt 1 = .ok (.iload_n 1, 1) := by decide +kernel
theorem dX2_factorAt_2 : decode cX2_factorAt 2 = .ok (.invokevirtual 23, 3) := by decide +kernel
theorem dX2_factorAt_5 : decode cX2_factorAt 5 = .ok (.istore_n 3, 1) := by decide +kernel
theorem dX2_factorAt_6 : decode cX2_factorAt 6 = .ok (.iload_n 2, 1) := by decide +kernel
theorem dX2_factorAt_7 : decode cX2_factorAt 7 = .ok (.iconst 1, 1) := by decide +kernel
theorem dX2_factorAt_8 : decode cX2_factorAt 8 = .ok (.if_icmp .ne 15, 3) := by decide +kernel
theorem dX2_factorAt_11 : decode cX2_factorAt 11 = .ok (.iload_n 3, 1) := by decide +kernel
theorem dX2_factorAt_12 : decode cX2_factorAt 12 = .ok (.aload_n 0, 1) := by decide +kernel
theorem dX2_factorAt_13 : decode cX2_factorAt 13 = .ok (.iload_n 1, 1) := by decide +kernel
theorem dX2_factorAt_14 : decode cX2_factorAt 14 = .ok (.iconst 1, 1) := by decide +kernel
theorem dX2_factorAt_15 : decode cX2_factorAt 15 = .ok (.iadd, 1) := by decide +kernel
theorem dX2_factorAt_16 : decode cX2_factorAt 16 = .ok (.invokevirtual 23, 3) := by decide +kernel
theorem dX2_factorAt_19 : decode cX2_factorAt 19 = .ok (.isub, 1) := by decide +kernel
theorem dX2_factorAt_20 : decode cX2_factorAt 20 = .ok (.goto 4, 3) := by decide +kernel
theorem dX2_factorAt_23 : decode cX2_factorAt 23 = .ok (.iload_n 3, 1) := by decide +kernel
theorem dX2_factorAt_24 : decode cX2_factorAt 24 = .ok (.ireturn, 1) := by decide +kernel
theorem dX2_isHidden_0 : decode cX2_isHidden 0 = .ok (.aload_n 0, 1) := by decide +kernel
theorem dX2_isHidden_1 : decode cX2_isHidden 1 = .ok (.iload_n 1, 1) := by decide +kernel
theorem dX2_isHidden_2 : decode cX2_isHidden 2 = .ok (.iload_n 2, 1) := by decide +kernel
theorem dX2_isHidden_3 : decode cX2_isHidden 3 = .ok (.imul, 1) := by decide +kernel
theorem dX2_isHidden_4 : decode cX2_isHidden 4 = .ok (.invokevirtual 27, 3) := by decide +kernel
theorem dX2_isHidden_7 : decode cX2_isHidden 7 = .ok (.ifCond .ne 7, 3) := by decide +kernel
theorem dX2_isHidden_10 : decode cX2_isHidden 10 = .ok (.iconst 1, 1) := by decide +kernel
theorem dX2_isHidden_11 : decode cX2_isHidden 11 = .ok (.goto 4, 3) := by decide +kernel
theorem dX2_isHidden_14 : decode cX2_isHidden 14 = .ok (.iconst 0, 1) := by decide +kernel
theorem dX2_isHidden_15 : decode cX2_isHidden 15 = .ok (.ireturn, 1) := by decide +kernel
theorem dX2_hiddenPairsTried_0 : decode cX2_hiddenPairsTried 0 = .ok (.iconst 0, 1) := by decide +kernel
theorem dX2_hiddenPairsTried_1 : decode cX2_hiddenPairsTried 1 = .ok (.istore_n 2, 1) := by decide +kernel
theorem dX2_hiddenPairsTried_2 : decode cX2_hiddenPairsTried 2 = .ok (.iconst 0, 1) := by decide +kernel
theorem dX2_hiddenPairsTried_3 : decode cX2_hiddenPairsTried 3 = .ok (.istore_n 3, 1) := by decide +kernel
theorem dX2_hiddenPairsTried_4 : decode cX2_hiddenPairsTried 4 = .ok (.iload_n 3, 1) := by decide +kernel
theorem dX2_hiddenPairsTried_5 : decode cX2_hiddenPairsTried 5 = .ok (.bipush 9, 2) := by decide +kernel
theorem dX2_hiddenPairsTried_7 : decode cX2_hiddenPairsTried 7 = .ok (.if_icmp .gt 48, 3) := by decide +kernel
theorem dX2_hiddenPairsTried_10 : decode cX2_hiddenPairsTried 10 = .ok (.iload_n 3, 1) := by decide +kernel
theorem dX2_hiddenPairsTried_11 : decode cX2_hiddenPairsTried 11 = .ok (.iconst 1, 1) := by decide +kernel
theorem dX2_hiddenPairsTried_12 : decode cX2_hiddenPairsTried 12 = .ok (.iadd, 1) := by decide +kernel
theorem dX2_hiddenPairsTried_13 : decode cX2_hiddenPairsTried 13 = .ok (.istore 4, 2) := by decide +kernel
theorem dX2_hiddenPairsTried_15 : decode cX2_hiddenPairsTried 15 = .ok (.iload 4, 2) := by decide +kernel
theorem dX2_hiddenPairsTried_17 : decode cX2_hiddenPairsTried 17 = .ok (.bipush 9, 2) := by decide +kernel
theorem dX2_hiddenPairsTried_19 : decode cX2_hiddenPairsTried 19 = .ok (.if_icmp .gt 30, 3) := by decide +kernel
theorem dX2_hiddenPairsTried_22 : decode cX2_hiddenPairsTried 22 = .ok (.aload_n 0, 1) := by decide +kernel
theorem dX2_hiddenPairsTried_23 : decode cX2_hiddenPairsTried 23 = .ok (.iload_n 1, 1) := by decide +kernel
theorem dX2_hiddenPairsTried_24 : decode cX2_hiddenPairsTried 24 = .ok (.iload_n 3, 1) := by decide +kernel
theorem dX2_hiddenPairsTried_25 : decode cX2_hiddenPairsTried 25 = .ok (.imul, 1) := by decide +kernel
theorem dX2_hiddenPairsTried_26 : decode cX2_hiddenPairsTried 26 = .ok (.invokevirtual 27, 3) := by decide +kernel
theorem dX2_hiddenPairsTried_29 : decode cX2_hiddenPairsTried 29 = .ok (.aload_n 0, 1) := by decide +kernel
theorem dX2_hiddenPairsTried_30 : decode cX2_hiddenPairsTried 30 = .ok (.iload_n 1, 1) := by decide +kernel
theorem dX2_hiddenPairsTried_31 : decode cX2_hiddenPairsTried 31 = .ok (.iload 4, 2) := by decide +kernel
theorem dX2_hiddenPairsTried_33 : decode cX2_hiddenPairsTried 33 = .ok (.imul, 1) := by decide +kernel
theorem dX2_hiddenPairsTried_34 : decode cX2_hiddenPairsTried 34 = .ok (.invokevirtual 27, 3) := by decide +kernel
theorem dX2_hiddenPairsTried_37 : decode cX2_hiddenPairsTried 37 = .ok (.if_icmp .ne 6, 3) := by decide +kernel
theorem dX2_hiddenPairsTried_40 : decode cX2_hiddenPairsTried 40 = .ok (.iinc 2 1, 3) := by decide +kernel
theorem dX2_hiddenPairsTried_43 : decode cX2_hiddenPairsTried 43 = .ok (.iinc 4 1, 3) := by decide +kernel
theorem dX2_hiddenPairsTried_46 : decode cX2_hiddenPairsTried 46 = .ok (.goto (-31), 3) := by decide +kernel
theorem dX2_hiddenPairsTried_49 : decode cX2_hiddenPairsTried 49 = .ok (.iinc 3 1, 3) := by decide +kernel
theorem dX2_hiddenPairsTried_52 : decode cX2_hiddenPairsTried 52 = .ok (.goto (-48), 3) := by decide +kernel
theorem dX2_hiddenPairsTried_55 : decode cX2_hiddenPairsTried 55 = .ok (.iload_n 2, 1) := by decide +kernel
theorem dX2_hiddenPairsTried_56 : decode cX2_hiddenPairsTried 56 = .ok (.ireturn, 1) := by decide +kernel
theorem dX2_hiddenPairs_0 : decode cX2_hiddenPairs 0 = .ok (.iconst 0, 1) := by decide +kernel
theorem dX2_hiddenPairs_1 : decode cX2_hiddenPairs 1 = .ok (.istore_n 2, 1) := by decide +kernel
theorem dX2_hiddenPairs_2 : decode cX2_hiddenPairs 2 = .ok (.iconst 1, 1) := by decide +kernel
theorem dX2_hiddenPairs_3 : decode cX2_hiddenPairs 3 = .ok (.istore_n 3, 1) := by decide +kernel
theorem dX2_hiddenPairs_4 : decode cX2_hiddenPairs 4 = .ok (.iload_n 3, 1) := by decide +kernel
theorem dX2_hiddenPairs_5 : decode cX2_hiddenPairs 5 = .ok (.bipush 9, 2) := by decide +kernel
theorem dX2_hiddenPairs_7 : decode cX2_hiddenPairs 7 = .ok (.if_icmp .gt 25, 3) := by decide +kernel
theorem dX2_hiddenPairs_10 : decode cX2_hiddenPairs 10 = .ok (.aload_n 0, 1) := by decide +kernel
theorem dX2_hiddenPairs_11 : decode cX2_hiddenPairs 11 = .ok (.iload_n 1, 1) := by decide +kernel
theorem dX2_hiddenPairs_12 : decode cX2_hiddenPairs 12 = .ok (.iload_n 3, 1) := by decide +kernel
theorem dX2_hiddenPairs_13 : decode cX2_hiddenPairs 13 = .ok (.invokevirtual 30, 3) := by decide +kernel
theorem dX2_hiddenPairs_16 : decode cX2_hiddenPairs 16 = .ok (.ifCond .eq 10, 3) := by decide +kernel
theorem dX2_hiddenPairs_19 : decode cX2_hiddenPairs 19 = .ok (.iload_n 2, 1) := by decide +kernel
theorem dX2_hiddenPairs_20 : decode cX2_hiddenPairs 20 = .ok (.bipush 10, 2) := by decide +kernel
theorem dX2_hiddenPairs_22 : decode cX2_hiddenPairs 22 = .ok (.iload_n 3, 1) := by decide +kernel
theorem dX2_hiddenPairs_23 : decode cX2_hiddenPairs 23 = .ok (.isub, 1) := by decide +kernel
theorem dX2_hiddenPairs_24 : decode cX2_hiddenPairs 24 = .ok (.iadd, 1) := by decide +kernel
theorem dX2_hiddenPairs_25 : decode cX2_hiddenPairs 25 = .ok (.istore_n 2, 1) := by decide +kernel
theorem dX2_hiddenPairs_26 : decode cX2_hiddenPairs 26 = .ok (.iinc 3 1, 3) := by decide +kernel
theorem dX2_hiddenPairs_29 : decode cX2_hiddenPairs 29 = .ok (.goto (-25), 3) := by decide +kernel
theorem dX2_hiddenPairs_32 : decode cX2_hiddenPairs 32 = .ok (.iload_n 2, 1) := by decide +kernel
theorem dX2_hiddenPairs_33 : decode cX2_hiddenPairs 33 = .ok (.ireturn, 1) := by decide +kernel
theorem dX2_hiddenPairsWith_0 : decode cX2_hiddenPairsWith 0 = .ok (.iconst 0, 1) := by decide +kernel
theorem dX2_hiddenPairsWith_1 : decode cX2_hiddenPairsWith 1 = .ok (.istore_n 3, 1) := by decide +kernel
theorem dX2_hiddenPairsWith_2 : decode cX2_hiddenPairsWith 2 = .ok (.iconst 0, 1) := by decide +kernel
theorem dX2_hiddenPairsWith_3 : decode cX2_hiddenPairsWith 3 = .ok (.istore 4, 2) := by decide +kernel
theorem dX2_hiddenPairsWith_5 : decode cX2_hiddenPairsWith 5 = .ok (.iload 4, 2) := by decide +kernel
theorem dX2_hiddenPairsWith_7 : decode cX2_hiddenPairsWith 7 = .ok (.bipush 6, 2) := by decide +kernel
theorem dX2_hiddenPairsWith_9 : decode cX2_hiddenPairsWith 9 = .ok (.if_icmp .ge 79, 3) := by decide +kernel
theorem dX2_hiddenPairsWith_12 : decode cX2_hiddenPairsWith 12 = .ok (.iload 4, 2) := by decide +kernel
theorem dX2_hiddenPairsWith_14 : decode cX2_hiddenPairsWith 14 = .ok (.iload_n 1, 1) := by decide +kernel
theorem dX2_hiddenPairsWith_15 : decode cX2_hiddenPairsWith 15 = .ok (.if_icmp .ne 7, 3) := by decide +kernel
theorem dX2_hiddenPairsWith_18 : decode cX2_hiddenPairsWith 18 = .ok (.iload_n 2, 1) := by decide +kernel
theorem dX2_hiddenPairsWith_19 : decode cX2_hiddenPairsWith 19 = .ok (.goto 9, 3) := by decide +kernel
theorem dX2_hiddenPairsWith_22 : decode cX2_hiddenPairsWith 22 = .ok (.aload_n 0, 1) := by decide +kernel
theorem dX2_hiddenPairsWith_23 : decode cX2_hiddenPairsWith 23 = .ok (.iload 4, 2) := by decide +kernel
theorem dX2_hiddenPairsWith_25 : decode cX2_hiddenPairsWith 25 = .ok (.invokevirtual 23, 3) := by decide +kernel
theorem dX2_hiddenPairsWith_28 : decode cX2_hiddenPairsWith 28 = .ok (.istore 5, 2) := by decide +kernel
theorem dX2_hiddenPairsWith_30 : decode cX2_hiddenPairsWith 30 = .ok (.iload_n 3, 1) := by decide +kernel
theorem dX2_hiddenPairsWith_31 : decode cX2_hiddenPairsWith 31 = .ok (.aload_n 0, 1) := by decide +kernel
theorem dX2_hiddenPairsWith_32 : decode cX2_hiddenPairsWith 32 = .ok (.iload 5, 2) := by decide +kernel
theorem dX2_hiddenPairsWith_34 : decode cX2_hiddenPairsWith 34 = .ok (.invokevirtual 34, 3) := by decide +kernel
theorem dX2_hiddenPairsWith_37 : decode cX2_hiddenPairsWith 37 = .ok (.iadd, 1) := by decide +kernel
theorem dX2_hiddenPairsWith_38 : decode cX2_hiddenPairsWith 38 = .ok (.istore_n 3, 1) := by decide +kernel
theorem dX2_hiddenPairsWith_39 : decode cX2_hiddenPairsWith 39 = .ok (.iload 4, 2) := by decide +kernel
theorem dX2_hiddenPairsWith_41 : decode cX2_hiddenPairsWith 41 = .ok (.iconst 1, 1) := by decide +kernel
theorem dX2_hiddenPairsWith_42 : decode cX2_hiddenPairsWith 42 = .ok (.iadd, 1) := by decide +kernel
theorem dX2_hiddenPairsWith_43 : decode cX2_hiddenPairsWith 43 = .ok (.bipush 6, 2) := by decide +kernel
theorem dX2_hiddenPairsWith_45 : decode cX2_hiddenPairsWith 45 = .ok (.if_icmp .ge 37, 3) := by decide +kernel
theorem dX2_hiddenPairsWith_48 : decode cX2_hiddenPairsWith 48 = .ok (.iload 4, 2) := by decide +kernel
theorem dX2_hiddenPairsWith_50 : decode cX2_hiddenPairsWith 50 = .ok (.iconst 1, 1) := by decide +kernel
theorem dX2_hiddenPairsWith_51 : decode cX2_hiddenPairsWith 51 = .ok (.iadd, 1) := by decide +kernel
theorem dX2_hiddenPairsWith_52 : decode cX2_hiddenPairsWith 52 = .ok (.iload_n 1, 1) := by decide +kernel
theorem dX2_hiddenPairsWith_53 : decode cX2_hiddenPairsWith 53 = .ok (.if_icmp .ne 7, 3) := by decide +kernel
theorem dX2_hiddenPairsWith_56 : decode cX2_hiddenPairsWith 56 = .ok (.iload_n 2, 1) := by decide +kernel
theorem dX2_hiddenPairsWith_57 : decode cX2_hiddenPairsWith 57 = .ok (.goto 11, 3) := by decide +kernel
theorem dX2_hiddenPairsWith_60 : decode cX2_hiddenPairsWith 60 = .ok (.aload_n 0, 1) := by decide +kernel
theorem dX2_hiddenPairsWith_61 : decode cX2_hiddenPairsWith 61 = .ok (.iload 4, 2) := by decide +kernel
theorem dX2_hiddenPairsWith_63 : decode cX2_hiddenPairsWith 63 = .ok (.iconst 1, 1) := by decide +kernel
theorem dX2_hiddenPairsWith_64 : decode cX2_hiddenPairsWith 64 = .ok (.iadd, 1) := by decide +kernel
theorem dX2_hiddenPairsWith_65 : decode cX2_hiddenPairsWith 65 = .ok (.invokevirtual 23, 3) := by decide +kernel
theorem dX2_hiddenPairsWith_68 : decode cX2_hiddenPairsWith 68 = .ok (.istore 6, 2) := by decide +kernel
theorem dX2_hiddenPairsWith_70 : decode cX2_hiddenPairsWith 70 = .ok (.iload_n 3, 1) := by decide +kernel
theorem dX2_hiddenPairsWith_71 : decode cX2_hiddenPairsWith 71 = .ok (.aload_n 0, 1) := by decide +kernel
theorem dX2_hiddenPairsWith_72 : decode cX2_hiddenPairsWith 72 = .ok (.iload 5, 2) := by decide +kernel
theorem dX2_hiddenPairsWith_74 : decode cX2_hiddenPairsWith 74 = .ok (.iload 6, 2) := by decide +kernel
theorem dX2_hiddenPairsWith_76 : decode cX2_hiddenPairsWith 76 = .ok (.isub, 1) := by decide +kernel
theorem dX2_hiddenPairsWith_77 : decode cX2_hiddenPairsWith 77 = .ok (.invokevirtual 34, 3) := by decide +kernel
theorem dX2_hiddenPairsWith_80 : decode cX2_hiddenPairsWith 80 = .ok (.iadd, 1) := by decide +kernel
theorem dX2_hiddenPairsWith_81 : decode cX2_hiddenPairsWith 81 = .ok (.istore_n 3, 1) := by decide +kernel
theorem dX2_hiddenPairsWith_82 : decode cX2_hiddenPairsWith 82 = .ok (.iinc 4 1, 3) := by decide +kernel
theorem dX2_hiddenPairsWith_85 : decode cX2_hiddenPairsWith 85 = .ok (.goto (-80), 3) := by decide +kernel
theorem dX2_hiddenPairsWith_88 : decode cX2_hiddenPairsWith 88 = .ok (.iload_n 3, 1) := by decide +kernel
theorem dX2_hiddenPairsWith_89 : decode cX2_hiddenPairsWith 89 = .ok (.ireturn, 1) := by decide +kernel
theorem dX2_hidesNothing_0 : decode cX2_hidesNothing 0 = .ok (.iconst 0, 1) := by decide +kernel
theorem dX2_hidesNothing_1 : decode cX2_hidesNothing 1 = .ok (.istore_n 2, 1) := by decide +kernel
theorem dX2_hidesNothing_2 : decode cX2_hidesNothing 2 = .ok (.iload_n 2, 1) := by decide +kernel
theorem dX2_hidesNothing_3 : decode cX2_hidesNothing 3 = .ok (.iload_n 1, 1) := by decide +kernel
theorem dX2_hidesNothing_4 : decode cX2_hidesNothing 4 = .ok (.invokestatic 37, 3) := by decide +kernel
theorem dX2_hidesNothing_7 : decode cX2_hidesNothing 7 = .ok (.if_icmp .ge 24, 3) := by decide +kernel
theorem dX2_hidesNothing_10 : decode cX2_hidesNothing 10 = .ok (.aload_n 0, 1) := by decide +kernel
theorem dX2_hidesNothing_11 : decode cX2_hidesNothing 11 = .ok (.aload_n 0, 1) := by decide +kernel
theorem dX2_hidesNothing_12 : decode cX2_hidesNothing 12 = .ok (.iload_n 2, 1) := by decide +kernel
theorem dX2_hidesNothing_13 : decode cX2_hidesNothing 13 = .ok (.iload_n 1, 1) := by decide +kernel
theorem dX2_hidesNothing_14 : decode cX2_hidesNothing 14 = .ok (.invokevirtual 40, 3) := by decide +kernel
theorem dX2_hidesNothing_17 : decode cX2_hidesNothing 17 = .ok (.invokevirtual 34, 3) := by decide +kernel
theorem dX2_hidesNothing_20 : decode cX2_hidesNothing 20 = .ok (.ifCond .le 5, 3) := by decide +kernel
theorem dX2_hidesNothing_23 : decode cX2_hidesNothing 23 = .ok (.iconst 0, 1) := by decide +kernel
theorem dX2_hidesNothing_24 : decode cX2_hidesNothing 24 = .ok (.ireturn, 1) := by decide +kernel
theorem dX2_hidesNothing_25 : decode cX2_hidesNothing 25 = .ok (.iinc 2 1, 3) := by decide +kernel
theorem dX2_hidesNothing_28 : decode cX2_hidesNothing 28 = .ok (.goto (-26), 3) := by decide +kernel
theorem dX2_hidesNothing_31 : decode cX2_hidesNothing 31 = .ok (.iconst 1, 1) := by decide +kernel
theorem dX2_hidesNothing_32 : decode cX2_hidesNothing 32 = .ok (.ireturn, 1) := by decide +kernel
theorem dX2_hiddenMisreadings_0 : decode cX2_hiddenMisreadings 0 = .ok (.iconst 0, 1) := by decide +kernel
theorem dX2_hiddenMisreadings_1 : decode cX2_hiddenMisreadings 1 = .ok (.istore_n 2, 1) := by decide +kernel
theorem dX2_hiddenMisreadings_2 : decode cX2_hiddenMisreadings 2 = .ok (.iconst 0, 1) := by decide +kernel
theorem dX2_hiddenMisreadings_3 : decode cX2_hiddenMisreadings 3 = .ok (.istore_n 3, 1) := by decide +kernel
theorem dX2_hiddenMisreadings_4 : decode cX2_hiddenMisreadings 4 = .ok (.iload_n 3, 1) := by decide +kernel
theorem dX2_hiddenMisreadings_5 : decode cX2_hiddenMisreadings 5 = .ok (.bipush 6, 2) := by decide +kernel
theorem dX2_hiddenMisreadings_7 : decode cX2_hiddenMisreadings 7 = .ok (.if_icmp .ge 64, 3) := by decide +kernel
theorem dX2_hiddenMisreadings_10 : decode cX2_hiddenMisreadings 10 = .ok (.iload_n 1, 1) := by decide +kernel
theorem dX2_hiddenMisreadings_11 : decode cX2_hiddenMisreadings 11 = .ok (.iload_n 3, 1) := by decide +kernel
theorem dX2_hiddenMisreadings_12 : decode cX2_hiddenMisreadings 12 = .ok (.invokestatic 44, 3) := by decide +kernel
theorem dX2_hiddenMisreadings_15 : decode cX2_hiddenMisreadings 15 = .ok (.istore 4, 2) := by decide +kernel
theorem dX2_hiddenMisreadings_17 : decode cX2_hiddenMisreadings 17 = .ok (.aload_n 0, 1) := by decide +kernel
theorem dX2_hiddenMisreadings_18 : decode cX2_hiddenMisreadings 18 = .ok (.iload_n 3, 1) := by decide +kernel
theorem dX2_hiddenMisreadings_19 : decode cX2_hiddenMisreadings 19 = .ok (.iconst 0, 1) := by decide +kernel
theorem dX2_hiddenMisreadings_20 : decode cX2_hiddenMisreadings 20 = .ok (.invokevirtual 40, 3) := by decide +kernel
theorem dX2_hiddenMisreadings_23 : decode cX2_hiddenMisreadings 23 = .ok (.istore 5, 2) := by decide +kernel
theorem dX2_hiddenMisreadings_25 : decode cX2_hiddenMisreadings 25 = .ok (.iconst 0, 1) := by decide +kernel
theorem dX2_hiddenMisreadings_26 : decode cX2_hiddenMisreadings 26 = .ok (.istore 6, 2) := by decide +kernel
theorem dX2_hiddenMisreadings_28 : decode cX2_hiddenMisreadings 28 = .ok (.iload 6, 2) := by decide +kernel
theorem dX2_hiddenMisreadings_30 : decode cX2_hiddenMisreadings 30 = .ok (.bipush 9, 2) := by decide +kernel
theorem dX2_hiddenMisreadings_32 : decode cX2_hiddenMisreadings 32 = .ok (.if_icmp .gt 33, 3) := by decide +kernel
theorem dX2_hiddenMisreadings_35 : decode cX2_hiddenMisreadings 35 = .ok (.iload 6, 2) := by decide +kernel
theorem dX2_hiddenMisreadings_37 : decode cX2_hiddenMisreadings 37 = .ok (.iload 4, 2) := by decide +kernel
theorem dX2_hiddenMisreadings_39 : decode cX2_hiddenMisreadings 39 = .ok (.if_icmp .eq 20, 3) := by decide +kernel
theorem dX2_hiddenMisreadings_42 : decode cX2_hiddenMisreadings 42 = .ok (.aload_n 0, 1) := by decide +kernel
theorem dX2_hiddenMisreadings_43 : decode cX2_hiddenMisreadings 43 = .ok (.iload 5, 2) := by decide +kernel
theorem dX2_hiddenMisreadings_45 : decode cX2_hiddenMisreadings 45 = .ok (.iload 6, 2) := by decide +kernel
theorem dX2_hiddenMisreadings_47 : decode cX2_hiddenMisreadings 47 = .ok (.iload 4, 2) := by decide +kernel
theorem dX2_hiddenMisreadings_49 : decode cX2_hiddenMisreadings 49 = .ok (.isub, 1) := by decide +kernel
theorem dX2_hiddenMisreadings_50 : decode cX2_hiddenMisreadings 50 = .ok (.invokevirtual 30, 3) := by decide +kernel
theorem dX2_hiddenMisreadings_53 : decode cX2_hiddenMisreadings 53 = .ok (.ifCond .eq 6, 3) := by decide +kernel
theorem dX2_hiddenMisreadings_56 : decode cX2_hiddenMisreadings 56 = .ok (.iinc 2 1, 3) := by decide +kernel
theorem dX2_hiddenMisreadings_59 : decode cX2_hiddenMisreadings 59 = .ok (.iinc 6 1, 3) := by decide +kernel
theorem dX2_hiddenMisreadings_62 : decode cX2_hiddenMisreadings 62 = .ok (.goto (-34), 3) := by decide +kernel
theorem dX2_hiddenMisreadings_65 : decode cX2_hiddenMisreadings 65 = .ok (.iinc 3 1, 3) := by decide +kernel
theorem dX2_hiddenMisreadings_68 : decode cX2_hiddenMisreadings 68 = .ok (.goto (-64), 3) := by decide +kernel
theorem dX2_hiddenMisreadings_71 : decode cX2_hiddenMisreadings 71 = .ok (.iload_n 2, 1) := by decide +kernel
theorem dX2_hiddenMisreadings_72 : decode cX2_hiddenMisreadings 72 = .ok (.ireturn, 1) := by decide +kernel
theorem dX2_hiddenSwaps_0 : decode cX2_hiddenSwaps 0 = .ok (.iconst 0, 1) := by decide +kernel
theorem dX2_hiddenSwaps_1 : decode cX2_hiddenSwaps 1 = .ok (.istore_n 2, 1) := by decide +kernel
theorem dX2_hiddenSwaps_2 : decode cX2_hiddenSwaps 2 = .ok (.iconst 0, 1) := by decide +kernel
theorem dX2_hiddenSwaps_3 : decode cX2_hiddenSwaps 3 = .ok (.istore_n 3, 1) := by decide +kernel
theorem dX2_hiddenSwaps_4 : decode cX2_hiddenSwaps 4 = .ok (.iload_n 3, 1) := by decide +kernel
theorem dX2_hiddenSwaps_5 : decode cX2_hiddenSwaps 5 = .ok (.iconst 1, 1) := by decide +kernel
theorem dX2_hiddenSwaps_6 : decode cX2_hiddenSwaps 6 = .ok (.iadd, 1) := by decide +kernel
theorem dX2_hiddenSwaps_7 : decode cX2_hiddenSwaps 7 = .ok (.bipush 6, 2) := by decide +kernel
theorem dX2_hiddenSwaps_9 : decode cX2_hiddenSwaps 9 = .ok (.if_icmp .ge 51, 3) := by decide +kernel
theorem dX2_hiddenSwaps_12 : decode cX2_hiddenSwaps 12 = .ok (.iload_n 1, 1) := by decide +kernel
theorem dX2_hiddenSwaps_13 : decode cX2_hiddenSwaps 13 = .ok (.iload_n 3, 1) := by decide +kernel
theorem dX2_hiddenSwaps_14 : decode cX2_hiddenSwaps 14 = .ok (.iconst 1, 1) := by decide +kernel
theorem dX2_hiddenSwaps_15 : decode cX2_hiddenSwaps 15 = .ok (.iadd, 1) := by decide +kernel
theorem dX2_hiddenSwaps_16 : decode cX2_hiddenSwaps 16 = .ok (.invokestatic 44, 3) := by decide +kernel
theorem dX2_hiddenSwaps_19 : decode cX2_hiddenSwaps 19 = .ok (.iload_n 1, 1) := by decide +kernel
theorem dX2_hiddenSwaps_20 : decode cX2_hiddenSwaps 20 = .ok (.iload_n 3, 1) := by decide +kernel
theorem dX2_hiddenSwaps_21 : decode cX2_hiddenSwaps 21 = .ok (.invokestatic 44, 3) := by decide +kernel
theorem dX2_hiddenSwaps_24 : decode cX2_hiddenSwaps 24 = .ok (.isub, 1) := by decide +kernel
theorem dX2_hiddenSwaps_25 : decode cX2_hiddenSwaps 25 = .ok (.istore 4, 2) := by decide +kernel
theorem dX2_hiddenSwaps_27 : decode cX2_hiddenSwaps 27 = .ok (.aload_n 0, 1) := by decide +kernel
theorem dX2_hiddenSwaps_28 : decode cX2_hiddenSwaps 28 = .ok (.iload_n 3, 1) := by decide +kernel
theorem dX2_hiddenSwaps_29 : decode cX2_hiddenSwaps 29 = .ok (.iconst 1, 1) := by decide +kernel
theorem dX2_hiddenSwaps_30 : decode cX2_hiddenSwaps 30 = .ok (.invokevirtual 40, 3) := by decide +kernel
theorem dX2_hiddenSwaps_33 : decode cX2_hiddenSwaps 33 = .ok (.istore 5, 2) := by decide +kernel
theorem dX2_hiddenSwaps_35 : decode cX2_hiddenSwaps 35 = .ok (.iload 4, 2) := by decide +kernel
theorem dX2_hiddenSwaps_37 : decode cX2_hiddenSwaps 37 = .ok (.ifCond .eq 17, 3) := by decide +kernel
theorem dX2_hiddenSwaps_40 : decode cX2_hiddenSwaps 40 = .ok (.aload_n 0, 1) := by decide +kernel
theorem dX2_hiddenSwaps_41 : decode cX2_hiddenSwaps 41 = .ok (.iload 5, 2) := by decide +kernel
theorem dX2_hiddenSwaps_43 : decode cX2_hiddenSwaps 43 = .ok (.iload 4, 2) := by decide +kernel
theorem dX2_hiddenSwaps_45 : decode cX2_hiddenSwaps 45 = .ok (.invokevirtual 30, 3) := by decide +kernel
theorem dX2_hiddenSwaps_48 : decode cX2_hiddenSwaps 48 = .ok (.ifCond .eq 6, 3) := by decide +kernel
theorem dX2_hiddenSwaps_51 : decode cX2_hiddenSwaps 51 = .ok (.iinc 2 1, 3) := by decide +kernel
theorem dX2_hiddenSwaps_54 : decode cX2_hiddenSwaps 54 = .ok (.iinc 3 1, 3) := by decide +kernel
theorem dX2_hiddenSwaps_57 : decode cX2_hiddenSwaps 57 = .ok (.goto (-53), 3) := by decide +kernel
theorem dX2_hiddenSwaps_60 : decode cX2_hiddenSwaps 60 = .ok (.iload_n 2, 1) := by decide +kernel
theorem dX2_hiddenSwaps_61 : decode cX2_hiddenSwaps 61 = .ok (.ireturn, 1) := by decide +kernel
theorem dX2_slipKind_0 : decode cX2_slipKind 0 = .ok (.iload_n 3, 1) := by decide +kernel
theorem dX2_slipKind_1 : decode cX2_slipKind 1 = .ok (.aload_n 0, 1) := by decide +kernel
theorem dX2_slipKind_2 : decode cX2_slipKind 2 = .ok (.getfield 15, 3) := by decide +kernel
theorem dX2_slipKind_5 : decode cX2_slipKind 5 = .ok (.if_icmp .lt 5, 3) := by decide +kernel
theorem dX2_slipKind_8 : decode cX2_slipKind 8 = .ok (.iconst (-1), 1) := by decide +kernel
theorem dX2_slipKind_9 : decode cX2_slipKind 9 = .ok (.ireturn, 1) := by decide +kernel
theorem dX2_slipKind_10 : decode cX2_slipKind 10 = .ok (.aload_n 0, 1) := by decide +kernel
theorem dX2_slipKind_11 : decode cX2_slipKind 11 = .ok (.iload_n 1, 1) := by decide +kernel
theorem dX2_slipKind_12 : decode cX2_slipKind 12 = .ok (.invokevirtual 47, 3) := by decide +kernel
theorem dX2_slipKind_15 : decode cX2_slipKind 15 = .ok (.iload_n 3, 1) := by decide +kernel
theorem dX2_slipKind_16 : decode cX2_slipKind 16 = .ok (.if_icmp .ne 7, 3) := by decide +kernel
theorem dX2_slipKind_19 : decode cX2_slipKind 19 = .ok (.iconst 1, 1) := by decide +kernel
theorem dX2_slipKind_20 : decode cX2_slipKind 20 = .ok (.goto 4, 3) := by decide +kernel
theorem dX2_slipKind_23 : decode cX2_slipKind 23 = .ok (.iconst 0, 1) := by decide +kernel
theorem dX2_slipKind_24 : decode cX2_slipKind 24 = .ok (.istore 4, 2) := by decide +kernel
theorem dX2_slipKind_26 : decode cX2_slipKind 26 = .ok (.iload_n 1, 1) := by decide +kernel
theorem dX2_slipKind_27 : decode cX2_slipKind 27 = .ok (.iload_n 2, 1) := by decide +kernel
theorem dX2_slipKind_28 : decode cX2_slipKind 28 = .ok (.if_icmp .ne 14, 3) := by decide +kernel
theorem dX2_slipKind_31 : decode cX2_slipKind 31 = .ok (.iload 4, 2) := by decide +kernel
theorem dX2_slipKind_33 : decode cX2_slipKind 33 = .ok (.ifCond .eq 7, 3) := by decide +kernel
theorem dX2_slipKind_36 : decode cX2_slipKind 36 = .ok (.iconst 3, 1) := by decide +kernel
theorem dX2_slipKind_37 : decode cX2_slipKind 37 = .ok (.goto 4, 3) := by decide +kernel
theorem dX2_slipKind_40 : decode cX2_slipKind 40 = .ok (.iconst 2, 1) := by decide +kernel
theorem dX2_slipKind_41 : decode cX2_slipKind 41 = .ok (.ireturn, 1) := by decide +kernel
theorem dX2_slipKind_42 : decode cX2_slipKind 42 = .ok (.iload 4, 2) := by decide +kernel
theorem dX2_slipKind_44 : decode cX2_slipKind 44 = .ok (.ifCond .eq 11, 3) := by decide +kernel
theorem dX2_slipKind_47 : decode cX2_slipKind 47 = .ok (.iload_n 1, 1) := by decide +kernel
theorem dX2_slipKind_48 : decode cX2_slipKind 48 = .ok (.iload_n 2, 1) := by decide +kernel
theorem dX2_slipKind_49 : decode cX2_slipKind 49 = .ok (.invokestatic 50, 3) := by decide +kernel
theorem dX2_slipKind_52 : decode cX2_slipKind 52 = .ok (.goto 4, 3) := by decide +kernel
theorem dX2_slipKind_55 : decode cX2_slipKind 55 = .ok (.iconst (-1), 1) := by decide +kernel
theorem dX2_slipKind_56 : decode cX2_slipKind 56 = .ok (.ireturn, 1) := by decide +kernel
theorem dX2_digitSlip_0 : decode cX2_digitSlip 0 = .ok (.iconst 0, 1) := by decide +kernel
theorem dX2_digitSlip_1 : decode cX2_digitSlip 1 = .ok (.istore_n 2, 1) := by decide +kernel
theorem dX2_digitSlip_2 : decode cX2_digitSlip 2 = .ok (.iconst 0, 1) := by decide +kernel
theorem dX2_digitSlip_3 : decode cX2_digitSlip 3 = .ok (.istore_n 3, 1) := by decide +kernel
theorem dX2_digitSlip_4 : decode cX2_digitSlip 4 = .ok (.iconst 0, 1) := by decide +kernel
theorem dX2_digitSlip_5 : decode cX2_digitSlip 5 = .ok (.istore 4, 2) := by decide +kernel
theorem dX2_digitSlip_7 : decode cX2_digitSlip 7 = .ok (.iload 4, 2) := by decide +kernel
theorem dX2_digitSlip_9 : decode cX2_digitSlip 9 = .ok (.bipush 6, 2) := by decide +kernel
theorem dX2_digitSlip_11 : decode cX2_digitSlip 11 = .ok (.if_icmp .ge 34, 3) := by decide +kernel
theorem dX2_digitSlip_14 : decode cX2_digitSlip 14 = .ok (.iload_n 0, 1) := by decide +kernel
theorem dX2_digitSlip_15 : decode cX2_digitSlip 15 = .ok (.iload 4, 2) := by decide +kernel
theorem dX2_digitSlip_17 : decode cX2_digitSlip 17 = .ok (.invokestatic 44, 3) := by decide +kernel
theorem dX2_digitSlip_20 : decode cX2_digitSlip 20 = .ok (.iload_n 1, 1) := by decide +kernel
theorem dX2_digitSlip_21 : decode cX2_digitSlip 21 = .ok (.iload 4, 2) := by decide +kernel
theorem dX2_digitSlip_23 : decode cX2_digitSlip 23 = .ok (.invokestatic 44, 3) := by decide +kernel
theorem dX2_digitSlip_26 : decode cX2_digitSlip 26 = .ok (.if_icmp .eq 13, 3) := by decide +kernel
theorem dX2_digitSlip_29 : decode cX2_digitSlip 29 = .ok (.iload_n 2, 1) := by decide +kernel
theorem dX2_digitSlip_30 : decode cX2_digitSlip 30 = .ok (.ifCond .ne 6, 3) := by decide +kernel
theorem dX2_digitSlip_33 : decode cX2_digitSlip 33 = .ok (.iload 4, 2) := by decide +kernel
theorem dX2_digitSlip_35 : decode cX2_digitSlip 35 = .ok (.istore_n 3, 1) := by decide +kernel
theorem dX2_digitSlip_36 : decode cX2_digitSlip 36 = .ok (.iinc 2 1, 3) := by decide +kernel
theorem dX2_digitSlip_39 : decode cX2_digitSlip 39 = .ok (.iinc 4 1, 3) := by decide +kernel
theorem dX2_digitSlip_42 : decode cX2_digitSlip 42 = .ok (.goto (-35), 3) := by decide +kernel
theorem dX2_digitSlip_45 : decode cX2_digitSlip 45 = .ok (.iload_n 2, 1) := by decide +kernel
theorem dX2_digitSlip_46 : decode cX2_digitSlip 46 = .ok (.iconst 1, 1) := by decide +kernel
theorem dX2_digitSlip_47 : decode cX2_digitSlip 47 = .ok (.if_icmp .ne 5, 3) := by decide +kernel
theorem dX2_digitSlip_50 : decode cX2_digitSlip 50 = .ok (.iconst 0, 1) := by decide +kernel
theorem dX2_digitSlip_51 : decode cX2_digitSlip 51 = .ok (.ireturn, 1) := by decide +kernel
theorem dX2_digitSlip_52 : decode cX2_digitSlip 52 = .ok (.iload_n 2, 1) := by decide +kernel
theorem dX2_digitSlip_53 : decode cX2_digitSlip 53 = .ok (.iconst 2, 1) := by decide +kernel
theorem dX2_digitSlip_54 : decode cX2_digitSlip 54 = .ok (.if_icmp .ne 16, 3) := by decide +kernel
theorem dX2_digitSlip_57 : decode cX2_digitSlip 57 = .ok (.iload_n 0, 1) := by decide +kernel
theorem dX2_digitSlip_58 : decode cX2_digitSlip 58 = .ok (.iload_n 1, 1) := by decide +kernel
theorem dX2_digitSlip_59 : decode cX2_digitSlip 59 = .ok (.iload_n 3, 1) := by decide +kernel
theorem dX2_digitSlip_60 : decode cX2_digitSlip 60 = .ok (.invokestatic 53, 3) := by decide +kernel
theorem dX2_digitSlip_63 : decode cX2_digitSlip 63 = .ok (.ifCond .eq 7, 3) := by decide +kernel
theorem dX2_digitSlip_66 : decode cX2_digitSlip 66 = .ok (.iconst 1, 1) := by decide +kernel
theorem dX2_digitSlip_67 : decode cX2_digitSlip 67 = .ok (.goto 4, 3) := by decide +kernel
theorem dX2_digitSlip_70 : decode cX2_digitSlip 70 = .ok (.iconst 0, 1) := by decide +kernel
theorem dX2_digitSlip_71 : decode cX2_digitSlip 71 = .ok (.istore 4, 2) := by decide +kernel
theorem dX2_digitSlip_73 : decode cX2_digitSlip 73 = .ok (.iload 4, 2) := by decide +kernel
theorem dX2_digitSlip_75 : decode cX2_digitSlip 75 = .ok (.ifCond .eq 7, 3) := by decide +kernel
theorem dX2_digitSlip_78 : decode cX2_digitSlip 78 = .ok (.iconst 1, 1) := by decide +kernel
theorem dX2_digitSlip_79 : decode cX2_digitSlip 79 = .ok (.goto 4, 3) := by decide +kernel
theorem dX2_digitSlip_82 : decode cX2_digitSlip 82 = .ok (.iconst (-1), 1) := by decide +kernel
theorem dX2_digitSlip_83 : decode cX2_digitSlip 83 = .ok (.ireturn, 1) := by decide +kernel
theorem dX2_isSwapped_0 : decode cX2_isSwapped 0 = .ok (.iload_n 0, 1) := by decide +kernel
theorem dX2_isSwapped_1 : decode cX2_isSwapped 1 = .ok (.iload_n 2, 1) := by decide +kernel
theorem dX2_isSwapped_2 : decode cX2_isSwapped 2 = .ok (.invokestatic 44, 3) := by decide +kernel
theorem dX2_isSwapped_5 : decode cX2_isSwapped 5 = .ok (.iload_n 1, 1) := by decide +kernel
theorem dX2_isSwapped_6 : decode cX2_isSwapped 6 = .ok (.iload_n 2, 1) := by decide +kernel
theorem dX2_isSwapped_7 : decode cX2_isSwapped 7 = .ok (.iconst 1, 1) := by decide +kernel
theorem dX2_isSwapped_8 : decode cX2_isSwapped 8 = .ok (.iadd, 1) := by decide +kernel
theorem dX2_isSwapped_9 : decode cX2_isSwapped 9 = .ok (.invokestatic 44, 3) := by decide +kernel
theorem dX2_isSwapped_12 : decode cX2_isSwapped 12 = .ok (.if_icmp .ne 22, 3) := by decide +kernel
theorem dX2_isSwapped_15 : decode cX2_isSwapped 15 = .ok (.iload_n 0, 1) := by decide +kernel
theorem dX2_isSwapped_16 : decode cX2_isSwapped 16 = .ok (.iload_n 2, 1) := by decide +kernel
theorem dX2_isSwapped_17 : decode cX2_isSwapped 17 = .ok (.iconst 1, 1) := by decide +kernel
theorem dX2_isSwapped_18 : decode cX2_isSwapped 18 = .ok (.iadd, 1) := by decide +kernel
theorem dX2_isSwapped_19 : decode cX2_isSwapped 19 = .ok (.invokestatic 44, 3) := by decide +kernel
theorem dX2_isSwapped_22 : decode cX2_isSwapped 22 = .ok (.iload_n 1, 1) := by decide +kernel
theorem dX2_isSwapped_23 : decode cX2_isSwapped 23 = .ok (.iload_n 2, 1) := by decide +kernel
theorem dX2_isSwapped_24 : decode cX2_isSwapped 24 = .ok (.invokestatic 44, 3) := by decide +kernel
theorem dX2_isSwapped_27 : decode cX2_isSwapped 27 = .ok (.if_icmp .ne 7, 3) := by decide +kernel
theorem dX2_isSwapped_30 : decode cX2_isSwapped 30 = .ok (.iconst 1, 1) := by decide +kernel
theorem dX2_isSwapped_31 : decode cX2_isSwapped 31 = .ok (.goto 4, 3) := by decide +kernel
theorem dX2_isSwapped_34 : decode cX2_isSwapped 34 = .ok (.iconst 0, 1) := by decide +kernel
theorem dX2_isSwapped_35 : decode cX2_isSwapped 35 = .ok (.ireturn, 1) := by decide +kernel
theorem dX3_init_0 : decode cX3_init 0 = .ok (.aload_n 0, 1) := by decide +kernel
theorem dX3_init_1 : decode cX3_init 1 = .ok (.invokespecial 3, 3) := by decide +kernel
theorem dX3_init_4 : decode cX3_init 4 = .ok (.aload_n 0, 1) := by decide +kernel
theorem dX3_init_5 : decode cX3_init 5 = .ok (.bipush 60, 2) := by decide +kernel
theorem dX3_init_7 : decode cX3_init 7 = .ok (.newarray .int, 2) := by decide +kernel
theorem dX3_init_9 : decode cX3_init 9 = .ok (.putfield 9, 3) := by decide +kernel
theorem dX3_init_12 : decode cX3_init 12 = .ok (.return_, 1) := by decide +kernel
theorem dX3_isFull_0 : decode cX3_isFull 0 = .ok (.aload_n 0, 1) := by decide +kernel
theorem dX3_isFull_1 : decode cX3_isFull 1 = .ok (.getfield 15, 3) := by decide +kernel
theorem dX3_isFull_4 : decode cX3_isFull 4 = .ok (.aload_n 0, 1) := by decide +kernel
theorem dX3_isFull_5 : decode cX3_isFull 5 = .ok (.getfield 9, 3) := by decide +kernel
theorem dX3_isFull_8 : decode cX3_isFull 8 = .ok (.arraylength, 1) := by decide +kernel
theorem dX3_isFull_9 : decode cX3_isFull 9 = .ok (.if_icmp .lt 7, 3) := by decide +kernel
theorem dX3_isFull_12 : decode cX3_isFull 12 = .ok (.iconst 1, 1) := by decide +kernel
theorem dX3_isFull_13 : decode cX3_isFull 13 = .ok (.goto 4, 3) := by decide +kernel
theorem dX3_isFull_16 : decode cX3_isFull 16 = .ok (.iconst 0, 1) := by decide +kernel
theorem dX3_isFull_17 : decode cX3_isFull 17 = .ok (.ireturn, 1) := by decide +kernel
theorem dX3_add_0 : decode cX3_add 0 = .ok (.aload_n 0, 1) := by decide +kernel
theorem dX3_add_1 : decode cX3_add 1 = .ok (.getfield 15, 3) := by decide +kernel
theorem dX3_add_4 : decode cX3_add 4 = .ok (.ifCond .lt 35, 3) := by decide +kernel
theorem dX3_add_7 : decode cX3_add 7 = .ok (.aload_n 0, 1) := by decide +kernel
theorem dX3_add_8 : decode cX3_add 8 = .ok (.getfield 15, 3) := by decide +kernel
theorem dX3_add_11 : decode cX3_add 11 = .ok (.aload_n 0, 1) := by decide +kernel
theorem dX3_add_12 : decode cX3_add 12 = .ok (.getfield 9, 3) := by decide +kernel
theorem dX3_add_15 : decode cX3_add 15 = .ok (.arraylength, 1) := by decide +kernel
theorem dX3_add_16 : decode cX3_add 16 = .ok (.if_icmp .ge 23, 3) := by decide +kernel
theorem dX3_add_19 : decode cX3_add 19 = .ok (.aload_n 0, 1) := by decide +kernel
theorem dX3_add_20 : decode cX3_add 20 = .ok (.getfield 9, 3) := by decide +kernel
theorem dX3_add_23 : decode cX3_add 23 = .ok (.aload_n 0, 1) := by decide +kernel
theorem dX3_add_24 : decode cX3_add 24 = .ok (.getfield 15, 3) := by decide +kernel
theorem dX3_add_27 : decode cX3_add 27 = .ok (.iload_n 1, 1) := by decide +kernel
theorem dX3_add_28 : decode cX3_add 28 = .ok (.iastore, 1) := by decide +kernel
theorem dX3_add_29 : decode cX3_add 29 = .ok (.aload_n 0, 1) := by decide +kernel
theorem dX3_add_30 : decode cX3_add 30 = .ok (.dup, 1) := by decide +kernel
theorem dX3_add_31 : decode cX3_add 31 = .ok (.getfield 15, 3) := by decide +kernel
theorem dX3_add_34 : decode cX3_add 34 = .ok (.iconst 1, 1) := by decide +kernel
theorem dX3_add_35 : decode cX3_add 35 = .ok (.iadd, 1) := by decide +kernel
theorem dX3_add_36 : decode cX3_add 36 = .ok (.putfield 15, 3) := by decide +kernel
theorem dX3_add_39 : decode cX3_add 39 = .ok (.aload_n 0, 1) := by decide +kernel
theorem dX3_add_40 : decode cX3_add 40 = .ok (.getfield 15, 3) := by decide +kernel
theorem dX3_add_43 : decode cX3_add 43 = .ok (.ireturn, 1) := by decide +kernel
theorem dX3_clear_0 : decode cX3_clear 0 = .ok (.aload_n 0, 1) := by decide +kernel
theorem dX3_clear_1 : decode cX3_clear 1 = .ok (.getfield 15, 3) := by decide +kernel
theorem dX3_clear_4 : decode cX3_clear 4 = .ok (.istore_n 1, 1) := by decide +kernel
theorem dX3_clear_5 : decode cX3_clear 5 = .ok (.aload_n 0, 1) := by decide +kernel
theorem dX3_clear_6 : decode cX3_clear 6 = .ok (.iconst 0, 1) := by decide +kernel
theorem dX3_clear_7 : decode cX3_clear 7 = .ok (.putfield 15, 3) := by decide +kernel
theorem dX3_clear_10 : decode cX3_clear 10 = .ok (.iload_n 1, 1) := by decide +kernel
theorem dX3_clear_11 : decode cX3_clear 11 = .ok (.ireturn, 1) := by decide +kernel
theorem dX3_signAt_0 : decode cX3_signAt 0 = .ok (.iload_n 1, 1) := by decide +kernel
theorem dX3_signAt_1 : decode cX3_signAt 1 = .ok (.ifCond .lt 29, 3) := by decide +kernel
theorem dX3_signAt_4 : decode cX3_signAt 4 = .ok (.iload_n 1, 1) := by decide +kernel
theorem dX3_signAt_5 : decode cX3_signAt 5 = .ok (.aload_n 0, 1) := by decide +kernel
theorem dX3_signAt_6 : decode cX3_signAt 6 = .ok (.getfield 15, 3) := by decide +kernel
theorem dX3_signAt_9 : decode cX3_signAt 9 = .ok (.if_icmp .ge 21, 3) := by decide +kernel
theorem dX3_signAt_12 : decode cX3_signAt 12 = .ok (.iload_n 1, 1) := by decide +kernel
theorem dX3_signAt_13 : decode cX3_signAt 13 = .ok (.aload_n 0, 1) := by decide +kernel
theorem dX3_signAt_14 : decode cX3_signAt 14 = .ok (.getfield 9, 3) := by decide +kernel
theorem dX3_signAt_17 : decode cX3_signAt 17 = .ok (.arraylength, 1) := by decide +kernel
theorem dX3_signAt_18 : decode cX3_signAt 18 = .ok (.if_icmp .ge 12, 3) := by decide +kernel
theorem dX3_signAt_21 : decode cX3_signAt 21 = .ok (.aload_n 0, 1) := by decide +kernel
theorem dX3_signAt_22 : decode cX3_signAt 22 = .ok (.getfield 9, 3) := by decide +kernel
theorem dX3_signAt_25 : decode cX3_signAt 25 = .ok (.iload_n 1, 1) := by decide +kernel
theorem dX3_signAt_26 : decode cX3_signAt 26 = .ok (.iaload, 1) := by decide +kernel
theorem dX3_signAt_27 : decode cX3_signAt 27 = .ok (.goto 4, 3) := by decide +kernel
theorem dX3_signAt_30 : decode cX3_signAt 30 = .ok (.iconst 0, 1) := by decide +kernel
theorem dX3_signAt_31 : decode cX3_signAt 31 = .ok (.ireturn, 1) := by decide +kernel
theorem dX3_numberIn_0 : decode cX3_numberIn 0 = .ok (.iconst 0, 1) := by decide +kernel
theorem dX3_numberIn_1 : decode cX3_numberIn 1 = .ok (.istore_n 3, 1) := by decide +kernel
theorem dX3_numberIn_2 : decode cX3_numberIn 2 = .ok (.iload_n 1, 1) := by decide +kernel
theorem dX3_numberIn_3 : decode cX3_numberIn 3 = .ok (.istore 4, 2) := by decide +kernel
theorem dX3_numberIn_5 : decode cX3_numberIn 5 = .ok (.iload 4, 2) := by decide +kernel
theorem dX3_numberIn_7 : decode cX3_numberIn 7 = .ok (.iload_n 2, 1) := by decide +kernel
theorem dX3_numberIn_8 : decode cX3_numberIn 8 = .ok (.if_icmp .ge 24, 3) := by decide +kernel
theorem dX3_numberIn_11 : decode cX3_numberIn 11 = .ok (.iload_n 3, 1) := by decide +kernel
theorem dX3_numberIn_12 : decode cX3_numberIn 12 = .ok (.bipush 10, 2) := by decide +kernel
theorem dX3_numberIn_14 : decode cX3_numberIn 14 = .ok (.imul, 1) := by decide +kernel
theorem dX3_numberIn_15 : decode cX3_numberIn 15 = .ok (.aload_n 0, 1) := by decide +kernel
theorem dX3_numberIn_16 : decode cX3_numberIn 16 = .ok (.iload 4, 2) := by decide +kernel
theorem dX3_numberIn_18 : decode cX3_numberIn 18 = .ok (.invokevirtual 19, 3) := by decide +kernel
theorem dX3_numberIn_21 : decode cX3_numberIn 21 = .ok (.iadd, 1) := by decide +kernel
theorem dX3_numberIn_22 : decode cX3_numberIn 22 = .ok (.bipush 48, 2) := by decide +kernel
theorem dX3_numberIn_24 : decode cX3_numberIn 24 = .ok (.isub, 1) := by decide +kernel
theorem dX3_numberIn_25 : decode cX3_numberIn 25 = .ok (.istore_n 3, 1) := by decide +kernel
theorem dX3_numberIn_26 : decode cX3_numberIn 26 = .ok (.iinc 4 1, 3) := by decide +kernel
theorem dX3_numberIn_29 : decode cX3_numberIn 29 = .ok (.goto (-24), 3) := by decide +kernel
theorem dX3_numberIn_32 : decode cX3_numberIn 32 = .ok (.iload_n 3, 1) := by decide +kernel
theorem dX3_numberIn_33 : decode cX3_numberIn 33 = .ok (.ireturn, 1) := by decide +kernel
theorem dX3_errorIndex_0 : decode cX3_errorIndex 0 = .ok (.iconst 0, 1) := by decide +kernel
theorem dX3_errorIndex_1 : decode cX3_errorIndex 1 = .ok (.istore_n 1, 1) := by decide +kernel
theorem dX3_errorIndex_2 : decode cX3_errorIndex 2 = .ok (.iconst 0, 1) := by decide +kernel
theorem dX3_errorIndex_3 : decode cX3_errorIndex 3 = .ok (.istore_n 2, 1) := by decide +kernel
theorem dX3_errorIndex_4 : decode cX3_errorIndex 4 = .ok (.iload_n 2, 1) := by decide +kernel
theorem dX3_errorIndex_5 : decode cX3_errorIndex 5 = .ok (.aload_n 0, 1) := by decide +kernel
theorem dX3_errorIndex_6 : decode cX3_errorIndex 6 = .ok (.getfield 15, 3) := by decide +kernel
theorem dX3_errorIndex_9 : decode cX3_errorIndex 9 = .ok (.if_icmp .ge 34, 3) := by decide +kernel
theorem dX3_errorIndex_12 : decode cX3_errorIndex 12 = .ok (.aload_n 0, 1) := by decide +kernel
theorem dX3_errorIndex_13 : decode cX3_errorIndex 13 = .ok (.iload_n 1, 1) := by decide +kernel
theorem dX3_errorIndex_14 : decode cX3_errorIndex 14 = .ok (.iload_n 2, 1) := by decide +kernel
theorem dX3_errorIndex_15 : decode cX3_errorIndex 15 = .ok (.invokevirtual 23, 3) := by decide +kernel
theorem dX3_errorIndex_18 : decode cX3_errorIndex 18 = .ok (.ifCond .ne 5, 3) := by decide +kernel
theorem dX3_errorIndex_21 : decode cX3_errorIndex 21 = .ok (.iload_n 2, 1) := by decide +kernel
theorem dX3_errorIndex_22 : decode cX3_errorIndex 22 = .ok (.ireturn, 1) := by decide +kernel
theorem dX3_errorIndex_23 : decode cX3_errorIndex 23 = .ok (.aload_n 0, 1) := by decide +kernel
theorem dX3_errorIndex_24 : decode cX3_errorIndex 24 = .ok (.iload_n 2, 1) := by decide +kernel
theorem dX3_errorIndex_25 : decode cX3_errorIndex 25 = .ok (.invokevirtual 19, 3) := by decide +kernel
theorem dX3_errorIndex_28 : decode cX3_errorIndex 28 = .ok (.bipush 59, 2) := by decide +kernel
theorem dX3_errorIndex_30 : decode cX3_errorIndex 30 = .ok (.if_icmp .ne 7, 3) := by decide +kernel
theorem dX3_errorIndex_33 : decode cX3_errorIndex 33 = .ok (.iload_n 2, 1) := by decide +kernel
theorem dX3_errorIndex_34 : decode cX3_errorIndex 34 = .ok (.iconst 1, 1) := by decide +kernel
theorem dX3_errorIndex_35 : decode cX3_errorIndex 35 = .ok (.iadd, 1) := by decide +kernel
theorem dX3_errorIndex_36 : decode cX3_errorIndex 36 = .ok (.istore_n 1, 1) := by decide +kernel
theorem dX3_errorIndex_37 : decode cX3_errorIndex 37 = .ok (.iinc 2 1, 3) := by decide +kernel
theorem dX3_errorIndex_40 : decode cX3_errorIndex 40 = .ok (.goto (-36), 3) := by decide +kernel
theorem dX3_errorIndex_43 : decode cX3_errorIndex 43 = .ok (.aload_n 0, 1) := by decide +kernel
theorem dX3_errorIndex_44 : decode cX3_errorIndex 44 = .ok (.getfield 15, 3) := by decide +kernel
theorem dX3_errorIndex_47 : decode cX3_errorIndex 47 = .ok (.ireturn, 1) := by decide +kernel
theorem dX3_isComplete_0 : decode cX3_isComplete 0 = .ok (.aload_n 0, 1) := by decide +kernel
theorem dX3_isComplete_1 : decode cX3_isComplete 1 = .ok (.invokevirtual 27, 3) := by decide +kernel
theorem dX3_isComplete_4 : decode cX3_isComplete 4 = .ok (.aload_n 0, 1) := by decide +kernel
theorem dX3_isComplete_5 : decode cX3_isComplete 5 = .ok (.getfield 15, 3) := by decide +kernel
theorem dX3_isComplete_8 : decode cX3_isComplete 8 = .ok (.if_icmp .ge 5, 3) := by decide +kernel
theorem dX3_isComplete_11 : decode cX3_isComplete 11 = .ok (.iconst 0, 1) := by decide +kernel
theorem dX3_isComplete_12 : decode cX3_isComplete 12 = .ok (.ireturn, 1) := by decide +kernel
theorem dX3_isComplete_13 : decode cX3_isComplete 13 = .ok (.iconst 0, 1) := by decide +kernel
theorem dX3_isComplete_14 : decode cX3_isComplete 14 = .ok (.istore_n 1, 1) := by decide +kernel
theorem dX3_isComplete_15 : decode cX3_isComplete 15 = .ok (.iconst 0, 1) := by decide +kernel
theorem dX3_isComplete_16 : decode cX3_isComplete 16 = .ok (.istore_n 2, 1) := by decide +kernel
theorem dX3_isComplete_17 : decode cX3_isComplete 17 = .ok (.iload_n 2, 1) := by decide +kernel
theorem dX3_isComplete_18 : decode cX3_isComplete 18 = .ok (.aload_n 0, 1) := by decide +kernel
theorem dX3_isComplete_19 : decode cX3_isComplete 19 = .ok (.getfield 15, 3) := by decide +kernel
theorem dX3_isComplete_22 : decode cX3_isComplete 22 = .ok (.if_icmp .ge 23, 3) := by decide +kernel
theorem dX3_isComplete_25 : decode cX3_isComplete 25 = .ok (.aload_n 0, 1) := by decide +kernel
theorem dX3_isComplete_26 : decode cX3_isComplete 26 = .ok (.iload_n 2, 1) := by decide +kernel
theorem dX3_isComplete_27 : decode cX3_isComplete 27 = .ok (.invokevirtual 19, 3) := by decide +kernel
theorem dX3_isComplete_30 : decode cX3_isComplete 30 = .ok (.bipush 59, 2) := by decide +kernel
theorem dX3_isComplete_32 : decode cX3_isComplete 32 = .ok (.if_icmp .ne 7, 3) := by decide +kernel
theorem dX3_isComplete_35 : decode cX3_isComplete 35 = .ok (.iload_n 2, 1) := by decide +kernel
theorem dX3_isComplete_36 : decode cX3_isComplete 36 = .ok (.iconst 1, 1) := by decide +kernel
theorem dX3_isComplete_37 : decode cX3_isComplete 37 = .ok (.iadd, 1) := by decide +kernel
theorem dX3_isComplete_38 : decode cX3_isComplete 38 = .ok (.istore_n 1, 1) := by decide +kernel
theorem dX3_isComplete_39 : decode cX3_isComplete 39 = .ok (.iinc 2 1, 3) := by decide +kernel
theorem dX3_isComplete_42 : decode cX3_isComplete 42 = .ok (.goto (-25), 3) := by decide +kernel
theorem dX3_isComplete_45 : decode cX3_isComplete 45 = .ok (.aload_n 0, 1) := by decide +kernel
theorem dX3_isComplete_46 : decode cX3_isComplete 46 = .ok (.iload_n 1, 1) := by decide +kernel
theorem dX3_isComplete_47 : decode cX3_isComplete 47 = .ok (.aload_n 0, 1) := by decide +kernel
theorem dX3_isComplete_48 : decode cX3_isComplete 48 = .ok (.getfield 15, 3) := by decide +kernel
theorem dX3_isComplete_51 : decode cX3_isComplete 51 = .ok (.invokevirtual 31, 3) := by decide +kernel
theorem dX3_isComplete_54 : decode cX3_isComplete 54 = .ok (.ireturn, 1) := by decide +kernel
theorem dX3_fits_0 : decode cX3_fits 0 = .ok (.aload_n 0, 1) := by decide +kernel
theorem dX3_fits_1 : decode cX3_fits 1 = .ok (.iload_n 2, 1) := by decide +kernel
theorem dX3_fits_2 : decode cX3_fits 2 = .ok (.invokevirtual 19, 3) := by decide +kernel
theorem dX3_fits_5 : decode cX3_fits 5 = .ok (.istore_n 3, 1) := by decide +kernel
theorem dX3_fits_6 : decode cX3_fits 6 = .ok (.iload_n 2, 1) := by decide +kernel
theorem dX3_fits_7 : decode cX3_fits 7 = .ok (.iload_n 1, 1) := by decide +kernel
theorem dX3_fits_8 : decode cX3_fits 8 = .ok (.isub, 1) := by decide +kernel
theorem dX3_fits_9 : decode cX3_fits 9 = .ok (.istore 4, 2) := by decide +kernel
theorem dX3_fits_11 : decode cX3_fits 11 = .ok (.iload_n 3, 1) := by decide +kernel
theorem dX3_fits_12 : decode cX3_fits 12 = .ok (.bipush 59, 2) := by decide +kernel
theorem dX3_fits_14 : decode cX3_fits 14 = .ok (.if_icmp .ne 10, 3) := by decide +kernel
theorem dX3_fits_17 : decode cX3_fits 17 = .ok (.aload_n 0, 1) := by decide +kernel
theorem dX3_fits_18 : decode cX3_fits 18 = .ok (.iload_n 1, 1) := by decide +kernel
theorem dX3_fits_19 : decode cX3_fits 19 = .ok (.iload_n 2, 1) := by decide +kernel
theorem dX3_fits_20 : decode cX3_fits 20 = .ok (.invokevirtual 31, 3) := by decide +kernel
theorem dX3_fits_23 : decode cX3_fits 23 = .ok (.ireturn, 1) := by decide +kernel
theorem dX3_fits_24 : decode cX3_fits 24 = .ok (.iload 4, 2) := by decide +kernel
theorem dX3_fits_26 : decode cX3_fits 26 = .ok (.ifCond .ne 33, 3) := by decide +kernel
theorem dX3_fits_29 : decode cX3_fits 29 = .ok (.iload_n 3, 1) := by decide +kernel
theorem dX3_fits_30 : decode cX3_fits 30 = .ok (.bipush 98, 2) := by decide +kernel
theorem dX3_fits_32 : decode cX3_fits 32 = .ok (.if_icmp .eq 21, 3) := by decide +kernel
theorem dX3_fits_35 : decode cX3_fits 35 = .ok (.iload_n 3, 1) := by decide +kernel
theorem dX3_fits_36 : decode cX3_fits 36 = .ok (.bipush 119, 2) := by decide +kernel
theorem dX3_fits_38 : decode cX3_fits 38 = .ok (.if_icmp .eq 15, 3) := by decide +kernel
theorem dX3_fits_41 : decode cX3_fits 41 = .ok (.iload_n 3, 1) := by decide +kernel
theorem dX3_fits_42 : decode cX3_fits 42 = .ok (.bipush 99, 2) := by decide +kernel
theorem dX3_fits_44 : decode cX3_fits 44 = .ok (.if_icmp .eq 9, 3) := by decide +kernel
theorem dX3_fits_47 : decode cX3_fits 47 = .ok (.iload_n 3, 1) := by decide +kernel
theorem dX3_fits_48 : decode cX3_fits 48 = .ok (.bipush 118, 2) := by decide +kernel
theorem dX3_fits_50 : decode cX3_fits 50 = .ok (.if_icmp .ne 7, 3) := by decide +kernel
theorem dX3_fits_53 : decode cX3_fits 53 = .ok (.iconst 1, 1) := by decide +kernel
theorem dX3_fits_54 : decode cX3_fits 54 = .ok (.goto 4, 3) := by decide +kernel
theorem dX3_fits_57 : decode cX3_fits 57 = .ok (.iconst 0, 1) := by decide +kernel
theorem dX3_fits_58 : decode cX3_fits 58 = .ok (.ireturn, 1) := by decide +kernel
theorem dX3_fits_59 : decode cX3_fits 59 = .ok (.iload 4, 2) := by decide +kernel
theorem dX3_fits_61 : decode cX3_fits 61 = .ok (.bipush 6, 2) := by decide +kernel
theorem dX3_fits_63 : decode cX3_fits 63 = .ok (.if_icmp .gt 8, 3) := by decide +kernel
theorem dX3_fits_66 : decode cX3_fits 66 = .ok (.iload_n 3, 1) := by decide +kernel
theorem dX3_fits_67 : decode cX3_fits 67 = .ok (.invokestatic 34, 3) := by decide +kernel
theorem dX3_fits_70 : decode cX3_fits 70 = .ok (.ireturn, 1) := by decide +kernel
theorem dX3_fits_71 : decode cX3_fits 71 = .ok (.iload 4, 2) := by decide +kernel
theorem dX3_fits_73 : decode cX3_fits 73 = .ok (.bipush 8, 2) := by decide +kernel
theorem dX3_fits_75 : decode cX3_fits 75 = .ok (.if_icmp .ge 13, 3) := by decide +kernel
theorem dX3_fits_78 : decode cX3_fits 78 = .ok (.aload_n 0, 1) := by decide +kernel
theorem dX3_fits_79 : decode cX3_fits 79 = .ok (.iload_n 1, 1) := by decide +kernel
theorem dX3_fits_80 : decode cX3_fits 80 = .ok (.invokevirtual 19, 3) := by decide +kernel
theorem dX3_fits_83 : decode cX3_fits 83 = .ok (.iload_n 3, 1) := by decide +kernel
theorem dX3_fits_84 : decode cX3_fits 84 = .ok (.invokestatic 38, 3) := by decide +kernel
theorem dX3_fits_87 : decode cX3_fits 87 = .ok (.ireturn, 1) := by decide +kernel
theorem dX3_fits_88 : decode cX3_fits 88 = .ok (.iload_n 3, 1) := by decide +kernel
theorem dX3_fits_89 : decode cX3_fits 89 = .ok (.invokestatic 34, 3) := by decide +kernel
theorem dX3_fits_92 : decode cX3_fits 92 = .ok (.ifCond .eq 16, 3) := by decide +kernel
theorem dX3_fits_95 : decode cX3_fits 95 = .ok (.aload_n 0, 1) := by decide +kernel
theorem dX3_fits_96 : decode cX3_fits 96 = .ok (.iload_n 1, 1) := by decide +kernel
theorem dX3_fits_97 : decode cX3_fits 97 = .ok (.iload_n 2, 1) := by decide +kernel
theorem dX3_fits_98 : decode cX3_fits 98 = .ok (.invokevirtual 41, 3) := by decide +kernel
theorem dX3_fits_101 : decode cX3_fits 101 = .ok (.ifCond .eq 7, 3) := by decide +kernel
theorem dX3_fits_104 : decode cX3_fits 104 = .ok (.iconst 1, 1) := by decide +kernel
theorem dX3_fits_105 : decode cX3_fits 105 = .ok (.goto 4, 3) := by decide +kernel
theorem dX3_fits_108 : decode cX3_fits 108 = .ok (.iconst 0, 1) := by decide +kernel
theorem dX3_fits_109 : decode cX3_fits 109 = .ok (.ireturn, 1) := by decide +kernel
theorem dX3_isWhole_0 : decode cX3_isWhole 0 = .ok (.iload_n 2, 1) := by decide +kernel
theorem dX3_isWhole_1 : decode cX3_isWhole 1 = .ok (.iload_n 1, 1) := by decide +kernel
theorem dX3_isWhole_2 : decode cX3_isWhole 2 = .ok (.isub, 1) := by decide +kernel
theorem dX3_isWhole_3 : decode cX3_isWhole 3 = .ok (.istore_n 3, 1) := by decide +kernel
theorem dX3_isWhole_4 : decode cX3_isWhole 4 = .ok (.aload_n 0, 1) := by decide +kernel
theorem dX3_isWhole_5 : decode cX3_isWhole 5 = .ok (.iload_n 1, 1) := by decide +kernel
theorem dX3_isWhole_6 : decode cX3_isWhole 6 = .ok (.invokevirtual 19, 3) := by decide +kernel
theorem dX3_isWhole_9 : decode cX3_isWhole 9 = .ok (.lookupswitch 79 #[(98, 43), (99, 55), (118, 67), (119, 43)], 43) := by decide +kernel
theorem dX3_isWhole_52 : decode cX3_isWhole 52 = .ok (.iload_n 3, 1) := by decide +kernel
theorem dX3_isWhole_53 : decode cX3_isWhole 53 = .ok (.bipush 8, 2) := by decide +kernel
theorem dX3_isWhole_55 : decode cX3_isWhole 55 = .ok (.if_icmp .le 7, 3) := by decide +kernel
theorem dX3_isWhole_58 : decode cX3_isWhole 58 = .ok (.iconst 1, 1) := by decide +kernel
theorem dX3_isWhole_59 : decode cX3_isWhole 59 = .ok (.goto 4, 3) := by decide +kernel
theorem dX3_isWhole_62 : decode cX3_isWhole 62 = .ok (.iconst 0, 1) := by decide +kernel
theorem dX3_isWhole_63 : decode cX3_isWhole 63 = .ok (.ireturn, 1) := by decide +kernel
theorem dX3_isWhole_64 : decode cX3_isWhole 64 = .ok (.iload_n 3, 1) := by decide +kernel
theorem dX3_isWhole_65 : decode cX3_isWhole 65 = .ok (.bipush 8, 2) := by decide +kernel
theorem dX3_isWhole_67 : decode cX3_isWhole 67 = .ok (.if_icmp .ne 7, 3) := by decide +kernel
theorem dX3_isWhole_70 : decode cX3_isWhole 70 = .ok (.iconst 1, 1) := by decide +kernel
theorem dX3_isWhole_71 : decode cX3_isWhole 71 = .ok (.goto 4, 3) := by decide +kernel
theorem dX3_isWhole_74 : decode cX3_isWhole 74 = .ok (.iconst 0, 1) := by decide +kernel
theorem dX3_isWhole_75 : decode cX3_isWhole 75 = .ok (.ireturn, 1) := by decide +kernel
theorem dX3_isWhole_76 : decode cX3_isWhole 76 = .ok (.iload_n 3, 1) := by decide +kernel
theorem dX3_isWhole_77 : decode cX3_isWhole 77 = .ok (.bipush 14, 2) := by decide +kernel
theorem dX3_isWhole_79 : decode cX3_isWhole 79 = .ok (.if_icmp .ne 7, 3) := by decide +kernel
theorem dX3_isWhole_82 : decode cX3_isWhole 82 = .ok (.iconst 1, 1) := by decide +kernel
theorem dX3_isWhole_83 : decode cX3_isWhole 83 = .ok (.goto 4, 3) := by decide +kernel
theorem dX3_isWhole_86 : decode cX3_isWhole 86 = .ok (.iconst 0, 1) := by decide +kernel
theorem dX3_isWhole_87 : decode cX3_isWhole 87 = .ok (.ireturn, 1) := by decide +kernel
theorem dX3_isWhole_88 : decode cX3_isWhole 88 = .ok (.iconst 0, 1) := by decide +kernel
theorem dX3_isWhole_89 : decode cX3_isWhole 89 = .ok (.ireturn, 1) := by decide +kernel
theorem dX3_isDigit_0 : decode cX3_isDigit 0 = .ok (.iload_n 0, 1) := by decide +kernel
theorem dX3_isDigit_1 : decode cX3_isDigit 1 = .ok (.bipush 48, 2) := by decide +kernel
theorem dX3_isDigit_3 : decode cX3_isDigit 3 = .ok (.if_icmp .lt 13, 3) := by decide +kernel
theorem dX3_isDigit_6 : decode cX3_isDigit 6 = .ok (.iload_n 0, 1) := by decide +kernel
theorem dX3_isDigit_7 : decode cX3_isDigit 7 = .ok (.bipush 57, 2) := by decide +kernel
theorem dX3_isDigit_9 : decode cX3_isDigit 9 = .ok (.if_icmp .gt 7, 3) := by decide +kernel
theorem dX3_isDigit_12 : decode cX3_isDigit 12 = .ok (.iconst 1, 1) := by decide +kernel
theorem dX3_isDigit_13 : decode cX3_isDigit 13 = .ok (.goto 4, 3) := by decide +kernel
theorem dX3_isDigit_16 : decode cX3_isDigit 16 = .ok (.iconst 0, 1) := by decide +kernel
theorem dX3_isDigit_17 : decode cX3_isDigit 17 = .ok (.ireturn, 1) := by decide +kernel
theorem dX3_endsHead_0 : decode cX3_endsHead 0 = .ok (.iload_n 0, 1) := by decide +kernel
theorem dX3_endsHead_1 : decode cX3_endsHead 1 = .ok (.lookupswitch 97 #[(98, 43), (99, 67), (118, 85), (119, 55)], 43) := by decide +kernel
theorem dX3_endsHead_44 : decode cX3_endsHead 44 = .ok (.iload_n 1, 1) := by decide +kernel
theorem dX3_endsHead_45 : decode cX3_endsHead 45 = .ok (.bipush 43, 2) := by decide +kernel
theorem dX3_endsHead_47 : decode cX3_endsHead 47 = .ok (.if_icmp .ne 7, 3) := by decide +kernel
theorem dX3_endsHead_50 : decode cX3_endsHead 50 = .ok (.iconst 1, 1) := by decide +kernel
theorem dX3_endsHead_51 : decode cX3_endsHead 51 = .ok (.goto 4, 3) := by decide +kernel
theorem dX3_endsHead_54 : decode cX3_endsHead 54 = .ok (.iconst 0, 1) := by decide +kernel
theorem dX3_endsHead_55 : decode cX3_endsHead 55 = .ok (.ireturn, 1) := by decide +kernel
theorem dX3_endsHead_56 : decode cX3_endsHead 56 = .ok (.iload_n 1, 1) := by decide +kernel
theorem dX3_endsHead_57 : decode cX3_endsHead 57 = .ok (.bipush 61, 2) := by decide +kernel
theorem dX3_endsHead_59 : decode cX3_endsHead 59 = .ok (.if_icmp .ne 7, 3) := by decide +kernel
theorem dX3_endsHead_62 : decode cX3_endsHead 62 = .ok (.iconst 1, 1) := by decide +kernel
theorem dX3_endsHead_63 : decode cX3_endsHead 63 = .ok (.goto 4, 3) := by decide +kernel
theorem dX3_endsHead_66 : decode cX3_endsHead 66 = .ok (.iconst 0, 1) := by decide +kernel
theorem dX3_endsHead_67 : decode cX3_endsHead 67 = .ok (.ireturn, 1) := by decide +kernel
theorem dX3_endsHead_68 : decode cX3_endsHead 68 = .ok (.iload_n 1, 1) := by decide +kernel
theorem dX3_endsHead_69 : decode cX3_endsHead 69 = .ok (.bipush 65, 2) := by decide +kernel
theorem dX3_endsHead_71 : decode cX3_endsHead 71 = .ok (.if_icmp .lt 13, 3) := by decide +kernel
theorem dX3_endsHead_74 : decode cX3_endsHead 74 = .ok (.iload_n 1, 1) := by decide +kernel
theorem dX3_endsHead_75 : decode cX3_endsHead 75 = .ok (.bipush 90, 2) := by decide +kernel
theorem dX3_endsHead_77 : decode cX3_endsHead 77 = .ok (.if_icmp .gt 7, 3) := by decide +kernel
theorem dX3_endsHead_80 : decode cX3_endsHead 80 = .ok (.iconst 1, 1) := by decide +kernel
theorem dX3_endsHead_81 : decode cX3_endsHead 81 = .ok (.goto 4, 3) := by decide +kernel
theorem dX3_endsHead_84 : decode cX3_endsHead 84 = .ok (.iconst 0, 1) := by decide +kernel
theorem dX3_endsHead_85 : decode cX3_endsHead 85 = .ok (.ireturn, 1) := by decide +kernel
theorem dX3_endsHead_86 : decode cX3_endsHead 86 = .ok (.iload_n 1, 1) := by decide +kernel
theorem dX3_endsHead_87 : decode cX3_endsHead 87 = .ok (.bipush 45, 2) := by decide +kernel
theorem dX3_endsHead_89 : decode cX3_endsHead 89 = .ok (.if_icmp .ne 7, 3) := by decide +kernel
theorem dX3_endsHead_92 : decode cX3_endsHead 92 = .ok (.iconst 1, 1) := by decide +kernel
theorem dX3_endsHead_93 : decode cX3_endsHead 93 = .ok (.goto 4, 3) := by decide +kernel
theorem dX3_endsHead_96 : decode cX3_endsHead 96 = .ok (.iconst 0, 1) := by decide +kernel
theorem dX3_endsHead_97 : decode cX3_endsHead 97 = .ok (.ireturn, 1) := by decide +kernel
theorem dX3_endsHead_98 : decode cX3_endsHead 98 = .ok (.iconst 0, 1) := by decide +kernel
theorem dX3_endsHead_99 : decode cX3_endsHead 99 = .ok (.ireturn, 1) := by decide +kernel
theorem dX3_fitsBehindHead_0 : decode cX3_fitsBehindHead 0 = .ok (.aload_n 0, 1) := by decide +kernel
theorem dX3_fitsBehindHead_1 : decode cX3_fitsBehindHead 1 = .ok (.iload_n 1, 1) := by decide +kernel
theorem dX3_fitsBehindHead_2 : decode cX3_fitsBehindHead 2 = .ok (.bipush 8, 2) := by decide +kernel
theorem dX3_fitsBehindHead_4 : decode cX3_fitsBehindHead 4 = .ok (.iadd, 1) := by decide +kernel
theorem dX3_fitsBehindHead_5 : decode cX3_fitsBehindHead 5 = .ok (.iload_n 2, 1) := by decide +kernel
theorem dX3_fitsBehindHead_6 : decode cX3_fitsBehindHead 6 = .ok (.iconst 1, 1) := by decide +kernel
theorem dX3_fitsBehindHead_7 : decode cX3_fitsBehindHead 7 = .ok (.iadd, 1) := by decide +kernel
theorem dX3_fitsBehindHead_8 : decode cX3_fitsBehindHead 8 = .ok (.invokevirtual 44, 3) := by decide +kernel
theorem dX3_fitsBehindHead_11 : decode cX3_fitsBehindHead 11 = .ok (.istore_n 3, 1) := by decide +kernel
theorem dX3_fitsBehindHead_12 : decode cX3_fitsBehindHead 12 = .ok (.aload_n 0, 1) := by decide +kernel
theorem dX3_fitsBehindHead_13 : decode cX3_fitsBehindHead 13 = .ok (.iload_n 1, 1) := by decide +kernel
theorem dX3_fitsBehindHead_14 : decode cX3_fitsBehindHead 14 = .ok (.invokevirtual 19, 3) := by decide +kernel
theorem dX3_fitsBehindHead_17 : decode cX3_fitsBehindHead 17 = .ok (.lookupswitch 84 #[(98, 35), (118, 70), (119, 52)], 35) := by decide +kernel
theorem dX3_fitsBehindHead_52 : decode cX3_fitsBehindHead 52 = .ok (.iload_n 3, 1) := by decide +kernel
theorem dX3_fitsBehindHead_53 : decode cX3_fitsBehindHead 53 = .ok (.iconst 1, 1) := by decide +kernel
theorem dX3_fitsBehindHead_54 : decode cX3_fitsBehindHead 54 = .ok (.if_icmp .lt 13, 3) := by decide +kernel
theorem dX3_fitsBehindHead_57 : decode cX3_fitsBehindHead 57 = .ok (.iload_n 3, 1) := by decide +kernel
theorem dX3_fitsBehindHead_58 : decode cX3_fitsBehindHead 58 = .ok (.bipush 40, 2) := by decide +kernel
theorem dX3_fitsBehindHead_60 : decode cX3_fitsBehindHead 60 = .ok (.if_icmp .gt 7, 3) := by decide +kernel
theorem dX3_fitsBehindHead_63 : decode cX3_fitsBehindHead 63 = .ok (.iconst 1, 1) := by decide +kernel
theorem dX3_fitsBehindHead_64 : decode cX3_fitsBehindHead 64 = .ok (.goto 4, 3) := by decide +kernel
theorem dX3_fitsBehindHead_67 : decode cX3_fitsBehindHead 67 = .ok (.iconst 0, 1) := by decide +kernel
theorem dX3_fitsBehindHead_68 : decode cX3_fitsBehindHead 68 = .ok (.ireturn, 1) := by decide +kernel
theorem dX3_fitsBehindHead_69 : decode cX3_fitsBehindHead 69 = .ok (.iload_n 3, 1) := by decide +kernel
theorem dX3_fitsBehindHead_70 : decode cX3_fitsBehindHead 70 = .ok (.iconst 1, 1) := by decide +kernel
theorem dX3_fitsBehindHead_71 : decode cX3_fitsBehindHead 71 = .ok (.if_icmp .lt 14, 3) := by decide +kernel
theorem dX3_fitsBehindHead_74 : decode cX3_fitsBehindHead 74 = .ok (.iload_n 3, 1) := by decide +kernel
theorem dX3_fitsBehindHead_75 : decode cX3_fitsBehindHead 75 = .ok (.sipush 999, 3) := by decide +kernel
theorem dX3_fitsBehindHead_78 : decode cX3_fitsBehindHead 78 = .ok (.if_icmp .gt 7, 3) := by decide +kernel
theorem dX3_fitsBehindHead_81 : decode cX3_fitsBehindHead 81 = .ok (.iconst 1, 1) := by decide +kernel
theorem dX3_fitsBehindHead_82 : decode cX3_fitsBehindHead 82 = .ok (.goto 4, 3) := by decide +kernel
theorem dX3_fitsBehindHead_85 : decode cX3_fitsBehindHead 85 = .ok (.iconst 0, 1) := by decide +kernel
theorem dX3_fitsBehindHead_86 : decode cX3_fitsBehindHead 86 = .ok (.ireturn, 1) := by decide +kernel
theorem dX3_fitsBehindHead_87 : decode cX3_fitsBehindHead 87 = .ok (.iload_n 2, 1) := by decide +kernel
theorem dX3_fitsBehindHead_88 : decode cX3_fitsBehindHead 88 = .ok (.iload_n 1, 1) := by decide +kernel
theorem dX3_fitsBehindHead_89 : decode cX3_fitsBehindHead 89 = .ok (.isub, 1) := by decide +kernel
theorem dX3_fitsBehindHead_90 : decode cX3_fitsBehindHead 90 = .ok (.bipush 14, 2) := by decide +kernel
theorem dX3_fitsBehindHead_92 : decode cX3_fitsBehindHead 92 = .ok (.if_icmp .ge 7, 3) := by decide +kernel
theorem dX3_fitsBehindHead_95 : decode cX3_fitsBehindHead 95 = .ok (.iconst 1, 1) := by decide +kernel
theorem dX3_fitsBehindHead_96 : decode cX3_fitsBehindHead 96 = .ok (.goto 4, 3) := by decide +kernel
theorem dX3_fitsBehindHead_99 : decode cX3_fitsBehindHead 99 = .ok (.iconst 0, 1) := by decide +kernel
theorem dX3_fitsBehindHead_100 : decode cX3_fitsBehindHead 100 = .ok (.ireturn, 1) := by decide +kernel
theorem dX3_fitsBehindHead_101 : decode cX3_fitsBehindHead 101 = .ok (.iconst 0, 1) := by decide +kernel
theorem dX3_fitsBehindHead_102 : decode cX3_fitsBehindHead 102 = .ok (.ireturn, 1) := by decide +kernel
theorem dX4_init_0 : decode cX4_init 0 = .ok (.aload_n 0, 1) := by decide +kernel
theorem dX4_init_1 : decode cX4_init 1 = .ok (.invokespecial 3, 3) := by decide +kernel
theorem dX4_init_4 : decode cX4_init 4 = .ok (.aload_n 0, 1) := by decide +kernel
theorem dX4_init_5 : decode cX4_init 5 = .ok (.new 9, 3) := by decide +kernel
theorem dX4_init_8 : decode cX4_init 8 = .ok (.dup, 1) := by decide +kernel
theorem dX4_init_9 : decode cX4_init 9 = .ok (.invokespecial 11, 3) := by decide +kernel
theorem dX4_init_12 : decode cX4_init 12 = .ok (.putfield 12, 3) := by decide +kernel
theorem dX4_init_15 : decode cX4_init 15 = .ok (.aload_n 0, 1) := by decide +kernel
theorem dX4_init_16 : decode cX4_init 16 = .ok (.new 18, 3) := by decide +kernel
theorem dX4_init_19 : decode cX4_init 19 = .ok (.dup, 1) := by decide +kernel
theorem dX4_init_20 : decode cX4_init 20 = .ok (.invokespecial 20, 3) := by decide +kernel
theorem dX4_init_23 : decode cX4_init 23 = .ok (.putfield 21, 3) := by decide +kernel
theorem dX4_init_26 : decode cX4_init 26 = .ok (.return_, 1) := by decide +kernel
theorem dX4_copyFrom_0 : decode cX4_copyFrom 0 = .ok (.aload_n 0, 1) := by decide +kernel
theorem dX4_copyFrom_1 : decode cX4_copyFrom 1 = .ok (.getfield 12, 3) := by decide +kernel
theorem dX4_copyFrom_4 : decode cX4_copyFrom 4 = .ok (.aload_n 1, 1) := by decide +kernel
theorem dX4_copyFrom_5 : decode cX4_copyFrom 5 = .ok (.getfield 12, 3) := by decide +kernel
theorem dX4_copyFrom_8 : decode cX4_copyFrom 8 = .ok (.invokevirtual 25, 3) := by decide +kernel
theorem dX4_copyFrom_11 : decode cX4_copyFrom 11 = .ok (.aload_n 0, 1) := by decide +kernel
theorem dX4_copyFrom_12 : decode cX4_copyFrom 12 = .ok (.getfield 21, 3) := by decide +kernel
theorem dX4_copyFrom_15 : decode cX4_copyFrom 15 = .ok (.aload_n 1, 1) := by decide +kernel
theorem dX4_copyFrom_16 : decode cX4_copyFrom 16 = .ok (.getfield 21, 3) := by decide +kernel
theorem dX4_copyFrom_19 : decode cX4_copyFrom 19 = .ok (.invokevirtual 29, 3) := by decide +kernel
theorem dX4_copyFrom_22 : decode cX4_copyFrom 22 = .ok (.aload_n 0, 1) := by decide +kernel
theorem dX4_copyFrom_23 : decode cX4_copyFrom 23 = .ok (.aload_n 1, 1) := by decide +kernel
theorem dX4_copyFrom_24 : decode cX4_copyFrom 24 = .ok (.getfield 32, 3) := by decide +kernel
theorem dX4_copyFrom_27 : decode cX4_copyFrom 27 = .ok (.putfield 32, 3) := by decide +kernel
theorem dX4_copyFrom_30 : decode cX4_copyFrom 30 = .ok (.return_, 1) := by decide +kernel
theorem dX4_cashByReading_0 : decode cX4_cashByReading 0 = .ok (.aload_n 0, 1) := by decide +kernel
theorem dX4_cashByReading_1 : decode cX4_cashByReading 1 = .ok (.iload_n 1, 1) := by decide +kernel
theorem dX4_cashByReading_2 : decode cX4_cashByReading 2 = .ok (.iload_n 2, 1) := by decide +kernel
theorem dX4_cashByReading_3 : decode cX4_cashByReading 3 = .ok (.invokevirtual 36, 3) := by decide +kernel
theorem dX4_cashByReading_6 : decode cX4_cashByReading 6 = .ok (.istore_n 3, 1) := by decide +kernel
theorem dX4_cashByReading_7 : decode cX4_cashByReading 7 = .ok (.iload_n 3, 1) := by decide +kernel
theorem dX4_cashByReading_8 : decode cX4_cashByReading 8 = .ok (.ifCond .eq 16, 3) := by decide +kernel
theorem dX4_cashByReading_11 : decode cX4_cashByReading 11 = .ok (.aload_n 0, 1) := by decide +kernel
theorem dX4_cashByReading_12 : decode cX4_cashByReading 12 = .ok (.dup, 1) := by decide +kernel
theorem dX4_cashByReading_13 : decode cX4_cashByReading 13 = .ok (.getfield 32, 3) := by decide +kernel
theorem dX4_cashByReading_16 : decode cX4_cashByReading 16 = .ok (.iconst 1, 1) := by decide +kernel
theorem dX4_cashByReading_17 : decode cX4_cashByReading 17 = .ok (.iadd, 1) := by decide +kernel
theorem dX4_cashByReading_18 : decode cX4_cashByReading 18 = .ok (.putfield 32, 3) := by decide +kernel
theorem dX4_cashByReading_21 : decode cX4_cashByReading 21 = .ok (.iload_n 3, 1) := by decide +kernel
theorem dX4_cashByReading_22 : decode cX4_cashByReading 22 = .ok (.ineg, 1) := by decide +kernel
theorem dX4_cashByReading_23 : decode cX4_cashByReading 23 = .ok (.ireturn, 1) := by decide +kernel
theorem dX4_cashByReading_24 : decode cX4_cashByReading 24 = .ok (.aload_n 0, 1) := by decide +kernel
theorem dX4_cashByReading_25 : decode cX4_cashByReading 25 = .ok (.getfield 21, 3) := by decide +kernel
theorem dX4_cashByReading_28 : decode cX4_cashByReading 28 = .ok (.iload_n 1, 1) := by decide +kernel
theorem dX4_cashByReading_29 : decode cX4_cashByReading 29 = .ok (.invokevirtual 40, 3) := by decide +kernel
theorem dX4_cashByReading_32 : decode cX4_cashByReading 32 = .ok (.istore 4, 2) := by decide +kernel
theorem dX4_cashByReading_34 : decode cX4_cashByReading 34 = .ok (.aload_n 0, 1) := by decide +kernel
theorem dX4_cashByReading_35 : decode cX4_cashByReading 35 = .ok (.getfield 21, 3) := by decide +kernel
theorem dX4_cashByReading_38 : decode cX4_cashByReading 38 = .ok (.iload 4, 2) := by decide +kernel
theorem dX4_cashByReading_40 : decode cX4_cashByReading 40 = .ok (.invokevirtual 44, 3) := by decide +kernel
theorem dX4_cashByReading_43 : decode cX4_cashByReading 43 = .ok (.aload_n 0, 1) := by decide +kernel
theorem dX4_cashByReading_44 : decode cX4_cashByReading 44 = .ok (.getfield 21, 3) := by decide +kernel
theorem dX4_cashByReading_47 : decode cX4_cashByReading 47 = .ok (.iload 4, 2) := by decide +kernel
theorem dX4_cashByReading_49 : decode cX4_cashByReading 49 = .ok (.invokevirtual 48, 3) := by decide +kernel
theorem dX4_cashByReading_52 : decode cX4_cashByReading 52 = .ok (.ireturn, 1) := by decide +kernel
theorem dX4_reasonAgainstCashing_0 : decode cX4_reasonAgainstCashing 0 = .ok (.aload_n 0, 1) := by decide +kernel
theorem dX4_reasonAgainstCashing_1 : decode cX4_reasonAgainstCashing 1 = .ok (.getfield 12, 3) := by decide +kernel
theorem dX4_reasonAgainstCashing_4 : decode cX4_reasonAgainstCashing 4 = .ok (.iload_n 1, 1) := by decide +kernel
theorem dX4_reasonAgainstCashing_5 : decode cX4_reasonAgainstCashing 5 = .ok (.invokevirtual 51, 3) := by decide +kernel
theorem dX4_reasonAgainstCashing_8 : decode cX4_reasonAgainstCashing 8 = .ok (.iload_n 2, 1) := by decide +kernel
theorem dX4_reasonAgainstCashing_9 : decode cX4_reasonAgainstCashing 9 = .ok (.if_icmp .eq 5, 3) := by decide +kernel
theorem dX4_reasonAgainstCashing_12 : decode cX4_reasonAgainstCashing 12 = .ok (.iconst 1, 1) := by decide +kernel
theorem dX4_reasonAgainstCashing_13 : decode cX4_reasonAgainstCashing 13 = .ok (.ireturn, 1) := by decide +kernel
theorem dX4_reasonAgainstCashing_14 : decode cX4_reasonAgainstCashing 14 = .ok (.aload_n 0, 1) := by decide +kernel
theorem dX4_reasonAgainstCashing_15 : decode cX4_reasonAgainstCashing 15 = .ok (.getfield 21, 3) := by decide +kernel
theorem dX4_reasonAgainstCashing_18 : decode cX4_reasonAgainstCashing 18 = .ok (.iload_n 1, 1) := by decide +kernel
theorem dX4_reasonAgainstCashing_19 : decode cX4_reasonAgainstCashing 19 = .ok (.invokevirtual 40, 3) := by decide +kernel
theorem dX4_reasonAgainstCashing_22 : decode cX4_reasonAgainstCashing 22 = .ok (.istore_n 3, 1) := by decide +kernel
theorem dX4_reasonAgainstCashing_23 : decode cX4_reasonAgainstCashing 23 = .ok (.iload_n 3, 1) := by decide +kernel
theorem dX4_reasonAgainstCashing_24 : decode cX4_reasonAgainstCashing 24 = .ok (.iconst (-1), 1) := by decide +kernel
theorem dX4_reasonAgainstCashing_25 : decode cX4_reasonAgainstCashing 25 = .ok (.if_icmp .ne 5, 3) := by decide +kernel
theorem dX4_reasonAgainstCashing_28 : decode cX4_reasonAgainstCashing 28 = .ok (.iconst 2, 1) := by decide +kernel
theorem dX4_reasonAgainstCashing_29 : decode cX4_reasonAgainstCashing 29 = .ok (.ireturn, 1) := by decide +kernel
theorem dX4_reasonAgainstCashing_30 : decode cX4_reasonAgainstCashing 30 = .ok (.aload_n 0, 1) := by decide +kernel
theorem dX4_reasonAgainstCashing_31 : decode cX4_reasonAgainstCashing 31 = .ok (.getfield 21, 3) := by decide +kernel
theorem dX4_reasonAgainstCashing_34 : decode cX4_reasonAgainstCashing 34 = .ok (.iload_n 3, 1) := by decide +kernel
theorem dX4_reasonAgainstCashing_35 : decode cX4_reasonAgainstCashing 35 = .ok (.invokevirtual 54, 3) := by decide +kernel
theorem dX4_reasonAgainstCashing_38 : decode cX4_reasonAgainstCashing 38 = .ok (.iconst 1, 1) := by decide +kernel
theorem dX4_reasonAgainstCashing_39 : decode cX4_reasonAgainstCashing 39 = .ok (.if_icmp .ne 7, 3) := by decide +kernel
theorem dX4_reasonAgainstCashing_42 : decode cX4_reasonAgainstCashing 42 = .ok (.iconst 0, 1) := by decide +kernel
theorem dX4_reasonAgainstCashing_43 : decode cX4_reasonAgainstCashing 43 = .ok (.goto 4, 3) := by decide +kernel
theorem dX4_reasonAgainstCashing_46 : decode cX4_reasonAgainstCashing 46 = .ok (.iconst 3, 1) := by decide +kernel
theorem dX4_reasonAgainstCashing_47 : decode cX4_reasonAgainstCashing 47 = .ok (.ireturn, 1) := by decide +kernel
theorem dX4_meantCheques_0 : decode cX4_meantCheques 0 = .ok (.iconst 0, 1) := by decide +kernel
theorem dX4_meantCheques_1 : decode cX4_meantCheques 1 = .ok (.istore 4, 2) := by decide +kernel
theorem dX4_meantCheques_3 : decode cX4_meantCheques 3 = .ok (.iconst 0, 1) := by decide +kernel
theorem dX4_meantCheques_4 : decode cX4_meantCheques 4 = .ok (.istore 5, 2) := by decide +kernel
theorem dX4_meantCheques_6 : decode cX4_meantCheques 6 = .ok (.iload 5, 2) := by decide +kernel
theorem dX4_meantCheques_8 : decode cX4_meantCheques 8 = .ok (.aload_n 0, 1) := by decide +kernel
theorem dX4_meantCheques_9 : decode cX4_meantCheques 9 = .ok (.getfield 21, 3) := by decide +kernel
theorem dX4_meantCheques_12 : decode cX4_meantCheques 12 = .ok (.getfield 57, 3) := by decide +kernel
theorem dX4_meantCheques_15 : decode cX4_meantCheques 15 = .ok (.if_icmp .ge 92, 3) := by decide +kernel
theorem dX4_meantCheques_18 : decode cX4_meantCheques 18 = .ok (.aload_n 0, 1) := by decide +kernel
theorem dX4_meantCheques_19 : decode cX4_meantCheques 19 = .ok (.getfield 21, 3) := by decide +kernel
theorem dX4_meantCheques_22 : decode cX4_meantCheques 22 = .ok (.iload 5, 2) := by decide +kernel
theorem dX4_meantCheques_24 : decode cX4_meantCheques 24 = .ok (.invokevirtual 60, 3) := by decide +kernel
theorem dX4_meantCheques_27 : decode cX4_meantCheques 27 = .ok (.istore 6, 2) := by decide +kernel
theorem dX4_meantCheques_29 : decode cX4_meantCheques 29 = .ok (.aload_n 0, 1) := by decide +kernel
theorem dX4_meantCheques_30 : decode cX4_meantCheques 30 = .ok (.getfield 21, 3) := by decide +kernel
theorem dX4_meantCheques_33 : decode cX4_meantCheques 33 = .ok (.iload 6, 2) := by decide +kernel
theorem dX4_meantCheques_35 : decode cX4_meantCheques 35 = .ok (.invokevirtual 63, 3) := by decide +kernel
theorem dX4_meantCheques_38 : decode cX4_meantCheques 38 = .ok (.aload_n 0, 1) := by decide +kernel
theorem dX4_meantCheques_39 : decode cX4_meantCheques 39 = .ok (.getfield 21, 3) := by decide +kernel
theorem dX4_meantCheques_42 : decode cX4_meantCheques 42 = .ok (.iload 6, 2) := by decide +kernel
theorem dX4_meantCheques_44 : decode cX4_meantCheques 44 = .ok (.invokevirtual 66, 3) := by decide +kernel
theorem dX4_meantCheques_47 : decode cX4_meantCheques 47 = .ok (.iadd, 1) := by decide +kernel
theorem dX4_meantCheques_48 : decode cX4_meantCheques 48 = .ok (.istore 7, 2) := by decide +kernel
theorem dX4_meantCheques_50 : decode cX4_meantCheques 50 = .ok (.aload_n 0, 1) := by decide +kernel
theorem dX4_meantCheques_51 : decode cX4_meantCheques 51 = .ok (.getfield 21, 3) := by decide +kernel
theorem dX4_meantCheques_54 : decode cX4_meantCheques 54 = .ok (.iload 6, 2) := by decide +kernel
theorem dX4_meantCheques_56 : decode cX4_meantCheques 56 = .ok (.invokevirtual 63, 3) := by decide +kernel
theorem dX4_meantCheques_59 : decode cX4_meantCheques 59 = .ok (.istore 8, 2) := by decide +kernel
theorem dX4_meantCheques_61 : decode cX4_meantCheques 61 = .ok (.iload 8, 2) := by decide +kernel
theorem dX4_meantCheques_63 : decode cX4_meantCheques 63 = .ok (.iload 7, 2) := by decide +kernel
theorem dX4_meantCheques_65 : decode cX4_meantCheques 65 = .ok (.if_icmp .ge 36, 3) := by decide +kernel
theorem dX4_meantCheques_68 : decode cX4_meantCheques 68 = .ok (.aload_n 0, 1) := by decide +kernel
theorem dX4_meantCheques_69 : decode cX4_meantCheques 69 = .ok (.getfield 12, 3) := by decide +kernel
theorem dX4_meantCheques_72 : decode cX4_meantCheques 72 = .ok (.iload 8, 2) := by decide +kernel
theorem dX4_meantCheques_74 : decode cX4_meantCheques 74 = .ok (.iload_n 1, 1) := by decide +kernel
theorem dX4_meantCheques_75 : decode cX4_meantCheques 75 = .ok (.iload_n 2, 1) := by decide +kernel
theorem dX4_meantCheques_76 : decode cX4_meantCheques 76 = .ok (.invokevirtual 69, 3) := by decide +kernel
theorem dX4_meantCheques_79 : decode cX4_meantCheques 79 = .ok (.iconst (-1), 1) := by decide +kernel
theorem dX4_meantCheques_80 : decode cX4_meantCheques 80 = .ok (.if_icmp .eq 15, 3) := by decide +kernel
theorem dX4_meantCheques_83 : decode cX4_meantCheques 83 = .ok (.iload 4, 2) := by decide +kernel
theorem dX4_meantCheques_85 : decode cX4_meantCheques 85 = .ok (.iload_n 3, 1) := by decide +kernel
theorem dX4_meantCheques_86 : decode cX4_meantCheques 86 = .ok (.if_icmp .ne 6, 3) := by decide +kernel
theorem dX4_meantCheques_89 : decode cX4_meantCheques 89 = .ok (.iload 8, 2) := by decide +kernel
theorem dX4_meantCheques_91 : decode cX4_meantCheques 91 = .ok (.ireturn, 1) := by decide +kernel
theorem dX4_meantCheques_92 : decode cX4_meantCheques 92 = .ok (.iinc 4 1, 3) := by decide +kernel
theorem dX4_meantCheques_95 : decode cX4_meantCheques 95 = .ok (.iinc 8 1, 3) := by decide +kernel
theorem dX4_meantCheques_98 : decode cX4_meantCheques 98 = .ok (.goto (-37), 3) := by decide +kernel
theorem dX4_meantCheques_101 : decode cX4_meantCheques 101 = .ok (.iinc 5 1, 3) := by decide +kernel
theorem dX4_meantCheques_104 : decode cX4_meantCheques 104 = .ok (.goto (-98), 3) := by decide +kernel
theorem dX4_meantCheques_107 : decode cX4_meantCheques 107 = .ok (.iload_n 3, 1) := by decide +kernel
theorem dX4_meantCheques_108 : decode cX4_meantCheques 108 = .ok (.iconst (-1), 1) := by decide +kernel
theorem dX4_meantCheques_109 : decode cX4_meantCheques 109 = .ok (.if_icmp .ne 8, 3) := by decide +kernel
theorem dX4_meantCheques_112 : decode cX4_meantCheques 112 = .ok (.iload 4, 2) := by decide +kernel
theorem dX4_meantCheques_114 : decode cX4_meantCheques 114 = .ok (.goto 4, 3) := by decide +kernel
theorem dX4_meantCheques_117 : decode cX4_meantCheques 117 = .ok (.iconst (-1), 1) := by decide +kernel
theorem dX4_meantCheques_118 : decode cX4_meantCheques 118 = .ok (.ireturn, 1) := by decide +kernel
theorem dX5_init_0 : decode cX5_init 0 = .ok (.aload_n 0, 1) := by decide +kernel
theorem dX5_init_1 : decode cX5_init 1 = .ok (.invokespecial 1, 3) := by decide +kernel
theorem dX5_init_4 : decode cX5_init 4 = .ok (.aload_n 0, 1) := by decide +kernel
theorem dX5_init_5 : decode cX5_init 5 = .ok (.new 7, 3) := by decide +kernel
theorem dX5_init_8 : decode cX5_init 8 = .ok (.dup, 1) := by decide +kernel
theorem dX5_init_9 : decode cX5_init 9 = .ok (.invokespecial 9, 3) := by decide +kernel
theorem dX5_init_12 : decode cX5_init 12 = .ok (.putfield 10, 3) := by decide +kernel
theorem dX5_init_15 : decode cX5_init 15 = .ok (.aload_n 0, 1) := by decide +kernel
theorem dX5_init_16 : decode cX5_init 16 = .ok (.new 16, 3) := by decide +kernel
theorem dX5_init_19 : decode cX5_init 19 = .ok (.dup, 1) := by decide +kernel
theorem dX5_init_20 : decode cX5_init 20 = .ok (.invokespecial 18, 3) := by decide +kernel
theorem dX5_init_23 : decode cX5_init 23 = .ok (.putfield 19, 3) := by decide +kernel
theorem dX5_init_26 : decode cX5_init 26 = .ok (.aload_n 0, 1) := by decide +kernel
theorem dX5_init_27 : decode cX5_init 27 = .ok (.new 23, 3) := by decide +kernel
theorem dX5_init_30 : decode cX5_init 30 = .ok (.dup, 1) := by decide +kernel
theorem dX5_init_31 : decode cX5_init 31 = .ok (.invokespecial 25, 3) := by decide +kernel
theorem dX5_init_34 : decode cX5_init 34 = .ok (.putfield 26, 3) := by decide +kernel
theorem dX5_init_37 : decode cX5_init 37 = .ok (.return_, 1) := by decide +kernel
theorem dX5_weight_0 : decode cX5_weight 0 = .ok (.iload_n 1, 1) := by decide +kernel
theorem dX5_weight_1 : decode cX5_weight 1 = .ok (.invokestatic 30, 3) := by decide +kernel
theorem dX5_weight_4 : decode cX5_weight 4 = .ok (.iload_n 2, 1) := by decide +kernel
theorem dX5_weight_5 : decode cX5_weight 5 = .ok (.iconst 1, 1) := by decide +kernel
theorem dX5_weight_6 : decode cX5_weight 6 = .ok (.if_icmp .lt 9, 3) := by decide +kernel
theorem dX5_weight_9 : decode cX5_weight 9 = .ok (.iload_n 2, 1) := by decide +kernel
theorem dX5_weight_10 : decode cX5_weight 10 = .ok (.bipush 9, 2) := by decide +kernel
theorem dX5_weight_12 : decode cX5_weight 12 = .ok (.if_icmp .le 13, 3) := by decide +kernel
theorem dX5_weight_15 : decode cX5_weight 15 = .ok (.new 34, 3) := by decide +kernel
theorem dX5_weight_18 : decode cX5_weight 18 = .ok (.dup, 1) := by decide +kernel
theorem dX5_weight_19 : decode cX5_weight 19 = .ok (.ldc 36, 2) := by decide +kernel
theorem dX5_weight_21 : decode cX5_weight 21 = .ok (.invokespecial 38, 3) := by decide +kernel
theorem dX5_weight_24 : decode cX5_weight 24 = .ok (.athrow, 1) := by decide +kernel
theorem dX5_weight_25 : decode cX5_weight 25 = .ok (.aload_n 0, 1) := by decide +kernel
theorem dX5_weight_26 : decode cX5_weight 26 = .ok (.getfield 19, 3) := by decide +kernel
theorem dX5_weight_29 : decode cX5_weight 29 = .ok (.aload_n 0, 1) := by decide +kernel
theorem dX5_weight_30 : decode cX5_weight 30 = .ok (.getfield 10, 3) := by decide +kernel
theorem dX5_weight_33 : decode cX5_weight 33 = .ok (.invokevirtual 41, 3) := by decide +kernel
theorem dX5_weight_36 : decode cX5_weight 36 = .ok (.aload_n 0, 1) := by decide +kernel
theorem dX5_weight_37 : decode cX5_weight 37 = .ok (.getfield 10, 3) := by decide +kernel
theorem dX5_weight_40 : decode cX5_weight 40 = .ok (.getfield 45, 3) := by decide +kernel
theorem dX5_weight_43 : decode cX5_weight 43 = .ok (.iload_n 1, 1) := by decide +kernel
theorem dX5_weight_44 : decode cX5_weight 44 = .ok (.invokevirtual 49, 3) := by decide +kernel
theorem dX5_weight_47 : decode cX5_weight 47 = .ok (.istore_n 3, 1) := by decide +kernel
theorem dX5_weight_48 : decode cX5_weight 48 = .ok (.aload_n 0, 1) := by decide +kernel
theorem dX5_weight_49 : decode cX5_weight 49 = .ok (.getfield 10, 3) := by decide +kernel
theorem dX5_weight_52 : decode cX5_weight 52 = .ok (.getfield 45, 3) := by decide +kernel
theorem dX5_weight_55 : decode cX5_weight 55 = .ok (.iload_n 1, 1) := by decide +kernel
theorem dX5_weight_56 : decode cX5_weight 56 = .ok (.iload_n 2, 1) := by decide +kernel
theorem dX5_weight_57 : decode cX5_weight 57 = .ok (.invokevirtual 55, 3) := by decide +kernel
theorem dX5_weight_60 : decode cX5_weight 60 = .ok (.iload_n 3, 1) := by decide +kernel
theorem dX5_weight_61 : decode cX5_weight 61 = .ok (.ireturn, 1) := by decide +kernel
theorem dX5_modulus_0 : decode cX5_modulus 0 = .ok (.iload_n 1, 1) := by decide +kernel
theorem dX5_modulus_1 : decode cX5_modulus 1 = .ok (.bipush 7, 2) := by decide +kernel
theorem dX5_modulus_3 : decode cX5_modulus 3 = .ok (.if_icmp .lt 9, 3) := by decide +kernel
theorem dX5_modulus_6 : decode cX5_modulus 6 = .ok (.iload_n 1, 1) := by decide +kernel
theorem dX5_modulus_7 : decode cX5_modulus 7 = .ok (.bipush 26, 2) := by decide +kernel
theorem dX5_modulus_9 : decode cX5_modulus 9 = .ok (.if_icmp .le 13, 3) := by decide +kernel
theorem dX5_modulus_12 : decode cX5_modulus 12 = .ok (.new 34, 3) := by decide +kernel
theorem dX5_modulus_15 : decode cX5_modulus 15 = .ok (.dup, 1) := by decide +kernel
theorem dX5_modulus_16 : decode cX5_modulus 16 = .ok (.ldc 59, 2) := by decide +kernel
theorem dX5_modulus_18 : decode cX5_modulus 18 = .ok (.invokespecial 38, 3) := by decide +kernel
theorem dX5_modulus_21 : decode cX5_modulus 21 = .ok (.athrow, 1) := by decide +kernel
theorem dX5_modulus_22 : decode cX5_modulus 22 = .ok (.aload_n 0, 1) := by decide +kernel
theorem dX5_modulus_23 : decode cX5_modulus 23 = .ok (.getfield 19, 3) := by decide +kernel
theorem dX5_modulus_26 : decode cX5_modulus 26 = .ok (.aload_n 0, 1) := by decide +kernel
theorem dX5_modulus_27 : decode cX5_modulus 27 = .ok (.getfield 10, 3) := by decide +kernel
theorem dX5_modulus_30 : decode cX5_modulus 30 = .ok (.invokevirtual 41, 3) := by decide +kernel
theorem dX5_modulus_33 : decode cX5_modulus 33 = .ok (.aload_n 0, 1) := by decide +kernel
theorem dX5_modulus_34 : decode cX5_modulus 34 = .ok (.getfield 10, 3) := by decide +kernel
theorem dX5_modulus_37 : decode cX5_modulus 37 = .ok (.getfield 45, 3) := by decide +kernel
theorem dX5_modulus_40 : decode cX5_modulus 40 = .ok (.getfield 61, 3) := by decide +kernel
theorem dX5_modulus_43 : decode cX5_modulus 43 = .ok (.istore_n 2, 1) := by decide +kernel
theorem dX5_modulus_44 : decode cX5_modulus 44 = .ok (.aload_n 0, 1) := by decide +kernel
theorem dX5_modulus_45 : decode cX5_modulus 45 = .ok (.getfield 10, 3) := by decide +kernel
theorem dX5_modulus_48 : decode cX5_modulus 48 = .ok (.getfield 45, 3) := by decide +kernel
theorem dX5_modulus_51 : decode cX5_modulus 51 = .ok (.iload_n 1, 1) := by decide +kernel
theorem dX5_modulus_52 : decode cX5_modulus 52 = .ok (.putfield 61, 3) := by decide +kernel
theorem dX5_modulus_55 : decode cX5_modulus 55 = .ok (.iload_n 2, 1) := by decide +kernel
theorem dX5_modulus_56 : decode cX5_modulus 56 = .ok (.ireturn, 1) := by decide +kernel
theorem dX5_book_0 : decode cX5_book 0 = .ok (.aload_n 0, 1) := by decide +kernel
theorem dX5_book_1 : decode cX5_book 1 = .ok (.iload_n 1, 1) := by decide +kernel
theorem dX5_book_2 : decode cX5_book 2 = .ok (.iload_n 2, 1) := by decide +kernel
theorem dX5_book_3 : decode cX5_book 3 = .ok (.invokevirtual 65, 3) := by decide +kernel
theorem dX5_book_6 : decode cX5_book 6 = .ok (.invokestatic 69, 3) := by decide +kernel
theorem dX5_book_9 : decode cX5_book 9 = .ok (.aload_n 0, 1) := by decide +kernel
theorem dX5_book_10 : decode cX5_book 10 = .ok (.getfield 19, 3) := by decide +kernel
theorem dX5_book_13 : decode cX5_book 13 = .ok (.aload_n 0, 1) := by decide +kernel
theorem dX5_book_14 : decode cX5_book 14 = .ok (.getfield 10, 3) := by decide +kernel
theorem dX5_book_17 : decode cX5_book 17 = .ok (.invokevirtual 41, 3) := by decide +kernel
theorem dX5_book_20 : decode cX5_book 20 = .ok (.aload_n 0, 1) := by decide +kernel
theorem dX5_book_21 : decode cX5_book 21 = .ok (.getfield 10, 3) := by decide +kernel
theorem dX5_book_24 : decode cX5_book 24 = .ok (.getfield 72, 3) := by decide +kernel
theorem dX5_book_27 : decode cX5_book 27 = .ok (.iload_n 1, 1) := by decide +kernel
theorem dX5_book_28 : decode cX5_book 28 = .ok (.iload_n 2, 1) := by decide +kernel
theorem dX5_book_29 : decode cX5_book 29 = .ok (.invokevirtual 76, 3) := by decide +kernel
theorem dX5_book_32 : decode cX5_book 32 = .ok (.ireturn, 1) := by decide +kernel
theorem dX5_write_0 : decode cX5_write 0 = .ok (.aload_n 0, 1) := by decide +kernel
theorem dX5_write_1 : decode cX5_write 1 = .ok (.iload_n 1, 1) := by decide +kernel
theorem dX5_write_2 : decode cX5_write 2 = .ok (.iload_n 2, 1) := by decide +kernel
theorem dX5_write_3 : decode cX5_write 3 = .ok (.invokevirtual 81, 3) := by decide +kernel
theorem dX5_write_6 : decode cX5_write 6 = .ok (.invokestatic 69, 3) := by decide +kernel
theorem dX5_write_9 : decode cX5_write 9 = .ok (.aload_n 0, 1) := by decide +kernel
theorem dX5_write_10 : decode cX5_write 10 = .ok (.getfield 19, 3) := by decide +kernel
theorem dX5_write_13 : decode cX5_write 13 = .ok (.aload_n 0, 1) := by decide +kernel
theorem dX5_write_14 : decode cX5_write 14 = .ok (.getfield 10, 3) := by decide +kernel
theorem dX5_write_17 : decode cX5_write 17 = .ok (.invokevirtual 41, 3) := by decide +kernel
theorem dX5_write_20 : decode cX5_write 20 = .ok (.aload_n 0, 1) := by decide +kernel
theorem dX5_write_21 : decode cX5_write 21 = .ok (.getfield 10, 3) := by decide +kernel
theorem dX5_write_24 : decode cX5_write 24 = .ok (.getfield 72, 3) := by decide +kernel
theorem dX5_write_27 : decode cX5_write 27 = .ok (.aload_n 0, 1) := by decide +kernel
theorem dX5_write_28 : decode cX5_write 28 = .ok (.getfield 10, 3) := by decide +kernel
theorem dX5_write_31 : decode cX5_write 31 = .ok (.getfield 72, 3) := by decide +kernel
theorem dX5_write_34 : decode cX5_write 34 = .ok (.iload_n 1, 1) := by decide +kernel
theorem dX5_write_35 : decode cX5_write 35 = .ok (.invokevirtual 84, 3) := by decide +kernel
theorem dX5_write_38 : decode cX5_write 38 = .ok (.iload_n 2, 1) := by decide +kernel
theorem dX5_write_39 : decode cX5_write 39 = .ok (.invokevirtual 87, 3) := by decide +kernel
theorem dX5_write_42 : decode cX5_write 42 = .ok (.aload_n 0, 1) := by decide +kernel
theorem dX5_write_43 : decode cX5_write 43 = .ok (.getfield 10, 3) := by decide +kernel
theorem dX5_write_46 : decode cX5_write 46 = .ok (.getfield 45, 3) := by decide +kernel
theorem dX5_write_49 : decode cX5_write 49 = .ok (.iload_n 1, 1) := by decide +kernel
theorem dX5_write_50 : decode cX5_write 50 = .ok (.invokevirtual 90, 3) := by decide +kernel
theorem dX5_write_53 : decode cX5_write 53 = .ok (.ireturn, 1) := by decide +kernel
theorem dX5_cash_0 : decode cX5_cash 0 = .ok (.iload_n 1, 1) := by decide +kernel
theorem dX5_cash_1 : decode cX5_cash 1 = .ok (.invokestatic 93, 3) := by decide +kernel
theorem dX5_cash_4 : decode cX5_cash 4 = .ok (.iload_n 2, 1) := by decide +kernel
theorem dX5_cash_5 : decode cX5_cash 5 = .ok (.invokestatic 96, 3) := by decide +kernel
theorem dX5_cash_8 : decode cX5_cash 8 = .ok (.aload_n 0, 1) := by decide +kernel
theorem dX5_cash_9 : decode cX5_cash 9 = .ok (.getfield 19, 3) := by decide +kernel
theorem dX5_cash_12 : decode cX5_cash 12 = .ok (.aload_n 0, 1) := by decide +kernel
theorem dX5_cash_13 : decode cX5_cash 13 = .ok (.getfield 10, 3) := by decide +kernel
theorem dX5_cash_16 : decode cX5_cash 16 = .ok (.invokevirtual 41, 3) := by decide +kernel
theorem dX5_cash_19 : decode cX5_cash 19 = .ok (.aload_n 0, 1) := by decide +kernel
theorem dX5_cash_20 : decode cX5_cash 20 = .ok (.getfield 10, 3) := by decide +kernel
theorem dX5_cash_23 : decode cX5_cash 23 = .ok (.iload_n 1, 1) := by decide +kernel
theorem dX5_cash_24 : decode cX5_cash 24 = .ok (.iload_n 2, 1) := by decide +kernel
theorem dX5_cash_25 : decode cX5_cash 25 = .ok (.invokevirtual 99, 3) := by decide +kernel
theorem dX5_cash_28 : decode cX5_cash 28 = .ok (.ireturn, 1) := by decide +kernel
theorem dX5_voidRun_0 : decode cX5_voidRun 0 = .ok (.iload_n 1, 1) := by decide +kernel
theorem dX5_voidRun_1 : decode cX5_voidRun 1 = .ok (.iload_n 2, 1) := by decide +kernel
theorem dX5_voidRun_2 : decode cX5_voidRun 2 = .ok (.invokestatic 102, 3) := by decide +kernel
theorem dX5_voidRun_5 : decode cX5_voidRun 5 = .ok (.invokestatic 69, 3) := by decide +kernel
theorem dX5_voidRun_8 : decode cX5_voidRun 8 = .ok (.aload_n 0, 1) := by decide +kernel
theorem dX5_voidRun_9 : decode cX5_voidRun 9 = .ok (.getfield 19, 3) := by decide +kernel
theorem dX5_voidRun_12 : decode cX5_voidRun 12 = .ok (.aload_n 0, 1) := by decide +kernel
theorem dX5_voidRun_13 : decode cX5_voidRun 13 = .ok (.getfield 10, 3) := by decide +kernel
theorem dX5_voidRun_16 : decode cX5_voidRun 16 = .ok (.invokevirtual 41, 3) := by decide +kernel
theorem dX5_voidRun_19 : decode cX5_voidRun 19 = .ok (.aload_n 0, 1) := by decide +kernel
theorem dX5_voidRun_20 : decode cX5_voidRun 20 = .ok (.getfield 10, 3) := by decide +kernel
theorem dX5_voidRun_23 : decode cX5_voidRun 23 = .ok (.getfield 72, 3) := by decide +kernel
theorem dX5_voidRun_26 : decode cX5_voidRun 26 = .ok (.iload_n 1, 1) := by decide +kernel
theorem dX5_voidRun_27 : decode cX5_voidRun 27 = .ok (.iload_n 2, 1) := by decide +kernel
theorem dX5_voidRun_28 : decode cX5_voidRun 28 = .ok (.invokevirtual 105, 3) := by decide +kernel
theorem dX5_voidRun_31 : decode cX5_voidRun 31 = .ok (.ireturn, 1) := by decide +kernel
theorem dX5_append_0 : decode cX5_append 0 = .ok (.iload_n 1, 1) := by decide +kernel
theorem dX5_append_1 : decode cX5_append 1 = .ok (.bipush 33, 2) := by decide +kernel
theorem dX5_append_3 : decode cX5_append 3 = .ok (.if_icmp .lt 9, 3) := by decide +kernel
theorem dX5_append_6 : decode cX5_append 6 = .ok (.iload_n 1, 1) := by decide +kernel
theorem dX5_append_7 : decode cX5_append 7 = .ok (.bipush 126, 2) := by decide +kernel
theorem dX5_append_9 : decode cX5_append 9 = .ok (.if_icmp .le 13, 3) := by decide +kernel
theorem dX5_append_12 : decode cX5_append 12 = .ok (.new 34, 3) := by decide +kernel
theorem dX5_append_15 : decode cX5_append 15 = .ok (.dup, 1) := by decide +kernel
theorem dX5_append_16 : decode cX5_append 16 = .ok (.ldc 108, 2) := by decide +kernel
theorem dX5_append_18 : decode cX5_append 18 = .ok (.invokespecial 38, 3) := by decide +kernel
theorem dX5_append_21 : decode cX5_append 21 = .ok (.athrow, 1) := by decide +kernel
theorem dX5_append_22 : decode cX5_append 22 = .ok (.aload_n 0, 1) := by decide +kernel
theorem dX5_append_23 : decode cX5_append 23 = .ok (.getfield 26, 3) := by decide +kernel
theorem dX5_append_26 : decode cX5_append 26 = .ok (.invokevirtual 110, 3) := by decide +kernel
theorem dX5_append_29 : decode cX5_append 29 = .ok (.ifCond .eq 13, 3) := by decide +kernel
theorem dX5_append_32 : decode cX5_append 32 = .ok (.new 114, 3) := by decide +kernel
theorem dX5_append_35 : decode cX5_append 35 = .ok (.dup, 1) := by decide +kernel
theorem dX5_append_36 : decode cX5_append 36 = .ok (.ldc 116, 2) := by decide +kernel
theorem dX5_append_38 : decode cX5_append 38 = .ok (.invokespecial 118, 3) := by decide +kernel
theorem dX5_append_41 : decode cX5_append 41 = .ok (.athrow, 1) := by decide +kernel
theorem dX5_append_42 : decode cX5_append 42 = .ok (.aload_n 0, 1) := by decide +kernel
theorem dX5_append_43 : decode cX5_append 43 = .ok (.getfield 26, 3) := by decide +kernel
theorem dX5_append_46 : decode cX5_append 46 = .ok (.iload_n 1, 1) := by decide +kernel
theorem dX5_append_47 : decode cX5_append 47 = .ok (.invokevirtual 119, 3) := by decide +kernel
theorem dX5_append_50 : decode cX5_append 50 = .ok (.ireturn, 1) := by decide +kernel
theorem dX5_clearBuffer_0 : decode cX5_clearBuffer 0 = .ok (.aload_n 0, 1) := by decide +kernel
theorem dX5_clearBuffer_1 : decode cX5_clearBuffer 1 = .ok (.getfield 26, 3) := by decide +kernel
theorem dX5_clearBuffer_4 : decode cX5_clearBuffer 4 = .ok (.invokevirtual 121, 3) := by decide +kernel
theorem dX5_clearBuffer_7 : decode cX5_clearBuffer 7 = .ok (.ireturn, 1) := by decide +kernel
theorem dX5_firstError_0 : decode cX5_firstError 0 = .ok (.aload_n 0, 1) := by decide +kernel
theorem dX5_firstError_1 : decode cX5_firstError 1 = .ok (.getfield 26, 3) := by decide +kernel
theorem dX5_firstError_4 : decode cX5_firstError 4 = .ok (.invokevirtual 125, 3) := by decide +kernel
theorem dX5_firstError_7 : decode cX5_firstError 7 = .ok (.ireturn, 1) := by decide +kernel
theorem dX5_execute_0 : decode cX5_execute 0 = .ok (.aload_n 0, 1) := by decide +kernel
theorem dX5_execute_1 : decode cX5_execute 1 = .ok (.getfield 26, 3) := by decide +kernel
theorem dX5_execute_4 : decode cX5_execute 4 = .ok (.invokevirtual 128, 3) := by decide +kernel
theorem dX5_execute_7 : decode cX5_execute 7 = .ok (.ifCond .ne 13, 3) := by decide +kernel
theorem dX5_execute_10 : decode cX5_execute 10 = .ok (.new 34, 3) := by decide +kernel
theorem dX5_execute_13 : decode cX5_execute 13 = .ok (.dup, 1) := by decide +kernel
theorem dX5_execute_14 : decode cX5_execute 14 = .ok (.ldc 131, 2) := by decide +kernel
theorem dX5_execute_16 : decode cX5_execute 16 = .ok (.invokespecial 38, 3) := by decide +kernel
theorem dX5_execute_19 : decode cX5_execute 19 = .ok (.athrow, 1) := by decide +kernel
theorem dX5_execute_20 : decode cX5_execute 20 = .ok (.aload_n 0, 1) := by decide +kernel
theorem dX5_execute_21 : decode cX5_execute 21 = .ok (.getfield 19, 3) := by decide +kernel
theorem dX5_execute_24 : decode cX5_execute 24 = .ok (.aload_n 0, 1) := by decide +kernel
theorem dX5_execute_25 : decode cX5_execute 25 = .ok (.getfield 10, 3) := by decide +kernel
theorem dX5_execute_28 : decode cX5_execute 28 = .ok (.invokevirtual 41, 3) := by decide +kernel
theorem dX5_execute_31 : decode cX5_execute 31 = .ok (.aload_n 0, 1) := by decide +kernel
theorem dX5_execute_32 : decode cX5_execute 32 = .ok (.invokevirtual 133, 3) := by decide +kernel
theorem dX5_execute_35 : decode cX5_execute 35 = .ok (.istore_n 1, 1) := by decide +kernel
theorem dX5_execute_36 : decode cX5_execute 36 = .ok (.aload_n 0, 1) := by decide +kernel
theorem dX5_execute_37 : decode cX5_execute 37 = .ok (.getfield 26, 3) := by decide +kernel
theorem dX5_execute_40 : decode cX5_execute 40 = .ok (.invokevirtual 121, 3) := by decide +kernel
theorem dX5_execute_43 : decode cX5_execute 43 = .ok (.pop, 1) := by decide +kernel
theorem dX5_execute_44 : decode cX5_execute 44 = .ok (.iload_n 1, 1) := by decide +kernel
theorem dX5_execute_45 : decode cX5_execute 45 = .ok (.ireturn, 1) := by decide +kernel
theorem dX5_undo_0 : decode cX5_undo 0 = .ok (.aload_n 0, 1) := by decide +kernel
theorem dX5_undo_1 : decode cX5_undo 1 = .ok (.getfield 19, 3) := by decide +kernel
theorem dX5_undo_4 : decode cX5_undo 4 = .ok (.getfield 136, 3) := by decide +kernel
theorem dX5_undo_7 : decode cX5_undo 7 = .ok (.iconst 1, 1) := by decide +kernel
theorem dX5_undo_8 : decode cX5_undo 8 = .ok (.if_icmp .ge 13, 3) := by decide +kernel
theorem dX5_undo_11 : decode cX5_undo 11 = .ok (.new 114, 3) := by decide +kernel
theorem dX5_undo_14 : decode cX5_undo 14 = .ok (.dup, 1) := by decide +kernel
theorem dX5_undo_15 : decode cX5_undo 15 = .ok (.ldc 139, 2) := by decide +kernel
theorem dX5_undo_17 : decode cX5_undo 17 = .ok (.invokespecial 118, 3) := by decide +kernel
theorem dX5_undo_20 : decode cX5_undo 20 = .ok (.athrow, 1) := by decide +kernel
theorem dX5_undo_21 : decode cX5_undo 21 = .ok (.aload_n 0, 1) := by decide +kernel
theorem dX5_undo_22 : decode cX5_undo 22 = .ok (.getfield 19, 3) := by decide +kernel
theorem dX5_undo_25 : decode cX5_undo 25 = .ok (.aload_n 0, 1) := by decide +kernel
theorem dX5_undo_26 : decode cX5_undo 26 = .ok (.getfield 10, 3) := by decide +kernel
theorem dX5_undo_29 : decode cX5_undo 29 = .ok (.invokevirtual 141, 3) := by decide +kernel
theorem dX5_undo_32 : decode cX5_undo 32 = .ok (.aload_n 0, 1) := by decide +kernel
theorem dX5_undo_33 : decode cX5_undo 33 = .ok (.getfield 19, 3) := by decide +kernel
theorem dX5_undo_36 : decode cX5_undo 36 = .ok (.getfield 136, 3) := by decide +kernel
theorem dX5_undo_39 : decode cX5_undo 39 = .ok (.ireturn, 1) := by decide +kernel
theorem dX5_keep_0 : decode cX5_keep 0 = .ok (.iload_n 1, 1) := by decide +kernel
theorem dX5_keep_1 : decode cX5_keep 1 = .ok (.invokestatic 144, 3) := by decide +kernel
theorem dX5_keep_4 : decode cX5_keep 4 = .ok (.aload_n 0, 1) := by decide +kernel
theorem dX5_keep_5 : decode cX5_keep 5 = .ok (.getfield 19, 3) := by decide +kernel
theorem dX5_keep_8 : decode cX5_keep 8 = .ok (.iload_n 1, 1) := by decide +kernel
theorem dX5_keep_9 : decode cX5_keep 9 = .ok (.aload_n 0, 1) := by decide +kernel
theorem dX5_keep_10 : decode cX5_keep 10 = .ok (.getfield 10, 3) := by decide +kernel
theorem dX5_keep_13 : decode cX5_keep 13 = .ok (.invokevirtual 147, 3) := by decide +kernel
theorem dX5_keep_16 : decode cX5_keep 16 = .ok (.aload_n 0, 1) := by decide +kernel
theorem dX5_keep_17 : decode cX5_keep 17 = .ok (.getfield 10, 3) := by decide +kernel
theorem dX5_keep_20 : decode cX5_keep 20 = .ok (.getfield 72, 3) := by decide +kernel
theorem dX5_keep_23 : decode cX5_keep 23 = .ok (.getfield 151, 3) := by decide +kernel
theorem dX5_keep_26 : decode cX5_keep 26 = .ok (.ireturn, 1) := by decide +kernel
theorem dX5_goBack_0 : decode cX5_goBack 0 = .ok (.iload_n 1, 1) := by decide +kernel
theorem dX5_goBack_1 : decode cX5_goBack 1 = .ok (.invokestatic 144, 3) := by decide +kernel
theorem dX5_goBack_4 : decode cX5_goBack 4 = .ok (.aload_n 0, 1) := by decide +kernel
theorem dX5_goBack_5 : decode cX5_goBack 5 = .ok (.getfield 19, 3) := by decide +kernel
theorem dX5_goBack_8 : decode cX5_goBack 8 = .ok (.iload_n 1, 1) := by decide +kernel
theorem dX5_goBack_9 : decode cX5_goBack 9 = .ok (.invokevirtual 154, 3) := by decide +kernel
theorem dX5_goBack_12 : decode cX5_goBack 12 = .ok (.ifCond .ne 13, 3) := by decide +kernel
theorem dX5_goBack_15 : decode cX5_goBack 15 = .ok (.new 114, 3) := by decide +kernel
theorem dX5_goBack_18 : decode cX5_goBack 18 = .ok (.dup, 1) := by decide +kernel
theorem dX5_goBack_19 : decode cX5_goBack 19 = .ok (.ldc 158, 2) := by decide +kernel
theorem dX5_goBack_21 : decode cX5_goBack 21 = .ok (.invokespecial 118, 3) := by decide +kernel
theorem dX5_goBack_24 : decode cX5_goBack 24 = .ok (.athrow, 1) := by decide +kernel
theorem dX5_goBack_25 : decode cX5_goBack 25 = .ok (.aload_n 0, 1) := by decide +kernel
theorem dX5_goBack_26 : decode cX5_goBack 26 = .ok (.getfield 19, 3) := by decide +kernel
theorem dX5_goBack_29 : decode cX5_goBack 29 = .ok (.aload_n 0, 1) := by decide +kernel
theorem dX5_goBack_30 : decode cX5_goBack 30 = .ok (.getfield 10, 3) := by decide +kernel
theorem dX5_goBack_33 : decode cX5_goBack 33 = .ok (.invokevirtual 41, 3) := by decide +kernel
theorem dX5_goBack_36 : decode cX5_goBack 36 = .ok (.aload_n 0, 1) := by decide +kernel
theorem dX5_goBack_37 : decode cX5_goBack 37 = .ok (.getfield 19, 3) := by decide +kernel
theorem dX5_goBack_40 : decode cX5_goBack 40 = .ok (.iload_n 1, 1) := by decide +kernel
theorem dX5_goBack_41 : decode cX5_goBack 41 = .ok (.aload_n 0, 1) := by decide +kernel
theorem dX5_goBack_42 : decode cX5_goBack 42 = .ok (.getfield 10, 3) := by decide +kernel
theorem dX5_goBack_45 : decode cX5_goBack 45 = .ok (.invokevirtual 160, 3) := by decide +kernel
theorem dX5_goBack_48 : decode cX5_goBack 48 = .ok (.aload_n 0, 1) := by decide +kernel
theorem dX5_goBack_49 : decode cX5_goBack 49 = .ok (.getfield 10, 3) := by decide +kernel
theorem dX5_goBack_52 : decode cX5_goBack 52 = .ok (.getfield 72, 3) := by decide +kernel
theorem dX5_goBack_55 : decode cX5_goBack 55 = .ok (.getfield 151, 3) := by decide +kernel
theorem dX5_goBack_58 : decode cX5_goBack 58 = .ok (.ireturn, 1) := by decide +kernel
theorem dX5_letter_0 : decode cX5_letter 0 = .ok (.iload_n 1, 1) := by decide +kernel
theorem dX5_letter_1 : decode cX5_letter 1 = .ok (.invokestatic 93, 3) := by decide +kernel
theorem dX5_letter_4 : decode cX5_letter 4 = .ok (.aload_n 0, 1) := by decide +kernel
theorem dX5_letter_5 : decode cX5_letter 5 = .ok (.getfield 10, 3) := by decide +kernel
theorem dX5_letter_8 : decode cX5_letter 8 = .ok (.getfield 45, 3) := by decide +kernel
theorem dX5_letter_11 : decode cX5_letter 11 = .ok (.iload_n 1, 1) := by decide +kernel
theorem dX5_letter_12 : decode cX5_letter 12 = .ok (.invokevirtual 90, 3) := by decide +kernel
theorem dX5_letter_15 : decode cX5_letter 15 = .ok (.ireturn, 1) := by decide +kernel
theorem dX5_cheque_0 : decode cX5_cheque 0 = .ok (.aload_n 0, 1) := by decide +kernel
theorem dX5_cheque_1 : decode cX5_cheque 1 = .ok (.getfield 10, 3) := by decide +kernel
theorem dX5_cheque_4 : decode cX5_cheque 4 = .ok (.getfield 72, 3) := by decide +kernel
theorem dX5_cheque_7 : decode cX5_cheque 7 = .ok (.iload_n 1, 1) := by decide +kernel
theorem dX5_cheque_8 : decode cX5_cheque 8 = .ok (.invokevirtual 84, 3) := by decide +kernel
theorem dX5_cheque_11 : decode cX5_cheque 11 = .ok (.istore_n 3, 1) := by decide +kernel
theorem dX5_cheque_12 : decode cX5_cheque 12 = .ok (.iload_n 3, 1) := by decide +kernel
theorem dX5_cheque_13 : decode cX5_cheque 13 = .ok (.iconst (-1), 1) := by decide +kernel
theorem dX5_cheque_14 : decode cX5_cheque 14 = .ok (.if_icmp .ne 13, 3) := by decide +kernel
theorem dX5_cheque_17 : decode cX5_cheque 17 = .ok (.new 163, 3) := by decide +kernel
theorem dX5_cheque_20 : decode cX5_cheque 20 = .ok (.dup, 1) := by decide +kernel
theorem dX5_cheque_21 : decode cX5_cheque 21 = .ok (.ldc 165, 2) := by decide +kernel
theorem dX5_cheque_23 : decode cX5_cheque 23 = .ok (.invokespecial 167, 3) := by decide +kernel
theorem dX5_cheque_26 : decode cX5_cheque 26 = .ok (.athrow, 1) := by decide +kernel
theorem dX5_cheque_27 : decode cX5_cheque 27 = .ok (.iload_n 2, 1) := by decide +kernel
theorem dX5_cheque_28 : decode cX5_cheque 28 = .ok (.tableswitch 82 0 4 #[36, 48, 60, 65, 70], 36) := by decide +kernel
theorem dX5_cheque_64 : decode cX5_cheque 64 = .ok (.aload_n 0, 1) := by decide +kernel
theorem dX5_cheque_65 : decode cX5_cheque 65 = .ok (.getfield 10, 3) := by decide +kernel
theorem dX5_cheque_68 : decode cX5_cheque 68 = .ok (.getfield 72, 3) := by decide +kernel
theorem dX5_cheque_71 : decode cX5_cheque 71 = .ok (.iload_n 3, 1) := by decide +kernel
theorem dX5_cheque_72 : decode cX5_cheque 72 = .ok (.invokevirtual 168, 3) := by decide +kernel
theorem dX5_cheque_75 : decode cX5_cheque 75 = .ok (.ireturn, 1) := by decide +kernel
theorem dX5_cheque_76 : decode cX5_cheque 76 = .ok (.aload_n 0, 1) := by decide +kernel
theorem dX5_cheque_77 : decode cX5_cheque 77 = .ok (.getfield 10, 3) := by decide +kernel
theorem dX5_cheque_80 : decode cX5_cheque 80 = .ok (.getfield 72, 3) := by decide +kernel
theorem dX5_cheque_83 : decode cX5_cheque 83 = .ok (.iload_n 3, 1) := by decide +kernel
theorem dX5_cheque_84 : decode cX5_cheque 84 = .ok (.invokevirtual 171, 3) := by decide +kernel
theorem dX5_cheque_87 : decode cX5_cheque 87 = .ok (.ireturn, 1) := by decide +kernel
theorem dX5_cheque_88 : decode cX5_cheque 88 = .ok (.iload_n 3, 1) := by decide +kernel
theorem dX5_cheque_89 : decode cX5_cheque 89 = .ok (.bipush 40, 2) := by decide +kernel
theorem dX5_cheque_91 : decode cX5_cheque 91 = .ok (.idiv, 1) := by decide +kernel
theorem dX5_cheque_92 : decode cX5_cheque 92 = .ok (.ireturn, 1) := by decide +kernel
theorem dX5_cheque_93 : decode cX5_cheque 93 = .ok (.iload_n 3, 1) := by decide +kernel
theorem dX5_cheque_94 : decode cX5_cheque 94 = .ok (.bipush 40, 2) := by decide +kernel
theorem dX5_cheque_96 : decode cX5_cheque 96 = .ok (.irem, 1) := by decide +kernel
theorem dX5_cheque_97 : decode cX5_cheque 97 = .ok (.ireturn, 1) := by decide +kernel
theorem dX5_cheque_98 : decode cX5_cheque 98 = .ok (.aload_n 0, 1) := by decide +kernel
theorem dX5_cheque_99 : decode cX5_cheque 99 = .ok (.getfield 10, 3) := by decide +kernel
theorem dX5_cheque_102 : decode cX5_cheque 102 = .ok (.getfield 72, 3) := by decide +kernel
theorem dX5_cheque_105 : decode cX5_cheque 105 = .ok (.iload_n 3, 1) := by decide +kernel
theorem dX5_cheque_106 : decode cX5_cheque 106 = .ok (.invokevirtual 174, 3) := by decide +kernel
theorem dX5_cheque_109 : decode cX5_cheque 109 = .ok (.ireturn, 1) := by decide +kernel
theorem dX5_cheque_110 : decode cX5_cheque 110 = .ok (.new 34, 3) := by decide +kernel
theorem dX5_cheque_113 : decode cX5_cheque 113 = .ok (.dup, 1) := by decide +kernel
theorem dX5_cheque_114 : decode cX5_cheque 114 = .ok (.ldc 177, 2) := by decide +kernel
theorem dX5_cheque_116 : decode cX5_cheque 116 = .ok (.invokespecial 38, 3) := by decide +kernel
theorem dX5_cheque_119 : decode cX5_cheque 119 = .ok (.athrow, 1) := by decide +kernel
theorem dX5_bookOf_0 : decode cX5_bookOf 0 = .ok (.iload_n 1, 1) := by decide +kernel
theorem dX5_bookOf_1 : decode cX5_bookOf 1 = .ok (.ifCond .lt 17, 3) := by decide +kernel
theorem dX5_bookOf_4 : decode cX5_bookOf 4 = .ok (.iload_n 1, 1) := by decide +kernel
theorem dX5_bookOf_5 : decode cX5_bookOf 5 = .ok (.aload_n 0, 1) := by decide +kernel
theorem dX5_bookOf_6 : decode cX5_bookOf 6 = .ok (.getfield 10, 3) := by decide +kernel
theorem dX5_bookOf_9 : decode cX5_bookOf 9 = .ok (.getfield 72, 3) := by decide +kernel
theorem dX5_bookOf_12 : decode cX5_bookOf 12 = .ok (.getfield 151, 3) := by decide +kernel
theorem dX5_bookOf_15 : decode cX5_bookOf 15 = .ok (.if_icmp .lt 13, 3) := by decide +kernel
theorem dX5_bookOf_18 : decode cX5_bookOf 18 = .ok (.new 163, 3) := by decide +kernel
theorem dX5_bookOf_21 : decode cX5_bookOf 21 = .ok (.dup, 1) := by decide +kernel
theorem dX5_bookOf_22 : decode cX5_bookOf 22 = .ok (.ldc 179, 2) := by decide +kernel
theorem dX5_bookOf_24 : decode cX5_bookOf 24 = .ok (.invokespecial 167, 3) := by decide +kernel
theorem dX5_bookOf_27 : decode cX5_bookOf 27 = .ok (.athrow, 1) := by decide +kernel
theorem dX5_bookOf_28 : decode cX5_bookOf 28 = .ok (.iload_n 2, 1) := by decide +kernel
theorem dX5_bookOf_29 : decode cX5_bookOf 29 = .ok (.ifCond .lt 9, 3) := by decide +kernel
theorem dX5_bookOf_32 : decode cX5_bookOf 32 = .ok (.iload_n 2, 1) := by decide +kernel
theorem dX5_bookOf_33 : decode cX5_bookOf 33 = .ok (.bipush 8, 2) := by decide +kernel
theorem dX5_bookOf_35 : decode cX5_bookOf 35 = .ok (.if_icmp .le 13, 3) := by decide +kernel
theorem dX5_bookOf_38 : decode cX5_bookOf 38 = .ok (.new 34, 3) := by decide +kernel
theorem dX5_bookOf_41 : decode cX5_bookOf 41 = .ok (.dup, 1) := by decide +kernel
theorem dX5_bookOf_42 : decode cX5_bookOf 42 = .ok (.ldc 181, 2) := by decide +kernel
theorem dX5_bookOf_44 : decode cX5_bookOf 44 = .ok (.invokespecial 38, 3) := by decide +kernel
theorem dX5_bookOf_47 : decode cX5_bookOf 47 = .ok (.athrow, 1) := by decide +kernel
theorem dX5_bookOf_48 : decode cX5_bookOf 48 = .ok (.aload_n 0, 1) := by decide +kernel
theorem dX5_bookOf_49 : decode cX5_bookOf 49 = .ok (.getfield 10, 3) := by decide +kernel
theorem dX5_bookOf_52 : decode cX5_bookOf 52 = .ok (.getfield 72, 3) := by decide +kernel
theorem dX5_bookOf_55 : decode cX5_bookOf 55 = .ok (.iload_n 1, 1) := by decide +kernel
theorem dX5_bookOf_56 : decode cX5_bookOf 56 = .ok (.iload_n 2, 1) := by decide +kernel
theorem dX5_bookOf_57 : decode cX5_bookOf 57 = .ok (.invokevirtual 183, 3) := by decide +kernel
theorem dX5_bookOf_60 : decode cX5_bookOf 60 = .ok (.ireturn, 1) := by decide +kernel
theorem dX5_count_0 : decode cX5_count 0 = .ok (.iload_n 1, 1) := by decide +kernel
theorem dX5_count_1 : decode cX5_count 1 = .ok (.ifCond .lt 9, 3) := by decide +kernel
theorem dX5_count_4 : decode cX5_count 4 = .ok (.iload_n 1, 1) := by decide +kernel
theorem dX5_count_5 : decode cX5_count 5 = .ok (.bipush 17, 2) := by decide +kernel
theorem dX5_count_7 : decode cX5_count 7 = .ok (.if_icmp .le 13, 3) := by decide +kernel
theorem dX5_count_10 : decode cX5_count 10 = .ok (.new 34, 3) := by decide +kernel
theorem dX5_count_13 : decode cX5_count 13 = .ok (.dup, 1) := by decide +kernel
theorem dX5_count_14 : decode cX5_count 14 = .ok (.ldc 186, 2) := by decide +kernel
theorem dX5_count_16 : decode cX5_count 16 = .ok (.invokespecial 38, 3) := by decide +kernel
theorem dX5_count_19 : decode cX5_count 19 = .ok (.athrow, 1) := by decide +kernel
theorem dX5_count_20 : decode cX5_count 20 = .ok (.iload_n 1, 1) := by decide +kernel
theorem dX5_count_21 : decode cX5_count 21 = .ok (.bipush 12, 2) := by decide +kernel
theorem dX5_count_23 : decode cX5_count 23 = .ok (.if_icmp .lt 18, 3) := by decide +kernel
theorem dX5_count_26 : decode cX5_count 26 = .ok (.aload_n 0, 1) := by decide +kernel
theorem dX5_count_27 : decode cX5_count 27 = .ok (.getfield 10, 3) := by decide +kernel
theorem dX5_count_30 : decode cX5_count 30 = .ok (.getfield 45, 3) := by decide +kernel
theorem dX5_count_33 : decode cX5_count 33 = .ok (.iload_n 1, 1) := by decide +kernel
theorem dX5_count_34 : decode cX5_count 34 = .ok (.bipush 12, 2) := by decide +kernel
theorem dX5_count_36 : decode cX5_count 36 = .ok (.isub, 1) := by decide +kernel
theorem dX5_count_37 : decode cX5_count 37 = .ok (.invokevirtual 49, 3) := by decide +kernel
theorem dX5_count_40 : decode cX5_count 40 = .ok (.ireturn, 1) := by decide +kernel
theorem dX5_count_41 : decode cX5_count 41 = .ok (.iload_n 1, 1) := by decide +kernel
theorem dX5_count_42 : decode cX5_count 42 = .ok (.tableswitch 108 0 11 #[62, 108, 108, 108, 108, 108, 108, 108, 73, 81, 92, 100], 62) := by decide +kernel
theorem dX5_count_104 : decode cX5_count 104 = .ok (.aload_n 0, 1) := by decide +kernel
theorem dX5_count_105 : decode cX5_count 105 = .ok (.getfield 10, 3) := by decide +kernel
theorem dX5_count_108 : decode cX5_count 108 = .ok (.getfield 72, 3) := by decide +kernel
theorem dX5_count_111 : decode cX5_count 111 = .ok (.getfield 151, 3) := by decide +kernel
theorem dX5_count_114 : decode cX5_count 114 = .ok (.ireturn, 1) := by decide +kernel
theorem dX5_count_115 : decode cX5_count 115 = .ok (.aload_n 0, 1) := by decide +kernel
theorem dX5_count_116 : decode cX5_count 116 = .ok (.getfield 10, 3) := by decide +kernel
theorem dX5_count_119 : decode cX5_count 119 = .ok (.getfield 188, 3) := by decide +kernel
theorem dX5_count_122 : decode cX5_count 122 = .ok (.ireturn, 1) := by decide +kernel
theorem dX5_count_123 : decode cX5_count 123 = .ok (.aload_n 0, 1) := by decide +kernel
theorem dX5_count_124 : decode cX5_count 124 = .ok (.getfield 10, 3) := by decide +kernel
theorem dX5_count_127 : decode cX5_count 127 = .ok (.getfield 45, 3) := by decide +kernel
theorem dX5_count_130 : decode cX5_count 130 = .ok (.getfield 61, 3) := by decide +kernel
theorem dX5_count_133 : decode cX5_count 133 = .ok (.ireturn, 1) := by decide +kernel
theorem dX5_count_134 : decode cX5_count 134 = .ok (.aload_n 0, 1) := by decide +kernel
theorem dX5_count_135 : decode cX5_count 135 = .ok (.getfield 19, 3) := by decide +kernel
theorem dX5_count_138 : decode cX5_count 138 = .ok (.getfield 136, 3) := by decide +kernel
theorem dX5_count_141 : decode cX5_count 141 = .ok (.ireturn, 1) := by decide +kernel
theorem dX5_count_142 : decode cX5_count 142 = .ok (.aload_n 0, 1) := by decide +kernel
theorem dX5_count_143 : decode cX5_count 143 = .ok (.getfield 26, 3) := by decide +kernel
theorem dX5_count_146 : decode cX5_count 146 = .ok (.getfield 191, 3) := by decide +kernel
theorem dX5_count_149 : decode cX5_count 149 = .ok (.ireturn, 1) := by decide +kernel
theorem dX5_count_150 : decode cX5_count 150 = .ok (.aload_n 0, 1) := by decide +kernel
theorem dX5_count_151 : decode cX5_count 151 = .ok (.getfield 10, 3) := by decide +kernel
theorem dX5_count_154 : decode cX5_count 154 = .ok (.getfield 72, 3) := by decide +kernel
theorem dX5_count_157 : decode cX5_count 157 = .ok (.iload_n 1, 1) := by decide +kernel
theorem dX5_count_158 : decode cX5_count 158 = .ok (.invokevirtual 194, 3) := by decide +kernel
theorem dX5_count_161 : decode cX5_count 161 = .ok (.ireturn, 1) := by decide +kernel
theorem dX5_ranked_0 : decode cX5_ranked 0 = .ok (.iload_n 1, 1) := by decide +kernel
theorem dX5_ranked_1 : decode cX5_ranked 1 = .ok (.ifCond .ge 13, 3) := by decide +kernel
theorem dX5_ranked_4 : decode cX5_ranked 4 = .ok (.new 34, 3) := by decide +kernel
theorem dX5_ranked_7 : decode cX5_ranked 7 = .ok (.dup, 1) := by decide +kernel
theorem dX5_ranked_8 : decode cX5_ranked 8 = .ok (.ldc 197, 2) := by decide +kernel
theorem dX5_ranked_10 : decode cX5_ranked 10 = .ok (.invokespecial 38, 3) := by decide +kernel
theorem dX5_ranked_13 : decode cX5_ranked 13 = .ok (.athrow, 1) := by decide +kernel
theorem dX5_ranked_14 : decode cX5_ranked 14 = .ok (.aload_n 0, 1) := by decide +kernel
theorem dX5_ranked_15 : decode cX5_ranked 15 = .ok (.getfield 10, 3) := by decide +kernel
theorem dX5_ranked_18 : decode cX5_ranked 18 = .ok (.getfield 72, 3) := by decide +kernel
theorem dX5_ranked_21 : decode cX5_ranked 21 = .ok (.iload_n 1, 1) := by decide +kernel
theorem dX5_ranked_22 : decode cX5_ranked 22 = .ok (.invokevirtual 199, 3) := by decide +kernel
theorem dX5_ranked_25 : decode cX5_ranked 25 = .ok (.ireturn, 1) := by decide +kernel
theorem dX5_missed_0 : decode cX5_missed 0 = .ok (.iload_n 1, 1) := by decide +kernel
theorem dX5_missed_1 : decode cX5_missed 1 = .ok (.invokestatic 93, 3) := by decide +kernel
theorem dX5_missed_4 : decode cX5_missed 4 = .ok (.iload_n 2, 1) := by decide +kernel
theorem dX5_missed_5 : decode cX5_missed 5 = .ok (.invokestatic 202, 3) := by decide +kernel
theorem dX5_missed_8 : decode cX5_missed 8 = .ok (.iload_n 2, 1) := by decide +kernel
theorem dX5_missed_9 : decode cX5_missed 9 = .ok (.lookupswitch 51 #[(0, 27), (1, 39)], 27) := by decide +kernel
theorem dX5_missed_36 : decode cX5_missed 36 = .ok (.aload_n 0, 1) := by decide +kernel
theorem dX5_missed_37 : decode cX5_missed 37 = .ok (.getfield 10, 3) := by decide +kernel
theorem dX5_missed_40 : decode cX5_missed 40 = .ok (.getfield 45, 3) := by decide +kernel
theorem dX5_missed_43 : decode cX5_missed 43 = .ok (.iload_n 1, 1) := by decide +kernel
theorem dX5_missed_44 : decode cX5_missed 44 = .ok (.invokevirtual 205, 3) := by decide +kernel
theorem dX5_missed_47 : decode cX5_missed 47 = .ok (.ireturn, 1) := by decide +kernel
theorem dX5_missed_48 : decode cX5_missed 48 = .ok (.aload_n 0, 1) := by decide +kernel
theorem dX5_missed_49 : decode cX5_missed 49 = .ok (.getfield 10, 3) := by decide +kernel
theorem dX5_missed_52 : decode cX5_missed 52 = .ok (.getfield 45, 3) := by decide +kernel
theorem dX5_missed_55 : decode cX5_missed 55 = .ok (.iload_n 1, 1) := by decide +kernel
theorem dX5_missed_56 : decode cX5_missed 56 = .ok (.invokevirtual 208, 3) := by decide +kernel
theorem dX5_missed_59 : decode cX5_missed 59 = .ok (.ireturn, 1) := by decide +kernel
theorem dX5_missed_60 : decode cX5_missed 60 = .ok (.iconst 0, 1) := by decide +kernel
theorem dX5_missed_61 : decode cX5_missed 61 = .ok (.ireturn, 1) := by decide +kernel
theorem dX5_weak_0 : decode cX5_weak 0 = .ok (.iload_n 1, 1) := by decide +kernel
theorem dX5_weak_1 : decode cX5_weak 1 = .ok (.ifCond .lt 11, 3) := by decide +kernel
theorem dX5_weak_4 : decode cX5_weak 4 = .ok (.iload_n 1, 1) := by decide +kernel
theorem dX5_weak_5 : decode cX5_weak 5 = .ok (.iload_n 2, 1) := by decide +kernel
theorem dX5_weak_6 : decode cX5_weak 6 = .ok (.invokestatic 211, 3) := by decide +kernel
theorem dX5_weak_9 : decode cX5_weak 9 = .ok (.if_icmp .lt 13, 3) := by decide +kernel
theorem dX5_weak_12 : decode cX5_weak 12 = .ok (.new 163, 3) := by decide +kernel
theorem dX5_weak_15 : decode cX5_weak 15 = .ok (.dup, 1) := by decide +kernel
theorem dX5_weak_16 : decode cX5_weak 16 = .ok (.ldc 214, 2) := by decide +kernel
theorem dX5_weak_18 : decode cX5_weak 18 = .ok (.invokespecial 167, 3) := by decide +kernel
theorem dX5_weak_21 : decode cX5_weak 21 = .ok (.athrow, 1) := by decide +kernel
theorem dX5_weak_22 : decode cX5_weak 22 = .ok (.iload_n 2, 1) := by decide +kernel
theorem dX5_weak_23 : decode cX5_weak 23 = .ok (.ifCond .lt 17, 3) := by decide +kernel
theorem dX5_weak_26 : decode cX5_weak 26 = .ok (.iload_n 2, 1) := by decide +kernel
theorem dX5_weak_27 : decode cX5_weak 27 = .ok (.iconst 1, 1) := by decide +kernel
theorem dX5_weak_28 : decode cX5_weak 28 = .ok (.if_icmp .gt 12, 3) := by decide +kernel
theorem dX5_weak_31 : decode cX5_weak 31 = .ok (.iload_n 3, 1) := by decide +kernel
theorem dX5_weak_32 : decode cX5_weak 32 = .ok (.ifCond .lt 8, 3) := by decide +kernel
theorem dX5_weak_35 : decode cX5_weak 35 = .ok (.iload_n 3, 1) := by decide +kernel
theorem dX5_weak_36 : decode cX5_weak 36 = .ok (.iconst 1, 1) := by decide +kernel
theorem dX5_weak_37 : decode cX5_weak 37 = .ok (.if_icmp .le 13, 3) := by decide +kernel
theorem dX5_weak_40 : decode cX5_weak 40 = .ok (.new 34, 3) := by decide +kernel
theorem dX5_weak_43 : decode cX5_weak 43 = .ok (.dup, 1) := by decide +kernel
theorem dX5_weak_44 : decode cX5_weak 44 = .ok (.ldc 216, 2) := by decide +kernel
theorem dX5_weak_46 : decode cX5_weak 46 = .ok (.invokespecial 38, 3) := by decide +kernel
theorem dX5_weak_49 : decode cX5_weak 49 = .ok (.athrow, 1) := by decide +kernel
theorem dX5_weak_50 : decode cX5_weak 50 = .ok (.aload_n 0, 1) := by decide +kernel
theorem dX5_weak_51 : decode cX5_weak 51 = .ok (.getfield 10, 3) := by decide +kernel
theorem dX5_weak_54 : decode cX5_weak 54 = .ok (.getfield 45, 3) := by decide +kernel
theorem dX5_weak_57 : decode cX5_weak 57 = .ok (.iload_n 1, 1) := by decide +kernel
theorem dX5_weak_58 : decode cX5_weak 58 = .ok (.iload_n 2, 1) := by decide +kernel
theorem dX5_weak_59 : decode cX5_weak 59 = .ok (.invokevirtual 218, 3) := by decide +kernel
theorem dX5_weak_62 : decode cX5_weak 62 = .ok (.istore 4, 2) := by decide +kernel
theorem dX5_weak_64 : decode cX5_weak 64 = .ok (.iload_n 3, 1) := by decide +kernel
theorem dX5_weak_65 : decode cX5_weak 65 = .ok (.ifCond .ne 18, 3) := by decide +kernel
theorem dX5_weak_68 : decode cX5_weak 68 = .ok (.aload_n 0, 1) := by decide +kernel
theorem dX5_weak_69 : decode cX5_weak 69 = .ok (.getfield 10, 3) := by decide +kernel
theorem dX5_weak_72 : decode cX5_weak 72 = .ok (.getfield 45, 3) := by decide +kernel
theorem dX5_weak_75 : decode cX5_weak 75 = .ok (.iload 4, 2) := by decide +kernel
theorem dX5_weak_77 : decode cX5_weak 77 = .ok (.invokevirtual 221, 3) := by decide +kernel
theorem dX5_weak_80 : decode cX5_weak 80 = .ok (.goto 15, 3) := by decide +kernel
theorem dX5_weak_83 : decode cX5_weak 83 = .ok (.aload_n 0, 1) := by decide +kernel
theorem dX5_weak_84 : decode cX5_weak 84 = .ok (.getfield 10, 3) := by decide +kernel
theorem dX5_weak_87 : decode cX5_weak 87 = .ok (.getfield 45, 3) := by decide +kernel
theorem dX5_weak_90 : decode cX5_weak 90 = .ok (.iload 4, 2) := by decide +kernel
theorem dX5_weak_92 : decode cX5_weak 92 = .ok (.invokevirtual 224, 3) := by decide +kernel
theorem dX5_weak_95 : decode cX5_weak 95 = .ok (.ireturn, 1) := by decide +kernel
theorem dX5_finds_0 : decode cX5_finds 0 = .ok (.iload_n 1, 1) := by decide +kernel
theorem dX5_finds_1 : decode cX5_finds 1 = .ok (.invokestatic 202, 3) := by decide +kernel
theorem dX5_finds_4 : decode cX5_finds 4 = .ok (.iload_n 1, 1) := by decide +kernel
theorem dX5_finds_5 : decode cX5_finds 5 = .ok (.iconst 2, 1) := by decide +kernel
theorem dX5_finds_6 : decode cX5_finds 6 = .ok (.if_icmp .eq 17, 3) := by decide +kernel
theorem dX5_finds_9 : decode cX5_finds 9 = .ok (.aload_n 0, 1) := by decide +kernel
theorem dX5_finds_10 : decode cX5_finds 10 = .ok (.getfield 10, 3) := by decide +kernel
theorem dX5_finds_13 : decode cX5_finds 13 = .ok (.getfield 45, 3) := by decide +kernel
theorem dX5_finds_16 : decode cX5_finds 16 = .ok (.iload_n 1, 1) := by decide +kernel
theorem dX5_finds_17 : decode cX5_finds 17 = .ok (.invokevirtual 227, 3) := by decide +kernel
theorem dX5_finds_20 : decode cX5_finds 20 = .ok (.ifCond .eq 7, 3) := by decide +kernel
theorem dX5_finds_23 : decode cX5_finds 23 = .ok (.iconst 1, 1) := by decide +kernel
theorem dX5_finds_24 : decode cX5_finds 24 = .ok (.goto 4, 3) := by decide +kernel
theorem dX5_finds_27 : decode cX5_finds 27 = .ok (.iconst 0, 1) := by decide +kernel
theorem dX5_finds_28 : decode cX5_finds 28 = .ok (.ireturn, 1) := by decide +kernel
theorem dX5_bestWeight_0 : decode cX5_bestWeight 0 = .ok (.iload_n 1, 1) := by decide +kernel
theorem dX5_bestWeight_1 : decode cX5_bestWeight 1 = .ok (.invokestatic 30, 3) := by decide +kernel
theorem dX5_bestWeight_4 : decode cX5_bestWeight 4 = .ok (.iconst 1, 1) := by decide +kernel
theorem dX5_bestWeight_5 : decode cX5_bestWeight 5 = .ok (.istore_n 2, 1) := by decide +kernel
theorem dX5_bestWeight_6 : decode cX5_bestWeight 6 = .ok (.aload_n 0, 1) := by decide +kernel
theorem dX5_bestWeight_7 : decode cX5_bestWeight 7 = .ok (.getfield 10, 3) := by decide +kernel
theorem dX5_bestWeight_10 : decode cX5_bestWeight 10 = .ok (.getfield 45, 3) := by decide +kernel
theorem dX5_bestWeight_13 : decode cX5_bestWeight 13 = .ok (.iload_n 1, 1) := by decide +kernel
theorem dX5_bestWeight_14 : decode cX5_bestWeight 14 = .ok (.iload_n 2, 1) := by decide +kernel
theorem dX5_bestWeight_15 : decode cX5_bestWeight 15 = .ok (.invokevirtual 230, 3) := by decide +kernel
theorem dX5_bestWeight_18 : decode cX5_bestWeight 18 = .ok (.istore_n 3, 1) := by decide +kernel
theorem dX5_bestWeight_19 : decode cX5_bestWeight 19 = .ok (.iconst 2, 1) := by decide +kernel
theorem dX5_bestWeight_20 : decode cX5_bestWeight 20 = .ok (.istore 4, 2) := by decide +kernel
theorem dX5_bestWeight_22 : decode cX5_bestWeight 22 = .ok (.iload 4, 2) := by decide +kernel
theorem dX5_bestWeight_24 : decode cX5_bestWeight 24 = .ok (.bipush 9, 2) := by decide +kernel
theorem dX5_bestWeight_26 : decode cX5_bestWeight 26 = .ok (.if_icmp .gt 36, 3) := by decide +kernel
theorem dX5_bestWeight_29 : decode cX5_bestWeight 29 = .ok (.aload_n 0, 1) := by decide +kernel
theorem dX5_bestWeight_30 : decode cX5_bestWeight 30 = .ok (.getfield 10, 3) := by decide +kernel
theorem dX5_bestWeight_33 : decode cX5_bestWeight 33 = .ok (.getfield 45, 3) := by decide +kernel
theorem dX5_bestWeight_36 : decode cX5_bestWeight 36 = .ok (.iload_n 1, 1) := by decide +kernel
theorem dX5_bestWeight_37 : decode cX5_bestWeight 37 = .ok (.iload 4, 2) := by decide +kernel
theorem dX5_bestWeight_39 : decode cX5_bestWeight 39 = .ok (.invokevirtual 230, 3) := by decide +kernel
theorem dX5_bestWeight_42 : decode cX5_bestWeight 42 = .ok (.istore 5, 2) := by decide +kernel
theorem dX5_bestWeight_44 : decode cX5_bestWeight 44 = .ok (.iload 5, 2) := by decide +kernel
theorem dX5_bestWeight_46 : decode cX5_bestWeight 46 = .ok (.iload_n 3, 1) := by decide +kernel
theorem dX5_bestWeight_47 : decode cX5_bestWeight 47 = .ok (.if_icmp .ge 9, 3) := by decide +kernel
theorem dX5_bestWeight_50 : decode cX5_bestWeight 50 = .ok (.iload 4, 2) := by decide +kernel
theorem dX5_bestWeight_52 : decode cX5_bestWeight 52 = .ok (.istore_n 2, 1) := by decide +kernel
theorem dX5_bestWeight_53 : decode cX5_bestWeight 53 = .ok (.iload 5, 2) := by decide +kernel
theorem dX5_bestWeight_55 : decode cX5_bestWeight 55 = .ok (.istore_n 3, 1) := by decide +kernel
theorem dX5_bestWeight_56 : decode cX5_bestWeight 56 = .ok (.iinc 4 1, 3) := by decide +kernel
theorem dX5_bestWeight_59 : decode cX5_bestWeight 59 = .ok (.goto (-37), 3) := by decide +kernel
theorem dX5_bestWeight_62 : decode cX5_bestWeight 62 = .ok (.iload_n 2, 1) := by decide +kernel
theorem dX5_bestWeight_63 : decode cX5_bestWeight 63 = .ok (.ireturn, 1) := by decide +kernel
theorem dX5_meant_0 : decode cX5_meant 0 = .ok (.iload_n 1, 1) := by decide +kernel
theorem dX5_meant_1 : decode cX5_meant 1 = .ok (.invokestatic 93, 3) := by decide +kernel
theorem dX5_meant_4 : decode cX5_meant 4 = .ok (.iload_n 2, 1) := by decide +kernel
theorem dX5_meant_5 : decode cX5_meant 5 = .ok (.invokestatic 96, 3) := by decide +kernel
theorem dX5_meant_8 : decode cX5_meant 8 = .ok (.iload_n 3, 1) := by decide +kernel
theorem dX5_meant_9 : decode cX5_meant 9 = .ok (.iconst (-1), 1) := by decide +kernel
theorem dX5_meant_10 : decode cX5_meant 10 = .ok (.if_icmp .ge 13, 3) := by decide +kernel
theorem dX5_meant_13 : decode cX5_meant 13 = .ok (.new 34, 3) := by decide +kernel
theorem dX5_meant_16 : decode cX5_meant 16 = .ok (.dup, 1) := by decide +kernel
theorem dX5_meant_17 : decode cX5_meant 17 = .ok (.ldc 233, 2) := by decide +kernel
theorem dX5_meant_19 : decode cX5_meant 19 = .ok (.invokespecial 38, 3) := by decide +kernel
theorem dX5_meant_22 : decode cX5_meant 22 = .ok (.athrow, 1) := by decide +kernel
theorem dX5_meant_23 : decode cX5_meant 23 = .ok (.aload_n 0, 1) := by decide +kernel
theorem dX5_meant_24 : decode cX5_meant 24 = .ok (.getfield 10, 3) := by decide +kernel
theorem dX5_meant_27 : decode cX5_meant 27 = .ok (.iload_n 1, 1) := by decide +kernel
theorem dX5_meant_28 : decode cX5_meant 28 = .ok (.iload_n 2, 1) := by decide +kernel
theorem dX5_meant_29 : decode cX5_meant 29 = .ok (.iload_n 3, 1) := by decide +kernel
theorem dX5_meant_30 : decode cX5_meant 30 = .ok (.invokevirtual 235, 3) := by decide +kernel
theorem dX5_meant_33 : decode cX5_meant 33 = .ok (.ireturn, 1) := by decide +kernel
theorem dX5_slip_0 : decode cX5_slip 0 = .ok (.iload_n 1, 1) := by decide +kernel
theorem dX5_slip_1 : decode cX5_slip 1 = .ok (.invokestatic 93, 3) := by decide +kernel
theorem dX5_slip_4 : decode cX5_slip 4 = .ok (.iload_n 2, 1) := by decide +kernel
theorem dX5_slip_5 : decode cX5_slip 5 = .ok (.invokestatic 93, 3) := by decide +kernel
theorem dX5_slip_8 : decode cX5_slip 8 = .ok (.iload_n 3, 1) := by decide +kernel
theorem dX5_slip_9 : decode cX5_slip 9 = .ok (.invokestatic 96, 3) := by decide +kernel
theorem dX5_slip_12 : decode cX5_slip 12 = .ok (.aload_n 0, 1) := by decide +kernel
theorem dX5_slip_13 : decode cX5_slip 13 = .ok (.getfield 10, 3) := by decide +kernel
theorem dX5_slip_16 : decode cX5_slip 16 = .ok (.getfield 45, 3) := by decide +kernel
theorem dX5_slip_19 : decode cX5_slip 19 = .ok (.iload_n 1, 1) := by decide +kernel
theorem dX5_slip_20 : decode cX5_slip 20 = .ok (.iload_n 2, 1) := by decide +kernel
theorem dX5_slip_21 : decode cX5_slip 21 = .ok (.iload_n 3, 1) := by decide +kernel
theorem dX5_slip_22 : decode cX5_slip 22 = .ok (.invokevirtual 239, 3) := by decide +kernel
theorem dX5_slip_25 : decode cX5_slip 25 = .ok (.ireturn, 1) := by decide +kernel
theorem dX5_cashed_0 : decode cX5_cashed 0 = .ok (.aload_n 0, 1) := by decide +kernel
theorem dX5_cashed_1 : decode cX5_cashed 1 = .ok (.getfield 10, 3) := by decide +kernel
theorem dX5_cashed_4 : decode cX5_cashed 4 = .ok (.getfield 72, 3) := by decide +kernel
theorem dX5_cashed_7 : decode cX5_cashed 7 = .ok (.iconst 1, 1) := by decide +kernel
theorem dX5_cashed_8 : decode cX5_cashed 8 = .ok (.invokevirtual 194, 3) := by decide +kernel
theorem dX5_cashed_11 : decode cX5_cashed 11 = .ok (.istore_n 1, 1) := by decide +kernel
theorem dX5_cashed_12 : decode cX5_cashed 12 = .ok (.iload_n 1, 1) := by decide +kernel
theorem dX5_cashed_13 : decode cX5_cashed 13 = .ok (.iconst 1, 1) := by decide +kernel
theorem dX5_cashed_14 : decode cX5_cashed 14 = .ok (.if_icmp .ge 5, 3) := by decide +kernel
theorem dX5_cashed_17 : decode cX5_cashed 17 = .ok (.dconst 0, 1) := by decide +kernel
theorem dX5_cashed_18 : decode cX5_cashed 18 = .ok (.dreturn, 1) := by decide +kernel
theorem dX5_cashed_19 : decode cX5_cashed 19 = .ok (.aload_n 0, 1) := by decide +kernel
theorem dX5_cashed_20 : decode cX5_cashed 20 = .ok (.getfield 10, 3) := by decide +kernel
theorem dX5_cashed_23 : decode cX5_cashed 23 = .ok (.getfield 72, 3) := by decide +kernel
theorem dX5_cashed_26 : decode cX5_cashed 26 = .ok (.iconst 4, 1) := by decide +kernel
theorem dX5_cashed_27 : decode cX5_cashed 27 = .ok (.invokevirtual 194, 3) := by decide +kernel
theorem dX5_cashed_30 : decode cX5_cashed 30 = .ok (.i2d, 1) := by decide +kernel
theorem dX5_cashed_31 : decode cX5_cashed 31 = .ok (.iload_n 1, 1) := by decide +kernel
theorem dX5_cashed_32 : decode cX5_cashed 32 = .ok (.i2d, 1) := by decide +kernel
theorem dX5_cashed_33 : decode cX5_cashed 33 = .ok (.ddiv, 1) := by decide +kernel
theorem dX5_cashed_34 : decode cX5_cashed 34 = .ok (.dreturn, 1) := by decide +kernel
theorem dX5_throwIfNoPosition_0 : decode cX5_throwIfNoPosition 0 = .ok (.iload_n 0, 1) := by decide +kernel
theorem dX5_throwIfNoPosition_1 : decode cX5_throwIfNoPosition 1 = .ok (.ifCond .lt 9, 3) := by decide +kernel
theorem dX5_throwIfNoPosition_4 : decode cX5_throwIfNoPosition 4 = .ok (.iload_n 0, 1) := by decide +kernel
theorem dX5_throwIfNoPosition_5 : decode cX5_throwIfNoPosition 5 = .ok (.bipush 6, 2) := by decide +kernel
theorem dX5_throwIfNoPosition_7 : decode cX5_throwIfNoPosition 7 = .ok (.if_icmp .lt 13, 3) := by decide +kernel
theorem dX5_throwIfNoPosition_10 : decode cX5_throwIfNoPosition 10 = .ok (.new 163, 3) := by decide +kernel
theorem dX5_throwIfNoPosition_13 : decode cX5_throwIfNoPosition 13 = .ok (.dup, 1) := by decide +kernel
theorem dX5_throwIfNoPosition_14 : decode cX5_throwIfNoPosition 14 = .ok (.ldc 214, 2) := by decide +kernel
theorem dX5_throwIfNoPosition_16 : decode cX5_throwIfNoPosition 16 = .ok (.invokespecial 167, 3) := by decide +kernel
theorem dX5_throwIfNoPosition_19 : decode cX5_throwIfNoPosition 19 = .ok (.athrow, 1) := by decide +kernel
theorem dX5_throwIfNoPosition_20 : decode cX5_throwIfNoPosition 20 = .ok (.return_, 1) := by decide +kernel
theorem dX5_throwIfNoSerial_0 : decode cX5_throwIfNoSerial 0 = .ok (.iload_n 0, 1) := by decide +kernel
theorem dX5_throwIfNoSerial_1 : decode cX5_throwIfNoSerial 1 = .ok (.invokestatic 242, 3) := by decide +kernel
theorem dX5_throwIfNoSerial_4 : decode cX5_throwIfNoSerial 4 = .ok (.ifCond .ne 13, 3) := by decide +kernel
theorem dX5_throwIfNoSerial_7 : decode cX5_throwIfNoSerial 7 = .ok (.new 163, 3) := by decide +kernel
theorem dX5_throwIfNoSerial_10 : decode cX5_throwIfNoSerial 10 = .ok (.dup, 1) := by decide +kernel
theorem dX5_throwIfNoSerial_11 : decode cX5_throwIfNoSerial 11 = .ok (.ldc 245, 2) := by decide +kernel
theorem dX5_throwIfNoSerial_13 : decode cX5_throwIfNoSerial 13 = .ok (.invokespecial 167, 3) := by decide +kernel
theorem dX5_throwIfNoSerial_16 : decode cX5_throwIfNoSerial 16 = .ok (.athrow, 1) := by decide +kernel
theorem dX5_throwIfNoSerial_17 : decode cX5_throwIfNoSerial 17 = .ok (.return_, 1) := by decide +kernel
theorem dX5_throwIfNoLetter_0 : decode cX5_throwIfNoLetter 0 = .ok (.iload_n 0, 1) := by decide +kernel
theorem dX5_throwIfNoLetter_1 : decode cX5_throwIfNoLetter 1 = .ok (.ifCond .lt 9, 3) := by decide +kernel
theorem dX5_throwIfNoLetter_4 : decode cX5_throwIfNoLetter 4 = .ok (.iload_n 0, 1) := by decide +kernel
theorem dX5_throwIfNoLetter_5 : decode cX5_throwIfNoLetter 5 = .ok (.bipush 26, 2) := by decide +kernel
theorem dX5_throwIfNoLetter_7 : decode cX5_throwIfNoLetter 7 = .ok (.if_icmp .lt 13, 3) := by decide +kernel
theorem dX5_throwIfNoLetter_10 : decode cX5_throwIfNoLetter 10 = .ok (.new 34, 3) := by decide +kernel
theorem dX5_throwIfNoLetter_13 : decode cX5_throwIfNoLetter 13 = .ok (.dup, 1) := by decide +kernel
theorem dX5_throwIfNoLetter_14 : decode cX5_throwIfNoLetter 14 = .ok (.ldc 247, 2) := by decide +kernel
theorem dX5_throwIfNoLetter_16 : decode cX5_throwIfNoLetter 16 = .ok (.invokespecial 38, 3) := by decide +kernel
theorem dX5_throwIfNoLetter_19 : decode cX5_throwIfNoLetter 19 = .ok (.athrow, 1) := by decide +kernel
theorem dX5_throwIfNoLetter_20 : decode cX5_throwIfNoLetter 20 = .ok (.return_, 1) := by decide +kernel
theorem dX5_throwIfNoSlipKind_0 : decode cX5_throwIfNoSlipKind 0 = .ok (.iload_n 0, 1) := by decide +kernel
theorem dX5_throwIfNoSlipKind_1 : decode cX5_throwIfNoSlipKind 1 = .ok (.ifCond .lt 8, 3) := by decide +kernel
theorem dX5_throwIfNoSlipKind_4 : decode cX5_throwIfNoSlipKind 4 = .ok (.iload_n 0, 1) := by decide +kernel
theorem dX5_throwIfNoSlipKind_5 : decode cX5_throwIfNoSlipKind 5 = .ok (.iconst 2, 1) := by decide +kernel
theorem dX5_throwIfNoSlipKind_6 : decode cX5_throwIfNoSlipKind 6 = .ok (.if_icmp .le 13, 3) := by decide +kernel
theorem dX5_throwIfNoSlipKind_9 : decode cX5_throwIfNoSlipKind 9 = .ok (.new 34, 3) := by decide +kernel
theorem dX5_throwIfNoSlipKind_12 : decode cX5_throwIfNoSlipKind 12 = .ok (.dup, 1) := by decide +kernel
theorem dX5_throwIfNoSlipKind_13 : decode cX5_throwIfNoSlipKind 13 = .ok (.ldc 249, 2) := by decide +kernel
theorem dX5_throwIfNoSlipKind_15 : decode cX5_throwIfNoSlipKind 15 = .ok (.invokespecial 38, 3) := by decide +kernel
theorem dX5_throwIfNoSlipKind_18 : decode cX5_throwIfNoSlipKind 18 = .ok (.athrow, 1) := by decide +kernel
theorem dX5_throwIfNoSlipKind_19 : decode cX5_throwIfNoSlipKind 19 = .ok (.return_, 1) := by decide +kernel
theorem dX5_throwIfNoSlot_0 : decode cX5_throwIfNoSlot 0 = .ok (.iload_n 0, 1) := by decide +kernel
theorem dX5_throwIfNoSlot_1 : decode cX5_throwIfNoSlot 1 = .ok (.ifCond .lt 8, 3) := by decide +kernel
theorem dX5_throwIfNoSlot_4 : decode cX5_throwIfNoSlot 4 = .ok (.iload_n 0, 1) := by decide +kernel
theorem dX5_throwIfNoSlot_5 : decode cX5_throwIfNoSlot 5 = .ok (.iconst 2, 1) := by decide +kernel
theorem dX5_throwIfNoSlot_6 : decode cX5_throwIfNoSlot 6 = .ok (.if_icmp .lt 13, 3) := by decide +kernel
theorem dX5_throwIfNoSlot_9 : decode cX5_throwIfNoSlot 9 = .ok (.new 34, 3) := by decide +kernel
theorem dX5_throwIfNoSlot_12 : decode cX5_throwIfNoSlot 12 = .ok (.dup, 1) := by decide +kernel
theorem dX5_throwIfNoSlot_13 : decode cX5_throwIfNoSlot 13 = .ok (.ldc 251, 2) := by decide +kernel
theorem dX5_throwIfNoSlot_15 : decode cX5_throwIfNoSlot 15 = .ok (.invokespecial 38, 3) := by decide +kernel
theorem dX5_throwIfNoSlot_18 : decode cX5_throwIfNoSlot 18 = .ok (.athrow, 1) := by decide +kernel
theorem dX5_throwIfNoSlot_19 : decode cX5_throwIfNoSlot 19 = .ok (.return_, 1) := by decide +kernel
theorem dX5_throwIfFaulty_0 : decode cX5_throwIfFaulty 0 = .ok (.iload_n 0, 1) := by decide +kernel
theorem dX5_throwIfFaulty_1 : decode cX5_throwIfFaulty 1 = .ok (.iconst 1, 1) := by decide +kernel
theorem dX5_throwIfFaulty_2 : decode cX5_throwIfFaulty 2 = .ok (.if_icmp .ne 13, 3) := by decide +kernel
theorem dX5_throwIfFaulty_5 : decode cX5_throwIfFaulty 5 = .ok (.new 163, 3) := by decide +kernel
theorem dX5_throwIfFaulty_8 : decode cX5_throwIfFaulty 8 = .ok (.dup, 1) := by decide +kernel
theorem dX5_throwIfFaulty_9 : decode cX5_throwIfFaulty 9 = .ok (.ldc 253, 2) := by decide +kernel
theorem dX5_throwIfFaulty_11 : decode cX5_throwIfFaulty 11 = .ok (.invokespecial 167, 3) := by decide +kernel
theorem dX5_throwIfFaulty_14 : decode cX5_throwIfFaulty 14 = .ok (.athrow, 1) := by decide +kernel
theorem dX5_throwIfFaulty_15 : decode cX5_throwIfFaulty 15 = .ok (.iload_n 0, 1) := by decide +kernel
theorem dX5_throwIfFaulty_16 : decode cX5_throwIfFaulty 16 = .ok (.iconst 2, 1) := by decide +kernel
theorem dX5_throwIfFaulty_17 : decode cX5_throwIfFaulty 17 = .ok (.if_icmp .ne 13, 3) := by decide +kernel
theorem dX5_throwIfFaulty_20 : decode cX5_throwIfFaulty 20 = .ok (.new 34, 3) := by decide +kernel
theorem dX5_throwIfFaulty_23 : decode cX5_throwIfFaulty 23 = .ok (.dup, 1) := by decide +kernel
theorem dX5_throwIfFaulty_24 : decode cX5_throwIfFaulty 24 = .ok (.ldc 255, 2) := by decide +kernel
theorem dX5_throwIfFaulty_26 : decode cX5_throwIfFaulty 26 = .ok (.invokespecial 38, 3) := by decide +kernel
theorem dX5_throwIfFaulty_29 : decode cX5_throwIfFaulty 29 = .ok (.athrow, 1) := by decide +kernel
theorem dX5_throwIfFaulty_30 : decode cX5_throwIfFaulty 30 = .ok (.iload_n 0, 1) := by decide +kernel
theorem dX5_throwIfFaulty_31 : decode cX5_throwIfFaulty 31 = .ok (.iconst 3, 1) := by decide +kernel
theorem dX5_throwIfFaulty_32 : decode cX5_throwIfFaulty 32 = .ok (.if_icmp .ne 14, 3) := by decide +kernel
theorem dX5_throwIfFaulty_35 : decode cX5_throwIfFaulty 35 = .ok (.new 114, 3) := by decide +kernel
theorem dX5_throwIfFaulty_38 : decode cX5_throwIfFaulty 38 = .ok (.dup, 1) := by decide +kernel
theorem dX5_throwIfFaulty_39 : decode cX5_throwIfFaulty 39 = .ok (.ldc_w 257, 3) := by decide +kernel
theorem dX5_throwIfFaulty_42 : decode cX5_throwIfFaulty 42 = .ok (.invokespecial 118, 3) := by decide +kernel
theorem dX5_throwIfFaulty_45 : decode cX5_throwIfFaulty 45 = .ok (.athrow, 1) := by decide +kernel
theorem dX5_throwIfFaulty_46 : decode cX5_throwIfFaulty 46 = .ok (.return_, 1) := by decide +kernel
theorem dX5_isSerial_0 : decode cX5_isSerial 0 = .ok (.iload_n 0, 1) := by decide +kernel
theorem dX5_isSerial_1 : decode cX5_isSerial 1 = .ok (.ifCond .lt 14, 3) := by decide +kernel
theorem dX5_isSerial_4 : decode cX5_isSerial 4 = .ok (.iload_n 0, 1) := by decide +kernel
theorem dX5_isSerial_5 : decode cX5_isSerial 5 = .ok (.ldc_w 259, 3) := by decide +kernel
theorem dX5_isSerial_8 : decode cX5_isSerial 8 = .ok (.if_icmp .ge 7, 3) := by decide +kernel
theorem dX5_isSerial_11 : decode cX5_isSerial 11 = .ok (.iconst 1, 1) := by decide +kernel
theorem dX5_isSerial_12 : decode cX5_isSerial 12 = .ok (.goto 4, 3) := by decide +kernel
theorem dX5_isSerial_15 : decode cX5_isSerial 15 = .ok (.iconst 0, 1) := by decide +kernel
theorem dX5_isSerial_16 : decode cX5_isSerial 16 = .ok (.ireturn, 1) := by decide +kernel
theorem dX5_positionsOf_0 : decode cX5_positionsOf 0 = .ok (.iload_n 0, 1) := by decide +kernel
theorem dX5_positionsOf_1 : decode cX5_positionsOf 1 = .ok (.iconst 1, 1) := by decide +kernel
theorem dX5_positionsOf_2 : decode cX5_positionsOf 2 = .ok (.if_icmp .ne 7, 3) := by decide +kernel
theorem dX5_positionsOf_5 : decode cX5_positionsOf 5 = .ok (.iconst 5, 1) := by decide +kernel
theorem dX5_positionsOf_6 : decode cX5_positionsOf 6 = .ok (.goto 5, 3) := by decide +kernel
theorem dX5_positionsOf_9 : decode cX5_positionsOf 9 = .ok (.bipush 6, 2) := by decide +kernel
theorem dX5_positionsOf_11 : decode cX5_positionsOf 11 = .ok (.ireturn, 1) := by decide +kernel
theorem dX5_faultOfBook_0 : decode cX5_faultOfBook 0 = .ok (.iload_n 1, 1) := by decide +kernel
theorem dX5_faultOfBook_1 : decode cX5_faultOfBook 1 = .ok (.invokestatic 242, 3) := by decide +kernel
theorem dX5_faultOfBook_4 : decode cX5_faultOfBook 4 = .ok (.ifCond .ne 5, 3) := by decide +kernel
theorem dX5_faultOfBook_7 : decode cX5_faultOfBook 7 = .ok (.iconst 1, 1) := by decide +kernel
theorem dX5_faultOfBook_8 : decode cX5_faultOfBook 8 = .ok (.ireturn, 1) := by decide +kernel
theorem dX5_faultOfBook_9 : decode cX5_faultOfBook 9 = .ok (.iload_n 2, 1) := by decide +kernel
theorem dX5_faultOfBook_10 : decode cX5_faultOfBook 10 = .ok (.iconst 1, 1) := by decide +kernel
theorem dX5_faultOfBook_11 : decode cX5_faultOfBook 11 = .ok (.if_icmp .lt 9, 3) := by decide +kernel
theorem dX5_faultOfBook_14 : decode cX5_faultOfBook 14 = .ok (.iload_n 2, 1) := by decide +kernel
theorem dX5_faultOfBook_15 : decode cX5_faultOfBook 15 = .ok (.bipush 40, 2) := by decide +kernel
theorem dX5_faultOfBook_17 : decode cX5_faultOfBook 17 = .ok (.if_icmp .le 5, 3) := by decide +kernel
theorem dX5_faultOfBook_20 : decode cX5_faultOfBook 20 = .ok (.iconst 2, 1) := by decide +kernel
theorem dX5_faultOfBook_21 : decode cX5_faultOfBook 21 = .ok (.ireturn, 1) := by decide +kernel
theorem dX5_faultOfBook_22 : decode cX5_faultOfBook 22 = .ok (.iload_n 1, 1) := by decide +kernel
theorem dX5_faultOfBook_23 : decode cX5_faultOfBook 23 = .ok (.iload_n 2, 1) := by decide +kernel
theorem dX5_faultOfBook_24 : decode cX5_faultOfBook 24 = .ok (.iadd, 1) := by decide +kernel
theorem dX5_faultOfBook_25 : decode cX5_faultOfBook 25 = .ok (.iconst 1, 1) := by decide +kernel
theorem dX5_faultOfBook_26 : decode cX5_faultOfBook 26 = .ok (.isub, 1) := by decide +kernel
theorem dX5_faultOfBook_27 : decode cX5_faultOfBook 27 = .ok (.invokestatic 242, 3) := by decide +kernel
theorem dX5_faultOfBook_30 : decode cX5_faultOfBook 30 = .ok (.ifCond .ne 5, 3) := by decide +kernel
theorem dX5_faultOfBook_33 : decode cX5_faultOfBook 33 = .ok (.iconst 1, 1) := by decide +kernel
theorem dX5_faultOfBook_34 : decode cX5_faultOfBook 34 = .ok (.ireturn, 1) := by decide +kernel
theorem dX5_faultOfBook_35 : decode cX5_faultOfBook 35 = .ok (.aload_n 0, 1) := by decide +kernel
theorem dX5_faultOfBook_36 : decode cX5_faultOfBook 36 = .ok (.getfield 10, 3) := by decide +kernel
theorem dX5_faultOfBook_39 : decode cX5_faultOfBook 39 = .ok (.getfield 72, 3) := by decide +kernel
theorem dX5_faultOfBook_42 : decode cX5_faultOfBook 42 = .ok (.iload_n 1, 1) := by decide +kernel
theorem dX5_faultOfBook_43 : decode cX5_faultOfBook 43 = .ok (.iload_n 2, 1) := by decide +kernel
theorem dX5_faultOfBook_44 : decode cX5_faultOfBook 44 = .ok (.invokevirtual 260, 3) := by decide +kernel
theorem dX5_faultOfBook_47 : decode cX5_faultOfBook 47 = .ok (.ifCond .eq 7, 3) := by decide +kernel
theorem dX5_faultOfBook_50 : decode cX5_faultOfBook 50 = .ok (.iconst 0, 1) := by decide +kernel
theorem dX5_faultOfBook_51 : decode cX5_faultOfBook 51 = .ok (.goto 4, 3) := by decide +kernel
theorem dX5_faultOfBook_54 : decode cX5_faultOfBook 54 = .ok (.iconst 3, 1) := by decide +kernel
theorem dX5_faultOfBook_55 : decode cX5_faultOfBook 55 = .ok (.ireturn, 1) := by decide +kernel
theorem dX5_faultOfWriting_0 : decode cX5_faultOfWriting 0 = .ok (.aload_n 0, 1) := by decide +kernel
theorem dX5_faultOfWriting_1 : decode cX5_faultOfWriting 1 = .ok (.getfield 10, 3) := by decide +kernel
theorem dX5_faultOfWriting_4 : decode cX5_faultOfWriting 4 = .ok (.getfield 72, 3) := by decide +kernel
theorem dX5_faultOfWriting_7 : decode cX5_faultOfWriting 7 = .ok (.iload_n 1, 1) := by decide +kernel
theorem dX5_faultOfWriting_8 : decode cX5_faultOfWriting 8 = .ok (.invokevirtual 84, 3) := by decide +kernel
theorem dX5_faultOfWriting_11 : decode cX5_faultOfWriting 11 = .ok (.istore_n 3, 1) := by decide +kernel
theorem dX5_faultOfWriting_12 : decode cX5_faultOfWriting 12 = .ok (.iload_n 3, 1) := by decide +kernel
theorem dX5_faultOfWriting_13 : decode cX5_faultOfWriting 13 = .ok (.iconst (-1), 1) := by decide +kernel
theorem dX5_faultOfWriting_14 : decode cX5_faultOfWriting 14 = .ok (.if_icmp .ne 5, 3) := by decide +kernel
theorem dX5_faultOfWriting_17 : decode cX5_faultOfWriting 17 = .ok (.iconst 1, 1) := by decide +kernel
theorem dX5_faultOfWriting_18 : decode cX5_faultOfWriting 18 = .ok (.ireturn, 1) := by decide +kernel
theorem dX5_faultOfWriting_19 : decode cX5_faultOfWriting 19 = .ok (.iload_n 2, 1) := by decide +kernel
theorem dX5_faultOfWriting_20 : decode cX5_faultOfWriting 20 = .ok (.iconst 1, 1) := by decide +kernel
theorem dX5_faultOfWriting_21 : decode cX5_faultOfWriting 21 = .ok (.if_icmp .lt 10, 3) := by decide +kernel
theorem dX5_faultOfWriting_24 : decode cX5_faultOfWriting 24 = .ok (.iload_n 2, 1) := by decide +kernel
theorem dX5_faultOfWriting_25 : decode cX5_faultOfWriting 25 = .ok (.sipush 999, 3) := by decide +kernel
theorem dX5_faultOfWriting_28 : decode cX5_faultOfWriting 28 = .ok (.if_icmp .le 5, 3) := by decide +kernel
theorem dX5_faultOfWriting_31 : decode cX5_faultOfWriting 31 = .ok (.iconst 2, 1) := by decide +kernel
theorem dX5_faultOfWriting_32 : decode cX5_faultOfWriting 32 = .ok (.ireturn, 1) := by decide +kernel
theorem dX5_faultOfWriting_33 : decode cX5_faultOfWriting 33 = .ok (.aload_n 0, 1) := by decide +kernel
theorem dX5_faultOfWriting_34 : decode cX5_faultOfWriting 34 = .ok (.getfield 10, 3) := by decide +kernel
theorem dX5_faultOfWriting_37 : decode cX5_faultOfWriting 37 = .ok (.getfield 72, 3) := by decide +kernel
theorem dX5_faultOfWriting_40 : decode cX5_faultOfWriting 40 = .ok (.iload_n 3, 1) := by decide +kernel
theorem dX5_faultOfWriting_41 : decode cX5_faultOfWriting 41 = .ok (.invokevirtual 168, 3) := by decide +kernel
theorem dX5_faultOfWriting_44 : decode cX5_faultOfWriting 44 = .ok (.ifCond .ne 7, 3) := by decide +kernel
theorem dX5_faultOfWriting_47 : decode cX5_faultOfWriting 47 = .ok (.iconst 0, 1) := by decide +kernel
theorem dX5_faultOfWriting_48 : decode cX5_faultOfWriting 48 = .ok (.goto 4, 3) := by decide +kernel
theorem dX5_faultOfWriting_51 : decode cX5_faultOfWriting 51 = .ok (.iconst 3, 1) := by decide +kernel
theorem dX5_faultOfWriting_52 : decode cX5_faultOfWriting 52 = .ok (.ireturn, 1) := by decide +kernel
theorem dX5_faultOfRun_0 : decode cX5_faultOfRun 0 = .ok (.iload_n 0, 1) := by decide +kernel
theorem dX5_faultOfRun_1 : decode cX5_faultOfRun 1 = .ok (.invokestatic 242, 3) := by decide +kernel
theorem dX5_faultOfRun_4 : decode cX5_faultOfRun 4 = .ok (.ifCond .eq 10, 3) := by decide +kernel
theorem dX5_faultOfRun_7 : decode cX5_faultOfRun 7 = .ok (.iload_n 1, 1) := by decide +kernel
theorem dX5_faultOfRun_8 : decode cX5_faultOfRun 8 = .ok (.invokestatic 242, 3) := by decide +kernel
theorem dX5_faultOfRun_11 : decode cX5_faultOfRun 11 = .ok (.ifCond .ne 5, 3) := by decide +kernel
theorem dX5_faultOfRun_14 : decode cX5_faultOfRun 14 = .ok (.iconst 1, 1) := by decide +kernel
theorem dX5_faultOfRun_15 : decode cX5_faultOfRun 15 = .ok (.ireturn, 1) := by decide +kernel
theorem dX5_faultOfRun_16 : decode cX5_faultOfRun 16 = .ok (.iload_n 1, 1) := by decide +kernel
theorem dX5_faultOfRun_17 : decode cX5_faultOfRun 17 = .ok (.iload_n 0, 1) := by decide +kernel
theorem dX5_faultOfRun_18 : decode cX5_faultOfRun 18 = .ok (.if_icmp .ge 7, 3) := by decide +kernel
theorem dX5_faultOfRun_21 : decode cX5_faultOfRun 21 = .ok (.iconst 2, 1) := by decide +kernel
theorem dX5_faultOfRun_22 : decode cX5_faultOfRun 22 = .ok (.goto 4, 3) := by decide +kernel
theorem dX5_faultOfRun_25 : decode cX5_faultOfRun 25 = .ok (.iconst 0, 1) := by decide +kernel
theorem dX5_faultOfRun_26 : decode cX5_faultOfRun 26 = .ok (.ireturn, 1) := by decide +kernel
theorem dX5_runOrders_0 : decode cX5_runOrders 0 = .ok (.iconst 0, 1) := by decide +kernel
theorem dX5_runOrders_1 : decode cX5_runOrders 1 = .ok (.istore_n 1, 1) := by decide +kernel
theorem dX5_runOrders_2 : decode cX5_runOrders 2 = .ok (.iconst 0, 1) := by decide +kernel
theorem dX5_runOrders_3 : decode cX5_runOrders 3 = .ok (.istore_n 2, 1) := by decide +kernel
theorem dX5_runOrders_4 : decode cX5_runOrders 4 = .ok (.aload_n 0, 1) := by decide +kernel
theorem dX5_runOrders_5 : decode cX5_runOrders 5 = .ok (.getfield 26, 3) := by decide +kernel
theorem dX5_runOrders_8 : decode cX5_runOrders 8 = .ok (.getfield 191, 3) := by decide +kernel
theorem dX5_runOrders_11 : decode cX5_runOrders 11 = .ok (.istore_n 3, 1) := by decide +kernel
theorem dX5_runOrders_12 : decode cX5_runOrders 12 = .ok (.iconst 0, 1) := by decide +kernel
theorem dX5_runOrders_13 : decode cX5_runOrders 13 = .ok (.istore 4, 2) := by decide +kernel
theorem dX5_runOrders_15 : decode cX5_runOrders 15 = .ok (.iload 4, 2) := by decide +kernel
theorem dX5_runOrders_17 : decode cX5_runOrders 17 = .ok (.iload_n 3, 1) := by decide +kernel
theorem dX5_runOrders_18 : decode cX5_runOrders 18 = .ok (.if_icmp .gt 49, 3) := by decide +kernel
theorem dX5_runOrders_21 : decode cX5_runOrders 21 = .ok (.iload 4, 2) := by decide +kernel
theorem dX5_runOrders_23 : decode cX5_runOrders 23 = .ok (.iload_n 3, 1) := by decide +kernel
theorem dX5_runOrders_24 : decode cX5_runOrders 24 = .ok (.if_icmp .eq 17, 3) := by decide +kernel
theorem dX5_runOrders_27 : decode cX5_runOrders 27 = .ok (.aload_n 0, 1) := by decide +kernel
theorem dX5_runOrders_28 : decode cX5_runOrders 28 = .ok (.getfield 26, 3) := by decide +kernel
theorem dX5_runOrders_31 : decode cX5_runOrders 31 = .ok (.iload 4, 2) := by decide +kernel
theorem dX5_runOrders_33 : decode cX5_runOrders 33 = .ok (.invokevirtual 264, 3) := by decide +kernel
theorem dX5_runOrders_36 : decode cX5_runOrders 36 = .ok (.bipush 59, 2) := by decide +kernel
theorem dX5_runOrders_38 : decode cX5_runOrders 38 = .ok (.if_icmp .ne 23, 3) := by decide +kernel
theorem dX5_runOrders_41 : decode cX5_runOrders 41 = .ok (.aload_n 0, 1) := by decide +kernel
theorem dX5_runOrders_42 : decode cX5_runOrders 42 = .ok (.iload_n 2, 1) := by decide +kernel
theorem dX5_runOrders_43 : decode cX5_runOrders 43 = .ok (.iload 4, 2) := by decide +kernel
theorem dX5_runOrders_45 : decode cX5_runOrders 45 = .ok (.invokevirtual 267, 3) := by decide +kernel
theorem dX5_runOrders_48 : decode cX5_runOrders 48 = .ok (.ifCond .ne 5, 3) := by decide +kernel
theorem dX5_runOrders_51 : decode cX5_runOrders 51 = .ok (.iload_n 1, 1) := by decide +kernel
theorem dX5_runOrders_52 : decode cX5_runOrders 52 = .ok (.ireturn, 1) := by decide +kernel
theorem dX5_runOrders_53 : decode cX5_runOrders 53 = .ok (.iinc 1 1, 3) := by decide +kernel
theorem dX5_runOrders_56 : decode cX5_runOrders 56 = .ok (.iload 4, 2) := by decide +kernel
theorem dX5_runOrders_58 : decode cX5_runOrders 58 = .ok (.iconst 1, 1) := by decide +kernel
theorem dX5_runOrders_59 : decode cX5_runOrders 59 = .ok (.iadd, 1) := by decide +kernel
theorem dX5_runOrders_60 : decode cX5_runOrders 60 = .ok (.istore_n 2, 1) := by decide +kernel
theorem dX5_runOrders_61 : decode cX5_runOrders 61 = .ok (.iinc 4 1, 3) := by decide +kernel
theorem dX5_runOrders_64 : decode cX5_runOrders 64 = .ok (.goto (-49), 3) := by decide +kernel
theorem dX5_runOrders_67 : decode cX5_runOrders 67 = .ok (.iload_n 1, 1) := by decide +kernel
theorem dX5_runOrders_68 : decode cX5_runOrders 68 = .ok (.ireturn, 1) := by decide +kernel
theorem dX5_runOrder_0 : decode cX5_runOrder 0 = .ok (.aload_n 0, 1) := by decide +kernel
theorem dX5_runOrder_1 : decode cX5_runOrder 1 = .ok (.getfield 26, 3) := by decide +kernel
theorem dX5_runOrder_4 : decode cX5_runOrder 4 = .ok (.iload_n 1, 1) := by decide +kernel
theorem dX5_runOrder_5 : decode cX5_runOrder 5 = .ok (.iconst 1, 1) := by decide +kernel
theorem dX5_runOrder_6 : decode cX5_runOrder 6 = .ok (.iadd, 1) := by decide +kernel
theorem dX5_runOrder_7 : decode cX5_runOrder 7 = .ok (.iload_n 1, 1) := by decide +kernel
theorem dX5_runOrder_8 : decode cX5_runOrder 8 = .ok (.iconst 1, 1) := by decide +kernel
theorem dX5_runOrder_9 : decode cX5_runOrder 9 = .ok (.iadd, 1) := by decide +kernel
theorem dX5_runOrder_10 : decode cX5_runOrder 10 = .ok (.bipush 6, 2) := by decide +kernel
theorem dX5_runOrder_12 : decode cX5_runOrder 12 = .ok (.iadd, 1) := by decide +kernel
theorem dX5_runOrder_13 : decode cX5_runOrder 13 = .ok (.invokevirtual 270, 3) := by decide +kernel
theorem dX5_runOrder_16 : decode cX5_runOrder 16 = .ok (.istore_n 3, 1) := by decide +kernel
theorem dX5_runOrder_17 : decode cX5_runOrder 17 = .ok (.aload_n 0, 1) := by decide +kernel
theorem dX5_runOrder_18 : decode cX5_runOrder 18 = .ok (.getfield 26, 3) := by decide +kernel
theorem dX5_runOrder_21 : decode cX5_runOrder 21 = .ok (.iload_n 1, 1) := by decide +kernel
theorem dX5_runOrder_22 : decode cX5_runOrder 22 = .ok (.bipush 8, 2) := by decide +kernel
theorem dX5_runOrder_24 : decode cX5_runOrder 24 = .ok (.iadd, 1) := by decide +kernel
theorem dX5_runOrder_25 : decode cX5_runOrder 25 = .ok (.iload_n 2, 1) := by decide +kernel
theorem dX5_runOrder_26 : decode cX5_runOrder 26 = .ok (.invokevirtual 270, 3) := by decide +kernel
theorem dX5_runOrder_29 : decode cX5_runOrder 29 = .ok (.istore 4, 2) := by decide +kernel
theorem dX5_runOrder_31 : decode cX5_runOrder 31 = .ok (.aload_n 0, 1) := by decide +kernel
theorem dX5_runOrder_32 : decode cX5_runOrder 32 = .ok (.getfield 26, 3) := by decide +kernel
theorem dX5_runOrder_35 : decode cX5_runOrder 35 = .ok (.iload_n 1, 1) := by decide +kernel
theorem dX5_runOrder_36 : decode cX5_runOrder 36 = .ok (.invokevirtual 264, 3) := by decide +kernel
theorem dX5_runOrder_39 : decode cX5_runOrder 39 = .ok (.lookupswitch 95 #[(98, 41), (99, 57), (118, 87), (119, 49)], 41) := by decide +kernel
theorem dX5_runOrder_80 : decode cX5_runOrder 80 = .ok (.aload_n 0, 1) := by decide +kernel
theorem dX5_runOrder_81 : decode cX5_runOrder 81 = .ok (.iload_n 3, 1) := by decide +kernel
theorem dX5_runOrder_82 : decode cX5_runOrder 82 = .ok (.iload 4, 2) := by decide +kernel
theorem dX5_runOrder_84 : decode cX5_runOrder 84 = .ok (.invokevirtual 273, 3) := by decide +kernel
theorem dX5_runOrder_87 : decode cX5_runOrder 87 = .ok (.ireturn, 1) := by decide +kernel
theorem dX5_runOrder_88 : decode cX5_runOrder 88 = .ok (.aload_n 0, 1) := by decide +kernel
theorem dX5_runOrder_89 : decode cX5_runOrder 89 = .ok (.iload_n 3, 1) := by decide +kernel
theorem dX5_runOrder_90 : decode cX5_runOrder 90 = .ok (.iload 4, 2) := by decide +kernel
theorem dX5_runOrder_92 : decode cX5_runOrder 92 = .ok (.invokevirtual 276, 3) := by decide +kernel
theorem dX5_runOrder_95 : decode cX5_runOrder 95 = .ok (.ireturn, 1) := by decide +kernel
theorem dX5_runOrder_96 : decode cX5_runOrder 96 = .ok (.aload_n 0, 1) := by decide +kernel
theorem dX5_runOrder_97 : decode cX5_runOrder 97 = .ok (.getfield 10, 3) := by decide +kernel
theorem dX5_runOrder_100 : decode cX5_runOrder 100 = .ok (.iload_n 3, 1) := by decide +kernel
theorem dX5_runOrder_101 : decode cX5_runOrder 101 = .ok (.aload_n 0, 1) := by decide +kernel
theorem dX5_runOrder_102 : decode cX5_runOrder 102 = .ok (.getfield 26, 3) := by decide +kernel
theorem dX5_runOrder_105 : decode cX5_runOrder 105 = .ok (.iload_n 2, 1) := by decide +kernel
theorem dX5_runOrder_106 : decode cX5_runOrder 106 = .ok (.iconst 1, 1) := by decide +kernel
theorem dX5_runOrder_107 : decode cX5_runOrder 107 = .ok (.isub, 1) := by decide +kernel
theorem dX5_runOrder_108 : decode cX5_runOrder 108 = .ok (.invokevirtual 264, 3) := by decide +kernel
theorem dX5_runOrder_111 : decode cX5_runOrder 111 = .ok (.bipush 65, 2) := by decide +kernel
theorem dX5_runOrder_113 : decode cX5_runOrder 113 = .ok (.isub, 1) := by decide +kernel
theorem dX5_runOrder_114 : decode cX5_runOrder 114 = .ok (.invokevirtual 99, 3) := by decide +kernel
theorem dX5_runOrder_117 : decode cX5_runOrder 117 = .ok (.ifCond .le 7, 3) := by decide +kernel
theorem dX5_runOrder_120 : decode cX5_runOrder 120 = .ok (.iconst 1, 1) := by decide +kernel
theorem dX5_runOrder_121 : decode cX5_runOrder 121 = .ok (.goto 4, 3) := by decide +kernel
theorem dX5_runOrder_124 : decode cX5_runOrder 124 = .ok (.iconst 0, 1) := by decide +kernel
theorem dX5_runOrder_125 : decode cX5_runOrder 125 = .ok (.ireturn, 1) := by decide +kernel
theorem dX5_runOrder_126 : decode cX5_runOrder 126 = .ok (.aload_n 0, 1) := by decide +kernel
theorem dX5_runOrder_127 : decode cX5_runOrder 127 = .ok (.iload_n 3, 1) := by decide +kernel
theorem dX5_runOrder_128 : decode cX5_runOrder 128 = .ok (.iload 4, 2) := by decide +kernel
theorem dX5_runOrder_130 : decode cX5_runOrder 130 = .ok (.invokevirtual 279, 3) := by decide +kernel
theorem dX5_runOrder_133 : decode cX5_runOrder 133 = .ok (.ireturn, 1) := by decide +kernel
theorem dX5_runOrder_134 : decode cX5_runOrder 134 = .ok (.iconst 0, 1) := by decide +kernel
theorem dX5_runOrder_135 : decode cX5_runOrder 135 = .ok (.ireturn, 1) := by decide +kernel
theorem dX5_runBook_0 : decode cX5_runBook 0 = .ok (.aload_n 0, 1) := by decide +kernel
theorem dX5_runBook_1 : decode cX5_runBook 1 = .ok (.iload_n 1, 1) := by decide +kernel
theorem dX5_runBook_2 : decode cX5_runBook 2 = .ok (.iload_n 2, 1) := by decide +kernel
theorem dX5_runBook_3 : decode cX5_runBook 3 = .ok (.invokevirtual 65, 3) := by decide +kernel
theorem dX5_runBook_6 : decode cX5_runBook 6 = .ok (.ifCond .eq 5, 3) := by decide +kernel
theorem dX5_runBook_9 : decode cX5_runBook 9 = .ok (.iconst 0, 1) := by decide +kernel
theorem dX5_runBook_10 : decode cX5_runBook 10 = .ok (.ireturn, 1) := by decide +kernel
theorem dX5_runBook_11 : decode cX5_runBook 11 = .ok (.aload_n 0, 1) := by decide +kernel
theorem dX5_runBook_12 : decode cX5_runBook 12 = .ok (.getfield 10, 3) := by decide +kernel
theorem dX5_runBook_15 : decode cX5_runBook 15 = .ok (.getfield 72, 3) := by decide +kernel
theorem dX5_runBook_18 : decode cX5_runBook 18 = .ok (.iload_n 1, 1) := by decide +kernel
theorem dX5_runBook_19 : decode cX5_runBook 19 = .ok (.iload_n 2, 1) := by decide +kernel
theorem dX5_runBook_20 : decode cX5_runBook 20 = .ok (.invokevirtual 76, 3) := by decide +kernel
theorem dX5_runBook_23 : decode cX5_runBook 23 = .ok (.pop, 1) := by decide +kernel
theorem dX5_runBook_24 : decode cX5_runBook 24 = .ok (.iconst 1, 1) := by decide +kernel
theorem dX5_runBook_25 : decode cX5_runBook 25 = .ok (.ireturn, 1) := by decide +kernel
theorem dX5_runWriting_0 : decode cX5_runWriting 0 = .ok (.aload_n 0, 1) := by decide +kernel
theorem dX5_runWriting_1 : decode cX5_runWriting 1 = .ok (.iload_n 1, 1) := by decide +kernel
theorem dX5_runWriting_2 : decode cX5_runWriting 2 = .ok (.iload_n 2, 1) := by decide +kernel
theorem dX5_runWriting_3 : decode cX5_runWriting 3 = .ok (.invokevirtual 81, 3) := by decide +kernel
theorem dX5_runWriting_6 : decode cX5_runWriting 6 = .ok (.ifCond .eq 5, 3) := by decide +kernel
theorem dX5_runWriting_9 : decode cX5_runWriting 9 = .ok (.iconst 0, 1) := by decide +kernel
theorem dX5_runWriting_10 : decode cX5_runWriting 10 = .ok (.ireturn, 1) := by decide +kernel
theorem dX5_runWriting_11 : decode cX5_runWriting 11 = .ok (.aload_n 0, 1) := by decide +kernel
theorem dX5_runWriting_12 : decode cX5_runWriting 12 = .ok (.getfield 10, 3) := by decide +kernel
theorem dX5_runWriting_15 : decode cX5_runWriting 15 = .ok (.getfield 72, 3) := by decide +kernel
theorem dX5_runWriting_18 : decode cX5_runWriting 18 = .ok (.aload_n 0, 1) := by decide +kernel
theorem dX5_runWriting_19 : decode cX5_runWriting 19 = .ok (.getfield 10, 3) := by decide +kernel
theorem dX5_runWriting_22 : decode cX5_runWriting 22 = .ok (.getfield 72, 3) := by decide +kernel
theorem dX5_runWriting_25 : decode cX5_runWriting 25 = .ok (.iload_n 1, 1) := by decide +kernel
theorem dX5_runWriting_26 : decode cX5_runWriting 26 = .ok (.invokevirtual 84, 3) := by decide +kernel
theorem dX5_runWriting_29 : decode cX5_runWriting 29 = .ok (.iload_n 2, 1) := by decide +kernel
theorem dX5_runWriting_30 : decode cX5_runWriting 30 = .ok (.invokevirtual 87, 3) := by decide +kernel
theorem dX5_runWriting_33 : decode cX5_runWriting 33 = .ok (.iconst 1, 1) := by decide +kernel
theorem dX5_runWriting_34 : decode cX5_runWriting 34 = .ok (.ireturn, 1) := by decide +kernel
theorem dX5_runVoiding_0 : decode cX5_runVoiding 0 = .ok (.iload_n 1, 1) := by decide +kernel
theorem dX5_runVoiding_1 : decode cX5_runVoiding 1 = .ok (.iload_n 2, 1) := by decide +kernel
theorem dX5_runVoiding_2 : decode cX5_runVoiding 2 = .ok (.invokestatic 102, 3) := by decide +kernel
theorem dX5_runVoiding_5 : decode cX5_runVoiding 5 = .ok (.ifCond .eq 5, 3) := by decide +kernel
theorem dX5_runVoiding_8 : decode cX5_runVoiding 8 = .ok (.iconst 0, 1) := by decide +kernel
theorem dX5_runVoiding_9 : decode cX5_runVoiding 9 = .ok (.ireturn, 1) := by decide +kernel
theorem dX5_runVoiding_10 : decode cX5_runVoiding 10 = .ok (.aload_n 0, 1) := by decide +kernel
theorem dX5_runVoiding_11 : decode cX5_runVoiding 11 = .ok (.getfield 10, 3) := by decide +kernel
theorem dX5_runVoiding_14 : decode cX5_runVoiding 14 = .ok (.getfield 72, 3) := by decide +kernel
theorem dX5_runVoiding_17 : decode cX5_runVoiding 17 = .ok (.iload_n 1, 1) := by decide +kernel
theorem dX5_runVoiding_18 : decode cX5_runVoiding 18 = .ok (.iload_n 2, 1) := by decide +kernel
theorem dX5_runVoiding_19 : decode cX5_runVoiding 19 = .ok (.invokevirtual 105, 3) := by decide +kernel
theorem dX5_runVoiding_22 : decode cX5_runVoiding 22 = .ok (.pop, 1) := by decide +kernel
theorem dX5_runVoiding_23 : decode cX5_runVoiding 23 = .ok (.iconst 1, 1) := by decide +kernel
theorem dX5_runVoiding_24 : decode cX5_runVoiding 24 = .ok (.ireturn, 1) := by decide +kernel
theorem dX5_copyRow_0 : decode cX5_copyRow 0 = .ok (.iconst 0, 1) := by decide +kernel
theorem dX5_copyRow_1 : decode cX5_copyRow 1 = .ok (.istore_n 2, 1) := by decide +kernel
theorem dX5_copyRow_2 : decode cX5_copyRow 2 = .ok (.iload_n 2, 1) := by decide +kernel
theorem dX5_copyRow_3 : decode cX5_copyRow 3 = .ok (.aload_n 1, 1) := by decide +kernel
theorem dX5_copyRow_4 : decode cX5_copyRow 4 = .ok (.arraylength, 1) := by decide +kernel
theorem dX5_copyRow_5 : decode cX5_copyRow 5 = .ok (.if_icmp .ge 21, 3) := by decide +kernel
theorem dX5_copyRow_8 : decode cX5_copyRow 8 = .ok (.iload_n 2, 1) := by decide +kernel
theorem dX5_copyRow_9 : decode cX5_copyRow 9 = .ok (.aload_n 0, 1) := by decide +kernel
theorem dX5_copyRow_10 : decode cX5_copyRow 10 = .ok (.arraylength, 1) := by decide +kernel
theorem dX5_copyRow_11 : decode cX5_copyRow 11 = .ok (.if_icmp .ge 15, 3) := by decide +kernel
theorem dX5_copyRow_14 : decode cX5_copyRow 14 = .ok (.aload_n 1, 1) := by decide +kernel
theorem dX5_copyRow_15 : decode cX5_copyRow 15 = .ok (.iload_n 2, 1) := by decide +kernel
theorem dX5_copyRow_16 : decode cX5_copyRow 16 = .ok (.aload_n 0, 1) := by decide +kernel
theorem dX5_copyRow_17 : decode cX5_copyRow 17 = .ok (.iload_n 2, 1) := by decide +kernel
theorem dX5_copyRow_18 : decode cX5_copyRow 18 = .ok (.iaload, 1) := by decide +kernel
theorem dX5_copyRow_19 : decode cX5_copyRow 19 = .ok (.iastore, 1) := by decide +kernel
theorem dX5_copyRow_20 : decode cX5_copyRow 20 = .ok (.iinc 2 1, 3) := by decide +kernel
theorem dX5_copyRow_23 : decode cX5_copyRow 23 = .ok (.goto (-21), 3) := by decide +kernel
theorem dX5_copyRow_26 : decode cX5_copyRow 26 = .ok (.return_, 1) := by decide +kernel
theorem dX6_init_0 : decode cX6_init 0 = .ok (.aload_n 0, 1) := by decide +kernel
theorem dX6_init_1 : decode cX6_init 1 = .ok (.invokespecial 1, 3) := by decide +kernel
theorem dX6_init_4 : decode cX6_init 4 = .ok (.aload_n 0, 1) := by decide +kernel
theorem dX6_init_5 : decode cX6_init 5 = .ok (.sipush 501, 3) := by decide +kernel
theorem dX6_init_8 : decode cX6_init 8 = .ok (.newarray .int, 2) := by decide +kernel
theorem dX6_init_10 : decode cX6_init 10 = .ok (.putfield 7, 3) := by decide +kernel
theorem dX6_init_13 : decode cX6_init 13 = .ok (.aload_n 0, 1) := by decide +kernel
theorem dX6_init_14 : decode cX6_init 14 = .ok (.sipush 3006, 3) := by decide +kernel
theorem dX6_init_17 : decode cX6_init 17 = .ok (.newarray .int, 2) := by decide +kernel
theorem dX6_init_19 : decode cX6_init 19 = .ok (.putfield 13, 3) := by decide +kernel
theorem dX6_init_22 : decode cX6_init 22 = .ok (.aload_n 0, 1) := by decide +kernel
theorem dX6_init_23 : decode cX6_init 23 = .ok (.sipush 1002, 3) := by decide +kernel
theorem dX6_init_26 : decode cX6_init 26 = .ok (.newarray .int, 2) := by decide +kernel
theorem dX6_init_28 : decode cX6_init 28 = .ok (.putfield 16, 3) := by decide +kernel
theorem dX6_init_31 : decode cX6_init 31 = .ok (.aload_n 0, 1) := by decide +kernel
theorem dX6_init_32 : decode cX6_init 32 = .ok (.iconst 2, 1) := by decide +kernel
theorem dX6_init_33 : decode cX6_init 33 = .ok (.newarray .int, 2) := by decide +kernel
theorem dX6_init_35 : decode cX6_init 35 = .ok (.putfield 19, 3) := by decide +kernel
theorem dX6_init_38 : decode cX6_init 38 = .ok (.aload_n 0, 1) := by decide +kernel
theorem dX6_init_39 : decode cX6_init 39 = .ok (.bipush 60, 2) := by decide +kernel
theorem dX6_init_41 : decode cX6_init 41 = .ok (.newarray .int, 2) := by decide +kernel
theorem dX6_init_43 : decode cX6_init 43 = .ok (.putfield 22, 3) := by decide +kernel
theorem dX6_init_46 : decode cX6_init 46 = .ok (.aload_n 0, 1) := by decide +kernel
theorem dX6_init_47 : decode cX6_init 47 = .ok (.bipush 24, 2) := by decide +kernel
theorem dX6_init_49 : decode cX6_init 49 = .ok (.newarray .int, 2) := by decide +kernel
theorem dX6_init_51 : decode cX6_init 51 = .ok (.putfield 25, 3) := by decide +kernel
theorem dX6_init_54 : decode cX6_init 54 = .ok (.aload_n 0, 1) := by decide +kernel
theorem dX6_init_55 : decode cX6_init 55 = .ok (.getfield 7, 3) := by decide +kernel
theorem dX6_init_58 : decode cX6_init 58 = .ok (.iconst 1, 1) := by decide +kernel
theorem dX6_init_59 : decode cX6_init 59 = .ok (.bipush 11, 2) := by decide +kernel
theorem dX6_init_61 : decode cX6_init 61 = .ok (.iastore, 1) := by decide +kernel
theorem dX6_init_62 : decode cX6_init 62 = .ok (.iconst 0, 1) := by decide +kernel
theorem dX6_init_63 : decode cX6_init 63 = .ok (.istore_n 1, 1) := by decide +kernel
theorem dX6_init_64 : decode cX6_init 64 = .ok (.iload_n 1, 1) := by decide +kernel
theorem dX6_init_65 : decode cX6_init 65 = .ok (.bipush 6, 2) := by decide +kernel
theorem dX6_init_67 : decode cX6_init 67 = .ok (.if_icmp .ge 20, 3) := by decide +kernel
theorem dX6_init_70 : decode cX6_init 70 = .ok (.aload_n 0, 1) := by decide +kernel
theorem dX6_init_71 : decode cX6_init 71 = .ok (.getfield 7, 3) := by decide +kernel
theorem dX6_init_74 : decode cX6_init 74 = .ok (.iconst 3, 1) := by decide +kernel
theorem dX6_init_75 : decode cX6_init 75 = .ok (.iload_n 1, 1) := by decide +kernel
theorem dX6_init_76 : decode cX6_init 76 = .ok (.iadd, 1) := by decide +kernel
theorem dX6_init_77 : decode cX6_init 77 = .ok (.iload_n 1, 1) := by decide +kernel
theorem dX6_init_78 : decode cX6_init 78 = .ok (.iconst 1, 1) := by decide +kernel
theorem dX6_init_79 : decode cX6_init 79 = .ok (.iadd, 1) := by decide +kernel
theorem dX6_init_80 : decode cX6_init 80 = .ok (.iastore, 1) := by decide +kernel
theorem dX6_init_81 : decode cX6_init 81 = .ok (.iinc 1 1, 3) := by decide +kernel
theorem dX6_init_84 : decode cX6_init 84 = .ok (.goto (-20), 3) := by decide +kernel
theorem dX6_init_87 : decode cX6_init 87 = .ok (.return_, 1) := by decide +kernel
theorem dX6_thrown_0 : decode cX6_thrown 0 = .ok (.aload_n 0, 1) := by decide +kernel
theorem dX6_thrown_1 : decode cX6_thrown 1 = .ok (.getfield 28, 3) := by decide +kernel
theorem dX6_thrown_4 : decode cX6_thrown 4 = .ok (.ireturn, 1) := by decide +kernel
theorem dX6_refuses_0 : decode cX6_refuses 0 = .ok (.aload_n 0, 1) := by decide +kernel
theorem dX6_refuses_1 : decode cX6_refuses 1 = .ok (.iload_n 1, 1) := by decide +kernel
theorem dX6_refuses_2 : decode cX6_refuses 2 = .ok (.putfield 28, 3) := by decide +kernel
theorem dX6_refuses_5 : decode cX6_refuses 5 = .ok (.iconst 0, 1) := by decide +kernel
theorem dX6_refuses_6 : decode cX6_refuses 6 = .ok (.ireturn, 1) := by decide +kernel
theorem dX6_in_0 : decode cX6_in 0 = .ok (.iload_n 0, 1) := by decide +kernel
theorem dX6_in_1 : decode cX6_in 1 = .ok (.iload_n 1, 1) := by decide +kernel
theorem dX6_in_2 : decode cX6_in 2 = .ok (.if_icmp .lt 12, 3) := by decide +kernel
theorem dX6_in_5 : decode cX6_in 5 = .ok (.iload_n 0, 1) := by decide +kernel
theorem dX6_in_6 : decode cX6_in 6 = .ok (.iload_n 2, 1) := by decide +kernel
theorem dX6_in_7 : decode cX6_in 7 = .ok (.if_icmp .gt 7, 3) := by decide +kernel
theorem dX6_in_10 : decode cX6_in 10 = .ok (.iconst 1, 1) := by decide +kernel
theorem dX6_in_11 : decode cX6_in 11 = .ok (.goto 4, 3) := by decide +kernel
theorem dX6_in_14 : decode cX6_in 14 = .ok (.iconst 0, 1) := by decide +kernel
theorem dX6_in_15 : decode cX6_in 15 = .ok (.ireturn, 1) := by decide +kernel
theorem dX6_isSerial_0 : decode cX6_isSerial 0 = .ok (.iload_n 0, 1) := by decide +kernel
theorem dX6_isSerial_1 : decode cX6_isSerial 1 = .ok (.iconst 0, 1) := by decide +kernel
theorem dX6_isSerial_2 : decode cX6_isSerial 2 = .ok (.ldc 32, 2) := by decide +kernel
theorem dX6_isSerial_4 : decode cX6_isSerial 4 = .ok (.invokestatic 33, 3) := by decide +kernel
theorem dX6_isSerial_7 : decode cX6_isSerial 7 = .ok (.ireturn, 1) := by decide +kernel
theorem dX6_isLetter_0 : decode cX6_isLetter 0 = .ok (.iload_n 0, 1) := by decide +kernel
theorem dX6_isLetter_1 : decode cX6_isLetter 1 = .ok (.iconst 0, 1) := by decide +kernel
theorem dX6_isLetter_2 : decode cX6_isLetter 2 = .ok (.bipush 25, 2) := by decide +kernel
theorem dX6_isLetter_4 : decode cX6_isLetter 4 = .ok (.invokestatic 33, 3) := by decide +kernel
theorem dX6_isLetter_7 : decode cX6_isLetter 7 = .ok (.ireturn, 1) := by decide +kernel
theorem dX6_lays_0 : decode cX6_lays 0 = .ok (.iconst 0, 1) := by decide +kernel
theorem dX6_lays_1 : decode cX6_lays 1 = .ok (.istore 4, 2) := by decide +kernel
theorem dX6_lays_3 : decode cX6_lays 3 = .ok (.iload 4, 2) := by decide +kernel
theorem dX6_lays_5 : decode cX6_lays 5 = .ok (.sipush 501, 3) := by decide +kernel
theorem dX6_lays_8 : decode cX6_lays 8 = .ok (.if_icmp .ge 21, 3) := by decide +kernel
theorem dX6_lays_11 : decode cX6_lays 11 = .ok (.aload_n 2, 1) := by decide +kernel
theorem dX6_lays_12 : decode cX6_lays 12 = .ok (.iload_n 3, 1) := by decide +kernel
theorem dX6_lays_13 : decode cX6_lays 13 = .ok (.iload 4, 2) := by decide +kernel
theorem dX6_lays_15 : decode cX6_lays 15 = .ok (.iadd, 1) := by decide +kernel
theorem dX6_lays_16 : decode cX6_lays 16 = .ok (.aload_n 0, 1) := by decide +kernel
theorem dX6_lays_17 : decode cX6_lays 17 = .ok (.iload_n 1, 1) := by decide +kernel
theorem dX6_lays_18 : decode cX6_lays 18 = .ok (.iload 4, 2) := by decide +kernel
theorem dX6_lays_20 : decode cX6_lays 20 = .ok (.iadd, 1) := by decide +kernel
theorem dX6_lays_21 : decode cX6_lays 21 = .ok (.iaload, 1) := by decide +kernel
theorem dX6_lays_22 : decode cX6_lays 22 = .ok (.iastore, 1) := by decide +kernel
theorem dX6_lays_23 : decode cX6_lays 23 = .ok (.iinc 4 1, 3) := by decide +kernel
theorem dX6_lays_26 : decode cX6_lays 26 = .ok (.goto (-23), 3) := by decide +kernel
theorem dX6_lays_29 : decode cX6_lays 29 = .ok (.return_, 1) := by decide +kernel
theorem dX6_saves_0 : decode cX6_saves 0 = .ok (.aload_n 0, 1) := by decide +kernel
theorem dX6_saves_1 : decode cX6_saves 1 = .ok (.getfield 37, 3) := by decide +kernel
theorem dX6_saves_4 : decode cX6_saves 4 = .ok (.bipush 6, 2) := by decide +kernel
theorem dX6_saves_6 : decode cX6_saves 6 = .ok (.if_icmp .ne 44, 3) := by decide +kernel
theorem dX6_saves_9 : decode cX6_saves 9 = .ok (.iconst 0, 1) := by decide +kernel
theorem dX6_saves_10 : decode cX6_saves 10 = .ok (.istore_n 1, 1) := by decide +kernel
theorem dX6_saves_11 : decode cX6_saves 11 = .ok (.iload_n 1, 1) := by decide +kernel
theorem dX6_saves_12 : decode cX6_saves 12 = .ok (.sipush 2505, 3) := by decide +kernel
theorem dX6_saves_15 : decode cX6_saves 15 = .ok (.if_icmp .ge 25, 3) := by decide +kernel
theorem dX6_saves_18 : decode cX6_saves 18 = .ok (.aload_n 0, 1) := by decide +kernel
theorem dX6_saves_19 : decode cX6_saves 19 = .ok (.getfield 13, 3) := by decide +kernel
theorem dX6_saves_22 : decode cX6_saves 22 = .ok (.iload_n 1, 1) := by decide +kernel
theorem dX6_saves_23 : decode cX6_saves 23 = .ok (.aload_n 0, 1) := by decide +kernel
theorem dX6_saves_24 : decode cX6_saves 24 = .ok (.getfield 13, 3) := by decide +kernel
theorem dX6_saves_27 : decode cX6_saves 27 = .ok (.iload_n 1, 1) := by decide +kernel
theorem dX6_saves_28 : decode cX6_saves 28 = .ok (.sipush 501, 3) := by decide +kernel
theorem dX6_saves_31 : decode cX6_saves 31 = .ok (.iadd, 1) := by decide +kernel
theorem dX6_saves_32 : decode cX6_saves 32 = .ok (.iaload, 1) := by decide +kernel
theorem dX6_saves_33 : decode cX6_saves 33 = .ok (.iastore, 1) := by decide +kernel
theorem dX6_saves_34 : decode cX6_saves 34 = .ok (.iinc 1 1, 3) := by decide +kernel
theorem dX6_saves_37 : decode cX6_saves 37 = .ok (.goto (-26), 3) := by decide +kernel
theorem dX6_saves_40 : decode cX6_saves 40 = .ok (.aload_n 0, 1) := by decide +kernel
theorem dX6_saves_41 : decode cX6_saves 41 = .ok (.dup, 1) := by decide +kernel
theorem dX6_saves_42 : decode cX6_saves 42 = .ok (.getfield 37, 3) := by decide +kernel
theorem dX6_saves_45 : decode cX6_saves 45 = .ok (.iconst 1, 1) := by decide +kernel
theorem dX6_saves_46 : decode cX6_saves 46 = .ok (.isub, 1) := by decide +kernel
theorem dX6_saves_47 : decode cX6_saves 47 = .ok (.putfield 37, 3) := by decide +kernel
theorem dX6_saves_50 : decode cX6_saves 50 = .ok (.aload_n 0, 1) := by decide +kernel
theorem dX6_saves_51 : decode cX6_saves 51 = .ok (.getfield 7, 3) := by decide +kernel
theorem dX6_saves_54 : decode cX6_saves 54 = .ok (.iconst 0, 1) := by decide +kernel
theorem dX6_saves_55 : decode cX6_saves 55 = .ok (.aload_n 0, 1) := by decide +kernel
theorem dX6_saves_56 : decode cX6_saves 56 = .ok (.getfield 13, 3) := by decide +kernel
theorem dX6_saves_59 : decode cX6_saves 59 = .ok (.sipush 501, 3) := by decide +kernel
theorem dX6_saves_62 : decode cX6_saves 62 = .ok (.aload_n 0, 1) := by decide +kernel
theorem dX6_saves_63 : decode cX6_saves 63 = .ok (.getfield 37, 3) := by decide +kernel
theorem dX6_saves_66 : decode cX6_saves 66 = .ok (.imul, 1) := by decide +kernel
theorem dX6_saves_67 : decode cX6_saves 67 = .ok (.invokestatic 40, 3) := by decide +kernel
theorem dX6_saves_70 : decode cX6_saves 70 = .ok (.aload_n 0, 1) := by decide +kernel
theorem dX6_saves_71 : decode cX6_saves 71 = .ok (.dup, 1) := by decide +kernel
theorem dX6_saves_72 : decode cX6_saves 72 = .ok (.getfield 37, 3) := by decide +kernel
theorem dX6_saves_75 : decode cX6_saves 75 = .ok (.iconst 1, 1) := by decide +kernel
theorem dX6_saves_76 : decode cX6_saves 76 = .ok (.iadd, 1) := by decide +kernel
theorem dX6_saves_77 : decode cX6_saves 77 = .ok (.putfield 37, 3) := by decide +kernel
theorem dX6_saves_80 : decode cX6_saves 80 = .ok (.return_, 1) := by decide +kernel
theorem dX6_digit_0 : decode cX6_digit 0 = .ok (.iload_n 0, 1) := by decide +kernel
theorem dX6_digit_1 : decode cX6_digit 1 = .ok (.istore_n 2, 1) := by decide +kernel
theorem dX6_digit_2 : decode cX6_digit 2 = .ok (.iconst 5, 1) := by decide +kernel
theorem dX6_digit_3 : decode cX6_digit 3 = .ok (.istore_n 3, 1) := by decide +kernel
theorem dX6_digit_4 : decode cX6_digit 4 = .ok (.iload_n 3, 1) := by decide +kernel
theorem dX6_digit_5 : decode cX6_digit 5 = .ok (.iload_n 1, 1) := by decide +kernel
theorem dX6_digit_6 : decode cX6_digit 6 = .ok (.if_icmp .le 14, 3) := by decide +kernel
theorem dX6_digit_9 : decode cX6_digit 9 = .ok (.iload_n 2, 1) := by decide +kernel
theorem dX6_digit_10 : decode cX6_digit 10 = .ok (.bipush 10, 2) := by decide +kernel
theorem dX6_digit_12 : decode cX6_digit 12 = .ok (.idiv, 1) := by decide +kernel
theorem dX6_digit_13 : decode cX6_digit 13 = .ok (.istore_n 2, 1) := by decide +kernel
theorem dX6_digit_14 : decode cX6_digit 14 = .ok (.iinc 3 (-1), 3) := by decide +kernel
theorem dX6_digit_17 : decode cX6_digit 17 = .ok (.goto (-13), 3) := by decide +kernel
theorem dX6_digit_20 : decode cX6_digit 20 = .ok (.iload_n 2, 1) := by decide +kernel
theorem dX6_digit_21 : decode cX6_digit 21 = .ok (.bipush 10, 2) := by decide +kernel
theorem dX6_digit_23 : decode cX6_digit 23 = .ok (.irem, 1) := by decide +kernel
theorem dX6_digit_24 : decode cX6_digit 24 = .ok (.ireturn, 1) := by decide +kernel
theorem dX6_letterOf_0 : decode cX6_letterOf 0 = .ok (.iconst 0, 1) := by decide +kernel
theorem dX6_letterOf_1 : decode cX6_letterOf 1 = .ok (.istore_n 2, 1) := by decide +kernel
theorem dX6_letterOf_2 : decode cX6_letterOf 2 = .ok (.iconst 0, 1) := by decide +kernel
theorem dX6_letterOf_3 : decode cX6_letterOf 3 = .ok (.istore_n 3, 1) := by decide +kernel
theorem dX6_letterOf_4 : decode cX6_letterOf 4 = .ok (.iload_n 3, 1) := by decide +kernel
theorem dX6_letterOf_5 : decode cX6_letterOf 5 = .ok (.bipush 6, 2) := by decide +kernel
theorem dX6_letterOf_7 : decode cX6_letterOf 7 = .ok (.if_icmp .ge 26, 3) := by decide +kernel
theorem dX6_letterOf_10 : decode cX6_letterOf 10 = .ok (.iload_n 2, 1) := by decide +kernel
theorem dX6_letterOf_11 : decode cX6_letterOf 11 = .ok (.aload_n 0, 1) := by decide +kernel
theorem dX6_letterOf_12 : decode cX6_letterOf 12 = .ok (.getfield 7, 3) := by decide +kernel
theorem dX6_letterOf_15 : decode cX6_letterOf 15 = .ok (.iconst 3, 1) := by decide +kernel
theorem dX6_letterOf_16 : decode cX6_letterOf 16 = .ok (.iload_n 3, 1) := by decide +kernel
theorem dX6_letterOf_17 : decode cX6_letterOf 17 = .ok (.iadd, 1) := by decide +kernel
theorem dX6_letterOf_18 : decode cX6_letterOf 18 = .ok (.iaload, 1) := by decide +kernel
theorem dX6_letterOf_19 : decode cX6_letterOf 19 = .ok (.iload_n 1, 1) := by decide +kernel
theorem dX6_letterOf_20 : decode cX6_letterOf 20 = .ok (.iload_n 3, 1) := by decide +kernel
theorem dX6_letterOf_21 : decode cX6_letterOf 21 = .ok (.invokestatic 44, 3) := by decide +kernel
theorem dX6_letterOf_24 : decode cX6_letterOf 24 = .ok (.imul, 1) := by decide +kernel
theorem dX6_letterOf_25 : decode cX6_letterOf 25 = .ok (.iadd, 1) := by decide +kernel
theorem dX6_letterOf_26 : decode cX6_letterOf 26 = .ok (.istore_n 2, 1) := by decide +kernel
theorem dX6_letterOf_27 : decode cX6_letterOf 27 = .ok (.iinc 3 1, 3) := by decide +kernel
theorem dX6_letterOf_30 : decode cX6_letterOf 30 = .ok (.goto (-26), 3) := by decide +kernel
theorem dX6_letterOf_33 : decode cX6_letterOf 33 = .ok (.iload_n 2, 1) := by decide +kernel
theorem dX6_letterOf_34 : decode cX6_letterOf 34 = .ok (.aload_n 0, 1) := by decide +kernel
theorem dX6_letterOf_35 : decode cX6_letterOf 35 = .ok (.getfield 7, 3) := by decide +kernel
theorem dX6_letterOf_38 : decode cX6_letterOf 38 = .ok (.iconst 1, 1) := by decide +kernel
theorem dX6_letterOf_39 : decode cX6_letterOf 39 = .ok (.iaload, 1) := by decide +kernel
theorem dX6_letterOf_40 : decode cX6_letterOf 40 = .ok (.irem, 1) := by decide +kernel
theorem dX6_letterOf_41 : decode cX6_letterOf 41 = .ok (.ireturn, 1) := by decide +kernel
theorem dX6_firstOf_0 : decode cX6_firstOf 0 = .ok (.aload_n 0, 1) := by decide +kernel
theorem dX6_firstOf_1 : decode cX6_firstOf 1 = .ok (.getfield 7, 3) := by decide +kernel
theorem dX6_firstOf_4 : decode cX6_firstOf 4 = .ok (.bipush 9, 2) := by decide +kernel
theorem dX6_firstOf_6 : decode cX6_firstOf 6 = .ok (.iconst 2, 1) := by decide +kernel
theorem dX6_firstOf_7 : decode cX6_firstOf 7 = .ok (.iload_n 1, 1) := by decide +kernel
theorem dX6_firstOf_8 : decode cX6_firstOf 8 = .ok (.imul, 1) := by decide +kernel
theorem dX6_firstOf_9 : decode cX6_firstOf 9 = .ok (.iadd, 1) := by decide +kernel
theorem dX6_firstOf_10 : decode cX6_firstOf 10 = .ok (.iaload, 1) := by decide +kernel
theorem dX6_firstOf_11 : decode cX6_firstOf 11 = .ok (.ireturn, 1) := by decide +kernel
theorem dX6_countOf_0 : decode cX6_countOf 0 = .ok (.aload_n 0, 1) := by decide +kernel
theorem dX6_countOf_1 : decode cX6_countOf 1 = .ok (.getfield 7, 3) := by decide +kernel
theorem dX6_countOf_4 : decode cX6_countOf 4 = .ok (.bipush 9, 2) := by decide +kernel
theorem dX6_countOf_6 : decode cX6_countOf 6 = .ok (.iconst 2, 1) := by decide +kernel
theorem dX6_countOf_7 : decode cX6_countOf 7 = .ok (.iload_n 1, 1) := by decide +kernel
theorem dX6_countOf_8 : decode cX6_countOf 8 = .ok (.imul, 1) := by decide +kernel
theorem dX6_countOf_9 : decode cX6_countOf 9 = .ok (.iadd, 1) := by decide +kernel
theorem dX6_countOf_10 : decode cX6_countOf 10 = .ok (.iconst 1, 1) := by decide +kernel
theorem dX6_countOf_11 : decode cX6_countOf 11 = .ok (.iadd, 1) := by decide +kernel
theorem dX6_countOf_12 : decode cX6_countOf 12 = .ok (.iaload, 1) := by decide +kernel
theorem dX6_countOf_13 : decode cX6_countOf 13 = .ok (.ireturn, 1) := by decide +kernel
theorem dX6_spotOf_0 : decode cX6_spotOf 0 = .ok (.iconst (-1), 1) := by decide +kernel
theorem dX6_spotOf_1 : decode cX6_spotOf 1 = .ok (.istore_n 2, 1) := by decide +kernel
theorem dX6_spotOf_2 : decode cX6_spotOf 2 = .ok (.iconst 0, 1) := by decide +kernel
theorem dX6_spotOf_3 : decode cX6_spotOf 3 = .ok (.istore_n 3, 1) := by decide +kernel
theorem dX6_spotOf_4 : decode cX6_spotOf 4 = .ok (.iload_n 3, 1) := by decide +kernel
theorem dX6_spotOf_5 : decode cX6_spotOf 5 = .ok (.aload_n 0, 1) := by decide +kernel
theorem dX6_spotOf_6 : decode cX6_spotOf 6 = .ok (.getfield 7, 3) := by decide +kernel
theorem dX6_spotOf_9 : decode cX6_spotOf 9 = .ok (.iconst 0, 1) := by decide +kernel
theorem dX6_spotOf_10 : decode cX6_spotOf 10 = .ok (.iaload, 1) := by decide +kernel
theorem dX6_spotOf_11 : decode cX6_spotOf 11 = .ok (.if_icmp .ge 55, 3) := by decide +kernel
theorem dX6_spotOf_14 : decode cX6_spotOf 14 = .ok (.iload_n 1, 1) := by decide +kernel
theorem dX6_spotOf_15 : decode cX6_spotOf 15 = .ok (.aload_n 0, 1) := by decide +kernel
theorem dX6_spotOf_16 : decode cX6_spotOf 16 = .ok (.iload_n 3, 1) := by decide +kernel
theorem dX6_spotOf_17 : decode cX6_spotOf 17 = .ok (.invokevirtual 48, 3) := by decide +kernel
theorem dX6_spotOf_20 : decode cX6_spotOf 20 = .ok (.aload_n 0, 1) := by decide +kernel
theorem dX6_spotOf_21 : decode cX6_spotOf 21 = .ok (.iload_n 3, 1) := by decide +kernel
theorem dX6_spotOf_22 : decode cX6_spotOf 22 = .ok (.invokevirtual 48, 3) := by decide +kernel
theorem dX6_spotOf_25 : decode cX6_spotOf 25 = .ok (.aload_n 0, 1) := by decide +kernel
theorem dX6_spotOf_26 : decode cX6_spotOf 26 = .ok (.iload_n 3, 1) := by decide +kernel
theorem dX6_spotOf_27 : decode cX6_spotOf 27 = .ok (.invokevirtual 52, 3) := by decide +kernel
theorem dX6_spotOf_30 : decode cX6_spotOf 30 = .ok (.iadd, 1) := by decide +kernel
theorem dX6_spotOf_31 : decode cX6_spotOf 31 = .ok (.iconst 1, 1) := by decide +kernel
theorem dX6_spotOf_32 : decode cX6_spotOf 32 = .ok (.isub, 1) := by decide +kernel
theorem dX6_spotOf_33 : decode cX6_spotOf 33 = .ok (.invokestatic 33, 3) := by decide +kernel
theorem dX6_spotOf_36 : decode cX6_spotOf 36 = .ok (.istore 4, 2) := by decide +kernel
theorem dX6_spotOf_38 : decode cX6_spotOf 38 = .ok (.iload 4, 2) := by decide +kernel
theorem dX6_spotOf_40 : decode cX6_spotOf 40 = .ok (.ifCond .eq 18, 3) := by decide +kernel
theorem dX6_spotOf_43 : decode cX6_spotOf 43 = .ok (.bipush 40, 2) := by decide +kernel
theorem dX6_spotOf_45 : decode cX6_spotOf 45 = .ok (.iload_n 3, 1) := by decide +kernel
theorem dX6_spotOf_46 : decode cX6_spotOf 46 = .ok (.imul, 1) := by decide +kernel
theorem dX6_spotOf_47 : decode cX6_spotOf 47 = .ok (.iload_n 1, 1) := by decide +kernel
theorem dX6_spotOf_48 : decode cX6_spotOf 48 = .ok (.iadd, 1) := by decide +kernel
theorem dX6_spotOf_49 : decode cX6_spotOf 49 = .ok (.aload_n 0, 1) := by decide +kernel
theorem dX6_spotOf_50 : decode cX6_spotOf 50 = .ok (.iload_n 3, 1) := by decide +kernel
theorem dX6_spotOf_51 : decode cX6_spotOf 51 = .ok (.invokevirtual 48, 3) := by decide +kernel
theorem dX6_spotOf_54 : decode cX6_spotOf 54 = .ok (.isub, 1) := by decide +kernel
theorem dX6_spotOf_55 : decode cX6_spotOf 55 = .ok (.goto 4, 3) := by decide +kernel
theorem dX6_spotOf_58 : decode cX6_spotOf 58 = .ok (.iload_n 2, 1) := by decide +kernel
theorem dX6_spotOf_59 : decode cX6_spotOf 59 = .ok (.istore_n 2, 1) := by decide +kernel
theorem dX6_spotOf_60 : decode cX6_spotOf 60 = .ok (.iinc 3 1, 3) := by decide +kernel
theorem dX6_spotOf_63 : decode cX6_spotOf 63 = .ok (.goto (-59), 3) := by decide +kernel
theorem dX6_spotOf_66 : decode cX6_spotOf 66 = .ok (.iload_n 2, 1) := by decide +kernel
theorem dX6_spotOf_67 : decode cX6_spotOf 67 = .ok (.ireturn, 1) := by decide +kernel
theorem dX6_serialAt_0 : decode cX6_serialAt 0 = .ok (.aload_n 0, 1) := by decide +kernel
theorem dX6_serialAt_1 : decode cX6_serialAt 1 = .ok (.iload_n 1, 1) := by decide +kernel
theorem dX6_serialAt_2 : decode cX6_serialAt 2 = .ok (.bipush 40, 2) := by decide +kernel
theorem dX6_serialAt_4 : decode cX6_serialAt 4 = .ok (.idiv, 1) := by decide +kernel
theorem dX6_serialAt_5 : decode cX6_serialAt 5 = .ok (.invokevirtual 48, 3) := by decide +kernel
theorem dX6_serialAt_8 : decode cX6_serialAt 8 = .ok (.iload_n 1, 1) := by decide +kernel
theorem dX6_serialAt_9 : decode cX6_serialAt 9 = .ok (.bipush 40, 2) := by decide +kernel
theorem dX6_serialAt_11 : decode cX6_serialAt 11 = .ok (.irem, 1) := by decide +kernel
theorem dX6_serialAt_12 : decode cX6_serialAt 12 = .ok (.iadd, 1) := by decide +kernel
theorem dX6_serialAt_13 : decode cX6_serialAt 13 = .ok (.ireturn, 1) := by decide +kernel
theorem dX6_isCheque_0 : decode cX6_isCheque 0 = .ok (.iload_n 1, 1) := by decide +kernel
theorem dX6_isCheque_1 : decode cX6_isCheque 1 = .ok (.bipush 40, 2) := by decide +kernel
theorem dX6_isCheque_3 : decode cX6_isCheque 3 = .ok (.irem, 1) := by decide +kernel
theorem dX6_isCheque_4 : decode cX6_isCheque 4 = .ok (.aload_n 0, 1) := by decide +kernel
theorem dX6_isCheque_5 : decode cX6_isCheque 5 = .ok (.iload_n 1, 1) := by decide +kernel
theorem dX6_isCheque_6 : decode cX6_isCheque 6 = .ok (.bipush 40, 2) := by decide +kernel
theorem dX6_isCheque_8 : decode cX6_isCheque 8 = .ok (.idiv, 1) := by decide +kernel
theorem dX6_isCheque_9 : decode cX6_isCheque 9 = .ok (.invokevirtual 52, 3) := by decide +kernel
theorem dX6_isCheque_12 : decode cX6_isCheque 12 = .ok (.if_icmp .ge 7, 3) := by decide +kernel
theorem dX6_isCheque_15 : decode cX6_isCheque 15 = .ok (.iconst 1, 1) := by decide +kernel
theorem dX6_isCheque_16 : decode cX6_isCheque 16 = .ok (.goto 4, 3) := by decide +kernel
theorem dX6_isCheque_19 : decode cX6_isCheque 19 = .ok (.iconst 0, 1) := by decide +kernel
theorem dX6_isCheque_20 : decode cX6_isCheque 20 = .ok (.ireturn, 1) := by decide +kernel
theorem dX6_isTaken_0 : decode cX6_isTaken 0 = .ok (.iconst 0, 1) := by decide +kernel
theorem dX6_isTaken_1 : decode cX6_isTaken 1 = .ok (.istore_n 3, 1) := by decide +kernel
theorem dX6_isTaken_2 : decode cX6_isTaken 2 = .ok (.iconst 0, 1) := by decide +kernel
theorem dX6_isTaken_3 : decode cX6_isTaken 3 = .ok (.istore 4, 2) := by decide +kernel
theorem dX6_isTaken_5 : decode cX6_isTaken 5 = .ok (.iload 4, 2) := by decide +kernel
theorem dX6_isTaken_7 : decode cX6_isTaken 7 = .ok (.aload_n 0, 1) := by decide +kernel
theorem dX6_isTaken_8 : decode cX6_isTaken 8 = .ok (.getfield 7, 3) := by decide +kernel
theorem dX6_isTaken_11 : decode cX6_isTaken 11 = .ok (.iconst 0, 1) := by decide +kernel
theorem dX6_isTaken_12 : decode cX6_isTaken 12 = .ok (.iaload, 1) := by decide +kernel
theorem dX6_isTaken_13 : decode cX6_isTaken 13 = .ok (.if_icmp .ge 48, 3) := by decide +kernel
theorem dX6_isTaken_16 : decode cX6_isTaken 16 = .ok (.iload_n 3, 1) := by decide +kernel
theorem dX6_isTaken_17 : decode cX6_isTaken 17 = .ok (.ifCond .ne 32, 3) := by decide +kernel
theorem dX6_isTaken_20 : decode cX6_isTaken 20 = .ok (.iload_n 1, 1) := by decide +kernel
theorem dX6_isTaken_21 : decode cX6_isTaken 21 = .ok (.aload_n 0, 1) := by decide +kernel
theorem dX6_isTaken_22 : decode cX6_isTaken 22 = .ok (.iload 4, 2) := by decide +kernel
theorem dX6_isTaken_24 : decode cX6_isTaken 24 = .ok (.invokevirtual 48, 3) := by decide +kernel
theorem dX6_isTaken_27 : decode cX6_isTaken 27 = .ok (.aload_n 0, 1) := by decide +kernel
theorem dX6_isTaken_28 : decode cX6_isTaken 28 = .ok (.iload 4, 2) := by decide +kernel
theorem dX6_isTaken_30 : decode cX6_isTaken 30 = .ok (.invokevirtual 52, 3) := by decide +kernel
theorem dX6_isTaken_33 : decode cX6_isTaken 33 = .ok (.iadd, 1) := by decide +kernel
theorem dX6_isTaken_34 : decode cX6_isTaken 34 = .ok (.if_icmp .ge 19, 3) := by decide +kernel
theorem dX6_isTaken_37 : decode cX6_isTaken 37 = .ok (.aload_n 0, 1) := by decide +kernel
theorem dX6_isTaken_38 : decode cX6_isTaken 38 = .ok (.iload 4, 2) := by decide +kernel
theorem dX6_isTaken_40 : decode cX6_isTaken 40 = .ok (.invokevirtual 48, 3) := by decide +kernel
theorem dX6_isTaken_43 : decode cX6_isTaken 43 = .ok (.iload_n 1, 1) := by decide +kernel
theorem dX6_isTaken_44 : decode cX6_isTaken 44 = .ok (.iload_n 2, 1) := by decide +kernel
theorem dX6_isTaken_45 : decode cX6_isTaken 45 = .ok (.iadd, 1) := by decide +kernel
theorem dX6_isTaken_46 : decode cX6_isTaken 46 = .ok (.if_icmp .ge 7, 3) := by decide +kernel
theorem dX6_isTaken_49 : decode cX6_isTaken 49 = .ok (.iconst 1, 1) := by decide +kernel
theorem dX6_isTaken_50 : decode cX6_isTaken 50 = .ok (.goto 4, 3) := by decide +kernel
theorem dX6_isTaken_53 : decode cX6_isTaken 53 = .ok (.iconst 0, 1) := by decide +kernel
theorem dX6_isTaken_54 : decode cX6_isTaken 54 = .ok (.istore_n 3, 1) := by decide +kernel
theorem dX6_isTaken_55 : decode cX6_isTaken 55 = .ok (.iinc 4 1, 3) := by decide +kernel
theorem dX6_isTaken_58 : decode cX6_isTaken 58 = .ok (.goto (-53), 3) := by decide +kernel
theorem dX6_isTaken_61 : decode cX6_isTaken 61 = .ok (.iload_n 3, 1) := by decide +kernel
theorem dX6_isTaken_62 : decode cX6_isTaken 62 = .ok (.ireturn, 1) := by decide +kernel
theorem dX6_canBook_0 : decode cX6_canBook 0 = .ok (.aload_n 0, 1) := by decide +kernel
theorem dX6_canBook_1 : decode cX6_canBook 1 = .ok (.getfield 7, 3) := by decide +kernel
theorem dX6_canBook_4 : decode cX6_canBook 4 = .ok (.iconst 0, 1) := by decide +kernel
theorem dX6_canBook_5 : decode cX6_canBook 5 = .ok (.iaload, 1) := by decide +kernel
theorem dX6_canBook_6 : decode cX6_canBook 6 = .ok (.bipush 6, 2) := by decide +kernel
theorem dX6_canBook_8 : decode cX6_canBook 8 = .ok (.if_icmp .ge 16, 3) := by decide +kernel
theorem dX6_canBook_11 : decode cX6_canBook 11 = .ok (.aload_n 0, 1) := by decide +kernel
theorem dX6_canBook_12 : decode cX6_canBook 12 = .ok (.iload_n 1, 1) := by decide +kernel
theorem dX6_canBook_13 : decode cX6_canBook 13 = .ok (.iload_n 2, 1) := by decide +kernel
theorem dX6_canBook_14 : decode cX6_canBook 14 = .ok (.invokevirtual 55, 3) := by decide +kernel
theorem dX6_canBook_17 : decode cX6_canBook 17 = .ok (.ifCond .ne 7, 3) := by decide +kernel
theorem dX6_canBook_20 : decode cX6_canBook 20 = .ok (.iconst 1, 1) := by decide +kernel
theorem dX6_canBook_21 : decode cX6_canBook 21 = .ok (.goto 4, 3) := by decide +kernel
theorem dX6_canBook_24 : decode cX6_canBook 24 = .ok (.iconst 0, 1) := by decide +kernel
theorem dX6_canBook_25 : decode cX6_canBook 25 = .ok (.ireturn, 1) := by decide +kernel
theorem dX6_books_0 : decode cX6_books 0 = .ok (.aload_n 0, 1) := by decide +kernel
theorem dX6_books_1 : decode cX6_books 1 = .ok (.getfield 7, 3) := by decide +kernel
theorem dX6_books_4 : decode cX6_books 4 = .ok (.iconst 0, 1) := by decide +kernel
theorem dX6_books_5 : decode cX6_books 5 = .ok (.iaload, 1) := by decide +kernel
theorem dX6_books_6 : decode cX6_books 6 = .ok (.istore_n 3, 1) := by decide +kernel
theorem dX6_books_7 : decode cX6_books 7 = .ok (.aload_n 0, 1) := by decide +kernel
theorem dX6_books_8 : decode cX6_books 8 = .ok (.getfield 7, 3) := by decide +kernel
theorem dX6_books_11 : decode cX6_books 11 = .ok (.bipush 9, 2) := by decide +kernel
theorem dX6_books_13 : decode cX6_books 13 = .ok (.iconst 2, 1) := by decide +kernel
theorem dX6_books_14 : decode cX6_books 14 = .ok (.iload_n 3, 1) := by decide +kernel
theorem dX6_books_15 : decode cX6_books 15 = .ok (.imul, 1) := by decide +kernel
theorem dX6_books_16 : decode cX6_books 16 = .ok (.iadd, 1) := by decide +kernel
theorem dX6_books_17 : decode cX6_books 17 = .ok (.iload_n 1, 1) := by decide +kernel
theorem dX6_books_18 : decode cX6_books 18 = .ok (.iastore, 1) := by decide +kernel
theorem dX6_books_19 : decode cX6_books 19 = .ok (.aload_n 0, 1) := by decide +kernel
theorem dX6_books_20 : decode cX6_books 20 = .ok (.getfield 7, 3) := by decide +kernel
theorem dX6_books_23 : decode cX6_books 23 = .ok (.bipush 9, 2) := by decide +kernel
theorem dX6_books_25 : decode cX6_books 25 = .ok (.iconst 2, 1) := by decide +kernel
theorem dX6_books_26 : decode cX6_books 26 = .ok (.iload_n 3, 1) := by decide +kernel
theorem dX6_books_27 : decode cX6_books 27 = .ok (.imul, 1) := by decide +kernel
theorem dX6_books_28 : decode cX6_books 28 = .ok (.iadd, 1) := by decide +kernel
theorem dX6_books_29 : decode cX6_books 29 = .ok (.iconst 1, 1) := by decide +kernel
theorem dX6_books_30 : decode cX6_books 30 = .ok (.iadd, 1) := by decide +kernel
theorem dX6_books_31 : decode cX6_books 31 = .ok (.iload_n 2, 1) := by decide +kernel
theorem dX6_books_32 : decode cX6_books 32 = .ok (.iastore, 1) := by decide +kernel
theorem dX6_books_33 : decode cX6_books 33 = .ok (.bipush 40, 2) := by decide +kernel
theorem dX6_books_35 : decode cX6_books 35 = .ok (.iload_n 3, 1) := by decide +kernel
theorem dX6_books_36 : decode cX6_books 36 = .ok (.imul, 1) := by decide +kernel
theorem dX6_books_37 : decode cX6_books 37 = .ok (.istore 4, 2) := by decide +kernel
theorem dX6_books_39 : decode cX6_books 39 = .ok (.iload 4, 2) := by decide +kernel
theorem dX6_books_41 : decode cX6_books 41 = .ok (.bipush 40, 2) := by decide +kernel
theorem dX6_books_43 : decode cX6_books 43 = .ok (.iload_n 3, 1) := by decide +kernel
theorem dX6_books_44 : decode cX6_books 44 = .ok (.iconst 1, 1) := by decide +kernel
theorem dX6_books_45 : decode cX6_books 45 = .ok (.iadd, 1) := by decide +kernel
theorem dX6_books_46 : decode cX6_books 46 = .ok (.imul, 1) := by decide +kernel
theorem dX6_books_47 : decode cX6_books 47 = .ok (.if_icmp .ge 32, 3) := by decide +kernel
theorem dX6_books_50 : decode cX6_books 50 = .ok (.aload_n 0, 1) := by decide +kernel
theorem dX6_books_51 : decode cX6_books 51 = .ok (.getfield 7, 3) := by decide +kernel
theorem dX6_books_54 : decode cX6_books 54 = .ok (.bipush 21, 2) := by decide +kernel
theorem dX6_books_56 : decode cX6_books 56 = .ok (.iload 4, 2) := by decide +kernel
theorem dX6_books_58 : decode cX6_books 58 = .ok (.iadd, 1) := by decide +kernel
theorem dX6_books_59 : decode cX6_books 59 = .ok (.iconst 0, 1) := by decide +kernel
theorem dX6_books_60 : decode cX6_books 60 = .ok (.iastore, 1) := by decide +kernel
theorem dX6_books_61 : decode cX6_books 61 = .ok (.aload_n 0, 1) := by decide +kernel
theorem dX6_books_62 : decode cX6_books 62 = .ok (.getfield 7, 3) := by decide +kernel
theorem dX6_books_65 : decode cX6_books 65 = .ok (.sipush 261, 3) := by decide +kernel
theorem dX6_books_68 : decode cX6_books 68 = .ok (.iload 4, 2) := by decide +kernel
theorem dX6_books_70 : decode cX6_books 70 = .ok (.iadd, 1) := by decide +kernel
theorem dX6_books_71 : decode cX6_books 71 = .ok (.iconst 0, 1) := by decide +kernel
theorem dX6_books_72 : decode cX6_books 72 = .ok (.iastore, 1) := by decide +kernel
theorem dX6_books_73 : decode cX6_books 73 = .ok (.iinc 4 1, 3) := by decide +kernel
theorem dX6_books_76 : decode cX6_books 76 = .ok (.goto (-37), 3) := by decide +kernel
theorem dX6_books_79 : decode cX6_books 79 = .ok (.aload_n 0, 1) := by decide +kernel
theorem dX6_books_80 : decode cX6_books 80 = .ok (.getfield 7, 3) := by decide +kernel
theorem dX6_books_83 : decode cX6_books 83 = .ok (.iconst 0, 1) := by decide +kernel
theorem dX6_books_84 : decode cX6_books 84 = .ok (.dup2, 1) := by decide +kernel
theorem dX6_books_85 : decode cX6_books 85 = .ok (.iaload, 1) := by decide +kernel
theorem dX6_books_86 : decode cX6_books 86 = .ok (.iconst 1, 1) := by decide +kernel
theorem dX6_books_87 : decode cX6_books 87 = .ok (.iadd, 1) := by decide +kernel
theorem dX6_books_88 : decode cX6_books 88 = .ok (.iastore, 1) := by decide +kernel
theorem dX6_books_89 : decode cX6_books 89 = .ok (.iload_n 3, 1) := by decide +kernel
theorem dX6_books_90 : decode cX6_books 90 = .ok (.ireturn, 1) := by decide +kernel
theorem dX6_writes_0 : decode cX6_writes 0 = .ok (.aload_n 0, 1) := by decide +kernel
theorem dX6_writes_1 : decode cX6_writes 1 = .ok (.getfield 7, 3) := by decide +kernel
theorem dX6_writes_4 : decode cX6_writes 4 = .ok (.bipush 21, 2) := by decide +kernel
theorem dX6_writes_6 : decode cX6_writes 6 = .ok (.iload_n 1, 1) := by decide +kernel
theorem dX6_writes_7 : decode cX6_writes 7 = .ok (.iadd, 1) := by decide +kernel
theorem dX6_writes_8 : decode cX6_writes 8 = .ok (.iconst 1, 1) := by decide +kernel
theorem dX6_writes_9 : decode cX6_writes 9 = .ok (.iastore, 1) := by decide +kernel
theorem dX6_writes_10 : decode cX6_writes 10 = .ok (.aload_n 0, 1) := by decide +kernel
theorem dX6_writes_11 : decode cX6_writes 11 = .ok (.getfield 7, 3) := by decide +kernel
theorem dX6_writes_14 : decode cX6_writes 14 = .ok (.sipush 261, 3) := by decide +kernel
theorem dX6_writes_17 : decode cX6_writes 17 = .ok (.iload_n 1, 1) := by decide +kernel
theorem dX6_writes_18 : decode cX6_writes 18 = .ok (.iadd, 1) := by decide +kernel
theorem dX6_writes_19 : decode cX6_writes 19 = .ok (.iload_n 2, 1) := by decide +kernel
theorem dX6_writes_20 : decode cX6_writes 20 = .ok (.iastore, 1) := by decide +kernel
theorem dX6_writes_21 : decode cX6_writes 21 = .ok (.return_, 1) := by decide +kernel
theorem dX6_cashes_0 : decode cX6_cashes 0 = .ok (.aload_n 0, 1) := by decide +kernel
theorem dX6_cashes_1 : decode cX6_cashes 1 = .ok (.iload_n 1, 1) := by decide +kernel
theorem dX6_cashes_2 : decode cX6_cashes 2 = .ok (.invokevirtual 59, 3) := by decide +kernel
theorem dX6_cashes_5 : decode cX6_cashes 5 = .ok (.istore_n 3, 1) := by decide +kernel
theorem dX6_cashes_6 : decode cX6_cashes 6 = .ok (.iload_n 2, 1) := by decide +kernel
theorem dX6_cashes_7 : decode cX6_cashes 7 = .ok (.aload_n 0, 1) := by decide +kernel
theorem dX6_cashes_8 : decode cX6_cashes 8 = .ok (.iload_n 1, 1) := by decide +kernel
theorem dX6_cashes_9 : decode cX6_cashes 9 = .ok (.invokevirtual 62, 3) := by decide +kernel
theorem dX6_cashes_12 : decode cX6_cashes 12 = .ok (.if_icmp .eq 7, 3) := by decide +kernel
theorem dX6_cashes_15 : decode cX6_cashes 15 = .ok (.iconst 1, 1) := by decide +kernel
theorem dX6_cashes_16 : decode cX6_cashes 16 = .ok (.goto 30, 3) := by decide +kernel
theorem dX6_cashes_19 : decode cX6_cashes 19 = .ok (.iload_n 3, 1) := by decide +kernel
theorem dX6_cashes_20 : decode cX6_cashes 20 = .ok (.iconst (-1), 1) := by decide +kernel
theorem dX6_cashes_21 : decode cX6_cashes 21 = .ok (.if_icmp .ne 7, 3) := by decide +kernel
theorem dX6_cashes_24 : decode cX6_cashes 24 = .ok (.iconst 2, 1) := by decide +kernel
theorem dX6_cashes_25 : decode cX6_cashes 25 = .ok (.goto 21, 3) := by decide +kernel
theorem dX6_cashes_28 : decode cX6_cashes 28 = .ok (.aload_n 0, 1) := by decide +kernel
theorem dX6_cashes_29 : decode cX6_cashes 29 = .ok (.getfield 7, 3) := by decide +kernel
theorem dX6_cashes_32 : decode cX6_cashes 32 = .ok (.bipush 21, 2) := by decide +kernel
theorem dX6_cashes_34 : decode cX6_cashes 34 = .ok (.iload_n 3, 1) := by decide +kernel
theorem dX6_cashes_35 : decode cX6_cashes 35 = .ok (.iadd, 1) := by decide +kernel
theorem dX6_cashes_36 : decode cX6_cashes 36 = .ok (.iaload, 1) := by decide +kernel
theorem dX6_cashes_37 : decode cX6_cashes 37 = .ok (.iconst 1, 1) := by decide +kernel
theorem dX6_cashes_38 : decode cX6_cashes 38 = .ok (.if_icmp .eq 7, 3) := by decide +kernel
theorem dX6_cashes_41 : decode cX6_cashes 41 = .ok (.iconst 3, 1) := by decide +kernel
theorem dX6_cashes_42 : decode cX6_cashes 42 = .ok (.goto 4, 3) := by decide +kernel
theorem dX6_cashes_45 : decode cX6_cashes 45 = .ok (.iconst 0, 1) := by decide +kernel
theorem dX6_cashes_46 : decode cX6_cashes 46 = .ok (.istore 4, 2) := by decide +kernel
theorem dX6_cashes_48 : decode cX6_cashes 48 = .ok (.iload 4, 2) := by decide +kernel
theorem dX6_cashes_50 : decode cX6_cashes 50 = .ok (.ifCond .le 17, 3) := by decide +kernel
theorem dX6_cashes_53 : decode cX6_cashes 53 = .ok (.aload_n 0, 1) := by decide +kernel
theorem dX6_cashes_54 : decode cX6_cashes 54 = .ok (.getfield 7, 3) := by decide +kernel
theorem dX6_cashes_57 : decode cX6_cashes 57 = .ok (.iconst 2, 1) := by decide +kernel
theorem dX6_cashes_58 : decode cX6_cashes 58 = .ok (.dup2, 1) := by decide +kernel
theorem dX6_cashes_59 : decode cX6_cashes 59 = .ok (.iaload, 1) := by decide +kernel
theorem dX6_cashes_60 : decode cX6_cashes 60 = .ok (.iconst 1, 1) := by decide +kernel
theorem dX6_cashes_61 : decode cX6_cashes 61 = .ok (.iadd, 1) := by decide +kernel
theorem dX6_cashes_62 : decode cX6_cashes 62 = .ok (.iastore, 1) := by decide +kernel
theorem dX6_cashes_63 : decode cX6_cashes 63 = .ok (.iload 4, 2) := by decide +kernel
theorem dX6_cashes_65 : decode cX6_cashes 65 = .ok (.ineg, 1) := by decide +kernel
theorem dX6_cashes_66 : decode cX6_cashes 66 = .ok (.ireturn, 1) := by decide +kernel
theorem dX6_cashes_67 : decode cX6_cashes 67 = .ok (.aload_n 0, 1) := by decide +kernel
theorem dX6_cashes_68 : decode cX6_cashes 68 = .ok (.getfield 7, 3) := by decide +kernel
theorem dX6_cashes_71 : decode cX6_cashes 71 = .ok (.bipush 21, 2) := by decide +kernel
theorem dX6_cashes_73 : decode cX6_cashes 73 = .ok (.iload_n 3, 1) := by decide +kernel
theorem dX6_cashes_74 : decode cX6_cashes 74 = .ok (.iadd, 1) := by decide +kernel
theorem dX6_cashes_75 : decode cX6_cashes 75 = .ok (.iconst 2, 1) := by decide +kernel
theorem dX6_cashes_76 : decode cX6_cashes 76 = .ok (.iastore, 1) := by decide +kernel
theorem dX6_cashes_77 : decode cX6_cashes 77 = .ok (.aload_n 0, 1) := by decide +kernel
theorem dX6_cashes_78 : decode cX6_cashes 78 = .ok (.getfield 7, 3) := by decide +kernel
theorem dX6_cashes_81 : decode cX6_cashes 81 = .ok (.sipush 261, 3) := by decide +kernel
theorem dX6_cashes_84 : decode cX6_cashes 84 = .ok (.iload_n 3, 1) := by decide +kernel
theorem dX6_cashes_85 : decode cX6_cashes 85 = .ok (.iadd, 1) := by decide +kernel
theorem dX6_cashes_86 : decode cX6_cashes 86 = .ok (.iaload, 1) := by decide +kernel
theorem dX6_cashes_87 : decode cX6_cashes 87 = .ok (.ireturn, 1) := by decide +kernel
theorem dX6_voids_0 : decode cX6_voids 0 = .ok (.iconst 0, 1) := by decide +kernel
theorem dX6_voids_1 : decode cX6_voids 1 = .ok (.istore_n 3, 1) := by decide +kernel
theorem dX6_voids_2 : decode cX6_voids 2 = .ok (.iconst 0, 1) := by decide +kernel
theorem dX6_voids_3 : decode cX6_voids 3 = .ok (.istore 4, 2) := by decide +kernel
theorem dX6_voids_5 : decode cX6_voids 5 = .ok (.iload 4, 2) := by decide +kernel
theorem dX6_voids_7 : decode cX6_voids 7 = .ok (.bipush 40, 2) := by decide +kernel
theorem dX6_voids_9 : decode cX6_voids 9 = .ok (.aload_n 0, 1) := by decide +kernel
theorem dX6_voids_10 : decode cX6_voids 10 = .ok (.getfield 7, 3) := by decide +kernel
theorem dX6_voids_13 : decode cX6_voids 13 = .ok (.iconst 0, 1) := by decide +kernel
theorem dX6_voids_14 : decode cX6_voids 14 = .ok (.iaload, 1) := by decide +kernel
theorem dX6_voids_15 : decode cX6_voids 15 = .ok (.imul, 1) := by decide +kernel
theorem dX6_voids_16 : decode cX6_voids 16 = .ok (.if_icmp .ge 126, 3) := by decide +kernel
theorem dX6_voids_19 : decode cX6_voids 19 = .ok (.aload_n 0, 1) := by decide +kernel
theorem dX6_voids_20 : decode cX6_voids 20 = .ok (.iload 4, 2) := by decide +kernel
theorem dX6_voids_22 : decode cX6_voids 22 = .ok (.invokevirtual 65, 3) := by decide +kernel
theorem dX6_voids_25 : decode cX6_voids 25 = .ok (.ifCond .eq 35, 3) := by decide +kernel
theorem dX6_voids_28 : decode cX6_voids 28 = .ok (.aload_n 0, 1) := by decide +kernel
theorem dX6_voids_29 : decode cX6_voids 29 = .ok (.iload 4, 2) := by decide +kernel
theorem dX6_voids_31 : decode cX6_voids 31 = .ok (.invokevirtual 69, 3) := by decide +kernel
theorem dX6_voids_34 : decode cX6_voids 34 = .ok (.iload_n 1, 1) := by decide +kernel
theorem dX6_voids_35 : decode cX6_voids 35 = .ok (.iload_n 2, 1) := by decide +kernel
theorem dX6_voids_36 : decode cX6_voids 36 = .ok (.invokestatic 33, 3) := by decide +kernel
theorem dX6_voids_39 : decode cX6_voids 39 = .ok (.ifCond .eq 21, 3) := by decide +kernel
theorem dX6_voids_42 : decode cX6_voids 42 = .ok (.aload_n 0, 1) := by decide +kernel
theorem dX6_voids_43 : decode cX6_voids 43 = .ok (.getfield 7, 3) := by decide +kernel
theorem dX6_voids_46 : decode cX6_voids 46 = .ok (.bipush 21, 2) := by decide +kernel
theorem dX6_voids_48 : decode cX6_voids 48 = .ok (.iload 4, 2) := by decide +kernel
theorem dX6_voids_50 : decode cX6_voids 50 = .ok (.iadd, 1) := by decide +kernel
theorem dX6_voids_51 : decode cX6_voids 51 = .ok (.iaload, 1) := by decide +kernel
theorem dX6_voids_52 : decode cX6_voids 52 = .ok (.iconst 2, 1) := by decide +kernel
theorem dX6_voids_53 : decode cX6_voids 53 = .ok (.if_icmp .ge 7, 3) := by decide +kernel
theorem dX6_voids_56 : decode cX6_voids 56 = .ok (.iconst 1, 1) := by decide +kernel
theorem dX6_voids_57 : decode cX6_voids 57 = .ok (.goto 4, 3) := by decide +kernel
theorem dX6_voids_60 : decode cX6_voids 60 = .ok (.iconst 0, 1) := by decide +kernel
theorem dX6_voids_61 : decode cX6_voids 61 = .ok (.istore 5, 2) := by decide +kernel
theorem dX6_voids_63 : decode cX6_voids 63 = .ok (.aload_n 0, 1) := by decide +kernel
theorem dX6_voids_64 : decode cX6_voids 64 = .ok (.getfield 7, 3) := by decide +kernel
theorem dX6_voids_67 : decode cX6_voids 67 = .ok (.bipush 21, 2) := by decide +kernel
theorem dX6_voids_69 : decode cX6_voids 69 = .ok (.iload 4, 2) := by decide +kernel
theorem dX6_voids_71 : decode cX6_voids 71 = .ok (.iadd, 1) := by decide +kernel
theorem dX6_voids_72 : decode cX6_voids 72 = .ok (.iload 5, 2) := by decide +kernel
theorem dX6_voids_74 : decode cX6_voids 74 = .ok (.ifCond .eq 7, 3) := by decide +kernel
theorem dX6_voids_77 : decode cX6_voids 77 = .ok (.iconst 3, 1) := by decide +kernel
theorem dX6_voids_78 : decode cX6_voids 78 = .ok (.goto 13, 3) := by decide +kernel
theorem dX6_voids_81 : decode cX6_voids 81 = .ok (.aload_n 0, 1) := by decide +kernel
theorem dX6_voids_82 : decode cX6_voids 82 = .ok (.getfield 7, 3) := by decide +kernel
theorem dX6_voids_85 : decode cX6_voids 85 = .ok (.bipush 21, 2) := by decide +kernel
theorem dX6_voids_87 : decode cX6_voids 87 = .ok (.iload 4, 2) := by decide +kernel
theorem dX6_voids_89 : decode cX6_voids 89 = .ok (.iadd, 1) := by decide +kernel
theorem dX6_voids_90 : decode cX6_voids 90 = .ok (.iaload, 1) := by decide +kernel
theorem dX6_voids_91 : decode cX6_voids 91 = .ok (.iastore, 1) := by decide +kernel
theorem dX6_voids_92 : decode cX6_voids 92 = .ok (.aload_n 0, 1) := by decide +kernel
theorem dX6_voids_93 : decode cX6_voids 93 = .ok (.getfield 7, 3) := by decide +kernel
theorem dX6_voids_96 : decode cX6_voids 96 = .ok (.sipush 261, 3) := by decide +kernel
theorem dX6_voids_99 : decode cX6_voids 99 = .ok (.iload 4, 2) := by decide +kernel
theorem dX6_voids_101 : decode cX6_voids 101 = .ok (.iadd, 1) := by decide +kernel
theorem dX6_voids_102 : decode cX6_voids 102 = .ok (.iload 5, 2) := by decide +kernel
theorem dX6_voids_104 : decode cX6_voids 104 = .ok (.ifCond .eq 7, 3) := by decide +kernel
theorem dX6_voids_107 : decode cX6_voids 107 = .ok (.iconst 0, 1) := by decide +kernel
theorem dX6_voids_108 : decode cX6_voids 108 = .ok (.goto 14, 3) := by decide +kernel
theorem dX6_voids_111 : decode cX6_voids 111 = .ok (.aload_n 0, 1) := by decide +kernel
theorem dX6_voids_112 : decode cX6_voids 112 = .ok (.getfield 7, 3) := by decide +kernel
theorem dX6_voids_115 : decode cX6_voids 115 = .ok (.sipush 261, 3) := by decide +kernel
theorem dX6_voids_118 : decode cX6_voids 118 = .ok (.iload 4, 2) := by decide +kernel
theorem dX6_voids_120 : decode cX6_voids 120 = .ok (.iadd, 1) := by decide +kernel
theorem dX6_voids_121 : decode cX6_voids 121 = .ok (.iaload, 1) := by decide +kernel
theorem dX6_voids_122 : decode cX6_voids 122 = .ok (.iastore, 1) := by decide +kernel
theorem dX6_voids_123 : decode cX6_voids 123 = .ok (.iload_n 3, 1) := by decide +kernel
theorem dX6_voids_124 : decode cX6_voids 124 = .ok (.iload 5, 2) := by decide +kernel
theorem dX6_voids_126 : decode cX6_voids 126 = .ok (.ifCond .eq 7, 3) := by decide +kernel
theorem dX6_voids_129 : decode cX6_voids 129 = .ok (.iconst 1, 1) := by decide +kernel
theorem dX6_voids_130 : decode cX6_voids 130 = .ok (.goto 4, 3) := by decide +kernel
theorem dX6_voids_133 : decode cX6_voids 133 = .ok (.iconst 0, 1) := by decide +kernel
theorem dX6_voids_134 : decode cX6_voids 134 = .ok (.iadd, 1) := by decide +kernel
theorem dX6_voids_135 : decode cX6_voids 135 = .ok (.istore_n 3, 1) := by decide +kernel
theorem dX6_voids_136 : decode cX6_voids 136 = .ok (.iinc 4 1, 3) := by decide +kernel
theorem dX6_voids_139 : decode cX6_voids 139 = .ok (.goto (-134), 3) := by decide +kernel
theorem dX6_voids_142 : decode cX6_voids 142 = .ok (.iload_n 3, 1) := by decide +kernel
theorem dX6_voids_143 : decode cX6_voids 143 = .ok (.ireturn, 1) := by decide +kernel
theorem dX6_weight_0 : decode cX6_weight 0 = .ok (.aload_n 0, 1) := by decide +kernel
theorem dX6_weight_1 : decode cX6_weight 1 = .ok (.iconst 0, 1) := by decide +kernel
theorem dX6_weight_2 : decode cX6_weight 2 = .ok (.putfield 28, 3) := by decide +kernel
theorem dX6_weight_5 : decode cX6_weight 5 = .ok (.iload_n 1, 1) := by decide +kernel
theorem dX6_weight_6 : decode cX6_weight 6 = .ok (.iconst 0, 1) := by decide +kernel
theorem dX6_weight_7 : decode cX6_weight 7 = .ok (.iconst 5, 1) := by decide +kernel
theorem dX6_weight_8 : decode cX6_weight 8 = .ok (.invokestatic 33, 3) := by decide +kernel
theorem dX6_weight_11 : decode cX6_weight 11 = .ok (.ifCond .ne 9, 3) := by decide +kernel
theorem dX6_weight_14 : decode cX6_weight 14 = .ok (.aload_n 0, 1) := by decide +kernel
theorem dX6_weight_15 : decode cX6_weight 15 = .ok (.iconst 1, 1) := by decide +kernel
theorem dX6_weight_16 : decode cX6_weight 16 = .ok (.invokevirtual 72, 3) := by decide +kernel
theorem dX6_weight_19 : decode cX6_weight 19 = .ok (.ireturn, 1) := by decide +kernel
theorem dX6_weight_20 : decode cX6_weight 20 = .ok (.iload_n 2, 1) := by decide +kernel
theorem dX6_weight_21 : decode cX6_weight 21 = .ok (.iconst 1, 1) := by decide +kernel
theorem dX6_weight_22 : decode cX6_weight 22 = .ok (.bipush 9, 2) := by decide +kernel
theorem dX6_weight_24 : decode cX6_weight 24 = .ok (.invokestatic 33, 3) := by decide +kernel
theorem dX6_weight_27 : decode cX6_weight 27 = .ok (.ifCond .ne 9, 3) := by decide +kernel
theorem dX6_weight_30 : decode cX6_weight 30 = .ok (.aload_n 0, 1) := by decide +kernel
theorem dX6_weight_31 : decode cX6_weight 31 = .ok (.iconst 2, 1) := by decide +kernel
theorem dX6_weight_32 : decode cX6_weight 32 = .ok (.invokevirtual 72, 3) := by decide +kernel
theorem dX6_weight_35 : decode cX6_weight 35 = .ok (.ireturn, 1) := by decide +kernel
theorem dX6_weight_36 : decode cX6_weight 36 = .ok (.aload_n 0, 1) := by decide +kernel
theorem dX6_weight_37 : decode cX6_weight 37 = .ok (.invokevirtual 75, 3) := by decide +kernel
theorem dX6_weight_40 : decode cX6_weight 40 = .ok (.aload_n 0, 1) := by decide +kernel
theorem dX6_weight_41 : decode cX6_weight 41 = .ok (.getfield 7, 3) := by decide +kernel
theorem dX6_weight_44 : decode cX6_weight 44 = .ok (.iconst 3, 1) := by decide +kernel
theorem dX6_weight_45 : decode cX6_weight 45 = .ok (.iload_n 1, 1) := by decide +kernel
theorem dX6_weight_46 : decode cX6_weight 46 = .ok (.iadd, 1) := by decide +kernel
theorem dX6_weight_47 : decode cX6_weight 47 = .ok (.iaload, 1) := by decide +kernel
theorem dX6_weight_48 : decode cX6_weight 48 = .ok (.istore_n 3, 1) := by decide +kernel
theorem dX6_weight_49 : decode cX6_weight 49 = .ok (.aload_n 0, 1) := by decide +kernel
theorem dX6_weight_50 : decode cX6_weight 50 = .ok (.getfield 7, 3) := by decide +kernel
theorem dX6_weight_53 : decode cX6_weight 53 = .ok (.iconst 3, 1) := by decide +kernel
theorem dX6_weight_54 : decode cX6_weight 54 = .ok (.iload_n 1, 1) := by decide +kernel
theorem dX6_weight_55 : decode cX6_weight 55 = .ok (.iadd, 1) := by decide +kernel
theorem dX6_weight_56 : decode cX6_weight 56 = .ok (.iload_n 2, 1) := by decide +kernel
theorem dX6_weight_57 : decode cX6_weight 57 = .ok (.iastore, 1) := by decide +kernel
theorem dX6_weight_58 : decode cX6_weight 58 = .ok (.iload_n 3, 1) := by decide +kernel
theorem dX6_weight_59 : decode cX6_weight 59 = .ok (.ireturn, 1) := by decide +kernel
theorem dX6_modulus_0 : decode cX6_modulus 0 = .ok (.aload_n 0, 1) := by decide +kernel
theorem dX6_modulus_1 : decode cX6_modulus 1 = .ok (.iconst 0, 1) := by decide +kernel
theorem dX6_modulus_2 : decode cX6_modulus 2 = .ok (.putfield 28, 3) := by decide +kernel
theorem dX6_modulus_5 : decode cX6_modulus 5 = .ok (.iload_n 1, 1) := by decide +kernel
theorem dX6_modulus_6 : decode cX6_modulus 6 = .ok (.bipush 7, 2) := by decide +kernel
theorem dX6_modulus_8 : decode cX6_modulus 8 = .ok (.bipush 26, 2) := by decide +kernel
theorem dX6_modulus_10 : decode cX6_modulus 10 = .ok (.invokestatic 33, 3) := by decide +kernel
theorem dX6_modulus_13 : decode cX6_modulus 13 = .ok (.ifCond .ne 9, 3) := by decide +kernel
theorem dX6_modulus_16 : decode cX6_modulus 16 = .ok (.aload_n 0, 1) := by decide +kernel
theorem dX6_modulus_17 : decode cX6_modulus 17 = .ok (.iconst 1, 1) := by decide +kernel
theorem dX6_modulus_18 : decode cX6_modulus 18 = .ok (.invokevirtual 72, 3) := by decide +kernel
theorem dX6_modulus_21 : decode cX6_modulus 21 = .ok (.ireturn, 1) := by decide +kernel
theorem dX6_modulus_22 : decode cX6_modulus 22 = .ok (.aload_n 0, 1) := by decide +kernel
theorem dX6_modulus_23 : decode cX6_modulus 23 = .ok (.invokevirtual 75, 3) := by decide +kernel
theorem dX6_modulus_26 : decode cX6_modulus 26 = .ok (.aload_n 0, 1) := by decide +kernel
theorem dX6_modulus_27 : decode cX6_modulus 27 = .ok (.getfield 7, 3) := by decide +kernel
theorem dX6_modulus_30 : decode cX6_modulus 30 = .ok (.iconst 1, 1) := by decide +kernel
theorem dX6_modulus_31 : decode cX6_modulus 31 = .ok (.iaload, 1) := by decide +kernel
theorem dX6_modulus_32 : decode cX6_modulus 32 = .ok (.istore_n 2, 1) := by decide +kernel
theorem dX6_modulus_33 : decode cX6_modulus 33 = .ok (.aload_n 0, 1) := by decide +kernel
theorem dX6_modulus_34 : decode cX6_modulus 34 = .ok (.getfield 7, 3) := by decide +kernel
theorem dX6_modulus_37 : decode cX6_modulus 37 = .ok (.iconst 1, 1) := by decide +kernel
theorem dX6_modulus_38 : decode cX6_modulus 38 = .ok (.iload_n 1, 1) := by decide +kernel
theorem dX6_modulus_39 : decode cX6_modulus 39 = .ok (.iastore, 1) := by decide +kernel
theorem dX6_modulus_40 : decode cX6_modulus 40 = .ok (.iload_n 2, 1) := by decide +kernel
theorem dX6_modulus_41 : decode cX6_modulus 41 = .ok (.ireturn, 1) := by decide +kernel
theorem dX6_book_0 : decode cX6_book 0 = .ok (.aload_n 0, 1) := by decide +kernel
theorem dX6_book_1 : decode cX6_book 1 = .ok (.iconst 0, 1) := by decide +kernel
theorem dX6_book_2 : decode cX6_book 2 = .ok (.putfield 28, 3) := by decide +kernel
theorem dX6_book_5 : decode cX6_book 5 = .ok (.iload_n 1, 1) := by decide +kernel
theorem dX6_book_6 : decode cX6_book 6 = .ok (.invokestatic 78, 3) := by decide +kernel
theorem dX6_book_9 : decode cX6_book 9 = .ok (.ifCond .ne 9, 3) := by decide +kernel
theorem dX6_book_12 : decode cX6_book 12 = .ok (.aload_n 0, 1) := by decide +kernel
theorem dX6_book_13 : decode cX6_book 13 = .ok (.iconst 1, 1) := by decide +kernel
theorem dX6_book_14 : decode cX6_book 14 = .ok (.invokevirtual 72, 3) := by decide +kernel
theorem dX6_book_17 : decode cX6_book 17 = .ok (.ireturn, 1) := by decide +kernel
theorem dX6_book_18 : decode cX6_book 18 = .ok (.iload_n 2, 1) := by decide +kernel
theorem dX6_book_19 : decode cX6_book 19 = .ok (.iconst 1, 1) := by decide +kernel
theorem dX6_book_20 : decode cX6_book 20 = .ok (.bipush 40, 2) := by decide +kernel
theorem dX6_book_22 : decode cX6_book 22 = .ok (.invokestatic 33, 3) := by decide +kernel
theorem dX6_book_25 : decode cX6_book 25 = .ok (.ifCond .ne 9, 3) := by decide +kernel
theorem dX6_book_28 : decode cX6_book 28 = .ok (.aload_n 0, 1) := by decide +kernel
theorem dX6_book_29 : decode cX6_book 29 = .ok (.iconst 2, 1) := by decide +kernel
theorem dX6_book_30 : decode cX6_book 30 = .ok (.invokevirtual 72, 3) := by decide +kernel
theorem dX6_book_33 : decode cX6_book 33 = .ok (.ireturn, 1) := by decide +kernel
theorem dX6_book_34 : decode cX6_book 34 = .ok (.iload_n 1, 1) := by decide +kernel
theorem dX6_book_35 : decode cX6_book 35 = .ok (.iload_n 2, 1) := by decide +kernel
theorem dX6_book_36 : decode cX6_book 36 = .ok (.iadd, 1) := by decide +kernel
theorem dX6_book_37 : decode cX6_book 37 = .ok (.iconst 1, 1) := by decide +kernel
theorem dX6_book_38 : decode cX6_book 38 = .ok (.isub, 1) := by decide +kernel
theorem dX6_book_39 : decode cX6_book 39 = .ok (.invokestatic 78, 3) := by decide +kernel
theorem dX6_book_42 : decode cX6_book 42 = .ok (.ifCond .ne 9, 3) := by decide +kernel
theorem dX6_book_45 : decode cX6_book 45 = .ok (.aload_n 0, 1) := by decide +kernel
theorem dX6_book_46 : decode cX6_book 46 = .ok (.iconst 1, 1) := by decide +kernel
theorem dX6_book_47 : decode cX6_book 47 = .ok (.invokevirtual 72, 3) := by decide +kernel
theorem dX6_book_50 : decode cX6_book 50 = .ok (.ireturn, 1) := by decide +kernel
theorem dX6_book_51 : decode cX6_book 51 = .ok (.aload_n 0, 1) := by decide +kernel
theorem dX6_book_52 : decode cX6_book 52 = .ok (.iload_n 1, 1) := by decide +kernel
theorem dX6_book_53 : decode cX6_book 53 = .ok (.iload_n 2, 1) := by decide +kernel
theorem dX6_book_54 : decode cX6_book 54 = .ok (.invokevirtual 81, 3) := by decide +kernel
theorem dX6_book_57 : decode cX6_book 57 = .ok (.ifCond .ne 9, 3) := by decide +kernel
theorem dX6_book_60 : decode cX6_book 60 = .ok (.aload_n 0, 1) := by decide +kernel
theorem dX6_book_61 : decode cX6_book 61 = .ok (.iconst 3, 1) := by decide +kernel
theorem dX6_book_62 : decode cX6_book 62 = .ok (.invokevirtual 72, 3) := by decide +kernel
theorem dX6_book_65 : decode cX6_book 65 = .ok (.ireturn, 1) := by decide +kernel
theorem dX6_book_66 : decode cX6_book 66 = .ok (.aload_n 0, 1) := by decide +kernel
theorem dX6_book_67 : decode cX6_book 67 = .ok (.invokevirtual 75, 3) := by decide +kernel
theorem dX6_book_70 : decode cX6_book 70 = .ok (.aload_n 0, 1) := by decide +kernel
theorem dX6_book_71 : decode cX6_book 71 = .ok (.iload_n 1, 1) := by decide +kernel
theorem dX6_book_72 : decode cX6_book 72 = .ok (.iload_n 2, 1) := by decide +kernel
theorem dX6_book_73 : decode cX6_book 73 = .ok (.invokevirtual 84, 3) := by decide +kernel
theorem dX6_book_76 : decode cX6_book 76 = .ok (.ireturn, 1) := by decide +kernel
theorem dX6_write_0 : decode cX6_write 0 = .ok (.aload_n 0, 1) := by decide +kernel
theorem dX6_write_1 : decode cX6_write 1 = .ok (.iconst 0, 1) := by decide +kernel
theorem dX6_write_2 : decode cX6_write 2 = .ok (.putfield 28, 3) := by decide +kernel
theorem dX6_write_5 : decode cX6_write 5 = .ok (.aload_n 0, 1) := by decide +kernel
theorem dX6_write_6 : decode cX6_write 6 = .ok (.iload_n 1, 1) := by decide +kernel
theorem dX6_write_7 : decode cX6_write 7 = .ok (.invokevirtual 59, 3) := by decide +kernel
theorem dX6_write_10 : decode cX6_write 10 = .ok (.istore_n 3, 1) := by decide +kernel
theorem dX6_write_11 : decode cX6_write 11 = .ok (.iload_n 3, 1) := by decide +kernel
theorem dX6_write_12 : decode cX6_write 12 = .ok (.iconst (-1), 1) := by decide +kernel
theorem dX6_write_13 : decode cX6_write 13 = .ok (.if_icmp .ne 9, 3) := by decide +kernel
theorem dX6_write_16 : decode cX6_write 16 = .ok (.aload_n 0, 1) := by decide +kernel
theorem dX6_write_17 : decode cX6_write 17 = .ok (.iconst 1, 1) := by decide +kernel
theorem dX6_write_18 : decode cX6_write 18 = .ok (.invokevirtual 72, 3) := by decide +kernel
theorem dX6_write_21 : decode cX6_write 21 = .ok (.ireturn, 1) := by decide +kernel
theorem dX6_write_22 : decode cX6_write 22 = .ok (.iload_n 2, 1) := by decide +kernel
theorem dX6_write_23 : decode cX6_write 23 = .ok (.iconst 1, 1) := by decide +kernel
theorem dX6_write_24 : decode cX6_write 24 = .ok (.sipush 999, 3) := by decide +kernel
theorem dX6_write_27 : decode cX6_write 27 = .ok (.invokestatic 33, 3) := by decide +kernel
theorem dX6_write_30 : decode cX6_write 30 = .ok (.ifCond .ne 9, 3) := by decide +kernel
theorem dX6_write_33 : decode cX6_write 33 = .ok (.aload_n 0, 1) := by decide +kernel
theorem dX6_write_34 : decode cX6_write 34 = .ok (.iconst 2, 1) := by decide +kernel
theorem dX6_write_35 : decode cX6_write 35 = .ok (.invokevirtual 72, 3) := by decide +kernel
theorem dX6_write_38 : decode cX6_write 38 = .ok (.ireturn, 1) := by decide +kernel
theorem dX6_write_39 : decode cX6_write 39 = .ok (.aload_n 0, 1) := by decide +kernel
theorem dX6_write_40 : decode cX6_write 40 = .ok (.getfield 7, 3) := by decide +kernel
theorem dX6_write_43 : decode cX6_write 43 = .ok (.bipush 21, 2) := by decide +kernel
theorem dX6_write_45 : decode cX6_write 45 = .ok (.iload_n 3, 1) := by decide +kernel
theorem dX6_write_46 : decode cX6_write 46 = .ok (.iadd, 1) := by decide +kernel
theorem dX6_write_47 : decode cX6_write 47 = .ok (.iaload, 1) := by decide +kernel
theorem dX6_write_48 : decode cX6_write 48 = .ok (.ifCond .eq 9, 3) := by decide +kernel
theorem dX6_write_51 : decode cX6_write 51 = .ok (.aload_n 0, 1) := by decide +kernel
theorem dX6_write_52 : decode cX6_write 52 = .ok (.iconst 3, 1) := by decide +kernel
theorem dX6_write_53 : decode cX6_write 53 = .ok (.invokevirtual 72, 3) := by decide +kernel
theorem dX6_write_56 : decode cX6_write 56 = .ok (.ireturn, 1) := by decide +kernel
theorem dX6_write_57 : decode cX6_write 57 = .ok (.aload_n 0, 1) := by decide +kernel
theorem dX6_write_58 : decode cX6_write 58 = .ok (.invokevirtual 75, 3) := by decide +kernel
theorem dX6_write_61 : decode cX6_write 61 = .ok (.aload_n 0, 1) := by decide +kernel
theorem dX6_write_62 : decode cX6_write 62 = .ok (.iload_n 3, 1) := by decide +kernel
theorem dX6_write_63 : decode cX6_write 63 = .ok (.iload_n 2, 1) := by decide +kernel
theorem dX6_write_64 : decode cX6_write 64 = .ok (.invokevirtual 87, 3) := by decide +kernel
theorem dX6_write_67 : decode cX6_write 67 = .ok (.aload_n 0, 1) := by decide +kernel
theorem dX6_write_68 : decode cX6_write 68 = .ok (.iload_n 1, 1) := by decide +kernel
theorem dX6_write_69 : decode cX6_write 69 = .ok (.invokevirtual 62, 3) := by decide +kernel
theorem dX6_write_72 : decode cX6_write 72 = .ok (.ireturn, 1) := by decide +kernel
theorem dX6_cash_0 : decode cX6_cash 0 = .ok (.aload_n 0, 1) := by decide +kernel
theorem dX6_cash_1 : decode cX6_cash 1 = .ok (.iconst 0, 1) := by decide +kernel
theorem dX6_cash_2 : decode cX6_cash 2 = .ok (.putfield 28, 3) := by decide +kernel
theorem dX6_cash_5 : decode cX6_cash 5 = .ok (.iload_n 1, 1) := by decide +kernel
theorem dX6_cash_6 : decode cX6_cash 6 = .ok (.invokestatic 78, 3) := by decide +kernel
theorem dX6_cash_9 : decode cX6_cash 9 = .ok (.ifCond .ne 9, 3) := by decide +kernel
theorem dX6_cash_12 : decode cX6_cash 12 = .ok (.aload_n 0, 1) := by decide +kernel
theorem dX6_cash_13 : decode cX6_cash 13 = .ok (.iconst 1, 1) := by decide +kernel
theorem dX6_cash_14 : decode cX6_cash 14 = .ok (.invokevirtual 72, 3) := by decide +kernel
theorem dX6_cash_17 : decode cX6_cash 17 = .ok (.ireturn, 1) := by decide +kernel
theorem dX6_cash_18 : decode cX6_cash 18 = .ok (.iload_n 2, 1) := by decide +kernel
theorem dX6_cash_19 : decode cX6_cash 19 = .ok (.invokestatic 91, 3) := by decide +kernel
theorem dX6_cash_22 : decode cX6_cash 22 = .ok (.ifCond .ne 9, 3) := by decide +kernel
theorem dX6_cash_25 : decode cX6_cash 25 = .ok (.aload_n 0, 1) := by decide +kernel
theorem dX6_cash_26 : decode cX6_cash 26 = .ok (.iconst 2, 1) := by decide +kernel
theorem dX6_cash_27 : decode cX6_cash 27 = .ok (.invokevirtual 72, 3) := by decide +kernel
theorem dX6_cash_30 : decode cX6_cash 30 = .ok (.ireturn, 1) := by decide +kernel
theorem dX6_cash_31 : decode cX6_cash 31 = .ok (.aload_n 0, 1) := by decide +kernel
theorem dX6_cash_32 : decode cX6_cash 32 = .ok (.invokevirtual 75, 3) := by decide +kernel
theorem dX6_cash_35 : decode cX6_cash 35 = .ok (.aload_n 0, 1) := by decide +kernel
theorem dX6_cash_36 : decode cX6_cash 36 = .ok (.iload_n 1, 1) := by decide +kernel
theorem dX6_cash_37 : decode cX6_cash 37 = .ok (.iload_n 2, 1) := by decide +kernel
theorem dX6_cash_38 : decode cX6_cash 38 = .ok (.invokevirtual 94, 3) := by decide +kernel
theorem dX6_cash_41 : decode cX6_cash 41 = .ok (.ireturn, 1) := by decide +kernel
theorem dX6_voidRun_0 : decode cX6_voidRun 0 = .ok (.aload_n 0, 1) := by decide +kernel
theorem dX6_voidRun_1 : decode cX6_voidRun 1 = .ok (.iconst 0, 1) := by decide +kernel
theorem dX6_voidRun_2 : decode cX6_voidRun 2 = .ok (.putfield 28, 3) := by decide +kernel
theorem dX6_voidRun_5 : decode cX6_voidRun 5 = .ok (.iload_n 1, 1) := by decide +kernel
theorem dX6_voidRun_6 : decode cX6_voidRun 6 = .ok (.invokestatic 78, 3) := by decide +kernel
theorem dX6_voidRun_9 : decode cX6_voidRun 9 = .ok (.ifCond .eq 10, 3) := by decide +kernel
theorem dX6_voidRun_12 : decode cX6_voidRun 12 = .ok (.iload_n 2, 1) := by decide +kernel
theorem dX6_voidRun_13 : decode cX6_voidRun 13 = .ok (.invokestatic 78, 3) := by decide +kernel
theorem dX6_voidRun_16 : decode cX6_voidRun 16 = .ok (.ifCond .ne 9, 3) := by decide +kernel
theorem dX6_voidRun_19 : decode cX6_voidRun 19 = .ok (.aload_n 0, 1) := by decide +kernel
theorem dX6_voidRun_20 : decode cX6_voidRun 20 = .ok (.iconst 1, 1) := by decide +kernel
theorem dX6_voidRun_21 : decode cX6_voidRun 21 = .ok (.invokevirtual 72, 3) := by decide +kernel
theorem dX6_voidRun_24 : decode cX6_voidRun 24 = .ok (.ireturn, 1) := by decide +kernel
theorem dX6_voidRun_25 : decode cX6_voidRun 25 = .ok (.iload_n 2, 1) := by decide +kernel
theorem dX6_voidRun_26 : decode cX6_voidRun 26 = .ok (.iload_n 1, 1) := by decide +kernel
theorem dX6_voidRun_27 : decode cX6_voidRun 27 = .ok (.if_icmp .ge 9, 3) := by decide +kernel
theorem dX6_voidRun_30 : decode cX6_voidRun 30 = .ok (.aload_n 0, 1) := by decide +kernel
theorem dX6_voidRun_31 : decode cX6_voidRun 31 = .ok (.iconst 2, 1) := by decide +kernel
theorem dX6_voidRun_32 : decode cX6_voidRun 32 = .ok (.invokevirtual 72, 3) := by decide +kernel
theorem dX6_voidRun_35 : decode cX6_voidRun 35 = .ok (.ireturn, 1) := by decide +kernel
theorem dX6_voidRun_36 : decode cX6_voidRun 36 = .ok (.aload_n 0, 1) := by decide +kernel
theorem dX6_voidRun_37 : decode cX6_voidRun 37 = .ok (.invokevirtual 75, 3) := by decide +kernel
theorem dX6_voidRun_40 : decode cX6_voidRun 40 = .ok (.aload_n 0, 1) := by decide +kernel
theorem dX6_voidRun_41 : decode cX6_voidRun 41 = .ok (.iload_n 1, 1) := by decide +kernel
theorem dX6_voidRun_42 : decode cX6_voidRun 42 = .ok (.iload_n 2, 1) := by decide +kernel
theorem dX6_voidRun_43 : decode cX6_voidRun 43 = .ok (.invokevirtual 97, 3) := by decide +kernel
theorem dX6_voidRun_46 : decode cX6_voidRun 46 = .ok (.ireturn, 1) := by decide +kernel
theorem dX6_append_0 : decode cX6_append 0 = .ok (.aload_n 0, 1) := by decide +kernel
theorem dX6_append_1 : decode cX6_append 1 = .ok (.iconst 0, 1) := by decide +kernel
theorem dX6_append_2 : decode cX6_append 2 = .ok (.putfield 28, 3) := by decide +kernel
theorem dX6_append_5 : decode cX6_append 5 = .ok (.iload_n 1, 1) := by decide +kernel
theorem dX6_append_6 : decode cX6_append 6 = .ok (.bipush 33, 2) := by decide +kernel
theorem dX6_append_8 : decode cX6_append 8 = .ok (.bipush 126, 2) := by decide +kernel
theorem dX6_append_10 : decode cX6_append 10 = .ok (.invokestatic 33, 3) := by decide +kernel
theorem dX6_append_13 : decode cX6_append 13 = .ok (.ifCond .ne 9, 3) := by decide +kernel
theorem dX6_append_16 : decode cX6_append 16 = .ok (.aload_n 0, 1) := by decide +kernel
theorem dX6_append_17 : decode cX6_append 17 = .ok (.iconst 1, 1) := by decide +kernel
theorem dX6_append_18 : decode cX6_append 18 = .ok (.invokevirtual 72, 3) := by decide +kernel
theorem dX6_append_21 : decode cX6_append 21 = .ok (.ireturn, 1) := by decide +kernel
theorem dX6_append_22 : decode cX6_append 22 = .ok (.aload_n 0, 1) := by decide +kernel
theorem dX6_append_23 : decode cX6_append 23 = .ok (.getfield 100, 3) := by decide +kernel
theorem dX6_append_26 : decode cX6_append 26 = .ok (.bipush 60, 2) := by decide +kernel
theorem dX6_append_28 : decode cX6_append 28 = .ok (.if_icmp .ne 9, 3) := by decide +kernel
theorem dX6_append_31 : decode cX6_append 31 = .ok (.aload_n 0, 1) := by decide +kernel
theorem dX6_append_32 : decode cX6_append 32 = .ok (.iconst 2, 1) := by decide +kernel
theorem dX6_append_33 : decode cX6_append 33 = .ok (.invokevirtual 72, 3) := by decide +kernel
theorem dX6_append_36 : decode cX6_append 36 = .ok (.ireturn, 1) := by decide +kernel
theorem dX6_append_37 : decode cX6_append 37 = .ok (.aload_n 0, 1) := by decide +kernel
theorem dX6_append_38 : decode cX6_append 38 = .ok (.getfield 22, 3) := by decide +kernel
theorem dX6_append_41 : decode cX6_append 41 = .ok (.aload_n 0, 1) := by decide +kernel
theorem dX6_append_42 : decode cX6_append 42 = .ok (.getfield 100, 3) := by decide +kernel
theorem dX6_append_45 : decode cX6_append 45 = .ok (.iload_n 1, 1) := by decide +kernel
theorem dX6_append_46 : decode cX6_append 46 = .ok (.iastore, 1) := by decide +kernel
theorem dX6_append_47 : decode cX6_append 47 = .ok (.aload_n 0, 1) := by decide +kernel
theorem dX6_append_48 : decode cX6_append 48 = .ok (.dup, 1) := by decide +kernel
theorem dX6_append_49 : decode cX6_append 49 = .ok (.getfield 100, 3) := by decide +kernel
theorem dX6_append_52 : decode cX6_append 52 = .ok (.iconst 1, 1) := by decide +kernel
theorem dX6_append_53 : decode cX6_append 53 = .ok (.iadd, 1) := by decide +kernel
theorem dX6_append_54 : decode cX6_append 54 = .ok (.putfield 100, 3) := by decide +kernel
theorem dX6_append_57 : decode cX6_append 57 = .ok (.aload_n 0, 1) := by decide +kernel
theorem dX6_append_58 : decode cX6_append 58 = .ok (.getfield 100, 3) := by decide +kernel
theorem dX6_append_61 : decode cX6_append 61 = .ok (.ireturn, 1) := by decide +kernel
theorem dX6_clearBuffer_0 : decode cX6_clearBuffer 0 = .ok (.aload_n 0, 1) := by decide +kernel
theorem dX6_clearBuffer_1 : decode cX6_clearBuffer 1 = .ok (.iconst 0, 1) := by decide +kernel
theorem dX6_clearBuffer_2 : decode cX6_clearBuffer 2 = .ok (.putfield 28, 3) := by decide +kernel
theorem dX6_clearBuffer_5 : decode cX6_clearBuffer 5 = .ok (.aload_n 0, 1) := by decide +kernel
theorem dX6_clearBuffer_6 : decode cX6_clearBuffer 6 = .ok (.getfield 100, 3) := by decide +kernel
theorem dX6_clearBuffer_9 : decode cX6_clearBuffer 9 = .ok (.istore_n 1, 1) := by decide +kernel
theorem dX6_clearBuffer_10 : decode cX6_clearBuffer 10 = .ok (.aload_n 0, 1) := by decide +kernel
theorem dX6_clearBuffer_11 : decode cX6_clearBuffer 11 = .ok (.iconst 0, 1) := by decide +kernel
theorem dX6_clearBuffer_12 : decode cX6_clearBuffer 12 = .ok (.putfield 100, 3) := by decide +kernel
theorem dX6_clearBuffer_15 : decode cX6_clearBuffer 15 = .ok (.iload_n 1, 1) := by decide +kernel
theorem dX6_clearBuffer_16 : decode cX6_clearBuffer 16 = .ok (.ireturn, 1) := by decide +kernel
theorem dX6_sees_0 : decode cX6_sees 0 = .ok (.aload_n 0, 1) := by decide +kernel
theorem dX6_sees_1 : decode cX6_sees 1 = .ok (.getfield 103, 3) := by decide +kernel
theorem dX6_sees_4 : decode cX6_sees 4 = .ok (.aload_n 0, 1) := by decide +kernel
theorem dX6_sees_5 : decode cX6_sees 5 = .ok (.getfield 100, 3) := by decide +kernel
theorem dX6_sees_8 : decode cX6_sees 8 = .ok (.if_icmp .ge 24, 3) := by decide +kernel
theorem dX6_sees_11 : decode cX6_sees 11 = .ok (.aload_n 0, 1) := by decide +kernel
theorem dX6_sees_12 : decode cX6_sees 12 = .ok (.getfield 22, 3) := by decide +kernel
theorem dX6_sees_15 : decode cX6_sees 15 = .ok (.aload_n 0, 1) := by decide +kernel
theorem dX6_sees_16 : decode cX6_sees 16 = .ok (.getfield 103, 3) := by decide +kernel
theorem dX6_sees_19 : decode cX6_sees 19 = .ok (.iaload, 1) := by decide +kernel
theorem dX6_sees_20 : decode cX6_sees 20 = .ok (.iload_n 1, 1) := by decide +kernel
theorem dX6_sees_21 : decode cX6_sees 21 = .ok (.iload_n 2, 1) := by decide +kernel
theorem dX6_sees_22 : decode cX6_sees 22 = .ok (.invokestatic 33, 3) := by decide +kernel
theorem dX6_sees_25 : decode cX6_sees 25 = .ok (.ifCond .eq 7, 3) := by decide +kernel
theorem dX6_sees_28 : decode cX6_sees 28 = .ok (.iconst 1, 1) := by decide +kernel
theorem dX6_sees_29 : decode cX6_sees 29 = .ok (.goto 4, 3) := by decide +kernel
theorem dX6_sees_32 : decode cX6_sees 32 = .ok (.iconst 0, 1) := by decide +kernel
theorem dX6_sees_33 : decode cX6_sees 33 = .ok (.ireturn, 1) := by decide +kernel
theorem dX6_takes_0 : decode cX6_takes 0 = .ok (.aload_n 0, 1) := by decide +kernel
theorem dX6_takes_1 : decode cX6_takes 1 = .ok (.iload_n 1, 1) := by decide +kernel
theorem dX6_takes_2 : decode cX6_takes 2 = .ok (.iload_n 1, 1) := by decide +kernel
theorem dX6_takes_3 : decode cX6_takes 3 = .ok (.invokevirtual 106, 3) := by decide +kernel
theorem dX6_takes_6 : decode cX6_takes 6 = .ok (.istore_n 2, 1) := by decide +kernel
theorem dX6_takes_7 : decode cX6_takes 7 = .ok (.aload_n 0, 1) := by decide +kernel
theorem dX6_takes_8 : decode cX6_takes 8 = .ok (.dup, 1) := by decide +kernel
theorem dX6_takes_9 : decode cX6_takes 9 = .ok (.getfield 103, 3) := by decide +kernel
theorem dX6_takes_12 : decode cX6_takes 12 = .ok (.iload_n 2, 1) := by decide +kernel
theorem dX6_takes_13 : decode cX6_takes 13 = .ok (.ifCond .eq 7, 3) := by decide +kernel
theorem dX6_takes_16 : decode cX6_takes 16 = .ok (.iconst 1, 1) := by decide +kernel
theorem dX6_takes_17 : decode cX6_takes 17 = .ok (.goto 4, 3) := by decide +kernel
theorem dX6_takes_20 : decode cX6_takes 20 = .ok (.iconst 0, 1) := by decide +kernel
theorem dX6_takes_21 : decode cX6_takes 21 = .ok (.iadd, 1) := by decide +kernel
theorem dX6_takes_22 : decode cX6_takes 22 = .ok (.putfield 103, 3) := by decide +kernel
theorem dX6_takes_25 : decode cX6_takes 25 = .ok (.iload_n 2, 1) := by decide +kernel
theorem dX6_takes_26 : decode cX6_takes 26 = .ok (.ireturn, 1) := by decide +kernel
theorem dX6_isSix_0 : decode cX6_isSix 0 = .ok (.iconst 0, 1) := by decide +kernel
theorem dX6_isSix_1 : decode cX6_isSix 1 = .ok (.istore_n 2, 1) := by decide +kernel
theorem dX6_isSix_2 : decode cX6_isSix 2 = .ok (.iconst 0, 1) := by decide +kernel
theorem dX6_isSix_3 : decode cX6_isSix 3 = .ok (.istore_n 3, 1) := by decide +kernel
theorem dX6_isSix_4 : decode cX6_isSix 4 = .ok (.iload_n 3, 1) := by decide +kernel
theorem dX6_isSix_5 : decode cX6_isSix 5 = .ok (.bipush 6, 2) := by decide +kernel
theorem dX6_isSix_7 : decode cX6_isSix 7 = .ok (.if_icmp .ge 50, 3) := by decide +kernel
theorem dX6_isSix_10 : decode cX6_isSix 10 = .ok (.aload_n 0, 1) := by decide +kernel
theorem dX6_isSix_11 : decode cX6_isSix 11 = .ok (.bipush 48, 2) := by decide +kernel
theorem dX6_isSix_13 : decode cX6_isSix 13 = .ok (.bipush 57, 2) := by decide +kernel
theorem dX6_isSix_15 : decode cX6_isSix 15 = .ok (.invokevirtual 106, 3) := by decide +kernel
theorem dX6_isSix_18 : decode cX6_isSix 18 = .ok (.ifCond .ne 5, 3) := by decide +kernel
theorem dX6_isSix_21 : decode cX6_isSix 21 = .ok (.iconst 0, 1) := by decide +kernel
theorem dX6_isSix_22 : decode cX6_isSix 22 = .ok (.ireturn, 1) := by decide +kernel
theorem dX6_isSix_23 : decode cX6_isSix 23 = .ok (.bipush 10, 2) := by decide +kernel
theorem dX6_isSix_25 : decode cX6_isSix 25 = .ok (.iload_n 2, 1) := by decide +kernel
theorem dX6_isSix_26 : decode cX6_isSix 26 = .ok (.imul, 1) := by decide +kernel
theorem dX6_isSix_27 : decode cX6_isSix 27 = .ok (.aload_n 0, 1) := by decide +kernel
theorem dX6_isSix_28 : decode cX6_isSix 28 = .ok (.getfield 22, 3) := by decide +kernel
theorem dX6_isSix_31 : decode cX6_isSix 31 = .ok (.aload_n 0, 1) := by decide +kernel
theorem dX6_isSix_32 : decode cX6_isSix 32 = .ok (.getfield 103, 3) := by decide +kernel
theorem dX6_isSix_35 : decode cX6_isSix 35 = .ok (.iaload, 1) := by decide +kernel
theorem dX6_isSix_36 : decode cX6_isSix 36 = .ok (.iadd, 1) := by decide +kernel
theorem dX6_isSix_37 : decode cX6_isSix 37 = .ok (.bipush 48, 2) := by decide +kernel
theorem dX6_isSix_39 : decode cX6_isSix 39 = .ok (.isub, 1) := by decide +kernel
theorem dX6_isSix_40 : decode cX6_isSix 40 = .ok (.istore_n 2, 1) := by decide +kernel
theorem dX6_isSix_41 : decode cX6_isSix 41 = .ok (.aload_n 0, 1) := by decide +kernel
theorem dX6_isSix_42 : decode cX6_isSix 42 = .ok (.dup, 1) := by decide +kernel
theorem dX6_isSix_43 : decode cX6_isSix 43 = .ok (.getfield 103, 3) := by decide +kernel
theorem dX6_isSix_46 : decode cX6_isSix 46 = .ok (.iconst 1, 1) := by decide +kernel
theorem dX6_isSix_47 : decode cX6_isSix 47 = .ok (.iadd, 1) := by decide +kernel
theorem dX6_isSix_48 : decode cX6_isSix 48 = .ok (.putfield 103, 3) := by decide +kernel
theorem dX6_isSix_51 : decode cX6_isSix 51 = .ok (.iinc 3 1, 3) := by decide +kernel
theorem dX6_isSix_54 : decode cX6_isSix 54 = .ok (.goto (-50), 3) := by decide +kernel
theorem dX6_isSix_57 : decode cX6_isSix 57 = .ok (.aload_n 0, 1) := by decide +kernel
theorem dX6_isSix_58 : decode cX6_isSix 58 = .ok (.getfield 25, 3) := by decide +kernel
theorem dX6_isSix_61 : decode cX6_isSix 61 = .ok (.iconst 3, 1) := by decide +kernel
theorem dX6_isSix_62 : decode cX6_isSix 62 = .ok (.aload_n 0, 1) := by decide +kernel
theorem dX6_isSix_63 : decode cX6_isSix 63 = .ok (.getfield 109, 3) := by decide +kernel
theorem dX6_isSix_66 : decode cX6_isSix 66 = .ok (.imul, 1) := by decide +kernel
theorem dX6_isSix_67 : decode cX6_isSix 67 = .ok (.iload_n 1, 1) := by decide +kernel
theorem dX6_isSix_68 : decode cX6_isSix 68 = .ok (.iadd, 1) := by decide +kernel
theorem dX6_isSix_69 : decode cX6_isSix 69 = .ok (.iload_n 2, 1) := by decide +kernel
theorem dX6_isSix_70 : decode cX6_isSix 70 = .ok (.iastore, 1) := by decide +kernel
theorem dX6_isSix_71 : decode cX6_isSix 71 = .ok (.iconst 1, 1) := by decide +kernel
theorem dX6_isSix_72 : decode cX6_isSix 72 = .ok (.ireturn, 1) := by decide +kernel
theorem dX6_isNumber_0 : decode cX6_isNumber 0 = .ok (.aload_n 0, 1) := by decide +kernel
theorem dX6_isNumber_1 : decode cX6_isNumber 1 = .ok (.bipush 49, 2) := by decide +kernel
theorem dX6_isNumber_3 : decode cX6_isNumber 3 = .ok (.bipush 57, 2) := by decide +kernel
theorem dX6_isNumber_5 : decode cX6_isNumber 5 = .ok (.invokevirtual 106, 3) := by decide +kernel
theorem dX6_isNumber_8 : decode cX6_isNumber 8 = .ok (.ifCond .ne 5, 3) := by decide +kernel
theorem dX6_isNumber_11 : decode cX6_isNumber 11 = .ok (.iconst 0, 1) := by decide +kernel
theorem dX6_isNumber_12 : decode cX6_isNumber 12 = .ok (.ireturn, 1) := by decide +kernel
theorem dX6_isNumber_13 : decode cX6_isNumber 13 = .ok (.iconst 0, 1) := by decide +kernel
theorem dX6_isNumber_14 : decode cX6_isNumber 14 = .ok (.istore_n 2, 1) := by decide +kernel
theorem dX6_isNumber_15 : decode cX6_isNumber 15 = .ok (.aload_n 0, 1) := by decide +kernel
theorem dX6_isNumber_16 : decode cX6_isNumber 16 = .ok (.bipush 48, 2) := by decide +kernel
theorem dX6_isNumber_18 : decode cX6_isNumber 18 = .ok (.bipush 57, 2) := by decide +kernel
theorem dX6_isNumber_20 : decode cX6_isNumber 20 = .ok (.invokevirtual 106, 3) := by decide +kernel
theorem dX6_isNumber_23 : decode cX6_isNumber 23 = .ok (.ifCond .eq 55, 3) := by decide +kernel
theorem dX6_isNumber_26 : decode cX6_isNumber 26 = .ok (.bipush 10, 2) := by decide +kernel
theorem dX6_isNumber_28 : decode cX6_isNumber 28 = .ok (.iload_n 2, 1) := by decide +kernel
theorem dX6_isNumber_29 : decode cX6_isNumber 29 = .ok (.imul, 1) := by decide +kernel
theorem dX6_isNumber_30 : decode cX6_isNumber 30 = .ok (.aload_n 0, 1) := by decide +kernel
theorem dX6_isNumber_31 : decode cX6_isNumber 31 = .ok (.getfield 22, 3) := by decide +kernel
theorem dX6_isNumber_34 : decode cX6_isNumber 34 = .ok (.aload_n 0, 1) := by decide +kernel
theorem dX6_isNumber_35 : decode cX6_isNumber 35 = .ok (.getfield 103, 3) := by decide +kernel
theorem dX6_isNumber_38 : decode cX6_isNumber 38 = .ok (.iaload, 1) := by decide +kernel
theorem dX6_isNumber_39 : decode cX6_isNumber 39 = .ok (.iadd, 1) := by decide +kernel
theorem dX6_isNumber_40 : decode cX6_isNumber 40 = .ok (.bipush 48, 2) := by decide +kernel
theorem dX6_isNumber_42 : decode cX6_isNumber 42 = .ok (.isub, 1) := by decide +kernel
theorem dX6_isNumber_43 : decode cX6_isNumber 43 = .ok (.iload_n 1, 1) := by decide +kernel
theorem dX6_isNumber_44 : decode cX6_isNumber 44 = .ok (.if_icmp .gt 34, 3) := by decide +kernel
theorem dX6_isNumber_47 : decode cX6_isNumber 47 = .ok (.bipush 10, 2) := by decide +kernel
theorem dX6_isNumber_49 : decode cX6_isNumber 49 = .ok (.iload_n 2, 1) := by decide +kernel
theorem dX6_isNumber_50 : decode cX6_isNumber 50 = .ok (.imul, 1) := by decide +kernel
theorem dX6_isNumber_51 : decode cX6_isNumber 51 = .ok (.aload_n 0, 1) := by decide +kernel
theorem dX6_isNumber_52 : decode cX6_isNumber 52 = .ok (.getfield 22, 3) := by decide +kernel
theorem dX6_isNumber_55 : decode cX6_isNumber 55 = .ok (.aload_n 0, 1) := by decide +kernel
theorem dX6_isNumber_56 : decode cX6_isNumber 56 = .ok (.getfield 103, 3) := by decide +kernel
theorem dX6_isNumber_59 : decode cX6_isNumber 59 = .ok (.iaload, 1) := by decide +kernel
theorem dX6_isNumber_60 : decode cX6_isNumber 60 = .ok (.iadd, 1) := by decide +kernel
theorem dX6_isNumber_61 : decode cX6_isNumber 61 = .ok (.bipush 48, 2) := by decide +kernel
theorem dX6_isNumber_63 : decode cX6_isNumber 63 = .ok (.isub, 1) := by decide +kernel
theorem dX6_isNumber_64 : decode cX6_isNumber 64 = .ok (.istore_n 2, 1) := by decide +kernel
theorem dX6_isNumber_65 : decode cX6_isNumber 65 = .ok (.aload_n 0, 1) := by decide +kernel
theorem dX6_isNumber_66 : decode cX6_isNumber 66 = .ok (.dup, 1) := by decide +kernel
theorem dX6_isNumber_67 : decode cX6_isNumber 67 = .ok (.getfield 103, 3) := by decide +kernel
theorem dX6_isNumber_70 : decode cX6_isNumber 70 = .ok (.iconst 1, 1) := by decide +kernel
theorem dX6_isNumber_71 : decode cX6_isNumber 71 = .ok (.iadd, 1) := by decide +kernel
theorem dX6_isNumber_72 : decode cX6_isNumber 72 = .ok (.putfield 103, 3) := by decide +kernel
theorem dX6_isNumber_75 : decode cX6_isNumber 75 = .ok (.goto (-60), 3) := by decide +kernel
theorem dX6_isNumber_78 : decode cX6_isNumber 78 = .ok (.aload_n 0, 1) := by decide +kernel
theorem dX6_isNumber_79 : decode cX6_isNumber 79 = .ok (.getfield 25, 3) := by decide +kernel
theorem dX6_isNumber_82 : decode cX6_isNumber 82 = .ok (.iconst 3, 1) := by decide +kernel
theorem dX6_isNumber_83 : decode cX6_isNumber 83 = .ok (.aload_n 0, 1) := by decide +kernel
theorem dX6_isNumber_84 : decode cX6_isNumber 84 = .ok (.getfield 109, 3) := by decide +kernel
theorem dX6_isNumber_87 : decode cX6_isNumber 87 = .ok (.imul, 1) := by decide +kernel
theorem dX6_isNumber_88 : decode cX6_isNumber 88 = .ok (.iconst 2, 1) := by decide +kernel
theorem dX6_isNumber_89 : decode cX6_isNumber 89 = .ok (.iadd, 1) := by decide +kernel
theorem dX6_isNumber_90 : decode cX6_isNumber 90 = .ok (.iload_n 2, 1) := by decide +kernel
theorem dX6_isNumber_91 : decode cX6_isNumber 91 = .ok (.iastore, 1) := by decide +kernel
theorem dX6_isNumber_92 : decode cX6_isNumber 92 = .ok (.iconst 1, 1) := by decide +kernel
theorem dX6_isNumber_93 : decode cX6_isNumber 93 = .ok (.ireturn, 1) := by decide +kernel
theorem dX6_isSign_0 : decode cX6_isSign 0 = .ok (.aload_n 0, 1) := by decide +kernel
theorem dX6_isSign_1 : decode cX6_isSign 1 = .ok (.bipush 65, 2) := by decide +kernel
theorem dX6_isSign_3 : decode cX6_isSign 3 = .ok (.bipush 90, 2) := by decide +kernel
theorem dX6_isSign_5 : decode cX6_isSign 5 = .ok (.invokevirtual 106, 3) := by decide +kernel
theorem dX6_isSign_8 : decode cX6_isSign 8 = .ok (.ifCond .ne 5, 3) := by decide +kernel
theorem dX6_isSign_11 : decode cX6_isSign 11 = .ok (.iconst 0, 1) := by decide +kernel
theorem dX6_isSign_12 : decode cX6_isSign 12 = .ok (.ireturn, 1) := by decide +kernel
theorem dX6_isSign_13 : decode cX6_isSign 13 = .ok (.aload_n 0, 1) := by decide +kernel
theorem dX6_isSign_14 : decode cX6_isSign 14 = .ok (.getfield 25, 3) := by decide +kernel
theorem dX6_isSign_17 : decode cX6_isSign 17 = .ok (.iconst 3, 1) := by decide +kernel
theorem dX6_isSign_18 : decode cX6_isSign 18 = .ok (.aload_n 0, 1) := by decide +kernel
theorem dX6_isSign_19 : decode cX6_isSign 19 = .ok (.getfield 109, 3) := by decide +kernel
theorem dX6_isSign_22 : decode cX6_isSign 22 = .ok (.imul, 1) := by decide +kernel
theorem dX6_isSign_23 : decode cX6_isSign 23 = .ok (.iconst 2, 1) := by decide +kernel
theorem dX6_isSign_24 : decode cX6_isSign 24 = .ok (.iadd, 1) := by decide +kernel
theorem dX6_isSign_25 : decode cX6_isSign 25 = .ok (.aload_n 0, 1) := by decide +kernel
theorem dX6_isSign_26 : decode cX6_isSign 26 = .ok (.getfield 22, 3) := by decide +kernel
theorem dX6_isSign_29 : decode cX6_isSign 29 = .ok (.aload_n 0, 1) := by decide +kernel
theorem dX6_isSign_30 : decode cX6_isSign 30 = .ok (.getfield 103, 3) := by decide +kernel
theorem dX6_isSign_33 : decode cX6_isSign 33 = .ok (.iaload, 1) := by decide +kernel
theorem dX6_isSign_34 : decode cX6_isSign 34 = .ok (.bipush 65, 2) := by decide +kernel
theorem dX6_isSign_36 : decode cX6_isSign 36 = .ok (.isub, 1) := by decide +kernel
theorem dX6_isSign_37 : decode cX6_isSign 37 = .ok (.iastore, 1) := by decide +kernel
theorem dX6_isSign_38 : decode cX6_isSign 38 = .ok (.aload_n 0, 1) := by decide +kernel
theorem dX6_isSign_39 : decode cX6_isSign 39 = .ok (.dup, 1) := by decide +kernel
theorem dX6_isSign_40 : decode cX6_isSign 40 = .ok (.getfield 103, 3) := by decide +kernel
theorem dX6_isSign_43 : decode cX6_isSign 43 = .ok (.iconst 1, 1) := by decide +kernel
theorem dX6_isSign_44 : decode cX6_isSign 44 = .ok (.iadd, 1) := by decide +kernel
theorem dX6_isSign_45 : decode cX6_isSign 45 = .ok (.putfield 103, 3) := by decide +kernel
theorem dX6_isSign_48 : decode cX6_isSign 48 = .ok (.iconst 1, 1) := by decide +kernel
theorem dX6_isSign_49 : decode cX6_isSign 49 = .ok (.ireturn, 1) := by decide +kernel
theorem dX6_isOrder_0 : decode cX6_isOrder 0 = .ok (.aload_n 0, 1) := by decide +kernel
theorem dX6_isOrder_1 : decode cX6_isOrder 1 = .ok (.bipush 98, 2) := by decide +kernel
theorem dX6_isOrder_3 : decode cX6_isOrder 3 = .ok (.bipush 99, 2) := by decide +kernel
theorem dX6_isOrder_5 : decode cX6_isOrder 5 = .ok (.invokevirtual 106, 3) := by decide +kernel
theorem dX6_isOrder_8 : decode cX6_isOrder 8 = .ok (.ifCond .ne 16, 3) := by decide +kernel
theorem dX6_isOrder_11 : decode cX6_isOrder 11 = .ok (.aload_n 0, 1) := by decide +kernel
theorem dX6_isOrder_12 : decode cX6_isOrder 12 = .ok (.bipush 118, 2) := by decide +kernel
theorem dX6_isOrder_14 : decode cX6_isOrder 14 = .ok (.bipush 119, 2) := by decide +kernel
theorem dX6_isOrder_16 : decode cX6_isOrder 16 = .ok (.invokevirtual 106, 3) := by decide +kernel
theorem dX6_isOrder_19 : decode cX6_isOrder 19 = .ok (.ifCond .ne 5, 3) := by decide +kernel
theorem dX6_isOrder_22 : decode cX6_isOrder 22 = .ok (.iconst 0, 1) := by decide +kernel
theorem dX6_isOrder_23 : decode cX6_isOrder 23 = .ok (.ireturn, 1) := by decide +kernel
theorem dX6_isOrder_24 : decode cX6_isOrder 24 = .ok (.aload_n 0, 1) := by decide +kernel
theorem dX6_isOrder_25 : decode cX6_isOrder 25 = .ok (.getfield 22, 3) := by decide +kernel
theorem dX6_isOrder_28 : decode cX6_isOrder 28 = .ok (.aload_n 0, 1) := by decide +kernel
theorem dX6_isOrder_29 : decode cX6_isOrder 29 = .ok (.getfield 103, 3) := by decide +kernel
theorem dX6_isOrder_32 : decode cX6_isOrder 32 = .ok (.iaload, 1) := by decide +kernel
theorem dX6_isOrder_33 : decode cX6_isOrder 33 = .ok (.istore_n 1, 1) := by decide +kernel
theorem dX6_isOrder_34 : decode cX6_isOrder 34 = .ok (.aload_n 0, 1) := by decide +kernel
theorem dX6_isOrder_35 : decode cX6_isOrder 35 = .ok (.getfield 25, 3) := by decide +kernel
theorem dX6_isOrder_38 : decode cX6_isOrder 38 = .ok (.iconst 3, 1) := by decide +kernel
theorem dX6_isOrder_39 : decode cX6_isOrder 39 = .ok (.aload_n 0, 1) := by decide +kernel
theorem dX6_isOrder_40 : decode cX6_isOrder 40 = .ok (.getfield 109, 3) := by decide +kernel
theorem dX6_isOrder_43 : decode cX6_isOrder 43 = .ok (.imul, 1) := by decide +kernel
theorem dX6_isOrder_44 : decode cX6_isOrder 44 = .ok (.iload_n 1, 1) := by decide +kernel
theorem dX6_isOrder_45 : decode cX6_isOrder 45 = .ok (.iastore, 1) := by decide +kernel
theorem dX6_isOrder_46 : decode cX6_isOrder 46 = .ok (.aload_n 0, 1) := by decide +kernel
theorem dX6_isOrder_47 : decode cX6_isOrder 47 = .ok (.dup, 1) := by decide +kernel
theorem dX6_isOrder_48 : decode cX6_isOrder 48 = .ok (.getfield 103, 3) := by decide +kernel
theorem dX6_isOrder_51 : decode cX6_isOrder 51 = .ok (.iconst 1, 1) := by decide +kernel
theorem dX6_isOrder_52 : decode cX6_isOrder 52 = .ok (.iadd, 1) := by decide +kernel
theorem dX6_isOrder_53 : decode cX6_isOrder 53 = .ok (.putfield 103, 3) := by decide +kernel
theorem dX6_isOrder_56 : decode cX6_isOrder 56 = .ok (.aload_n 0, 1) := by decide +kernel
theorem dX6_isOrder_57 : decode cX6_isOrder 57 = .ok (.iconst 1, 1) := by decide +kernel
theorem dX6_isOrder_58 : decode cX6_isOrder 58 = .ok (.invokevirtual 112, 3) := by decide +kernel
theorem dX6_isOrder_61 : decode cX6_isOrder 61 = .ok (.ifCond .ne 5, 3) := by decide +kernel
theorem dX6_isOrder_64 : decode cX6_isOrder 64 = .ok (.iconst 0, 1) := by decide +kernel
theorem dX6_isOrder_65 : decode cX6_isOrder 65 = .ok (.ireturn, 1) := by decide +kernel
theorem dX6_isOrder_66 : decode cX6_isOrder 66 = .ok (.iload_n 1, 1) := by decide +kernel
theorem dX6_isOrder_67 : decode cX6_isOrder 67 = .ok (.bipush 98, 2) := by decide +kernel
theorem dX6_isOrder_69 : decode cX6_isOrder 69 = .ok (.if_icmp .ne 29, 3) := by decide +kernel
theorem dX6_isOrder_72 : decode cX6_isOrder 72 = .ok (.aload_n 0, 1) := by decide +kernel
theorem dX6_isOrder_73 : decode cX6_isOrder 73 = .ok (.bipush 43, 2) := by decide +kernel
theorem dX6_isOrder_75 : decode cX6_isOrder 75 = .ok (.invokevirtual 115, 3) := by decide +kernel
theorem dX6_isOrder_78 : decode cX6_isOrder 78 = .ok (.ifCond .eq 16, 3) := by decide +kernel
theorem dX6_isOrder_81 : decode cX6_isOrder 81 = .ok (.aload_n 0, 1) := by decide +kernel
theorem dX6_isOrder_82 : decode cX6_isOrder 82 = .ok (.bipush 40, 2) := by decide +kernel
theorem dX6_isOrder_84 : decode cX6_isOrder 84 = .ok (.invokevirtual 118, 3) := by decide +kernel
theorem dX6_isOrder_87 : decode cX6_isOrder 87 = .ok (.ifCond .eq 7, 3) := by decide +kernel
theorem dX6_isOrder_90 : decode cX6_isOrder 90 = .ok (.iconst 1, 1) := by decide +kernel
theorem dX6_isOrder_91 : decode cX6_isOrder 91 = .ok (.goto 75, 3) := by decide +kernel
theorem dX6_isOrder_94 : decode cX6_isOrder 94 = .ok (.iconst 0, 1) := by decide +kernel
theorem dX6_isOrder_95 : decode cX6_isOrder 95 = .ok (.goto 71, 3) := by decide +kernel
theorem dX6_isOrder_98 : decode cX6_isOrder 98 = .ok (.iload_n 1, 1) := by decide +kernel
theorem dX6_isOrder_99 : decode cX6_isOrder 99 = .ok (.bipush 119, 2) := by decide +kernel
theorem dX6_isOrder_101 : decode cX6_isOrder 101 = .ok (.if_icmp .ne 30, 3) := by decide +kernel
theorem dX6_isOrder_104 : decode cX6_isOrder 104 = .ok (.aload_n 0, 1) := by decide +kernel
theorem dX6_isOrder_105 : decode cX6_isOrder 105 = .ok (.bipush 61, 2) := by decide +kernel
theorem dX6_isOrder_107 : decode cX6_isOrder 107 = .ok (.invokevirtual 115, 3) := by decide +kernel
theorem dX6_isOrder_110 : decode cX6_isOrder 110 = .ok (.ifCond .eq 17, 3) := by decide +kernel
theorem dX6_isOrder_113 : decode cX6_isOrder 113 = .ok (.aload_n 0, 1) := by decide +kernel
theorem dX6_isOrder_114 : decode cX6_isOrder 114 = .ok (.sipush 999, 3) := by decide +kernel
theorem dX6_isOrder_117 : decode cX6_isOrder 117 = .ok (.invokevirtual 118, 3) := by decide +kernel
theorem dX6_isOrder_120 : decode cX6_isOrder 120 = .ok (.ifCond .eq 7, 3) := by decide +kernel
theorem dX6_isOrder_123 : decode cX6_isOrder 123 = .ok (.iconst 1, 1) := by decide +kernel
theorem dX6_isOrder_124 : decode cX6_isOrder 124 = .ok (.goto 42, 3) := by decide +kernel
theorem dX6_isOrder_127 : decode cX6_isOrder 127 = .ok (.iconst 0, 1) := by decide +kernel
theorem dX6_isOrder_128 : decode cX6_isOrder 128 = .ok (.goto 38, 3) := by decide +kernel
theorem dX6_isOrder_131 : decode cX6_isOrder 131 = .ok (.iload_n 1, 1) := by decide +kernel
theorem dX6_isOrder_132 : decode cX6_isOrder 132 = .ok (.bipush 99, 2) := by decide +kernel
theorem dX6_isOrder_134 : decode cX6_isOrder 134 = .ok (.if_icmp .ne 10, 3) := by decide +kernel
theorem dX6_isOrder_137 : decode cX6_isOrder 137 = .ok (.aload_n 0, 1) := by decide +kernel
theorem dX6_isOrder_138 : decode cX6_isOrder 138 = .ok (.invokevirtual 121, 3) := by decide +kernel
theorem dX6_isOrder_141 : decode cX6_isOrder 141 = .ok (.goto 25, 3) := by decide +kernel
theorem dX6_isOrder_144 : decode cX6_isOrder 144 = .ok (.aload_n 0, 1) := by decide +kernel
theorem dX6_isOrder_145 : decode cX6_isOrder 145 = .ok (.bipush 45, 2) := by decide +kernel
theorem dX6_isOrder_147 : decode cX6_isOrder 147 = .ok (.invokevirtual 115, 3) := by decide +kernel
theorem dX6_isOrder_150 : decode cX6_isOrder 150 = .ok (.ifCond .eq 15, 3) := by decide +kernel
theorem dX6_isOrder_153 : decode cX6_isOrder 153 = .ok (.aload_n 0, 1) := by decide +kernel
theorem dX6_isOrder_154 : decode cX6_isOrder 154 = .ok (.iconst 2, 1) := by decide +kernel
theorem dX6_isOrder_155 : decode cX6_isOrder 155 = .ok (.invokevirtual 112, 3) := by decide +kernel
theorem dX6_isOrder_158 : decode cX6_isOrder 158 = .ok (.ifCond .eq 7, 3) := by decide +kernel
theorem dX6_isOrder_161 : decode cX6_isOrder 161 = .ok (.iconst 1, 1) := by decide +kernel
theorem dX6_isOrder_162 : decode cX6_isOrder 162 = .ok (.goto 4, 3) := by decide +kernel
theorem dX6_isOrder_165 : decode cX6_isOrder 165 = .ok (.iconst 0, 1) := by decide +kernel
theorem dX6_isOrder_166 : decode cX6_isOrder 166 = .ok (.ireturn, 1) := by decide +kernel
theorem dX6_isWhole_0 : decode cX6_isWhole 0 = .ok (.aload_n 0, 1) := by decide +kernel
theorem dX6_isWhole_1 : decode cX6_isWhole 1 = .ok (.iconst 0, 1) := by decide +kernel
theorem dX6_isWhole_2 : decode cX6_isWhole 2 = .ok (.putfield 103, 3) := by decide +kernel
theorem dX6_isWhole_5 : decode cX6_isWhole 5 = .ok (.aload_n 0, 1) := by decide +kernel
theorem dX6_isWhole_6 : decode cX6_isWhole 6 = .ok (.iconst 0, 1) := by decide +kernel
theorem dX6_isWhole_7 : decode cX6_isWhole 7 = .ok (.putfield 109, 3) := by decide +kernel
theorem dX6_isWhole_10 : decode cX6_isWhole 10 = .ok (.iconst 1, 1) := by decide +kernel
theorem dX6_isWhole_11 : decode cX6_isWhole 11 = .ok (.istore_n 1, 1) := by decide +kernel
theorem dX6_isWhole_12 : decode cX6_isWhole 12 = .ok (.iload_n 1, 1) := by decide +kernel
theorem dX6_isWhole_13 : decode cX6_isWhole 13 = .ok (.ifCond .eq 32, 3) := by decide +kernel
theorem dX6_isWhole_16 : decode cX6_isWhole 16 = .ok (.aload_n 0, 1) := by decide +kernel
theorem dX6_isWhole_17 : decode cX6_isWhole 17 = .ok (.invokevirtual 125, 3) := by decide +kernel
theorem dX6_isWhole_20 : decode cX6_isWhole 20 = .ok (.ifCond .ne 5, 3) := by decide +kernel
theorem dX6_isWhole_23 : decode cX6_isWhole 23 = .ok (.iconst 0, 1) := by decide +kernel
theorem dX6_isWhole_24 : decode cX6_isWhole 24 = .ok (.ireturn, 1) := by decide +kernel
theorem dX6_isWhole_25 : decode cX6_isWhole 25 = .ok (.aload_n 0, 1) := by decide +kernel
theorem dX6_isWhole_26 : decode cX6_isWhole 26 = .ok (.dup, 1) := by decide +kernel
theorem dX6_isWhole_27 : decode cX6_isWhole 27 = .ok (.getfield 109, 3) := by decide +kernel
theorem dX6_isWhole_30 : decode cX6_isWhole 30 = .ok (.iconst 1, 1) := by decide +kernel
theorem dX6_isWhole_31 : decode cX6_isWhole 31 = .ok (.iadd, 1) := by decide +kernel
theorem dX6_isWhole_32 : decode cX6_isWhole 32 = .ok (.putfield 109, 3) := by decide +kernel
theorem dX6_isWhole_35 : decode cX6_isWhole 35 = .ok (.aload_n 0, 1) := by decide +kernel
theorem dX6_isWhole_36 : decode cX6_isWhole 36 = .ok (.bipush 59, 2) := by decide +kernel
theorem dX6_isWhole_38 : decode cX6_isWhole 38 = .ok (.invokevirtual 115, 3) := by decide +kernel
theorem dX6_isWhole_41 : decode cX6_isWhole 41 = .ok (.istore_n 1, 1) := by decide +kernel
theorem dX6_isWhole_42 : decode cX6_isWhole 42 = .ok (.goto (-30), 3) := by decide +kernel
theorem dX6_isWhole_45 : decode cX6_isWhole 45 = .ok (.aload_n 0, 1) := by decide +kernel
theorem dX6_isWhole_46 : decode cX6_isWhole 46 = .ok (.getfield 103, 3) := by decide +kernel
theorem dX6_isWhole_49 : decode cX6_isWhole 49 = .ok (.aload_n 0, 1) := by decide +kernel
theorem dX6_isWhole_50 : decode cX6_isWhole 50 = .ok (.getfield 100, 3) := by decide +kernel
theorem dX6_isWhole_53 : decode cX6_isWhole 53 = .ok (.if_icmp .ne 7, 3) := by decide +kernel
theorem dX6_isWhole_56 : decode cX6_isWhole 56 = .ok (.iconst 1, 1) := by decide +kernel
theorem dX6_isWhole_57 : decode cX6_isWhole 57 = .ok (.goto 4, 3) := by decide +kernel
theorem dX6_isWhole_60 : decode cX6_isWhole 60 = .ok (.iconst 0, 1) := by decide +kernel
theorem dX6_isWhole_61 : decode cX6_isWhole 61 = .ok (.ireturn, 1) := by decide +kernel
theorem dX6_firstError_0 : decode cX6_firstError 0 = .ok (.aload_n 0, 1) := by decide +kernel
theorem dX6_firstError_1 : decode cX6_firstError 1 = .ok (.iconst 0, 1) := by decide +kernel
theorem dX6_firstError_2 : decode cX6_firstError 2 = .ok (.putfield 28, 3) := by decide +kernel
theorem dX6_firstError_5 : decode cX6_firstError 5 = .ok (.aload_n 0, 1) := by decide +kernel
theorem dX6_firstError_6 : decode cX6_firstError 6 = .ok (.invokevirtual 128, 3) := by decide +kernel
theorem dX6_firstError_9 : decode cX6_firstError 9 = .ok (.ifCond .eq 10, 3) := by decide +kernel
theorem dX6_firstError_12 : decode cX6_firstError 12 = .ok (.aload_n 0, 1) := by decide +kernel
theorem dX6_firstError_13 : decode cX6_firstError 13 = .ok (.getfield 100, 3) := by decide +kernel
theorem dX6_firstError_16 : decode cX6_firstError 16 = .ok (.goto 7, 3) := by decide +kernel
theorem dX6_firstError_19 : decode cX6_firstError 19 = .ok (.aload_n 0, 1) := by decide +kernel
theorem dX6_firstError_20 : decode cX6_firstError 20 = .ok (.getfield 103, 3) := by decide +kernel
theorem dX6_firstError_23 : decode cX6_firstError 23 = .ok (.ireturn, 1) := by decide +kernel
theorem dX6_isDone_0 : decode cX6_isDone 0 = .ok (.aload_n 0, 1) := by decide +kernel
theorem dX6_isDone_1 : decode cX6_isDone 1 = .ok (.getfield 25, 3) := by decide +kernel
theorem dX6_isDone_4 : decode cX6_isDone 4 = .ok (.iconst 3, 1) := by decide +kernel
theorem dX6_isDone_5 : decode cX6_isDone 5 = .ok (.iload_n 1, 1) := by decide +kernel
theorem dX6_isDone_6 : decode cX6_isDone 6 = .ok (.imul, 1) := by decide +kernel
theorem dX6_isDone_7 : decode cX6_isDone 7 = .ok (.iaload, 1) := by decide +kernel
theorem dX6_isDone_8 : decode cX6_isDone 8 = .ok (.istore_n 2, 1) := by decide +kernel
theorem dX6_isDone_9 : decode cX6_isDone 9 = .ok (.aload_n 0, 1) := by decide +kernel
theorem dX6_isDone_10 : decode cX6_isDone 10 = .ok (.getfield 25, 3) := by decide +kernel
theorem dX6_isDone_13 : decode cX6_isDone 13 = .ok (.iconst 3, 1) := by decide +kernel
theorem dX6_isDone_14 : decode cX6_isDone 14 = .ok (.iload_n 1, 1) := by decide +kernel
theorem dX6_isDone_15 : decode cX6_isDone 15 = .ok (.imul, 1) := by decide +kernel
theorem dX6_isDone_16 : decode cX6_isDone 16 = .ok (.iconst 1, 1) := by decide +kernel
theorem dX6_isDone_17 : decode cX6_isDone 17 = .ok (.iadd, 1) := by decide +kernel
theorem dX6_isDone_18 : decode cX6_isDone 18 = .ok (.iaload, 1) := by decide +kernel
theorem dX6_isDone_19 : decode cX6_isDone 19 = .ok (.istore_n 3, 1) := by decide +kernel
theorem dX6_isDone_20 : decode cX6_isDone 20 = .ok (.aload_n 0, 1) := by decide +kernel
theorem dX6_isDone_21 : decode cX6_isDone 21 = .ok (.getfield 25, 3) := by decide +kernel
theorem dX6_isDone_24 : decode cX6_isDone 24 = .ok (.iconst 3, 1) := by decide +kernel
theorem dX6_isDone_25 : decode cX6_isDone 25 = .ok (.iload_n 1, 1) := by decide +kernel
theorem dX6_isDone_26 : decode cX6_isDone 26 = .ok (.imul, 1) := by decide +kernel
theorem dX6_isDone_27 : decode cX6_isDone 27 = .ok (.iconst 2, 1) := by decide +kernel
theorem dX6_isDone_28 : decode cX6_isDone 28 = .ok (.iadd, 1) := by decide +kernel
theorem dX6_isDone_29 : decode cX6_isDone 29 = .ok (.iaload, 1) := by decide +kernel
theorem dX6_isDone_30 : decode cX6_isDone 30 = .ok (.istore 4, 2) := by decide +kernel
theorem dX6_isDone_32 : decode cX6_isDone 32 = .ok (.iload_n 2, 1) := by decide +kernel
theorem dX6_isDone_33 : decode cX6_isDone 33 = .ok (.bipush 99, 2) := by decide +kernel
theorem dX6_isDone_35 : decode cX6_isDone 35 = .ok (.if_icmp .ne 19, 3) := by decide +kernel
theorem dX6_isDone_38 : decode cX6_isDone 38 = .ok (.aload_n 0, 1) := by decide +kernel
theorem dX6_isDone_39 : decode cX6_isDone 39 = .ok (.iload_n 3, 1) := by decide +kernel
theorem dX6_isDone_40 : decode cX6_isDone 40 = .ok (.iload 4, 2) := by decide +kernel
theorem dX6_isDone_42 : decode cX6_isDone 42 = .ok (.invokevirtual 94, 3) := by decide +kernel
theorem dX6_isDone_45 : decode cX6_isDone 45 = .ok (.ifCond .le 7, 3) := by decide +kernel
theorem dX6_isDone_48 : decode cX6_isDone 48 = .ok (.iconst 1, 1) := by decide +kernel
theorem dX6_isDone_49 : decode cX6_isDone 49 = .ok (.goto 4, 3) := by decide +kernel
theorem dX6_isDone_52 : decode cX6_isDone 52 = .ok (.iconst 0, 1) := by decide +kernel
theorem dX6_isDone_53 : decode cX6_isDone 53 = .ok (.ireturn, 1) := by decide +kernel
theorem dX6_isDone_54 : decode cX6_isDone 54 = .ok (.iload_n 2, 1) := by decide +kernel
theorem dX6_isDone_55 : decode cX6_isDone 55 = .ok (.bipush 98, 2) := by decide +kernel
theorem dX6_isDone_57 : decode cX6_isDone 57 = .ok (.if_icmp .ne 41, 3) := by decide +kernel
theorem dX6_isDone_60 : decode cX6_isDone 60 = .ok (.iload_n 3, 1) := by decide +kernel
theorem dX6_isDone_61 : decode cX6_isDone 61 = .ok (.iload 4, 2) := by decide +kernel
theorem dX6_isDone_63 : decode cX6_isDone 63 = .ok (.iadd, 1) := by decide +kernel
theorem dX6_isDone_64 : decode cX6_isDone 64 = .ok (.iconst 1, 1) := by decide +kernel
theorem dX6_isDone_65 : decode cX6_isDone 65 = .ok (.isub, 1) := by decide +kernel
theorem dX6_isDone_66 : decode cX6_isDone 66 = .ok (.invokestatic 78, 3) := by decide +kernel
theorem dX6_isDone_69 : decode cX6_isDone 69 = .ok (.ifCond .eq 27, 3) := by decide +kernel
theorem dX6_isDone_72 : decode cX6_isDone 72 = .ok (.aload_n 0, 1) := by decide +kernel
theorem dX6_isDone_73 : decode cX6_isDone 73 = .ok (.iload_n 3, 1) := by decide +kernel
theorem dX6_isDone_74 : decode cX6_isDone 74 = .ok (.iload 4, 2) := by decide +kernel
theorem dX6_isDone_76 : decode cX6_isDone 76 = .ok (.invokevirtual 81, 3) := by decide +kernel
theorem dX6_isDone_79 : decode cX6_isDone 79 = .ok (.ifCond .eq 17, 3) := by decide +kernel
theorem dX6_isDone_82 : decode cX6_isDone 82 = .ok (.aload_n 0, 1) := by decide +kernel
theorem dX6_isDone_83 : decode cX6_isDone 83 = .ok (.iload_n 3, 1) := by decide +kernel
theorem dX6_isDone_84 : decode cX6_isDone 84 = .ok (.iload 4, 2) := by decide +kernel
theorem dX6_isDone_86 : decode cX6_isDone 86 = .ok (.invokevirtual 84, 3) := by decide +kernel
theorem dX6_isDone_89 : decode cX6_isDone 89 = .ok (.ifCond .lt 7, 3) := by decide +kernel
theorem dX6_isDone_92 : decode cX6_isDone 92 = .ok (.iconst 1, 1) := by decide +kernel
theorem dX6_isDone_93 : decode cX6_isDone 93 = .ok (.goto 4, 3) := by decide +kernel
theorem dX6_isDone_96 : decode cX6_isDone 96 = .ok (.iconst 0, 1) := by decide +kernel
theorem dX6_isDone_97 : decode cX6_isDone 97 = .ok (.ireturn, 1) := by decide +kernel
theorem dX6_isDone_98 : decode cX6_isDone 98 = .ok (.iload_n 2, 1) := by decide +kernel
theorem dX6_isDone_99 : decode cX6_isDone 99 = .ok (.bipush 118, 2) := by decide +kernel
theorem dX6_isDone_101 : decode cX6_isDone 101 = .ok (.if_icmp .ne 25, 3) := by decide +kernel
theorem dX6_isDone_104 : decode cX6_isDone 104 = .ok (.iload 4, 2) := by decide +kernel
theorem dX6_isDone_106 : decode cX6_isDone 106 = .ok (.iload_n 3, 1) := by decide +kernel
theorem dX6_isDone_107 : decode cX6_isDone 107 = .ok (.if_icmp .lt 17, 3) := by decide +kernel
theorem dX6_isDone_110 : decode cX6_isDone 110 = .ok (.aload_n 0, 1) := by decide +kernel
theorem dX6_isDone_111 : decode cX6_isDone 111 = .ok (.iload_n 3, 1) := by decide +kernel
theorem dX6_isDone_112 : decode cX6_isDone 112 = .ok (.iload 4, 2) := by decide +kernel
theorem dX6_isDone_114 : decode cX6_isDone 114 = .ok (.invokevirtual 97, 3) := by decide +kernel
theorem dX6_isDone_117 : decode cX6_isDone 117 = .ok (.ifCond .lt 7, 3) := by decide +kernel
theorem dX6_isDone_120 : decode cX6_isDone 120 = .ok (.iconst 1, 1) := by decide +kernel
theorem dX6_isDone_121 : decode cX6_isDone 121 = .ok (.goto 4, 3) := by decide +kernel
theorem dX6_isDone_124 : decode cX6_isDone 124 = .ok (.iconst 0, 1) := by decide +kernel
theorem dX6_isDone_125 : decode cX6_isDone 125 = .ok (.ireturn, 1) := by decide +kernel
theorem dX6_isDone_126 : decode cX6_isDone 126 = .ok (.aload_n 0, 1) := by decide +kernel
theorem dX6_isDone_127 : decode cX6_isDone 127 = .ok (.iload_n 3, 1) := by decide +kernel
theorem dX6_isDone_128 : decode cX6_isDone 128 = .ok (.invokevirtual 59, 3) := by decide +kernel
theorem dX6_isDone_131 : decode cX6_isDone 131 = .ok (.istore 5, 2) := by decide +kernel
theorem dX6_isDone_133 : decode cX6_isDone 133 = .ok (.iload 5, 2) := by decide +kernel
theorem dX6_isDone_135 : decode cX6_isDone 135 = .ok (.iconst (-1), 1) := by decide +kernel
theorem dX6_isDone_136 : decode cX6_isDone 136 = .ok (.if_icmp .eq 16, 3) := by decide +kernel
theorem dX6_isDone_139 : decode cX6_isDone 139 = .ok (.aload_n 0, 1) := by decide +kernel
theorem dX6_isDone_140 : decode cX6_isDone 140 = .ok (.getfield 7, 3) := by decide +kernel
theorem dX6_isDone_143 : decode cX6_isDone 143 = .ok (.bipush 21, 2) := by decide +kernel
theorem dX6_isDone_145 : decode cX6_isDone 145 = .ok (.iload 5, 2) := by decide +kernel
theorem dX6_isDone_147 : decode cX6_isDone 147 = .ok (.iadd, 1) := by decide +kernel
theorem dX6_isDone_148 : decode cX6_isDone 148 = .ok (.iaload, 1) := by decide +kernel
theorem dX6_isDone_149 : decode cX6_isDone 149 = .ok (.ifCond .eq 5, 3) := by decide +kernel
theorem dX6_isDone_152 : decode cX6_isDone 152 = .ok (.iconst 0, 1) := by decide +kernel
theorem dX6_isDone_153 : decode cX6_isDone 153 = .ok (.ireturn, 1) := by decide +kernel
theorem dX6_isDone_154 : decode cX6_isDone 154 = .ok (.aload_n 0, 1) := by decide +kernel
theorem dX6_isDone_155 : decode cX6_isDone 155 = .ok (.iload 5, 2) := by decide +kernel
theorem dX6_isDone_157 : decode cX6_isDone 157 = .ok (.iload 4, 2) := by decide +kernel
theorem dX6_isDone_159 : decode cX6_isDone 159 = .ok (.invokevirtual 87, 3) := by decide +kernel
theorem dX6_isDone_162 : decode cX6_isDone 162 = .ok (.iconst 1, 1) := by decide +kernel
theorem dX6_isDone_163 : decode cX6_isDone 163 = .ok (.ireturn, 1) := by decide +kernel
theorem dX6_execute_0 : decode cX6_execute 0 = .ok (.aload_n 0, 1) := by decide +kernel
theorem dX6_execute_1 : decode cX6_execute 1 = .ok (.iconst 0, 1) := by decide +kernel
theorem dX6_execute_2 : decode cX6_execute 2 = .ok (.putfield 28, 3) := by decide +kernel
theorem dX6_execute_5 : decode cX6_execute 5 = .ok (.aload_n 0, 1) := by decide +kernel
theorem dX6_execute_6 : decode cX6_execute 6 = .ok (.invokevirtual 128, 3) := by decide +kernel
theorem dX6_execute_9 : decode cX6_execute 9 = .ok (.ifCond .ne 9, 3) := by decide +kernel
theorem dX6_execute_12 : decode cX6_execute 12 = .ok (.aload_n 0, 1) := by decide +kernel
theorem dX6_execute_13 : decode cX6_execute 13 = .ok (.iconst 1, 1) := by decide +kernel
theorem dX6_execute_14 : decode cX6_execute 14 = .ok (.invokevirtual 72, 3) := by decide +kernel
theorem dX6_execute_17 : decode cX6_execute 17 = .ok (.ireturn, 1) := by decide +kernel
theorem dX6_execute_18 : decode cX6_execute 18 = .ok (.aload_n 0, 1) := by decide +kernel
theorem dX6_execute_19 : decode cX6_execute 19 = .ok (.invokevirtual 75, 3) := by decide +kernel
theorem dX6_execute_22 : decode cX6_execute 22 = .ok (.aload_n 0, 1) := by decide +kernel
theorem dX6_execute_23 : decode cX6_execute 23 = .ok (.iconst 0, 1) := by decide +kernel
theorem dX6_execute_24 : decode cX6_execute 24 = .ok (.putfield 100, 3) := by decide +kernel
theorem dX6_execute_27 : decode cX6_execute 27 = .ok (.iconst 0, 1) := by decide +kernel
theorem dX6_execute_28 : decode cX6_execute 28 = .ok (.istore_n 1, 1) := by decide +kernel
theorem dX6_execute_29 : decode cX6_execute 29 = .ok (.iload_n 1, 1) := by decide +kernel
theorem dX6_execute_30 : decode cX6_execute 30 = .ok (.aload_n 0, 1) := by decide +kernel
theorem dX6_execute_31 : decode cX6_execute 31 = .ok (.getfield 109, 3) := by decide +kernel
theorem dX6_execute_34 : decode cX6_execute 34 = .ok (.if_icmp .ge 17, 3) := by decide +kernel
theorem dX6_execute_37 : decode cX6_execute 37 = .ok (.aload_n 0, 1) := by decide +kernel
theorem dX6_execute_38 : decode cX6_execute 38 = .ok (.iload_n 1, 1) := by decide +kernel
theorem dX6_execute_39 : decode cX6_execute 39 = .ok (.invokevirtual 131, 3) := by decide +kernel
theorem dX6_execute_42 : decode cX6_execute 42 = .ok (.ifCond .eq 9, 3) := by decide +kernel
theorem dX6_execute_45 : decode cX6_execute 45 = .ok (.iinc 1 1, 3) := by decide +kernel
theorem dX6_execute_48 : decode cX6_execute 48 = .ok (.goto (-19), 3) := by decide +kernel
theorem dX6_execute_51 : decode cX6_execute 51 = .ok (.iload_n 1, 1) := by decide +kernel
theorem dX6_execute_52 : decode cX6_execute 52 = .ok (.ireturn, 1) := by decide +kernel
theorem dX6_undo_0 : decode cX6_undo 0 = .ok (.aload_n 0, 1) := by decide +kernel
theorem dX6_undo_1 : decode cX6_undo 1 = .ok (.iconst 0, 1) := by decide +kernel
theorem dX6_undo_2 : decode cX6_undo 2 = .ok (.putfield 28, 3) := by decide +kernel
theorem dX6_undo_5 : decode cX6_undo 5 = .ok (.aload_n 0, 1) := by decide +kernel
theorem dX6_undo_6 : decode cX6_undo 6 = .ok (.getfield 37, 3) := by decide +kernel
theorem dX6_undo_9 : decode cX6_undo 9 = .ok (.ifCond .ne 9, 3) := by decide +kernel
theorem dX6_undo_12 : decode cX6_undo 12 = .ok (.aload_n 0, 1) := by decide +kernel
theorem dX6_undo_13 : decode cX6_undo 13 = .ok (.iconst 1, 1) := by decide +kernel
theorem dX6_undo_14 : decode cX6_undo 14 = .ok (.invokevirtual 72, 3) := by decide +kernel
theorem dX6_undo_17 : decode cX6_undo 17 = .ok (.ireturn, 1) := by decide +kernel
theorem dX6_undo_18 : decode cX6_undo 18 = .ok (.aload_n 0, 1) := by decide +kernel
theorem dX6_undo_19 : decode cX6_undo 19 = .ok (.dup, 1) := by decide +kernel
theorem dX6_undo_20 : decode cX6_undo 20 = .ok (.getfield 37, 3) := by decide +kernel
theorem dX6_undo_23 : decode cX6_undo 23 = .ok (.iconst 1, 1) := by decide +kernel
theorem dX6_undo_24 : decode cX6_undo 24 = .ok (.isub, 1) := by decide +kernel
theorem dX6_undo_25 : decode cX6_undo 25 = .ok (.putfield 37, 3) := by decide +kernel
theorem dX6_undo_28 : decode cX6_undo 28 = .ok (.aload_n 0, 1) := by decide +kernel
theorem dX6_undo_29 : decode cX6_undo 29 = .ok (.getfield 13, 3) := by decide +kernel
theorem dX6_undo_32 : decode cX6_undo 32 = .ok (.sipush 501, 3) := by decide +kernel
theorem dX6_undo_35 : decode cX6_undo 35 = .ok (.aload_n 0, 1) := by decide +kernel
theorem dX6_undo_36 : decode cX6_undo 36 = .ok (.getfield 37, 3) := by decide +kernel
theorem dX6_undo_39 : decode cX6_undo 39 = .ok (.imul, 1) := by decide +kernel
theorem dX6_undo_40 : decode cX6_undo 40 = .ok (.aload_n 0, 1) := by decide +kernel
theorem dX6_undo_41 : decode cX6_undo 41 = .ok (.getfield 7, 3) := by decide +kernel
theorem dX6_undo_44 : decode cX6_undo 44 = .ok (.iconst 0, 1) := by decide +kernel
theorem dX6_undo_45 : decode cX6_undo 45 = .ok (.invokestatic 40, 3) := by decide +kernel
theorem dX6_undo_48 : decode cX6_undo 48 = .ok (.aload_n 0, 1) := by decide +kernel
theorem dX6_undo_49 : decode cX6_undo 49 = .ok (.getfield 37, 3) := by decide +kernel
theorem dX6_undo_52 : decode cX6_undo 52 = .ok (.ireturn, 1) := by decide +kernel
theorem dX6_keep_0 : decode cX6_keep 0 = .ok (.aload_n 0, 1) := by decide +kernel
theorem dX6_keep_1 : decode cX6_keep 1 = .ok (.iconst 0, 1) := by decide +kernel
theorem dX6_keep_2 : decode cX6_keep 2 = .ok (.putfield 28, 3) := by decide +kernel
theorem dX6_keep_5 : decode cX6_keep 5 = .ok (.iload_n 1, 1) := by decide +kernel
theorem dX6_keep_6 : decode cX6_keep 6 = .ok (.iconst 0, 1) := by decide +kernel
theorem dX6_keep_7 : decode cX6_keep 7 = .ok (.iconst 1, 1) := by decide +kernel
theorem dX6_keep_8 : decode cX6_keep 8 = .ok (.invokestatic 33, 3) := by decide +kernel
theorem dX6_keep_11 : decode cX6_keep 11 = .ok (.ifCond .ne 9, 3) := by decide +kernel
theorem dX6_keep_14 : decode cX6_keep 14 = .ok (.aload_n 0, 1) := by decide +kernel
theorem dX6_keep_15 : decode cX6_keep 15 = .ok (.iconst 1, 1) := by decide +kernel
theorem dX6_keep_16 : decode cX6_keep 16 = .ok (.invokevirtual 72, 3) := by decide +kernel
theorem dX6_keep_19 : decode cX6_keep 19 = .ok (.ireturn, 1) := by decide +kernel
theorem dX6_keep_20 : decode cX6_keep 20 = .ok (.aload_n 0, 1) := by decide +kernel
theorem dX6_keep_21 : decode cX6_keep 21 = .ok (.getfield 7, 3) := by decide +kernel
theorem dX6_keep_24 : decode cX6_keep 24 = .ok (.iconst 0, 1) := by decide +kernel
theorem dX6_keep_25 : decode cX6_keep 25 = .ok (.aload_n 0, 1) := by decide +kernel
theorem dX6_keep_26 : decode cX6_keep 26 = .ok (.getfield 16, 3) := by decide +kernel
theorem dX6_keep_29 : decode cX6_keep 29 = .ok (.sipush 501, 3) := by decide +kernel
theorem dX6_keep_32 : decode cX6_keep 32 = .ok (.iload_n 1, 1) := by decide +kernel
theorem dX6_keep_33 : decode cX6_keep 33 = .ok (.imul, 1) := by decide +kernel
theorem dX6_keep_34 : decode cX6_keep 34 = .ok (.invokestatic 40, 3) := by decide +kernel
theorem dX6_keep_37 : decode cX6_keep 37 = .ok (.aload_n 0, 1) := by decide +kernel
theorem dX6_keep_38 : decode cX6_keep 38 = .ok (.getfield 19, 3) := by decide +kernel
theorem dX6_keep_41 : decode cX6_keep 41 = .ok (.iload_n 1, 1) := by decide +kernel
theorem dX6_keep_42 : decode cX6_keep 42 = .ok (.iconst 1, 1) := by decide +kernel
theorem dX6_keep_43 : decode cX6_keep 43 = .ok (.iastore, 1) := by decide +kernel
theorem dX6_keep_44 : decode cX6_keep 44 = .ok (.aload_n 0, 1) := by decide +kernel
theorem dX6_keep_45 : decode cX6_keep 45 = .ok (.getfield 7, 3) := by decide +kernel
theorem dX6_keep_48 : decode cX6_keep 48 = .ok (.iconst 0, 1) := by decide +kernel
theorem dX6_keep_49 : decode cX6_keep 49 = .ok (.iaload, 1) := by decide +kernel
theorem dX6_keep_50 : decode cX6_keep 50 = .ok (.ireturn, 1) := by decide +kernel
theorem dX6_goBack_0 : decode cX6_goBack 0 = .ok (.aload_n 0, 1) := by decide +kernel
theorem dX6_goBack_1 : decode cX6_goBack 1 = .ok (.iconst 0, 1) := by decide +kernel
theorem dX6_goBack_2 : decode cX6_goBack 2 = .ok (.putfield 28, 3) := by decide +kernel
theorem dX6_goBack_5 : decode cX6_goBack 5 = .ok (.iload_n 1, 1) := by decide +kernel
theorem dX6_goBack_6 : decode cX6_goBack 6 = .ok (.iconst 0, 1) := by decide +kernel
theorem dX6_goBack_7 : decode cX6_goBack 7 = .ok (.iconst 1, 1) := by decide +kernel
theorem dX6_goBack_8 : decode cX6_goBack 8 = .ok (.invokestatic 33, 3) := by decide +kernel
theorem dX6_goBack_11 : decode cX6_goBack 11 = .ok (.ifCond .ne 9, 3) := by decide +kernel
theorem dX6_goBack_14 : decode cX6_goBack 14 = .ok (.aload_n 0, 1) := by decide +kernel
theorem dX6_goBack_15 : decode cX6_goBack 15 = .ok (.iconst 1, 1) := by decide +kernel
theorem dX6_goBack_16 : decode cX6_goBack 16 = .ok (.invokevirtual 72, 3) := by decide +kernel
theorem dX6_goBack_19 : decode cX6_goBack 19 = .ok (.ireturn, 1) := by decide +kernel
theorem dX6_goBack_20 : decode cX6_goBack 20 = .ok (.aload_n 0, 1) := by decide +kernel
theorem dX6_goBack_21 : decode cX6_goBack 21 = .ok (.getfield 19, 3) := by decide +kernel
theorem dX6_goBack_24 : decode cX6_goBack 24 = .ok (.iload_n 1, 1) := by decide +kernel
theorem dX6_goBack_25 : decode cX6_goBack 25 = .ok (.iaload, 1) := by decide +kernel
theorem dX6_goBack_26 : decode cX6_goBack 26 = .ok (.ifCond .ne 9, 3) := by decide +kernel
theorem dX6_goBack_29 : decode cX6_goBack 29 = .ok (.aload_n 0, 1) := by decide +kernel
theorem dX6_goBack_30 : decode cX6_goBack 30 = .ok (.iconst 2, 1) := by decide +kernel
theorem dX6_goBack_31 : decode cX6_goBack 31 = .ok (.invokevirtual 72, 3) := by decide +kernel
theorem dX6_goBack_34 : decode cX6_goBack 34 = .ok (.ireturn, 1) := by decide +kernel
theorem dX6_goBack_35 : decode cX6_goBack 35 = .ok (.aload_n 0, 1) := by decide +kernel
theorem dX6_goBack_36 : decode cX6_goBack 36 = .ok (.invokevirtual 75, 3) := by decide +kernel
theorem dX6_goBack_39 : decode cX6_goBack 39 = .ok (.aload_n 0, 1) := by decide +kernel
theorem dX6_goBack_40 : decode cX6_goBack 40 = .ok (.getfield 16, 3) := by decide +kernel
theorem dX6_goBack_43 : decode cX6_goBack 43 = .ok (.sipush 501, 3) := by decide +kernel
theorem dX6_goBack_46 : decode cX6_goBack 46 = .ok (.iload_n 1, 1) := by decide +kernel
theorem dX6_goBack_47 : decode cX6_goBack 47 = .ok (.imul, 1) := by decide +kernel
theorem dX6_goBack_48 : decode cX6_goBack 48 = .ok (.aload_n 0, 1) := by decide +kernel
theorem dX6_goBack_49 : decode cX6_goBack 49 = .ok (.getfield 7, 3) := by decide +kernel
theorem dX6_goBack_52 : decode cX6_goBack 52 = .ok (.iconst 0, 1) := by decide +kernel
theorem dX6_goBack_53 : decode cX6_goBack 53 = .ok (.invokestatic 40, 3) := by decide +kernel
theorem dX6_goBack_56 : decode cX6_goBack 56 = .ok (.aload_n 0, 1) := by decide +kernel
theorem dX6_goBack_57 : decode cX6_goBack 57 = .ok (.getfield 7, 3) := by decide +kernel
theorem dX6_goBack_60 : decode cX6_goBack 60 = .ok (.iconst 0, 1) := by decide +kernel
theorem dX6_goBack_61 : decode cX6_goBack 61 = .ok (.iaload, 1) := by decide +kernel
theorem dX6_goBack_62 : decode cX6_goBack 62 = .ok (.ireturn, 1) := by decide +kernel
theorem dX6_letter_0 : decode cX6_letter 0 = .ok (.aload_n 0, 1) := by decide +kernel
theorem dX6_letter_1 : decode cX6_letter 1 = .ok (.iconst 0, 1) := by decide +kernel
theorem dX6_letter_2 : decode cX6_letter 2 = .ok (.putfield 28, 3) := by decide +kernel
theorem dX6_letter_5 : decode cX6_letter 5 = .ok (.iload_n 1, 1) := by decide +kernel
theorem dX6_letter_6 : decode cX6_letter 6 = .ok (.invokestatic 78, 3) := by decide +kernel
theorem dX6_letter_9 : decode cX6_letter 9 = .ok (.ifCond .eq 11, 3) := by decide +kernel
theorem dX6_letter_12 : decode cX6_letter 12 = .ok (.aload_n 0, 1) := by decide +kernel
theorem dX6_letter_13 : decode cX6_letter 13 = .ok (.iload_n 1, 1) := by decide +kernel
theorem dX6_letter_14 : decode cX6_letter 14 = .ok (.invokevirtual 62, 3) := by decide +kernel
theorem dX6_letter_17 : decode cX6_letter 17 = .ok (.goto 8, 3) := by decide +kernel
theorem dX6_letter_20 : decode cX6_letter 20 = .ok (.aload_n 0, 1) := by decide +kernel
theorem dX6_letter_21 : decode cX6_letter 21 = .ok (.iconst 1, 1) := by decide +kernel
theorem dX6_letter_22 : decode cX6_letter 22 = .ok (.invokevirtual 72, 3) := by decide +kernel
theorem dX6_letter_25 : decode cX6_letter 25 = .ok (.ireturn, 1) := by decide +kernel
theorem dX6_runFrom_0 : decode cX6_runFrom 0 = .ok (.iconst 0, 1) := by decide +kernel
theorem dX6_runFrom_1 : decode cX6_runFrom 1 = .ok (.istore_n 2, 1) := by decide +kernel
theorem dX6_runFrom_2 : decode cX6_runFrom 2 = .ok (.iload_n 1, 1) := by decide +kernel
theorem dX6_runFrom_3 : decode cX6_runFrom 3 = .ok (.bipush 40, 2) := by decide +kernel
theorem dX6_runFrom_5 : decode cX6_runFrom 5 = .ok (.irem, 1) := by decide +kernel
theorem dX6_runFrom_6 : decode cX6_runFrom 6 = .ok (.iload_n 2, 1) := by decide +kernel
theorem dX6_runFrom_7 : decode cX6_runFrom 7 = .ok (.iadd, 1) := by decide +kernel
theorem dX6_runFrom_8 : decode cX6_runFrom 8 = .ok (.aload_n 0, 1) := by decide +kernel
theorem dX6_runFrom_9 : decode cX6_runFrom 9 = .ok (.iload_n 1, 1) := by decide +kernel
theorem dX6_runFrom_10 : decode cX6_runFrom 10 = .ok (.bipush 40, 2) := by decide +kernel
theorem dX6_runFrom_12 : decode cX6_runFrom 12 = .ok (.idiv, 1) := by decide +kernel
theorem dX6_runFrom_13 : decode cX6_runFrom 13 = .ok (.invokevirtual 52, 3) := by decide +kernel
theorem dX6_runFrom_16 : decode cX6_runFrom 16 = .ok (.if_icmp .ge 32, 3) := by decide +kernel
theorem dX6_runFrom_19 : decode cX6_runFrom 19 = .ok (.aload_n 0, 1) := by decide +kernel
theorem dX6_runFrom_20 : decode cX6_runFrom 20 = .ok (.getfield 7, 3) := by decide +kernel
theorem dX6_runFrom_23 : decode cX6_runFrom 23 = .ok (.bipush 21, 2) := by decide +kernel
theorem dX6_runFrom_25 : decode cX6_runFrom 25 = .ok (.iload_n 1, 1) := by decide +kernel
theorem dX6_runFrom_26 : decode cX6_runFrom 26 = .ok (.iadd, 1) := by decide +kernel
theorem dX6_runFrom_27 : decode cX6_runFrom 27 = .ok (.iload_n 2, 1) := by decide +kernel
theorem dX6_runFrom_28 : decode cX6_runFrom 28 = .ok (.iadd, 1) := by decide +kernel
theorem dX6_runFrom_29 : decode cX6_runFrom 29 = .ok (.iaload, 1) := by decide +kernel
theorem dX6_runFrom_30 : decode cX6_runFrom 30 = .ok (.aload_n 0, 1) := by decide +kernel
theorem dX6_runFrom_31 : decode cX6_runFrom 31 = .ok (.getfield 7, 3) := by decide +kernel
theorem dX6_runFrom_34 : decode cX6_runFrom 34 = .ok (.bipush 21, 2) := by decide +kernel
theorem dX6_runFrom_36 : decode cX6_runFrom 36 = .ok (.iload_n 1, 1) := by decide +kernel
theorem dX6_runFrom_37 : decode cX6_runFrom 37 = .ok (.iadd, 1) := by decide +kernel
theorem dX6_runFrom_38 : decode cX6_runFrom 38 = .ok (.iaload, 1) := by decide +kernel
theorem dX6_runFrom_39 : decode cX6_runFrom 39 = .ok (.if_icmp .ne 9, 3) := by decide +kernel
theorem dX6_runFrom_42 : decode cX6_runFrom 42 = .ok (.iinc 2 1, 3) := by decide +kernel
theorem dX6_runFrom_45 : decode cX6_runFrom 45 = .ok (.goto (-43), 3) := by decide +kernel
theorem dX6_runFrom_48 : decode cX6_runFrom 48 = .ok (.iload_n 2, 1) := by decide +kernel
theorem dX6_runFrom_49 : decode cX6_runFrom 49 = .ok (.ireturn, 1) := by decide +kernel
theorem dX6_aboutCheque_0 : decode cX6_aboutCheque 0 = .ok (.iload_n 2, 1) := by decide +kernel
theorem dX6_aboutCheque_1 : decode cX6_aboutCheque 1 = .ok (.tableswitch 62 0 3 #[31, 41, 52, 57], 31) := by decide +kernel
theorem dX6_aboutCheque_32 : decode cX6_aboutCheque 32 = .ok (.aload_n 0, 1) := by decide +kernel
theorem dX6_aboutCheque_33 : decode cX6_aboutCheque 33 = .ok (.getfield 7, 3) := by decide +kernel
theorem dX6_aboutCheque_36 : decode cX6_aboutCheque 36 = .ok (.bipush 21, 2) := by decide +kernel
theorem dX6_aboutCheque_38 : decode cX6_aboutCheque 38 = .ok (.iload_n 1, 1) := by decide +kernel
theorem dX6_aboutCheque_39 : decode cX6_aboutCheque 39 = .ok (.iadd, 1) := by decide +kernel
theorem dX6_aboutCheque_40 : decode cX6_aboutCheque 40 = .ok (.iaload, 1) := by decide +kernel
theorem dX6_aboutCheque_41 : decode cX6_aboutCheque 41 = .ok (.ireturn, 1) := by decide +kernel
theorem dX6_aboutCheque_42 : decode cX6_aboutCheque 42 = .ok (.aload_n 0, 1) := by decide +kernel
theorem dX6_aboutCheque_43 : decode cX6_aboutCheque 43 = .ok (.getfield 7, 3) := by decide +kernel
theorem dX6_aboutCheque_46 : decode cX6_aboutCheque 46 = .ok (.sipush 261, 3) := by decide +kernel
theorem dX6_aboutCheque_49 : decode cX6_aboutCheque 49 = .ok (.iload_n 1, 1) := by decide +kernel
theorem dX6_aboutCheque_50 : decode cX6_aboutCheque 50 = .ok (.iadd, 1) := by decide +kernel
theorem dX6_aboutCheque_51 : decode cX6_aboutCheque 51 = .ok (.iaload, 1) := by decide +kernel
theorem dX6_aboutCheque_52 : decode cX6_aboutCheque 52 = .ok (.ireturn, 1) := by decide +kernel
theorem dX6_aboutCheque_53 : decode cX6_aboutCheque 53 = .ok (.iload_n 1, 1) := by decide +kernel
theorem dX6_aboutCheque_54 : decode cX6_aboutCheque 54 = .ok (.bipush 40, 2) := by decide +kernel
theorem dX6_aboutCheque_56 : decode cX6_aboutCheque 56 = .ok (.idiv, 1) := by decide +kernel
theorem dX6_aboutCheque_57 : decode cX6_aboutCheque 57 = .ok (.ireturn, 1) := by decide +kernel
theorem dX6_aboutCheque_58 : decode cX6_aboutCheque 58 = .ok (.iload_n 1, 1) := by decide +kernel
theorem dX6_aboutCheque_59 : decode cX6_aboutCheque 59 = .ok (.bipush 40, 2) := by decide +kernel
theorem dX6_aboutCheque_61 : decode cX6_aboutCheque 61 = .ok (.irem, 1) := by decide +kernel
theorem dX6_aboutCheque_62 : decode cX6_aboutCheque 62 = .ok (.ireturn, 1) := by decide +kernel
theorem dX6_aboutCheque_63 : decode cX6_aboutCheque 63 = .ok (.aload_n 0, 1) := by decide +kernel
theorem dX6_aboutCheque_64 : decode cX6_aboutCheque 64 = .ok (.iload_n 1, 1) := by decide +kernel
theorem dX6_aboutCheque_65 : decode cX6_aboutCheque 65 = .ok (.invokevirtual 134, 3) := by decide +kernel
theorem dX6_aboutCheque_68 : decode cX6_aboutCheque 68 = .ok (.ireturn, 1) := by decide +kernel
theorem dX6_cheque_0 : decode cX6_cheque 0 = .ok (.aload_n 0, 1) := by decide +kernel
theorem dX6_cheque_1 : decode cX6_cheque 1 = .ok (.iconst 0, 1) := by decide +kernel
theorem dX6_cheque_2 : decode cX6_cheque 2 = .ok (.putfield 28, 3) := by decide +kernel
theorem dX6_cheque_5 : decode cX6_cheque 5 = .ok (.aload_n 0, 1) := by decide +kernel
theorem dX6_cheque_6 : decode cX6_cheque 6 = .ok (.iload_n 1, 1) := by decide +kernel
theorem dX6_cheque_7 : decode cX6_cheque 7 = .ok (.invokevirtual 59, 3) := by decide +kernel
theorem dX6_cheque_10 : decode cX6_cheque 10 = .ok (.istore_n 3, 1) := by decide +kernel
theorem dX6_cheque_11 : decode cX6_cheque 11 = .ok (.iload_n 3, 1) := by decide +kernel
theorem dX6_cheque_12 : decode cX6_cheque 12 = .ok (.iconst (-1), 1) := by decide +kernel
theorem dX6_cheque_13 : decode cX6_cheque 13 = .ok (.if_icmp .ne 9, 3) := by decide +kernel
theorem dX6_cheque_16 : decode cX6_cheque 16 = .ok (.aload_n 0, 1) := by decide +kernel
theorem dX6_cheque_17 : decode cX6_cheque 17 = .ok (.iconst 1, 1) := by decide +kernel
theorem dX6_cheque_18 : decode cX6_cheque 18 = .ok (.invokevirtual 72, 3) := by decide +kernel
theorem dX6_cheque_21 : decode cX6_cheque 21 = .ok (.ireturn, 1) := by decide +kernel
theorem dX6_cheque_22 : decode cX6_cheque 22 = .ok (.iload_n 2, 1) := by decide +kernel
theorem dX6_cheque_23 : decode cX6_cheque 23 = .ok (.iconst 0, 1) := by decide +kernel
theorem dX6_cheque_24 : decode cX6_cheque 24 = .ok (.iconst 4, 1) := by decide +kernel
theorem dX6_cheque_25 : decode cX6_cheque 25 = .ok (.invokestatic 33, 3) := by decide +kernel
theorem dX6_cheque_28 : decode cX6_cheque 28 = .ok (.ifCond .eq 12, 3) := by decide +kernel
theorem dX6_cheque_31 : decode cX6_cheque 31 = .ok (.aload_n 0, 1) := by decide +kernel
theorem dX6_cheque_32 : decode cX6_cheque 32 = .ok (.iload_n 3, 1) := by decide +kernel
theorem dX6_cheque_33 : decode cX6_cheque 33 = .ok (.iload_n 2, 1) := by decide +kernel
theorem dX6_cheque_34 : decode cX6_cheque 34 = .ok (.invokevirtual 137, 3) := by decide +kernel
theorem dX6_cheque_37 : decode cX6_cheque 37 = .ok (.goto 8, 3) := by decide +kernel
theorem dX6_cheque_40 : decode cX6_cheque 40 = .ok (.aload_n 0, 1) := by decide +kernel
theorem dX6_cheque_41 : decode cX6_cheque 41 = .ok (.iconst 2, 1) := by decide +kernel
theorem dX6_cheque_42 : decode cX6_cheque 42 = .ok (.invokevirtual 72, 3) := by decide +kernel
theorem dX6_cheque_45 : decode cX6_cheque 45 = .ok (.ireturn, 1) := by decide +kernel
theorem dX6_ofKind_0 : decode cX6_ofKind 0 = .ok (.iconst 0, 1) := by decide +kernel
theorem dX6_ofKind_1 : decode cX6_ofKind 1 = .ok (.istore 4, 2) := by decide +kernel
theorem dX6_ofKind_3 : decode cX6_ofKind 3 = .ok (.iload_n 1, 1) := by decide +kernel
theorem dX6_ofKind_4 : decode cX6_ofKind 4 = .ok (.istore 5, 2) := by decide +kernel
theorem dX6_ofKind_6 : decode cX6_ofKind 6 = .ok (.iload 5, 2) := by decide +kernel
theorem dX6_ofKind_8 : decode cX6_ofKind 8 = .ok (.iload_n 2, 1) := by decide +kernel
theorem dX6_ofKind_9 : decode cX6_ofKind 9 = .ok (.if_icmp .ge 42, 3) := by decide +kernel
theorem dX6_ofKind_12 : decode cX6_ofKind 12 = .ok (.iload 4, 2) := by decide +kernel
theorem dX6_ofKind_14 : decode cX6_ofKind 14 = .ok (.aload_n 0, 1) := by decide +kernel
theorem dX6_ofKind_15 : decode cX6_ofKind 15 = .ok (.iload 5, 2) := by decide +kernel
theorem dX6_ofKind_17 : decode cX6_ofKind 17 = .ok (.invokevirtual 65, 3) := by decide +kernel
theorem dX6_ofKind_20 : decode cX6_ofKind 20 = .ok (.ifCond .eq 21, 3) := by decide +kernel
theorem dX6_ofKind_23 : decode cX6_ofKind 23 = .ok (.aload_n 0, 1) := by decide +kernel
theorem dX6_ofKind_24 : decode cX6_ofKind 24 = .ok (.getfield 7, 3) := by decide +kernel
theorem dX6_ofKind_27 : decode cX6_ofKind 27 = .ok (.bipush 21, 2) := by decide +kernel
theorem dX6_ofKind_29 : decode cX6_ofKind 29 = .ok (.iload 5, 2) := by decide +kernel
theorem dX6_ofKind_31 : decode cX6_ofKind 31 = .ok (.iadd, 1) := by decide +kernel
theorem dX6_ofKind_32 : decode cX6_ofKind 32 = .ok (.iaload, 1) := by decide +kernel
theorem dX6_ofKind_33 : decode cX6_ofKind 33 = .ok (.iload_n 3, 1) := by decide +kernel
theorem dX6_ofKind_34 : decode cX6_ofKind 34 = .ok (.if_icmp .ne 7, 3) := by decide +kernel
theorem dX6_ofKind_37 : decode cX6_ofKind 37 = .ok (.iconst 1, 1) := by decide +kernel
theorem dX6_ofKind_38 : decode cX6_ofKind 38 = .ok (.goto 4, 3) := by decide +kernel
theorem dX6_ofKind_41 : decode cX6_ofKind 41 = .ok (.iconst 0, 1) := by decide +kernel
theorem dX6_ofKind_42 : decode cX6_ofKind 42 = .ok (.iadd, 1) := by decide +kernel
theorem dX6_ofKind_43 : decode cX6_ofKind 43 = .ok (.istore 4, 2) := by decide +kernel
theorem dX6_ofKind_45 : decode cX6_ofKind 45 = .ok (.iinc 5 1, 3) := by decide +kernel
theorem dX6_ofKind_48 : decode cX6_ofKind 48 = .ok (.goto (-42), 3) := by decide +kernel
theorem dX6_ofKind_51 : decode cX6_ofKind 51 = .ok (.iload 4, 2) := by decide +kernel
theorem dX6_ofKind_53 : decode cX6_ofKind 53 = .ok (.ireturn, 1) := by decide +kernel
theorem dX6_amounts_0 : decode cX6_amounts 0 = .ok (.iconst 0, 1) := by decide +kernel
theorem dX6_amounts_1 : decode cX6_amounts 1 = .ok (.istore 4, 2) := by decide +kernel
theorem dX6_amounts_3 : decode cX6_amounts 3 = .ok (.iload_n 1, 1) := by decide +kernel
theorem dX6_amounts_4 : decode cX6_amounts 4 = .ok (.istore 5, 2) := by decide +kernel
theorem dX6_amounts_6 : decode cX6_amounts 6 = .ok (.iload 5, 2) := by decide +kernel
theorem dX6_amounts_8 : decode cX6_amounts 8 = .ok (.iload_n 2, 1) := by decide +kernel
theorem dX6_amounts_9 : decode cX6_amounts 9 = .ok (.if_icmp .ge 52, 3) := by decide +kernel
theorem dX6_amounts_12 : decode cX6_amounts 12 = .ok (.iload 4, 2) := by decide +kernel
theorem dX6_amounts_14 : decode cX6_amounts 14 = .ok (.aload_n 0, 1) := by decide +kernel
theorem dX6_amounts_15 : decode cX6_amounts 15 = .ok (.iload 5, 2) := by decide +kernel
theorem dX6_amounts_17 : decode cX6_amounts 17 = .ok (.invokevirtual 65, 3) := by decide +kernel
theorem dX6_amounts_20 : decode cX6_amounts 20 = .ok (.ifCond .eq 31, 3) := by decide +kernel
theorem dX6_amounts_23 : decode cX6_amounts 23 = .ok (.aload_n 0, 1) := by decide +kernel
theorem dX6_amounts_24 : decode cX6_amounts 24 = .ok (.getfield 7, 3) := by decide +kernel
theorem dX6_amounts_27 : decode cX6_amounts 27 = .ok (.bipush 21, 2) := by decide +kernel
theorem dX6_amounts_29 : decode cX6_amounts 29 = .ok (.iload 5, 2) := by decide +kernel
theorem dX6_amounts_31 : decode cX6_amounts 31 = .ok (.iadd, 1) := by decide +kernel
theorem dX6_amounts_32 : decode cX6_amounts 32 = .ok (.iaload, 1) := by decide +kernel
theorem dX6_amounts_33 : decode cX6_amounts 33 = .ok (.iload_n 3, 1) := by decide +kernel
theorem dX6_amounts_34 : decode cX6_amounts 34 = .ok (.if_icmp .ne 17, 3) := by decide +kernel
theorem dX6_amounts_37 : decode cX6_amounts 37 = .ok (.aload_n 0, 1) := by decide +kernel
theorem dX6_amounts_38 : decode cX6_amounts 38 = .ok (.getfield 7, 3) := by decide +kernel
theorem dX6_amounts_41 : decode cX6_amounts 41 = .ok (.sipush 261, 3) := by decide +kernel
theorem dX6_amounts_44 : decode cX6_amounts 44 = .ok (.iload 5, 2) := by decide +kernel
theorem dX6_amounts_46 : decode cX6_amounts 46 = .ok (.iadd, 1) := by decide +kernel
theorem dX6_amounts_47 : decode cX6_amounts 47 = .ok (.iaload, 1) := by decide +kernel
theorem dX6_amounts_48 : decode cX6_amounts 48 = .ok (.goto 4, 3) := by decide +kernel
theorem dX6_amounts_51 : decode cX6_amounts 51 = .ok (.iconst 0, 1) := by decide +kernel
theorem dX6_amounts_52 : decode cX6_amounts 52 = .ok (.iadd, 1) := by decide +kernel
theorem dX6_amounts_53 : decode cX6_amounts 53 = .ok (.istore 4, 2) := by decide +kernel
theorem dX6_amounts_55 : decode cX6_amounts 55 = .ok (.iinc 5 1, 3) := by decide +kernel
theorem dX6_amounts_58 : decode cX6_amounts 58 = .ok (.goto (-52), 3) := by decide +kernel
theorem dX6_amounts_61 : decode cX6_amounts 61 = .ok (.iload 4, 2) := by decide +kernel
theorem dX6_amounts_63 : decode cX6_amounts 63 = .ok (.ireturn, 1) := by decide +kernel
theorem dX6_firstBlank_0 : decode cX6_firstBlank 0 = .ok (.bipush 40, 2) := by decide +kernel
theorem dX6_firstBlank_2 : decode cX6_firstBlank 2 = .ok (.iload_n 1, 1) := by decide +kernel
theorem dX6_firstBlank_3 : decode cX6_firstBlank 3 = .ok (.imul, 1) := by decide +kernel
theorem dX6_firstBlank_4 : decode cX6_firstBlank 4 = .ok (.istore_n 2, 1) := by decide +kernel
theorem dX6_firstBlank_5 : decode cX6_firstBlank 5 = .ok (.iload_n 2, 1) := by decide +kernel
theorem dX6_firstBlank_6 : decode cX6_firstBlank 6 = .ok (.bipush 40, 2) := by decide +kernel
theorem dX6_firstBlank_8 : decode cX6_firstBlank 8 = .ok (.iload_n 1, 1) := by decide +kernel
theorem dX6_firstBlank_9 : decode cX6_firstBlank 9 = .ok (.imul, 1) := by decide +kernel
theorem dX6_firstBlank_10 : decode cX6_firstBlank 10 = .ok (.aload_n 0, 1) := by decide +kernel
theorem dX6_firstBlank_11 : decode cX6_firstBlank 11 = .ok (.iload_n 1, 1) := by decide +kernel
theorem dX6_firstBlank_12 : decode cX6_firstBlank 12 = .ok (.invokevirtual 52, 3) := by decide +kernel
theorem dX6_firstBlank_15 : decode cX6_firstBlank 15 = .ok (.iadd, 1) := by decide +kernel
theorem dX6_firstBlank_16 : decode cX6_firstBlank 16 = .ok (.if_icmp .ge 27, 3) := by decide +kernel
theorem dX6_firstBlank_19 : decode cX6_firstBlank 19 = .ok (.aload_n 0, 1) := by decide +kernel
theorem dX6_firstBlank_20 : decode cX6_firstBlank 20 = .ok (.getfield 7, 3) := by decide +kernel
theorem dX6_firstBlank_23 : decode cX6_firstBlank 23 = .ok (.bipush 21, 2) := by decide +kernel
theorem dX6_firstBlank_25 : decode cX6_firstBlank 25 = .ok (.iload_n 2, 1) := by decide +kernel
theorem dX6_firstBlank_26 : decode cX6_firstBlank 26 = .ok (.iadd, 1) := by decide +kernel
theorem dX6_firstBlank_27 : decode cX6_firstBlank 27 = .ok (.iaload, 1) := by decide +kernel
theorem dX6_firstBlank_28 : decode cX6_firstBlank 28 = .ok (.ifCond .ne 9, 3) := by decide +kernel
theorem dX6_firstBlank_31 : decode cX6_firstBlank 31 = .ok (.aload_n 0, 1) := by decide +kernel
theorem dX6_firstBlank_32 : decode cX6_firstBlank 32 = .ok (.iload_n 2, 1) := by decide +kernel
theorem dX6_firstBlank_33 : decode cX6_firstBlank 33 = .ok (.invokevirtual 69, 3) := by decide +kernel
theorem dX6_firstBlank_36 : decode cX6_firstBlank 36 = .ok (.ireturn, 1) := by decide +kernel
theorem dX6_firstBlank_37 : decode cX6_firstBlank 37 = .ok (.iinc 2 1, 3) := by decide +kernel
theorem dX6_firstBlank_40 : decode cX6_firstBlank 40 = .ok (.goto (-35), 3) := by decide +kernel
theorem dX6_firstBlank_43 : decode cX6_firstBlank 43 = .ok (.iconst (-1), 1) := by decide +kernel
theorem dX6_firstBlank_44 : decode cX6_firstBlank 44 = .ok (.ireturn, 1) := by decide +kernel
theorem dX6_aboutBook_0 : decode cX6_aboutBook 0 = .ok (.bipush 40, 2) := by decide +kernel
theorem dX6_aboutBook_2 : decode cX6_aboutBook 2 = .ok (.iload_n 1, 1) := by decide +kernel
theorem dX6_aboutBook_3 : decode cX6_aboutBook 3 = .ok (.imul, 1) := by decide +kernel
theorem dX6_aboutBook_4 : decode cX6_aboutBook 4 = .ok (.istore_n 3, 1) := by decide +kernel
theorem dX6_aboutBook_5 : decode cX6_aboutBook 5 = .ok (.iload_n 2, 1) := by decide +kernel
theorem dX6_aboutBook_6 : decode cX6_aboutBook 6 = .ok (.tableswitch 83 0 8 #[50, 50, 83, 83, 83, 83, 64, 64, 77], 50) := by decide +kernel
theorem dX6_aboutBook_56 : decode cX6_aboutBook 56 = .ok (.aload_n 0, 1) := by decide +kernel
theorem dX6_aboutBook_57 : decode cX6_aboutBook 57 = .ok (.getfield 7, 3) := by decide +kernel
theorem dX6_aboutBook_60 : decode cX6_aboutBook 60 = .ok (.bipush 9, 2) := by decide +kernel
theorem dX6_aboutBook_62 : decode cX6_aboutBook 62 = .ok (.iconst 2, 1) := by decide +kernel
theorem dX6_aboutBook_63 : decode cX6_aboutBook 63 = .ok (.iload_n 1, 1) := by decide +kernel
theorem dX6_aboutBook_64 : decode cX6_aboutBook 64 = .ok (.imul, 1) := by decide +kernel
theorem dX6_aboutBook_65 : decode cX6_aboutBook 65 = .ok (.iadd, 1) := by decide +kernel
theorem dX6_aboutBook_66 : decode cX6_aboutBook 66 = .ok (.iload_n 2, 1) := by decide +kernel
theorem dX6_aboutBook_67 : decode cX6_aboutBook 67 = .ok (.iadd, 1) := by decide +kernel
theorem dX6_aboutBook_68 : decode cX6_aboutBook 68 = .ok (.iaload, 1) := by decide +kernel
theorem dX6_aboutBook_69 : decode cX6_aboutBook 69 = .ok (.ireturn, 1) := by decide +kernel
theorem dX6_aboutBook_70 : decode cX6_aboutBook 70 = .ok (.aload_n 0, 1) := by decide +kernel
theorem dX6_aboutBook_71 : decode cX6_aboutBook 71 = .ok (.iload_n 3, 1) := by decide +kernel
theorem dX6_aboutBook_72 : decode cX6_aboutBook 72 = .ok (.iload_n 3, 1) := by decide +kernel
theorem dX6_aboutBook_73 : decode cX6_aboutBook 73 = .ok (.bipush 40, 2) := by decide +kernel
theorem dX6_aboutBook_75 : decode cX6_aboutBook 75 = .ok (.iadd, 1) := by decide +kernel
theorem dX6_aboutBook_76 : decode cX6_aboutBook 76 = .ok (.iload_n 2, 1) := by decide +kernel
theorem dX6_aboutBook_77 : decode cX6_aboutBook 77 = .ok (.iconst 5, 1) := by decide +kernel
theorem dX6_aboutBook_78 : decode cX6_aboutBook 78 = .ok (.isub, 1) := by decide +kernel
theorem dX6_aboutBook_79 : decode cX6_aboutBook 79 = .ok (.invokevirtual 140, 3) := by decide +kernel
theorem dX6_aboutBook_82 : decode cX6_aboutBook 82 = .ok (.ireturn, 1) := by decide +kernel
theorem dX6_aboutBook_83 : decode cX6_aboutBook 83 = .ok (.aload_n 0, 1) := by decide +kernel
theorem dX6_aboutBook_84 : decode cX6_aboutBook 84 = .ok (.iload_n 1, 1) := by decide +kernel
theorem dX6_aboutBook_85 : decode cX6_aboutBook 85 = .ok (.invokevirtual 144, 3) := by decide +kernel
theorem dX6_aboutBook_88 : decode cX6_aboutBook 88 = .ok (.ireturn, 1) := by decide +kernel
theorem dX6_aboutBook_89 : decode cX6_aboutBook 89 = .ok (.aload_n 0, 1) := by decide +kernel
theorem dX6_aboutBook_90 : decode cX6_aboutBook 90 = .ok (.iload_n 3, 1) := by decide +kernel
theorem dX6_aboutBook_91 : decode cX6_aboutBook 91 = .ok (.iload_n 3, 1) := by decide +kernel
theorem dX6_aboutBook_92 : decode cX6_aboutBook 92 = .ok (.bipush 40, 2) := by decide +kernel
theorem dX6_aboutBook_94 : decode cX6_aboutBook 94 = .ok (.iadd, 1) := by decide +kernel
theorem dX6_aboutBook_95 : decode cX6_aboutBook 95 = .ok (.iload_n 2, 1) := by decide +kernel
theorem dX6_aboutBook_96 : decode cX6_aboutBook 96 = .ok (.iconst 2, 1) := by decide +kernel
theorem dX6_aboutBook_97 : decode cX6_aboutBook 97 = .ok (.isub, 1) := by decide +kernel
theorem dX6_aboutBook_98 : decode cX6_aboutBook 98 = .ok (.invokevirtual 147, 3) := by decide +kernel
theorem dX6_aboutBook_101 : decode cX6_aboutBook 101 = .ok (.ireturn, 1) := by decide +kernel
theorem dX6_bookOf_0 : decode cX6_bookOf 0 = .ok (.aload_n 0, 1) := by decide +kernel
theorem dX6_bookOf_1 : decode cX6_bookOf 1 = .ok (.iconst 0, 1) := by decide +kernel
theorem dX6_bookOf_2 : decode cX6_bookOf 2 = .ok (.putfield 28, 3) := by decide +kernel
theorem dX6_bookOf_5 : decode cX6_bookOf 5 = .ok (.iload_n 1, 1) := by decide +kernel
theorem dX6_bookOf_6 : decode cX6_bookOf 6 = .ok (.iconst 0, 1) := by decide +kernel
theorem dX6_bookOf_7 : decode cX6_bookOf 7 = .ok (.aload_n 0, 1) := by decide +kernel
theorem dX6_bookOf_8 : decode cX6_bookOf 8 = .ok (.getfield 7, 3) := by decide +kernel
theorem dX6_bookOf_11 : decode cX6_bookOf 11 = .ok (.iconst 0, 1) := by decide +kernel
theorem dX6_bookOf_12 : decode cX6_bookOf 12 = .ok (.iaload, 1) := by decide +kernel
theorem dX6_bookOf_13 : decode cX6_bookOf 13 = .ok (.iconst 1, 1) := by decide +kernel
theorem dX6_bookOf_14 : decode cX6_bookOf 14 = .ok (.isub, 1) := by decide +kernel
theorem dX6_bookOf_15 : decode cX6_bookOf 15 = .ok (.invokestatic 33, 3) := by decide +kernel
theorem dX6_bookOf_18 : decode cX6_bookOf 18 = .ok (.ifCond .ne 9, 3) := by decide +kernel
theorem dX6_bookOf_21 : decode cX6_bookOf 21 = .ok (.aload_n 0, 1) := by decide +kernel
theorem dX6_bookOf_22 : decode cX6_bookOf 22 = .ok (.iconst 1, 1) := by decide +kernel
theorem dX6_bookOf_23 : decode cX6_bookOf 23 = .ok (.invokevirtual 72, 3) := by decide +kernel
theorem dX6_bookOf_26 : decode cX6_bookOf 26 = .ok (.ireturn, 1) := by decide +kernel
theorem dX6_bookOf_27 : decode cX6_bookOf 27 = .ok (.iload_n 2, 1) := by decide +kernel
theorem dX6_bookOf_28 : decode cX6_bookOf 28 = .ok (.iconst 0, 1) := by decide +kernel
theorem dX6_bookOf_29 : decode cX6_bookOf 29 = .ok (.bipush 8, 2) := by decide +kernel
theorem dX6_bookOf_31 : decode cX6_bookOf 31 = .ok (.invokestatic 33, 3) := by decide +kernel
theorem dX6_bookOf_34 : decode cX6_bookOf 34 = .ok (.ifCond .eq 12, 3) := by decide +kernel
theorem dX6_bookOf_37 : decode cX6_bookOf 37 = .ok (.aload_n 0, 1) := by decide +kernel
theorem dX6_bookOf_38 : decode cX6_bookOf 38 = .ok (.iload_n 1, 1) := by decide +kernel
theorem dX6_bookOf_39 : decode cX6_bookOf 39 = .ok (.iload_n 2, 1) := by decide +kernel
theorem dX6_bookOf_40 : decode cX6_bookOf 40 = .ok (.invokevirtual 150, 3) := by decide +kernel
theorem dX6_bookOf_43 : decode cX6_bookOf 43 = .ok (.goto 8, 3) := by decide +kernel
theorem dX6_bookOf_46 : decode cX6_bookOf 46 = .ok (.aload_n 0, 1) := by decide +kernel
theorem dX6_bookOf_47 : decode cX6_bookOf 47 = .ok (.iconst 2, 1) := by decide +kernel
theorem dX6_bookOf_48 : decode cX6_bookOf 48 = .ok (.invokevirtual 72, 3) := by decide +kernel
theorem dX6_bookOf_51 : decode cX6_bookOf 51 = .ok (.ireturn, 1) := by decide +kernel
theorem dX6_cheques_0 : decode cX6_cheques 0 = .ok (.iconst 0, 1) := by decide +kernel
theorem dX6_cheques_1 : decode cX6_cheques 1 = .ok (.istore_n 1, 1) := by decide +kernel
theorem dX6_cheques_2 : decode cX6_cheques 2 = .ok (.iconst 0, 1) := by decide +kernel
theorem dX6_cheques_3 : decode cX6_cheques 3 = .ok (.istore_n 2, 1) := by decide +kernel
theorem dX6_cheques_4 : decode cX6_cheques 4 = .ok (.iload_n 2, 1) := by decide +kernel
theorem dX6_cheques_5 : decode cX6_cheques 5 = .ok (.aload_n 0, 1) := by decide +kernel
theorem dX6_cheques_6 : decode cX6_cheques 6 = .ok (.getfield 7, 3) := by decide +kernel
theorem dX6_cheques_9 : decode cX6_cheques 9 = .ok (.iconst 0, 1) := by decide +kernel
theorem dX6_cheques_10 : decode cX6_cheques 10 = .ok (.iaload, 1) := by decide +kernel
theorem dX6_cheques_11 : decode cX6_cheques 11 = .ok (.if_icmp .ge 17, 3) := by decide +kernel
theorem dX6_cheques_14 : decode cX6_cheques 14 = .ok (.iload_n 1, 1) := by decide +kernel
theorem dX6_cheques_15 : decode cX6_cheques 15 = .ok (.aload_n 0, 1) := by decide +kernel
theorem dX6_cheques_16 : decode cX6_cheques 16 = .ok (.iload_n 2, 1) := by decide +kernel
theorem dX6_cheques_17 : decode cX6_cheques 17 = .ok (.invokevirtual 52, 3) := by decide +kernel
theorem dX6_cheques_20 : decode cX6_cheques 20 = .ok (.iadd, 1) := by decide +kernel
theorem dX6_cheques_21 : decode cX6_cheques 21 = .ok (.istore_n 1, 1) := by decide +kernel
theorem dX6_cheques_22 : decode cX6_cheques 22 = .ok (.iinc 2 1, 3) := by decide +kernel
theorem dX6_cheques_25 : decode cX6_cheques 25 = .ok (.goto (-21), 3) := by decide +kernel
theorem dX6_cheques_28 : decode cX6_cheques 28 = .ok (.iload_n 1, 1) := by decide +kernel
theorem dX6_cheques_29 : decode cX6_cheques 29 = .ok (.ireturn, 1) := by decide +kernel
theorem dX6_counted_0 : decode cX6_counted 0 = .ok (.bipush 40, 2) := by decide +kernel
theorem dX6_counted_2 : decode cX6_counted 2 = .ok (.aload_n 0, 1) := by decide +kernel
theorem dX6_counted_3 : decode cX6_counted 3 = .ok (.getfield 7, 3) := by decide +kernel
theorem dX6_counted_6 : decode cX6_counted 6 = .ok (.iconst 0, 1) := by decide +kernel
theorem dX6_counted_7 : decode cX6_counted 7 = .ok (.iaload, 1) := by decide +kernel
theorem dX6_counted_8 : decode cX6_counted 8 = .ok (.imul, 1) := by decide +kernel
theorem dX6_counted_9 : decode cX6_counted 9 = .ok (.istore_n 2, 1) := by decide +kernel
theorem dX6_counted_10 : decode cX6_counted 10 = .ok (.iload_n 1, 1) := by decide +kernel
theorem dX6_counted_11 : decode cX6_counted 11 = .ok (.tableswitch 107 0 11 #[61, 68, 107, 107, 107, 107, 73, 73, 83, 90, 97, 102], 61) := by decide +kernel
theorem dX6_counted_72 : decode cX6_counted 72 = .ok (.aload_n 0, 1) := by decide +kernel
theorem dX6_counted_73 : decode cX6_counted 73 = .ok (.getfield 7, 3) := by decide +kernel
theorem dX6_counted_76 : decode cX6_counted 76 = .ok (.iconst 0, 1) := by decide +kernel
theorem dX6_counted_77 : decode cX6_counted 77 = .ok (.iaload, 1) := by decide +kernel
theorem dX6_counted_78 : decode cX6_counted 78 = .ok (.ireturn, 1) := by decide +kernel
theorem dX6_counted_79 : decode cX6_counted 79 = .ok (.aload_n 0, 1) := by decide +kernel
theorem dX6_counted_80 : decode cX6_counted 80 = .ok (.invokevirtual 153, 3) := by decide +kernel
theorem dX6_counted_83 : decode cX6_counted 83 = .ok (.ireturn, 1) := by decide +kernel
theorem dX6_counted_84 : decode cX6_counted 84 = .ok (.aload_n 0, 1) := by decide +kernel
theorem dX6_counted_85 : decode cX6_counted 85 = .ok (.iconst 0, 1) := by decide +kernel
theorem dX6_counted_86 : decode cX6_counted 86 = .ok (.iload_n 2, 1) := by decide +kernel
theorem dX6_counted_87 : decode cX6_counted 87 = .ok (.iload_n 1, 1) := by decide +kernel
theorem dX6_counted_88 : decode cX6_counted 88 = .ok (.iconst 5, 1) := by decide +kernel
theorem dX6_counted_89 : decode cX6_counted 89 = .ok (.isub, 1) := by decide +kernel
theorem dX6_counted_90 : decode cX6_counted 90 = .ok (.invokevirtual 140, 3) := by decide +kernel
theorem dX6_counted_93 : decode cX6_counted 93 = .ok (.ireturn, 1) := by decide +kernel
theorem dX6_counted_94 : decode cX6_counted 94 = .ok (.aload_n 0, 1) := by decide +kernel
theorem dX6_counted_95 : decode cX6_counted 95 = .ok (.getfield 7, 3) := by decide +kernel
theorem dX6_counted_98 : decode cX6_counted 98 = .ok (.iconst 2, 1) := by decide +kernel
theorem dX6_counted_99 : decode cX6_counted 99 = .ok (.iaload, 1) := by decide +kernel
theorem dX6_counted_100 : decode cX6_counted 100 = .ok (.ireturn, 1) := by decide +kernel
theorem dX6_counted_101 : decode cX6_counted 101 = .ok (.aload_n 0, 1) := by decide +kernel
theorem dX6_counted_102 : decode cX6_counted 102 = .ok (.getfield 7, 3) := by decide +kernel
theorem dX6_counted_105 : decode cX6_counted 105 = .ok (.iconst 1, 1) := by decide +kernel
theorem dX6_counted_106 : decode cX6_counted 106 = .ok (.iaload, 1) := by decide +kernel
theorem dX6_counted_107 : decode cX6_counted 107 = .ok (.ireturn, 1) := by decide +kernel
theorem dX6_counted_108 : decode cX6_counted 108 = .ok (.aload_n 0, 1) := by decide +kernel
theorem dX6_counted_109 : decode cX6_counted 109 = .ok (.getfield 37, 3) := by decide +kernel
theorem dX6_counted_112 : decode cX6_counted 112 = .ok (.ireturn, 1) := by decide +kernel
theorem dX6_counted_113 : decode cX6_counted 113 = .ok (.aload_n 0, 1) := by decide +kernel
theorem dX6_counted_114 : decode cX6_counted 114 = .ok (.getfield 100, 3) := by decide +kernel
theorem dX6_counted_117 : decode cX6_counted 117 = .ok (.ireturn, 1) := by decide +kernel
theorem dX6_counted_118 : decode cX6_counted 118 = .ok (.iload_n 1, 1) := by decide +kernel
theorem dX6_counted_119 : decode cX6_counted 119 = .ok (.bipush 11, 2) := by decide +kernel
theorem dX6_counted_121 : decode cX6_counted 121 = .ok (.if_icmp .le 17, 3) := by decide +kernel
theorem dX6_counted_124 : decode cX6_counted 124 = .ok (.aload_n 0, 1) := by decide +kernel
theorem dX6_counted_125 : decode cX6_counted 125 = .ok (.getfield 7, 3) := by decide +kernel
theorem dX6_counted_128 : decode cX6_counted 128 = .ok (.iconst 3, 1) := by decide +kernel
theorem dX6_counted_129 : decode cX6_counted 129 = .ok (.iload_n 1, 1) := by decide +kernel
theorem dX6_counted_130 : decode cX6_counted 130 = .ok (.iadd, 1) := by decide +kernel
theorem dX6_counted_131 : decode cX6_counted 131 = .ok (.bipush 12, 2) := by decide +kernel
theorem dX6_counted_133 : decode cX6_counted 133 = .ok (.isub, 1) := by decide +kernel
theorem dX6_counted_134 : decode cX6_counted 134 = .ok (.iaload, 1) := by decide +kernel
theorem dX6_counted_135 : decode cX6_counted 135 = .ok (.goto 12, 3) := by decide +kernel
theorem dX6_counted_138 : decode cX6_counted 138 = .ok (.aload_n 0, 1) := by decide +kernel
theorem dX6_counted_139 : decode cX6_counted 139 = .ok (.iconst 0, 1) := by decide +kernel
theorem dX6_counted_140 : decode cX6_counted 140 = .ok (.iload_n 2, 1) := by decide +kernel
theorem dX6_counted_141 : decode cX6_counted 141 = .ok (.iload_n 1, 1) := by decide +kernel
theorem dX6_counted_142 : decode cX6_counted 142 = .ok (.iconst 2, 1) := by decide +kernel
theorem dX6_counted_143 : decode cX6_counted 143 = .ok (.isub, 1) := by decide +kernel
theorem dX6_counted_144 : decode cX6_counted 144 = .ok (.invokevirtual 147, 3) := by decide +kernel
theorem dX6_counted_147 : decode cX6_counted 147 = .ok (.ireturn, 1) := by decide +kernel
theorem dX6_count_0 : decode cX6_count 0 = .ok (.aload_n 0, 1) := by decide +kernel
theorem dX6_count_1 : decode cX6_count 1 = .ok (.iconst 0, 1) := by decide +kernel
theorem dX6_count_2 : decode cX6_count 2 = .ok (.putfield 28, 3) := by decide +kernel
theorem dX6_count_5 : decode cX6_count 5 = .ok (.iload_n 1, 1) := by decide +kernel
theorem dX6_count_6 : decode cX6_count 6 = .ok (.iconst 0, 1) := by decide +kernel
theorem dX6_count_7 : decode cX6_count 7 = .ok (.bipush 17, 2) := by decide +kernel
theorem dX6_count_9 : decode cX6_count 9 = .ok (.invokestatic 33, 3) := by decide +kernel
theorem dX6_count_12 : decode cX6_count 12 = .ok (.ifCond .eq 11, 3) := by decide +kernel
theorem dX6_count_15 : decode cX6_count 15 = .ok (.aload_n 0, 1) := by decide +kernel
theorem dX6_count_16 : decode cX6_count 16 = .ok (.iload_n 1, 1) := by decide +kernel
theorem dX6_count_17 : decode cX6_count 17 = .ok (.invokevirtual 157, 3) := by decide +kernel
theorem dX6_count_20 : decode cX6_count 20 = .ok (.goto 8, 3) := by decide +kernel
theorem dX6_count_23 : decode cX6_count 23 = .ok (.aload_n 0, 1) := by decide +kernel
theorem dX6_count_24 : decode cX6_count 24 = .ok (.iconst 1, 1) := by decide +kernel
theorem dX6_count_25 : decode cX6_count 25 = .ok (.invokevirtual 72, 3) := by decide +kernel
theorem dX6_count_28 : decode cX6_count 28 = .ok (.ireturn, 1) := by decide +kernel
theorem dX6_next_0 : decode cX6_next 0 = .ok (.iconst (-1), 1) := by decide +kernel
theorem dX6_next_1 : decode cX6_next 1 = .ok (.istore_n 2, 1) := by decide +kernel
theorem dX6_next_2 : decode cX6_next 2 = .ok (.iconst 0, 1) := by decide +kernel
theorem dX6_next_3 : decode cX6_next 3 = .ok (.istore_n 3, 1) := by decide +kernel
theorem dX6_next_4 : decode cX6_next 4 = .ok (.iload_n 3, 1) := by decide +kernel
theorem dX6_next_5 : decode cX6_next 5 = .ok (.bipush 40, 2) := by decide +kernel
theorem dX6_next_7 : decode cX6_next 7 = .ok (.aload_n 0, 1) := by decide +kernel
theorem dX6_next_8 : decode cX6_next 8 = .ok (.getfield 7, 3) := by decide +kernel
theorem dX6_next_11 : decode cX6_next 11 = .ok (.iconst 0, 1) := by decide +kernel
theorem dX6_next_12 : decode cX6_next 12 = .ok (.iaload, 1) := by decide +kernel
theorem dX6_next_13 : decode cX6_next 13 = .ok (.imul, 1) := by decide +kernel
theorem dX6_next_14 : decode cX6_next 14 = .ok (.if_icmp .ge 62, 3) := by decide +kernel
theorem dX6_next_17 : decode cX6_next 17 = .ok (.aload_n 0, 1) := by decide +kernel
theorem dX6_next_18 : decode cX6_next 18 = .ok (.iload_n 3, 1) := by decide +kernel
theorem dX6_next_19 : decode cX6_next 19 = .ok (.invokevirtual 65, 3) := by decide +kernel
theorem dX6_next_22 : decode cX6_next 22 = .ok (.ifCond .eq 16, 3) := by decide +kernel
theorem dX6_next_25 : decode cX6_next 25 = .ok (.aload_n 0, 1) := by decide +kernel
theorem dX6_next_26 : decode cX6_next 26 = .ok (.iload_n 3, 1) := by decide +kernel
theorem dX6_next_27 : decode cX6_next 27 = .ok (.invokevirtual 69, 3) := by decide +kernel
theorem dX6_next_30 : decode cX6_next 30 = .ok (.iload_n 1, 1) := by decide +kernel
theorem dX6_next_31 : decode cX6_next 31 = .ok (.if_icmp .le 7, 3) := by decide +kernel
theorem dX6_next_34 : decode cX6_next 34 = .ok (.iconst 1, 1) := by decide +kernel
theorem dX6_next_35 : decode cX6_next 35 = .ok (.goto 4, 3) := by decide +kernel
theorem dX6_next_38 : decode cX6_next 38 = .ok (.iconst 0, 1) := by decide +kernel
theorem dX6_next_39 : decode cX6_next 39 = .ok (.istore 4, 2) := by decide +kernel
theorem dX6_next_41 : decode cX6_next 41 = .ok (.iload 4, 2) := by decide +kernel
theorem dX6_next_43 : decode cX6_next 43 = .ok (.ifCond .eq 25, 3) := by decide +kernel
theorem dX6_next_46 : decode cX6_next 46 = .ok (.iload_n 2, 1) := by decide +kernel
theorem dX6_next_47 : decode cX6_next 47 = .ok (.iconst (-1), 1) := by decide +kernel
theorem dX6_next_48 : decode cX6_next 48 = .ok (.if_icmp .eq 12, 3) := by decide +kernel
theorem dX6_next_51 : decode cX6_next 51 = .ok (.aload_n 0, 1) := by decide +kernel
theorem dX6_next_52 : decode cX6_next 52 = .ok (.iload_n 3, 1) := by decide +kernel
theorem dX6_next_53 : decode cX6_next 53 = .ok (.invokevirtual 69, 3) := by decide +kernel
theorem dX6_next_56 : decode cX6_next 56 = .ok (.iload_n 2, 1) := by decide +kernel
theorem dX6_next_57 : decode cX6_next 57 = .ok (.if_icmp .ge 11, 3) := by decide +kernel
theorem dX6_next_60 : decode cX6_next 60 = .ok (.aload_n 0, 1) := by decide +kernel
theorem dX6_next_61 : decode cX6_next 61 = .ok (.iload_n 3, 1) := by decide +kernel
theorem dX6_next_62 : decode cX6_next 62 = .ok (.invokevirtual 69, 3) := by decide +kernel
theorem dX6_next_65 : decode cX6_next 65 = .ok (.goto 4, 3) := by decide +kernel
theorem dX6_next_68 : decode cX6_next 68 = .ok (.iload_n 2, 1) := by decide +kernel
theorem dX6_next_69 : decode cX6_next 69 = .ok (.istore_n 2, 1) := by decide +kernel
theorem dX6_next_70 : decode cX6_next 70 = .ok (.iinc 3 1, 3) := by decide +kernel
theorem dX6_next_73 : decode cX6_next 73 = .ok (.goto (-69), 3) := by decide +kernel
theorem dX6_next_76 : decode cX6_next 76 = .ok (.iload_n 2, 1) := by decide +kernel
theorem dX6_next_77 : decode cX6_next 77 = .ok (.ireturn, 1) := by decide +kernel
theorem dX6_ranked_0 : decode cX6_ranked 0 = .ok (.aload_n 0, 1) := by decide +kernel
theorem dX6_ranked_1 : decode cX6_ranked 1 = .ok (.iconst 0, 1) := by decide +kernel
theorem dX6_ranked_2 : decode cX6_ranked 2 = .ok (.putfield 28, 3) := by decide +kernel
theorem dX6_ranked_5 : decode cX6_ranked 5 = .ok (.iload_n 1, 1) := by decide +kernel
theorem dX6_ranked_6 : decode cX6_ranked 6 = .ok (.ifCond .ge 9, 3) := by decide +kernel
theorem dX6_ranked_9 : decode cX6_ranked 9 = .ok (.aload_n 0, 1) := by decide +kernel
theorem dX6_ranked_10 : decode cX6_ranked 10 = .ok (.iconst 1, 1) := by decide +kernel
theorem dX6_ranked_11 : decode cX6_ranked 11 = .ok (.invokevirtual 72, 3) := by decide +kernel
theorem dX6_ranked_14 : decode cX6_ranked 14 = .ok (.ireturn, 1) := by decide +kernel
theorem dX6_ranked_15 : decode cX6_ranked 15 = .ok (.aload_n 0, 1) := by decide +kernel
theorem dX6_ranked_16 : decode cX6_ranked 16 = .ok (.iconst (-1), 1) := by decide +kernel
theorem dX6_ranked_17 : decode cX6_ranked 17 = .ok (.invokevirtual 160, 3) := by decide +kernel
theorem dX6_ranked_20 : decode cX6_ranked 20 = .ok (.istore_n 2, 1) := by decide +kernel
theorem dX6_ranked_21 : decode cX6_ranked 21 = .ok (.iconst 0, 1) := by decide +kernel
theorem dX6_ranked_22 : decode cX6_ranked 22 = .ok (.istore_n 3, 1) := by decide +kernel
theorem dX6_ranked_23 : decode cX6_ranked 23 = .ok (.iload_n 3, 1) := by decide +kernel
theorem dX6_ranked_24 : decode cX6_ranked 24 = .ok (.iload_n 1, 1) := by decide +kernel
theorem dX6_ranked_25 : decode cX6_ranked 25 = .ok (.if_icmp .ge 20, 3) := by decide +kernel
theorem dX6_ranked_28 : decode cX6_ranked 28 = .ok (.iload_n 2, 1) := by decide +kernel
theorem dX6_ranked_29 : decode cX6_ranked 29 = .ok (.iconst (-1), 1) := by decide +kernel
theorem dX6_ranked_30 : decode cX6_ranked 30 = .ok (.if_icmp .eq 15, 3) := by decide +kernel
theorem dX6_ranked_33 : decode cX6_ranked 33 = .ok (.aload_n 0, 1) := by decide +kernel
theorem dX6_ranked_34 : decode cX6_ranked 34 = .ok (.iload_n 2, 1) := by decide +kernel
theorem dX6_ranked_35 : decode cX6_ranked 35 = .ok (.invokevirtual 160, 3) := by decide +kernel
theorem dX6_ranked_38 : decode cX6_ranked 38 = .ok (.istore_n 2, 1) := by decide +kernel
theorem dX6_ranked_39 : decode cX6_ranked 39 = .ok (.iinc 3 1, 3) := by decide +kernel
theorem dX6_ranked_42 : decode cX6_ranked 42 = .ok (.goto (-19), 3) := by decide +kernel
theorem dX6_ranked_45 : decode cX6_ranked 45 = .ok (.iload_n 2, 1) := by decide +kernel
theorem dX6_ranked_46 : decode cX6_ranked 46 = .ok (.ireturn, 1) := by decide +kernel
theorem dX6_isLeft_0 : decode cX6_isLeft 0 = .ok (.iload_n 1, 1) := by decide +kernel
theorem dX6_isLeft_1 : decode cX6_isLeft 1 = .ok (.iload_n 2, 1) := by decide +kernel
theorem dX6_isLeft_2 : decode cX6_isLeft 2 = .ok (.imul, 1) := by decide +kernel
theorem dX6_isLeft_3 : decode cX6_isLeft 3 = .ok (.aload_n 0, 1) := by decide +kernel
theorem dX6_isLeft_4 : decode cX6_isLeft 4 = .ok (.getfield 7, 3) := by decide +kernel
theorem dX6_isLeft_7 : decode cX6_isLeft 7 = .ok (.iconst 1, 1) := by decide +kernel
theorem dX6_isLeft_8 : decode cX6_isLeft 8 = .ok (.iaload, 1) := by decide +kernel
theorem dX6_isLeft_9 : decode cX6_isLeft 9 = .ok (.irem, 1) := by decide +kernel
theorem dX6_isLeft_10 : decode cX6_isLeft 10 = .ok (.ifCond .ne 7, 3) := by decide +kernel
theorem dX6_isLeft_13 : decode cX6_isLeft 13 = .ok (.iconst 1, 1) := by decide +kernel
theorem dX6_isLeft_14 : decode cX6_isLeft 14 = .ok (.goto 4, 3) := by decide +kernel
theorem dX6_isLeft_17 : decode cX6_isLeft 17 = .ok (.iconst 0, 1) := by decide +kernel
theorem dX6_isLeft_18 : decode cX6_isLeft 18 = .ok (.ireturn, 1) := by decide +kernel
theorem dX6_missedDigits_0 : decode cX6_missedDigits 0 = .ok (.iconst 0, 1) := by decide +kernel
theorem dX6_missedDigits_1 : decode cX6_missedDigits 1 = .ok (.istore_n 2, 1) := by decide +kernel
theorem dX6_missedDigits_2 : decode cX6_missedDigits 2 = .ok (.iconst 0, 1) := by decide +kernel
theorem dX6_missedDigits_3 : decode cX6_missedDigits 3 = .ok (.istore_n 3, 1) := by decide +kernel
theorem dX6_missedDigits_4 : decode cX6_missedDigits 4 = .ok (.iload_n 3, 1) := by decide +kernel
theorem dX6_missedDigits_5 : decode cX6_missedDigits 5 = .ok (.bipush 60, 2) := by decide +kernel
theorem dX6_missedDigits_7 : decode cX6_missedDigits 7 = .ok (.if_icmp .ge 57, 3) := by decide +kernel
theorem dX6_missedDigits_10 : decode cX6_missedDigits 10 = .ok (.iload_n 3, 1) := by decide +kernel
theorem dX6_missedDigits_11 : decode cX6_missedDigits 11 = .ok (.bipush 10, 2) := by decide +kernel
theorem dX6_missedDigits_13 : decode cX6_missedDigits 13 = .ok (.irem, 1) := by decide +kernel
theorem dX6_missedDigits_14 : decode cX6_missedDigits 14 = .ok (.iload_n 1, 1) := by decide +kernel
theorem dX6_missedDigits_15 : decode cX6_missedDigits 15 = .ok (.iload_n 3, 1) := by decide +kernel
theorem dX6_missedDigits_16 : decode cX6_missedDigits 16 = .ok (.bipush 10, 2) := by decide +kernel
theorem dX6_missedDigits_18 : decode cX6_missedDigits 18 = .ok (.idiv, 1) := by decide +kernel
theorem dX6_missedDigits_19 : decode cX6_missedDigits 19 = .ok (.invokestatic 44, 3) := by decide +kernel
theorem dX6_missedDigits_22 : decode cX6_missedDigits 22 = .ok (.isub, 1) := by decide +kernel
theorem dX6_missedDigits_23 : decode cX6_missedDigits 23 = .ok (.istore 4, 2) := by decide +kernel
theorem dX6_missedDigits_25 : decode cX6_missedDigits 25 = .ok (.iload_n 2, 1) := by decide +kernel
theorem dX6_missedDigits_26 : decode cX6_missedDigits 26 = .ok (.iload 4, 2) := by decide +kernel
theorem dX6_missedDigits_28 : decode cX6_missedDigits 28 = .ok (.ifCond .eq 27, 3) := by decide +kernel
theorem dX6_missedDigits_31 : decode cX6_missedDigits 31 = .ok (.aload_n 0, 1) := by decide +kernel
theorem dX6_missedDigits_32 : decode cX6_missedDigits 32 = .ok (.aload_n 0, 1) := by decide +kernel
theorem dX6_missedDigits_33 : decode cX6_missedDigits 33 = .ok (.getfield 7, 3) := by decide +kernel
theorem dX6_missedDigits_36 : decode cX6_missedDigits 36 = .ok (.iconst 3, 1) := by decide +kernel
theorem dX6_missedDigits_37 : decode cX6_missedDigits 37 = .ok (.iload_n 3, 1) := by decide +kernel
theorem dX6_missedDigits_38 : decode cX6_missedDigits 38 = .ok (.bipush 10, 2) := by decide +kernel
theorem dX6_missedDigits_40 : decode cX6_missedDigits 40 = .ok (.idiv, 1) := by decide +kernel
theorem dX6_missedDigits_41 : decode cX6_missedDigits 41 = .ok (.iadd, 1) := by decide +kernel
theorem dX6_missedDigits_42 : decode cX6_missedDigits 42 = .ok (.iaload, 1) := by decide +kernel
theorem dX6_missedDigits_43 : decode cX6_missedDigits 43 = .ok (.iload 4, 2) := by decide +kernel
theorem dX6_missedDigits_45 : decode cX6_missedDigits 45 = .ok (.invokevirtual 163, 3) := by decide +kernel
theorem dX6_missedDigits_48 : decode cX6_missedDigits 48 = .ok (.ifCond .eq 7, 3) := by decide +kernel
theorem dX6_missedDigits_51 : decode cX6_missedDigits 51 = .ok (.iconst 1, 1) := by decide +kernel
theorem dX6_missedDigits_52 : decode cX6_missedDigits 52 = .ok (.goto 4, 3) := by decide +kernel
theorem dX6_missedDigits_55 : decode cX6_missedDigits 55 = .ok (.iconst 0, 1) := by decide +kernel
theorem dX6_missedDigits_56 : decode cX6_missedDigits 56 = .ok (.iadd, 1) := by decide +kernel
theorem dX6_missedDigits_57 : decode cX6_missedDigits 57 = .ok (.istore_n 2, 1) := by decide +kernel
theorem dX6_missedDigits_58 : decode cX6_missedDigits 58 = .ok (.iinc 3 1, 3) := by decide +kernel
theorem dX6_missedDigits_61 : decode cX6_missedDigits 61 = .ok (.goto (-57), 3) := by decide +kernel
theorem dX6_missedDigits_64 : decode cX6_missedDigits 64 = .ok (.iload_n 2, 1) := by decide +kernel
theorem dX6_missedDigits_65 : decode cX6_missedDigits 65 = .ok (.ireturn, 1) := by decide +kernel
theorem dX6_missedSwaps_0 : decode cX6_missedSwaps 0 = .ok (.iconst 0, 1) := by decide +kernel
theorem dX6_missedSwaps_1 : decode cX6_missedSwaps 1 = .ok (.istore_n 2, 1) := by decide +kernel
theorem dX6_missedSwaps_2 : decode cX6_missedSwaps 2 = .ok (.iconst 0, 1) := by decide +kernel
theorem dX6_missedSwaps_3 : decode cX6_missedSwaps 3 = .ok (.istore_n 3, 1) := by decide +kernel
theorem dX6_missedSwaps_4 : decode cX6_missedSwaps 4 = .ok (.iload_n 3, 1) := by decide +kernel
theorem dX6_missedSwaps_5 : decode cX6_missedSwaps 5 = .ok (.iconst 5, 1) := by decide +kernel
theorem dX6_missedSwaps_6 : decode cX6_missedSwaps 6 = .ok (.if_icmp .ge 65, 3) := by decide +kernel
theorem dX6_missedSwaps_9 : decode cX6_missedSwaps 9 = .ok (.iload_n 1, 1) := by decide +kernel
theorem dX6_missedSwaps_10 : decode cX6_missedSwaps 10 = .ok (.iload_n 3, 1) := by decide +kernel
theorem dX6_missedSwaps_11 : decode cX6_missedSwaps 11 = .ok (.invokestatic 44, 3) := by decide +kernel
theorem dX6_missedSwaps_14 : decode cX6_missedSwaps 14 = .ok (.iload_n 1, 1) := by decide +kernel
theorem dX6_missedSwaps_15 : decode cX6_missedSwaps 15 = .ok (.iload_n 3, 1) := by decide +kernel
theorem dX6_missedSwaps_16 : decode cX6_missedSwaps 16 = .ok (.iconst 1, 1) := by decide +kernel
theorem dX6_missedSwaps_17 : decode cX6_missedSwaps 17 = .ok (.iadd, 1) := by decide +kernel
theorem dX6_missedSwaps_18 : decode cX6_missedSwaps 18 = .ok (.invokestatic 44, 3) := by decide +kernel
theorem dX6_missedSwaps_21 : decode cX6_missedSwaps 21 = .ok (.isub, 1) := by decide +kernel
theorem dX6_missedSwaps_22 : decode cX6_missedSwaps 22 = .ok (.istore 4, 2) := by decide +kernel
theorem dX6_missedSwaps_24 : decode cX6_missedSwaps 24 = .ok (.iload_n 2, 1) := by decide +kernel
theorem dX6_missedSwaps_25 : decode cX6_missedSwaps 25 = .ok (.iload 4, 2) := by decide +kernel
theorem dX6_missedSwaps_27 : decode cX6_missedSwaps 27 = .ok (.ifCond .eq 35, 3) := by decide +kernel
theorem dX6_missedSwaps_30 : decode cX6_missedSwaps 30 = .ok (.aload_n 0, 1) := by decide +kernel
theorem dX6_missedSwaps_31 : decode cX6_missedSwaps 31 = .ok (.aload_n 0, 1) := by decide +kernel
theorem dX6_missedSwaps_32 : decode cX6_missedSwaps 32 = .ok (.getfield 7, 3) := by decide +kernel
theorem dX6_missedSwaps_35 : decode cX6_missedSwaps 35 = .ok (.iconst 3, 1) := by decide +kernel
theorem dX6_missedSwaps_36 : decode cX6_missedSwaps 36 = .ok (.iload_n 3, 1) := by decide +kernel
theorem dX6_missedSwaps_37 : decode cX6_missedSwaps 37 = .ok (.iadd, 1) := by decide +kernel
theorem dX6_missedSwaps_38 : decode cX6_missedSwaps 38 = .ok (.iaload, 1) := by decide +kernel
theorem dX6_missedSwaps_39 : decode cX6_missedSwaps 39 = .ok (.aload_n 0, 1) := by decide +kernel
theorem dX6_missedSwaps_40 : decode cX6_missedSwaps 40 = .ok (.getfield 7, 3) := by decide +kernel
theorem dX6_missedSwaps_43 : decode cX6_missedSwaps 43 = .ok (.iconst 3, 1) := by decide +kernel
theorem dX6_missedSwaps_44 : decode cX6_missedSwaps 44 = .ok (.iload_n 3, 1) := by decide +kernel
theorem dX6_missedSwaps_45 : decode cX6_missedSwaps 45 = .ok (.iadd, 1) := by decide +kernel
theorem dX6_missedSwaps_46 : decode cX6_missedSwaps 46 = .ok (.iconst 1, 1) := by decide +kernel
theorem dX6_missedSwaps_47 : decode cX6_missedSwaps 47 = .ok (.iadd, 1) := by decide +kernel
theorem dX6_missedSwaps_48 : decode cX6_missedSwaps 48 = .ok (.iaload, 1) := by decide +kernel
theorem dX6_missedSwaps_49 : decode cX6_missedSwaps 49 = .ok (.isub, 1) := by decide +kernel
theorem dX6_missedSwaps_50 : decode cX6_missedSwaps 50 = .ok (.iload 4, 2) := by decide +kernel
theorem dX6_missedSwaps_52 : decode cX6_missedSwaps 52 = .ok (.invokevirtual 163, 3) := by decide +kernel
theorem dX6_missedSwaps_55 : decode cX6_missedSwaps 55 = .ok (.ifCond .eq 7, 3) := by decide +kernel
theorem dX6_missedSwaps_58 : decode cX6_missedSwaps 58 = .ok (.iconst 1, 1) := by decide +kernel
theorem dX6_missedSwaps_59 : decode cX6_missedSwaps 59 = .ok (.goto 4, 3) := by decide +kernel
theorem dX6_missedSwaps_62 : decode cX6_missedSwaps 62 = .ok (.iconst 0, 1) := by decide +kernel
theorem dX6_missedSwaps_63 : decode cX6_missedSwaps 63 = .ok (.iadd, 1) := by decide +kernel
theorem dX6_missedSwaps_64 : decode cX6_missedSwaps 64 = .ok (.istore_n 2, 1) := by decide +kernel
theorem dX6_missedSwaps_65 : decode cX6_missedSwaps 65 = .ok (.iinc 3 1, 3) := by decide +kernel
theorem dX6_missedSwaps_68 : decode cX6_missedSwaps 68 = .ok (.goto (-64), 3) := by decide +kernel
theorem dX6_missedSwaps_71 : decode cX6_missedSwaps 71 = .ok (.iload_n 2, 1) := by decide +kernel
theorem dX6_missedSwaps_72 : decode cX6_missedSwaps 72 = .ok (.ireturn, 1) := by decide +kernel
theorem dX6_missed_0 : decode cX6_missed 0 = .ok (.aload_n 0, 1) := by decide +kernel
theorem dX6_missed_1 : decode cX6_missed 1 = .ok (.iconst 0, 1) := by decide +kernel
theorem dX6_missed_2 : decode cX6_missed 2 = .ok (.putfield 28, 3) := by decide +kernel
theorem dX6_missed_5 : decode cX6_missed 5 = .ok (.iload_n 1, 1) := by decide +kernel
theorem dX6_missed_6 : decode cX6_missed 6 = .ok (.invokestatic 78, 3) := by decide +kernel
theorem dX6_missed_9 : decode cX6_missed 9 = .ok (.ifCond .ne 9, 3) := by decide +kernel
theorem dX6_missed_12 : decode cX6_missed 12 = .ok (.aload_n 0, 1) := by decide +kernel
theorem dX6_missed_13 : decode cX6_missed 13 = .ok (.iconst 1, 1) := by decide +kernel
theorem dX6_missed_14 : decode cX6_missed 14 = .ok (.invokevirtual 72, 3) := by decide +kernel
theorem dX6_missed_17 : decode cX6_missed 17 = .ok (.ireturn, 1) := by decide +kernel
theorem dX6_missed_18 : decode cX6_missed 18 = .ok (.iload_n 2, 1) := by decide +kernel
theorem dX6_missed_19 : decode cX6_missed 19 = .ok (.iconst 0, 1) := by decide +kernel
theorem dX6_missed_20 : decode cX6_missed 20 = .ok (.iconst 2, 1) := by decide +kernel
theorem dX6_missed_21 : decode cX6_missed 21 = .ok (.invokestatic 33, 3) := by decide +kernel
theorem dX6_missed_24 : decode cX6_missed 24 = .ok (.ifCond .ne 9, 3) := by decide +kernel
theorem dX6_missed_27 : decode cX6_missed 27 = .ok (.aload_n 0, 1) := by decide +kernel
theorem dX6_missed_28 : decode cX6_missed 28 = .ok (.iconst 2, 1) := by decide +kernel
theorem dX6_missed_29 : decode cX6_missed 29 = .ok (.invokevirtual 72, 3) := by decide +kernel
theorem dX6_missed_32 : decode cX6_missed 32 = .ok (.ireturn, 1) := by decide +kernel
theorem dX6_missed_33 : decode cX6_missed 33 = .ok (.iload_n 2, 1) := by decide +kernel
theorem dX6_missed_34 : decode cX6_missed 34 = .ok (.ifCond .ne 11, 3) := by decide +kernel
theorem dX6_missed_37 : decode cX6_missed 37 = .ok (.aload_n 0, 1) := by decide +kernel
theorem dX6_missed_38 : decode cX6_missed 38 = .ok (.iload_n 1, 1) := by decide +kernel
theorem dX6_missed_39 : decode cX6_missed 39 = .ok (.invokevirtual 166, 3) := by decide +kernel
theorem dX6_missed_42 : decode cX6_missed 42 = .ok (.goto 17, 3) := by decide +kernel
theorem dX6_missed_45 : decode cX6_missed 45 = .ok (.iload_n 2, 1) := by decide +kernel
theorem dX6_missed_46 : decode cX6_missed 46 = .ok (.iconst 1, 1) := by decide +kernel
theorem dX6_missed_47 : decode cX6_missed 47 = .ok (.if_icmp .ne 11, 3) := by decide +kernel
theorem dX6_missed_50 : decode cX6_missed 50 = .ok (.aload_n 0, 1) := by decide +kernel
theorem dX6_missed_51 : decode cX6_missed 51 = .ok (.iload_n 1, 1) := by decide +kernel
theorem dX6_missed_52 : decode cX6_missed 52 = .ok (.invokevirtual 169, 3) := by decide +kernel
theorem dX6_missed_55 : decode cX6_missed 55 = .ok (.goto 4, 3) := by decide +kernel
theorem dX6_missed_58 : decode cX6_missed 58 = .ok (.iconst 0, 1) := by decide +kernel
theorem dX6_missed_59 : decode cX6_missed 59 = .ok (.ireturn, 1) := by decide +kernel
theorem dX6_pairs_0 : decode cX6_pairs 0 = .ok (.iconst 0, 1) := by decide +kernel
theorem dX6_pairs_1 : decode cX6_pairs 1 = .ok (.istore_n 2, 1) := by decide +kernel
theorem dX6_pairs_2 : decode cX6_pairs 2 = .ok (.iconst 1, 1) := by decide +kernel
theorem dX6_pairs_3 : decode cX6_pairs 3 = .ok (.istore_n 3, 1) := by decide +kernel
theorem dX6_pairs_4 : decode cX6_pairs 4 = .ok (.iload_n 3, 1) := by decide +kernel
theorem dX6_pairs_5 : decode cX6_pairs 5 = .ok (.bipush 10, 2) := by decide +kernel
theorem dX6_pairs_7 : decode cX6_pairs 7 = .ok (.if_icmp .ge 29, 3) := by decide +kernel
theorem dX6_pairs_10 : decode cX6_pairs 10 = .ok (.iload_n 2, 1) := by decide +kernel
theorem dX6_pairs_11 : decode cX6_pairs 11 = .ok (.aload_n 0, 1) := by decide +kernel
theorem dX6_pairs_12 : decode cX6_pairs 12 = .ok (.iload_n 1, 1) := by decide +kernel
theorem dX6_pairs_13 : decode cX6_pairs 13 = .ok (.iload_n 3, 1) := by decide +kernel
theorem dX6_pairs_14 : decode cX6_pairs 14 = .ok (.invokevirtual 163, 3) := by decide +kernel
theorem dX6_pairs_17 : decode cX6_pairs 17 = .ok (.ifCond .eq 10, 3) := by decide +kernel
theorem dX6_pairs_20 : decode cX6_pairs 20 = .ok (.bipush 10, 2) := by decide +kernel
theorem dX6_pairs_22 : decode cX6_pairs 22 = .ok (.iload_n 3, 1) := by decide +kernel
theorem dX6_pairs_23 : decode cX6_pairs 23 = .ok (.isub, 1) := by decide +kernel
theorem dX6_pairs_24 : decode cX6_pairs 24 = .ok (.goto 4, 3) := by decide +kernel
theorem dX6_pairs_27 : decode cX6_pairs 27 = .ok (.iconst 0, 1) := by decide +kernel
theorem dX6_pairs_28 : decode cX6_pairs 28 = .ok (.iadd, 1) := by decide +kernel
theorem dX6_pairs_29 : decode cX6_pairs 29 = .ok (.istore_n 2, 1) := by decide +kernel
theorem dX6_pairs_30 : decode cX6_pairs 30 = .ok (.iinc 3 1, 3) := by decide +kernel
theorem dX6_pairs_33 : decode cX6_pairs 33 = .ok (.goto (-29), 3) := by decide +kernel
theorem dX6_pairs_36 : decode cX6_pairs 36 = .ok (.iload_n 2, 1) := by decide +kernel
theorem dX6_pairs_37 : decode cX6_pairs 37 = .ok (.ireturn, 1) := by decide +kernel
theorem dX6_weakAt_0 : decode cX6_weakAt 0 = .ok (.aload_n 0, 1) := by decide +kernel
theorem dX6_weakAt_1 : decode cX6_weakAt 1 = .ok (.iload_n 2, 1) := by decide +kernel
theorem dX6_weakAt_2 : decode cX6_weakAt 2 = .ok (.ifCond .ne 14, 3) := by decide +kernel
theorem dX6_weakAt_5 : decode cX6_weakAt 5 = .ok (.aload_n 0, 1) := by decide +kernel
theorem dX6_weakAt_6 : decode cX6_weakAt 6 = .ok (.getfield 7, 3) := by decide +kernel
theorem dX6_weakAt_9 : decode cX6_weakAt 9 = .ok (.iconst 3, 1) := by decide +kernel
theorem dX6_weakAt_10 : decode cX6_weakAt 10 = .ok (.iload_n 1, 1) := by decide +kernel
theorem dX6_weakAt_11 : decode cX6_weakAt 11 = .ok (.iadd, 1) := by decide +kernel
theorem dX6_weakAt_12 : decode cX6_weakAt 12 = .ok (.iaload, 1) := by decide +kernel
theorem dX6_weakAt_13 : decode cX6_weakAt 13 = .ok (.goto 22, 3) := by decide +kernel
theorem dX6_weakAt_16 : decode cX6_weakAt 16 = .ok (.aload_n 0, 1) := by decide +kernel
theorem dX6_weakAt_17 : decode cX6_weakAt 17 = .ok (.getfield 7, 3) := by decide +kernel
theorem dX6_weakAt_20 : decode cX6_weakAt 20 = .ok (.iconst 3, 1) := by decide +kernel
theorem dX6_weakAt_21 : decode cX6_weakAt 21 = .ok (.iload_n 1, 1) := by decide +kernel
theorem dX6_weakAt_22 : decode cX6_weakAt 22 = .ok (.iadd, 1) := by decide +kernel
theorem dX6_weakAt_23 : decode cX6_weakAt 23 = .ok (.iaload, 1) := by decide +kernel
theorem dX6_weakAt_24 : decode cX6_weakAt 24 = .ok (.aload_n 0, 1) := by decide +kernel
theorem dX6_weakAt_25 : decode cX6_weakAt 25 = .ok (.getfield 7, 3) := by decide +kernel
theorem dX6_weakAt_28 : decode cX6_weakAt 28 = .ok (.iconst 3, 1) := by decide +kernel
theorem dX6_weakAt_29 : decode cX6_weakAt 29 = .ok (.iload_n 1, 1) := by decide +kernel
theorem dX6_weakAt_30 : decode cX6_weakAt 30 = .ok (.iadd, 1) := by decide +kernel
theorem dX6_weakAt_31 : decode cX6_weakAt 31 = .ok (.iconst 1, 1) := by decide +kernel
theorem dX6_weakAt_32 : decode cX6_weakAt 32 = .ok (.iadd, 1) := by decide +kernel
theorem dX6_weakAt_33 : decode cX6_weakAt 33 = .ok (.iaload, 1) := by decide +kernel
theorem dX6_weakAt_34 : decode cX6_weakAt 34 = .ok (.isub, 1) := by decide +kernel
theorem dX6_weakAt_35 : decode cX6_weakAt 35 = .ok (.invokevirtual 172, 3) := by decide +kernel
theorem dX6_weakAt_38 : decode cX6_weakAt 38 = .ok (.ireturn, 1) := by decide +kernel
theorem dX6_weak_0 : decode cX6_weak 0 = .ok (.aload_n 0, 1) := by decide +kernel
theorem dX6_weak_1 : decode cX6_weak 1 = .ok (.iconst 0, 1) := by decide +kernel
theorem dX6_weak_2 : decode cX6_weak 2 = .ok (.putfield 28, 3) := by decide +kernel
theorem dX6_weak_5 : decode cX6_weak 5 = .ok (.iload_n 1, 1) := by decide +kernel
theorem dX6_weak_6 : decode cX6_weak 6 = .ok (.iconst 0, 1) := by decide +kernel
theorem dX6_weak_7 : decode cX6_weak 7 = .ok (.iload_n 2, 1) := by decide +kernel
theorem dX6_weak_8 : decode cX6_weak 8 = .ok (.iconst 1, 1) := by decide +kernel
theorem dX6_weak_9 : decode cX6_weak 9 = .ok (.if_icmp .ne 7, 3) := by decide +kernel
theorem dX6_weak_12 : decode cX6_weak 12 = .ok (.iconst 4, 1) := by decide +kernel
theorem dX6_weak_13 : decode cX6_weak 13 = .ok (.goto 4, 3) := by decide +kernel
theorem dX6_weak_16 : decode cX6_weak 16 = .ok (.iconst 5, 1) := by decide +kernel
theorem dX6_weak_17 : decode cX6_weak 17 = .ok (.invokestatic 33, 3) := by decide +kernel
theorem dX6_weak_20 : decode cX6_weak 20 = .ok (.ifCond .ne 9, 3) := by decide +kernel
theorem dX6_weak_23 : decode cX6_weak 23 = .ok (.aload_n 0, 1) := by decide +kernel
theorem dX6_weak_24 : decode cX6_weak 24 = .ok (.iconst 1, 1) := by decide +kernel
theorem dX6_weak_25 : decode cX6_weak 25 = .ok (.invokevirtual 72, 3) := by decide +kernel
theorem dX6_weak_28 : decode cX6_weak 28 = .ok (.ireturn, 1) := by decide +kernel
theorem dX6_weak_29 : decode cX6_weak 29 = .ok (.iload_n 2, 1) := by decide +kernel
theorem dX6_weak_30 : decode cX6_weak 30 = .ok (.iconst 0, 1) := by decide +kernel
theorem dX6_weak_31 : decode cX6_weak 31 = .ok (.iconst 1, 1) := by decide +kernel
theorem dX6_weak_32 : decode cX6_weak 32 = .ok (.invokestatic 33, 3) := by decide +kernel
theorem dX6_weak_35 : decode cX6_weak 35 = .ok (.ifCond .eq 21, 3) := by decide +kernel
theorem dX6_weak_38 : decode cX6_weak 38 = .ok (.iload_n 3, 1) := by decide +kernel
theorem dX6_weak_39 : decode cX6_weak 39 = .ok (.iconst 0, 1) := by decide +kernel
theorem dX6_weak_40 : decode cX6_weak 40 = .ok (.iconst 1, 1) := by decide +kernel
theorem dX6_weak_41 : decode cX6_weak 41 = .ok (.invokestatic 33, 3) := by decide +kernel
theorem dX6_weak_44 : decode cX6_weak 44 = .ok (.ifCond .eq 12, 3) := by decide +kernel
theorem dX6_weak_47 : decode cX6_weak 47 = .ok (.aload_n 0, 1) := by decide +kernel
theorem dX6_weak_48 : decode cX6_weak 48 = .ok (.iload_n 1, 1) := by decide +kernel
theorem dX6_weak_49 : decode cX6_weak 49 = .ok (.iload_n 2, 1) := by decide +kernel
theorem dX6_weak_50 : decode cX6_weak 50 = .ok (.invokevirtual 175, 3) := by decide +kernel
theorem dX6_weak_53 : decode cX6_weak 53 = .ok (.goto 8, 3) := by decide +kernel
theorem dX6_weak_56 : decode cX6_weak 56 = .ok (.aload_n 0, 1) := by decide +kernel
theorem dX6_weak_57 : decode cX6_weak 57 = .ok (.iconst 2, 1) := by decide +kernel
theorem dX6_weak_58 : decode cX6_weak 58 = .ok (.invokevirtual 72, 3) := by decide +kernel
theorem dX6_weak_61 : decode cX6_weak 61 = .ok (.ireturn, 1) := by decide +kernel
theorem dX6_weakOf_0 : decode cX6_weakOf 0 = .ok (.iconst 0, 1) := by decide +kernel
theorem dX6_weakOf_1 : decode cX6_weakOf 1 = .ok (.istore_n 2, 1) := by decide +kernel
theorem dX6_weakOf_2 : decode cX6_weakOf 2 = .ok (.iconst 0, 1) := by decide +kernel
theorem dX6_weakOf_3 : decode cX6_weakOf 3 = .ok (.istore_n 3, 1) := by decide +kernel
theorem dX6_weakOf_4 : decode cX6_weakOf 4 = .ok (.iload_n 3, 1) := by decide +kernel
theorem dX6_weakOf_5 : decode cX6_weakOf 5 = .ok (.bipush 6, 2) := by decide +kernel
theorem dX6_weakOf_7 : decode cX6_weakOf 7 = .ok (.iload_n 1, 1) := by decide +kernel
theorem dX6_weakOf_8 : decode cX6_weakOf 8 = .ok (.isub, 1) := by decide +kernel
theorem dX6_weakOf_9 : decode cX6_weakOf 9 = .ok (.if_icmp .ge 18, 3) := by decide +kernel
theorem dX6_weakOf_12 : decode cX6_weakOf 12 = .ok (.iload_n 2, 1) := by decide +kernel
theorem dX6_weakOf_13 : decode cX6_weakOf 13 = .ok (.aload_n 0, 1) := by decide +kernel
theorem dX6_weakOf_14 : decode cX6_weakOf 14 = .ok (.iload_n 3, 1) := by decide +kernel
theorem dX6_weakOf_15 : decode cX6_weakOf 15 = .ok (.iload_n 1, 1) := by decide +kernel
theorem dX6_weakOf_16 : decode cX6_weakOf 16 = .ok (.invokevirtual 175, 3) := by decide +kernel
theorem dX6_weakOf_19 : decode cX6_weakOf 19 = .ok (.iadd, 1) := by decide +kernel
theorem dX6_weakOf_20 : decode cX6_weakOf 20 = .ok (.istore_n 2, 1) := by decide +kernel
theorem dX6_weakOf_21 : decode cX6_weakOf 21 = .ok (.iinc 3 1, 3) := by decide +kernel
theorem dX6_weakOf_24 : decode cX6_weakOf 24 = .ok (.goto (-20), 3) := by decide +kernel
theorem dX6_weakOf_27 : decode cX6_weakOf 27 = .ok (.iload_n 2, 1) := by decide +kernel
theorem dX6_weakOf_28 : decode cX6_weakOf 28 = .ok (.ireturn, 1) := by decide +kernel
theorem dX6_finds_0 : decode cX6_finds 0 = .ok (.aload_n 0, 1) := by decide +kernel
theorem dX6_finds_1 : decode cX6_finds 1 = .ok (.iconst 0, 1) := by decide +kernel
theorem dX6_finds_2 : decode cX6_finds 2 = .ok (.putfield 28, 3) := by decide +kernel
theorem dX6_finds_5 : decode cX6_finds 5 = .ok (.iload_n 1, 1) := by decide +kernel
theorem dX6_finds_6 : decode cX6_finds 6 = .ok (.iconst 0, 1) := by decide +kernel
theorem dX6_finds_7 : decode cX6_finds 7 = .ok (.iconst 2, 1) := by decide +kernel
theorem dX6_finds_8 : decode cX6_finds 8 = .ok (.invokestatic 33, 3) := by decide +kernel
theorem dX6_finds_11 : decode cX6_finds 11 = .ok (.ifCond .ne 10, 3) := by decide +kernel
theorem dX6_finds_14 : decode cX6_finds 14 = .ok (.aload_n 0, 1) := by decide +kernel
theorem dX6_finds_15 : decode cX6_finds 15 = .ok (.iconst 1, 1) := by decide +kernel
theorem dX6_finds_16 : decode cX6_finds 16 = .ok (.putfield 28, 3) := by decide +kernel
theorem dX6_finds_19 : decode cX6_finds 19 = .ok (.iconst 0, 1) := by decide +kernel
theorem dX6_finds_20 : decode cX6_finds 20 = .ok (.ireturn, 1) := by decide +kernel
theorem dX6_finds_21 : decode cX6_finds 21 = .ok (.iload_n 1, 1) := by decide +kernel
theorem dX6_finds_22 : decode cX6_finds 22 = .ok (.iconst 2, 1) := by decide +kernel
theorem dX6_finds_23 : decode cX6_finds 23 = .ok (.if_icmp .eq 11, 3) := by decide +kernel
theorem dX6_finds_26 : decode cX6_finds 26 = .ok (.aload_n 0, 1) := by decide +kernel
theorem dX6_finds_27 : decode cX6_finds 27 = .ok (.iload_n 1, 1) := by decide +kernel
theorem dX6_finds_28 : decode cX6_finds 28 = .ok (.invokevirtual 178, 3) := by decide +kernel
theorem dX6_finds_31 : decode cX6_finds 31 = .ok (.ifCond .ne 7, 3) := by decide +kernel
theorem dX6_finds_34 : decode cX6_finds 34 = .ok (.iconst 1, 1) := by decide +kernel
theorem dX6_finds_35 : decode cX6_finds 35 = .ok (.goto 4, 3) := by decide +kernel
theorem dX6_finds_38 : decode cX6_finds 38 = .ok (.iconst 0, 1) := by decide +kernel
theorem dX6_finds_39 : decode cX6_finds 39 = .ok (.ireturn, 1) := by decide +kernel
theorem dX6_bestWeight_0 : decode cX6_bestWeight 0 = .ok (.aload_n 0, 1) := by decide +kernel
theorem dX6_bestWeight_1 : decode cX6_bestWeight 1 = .ok (.iconst 0, 1) := by decide +kernel
theorem dX6_bestWeight_2 : decode cX6_bestWeight 2 = .ok (.putfield 28, 3) := by decide +kernel
theorem dX6_bestWeight_5 : decode cX6_bestWeight 5 = .ok (.iload_n 1, 1) := by decide +kernel
theorem dX6_bestWeight_6 : decode cX6_bestWeight 6 = .ok (.iconst 0, 1) := by decide +kernel
theorem dX6_bestWeight_7 : decode cX6_bestWeight 7 = .ok (.iconst 5, 1) := by decide +kernel
theorem dX6_bestWeight_8 : decode cX6_bestWeight 8 = .ok (.invokestatic 33, 3) := by decide +kernel
theorem dX6_bestWeight_11 : decode cX6_bestWeight 11 = .ok (.ifCond .ne 9, 3) := by decide +kernel
theorem dX6_bestWeight_14 : decode cX6_bestWeight 14 = .ok (.aload_n 0, 1) := by decide +kernel
theorem dX6_bestWeight_15 : decode cX6_bestWeight 15 = .ok (.iconst 1, 1) := by decide +kernel
theorem dX6_bestWeight_16 : decode cX6_bestWeight 16 = .ok (.invokevirtual 72, 3) := by decide +kernel
theorem dX6_bestWeight_19 : decode cX6_bestWeight 19 = .ok (.ireturn, 1) := by decide +kernel
theorem dX6_bestWeight_20 : decode cX6_bestWeight 20 = .ok (.aload_n 0, 1) := by decide +kernel
theorem dX6_bestWeight_21 : decode cX6_bestWeight 21 = .ok (.getfield 7, 3) := by decide +kernel
theorem dX6_bestWeight_24 : decode cX6_bestWeight 24 = .ok (.iconst 3, 1) := by decide +kernel
theorem dX6_bestWeight_25 : decode cX6_bestWeight 25 = .ok (.iload_n 1, 1) := by decide +kernel
theorem dX6_bestWeight_26 : decode cX6_bestWeight 26 = .ok (.iadd, 1) := by decide +kernel
theorem dX6_bestWeight_27 : decode cX6_bestWeight 27 = .ok (.iaload, 1) := by decide +kernel
theorem dX6_bestWeight_28 : decode cX6_bestWeight 28 = .ok (.istore_n 2, 1) := by decide +kernel
theorem dX6_bestWeight_29 : decode cX6_bestWeight 29 = .ok (.iconst 0, 1) := by decide +kernel
theorem dX6_bestWeight_30 : decode cX6_bestWeight 30 = .ok (.istore_n 3, 1) := by decide +kernel
theorem dX6_bestWeight_31 : decode cX6_bestWeight 31 = .ok (.iconst 0, 1) := by decide +kernel
theorem dX6_bestWeight_32 : decode cX6_bestWeight 32 = .ok (.istore 4, 2) := by decide +kernel
theorem dX6_bestWeight_34 : decode cX6_bestWeight 34 = .ok (.iconst 1, 1) := by decide +kernel
theorem dX6_bestWeight_35 : decode cX6_bestWeight 35 = .ok (.istore 5, 2) := by decide +kernel
theorem dX6_bestWeight_37 : decode cX6_bestWeight 37 = .ok (.iload 5, 2) := by decide +kernel
theorem dX6_bestWeight_39 : decode cX6_bestWeight 39 = .ok (.bipush 10, 2) := by decide +kernel
theorem dX6_bestWeight_41 : decode cX6_bestWeight 41 = .ok (.if_icmp .ge 76, 3) := by decide +kernel
theorem dX6_bestWeight_44 : decode cX6_bestWeight 44 = .ok (.aload_n 0, 1) := by decide +kernel
theorem dX6_bestWeight_45 : decode cX6_bestWeight 45 = .ok (.getfield 7, 3) := by decide +kernel
theorem dX6_bestWeight_48 : decode cX6_bestWeight 48 = .ok (.iconst 3, 1) := by decide +kernel
theorem dX6_bestWeight_49 : decode cX6_bestWeight 49 = .ok (.iload_n 1, 1) := by decide +kernel
theorem dX6_bestWeight_50 : decode cX6_bestWeight 50 = .ok (.iadd, 1) := by decide +kernel
theorem dX6_bestWeight_51 : decode cX6_bestWeight 51 = .ok (.iload 5, 2) := by decide +kernel
theorem dX6_bestWeight_53 : decode cX6_bestWeight 53 = .ok (.iastore, 1) := by decide +kernel
theorem dX6_bestWeight_54 : decode cX6_bestWeight 54 = .ok (.aload_n 0, 1) := by decide +kernel
theorem dX6_bestWeight_55 : decode cX6_bestWeight 55 = .ok (.iconst 0, 1) := by decide +kernel
theorem dX6_bestWeight_56 : decode cX6_bestWeight 56 = .ok (.invokevirtual 178, 3) := by decide +kernel
theorem dX6_bestWeight_59 : decode cX6_bestWeight 59 = .ok (.aload_n 0, 1) := by decide +kernel
theorem dX6_bestWeight_60 : decode cX6_bestWeight 60 = .ok (.iconst 1, 1) := by decide +kernel
theorem dX6_bestWeight_61 : decode cX6_bestWeight 61 = .ok (.invokevirtual 178, 3) := by decide +kernel
theorem dX6_bestWeight_64 : decode cX6_bestWeight 64 = .ok (.iadd, 1) := by decide +kernel
theorem dX6_bestWeight_65 : decode cX6_bestWeight 65 = .ok (.istore 6, 2) := by decide +kernel
theorem dX6_bestWeight_67 : decode cX6_bestWeight 67 = .ok (.iload_n 3, 1) := by decide +kernel
theorem dX6_bestWeight_68 : decode cX6_bestWeight 68 = .ok (.ifCond .eq 10, 3) := by decide +kernel
theorem dX6_bestWeight_71 : decode cX6_bestWeight 71 = .ok (.iload 6, 2) := by decide +kernel
theorem dX6_bestWeight_73 : decode cX6_bestWeight 73 = .ok (.iload 4, 2) := by decide +kernel
theorem dX6_bestWeight_75 : decode cX6_bestWeight 75 = .ok (.if_icmp .ge 7, 3) := by decide +kernel
theorem dX6_bestWeight_78 : decode cX6_bestWeight 78 = .ok (.iconst 1, 1) := by decide +kernel
theorem dX6_bestWeight_79 : decode cX6_bestWeight 79 = .ok (.goto 4, 3) := by decide +kernel
theorem dX6_bestWeight_82 : decode cX6_bestWeight 82 = .ok (.iconst 0, 1) := by decide +kernel
theorem dX6_bestWeight_83 : decode cX6_bestWeight 83 = .ok (.istore 7, 2) := by decide +kernel
theorem dX6_bestWeight_85 : decode cX6_bestWeight 85 = .ok (.iload 7, 2) := by decide +kernel
theorem dX6_bestWeight_87 : decode cX6_bestWeight 87 = .ok (.ifCond .eq 8, 3) := by decide +kernel
theorem dX6_bestWeight_90 : decode cX6_bestWeight 90 = .ok (.iload 5, 2) := by decide +kernel
theorem dX6_bestWeight_92 : decode cX6_bestWeight 92 = .ok (.goto 4, 3) := by decide +kernel
theorem dX6_bestWeight_95 : decode cX6_bestWeight 95 = .ok (.iload_n 3, 1) := by decide +kernel
theorem dX6_bestWeight_96 : decode cX6_bestWeight 96 = .ok (.istore_n 3, 1) := by decide +kernel
theorem dX6_bestWeight_97 : decode cX6_bestWeight 97 = .ok (.iload 7, 2) := by decide +kernel
theorem dX6_bestWeight_99 : decode cX6_bestWeight 99 = .ok (.ifCond .eq 8, 3) := by decide +kernel
theorem dX6_bestWeight_102 : decode cX6_bestWeight 102 = .ok (.iload 6, 2) := by decide +kernel
theorem dX6_bestWeight_104 : decode cX6_bestWeight 104 = .ok (.goto 5, 3) := by decide +kernel
theorem dX6_bestWeight_107 : decode cX6_bestWeight 107 = .ok (.iload 4, 2) := by decide +kernel
theorem dX6_bestWeight_109 : decode cX6_bestWeight 109 = .ok (.istore 4, 2) := by decide +kernel
theorem dX6_bestWeight_111 : decode cX6_bestWeight 111 = .ok (.iinc 5 1, 3) := by decide +kernel
theorem dX6_bestWeight_114 : decode cX6_bestWeight 114 = .ok (.goto (-77), 3) := by decide +kernel
theorem dX6_bestWeight_117 : decode cX6_bestWeight 117 = .ok (.aload_n 0, 1) := by decide +kernel
theorem dX6_bestWeight_118 : decode cX6_bestWeight 118 = .ok (.getfield 7, 3) := by decide +kernel
theorem dX6_bestWeight_121 : decode cX6_bestWeight 121 = .ok (.iconst 3, 1) := by decide +kernel
theorem dX6_bestWeight_122 : decode cX6_bestWeight 122 = .ok (.iload_n 1, 1) := by decide +kernel
theorem dX6_bestWeight_123 : decode cX6_bestWeight 123 = .ok (.iadd, 1) := by decide +kernel
theorem dX6_bestWeight_124 : decode cX6_bestWeight 124 = .ok (.iload_n 2, 1) := by decide +kernel
theorem dX6_bestWeight_125 : decode cX6_bestWeight 125 = .ok (.iastore, 1) := by decide +kernel
theorem dX6_bestWeight_126 : decode cX6_bestWeight 126 = .ok (.iload_n 3, 1) := by decide +kernel
theorem dX6_bestWeight_127 : decode cX6_bestWeight 127 = .ok (.ireturn, 1) := by decide +kernel
theorem dX6_way_0 : decode cX6_way 0 = .ok (.iconst 0, 1) := by decide +kernel
theorem dX6_way_1 : decode cX6_way 1 = .ok (.istore_n 2, 1) := by decide +kernel
theorem dX6_way_2 : decode cX6_way 2 = .ok (.iconst 0, 1) := by decide +kernel
theorem dX6_way_3 : decode cX6_way 3 = .ok (.istore_n 3, 1) := by decide +kernel
theorem dX6_way_4 : decode cX6_way 4 = .ok (.iconst 0, 1) := by decide +kernel
theorem dX6_way_5 : decode cX6_way 5 = .ok (.istore 4, 2) := by decide +kernel
theorem dX6_way_7 : decode cX6_way 7 = .ok (.iload 4, 2) := by decide +kernel
theorem dX6_way_9 : decode cX6_way 9 = .ok (.bipush 6, 2) := by decide +kernel
theorem dX6_way_11 : decode cX6_way 11 = .ok (.if_icmp .ge 56, 3) := by decide +kernel
theorem dX6_way_14 : decode cX6_way 14 = .ok (.iload_n 0, 1) := by decide +kernel
theorem dX6_way_15 : decode cX6_way 15 = .ok (.iload 4, 2) := by decide +kernel
theorem dX6_way_17 : decode cX6_way 17 = .ok (.invokestatic 44, 3) := by decide +kernel
theorem dX6_way_20 : decode cX6_way 20 = .ok (.iload_n 1, 1) := by decide +kernel
theorem dX6_way_21 : decode cX6_way 21 = .ok (.iload 4, 2) := by decide +kernel
theorem dX6_way_23 : decode cX6_way 23 = .ok (.invokestatic 44, 3) := by decide +kernel
theorem dX6_way_26 : decode cX6_way 26 = .ok (.if_icmp .eq 7, 3) := by decide +kernel
theorem dX6_way_29 : decode cX6_way 29 = .ok (.iconst 1, 1) := by decide +kernel
theorem dX6_way_30 : decode cX6_way 30 = .ok (.goto 4, 3) := by decide +kernel
theorem dX6_way_33 : decode cX6_way 33 = .ok (.iconst 0, 1) := by decide +kernel
theorem dX6_way_34 : decode cX6_way 34 = .ok (.istore 5, 2) := by decide +kernel
theorem dX6_way_36 : decode cX6_way 36 = .ok (.iload_n 2, 1) := by decide +kernel
theorem dX6_way_37 : decode cX6_way 37 = .ok (.iload 5, 2) := by decide +kernel
theorem dX6_way_39 : decode cX6_way 39 = .ok (.ifCond .eq 7, 3) := by decide +kernel
theorem dX6_way_42 : decode cX6_way 42 = .ok (.iconst 1, 1) := by decide +kernel
theorem dX6_way_43 : decode cX6_way 43 = .ok (.goto 4, 3) := by decide +kernel
theorem dX6_way_46 : decode cX6_way 46 = .ok (.iconst 0, 1) := by decide +kernel
theorem dX6_way_47 : decode cX6_way 47 = .ok (.iadd, 1) := by decide +kernel
theorem dX6_way_48 : decode cX6_way 48 = .ok (.istore_n 2, 1) := by decide +kernel
theorem dX6_way_49 : decode cX6_way 49 = .ok (.iload 5, 2) := by decide +kernel
theorem dX6_way_51 : decode cX6_way 51 = .ok (.ifCond .eq 8, 3) := by decide +kernel
theorem dX6_way_54 : decode cX6_way 54 = .ok (.iload 4, 2) := by decide +kernel
theorem dX6_way_56 : decode cX6_way 56 = .ok (.goto 4, 3) := by decide +kernel
theorem dX6_way_59 : decode cX6_way 59 = .ok (.iload_n 3, 1) := by decide +kernel
theorem dX6_way_60 : decode cX6_way 60 = .ok (.istore_n 3, 1) := by decide +kernel
theorem dX6_way_61 : decode cX6_way 61 = .ok (.iinc 4 1, 3) := by decide +kernel
theorem dX6_way_64 : decode cX6_way 64 = .ok (.goto (-57), 3) := by decide +kernel
theorem dX6_way_67 : decode cX6_way 67 = .ok (.iload_n 2, 1) := by decide +kernel
theorem dX6_way_68 : decode cX6_way 68 = .ok (.iconst 2, 1) := by decide +kernel
theorem dX6_way_69 : decode cX6_way 69 = .ok (.if_icmp .ge 13, 3) := by decide +kernel
theorem dX6_way_72 : decode cX6_way 72 = .ok (.iload_n 2, 1) := by decide +kernel
theorem dX6_way_73 : decode cX6_way 73 = .ok (.ifCond .ne 7, 3) := by decide +kernel
theorem dX6_way_76 : decode cX6_way 76 = .ok (.iconst 3, 1) := by decide +kernel
theorem dX6_way_77 : decode cX6_way 77 = .ok (.goto 4, 3) := by decide +kernel
theorem dX6_way_80 : decode cX6_way 80 = .ok (.iconst 0, 1) := by decide +kernel
theorem dX6_way_81 : decode cX6_way 81 = .ok (.ireturn, 1) := by decide +kernel
theorem dX6_way_82 : decode cX6_way 82 = .ok (.iload_n 2, 1) := by decide +kernel
theorem dX6_way_83 : decode cX6_way 83 = .ok (.iconst 2, 1) := by decide +kernel
theorem dX6_way_84 : decode cX6_way 84 = .ok (.if_icmp .ne 37, 3) := by decide +kernel
theorem dX6_way_87 : decode cX6_way 87 = .ok (.iload_n 0, 1) := by decide +kernel
theorem dX6_way_88 : decode cX6_way 88 = .ok (.iload_n 3, 1) := by decide +kernel
theorem dX6_way_89 : decode cX6_way 89 = .ok (.invokestatic 44, 3) := by decide +kernel
theorem dX6_way_92 : decode cX6_way 92 = .ok (.iload_n 1, 1) := by decide +kernel
theorem dX6_way_93 : decode cX6_way 93 = .ok (.iload_n 3, 1) := by decide +kernel
theorem dX6_way_94 : decode cX6_way 94 = .ok (.iconst 1, 1) := by decide +kernel
theorem dX6_way_95 : decode cX6_way 95 = .ok (.isub, 1) := by decide +kernel
theorem dX6_way_96 : decode cX6_way 96 = .ok (.invokestatic 44, 3) := by decide +kernel
theorem dX6_way_99 : decode cX6_way 99 = .ok (.if_icmp .ne 22, 3) := by decide +kernel
theorem dX6_way_102 : decode cX6_way 102 = .ok (.iload_n 0, 1) := by decide +kernel
theorem dX6_way_103 : decode cX6_way 103 = .ok (.iload_n 3, 1) := by decide +kernel
theorem dX6_way_104 : decode cX6_way 104 = .ok (.iconst 1, 1) := by decide +kernel
theorem dX6_way_105 : decode cX6_way 105 = .ok (.isub, 1) := by decide +kernel
theorem dX6_way_106 : decode cX6_way 106 = .ok (.invokestatic 44, 3) := by decide +kernel
theorem dX6_way_109 : decode cX6_way 109 = .ok (.iload_n 1, 1) := by decide +kernel
theorem dX6_way_110 : decode cX6_way 110 = .ok (.iload_n 3, 1) := by decide +kernel
theorem dX6_way_111 : decode cX6_way 111 = .ok (.invokestatic 44, 3) := by decide +kernel
theorem dX6_way_114 : decode cX6_way 114 = .ok (.if_icmp .ne 7, 3) := by decide +kernel
theorem dX6_way_117 : decode cX6_way 117 = .ok (.iconst 1, 1) := by decide +kernel
theorem dX6_way_118 : decode cX6_way 118 = .ok (.goto 4, 3) := by decide +kernel
theorem dX6_way_121 : decode cX6_way 121 = .ok (.iconst 0, 1) := by decide +kernel
theorem dX6_way_122 : decode cX6_way 122 = .ok (.istore 4, 2) := by decide +kernel
theorem dX6_way_124 : decode cX6_way 124 = .ok (.iload 4, 2) := by decide +kernel
theorem dX6_way_126 : decode cX6_way 126 = .ok (.ifCond .eq 7, 3) := by decide +kernel
theorem dX6_way_129 : decode cX6_way 129 = .ok (.iconst 1, 1) := by decide +kernel
theorem dX6_way_130 : decode cX6_way 130 = .ok (.goto 4, 3) := by decide +kernel
theorem dX6_way_133 : decode cX6_way 133 = .ok (.iconst (-1), 1) := by decide +kernel
theorem dX6_way_134 : decode cX6_way 134 = .ok (.ireturn, 1) := by decide +kernel
theorem dX6_slipOf_0 : decode cX6_slipOf 0 = .ok (.iload_n 1, 1) := by decide +kernel
theorem dX6_slipOf_1 : decode cX6_slipOf 1 = .ok (.iload_n 2, 1) := by decide +kernel
theorem dX6_slipOf_2 : decode cX6_slipOf 2 = .ok (.invokestatic 181, 3) := by decide +kernel
theorem dX6_slipOf_5 : decode cX6_slipOf 5 = .ok (.istore 4, 2) := by decide +kernel
theorem dX6_slipOf_7 : decode cX6_slipOf 7 = .ok (.iload_n 3, 1) := by decide +kernel
theorem dX6_slipOf_8 : decode cX6_slipOf 8 = .ok (.aload_n 0, 1) := by decide +kernel
theorem dX6_slipOf_9 : decode cX6_slipOf 9 = .ok (.iload_n 1, 1) := by decide +kernel
theorem dX6_slipOf_10 : decode cX6_slipOf 10 = .ok (.invokevirtual 62, 3) := by decide +kernel
theorem dX6_slipOf_13 : decode cX6_slipOf 13 = .ok (.if_icmp .ne 6, 3) := by decide +kernel
theorem dX6_slipOf_16 : decode cX6_slipOf 16 = .ok (.iload 4, 2) := by decide +kernel
theorem dX6_slipOf_18 : decode cX6_slipOf 18 = .ok (.ireturn, 1) := by decide +kernel
theorem dX6_slipOf_19 : decode cX6_slipOf 19 = .ok (.iload 4, 2) := by decide +kernel
theorem dX6_slipOf_21 : decode cX6_slipOf 21 = .ok (.iconst 3, 1) := by decide +kernel
theorem dX6_slipOf_22 : decode cX6_slipOf 22 = .ok (.if_icmp .ne 17, 3) := by decide +kernel
theorem dX6_slipOf_25 : decode cX6_slipOf 25 = .ok (.iload_n 3, 1) := by decide +kernel
theorem dX6_slipOf_26 : decode cX6_slipOf 26 = .ok (.aload_n 0, 1) := by decide +kernel
theorem dX6_slipOf_27 : decode cX6_slipOf 27 = .ok (.getfield 7, 3) := by decide +kernel
theorem dX6_slipOf_30 : decode cX6_slipOf 30 = .ok (.iconst 1, 1) := by decide +kernel
theorem dX6_slipOf_31 : decode cX6_slipOf 31 = .ok (.iaload, 1) := by decide +kernel
theorem dX6_slipOf_32 : decode cX6_slipOf 32 = .ok (.if_icmp .ge 7, 3) := by decide +kernel
theorem dX6_slipOf_35 : decode cX6_slipOf 35 = .ok (.iconst 2, 1) := by decide +kernel
theorem dX6_slipOf_36 : decode cX6_slipOf 36 = .ok (.goto 4, 3) := by decide +kernel
theorem dX6_slipOf_39 : decode cX6_slipOf 39 = .ok (.iconst (-1), 1) := by decide +kernel
theorem dX6_slipOf_40 : decode cX6_slipOf 40 = .ok (.ireturn, 1) := by decide +kernel
theorem dX6_meantBy_0 : decode cX6_meantBy 0 = .ok (.iconst 0, 1) := by decide +kernel
theorem dX6_meantBy_1 : decode cX6_meantBy 1 = .ok (.istore 4, 2) := by decide +kernel
theorem dX6_meantBy_3 : decode cX6_meantBy 3 = .ok (.aload_n 0, 1) := by decide +kernel
theorem dX6_meantBy_4 : decode cX6_meantBy 4 = .ok (.iconst (-1), 1) := by decide +kernel
theorem dX6_meantBy_5 : decode cX6_meantBy 5 = .ok (.invokevirtual 160, 3) := by decide +kernel
theorem dX6_meantBy_8 : decode cX6_meantBy 8 = .ok (.istore 5, 2) := by decide +kernel
theorem dX6_meantBy_10 : decode cX6_meantBy 10 = .ok (.iload 5, 2) := by decide +kernel
theorem dX6_meantBy_12 : decode cX6_meantBy 12 = .ok (.iconst (-1), 1) := by decide +kernel
theorem dX6_meantBy_13 : decode cX6_meantBy 13 = .ok (.if_icmp .eq 62, 3) := by decide +kernel
theorem dX6_meantBy_16 : decode cX6_meantBy 16 = .ok (.aload_n 0, 1) := by decide +kernel
theorem dX6_meantBy_17 : decode cX6_meantBy 17 = .ok (.iload 5, 2) := by decide +kernel
theorem dX6_meantBy_19 : decode cX6_meantBy 19 = .ok (.iload_n 1, 1) := by decide +kernel
theorem dX6_meantBy_20 : decode cX6_meantBy 20 = .ok (.iload_n 2, 1) := by decide +kernel
theorem dX6_meantBy_21 : decode cX6_meantBy 21 = .ok (.invokevirtual 184, 3) := by decide +kernel
theorem dX6_meantBy_24 : decode cX6_meantBy 24 = .ok (.iconst (-1), 1) := by decide +kernel
theorem dX6_meantBy_25 : decode cX6_meantBy 25 = .ok (.if_icmp .eq 7, 3) := by decide +kernel
theorem dX6_meantBy_28 : decode cX6_meantBy 28 = .ok (.iconst 1, 1) := by decide +kernel
theorem dX6_meantBy_29 : decode cX6_meantBy 29 = .ok (.goto 4, 3) := by decide +kernel
theorem dX6_meantBy_32 : decode cX6_meantBy 32 = .ok (.iconst 0, 1) := by decide +kernel
theorem dX6_meantBy_33 : decode cX6_meantBy 33 = .ok (.istore 6, 2) := by decide +kernel
theorem dX6_meantBy_35 : decode cX6_meantBy 35 = .ok (.iload 6, 2) := by decide +kernel
theorem dX6_meantBy_37 : decode cX6_meantBy 37 = .ok (.ifCond .eq 12, 3) := by decide +kernel
theorem dX6_meantBy_40 : decode cX6_meantBy 40 = .ok (.iload 4, 2) := by decide +kernel
theorem dX6_meantBy_42 : decode cX6_meantBy 42 = .ok (.iload_n 3, 1) := by decide +kernel
theorem dX6_meantBy_43 : decode cX6_meantBy 43 = .ok (.if_icmp .ne 6, 3) := by decide +kernel
theorem dX6_meantBy_46 : decode cX6_meantBy 46 = .ok (.iload 5, 2) := by decide +kernel
theorem dX6_meantBy_48 : decode cX6_meantBy 48 = .ok (.ireturn, 1) := by decide +kernel
theorem dX6_meantBy_49 : decode cX6_meantBy 49 = .ok (.iload 4, 2) := by decide +kernel
theorem dX6_meantBy_51 : decode cX6_meantBy 51 = .ok (.iload 6, 2) := by decide +kernel
theorem dX6_meantBy_53 : decode cX6_meantBy 53 = .ok (.ifCond .eq 7, 3) := by decide +kernel
theorem dX6_meantBy_56 : decode cX6_meantBy 56 = .ok (.iconst 1, 1) := by decide +kernel
theorem dX6_meantBy_57 : decode cX6_meantBy 57 = .ok (.goto 4, 3) := by decide +kernel
theorem dX6_meantBy_60 : decode cX6_meantBy 60 = .ok (.iconst 0, 1) := by decide +kernel
theorem dX6_meantBy_61 : decode cX6_meantBy 61 = .ok (.iadd, 1) := by decide +kernel
theorem dX6_meantBy_62 : decode cX6_meantBy 62 = .ok (.istore 4, 2) := by decide +kernel
theorem dX6_meantBy_64 : decode cX6_meantBy 64 = .ok (.aload_n 0, 1) := by decide +kernel
theorem dX6_meantBy_65 : decode cX6_meantBy 65 = .ok (.iload 5, 2) := by decide +kernel
theorem dX6_meantBy_67 : decode cX6_meantBy 67 = .ok (.invokevirtual 160, 3) := by decide +kernel
theorem dX6_meantBy_70 : decode cX6_meantBy 70 = .ok (.istore 5, 2) := by decide +kernel
theorem dX6_meantBy_72 : decode cX6_meantBy 72 = .ok (.goto (-62), 3) := by decide +kernel
theorem dX6_meantBy_75 : decode cX6_meantBy 75 = .ok (.iload_n 3, 1) := by decide +kernel
theorem dX6_meantBy_76 : decode cX6_meantBy 76 = .ok (.iconst (-1), 1) := by decide +kernel
theorem dX6_meantBy_77 : decode cX6_meantBy 77 = .ok (.if_icmp .ne 8, 3) := by decide +kernel
theorem dX6_meantBy_80 : decode cX6_meantBy 80 = .ok (.iload 4, 2) := by decide +kernel
theorem dX6_meantBy_82 : decode cX6_meantBy 82 = .ok (.goto 4, 3) := by decide +kernel
theorem dX6_meantBy_85 : decode cX6_meantBy 85 = .ok (.iconst (-1), 1) := by decide +kernel
theorem dX6_meantBy_86 : decode cX6_meantBy 86 = .ok (.ireturn, 1) := by decide +kernel
theorem dX6_meant_0 : decode cX6_meant 0 = .ok (.aload_n 0, 1) := by decide +kernel
theorem dX6_meant_1 : decode cX6_meant 1 = .ok (.iconst 0, 1) := by decide +kernel
theorem dX6_meant_2 : decode cX6_meant 2 = .ok (.putfield 28, 3) := by decide +kernel
theorem dX6_meant_5 : decode cX6_meant 5 = .ok (.iload_n 1, 1) := by decide +kernel
theorem dX6_meant_6 : decode cX6_meant 6 = .ok (.invokestatic 78, 3) := by decide +kernel
theorem dX6_meant_9 : decode cX6_meant 9 = .ok (.ifCond .ne 9, 3) := by decide +kernel
theorem dX6_meant_12 : decode cX6_meant 12 = .ok (.aload_n 0, 1) := by decide +kernel
theorem dX6_meant_13 : decode cX6_meant 13 = .ok (.iconst 1, 1) := by decide +kernel
theorem dX6_meant_14 : decode cX6_meant 14 = .ok (.invokevirtual 72, 3) := by decide +kernel
theorem dX6_meant_17 : decode cX6_meant 17 = .ok (.ireturn, 1) := by decide +kernel
theorem dX6_meant_18 : decode cX6_meant 18 = .ok (.iload_n 2, 1) := by decide +kernel
theorem dX6_meant_19 : decode cX6_meant 19 = .ok (.invokestatic 91, 3) := by decide +kernel
theorem dX6_meant_22 : decode cX6_meant 22 = .ok (.ifCond .eq 18, 3) := by decide +kernel
theorem dX6_meant_25 : decode cX6_meant 25 = .ok (.iload_n 3, 1) := by decide +kernel
theorem dX6_meant_26 : decode cX6_meant 26 = .ok (.iconst (-1), 1) := by decide +kernel
theorem dX6_meant_27 : decode cX6_meant 27 = .ok (.if_icmp .lt 13, 3) := by decide +kernel
theorem dX6_meant_30 : decode cX6_meant 30 = .ok (.aload_n 0, 1) := by decide +kernel
theorem dX6_meant_31 : decode cX6_meant 31 = .ok (.iload_n 1, 1) := by decide +kernel
theorem dX6_meant_32 : decode cX6_meant 32 = .ok (.iload_n 2, 1) := by decide +kernel
theorem dX6_meant_33 : decode cX6_meant 33 = .ok (.iload_n 3, 1) := by decide +kernel
theorem dX6_meant_34 : decode cX6_meant 34 = .ok (.invokevirtual 187, 3) := by decide +kernel
theorem dX6_meant_37 : decode cX6_meant 37 = .ok (.goto 8, 3) := by decide +kernel
theorem dX6_meant_40 : decode cX6_meant 40 = .ok (.aload_n 0, 1) := by decide +kernel
theorem dX6_meant_41 : decode cX6_meant 41 = .ok (.iconst 2, 1) := by decide +kernel
theorem dX6_meant_42 : decode cX6_meant 42 = .ok (.invokevirtual 72, 3) := by decide +kernel
theorem dX6_meant_45 : decode cX6_meant 45 = .ok (.ireturn, 1) := by decide +kernel
theorem dX6_slip_0 : decode cX6_slip 0 = .ok (.aload_n 0, 1) := by decide +kernel
theorem dX6_slip_1 : decode cX6_slip 1 = .ok (.iconst 0, 1) := by decide +kernel
theorem dX6_slip_2 : decode cX6_slip 2 = .ok (.putfield 28, 3) := by decide +kernel
theorem dX6_slip_5 : decode cX6_slip 5 = .ok (.iload_n 1, 1) := by decide +kernel
theorem dX6_slip_6 : decode cX6_slip 6 = .ok (.invokestatic 78, 3) := by decide +kernel
theorem dX6_slip_9 : decode cX6_slip 9 = .ok (.ifCond .eq 10, 3) := by decide +kernel
theorem dX6_slip_12 : decode cX6_slip 12 = .ok (.iload_n 2, 1) := by decide +kernel
theorem dX6_slip_13 : decode cX6_slip 13 = .ok (.invokestatic 78, 3) := by decide +kernel
theorem dX6_slip_16 : decode cX6_slip 16 = .ok (.ifCond .ne 9, 3) := by decide +kernel
theorem dX6_slip_19 : decode cX6_slip 19 = .ok (.aload_n 0, 1) := by decide +kernel
theorem dX6_slip_20 : decode cX6_slip 20 = .ok (.iconst 1, 1) := by decide +kernel
theorem dX6_slip_21 : decode cX6_slip 21 = .ok (.invokevirtual 72, 3) := by decide +kernel
theorem dX6_slip_24 : decode cX6_slip 24 = .ok (.ireturn, 1) := by decide +kernel
theorem dX6_slip_25 : decode cX6_slip 25 = .ok (.iload_n 3, 1) := by decide +kernel
theorem dX6_slip_26 : decode cX6_slip 26 = .ok (.invokestatic 91, 3) := by decide +kernel
theorem dX6_slip_29 : decode cX6_slip 29 = .ok (.ifCond .eq 13, 3) := by decide +kernel
theorem dX6_slip_32 : decode cX6_slip 32 = .ok (.aload_n 0, 1) := by decide +kernel
theorem dX6_slip_33 : decode cX6_slip 33 = .ok (.iload_n 1, 1) := by decide +kernel
theorem dX6_slip_34 : decode cX6_slip 34 = .ok (.iload_n 2, 1) := by decide +kernel
theorem dX6_slip_35 : decode cX6_slip 35 = .ok (.iload_n 3, 1) := by decide +kernel
theorem dX6_slip_36 : decode cX6_slip 36 = .ok (.invokevirtual 184, 3) := by decide +kernel
theorem dX6_slip_39 : decode cX6_slip 39 = .ok (.goto 8, 3) := by decide +kernel
theorem dX6_slip_42 : decode cX6_slip 42 = .ok (.aload_n 0, 1) := by decide +kernel
theorem dX6_slip_43 : decode cX6_slip 43 = .ok (.iconst 2, 1) := by decide +kernel
theorem dX6_slip_44 : decode cX6_slip 44 = .ok (.invokevirtual 72, 3) := by decide +kernel
theorem dX6_slip_47 : decode cX6_slip 47 = .ok (.ireturn, 1) := by decide +kernel
theorem dX6_cashed_0 : decode cX6_cashed 0 = .ok (.aload_n 0, 1) := by decide +kernel
theorem dX6_cashed_1 : decode cX6_cashed 1 = .ok (.iconst 0, 1) := by decide +kernel
theorem dX6_cashed_2 : decode cX6_cashed 2 = .ok (.putfield 28, 3) := by decide +kernel
theorem dX6_cashed_5 : decode cX6_cashed 5 = .ok (.aload_n 0, 1) := by decide +kernel
theorem dX6_cashed_6 : decode cX6_cashed 6 = .ok (.iconst 0, 1) := by decide +kernel
theorem dX6_cashed_7 : decode cX6_cashed 7 = .ok (.bipush 40, 2) := by decide +kernel
theorem dX6_cashed_9 : decode cX6_cashed 9 = .ok (.aload_n 0, 1) := by decide +kernel
theorem dX6_cashed_10 : decode cX6_cashed 10 = .ok (.getfield 7, 3) := by decide +kernel
theorem dX6_cashed_13 : decode cX6_cashed 13 = .ok (.iconst 0, 1) := by decide +kernel
theorem dX6_cashed_14 : decode cX6_cashed 14 = .ok (.iaload, 1) := by decide +kernel
theorem dX6_cashed_15 : decode cX6_cashed 15 = .ok (.imul, 1) := by decide +kernel
theorem dX6_cashed_16 : decode cX6_cashed 16 = .ok (.iconst 2, 1) := by decide +kernel
theorem dX6_cashed_17 : decode cX6_cashed 17 = .ok (.invokevirtual 147, 3) := by decide +kernel
theorem dX6_cashed_20 : decode cX6_cashed 20 = .ok (.i2d, 1) := by decide +kernel
theorem dX6_cashed_21 : decode cX6_cashed 21 = .ok (.dstore_n 1, 1) := by decide +kernel
theorem dX6_cashed_22 : decode cX6_cashed 22 = .ok (.aload_n 0, 1) := by decide +kernel
theorem dX6_cashed_23 : decode cX6_cashed 23 = .ok (.invokevirtual 153, 3) := by decide +kernel
theorem dX6_cashed_26 : decode cX6_cashed 26 = .ok (.istore_n 3, 1) := by decide +kernel
theorem dX6_cashed_27 : decode cX6_cashed 27 = .ok (.iload_n 3, 1) := by decide +kernel
theorem dX6_cashed_28 : decode cX6_cashed 28 = .ok (.ifCond .ne 7, 3) := by decide +kernel
theorem dX6_cashed_31 : decode cX6_cashed 31 = .ok (.dconst 0, 1) := by decide +kernel
theorem dX6_cashed_32 : decode cX6_cashed 32 = .ok (.goto 7, 3) := by decide +kernel
theorem dX6_cashed_35 : decode cX6_cashed 35 = .ok (.dload_n 1, 1) := by decide +kernel
theorem dX6_cashed_36 : decode cX6_cashed 36 = .ok (.iload_n 3, 1) := by decide +kernel
theorem dX6_cashed_37 : decode cX6_cashed 37 = .ok (.i2d, 1) := by decide +kernel
theorem dX6_cashed_38 : decode cX6_cashed 38 = .ok (.ddiv, 1) := by decide +kernel
theorem dX6_cashed_39 : decode cX6_cashed 39 = .ok (.dreturn, 1) := by decide +kernel
theorem dL_weight_0 : decode cL_weight 0 = .ok (.aload_n 3, 1) := by decide +kernel
theorem dL_weight_1 : decode cL_weight 1 = .ok (.iconst 0, 1) := by decide +kernel
theorem dL_weight_2 : decode cL_weight 2 = .ok (.aload_n 0, 1) := by decide +kernel
theorem dL_weight_3 : decode cL_weight 3 = .ok (.iload_n 1, 1) := by decide +kernel
theorem dL_weight_4 : decode cL_weight 4 = .ok (.iload_n 2, 1) := by decide +kernel
theorem dL_weight_5 : decode cL_weight 5 = .ok (.invokevirtual 7, 3) := by decide +kernel
theorem dL_weight_8 : decode cL_weight 8 = .ok (.i2l, 1) := by decide +kernel
theorem dL_weight_9 : decode cL_weight 9 = .ok (.lastore, 1) := by decide +kernel
theorem dL_weight_10 : decode cL_weight 10 = .ok (.goto 11, 3) := by decide +kernel
theorem dL_weight_13 : decode cL_weight 13 = .ok (.astore 4, 2) := by decide +kernel
theorem dL_weight_15 : decode cL_weight 15 = .ok (.iconst 1, 1) := by decide +kernel
theorem dL_weight_16 : decode cL_weight 16 = .ok (.ireturn, 1) := by decide +kernel
theorem dL_weight_17 : decode cL_weight 17 = .ok (.astore 4, 2) := by decide +kernel
theorem dL_weight_19 : decode cL_weight 19 = .ok (.iconst 2, 1) := by decide +kernel
theorem dL_weight_20 : decode cL_weight 20 = .ok (.ireturn, 1) := by decide +kernel
theorem dL_weight_21 : decode cL_weight 21 = .ok (.iconst 0, 1) := by decide +kernel
theorem dL_weight_22 : decode cL_weight 22 = .ok (.ireturn, 1) := by decide +kernel
theorem dL_modulus_0 : decode cL_modulus 0 = .ok (.aload_n 2, 1) := by decide +kernel
theorem dL_modulus_1 : decode cL_modulus 1 = .ok (.iconst 0, 1) := by decide +kernel
theorem dL_modulus_2 : decode cL_modulus 2 = .ok (.aload_n 0, 1) := by decide +kernel
theorem dL_modulus_3 : decode cL_modulus 3 = .ok (.iload_n 1, 1) := by decide +kernel
theorem dL_modulus_4 : decode cL_modulus 4 = .ok (.invokevirtual 17, 3) := by decide +kernel
theorem dL_modulus_7 : decode cL_modulus 7 = .ok (.i2l, 1) := by decide +kernel
theorem dL_modulus_8 : decode cL_modulus 8 = .ok (.lastore, 1) := by decide +kernel
theorem dL_modulus_9 : decode cL_modulus 9 = .ok (.goto 6, 3) := by decide +kernel
theorem dL_modulus_12 : decode cL_modulus 12 = .ok (.astore_n 3, 1) := by decide +kernel
theorem dL_modulus_13 : decode cL_modulus 13 = .ok (.iconst 1, 1) := by decide +kernel
theorem dL_modulus_14 : decode cL_modulus 14 = .ok (.ireturn, 1) := by decide +kernel
theorem dL_modulus_15 : decode cL_modulus 15 = .ok (.iconst 0, 1) := by decide +kernel
theorem dL_modulus_16 : decode cL_modulus 16 = .ok (.ireturn, 1) := by decide +kernel
theorem dL_book_0 : decode cL_book 0 = .ok (.aload_n 3, 1) := by decide +kernel
theorem dL_book_1 : decode cL_book 1 = .ok (.iconst 0, 1) := by decide +kernel
theorem dL_book_2 : decode cL_book 2 = .ok (.aload_n 0, 1) := by decide +kernel
theorem dL_book_3 : decode cL_book 3 = .ok (.iload_n 1, 1) := by decide +kernel
theorem dL_book_4 : decode cL_book 4 = .ok (.iload_n 2, 1) := by decide +kernel
theorem dL_book_5 : decode cL_book 5 = .ok (.invokevirtual 21, 3) := by decide +kernel
theorem dL_book_8 : decode cL_book 8 = .ok (.i2l, 1) := by decide +kernel
theorem dL_book_9 : decode cL_book 9 = .ok (.lastore, 1) := by decide +kernel
theorem dL_book_10 : decode cL_book 10 = .ok (.goto 15, 3) := by decide +kernel
theorem dL_book_13 : decode cL_book 13 = .ok (.astore 4, 2) := by decide +kernel
theorem dL_book_15 : decode cL_book 15 = .ok (.iconst 1, 1) := by decide +kernel
theorem dL_book_16 : decode cL_book 16 = .ok (.ireturn, 1) := by decide +kernel
theorem dL_book_17 : decode cL_book 17 = .ok (.astore 4, 2) := by decide +kernel
theorem dL_book_19 : decode cL_book 19 = .ok (.iconst 2, 1) := by decide +kernel
theorem dL_book_20 : decode cL_book 20 = .ok (.ireturn, 1) := by decide +kernel
theorem dL_book_21 : decode cL_book 21 = .ok (.astore 4, 2) := by decide +kernel
theorem dL_book_23 : decode cL_book 23 = .ok (.iconst 3, 1) := by decide +kernel
theorem dL_book_24 : decode cL_book 24 = .ok (.ireturn, 1) := by decide +kernel
theorem dL_book_25 : decode cL_book 25 = .ok (.iconst 0, 1) := by decide +kernel
theorem dL_book_26 : decode cL_book 26 = .ok (.ireturn, 1) := by decide +kernel
theorem dL_write_0 : decode cL_write 0 = .ok (.aload_n 3, 1) := by decide +kernel
theorem dL_write_1 : decode cL_write 1 = .ok (.iconst 0, 1) := by decide +kernel
theorem dL_write_2 : decode cL_write 2 = .ok (.aload_n 0, 1) := by decide +kernel
theorem dL_write_3 : decode cL_write 3 = .ok (.iload_n 1, 1) := by decide +kernel
theorem dL_write_4 : decode cL_write 4 = .ok (.iload_n 2, 1) := by decide +kernel
theorem dL_write_5 : decode cL_write 5 = .ok (.invokevirtual 26, 3) := by decide +kernel
theorem dL_write_8 : decode cL_write 8 = .ok (.i2l, 1) := by decide +kernel
theorem dL_write_9 : decode cL_write 9 = .ok (.lastore, 1) := by decide +kernel
theorem dL_write_10 : decode cL_write 10 = .ok (.goto 15, 3) := by decide +kernel
theorem dL_write_13 : decode cL_write 13 = .ok (.astore 4, 2) := by decide +kernel
theorem dL_write_15 : decode cL_write 15 = .ok (.iconst 1, 1) := by decide +kernel
theorem dL_write_16 : decode cL_write 16 = .ok (.ireturn, 1) := by decide +kernel
theorem dL_write_17 : decode cL_write 17 = .ok (.astore 4, 2) := by decide +kernel
theorem dL_write_19 : decode cL_write 19 = .ok (.iconst 2, 1) := by decide +kernel
theorem dL_write_20 : decode cL_write 20 = .ok (.ireturn, 1) := by decide +kernel
theorem dL_write_21 : decode cL_write 21 = .ok (.astore 4, 2) := by decide +kernel
theorem dL_write_23 : decode cL_write 23 = .ok (.iconst 3, 1) := by decide +kernel
theorem dL_write_24 : decode cL_write 24 = .ok (.ireturn, 1) := by decide +kernel
theorem dL_write_25 : decode cL_write 25 = .ok (.iconst 0, 1) := by decide +kernel
theorem dL_write_26 : decode cL_write 26 = .ok (.ireturn, 1) := by decide +kernel
theorem dL_cash_0 : decode cL_cash 0 = .ok (.aload_n 3, 1) := by decide +kernel
theorem dL_cash_1 : decode cL_cash 1 = .ok (.iconst 0, 1) := by decide +kernel
theorem dL_cash_2 : decode cL_cash 2 = .ok (.aload_n 0, 1) := by decide +kernel
theorem dL_cash_3 : decode cL_cash 3 = .ok (.iload_n 1, 1) := by decide +kernel
theorem dL_cash_4 : decode cL_cash 4 = .ok (.iload_n 2, 1) := by decide +kernel
theorem dL_cash_5 : decode cL_cash 5 = .ok (.invokevirtual 29, 3) := by decide +kernel
theorem dL_cash_8 : decode cL_cash 8 = .ok (.i2l, 1) := by decide +kernel
theorem dL_cash_9 : decode cL_cash 9 = .ok (.lastore, 1) := by decide +kernel
theorem dL_cash_10 : decode cL_cash 10 = .ok (.goto 11, 3) := by decide +kernel
theorem dL_cash_13 : decode cL_cash 13 = .ok (.astore 4, 2) := by decide +kernel
theorem dL_cash_15 : decode cL_cash 15 = .ok (.iconst 1, 1) := by decide +kernel
theorem dL_cash_16 : decode cL_cash 16 = .ok (.ireturn, 1) := by decide +kernel
theorem dL_cash_17 : decode cL_cash 17 = .ok (.astore 4, 2) := by decide +kernel
theorem dL_cash_19 : decode cL_cash 19 = .ok (.iconst 2, 1) := by decide +kernel
theorem dL_cash_20 : decode cL_cash 20 = .ok (.ireturn, 1) := by decide +kernel
theorem dL_cash_21 : decode cL_cash 21 = .ok (.iconst 0, 1) := by decide +kernel
theorem dL_cash_22 : decode cL_cash 22 = .ok (.ireturn, 1) := by decide +kernel
theorem dL_voidRun_0 : decode cL_voidRun 0 = .ok (.aload_n 3, 1) := by decide +kernel
theorem dL_voidRun_1 : decode cL_voidRun 1 = .ok (.iconst 0, 1) := by decide +kernel
theorem dL_voidRun_2 : decode cL_voidRun 2 = .ok (.aload_n 0, 1) := by decide +kernel
theorem dL_voidRun_3 : decode cL_voidRun 3 = .ok (.iload_n 1, 1) := by decide +kernel
theorem dL_voidRun_4 : decode cL_voidRun 4 = .ok (.iload_n 2, 1) := by decide +kernel
theorem dL_voidRun_5 : decode cL_voidRun 5 = .ok (.invokevirtual 32, 3) := by decide +kernel
theorem dL_voidRun_8 : decode cL_voidRun 8 = .ok (.i2l, 1) := by decide +kernel
theorem dL_voidRun_9 : decode cL_voidRun 9 = .ok (.lastore, 1) := by decide +kernel
theorem dL_voidRun_10 : decode cL_voidRun 10 = .ok (.goto 11, 3) := by decide +kernel
theorem dL_voidRun_13 : decode cL_voidRun 13 = .ok (.astore 4, 2) := by decide +kernel
theorem dL_voidRun_15 : decode cL_voidRun 15 = .ok (.iconst 1, 1) := by decide +kernel
theorem dL_voidRun_16 : decode cL_voidRun 16 = .ok (.ireturn, 1) := by decide +kernel
theorem dL_voidRun_17 : decode cL_voidRun 17 = .ok (.astore 4, 2) := by decide +kernel
theorem dL_voidRun_19 : decode cL_voidRun 19 = .ok (.iconst 2, 1) := by decide +kernel
theorem dL_voidRun_20 : decode cL_voidRun 20 = .ok (.ireturn, 1) := by decide +kernel
theorem dL_voidRun_21 : decode cL_voidRun 21 = .ok (.iconst 0, 1) := by decide +kernel
theorem dL_voidRun_22 : decode cL_voidRun 22 = .ok (.ireturn, 1) := by decide +kernel
theorem dL_append_0 : decode cL_append 0 = .ok (.aload_n 2, 1) := by decide +kernel
theorem dL_append_1 : decode cL_append 1 = .ok (.iconst 0, 1) := by decide +kernel
theorem dL_append_2 : decode cL_append 2 = .ok (.aload_n 0, 1) := by decide +kernel
theorem dL_append_3 : decode cL_append 3 = .ok (.iload_n 1, 1) := by decide +kernel
theorem dL_append_4 : decode cL_append 4 = .ok (.invokevirtual 35, 3) := by decide +kernel
theorem dL_append_7 : decode cL_append 7 = .ok (.i2l, 1) := by decide +kernel
theorem dL_append_8 : decode cL_append 8 = .ok (.lastore, 1) := by decide +kernel
theorem dL_append_9 : decode cL_append 9 = .ok (.goto 9, 3) := by decide +kernel
theorem dL_append_12 : decode cL_append 12 = .ok (.astore_n 3, 1) := by decide +kernel
theorem dL_append_13 : decode cL_append 13 = .ok (.iconst 1, 1) := by decide +kernel
theorem dL_append_14 : decode cL_append 14 = .ok (.ireturn, 1) := by decide +kernel
theorem dL_append_15 : decode cL_append 15 = .ok (.astore_n 3, 1) := by decide +kernel
theorem dL_append_16 : decode cL_append 16 = .ok (.iconst 2, 1) := by decide +kernel
theorem dL_append_17 : decode cL_append 17 = .ok (.ireturn, 1) := by decide +kernel
theorem dL_append_18 : decode cL_append 18 = .ok (.iconst 0, 1) := by decide +kernel
theorem dL_append_19 : decode cL_append 19 = .ok (.ireturn, 1) := by decide +kernel
theorem dL_execute_0 : decode cL_execute 0 = .ok (.aload_n 1, 1) := by decide +kernel
theorem dL_execute_1 : decode cL_execute 1 = .ok (.iconst 0, 1) := by decide +kernel
theorem dL_execute_2 : decode cL_execute 2 = .ok (.aload_n 0, 1) := by decide +kernel
theorem dL_execute_3 : decode cL_execute 3 = .ok (.invokevirtual 38, 3) := by decide +kernel
theorem dL_execute_6 : decode cL_execute 6 = .ok (.i2l, 1) := by decide +kernel
theorem dL_execute_7 : decode cL_execute 7 = .ok (.lastore, 1) := by decide +kernel
theorem dL_execute_8 : decode cL_execute 8 = .ok (.goto 6, 3) := by decide +kernel
theorem dL_execute_11 : decode cL_execute 11 = .ok (.astore_n 2, 1) := by decide +kernel
theorem dL_execute_12 : decode cL_execute 12 = .ok (.iconst 1, 1) := by decide +kernel
theorem dL_execute_13 : decode cL_execute 13 = .ok (.ireturn, 1) := by decide +kernel
theorem dL_execute_14 : decode cL_execute 14 = .ok (.iconst 0, 1) := by decide +kernel
theorem dL_execute_15 : decode cL_execute 15 = .ok (.ireturn, 1) := by decide +kernel
theorem dL_undo_0 : decode cL_undo 0 = .ok (.aload_n 1, 1) := by decide +kernel
theorem dL_undo_1 : decode cL_undo 1 = .ok (.iconst 0, 1) := by decide +kernel
theorem dL_undo_2 : decode cL_undo 2 = .ok (.aload_n 0, 1) := by decide +kernel
theorem dL_undo_3 : decode cL_undo 3 = .ok (.invokevirtual 42, 3) := by decide +kernel
theorem dL_undo_6 : decode cL_undo 6 = .ok (.i2l, 1) := by decide +kernel
theorem dL_undo_7 : decode cL_undo 7 = .ok (.lastore, 1) := by decide +kernel
theorem dL_undo_8 : decode cL_undo 8 = .ok (.goto 6, 3) := by decide +kernel
theorem dL_undo_11 : decode cL_undo 11 = .ok (.astore_n 2, 1) := by decide +kernel
theorem dL_undo_12 : decode cL_undo 12 = .ok (.iconst 1, 1) := by decide +kernel
theorem dL_undo_13 : decode cL_undo 13 = .ok (.ireturn, 1) := by decide +kernel
theorem dL_undo_14 : decode cL_undo 14 = .ok (.iconst 0, 1) := by decide +kernel
theorem dL_undo_15 : decode cL_undo 15 = .ok (.ireturn, 1) := by decide +kernel
theorem dL_keep_0 : decode cL_keep 0 = .ok (.aload_n 2, 1) := by decide +kernel
theorem dL_keep_1 : decode cL_keep 1 = .ok (.iconst 0, 1) := by decide +kernel
theorem dL_keep_2 : decode cL_keep 2 = .ok (.aload_n 0, 1) := by decide +kernel
theorem dL_keep_3 : decode cL_keep 3 = .ok (.iload_n 1, 1) := by decide +kernel
theorem dL_keep_4 : decode cL_keep 4 = .ok (.invokevirtual 45, 3) := by decide +kernel
theorem dL_keep_7 : decode cL_keep 7 = .ok (.i2l, 1) := by decide +kernel
theorem dL_keep_8 : decode cL_keep 8 = .ok (.lastore, 1) := by decide +kernel
theorem dL_keep_9 : decode cL_keep 9 = .ok (.goto 6, 3) := by decide +kernel
theorem dL_keep_12 : decode cL_keep 12 = .ok (.astore_n 3, 1) := by decide +kernel
theorem dL_keep_13 : decode cL_keep 13 = .ok (.iconst 1, 1) := by decide +kernel
theorem dL_keep_14 : decode cL_keep 14 = .ok (.ireturn, 1) := by decide +kernel
theorem dL_keep_15 : decode cL_keep 15 = .ok (.iconst 0, 1) := by decide +kernel
theorem dL_keep_16 : decode cL_keep 16 = .ok (.ireturn, 1) := by decide +kernel
theorem dL_goBack_0 : decode cL_goBack 0 = .ok (.aload_n 2, 1) := by decide +kernel
theorem dL_goBack_1 : decode cL_goBack 1 = .ok (.iconst 0, 1) := by decide +kernel
theorem dL_goBack_2 : decode cL_goBack 2 = .ok (.aload_n 0, 1) := by decide +kernel
theorem dL_goBack_3 : decode cL_goBack 3 = .ok (.iload_n 1, 1) := by decide +kernel
theorem dL_goBack_4 : decode cL_goBack 4 = .ok (.invokevirtual 48, 3) := by decide +kernel
theorem dL_goBack_7 : decode cL_goBack 7 = .ok (.i2l, 1) := by decide +kernel
theorem dL_goBack_8 : decode cL_goBack 8 = .ok (.lastore, 1) := by decide +kernel
theorem dL_goBack_9 : decode cL_goBack 9 = .ok (.goto 9, 3) := by decide +kernel
theorem dL_goBack_12 : decode cL_goBack 12 = .ok (.astore_n 3, 1) := by decide +kernel
theorem dL_goBack_13 : decode cL_goBack 13 = .ok (.iconst 1, 1) := by decide +kernel
theorem dL_goBack_14 : decode cL_goBack 14 = .ok (.ireturn, 1) := by decide +kernel
theorem dL_goBack_15 : decode cL_goBack 15 = .ok (.astore_n 3, 1) := by decide +kernel
theorem dL_goBack_16 : decode cL_goBack 16 = .ok (.iconst 2, 1) := by decide +kernel
theorem dL_goBack_17 : decode cL_goBack 17 = .ok (.ireturn, 1) := by decide +kernel
theorem dL_goBack_18 : decode cL_goBack 18 = .ok (.iconst 0, 1) := by decide +kernel
theorem dL_goBack_19 : decode cL_goBack 19 = .ok (.ireturn, 1) := by decide +kernel
theorem dL_letter_0 : decode cL_letter 0 = .ok (.aload_n 2, 1) := by decide +kernel
theorem dL_letter_1 : decode cL_letter 1 = .ok (.iconst 0, 1) := by decide +kernel
theorem dL_letter_2 : decode cL_letter 2 = .ok (.aload_n 0, 1) := by decide +kernel
theorem dL_letter_3 : decode cL_letter 3 = .ok (.iload_n 1, 1) := by decide +kernel
theorem dL_letter_4 : decode cL_letter 4 = .ok (.invokevirtual 51, 3) := by decide +kernel
theorem dL_letter_7 : decode cL_letter 7 = .ok (.i2l, 1) := by decide +kernel
theorem dL_letter_8 : decode cL_letter 8 = .ok (.lastore, 1) := by decide +kernel
theorem dL_letter_9 : decode cL_letter 9 = .ok (.goto 6, 3) := by decide +kernel
theorem dL_letter_12 : decode cL_letter 12 = .ok (.astore_n 3, 1) := by decide +kernel
theorem dL_letter_13 : decode cL_letter 13 = .ok (.iconst 1, 1) := by decide +kernel
theorem dL_letter_14 : decode cL_letter 14 = .ok (.ireturn, 1) := by decide +kernel
theorem dL_letter_15 : decode cL_letter 15 = .ok (.iconst 0, 1) := by decide +kernel
theorem dL_letter_16 : decode cL_letter 16 = .ok (.ireturn, 1) := by decide +kernel
theorem dL_cheque_0 : decode cL_cheque 0 = .ok (.aload_n 3, 1) := by decide +kernel
theorem dL_cheque_1 : decode cL_cheque 1 = .ok (.iconst 0, 1) := by decide +kernel
theorem dL_cheque_2 : decode cL_cheque 2 = .ok (.aload_n 0, 1) := by decide +kernel
theorem dL_cheque_3 : decode cL_cheque 3 = .ok (.iload_n 1, 1) := by decide +kernel
theorem dL_cheque_4 : decode cL_cheque 4 = .ok (.iload_n 2, 1) := by decide +kernel
theorem dL_cheque_5 : decode cL_cheque 5 = .ok (.invokevirtual 54, 3) := by decide +kernel
theorem dL_cheque_8 : decode cL_cheque 8 = .ok (.i2l, 1) := by decide +kernel
theorem dL_cheque_9 : decode cL_cheque 9 = .ok (.lastore, 1) := by decide +kernel
theorem dL_cheque_10 : decode cL_cheque 10 = .ok (.goto 11, 3) := by decide +kernel
theorem dL_cheque_13 : decode cL_cheque 13 = .ok (.astore 4, 2) := by decide +kernel
theorem dL_cheque_15 : decode cL_cheque 15 = .ok (.iconst 1, 1) := by decide +kernel
theorem dL_cheque_16 : decode cL_cheque 16 = .ok (.ireturn, 1) := by decide +kernel
theorem dL_cheque_17 : decode cL_cheque 17 = .ok (.astore 4, 2) := by decide +kernel
theorem dL_cheque_19 : decode cL_cheque 19 = .ok (.iconst 2, 1) := by decide +kernel
theorem dL_cheque_20 : decode cL_cheque 20 = .ok (.ireturn, 1) := by decide +kernel
theorem dL_cheque_21 : decode cL_cheque 21 = .ok (.iconst 0, 1) := by decide +kernel
theorem dL_cheque_22 : decode cL_cheque 22 = .ok (.ireturn, 1) := by decide +kernel
theorem dL_bookOf_0 : decode cL_bookOf 0 = .ok (.aload_n 3, 1) := by decide +kernel
theorem dL_bookOf_1 : decode cL_bookOf 1 = .ok (.iconst 0, 1) := by decide +kernel
theorem dL_bookOf_2 : decode cL_bookOf 2 = .ok (.aload_n 0, 1) := by decide +kernel
theorem dL_bookOf_3 : decode cL_bookOf 3 = .ok (.iload_n 1, 1) := by decide +kernel
theorem dL_bookOf_4 : decode cL_bookOf 4 = .ok (.iload_n 2, 1) := by decide +kernel
theorem dL_bookOf_5 : decode cL_bookOf 5 = .ok (.invokevirtual 57, 3) := by decide +kernel
theorem dL_bookOf_8 : decode cL_bookOf 8 = .ok (.i2l, 1) := by decide +kernel
theorem dL_bookOf_9 : decode cL_bookOf 9 = .ok (.lastore, 1) := by decide +kernel
theorem dL_bookOf_10 : decode cL_bookOf 10 = .ok (.goto 11, 3) := by decide +kernel
theorem dL_bookOf_13 : decode cL_bookOf 13 = .ok (.astore 4, 2) := by decide +kernel
theorem dL_bookOf_15 : decode cL_bookOf 15 = .ok (.iconst 1, 1) := by decide +kernel
theorem dL_bookOf_16 : decode cL_bookOf 16 = .ok (.ireturn, 1) := by decide +kernel
theorem dL_bookOf_17 : decode cL_bookOf 17 = .ok (.astore 4, 2) := by decide +kernel
theorem dL_bookOf_19 : decode cL_bookOf 19 = .ok (.iconst 2, 1) := by decide +kernel
theorem dL_bookOf_20 : decode cL_bookOf 20 = .ok (.ireturn, 1) := by decide +kernel
theorem dL_bookOf_21 : decode cL_bookOf 21 = .ok (.iconst 0, 1) := by decide +kernel
theorem dL_bookOf_22 : decode cL_bookOf 22 = .ok (.ireturn, 1) := by decide +kernel
theorem dL_count_0 : decode cL_count 0 = .ok (.aload_n 2, 1) := by decide +kernel
theorem dL_count_1 : decode cL_count 1 = .ok (.iconst 0, 1) := by decide +kernel
theorem dL_count_2 : decode cL_count 2 = .ok (.aload_n 0, 1) := by decide +kernel
theorem dL_count_3 : decode cL_count 3 = .ok (.iload_n 1, 1) := by decide +kernel
theorem dL_count_4 : decode cL_count 4 = .ok (.invokevirtual 60, 3) := by decide +kernel
theorem dL_count_7 : decode cL_count 7 = .ok (.i2l, 1) := by decide +kernel
theorem dL_count_8 : decode cL_count 8 = .ok (.lastore, 1) := by decide +kernel
theorem dL_count_9 : decode cL_count 9 = .ok (.goto 6, 3) := by decide +kernel
theorem dL_count_12 : decode cL_count 12 = .ok (.astore_n 3, 1) := by decide +kernel
theorem dL_count_13 : decode cL_count 13 = .ok (.iconst 1, 1) := by decide +kernel
theorem dL_count_14 : decode cL_count 14 = .ok (.ireturn, 1) := by decide +kernel
theorem dL_count_15 : decode cL_count 15 = .ok (.iconst 0, 1) := by decide +kernel
theorem dL_count_16 : decode cL_count 16 = .ok (.ireturn, 1) := by decide +kernel
theorem dL_ranked_0 : decode cL_ranked 0 = .ok (.aload_n 2, 1) := by decide +kernel
theorem dL_ranked_1 : decode cL_ranked 1 = .ok (.iconst 0, 1) := by decide +kernel
theorem dL_ranked_2 : decode cL_ranked 2 = .ok (.aload_n 0, 1) := by decide +kernel
theorem dL_ranked_3 : decode cL_ranked 3 = .ok (.iload_n 1, 1) := by decide +kernel
theorem dL_ranked_4 : decode cL_ranked 4 = .ok (.invokevirtual 63, 3) := by decide +kernel
theorem dL_ranked_7 : decode cL_ranked 7 = .ok (.i2l, 1) := by decide +kernel
theorem dL_ranked_8 : decode cL_ranked 8 = .ok (.lastore, 1) := by decide +kernel
theorem dL_ranked_9 : decode cL_ranked 9 = .ok (.goto 6, 3) := by decide +kernel
theorem dL_ranked_12 : decode cL_ranked 12 = .ok (.astore_n 3, 1) := by decide +kernel
theorem dL_ranked_13 : decode cL_ranked 13 = .ok (.iconst 1, 1) := by decide +kernel
theorem dL_ranked_14 : decode cL_ranked 14 = .ok (.ireturn, 1) := by decide +kernel
theorem dL_ranked_15 : decode cL_ranked 15 = .ok (.iconst 0, 1) := by decide +kernel
theorem dL_ranked_16 : decode cL_ranked 16 = .ok (.ireturn, 1) := by decide +kernel
theorem dL_missed_0 : decode cL_missed 0 = .ok (.aload_n 3, 1) := by decide +kernel
theorem dL_missed_1 : decode cL_missed 1 = .ok (.iconst 0, 1) := by decide +kernel
theorem dL_missed_2 : decode cL_missed 2 = .ok (.aload_n 0, 1) := by decide +kernel
theorem dL_missed_3 : decode cL_missed 3 = .ok (.iload_n 1, 1) := by decide +kernel
theorem dL_missed_4 : decode cL_missed 4 = .ok (.iload_n 2, 1) := by decide +kernel
theorem dL_missed_5 : decode cL_missed 5 = .ok (.invokevirtual 66, 3) := by decide +kernel
theorem dL_missed_8 : decode cL_missed 8 = .ok (.i2l, 1) := by decide +kernel
theorem dL_missed_9 : decode cL_missed 9 = .ok (.lastore, 1) := by decide +kernel
theorem dL_missed_10 : decode cL_missed 10 = .ok (.goto 11, 3) := by decide +kernel
theorem dL_missed_13 : decode cL_missed 13 = .ok (.astore 4, 2) := by decide +kernel
theorem dL_missed_15 : decode cL_missed 15 = .ok (.iconst 1, 1) := by decide +kernel
theorem dL_missed_16 : decode cL_missed 16 = .ok (.ireturn, 1) := by decide +kernel
theorem dL_missed_17 : decode cL_missed 17 = .ok (.astore 4, 2) := by decide +kernel
theorem dL_missed_19 : decode cL_missed 19 = .ok (.iconst 2, 1) := by decide +kernel
theorem dL_missed_20 : decode cL_missed 20 = .ok (.ireturn, 1) := by decide +kernel
theorem dL_missed_21 : decode cL_missed 21 = .ok (.iconst 0, 1) := by decide +kernel
theorem dL_missed_22 : decode cL_missed 22 = .ok (.ireturn, 1) := by decide +kernel
theorem dL_weak_0 : decode cL_weak 0 = .ok (.aload 4, 2) := by decide +kernel
theorem dL_weak_2 : decode cL_weak 2 = .ok (.iconst 0, 1) := by decide +kernel
theorem dL_weak_3 : decode cL_weak 3 = .ok (.aload_n 0, 1) := by decide +kernel
theorem dL_weak_4 : decode cL_weak 4 = .ok (.iload_n 1, 1) := by decide +kernel
theorem dL_weak_5 : decode cL_weak 5 = .ok (.iload_n 2, 1) := by decide +kernel
theorem dL_weak_6 : decode cL_weak 6 = .ok (.iload_n 3, 1) := by decide +kernel
theorem dL_weak_7 : decode cL_weak 7 = .ok (.invokevirtual 69, 3) := by decide +kernel
theorem dL_weak_10 : decode cL_weak 10 = .ok (.i2l, 1) := by decide +kernel
theorem dL_weak_11 : decode cL_weak 11 = .ok (.lastore, 1) := by decide +kernel
theorem dL_weak_12 : decode cL_weak 12 = .ok (.goto 11, 3) := by decide +kernel
theorem dL_weak_15 : decode cL_weak 15 = .ok (.astore 5, 2) := by decide +kernel
theorem dL_weak_17 : decode cL_weak 17 = .ok (.iconst 1, 1) := by decide +kernel
theorem dL_weak_18 : decode cL_weak 18 = .ok (.ireturn, 1) := by decide +kernel
theorem dL_weak_19 : decode cL_weak 19 = .ok (.astore 5, 2) := by decide +kernel
theorem dL_weak_21 : decode cL_weak 21 = .ok (.iconst 2, 1) := by decide +kernel
theorem dL_weak_22 : decode cL_weak 22 = .ok (.ireturn, 1) := by decide +kernel
theorem dL_weak_23 : decode cL_weak 23 = .ok (.iconst 0, 1) := by decide +kernel
theorem dL_weak_24 : decode cL_weak 24 = .ok (.ireturn, 1) := by decide +kernel
theorem dL_finds_0 : decode cL_finds 0 = .ok (.aload_n 2, 1) := by decide +kernel
theorem dL_finds_1 : decode cL_finds 1 = .ok (.iconst 0, 1) := by decide +kernel
theorem dL_finds_2 : decode cL_finds 2 = .ok (.aload_n 0, 1) := by decide +kernel
theorem dL_finds_3 : decode cL_finds 3 = .ok (.iload_n 1, 1) := by decide +kernel
theorem dL_finds_4 : decode cL_finds 4 = .ok (.invokevirtual 73, 3) := by decide +kernel
theorem dL_finds_7 : decode cL_finds 7 = .ok (.ifCond .eq 7, 3) := by decide +kernel
theorem dL_finds_10 : decode cL_finds 10 = .ok (.lconst 1, 1) := by decide +kernel
theorem dL_finds_11 : decode cL_finds 11 = .ok (.goto 4, 3) := by decide +kernel
theorem dL_finds_14 : decode cL_finds 14 = .ok (.lconst 0, 1) := by decide +kernel
theorem dL_finds_15 : decode cL_finds 15 = .ok (.lastore, 1) := by decide +kernel
theorem dL_finds_16 : decode cL_finds 16 = .ok (.goto 6, 3) := by decide +kernel
theorem dL_finds_19 : decode cL_finds 19 = .ok (.astore_n 3, 1) := by decide +kernel
theorem dL_finds_20 : decode cL_finds 20 = .ok (.iconst 1, 1) := by decide +kernel
theorem dL_finds_21 : decode cL_finds 21 = .ok (.ireturn, 1) := by decide +kernel
theorem dL_finds_22 : decode cL_finds 22 = .ok (.iconst 0, 1) := by decide +kernel
theorem dL_finds_23 : decode cL_finds 23 = .ok (.ireturn, 1) := by decide +kernel
theorem dL_bestWeight_0 : decode cL_bestWeight 0 = .ok (.aload_n 2, 1) := by decide +kernel
theorem dL_bestWeight_1 : decode cL_bestWeight 1 = .ok (.iconst 0, 1) := by decide +kernel
theorem dL_bestWeight_2 : decode cL_bestWeight 2 = .ok (.aload_n 0, 1) := by decide +kernel
theorem dL_bestWeight_3 : decode cL_bestWeight 3 = .ok (.iload_n 1, 1) := by decide +kernel
theorem dL_bestWeight_4 : decode cL_bestWeight 4 = .ok (.invokevirtual 77, 3) := by decide +kernel
theorem dL_bestWeight_7 : decode cL_bestWeight 7 = .ok (.i2l, 1) := by decide +kernel
theorem dL_bestWeight_8 : decode cL_bestWeight 8 = .ok (.lastore, 1) := by decide +kernel
theorem dL_bestWeight_9 : decode cL_bestWeight 9 = .ok (.goto 6, 3) := by decide +kernel
theorem dL_bestWeight_12 : decode cL_bestWeight 12 = .ok (.astore_n 3, 1) := by decide +kernel
theorem dL_bestWeight_13 : decode cL_bestWeight 13 = .ok (.iconst 1, 1) := by decide +kernel
theorem dL_bestWeight_14 : decode cL_bestWeight 14 = .ok (.ireturn, 1) := by decide +kernel
theorem dL_bestWeight_15 : decode cL_bestWeight 15 = .ok (.iconst 0, 1) := by decide +kernel
theorem dL_bestWeight_16 : decode cL_bestWeight 16 = .ok (.ireturn, 1) := by decide +kernel
theorem dL_meant_0 : decode cL_meant 0 = .ok (.aload 4, 2) := by decide +kernel
theorem dL_meant_2 : decode cL_meant 2 = .ok (.iconst 0, 1) := by decide +kernel
theorem dL_meant_3 : decode cL_meant 3 = .ok (.aload_n 0, 1) := by decide +kernel
theorem dL_meant_4 : decode cL_meant 4 = .ok (.iload_n 1, 1) := by decide +kernel
theorem dL_meant_5 : decode cL_meant 5 = .ok (.iload_n 2, 1) := by decide +kernel
theorem dL_meant_6 : decode cL_meant 6 = .ok (.iload_n 3, 1) := by decide +kernel
theorem dL_meant_7 : decode cL_meant 7 = .ok (.invokevirtual 80, 3) := by decide +kernel
theorem dL_meant_10 : decode cL_meant 10 = .ok (.i2l, 1) := by decide +kernel
theorem dL_meant_11 : decode cL_meant 11 = .ok (.lastore, 1) := by decide +kernel
theorem dL_meant_12 : decode cL_meant 12 = .ok (.goto 11, 3) := by decide +kernel
theorem dL_meant_15 : decode cL_meant 15 = .ok (.astore 5, 2) := by decide +kernel
theorem dL_meant_17 : decode cL_meant 17 = .ok (.iconst 1, 1) := by decide +kernel
theorem dL_meant_18 : decode cL_meant 18 = .ok (.ireturn, 1) := by decide +kernel
theorem dL_meant_19 : decode cL_meant 19 = .ok (.astore 5, 2) := by decide +kernel
theorem dL_meant_21 : decode cL_meant 21 = .ok (.iconst 2, 1) := by decide +kernel
theorem dL_meant_22 : decode cL_meant 22 = .ok (.ireturn, 1) := by decide +kernel
theorem dL_meant_23 : decode cL_meant 23 = .ok (.iconst 0, 1) := by decide +kernel
theorem dL_meant_24 : decode cL_meant 24 = .ok (.ireturn, 1) := by decide +kernel
theorem dL_slip_0 : decode cL_slip 0 = .ok (.aload 4, 2) := by decide +kernel
theorem dL_slip_2 : decode cL_slip 2 = .ok (.iconst 0, 1) := by decide +kernel
theorem dL_slip_3 : decode cL_slip 3 = .ok (.aload_n 0, 1) := by decide +kernel
theorem dL_slip_4 : decode cL_slip 4 = .ok (.iload_n 1, 1) := by decide +kernel
theorem dL_slip_5 : decode cL_slip 5 = .ok (.iload_n 2, 1) := by decide +kernel
theorem dL_slip_6 : decode cL_slip 6 = .ok (.iload_n 3, 1) := by decide +kernel
theorem dL_slip_7 : decode cL_slip 7 = .ok (.invokevirtual 83, 3) := by decide +kernel
theorem dL_slip_10 : decode cL_slip 10 = .ok (.i2l, 1) := by decide +kernel
theorem dL_slip_11 : decode cL_slip 11 = .ok (.lastore, 1) := by decide +kernel
theorem dL_slip_12 : decode cL_slip 12 = .ok (.goto 11, 3) := by decide +kernel
theorem dL_slip_15 : decode cL_slip 15 = .ok (.astore 5, 2) := by decide +kernel
theorem dL_slip_17 : decode cL_slip 17 = .ok (.iconst 1, 1) := by decide +kernel
theorem dL_slip_18 : decode cL_slip 18 = .ok (.ireturn, 1) := by decide +kernel
theorem dL_slip_19 : decode cL_slip 19 = .ok (.astore 5, 2) := by decide +kernel
theorem dL_slip_21 : decode cL_slip 21 = .ok (.iconst 2, 1) := by decide +kernel
theorem dL_slip_22 : decode cL_slip 22 = .ok (.ireturn, 1) := by decide +kernel
theorem dL_slip_23 : decode cL_slip 23 = .ok (.iconst 0, 1) := by decide +kernel
theorem dL_slip_24 : decode cL_slip 24 = .ok (.ireturn, 1) := by decide +kernel
theorem dL_law_0 : decode cL_law 0 = .ok (.new 8, 3) := by decide +kernel
theorem dL_law_3 : decode cL_law 3 = .ok (.dup, 1) := by decide +kernel
theorem dL_law_4 : decode cL_law 4 = .ok (.invokespecial 86, 3) := by decide +kernel
theorem dL_law_7 : decode cL_law 7 = .ok (.astore_n 1, 1) := by decide +kernel
theorem dL_law_8 : decode cL_law 8 = .ok (.new 87, 3) := by decide +kernel
theorem dL_law_11 : decode cL_law 11 = .ok (.dup, 1) := by decide +kernel
theorem dL_law_12 : decode cL_law 12 = .ok (.invokespecial 89, 3) := by decide +kernel
theorem dL_law_15 : decode cL_law 15 = .ok (.astore_n 2, 1) := by decide +kernel
theorem dL_law_16 : decode cL_law 16 = .ok (.iconst 1, 1) := by decide +kernel
theorem dL_law_17 : decode cL_law 17 = .ok (.newarray .long, 2) := by decide +kernel
theorem dL_law_19 : decode cL_law 19 = .ok (.astore_n 3, 1) := by decide +kernel
theorem dL_law_20 : decode cL_law 20 = .ok (.iconst 0, 1) := by decide +kernel
theorem dL_law_21 : decode cL_law 21 = .ok (.istore 4, 2) := by decide +kernel
theorem dL_law_23 : decode cL_law 23 = .ok (.iload 4, 2) := by decide +kernel
theorem dL_law_25 : decode cL_law 25 = .ok (.aload_n 0, 1) := by decide +kernel
theorem dL_law_26 : decode cL_law 26 = .ok (.arraylength, 1) := by decide +kernel
theorem dL_law_27 : decode cL_law 27 = .ok (.iconst 4, 1) := by decide +kernel
theorem dL_law_28 : decode cL_law 28 = .ok (.isub, 1) := by decide +kernel
theorem dL_law_29 : decode cL_law 29 = .ok (.if_icmp .gt 1579, 3) := by decide +kernel
theorem dL_law_32 : decode cL_law 32 = .ok (.aload_n 0, 1) := by decide +kernel
theorem dL_law_33 : decode cL_law 33 = .ok (.iload 4, 2) := by decide +kernel
theorem dL_law_35 : decode cL_law 35 = .ok (.iaload, 1) := by decide +kernel
theorem dL_law_36 : decode cL_law 36 = .ok (.bipush 31, 2) := by decide +kernel
theorem dL_law_38 : decode cL_law 38 = .ok (.iand, 1) := by decide +kernel
theorem dL_law_39 : decode cL_law 39 = .ok (.tableswitch 1563 0 24 #[113, 181, 237, 305, 373, 441, 509, 565, 578, 591, 635, 679, 735, 791, 847, 915, 983, 1039, 1095, 1163, 1243, 1306, 1362, 1442, 1522], 113) := by decide +kernel
theorem dL_law_152 : decode cL_law 152 = .ok (.aload_n 1, 1) := by decide +kernel
theorem dL_law_153 : decode cL_law 153 = .ok (.aload_n 0, 1) := by decide +kernel
theorem dL_law_154 : decode cL_law 154 = .ok (.iload 4, 2) := by decide +kernel
theorem dL_law_156 : decode cL_law 156 = .ok (.iconst 1, 1) := by decide +kernel
theorem dL_law_157 : decode cL_law 157 = .ok (.iadd, 1) := by decide +kernel
theorem dL_law_158 : decode cL_law 158 = .ok (.iaload, 1) := by decide +kernel
theorem dL_law_159 : decode cL_law 159 = .ok (.aload_n 0, 1) := by decide +kernel
theorem dL_law_160 : decode cL_law 160 = .ok (.iload 4, 2) := by decide +kernel
theorem dL_law_162 : decode cL_law 162 = .ok (.iconst 2, 1) := by decide +kernel
theorem dL_law_163 : decode cL_law 163 = .ok (.iadd, 1) := by decide +kernel
theorem dL_law_164 : decode cL_law 164 = .ok (.iaload, 1) := by decide +kernel
theorem dL_law_165 : decode cL_law 165 = .ok (.aload_n 3, 1) := by decide +kernel
theorem dL_law_166 : decode cL_law 166 = .ok (.invokestatic 90, 3) := by decide +kernel
theorem dL_law_169 : decode cL_law 169 = .ok (.istore 5, 2) := by decide +kernel
theorem dL_law_171 : decode cL_law 171 = .ok (.aload_n 2, 1) := by decide +kernel
theorem dL_law_172 : decode cL_law 172 = .ok (.aload_n 0, 1) := by decide +kernel
theorem dL_law_173 : decode cL_law 173 = .ok (.iload 4, 2) := by decide +kernel
theorem dL_law_175 : decode cL_law 175 = .ok (.iconst 1, 1) := by decide +kernel
theorem dL_law_176 : decode cL_law 176 = .ok (.iadd, 1) := by decide +kernel
theorem dL_law_177 : decode cL_law 177 = .ok (.iaload, 1) := by decide +kernel
theorem dL_law_178 : decode cL_law 178 = .ok (.aload_n 0, 1) := by decide +kernel
theorem dL_law_179 : decode cL_law 179 = .ok (.iload 4, 2) := by decide +kernel
theorem dL_law_181 : decode cL_law 181 = .ok (.iconst 2, 1) := by decide +kernel
theorem dL_law_182 : decode cL_law 182 = .ok (.iadd, 1) := by decide +kernel
theorem dL_law_183 : decode cL_law 183 = .ok (.iaload, 1) := by decide +kernel
theorem dL_law_184 : decode cL_law 184 = .ok (.invokevirtual 95, 3) := by decide +kernel
theorem dL_law_187 : decode cL_law 187 = .ok (.istore 6, 2) := by decide +kernel
theorem dL_law_189 : decode cL_law 189 = .ok (.aload_n 2, 1) := by decide +kernel
theorem dL_law_190 : decode cL_law 190 = .ok (.invokevirtual 96, 3) := by decide +kernel
theorem dL_law_193 : decode cL_law 193 = .ok (.iload 5, 2) := by decide +kernel
theorem dL_law_195 : decode cL_law 195 = .ok (.if_icmp .eq 5, 3) := by decide +kernel
theorem dL_law_198 : decode cL_law 198 = .ok (.iconst 0, 1) := by decide +kernel
theorem dL_law_199 : decode cL_law 199 = .ok (.ireturn, 1) := by decide +kernel
theorem dL_law_200 : decode cL_law 200 = .ok (.iload 5, 2) := by decide +kernel
theorem dL_law_202 : decode cL_law 202 = .ok (.ifCond .ne 15, 3) := by decide +kernel
theorem dL_law_205 : decode cL_law 205 = .ok (.aload_n 3, 1) := by decide +kernel
theorem dL_law_206 : decode cL_law 206 = .ok (.iconst 0, 1) := by decide +kernel
theorem dL_law_207 : decode cL_law 207 = .ok (.laload, 1) := by decide +kernel
theorem dL_law_208 : decode cL_law 208 = .ok (.iload 6, 2) := by decide +kernel
theorem dL_law_210 : decode cL_law 210 = .ok (.i2l, 1) := by decide +kernel
theorem dL_law_211 : decode cL_law 211 = .ok (.lcmp, 1) := by decide +kernel
theorem dL_law_212 : decode cL_law 212 = .ok (.ifCond .eq 5, 3) := by decide +kernel
theorem dL_law_215 : decode cL_law 215 = .ok (.iconst 0, 1) := by decide +kernel
theorem dL_law_216 : decode cL_law 216 = .ok (.ireturn, 1) := by decide +kernel
theorem dL_law_217 : decode cL_law 217 = .ok (.goto 1385, 3) := by decide +kernel
theorem dL_law_220 : decode cL_law 220 = .ok (.aload_n 1, 1) := by decide +kernel
theorem dL_law_221 : decode cL_law 221 = .ok (.aload_n 0, 1) := by decide +kernel
theorem dL_law_222 : decode cL_law 222 = .ok (.iload 4, 2) := by decide +kernel
theorem dL_law_224 : decode cL_law 224 = .ok (.iconst 1, 1) := by decide +kernel
theorem dL_law_225 : decode cL_law 225 = .ok (.iadd, 1) := by decide +kernel
theorem dL_law_226 : decode cL_law 226 = .ok (.iaload, 1) := by decide +kernel
theorem dL_law_227 : decode cL_law 227 = .ok (.aload_n 3, 1) := by decide +kernel
theorem dL_law_228 : decode cL_law 228 = .ok (.invokestatic 99, 3) := by decide +kernel
theorem dL_law_231 : decode cL_law 231 = .ok (.istore 5, 2) := by decide +kernel
theorem dL_law_233 : decode cL_law 233 = .ok (.aload_n 2, 1) := by decide +kernel
theorem dL_law_234 : decode cL_law 234 = .ok (.aload_n 0, 1) := by decide +kernel
theorem dL_law_235 : decode cL_law 235 = .ok (.iload 4, 2) := by decide +kernel
theorem dL_law_237 : decode cL_law 237 = .ok (.iconst 1, 1) := by decide +kernel
theorem dL_law_238 : decode cL_law 238 = .ok (.iadd, 1) := by decide +kernel
theorem dL_law_239 : decode cL_law 239 = .ok (.iaload, 1) := by decide +kernel
theorem dL_law_240 : decode cL_law 240 = .ok (.invokevirtual 102, 3) := by decide +kernel
theorem dL_law_243 : decode cL_law 243 = .ok (.istore 6, 2) := by decide +kernel
theorem dL_law_245 : decode cL_law 245 = .ok (.aload_n 2, 1) := by decide +kernel
theorem dL_law_246 : decode cL_law 246 = .ok (.invokevirtual 96, 3) := by decide +kernel
theorem dL_law_249 : decode cL_law 249 = .ok (.iload 5, 2) := by decide +kernel
theorem dL_law_251 : decode cL_law 251 = .ok (.if_icmp .eq 5, 3) := by decide +kernel
theorem dL_law_254 : decode cL_law 254 = .ok (.iconst 0, 1) := by decide +kernel
theorem dL_law_255 : decode cL_law 255 = .ok (.ireturn, 1) := by decide +kernel
theorem dL_law_256 : decode cL_law 256 = .ok (.iload 5, 2) := by decide +kernel
theorem dL_law_258 : decode cL_law 258 = .ok (.ifCond .ne 15, 3) := by decide +kernel
theorem dL_law_261 : decode cL_law 261 = .ok (.aload_n 3, 1) := by decide +kernel
theorem dL_law_262 : decode cL_law 262 = .ok (.iconst 0, 1) := by decide +kernel
theorem dL_law_263 : decode cL_law 263 = .ok (.laload, 1) := by decide +kernel
theorem dL_law_264 : decode cL_law 264 = .ok (.iload 6, 2) := by decide +kernel
theorem dL_law_266 : decode cL_law 266 = .ok (.i2l, 1) := by decide +kernel
theorem dL_law_267 : decode cL_law 267 = .ok (.lcmp, 1) := by decide +kernel
theorem dL_law_268 : decode cL_law 268 = .ok (.ifCond .eq 5, 3) := by decide +kernel
theorem dL_law_271 : decode cL_law 271 = .ok (.iconst 0, 1) := by decide +kernel
theorem dL_law_272 : decode cL_law 272 = .ok (.ireturn, 1) := by decide +kernel
theorem dL_law_273 : decode cL_law 273 = .ok (.goto 1329, 3) := by decide +kernel
theorem dL_law_276 : decode cL_law 276 = .ok (.aload_n 1, 1) := by decide +kernel
theorem dL_law_277 : decode cL_law 277 = .ok (.aload_n 0, 1) := by decide +kernel
theorem dL_law_278 : decode cL_law 278 = .ok (.iload 4, 2) := by decide +kernel
theorem dL_law_280 : decode cL_law 280 = .ok (.iconst 1, 1) := by decide +kernel
theorem dL_law_281 : decode cL_law 281 = .ok (.iadd, 1) := by decide +kernel
theorem dL_law_282 : decode cL_law 282 = .ok (.iaload, 1) := by decide +kernel
theorem dL_law_283 : decode cL_law 283 = .ok (.aload_n 0, 1) := by decide +kernel
theorem dL_law_284 : decode cL_law 284 = .ok (.iload 4, 2) := by decide +kernel
theorem dL_law_286 : decode cL_law 286 = .ok (.iconst 2, 1) := by decide +kernel
theorem dL_law_287 : decode cL_law 287 = .ok (.iadd, 1) := by decide +kernel
theorem dL_law_288 : decode cL_law 288 = .ok (.iaload, 1) := by decide +kernel
theorem dL_law_289 : decode cL_law 289 = .ok (.aload_n 3, 1) := by decide +kernel
theorem dL_law_290 : decode cL_law 290 = .ok (.invokestatic 103, 3) := by decide +kernel
theorem dL_law_293 : decode cL_law 293 = .ok (.istore 5, 2) := by decide +kernel
theorem dL_law_295 : decode cL_law 295 = .ok (.aload_n 2, 1) := by decide +kernel
theorem dL_law_296 : decode cL_law 296 = .ok (.aload_n 0, 1) := by decide +kernel
theorem dL_law_297 : decode cL_law 297 = .ok (.iload 4, 2) := by decide +kernel
theorem dL_law_299 : decode cL_law 299 = .ok (.iconst 1, 1) := by decide +kernel
theorem dL_law_300 : decode cL_law 300 = .ok (.iadd, 1) := by decide +kernel
theorem dL_law_301 : decode cL_law 301 = .ok (.iaload, 1) := by decide +kernel
theorem dL_law_302 : decode cL_law 302 = .ok (.aload_n 0, 1) := by decide +kernel
theorem dL_law_303 : decode cL_law 303 = .ok (.iload 4, 2) := by decide +kernel
theorem dL_law_305 : decode cL_law 305 = .ok (.iconst 2, 1) := by decide +kernel
theorem dL_law_306 : decode cL_law 306 = .ok (.iadd, 1) := by decide +kernel
theorem dL_law_307 : decode cL_law 307 = .ok (.iaload, 1) := by decide +kernel
theorem dL_law_308 : decode cL_law 308 = .ok (.invokevirtual 105, 3) := by decide +kernel
theorem dL_law_311 : decode cL_law 311 = .ok (.istore 6, 2) := by decide +kernel
theorem dL_law_313 : decode cL_law 313 = .ok (.aload_n 2, 1) := by decide +kernel
theorem dL_law_314 : decode cL_law 314 = .ok (.invokevirtual 96, 3) := by decide +kernel
theorem dL_law_317 : decode cL_law 317 = .ok (.iload 5, 2) := by decide +kernel
theorem dL_law_319 : decode cL_law 319 = .ok (.if_icmp .eq 5, 3) := by decide +kernel
theorem dL_law_322 : decode cL_law 322 = .ok (.iconst 0, 1) := by decide +kernel
theorem dL_law_323 : decode cL_law 323 = .ok (.ireturn, 1) := by decide +kernel
theorem dL_law_324 : decode cL_law 324 = .ok (.iload 5, 2) := by decide +kernel
theorem dL_law_326 : decode cL_law 326 = .ok (.ifCond .ne 15, 3) := by decide +kernel
theorem dL_law_329 : decode cL_law 329 = .ok (.aload_n 3, 1) := by decide +kernel
theorem dL_law_330 : decode cL_law 330 = .ok (.iconst 0, 1) := by decide +kernel
theorem dL_law_331 : decode cL_law 331 = .ok (.laload, 1) := by decide +kernel
theorem dL_law_332 : decode cL_law 332 = .ok (.iload 6, 2) := by decide +kernel
theorem dL_law_334 : decode cL_law 334 = .ok (.i2l, 1) := by decide +kernel
theorem dL_law_335 : decode cL_law 335 = .ok (.lcmp, 1) := by decide +kernel
theorem dL_law_336 : decode cL_law 336 = .ok (.ifCond .eq 5, 3) := by decide +kernel
theorem dL_law_339 : decode cL_law 339 = .ok (.iconst 0, 1) := by decide +kernel
theorem dL_law_340 : decode cL_law 340 = .ok (.ireturn, 1) := by decide +kernel
theorem dL_law_341 : decode cL_law 341 = .ok (.goto 1261, 3) := by decide +kernel
theorem dL_law_344 : decode cL_law 344 = .ok (.aload_n 1, 1) := by decide +kernel
theorem dL_law_345 : decode cL_law 345 = .ok (.aload_n 0, 1) := by decide +kernel
theorem dL_law_346 : decode cL_law 346 = .ok (.iload 4, 2) := by decide +kernel
theorem dL_law_348 : decode cL_law 348 = .ok (.iconst 1, 1) := by decide +kernel
theorem dL_law_349 : decode cL_law 349 = .ok (.iadd, 1) := by decide +kernel
theorem dL_law_350 : decode cL_law 350 = .ok (.iaload, 1) := by decide +kernel
theorem dL_law_351 : decode cL_law 351 = .ok (.aload_n 0, 1) := by decide +kernel
theorem dL_law_352 : decode cL_law 352 = .ok (.iload 4, 2) := by decide +kernel
theorem dL_law_354 : decode cL_law 354 = .ok (.iconst 2, 1) := by decide +kernel
theorem dL_law_355 : decode cL_law 355 = .ok (.iadd, 1) := by decide +kernel
theorem dL_law_356 : decode cL_law 356 = .ok (.iaload, 1) := by decide +kernel
theorem dL_law_357 : decode cL_law 357 = .ok (.aload_n 3, 1) := by decide +kernel
theorem dL_law_358 : decode cL_law 358 = .ok (.invokestatic 106, 3) := by decide +kernel
theorem dL_law_361 : decode cL_law 361 = .ok (.istore 5, 2) := by decide +kernel
theorem dL_law_363 : decode cL_law 363 = .ok (.aload_n 2, 1) := by decide +kernel
theorem dL_law_364 : decode cL_law 364 = .ok (.aload_n 0, 1) := by decide +kernel
theorem dL_law_365 : decode cL_law 365 = .ok (.iload 4, 2) := by decide +kernel
theorem dL_law_367 : decode cL_law 367 = .ok (.iconst 1, 1) := by decide +kernel
theorem dL_law_368 : decode cL_law 368 = .ok (.iadd, 1) := by decide +kernel
theorem dL_law_369 : decode cL_law 369 = .ok (.iaload, 1) := by decide +kernel
theorem dL_law_370 : decode cL_law 370 = .ok (.aload_n 0, 1) := by decide +kernel
theorem dL_law_371 : decode cL_law 371 = .ok (.iload 4, 2) := by decide +kernel
theorem dL_law_373 : decode cL_law 373 = .ok (.iconst 2, 1) := by decide +kernel
theorem dL_law_374 : decode cL_law 374 = .ok (.iadd, 1) := by decide +kernel
theorem dL_law_375 : decode cL_law 375 = .ok (.iaload, 1) := by decide +kernel
theorem dL_law_376 : decode cL_law 376 = .ok (.invokevirtual 108, 3) := by decide +kernel
theorem dL_law_379 : decode cL_law 379 = .ok (.istore 6, 2) := by decide +kernel
theorem dL_law_381 : decode cL_law 381 = .ok (.aload_n 2, 1) := by decide +kernel
theorem dL_law_382 : decode cL_law 382 = .ok (.invokevirtual 96, 3) := by decide +kernel
theorem dL_law_385 : decode cL_law 385 = .ok (.iload 5, 2) := by decide +kernel
theorem dL_law_387 : decode cL_law 387 = .ok (.if_icmp .eq 5, 3) := by decide +kernel
theorem dL_law_390 : decode cL_law 390 = .ok (.iconst 0, 1) := by decide +kernel
theorem dL_law_391 : decode cL_law 391 = .ok (.ireturn, 1) := by decide +kernel
theorem dL_law_392 : decode cL_law 392 = .ok (.iload 5, 2) := by decide +kernel
theorem dL_law_394 : decode cL_law 394 = .ok (.ifCond .ne 15, 3) := by decide +kernel
theorem dL_law_397 : decode cL_law 397 = .ok (.aload_n 3, 1) := by decide +kernel
theorem dL_law_398 : decode cL_law 398 = .ok (.iconst 0, 1) := by decide +kernel
theorem dL_law_399 : decode cL_law 399 = .ok (.laload, 1) := by decide +kernel
theorem dL_law_400 : decode cL_law 400 = .ok (.iload 6, 2) := by decide +kernel
theorem dL_law_402 : decode cL_law 402 = .ok (.i2l, 1) := by decide +kernel
theorem dL_law_403 : decode cL_law 403 = .ok (.lcmp, 1) := by decide +kernel
theorem dL_law_404 : decode cL_law 404 = .ok (.ifCond .eq 5, 3) := by decide +kernel
theorem dL_law_407 : decode cL_law 407 = .ok (.iconst 0, 1) := by decide +kernel
theorem dL_law_408 : decode cL_law 408 = .ok (.ireturn, 1) := by decide +kernel
theorem dL_law_409 : decode cL_law 409 = .ok (.goto 1193, 3) := by decide +kernel
theorem dL_law_412 : decode cL_law 412 = .ok (.aload_n 1, 1) := by decide +kernel
theorem dL_law_413 : decode cL_law 413 = .ok (.aload_n 0, 1) := by decide +kernel
theorem dL_law_414 : decode cL_law 414 = .ok (.iload 4, 2) := by decide +kernel
theorem dL_law_416 : decode cL_law 416 = .ok (.iconst 1, 1) := by decide +kernel
theorem dL_law_417 : decode cL_law 417 = .ok (.iadd, 1) := by decide +kernel
theorem dL_law_418 : decode cL_law 418 = .ok (.iaload, 1) := by decide +kernel
theorem dL_law_419 : decode cL_law 419 = .ok (.aload_n 0, 1) := by decide +kernel
theorem dL_law_420 : decode cL_law 420 = .ok (.iload 4, 2) := by decide +kernel
theorem dL_law_422 : decode cL_law 422 = .ok (.iconst 2, 1) := by decide +kernel
theorem dL_law_423 : decode cL_law 423 = .ok (.iadd, 1) := by decide +kernel
theorem dL_law_424 : decode cL_law 424 = .ok (.iaload, 1) := by decide +kernel
theorem dL_law_425 : decode cL_law 425 = .ok (.aload_n 3, 1) := by decide +kernel
theorem dL_law_426 : decode cL_law 426 = .ok (.invokestatic 109, 3) := by decide +kernel
theorem dL_law_429 : decode cL_law 429 = .ok (.istore 5, 2) := by decide +kernel
theorem dL_law_431 : decode cL_law 431 = .ok (.aload_n 2, 1) := by decide +kernel
theorem dL_law_432 : decode cL_law 432 = .ok (.aload_n 0, 1) := by decide +kernel
theorem dL_law_433 : decode cL_law 433 = .ok (.iload 4, 2) := by decide +kernel
theorem dL_law_435 : decode cL_law 435 = .ok (.iconst 1, 1) := by decide +kernel
theorem dL_law_436 : decode cL_law 436 = .ok (.iadd, 1) := by decide +kernel
theorem dL_law_437 : decode cL_law 437 = .ok (.iaload, 1) := by decide +kernel
theorem dL_law_438 : decode cL_law 438 = .ok (.aload_n 0, 1) := by decide +kernel
theorem dL_law_439 : decode cL_law 439 = .ok (.iload 4, 2) := by decide +kernel
theorem dL_law_441 : decode cL_law 441 = .ok (.iconst 2, 1) := by decide +kernel
theorem dL_law_442 : decode cL_law 442 = .ok (.iadd, 1) := by decide +kernel
theorem dL_law_443 : decode cL_law 443 = .ok (.iaload, 1) := by decide +kernel
theorem dL_law_444 : decode cL_law 444 = .ok (.invokevirtual 111, 3) := by decide +kernel
theorem dL_law_447 : decode cL_law 447 = .ok (.istore 6, 2) := by decide +kernel
theorem dL_law_449 : decode cL_law 449 = .ok (.aload_n 2, 1) := by decide +kernel
theorem dL_law_450 : decode cL_law 450 = .ok (.invokevirtual 96, 3) := by decide +kernel
theorem dL_law_453 : decode cL_law 453 = .ok (.iload 5, 2) := by decide +kernel
theorem dL_law_455 : decode cL_law 455 = .ok (.if_icmp .eq 5, 3) := by decide +kernel
theorem dL_law_458 : decode cL_law 458 = .ok (.iconst 0, 1) := by decide +kernel
theorem dL_law_459 : decode cL_law 459 = .ok (.ireturn, 1) := by decide +kernel
theorem dL_law_460 : decode cL_law 460 = .ok (.iload 5, 2) := by decide +kernel
theorem dL_law_462 : decode cL_law 462 = .ok (.ifCond .ne 15, 3) := by decide +kernel
theorem dL_law_465 : decode cL_law 465 = .ok (.aload_n 3, 1) := by decide +kernel
theorem dL_law_466 : decode cL_law 466 = .ok (.iconst 0, 1) := by decide +kernel
theorem dL_law_467 : decode cL_law 467 = .ok (.laload, 1) := by decide +kernel
theorem dL_law_468 : decode cL_law 468 = .ok (.iload 6, 2) := by decide +kernel
theorem dL_law_470 : decode cL_law 470 = .ok (.i2l, 1) := by decide +kernel
theorem dL_law_471 : decode cL_law 471 = .ok (.lcmp, 1) := by decide +kernel
theorem dL_law_472 : decode cL_law 472 = .ok (.ifCond .eq 5, 3) := by decide +kernel
theorem dL_law_475 : decode cL_law 475 = .ok (.iconst 0, 1) := by decide +kernel
theorem dL_law_476 : decode cL_law 476 = .ok (.ireturn, 1) := by decide +kernel
theorem dL_law_477 : decode cL_law 477 = .ok (.goto 1125, 3) := by decide +kernel
theorem dL_law_480 : decode cL_law 480 = .ok (.aload_n 1, 1) := by decide +kernel
theorem dL_law_481 : decode cL_law 481 = .ok (.aload_n 0, 1) := by decide +kernel
theorem dL_law_482 : decode cL_law 482 = .ok (.iload 4, 2) := by decide +kernel
theorem dL_law_484 : decode cL_law 484 = .ok (.iconst 1, 1) := by decide +kernel
theorem dL_law_485 : decode cL_law 485 = .ok (.iadd, 1) := by decide +kernel
theorem dL_law_486 : decode cL_law 486 = .ok (.iaload, 1) := by decide +kernel
theorem dL_law_487 : decode cL_law 487 = .ok (.aload_n 0, 1) := by decide +kernel
theorem dL_law_488 : decode cL_law 488 = .ok (.iload 4, 2) := by decide +kernel
theorem dL_law_490 : decode cL_law 490 = .ok (.iconst 2, 1) := by decide +kernel
theorem dL_law_491 : decode cL_law 491 = .ok (.iadd, 1) := by decide +kernel
theorem dL_law_492 : decode cL_law 492 = .ok (.iaload, 1) := by decide +kernel
theorem dL_law_493 : decode cL_law 493 = .ok (.aload_n 3, 1) := by decide +kernel
theorem dL_law_494 : decode cL_law 494 = .ok (.invokestatic 112, 3) := by decide +kernel
theorem dL_law_497 : decode cL_law 497 = .ok (.istore 5, 2) := by decide +kernel
theorem dL_law_499 : decode cL_law 499 = .ok (.aload_n 2, 1) := by decide +kernel
theorem dL_law_500 : decode cL_law 500 = .ok (.aload_n 0, 1) := by decide +kernel
theorem dL_law_501 : decode cL_law 501 = .ok (.iload 4, 2) := by decide +kernel
theorem dL_law_503 : decode cL_law 503 = .ok (.iconst 1, 1) := by decide +kernel
theorem dL_law_504 : decode cL_law 504 = .ok (.iadd, 1) := by decide +kernel
theorem dL_law_505 : decode cL_law 505 = .ok (.iaload, 1) := by decide +kernel
theorem dL_law_506 : decode cL_law 506 = .ok (.aload_n 0, 1) := by decide +kernel
theorem dL_law_507 : decode cL_law 507 = .ok (.iload 4, 2) := by decide +kernel
theorem dL_law_509 : decode cL_law 509 = .ok (.iconst 2, 1) := by decide +kernel
theorem dL_law_510 : decode cL_law 510 = .ok (.iadd, 1) := by decide +kernel
theorem dL_law_511 : decode cL_law 511 = .ok (.iaload, 1) := by decide +kernel
theorem dL_law_512 : decode cL_law 512 = .ok (.invokevirtual 114, 3) := by decide +kernel
theorem dL_law_515 : decode cL_law 515 = .ok (.istore 6, 2) := by decide +kernel
theorem dL_law_517 : decode cL_law 517 = .ok (.aload_n 2, 1) := by decide +kernel
theorem dL_law_518 : decode cL_law 518 = .ok (.invokevirtual 96, 3) := by decide +kernel
theorem dL_law_521 : decode cL_law 521 = .ok (.iload 5, 2) := by decide +kernel
theorem dL_law_523 : decode cL_law 523 = .ok (.if_icmp .eq 5, 3) := by decide +kernel
theorem dL_law_526 : decode cL_law 526 = .ok (.iconst 0, 1) := by decide +kernel
theorem dL_law_527 : decode cL_law 527 = .ok (.ireturn, 1) := by decide +kernel
theorem dL_law_528 : decode cL_law 528 = .ok (.iload 5, 2) := by decide +kernel
theorem dL_law_530 : decode cL_law 530 = .ok (.ifCond .ne 15, 3) := by decide +kernel
theorem dL_law_533 : decode cL_law 533 = .ok (.aload_n 3, 1) := by decide +kernel
theorem dL_law_534 : decode cL_law 534 = .ok (.iconst 0, 1) := by decide +kernel
theorem dL_law_535 : decode cL_law 535 = .ok (.laload, 1) := by decide +kernel
theorem dL_law_536 : decode cL_law 536 = .ok (.iload 6, 2) := by decide +kernel
theorem dL_law_538 : decode cL_law 538 = .ok (.i2l, 1) := by decide +kernel
theorem dL_law_539 : decode cL_law 539 = .ok (.lcmp, 1) := by decide +kernel
theorem dL_law_540 : decode cL_law 540 = .ok (.ifCond .eq 5, 3) := by decide +kernel
theorem dL_law_543 : decode cL_law 543 = .ok (.iconst 0, 1) := by decide +kernel
theorem dL_law_544 : decode cL_law 544 = .ok (.ireturn, 1) := by decide +kernel
theorem dL_law_545 : decode cL_law 545 = .ok (.goto 1057, 3) := by decide +kernel
theorem dL_law_548 : decode cL_law 548 = .ok (.aload_n 1, 1) := by decide +kernel
theorem dL_law_549 : decode cL_law 549 = .ok (.aload_n 0, 1) := by decide +kernel
theorem dL_law_550 : decode cL_law 550 = .ok (.iload 4, 2) := by decide +kernel
theorem dL_law_552 : decode cL_law 552 = .ok (.iconst 1, 1) := by decide +kernel
theorem dL_law_553 : decode cL_law 553 = .ok (.iadd, 1) := by decide +kernel
theorem dL_law_554 : decode cL_law 554 = .ok (.iaload, 1) := by decide +kernel
theorem dL_law_555 : decode cL_law 555 = .ok (.aload_n 3, 1) := by decide +kernel
theorem dL_law_556 : decode cL_law 556 = .ok (.invokestatic 115, 3) := by decide +kernel
theorem dL_law_559 : decode cL_law 559 = .ok (.istore 5, 2) := by decide +kernel
theorem dL_law_561 : decode cL_law 561 = .ok (.aload_n 2, 1) := by decide +kernel
theorem dL_law_562 : decode cL_law 562 = .ok (.aload_n 0, 1) := by decide +kernel
theorem dL_law_563 : decode cL_law 563 = .ok (.iload 4, 2) := by decide +kernel
theorem dL_law_565 : decode cL_law 565 = .ok (.iconst 1, 1) := by decide +kernel
theorem dL_law_566 : decode cL_law 566 = .ok (.iadd, 1) := by decide +kernel
theorem dL_law_567 : decode cL_law 567 = .ok (.iaload, 1) := by decide +kernel
theorem dL_law_568 : decode cL_law 568 = .ok (.invokevirtual 117, 3) := by decide +kernel
theorem dL_law_571 : decode cL_law 571 = .ok (.istore 6, 2) := by decide +kernel
theorem dL_law_573 : decode cL_law 573 = .ok (.aload_n 2, 1) := by decide +kernel
theorem dL_law_574 : decode cL_law 574 = .ok (.invokevirtual 96, 3) := by decide +kernel
theorem dL_law_577 : decode cL_law 577 = .ok (.iload 5, 2) := by decide +kernel
theorem dL_law_579 : decode cL_law 579 = .ok (.if_icmp .eq 5, 3) := by decide +kernel
theorem dL_law_582 : decode cL_law 582 = .ok (.iconst 0, 1) := by decide +kernel
theorem dL_law_583 : decode cL_law 583 = .ok (.ireturn, 1) := by decide +kernel
theorem dL_law_584 : decode cL_law 584 = .ok (.iload 5, 2) := by decide +kernel
theorem dL_law_586 : decode cL_law 586 = .ok (.ifCond .ne 15, 3) := by decide +kernel
theorem dL_law_589 : decode cL_law 589 = .ok (.aload_n 3, 1) := by decide +kernel
theorem dL_law_590 : decode cL_law 590 = .ok (.iconst 0, 1) := by decide +kernel
theorem dL_law_591 : decode cL_law 591 = .ok (.laload, 1) := by decide +kernel
theorem dL_law_592 : decode cL_law 592 = .ok (.iload 6, 2) := by decide +kernel
theorem dL_law_594 : decode cL_law 594 = .ok (.i2l, 1) := by decide +kernel
theorem dL_law_595 : decode cL_law 595 = .ok (.lcmp, 1) := by decide +kernel
theorem dL_law_596 : decode cL_law 596 = .ok (.ifCond .eq 5, 3) := by decide +kernel
theorem dL_law_599 : decode cL_law 599 = .ok (.iconst 0, 1) := by decide +kernel
theorem dL_law_600 : decode cL_law 600 = .ok (.ireturn, 1) := by decide +kernel
theorem dL_law_601 : decode cL_law 601 = .ok (.goto 1001, 3) := by decide +kernel
theorem dL_law_604 : decode cL_law 604 = .ok (.aload_n 1, 1) := by decide +kernel
theorem dL_law_605 : decode cL_law 605 = .ok (.invokevirtual 118, 3) := by decide +kernel
theorem dL_law_608 : decode cL_law 608 = .ok (.aload_n 2, 1) := by decide +kernel
theorem dL_law_609 : decode cL_law 609 = .ok (.invokevirtual 121, 3) := by decide +kernel
theorem dL_law_612 : decode cL_law 612 = .ok (.if_icmp .eq 990, 3) := by decide +kernel
theorem dL_law_615 : decode cL_law 615 = .ok (.iconst 0, 1) := by decide +kernel
theorem dL_law_616 : decode cL_law 616 = .ok (.ireturn, 1) := by decide +kernel
theorem dL_law_617 : decode cL_law 617 = .ok (.aload_n 1, 1) := by decide +kernel
theorem dL_law_618 : decode cL_law 618 = .ok (.invokevirtual 122, 3) := by decide +kernel
theorem dL_law_621 : decode cL_law 621 = .ok (.aload_n 2, 1) := by decide +kernel
theorem dL_law_622 : decode cL_law 622 = .ok (.invokevirtual 125, 3) := by decide +kernel
theorem dL_law_625 : decode cL_law 625 = .ok (.if_icmp .eq 977, 3) := by decide +kernel
theorem dL_law_628 : decode cL_law 628 = .ok (.iconst 0, 1) := by decide +kernel
theorem dL_law_629 : decode cL_law 629 = .ok (.ireturn, 1) := by decide +kernel
theorem dL_law_630 : decode cL_law 630 = .ok (.aload_n 1, 1) := by decide +kernel
theorem dL_law_631 : decode cL_law 631 = .ok (.aload_n 3, 1) := by decide +kernel
theorem dL_law_632 : decode cL_law 632 = .ok (.invokestatic 126, 3) := by decide +kernel
theorem dL_law_635 : decode cL_law 635 = .ok (.istore 5, 2) := by decide +kernel
theorem dL_law_637 : decode cL_law 637 = .ok (.aload_n 2, 1) := by decide +kernel
theorem dL_law_638 : decode cL_law 638 = .ok (.invokevirtual 129, 3) := by decide +kernel
theorem dL_law_641 : decode cL_law 641 = .ok (.istore 6, 2) := by decide +kernel
theorem dL_law_643 : decode cL_law 643 = .ok (.aload_n 2, 1) := by decide +kernel
theorem dL_law_644 : decode cL_law 644 = .ok (.invokevirtual 96, 3) := by decide +kernel
theorem dL_law_647 : decode cL_law 647 = .ok (.iload 5, 2) := by decide +kernel
theorem dL_law_649 : decode cL_law 649 = .ok (.if_icmp .eq 5, 3) := by decide +kernel
theorem dL_law_652 : decode cL_law 652 = .ok (.iconst 0, 1) := by decide +kernel
theorem dL_law_653 : decode cL_law 653 = .ok (.ireturn, 1) := by decide +kernel
theorem dL_law_654 : decode cL_law 654 = .ok (.iload 5, 2) := by decide +kernel
theorem dL_law_656 : decode cL_law 656 = .ok (.ifCond .ne 15, 3) := by decide +kernel
theorem dL_law_659 : decode cL_law 659 = .ok (.aload_n 3, 1) := by decide +kernel
theorem dL_law_660 : decode cL_law 660 = .ok (.iconst 0, 1) := by decide +kernel
theorem dL_law_661 : decode cL_law 661 = .ok (.laload, 1) := by decide +kernel
theorem dL_law_662 : decode cL_law 662 = .ok (.iload 6, 2) := by decide +kernel
theorem dL_law_664 : decode cL_law 664 = .ok (.i2l, 1) := by decide +kernel
theorem dL_law_665 : decode cL_law 665 = .ok (.lcmp, 1) := by decide +kernel
theorem dL_law_666 : decode cL_law 666 = .ok (.ifCond .eq 5, 3) := by decide +kernel
theorem dL_law_669 : decode cL_law 669 = .ok (.iconst 0, 1) := by decide +kernel
theorem dL_law_670 : decode cL_law 670 = .ok (.ireturn, 1) := by decide +kernel
theorem dL_law_671 : decode cL_law 671 = .ok (.goto 931, 3) := by decide +kernel
theorem dL_law_674 : decode cL_law 674 = .ok (.aload_n 1, 1) := by decide +kernel
theorem dL_law_675 : decode cL_law 675 = .ok (.aload_n 3, 1) := by decide +kernel
theorem dL_law_676 : decode cL_law 676 = .ok (.invokestatic 130, 3) := by decide +kernel
theorem dL_law_679 : decode cL_law 679 = .ok (.istore 5, 2) := by decide +kernel
theorem dL_law_681 : decode cL_law 681 = .ok (.aload_n 2, 1) := by decide +kernel
theorem dL_law_682 : decode cL_law 682 = .ok (.invokevirtual 132, 3) := by decide +kernel
theorem dL_law_685 : decode cL_law 685 = .ok (.istore 6, 2) := by decide +kernel
theorem dL_law_687 : decode cL_law 687 = .ok (.aload_n 2, 1) := by decide +kernel
theorem dL_law_688 : decode cL_law 688 = .ok (.invokevirtual 96, 3) := by decide +kernel
theorem dL_law_691 : decode cL_law 691 = .ok (.iload 5, 2) := by decide +kernel
theorem dL_law_693 : decode cL_law 693 = .ok (.if_icmp .eq 5, 3) := by decide +kernel
theorem dL_law_696 : decode cL_law 696 = .ok (.iconst 0, 1) := by decide +kernel
theorem dL_law_697 : decode cL_law 697 = .ok (.ireturn, 1) := by decide +kernel
theorem dL_law_698 : decode cL_law 698 = .ok (.iload 5, 2) := by decide +kernel
theorem dL_law_700 : decode cL_law 700 = .ok (.ifCond .ne 15, 3) := by decide +kernel
theorem dL_law_703 : decode cL_law 703 = .ok (.aload_n 3, 1) := by decide +kernel
theorem dL_law_704 : decode cL_law 704 = .ok (.iconst 0, 1) := by decide +kernel
theorem dL_law_705 : decode cL_law 705 = .ok (.laload, 1) := by decide +kernel
theorem dL_law_706 : decode cL_law 706 = .ok (.iload 6, 2) := by decide +kernel
theorem dL_law_708 : decode cL_law 708 = .ok (.i2l, 1) := by decide +kernel
theorem dL_law_709 : decode cL_law 709 = .ok (.lcmp, 1) := by decide +kernel
theorem dL_law_710 : decode cL_law 710 = .ok (.ifCond .eq 5, 3) := by decide +kernel
theorem dL_law_713 : decode cL_law 713 = .ok (.iconst 0, 1) := by decide +kernel
theorem dL_law_714 : decode cL_law 714 = .ok (.ireturn, 1) := by decide +kernel
theorem dL_law_715 : decode cL_law 715 = .ok (.goto 887, 3) := by decide +kernel
theorem dL_law_718 : decode cL_law 718 = .ok (.aload_n 1, 1) := by decide +kernel
theorem dL_law_719 : decode cL_law 719 = .ok (.aload_n 0, 1) := by decide +kernel
theorem dL_law_720 : decode cL_law 720 = .ok (.iload 4, 2) := by decide +kernel
theorem dL_law_722 : decode cL_law 722 = .ok (.iconst 1, 1) := by decide +kernel
theorem dL_law_723 : decode cL_law 723 = .ok (.iadd, 1) := by decide +kernel
theorem dL_law_724 : decode cL_law 724 = .ok (.iaload, 1) := by decide +kernel
theorem dL_law_725 : decode cL_law 725 = .ok (.aload_n 3, 1) := by decide +kernel
theorem dL_law_726 : decode cL_law 726 = .ok (.invokestatic 133, 3) := by decide +kernel
theorem dL_law_729 : decode cL_law 729 = .ok (.istore 5, 2) := by decide +kernel
theorem dL_law_731 : decode cL_law 731 = .ok (.aload_n 2, 1) := by decide +kernel
theorem dL_law_732 : decode cL_law 732 = .ok (.aload_n 0, 1) := by decide +kernel
theorem dL_law_733 : decode cL_law 733 = .ok (.iload 4, 2) := by decide +kernel
theorem dL_law_735 : decode cL_law 735 = .ok (.iconst 1, 1) := by decide +kernel
theorem dL_law_736 : decode cL_law 736 = .ok (.iadd, 1) := by decide +kernel
theorem dL_law_737 : decode cL_law 737 = .ok (.iaload, 1) := by decide +kernel
theorem dL_law_738 : decode cL_law 738 = .ok (.invokevirtual 135, 3) := by decide +kernel
theorem dL_law_741 : decode cL_law 741 = .ok (.istore 6, 2) := by decide +kernel
theorem dL_law_743 : decode cL_law 743 = .ok (.aload_n 2, 1) := by decide +kernel
theorem dL_law_744 : decode cL_law 744 = .ok (.invokevirtual 96, 3) := by decide +kernel
theorem dL_law_747 : decode cL_law 747 = .ok (.iload 5, 2) := by decide +kernel
theorem dL_law_749 : decode cL_law 749 = .ok (.if_icmp .eq 5, 3) := by decide +kernel
theorem dL_law_752 : decode cL_law 752 = .ok (.iconst 0, 1) := by decide +kernel
theorem dL_law_753 : decode cL_law 753 = .ok (.ireturn, 1) := by decide +kernel
theorem dL_law_754 : decode cL_law 754 = .ok (.iload 5, 2) := by decide +kernel
theorem dL_law_756 : decode cL_law 756 = .ok (.ifCond .ne 15, 3) := by decide +kernel
theorem dL_law_759 : decode cL_law 759 = .ok (.aload_n 3, 1) := by decide +kernel
theorem dL_law_760 : decode cL_law 760 = .ok (.iconst 0, 1) := by decide +kernel
theorem dL_law_761 : decode cL_law 761 = .ok (.laload, 1) := by decide +kernel
theorem dL_law_762 : decode cL_law 762 = .ok (.iload 6, 2) := by decide +kernel
theorem dL_law_764 : decode cL_law 764 = .ok (.i2l, 1) := by decide +kernel
theorem dL_law_765 : decode cL_law 765 = .ok (.lcmp, 1) := by decide +kernel
theorem dL_law_766 : decode cL_law 766 = .ok (.ifCond .eq 5, 3) := by decide +kernel
theorem dL_law_769 : decode cL_law 769 = .ok (.iconst 0, 1) := by decide +kernel
theorem dL_law_770 : decode cL_law 770 = .ok (.ireturn, 1) := by decide +kernel
theorem dL_law_771 : decode cL_law 771 = .ok (.goto 831, 3) := by decide +kernel
theorem dL_law_774 : decode cL_law 774 = .ok (.aload_n 1, 1) := by decide +kernel
theorem dL_law_775 : decode cL_law 775 = .ok (.aload_n 0, 1) := by decide +kernel
theorem dL_law_776 : decode cL_law 776 = .ok (.iload 4, 2) := by decide +kernel
theorem dL_law_778 : decode cL_law 778 = .ok (.iconst 1, 1) := by decide +kernel
theorem dL_law_779 : decode cL_law 779 = .ok (.iadd, 1) := by decide +kernel
theorem dL_law_780 : decode cL_law 780 = .ok (.iaload, 1) := by decide +kernel
theorem dL_law_781 : decode cL_law 781 = .ok (.aload_n 3, 1) := by decide +kernel
theorem dL_law_782 : decode cL_law 782 = .ok (.invokestatic 136, 3) := by decide +kernel
theorem dL_law_785 : decode cL_law 785 = .ok (.istore 5, 2) := by decide +kernel
theorem dL_law_787 : decode cL_law 787 = .ok (.aload_n 2, 1) := by decide +kernel
theorem dL_law_788 : decode cL_law 788 = .ok (.aload_n 0, 1) := by decide +kernel
theorem dL_law_789 : decode cL_law 789 = .ok (.iload 4, 2) := by decide +kernel
theorem dL_law_791 : decode cL_law 791 = .ok (.iconst 1, 1) := by decide +kernel
theorem dL_law_792 : decode cL_law 792 = .ok (.iadd, 1) := by decide +kernel
theorem dL_law_793 : decode cL_law 793 = .ok (.iaload, 1) := by decide +kernel
theorem dL_law_794 : decode cL_law 794 = .ok (.invokevirtual 138, 3) := by decide +kernel
theorem dL_law_797 : decode cL_law 797 = .ok (.istore 6, 2) := by decide +kernel
theorem dL_law_799 : decode cL_law 799 = .ok (.aload_n 2, 1) := by decide +kernel
theorem dL_law_800 : decode cL_law 800 = .ok (.invokevirtual 96, 3) := by decide +kernel
theorem dL_law_803 : decode cL_law 803 = .ok (.iload 5, 2) := by decide +kernel
theorem dL_law_805 : decode cL_law 805 = .ok (.if_icmp .eq 5, 3) := by decide +kernel
theorem dL_law_808 : decode cL_law 808 = .ok (.iconst 0, 1) := by decide +kernel
theorem dL_law_809 : decode cL_law 809 = .ok (.ireturn, 1) := by decide +kernel
theorem dL_law_810 : decode cL_law 810 = .ok (.iload 5, 2) := by decide +kernel
theorem dL_law_812 : decode cL_law 812 = .ok (.ifCond .ne 15, 3) := by decide +kernel
theorem dL_law_815 : decode cL_law 815 = .ok (.aload_n 3, 1) := by decide +kernel
theorem dL_law_816 : decode cL_law 816 = .ok (.iconst 0, 1) := by decide +kernel
theorem dL_law_817 : decode cL_law 817 = .ok (.laload, 1) := by decide +kernel
theorem dL_law_818 : decode cL_law 818 = .ok (.iload 6, 2) := by decide +kernel
theorem dL_law_820 : decode cL_law 820 = .ok (.i2l, 1) := by decide +kernel
theorem dL_law_821 : decode cL_law 821 = .ok (.lcmp, 1) := by decide +kernel
theorem dL_law_822 : decode cL_law 822 = .ok (.ifCond .eq 5, 3) := by decide +kernel
theorem dL_law_825 : decode cL_law 825 = .ok (.iconst 0, 1) := by decide +kernel
theorem dL_law_826 : decode cL_law 826 = .ok (.ireturn, 1) := by decide +kernel
theorem dL_law_827 : decode cL_law 827 = .ok (.goto 775, 3) := by decide +kernel
theorem dL_law_830 : decode cL_law 830 = .ok (.aload_n 1, 1) := by decide +kernel
theorem dL_law_831 : decode cL_law 831 = .ok (.aload_n 0, 1) := by decide +kernel
theorem dL_law_832 : decode cL_law 832 = .ok (.iload 4, 2) := by decide +kernel
theorem dL_law_834 : decode cL_law 834 = .ok (.iconst 1, 1) := by decide +kernel
theorem dL_law_835 : decode cL_law 835 = .ok (.iadd, 1) := by decide +kernel
theorem dL_law_836 : decode cL_law 836 = .ok (.iaload, 1) := by decide +kernel
theorem dL_law_837 : decode cL_law 837 = .ok (.aload_n 3, 1) := by decide +kernel
theorem dL_law_838 : decode cL_law 838 = .ok (.invokestatic 139, 3) := by decide +kernel
theorem dL_law_841 : decode cL_law 841 = .ok (.istore 5, 2) := by decide +kernel
theorem dL_law_843 : decode cL_law 843 = .ok (.aload_n 2, 1) := by decide +kernel
theorem dL_law_844 : decode cL_law 844 = .ok (.aload_n 0, 1) := by decide +kernel
theorem dL_law_845 : decode cL_law 845 = .ok (.iload 4, 2) := by decide +kernel
theorem dL_law_847 : decode cL_law 847 = .ok (.iconst 1, 1) := by decide +kernel
theorem dL_law_848 : decode cL_law 848 = .ok (.iadd, 1) := by decide +kernel
theorem dL_law_849 : decode cL_law 849 = .ok (.iaload, 1) := by decide +kernel
theorem dL_law_850 : decode cL_law 850 = .ok (.invokevirtual 141, 3) := by decide +kernel
theorem dL_law_853 : decode cL_law 853 = .ok (.istore 6, 2) := by decide +kernel
theorem dL_law_855 : decode cL_law 855 = .ok (.aload_n 2, 1) := by decide +kernel
theorem dL_law_856 : decode cL_law 856 = .ok (.invokevirtual 96, 3) := by decide +kernel
theorem dL_law_859 : decode cL_law 859 = .ok (.iload 5, 2) := by decide +kernel
theorem dL_law_861 : decode cL_law 861 = .ok (.if_icmp .eq 5, 3) := by decide +kernel
theorem dL_law_864 : decode cL_law 864 = .ok (.iconst 0, 1) := by decide +kernel
theorem dL_law_865 : decode cL_law 865 = .ok (.ireturn, 1) := by decide +kernel
theorem dL_law_866 : decode cL_law 866 = .ok (.iload 5, 2) := by decide +kernel
theorem dL_law_868 : decode cL_law 868 = .ok (.ifCond .ne 15, 3) := by decide +kernel
theorem dL_law_871 : decode cL_law 871 = .ok (.aload_n 3, 1) := by decide +kernel
theorem dL_law_872 : decode cL_law 872 = .ok (.iconst 0, 1) := by decide +kernel
theorem dL_law_873 : decode cL_law 873 = .ok (.laload, 1) := by decide +kernel
theorem dL_law_874 : decode cL_law 874 = .ok (.iload 6, 2) := by decide +kernel
theorem dL_law_876 : decode cL_law 876 = .ok (.i2l, 1) := by decide +kernel
theorem dL_law_877 : decode cL_law 877 = .ok (.lcmp, 1) := by decide +kernel
theorem dL_law_878 : decode cL_law 878 = .ok (.ifCond .eq 5, 3) := by decide +kernel
theorem dL_law_881 : decode cL_law 881 = .ok (.iconst 0, 1) := by decide +kernel
theorem dL_law_882 : decode cL_law 882 = .ok (.ireturn, 1) := by decide +kernel
theorem dL_law_883 : decode cL_law 883 = .ok (.goto 719, 3) := by decide +kernel
theorem dL_law_886 : decode cL_law 886 = .ok (.aload_n 1, 1) := by decide +kernel
theorem dL_law_887 : decode cL_law 887 = .ok (.aload_n 0, 1) := by decide +kernel
theorem dL_law_888 : decode cL_law 888 = .ok (.iload 4, 2) := by decide +kernel
theorem dL_law_890 : decode cL_law 890 = .ok (.iconst 1, 1) := by decide +kernel
theorem dL_law_891 : decode cL_law 891 = .ok (.iadd, 1) := by decide +kernel
theorem dL_law_892 : decode cL_law 892 = .ok (.iaload, 1) := by decide +kernel
theorem dL_law_893 : decode cL_law 893 = .ok (.aload_n 0, 1) := by decide +kernel
theorem dL_law_894 : decode cL_law 894 = .ok (.iload 4, 2) := by decide +kernel
theorem dL_law_896 : decode cL_law 896 = .ok (.iconst 2, 1) := by decide +kernel
theorem dL_law_897 : decode cL_law 897 = .ok (.iadd, 1) := by decide +kernel
theorem dL_law_898 : decode cL_law 898 = .ok (.iaload, 1) := by decide +kernel
theorem dL_law_899 : decode cL_law 899 = .ok (.aload_n 3, 1) := by decide +kernel
theorem dL_law_900 : decode cL_law 900 = .ok (.invokestatic 142, 3) := by decide +kernel
theorem dL_law_903 : decode cL_law 903 = .ok (.istore 5, 2) := by decide +kernel
theorem dL_law_905 : decode cL_law 905 = .ok (.aload_n 2, 1) := by decide +kernel
theorem dL_law_906 : decode cL_law 906 = .ok (.aload_n 0, 1) := by decide +kernel
theorem dL_law_907 : decode cL_law 907 = .ok (.iload 4, 2) := by decide +kernel
theorem dL_law_909 : decode cL_law 909 = .ok (.iconst 1, 1) := by decide +kernel
theorem dL_law_910 : decode cL_law 910 = .ok (.iadd, 1) := by decide +kernel
theorem dL_law_911 : decode cL_law 911 = .ok (.iaload, 1) := by decide +kernel
theorem dL_law_912 : decode cL_law 912 = .ok (.aload_n 0, 1) := by decide +kernel
theorem dL_law_913 : decode cL_law 913 = .ok (.iload 4, 2) := by decide +kernel
theorem dL_law_915 : decode cL_law 915 = .ok (.iconst 2, 1) := by decide +kernel
theorem dL_law_916 : decode cL_law 916 = .ok (.iadd, 1) := by decide +kernel
theorem dL_law_917 : decode cL_law 917 = .ok (.iaload, 1) := by decide +kernel
theorem dL_law_918 : decode cL_law 918 = .ok (.invokevirtual 144, 3) := by decide +kernel
theorem dL_law_921 : decode cL_law 921 = .ok (.istore 6, 2) := by decide +kernel
theorem dL_law_923 : decode cL_law 923 = .ok (.aload_n 2, 1) := by decide +kernel
theorem dL_law_924 : decode cL_law 924 = .ok (.invokevirtual 96, 3) := by decide +kernel
theorem dL_law_927 : decode cL_law 927 = .ok (.iload 5, 2) := by decide +kernel
theorem dL_law_929 : decode cL_law 929 = .ok (.if_icmp .eq 5, 3) := by decide +kernel
theorem dL_law_932 : decode cL_law 932 = .ok (.iconst 0, 1) := by decide +kernel
theorem dL_law_933 : decode cL_law 933 = .ok (.ireturn, 1) := by decide +kernel
theorem dL_law_934 : decode cL_law 934 = .ok (.iload 5, 2) := by decide +kernel
theorem dL_law_936 : decode cL_law 936 = .ok (.ifCond .ne 15, 3) := by decide +kernel
theorem dL_law_939 : decode cL_law 939 = .ok (.aload_n 3, 1) := by decide +kernel
theorem dL_law_940 : decode cL_law 940 = .ok (.iconst 0, 1) := by decide +kernel
theorem dL_law_941 : decode cL_law 941 = .ok (.laload, 1) := by decide +kernel
theorem dL_law_942 : decode cL_law 942 = .ok (.iload 6, 2) := by decide +kernel
theorem dL_law_944 : decode cL_law 944 = .ok (.i2l, 1) := by decide +kernel
theorem dL_law_945 : decode cL_law 945 = .ok (.lcmp, 1) := by decide +kernel
theorem dL_law_946 : decode cL_law 946 = .ok (.ifCond .eq 5, 3) := by decide +kernel
theorem dL_law_949 : decode cL_law 949 = .ok (.iconst 0, 1) := by decide +kernel
theorem dL_law_950 : decode cL_law 950 = .ok (.ireturn, 1) := by decide +kernel
theorem dL_law_951 : decode cL_law 951 = .ok (.goto 651, 3) := by decide +kernel
theorem dL_law_954 : decode cL_law 954 = .ok (.aload_n 1, 1) := by decide +kernel
theorem dL_law_955 : decode cL_law 955 = .ok (.aload_n 0, 1) := by decide +kernel
theorem dL_law_956 : decode cL_law 956 = .ok (.iload 4, 2) := by decide +kernel
theorem dL_law_958 : decode cL_law 958 = .ok (.iconst 1, 1) := by decide +kernel
theorem dL_law_959 : decode cL_law 959 = .ok (.iadd, 1) := by decide +kernel
theorem dL_law_960 : decode cL_law 960 = .ok (.iaload, 1) := by decide +kernel
theorem dL_law_961 : decode cL_law 961 = .ok (.aload_n 0, 1) := by decide +kernel
theorem dL_law_962 : decode cL_law 962 = .ok (.iload 4, 2) := by decide +kernel
theorem dL_law_964 : decode cL_law 964 = .ok (.iconst 2, 1) := by decide +kernel
theorem dL_law_965 : decode cL_law 965 = .ok (.iadd, 1) := by decide +kernel
theorem dL_law_966 : decode cL_law 966 = .ok (.iaload, 1) := by decide +kernel
theorem dL_law_967 : decode cL_law 967 = .ok (.aload_n 3, 1) := by decide +kernel
theorem dL_law_968 : decode cL_law 968 = .ok (.invokestatic 145, 3) := by decide +kernel
theorem dL_law_971 : decode cL_law 971 = .ok (.istore 5, 2) := by decide +kernel
theorem dL_law_973 : decode cL_law 973 = .ok (.aload_n 2, 1) := by decide +kernel
theorem dL_law_974 : decode cL_law 974 = .ok (.aload_n 0, 1) := by decide +kernel
theorem dL_law_975 : decode cL_law 975 = .ok (.iload 4, 2) := by decide +kernel
theorem dL_law_977 : decode cL_law 977 = .ok (.iconst 1, 1) := by decide +kernel
theorem dL_law_978 : decode cL_law 978 = .ok (.iadd, 1) := by decide +kernel
theorem dL_law_979 : decode cL_law 979 = .ok (.iaload, 1) := by decide +kernel
theorem dL_law_980 : decode cL_law 980 = .ok (.aload_n 0, 1) := by decide +kernel
theorem dL_law_981 : decode cL_law 981 = .ok (.iload 4, 2) := by decide +kernel
theorem dL_law_983 : decode cL_law 983 = .ok (.iconst 2, 1) := by decide +kernel
theorem dL_law_984 : decode cL_law 984 = .ok (.iadd, 1) := by decide +kernel
theorem dL_law_985 : decode cL_law 985 = .ok (.iaload, 1) := by decide +kernel
theorem dL_law_986 : decode cL_law 986 = .ok (.invokevirtual 147, 3) := by decide +kernel
theorem dL_law_989 : decode cL_law 989 = .ok (.istore 6, 2) := by decide +kernel
theorem dL_law_991 : decode cL_law 991 = .ok (.aload_n 2, 1) := by decide +kernel
theorem dL_law_992 : decode cL_law 992 = .ok (.invokevirtual 96, 3) := by decide +kernel
theorem dL_law_995 : decode cL_law 995 = .ok (.iload 5, 2) := by decide +kernel
theorem dL_law_997 : decode cL_law 997 = .ok (.if_icmp .eq 5, 3) := by decide +kernel
theorem dL_law_1000 : decode cL_law 1000 = .ok (.iconst 0, 1) := by decide +kernel
theorem dL_law_1001 : decode cL_law 1001 = .ok (.ireturn, 1) := by decide +kernel
theorem dL_law_1002 : decode cL_law 1002 = .ok (.iload 5, 2) := by decide +kernel
theorem dL_law_1004 : decode cL_law 1004 = .ok (.ifCond .ne 15, 3) := by decide +kernel
theorem dL_law_1007 : decode cL_law 1007 = .ok (.aload_n 3, 1) := by decide +kernel
theorem dL_law_1008 : decode cL_law 1008 = .ok (.iconst 0, 1) := by decide +kernel
theorem dL_law_1009 : decode cL_law 1009 = .ok (.laload, 1) := by decide +kernel
theorem dL_law_1010 : decode cL_law 1010 = .ok (.iload 6, 2) := by decide +kernel
theorem dL_law_1012 : decode cL_law 1012 = .ok (.i2l, 1) := by decide +kernel
theorem dL_law_1013 : decode cL_law 1013 = .ok (.lcmp, 1) := by decide +kernel
theorem dL_law_1014 : decode cL_law 1014 = .ok (.ifCond .eq 5, 3) := by decide +kernel
theorem dL_law_1017 : decode cL_law 1017 = .ok (.iconst 0, 1) := by decide +kernel
theorem dL_law_1018 : decode cL_law 1018 = .ok (.ireturn, 1) := by decide +kernel
theorem dL_law_1019 : decode cL_law 1019 = .ok (.goto 583, 3) := by decide +kernel
theorem dL_law_1022 : decode cL_law 1022 = .ok (.aload_n 1, 1) := by decide +kernel
theorem dL_law_1023 : decode cL_law 1023 = .ok (.aload_n 0, 1) := by decide +kernel
theorem dL_law_1024 : decode cL_law 1024 = .ok (.iload 4, 2) := by decide +kernel
theorem dL_law_1026 : decode cL_law 1026 = .ok (.iconst 1, 1) := by decide +kernel
theorem dL_law_1027 : decode cL_law 1027 = .ok (.iadd, 1) := by decide +kernel
theorem dL_law_1028 : decode cL_law 1028 = .ok (.iaload, 1) := by decide +kernel
theorem dL_law_1029 : decode cL_law 1029 = .ok (.aload_n 3, 1) := by decide +kernel
theorem dL_law_1030 : decode cL_law 1030 = .ok (.invokestatic 148, 3) := by decide +kernel
theorem dL_law_1033 : decode cL_law 1033 = .ok (.istore 5, 2) := by decide +kernel
theorem dL_law_1035 : decode cL_law 1035 = .ok (.aload_n 2, 1) := by decide +kernel
theorem dL_law_1036 : decode cL_law 1036 = .ok (.aload_n 0, 1) := by decide +kernel
theorem dL_law_1037 : decode cL_law 1037 = .ok (.iload 4, 2) := by decide +kernel
theorem dL_law_1039 : decode cL_law 1039 = .ok (.iconst 1, 1) := by decide +kernel
theorem dL_law_1040 : decode cL_law 1040 = .ok (.iadd, 1) := by decide +kernel
theorem dL_law_1041 : decode cL_law 1041 = .ok (.iaload, 1) := by decide +kernel
theorem dL_law_1042 : decode cL_law 1042 = .ok (.invokevirtual 150, 3) := by decide +kernel
theorem dL_law_1045 : decode cL_law 1045 = .ok (.istore 6, 2) := by decide +kernel
theorem dL_law_1047 : decode cL_law 1047 = .ok (.aload_n 2, 1) := by decide +kernel
theorem dL_law_1048 : decode cL_law 1048 = .ok (.invokevirtual 96, 3) := by decide +kernel
theorem dL_law_1051 : decode cL_law 1051 = .ok (.iload 5, 2) := by decide +kernel
theorem dL_law_1053 : decode cL_law 1053 = .ok (.if_icmp .eq 5, 3) := by decide +kernel
theorem dL_law_1056 : decode cL_law 1056 = .ok (.iconst 0, 1) := by decide +kernel
theorem dL_law_1057 : decode cL_law 1057 = .ok (.ireturn, 1) := by decide +kernel
theorem dL_law_1058 : decode cL_law 1058 = .ok (.iload 5, 2) := by decide +kernel
theorem dL_law_1060 : decode cL_law 1060 = .ok (.ifCond .ne 15, 3) := by decide +kernel
theorem dL_law_1063 : decode cL_law 1063 = .ok (.aload_n 3, 1) := by decide +kernel
theorem dL_law_1064 : decode cL_law 1064 = .ok (.iconst 0, 1) := by decide +kernel
theorem dL_law_1065 : decode cL_law 1065 = .ok (.laload, 1) := by decide +kernel
theorem dL_law_1066 : decode cL_law 1066 = .ok (.iload 6, 2) := by decide +kernel
theorem dL_law_1068 : decode cL_law 1068 = .ok (.i2l, 1) := by decide +kernel
theorem dL_law_1069 : decode cL_law 1069 = .ok (.lcmp, 1) := by decide +kernel
theorem dL_law_1070 : decode cL_law 1070 = .ok (.ifCond .eq 5, 3) := by decide +kernel
theorem dL_law_1073 : decode cL_law 1073 = .ok (.iconst 0, 1) := by decide +kernel
theorem dL_law_1074 : decode cL_law 1074 = .ok (.ireturn, 1) := by decide +kernel
theorem dL_law_1075 : decode cL_law 1075 = .ok (.goto 527, 3) := by decide +kernel
theorem dL_law_1078 : decode cL_law 1078 = .ok (.aload_n 1, 1) := by decide +kernel
theorem dL_law_1079 : decode cL_law 1079 = .ok (.aload_n 0, 1) := by decide +kernel
theorem dL_law_1080 : decode cL_law 1080 = .ok (.iload 4, 2) := by decide +kernel
theorem dL_law_1082 : decode cL_law 1082 = .ok (.iconst 1, 1) := by decide +kernel
theorem dL_law_1083 : decode cL_law 1083 = .ok (.iadd, 1) := by decide +kernel
theorem dL_law_1084 : decode cL_law 1084 = .ok (.iaload, 1) := by decide +kernel
theorem dL_law_1085 : decode cL_law 1085 = .ok (.aload_n 3, 1) := by decide +kernel
theorem dL_law_1086 : decode cL_law 1086 = .ok (.invokestatic 151, 3) := by decide +kernel
theorem dL_law_1089 : decode cL_law 1089 = .ok (.istore 5, 2) := by decide +kernel
theorem dL_law_1091 : decode cL_law 1091 = .ok (.aload_n 2, 1) := by decide +kernel
theorem dL_law_1092 : decode cL_law 1092 = .ok (.aload_n 0, 1) := by decide +kernel
theorem dL_law_1093 : decode cL_law 1093 = .ok (.iload 4, 2) := by decide +kernel
theorem dL_law_1095 : decode cL_law 1095 = .ok (.iconst 1, 1) := by decide +kernel
theorem dL_law_1096 : decode cL_law 1096 = .ok (.iadd, 1) := by decide +kernel
theorem dL_law_1097 : decode cL_law 1097 = .ok (.iaload, 1) := by decide +kernel
theorem dL_law_1098 : decode cL_law 1098 = .ok (.invokevirtual 153, 3) := by decide +kernel
theorem dL_law_1101 : decode cL_law 1101 = .ok (.istore 6, 2) := by decide +kernel
theorem dL_law_1103 : decode cL_law 1103 = .ok (.aload_n 2, 1) := by decide +kernel
theorem dL_law_1104 : decode cL_law 1104 = .ok (.invokevirtual 96, 3) := by decide +kernel
theorem dL_law_1107 : decode cL_law 1107 = .ok (.iload 5, 2) := by decide +kernel
theorem dL_law_1109 : decode cL_law 1109 = .ok (.if_icmp .eq 5, 3) := by decide +kernel
theorem dL_law_1112 : decode cL_law 1112 = .ok (.iconst 0, 1) := by decide +kernel
theorem dL_law_1113 : decode cL_law 1113 = .ok (.ireturn, 1) := by decide +kernel
theorem dL_law_1114 : decode cL_law 1114 = .ok (.iload 5, 2) := by decide +kernel
theorem dL_law_1116 : decode cL_law 1116 = .ok (.ifCond .ne 15, 3) := by decide +kernel
theorem dL_law_1119 : decode cL_law 1119 = .ok (.aload_n 3, 1) := by decide +kernel
theorem dL_law_1120 : decode cL_law 1120 = .ok (.iconst 0, 1) := by decide +kernel
theorem dL_law_1121 : decode cL_law 1121 = .ok (.laload, 1) := by decide +kernel
theorem dL_law_1122 : decode cL_law 1122 = .ok (.iload 6, 2) := by decide +kernel
theorem dL_law_1124 : decode cL_law 1124 = .ok (.i2l, 1) := by decide +kernel
theorem dL_law_1125 : decode cL_law 1125 = .ok (.lcmp, 1) := by decide +kernel
theorem dL_law_1126 : decode cL_law 1126 = .ok (.ifCond .eq 5, 3) := by decide +kernel
theorem dL_law_1129 : decode cL_law 1129 = .ok (.iconst 0, 1) := by decide +kernel
theorem dL_law_1130 : decode cL_law 1130 = .ok (.ireturn, 1) := by decide +kernel
theorem dL_law_1131 : decode cL_law 1131 = .ok (.goto 471, 3) := by decide +kernel
theorem dL_law_1134 : decode cL_law 1134 = .ok (.aload_n 1, 1) := by decide +kernel
theorem dL_law_1135 : decode cL_law 1135 = .ok (.aload_n 0, 1) := by decide +kernel
theorem dL_law_1136 : decode cL_law 1136 = .ok (.iload 4, 2) := by decide +kernel
theorem dL_law_1138 : decode cL_law 1138 = .ok (.iconst 1, 1) := by decide +kernel
theorem dL_law_1139 : decode cL_law 1139 = .ok (.iadd, 1) := by decide +kernel
theorem dL_law_1140 : decode cL_law 1140 = .ok (.iaload, 1) := by decide +kernel
theorem dL_law_1141 : decode cL_law 1141 = .ok (.aload_n 0, 1) := by decide +kernel
theorem dL_law_1142 : decode cL_law 1142 = .ok (.iload 4, 2) := by decide +kernel
theorem dL_law_1144 : decode cL_law 1144 = .ok (.iconst 2, 1) := by decide +kernel
theorem dL_law_1145 : decode cL_law 1145 = .ok (.iadd, 1) := by decide +kernel
theorem dL_law_1146 : decode cL_law 1146 = .ok (.iaload, 1) := by decide +kernel
theorem dL_law_1147 : decode cL_law 1147 = .ok (.aload_n 3, 1) := by decide +kernel
theorem dL_law_1148 : decode cL_law 1148 = .ok (.invokestatic 154, 3) := by decide +kernel
theorem dL_law_1151 : decode cL_law 1151 = .ok (.istore 5, 2) := by decide +kernel
theorem dL_law_1153 : decode cL_law 1153 = .ok (.aload_n 2, 1) := by decide +kernel
theorem dL_law_1154 : decode cL_law 1154 = .ok (.aload_n 0, 1) := by decide +kernel
theorem dL_law_1155 : decode cL_law 1155 = .ok (.iload 4, 2) := by decide +kernel
theorem dL_law_1157 : decode cL_law 1157 = .ok (.iconst 1, 1) := by decide +kernel
theorem dL_law_1158 : decode cL_law 1158 = .ok (.iadd, 1) := by decide +kernel
theorem dL_law_1159 : decode cL_law 1159 = .ok (.iaload, 1) := by decide +kernel
theorem dL_law_1160 : decode cL_law 1160 = .ok (.aload_n 0, 1) := by decide +kernel
theorem dL_law_1161 : decode cL_law 1161 = .ok (.iload 4, 2) := by decide +kernel
theorem dL_law_1163 : decode cL_law 1163 = .ok (.iconst 2, 1) := by decide +kernel
theorem dL_law_1164 : decode cL_law 1164 = .ok (.iadd, 1) := by decide +kernel
theorem dL_law_1165 : decode cL_law 1165 = .ok (.iaload, 1) := by decide +kernel
theorem dL_law_1166 : decode cL_law 1166 = .ok (.invokevirtual 156, 3) := by decide +kernel
theorem dL_law_1169 : decode cL_law 1169 = .ok (.istore 6, 2) := by decide +kernel
theorem dL_law_1171 : decode cL_law 1171 = .ok (.aload_n 2, 1) := by decide +kernel
theorem dL_law_1172 : decode cL_law 1172 = .ok (.invokevirtual 96, 3) := by decide +kernel
theorem dL_law_1175 : decode cL_law 1175 = .ok (.iload 5, 2) := by decide +kernel
theorem dL_law_1177 : decode cL_law 1177 = .ok (.if_icmp .eq 5, 3) := by decide +kernel
theorem dL_law_1180 : decode cL_law 1180 = .ok (.iconst 0, 1) := by decide +kernel
theorem dL_law_1181 : decode cL_law 1181 = .ok (.ireturn, 1) := by decide +kernel
theorem dL_law_1182 : decode cL_law 1182 = .ok (.iload 5, 2) := by decide +kernel
theorem dL_law_1184 : decode cL_law 1184 = .ok (.ifCond .ne 15, 3) := by decide +kernel
theorem dL_law_1187 : decode cL_law 1187 = .ok (.aload_n 3, 1) := by decide +kernel
theorem dL_law_1188 : decode cL_law 1188 = .ok (.iconst 0, 1) := by decide +kernel
theorem dL_law_1189 : decode cL_law 1189 = .ok (.laload, 1) := by decide +kernel
theorem dL_law_1190 : decode cL_law 1190 = .ok (.iload 6, 2) := by decide +kernel
theorem dL_law_1192 : decode cL_law 1192 = .ok (.i2l, 1) := by decide +kernel
theorem dL_law_1193 : decode cL_law 1193 = .ok (.lcmp, 1) := by decide +kernel
theorem dL_law_1194 : decode cL_law 1194 = .ok (.ifCond .eq 5, 3) := by decide +kernel
theorem dL_law_1197 : decode cL_law 1197 = .ok (.iconst 0, 1) := by decide +kernel
theorem dL_law_1198 : decode cL_law 1198 = .ok (.ireturn, 1) := by decide +kernel
theorem dL_law_1199 : decode cL_law 1199 = .ok (.goto 403, 3) := by decide +kernel
theorem dL_law_1202 : decode cL_law 1202 = .ok (.aload_n 1, 1) := by decide +kernel
theorem dL_law_1203 : decode cL_law 1203 = .ok (.aload_n 0, 1) := by decide +kernel
theorem dL_law_1204 : decode cL_law 1204 = .ok (.iload 4, 2) := by decide +kernel
theorem dL_law_1206 : decode cL_law 1206 = .ok (.iconst 1, 1) := by decide +kernel
theorem dL_law_1207 : decode cL_law 1207 = .ok (.iadd, 1) := by decide +kernel
theorem dL_law_1208 : decode cL_law 1208 = .ok (.iaload, 1) := by decide +kernel
theorem dL_law_1209 : decode cL_law 1209 = .ok (.aload_n 0, 1) := by decide +kernel
theorem dL_law_1210 : decode cL_law 1210 = .ok (.iload 4, 2) := by decide +kernel
theorem dL_law_1212 : decode cL_law 1212 = .ok (.iconst 2, 1) := by decide +kernel
theorem dL_law_1213 : decode cL_law 1213 = .ok (.iadd, 1) := by decide +kernel
theorem dL_law_1214 : decode cL_law 1214 = .ok (.iaload, 1) := by decide +kernel
theorem dL_law_1215 : decode cL_law 1215 = .ok (.aload_n 0, 1) := by decide +kernel
theorem dL_law_1216 : decode cL_law 1216 = .ok (.iload 4, 2) := by decide +kernel
theorem dL_law_1218 : decode cL_law 1218 = .ok (.iconst 3, 1) := by decide +kernel
theorem dL_law_1219 : decode cL_law 1219 = .ok (.iadd, 1) := by decide +kernel
theorem dL_law_1220 : decode cL_law 1220 = .ok (.iaload, 1) := by decide +kernel
theorem dL_law_1221 : decode cL_law 1221 = .ok (.aload_n 3, 1) := by decide +kernel
theorem dL_law_1222 : decode cL_law 1222 = .ok (.invokestatic 157, 3) := by decide +kernel
theorem dL_law_1225 : decode cL_law 1225 = .ok (.istore 5, 2) := by decide +kernel
theorem dL_law_1227 : decode cL_law 1227 = .ok (.aload_n 2, 1) := by decide +kernel
theorem dL_law_1228 : decode cL_law 1228 = .ok (.aload_n 0, 1) := by decide +kernel
theorem dL_law_1229 : decode cL_law 1229 = .ok (.iload 4, 2) := by decide +kernel
theorem dL_law_1231 : decode cL_law 1231 = .ok (.iconst 1, 1) := by decide +kernel
theorem dL_law_1232 : decode cL_law 1232 = .ok (.iadd, 1) := by decide +kernel
theorem dL_law_1233 : decode cL_law 1233 = .ok (.iaload, 1) := by decide +kernel
theorem dL_law_1234 : decode cL_law 1234 = .ok (.aload_n 0, 1) := by decide +kernel
theorem dL_law_1235 : decode cL_law 1235 = .ok (.iload 4, 2) := by decide +kernel
theorem dL_law_1237 : decode cL_law 1237 = .ok (.iconst 2, 1) := by decide +kernel
theorem dL_law_1238 : decode cL_law 1238 = .ok (.iadd, 1) := by decide +kernel
theorem dL_law_1239 : decode cL_law 1239 = .ok (.iaload, 1) := by decide +kernel
theorem dL_law_1240 : decode cL_law 1240 = .ok (.aload_n 0, 1) := by decide +kernel
theorem dL_law_1241 : decode cL_law 1241 = .ok (.iload 4, 2) := by decide +kernel
theorem dL_law_1243 : decode cL_law 1243 = .ok (.iconst 3, 1) := by decide +kernel
theorem dL_law_1244 : decode cL_law 1244 = .ok (.iadd, 1) := by decide +kernel
theorem dL_law_1245 : decode cL_law 1245 = .ok (.iaload, 1) := by decide +kernel
theorem dL_law_1246 : decode cL_law 1246 = .ok (.invokevirtual 160, 3) := by decide +kernel
theorem dL_law_1249 : decode cL_law 1249 = .ok (.istore 6, 2) := by decide +kernel
theorem dL_law_1251 : decode cL_law 1251 = .ok (.aload_n 2, 1) := by decide +kernel
theorem dL_law_1252 : decode cL_law 1252 = .ok (.invokevirtual 96, 3) := by decide +kernel
theorem dL_law_1255 : decode cL_law 1255 = .ok (.iload 5, 2) := by decide +kernel
theorem dL_law_1257 : decode cL_law 1257 = .ok (.if_icmp .eq 5, 3) := by decide +kernel
theorem dL_law_1260 : decode cL_law 1260 = .ok (.iconst 0, 1) := by decide +kernel
theorem dL_law_1261 : decode cL_law 1261 = .ok (.ireturn, 1) := by decide +kernel
theorem dL_law_1262 : decode cL_law 1262 = .ok (.iload 5, 2) := by decide +kernel
theorem dL_law_1264 : decode cL_law 1264 = .ok (.ifCond .ne 15, 3) := by decide +kernel
theorem dL_law_1267 : decode cL_law 1267 = .ok (.aload_n 3, 1) := by decide +kernel
theorem dL_law_1268 : decode cL_law 1268 = .ok (.iconst 0, 1) := by decide +kernel
theorem dL_law_1269 : decode cL_law 1269 = .ok (.laload, 1) := by decide +kernel
theorem dL_law_1270 : decode cL_law 1270 = .ok (.iload 6, 2) := by decide +kernel
theorem dL_law_1272 : decode cL_law 1272 = .ok (.i2l, 1) := by decide +kernel
theorem dL_law_1273 : decode cL_law 1273 = .ok (.lcmp, 1) := by decide +kernel
theorem dL_law_1274 : decode cL_law 1274 = .ok (.ifCond .eq 5, 3) := by decide +kernel
theorem dL_law_1277 : decode cL_law 1277 = .ok (.iconst 0, 1) := by decide +kernel
theorem dL_law_1278 : decode cL_law 1278 = .ok (.ireturn, 1) := by decide +kernel
theorem dL_law_1279 : decode cL_law 1279 = .ok (.goto 323, 3) := by decide +kernel
theorem dL_law_1282 : decode cL_law 1282 = .ok (.aload_n 1, 1) := by decide +kernel
theorem dL_law_1283 : decode cL_law 1283 = .ok (.aload_n 0, 1) := by decide +kernel
theorem dL_law_1284 : decode cL_law 1284 = .ok (.iload 4, 2) := by decide +kernel
theorem dL_law_1286 : decode cL_law 1286 = .ok (.iconst 1, 1) := by decide +kernel
theorem dL_law_1287 : decode cL_law 1287 = .ok (.iadd, 1) := by decide +kernel
theorem dL_law_1288 : decode cL_law 1288 = .ok (.iaload, 1) := by decide +kernel
theorem dL_law_1289 : decode cL_law 1289 = .ok (.aload_n 3, 1) := by decide +kernel
theorem dL_law_1290 : decode cL_law 1290 = .ok (.invokestatic 161, 3) := by decide +kernel
theorem dL_law_1293 : decode cL_law 1293 = .ok (.istore 5, 2) := by decide +kernel
theorem dL_law_1295 : decode cL_law 1295 = .ok (.aload_n 2, 1) := by decide +kernel
theorem dL_law_1296 : decode cL_law 1296 = .ok (.aload_n 0, 1) := by decide +kernel
theorem dL_law_1297 : decode cL_law 1297 = .ok (.iload 4, 2) := by decide +kernel
theorem dL_law_1299 : decode cL_law 1299 = .ok (.iconst 1, 1) := by decide +kernel
theorem dL_law_1300 : decode cL_law 1300 = .ok (.iadd, 1) := by decide +kernel
theorem dL_law_1301 : decode cL_law 1301 = .ok (.iaload, 1) := by decide +kernel
theorem dL_law_1302 : decode cL_law 1302 = .ok (.invokevirtual 163, 3) := by decide +kernel
theorem dL_law_1305 : decode cL_law 1305 = .ok (.istore 6, 2) := by decide +kernel
theorem dL_law_1307 : decode cL_law 1307 = .ok (.aload_n 2, 1) := by decide +kernel
theorem dL_law_1308 : decode cL_law 1308 = .ok (.invokevirtual 96, 3) := by decide +kernel
theorem dL_law_1311 : decode cL_law 1311 = .ok (.iload 5, 2) := by decide +kernel
theorem dL_law_1313 : decode cL_law 1313 = .ok (.if_icmp .eq 5, 3) := by decide +kernel
theorem dL_law_1316 : decode cL_law 1316 = .ok (.iconst 0, 1) := by decide +kernel
theorem dL_law_1317 : decode cL_law 1317 = .ok (.ireturn, 1) := by decide +kernel
theorem dL_law_1318 : decode cL_law 1318 = .ok (.iload 5, 2) := by decide +kernel
theorem dL_law_1320 : decode cL_law 1320 = .ok (.ifCond .ne 22, 3) := by decide +kernel
theorem dL_law_1323 : decode cL_law 1323 = .ok (.aload_n 3, 1) := by decide +kernel
theorem dL_law_1324 : decode cL_law 1324 = .ok (.iconst 0, 1) := by decide +kernel
theorem dL_law_1325 : decode cL_law 1325 = .ok (.laload, 1) := by decide +kernel
theorem dL_law_1326 : decode cL_law 1326 = .ok (.iload 6, 2) := by decide +kernel
theorem dL_law_1328 : decode cL_law 1328 = .ok (.ifCond .eq 7, 3) := by decide +kernel
theorem dL_law_1331 : decode cL_law 1331 = .ok (.lconst 1, 1) := by decide +kernel
theorem dL_law_1332 : decode cL_law 1332 = .ok (.goto 4, 3) := by decide +kernel
theorem dL_law_1335 : decode cL_law 1335 = .ok (.lconst 0, 1) := by decide +kernel
theorem dL_law_1336 : decode cL_law 1336 = .ok (.lcmp, 1) := by decide +kernel
theorem dL_law_1337 : decode cL_law 1337 = .ok (.ifCond .eq 5, 3) := by decide +kernel
theorem dL_law_1340 : decode cL_law 1340 = .ok (.iconst 0, 1) := by decide +kernel
theorem dL_law_1341 : decode cL_law 1341 = .ok (.ireturn, 1) := by decide +kernel
theorem dL_law_1342 : decode cL_law 1342 = .ok (.goto 260, 3) := by decide +kernel
theorem dL_law_1345 : decode cL_law 1345 = .ok (.aload_n 1, 1) := by decide +kernel
theorem dL_law_1346 : decode cL_law 1346 = .ok (.aload_n 0, 1) := by decide +kernel
theorem dL_law_1347 : decode cL_law 1347 = .ok (.iload 4, 2) := by decide +kernel
theorem dL_law_1349 : decode cL_law 1349 = .ok (.iconst 1, 1) := by decide +kernel
theorem dL_law_1350 : decode cL_law 1350 = .ok (.iadd, 1) := by decide +kernel
theorem dL_law_1351 : decode cL_law 1351 = .ok (.iaload, 1) := by decide +kernel
theorem dL_law_1352 : decode cL_law 1352 = .ok (.aload_n 3, 1) := by decide +kernel
theorem dL_law_1353 : decode cL_law 1353 = .ok (.invokestatic 164, 3) := by decide +kernel
theorem dL_law_1356 : decode cL_law 1356 = .ok (.istore 5, 2) := by decide +kernel
theorem dL_law_1358 : decode cL_law 1358 = .ok (.aload_n 2, 1) := by decide +kernel
theorem dL_law_1359 : decode cL_law 1359 = .ok (.aload_n 0, 1) := by decide +kernel
theorem dL_law_1360 : decode cL_law 1360 = .ok (.iload 4, 2) := by decide +kernel
theorem dL_law_1362 : decode cL_law 1362 = .ok (.iconst 1, 1) := by decide +kernel
theorem dL_law_1363 : decode cL_law 1363 = .ok (.iadd, 1) := by decide +kernel
theorem dL_law_1364 : decode cL_law 1364 = .ok (.iaload, 1) := by decide +kernel
theorem dL_law_1365 : decode cL_law 1365 = .ok (.invokevirtual 166, 3) := by decide +kernel
theorem dL_law_1368 : decode cL_law 1368 = .ok (.istore 6, 2) := by decide +kernel
theorem dL_law_1370 : decode cL_law 1370 = .ok (.aload_n 2, 1) := by decide +kernel
theorem dL_law_1371 : decode cL_law 1371 = .ok (.invokevirtual 96, 3) := by decide +kernel
theorem dL_law_1374 : decode cL_law 1374 = .ok (.iload 5, 2) := by decide +kernel
theorem dL_law_1376 : decode cL_law 1376 = .ok (.if_icmp .eq 5, 3) := by decide +kernel
theorem dL_law_1379 : decode cL_law 1379 = .ok (.iconst 0, 1) := by decide +kernel
theorem dL_law_1380 : decode cL_law 1380 = .ok (.ireturn, 1) := by decide +kernel
theorem dL_law_1381 : decode cL_law 1381 = .ok (.iload 5, 2) := by decide +kernel
theorem dL_law_1383 : decode cL_law 1383 = .ok (.ifCond .ne 15, 3) := by decide +kernel
theorem dL_law_1386 : decode cL_law 1386 = .ok (.aload_n 3, 1) := by decide +kernel
theorem dL_law_1387 : decode cL_law 1387 = .ok (.iconst 0, 1) := by decide +kernel
theorem dL_law_1388 : decode cL_law 1388 = .ok (.laload, 1) := by decide +kernel
theorem dL_law_1389 : decode cL_law 1389 = .ok (.iload 6, 2) := by decide +kernel
theorem dL_law_1391 : decode cL_law 1391 = .ok (.i2l, 1) := by decide +kernel
theorem dL_law_1392 : decode cL_law 1392 = .ok (.lcmp, 1) := by decide +kernel
theorem dL_law_1393 : decode cL_law 1393 = .ok (.ifCond .eq 5, 3) := by decide +kernel
theorem dL_law_1396 : decode cL_law 1396 = .ok (.iconst 0, 1) := by decide +kernel
theorem dL_law_1397 : decode cL_law 1397 = .ok (.ireturn, 1) := by decide +kernel
theorem dL_law_1398 : decode cL_law 1398 = .ok (.goto 204, 3) := by decide +kernel
theorem dL_law_1401 : decode cL_law 1401 = .ok (.aload_n 1, 1) := by decide +kernel
theorem dL_law_1402 : decode cL_law 1402 = .ok (.aload_n 0, 1) := by decide +kernel
theorem dL_law_1403 : decode cL_law 1403 = .ok (.iload 4, 2) := by decide +kernel
theorem dL_law_1405 : decode cL_law 1405 = .ok (.iconst 1, 1) := by decide +kernel
theorem dL_law_1406 : decode cL_law 1406 = .ok (.iadd, 1) := by decide +kernel
theorem dL_law_1407 : decode cL_law 1407 = .ok (.iaload, 1) := by decide +kernel
theorem dL_law_1408 : decode cL_law 1408 = .ok (.aload_n 0, 1) := by decide +kernel
theorem dL_law_1409 : decode cL_law 1409 = .ok (.iload 4, 2) := by decide +kernel
theorem dL_law_1411 : decode cL_law 1411 = .ok (.iconst 2, 1) := by decide +kernel
theorem dL_law_1412 : decode cL_law 1412 = .ok (.iadd, 1) := by decide +kernel
theorem dL_law_1413 : decode cL_law 1413 = .ok (.iaload, 1) := by decide +kernel
theorem dL_law_1414 : decode cL_law 1414 = .ok (.aload_n 0, 1) := by decide +kernel
theorem dL_law_1415 : decode cL_law 1415 = .ok (.iload 4, 2) := by decide +kernel
theorem dL_law_1417 : decode cL_law 1417 = .ok (.iconst 3, 1) := by decide +kernel
theorem dL_law_1418 : decode cL_law 1418 = .ok (.iadd, 1) := by decide +kernel
theorem dL_law_1419 : decode cL_law 1419 = .ok (.iaload, 1) := by decide +kernel
theorem dL_law_1420 : decode cL_law 1420 = .ok (.aload_n 3, 1) := by decide +kernel
theorem dL_law_1421 : decode cL_law 1421 = .ok (.invokestatic 167, 3) := by decide +kernel
theorem dL_law_1424 : decode cL_law 1424 = .ok (.istore 5, 2) := by decide +kernel
theorem dL_law_1426 : decode cL_law 1426 = .ok (.aload_n 2, 1) := by decide +kernel
theorem dL_law_1427 : decode cL_law 1427 = .ok (.aload_n 0, 1) := by decide +kernel
theorem dL_law_1428 : decode cL_law 1428 = .ok (.iload 4, 2) := by decide +kernel
theorem dL_law_1430 : decode cL_law 1430 = .ok (.iconst 1, 1) := by decide +kernel
theorem dL_law_1431 : decode cL_law 1431 = .ok (.iadd, 1) := by decide +kernel
theorem dL_law_1432 : decode cL_law 1432 = .ok (.iaload, 1) := by decide +kernel
theorem dL_law_1433 : decode cL_law 1433 = .ok (.aload_n 0, 1) := by decide +kernel
theorem dL_law_1434 : decode cL_law 1434 = .ok (.iload 4, 2) := by decide +kernel
theorem dL_law_1436 : decode cL_law 1436 = .ok (.iconst 2, 1) := by decide +kernel
theorem dL_law_1437 : decode cL_law 1437 = .ok (.iadd, 1) := by decide +kernel
theorem dL_law_1438 : decode cL_law 1438 = .ok (.iaload, 1) := by decide +kernel
theorem dL_law_1439 : decode cL_law 1439 = .ok (.aload_n 0, 1) := by decide +kernel
theorem dL_law_1440 : decode cL_law 1440 = .ok (.iload 4, 2) := by decide +kernel
theorem dL_law_1442 : decode cL_law 1442 = .ok (.iconst 3, 1) := by decide +kernel
theorem dL_law_1443 : decode cL_law 1443 = .ok (.iadd, 1) := by decide +kernel
theorem dL_law_1444 : decode cL_law 1444 = .ok (.iaload, 1) := by decide +kernel
theorem dL_law_1445 : decode cL_law 1445 = .ok (.invokevirtual 169, 3) := by decide +kernel
theorem dL_law_1448 : decode cL_law 1448 = .ok (.istore 6, 2) := by decide +kernel
theorem dL_law_1450 : decode cL_law 1450 = .ok (.aload_n 2, 1) := by decide +kernel
theorem dL_law_1451 : decode cL_law 1451 = .ok (.invokevirtual 96, 3) := by decide +kernel
theorem dL_law_1454 : decode cL_law 1454 = .ok (.iload 5, 2) := by decide +kernel
theorem dL_law_1456 : decode cL_law 1456 = .ok (.if_icmp .eq 5, 3) := by decide +kernel
theorem dL_law_1459 : decode cL_law 1459 = .ok (.iconst 0, 1) := by decide +kernel
theorem dL_law_1460 : decode cL_law 1460 = .ok (.ireturn, 1) := by decide +kernel
theorem dL_law_1461 : decode cL_law 1461 = .ok (.iload 5, 2) := by decide +kernel
theorem dL_law_1463 : decode cL_law 1463 = .ok (.ifCond .ne 15, 3) := by decide +kernel
theorem dL_law_1466 : decode cL_law 1466 = .ok (.aload_n 3, 1) := by decide +kernel
theorem dL_law_1467 : decode cL_law 1467 = .ok (.iconst 0, 1) := by decide +kernel
theorem dL_law_1468 : decode cL_law 1468 = .ok (.laload, 1) := by decide +kernel
theorem dL_law_1469 : decode cL_law 1469 = .ok (.iload 6, 2) := by decide +kernel
theorem dL_law_1471 : decode cL_law 1471 = .ok (.i2l, 1) := by decide +kernel
theorem dL_law_1472 : decode cL_law 1472 = .ok (.lcmp, 1) := by decide +kernel
theorem dL_law_1473 : decode cL_law 1473 = .ok (.ifCond .eq 5, 3) := by decide +kernel
theorem dL_law_1476 : decode cL_law 1476 = .ok (.iconst 0, 1) := by decide +kernel
theorem dL_law_1477 : decode cL_law 1477 = .ok (.ireturn, 1) := by decide +kernel
theorem dL_law_1478 : decode cL_law 1478 = .ok (.goto 124, 3) := by decide +kernel
theorem dL_law_1481 : decode cL_law 1481 = .ok (.aload_n 1, 1) := by decide +kernel
theorem dL_law_1482 : decode cL_law 1482 = .ok (.aload_n 0, 1) := by decide +kernel
theorem dL_law_1483 : decode cL_law 1483 = .ok (.iload 4, 2) := by decide +kernel
theorem dL_law_1485 : decode cL_law 1485 = .ok (.iconst 1, 1) := by decide +kernel
theorem dL_law_1486 : decode cL_law 1486 = .ok (.iadd, 1) := by decide +kernel
theorem dL_law_1487 : decode cL_law 1487 = .ok (.iaload, 1) := by decide +kernel
theorem dL_law_1488 : decode cL_law 1488 = .ok (.aload_n 0, 1) := by decide +kernel
theorem dL_law_1489 : decode cL_law 1489 = .ok (.iload 4, 2) := by decide +kernel
theorem dL_law_1491 : decode cL_law 1491 = .ok (.iconst 2, 1) := by decide +kernel
theorem dL_law_1492 : decode cL_law 1492 = .ok (.iadd, 1) := by decide +kernel
theorem dL_law_1493 : decode cL_law 1493 = .ok (.iaload, 1) := by decide +kernel
theorem dL_law_1494 : decode cL_law 1494 = .ok (.aload_n 0, 1) := by decide +kernel
theorem dL_law_1495 : decode cL_law 1495 = .ok (.iload 4, 2) := by decide +kernel
theorem dL_law_1497 : decode cL_law 1497 = .ok (.iconst 3, 1) := by decide +kernel
theorem dL_law_1498 : decode cL_law 1498 = .ok (.iadd, 1) := by decide +kernel
theorem dL_law_1499 : decode cL_law 1499 = .ok (.iaload, 1) := by decide +kernel
theorem dL_law_1500 : decode cL_law 1500 = .ok (.aload_n 3, 1) := by decide +kernel
theorem dL_law_1501 : decode cL_law 1501 = .ok (.invokestatic 170, 3) := by decide +kernel
theorem dL_law_1504 : decode cL_law 1504 = .ok (.istore 5, 2) := by decide +kernel
theorem dL_law_1506 : decode cL_law 1506 = .ok (.aload_n 2, 1) := by decide +kernel
theorem dL_law_1507 : decode cL_law 1507 = .ok (.aload_n 0, 1) := by decide +kernel
theorem dL_law_1508 : decode cL_law 1508 = .ok (.iload 4, 2) := by decide +kernel
theorem dL_law_1510 : decode cL_law 1510 = .ok (.iconst 1, 1) := by decide +kernel
theorem dL_law_1511 : decode cL_law 1511 = .ok (.iadd, 1) := by decide +kernel
theorem dL_law_1512 : decode cL_law 1512 = .ok (.iaload, 1) := by decide +kernel
theorem dL_law_1513 : decode cL_law 1513 = .ok (.aload_n 0, 1) := by decide +kernel
theorem dL_law_1514 : decode cL_law 1514 = .ok (.iload 4, 2) := by decide +kernel
theorem dL_law_1516 : decode cL_law 1516 = .ok (.iconst 2, 1) := by decide +kernel
theorem dL_law_1517 : decode cL_law 1517 = .ok (.iadd, 1) := by decide +kernel
theorem dL_law_1518 : decode cL_law 1518 = .ok (.iaload, 1) := by decide +kernel
theorem dL_law_1519 : decode cL_law 1519 = .ok (.aload_n 0, 1) := by decide +kernel
theorem dL_law_1520 : decode cL_law 1520 = .ok (.iload 4, 2) := by decide +kernel
theorem dL_law_1522 : decode cL_law 1522 = .ok (.iconst 3, 1) := by decide +kernel
theorem dL_law_1523 : decode cL_law 1523 = .ok (.iadd, 1) := by decide +kernel
theorem dL_law_1524 : decode cL_law 1524 = .ok (.iaload, 1) := by decide +kernel
theorem dL_law_1525 : decode cL_law 1525 = .ok (.invokevirtual 172, 3) := by decide +kernel
theorem dL_law_1528 : decode cL_law 1528 = .ok (.istore 6, 2) := by decide +kernel
theorem dL_law_1530 : decode cL_law 1530 = .ok (.aload_n 2, 1) := by decide +kernel
theorem dL_law_1531 : decode cL_law 1531 = .ok (.invokevirtual 96, 3) := by decide +kernel
theorem dL_law_1534 : decode cL_law 1534 = .ok (.iload 5, 2) := by decide +kernel
theorem dL_law_1536 : decode cL_law 1536 = .ok (.if_icmp .eq 5, 3) := by decide +kernel
theorem dL_law_1539 : decode cL_law 1539 = .ok (.iconst 0, 1) := by decide +kernel
theorem dL_law_1540 : decode cL_law 1540 = .ok (.ireturn, 1) := by decide +kernel
theorem dL_law_1541 : decode cL_law 1541 = .ok (.iload 5, 2) := by decide +kernel
theorem dL_law_1543 : decode cL_law 1543 = .ok (.ifCond .ne 15, 3) := by decide +kernel
theorem dL_law_1546 : decode cL_law 1546 = .ok (.aload_n 3, 1) := by decide +kernel
theorem dL_law_1547 : decode cL_law 1547 = .ok (.iconst 0, 1) := by decide +kernel
theorem dL_law_1548 : decode cL_law 1548 = .ok (.laload, 1) := by decide +kernel
theorem dL_law_1549 : decode cL_law 1549 = .ok (.iload 6, 2) := by decide +kernel
theorem dL_law_1551 : decode cL_law 1551 = .ok (.i2l, 1) := by decide +kernel
theorem dL_law_1552 : decode cL_law 1552 = .ok (.lcmp, 1) := by decide +kernel
theorem dL_law_1553 : decode cL_law 1553 = .ok (.ifCond .eq 5, 3) := by decide +kernel
theorem dL_law_1556 : decode cL_law 1556 = .ok (.iconst 0, 1) := by decide +kernel
theorem dL_law_1557 : decode cL_law 1557 = .ok (.ireturn, 1) := by decide +kernel
theorem dL_law_1558 : decode cL_law 1558 = .ok (.goto 44, 3) := by decide +kernel
theorem dL_law_1561 : decode cL_law 1561 = .ok (.aload_n 1, 1) := by decide +kernel
theorem dL_law_1562 : decode cL_law 1562 = .ok (.invokevirtual 173, 3) := by decide +kernel
theorem dL_law_1565 : decode cL_law 1565 = .ok (.dstore 5, 2) := by decide +kernel
theorem dL_law_1567 : decode cL_law 1567 = .ok (.aload_n 2, 1) := by decide +kernel
theorem dL_law_1568 : decode cL_law 1568 = .ok (.invokevirtual 177, 3) := by decide +kernel
theorem dL_law_1571 : decode cL_law 1571 = .ok (.dstore 7, 2) := by decide +kernel
theorem dL_law_1573 : decode cL_law 1573 = .ok (.dload 5, 2) := by decide +kernel
theorem dL_law_1575 : decode cL_law 1575 = .ok (.dload 7, 2) := by decide +kernel
theorem dL_law_1577 : decode cL_law 1577 = .ok (.dcmp .l, 1) := by decide +kernel
theorem dL_law_1578 : decode cL_law 1578 = .ok (.ifCond .eq 21, 3) := by decide +kernel
theorem dL_law_1581 : decode cL_law 1581 = .ok (.dload 5, 2) := by decide +kernel
theorem dL_law_1583 : decode cL_law 1583 = .ok (.dload 5, 2) := by decide +kernel
theorem dL_law_1585 : decode cL_law 1585 = .ok (.dcmp .l, 1) := by decide +kernel
theorem dL_law_1586 : decode cL_law 1586 = .ok (.ifCond .eq 11, 3) := by decide +kernel
theorem dL_law_1589 : decode cL_law 1589 = .ok (.dload 7, 2) := by decide +kernel
theorem dL_law_1591 : decode cL_law 1591 = .ok (.dload 7, 2) := by decide +kernel
theorem dL_law_1593 : decode cL_law 1593 = .ok (.dcmp .l, 1) := by decide +kernel
theorem dL_law_1594 : decode cL_law 1594 = .ok (.ifCond .ne 5, 3) := by decide +kernel
theorem dL_law_1597 : decode cL_law 1597 = .ok (.iconst 0, 1) := by decide +kernel
theorem dL_law_1598 : decode cL_law 1598 = .ok (.ireturn, 1) := by decide +kernel
theorem dL_law_1599 : decode cL_law 1599 = .ok (.goto 3, 3) := by decide +kernel
theorem dL_law_1602 : decode cL_law 1602 = .ok (.iinc 4 4, 3) := by decide +kernel
theorem dL_law_1605 : decode cL_law 1605 = .ok (.goto (-1582), 3) := by decide +kernel
theorem dL_law_1608 : decode cL_law 1608 = .ok (.iconst 1, 1) := by decide +kernel
theorem dL_law_1609 : decode cL_law 1609 = .ok (.ireturn, 1) := by decide +kernel
