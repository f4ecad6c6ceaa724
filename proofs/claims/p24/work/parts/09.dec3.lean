theorem dX0_init_0 : decode cX0_init 0 = .ok (.aload_n 0, 1) := by decide +kernel
theorem dX0_init_1 : decode cX0_init 1 = .ok (.invokespecial 3, 3) := by decide +kernel
theorem dX0_init_4 : decode cX0_init 4 = .ok (.aload_n 0, 1) := by decide +kernel
theorem dX0_init_5 : decode cX0_init 5 = .ok (.iconst 0, 1) := by decide +kernel
theorem dX0_init_6 : decode cX0_init 6 = .ok (.putfield 9, 3) := by decide +kernel
theorem dX0_init_9 : decode cX0_init 9 = .ok (.aload_n 0, 1) := by decide +kernel
theorem dX0_init_10 : decode cX0_init 10 = .ok (.iconst 1, 1) := by decide +kernel
theorem dX0_init_11 : decode cX0_init 11 = .ok (.putfield 15, 3) := by decide +kernel
theorem dX0_init_14 : decode cX0_init 14 = .ok (.aload_n 0, 1) := by decide +kernel
theorem dX0_init_15 : decode cX0_init 15 = .ok (.iconst 0, 1) := by decide +kernel
theorem dX0_init_16 : decode cX0_init 16 = .ok (.putfield 18, 3) := by decide +kernel
theorem dX0_init_19 : decode cX0_init 19 = .ok (.aload_n 0, 1) := by decide +kernel
theorem dX0_init_20 : decode cX0_init 20 = .ok (.iconst (-1), 1) := by decide +kernel
theorem dX0_init_21 : decode cX0_init 21 = .ok (.putfield 21, 3) := by decide +kernel
theorem dX0_init_24 : decode cX0_init 24 = .ok (.aload_n 0, 1) := by decide +kernel
theorem dX0_init_25 : decode cX0_init 25 = .ok (.iconst 0, 1) := by decide +kernel
theorem dX0_init_26 : decode cX0_init 26 = .ok (.putfield 24, 3) := by decide +kernel
theorem dX0_init_29 : decode cX0_init 29 = .ok (.aload_n 0, 1) := by decide +kernel
theorem dX0_init_30 : decode cX0_init 30 = .ok (.bipush 12, 2) := by decide +kernel
theorem dX0_init_32 : decode cX0_init 32 = .ok (.newarray .int, 2) := by decide +kernel
theorem dX0_init_34 : decode cX0_init 34 = .ok (.putfield 27, 3) := by decide +kernel
theorem dX0_init_37 : decode cX0_init 37 = .ok (.aload_n 0, 1) := by decide +kernel
theorem dX0_init_38 : decode cX0_init 38 = .ok (.bipush 12, 2) := by decide +kernel
theorem dX0_init_40 : decode cX0_init 40 = .ok (.newarray .int, 2) := by decide +kernel
theorem dX0_init_42 : decode cX0_init 42 = .ok (.putfield 31, 3) := by decide +kernel
theorem dX0_init_45 : decode cX0_init 45 = .ok (.return_, 1) := by decide +kernel
theorem dX0_copyKept_0 : decode cX0_copyKept 0 = .ok (.aload_n 0, 1) := by decide +kernel
theorem dX0_copyKept_1 : decode cX0_copyKept 1 = .ok (.aload_n 1, 1) := by decide +kernel
theorem dX0_copyKept_2 : decode cX0_copyKept 2 = .ok (.getfield 9, 3) := by decide +kernel
theorem dX0_copyKept_5 : decode cX0_copyKept 5 = .ok (.putfield 9, 3) := by decide +kernel
theorem dX0_copyKept_8 : decode cX0_copyKept 8 = .ok (.aload_n 0, 1) := by decide +kernel
theorem dX0_copyKept_9 : decode cX0_copyKept 9 = .ok (.aload_n 1, 1) := by decide +kernel
theorem dX0_copyKept_10 : decode cX0_copyKept 10 = .ok (.getfield 15, 3) := by decide +kernel
theorem dX0_copyKept_13 : decode cX0_copyKept 13 = .ok (.putfield 15, 3) := by decide +kernel
theorem dX0_copyKept_16 : decode cX0_copyKept 16 = .ok (.aload_n 0, 1) := by decide +kernel
theorem dX0_copyKept_17 : decode cX0_copyKept 17 = .ok (.aload_n 1, 1) := by decide +kernel
theorem dX0_copyKept_18 : decode cX0_copyKept 18 = .ok (.getfield 18, 3) := by decide +kernel
theorem dX0_copyKept_21 : decode cX0_copyKept 21 = .ok (.putfield 18, 3) := by decide +kernel
theorem dX0_copyKept_24 : decode cX0_copyKept 24 = .ok (.aload_n 0, 1) := by decide +kernel
theorem dX0_copyKept_25 : decode cX0_copyKept 25 = .ok (.aload_n 1, 1) := by decide +kernel
theorem dX0_copyKept_26 : decode cX0_copyKept 26 = .ok (.getfield 21, 3) := by decide +kernel
theorem dX0_copyKept_29 : decode cX0_copyKept 29 = .ok (.putfield 21, 3) := by decide +kernel
theorem dX0_copyKept_32 : decode cX0_copyKept 32 = .ok (.aload_n 0, 1) := by decide +kernel
theorem dX0_copyKept_33 : decode cX0_copyKept 33 = .ok (.aload_n 1, 1) := by decide +kernel
theorem dX0_copyKept_34 : decode cX0_copyKept 34 = .ok (.getfield 24, 3) := by decide +kernel
theorem dX0_copyKept_37 : decode cX0_copyKept 37 = .ok (.putfield 24, 3) := by decide +kernel
theorem dX0_copyKept_40 : decode cX0_copyKept 40 = .ok (.aload_n 1, 1) := by decide +kernel
theorem dX0_copyKept_41 : decode cX0_copyKept 41 = .ok (.getfield 27, 3) := by decide +kernel
theorem dX0_copyKept_44 : decode cX0_copyKept 44 = .ok (.iconst 0, 1) := by decide +kernel
theorem dX0_copyKept_45 : decode cX0_copyKept 45 = .ok (.aload_n 0, 1) := by decide +kernel
theorem dX0_copyKept_46 : decode cX0_copyKept 46 = .ok (.getfield 27, 3) := by decide +kernel
theorem dX0_copyKept_49 : decode cX0_copyKept 49 = .ok (.iconst 0, 1) := by decide +kernel
theorem dX0_copyKept_50 : decode cX0_copyKept 50 = .ok (.bipush 12, 2) := by decide +kernel
theorem dX0_copyKept_52 : decode cX0_copyKept 52 = .ok (.invokestatic 34, 3) := by decide +kernel
theorem dX0_copyKept_55 : decode cX0_copyKept 55 = .ok (.aload_n 1, 1) := by decide +kernel
theorem dX0_copyKept_56 : decode cX0_copyKept 56 = .ok (.getfield 31, 3) := by decide +kernel
theorem dX0_copyKept_59 : decode cX0_copyKept 59 = .ok (.iconst 0, 1) := by decide +kernel
theorem dX0_copyKept_60 : decode cX0_copyKept 60 = .ok (.aload_n 0, 1) := by decide +kernel
theorem dX0_copyKept_61 : decode cX0_copyKept 61 = .ok (.getfield 31, 3) := by decide +kernel
theorem dX0_copyKept_64 : decode cX0_copyKept 64 = .ok (.iconst 0, 1) := by decide +kernel
theorem dX0_copyKept_65 : decode cX0_copyKept 65 = .ok (.bipush 12, 2) := by decide +kernel
theorem dX0_copyKept_67 : decode cX0_copyKept 67 = .ok (.invokestatic 34, 3) := by decide +kernel
theorem dX0_copyKept_70 : decode cX0_copyKept 70 = .ok (.return_, 1) := by decide +kernel
theorem dX0_makeWhole_0 : decode cX0_makeWhole 0 = .ok (.aload_n 0, 1) := by decide +kernel
theorem dX0_makeWhole_1 : decode cX0_makeWhole 1 = .ok (.iconst (-1), 1) := by decide +kernel
theorem dX0_makeWhole_2 : decode cX0_makeWhole 2 = .ok (.putfield 21, 3) := by decide +kernel
theorem dX0_makeWhole_5 : decode cX0_makeWhole 5 = .ok (.aload_n 0, 1) := by decide +kernel
theorem dX0_makeWhole_6 : decode cX0_makeWhole 6 = .ok (.aload_n 0, 1) := by decide +kernel
theorem dX0_makeWhole_7 : decode cX0_makeWhole 7 = .ok (.getfield 15, 3) := by decide +kernel
theorem dX0_makeWhole_10 : decode cX0_makeWhole 10 = .ok (.invokestatic 40, 3) := by decide +kernel
theorem dX0_makeWhole_13 : decode cX0_makeWhole 13 = .ok (.putfield 24, 3) := by decide +kernel
theorem dX0_makeWhole_16 : decode cX0_makeWhole 16 = .ok (.iconst 0, 1) := by decide +kernel
theorem dX0_makeWhole_17 : decode cX0_makeWhole 17 = .ok (.istore_n 2, 1) := by decide +kernel
theorem dX0_makeWhole_18 : decode cX0_makeWhole 18 = .ok (.iload_n 2, 1) := by decide +kernel
theorem dX0_makeWhole_19 : decode cX0_makeWhole 19 = .ok (.aload_n 0, 1) := by decide +kernel
theorem dX0_makeWhole_20 : decode cX0_makeWhole 20 = .ok (.getfield 24, 3) := by decide +kernel
theorem dX0_makeWhole_23 : decode cX0_makeWhole 23 = .ok (.if_icmp .ge 25, 3) := by decide +kernel
theorem dX0_makeWhole_26 : decode cX0_makeWhole 26 = .ok (.aload_n 0, 1) := by decide +kernel
theorem dX0_makeWhole_27 : decode cX0_makeWhole 27 = .ok (.getfield 27, 3) := by decide +kernel
theorem dX0_makeWhole_30 : decode cX0_makeWhole 30 = .ok (.iload_n 2, 1) := by decide +kernel
theorem dX0_makeWhole_31 : decode cX0_makeWhole 31 = .ok (.iload_n 2, 1) := by decide +kernel
theorem dX0_makeWhole_32 : decode cX0_makeWhole 32 = .ok (.iastore, 1) := by decide +kernel
theorem dX0_makeWhole_33 : decode cX0_makeWhole 33 = .ok (.aload_n 0, 1) := by decide +kernel
theorem dX0_makeWhole_34 : decode cX0_makeWhole 34 = .ok (.getfield 31, 3) := by decide +kernel
theorem dX0_makeWhole_37 : decode cX0_makeWhole 37 = .ok (.iload_n 2, 1) := by decide +kernel
theorem dX0_makeWhole_38 : decode cX0_makeWhole 38 = .ok (.aload_n 1, 1) := by decide +kernel
theorem dX0_makeWhole_39 : decode cX0_makeWhole 39 = .ok (.iload_n 2, 1) := by decide +kernel
theorem dX0_makeWhole_40 : decode cX0_makeWhole 40 = .ok (.iaload, 1) := by decide +kernel
theorem dX0_makeWhole_41 : decode cX0_makeWhole 41 = .ok (.iastore, 1) := by decide +kernel
theorem dX0_makeWhole_42 : decode cX0_makeWhole 42 = .ok (.iinc 2 1, 3) := by decide +kernel
theorem dX0_makeWhole_45 : decode cX0_makeWhole 45 = .ok (.goto (-27), 3) := by decide +kernel
theorem dX0_makeWhole_48 : decode cX0_makeWhole 48 = .ok (.return_, 1) := by decide +kernel
theorem dX0_makeDifference_0 : decode cX0_makeDifference 0 = .ok (.aload_n 0, 1) := by decide +kernel
theorem dX0_makeDifference_1 : decode cX0_makeDifference 1 = .ok (.iload_n 1, 1) := by decide +kernel
theorem dX0_makeDifference_2 : decode cX0_makeDifference 2 = .ok (.putfield 21, 3) := by decide +kernel
theorem dX0_makeDifference_5 : decode cX0_makeDifference 5 = .ok (.aload_n 0, 1) := by decide +kernel
theorem dX0_makeDifference_6 : decode cX0_makeDifference 6 = .ok (.iconst 0, 1) := by decide +kernel
theorem dX0_makeDifference_7 : decode cX0_makeDifference 7 = .ok (.putfield 24, 3) := by decide +kernel
theorem dX0_makeDifference_10 : decode cX0_makeDifference 10 = .ok (.iconst 0, 1) := by decide +kernel
theorem dX0_makeDifference_11 : decode cX0_makeDifference 11 = .ok (.istore 4, 2) := by decide +kernel
theorem dX0_makeDifference_13 : decode cX0_makeDifference 13 = .ok (.iload 4, 2) := by decide +kernel
theorem dX0_makeDifference_15 : decode cX0_makeDifference 15 = .ok (.aload_n 0, 1) := by decide +kernel
theorem dX0_makeDifference_16 : decode cX0_makeDifference 16 = .ok (.getfield 15, 3) := by decide +kernel
theorem dX0_makeDifference_19 : decode cX0_makeDifference 19 = .ok (.invokestatic 40, 3) := by decide +kernel
theorem dX0_makeDifference_22 : decode cX0_makeDifference 22 = .ok (.if_icmp .ge 54, 3) := by decide +kernel
theorem dX0_makeDifference_25 : decode cX0_makeDifference 25 = .ok (.aload_n 3, 1) := by decide +kernel
theorem dX0_makeDifference_26 : decode cX0_makeDifference 26 = .ok (.iload 4, 2) := by decide +kernel
theorem dX0_makeDifference_28 : decode cX0_makeDifference 28 = .ok (.iaload, 1) := by decide +kernel
theorem dX0_makeDifference_29 : decode cX0_makeDifference 29 = .ok (.aload_n 2, 1) := by decide +kernel
theorem dX0_makeDifference_30 : decode cX0_makeDifference 30 = .ok (.iload 4, 2) := by decide +kernel
theorem dX0_makeDifference_32 : decode cX0_makeDifference 32 = .ok (.iaload, 1) := by decide +kernel
theorem dX0_makeDifference_33 : decode cX0_makeDifference 33 = .ok (.if_icmp .eq 37, 3) := by decide +kernel
theorem dX0_makeDifference_36 : decode cX0_makeDifference 36 = .ok (.aload_n 0, 1) := by decide +kernel
theorem dX0_makeDifference_37 : decode cX0_makeDifference 37 = .ok (.getfield 27, 3) := by decide +kernel
theorem dX0_makeDifference_40 : decode cX0_makeDifference 40 = .ok (.aload_n 0, 1) := by decide +kernel
theorem dX0_makeDifference_41 : decode cX0_makeDifference 41 = .ok (.getfield 24, 3) := by decide +kernel
theorem dX0_makeDifference_44 : decode cX0_makeDifference 44 = .ok (.iload 4, 2) := by decide +kernel
theorem dX0_makeDifference_46 : decode cX0_makeDifference 46 = .ok (.iastore, 1) := by decide +kernel
theorem dX0_makeDifference_47 : decode cX0_makeDifference 47 = .ok (.aload_n 0, 1) := by decide +kernel
theorem dX0_makeDifference_48 : decode cX0_makeDifference 48 = .ok (.getfield 31, 3) := by decide +kernel
theorem dX0_makeDifference_51 : decode cX0_makeDifference 51 = .ok (.aload_n 0, 1) := by decide +kernel
theorem dX0_makeDifference_52 : decode cX0_makeDifference 52 = .ok (.getfield 24, 3) := by decide +kernel
theorem dX0_makeDifference_55 : decode cX0_makeDifference 55 = .ok (.aload_n 3, 1) := by decide +kernel
theorem dX0_makeDifference_56 : decode cX0_makeDifference 56 = .ok (.iload 4, 2) := by decide +kernel
theorem dX0_makeDifference_58 : decode cX0_makeDifference 58 = .ok (.iaload, 1) := by decide +kernel
theorem dX0_makeDifference_59 : decode cX0_makeDifference 59 = .ok (.iastore, 1) := by decide +kernel
theorem dX0_makeDifference_60 : decode cX0_makeDifference 60 = .ok (.aload_n 0, 1) := by decide +kernel
theorem dX0_makeDifference_61 : decode cX0_makeDifference 61 = .ok (.dup, 1) := by decide +kernel
theorem dX0_makeDifference_62 : decode cX0_makeDifference 62 = .ok (.getfield 24, 3) := by decide +kernel
theorem dX0_makeDifference_65 : decode cX0_makeDifference 65 = .ok (.iconst 1, 1) := by decide +kernel
theorem dX0_makeDifference_66 : decode cX0_makeDifference 66 = .ok (.iadd, 1) := by decide +kernel
theorem dX0_makeDifference_67 : decode cX0_makeDifference 67 = .ok (.putfield 24, 3) := by decide +kernel
theorem dX0_makeDifference_70 : decode cX0_makeDifference 70 = .ok (.iinc 4 1, 3) := by decide +kernel
theorem dX0_makeDifference_73 : decode cX0_makeDifference 73 = .ok (.goto (-60), 3) := by decide +kernel
theorem dX0_makeDifference_76 : decode cX0_makeDifference 76 = .ok (.return_, 1) := by decide +kernel
theorem dX0_weight_0 : decode cX0_weight 0 = .ok (.aload_n 0, 1) := by decide +kernel
theorem dX0_weight_1 : decode cX0_weight 1 = .ok (.getfield 21, 3) := by decide +kernel
theorem dX0_weight_4 : decode cX0_weight 4 = .ok (.iconst (-1), 1) := by decide +kernel
theorem dX0_weight_5 : decode cX0_weight 5 = .ok (.if_icmp .ne 10, 3) := by decide +kernel
theorem dX0_weight_8 : decode cX0_weight 8 = .ok (.aload_n 0, 1) := by decide +kernel
theorem dX0_weight_9 : decode cX0_weight 9 = .ok (.getfield 24, 3) := by decide +kernel
theorem dX0_weight_12 : decode cX0_weight 12 = .ok (.goto 11, 3) := by decide +kernel
theorem dX0_weight_15 : decode cX0_weight 15 = .ok (.iconst 2, 1) := by decide +kernel
theorem dX0_weight_16 : decode cX0_weight 16 = .ok (.iconst 2, 1) := by decide +kernel
theorem dX0_weight_17 : decode cX0_weight 17 = .ok (.aload_n 0, 1) := by decide +kernel
theorem dX0_weight_18 : decode cX0_weight 18 = .ok (.getfield 24, 3) := by decide +kernel
theorem dX0_weight_21 : decode cX0_weight 21 = .ok (.imul, 1) := by decide +kernel
theorem dX0_weight_22 : decode cX0_weight 22 = .ok (.iadd, 1) := by decide +kernel
theorem dX0_weight_23 : decode cX0_weight 23 = .ok (.ireturn, 1) := by decide +kernel
theorem dX1_init_0 : decode cX1_init 0 = .ok (.aload_n 0, 1) := by decide +kernel
theorem dX1_init_1 : decode cX1_init 1 = .ok (.invokespecial 3, 3) := by decide +kernel
theorem dX1_init_4 : decode cX1_init 4 = .ok (.aload_n 0, 1) := by decide +kernel
theorem dX1_init_5 : decode cX1_init 5 = .ok (.iconst 1, 1) := by decide +kernel
theorem dX1_init_6 : decode cX1_init 6 = .ok (.putfield 9, 3) := by decide +kernel
theorem dX1_init_9 : decode cX1_init 9 = .ok (.aload_n 0, 1) := by decide +kernel
theorem dX1_init_10 : decode cX1_init 10 = .ok (.iconst (-1), 1) := by decide +kernel
theorem dX1_init_11 : decode cX1_init 11 = .ok (.putfield 15, 3) := by decide +kernel
theorem dX1_init_14 : decode cX1_init 14 = .ok (.aload_n 0, 1) := by decide +kernel
theorem dX1_init_15 : decode cX1_init 15 = .ok (.iconst 0, 1) := by decide +kernel
theorem dX1_init_16 : decode cX1_init 16 = .ok (.putfield 18, 3) := by decide +kernel
theorem dX1_init_19 : decode cX1_init 19 = .ok (.aload_n 0, 1) := by decide +kernel
theorem dX1_init_20 : decode cX1_init 20 = .ok (.iconst 0, 1) := by decide +kernel
theorem dX1_init_21 : decode cX1_init 21 = .ok (.putfield 21, 3) := by decide +kernel
theorem dX1_init_24 : decode cX1_init 24 = .ok (.aload_n 0, 1) := by decide +kernel
theorem dX1_init_25 : decode cX1_init 25 = .ok (.bipush 12, 2) := by decide +kernel
theorem dX1_init_27 : decode cX1_init 27 = .ok (.newarray .int, 2) := by decide +kernel
theorem dX1_init_29 : decode cX1_init 29 = .ok (.putfield 24, 3) := by decide +kernel
theorem dX1_init_32 : decode cX1_init 32 = .ok (.aload_n 0, 1) := by decide +kernel
theorem dX1_init_33 : decode cX1_init 33 = .ok (.iconst 2, 1) := by decide +kernel
theorem dX1_init_34 : decode cX1_init 34 = .ok (.newarray .int, 2) := by decide +kernel
theorem dX1_init_36 : decode cX1_init 36 = .ok (.putfield 28, 3) := by decide +kernel
theorem dX1_init_39 : decode cX1_init 39 = .ok (.aload_n 0, 1) := by decide +kernel
theorem dX1_init_40 : decode cX1_init 40 = .ok (.bipush 20, 2) := by decide +kernel
theorem dX1_init_42 : decode cX1_init 42 = .ok (.anewarray 31, 3) := by decide +kernel
theorem dX1_init_45 : decode cX1_init 45 = .ok (.putfield 33, 3) := by decide +kernel
theorem dX1_init_48 : decode cX1_init 48 = .ok (.aload_n 0, 1) := by decide +kernel
theorem dX1_init_49 : decode cX1_init 49 = .ok (.getfield 28, 3) := by decide +kernel
theorem dX1_init_52 : decode cX1_init 52 = .ok (.iconst 0, 1) := by decide +kernel
theorem dX1_init_53 : decode cX1_init 53 = .ok (.iconst 4, 1) := by decide +kernel
theorem dX1_init_54 : decode cX1_init 54 = .ok (.iastore, 1) := by decide +kernel
theorem dX1_init_55 : decode cX1_init 55 = .ok (.aload_n 0, 1) := by decide +kernel
theorem dX1_init_56 : decode cX1_init 56 = .ok (.getfield 28, 3) := by decide +kernel
theorem dX1_init_59 : decode cX1_init 59 = .ok (.iconst 1, 1) := by decide +kernel
theorem dX1_init_60 : decode cX1_init 60 = .ok (.iconst 1, 1) := by decide +kernel
theorem dX1_init_61 : decode cX1_init 61 = .ok (.iastore, 1) := by decide +kernel
theorem dX1_init_62 : decode cX1_init 62 = .ok (.iconst 0, 1) := by decide +kernel
theorem dX1_init_63 : decode cX1_init 63 = .ok (.istore_n 1, 1) := by decide +kernel
theorem dX1_init_64 : decode cX1_init 64 = .ok (.iload_n 1, 1) := by decide +kernel
theorem dX1_init_65 : decode cX1_init 65 = .ok (.bipush 20, 2) := by decide +kernel
theorem dX1_init_67 : decode cX1_init 67 = .ok (.if_icmp .ge 22, 3) := by decide +kernel
theorem dX1_init_70 : decode cX1_init 70 = .ok (.aload_n 0, 1) := by decide +kernel
theorem dX1_init_71 : decode cX1_init 71 = .ok (.getfield 33, 3) := by decide +kernel
theorem dX1_init_74 : decode cX1_init 74 = .ok (.iload_n 1, 1) := by decide +kernel
theorem dX1_init_75 : decode cX1_init 75 = .ok (.new 31, 3) := by decide +kernel
theorem dX1_init_78 : decode cX1_init 78 = .ok (.dup, 1) := by decide +kernel
theorem dX1_init_79 : decode cX1_init 79 = .ok (.invokespecial 37, 3) := by decide +kernel
theorem dX1_init_82 : decode cX1_init 82 = .ok (.aastore, 1) := by decide +kernel
theorem dX1_init_83 : decode cX1_init 83 = .ok (.iinc 1 1, 3) := by decide +kernel
theorem dX1_init_86 : decode cX1_init 86 = .ok (.goto (-22), 3) := by decide +kernel
theorem dX1_init_89 : decode cX1_init 89 = .ok (.return_, 1) := by decide +kernel
theorem dX1_copyFrom_0 : decode cX1_copyFrom 0 = .ok (.aload_n 0, 1) := by decide +kernel
theorem dX1_copyFrom_1 : decode cX1_copyFrom 1 = .ok (.aload_n 1, 1) := by decide +kernel
theorem dX1_copyFrom_2 : decode cX1_copyFrom 2 = .ok (.getfield 9, 3) := by decide +kernel
theorem dX1_copyFrom_5 : decode cX1_copyFrom 5 = .ok (.putfield 9, 3) := by decide +kernel
theorem dX1_copyFrom_8 : decode cX1_copyFrom 8 = .ok (.aload_n 0, 1) := by decide +kernel
theorem dX1_copyFrom_9 : decode cX1_copyFrom 9 = .ok (.aload_n 1, 1) := by decide +kernel
theorem dX1_copyFrom_10 : decode cX1_copyFrom 10 = .ok (.getfield 15, 3) := by decide +kernel
theorem dX1_copyFrom_13 : decode cX1_copyFrom 13 = .ok (.putfield 15, 3) := by decide +kernel
theorem dX1_copyFrom_16 : decode cX1_copyFrom 16 = .ok (.aload_n 0, 1) := by decide +kernel
theorem dX1_copyFrom_17 : decode cX1_copyFrom 17 = .ok (.aload_n 1, 1) := by decide +kernel
theorem dX1_copyFrom_18 : decode cX1_copyFrom 18 = .ok (.getfield 18, 3) := by decide +kernel
theorem dX1_copyFrom_21 : decode cX1_copyFrom 21 = .ok (.putfield 18, 3) := by decide +kernel
theorem dX1_copyFrom_24 : decode cX1_copyFrom 24 = .ok (.aload_n 0, 1) := by decide +kernel
theorem dX1_copyFrom_25 : decode cX1_copyFrom 25 = .ok (.aload_n 1, 1) := by decide +kernel
theorem dX1_copyFrom_26 : decode cX1_copyFrom 26 = .ok (.getfield 21, 3) := by decide +kernel
theorem dX1_copyFrom_29 : decode cX1_copyFrom 29 = .ok (.putfield 21, 3) := by decide +kernel
theorem dX1_copyFrom_32 : decode cX1_copyFrom 32 = .ok (.aload_n 1, 1) := by decide +kernel
theorem dX1_copyFrom_33 : decode cX1_copyFrom 33 = .ok (.getfield 24, 3) := by decide +kernel
theorem dX1_copyFrom_36 : decode cX1_copyFrom 36 = .ok (.iconst 0, 1) := by decide +kernel
theorem dX1_copyFrom_37 : decode cX1_copyFrom 37 = .ok (.aload_n 0, 1) := by decide +kernel
theorem dX1_copyFrom_38 : decode cX1_copyFrom 38 = .ok (.getfield 24, 3) := by decide +kernel
theorem dX1_copyFrom_41 : decode cX1_copyFrom 41 = .ok (.iconst 0, 1) := by decide +kernel
theorem dX1_copyFrom_42 : decode cX1_copyFrom 42 = .ok (.bipush 12, 2) := by decide +kernel
theorem dX1_copyFrom_44 : decode cX1_copyFrom 44 = .ok (.invokestatic 38, 3) := by decide +kernel
theorem dX1_copyFrom_47 : decode cX1_copyFrom 47 = .ok (.aload_n 1, 1) := by decide +kernel
theorem dX1_copyFrom_48 : decode cX1_copyFrom 48 = .ok (.getfield 28, 3) := by decide +kernel
theorem dX1_copyFrom_51 : decode cX1_copyFrom 51 = .ok (.iconst 0, 1) := by decide +kernel
theorem dX1_copyFrom_52 : decode cX1_copyFrom 52 = .ok (.aload_n 0, 1) := by decide +kernel
theorem dX1_copyFrom_53 : decode cX1_copyFrom 53 = .ok (.getfield 28, 3) := by decide +kernel
theorem dX1_copyFrom_56 : decode cX1_copyFrom 56 = .ok (.iconst 0, 1) := by decide +kernel
theorem dX1_copyFrom_57 : decode cX1_copyFrom 57 = .ok (.iconst 2, 1) := by decide +kernel
theorem dX1_copyFrom_58 : decode cX1_copyFrom 58 = .ok (.invokestatic 38, 3) := by decide +kernel
theorem dX1_copyFrom_61 : decode cX1_copyFrom 61 = .ok (.iconst 0, 1) := by decide +kernel
theorem dX1_copyFrom_62 : decode cX1_copyFrom 62 = .ok (.istore_n 2, 1) := by decide +kernel
theorem dX1_copyFrom_63 : decode cX1_copyFrom 63 = .ok (.iload_n 2, 1) := by decide +kernel
theorem dX1_copyFrom_64 : decode cX1_copyFrom 64 = .ok (.aload_n 0, 1) := by decide +kernel
theorem dX1_copyFrom_65 : decode cX1_copyFrom 65 = .ok (.getfield 21, 3) := by decide +kernel
theorem dX1_copyFrom_68 : decode cX1_copyFrom 68 = .ok (.if_icmp .ge 24, 3) := by decide +kernel
theorem dX1_copyFrom_71 : decode cX1_copyFrom 71 = .ok (.aload_n 0, 1) := by decide +kernel
theorem dX1_copyFrom_72 : decode cX1_copyFrom 72 = .ok (.getfield 33, 3) := by decide +kernel
theorem dX1_copyFrom_75 : decode cX1_copyFrom 75 = .ok (.iload_n 2, 1) := by decide +kernel
theorem dX1_copyFrom_76 : decode cX1_copyFrom 76 = .ok (.aaload, 1) := by decide +kernel
theorem dX1_copyFrom_77 : decode cX1_copyFrom 77 = .ok (.aload_n 1, 1) := by decide +kernel
theorem dX1_copyFrom_78 : decode cX1_copyFrom 78 = .ok (.getfield 33, 3) := by decide +kernel
theorem dX1_copyFrom_81 : decode cX1_copyFrom 81 = .ok (.iload_n 2, 1) := by decide +kernel
theorem dX1_copyFrom_82 : decode cX1_copyFrom 82 = .ok (.aaload, 1) := by decide +kernel
theorem dX1_copyFrom_83 : decode cX1_copyFrom 83 = .ok (.invokevirtual 44, 3) := by decide +kernel
theorem dX1_copyFrom_86 : decode cX1_copyFrom 86 = .ok (.iinc 2 1, 3) := by decide +kernel
theorem dX1_copyFrom_89 : decode cX1_copyFrom 89 = .ok (.goto (-26), 3) := by decide +kernel
theorem dX1_copyFrom_92 : decode cX1_copyFrom 92 = .ok (.return_, 1) := by decide +kernel
theorem dX1_placeOf_0 : decode cX1_placeOf 0 = .ok (.iconst 0, 1) := by decide +kernel
theorem dX1_placeOf_1 : decode cX1_placeOf 1 = .ok (.istore_n 2, 1) := by decide +kernel
theorem dX1_placeOf_2 : decode cX1_placeOf 2 = .ok (.iload_n 2, 1) := by decide +kernel
theorem dX1_placeOf_3 : decode cX1_placeOf 3 = .ok (.aload_n 0, 1) := by decide +kernel
theorem dX1_placeOf_4 : decode cX1_placeOf 4 = .ok (.getfield 21, 3) := by decide +kernel
theorem dX1_placeOf_7 : decode cX1_placeOf 7 = .ok (.if_icmp .ge 24, 3) := by decide +kernel
theorem dX1_placeOf_10 : decode cX1_placeOf 10 = .ok (.aload_n 0, 1) := by decide +kernel
theorem dX1_placeOf_11 : decode cX1_placeOf 11 = .ok (.getfield 33, 3) := by decide +kernel
theorem dX1_placeOf_14 : decode cX1_placeOf 14 = .ok (.iload_n 2, 1) := by decide +kernel
theorem dX1_placeOf_15 : decode cX1_placeOf 15 = .ok (.aaload, 1) := by decide +kernel
theorem dX1_placeOf_16 : decode cX1_placeOf 16 = .ok (.getfield 48, 3) := by decide +kernel
theorem dX1_placeOf_19 : decode cX1_placeOf 19 = .ok (.iload_n 1, 1) := by decide +kernel
theorem dX1_placeOf_20 : decode cX1_placeOf 20 = .ok (.if_icmp .ne 5, 3) := by decide +kernel
theorem dX1_placeOf_23 : decode cX1_placeOf 23 = .ok (.iload_n 2, 1) := by decide +kernel
theorem dX1_placeOf_24 : decode cX1_placeOf 24 = .ok (.ireturn, 1) := by decide +kernel
theorem dX1_placeOf_25 : decode cX1_placeOf 25 = .ok (.iinc 2 1, 3) := by decide +kernel
theorem dX1_placeOf_28 : decode cX1_placeOf 28 = .ok (.goto (-26), 3) := by decide +kernel
theorem dX1_placeOf_31 : decode cX1_placeOf 31 = .ok (.iconst (-1), 1) := by decide +kernel
theorem dX1_placeOf_32 : decode cX1_placeOf 32 = .ok (.ireturn, 1) := by decide +kernel
theorem dX1_baseOf_0 : decode cX1_baseOf 0 = .ok (.aload_n 0, 1) := by decide +kernel
theorem dX1_baseOf_1 : decode cX1_baseOf 1 = .ok (.iload_n 1, 1) := by decide +kernel
theorem dX1_baseOf_2 : decode cX1_baseOf 2 = .ok (.invokevirtual 51, 3) := by decide +kernel
theorem dX1_baseOf_5 : decode cX1_baseOf 5 = .ok (.istore_n 2, 1) := by decide +kernel
theorem dX1_baseOf_6 : decode cX1_baseOf 6 = .ok (.iload_n 2, 1) := by decide +kernel
theorem dX1_baseOf_7 : decode cX1_baseOf 7 = .ok (.iconst (-1), 1) := by decide +kernel
theorem dX1_baseOf_8 : decode cX1_baseOf 8 = .ok (.if_icmp .ne 7, 3) := by decide +kernel
theorem dX1_baseOf_11 : decode cX1_baseOf 11 = .ok (.iconst (-1), 1) := by decide +kernel
theorem dX1_baseOf_12 : decode cX1_baseOf 12 = .ok (.goto 12, 3) := by decide +kernel
theorem dX1_baseOf_15 : decode cX1_baseOf 15 = .ok (.aload_n 0, 1) := by decide +kernel
theorem dX1_baseOf_16 : decode cX1_baseOf 16 = .ok (.getfield 33, 3) := by decide +kernel
theorem dX1_baseOf_19 : decode cX1_baseOf 19 = .ok (.iload_n 2, 1) := by decide +kernel
theorem dX1_baseOf_20 : decode cX1_baseOf 20 = .ok (.aaload, 1) := by decide +kernel
theorem dX1_baseOf_21 : decode cX1_baseOf 21 = .ok (.getfield 55, 3) := by decide +kernel
theorem dX1_baseOf_24 : decode cX1_baseOf 24 = .ok (.ireturn, 1) := by decide +kernel
theorem dX1_linksOf_0 : decode cX1_linksOf 0 = .ok (.iconst 1, 1) := by decide +kernel
theorem dX1_linksOf_1 : decode cX1_linksOf 1 = .ok (.istore_n 2, 1) := by decide +kernel
theorem dX1_linksOf_2 : decode cX1_linksOf 2 = .ok (.aload_n 0, 1) := by decide +kernel
theorem dX1_linksOf_3 : decode cX1_linksOf 3 = .ok (.iload_n 1, 1) := by decide +kernel
theorem dX1_linksOf_4 : decode cX1_linksOf 4 = .ok (.invokevirtual 58, 3) := by decide +kernel
theorem dX1_linksOf_7 : decode cX1_linksOf 7 = .ok (.istore_n 3, 1) := by decide +kernel
theorem dX1_linksOf_8 : decode cX1_linksOf 8 = .ok (.iconst 0, 1) := by decide +kernel
theorem dX1_linksOf_9 : decode cX1_linksOf 9 = .ok (.istore 4, 2) := by decide +kernel
theorem dX1_linksOf_11 : decode cX1_linksOf 11 = .ok (.iload 4, 2) := by decide +kernel
theorem dX1_linksOf_13 : decode cX1_linksOf 13 = .ok (.bipush 99, 2) := by decide +kernel
theorem dX1_linksOf_15 : decode cX1_linksOf 15 = .ok (.if_icmp .ge 23, 3) := by decide +kernel
theorem dX1_linksOf_18 : decode cX1_linksOf 18 = .ok (.iload_n 3, 1) := by decide +kernel
theorem dX1_linksOf_19 : decode cX1_linksOf 19 = .ok (.iconst (-1), 1) := by decide +kernel
theorem dX1_linksOf_20 : decode cX1_linksOf 20 = .ok (.if_icmp .eq 18, 3) := by decide +kernel
theorem dX1_linksOf_23 : decode cX1_linksOf 23 = .ok (.iinc 2 1, 3) := by decide +kernel
theorem dX1_linksOf_26 : decode cX1_linksOf 26 = .ok (.aload_n 0, 1) := by decide +kernel
theorem dX1_linksOf_27 : decode cX1_linksOf 27 = .ok (.iload_n 3, 1) := by decide +kernel
theorem dX1_linksOf_28 : decode cX1_linksOf 28 = .ok (.invokevirtual 58, 3) := by decide +kernel
theorem dX1_linksOf_31 : decode cX1_linksOf 31 = .ok (.istore_n 3, 1) := by decide +kernel
theorem dX1_linksOf_32 : decode cX1_linksOf 32 = .ok (.iinc 4 1, 3) := by decide +kernel
theorem dX1_linksOf_35 : decode cX1_linksOf 35 = .ok (.goto (-24), 3) := by decide +kernel
theorem dX1_linksOf_38 : decode cX1_linksOf 38 = .ok (.iload_n 2, 1) := by decide +kernel
theorem dX1_linksOf_39 : decode cX1_linksOf 39 = .ok (.ireturn, 1) := by decide +kernel
theorem dX1_longestChain_0 : decode cX1_longestChain 0 = .ok (.iconst 0, 1) := by decide +kernel
theorem dX1_longestChain_1 : decode cX1_longestChain 1 = .ok (.istore_n 1, 1) := by decide +kernel
theorem dX1_longestChain_2 : decode cX1_longestChain 2 = .ok (.iconst 0, 1) := by decide +kernel
theorem dX1_longestChain_3 : decode cX1_longestChain 3 = .ok (.istore_n 2, 1) := by decide +kernel
theorem dX1_longestChain_4 : decode cX1_longestChain 4 = .ok (.iload_n 2, 1) := by decide +kernel
theorem dX1_longestChain_5 : decode cX1_longestChain 5 = .ok (.aload_n 0, 1) := by decide +kernel
theorem dX1_longestChain_6 : decode cX1_longestChain 6 = .ok (.getfield 21, 3) := by decide +kernel
theorem dX1_longestChain_9 : decode cX1_longestChain 9 = .ok (.if_icmp .ge 27, 3) := by decide +kernel
theorem dX1_longestChain_12 : decode cX1_longestChain 12 = .ok (.iload_n 1, 1) := by decide +kernel
theorem dX1_longestChain_13 : decode cX1_longestChain 13 = .ok (.aload_n 0, 1) := by decide +kernel
theorem dX1_longestChain_14 : decode cX1_longestChain 14 = .ok (.aload_n 0, 1) := by decide +kernel
theorem dX1_longestChain_15 : decode cX1_longestChain 15 = .ok (.getfield 33, 3) := by decide +kernel
theorem dX1_longestChain_18 : decode cX1_longestChain 18 = .ok (.iload_n 2, 1) := by decide +kernel
theorem dX1_longestChain_19 : decode cX1_longestChain 19 = .ok (.aaload, 1) := by decide +kernel
theorem dX1_longestChain_20 : decode cX1_longestChain 20 = .ok (.getfield 48, 3) := by decide +kernel
theorem dX1_longestChain_23 : decode cX1_longestChain 23 = .ok (.invokevirtual 61, 3) := by decide +kernel
theorem dX1_longestChain_26 : decode cX1_longestChain 26 = .ok (.invokestatic 64, 3) := by decide +kernel
theorem dX1_longestChain_29 : decode cX1_longestChain 29 = .ok (.istore_n 1, 1) := by decide +kernel
theorem dX1_longestChain_30 : decode cX1_longestChain 30 = .ok (.iinc 2 1, 3) := by decide +kernel
theorem dX1_longestChain_33 : decode cX1_longestChain 33 = .ok (.goto (-29), 3) := by decide +kernel
theorem dX1_longestChain_36 : decode cX1_longestChain 36 = .ok (.iload_n 1, 1) := by decide +kernel
theorem dX1_longestChain_37 : decode cX1_longestChain 37 = .ok (.ireturn, 1) := by decide +kernel
theorem dX1_followersOf_0 : decode cX1_followersOf 0 = .ok (.iconst 0, 1) := by decide +kernel
theorem dX1_followersOf_1 : decode cX1_followersOf 1 = .ok (.istore_n 2, 1) := by decide +kernel
theorem dX1_followersOf_2 : decode cX1_followersOf 2 = .ok (.iconst 0, 1) := by decide +kernel
theorem dX1_followersOf_3 : decode cX1_followersOf 3 = .ok (.istore_n 3, 1) := by decide +kernel
theorem dX1_followersOf_4 : decode cX1_followersOf 4 = .ok (.iload_n 3, 1) := by decide +kernel
theorem dX1_followersOf_5 : decode cX1_followersOf 5 = .ok (.aload_n 0, 1) := by decide +kernel
theorem dX1_followersOf_6 : decode cX1_followersOf 6 = .ok (.getfield 21, 3) := by decide +kernel
theorem dX1_followersOf_9 : decode cX1_followersOf 9 = .ok (.if_icmp .ge 25, 3) := by decide +kernel
theorem dX1_followersOf_12 : decode cX1_followersOf 12 = .ok (.aload_n 0, 1) := by decide +kernel
theorem dX1_followersOf_13 : decode cX1_followersOf 13 = .ok (.getfield 33, 3) := by decide +kernel
theorem dX1_followersOf_16 : decode cX1_followersOf 16 = .ok (.iload_n 3, 1) := by decide +kernel
theorem dX1_followersOf_17 : decode cX1_followersOf 17 = .ok (.aaload, 1) := by decide +kernel
theorem dX1_followersOf_18 : decode cX1_followersOf 18 = .ok (.getfield 55, 3) := by decide +kernel
theorem dX1_followersOf_21 : decode cX1_followersOf 21 = .ok (.iload_n 1, 1) := by decide +kernel
theorem dX1_followersOf_22 : decode cX1_followersOf 22 = .ok (.if_icmp .ne 6, 3) := by decide +kernel
theorem dX1_followersOf_25 : decode cX1_followersOf 25 = .ok (.iinc 2 1, 3) := by decide +kernel
theorem dX1_followersOf_28 : decode cX1_followersOf 28 = .ok (.iinc 3 1, 3) := by decide +kernel
theorem dX1_followersOf_31 : decode cX1_followersOf 31 = .ok (.goto (-27), 3) := by decide +kernel
theorem dX1_followersOf_34 : decode cX1_followersOf 34 = .ok (.iload_n 2, 1) := by decide +kernel
theorem dX1_followersOf_35 : decode cX1_followersOf 35 = .ok (.ireturn, 1) := by decide +kernel
theorem dX1_wholeOnes_0 : decode cX1_wholeOnes 0 = .ok (.aload_n 0, 1) := by decide +kernel
theorem dX1_wholeOnes_1 : decode cX1_wholeOnes 1 = .ok (.iconst (-1), 1) := by decide +kernel
theorem dX1_wholeOnes_2 : decode cX1_wholeOnes 2 = .ok (.invokevirtual 70, 3) := by decide +kernel
theorem dX1_wholeOnes_5 : decode cX1_wholeOnes 5 = .ok (.ireturn, 1) := by decide +kernel
theorem dX1_weight_0 : decode cX1_weight 0 = .ok (.iconst 0, 1) := by decide +kernel
theorem dX1_weight_1 : decode cX1_weight 1 = .ok (.istore_n 1, 1) := by decide +kernel
theorem dX1_weight_2 : decode cX1_weight 2 = .ok (.iconst 0, 1) := by decide +kernel
theorem dX1_weight_3 : decode cX1_weight 3 = .ok (.istore_n 2, 1) := by decide +kernel
theorem dX1_weight_4 : decode cX1_weight 4 = .ok (.iload_n 2, 1) := by decide +kernel
theorem dX1_weight_5 : decode cX1_weight 5 = .ok (.aload_n 0, 1) := by decide +kernel
theorem dX1_weight_6 : decode cX1_weight 6 = .ok (.getfield 21, 3) := by decide +kernel
theorem dX1_weight_9 : decode cX1_weight 9 = .ok (.if_icmp .ge 21, 3) := by decide +kernel
theorem dX1_weight_12 : decode cX1_weight 12 = .ok (.iload_n 1, 1) := by decide +kernel
theorem dX1_weight_13 : decode cX1_weight 13 = .ok (.aload_n 0, 1) := by decide +kernel
theorem dX1_weight_14 : decode cX1_weight 14 = .ok (.getfield 33, 3) := by decide +kernel
theorem dX1_weight_17 : decode cX1_weight 17 = .ok (.iload_n 2, 1) := by decide +kernel
theorem dX1_weight_18 : decode cX1_weight 18 = .ok (.aaload, 1) := by decide +kernel
theorem dX1_weight_19 : decode cX1_weight 19 = .ok (.invokevirtual 73, 3) := by decide +kernel
theorem dX1_weight_22 : decode cX1_weight 22 = .ok (.iadd, 1) := by decide +kernel
theorem dX1_weight_23 : decode cX1_weight 23 = .ok (.istore_n 1, 1) := by decide +kernel
theorem dX1_weight_24 : decode cX1_weight 24 = .ok (.iinc 2 1, 3) := by decide +kernel
theorem dX1_weight_27 : decode cX1_weight 27 = .ok (.goto (-23), 3) := by decide +kernel
theorem dX1_weight_30 : decode cX1_weight 30 = .ok (.iload_n 1, 1) := by decide +kernel
theorem dX1_weight_31 : decode cX1_weight 31 = .ok (.ireturn, 1) := by decide +kernel
theorem dX1_removePlace_0 : decode cX1_removePlace 0 = .ok (.aload_n 0, 1) := by decide +kernel
theorem dX1_removePlace_1 : decode cX1_removePlace 1 = .ok (.getfield 33, 3) := by decide +kernel
theorem dX1_removePlace_4 : decode cX1_removePlace 4 = .ok (.iload_n 1, 1) := by decide +kernel
theorem dX1_removePlace_5 : decode cX1_removePlace 5 = .ok (.aaload, 1) := by decide +kernel
theorem dX1_removePlace_6 : decode cX1_removePlace 6 = .ok (.astore_n 2, 1) := by decide +kernel
theorem dX1_removePlace_7 : decode cX1_removePlace 7 = .ok (.iload_n 1, 1) := by decide +kernel
theorem dX1_removePlace_8 : decode cX1_removePlace 8 = .ok (.iconst 1, 1) := by decide +kernel
theorem dX1_removePlace_9 : decode cX1_removePlace 9 = .ok (.iadd, 1) := by decide +kernel
theorem dX1_removePlace_10 : decode cX1_removePlace 10 = .ok (.istore_n 3, 1) := by decide +kernel
theorem dX1_removePlace_11 : decode cX1_removePlace 11 = .ok (.iload_n 3, 1) := by decide +kernel
theorem dX1_removePlace_12 : decode cX1_removePlace 12 = .ok (.aload_n 0, 1) := by decide +kernel
theorem dX1_removePlace_13 : decode cX1_removePlace 13 = .ok (.getfield 21, 3) := by decide +kernel
theorem dX1_removePlace_16 : decode cX1_removePlace 16 = .ok (.if_icmp .ge 23, 3) := by decide +kernel
theorem dX1_removePlace_19 : decode cX1_removePlace 19 = .ok (.aload_n 0, 1) := by decide +kernel
theorem dX1_removePlace_20 : decode cX1_removePlace 20 = .ok (.getfield 33, 3) := by decide +kernel
theorem dX1_removePlace_23 : decode cX1_removePlace 23 = .ok (.iload_n 3, 1) := by decide +kernel
theorem dX1_removePlace_24 : decode cX1_removePlace 24 = .ok (.iconst 1, 1) := by decide +kernel
theorem dX1_removePlace_25 : decode cX1_removePlace 25 = .ok (.isub, 1) := by decide +kernel
theorem dX1_removePlace_26 : decode cX1_removePlace 26 = .ok (.aload_n 0, 1) := by decide +kernel
theorem dX1_removePlace_27 : decode cX1_removePlace 27 = .ok (.getfield 33, 3) := by decide +kernel
theorem dX1_removePlace_30 : decode cX1_removePlace 30 = .ok (.iload_n 3, 1) := by decide +kernel
theorem dX1_removePlace_31 : decode cX1_removePlace 31 = .ok (.aaload, 1) := by decide +kernel
theorem dX1_removePlace_32 : decode cX1_removePlace 32 = .ok (.aastore, 1) := by decide +kernel
theorem dX1_removePlace_33 : decode cX1_removePlace 33 = .ok (.iinc 3 1, 3) := by decide +kernel
theorem dX1_removePlace_36 : decode cX1_removePlace 36 = .ok (.goto (-25), 3) := by decide +kernel
theorem dX1_removePlace_39 : decode cX1_removePlace 39 = .ok (.aload_n 0, 1) := by decide +kernel
theorem dX1_removePlace_40 : decode cX1_removePlace 40 = .ok (.dup, 1) := by decide +kernel
theorem dX1_removePlace_41 : decode cX1_removePlace 41 = .ok (.getfield 21, 3) := by decide +kernel
theorem dX1_removePlace_44 : decode cX1_removePlace 44 = .ok (.iconst 1, 1) := by decide +kernel
theorem dX1_removePlace_45 : decode cX1_removePlace 45 = .ok (.isub, 1) := by decide +kernel
theorem dX1_removePlace_46 : decode cX1_removePlace 46 = .ok (.putfield 21, 3) := by decide +kernel
theorem dX1_removePlace_49 : decode cX1_removePlace 49 = .ok (.aload_n 0, 1) := by decide +kernel
theorem dX1_removePlace_50 : decode cX1_removePlace 50 = .ok (.getfield 33, 3) := by decide +kernel
theorem dX1_removePlace_53 : decode cX1_removePlace 53 = .ok (.aload_n 0, 1) := by decide +kernel
theorem dX1_removePlace_54 : decode cX1_removePlace 54 = .ok (.getfield 21, 3) := by decide +kernel
theorem dX1_removePlace_57 : decode cX1_removePlace 57 = .ok (.aload_n 2, 1) := by decide +kernel
theorem dX1_removePlace_58 : decode cX1_removePlace 58 = .ok (.aastore, 1) := by decide +kernel
theorem dX1_removePlace_59 : decode cX1_removePlace 59 = .ok (.return_, 1) := by decide +kernel
theorem dX2_init_0 : decode cX2_init 0 = .ok (.aload_n 0, 1) := by decide +kernel
theorem dX2_init_1 : decode cX2_init 1 = .ok (.invokespecial 3, 3) := by decide +kernel
theorem dX2_init_4 : decode cX2_init 4 = .ok (.aload_n 0, 1) := by decide +kernel
theorem dX2_init_5 : decode cX2_init 5 = .ok (.bipush 20, 2) := by decide +kernel
theorem dX2_init_7 : decode cX2_init 7 = .ok (.bipush 12, 2) := by decide +kernel
theorem dX2_init_9 : decode cX2_init 9 = .ok (.multianewarray 9 2, 4) := by decide +kernel
theorem dX2_init_13 : decode cX2_init 13 = .ok (.putfield 11, 3) := by decide +kernel
theorem dX2_init_16 : decode cX2_init 16 = .ok (.aload_n 0, 1) := by decide +kernel
theorem dX2_init_17 : decode cX2_init 17 = .ok (.bipush 20, 2) := by decide +kernel
theorem dX2_init_19 : decode cX2_init 19 = .ok (.newarray .int, 2) := by decide +kernel
theorem dX2_init_21 : decode cX2_init 21 = .ok (.putfield 16, 3) := by decide +kernel
theorem dX2_init_24 : decode cX2_init 24 = .ok (.return_, 1) := by decide +kernel
theorem dX2_readAll_0 : decode cX2_readAll 0 = .ok (.iconst 0, 1) := by decide +kernel
theorem dX2_readAll_1 : decode cX2_readAll 1 = .ok (.istore_n 2, 1) := by decide +kernel
theorem dX2_readAll_2 : decode cX2_readAll 2 = .ok (.iload_n 2, 1) := by decide +kernel
theorem dX2_readAll_3 : decode cX2_readAll 3 = .ok (.aload_n 1, 1) := by decide +kernel
theorem dX2_readAll_4 : decode cX2_readAll 4 = .ok (.getfield 20, 3) := by decide +kernel
theorem dX2_readAll_7 : decode cX2_readAll 7 = .ok (.if_icmp .ge 21, 3) := by decide +kernel
theorem dX2_readAll_10 : decode cX2_readAll 10 = .ok (.aload_n 0, 1) := by decide +kernel
theorem dX2_readAll_11 : decode cX2_readAll 11 = .ok (.getfield 16, 3) := by decide +kernel
theorem dX2_readAll_14 : decode cX2_readAll 14 = .ok (.iload_n 2, 1) := by decide +kernel
theorem dX2_readAll_15 : decode cX2_readAll 15 = .ok (.aload_n 0, 1) := by decide +kernel
theorem dX2_readAll_16 : decode cX2_readAll 16 = .ok (.aload_n 1, 1) := by decide +kernel
theorem dX2_readAll_17 : decode cX2_readAll 17 = .ok (.iload_n 2, 1) := by decide +kernel
theorem dX2_readAll_18 : decode cX2_readAll 18 = .ok (.invokevirtual 26, 3) := by decide +kernel
theorem dX2_readAll_21 : decode cX2_readAll 21 = .ok (.iastore, 1) := by decide +kernel
theorem dX2_readAll_22 : decode cX2_readAll 22 = .ok (.iinc 2 1, 3) := by decide +kernel
theorem dX2_readAll_25 : decode cX2_readAll 25 = .ok (.goto (-23), 3) := by decide +kernel
theorem dX2_readAll_28 : decode cX2_readAll 28 = .ok (.return_, 1) := by decide +kernel
theorem dX2_readPlace_0 : decode cX2_readPlace 0 = .ok (.aload_n 1, 1) := by decide +kernel
theorem dX2_readPlace_1 : decode cX2_readPlace 1 = .ok (.getfield 30, 3) := by decide +kernel
theorem dX2_readPlace_4 : decode cX2_readPlace 4 = .ok (.iload_n 2, 1) := by decide +kernel
theorem dX2_readPlace_5 : decode cX2_readPlace 5 = .ok (.aaload, 1) := by decide +kernel
theorem dX2_readPlace_6 : decode cX2_readPlace 6 = .ok (.astore_n 3, 1) := by decide +kernel
theorem dX2_readPlace_7 : decode cX2_readPlace 7 = .ok (.aload_n 0, 1) := by decide +kernel
theorem dX2_readPlace_8 : decode cX2_readPlace 8 = .ok (.getfield 11, 3) := by decide +kernel
theorem dX2_readPlace_11 : decode cX2_readPlace 11 = .ok (.iload_n 2, 1) := by decide +kernel
theorem dX2_readPlace_12 : decode cX2_readPlace 12 = .ok (.aaload, 1) := by decide +kernel
theorem dX2_readPlace_13 : decode cX2_readPlace 13 = .ok (.astore 4, 2) := by decide +kernel
theorem dX2_readPlace_15 : decode cX2_readPlace 15 = .ok (.aload_n 3, 1) := by decide +kernel
theorem dX2_readPlace_16 : decode cX2_readPlace 16 = .ok (.getfield 34, 3) := by decide +kernel
theorem dX2_readPlace_19 : decode cX2_readPlace 19 = .ok (.iconst (-1), 1) := by decide +kernel
theorem dX2_readPlace_20 : decode cX2_readPlace 20 = .ok (.if_icmp .eq 67, 3) := by decide +kernel
theorem dX2_readPlace_23 : decode cX2_readPlace 23 = .ok (.aload_n 1, 1) := by decide +kernel
theorem dX2_readPlace_24 : decode cX2_readPlace 24 = .ok (.aload_n 3, 1) := by decide +kernel
theorem dX2_readPlace_25 : decode cX2_readPlace 25 = .ok (.getfield 34, 3) := by decide +kernel
theorem dX2_readPlace_28 : decode cX2_readPlace 28 = .ok (.invokevirtual 39, 3) := by decide +kernel
theorem dX2_readPlace_31 : decode cX2_readPlace 31 = .ok (.istore 5, 2) := by decide +kernel
theorem dX2_readPlace_33 : decode cX2_readPlace 33 = .ok (.iload 5, 2) := by decide +kernel
theorem dX2_readPlace_35 : decode cX2_readPlace 35 = .ok (.iconst (-1), 1) := by decide +kernel
theorem dX2_readPlace_36 : decode cX2_readPlace 36 = .ok (.if_icmp .eq 14, 3) := by decide +kernel
theorem dX2_readPlace_39 : decode cX2_readPlace 39 = .ok (.aload_n 0, 1) := by decide +kernel
theorem dX2_readPlace_40 : decode cX2_readPlace 40 = .ok (.getfield 16, 3) := by decide +kernel
theorem dX2_readPlace_43 : decode cX2_readPlace 43 = .ok (.iload 5, 2) := by decide +kernel
theorem dX2_readPlace_45 : decode cX2_readPlace 45 = .ok (.iaload, 1) := by decide +kernel
theorem dX2_readPlace_46 : decode cX2_readPlace 46 = .ok (.iconst (-1), 1) := by decide +kernel
theorem dX2_readPlace_47 : decode cX2_readPlace 47 = .ok (.if_icmp .eq 5, 3) := by decide +kernel
theorem dX2_readPlace_50 : decode cX2_readPlace 50 = .ok (.iconst 2, 1) := by decide +kernel
theorem dX2_readPlace_51 : decode cX2_readPlace 51 = .ok (.ireturn, 1) := by decide +kernel
theorem dX2_readPlace_52 : decode cX2_readPlace 52 = .ok (.aload_n 0, 1) := by decide +kernel
theorem dX2_readPlace_53 : decode cX2_readPlace 53 = .ok (.getfield 11, 3) := by decide +kernel
theorem dX2_readPlace_56 : decode cX2_readPlace 56 = .ok (.iload 5, 2) := by decide +kernel
theorem dX2_readPlace_58 : decode cX2_readPlace 58 = .ok (.aaload, 1) := by decide +kernel
theorem dX2_readPlace_59 : decode cX2_readPlace 59 = .ok (.iconst 0, 1) := by decide +kernel
theorem dX2_readPlace_60 : decode cX2_readPlace 60 = .ok (.aload 4, 2) := by decide +kernel
theorem dX2_readPlace_62 : decode cX2_readPlace 62 = .ok (.iconst 0, 1) := by decide +kernel
theorem dX2_readPlace_63 : decode cX2_readPlace 63 = .ok (.bipush 12, 2) := by decide +kernel
theorem dX2_readPlace_65 : decode cX2_readPlace 65 = .ok (.invokestatic 43, 3) := by decide +kernel
theorem dX2_readPlace_68 : decode cX2_readPlace 68 = .ok (.aload 4, 2) := by decide +kernel
theorem dX2_readPlace_70 : decode cX2_readPlace 70 = .ok (.aload_n 1, 1) := by decide +kernel
theorem dX2_readPlace_71 : decode cX2_readPlace 71 = .ok (.getfield 30, 3) := by decide +kernel
theorem dX2_readPlace_74 : decode cX2_readPlace 74 = .ok (.iload 5, 2) := by decide +kernel
theorem dX2_readPlace_76 : decode cX2_readPlace 76 = .ok (.aaload, 1) := by decide +kernel
theorem dX2_readPlace_77 : decode cX2_readPlace 77 = .ok (.getfield 49, 3) := by decide +kernel
theorem dX2_readPlace_80 : decode cX2_readPlace 80 = .ok (.aload_n 3, 1) := by decide +kernel
theorem dX2_readPlace_81 : decode cX2_readPlace 81 = .ok (.getfield 49, 3) := by decide +kernel
theorem dX2_readPlace_84 : decode cX2_readPlace 84 = .ok (.invokestatic 52, 3) := by decide +kernel
theorem dX2_readPlace_87 : decode cX2_readPlace 87 = .ok (.iconst 0, 1) := by decide +kernel
theorem dX2_readPlace_88 : decode cX2_readPlace 88 = .ok (.istore 5, 2) := by decide +kernel
theorem dX2_readPlace_90 : decode cX2_readPlace 90 = .ok (.iload 5, 2) := by decide +kernel
theorem dX2_readPlace_92 : decode cX2_readPlace 92 = .ok (.aload_n 3, 1) := by decide +kernel
theorem dX2_readPlace_93 : decode cX2_readPlace 93 = .ok (.getfield 56, 3) := by decide +kernel
theorem dX2_readPlace_96 : decode cX2_readPlace 96 = .ok (.if_icmp .ge 26, 3) := by decide +kernel
theorem dX2_readPlace_99 : decode cX2_readPlace 99 = .ok (.aload 4, 2) := by decide +kernel
theorem dX2_readPlace_101 : decode cX2_readPlace 101 = .ok (.aload_n 3, 1) := by decide +kernel
theorem dX2_readPlace_102 : decode cX2_readPlace 102 = .ok (.getfield 57, 3) := by decide +kernel
theorem dX2_readPlace_105 : decode cX2_readPlace 105 = .ok (.iload 5, 2) := by decide +kernel
theorem dX2_readPlace_107 : decode cX2_readPlace 107 = .ok (.iaload, 1) := by decide +kernel
theorem dX2_readPlace_108 : decode cX2_readPlace 108 = .ok (.aload_n 3, 1) := by decide +kernel
theorem dX2_readPlace_109 : decode cX2_readPlace 109 = .ok (.getfield 60, 3) := by decide +kernel
theorem dX2_readPlace_112 : decode cX2_readPlace 112 = .ok (.iload 5, 2) := by decide +kernel
theorem dX2_readPlace_114 : decode cX2_readPlace 114 = .ok (.iaload, 1) := by decide +kernel
theorem dX2_readPlace_115 : decode cX2_readPlace 115 = .ok (.iastore, 1) := by decide +kernel
theorem dX2_readPlace_116 : decode cX2_readPlace 116 = .ok (.iinc 5 1, 3) := by decide +kernel
theorem dX2_readPlace_119 : decode cX2_readPlace 119 = .ok (.goto (-29), 3) := by decide +kernel
theorem dX2_readPlace_122 : decode cX2_readPlace 122 = .ok (.aload 4, 2) := by decide +kernel
theorem dX2_readPlace_124 : decode cX2_readPlace 124 = .ok (.aload_n 3, 1) := by decide +kernel
theorem dX2_readPlace_125 : decode cX2_readPlace 125 = .ok (.getfield 49, 3) := by decide +kernel
theorem dX2_readPlace_128 : decode cX2_readPlace 128 = .ok (.invokestatic 63, 3) := by decide +kernel
theorem dX2_readPlace_131 : decode cX2_readPlace 131 = .ok (.aload_n 3, 1) := by decide +kernel
theorem dX2_readPlace_132 : decode cX2_readPlace 132 = .ok (.getfield 67, 3) := by decide +kernel
theorem dX2_readPlace_135 : decode cX2_readPlace 135 = .ok (.if_icmp .ne 7, 3) := by decide +kernel
theorem dX2_readPlace_138 : decode cX2_readPlace 138 = .ok (.iconst (-1), 1) := by decide +kernel
theorem dX2_readPlace_139 : decode cX2_readPlace 139 = .ok (.goto 4, 3) := by decide +kernel
theorem dX2_readPlace_142 : decode cX2_readPlace 142 = .ok (.iconst 1, 1) := by decide +kernel
theorem dX2_readPlace_143 : decode cX2_readPlace 143 = .ok (.ireturn, 1) := by decide +kernel
theorem dX3_init_0 : decode cX3_init 0 = .ok (.aload_n 0, 1) := by decide +kernel
theorem dX3_init_1 : decode cX3_init 1 = .ok (.invokespecial 3, 3) := by decide +kernel
theorem dX3_init_4 : decode cX3_init 4 = .ok (.aload_n 0, 1) := by decide +kernel
theorem dX3_init_5 : decode cX3_init 5 = .ok (.bipush 80, 2) := by decide +kernel
theorem dX3_init_7 : decode cX3_init 7 = .ok (.newarray .int, 2) := by decide +kernel
theorem dX3_init_9 : decode cX3_init 9 = .ok (.putfield 9, 3) := by decide +kernel
theorem dX3_init_12 : decode cX3_init 12 = .ok (.aload_n 0, 1) := by decide +kernel
theorem dX3_init_13 : decode cX3_init 13 = .ok (.iconst 0, 1) := by decide +kernel
theorem dX3_init_14 : decode cX3_init 14 = .ok (.putfield 15, 3) := by decide +kernel
theorem dX3_init_17 : decode cX3_init 17 = .ok (.aload_n 0, 1) := by decide +kernel
theorem dX3_init_18 : decode cX3_init 18 = .ok (.bipush 12, 2) := by decide +kernel
theorem dX3_init_20 : decode cX3_init 20 = .ok (.newarray .int, 2) := by decide +kernel
theorem dX3_init_22 : decode cX3_init 22 = .ok (.putfield 19, 3) := by decide +kernel
theorem dX3_init_25 : decode cX3_init 25 = .ok (.aload_n 0, 1) := by decide +kernel
theorem dX3_init_26 : decode cX3_init 26 = .ok (.iconst 0, 1) := by decide +kernel
theorem dX3_init_27 : decode cX3_init 27 = .ok (.putfield 22, 3) := by decide +kernel
theorem dX3_init_30 : decode cX3_init 30 = .ok (.aload_n 0, 1) := by decide +kernel
theorem dX3_init_31 : decode cX3_init 31 = .ok (.iconst 0, 1) := by decide +kernel
theorem dX3_init_32 : decode cX3_init 32 = .ok (.putfield 25, 3) := by decide +kernel
theorem dX3_init_35 : decode cX3_init 35 = .ok (.aload_n 0, 1) := by decide +kernel
theorem dX3_init_36 : decode cX3_init 36 = .ok (.iconst (-1), 1) := by decide +kernel
theorem dX3_init_37 : decode cX3_init 37 = .ok (.putfield 28, 3) := by decide +kernel
theorem dX3_init_40 : decode cX3_init 40 = .ok (.return_, 1) := by decide +kernel
theorem dX3_run_0 : decode cX3_run 0 = .ok (.aload_n 1, 1) := by decide +kernel
theorem dX3_run_1 : decode cX3_run 1 = .ok (.iconst 0, 1) := by decide +kernel
theorem dX3_run_2 : decode cX3_run 2 = .ok (.aload_n 0, 1) := by decide +kernel
theorem dX3_run_3 : decode cX3_run 3 = .ok (.getfield 19, 3) := by decide +kernel
theorem dX3_run_6 : decode cX3_run 6 = .ok (.iconst 0, 1) := by decide +kernel
theorem dX3_run_7 : decode cX3_run 7 = .ok (.bipush 12, 2) := by decide +kernel
theorem dX3_run_9 : decode cX3_run 9 = .ok (.invokestatic 31, 3) := by decide +kernel
theorem dX3_run_12 : decode cX3_run 12 = .ok (.aload_n 0, 1) := by decide +kernel
theorem dX3_run_13 : decode cX3_run 13 = .ok (.iload_n 2, 1) := by decide +kernel
theorem dX3_run_14 : decode cX3_run 14 = .ok (.putfield 22, 3) := by decide +kernel
theorem dX3_run_17 : decode cX3_run 17 = .ok (.aload_n 0, 1) := by decide +kernel
theorem dX3_run_18 : decode cX3_run 18 = .ok (.iconst 0, 1) := by decide +kernel
theorem dX3_run_19 : decode cX3_run 19 = .ok (.putfield 25, 3) := by decide +kernel
theorem dX3_run_22 : decode cX3_run 22 = .ok (.aload_n 0, 1) := by decide +kernel
theorem dX3_run_23 : decode cX3_run 23 = .ok (.iconst (-1), 1) := by decide +kernel
theorem dX3_run_24 : decode cX3_run 24 = .ok (.putfield 28, 3) := by decide +kernel
theorem dX3_run_27 : decode cX3_run 27 = .ok (.iconst 0, 1) := by decide +kernel
theorem dX3_run_28 : decode cX3_run 28 = .ok (.istore_n 3, 1) := by decide +kernel
theorem dX3_run_29 : decode cX3_run 29 = .ok (.aload_n 0, 1) := by decide +kernel
theorem dX3_run_30 : decode cX3_run 30 = .ok (.invokevirtual 37, 3) := by decide +kernel
theorem dX3_run_33 : decode cX3_run 33 = .ok (.iconst 0, 1) := by decide +kernel
theorem dX3_run_34 : decode cX3_run 34 = .ok (.istore 4, 2) := by decide +kernel
theorem dX3_run_36 : decode cX3_run 36 = .ok (.iload 4, 2) := by decide +kernel
theorem dX3_run_38 : decode cX3_run 38 = .ok (.bipush 80, 2) := by decide +kernel
theorem dX3_run_40 : decode cX3_run 40 = .ok (.if_icmp .ge 43, 3) := by decide +kernel
theorem dX3_run_43 : decode cX3_run 43 = .ok (.aload_n 0, 1) := by decide +kernel
theorem dX3_run_44 : decode cX3_run 44 = .ok (.getfield 25, 3) := by decide +kernel
theorem dX3_run_47 : decode cX3_run 47 = .ok (.aload_n 0, 1) := by decide +kernel
theorem dX3_run_48 : decode cX3_run 48 = .ok (.getfield 15, 3) := by decide +kernel
theorem dX3_run_51 : decode cX3_run 51 = .ok (.if_icmp .ge 32, 3) := by decide +kernel
theorem dX3_run_54 : decode cX3_run 54 = .ok (.aload_n 0, 1) := by decide +kernel
theorem dX3_run_55 : decode cX3_run 55 = .ok (.getfield 28, 3) := by decide +kernel
theorem dX3_run_58 : decode cX3_run 58 = .ok (.iconst (-1), 1) := by decide +kernel
theorem dX3_run_59 : decode cX3_run 59 = .ok (.if_icmp .ne 24, 3) := by decide +kernel
theorem dX3_run_62 : decode cX3_run 62 = .ok (.aload_n 0, 1) := by decide +kernel
theorem dX3_run_63 : decode cX3_run 63 = .ok (.aload_n 0, 1) := by decide +kernel
theorem dX3_run_64 : decode cX3_run 64 = .ok (.invokevirtual 40, 3) := by decide +kernel
theorem dX3_run_67 : decode cX3_run 67 = .ok (.invokevirtual 44, 3) := by decide +kernel
theorem dX3_run_70 : decode cX3_run 70 = .ok (.iinc 3 1, 3) := by decide +kernel
theorem dX3_run_73 : decode cX3_run 73 = .ok (.aload_n 0, 1) := by decide +kernel
theorem dX3_run_74 : decode cX3_run 74 = .ok (.invokevirtual 37, 3) := by decide +kernel
theorem dX3_run_77 : decode cX3_run 77 = .ok (.iinc 4 1, 3) := by decide +kernel
theorem dX3_run_80 : decode cX3_run 80 = .ok (.goto (-44), 3) := by decide +kernel
theorem dX3_run_83 : decode cX3_run 83 = .ok (.aload_n 0, 1) := by decide +kernel
theorem dX3_run_84 : decode cX3_run 84 = .ok (.getfield 28, 3) := by decide +kernel
theorem dX3_run_87 : decode cX3_run 87 = .ok (.iconst (-1), 1) := by decide +kernel
theorem dX3_run_88 : decode cX3_run 88 = .ok (.if_icmp .ne 7, 3) := by decide +kernel
theorem dX3_run_91 : decode cX3_run 91 = .ok (.iload_n 3, 1) := by decide +kernel
theorem dX3_run_92 : decode cX3_run 92 = .ok (.goto 11, 3) := by decide +kernel
theorem dX3_run_95 : decode cX3_run 95 = .ok (.sipush (-2000), 3) := by decide +kernel
theorem dX3_run_98 : decode cX3_run 98 = .ok (.aload_n 0, 1) := by decide +kernel
theorem dX3_run_99 : decode cX3_run 99 = .ok (.getfield 28, 3) := by decide +kernel
theorem dX3_run_102 : decode cX3_run 102 = .ok (.isub, 1) := by decide +kernel
theorem dX3_run_103 : decode cX3_run 103 = .ok (.ireturn, 1) := by decide +kernel
theorem dX3_runCommand_0 : decode cX3_runCommand 0 = .ok (.iload_n 1, 1) := by decide +kernel
theorem dX3_runCommand_1 : decode cX3_runCommand 1 = .ok (.tableswitch 70 0 4 #[35, 42, 49, 56, 63], 35) := by decide +kernel
theorem dX3_runCommand_36 : decode cX3_runCommand 36 = .ok (.aload_n 0, 1) := by decide +kernel
theorem dX3_runCommand_37 : decode cX3_runCommand 37 = .ok (.invokevirtual 48, 3) := by decide +kernel
theorem dX3_runCommand_40 : decode cX3_runCommand 40 = .ok (.goto 31, 3) := by decide +kernel
theorem dX3_runCommand_43 : decode cX3_runCommand 43 = .ok (.aload_n 0, 1) := by decide +kernel
theorem dX3_runCommand_44 : decode cX3_runCommand 44 = .ok (.invokevirtual 51, 3) := by decide +kernel
theorem dX3_runCommand_47 : decode cX3_runCommand 47 = .ok (.goto 24, 3) := by decide +kernel
theorem dX3_runCommand_50 : decode cX3_runCommand 50 = .ok (.aload_n 0, 1) := by decide +kernel
theorem dX3_runCommand_51 : decode cX3_runCommand 51 = .ok (.invokevirtual 54, 3) := by decide +kernel
theorem dX3_runCommand_54 : decode cX3_runCommand 54 = .ok (.goto 17, 3) := by decide +kernel
theorem dX3_runCommand_57 : decode cX3_runCommand 57 = .ok (.aload_n 0, 1) := by decide +kernel
theorem dX3_runCommand_58 : decode cX3_runCommand 58 = .ok (.invokevirtual 57, 3) := by decide +kernel
theorem dX3_runCommand_61 : decode cX3_runCommand 61 = .ok (.goto 10, 3) := by decide +kernel
theorem dX3_runCommand_64 : decode cX3_runCommand 64 = .ok (.aload_n 0, 1) := by decide +kernel
theorem dX3_runCommand_65 : decode cX3_runCommand 65 = .ok (.invokevirtual 60, 3) := by decide +kernel
theorem dX3_runCommand_68 : decode cX3_runCommand 68 = .ok (.goto 3, 3) := by decide +kernel
theorem dX3_runCommand_71 : decode cX3_runCommand 71 = .ok (.return_, 1) := by decide +kernel
theorem dX3_runSet_0 : decode cX3_runSet 0 = .ok (.aload_n 0, 1) := by decide +kernel
theorem dX3_runSet_1 : decode cX3_runSet 1 = .ok (.iconst 0, 1) := by decide +kernel
theorem dX3_runSet_2 : decode cX3_runSet 2 = .ok (.invokevirtual 63, 3) := by decide +kernel
theorem dX3_runSet_5 : decode cX3_runSet 5 = .ok (.istore_n 1, 1) := by decide +kernel
theorem dX3_runSet_6 : decode cX3_runSet 6 = .ok (.aload_n 0, 1) := by decide +kernel
theorem dX3_runSet_7 : decode cX3_runSet 7 = .ok (.invokevirtual 67, 3) := by decide +kernel
theorem dX3_runSet_10 : decode cX3_runSet 10 = .ok (.istore_n 2, 1) := by decide +kernel
theorem dX3_runSet_11 : decode cX3_runSet 11 = .ok (.aload_n 0, 1) := by decide +kernel
theorem dX3_runSet_12 : decode cX3_runSet 12 = .ok (.invokevirtual 70, 3) := by decide +kernel
theorem dX3_runSet_15 : decode cX3_runSet 15 = .ok (.aload_n 0, 1) := by decide +kernel
theorem dX3_runSet_16 : decode cX3_runSet 16 = .ok (.getfield 28, 3) := by decide +kernel
theorem dX3_runSet_19 : decode cX3_runSet 19 = .ok (.iconst (-1), 1) := by decide +kernel
theorem dX3_runSet_20 : decode cX3_runSet 20 = .ok (.if_icmp .ne 10, 3) := by decide +kernel
theorem dX3_runSet_23 : decode cX3_runSet 23 = .ok (.aload_n 0, 1) := by decide +kernel
theorem dX3_runSet_24 : decode cX3_runSet 24 = .ok (.getfield 19, 3) := by decide +kernel
theorem dX3_runSet_27 : decode cX3_runSet 27 = .ok (.iload_n 1, 1) := by decide +kernel
theorem dX3_runSet_28 : decode cX3_runSet 28 = .ok (.iload_n 2, 1) := by decide +kernel
theorem dX3_runSet_29 : decode cX3_runSet 29 = .ok (.iastore, 1) := by decide +kernel
theorem dX3_runSet_30 : decode cX3_runSet 30 = .ok (.return_, 1) := by decide +kernel
theorem dX3_runAdd_0 : decode cX3_runAdd 0 = .ok (.aload_n 0, 1) := by decide +kernel
theorem dX3_runAdd_1 : decode cX3_runAdd 1 = .ok (.iconst 0, 1) := by decide +kernel
theorem dX3_runAdd_2 : decode cX3_runAdd 2 = .ok (.invokevirtual 63, 3) := by decide +kernel
theorem dX3_runAdd_5 : decode cX3_runAdd 5 = .ok (.istore_n 1, 1) := by decide +kernel
theorem dX3_runAdd_6 : decode cX3_runAdd 6 = .ok (.aload_n 0, 1) := by decide +kernel
theorem dX3_runAdd_7 : decode cX3_runAdd 7 = .ok (.invokevirtual 73, 3) := by decide +kernel
theorem dX3_runAdd_10 : decode cX3_runAdd 10 = .ok (.istore_n 2, 1) := by decide +kernel
theorem dX3_runAdd_11 : decode cX3_runAdd 11 = .ok (.aload_n 0, 1) := by decide +kernel
theorem dX3_runAdd_12 : decode cX3_runAdd 12 = .ok (.invokevirtual 70, 3) := by decide +kernel
theorem dX3_runAdd_15 : decode cX3_runAdd 15 = .ok (.aload_n 0, 1) := by decide +kernel
theorem dX3_runAdd_16 : decode cX3_runAdd 16 = .ok (.getfield 28, 3) := by decide +kernel
theorem dX3_runAdd_19 : decode cX3_runAdd 19 = .ok (.iconst (-1), 1) := by decide +kernel
theorem dX3_runAdd_20 : decode cX3_runAdd 20 = .ok (.if_icmp .ne 26, 3) := by decide +kernel
theorem dX3_runAdd_23 : decode cX3_runAdd 23 = .ok (.aload_n 0, 1) := by decide +kernel
theorem dX3_runAdd_24 : decode cX3_runAdd 24 = .ok (.getfield 19, 3) := by decide +kernel
theorem dX3_runAdd_27 : decode cX3_runAdd 27 = .ok (.iload_n 1, 1) := by decide +kernel
theorem dX3_runAdd_28 : decode cX3_runAdd 28 = .ok (.iconst 0, 1) := by decide +kernel
theorem dX3_runAdd_29 : decode cX3_runAdd 29 = .ok (.bipush 99, 2) := by decide +kernel
theorem dX3_runAdd_31 : decode cX3_runAdd 31 = .ok (.aload_n 0, 1) := by decide +kernel
theorem dX3_runAdd_32 : decode cX3_runAdd 32 = .ok (.getfield 19, 3) := by decide +kernel
theorem dX3_runAdd_35 : decode cX3_runAdd 35 = .ok (.iload_n 1, 1) := by decide +kernel
theorem dX3_runAdd_36 : decode cX3_runAdd 36 = .ok (.iaload, 1) := by decide +kernel
theorem dX3_runAdd_37 : decode cX3_runAdd 37 = .ok (.iload_n 2, 1) := by decide +kernel
theorem dX3_runAdd_38 : decode cX3_runAdd 38 = .ok (.iadd, 1) := by decide +kernel
theorem dX3_runAdd_39 : decode cX3_runAdd 39 = .ok (.invokestatic 76, 3) := by decide +kernel
theorem dX3_runAdd_42 : decode cX3_runAdd 42 = .ok (.invokestatic 82, 3) := by decide +kernel
theorem dX3_runAdd_45 : decode cX3_runAdd 45 = .ok (.iastore, 1) := by decide +kernel
theorem dX3_runAdd_46 : decode cX3_runAdd 46 = .ok (.return_, 1) := by decide +kernel
theorem dX3_runSwap_0 : decode cX3_runSwap 0 = .ok (.aload_n 0, 1) := by decide +kernel
theorem dX3_runSwap_1 : decode cX3_runSwap 1 = .ok (.iconst 0, 1) := by decide +kernel
theorem dX3_runSwap_2 : decode cX3_runSwap 2 = .ok (.invokevirtual 63, 3) := by decide +kernel
theorem dX3_runSwap_5 : decode cX3_runSwap 5 = .ok (.istore_n 1, 1) := by decide +kernel
theorem dX3_runSwap_6 : decode cX3_runSwap 6 = .ok (.aload_n 0, 1) := by decide +kernel
theorem dX3_runSwap_7 : decode cX3_runSwap 7 = .ok (.iconst 0, 1) := by decide +kernel
theorem dX3_runSwap_8 : decode cX3_runSwap 8 = .ok (.invokevirtual 63, 3) := by decide +kernel
theorem dX3_runSwap_11 : decode cX3_runSwap 11 = .ok (.istore_n 2, 1) := by decide +kernel
theorem dX3_runSwap_12 : decode cX3_runSwap 12 = .ok (.aload_n 0, 1) := by decide +kernel
theorem dX3_runSwap_13 : decode cX3_runSwap 13 = .ok (.invokevirtual 70, 3) := by decide +kernel
theorem dX3_runSwap_16 : decode cX3_runSwap 16 = .ok (.aload_n 0, 1) := by decide +kernel
theorem dX3_runSwap_17 : decode cX3_runSwap 17 = .ok (.getfield 28, 3) := by decide +kernel
theorem dX3_runSwap_20 : decode cX3_runSwap 20 = .ok (.iconst (-1), 1) := by decide +kernel
theorem dX3_runSwap_21 : decode cX3_runSwap 21 = .ok (.if_icmp .ne 29, 3) := by decide +kernel
theorem dX3_runSwap_24 : decode cX3_runSwap 24 = .ok (.aload_n 0, 1) := by decide +kernel
theorem dX3_runSwap_25 : decode cX3_runSwap 25 = .ok (.getfield 19, 3) := by decide +kernel
theorem dX3_runSwap_28 : decode cX3_runSwap 28 = .ok (.iload_n 1, 1) := by decide +kernel
theorem dX3_runSwap_29 : decode cX3_runSwap 29 = .ok (.iaload, 1) := by decide +kernel
theorem dX3_runSwap_30 : decode cX3_runSwap 30 = .ok (.istore_n 3, 1) := by decide +kernel
theorem dX3_runSwap_31 : decode cX3_runSwap 31 = .ok (.aload_n 0, 1) := by decide +kernel
theorem dX3_runSwap_32 : decode cX3_runSwap 32 = .ok (.getfield 19, 3) := by decide +kernel
theorem dX3_runSwap_35 : decode cX3_runSwap 35 = .ok (.iload_n 1, 1) := by decide +kernel
theorem dX3_runSwap_36 : decode cX3_runSwap 36 = .ok (.aload_n 0, 1) := by decide +kernel
theorem dX3_runSwap_37 : decode cX3_runSwap 37 = .ok (.getfield 19, 3) := by decide +kernel
theorem dX3_runSwap_40 : decode cX3_runSwap 40 = .ok (.iload_n 2, 1) := by decide +kernel
theorem dX3_runSwap_41 : decode cX3_runSwap 41 = .ok (.iaload, 1) := by decide +kernel
theorem dX3_runSwap_42 : decode cX3_runSwap 42 = .ok (.iastore, 1) := by decide +kernel
theorem dX3_runSwap_43 : decode cX3_runSwap 43 = .ok (.aload_n 0, 1) := by decide +kernel
theorem dX3_runSwap_44 : decode cX3_runSwap 44 = .ok (.getfield 19, 3) := by decide +kernel
theorem dX3_runSwap_47 : decode cX3_runSwap 47 = .ok (.iload_n 2, 1) := by decide +kernel
theorem dX3_runSwap_48 : decode cX3_runSwap 48 = .ok (.iload_n 3, 1) := by decide +kernel
theorem dX3_runSwap_49 : decode cX3_runSwap 49 = .ok (.iastore, 1) := by decide +kernel
theorem dX3_runSwap_50 : decode cX3_runSwap 50 = .ok (.return_, 1) := by decide +kernel
theorem dX3_runFill_0 : decode cX3_runFill 0 = .ok (.aload_n 0, 1) := by decide +kernel
theorem dX3_runFill_1 : decode cX3_runFill 1 = .ok (.iconst 0, 1) := by decide +kernel
theorem dX3_runFill_2 : decode cX3_runFill 2 = .ok (.invokevirtual 63, 3) := by decide +kernel
theorem dX3_runFill_5 : decode cX3_runFill 5 = .ok (.istore_n 1, 1) := by decide +kernel
theorem dX3_runFill_6 : decode cX3_runFill 6 = .ok (.aload_n 0, 1) := by decide +kernel
theorem dX3_runFill_7 : decode cX3_runFill 7 = .ok (.iload_n 1, 1) := by decide +kernel
theorem dX3_runFill_8 : decode cX3_runFill 8 = .ok (.invokevirtual 63, 3) := by decide +kernel
theorem dX3_runFill_11 : decode cX3_runFill 11 = .ok (.istore_n 2, 1) := by decide +kernel
theorem dX3_runFill_12 : decode cX3_runFill 12 = .ok (.aload_n 0, 1) := by decide +kernel
theorem dX3_runFill_13 : decode cX3_runFill 13 = .ok (.invokevirtual 67, 3) := by decide +kernel
theorem dX3_runFill_16 : decode cX3_runFill 16 = .ok (.istore_n 3, 1) := by decide +kernel
theorem dX3_runFill_17 : decode cX3_runFill 17 = .ok (.aload_n 0, 1) := by decide +kernel
theorem dX3_runFill_18 : decode cX3_runFill 18 = .ok (.invokevirtual 70, 3) := by decide +kernel
theorem dX3_runFill_21 : decode cX3_runFill 21 = .ok (.aload_n 0, 1) := by decide +kernel
theorem dX3_runFill_22 : decode cX3_runFill 22 = .ok (.getfield 28, 3) := by decide +kernel
theorem dX3_runFill_25 : decode cX3_runFill 25 = .ok (.iconst (-1), 1) := by decide +kernel
theorem dX3_runFill_26 : decode cX3_runFill 26 = .ok (.if_icmp .ne 26, 3) := by decide +kernel
theorem dX3_runFill_29 : decode cX3_runFill 29 = .ok (.iload_n 1, 1) := by decide +kernel
theorem dX3_runFill_30 : decode cX3_runFill 30 = .ok (.istore 4, 2) := by decide +kernel
theorem dX3_runFill_32 : decode cX3_runFill 32 = .ok (.iload 4, 2) := by decide +kernel
theorem dX3_runFill_34 : decode cX3_runFill 34 = .ok (.iload_n 2, 1) := by decide +kernel
theorem dX3_runFill_35 : decode cX3_runFill 35 = .ok (.if_icmp .gt 17, 3) := by decide +kernel
theorem dX3_runFill_38 : decode cX3_runFill 38 = .ok (.aload_n 0, 1) := by decide +kernel
theorem dX3_runFill_39 : decode cX3_runFill 39 = .ok (.getfield 19, 3) := by decide +kernel
theorem dX3_runFill_42 : decode cX3_runFill 42 = .ok (.iload 4, 2) := by decide +kernel
theorem dX3_runFill_44 : decode cX3_runFill 44 = .ok (.iload_n 3, 1) := by decide +kernel
theorem dX3_runFill_45 : decode cX3_runFill 45 = .ok (.iastore, 1) := by decide +kernel
theorem dX3_runFill_46 : decode cX3_runFill 46 = .ok (.iinc 4 1, 3) := by decide +kernel
theorem dX3_runFill_49 : decode cX3_runFill 49 = .ok (.goto (-17), 3) := by decide +kernel
theorem dX3_runFill_52 : decode cX3_runFill 52 = .ok (.return_, 1) := by decide +kernel
theorem dX3_runTurn_0 : decode cX3_runTurn 0 = .ok (.aload_n 0, 1) := by decide +kernel
theorem dX3_runTurn_1 : decode cX3_runTurn 1 = .ok (.iconst 0, 1) := by decide +kernel
theorem dX3_runTurn_2 : decode cX3_runTurn 2 = .ok (.invokevirtual 63, 3) := by decide +kernel
theorem dX3_runTurn_5 : decode cX3_runTurn 5 = .ok (.istore_n 1, 1) := by decide +kernel
theorem dX3_runTurn_6 : decode cX3_runTurn 6 = .ok (.aload_n 0, 1) := by decide +kernel
theorem dX3_runTurn_7 : decode cX3_runTurn 7 = .ok (.iload_n 1, 1) := by decide +kernel
theorem dX3_runTurn_8 : decode cX3_runTurn 8 = .ok (.invokevirtual 63, 3) := by decide +kernel
theorem dX3_runTurn_11 : decode cX3_runTurn 11 = .ok (.istore_n 2, 1) := by decide +kernel
theorem dX3_runTurn_12 : decode cX3_runTurn 12 = .ok (.aload_n 0, 1) := by decide +kernel
theorem dX3_runTurn_13 : decode cX3_runTurn 13 = .ok (.invokevirtual 70, 3) := by decide +kernel
theorem dX3_runTurn_16 : decode cX3_runTurn 16 = .ok (.aload_n 0, 1) := by decide +kernel
theorem dX3_runTurn_17 : decode cX3_runTurn 17 = .ok (.getfield 28, 3) := by decide +kernel
theorem dX3_runTurn_20 : decode cX3_runTurn 20 = .ok (.iconst (-1), 1) := by decide +kernel
theorem dX3_runTurn_21 : decode cX3_runTurn 21 = .ok (.if_icmp .ne 48, 3) := by decide +kernel
theorem dX3_runTurn_24 : decode cX3_runTurn 24 = .ok (.aload_n 0, 1) := by decide +kernel
theorem dX3_runTurn_25 : decode cX3_runTurn 25 = .ok (.getfield 19, 3) := by decide +kernel
theorem dX3_runTurn_28 : decode cX3_runTurn 28 = .ok (.iload_n 2, 1) := by decide +kernel
theorem dX3_runTurn_29 : decode cX3_runTurn 29 = .ok (.iaload, 1) := by decide +kernel
theorem dX3_runTurn_30 : decode cX3_runTurn 30 = .ok (.istore_n 3, 1) := by decide +kernel
theorem dX3_runTurn_31 : decode cX3_runTurn 31 = .ok (.iload_n 2, 1) := by decide +kernel
theorem dX3_runTurn_32 : decode cX3_runTurn 32 = .ok (.istore 4, 2) := by decide +kernel
theorem dX3_runTurn_34 : decode cX3_runTurn 34 = .ok (.iload 4, 2) := by decide +kernel
theorem dX3_runTurn_36 : decode cX3_runTurn 36 = .ok (.iload_n 1, 1) := by decide +kernel
theorem dX3_runTurn_37 : decode cX3_runTurn 37 = .ok (.if_icmp .le 25, 3) := by decide +kernel
theorem dX3_runTurn_40 : decode cX3_runTurn 40 = .ok (.aload_n 0, 1) := by decide +kernel
theorem dX3_runTurn_41 : decode cX3_runTurn 41 = .ok (.getfield 19, 3) := by decide +kernel
theorem dX3_runTurn_44 : decode cX3_runTurn 44 = .ok (.iload 4, 2) := by decide +kernel
theorem dX3_runTurn_46 : decode cX3_runTurn 46 = .ok (.aload_n 0, 1) := by decide +kernel
theorem dX3_runTurn_47 : decode cX3_runTurn 47 = .ok (.getfield 19, 3) := by decide +kernel
theorem dX3_runTurn_50 : decode cX3_runTurn 50 = .ok (.iload 4, 2) := by decide +kernel
theorem dX3_runTurn_52 : decode cX3_runTurn 52 = .ok (.iconst 1, 1) := by decide +kernel
theorem dX3_runTurn_53 : decode cX3_runTurn 53 = .ok (.isub, 1) := by decide +kernel
theorem dX3_runTurn_54 : decode cX3_runTurn 54 = .ok (.iaload, 1) := by decide +kernel
theorem dX3_runTurn_55 : decode cX3_runTurn 55 = .ok (.iastore, 1) := by decide +kernel
theorem dX3_runTurn_56 : decode cX3_runTurn 56 = .ok (.iinc 4 (-1), 3) := by decide +kernel
theorem dX3_runTurn_59 : decode cX3_runTurn 59 = .ok (.goto (-25), 3) := by decide +kernel
theorem dX3_runTurn_62 : decode cX3_runTurn 62 = .ok (.aload_n 0, 1) := by decide +kernel
theorem dX3_runTurn_63 : decode cX3_runTurn 63 = .ok (.getfield 19, 3) := by decide +kernel
theorem dX3_runTurn_66 : decode cX3_runTurn 66 = .ok (.iload_n 1, 1) := by decide +kernel
theorem dX3_runTurn_67 : decode cX3_runTurn 67 = .ok (.iload_n 3, 1) := by decide +kernel
theorem dX3_runTurn_68 : decode cX3_runTurn 68 = .ok (.iastore, 1) := by decide +kernel
theorem dX3_runTurn_69 : decode cX3_runTurn 69 = .ok (.return_, 1) := by decide +kernel
theorem dX3_failAt_0 : decode cX3_failAt 0 = .ok (.aload_n 0, 1) := by decide +kernel
theorem dX3_failAt_1 : decode cX3_failAt 1 = .ok (.getfield 28, 3) := by decide +kernel
theorem dX3_failAt_4 : decode cX3_failAt 4 = .ok (.iconst (-1), 1) := by decide +kernel
theorem dX3_failAt_5 : decode cX3_failAt 5 = .ok (.if_icmp .ne 8, 3) := by decide +kernel
theorem dX3_failAt_8 : decode cX3_failAt 8 = .ok (.aload_n 0, 1) := by decide +kernel
theorem dX3_failAt_9 : decode cX3_failAt 9 = .ok (.iload_n 1, 1) := by decide +kernel
theorem dX3_failAt_10 : decode cX3_failAt 10 = .ok (.putfield 28, 3) := by decide +kernel
theorem dX3_failAt_13 : decode cX3_failAt 13 = .ok (.return_, 1) := by decide +kernel
theorem dX3_isDigitNext_0 : decode cX3_isDigitNext 0 = .ok (.aload_n 0, 1) := by decide +kernel
theorem dX3_isDigitNext_1 : decode cX3_isDigitNext 1 = .ok (.getfield 25, 3) := by decide +kernel
theorem dX3_isDigitNext_4 : decode cX3_isDigitNext 4 = .ok (.aload_n 0, 1) := by decide +kernel
theorem dX3_isDigitNext_5 : decode cX3_isDigitNext 5 = .ok (.getfield 15, 3) := by decide +kernel
theorem dX3_isDigitNext_8 : decode cX3_isDigitNext 8 = .ok (.if_icmp .ge 35, 3) := by decide +kernel
theorem dX3_isDigitNext_11 : decode cX3_isDigitNext 11 = .ok (.aload_n 0, 1) := by decide +kernel
theorem dX3_isDigitNext_12 : decode cX3_isDigitNext 12 = .ok (.getfield 9, 3) := by decide +kernel
theorem dX3_isDigitNext_15 : decode cX3_isDigitNext 15 = .ok (.aload_n 0, 1) := by decide +kernel
theorem dX3_isDigitNext_16 : decode cX3_isDigitNext 16 = .ok (.getfield 25, 3) := by decide +kernel
theorem dX3_isDigitNext_19 : decode cX3_isDigitNext 19 = .ok (.iaload, 1) := by decide +kernel
theorem dX3_isDigitNext_20 : decode cX3_isDigitNext 20 = .ok (.bipush 48, 2) := by decide +kernel
theorem dX3_isDigitNext_22 : decode cX3_isDigitNext 22 = .ok (.if_icmp .lt 21, 3) := by decide +kernel
theorem dX3_isDigitNext_25 : decode cX3_isDigitNext 25 = .ok (.aload_n 0, 1) := by decide +kernel
theorem dX3_isDigitNext_26 : decode cX3_isDigitNext 26 = .ok (.getfield 9, 3) := by decide +kernel
theorem dX3_isDigitNext_29 : decode cX3_isDigitNext 29 = .ok (.aload_n 0, 1) := by decide +kernel
theorem dX3_isDigitNext_30 : decode cX3_isDigitNext 30 = .ok (.getfield 25, 3) := by decide +kernel
theorem dX3_isDigitNext_33 : decode cX3_isDigitNext 33 = .ok (.iaload, 1) := by decide +kernel
theorem dX3_isDigitNext_34 : decode cX3_isDigitNext 34 = .ok (.bipush 57, 2) := by decide +kernel
theorem dX3_isDigitNext_36 : decode cX3_isDigitNext 36 = .ok (.if_icmp .gt 7, 3) := by decide +kernel
theorem dX3_isDigitNext_39 : decode cX3_isDigitNext 39 = .ok (.iconst 1, 1) := by decide +kernel
theorem dX3_isDigitNext_40 : decode cX3_isDigitNext 40 = .ok (.goto 4, 3) := by decide +kernel
theorem dX3_isDigitNext_43 : decode cX3_isDigitNext 43 = .ok (.iconst 0, 1) := by decide +kernel
theorem dX3_isDigitNext_44 : decode cX3_isDigitNext 44 = .ok (.ireturn, 1) := by decide +kernel
theorem dX3_isLetterNext_0 : decode cX3_isLetterNext 0 = .ok (.aload_n 0, 1) := by decide +kernel
theorem dX3_isLetterNext_1 : decode cX3_isLetterNext 1 = .ok (.getfield 25, 3) := by decide +kernel
theorem dX3_isLetterNext_4 : decode cX3_isLetterNext 4 = .ok (.aload_n 0, 1) := by decide +kernel
theorem dX3_isLetterNext_5 : decode cX3_isLetterNext 5 = .ok (.getfield 15, 3) := by decide +kernel
theorem dX3_isLetterNext_8 : decode cX3_isLetterNext 8 = .ok (.if_icmp .ge 35, 3) := by decide +kernel
theorem dX3_isLetterNext_11 : decode cX3_isLetterNext 11 = .ok (.aload_n 0, 1) := by decide +kernel
theorem dX3_isLetterNext_12 : decode cX3_isLetterNext 12 = .ok (.getfield 9, 3) := by decide +kernel
theorem dX3_isLetterNext_15 : decode cX3_isLetterNext 15 = .ok (.aload_n 0, 1) := by decide +kernel
theorem dX3_isLetterNext_16 : decode cX3_isLetterNext 16 = .ok (.getfield 25, 3) := by decide +kernel
theorem dX3_isLetterNext_19 : decode cX3_isLetterNext 19 = .ok (.iaload, 1) := by decide +kernel
theorem dX3_isLetterNext_20 : decode cX3_isLetterNext 20 = .ok (.bipush 97, 2) := by decide +kernel
theorem dX3_isLetterNext_22 : decode cX3_isLetterNext 22 = .ok (.if_icmp .lt 21, 3) := by decide +kernel
theorem dX3_isLetterNext_25 : decode cX3_isLetterNext 25 = .ok (.aload_n 0, 1) := by decide +kernel
theorem dX3_isLetterNext_26 : decode cX3_isLetterNext 26 = .ok (.getfield 9, 3) := by decide +kernel
theorem dX3_isLetterNext_29 : decode cX3_isLetterNext 29 = .ok (.aload_n 0, 1) := by decide +kernel
theorem dX3_isLetterNext_30 : decode cX3_isLetterNext 30 = .ok (.getfield 25, 3) := by decide +kernel
theorem dX3_isLetterNext_33 : decode cX3_isLetterNext 33 = .ok (.iaload, 1) := by decide +kernel
theorem dX3_isLetterNext_34 : decode cX3_isLetterNext 34 = .ok (.bipush 122, 2) := by decide +kernel
theorem dX3_isLetterNext_36 : decode cX3_isLetterNext 36 = .ok (.if_icmp .gt 7, 3) := by decide +kernel
theorem dX3_isLetterNext_39 : decode cX3_isLetterNext 39 = .ok (.iconst 1, 1) := by decide +kernel
theorem dX3_isLetterNext_40 : decode cX3_isLetterNext 40 = .ok (.goto 4, 3) := by decide +kernel
theorem dX3_isLetterNext_43 : decode cX3_isLetterNext 43 = .ok (.iconst 0, 1) := by decide +kernel
theorem dX3_isLetterNext_44 : decode cX3_isLetterNext 44 = .ok (.ireturn, 1) := by decide +kernel
theorem dX3_isNext_0 : decode cX3_isNext 0 = .ok (.aload_n 0, 1) := by decide +kernel
theorem dX3_isNext_1 : decode cX3_isNext 1 = .ok (.getfield 25, 3) := by decide +kernel
theorem dX3_isNext_4 : decode cX3_isNext 4 = .ok (.aload_n 0, 1) := by decide +kernel
theorem dX3_isNext_5 : decode cX3_isNext 5 = .ok (.getfield 15, 3) := by decide +kernel
theorem dX3_isNext_8 : decode cX3_isNext 8 = .ok (.if_icmp .ge 20, 3) := by decide +kernel
theorem dX3_isNext_11 : decode cX3_isNext 11 = .ok (.aload_n 0, 1) := by decide +kernel
theorem dX3_isNext_12 : decode cX3_isNext 12 = .ok (.getfield 9, 3) := by decide +kernel
theorem dX3_isNext_15 : decode cX3_isNext 15 = .ok (.aload_n 0, 1) := by decide +kernel
theorem dX3_isNext_16 : decode cX3_isNext 16 = .ok (.getfield 25, 3) := by decide +kernel
theorem dX3_isNext_19 : decode cX3_isNext 19 = .ok (.iaload, 1) := by decide +kernel
theorem dX3_isNext_20 : decode cX3_isNext 20 = .ok (.iload_n 1, 1) := by decide +kernel
theorem dX3_isNext_21 : decode cX3_isNext 21 = .ok (.if_icmp .ne 7, 3) := by decide +kernel
theorem dX3_isNext_24 : decode cX3_isNext 24 = .ok (.iconst 1, 1) := by decide +kernel
theorem dX3_isNext_25 : decode cX3_isNext 25 = .ok (.goto 4, 3) := by decide +kernel
theorem dX3_isNext_28 : decode cX3_isNext 28 = .ok (.iconst 0, 1) := by decide +kernel
theorem dX3_isNext_29 : decode cX3_isNext 29 = .ok (.ireturn, 1) := by decide +kernel
theorem dX3_skipBlanks_0 : decode cX3_skipBlanks 0 = .ok (.aload_n 0, 1) := by decide +kernel
theorem dX3_skipBlanks_1 : decode cX3_skipBlanks 1 = .ok (.getfield 25, 3) := by decide +kernel
theorem dX3_skipBlanks_4 : decode cX3_skipBlanks 4 = .ok (.aload_n 0, 1) := by decide +kernel
theorem dX3_skipBlanks_5 : decode cX3_skipBlanks 5 = .ok (.getfield 15, 3) := by decide +kernel
theorem dX3_skipBlanks_8 : decode cX3_skipBlanks 8 = .ok (.if_icmp .ge 30, 3) := by decide +kernel
theorem dX3_skipBlanks_11 : decode cX3_skipBlanks 11 = .ok (.aload_n 0, 1) := by decide +kernel
theorem dX3_skipBlanks_12 : decode cX3_skipBlanks 12 = .ok (.getfield 9, 3) := by decide +kernel
theorem dX3_skipBlanks_15 : decode cX3_skipBlanks 15 = .ok (.aload_n 0, 1) := by decide +kernel
theorem dX3_skipBlanks_16 : decode cX3_skipBlanks 16 = .ok (.getfield 25, 3) := by decide +kernel
theorem dX3_skipBlanks_19 : decode cX3_skipBlanks 19 = .ok (.iaload, 1) := by decide +kernel
theorem dX3_skipBlanks_20 : decode cX3_skipBlanks 20 = .ok (.bipush 32, 2) := by decide +kernel
theorem dX3_skipBlanks_22 : decode cX3_skipBlanks 22 = .ok (.if_icmp .ne 16, 3) := by decide +kernel
theorem dX3_skipBlanks_25 : decode cX3_skipBlanks 25 = .ok (.aload_n 0, 1) := by decide +kernel
theorem dX3_skipBlanks_26 : decode cX3_skipBlanks 26 = .ok (.dup, 1) := by decide +kernel
theorem dX3_skipBlanks_27 : decode cX3_skipBlanks 27 = .ok (.getfield 25, 3) := by decide +kernel
theorem dX3_skipBlanks_30 : decode cX3_skipBlanks 30 = .ok (.iconst 1, 1) := by decide +kernel
theorem dX3_skipBlanks_31 : decode cX3_skipBlanks 31 = .ok (.iadd, 1) := by decide +kernel
theorem dX3_skipBlanks_32 : decode cX3_skipBlanks 32 = .ok (.putfield 25, 3) := by decide +kernel
theorem dX3_skipBlanks_35 : decode cX3_skipBlanks 35 = .ok (.goto (-35), 3) := by decide +kernel
theorem dX3_skipBlanks_38 : decode cX3_skipBlanks 38 = .ok (.return_, 1) := by decide +kernel
theorem dX3_takeWord_0 : decode cX3_takeWord 0 = .ok (.aload_n 0, 1) := by decide +kernel
theorem dX3_takeWord_1 : decode cX3_takeWord 1 = .ok (.getfield 25, 3) := by decide +kernel
theorem dX3_takeWord_4 : decode cX3_takeWord 4 = .ok (.istore_n 1, 1) := by decide +kernel
theorem dX3_takeWord_5 : decode cX3_takeWord 5 = .ok (.aload_n 0, 1) := by decide +kernel
theorem dX3_takeWord_6 : decode cX3_takeWord 6 = .ok (.getfield 25, 3) := by decide +kernel
theorem dX3_takeWord_9 : decode cX3_takeWord 9 = .ok (.aload_n 0, 1) := by decide +kernel
theorem dX3_takeWord_10 : decode cX3_takeWord 10 = .ok (.getfield 15, 3) := by decide +kernel
theorem dX3_takeWord_13 : decode cX3_takeWord 13 = .ok (.if_icmp .ge 23, 3) := by decide +kernel
theorem dX3_takeWord_16 : decode cX3_takeWord 16 = .ok (.aload_n 0, 1) := by decide +kernel
theorem dX3_takeWord_17 : decode cX3_takeWord 17 = .ok (.invokevirtual 85, 3) := by decide +kernel
theorem dX3_takeWord_20 : decode cX3_takeWord 20 = .ok (.ifCond .eq 16, 3) := by decide +kernel
theorem dX3_takeWord_23 : decode cX3_takeWord 23 = .ok (.aload_n 0, 1) := by decide +kernel
theorem dX3_takeWord_24 : decode cX3_takeWord 24 = .ok (.dup, 1) := by decide +kernel
theorem dX3_takeWord_25 : decode cX3_takeWord 25 = .ok (.getfield 25, 3) := by decide +kernel
theorem dX3_takeWord_28 : decode cX3_takeWord 28 = .ok (.iconst 1, 1) := by decide +kernel
theorem dX3_takeWord_29 : decode cX3_takeWord 29 = .ok (.iadd, 1) := by decide +kernel
theorem dX3_takeWord_30 : decode cX3_takeWord 30 = .ok (.putfield 25, 3) := by decide +kernel
theorem dX3_takeWord_33 : decode cX3_takeWord 33 = .ok (.goto (-28), 3) := by decide +kernel
theorem dX3_takeWord_36 : decode cX3_takeWord 36 = .ok (.aload_n 0, 1) := by decide +kernel
theorem dX3_takeWord_37 : decode cX3_takeWord 37 = .ok (.iload_n 1, 1) := by decide +kernel
theorem dX3_takeWord_38 : decode cX3_takeWord 38 = .ok (.invokevirtual 89, 3) := by decide +kernel
theorem dX3_takeWord_41 : decode cX3_takeWord 41 = .ok (.istore_n 2, 1) := by decide +kernel
theorem dX3_takeWord_42 : decode cX3_takeWord 42 = .ok (.iload_n 2, 1) := by decide +kernel
theorem dX3_takeWord_43 : decode cX3_takeWord 43 = .ok (.iconst (-1), 1) := by decide +kernel
theorem dX3_takeWord_44 : decode cX3_takeWord 44 = .ok (.if_icmp .ne 8, 3) := by decide +kernel
theorem dX3_takeWord_47 : decode cX3_takeWord 47 = .ok (.aload_n 0, 1) := by decide +kernel
theorem dX3_takeWord_48 : decode cX3_takeWord 48 = .ok (.iload_n 1, 1) := by decide +kernel
theorem dX3_takeWord_49 : decode cX3_takeWord 49 = .ok (.invokevirtual 92, 3) := by decide +kernel
theorem dX3_takeWord_52 : decode cX3_takeWord 52 = .ok (.iload_n 2, 1) := by decide +kernel
theorem dX3_takeWord_53 : decode cX3_takeWord 53 = .ok (.ireturn, 1) := by decide +kernel
theorem dX3_wordAt_0 : decode cX3_wordAt 0 = .ok (.aload_n 0, 1) := by decide +kernel
theorem dX3_wordAt_1 : decode cX3_wordAt 1 = .ok (.ldc 95, 2) := by decide +kernel
theorem dX3_wordAt_3 : decode cX3_wordAt 3 = .ok (.iload_n 1, 1) := by decide +kernel
theorem dX3_wordAt_4 : decode cX3_wordAt 4 = .ok (.invokevirtual 97, 3) := by decide +kernel
theorem dX3_wordAt_7 : decode cX3_wordAt 7 = .ok (.ifCond .eq 5, 3) := by decide +kernel
theorem dX3_wordAt_10 : decode cX3_wordAt 10 = .ok (.iconst 0, 1) := by decide +kernel
theorem dX3_wordAt_11 : decode cX3_wordAt 11 = .ok (.ireturn, 1) := by decide +kernel
theorem dX3_wordAt_12 : decode cX3_wordAt 12 = .ok (.aload_n 0, 1) := by decide +kernel
theorem dX3_wordAt_13 : decode cX3_wordAt 13 = .ok (.ldc 101, 2) := by decide +kernel
theorem dX3_wordAt_15 : decode cX3_wordAt 15 = .ok (.iload_n 1, 1) := by decide +kernel
theorem dX3_wordAt_16 : decode cX3_wordAt 16 = .ok (.invokevirtual 97, 3) := by decide +kernel
theorem dX3_wordAt_19 : decode cX3_wordAt 19 = .ok (.ifCond .eq 5, 3) := by decide +kernel
theorem dX3_wordAt_22 : decode cX3_wordAt 22 = .ok (.iconst 1, 1) := by decide +kernel
theorem dX3_wordAt_23 : decode cX3_wordAt 23 = .ok (.ireturn, 1) := by decide +kernel
theorem dX3_wordAt_24 : decode cX3_wordAt 24 = .ok (.aload_n 0, 1) := by decide +kernel
theorem dX3_wordAt_25 : decode cX3_wordAt 25 = .ok (.ldc 103, 2) := by decide +kernel
theorem dX3_wordAt_27 : decode cX3_wordAt 27 = .ok (.iload_n 1, 1) := by decide +kernel
theorem dX3_wordAt_28 : decode cX3_wordAt 28 = .ok (.invokevirtual 97, 3) := by decide +kernel
theorem dX3_wordAt_31 : decode cX3_wordAt 31 = .ok (.ifCond .eq 5, 3) := by decide +kernel
theorem dX3_wordAt_34 : decode cX3_wordAt 34 = .ok (.iconst 2, 1) := by decide +kernel
theorem dX3_wordAt_35 : decode cX3_wordAt 35 = .ok (.ireturn, 1) := by decide +kernel
theorem dX3_wordAt_36 : decode cX3_wordAt 36 = .ok (.aload_n 0, 1) := by decide +kernel
theorem dX3_wordAt_37 : decode cX3_wordAt 37 = .ok (.ldc 105, 2) := by decide +kernel
theorem dX3_wordAt_39 : decode cX3_wordAt 39 = .ok (.iload_n 1, 1) := by decide +kernel
theorem dX3_wordAt_40 : decode cX3_wordAt 40 = .ok (.invokevirtual 97, 3) := by decide +kernel
theorem dX3_wordAt_43 : decode cX3_wordAt 43 = .ok (.ifCond .eq 5, 3) := by decide +kernel
theorem dX3_wordAt_46 : decode cX3_wordAt 46 = .ok (.iconst 3, 1) := by decide +kernel
theorem dX3_wordAt_47 : decode cX3_wordAt 47 = .ok (.ireturn, 1) := by decide +kernel
theorem dX3_wordAt_48 : decode cX3_wordAt 48 = .ok (.aload_n 0, 1) := by decide +kernel
theorem dX3_wordAt_49 : decode cX3_wordAt 49 = .ok (.ldc 107, 2) := by decide +kernel
theorem dX3_wordAt_51 : decode cX3_wordAt 51 = .ok (.iload_n 1, 1) := by decide +kernel
theorem dX3_wordAt_52 : decode cX3_wordAt 52 = .ok (.invokevirtual 97, 3) := by decide +kernel
theorem dX3_wordAt_55 : decode cX3_wordAt 55 = .ok (.ifCond .eq 7, 3) := by decide +kernel
theorem dX3_wordAt_58 : decode cX3_wordAt 58 = .ok (.iconst 4, 1) := by decide +kernel
theorem dX3_wordAt_59 : decode cX3_wordAt 59 = .ok (.goto 4, 3) := by decide +kernel
theorem dX3_wordAt_62 : decode cX3_wordAt 62 = .ok (.iconst (-1), 1) := by decide +kernel
theorem dX3_wordAt_63 : decode cX3_wordAt 63 = .ok (.ireturn, 1) := by decide +kernel
theorem dX3_isSpelled_0 : decode cX3_isSpelled 0 = .ok (.aload_n 0, 1) := by decide +kernel
theorem dX3_isSpelled_1 : decode cX3_isSpelled 1 = .ok (.getfield 25, 3) := by decide +kernel
theorem dX3_isSpelled_4 : decode cX3_isSpelled 4 = .ok (.iload_n 2, 1) := by decide +kernel
theorem dX3_isSpelled_5 : decode cX3_isSpelled 5 = .ok (.isub, 1) := by decide +kernel
theorem dX3_isSpelled_6 : decode cX3_isSpelled 6 = .ok (.aload_n 1, 1) := by decide +kernel
theorem dX3_isSpelled_7 : decode cX3_isSpelled 7 = .ok (.invokevirtual 109, 3) := by decide +kernel
theorem dX3_isSpelled_10 : decode cX3_isSpelled 10 = .ok (.if_icmp .eq 5, 3) := by decide +kernel
theorem dX3_isSpelled_13 : decode cX3_isSpelled 13 = .ok (.iconst 0, 1) := by decide +kernel
theorem dX3_isSpelled_14 : decode cX3_isSpelled 14 = .ok (.ireturn, 1) := by decide +kernel
theorem dX3_isSpelled_15 : decode cX3_isSpelled 15 = .ok (.iconst 0, 1) := by decide +kernel
theorem dX3_isSpelled_16 : decode cX3_isSpelled 16 = .ok (.istore_n 3, 1) := by decide +kernel
theorem dX3_isSpelled_17 : decode cX3_isSpelled 17 = .ok (.iload_n 3, 1) := by decide +kernel
theorem dX3_isSpelled_18 : decode cX3_isSpelled 18 = .ok (.aload_n 1, 1) := by decide +kernel
theorem dX3_isSpelled_19 : decode cX3_isSpelled 19 = .ok (.invokevirtual 109, 3) := by decide +kernel
theorem dX3_isSpelled_22 : decode cX3_isSpelled 22 = .ok (.if_icmp .ge 27, 3) := by decide +kernel
theorem dX3_isSpelled_25 : decode cX3_isSpelled 25 = .ok (.aload_n 0, 1) := by decide +kernel
theorem dX3_isSpelled_26 : decode cX3_isSpelled 26 = .ok (.getfield 9, 3) := by decide +kernel
theorem dX3_isSpelled_29 : decode cX3_isSpelled 29 = .ok (.iload_n 2, 1) := by decide +kernel
theorem dX3_isSpelled_30 : decode cX3_isSpelled 30 = .ok (.iload_n 3, 1) := by decide +kernel
theorem dX3_isSpelled_31 : decode cX3_isSpelled 31 = .ok (.iadd, 1) := by decide +kernel
theorem dX3_isSpelled_32 : decode cX3_isSpelled 32 = .ok (.iaload, 1) := by decide +kernel
theorem dX3_isSpelled_33 : decode cX3_isSpelled 33 = .ok (.aload_n 1, 1) := by decide +kernel
theorem dX3_isSpelled_34 : decode cX3_isSpelled 34 = .ok (.iload_n 3, 1) := by decide +kernel
theorem dX3_isSpelled_35 : decode cX3_isSpelled 35 = .ok (.invokevirtual 113, 3) := by decide +kernel
theorem dX3_isSpelled_38 : decode cX3_isSpelled 38 = .ok (.if_icmp .eq 5, 3) := by decide +kernel
theorem dX3_isSpelled_41 : decode cX3_isSpelled 41 = .ok (.iconst 0, 1) := by decide +kernel
theorem dX3_isSpelled_42 : decode cX3_isSpelled 42 = .ok (.ireturn, 1) := by decide +kernel
theorem dX3_isSpelled_43 : decode cX3_isSpelled 43 = .ok (.iinc 3 1, 3) := by decide +kernel
theorem dX3_isSpelled_46 : decode cX3_isSpelled 46 = .ok (.goto (-29), 3) := by decide +kernel
theorem dX3_isSpelled_49 : decode cX3_isSpelled 49 = .ok (.iconst 1, 1) := by decide +kernel
theorem dX3_isSpelled_50 : decode cX3_isSpelled 50 = .ok (.ireturn, 1) := by decide +kernel
theorem dX3_takeIndex_0 : decode cX3_takeIndex 0 = .ok (.aload_n 0, 1) := by decide +kernel
theorem dX3_takeIndex_1 : decode cX3_takeIndex 1 = .ok (.invokevirtual 37, 3) := by decide +kernel
theorem dX3_takeIndex_4 : decode cX3_takeIndex 4 = .ok (.aload_n 0, 1) := by decide +kernel
theorem dX3_takeIndex_5 : decode cX3_takeIndex 5 = .ok (.getfield 25, 3) := by decide +kernel
theorem dX3_takeIndex_8 : decode cX3_takeIndex 8 = .ok (.istore_n 2, 1) := by decide +kernel
theorem dX3_takeIndex_9 : decode cX3_takeIndex 9 = .ok (.aload_n 0, 1) := by decide +kernel
theorem dX3_takeIndex_10 : decode cX3_takeIndex 10 = .ok (.invokevirtual 117, 3) := by decide +kernel
theorem dX3_takeIndex_13 : decode cX3_takeIndex 13 = .ok (.istore_n 3, 1) := by decide +kernel
theorem dX3_takeIndex_14 : decode cX3_takeIndex 14 = .ok (.iload_n 3, 1) := by decide +kernel
theorem dX3_takeIndex_15 : decode cX3_takeIndex 15 = .ok (.iload_n 1, 1) := by decide +kernel
theorem dX3_takeIndex_16 : decode cX3_takeIndex 16 = .ok (.if_icmp .lt 11, 3) := by decide +kernel
theorem dX3_takeIndex_19 : decode cX3_takeIndex 19 = .ok (.iload_n 3, 1) := by decide +kernel
theorem dX3_takeIndex_20 : decode cX3_takeIndex 20 = .ok (.aload_n 0, 1) := by decide +kernel
theorem dX3_takeIndex_21 : decode cX3_takeIndex 21 = .ok (.getfield 22, 3) := by decide +kernel
theorem dX3_takeIndex_24 : decode cX3_takeIndex 24 = .ok (.if_icmp .lt 8, 3) := by decide +kernel
theorem dX3_takeIndex_27 : decode cX3_takeIndex 27 = .ok (.aload_n 0, 1) := by decide +kernel
theorem dX3_takeIndex_28 : decode cX3_takeIndex 28 = .ok (.iload_n 2, 1) := by decide +kernel
theorem dX3_takeIndex_29 : decode cX3_takeIndex 29 = .ok (.invokevirtual 92, 3) := by decide +kernel
theorem dX3_takeIndex_32 : decode cX3_takeIndex 32 = .ok (.aload_n 0, 1) := by decide +kernel
theorem dX3_takeIndex_33 : decode cX3_takeIndex 33 = .ok (.invokevirtual 120, 3) := by decide +kernel
theorem dX3_takeIndex_36 : decode cX3_takeIndex 36 = .ok (.ifCond .eq 11, 3) := by decide +kernel
theorem dX3_takeIndex_39 : decode cX3_takeIndex 39 = .ok (.aload_n 0, 1) := by decide +kernel
theorem dX3_takeIndex_40 : decode cX3_takeIndex 40 = .ok (.aload_n 0, 1) := by decide +kernel
theorem dX3_takeIndex_41 : decode cX3_takeIndex 41 = .ok (.getfield 25, 3) := by decide +kernel
theorem dX3_takeIndex_44 : decode cX3_takeIndex 44 = .ok (.invokevirtual 92, 3) := by decide +kernel
theorem dX3_takeIndex_47 : decode cX3_takeIndex 47 = .ok (.aload_n 0, 1) := by decide +kernel
theorem dX3_takeIndex_48 : decode cX3_takeIndex 48 = .ok (.getfield 28, 3) := by decide +kernel
theorem dX3_takeIndex_51 : decode cX3_takeIndex 51 = .ok (.iconst (-1), 1) := by decide +kernel
theorem dX3_takeIndex_52 : decode cX3_takeIndex 52 = .ok (.if_icmp .ne 7, 3) := by decide +kernel
theorem dX3_takeIndex_55 : decode cX3_takeIndex 55 = .ok (.iload_n 3, 1) := by decide +kernel
theorem dX3_takeIndex_56 : decode cX3_takeIndex 56 = .ok (.goto 4, 3) := by decide +kernel
theorem dX3_takeIndex_59 : decode cX3_takeIndex 59 = .ok (.iconst 0, 1) := by decide +kernel
theorem dX3_takeIndex_60 : decode cX3_takeIndex 60 = .ok (.ireturn, 1) := by decide +kernel
theorem dX3_takeNumber_0 : decode cX3_takeNumber 0 = .ok (.aload_n 0, 1) := by decide +kernel
theorem dX3_takeNumber_1 : decode cX3_takeNumber 1 = .ok (.invokevirtual 37, 3) := by decide +kernel
theorem dX3_takeNumber_4 : decode cX3_takeNumber 4 = .ok (.aload_n 0, 1) := by decide +kernel
theorem dX3_takeNumber_5 : decode cX3_takeNumber 5 = .ok (.invokevirtual 117, 3) := by decide +kernel
theorem dX3_takeNumber_8 : decode cX3_takeNumber 8 = .ok (.ireturn, 1) := by decide +kernel
theorem dX3_takeAmount_0 : decode cX3_takeAmount 0 = .ok (.aload_n 0, 1) := by decide +kernel
theorem dX3_takeAmount_1 : decode cX3_takeAmount 1 = .ok (.invokevirtual 37, 3) := by decide +kernel
theorem dX3_takeAmount_4 : decode cX3_takeAmount 4 = .ok (.aload_n 0, 1) := by decide +kernel
theorem dX3_takeAmount_5 : decode cX3_takeAmount 5 = .ok (.bipush 45, 2) := by decide +kernel
theorem dX3_takeAmount_7 : decode cX3_takeAmount 7 = .ok (.invokevirtual 123, 3) := by decide +kernel
theorem dX3_takeAmount_10 : decode cX3_takeAmount 10 = .ok (.ifCond .ne 8, 3) := by decide +kernel
theorem dX3_takeAmount_13 : decode cX3_takeAmount 13 = .ok (.aload_n 0, 1) := by decide +kernel
theorem dX3_takeAmount_14 : decode cX3_takeAmount 14 = .ok (.invokevirtual 67, 3) := by decide +kernel
theorem dX3_takeAmount_17 : decode cX3_takeAmount 17 = .ok (.ireturn, 1) := by decide +kernel
theorem dX3_takeAmount_18 : decode cX3_takeAmount 18 = .ok (.aload_n 0, 1) := by decide +kernel
theorem dX3_takeAmount_19 : decode cX3_takeAmount 19 = .ok (.dup, 1) := by decide +kernel
theorem dX3_takeAmount_20 : decode cX3_takeAmount 20 = .ok (.getfield 25, 3) := by decide +kernel
theorem dX3_takeAmount_23 : decode cX3_takeAmount 23 = .ok (.iconst 1, 1) := by decide +kernel
theorem dX3_takeAmount_24 : decode cX3_takeAmount 24 = .ok (.iadd, 1) := by decide +kernel
theorem dX3_takeAmount_25 : decode cX3_takeAmount 25 = .ok (.putfield 25, 3) := by decide +kernel
theorem dX3_takeAmount_28 : decode cX3_takeAmount 28 = .ok (.aload_n 0, 1) := by decide +kernel
theorem dX3_takeAmount_29 : decode cX3_takeAmount 29 = .ok (.invokevirtual 117, 3) := by decide +kernel
theorem dX3_takeAmount_32 : decode cX3_takeAmount 32 = .ok (.ineg, 1) := by decide +kernel
theorem dX3_takeAmount_33 : decode cX3_takeAmount 33 = .ok (.ireturn, 1) := by decide +kernel
theorem dX3_takeDigits_0 : decode cX3_takeDigits 0 = .ok (.aload_n 0, 1) := by decide +kernel
theorem dX3_takeDigits_1 : decode cX3_takeDigits 1 = .ok (.invokevirtual 120, 3) := by decide +kernel
theorem dX3_takeDigits_4 : decode cX3_takeDigits 4 = .ok (.ifCond .ne 13, 3) := by decide +kernel
theorem dX3_takeDigits_7 : decode cX3_takeDigits 7 = .ok (.aload_n 0, 1) := by decide +kernel
theorem dX3_takeDigits_8 : decode cX3_takeDigits 8 = .ok (.aload_n 0, 1) := by decide +kernel
theorem dX3_takeDigits_9 : decode cX3_takeDigits 9 = .ok (.getfield 25, 3) := by decide +kernel
theorem dX3_takeDigits_12 : decode cX3_takeDigits 12 = .ok (.invokevirtual 92, 3) := by decide +kernel
theorem dX3_takeDigits_15 : decode cX3_takeDigits 15 = .ok (.iconst 0, 1) := by decide +kernel
theorem dX3_takeDigits_16 : decode cX3_takeDigits 16 = .ok (.ireturn, 1) := by decide +kernel
theorem dX3_takeDigits_17 : decode cX3_takeDigits 17 = .ok (.aload_n 0, 1) := by decide +kernel
theorem dX3_takeDigits_18 : decode cX3_takeDigits 18 = .ok (.getfield 9, 3) := by decide +kernel
theorem dX3_takeDigits_21 : decode cX3_takeDigits 21 = .ok (.aload_n 0, 1) := by decide +kernel
theorem dX3_takeDigits_22 : decode cX3_takeDigits 22 = .ok (.getfield 25, 3) := by decide +kernel
theorem dX3_takeDigits_25 : decode cX3_takeDigits 25 = .ok (.iaload, 1) := by decide +kernel
theorem dX3_takeDigits_26 : decode cX3_takeDigits 26 = .ok (.bipush 48, 2) := by decide +kernel
theorem dX3_takeDigits_28 : decode cX3_takeDigits 28 = .ok (.isub, 1) := by decide +kernel
theorem dX3_takeDigits_29 : decode cX3_takeDigits 29 = .ok (.istore_n 1, 1) := by decide +kernel
theorem dX3_takeDigits_30 : decode cX3_takeDigits 30 = .ok (.aload_n 0, 1) := by decide +kernel
theorem dX3_takeDigits_31 : decode cX3_takeDigits 31 = .ok (.dup, 1) := by decide +kernel
theorem dX3_takeDigits_32 : decode cX3_takeDigits 32 = .ok (.getfield 25, 3) := by decide +kernel
theorem dX3_takeDigits_35 : decode cX3_takeDigits 35 = .ok (.iconst 1, 1) := by decide +kernel
theorem dX3_takeDigits_36 : decode cX3_takeDigits 36 = .ok (.iadd, 1) := by decide +kernel
theorem dX3_takeDigits_37 : decode cX3_takeDigits 37 = .ok (.putfield 25, 3) := by decide +kernel
theorem dX3_takeDigits_40 : decode cX3_takeDigits 40 = .ok (.aload_n 0, 1) := by decide +kernel
theorem dX3_takeDigits_41 : decode cX3_takeDigits 41 = .ok (.invokevirtual 120, 3) := by decide +kernel
theorem dX3_takeDigits_44 : decode cX3_takeDigits 44 = .ok (.ifCond .eq 31, 3) := by decide +kernel
theorem dX3_takeDigits_47 : decode cX3_takeDigits 47 = .ok (.bipush 10, 2) := by decide +kernel
theorem dX3_takeDigits_49 : decode cX3_takeDigits 49 = .ok (.iload_n 1, 1) := by decide +kernel
theorem dX3_takeDigits_50 : decode cX3_takeDigits 50 = .ok (.imul, 1) := by decide +kernel
theorem dX3_takeDigits_51 : decode cX3_takeDigits 51 = .ok (.aload_n 0, 1) := by decide +kernel
theorem dX3_takeDigits_52 : decode cX3_takeDigits 52 = .ok (.getfield 9, 3) := by decide +kernel
theorem dX3_takeDigits_55 : decode cX3_takeDigits 55 = .ok (.aload_n 0, 1) := by decide +kernel
theorem dX3_takeDigits_56 : decode cX3_takeDigits 56 = .ok (.getfield 25, 3) := by decide +kernel
theorem dX3_takeDigits_59 : decode cX3_takeDigits 59 = .ok (.iaload, 1) := by decide +kernel
theorem dX3_takeDigits_60 : decode cX3_takeDigits 60 = .ok (.iadd, 1) := by decide +kernel
theorem dX3_takeDigits_61 : decode cX3_takeDigits 61 = .ok (.bipush 48, 2) := by decide +kernel
theorem dX3_takeDigits_63 : decode cX3_takeDigits 63 = .ok (.isub, 1) := by decide +kernel
theorem dX3_takeDigits_64 : decode cX3_takeDigits 64 = .ok (.istore_n 1, 1) := by decide +kernel
theorem dX3_takeDigits_65 : decode cX3_takeDigits 65 = .ok (.aload_n 0, 1) := by decide +kernel
theorem dX3_takeDigits_66 : decode cX3_takeDigits 66 = .ok (.dup, 1) := by decide +kernel
theorem dX3_takeDigits_67 : decode cX3_takeDigits 67 = .ok (.getfield 25, 3) := by decide +kernel
theorem dX3_takeDigits_70 : decode cX3_takeDigits 70 = .ok (.iconst 1, 1) := by decide +kernel
theorem dX3_takeDigits_71 : decode cX3_takeDigits 71 = .ok (.iadd, 1) := by decide +kernel
theorem dX3_takeDigits_72 : decode cX3_takeDigits 72 = .ok (.putfield 25, 3) := by decide +kernel
theorem dX3_takeDigits_75 : decode cX3_takeDigits 75 = .ok (.iload_n 1, 1) := by decide +kernel
theorem dX3_takeDigits_76 : decode cX3_takeDigits 76 = .ok (.ireturn, 1) := by decide +kernel
theorem dX3_takeSemicolon_0 : decode cX3_takeSemicolon 0 = .ok (.aload_n 0, 1) := by decide +kernel
theorem dX3_takeSemicolon_1 : decode cX3_takeSemicolon 1 = .ok (.invokevirtual 37, 3) := by decide +kernel
theorem dX3_takeSemicolon_4 : decode cX3_takeSemicolon 4 = .ok (.aload_n 0, 1) := by decide +kernel
theorem dX3_takeSemicolon_5 : decode cX3_takeSemicolon 5 = .ok (.bipush 59, 2) := by decide +kernel
theorem dX3_takeSemicolon_7 : decode cX3_takeSemicolon 7 = .ok (.invokevirtual 123, 3) := by decide +kernel
theorem dX3_takeSemicolon_10 : decode cX3_takeSemicolon 10 = .ok (.ifCond .eq 16, 3) := by decide +kernel
theorem dX3_takeSemicolon_13 : decode cX3_takeSemicolon 13 = .ok (.aload_n 0, 1) := by decide +kernel
theorem dX3_takeSemicolon_14 : decode cX3_takeSemicolon 14 = .ok (.dup, 1) := by decide +kernel
theorem dX3_takeSemicolon_15 : decode cX3_takeSemicolon 15 = .ok (.getfield 25, 3) := by decide +kernel
theorem dX3_takeSemicolon_18 : decode cX3_takeSemicolon 18 = .ok (.iconst 1, 1) := by decide +kernel
theorem dX3_takeSemicolon_19 : decode cX3_takeSemicolon 19 = .ok (.iadd, 1) := by decide +kernel
theorem dX3_takeSemicolon_20 : decode cX3_takeSemicolon 20 = .ok (.putfield 25, 3) := by decide +kernel
theorem dX3_takeSemicolon_23 : decode cX3_takeSemicolon 23 = .ok (.goto 11, 3) := by decide +kernel
theorem dX3_takeSemicolon_26 : decode cX3_takeSemicolon 26 = .ok (.aload_n 0, 1) := by decide +kernel
theorem dX3_takeSemicolon_27 : decode cX3_takeSemicolon 27 = .ok (.aload_n 0, 1) := by decide +kernel
theorem dX3_takeSemicolon_28 : decode cX3_takeSemicolon 28 = .ok (.getfield 25, 3) := by decide +kernel
theorem dX3_takeSemicolon_31 : decode cX3_takeSemicolon 31 = .ok (.invokevirtual 92, 3) := by decide +kernel
theorem dX3_takeSemicolon_34 : decode cX3_takeSemicolon 34 = .ok (.return_, 1) := by decide +kernel
theorem dJ9_max_7cf53_0 : decode cJ9_max_7cf53 0 = .ok (.iload_n 0, 1) := by decide +kernel
theorem dJ9_max_7cf53_1 : decode cJ9_max_7cf53 1 = .ok (.iload_n 1, 1) := by decide +kernel
theorem dJ9_max_7cf53_2 : decode cJ9_max_7cf53 2 = .ok (.if_icmp .lt 7, 3) := by decide +kernel
theorem dJ9_max_7cf53_5 : decode cJ9_max_7cf53 5 = .ok (.iload_n 0, 1) := by decide +kernel
theorem dJ9_max_7cf53_6 : decode cJ9_max_7cf53 6 = .ok (.goto 4, 3) := by decide +kernel
theorem dJ9_max_7cf53_9 : decode cJ9_max_7cf53 9 = .ok (.iload_n 1, 1) := by decide +kernel
theorem dJ9_max_7cf53_10 : decode cJ9_max_7cf53 10 = .ok (.ireturn, 1) := by decide +kernel
theorem dJ9_min_7cf53_0 : decode cJ9_min_7cf53 0 = .ok (.iload_n 0, 1) := by decide +kernel
theorem dJ9_min_7cf53_1 : decode cJ9_min_7cf53 1 = .ok (.iload_n 1, 1) := by decide +kernel
theorem dJ9_min_7cf53_2 : decode cJ9_min_7cf53 2 = .ok (.if_icmp .gt 7, 3) := by decide +kernel
theorem dJ9_min_7cf53_5 : decode cJ9_min_7cf53 5 = .ok (.iload_n 0, 1) := by decide +kernel
theorem dJ9_min_7cf53_6 : decode cJ9_min_7cf53 6 = .ok (.goto 4, 3) := by decide +kernel
theorem dJ9_min_7cf53_9 : decode cJ9_min_7cf53 9 = .ok (.iload_n 1, 1) := by decide +kernel
theorem dJ9_min_7cf53_10 : decode cJ9_min_7cf53 10 = .ok (.ireturn, 1) := by decide +kernel
theorem dJ0_length_8abf5_0 : decode cJ0_length_8abf5 0 = .ok (.aload_n 0, 1) := by decide +kernel
theorem dJ0_length_8abf5_1 : decode cJ0_length_8abf5 1 = .ok (.getfield 9, 3) := by decide +kernel
theorem dJ0_length_8abf5_4 : decode cJ0_length_8abf5 4 = .ok (.arraylength, 1) := by decide +kernel
theorem dJ0_length_8abf5_5 : decode cJ0_length_8abf5 5 = .ok (.aload_n 0, 1) := by decide +kernel
theorem dJ0_length_8abf5_6 : decode cJ0_length_8abf5 6 = .ok (.invokevirtual 335, 3) := by decide +kernel
theorem dJ0_length_8abf5_9 : decode cJ0_length_8abf5 9 = .ok (.ishr, 1) := by decide +kernel
theorem dJ0_length_8abf5_10 : decode cJ0_length_8abf5 10 = .ok (.ireturn, 1) := by decide +kernel
theorem dJ0_charAt_5068e_0 : decode cJ0_charAt_5068e 0 = .ok (.aload_n 0, 1) := by decide +kernel
theorem dJ0_charAt_5068e_1 : decode cJ0_charAt_5068e 1 = .ok (.invokevirtual 492, 3) := by decide +kernel
theorem dJ0_charAt_5068e_4 : decode cJ0_charAt_5068e 4 = .ok (.ifCond .eq 12, 3) := by decide +kernel
theorem dJ0_charAt_5068e_7 : decode cJ0_charAt_5068e 7 = .ok (.aload_n 0, 1) := by decide +kernel
theorem dJ0_charAt_5068e_8 : decode cJ0_charAt_5068e 8 = .ok (.getfield 9, 3) := by decide +kernel
theorem dJ0_charAt_5068e_11 : decode cJ0_charAt_5068e 11 = .ok (.iload_n 1, 1) := by decide +kernel
theorem dJ0_charAt_5068e_12 : decode cJ0_charAt_5068e 12 = .ok (.invokestatic 495, 3) := by decide +kernel
theorem dJ0_charAt_5068e_15 : decode cJ0_charAt_5068e 15 = .ok (.ireturn, 1) := by decide +kernel
theorem dJ0_charAt_5068e_16 : decode cJ0_charAt_5068e 16 = .ok (.aload_n 0, 1) := by decide +kernel
theorem dJ0_charAt_5068e_17 : decode cJ0_charAt_5068e 17 = .ok (.getfield 9, 3) := by decide +kernel
theorem dJ0_charAt_5068e_20 : decode cJ0_charAt_5068e 20 = .ok (.iload_n 1, 1) := by decide +kernel
theorem dJ0_charAt_5068e_21 : decode cJ0_charAt_5068e 21 = .ok (.invokestatic 498, 3) := by decide +kernel
theorem dJ0_charAt_5068e_24 : decode cJ0_charAt_5068e 24 = .ok (.ireturn, 1) := by decide +kernel
theorem dJ0_coder_7d493_0 : decode cJ0_coder_7d493 0 = .ok (.getstatic 38, 3) := by decide +kernel
theorem dJ0_coder_7d493_3 : decode cJ0_coder_7d493 3 = .ok (.ifCond .eq 10, 3) := by decide +kernel
theorem dJ0_coder_7d493_6 : decode cJ0_coder_7d493 6 = .ok (.aload_n 0, 1) := by decide +kernel
theorem dJ0_coder_7d493_7 : decode cJ0_coder_7d493 7 = .ok (.getfield 15, 3) := by decide +kernel
theorem dJ0_coder_7d493_10 : decode cJ0_coder_7d493 10 = .ok (.goto 4, 3) := by decide +kernel
theorem dJ0_coder_7d493_13 : decode cJ0_coder_7d493 13 = .ok (.iconst 1, 1) := by decide +kernel
theorem dJ0_coder_7d493_14 : decode cJ0_coder_7d493 14 = .ok (.ireturn, 1) := by decide +kernel
theorem dJ0_isLatin1_aae02_0 : decode cJ0_isLatin1_aae02 0 = .ok (.getstatic 38, 3) := by decide +kernel
theorem dJ0_isLatin1_aae02_3 : decode cJ0_isLatin1_aae02 3 = .ok (.ifCond .eq 14, 3) := by decide +kernel
theorem dJ0_isLatin1_aae02_6 : decode cJ0_isLatin1_aae02 6 = .ok (.aload_n 0, 1) := by decide +kernel
theorem dJ0_isLatin1_aae02_7 : decode cJ0_isLatin1_aae02 7 = .ok (.getfield 15, 3) := by decide +kernel
theorem dJ0_isLatin1_aae02_10 : decode cJ0_isLatin1_aae02 10 = .ok (.ifCond .ne 7, 3) := by decide +kernel
theorem dJ0_isLatin1_aae02_13 : decode cJ0_isLatin1_aae02 13 = .ok (.iconst 1, 1) := by decide +kernel
theorem dJ0_isLatin1_aae02_14 : decode cJ0_isLatin1_aae02 14 = .ok (.goto 4, 3) := by decide +kernel
theorem dJ0_isLatin1_aae02_17 : decode cJ0_isLatin1_aae02 17 = .ok (.iconst 0, 1) := by decide +kernel
theorem dJ0_isLatin1_aae02_18 : decode cJ0_isLatin1_aae02 18 = .ok (.ireturn, 1) := by decide +kernel
theorem dJ0_checkIndex_df160_0 : decode cJ0_checkIndex_df160 0 = .ok (.iload_n 0, 1) := by decide +kernel
theorem dJ0_checkIndex_df160_1 : decode cJ0_checkIndex_df160 1 = .ok (.iload_n 1, 1) := by decide +kernel
theorem dJ0_checkIndex_df160_2 : decode cJ0_checkIndex_df160 2 = .ok (.getstatic 1053, 3) := by decide +kernel
theorem dJ0_checkIndex_df160_5 : decode cJ0_checkIndex_df160 5 = .ok (.invokestatic 1059, 3) := by decide +kernel
theorem dJ0_checkIndex_df160_8 : decode cJ0_checkIndex_df160 8 = .ok (.pop, 1) := by decide +kernel
theorem dJ0_checkIndex_df160_9 : decode cJ0_checkIndex_df160 9 = .ok (.return_, 1) := by decide +kernel
theorem dJ1_charAt_3b067_0 : decode cJ1_charAt_3b067 0 = .ok (.iload_n 1, 1) := by decide +kernel
theorem dJ1_charAt_3b067_1 : decode cJ1_charAt_3b067 1 = .ok (.aload_n 0, 1) := by decide +kernel
theorem dJ1_charAt_3b067_2 : decode cJ1_charAt_3b067 2 = .ok (.arraylength, 1) := by decide +kernel
theorem dJ1_charAt_3b067_3 : decode cJ1_charAt_3b067 3 = .ok (.invokestatic 9, 3) := by decide +kernel
theorem dJ1_charAt_3b067_6 : decode cJ1_charAt_3b067 6 = .ok (.aload_n 0, 1) := by decide +kernel
theorem dJ1_charAt_3b067_7 : decode cJ1_charAt_3b067 7 = .ok (.iload_n 1, 1) := by decide +kernel
theorem dJ1_charAt_3b067_8 : decode cJ1_charAt_3b067 8 = .ok (.baload, 1) := by decide +kernel
theorem dJ1_charAt_3b067_9 : decode cJ1_charAt_3b067 9 = .ok (.sipush 255, 3) := by decide +kernel
theorem dJ1_charAt_3b067_12 : decode cJ1_charAt_3b067 12 = .ok (.iand, 1) := by decide +kernel
theorem dJ1_charAt_3b067_13 : decode cJ1_charAt_3b067 13 = .ok (.i2c, 1) := by decide +kernel
theorem dJ1_charAt_3b067_14 : decode cJ1_charAt_3b067 14 = .ok (.ireturn, 1) := by decide +kernel
theorem dJ2_getChar_3b067_0 : decode cJ2_getChar_3b067 0 = .ok (.getstatic 44, 3) := by decide +kernel
theorem dJ2_getChar_3b067_3 : decode cJ2_getChar_3b067 3 = .ok (.ifCond .ne 25, 3) := by decide +kernel
theorem dJ2_getChar_3b067_6 : decode cJ2_getChar_3b067 6 = .ok (.iload_n 1, 1) := by decide +kernel
theorem dJ2_getChar_3b067_7 : decode cJ2_getChar_3b067 7 = .ok (.ifCond .lt 11, 3) := by decide +kernel
theorem dJ2_getChar_3b067_10 : decode cJ2_getChar_3b067 10 = .ok (.iload_n 1, 1) := by decide +kernel
theorem dJ2_getChar_3b067_11 : decode cJ2_getChar_3b067 11 = .ok (.aload_n 0, 1) := by decide +kernel
theorem dJ2_getChar_3b067_12 : decode cJ2_getChar_3b067 12 = .ok (.invokestatic 48, 3) := by decide +kernel
theorem dJ2_getChar_3b067_15 : decode cJ2_getChar_3b067 15 = .ok (.if_icmp .lt 13, 3) := by decide +kernel
theorem dJ2_getChar_3b067_18 : decode cJ2_getChar_3b067 18 = .ok (.new 52, 3) := by decide +kernel
theorem dJ2_getChar_3b067_21 : decode cJ2_getChar_3b067 21 = .ok (.dup, 1) := by decide +kernel
theorem dJ2_getChar_3b067_22 : decode cJ2_getChar_3b067 22 = .ok (.ldc 54, 2) := by decide +kernel
theorem dJ2_getChar_3b067_24 : decode cJ2_getChar_3b067 24 = .ok (.invokespecial 56, 3) := by decide +kernel
theorem dJ2_getChar_3b067_27 : decode cJ2_getChar_3b067 27 = .ok (.athrow, 1) := by decide +kernel
theorem dJ2_getChar_3b067_28 : decode cJ2_getChar_3b067 28 = .ok (.iload_n 1, 1) := by decide +kernel
theorem dJ2_getChar_3b067_29 : decode cJ2_getChar_3b067 29 = .ok (.iconst 1, 1) := by decide +kernel
theorem dJ2_getChar_3b067_30 : decode cJ2_getChar_3b067 30 = .ok (.ishl, 1) := by decide +kernel
theorem dJ2_getChar_3b067_31 : decode cJ2_getChar_3b067 31 = .ok (.istore_n 1, 1) := by decide +kernel
theorem dJ2_getChar_3b067_32 : decode cJ2_getChar_3b067 32 = .ok (.aload_n 0, 1) := by decide +kernel
theorem dJ2_getChar_3b067_33 : decode cJ2_getChar_3b067 33 = .ok (.iload_n 1, 1) := by decide +kernel
theorem dJ2_getChar_3b067_34 : decode cJ2_getChar_3b067 34 = .ok (.iinc 1 1, 3) := by decide +kernel
theorem dJ2_getChar_3b067_37 : decode cJ2_getChar_3b067 37 = .ok (.baload, 1) := by decide +kernel
theorem dJ2_getChar_3b067_38 : decode cJ2_getChar_3b067 38 = .ok (.sipush 255, 3) := by decide +kernel
theorem dJ2_getChar_3b067_41 : decode cJ2_getChar_3b067 41 = .ok (.iand, 1) := by decide +kernel
theorem dJ2_getChar_3b067_42 : decode cJ2_getChar_3b067 42 = .ok (.getstatic 59, 3) := by decide +kernel
theorem dJ2_getChar_3b067_45 : decode cJ2_getChar_3b067 45 = .ok (.ishl, 1) := by decide +kernel
theorem dJ2_getChar_3b067_46 : decode cJ2_getChar_3b067 46 = .ok (.aload_n 0, 1) := by decide +kernel
theorem dJ2_getChar_3b067_47 : decode cJ2_getChar_3b067 47 = .ok (.iload_n 1, 1) := by decide +kernel
theorem dJ2_getChar_3b067_48 : decode cJ2_getChar_3b067 48 = .ok (.baload, 1) := by decide +kernel
theorem dJ2_getChar_3b067_49 : decode cJ2_getChar_3b067 49 = .ok (.sipush 255, 3) := by decide +kernel
theorem dJ2_getChar_3b067_52 : decode cJ2_getChar_3b067 52 = .ok (.iand, 1) := by decide +kernel
theorem dJ2_getChar_3b067_53 : decode cJ2_getChar_3b067 53 = .ok (.getstatic 63, 3) := by decide +kernel
theorem dJ2_getChar_3b067_56 : decode cJ2_getChar_3b067 56 = .ok (.ishl, 1) := by decide +kernel
theorem dJ2_getChar_3b067_57 : decode cJ2_getChar_3b067 57 = .ok (.ior, 1) := by decide +kernel
theorem dJ2_getChar_3b067_58 : decode cJ2_getChar_3b067 58 = .ok (.i2c, 1) := by decide +kernel
theorem dJ2_getChar_3b067_59 : decode cJ2_getChar_3b067 59 = .ok (.ireturn, 1) := by decide +kernel
theorem dJ2_length_9d52b_0 : decode cJ2_length_9d52b 0 = .ok (.aload_n 0, 1) := by decide +kernel
theorem dJ2_length_9d52b_1 : decode cJ2_length_9d52b 1 = .ok (.arraylength, 1) := by decide +kernel
theorem dJ2_length_9d52b_2 : decode cJ2_length_9d52b 2 = .ok (.iconst 1, 1) := by decide +kernel
theorem dJ2_length_9d52b_3 : decode cJ2_length_9d52b 3 = .ok (.ishr, 1) := by decide +kernel
theorem dJ2_length_9d52b_4 : decode cJ2_length_9d52b 4 = .ok (.ireturn, 1) := by decide +kernel
theorem dJ2_charAt_3b067_0 : decode cJ2_charAt_3b067 0 = .ok (.iload_n 1, 1) := by decide +kernel
theorem dJ2_charAt_3b067_1 : decode cJ2_charAt_3b067 1 = .ok (.aload_n 0, 1) := by decide +kernel
theorem dJ2_charAt_3b067_2 : decode cJ2_charAt_3b067 2 = .ok (.invokestatic 67, 3) := by decide +kernel
theorem dJ2_charAt_3b067_5 : decode cJ2_charAt_3b067 5 = .ok (.aload_n 0, 1) := by decide +kernel
theorem dJ2_charAt_3b067_6 : decode cJ2_charAt_3b067 6 = .ok (.iload_n 1, 1) := by decide +kernel
theorem dJ2_charAt_3b067_7 : decode cJ2_charAt_3b067 7 = .ok (.invokestatic 71, 3) := by decide +kernel
theorem dJ2_charAt_3b067_10 : decode cJ2_charAt_3b067 10 = .ok (.ireturn, 1) := by decide +kernel
theorem dJ2_checkIndex_2214a_0 : decode cJ2_checkIndex_2214a 0 = .ok (.iload_n 0, 1) := by decide +kernel
theorem dJ2_checkIndex_2214a_1 : decode cJ2_checkIndex_2214a 1 = .ok (.aload_n 1, 1) := by decide +kernel
theorem dJ2_checkIndex_2214a_2 : decode cJ2_checkIndex_2214a 2 = .ok (.invokestatic 48, 3) := by decide +kernel
theorem dJ2_checkIndex_2214a_5 : decode cJ2_checkIndex_2214a 5 = .ok (.invokestatic 414, 3) := by decide +kernel
theorem dJ2_checkIndex_2214a_8 : decode cJ2_checkIndex_2214a 8 = .ok (.return_, 1) := by decide +kernel
theorem dJ3_checkIndex_8e157_0 : decode cJ3_checkIndex_8e157 0 = .ok (.iload_n 0, 1) := by decide +kernel
theorem dJ3_checkIndex_8e157_1 : decode cJ3_checkIndex_8e157 1 = .ok (.ifCond .lt 8, 3) := by decide +kernel
theorem dJ3_checkIndex_8e157_4 : decode cJ3_checkIndex_8e157 4 = .ok (.iload_n 0, 1) := by decide +kernel
theorem dJ3_checkIndex_8e157_5 : decode cJ3_checkIndex_8e157 5 = .ok (.iload_n 1, 1) := by decide +kernel
theorem dJ3_checkIndex_8e157_6 : decode cJ3_checkIndex_8e157 6 = .ok (.if_icmp .lt 10, 3) := by decide +kernel
theorem dJ3_checkIndex_8e157_9 : decode cJ3_checkIndex_8e157 9 = .ok (.aload_n 2, 1) := by decide +kernel
theorem dJ3_checkIndex_8e157_10 : decode cJ3_checkIndex_8e157 10 = .ok (.iload_n 0, 1) := by decide +kernel
theorem dJ3_checkIndex_8e157_11 : decode cJ3_checkIndex_8e157 11 = .ok (.iload_n 1, 1) := by decide +kernel
theorem dJ3_checkIndex_8e157_12 : decode cJ3_checkIndex_8e157 12 = .ok (.invokestatic 95, 3) := by decide +kernel
theorem dJ3_checkIndex_8e157_15 : decode cJ3_checkIndex_8e157 15 = .ok (.athrow, 1) := by decide +kernel
theorem dJ3_checkIndex_8e157_16 : decode cJ3_checkIndex_8e157 16 = .ok (.iload_n 0, 1) := by decide +kernel
theorem dJ3_checkIndex_8e157_17 : decode cJ3_checkIndex_8e157 17 = .ok (.ireturn, 1) := by decide +kernel
