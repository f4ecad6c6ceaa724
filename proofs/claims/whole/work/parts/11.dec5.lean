theorem dX5_init_0 : decode cX5_init 0 = .ok (.aload_n 0, 1) := by decide +kernel
theorem dX5_init_1 : decode cX5_init 1 = .ok (.invokespecial 1, 3) := by decide +kernel
theorem dX5_init_4 : decode cX5_init 4 = .ok (.aload_n 0, 1) := by decide +kernel
theorem dX5_init_5 : decode cX5_init 5 = .ok (.sipush 598, 3) := by decide +kernel
theorem dX5_init_8 : decode cX5_init 8 = .ok (.newarray .int, 2) := by decide +kernel
theorem dX5_init_10 : decode cX5_init 10 = .ok (.putfield 7, 3) := by decide +kernel
theorem dX5_init_13 : decode cX5_init 13 = .ok (.aload_n 0, 1) := by decide +kernel
theorem dX5_init_14 : decode cX5_init 14 = .ok (.sipush 3588, 3) := by decide +kernel
theorem dX5_init_17 : decode cX5_init 17 = .ok (.newarray .int, 2) := by decide +kernel
theorem dX5_init_19 : decode cX5_init 19 = .ok (.putfield 13, 3) := by decide +kernel
theorem dX5_init_22 : decode cX5_init 22 = .ok (.aload_n 0, 1) := by decide +kernel
theorem dX5_init_23 : decode cX5_init 23 = .ok (.bipush 12, 2) := by decide +kernel
theorem dX5_init_25 : decode cX5_init 25 = .ok (.newarray .int, 2) := by decide +kernel
theorem dX5_init_27 : decode cX5_init 27 = .ok (.putfield 16, 3) := by decide +kernel
theorem dX5_init_30 : decode cX5_init 30 = .ok (.aload_n 0, 1) := by decide +kernel
theorem dX5_init_31 : decode cX5_init 31 = .ok (.bipush 24, 2) := by decide +kernel
theorem dX5_init_33 : decode cX5_init 33 = .ok (.newarray .int, 2) := by decide +kernel
theorem dX5_init_35 : decode cX5_init 35 = .ok (.putfield 19, 3) := by decide +kernel
theorem dX5_init_38 : decode cX5_init 38 = .ok (.aload_n 0, 1) := by decide +kernel
theorem dX5_init_39 : decode cX5_init 39 = .ok (.bipush 24, 2) := by decide +kernel
theorem dX5_init_41 : decode cX5_init 41 = .ok (.newarray .int, 2) := by decide +kernel
theorem dX5_init_43 : decode cX5_init 43 = .ok (.putfield 22, 3) := by decide +kernel
theorem dX5_init_46 : decode cX5_init 46 = .ok (.aload_n 0, 1) := by decide +kernel
theorem dX5_init_47 : decode cX5_init 47 = .ok (.bipush 12, 2) := by decide +kernel
theorem dX5_init_49 : decode cX5_init 49 = .ok (.newarray .int, 2) := by decide +kernel
theorem dX5_init_51 : decode cX5_init 51 = .ok (.putfield 25, 3) := by decide +kernel
theorem dX5_init_54 : decode cX5_init 54 = .ok (.aload_n 0, 1) := by decide +kernel
theorem dX5_init_55 : decode cX5_init 55 = .ok (.bipush 80, 2) := by decide +kernel
theorem dX5_init_57 : decode cX5_init 57 = .ok (.newarray .int, 2) := by decide +kernel
theorem dX5_init_59 : decode cX5_init 59 = .ok (.putfield 28, 3) := by decide +kernel
theorem dX5_init_62 : decode cX5_init 62 = .ok (.aload_n 0, 1) := by decide +kernel
theorem dX5_init_63 : decode cX5_init 63 = .ok (.bipush 80, 2) := by decide +kernel
theorem dX5_init_65 : decode cX5_init 65 = .ok (.newarray .int, 2) := by decide +kernel
theorem dX5_init_67 : decode cX5_init 67 = .ok (.putfield 31, 3) := by decide +kernel
theorem dX5_init_70 : decode cX5_init 70 = .ok (.aload_n 0, 1) := by decide +kernel
theorem dX5_init_71 : decode cX5_init 71 = .ok (.bipush 20, 2) := by decide +kernel
theorem dX5_init_73 : decode cX5_init 73 = .ok (.newarray .boolean, 2) := by decide +kernel
theorem dX5_init_75 : decode cX5_init 75 = .ok (.putfield 34, 3) := by decide +kernel
theorem dX5_init_78 : decode cX5_init 78 = .ok (.aload_n 0, 1) := by decide +kernel
theorem dX5_init_79 : decode cX5_init 79 = .ok (.getfield 7, 3) := by decide +kernel
theorem dX5_init_82 : decode cX5_init 82 = .ok (.sipush 582, 3) := by decide +kernel
theorem dX5_init_85 : decode cX5_init 85 = .ok (.iconst 1, 1) := by decide +kernel
theorem dX5_init_86 : decode cX5_init 86 = .ok (.iastore, 1) := by decide +kernel
theorem dX5_init_87 : decode cX5_init 87 = .ok (.aload_n 0, 1) := by decide +kernel
theorem dX5_init_88 : decode cX5_init 88 = .ok (.getfield 7, 3) := by decide +kernel
theorem dX5_init_91 : decode cX5_init 91 = .ok (.sipush 595, 3) := by decide +kernel
theorem dX5_init_94 : decode cX5_init 94 = .ok (.iconst (-1), 1) := by decide +kernel
theorem dX5_init_95 : decode cX5_init 95 = .ok (.iastore, 1) := by decide +kernel
theorem dX5_init_96 : decode cX5_init 96 = .ok (.aload_n 0, 1) := by decide +kernel
theorem dX5_init_97 : decode cX5_init 97 = .ok (.getfield 7, 3) := by decide +kernel
theorem dX5_init_100 : decode cX5_init 100 = .ok (.sipush 596, 3) := by decide +kernel
theorem dX5_init_103 : decode cX5_init 103 = .ok (.iconst 4, 1) := by decide +kernel
theorem dX5_init_104 : decode cX5_init 104 = .ok (.iastore, 1) := by decide +kernel
theorem dX5_init_105 : decode cX5_init 105 = .ok (.aload_n 0, 1) := by decide +kernel
theorem dX5_init_106 : decode cX5_init 106 = .ok (.getfield 7, 3) := by decide +kernel
theorem dX5_init_109 : decode cX5_init 109 = .ok (.sipush 597, 3) := by decide +kernel
theorem dX5_init_112 : decode cX5_init 112 = .ok (.iconst 1, 1) := by decide +kernel
theorem dX5_init_113 : decode cX5_init 113 = .ok (.iastore, 1) := by decide +kernel
theorem dX5_init_114 : decode cX5_init 114 = .ok (.return_, 1) := by decide +kernel
theorem dX5_in_0 : decode cX5_in 0 = .ok (.iload_n 0, 1) := by decide +kernel
theorem dX5_in_1 : decode cX5_in 1 = .ok (.iload_n 1, 1) := by decide +kernel
theorem dX5_in_2 : decode cX5_in 2 = .ok (.if_icmp .lt 12, 3) := by decide +kernel
theorem dX5_in_5 : decode cX5_in 5 = .ok (.iload_n 0, 1) := by decide +kernel
theorem dX5_in_6 : decode cX5_in 6 = .ok (.iload_n 2, 1) := by decide +kernel
theorem dX5_in_7 : decode cX5_in 7 = .ok (.if_icmp .gt 7, 3) := by decide +kernel
theorem dX5_in_10 : decode cX5_in 10 = .ok (.iconst 1, 1) := by decide +kernel
theorem dX5_in_11 : decode cX5_in 11 = .ok (.goto 4, 3) := by decide +kernel
theorem dX5_in_14 : decode cX5_in 14 = .ok (.iconst 0, 1) := by decide +kernel
theorem dX5_in_15 : decode cX5_in 15 = .ok (.ireturn, 1) := by decide +kernel
theorem dX5_valuesOf_0 : decode cX5_valuesOf 0 = .ok (.bipush 6, 2) := by decide +kernel
theorem dX5_valuesOf_2 : decode cX5_valuesOf 2 = .ok (.iconst 2, 1) := by decide +kernel
theorem dX5_valuesOf_3 : decode cX5_valuesOf 3 = .ok (.iload_n 0, 1) := by decide +kernel
theorem dX5_valuesOf_4 : decode cX5_valuesOf 4 = .ok (.imul, 1) := by decide +kernel
theorem dX5_valuesOf_5 : decode cX5_valuesOf 5 = .ok (.iadd, 1) := by decide +kernel
theorem dX5_valuesOf_6 : decode cX5_valuesOf 6 = .ok (.ireturn, 1) := by decide +kernel
theorem dX5_of_0 : decode cX5_of 0 = .ok (.aload_n 0, 1) := by decide +kernel
theorem dX5_of_1 : decode cX5_of 1 = .ok (.getfield 7, 3) := by decide +kernel
theorem dX5_of_4 : decode cX5_of 4 = .ok (.bipush 29, 2) := by decide +kernel
theorem dX5_of_6 : decode cX5_of 6 = .ok (.iload_n 1, 1) := by decide +kernel
theorem dX5_of_7 : decode cX5_of 7 = .ok (.imul, 1) := by decide +kernel
theorem dX5_of_8 : decode cX5_of 8 = .ok (.iload_n 2, 1) := by decide +kernel
theorem dX5_of_9 : decode cX5_of 9 = .ok (.iadd, 1) := by decide +kernel
theorem dX5_of_10 : decode cX5_of 10 = .ok (.iaload, 1) := by decide +kernel
theorem dX5_of_11 : decode cX5_of 11 = .ok (.ireturn, 1) := by decide +kernel
theorem dX5_put_0 : decode cX5_put 0 = .ok (.aload_n 0, 1) := by decide +kernel
theorem dX5_put_1 : decode cX5_put 1 = .ok (.getfield 7, 3) := by decide +kernel
theorem dX5_put_4 : decode cX5_put 4 = .ok (.bipush 29, 2) := by decide +kernel
theorem dX5_put_6 : decode cX5_put 6 = .ok (.iload_n 1, 1) := by decide +kernel
theorem dX5_put_7 : decode cX5_put 7 = .ok (.imul, 1) := by decide +kernel
theorem dX5_put_8 : decode cX5_put 8 = .ok (.iload_n 2, 1) := by decide +kernel
theorem dX5_put_9 : decode cX5_put 9 = .ok (.iadd, 1) := by decide +kernel
theorem dX5_put_10 : decode cX5_put 10 = .ok (.iload_n 3, 1) := by decide +kernel
theorem dX5_put_11 : decode cX5_put 11 = .ok (.iastore, 1) := by decide +kernel
theorem dX5_put_12 : decode cX5_put 12 = .ok (.return_, 1) := by decide +kernel
theorem dX5_isWhole_0 : decode cX5_isWhole 0 = .ok (.aload_n 0, 1) := by decide +kernel
theorem dX5_isWhole_1 : decode cX5_isWhole 1 = .ok (.iload_n 1, 1) := by decide +kernel
theorem dX5_isWhole_2 : decode cX5_isWhole 2 = .ok (.iconst 3, 1) := by decide +kernel
theorem dX5_isWhole_3 : decode cX5_isWhole 3 = .ok (.invokevirtual 38, 3) := by decide +kernel
theorem dX5_isWhole_6 : decode cX5_isWhole 6 = .ok (.iconst (-1), 1) := by decide +kernel
theorem dX5_isWhole_7 : decode cX5_isWhole 7 = .ok (.if_icmp .ne 7, 3) := by decide +kernel
theorem dX5_isWhole_10 : decode cX5_isWhole 10 = .ok (.iconst 1, 1) := by decide +kernel
theorem dX5_isWhole_11 : decode cX5_isWhole 11 = .ok (.goto 4, 3) := by decide +kernel
theorem dX5_isWhole_14 : decode cX5_isWhole 14 = .ok (.iconst 0, 1) := by decide +kernel
theorem dX5_isWhole_15 : decode cX5_isWhole 15 = .ok (.ireturn, 1) := by decide +kernel
theorem dX5_keeps_0 : decode cX5_keeps 0 = .ok (.aload_n 0, 1) := by decide +kernel
theorem dX5_keeps_1 : decode cX5_keeps 1 = .ok (.getfield 42, 3) := by decide +kernel
theorem dX5_keeps_4 : decode cX5_keeps 4 = .ok (.bipush 6, 2) := by decide +kernel
theorem dX5_keeps_6 : decode cX5_keeps 6 = .ok (.if_icmp .ne 44, 3) := by decide +kernel
theorem dX5_keeps_9 : decode cX5_keeps 9 = .ok (.iconst 0, 1) := by decide +kernel
theorem dX5_keeps_10 : decode cX5_keeps 10 = .ok (.istore_n 1, 1) := by decide +kernel
theorem dX5_keeps_11 : decode cX5_keeps 11 = .ok (.iload_n 1, 1) := by decide +kernel
theorem dX5_keeps_12 : decode cX5_keeps 12 = .ok (.sipush 2990, 3) := by decide +kernel
theorem dX5_keeps_15 : decode cX5_keeps 15 = .ok (.if_icmp .ge 25, 3) := by decide +kernel
theorem dX5_keeps_18 : decode cX5_keeps 18 = .ok (.aload_n 0, 1) := by decide +kernel
theorem dX5_keeps_19 : decode cX5_keeps 19 = .ok (.getfield 13, 3) := by decide +kernel
theorem dX5_keeps_22 : decode cX5_keeps 22 = .ok (.iload_n 1, 1) := by decide +kernel
theorem dX5_keeps_23 : decode cX5_keeps 23 = .ok (.aload_n 0, 1) := by decide +kernel
theorem dX5_keeps_24 : decode cX5_keeps 24 = .ok (.getfield 13, 3) := by decide +kernel
theorem dX5_keeps_27 : decode cX5_keeps 27 = .ok (.iload_n 1, 1) := by decide +kernel
theorem dX5_keeps_28 : decode cX5_keeps 28 = .ok (.sipush 598, 3) := by decide +kernel
theorem dX5_keeps_31 : decode cX5_keeps 31 = .ok (.iadd, 1) := by decide +kernel
theorem dX5_keeps_32 : decode cX5_keeps 32 = .ok (.iaload, 1) := by decide +kernel
theorem dX5_keeps_33 : decode cX5_keeps 33 = .ok (.iastore, 1) := by decide +kernel
theorem dX5_keeps_34 : decode cX5_keeps 34 = .ok (.iinc 1 1, 3) := by decide +kernel
theorem dX5_keeps_37 : decode cX5_keeps 37 = .ok (.goto (-26), 3) := by decide +kernel
theorem dX5_keeps_40 : decode cX5_keeps 40 = .ok (.aload_n 0, 1) := by decide +kernel
theorem dX5_keeps_41 : decode cX5_keeps 41 = .ok (.dup, 1) := by decide +kernel
theorem dX5_keeps_42 : decode cX5_keeps 42 = .ok (.getfield 42, 3) := by decide +kernel
theorem dX5_keeps_45 : decode cX5_keeps 45 = .ok (.iconst 1, 1) := by decide +kernel
theorem dX5_keeps_46 : decode cX5_keeps 46 = .ok (.isub, 1) := by decide +kernel
theorem dX5_keeps_47 : decode cX5_keeps 47 = .ok (.putfield 42, 3) := by decide +kernel
theorem dX5_keeps_50 : decode cX5_keeps 50 = .ok (.iconst 0, 1) := by decide +kernel
theorem dX5_keeps_51 : decode cX5_keeps 51 = .ok (.istore_n 1, 1) := by decide +kernel
theorem dX5_keeps_52 : decode cX5_keeps 52 = .ok (.iload_n 1, 1) := by decide +kernel
theorem dX5_keeps_53 : decode cX5_keeps 53 = .ok (.sipush 598, 3) := by decide +kernel
theorem dX5_keeps_56 : decode cX5_keeps 56 = .ok (.if_icmp .ge 30, 3) := by decide +kernel
theorem dX5_keeps_59 : decode cX5_keeps 59 = .ok (.aload_n 0, 1) := by decide +kernel
theorem dX5_keeps_60 : decode cX5_keeps 60 = .ok (.getfield 13, 3) := by decide +kernel
theorem dX5_keeps_63 : decode cX5_keeps 63 = .ok (.sipush 598, 3) := by decide +kernel
theorem dX5_keeps_66 : decode cX5_keeps 66 = .ok (.aload_n 0, 1) := by decide +kernel
theorem dX5_keeps_67 : decode cX5_keeps 67 = .ok (.getfield 42, 3) := by decide +kernel
theorem dX5_keeps_70 : decode cX5_keeps 70 = .ok (.imul, 1) := by decide +kernel
theorem dX5_keeps_71 : decode cX5_keeps 71 = .ok (.iload_n 1, 1) := by decide +kernel
theorem dX5_keeps_72 : decode cX5_keeps 72 = .ok (.iadd, 1) := by decide +kernel
theorem dX5_keeps_73 : decode cX5_keeps 73 = .ok (.aload_n 0, 1) := by decide +kernel
theorem dX5_keeps_74 : decode cX5_keeps 74 = .ok (.getfield 7, 3) := by decide +kernel
theorem dX5_keeps_77 : decode cX5_keeps 77 = .ok (.iload_n 1, 1) := by decide +kernel
theorem dX5_keeps_78 : decode cX5_keeps 78 = .ok (.iaload, 1) := by decide +kernel
theorem dX5_keeps_79 : decode cX5_keeps 79 = .ok (.iastore, 1) := by decide +kernel
theorem dX5_keeps_80 : decode cX5_keeps 80 = .ok (.iinc 1 1, 3) := by decide +kernel
theorem dX5_keeps_83 : decode cX5_keeps 83 = .ok (.goto (-31), 3) := by decide +kernel
theorem dX5_keeps_86 : decode cX5_keeps 86 = .ok (.aload_n 0, 1) := by decide +kernel
theorem dX5_keeps_87 : decode cX5_keeps 87 = .ok (.dup, 1) := by decide +kernel
theorem dX5_keeps_88 : decode cX5_keeps 88 = .ok (.getfield 42, 3) := by decide +kernel
theorem dX5_keeps_91 : decode cX5_keeps 91 = .ok (.iconst 1, 1) := by decide +kernel
theorem dX5_keeps_92 : decode cX5_keeps 92 = .ok (.iadd, 1) := by decide +kernel
theorem dX5_keeps_93 : decode cX5_keeps 93 = .ok (.putfield 42, 3) := by decide +kernel
theorem dX5_keeps_96 : decode cX5_keeps 96 = .ok (.return_, 1) := by decide +kernel
theorem dX5_undo_0 : decode cX5_undo 0 = .ok (.aload_n 0, 1) := by decide +kernel
theorem dX5_undo_1 : decode cX5_undo 1 = .ok (.getfield 42, 3) := by decide +kernel
theorem dX5_undo_4 : decode cX5_undo 4 = .ok (.ifCond .ne 6, 3) := by decide +kernel
theorem dX5_undo_7 : decode cX5_undo 7 = .ok (.bipush (-3), 2) := by decide +kernel
theorem dX5_undo_9 : decode cX5_undo 9 = .ok (.ireturn, 1) := by decide +kernel
theorem dX5_undo_10 : decode cX5_undo 10 = .ok (.aload_n 0, 1) := by decide +kernel
theorem dX5_undo_11 : decode cX5_undo 11 = .ok (.dup, 1) := by decide +kernel
theorem dX5_undo_12 : decode cX5_undo 12 = .ok (.getfield 42, 3) := by decide +kernel
theorem dX5_undo_15 : decode cX5_undo 15 = .ok (.iconst 1, 1) := by decide +kernel
theorem dX5_undo_16 : decode cX5_undo 16 = .ok (.isub, 1) := by decide +kernel
theorem dX5_undo_17 : decode cX5_undo 17 = .ok (.putfield 42, 3) := by decide +kernel
theorem dX5_undo_20 : decode cX5_undo 20 = .ok (.iconst 0, 1) := by decide +kernel
theorem dX5_undo_21 : decode cX5_undo 21 = .ok (.istore_n 1, 1) := by decide +kernel
theorem dX5_undo_22 : decode cX5_undo 22 = .ok (.iload_n 1, 1) := by decide +kernel
theorem dX5_undo_23 : decode cX5_undo 23 = .ok (.sipush 598, 3) := by decide +kernel
theorem dX5_undo_26 : decode cX5_undo 26 = .ok (.if_icmp .ge 30, 3) := by decide +kernel
theorem dX5_undo_29 : decode cX5_undo 29 = .ok (.aload_n 0, 1) := by decide +kernel
theorem dX5_undo_30 : decode cX5_undo 30 = .ok (.getfield 7, 3) := by decide +kernel
theorem dX5_undo_33 : decode cX5_undo 33 = .ok (.iload_n 1, 1) := by decide +kernel
theorem dX5_undo_34 : decode cX5_undo 34 = .ok (.aload_n 0, 1) := by decide +kernel
theorem dX5_undo_35 : decode cX5_undo 35 = .ok (.getfield 13, 3) := by decide +kernel
theorem dX5_undo_38 : decode cX5_undo 38 = .ok (.sipush 598, 3) := by decide +kernel
theorem dX5_undo_41 : decode cX5_undo 41 = .ok (.aload_n 0, 1) := by decide +kernel
theorem dX5_undo_42 : decode cX5_undo 42 = .ok (.getfield 42, 3) := by decide +kernel
theorem dX5_undo_45 : decode cX5_undo 45 = .ok (.imul, 1) := by decide +kernel
theorem dX5_undo_46 : decode cX5_undo 46 = .ok (.iload_n 1, 1) := by decide +kernel
theorem dX5_undo_47 : decode cX5_undo 47 = .ok (.iadd, 1) := by decide +kernel
theorem dX5_undo_48 : decode cX5_undo 48 = .ok (.iaload, 1) := by decide +kernel
theorem dX5_undo_49 : decode cX5_undo 49 = .ok (.iastore, 1) := by decide +kernel
theorem dX5_undo_50 : decode cX5_undo 50 = .ok (.iinc 1 1, 3) := by decide +kernel
theorem dX5_undo_53 : decode cX5_undo 53 = .ok (.goto (-31), 3) := by decide +kernel
theorem dX5_undo_56 : decode cX5_undo 56 = .ok (.aload_n 0, 1) := by decide +kernel
theorem dX5_undo_57 : decode cX5_undo 57 = .ok (.getfield 42, 3) := by decide +kernel
theorem dX5_undo_60 : decode cX5_undo 60 = .ok (.ireturn, 1) := by decide +kernel
theorem dX5_slotOf_0 : decode cX5_slotOf 0 = .ok (.iconst 0, 1) := by decide +kernel
theorem dX5_slotOf_1 : decode cX5_slotOf 1 = .ok (.istore_n 2, 1) := by decide +kernel
theorem dX5_slotOf_2 : decode cX5_slotOf 2 = .ok (.iload_n 2, 1) := by decide +kernel
theorem dX5_slotOf_3 : decode cX5_slotOf 3 = .ok (.aload_n 0, 1) := by decide +kernel
theorem dX5_slotOf_4 : decode cX5_slotOf 4 = .ok (.getfield 7, 3) := by decide +kernel
theorem dX5_slotOf_7 : decode cX5_slotOf 7 = .ok (.sipush 580, 3) := by decide +kernel
theorem dX5_slotOf_10 : decode cX5_slotOf 10 = .ok (.iaload, 1) := by decide +kernel
theorem dX5_slotOf_11 : decode cX5_slotOf 11 = .ok (.if_icmp .ge 21, 3) := by decide +kernel
theorem dX5_slotOf_14 : decode cX5_slotOf 14 = .ok (.aload_n 0, 1) := by decide +kernel
theorem dX5_slotOf_15 : decode cX5_slotOf 15 = .ok (.iload_n 2, 1) := by decide +kernel
theorem dX5_slotOf_16 : decode cX5_slotOf 16 = .ok (.iconst 0, 1) := by decide +kernel
theorem dX5_slotOf_17 : decode cX5_slotOf 17 = .ok (.invokevirtual 38, 3) := by decide +kernel
theorem dX5_slotOf_20 : decode cX5_slotOf 20 = .ok (.iload_n 1, 1) := by decide +kernel
theorem dX5_slotOf_21 : decode cX5_slotOf 21 = .ok (.if_icmp .ne 5, 3) := by decide +kernel
theorem dX5_slotOf_24 : decode cX5_slotOf 24 = .ok (.iload_n 2, 1) := by decide +kernel
theorem dX5_slotOf_25 : decode cX5_slotOf 25 = .ok (.ireturn, 1) := by decide +kernel
theorem dX5_slotOf_26 : decode cX5_slotOf 26 = .ok (.iinc 2 1, 3) := by decide +kernel
theorem dX5_slotOf_29 : decode cX5_slotOf 29 = .ok (.goto (-27), 3) := by decide +kernel
theorem dX5_slotOf_32 : decode cX5_slotOf 32 = .ok (.iconst (-1), 1) := by decide +kernel
theorem dX5_slotOf_33 : decode cX5_slotOf 33 = .ok (.ireturn, 1) := by decide +kernel
theorem dX5_raises_0 : decode cX5_raises 0 = .ok (.aload_n 0, 1) := by decide +kernel
theorem dX5_raises_1 : decode cX5_raises 1 = .ok (.getfield 46, 3) := by decide +kernel
theorem dX5_raises_4 : decode cX5_raises 4 = .ok (.iconst 1, 1) := by decide +kernel
theorem dX5_raises_5 : decode cX5_raises 5 = .ok (.if_icmp .ne 49, 3) := by decide +kernel
theorem dX5_raises_8 : decode cX5_raises 8 = .ok (.aload_n 0, 1) := by decide +kernel
theorem dX5_raises_9 : decode cX5_raises 9 = .ok (.getfield 16, 3) := by decide +kernel
theorem dX5_raises_12 : decode cX5_raises 12 = .ok (.bipush 8, 2) := by decide +kernel
theorem dX5_raises_14 : decode cX5_raises 14 = .ok (.aload_n 0, 1) := by decide +kernel
theorem dX5_raises_15 : decode cX5_raises 15 = .ok (.getfield 16, 3) := by decide +kernel
theorem dX5_raises_18 : decode cX5_raises 18 = .ok (.iconst 0, 1) := by decide +kernel
theorem dX5_raises_19 : decode cX5_raises 19 = .ok (.iaload, 1) := by decide +kernel
theorem dX5_raises_20 : decode cX5_raises 20 = .ok (.aload_n 0, 1) := by decide +kernel
theorem dX5_raises_21 : decode cX5_raises 21 = .ok (.getfield 16, 3) := by decide +kernel
theorem dX5_raises_24 : decode cX5_raises 24 = .ok (.iconst 1, 1) := by decide +kernel
theorem dX5_raises_25 : decode cX5_raises 25 = .ok (.iaload, 1) := by decide +kernel
theorem dX5_raises_26 : decode cX5_raises 26 = .ok (.iadd, 1) := by decide +kernel
theorem dX5_raises_27 : decode cX5_raises 27 = .ok (.aload_n 0, 1) := by decide +kernel
theorem dX5_raises_28 : decode cX5_raises 28 = .ok (.getfield 16, 3) := by decide +kernel
theorem dX5_raises_31 : decode cX5_raises 31 = .ok (.iconst 2, 1) := by decide +kernel
theorem dX5_raises_32 : decode cX5_raises 32 = .ok (.iaload, 1) := by decide +kernel
theorem dX5_raises_33 : decode cX5_raises 33 = .ok (.iadd, 1) := by decide +kernel
theorem dX5_raises_34 : decode cX5_raises 34 = .ok (.iconst 3, 1) := by decide +kernel
theorem dX5_raises_35 : decode cX5_raises 35 = .ok (.idiv, 1) := by decide +kernel
theorem dX5_raises_36 : decode cX5_raises 36 = .ok (.iastore, 1) := by decide +kernel
theorem dX5_raises_37 : decode cX5_raises 37 = .ok (.aload_n 0, 1) := by decide +kernel
theorem dX5_raises_38 : decode cX5_raises 38 = .ok (.getfield 16, 3) := by decide +kernel
theorem dX5_raises_41 : decode cX5_raises 41 = .ok (.bipush 9, 2) := by decide +kernel
theorem dX5_raises_43 : decode cX5_raises 43 = .ok (.aload_n 0, 1) := by decide +kernel
theorem dX5_raises_44 : decode cX5_raises 44 = .ok (.getfield 16, 3) := by decide +kernel
theorem dX5_raises_47 : decode cX5_raises 47 = .ok (.bipush 7, 2) := by decide +kernel
theorem dX5_raises_49 : decode cX5_raises 49 = .ok (.iaload, 1) := by decide +kernel
theorem dX5_raises_50 : decode cX5_raises 50 = .ok (.iastore, 1) := by decide +kernel
theorem dX5_raises_51 : decode cX5_raises 51 = .ok (.goto 73, 3) := by decide +kernel
theorem dX5_raises_54 : decode cX5_raises 54 = .ok (.aload_n 0, 1) := by decide +kernel
theorem dX5_raises_55 : decode cX5_raises 55 = .ok (.getfield 16, 3) := by decide +kernel
theorem dX5_raises_58 : decode cX5_raises 58 = .ok (.iconst 1, 1) := by decide +kernel
theorem dX5_raises_59 : decode cX5_raises 59 = .ok (.iaload, 1) := by decide +kernel
theorem dX5_raises_60 : decode cX5_raises 60 = .ok (.istore_n 1, 1) := by decide +kernel
theorem dX5_raises_61 : decode cX5_raises 61 = .ok (.aload_n 0, 1) := by decide +kernel
theorem dX5_raises_62 : decode cX5_raises 62 = .ok (.getfield 16, 3) := by decide +kernel
theorem dX5_raises_65 : decode cX5_raises 65 = .ok (.iconst 1, 1) := by decide +kernel
theorem dX5_raises_66 : decode cX5_raises 66 = .ok (.aload_n 0, 1) := by decide +kernel
theorem dX5_raises_67 : decode cX5_raises 67 = .ok (.getfield 16, 3) := by decide +kernel
theorem dX5_raises_70 : decode cX5_raises 70 = .ok (.iconst 4, 1) := by decide +kernel
theorem dX5_raises_71 : decode cX5_raises 71 = .ok (.iaload, 1) := by decide +kernel
theorem dX5_raises_72 : decode cX5_raises 72 = .ok (.iastore, 1) := by decide +kernel
theorem dX5_raises_73 : decode cX5_raises 73 = .ok (.aload_n 0, 1) := by decide +kernel
theorem dX5_raises_74 : decode cX5_raises 74 = .ok (.getfield 16, 3) := by decide +kernel
theorem dX5_raises_77 : decode cX5_raises 77 = .ok (.iconst 4, 1) := by decide +kernel
theorem dX5_raises_78 : decode cX5_raises 78 = .ok (.iload_n 1, 1) := by decide +kernel
theorem dX5_raises_79 : decode cX5_raises 79 = .ok (.iastore, 1) := by decide +kernel
theorem dX5_raises_80 : decode cX5_raises 80 = .ok (.aload_n 0, 1) := by decide +kernel
theorem dX5_raises_81 : decode cX5_raises 81 = .ok (.getfield 16, 3) := by decide +kernel
theorem dX5_raises_84 : decode cX5_raises 84 = .ok (.bipush 10, 2) := by decide +kernel
theorem dX5_raises_86 : decode cX5_raises 86 = .ok (.iconst 2, 1) := by decide +kernel
theorem dX5_raises_87 : decode cX5_raises 87 = .ok (.aload_n 0, 1) := by decide +kernel
theorem dX5_raises_88 : decode cX5_raises 88 = .ok (.getfield 16, 3) := by decide +kernel
theorem dX5_raises_91 : decode cX5_raises 91 = .ok (.bipush 9, 2) := by decide +kernel
theorem dX5_raises_93 : decode cX5_raises 93 = .ok (.iaload, 1) := by decide +kernel
theorem dX5_raises_94 : decode cX5_raises 94 = .ok (.imul, 1) := by decide +kernel
theorem dX5_raises_95 : decode cX5_raises 95 = .ok (.bipush 99, 2) := by decide +kernel
theorem dX5_raises_97 : decode cX5_raises 97 = .ok (.if_icmp .le 8, 3) := by decide +kernel
theorem dX5_raises_100 : decode cX5_raises 100 = .ok (.bipush 99, 2) := by decide +kernel
theorem dX5_raises_102 : decode cX5_raises 102 = .ok (.goto 12, 3) := by decide +kernel
theorem dX5_raises_105 : decode cX5_raises 105 = .ok (.iconst 2, 1) := by decide +kernel
theorem dX5_raises_106 : decode cX5_raises 106 = .ok (.aload_n 0, 1) := by decide +kernel
theorem dX5_raises_107 : decode cX5_raises 107 = .ok (.getfield 16, 3) := by decide +kernel
theorem dX5_raises_110 : decode cX5_raises 110 = .ok (.bipush 9, 2) := by decide +kernel
theorem dX5_raises_112 : decode cX5_raises 112 = .ok (.iaload, 1) := by decide +kernel
theorem dX5_raises_113 : decode cX5_raises 113 = .ok (.imul, 1) := by decide +kernel
theorem dX5_raises_114 : decode cX5_raises 114 = .ok (.iastore, 1) := by decide +kernel
theorem dX5_raises_115 : decode cX5_raises 115 = .ok (.aload_n 0, 1) := by decide +kernel
theorem dX5_raises_116 : decode cX5_raises 116 = .ok (.getfield 16, 3) := by decide +kernel
theorem dX5_raises_119 : decode cX5_raises 119 = .ok (.bipush 11, 2) := by decide +kernel
theorem dX5_raises_121 : decode cX5_raises 121 = .ok (.bipush 50, 2) := by decide +kernel
theorem dX5_raises_123 : decode cX5_raises 123 = .ok (.iastore, 1) := by decide +kernel
theorem dX5_raises_124 : decode cX5_raises 124 = .ok (.aload_n 0, 1) := by decide +kernel
theorem dX5_raises_125 : decode cX5_raises 125 = .ok (.dup, 1) := by decide +kernel
theorem dX5_raises_126 : decode cX5_raises 126 = .ok (.getfield 46, 3) := by decide +kernel
theorem dX5_raises_129 : decode cX5_raises 129 = .ok (.iconst 1, 1) := by decide +kernel
theorem dX5_raises_130 : decode cX5_raises 130 = .ok (.iadd, 1) := by decide +kernel
theorem dX5_raises_131 : decode cX5_raises 131 = .ok (.putfield 46, 3) := by decide +kernel
theorem dX5_raises_134 : decode cX5_raises 134 = .ok (.return_, 1) := by decide +kernel
theorem dX5_raisesTo_0 : decode cX5_raisesTo 0 = .ok (.aload_n 0, 1) := by decide +kernel
theorem dX5_raisesTo_1 : decode cX5_raisesTo 1 = .ok (.getfield 46, 3) := by decide +kernel
theorem dX5_raisesTo_4 : decode cX5_raisesTo 4 = .ok (.iload_n 1, 1) := by decide +kernel
theorem dX5_raisesTo_5 : decode cX5_raisesTo 5 = .ok (.if_icmp .ge 10, 3) := by decide +kernel
theorem dX5_raisesTo_8 : decode cX5_raisesTo 8 = .ok (.aload_n 0, 1) := by decide +kernel
theorem dX5_raisesTo_9 : decode cX5_raisesTo 9 = .ok (.invokevirtual 49, 3) := by decide +kernel
theorem dX5_raisesTo_12 : decode cX5_raisesTo 12 = .ok (.goto (-12), 3) := by decide +kernel
theorem dX5_raisesTo_15 : decode cX5_raisesTo 15 = .ok (.return_, 1) := by decide +kernel
theorem dX5_sumNow_0 : decode cX5_sumNow 0 = .ok (.bipush 7, 2) := by decide +kernel
theorem dX5_sumNow_2 : decode cX5_sumNow 2 = .ok (.istore_n 1, 1) := by decide +kernel
theorem dX5_sumNow_3 : decode cX5_sumNow 3 = .ok (.iconst 0, 1) := by decide +kernel
theorem dX5_sumNow_4 : decode cX5_sumNow 4 = .ok (.istore_n 2, 1) := by decide +kernel
theorem dX5_sumNow_5 : decode cX5_sumNow 5 = .ok (.iload_n 2, 1) := by decide +kernel
theorem dX5_sumNow_6 : decode cX5_sumNow 6 = .ok (.aload_n 0, 1) := by decide +kernel
theorem dX5_sumNow_7 : decode cX5_sumNow 7 = .ok (.getfield 46, 3) := by decide +kernel
theorem dX5_sumNow_10 : decode cX5_sumNow 10 = .ok (.invokestatic 52, 3) := by decide +kernel
theorem dX5_sumNow_13 : decode cX5_sumNow 13 = .ok (.if_icmp .ge 25, 3) := by decide +kernel
theorem dX5_sumNow_16 : decode cX5_sumNow 16 = .ok (.bipush 31, 2) := by decide +kernel
theorem dX5_sumNow_18 : decode cX5_sumNow 18 = .ok (.iload_n 1, 1) := by decide +kernel
theorem dX5_sumNow_19 : decode cX5_sumNow 19 = .ok (.imul, 1) := by decide +kernel
theorem dX5_sumNow_20 : decode cX5_sumNow 20 = .ok (.aload_n 0, 1) := by decide +kernel
theorem dX5_sumNow_21 : decode cX5_sumNow 21 = .ok (.getfield 16, 3) := by decide +kernel
theorem dX5_sumNow_24 : decode cX5_sumNow 24 = .ok (.iload_n 2, 1) := by decide +kernel
theorem dX5_sumNow_25 : decode cX5_sumNow 25 = .ok (.iaload, 1) := by decide +kernel
theorem dX5_sumNow_26 : decode cX5_sumNow 26 = .ok (.iadd, 1) := by decide +kernel
theorem dX5_sumNow_27 : decode cX5_sumNow 27 = .ok (.sipush 9973, 3) := by decide +kernel
theorem dX5_sumNow_30 : decode cX5_sumNow 30 = .ok (.irem, 1) := by decide +kernel
theorem dX5_sumNow_31 : decode cX5_sumNow 31 = .ok (.istore_n 1, 1) := by decide +kernel
theorem dX5_sumNow_32 : decode cX5_sumNow 32 = .ok (.iinc 2 1, 3) := by decide +kernel
theorem dX5_sumNow_35 : decode cX5_sumNow 35 = .ok (.goto (-30), 3) := by decide +kernel
theorem dX5_sumNow_38 : decode cX5_sumNow 38 = .ok (.iload_n 1, 1) := by decide +kernel
theorem dX5_sumNow_39 : decode cX5_sumNow 39 = .ok (.ireturn, 1) := by decide +kernel
theorem dX5_takesGame_0 : decode cX5_takesGame 0 = .ok (.aload_n 0, 1) := by decide +kernel
theorem dX5_takesGame_1 : decode cX5_takesGame 1 = .ok (.aload_n 0, 1) := by decide +kernel
theorem dX5_takesGame_2 : decode cX5_takesGame 2 = .ok (.getfield 7, 3) := by decide +kernel
theorem dX5_takesGame_5 : decode cX5_takesGame 5 = .ok (.sipush 582, 3) := by decide +kernel
theorem dX5_takesGame_8 : decode cX5_takesGame 8 = .ok (.iaload, 1) := by decide +kernel
theorem dX5_takesGame_9 : decode cX5_takesGame 9 = .ok (.putfield 46, 3) := by decide +kernel
theorem dX5_takesGame_12 : decode cX5_takesGame 12 = .ok (.iconst 0, 1) := by decide +kernel
theorem dX5_takesGame_13 : decode cX5_takesGame 13 = .ok (.istore_n 1, 1) := by decide +kernel
theorem dX5_takesGame_14 : decode cX5_takesGame 14 = .ok (.iload_n 1, 1) := by decide +kernel
theorem dX5_takesGame_15 : decode cX5_takesGame 15 = .ok (.bipush 12, 2) := by decide +kernel
theorem dX5_takesGame_17 : decode cX5_takesGame 17 = .ok (.if_icmp .ge 25, 3) := by decide +kernel
theorem dX5_takesGame_20 : decode cX5_takesGame 20 = .ok (.aload_n 0, 1) := by decide +kernel
theorem dX5_takesGame_21 : decode cX5_takesGame 21 = .ok (.getfield 16, 3) := by decide +kernel
theorem dX5_takesGame_24 : decode cX5_takesGame 24 = .ok (.iload_n 1, 1) := by decide +kernel
theorem dX5_takesGame_25 : decode cX5_takesGame 25 = .ok (.aload_n 0, 1) := by decide +kernel
theorem dX5_takesGame_26 : decode cX5_takesGame 26 = .ok (.getfield 7, 3) := by decide +kernel
theorem dX5_takesGame_29 : decode cX5_takesGame 29 = .ok (.sipush 583, 3) := by decide +kernel
theorem dX5_takesGame_32 : decode cX5_takesGame 32 = .ok (.iload_n 1, 1) := by decide +kernel
theorem dX5_takesGame_33 : decode cX5_takesGame 33 = .ok (.iadd, 1) := by decide +kernel
theorem dX5_takesGame_34 : decode cX5_takesGame 34 = .ok (.iaload, 1) := by decide +kernel
theorem dX5_takesGame_35 : decode cX5_takesGame 35 = .ok (.iastore, 1) := by decide +kernel
theorem dX5_takesGame_36 : decode cX5_takesGame 36 = .ok (.iinc 1 1, 3) := by decide +kernel
theorem dX5_takesGame_39 : decode cX5_takesGame 39 = .ok (.goto (-25), 3) := by decide +kernel
theorem dX5_takesGame_42 : decode cX5_takesGame 42 = .ok (.return_, 1) := by decide +kernel
theorem dX5_givesGame_0 : decode cX5_givesGame 0 = .ok (.aload_n 0, 1) := by decide +kernel
theorem dX5_givesGame_1 : decode cX5_givesGame 1 = .ok (.getfield 7, 3) := by decide +kernel
theorem dX5_givesGame_4 : decode cX5_givesGame 4 = .ok (.sipush 582, 3) := by decide +kernel
theorem dX5_givesGame_7 : decode cX5_givesGame 7 = .ok (.aload_n 0, 1) := by decide +kernel
theorem dX5_givesGame_8 : decode cX5_givesGame 8 = .ok (.getfield 46, 3) := by decide +kernel
theorem dX5_givesGame_11 : decode cX5_givesGame 11 = .ok (.iastore, 1) := by decide +kernel
theorem dX5_givesGame_12 : decode cX5_givesGame 12 = .ok (.iconst 0, 1) := by decide +kernel
theorem dX5_givesGame_13 : decode cX5_givesGame 13 = .ok (.istore_n 1, 1) := by decide +kernel
theorem dX5_givesGame_14 : decode cX5_givesGame 14 = .ok (.iload_n 1, 1) := by decide +kernel
theorem dX5_givesGame_15 : decode cX5_givesGame 15 = .ok (.bipush 12, 2) := by decide +kernel
theorem dX5_givesGame_17 : decode cX5_givesGame 17 = .ok (.if_icmp .ge 40, 3) := by decide +kernel
theorem dX5_givesGame_20 : decode cX5_givesGame 20 = .ok (.aload_n 0, 1) := by decide +kernel
theorem dX5_givesGame_21 : decode cX5_givesGame 21 = .ok (.getfield 7, 3) := by decide +kernel
theorem dX5_givesGame_24 : decode cX5_givesGame 24 = .ok (.sipush 583, 3) := by decide +kernel
theorem dX5_givesGame_27 : decode cX5_givesGame 27 = .ok (.iload_n 1, 1) := by decide +kernel
theorem dX5_givesGame_28 : decode cX5_givesGame 28 = .ok (.iadd, 1) := by decide +kernel
theorem dX5_givesGame_29 : decode cX5_givesGame 29 = .ok (.iload_n 1, 1) := by decide +kernel
theorem dX5_givesGame_30 : decode cX5_givesGame 30 = .ok (.aload_n 0, 1) := by decide +kernel
theorem dX5_givesGame_31 : decode cX5_givesGame 31 = .ok (.getfield 46, 3) := by decide +kernel
theorem dX5_givesGame_34 : decode cX5_givesGame 34 = .ok (.invokestatic 52, 3) := by decide +kernel
theorem dX5_givesGame_37 : decode cX5_givesGame 37 = .ok (.if_icmp .ge 12, 3) := by decide +kernel
theorem dX5_givesGame_40 : decode cX5_givesGame 40 = .ok (.aload_n 0, 1) := by decide +kernel
theorem dX5_givesGame_41 : decode cX5_givesGame 41 = .ok (.getfield 16, 3) := by decide +kernel
theorem dX5_givesGame_44 : decode cX5_givesGame 44 = .ok (.iload_n 1, 1) := by decide +kernel
theorem dX5_givesGame_45 : decode cX5_givesGame 45 = .ok (.iaload, 1) := by decide +kernel
theorem dX5_givesGame_46 : decode cX5_givesGame 46 = .ok (.goto 4, 3) := by decide +kernel
theorem dX5_givesGame_49 : decode cX5_givesGame 49 = .ok (.iconst 0, 1) := by decide +kernel
theorem dX5_givesGame_50 : decode cX5_givesGame 50 = .ok (.iastore, 1) := by decide +kernel
theorem dX5_givesGame_51 : decode cX5_givesGame 51 = .ok (.iinc 1 1, 3) := by decide +kernel
theorem dX5_givesGame_54 : decode cX5_givesGame 54 = .ok (.goto (-40), 3) := by decide +kernel
theorem dX5_givesGame_57 : decode cX5_givesGame 57 = .ok (.return_, 1) := by decide +kernel
theorem dX5_climbs_0 : decode cX5_climbs 0 = .ok (.aload_n 0, 1) := by decide +kernel
theorem dX5_climbs_1 : decode cX5_climbs 1 = .ok (.iconst 0, 1) := by decide +kernel
theorem dX5_climbs_2 : decode cX5_climbs 2 = .ok (.putfield 56, 3) := by decide +kernel
theorem dX5_climbs_5 : decode cX5_climbs 5 = .ok (.iload_n 1, 1) := by decide +kernel
theorem dX5_climbs_6 : decode cX5_climbs 6 = .ok (.istore_n 2, 1) := by decide +kernel
theorem dX5_climbs_7 : decode cX5_climbs 7 = .ok (.iload_n 2, 1) := by decide +kernel
theorem dX5_climbs_8 : decode cX5_climbs 8 = .ok (.iconst (-1), 1) := by decide +kernel
theorem dX5_climbs_9 : decode cX5_climbs 9 = .ok (.if_icmp .eq 48, 3) := by decide +kernel
theorem dX5_climbs_12 : decode cX5_climbs 12 = .ok (.aload_n 0, 1) := by decide +kernel
theorem dX5_climbs_13 : decode cX5_climbs 13 = .ok (.getfield 19, 3) := by decide +kernel
theorem dX5_climbs_16 : decode cX5_climbs 16 = .ok (.aload_n 0, 1) := by decide +kernel
theorem dX5_climbs_17 : decode cX5_climbs 17 = .ok (.getfield 56, 3) := by decide +kernel
theorem dX5_climbs_20 : decode cX5_climbs 20 = .ok (.iload_n 2, 1) := by decide +kernel
theorem dX5_climbs_21 : decode cX5_climbs 21 = .ok (.iastore, 1) := by decide +kernel
theorem dX5_climbs_22 : decode cX5_climbs 22 = .ok (.aload_n 0, 1) := by decide +kernel
theorem dX5_climbs_23 : decode cX5_climbs 23 = .ok (.dup, 1) := by decide +kernel
theorem dX5_climbs_24 : decode cX5_climbs 24 = .ok (.getfield 56, 3) := by decide +kernel
theorem dX5_climbs_27 : decode cX5_climbs 27 = .ok (.iconst 1, 1) := by decide +kernel
theorem dX5_climbs_28 : decode cX5_climbs 28 = .ok (.iadd, 1) := by decide +kernel
theorem dX5_climbs_29 : decode cX5_climbs 29 = .ok (.putfield 56, 3) := by decide +kernel
theorem dX5_climbs_32 : decode cX5_climbs 32 = .ok (.aload_n 0, 1) := by decide +kernel
theorem dX5_climbs_33 : decode cX5_climbs 33 = .ok (.iload_n 2, 1) := by decide +kernel
theorem dX5_climbs_34 : decode cX5_climbs 34 = .ok (.invokevirtual 59, 3) := by decide +kernel
theorem dX5_climbs_37 : decode cX5_climbs 37 = .ok (.istore_n 3, 1) := by decide +kernel
theorem dX5_climbs_38 : decode cX5_climbs 38 = .ok (.iload_n 3, 1) := by decide +kernel
theorem dX5_climbs_39 : decode cX5_climbs 39 = .ok (.iconst (-1), 1) := by decide +kernel
theorem dX5_climbs_40 : decode cX5_climbs 40 = .ok (.if_icmp .ne 7, 3) := by decide +kernel
theorem dX5_climbs_43 : decode cX5_climbs 43 = .ok (.iconst (-1), 1) := by decide +kernel
theorem dX5_climbs_44 : decode cX5_climbs 44 = .ok (.goto 9, 3) := by decide +kernel
theorem dX5_climbs_47 : decode cX5_climbs 47 = .ok (.aload_n 0, 1) := by decide +kernel
theorem dX5_climbs_48 : decode cX5_climbs 48 = .ok (.iload_n 3, 1) := by decide +kernel
theorem dX5_climbs_49 : decode cX5_climbs 49 = .ok (.iconst 3, 1) := by decide +kernel
theorem dX5_climbs_50 : decode cX5_climbs 50 = .ok (.invokevirtual 38, 3) := by decide +kernel
theorem dX5_climbs_53 : decode cX5_climbs 53 = .ok (.istore_n 2, 1) := by decide +kernel
theorem dX5_climbs_54 : decode cX5_climbs 54 = .ok (.goto (-47), 3) := by decide +kernel
theorem dX5_climbs_57 : decode cX5_climbs 57 = .ok (.return_, 1) := by decide +kernel
theorem dX5_reads_0 : decode cX5_reads 0 = .ok (.aload_n 0, 1) := by decide +kernel
theorem dX5_reads_1 : decode cX5_reads 1 = .ok (.iload_n 1, 1) := by decide +kernel
theorem dX5_reads_2 : decode cX5_reads 2 = .ok (.invokevirtual 62, 3) := by decide +kernel
theorem dX5_reads_5 : decode cX5_reads 5 = .ok (.aload_n 0, 1) := by decide +kernel
theorem dX5_reads_6 : decode cX5_reads 6 = .ok (.getfield 56, 3) := by decide +kernel
theorem dX5_reads_9 : decode cX5_reads 9 = .ok (.iconst 1, 1) := by decide +kernel
theorem dX5_reads_10 : decode cX5_reads 10 = .ok (.isub, 1) := by decide +kernel
theorem dX5_reads_11 : decode cX5_reads 11 = .ok (.istore_n 2, 1) := by decide +kernel
theorem dX5_reads_12 : decode cX5_reads 12 = .ok (.iload_n 2, 1) := by decide +kernel
theorem dX5_reads_13 : decode cX5_reads 13 = .ok (.ifCond .lt 163, 3) := by decide +kernel
theorem dX5_reads_16 : decode cX5_reads 16 = .ok (.aload_n 0, 1) := by decide +kernel
theorem dX5_reads_17 : decode cX5_reads 17 = .ok (.aload_n 0, 1) := by decide +kernel
theorem dX5_reads_18 : decode cX5_reads 18 = .ok (.getfield 19, 3) := by decide +kernel
theorem dX5_reads_21 : decode cX5_reads 21 = .ok (.iload_n 2, 1) := by decide +kernel
theorem dX5_reads_22 : decode cX5_reads 22 = .ok (.iaload, 1) := by decide +kernel
theorem dX5_reads_23 : decode cX5_reads 23 = .ok (.invokevirtual 59, 3) := by decide +kernel
theorem dX5_reads_26 : decode cX5_reads 26 = .ok (.istore_n 3, 1) := by decide +kernel
theorem dX5_reads_27 : decode cX5_reads 27 = .ok (.iload_n 3, 1) := by decide +kernel
theorem dX5_reads_28 : decode cX5_reads 28 = .ok (.iconst (-1), 1) := by decide +kernel
theorem dX5_reads_29 : decode cX5_reads 29 = .ok (.if_icmp .ne 13, 3) := by decide +kernel
theorem dX5_reads_32 : decode cX5_reads 32 = .ok (.aload_n 0, 1) := by decide +kernel
theorem dX5_reads_33 : decode cX5_reads 33 = .ok (.getfield 22, 3) := by decide +kernel
theorem dX5_reads_36 : decode cX5_reads 36 = .ok (.iload_n 2, 1) := by decide +kernel
theorem dX5_reads_37 : decode cX5_reads 37 = .ok (.iconst 0, 1) := by decide +kernel
theorem dX5_reads_38 : decode cX5_reads 38 = .ok (.iastore, 1) := by decide +kernel
theorem dX5_reads_39 : decode cX5_reads 39 = .ok (.goto 131, 3) := by decide +kernel
theorem dX5_reads_42 : decode cX5_reads 42 = .ok (.iload_n 2, 1) := by decide +kernel
theorem dX5_reads_43 : decode cX5_reads 43 = .ok (.aload_n 0, 1) := by decide +kernel
theorem dX5_reads_44 : decode cX5_reads 44 = .ok (.getfield 56, 3) := by decide +kernel
theorem dX5_reads_47 : decode cX5_reads 47 = .ok (.iconst 1, 1) := by decide +kernel
theorem dX5_reads_48 : decode cX5_reads 48 = .ok (.isub, 1) := by decide +kernel
theorem dX5_reads_49 : decode cX5_reads 49 = .ok (.if_icmp .ge 25, 3) := by decide +kernel
theorem dX5_reads_52 : decode cX5_reads 52 = .ok (.aload_n 0, 1) := by decide +kernel
theorem dX5_reads_53 : decode cX5_reads 53 = .ok (.getfield 22, 3) := by decide +kernel
theorem dX5_reads_56 : decode cX5_reads 56 = .ok (.iload_n 2, 1) := by decide +kernel
theorem dX5_reads_57 : decode cX5_reads 57 = .ok (.iconst 1, 1) := by decide +kernel
theorem dX5_reads_58 : decode cX5_reads 58 = .ok (.iadd, 1) := by decide +kernel
theorem dX5_reads_59 : decode cX5_reads 59 = .ok (.iaload, 1) := by decide +kernel
theorem dX5_reads_60 : decode cX5_reads 60 = .ok (.iconst (-1), 1) := by decide +kernel
theorem dX5_reads_61 : decode cX5_reads 61 = .ok (.if_icmp .eq 13, 3) := by decide +kernel
theorem dX5_reads_64 : decode cX5_reads 64 = .ok (.aload_n 0, 1) := by decide +kernel
theorem dX5_reads_65 : decode cX5_reads 65 = .ok (.getfield 22, 3) := by decide +kernel
theorem dX5_reads_68 : decode cX5_reads 68 = .ok (.iload_n 2, 1) := by decide +kernel
theorem dX5_reads_69 : decode cX5_reads 69 = .ok (.iconst 2, 1) := by decide +kernel
theorem dX5_reads_70 : decode cX5_reads 70 = .ok (.iastore, 1) := by decide +kernel
theorem dX5_reads_71 : decode cX5_reads 71 = .ok (.goto 99, 3) := by decide +kernel
theorem dX5_reads_74 : decode cX5_reads 74 = .ok (.aload_n 0, 1) := by decide +kernel
theorem dX5_reads_75 : decode cX5_reads 75 = .ok (.iload_n 3, 1) := by decide +kernel
theorem dX5_reads_76 : decode cX5_reads 76 = .ok (.invokevirtual 66, 3) := by decide +kernel
theorem dX5_reads_79 : decode cX5_reads 79 = .ok (.ifCond .eq 13, 3) := by decide +kernel
theorem dX5_reads_82 : decode cX5_reads 82 = .ok (.aload_n 0, 1) := by decide +kernel
theorem dX5_reads_83 : decode cX5_reads 83 = .ok (.aload_n 0, 1) := by decide +kernel
theorem dX5_reads_84 : decode cX5_reads 84 = .ok (.iload_n 3, 1) := by decide +kernel
theorem dX5_reads_85 : decode cX5_reads 85 = .ok (.iconst 1, 1) := by decide +kernel
theorem dX5_reads_86 : decode cX5_reads 86 = .ok (.invokevirtual 38, 3) := by decide +kernel
theorem dX5_reads_89 : decode cX5_reads 89 = .ok (.putfield 46, 3) := by decide +kernel
theorem dX5_reads_92 : decode cX5_reads 92 = .ok (.aload_n 0, 1) := by decide +kernel
theorem dX5_reads_93 : decode cX5_reads 93 = .ok (.aload_n 0, 1) := by decide +kernel
theorem dX5_reads_94 : decode cX5_reads 94 = .ok (.iload_n 3, 1) := by decide +kernel
theorem dX5_reads_95 : decode cX5_reads 95 = .ok (.iconst 1, 1) := by decide +kernel
theorem dX5_reads_96 : decode cX5_reads 96 = .ok (.invokevirtual 38, 3) := by decide +kernel
theorem dX5_reads_99 : decode cX5_reads 99 = .ok (.invokevirtual 70, 3) := by decide +kernel
theorem dX5_reads_102 : decode cX5_reads 102 = .ok (.iconst 0, 1) := by decide +kernel
theorem dX5_reads_103 : decode cX5_reads 103 = .ok (.istore 4, 2) := by decide +kernel
theorem dX5_reads_105 : decode cX5_reads 105 = .ok (.iload 4, 2) := by decide +kernel
theorem dX5_reads_107 : decode cX5_reads 107 = .ok (.aload_n 0, 1) := by decide +kernel
theorem dX5_reads_108 : decode cX5_reads 108 = .ok (.iload_n 3, 1) := by decide +kernel
theorem dX5_reads_109 : decode cX5_reads 109 = .ok (.iconst 4, 1) := by decide +kernel
theorem dX5_reads_110 : decode cX5_reads 110 = .ok (.invokevirtual 38, 3) := by decide +kernel
theorem dX5_reads_113 : decode cX5_reads 113 = .ok (.if_icmp .ge 33, 3) := by decide +kernel
theorem dX5_reads_116 : decode cX5_reads 116 = .ok (.aload_n 0, 1) := by decide +kernel
theorem dX5_reads_117 : decode cX5_reads 117 = .ok (.getfield 16, 3) := by decide +kernel
theorem dX5_reads_120 : decode cX5_reads 120 = .ok (.aload_n 0, 1) := by decide +kernel
theorem dX5_reads_121 : decode cX5_reads 121 = .ok (.iload_n 3, 1) := by decide +kernel
theorem dX5_reads_122 : decode cX5_reads 122 = .ok (.iconst 5, 1) := by decide +kernel
theorem dX5_reads_123 : decode cX5_reads 123 = .ok (.iload 4, 2) := by decide +kernel
theorem dX5_reads_125 : decode cX5_reads 125 = .ok (.iadd, 1) := by decide +kernel
theorem dX5_reads_126 : decode cX5_reads 126 = .ok (.invokevirtual 38, 3) := by decide +kernel
theorem dX5_reads_129 : decode cX5_reads 129 = .ok (.aload_n 0, 1) := by decide +kernel
theorem dX5_reads_130 : decode cX5_reads 130 = .ok (.iload_n 3, 1) := by decide +kernel
theorem dX5_reads_131 : decode cX5_reads 131 = .ok (.bipush 17, 2) := by decide +kernel
theorem dX5_reads_133 : decode cX5_reads 133 = .ok (.iload 4, 2) := by decide +kernel
theorem dX5_reads_135 : decode cX5_reads 135 = .ok (.iadd, 1) := by decide +kernel
theorem dX5_reads_136 : decode cX5_reads 136 = .ok (.invokevirtual 38, 3) := by decide +kernel
theorem dX5_reads_139 : decode cX5_reads 139 = .ok (.iastore, 1) := by decide +kernel
theorem dX5_reads_140 : decode cX5_reads 140 = .ok (.iinc 4 1, 3) := by decide +kernel
theorem dX5_reads_143 : decode cX5_reads 143 = .ok (.goto (-38), 3) := by decide +kernel
theorem dX5_reads_146 : decode cX5_reads 146 = .ok (.aload_n 0, 1) := by decide +kernel
theorem dX5_reads_147 : decode cX5_reads 147 = .ok (.getfield 22, 3) := by decide +kernel
theorem dX5_reads_150 : decode cX5_reads 150 = .ok (.iload_n 2, 1) := by decide +kernel
theorem dX5_reads_151 : decode cX5_reads 151 = .ok (.aload_n 0, 1) := by decide +kernel
theorem dX5_reads_152 : decode cX5_reads 152 = .ok (.invokevirtual 73, 3) := by decide +kernel
theorem dX5_reads_155 : decode cX5_reads 155 = .ok (.aload_n 0, 1) := by decide +kernel
theorem dX5_reads_156 : decode cX5_reads 156 = .ok (.iload_n 3, 1) := by decide +kernel
theorem dX5_reads_157 : decode cX5_reads 157 = .ok (.iconst 2, 1) := by decide +kernel
theorem dX5_reads_158 : decode cX5_reads 158 = .ok (.invokevirtual 38, 3) := by decide +kernel
theorem dX5_reads_161 : decode cX5_reads 161 = .ok (.if_icmp .ne 7, 3) := by decide +kernel
theorem dX5_reads_164 : decode cX5_reads 164 = .ok (.iconst (-1), 1) := by decide +kernel
theorem dX5_reads_165 : decode cX5_reads 165 = .ok (.goto 4, 3) := by decide +kernel
theorem dX5_reads_168 : decode cX5_reads 168 = .ok (.iconst 1, 1) := by decide +kernel
theorem dX5_reads_169 : decode cX5_reads 169 = .ok (.iastore, 1) := by decide +kernel
theorem dX5_reads_170 : decode cX5_reads 170 = .ok (.iinc 2 (-1), 3) := by decide +kernel
theorem dX5_reads_173 : decode cX5_reads 173 = .ok (.goto (-161), 3) := by decide +kernel
theorem dX5_reads_176 : decode cX5_reads 176 = .ok (.aload_n 0, 1) := by decide +kernel
theorem dX5_reads_177 : decode cX5_reads 177 = .ok (.getfield 22, 3) := by decide +kernel
theorem dX5_reads_180 : decode cX5_reads 180 = .ok (.iconst 0, 1) := by decide +kernel
theorem dX5_reads_181 : decode cX5_reads 181 = .ok (.iaload, 1) := by decide +kernel
theorem dX5_reads_182 : decode cX5_reads 182 = .ok (.iconst (-1), 1) := by decide +kernel
theorem dX5_reads_183 : decode cX5_reads 183 = .ok (.if_icmp .ne 7, 3) := by decide +kernel
theorem dX5_reads_186 : decode cX5_reads 186 = .ok (.iconst 1, 1) := by decide +kernel
theorem dX5_reads_187 : decode cX5_reads 187 = .ok (.goto 4, 3) := by decide +kernel
theorem dX5_reads_190 : decode cX5_reads 190 = .ok (.iconst 0, 1) := by decide +kernel
theorem dX5_reads_191 : decode cX5_reads 191 = .ok (.ireturn, 1) := by decide +kernel
theorem dX5_linksOf_0 : decode cX5_linksOf 0 = .ok (.aload_n 0, 1) := by decide +kernel
theorem dX5_linksOf_1 : decode cX5_linksOf 1 = .ok (.iload_n 1, 1) := by decide +kernel
theorem dX5_linksOf_2 : decode cX5_linksOf 2 = .ok (.invokevirtual 62, 3) := by decide +kernel
theorem dX5_linksOf_5 : decode cX5_linksOf 5 = .ok (.aload_n 0, 1) := by decide +kernel
theorem dX5_linksOf_6 : decode cX5_linksOf 6 = .ok (.getfield 56, 3) := by decide +kernel
theorem dX5_linksOf_9 : decode cX5_linksOf 9 = .ok (.ireturn, 1) := by decide +kernel
theorem dX5_setsAside_0 : decode cX5_setsAside 0 = .ok (.iconst 0, 1) := by decide +kernel
theorem dX5_setsAside_1 : decode cX5_setsAside 1 = .ok (.istore_n 1, 1) := by decide +kernel
theorem dX5_setsAside_2 : decode cX5_setsAside 2 = .ok (.iload_n 1, 1) := by decide +kernel
theorem dX5_setsAside_3 : decode cX5_setsAside 3 = .ok (.bipush 12, 2) := by decide +kernel
theorem dX5_setsAside_5 : decode cX5_setsAside 5 = .ok (.if_icmp .ge 21, 3) := by decide +kernel
theorem dX5_setsAside_8 : decode cX5_setsAside 8 = .ok (.aload_n 0, 1) := by decide +kernel
theorem dX5_setsAside_9 : decode cX5_setsAside 9 = .ok (.getfield 25, 3) := by decide +kernel
theorem dX5_setsAside_12 : decode cX5_setsAside 12 = .ok (.iload_n 1, 1) := by decide +kernel
theorem dX5_setsAside_13 : decode cX5_setsAside 13 = .ok (.aload_n 0, 1) := by decide +kernel
theorem dX5_setsAside_14 : decode cX5_setsAside 14 = .ok (.getfield 16, 3) := by decide +kernel
theorem dX5_setsAside_17 : decode cX5_setsAside 17 = .ok (.iload_n 1, 1) := by decide +kernel
theorem dX5_setsAside_18 : decode cX5_setsAside 18 = .ok (.iaload, 1) := by decide +kernel
theorem dX5_setsAside_19 : decode cX5_setsAside 19 = .ok (.iastore, 1) := by decide +kernel
theorem dX5_setsAside_20 : decode cX5_setsAside 20 = .ok (.iinc 1 1, 3) := by decide +kernel
theorem dX5_setsAside_23 : decode cX5_setsAside 23 = .ok (.goto (-21), 3) := by decide +kernel
theorem dX5_setsAside_26 : decode cX5_setsAside 26 = .ok (.return_, 1) := by decide +kernel
theorem dX5_differences_0 : decode cX5_differences 0 = .ok (.iconst 0, 1) := by decide +kernel
theorem dX5_differences_1 : decode cX5_differences 1 = .ok (.istore_n 2, 1) := by decide +kernel
theorem dX5_differences_2 : decode cX5_differences 2 = .ok (.iconst 0, 1) := by decide +kernel
theorem dX5_differences_3 : decode cX5_differences 3 = .ok (.istore_n 3, 1) := by decide +kernel
theorem dX5_differences_4 : decode cX5_differences 4 = .ok (.iload_n 3, 1) := by decide +kernel
theorem dX5_differences_5 : decode cX5_differences 5 = .ok (.iload_n 1, 1) := by decide +kernel
theorem dX5_differences_6 : decode cX5_differences 6 = .ok (.if_icmp .ge 32, 3) := by decide +kernel
theorem dX5_differences_9 : decode cX5_differences 9 = .ok (.iload_n 2, 1) := by decide +kernel
theorem dX5_differences_10 : decode cX5_differences 10 = .ok (.aload_n 0, 1) := by decide +kernel
theorem dX5_differences_11 : decode cX5_differences 11 = .ok (.getfield 16, 3) := by decide +kernel
theorem dX5_differences_14 : decode cX5_differences 14 = .ok (.iload_n 3, 1) := by decide +kernel
theorem dX5_differences_15 : decode cX5_differences 15 = .ok (.iaload, 1) := by decide +kernel
theorem dX5_differences_16 : decode cX5_differences 16 = .ok (.aload_n 0, 1) := by decide +kernel
theorem dX5_differences_17 : decode cX5_differences 17 = .ok (.getfield 25, 3) := by decide +kernel
theorem dX5_differences_20 : decode cX5_differences 20 = .ok (.iload_n 3, 1) := by decide +kernel
theorem dX5_differences_21 : decode cX5_differences 21 = .ok (.iaload, 1) := by decide +kernel
theorem dX5_differences_22 : decode cX5_differences 22 = .ok (.if_icmp .ne 7, 3) := by decide +kernel
theorem dX5_differences_25 : decode cX5_differences 25 = .ok (.iconst 0, 1) := by decide +kernel
theorem dX5_differences_26 : decode cX5_differences 26 = .ok (.goto 4, 3) := by decide +kernel
theorem dX5_differences_29 : decode cX5_differences 29 = .ok (.iconst 1, 1) := by decide +kernel
theorem dX5_differences_30 : decode cX5_differences 30 = .ok (.iadd, 1) := by decide +kernel
theorem dX5_differences_31 : decode cX5_differences 31 = .ok (.istore_n 2, 1) := by decide +kernel
theorem dX5_differences_32 : decode cX5_differences 32 = .ok (.iinc 3 1, 3) := by decide +kernel
theorem dX5_differences_35 : decode cX5_differences 35 = .ok (.goto (-31), 3) := by decide +kernel
theorem dX5_differences_38 : decode cX5_differences 38 = .ok (.iload_n 2, 1) := by decide +kernel
theorem dX5_differences_39 : decode cX5_differences 39 = .ok (.ireturn, 1) := by decide +kernel
theorem dX5_writesWhole_0 : decode cX5_writesWhole 0 = .ok (.aload_n 0, 1) := by decide +kernel
theorem dX5_writesWhole_1 : decode cX5_writesWhole 1 = .ok (.iload_n 1, 1) := by decide +kernel
theorem dX5_writesWhole_2 : decode cX5_writesWhole 2 = .ok (.iconst 1, 1) := by decide +kernel
theorem dX5_writesWhole_3 : decode cX5_writesWhole 3 = .ok (.invokevirtual 38, 3) := by decide +kernel
theorem dX5_writesWhole_6 : decode cX5_writesWhole 6 = .ok (.invokestatic 52, 3) := by decide +kernel
theorem dX5_writesWhole_9 : decode cX5_writesWhole 9 = .ok (.istore_n 2, 1) := by decide +kernel
theorem dX5_writesWhole_10 : decode cX5_writesWhole 10 = .ok (.aload_n 0, 1) := by decide +kernel
theorem dX5_writesWhole_11 : decode cX5_writesWhole 11 = .ok (.iload_n 1, 1) := by decide +kernel
theorem dX5_writesWhole_12 : decode cX5_writesWhole 12 = .ok (.iconst 3, 1) := by decide +kernel
theorem dX5_writesWhole_13 : decode cX5_writesWhole 13 = .ok (.iconst (-1), 1) := by decide +kernel
theorem dX5_writesWhole_14 : decode cX5_writesWhole 14 = .ok (.invokevirtual 77, 3) := by decide +kernel
theorem dX5_writesWhole_17 : decode cX5_writesWhole 17 = .ok (.aload_n 0, 1) := by decide +kernel
theorem dX5_writesWhole_18 : decode cX5_writesWhole 18 = .ok (.iload_n 1, 1) := by decide +kernel
theorem dX5_writesWhole_19 : decode cX5_writesWhole 19 = .ok (.iconst 4, 1) := by decide +kernel
theorem dX5_writesWhole_20 : decode cX5_writesWhole 20 = .ok (.iload_n 2, 1) := by decide +kernel
theorem dX5_writesWhole_21 : decode cX5_writesWhole 21 = .ok (.invokevirtual 77, 3) := by decide +kernel
theorem dX5_writesWhole_24 : decode cX5_writesWhole 24 = .ok (.iconst 0, 1) := by decide +kernel
theorem dX5_writesWhole_25 : decode cX5_writesWhole 25 = .ok (.istore_n 3, 1) := by decide +kernel
theorem dX5_writesWhole_26 : decode cX5_writesWhole 26 = .ok (.iload_n 3, 1) := by decide +kernel
theorem dX5_writesWhole_27 : decode cX5_writesWhole 27 = .ok (.bipush 12, 2) := by decide +kernel
theorem dX5_writesWhole_29 : decode cX5_writesWhole 29 = .ok (.if_icmp .ge 51, 3) := by decide +kernel
theorem dX5_writesWhole_32 : decode cX5_writesWhole 32 = .ok (.aload_n 0, 1) := by decide +kernel
theorem dX5_writesWhole_33 : decode cX5_writesWhole 33 = .ok (.iload_n 1, 1) := by decide +kernel
theorem dX5_writesWhole_34 : decode cX5_writesWhole 34 = .ok (.iconst 5, 1) := by decide +kernel
theorem dX5_writesWhole_35 : decode cX5_writesWhole 35 = .ok (.iload_n 3, 1) := by decide +kernel
theorem dX5_writesWhole_36 : decode cX5_writesWhole 36 = .ok (.iadd, 1) := by decide +kernel
theorem dX5_writesWhole_37 : decode cX5_writesWhole 37 = .ok (.iload_n 3, 1) := by decide +kernel
theorem dX5_writesWhole_38 : decode cX5_writesWhole 38 = .ok (.iload_n 2, 1) := by decide +kernel
theorem dX5_writesWhole_39 : decode cX5_writesWhole 39 = .ok (.if_icmp .ge 7, 3) := by decide +kernel
theorem dX5_writesWhole_42 : decode cX5_writesWhole 42 = .ok (.iload_n 3, 1) := by decide +kernel
theorem dX5_writesWhole_43 : decode cX5_writesWhole 43 = .ok (.goto 4, 3) := by decide +kernel
theorem dX5_writesWhole_46 : decode cX5_writesWhole 46 = .ok (.iconst 0, 1) := by decide +kernel
theorem dX5_writesWhole_47 : decode cX5_writesWhole 47 = .ok (.invokevirtual 77, 3) := by decide +kernel
theorem dX5_writesWhole_50 : decode cX5_writesWhole 50 = .ok (.aload_n 0, 1) := by decide +kernel
theorem dX5_writesWhole_51 : decode cX5_writesWhole 51 = .ok (.iload_n 1, 1) := by decide +kernel
theorem dX5_writesWhole_52 : decode cX5_writesWhole 52 = .ok (.bipush 17, 2) := by decide +kernel
theorem dX5_writesWhole_54 : decode cX5_writesWhole 54 = .ok (.iload_n 3, 1) := by decide +kernel
theorem dX5_writesWhole_55 : decode cX5_writesWhole 55 = .ok (.iadd, 1) := by decide +kernel
theorem dX5_writesWhole_56 : decode cX5_writesWhole 56 = .ok (.iload_n 3, 1) := by decide +kernel
theorem dX5_writesWhole_57 : decode cX5_writesWhole 57 = .ok (.iload_n 2, 1) := by decide +kernel
theorem dX5_writesWhole_58 : decode cX5_writesWhole 58 = .ok (.if_icmp .ge 12, 3) := by decide +kernel
theorem dX5_writesWhole_61 : decode cX5_writesWhole 61 = .ok (.aload_n 0, 1) := by decide +kernel
theorem dX5_writesWhole_62 : decode cX5_writesWhole 62 = .ok (.getfield 25, 3) := by decide +kernel
theorem dX5_writesWhole_65 : decode cX5_writesWhole 65 = .ok (.iload_n 3, 1) := by decide +kernel
theorem dX5_writesWhole_66 : decode cX5_writesWhole 66 = .ok (.iaload, 1) := by decide +kernel
theorem dX5_writesWhole_67 : decode cX5_writesWhole 67 = .ok (.goto 4, 3) := by decide +kernel
theorem dX5_writesWhole_70 : decode cX5_writesWhole 70 = .ok (.iconst 0, 1) := by decide +kernel
theorem dX5_writesWhole_71 : decode cX5_writesWhole 71 = .ok (.invokevirtual 77, 3) := by decide +kernel
theorem dX5_writesWhole_74 : decode cX5_writesWhole 74 = .ok (.iinc 3 1, 3) := by decide +kernel
theorem dX5_writesWhole_77 : decode cX5_writesWhole 77 = .ok (.goto (-51), 3) := by decide +kernel
theorem dX5_writesWhole_80 : decode cX5_writesWhole 80 = .ok (.return_, 1) := by decide +kernel
theorem dX5_writesDifference_0 : decode cX5_writesDifference 0 = .ok (.iconst 0, 1) := by decide +kernel
theorem dX5_writesDifference_1 : decode cX5_writesDifference 1 = .ok (.istore_n 3, 1) := by decide +kernel
theorem dX5_writesDifference_2 : decode cX5_writesDifference 2 = .ok (.iconst 0, 1) := by decide +kernel
theorem dX5_writesDifference_3 : decode cX5_writesDifference 3 = .ok (.istore 4, 2) := by decide +kernel
theorem dX5_writesDifference_5 : decode cX5_writesDifference 5 = .ok (.iload 4, 2) := by decide +kernel
theorem dX5_writesDifference_7 : decode cX5_writesDifference 7 = .ok (.aload_n 0, 1) := by decide +kernel
theorem dX5_writesDifference_8 : decode cX5_writesDifference 8 = .ok (.iload_n 1, 1) := by decide +kernel
theorem dX5_writesDifference_9 : decode cX5_writesDifference 9 = .ok (.iconst 1, 1) := by decide +kernel
theorem dX5_writesDifference_10 : decode cX5_writesDifference 10 = .ok (.invokevirtual 38, 3) := by decide +kernel
theorem dX5_writesDifference_13 : decode cX5_writesDifference 13 = .ok (.invokestatic 52, 3) := by decide +kernel
theorem dX5_writesDifference_16 : decode cX5_writesDifference 16 = .ok (.if_icmp .ge 55, 3) := by decide +kernel
theorem dX5_writesDifference_19 : decode cX5_writesDifference 19 = .ok (.aload_n 0, 1) := by decide +kernel
theorem dX5_writesDifference_20 : decode cX5_writesDifference 20 = .ok (.getfield 16, 3) := by decide +kernel
theorem dX5_writesDifference_23 : decode cX5_writesDifference 23 = .ok (.iload 4, 2) := by decide +kernel
theorem dX5_writesDifference_25 : decode cX5_writesDifference 25 = .ok (.iaload, 1) := by decide +kernel
theorem dX5_writesDifference_26 : decode cX5_writesDifference 26 = .ok (.aload_n 0, 1) := by decide +kernel
theorem dX5_writesDifference_27 : decode cX5_writesDifference 27 = .ok (.getfield 25, 3) := by decide +kernel
theorem dX5_writesDifference_30 : decode cX5_writesDifference 30 = .ok (.iload 4, 2) := by decide +kernel
theorem dX5_writesDifference_32 : decode cX5_writesDifference 32 = .ok (.iaload, 1) := by decide +kernel
theorem dX5_writesDifference_33 : decode cX5_writesDifference 33 = .ok (.if_icmp .eq 32, 3) := by decide +kernel
theorem dX5_writesDifference_36 : decode cX5_writesDifference 36 = .ok (.aload_n 0, 1) := by decide +kernel
theorem dX5_writesDifference_37 : decode cX5_writesDifference 37 = .ok (.iload_n 1, 1) := by decide +kernel
theorem dX5_writesDifference_38 : decode cX5_writesDifference 38 = .ok (.iconst 5, 1) := by decide +kernel
theorem dX5_writesDifference_39 : decode cX5_writesDifference 39 = .ok (.iload_n 3, 1) := by decide +kernel
theorem dX5_writesDifference_40 : decode cX5_writesDifference 40 = .ok (.iadd, 1) := by decide +kernel
theorem dX5_writesDifference_41 : decode cX5_writesDifference 41 = .ok (.iload 4, 2) := by decide +kernel
theorem dX5_writesDifference_43 : decode cX5_writesDifference 43 = .ok (.invokevirtual 77, 3) := by decide +kernel
theorem dX5_writesDifference_46 : decode cX5_writesDifference 46 = .ok (.aload_n 0, 1) := by decide +kernel
theorem dX5_writesDifference_47 : decode cX5_writesDifference 47 = .ok (.iload_n 1, 1) := by decide +kernel
theorem dX5_writesDifference_48 : decode cX5_writesDifference 48 = .ok (.bipush 17, 2) := by decide +kernel
theorem dX5_writesDifference_50 : decode cX5_writesDifference 50 = .ok (.iload_n 3, 1) := by decide +kernel
theorem dX5_writesDifference_51 : decode cX5_writesDifference 51 = .ok (.iadd, 1) := by decide +kernel
theorem dX5_writesDifference_52 : decode cX5_writesDifference 52 = .ok (.aload_n 0, 1) := by decide +kernel
theorem dX5_writesDifference_53 : decode cX5_writesDifference 53 = .ok (.getfield 25, 3) := by decide +kernel
theorem dX5_writesDifference_56 : decode cX5_writesDifference 56 = .ok (.iload 4, 2) := by decide +kernel
theorem dX5_writesDifference_58 : decode cX5_writesDifference 58 = .ok (.iaload, 1) := by decide +kernel
theorem dX5_writesDifference_59 : decode cX5_writesDifference 59 = .ok (.invokevirtual 77, 3) := by decide +kernel
theorem dX5_writesDifference_62 : decode cX5_writesDifference 62 = .ok (.iinc 3 1, 3) := by decide +kernel
theorem dX5_writesDifference_65 : decode cX5_writesDifference 65 = .ok (.iinc 4 1, 3) := by decide +kernel
theorem dX5_writesDifference_68 : decode cX5_writesDifference 68 = .ok (.goto (-63), 3) := by decide +kernel
theorem dX5_writesDifference_71 : decode cX5_writesDifference 71 = .ok (.aload_n 0, 1) := by decide +kernel
theorem dX5_writesDifference_72 : decode cX5_writesDifference 72 = .ok (.iload_n 1, 1) := by decide +kernel
theorem dX5_writesDifference_73 : decode cX5_writesDifference 73 = .ok (.iconst 3, 1) := by decide +kernel
theorem dX5_writesDifference_74 : decode cX5_writesDifference 74 = .ok (.iload_n 2, 1) := by decide +kernel
theorem dX5_writesDifference_75 : decode cX5_writesDifference 75 = .ok (.invokevirtual 77, 3) := by decide +kernel
theorem dX5_writesDifference_78 : decode cX5_writesDifference 78 = .ok (.aload_n 0, 1) := by decide +kernel
theorem dX5_writesDifference_79 : decode cX5_writesDifference 79 = .ok (.iload_n 1, 1) := by decide +kernel
theorem dX5_writesDifference_80 : decode cX5_writesDifference 80 = .ok (.iconst 4, 1) := by decide +kernel
theorem dX5_writesDifference_81 : decode cX5_writesDifference 81 = .ok (.iload_n 3, 1) := by decide +kernel
theorem dX5_writesDifference_82 : decode cX5_writesDifference 82 = .ok (.invokevirtual 77, 3) := by decide +kernel
theorem dX5_writesDifference_85 : decode cX5_writesDifference 85 = .ok (.return_, 1) := by decide +kernel
theorem dX5_type_0 : decode cX5_type 0 = .ok (.iload_n 1, 1) := by decide +kernel
theorem dX5_type_1 : decode cX5_type 1 = .ok (.iconst 0, 1) := by decide +kernel
theorem dX5_type_2 : decode cX5_type 2 = .ok (.bipush 127, 2) := by decide +kernel
theorem dX5_type_4 : decode cX5_type 4 = .ok (.invokestatic 81, 3) := by decide +kernel
theorem dX5_type_7 : decode cX5_type 7 = .ok (.ifCond .ne 6, 3) := by decide +kernel
theorem dX5_type_10 : decode cX5_type 10 = .ok (.bipush (-2), 2) := by decide +kernel
theorem dX5_type_12 : decode cX5_type 12 = .ok (.ireturn, 1) := by decide +kernel
theorem dX5_type_13 : decode cX5_type 13 = .ok (.aload_n 0, 1) := by decide +kernel
theorem dX5_type_14 : decode cX5_type 14 = .ok (.getfield 85, 3) := by decide +kernel
theorem dX5_type_17 : decode cX5_type 17 = .ok (.bipush 80, 2) := by decide +kernel
theorem dX5_type_19 : decode cX5_type 19 = .ok (.if_icmp .ne 6, 3) := by decide +kernel
theorem dX5_type_22 : decode cX5_type 22 = .ok (.bipush (-4), 2) := by decide +kernel
theorem dX5_type_24 : decode cX5_type 24 = .ok (.ireturn, 1) := by decide +kernel
theorem dX5_type_25 : decode cX5_type 25 = .ok (.aload_n 0, 1) := by decide +kernel
theorem dX5_type_26 : decode cX5_type 26 = .ok (.getfield 28, 3) := by decide +kernel
theorem dX5_type_29 : decode cX5_type 29 = .ok (.aload_n 0, 1) := by decide +kernel
theorem dX5_type_30 : decode cX5_type 30 = .ok (.getfield 85, 3) := by decide +kernel
theorem dX5_type_33 : decode cX5_type 33 = .ok (.iload_n 1, 1) := by decide +kernel
theorem dX5_type_34 : decode cX5_type 34 = .ok (.iastore, 1) := by decide +kernel
theorem dX5_type_35 : decode cX5_type 35 = .ok (.aload_n 0, 1) := by decide +kernel
theorem dX5_type_36 : decode cX5_type 36 = .ok (.dup, 1) := by decide +kernel
theorem dX5_type_37 : decode cX5_type 37 = .ok (.getfield 85, 3) := by decide +kernel
theorem dX5_type_40 : decode cX5_type 40 = .ok (.iconst 1, 1) := by decide +kernel
theorem dX5_type_41 : decode cX5_type 41 = .ok (.iadd, 1) := by decide +kernel
theorem dX5_type_42 : decode cX5_type 42 = .ok (.putfield 85, 3) := by decide +kernel
theorem dX5_type_45 : decode cX5_type 45 = .ok (.aload_n 0, 1) := by decide +kernel
theorem dX5_type_46 : decode cX5_type 46 = .ok (.getfield 85, 3) := by decide +kernel
theorem dX5_type_49 : decode cX5_type 49 = .ok (.ireturn, 1) := by decide +kernel
theorem dX5_clear_0 : decode cX5_clear 0 = .ok (.aload_n 0, 1) := by decide +kernel
theorem dX5_clear_1 : decode cX5_clear 1 = .ok (.getfield 85, 3) := by decide +kernel
theorem dX5_clear_4 : decode cX5_clear 4 = .ok (.istore_n 1, 1) := by decide +kernel
theorem dX5_clear_5 : decode cX5_clear 5 = .ok (.aload_n 0, 1) := by decide +kernel
theorem dX5_clear_6 : decode cX5_clear 6 = .ok (.iconst 0, 1) := by decide +kernel
theorem dX5_clear_7 : decode cX5_clear 7 = .ok (.putfield 85, 3) := by decide +kernel
theorem dX5_clear_10 : decode cX5_clear 10 = .ok (.iload_n 1, 1) := by decide +kernel
theorem dX5_clear_11 : decode cX5_clear 11 = .ok (.ireturn, 1) := by decide +kernel
theorem dX5_next_0 : decode cX5_next 0 = .ok (.aload_n 0, 1) := by decide +kernel
theorem dX5_next_1 : decode cX5_next 1 = .ok (.getfield 88, 3) := by decide +kernel
theorem dX5_next_4 : decode cX5_next 4 = .ok (.aload_n 0, 1) := by decide +kernel
theorem dX5_next_5 : decode cX5_next 5 = .ok (.getfield 85, 3) := by decide +kernel
theorem dX5_next_8 : decode cX5_next 8 = .ok (.if_icmp .ge 15, 3) := by decide +kernel
theorem dX5_next_11 : decode cX5_next 11 = .ok (.aload_n 0, 1) := by decide +kernel
theorem dX5_next_12 : decode cX5_next 12 = .ok (.getfield 28, 3) := by decide +kernel
theorem dX5_next_15 : decode cX5_next 15 = .ok (.aload_n 0, 1) := by decide +kernel
theorem dX5_next_16 : decode cX5_next 16 = .ok (.getfield 88, 3) := by decide +kernel
theorem dX5_next_19 : decode cX5_next 19 = .ok (.iaload, 1) := by decide +kernel
theorem dX5_next_20 : decode cX5_next 20 = .ok (.goto 4, 3) := by decide +kernel
theorem dX5_next_23 : decode cX5_next 23 = .ok (.iconst (-1), 1) := by decide +kernel
theorem dX5_next_24 : decode cX5_next 24 = .ok (.ireturn, 1) := by decide +kernel
theorem dX5_isDigit_0 : decode cX5_isDigit 0 = .ok (.aload_n 0, 1) := by decide +kernel
theorem dX5_isDigit_1 : decode cX5_isDigit 1 = .ok (.invokevirtual 91, 3) := by decide +kernel
theorem dX5_isDigit_4 : decode cX5_isDigit 4 = .ok (.bipush 48, 2) := by decide +kernel
theorem dX5_isDigit_6 : decode cX5_isDigit 6 = .ok (.bipush 57, 2) := by decide +kernel
theorem dX5_isDigit_8 : decode cX5_isDigit 8 = .ok (.invokestatic 81, 3) := by decide +kernel
theorem dX5_isDigit_11 : decode cX5_isDigit 11 = .ok (.ireturn, 1) := by decide +kernel
theorem dX5_skips_0 : decode cX5_skips 0 = .ok (.aload_n 0, 1) := by decide +kernel
theorem dX5_skips_1 : decode cX5_skips 1 = .ok (.invokevirtual 91, 3) := by decide +kernel
theorem dX5_skips_4 : decode cX5_skips 4 = .ok (.bipush 32, 2) := by decide +kernel
theorem dX5_skips_6 : decode cX5_skips 6 = .ok (.if_icmp .ne 16, 3) := by decide +kernel
theorem dX5_skips_9 : decode cX5_skips 9 = .ok (.aload_n 0, 1) := by decide +kernel
theorem dX5_skips_10 : decode cX5_skips 10 = .ok (.dup, 1) := by decide +kernel
theorem dX5_skips_11 : decode cX5_skips 11 = .ok (.getfield 88, 3) := by decide +kernel
theorem dX5_skips_14 : decode cX5_skips 14 = .ok (.iconst 1, 1) := by decide +kernel
theorem dX5_skips_15 : decode cX5_skips 15 = .ok (.iadd, 1) := by decide +kernel
theorem dX5_skips_16 : decode cX5_skips 16 = .ok (.putfield 88, 3) := by decide +kernel
theorem dX5_skips_19 : decode cX5_skips 19 = .ok (.goto (-19), 3) := by decide +kernel
theorem dX5_skips_22 : decode cX5_skips 22 = .ok (.return_, 1) := by decide +kernel
theorem dX5_fails_0 : decode cX5_fails 0 = .ok (.aload_n 0, 1) := by decide +kernel
theorem dX5_fails_1 : decode cX5_fails 1 = .ok (.aload_n 0, 1) := by decide +kernel
theorem dX5_fails_2 : decode cX5_fails 2 = .ok (.getfield 94, 3) := by decide +kernel
theorem dX5_fails_5 : decode cX5_fails 5 = .ok (.iconst (-1), 1) := by decide +kernel
theorem dX5_fails_6 : decode cX5_fails 6 = .ok (.if_icmp .ne 7, 3) := by decide +kernel
theorem dX5_fails_9 : decode cX5_fails 9 = .ok (.iload_n 1, 1) := by decide +kernel
theorem dX5_fails_10 : decode cX5_fails 10 = .ok (.goto 7, 3) := by decide +kernel
theorem dX5_fails_13 : decode cX5_fails 13 = .ok (.aload_n 0, 1) := by decide +kernel
theorem dX5_fails_14 : decode cX5_fails 14 = .ok (.getfield 94, 3) := by decide +kernel
theorem dX5_fails_17 : decode cX5_fails 17 = .ok (.putfield 94, 3) := by decide +kernel
theorem dX5_fails_20 : decode cX5_fails 20 = .ok (.return_, 1) := by decide +kernel
theorem dX5_number_0 : decode cX5_number 0 = .ok (.aload_n 0, 1) := by decide +kernel
theorem dX5_number_1 : decode cX5_number 1 = .ok (.getfield 88, 3) := by decide +kernel
theorem dX5_number_4 : decode cX5_number 4 = .ok (.istore_n 3, 1) := by decide +kernel
theorem dX5_number_5 : decode cX5_number 5 = .ok (.iconst 0, 1) := by decide +kernel
theorem dX5_number_6 : decode cX5_number 6 = .ok (.istore 4, 2) := by decide +kernel
theorem dX5_number_8 : decode cX5_number 8 = .ok (.aload_n 0, 1) := by decide +kernel
theorem dX5_number_9 : decode cX5_number 9 = .ok (.getfield 94, 3) := by decide +kernel
theorem dX5_number_12 : decode cX5_number 12 = .ok (.iconst (-1), 1) := by decide +kernel
theorem dX5_number_13 : decode cX5_number 13 = .ok (.if_icmp .ne 48, 3) := by decide +kernel
theorem dX5_number_16 : decode cX5_number 16 = .ok (.aload_n 0, 1) := by decide +kernel
theorem dX5_number_17 : decode cX5_number 17 = .ok (.getfield 88, 3) := by decide +kernel
theorem dX5_number_20 : decode cX5_number 20 = .ok (.iload_n 3, 1) := by decide +kernel
theorem dX5_number_21 : decode cX5_number 21 = .ok (.iconst 2, 1) := by decide +kernel
theorem dX5_number_22 : decode cX5_number 22 = .ok (.iadd, 1) := by decide +kernel
theorem dX5_number_23 : decode cX5_number 23 = .ok (.if_icmp .ge 38, 3) := by decide +kernel
theorem dX5_number_26 : decode cX5_number 26 = .ok (.aload_n 0, 1) := by decide +kernel
theorem dX5_number_27 : decode cX5_number 27 = .ok (.invokevirtual 97, 3) := by decide +kernel
theorem dX5_number_30 : decode cX5_number 30 = .ok (.ifCond .eq 31, 3) := by decide +kernel
theorem dX5_number_33 : decode cX5_number 33 = .ok (.bipush 10, 2) := by decide +kernel
theorem dX5_number_35 : decode cX5_number 35 = .ok (.iload 4, 2) := by decide +kernel
theorem dX5_number_37 : decode cX5_number 37 = .ok (.imul, 1) := by decide +kernel
theorem dX5_number_38 : decode cX5_number 38 = .ok (.aload_n 0, 1) := by decide +kernel
theorem dX5_number_39 : decode cX5_number 39 = .ok (.invokevirtual 91, 3) := by decide +kernel
theorem dX5_number_42 : decode cX5_number 42 = .ok (.iadd, 1) := by decide +kernel
theorem dX5_number_43 : decode cX5_number 43 = .ok (.bipush 48, 2) := by decide +kernel
theorem dX5_number_45 : decode cX5_number 45 = .ok (.isub, 1) := by decide +kernel
theorem dX5_number_46 : decode cX5_number 46 = .ok (.istore 4, 2) := by decide +kernel
theorem dX5_number_48 : decode cX5_number 48 = .ok (.aload_n 0, 1) := by decide +kernel
theorem dX5_number_49 : decode cX5_number 49 = .ok (.dup, 1) := by decide +kernel
theorem dX5_number_50 : decode cX5_number 50 = .ok (.getfield 88, 3) := by decide +kernel
theorem dX5_number_53 : decode cX5_number 53 = .ok (.iconst 1, 1) := by decide +kernel
theorem dX5_number_54 : decode cX5_number 54 = .ok (.iadd, 1) := by decide +kernel
theorem dX5_number_55 : decode cX5_number 55 = .ok (.putfield 88, 3) := by decide +kernel
theorem dX5_number_58 : decode cX5_number 58 = .ok (.goto (-50), 3) := by decide +kernel
theorem dX5_number_61 : decode cX5_number 61 = .ok (.aload_n 0, 1) := by decide +kernel
theorem dX5_number_62 : decode cX5_number 62 = .ok (.getfield 88, 3) := by decide +kernel
theorem dX5_number_65 : decode cX5_number 65 = .ok (.iload_n 3, 1) := by decide +kernel
theorem dX5_number_66 : decode cX5_number 66 = .ok (.if_icmp .eq 13, 3) := by decide +kernel
theorem dX5_number_69 : decode cX5_number 69 = .ok (.iload 4, 2) := by decide +kernel
theorem dX5_number_71 : decode cX5_number 71 = .ok (.iload_n 1, 1) := by decide +kernel
theorem dX5_number_72 : decode cX5_number 72 = .ok (.iload_n 2, 1) := by decide +kernel
theorem dX5_number_73 : decode cX5_number 73 = .ok (.invokestatic 81, 3) := by decide +kernel
theorem dX5_number_76 : decode cX5_number 76 = .ok (.ifCond .ne 8, 3) := by decide +kernel
theorem dX5_number_79 : decode cX5_number 79 = .ok (.aload_n 0, 1) := by decide +kernel
theorem dX5_number_80 : decode cX5_number 80 = .ok (.iload_n 3, 1) := by decide +kernel
theorem dX5_number_81 : decode cX5_number 81 = .ok (.invokevirtual 101, 3) := by decide +kernel
theorem dX5_number_84 : decode cX5_number 84 = .ok (.aload_n 0, 1) := by decide +kernel
theorem dX5_number_85 : decode cX5_number 85 = .ok (.invokevirtual 97, 3) := by decide +kernel
theorem dX5_number_88 : decode cX5_number 88 = .ok (.ifCond .eq 11, 3) := by decide +kernel
theorem dX5_number_91 : decode cX5_number 91 = .ok (.aload_n 0, 1) := by decide +kernel
theorem dX5_number_92 : decode cX5_number 92 = .ok (.aload_n 0, 1) := by decide +kernel
theorem dX5_number_93 : decode cX5_number 93 = .ok (.getfield 88, 3) := by decide +kernel
theorem dX5_number_96 : decode cX5_number 96 = .ok (.invokevirtual 101, 3) := by decide +kernel
theorem dX5_number_99 : decode cX5_number 99 = .ok (.aload_n 0, 1) := by decide +kernel
theorem dX5_number_100 : decode cX5_number 100 = .ok (.invokevirtual 104, 3) := by decide +kernel
theorem dX5_number_103 : decode cX5_number 103 = .ok (.iload 4, 2) := by decide +kernel
theorem dX5_number_105 : decode cX5_number 105 = .ok (.ireturn, 1) := by decide +kernel
theorem dX5_amount_0 : decode cX5_amount 0 = .ok (.aload_n 0, 1) := by decide +kernel
theorem dX5_amount_1 : decode cX5_amount 1 = .ok (.getfield 94, 3) := by decide +kernel
theorem dX5_amount_4 : decode cX5_amount 4 = .ok (.iconst (-1), 1) := by decide +kernel
theorem dX5_amount_5 : decode cX5_amount 5 = .ok (.if_icmp .ne 16, 3) := by decide +kernel
theorem dX5_amount_8 : decode cX5_amount 8 = .ok (.aload_n 0, 1) := by decide +kernel
theorem dX5_amount_9 : decode cX5_amount 9 = .ok (.invokevirtual 91, 3) := by decide +kernel
theorem dX5_amount_12 : decode cX5_amount 12 = .ok (.bipush 45, 2) := by decide +kernel
theorem dX5_amount_14 : decode cX5_amount 14 = .ok (.if_icmp .ne 7, 3) := by decide +kernel
theorem dX5_amount_17 : decode cX5_amount 17 = .ok (.iconst 1, 1) := by decide +kernel
theorem dX5_amount_18 : decode cX5_amount 18 = .ok (.goto 4, 3) := by decide +kernel
theorem dX5_amount_21 : decode cX5_amount 21 = .ok (.iconst 0, 1) := by decide +kernel
theorem dX5_amount_22 : decode cX5_amount 22 = .ok (.istore_n 1, 1) := by decide +kernel
theorem dX5_amount_23 : decode cX5_amount 23 = .ok (.aload_n 0, 1) := by decide +kernel
theorem dX5_amount_24 : decode cX5_amount 24 = .ok (.dup, 1) := by decide +kernel
theorem dX5_amount_25 : decode cX5_amount 25 = .ok (.getfield 88, 3) := by decide +kernel
theorem dX5_amount_28 : decode cX5_amount 28 = .ok (.iload_n 1, 1) := by decide +kernel
theorem dX5_amount_29 : decode cX5_amount 29 = .ok (.ifCond .eq 7, 3) := by decide +kernel
theorem dX5_amount_32 : decode cX5_amount 32 = .ok (.iconst 1, 1) := by decide +kernel
theorem dX5_amount_33 : decode cX5_amount 33 = .ok (.goto 4, 3) := by decide +kernel
theorem dX5_amount_36 : decode cX5_amount 36 = .ok (.iconst 0, 1) := by decide +kernel
theorem dX5_amount_37 : decode cX5_amount 37 = .ok (.iadd, 1) := by decide +kernel
theorem dX5_amount_38 : decode cX5_amount 38 = .ok (.putfield 88, 3) := by decide +kernel
theorem dX5_amount_41 : decode cX5_amount 41 = .ok (.aload_n 0, 1) := by decide +kernel
theorem dX5_amount_42 : decode cX5_amount 42 = .ok (.iconst 0, 1) := by decide +kernel
theorem dX5_amount_43 : decode cX5_amount 43 = .ok (.bipush 99, 2) := by decide +kernel
theorem dX5_amount_45 : decode cX5_amount 45 = .ok (.invokevirtual 107, 3) := by decide +kernel
theorem dX5_amount_48 : decode cX5_amount 48 = .ok (.istore_n 2, 1) := by decide +kernel
theorem dX5_amount_49 : decode cX5_amount 49 = .ok (.iload_n 1, 1) := by decide +kernel
theorem dX5_amount_50 : decode cX5_amount 50 = .ok (.ifCond .eq 8, 3) := by decide +kernel
theorem dX5_amount_53 : decode cX5_amount 53 = .ok (.iload_n 2, 1) := by decide +kernel
theorem dX5_amount_54 : decode cX5_amount 54 = .ok (.ineg, 1) := by decide +kernel
theorem dX5_amount_55 : decode cX5_amount 55 = .ok (.goto 4, 3) := by decide +kernel
theorem dX5_amount_58 : decode cX5_amount 58 = .ok (.iload_n 2, 1) := by decide +kernel
theorem dX5_amount_59 : decode cX5_amount 59 = .ok (.ireturn, 1) := by decide +kernel
theorem dX5_isWord_0 : decode cX5_isWord 0 = .ok (.aload_n 0, 1) := by decide +kernel
theorem dX5_isWord_1 : decode cX5_isWord 1 = .ok (.getfield 88, 3) := by decide +kernel
theorem dX5_isWord_4 : decode cX5_isWord 4 = .ok (.iload_n 1, 1) := by decide +kernel
theorem dX5_isWord_5 : decode cX5_isWord 5 = .ok (.isub, 1) := by decide +kernel
theorem dX5_isWord_6 : decode cX5_isWord 6 = .ok (.iload_n 3, 1) := by decide +kernel
theorem dX5_isWord_7 : decode cX5_isWord 7 = .ok (.if_icmp .ne 7, 3) := by decide +kernel
theorem dX5_isWord_10 : decode cX5_isWord 10 = .ok (.iconst 1, 1) := by decide +kernel
theorem dX5_isWord_11 : decode cX5_isWord 11 = .ok (.goto 4, 3) := by decide +kernel
theorem dX5_isWord_14 : decode cX5_isWord 14 = .ok (.iconst 0, 1) := by decide +kernel
theorem dX5_isWord_15 : decode cX5_isWord 15 = .ok (.istore 4, 2) := by decide +kernel
theorem dX5_isWord_17 : decode cX5_isWord 17 = .ok (.iconst 0, 1) := by decide +kernel
theorem dX5_isWord_18 : decode cX5_isWord 18 = .ok (.istore 5, 2) := by decide +kernel
theorem dX5_isWord_20 : decode cX5_isWord 20 = .ok (.iload 5, 2) := by decide +kernel
theorem dX5_isWord_22 : decode cX5_isWord 22 = .ok (.iload_n 3, 1) := by decide +kernel
theorem dX5_isWord_23 : decode cX5_isWord 23 = .ok (.if_icmp .ge 47, 3) := by decide +kernel
theorem dX5_isWord_26 : decode cX5_isWord 26 = .ok (.iload 4, 2) := by decide +kernel
theorem dX5_isWord_28 : decode cX5_isWord 28 = .ok (.ifCond .eq 42, 3) := by decide +kernel
theorem dX5_isWord_31 : decode cX5_isWord 31 = .ok (.aload_n 0, 1) := by decide +kernel
theorem dX5_isWord_32 : decode cX5_isWord 32 = .ok (.getfield 28, 3) := by decide +kernel
theorem dX5_isWord_35 : decode cX5_isWord 35 = .ok (.iload_n 1, 1) := by decide +kernel
theorem dX5_isWord_36 : decode cX5_isWord 36 = .ok (.iload 5, 2) := by decide +kernel
theorem dX5_isWord_38 : decode cX5_isWord 38 = .ok (.iadd, 1) := by decide +kernel
theorem dX5_isWord_39 : decode cX5_isWord 39 = .ok (.iaload, 1) := by decide +kernel
theorem dX5_isWord_40 : decode cX5_isWord 40 = .ok (.iload_n 2, 1) := by decide +kernel
theorem dX5_isWord_41 : decode cX5_isWord 41 = .ok (.bipush 8, 2) := by decide +kernel
theorem dX5_isWord_43 : decode cX5_isWord 43 = .ok (.iload_n 3, 1) := by decide +kernel
theorem dX5_isWord_44 : decode cX5_isWord 44 = .ok (.iconst 1, 1) := by decide +kernel
theorem dX5_isWord_45 : decode cX5_isWord 45 = .ok (.isub, 1) := by decide +kernel
theorem dX5_isWord_46 : decode cX5_isWord 46 = .ok (.iload 5, 2) := by decide +kernel
theorem dX5_isWord_48 : decode cX5_isWord 48 = .ok (.isub, 1) := by decide +kernel
theorem dX5_isWord_49 : decode cX5_isWord 49 = .ok (.imul, 1) := by decide +kernel
theorem dX5_isWord_50 : decode cX5_isWord 50 = .ok (.ishr, 1) := by decide +kernel
theorem dX5_isWord_51 : decode cX5_isWord 51 = .ok (.bipush 127, 2) := by decide +kernel
theorem dX5_isWord_53 : decode cX5_isWord 53 = .ok (.iand, 1) := by decide +kernel
theorem dX5_isWord_54 : decode cX5_isWord 54 = .ok (.if_icmp .ne 7, 3) := by decide +kernel
theorem dX5_isWord_57 : decode cX5_isWord 57 = .ok (.iconst 1, 1) := by decide +kernel
theorem dX5_isWord_58 : decode cX5_isWord 58 = .ok (.goto 4, 3) := by decide +kernel
theorem dX5_isWord_61 : decode cX5_isWord 61 = .ok (.iconst 0, 1) := by decide +kernel
theorem dX5_isWord_62 : decode cX5_isWord 62 = .ok (.istore 4, 2) := by decide +kernel
theorem dX5_isWord_64 : decode cX5_isWord 64 = .ok (.iinc 5 1, 3) := by decide +kernel
theorem dX5_isWord_67 : decode cX5_isWord 67 = .ok (.goto (-47), 3) := by decide +kernel
theorem dX5_isWord_70 : decode cX5_isWord 70 = .ok (.iload 4, 2) := by decide +kernel
theorem dX5_isWord_72 : decode cX5_isWord 72 = .ok (.ireturn, 1) := by decide +kernel
theorem dX5_wordOf_0 : decode cX5_wordOf 0 = .ok (.aload_n 0, 1) := by decide +kernel
theorem dX5_wordOf_1 : decode cX5_wordOf 1 = .ok (.iload_n 1, 1) := by decide +kernel
theorem dX5_wordOf_2 : decode cX5_wordOf 2 = .ok (.ldc 110, 2) := by decide +kernel
theorem dX5_wordOf_4 : decode cX5_wordOf 4 = .ok (.iconst 3, 1) := by decide +kernel
theorem dX5_wordOf_5 : decode cX5_wordOf 5 = .ok (.invokevirtual 111, 3) := by decide +kernel
theorem dX5_wordOf_8 : decode cX5_wordOf 8 = .ok (.ifCond .eq 5, 3) := by decide +kernel
theorem dX5_wordOf_11 : decode cX5_wordOf 11 = .ok (.iconst 0, 1) := by decide +kernel
theorem dX5_wordOf_12 : decode cX5_wordOf 12 = .ok (.ireturn, 1) := by decide +kernel
theorem dX5_wordOf_13 : decode cX5_wordOf 13 = .ok (.aload_n 0, 1) := by decide +kernel
theorem dX5_wordOf_14 : decode cX5_wordOf 14 = .ok (.iload_n 1, 1) := by decide +kernel
theorem dX5_wordOf_15 : decode cX5_wordOf 15 = .ok (.ldc 114, 2) := by decide +kernel
theorem dX5_wordOf_17 : decode cX5_wordOf 17 = .ok (.iconst 3, 1) := by decide +kernel
theorem dX5_wordOf_18 : decode cX5_wordOf 18 = .ok (.invokevirtual 111, 3) := by decide +kernel
theorem dX5_wordOf_21 : decode cX5_wordOf 21 = .ok (.ifCond .eq 5, 3) := by decide +kernel
theorem dX5_wordOf_24 : decode cX5_wordOf 24 = .ok (.iconst 1, 1) := by decide +kernel
theorem dX5_wordOf_25 : decode cX5_wordOf 25 = .ok (.ireturn, 1) := by decide +kernel
theorem dX5_wordOf_26 : decode cX5_wordOf 26 = .ok (.aload_n 0, 1) := by decide +kernel
theorem dX5_wordOf_27 : decode cX5_wordOf 27 = .ok (.iload_n 1, 1) := by decide +kernel
theorem dX5_wordOf_28 : decode cX5_wordOf 28 = .ok (.ldc 115, 2) := by decide +kernel
theorem dX5_wordOf_30 : decode cX5_wordOf 30 = .ok (.iconst 4, 1) := by decide +kernel
theorem dX5_wordOf_31 : decode cX5_wordOf 31 = .ok (.invokevirtual 111, 3) := by decide +kernel
theorem dX5_wordOf_34 : decode cX5_wordOf 34 = .ok (.ifCond .eq 5, 3) := by decide +kernel
theorem dX5_wordOf_37 : decode cX5_wordOf 37 = .ok (.iconst 2, 1) := by decide +kernel
theorem dX5_wordOf_38 : decode cX5_wordOf 38 = .ok (.ireturn, 1) := by decide +kernel
theorem dX5_wordOf_39 : decode cX5_wordOf 39 = .ok (.aload_n 0, 1) := by decide +kernel
theorem dX5_wordOf_40 : decode cX5_wordOf 40 = .ok (.iload_n 1, 1) := by decide +kernel
theorem dX5_wordOf_41 : decode cX5_wordOf 41 = .ok (.ldc 116, 2) := by decide +kernel
theorem dX5_wordOf_43 : decode cX5_wordOf 43 = .ok (.iconst 4, 1) := by decide +kernel
theorem dX5_wordOf_44 : decode cX5_wordOf 44 = .ok (.invokevirtual 111, 3) := by decide +kernel
theorem dX5_wordOf_47 : decode cX5_wordOf 47 = .ok (.ifCond .eq 5, 3) := by decide +kernel
theorem dX5_wordOf_50 : decode cX5_wordOf 50 = .ok (.iconst 3, 1) := by decide +kernel
theorem dX5_wordOf_51 : decode cX5_wordOf 51 = .ok (.ireturn, 1) := by decide +kernel
theorem dX5_wordOf_52 : decode cX5_wordOf 52 = .ok (.aload_n 0, 1) := by decide +kernel
theorem dX5_wordOf_53 : decode cX5_wordOf 53 = .ok (.iload_n 1, 1) := by decide +kernel
theorem dX5_wordOf_54 : decode cX5_wordOf 54 = .ok (.ldc 117, 2) := by decide +kernel
theorem dX5_wordOf_56 : decode cX5_wordOf 56 = .ok (.iconst 4, 1) := by decide +kernel
theorem dX5_wordOf_57 : decode cX5_wordOf 57 = .ok (.invokevirtual 111, 3) := by decide +kernel
theorem dX5_wordOf_60 : decode cX5_wordOf 60 = .ok (.ifCond .eq 7, 3) := by decide +kernel
theorem dX5_wordOf_63 : decode cX5_wordOf 63 = .ok (.iconst 4, 1) := by decide +kernel
theorem dX5_wordOf_64 : decode cX5_wordOf 64 = .ok (.goto 4, 3) := by decide +kernel
theorem dX5_wordOf_67 : decode cX5_wordOf 67 = .ok (.iconst (-1), 1) := by decide +kernel
theorem dX5_wordOf_68 : decode cX5_wordOf 68 = .ok (.ireturn, 1) := by decide +kernel
theorem dX5_readsCommand_0 : decode cX5_readsCommand 0 = .ok (.aload_n 0, 1) := by decide +kernel
theorem dX5_readsCommand_1 : decode cX5_readsCommand 1 = .ok (.getfield 88, 3) := by decide +kernel
theorem dX5_readsCommand_4 : decode cX5_readsCommand 4 = .ok (.istore_n 1, 1) := by decide +kernel
theorem dX5_readsCommand_5 : decode cX5_readsCommand 5 = .ok (.aload_n 0, 1) := by decide +kernel
theorem dX5_readsCommand_6 : decode cX5_readsCommand 6 = .ok (.invokevirtual 91, 3) := by decide +kernel
theorem dX5_readsCommand_9 : decode cX5_readsCommand 9 = .ok (.bipush 97, 2) := by decide +kernel
theorem dX5_readsCommand_11 : decode cX5_readsCommand 11 = .ok (.bipush 122, 2) := by decide +kernel
theorem dX5_readsCommand_13 : decode cX5_readsCommand 13 = .ok (.invokestatic 81, 3) := by decide +kernel
theorem dX5_readsCommand_16 : decode cX5_readsCommand 16 = .ok (.ifCond .eq 16, 3) := by decide +kernel
theorem dX5_readsCommand_19 : decode cX5_readsCommand 19 = .ok (.aload_n 0, 1) := by decide +kernel
theorem dX5_readsCommand_20 : decode cX5_readsCommand 20 = .ok (.dup, 1) := by decide +kernel
theorem dX5_readsCommand_21 : decode cX5_readsCommand 21 = .ok (.getfield 88, 3) := by decide +kernel
theorem dX5_readsCommand_24 : decode cX5_readsCommand 24 = .ok (.iconst 1, 1) := by decide +kernel
theorem dX5_readsCommand_25 : decode cX5_readsCommand 25 = .ok (.iadd, 1) := by decide +kernel
theorem dX5_readsCommand_26 : decode cX5_readsCommand 26 = .ok (.putfield 88, 3) := by decide +kernel
theorem dX5_readsCommand_29 : decode cX5_readsCommand 29 = .ok (.goto (-24), 3) := by decide +kernel
theorem dX5_readsCommand_32 : decode cX5_readsCommand 32 = .ok (.aload_n 0, 1) := by decide +kernel
theorem dX5_readsCommand_33 : decode cX5_readsCommand 33 = .ok (.iload_n 1, 1) := by decide +kernel
theorem dX5_readsCommand_34 : decode cX5_readsCommand 34 = .ok (.invokevirtual 118, 3) := by decide +kernel
theorem dX5_readsCommand_37 : decode cX5_readsCommand 37 = .ok (.istore_n 2, 1) := by decide +kernel
theorem dX5_readsCommand_38 : decode cX5_readsCommand 38 = .ok (.iload_n 2, 1) := by decide +kernel
theorem dX5_readsCommand_39 : decode cX5_readsCommand 39 = .ok (.iconst (-1), 1) := by decide +kernel
theorem dX5_readsCommand_40 : decode cX5_readsCommand 40 = .ok (.if_icmp .ne 9, 3) := by decide +kernel
theorem dX5_readsCommand_43 : decode cX5_readsCommand 43 = .ok (.aload_n 0, 1) := by decide +kernel
theorem dX5_readsCommand_44 : decode cX5_readsCommand 44 = .ok (.iload_n 1, 1) := by decide +kernel
theorem dX5_readsCommand_45 : decode cX5_readsCommand 45 = .ok (.invokevirtual 101, 3) := by decide +kernel
theorem dX5_readsCommand_48 : decode cX5_readsCommand 48 = .ok (.return_, 1) := by decide +kernel
theorem dX5_readsCommand_49 : decode cX5_readsCommand 49 = .ok (.aload_n 0, 1) := by decide +kernel
theorem dX5_readsCommand_50 : decode cX5_readsCommand 50 = .ok (.invokevirtual 104, 3) := by decide +kernel
theorem dX5_readsCommand_53 : decode cX5_readsCommand 53 = .ok (.aload_n 0, 1) := by decide +kernel
theorem dX5_readsCommand_54 : decode cX5_readsCommand 54 = .ok (.getfield 7, 3) := by decide +kernel
theorem dX5_readsCommand_57 : decode cX5_readsCommand 57 = .ok (.sipush 582, 3) := by decide +kernel
theorem dX5_readsCommand_60 : decode cX5_readsCommand 60 = .ok (.iaload, 1) := by decide +kernel
theorem dX5_readsCommand_61 : decode cX5_readsCommand 61 = .ok (.invokestatic 52, 3) := by decide +kernel
theorem dX5_readsCommand_64 : decode cX5_readsCommand 64 = .ok (.iconst 1, 1) := by decide +kernel
theorem dX5_readsCommand_65 : decode cX5_readsCommand 65 = .ok (.isub, 1) := by decide +kernel
theorem dX5_readsCommand_66 : decode cX5_readsCommand 66 = .ok (.istore_n 3, 1) := by decide +kernel
theorem dX5_readsCommand_67 : decode cX5_readsCommand 67 = .ok (.iconst 4, 1) := by decide +kernel
theorem dX5_readsCommand_68 : decode cX5_readsCommand 68 = .ok (.aload_n 0, 1) := by decide +kernel
theorem dX5_readsCommand_69 : decode cX5_readsCommand 69 = .ok (.getfield 121, 3) := by decide +kernel
theorem dX5_readsCommand_72 : decode cX5_readsCommand 72 = .ok (.imul, 1) := by decide +kernel
theorem dX5_readsCommand_73 : decode cX5_readsCommand 73 = .ok (.istore 4, 2) := by decide +kernel
theorem dX5_readsCommand_75 : decode cX5_readsCommand 75 = .ok (.aload_n 0, 1) := by decide +kernel
theorem dX5_readsCommand_76 : decode cX5_readsCommand 76 = .ok (.getfield 31, 3) := by decide +kernel
theorem dX5_readsCommand_79 : decode cX5_readsCommand 79 = .ok (.iload 4, 2) := by decide +kernel
theorem dX5_readsCommand_81 : decode cX5_readsCommand 81 = .ok (.iload_n 2, 1) := by decide +kernel
theorem dX5_readsCommand_82 : decode cX5_readsCommand 82 = .ok (.iastore, 1) := by decide +kernel
theorem dX5_readsCommand_83 : decode cX5_readsCommand 83 = .ok (.aload_n 0, 1) := by decide +kernel
theorem dX5_readsCommand_84 : decode cX5_readsCommand 84 = .ok (.getfield 31, 3) := by decide +kernel
theorem dX5_readsCommand_87 : decode cX5_readsCommand 87 = .ok (.iload 4, 2) := by decide +kernel
theorem dX5_readsCommand_89 : decode cX5_readsCommand 89 = .ok (.iconst 1, 1) := by decide +kernel
theorem dX5_readsCommand_90 : decode cX5_readsCommand 90 = .ok (.iadd, 1) := by decide +kernel
theorem dX5_readsCommand_91 : decode cX5_readsCommand 91 = .ok (.aload_n 0, 1) := by decide +kernel
theorem dX5_readsCommand_92 : decode cX5_readsCommand 92 = .ok (.iconst 0, 1) := by decide +kernel
theorem dX5_readsCommand_93 : decode cX5_readsCommand 93 = .ok (.iload_n 3, 1) := by decide +kernel
theorem dX5_readsCommand_94 : decode cX5_readsCommand 94 = .ok (.invokevirtual 107, 3) := by decide +kernel
theorem dX5_readsCommand_97 : decode cX5_readsCommand 97 = .ok (.iastore, 1) := by decide +kernel
theorem dX5_readsCommand_98 : decode cX5_readsCommand 98 = .ok (.aload_n 0, 1) := by decide +kernel
theorem dX5_readsCommand_99 : decode cX5_readsCommand 99 = .ok (.getfield 31, 3) := by decide +kernel
theorem dX5_readsCommand_102 : decode cX5_readsCommand 102 = .ok (.iload 4, 2) := by decide +kernel
theorem dX5_readsCommand_104 : decode cX5_readsCommand 104 = .ok (.iconst 2, 1) := by decide +kernel
theorem dX5_readsCommand_105 : decode cX5_readsCommand 105 = .ok (.iadd, 1) := by decide +kernel
theorem dX5_readsCommand_106 : decode cX5_readsCommand 106 = .ok (.iload_n 2, 1) := by decide +kernel
theorem dX5_readsCommand_107 : decode cX5_readsCommand 107 = .ok (.ifCond .ne 13, 3) := by decide +kernel
theorem dX5_readsCommand_110 : decode cX5_readsCommand 110 = .ok (.aload_n 0, 1) := by decide +kernel
theorem dX5_readsCommand_111 : decode cX5_readsCommand 111 = .ok (.iconst 0, 1) := by decide +kernel
theorem dX5_readsCommand_112 : decode cX5_readsCommand 112 = .ok (.bipush 99, 2) := by decide +kernel
theorem dX5_readsCommand_114 : decode cX5_readsCommand 114 = .ok (.invokevirtual 107, 3) := by decide +kernel
theorem dX5_readsCommand_117 : decode cX5_readsCommand 117 = .ok (.goto 38, 3) := by decide +kernel
theorem dX5_readsCommand_120 : decode cX5_readsCommand 120 = .ok (.iload_n 2, 1) := by decide +kernel
theorem dX5_readsCommand_121 : decode cX5_readsCommand 121 = .ok (.iconst 1, 1) := by decide +kernel
theorem dX5_readsCommand_122 : decode cX5_readsCommand 122 = .ok (.if_icmp .ne 10, 3) := by decide +kernel
theorem dX5_readsCommand_125 : decode cX5_readsCommand 125 = .ok (.aload_n 0, 1) := by decide +kernel
theorem dX5_readsCommand_126 : decode cX5_readsCommand 126 = .ok (.invokevirtual 124, 3) := by decide +kernel
theorem dX5_readsCommand_129 : decode cX5_readsCommand 129 = .ok (.goto 26, 3) := by decide +kernel
theorem dX5_readsCommand_132 : decode cX5_readsCommand 132 = .ok (.aload_n 0, 1) := by decide +kernel
theorem dX5_readsCommand_133 : decode cX5_readsCommand 133 = .ok (.iload_n 2, 1) := by decide +kernel
theorem dX5_readsCommand_134 : decode cX5_readsCommand 134 = .ok (.iconst 2, 1) := by decide +kernel
theorem dX5_readsCommand_135 : decode cX5_readsCommand 135 = .ok (.if_icmp .ne 7, 3) := by decide +kernel
theorem dX5_readsCommand_138 : decode cX5_readsCommand 138 = .ok (.iconst 0, 1) := by decide +kernel
theorem dX5_readsCommand_139 : decode cX5_readsCommand 139 = .ok (.goto 12, 3) := by decide +kernel
theorem dX5_readsCommand_142 : decode cX5_readsCommand 142 = .ok (.aload_n 0, 1) := by decide +kernel
theorem dX5_readsCommand_143 : decode cX5_readsCommand 143 = .ok (.getfield 31, 3) := by decide +kernel
theorem dX5_readsCommand_146 : decode cX5_readsCommand 146 = .ok (.iload 4, 2) := by decide +kernel
theorem dX5_readsCommand_148 : decode cX5_readsCommand 148 = .ok (.iconst 1, 1) := by decide +kernel
theorem dX5_readsCommand_149 : decode cX5_readsCommand 149 = .ok (.iadd, 1) := by decide +kernel
theorem dX5_readsCommand_150 : decode cX5_readsCommand 150 = .ok (.iaload, 1) := by decide +kernel
theorem dX5_readsCommand_151 : decode cX5_readsCommand 151 = .ok (.iload_n 3, 1) := by decide +kernel
theorem dX5_readsCommand_152 : decode cX5_readsCommand 152 = .ok (.invokevirtual 107, 3) := by decide +kernel
theorem dX5_readsCommand_155 : decode cX5_readsCommand 155 = .ok (.iastore, 1) := by decide +kernel
theorem dX5_readsCommand_156 : decode cX5_readsCommand 156 = .ok (.aload_n 0, 1) := by decide +kernel
theorem dX5_readsCommand_157 : decode cX5_readsCommand 157 = .ok (.getfield 31, 3) := by decide +kernel
theorem dX5_readsCommand_160 : decode cX5_readsCommand 160 = .ok (.iload 4, 2) := by decide +kernel
theorem dX5_readsCommand_162 : decode cX5_readsCommand 162 = .ok (.iconst 3, 1) := by decide +kernel
theorem dX5_readsCommand_163 : decode cX5_readsCommand 163 = .ok (.iadd, 1) := by decide +kernel
theorem dX5_readsCommand_164 : decode cX5_readsCommand 164 = .ok (.iload_n 2, 1) := by decide +kernel
theorem dX5_readsCommand_165 : decode cX5_readsCommand 165 = .ok (.iconst 3, 1) := by decide +kernel
theorem dX5_readsCommand_166 : decode cX5_readsCommand 166 = .ok (.if_icmp .ne 13, 3) := by decide +kernel
theorem dX5_readsCommand_169 : decode cX5_readsCommand 169 = .ok (.aload_n 0, 1) := by decide +kernel
theorem dX5_readsCommand_170 : decode cX5_readsCommand 170 = .ok (.iconst 0, 1) := by decide +kernel
theorem dX5_readsCommand_171 : decode cX5_readsCommand 171 = .ok (.bipush 99, 2) := by decide +kernel
theorem dX5_readsCommand_173 : decode cX5_readsCommand 173 = .ok (.invokevirtual 107, 3) := by decide +kernel
theorem dX5_readsCommand_176 : decode cX5_readsCommand 176 = .ok (.goto 4, 3) := by decide +kernel
theorem dX5_readsCommand_179 : decode cX5_readsCommand 179 = .ok (.iconst 0, 1) := by decide +kernel
theorem dX5_readsCommand_180 : decode cX5_readsCommand 180 = .ok (.iastore, 1) := by decide +kernel
theorem dX5_readsCommand_181 : decode cX5_readsCommand 181 = .ok (.aload_n 0, 1) := by decide +kernel
theorem dX5_readsCommand_182 : decode cX5_readsCommand 182 = .ok (.invokevirtual 91, 3) := by decide +kernel
theorem dX5_readsCommand_185 : decode cX5_readsCommand 185 = .ok (.bipush 59, 2) := by decide +kernel
theorem dX5_readsCommand_187 : decode cX5_readsCommand 187 = .ok (.if_icmp .ne 20, 3) := by decide +kernel
theorem dX5_readsCommand_190 : decode cX5_readsCommand 190 = .ok (.aload_n 0, 1) := by decide +kernel
theorem dX5_readsCommand_191 : decode cX5_readsCommand 191 = .ok (.dup, 1) := by decide +kernel
theorem dX5_readsCommand_192 : decode cX5_readsCommand 192 = .ok (.getfield 88, 3) := by decide +kernel
theorem dX5_readsCommand_195 : decode cX5_readsCommand 195 = .ok (.iconst 1, 1) := by decide +kernel
theorem dX5_readsCommand_196 : decode cX5_readsCommand 196 = .ok (.iadd, 1) := by decide +kernel
theorem dX5_readsCommand_197 : decode cX5_readsCommand 197 = .ok (.putfield 88, 3) := by decide +kernel
theorem dX5_readsCommand_200 : decode cX5_readsCommand 200 = .ok (.aload_n 0, 1) := by decide +kernel
theorem dX5_readsCommand_201 : decode cX5_readsCommand 201 = .ok (.invokevirtual 104, 3) := by decide +kernel
theorem dX5_readsCommand_204 : decode cX5_readsCommand 204 = .ok (.goto 11, 3) := by decide +kernel
theorem dX5_readsCommand_207 : decode cX5_readsCommand 207 = .ok (.aload_n 0, 1) := by decide +kernel
theorem dX5_readsCommand_208 : decode cX5_readsCommand 208 = .ok (.aload_n 0, 1) := by decide +kernel
theorem dX5_readsCommand_209 : decode cX5_readsCommand 209 = .ok (.getfield 88, 3) := by decide +kernel
theorem dX5_readsCommand_212 : decode cX5_readsCommand 212 = .ok (.invokevirtual 101, 3) := by decide +kernel
theorem dX5_readsCommand_215 : decode cX5_readsCommand 215 = .ok (.aload_n 0, 1) := by decide +kernel
theorem dX5_readsCommand_216 : decode cX5_readsCommand 216 = .ok (.dup, 1) := by decide +kernel
theorem dX5_readsCommand_217 : decode cX5_readsCommand 217 = .ok (.getfield 121, 3) := by decide +kernel
theorem dX5_readsCommand_220 : decode cX5_readsCommand 220 = .ok (.iconst 1, 1) := by decide +kernel
theorem dX5_readsCommand_221 : decode cX5_readsCommand 221 = .ok (.iadd, 1) := by decide +kernel
theorem dX5_readsCommand_222 : decode cX5_readsCommand 222 = .ok (.putfield 121, 3) := by decide +kernel
theorem dX5_readsCommand_225 : decode cX5_readsCommand 225 = .ok (.return_, 1) := by decide +kernel
theorem dX5_readsScript_0 : decode cX5_readsScript 0 = .ok (.aload_n 0, 1) := by decide +kernel
theorem dX5_readsScript_1 : decode cX5_readsScript 1 = .ok (.iconst 0, 1) := by decide +kernel
theorem dX5_readsScript_2 : decode cX5_readsScript 2 = .ok (.putfield 88, 3) := by decide +kernel
theorem dX5_readsScript_5 : decode cX5_readsScript 5 = .ok (.aload_n 0, 1) := by decide +kernel
theorem dX5_readsScript_6 : decode cX5_readsScript 6 = .ok (.iconst (-1), 1) := by decide +kernel
theorem dX5_readsScript_7 : decode cX5_readsScript 7 = .ok (.putfield 94, 3) := by decide +kernel
theorem dX5_readsScript_10 : decode cX5_readsScript 10 = .ok (.aload_n 0, 1) := by decide +kernel
theorem dX5_readsScript_11 : decode cX5_readsScript 11 = .ok (.iconst 0, 1) := by decide +kernel
theorem dX5_readsScript_12 : decode cX5_readsScript 12 = .ok (.putfield 121, 3) := by decide +kernel
theorem dX5_readsScript_15 : decode cX5_readsScript 15 = .ok (.aload_n 0, 1) := by decide +kernel
theorem dX5_readsScript_16 : decode cX5_readsScript 16 = .ok (.invokevirtual 104, 3) := by decide +kernel
theorem dX5_readsScript_19 : decode cX5_readsScript 19 = .ok (.aload_n 0, 1) := by decide +kernel
theorem dX5_readsScript_20 : decode cX5_readsScript 20 = .ok (.getfield 88, 3) := by decide +kernel
theorem dX5_readsScript_23 : decode cX5_readsScript 23 = .ok (.aload_n 0, 1) := by decide +kernel
theorem dX5_readsScript_24 : decode cX5_readsScript 24 = .ok (.getfield 85, 3) := by decide +kernel
theorem dX5_readsScript_27 : decode cX5_readsScript 27 = .ok (.if_icmp .ge 18, 3) := by decide +kernel
theorem dX5_readsScript_30 : decode cX5_readsScript 30 = .ok (.aload_n 0, 1) := by decide +kernel
theorem dX5_readsScript_31 : decode cX5_readsScript 31 = .ok (.getfield 94, 3) := by decide +kernel
theorem dX5_readsScript_34 : decode cX5_readsScript 34 = .ok (.iconst (-1), 1) := by decide +kernel
theorem dX5_readsScript_35 : decode cX5_readsScript 35 = .ok (.if_icmp .ne 10, 3) := by decide +kernel
theorem dX5_readsScript_38 : decode cX5_readsScript 38 = .ok (.aload_n 0, 1) := by decide +kernel
theorem dX5_readsScript_39 : decode cX5_readsScript 39 = .ok (.invokevirtual 127, 3) := by decide +kernel
theorem dX5_readsScript_42 : decode cX5_readsScript 42 = .ok (.goto (-23), 3) := by decide +kernel
theorem dX5_readsScript_45 : decode cX5_readsScript 45 = .ok (.return_, 1) := by decide +kernel
theorem dX5_turns_0 : decode cX5_turns 0 = .ok (.aload_n 0, 1) := by decide +kernel
theorem dX5_turns_1 : decode cX5_turns 1 = .ok (.getfield 7, 3) := by decide +kernel
theorem dX5_turns_4 : decode cX5_turns 4 = .ok (.sipush 583, 3) := by decide +kernel
theorem dX5_turns_7 : decode cX5_turns 7 = .ok (.iload_n 2, 1) := by decide +kernel
theorem dX5_turns_8 : decode cX5_turns 8 = .ok (.iadd, 1) := by decide +kernel
theorem dX5_turns_9 : decode cX5_turns 9 = .ok (.iaload, 1) := by decide +kernel
theorem dX5_turns_10 : decode cX5_turns 10 = .ok (.istore_n 3, 1) := by decide +kernel
theorem dX5_turns_11 : decode cX5_turns 11 = .ok (.iload_n 2, 1) := by decide +kernel
theorem dX5_turns_12 : decode cX5_turns 12 = .ok (.istore 4, 2) := by decide +kernel
theorem dX5_turns_14 : decode cX5_turns 14 = .ok (.iload 4, 2) := by decide +kernel
theorem dX5_turns_16 : decode cX5_turns 16 = .ok (.iload_n 1, 1) := by decide +kernel
theorem dX5_turns_17 : decode cX5_turns 17 = .ok (.if_icmp .le 33, 3) := by decide +kernel
theorem dX5_turns_20 : decode cX5_turns 20 = .ok (.aload_n 0, 1) := by decide +kernel
theorem dX5_turns_21 : decode cX5_turns 21 = .ok (.getfield 7, 3) := by decide +kernel
theorem dX5_turns_24 : decode cX5_turns 24 = .ok (.sipush 583, 3) := by decide +kernel
theorem dX5_turns_27 : decode cX5_turns 27 = .ok (.iload 4, 2) := by decide +kernel
theorem dX5_turns_29 : decode cX5_turns 29 = .ok (.iadd, 1) := by decide +kernel
theorem dX5_turns_30 : decode cX5_turns 30 = .ok (.aload_n 0, 1) := by decide +kernel
theorem dX5_turns_31 : decode cX5_turns 31 = .ok (.getfield 7, 3) := by decide +kernel
theorem dX5_turns_34 : decode cX5_turns 34 = .ok (.sipush 583, 3) := by decide +kernel
theorem dX5_turns_37 : decode cX5_turns 37 = .ok (.iload 4, 2) := by decide +kernel
theorem dX5_turns_39 : decode cX5_turns 39 = .ok (.iadd, 1) := by decide +kernel
theorem dX5_turns_40 : decode cX5_turns 40 = .ok (.iconst 1, 1) := by decide +kernel
theorem dX5_turns_41 : decode cX5_turns 41 = .ok (.isub, 1) := by decide +kernel
theorem dX5_turns_42 : decode cX5_turns 42 = .ok (.iaload, 1) := by decide +kernel
theorem dX5_turns_43 : decode cX5_turns 43 = .ok (.iastore, 1) := by decide +kernel
theorem dX5_turns_44 : decode cX5_turns 44 = .ok (.iinc 4 (-1), 3) := by decide +kernel
theorem dX5_turns_47 : decode cX5_turns 47 = .ok (.goto (-33), 3) := by decide +kernel
theorem dX5_turns_50 : decode cX5_turns 50 = .ok (.aload_n 0, 1) := by decide +kernel
theorem dX5_turns_51 : decode cX5_turns 51 = .ok (.getfield 7, 3) := by decide +kernel
theorem dX5_turns_54 : decode cX5_turns 54 = .ok (.sipush 583, 3) := by decide +kernel
theorem dX5_turns_57 : decode cX5_turns 57 = .ok (.iload_n 1, 1) := by decide +kernel
theorem dX5_turns_58 : decode cX5_turns 58 = .ok (.iadd, 1) := by decide +kernel
theorem dX5_turns_59 : decode cX5_turns 59 = .ok (.iload_n 3, 1) := by decide +kernel
theorem dX5_turns_60 : decode cX5_turns 60 = .ok (.iastore, 1) := by decide +kernel
theorem dX5_turns_61 : decode cX5_turns 61 = .ok (.return_, 1) := by decide +kernel
theorem dX5_does_0 : decode cX5_does 0 = .ok (.aload_n 0, 1) := by decide +kernel
theorem dX5_does_1 : decode cX5_does 1 = .ok (.getfield 31, 3) := by decide +kernel
theorem dX5_does_4 : decode cX5_does 4 = .ok (.iload_n 1, 1) := by decide +kernel
theorem dX5_does_5 : decode cX5_does 5 = .ok (.iconst 1, 1) := by decide +kernel
theorem dX5_does_6 : decode cX5_does 6 = .ok (.iadd, 1) := by decide +kernel
theorem dX5_does_7 : decode cX5_does 7 = .ok (.iaload, 1) := by decide +kernel
theorem dX5_does_8 : decode cX5_does 8 = .ok (.istore_n 2, 1) := by decide +kernel
theorem dX5_does_9 : decode cX5_does 9 = .ok (.aload_n 0, 1) := by decide +kernel
theorem dX5_does_10 : decode cX5_does 10 = .ok (.getfield 31, 3) := by decide +kernel
theorem dX5_does_13 : decode cX5_does 13 = .ok (.iload_n 1, 1) := by decide +kernel
theorem dX5_does_14 : decode cX5_does 14 = .ok (.iconst 2, 1) := by decide +kernel
theorem dX5_does_15 : decode cX5_does 15 = .ok (.iadd, 1) := by decide +kernel
theorem dX5_does_16 : decode cX5_does 16 = .ok (.iaload, 1) := by decide +kernel
theorem dX5_does_17 : decode cX5_does 17 = .ok (.istore_n 3, 1) := by decide +kernel
theorem dX5_does_18 : decode cX5_does 18 = .ok (.aload_n 0, 1) := by decide +kernel
theorem dX5_does_19 : decode cX5_does 19 = .ok (.getfield 31, 3) := by decide +kernel
theorem dX5_does_22 : decode cX5_does 22 = .ok (.iload_n 1, 1) := by decide +kernel
theorem dX5_does_23 : decode cX5_does 23 = .ok (.iaload, 1) := by decide +kernel
theorem dX5_does_24 : decode cX5_does 24 = .ok (.tableswitch 180 0 3 #[32, 46, 96, 143], 32) := by decide +kernel
theorem dX5_does_56 : decode cX5_does 56 = .ok (.aload_n 0, 1) := by decide +kernel
theorem dX5_does_57 : decode cX5_does 57 = .ok (.getfield 7, 3) := by decide +kernel
theorem dX5_does_60 : decode cX5_does 60 = .ok (.sipush 583, 3) := by decide +kernel
theorem dX5_does_63 : decode cX5_does 63 = .ok (.iload_n 2, 1) := by decide +kernel
theorem dX5_does_64 : decode cX5_does 64 = .ok (.iadd, 1) := by decide +kernel
theorem dX5_does_65 : decode cX5_does 65 = .ok (.iload_n 3, 1) := by decide +kernel
theorem dX5_does_66 : decode cX5_does 66 = .ok (.iastore, 1) := by decide +kernel
theorem dX5_does_67 : decode cX5_does 67 = .ok (.goto 143, 3) := by decide +kernel
theorem dX5_does_70 : decode cX5_does 70 = .ok (.aload_n 0, 1) := by decide +kernel
theorem dX5_does_71 : decode cX5_does 71 = .ok (.getfield 7, 3) := by decide +kernel
theorem dX5_does_74 : decode cX5_does 74 = .ok (.sipush 583, 3) := by decide +kernel
theorem dX5_does_77 : decode cX5_does 77 = .ok (.iload_n 2, 1) := by decide +kernel
theorem dX5_does_78 : decode cX5_does 78 = .ok (.iadd, 1) := by decide +kernel
theorem dX5_does_79 : decode cX5_does 79 = .ok (.iaload, 1) := by decide +kernel
theorem dX5_does_80 : decode cX5_does 80 = .ok (.iload_n 3, 1) := by decide +kernel
theorem dX5_does_81 : decode cX5_does 81 = .ok (.iadd, 1) := by decide +kernel
theorem dX5_does_82 : decode cX5_does 82 = .ok (.istore 4, 2) := by decide +kernel
theorem dX5_does_84 : decode cX5_does 84 = .ok (.aload_n 0, 1) := by decide +kernel
theorem dX5_does_85 : decode cX5_does 85 = .ok (.getfield 7, 3) := by decide +kernel
theorem dX5_does_88 : decode cX5_does 88 = .ok (.sipush 583, 3) := by decide +kernel
theorem dX5_does_91 : decode cX5_does 91 = .ok (.iload_n 2, 1) := by decide +kernel
theorem dX5_does_92 : decode cX5_does 92 = .ok (.iadd, 1) := by decide +kernel
theorem dX5_does_93 : decode cX5_does 93 = .ok (.iload 4, 2) := by decide +kernel
theorem dX5_does_95 : decode cX5_does 95 = .ok (.ifCond .ge 7, 3) := by decide +kernel
theorem dX5_does_98 : decode cX5_does 98 = .ok (.iconst 0, 1) := by decide +kernel
theorem dX5_does_99 : decode cX5_does 99 = .ok (.goto 17, 3) := by decide +kernel
theorem dX5_does_102 : decode cX5_does 102 = .ok (.iload 4, 2) := by decide +kernel
theorem dX5_does_104 : decode cX5_does 104 = .ok (.bipush 99, 2) := by decide +kernel
theorem dX5_does_106 : decode cX5_does 106 = .ok (.if_icmp .le 8, 3) := by decide +kernel
theorem dX5_does_109 : decode cX5_does 109 = .ok (.bipush 99, 2) := by decide +kernel
theorem dX5_does_111 : decode cX5_does 111 = .ok (.goto 5, 3) := by decide +kernel
theorem dX5_does_114 : decode cX5_does 114 = .ok (.iload 4, 2) := by decide +kernel
theorem dX5_does_116 : decode cX5_does 116 = .ok (.iastore, 1) := by decide +kernel
theorem dX5_does_117 : decode cX5_does 117 = .ok (.goto 93, 3) := by decide +kernel
theorem dX5_does_120 : decode cX5_does 120 = .ok (.aload_n 0, 1) := by decide +kernel
theorem dX5_does_121 : decode cX5_does 121 = .ok (.getfield 7, 3) := by decide +kernel
theorem dX5_does_124 : decode cX5_does 124 = .ok (.sipush 583, 3) := by decide +kernel
theorem dX5_does_127 : decode cX5_does 127 = .ok (.iload_n 2, 1) := by decide +kernel
theorem dX5_does_128 : decode cX5_does 128 = .ok (.iadd, 1) := by decide +kernel
theorem dX5_does_129 : decode cX5_does 129 = .ok (.iaload, 1) := by decide +kernel
theorem dX5_does_130 : decode cX5_does 130 = .ok (.istore 4, 2) := by decide +kernel
theorem dX5_does_132 : decode cX5_does 132 = .ok (.aload_n 0, 1) := by decide +kernel
theorem dX5_does_133 : decode cX5_does 133 = .ok (.getfield 7, 3) := by decide +kernel
theorem dX5_does_136 : decode cX5_does 136 = .ok (.sipush 583, 3) := by decide +kernel
theorem dX5_does_139 : decode cX5_does 139 = .ok (.iload_n 2, 1) := by decide +kernel
theorem dX5_does_140 : decode cX5_does 140 = .ok (.iadd, 1) := by decide +kernel
theorem dX5_does_141 : decode cX5_does 141 = .ok (.aload_n 0, 1) := by decide +kernel
theorem dX5_does_142 : decode cX5_does 142 = .ok (.getfield 7, 3) := by decide +kernel
theorem dX5_does_145 : decode cX5_does 145 = .ok (.sipush 583, 3) := by decide +kernel
theorem dX5_does_148 : decode cX5_does 148 = .ok (.iload_n 3, 1) := by decide +kernel
theorem dX5_does_149 : decode cX5_does 149 = .ok (.iadd, 1) := by decide +kernel
theorem dX5_does_150 : decode cX5_does 150 = .ok (.iaload, 1) := by decide +kernel
theorem dX5_does_151 : decode cX5_does 151 = .ok (.iastore, 1) := by decide +kernel
theorem dX5_does_152 : decode cX5_does 152 = .ok (.aload_n 0, 1) := by decide +kernel
theorem dX5_does_153 : decode cX5_does 153 = .ok (.getfield 7, 3) := by decide +kernel
theorem dX5_does_156 : decode cX5_does 156 = .ok (.sipush 583, 3) := by decide +kernel
theorem dX5_does_159 : decode cX5_does 159 = .ok (.iload_n 3, 1) := by decide +kernel
theorem dX5_does_160 : decode cX5_does 160 = .ok (.iadd, 1) := by decide +kernel
theorem dX5_does_161 : decode cX5_does 161 = .ok (.iload 4, 2) := by decide +kernel
theorem dX5_does_163 : decode cX5_does 163 = .ok (.iastore, 1) := by decide +kernel
theorem dX5_does_164 : decode cX5_does 164 = .ok (.goto 46, 3) := by decide +kernel
theorem dX5_does_167 : decode cX5_does 167 = .ok (.iload_n 2, 1) := by decide +kernel
theorem dX5_does_168 : decode cX5_does 168 = .ok (.istore 4, 2) := by decide +kernel
theorem dX5_does_170 : decode cX5_does 170 = .ok (.iload 4, 2) := by decide +kernel
theorem dX5_does_172 : decode cX5_does 172 = .ok (.iload_n 3, 1) := by decide +kernel
theorem dX5_does_173 : decode cX5_does 173 = .ok (.if_icmp .gt 28, 3) := by decide +kernel
theorem dX5_does_176 : decode cX5_does 176 = .ok (.aload_n 0, 1) := by decide +kernel
theorem dX5_does_177 : decode cX5_does 177 = .ok (.getfield 7, 3) := by decide +kernel
theorem dX5_does_180 : decode cX5_does 180 = .ok (.sipush 583, 3) := by decide +kernel
theorem dX5_does_183 : decode cX5_does 183 = .ok (.iload 4, 2) := by decide +kernel
theorem dX5_does_185 : decode cX5_does 185 = .ok (.iadd, 1) := by decide +kernel
theorem dX5_does_186 : decode cX5_does 186 = .ok (.aload_n 0, 1) := by decide +kernel
theorem dX5_does_187 : decode cX5_does 187 = .ok (.getfield 31, 3) := by decide +kernel
theorem dX5_does_190 : decode cX5_does 190 = .ok (.iload_n 1, 1) := by decide +kernel
theorem dX5_does_191 : decode cX5_does 191 = .ok (.iconst 3, 1) := by decide +kernel
theorem dX5_does_192 : decode cX5_does 192 = .ok (.iadd, 1) := by decide +kernel
theorem dX5_does_193 : decode cX5_does 193 = .ok (.iaload, 1) := by decide +kernel
theorem dX5_does_194 : decode cX5_does 194 = .ok (.iastore, 1) := by decide +kernel
theorem dX5_does_195 : decode cX5_does 195 = .ok (.iinc 4 1, 3) := by decide +kernel
theorem dX5_does_198 : decode cX5_does 198 = .ok (.goto (-28), 3) := by decide +kernel
theorem dX5_does_201 : decode cX5_does 201 = .ok (.goto 9, 3) := by decide +kernel
theorem dX5_does_204 : decode cX5_does 204 = .ok (.aload_n 0, 1) := by decide +kernel
theorem dX5_does_205 : decode cX5_does 205 = .ok (.iload_n 2, 1) := by decide +kernel
theorem dX5_does_206 : decode cX5_does 206 = .ok (.iload_n 3, 1) := by decide +kernel
theorem dX5_does_207 : decode cX5_does 207 = .ok (.invokevirtual 130, 3) := by decide +kernel
theorem dX5_does_210 : decode cX5_does 210 = .ok (.return_, 1) := by decide +kernel
theorem dX5_play_0 : decode cX5_play 0 = .ok (.aload_n 0, 1) := by decide +kernel
theorem dX5_play_1 : decode cX5_play 1 = .ok (.invokevirtual 134, 3) := by decide +kernel
theorem dX5_play_4 : decode cX5_play 4 = .ok (.aload_n 0, 1) := by decide +kernel
theorem dX5_play_5 : decode cX5_play 5 = .ok (.getfield 94, 3) := by decide +kernel
theorem dX5_play_8 : decode cX5_play 8 = .ok (.iconst (-1), 1) := by decide +kernel
theorem dX5_play_9 : decode cX5_play 9 = .ok (.if_icmp .eq 12, 3) := by decide +kernel
theorem dX5_play_12 : decode cX5_play 12 = .ok (.sipush (-2000), 3) := by decide +kernel
theorem dX5_play_15 : decode cX5_play 15 = .ok (.aload_n 0, 1) := by decide +kernel
theorem dX5_play_16 : decode cX5_play 16 = .ok (.getfield 94, 3) := by decide +kernel
theorem dX5_play_19 : decode cX5_play 19 = .ok (.isub, 1) := by decide +kernel
theorem dX5_play_20 : decode cX5_play 20 = .ok (.ireturn, 1) := by decide +kernel
theorem dX5_play_21 : decode cX5_play 21 = .ok (.aload_n 0, 1) := by decide +kernel
theorem dX5_play_22 : decode cX5_play 22 = .ok (.invokevirtual 137, 3) := by decide +kernel
theorem dX5_play_25 : decode cX5_play 25 = .ok (.iconst 0, 1) := by decide +kernel
theorem dX5_play_26 : decode cX5_play 26 = .ok (.istore_n 1, 1) := by decide +kernel
theorem dX5_play_27 : decode cX5_play 27 = .ok (.iload_n 1, 1) := by decide +kernel
theorem dX5_play_28 : decode cX5_play 28 = .ok (.aload_n 0, 1) := by decide +kernel
theorem dX5_play_29 : decode cX5_play 29 = .ok (.getfield 121, 3) := by decide +kernel
theorem dX5_play_32 : decode cX5_play 32 = .ok (.if_icmp .ge 16, 3) := by decide +kernel
theorem dX5_play_35 : decode cX5_play 35 = .ok (.aload_n 0, 1) := by decide +kernel
theorem dX5_play_36 : decode cX5_play 36 = .ok (.iconst 4, 1) := by decide +kernel
theorem dX5_play_37 : decode cX5_play 37 = .ok (.iload_n 1, 1) := by decide +kernel
theorem dX5_play_38 : decode cX5_play 38 = .ok (.imul, 1) := by decide +kernel
theorem dX5_play_39 : decode cX5_play 39 = .ok (.invokevirtual 140, 3) := by decide +kernel
theorem dX5_play_42 : decode cX5_play 42 = .ok (.iinc 1 1, 3) := by decide +kernel
theorem dX5_play_45 : decode cX5_play 45 = .ok (.goto (-18), 3) := by decide +kernel
theorem dX5_play_48 : decode cX5_play 48 = .ok (.aload_n 0, 1) := by decide +kernel
theorem dX5_play_49 : decode cX5_play 49 = .ok (.getfield 121, 3) := by decide +kernel
theorem dX5_play_52 : decode cX5_play 52 = .ok (.ireturn, 1) := by decide +kernel
theorem dX5_raise_0 : decode cX5_raise 0 = .ok (.aload_n 0, 1) := by decide +kernel
theorem dX5_raise_1 : decode cX5_raise 1 = .ok (.getfield 7, 3) := by decide +kernel
theorem dX5_raise_4 : decode cX5_raise 4 = .ok (.sipush 582, 3) := by decide +kernel
theorem dX5_raise_7 : decode cX5_raise 7 = .ok (.iaload, 1) := by decide +kernel
theorem dX5_raise_8 : decode cX5_raise 8 = .ok (.iconst 3, 1) := by decide +kernel
theorem dX5_raise_9 : decode cX5_raise 9 = .ok (.if_icmp .ne 6, 3) := by decide +kernel
theorem dX5_raise_12 : decode cX5_raise 12 = .ok (.bipush (-3), 2) := by decide +kernel
theorem dX5_raise_14 : decode cX5_raise 14 = .ok (.ireturn, 1) := by decide +kernel
theorem dX5_raise_15 : decode cX5_raise 15 = .ok (.aload_n 0, 1) := by decide +kernel
theorem dX5_raise_16 : decode cX5_raise 16 = .ok (.invokevirtual 137, 3) := by decide +kernel
theorem dX5_raise_19 : decode cX5_raise 19 = .ok (.aload_n 0, 1) := by decide +kernel
theorem dX5_raise_20 : decode cX5_raise 20 = .ok (.invokevirtual 143, 3) := by decide +kernel
theorem dX5_raise_23 : decode cX5_raise 23 = .ok (.aload_n 0, 1) := by decide +kernel
theorem dX5_raise_24 : decode cX5_raise 24 = .ok (.invokevirtual 49, 3) := by decide +kernel
theorem dX5_raise_27 : decode cX5_raise 27 = .ok (.aload_n 0, 1) := by decide +kernel
theorem dX5_raise_28 : decode cX5_raise 28 = .ok (.invokevirtual 146, 3) := by decide +kernel
theorem dX5_raise_31 : decode cX5_raise 31 = .ok (.aload_n 0, 1) := by decide +kernel
theorem dX5_raise_32 : decode cX5_raise 32 = .ok (.getfield 46, 3) := by decide +kernel
theorem dX5_raise_35 : decode cX5_raise 35 = .ok (.ireturn, 1) := by decide +kernel
theorem dX5_isNear_0 : decode cX5_isNear 0 = .ok (.aload_n 0, 1) := by decide +kernel
theorem dX5_isNear_1 : decode cX5_isNear 1 = .ok (.invokevirtual 143, 3) := by decide +kernel
theorem dX5_isNear_4 : decode cX5_isNear 4 = .ok (.aload_n 0, 1) := by decide +kernel
theorem dX5_isNear_5 : decode cX5_isNear 5 = .ok (.invokevirtual 149, 3) := by decide +kernel
theorem dX5_isNear_8 : decode cX5_isNear 8 = .ok (.aload_n 0, 1) := by decide +kernel
theorem dX5_isNear_9 : decode cX5_isNear 9 = .ok (.getfield 7, 3) := by decide +kernel
theorem dX5_isNear_12 : decode cX5_isNear 12 = .ok (.sipush 595, 3) := by decide +kernel
theorem dX5_isNear_15 : decode cX5_isNear 15 = .ok (.iaload, 1) := by decide +kernel
theorem dX5_isNear_16 : decode cX5_isNear 16 = .ok (.iconst (-1), 1) := by decide +kernel
theorem dX5_isNear_17 : decode cX5_isNear 17 = .ok (.if_icmp .eq 33, 3) := by decide +kernel
theorem dX5_isNear_20 : decode cX5_isNear 20 = .ok (.aload_n 0, 1) := by decide +kernel
theorem dX5_isNear_21 : decode cX5_isNear 21 = .ok (.aload_n 0, 1) := by decide +kernel
theorem dX5_isNear_22 : decode cX5_isNear 22 = .ok (.getfield 7, 3) := by decide +kernel
theorem dX5_isNear_25 : decode cX5_isNear 25 = .ok (.sipush 595, 3) := by decide +kernel
theorem dX5_isNear_28 : decode cX5_isNear 28 = .ok (.iaload, 1) := by decide +kernel
theorem dX5_isNear_29 : decode cX5_isNear 29 = .ok (.invokevirtual 152, 3) := by decide +kernel
theorem dX5_isNear_32 : decode cX5_isNear 32 = .ok (.ifCond .eq 18, 3) := by decide +kernel
theorem dX5_isNear_35 : decode cX5_isNear 35 = .ok (.aload_n 0, 1) := by decide +kernel
theorem dX5_isNear_36 : decode cX5_isNear 36 = .ok (.getfield 56, 3) := by decide +kernel
theorem dX5_isNear_39 : decode cX5_isNear 39 = .ok (.aload_n 0, 1) := by decide +kernel
theorem dX5_isNear_40 : decode cX5_isNear 40 = .ok (.getfield 7, 3) := by decide +kernel
theorem dX5_isNear_43 : decode cX5_isNear 43 = .ok (.sipush 596, 3) := by decide +kernel
theorem dX5_isNear_46 : decode cX5_isNear 46 = .ok (.iaload, 1) := by decide +kernel
theorem dX5_isNear_47 : decode cX5_isNear 47 = .ok (.if_icmp .lt 5, 3) := by decide +kernel
theorem dX5_isNear_50 : decode cX5_isNear 50 = .ok (.iconst 0, 1) := by decide +kernel
theorem dX5_isNear_51 : decode cX5_isNear 51 = .ok (.ireturn, 1) := by decide +kernel
theorem dX5_isNear_52 : decode cX5_isNear 52 = .ok (.aload_n 0, 1) := by decide +kernel
theorem dX5_isNear_53 : decode cX5_isNear 53 = .ok (.aload_n 0, 1) := by decide +kernel
theorem dX5_isNear_54 : decode cX5_isNear 54 = .ok (.getfield 7, 3) := by decide +kernel
theorem dX5_isNear_57 : decode cX5_isNear 57 = .ok (.sipush 582, 3) := by decide +kernel
theorem dX5_isNear_60 : decode cX5_isNear 60 = .ok (.iaload, 1) := by decide +kernel
theorem dX5_isNear_61 : decode cX5_isNear 61 = .ok (.invokevirtual 70, 3) := by decide +kernel
theorem dX5_isNear_64 : decode cX5_isNear 64 = .ok (.aload_n 0, 1) := by decide +kernel
theorem dX5_isNear_65 : decode cX5_isNear 65 = .ok (.aload_n 0, 1) := by decide +kernel
theorem dX5_isNear_66 : decode cX5_isNear 66 = .ok (.getfield 46, 3) := by decide +kernel
theorem dX5_isNear_69 : decode cX5_isNear 69 = .ok (.invokestatic 52, 3) := by decide +kernel
theorem dX5_isNear_72 : decode cX5_isNear 72 = .ok (.invokevirtual 155, 3) := by decide +kernel
theorem dX5_isNear_75 : decode cX5_isNear 75 = .ok (.bipush 6, 2) := by decide +kernel
theorem dX5_isNear_77 : decode cX5_isNear 77 = .ok (.if_icmp .gt 7, 3) := by decide +kernel
theorem dX5_isNear_80 : decode cX5_isNear 80 = .ok (.iconst 1, 1) := by decide +kernel
theorem dX5_isNear_81 : decode cX5_isNear 81 = .ok (.goto 4, 3) := by decide +kernel
theorem dX5_isNear_84 : decode cX5_isNear 84 = .ok (.iconst 0, 1) := by decide +kernel
theorem dX5_isNear_85 : decode cX5_isNear 85 = .ok (.ireturn, 1) := by decide +kernel
theorem dX5_keep_0 : decode cX5_keep 0 = .ok (.aload_n 0, 1) := by decide +kernel
theorem dX5_keep_1 : decode cX5_keep 1 = .ok (.getfield 7, 3) := by decide +kernel
theorem dX5_keep_4 : decode cX5_keep 4 = .ok (.sipush 580, 3) := by decide +kernel
theorem dX5_keep_7 : decode cX5_keep 7 = .ok (.iaload, 1) := by decide +kernel
theorem dX5_keep_8 : decode cX5_keep 8 = .ok (.bipush 20, 2) := by decide +kernel
theorem dX5_keep_10 : decode cX5_keep 10 = .ok (.if_icmp .eq 16, 3) := by decide +kernel
theorem dX5_keep_13 : decode cX5_keep 13 = .ok (.aload_n 0, 1) := by decide +kernel
theorem dX5_keep_14 : decode cX5_keep 14 = .ok (.getfield 7, 3) := by decide +kernel
theorem dX5_keep_17 : decode cX5_keep 17 = .ok (.sipush 581, 3) := by decide +kernel
theorem dX5_keep_20 : decode cX5_keep 20 = .ok (.iaload, 1) := by decide +kernel
theorem dX5_keep_21 : decode cX5_keep 21 = .ok (.bipush 99, 2) := by decide +kernel
theorem dX5_keep_23 : decode cX5_keep 23 = .ok (.if_icmp .ne 6, 3) := by decide +kernel
theorem dX5_keep_26 : decode cX5_keep 26 = .ok (.bipush (-4), 2) := by decide +kernel
theorem dX5_keep_28 : decode cX5_keep 28 = .ok (.ireturn, 1) := by decide +kernel
theorem dX5_keep_29 : decode cX5_keep 29 = .ok (.aload_n 0, 1) := by decide +kernel
theorem dX5_keep_30 : decode cX5_keep 30 = .ok (.invokevirtual 137, 3) := by decide +kernel
theorem dX5_keep_33 : decode cX5_keep 33 = .ok (.aload_n 0, 1) := by decide +kernel
theorem dX5_keep_34 : decode cX5_keep 34 = .ok (.invokevirtual 143, 3) := by decide +kernel
theorem dX5_keep_37 : decode cX5_keep 37 = .ok (.aload_n 0, 1) := by decide +kernel
theorem dX5_keep_38 : decode cX5_keep 38 = .ok (.invokevirtual 73, 3) := by decide +kernel
theorem dX5_keep_41 : decode cX5_keep 41 = .ok (.istore_n 1, 1) := by decide +kernel
theorem dX5_keep_42 : decode cX5_keep 42 = .ok (.aload_n 0, 1) := by decide +kernel
theorem dX5_keep_43 : decode cX5_keep 43 = .ok (.invokevirtual 158, 3) := by decide +kernel
theorem dX5_keep_46 : decode cX5_keep 46 = .ok (.istore_n 2, 1) := by decide +kernel
theorem dX5_keep_47 : decode cX5_keep 47 = .ok (.aload_n 0, 1) := by decide +kernel
theorem dX5_keep_48 : decode cX5_keep 48 = .ok (.getfield 7, 3) := by decide +kernel
theorem dX5_keep_51 : decode cX5_keep 51 = .ok (.sipush 580, 3) := by decide +kernel
theorem dX5_keep_54 : decode cX5_keep 54 = .ok (.iaload, 1) := by decide +kernel
theorem dX5_keep_55 : decode cX5_keep 55 = .ok (.istore_n 3, 1) := by decide +kernel
theorem dX5_keep_56 : decode cX5_keep 56 = .ok (.aload_n 0, 1) := by decide +kernel
theorem dX5_keep_57 : decode cX5_keep 57 = .ok (.iload_n 3, 1) := by decide +kernel
theorem dX5_keep_58 : decode cX5_keep 58 = .ok (.iconst 0, 1) := by decide +kernel
theorem dX5_keep_59 : decode cX5_keep 59 = .ok (.aload_n 0, 1) := by decide +kernel
theorem dX5_keep_60 : decode cX5_keep 60 = .ok (.getfield 7, 3) := by decide +kernel
theorem dX5_keep_63 : decode cX5_keep 63 = .ok (.sipush 581, 3) := by decide +kernel
theorem dX5_keep_66 : decode cX5_keep 66 = .ok (.iaload, 1) := by decide +kernel
theorem dX5_keep_67 : decode cX5_keep 67 = .ok (.invokevirtual 77, 3) := by decide +kernel
theorem dX5_keep_70 : decode cX5_keep 70 = .ok (.aload_n 0, 1) := by decide +kernel
theorem dX5_keep_71 : decode cX5_keep 71 = .ok (.iload_n 3, 1) := by decide +kernel
theorem dX5_keep_72 : decode cX5_keep 72 = .ok (.iconst 1, 1) := by decide +kernel
theorem dX5_keep_73 : decode cX5_keep 73 = .ok (.aload_n 0, 1) := by decide +kernel
theorem dX5_keep_74 : decode cX5_keep 74 = .ok (.getfield 7, 3) := by decide +kernel
theorem dX5_keep_77 : decode cX5_keep 77 = .ok (.sipush 582, 3) := by decide +kernel
theorem dX5_keep_80 : decode cX5_keep 80 = .ok (.iaload, 1) := by decide +kernel
theorem dX5_keep_81 : decode cX5_keep 81 = .ok (.invokevirtual 77, 3) := by decide +kernel
theorem dX5_keep_84 : decode cX5_keep 84 = .ok (.aload_n 0, 1) := by decide +kernel
theorem dX5_keep_85 : decode cX5_keep 85 = .ok (.iload_n 3, 1) := by decide +kernel
theorem dX5_keep_86 : decode cX5_keep 86 = .ok (.iconst 2, 1) := by decide +kernel
theorem dX5_keep_87 : decode cX5_keep 87 = .ok (.iload_n 1, 1) := by decide +kernel
theorem dX5_keep_88 : decode cX5_keep 88 = .ok (.invokevirtual 77, 3) := by decide +kernel
theorem dX5_keep_91 : decode cX5_keep 91 = .ok (.iload_n 2, 1) := by decide +kernel
theorem dX5_keep_92 : decode cX5_keep 92 = .ok (.ifCond .eq 19, 3) := by decide +kernel
theorem dX5_keep_95 : decode cX5_keep 95 = .ok (.aload_n 0, 1) := by decide +kernel
theorem dX5_keep_96 : decode cX5_keep 96 = .ok (.iload_n 3, 1) := by decide +kernel
theorem dX5_keep_97 : decode cX5_keep 97 = .ok (.aload_n 0, 1) := by decide +kernel
theorem dX5_keep_98 : decode cX5_keep 98 = .ok (.getfield 7, 3) := by decide +kernel
theorem dX5_keep_101 : decode cX5_keep 101 = .ok (.sipush 595, 3) := by decide +kernel
theorem dX5_keep_104 : decode cX5_keep 104 = .ok (.iaload, 1) := by decide +kernel
theorem dX5_keep_105 : decode cX5_keep 105 = .ok (.invokevirtual 161, 3) := by decide +kernel
theorem dX5_keep_108 : decode cX5_keep 108 = .ok (.goto 8, 3) := by decide +kernel
theorem dX5_keep_111 : decode cX5_keep 111 = .ok (.aload_n 0, 1) := by decide +kernel
theorem dX5_keep_112 : decode cX5_keep 112 = .ok (.iload_n 3, 1) := by decide +kernel
theorem dX5_keep_113 : decode cX5_keep 113 = .ok (.invokevirtual 164, 3) := by decide +kernel
theorem dX5_keep_116 : decode cX5_keep 116 = .ok (.aload_n 0, 1) := by decide +kernel
theorem dX5_keep_117 : decode cX5_keep 117 = .ok (.getfield 7, 3) := by decide +kernel
theorem dX5_keep_120 : decode cX5_keep 120 = .ok (.sipush 580, 3) := by decide +kernel
theorem dX5_keep_123 : decode cX5_keep 123 = .ok (.dup2, 1) := by decide +kernel
theorem dX5_keep_124 : decode cX5_keep 124 = .ok (.iaload, 1) := by decide +kernel
theorem dX5_keep_125 : decode cX5_keep 125 = .ok (.iconst 1, 1) := by decide +kernel
theorem dX5_keep_126 : decode cX5_keep 126 = .ok (.iadd, 1) := by decide +kernel
theorem dX5_keep_127 : decode cX5_keep 127 = .ok (.iastore, 1) := by decide +kernel
theorem dX5_keep_128 : decode cX5_keep 128 = .ok (.aload_n 0, 1) := by decide +kernel
theorem dX5_keep_129 : decode cX5_keep 129 = .ok (.getfield 7, 3) := by decide +kernel
theorem dX5_keep_132 : decode cX5_keep 132 = .ok (.sipush 595, 3) := by decide +kernel
theorem dX5_keep_135 : decode cX5_keep 135 = .ok (.aload_n 0, 1) := by decide +kernel
theorem dX5_keep_136 : decode cX5_keep 136 = .ok (.getfield 7, 3) := by decide +kernel
theorem dX5_keep_139 : decode cX5_keep 139 = .ok (.sipush 581, 3) := by decide +kernel
theorem dX5_keep_142 : decode cX5_keep 142 = .ok (.iaload, 1) := by decide +kernel
theorem dX5_keep_143 : decode cX5_keep 143 = .ok (.iastore, 1) := by decide +kernel
theorem dX5_keep_144 : decode cX5_keep 144 = .ok (.aload_n 0, 1) := by decide +kernel
theorem dX5_keep_145 : decode cX5_keep 145 = .ok (.getfield 7, 3) := by decide +kernel
theorem dX5_keep_148 : decode cX5_keep 148 = .ok (.sipush 581, 3) := by decide +kernel
theorem dX5_keep_151 : decode cX5_keep 151 = .ok (.dup2, 1) := by decide +kernel
theorem dX5_keep_152 : decode cX5_keep 152 = .ok (.iaload, 1) := by decide +kernel
theorem dX5_keep_153 : decode cX5_keep 153 = .ok (.iconst 1, 1) := by decide +kernel
theorem dX5_keep_154 : decode cX5_keep 154 = .ok (.iadd, 1) := by decide +kernel
theorem dX5_keep_155 : decode cX5_keep 155 = .ok (.iastore, 1) := by decide +kernel
theorem dX5_keep_156 : decode cX5_keep 156 = .ok (.aload_n 0, 1) := by decide +kernel
theorem dX5_keep_157 : decode cX5_keep 157 = .ok (.getfield 7, 3) := by decide +kernel
theorem dX5_keep_160 : decode cX5_keep 160 = .ok (.sipush 595, 3) := by decide +kernel
theorem dX5_keep_163 : decode cX5_keep 163 = .ok (.iaload, 1) := by decide +kernel
theorem dX5_keep_164 : decode cX5_keep 164 = .ok (.ireturn, 1) := by decide +kernel
theorem dX5_load_0 : decode cX5_load 0 = .ok (.aload_n 0, 1) := by decide +kernel
theorem dX5_load_1 : decode cX5_load 1 = .ok (.iload_n 1, 1) := by decide +kernel
theorem dX5_load_2 : decode cX5_load 2 = .ok (.invokevirtual 59, 3) := by decide +kernel
theorem dX5_load_5 : decode cX5_load 5 = .ok (.iconst (-1), 1) := by decide +kernel
theorem dX5_load_6 : decode cX5_load 6 = .ok (.if_icmp .ne 6, 3) := by decide +kernel
theorem dX5_load_9 : decode cX5_load 9 = .ok (.bipush (-2), 2) := by decide +kernel
theorem dX5_load_11 : decode cX5_load 11 = .ok (.ireturn, 1) := by decide +kernel
theorem dX5_load_12 : decode cX5_load 12 = .ok (.aload_n 0, 1) := by decide +kernel
theorem dX5_load_13 : decode cX5_load 13 = .ok (.iload_n 1, 1) := by decide +kernel
theorem dX5_load_14 : decode cX5_load 14 = .ok (.invokevirtual 152, 3) := by decide +kernel
theorem dX5_load_17 : decode cX5_load 17 = .ok (.ifCond .ne 6, 3) := by decide +kernel
theorem dX5_load_20 : decode cX5_load 20 = .ok (.bipush (-3), 2) := by decide +kernel
theorem dX5_load_22 : decode cX5_load 22 = .ok (.ireturn, 1) := by decide +kernel
theorem dX5_load_23 : decode cX5_load 23 = .ok (.aload_n 0, 1) := by decide +kernel
theorem dX5_load_24 : decode cX5_load 24 = .ok (.invokevirtual 137, 3) := by decide +kernel
theorem dX5_load_27 : decode cX5_load 27 = .ok (.aload_n 0, 1) := by decide +kernel
theorem dX5_load_28 : decode cX5_load 28 = .ok (.getfield 7, 3) := by decide +kernel
theorem dX5_load_31 : decode cX5_load 31 = .ok (.sipush 597, 3) := by decide +kernel
theorem dX5_load_34 : decode cX5_load 34 = .ok (.iaload, 1) := by decide +kernel
theorem dX5_load_35 : decode cX5_load 35 = .ok (.iconst 1, 1) := by decide +kernel
theorem dX5_load_36 : decode cX5_load 36 = .ok (.if_icmp .ne 15, 3) := by decide +kernel
theorem dX5_load_39 : decode cX5_load 39 = .ok (.aload_n 0, 1) := by decide +kernel
theorem dX5_load_40 : decode cX5_load 40 = .ok (.aload_n 0, 1) := by decide +kernel
theorem dX5_load_41 : decode cX5_load 41 = .ok (.getfield 7, 3) := by decide +kernel
theorem dX5_load_44 : decode cX5_load 44 = .ok (.sipush 582, 3) := by decide +kernel
theorem dX5_load_47 : decode cX5_load 47 = .ok (.iaload, 1) := by decide +kernel
theorem dX5_load_48 : decode cX5_load 48 = .ok (.invokevirtual 70, 3) := by decide +kernel
theorem dX5_load_51 : decode cX5_load 51 = .ok (.aload_n 0, 1) := by decide +kernel
theorem dX5_load_52 : decode cX5_load 52 = .ok (.invokevirtual 146, 3) := by decide +kernel
theorem dX5_load_55 : decode cX5_load 55 = .ok (.aload_n 0, 1) := by decide +kernel
theorem dX5_load_56 : decode cX5_load 56 = .ok (.getfield 7, 3) := by decide +kernel
theorem dX5_load_59 : decode cX5_load 59 = .ok (.sipush 595, 3) := by decide +kernel
theorem dX5_load_62 : decode cX5_load 62 = .ok (.iload_n 1, 1) := by decide +kernel
theorem dX5_load_63 : decode cX5_load 63 = .ok (.iastore, 1) := by decide +kernel
theorem dX5_load_64 : decode cX5_load 64 = .ok (.aload_n 0, 1) := by decide +kernel
theorem dX5_load_65 : decode cX5_load 65 = .ok (.getfield 46, 3) := by decide +kernel
theorem dX5_load_68 : decode cX5_load 68 = .ok (.ireturn, 1) := by decide +kernel
theorem dX5_basedOn_0 : decode cX5_basedOn 0 = .ok (.iconst 0, 1) := by decide +kernel
theorem dX5_basedOn_1 : decode cX5_basedOn 1 = .ok (.istore_n 2, 1) := by decide +kernel
theorem dX5_basedOn_2 : decode cX5_basedOn 2 = .ok (.iconst 0, 1) := by decide +kernel
theorem dX5_basedOn_3 : decode cX5_basedOn 3 = .ok (.istore_n 3, 1) := by decide +kernel
theorem dX5_basedOn_4 : decode cX5_basedOn 4 = .ok (.iload_n 3, 1) := by decide +kernel
theorem dX5_basedOn_5 : decode cX5_basedOn 5 = .ok (.aload_n 0, 1) := by decide +kernel
theorem dX5_basedOn_6 : decode cX5_basedOn 6 = .ok (.getfield 7, 3) := by decide +kernel
theorem dX5_basedOn_9 : decode cX5_basedOn 9 = .ok (.sipush 580, 3) := by decide +kernel
theorem dX5_basedOn_12 : decode cX5_basedOn 12 = .ok (.iaload, 1) := by decide +kernel
theorem dX5_basedOn_13 : decode cX5_basedOn 13 = .ok (.if_icmp .ge 27, 3) := by decide +kernel
theorem dX5_basedOn_16 : decode cX5_basedOn 16 = .ok (.iload_n 2, 1) := by decide +kernel
theorem dX5_basedOn_17 : decode cX5_basedOn 17 = .ok (.aload_n 0, 1) := by decide +kernel
theorem dX5_basedOn_18 : decode cX5_basedOn 18 = .ok (.iload_n 3, 1) := by decide +kernel
theorem dX5_basedOn_19 : decode cX5_basedOn 19 = .ok (.iconst 3, 1) := by decide +kernel
theorem dX5_basedOn_20 : decode cX5_basedOn 20 = .ok (.invokevirtual 38, 3) := by decide +kernel
theorem dX5_basedOn_23 : decode cX5_basedOn 23 = .ok (.iload_n 1, 1) := by decide +kernel
theorem dX5_basedOn_24 : decode cX5_basedOn 24 = .ok (.if_icmp .ne 7, 3) := by decide +kernel
theorem dX5_basedOn_27 : decode cX5_basedOn 27 = .ok (.iconst 1, 1) := by decide +kernel
theorem dX5_basedOn_28 : decode cX5_basedOn 28 = .ok (.goto 4, 3) := by decide +kernel
theorem dX5_basedOn_31 : decode cX5_basedOn 31 = .ok (.iconst 0, 1) := by decide +kernel
theorem dX5_basedOn_32 : decode cX5_basedOn 32 = .ok (.iadd, 1) := by decide +kernel
theorem dX5_basedOn_33 : decode cX5_basedOn 33 = .ok (.istore_n 2, 1) := by decide +kernel
theorem dX5_basedOn_34 : decode cX5_basedOn 34 = .ok (.iinc 3 1, 3) := by decide +kernel
theorem dX5_basedOn_37 : decode cX5_basedOn 37 = .ok (.goto (-33), 3) := by decide +kernel
theorem dX5_basedOn_40 : decode cX5_basedOn 40 = .ok (.iload_n 2, 1) := by decide +kernel
theorem dX5_basedOn_41 : decode cX5_basedOn 41 = .ok (.ireturn, 1) := by decide +kernel
theorem dX5_drop_0 : decode cX5_drop 0 = .ok (.aload_n 0, 1) := by decide +kernel
theorem dX5_drop_1 : decode cX5_drop 1 = .ok (.iload_n 1, 1) := by decide +kernel
theorem dX5_drop_2 : decode cX5_drop 2 = .ok (.invokevirtual 59, 3) := by decide +kernel
theorem dX5_drop_5 : decode cX5_drop 5 = .ok (.istore_n 3, 1) := by decide +kernel
theorem dX5_drop_6 : decode cX5_drop 6 = .ok (.iload_n 3, 1) := by decide +kernel
theorem dX5_drop_7 : decode cX5_drop 7 = .ok (.iconst (-1), 1) := by decide +kernel
theorem dX5_drop_8 : decode cX5_drop 8 = .ok (.if_icmp .ne 6, 3) := by decide +kernel
theorem dX5_drop_11 : decode cX5_drop 11 = .ok (.bipush (-2), 2) := by decide +kernel
theorem dX5_drop_13 : decode cX5_drop 13 = .ok (.ireturn, 1) := by decide +kernel
theorem dX5_drop_14 : decode cX5_drop 14 = .ok (.aload_n 0, 1) := by decide +kernel
theorem dX5_drop_15 : decode cX5_drop 15 = .ok (.invokevirtual 137, 3) := by decide +kernel
theorem dX5_drop_18 : decode cX5_drop 18 = .ok (.iconst 0, 1) := by decide +kernel
theorem dX5_drop_19 : decode cX5_drop 19 = .ok (.istore 4, 2) := by decide +kernel
theorem dX5_drop_21 : decode cX5_drop 21 = .ok (.iload 4, 2) := by decide +kernel
theorem dX5_drop_23 : decode cX5_drop 23 = .ok (.aload_n 0, 1) := by decide +kernel
theorem dX5_drop_24 : decode cX5_drop 24 = .ok (.getfield 7, 3) := by decide +kernel
theorem dX5_drop_27 : decode cX5_drop 27 = .ok (.sipush 580, 3) := by decide +kernel
theorem dX5_drop_30 : decode cX5_drop 30 = .ok (.iaload, 1) := by decide +kernel
theorem dX5_drop_31 : decode cX5_drop 31 = .ok (.if_icmp .ge 48, 3) := by decide +kernel
theorem dX5_drop_34 : decode cX5_drop 34 = .ok (.iload_n 2, 1) := by decide +kernel
theorem dX5_drop_35 : decode cX5_drop 35 = .ok (.ifCond .eq 44, 3) := by decide +kernel
theorem dX5_drop_38 : decode cX5_drop 38 = .ok (.aload_n 0, 1) := by decide +kernel
theorem dX5_drop_39 : decode cX5_drop 39 = .ok (.iload 4, 2) := by decide +kernel
theorem dX5_drop_41 : decode cX5_drop 41 = .ok (.iconst 3, 1) := by decide +kernel
theorem dX5_drop_42 : decode cX5_drop 42 = .ok (.invokevirtual 38, 3) := by decide +kernel
theorem dX5_drop_45 : decode cX5_drop 45 = .ok (.iload_n 1, 1) := by decide +kernel
theorem dX5_drop_46 : decode cX5_drop 46 = .ok (.if_icmp .ne 27, 3) := by decide +kernel
theorem dX5_drop_49 : decode cX5_drop 49 = .ok (.aload_n 0, 1) := by decide +kernel
theorem dX5_drop_50 : decode cX5_drop 50 = .ok (.aload_n 0, 1) := by decide +kernel
theorem dX5_drop_51 : decode cX5_drop 51 = .ok (.iload 4, 2) := by decide +kernel
theorem dX5_drop_53 : decode cX5_drop 53 = .ok (.iconst 0, 1) := by decide +kernel
theorem dX5_drop_54 : decode cX5_drop 54 = .ok (.invokevirtual 38, 3) := by decide +kernel
theorem dX5_drop_57 : decode cX5_drop 57 = .ok (.invokevirtual 152, 3) := by decide +kernel
theorem dX5_drop_60 : decode cX5_drop 60 = .ok (.ifCond .eq 13, 3) := by decide +kernel
theorem dX5_drop_63 : decode cX5_drop 63 = .ok (.aload_n 0, 1) := by decide +kernel
theorem dX5_drop_64 : decode cX5_drop 64 = .ok (.invokevirtual 149, 3) := by decide +kernel
theorem dX5_drop_67 : decode cX5_drop 67 = .ok (.aload_n 0, 1) := by decide +kernel
theorem dX5_drop_68 : decode cX5_drop 68 = .ok (.iload 4, 2) := by decide +kernel
theorem dX5_drop_70 : decode cX5_drop 70 = .ok (.invokevirtual 164, 3) := by decide +kernel
theorem dX5_drop_73 : decode cX5_drop 73 = .ok (.iinc 4 1, 3) := by decide +kernel
theorem dX5_drop_76 : decode cX5_drop 76 = .ok (.goto (-55), 3) := by decide +kernel
theorem dX5_drop_79 : decode cX5_drop 79 = .ok (.aload_n 0, 1) := by decide +kernel
theorem dX5_drop_80 : decode cX5_drop 80 = .ok (.getfield 7, 3) := by decide +kernel
theorem dX5_drop_83 : decode cX5_drop 83 = .ok (.sipush 580, 3) := by decide +kernel
theorem dX5_drop_86 : decode cX5_drop 86 = .ok (.dup2, 1) := by decide +kernel
theorem dX5_drop_87 : decode cX5_drop 87 = .ok (.iaload, 1) := by decide +kernel
theorem dX5_drop_88 : decode cX5_drop 88 = .ok (.iconst 1, 1) := by decide +kernel
theorem dX5_drop_89 : decode cX5_drop 89 = .ok (.isub, 1) := by decide +kernel
theorem dX5_drop_90 : decode cX5_drop 90 = .ok (.iastore, 1) := by decide +kernel
theorem dX5_drop_91 : decode cX5_drop 91 = .ok (.bipush 29, 2) := by decide +kernel
theorem dX5_drop_93 : decode cX5_drop 93 = .ok (.iload_n 3, 1) := by decide +kernel
theorem dX5_drop_94 : decode cX5_drop 94 = .ok (.imul, 1) := by decide +kernel
theorem dX5_drop_95 : decode cX5_drop 95 = .ok (.istore 4, 2) := by decide +kernel
theorem dX5_drop_97 : decode cX5_drop 97 = .ok (.iload 4, 2) := by decide +kernel
theorem dX5_drop_99 : decode cX5_drop 99 = .ok (.bipush 29, 2) := by decide +kernel
theorem dX5_drop_101 : decode cX5_drop 101 = .ok (.aload_n 0, 1) := by decide +kernel
theorem dX5_drop_102 : decode cX5_drop 102 = .ok (.getfield 7, 3) := by decide +kernel
theorem dX5_drop_105 : decode cX5_drop 105 = .ok (.sipush 580, 3) := by decide +kernel
theorem dX5_drop_108 : decode cX5_drop 108 = .ok (.iaload, 1) := by decide +kernel
theorem dX5_drop_109 : decode cX5_drop 109 = .ok (.imul, 1) := by decide +kernel
theorem dX5_drop_110 : decode cX5_drop 110 = .ok (.if_icmp .ge 26, 3) := by decide +kernel
theorem dX5_drop_113 : decode cX5_drop 113 = .ok (.aload_n 0, 1) := by decide +kernel
theorem dX5_drop_114 : decode cX5_drop 114 = .ok (.getfield 7, 3) := by decide +kernel
theorem dX5_drop_117 : decode cX5_drop 117 = .ok (.iload 4, 2) := by decide +kernel
theorem dX5_drop_119 : decode cX5_drop 119 = .ok (.aload_n 0, 1) := by decide +kernel
theorem dX5_drop_120 : decode cX5_drop 120 = .ok (.getfield 7, 3) := by decide +kernel
theorem dX5_drop_123 : decode cX5_drop 123 = .ok (.iload 4, 2) := by decide +kernel
theorem dX5_drop_125 : decode cX5_drop 125 = .ok (.bipush 29, 2) := by decide +kernel
theorem dX5_drop_127 : decode cX5_drop 127 = .ok (.iadd, 1) := by decide +kernel
theorem dX5_drop_128 : decode cX5_drop 128 = .ok (.iaload, 1) := by decide +kernel
theorem dX5_drop_129 : decode cX5_drop 129 = .ok (.iastore, 1) := by decide +kernel
theorem dX5_drop_130 : decode cX5_drop 130 = .ok (.iinc 4 1, 3) := by decide +kernel
theorem dX5_drop_133 : decode cX5_drop 133 = .ok (.goto (-36), 3) := by decide +kernel
theorem dX5_drop_136 : decode cX5_drop 136 = .ok (.aload_n 0, 1) := by decide +kernel
theorem dX5_drop_137 : decode cX5_drop 137 = .ok (.getfield 7, 3) := by decide +kernel
theorem dX5_drop_140 : decode cX5_drop 140 = .ok (.sipush 595, 3) := by decide +kernel
theorem dX5_drop_143 : decode cX5_drop 143 = .ok (.aload_n 0, 1) := by decide +kernel
theorem dX5_drop_144 : decode cX5_drop 144 = .ok (.getfield 7, 3) := by decide +kernel
theorem dX5_drop_147 : decode cX5_drop 147 = .ok (.sipush 595, 3) := by decide +kernel
theorem dX5_drop_150 : decode cX5_drop 150 = .ok (.iaload, 1) := by decide +kernel
theorem dX5_drop_151 : decode cX5_drop 151 = .ok (.iload_n 1, 1) := by decide +kernel
theorem dX5_drop_152 : decode cX5_drop 152 = .ok (.if_icmp .ne 7, 3) := by decide +kernel
theorem dX5_drop_155 : decode cX5_drop 155 = .ok (.iconst (-1), 1) := by decide +kernel
theorem dX5_drop_156 : decode cX5_drop 156 = .ok (.goto 11, 3) := by decide +kernel
theorem dX5_drop_159 : decode cX5_drop 159 = .ok (.aload_n 0, 1) := by decide +kernel
theorem dX5_drop_160 : decode cX5_drop 160 = .ok (.getfield 7, 3) := by decide +kernel
theorem dX5_drop_163 : decode cX5_drop 163 = .ok (.sipush 595, 3) := by decide +kernel
theorem dX5_drop_166 : decode cX5_drop 166 = .ok (.iaload, 1) := by decide +kernel
theorem dX5_drop_167 : decode cX5_drop 167 = .ok (.iastore, 1) := by decide +kernel
theorem dX5_drop_168 : decode cX5_drop 168 = .ok (.aload_n 0, 1) := by decide +kernel
theorem dX5_drop_169 : decode cX5_drop 169 = .ok (.iload_n 1, 1) := by decide +kernel
theorem dX5_drop_170 : decode cX5_drop 170 = .ok (.invokevirtual 167, 3) := by decide +kernel
theorem dX5_drop_173 : decode cX5_drop 173 = .ok (.ireturn, 1) := by decide +kernel
theorem dX5_alter_0 : decode cX5_alter 0 = .ok (.aload_n 0, 1) := by decide +kernel
theorem dX5_alter_1 : decode cX5_alter 1 = .ok (.iload_n 1, 1) := by decide +kernel
theorem dX5_alter_2 : decode cX5_alter 2 = .ok (.invokevirtual 59, 3) := by decide +kernel
theorem dX5_alter_5 : decode cX5_alter 5 = .ok (.istore 4, 2) := by decide +kernel
theorem dX5_alter_7 : decode cX5_alter 7 = .ok (.iload 4, 2) := by decide +kernel
theorem dX5_alter_9 : decode cX5_alter 9 = .ok (.iconst (-1), 1) := by decide +kernel
theorem dX5_alter_10 : decode cX5_alter 10 = .ok (.if_icmp .eq 30, 3) := by decide +kernel
theorem dX5_alter_13 : decode cX5_alter 13 = .ok (.iload_n 2, 1) := by decide +kernel
theorem dX5_alter_14 : decode cX5_alter 14 = .ok (.iconst 0, 1) := by decide +kernel
theorem dX5_alter_15 : decode cX5_alter 15 = .ok (.aload_n 0, 1) := by decide +kernel
theorem dX5_alter_16 : decode cX5_alter 16 = .ok (.iload 4, 2) := by decide +kernel
theorem dX5_alter_18 : decode cX5_alter 18 = .ok (.iconst 4, 1) := by decide +kernel
theorem dX5_alter_19 : decode cX5_alter 19 = .ok (.invokevirtual 38, 3) := by decide +kernel
theorem dX5_alter_22 : decode cX5_alter 22 = .ok (.iconst 1, 1) := by decide +kernel
theorem dX5_alter_23 : decode cX5_alter 23 = .ok (.isub, 1) := by decide +kernel
theorem dX5_alter_24 : decode cX5_alter 24 = .ok (.invokestatic 81, 3) := by decide +kernel
theorem dX5_alter_27 : decode cX5_alter 27 = .ok (.ifCond .eq 13, 3) := by decide +kernel
theorem dX5_alter_30 : decode cX5_alter 30 = .ok (.iload_n 3, 1) := by decide +kernel
theorem dX5_alter_31 : decode cX5_alter 31 = .ok (.iconst 0, 1) := by decide +kernel
theorem dX5_alter_32 : decode cX5_alter 32 = .ok (.bipush 99, 2) := by decide +kernel
theorem dX5_alter_34 : decode cX5_alter 34 = .ok (.invokestatic 81, 3) := by decide +kernel
theorem dX5_alter_37 : decode cX5_alter 37 = .ok (.ifCond .ne 6, 3) := by decide +kernel
theorem dX5_alter_40 : decode cX5_alter 40 = .ok (.bipush (-2), 2) := by decide +kernel
theorem dX5_alter_42 : decode cX5_alter 42 = .ok (.ireturn, 1) := by decide +kernel
theorem dX5_alter_43 : decode cX5_alter 43 = .ok (.aload_n 0, 1) := by decide +kernel
theorem dX5_alter_44 : decode cX5_alter 44 = .ok (.invokevirtual 137, 3) := by decide +kernel
theorem dX5_alter_47 : decode cX5_alter 47 = .ok (.aload_n 0, 1) := by decide +kernel
theorem dX5_alter_48 : decode cX5_alter 48 = .ok (.iload 4, 2) := by decide +kernel
theorem dX5_alter_50 : decode cX5_alter 50 = .ok (.bipush 17, 2) := by decide +kernel
theorem dX5_alter_52 : decode cX5_alter 52 = .ok (.iload_n 2, 1) := by decide +kernel
theorem dX5_alter_53 : decode cX5_alter 53 = .ok (.iadd, 1) := by decide +kernel
theorem dX5_alter_54 : decode cX5_alter 54 = .ok (.invokevirtual 38, 3) := by decide +kernel
theorem dX5_alter_57 : decode cX5_alter 57 = .ok (.istore 5, 2) := by decide +kernel
theorem dX5_alter_59 : decode cX5_alter 59 = .ok (.aload_n 0, 1) := by decide +kernel
theorem dX5_alter_60 : decode cX5_alter 60 = .ok (.iload 4, 2) := by decide +kernel
theorem dX5_alter_62 : decode cX5_alter 62 = .ok (.bipush 17, 2) := by decide +kernel
theorem dX5_alter_64 : decode cX5_alter 64 = .ok (.iload_n 2, 1) := by decide +kernel
theorem dX5_alter_65 : decode cX5_alter 65 = .ok (.iadd, 1) := by decide +kernel
theorem dX5_alter_66 : decode cX5_alter 66 = .ok (.iload_n 3, 1) := by decide +kernel
theorem dX5_alter_67 : decode cX5_alter 67 = .ok (.invokevirtual 77, 3) := by decide +kernel
theorem dX5_alter_70 : decode cX5_alter 70 = .ok (.iload 5, 2) := by decide +kernel
theorem dX5_alter_72 : decode cX5_alter 72 = .ok (.ireturn, 1) := by decide +kernel
theorem dX5_weight_0 : decode cX5_weight 0 = .ok (.aload_n 0, 1) := by decide +kernel
theorem dX5_weight_1 : decode cX5_weight 1 = .ok (.iload_n 1, 1) := by decide +kernel
theorem dX5_weight_2 : decode cX5_weight 2 = .ok (.invokevirtual 66, 3) := by decide +kernel
theorem dX5_weight_5 : decode cX5_weight 5 = .ok (.ifCond .eq 12, 3) := by decide +kernel
theorem dX5_weight_8 : decode cX5_weight 8 = .ok (.aload_n 0, 1) := by decide +kernel
theorem dX5_weight_9 : decode cX5_weight 9 = .ok (.iload_n 1, 1) := by decide +kernel
theorem dX5_weight_10 : decode cX5_weight 10 = .ok (.iconst 4, 1) := by decide +kernel
theorem dX5_weight_11 : decode cX5_weight 11 = .ok (.invokevirtual 38, 3) := by decide +kernel
theorem dX5_weight_14 : decode cX5_weight 14 = .ok (.goto 13, 3) := by decide +kernel
theorem dX5_weight_17 : decode cX5_weight 17 = .ok (.iconst 2, 1) := by decide +kernel
theorem dX5_weight_18 : decode cX5_weight 18 = .ok (.iconst 2, 1) := by decide +kernel
theorem dX5_weight_19 : decode cX5_weight 19 = .ok (.aload_n 0, 1) := by decide +kernel
theorem dX5_weight_20 : decode cX5_weight 20 = .ok (.iload_n 1, 1) := by decide +kernel
theorem dX5_weight_21 : decode cX5_weight 21 = .ok (.iconst 4, 1) := by decide +kernel
theorem dX5_weight_22 : decode cX5_weight 22 = .ok (.invokevirtual 38, 3) := by decide +kernel
theorem dX5_weight_25 : decode cX5_weight 25 = .ok (.imul, 1) := by decide +kernel
theorem dX5_weight_26 : decode cX5_weight 26 = .ok (.iadd, 1) := by decide +kernel
theorem dX5_weight_27 : decode cX5_weight 27 = .ok (.ireturn, 1) := by decide +kernel
theorem dX5_weights_0 : decode cX5_weights 0 = .ok (.iconst 0, 1) := by decide +kernel
theorem dX5_weights_1 : decode cX5_weights 1 = .ok (.istore_n 1, 1) := by decide +kernel
theorem dX5_weights_2 : decode cX5_weights 2 = .ok (.iconst 0, 1) := by decide +kernel
theorem dX5_weights_3 : decode cX5_weights 3 = .ok (.istore_n 2, 1) := by decide +kernel
theorem dX5_weights_4 : decode cX5_weights 4 = .ok (.iload_n 2, 1) := by decide +kernel
theorem dX5_weights_5 : decode cX5_weights 5 = .ok (.aload_n 0, 1) := by decide +kernel
theorem dX5_weights_6 : decode cX5_weights 6 = .ok (.getfield 7, 3) := by decide +kernel
theorem dX5_weights_9 : decode cX5_weights 9 = .ok (.sipush 580, 3) := by decide +kernel
theorem dX5_weights_12 : decode cX5_weights 12 = .ok (.iaload, 1) := by decide +kernel
theorem dX5_weights_13 : decode cX5_weights 13 = .ok (.if_icmp .ge 17, 3) := by decide +kernel
theorem dX5_weights_16 : decode cX5_weights 16 = .ok (.iload_n 1, 1) := by decide +kernel
theorem dX5_weights_17 : decode cX5_weights 17 = .ok (.aload_n 0, 1) := by decide +kernel
theorem dX5_weights_18 : decode cX5_weights 18 = .ok (.iload_n 2, 1) := by decide +kernel
theorem dX5_weights_19 : decode cX5_weights 19 = .ok (.invokevirtual 170, 3) := by decide +kernel
theorem dX5_weights_22 : decode cX5_weights 22 = .ok (.iadd, 1) := by decide +kernel
theorem dX5_weights_23 : decode cX5_weights 23 = .ok (.istore_n 1, 1) := by decide +kernel
theorem dX5_weights_24 : decode cX5_weights 24 = .ok (.iinc 2 1, 3) := by decide +kernel
theorem dX5_weights_27 : decode cX5_weights 27 = .ok (.goto (-23), 3) := by decide +kernel
theorem dX5_weights_30 : decode cX5_weights 30 = .ok (.iload_n 1, 1) := by decide +kernel
theorem dX5_weights_31 : decode cX5_weights 31 = .ok (.ireturn, 1) := by decide +kernel
theorem dX5_nearestBase_0 : decode cX5_nearestBase 0 = .ok (.iconst (-1), 1) := by decide +kernel
theorem dX5_nearestBase_1 : decode cX5_nearestBase 1 = .ok (.istore_n 2, 1) := by decide +kernel
theorem dX5_nearestBase_2 : decode cX5_nearestBase 2 = .ok (.bipush 7, 2) := by decide +kernel
theorem dX5_nearestBase_4 : decode cX5_nearestBase 4 = .ok (.istore_n 3, 1) := by decide +kernel
theorem dX5_nearestBase_5 : decode cX5_nearestBase 5 = .ok (.iconst 0, 1) := by decide +kernel
theorem dX5_nearestBase_6 : decode cX5_nearestBase 6 = .ok (.istore 4, 2) := by decide +kernel
theorem dX5_nearestBase_8 : decode cX5_nearestBase 8 = .ok (.iload 4, 2) := by decide +kernel
theorem dX5_nearestBase_10 : decode cX5_nearestBase 10 = .ok (.iload_n 1, 1) := by decide +kernel
theorem dX5_nearestBase_11 : decode cX5_nearestBase 11 = .ok (.if_icmp .ge 120, 3) := by decide +kernel
theorem dX5_nearestBase_14 : decode cX5_nearestBase 14 = .ok (.aload_n 0, 1) := by decide +kernel
theorem dX5_nearestBase_15 : decode cX5_nearestBase 15 = .ok (.getfield 34, 3) := by decide +kernel
theorem dX5_nearestBase_18 : decode cX5_nearestBase 18 = .ok (.iload 4, 2) := by decide +kernel
theorem dX5_nearestBase_20 : decode cX5_nearestBase 20 = .ok (.baload, 1) := by decide +kernel
theorem dX5_nearestBase_21 : decode cX5_nearestBase 21 = .ok (.ifCond .eq 104, 3) := by decide +kernel
theorem dX5_nearestBase_24 : decode cX5_nearestBase 24 = .ok (.aload_n 0, 1) := by decide +kernel
theorem dX5_nearestBase_25 : decode cX5_nearestBase 25 = .ok (.iload 4, 2) := by decide +kernel
theorem dX5_nearestBase_27 : decode cX5_nearestBase 27 = .ok (.iconst 1, 1) := by decide +kernel
theorem dX5_nearestBase_28 : decode cX5_nearestBase 28 = .ok (.invokevirtual 38, 3) := by decide +kernel
theorem dX5_nearestBase_31 : decode cX5_nearestBase 31 = .ok (.aload_n 0, 1) := by decide +kernel
theorem dX5_nearestBase_32 : decode cX5_nearestBase 32 = .ok (.iload_n 1, 1) := by decide +kernel
theorem dX5_nearestBase_33 : decode cX5_nearestBase 33 = .ok (.iconst 1, 1) := by decide +kernel
theorem dX5_nearestBase_34 : decode cX5_nearestBase 34 = .ok (.invokevirtual 38, 3) := by decide +kernel
theorem dX5_nearestBase_37 : decode cX5_nearestBase 37 = .ok (.if_icmp .gt 88, 3) := by decide +kernel
theorem dX5_nearestBase_40 : decode cX5_nearestBase 40 = .ok (.aload_n 0, 1) := by decide +kernel
theorem dX5_nearestBase_41 : decode cX5_nearestBase 41 = .ok (.aload_n 0, 1) := by decide +kernel
theorem dX5_nearestBase_42 : decode cX5_nearestBase 42 = .ok (.iload 4, 2) := by decide +kernel
theorem dX5_nearestBase_44 : decode cX5_nearestBase 44 = .ok (.iconst 0, 1) := by decide +kernel
theorem dX5_nearestBase_45 : decode cX5_nearestBase 45 = .ok (.invokevirtual 38, 3) := by decide +kernel
theorem dX5_nearestBase_48 : decode cX5_nearestBase 48 = .ok (.invokevirtual 173, 3) := by decide +kernel
theorem dX5_nearestBase_51 : decode cX5_nearestBase 51 = .ok (.aload_n 0, 1) := by decide +kernel
theorem dX5_nearestBase_52 : decode cX5_nearestBase 52 = .ok (.getfield 7, 3) := by decide +kernel
theorem dX5_nearestBase_55 : decode cX5_nearestBase 55 = .ok (.sipush 596, 3) := by decide +kernel
theorem dX5_nearestBase_58 : decode cX5_nearestBase 58 = .ok (.iaload, 1) := by decide +kernel
theorem dX5_nearestBase_59 : decode cX5_nearestBase 59 = .ok (.if_icmp .ge 66, 3) := by decide +kernel
theorem dX5_nearestBase_62 : decode cX5_nearestBase 62 = .ok (.aload_n 0, 1) := by decide +kernel
theorem dX5_nearestBase_63 : decode cX5_nearestBase 63 = .ok (.aload_n 0, 1) := by decide +kernel
theorem dX5_nearestBase_64 : decode cX5_nearestBase 64 = .ok (.iload 4, 2) := by decide +kernel
theorem dX5_nearestBase_66 : decode cX5_nearestBase 66 = .ok (.iconst 0, 1) := by decide +kernel
theorem dX5_nearestBase_67 : decode cX5_nearestBase 67 = .ok (.invokevirtual 38, 3) := by decide +kernel
theorem dX5_nearestBase_70 : decode cX5_nearestBase 70 = .ok (.invokevirtual 152, 3) := by decide +kernel
theorem dX5_nearestBase_73 : decode cX5_nearestBase 73 = .ok (.ifCond .eq 52, 3) := by decide +kernel
theorem dX5_nearestBase_76 : decode cX5_nearestBase 76 = .ok (.aload_n 0, 1) := by decide +kernel
theorem dX5_nearestBase_77 : decode cX5_nearestBase 77 = .ok (.aload_n 0, 1) := by decide +kernel
theorem dX5_nearestBase_78 : decode cX5_nearestBase 78 = .ok (.iload_n 1, 1) := by decide +kernel
theorem dX5_nearestBase_79 : decode cX5_nearestBase 79 = .ok (.iconst 1, 1) := by decide +kernel
theorem dX5_nearestBase_80 : decode cX5_nearestBase 80 = .ok (.invokevirtual 38, 3) := by decide +kernel
theorem dX5_nearestBase_83 : decode cX5_nearestBase 83 = .ok (.invokevirtual 70, 3) := by decide +kernel
theorem dX5_nearestBase_86 : decode cX5_nearestBase 86 = .ok (.aload_n 0, 1) := by decide +kernel
theorem dX5_nearestBase_87 : decode cX5_nearestBase 87 = .ok (.aload_n 0, 1) := by decide +kernel
theorem dX5_nearestBase_88 : decode cX5_nearestBase 88 = .ok (.getfield 46, 3) := by decide +kernel
theorem dX5_nearestBase_91 : decode cX5_nearestBase 91 = .ok (.invokestatic 52, 3) := by decide +kernel
theorem dX5_nearestBase_94 : decode cX5_nearestBase 94 = .ok (.invokevirtual 155, 3) := by decide +kernel
theorem dX5_nearestBase_97 : decode cX5_nearestBase 97 = .ok (.istore 5, 2) := by decide +kernel
theorem dX5_nearestBase_99 : decode cX5_nearestBase 99 = .ok (.iload 5, 2) := by decide +kernel
theorem dX5_nearestBase_101 : decode cX5_nearestBase 101 = .ok (.iload_n 3, 1) := by decide +kernel
theorem dX5_nearestBase_102 : decode cX5_nearestBase 102 = .ok (.if_icmp .ge 8, 3) := by decide +kernel
theorem dX5_nearestBase_105 : decode cX5_nearestBase 105 = .ok (.iload 4, 2) := by decide +kernel
theorem dX5_nearestBase_107 : decode cX5_nearestBase 107 = .ok (.goto 4, 3) := by decide +kernel
theorem dX5_nearestBase_110 : decode cX5_nearestBase 110 = .ok (.iload_n 2, 1) := by decide +kernel
theorem dX5_nearestBase_111 : decode cX5_nearestBase 111 = .ok (.istore_n 2, 1) := by decide +kernel
theorem dX5_nearestBase_112 : decode cX5_nearestBase 112 = .ok (.iload 5, 2) := by decide +kernel
theorem dX5_nearestBase_114 : decode cX5_nearestBase 114 = .ok (.iload_n 3, 1) := by decide +kernel
theorem dX5_nearestBase_115 : decode cX5_nearestBase 115 = .ok (.if_icmp .ge 8, 3) := by decide +kernel
theorem dX5_nearestBase_118 : decode cX5_nearestBase 118 = .ok (.iload 5, 2) := by decide +kernel
theorem dX5_nearestBase_120 : decode cX5_nearestBase 120 = .ok (.goto 4, 3) := by decide +kernel
theorem dX5_nearestBase_123 : decode cX5_nearestBase 123 = .ok (.iload_n 3, 1) := by decide +kernel
theorem dX5_nearestBase_124 : decode cX5_nearestBase 124 = .ok (.istore_n 3, 1) := by decide +kernel
theorem dX5_nearestBase_125 : decode cX5_nearestBase 125 = .ok (.iinc 4 1, 3) := by decide +kernel
theorem dX5_nearestBase_128 : decode cX5_nearestBase 128 = .ok (.goto (-120), 3) := by decide +kernel
theorem dX5_nearestBase_131 : decode cX5_nearestBase 131 = .ok (.iload_n 2, 1) := by decide +kernel
theorem dX5_nearestBase_132 : decode cX5_nearestBase 132 = .ok (.ireturn, 1) := by decide +kernel
theorem dX5_pack_0 : decode cX5_pack 0 = .ok (.aload_n 0, 1) := by decide +kernel
theorem dX5_pack_1 : decode cX5_pack 1 = .ok (.invokevirtual 137, 3) := by decide +kernel
theorem dX5_pack_4 : decode cX5_pack 4 = .ok (.aload_n 0, 1) := by decide +kernel
theorem dX5_pack_5 : decode cX5_pack 5 = .ok (.invokevirtual 176, 3) := by decide +kernel
theorem dX5_pack_8 : decode cX5_pack 8 = .ok (.istore_n 1, 1) := by decide +kernel
theorem dX5_pack_9 : decode cX5_pack 9 = .ok (.iconst 0, 1) := by decide +kernel
theorem dX5_pack_10 : decode cX5_pack 10 = .ok (.istore_n 2, 1) := by decide +kernel
theorem dX5_pack_11 : decode cX5_pack 11 = .ok (.iload_n 2, 1) := by decide +kernel
theorem dX5_pack_12 : decode cX5_pack 12 = .ok (.aload_n 0, 1) := by decide +kernel
theorem dX5_pack_13 : decode cX5_pack 13 = .ok (.getfield 7, 3) := by decide +kernel
theorem dX5_pack_16 : decode cX5_pack 16 = .ok (.sipush 580, 3) := by decide +kernel
theorem dX5_pack_19 : decode cX5_pack 19 = .ok (.iaload, 1) := by decide +kernel
theorem dX5_pack_20 : decode cX5_pack 20 = .ok (.if_icmp .ge 94, 3) := by decide +kernel
theorem dX5_pack_23 : decode cX5_pack 23 = .ok (.aload_n 0, 1) := by decide +kernel
theorem dX5_pack_24 : decode cX5_pack 24 = .ok (.getfield 34, 3) := by decide +kernel
theorem dX5_pack_27 : decode cX5_pack 27 = .ok (.iload_n 2, 1) := by decide +kernel
theorem dX5_pack_28 : decode cX5_pack 28 = .ok (.aload_n 0, 1) := by decide +kernel
theorem dX5_pack_29 : decode cX5_pack 29 = .ok (.aload_n 0, 1) := by decide +kernel
theorem dX5_pack_30 : decode cX5_pack 30 = .ok (.iload_n 2, 1) := by decide +kernel
theorem dX5_pack_31 : decode cX5_pack 31 = .ok (.iconst 0, 1) := by decide +kernel
theorem dX5_pack_32 : decode cX5_pack 32 = .ok (.invokevirtual 38, 3) := by decide +kernel
theorem dX5_pack_35 : decode cX5_pack 35 = .ok (.invokevirtual 152, 3) := by decide +kernel
theorem dX5_pack_38 : decode cX5_pack 38 = .ok (.bastore, 1) := by decide +kernel
theorem dX5_pack_39 : decode cX5_pack 39 = .ok (.aload_n 0, 1) := by decide +kernel
theorem dX5_pack_40 : decode cX5_pack 40 = .ok (.getfield 34, 3) := by decide +kernel
theorem dX5_pack_43 : decode cX5_pack 43 = .ok (.iload_n 2, 1) := by decide +kernel
theorem dX5_pack_44 : decode cX5_pack 44 = .ok (.baload, 1) := by decide +kernel
theorem dX5_pack_45 : decode cX5_pack 45 = .ok (.ifCond .eq 63, 3) := by decide +kernel
theorem dX5_pack_48 : decode cX5_pack 48 = .ok (.aload_n 0, 1) := by decide +kernel
theorem dX5_pack_49 : decode cX5_pack 49 = .ok (.invokevirtual 149, 3) := by decide +kernel
theorem dX5_pack_52 : decode cX5_pack 52 = .ok (.aload_n 0, 1) := by decide +kernel
theorem dX5_pack_53 : decode cX5_pack 53 = .ok (.iload_n 2, 1) := by decide +kernel
theorem dX5_pack_54 : decode cX5_pack 54 = .ok (.invokevirtual 179, 3) := by decide +kernel
theorem dX5_pack_57 : decode cX5_pack 57 = .ok (.istore_n 3, 1) := by decide +kernel
theorem dX5_pack_58 : decode cX5_pack 58 = .ok (.iload_n 3, 1) := by decide +kernel
theorem dX5_pack_59 : decode cX5_pack 59 = .ok (.iconst (-1), 1) := by decide +kernel
theorem dX5_pack_60 : decode cX5_pack 60 = .ok (.if_icmp .ne 11, 3) := by decide +kernel
theorem dX5_pack_63 : decode cX5_pack 63 = .ok (.aload_n 0, 1) := by decide +kernel
theorem dX5_pack_64 : decode cX5_pack 64 = .ok (.iload_n 2, 1) := by decide +kernel
theorem dX5_pack_65 : decode cX5_pack 65 = .ok (.invokevirtual 164, 3) := by decide +kernel
theorem dX5_pack_68 : decode cX5_pack 68 = .ok (.goto 40, 3) := by decide +kernel
theorem dX5_pack_71 : decode cX5_pack 71 = .ok (.aload_n 0, 1) := by decide +kernel
theorem dX5_pack_72 : decode cX5_pack 72 = .ok (.getfield 34, 3) := by decide +kernel
theorem dX5_pack_75 : decode cX5_pack 75 = .ok (.iload_n 2, 1) := by decide +kernel
theorem dX5_pack_76 : decode cX5_pack 76 = .ok (.aload_n 0, 1) := by decide +kernel
theorem dX5_pack_77 : decode cX5_pack 77 = .ok (.aload_n 0, 1) := by decide +kernel
theorem dX5_pack_78 : decode cX5_pack 78 = .ok (.iload_n 3, 1) := by decide +kernel
theorem dX5_pack_79 : decode cX5_pack 79 = .ok (.iconst 0, 1) := by decide +kernel
theorem dX5_pack_80 : decode cX5_pack 80 = .ok (.invokevirtual 38, 3) := by decide +kernel
theorem dX5_pack_83 : decode cX5_pack 83 = .ok (.invokevirtual 152, 3) := by decide +kernel
theorem dX5_pack_86 : decode cX5_pack 86 = .ok (.bastore, 1) := by decide +kernel
theorem dX5_pack_87 : decode cX5_pack 87 = .ok (.aload_n 0, 1) := by decide +kernel
theorem dX5_pack_88 : decode cX5_pack 88 = .ok (.aload_n 0, 1) := by decide +kernel
theorem dX5_pack_89 : decode cX5_pack 89 = .ok (.iload_n 2, 1) := by decide +kernel
theorem dX5_pack_90 : decode cX5_pack 90 = .ok (.iconst 1, 1) := by decide +kernel
theorem dX5_pack_91 : decode cX5_pack 91 = .ok (.invokevirtual 38, 3) := by decide +kernel
theorem dX5_pack_94 : decode cX5_pack 94 = .ok (.invokevirtual 70, 3) := by decide +kernel
theorem dX5_pack_97 : decode cX5_pack 97 = .ok (.aload_n 0, 1) := by decide +kernel
theorem dX5_pack_98 : decode cX5_pack 98 = .ok (.iload_n 2, 1) := by decide +kernel
theorem dX5_pack_99 : decode cX5_pack 99 = .ok (.aload_n 0, 1) := by decide +kernel
theorem dX5_pack_100 : decode cX5_pack 100 = .ok (.iload_n 3, 1) := by decide +kernel
theorem dX5_pack_101 : decode cX5_pack 101 = .ok (.iconst 0, 1) := by decide +kernel
theorem dX5_pack_102 : decode cX5_pack 102 = .ok (.invokevirtual 38, 3) := by decide +kernel
theorem dX5_pack_105 : decode cX5_pack 105 = .ok (.invokevirtual 161, 3) := by decide +kernel
theorem dX5_pack_108 : decode cX5_pack 108 = .ok (.iinc 2 1, 3) := by decide +kernel
theorem dX5_pack_111 : decode cX5_pack 111 = .ok (.goto (-100), 3) := by decide +kernel
theorem dX5_pack_114 : decode cX5_pack 114 = .ok (.iload_n 1, 1) := by decide +kernel
theorem dX5_pack_115 : decode cX5_pack 115 = .ok (.aload_n 0, 1) := by decide +kernel
theorem dX5_pack_116 : decode cX5_pack 116 = .ok (.invokevirtual 176, 3) := by decide +kernel
theorem dX5_pack_119 : decode cX5_pack 119 = .ok (.isub, 1) := by decide +kernel
theorem dX5_pack_120 : decode cX5_pack 120 = .ok (.ireturn, 1) := by decide +kernel
theorem dX5_set_0 : decode cX5_set 0 = .ok (.iload_n 1, 1) := by decide +kernel
theorem dX5_set_1 : decode cX5_set 1 = .ok (.iconst 0, 1) := by decide +kernel
theorem dX5_set_2 : decode cX5_set 2 = .ok (.iconst 1, 1) := by decide +kernel
theorem dX5_set_3 : decode cX5_set 3 = .ok (.invokestatic 81, 3) := by decide +kernel
theorem dX5_set_6 : decode cX5_set 6 = .ok (.ifCond .eq 29, 3) := by decide +kernel
theorem dX5_set_9 : decode cX5_set 9 = .ok (.iload_n 2, 1) := by decide +kernel
theorem dX5_set_10 : decode cX5_set 10 = .ok (.iload_n 1, 1) := by decide +kernel
theorem dX5_set_11 : decode cX5_set 11 = .ok (.ifCond .ne 7, 3) := by decide +kernel
theorem dX5_set_14 : decode cX5_set 14 = .ok (.iconst 1, 1) := by decide +kernel
theorem dX5_set_15 : decode cX5_set 15 = .ok (.goto 4, 3) := by decide +kernel
theorem dX5_set_18 : decode cX5_set 18 = .ok (.iconst 0, 1) := by decide +kernel
theorem dX5_set_19 : decode cX5_set 19 = .ok (.iload_n 1, 1) := by decide +kernel
theorem dX5_set_20 : decode cX5_set 20 = .ok (.ifCond .ne 8, 3) := by decide +kernel
theorem dX5_set_23 : decode cX5_set 23 = .ok (.bipush 8, 2) := by decide +kernel
theorem dX5_set_25 : decode cX5_set 25 = .ok (.goto 4, 3) := by decide +kernel
theorem dX5_set_28 : decode cX5_set 28 = .ok (.iconst 1, 1) := by decide +kernel
theorem dX5_set_29 : decode cX5_set 29 = .ok (.invokestatic 81, 3) := by decide +kernel
theorem dX5_set_32 : decode cX5_set 32 = .ok (.ifCond .ne 6, 3) := by decide +kernel
theorem dX5_set_35 : decode cX5_set 35 = .ok (.bipush (-2), 2) := by decide +kernel
theorem dX5_set_37 : decode cX5_set 37 = .ok (.ireturn, 1) := by decide +kernel
theorem dX5_set_38 : decode cX5_set 38 = .ok (.aload_n 0, 1) := by decide +kernel
theorem dX5_set_39 : decode cX5_set 39 = .ok (.invokevirtual 137, 3) := by decide +kernel
theorem dX5_set_42 : decode cX5_set 42 = .ok (.aload_n 0, 1) := by decide +kernel
theorem dX5_set_43 : decode cX5_set 43 = .ok (.getfield 7, 3) := by decide +kernel
theorem dX5_set_46 : decode cX5_set 46 = .ok (.sipush 596, 3) := by decide +kernel
theorem dX5_set_49 : decode cX5_set 49 = .ok (.iload_n 1, 1) := by decide +kernel
theorem dX5_set_50 : decode cX5_set 50 = .ok (.iadd, 1) := by decide +kernel
theorem dX5_set_51 : decode cX5_set 51 = .ok (.iaload, 1) := by decide +kernel
theorem dX5_set_52 : decode cX5_set 52 = .ok (.istore_n 3, 1) := by decide +kernel
theorem dX5_set_53 : decode cX5_set 53 = .ok (.aload_n 0, 1) := by decide +kernel
theorem dX5_set_54 : decode cX5_set 54 = .ok (.getfield 7, 3) := by decide +kernel
theorem dX5_set_57 : decode cX5_set 57 = .ok (.sipush 596, 3) := by decide +kernel
theorem dX5_set_60 : decode cX5_set 60 = .ok (.iload_n 1, 1) := by decide +kernel
theorem dX5_set_61 : decode cX5_set 61 = .ok (.iadd, 1) := by decide +kernel
theorem dX5_set_62 : decode cX5_set 62 = .ok (.iload_n 2, 1) := by decide +kernel
theorem dX5_set_63 : decode cX5_set 63 = .ok (.iastore, 1) := by decide +kernel
theorem dX5_set_64 : decode cX5_set 64 = .ok (.iload_n 3, 1) := by decide +kernel
theorem dX5_set_65 : decode cX5_set 65 = .ok (.ireturn, 1) := by decide +kernel
theorem dX5_value_0 : decode cX5_value 0 = .ok (.iload_n 1, 1) := by decide +kernel
theorem dX5_value_1 : decode cX5_value 1 = .ok (.ifCond .ge 6, 3) := by decide +kernel
theorem dX5_value_4 : decode cX5_value 4 = .ok (.bipush (-2), 2) := by decide +kernel
theorem dX5_value_6 : decode cX5_value 6 = .ok (.ireturn, 1) := by decide +kernel
theorem dX5_value_7 : decode cX5_value 7 = .ok (.iload_n 1, 1) := by decide +kernel
theorem dX5_value_8 : decode cX5_value 8 = .ok (.aload_n 0, 1) := by decide +kernel
theorem dX5_value_9 : decode cX5_value 9 = .ok (.getfield 7, 3) := by decide +kernel
theorem dX5_value_12 : decode cX5_value 12 = .ok (.sipush 582, 3) := by decide +kernel
theorem dX5_value_15 : decode cX5_value 15 = .ok (.iaload, 1) := by decide +kernel
theorem dX5_value_16 : decode cX5_value 16 = .ok (.invokestatic 52, 3) := by decide +kernel
theorem dX5_value_19 : decode cX5_value 19 = .ok (.if_icmp .ge 16, 3) := by decide +kernel
theorem dX5_value_22 : decode cX5_value 22 = .ok (.aload_n 0, 1) := by decide +kernel
theorem dX5_value_23 : decode cX5_value 23 = .ok (.getfield 7, 3) := by decide +kernel
theorem dX5_value_26 : decode cX5_value 26 = .ok (.sipush 583, 3) := by decide +kernel
theorem dX5_value_29 : decode cX5_value 29 = .ok (.iload_n 1, 1) := by decide +kernel
theorem dX5_value_30 : decode cX5_value 30 = .ok (.iadd, 1) := by decide +kernel
theorem dX5_value_31 : decode cX5_value 31 = .ok (.iaload, 1) := by decide +kernel
theorem dX5_value_32 : decode cX5_value 32 = .ok (.goto 4, 3) := by decide +kernel
theorem dX5_value_35 : decode cX5_value 35 = .ok (.iconst (-1), 1) := by decide +kernel
theorem dX5_value_36 : decode cX5_value 36 = .ok (.ireturn, 1) := by decide +kernel
theorem dX5_part_0 : decode cX5_part 0 = .ok (.iload_n 2, 1) := by decide +kernel
theorem dX5_part_1 : decode cX5_part 1 = .ok (.tableswitch 107 0 6 #[43, 50, 57, 64, 71, 82, 101], 43) := by decide +kernel
theorem dX5_part_44 : decode cX5_part 44 = .ok (.aload_n 0, 1) := by decide +kernel
theorem dX5_part_45 : decode cX5_part 45 = .ok (.iload_n 1, 1) := by decide +kernel
theorem dX5_part_46 : decode cX5_part 46 = .ok (.iconst 1, 1) := by decide +kernel
theorem dX5_part_47 : decode cX5_part 47 = .ok (.invokevirtual 38, 3) := by decide +kernel
theorem dX5_part_50 : decode cX5_part 50 = .ok (.ireturn, 1) := by decide +kernel
theorem dX5_part_51 : decode cX5_part 51 = .ok (.aload_n 0, 1) := by decide +kernel
theorem dX5_part_52 : decode cX5_part 52 = .ok (.iload_n 1, 1) := by decide +kernel
theorem dX5_part_53 : decode cX5_part 53 = .ok (.iconst 2, 1) := by decide +kernel
theorem dX5_part_54 : decode cX5_part 54 = .ok (.invokevirtual 38, 3) := by decide +kernel
theorem dX5_part_57 : decode cX5_part 57 = .ok (.ireturn, 1) := by decide +kernel
theorem dX5_part_58 : decode cX5_part 58 = .ok (.aload_n 0, 1) := by decide +kernel
theorem dX5_part_59 : decode cX5_part 59 = .ok (.iload_n 1, 1) := by decide +kernel
theorem dX5_part_60 : decode cX5_part 60 = .ok (.iconst 3, 1) := by decide +kernel
theorem dX5_part_61 : decode cX5_part 61 = .ok (.invokevirtual 38, 3) := by decide +kernel
theorem dX5_part_64 : decode cX5_part 64 = .ok (.ireturn, 1) := by decide +kernel
theorem dX5_part_65 : decode cX5_part 65 = .ok (.aload_n 0, 1) := by decide +kernel
theorem dX5_part_66 : decode cX5_part 66 = .ok (.iload_n 1, 1) := by decide +kernel
theorem dX5_part_67 : decode cX5_part 67 = .ok (.iconst 4, 1) := by decide +kernel
theorem dX5_part_68 : decode cX5_part 68 = .ok (.invokevirtual 38, 3) := by decide +kernel
theorem dX5_part_71 : decode cX5_part 71 = .ok (.ireturn, 1) := by decide +kernel
theorem dX5_part_72 : decode cX5_part 72 = .ok (.aload_n 0, 1) := by decide +kernel
theorem dX5_part_73 : decode cX5_part 73 = .ok (.aload_n 0, 1) := by decide +kernel
theorem dX5_part_74 : decode cX5_part 74 = .ok (.iload_n 1, 1) := by decide +kernel
theorem dX5_part_75 : decode cX5_part 75 = .ok (.iconst 0, 1) := by decide +kernel
theorem dX5_part_76 : decode cX5_part 76 = .ok (.invokevirtual 38, 3) := by decide +kernel
theorem dX5_part_79 : decode cX5_part 79 = .ok (.invokevirtual 173, 3) := by decide +kernel
theorem dX5_part_82 : decode cX5_part 82 = .ok (.ireturn, 1) := by decide +kernel
theorem dX5_part_83 : decode cX5_part 83 = .ok (.aload_n 0, 1) := by decide +kernel
theorem dX5_part_84 : decode cX5_part 84 = .ok (.aload_n 0, 1) := by decide +kernel
theorem dX5_part_85 : decode cX5_part 85 = .ok (.iload_n 1, 1) := by decide +kernel
theorem dX5_part_86 : decode cX5_part 86 = .ok (.iconst 0, 1) := by decide +kernel
theorem dX5_part_87 : decode cX5_part 87 = .ok (.invokevirtual 38, 3) := by decide +kernel
theorem dX5_part_90 : decode cX5_part 90 = .ok (.invokevirtual 152, 3) := by decide +kernel
theorem dX5_part_93 : decode cX5_part 93 = .ok (.ifCond .eq 7, 3) := by decide +kernel
theorem dX5_part_96 : decode cX5_part 96 = .ok (.iconst 1, 1) := by decide +kernel
theorem dX5_part_97 : decode cX5_part 97 = .ok (.goto 4, 3) := by decide +kernel
theorem dX5_part_100 : decode cX5_part 100 = .ok (.iconst 0, 1) := by decide +kernel
theorem dX5_part_101 : decode cX5_part 101 = .ok (.ireturn, 1) := by decide +kernel
theorem dX5_part_102 : decode cX5_part 102 = .ok (.aload_n 0, 1) := by decide +kernel
theorem dX5_part_103 : decode cX5_part 103 = .ok (.iload_n 1, 1) := by decide +kernel
theorem dX5_part_104 : decode cX5_part 104 = .ok (.invokevirtual 170, 3) := by decide +kernel
theorem dX5_part_107 : decode cX5_part 107 = .ok (.ireturn, 1) := by decide +kernel
theorem dX5_part_108 : decode cX5_part 108 = .ok (.aload_n 0, 1) := by decide +kernel
theorem dX5_part_109 : decode cX5_part 109 = .ok (.aload_n 0, 1) := by decide +kernel
theorem dX5_part_110 : decode cX5_part 110 = .ok (.iload_n 1, 1) := by decide +kernel
theorem dX5_part_111 : decode cX5_part 111 = .ok (.iconst 0, 1) := by decide +kernel
theorem dX5_part_112 : decode cX5_part 112 = .ok (.invokevirtual 38, 3) := by decide +kernel
theorem dX5_part_115 : decode cX5_part 115 = .ok (.invokevirtual 167, 3) := by decide +kernel
theorem dX5_part_118 : decode cX5_part 118 = .ok (.ireturn, 1) := by decide +kernel
theorem dX5_kept_0 : decode cX5_kept 0 = .ok (.iload_n 1, 1) := by decide +kernel
theorem dX5_kept_1 : decode cX5_kept 1 = .ok (.ifCond .lt 13, 3) := by decide +kernel
theorem dX5_kept_4 : decode cX5_kept 4 = .ok (.iload_n 2, 1) := by decide +kernel
theorem dX5_kept_5 : decode cX5_kept 5 = .ok (.iconst 0, 1) := by decide +kernel
theorem dX5_kept_6 : decode cX5_kept 6 = .ok (.bipush 7, 2) := by decide +kernel
theorem dX5_kept_8 : decode cX5_kept 8 = .ok (.invokestatic 81, 3) := by decide +kernel
theorem dX5_kept_11 : decode cX5_kept 11 = .ok (.ifCond .ne 6, 3) := by decide +kernel
theorem dX5_kept_14 : decode cX5_kept 14 = .ok (.bipush (-2), 2) := by decide +kernel
theorem dX5_kept_16 : decode cX5_kept 16 = .ok (.ireturn, 1) := by decide +kernel
theorem dX5_kept_17 : decode cX5_kept 17 = .ok (.aload_n 0, 1) := by decide +kernel
theorem dX5_kept_18 : decode cX5_kept 18 = .ok (.iload_n 1, 1) := by decide +kernel
theorem dX5_kept_19 : decode cX5_kept 19 = .ok (.invokevirtual 59, 3) := by decide +kernel
theorem dX5_kept_22 : decode cX5_kept 22 = .ok (.istore_n 3, 1) := by decide +kernel
theorem dX5_kept_23 : decode cX5_kept 23 = .ok (.iload_n 3, 1) := by decide +kernel
theorem dX5_kept_24 : decode cX5_kept 24 = .ok (.iconst (-1), 1) := by decide +kernel
theorem dX5_kept_25 : decode cX5_kept 25 = .ok (.if_icmp .ne 7, 3) := by decide +kernel
theorem dX5_kept_28 : decode cX5_kept 28 = .ok (.iconst (-1), 1) := by decide +kernel
theorem dX5_kept_29 : decode cX5_kept 29 = .ok (.goto 9, 3) := by decide +kernel
theorem dX5_kept_32 : decode cX5_kept 32 = .ok (.aload_n 0, 1) := by decide +kernel
theorem dX5_kept_33 : decode cX5_kept 33 = .ok (.iload_n 3, 1) := by decide +kernel
theorem dX5_kept_34 : decode cX5_kept 34 = .ok (.iload_n 2, 1) := by decide +kernel
theorem dX5_kept_35 : decode cX5_kept 35 = .ok (.invokevirtual 182, 3) := by decide +kernel
theorem dX5_kept_38 : decode cX5_kept 38 = .ok (.ireturn, 1) := by decide +kernel
theorem dX5_entry_0 : decode cX5_entry 0 = .ok (.iload_n 1, 1) := by decide +kernel
theorem dX5_entry_1 : decode cX5_entry 1 = .ok (.ifCond .lt 16, 3) := by decide +kernel
theorem dX5_entry_4 : decode cX5_entry 4 = .ok (.iload_n 2, 1) := by decide +kernel
theorem dX5_entry_5 : decode cX5_entry 5 = .ok (.ifCond .lt 12, 3) := by decide +kernel
theorem dX5_entry_8 : decode cX5_entry 8 = .ok (.iload_n 3, 1) := by decide +kernel
theorem dX5_entry_9 : decode cX5_entry 9 = .ok (.iconst 0, 1) := by decide +kernel
theorem dX5_entry_10 : decode cX5_entry 10 = .ok (.iconst 1, 1) := by decide +kernel
theorem dX5_entry_11 : decode cX5_entry 11 = .ok (.invokestatic 81, 3) := by decide +kernel
theorem dX5_entry_14 : decode cX5_entry 14 = .ok (.ifCond .ne 6, 3) := by decide +kernel
theorem dX5_entry_17 : decode cX5_entry 17 = .ok (.bipush (-2), 2) := by decide +kernel
theorem dX5_entry_19 : decode cX5_entry 19 = .ok (.ireturn, 1) := by decide +kernel
theorem dX5_entry_20 : decode cX5_entry 20 = .ok (.aload_n 0, 1) := by decide +kernel
theorem dX5_entry_21 : decode cX5_entry 21 = .ok (.iload_n 1, 1) := by decide +kernel
theorem dX5_entry_22 : decode cX5_entry 22 = .ok (.invokevirtual 59, 3) := by decide +kernel
theorem dX5_entry_25 : decode cX5_entry 25 = .ok (.istore 4, 2) := by decide +kernel
theorem dX5_entry_27 : decode cX5_entry 27 = .ok (.iload 4, 2) := by decide +kernel
theorem dX5_entry_29 : decode cX5_entry 29 = .ok (.iconst (-1), 1) := by decide +kernel
theorem dX5_entry_30 : decode cX5_entry 30 = .ok (.if_icmp .eq 14, 3) := by decide +kernel
theorem dX5_entry_33 : decode cX5_entry 33 = .ok (.iload_n 2, 1) := by decide +kernel
theorem dX5_entry_34 : decode cX5_entry 34 = .ok (.aload_n 0, 1) := by decide +kernel
theorem dX5_entry_35 : decode cX5_entry 35 = .ok (.iload 4, 2) := by decide +kernel
theorem dX5_entry_37 : decode cX5_entry 37 = .ok (.iconst 4, 1) := by decide +kernel
theorem dX5_entry_38 : decode cX5_entry 38 = .ok (.invokevirtual 38, 3) := by decide +kernel
theorem dX5_entry_41 : decode cX5_entry 41 = .ok (.if_icmp .lt 5, 3) := by decide +kernel
theorem dX5_entry_44 : decode cX5_entry 44 = .ok (.iconst (-1), 1) := by decide +kernel
theorem dX5_entry_45 : decode cX5_entry 45 = .ok (.ireturn, 1) := by decide +kernel
theorem dX5_entry_46 : decode cX5_entry 46 = .ok (.aload_n 0, 1) := by decide +kernel
theorem dX5_entry_47 : decode cX5_entry 47 = .ok (.iload 4, 2) := by decide +kernel
theorem dX5_entry_49 : decode cX5_entry 49 = .ok (.iload_n 3, 1) := by decide +kernel
theorem dX5_entry_50 : decode cX5_entry 50 = .ok (.ifCond .ne 7, 3) := by decide +kernel
theorem dX5_entry_53 : decode cX5_entry 53 = .ok (.iconst 5, 1) := by decide +kernel
theorem dX5_entry_54 : decode cX5_entry 54 = .ok (.goto 5, 3) := by decide +kernel
theorem dX5_entry_57 : decode cX5_entry 57 = .ok (.bipush 17, 2) := by decide +kernel
theorem dX5_entry_59 : decode cX5_entry 59 = .ok (.iload_n 2, 1) := by decide +kernel
theorem dX5_entry_60 : decode cX5_entry 60 = .ok (.iadd, 1) := by decide +kernel
theorem dX5_entry_61 : decode cX5_entry 61 = .ok (.invokevirtual 38, 3) := by decide +kernel
theorem dX5_entry_64 : decode cX5_entry 64 = .ok (.ireturn, 1) := by decide +kernel
theorem dX5_read_0 : decode cX5_read 0 = .ok (.aload_n 0, 1) := by decide +kernel
theorem dX5_read_1 : decode cX5_read 1 = .ok (.iload_n 1, 1) := by decide +kernel
theorem dX5_read_2 : decode cX5_read 2 = .ok (.invokevirtual 59, 3) := by decide +kernel
theorem dX5_read_5 : decode cX5_read 5 = .ok (.istore 4, 2) := by decide +kernel
theorem dX5_read_7 : decode cX5_read 7 = .ok (.iload 4, 2) := by decide +kernel
theorem dX5_read_9 : decode cX5_read 9 = .ok (.iconst (-1), 1) := by decide +kernel
theorem dX5_read_10 : decode cX5_read 10 = .ok (.if_icmp .eq 26, 3) := by decide +kernel
theorem dX5_read_13 : decode cX5_read 13 = .ok (.iload_n 2, 1) := by decide +kernel
theorem dX5_read_14 : decode cX5_read 14 = .ok (.ifCond .eq 18, 3) := by decide +kernel
theorem dX5_read_17 : decode cX5_read 17 = .ok (.iload_n 2, 1) := by decide +kernel
theorem dX5_read_18 : decode cX5_read 18 = .ok (.aload_n 0, 1) := by decide +kernel
theorem dX5_read_19 : decode cX5_read 19 = .ok (.iload 4, 2) := by decide +kernel
theorem dX5_read_21 : decode cX5_read 21 = .ok (.iconst 1, 1) := by decide +kernel
theorem dX5_read_22 : decode cX5_read 22 = .ok (.invokevirtual 38, 3) := by decide +kernel
theorem dX5_read_25 : decode cX5_read 25 = .ok (.iconst 3, 1) := by decide +kernel
theorem dX5_read_26 : decode cX5_read 26 = .ok (.invokestatic 81, 3) := by decide +kernel
theorem dX5_read_29 : decode cX5_read 29 = .ok (.ifCond .eq 7, 3) := by decide +kernel
theorem dX5_read_32 : decode cX5_read 32 = .ok (.iload_n 3, 1) := by decide +kernel
theorem dX5_read_33 : decode cX5_read 33 = .ok (.ifCond .ge 6, 3) := by decide +kernel
theorem dX5_read_36 : decode cX5_read 36 = .ok (.bipush (-2), 2) := by decide +kernel
theorem dX5_read_38 : decode cX5_read 38 = .ok (.ireturn, 1) := by decide +kernel
theorem dX5_read_39 : decode cX5_read 39 = .ok (.aload_n 0, 1) := by decide +kernel
theorem dX5_read_40 : decode cX5_read 40 = .ok (.iload_n 1, 1) := by decide +kernel
theorem dX5_read_41 : decode cX5_read 41 = .ok (.invokevirtual 152, 3) := by decide +kernel
theorem dX5_read_44 : decode cX5_read 44 = .ok (.ifCond .ne 6, 3) := by decide +kernel
theorem dX5_read_47 : decode cX5_read 47 = .ok (.bipush (-3), 2) := by decide +kernel
theorem dX5_read_49 : decode cX5_read 49 = .ok (.ireturn, 1) := by decide +kernel
theorem dX5_read_50 : decode cX5_read 50 = .ok (.aload_n 0, 1) := by decide +kernel
theorem dX5_read_51 : decode cX5_read 51 = .ok (.iload_n 2, 1) := by decide +kernel
theorem dX5_read_52 : decode cX5_read 52 = .ok (.invokevirtual 70, 3) := by decide +kernel
theorem dX5_read_55 : decode cX5_read 55 = .ok (.iload_n 3, 1) := by decide +kernel
theorem dX5_read_56 : decode cX5_read 56 = .ok (.aload_n 0, 1) := by decide +kernel
theorem dX5_read_57 : decode cX5_read 57 = .ok (.getfield 46, 3) := by decide +kernel
theorem dX5_read_60 : decode cX5_read 60 = .ok (.invokestatic 52, 3) := by decide +kernel
theorem dX5_read_63 : decode cX5_read 63 = .ok (.if_icmp .ge 12, 3) := by decide +kernel
theorem dX5_read_66 : decode cX5_read 66 = .ok (.aload_n 0, 1) := by decide +kernel
theorem dX5_read_67 : decode cX5_read 67 = .ok (.getfield 16, 3) := by decide +kernel
theorem dX5_read_70 : decode cX5_read 70 = .ok (.iload_n 3, 1) := by decide +kernel
theorem dX5_read_71 : decode cX5_read 71 = .ok (.iaload, 1) := by decide +kernel
theorem dX5_read_72 : decode cX5_read 72 = .ok (.goto 4, 3) := by decide +kernel
theorem dX5_read_75 : decode cX5_read 75 = .ok (.iconst (-1), 1) := by decide +kernel
theorem dX5_read_76 : decode cX5_read 76 = .ok (.ireturn, 1) := by decide +kernel
theorem dX5_cause_0 : decode cX5_cause 0 = .ok (.iload_n 1, 1) := by decide +kernel
theorem dX5_cause_1 : decode cX5_cause 1 = .ok (.iconst 0, 1) := by decide +kernel
theorem dX5_cause_2 : decode cX5_cause 2 = .ok (.aload_n 0, 1) := by decide +kernel
theorem dX5_cause_3 : decode cX5_cause 3 = .ok (.getfield 7, 3) := by decide +kernel
theorem dX5_cause_6 : decode cX5_cause 6 = .ok (.sipush 581, 3) := by decide +kernel
theorem dX5_cause_9 : decode cX5_cause 9 = .ok (.iaload, 1) := by decide +kernel
theorem dX5_cause_10 : decode cX5_cause 10 = .ok (.iconst 1, 1) := by decide +kernel
theorem dX5_cause_11 : decode cX5_cause 11 = .ok (.isub, 1) := by decide +kernel
theorem dX5_cause_12 : decode cX5_cause 12 = .ok (.invokestatic 81, 3) := by decide +kernel
theorem dX5_cause_15 : decode cX5_cause 15 = .ok (.ifCond .eq 16, 3) := by decide +kernel
theorem dX5_cause_18 : decode cX5_cause 18 = .ok (.iload_n 2, 1) := by decide +kernel
theorem dX5_cause_19 : decode cX5_cause 19 = .ok (.ifCond .lt 12, 3) := by decide +kernel
theorem dX5_cause_22 : decode cX5_cause 22 = .ok (.iload_n 3, 1) := by decide +kernel
theorem dX5_cause_23 : decode cX5_cause 23 = .ok (.iconst 0, 1) := by decide +kernel
theorem dX5_cause_24 : decode cX5_cause 24 = .ok (.iconst 1, 1) := by decide +kernel
theorem dX5_cause_25 : decode cX5_cause 25 = .ok (.invokestatic 81, 3) := by decide +kernel
theorem dX5_cause_28 : decode cX5_cause 28 = .ok (.ifCond .ne 6, 3) := by decide +kernel
theorem dX5_cause_31 : decode cX5_cause 31 = .ok (.bipush (-2), 2) := by decide +kernel
theorem dX5_cause_33 : decode cX5_cause 33 = .ok (.ireturn, 1) := by decide +kernel
theorem dX5_cause_34 : decode cX5_cause 34 = .ok (.aload_n 0, 1) := by decide +kernel
theorem dX5_cause_35 : decode cX5_cause 35 = .ok (.iload_n 1, 1) := by decide +kernel
theorem dX5_cause_36 : decode cX5_cause 36 = .ok (.invokevirtual 152, 3) := by decide +kernel
theorem dX5_cause_39 : decode cX5_cause 39 = .ok (.istore 4, 2) := by decide +kernel
theorem dX5_cause_41 : decode cX5_cause 41 = .ok (.iload 4, 2) := by decide +kernel
theorem dX5_cause_43 : decode cX5_cause 43 = .ok (.ifCond .ne 25, 3) := by decide +kernel
theorem dX5_cause_46 : decode cX5_cause 46 = .ok (.iload_n 2, 1) := by decide +kernel
theorem dX5_cause_47 : decode cX5_cause 47 = .ok (.aload_n 0, 1) := by decide +kernel
theorem dX5_cause_48 : decode cX5_cause 48 = .ok (.getfield 56, 3) := by decide +kernel
theorem dX5_cause_51 : decode cX5_cause 51 = .ok (.if_icmp .ge 17, 3) := by decide +kernel
theorem dX5_cause_54 : decode cX5_cause 54 = .ok (.aload_n 0, 1) := by decide +kernel
theorem dX5_cause_55 : decode cX5_cause 55 = .ok (.getfield 22, 3) := by decide +kernel
theorem dX5_cause_58 : decode cX5_cause 58 = .ok (.iload_n 2, 1) := by decide +kernel
theorem dX5_cause_59 : decode cX5_cause 59 = .ok (.iaload, 1) := by decide +kernel
theorem dX5_cause_60 : decode cX5_cause 60 = .ok (.iconst (-1), 1) := by decide +kernel
theorem dX5_cause_61 : decode cX5_cause 61 = .ok (.if_icmp .eq 7, 3) := by decide +kernel
theorem dX5_cause_64 : decode cX5_cause 64 = .ok (.iconst 1, 1) := by decide +kernel
theorem dX5_cause_65 : decode cX5_cause 65 = .ok (.goto 4, 3) := by decide +kernel
theorem dX5_cause_68 : decode cX5_cause 68 = .ok (.iconst 0, 1) := by decide +kernel
theorem dX5_cause_69 : decode cX5_cause 69 = .ok (.istore 5, 2) := by decide +kernel
theorem dX5_cause_71 : decode cX5_cause 71 = .ok (.iload 5, 2) := by decide +kernel
theorem dX5_cause_73 : decode cX5_cause 73 = .ok (.ifCond .ne 7, 3) := by decide +kernel
theorem dX5_cause_76 : decode cX5_cause 76 = .ok (.iconst (-1), 1) := by decide +kernel
theorem dX5_cause_77 : decode cX5_cause 77 = .ok (.goto 22, 3) := by decide +kernel
theorem dX5_cause_80 : decode cX5_cause 80 = .ok (.iload_n 3, 1) := by decide +kernel
theorem dX5_cause_81 : decode cX5_cause 81 = .ok (.ifCond .ne 12, 3) := by decide +kernel
theorem dX5_cause_84 : decode cX5_cause 84 = .ok (.aload_n 0, 1) := by decide +kernel
theorem dX5_cause_85 : decode cX5_cause 85 = .ok (.getfield 22, 3) := by decide +kernel
theorem dX5_cause_88 : decode cX5_cause 88 = .ok (.iload_n 2, 1) := by decide +kernel
theorem dX5_cause_89 : decode cX5_cause 89 = .ok (.iaload, 1) := by decide +kernel
theorem dX5_cause_90 : decode cX5_cause 90 = .ok (.goto 9, 3) := by decide +kernel
theorem dX5_cause_93 : decode cX5_cause 93 = .ok (.aload_n 0, 1) := by decide +kernel
theorem dX5_cause_94 : decode cX5_cause 94 = .ok (.getfield 19, 3) := by decide +kernel
theorem dX5_cause_97 : decode cX5_cause 97 = .ok (.iload_n 2, 1) := by decide +kernel
theorem dX5_cause_98 : decode cX5_cause 98 = .ok (.iaload, 1) := by decide +kernel
theorem dX5_cause_99 : decode cX5_cause 99 = .ok (.ireturn, 1) := by decide +kernel
theorem dX5_apart_0 : decode cX5_apart 0 = .ok (.aload_n 0, 1) := by decide +kernel
theorem dX5_apart_1 : decode cX5_apart 1 = .ok (.iload_n 1, 1) := by decide +kernel
theorem dX5_apart_2 : decode cX5_apart 2 = .ok (.invokevirtual 59, 3) := by decide +kernel
theorem dX5_apart_5 : decode cX5_apart 5 = .ok (.istore_n 3, 1) := by decide +kernel
theorem dX5_apart_6 : decode cX5_apart 6 = .ok (.aload_n 0, 1) := by decide +kernel
theorem dX5_apart_7 : decode cX5_apart 7 = .ok (.iload_n 2, 1) := by decide +kernel
theorem dX5_apart_8 : decode cX5_apart 8 = .ok (.invokevirtual 59, 3) := by decide +kernel
theorem dX5_apart_11 : decode cX5_apart 11 = .ok (.istore 4, 2) := by decide +kernel
theorem dX5_apart_13 : decode cX5_apart 13 = .ok (.iload_n 3, 1) := by decide +kernel
theorem dX5_apart_14 : decode cX5_apart 14 = .ok (.iconst (-1), 1) := by decide +kernel
theorem dX5_apart_15 : decode cX5_apart 15 = .ok (.if_icmp .eq 9, 3) := by decide +kernel
theorem dX5_apart_18 : decode cX5_apart 18 = .ok (.iload 4, 2) := by decide +kernel
theorem dX5_apart_20 : decode cX5_apart 20 = .ok (.iconst (-1), 1) := by decide +kernel
theorem dX5_apart_21 : decode cX5_apart 21 = .ok (.if_icmp .ne 6, 3) := by decide +kernel
theorem dX5_apart_24 : decode cX5_apart 24 = .ok (.bipush (-2), 2) := by decide +kernel
theorem dX5_apart_26 : decode cX5_apart 26 = .ok (.ireturn, 1) := by decide +kernel
theorem dX5_apart_27 : decode cX5_apart 27 = .ok (.aload_n 0, 1) := by decide +kernel
theorem dX5_apart_28 : decode cX5_apart 28 = .ok (.iload_n 3, 1) := by decide +kernel
theorem dX5_apart_29 : decode cX5_apart 29 = .ok (.iconst 1, 1) := by decide +kernel
theorem dX5_apart_30 : decode cX5_apart 30 = .ok (.invokevirtual 38, 3) := by decide +kernel
theorem dX5_apart_33 : decode cX5_apart 33 = .ok (.aload_n 0, 1) := by decide +kernel
theorem dX5_apart_34 : decode cX5_apart 34 = .ok (.iload 4, 2) := by decide +kernel
theorem dX5_apart_36 : decode cX5_apart 36 = .ok (.iconst 1, 1) := by decide +kernel
theorem dX5_apart_37 : decode cX5_apart 37 = .ok (.invokevirtual 38, 3) := by decide +kernel
theorem dX5_apart_40 : decode cX5_apart 40 = .ok (.if_icmp .le 12, 3) := by decide +kernel
theorem dX5_apart_43 : decode cX5_apart 43 = .ok (.aload_n 0, 1) := by decide +kernel
theorem dX5_apart_44 : decode cX5_apart 44 = .ok (.iload_n 3, 1) := by decide +kernel
theorem dX5_apart_45 : decode cX5_apart 45 = .ok (.iconst 1, 1) := by decide +kernel
theorem dX5_apart_46 : decode cX5_apart 46 = .ok (.invokevirtual 38, 3) := by decide +kernel
theorem dX5_apart_49 : decode cX5_apart 49 = .ok (.goto 10, 3) := by decide +kernel
theorem dX5_apart_52 : decode cX5_apart 52 = .ok (.aload_n 0, 1) := by decide +kernel
theorem dX5_apart_53 : decode cX5_apart 53 = .ok (.iload 4, 2) := by decide +kernel
theorem dX5_apart_55 : decode cX5_apart 55 = .ok (.iconst 1, 1) := by decide +kernel
theorem dX5_apart_56 : decode cX5_apart 56 = .ok (.invokevirtual 38, 3) := by decide +kernel
theorem dX5_apart_59 : decode cX5_apart 59 = .ok (.istore 5, 2) := by decide +kernel
theorem dX5_apart_61 : decode cX5_apart 61 = .ok (.aload_n 0, 1) := by decide +kernel
theorem dX5_apart_62 : decode cX5_apart 62 = .ok (.iload_n 1, 1) := by decide +kernel
theorem dX5_apart_63 : decode cX5_apart 63 = .ok (.invokevirtual 152, 3) := by decide +kernel
theorem dX5_apart_66 : decode cX5_apart 66 = .ok (.ifCond .ne 6, 3) := by decide +kernel
theorem dX5_apart_69 : decode cX5_apart 69 = .ok (.bipush (-3), 2) := by decide +kernel
theorem dX5_apart_71 : decode cX5_apart 71 = .ok (.ireturn, 1) := by decide +kernel
theorem dX5_apart_72 : decode cX5_apart 72 = .ok (.aload_n 0, 1) := by decide +kernel
theorem dX5_apart_73 : decode cX5_apart 73 = .ok (.iload 5, 2) := by decide +kernel
theorem dX5_apart_75 : decode cX5_apart 75 = .ok (.invokevirtual 70, 3) := by decide +kernel
theorem dX5_apart_78 : decode cX5_apart 78 = .ok (.aload_n 0, 1) := by decide +kernel
theorem dX5_apart_79 : decode cX5_apart 79 = .ok (.invokevirtual 149, 3) := by decide +kernel
theorem dX5_apart_82 : decode cX5_apart 82 = .ok (.aload_n 0, 1) := by decide +kernel
theorem dX5_apart_83 : decode cX5_apart 83 = .ok (.iload_n 2, 1) := by decide +kernel
theorem dX5_apart_84 : decode cX5_apart 84 = .ok (.invokevirtual 152, 3) := by decide +kernel
theorem dX5_apart_87 : decode cX5_apart 87 = .ok (.ifCond .ne 6, 3) := by decide +kernel
theorem dX5_apart_90 : decode cX5_apart 90 = .ok (.bipush (-3), 2) := by decide +kernel
theorem dX5_apart_92 : decode cX5_apart 92 = .ok (.ireturn, 1) := by decide +kernel
theorem dX5_apart_93 : decode cX5_apart 93 = .ok (.aload_n 0, 1) := by decide +kernel
theorem dX5_apart_94 : decode cX5_apart 94 = .ok (.iload 5, 2) := by decide +kernel
theorem dX5_apart_96 : decode cX5_apart 96 = .ok (.invokevirtual 70, 3) := by decide +kernel
theorem dX5_apart_99 : decode cX5_apart 99 = .ok (.aload_n 0, 1) := by decide +kernel
theorem dX5_apart_100 : decode cX5_apart 100 = .ok (.iload 5, 2) := by decide +kernel
theorem dX5_apart_102 : decode cX5_apart 102 = .ok (.invokestatic 52, 3) := by decide +kernel
theorem dX5_apart_105 : decode cX5_apart 105 = .ok (.invokevirtual 155, 3) := by decide +kernel
theorem dX5_apart_108 : decode cX5_apart 108 = .ok (.ireturn, 1) := by decide +kernel
theorem dX5_isInChain_0 : decode cX5_isInChain 0 = .ok (.iconst 0, 1) := by decide +kernel
theorem dX5_isInChain_1 : decode cX5_isInChain 1 = .ok (.istore_n 2, 1) := by decide +kernel
theorem dX5_isInChain_2 : decode cX5_isInChain 2 = .ok (.iconst 0, 1) := by decide +kernel
theorem dX5_isInChain_3 : decode cX5_isInChain 3 = .ok (.istore_n 3, 1) := by decide +kernel
theorem dX5_isInChain_4 : decode cX5_isInChain 4 = .ok (.iload_n 3, 1) := by decide +kernel
theorem dX5_isInChain_5 : decode cX5_isInChain 5 = .ok (.aload_n 0, 1) := by decide +kernel
theorem dX5_isInChain_6 : decode cX5_isInChain 6 = .ok (.getfield 56, 3) := by decide +kernel
theorem dX5_isInChain_9 : decode cX5_isInChain 9 = .ok (.if_icmp .ge 29, 3) := by decide +kernel
theorem dX5_isInChain_12 : decode cX5_isInChain 12 = .ok (.iload_n 2, 1) := by decide +kernel
theorem dX5_isInChain_13 : decode cX5_isInChain 13 = .ok (.ifCond .ne 13, 3) := by decide +kernel
theorem dX5_isInChain_16 : decode cX5_isInChain 16 = .ok (.aload_n 0, 1) := by decide +kernel
theorem dX5_isInChain_17 : decode cX5_isInChain 17 = .ok (.getfield 19, 3) := by decide +kernel
theorem dX5_isInChain_20 : decode cX5_isInChain 20 = .ok (.iload_n 3, 1) := by decide +kernel
theorem dX5_isInChain_21 : decode cX5_isInChain 21 = .ok (.iaload, 1) := by decide +kernel
theorem dX5_isInChain_22 : decode cX5_isInChain 22 = .ok (.iload_n 1, 1) := by decide +kernel
theorem dX5_isInChain_23 : decode cX5_isInChain 23 = .ok (.if_icmp .ne 7, 3) := by decide +kernel
theorem dX5_isInChain_26 : decode cX5_isInChain 26 = .ok (.iconst 1, 1) := by decide +kernel
theorem dX5_isInChain_27 : decode cX5_isInChain 27 = .ok (.goto 4, 3) := by decide +kernel
theorem dX5_isInChain_30 : decode cX5_isInChain 30 = .ok (.iconst 0, 1) := by decide +kernel
theorem dX5_isInChain_31 : decode cX5_isInChain 31 = .ok (.istore_n 2, 1) := by decide +kernel
theorem dX5_isInChain_32 : decode cX5_isInChain 32 = .ok (.iinc 3 1, 3) := by decide +kernel
theorem dX5_isInChain_35 : decode cX5_isInChain 35 = .ok (.goto (-31), 3) := by decide +kernel
theorem dX5_isInChain_38 : decode cX5_isInChain 38 = .ok (.iload_n 2, 1) := by decide +kernel
theorem dX5_isInChain_39 : decode cX5_isInChain 39 = .ok (.ireturn, 1) := by decide +kernel
theorem dX5_fork_0 : decode cX5_fork 0 = .ok (.aload_n 0, 1) := by decide +kernel
theorem dX5_fork_1 : decode cX5_fork 1 = .ok (.iload_n 1, 1) := by decide +kernel
theorem dX5_fork_2 : decode cX5_fork 2 = .ok (.invokevirtual 59, 3) := by decide +kernel
theorem dX5_fork_5 : decode cX5_fork 5 = .ok (.iconst (-1), 1) := by decide +kernel
theorem dX5_fork_6 : decode cX5_fork 6 = .ok (.if_icmp .eq 12, 3) := by decide +kernel
theorem dX5_fork_9 : decode cX5_fork 9 = .ok (.aload_n 0, 1) := by decide +kernel
theorem dX5_fork_10 : decode cX5_fork 10 = .ok (.iload_n 2, 1) := by decide +kernel
theorem dX5_fork_11 : decode cX5_fork 11 = .ok (.invokevirtual 59, 3) := by decide +kernel
theorem dX5_fork_14 : decode cX5_fork 14 = .ok (.iconst (-1), 1) := by decide +kernel
theorem dX5_fork_15 : decode cX5_fork 15 = .ok (.if_icmp .ne 6, 3) := by decide +kernel
theorem dX5_fork_18 : decode cX5_fork 18 = .ok (.bipush (-2), 2) := by decide +kernel
theorem dX5_fork_20 : decode cX5_fork 20 = .ok (.ireturn, 1) := by decide +kernel
theorem dX5_fork_21 : decode cX5_fork 21 = .ok (.aload_n 0, 1) := by decide +kernel
theorem dX5_fork_22 : decode cX5_fork 22 = .ok (.iload_n 2, 1) := by decide +kernel
theorem dX5_fork_23 : decode cX5_fork 23 = .ok (.invokevirtual 62, 3) := by decide +kernel
theorem dX5_fork_26 : decode cX5_fork 26 = .ok (.iload_n 1, 1) := by decide +kernel
theorem dX5_fork_27 : decode cX5_fork 27 = .ok (.istore_n 3, 1) := by decide +kernel
theorem dX5_fork_28 : decode cX5_fork 28 = .ok (.iload_n 3, 1) := by decide +kernel
theorem dX5_fork_29 : decode cX5_fork 29 = .ok (.iconst (-1), 1) := by decide +kernel
theorem dX5_fork_30 : decode cX5_fork 30 = .ok (.if_icmp .eq 39, 3) := by decide +kernel
theorem dX5_fork_33 : decode cX5_fork 33 = .ok (.aload_n 0, 1) := by decide +kernel
theorem dX5_fork_34 : decode cX5_fork 34 = .ok (.iload_n 3, 1) := by decide +kernel
theorem dX5_fork_35 : decode cX5_fork 35 = .ok (.invokevirtual 185, 3) := by decide +kernel
theorem dX5_fork_38 : decode cX5_fork 38 = .ok (.ifCond .ne 31, 3) := by decide +kernel
theorem dX5_fork_41 : decode cX5_fork 41 = .ok (.aload_n 0, 1) := by decide +kernel
theorem dX5_fork_42 : decode cX5_fork 42 = .ok (.iload_n 3, 1) := by decide +kernel
theorem dX5_fork_43 : decode cX5_fork 43 = .ok (.invokevirtual 59, 3) := by decide +kernel
theorem dX5_fork_46 : decode cX5_fork 46 = .ok (.istore 4, 2) := by decide +kernel
theorem dX5_fork_48 : decode cX5_fork 48 = .ok (.iload 4, 2) := by decide +kernel
theorem dX5_fork_50 : decode cX5_fork 50 = .ok (.iconst (-1), 1) := by decide +kernel
theorem dX5_fork_51 : decode cX5_fork 51 = .ok (.if_icmp .ne 7, 3) := by decide +kernel
theorem dX5_fork_54 : decode cX5_fork 54 = .ok (.iconst (-1), 1) := by decide +kernel
theorem dX5_fork_55 : decode cX5_fork 55 = .ok (.goto 10, 3) := by decide +kernel
theorem dX5_fork_58 : decode cX5_fork 58 = .ok (.aload_n 0, 1) := by decide +kernel
theorem dX5_fork_59 : decode cX5_fork 59 = .ok (.iload 4, 2) := by decide +kernel
theorem dX5_fork_61 : decode cX5_fork 61 = .ok (.iconst 3, 1) := by decide +kernel
theorem dX5_fork_62 : decode cX5_fork 62 = .ok (.invokevirtual 38, 3) := by decide +kernel
theorem dX5_fork_65 : decode cX5_fork 65 = .ok (.istore_n 3, 1) := by decide +kernel
theorem dX5_fork_66 : decode cX5_fork 66 = .ok (.goto (-38), 3) := by decide +kernel
theorem dX5_fork_69 : decode cX5_fork 69 = .ok (.iload_n 3, 1) := by decide +kernel
theorem dX5_fork_70 : decode cX5_fork 70 = .ok (.ireturn, 1) := by decide +kernel
theorem dX5_nearest_0 : decode cX5_nearest 0 = .ok (.aload_n 0, 1) := by decide +kernel
theorem dX5_nearest_1 : decode cX5_nearest 1 = .ok (.invokevirtual 143, 3) := by decide +kernel
theorem dX5_nearest_4 : decode cX5_nearest 4 = .ok (.aload_n 0, 1) := by decide +kernel
theorem dX5_nearest_5 : decode cX5_nearest 5 = .ok (.invokevirtual 149, 3) := by decide +kernel
theorem dX5_nearest_8 : decode cX5_nearest 8 = .ok (.iconst (-1), 1) := by decide +kernel
theorem dX5_nearest_9 : decode cX5_nearest 9 = .ok (.istore_n 1, 1) := by decide +kernel
theorem dX5_nearest_10 : decode cX5_nearest 10 = .ok (.iconst 0, 1) := by decide +kernel
theorem dX5_nearest_11 : decode cX5_nearest 11 = .ok (.istore_n 2, 1) := by decide +kernel
theorem dX5_nearest_12 : decode cX5_nearest 12 = .ok (.iconst 0, 1) := by decide +kernel
theorem dX5_nearest_13 : decode cX5_nearest 13 = .ok (.istore_n 3, 1) := by decide +kernel
theorem dX5_nearest_14 : decode cX5_nearest 14 = .ok (.iload_n 3, 1) := by decide +kernel
theorem dX5_nearest_15 : decode cX5_nearest 15 = .ok (.aload_n 0, 1) := by decide +kernel
theorem dX5_nearest_16 : decode cX5_nearest 16 = .ok (.getfield 7, 3) := by decide +kernel
theorem dX5_nearest_19 : decode cX5_nearest 19 = .ok (.sipush 580, 3) := by decide +kernel
theorem dX5_nearest_22 : decode cX5_nearest 22 = .ok (.iaload, 1) := by decide +kernel
theorem dX5_nearest_23 : decode cX5_nearest 23 = .ok (.if_icmp .ge 110, 3) := by decide +kernel
theorem dX5_nearest_26 : decode cX5_nearest 26 = .ok (.aload_n 0, 1) := by decide +kernel
theorem dX5_nearest_27 : decode cX5_nearest 27 = .ok (.iload_n 3, 1) := by decide +kernel
theorem dX5_nearest_28 : decode cX5_nearest 28 = .ok (.iconst 1, 1) := by decide +kernel
theorem dX5_nearest_29 : decode cX5_nearest 29 = .ok (.invokevirtual 38, 3) := by decide +kernel
theorem dX5_nearest_32 : decode cX5_nearest 32 = .ok (.aload_n 0, 1) := by decide +kernel
theorem dX5_nearest_33 : decode cX5_nearest 33 = .ok (.getfield 7, 3) := by decide +kernel
theorem dX5_nearest_36 : decode cX5_nearest 36 = .ok (.sipush 582, 3) := by decide +kernel
theorem dX5_nearest_39 : decode cX5_nearest 39 = .ok (.iaload, 1) := by decide +kernel
theorem dX5_nearest_40 : decode cX5_nearest 40 = .ok (.if_icmp .gt 87, 3) := by decide +kernel
theorem dX5_nearest_43 : decode cX5_nearest 43 = .ok (.aload_n 0, 1) := by decide +kernel
theorem dX5_nearest_44 : decode cX5_nearest 44 = .ok (.aload_n 0, 1) := by decide +kernel
theorem dX5_nearest_45 : decode cX5_nearest 45 = .ok (.iload_n 3, 1) := by decide +kernel
theorem dX5_nearest_46 : decode cX5_nearest 46 = .ok (.iconst 0, 1) := by decide +kernel
theorem dX5_nearest_47 : decode cX5_nearest 47 = .ok (.invokevirtual 38, 3) := by decide +kernel
theorem dX5_nearest_50 : decode cX5_nearest 50 = .ok (.invokevirtual 152, 3) := by decide +kernel
theorem dX5_nearest_53 : decode cX5_nearest 53 = .ok (.ifCond .eq 74, 3) := by decide +kernel
theorem dX5_nearest_56 : decode cX5_nearest 56 = .ok (.aload_n 0, 1) := by decide +kernel
theorem dX5_nearest_57 : decode cX5_nearest 57 = .ok (.aload_n 0, 1) := by decide +kernel
theorem dX5_nearest_58 : decode cX5_nearest 58 = .ok (.getfield 7, 3) := by decide +kernel
theorem dX5_nearest_61 : decode cX5_nearest 61 = .ok (.sipush 582, 3) := by decide +kernel
theorem dX5_nearest_64 : decode cX5_nearest 64 = .ok (.iaload, 1) := by decide +kernel
theorem dX5_nearest_65 : decode cX5_nearest 65 = .ok (.invokevirtual 70, 3) := by decide +kernel
theorem dX5_nearest_68 : decode cX5_nearest 68 = .ok (.aload_n 0, 1) := by decide +kernel
theorem dX5_nearest_69 : decode cX5_nearest 69 = .ok (.aload_n 0, 1) := by decide +kernel
theorem dX5_nearest_70 : decode cX5_nearest 70 = .ok (.getfield 46, 3) := by decide +kernel
theorem dX5_nearest_73 : decode cX5_nearest 73 = .ok (.invokestatic 52, 3) := by decide +kernel
theorem dX5_nearest_76 : decode cX5_nearest 76 = .ok (.invokevirtual 155, 3) := by decide +kernel
theorem dX5_nearest_79 : decode cX5_nearest 79 = .ok (.istore 4, 2) := by decide +kernel
theorem dX5_nearest_81 : decode cX5_nearest 81 = .ok (.iload_n 1, 1) := by decide +kernel
theorem dX5_nearest_82 : decode cX5_nearest 82 = .ok (.iconst (-1), 1) := by decide +kernel
theorem dX5_nearest_83 : decode cX5_nearest 83 = .ok (.if_icmp .eq 9, 3) := by decide +kernel
theorem dX5_nearest_86 : decode cX5_nearest 86 = .ok (.iload 4, 2) := by decide +kernel
theorem dX5_nearest_88 : decode cX5_nearest 88 = .ok (.iload_n 2, 1) := by decide +kernel
theorem dX5_nearest_89 : decode cX5_nearest 89 = .ok (.if_icmp .ge 7, 3) := by decide +kernel
theorem dX5_nearest_92 : decode cX5_nearest 92 = .ok (.iconst 1, 1) := by decide +kernel
theorem dX5_nearest_93 : decode cX5_nearest 93 = .ok (.goto 4, 3) := by decide +kernel
theorem dX5_nearest_96 : decode cX5_nearest 96 = .ok (.iconst 0, 1) := by decide +kernel
theorem dX5_nearest_97 : decode cX5_nearest 97 = .ok (.istore 5, 2) := by decide +kernel
theorem dX5_nearest_99 : decode cX5_nearest 99 = .ok (.iload 5, 2) := by decide +kernel
theorem dX5_nearest_101 : decode cX5_nearest 101 = .ok (.ifCond .eq 12, 3) := by decide +kernel
theorem dX5_nearest_104 : decode cX5_nearest 104 = .ok (.aload_n 0, 1) := by decide +kernel
theorem dX5_nearest_105 : decode cX5_nearest 105 = .ok (.iload_n 3, 1) := by decide +kernel
theorem dX5_nearest_106 : decode cX5_nearest 106 = .ok (.iconst 0, 1) := by decide +kernel
theorem dX5_nearest_107 : decode cX5_nearest 107 = .ok (.invokevirtual 38, 3) := by decide +kernel
theorem dX5_nearest_110 : decode cX5_nearest 110 = .ok (.goto 4, 3) := by decide +kernel
theorem dX5_nearest_113 : decode cX5_nearest 113 = .ok (.iload_n 1, 1) := by decide +kernel
theorem dX5_nearest_114 : decode cX5_nearest 114 = .ok (.istore_n 1, 1) := by decide +kernel
theorem dX5_nearest_115 : decode cX5_nearest 115 = .ok (.iload 5, 2) := by decide +kernel
theorem dX5_nearest_117 : decode cX5_nearest 117 = .ok (.ifCond .eq 8, 3) := by decide +kernel
theorem dX5_nearest_120 : decode cX5_nearest 120 = .ok (.iload 4, 2) := by decide +kernel
theorem dX5_nearest_122 : decode cX5_nearest 122 = .ok (.goto 4, 3) := by decide +kernel
theorem dX5_nearest_125 : decode cX5_nearest 125 = .ok (.iload_n 2, 1) := by decide +kernel
theorem dX5_nearest_126 : decode cX5_nearest 126 = .ok (.istore_n 2, 1) := by decide +kernel
theorem dX5_nearest_127 : decode cX5_nearest 127 = .ok (.iinc 3 1, 3) := by decide +kernel
theorem dX5_nearest_130 : decode cX5_nearest 130 = .ok (.goto (-116), 3) := by decide +kernel
theorem dX5_nearest_133 : decode cX5_nearest 133 = .ok (.iload_n 1, 1) := by decide +kernel
theorem dX5_nearest_134 : decode cX5_nearest 134 = .ok (.ireturn, 1) := by decide +kernel
theorem dX5_counts_0 : decode cX5_counts 0 = .ok (.iconst 0, 1) := by decide +kernel
theorem dX5_counts_1 : decode cX5_counts 1 = .ok (.istore_n 2, 1) := by decide +kernel
theorem dX5_counts_2 : decode cX5_counts 2 = .ok (.iconst 0, 1) := by decide +kernel
theorem dX5_counts_3 : decode cX5_counts 3 = .ok (.istore_n 3, 1) := by decide +kernel
theorem dX5_counts_4 : decode cX5_counts 4 = .ok (.iload_n 3, 1) := by decide +kernel
theorem dX5_counts_5 : decode cX5_counts 5 = .ok (.aload_n 0, 1) := by decide +kernel
theorem dX5_counts_6 : decode cX5_counts 6 = .ok (.getfield 7, 3) := by decide +kernel
theorem dX5_counts_9 : decode cX5_counts 9 = .ok (.sipush 580, 3) := by decide +kernel
theorem dX5_counts_12 : decode cX5_counts 12 = .ok (.iaload, 1) := by decide +kernel
theorem dX5_counts_13 : decode cX5_counts 13 = .ok (.if_icmp .ge 48, 3) := by decide +kernel
theorem dX5_counts_16 : decode cX5_counts 16 = .ok (.iload_n 2, 1) := by decide +kernel
theorem dX5_counts_17 : decode cX5_counts 17 = .ok (.iload_n 1, 1) := by decide +kernel
theorem dX5_counts_18 : decode cX5_counts 18 = .ok (.iconst 4, 1) := by decide +kernel
theorem dX5_counts_19 : decode cX5_counts 19 = .ok (.if_icmp .ne 11, 3) := by decide +kernel
theorem dX5_counts_22 : decode cX5_counts 22 = .ok (.aload_n 0, 1) := by decide +kernel
theorem dX5_counts_23 : decode cX5_counts 23 = .ok (.iload_n 3, 1) := by decide +kernel
theorem dX5_counts_24 : decode cX5_counts 24 = .ok (.invokevirtual 66, 3) := by decide +kernel
theorem dX5_counts_27 : decode cX5_counts 27 = .ok (.ifCond .ne 21, 3) := by decide +kernel
theorem dX5_counts_30 : decode cX5_counts 30 = .ok (.iload_n 1, 1) := by decide +kernel
theorem dX5_counts_31 : decode cX5_counts 31 = .ok (.iconst 5, 1) := by decide +kernel
theorem dX5_counts_32 : decode cX5_counts 32 = .ok (.if_icmp .ne 20, 3) := by decide +kernel
theorem dX5_counts_35 : decode cX5_counts 35 = .ok (.aload_n 0, 1) := by decide +kernel
theorem dX5_counts_36 : decode cX5_counts 36 = .ok (.aload_n 0, 1) := by decide +kernel
theorem dX5_counts_37 : decode cX5_counts 37 = .ok (.iload_n 3, 1) := by decide +kernel
theorem dX5_counts_38 : decode cX5_counts 38 = .ok (.iconst 0, 1) := by decide +kernel
theorem dX5_counts_39 : decode cX5_counts 39 = .ok (.invokevirtual 38, 3) := by decide +kernel
theorem dX5_counts_42 : decode cX5_counts 42 = .ok (.invokevirtual 152, 3) := by decide +kernel
theorem dX5_counts_45 : decode cX5_counts 45 = .ok (.ifCond .ne 7, 3) := by decide +kernel
theorem dX5_counts_48 : decode cX5_counts 48 = .ok (.iconst 1, 1) := by decide +kernel
theorem dX5_counts_49 : decode cX5_counts 49 = .ok (.goto 4, 3) := by decide +kernel
theorem dX5_counts_52 : decode cX5_counts 52 = .ok (.iconst 0, 1) := by decide +kernel
theorem dX5_counts_53 : decode cX5_counts 53 = .ok (.iadd, 1) := by decide +kernel
theorem dX5_counts_54 : decode cX5_counts 54 = .ok (.istore_n 2, 1) := by decide +kernel
theorem dX5_counts_55 : decode cX5_counts 55 = .ok (.iinc 3 1, 3) := by decide +kernel
theorem dX5_counts_58 : decode cX5_counts 58 = .ok (.goto (-54), 3) := by decide +kernel
theorem dX5_counts_61 : decode cX5_counts 61 = .ok (.iload_n 2, 1) := by decide +kernel
theorem dX5_counts_62 : decode cX5_counts 62 = .ok (.ireturn, 1) := by decide +kernel
theorem dX5_longest_0 : decode cX5_longest 0 = .ok (.iconst 0, 1) := by decide +kernel
theorem dX5_longest_1 : decode cX5_longest 1 = .ok (.istore_n 1, 1) := by decide +kernel
theorem dX5_longest_2 : decode cX5_longest 2 = .ok (.iconst 0, 1) := by decide +kernel
theorem dX5_longest_3 : decode cX5_longest 3 = .ok (.istore_n 2, 1) := by decide +kernel
theorem dX5_longest_4 : decode cX5_longest 4 = .ok (.iload_n 2, 1) := by decide +kernel
theorem dX5_longest_5 : decode cX5_longest 5 = .ok (.aload_n 0, 1) := by decide +kernel
theorem dX5_longest_6 : decode cX5_longest 6 = .ok (.getfield 7, 3) := by decide +kernel
theorem dX5_longest_9 : decode cX5_longest 9 = .ok (.sipush 580, 3) := by decide +kernel
theorem dX5_longest_12 : decode cX5_longest 12 = .ok (.iaload, 1) := by decide +kernel
theorem dX5_longest_13 : decode cX5_longest 13 = .ok (.if_icmp .ge 31, 3) := by decide +kernel
theorem dX5_longest_16 : decode cX5_longest 16 = .ok (.aload_n 0, 1) := by decide +kernel
theorem dX5_longest_17 : decode cX5_longest 17 = .ok (.aload_n 0, 1) := by decide +kernel
theorem dX5_longest_18 : decode cX5_longest 18 = .ok (.iload_n 2, 1) := by decide +kernel
theorem dX5_longest_19 : decode cX5_longest 19 = .ok (.iconst 0, 1) := by decide +kernel
theorem dX5_longest_20 : decode cX5_longest 20 = .ok (.invokevirtual 38, 3) := by decide +kernel
theorem dX5_longest_23 : decode cX5_longest 23 = .ok (.invokevirtual 173, 3) := by decide +kernel
theorem dX5_longest_26 : decode cX5_longest 26 = .ok (.istore_n 3, 1) := by decide +kernel
theorem dX5_longest_27 : decode cX5_longest 27 = .ok (.iload_n 3, 1) := by decide +kernel
theorem dX5_longest_28 : decode cX5_longest 28 = .ok (.iload_n 1, 1) := by decide +kernel
theorem dX5_longest_29 : decode cX5_longest 29 = .ok (.if_icmp .le 7, 3) := by decide +kernel
theorem dX5_longest_32 : decode cX5_longest 32 = .ok (.iload_n 3, 1) := by decide +kernel
theorem dX5_longest_33 : decode cX5_longest 33 = .ok (.goto 4, 3) := by decide +kernel
theorem dX5_longest_36 : decode cX5_longest 36 = .ok (.iload_n 1, 1) := by decide +kernel
theorem dX5_longest_37 : decode cX5_longest 37 = .ok (.istore_n 1, 1) := by decide +kernel
theorem dX5_longest_38 : decode cX5_longest 38 = .ok (.iinc 2 1, 3) := by decide +kernel
theorem dX5_longest_41 : decode cX5_longest 41 = .ok (.goto (-37), 3) := by decide +kernel
theorem dX5_longest_44 : decode cX5_longest 44 = .ok (.iload_n 1, 1) := by decide +kernel
theorem dX5_longest_45 : decode cX5_longest 45 = .ok (.ireturn, 1) := by decide +kernel
theorem dX5_count_0 : decode cX5_count 0 = .ok (.iload_n 1, 1) := by decide +kernel
theorem dX5_count_1 : decode cX5_count 1 = .ok (.tableswitch 152 0 12 #[67, 76, 85, 94, 103, 103, 109, 114, 123, 128, 133, 138, 138], 67) := by decide +kernel
theorem dX5_count_68 : decode cX5_count 68 = .ok (.aload_n 0, 1) := by decide +kernel
theorem dX5_count_69 : decode cX5_count 69 = .ok (.getfield 7, 3) := by decide +kernel
theorem dX5_count_72 : decode cX5_count 72 = .ok (.sipush 582, 3) := by decide +kernel
theorem dX5_count_75 : decode cX5_count 75 = .ok (.iaload, 1) := by decide +kernel
theorem dX5_count_76 : decode cX5_count 76 = .ok (.ireturn, 1) := by decide +kernel
theorem dX5_count_77 : decode cX5_count 77 = .ok (.aload_n 0, 1) := by decide +kernel
theorem dX5_count_78 : decode cX5_count 78 = .ok (.getfield 7, 3) := by decide +kernel
theorem dX5_count_81 : decode cX5_count 81 = .ok (.sipush 595, 3) := by decide +kernel
theorem dX5_count_84 : decode cX5_count 84 = .ok (.iaload, 1) := by decide +kernel
theorem dX5_count_85 : decode cX5_count 85 = .ok (.ireturn, 1) := by decide +kernel
theorem dX5_count_86 : decode cX5_count 86 = .ok (.aload_n 0, 1) := by decide +kernel
theorem dX5_count_87 : decode cX5_count 87 = .ok (.invokevirtual 143, 3) := by decide +kernel
theorem dX5_count_90 : decode cX5_count 90 = .ok (.aload_n 0, 1) := by decide +kernel
theorem dX5_count_91 : decode cX5_count 91 = .ok (.invokevirtual 73, 3) := by decide +kernel
theorem dX5_count_94 : decode cX5_count 94 = .ok (.ireturn, 1) := by decide +kernel
theorem dX5_count_95 : decode cX5_count 95 = .ok (.aload_n 0, 1) := by decide +kernel
theorem dX5_count_96 : decode cX5_count 96 = .ok (.getfield 7, 3) := by decide +kernel
theorem dX5_count_99 : decode cX5_count 99 = .ok (.sipush 580, 3) := by decide +kernel
theorem dX5_count_102 : decode cX5_count 102 = .ok (.iaload, 1) := by decide +kernel
theorem dX5_count_103 : decode cX5_count 103 = .ok (.ireturn, 1) := by decide +kernel
theorem dX5_count_104 : decode cX5_count 104 = .ok (.aload_n 0, 1) := by decide +kernel
theorem dX5_count_105 : decode cX5_count 105 = .ok (.iload_n 1, 1) := by decide +kernel
theorem dX5_count_106 : decode cX5_count 106 = .ok (.invokevirtual 188, 3) := by decide +kernel
theorem dX5_count_109 : decode cX5_count 109 = .ok (.ireturn, 1) := by decide +kernel
theorem dX5_count_110 : decode cX5_count 110 = .ok (.aload_n 0, 1) := by decide +kernel
theorem dX5_count_111 : decode cX5_count 111 = .ok (.invokevirtual 176, 3) := by decide +kernel
theorem dX5_count_114 : decode cX5_count 114 = .ok (.ireturn, 1) := by decide +kernel
theorem dX5_count_115 : decode cX5_count 115 = .ok (.aload_n 0, 1) := by decide +kernel
theorem dX5_count_116 : decode cX5_count 116 = .ok (.getfield 7, 3) := by decide +kernel
theorem dX5_count_119 : decode cX5_count 119 = .ok (.sipush 581, 3) := by decide +kernel
theorem dX5_count_122 : decode cX5_count 122 = .ok (.iaload, 1) := by decide +kernel
theorem dX5_count_123 : decode cX5_count 123 = .ok (.ireturn, 1) := by decide +kernel
theorem dX5_count_124 : decode cX5_count 124 = .ok (.aload_n 0, 1) := by decide +kernel
theorem dX5_count_125 : decode cX5_count 125 = .ok (.invokevirtual 191, 3) := by decide +kernel
theorem dX5_count_128 : decode cX5_count 128 = .ok (.ireturn, 1) := by decide +kernel
theorem dX5_count_129 : decode cX5_count 129 = .ok (.aload_n 0, 1) := by decide +kernel
theorem dX5_count_130 : decode cX5_count 130 = .ok (.getfield 42, 3) := by decide +kernel
theorem dX5_count_133 : decode cX5_count 133 = .ok (.ireturn, 1) := by decide +kernel
theorem dX5_count_134 : decode cX5_count 134 = .ok (.aload_n 0, 1) := by decide +kernel
theorem dX5_count_135 : decode cX5_count 135 = .ok (.getfield 85, 3) := by decide +kernel
theorem dX5_count_138 : decode cX5_count 138 = .ok (.ireturn, 1) := by decide +kernel
theorem dX5_count_139 : decode cX5_count 139 = .ok (.aload_n 0, 1) := by decide +kernel
theorem dX5_count_140 : decode cX5_count 140 = .ok (.getfield 7, 3) := by decide +kernel
theorem dX5_count_143 : decode cX5_count 143 = .ok (.sipush 596, 3) := by decide +kernel
theorem dX5_count_146 : decode cX5_count 146 = .ok (.iload_n 1, 1) := by decide +kernel
theorem dX5_count_147 : decode cX5_count 147 = .ok (.iadd, 1) := by decide +kernel
theorem dX5_count_148 : decode cX5_count 148 = .ok (.bipush 11, 2) := by decide +kernel
theorem dX5_count_150 : decode cX5_count 150 = .ok (.isub, 1) := by decide +kernel
theorem dX5_count_151 : decode cX5_count 151 = .ok (.iaload, 1) := by decide +kernel
theorem dX5_count_152 : decode cX5_count 152 = .ok (.ireturn, 1) := by decide +kernel
theorem dX5_count_153 : decode cX5_count 153 = .ok (.bipush (-2), 2) := by decide +kernel
theorem dX5_count_155 : decode cX5_count 155 = .ok (.ireturn, 1) := by decide +kernel
theorem dX5_mixes_0 : decode cX5_mixes 0 = .ok (.aload_n 0, 1) := by decide +kernel
theorem dX5_mixes_1 : decode cX5_mixes 1 = .ok (.ldc2_w 194, 3) := by decide +kernel
theorem dX5_mixes_4 : decode cX5_mixes 4 = .ok (.aload_n 0, 1) := by decide +kernel
theorem dX5_mixes_5 : decode cX5_mixes 5 = .ok (.getfield 196, 3) := by decide +kernel
theorem dX5_mixes_8 : decode cX5_mixes 8 = .ok (.lmul, 1) := by decide +kernel
theorem dX5_mixes_9 : decode cX5_mixes 9 = .ok (.lload_n 1, 1) := by decide +kernel
theorem dX5_mixes_10 : decode cX5_mixes 10 = .ok (.ladd, 1) := by decide +kernel
theorem dX5_mixes_11 : decode cX5_mixes 11 = .ok (.putfield 196, 3) := by decide +kernel
theorem dX5_mixes_14 : decode cX5_mixes 14 = .ok (.return_, 1) := by decide +kernel
theorem dX5_mixesKept_0 : decode cX5_mixesKept 0 = .ok (.aload_n 0, 1) := by decide +kernel
theorem dX5_mixesKept_1 : decode cX5_mixesKept 1 = .ok (.aload_n 0, 1) := by decide +kernel
theorem dX5_mixesKept_2 : decode cX5_mixesKept 2 = .ok (.iload_n 1, 1) := by decide +kernel
theorem dX5_mixesKept_3 : decode cX5_mixesKept 3 = .ok (.iconst 0, 1) := by decide +kernel
theorem dX5_mixesKept_4 : decode cX5_mixesKept 4 = .ok (.invokevirtual 38, 3) := by decide +kernel
theorem dX5_mixesKept_7 : decode cX5_mixesKept 7 = .ok (.i2l, 1) := by decide +kernel
theorem dX5_mixesKept_8 : decode cX5_mixesKept 8 = .ok (.invokevirtual 200, 3) := by decide +kernel
theorem dX5_mixesKept_11 : decode cX5_mixesKept 11 = .ok (.iconst 0, 1) := by decide +kernel
theorem dX5_mixesKept_12 : decode cX5_mixesKept 12 = .ok (.istore_n 2, 1) := by decide +kernel
theorem dX5_mixesKept_13 : decode cX5_mixesKept 13 = .ok (.iload_n 2, 1) := by decide +kernel
theorem dX5_mixesKept_14 : decode cX5_mixesKept 14 = .ok (.bipush 8, 2) := by decide +kernel
theorem dX5_mixesKept_16 : decode cX5_mixesKept 16 = .ok (.if_icmp .ge 20, 3) := by decide +kernel
theorem dX5_mixesKept_19 : decode cX5_mixesKept 19 = .ok (.aload_n 0, 1) := by decide +kernel
theorem dX5_mixesKept_20 : decode cX5_mixesKept 20 = .ok (.aload_n 0, 1) := by decide +kernel
theorem dX5_mixesKept_21 : decode cX5_mixesKept 21 = .ok (.iload_n 1, 1) := by decide +kernel
theorem dX5_mixesKept_22 : decode cX5_mixesKept 22 = .ok (.iload_n 2, 1) := by decide +kernel
theorem dX5_mixesKept_23 : decode cX5_mixesKept 23 = .ok (.invokevirtual 182, 3) := by decide +kernel
theorem dX5_mixesKept_26 : decode cX5_mixesKept 26 = .ok (.i2l, 1) := by decide +kernel
theorem dX5_mixesKept_27 : decode cX5_mixesKept 27 = .ok (.invokevirtual 200, 3) := by decide +kernel
theorem dX5_mixesKept_30 : decode cX5_mixesKept 30 = .ok (.iinc 2 1, 3) := by decide +kernel
theorem dX5_mixesKept_33 : decode cX5_mixesKept 33 = .ok (.goto (-20), 3) := by decide +kernel
theorem dX5_mixesKept_36 : decode cX5_mixesKept 36 = .ok (.iconst 0, 1) := by decide +kernel
theorem dX5_mixesKept_37 : decode cX5_mixesKept 37 = .ok (.istore_n 2, 1) := by decide +kernel
theorem dX5_mixesKept_38 : decode cX5_mixesKept 38 = .ok (.iload_n 2, 1) := by decide +kernel
theorem dX5_mixesKept_39 : decode cX5_mixesKept 39 = .ok (.aload_n 0, 1) := by decide +kernel
theorem dX5_mixesKept_40 : decode cX5_mixesKept 40 = .ok (.iload_n 1, 1) := by decide +kernel
theorem dX5_mixesKept_41 : decode cX5_mixesKept 41 = .ok (.iconst 4, 1) := by decide +kernel
theorem dX5_mixesKept_42 : decode cX5_mixesKept 42 = .ok (.invokevirtual 38, 3) := by decide +kernel
theorem dX5_mixesKept_45 : decode cX5_mixesKept 45 = .ok (.if_icmp .ge 36, 3) := by decide +kernel
theorem dX5_mixesKept_48 : decode cX5_mixesKept 48 = .ok (.aload_n 0, 1) := by decide +kernel
theorem dX5_mixesKept_49 : decode cX5_mixesKept 49 = .ok (.aload_n 0, 1) := by decide +kernel
theorem dX5_mixesKept_50 : decode cX5_mixesKept 50 = .ok (.iload_n 1, 1) := by decide +kernel
theorem dX5_mixesKept_51 : decode cX5_mixesKept 51 = .ok (.iconst 5, 1) := by decide +kernel
theorem dX5_mixesKept_52 : decode cX5_mixesKept 52 = .ok (.iload_n 2, 1) := by decide +kernel
theorem dX5_mixesKept_53 : decode cX5_mixesKept 53 = .ok (.iadd, 1) := by decide +kernel
theorem dX5_mixesKept_54 : decode cX5_mixesKept 54 = .ok (.invokevirtual 38, 3) := by decide +kernel
theorem dX5_mixesKept_57 : decode cX5_mixesKept 57 = .ok (.i2l, 1) := by decide +kernel
theorem dX5_mixesKept_58 : decode cX5_mixesKept 58 = .ok (.invokevirtual 200, 3) := by decide +kernel
theorem dX5_mixesKept_61 : decode cX5_mixesKept 61 = .ok (.aload_n 0, 1) := by decide +kernel
theorem dX5_mixesKept_62 : decode cX5_mixesKept 62 = .ok (.aload_n 0, 1) := by decide +kernel
theorem dX5_mixesKept_63 : decode cX5_mixesKept 63 = .ok (.iload_n 1, 1) := by decide +kernel
theorem dX5_mixesKept_64 : decode cX5_mixesKept 64 = .ok (.bipush 17, 2) := by decide +kernel
theorem dX5_mixesKept_66 : decode cX5_mixesKept 66 = .ok (.iload_n 2, 1) := by decide +kernel
theorem dX5_mixesKept_67 : decode cX5_mixesKept 67 = .ok (.iadd, 1) := by decide +kernel
theorem dX5_mixesKept_68 : decode cX5_mixesKept 68 = .ok (.invokevirtual 38, 3) := by decide +kernel
theorem dX5_mixesKept_71 : decode cX5_mixesKept 71 = .ok (.i2l, 1) := by decide +kernel
theorem dX5_mixesKept_72 : decode cX5_mixesKept 72 = .ok (.invokevirtual 200, 3) := by decide +kernel
theorem dX5_mixesKept_75 : decode cX5_mixesKept 75 = .ok (.iinc 2 1, 3) := by decide +kernel
theorem dX5_mixesKept_78 : decode cX5_mixesKept 78 = .ok (.goto (-40), 3) := by decide +kernel
theorem dX5_mixesKept_81 : decode cX5_mixesKept 81 = .ok (.aload_n 0, 1) := by decide +kernel
theorem dX5_mixesKept_82 : decode cX5_mixesKept 82 = .ok (.aload_n 0, 1) := by decide +kernel
theorem dX5_mixesKept_83 : decode cX5_mixesKept 83 = .ok (.aload_n 0, 1) := by decide +kernel
theorem dX5_mixesKept_84 : decode cX5_mixesKept 84 = .ok (.iload_n 1, 1) := by decide +kernel
theorem dX5_mixesKept_85 : decode cX5_mixesKept 85 = .ok (.iconst 0, 1) := by decide +kernel
theorem dX5_mixesKept_86 : decode cX5_mixesKept 86 = .ok (.invokevirtual 38, 3) := by decide +kernel
theorem dX5_mixesKept_89 : decode cX5_mixesKept 89 = .ok (.iconst 0, 1) := by decide +kernel
theorem dX5_mixesKept_90 : decode cX5_mixesKept 90 = .ok (.iconst 0, 1) := by decide +kernel
theorem dX5_mixesKept_91 : decode cX5_mixesKept 91 = .ok (.invokevirtual 204, 3) := by decide +kernel
theorem dX5_mixesKept_94 : decode cX5_mixesKept 94 = .ok (.i2l, 1) := by decide +kernel
theorem dX5_mixesKept_95 : decode cX5_mixesKept 95 = .ok (.invokevirtual 200, 3) := by decide +kernel
theorem dX5_mixesKept_98 : decode cX5_mixesKept 98 = .ok (.return_, 1) := by decide +kernel
theorem dX5_digest_0 : decode cX5_digest 0 = .ok (.aload_n 0, 1) := by decide +kernel
theorem dX5_digest_1 : decode cX5_digest 1 = .ok (.ldc2_w 208, 3) := by decide +kernel
theorem dX5_digest_4 : decode cX5_digest 4 = .ok (.putfield 196, 3) := by decide +kernel
theorem dX5_digest_7 : decode cX5_digest 7 = .ok (.iconst 0, 1) := by decide +kernel
theorem dX5_digest_8 : decode cX5_digest 8 = .ok (.istore_n 1, 1) := by decide +kernel
theorem dX5_digest_9 : decode cX5_digest 9 = .ok (.iload_n 1, 1) := by decide +kernel
theorem dX5_digest_10 : decode cX5_digest 10 = .ok (.bipush 13, 2) := by decide +kernel
theorem dX5_digest_12 : decode cX5_digest 12 = .ok (.if_icmp .ge 19, 3) := by decide +kernel
theorem dX5_digest_15 : decode cX5_digest 15 = .ok (.aload_n 0, 1) := by decide +kernel
theorem dX5_digest_16 : decode cX5_digest 16 = .ok (.aload_n 0, 1) := by decide +kernel
theorem dX5_digest_17 : decode cX5_digest 17 = .ok (.iload_n 1, 1) := by decide +kernel
theorem dX5_digest_18 : decode cX5_digest 18 = .ok (.invokevirtual 210, 3) := by decide +kernel
theorem dX5_digest_21 : decode cX5_digest 21 = .ok (.i2l, 1) := by decide +kernel
theorem dX5_digest_22 : decode cX5_digest 22 = .ok (.invokevirtual 200, 3) := by decide +kernel
theorem dX5_digest_25 : decode cX5_digest 25 = .ok (.iinc 1 1, 3) := by decide +kernel
theorem dX5_digest_28 : decode cX5_digest 28 = .ok (.goto (-19), 3) := by decide +kernel
theorem dX5_digest_31 : decode cX5_digest 31 = .ok (.iconst 0, 1) := by decide +kernel
theorem dX5_digest_32 : decode cX5_digest 32 = .ok (.istore_n 1, 1) := by decide +kernel
theorem dX5_digest_33 : decode cX5_digest 33 = .ok (.iload_n 1, 1) := by decide +kernel
theorem dX5_digest_34 : decode cX5_digest 34 = .ok (.aload_n 0, 1) := by decide +kernel
theorem dX5_digest_35 : decode cX5_digest 35 = .ok (.getfield 7, 3) := by decide +kernel
theorem dX5_digest_38 : decode cX5_digest 38 = .ok (.sipush 582, 3) := by decide +kernel
theorem dX5_digest_41 : decode cX5_digest 41 = .ok (.iaload, 1) := by decide +kernel
theorem dX5_digest_42 : decode cX5_digest 42 = .ok (.invokestatic 52, 3) := by decide +kernel
theorem dX5_digest_45 : decode cX5_digest 45 = .ok (.if_icmp .ge 24, 3) := by decide +kernel
theorem dX5_digest_48 : decode cX5_digest 48 = .ok (.aload_n 0, 1) := by decide +kernel
theorem dX5_digest_49 : decode cX5_digest 49 = .ok (.aload_n 0, 1) := by decide +kernel
theorem dX5_digest_50 : decode cX5_digest 50 = .ok (.getfield 7, 3) := by decide +kernel
theorem dX5_digest_53 : decode cX5_digest 53 = .ok (.sipush 583, 3) := by decide +kernel
theorem dX5_digest_56 : decode cX5_digest 56 = .ok (.iload_n 1, 1) := by decide +kernel
theorem dX5_digest_57 : decode cX5_digest 57 = .ok (.iadd, 1) := by decide +kernel
theorem dX5_digest_58 : decode cX5_digest 58 = .ok (.iaload, 1) := by decide +kernel
theorem dX5_digest_59 : decode cX5_digest 59 = .ok (.i2l, 1) := by decide +kernel
theorem dX5_digest_60 : decode cX5_digest 60 = .ok (.invokevirtual 200, 3) := by decide +kernel
theorem dX5_digest_63 : decode cX5_digest 63 = .ok (.iinc 1 1, 3) := by decide +kernel
theorem dX5_digest_66 : decode cX5_digest 66 = .ok (.goto (-33), 3) := by decide +kernel
theorem dX5_digest_69 : decode cX5_digest 69 = .ok (.iconst 0, 1) := by decide +kernel
theorem dX5_digest_70 : decode cX5_digest 70 = .ok (.istore_n 1, 1) := by decide +kernel
theorem dX5_digest_71 : decode cX5_digest 71 = .ok (.iload_n 1, 1) := by decide +kernel
theorem dX5_digest_72 : decode cX5_digest 72 = .ok (.aload_n 0, 1) := by decide +kernel
theorem dX5_digest_73 : decode cX5_digest 73 = .ok (.getfield 7, 3) := by decide +kernel
theorem dX5_digest_76 : decode cX5_digest 76 = .ok (.sipush 580, 3) := by decide +kernel
theorem dX5_digest_79 : decode cX5_digest 79 = .ok (.iaload, 1) := by decide +kernel
theorem dX5_digest_80 : decode cX5_digest 80 = .ok (.if_icmp .ge 14, 3) := by decide +kernel
theorem dX5_digest_83 : decode cX5_digest 83 = .ok (.aload_n 0, 1) := by decide +kernel
theorem dX5_digest_84 : decode cX5_digest 84 = .ok (.iload_n 1, 1) := by decide +kernel
theorem dX5_digest_85 : decode cX5_digest 85 = .ok (.invokevirtual 213, 3) := by decide +kernel
theorem dX5_digest_88 : decode cX5_digest 88 = .ok (.iinc 1 1, 3) := by decide +kernel
theorem dX5_digest_91 : decode cX5_digest 91 = .ok (.goto (-20), 3) := by decide +kernel
theorem dX5_digest_94 : decode cX5_digest 94 = .ok (.aload_n 0, 1) := by decide +kernel
theorem dX5_digest_95 : decode cX5_digest 95 = .ok (.aload_n 0, 1) := by decide +kernel
theorem dX5_digest_96 : decode cX5_digest 96 = .ok (.invokevirtual 216, 3) := by decide +kernel
theorem dX5_digest_99 : decode cX5_digest 99 = .ok (.i2l, 1) := by decide +kernel
theorem dX5_digest_100 : decode cX5_digest 100 = .ok (.invokevirtual 200, 3) := by decide +kernel
theorem dX5_digest_103 : decode cX5_digest 103 = .ok (.iconst 0, 1) := by decide +kernel
theorem dX5_digest_104 : decode cX5_digest 104 = .ok (.istore_n 1, 1) := by decide +kernel
theorem dX5_digest_105 : decode cX5_digest 105 = .ok (.iload_n 1, 1) := by decide +kernel
theorem dX5_digest_106 : decode cX5_digest 106 = .ok (.aload_n 0, 1) := by decide +kernel
theorem dX5_digest_107 : decode cX5_digest 107 = .ok (.getfield 85, 3) := by decide +kernel
theorem dX5_digest_110 : decode cX5_digest 110 = .ok (.if_icmp .ge 20, 3) := by decide +kernel
theorem dX5_digest_113 : decode cX5_digest 113 = .ok (.aload_n 0, 1) := by decide +kernel
theorem dX5_digest_114 : decode cX5_digest 114 = .ok (.aload_n 0, 1) := by decide +kernel
theorem dX5_digest_115 : decode cX5_digest 115 = .ok (.getfield 28, 3) := by decide +kernel
theorem dX5_digest_118 : decode cX5_digest 118 = .ok (.iload_n 1, 1) := by decide +kernel
theorem dX5_digest_119 : decode cX5_digest 119 = .ok (.iaload, 1) := by decide +kernel
theorem dX5_digest_120 : decode cX5_digest 120 = .ok (.i2l, 1) := by decide +kernel
theorem dX5_digest_121 : decode cX5_digest 121 = .ok (.invokevirtual 200, 3) := by decide +kernel
theorem dX5_digest_124 : decode cX5_digest 124 = .ok (.iinc 1 1, 3) := by decide +kernel
theorem dX5_digest_127 : decode cX5_digest 127 = .ok (.goto (-22), 3) := by decide +kernel
theorem dX5_digest_130 : decode cX5_digest 130 = .ok (.aload_n 0, 1) := by decide +kernel
theorem dX5_digest_131 : decode cX5_digest 131 = .ok (.getfield 196, 3) := by decide +kernel
theorem dX5_digest_134 : decode cX5_digest 134 = .ok (.lreturn, 1) := by decide +kernel
