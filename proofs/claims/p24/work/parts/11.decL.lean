theorem dL_cell_0 : decode cL_cell 0 = .ok (.iload_n 1, 1) := by decide +kernel
theorem dL_cell_1 : decode cL_cell 1 = .ok (.aload_n 0, 1) := by decide +kernel
theorem dL_cell_2 : decode cL_cell 2 = .ok (.arraylength, 1) := by decide +kernel
theorem dL_cell_3 : decode cL_cell 3 = .ok (.if_icmp .ge 9, 3) := by decide +kernel
theorem dL_cell_6 : decode cL_cell 6 = .ok (.aload_n 0, 1) := by decide +kernel
theorem dL_cell_7 : decode cL_cell 7 = .ok (.iload_n 1, 1) := by decide +kernel
theorem dL_cell_8 : decode cL_cell 8 = .ok (.iaload, 1) := by decide +kernel
theorem dL_cell_9 : decode cL_cell 9 = .ok (.goto 9, 3) := by decide +kernel
theorem dL_cell_12 : decode cL_cell 12 = .ok (.ldc 7, 2) := by decide +kernel
theorem dL_cell_14 : decode cL_cell 14 = .ok (.iload_n 1, 1) := by decide +kernel
theorem dL_cell_15 : decode cL_cell 15 = .ok (.iconst 1, 1) := by decide +kernel
theorem dL_cell_16 : decode cL_cell 16 = .ok (.iadd, 1) := by decide +kernel
theorem dL_cell_17 : decode cL_cell 17 = .ok (.imul, 1) := by decide +kernel
theorem dL_cell_18 : decode cL_cell 18 = .ok (.ireturn, 1) := by decide +kernel
theorem dL_low_0 : decode cL_low 0 = .ok (.iload_n 0, 1) := by decide +kernel
theorem dL_low_1 : decode cL_low 1 = .ok (.ldc 8, 2) := by decide +kernel
theorem dL_low_3 : decode cL_low 3 = .ok (.iand, 1) := by decide +kernel
theorem dL_low_4 : decode cL_low 4 = .ok (.iload_n 1, 1) := by decide +kernel
theorem dL_low_5 : decode cL_low 5 = .ok (.irem, 1) := by decide +kernel
theorem dL_low_6 : decode cL_low 6 = .ok (.ireturn, 1) := by decide +kernel
theorem dL_begins_0 : decode cL_begins 0 = .ok (.aload_n 0, 1) := by decide +kernel
theorem dL_begins_1 : decode cL_begins 1 = .ok (.bipush 12, 2) := by decide +kernel
theorem dL_begins_3 : decode cL_begins 3 = .ok (.iconst 1, 1) := by decide +kernel
theorem dL_begins_4 : decode cL_begins 4 = .ok (.iastore, 1) := by decide +kernel
theorem dL_begins_5 : decode cL_begins 5 = .ok (.aload_n 0, 1) := by decide +kernel
theorem dL_begins_6 : decode cL_begins 6 = .ok (.bipush 13, 2) := by decide +kernel
theorem dL_begins_8 : decode cL_begins 8 = .ok (.iconst (-1), 1) := by decide +kernel
theorem dL_begins_9 : decode cL_begins 9 = .ok (.iastore, 1) := by decide +kernel
theorem dL_begins_10 : decode cL_begins 10 = .ok (.aload_n 0, 1) := by decide +kernel
theorem dL_begins_11 : decode cL_begins 11 = .ok (.bipush 14, 2) := by decide +kernel
theorem dL_begins_13 : decode cL_begins 13 = .ok (.iconst 4, 1) := by decide +kernel
theorem dL_begins_14 : decode cL_begins 14 = .ok (.iastore, 1) := by decide +kernel
theorem dL_begins_15 : decode cL_begins 15 = .ok (.aload_n 0, 1) := by decide +kernel
theorem dL_begins_16 : decode cL_begins 16 = .ok (.bipush 15, 2) := by decide +kernel
theorem dL_begins_18 : decode cL_begins 18 = .ok (.iconst 1, 1) := by decide +kernel
theorem dL_begins_19 : decode cL_begins 19 = .ok (.iastore, 1) := by decide +kernel
theorem dL_begins_20 : decode cL_begins 20 = .ok (.return_, 1) := by decide +kernel
theorem dL_many_0 : decode cL_many 0 = .ok (.iload_n 0, 1) := by decide +kernel
theorem dL_many_1 : decode cL_many 1 = .ok (.iconst 1, 1) := by decide +kernel
theorem dL_many_2 : decode cL_many 2 = .ok (.if_icmp .ne 8, 3) := by decide +kernel
theorem dL_many_5 : decode cL_many 5 = .ok (.bipush 8, 2) := by decide +kernel
theorem dL_many_7 : decode cL_many 7 = .ok (.goto 15, 3) := by decide +kernel
theorem dL_many_10 : decode cL_many 10 = .ok (.iload_n 0, 1) := by decide +kernel
theorem dL_many_11 : decode cL_many 11 = .ok (.iconst 2, 1) := by decide +kernel
theorem dL_many_12 : decode cL_many 12 = .ok (.if_icmp .ne 8, 3) := by decide +kernel
theorem dL_many_15 : decode cL_many 15 = .ok (.bipush 10, 2) := by decide +kernel
theorem dL_many_17 : decode cL_many 17 = .ok (.goto 5, 3) := by decide +kernel
theorem dL_many_20 : decode cL_many 20 = .ok (.bipush 12, 2) := by decide +kernel
theorem dL_many_22 : decode cL_many 22 = .ok (.ireturn, 1) := by decide +kernel
theorem dL_raises_0 : decode cL_raises 0 = .ok (.aload_n 0, 1) := by decide +kernel
theorem dL_raises_1 : decode cL_raises 1 = .ok (.bipush 12, 2) := by decide +kernel
theorem dL_raises_3 : decode cL_raises 3 = .ok (.iaload, 1) := by decide +kernel
theorem dL_raises_4 : decode cL_raises 4 = .ok (.iconst 1, 1) := by decide +kernel
theorem dL_raises_5 : decode cL_raises 5 = .ok (.if_icmp .ne 33, 3) := by decide +kernel
theorem dL_raises_8 : decode cL_raises 8 = .ok (.aload_n 0, 1) := by decide +kernel
theorem dL_raises_9 : decode cL_raises 9 = .ok (.iconst 0, 1) := by decide +kernel
theorem dL_raises_10 : decode cL_raises 10 = .ok (.iaload, 1) := by decide +kernel
theorem dL_raises_11 : decode cL_raises 11 = .ok (.aload_n 0, 1) := by decide +kernel
theorem dL_raises_12 : decode cL_raises 12 = .ok (.iconst 1, 1) := by decide +kernel
theorem dL_raises_13 : decode cL_raises 13 = .ok (.iaload, 1) := by decide +kernel
theorem dL_raises_14 : decode cL_raises 14 = .ok (.iadd, 1) := by decide +kernel
theorem dL_raises_15 : decode cL_raises 15 = .ok (.aload_n 0, 1) := by decide +kernel
theorem dL_raises_16 : decode cL_raises 16 = .ok (.iconst 2, 1) := by decide +kernel
theorem dL_raises_17 : decode cL_raises 17 = .ok (.iaload, 1) := by decide +kernel
theorem dL_raises_18 : decode cL_raises 18 = .ok (.iadd, 1) := by decide +kernel
theorem dL_raises_19 : decode cL_raises 19 = .ok (.istore_n 1, 1) := by decide +kernel
theorem dL_raises_20 : decode cL_raises 20 = .ok (.aload_n 0, 1) := by decide +kernel
theorem dL_raises_21 : decode cL_raises 21 = .ok (.bipush 8, 2) := by decide +kernel
theorem dL_raises_23 : decode cL_raises 23 = .ok (.iload_n 1, 1) := by decide +kernel
theorem dL_raises_24 : decode cL_raises 24 = .ok (.iconst 3, 1) := by decide +kernel
theorem dL_raises_25 : decode cL_raises 25 = .ok (.idiv, 1) := by decide +kernel
theorem dL_raises_26 : decode cL_raises 26 = .ok (.iastore, 1) := by decide +kernel
theorem dL_raises_27 : decode cL_raises 27 = .ok (.aload_n 0, 1) := by decide +kernel
theorem dL_raises_28 : decode cL_raises 28 = .ok (.bipush 9, 2) := by decide +kernel
theorem dL_raises_30 : decode cL_raises 30 = .ok (.aload_n 0, 1) := by decide +kernel
theorem dL_raises_31 : decode cL_raises 31 = .ok (.bipush 7, 2) := by decide +kernel
theorem dL_raises_33 : decode cL_raises 33 = .ok (.iaload, 1) := by decide +kernel
theorem dL_raises_34 : decode cL_raises 34 = .ok (.iastore, 1) := by decide +kernel
theorem dL_raises_35 : decode cL_raises 35 = .ok (.goto 50, 3) := by decide +kernel
theorem dL_raises_38 : decode cL_raises 38 = .ok (.aload_n 0, 1) := by decide +kernel
theorem dL_raises_39 : decode cL_raises 39 = .ok (.iconst 1, 1) := by decide +kernel
theorem dL_raises_40 : decode cL_raises 40 = .ok (.iaload, 1) := by decide +kernel
theorem dL_raises_41 : decode cL_raises 41 = .ok (.istore_n 1, 1) := by decide +kernel
theorem dL_raises_42 : decode cL_raises 42 = .ok (.aload_n 0, 1) := by decide +kernel
theorem dL_raises_43 : decode cL_raises 43 = .ok (.iconst 1, 1) := by decide +kernel
theorem dL_raises_44 : decode cL_raises 44 = .ok (.aload_n 0, 1) := by decide +kernel
theorem dL_raises_45 : decode cL_raises 45 = .ok (.iconst 4, 1) := by decide +kernel
theorem dL_raises_46 : decode cL_raises 46 = .ok (.iaload, 1) := by decide +kernel
theorem dL_raises_47 : decode cL_raises 47 = .ok (.iastore, 1) := by decide +kernel
theorem dL_raises_48 : decode cL_raises 48 = .ok (.aload_n 0, 1) := by decide +kernel
theorem dL_raises_49 : decode cL_raises 49 = .ok (.iconst 4, 1) := by decide +kernel
theorem dL_raises_50 : decode cL_raises 50 = .ok (.iload_n 1, 1) := by decide +kernel
theorem dL_raises_51 : decode cL_raises 51 = .ok (.iastore, 1) := by decide +kernel
theorem dL_raises_52 : decode cL_raises 52 = .ok (.aload_n 0, 1) := by decide +kernel
theorem dL_raises_53 : decode cL_raises 53 = .ok (.bipush 10, 2) := by decide +kernel
theorem dL_raises_55 : decode cL_raises 55 = .ok (.aload_n 0, 1) := by decide +kernel
theorem dL_raises_56 : decode cL_raises 56 = .ok (.bipush 9, 2) := by decide +kernel
theorem dL_raises_58 : decode cL_raises 58 = .ok (.iaload, 1) := by decide +kernel
theorem dL_raises_59 : decode cL_raises 59 = .ok (.bipush 49, 2) := by decide +kernel
theorem dL_raises_61 : decode cL_raises 61 = .ok (.if_icmp .le 8, 3) := by decide +kernel
theorem dL_raises_64 : decode cL_raises 64 = .ok (.bipush 99, 2) := by decide +kernel
theorem dL_raises_66 : decode cL_raises 66 = .ok (.goto 12, 3) := by decide +kernel
theorem dL_raises_69 : decode cL_raises 69 = .ok (.aload_n 0, 1) := by decide +kernel
theorem dL_raises_70 : decode cL_raises 70 = .ok (.bipush 9, 2) := by decide +kernel
theorem dL_raises_72 : decode cL_raises 72 = .ok (.iaload, 1) := by decide +kernel
theorem dL_raises_73 : decode cL_raises 73 = .ok (.aload_n 0, 1) := by decide +kernel
theorem dL_raises_74 : decode cL_raises 74 = .ok (.bipush 9, 2) := by decide +kernel
theorem dL_raises_76 : decode cL_raises 76 = .ok (.iaload, 1) := by decide +kernel
theorem dL_raises_77 : decode cL_raises 77 = .ok (.iadd, 1) := by decide +kernel
theorem dL_raises_78 : decode cL_raises 78 = .ok (.iastore, 1) := by decide +kernel
theorem dL_raises_79 : decode cL_raises 79 = .ok (.aload_n 0, 1) := by decide +kernel
theorem dL_raises_80 : decode cL_raises 80 = .ok (.bipush 11, 2) := by decide +kernel
theorem dL_raises_82 : decode cL_raises 82 = .ok (.bipush 50, 2) := by decide +kernel
theorem dL_raises_84 : decode cL_raises 84 = .ok (.iastore, 1) := by decide +kernel
theorem dL_raises_85 : decode cL_raises 85 = .ok (.aload_n 0, 1) := by decide +kernel
theorem dL_raises_86 : decode cL_raises 86 = .ok (.bipush 12, 2) := by decide +kernel
theorem dL_raises_88 : decode cL_raises 88 = .ok (.dup2, 1) := by decide +kernel
theorem dL_raises_89 : decode cL_raises 89 = .ok (.iaload, 1) := by decide +kernel
theorem dL_raises_90 : decode cL_raises 90 = .ok (.iconst 1, 1) := by decide +kernel
theorem dL_raises_91 : decode cL_raises 91 = .ok (.iadd, 1) := by decide +kernel
theorem dL_raises_92 : decode cL_raises 92 = .ok (.iastore, 1) := by decide +kernel
theorem dL_raises_93 : decode cL_raises 93 = .ok (.return_, 1) := by decide +kernel
theorem dL_sum_0 : decode cL_sum 0 = .ok (.bipush 7, 2) := by decide +kernel
theorem dL_sum_2 : decode cL_sum 2 = .ok (.istore_n 1, 1) := by decide +kernel
theorem dL_sum_3 : decode cL_sum 3 = .ok (.iconst 0, 1) := by decide +kernel
theorem dL_sum_4 : decode cL_sum 4 = .ok (.istore_n 2, 1) := by decide +kernel
theorem dL_sum_5 : decode cL_sum 5 = .ok (.iload_n 2, 1) := by decide +kernel
theorem dL_sum_6 : decode cL_sum 6 = .ok (.aload_n 0, 1) := by decide +kernel
theorem dL_sum_7 : decode cL_sum 7 = .ok (.bipush 12, 2) := by decide +kernel
theorem dL_sum_9 : decode cL_sum 9 = .ok (.iaload, 1) := by decide +kernel
theorem dL_sum_10 : decode cL_sum 10 = .ok (.invokestatic 11, 3) := by decide +kernel
theorem dL_sum_13 : decode cL_sum 13 = .ok (.if_icmp .ge 22, 3) := by decide +kernel
theorem dL_sum_16 : decode cL_sum 16 = .ok (.bipush 31, 2) := by decide +kernel
theorem dL_sum_18 : decode cL_sum 18 = .ok (.iload_n 1, 1) := by decide +kernel
theorem dL_sum_19 : decode cL_sum 19 = .ok (.imul, 1) := by decide +kernel
theorem dL_sum_20 : decode cL_sum 20 = .ok (.aload_n 0, 1) := by decide +kernel
theorem dL_sum_21 : decode cL_sum 21 = .ok (.iload_n 2, 1) := by decide +kernel
theorem dL_sum_22 : decode cL_sum 22 = .ok (.iaload, 1) := by decide +kernel
theorem dL_sum_23 : decode cL_sum 23 = .ok (.iadd, 1) := by decide +kernel
theorem dL_sum_24 : decode cL_sum 24 = .ok (.sipush 9973, 3) := by decide +kernel
theorem dL_sum_27 : decode cL_sum 27 = .ok (.irem, 1) := by decide +kernel
theorem dL_sum_28 : decode cL_sum 28 = .ok (.istore_n 1, 1) := by decide +kernel
theorem dL_sum_29 : decode cL_sum 29 = .ok (.iinc 2 1, 3) := by decide +kernel
theorem dL_sum_32 : decode cL_sum 32 = .ok (.goto (-27), 3) := by decide +kernel
theorem dL_sum_35 : decode cL_sum 35 = .ok (.iload_n 1, 1) := by decide +kernel
theorem dL_sum_36 : decode cL_sum 36 = .ok (.ireturn, 1) := by decide +kernel
theorem dL_packed_0 : decode cL_packed 0 = .ok (.aload_n 0, 1) := by decide +kernel
theorem dL_packed_1 : decode cL_packed 1 = .ok (.bipush 8, 2) := by decide +kernel
theorem dL_packed_3 : decode cL_packed 3 = .ok (.iload_n 1, 1) := by decide +kernel
theorem dL_packed_4 : decode cL_packed 4 = .ok (.imul, 1) := by decide +kernel
theorem dL_packed_5 : decode cL_packed 5 = .ok (.iconst 5, 1) := by decide +kernel
theorem dL_packed_6 : decode cL_packed 6 = .ok (.iadd, 1) := by decide +kernel
theorem dL_packed_7 : decode cL_packed 7 = .ok (.iload_n 2, 1) := by decide +kernel
theorem dL_packed_8 : decode cL_packed 8 = .ok (.iconst 4, 1) := by decide +kernel
theorem dL_packed_9 : decode cL_packed 9 = .ok (.idiv, 1) := by decide +kernel
theorem dL_packed_10 : decode cL_packed 10 = .ok (.iadd, 1) := by decide +kernel
theorem dL_packed_11 : decode cL_packed 11 = .ok (.iaload, 1) := by decide +kernel
theorem dL_packed_12 : decode cL_packed 12 = .ok (.bipush 7, 2) := by decide +kernel
theorem dL_packed_14 : decode cL_packed 14 = .ok (.iload_n 2, 1) := by decide +kernel
theorem dL_packed_15 : decode cL_packed 15 = .ok (.iconst 4, 1) := by decide +kernel
theorem dL_packed_16 : decode cL_packed 16 = .ok (.irem, 1) := by decide +kernel
theorem dL_packed_17 : decode cL_packed 17 = .ok (.imul, 1) := by decide +kernel
theorem dL_packed_18 : decode cL_packed 18 = .ok (.ishr, 1) := by decide +kernel
theorem dL_packed_19 : decode cL_packed 19 = .ok (.bipush 127, 2) := by decide +kernel
theorem dL_packed_21 : decode cL_packed 21 = .ok (.iand, 1) := by decide +kernel
theorem dL_packed_22 : decode cL_packed 22 = .ok (.ireturn, 1) := by decide +kernel
theorem dL_packs_0 : decode cL_packs 0 = .ok (.bipush 8, 2) := by decide +kernel
theorem dL_packs_2 : decode cL_packs 2 = .ok (.iload_n 1, 1) := by decide +kernel
theorem dL_packs_3 : decode cL_packs 3 = .ok (.imul, 1) := by decide +kernel
theorem dL_packs_4 : decode cL_packs 4 = .ok (.iconst 5, 1) := by decide +kernel
theorem dL_packs_5 : decode cL_packs 5 = .ok (.iadd, 1) := by decide +kernel
theorem dL_packs_6 : decode cL_packs 6 = .ok (.iload_n 2, 1) := by decide +kernel
theorem dL_packs_7 : decode cL_packs 7 = .ok (.iconst 4, 1) := by decide +kernel
theorem dL_packs_8 : decode cL_packs 8 = .ok (.idiv, 1) := by decide +kernel
theorem dL_packs_9 : decode cL_packs 9 = .ok (.iadd, 1) := by decide +kernel
theorem dL_packs_10 : decode cL_packs 10 = .ok (.istore 4, 2) := by decide +kernel
theorem dL_packs_12 : decode cL_packs 12 = .ok (.aload_n 0, 1) := by decide +kernel
theorem dL_packs_13 : decode cL_packs 13 = .ok (.iload 4, 2) := by decide +kernel
theorem dL_packs_15 : decode cL_packs 15 = .ok (.aload_n 0, 1) := by decide +kernel
theorem dL_packs_16 : decode cL_packs 16 = .ok (.iload 4, 2) := by decide +kernel
theorem dL_packs_18 : decode cL_packs 18 = .ok (.iaload, 1) := by decide +kernel
theorem dL_packs_19 : decode cL_packs 19 = .ok (.bipush 127, 2) := by decide +kernel
theorem dL_packs_21 : decode cL_packs 21 = .ok (.bipush 7, 2) := by decide +kernel
theorem dL_packs_23 : decode cL_packs 23 = .ok (.iload_n 2, 1) := by decide +kernel
theorem dL_packs_24 : decode cL_packs 24 = .ok (.iconst 4, 1) := by decide +kernel
theorem dL_packs_25 : decode cL_packs 25 = .ok (.irem, 1) := by decide +kernel
theorem dL_packs_26 : decode cL_packs 26 = .ok (.imul, 1) := by decide +kernel
theorem dL_packs_27 : decode cL_packs 27 = .ok (.ishl, 1) := by decide +kernel
theorem dL_packs_28 : decode cL_packs 28 = .ok (.iconst (-1), 1) := by decide +kernel
theorem dL_packs_29 : decode cL_packs 29 = .ok (.ixor, 1) := by decide +kernel
theorem dL_packs_30 : decode cL_packs 30 = .ok (.iand, 1) := by decide +kernel
theorem dL_packs_31 : decode cL_packs 31 = .ok (.iload_n 3, 1) := by decide +kernel
theorem dL_packs_32 : decode cL_packs 32 = .ok (.bipush 7, 2) := by decide +kernel
theorem dL_packs_34 : decode cL_packs 34 = .ok (.iload_n 2, 1) := by decide +kernel
theorem dL_packs_35 : decode cL_packs 35 = .ok (.iconst 4, 1) := by decide +kernel
theorem dL_packs_36 : decode cL_packs 36 = .ok (.irem, 1) := by decide +kernel
theorem dL_packs_37 : decode cL_packs 37 = .ok (.imul, 1) := by decide +kernel
theorem dL_packs_38 : decode cL_packs 38 = .ok (.ishl, 1) := by decide +kernel
theorem dL_packs_39 : decode cL_packs 39 = .ok (.ior, 1) := by decide +kernel
theorem dL_packs_40 : decode cL_packs 40 = .ok (.iastore, 1) := by decide +kernel
theorem dL_packs_41 : decode cL_packs 41 = .ok (.return_, 1) := by decide +kernel
theorem dL_links_0 : decode cL_links 0 = .ok (.iconst 1, 1) := by decide +kernel
theorem dL_links_1 : decode cL_links 1 = .ok (.istore_n 2, 1) := by decide +kernel
theorem dL_links_2 : decode cL_links 2 = .ok (.iload_n 1, 1) := by decide +kernel
theorem dL_links_3 : decode cL_links 3 = .ok (.istore_n 3, 1) := by decide +kernel
theorem dL_links_4 : decode cL_links 4 = .ok (.aload_n 0, 1) := by decide +kernel
theorem dL_links_5 : decode cL_links 5 = .ok (.bipush 8, 2) := by decide +kernel
theorem dL_links_7 : decode cL_links 7 = .ok (.iload_n 3, 1) := by decide +kernel
theorem dL_links_8 : decode cL_links 8 = .ok (.imul, 1) := by decide +kernel
theorem dL_links_9 : decode cL_links 9 = .ok (.iaload, 1) := by decide +kernel
theorem dL_links_10 : decode cL_links 10 = .ok (.ifCond .eq 30, 3) := by decide +kernel
theorem dL_links_13 : decode cL_links 13 = .ok (.aload_n 0, 1) := by decide +kernel
theorem dL_links_14 : decode cL_links 14 = .ok (.bipush 8, 2) := by decide +kernel
theorem dL_links_16 : decode cL_links 16 = .ok (.iload_n 3, 1) := by decide +kernel
theorem dL_links_17 : decode cL_links 17 = .ok (.imul, 1) := by decide +kernel
theorem dL_links_18 : decode cL_links 18 = .ok (.iconst 2, 1) := by decide +kernel
theorem dL_links_19 : decode cL_links 19 = .ok (.iadd, 1) := by decide +kernel
theorem dL_links_20 : decode cL_links 20 = .ok (.iaload, 1) := by decide +kernel
theorem dL_links_21 : decode cL_links 21 = .ok (.iconst (-1), 1) := by decide +kernel
theorem dL_links_22 : decode cL_links 22 = .ok (.if_icmp .eq 18, 3) := by decide +kernel
theorem dL_links_25 : decode cL_links 25 = .ok (.aload_n 0, 1) := by decide +kernel
theorem dL_links_26 : decode cL_links 26 = .ok (.bipush 8, 2) := by decide +kernel
theorem dL_links_28 : decode cL_links 28 = .ok (.iload_n 3, 1) := by decide +kernel
theorem dL_links_29 : decode cL_links 29 = .ok (.imul, 1) := by decide +kernel
theorem dL_links_30 : decode cL_links 30 = .ok (.iconst 2, 1) := by decide +kernel
theorem dL_links_31 : decode cL_links 31 = .ok (.iadd, 1) := by decide +kernel
theorem dL_links_32 : decode cL_links 32 = .ok (.iaload, 1) := by decide +kernel
theorem dL_links_33 : decode cL_links 33 = .ok (.istore_n 3, 1) := by decide +kernel
theorem dL_links_34 : decode cL_links 34 = .ok (.iinc 2 1, 3) := by decide +kernel
theorem dL_links_37 : decode cL_links 37 = .ok (.goto (-33), 3) := by decide +kernel
theorem dL_links_40 : decode cL_links 40 = .ok (.iload_n 2, 1) := by decide +kernel
theorem dL_links_41 : decode cL_links 41 = .ok (.ireturn, 1) := by decide +kernel
theorem dL_up_0 : decode cL_up 0 = .ok (.iload_n 1, 1) := by decide +kernel
theorem dL_up_1 : decode cL_up 1 = .ok (.istore_n 3, 1) := by decide +kernel
theorem dL_up_2 : decode cL_up 2 = .ok (.iconst 0, 1) := by decide +kernel
theorem dL_up_3 : decode cL_up 3 = .ok (.istore 4, 2) := by decide +kernel
theorem dL_up_5 : decode cL_up 5 = .ok (.iload 4, 2) := by decide +kernel
theorem dL_up_7 : decode cL_up 7 = .ok (.iload_n 2, 1) := by decide +kernel
theorem dL_up_8 : decode cL_up 8 = .ok (.if_icmp .ge 18, 3) := by decide +kernel
theorem dL_up_11 : decode cL_up 11 = .ok (.aload_n 0, 1) := by decide +kernel
theorem dL_up_12 : decode cL_up 12 = .ok (.bipush 8, 2) := by decide +kernel
theorem dL_up_14 : decode cL_up 14 = .ok (.iload_n 3, 1) := by decide +kernel
theorem dL_up_15 : decode cL_up 15 = .ok (.imul, 1) := by decide +kernel
theorem dL_up_16 : decode cL_up 16 = .ok (.iconst 2, 1) := by decide +kernel
theorem dL_up_17 : decode cL_up 17 = .ok (.iadd, 1) := by decide +kernel
theorem dL_up_18 : decode cL_up 18 = .ok (.iaload, 1) := by decide +kernel
theorem dL_up_19 : decode cL_up 19 = .ok (.istore_n 3, 1) := by decide +kernel
theorem dL_up_20 : decode cL_up 20 = .ok (.iinc 4 1, 3) := by decide +kernel
theorem dL_up_23 : decode cL_up 23 = .ok (.goto (-18), 3) := by decide +kernel
theorem dL_up_26 : decode cL_up 26 = .ok (.iload_n 3, 1) := by decide +kernel
theorem dL_up_27 : decode cL_up 27 = .ok (.ireturn, 1) := by decide +kernel
theorem dL_reads_0 : decode cL_reads 0 = .ok (.aload_n 0, 1) := by decide +kernel
theorem dL_reads_1 : decode cL_reads 1 = .ok (.iload_n 1, 1) := by decide +kernel
theorem dL_reads_2 : decode cL_reads 2 = .ok (.invokestatic 15, 3) := by decide +kernel
theorem dL_reads_5 : decode cL_reads 5 = .ok (.istore 4, 2) := by decide +kernel
theorem dL_reads_7 : decode cL_reads 7 = .ok (.iload 4, 2) := by decide +kernel
theorem dL_reads_9 : decode cL_reads 9 = .ok (.iconst 1, 1) := by decide +kernel
theorem dL_reads_10 : decode cL_reads 10 = .ok (.isub, 1) := by decide +kernel
theorem dL_reads_11 : decode cL_reads 11 = .ok (.istore 5, 2) := by decide +kernel
theorem dL_reads_13 : decode cL_reads 13 = .ok (.iload 5, 2) := by decide +kernel
theorem dL_reads_15 : decode cL_reads 15 = .ok (.ifCond .lt 188, 3) := by decide +kernel
theorem dL_reads_18 : decode cL_reads 18 = .ok (.aload_n 0, 1) := by decide +kernel
theorem dL_reads_19 : decode cL_reads 19 = .ok (.iload_n 1, 1) := by decide +kernel
theorem dL_reads_20 : decode cL_reads 20 = .ok (.iload 5, 2) := by decide +kernel
theorem dL_reads_22 : decode cL_reads 22 = .ok (.invokestatic 19, 3) := by decide +kernel
theorem dL_reads_25 : decode cL_reads 25 = .ok (.istore 6, 2) := by decide +kernel
theorem dL_reads_27 : decode cL_reads 27 = .ok (.aload_n 0, 1) := by decide +kernel
theorem dL_reads_28 : decode cL_reads 28 = .ok (.bipush 8, 2) := by decide +kernel
theorem dL_reads_30 : decode cL_reads 30 = .ok (.iload 6, 2) := by decide +kernel
theorem dL_reads_32 : decode cL_reads 32 = .ok (.imul, 1) := by decide +kernel
theorem dL_reads_33 : decode cL_reads 33 = .ok (.iaload, 1) := by decide +kernel
theorem dL_reads_34 : decode cL_reads 34 = .ok (.ifCond .ne 11, 3) := by decide +kernel
theorem dL_reads_37 : decode cL_reads 37 = .ok (.aload_n 3, 1) := by decide +kernel
theorem dL_reads_38 : decode cL_reads 38 = .ok (.iload 5, 2) := by decide +kernel
theorem dL_reads_40 : decode cL_reads 40 = .ok (.iconst 0, 1) := by decide +kernel
theorem dL_reads_41 : decode cL_reads 41 = .ok (.iastore, 1) := by decide +kernel
theorem dL_reads_42 : decode cL_reads 42 = .ok (.goto 155, 3) := by decide +kernel
theorem dL_reads_45 : decode cL_reads 45 = .ok (.iload 5, 2) := by decide +kernel
theorem dL_reads_47 : decode cL_reads 47 = .ok (.iload 4, 2) := by decide +kernel
theorem dL_reads_49 : decode cL_reads 49 = .ok (.iconst 1, 1) := by decide +kernel
theorem dL_reads_50 : decode cL_reads 50 = .ok (.isub, 1) := by decide +kernel
theorem dL_reads_51 : decode cL_reads 51 = .ok (.if_icmp .ge 21, 3) := by decide +kernel
theorem dL_reads_54 : decode cL_reads 54 = .ok (.aload_n 3, 1) := by decide +kernel
theorem dL_reads_55 : decode cL_reads 55 = .ok (.iload 5, 2) := by decide +kernel
theorem dL_reads_57 : decode cL_reads 57 = .ok (.iconst 1, 1) := by decide +kernel
theorem dL_reads_58 : decode cL_reads 58 = .ok (.iadd, 1) := by decide +kernel
theorem dL_reads_59 : decode cL_reads 59 = .ok (.iaload, 1) := by decide +kernel
theorem dL_reads_60 : decode cL_reads 60 = .ok (.iconst (-1), 1) := by decide +kernel
theorem dL_reads_61 : decode cL_reads 61 = .ok (.if_icmp .eq 11, 3) := by decide +kernel
theorem dL_reads_64 : decode cL_reads 64 = .ok (.aload_n 3, 1) := by decide +kernel
theorem dL_reads_65 : decode cL_reads 65 = .ok (.iload 5, 2) := by decide +kernel
theorem dL_reads_67 : decode cL_reads 67 = .ok (.iconst 2, 1) := by decide +kernel
theorem dL_reads_68 : decode cL_reads 68 = .ok (.iastore, 1) := by decide +kernel
theorem dL_reads_69 : decode cL_reads 69 = .ok (.goto 128, 3) := by decide +kernel
theorem dL_reads_72 : decode cL_reads 72 = .ok (.aload_n 2, 1) := by decide +kernel
theorem dL_reads_73 : decode cL_reads 73 = .ok (.bipush 12, 2) := by decide +kernel
theorem dL_reads_75 : decode cL_reads 75 = .ok (.iload 5, 2) := by decide +kernel
theorem dL_reads_77 : decode cL_reads 77 = .ok (.iload 4, 2) := by decide +kernel
theorem dL_reads_79 : decode cL_reads 79 = .ok (.iconst 1, 1) := by decide +kernel
theorem dL_reads_80 : decode cL_reads 80 = .ok (.isub, 1) := by decide +kernel
theorem dL_reads_81 : decode cL_reads 81 = .ok (.if_icmp .ne 13, 3) := by decide +kernel
theorem dL_reads_84 : decode cL_reads 84 = .ok (.aload_n 0, 1) := by decide +kernel
theorem dL_reads_85 : decode cL_reads 85 = .ok (.bipush 8, 2) := by decide +kernel
theorem dL_reads_87 : decode cL_reads 87 = .ok (.iload 6, 2) := by decide +kernel
theorem dL_reads_89 : decode cL_reads 89 = .ok (.imul, 1) := by decide +kernel
theorem dL_reads_90 : decode cL_reads 90 = .ok (.iaload, 1) := by decide +kernel
theorem dL_reads_91 : decode cL_reads 91 = .ok (.goto 7, 3) := by decide +kernel
theorem dL_reads_94 : decode cL_reads 94 = .ok (.aload_n 2, 1) := by decide +kernel
theorem dL_reads_95 : decode cL_reads 95 = .ok (.bipush 12, 2) := by decide +kernel
theorem dL_reads_97 : decode cL_reads 97 = .ok (.iaload, 1) := by decide +kernel
theorem dL_reads_98 : decode cL_reads 98 = .ok (.iastore, 1) := by decide +kernel
theorem dL_reads_99 : decode cL_reads 99 = .ok (.aload_n 2, 1) := by decide +kernel
theorem dL_reads_100 : decode cL_reads 100 = .ok (.bipush 12, 2) := by decide +kernel
theorem dL_reads_102 : decode cL_reads 102 = .ok (.iaload, 1) := by decide +kernel
theorem dL_reads_103 : decode cL_reads 103 = .ok (.aload_n 0, 1) := by decide +kernel
theorem dL_reads_104 : decode cL_reads 104 = .ok (.bipush 8, 2) := by decide +kernel
theorem dL_reads_106 : decode cL_reads 106 = .ok (.iload 6, 2) := by decide +kernel
theorem dL_reads_108 : decode cL_reads 108 = .ok (.imul, 1) := by decide +kernel
theorem dL_reads_109 : decode cL_reads 109 = .ok (.iaload, 1) := by decide +kernel
theorem dL_reads_110 : decode cL_reads 110 = .ok (.if_icmp .ge 10, 3) := by decide +kernel
theorem dL_reads_113 : decode cL_reads 113 = .ok (.aload_n 2, 1) := by decide +kernel
theorem dL_reads_114 : decode cL_reads 114 = .ok (.invokestatic 23, 3) := by decide +kernel
theorem dL_reads_117 : decode cL_reads 117 = .ok (.goto (-18), 3) := by decide +kernel
theorem dL_reads_120 : decode cL_reads 120 = .ok (.iconst 0, 1) := by decide +kernel
theorem dL_reads_121 : decode cL_reads 121 = .ok (.istore 7, 2) := by decide +kernel
theorem dL_reads_123 : decode cL_reads 123 = .ok (.iconst 0, 1) := by decide +kernel
theorem dL_reads_124 : decode cL_reads 124 = .ok (.istore 8, 2) := by decide +kernel
theorem dL_reads_126 : decode cL_reads 126 = .ok (.iload 8, 2) := by decide +kernel
theorem dL_reads_128 : decode cL_reads 128 = .ok (.bipush 12, 2) := by decide +kernel
theorem dL_reads_130 : decode cL_reads 130 = .ok (.if_icmp .ge 42, 3) := by decide +kernel
theorem dL_reads_133 : decode cL_reads 133 = .ok (.aload_n 0, 1) := by decide +kernel
theorem dL_reads_134 : decode cL_reads 134 = .ok (.bipush 8, 2) := by decide +kernel
theorem dL_reads_136 : decode cL_reads 136 = .ok (.iload 6, 2) := by decide +kernel
theorem dL_reads_138 : decode cL_reads 138 = .ok (.imul, 1) := by decide +kernel
theorem dL_reads_139 : decode cL_reads 139 = .ok (.iconst 3, 1) := by decide +kernel
theorem dL_reads_140 : decode cL_reads 140 = .ok (.iadd, 1) := by decide +kernel
theorem dL_reads_141 : decode cL_reads 141 = .ok (.iaload, 1) := by decide +kernel
theorem dL_reads_142 : decode cL_reads 142 = .ok (.iload 8, 2) := by decide +kernel
theorem dL_reads_144 : decode cL_reads 144 = .ok (.ishr, 1) := by decide +kernel
theorem dL_reads_145 : decode cL_reads 145 = .ok (.iconst 1, 1) := by decide +kernel
theorem dL_reads_146 : decode cL_reads 146 = .ok (.iand, 1) := by decide +kernel
theorem dL_reads_147 : decode cL_reads 147 = .ok (.iconst 1, 1) := by decide +kernel
theorem dL_reads_148 : decode cL_reads 148 = .ok (.if_icmp .ne 18, 3) := by decide +kernel
theorem dL_reads_151 : decode cL_reads 151 = .ok (.aload_n 2, 1) := by decide +kernel
theorem dL_reads_152 : decode cL_reads 152 = .ok (.iload 8, 2) := by decide +kernel
theorem dL_reads_154 : decode cL_reads 154 = .ok (.aload_n 0, 1) := by decide +kernel
theorem dL_reads_155 : decode cL_reads 155 = .ok (.iload 6, 2) := by decide +kernel
theorem dL_reads_157 : decode cL_reads 157 = .ok (.iload 7, 2) := by decide +kernel
theorem dL_reads_159 : decode cL_reads 159 = .ok (.invokestatic 27, 3) := by decide +kernel
theorem dL_reads_162 : decode cL_reads 162 = .ok (.iastore, 1) := by decide +kernel
theorem dL_reads_163 : decode cL_reads 163 = .ok (.iinc 7 1, 3) := by decide +kernel
theorem dL_reads_166 : decode cL_reads 166 = .ok (.iinc 8 1, 3) := by decide +kernel
theorem dL_reads_169 : decode cL_reads 169 = .ok (.goto (-43), 3) := by decide +kernel
theorem dL_reads_172 : decode cL_reads 172 = .ok (.aload_n 3, 1) := by decide +kernel
theorem dL_reads_173 : decode cL_reads 173 = .ok (.iload 5, 2) := by decide +kernel
theorem dL_reads_175 : decode cL_reads 175 = .ok (.aload_n 2, 1) := by decide +kernel
theorem dL_reads_176 : decode cL_reads 176 = .ok (.invokestatic 30, 3) := by decide +kernel
theorem dL_reads_179 : decode cL_reads 179 = .ok (.aload_n 0, 1) := by decide +kernel
theorem dL_reads_180 : decode cL_reads 180 = .ok (.bipush 8, 2) := by decide +kernel
theorem dL_reads_182 : decode cL_reads 182 = .ok (.iload 6, 2) := by decide +kernel
theorem dL_reads_184 : decode cL_reads 184 = .ok (.imul, 1) := by decide +kernel
theorem dL_reads_185 : decode cL_reads 185 = .ok (.iconst 1, 1) := by decide +kernel
theorem dL_reads_186 : decode cL_reads 186 = .ok (.iadd, 1) := by decide +kernel
theorem dL_reads_187 : decode cL_reads 187 = .ok (.iaload, 1) := by decide +kernel
theorem dL_reads_188 : decode cL_reads 188 = .ok (.if_icmp .ne 7, 3) := by decide +kernel
theorem dL_reads_191 : decode cL_reads 191 = .ok (.iconst (-1), 1) := by decide +kernel
theorem dL_reads_192 : decode cL_reads 192 = .ok (.goto 4, 3) := by decide +kernel
theorem dL_reads_195 : decode cL_reads 195 = .ok (.iconst 1, 1) := by decide +kernel
theorem dL_reads_196 : decode cL_reads 196 = .ok (.iastore, 1) := by decide +kernel
theorem dL_reads_197 : decode cL_reads 197 = .ok (.iinc 5 (-1), 3) := by decide +kernel
theorem dL_reads_200 : decode cL_reads 200 = .ok (.goto (-187), 3) := by decide +kernel
theorem dL_reads_203 : decode cL_reads 203 = .ok (.aload_n 3, 1) := by decide +kernel
theorem dL_reads_204 : decode cL_reads 204 = .ok (.iconst 0, 1) := by decide +kernel
theorem dL_reads_205 : decode cL_reads 205 = .ok (.iaload, 1) := by decide +kernel
theorem dL_reads_206 : decode cL_reads 206 = .ok (.ireturn, 1) := by decide +kernel
theorem dL_apart_0 : decode cL_apart 0 = .ok (.iconst 0, 1) := by decide +kernel
theorem dL_apart_1 : decode cL_apart 1 = .ok (.istore_n 2, 1) := by decide +kernel
theorem dL_apart_2 : decode cL_apart 2 = .ok (.iconst 0, 1) := by decide +kernel
theorem dL_apart_3 : decode cL_apart 3 = .ok (.istore_n 3, 1) := by decide +kernel
theorem dL_apart_4 : decode cL_apart 4 = .ok (.iload_n 3, 1) := by decide +kernel
theorem dL_apart_5 : decode cL_apart 5 = .ok (.aload_n 0, 1) := by decide +kernel
theorem dL_apart_6 : decode cL_apart 6 = .ok (.bipush 12, 2) := by decide +kernel
theorem dL_apart_8 : decode cL_apart 8 = .ok (.iaload, 1) := by decide +kernel
theorem dL_apart_9 : decode cL_apart 9 = .ok (.invokestatic 11, 3) := by decide +kernel
theorem dL_apart_12 : decode cL_apart 12 = .ok (.if_icmp .ge 26, 3) := by decide +kernel
theorem dL_apart_15 : decode cL_apart 15 = .ok (.iload_n 2, 1) := by decide +kernel
theorem dL_apart_16 : decode cL_apart 16 = .ok (.aload_n 0, 1) := by decide +kernel
theorem dL_apart_17 : decode cL_apart 17 = .ok (.iload_n 3, 1) := by decide +kernel
theorem dL_apart_18 : decode cL_apart 18 = .ok (.iaload, 1) := by decide +kernel
theorem dL_apart_19 : decode cL_apart 19 = .ok (.aload_n 1, 1) := by decide +kernel
theorem dL_apart_20 : decode cL_apart 20 = .ok (.iload_n 3, 1) := by decide +kernel
theorem dL_apart_21 : decode cL_apart 21 = .ok (.iaload, 1) := by decide +kernel
theorem dL_apart_22 : decode cL_apart 22 = .ok (.if_icmp .ne 7, 3) := by decide +kernel
theorem dL_apart_25 : decode cL_apart 25 = .ok (.iconst 0, 1) := by decide +kernel
theorem dL_apart_26 : decode cL_apart 26 = .ok (.goto 4, 3) := by decide +kernel
theorem dL_apart_29 : decode cL_apart 29 = .ok (.iconst 1, 1) := by decide +kernel
theorem dL_apart_30 : decode cL_apart 30 = .ok (.iadd, 1) := by decide +kernel
theorem dL_apart_31 : decode cL_apart 31 = .ok (.istore_n 2, 1) := by decide +kernel
theorem dL_apart_32 : decode cL_apart 32 = .ok (.iinc 3 1, 3) := by decide +kernel
theorem dL_apart_35 : decode cL_apart 35 = .ok (.goto (-31), 3) := by decide +kernel
theorem dL_apart_38 : decode cL_apart 38 = .ok (.iload_n 2, 1) := by decide +kernel
theorem dL_apart_39 : decode cL_apart 39 = .ok (.ireturn, 1) := by decide +kernel
theorem dL_keeps_0 : decode cL_keeps 0 = .ok (.aload_n 1, 1) := by decide +kernel
theorem dL_keeps_1 : decode cL_keeps 1 = .ok (.bipush 16, 2) := by decide +kernel
theorem dL_keeps_3 : decode cL_keeps 3 = .ok (.iaload, 1) := by decide +kernel
theorem dL_keeps_4 : decode cL_keeps 4 = .ok (.istore_n 3, 1) := by decide +kernel
theorem dL_keeps_5 : decode cL_keeps 5 = .ok (.iload_n 3, 1) := by decide +kernel
theorem dL_keeps_6 : decode cL_keeps 6 = .ok (.bipush 7, 2) := by decide +kernel
theorem dL_keeps_8 : decode cL_keeps 8 = .ok (.if_icmp .ne 5, 3) := by decide +kernel
theorem dL_keeps_11 : decode cL_keeps 11 = .ok (.iconst 1, 1) := by decide +kernel
theorem dL_keeps_12 : decode cL_keeps 12 = .ok (.ireturn, 1) := by decide +kernel
theorem dL_keeps_13 : decode cL_keeps 13 = .ok (.bipush 16, 2) := by decide +kernel
theorem dL_keeps_15 : decode cL_keeps 15 = .ok (.newarray .int, 2) := by decide +kernel
theorem dL_keeps_17 : decode cL_keeps 17 = .ok (.astore 4, 2) := by decide +kernel
theorem dL_keeps_19 : decode cL_keeps 19 = .ok (.bipush 8, 2) := by decide +kernel
theorem dL_keeps_21 : decode cL_keeps 21 = .ok (.newarray .int, 2) := by decide +kernel
theorem dL_keeps_23 : decode cL_keeps 23 = .ok (.astore 5, 2) := by decide +kernel
theorem dL_keeps_25 : decode cL_keeps 25 = .ok (.aload_n 1, 1) := by decide +kernel
theorem dL_keeps_26 : decode cL_keeps 26 = .ok (.bipush 13, 2) := by decide +kernel
theorem dL_keeps_28 : decode cL_keeps 28 = .ok (.iaload, 1) := by decide +kernel
theorem dL_keeps_29 : decode cL_keeps 29 = .ok (.iconst (-1), 1) := by decide +kernel
theorem dL_keeps_30 : decode cL_keeps 30 = .ok (.if_icmp .eq 38, 3) := by decide +kernel
theorem dL_keeps_33 : decode cL_keeps 33 = .ok (.aload_n 2, 1) := by decide +kernel
theorem dL_keeps_34 : decode cL_keeps 34 = .ok (.aload_n 1, 1) := by decide +kernel
theorem dL_keeps_35 : decode cL_keeps 35 = .ok (.bipush 13, 2) := by decide +kernel
theorem dL_keeps_37 : decode cL_keeps 37 = .ok (.iaload, 1) := by decide +kernel
theorem dL_keeps_38 : decode cL_keeps 38 = .ok (.aload 4, 2) := by decide +kernel
theorem dL_keeps_40 : decode cL_keeps 40 = .ok (.aload 5, 2) := by decide +kernel
theorem dL_keeps_42 : decode cL_keeps 42 = .ok (.invokestatic 34, 3) := by decide +kernel
theorem dL_keeps_45 : decode cL_keeps 45 = .ok (.iconst (-1), 1) := by decide +kernel
theorem dL_keeps_46 : decode cL_keeps 46 = .ok (.if_icmp .ne 22, 3) := by decide +kernel
theorem dL_keeps_49 : decode cL_keeps 49 = .ok (.aload_n 2, 1) := by decide +kernel
theorem dL_keeps_50 : decode cL_keeps 50 = .ok (.aload_n 1, 1) := by decide +kernel
theorem dL_keeps_51 : decode cL_keeps 51 = .ok (.bipush 13, 2) := by decide +kernel
theorem dL_keeps_53 : decode cL_keeps 53 = .ok (.iaload, 1) := by decide +kernel
theorem dL_keeps_54 : decode cL_keeps 54 = .ok (.invokestatic 15, 3) := by decide +kernel
theorem dL_keeps_57 : decode cL_keeps 57 = .ok (.aload_n 1, 1) := by decide +kernel
theorem dL_keeps_58 : decode cL_keeps 58 = .ok (.bipush 14, 2) := by decide +kernel
theorem dL_keeps_60 : decode cL_keeps 60 = .ok (.iaload, 1) := by decide +kernel
theorem dL_keeps_61 : decode cL_keeps 61 = .ok (.if_icmp .ge 7, 3) := by decide +kernel
theorem dL_keeps_64 : decode cL_keeps 64 = .ok (.iconst 1, 1) := by decide +kernel
theorem dL_keeps_65 : decode cL_keeps 65 = .ok (.goto 4, 3) := by decide +kernel
theorem dL_keeps_68 : decode cL_keeps 68 = .ok (.iconst 0, 1) := by decide +kernel
theorem dL_keeps_69 : decode cL_keeps 69 = .ok (.istore 6, 2) := by decide +kernel
theorem dL_keeps_71 : decode cL_keeps 71 = .ok (.iload 6, 2) := by decide +kernel
theorem dL_keeps_73 : decode cL_keeps 73 = .ok (.ifCond .eq 23, 3) := by decide +kernel
theorem dL_keeps_76 : decode cL_keeps 76 = .ok (.aload 4, 2) := by decide +kernel
theorem dL_keeps_78 : decode cL_keeps 78 = .ok (.bipush 12, 2) := by decide +kernel
theorem dL_keeps_80 : decode cL_keeps 80 = .ok (.iaload, 1) := by decide +kernel
theorem dL_keeps_81 : decode cL_keeps 81 = .ok (.aload_n 1, 1) := by decide +kernel
theorem dL_keeps_82 : decode cL_keeps 82 = .ok (.bipush 12, 2) := by decide +kernel
theorem dL_keeps_84 : decode cL_keeps 84 = .ok (.iaload, 1) := by decide +kernel
theorem dL_keeps_85 : decode cL_keeps 85 = .ok (.if_icmp .ge 11, 3) := by decide +kernel
theorem dL_keeps_88 : decode cL_keeps 88 = .ok (.aload 4, 2) := by decide +kernel
theorem dL_keeps_90 : decode cL_keeps 90 = .ok (.invokestatic 23, 3) := by decide +kernel
theorem dL_keeps_93 : decode cL_keeps 93 = .ok (.goto (-22), 3) := by decide +kernel
theorem dL_keeps_96 : decode cL_keeps 96 = .ok (.iload 6, 2) := by decide +kernel
theorem dL_keeps_98 : decode cL_keeps 98 = .ok (.ifCond .eq 18, 3) := by decide +kernel
theorem dL_keeps_101 : decode cL_keeps 101 = .ok (.aload 4, 2) := by decide +kernel
theorem dL_keeps_103 : decode cL_keeps 103 = .ok (.aload_n 1, 1) := by decide +kernel
theorem dL_keeps_104 : decode cL_keeps 104 = .ok (.invokestatic 38, 3) := by decide +kernel
theorem dL_keeps_107 : decode cL_keeps 107 = .ok (.bipush 6, 2) := by decide +kernel
theorem dL_keeps_109 : decode cL_keeps 109 = .ok (.if_icmp .gt 7, 3) := by decide +kernel
theorem dL_keeps_112 : decode cL_keeps 112 = .ok (.iconst 1, 1) := by decide +kernel
theorem dL_keeps_113 : decode cL_keeps 113 = .ok (.goto 4, 3) := by decide +kernel
theorem dL_keeps_116 : decode cL_keeps 116 = .ok (.iconst 0, 1) := by decide +kernel
theorem dL_keeps_117 : decode cL_keeps 117 = .ok (.istore 6, 2) := by decide +kernel
theorem dL_keeps_119 : decode cL_keeps 119 = .ok (.aload_n 2, 1) := by decide +kernel
theorem dL_keeps_120 : decode cL_keeps 120 = .ok (.bipush 8, 2) := by decide +kernel
theorem dL_keeps_122 : decode cL_keeps 122 = .ok (.iload_n 3, 1) := by decide +kernel
theorem dL_keeps_123 : decode cL_keeps 123 = .ok (.imul, 1) := by decide +kernel
theorem dL_keeps_124 : decode cL_keeps 124 = .ok (.aload_n 1, 1) := by decide +kernel
theorem dL_keeps_125 : decode cL_keeps 125 = .ok (.bipush 12, 2) := by decide +kernel
theorem dL_keeps_127 : decode cL_keeps 127 = .ok (.iaload, 1) := by decide +kernel
theorem dL_keeps_128 : decode cL_keeps 128 = .ok (.iastore, 1) := by decide +kernel
theorem dL_keeps_129 : decode cL_keeps 129 = .ok (.aload_n 2, 1) := by decide +kernel
theorem dL_keeps_130 : decode cL_keeps 130 = .ok (.bipush 8, 2) := by decide +kernel
theorem dL_keeps_132 : decode cL_keeps 132 = .ok (.iload_n 3, 1) := by decide +kernel
theorem dL_keeps_133 : decode cL_keeps 133 = .ok (.imul, 1) := by decide +kernel
theorem dL_keeps_134 : decode cL_keeps 134 = .ok (.iconst 1, 1) := by decide +kernel
theorem dL_keeps_135 : decode cL_keeps 135 = .ok (.iadd, 1) := by decide +kernel
theorem dL_keeps_136 : decode cL_keeps 136 = .ok (.aload_n 1, 1) := by decide +kernel
theorem dL_keeps_137 : decode cL_keeps 137 = .ok (.invokestatic 30, 3) := by decide +kernel
theorem dL_keeps_140 : decode cL_keeps 140 = .ok (.iastore, 1) := by decide +kernel
theorem dL_keeps_141 : decode cL_keeps 141 = .ok (.aload_n 2, 1) := by decide +kernel
theorem dL_keeps_142 : decode cL_keeps 142 = .ok (.bipush 8, 2) := by decide +kernel
theorem dL_keeps_144 : decode cL_keeps 144 = .ok (.iload_n 3, 1) := by decide +kernel
theorem dL_keeps_145 : decode cL_keeps 145 = .ok (.imul, 1) := by decide +kernel
theorem dL_keeps_146 : decode cL_keeps 146 = .ok (.iconst 2, 1) := by decide +kernel
theorem dL_keeps_147 : decode cL_keeps 147 = .ok (.iadd, 1) := by decide +kernel
theorem dL_keeps_148 : decode cL_keeps 148 = .ok (.iload 6, 2) := by decide +kernel
theorem dL_keeps_150 : decode cL_keeps 150 = .ok (.ifCond .eq 10, 3) := by decide +kernel
theorem dL_keeps_153 : decode cL_keeps 153 = .ok (.aload_n 1, 1) := by decide +kernel
theorem dL_keeps_154 : decode cL_keeps 154 = .ok (.bipush 13, 2) := by decide +kernel
theorem dL_keeps_156 : decode cL_keeps 156 = .ok (.iaload, 1) := by decide +kernel
theorem dL_keeps_157 : decode cL_keeps 157 = .ok (.goto 4, 3) := by decide +kernel
theorem dL_keeps_160 : decode cL_keeps 160 = .ok (.iconst (-1), 1) := by decide +kernel
theorem dL_keeps_161 : decode cL_keeps 161 = .ok (.iastore, 1) := by decide +kernel
theorem dL_keeps_162 : decode cL_keeps 162 = .ok (.aload_n 2, 1) := by decide +kernel
theorem dL_keeps_163 : decode cL_keeps 163 = .ok (.bipush 8, 2) := by decide +kernel
theorem dL_keeps_165 : decode cL_keeps 165 = .ok (.iload_n 3, 1) := by decide +kernel
theorem dL_keeps_166 : decode cL_keeps 166 = .ok (.imul, 1) := by decide +kernel
theorem dL_keeps_167 : decode cL_keeps 167 = .ok (.iconst 3, 1) := by decide +kernel
theorem dL_keeps_168 : decode cL_keeps 168 = .ok (.iadd, 1) := by decide +kernel
theorem dL_keeps_169 : decode cL_keeps 169 = .ok (.iconst 0, 1) := by decide +kernel
theorem dL_keeps_170 : decode cL_keeps 170 = .ok (.iastore, 1) := by decide +kernel
theorem dL_keeps_171 : decode cL_keeps 171 = .ok (.aload_n 2, 1) := by decide +kernel
theorem dL_keeps_172 : decode cL_keeps 172 = .ok (.bipush 8, 2) := by decide +kernel
theorem dL_keeps_174 : decode cL_keeps 174 = .ok (.iload_n 3, 1) := by decide +kernel
theorem dL_keeps_175 : decode cL_keeps 175 = .ok (.imul, 1) := by decide +kernel
theorem dL_keeps_176 : decode cL_keeps 176 = .ok (.iconst 4, 1) := by decide +kernel
theorem dL_keeps_177 : decode cL_keeps 177 = .ok (.iadd, 1) := by decide +kernel
theorem dL_keeps_178 : decode cL_keeps 178 = .ok (.iconst 0, 1) := by decide +kernel
theorem dL_keeps_179 : decode cL_keeps 179 = .ok (.iastore, 1) := by decide +kernel
theorem dL_keeps_180 : decode cL_keeps 180 = .ok (.iconst 0, 1) := by decide +kernel
theorem dL_keeps_181 : decode cL_keeps 181 = .ok (.istore 7, 2) := by decide +kernel
theorem dL_keeps_183 : decode cL_keeps 183 = .ok (.iload 7, 2) := by decide +kernel
theorem dL_keeps_185 : decode cL_keeps 185 = .ok (.aload_n 1, 1) := by decide +kernel
theorem dL_keeps_186 : decode cL_keeps 186 = .ok (.bipush 12, 2) := by decide +kernel
theorem dL_keeps_188 : decode cL_keeps 188 = .ok (.iaload, 1) := by decide +kernel
theorem dL_keeps_189 : decode cL_keeps 189 = .ok (.invokestatic 11, 3) := by decide +kernel
theorem dL_keeps_192 : decode cL_keeps 192 = .ok (.if_icmp .ge 70, 3) := by decide +kernel
theorem dL_keeps_195 : decode cL_keeps 195 = .ok (.iload 6, 2) := by decide +kernel
theorem dL_keeps_197 : decode cL_keeps 197 = .ok (.ifCond .eq 15, 3) := by decide +kernel
theorem dL_keeps_200 : decode cL_keeps 200 = .ok (.aload 4, 2) := by decide +kernel
theorem dL_keeps_202 : decode cL_keeps 202 = .ok (.iload 7, 2) := by decide +kernel
theorem dL_keeps_204 : decode cL_keeps 204 = .ok (.iaload, 1) := by decide +kernel
theorem dL_keeps_205 : decode cL_keeps 205 = .ok (.aload_n 1, 1) := by decide +kernel
theorem dL_keeps_206 : decode cL_keeps 206 = .ok (.iload 7, 2) := by decide +kernel
theorem dL_keeps_208 : decode cL_keeps 208 = .ok (.iaload, 1) := by decide +kernel
theorem dL_keeps_209 : decode cL_keeps 209 = .ok (.if_icmp .eq 47, 3) := by decide +kernel
theorem dL_keeps_212 : decode cL_keeps 212 = .ok (.aload_n 2, 1) := by decide +kernel
theorem dL_keeps_213 : decode cL_keeps 213 = .ok (.iload_n 3, 1) := by decide +kernel
theorem dL_keeps_214 : decode cL_keeps 214 = .ok (.aload_n 2, 1) := by decide +kernel
theorem dL_keeps_215 : decode cL_keeps 215 = .ok (.bipush 8, 2) := by decide +kernel
theorem dL_keeps_217 : decode cL_keeps 217 = .ok (.iload_n 3, 1) := by decide +kernel
theorem dL_keeps_218 : decode cL_keeps 218 = .ok (.imul, 1) := by decide +kernel
theorem dL_keeps_219 : decode cL_keeps 219 = .ok (.iconst 4, 1) := by decide +kernel
theorem dL_keeps_220 : decode cL_keeps 220 = .ok (.iadd, 1) := by decide +kernel
theorem dL_keeps_221 : decode cL_keeps 221 = .ok (.iaload, 1) := by decide +kernel
theorem dL_keeps_222 : decode cL_keeps 222 = .ok (.aload_n 1, 1) := by decide +kernel
theorem dL_keeps_223 : decode cL_keeps 223 = .ok (.iload 7, 2) := by decide +kernel
theorem dL_keeps_225 : decode cL_keeps 225 = .ok (.iaload, 1) := by decide +kernel
theorem dL_keeps_226 : decode cL_keeps 226 = .ok (.invokestatic 42, 3) := by decide +kernel
theorem dL_keeps_229 : decode cL_keeps 229 = .ok (.aload_n 2, 1) := by decide +kernel
theorem dL_keeps_230 : decode cL_keeps 230 = .ok (.bipush 8, 2) := by decide +kernel
theorem dL_keeps_232 : decode cL_keeps 232 = .ok (.iload_n 3, 1) := by decide +kernel
theorem dL_keeps_233 : decode cL_keeps 233 = .ok (.imul, 1) := by decide +kernel
theorem dL_keeps_234 : decode cL_keeps 234 = .ok (.iconst 3, 1) := by decide +kernel
theorem dL_keeps_235 : decode cL_keeps 235 = .ok (.iadd, 1) := by decide +kernel
theorem dL_keeps_236 : decode cL_keeps 236 = .ok (.dup2, 1) := by decide +kernel
theorem dL_keeps_237 : decode cL_keeps 237 = .ok (.iaload, 1) := by decide +kernel
theorem dL_keeps_238 : decode cL_keeps 238 = .ok (.iconst 1, 1) := by decide +kernel
theorem dL_keeps_239 : decode cL_keeps 239 = .ok (.iload 7, 2) := by decide +kernel
theorem dL_keeps_241 : decode cL_keeps 241 = .ok (.ishl, 1) := by decide +kernel
theorem dL_keeps_242 : decode cL_keeps 242 = .ok (.ior, 1) := by decide +kernel
theorem dL_keeps_243 : decode cL_keeps 243 = .ok (.iastore, 1) := by decide +kernel
theorem dL_keeps_244 : decode cL_keeps 244 = .ok (.aload_n 2, 1) := by decide +kernel
theorem dL_keeps_245 : decode cL_keeps 245 = .ok (.bipush 8, 2) := by decide +kernel
theorem dL_keeps_247 : decode cL_keeps 247 = .ok (.iload_n 3, 1) := by decide +kernel
theorem dL_keeps_248 : decode cL_keeps 248 = .ok (.imul, 1) := by decide +kernel
theorem dL_keeps_249 : decode cL_keeps 249 = .ok (.iconst 4, 1) := by decide +kernel
theorem dL_keeps_250 : decode cL_keeps 250 = .ok (.iadd, 1) := by decide +kernel
theorem dL_keeps_251 : decode cL_keeps 251 = .ok (.dup2, 1) := by decide +kernel
theorem dL_keeps_252 : decode cL_keeps 252 = .ok (.iaload, 1) := by decide +kernel
theorem dL_keeps_253 : decode cL_keeps 253 = .ok (.iconst 1, 1) := by decide +kernel
theorem dL_keeps_254 : decode cL_keeps 254 = .ok (.iadd, 1) := by decide +kernel
theorem dL_keeps_255 : decode cL_keeps 255 = .ok (.iastore, 1) := by decide +kernel
theorem dL_keeps_256 : decode cL_keeps 256 = .ok (.iinc 7 1, 3) := by decide +kernel
theorem dL_keeps_259 : decode cL_keeps 259 = .ok (.goto (-76), 3) := by decide +kernel
theorem dL_keeps_262 : decode cL_keeps 262 = .ok (.aload_n 1, 1) := by decide +kernel
theorem dL_keeps_263 : decode cL_keeps 263 = .ok (.bipush 13, 2) := by decide +kernel
theorem dL_keeps_265 : decode cL_keeps 265 = .ok (.iload_n 3, 1) := by decide +kernel
theorem dL_keeps_266 : decode cL_keeps 266 = .ok (.iastore, 1) := by decide +kernel
theorem dL_keeps_267 : decode cL_keeps 267 = .ok (.aload_n 1, 1) := by decide +kernel
theorem dL_keeps_268 : decode cL_keeps 268 = .ok (.bipush 16, 2) := by decide +kernel
theorem dL_keeps_270 : decode cL_keeps 270 = .ok (.dup2, 1) := by decide +kernel
theorem dL_keeps_271 : decode cL_keeps 271 = .ok (.iaload, 1) := by decide +kernel
theorem dL_keeps_272 : decode cL_keeps 272 = .ok (.iconst 1, 1) := by decide +kernel
theorem dL_keeps_273 : decode cL_keeps 273 = .ok (.iadd, 1) := by decide +kernel
theorem dL_keeps_274 : decode cL_keeps 274 = .ok (.iastore, 1) := by decide +kernel
theorem dL_keeps_275 : decode cL_keeps 275 = .ok (.aload_n 0, 1) := by decide +kernel
theorem dL_keeps_276 : decode cL_keeps 276 = .ok (.invokevirtual 46, 3) := by decide +kernel
theorem dL_keeps_279 : decode cL_keeps 279 = .ok (.iload_n 3, 1) := by decide +kernel
theorem dL_keeps_280 : decode cL_keeps 280 = .ok (.if_icmp .ne 7, 3) := by decide +kernel
theorem dL_keeps_283 : decode cL_keeps 283 = .ok (.iconst 1, 1) := by decide +kernel
theorem dL_keeps_284 : decode cL_keeps 284 = .ok (.goto 4, 3) := by decide +kernel
theorem dL_keeps_287 : decode cL_keeps 287 = .ok (.iconst 0, 1) := by decide +kernel
theorem dL_keeps_288 : decode cL_keeps 288 = .ok (.ireturn, 1) := by decide +kernel
theorem dL_loads_0 : decode cL_loads 0 = .ok (.bipush 16, 2) := by decide +kernel
theorem dL_loads_2 : decode cL_loads 2 = .ok (.newarray .int, 2) := by decide +kernel
theorem dL_loads_4 : decode cL_loads 4 = .ok (.astore 4, 2) := by decide +kernel
theorem dL_loads_6 : decode cL_loads 6 = .ok (.bipush 8, 2) := by decide +kernel
theorem dL_loads_8 : decode cL_loads 8 = .ok (.newarray .int, 2) := by decide +kernel
theorem dL_loads_10 : decode cL_loads 10 = .ok (.astore 5, 2) := by decide +kernel
theorem dL_loads_12 : decode cL_loads 12 = .ok (.aload_n 2, 1) := by decide +kernel
theorem dL_loads_13 : decode cL_loads 13 = .ok (.bipush 8, 2) := by decide +kernel
theorem dL_loads_15 : decode cL_loads 15 = .ok (.iload_n 3, 1) := by decide +kernel
theorem dL_loads_16 : decode cL_loads 16 = .ok (.imul, 1) := by decide +kernel
theorem dL_loads_17 : decode cL_loads 17 = .ok (.iaload, 1) := by decide +kernel
theorem dL_loads_18 : decode cL_loads 18 = .ok (.ifCond .ne 19, 3) := by decide +kernel
theorem dL_loads_21 : decode cL_loads 21 = .ok (.aload_n 0, 1) := by decide +kernel
theorem dL_loads_22 : decode cL_loads 22 = .ok (.iload_n 3, 1) := by decide +kernel
theorem dL_loads_23 : decode cL_loads 23 = .ok (.invokevirtual 52, 3) := by decide +kernel
theorem dL_loads_26 : decode cL_loads 26 = .ok (.bipush (-2), 2) := by decide +kernel
theorem dL_loads_28 : decode cL_loads 28 = .ok (.if_icmp .ne 7, 3) := by decide +kernel
theorem dL_loads_31 : decode cL_loads 31 = .ok (.iconst 1, 1) := by decide +kernel
theorem dL_loads_32 : decode cL_loads 32 = .ok (.goto 4, 3) := by decide +kernel
theorem dL_loads_35 : decode cL_loads 35 = .ok (.iconst 0, 1) := by decide +kernel
theorem dL_loads_36 : decode cL_loads 36 = .ok (.ireturn, 1) := by decide +kernel
theorem dL_loads_37 : decode cL_loads 37 = .ok (.aload_n 2, 1) := by decide +kernel
theorem dL_loads_38 : decode cL_loads 38 = .ok (.iload_n 3, 1) := by decide +kernel
theorem dL_loads_39 : decode cL_loads 39 = .ok (.aload 4, 2) := by decide +kernel
theorem dL_loads_41 : decode cL_loads 41 = .ok (.aload 5, 2) := by decide +kernel
theorem dL_loads_43 : decode cL_loads 43 = .ok (.invokestatic 34, 3) := by decide +kernel
theorem dL_loads_46 : decode cL_loads 46 = .ok (.iconst (-1), 1) := by decide +kernel
theorem dL_loads_47 : decode cL_loads 47 = .ok (.if_icmp .eq 19, 3) := by decide +kernel
theorem dL_loads_50 : decode cL_loads 50 = .ok (.aload_n 0, 1) := by decide +kernel
theorem dL_loads_51 : decode cL_loads 51 = .ok (.iload_n 3, 1) := by decide +kernel
theorem dL_loads_52 : decode cL_loads 52 = .ok (.invokevirtual 52, 3) := by decide +kernel
theorem dL_loads_55 : decode cL_loads 55 = .ok (.bipush (-3), 2) := by decide +kernel
theorem dL_loads_57 : decode cL_loads 57 = .ok (.if_icmp .ne 7, 3) := by decide +kernel
theorem dL_loads_60 : decode cL_loads 60 = .ok (.iconst 1, 1) := by decide +kernel
theorem dL_loads_61 : decode cL_loads 61 = .ok (.goto 4, 3) := by decide +kernel
theorem dL_loads_64 : decode cL_loads 64 = .ok (.iconst 0, 1) := by decide +kernel
theorem dL_loads_65 : decode cL_loads 65 = .ok (.ireturn, 1) := by decide +kernel
theorem dL_loads_66 : decode cL_loads 66 = .ok (.aload_n 1, 1) := by decide +kernel
theorem dL_loads_67 : decode cL_loads 67 = .ok (.bipush 15, 2) := by decide +kernel
theorem dL_loads_69 : decode cL_loads 69 = .ok (.iaload, 1) := by decide +kernel
theorem dL_loads_70 : decode cL_loads 70 = .ok (.iconst 1, 1) := by decide +kernel
theorem dL_loads_71 : decode cL_loads 71 = .ok (.if_icmp .ne 23, 3) := by decide +kernel
theorem dL_loads_74 : decode cL_loads 74 = .ok (.aload 4, 2) := by decide +kernel
theorem dL_loads_76 : decode cL_loads 76 = .ok (.bipush 12, 2) := by decide +kernel
theorem dL_loads_78 : decode cL_loads 78 = .ok (.iaload, 1) := by decide +kernel
theorem dL_loads_79 : decode cL_loads 79 = .ok (.aload_n 1, 1) := by decide +kernel
theorem dL_loads_80 : decode cL_loads 80 = .ok (.bipush 12, 2) := by decide +kernel
theorem dL_loads_82 : decode cL_loads 82 = .ok (.iaload, 1) := by decide +kernel
theorem dL_loads_83 : decode cL_loads 83 = .ok (.if_icmp .ge 11, 3) := by decide +kernel
theorem dL_loads_86 : decode cL_loads 86 = .ok (.aload 4, 2) := by decide +kernel
theorem dL_loads_88 : decode cL_loads 88 = .ok (.invokestatic 23, 3) := by decide +kernel
theorem dL_loads_91 : decode cL_loads 91 = .ok (.goto (-25), 3) := by decide +kernel
theorem dL_loads_94 : decode cL_loads 94 = .ok (.iconst 0, 1) := by decide +kernel
theorem dL_loads_95 : decode cL_loads 95 = .ok (.istore 6, 2) := by decide +kernel
theorem dL_loads_97 : decode cL_loads 97 = .ok (.iload 6, 2) := by decide +kernel
theorem dL_loads_99 : decode cL_loads 99 = .ok (.bipush 13, 2) := by decide +kernel
theorem dL_loads_101 : decode cL_loads 101 = .ok (.if_icmp .ge 18, 3) := by decide +kernel
theorem dL_loads_104 : decode cL_loads 104 = .ok (.aload_n 1, 1) := by decide +kernel
theorem dL_loads_105 : decode cL_loads 105 = .ok (.iload 6, 2) := by decide +kernel
theorem dL_loads_107 : decode cL_loads 107 = .ok (.aload 4, 2) := by decide +kernel
theorem dL_loads_109 : decode cL_loads 109 = .ok (.iload 6, 2) := by decide +kernel
theorem dL_loads_111 : decode cL_loads 111 = .ok (.iaload, 1) := by decide +kernel
theorem dL_loads_112 : decode cL_loads 112 = .ok (.iastore, 1) := by decide +kernel
theorem dL_loads_113 : decode cL_loads 113 = .ok (.iinc 6 1, 3) := by decide +kernel
theorem dL_loads_116 : decode cL_loads 116 = .ok (.goto (-19), 3) := by decide +kernel
theorem dL_loads_119 : decode cL_loads 119 = .ok (.aload_n 1, 1) := by decide +kernel
theorem dL_loads_120 : decode cL_loads 120 = .ok (.bipush 13, 2) := by decide +kernel
theorem dL_loads_122 : decode cL_loads 122 = .ok (.iload_n 3, 1) := by decide +kernel
theorem dL_loads_123 : decode cL_loads 123 = .ok (.iastore, 1) := by decide +kernel
theorem dL_loads_124 : decode cL_loads 124 = .ok (.aload_n 0, 1) := by decide +kernel
theorem dL_loads_125 : decode cL_loads 125 = .ok (.iload_n 3, 1) := by decide +kernel
theorem dL_loads_126 : decode cL_loads 126 = .ok (.invokevirtual 52, 3) := by decide +kernel
theorem dL_loads_129 : decode cL_loads 129 = .ok (.aload_n 1, 1) := by decide +kernel
theorem dL_loads_130 : decode cL_loads 130 = .ok (.bipush 12, 2) := by decide +kernel
theorem dL_loads_132 : decode cL_loads 132 = .ok (.iaload, 1) := by decide +kernel
theorem dL_loads_133 : decode cL_loads 133 = .ok (.if_icmp .ne 7, 3) := by decide +kernel
theorem dL_loads_136 : decode cL_loads 136 = .ok (.iconst 1, 1) := by decide +kernel
theorem dL_loads_137 : decode cL_loads 137 = .ok (.goto 4, 3) := by decide +kernel
theorem dL_loads_140 : decode cL_loads 140 = .ok (.iconst 0, 1) := by decide +kernel
theorem dL_loads_141 : decode cL_loads 141 = .ok (.ireturn, 1) := by decide +kernel
theorem dL_typesNumber_0 : decode cL_typesNumber 0 = .ok (.iload_n 1, 1) := by decide +kernel
theorem dL_typesNumber_1 : decode cL_typesNumber 1 = .ok (.ifCond .ge 8, 3) := by decide +kernel
theorem dL_typesNumber_4 : decode cL_typesNumber 4 = .ok (.iload_n 1, 1) := by decide +kernel
theorem dL_typesNumber_5 : decode cL_typesNumber 5 = .ok (.ineg, 1) := by decide +kernel
theorem dL_typesNumber_6 : decode cL_typesNumber 6 = .ok (.goto 4, 3) := by decide +kernel
theorem dL_typesNumber_9 : decode cL_typesNumber 9 = .ok (.iload_n 1, 1) := by decide +kernel
theorem dL_typesNumber_10 : decode cL_typesNumber 10 = .ok (.istore_n 2, 1) := by decide +kernel
theorem dL_typesNumber_11 : decode cL_typesNumber 11 = .ok (.iload_n 1, 1) := by decide +kernel
theorem dL_typesNumber_12 : decode cL_typesNumber 12 = .ok (.ifCond .ge 12, 3) := by decide +kernel
theorem dL_typesNumber_15 : decode cL_typesNumber 15 = .ok (.aload_n 0, 1) := by decide +kernel
theorem dL_typesNumber_16 : decode cL_typesNumber 16 = .ok (.bipush 45, 2) := by decide +kernel
theorem dL_typesNumber_18 : decode cL_typesNumber 18 = .ok (.invokevirtual 55, 3) := by decide +kernel
theorem dL_typesNumber_21 : decode cL_typesNumber 21 = .ok (.ifCond .le 41, 3) := by decide +kernel
theorem dL_typesNumber_24 : decode cL_typesNumber 24 = .ok (.iload_n 2, 1) := by decide +kernel
theorem dL_typesNumber_25 : decode cL_typesNumber 25 = .ok (.bipush 10, 2) := by decide +kernel
theorem dL_typesNumber_27 : decode cL_typesNumber 27 = .ok (.if_icmp .lt 17, 3) := by decide +kernel
theorem dL_typesNumber_30 : decode cL_typesNumber 30 = .ok (.aload_n 0, 1) := by decide +kernel
theorem dL_typesNumber_31 : decode cL_typesNumber 31 = .ok (.bipush 48, 2) := by decide +kernel
theorem dL_typesNumber_33 : decode cL_typesNumber 33 = .ok (.iload_n 2, 1) := by decide +kernel
theorem dL_typesNumber_34 : decode cL_typesNumber 34 = .ok (.bipush 10, 2) := by decide +kernel
theorem dL_typesNumber_36 : decode cL_typesNumber 36 = .ok (.idiv, 1) := by decide +kernel
theorem dL_typesNumber_37 : decode cL_typesNumber 37 = .ok (.iadd, 1) := by decide +kernel
theorem dL_typesNumber_38 : decode cL_typesNumber 38 = .ok (.invokevirtual 55, 3) := by decide +kernel
theorem dL_typesNumber_41 : decode cL_typesNumber 41 = .ok (.ifCond .le 21, 3) := by decide +kernel
theorem dL_typesNumber_44 : decode cL_typesNumber 44 = .ok (.aload_n 0, 1) := by decide +kernel
theorem dL_typesNumber_45 : decode cL_typesNumber 45 = .ok (.bipush 48, 2) := by decide +kernel
theorem dL_typesNumber_47 : decode cL_typesNumber 47 = .ok (.iload_n 2, 1) := by decide +kernel
theorem dL_typesNumber_48 : decode cL_typesNumber 48 = .ok (.bipush 10, 2) := by decide +kernel
theorem dL_typesNumber_50 : decode cL_typesNumber 50 = .ok (.irem, 1) := by decide +kernel
theorem dL_typesNumber_51 : decode cL_typesNumber 51 = .ok (.iadd, 1) := by decide +kernel
theorem dL_typesNumber_52 : decode cL_typesNumber 52 = .ok (.invokevirtual 55, 3) := by decide +kernel
theorem dL_typesNumber_55 : decode cL_typesNumber 55 = .ok (.ifCond .le 7, 3) := by decide +kernel
theorem dL_typesNumber_58 : decode cL_typesNumber 58 = .ok (.iconst 1, 1) := by decide +kernel
theorem dL_typesNumber_59 : decode cL_typesNumber 59 = .ok (.goto 4, 3) := by decide +kernel
theorem dL_typesNumber_62 : decode cL_typesNumber 62 = .ok (.iconst 0, 1) := by decide +kernel
theorem dL_typesNumber_63 : decode cL_typesNumber 63 = .ok (.ireturn, 1) := by decide +kernel
theorem dL_spells_0 : decode cL_spells 0 = .ok (.iconst 1, 1) := by decide +kernel
theorem dL_spells_1 : decode cL_spells 1 = .ok (.istore_n 3, 1) := by decide +kernel
theorem dL_spells_2 : decode cL_spells 2 = .ok (.bipush 56, 2) := by decide +kernel
theorem dL_spells_4 : decode cL_spells 4 = .ok (.istore 4, 2) := by decide +kernel
theorem dL_spells_6 : decode cL_spells 6 = .ok (.iload 4, 2) := by decide +kernel
theorem dL_spells_8 : decode cL_spells 8 = .ok (.ifCond .lt 44, 3) := by decide +kernel
theorem dL_spells_11 : decode cL_spells 11 = .ok (.lload_n 1, 1) := by decide +kernel
theorem dL_spells_12 : decode cL_spells 12 = .ok (.iload 4, 2) := by decide +kernel
theorem dL_spells_14 : decode cL_spells 14 = .ok (.lshr, 1) := by decide +kernel
theorem dL_spells_15 : decode cL_spells 15 = .ok (.ldc2_w 58, 3) := by decide +kernel
theorem dL_spells_18 : decode cL_spells 18 = .ok (.land, 1) := by decide +kernel
theorem dL_spells_19 : decode cL_spells 19 = .ok (.l2i, 1) := by decide +kernel
theorem dL_spells_20 : decode cL_spells 20 = .ok (.istore 5, 2) := by decide +kernel
theorem dL_spells_22 : decode cL_spells 22 = .ok (.iload_n 3, 1) := by decide +kernel
theorem dL_spells_23 : decode cL_spells 23 = .ok (.ifCond .eq 21, 3) := by decide +kernel
theorem dL_spells_26 : decode cL_spells 26 = .ok (.iload 5, 2) := by decide +kernel
theorem dL_spells_28 : decode cL_spells 28 = .ok (.ifCond .eq 12, 3) := by decide +kernel
theorem dL_spells_31 : decode cL_spells 31 = .ok (.aload_n 0, 1) := by decide +kernel
theorem dL_spells_32 : decode cL_spells 32 = .ok (.iload 5, 2) := by decide +kernel
theorem dL_spells_34 : decode cL_spells 34 = .ok (.invokevirtual 55, 3) := by decide +kernel
theorem dL_spells_37 : decode cL_spells 37 = .ok (.ifCond .le 7, 3) := by decide +kernel
theorem dL_spells_40 : decode cL_spells 40 = .ok (.iconst 1, 1) := by decide +kernel
theorem dL_spells_41 : decode cL_spells 41 = .ok (.goto 4, 3) := by decide +kernel
theorem dL_spells_44 : decode cL_spells 44 = .ok (.iconst 0, 1) := by decide +kernel
theorem dL_spells_45 : decode cL_spells 45 = .ok (.istore_n 3, 1) := by decide +kernel
theorem dL_spells_46 : decode cL_spells 46 = .ok (.iinc 4 (-8), 3) := by decide +kernel
theorem dL_spells_49 : decode cL_spells 49 = .ok (.goto (-43), 3) := by decide +kernel
theorem dL_spells_52 : decode cL_spells 52 = .ok (.iload_n 3, 1) := by decide +kernel
theorem dL_spells_53 : decode cL_spells 53 = .ok (.ireturn, 1) := by decide +kernel
theorem dL_types_0 : decode cL_types 0 = .ok (.aload_n 1, 1) := by decide +kernel
theorem dL_types_1 : decode cL_types 1 = .ok (.bipush 12, 2) := by decide +kernel
theorem dL_types_3 : decode cL_types 3 = .ok (.iaload, 1) := by decide +kernel
theorem dL_types_4 : decode cL_types 4 = .ok (.invokestatic 11, 3) := by decide +kernel
theorem dL_types_7 : decode cL_types 7 = .ok (.istore_n 3, 1) := by decide +kernel
theorem dL_types_8 : decode cL_types 8 = .ok (.iload_n 2, 1) := by decide +kernel
theorem dL_types_9 : decode cL_types 9 = .ok (.iconst 5, 1) := by decide +kernel
theorem dL_types_10 : decode cL_types 10 = .ok (.invokestatic 60, 3) := by decide +kernel
theorem dL_types_13 : decode cL_types 13 = .ok (.istore 4, 2) := by decide +kernel
theorem dL_types_15 : decode cL_types 15 = .ok (.iload_n 2, 1) := by decide +kernel
theorem dL_types_16 : decode cL_types 16 = .ok (.iconst 3, 1) := by decide +kernel
theorem dL_types_17 : decode cL_types 17 = .ok (.ishr, 1) := by decide +kernel
theorem dL_types_18 : decode cL_types 18 = .ok (.iload_n 3, 1) := by decide +kernel
theorem dL_types_19 : decode cL_types 19 = .ok (.invokestatic 60, 3) := by decide +kernel
theorem dL_types_22 : decode cL_types 22 = .ok (.istore 5, 2) := by decide +kernel
theorem dL_types_24 : decode cL_types 24 = .ok (.iload 4, 2) := by decide +kernel
theorem dL_types_26 : decode cL_types 26 = .ok (.iconst 2, 1) := by decide +kernel
theorem dL_types_27 : decode cL_types 27 = .ok (.if_icmp .ne 14, 3) := by decide +kernel
theorem dL_types_30 : decode cL_types 30 = .ok (.iload_n 2, 1) := by decide +kernel
theorem dL_types_31 : decode cL_types 31 = .ok (.bipush 7, 2) := by decide +kernel
theorem dL_types_33 : decode cL_types 33 = .ok (.ishr, 1) := by decide +kernel
theorem dL_types_34 : decode cL_types 34 = .ok (.iload_n 3, 1) := by decide +kernel
theorem dL_types_35 : decode cL_types 35 = .ok (.invokestatic 60, 3) := by decide +kernel
theorem dL_types_38 : decode cL_types 38 = .ok (.goto 17, 3) := by decide +kernel
theorem dL_types_41 : decode cL_types 41 = .ok (.iload 5, 2) := by decide +kernel
theorem dL_types_43 : decode cL_types 43 = .ok (.iload_n 2, 1) := by decide +kernel
theorem dL_types_44 : decode cL_types 44 = .ok (.bipush 7, 2) := by decide +kernel
theorem dL_types_46 : decode cL_types 46 = .ok (.ishr, 1) := by decide +kernel
theorem dL_types_47 : decode cL_types 47 = .ok (.iload_n 3, 1) := by decide +kernel
theorem dL_types_48 : decode cL_types 48 = .ok (.iload 5, 2) := by decide +kernel
theorem dL_types_50 : decode cL_types 50 = .ok (.isub, 1) := by decide +kernel
theorem dL_types_51 : decode cL_types 51 = .ok (.invokestatic 60, 3) := by decide +kernel
theorem dL_types_54 : decode cL_types 54 = .ok (.iadd, 1) := by decide +kernel
theorem dL_types_55 : decode cL_types 55 = .ok (.istore 6, 2) := by decide +kernel
theorem dL_types_57 : decode cL_types 57 = .ok (.iload_n 2, 1) := by decide +kernel
theorem dL_types_58 : decode cL_types 58 = .ok (.bipush 11, 2) := by decide +kernel
theorem dL_types_60 : decode cL_types 60 = .ok (.ishr, 1) := by decide +kernel
theorem dL_types_61 : decode cL_types 61 = .ok (.bipush 100, 2) := by decide +kernel
theorem dL_types_63 : decode cL_types 63 = .ok (.invokestatic 60, 3) := by decide +kernel
theorem dL_types_66 : decode cL_types 66 = .ok (.istore 7, 2) := by decide +kernel
theorem dL_types_68 : decode cL_types 68 = .ok (.aload_n 0, 1) := by decide +kernel
theorem dL_types_69 : decode cL_types 69 = .ok (.iload 4, 2) := by decide +kernel
theorem dL_types_71 : decode cL_types 71 = .ok (.ifCond .ne 9, 3) := by decide +kernel
theorem dL_types_74 : decode cL_types 74 = .ok (.ldc2_w 64, 3) := by decide +kernel
theorem dL_types_77 : decode cL_types 77 = .ok (.goto 42, 3) := by decide +kernel
theorem dL_types_80 : decode cL_types 80 = .ok (.iload 4, 2) := by decide +kernel
theorem dL_types_82 : decode cL_types 82 = .ok (.iconst 1, 1) := by decide +kernel
theorem dL_types_83 : decode cL_types 83 = .ok (.if_icmp .ne 9, 3) := by decide +kernel
theorem dL_types_86 : decode cL_types 86 = .ok (.ldc2_w 66, 3) := by decide +kernel
theorem dL_types_89 : decode cL_types 89 = .ok (.goto 30, 3) := by decide +kernel
theorem dL_types_92 : decode cL_types 92 = .ok (.iload 4, 2) := by decide +kernel
theorem dL_types_94 : decode cL_types 94 = .ok (.iconst 2, 1) := by decide +kernel
theorem dL_types_95 : decode cL_types 95 = .ok (.if_icmp .ne 9, 3) := by decide +kernel
theorem dL_types_98 : decode cL_types 98 = .ok (.ldc2_w 68, 3) := by decide +kernel
theorem dL_types_101 : decode cL_types 101 = .ok (.goto 18, 3) := by decide +kernel
theorem dL_types_104 : decode cL_types 104 = .ok (.iload 4, 2) := by decide +kernel
theorem dL_types_106 : decode cL_types 106 = .ok (.iconst 3, 1) := by decide +kernel
theorem dL_types_107 : decode cL_types 107 = .ok (.if_icmp .ne 9, 3) := by decide +kernel
theorem dL_types_110 : decode cL_types 110 = .ok (.ldc2_w 70, 3) := by decide +kernel
theorem dL_types_113 : decode cL_types 113 = .ok (.goto 6, 3) := by decide +kernel
theorem dL_types_116 : decode cL_types 116 = .ok (.ldc2_w 72, 3) := by decide +kernel
theorem dL_types_119 : decode cL_types 119 = .ok (.invokestatic 74, 3) := by decide +kernel
theorem dL_types_122 : decode cL_types 122 = .ok (.ifCond .eq 34, 3) := by decide +kernel
theorem dL_types_125 : decode cL_types 125 = .ok (.iload_n 2, 1) := by decide +kernel
theorem dL_types_126 : decode cL_types 126 = .ok (.bipush 18, 2) := by decide +kernel
theorem dL_types_128 : decode cL_types 128 = .ok (.ishr, 1) := by decide +kernel
theorem dL_types_129 : decode cL_types 129 = .ok (.iconst 1, 1) := by decide +kernel
theorem dL_types_130 : decode cL_types 130 = .ok (.iand, 1) := by decide +kernel
theorem dL_types_131 : decode cL_types 131 = .ok (.ifCond .eq 12, 3) := by decide +kernel
theorem dL_types_134 : decode cL_types 134 = .ok (.aload_n 0, 1) := by decide +kernel
theorem dL_types_135 : decode cL_types 135 = .ok (.bipush 32, 2) := by decide +kernel
theorem dL_types_137 : decode cL_types 137 = .ok (.invokevirtual 55, 3) := by decide +kernel
theorem dL_types_140 : decode cL_types 140 = .ok (.ifCond .le 16, 3) := by decide +kernel
theorem dL_types_143 : decode cL_types 143 = .ok (.aload_n 0, 1) := by decide +kernel
theorem dL_types_144 : decode cL_types 144 = .ok (.iload 5, 2) := by decide +kernel
theorem dL_types_146 : decode cL_types 146 = .ok (.invokestatic 78, 3) := by decide +kernel
theorem dL_types_149 : decode cL_types 149 = .ok (.ifCond .eq 7, 3) := by decide +kernel
theorem dL_types_152 : decode cL_types 152 = .ok (.iconst 1, 1) := by decide +kernel
theorem dL_types_153 : decode cL_types 153 = .ok (.goto 4, 3) := by decide +kernel
theorem dL_types_156 : decode cL_types 156 = .ok (.iconst 0, 1) := by decide +kernel
theorem dL_types_157 : decode cL_types 157 = .ok (.istore 8, 2) := by decide +kernel
theorem dL_types_159 : decode cL_types 159 = .ok (.iload 4, 2) := by decide +kernel
theorem dL_types_161 : decode cL_types 161 = .ok (.tableswitch 297 0 3 #[31, 70, 170, 223], 31) := by decide +kernel
theorem dL_types_192 : decode cL_types 192 = .ok (.iload 8, 2) := by decide +kernel
theorem dL_types_194 : decode cL_types 194 = .ok (.ifCond .eq 25, 3) := by decide +kernel
theorem dL_types_197 : decode cL_types 197 = .ok (.aload_n 0, 1) := by decide +kernel
theorem dL_types_198 : decode cL_types 198 = .ok (.bipush 32, 2) := by decide +kernel
theorem dL_types_200 : decode cL_types 200 = .ok (.invokevirtual 55, 3) := by decide +kernel
theorem dL_types_203 : decode cL_types 203 = .ok (.ifCond .le 16, 3) := by decide +kernel
theorem dL_types_206 : decode cL_types 206 = .ok (.aload_n 0, 1) := by decide +kernel
theorem dL_types_207 : decode cL_types 207 = .ok (.iload 7, 2) := by decide +kernel
theorem dL_types_209 : decode cL_types 209 = .ok (.invokestatic 78, 3) := by decide +kernel
theorem dL_types_212 : decode cL_types 212 = .ok (.ifCond .eq 7, 3) := by decide +kernel
theorem dL_types_215 : decode cL_types 215 = .ok (.iconst 1, 1) := by decide +kernel
theorem dL_types_216 : decode cL_types 216 = .ok (.goto 4, 3) := by decide +kernel
theorem dL_types_219 : decode cL_types 219 = .ok (.iconst 0, 1) := by decide +kernel
theorem dL_types_220 : decode cL_types 220 = .ok (.istore 8, 2) := by decide +kernel
theorem dL_types_222 : decode cL_types 222 = .ok (.aload_n 1, 1) := by decide +kernel
theorem dL_types_223 : decode cL_types 223 = .ok (.iload 5, 2) := by decide +kernel
theorem dL_types_225 : decode cL_types 225 = .ok (.iload 7, 2) := by decide +kernel
theorem dL_types_227 : decode cL_types 227 = .ok (.iastore, 1) := by decide +kernel
theorem dL_types_228 : decode cL_types 228 = .ok (.goto 302, 3) := by decide +kernel
theorem dL_types_231 : decode cL_types 231 = .ok (.iload_n 2, 1) := by decide +kernel
theorem dL_types_232 : decode cL_types 232 = .ok (.bipush 19, 2) := by decide +kernel
theorem dL_types_234 : decode cL_types 234 = .ok (.ishr, 1) := by decide +kernel
theorem dL_types_235 : decode cL_types 235 = .ok (.iconst 1, 1) := by decide +kernel
theorem dL_types_236 : decode cL_types 236 = .ok (.iand, 1) := by decide +kernel
theorem dL_types_237 : decode cL_types 237 = .ok (.iconst 1, 1) := by decide +kernel
theorem dL_types_238 : decode cL_types 238 = .ok (.if_icmp .ne 9, 3) := by decide +kernel
theorem dL_types_241 : decode cL_types 241 = .ok (.iload 7, 2) := by decide +kernel
theorem dL_types_243 : decode cL_types 243 = .ok (.ineg, 1) := by decide +kernel
theorem dL_types_244 : decode cL_types 244 = .ok (.goto 5, 3) := by decide +kernel
theorem dL_types_247 : decode cL_types 247 = .ok (.iload 7, 2) := by decide +kernel
theorem dL_types_249 : decode cL_types 249 = .ok (.istore 9, 2) := by decide +kernel
theorem dL_types_251 : decode cL_types 251 = .ok (.iload 8, 2) := by decide +kernel
theorem dL_types_253 : decode cL_types 253 = .ok (.ifCond .eq 30, 3) := by decide +kernel
theorem dL_types_256 : decode cL_types 256 = .ok (.iload 9, 2) := by decide +kernel
theorem dL_types_258 : decode cL_types 258 = .ok (.ifCond .lt 12, 3) := by decide +kernel
theorem dL_types_261 : decode cL_types 261 = .ok (.aload_n 0, 1) := by decide +kernel
theorem dL_types_262 : decode cL_types 262 = .ok (.bipush 32, 2) := by decide +kernel
theorem dL_types_264 : decode cL_types 264 = .ok (.invokevirtual 55, 3) := by decide +kernel
theorem dL_types_267 : decode cL_types 267 = .ok (.ifCond .le 16, 3) := by decide +kernel
theorem dL_types_270 : decode cL_types 270 = .ok (.aload_n 0, 1) := by decide +kernel
theorem dL_types_271 : decode cL_types 271 = .ok (.iload 9, 2) := by decide +kernel
theorem dL_types_273 : decode cL_types 273 = .ok (.invokestatic 78, 3) := by decide +kernel
theorem dL_types_276 : decode cL_types 276 = .ok (.ifCond .eq 7, 3) := by decide +kernel
theorem dL_types_279 : decode cL_types 279 = .ok (.iconst 1, 1) := by decide +kernel
theorem dL_types_280 : decode cL_types 280 = .ok (.goto 4, 3) := by decide +kernel
theorem dL_types_283 : decode cL_types 283 = .ok (.iconst 0, 1) := by decide +kernel
theorem dL_types_284 : decode cL_types 284 = .ok (.istore 8, 2) := by decide +kernel
theorem dL_types_286 : decode cL_types 286 = .ok (.aload_n 1, 1) := by decide +kernel
theorem dL_types_287 : decode cL_types 287 = .ok (.iload 5, 2) := by decide +kernel
theorem dL_types_289 : decode cL_types 289 = .ok (.aload_n 1, 1) := by decide +kernel
theorem dL_types_290 : decode cL_types 290 = .ok (.iload 5, 2) := by decide +kernel
theorem dL_types_292 : decode cL_types 292 = .ok (.iaload, 1) := by decide +kernel
theorem dL_types_293 : decode cL_types 293 = .ok (.iload 9, 2) := by decide +kernel
theorem dL_types_295 : decode cL_types 295 = .ok (.iadd, 1) := by decide +kernel
theorem dL_types_296 : decode cL_types 296 = .ok (.ifCond .ge 7, 3) := by decide +kernel
theorem dL_types_299 : decode cL_types 299 = .ok (.iconst 0, 1) := by decide +kernel
theorem dL_types_300 : decode cL_types 300 = .ok (.goto 27, 3) := by decide +kernel
theorem dL_types_303 : decode cL_types 303 = .ok (.aload_n 1, 1) := by decide +kernel
theorem dL_types_304 : decode cL_types 304 = .ok (.iload 5, 2) := by decide +kernel
theorem dL_types_306 : decode cL_types 306 = .ok (.iaload, 1) := by decide +kernel
theorem dL_types_307 : decode cL_types 307 = .ok (.iload 9, 2) := by decide +kernel
theorem dL_types_309 : decode cL_types 309 = .ok (.iadd, 1) := by decide +kernel
theorem dL_types_310 : decode cL_types 310 = .ok (.bipush 99, 2) := by decide +kernel
theorem dL_types_312 : decode cL_types 312 = .ok (.if_icmp .le 8, 3) := by decide +kernel
theorem dL_types_315 : decode cL_types 315 = .ok (.bipush 99, 2) := by decide +kernel
theorem dL_types_317 : decode cL_types 317 = .ok (.goto 10, 3) := by decide +kernel
theorem dL_types_320 : decode cL_types 320 = .ok (.aload_n 1, 1) := by decide +kernel
theorem dL_types_321 : decode cL_types 321 = .ok (.iload 5, 2) := by decide +kernel
theorem dL_types_323 : decode cL_types 323 = .ok (.iaload, 1) := by decide +kernel
theorem dL_types_324 : decode cL_types 324 = .ok (.iload 9, 2) := by decide +kernel
theorem dL_types_326 : decode cL_types 326 = .ok (.iadd, 1) := by decide +kernel
theorem dL_types_327 : decode cL_types 327 = .ok (.iastore, 1) := by decide +kernel
theorem dL_types_328 : decode cL_types 328 = .ok (.goto 202, 3) := by decide +kernel
theorem dL_types_331 : decode cL_types 331 = .ok (.aload_n 1, 1) := by decide +kernel
theorem dL_types_332 : decode cL_types 332 = .ok (.iload 5, 2) := by decide +kernel
theorem dL_types_334 : decode cL_types 334 = .ok (.iaload, 1) := by decide +kernel
theorem dL_types_335 : decode cL_types 335 = .ok (.istore 9, 2) := by decide +kernel
theorem dL_types_337 : decode cL_types 337 = .ok (.aload_n 1, 1) := by decide +kernel
theorem dL_types_338 : decode cL_types 338 = .ok (.iload 5, 2) := by decide +kernel
theorem dL_types_340 : decode cL_types 340 = .ok (.aload_n 1, 1) := by decide +kernel
theorem dL_types_341 : decode cL_types 341 = .ok (.iload 6, 2) := by decide +kernel
theorem dL_types_343 : decode cL_types 343 = .ok (.iaload, 1) := by decide +kernel
