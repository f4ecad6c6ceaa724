theorem dX4_init_0 : decode cX4_init 0 = .ok (.aload_n 0, 1) := by decide +kernel
theorem dX4_init_1 : decode cX4_init 1 = .ok (.invokespecial 1, 3) := by decide +kernel
theorem dX4_init_4 : decode cX4_init 4 = .ok (.aload_n 0, 1) := by decide +kernel
theorem dX4_init_5 : decode cX4_init 5 = .ok (.new 7, 3) := by decide +kernel
theorem dX4_init_8 : decode cX4_init 8 = .ok (.dup, 1) := by decide +kernel
theorem dX4_init_9 : decode cX4_init 9 = .ok (.invokespecial 9, 3) := by decide +kernel
theorem dX4_init_12 : decode cX4_init 12 = .ok (.putfield 10, 3) := by decide +kernel
theorem dX4_init_15 : decode cX4_init 15 = .ok (.aload_n 0, 1) := by decide +kernel
theorem dX4_init_16 : decode cX4_init 16 = .ok (.bipush 6, 2) := by decide +kernel
theorem dX4_init_18 : decode cX4_init 18 = .ok (.anewarray 7, 3) := by decide +kernel
theorem dX4_init_21 : decode cX4_init 21 = .ok (.putfield 16, 3) := by decide +kernel
theorem dX4_init_24 : decode cX4_init 24 = .ok (.aload_n 0, 1) := by decide +kernel
theorem dX4_init_25 : decode cX4_init 25 = .ok (.iconst 0, 1) := by decide +kernel
theorem dX4_init_26 : decode cX4_init 26 = .ok (.putfield 20, 3) := by decide +kernel
theorem dX4_init_29 : decode cX4_init 29 = .ok (.aload_n 0, 1) := by decide +kernel
theorem dX4_init_30 : decode cX4_init 30 = .ok (.new 24, 3) := by decide +kernel
theorem dX4_init_33 : decode cX4_init 33 = .ok (.dup, 1) := by decide +kernel
theorem dX4_init_34 : decode cX4_init 34 = .ok (.invokespecial 26, 3) := by decide +kernel
theorem dX4_init_37 : decode cX4_init 37 = .ok (.putfield 27, 3) := by decide +kernel
theorem dX4_init_40 : decode cX4_init 40 = .ok (.aload_n 0, 1) := by decide +kernel
theorem dX4_init_41 : decode cX4_init 41 = .ok (.new 31, 3) := by decide +kernel
theorem dX4_init_44 : decode cX4_init 44 = .ok (.dup, 1) := by decide +kernel
theorem dX4_init_45 : decode cX4_init 45 = .ok (.invokespecial 33, 3) := by decide +kernel
theorem dX4_init_48 : decode cX4_init 48 = .ok (.putfield 34, 3) := by decide +kernel
theorem dX4_init_51 : decode cX4_init 51 = .ok (.aload_n 0, 1) := by decide +kernel
theorem dX4_init_52 : decode cX4_init 52 = .ok (.bipush 12, 2) := by decide +kernel
theorem dX4_init_54 : decode cX4_init 54 = .ok (.newarray .int, 2) := by decide +kernel
theorem dX4_init_56 : decode cX4_init 56 = .ok (.putfield 38, 3) := by decide +kernel
theorem dX4_init_59 : decode cX4_init 59 = .ok (.aload_n 0, 1) := by decide +kernel
theorem dX4_init_60 : decode cX4_init 60 = .ok (.bipush 12, 2) := by decide +kernel
theorem dX4_init_62 : decode cX4_init 62 = .ok (.newarray .int, 2) := by decide +kernel
theorem dX4_init_64 : decode cX4_init 64 = .ok (.putfield 42, 3) := by decide +kernel
theorem dX4_init_67 : decode cX4_init 67 = .ok (.iconst 0, 1) := by decide +kernel
theorem dX4_init_68 : decode cX4_init 68 = .ok (.istore_n 1, 1) := by decide +kernel
theorem dX4_init_69 : decode cX4_init 69 = .ok (.iload_n 1, 1) := by decide +kernel
theorem dX4_init_70 : decode cX4_init 70 = .ok (.bipush 6, 2) := by decide +kernel
theorem dX4_init_72 : decode cX4_init 72 = .ok (.if_icmp .ge 22, 3) := by decide +kernel
theorem dX4_init_75 : decode cX4_init 75 = .ok (.aload_n 0, 1) := by decide +kernel
theorem dX4_init_76 : decode cX4_init 76 = .ok (.getfield 16, 3) := by decide +kernel
theorem dX4_init_79 : decode cX4_init 79 = .ok (.iload_n 1, 1) := by decide +kernel
theorem dX4_init_80 : decode cX4_init 80 = .ok (.new 7, 3) := by decide +kernel
theorem dX4_init_83 : decode cX4_init 83 = .ok (.dup, 1) := by decide +kernel
theorem dX4_init_84 : decode cX4_init 84 = .ok (.invokespecial 9, 3) := by decide +kernel
theorem dX4_init_87 : decode cX4_init 87 = .ok (.aastore, 1) := by decide +kernel
theorem dX4_init_88 : decode cX4_init 88 = .ok (.iinc 1 1, 3) := by decide +kernel
theorem dX4_init_91 : decode cX4_init 91 = .ok (.goto (-22), 3) := by decide +kernel
theorem dX4_init_94 : decode cX4_init 94 = .ok (.return_, 1) := by decide +kernel
theorem dX4_type_0 : decode cX4_type 0 = .ok (.iload_n 1, 1) := by decide +kernel
theorem dX4_type_1 : decode cX4_type 1 = .ok (.ifCond .lt 9, 3) := by decide +kernel
theorem dX4_type_4 : decode cX4_type 4 = .ok (.iload_n 1, 1) := by decide +kernel
theorem dX4_type_5 : decode cX4_type 5 = .ok (.bipush 127, 2) := by decide +kernel
theorem dX4_type_7 : decode cX4_type 7 = .ok (.if_icmp .le 6, 3) := by decide +kernel
theorem dX4_type_10 : decode cX4_type 10 = .ok (.bipush (-2), 2) := by decide +kernel
theorem dX4_type_12 : decode cX4_type 12 = .ok (.ireturn, 1) := by decide +kernel
theorem dX4_type_13 : decode cX4_type 13 = .ok (.aload_n 0, 1) := by decide +kernel
theorem dX4_type_14 : decode cX4_type 14 = .ok (.getfield 27, 3) := by decide +kernel
theorem dX4_type_17 : decode cX4_type 17 = .ok (.getfield 45, 3) := by decide +kernel
theorem dX4_type_20 : decode cX4_type 20 = .ok (.bipush 80, 2) := by decide +kernel
theorem dX4_type_22 : decode cX4_type 22 = .ok (.if_icmp .lt 6, 3) := by decide +kernel
theorem dX4_type_25 : decode cX4_type 25 = .ok (.bipush (-4), 2) := by decide +kernel
theorem dX4_type_27 : decode cX4_type 27 = .ok (.ireturn, 1) := by decide +kernel
theorem dX4_type_28 : decode cX4_type 28 = .ok (.aload_n 0, 1) := by decide +kernel
theorem dX4_type_29 : decode cX4_type 29 = .ok (.getfield 27, 3) := by decide +kernel
theorem dX4_type_32 : decode cX4_type 32 = .ok (.getfield 48, 3) := by decide +kernel
theorem dX4_type_35 : decode cX4_type 35 = .ok (.aload_n 0, 1) := by decide +kernel
theorem dX4_type_36 : decode cX4_type 36 = .ok (.getfield 27, 3) := by decide +kernel
theorem dX4_type_39 : decode cX4_type 39 = .ok (.getfield 45, 3) := by decide +kernel
theorem dX4_type_42 : decode cX4_type 42 = .ok (.iload_n 1, 1) := by decide +kernel
theorem dX4_type_43 : decode cX4_type 43 = .ok (.iastore, 1) := by decide +kernel
theorem dX4_type_44 : decode cX4_type 44 = .ok (.aload_n 0, 1) := by decide +kernel
theorem dX4_type_45 : decode cX4_type 45 = .ok (.getfield 27, 3) := by decide +kernel
theorem dX4_type_48 : decode cX4_type 48 = .ok (.dup, 1) := by decide +kernel
theorem dX4_type_49 : decode cX4_type 49 = .ok (.getfield 45, 3) := by decide +kernel
theorem dX4_type_52 : decode cX4_type 52 = .ok (.iconst 1, 1) := by decide +kernel
theorem dX4_type_53 : decode cX4_type 53 = .ok (.iadd, 1) := by decide +kernel
theorem dX4_type_54 : decode cX4_type 54 = .ok (.putfield 45, 3) := by decide +kernel
theorem dX4_type_57 : decode cX4_type 57 = .ok (.aload_n 0, 1) := by decide +kernel
theorem dX4_type_58 : decode cX4_type 58 = .ok (.getfield 27, 3) := by decide +kernel
theorem dX4_type_61 : decode cX4_type 61 = .ok (.getfield 45, 3) := by decide +kernel
theorem dX4_type_64 : decode cX4_type 64 = .ok (.ireturn, 1) := by decide +kernel
theorem dX4_clear_0 : decode cX4_clear 0 = .ok (.aload_n 0, 1) := by decide +kernel
theorem dX4_clear_1 : decode cX4_clear 1 = .ok (.getfield 27, 3) := by decide +kernel
theorem dX4_clear_4 : decode cX4_clear 4 = .ok (.getfield 45, 3) := by decide +kernel
theorem dX4_clear_7 : decode cX4_clear 7 = .ok (.istore_n 1, 1) := by decide +kernel
theorem dX4_clear_8 : decode cX4_clear 8 = .ok (.aload_n 0, 1) := by decide +kernel
theorem dX4_clear_9 : decode cX4_clear 9 = .ok (.getfield 27, 3) := by decide +kernel
theorem dX4_clear_12 : decode cX4_clear 12 = .ok (.iconst 0, 1) := by decide +kernel
theorem dX4_clear_13 : decode cX4_clear 13 = .ok (.putfield 45, 3) := by decide +kernel
theorem dX4_clear_16 : decode cX4_clear 16 = .ok (.iload_n 1, 1) := by decide +kernel
theorem dX4_clear_17 : decode cX4_clear 17 = .ok (.ireturn, 1) := by decide +kernel
theorem dX4_play_0 : decode cX4_play 0 = .ok (.aload_n 0, 1) := by decide +kernel
theorem dX4_play_1 : decode cX4_play 1 = .ok (.getfield 27, 3) := by decide +kernel
theorem dX4_play_4 : decode cX4_play 4 = .ok (.aload_n 0, 1) := by decide +kernel
theorem dX4_play_5 : decode cX4_play 5 = .ok (.getfield 10, 3) := by decide +kernel
theorem dX4_play_8 : decode cX4_play 8 = .ok (.getfield 51, 3) := by decide +kernel
theorem dX4_play_11 : decode cX4_play 11 = .ok (.aload_n 0, 1) := by decide +kernel
theorem dX4_play_12 : decode cX4_play 12 = .ok (.getfield 10, 3) := by decide +kernel
theorem dX4_play_15 : decode cX4_play 15 = .ok (.getfield 54, 3) := by decide +kernel
theorem dX4_play_18 : decode cX4_play 18 = .ok (.invokestatic 57, 3) := by decide +kernel
theorem dX4_play_21 : decode cX4_play 21 = .ok (.invokevirtual 61, 3) := by decide +kernel
theorem dX4_play_24 : decode cX4_play 24 = .ok (.istore_n 1, 1) := by decide +kernel
theorem dX4_play_25 : decode cX4_play 25 = .ok (.iload_n 1, 1) := by decide +kernel
theorem dX4_play_26 : decode cX4_play 26 = .ok (.ifCond .lt 28, 3) := by decide +kernel
theorem dX4_play_29 : decode cX4_play 29 = .ok (.aload_n 0, 1) := by decide +kernel
theorem dX4_play_30 : decode cX4_play 30 = .ok (.invokevirtual 65, 3) := by decide +kernel
theorem dX4_play_33 : decode cX4_play 33 = .ok (.aload_n 0, 1) := by decide +kernel
theorem dX4_play_34 : decode cX4_play 34 = .ok (.getfield 27, 3) := by decide +kernel
theorem dX4_play_37 : decode cX4_play 37 = .ok (.getfield 68, 3) := by decide +kernel
theorem dX4_play_40 : decode cX4_play 40 = .ok (.iconst 0, 1) := by decide +kernel
theorem dX4_play_41 : decode cX4_play 41 = .ok (.aload_n 0, 1) := by decide +kernel
theorem dX4_play_42 : decode cX4_play 42 = .ok (.getfield 10, 3) := by decide +kernel
theorem dX4_play_45 : decode cX4_play 45 = .ok (.getfield 51, 3) := by decide +kernel
theorem dX4_play_48 : decode cX4_play 48 = .ok (.iconst 0, 1) := by decide +kernel
theorem dX4_play_49 : decode cX4_play 49 = .ok (.bipush 12, 2) := by decide +kernel
theorem dX4_play_51 : decode cX4_play 51 = .ok (.invokestatic 69, 3) := by decide +kernel
theorem dX4_play_54 : decode cX4_play 54 = .ok (.iload_n 1, 1) := by decide +kernel
theorem dX4_play_55 : decode cX4_play 55 = .ok (.ireturn, 1) := by decide +kernel
theorem dX4_raise_0 : decode cX4_raise 0 = .ok (.aload_n 0, 1) := by decide +kernel
theorem dX4_raise_1 : decode cX4_raise 1 = .ok (.getfield 10, 3) := by decide +kernel
theorem dX4_raise_4 : decode cX4_raise 4 = .ok (.getfield 54, 3) := by decide +kernel
theorem dX4_raise_7 : decode cX4_raise 7 = .ok (.iconst 3, 1) := by decide +kernel
theorem dX4_raise_8 : decode cX4_raise 8 = .ok (.if_icmp .lt 6, 3) := by decide +kernel
theorem dX4_raise_11 : decode cX4_raise 11 = .ok (.bipush (-3), 2) := by decide +kernel
theorem dX4_raise_13 : decode cX4_raise 13 = .ok (.ireturn, 1) := by decide +kernel
theorem dX4_raise_14 : decode cX4_raise 14 = .ok (.aload_n 0, 1) := by decide +kernel
theorem dX4_raise_15 : decode cX4_raise 15 = .ok (.invokevirtual 65, 3) := by decide +kernel
theorem dX4_raise_18 : decode cX4_raise 18 = .ok (.aload_n 0, 1) := by decide +kernel
theorem dX4_raise_19 : decode cX4_raise 19 = .ok (.getfield 10, 3) := by decide +kernel
theorem dX4_raise_22 : decode cX4_raise 22 = .ok (.getfield 51, 3) := by decide +kernel
theorem dX4_raise_25 : decode cX4_raise 25 = .ok (.aload_n 0, 1) := by decide +kernel
theorem dX4_raise_26 : decode cX4_raise 26 = .ok (.getfield 10, 3) := by decide +kernel
theorem dX4_raise_29 : decode cX4_raise 29 = .ok (.getfield 54, 3) := by decide +kernel
theorem dX4_raise_32 : decode cX4_raise 32 = .ok (.aload_n 0, 1) := by decide +kernel
theorem dX4_raise_33 : decode cX4_raise 33 = .ok (.getfield 10, 3) := by decide +kernel
theorem dX4_raise_36 : decode cX4_raise 36 = .ok (.getfield 54, 3) := by decide +kernel
theorem dX4_raise_39 : decode cX4_raise 39 = .ok (.iconst 1, 1) := by decide +kernel
theorem dX4_raise_40 : decode cX4_raise 40 = .ok (.iadd, 1) := by decide +kernel
theorem dX4_raise_41 : decode cX4_raise 41 = .ok (.invokestatic 75, 3) := by decide +kernel
theorem dX4_raise_44 : decode cX4_raise 44 = .ok (.aload_n 0, 1) := by decide +kernel
theorem dX4_raise_45 : decode cX4_raise 45 = .ok (.getfield 10, 3) := by decide +kernel
theorem dX4_raise_48 : decode cX4_raise 48 = .ok (.dup, 1) := by decide +kernel
theorem dX4_raise_49 : decode cX4_raise 49 = .ok (.getfield 54, 3) := by decide +kernel
theorem dX4_raise_52 : decode cX4_raise 52 = .ok (.iconst 1, 1) := by decide +kernel
theorem dX4_raise_53 : decode cX4_raise 53 = .ok (.iadd, 1) := by decide +kernel
theorem dX4_raise_54 : decode cX4_raise 54 = .ok (.putfield 54, 3) := by decide +kernel
theorem dX4_raise_57 : decode cX4_raise 57 = .ok (.aload_n 0, 1) := by decide +kernel
theorem dX4_raise_58 : decode cX4_raise 58 = .ok (.getfield 10, 3) := by decide +kernel
theorem dX4_raise_61 : decode cX4_raise 61 = .ok (.getfield 54, 3) := by decide +kernel
theorem dX4_raise_64 : decode cX4_raise 64 = .ok (.ireturn, 1) := by decide +kernel
theorem dX4_keep_0 : decode cX4_keep 0 = .ok (.aload_n 0, 1) := by decide +kernel
theorem dX4_keep_1 : decode cX4_keep 1 = .ok (.getfield 10, 3) := by decide +kernel
theorem dX4_keep_4 : decode cX4_keep 4 = .ok (.getfield 79, 3) := by decide +kernel
theorem dX4_keep_7 : decode cX4_keep 7 = .ok (.bipush 20, 2) := by decide +kernel
theorem dX4_keep_9 : decode cX4_keep 9 = .ok (.if_icmp .ge 15, 3) := by decide +kernel
theorem dX4_keep_12 : decode cX4_keep 12 = .ok (.aload_n 0, 1) := by decide +kernel
theorem dX4_keep_13 : decode cX4_keep 13 = .ok (.getfield 10, 3) := by decide +kernel
theorem dX4_keep_16 : decode cX4_keep 16 = .ok (.getfield 82, 3) := by decide +kernel
theorem dX4_keep_19 : decode cX4_keep 19 = .ok (.bipush 99, 2) := by decide +kernel
theorem dX4_keep_21 : decode cX4_keep 21 = .ok (.if_icmp .lt 6, 3) := by decide +kernel
theorem dX4_keep_24 : decode cX4_keep 24 = .ok (.bipush (-4), 2) := by decide +kernel
theorem dX4_keep_26 : decode cX4_keep 26 = .ok (.ireturn, 1) := by decide +kernel
theorem dX4_keep_27 : decode cX4_keep 27 = .ok (.aload_n 0, 1) := by decide +kernel
theorem dX4_keep_28 : decode cX4_keep 28 = .ok (.getfield 34, 3) := by decide +kernel
theorem dX4_keep_31 : decode cX4_keep 31 = .ok (.aload_n 0, 1) := by decide +kernel
theorem dX4_keep_32 : decode cX4_keep 32 = .ok (.getfield 10, 3) := by decide +kernel
theorem dX4_keep_35 : decode cX4_keep 35 = .ok (.invokevirtual 85, 3) := by decide +kernel
theorem dX4_keep_38 : decode cX4_keep 38 = .ok (.aload_n 0, 1) := by decide +kernel
theorem dX4_keep_39 : decode cX4_keep 39 = .ok (.invokevirtual 65, 3) := by decide +kernel
theorem dX4_keep_42 : decode cX4_keep 42 = .ok (.aload_n 0, 1) := by decide +kernel
theorem dX4_keep_43 : decode cX4_keep 43 = .ok (.getfield 10, 3) := by decide +kernel
theorem dX4_keep_46 : decode cX4_keep 46 = .ok (.getfield 89, 3) := by decide +kernel
theorem dX4_keep_49 : decode cX4_keep 49 = .ok (.aload_n 0, 1) := by decide +kernel
theorem dX4_keep_50 : decode cX4_keep 50 = .ok (.getfield 10, 3) := by decide +kernel
theorem dX4_keep_53 : decode cX4_keep 53 = .ok (.getfield 79, 3) := by decide +kernel
theorem dX4_keep_56 : decode cX4_keep 56 = .ok (.aaload, 1) := by decide +kernel
theorem dX4_keep_57 : decode cX4_keep 57 = .ok (.astore_n 1, 1) := by decide +kernel
theorem dX4_keep_58 : decode cX4_keep 58 = .ok (.aload_n 1, 1) := by decide +kernel
theorem dX4_keep_59 : decode cX4_keep 59 = .ok (.aload_n 0, 1) := by decide +kernel
theorem dX4_keep_60 : decode cX4_keep 60 = .ok (.getfield 10, 3) := by decide +kernel
theorem dX4_keep_63 : decode cX4_keep 63 = .ok (.getfield 82, 3) := by decide +kernel
theorem dX4_keep_66 : decode cX4_keep 66 = .ok (.putfield 93, 3) := by decide +kernel
theorem dX4_keep_69 : decode cX4_keep 69 = .ok (.aload_n 1, 1) := by decide +kernel
theorem dX4_keep_70 : decode cX4_keep 70 = .ok (.aload_n 0, 1) := by decide +kernel
theorem dX4_keep_71 : decode cX4_keep 71 = .ok (.getfield 10, 3) := by decide +kernel
theorem dX4_keep_74 : decode cX4_keep 74 = .ok (.getfield 54, 3) := by decide +kernel
theorem dX4_keep_77 : decode cX4_keep 77 = .ok (.putfield 98, 3) := by decide +kernel
theorem dX4_keep_80 : decode cX4_keep 80 = .ok (.aload_n 1, 1) := by decide +kernel
theorem dX4_keep_81 : decode cX4_keep 81 = .ok (.aload_n 0, 1) := by decide +kernel
theorem dX4_keep_82 : decode cX4_keep 82 = .ok (.getfield 10, 3) := by decide +kernel
theorem dX4_keep_85 : decode cX4_keep 85 = .ok (.getfield 51, 3) := by decide +kernel
theorem dX4_keep_88 : decode cX4_keep 88 = .ok (.aload_n 0, 1) := by decide +kernel
theorem dX4_keep_89 : decode cX4_keep 89 = .ok (.getfield 10, 3) := by decide +kernel
theorem dX4_keep_92 : decode cX4_keep 92 = .ok (.getfield 54, 3) := by decide +kernel
theorem dX4_keep_95 : decode cX4_keep 95 = .ok (.invokestatic 99, 3) := by decide +kernel
theorem dX4_keep_98 : decode cX4_keep 98 = .ok (.putfield 102, 3) := by decide +kernel
theorem dX4_keep_101 : decode cX4_keep 101 = .ok (.aload_n 0, 1) := by decide +kernel
theorem dX4_keep_102 : decode cX4_keep 102 = .ok (.invokevirtual 105, 3) := by decide +kernel
theorem dX4_keep_105 : decode cX4_keep 105 = .ok (.istore_n 2, 1) := by decide +kernel
theorem dX4_keep_106 : decode cX4_keep 106 = .ok (.iload_n 2, 1) := by decide +kernel
theorem dX4_keep_107 : decode cX4_keep 107 = .ok (.iconst (-1), 1) := by decide +kernel
theorem dX4_keep_108 : decode cX4_keep 108 = .ok (.if_icmp .ne 17, 3) := by decide +kernel
theorem dX4_keep_111 : decode cX4_keep 111 = .ok (.aload_n 1, 1) := by decide +kernel
theorem dX4_keep_112 : decode cX4_keep 112 = .ok (.aload_n 0, 1) := by decide +kernel
theorem dX4_keep_113 : decode cX4_keep 113 = .ok (.getfield 10, 3) := by decide +kernel
theorem dX4_keep_116 : decode cX4_keep 116 = .ok (.getfield 51, 3) := by decide +kernel
theorem dX4_keep_119 : decode cX4_keep 119 = .ok (.invokevirtual 109, 3) := by decide +kernel
theorem dX4_keep_122 : decode cX4_keep 122 = .ok (.goto 41, 3) := by decide +kernel
theorem dX4_keep_125 : decode cX4_keep 125 = .ok (.aload_n 0, 1) := by decide +kernel
theorem dX4_keep_126 : decode cX4_keep 126 = .ok (.iload_n 2, 1) := by decide +kernel
theorem dX4_keep_127 : decode cX4_keep 127 = .ok (.aload_n 0, 1) := by decide +kernel
theorem dX4_keep_128 : decode cX4_keep 128 = .ok (.getfield 10, 3) := by decide +kernel
theorem dX4_keep_131 : decode cX4_keep 131 = .ok (.getfield 54, 3) := by decide +kernel
theorem dX4_keep_134 : decode cX4_keep 134 = .ok (.aload_n 0, 1) := by decide +kernel
theorem dX4_keep_135 : decode cX4_keep 135 = .ok (.getfield 38, 3) := by decide +kernel
theorem dX4_keep_138 : decode cX4_keep 138 = .ok (.invokevirtual 113, 3) := by decide +kernel
theorem dX4_keep_141 : decode cX4_keep 141 = .ok (.aload_n 1, 1) := by decide +kernel
theorem dX4_keep_142 : decode cX4_keep 142 = .ok (.aload_n 0, 1) := by decide +kernel
theorem dX4_keep_143 : decode cX4_keep 143 = .ok (.getfield 10, 3) := by decide +kernel
theorem dX4_keep_146 : decode cX4_keep 146 = .ok (.getfield 117, 3) := by decide +kernel
theorem dX4_keep_149 : decode cX4_keep 149 = .ok (.aload_n 0, 1) := by decide +kernel
theorem dX4_keep_150 : decode cX4_keep 150 = .ok (.getfield 38, 3) := by decide +kernel
theorem dX4_keep_153 : decode cX4_keep 153 = .ok (.aload_n 0, 1) := by decide +kernel
theorem dX4_keep_154 : decode cX4_keep 154 = .ok (.getfield 10, 3) := by decide +kernel
theorem dX4_keep_157 : decode cX4_keep 157 = .ok (.getfield 51, 3) := by decide +kernel
theorem dX4_keep_160 : decode cX4_keep 160 = .ok (.invokevirtual 120, 3) := by decide +kernel
theorem dX4_keep_163 : decode cX4_keep 163 = .ok (.aload_n 0, 1) := by decide +kernel
theorem dX4_keep_164 : decode cX4_keep 164 = .ok (.getfield 10, 3) := by decide +kernel
theorem dX4_keep_167 : decode cX4_keep 167 = .ok (.dup, 1) := by decide +kernel
theorem dX4_keep_168 : decode cX4_keep 168 = .ok (.getfield 79, 3) := by decide +kernel
theorem dX4_keep_171 : decode cX4_keep 171 = .ok (.iconst 1, 1) := by decide +kernel
theorem dX4_keep_172 : decode cX4_keep 172 = .ok (.iadd, 1) := by decide +kernel
theorem dX4_keep_173 : decode cX4_keep 173 = .ok (.putfield 79, 3) := by decide +kernel
theorem dX4_keep_176 : decode cX4_keep 176 = .ok (.aload_n 0, 1) := by decide +kernel
theorem dX4_keep_177 : decode cX4_keep 177 = .ok (.getfield 10, 3) := by decide +kernel
theorem dX4_keep_180 : decode cX4_keep 180 = .ok (.dup, 1) := by decide +kernel
theorem dX4_keep_181 : decode cX4_keep 181 = .ok (.getfield 82, 3) := by decide +kernel
theorem dX4_keep_184 : decode cX4_keep 184 = .ok (.iconst 1, 1) := by decide +kernel
theorem dX4_keep_185 : decode cX4_keep 185 = .ok (.iadd, 1) := by decide +kernel
theorem dX4_keep_186 : decode cX4_keep 186 = .ok (.putfield 82, 3) := by decide +kernel
theorem dX4_keep_189 : decode cX4_keep 189 = .ok (.aload_n 0, 1) := by decide +kernel
theorem dX4_keep_190 : decode cX4_keep 190 = .ok (.getfield 10, 3) := by decide +kernel
theorem dX4_keep_193 : decode cX4_keep 193 = .ok (.aload_n 1, 1) := by decide +kernel
theorem dX4_keep_194 : decode cX4_keep 194 = .ok (.getfield 93, 3) := by decide +kernel
theorem dX4_keep_197 : decode cX4_keep 197 = .ok (.putfield 117, 3) := by decide +kernel
theorem dX4_keep_200 : decode cX4_keep 200 = .ok (.aload_n 1, 1) := by decide +kernel
theorem dX4_keep_201 : decode cX4_keep 201 = .ok (.getfield 93, 3) := by decide +kernel
theorem dX4_keep_204 : decode cX4_keep 204 = .ok (.ireturn, 1) := by decide +kernel
theorem dX4_load_0 : decode cX4_load 0 = .ok (.aload_n 0, 1) := by decide +kernel
theorem dX4_load_1 : decode cX4_load 1 = .ok (.getfield 10, 3) := by decide +kernel
theorem dX4_load_4 : decode cX4_load 4 = .ok (.iload_n 1, 1) := by decide +kernel
theorem dX4_load_5 : decode cX4_load 5 = .ok (.invokevirtual 124, 3) := by decide +kernel
theorem dX4_load_8 : decode cX4_load 8 = .ok (.istore_n 2, 1) := by decide +kernel
theorem dX4_load_9 : decode cX4_load 9 = .ok (.iload_n 2, 1) := by decide +kernel
theorem dX4_load_10 : decode cX4_load 10 = .ok (.iconst (-1), 1) := by decide +kernel
theorem dX4_load_11 : decode cX4_load 11 = .ok (.if_icmp .ne 6, 3) := by decide +kernel
theorem dX4_load_14 : decode cX4_load 14 = .ok (.bipush (-2), 2) := by decide +kernel
theorem dX4_load_16 : decode cX4_load 16 = .ok (.ireturn, 1) := by decide +kernel
theorem dX4_load_17 : decode cX4_load 17 = .ok (.aload_n 0, 1) := by decide +kernel
theorem dX4_load_18 : decode cX4_load 18 = .ok (.getfield 34, 3) := by decide +kernel
theorem dX4_load_21 : decode cX4_load 21 = .ok (.aload_n 0, 1) := by decide +kernel
theorem dX4_load_22 : decode cX4_load 22 = .ok (.getfield 10, 3) := by decide +kernel
theorem dX4_load_25 : decode cX4_load 25 = .ok (.invokevirtual 85, 3) := by decide +kernel
theorem dX4_load_28 : decode cX4_load 28 = .ok (.aload_n 0, 1) := by decide +kernel
theorem dX4_load_29 : decode cX4_load 29 = .ok (.getfield 34, 3) := by decide +kernel
theorem dX4_load_32 : decode cX4_load 32 = .ok (.getfield 127, 3) := by decide +kernel
theorem dX4_load_35 : decode cX4_load 35 = .ok (.iload_n 2, 1) := by decide +kernel
theorem dX4_load_36 : decode cX4_load 36 = .ok (.iaload, 1) := by decide +kernel
theorem dX4_load_37 : decode cX4_load 37 = .ok (.iconst (-1), 1) := by decide +kernel
theorem dX4_load_38 : decode cX4_load 38 = .ok (.if_icmp .eq 6, 3) := by decide +kernel
theorem dX4_load_41 : decode cX4_load 41 = .ok (.bipush (-3), 2) := by decide +kernel
theorem dX4_load_43 : decode cX4_load 43 = .ok (.ireturn, 1) := by decide +kernel
theorem dX4_load_44 : decode cX4_load 44 = .ok (.aload_n 0, 1) := by decide +kernel
theorem dX4_load_45 : decode cX4_load 45 = .ok (.invokevirtual 65, 3) := by decide +kernel
theorem dX4_load_48 : decode cX4_load 48 = .ok (.aload_n 0, 1) := by decide +kernel
theorem dX4_load_49 : decode cX4_load 49 = .ok (.getfield 10, 3) := by decide +kernel
theorem dX4_load_52 : decode cX4_load 52 = .ok (.getfield 89, 3) := by decide +kernel
theorem dX4_load_55 : decode cX4_load 55 = .ok (.iload_n 2, 1) := by decide +kernel
theorem dX4_load_56 : decode cX4_load 56 = .ok (.aaload, 1) := by decide +kernel
theorem dX4_load_57 : decode cX4_load 57 = .ok (.getfield 98, 3) := by decide +kernel
theorem dX4_load_60 : decode cX4_load 60 = .ok (.istore_n 3, 1) := by decide +kernel
theorem dX4_load_61 : decode cX4_load 61 = .ok (.aload_n 0, 1) := by decide +kernel
theorem dX4_load_62 : decode cX4_load 62 = .ok (.getfield 10, 3) := by decide +kernel
theorem dX4_load_65 : decode cX4_load 65 = .ok (.getfield 130, 3) := by decide +kernel
theorem dX4_load_68 : decode cX4_load 68 = .ok (.iconst 1, 1) := by decide +kernel
theorem dX4_load_69 : decode cX4_load 69 = .ok (.iaload, 1) := by decide +kernel
theorem dX4_load_70 : decode cX4_load 70 = .ok (.iconst 1, 1) := by decide +kernel
theorem dX4_load_71 : decode cX4_load 71 = .ok (.if_icmp .ne 15, 3) := by decide +kernel
theorem dX4_load_74 : decode cX4_load 74 = .ok (.iload_n 3, 1) := by decide +kernel
theorem dX4_load_75 : decode cX4_load 75 = .ok (.aload_n 0, 1) := by decide +kernel
theorem dX4_load_76 : decode cX4_load 76 = .ok (.getfield 10, 3) := by decide +kernel
theorem dX4_load_79 : decode cX4_load 79 = .ok (.getfield 54, 3) := by decide +kernel
theorem dX4_load_82 : decode cX4_load 82 = .ok (.invokestatic 133, 3) := by decide +kernel
theorem dX4_load_85 : decode cX4_load 85 = .ok (.istore_n 3, 1) := by decide +kernel
theorem dX4_load_86 : decode cX4_load 86 = .ok (.aload_n 0, 1) := by decide +kernel
theorem dX4_load_87 : decode cX4_load 87 = .ok (.iload_n 2, 1) := by decide +kernel
theorem dX4_load_88 : decode cX4_load 88 = .ok (.iload_n 3, 1) := by decide +kernel
theorem dX4_load_89 : decode cX4_load 89 = .ok (.aload_n 0, 1) := by decide +kernel
theorem dX4_load_90 : decode cX4_load 90 = .ok (.getfield 10, 3) := by decide +kernel
theorem dX4_load_93 : decode cX4_load 93 = .ok (.getfield 51, 3) := by decide +kernel
theorem dX4_load_96 : decode cX4_load 96 = .ok (.invokevirtual 113, 3) := by decide +kernel
theorem dX4_load_99 : decode cX4_load 99 = .ok (.aload_n 0, 1) := by decide +kernel
theorem dX4_load_100 : decode cX4_load 100 = .ok (.getfield 10, 3) := by decide +kernel
theorem dX4_load_103 : decode cX4_load 103 = .ok (.iload_n 3, 1) := by decide +kernel
theorem dX4_load_104 : decode cX4_load 104 = .ok (.putfield 54, 3) := by decide +kernel
theorem dX4_load_107 : decode cX4_load 107 = .ok (.aload_n 0, 1) := by decide +kernel
theorem dX4_load_108 : decode cX4_load 108 = .ok (.getfield 10, 3) := by decide +kernel
theorem dX4_load_111 : decode cX4_load 111 = .ok (.iload_n 1, 1) := by decide +kernel
theorem dX4_load_112 : decode cX4_load 112 = .ok (.putfield 117, 3) := by decide +kernel
theorem dX4_load_115 : decode cX4_load 115 = .ok (.iload_n 3, 1) := by decide +kernel
theorem dX4_load_116 : decode cX4_load 116 = .ok (.ireturn, 1) := by decide +kernel
theorem dX4_drop_0 : decode cX4_drop 0 = .ok (.aload_n 0, 1) := by decide +kernel
theorem dX4_drop_1 : decode cX4_drop 1 = .ok (.getfield 10, 3) := by decide +kernel
theorem dX4_drop_4 : decode cX4_drop 4 = .ok (.iload_n 1, 1) := by decide +kernel
theorem dX4_drop_5 : decode cX4_drop 5 = .ok (.invokevirtual 124, 3) := by decide +kernel
theorem dX4_drop_8 : decode cX4_drop 8 = .ok (.istore_n 3, 1) := by decide +kernel
theorem dX4_drop_9 : decode cX4_drop 9 = .ok (.iload_n 3, 1) := by decide +kernel
theorem dX4_drop_10 : decode cX4_drop 10 = .ok (.iconst (-1), 1) := by decide +kernel
theorem dX4_drop_11 : decode cX4_drop 11 = .ok (.if_icmp .ne 6, 3) := by decide +kernel
theorem dX4_drop_14 : decode cX4_drop 14 = .ok (.bipush (-2), 2) := by decide +kernel
theorem dX4_drop_16 : decode cX4_drop 16 = .ok (.ireturn, 1) := by decide +kernel
theorem dX4_drop_17 : decode cX4_drop 17 = .ok (.aload_n 0, 1) := by decide +kernel
theorem dX4_drop_18 : decode cX4_drop 18 = .ok (.getfield 34, 3) := by decide +kernel
theorem dX4_drop_21 : decode cX4_drop 21 = .ok (.aload_n 0, 1) := by decide +kernel
theorem dX4_drop_22 : decode cX4_drop 22 = .ok (.getfield 10, 3) := by decide +kernel
theorem dX4_drop_25 : decode cX4_drop 25 = .ok (.invokevirtual 85, 3) := by decide +kernel
theorem dX4_drop_28 : decode cX4_drop 28 = .ok (.aload_n 0, 1) := by decide +kernel
theorem dX4_drop_29 : decode cX4_drop 29 = .ok (.invokevirtual 65, 3) := by decide +kernel
theorem dX4_drop_32 : decode cX4_drop 32 = .ok (.iload_n 2, 1) := by decide +kernel
theorem dX4_drop_33 : decode cX4_drop 33 = .ok (.ifCond .eq 8, 3) := by decide +kernel
theorem dX4_drop_36 : decode cX4_drop 36 = .ok (.aload_n 0, 1) := by decide +kernel
theorem dX4_drop_37 : decode cX4_drop 37 = .ok (.iload_n 1, 1) := by decide +kernel
theorem dX4_drop_38 : decode cX4_drop 38 = .ok (.invokevirtual 139, 3) := by decide +kernel
theorem dX4_drop_41 : decode cX4_drop 41 = .ok (.aload_n 0, 1) := by decide +kernel
theorem dX4_drop_42 : decode cX4_drop 42 = .ok (.getfield 10, 3) := by decide +kernel
theorem dX4_drop_45 : decode cX4_drop 45 = .ok (.iload_n 3, 1) := by decide +kernel
theorem dX4_drop_46 : decode cX4_drop 46 = .ok (.invokevirtual 143, 3) := by decide +kernel
theorem dX4_drop_49 : decode cX4_drop 49 = .ok (.aload_n 0, 1) := by decide +kernel
theorem dX4_drop_50 : decode cX4_drop 50 = .ok (.getfield 10, 3) := by decide +kernel
theorem dX4_drop_53 : decode cX4_drop 53 = .ok (.getfield 117, 3) := by decide +kernel
theorem dX4_drop_56 : decode cX4_drop 56 = .ok (.iload_n 1, 1) := by decide +kernel
theorem dX4_drop_57 : decode cX4_drop 57 = .ok (.if_icmp .ne 11, 3) := by decide +kernel
theorem dX4_drop_60 : decode cX4_drop 60 = .ok (.aload_n 0, 1) := by decide +kernel
theorem dX4_drop_61 : decode cX4_drop 61 = .ok (.getfield 10, 3) := by decide +kernel
theorem dX4_drop_64 : decode cX4_drop 64 = .ok (.iconst (-1), 1) := by decide +kernel
theorem dX4_drop_65 : decode cX4_drop 65 = .ok (.putfield 117, 3) := by decide +kernel
theorem dX4_drop_68 : decode cX4_drop 68 = .ok (.aload_n 0, 1) := by decide +kernel
theorem dX4_drop_69 : decode cX4_drop 69 = .ok (.getfield 10, 3) := by decide +kernel
theorem dX4_drop_72 : decode cX4_drop 72 = .ok (.iload_n 1, 1) := by decide +kernel
theorem dX4_drop_73 : decode cX4_drop 73 = .ok (.invokevirtual 146, 3) := by decide +kernel
theorem dX4_drop_76 : decode cX4_drop 76 = .ok (.ireturn, 1) := by decide +kernel
theorem dX4_alter_0 : decode cX4_alter 0 = .ok (.aload_n 0, 1) := by decide +kernel
theorem dX4_alter_1 : decode cX4_alter 1 = .ok (.getfield 10, 3) := by decide +kernel
theorem dX4_alter_4 : decode cX4_alter 4 = .ok (.iload_n 1, 1) := by decide +kernel
theorem dX4_alter_5 : decode cX4_alter 5 = .ok (.invokevirtual 124, 3) := by decide +kernel
theorem dX4_alter_8 : decode cX4_alter 8 = .ok (.istore 4, 2) := by decide +kernel
theorem dX4_alter_10 : decode cX4_alter 10 = .ok (.iload 4, 2) := by decide +kernel
theorem dX4_alter_12 : decode cX4_alter 12 = .ok (.iconst (-1), 1) := by decide +kernel
theorem dX4_alter_13 : decode cX4_alter 13 = .ok (.if_icmp .eq 13, 3) := by decide +kernel
theorem dX4_alter_16 : decode cX4_alter 16 = .ok (.iload_n 3, 1) := by decide +kernel
theorem dX4_alter_17 : decode cX4_alter 17 = .ok (.ifCond .lt 9, 3) := by decide +kernel
theorem dX4_alter_20 : decode cX4_alter 20 = .ok (.iload_n 3, 1) := by decide +kernel
theorem dX4_alter_21 : decode cX4_alter 21 = .ok (.bipush 99, 2) := by decide +kernel
theorem dX4_alter_23 : decode cX4_alter 23 = .ok (.if_icmp .le 6, 3) := by decide +kernel
theorem dX4_alter_26 : decode cX4_alter 26 = .ok (.bipush (-2), 2) := by decide +kernel
theorem dX4_alter_28 : decode cX4_alter 28 = .ok (.ireturn, 1) := by decide +kernel
theorem dX4_alter_29 : decode cX4_alter 29 = .ok (.aload_n 0, 1) := by decide +kernel
theorem dX4_alter_30 : decode cX4_alter 30 = .ok (.getfield 10, 3) := by decide +kernel
theorem dX4_alter_33 : decode cX4_alter 33 = .ok (.getfield 89, 3) := by decide +kernel
theorem dX4_alter_36 : decode cX4_alter 36 = .ok (.iload 4, 2) := by decide +kernel
theorem dX4_alter_38 : decode cX4_alter 38 = .ok (.aaload, 1) := by decide +kernel
theorem dX4_alter_39 : decode cX4_alter 39 = .ok (.astore 5, 2) := by decide +kernel
theorem dX4_alter_41 : decode cX4_alter 41 = .ok (.iload_n 2, 1) := by decide +kernel
theorem dX4_alter_42 : decode cX4_alter 42 = .ok (.ifCond .lt 12, 3) := by decide +kernel
theorem dX4_alter_45 : decode cX4_alter 45 = .ok (.iload_n 2, 1) := by decide +kernel
theorem dX4_alter_46 : decode cX4_alter 46 = .ok (.aload 5, 2) := by decide +kernel
theorem dX4_alter_48 : decode cX4_alter 48 = .ok (.getfield 149, 3) := by decide +kernel
theorem dX4_alter_51 : decode cX4_alter 51 = .ok (.if_icmp .lt 6, 3) := by decide +kernel
theorem dX4_alter_54 : decode cX4_alter 54 = .ok (.bipush (-2), 2) := by decide +kernel
theorem dX4_alter_56 : decode cX4_alter 56 = .ok (.ireturn, 1) := by decide +kernel
theorem dX4_alter_57 : decode cX4_alter 57 = .ok (.aload_n 0, 1) := by decide +kernel
theorem dX4_alter_58 : decode cX4_alter 58 = .ok (.invokevirtual 65, 3) := by decide +kernel
theorem dX4_alter_61 : decode cX4_alter 61 = .ok (.aload 5, 2) := by decide +kernel
theorem dX4_alter_63 : decode cX4_alter 63 = .ok (.getfield 150, 3) := by decide +kernel
theorem dX4_alter_66 : decode cX4_alter 66 = .ok (.iload_n 2, 1) := by decide +kernel
theorem dX4_alter_67 : decode cX4_alter 67 = .ok (.iaload, 1) := by decide +kernel
theorem dX4_alter_68 : decode cX4_alter 68 = .ok (.istore 6, 2) := by decide +kernel
theorem dX4_alter_70 : decode cX4_alter 70 = .ok (.aload 5, 2) := by decide +kernel
theorem dX4_alter_72 : decode cX4_alter 72 = .ok (.getfield 150, 3) := by decide +kernel
theorem dX4_alter_75 : decode cX4_alter 75 = .ok (.iload_n 2, 1) := by decide +kernel
theorem dX4_alter_76 : decode cX4_alter 76 = .ok (.iload_n 3, 1) := by decide +kernel
theorem dX4_alter_77 : decode cX4_alter 77 = .ok (.iastore, 1) := by decide +kernel
theorem dX4_alter_78 : decode cX4_alter 78 = .ok (.iload 6, 2) := by decide +kernel
theorem dX4_alter_80 : decode cX4_alter 80 = .ok (.ireturn, 1) := by decide +kernel
theorem dX4_pack_0 : decode cX4_pack 0 = .ok (.aload_n 0, 1) := by decide +kernel
theorem dX4_pack_1 : decode cX4_pack 1 = .ok (.getfield 34, 3) := by decide +kernel
theorem dX4_pack_4 : decode cX4_pack 4 = .ok (.aload_n 0, 1) := by decide +kernel
theorem dX4_pack_5 : decode cX4_pack 5 = .ok (.getfield 10, 3) := by decide +kernel
theorem dX4_pack_8 : decode cX4_pack 8 = .ok (.invokevirtual 85, 3) := by decide +kernel
theorem dX4_pack_11 : decode cX4_pack 11 = .ok (.aload_n 0, 1) := by decide +kernel
theorem dX4_pack_12 : decode cX4_pack 12 = .ok (.invokevirtual 65, 3) := by decide +kernel
theorem dX4_pack_15 : decode cX4_pack 15 = .ok (.aload_n 0, 1) := by decide +kernel
theorem dX4_pack_16 : decode cX4_pack 16 = .ok (.getfield 10, 3) := by decide +kernel
theorem dX4_pack_19 : decode cX4_pack 19 = .ok (.invokevirtual 151, 3) := by decide +kernel
theorem dX4_pack_22 : decode cX4_pack 22 = .ok (.istore_n 1, 1) := by decide +kernel
theorem dX4_pack_23 : decode cX4_pack 23 = .ok (.iconst 0, 1) := by decide +kernel
theorem dX4_pack_24 : decode cX4_pack 24 = .ok (.istore_n 2, 1) := by decide +kernel
theorem dX4_pack_25 : decode cX4_pack 25 = .ok (.iload_n 2, 1) := by decide +kernel
theorem dX4_pack_26 : decode cX4_pack 26 = .ok (.aload_n 0, 1) := by decide +kernel
theorem dX4_pack_27 : decode cX4_pack 27 = .ok (.getfield 10, 3) := by decide +kernel
theorem dX4_pack_30 : decode cX4_pack 30 = .ok (.getfield 79, 3) := by decide +kernel
theorem dX4_pack_33 : decode cX4_pack 33 = .ok (.if_icmp .ge 27, 3) := by decide +kernel
theorem dX4_pack_36 : decode cX4_pack 36 = .ok (.aload_n 0, 1) := by decide +kernel
theorem dX4_pack_37 : decode cX4_pack 37 = .ok (.getfield 34, 3) := by decide +kernel
theorem dX4_pack_40 : decode cX4_pack 40 = .ok (.getfield 127, 3) := by decide +kernel
theorem dX4_pack_43 : decode cX4_pack 43 = .ok (.iload_n 2, 1) := by decide +kernel
theorem dX4_pack_44 : decode cX4_pack 44 = .ok (.iaload, 1) := by decide +kernel
theorem dX4_pack_45 : decode cX4_pack 45 = .ok (.iconst (-1), 1) := by decide +kernel
theorem dX4_pack_46 : decode cX4_pack 46 = .ok (.if_icmp .ne 8, 3) := by decide +kernel
theorem dX4_pack_49 : decode cX4_pack 49 = .ok (.aload_n 0, 1) := by decide +kernel
theorem dX4_pack_50 : decode cX4_pack 50 = .ok (.iload_n 2, 1) := by decide +kernel
theorem dX4_pack_51 : decode cX4_pack 51 = .ok (.invokevirtual 154, 3) := by decide +kernel
theorem dX4_pack_54 : decode cX4_pack 54 = .ok (.iinc 2 1, 3) := by decide +kernel
theorem dX4_pack_57 : decode cX4_pack 57 = .ok (.goto (-32), 3) := by decide +kernel
theorem dX4_pack_60 : decode cX4_pack 60 = .ok (.iload_n 1, 1) := by decide +kernel
theorem dX4_pack_61 : decode cX4_pack 61 = .ok (.aload_n 0, 1) := by decide +kernel
theorem dX4_pack_62 : decode cX4_pack 62 = .ok (.getfield 10, 3) := by decide +kernel
theorem dX4_pack_65 : decode cX4_pack 65 = .ok (.invokevirtual 151, 3) := by decide +kernel
theorem dX4_pack_68 : decode cX4_pack 68 = .ok (.isub, 1) := by decide +kernel
theorem dX4_pack_69 : decode cX4_pack 69 = .ok (.ireturn, 1) := by decide +kernel
theorem dX4_set_0 : decode cX4_set 0 = .ok (.iload_n 1, 1) := by decide +kernel
theorem dX4_set_1 : decode cX4_set 1 = .ok (.ifCond .lt 8, 3) := by decide +kernel
theorem dX4_set_4 : decode cX4_set 4 = .ok (.iload_n 1, 1) := by decide +kernel
theorem dX4_set_5 : decode cX4_set 5 = .ok (.iconst 2, 1) := by decide +kernel
theorem dX4_set_6 : decode cX4_set 6 = .ok (.if_icmp .lt 6, 3) := by decide +kernel
theorem dX4_set_9 : decode cX4_set 9 = .ok (.bipush (-2), 2) := by decide +kernel
theorem dX4_set_11 : decode cX4_set 11 = .ok (.ireturn, 1) := by decide +kernel
theorem dX4_set_12 : decode cX4_set 12 = .ok (.iload_n 1, 1) := by decide +kernel
theorem dX4_set_13 : decode cX4_set 13 = .ok (.ifCond .ne 7, 3) := by decide +kernel
theorem dX4_set_16 : decode cX4_set 16 = .ok (.iconst 1, 1) := by decide +kernel
theorem dX4_set_17 : decode cX4_set 17 = .ok (.goto 4, 3) := by decide +kernel
theorem dX4_set_20 : decode cX4_set 20 = .ok (.iconst 0, 1) := by decide +kernel
theorem dX4_set_21 : decode cX4_set 21 = .ok (.istore_n 3, 1) := by decide +kernel
theorem dX4_set_22 : decode cX4_set 22 = .ok (.iload_n 1, 1) := by decide +kernel
theorem dX4_set_23 : decode cX4_set 23 = .ok (.ifCond .ne 8, 3) := by decide +kernel
theorem dX4_set_26 : decode cX4_set 26 = .ok (.bipush 8, 2) := by decide +kernel
theorem dX4_set_28 : decode cX4_set 28 = .ok (.goto 4, 3) := by decide +kernel
theorem dX4_set_31 : decode cX4_set 31 = .ok (.iconst 1, 1) := by decide +kernel
theorem dX4_set_32 : decode cX4_set 32 = .ok (.istore 4, 2) := by decide +kernel
theorem dX4_set_34 : decode cX4_set 34 = .ok (.iload_n 2, 1) := by decide +kernel
theorem dX4_set_35 : decode cX4_set 35 = .ok (.iload_n 3, 1) := by decide +kernel
theorem dX4_set_36 : decode cX4_set 36 = .ok (.if_icmp .lt 9, 3) := by decide +kernel
theorem dX4_set_39 : decode cX4_set 39 = .ok (.iload_n 2, 1) := by decide +kernel
theorem dX4_set_40 : decode cX4_set 40 = .ok (.iload 4, 2) := by decide +kernel
theorem dX4_set_42 : decode cX4_set 42 = .ok (.if_icmp .le 6, 3) := by decide +kernel
theorem dX4_set_45 : decode cX4_set 45 = .ok (.bipush (-2), 2) := by decide +kernel
theorem dX4_set_47 : decode cX4_set 47 = .ok (.ireturn, 1) := by decide +kernel
theorem dX4_set_48 : decode cX4_set 48 = .ok (.aload_n 0, 1) := by decide +kernel
theorem dX4_set_49 : decode cX4_set 49 = .ok (.invokevirtual 65, 3) := by decide +kernel
theorem dX4_set_52 : decode cX4_set 52 = .ok (.aload_n 0, 1) := by decide +kernel
theorem dX4_set_53 : decode cX4_set 53 = .ok (.getfield 10, 3) := by decide +kernel
theorem dX4_set_56 : decode cX4_set 56 = .ok (.getfield 130, 3) := by decide +kernel
theorem dX4_set_59 : decode cX4_set 59 = .ok (.iload_n 1, 1) := by decide +kernel
theorem dX4_set_60 : decode cX4_set 60 = .ok (.iaload, 1) := by decide +kernel
theorem dX4_set_61 : decode cX4_set 61 = .ok (.istore 5, 2) := by decide +kernel
theorem dX4_set_63 : decode cX4_set 63 = .ok (.aload_n 0, 1) := by decide +kernel
theorem dX4_set_64 : decode cX4_set 64 = .ok (.getfield 10, 3) := by decide +kernel
theorem dX4_set_67 : decode cX4_set 67 = .ok (.getfield 130, 3) := by decide +kernel
theorem dX4_set_70 : decode cX4_set 70 = .ok (.iload_n 1, 1) := by decide +kernel
theorem dX4_set_71 : decode cX4_set 71 = .ok (.iload_n 2, 1) := by decide +kernel
theorem dX4_set_72 : decode cX4_set 72 = .ok (.iastore, 1) := by decide +kernel
theorem dX4_set_73 : decode cX4_set 73 = .ok (.iload 5, 2) := by decide +kernel
theorem dX4_set_75 : decode cX4_set 75 = .ok (.ireturn, 1) := by decide +kernel
theorem dX4_undo_0 : decode cX4_undo 0 = .ok (.aload_n 0, 1) := by decide +kernel
theorem dX4_undo_1 : decode cX4_undo 1 = .ok (.getfield 20, 3) := by decide +kernel
theorem dX4_undo_4 : decode cX4_undo 4 = .ok (.ifCond .gt 6, 3) := by decide +kernel
theorem dX4_undo_7 : decode cX4_undo 7 = .ok (.bipush (-3), 2) := by decide +kernel
theorem dX4_undo_9 : decode cX4_undo 9 = .ok (.ireturn, 1) := by decide +kernel
theorem dX4_undo_10 : decode cX4_undo 10 = .ok (.aload_n 0, 1) := by decide +kernel
theorem dX4_undo_11 : decode cX4_undo 11 = .ok (.dup, 1) := by decide +kernel
theorem dX4_undo_12 : decode cX4_undo 12 = .ok (.getfield 20, 3) := by decide +kernel
theorem dX4_undo_15 : decode cX4_undo 15 = .ok (.iconst 1, 1) := by decide +kernel
theorem dX4_undo_16 : decode cX4_undo 16 = .ok (.isub, 1) := by decide +kernel
theorem dX4_undo_17 : decode cX4_undo 17 = .ok (.putfield 20, 3) := by decide +kernel
theorem dX4_undo_20 : decode cX4_undo 20 = .ok (.aload_n 0, 1) := by decide +kernel
theorem dX4_undo_21 : decode cX4_undo 21 = .ok (.getfield 10, 3) := by decide +kernel
theorem dX4_undo_24 : decode cX4_undo 24 = .ok (.aload_n 0, 1) := by decide +kernel
theorem dX4_undo_25 : decode cX4_undo 25 = .ok (.getfield 16, 3) := by decide +kernel
theorem dX4_undo_28 : decode cX4_undo 28 = .ok (.aload_n 0, 1) := by decide +kernel
theorem dX4_undo_29 : decode cX4_undo 29 = .ok (.getfield 20, 3) := by decide +kernel
theorem dX4_undo_32 : decode cX4_undo 32 = .ok (.aaload, 1) := by decide +kernel
theorem dX4_undo_33 : decode cX4_undo 33 = .ok (.invokevirtual 157, 3) := by decide +kernel
theorem dX4_undo_36 : decode cX4_undo 36 = .ok (.aload_n 0, 1) := by decide +kernel
theorem dX4_undo_37 : decode cX4_undo 37 = .ok (.getfield 20, 3) := by decide +kernel
theorem dX4_undo_40 : decode cX4_undo 40 = .ok (.ireturn, 1) := by decide +kernel
theorem dX4_value_0 : decode cX4_value 0 = .ok (.iload_n 1, 1) := by decide +kernel
theorem dX4_value_1 : decode cX4_value 1 = .ok (.ifCond .ge 6, 3) := by decide +kernel
theorem dX4_value_4 : decode cX4_value 4 = .ok (.bipush (-2), 2) := by decide +kernel
theorem dX4_value_6 : decode cX4_value 6 = .ok (.ireturn, 1) := by decide +kernel
theorem dX4_value_7 : decode cX4_value 7 = .ok (.iload_n 1, 1) := by decide +kernel
theorem dX4_value_8 : decode cX4_value 8 = .ok (.aload_n 0, 1) := by decide +kernel
theorem dX4_value_9 : decode cX4_value 9 = .ok (.getfield 10, 3) := by decide +kernel
theorem dX4_value_12 : decode cX4_value 12 = .ok (.getfield 54, 3) := by decide +kernel
theorem dX4_value_15 : decode cX4_value 15 = .ok (.invokestatic 57, 3) := by decide +kernel
theorem dX4_value_18 : decode cX4_value 18 = .ok (.if_icmp .ge 15, 3) := by decide +kernel
theorem dX4_value_21 : decode cX4_value 21 = .ok (.aload_n 0, 1) := by decide +kernel
theorem dX4_value_22 : decode cX4_value 22 = .ok (.getfield 10, 3) := by decide +kernel
theorem dX4_value_25 : decode cX4_value 25 = .ok (.getfield 51, 3) := by decide +kernel
theorem dX4_value_28 : decode cX4_value 28 = .ok (.iload_n 1, 1) := by decide +kernel
theorem dX4_value_29 : decode cX4_value 29 = .ok (.iaload, 1) := by decide +kernel
theorem dX4_value_30 : decode cX4_value 30 = .ok (.goto 4, 3) := by decide +kernel
theorem dX4_value_33 : decode cX4_value 33 = .ok (.iconst (-1), 1) := by decide +kernel
theorem dX4_value_34 : decode cX4_value 34 = .ok (.ireturn, 1) := by decide +kernel
theorem dX4_kept_0 : decode cX4_kept 0 = .ok (.iload_n 1, 1) := by decide +kernel
theorem dX4_kept_1 : decode cX4_kept 1 = .ok (.ifCond .lt 13, 3) := by decide +kernel
theorem dX4_kept_4 : decode cX4_kept 4 = .ok (.iload_n 2, 1) := by decide +kernel
theorem dX4_kept_5 : decode cX4_kept 5 = .ok (.ifCond .lt 9, 3) := by decide +kernel
theorem dX4_kept_8 : decode cX4_kept 8 = .ok (.iload_n 2, 1) := by decide +kernel
theorem dX4_kept_9 : decode cX4_kept 9 = .ok (.bipush 8, 2) := by decide +kernel
theorem dX4_kept_11 : decode cX4_kept 11 = .ok (.if_icmp .lt 6, 3) := by decide +kernel
theorem dX4_kept_14 : decode cX4_kept 14 = .ok (.bipush (-2), 2) := by decide +kernel
theorem dX4_kept_16 : decode cX4_kept 16 = .ok (.ireturn, 1) := by decide +kernel
theorem dX4_kept_17 : decode cX4_kept 17 = .ok (.aload_n 0, 1) := by decide +kernel
theorem dX4_kept_18 : decode cX4_kept 18 = .ok (.getfield 10, 3) := by decide +kernel
theorem dX4_kept_21 : decode cX4_kept 21 = .ok (.iload_n 1, 1) := by decide +kernel
theorem dX4_kept_22 : decode cX4_kept 22 = .ok (.invokevirtual 124, 3) := by decide +kernel
theorem dX4_kept_25 : decode cX4_kept 25 = .ok (.istore_n 3, 1) := by decide +kernel
theorem dX4_kept_26 : decode cX4_kept 26 = .ok (.iload_n 3, 1) := by decide +kernel
theorem dX4_kept_27 : decode cX4_kept 27 = .ok (.iconst (-1), 1) := by decide +kernel
theorem dX4_kept_28 : decode cX4_kept 28 = .ok (.if_icmp .ne 5, 3) := by decide +kernel
theorem dX4_kept_31 : decode cX4_kept 31 = .ok (.iconst (-1), 1) := by decide +kernel
theorem dX4_kept_32 : decode cX4_kept 32 = .ok (.ireturn, 1) := by decide +kernel
theorem dX4_kept_33 : decode cX4_kept 33 = .ok (.aload_n 0, 1) := by decide +kernel
theorem dX4_kept_34 : decode cX4_kept 34 = .ok (.getfield 34, 3) := by decide +kernel
theorem dX4_kept_37 : decode cX4_kept 37 = .ok (.aload_n 0, 1) := by decide +kernel
theorem dX4_kept_38 : decode cX4_kept 38 = .ok (.getfield 10, 3) := by decide +kernel
theorem dX4_kept_41 : decode cX4_kept 41 = .ok (.invokevirtual 85, 3) := by decide +kernel
theorem dX4_kept_44 : decode cX4_kept 44 = .ok (.aload_n 0, 1) := by decide +kernel
theorem dX4_kept_45 : decode cX4_kept 45 = .ok (.iload_n 3, 1) := by decide +kernel
theorem dX4_kept_46 : decode cX4_kept 46 = .ok (.iload_n 2, 1) := by decide +kernel
theorem dX4_kept_47 : decode cX4_kept 47 = .ok (.invokevirtual 160, 3) := by decide +kernel
theorem dX4_kept_50 : decode cX4_kept 50 = .ok (.ireturn, 1) := by decide +kernel
theorem dX4_entry_0 : decode cX4_entry 0 = .ok (.iload_n 1, 1) := by decide +kernel
theorem dX4_entry_1 : decode cX4_entry 1 = .ok (.ifCond .lt 16, 3) := by decide +kernel
theorem dX4_entry_4 : decode cX4_entry 4 = .ok (.iload_n 2, 1) := by decide +kernel
theorem dX4_entry_5 : decode cX4_entry 5 = .ok (.ifCond .lt 12, 3) := by decide +kernel
theorem dX4_entry_8 : decode cX4_entry 8 = .ok (.iload_n 3, 1) := by decide +kernel
theorem dX4_entry_9 : decode cX4_entry 9 = .ok (.ifCond .lt 8, 3) := by decide +kernel
theorem dX4_entry_12 : decode cX4_entry 12 = .ok (.iload_n 3, 1) := by decide +kernel
theorem dX4_entry_13 : decode cX4_entry 13 = .ok (.iconst 2, 1) := by decide +kernel
theorem dX4_entry_14 : decode cX4_entry 14 = .ok (.if_icmp .lt 6, 3) := by decide +kernel
theorem dX4_entry_17 : decode cX4_entry 17 = .ok (.bipush (-2), 2) := by decide +kernel
theorem dX4_entry_19 : decode cX4_entry 19 = .ok (.ireturn, 1) := by decide +kernel
theorem dX4_entry_20 : decode cX4_entry 20 = .ok (.aload_n 0, 1) := by decide +kernel
theorem dX4_entry_21 : decode cX4_entry 21 = .ok (.getfield 10, 3) := by decide +kernel
theorem dX4_entry_24 : decode cX4_entry 24 = .ok (.iload_n 1, 1) := by decide +kernel
theorem dX4_entry_25 : decode cX4_entry 25 = .ok (.invokevirtual 124, 3) := by decide +kernel
theorem dX4_entry_28 : decode cX4_entry 28 = .ok (.istore 4, 2) := by decide +kernel
theorem dX4_entry_30 : decode cX4_entry 30 = .ok (.iload 4, 2) := by decide +kernel
theorem dX4_entry_32 : decode cX4_entry 32 = .ok (.iconst (-1), 1) := by decide +kernel
theorem dX4_entry_33 : decode cX4_entry 33 = .ok (.if_icmp .eq 20, 3) := by decide +kernel
theorem dX4_entry_36 : decode cX4_entry 36 = .ok (.iload_n 2, 1) := by decide +kernel
theorem dX4_entry_37 : decode cX4_entry 37 = .ok (.aload_n 0, 1) := by decide +kernel
theorem dX4_entry_38 : decode cX4_entry 38 = .ok (.getfield 10, 3) := by decide +kernel
theorem dX4_entry_41 : decode cX4_entry 41 = .ok (.getfield 89, 3) := by decide +kernel
theorem dX4_entry_44 : decode cX4_entry 44 = .ok (.iload 4, 2) := by decide +kernel
theorem dX4_entry_46 : decode cX4_entry 46 = .ok (.aaload, 1) := by decide +kernel
theorem dX4_entry_47 : decode cX4_entry 47 = .ok (.getfield 149, 3) := by decide +kernel
theorem dX4_entry_50 : decode cX4_entry 50 = .ok (.if_icmp .lt 5, 3) := by decide +kernel
theorem dX4_entry_53 : decode cX4_entry 53 = .ok (.iconst (-1), 1) := by decide +kernel
theorem dX4_entry_54 : decode cX4_entry 54 = .ok (.ireturn, 1) := by decide +kernel
theorem dX4_entry_55 : decode cX4_entry 55 = .ok (.aload_n 0, 1) := by decide +kernel
theorem dX4_entry_56 : decode cX4_entry 56 = .ok (.getfield 10, 3) := by decide +kernel
theorem dX4_entry_59 : decode cX4_entry 59 = .ok (.getfield 89, 3) := by decide +kernel
theorem dX4_entry_62 : decode cX4_entry 62 = .ok (.iload 4, 2) := by decide +kernel
theorem dX4_entry_64 : decode cX4_entry 64 = .ok (.aaload, 1) := by decide +kernel
theorem dX4_entry_65 : decode cX4_entry 65 = .ok (.astore 5, 2) := by decide +kernel
theorem dX4_entry_67 : decode cX4_entry 67 = .ok (.iload_n 3, 1) := by decide +kernel
theorem dX4_entry_68 : decode cX4_entry 68 = .ok (.ifCond .ne 13, 3) := by decide +kernel
theorem dX4_entry_71 : decode cX4_entry 71 = .ok (.aload 5, 2) := by decide +kernel
theorem dX4_entry_73 : decode cX4_entry 73 = .ok (.getfield 163, 3) := by decide +kernel
theorem dX4_entry_76 : decode cX4_entry 76 = .ok (.iload_n 2, 1) := by decide +kernel
theorem dX4_entry_77 : decode cX4_entry 77 = .ok (.iaload, 1) := by decide +kernel
theorem dX4_entry_78 : decode cX4_entry 78 = .ok (.goto 10, 3) := by decide +kernel
theorem dX4_entry_81 : decode cX4_entry 81 = .ok (.aload 5, 2) := by decide +kernel
theorem dX4_entry_83 : decode cX4_entry 83 = .ok (.getfield 150, 3) := by decide +kernel
theorem dX4_entry_86 : decode cX4_entry 86 = .ok (.iload_n 2, 1) := by decide +kernel
theorem dX4_entry_87 : decode cX4_entry 87 = .ok (.iaload, 1) := by decide +kernel
theorem dX4_entry_88 : decode cX4_entry 88 = .ok (.ireturn, 1) := by decide +kernel
theorem dX4_read_0 : decode cX4_read 0 = .ok (.aload_n 0, 1) := by decide +kernel
theorem dX4_read_1 : decode cX4_read 1 = .ok (.getfield 10, 3) := by decide +kernel
theorem dX4_read_4 : decode cX4_read 4 = .ok (.iload_n 1, 1) := by decide +kernel
theorem dX4_read_5 : decode cX4_read 5 = .ok (.invokevirtual 124, 3) := by decide +kernel
theorem dX4_read_8 : decode cX4_read 8 = .ok (.istore 4, 2) := by decide +kernel
theorem dX4_read_10 : decode cX4_read 10 = .ok (.iload 4, 2) := by decide +kernel
theorem dX4_read_12 : decode cX4_read 12 = .ok (.iconst (-1), 1) := by decide +kernel
theorem dX4_read_13 : decode cX4_read 13 = .ok (.if_icmp .eq 16, 3) := by decide +kernel
theorem dX4_read_16 : decode cX4_read 16 = .ok (.iload_n 2, 1) := by decide +kernel
theorem dX4_read_17 : decode cX4_read 17 = .ok (.ifCond .lt 12, 3) := by decide +kernel
theorem dX4_read_20 : decode cX4_read 20 = .ok (.iload_n 2, 1) := by decide +kernel
theorem dX4_read_21 : decode cX4_read 21 = .ok (.iconst 3, 1) := by decide +kernel
theorem dX4_read_22 : decode cX4_read 22 = .ok (.if_icmp .gt 7, 3) := by decide +kernel
theorem dX4_read_25 : decode cX4_read 25 = .ok (.iload_n 3, 1) := by decide +kernel
theorem dX4_read_26 : decode cX4_read 26 = .ok (.ifCond .ge 6, 3) := by decide +kernel
theorem dX4_read_29 : decode cX4_read 29 = .ok (.bipush (-2), 2) := by decide +kernel
theorem dX4_read_31 : decode cX4_read 31 = .ok (.ireturn, 1) := by decide +kernel
theorem dX4_read_32 : decode cX4_read 32 = .ok (.aload_n 0, 1) := by decide +kernel
theorem dX4_read_33 : decode cX4_read 33 = .ok (.getfield 10, 3) := by decide +kernel
theorem dX4_read_36 : decode cX4_read 36 = .ok (.getfield 89, 3) := by decide +kernel
theorem dX4_read_39 : decode cX4_read 39 = .ok (.iload 4, 2) := by decide +kernel
theorem dX4_read_41 : decode cX4_read 41 = .ok (.aaload, 1) := by decide +kernel
theorem dX4_read_42 : decode cX4_read 42 = .ok (.getfield 98, 3) := by decide +kernel
theorem dX4_read_45 : decode cX4_read 45 = .ok (.istore 5, 2) := by decide +kernel
theorem dX4_read_47 : decode cX4_read 47 = .ok (.iload_n 2, 1) := by decide +kernel
theorem dX4_read_48 : decode cX4_read 48 = .ok (.ifCond .eq 12, 3) := by decide +kernel
theorem dX4_read_51 : decode cX4_read 51 = .ok (.iload_n 2, 1) := by decide +kernel
theorem dX4_read_52 : decode cX4_read 52 = .ok (.iload 5, 2) := by decide +kernel
theorem dX4_read_54 : decode cX4_read 54 = .ok (.if_icmp .ge 6, 3) := by decide +kernel
theorem dX4_read_57 : decode cX4_read 57 = .ok (.bipush (-2), 2) := by decide +kernel
theorem dX4_read_59 : decode cX4_read 59 = .ok (.ireturn, 1) := by decide +kernel
theorem dX4_read_60 : decode cX4_read 60 = .ok (.aload_n 0, 1) := by decide +kernel
theorem dX4_read_61 : decode cX4_read 61 = .ok (.getfield 34, 3) := by decide +kernel
theorem dX4_read_64 : decode cX4_read 64 = .ok (.aload_n 0, 1) := by decide +kernel
theorem dX4_read_65 : decode cX4_read 65 = .ok (.getfield 10, 3) := by decide +kernel
theorem dX4_read_68 : decode cX4_read 68 = .ok (.invokevirtual 85, 3) := by decide +kernel
theorem dX4_read_71 : decode cX4_read 71 = .ok (.aload_n 0, 1) := by decide +kernel
theorem dX4_read_72 : decode cX4_read 72 = .ok (.getfield 34, 3) := by decide +kernel
theorem dX4_read_75 : decode cX4_read 75 = .ok (.getfield 127, 3) := by decide +kernel
theorem dX4_read_78 : decode cX4_read 78 = .ok (.iload 4, 2) := by decide +kernel
theorem dX4_read_80 : decode cX4_read 80 = .ok (.iaload, 1) := by decide +kernel
theorem dX4_read_81 : decode cX4_read 81 = .ok (.iconst (-1), 1) := by decide +kernel
theorem dX4_read_82 : decode cX4_read 82 = .ok (.if_icmp .eq 6, 3) := by decide +kernel
theorem dX4_read_85 : decode cX4_read 85 = .ok (.bipush (-3), 2) := by decide +kernel
theorem dX4_read_87 : decode cX4_read 87 = .ok (.ireturn, 1) := by decide +kernel
theorem dX4_read_88 : decode cX4_read 88 = .ok (.iload_n 2, 1) := by decide +kernel
theorem dX4_read_89 : decode cX4_read 89 = .ok (.ifCond .ne 8, 3) := by decide +kernel
theorem dX4_read_92 : decode cX4_read 92 = .ok (.iload 5, 2) := by decide +kernel
theorem dX4_read_94 : decode cX4_read 94 = .ok (.goto 4, 3) := by decide +kernel
theorem dX4_read_97 : decode cX4_read 97 = .ok (.iload_n 2, 1) := by decide +kernel
theorem dX4_read_98 : decode cX4_read 98 = .ok (.istore 6, 2) := by decide +kernel
theorem dX4_read_100 : decode cX4_read 100 = .ok (.iload_n 3, 1) := by decide +kernel
theorem dX4_read_101 : decode cX4_read 101 = .ok (.iload 6, 2) := by decide +kernel
theorem dX4_read_103 : decode cX4_read 103 = .ok (.invokestatic 57, 3) := by decide +kernel
theorem dX4_read_106 : decode cX4_read 106 = .ok (.if_icmp .lt 5, 3) := by decide +kernel
theorem dX4_read_109 : decode cX4_read 109 = .ok (.iconst (-1), 1) := by decide +kernel
theorem dX4_read_110 : decode cX4_read 110 = .ok (.ireturn, 1) := by decide +kernel
theorem dX4_read_111 : decode cX4_read 111 = .ok (.aload_n 0, 1) := by decide +kernel
theorem dX4_read_112 : decode cX4_read 112 = .ok (.iload 4, 2) := by decide +kernel
theorem dX4_read_114 : decode cX4_read 114 = .ok (.iload 6, 2) := by decide +kernel
theorem dX4_read_116 : decode cX4_read 116 = .ok (.aload_n 0, 1) := by decide +kernel
theorem dX4_read_117 : decode cX4_read 117 = .ok (.getfield 38, 3) := by decide +kernel
theorem dX4_read_120 : decode cX4_read 120 = .ok (.invokevirtual 113, 3) := by decide +kernel
theorem dX4_read_123 : decode cX4_read 123 = .ok (.aload_n 0, 1) := by decide +kernel
theorem dX4_read_124 : decode cX4_read 124 = .ok (.getfield 38, 3) := by decide +kernel
theorem dX4_read_127 : decode cX4_read 127 = .ok (.iload_n 3, 1) := by decide +kernel
theorem dX4_read_128 : decode cX4_read 128 = .ok (.iaload, 1) := by decide +kernel
theorem dX4_read_129 : decode cX4_read 129 = .ok (.ireturn, 1) := by decide +kernel
theorem dX4_cause_0 : decode cX4_cause 0 = .ok (.iload_n 1, 1) := by decide +kernel
theorem dX4_cause_1 : decode cX4_cause 1 = .ok (.ifCond .lt 27, 3) := by decide +kernel
theorem dX4_cause_4 : decode cX4_cause 4 = .ok (.iload_n 1, 1) := by decide +kernel
theorem dX4_cause_5 : decode cX4_cause 5 = .ok (.aload_n 0, 1) := by decide +kernel
theorem dX4_cause_6 : decode cX4_cause 6 = .ok (.getfield 10, 3) := by decide +kernel
theorem dX4_cause_9 : decode cX4_cause 9 = .ok (.getfield 82, 3) := by decide +kernel
theorem dX4_cause_12 : decode cX4_cause 12 = .ok (.if_icmp .ge 16, 3) := by decide +kernel
theorem dX4_cause_15 : decode cX4_cause 15 = .ok (.iload_n 2, 1) := by decide +kernel
theorem dX4_cause_16 : decode cX4_cause 16 = .ok (.ifCond .lt 12, 3) := by decide +kernel
theorem dX4_cause_19 : decode cX4_cause 19 = .ok (.iload_n 3, 1) := by decide +kernel
theorem dX4_cause_20 : decode cX4_cause 20 = .ok (.ifCond .lt 8, 3) := by decide +kernel
theorem dX4_cause_23 : decode cX4_cause 23 = .ok (.iload_n 3, 1) := by decide +kernel
theorem dX4_cause_24 : decode cX4_cause 24 = .ok (.iconst 2, 1) := by decide +kernel
theorem dX4_cause_25 : decode cX4_cause 25 = .ok (.if_icmp .lt 6, 3) := by decide +kernel
theorem dX4_cause_28 : decode cX4_cause 28 = .ok (.bipush (-2), 2) := by decide +kernel
theorem dX4_cause_30 : decode cX4_cause 30 = .ok (.ireturn, 1) := by decide +kernel
theorem dX4_cause_31 : decode cX4_cause 31 = .ok (.aload_n 0, 1) := by decide +kernel
theorem dX4_cause_32 : decode cX4_cause 32 = .ok (.getfield 34, 3) := by decide +kernel
theorem dX4_cause_35 : decode cX4_cause 35 = .ok (.aload_n 0, 1) := by decide +kernel
theorem dX4_cause_36 : decode cX4_cause 36 = .ok (.getfield 10, 3) := by decide +kernel
theorem dX4_cause_39 : decode cX4_cause 39 = .ok (.invokevirtual 85, 3) := by decide +kernel
theorem dX4_cause_42 : decode cX4_cause 42 = .ok (.aload_n 0, 1) := by decide +kernel
theorem dX4_cause_43 : decode cX4_cause 43 = .ok (.iload_n 1, 1) := by decide +kernel
theorem dX4_cause_44 : decode cX4_cause 44 = .ok (.iload_n 2, 1) := by decide +kernel
theorem dX4_cause_45 : decode cX4_cause 45 = .ok (.iload_n 3, 1) := by decide +kernel
theorem dX4_cause_46 : decode cX4_cause 46 = .ok (.invokevirtual 166, 3) := by decide +kernel
theorem dX4_cause_49 : decode cX4_cause 49 = .ok (.ireturn, 1) := by decide +kernel
theorem dX4_nearest_0 : decode cX4_nearest 0 = .ok (.aload_n 0, 1) := by decide +kernel
theorem dX4_nearest_1 : decode cX4_nearest 1 = .ok (.getfield 34, 3) := by decide +kernel
theorem dX4_nearest_4 : decode cX4_nearest 4 = .ok (.aload_n 0, 1) := by decide +kernel
theorem dX4_nearest_5 : decode cX4_nearest 5 = .ok (.getfield 10, 3) := by decide +kernel
theorem dX4_nearest_8 : decode cX4_nearest 8 = .ok (.invokevirtual 85, 3) := by decide +kernel
theorem dX4_nearest_11 : decode cX4_nearest 11 = .ok (.aload_n 0, 1) := by decide +kernel
theorem dX4_nearest_12 : decode cX4_nearest 12 = .ok (.invokevirtual 177, 3) := by decide +kernel
theorem dX4_nearest_15 : decode cX4_nearest 15 = .ok (.ireturn, 1) := by decide +kernel
theorem dX4_count_0 : decode cX4_count 0 = .ok (.iload_n 1, 1) := by decide +kernel
theorem dX4_count_1 : decode cX4_count 1 = .ok (.ifCond .lt 9, 3) := by decide +kernel
theorem dX4_count_4 : decode cX4_count 4 = .ok (.iload_n 1, 1) := by decide +kernel
theorem dX4_count_5 : decode cX4_count 5 = .ok (.bipush 13, 2) := by decide +kernel
theorem dX4_count_7 : decode cX4_count 7 = .ok (.if_icmp .lt 6, 3) := by decide +kernel
theorem dX4_count_10 : decode cX4_count 10 = .ok (.bipush (-2), 2) := by decide +kernel
theorem dX4_count_12 : decode cX4_count 12 = .ok (.ireturn, 1) := by decide +kernel
theorem dX4_count_13 : decode cX4_count 13 = .ok (.aload_n 0, 1) := by decide +kernel
theorem dX4_count_14 : decode cX4_count 14 = .ok (.getfield 34, 3) := by decide +kernel
theorem dX4_count_17 : decode cX4_count 17 = .ok (.aload_n 0, 1) := by decide +kernel
theorem dX4_count_18 : decode cX4_count 18 = .ok (.getfield 10, 3) := by decide +kernel
theorem dX4_count_21 : decode cX4_count 21 = .ok (.invokevirtual 85, 3) := by decide +kernel
theorem dX4_count_24 : decode cX4_count 24 = .ok (.aload_n 0, 1) := by decide +kernel
theorem dX4_count_25 : decode cX4_count 25 = .ok (.iload_n 1, 1) := by decide +kernel
theorem dX4_count_26 : decode cX4_count 26 = .ok (.invokevirtual 180, 3) := by decide +kernel
theorem dX4_count_29 : decode cX4_count 29 = .ok (.ireturn, 1) := by decide +kernel
theorem dX4_remember_0 : decode cX4_remember 0 = .ok (.aload_n 0, 1) := by decide +kernel
theorem dX4_remember_1 : decode cX4_remember 1 = .ok (.getfield 20, 3) := by decide +kernel
theorem dX4_remember_4 : decode cX4_remember 4 = .ok (.bipush 6, 2) := by decide +kernel
theorem dX4_remember_6 : decode cX4_remember 6 = .ok (.if_icmp .lt 50, 3) := by decide +kernel
theorem dX4_remember_9 : decode cX4_remember 9 = .ok (.aload_n 0, 1) := by decide +kernel
theorem dX4_remember_10 : decode cX4_remember 10 = .ok (.getfield 16, 3) := by decide +kernel
theorem dX4_remember_13 : decode cX4_remember 13 = .ok (.iconst 0, 1) := by decide +kernel
theorem dX4_remember_14 : decode cX4_remember 14 = .ok (.aaload, 1) := by decide +kernel
theorem dX4_remember_15 : decode cX4_remember 15 = .ok (.astore_n 1, 1) := by decide +kernel
theorem dX4_remember_16 : decode cX4_remember 16 = .ok (.iconst 1, 1) := by decide +kernel
theorem dX4_remember_17 : decode cX4_remember 17 = .ok (.istore_n 2, 1) := by decide +kernel
theorem dX4_remember_18 : decode cX4_remember 18 = .ok (.iload_n 2, 1) := by decide +kernel
theorem dX4_remember_19 : decode cX4_remember 19 = .ok (.bipush 6, 2) := by decide +kernel
theorem dX4_remember_21 : decode cX4_remember 21 = .ok (.if_icmp .ge 23, 3) := by decide +kernel
theorem dX4_remember_24 : decode cX4_remember 24 = .ok (.aload_n 0, 1) := by decide +kernel
theorem dX4_remember_25 : decode cX4_remember 25 = .ok (.getfield 16, 3) := by decide +kernel
theorem dX4_remember_28 : decode cX4_remember 28 = .ok (.iload_n 2, 1) := by decide +kernel
theorem dX4_remember_29 : decode cX4_remember 29 = .ok (.iconst 1, 1) := by decide +kernel
theorem dX4_remember_30 : decode cX4_remember 30 = .ok (.isub, 1) := by decide +kernel
theorem dX4_remember_31 : decode cX4_remember 31 = .ok (.aload_n 0, 1) := by decide +kernel
theorem dX4_remember_32 : decode cX4_remember 32 = .ok (.getfield 16, 3) := by decide +kernel
theorem dX4_remember_35 : decode cX4_remember 35 = .ok (.iload_n 2, 1) := by decide +kernel
theorem dX4_remember_36 : decode cX4_remember 36 = .ok (.aaload, 1) := by decide +kernel
theorem dX4_remember_37 : decode cX4_remember 37 = .ok (.aastore, 1) := by decide +kernel
theorem dX4_remember_38 : decode cX4_remember 38 = .ok (.iinc 2 1, 3) := by decide +kernel
theorem dX4_remember_41 : decode cX4_remember 41 = .ok (.goto (-23), 3) := by decide +kernel
theorem dX4_remember_44 : decode cX4_remember 44 = .ok (.aload_n 0, 1) := by decide +kernel
theorem dX4_remember_45 : decode cX4_remember 45 = .ok (.getfield 16, 3) := by decide +kernel
theorem dX4_remember_48 : decode cX4_remember 48 = .ok (.iconst 5, 1) := by decide +kernel
theorem dX4_remember_49 : decode cX4_remember 49 = .ok (.aload_n 1, 1) := by decide +kernel
theorem dX4_remember_50 : decode cX4_remember 50 = .ok (.aastore, 1) := by decide +kernel
theorem dX4_remember_51 : decode cX4_remember 51 = .ok (.aload_n 0, 1) := by decide +kernel
theorem dX4_remember_52 : decode cX4_remember 52 = .ok (.iconst 5, 1) := by decide +kernel
theorem dX4_remember_53 : decode cX4_remember 53 = .ok (.putfield 20, 3) := by decide +kernel
theorem dX4_remember_56 : decode cX4_remember 56 = .ok (.aload_n 0, 1) := by decide +kernel
theorem dX4_remember_57 : decode cX4_remember 57 = .ok (.getfield 16, 3) := by decide +kernel
theorem dX4_remember_60 : decode cX4_remember 60 = .ok (.aload_n 0, 1) := by decide +kernel
theorem dX4_remember_61 : decode cX4_remember 61 = .ok (.getfield 20, 3) := by decide +kernel
theorem dX4_remember_64 : decode cX4_remember 64 = .ok (.aaload, 1) := by decide +kernel
theorem dX4_remember_65 : decode cX4_remember 65 = .ok (.aload_n 0, 1) := by decide +kernel
theorem dX4_remember_66 : decode cX4_remember 66 = .ok (.getfield 10, 3) := by decide +kernel
theorem dX4_remember_69 : decode cX4_remember 69 = .ok (.invokevirtual 157, 3) := by decide +kernel
theorem dX4_remember_72 : decode cX4_remember 72 = .ok (.aload_n 0, 1) := by decide +kernel
theorem dX4_remember_73 : decode cX4_remember 73 = .ok (.dup, 1) := by decide +kernel
theorem dX4_remember_74 : decode cX4_remember 74 = .ok (.getfield 20, 3) := by decide +kernel
theorem dX4_remember_77 : decode cX4_remember 77 = .ok (.iconst 1, 1) := by decide +kernel
theorem dX4_remember_78 : decode cX4_remember 78 = .ok (.iadd, 1) := by decide +kernel
theorem dX4_remember_79 : decode cX4_remember 79 = .ok (.putfield 20, 3) := by decide +kernel
theorem dX4_remember_82 : decode cX4_remember 82 = .ok (.return_, 1) := by decide +kernel
theorem dX4_baseForGame_0 : decode cX4_baseForGame 0 = .ok (.aload_n 0, 1) := by decide +kernel
theorem dX4_baseForGame_1 : decode cX4_baseForGame 1 = .ok (.getfield 10, 3) := by decide +kernel
theorem dX4_baseForGame_4 : decode cX4_baseForGame 4 = .ok (.aload_n 0, 1) := by decide +kernel
theorem dX4_baseForGame_5 : decode cX4_baseForGame 5 = .ok (.getfield 10, 3) := by decide +kernel
theorem dX4_baseForGame_8 : decode cX4_baseForGame 8 = .ok (.getfield 117, 3) := by decide +kernel
theorem dX4_baseForGame_11 : decode cX4_baseForGame 11 = .ok (.invokevirtual 124, 3) := by decide +kernel
theorem dX4_baseForGame_14 : decode cX4_baseForGame 14 = .ok (.istore_n 1, 1) := by decide +kernel
theorem dX4_baseForGame_15 : decode cX4_baseForGame 15 = .ok (.iload_n 1, 1) := by decide +kernel
theorem dX4_baseForGame_16 : decode cX4_baseForGame 16 = .ok (.iconst (-1), 1) := by decide +kernel
theorem dX4_baseForGame_17 : decode cX4_baseForGame 17 = .ok (.if_icmp .eq 18, 3) := by decide +kernel
theorem dX4_baseForGame_20 : decode cX4_baseForGame 20 = .ok (.aload_n 0, 1) := by decide +kernel
theorem dX4_baseForGame_21 : decode cX4_baseForGame 21 = .ok (.iload_n 1, 1) := by decide +kernel
theorem dX4_baseForGame_22 : decode cX4_baseForGame 22 = .ok (.aload_n 0, 1) := by decide +kernel
theorem dX4_baseForGame_23 : decode cX4_baseForGame 23 = .ok (.getfield 10, 3) := by decide +kernel
theorem dX4_baseForGame_26 : decode cX4_baseForGame 26 = .ok (.getfield 54, 3) := by decide +kernel
theorem dX4_baseForGame_29 : decode cX4_baseForGame 29 = .ok (.invokevirtual 191, 3) := by decide +kernel
theorem dX4_baseForGame_32 : decode cX4_baseForGame 32 = .ok (.ifCond .ne 5, 3) := by decide +kernel
theorem dX4_baseForGame_35 : decode cX4_baseForGame 35 = .ok (.iconst (-1), 1) := by decide +kernel
theorem dX4_baseForGame_36 : decode cX4_baseForGame 36 = .ok (.ireturn, 1) := by decide +kernel
theorem dX4_baseForGame_37 : decode cX4_baseForGame 37 = .ok (.aload_n 0, 1) := by decide +kernel
theorem dX4_baseForGame_38 : decode cX4_baseForGame 38 = .ok (.iload_n 1, 1) := by decide +kernel
theorem dX4_baseForGame_39 : decode cX4_baseForGame 39 = .ok (.aload_n 0, 1) := by decide +kernel
theorem dX4_baseForGame_40 : decode cX4_baseForGame 40 = .ok (.getfield 10, 3) := by decide +kernel
theorem dX4_baseForGame_43 : decode cX4_baseForGame 43 = .ok (.getfield 54, 3) := by decide +kernel
theorem dX4_baseForGame_46 : decode cX4_baseForGame 46 = .ok (.aload_n 0, 1) := by decide +kernel
theorem dX4_baseForGame_47 : decode cX4_baseForGame 47 = .ok (.getfield 10, 3) := by decide +kernel
theorem dX4_baseForGame_50 : decode cX4_baseForGame 50 = .ok (.getfield 51, 3) := by decide +kernel
theorem dX4_baseForGame_53 : decode cX4_baseForGame 53 = .ok (.invokevirtual 170, 3) := by decide +kernel
theorem dX4_baseForGame_56 : decode cX4_baseForGame 56 = .ok (.bipush 6, 2) := by decide +kernel
theorem dX4_baseForGame_58 : decode cX4_baseForGame 58 = .ok (.if_icmp .gt 7, 3) := by decide +kernel
theorem dX4_baseForGame_61 : decode cX4_baseForGame 61 = .ok (.iload_n 1, 1) := by decide +kernel
theorem dX4_baseForGame_62 : decode cX4_baseForGame 62 = .ok (.goto 4, 3) := by decide +kernel
theorem dX4_baseForGame_65 : decode cX4_baseForGame 65 = .ok (.iconst (-1), 1) := by decide +kernel
theorem dX4_baseForGame_66 : decode cX4_baseForGame 66 = .ok (.ireturn, 1) := by decide +kernel
theorem dX4_canBeBase_0 : decode cX4_canBeBase 0 = .ok (.aload_n 0, 1) := by decide +kernel
theorem dX4_canBeBase_1 : decode cX4_canBeBase 1 = .ok (.getfield 10, 3) := by decide +kernel
theorem dX4_canBeBase_4 : decode cX4_canBeBase 4 = .ok (.getfield 89, 3) := by decide +kernel
theorem dX4_canBeBase_7 : decode cX4_canBeBase 7 = .ok (.iload_n 1, 1) := by decide +kernel
theorem dX4_canBeBase_8 : decode cX4_canBeBase 8 = .ok (.aaload, 1) := by decide +kernel
theorem dX4_canBeBase_9 : decode cX4_canBeBase 9 = .ok (.astore_n 3, 1) := by decide +kernel
theorem dX4_canBeBase_10 : decode cX4_canBeBase 10 = .ok (.aload_n 0, 1) := by decide +kernel
theorem dX4_canBeBase_11 : decode cX4_canBeBase 11 = .ok (.getfield 34, 3) := by decide +kernel
theorem dX4_canBeBase_14 : decode cX4_canBeBase 14 = .ok (.getfield 127, 3) := by decide +kernel
theorem dX4_canBeBase_17 : decode cX4_canBeBase 17 = .ok (.iload_n 1, 1) := by decide +kernel
theorem dX4_canBeBase_18 : decode cX4_canBeBase 18 = .ok (.iaload, 1) := by decide +kernel
theorem dX4_canBeBase_19 : decode cX4_canBeBase 19 = .ok (.iconst (-1), 1) := by decide +kernel
theorem dX4_canBeBase_20 : decode cX4_canBeBase 20 = .ok (.if_icmp .ne 38, 3) := by decide +kernel
theorem dX4_canBeBase_23 : decode cX4_canBeBase 23 = .ok (.aload_n 3, 1) := by decide +kernel
theorem dX4_canBeBase_24 : decode cX4_canBeBase 24 = .ok (.getfield 98, 3) := by decide +kernel
theorem dX4_canBeBase_27 : decode cX4_canBeBase 27 = .ok (.iload_n 2, 1) := by decide +kernel
theorem dX4_canBeBase_28 : decode cX4_canBeBase 28 = .ok (.if_icmp .gt 30, 3) := by decide +kernel
theorem dX4_canBeBase_31 : decode cX4_canBeBase 31 = .ok (.aload_n 0, 1) := by decide +kernel
theorem dX4_canBeBase_32 : decode cX4_canBeBase 32 = .ok (.getfield 10, 3) := by decide +kernel
theorem dX4_canBeBase_35 : decode cX4_canBeBase 35 = .ok (.aload_n 3, 1) := by decide +kernel
theorem dX4_canBeBase_36 : decode cX4_canBeBase 36 = .ok (.getfield 93, 3) := by decide +kernel
theorem dX4_canBeBase_39 : decode cX4_canBeBase 39 = .ok (.invokevirtual 195, 3) := by decide +kernel
theorem dX4_canBeBase_42 : decode cX4_canBeBase 42 = .ok (.aload_n 0, 1) := by decide +kernel
theorem dX4_canBeBase_43 : decode cX4_canBeBase 43 = .ok (.getfield 10, 3) := by decide +kernel
theorem dX4_canBeBase_46 : decode cX4_canBeBase 46 = .ok (.getfield 130, 3) := by decide +kernel
theorem dX4_canBeBase_49 : decode cX4_canBeBase 49 = .ok (.iconst 0, 1) := by decide +kernel
theorem dX4_canBeBase_50 : decode cX4_canBeBase 50 = .ok (.iaload, 1) := by decide +kernel
theorem dX4_canBeBase_51 : decode cX4_canBeBase 51 = .ok (.if_icmp .ge 7, 3) := by decide +kernel
theorem dX4_canBeBase_54 : decode cX4_canBeBase 54 = .ok (.iconst 1, 1) := by decide +kernel
theorem dX4_canBeBase_55 : decode cX4_canBeBase 55 = .ok (.goto 4, 3) := by decide +kernel
theorem dX4_canBeBase_58 : decode cX4_canBeBase 58 = .ok (.iconst 0, 1) := by decide +kernel
theorem dX4_canBeBase_59 : decode cX4_canBeBase 59 = .ok (.ireturn, 1) := by decide +kernel
theorem dX4_mendFollowers_0 : decode cX4_mendFollowers 0 = .ok (.iconst 0, 1) := by decide +kernel
theorem dX4_mendFollowers_1 : decode cX4_mendFollowers 1 = .ok (.istore_n 2, 1) := by decide +kernel
theorem dX4_mendFollowers_2 : decode cX4_mendFollowers 2 = .ok (.iload_n 2, 1) := by decide +kernel
theorem dX4_mendFollowers_3 : decode cX4_mendFollowers 3 = .ok (.aload_n 0, 1) := by decide +kernel
theorem dX4_mendFollowers_4 : decode cX4_mendFollowers 4 = .ok (.getfield 10, 3) := by decide +kernel
theorem dX4_mendFollowers_7 : decode cX4_mendFollowers 7 = .ok (.getfield 79, 3) := by decide +kernel
theorem dX4_mendFollowers_10 : decode cX4_mendFollowers 10 = .ok (.if_icmp .ge 53, 3) := by decide +kernel
theorem dX4_mendFollowers_13 : decode cX4_mendFollowers 13 = .ok (.aload_n 0, 1) := by decide +kernel
theorem dX4_mendFollowers_14 : decode cX4_mendFollowers 14 = .ok (.getfield 10, 3) := by decide +kernel
theorem dX4_mendFollowers_17 : decode cX4_mendFollowers 17 = .ok (.getfield 89, 3) := by decide +kernel
theorem dX4_mendFollowers_20 : decode cX4_mendFollowers 20 = .ok (.iload_n 2, 1) := by decide +kernel
theorem dX4_mendFollowers_21 : decode cX4_mendFollowers 21 = .ok (.aaload, 1) := by decide +kernel
theorem dX4_mendFollowers_22 : decode cX4_mendFollowers 22 = .ok (.astore_n 3, 1) := by decide +kernel
theorem dX4_mendFollowers_23 : decode cX4_mendFollowers 23 = .ok (.aload_n 3, 1) := by decide +kernel
theorem dX4_mendFollowers_24 : decode cX4_mendFollowers 24 = .ok (.getfield 198, 3) := by decide +kernel
theorem dX4_mendFollowers_27 : decode cX4_mendFollowers 27 = .ok (.iload_n 1, 1) := by decide +kernel
theorem dX4_mendFollowers_28 : decode cX4_mendFollowers 28 = .ok (.if_icmp .ne 29, 3) := by decide +kernel
theorem dX4_mendFollowers_31 : decode cX4_mendFollowers 31 = .ok (.aload_n 0, 1) := by decide +kernel
theorem dX4_mendFollowers_32 : decode cX4_mendFollowers 32 = .ok (.getfield 34, 3) := by decide +kernel
theorem dX4_mendFollowers_35 : decode cX4_mendFollowers 35 = .ok (.getfield 127, 3) := by decide +kernel
theorem dX4_mendFollowers_38 : decode cX4_mendFollowers 38 = .ok (.iload_n 2, 1) := by decide +kernel
theorem dX4_mendFollowers_39 : decode cX4_mendFollowers 39 = .ok (.iaload, 1) := by decide +kernel
theorem dX4_mendFollowers_40 : decode cX4_mendFollowers 40 = .ok (.iconst (-1), 1) := by decide +kernel
theorem dX4_mendFollowers_41 : decode cX4_mendFollowers 41 = .ok (.if_icmp .ne 16, 3) := by decide +kernel
theorem dX4_mendFollowers_44 : decode cX4_mendFollowers 44 = .ok (.aload_n 3, 1) := by decide +kernel
theorem dX4_mendFollowers_45 : decode cX4_mendFollowers 45 = .ok (.aload_n 0, 1) := by decide +kernel
theorem dX4_mendFollowers_46 : decode cX4_mendFollowers 46 = .ok (.getfield 34, 3) := by decide +kernel
theorem dX4_mendFollowers_49 : decode cX4_mendFollowers 49 = .ok (.getfield 201, 3) := by decide +kernel
theorem dX4_mendFollowers_52 : decode cX4_mendFollowers 52 = .ok (.iload_n 2, 1) := by decide +kernel
theorem dX4_mendFollowers_53 : decode cX4_mendFollowers 53 = .ok (.aaload, 1) := by decide +kernel
theorem dX4_mendFollowers_54 : decode cX4_mendFollowers 54 = .ok (.invokevirtual 109, 3) := by decide +kernel
theorem dX4_mendFollowers_57 : decode cX4_mendFollowers 57 = .ok (.iinc 2 1, 3) := by decide +kernel
theorem dX4_mendFollowers_60 : decode cX4_mendFollowers 60 = .ok (.goto (-58), 3) := by decide +kernel
theorem dX4_mendFollowers_63 : decode cX4_mendFollowers 63 = .ok (.return_, 1) := by decide +kernel
theorem dX4_packPlace_0 : decode cX4_packPlace 0 = .ok (.aload_n 0, 1) := by decide +kernel
theorem dX4_packPlace_1 : decode cX4_packPlace 1 = .ok (.getfield 10, 3) := by decide +kernel
theorem dX4_packPlace_4 : decode cX4_packPlace 4 = .ok (.getfield 89, 3) := by decide +kernel
theorem dX4_packPlace_7 : decode cX4_packPlace 7 = .ok (.iload_n 1, 1) := by decide +kernel
theorem dX4_packPlace_8 : decode cX4_packPlace 8 = .ok (.aaload, 1) := by decide +kernel
theorem dX4_packPlace_9 : decode cX4_packPlace 9 = .ok (.astore_n 2, 1) := by decide +kernel
theorem dX4_packPlace_10 : decode cX4_packPlace 10 = .ok (.aload_n 0, 1) := by decide +kernel
theorem dX4_packPlace_11 : decode cX4_packPlace 11 = .ok (.getfield 34, 3) := by decide +kernel
theorem dX4_packPlace_14 : decode cX4_packPlace 14 = .ok (.getfield 201, 3) := by decide +kernel
theorem dX4_packPlace_17 : decode cX4_packPlace 17 = .ok (.iload_n 1, 1) := by decide +kernel
theorem dX4_packPlace_18 : decode cX4_packPlace 18 = .ok (.aaload, 1) := by decide +kernel
theorem dX4_packPlace_19 : decode cX4_packPlace 19 = .ok (.astore_n 3, 1) := by decide +kernel
theorem dX4_packPlace_20 : decode cX4_packPlace 20 = .ok (.iconst (-1), 1) := by decide +kernel
theorem dX4_packPlace_21 : decode cX4_packPlace 21 = .ok (.istore 4, 2) := by decide +kernel
theorem dX4_packPlace_23 : decode cX4_packPlace 23 = .ok (.bipush 7, 2) := by decide +kernel
theorem dX4_packPlace_25 : decode cX4_packPlace 25 = .ok (.istore 5, 2) := by decide +kernel
theorem dX4_packPlace_27 : decode cX4_packPlace 27 = .ok (.iconst 0, 1) := by decide +kernel
theorem dX4_packPlace_28 : decode cX4_packPlace 28 = .ok (.istore 6, 2) := by decide +kernel
theorem dX4_packPlace_30 : decode cX4_packPlace 30 = .ok (.iload 6, 2) := by decide +kernel
theorem dX4_packPlace_32 : decode cX4_packPlace 32 = .ok (.iload_n 1, 1) := by decide +kernel
theorem dX4_packPlace_33 : decode cX4_packPlace 33 = .ok (.if_icmp .ge 50, 3) := by decide +kernel
theorem dX4_packPlace_36 : decode cX4_packPlace 36 = .ok (.aload_n 0, 1) := by decide +kernel
theorem dX4_packPlace_37 : decode cX4_packPlace 37 = .ok (.iload 6, 2) := by decide +kernel
theorem dX4_packPlace_39 : decode cX4_packPlace 39 = .ok (.aload_n 2, 1) := by decide +kernel
theorem dX4_packPlace_40 : decode cX4_packPlace 40 = .ok (.getfield 98, 3) := by decide +kernel
theorem dX4_packPlace_43 : decode cX4_packPlace 43 = .ok (.invokevirtual 191, 3) := by decide +kernel
theorem dX4_packPlace_46 : decode cX4_packPlace 46 = .ok (.ifCond .eq 31, 3) := by decide +kernel
theorem dX4_packPlace_49 : decode cX4_packPlace 49 = .ok (.aload_n 0, 1) := by decide +kernel
theorem dX4_packPlace_50 : decode cX4_packPlace 50 = .ok (.iload 6, 2) := by decide +kernel
theorem dX4_packPlace_52 : decode cX4_packPlace 52 = .ok (.aload_n 2, 1) := by decide +kernel
theorem dX4_packPlace_53 : decode cX4_packPlace 53 = .ok (.getfield 98, 3) := by decide +kernel
theorem dX4_packPlace_56 : decode cX4_packPlace 56 = .ok (.aload_n 3, 1) := by decide +kernel
theorem dX4_packPlace_57 : decode cX4_packPlace 57 = .ok (.invokevirtual 170, 3) := by decide +kernel
theorem dX4_packPlace_60 : decode cX4_packPlace 60 = .ok (.istore 7, 2) := by decide +kernel
theorem dX4_packPlace_62 : decode cX4_packPlace 62 = .ok (.iload 7, 2) := by decide +kernel
theorem dX4_packPlace_64 : decode cX4_packPlace 64 = .ok (.iload 5, 2) := by decide +kernel
theorem dX4_packPlace_66 : decode cX4_packPlace 66 = .ok (.if_icmp .ge 11, 3) := by decide +kernel
theorem dX4_packPlace_69 : decode cX4_packPlace 69 = .ok (.iload 7, 2) := by decide +kernel
theorem dX4_packPlace_71 : decode cX4_packPlace 71 = .ok (.istore 5, 2) := by decide +kernel
theorem dX4_packPlace_73 : decode cX4_packPlace 73 = .ok (.iload 6, 2) := by decide +kernel
theorem dX4_packPlace_75 : decode cX4_packPlace 75 = .ok (.istore 4, 2) := by decide +kernel
theorem dX4_packPlace_77 : decode cX4_packPlace 77 = .ok (.iinc 6 1, 3) := by decide +kernel
theorem dX4_packPlace_80 : decode cX4_packPlace 80 = .ok (.goto (-50), 3) := by decide +kernel
theorem dX4_packPlace_83 : decode cX4_packPlace 83 = .ok (.iload 4, 2) := by decide +kernel
theorem dX4_packPlace_85 : decode cX4_packPlace 85 = .ok (.iconst (-1), 1) := by decide +kernel
theorem dX4_packPlace_86 : decode cX4_packPlace 86 = .ok (.if_icmp .ne 11, 3) := by decide +kernel
theorem dX4_packPlace_89 : decode cX4_packPlace 89 = .ok (.aload_n 2, 1) := by decide +kernel
theorem dX4_packPlace_90 : decode cX4_packPlace 90 = .ok (.aload_n 3, 1) := by decide +kernel
theorem dX4_packPlace_91 : decode cX4_packPlace 91 = .ok (.invokevirtual 109, 3) := by decide +kernel
theorem dX4_packPlace_94 : decode cX4_packPlace 94 = .ok (.goto 39, 3) := by decide +kernel
theorem dX4_packPlace_97 : decode cX4_packPlace 97 = .ok (.aload_n 0, 1) := by decide +kernel
theorem dX4_packPlace_98 : decode cX4_packPlace 98 = .ok (.iload 4, 2) := by decide +kernel
theorem dX4_packPlace_100 : decode cX4_packPlace 100 = .ok (.aload_n 2, 1) := by decide +kernel
theorem dX4_packPlace_101 : decode cX4_packPlace 101 = .ok (.getfield 98, 3) := by decide +kernel
theorem dX4_packPlace_104 : decode cX4_packPlace 104 = .ok (.aload_n 0, 1) := by decide +kernel
theorem dX4_packPlace_105 : decode cX4_packPlace 105 = .ok (.getfield 38, 3) := by decide +kernel
theorem dX4_packPlace_108 : decode cX4_packPlace 108 = .ok (.invokevirtual 113, 3) := by decide +kernel
theorem dX4_packPlace_111 : decode cX4_packPlace 111 = .ok (.aload_n 2, 1) := by decide +kernel
theorem dX4_packPlace_112 : decode cX4_packPlace 112 = .ok (.aload_n 0, 1) := by decide +kernel
theorem dX4_packPlace_113 : decode cX4_packPlace 113 = .ok (.getfield 10, 3) := by decide +kernel
theorem dX4_packPlace_116 : decode cX4_packPlace 116 = .ok (.getfield 89, 3) := by decide +kernel
theorem dX4_packPlace_119 : decode cX4_packPlace 119 = .ok (.iload 4, 2) := by decide +kernel
theorem dX4_packPlace_121 : decode cX4_packPlace 121 = .ok (.aaload, 1) := by decide +kernel
theorem dX4_packPlace_122 : decode cX4_packPlace 122 = .ok (.getfield 93, 3) := by decide +kernel
theorem dX4_packPlace_125 : decode cX4_packPlace 125 = .ok (.aload_n 0, 1) := by decide +kernel
theorem dX4_packPlace_126 : decode cX4_packPlace 126 = .ok (.getfield 38, 3) := by decide +kernel
theorem dX4_packPlace_129 : decode cX4_packPlace 129 = .ok (.aload_n 3, 1) := by decide +kernel
theorem dX4_packPlace_130 : decode cX4_packPlace 130 = .ok (.invokevirtual 120, 3) := by decide +kernel
theorem dX4_packPlace_133 : decode cX4_packPlace 133 = .ok (.return_, 1) := by decide +kernel
theorem dX4_propertyOf_0 : decode cX4_propertyOf 0 = .ok (.aload_n 0, 1) := by decide +kernel
theorem dX4_propertyOf_1 : decode cX4_propertyOf 1 = .ok (.getfield 10, 3) := by decide +kernel
theorem dX4_propertyOf_4 : decode cX4_propertyOf 4 = .ok (.getfield 89, 3) := by decide +kernel
theorem dX4_propertyOf_7 : decode cX4_propertyOf 7 = .ok (.iload_n 1, 1) := by decide +kernel
theorem dX4_propertyOf_8 : decode cX4_propertyOf 8 = .ok (.aaload, 1) := by decide +kernel
theorem dX4_propertyOf_9 : decode cX4_propertyOf 9 = .ok (.astore_n 3, 1) := by decide +kernel
theorem dX4_propertyOf_10 : decode cX4_propertyOf 10 = .ok (.iload_n 2, 1) := by decide +kernel
theorem dX4_propertyOf_11 : decode cX4_propertyOf 11 = .ok (.tableswitch 97 0 6 #[41, 46, 51, 56, 61, 73, 92], 41) := by decide +kernel
theorem dX4_propertyOf_52 : decode cX4_propertyOf 52 = .ok (.aload_n 3, 1) := by decide +kernel
theorem dX4_propertyOf_53 : decode cX4_propertyOf 53 = .ok (.getfield 98, 3) := by decide +kernel
theorem dX4_propertyOf_56 : decode cX4_propertyOf 56 = .ok (.ireturn, 1) := by decide +kernel
theorem dX4_propertyOf_57 : decode cX4_propertyOf 57 = .ok (.aload_n 3, 1) := by decide +kernel
theorem dX4_propertyOf_58 : decode cX4_propertyOf 58 = .ok (.getfield 102, 3) := by decide +kernel
theorem dX4_propertyOf_61 : decode cX4_propertyOf 61 = .ok (.ireturn, 1) := by decide +kernel
theorem dX4_propertyOf_62 : decode cX4_propertyOf 62 = .ok (.aload_n 3, 1) := by decide +kernel
theorem dX4_propertyOf_63 : decode cX4_propertyOf 63 = .ok (.getfield 198, 3) := by decide +kernel
theorem dX4_propertyOf_66 : decode cX4_propertyOf 66 = .ok (.ireturn, 1) := by decide +kernel
theorem dX4_propertyOf_67 : decode cX4_propertyOf 67 = .ok (.aload_n 3, 1) := by decide +kernel
theorem dX4_propertyOf_68 : decode cX4_propertyOf 68 = .ok (.getfield 149, 3) := by decide +kernel
theorem dX4_propertyOf_71 : decode cX4_propertyOf 71 = .ok (.ireturn, 1) := by decide +kernel
theorem dX4_propertyOf_72 : decode cX4_propertyOf 72 = .ok (.aload_n 0, 1) := by decide +kernel
theorem dX4_propertyOf_73 : decode cX4_propertyOf 73 = .ok (.getfield 10, 3) := by decide +kernel
theorem dX4_propertyOf_76 : decode cX4_propertyOf 76 = .ok (.aload_n 3, 1) := by decide +kernel
theorem dX4_propertyOf_77 : decode cX4_propertyOf 77 = .ok (.getfield 93, 3) := by decide +kernel
theorem dX4_propertyOf_80 : decode cX4_propertyOf 80 = .ok (.invokevirtual 195, 3) := by decide +kernel
theorem dX4_propertyOf_83 : decode cX4_propertyOf 83 = .ok (.ireturn, 1) := by decide +kernel
theorem dX4_propertyOf_84 : decode cX4_propertyOf 84 = .ok (.aload_n 0, 1) := by decide +kernel
theorem dX4_propertyOf_85 : decode cX4_propertyOf 85 = .ok (.getfield 34, 3) := by decide +kernel
theorem dX4_propertyOf_88 : decode cX4_propertyOf 88 = .ok (.getfield 127, 3) := by decide +kernel
theorem dX4_propertyOf_91 : decode cX4_propertyOf 91 = .ok (.iload_n 1, 1) := by decide +kernel
theorem dX4_propertyOf_92 : decode cX4_propertyOf 92 = .ok (.iaload, 1) := by decide +kernel
theorem dX4_propertyOf_93 : decode cX4_propertyOf 93 = .ok (.iconst (-1), 1) := by decide +kernel
theorem dX4_propertyOf_94 : decode cX4_propertyOf 94 = .ok (.if_icmp .ne 7, 3) := by decide +kernel
theorem dX4_propertyOf_97 : decode cX4_propertyOf 97 = .ok (.iconst 1, 1) := by decide +kernel
theorem dX4_propertyOf_98 : decode cX4_propertyOf 98 = .ok (.goto 4, 3) := by decide +kernel
theorem dX4_propertyOf_101 : decode cX4_propertyOf 101 = .ok (.iconst 0, 1) := by decide +kernel
theorem dX4_propertyOf_102 : decode cX4_propertyOf 102 = .ok (.ireturn, 1) := by decide +kernel
theorem dX4_propertyOf_103 : decode cX4_propertyOf 103 = .ok (.aload_n 3, 1) := by decide +kernel
theorem dX4_propertyOf_104 : decode cX4_propertyOf 104 = .ok (.invokevirtual 205, 3) := by decide +kernel
theorem dX4_propertyOf_107 : decode cX4_propertyOf 107 = .ok (.ireturn, 1) := by decide +kernel
theorem dX4_propertyOf_108 : decode cX4_propertyOf 108 = .ok (.aload_n 0, 1) := by decide +kernel
theorem dX4_propertyOf_109 : decode cX4_propertyOf 109 = .ok (.getfield 10, 3) := by decide +kernel
theorem dX4_propertyOf_112 : decode cX4_propertyOf 112 = .ok (.aload_n 3, 1) := by decide +kernel
theorem dX4_propertyOf_113 : decode cX4_propertyOf 113 = .ok (.getfield 93, 3) := by decide +kernel
theorem dX4_propertyOf_116 : decode cX4_propertyOf 116 = .ok (.invokevirtual 146, 3) := by decide +kernel
theorem dX4_propertyOf_119 : decode cX4_propertyOf 119 = .ok (.ireturn, 1) := by decide +kernel
theorem dX4_tally_0 : decode cX4_tally 0 = .ok (.iload_n 1, 1) := by decide +kernel
theorem dX4_tally_1 : decode cX4_tally 1 = .ok (.tableswitch 165 0 11 #[63, 71, 79, 97, 105, 113, 118, 126, 134, 142, 147, 155], 63) := by decide +kernel
theorem dX4_tally_64 : decode cX4_tally 64 = .ok (.aload_n 0, 1) := by decide +kernel
theorem dX4_tally_65 : decode cX4_tally 65 = .ok (.getfield 10, 3) := by decide +kernel
theorem dX4_tally_68 : decode cX4_tally 68 = .ok (.getfield 54, 3) := by decide +kernel
theorem dX4_tally_71 : decode cX4_tally 71 = .ok (.ireturn, 1) := by decide +kernel
theorem dX4_tally_72 : decode cX4_tally 72 = .ok (.aload_n 0, 1) := by decide +kernel
theorem dX4_tally_73 : decode cX4_tally 73 = .ok (.getfield 10, 3) := by decide +kernel
theorem dX4_tally_76 : decode cX4_tally 76 = .ok (.getfield 117, 3) := by decide +kernel
theorem dX4_tally_79 : decode cX4_tally 79 = .ok (.ireturn, 1) := by decide +kernel
theorem dX4_tally_80 : decode cX4_tally 80 = .ok (.aload_n 0, 1) := by decide +kernel
theorem dX4_tally_81 : decode cX4_tally 81 = .ok (.getfield 10, 3) := by decide +kernel
theorem dX4_tally_84 : decode cX4_tally 84 = .ok (.getfield 51, 3) := by decide +kernel
theorem dX4_tally_87 : decode cX4_tally 87 = .ok (.aload_n 0, 1) := by decide +kernel
theorem dX4_tally_88 : decode cX4_tally 88 = .ok (.getfield 10, 3) := by decide +kernel
theorem dX4_tally_91 : decode cX4_tally 91 = .ok (.getfield 54, 3) := by decide +kernel
theorem dX4_tally_94 : decode cX4_tally 94 = .ok (.invokestatic 99, 3) := by decide +kernel
theorem dX4_tally_97 : decode cX4_tally 97 = .ok (.ireturn, 1) := by decide +kernel
theorem dX4_tally_98 : decode cX4_tally 98 = .ok (.aload_n 0, 1) := by decide +kernel
theorem dX4_tally_99 : decode cX4_tally 99 = .ok (.getfield 10, 3) := by decide +kernel
theorem dX4_tally_102 : decode cX4_tally 102 = .ok (.getfield 79, 3) := by decide +kernel
theorem dX4_tally_105 : decode cX4_tally 105 = .ok (.ireturn, 1) := by decide +kernel
theorem dX4_tally_106 : decode cX4_tally 106 = .ok (.aload_n 0, 1) := by decide +kernel
theorem dX4_tally_107 : decode cX4_tally 107 = .ok (.getfield 10, 3) := by decide +kernel
theorem dX4_tally_110 : decode cX4_tally 110 = .ok (.invokevirtual 206, 3) := by decide +kernel
theorem dX4_tally_113 : decode cX4_tally 113 = .ok (.ireturn, 1) := by decide +kernel
theorem dX4_tally_114 : decode cX4_tally 114 = .ok (.aload_n 0, 1) := by decide +kernel
theorem dX4_tally_115 : decode cX4_tally 115 = .ok (.invokevirtual 209, 3) := by decide +kernel
theorem dX4_tally_118 : decode cX4_tally 118 = .ok (.ireturn, 1) := by decide +kernel
theorem dX4_tally_119 : decode cX4_tally 119 = .ok (.aload_n 0, 1) := by decide +kernel
theorem dX4_tally_120 : decode cX4_tally 120 = .ok (.getfield 10, 3) := by decide +kernel
theorem dX4_tally_123 : decode cX4_tally 123 = .ok (.invokevirtual 151, 3) := by decide +kernel
theorem dX4_tally_126 : decode cX4_tally 126 = .ok (.ireturn, 1) := by decide +kernel
theorem dX4_tally_127 : decode cX4_tally 127 = .ok (.aload_n 0, 1) := by decide +kernel
theorem dX4_tally_128 : decode cX4_tally 128 = .ok (.getfield 10, 3) := by decide +kernel
theorem dX4_tally_131 : decode cX4_tally 131 = .ok (.getfield 82, 3) := by decide +kernel
theorem dX4_tally_134 : decode cX4_tally 134 = .ok (.ireturn, 1) := by decide +kernel
theorem dX4_tally_135 : decode cX4_tally 135 = .ok (.aload_n 0, 1) := by decide +kernel
theorem dX4_tally_136 : decode cX4_tally 136 = .ok (.getfield 10, 3) := by decide +kernel
theorem dX4_tally_139 : decode cX4_tally 139 = .ok (.invokevirtual 212, 3) := by decide +kernel
theorem dX4_tally_142 : decode cX4_tally 142 = .ok (.ireturn, 1) := by decide +kernel
theorem dX4_tally_143 : decode cX4_tally 143 = .ok (.aload_n 0, 1) := by decide +kernel
theorem dX4_tally_144 : decode cX4_tally 144 = .ok (.getfield 20, 3) := by decide +kernel
theorem dX4_tally_147 : decode cX4_tally 147 = .ok (.ireturn, 1) := by decide +kernel
theorem dX4_tally_148 : decode cX4_tally 148 = .ok (.aload_n 0, 1) := by decide +kernel
theorem dX4_tally_149 : decode cX4_tally 149 = .ok (.getfield 27, 3) := by decide +kernel
theorem dX4_tally_152 : decode cX4_tally 152 = .ok (.getfield 45, 3) := by decide +kernel
theorem dX4_tally_155 : decode cX4_tally 155 = .ok (.ireturn, 1) := by decide +kernel
theorem dX4_tally_156 : decode cX4_tally 156 = .ok (.aload_n 0, 1) := by decide +kernel
theorem dX4_tally_157 : decode cX4_tally 157 = .ok (.getfield 10, 3) := by decide +kernel
theorem dX4_tally_160 : decode cX4_tally 160 = .ok (.getfield 130, 3) := by decide +kernel
theorem dX4_tally_163 : decode cX4_tally 163 = .ok (.iconst 0, 1) := by decide +kernel
theorem dX4_tally_164 : decode cX4_tally 164 = .ok (.iaload, 1) := by decide +kernel
theorem dX4_tally_165 : decode cX4_tally 165 = .ok (.ireturn, 1) := by decide +kernel
theorem dX4_tally_166 : decode cX4_tally 166 = .ok (.aload_n 0, 1) := by decide +kernel
theorem dX4_tally_167 : decode cX4_tally 167 = .ok (.getfield 10, 3) := by decide +kernel
theorem dX4_tally_170 : decode cX4_tally 170 = .ok (.getfield 130, 3) := by decide +kernel
theorem dX4_tally_173 : decode cX4_tally 173 = .ok (.iconst 1, 1) := by decide +kernel
theorem dX4_tally_174 : decode cX4_tally 174 = .ok (.iaload, 1) := by decide +kernel
theorem dX4_tally_175 : decode cX4_tally 175 = .ok (.ireturn, 1) := by decide +kernel
theorem dX4_unreadable_0 : decode cX4_unreadable 0 = .ok (.iconst 0, 1) := by decide +kernel
theorem dX4_unreadable_1 : decode cX4_unreadable 1 = .ok (.istore_n 1, 1) := by decide +kernel
theorem dX4_unreadable_2 : decode cX4_unreadable 2 = .ok (.iconst 0, 1) := by decide +kernel
theorem dX4_unreadable_3 : decode cX4_unreadable 3 = .ok (.istore_n 2, 1) := by decide +kernel
theorem dX4_unreadable_4 : decode cX4_unreadable 4 = .ok (.iload_n 2, 1) := by decide +kernel
theorem dX4_unreadable_5 : decode cX4_unreadable 5 = .ok (.aload_n 0, 1) := by decide +kernel
theorem dX4_unreadable_6 : decode cX4_unreadable 6 = .ok (.getfield 10, 3) := by decide +kernel
theorem dX4_unreadable_9 : decode cX4_unreadable 9 = .ok (.getfield 79, 3) := by decide +kernel
theorem dX4_unreadable_12 : decode cX4_unreadable 12 = .ok (.if_icmp .ge 25, 3) := by decide +kernel
theorem dX4_unreadable_15 : decode cX4_unreadable 15 = .ok (.aload_n 0, 1) := by decide +kernel
theorem dX4_unreadable_16 : decode cX4_unreadable 16 = .ok (.getfield 34, 3) := by decide +kernel
theorem dX4_unreadable_19 : decode cX4_unreadable 19 = .ok (.getfield 127, 3) := by decide +kernel
theorem dX4_unreadable_22 : decode cX4_unreadable 22 = .ok (.iload_n 2, 1) := by decide +kernel
theorem dX4_unreadable_23 : decode cX4_unreadable 23 = .ok (.iaload, 1) := by decide +kernel
theorem dX4_unreadable_24 : decode cX4_unreadable 24 = .ok (.iconst (-1), 1) := by decide +kernel
theorem dX4_unreadable_25 : decode cX4_unreadable 25 = .ok (.if_icmp .eq 6, 3) := by decide +kernel
theorem dX4_unreadable_28 : decode cX4_unreadable 28 = .ok (.iinc 1 1, 3) := by decide +kernel
theorem dX4_unreadable_31 : decode cX4_unreadable 31 = .ok (.iinc 2 1, 3) := by decide +kernel
theorem dX4_unreadable_34 : decode cX4_unreadable 34 = .ok (.goto (-30), 3) := by decide +kernel
theorem dX4_unreadable_37 : decode cX4_unreadable 37 = .ok (.iload_n 1, 1) := by decide +kernel
theorem dX4_unreadable_38 : decode cX4_unreadable 38 = .ok (.ireturn, 1) := by decide +kernel
theorem dX4_reasonOf_0 : decode cX4_reasonOf 0 = .ok (.aload_n 0, 1) := by decide +kernel
theorem dX4_reasonOf_1 : decode cX4_reasonOf 1 = .ok (.getfield 10, 3) := by decide +kernel
theorem dX4_reasonOf_4 : decode cX4_reasonOf 4 = .ok (.iload_n 1, 1) := by decide +kernel
theorem dX4_reasonOf_5 : decode cX4_reasonOf 5 = .ok (.invokevirtual 124, 3) := by decide +kernel
theorem dX4_reasonOf_8 : decode cX4_reasonOf 8 = .ok (.istore_n 2, 1) := by decide +kernel
theorem dX4_reasonOf_9 : decode cX4_reasonOf 9 = .ok (.iload_n 2, 1) := by decide +kernel
theorem dX4_reasonOf_10 : decode cX4_reasonOf 10 = .ok (.iconst (-1), 1) := by decide +kernel
theorem dX4_reasonOf_11 : decode cX4_reasonOf 11 = .ok (.if_icmp .ne 7, 3) := by decide +kernel
theorem dX4_reasonOf_14 : decode cX4_reasonOf 14 = .ok (.iconst 0, 1) := by decide +kernel
theorem dX4_reasonOf_15 : decode cX4_reasonOf 15 = .ok (.goto 12, 3) := by decide +kernel
theorem dX4_reasonOf_18 : decode cX4_reasonOf 18 = .ok (.aload_n 0, 1) := by decide +kernel
theorem dX4_reasonOf_19 : decode cX4_reasonOf 19 = .ok (.getfield 34, 3) := by decide +kernel
theorem dX4_reasonOf_22 : decode cX4_reasonOf 22 = .ok (.getfield 127, 3) := by decide +kernel
theorem dX4_reasonOf_25 : decode cX4_reasonOf 25 = .ok (.iload_n 2, 1) := by decide +kernel
theorem dX4_reasonOf_26 : decode cX4_reasonOf 26 = .ok (.iaload, 1) := by decide +kernel
theorem dX4_reasonOf_27 : decode cX4_reasonOf 27 = .ok (.ireturn, 1) := by decide +kernel
theorem dX4_causeOf_0 : decode cX4_causeOf 0 = .ok (.iload_n 2, 1) := by decide +kernel
theorem dX4_causeOf_1 : decode cX4_causeOf 1 = .ok (.bipush 99, 2) := by decide +kernel
theorem dX4_causeOf_3 : decode cX4_causeOf 3 = .ok (.if_icmp .le 5, 3) := by decide +kernel
theorem dX4_causeOf_6 : decode cX4_causeOf 6 = .ok (.iconst (-1), 1) := by decide +kernel
theorem dX4_causeOf_7 : decode cX4_causeOf 7 = .ok (.ireturn, 1) := by decide +kernel
theorem dX4_causeOf_8 : decode cX4_causeOf 8 = .ok (.iload_n 1, 1) := by decide +kernel
theorem dX4_causeOf_9 : decode cX4_causeOf 9 = .ok (.istore 4, 2) := by decide +kernel
theorem dX4_causeOf_11 : decode cX4_causeOf 11 = .ok (.iconst 0, 1) := by decide +kernel
theorem dX4_causeOf_12 : decode cX4_causeOf 12 = .ok (.istore 5, 2) := by decide +kernel
theorem dX4_causeOf_14 : decode cX4_causeOf 14 = .ok (.iload 5, 2) := by decide +kernel
theorem dX4_causeOf_16 : decode cX4_causeOf 16 = .ok (.iload_n 2, 1) := by decide +kernel
theorem dX4_causeOf_17 : decode cX4_causeOf 17 = .ok (.if_icmp .ge 32, 3) := by decide +kernel
theorem dX4_causeOf_20 : decode cX4_causeOf 20 = .ok (.aload_n 0, 1) := by decide +kernel
theorem dX4_causeOf_21 : decode cX4_causeOf 21 = .ok (.iload 4, 2) := by decide +kernel
theorem dX4_causeOf_23 : decode cX4_causeOf 23 = .ok (.invokevirtual 215, 3) := by decide +kernel
theorem dX4_causeOf_26 : decode cX4_causeOf 26 = .ok (.iconst 2, 1) := by decide +kernel
theorem dX4_causeOf_27 : decode cX4_causeOf 27 = .ok (.if_icmp .eq 5, 3) := by decide +kernel
theorem dX4_causeOf_30 : decode cX4_causeOf 30 = .ok (.iconst (-1), 1) := by decide +kernel
theorem dX4_causeOf_31 : decode cX4_causeOf 31 = .ok (.ireturn, 1) := by decide +kernel
theorem dX4_causeOf_32 : decode cX4_causeOf 32 = .ok (.aload_n 0, 1) := by decide +kernel
theorem dX4_causeOf_33 : decode cX4_causeOf 33 = .ok (.getfield 10, 3) := by decide +kernel
theorem dX4_causeOf_36 : decode cX4_causeOf 36 = .ok (.iload 4, 2) := by decide +kernel
theorem dX4_causeOf_38 : decode cX4_causeOf 38 = .ok (.invokevirtual 174, 3) := by decide +kernel
theorem dX4_causeOf_41 : decode cX4_causeOf 41 = .ok (.istore 4, 2) := by decide +kernel
theorem dX4_causeOf_43 : decode cX4_causeOf 43 = .ok (.iinc 5 1, 3) := by decide +kernel
theorem dX4_causeOf_46 : decode cX4_causeOf 46 = .ok (.goto (-32), 3) := by decide +kernel
theorem dX4_causeOf_49 : decode cX4_causeOf 49 = .ok (.aload_n 0, 1) := by decide +kernel
theorem dX4_causeOf_50 : decode cX4_causeOf 50 = .ok (.iload 4, 2) := by decide +kernel
theorem dX4_causeOf_52 : decode cX4_causeOf 52 = .ok (.invokevirtual 215, 3) := by decide +kernel
theorem dX4_causeOf_55 : decode cX4_causeOf 55 = .ok (.istore 5, 2) := by decide +kernel
theorem dX4_causeOf_57 : decode cX4_causeOf 57 = .ok (.iload 5, 2) := by decide +kernel
theorem dX4_causeOf_59 : decode cX4_causeOf 59 = .ok (.iconst (-1), 1) := by decide +kernel
theorem dX4_causeOf_60 : decode cX4_causeOf 60 = .ok (.if_icmp .ne 5, 3) := by decide +kernel
theorem dX4_causeOf_63 : decode cX4_causeOf 63 = .ok (.iconst (-1), 1) := by decide +kernel
theorem dX4_causeOf_64 : decode cX4_causeOf 64 = .ok (.ireturn, 1) := by decide +kernel
theorem dX4_causeOf_65 : decode cX4_causeOf 65 = .ok (.iload_n 3, 1) := by decide +kernel
theorem dX4_causeOf_66 : decode cX4_causeOf 66 = .ok (.ifCond .ne 8, 3) := by decide +kernel
theorem dX4_causeOf_69 : decode cX4_causeOf 69 = .ok (.iload 5, 2) := by decide +kernel
theorem dX4_causeOf_71 : decode cX4_causeOf 71 = .ok (.goto 5, 3) := by decide +kernel
theorem dX4_causeOf_74 : decode cX4_causeOf 74 = .ok (.iload 4, 2) := by decide +kernel
theorem dX4_causeOf_76 : decode cX4_causeOf 76 = .ok (.ireturn, 1) := by decide +kernel
theorem dX4_nearestToGame_0 : decode cX4_nearestToGame 0 = .ok (.iconst (-1), 1) := by decide +kernel
theorem dX4_nearestToGame_1 : decode cX4_nearestToGame 1 = .ok (.istore_n 1, 1) := by decide +kernel
theorem dX4_nearestToGame_2 : decode cX4_nearestToGame 2 = .ok (.bipush 13, 2) := by decide +kernel
theorem dX4_nearestToGame_4 : decode cX4_nearestToGame 4 = .ok (.istore_n 2, 1) := by decide +kernel
theorem dX4_nearestToGame_5 : decode cX4_nearestToGame 5 = .ok (.iconst 0, 1) := by decide +kernel
theorem dX4_nearestToGame_6 : decode cX4_nearestToGame 6 = .ok (.istore_n 3, 1) := by decide +kernel
theorem dX4_nearestToGame_7 : decode cX4_nearestToGame 7 = .ok (.iload_n 3, 1) := by decide +kernel
theorem dX4_nearestToGame_8 : decode cX4_nearestToGame 8 = .ok (.aload_n 0, 1) := by decide +kernel
theorem dX4_nearestToGame_9 : decode cX4_nearestToGame 9 = .ok (.getfield 10, 3) := by decide +kernel
theorem dX4_nearestToGame_12 : decode cX4_nearestToGame 12 = .ok (.getfield 79, 3) := by decide +kernel
theorem dX4_nearestToGame_15 : decode cX4_nearestToGame 15 = .ok (.if_icmp .ge 84, 3) := by decide +kernel
theorem dX4_nearestToGame_18 : decode cX4_nearestToGame 18 = .ok (.aload_n 0, 1) := by decide +kernel
theorem dX4_nearestToGame_19 : decode cX4_nearestToGame 19 = .ok (.getfield 10, 3) := by decide +kernel
theorem dX4_nearestToGame_22 : decode cX4_nearestToGame 22 = .ok (.getfield 89, 3) := by decide +kernel
theorem dX4_nearestToGame_25 : decode cX4_nearestToGame 25 = .ok (.iload_n 3, 1) := by decide +kernel
theorem dX4_nearestToGame_26 : decode cX4_nearestToGame 26 = .ok (.aaload, 1) := by decide +kernel
theorem dX4_nearestToGame_27 : decode cX4_nearestToGame 27 = .ok (.astore 4, 2) := by decide +kernel
theorem dX4_nearestToGame_29 : decode cX4_nearestToGame 29 = .ok (.aload_n 0, 1) := by decide +kernel
theorem dX4_nearestToGame_30 : decode cX4_nearestToGame 30 = .ok (.getfield 34, 3) := by decide +kernel
theorem dX4_nearestToGame_33 : decode cX4_nearestToGame 33 = .ok (.getfield 127, 3) := by decide +kernel
theorem dX4_nearestToGame_36 : decode cX4_nearestToGame 36 = .ok (.iload_n 3, 1) := by decide +kernel
theorem dX4_nearestToGame_37 : decode cX4_nearestToGame 37 = .ok (.iaload, 1) := by decide +kernel
theorem dX4_nearestToGame_38 : decode cX4_nearestToGame 38 = .ok (.iconst (-1), 1) := by decide +kernel
theorem dX4_nearestToGame_39 : decode cX4_nearestToGame 39 = .ok (.if_icmp .ne 54, 3) := by decide +kernel
theorem dX4_nearestToGame_42 : decode cX4_nearestToGame 42 = .ok (.aload 4, 2) := by decide +kernel
theorem dX4_nearestToGame_44 : decode cX4_nearestToGame 44 = .ok (.getfield 98, 3) := by decide +kernel
theorem dX4_nearestToGame_47 : decode cX4_nearestToGame 47 = .ok (.aload_n 0, 1) := by decide +kernel
theorem dX4_nearestToGame_48 : decode cX4_nearestToGame 48 = .ok (.getfield 10, 3) := by decide +kernel
theorem dX4_nearestToGame_51 : decode cX4_nearestToGame 51 = .ok (.getfield 54, 3) := by decide +kernel
theorem dX4_nearestToGame_54 : decode cX4_nearestToGame 54 = .ok (.if_icmp .gt 39, 3) := by decide +kernel
theorem dX4_nearestToGame_57 : decode cX4_nearestToGame 57 = .ok (.aload_n 0, 1) := by decide +kernel
theorem dX4_nearestToGame_58 : decode cX4_nearestToGame 58 = .ok (.iload_n 3, 1) := by decide +kernel
theorem dX4_nearestToGame_59 : decode cX4_nearestToGame 59 = .ok (.aload_n 0, 1) := by decide +kernel
theorem dX4_nearestToGame_60 : decode cX4_nearestToGame 60 = .ok (.getfield 10, 3) := by decide +kernel
theorem dX4_nearestToGame_63 : decode cX4_nearestToGame 63 = .ok (.getfield 54, 3) := by decide +kernel
theorem dX4_nearestToGame_66 : decode cX4_nearestToGame 66 = .ok (.aload_n 0, 1) := by decide +kernel
theorem dX4_nearestToGame_67 : decode cX4_nearestToGame 67 = .ok (.getfield 10, 3) := by decide +kernel
theorem dX4_nearestToGame_70 : decode cX4_nearestToGame 70 = .ok (.getfield 51, 3) := by decide +kernel
theorem dX4_nearestToGame_73 : decode cX4_nearestToGame 73 = .ok (.invokevirtual 170, 3) := by decide +kernel
theorem dX4_nearestToGame_76 : decode cX4_nearestToGame 76 = .ok (.istore 5, 2) := by decide +kernel
theorem dX4_nearestToGame_78 : decode cX4_nearestToGame 78 = .ok (.iload 5, 2) := by decide +kernel
theorem dX4_nearestToGame_80 : decode cX4_nearestToGame 80 = .ok (.iload_n 2, 1) := by decide +kernel
theorem dX4_nearestToGame_81 : decode cX4_nearestToGame 81 = .ok (.if_icmp .ge 12, 3) := by decide +kernel
theorem dX4_nearestToGame_84 : decode cX4_nearestToGame 84 = .ok (.iload 5, 2) := by decide +kernel
theorem dX4_nearestToGame_86 : decode cX4_nearestToGame 86 = .ok (.istore_n 2, 1) := by decide +kernel
theorem dX4_nearestToGame_87 : decode cX4_nearestToGame 87 = .ok (.aload 4, 2) := by decide +kernel
theorem dX4_nearestToGame_89 : decode cX4_nearestToGame 89 = .ok (.getfield 93, 3) := by decide +kernel
theorem dX4_nearestToGame_92 : decode cX4_nearestToGame 92 = .ok (.istore_n 1, 1) := by decide +kernel
theorem dX4_nearestToGame_93 : decode cX4_nearestToGame 93 = .ok (.iinc 3 1, 3) := by decide +kernel
theorem dX4_nearestToGame_96 : decode cX4_nearestToGame 96 = .ok (.goto (-89), 3) := by decide +kernel
theorem dX4_nearestToGame_99 : decode cX4_nearestToGame 99 = .ok (.iload_n 1, 1) := by decide +kernel
theorem dX4_nearestToGame_100 : decode cX4_nearestToGame 100 = .ok (.ireturn, 1) := by decide +kernel
theorem dX4_distance_0 : decode cX4_distance 0 = .ok (.aload_n 0, 1) := by decide +kernel
theorem dX4_distance_1 : decode cX4_distance 1 = .ok (.iload_n 1, 1) := by decide +kernel
theorem dX4_distance_2 : decode cX4_distance 2 = .ok (.iload_n 2, 1) := by decide +kernel
theorem dX4_distance_3 : decode cX4_distance 3 = .ok (.aload_n 0, 1) := by decide +kernel
theorem dX4_distance_4 : decode cX4_distance 4 = .ok (.getfield 38, 3) := by decide +kernel
theorem dX4_distance_7 : decode cX4_distance 7 = .ok (.invokevirtual 113, 3) := by decide +kernel
theorem dX4_distance_10 : decode cX4_distance 10 = .ok (.iconst 0, 1) := by decide +kernel
theorem dX4_distance_11 : decode cX4_distance 11 = .ok (.istore 4, 2) := by decide +kernel
theorem dX4_distance_13 : decode cX4_distance 13 = .ok (.iconst 0, 1) := by decide +kernel
theorem dX4_distance_14 : decode cX4_distance 14 = .ok (.istore 5, 2) := by decide +kernel
theorem dX4_distance_16 : decode cX4_distance 16 = .ok (.iload 5, 2) := by decide +kernel
theorem dX4_distance_18 : decode cX4_distance 18 = .ok (.iload_n 2, 1) := by decide +kernel
theorem dX4_distance_19 : decode cX4_distance 19 = .ok (.invokestatic 57, 3) := by decide +kernel
theorem dX4_distance_22 : decode cX4_distance 22 = .ok (.if_icmp .ge 26, 3) := by decide +kernel
theorem dX4_distance_25 : decode cX4_distance 25 = .ok (.aload_n 0, 1) := by decide +kernel
theorem dX4_distance_26 : decode cX4_distance 26 = .ok (.getfield 38, 3) := by decide +kernel
theorem dX4_distance_29 : decode cX4_distance 29 = .ok (.iload 5, 2) := by decide +kernel
theorem dX4_distance_31 : decode cX4_distance 31 = .ok (.iaload, 1) := by decide +kernel
theorem dX4_distance_32 : decode cX4_distance 32 = .ok (.aload_n 3, 1) := by decide +kernel
theorem dX4_distance_33 : decode cX4_distance 33 = .ok (.iload 5, 2) := by decide +kernel
theorem dX4_distance_35 : decode cX4_distance 35 = .ok (.iaload, 1) := by decide +kernel
theorem dX4_distance_36 : decode cX4_distance 36 = .ok (.if_icmp .eq 6, 3) := by decide +kernel
theorem dX4_distance_39 : decode cX4_distance 39 = .ok (.iinc 4 1, 3) := by decide +kernel
theorem dX4_distance_42 : decode cX4_distance 42 = .ok (.iinc 5 1, 3) := by decide +kernel
theorem dX4_distance_45 : decode cX4_distance 45 = .ok (.goto (-29), 3) := by decide +kernel
theorem dX4_distance_48 : decode cX4_distance 48 = .ok (.iload 4, 2) := by decide +kernel
theorem dX4_distance_50 : decode cX4_distance 50 = .ok (.ireturn, 1) := by decide +kernel
theorem dX4_raiseRead_0 : decode cX4_raiseRead 0 = .ok (.aload_n 0, 1) := by decide +kernel
theorem dX4_raiseRead_1 : decode cX4_raiseRead 1 = .ok (.getfield 34, 3) := by decide +kernel
theorem dX4_raiseRead_4 : decode cX4_raiseRead 4 = .ok (.getfield 201, 3) := by decide +kernel
theorem dX4_raiseRead_7 : decode cX4_raiseRead 7 = .ok (.iload_n 1, 1) := by decide +kernel
theorem dX4_raiseRead_8 : decode cX4_raiseRead 8 = .ok (.aaload, 1) := by decide +kernel
theorem dX4_raiseRead_9 : decode cX4_raiseRead 9 = .ok (.iconst 0, 1) := by decide +kernel
theorem dX4_raiseRead_10 : decode cX4_raiseRead 10 = .ok (.aload_n 3, 1) := by decide +kernel
theorem dX4_raiseRead_11 : decode cX4_raiseRead 11 = .ok (.iconst 0, 1) := by decide +kernel
theorem dX4_raiseRead_12 : decode cX4_raiseRead 12 = .ok (.bipush 12, 2) := by decide +kernel
theorem dX4_raiseRead_14 : decode cX4_raiseRead 14 = .ok (.invokestatic 69, 3) := by decide +kernel
theorem dX4_raiseRead_17 : decode cX4_raiseRead 17 = .ok (.aload_n 3, 1) := by decide +kernel
theorem dX4_raiseRead_18 : decode cX4_raiseRead 18 = .ok (.aload_n 0, 1) := by decide +kernel
theorem dX4_raiseRead_19 : decode cX4_raiseRead 19 = .ok (.getfield 10, 3) := by decide +kernel
theorem dX4_raiseRead_22 : decode cX4_raiseRead 22 = .ok (.getfield 89, 3) := by decide +kernel
theorem dX4_raiseRead_25 : decode cX4_raiseRead 25 = .ok (.iload_n 1, 1) := by decide +kernel
theorem dX4_raiseRead_26 : decode cX4_raiseRead 26 = .ok (.aaload, 1) := by decide +kernel
theorem dX4_raiseRead_27 : decode cX4_raiseRead 27 = .ok (.getfield 98, 3) := by decide +kernel
theorem dX4_raiseRead_30 : decode cX4_raiseRead 30 = .ok (.iload_n 2, 1) := by decide +kernel
theorem dX4_raiseRead_31 : decode cX4_raiseRead 31 = .ok (.invokestatic 75, 3) := by decide +kernel
theorem dX4_raiseRead_34 : decode cX4_raiseRead 34 = .ok (.return_, 1) := by decide +kernel
theorem dX4_sizeOf_0 : decode cX4_sizeOf 0 = .ok (.bipush 6, 2) := by decide +kernel
theorem dX4_sizeOf_2 : decode cX4_sizeOf 2 = .ok (.iconst 2, 1) := by decide +kernel
theorem dX4_sizeOf_3 : decode cX4_sizeOf 3 = .ok (.iload_n 0, 1) := by decide +kernel
theorem dX4_sizeOf_4 : decode cX4_sizeOf 4 = .ok (.imul, 1) := by decide +kernel
theorem dX4_sizeOf_5 : decode cX4_sizeOf 5 = .ok (.iadd, 1) := by decide +kernel
theorem dX4_sizeOf_6 : decode cX4_sizeOf 6 = .ok (.ireturn, 1) := by decide +kernel
theorem dX4_sumOf_0 : decode cX4_sumOf 0 = .ok (.bipush 7, 2) := by decide +kernel
theorem dX4_sumOf_2 : decode cX4_sumOf 2 = .ok (.istore_n 2, 1) := by decide +kernel
theorem dX4_sumOf_3 : decode cX4_sumOf 3 = .ok (.iconst 0, 1) := by decide +kernel
theorem dX4_sumOf_4 : decode cX4_sumOf 4 = .ok (.istore_n 3, 1) := by decide +kernel
theorem dX4_sumOf_5 : decode cX4_sumOf 5 = .ok (.iload_n 3, 1) := by decide +kernel
theorem dX4_sumOf_6 : decode cX4_sumOf 6 = .ok (.iload_n 1, 1) := by decide +kernel
theorem dX4_sumOf_7 : decode cX4_sumOf 7 = .ok (.invokestatic 57, 3) := by decide +kernel
theorem dX4_sumOf_10 : decode cX4_sumOf 10 = .ok (.if_icmp .ge 22, 3) := by decide +kernel
theorem dX4_sumOf_13 : decode cX4_sumOf 13 = .ok (.bipush 31, 2) := by decide +kernel
theorem dX4_sumOf_15 : decode cX4_sumOf 15 = .ok (.iload_n 2, 1) := by decide +kernel
theorem dX4_sumOf_16 : decode cX4_sumOf 16 = .ok (.imul, 1) := by decide +kernel
theorem dX4_sumOf_17 : decode cX4_sumOf 17 = .ok (.aload_n 0, 1) := by decide +kernel
theorem dX4_sumOf_18 : decode cX4_sumOf 18 = .ok (.iload_n 3, 1) := by decide +kernel
theorem dX4_sumOf_19 : decode cX4_sumOf 19 = .ok (.iaload, 1) := by decide +kernel
theorem dX4_sumOf_20 : decode cX4_sumOf 20 = .ok (.iadd, 1) := by decide +kernel
theorem dX4_sumOf_21 : decode cX4_sumOf 21 = .ok (.sipush 9973, 3) := by decide +kernel
theorem dX4_sumOf_24 : decode cX4_sumOf 24 = .ok (.irem, 1) := by decide +kernel
theorem dX4_sumOf_25 : decode cX4_sumOf 25 = .ok (.istore_n 2, 1) := by decide +kernel
theorem dX4_sumOf_26 : decode cX4_sumOf 26 = .ok (.iinc 3 1, 3) := by decide +kernel
theorem dX4_sumOf_29 : decode cX4_sumOf 29 = .ok (.goto (-24), 3) := by decide +kernel
theorem dX4_sumOf_32 : decode cX4_sumOf 32 = .ok (.iload_n 2, 1) := by decide +kernel
theorem dX4_sumOf_33 : decode cX4_sumOf 33 = .ok (.ireturn, 1) := by decide +kernel
theorem dX4_raiseValues_0 : decode cX4_raiseValues 0 = .ok (.iload_n 1, 1) := by decide +kernel
theorem dX4_raiseValues_1 : decode cX4_raiseValues 1 = .ok (.iconst 1, 1) := by decide +kernel
theorem dX4_raiseValues_2 : decode cX4_raiseValues 2 = .ok (.if_icmp .gt 33, 3) := by decide +kernel
theorem dX4_raiseValues_5 : decode cX4_raiseValues 5 = .ok (.iload_n 2, 1) := by decide +kernel
theorem dX4_raiseValues_6 : decode cX4_raiseValues 6 = .ok (.iconst 2, 1) := by decide +kernel
theorem dX4_raiseValues_7 : decode cX4_raiseValues 7 = .ok (.if_icmp .lt 28, 3) := by decide +kernel
theorem dX4_raiseValues_10 : decode cX4_raiseValues 10 = .ok (.aload_n 0, 1) := by decide +kernel
theorem dX4_raiseValues_11 : decode cX4_raiseValues 11 = .ok (.bipush 8, 2) := by decide +kernel
theorem dX4_raiseValues_13 : decode cX4_raiseValues 13 = .ok (.aload_n 0, 1) := by decide +kernel
theorem dX4_raiseValues_14 : decode cX4_raiseValues 14 = .ok (.iconst 0, 1) := by decide +kernel
theorem dX4_raiseValues_15 : decode cX4_raiseValues 15 = .ok (.iaload, 1) := by decide +kernel
theorem dX4_raiseValues_16 : decode cX4_raiseValues 16 = .ok (.aload_n 0, 1) := by decide +kernel
theorem dX4_raiseValues_17 : decode cX4_raiseValues 17 = .ok (.iconst 1, 1) := by decide +kernel
theorem dX4_raiseValues_18 : decode cX4_raiseValues 18 = .ok (.iaload, 1) := by decide +kernel
theorem dX4_raiseValues_19 : decode cX4_raiseValues 19 = .ok (.iadd, 1) := by decide +kernel
theorem dX4_raiseValues_20 : decode cX4_raiseValues 20 = .ok (.aload_n 0, 1) := by decide +kernel
theorem dX4_raiseValues_21 : decode cX4_raiseValues 21 = .ok (.iconst 2, 1) := by decide +kernel
theorem dX4_raiseValues_22 : decode cX4_raiseValues 22 = .ok (.iaload, 1) := by decide +kernel
theorem dX4_raiseValues_23 : decode cX4_raiseValues 23 = .ok (.iadd, 1) := by decide +kernel
theorem dX4_raiseValues_24 : decode cX4_raiseValues 24 = .ok (.iconst 3, 1) := by decide +kernel
theorem dX4_raiseValues_25 : decode cX4_raiseValues 25 = .ok (.idiv, 1) := by decide +kernel
theorem dX4_raiseValues_26 : decode cX4_raiseValues 26 = .ok (.iastore, 1) := by decide +kernel
theorem dX4_raiseValues_27 : decode cX4_raiseValues 27 = .ok (.aload_n 0, 1) := by decide +kernel
theorem dX4_raiseValues_28 : decode cX4_raiseValues 28 = .ok (.bipush 9, 2) := by decide +kernel
theorem dX4_raiseValues_30 : decode cX4_raiseValues 30 = .ok (.aload_n 0, 1) := by decide +kernel
theorem dX4_raiseValues_31 : decode cX4_raiseValues 31 = .ok (.bipush 7, 2) := by decide +kernel
theorem dX4_raiseValues_33 : decode cX4_raiseValues 33 = .ok (.iaload, 1) := by decide +kernel
theorem dX4_raiseValues_34 : decode cX4_raiseValues 34 = .ok (.iastore, 1) := by decide +kernel
theorem dX4_raiseValues_35 : decode cX4_raiseValues 35 = .ok (.iload_n 1, 1) := by decide +kernel
theorem dX4_raiseValues_36 : decode cX4_raiseValues 36 = .ok (.iconst 2, 1) := by decide +kernel
theorem dX4_raiseValues_37 : decode cX4_raiseValues 37 = .ok (.if_icmp .gt 43, 3) := by decide +kernel
theorem dX4_raiseValues_40 : decode cX4_raiseValues 40 = .ok (.iload_n 2, 1) := by decide +kernel
theorem dX4_raiseValues_41 : decode cX4_raiseValues 41 = .ok (.iconst 3, 1) := by decide +kernel
theorem dX4_raiseValues_42 : decode cX4_raiseValues 42 = .ok (.if_icmp .lt 38, 3) := by decide +kernel
theorem dX4_raiseValues_45 : decode cX4_raiseValues 45 = .ok (.aload_n 0, 1) := by decide +kernel
theorem dX4_raiseValues_46 : decode cX4_raiseValues 46 = .ok (.iconst 1, 1) := by decide +kernel
theorem dX4_raiseValues_47 : decode cX4_raiseValues 47 = .ok (.iaload, 1) := by decide +kernel
theorem dX4_raiseValues_48 : decode cX4_raiseValues 48 = .ok (.istore_n 3, 1) := by decide +kernel
theorem dX4_raiseValues_49 : decode cX4_raiseValues 49 = .ok (.aload_n 0, 1) := by decide +kernel
theorem dX4_raiseValues_50 : decode cX4_raiseValues 50 = .ok (.iconst 1, 1) := by decide +kernel
theorem dX4_raiseValues_51 : decode cX4_raiseValues 51 = .ok (.aload_n 0, 1) := by decide +kernel
theorem dX4_raiseValues_52 : decode cX4_raiseValues 52 = .ok (.iconst 4, 1) := by decide +kernel
theorem dX4_raiseValues_53 : decode cX4_raiseValues 53 = .ok (.iaload, 1) := by decide +kernel
theorem dX4_raiseValues_54 : decode cX4_raiseValues 54 = .ok (.iastore, 1) := by decide +kernel
theorem dX4_raiseValues_55 : decode cX4_raiseValues 55 = .ok (.aload_n 0, 1) := by decide +kernel
theorem dX4_raiseValues_56 : decode cX4_raiseValues 56 = .ok (.iconst 4, 1) := by decide +kernel
theorem dX4_raiseValues_57 : decode cX4_raiseValues 57 = .ok (.iload_n 3, 1) := by decide +kernel
theorem dX4_raiseValues_58 : decode cX4_raiseValues 58 = .ok (.iastore, 1) := by decide +kernel
theorem dX4_raiseValues_59 : decode cX4_raiseValues 59 = .ok (.aload_n 0, 1) := by decide +kernel
theorem dX4_raiseValues_60 : decode cX4_raiseValues 60 = .ok (.bipush 10, 2) := by decide +kernel
theorem dX4_raiseValues_62 : decode cX4_raiseValues 62 = .ok (.bipush 99, 2) := by decide +kernel
theorem dX4_raiseValues_64 : decode cX4_raiseValues 64 = .ok (.iconst 2, 1) := by decide +kernel
theorem dX4_raiseValues_65 : decode cX4_raiseValues 65 = .ok (.aload_n 0, 1) := by decide +kernel
theorem dX4_raiseValues_66 : decode cX4_raiseValues 66 = .ok (.bipush 9, 2) := by decide +kernel
theorem dX4_raiseValues_68 : decode cX4_raiseValues 68 = .ok (.iaload, 1) := by decide +kernel
theorem dX4_raiseValues_69 : decode cX4_raiseValues 69 = .ok (.imul, 1) := by decide +kernel
theorem dX4_raiseValues_70 : decode cX4_raiseValues 70 = .ok (.invokestatic 218, 3) := by decide +kernel
theorem dX4_raiseValues_73 : decode cX4_raiseValues 73 = .ok (.iastore, 1) := by decide +kernel
theorem dX4_raiseValues_74 : decode cX4_raiseValues 74 = .ok (.aload_n 0, 1) := by decide +kernel
theorem dX4_raiseValues_75 : decode cX4_raiseValues 75 = .ok (.bipush 11, 2) := by decide +kernel
theorem dX4_raiseValues_77 : decode cX4_raiseValues 77 = .ok (.bipush 50, 2) := by decide +kernel
theorem dX4_raiseValues_79 : decode cX4_raiseValues 79 = .ok (.iastore, 1) := by decide +kernel
theorem dX4_raiseValues_80 : decode cX4_raiseValues 80 = .ok (.return_, 1) := by decide +kernel
