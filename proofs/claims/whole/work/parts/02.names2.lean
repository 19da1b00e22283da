theorem dX1_fillEnds_48 : decode cX1_fillEnds 48 = .ok (.aload_n 0, 1) := by decide +kernel
theorem dX1_fillEnds_49 : decode cX1_fillEnds 49 = .ok (.iload_n 3, 1) := by decide +kernel
theorem dX1_fillEnds_50 : decode cX1_fillEnds 50 = .ok (.iconst 1, 1) := by decide +kernel
theorem dX1_fillEnds_51 : decode cX1_fillEnds 51 = .ok (.iadd, 1) := by decide +kernel
theorem dX1_fillEnds_52 : decode cX1_fillEnds 52 = .ok (.iload 4, 2) := by decide +kernel
theorem dX1_fillEnds_54 : decode cX1_fillEnds 54 = .ok (.isub, 1) := by decide +kernel
theorem dX1_fillEnds_55 : decode cX1_fillEnds 55 = .ok (.iload_n 2, 1) := by decide +kernel
theorem dX1_fillEnds_56 : decode cX1_fillEnds 56 = .ok (.iload 4, 2) := by decide +kernel
theorem dX1_fillEnds_58 : decode cX1_fillEnds 58 = .ok (.isub, 1) := by decide +kernel
theorem dX1_fillEnds_59 : decode cX1_fillEnds 59 = .ok (.invokevirtual 28, 3) := by decide +kernel
theorem dX1_fillEnds_62 : decode cX1_fillEnds 62 = .ok (.aload_n 0, 1) := by decide +kernel
theorem dX1_fillEnds_63 : decode cX1_fillEnds 63 = .ok (.iload_n 2, 1) := by decide +kernel
theorem dX1_fillEnds_64 : decode cX1_fillEnds 64 = .ok (.iconst 1, 1) := by decide +kernel
theorem dX1_fillEnds_65 : decode cX1_fillEnds 65 = .ok (.isub, 1) := by decide +kernel
theorem dX1_fillEnds_66 : decode cX1_fillEnds 66 = .ok (.iload 4, 2) := by decide +kernel
theorem dX1_fillEnds_68 : decode cX1_fillEnds 68 = .ok (.iadd, 1) := by decide +kernel
theorem dX1_fillEnds_69 : decode cX1_fillEnds 69 = .ok (.iload_n 3, 1) := by decide +kernel
theorem dX1_fillEnds_70 : decode cX1_fillEnds 70 = .ok (.iload 4, 2) := by decide +kernel
theorem dX1_fillEnds_72 : decode cX1_fillEnds 72 = .ok (.iadd, 1) := by decide +kernel
theorem dX1_fillEnds_73 : decode cX1_fillEnds 73 = .ok (.invokevirtual 28, 3) := by decide +kernel
theorem dX1_fillEnds_76 : decode cX1_fillEnds 76 = .ok (.goto 52, 3) := by decide +kernel
theorem dX1_fillEnds_79 : decode cX1_fillEnds 79 = .ok (.aload_n 0, 1) := by decide +kernel
theorem dX1_fillEnds_80 : decode cX1_fillEnds 80 = .ok (.iload_n 2, 1) := by decide +kernel
theorem dX1_fillEnds_81 : decode cX1_fillEnds 81 = .ok (.iconst 1, 1) := by decide +kernel
theorem dX1_fillEnds_82 : decode cX1_fillEnds 82 = .ok (.isub, 1) := by decide +kernel
theorem dX1_fillEnds_83 : decode cX1_fillEnds 83 = .ok (.iload 4, 2) := by decide +kernel
theorem dX1_fillEnds_85 : decode cX1_fillEnds 85 = .ok (.iadd, 1) := by decide +kernel
theorem dX1_fillEnds_86 : decode cX1_fillEnds 86 = .ok (.iload_n 2, 1) := by decide +kernel
theorem dX1_fillEnds_87 : decode cX1_fillEnds 87 = .ok (.iload 4, 2) := by decide +kernel
theorem dX1_fillEnds_89 : decode cX1_fillEnds 89 = .ok (.isub, 1) := by decide +kernel
theorem dX1_fillEnds_90 : decode cX1_fillEnds 90 = .ok (.invokevirtual 32, 3) := by decide +kernel
theorem dX1_fillEnds_93 : decode cX1_fillEnds 93 = .ok (.aload_n 0, 1) := by decide +kernel
theorem dX1_fillEnds_94 : decode cX1_fillEnds 94 = .ok (.iload_n 3, 1) := by decide +kernel
theorem dX1_fillEnds_95 : decode cX1_fillEnds 95 = .ok (.iconst 1, 1) := by decide +kernel
theorem dX1_fillEnds_96 : decode cX1_fillEnds 96 = .ok (.iadd, 1) := by decide +kernel
theorem dX1_fillEnds_97 : decode cX1_fillEnds 97 = .ok (.iload 4, 2) := by decide +kernel
theorem dX1_fillEnds_99 : decode cX1_fillEnds 99 = .ok (.isub, 1) := by decide +kernel
theorem dX1_fillEnds_100 : decode cX1_fillEnds 100 = .ok (.iload_n 3, 1) := by decide +kernel
theorem dX1_fillEnds_101 : decode cX1_fillEnds 101 = .ok (.iload 4, 2) := by decide +kernel
theorem dX1_fillEnds_103 : decode cX1_fillEnds 103 = .ok (.iadd, 1) := by decide +kernel
theorem dX1_fillEnds_104 : decode cX1_fillEnds 104 = .ok (.invokevirtual 32, 3) := by decide +kernel
theorem dX1_fillEnds_107 : decode cX1_fillEnds 107 = .ok (.goto 21, 3) := by decide +kernel
theorem dX1_fillEnds_110 : decode cX1_fillEnds 110 = .ok (.aload_n 0, 1) := by decide +kernel
theorem dX1_fillEnds_111 : decode cX1_fillEnds 111 = .ok (.iload_n 2, 1) := by decide +kernel
theorem dX1_fillEnds_112 : decode cX1_fillEnds 112 = .ok (.iload_n 2, 1) := by decide +kernel
theorem dX1_fillEnds_113 : decode cX1_fillEnds 113 = .ok (.iload 4, 2) := by decide +kernel
theorem dX1_fillEnds_115 : decode cX1_fillEnds 115 = .ok (.isub, 1) := by decide +kernel
theorem dX1_fillEnds_116 : decode cX1_fillEnds 116 = .ok (.invokevirtual 28, 3) := by decide +kernel
theorem dX1_fillEnds_119 : decode cX1_fillEnds 119 = .ok (.aload_n 0, 1) := by decide +kernel
theorem dX1_fillEnds_120 : decode cX1_fillEnds 120 = .ok (.iload_n 3, 1) := by decide +kernel
theorem dX1_fillEnds_121 : decode cX1_fillEnds 121 = .ok (.iload_n 3, 1) := by decide +kernel
theorem dX1_fillEnds_122 : decode cX1_fillEnds 122 = .ok (.iload 4, 2) := by decide +kernel
theorem dX1_fillEnds_124 : decode cX1_fillEnds 124 = .ok (.iadd, 1) := by decide +kernel
theorem dX1_fillEnds_125 : decode cX1_fillEnds 125 = .ok (.invokevirtual 28, 3) := by decide +kernel
theorem dX1_fillEnds_128 : decode cX1_fillEnds 128 = .ok (.iinc 4 1, 3) := by decide +kernel
theorem dX1_fillEnds_131 : decode cX1_fillEnds 131 = .ok (.goto (-117), 3) := by decide +kernel
theorem dX1_fillEnds_134 : decode cX1_fillEnds 134 = .ok (.return_, 1) := by decide +kernel
theorem dX1_copy_0 : decode cX1_copy 0 = .ok (.aload_n 0, 1) := by decide +kernel
theorem dX1_copy_1 : decode cX1_copy 1 = .ok (.getfield 9, 3) := by decide +kernel
theorem dX1_copy_4 : decode cX1_copy 4 = .ok (.iload_n 2, 1) := by decide +kernel
theorem dX1_copy_5 : decode cX1_copy 5 = .ok (.aload_n 0, 1) := by decide +kernel
theorem dX1_copy_6 : decode cX1_copy 6 = .ok (.getfield 9, 3) := by decide +kernel
theorem dX1_copy_9 : decode cX1_copy 9 = .ok (.iload_n 1, 1) := by decide +kernel
theorem dX1_copy_10 : decode cX1_copy 10 = .ok (.daload, 1) := by decide +kernel
theorem dX1_copy_11 : decode cX1_copy 11 = .ok (.dastore, 1) := by decide +kernel
theorem dX1_copy_12 : decode cX1_copy 12 = .ok (.aload_n 0, 1) := by decide +kernel
theorem dX1_copy_13 : decode cX1_copy 13 = .ok (.getfield 15, 3) := by decide +kernel
theorem dX1_copy_16 : decode cX1_copy 16 = .ok (.iload_n 2, 1) := by decide +kernel
theorem dX1_copy_17 : decode cX1_copy 17 = .ok (.aload_n 0, 1) := by decide +kernel
theorem dX1_copy_18 : decode cX1_copy 18 = .ok (.getfield 15, 3) := by decide +kernel
theorem dX1_copy_21 : decode cX1_copy 21 = .ok (.iload_n 1, 1) := by decide +kernel
theorem dX1_copy_22 : decode cX1_copy 22 = .ok (.daload, 1) := by decide +kernel
theorem dX1_copy_23 : decode cX1_copy 23 = .ok (.dastore, 1) := by decide +kernel
theorem dX1_copy_24 : decode cX1_copy 24 = .ok (.return_, 1) := by decide +kernel
theorem dX1_mirror_0 : decode cX1_mirror 0 = .ok (.aload_n 0, 1) := by decide +kernel
theorem dX1_mirror_1 : decode cX1_mirror 1 = .ok (.getfield 9, 3) := by decide +kernel
theorem dX1_mirror_4 : decode cX1_mirror 4 = .ok (.iload_n 2, 1) := by decide +kernel
theorem dX1_mirror_5 : decode cX1_mirror 5 = .ok (.aload_n 0, 1) := by decide +kernel
theorem dX1_mirror_6 : decode cX1_mirror 6 = .ok (.getfield 9, 3) := by decide +kernel
theorem dX1_mirror_9 : decode cX1_mirror 9 = .ok (.iload_n 1, 1) := by decide +kernel
theorem dX1_mirror_10 : decode cX1_mirror 10 = .ok (.daload, 1) := by decide +kernel
theorem dX1_mirror_11 : decode cX1_mirror 11 = .ok (.dastore, 1) := by decide +kernel
theorem dX1_mirror_12 : decode cX1_mirror 12 = .ok (.aload_n 0, 1) := by decide +kernel
theorem dX1_mirror_13 : decode cX1_mirror 13 = .ok (.getfield 15, 3) := by decide +kernel
theorem dX1_mirror_16 : decode cX1_mirror 16 = .ok (.iload_n 2, 1) := by decide +kernel
theorem dX1_mirror_17 : decode cX1_mirror 17 = .ok (.aload_n 0, 1) := by decide +kernel
theorem dX1_mirror_18 : decode cX1_mirror 18 = .ok (.getfield 15, 3) := by decide +kernel
theorem dX1_mirror_21 : decode cX1_mirror 21 = .ok (.iload_n 1, 1) := by decide +kernel
theorem dX1_mirror_22 : decode cX1_mirror 22 = .ok (.daload, 1) := by decide +kernel
theorem dX1_mirror_23 : decode cX1_mirror 23 = .ok (.dneg, 1) := by decide +kernel
theorem dX1_mirror_24 : decode cX1_mirror 24 = .ok (.dastore, 1) := by decide +kernel
theorem dX1_mirror_25 : decode cX1_mirror 25 = .ok (.return_, 1) := by decide +kernel
theorem dX1_move_0 : decode cX1_move 0 = .ok (.iconst 0, 1) := by decide +kernel
theorem dX1_move_1 : decode cX1_move 1 = .ok (.istore 4, 2) := by decide +kernel
theorem dX1_move_3 : decode cX1_move 3 = .ok (.iload 4, 2) := by decide +kernel
theorem dX1_move_5 : decode cX1_move 5 = .ok (.aload_n 0, 1) := by decide +kernel
theorem dX1_move_6 : decode cX1_move 6 = .ok (.getfield 18, 3) := by decide +kernel
theorem dX1_move_9 : decode cX1_move 9 = .ok (.if_icmp .ge 83, 3) := by decide +kernel
theorem dX1_move_12 : decode cX1_move 12 = .ok (.iconst 2, 1) := by decide +kernel
theorem dX1_move_13 : decode cX1_move 13 = .ok (.iload 4, 2) := by decide +kernel
theorem dX1_move_15 : decode cX1_move 15 = .ok (.iadd, 1) := by decide +kernel
theorem dX1_move_16 : decode cX1_move 16 = .ok (.istore 5, 2) := by decide +kernel
theorem dX1_move_18 : decode cX1_move 18 = .ok (.aload_n 0, 1) := by decide +kernel
theorem dX1_move_19 : decode cX1_move 19 = .ok (.getfield 9, 3) := by decide +kernel
theorem dX1_move_22 : decode cX1_move 22 = .ok (.iload 5, 2) := by decide +kernel
theorem dX1_move_24 : decode cX1_move 24 = .ok (.aload_n 0, 1) := by decide +kernel
theorem dX1_move_25 : decode cX1_move 25 = .ok (.getfield 9, 3) := by decide +kernel
theorem dX1_move_28 : decode cX1_move 28 = .ok (.iload 5, 2) := by decide +kernel
theorem dX1_move_30 : decode cX1_move 30 = .ok (.daload, 1) := by decide +kernel
theorem dX1_move_31 : decode cX1_move 31 = .ok (.dload_n 1, 1) := by decide +kernel
theorem dX1_move_32 : decode cX1_move 32 = .ok (.aload_n 3, 1) := by decide +kernel
theorem dX1_move_33 : decode cX1_move 33 = .ok (.getfield 35, 3) := by decide +kernel
theorem dX1_move_36 : decode cX1_move 36 = .ok (.iload 4, 2) := by decide +kernel
theorem dX1_move_38 : decode cX1_move 38 = .ok (.iconst 1, 1) := by decide +kernel
theorem dX1_move_39 : decode cX1_move 39 = .ok (.iadd, 1) := by decide +kernel
theorem dX1_move_40 : decode cX1_move 40 = .ok (.daload, 1) := by decide +kernel
theorem dX1_move_41 : decode cX1_move 41 = .ok (.aload_n 3, 1) := by decide +kernel
theorem dX1_move_42 : decode cX1_move 42 = .ok (.getfield 35, 3) := by decide +kernel
theorem dX1_move_45 : decode cX1_move 45 = .ok (.iload 4, 2) := by decide +kernel
theorem dX1_move_47 : decode cX1_move 47 = .ok (.daload, 1) := by decide +kernel
theorem dX1_move_48 : decode cX1_move 48 = .ok (.dsub, 1) := by decide +kernel
theorem dX1_move_49 : decode cX1_move 49 = .ok (.dmul, 1) := by decide +kernel
theorem dX1_move_50 : decode cX1_move 50 = .ok (.dsub, 1) := by decide +kernel
theorem dX1_move_51 : decode cX1_move 51 = .ok (.dastore, 1) := by decide +kernel
theorem dX1_move_52 : decode cX1_move 52 = .ok (.aload_n 0, 1) := by decide +kernel
theorem dX1_move_53 : decode cX1_move 53 = .ok (.getfield 15, 3) := by decide +kernel
theorem dX1_move_56 : decode cX1_move 56 = .ok (.iload 5, 2) := by decide +kernel
theorem dX1_move_58 : decode cX1_move 58 = .ok (.aload_n 0, 1) := by decide +kernel
theorem dX1_move_59 : decode cX1_move 59 = .ok (.getfield 15, 3) := by decide +kernel
theorem dX1_move_62 : decode cX1_move 62 = .ok (.iload 5, 2) := by decide +kernel
theorem dX1_move_64 : decode cX1_move 64 = .ok (.daload, 1) := by decide +kernel
theorem dX1_move_65 : decode cX1_move 65 = .ok (.dload_n 1, 1) := by decide +kernel
theorem dX1_move_66 : decode cX1_move 66 = .ok (.aload_n 3, 1) := by decide +kernel
theorem dX1_move_67 : decode cX1_move 67 = .ok (.getfield 40, 3) := by decide +kernel
theorem dX1_move_70 : decode cX1_move 70 = .ok (.iload 4, 2) := by decide +kernel
theorem dX1_move_72 : decode cX1_move 72 = .ok (.iconst 1, 1) := by decide +kernel
theorem dX1_move_73 : decode cX1_move 73 = .ok (.iadd, 1) := by decide +kernel
theorem dX1_move_74 : decode cX1_move 74 = .ok (.daload, 1) := by decide +kernel
theorem dX1_move_75 : decode cX1_move 75 = .ok (.aload_n 3, 1) := by decide +kernel
theorem dX1_move_76 : decode cX1_move 76 = .ok (.getfield 40, 3) := by decide +kernel
theorem dX1_move_79 : decode cX1_move 79 = .ok (.iload 4, 2) := by decide +kernel
theorem dX1_move_81 : decode cX1_move 81 = .ok (.daload, 1) := by decide +kernel
theorem dX1_move_82 : decode cX1_move 82 = .ok (.dsub, 1) := by decide +kernel
theorem dX1_move_83 : decode cX1_move 83 = .ok (.dmul, 1) := by decide +kernel
theorem dX1_move_84 : decode cX1_move 84 = .ok (.dsub, 1) := by decide +kernel
theorem dX1_move_85 : decode cX1_move 85 = .ok (.dastore, 1) := by decide +kernel
theorem dX1_move_86 : decode cX1_move 86 = .ok (.iinc 4 1, 3) := by decide +kernel
theorem dX1_move_89 : decode cX1_move 89 = .ok (.goto (-86), 3) := by decide +kernel
theorem dX1_move_92 : decode cX1_move 92 = .ok (.return_, 1) := by decide +kernel
theorem dX1_hasFailed_0 : decode cX1_hasFailed 0 = .ok (.iconst 2, 1) := by decide +kernel
theorem dX1_hasFailed_1 : decode cX1_hasFailed 1 = .ok (.istore_n 1, 1) := by decide +kernel
theorem dX1_hasFailed_2 : decode cX1_hasFailed 2 = .ok (.iload_n 1, 1) := by decide +kernel
theorem dX1_hasFailed_3 : decode cX1_hasFailed 3 = .ok (.iconst 2, 1) := by decide +kernel
theorem dX1_hasFailed_4 : decode cX1_hasFailed 4 = .ok (.aload_n 0, 1) := by decide +kernel
theorem dX1_hasFailed_5 : decode cX1_hasFailed 5 = .ok (.getfield 18, 3) := by decide +kernel
theorem dX1_hasFailed_8 : decode cX1_hasFailed 8 = .ok (.iadd, 1) := by decide +kernel
theorem dX1_hasFailed_9 : decode cX1_hasFailed 9 = .ok (.if_icmp .ge 50, 3) := by decide +kernel
theorem dX1_hasFailed_12 : decode cX1_hasFailed 12 = .ok (.aload_n 0, 1) := by decide +kernel
theorem dX1_hasFailed_13 : decode cX1_hasFailed 13 = .ok (.getfield 9, 3) := by decide +kernel
theorem dX1_hasFailed_16 : decode cX1_hasFailed 16 = .ok (.iload_n 1, 1) := by decide +kernel
theorem dX1_hasFailed_17 : decode cX1_hasFailed 17 = .ok (.daload, 1) := by decide +kernel
theorem dX1_hasFailed_18 : decode cX1_hasFailed 18 = .ok (.ldc2_w 43, 3) := by decide +kernel
theorem dX1_hasFailed_21 : decode cX1_hasFailed 21 = .ok (.dcmp .g, 1) := by decide +kernel
theorem dX1_hasFailed_22 : decode cX1_hasFailed 22 = .ok (.ifCond .lt 29, 3) := by decide +kernel
theorem dX1_hasFailed_25 : decode cX1_hasFailed 25 = .ok (.aload_n 0, 1) := by decide +kernel
theorem dX1_hasFailed_26 : decode cX1_hasFailed 26 = .ok (.getfield 15, 3) := by decide +kernel
theorem dX1_hasFailed_29 : decode cX1_hasFailed 29 = .ok (.iload_n 1, 1) := by decide +kernel
theorem dX1_hasFailed_30 : decode cX1_hasFailed 30 = .ok (.daload, 1) := by decide +kernel
theorem dX1_hasFailed_31 : decode cX1_hasFailed 31 = .ok (.ldc2_w 45, 3) := by decide +kernel
theorem dX1_hasFailed_34 : decode cX1_hasFailed 34 = .ok (.dcmp .l, 1) := by decide +kernel
theorem dX1_hasFailed_35 : decode cX1_hasFailed 35 = .ok (.ifCond .gt 16, 3) := by decide +kernel
theorem dX1_hasFailed_38 : decode cX1_hasFailed 38 = .ok (.aload_n 0, 1) := by decide +kernel
theorem dX1_hasFailed_39 : decode cX1_hasFailed 39 = .ok (.getfield 15, 3) := by decide +kernel
theorem dX1_hasFailed_42 : decode cX1_hasFailed 42 = .ok (.iload_n 1, 1) := by decide +kernel
theorem dX1_hasFailed_43 : decode cX1_hasFailed 43 = .ok (.daload, 1) := by decide +kernel
theorem dX1_hasFailed_44 : decode cX1_hasFailed 44 = .ok (.ldc2_w 47, 3) := by decide +kernel
theorem dX1_hasFailed_47 : decode cX1_hasFailed 47 = .ok (.dcmp .g, 1) := by decide +kernel
theorem dX1_hasFailed_48 : decode cX1_hasFailed 48 = .ok (.ifCond .ge 5, 3) := by decide +kernel
theorem dX1_hasFailed_51 : decode cX1_hasFailed 51 = .ok (.iconst 1, 1) := by decide +kernel
theorem dX1_hasFailed_52 : decode cX1_hasFailed 52 = .ok (.ireturn, 1) := by decide +kernel
theorem dX1_hasFailed_53 : decode cX1_hasFailed 53 = .ok (.iinc 1 1, 3) := by decide +kernel
theorem dX1_hasFailed_56 : decode cX1_hasFailed 56 = .ok (.goto (-54), 3) := by decide +kernel
theorem dX1_hasFailed_59 : decode cX1_hasFailed 59 = .ok (.iconst 0, 1) := by decide +kernel
theorem dX1_hasFailed_60 : decode cX1_hasFailed 60 = .ok (.ireturn, 1) := by decide +kernel
theorem dX1_meet_0 : decode cX1_meet 0 = .ok (.iconst 2, 1) := by decide +kernel
theorem dX1_meet_1 : decode cX1_meet 1 = .ok (.istore_n 2, 1) := by decide +kernel
theorem dX1_meet_2 : decode cX1_meet 2 = .ok (.iload_n 2, 1) := by decide +kernel
theorem dX1_meet_3 : decode cX1_meet 3 = .ok (.iconst 2, 1) := by decide +kernel
theorem dX1_meet_4 : decode cX1_meet 4 = .ok (.aload_n 0, 1) := by decide +kernel
theorem dX1_meet_5 : decode cX1_meet 5 = .ok (.getfield 18, 3) := by decide +kernel
theorem dX1_meet_8 : decode cX1_meet 8 = .ok (.iadd, 1) := by decide +kernel
theorem dX1_meet_9 : decode cX1_meet 9 = .ok (.if_icmp .ge 55, 3) := by decide +kernel
theorem dX1_meet_12 : decode cX1_meet 12 = .ok (.aload_n 0, 1) := by decide +kernel
theorem dX1_meet_13 : decode cX1_meet 13 = .ok (.getfield 9, 3) := by decide +kernel
theorem dX1_meet_16 : decode cX1_meet 16 = .ok (.iload_n 2, 1) := by decide +kernel
theorem dX1_meet_17 : decode cX1_meet 17 = .ok (.ldc2_w 49, 3) := by decide +kernel
theorem dX1_meet_20 : decode cX1_meet 20 = .ok (.aload_n 1, 1) := by decide +kernel
theorem dX1_meet_21 : decode cX1_meet 21 = .ok (.getfield 9, 3) := by decide +kernel
theorem dX1_meet_24 : decode cX1_meet 24 = .ok (.iload_n 2, 1) := by decide +kernel
theorem dX1_meet_25 : decode cX1_meet 25 = .ok (.daload, 1) := by decide +kernel
theorem dX1_meet_26 : decode cX1_meet 26 = .ok (.aload_n 0, 1) := by decide +kernel
theorem dX1_meet_27 : decode cX1_meet 27 = .ok (.getfield 9, 3) := by decide +kernel
theorem dX1_meet_30 : decode cX1_meet 30 = .ok (.iload_n 2, 1) := by decide +kernel
theorem dX1_meet_31 : decode cX1_meet 31 = .ok (.daload, 1) := by decide +kernel
theorem dX1_meet_32 : decode cX1_meet 32 = .ok (.dadd, 1) := by decide +kernel
theorem dX1_meet_33 : decode cX1_meet 33 = .ok (.dmul, 1) := by decide +kernel
theorem dX1_meet_34 : decode cX1_meet 34 = .ok (.dastore, 1) := by decide +kernel
theorem dX1_meet_35 : decode cX1_meet 35 = .ok (.aload_n 0, 1) := by decide +kernel
theorem dX1_meet_36 : decode cX1_meet 36 = .ok (.getfield 15, 3) := by decide +kernel
theorem dX1_meet_39 : decode cX1_meet 39 = .ok (.iload_n 2, 1) := by decide +kernel
theorem dX1_meet_40 : decode cX1_meet 40 = .ok (.ldc2_w 49, 3) := by decide +kernel
theorem dX1_meet_43 : decode cX1_meet 43 = .ok (.aload_n 1, 1) := by decide +kernel
theorem dX1_meet_44 : decode cX1_meet 44 = .ok (.getfield 15, 3) := by decide +kernel
theorem dX1_meet_47 : decode cX1_meet 47 = .ok (.iload_n 2, 1) := by decide +kernel
theorem dX1_meet_48 : decode cX1_meet 48 = .ok (.daload, 1) := by decide +kernel
theorem dX1_meet_49 : decode cX1_meet 49 = .ok (.aload_n 0, 1) := by decide +kernel
theorem dX1_meet_50 : decode cX1_meet 50 = .ok (.getfield 15, 3) := by decide +kernel
theorem dX1_meet_53 : decode cX1_meet 53 = .ok (.iload_n 2, 1) := by decide +kernel
theorem dX1_meet_54 : decode cX1_meet 54 = .ok (.daload, 1) := by decide +kernel
theorem dX1_meet_55 : decode cX1_meet 55 = .ok (.dadd, 1) := by decide +kernel
theorem dX1_meet_56 : decode cX1_meet 56 = .ok (.dmul, 1) := by decide +kernel
theorem dX1_meet_57 : decode cX1_meet 57 = .ok (.dastore, 1) := by decide +kernel
theorem dX1_meet_58 : decode cX1_meet 58 = .ok (.iinc 2 1, 3) := by decide +kernel
theorem dX1_meet_61 : decode cX1_meet 61 = .ok (.goto (-59), 3) := by decide +kernel
theorem dX1_meet_64 : decode cX1_meet 64 = .ok (.return_, 1) := by decide +kernel
set_option maxRecDepth 20000 in
theorem ggX1_longestTime_X3_speedOf : GoodIn wsX1_longestTime wsX3_speedOf := goodIn_r _ [7] (by decide +kernel) (by decide +kernel)
set_option maxRecDepth 20000 in
theorem gX1_longestTime_X3_speedOf_n51 : GoodIn wsX1_longestTime (wsX3_speedOf) := ggX1_longestTime_X3_speedOf
set_option maxRecDepth 20000 in
theorem ggX1_longestTime_X3_absolute : GoodIn wsX1_longestTime wsX3_absolute := goodIn_r _ [9] (by decide +kernel) (by decide +kernel)
set_option maxRecDepth 20000 in
theorem gX1_longestTime_X3_absolute_n55 : GoodIn wsX1_longestTime (wsX3_absolute) := ggX1_longestTime_X3_absolute
set_option maxRecDepth 20000 in
theorem ggX1_longestTime_X3_root : GoodIn wsX1_longestTime wsX3_root := goodIn_r _ [11, 12] (by decide +kernel) (by decide +kernel)
set_option maxRecDepth 20000 in
theorem gX1_longestTime_X3_root_n59 : GoodIn wsX1_longestTime (wsX3_root) := ggX1_longestTime_X3_root
set_option maxRecDepth 20000 in
theorem ggX1_longestTime_X3_greater : GoodIn wsX1_longestTime wsX3_greater := goodIn_r _ [14] (by decide +kernel) (by decide +kernel)
set_option maxRecDepth 20000 in
theorem gX1_longestTime_X3_greater_n62 : GoodIn wsX1_longestTime (wsX3_greater) := ggX1_longestTime_X3_greater
set_option maxRecDepth 20000 in
theorem ggX1_longestTime_X3_lesser : GoodIn wsX1_longestTime wsX3_lesser := goodIn_r _ [16] (by decide +kernel) (by decide +kernel)
set_option maxRecDepth 20000 in
theorem gX1_longestTime_X3_lesser_n67 : GoodIn wsX1_longestTime (wsX3_lesser) := ggX1_longestTime_X3_lesser
theorem dX1_longestTime_0 : decode cX1_longestTime 0 = .ok (.dconst 0, 1) := by decide +kernel
theorem dX1_longestTime_1 : decode cX1_longestTime 1 = .ok (.dstore_n 3, 1) := by decide +kernel
theorem dX1_longestTime_2 : decode cX1_longestTime 2 = .ok (.iconst 2, 1) := by decide +kernel
theorem dX1_longestTime_3 : decode cX1_longestTime 3 = .ok (.istore 5, 2) := by decide +kernel
theorem dX1_longestTime_5 : decode cX1_longestTime 5 = .ok (.iload 5, 2) := by decide +kernel
theorem dX1_longestTime_7 : decode cX1_longestTime 7 = .ok (.iconst 2, 1) := by decide +kernel
theorem dX1_longestTime_8 : decode cX1_longestTime 8 = .ok (.aload_n 0, 1) := by decide +kernel
theorem dX1_longestTime_9 : decode cX1_longestTime 9 = .ok (.getfield 18, 3) := by decide +kernel
theorem dX1_longestTime_12 : decode cX1_longestTime 12 = .ok (.iadd, 1) := by decide +kernel
theorem dX1_longestTime_13 : decode cX1_longestTime 13 = .ok (.if_icmp .ge 44, 3) := by decide +kernel
theorem dX1_longestTime_16 : decode cX1_longestTime 16 = .ok (.aload_n 0, 1) := by decide +kernel
theorem dX1_longestTime_17 : decode cX1_longestTime 17 = .ok (.getfield 9, 3) := by decide +kernel
theorem dX1_longestTime_20 : decode cX1_longestTime 20 = .ok (.iload 5, 2) := by decide +kernel
theorem dX1_longestTime_22 : decode cX1_longestTime 22 = .ok (.daload, 1) := by decide +kernel
theorem dX1_longestTime_23 : decode cX1_longestTime 23 = .ok (.dstore 6, 2) := by decide +kernel
theorem dX1_longestTime_25 : decode cX1_longestTime 25 = .ok (.dload_n 3, 1) := by decide +kernel
theorem dX1_longestTime_26 : decode cX1_longestTime 26 = .ok (.dload 6, 2) := by decide +kernel
theorem dX1_longestTime_28 : decode cX1_longestTime 28 = .ok (.aload_n 0, 1) := by decide +kernel
theorem dX1_longestTime_29 : decode cX1_longestTime 29 = .ok (.getfield 15, 3) := by decide +kernel
theorem dX1_longestTime_32 : decode cX1_longestTime 32 = .ok (.iload 5, 2) := by decide +kernel
theorem dX1_longestTime_34 : decode cX1_longestTime 34 = .ok (.daload, 1) := by decide +kernel
theorem dX1_longestTime_35 : decode cX1_longestTime 35 = .ok (.invokestatic 51, 3) := by decide +kernel
theorem dX1_longestTime_38 : decode cX1_longestTime 38 = .ok (.invokestatic 55, 3) := by decide +kernel
theorem dX1_longestTime_41 : decode cX1_longestTime 41 = .ok (.dload 6, 2) := by decide +kernel
theorem dX1_longestTime_43 : decode cX1_longestTime 43 = .ok (.invokestatic 59, 3) := by decide +kernel
theorem dX1_longestTime_46 : decode cX1_longestTime 46 = .ok (.dadd, 1) := by decide +kernel
theorem dX1_longestTime_47 : decode cX1_longestTime 47 = .ok (.invokestatic 62, 3) := by decide +kernel
theorem dX1_longestTime_50 : decode cX1_longestTime 50 = .ok (.dstore_n 3, 1) := by decide +kernel
theorem dX1_longestTime_51 : decode cX1_longestTime 51 = .ok (.iinc 5 1, 3) := by decide +kernel
theorem dX1_longestTime_54 : decode cX1_longestTime 54 = .ok (.goto (-49), 3) := by decide +kernel
theorem dX1_longestTime_57 : decode cX1_longestTime 57 = .ok (.dload_n 3, 1) := by decide +kernel
theorem dX1_longestTime_58 : decode cX1_longestTime 58 = .ok (.dconst 0, 1) := by decide +kernel
theorem dX1_longestTime_59 : decode cX1_longestTime 59 = .ok (.dcmp .l, 1) := by decide +kernel
theorem dX1_longestTime_60 : decode cX1_longestTime 60 = .ok (.ifCond .le 15, 3) := by decide +kernel
theorem dX1_longestTime_63 : decode cX1_longestTime 63 = .ok (.dload_n 1, 1) := by decide +kernel
theorem dX1_longestTime_64 : decode cX1_longestTime 64 = .ok (.ldc2_w 65, 3) := by decide +kernel
theorem dX1_longestTime_67 : decode cX1_longestTime 67 = .ok (.dload_n 3, 1) := by decide +kernel
theorem dX1_longestTime_68 : decode cX1_longestTime 68 = .ok (.ddiv, 1) := by decide +kernel
theorem dX1_longestTime_69 : decode cX1_longestTime 69 = .ok (.invokestatic 67, 3) := by decide +kernel
theorem dX1_longestTime_72 : decode cX1_longestTime 72 = .ok (.goto 4, 3) := by decide +kernel
theorem dX1_longestTime_75 : decode cX1_longestTime 75 = .ok (.dload_n 1, 1) := by decide +kernel
theorem dX1_longestTime_76 : decode cX1_longestTime 76 = .ok (.dreturn, 1) := by decide +kernel
theorem dX1_total_0 : decode cX1_total 0 = .ok (.dconst 0, 1) := by decide +kernel
theorem dX1_total_1 : decode cX1_total 1 = .ok (.dstore_n 2, 1) := by decide +kernel
theorem dX1_total_2 : decode cX1_total 2 = .ok (.dconst 0, 1) := by decide +kernel
theorem dX1_total_3 : decode cX1_total 3 = .ok (.dstore 4, 2) := by decide +kernel
theorem dX1_total_5 : decode cX1_total 5 = .ok (.iconst 2, 1) := by decide +kernel
theorem dX1_total_6 : decode cX1_total 6 = .ok (.istore 6, 2) := by decide +kernel
theorem dX1_total_8 : decode cX1_total 8 = .ok (.iload 6, 2) := by decide +kernel
theorem dX1_total_10 : decode cX1_total 10 = .ok (.iconst 2, 1) := by decide +kernel
theorem dX1_total_11 : decode cX1_total 11 = .ok (.aload_n 0, 1) := by decide +kernel
theorem dX1_total_12 : decode cX1_total 12 = .ok (.getfield 18, 3) := by decide +kernel
theorem dX1_total_15 : decode cX1_total 15 = .ok (.iadd, 1) := by decide +kernel
theorem dX1_total_16 : decode cX1_total 16 = .ok (.if_icmp .ge 36, 3) := by decide +kernel
theorem dX1_total_19 : decode cX1_total 19 = .ok (.aload_n 1, 1) := by decide +kernel
theorem dX1_total_20 : decode cX1_total 20 = .ok (.iload 6, 2) := by decide +kernel
theorem dX1_total_22 : decode cX1_total 22 = .ok (.daload, 1) := by decide +kernel
theorem dX1_total_23 : decode cX1_total 23 = .ok (.dload 4, 2) := by decide +kernel
theorem dX1_total_25 : decode cX1_total 25 = .ok (.dsub, 1) := by decide +kernel
theorem dX1_total_26 : decode cX1_total 26 = .ok (.dstore 7, 2) := by decide +kernel
theorem dX1_total_28 : decode cX1_total 28 = .ok (.dload_n 2, 1) := by decide +kernel
theorem dX1_total_29 : decode cX1_total 29 = .ok (.dload 7, 2) := by decide +kernel
theorem dX1_total_31 : decode cX1_total 31 = .ok (.dadd, 1) := by decide +kernel
theorem dX1_total_32 : decode cX1_total 32 = .ok (.dstore 9, 2) := by decide +kernel
theorem dX1_total_34 : decode cX1_total 34 = .ok (.dload 9, 2) := by decide +kernel
theorem dX1_total_36 : decode cX1_total 36 = .ok (.dload_n 2, 1) := by decide +kernel
theorem dX1_total_37 : decode cX1_total 37 = .ok (.dsub, 1) := by decide +kernel
theorem dX1_total_38 : decode cX1_total 38 = .ok (.dload 7, 2) := by decide +kernel
theorem dX1_total_40 : decode cX1_total 40 = .ok (.dsub, 1) := by decide +kernel
theorem dX1_total_41 : decode cX1_total 41 = .ok (.dstore 4, 2) := by decide +kernel
theorem dX1_total_43 : decode cX1_total 43 = .ok (.dload 9, 2) := by decide +kernel
theorem dX1_total_45 : decode cX1_total 45 = .ok (.dstore_n 2, 1) := by decide +kernel
theorem dX1_total_46 : decode cX1_total 46 = .ok (.iinc 6 1, 3) := by decide +kernel
theorem dX1_total_49 : decode cX1_total 49 = .ok (.goto (-41), 3) := by decide +kernel
theorem dX1_total_52 : decode cX1_total 52 = .ok (.dload_n 2, 1) := by decide +kernel
theorem dX1_total_53 : decode cX1_total 53 = .ok (.dreturn, 1) := by decide +kernel
theorem dX2_init_0 : decode cX2_init 0 = .ok (.aload_n 0, 1) := by decide +kernel
theorem dX2_init_1 : decode cX2_init 1 = .ok (.invokespecial 1, 3) := by decide +kernel
theorem dX2_init_4 : decode cX2_init 4 = .ok (.aload_n 0, 1) := by decide +kernel
theorem dX2_init_5 : decode cX2_init 5 = .ok (.dconst 1, 1) := by decide +kernel
theorem dX2_init_6 : decode cX2_init 6 = .ok (.putfield 7, 3) := by decide +kernel
theorem dX2_init_9 : decode cX2_init 9 = .ok (.aload_n 0, 1) := by decide +kernel
theorem dX2_init_10 : decode cX2_init 10 = .ok (.dconst 0, 1) := by decide +kernel
theorem dX2_init_11 : decode cX2_init 11 = .ok (.putfield 13, 3) := by decide +kernel
theorem dX2_init_14 : decode cX2_init 14 = .ok (.aload_n 0, 1) := by decide +kernel
theorem dX2_init_15 : decode cX2_init 15 = .ok (.dconst 0, 1) := by decide +kernel
theorem dX2_init_16 : decode cX2_init 16 = .ok (.putfield 16, 3) := by decide +kernel
theorem dX2_init_19 : decode cX2_init 19 = .ok (.aload_n 0, 1) := by decide +kernel
theorem dX2_init_20 : decode cX2_init 20 = .ok (.dconst 1, 1) := by decide +kernel
theorem dX2_init_21 : decode cX2_init 21 = .ok (.putfield 19, 3) := by decide +kernel
theorem dX2_init_24 : decode cX2_init 24 = .ok (.return_, 1) := by decide +kernel
set_option maxRecDepth 20000 in
theorem ggX2_become_X3_speedOf : GoodIn wsX2_become wsX3_speedOf := goodIn_r _ [7] (by decide +kernel) (by decide +kernel)
set_option maxRecDepth 20000 in
theorem gX2_become_X3_speedOf_n22 : GoodIn wsX2_become (wsX3_speedOf) := ggX2_become_X3_speedOf
set_option maxRecDepth 20000 in
theorem ggX2_become_X3_root : GoodIn wsX2_become wsX3_root := goodIn_r _ [9, 10] (by decide +kernel) (by decide +kernel)
set_option maxRecDepth 20000 in
theorem gX2_become_X3_root_n28 : GoodIn wsX2_become (wsX3_root) := ggX2_become_X3_root
theorem dX2_become_0 : decode cX2_become 0 = .ok (.aload_n 0, 1) := by decide +kernel
theorem dX2_become_1 : decode cX2_become 1 = .ok (.dload_n 1, 1) := by decide +kernel
theorem dX2_become_2 : decode cX2_become 2 = .ok (.putfield 7, 3) := by decide +kernel
theorem dX2_become_5 : decode cX2_become 5 = .ok (.aload_n 0, 1) := by decide +kernel
theorem dX2_become_6 : decode cX2_become 6 = .ok (.dload_n 3, 1) := by decide +kernel
theorem dX2_become_7 : decode cX2_become 7 = .ok (.putfield 13, 3) := by decide +kernel
theorem dX2_become_10 : decode cX2_become 10 = .ok (.aload_n 0, 1) := by decide +kernel
theorem dX2_become_11 : decode cX2_become 11 = .ok (.dload_n 1, 1) := by decide +kernel
theorem dX2_become_12 : decode cX2_become 12 = .ok (.dload_n 3, 1) := by decide +kernel
theorem dX2_become_13 : decode cX2_become 13 = .ok (.invokestatic 22, 3) := by decide +kernel
theorem dX2_become_16 : decode cX2_become 16 = .ok (.putfield 16, 3) := by decide +kernel
theorem dX2_become_19 : decode cX2_become 19 = .ok (.aload_n 0, 1) := by decide +kernel
theorem dX2_become_20 : decode cX2_become 20 = .ok (.dload_n 1, 1) := by decide +kernel
theorem dX2_become_21 : decode cX2_become 21 = .ok (.invokestatic 28, 3) := by decide +kernel
theorem dX2_become_24 : decode cX2_become 24 = .ok (.putfield 19, 3) := by decide +kernel
theorem dX2_become_27 : decode cX2_become 27 = .ok (.return_, 1) := by decide +kernel
set_option maxRecDepth 20000 in
theorem ggX2_reach_X3_absolute : GoodIn wsX2_reach wsX3_absolute := goodIn_r _ [5] (by decide +kernel) (by decide +kernel)
set_option maxRecDepth 20000 in
theorem gX2_reach_X3_absolute_n32 : GoodIn wsX2_reach (wsX3_absolute) := ggX2_reach_X3_absolute
theorem dX2_reach_0 : decode cX2_reach 0 = .ok (.aload_n 0, 1) := by decide +kernel
theorem dX2_reach_1 : decode cX2_reach 1 = .ok (.getfield 16, 3) := by decide +kernel
theorem dX2_reach_4 : decode cX2_reach 4 = .ok (.invokestatic 32, 3) := by decide +kernel
theorem dX2_reach_7 : decode cX2_reach 7 = .ok (.aload_n 0, 1) := by decide +kernel
theorem dX2_reach_8 : decode cX2_reach 8 = .ok (.getfield 19, 3) := by decide +kernel
theorem dX2_reach_11 : decode cX2_reach 11 = .ok (.dadd, 1) := by decide +kernel
theorem dX2_reach_12 : decode cX2_reach 12 = .ok (.dreturn, 1) := by decide +kernel
theorem dX2_depthFlux_0 : decode cX2_depthFlux 0 = .ok (.aload_n 0, 1) := by decide +kernel
theorem dX2_depthFlux_1 : decode cX2_depthFlux 1 = .ok (.getfield 13, 3) := by decide +kernel
theorem dX2_depthFlux_4 : decode cX2_depthFlux 4 = .ok (.dreturn, 1) := by decide +kernel
theorem dX2_momentumFlux_0 : decode cX2_momentumFlux 0 = .ok (.aload_n 0, 1) := by decide +kernel
theorem dX2_momentumFlux_1 : decode cX2_momentumFlux 1 = .ok (.getfield 13, 3) := by decide +kernel
theorem dX2_momentumFlux_4 : decode cX2_momentumFlux 4 = .ok (.aload_n 0, 1) := by decide +kernel
theorem dX2_momentumFlux_5 : decode cX2_momentumFlux 5 = .ok (.getfield 16, 3) := by decide +kernel
theorem dX2_momentumFlux_8 : decode cX2_momentumFlux 8 = .ok (.dmul, 1) := by decide +kernel
theorem dX2_momentumFlux_9 : decode cX2_momentumFlux 9 = .ok (.ldc2_w 35, 3) := by decide +kernel
theorem dX2_momentumFlux_12 : decode cX2_momentumFlux 12 = .ok (.aload_n 0, 1) := by decide +kernel
theorem dX2_momentumFlux_13 : decode cX2_momentumFlux 13 = .ok (.getfield 7, 3) := by decide +kernel
theorem dX2_momentumFlux_16 : decode cX2_momentumFlux 16 = .ok (.dmul, 1) := by decide +kernel
theorem dX2_momentumFlux_17 : decode cX2_momentumFlux 17 = .ok (.aload_n 0, 1) := by decide +kernel
theorem dX2_momentumFlux_18 : decode cX2_momentumFlux 18 = .ok (.getfield 7, 3) := by decide +kernel
theorem dX2_momentumFlux_21 : decode cX2_momentumFlux 21 = .ok (.dmul, 1) := by decide +kernel
theorem dX2_momentumFlux_22 : decode cX2_momentumFlux 22 = .ok (.dadd, 1) := by decide +kernel
theorem dX2_momentumFlux_23 : decode cX2_momentumFlux 23 = .ok (.dreturn, 1) := by decide +kernel
set_option maxRecDepth 20000 in
theorem ggX3_init_X1_init : GoodIn wsX3_init wsX1_init := goodIn_r _ [22, 23, 2, 3, 24, 25, 26, 27, 51, 52, 53] (by decide +kernel) (by decide +kernel)
set_option maxRecDepth 20000 in
theorem gX3_init_X1_init_n11 : GoodIn wsX3_init (wsX1_init) := ggX3_init_X1_init
set_option maxRecDepth 20000 in
theorem ggX3_init_X0_init : GoodIn wsX3_init wsX0_init := goodIn_r _ [29, 30, 2, 3, 24, 31, 32, 33, 34, 35, 36, 37, 38, 39, 40, 41, 42, 43, 44, 45, 46, 65, 66, 67, 68, 69, 70, 71, 72, 73, 74] (by decide +kernel) (by decide +kernel)
set_option maxRecDepth 20000 in
theorem gX3_init_X0_init_n21 : GoodIn wsX3_init (wsX0_init) := ggX3_init_X0_init
set_option maxRecDepth 20000 in
theorem ggX3_init_X1_level : GoodIn wsX3_init wsX1_level := goodIn_r _ [50, 27, 25, 26, 51, 52, 53] (by decide +kernel) (by decide +kernel)
set_option maxRecDepth 20000 in
theorem gX3_init_X1_level : GoodIn wsX3_init (wsV RX3 52 RX1 yX1_level wsX1_level) := goodIn_app (goodIn_of _ (by decide +kernel)) ggX3_init_X1_level
theorem dX3_init_0 : decode cX3_init 0 = .ok (.aload_n 0, 1) := by decide +kernel
theorem dX3_init_1 : decode cX3_init 1 = .ok (.invokespecial 3, 3) := by decide +kernel
theorem dX3_init_4 : decode cX3_init 4 = .ok (.aload_n 0, 1) := by decide +kernel
theorem dX3_init_5 : decode cX3_init 5 = .ok (.new 9, 3) := by decide +kernel
theorem dX3_init_8 : decode cX3_init 8 = .ok (.dup, 1) := by decide +kernel
theorem dX3_init_9 : decode cX3_init 9 = .ok (.invokespecial 11, 3) := by decide +kernel
theorem dX3_init_12 : decode cX3_init 12 = .ok (.putfield 12, 3) := by decide +kernel
theorem dX3_init_15 : decode cX3_init 15 = .ok (.aload_n 0, 1) := by decide +kernel
theorem dX3_init_16 : decode cX3_init 16 = .ok (.new 9, 3) := by decide +kernel
theorem dX3_init_19 : decode cX3_init 19 = .ok (.dup, 1) := by decide +kernel
theorem dX3_init_20 : decode cX3_init 20 = .ok (.invokespecial 11, 3) := by decide +kernel
theorem dX3_init_23 : decode cX3_init 23 = .ok (.putfield 16, 3) := by decide +kernel
theorem dX3_init_26 : decode cX3_init 26 = .ok (.aload_n 0, 1) := by decide +kernel
theorem dX3_init_27 : decode cX3_init 27 = .ok (.new 19, 3) := by decide +kernel
theorem dX3_init_30 : decode cX3_init 30 = .ok (.dup, 1) := by decide +kernel
theorem dX3_init_31 : decode cX3_init 31 = .ok (.invokespecial 21, 3) := by decide +kernel
theorem dX3_init_34 : decode cX3_init 34 = .ok (.putfield 22, 3) := by decide +kernel
theorem dX3_init_37 : decode cX3_init 37 = .ok (.aload_n 0, 1) := by decide +kernel
theorem dX3_init_38 : decode cX3_init 38 = .ok (.iconst 0, 1) := by decide +kernel
theorem dX3_init_39 : decode cX3_init 39 = .ok (.putfield 26, 3) := by decide +kernel
theorem dX3_init_42 : decode cX3_init 42 = .ok (.aload_n 0, 1) := by decide +kernel
theorem dX3_init_43 : decode cX3_init 43 = .ok (.iconst 1, 1) := by decide +kernel
theorem dX3_init_44 : decode cX3_init 44 = .ok (.putfield 30, 3) := by decide +kernel
theorem dX3_init_47 : decode cX3_init 47 = .ok (.aload_n 0, 1) := by decide +kernel
theorem dX3_init_48 : decode cX3_init 48 = .ok (.iconst 0, 1) := by decide +kernel
theorem dX3_init_49 : decode cX3_init 49 = .ok (.putfield 33, 3) := by decide +kernel
theorem dX3_init_52 : decode cX3_init 52 = .ok (.aload_n 0, 1) := by decide +kernel
theorem dX3_init_53 : decode cX3_init 53 = .ok (.iconst 1, 1) := by decide +kernel
theorem dX3_init_54 : decode cX3_init 54 = .ok (.putfield 36, 3) := by decide +kernel
theorem dX3_init_57 : decode cX3_init 57 = .ok (.aload_n 0, 1) := by decide +kernel
theorem dX3_init_58 : decode cX3_init 58 = .ok (.dconst 0, 1) := by decide +kernel
theorem dX3_init_59 : decode cX3_init 59 = .ok (.putfield 39, 3) := by decide +kernel
theorem dX3_init_62 : decode cX3_init 62 = .ok (.aload_n 0, 1) := by decide +kernel
theorem dX3_init_63 : decode cX3_init 63 = .ok (.iconst 0, 1) := by decide +kernel
theorem dX3_init_64 : decode cX3_init 64 = .ok (.putfield 43, 3) := by decide +kernel
theorem dX3_init_67 : decode cX3_init 67 = .ok (.aload_n 0, 1) := by decide +kernel
theorem dX3_init_68 : decode cX3_init 68 = .ok (.iconst 0, 1) := by decide +kernel
theorem dX3_init_69 : decode cX3_init 69 = .ok (.putfield 46, 3) := by decide +kernel
theorem dX3_init_72 : decode cX3_init 72 = .ok (.aload_n 0, 1) := by decide +kernel
theorem dX3_init_73 : decode cX3_init 73 = .ok (.iconst 0, 1) := by decide +kernel
theorem dX3_init_74 : decode cX3_init 74 = .ok (.putfield 49, 3) := by decide +kernel
theorem dX3_init_77 : decode cX3_init 77 = .ok (.aload_n 0, 1) := by decide +kernel
theorem dX3_init_78 : decode cX3_init 78 = .ok (.getfield 12, 3) := by decide +kernel
theorem dX3_init_81 : decode cX3_init 81 = .ok (.bipush 8, 2) := by decide +kernel
theorem dX3_init_83 : decode cX3_init 83 = .ok (.invokevirtual 52, 3) := by decide +kernel
theorem dX3_init_86 : decode cX3_init 86 = .ok (.return_, 1) := by decide +kernel
set_option maxRecDepth 20000 in
theorem ggX3_cells_X3_isWithin : GoodIn wsX3_cells wsX3_isWithin := goodIn_r _ [8] (by decide +kernel) (by decide +kernel)
set_option maxRecDepth 20000 in
theorem gX3_cells_X3_isWithin : GoodIn wsX3_cells (va_wsS RX3 56 yX3_isWithin wsX3_isWithin) := goodIn_app (goodIn_of _ (by decide +kernel)) ggX3_cells_X3_isWithin
set_option maxRecDepth 20000 in
theorem ggX3_cells_X1_level : GoodIn wsX3_cells wsX1_level := goodIn_r _ [13, 14, 15, 16, 28, 29, 30] (by decide +kernel) (by decide +kernel)
set_option maxRecDepth 20000 in
theorem gX3_cells_X1_level : GoodIn wsX3_cells (wsV RX3 52 RX1 yX1_level wsX1_level) := goodIn_app (goodIn_of _ (by decide +kernel)) ggX3_cells_X1_level
theorem dX3_cells_0 : decode cX3_cells 0 = .ok (.iload_n 1, 1) := by decide +kernel
theorem dX3_cells_1 : decode cX3_cells 1 = .ok (.iconst 4, 1) := by decide +kernel
theorem dX3_cells_2 : decode cX3_cells 2 = .ok (.bipush 24, 2) := by decide +kernel
theorem dX3_cells_4 : decode cX3_cells 4 = .ok (.invokestatic 56, 3) := by decide +kernel
theorem dX3_cells_7 : decode cX3_cells 7 = .ok (.ifCond .ne 13, 3) := by decide +kernel
theorem dX3_cells_10 : decode cX3_cells 10 = .ok (.new 60, 3) := by decide +kernel
theorem dX3_cells_13 : decode cX3_cells 13 = .ok (.dup, 1) := by decide +kernel
theorem dX3_cells_14 : decode cX3_cells 14 = .ok (.ldc 62, 2) := by decide +kernel
theorem dX3_cells_16 : decode cX3_cells 16 = .ok (.invokespecial 64, 3) := by decide +kernel
theorem dX3_cells_19 : decode cX3_cells 19 = .ok (.athrow, 1) := by decide +kernel
theorem dX3_cells_20 : decode cX3_cells 20 = .ok (.aload_n 0, 1) := by decide +kernel
theorem dX3_cells_21 : decode cX3_cells 21 = .ok (.getfield 12, 3) := by decide +kernel
theorem dX3_cells_24 : decode cX3_cells 24 = .ok (.iload_n 1, 1) := by decide +kernel
theorem dX3_cells_25 : decode cX3_cells 25 = .ok (.invokevirtual 52, 3) := by decide +kernel
theorem dX3_cells_28 : decode cX3_cells 28 = .ok (.aload_n 0, 1) := by decide +kernel
theorem dX3_cells_29 : decode cX3_cells 29 = .ok (.dconst 0, 1) := by decide +kernel
theorem dX3_cells_30 : decode cX3_cells 30 = .ok (.putfield 39, 3) := by decide +kernel
theorem dX3_cells_33 : decode cX3_cells 33 = .ok (.return_, 1) := by decide +kernel
set_option maxRecDepth 20000 in
theorem ggX3_choose_X3_isWithin : GoodIn wsX3_choose wsX3_isWithin := goodIn_r _ [10] (by decide +kernel) (by decide +kernel)
set_option maxRecDepth 20000 in
theorem gX3_choose_X3_isWithin : GoodIn wsX3_choose (va_wsS RX3 56 yX3_isWithin wsX3_isWithin) := goodIn_app (goodIn_of _ (by decide +kernel)) ggX3_choose_X3_isWithin
theorem dX3_choose_0 : decode cX3_choose 0 = .ok (.iload_n 1, 1) := by decide +kernel
theorem dX3_choose_1 : decode cX3_choose 1 = .ok (.iconst 0, 1) := by decide +kernel
theorem dX3_choose_2 : decode cX3_choose 2 = .ok (.iconst 2, 1) := by decide +kernel
theorem dX3_choose_3 : decode cX3_choose 3 = .ok (.invokestatic 56, 3) := by decide +kernel
theorem dX3_choose_6 : decode cX3_choose 6 = .ok (.ifCond .eq 31, 3) := by decide +kernel
theorem dX3_choose_9 : decode cX3_choose 9 = .ok (.iload_n 2, 1) := by decide +kernel
theorem dX3_choose_10 : decode cX3_choose 10 = .ok (.iconst 0, 1) := by decide +kernel
theorem dX3_choose_11 : decode cX3_choose 11 = .ok (.iconst 3, 1) := by decide +kernel
theorem dX3_choose_12 : decode cX3_choose 12 = .ok (.invokestatic 56, 3) := by decide +kernel
theorem dX3_choose_15 : decode cX3_choose 15 = .ok (.ifCond .eq 22, 3) := by decide +kernel
theorem dX3_choose_18 : decode cX3_choose 18 = .ok (.iload_n 3, 1) := by decide +kernel
theorem dX3_choose_19 : decode cX3_choose 19 = .ok (.iconst 0, 1) := by decide +kernel
theorem dX3_choose_20 : decode cX3_choose 20 = .ok (.iconst 1, 1) := by decide +kernel
theorem dX3_choose_21 : decode cX3_choose 21 = .ok (.invokestatic 56, 3) := by decide +kernel
theorem dX3_choose_24 : decode cX3_choose 24 = .ok (.ifCond .eq 13, 3) := by decide +kernel
theorem dX3_choose_27 : decode cX3_choose 27 = .ok (.iload 4, 2) := by decide +kernel
theorem dX3_choose_29 : decode cX3_choose 29 = .ok (.iconst 1, 1) := by decide +kernel
theorem dX3_choose_30 : decode cX3_choose 30 = .ok (.iconst 2, 1) := by decide +kernel
theorem dX3_choose_31 : decode cX3_choose 31 = .ok (.invokestatic 56, 3) := by decide +kernel
theorem dX3_choose_34 : decode cX3_choose 34 = .ok (.ifCond .ne 13, 3) := by decide +kernel
theorem dX3_choose_37 : decode cX3_choose 37 = .ok (.new 60, 3) := by decide +kernel
theorem dX3_choose_40 : decode cX3_choose 40 = .ok (.dup, 1) := by decide +kernel
theorem dX3_choose_41 : decode cX3_choose 41 = .ok (.ldc 67, 2) := by decide +kernel
theorem dX3_choose_43 : decode cX3_choose 43 = .ok (.invokespecial 64, 3) := by decide +kernel
theorem dX3_choose_46 : decode cX3_choose 46 = .ok (.athrow, 1) := by decide +kernel
theorem dX3_choose_47 : decode cX3_choose 47 = .ok (.aload_n 0, 1) := by decide +kernel
theorem dX3_choose_48 : decode cX3_choose 48 = .ok (.iload_n 1, 1) := by decide +kernel
theorem dX3_choose_49 : decode cX3_choose 49 = .ok (.putfield 26, 3) := by decide +kernel
theorem dX3_choose_52 : decode cX3_choose 52 = .ok (.aload_n 0, 1) := by decide +kernel
theorem dX3_choose_53 : decode cX3_choose 53 = .ok (.iload_n 2, 1) := by decide +kernel
theorem dX3_choose_54 : decode cX3_choose 54 = .ok (.putfield 30, 3) := by decide +kernel
theorem dX3_choose_57 : decode cX3_choose 57 = .ok (.aload_n 0, 1) := by decide +kernel
theorem dX3_choose_58 : decode cX3_choose 58 = .ok (.iload_n 3, 1) := by decide +kernel
theorem dX3_choose_59 : decode cX3_choose 59 = .ok (.putfield 33, 3) := by decide +kernel
theorem dX3_choose_62 : decode cX3_choose 62 = .ok (.aload_n 0, 1) := by decide +kernel
theorem dX3_choose_63 : decode cX3_choose 63 = .ok (.iload 4, 2) := by decide +kernel
theorem dX3_choose_65 : decode cX3_choose 65 = .ok (.putfield 36, 3) := by decide +kernel
theorem dX3_choose_68 : decode cX3_choose 68 = .ok (.return_, 1) := by decide +kernel
set_option maxRecDepth 20000 in
theorem ggX3_put_X1_has : GoodIn wsX3_put wsX1_has := goodIn_r _ [14, 15, 27, 28, 29] (by decide +kernel) (by decide +kernel)
set_option maxRecDepth 20000 in
theorem gX3_put_X1_has : GoodIn wsX3_put (wsV RX3 69 RX1 yX1_has wsX1_has) := goodIn_app (goodIn_of _ (by decide +kernel)) ggX3_put_X1_has
theorem dX3_put_0 : decode cX3_put 0 = .ok (.aload_n 0, 1) := by decide +kernel
theorem dX3_put_1 : decode cX3_put 1 = .ok (.getfield 12, 3) := by decide +kernel
theorem dX3_put_4 : decode cX3_put 4 = .ok (.iload_n 1, 1) := by decide +kernel
theorem dX3_put_5 : decode cX3_put 5 = .ok (.invokevirtual 69, 3) := by decide +kernel
theorem dX3_put_8 : decode cX3_put 8 = .ok (.ifCond .ne 13, 3) := by decide +kernel
theorem dX3_put_11 : decode cX3_put 11 = .ok (.new 60, 3) := by decide +kernel
theorem dX3_put_14 : decode cX3_put 14 = .ok (.dup, 1) := by decide +kernel
theorem dX3_put_15 : decode cX3_put 15 = .ok (.ldc 73, 2) := by decide +kernel
theorem dX3_put_17 : decode cX3_put 17 = .ok (.invokespecial 64, 3) := by decide +kernel
theorem dX3_put_20 : decode cX3_put 20 = .ok (.athrow, 1) := by decide +kernel
theorem dX3_put_21 : decode cX3_put 21 = .ok (.dload_n 2, 1) := by decide +kernel
theorem dX3_put_22 : decode cX3_put 22 = .ok (.ldc2_w 75, 3) := by decide +kernel
theorem dX3_put_25 : decode cX3_put 25 = .ok (.dcmp .l, 1) := by decide +kernel
theorem dX3_put_26 : decode cX3_put 26 = .ok (.ifCond .lt 11, 3) := by decide +kernel
theorem dX3_put_29 : decode cX3_put 29 = .ok (.dload_n 2, 1) := by decide +kernel
theorem dX3_put_30 : decode cX3_put 30 = .ok (.ldc2_w 77, 3) := by decide +kernel
theorem dX3_put_33 : decode cX3_put 33 = .ok (.dcmp .g, 1) := by decide +kernel
theorem dX3_put_34 : decode cX3_put 34 = .ok (.ifCond .le 13, 3) := by decide +kernel
theorem dX3_put_37 : decode cX3_put 37 = .ok (.new 60, 3) := by decide +kernel
theorem dX3_put_40 : decode cX3_put 40 = .ok (.dup, 1) := by decide +kernel
theorem dX3_put_41 : decode cX3_put 41 = .ok (.ldc 79, 2) := by decide +kernel
theorem dX3_put_43 : decode cX3_put 43 = .ok (.invokespecial 64, 3) := by decide +kernel
theorem dX3_put_46 : decode cX3_put 46 = .ok (.athrow, 1) := by decide +kernel
theorem dX3_put_47 : decode cX3_put 47 = .ok (.dload 4, 2) := by decide +kernel
theorem dX3_put_49 : decode cX3_put 49 = .ok (.ldc2_w 81, 3) := by decide +kernel
theorem dX3_put_52 : decode cX3_put 52 = .ok (.dcmp .l, 1) := by decide +kernel
theorem dX3_put_53 : decode cX3_put 53 = .ok (.ifCond .lt 12, 3) := by decide +kernel
theorem dX3_put_56 : decode cX3_put 56 = .ok (.dload 4, 2) := by decide +kernel
theorem dX3_put_58 : decode cX3_put 58 = .ok (.ldc2_w 83, 3) := by decide +kernel
theorem dX3_put_61 : decode cX3_put 61 = .ok (.dcmp .g, 1) := by decide +kernel
theorem dX3_put_62 : decode cX3_put 62 = .ok (.ifCond .le 13, 3) := by decide +kernel
theorem dX3_put_65 : decode cX3_put 65 = .ok (.new 60, 3) := by decide +kernel
