theorem dX0_measure_0 : decode cX0_measure 0 = .ok (.aload_n 0, 1) := by decide +kernel
theorem dX0_measure_1 : decode cX0_measure 1 = .ok (.aload_n 1, 1) := by decide +kernel
theorem dX0_measure_2 : decode cX0_measure 2 = .ok (.iload_n 2, 1) := by decide +kernel
theorem dX0_measure_3 : decode cX0_measure 3 = .ok (.invokevirtual 34, 3) := by decide +kernel
theorem dX0_measure_6 : decode cX0_measure 6 = .ok (.iconst 0, 1) := by decide +kernel
theorem dX0_measure_7 : decode cX0_measure 7 = .ok (.istore 4, 2) := by decide +kernel
theorem dX0_measure_9 : decode cX0_measure 9 = .ok (.iload 4, 2) := by decide +kernel
theorem dX0_measure_11 : decode cX0_measure 11 = .ok (.aload_n 1, 1) := by decide +kernel
theorem dX0_measure_12 : decode cX0_measure 12 = .ok (.getfield 38, 3) := by decide +kernel
theorem dX0_measure_15 : decode cX0_measure 15 = .ok (.if_icmp .gt 36, 3) := by decide +kernel
theorem dX0_measure_18 : decode cX0_measure 18 = .ok (.aload_n 0, 1) := by decide +kernel
theorem dX0_measure_19 : decode cX0_measure 19 = .ok (.aload_n 1, 1) := by decide +kernel
theorem dX0_measure_20 : decode cX0_measure 20 = .ok (.iload 4, 2) := by decide +kernel
theorem dX0_measure_22 : decode cX0_measure 22 = .ok (.invokevirtual 44, 3) := by decide +kernel
theorem dX0_measure_25 : decode cX0_measure 25 = .ok (.iload_n 3, 1) := by decide +kernel
theorem dX0_measure_26 : decode cX0_measure 26 = .ok (.iconst 1, 1) := by decide +kernel
theorem dX0_measure_27 : decode cX0_measure 27 = .ok (.if_icmp .ne 12, 3) := by decide +kernel
theorem dX0_measure_30 : decode cX0_measure 30 = .ok (.aload_n 0, 1) := by decide +kernel
theorem dX0_measure_31 : decode cX0_measure 31 = .ok (.iload 4, 2) := by decide +kernel
theorem dX0_measure_33 : decode cX0_measure 33 = .ok (.invokevirtual 47, 3) := by decide +kernel
theorem dX0_measure_36 : decode cX0_measure 36 = .ok (.goto 9, 3) := by decide +kernel
theorem dX0_measure_39 : decode cX0_measure 39 = .ok (.aload_n 0, 1) := by decide +kernel
theorem dX0_measure_40 : decode cX0_measure 40 = .ok (.iload 4, 2) := by decide +kernel
theorem dX0_measure_42 : decode cX0_measure 42 = .ok (.invokevirtual 51, 3) := by decide +kernel
theorem dX0_measure_45 : decode cX0_measure 45 = .ok (.iinc 4 1, 3) := by decide +kernel
theorem dX0_measure_48 : decode cX0_measure 48 = .ok (.goto (-39), 3) := by decide +kernel
theorem dX0_measure_51 : decode cX0_measure 51 = .ok (.return_, 1) := by decide +kernel
set_option maxRecDepth 20000 in
theorem ggX0_fillSlopes_X0_slopeAt : GoodIn wsX0_fillSlopes wsX0_slopeAt := goodIn_r _ [12, 13, 14, 15, 11, 16, 17, 18, 19] (by decide +kernel) (by decide +kernel)
set_option maxRecDepth 20000 in
theorem gX0_fillSlopes_X0_slopeAt : GoodIn wsX0_fillSlopes (wsV RX0 57 RX0 yX0_slopeAt wsX0_slopeAt) := goodIn_app (goodIn_of _ (by decide +kernel)) ggX0_fillSlopes_X0_slopeAt
theorem dX0_fillSlopes_0 : decode cX0_fillSlopes 0 = .ok (.iconst 1, 1) := by decide +kernel
theorem dX0_fillSlopes_1 : decode cX0_fillSlopes 1 = .ok (.istore_n 3, 1) := by decide +kernel
theorem dX0_fillSlopes_2 : decode cX0_fillSlopes 2 = .ok (.iload_n 3, 1) := by decide +kernel
theorem dX0_fillSlopes_3 : decode cX0_fillSlopes 3 = .ok (.iconst 2, 1) := by decide +kernel
theorem dX0_fillSlopes_4 : decode cX0_fillSlopes 4 = .ok (.aload_n 1, 1) := by decide +kernel
theorem dX0_fillSlopes_5 : decode cX0_fillSlopes 5 = .ok (.getfield 38, 3) := by decide +kernel
theorem dX0_fillSlopes_8 : decode cX0_fillSlopes 8 = .ok (.iadd, 1) := by decide +kernel
theorem dX0_fillSlopes_9 : decode cX0_fillSlopes 9 = .ok (.if_icmp .gt 110, 3) := by decide +kernel
theorem dX0_fillSlopes_12 : decode cX0_fillSlopes 12 = .ok (.aload_n 1, 1) := by decide +kernel
theorem dX0_fillSlopes_13 : decode cX0_fillSlopes 13 = .ok (.getfield 54, 3) := by decide +kernel
theorem dX0_fillSlopes_16 : decode cX0_fillSlopes 16 = .ok (.iload_n 3, 1) := by decide +kernel
theorem dX0_fillSlopes_17 : decode cX0_fillSlopes 17 = .ok (.daload, 1) := by decide +kernel
theorem dX0_fillSlopes_18 : decode cX0_fillSlopes 18 = .ok (.dstore 4, 2) := by decide +kernel
theorem dX0_fillSlopes_20 : decode cX0_fillSlopes 20 = .ok (.aload_n 0, 1) := by decide +kernel
theorem dX0_fillSlopes_21 : decode cX0_fillSlopes 21 = .ok (.aload_n 1, 1) := by decide +kernel
theorem dX0_fillSlopes_22 : decode cX0_fillSlopes 22 = .ok (.getfield 54, 3) := by decide +kernel
theorem dX0_fillSlopes_25 : decode cX0_fillSlopes 25 = .ok (.iload_n 3, 1) := by decide +kernel
theorem dX0_fillSlopes_26 : decode cX0_fillSlopes 26 = .ok (.iload_n 2, 1) := by decide +kernel
theorem dX0_fillSlopes_27 : decode cX0_fillSlopes 27 = .ok (.invokevirtual 57, 3) := by decide +kernel
theorem dX0_fillSlopes_30 : decode cX0_fillSlopes 30 = .ok (.dstore 6, 2) := by decide +kernel
theorem dX0_fillSlopes_32 : decode cX0_fillSlopes 32 = .ok (.dload 4, 2) := by decide +kernel
theorem dX0_fillSlopes_34 : decode cX0_fillSlopes 34 = .ok (.ldc2_w 61, 3) := by decide +kernel
theorem dX0_fillSlopes_37 : decode cX0_fillSlopes 37 = .ok (.dload 6, 2) := by decide +kernel
theorem dX0_fillSlopes_39 : decode cX0_fillSlopes 39 = .ok (.dmul, 1) := by decide +kernel
theorem dX0_fillSlopes_40 : decode cX0_fillSlopes 40 = .ok (.dadd, 1) := by decide +kernel
theorem dX0_fillSlopes_41 : decode cX0_fillSlopes 41 = .ok (.ldc2_w 63, 3) := by decide +kernel
theorem dX0_fillSlopes_44 : decode cX0_fillSlopes 44 = .ok (.dcmp .g, 1) := by decide +kernel
theorem dX0_fillSlopes_45 : decode cX0_fillSlopes 45 = .ok (.ifCond .lt 19, 3) := by decide +kernel
theorem dX0_fillSlopes_48 : decode cX0_fillSlopes 48 = .ok (.dload 4, 2) := by decide +kernel
theorem dX0_fillSlopes_50 : decode cX0_fillSlopes 50 = .ok (.ldc2_w 61, 3) := by decide +kernel
theorem dX0_fillSlopes_53 : decode cX0_fillSlopes 53 = .ok (.dload 6, 2) := by decide +kernel
theorem dX0_fillSlopes_55 : decode cX0_fillSlopes 55 = .ok (.dmul, 1) := by decide +kernel
theorem dX0_fillSlopes_56 : decode cX0_fillSlopes 56 = .ok (.dsub, 1) := by decide +kernel
theorem dX0_fillSlopes_57 : decode cX0_fillSlopes 57 = .ok (.ldc2_w 63, 3) := by decide +kernel
theorem dX0_fillSlopes_60 : decode cX0_fillSlopes 60 = .ok (.dcmp .g, 1) := by decide +kernel
theorem dX0_fillSlopes_61 : decode cX0_fillSlopes 61 = .ok (.ifCond .ge 7, 3) := by decide +kernel
theorem dX0_fillSlopes_64 : decode cX0_fillSlopes 64 = .ok (.iconst 1, 1) := by decide +kernel
theorem dX0_fillSlopes_65 : decode cX0_fillSlopes 65 = .ok (.goto 4, 3) := by decide +kernel
theorem dX0_fillSlopes_68 : decode cX0_fillSlopes 68 = .ok (.iconst 0, 1) := by decide +kernel
theorem dX0_fillSlopes_69 : decode cX0_fillSlopes 69 = .ok (.istore 8, 2) := by decide +kernel
theorem dX0_fillSlopes_71 : decode cX0_fillSlopes 71 = .ok (.aload_n 0, 1) := by decide +kernel
theorem dX0_fillSlopes_72 : decode cX0_fillSlopes 72 = .ok (.getfield 9, 3) := by decide +kernel
theorem dX0_fillSlopes_75 : decode cX0_fillSlopes 75 = .ok (.iload_n 3, 1) := by decide +kernel
theorem dX0_fillSlopes_76 : decode cX0_fillSlopes 76 = .ok (.iload 8, 2) := by decide +kernel
theorem dX0_fillSlopes_78 : decode cX0_fillSlopes 78 = .ok (.ifCond .eq 7, 3) := by decide +kernel
theorem dX0_fillSlopes_81 : decode cX0_fillSlopes 81 = .ok (.dconst 0, 1) := by decide +kernel
theorem dX0_fillSlopes_82 : decode cX0_fillSlopes 82 = .ok (.goto 5, 3) := by decide +kernel
theorem dX0_fillSlopes_85 : decode cX0_fillSlopes 85 = .ok (.dload 6, 2) := by decide +kernel
theorem dX0_fillSlopes_87 : decode cX0_fillSlopes 87 = .ok (.dastore, 1) := by decide +kernel
theorem dX0_fillSlopes_88 : decode cX0_fillSlopes 88 = .ok (.aload_n 0, 1) := by decide +kernel
theorem dX0_fillSlopes_89 : decode cX0_fillSlopes 89 = .ok (.getfield 15, 3) := by decide +kernel
theorem dX0_fillSlopes_92 : decode cX0_fillSlopes 92 = .ok (.iload_n 3, 1) := by decide +kernel
theorem dX0_fillSlopes_93 : decode cX0_fillSlopes 93 = .ok (.iload 8, 2) := by decide +kernel
theorem dX0_fillSlopes_95 : decode cX0_fillSlopes 95 = .ok (.ifCond .eq 7, 3) := by decide +kernel
theorem dX0_fillSlopes_98 : decode cX0_fillSlopes 98 = .ok (.dconst 0, 1) := by decide +kernel
theorem dX0_fillSlopes_99 : decode cX0_fillSlopes 99 = .ok (.goto 13, 3) := by decide +kernel
theorem dX0_fillSlopes_102 : decode cX0_fillSlopes 102 = .ok (.aload_n 0, 1) := by decide +kernel
theorem dX0_fillSlopes_103 : decode cX0_fillSlopes 103 = .ok (.aload_n 1, 1) := by decide +kernel
theorem dX0_fillSlopes_104 : decode cX0_fillSlopes 104 = .ok (.getfield 65, 3) := by decide +kernel
theorem dX0_fillSlopes_107 : decode cX0_fillSlopes 107 = .ok (.iload_n 3, 1) := by decide +kernel
theorem dX0_fillSlopes_108 : decode cX0_fillSlopes 108 = .ok (.iload_n 2, 1) := by decide +kernel
theorem dX0_fillSlopes_109 : decode cX0_fillSlopes 109 = .ok (.invokevirtual 57, 3) := by decide +kernel
theorem dX0_fillSlopes_112 : decode cX0_fillSlopes 112 = .ok (.dastore, 1) := by decide +kernel
theorem dX0_fillSlopes_113 : decode cX0_fillSlopes 113 = .ok (.iinc 3 1, 3) := by decide +kernel
theorem dX0_fillSlopes_116 : decode cX0_fillSlopes 116 = .ok (.goto (-114), 3) := by decide +kernel
theorem dX0_fillSlopes_119 : decode cX0_fillSlopes 119 = .ok (.return_, 1) := by decide +kernel
set_option maxRecDepth 20000 in
theorem ggX0_slopeAt_X0_nearer : GoodIn wsX0_slopeAt wsX0_nearer := goodIn_r _ [5] (by decide +kernel) (by decide +kernel)
set_option maxRecDepth 20000 in
theorem gX0_slopeAt_X0_nearer : GoodIn wsX0_slopeAt (va_wsS RX0 68 yX0_nearer wsX0_nearer) := goodIn_app (goodIn_of _ (by decide +kernel)) ggX0_slopeAt_X0_nearer
set_option maxRecDepth 20000 in
theorem ggX0_slopeAt_X0_farther : GoodIn wsX0_slopeAt wsX0_farther := goodIn_r _ [8] (by decide +kernel) (by decide +kernel)
set_option maxRecDepth 20000 in
theorem gX0_slopeAt_X0_farther : GoodIn wsX0_slopeAt (va_wsS RX0 74 yX0_farther wsX0_farther) := goodIn_app (goodIn_of _ (by decide +kernel)) ggX0_slopeAt_X0_farther
theorem dX0_slopeAt_0 : decode cX0_slopeAt 0 = .ok (.aload_n 1, 1) := by decide +kernel
theorem dX0_slopeAt_1 : decode cX0_slopeAt 1 = .ok (.iload_n 2, 1) := by decide +kernel
theorem dX0_slopeAt_2 : decode cX0_slopeAt 2 = .ok (.daload, 1) := by decide +kernel
theorem dX0_slopeAt_3 : decode cX0_slopeAt 3 = .ok (.aload_n 1, 1) := by decide +kernel
theorem dX0_slopeAt_4 : decode cX0_slopeAt 4 = .ok (.iload_n 2, 1) := by decide +kernel
theorem dX0_slopeAt_5 : decode cX0_slopeAt 5 = .ok (.iconst 1, 1) := by decide +kernel
theorem dX0_slopeAt_6 : decode cX0_slopeAt 6 = .ok (.isub, 1) := by decide +kernel
theorem dX0_slopeAt_7 : decode cX0_slopeAt 7 = .ok (.daload, 1) := by decide +kernel
theorem dX0_slopeAt_8 : decode cX0_slopeAt 8 = .ok (.dsub, 1) := by decide +kernel
theorem dX0_slopeAt_9 : decode cX0_slopeAt 9 = .ok (.dstore 4, 2) := by decide +kernel
theorem dX0_slopeAt_11 : decode cX0_slopeAt 11 = .ok (.aload_n 1, 1) := by decide +kernel
theorem dX0_slopeAt_12 : decode cX0_slopeAt 12 = .ok (.iload_n 2, 1) := by decide +kernel
theorem dX0_slopeAt_13 : decode cX0_slopeAt 13 = .ok (.iconst 1, 1) := by decide +kernel
theorem dX0_slopeAt_14 : decode cX0_slopeAt 14 = .ok (.iadd, 1) := by decide +kernel
theorem dX0_slopeAt_15 : decode cX0_slopeAt 15 = .ok (.daload, 1) := by decide +kernel
theorem dX0_slopeAt_16 : decode cX0_slopeAt 16 = .ok (.aload_n 1, 1) := by decide +kernel
theorem dX0_slopeAt_17 : decode cX0_slopeAt 17 = .ok (.iload_n 2, 1) := by decide +kernel
theorem dX0_slopeAt_18 : decode cX0_slopeAt 18 = .ok (.daload, 1) := by decide +kernel
theorem dX0_slopeAt_19 : decode cX0_slopeAt 19 = .ok (.dsub, 1) := by decide +kernel
theorem dX0_slopeAt_20 : decode cX0_slopeAt 20 = .ok (.dstore 6, 2) := by decide +kernel
theorem dX0_slopeAt_22 : decode cX0_slopeAt 22 = .ok (.iload_n 3, 1) := by decide +kernel
theorem dX0_slopeAt_23 : decode cX0_slopeAt 23 = .ok (.ifCond .eq 13, 3) := by decide +kernel
theorem dX0_slopeAt_26 : decode cX0_slopeAt 26 = .ok (.dload 4, 2) := by decide +kernel
theorem dX0_slopeAt_28 : decode cX0_slopeAt 28 = .ok (.dload 6, 2) := by decide +kernel
theorem dX0_slopeAt_30 : decode cX0_slopeAt 30 = .ok (.dmul, 1) := by decide +kernel
theorem dX0_slopeAt_31 : decode cX0_slopeAt 31 = .ok (.dconst 0, 1) := by decide +kernel
theorem dX0_slopeAt_32 : decode cX0_slopeAt 32 = .ok (.dcmp .l, 1) := by decide +kernel
theorem dX0_slopeAt_33 : decode cX0_slopeAt 33 = .ok (.ifCond .gt 5, 3) := by decide +kernel
theorem dX0_slopeAt_36 : decode cX0_slopeAt 36 = .ok (.dconst 0, 1) := by decide +kernel
theorem dX0_slopeAt_37 : decode cX0_slopeAt 37 = .ok (.dreturn, 1) := by decide +kernel
theorem dX0_slopeAt_38 : decode cX0_slopeAt 38 = .ok (.iload_n 3, 1) := by decide +kernel
theorem dX0_slopeAt_39 : decode cX0_slopeAt 39 = .ok (.lookupswitch 59 #[(1, 25), (2, 33)], 25) := by decide +kernel
theorem dX0_slopeAt_64 : decode cX0_slopeAt 64 = .ok (.dload 4, 2) := by decide +kernel
theorem dX0_slopeAt_66 : decode cX0_slopeAt 66 = .ok (.dload 6, 2) := by decide +kernel
theorem dX0_slopeAt_68 : decode cX0_slopeAt 68 = .ok (.invokestatic 68, 3) := by decide +kernel
theorem dX0_slopeAt_71 : decode cX0_slopeAt 71 = .ok (.dreturn, 1) := by decide +kernel
theorem dX0_slopeAt_72 : decode cX0_slopeAt 72 = .ok (.ldc2_w 72, 3) := by decide +kernel
theorem dX0_slopeAt_75 : decode cX0_slopeAt 75 = .ok (.dload 4, 2) := by decide +kernel
theorem dX0_slopeAt_77 : decode cX0_slopeAt 77 = .ok (.dmul, 1) := by decide +kernel
theorem dX0_slopeAt_78 : decode cX0_slopeAt 78 = .ok (.dload 6, 2) := by decide +kernel
theorem dX0_slopeAt_80 : decode cX0_slopeAt 80 = .ok (.invokestatic 68, 3) := by decide +kernel
theorem dX0_slopeAt_83 : decode cX0_slopeAt 83 = .ok (.dload 4, 2) := by decide +kernel
theorem dX0_slopeAt_85 : decode cX0_slopeAt 85 = .ok (.ldc2_w 72, 3) := by decide +kernel
theorem dX0_slopeAt_88 : decode cX0_slopeAt 88 = .ok (.dload 6, 2) := by decide +kernel
theorem dX0_slopeAt_90 : decode cX0_slopeAt 90 = .ok (.dmul, 1) := by decide +kernel
theorem dX0_slopeAt_91 : decode cX0_slopeAt 91 = .ok (.invokestatic 68, 3) := by decide +kernel
theorem dX0_slopeAt_94 : decode cX0_slopeAt 94 = .ok (.invokestatic 74, 3) := by decide +kernel
theorem dX0_slopeAt_97 : decode cX0_slopeAt 97 = .ok (.dreturn, 1) := by decide +kernel
theorem dX0_slopeAt_98 : decode cX0_slopeAt 98 = .ok (.ldc2_w 72, 3) := by decide +kernel
theorem dX0_slopeAt_101 : decode cX0_slopeAt 101 = .ok (.dload 4, 2) := by decide +kernel
theorem dX0_slopeAt_103 : decode cX0_slopeAt 103 = .ok (.dmul, 1) := by decide +kernel
theorem dX0_slopeAt_104 : decode cX0_slopeAt 104 = .ok (.dload 6, 2) := by decide +kernel
theorem dX0_slopeAt_106 : decode cX0_slopeAt 106 = .ok (.dmul, 1) := by decide +kernel
theorem dX0_slopeAt_107 : decode cX0_slopeAt 107 = .ok (.dload 4, 2) := by decide +kernel
theorem dX0_slopeAt_109 : decode cX0_slopeAt 109 = .ok (.dload 6, 2) := by decide +kernel
theorem dX0_slopeAt_111 : decode cX0_slopeAt 111 = .ok (.dadd, 1) := by decide +kernel
theorem dX0_slopeAt_112 : decode cX0_slopeAt 112 = .ok (.ddiv, 1) := by decide +kernel
theorem dX0_slopeAt_113 : decode cX0_slopeAt 113 = .ok (.dreturn, 1) := by decide +kernel
theorem dX0_nearer_0 : decode cX0_nearer 0 = .ok (.dload_n 0, 1) := by decide +kernel
theorem dX0_nearer_1 : decode cX0_nearer 1 = .ok (.dconst 0, 1) := by decide +kernel
theorem dX0_nearer_2 : decode cX0_nearer 2 = .ok (.dcmp .g, 1) := by decide +kernel
theorem dX0_nearer_3 : decode cX0_nearer 3 = .ok (.ifCond .ge 12, 3) := by decide +kernel
theorem dX0_nearer_6 : decode cX0_nearer 6 = .ok (.dload_n 0, 1) := by decide +kernel
theorem dX0_nearer_7 : decode cX0_nearer 7 = .ok (.dload_n 2, 1) := by decide +kernel
theorem dX0_nearer_8 : decode cX0_nearer 8 = .ok (.dcmp .l, 1) := by decide +kernel
theorem dX0_nearer_9 : decode cX0_nearer 9 = .ok (.ifCond .lt 16, 3) := by decide +kernel
theorem dX0_nearer_12 : decode cX0_nearer 12 = .ok (.goto 9, 3) := by decide +kernel
theorem dX0_nearer_15 : decode cX0_nearer 15 = .ok (.dload_n 0, 1) := by decide +kernel
theorem dX0_nearer_16 : decode cX0_nearer 16 = .ok (.dload_n 2, 1) := by decide +kernel
theorem dX0_nearer_17 : decode cX0_nearer 17 = .ok (.dcmp .g, 1) := by decide +kernel
theorem dX0_nearer_18 : decode cX0_nearer 18 = .ok (.ifCond .gt 7, 3) := by decide +kernel
theorem dX0_nearer_21 : decode cX0_nearer 21 = .ok (.dload_n 0, 1) := by decide +kernel
theorem dX0_nearer_22 : decode cX0_nearer 22 = .ok (.goto 4, 3) := by decide +kernel
theorem dX0_nearer_25 : decode cX0_nearer 25 = .ok (.dload_n 2, 1) := by decide +kernel
theorem dX0_nearer_26 : decode cX0_nearer 26 = .ok (.dreturn, 1) := by decide +kernel
theorem dX0_farther_0 : decode cX0_farther 0 = .ok (.dload_n 0, 1) := by decide +kernel
theorem dX0_farther_1 : decode cX0_farther 1 = .ok (.dconst 0, 1) := by decide +kernel
theorem dX0_farther_2 : decode cX0_farther 2 = .ok (.dcmp .g, 1) := by decide +kernel
theorem dX0_farther_3 : decode cX0_farther 3 = .ok (.ifCond .ge 12, 3) := by decide +kernel
theorem dX0_farther_6 : decode cX0_farther 6 = .ok (.dload_n 0, 1) := by decide +kernel
theorem dX0_farther_7 : decode cX0_farther 7 = .ok (.dload_n 2, 1) := by decide +kernel
theorem dX0_farther_8 : decode cX0_farther 8 = .ok (.dcmp .g, 1) := by decide +kernel
theorem dX0_farther_9 : decode cX0_farther 9 = .ok (.ifCond .gt 16, 3) := by decide +kernel
theorem dX0_farther_12 : decode cX0_farther 12 = .ok (.goto 9, 3) := by decide +kernel
theorem dX0_farther_15 : decode cX0_farther 15 = .ok (.dload_n 0, 1) := by decide +kernel
theorem dX0_farther_16 : decode cX0_farther 16 = .ok (.dload_n 2, 1) := by decide +kernel
theorem dX0_farther_17 : decode cX0_farther 17 = .ok (.dcmp .l, 1) := by decide +kernel
theorem dX0_farther_18 : decode cX0_farther 18 = .ok (.ifCond .lt 7, 3) := by decide +kernel
theorem dX0_farther_21 : decode cX0_farther 21 = .ok (.dload_n 0, 1) := by decide +kernel
theorem dX0_farther_22 : decode cX0_farther 22 = .ok (.goto 4, 3) := by decide +kernel
theorem dX0_farther_25 : decode cX0_farther 25 = .ok (.dload_n 2, 1) := by decide +kernel
theorem dX0_farther_26 : decode cX0_farther 26 = .ok (.dreturn, 1) := by decide +kernel
set_option maxRecDepth 20000 in
theorem ggX0_guess_X2_become : GoodIn wsX0_guess wsX2_become := goodIn_r _ [12, 13, 14, 15, 16, 17, 18, 19, 20, 21, 22, 32, 33, 34, 35] (by decide +kernel) (by decide +kernel)
set_option maxRecDepth 20000 in
theorem gX0_guess_X2_become : GoodIn wsX0_guess (wsV RX0 77 RX2 yX2_become wsX2_become) := goodIn_app (goodIn_of _ (by decide +kernel)) ggX0_guess_X2_become
theorem dX0_guess_0 : decode cX0_guess 0 = .ok (.iconst 2, 1) := by decide +kernel
theorem dX0_guess_1 : decode cX0_guess 1 = .ok (.iload_n 2, 1) := by decide +kernel
theorem dX0_guess_2 : decode cX0_guess 2 = .ok (.iadd, 1) := by decide +kernel
theorem dX0_guess_3 : decode cX0_guess 3 = .ok (.iconst 1, 1) := by decide +kernel
theorem dX0_guess_4 : decode cX0_guess 4 = .ok (.isub, 1) := by decide +kernel
theorem dX0_guess_5 : decode cX0_guess 5 = .ok (.istore_n 3, 1) := by decide +kernel
theorem dX0_guess_6 : decode cX0_guess 6 = .ok (.iconst 2, 1) := by decide +kernel
theorem dX0_guess_7 : decode cX0_guess 7 = .ok (.iload_n 2, 1) := by decide +kernel
theorem dX0_guess_8 : decode cX0_guess 8 = .ok (.iadd, 1) := by decide +kernel
theorem dX0_guess_9 : decode cX0_guess 9 = .ok (.istore 4, 2) := by decide +kernel
theorem dX0_guess_11 : decode cX0_guess 11 = .ok (.aload_n 0, 1) := by decide +kernel
theorem dX0_guess_12 : decode cX0_guess 12 = .ok (.getfield 27, 3) := by decide +kernel
theorem dX0_guess_15 : decode cX0_guess 15 = .ok (.aload_n 1, 1) := by decide +kernel
theorem dX0_guess_16 : decode cX0_guess 16 = .ok (.getfield 54, 3) := by decide +kernel
theorem dX0_guess_19 : decode cX0_guess 19 = .ok (.iload_n 3, 1) := by decide +kernel
theorem dX0_guess_20 : decode cX0_guess 20 = .ok (.daload, 1) := by decide +kernel
theorem dX0_guess_21 : decode cX0_guess 21 = .ok (.ldc2_w 61, 3) := by decide +kernel
theorem dX0_guess_24 : decode cX0_guess 24 = .ok (.aload_n 0, 1) := by decide +kernel
theorem dX0_guess_25 : decode cX0_guess 25 = .ok (.getfield 9, 3) := by decide +kernel
theorem dX0_guess_28 : decode cX0_guess 28 = .ok (.iload_n 3, 1) := by decide +kernel
theorem dX0_guess_29 : decode cX0_guess 29 = .ok (.daload, 1) := by decide +kernel
theorem dX0_guess_30 : decode cX0_guess 30 = .ok (.dmul, 1) := by decide +kernel
theorem dX0_guess_31 : decode cX0_guess 31 = .ok (.dadd, 1) := by decide +kernel
theorem dX0_guess_32 : decode cX0_guess 32 = .ok (.aload_n 1, 1) := by decide +kernel
theorem dX0_guess_33 : decode cX0_guess 33 = .ok (.getfield 65, 3) := by decide +kernel
theorem dX0_guess_36 : decode cX0_guess 36 = .ok (.iload_n 3, 1) := by decide +kernel
theorem dX0_guess_37 : decode cX0_guess 37 = .ok (.daload, 1) := by decide +kernel
theorem dX0_guess_38 : decode cX0_guess 38 = .ok (.ldc2_w 61, 3) := by decide +kernel
theorem dX0_guess_41 : decode cX0_guess 41 = .ok (.aload_n 0, 1) := by decide +kernel
theorem dX0_guess_42 : decode cX0_guess 42 = .ok (.getfield 15, 3) := by decide +kernel
theorem dX0_guess_45 : decode cX0_guess 45 = .ok (.iload_n 3, 1) := by decide +kernel
theorem dX0_guess_46 : decode cX0_guess 46 = .ok (.daload, 1) := by decide +kernel
theorem dX0_guess_47 : decode cX0_guess 47 = .ok (.dmul, 1) := by decide +kernel
theorem dX0_guess_48 : decode cX0_guess 48 = .ok (.dadd, 1) := by decide +kernel
theorem dX0_guess_49 : decode cX0_guess 49 = .ok (.invokevirtual 77, 3) := by decide +kernel
theorem dX0_guess_52 : decode cX0_guess 52 = .ok (.aload_n 0, 1) := by decide +kernel
theorem dX0_guess_53 : decode cX0_guess 53 = .ok (.getfield 31, 3) := by decide +kernel
theorem dX0_guess_56 : decode cX0_guess 56 = .ok (.aload_n 1, 1) := by decide +kernel
theorem dX0_guess_57 : decode cX0_guess 57 = .ok (.getfield 54, 3) := by decide +kernel
theorem dX0_guess_60 : decode cX0_guess 60 = .ok (.iload 4, 2) := by decide +kernel
theorem dX0_guess_62 : decode cX0_guess 62 = .ok (.daload, 1) := by decide +kernel
theorem dX0_guess_63 : decode cX0_guess 63 = .ok (.ldc2_w 61, 3) := by decide +kernel
theorem dX0_guess_66 : decode cX0_guess 66 = .ok (.aload_n 0, 1) := by decide +kernel
theorem dX0_guess_67 : decode cX0_guess 67 = .ok (.getfield 9, 3) := by decide +kernel
theorem dX0_guess_70 : decode cX0_guess 70 = .ok (.iload 4, 2) := by decide +kernel
theorem dX0_guess_72 : decode cX0_guess 72 = .ok (.daload, 1) := by decide +kernel
theorem dX0_guess_73 : decode cX0_guess 73 = .ok (.dmul, 1) := by decide +kernel
theorem dX0_guess_74 : decode cX0_guess 74 = .ok (.dsub, 1) := by decide +kernel
theorem dX0_guess_75 : decode cX0_guess 75 = .ok (.aload_n 1, 1) := by decide +kernel
theorem dX0_guess_76 : decode cX0_guess 76 = .ok (.getfield 65, 3) := by decide +kernel
theorem dX0_guess_79 : decode cX0_guess 79 = .ok (.iload 4, 2) := by decide +kernel
theorem dX0_guess_81 : decode cX0_guess 81 = .ok (.daload, 1) := by decide +kernel
theorem dX0_guess_82 : decode cX0_guess 82 = .ok (.ldc2_w 61, 3) := by decide +kernel
theorem dX0_guess_85 : decode cX0_guess 85 = .ok (.aload_n 0, 1) := by decide +kernel
theorem dX0_guess_86 : decode cX0_guess 86 = .ok (.getfield 15, 3) := by decide +kernel
theorem dX0_guess_89 : decode cX0_guess 89 = .ok (.iload 4, 2) := by decide +kernel
theorem dX0_guess_91 : decode cX0_guess 91 = .ok (.daload, 1) := by decide +kernel
theorem dX0_guess_92 : decode cX0_guess 92 = .ok (.dmul, 1) := by decide +kernel
theorem dX0_guess_93 : decode cX0_guess 93 = .ok (.dsub, 1) := by decide +kernel
theorem dX0_guess_94 : decode cX0_guess 94 = .ok (.invokevirtual 77, 3) := by decide +kernel
theorem dX0_guess_97 : decode cX0_guess 97 = .ok (.return_, 1) := by decide +kernel
set_option maxRecDepth 20000 in
theorem ggX0_solveBroad_X2_reach : GoodIn wsX0_solveBroad wsX2_reach := goodIn_r _ [12, 13, 14, 15, 16, 17, 37, 38, 39, 40] (by decide +kernel) (by decide +kernel)
set_option maxRecDepth 20000 in
theorem gX0_solveBroad_X2_reach : GoodIn wsX0_solveBroad (wsV RX0 81 RX2 yX2_reach wsX2_reach) := goodIn_app (goodIn_of _ (by decide +kernel)) ggX0_solveBroad_X2_reach
set_option maxRecDepth 20000 in
theorem ggX0_solveBroad_X3_greater : GoodIn wsX0_solveBroad wsX3_greater := goodIn_r _ [19] (by decide +kernel) (by decide +kernel)
set_option maxRecDepth 20000 in
theorem gX0_solveBroad_X3_greater_n85 : GoodIn wsX0_solveBroad (wsX3_greater) := ggX0_solveBroad_X3_greater
set_option maxRecDepth 20000 in
theorem ggX0_solveBroad_X2_depthFlux : GoodIn wsX0_solveBroad wsX2_depthFlux := goodIn_r _ [23, 24, 37, 38, 39, 40] (by decide +kernel) (by decide +kernel)
set_option maxRecDepth 20000 in
theorem gX0_solveBroad_X2_depthFlux : GoodIn wsX0_solveBroad (wsV RX0 88 RX2 yX2_depthFlux wsX2_depthFlux) := goodIn_app (goodIn_of _ (by decide +kernel)) ggX0_solveBroad_X2_depthFlux
set_option maxRecDepth 20000 in
theorem ggX0_solveBroad_X2_momentumFlux : GoodIn wsX0_solveBroad wsX2_momentumFlux := goodIn_r _ [28, 24, 13, 29, 30, 37, 38, 39, 40] (by decide +kernel) (by decide +kernel)
set_option maxRecDepth 20000 in
theorem gX0_solveBroad_X2_momentumFlux : GoodIn wsX0_solveBroad (wsV RX0 95 RX2 yX2_momentumFlux wsX2_momentumFlux) := goodIn_app (goodIn_of _ (by decide +kernel)) ggX0_solveBroad_X2_momentumFlux
theorem dX0_solveBroad_0 : decode cX0_solveBroad 0 = .ok (.aload_n 0, 1) := by decide +kernel
theorem dX0_solveBroad_1 : decode cX0_solveBroad 1 = .ok (.getfield 27, 3) := by decide +kernel
theorem dX0_solveBroad_4 : decode cX0_solveBroad 4 = .ok (.invokevirtual 81, 3) := by decide +kernel
theorem dX0_solveBroad_7 : decode cX0_solveBroad 7 = .ok (.aload_n 0, 1) := by decide +kernel
theorem dX0_solveBroad_8 : decode cX0_solveBroad 8 = .ok (.getfield 31, 3) := by decide +kernel
theorem dX0_solveBroad_11 : decode cX0_solveBroad 11 = .ok (.invokevirtual 81, 3) := by decide +kernel
theorem dX0_solveBroad_14 : decode cX0_solveBroad 14 = .ok (.invokestatic 85, 3) := by decide +kernel
theorem dX0_solveBroad_17 : decode cX0_solveBroad 17 = .ok (.dstore_n 2, 1) := by decide +kernel
theorem dX0_solveBroad_18 : decode cX0_solveBroad 18 = .ok (.aload_n 0, 1) := by decide +kernel
theorem dX0_solveBroad_19 : decode cX0_solveBroad 19 = .ok (.getfield 18, 3) := by decide +kernel
theorem dX0_solveBroad_22 : decode cX0_solveBroad 22 = .ok (.iload_n 1, 1) := by decide +kernel
theorem dX0_solveBroad_23 : decode cX0_solveBroad 23 = .ok (.ldc2_w 61, 3) := by decide +kernel
theorem dX0_solveBroad_26 : decode cX0_solveBroad 26 = .ok (.aload_n 0, 1) := by decide +kernel
theorem dX0_solveBroad_27 : decode cX0_solveBroad 27 = .ok (.getfield 27, 3) := by decide +kernel
theorem dX0_solveBroad_30 : decode cX0_solveBroad 30 = .ok (.invokevirtual 88, 3) := by decide +kernel
theorem dX0_solveBroad_33 : decode cX0_solveBroad 33 = .ok (.aload_n 0, 1) := by decide +kernel
theorem dX0_solveBroad_34 : decode cX0_solveBroad 34 = .ok (.getfield 31, 3) := by decide +kernel
theorem dX0_solveBroad_37 : decode cX0_solveBroad 37 = .ok (.invokevirtual 88, 3) := by decide +kernel
theorem dX0_solveBroad_40 : decode cX0_solveBroad 40 = .ok (.dadd, 1) := by decide +kernel
theorem dX0_solveBroad_41 : decode cX0_solveBroad 41 = .ok (.dmul, 1) := by decide +kernel
theorem dX0_solveBroad_42 : decode cX0_solveBroad 42 = .ok (.ldc2_w 61, 3) := by decide +kernel
theorem dX0_solveBroad_45 : decode cX0_solveBroad 45 = .ok (.dload_n 2, 1) := by decide +kernel
theorem dX0_solveBroad_46 : decode cX0_solveBroad 46 = .ok (.dmul, 1) := by decide +kernel
theorem dX0_solveBroad_47 : decode cX0_solveBroad 47 = .ok (.aload_n 0, 1) := by decide +kernel
theorem dX0_solveBroad_48 : decode cX0_solveBroad 48 = .ok (.getfield 31, 3) := by decide +kernel
theorem dX0_solveBroad_51 : decode cX0_solveBroad 51 = .ok (.getfield 91, 3) := by decide +kernel
theorem dX0_solveBroad_54 : decode cX0_solveBroad 54 = .ok (.aload_n 0, 1) := by decide +kernel
theorem dX0_solveBroad_55 : decode cX0_solveBroad 55 = .ok (.getfield 27, 3) := by decide +kernel
theorem dX0_solveBroad_58 : decode cX0_solveBroad 58 = .ok (.getfield 91, 3) := by decide +kernel
theorem dX0_solveBroad_61 : decode cX0_solveBroad 61 = .ok (.dsub, 1) := by decide +kernel
theorem dX0_solveBroad_62 : decode cX0_solveBroad 62 = .ok (.dmul, 1) := by decide +kernel
theorem dX0_solveBroad_63 : decode cX0_solveBroad 63 = .ok (.dsub, 1) := by decide +kernel
theorem dX0_solveBroad_64 : decode cX0_solveBroad 64 = .ok (.dastore, 1) := by decide +kernel
theorem dX0_solveBroad_65 : decode cX0_solveBroad 65 = .ok (.aload_n 0, 1) := by decide +kernel
theorem dX0_solveBroad_66 : decode cX0_solveBroad 66 = .ok (.getfield 21, 3) := by decide +kernel
theorem dX0_solveBroad_69 : decode cX0_solveBroad 69 = .ok (.iload_n 1, 1) := by decide +kernel
theorem dX0_solveBroad_70 : decode cX0_solveBroad 70 = .ok (.ldc2_w 61, 3) := by decide +kernel
theorem dX0_solveBroad_73 : decode cX0_solveBroad 73 = .ok (.aload_n 0, 1) := by decide +kernel
theorem dX0_solveBroad_74 : decode cX0_solveBroad 74 = .ok (.getfield 27, 3) := by decide +kernel
theorem dX0_solveBroad_77 : decode cX0_solveBroad 77 = .ok (.invokevirtual 95, 3) := by decide +kernel
theorem dX0_solveBroad_80 : decode cX0_solveBroad 80 = .ok (.aload_n 0, 1) := by decide +kernel
theorem dX0_solveBroad_81 : decode cX0_solveBroad 81 = .ok (.getfield 31, 3) := by decide +kernel
theorem dX0_solveBroad_84 : decode cX0_solveBroad 84 = .ok (.invokevirtual 95, 3) := by decide +kernel
theorem dX0_solveBroad_87 : decode cX0_solveBroad 87 = .ok (.dadd, 1) := by decide +kernel
theorem dX0_solveBroad_88 : decode cX0_solveBroad 88 = .ok (.dmul, 1) := by decide +kernel
theorem dX0_solveBroad_89 : decode cX0_solveBroad 89 = .ok (.ldc2_w 61, 3) := by decide +kernel
theorem dX0_solveBroad_92 : decode cX0_solveBroad 92 = .ok (.dload_n 2, 1) := by decide +kernel
theorem dX0_solveBroad_93 : decode cX0_solveBroad 93 = .ok (.dmul, 1) := by decide +kernel
theorem dX0_solveBroad_94 : decode cX0_solveBroad 94 = .ok (.aload_n 0, 1) := by decide +kernel
theorem dX0_solveBroad_95 : decode cX0_solveBroad 95 = .ok (.getfield 31, 3) := by decide +kernel
theorem dX0_solveBroad_98 : decode cX0_solveBroad 98 = .ok (.getfield 98, 3) := by decide +kernel
theorem dX0_solveBroad_101 : decode cX0_solveBroad 101 = .ok (.aload_n 0, 1) := by decide +kernel
theorem dX0_solveBroad_102 : decode cX0_solveBroad 102 = .ok (.getfield 27, 3) := by decide +kernel
theorem dX0_solveBroad_105 : decode cX0_solveBroad 105 = .ok (.getfield 98, 3) := by decide +kernel
theorem dX0_solveBroad_108 : decode cX0_solveBroad 108 = .ok (.dsub, 1) := by decide +kernel
theorem dX0_solveBroad_109 : decode cX0_solveBroad 109 = .ok (.dmul, 1) := by decide +kernel
theorem dX0_solveBroad_110 : decode cX0_solveBroad 110 = .ok (.dsub, 1) := by decide +kernel
theorem dX0_solveBroad_111 : decode cX0_solveBroad 111 = .ok (.dastore, 1) := by decide +kernel
theorem dX0_solveBroad_112 : decode cX0_solveBroad 112 = .ok (.return_, 1) := by decide +kernel
set_option maxRecDepth 20000 in
theorem ggX0_solveNarrow_X3_lesser : GoodIn wsX0_solveNarrow wsX3_lesser := goodIn_r _ [11] (by decide +kernel) (by decide +kernel)
set_option maxRecDepth 20000 in
theorem gX0_solveNarrow_X3_lesser_n107 : GoodIn wsX0_solveNarrow (wsX3_lesser) := ggX0_solveNarrow_X3_lesser
set_option maxRecDepth 20000 in
theorem ggX0_solveNarrow_X3_greater : GoodIn wsX0_solveNarrow wsX3_greater := goodIn_r _ [13] (by decide +kernel) (by decide +kernel)
set_option maxRecDepth 20000 in
theorem gX0_solveNarrow_X3_greater_n85 : GoodIn wsX0_solveNarrow (wsX3_greater) := ggX0_solveNarrow_X3_greater
set_option maxRecDepth 20000 in
theorem ggX0_solveNarrow_X2_depthFlux : GoodIn wsX0_solveNarrow wsX2_depthFlux := goodIn_r _ [18, 19, 37, 38, 39, 40] (by decide +kernel) (by decide +kernel)
set_option maxRecDepth 20000 in
theorem gX0_solveNarrow_X2_depthFlux : GoodIn wsX0_solveNarrow (wsV RX0 88 RX2 yX2_depthFlux wsX2_depthFlux) := goodIn_app (goodIn_of _ (by decide +kernel)) ggX0_solveNarrow_X2_depthFlux
set_option maxRecDepth 20000 in
theorem ggX0_solveNarrow_X0_blend : GoodIn wsX0_solveNarrow wsX0_blend := goodIn_r _ [23] (by decide +kernel) (by decide +kernel)
set_option maxRecDepth 20000 in
theorem gX0_solveNarrow_X0_blend : GoodIn wsX0_solveNarrow (va_wsS RX0 110 yX0_blend wsX0_blend) := goodIn_app (goodIn_of _ (by decide +kernel)) ggX0_solveNarrow_X0_blend
set_option maxRecDepth 20000 in
theorem ggX0_solveNarrow_X2_momentumFlux : GoodIn wsX0_solveNarrow wsX2_momentumFlux := goodIn_r _ [27, 19, 28, 29, 30, 37, 38, 39, 40] (by decide +kernel) (by decide +kernel)
set_option maxRecDepth 20000 in
theorem gX0_solveNarrow_X2_momentumFlux : GoodIn wsX0_solveNarrow (wsV RX0 95 RX2 yX2_momentumFlux wsX2_momentumFlux) := goodIn_app (goodIn_of _ (by decide +kernel)) ggX0_solveNarrow_X2_momentumFlux
theorem dX0_solveNarrow_0 : decode cX0_solveNarrow 0 = .ok (.aload_n 0, 1) := by decide +kernel
theorem dX0_solveNarrow_1 : decode cX0_solveNarrow 1 = .ok (.getfield 27, 3) := by decide +kernel
theorem dX0_solveNarrow_4 : decode cX0_solveNarrow 4 = .ok (.getfield 101, 3) := by decide +kernel
theorem dX0_solveNarrow_7 : decode cX0_solveNarrow 7 = .ok (.aload_n 0, 1) := by decide +kernel
theorem dX0_solveNarrow_8 : decode cX0_solveNarrow 8 = .ok (.getfield 27, 3) := by decide +kernel
theorem dX0_solveNarrow_11 : decode cX0_solveNarrow 11 = .ok (.getfield 104, 3) := by decide +kernel
theorem dX0_solveNarrow_14 : decode cX0_solveNarrow 14 = .ok (.dsub, 1) := by decide +kernel
theorem dX0_solveNarrow_15 : decode cX0_solveNarrow 15 = .ok (.aload_n 0, 1) := by decide +kernel
theorem dX0_solveNarrow_16 : decode cX0_solveNarrow 16 = .ok (.getfield 31, 3) := by decide +kernel
theorem dX0_solveNarrow_19 : decode cX0_solveNarrow 19 = .ok (.getfield 101, 3) := by decide +kernel
theorem dX0_solveNarrow_22 : decode cX0_solveNarrow 22 = .ok (.aload_n 0, 1) := by decide +kernel
theorem dX0_solveNarrow_23 : decode cX0_solveNarrow 23 = .ok (.getfield 31, 3) := by decide +kernel
theorem dX0_solveNarrow_26 : decode cX0_solveNarrow 26 = .ok (.getfield 104, 3) := by decide +kernel
theorem dX0_solveNarrow_29 : decode cX0_solveNarrow 29 = .ok (.dsub, 1) := by decide +kernel
theorem dX0_solveNarrow_30 : decode cX0_solveNarrow 30 = .ok (.invokestatic 107, 3) := by decide +kernel
theorem dX0_solveNarrow_33 : decode cX0_solveNarrow 33 = .ok (.dstore_n 2, 1) := by decide +kernel
theorem dX0_solveNarrow_34 : decode cX0_solveNarrow 34 = .ok (.aload_n 0, 1) := by decide +kernel
theorem dX0_solveNarrow_35 : decode cX0_solveNarrow 35 = .ok (.getfield 27, 3) := by decide +kernel
theorem dX0_solveNarrow_38 : decode cX0_solveNarrow 38 = .ok (.getfield 101, 3) := by decide +kernel
theorem dX0_solveNarrow_41 : decode cX0_solveNarrow 41 = .ok (.aload_n 0, 1) := by decide +kernel
theorem dX0_solveNarrow_42 : decode cX0_solveNarrow 42 = .ok (.getfield 27, 3) := by decide +kernel
theorem dX0_solveNarrow_45 : decode cX0_solveNarrow 45 = .ok (.getfield 104, 3) := by decide +kernel
theorem dX0_solveNarrow_48 : decode cX0_solveNarrow 48 = .ok (.dadd, 1) := by decide +kernel
theorem dX0_solveNarrow_49 : decode cX0_solveNarrow 49 = .ok (.aload_n 0, 1) := by decide +kernel
theorem dX0_solveNarrow_50 : decode cX0_solveNarrow 50 = .ok (.getfield 31, 3) := by decide +kernel
theorem dX0_solveNarrow_53 : decode cX0_solveNarrow 53 = .ok (.getfield 101, 3) := by decide +kernel
theorem dX0_solveNarrow_56 : decode cX0_solveNarrow 56 = .ok (.aload_n 0, 1) := by decide +kernel
theorem dX0_solveNarrow_57 : decode cX0_solveNarrow 57 = .ok (.getfield 31, 3) := by decide +kernel
theorem dX0_solveNarrow_60 : decode cX0_solveNarrow 60 = .ok (.getfield 104, 3) := by decide +kernel
theorem dX0_solveNarrow_63 : decode cX0_solveNarrow 63 = .ok (.dadd, 1) := by decide +kernel
theorem dX0_solveNarrow_64 : decode cX0_solveNarrow 64 = .ok (.invokestatic 85, 3) := by decide +kernel
theorem dX0_solveNarrow_67 : decode cX0_solveNarrow 67 = .ok (.dstore 4, 2) := by decide +kernel
theorem dX0_solveNarrow_69 : decode cX0_solveNarrow 69 = .ok (.aload_n 0, 1) := by decide +kernel
theorem dX0_solveNarrow_70 : decode cX0_solveNarrow 70 = .ok (.getfield 18, 3) := by decide +kernel
theorem dX0_solveNarrow_73 : decode cX0_solveNarrow 73 = .ok (.iload_n 1, 1) := by decide +kernel
theorem dX0_solveNarrow_74 : decode cX0_solveNarrow 74 = .ok (.dload_n 2, 1) := by decide +kernel
theorem dX0_solveNarrow_75 : decode cX0_solveNarrow 75 = .ok (.dload 4, 2) := by decide +kernel
theorem dX0_solveNarrow_77 : decode cX0_solveNarrow 77 = .ok (.aload_n 0, 1) := by decide +kernel
theorem dX0_solveNarrow_78 : decode cX0_solveNarrow 78 = .ok (.getfield 27, 3) := by decide +kernel
theorem dX0_solveNarrow_81 : decode cX0_solveNarrow 81 = .ok (.invokevirtual 88, 3) := by decide +kernel
theorem dX0_solveNarrow_84 : decode cX0_solveNarrow 84 = .ok (.aload_n 0, 1) := by decide +kernel
theorem dX0_solveNarrow_85 : decode cX0_solveNarrow 85 = .ok (.getfield 31, 3) := by decide +kernel
theorem dX0_solveNarrow_88 : decode cX0_solveNarrow 88 = .ok (.invokevirtual 88, 3) := by decide +kernel
theorem dX0_solveNarrow_91 : decode cX0_solveNarrow 91 = .ok (.aload_n 0, 1) := by decide +kernel
theorem dX0_solveNarrow_92 : decode cX0_solveNarrow 92 = .ok (.getfield 31, 3) := by decide +kernel
theorem dX0_solveNarrow_95 : decode cX0_solveNarrow 95 = .ok (.getfield 91, 3) := by decide +kernel
theorem dX0_solveNarrow_98 : decode cX0_solveNarrow 98 = .ok (.aload_n 0, 1) := by decide +kernel
theorem dX0_solveNarrow_99 : decode cX0_solveNarrow 99 = .ok (.getfield 27, 3) := by decide +kernel
theorem dX0_solveNarrow_102 : decode cX0_solveNarrow 102 = .ok (.getfield 91, 3) := by decide +kernel
theorem dX0_solveNarrow_105 : decode cX0_solveNarrow 105 = .ok (.dsub, 1) := by decide +kernel
theorem dX0_solveNarrow_106 : decode cX0_solveNarrow 106 = .ok (.invokestatic 110, 3) := by decide +kernel
theorem dX0_solveNarrow_109 : decode cX0_solveNarrow 109 = .ok (.dastore, 1) := by decide +kernel
theorem dX0_solveNarrow_110 : decode cX0_solveNarrow 110 = .ok (.aload_n 0, 1) := by decide +kernel
theorem dX0_solveNarrow_111 : decode cX0_solveNarrow 111 = .ok (.getfield 21, 3) := by decide +kernel
theorem dX0_solveNarrow_114 : decode cX0_solveNarrow 114 = .ok (.iload_n 1, 1) := by decide +kernel
theorem dX0_solveNarrow_115 : decode cX0_solveNarrow 115 = .ok (.dload_n 2, 1) := by decide +kernel
theorem dX0_solveNarrow_116 : decode cX0_solveNarrow 116 = .ok (.dload 4, 2) := by decide +kernel
theorem dX0_solveNarrow_118 : decode cX0_solveNarrow 118 = .ok (.aload_n 0, 1) := by decide +kernel
theorem dX0_solveNarrow_119 : decode cX0_solveNarrow 119 = .ok (.getfield 27, 3) := by decide +kernel
theorem dX0_solveNarrow_122 : decode cX0_solveNarrow 122 = .ok (.invokevirtual 95, 3) := by decide +kernel
theorem dX0_solveNarrow_125 : decode cX0_solveNarrow 125 = .ok (.aload_n 0, 1) := by decide +kernel
theorem dX0_solveNarrow_126 : decode cX0_solveNarrow 126 = .ok (.getfield 31, 3) := by decide +kernel
theorem dX0_solveNarrow_129 : decode cX0_solveNarrow 129 = .ok (.invokevirtual 95, 3) := by decide +kernel
theorem dX0_solveNarrow_132 : decode cX0_solveNarrow 132 = .ok (.aload_n 0, 1) := by decide +kernel
theorem dX0_solveNarrow_133 : decode cX0_solveNarrow 133 = .ok (.getfield 31, 3) := by decide +kernel
theorem dX0_solveNarrow_136 : decode cX0_solveNarrow 136 = .ok (.getfield 98, 3) := by decide +kernel
theorem dX0_solveNarrow_139 : decode cX0_solveNarrow 139 = .ok (.aload_n 0, 1) := by decide +kernel
theorem dX0_solveNarrow_140 : decode cX0_solveNarrow 140 = .ok (.getfield 27, 3) := by decide +kernel
theorem dX0_solveNarrow_143 : decode cX0_solveNarrow 143 = .ok (.getfield 98, 3) := by decide +kernel
theorem dX0_solveNarrow_146 : decode cX0_solveNarrow 146 = .ok (.dsub, 1) := by decide +kernel
theorem dX0_solveNarrow_147 : decode cX0_solveNarrow 147 = .ok (.invokestatic 110, 3) := by decide +kernel
theorem dX0_solveNarrow_150 : decode cX0_solveNarrow 150 = .ok (.dastore, 1) := by decide +kernel
theorem dX0_solveNarrow_151 : decode cX0_solveNarrow 151 = .ok (.return_, 1) := by decide +kernel
theorem dX0_blend_0 : decode cX0_blend 0 = .ok (.dload_n 0, 1) := by decide +kernel
theorem dX0_blend_1 : decode cX0_blend 1 = .ok (.dconst 0, 1) := by decide +kernel
theorem dX0_blend_2 : decode cX0_blend 2 = .ok (.dcmp .g, 1) := by decide +kernel
theorem dX0_blend_3 : decode cX0_blend 3 = .ok (.ifCond .lt 6, 3) := by decide +kernel
theorem dX0_blend_6 : decode cX0_blend 6 = .ok (.dload 4, 2) := by decide +kernel
theorem dX0_blend_8 : decode cX0_blend 8 = .ok (.dreturn, 1) := by decide +kernel
theorem dX0_blend_9 : decode cX0_blend 9 = .ok (.dload_n 2, 1) := by decide +kernel
theorem dX0_blend_10 : decode cX0_blend 10 = .ok (.dconst 0, 1) := by decide +kernel
theorem dX0_blend_11 : decode cX0_blend 11 = .ok (.dcmp .l, 1) := by decide +kernel
theorem dX0_blend_12 : decode cX0_blend 12 = .ok (.ifCond .gt 6, 3) := by decide +kernel
theorem dX0_blend_15 : decode cX0_blend 15 = .ok (.dload 6, 2) := by decide +kernel
theorem dX0_blend_17 : decode cX0_blend 17 = .ok (.dreturn, 1) := by decide +kernel
theorem dX0_blend_18 : decode cX0_blend 18 = .ok (.dload_n 2, 1) := by decide +kernel
theorem dX0_blend_19 : decode cX0_blend 19 = .ok (.dload 4, 2) := by decide +kernel
theorem dX0_blend_21 : decode cX0_blend 21 = .ok (.dmul, 1) := by decide +kernel
theorem dX0_blend_22 : decode cX0_blend 22 = .ok (.dload_n 0, 1) := by decide +kernel
theorem dX0_blend_23 : decode cX0_blend 23 = .ok (.dload 6, 2) := by decide +kernel
theorem dX0_blend_25 : decode cX0_blend 25 = .ok (.dmul, 1) := by decide +kernel
theorem dX0_blend_26 : decode cX0_blend 26 = .ok (.dsub, 1) := by decide +kernel
theorem dX0_blend_27 : decode cX0_blend 27 = .ok (.dload_n 0, 1) := by decide +kernel
theorem dX0_blend_28 : decode cX0_blend 28 = .ok (.dload_n 2, 1) := by decide +kernel
theorem dX0_blend_29 : decode cX0_blend 29 = .ok (.dmul, 1) := by decide +kernel
theorem dX0_blend_30 : decode cX0_blend 30 = .ok (.dload 8, 2) := by decide +kernel
theorem dX0_blend_32 : decode cX0_blend 32 = .ok (.dmul, 1) := by decide +kernel
theorem dX0_blend_33 : decode cX0_blend 33 = .ok (.dadd, 1) := by decide +kernel
theorem dX0_blend_34 : decode cX0_blend 34 = .ok (.dload_n 2, 1) := by decide +kernel
theorem dX0_blend_35 : decode cX0_blend 35 = .ok (.dload_n 0, 1) := by decide +kernel
theorem dX0_blend_36 : decode cX0_blend 36 = .ok (.dsub, 1) := by decide +kernel
theorem dX0_blend_37 : decode cX0_blend 37 = .ok (.ddiv, 1) := by decide +kernel
theorem dX0_blend_38 : decode cX0_blend 38 = .ok (.dreturn, 1) := by decide +kernel
theorem dX1_init_0 : decode cX1_init 0 = .ok (.aload_n 0, 1) := by decide +kernel
theorem dX1_init_1 : decode cX1_init 1 = .ok (.invokespecial 3, 3) := by decide +kernel
theorem dX1_init_4 : decode cX1_init 4 = .ok (.aload_n 0, 1) := by decide +kernel
theorem dX1_init_5 : decode cX1_init 5 = .ok (.bipush 28, 2) := by decide +kernel
theorem dX1_init_7 : decode cX1_init 7 = .ok (.newarray .double, 2) := by decide +kernel
theorem dX1_init_9 : decode cX1_init 9 = .ok (.putfield 9, 3) := by decide +kernel
theorem dX1_init_12 : decode cX1_init 12 = .ok (.aload_n 0, 1) := by decide +kernel
theorem dX1_init_13 : decode cX1_init 13 = .ok (.bipush 28, 2) := by decide +kernel
theorem dX1_init_15 : decode cX1_init 15 = .ok (.newarray .double, 2) := by decide +kernel
theorem dX1_init_17 : decode cX1_init 17 = .ok (.putfield 15, 3) := by decide +kernel
theorem dX1_init_20 : decode cX1_init 20 = .ok (.aload_n 0, 1) := by decide +kernel
theorem dX1_init_21 : decode cX1_init 21 = .ok (.iconst 0, 1) := by decide +kernel
theorem dX1_init_22 : decode cX1_init 22 = .ok (.putfield 18, 3) := by decide +kernel
theorem dX1_init_25 : decode cX1_init 25 = .ok (.return_, 1) := by decide +kernel
theorem dX1_has_0 : decode cX1_has 0 = .ok (.iload_n 1, 1) := by decide +kernel
theorem dX1_has_1 : decode cX1_has 1 = .ok (.ifCond .lt 15, 3) := by decide +kernel
theorem dX1_has_4 : decode cX1_has 4 = .ok (.iload_n 1, 1) := by decide +kernel
theorem dX1_has_5 : decode cX1_has 5 = .ok (.aload_n 0, 1) := by decide +kernel
theorem dX1_has_6 : decode cX1_has 6 = .ok (.getfield 18, 3) := by decide +kernel
theorem dX1_has_9 : decode cX1_has 9 = .ok (.if_icmp .ge 7, 3) := by decide +kernel
theorem dX1_has_12 : decode cX1_has 12 = .ok (.iconst 1, 1) := by decide +kernel
theorem dX1_has_13 : decode cX1_has 13 = .ok (.goto 4, 3) := by decide +kernel
theorem dX1_has_16 : decode cX1_has 16 = .ok (.iconst 0, 1) := by decide +kernel
theorem dX1_has_17 : decode cX1_has 17 = .ok (.ireturn, 1) := by decide +kernel
theorem dX1_level_0 : decode cX1_level 0 = .ok (.aload_n 0, 1) := by decide +kernel
theorem dX1_level_1 : decode cX1_level 1 = .ok (.iload_n 1, 1) := by decide +kernel
theorem dX1_level_2 : decode cX1_level 2 = .ok (.putfield 18, 3) := by decide +kernel
theorem dX1_level_5 : decode cX1_level 5 = .ok (.iconst 0, 1) := by decide +kernel
theorem dX1_level_6 : decode cX1_level 6 = .ok (.istore_n 2, 1) := by decide +kernel
theorem dX1_level_7 : decode cX1_level 7 = .ok (.iload_n 2, 1) := by decide +kernel
theorem dX1_level_8 : decode cX1_level 8 = .ok (.bipush 28, 2) := by decide +kernel
theorem dX1_level_10 : decode cX1_level 10 = .ok (.if_icmp .ge 23, 3) := by decide +kernel
theorem dX1_level_13 : decode cX1_level 13 = .ok (.aload_n 0, 1) := by decide +kernel
theorem dX1_level_14 : decode cX1_level 14 = .ok (.getfield 9, 3) := by decide +kernel
theorem dX1_level_17 : decode cX1_level 17 = .ok (.iload_n 2, 1) := by decide +kernel
theorem dX1_level_18 : decode cX1_level 18 = .ok (.dconst 1, 1) := by decide +kernel
theorem dX1_level_19 : decode cX1_level 19 = .ok (.dastore, 1) := by decide +kernel
theorem dX1_level_20 : decode cX1_level 20 = .ok (.aload_n 0, 1) := by decide +kernel
theorem dX1_level_21 : decode cX1_level 21 = .ok (.getfield 15, 3) := by decide +kernel
theorem dX1_level_24 : decode cX1_level 24 = .ok (.iload_n 2, 1) := by decide +kernel
theorem dX1_level_25 : decode cX1_level 25 = .ok (.dconst 0, 1) := by decide +kernel
theorem dX1_level_26 : decode cX1_level 26 = .ok (.dastore, 1) := by decide +kernel
theorem dX1_level_27 : decode cX1_level 27 = .ok (.iinc 2 1, 3) := by decide +kernel
theorem dX1_level_30 : decode cX1_level 30 = .ok (.goto (-23), 3) := by decide +kernel
theorem dX1_level_33 : decode cX1_level 33 = .ok (.return_, 1) := by decide +kernel
theorem dX1_become_0 : decode cX1_become 0 = .ok (.aload_n 0, 1) := by decide +kernel
theorem dX1_become_1 : decode cX1_become 1 = .ok (.aload_n 1, 1) := by decide +kernel
theorem dX1_become_2 : decode cX1_become 2 = .ok (.getfield 18, 3) := by decide +kernel
theorem dX1_become_5 : decode cX1_become 5 = .ok (.putfield 18, 3) := by decide +kernel
theorem dX1_become_8 : decode cX1_become 8 = .ok (.aload_n 1, 1) := by decide +kernel
theorem dX1_become_9 : decode cX1_become 9 = .ok (.getfield 9, 3) := by decide +kernel
theorem dX1_become_12 : decode cX1_become 12 = .ok (.iconst 0, 1) := by decide +kernel
theorem dX1_become_13 : decode cX1_become 13 = .ok (.aload_n 0, 1) := by decide +kernel
theorem dX1_become_14 : decode cX1_become 14 = .ok (.getfield 9, 3) := by decide +kernel
theorem dX1_become_17 : decode cX1_become 17 = .ok (.iconst 0, 1) := by decide +kernel
theorem dX1_become_18 : decode cX1_become 18 = .ok (.bipush 28, 2) := by decide +kernel
theorem dX1_become_20 : decode cX1_become 20 = .ok (.invokestatic 22, 3) := by decide +kernel
theorem dX1_become_23 : decode cX1_become 23 = .ok (.aload_n 1, 1) := by decide +kernel
theorem dX1_become_24 : decode cX1_become 24 = .ok (.getfield 15, 3) := by decide +kernel
theorem dX1_become_27 : decode cX1_become 27 = .ok (.iconst 0, 1) := by decide +kernel
theorem dX1_become_28 : decode cX1_become 28 = .ok (.aload_n 0, 1) := by decide +kernel
theorem dX1_become_29 : decode cX1_become 29 = .ok (.getfield 15, 3) := by decide +kernel
theorem dX1_become_32 : decode cX1_become 32 = .ok (.iconst 0, 1) := by decide +kernel
theorem dX1_become_33 : decode cX1_become 33 = .ok (.bipush 28, 2) := by decide +kernel
theorem dX1_become_35 : decode cX1_become 35 = .ok (.invokestatic 22, 3) := by decide +kernel
theorem dX1_become_38 : decode cX1_become 38 = .ok (.return_, 1) := by decide +kernel
set_option maxRecDepth 20000 in
theorem ggX1_fillEnds_X1_copy : GoodIn wsX1_fillEnds wsX1_copy := goodIn_r _ [6, 7, 8, 13, 14, 15] (by decide +kernel) (by decide +kernel)
set_option maxRecDepth 20000 in
theorem gX1_fillEnds_X1_copy : GoodIn wsX1_fillEnds (wsV RX1 28 RX1 yX1_copy wsX1_copy) := goodIn_app (goodIn_of _ (by decide +kernel)) ggX1_fillEnds_X1_copy
set_option maxRecDepth 20000 in
theorem ggX1_fillEnds_X1_mirror : GoodIn wsX1_fillEnds wsX1_mirror := goodIn_r _ [12, 7, 8, 13, 14, 15] (by decide +kernel) (by decide +kernel)
set_option maxRecDepth 20000 in
theorem gX1_fillEnds_X1_mirror : GoodIn wsX1_fillEnds (wsV RX1 32 RX1 yX1_mirror wsX1_mirror) := goodIn_app (goodIn_of _ (by decide +kernel)) ggX1_fillEnds_X1_mirror
theorem dX1_fillEnds_0 : decode cX1_fillEnds 0 = .ok (.iconst 2, 1) := by decide +kernel
theorem dX1_fillEnds_1 : decode cX1_fillEnds 1 = .ok (.istore_n 2, 1) := by decide +kernel
theorem dX1_fillEnds_2 : decode cX1_fillEnds 2 = .ok (.iconst 2, 1) := by decide +kernel
theorem dX1_fillEnds_3 : decode cX1_fillEnds 3 = .ok (.aload_n 0, 1) := by decide +kernel
theorem dX1_fillEnds_4 : decode cX1_fillEnds 4 = .ok (.getfield 18, 3) := by decide +kernel
theorem dX1_fillEnds_7 : decode cX1_fillEnds 7 = .ok (.iadd, 1) := by decide +kernel
theorem dX1_fillEnds_8 : decode cX1_fillEnds 8 = .ok (.iconst 1, 1) := by decide +kernel
theorem dX1_fillEnds_9 : decode cX1_fillEnds 9 = .ok (.isub, 1) := by decide +kernel
theorem dX1_fillEnds_10 : decode cX1_fillEnds 10 = .ok (.istore_n 3, 1) := by decide +kernel
theorem dX1_fillEnds_11 : decode cX1_fillEnds 11 = .ok (.iconst 1, 1) := by decide +kernel
theorem dX1_fillEnds_12 : decode cX1_fillEnds 12 = .ok (.istore 4, 2) := by decide +kernel
theorem dX1_fillEnds_14 : decode cX1_fillEnds 14 = .ok (.iload 4, 2) := by decide +kernel
theorem dX1_fillEnds_16 : decode cX1_fillEnds 16 = .ok (.iconst 2, 1) := by decide +kernel
theorem dX1_fillEnds_17 : decode cX1_fillEnds 17 = .ok (.if_icmp .gt 117, 3) := by decide +kernel
theorem dX1_fillEnds_20 : decode cX1_fillEnds 20 = .ok (.iload_n 1, 1) := by decide +kernel
theorem dX1_fillEnds_21 : decode cX1_fillEnds 21 = .ok (.lookupswitch 89 #[(0, 27), (1, 58)], 27) := by decide +kernel
