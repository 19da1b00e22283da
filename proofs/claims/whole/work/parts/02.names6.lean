theorem dX4_run_9 : decode cX4_run 9 = .ok (.goto 4, 3) := by decide +kernel
theorem dX4_run_12 : decode cX4_run 12 = .ok (.iconst 0, 1) := by decide +kernel
theorem dX4_run_13 : decode cX4_run 13 = .ok (.iconst 1, 1) := by decide +kernel
theorem dX4_run_14 : decode cX4_run 14 = .ok (.invokevirtual 41, 3) := by decide +kernel
theorem dX4_run_17 : decode cX4_run 17 = .ok (.ifCond .eq 5, 3) := by decide +kernel
theorem dX4_run_20 : decode cX4_run 20 = .ok (.iconst 0, 1) := by decide +kernel
theorem dX4_run_21 : decode cX4_run 21 = .ok (.ireturn, 1) := by decide +kernel
theorem dX4_run_22 : decode cX4_run 22 = .ok (.dload_n 1, 1) := by decide +kernel
theorem dX4_run_23 : decode cX4_run 23 = .ok (.dstore_n 3, 1) := by decide +kernel
theorem dX4_run_24 : decode cX4_run 24 = .ok (.iconst 0, 1) := by decide +kernel
theorem dX4_run_25 : decode cX4_run 25 = .ok (.istore 5, 2) := by decide +kernel
theorem dX4_run_27 : decode cX4_run 27 = .ok (.iload 5, 2) := by decide +kernel
theorem dX4_run_29 : decode cX4_run 29 = .ok (.bipush 40, 2) := by decide +kernel
theorem dX4_run_31 : decode cX4_run 31 = .ok (.if_icmp .ge 51, 3) := by decide +kernel
theorem dX4_run_34 : decode cX4_run 34 = .ok (.dload_n 3, 1) := by decide +kernel
theorem dX4_run_35 : decode cX4_run 35 = .ok (.ldc2_w 171, 3) := by decide +kernel
theorem dX4_run_38 : decode cX4_run 38 = .ok (.dcmp .g, 1) := by decide +kernel
theorem dX4_run_39 : decode cX4_run 39 = .ok (.ifCond .lt 43, 3) := by decide +kernel
theorem dX4_run_42 : decode cX4_run 42 = .ok (.aload_n 0, 1) := by decide +kernel
theorem dX4_run_43 : decode cX4_run 43 = .ok (.dload_n 3, 1) := by decide +kernel
theorem dX4_run_44 : decode cX4_run 44 = .ok (.invokevirtual 168, 3) := by decide +kernel
theorem dX4_run_47 : decode cX4_run 47 = .ok (.dstore 6, 2) := by decide +kernel
theorem dX4_run_49 : decode cX4_run 49 = .ok (.aload_n 0, 1) := by decide +kernel
theorem dX4_run_50 : decode cX4_run 50 = .ok (.dload 6, 2) := by decide +kernel
theorem dX4_run_52 : decode cX4_run 52 = .ok (.dconst 0, 1) := by decide +kernel
theorem dX4_run_53 : decode cX4_run 53 = .ok (.dcmp .l, 1) := by decide +kernel
theorem dX4_run_54 : decode cX4_run 54 = .ok (.ifCond .ne 7, 3) := by decide +kernel
theorem dX4_run_57 : decode cX4_run 57 = .ok (.iconst 1, 1) := by decide +kernel
theorem dX4_run_58 : decode cX4_run 58 = .ok (.goto 4, 3) := by decide +kernel
theorem dX4_run_61 : decode cX4_run 61 = .ok (.iconst 0, 1) := by decide +kernel
theorem dX4_run_62 : decode cX4_run 62 = .ok (.iconst 2, 1) := by decide +kernel
theorem dX4_run_63 : decode cX4_run 63 = .ok (.invokevirtual 41, 3) := by decide +kernel
theorem dX4_run_66 : decode cX4_run 66 = .ok (.ifCond .eq 5, 3) := by decide +kernel
theorem dX4_run_69 : decode cX4_run 69 = .ok (.iconst 0, 1) := by decide +kernel
theorem dX4_run_70 : decode cX4_run 70 = .ok (.ireturn, 1) := by decide +kernel
theorem dX4_run_71 : decode cX4_run 71 = .ok (.dload_n 3, 1) := by decide +kernel
theorem dX4_run_72 : decode cX4_run 72 = .ok (.dload 6, 2) := by decide +kernel
theorem dX4_run_74 : decode cX4_run 74 = .ok (.dsub, 1) := by decide +kernel
theorem dX4_run_75 : decode cX4_run 75 = .ok (.dstore_n 3, 1) := by decide +kernel
theorem dX4_run_76 : decode cX4_run 76 = .ok (.iinc 5 1, 3) := by decide +kernel
theorem dX4_run_79 : decode cX4_run 79 = .ok (.goto (-52), 3) := by decide +kernel
theorem dX4_run_82 : decode cX4_run 82 = .ok (.iload 5, 2) := by decide +kernel
theorem dX4_run_84 : decode cX4_run 84 = .ok (.ireturn, 1) := by decide +kernel
set_option maxRecDepth 20000 in
theorem ggX4_cell_X4_out : GoodIn wsX4_cell wsX4_out := goodIn_r _ [7] (by decide +kernel) (by decide +kernel)
set_option maxRecDepth 20000 in
theorem gX4_cell_X4_out : GoodIn wsX4_cell (va_wsS RX4 37 yX4_out wsX4_out) := goodIn_app (goodIn_of _ (by decide +kernel)) ggX4_cell_X4_out
set_option maxRecDepth 20000 in
theorem ggX4_cell_X4_fails : GoodIn wsX4_cell wsX4_fails := goodIn_r _ [11, 12, 17, 18, 19, 20, 21, 22, 23, 24, 25, 26, 27, 28, 29, 30, 31, 32, 33, 34, 35, 36] (by decide +kernel) (by decide +kernel)
set_option maxRecDepth 20000 in
theorem gX4_cell_X4_fails : GoodIn wsX4_cell (wsV RX4 41 RX4 yX4_fails wsX4_fails) := goodIn_app (goodIn_of _ (by decide +kernel)) ggX4_cell_X4_fails
set_option maxRecDepth 20000 in
theorem ggX4_cell_X4_root : GoodIn wsX4_cell wsX4_root := goodIn_r _ [15, 16] (by decide +kernel) (by decide +kernel)
set_option maxRecDepth 20000 in
theorem gX4_cell_X4_root : GoodIn wsX4_cell (va_wsS RX4 69 yX4_root wsX4_root) := goodIn_app (goodIn_of _ (by decide +kernel)) ggX4_cell_X4_root
theorem dX4_cell_0 : decode cX4_cell 0 = .ok (.aload_n 0, 1) := by decide +kernel
theorem dX4_cell_1 : decode cX4_cell 1 = .ok (.iload_n 1, 1) := by decide +kernel
theorem dX4_cell_2 : decode cX4_cell 2 = .ok (.iconst 0, 1) := by decide +kernel
theorem dX4_cell_3 : decode cX4_cell 3 = .ok (.aload_n 0, 1) := by decide +kernel
theorem dX4_cell_4 : decode cX4_cell 4 = .ok (.getfield 30, 3) := by decide +kernel
theorem dX4_cell_7 : decode cX4_cell 7 = .ok (.iconst 1, 1) := by decide +kernel
theorem dX4_cell_8 : decode cX4_cell 8 = .ok (.isub, 1) := by decide +kernel
theorem dX4_cell_9 : decode cX4_cell 9 = .ok (.invokestatic 37, 3) := by decide +kernel
theorem dX4_cell_12 : decode cX4_cell 12 = .ok (.ifCond .ne 12, 3) := by decide +kernel
theorem dX4_cell_15 : decode cX4_cell 15 = .ok (.iload_n 2, 1) := by decide +kernel
theorem dX4_cell_16 : decode cX4_cell 16 = .ok (.iconst 0, 1) := by decide +kernel
theorem dX4_cell_17 : decode cX4_cell 17 = .ok (.iconst 3, 1) := by decide +kernel
theorem dX4_cell_18 : decode cX4_cell 18 = .ok (.invokestatic 37, 3) := by decide +kernel
theorem dX4_cell_21 : decode cX4_cell 21 = .ok (.ifCond .eq 7, 3) := by decide +kernel
theorem dX4_cell_24 : decode cX4_cell 24 = .ok (.iconst 1, 1) := by decide +kernel
theorem dX4_cell_25 : decode cX4_cell 25 = .ok (.goto 4, 3) := by decide +kernel
theorem dX4_cell_28 : decode cX4_cell 28 = .ok (.iconst 0, 1) := by decide +kernel
theorem dX4_cell_29 : decode cX4_cell 29 = .ok (.iconst 1, 1) := by decide +kernel
theorem dX4_cell_30 : decode cX4_cell 30 = .ok (.invokevirtual 41, 3) := by decide +kernel
theorem dX4_cell_33 : decode cX4_cell 33 = .ok (.ifCond .eq 5, 3) := by decide +kernel
theorem dX4_cell_36 : decode cX4_cell 36 = .ok (.dconst 0, 1) := by decide +kernel
theorem dX4_cell_37 : decode cX4_cell 37 = .ok (.dreturn, 1) := by decide +kernel
theorem dX4_cell_38 : decode cX4_cell 38 = .ok (.aload_n 0, 1) := by decide +kernel
theorem dX4_cell_39 : decode cX4_cell 39 = .ok (.getfield 7, 3) := by decide +kernel
theorem dX4_cell_42 : decode cX4_cell 42 = .ok (.iload_n 1, 1) := by decide +kernel
theorem dX4_cell_43 : decode cX4_cell 43 = .ok (.iconst 2, 1) := by decide +kernel
theorem dX4_cell_44 : decode cX4_cell 44 = .ok (.iadd, 1) := by decide +kernel
theorem dX4_cell_45 : decode cX4_cell 45 = .ok (.daload, 1) := by decide +kernel
theorem dX4_cell_46 : decode cX4_cell 46 = .ok (.dstore_n 3, 1) := by decide +kernel
theorem dX4_cell_47 : decode cX4_cell 47 = .ok (.aload_n 0, 1) := by decide +kernel
theorem dX4_cell_48 : decode cX4_cell 48 = .ok (.getfield 13, 3) := by decide +kernel
theorem dX4_cell_51 : decode cX4_cell 51 = .ok (.iload_n 1, 1) := by decide +kernel
theorem dX4_cell_52 : decode cX4_cell 52 = .ok (.iconst 2, 1) := by decide +kernel
theorem dX4_cell_53 : decode cX4_cell 53 = .ok (.iadd, 1) := by decide +kernel
theorem dX4_cell_54 : decode cX4_cell 54 = .ok (.daload, 1) := by decide +kernel
theorem dX4_cell_55 : decode cX4_cell 55 = .ok (.dstore 5, 2) := by decide +kernel
theorem dX4_cell_57 : decode cX4_cell 57 = .ok (.iload_n 2, 1) := by decide +kernel
theorem dX4_cell_58 : decode cX4_cell 58 = .ok (.ifCond .ne 7, 3) := by decide +kernel
theorem dX4_cell_61 : decode cX4_cell 61 = .ok (.dload_n 3, 1) := by decide +kernel
theorem dX4_cell_62 : decode cX4_cell 62 = .ok (.goto 29, 3) := by decide +kernel
theorem dX4_cell_65 : decode cX4_cell 65 = .ok (.iload_n 2, 1) := by decide +kernel
theorem dX4_cell_66 : decode cX4_cell 66 = .ok (.iconst 1, 1) := by decide +kernel
theorem dX4_cell_67 : decode cX4_cell 67 = .ok (.if_icmp .ne 8, 3) := by decide +kernel
theorem dX4_cell_70 : decode cX4_cell 70 = .ok (.dload 5, 2) := by decide +kernel
theorem dX4_cell_72 : decode cX4_cell 72 = .ok (.goto 19, 3) := by decide +kernel
theorem dX4_cell_75 : decode cX4_cell 75 = .ok (.iload_n 2, 1) := by decide +kernel
theorem dX4_cell_76 : decode cX4_cell 76 = .ok (.iconst 2, 1) := by decide +kernel
theorem dX4_cell_77 : decode cX4_cell 77 = .ok (.if_icmp .ne 10, 3) := by decide +kernel
theorem dX4_cell_80 : decode cX4_cell 80 = .ok (.dload 5, 2) := by decide +kernel
theorem dX4_cell_82 : decode cX4_cell 82 = .ok (.dload_n 3, 1) := by decide +kernel
theorem dX4_cell_83 : decode cX4_cell 83 = .ok (.ddiv, 1) := by decide +kernel
theorem dX4_cell_84 : decode cX4_cell 84 = .ok (.goto 7, 3) := by decide +kernel
theorem dX4_cell_87 : decode cX4_cell 87 = .ok (.dload_n 3, 1) := by decide +kernel
theorem dX4_cell_88 : decode cX4_cell 88 = .ok (.invokestatic 69, 3) := by decide +kernel
theorem dX4_cell_91 : decode cX4_cell 91 = .ok (.dreturn, 1) := by decide +kernel
set_option maxRecDepth 20000 in
theorem ggX4_flux_X4_out : GoodIn wsX4_flux wsX4_out := goodIn_r _ [7] (by decide +kernel) (by decide +kernel)
set_option maxRecDepth 20000 in
theorem gX4_flux_X4_out : GoodIn wsX4_flux (va_wsS RX4 37 yX4_out wsX4_out) := goodIn_app (goodIn_of _ (by decide +kernel)) ggX4_flux_X4_out
set_option maxRecDepth 20000 in
theorem ggX4_flux_X4_fails : GoodIn wsX4_flux wsX4_fails := goodIn_r _ [11, 12, 70, 71, 72, 73, 74, 75, 76, 77, 78, 79, 80, 81, 82, 83, 84, 85, 86, 87, 88, 89] (by decide +kernel) (by decide +kernel)
set_option maxRecDepth 20000 in
theorem gX4_flux_X4_fails : GoodIn wsX4_flux (wsV RX4 41 RX4 yX4_fails wsX4_fails) := goodIn_app (goodIn_of _ (by decide +kernel)) ggX4_flux_X4_fails
set_option maxRecDepth 20000 in
theorem ggX4_flux_X4_close : GoodIn wsX4_flux wsX4_close := goodIn_r _ [16, 1, 17, 18, 19, 70, 71, 72, 73, 74, 75, 76, 77, 78, 79, 80, 81, 82, 83, 84, 85, 86, 87, 88, 89] (by decide +kernel) (by decide +kernel)
set_option maxRecDepth 20000 in
theorem gX4_flux_X4_close : GoodIn wsX4_flux (wsV RX4 130 RX4 yX4_close wsX4_close) := goodIn_app (goodIn_of _ (by decide +kernel)) ggX4_flux_X4_close
set_option maxRecDepth 20000 in
theorem ggX4_flux_X4_face : GoodIn wsX4_flux wsX4_face := goodIn_r _ [23, 18, 24, 25, 26, 19, 27, 28, 29, 30, 31, 3, 2, 32, 33, 34, 6, 35, 36, 37, 38, 39, 40, 41, 42, 43, 44, 45, 46, 47, 48, 49, 50, 51, 52, 53, 54, 55, 56, 57, 58, 59, 60, 61, 62, 63, 64, 65, 66, 67, 68, 69, 70, 71, 72, 73, 74, 75, 76, 77, 78, 79, 80, 81, 82, 83, 84, 85, 86, 87, 88, 89] (by decide +kernel) (by decide +kernel)
set_option maxRecDepth 20000 in
theorem gX4_flux_X4_face : GoodIn wsX4_flux (wsV RX4 133 RX4 yX4_face wsX4_face) := goodIn_app (goodIn_of _ (by decide +kernel)) ggX4_flux_X4_face
theorem dX4_flux_0 : decode cX4_flux 0 = .ok (.aload_n 0, 1) := by decide +kernel
theorem dX4_flux_1 : decode cX4_flux 1 = .ok (.iload_n 1, 1) := by decide +kernel
theorem dX4_flux_2 : decode cX4_flux 2 = .ok (.iconst 0, 1) := by decide +kernel
theorem dX4_flux_3 : decode cX4_flux 3 = .ok (.aload_n 0, 1) := by decide +kernel
theorem dX4_flux_4 : decode cX4_flux 4 = .ok (.getfield 30, 3) := by decide +kernel
theorem dX4_flux_7 : decode cX4_flux 7 = .ok (.invokestatic 37, 3) := by decide +kernel
theorem dX4_flux_10 : decode cX4_flux 10 = .ok (.iconst 1, 1) := by decide +kernel
theorem dX4_flux_11 : decode cX4_flux 11 = .ok (.invokevirtual 41, 3) := by decide +kernel
theorem dX4_flux_14 : decode cX4_flux 14 = .ok (.ifCond .eq 5, 3) := by decide +kernel
theorem dX4_flux_17 : decode cX4_flux 17 = .ok (.dconst 0, 1) := by decide +kernel
theorem dX4_flux_18 : decode cX4_flux 18 = .ok (.dreturn, 1) := by decide +kernel
theorem dX4_flux_19 : decode cX4_flux 19 = .ok (.aload_n 0, 1) := by decide +kernel
theorem dX4_flux_20 : decode cX4_flux 20 = .ok (.iconst 0, 1) := by decide +kernel
theorem dX4_flux_21 : decode cX4_flux 21 = .ok (.invokevirtual 130, 3) := by decide +kernel
theorem dX4_flux_24 : decode cX4_flux 24 = .ok (.aload_n 0, 1) := by decide +kernel
theorem dX4_flux_25 : decode cX4_flux 25 = .ok (.iconst 0, 1) := by decide +kernel
theorem dX4_flux_26 : decode cX4_flux 26 = .ok (.iload_n 1, 1) := by decide +kernel
theorem dX4_flux_27 : decode cX4_flux 27 = .ok (.invokevirtual 133, 3) := by decide +kernel
theorem dX4_flux_30 : decode cX4_flux 30 = .ok (.iload_n 2, 1) := by decide +kernel
theorem dX4_flux_31 : decode cX4_flux 31 = .ok (.ifCond .eq 10, 3) := by decide +kernel
theorem dX4_flux_34 : decode cX4_flux 34 = .ok (.aload_n 0, 1) := by decide +kernel
theorem dX4_flux_35 : decode cX4_flux 35 = .ok (.getfield 120, 3) := by decide +kernel
theorem dX4_flux_38 : decode cX4_flux 38 = .ok (.goto 7, 3) := by decide +kernel
theorem dX4_flux_41 : decode cX4_flux 41 = .ok (.aload_n 0, 1) := by decide +kernel
theorem dX4_flux_42 : decode cX4_flux 42 = .ok (.getfield 117, 3) := by decide +kernel
theorem dX4_flux_45 : decode cX4_flux 45 = .ok (.dreturn, 1) := by decide +kernel
theorem dX4_sum_0 : decode cX4_sum 0 = .ok (.aload_n 0, 1) := by decide +kernel
theorem dX4_sum_1 : decode cX4_sum 1 = .ok (.iconst 0, 1) := by decide +kernel
theorem dX4_sum_2 : decode cX4_sum 2 = .ok (.putfield 27, 3) := by decide +kernel
theorem dX4_sum_5 : decode cX4_sum 5 = .ok (.dconst 0, 1) := by decide +kernel
theorem dX4_sum_6 : decode cX4_sum 6 = .ok (.dstore_n 2, 1) := by decide +kernel
theorem dX4_sum_7 : decode cX4_sum 7 = .ok (.dconst 0, 1) := by decide +kernel
theorem dX4_sum_8 : decode cX4_sum 8 = .ok (.dstore 4, 2) := by decide +kernel
theorem dX4_sum_10 : decode cX4_sum 10 = .ok (.iconst 2, 1) := by decide +kernel
theorem dX4_sum_11 : decode cX4_sum 11 = .ok (.istore 6, 2) := by decide +kernel
theorem dX4_sum_13 : decode cX4_sum 13 = .ok (.iload 6, 2) := by decide +kernel
theorem dX4_sum_15 : decode cX4_sum 15 = .ok (.aload_n 0, 1) := by decide +kernel
theorem dX4_sum_16 : decode cX4_sum 16 = .ok (.getfield 30, 3) := by decide +kernel
theorem dX4_sum_19 : decode cX4_sum 19 = .ok (.iconst 2, 1) := by decide +kernel
theorem dX4_sum_20 : decode cX4_sum 20 = .ok (.iadd, 1) := by decide +kernel
theorem dX4_sum_21 : decode cX4_sum 21 = .ok (.if_icmp .ge 53, 3) := by decide +kernel
theorem dX4_sum_24 : decode cX4_sum 24 = .ok (.iload_n 1, 1) := by decide +kernel
theorem dX4_sum_25 : decode cX4_sum 25 = .ok (.ifCond .eq 13, 3) := by decide +kernel
theorem dX4_sum_28 : decode cX4_sum 28 = .ok (.aload_n 0, 1) := by decide +kernel
theorem dX4_sum_29 : decode cX4_sum 29 = .ok (.getfield 13, 3) := by decide +kernel
theorem dX4_sum_32 : decode cX4_sum 32 = .ok (.iload 6, 2) := by decide +kernel
theorem dX4_sum_34 : decode cX4_sum 34 = .ok (.daload, 1) := by decide +kernel
theorem dX4_sum_35 : decode cX4_sum 35 = .ok (.goto 10, 3) := by decide +kernel
theorem dX4_sum_38 : decode cX4_sum 38 = .ok (.aload_n 0, 1) := by decide +kernel
theorem dX4_sum_39 : decode cX4_sum 39 = .ok (.getfield 7, 3) := by decide +kernel
theorem dX4_sum_42 : decode cX4_sum 42 = .ok (.iload 6, 2) := by decide +kernel
theorem dX4_sum_44 : decode cX4_sum 44 = .ok (.daload, 1) := by decide +kernel
theorem dX4_sum_45 : decode cX4_sum 45 = .ok (.dload 4, 2) := by decide +kernel
theorem dX4_sum_47 : decode cX4_sum 47 = .ok (.dsub, 1) := by decide +kernel
theorem dX4_sum_48 : decode cX4_sum 48 = .ok (.dstore 7, 2) := by decide +kernel
theorem dX4_sum_50 : decode cX4_sum 50 = .ok (.dload_n 2, 1) := by decide +kernel
theorem dX4_sum_51 : decode cX4_sum 51 = .ok (.dload 7, 2) := by decide +kernel
theorem dX4_sum_53 : decode cX4_sum 53 = .ok (.dadd, 1) := by decide +kernel
theorem dX4_sum_54 : decode cX4_sum 54 = .ok (.dstore 9, 2) := by decide +kernel
theorem dX4_sum_56 : decode cX4_sum 56 = .ok (.dload 9, 2) := by decide +kernel
theorem dX4_sum_58 : decode cX4_sum 58 = .ok (.dload_n 2, 1) := by decide +kernel
theorem dX4_sum_59 : decode cX4_sum 59 = .ok (.dsub, 1) := by decide +kernel
theorem dX4_sum_60 : decode cX4_sum 60 = .ok (.dload 7, 2) := by decide +kernel
theorem dX4_sum_62 : decode cX4_sum 62 = .ok (.dsub, 1) := by decide +kernel
theorem dX4_sum_63 : decode cX4_sum 63 = .ok (.dstore 4, 2) := by decide +kernel
theorem dX4_sum_65 : decode cX4_sum 65 = .ok (.dload 9, 2) := by decide +kernel
theorem dX4_sum_67 : decode cX4_sum 67 = .ok (.dstore_n 2, 1) := by decide +kernel
theorem dX4_sum_68 : decode cX4_sum 68 = .ok (.iinc 6 1, 3) := by decide +kernel
theorem dX4_sum_71 : decode cX4_sum 71 = .ok (.goto (-58), 3) := by decide +kernel
theorem dX4_sum_74 : decode cX4_sum 74 = .ok (.dload_n 2, 1) := by decide +kernel
theorem dX4_sum_75 : decode cX4_sum 75 = .ok (.dreturn, 1) := by decide +kernel
theorem dX4_time_0 : decode cX4_time 0 = .ok (.aload_n 0, 1) := by decide +kernel
theorem dX4_time_1 : decode cX4_time 1 = .ok (.iconst 0, 1) := by decide +kernel
theorem dX4_time_2 : decode cX4_time 2 = .ok (.putfield 27, 3) := by decide +kernel
theorem dX4_time_5 : decode cX4_time 5 = .ok (.aload_n 0, 1) := by decide +kernel
theorem dX4_time_6 : decode cX4_time 6 = .ok (.getfield 33, 3) := by decide +kernel
theorem dX4_time_9 : decode cX4_time 9 = .ok (.dreturn, 1) := by decide +kernel
set_option maxRecDepth 20000 in
theorem ggX4_count_X4_out : GoodIn wsX4_count wsX4_out := goodIn_r _ [8] (by decide +kernel) (by decide +kernel)
set_option maxRecDepth 20000 in
theorem gX4_count_X4_out : GoodIn wsX4_count (va_wsS RX4 37 yX4_out wsX4_out) := goodIn_app (goodIn_of _ (by decide +kernel)) ggX4_count_X4_out
set_option maxRecDepth 20000 in
theorem ggX4_count_X4_fails : GoodIn wsX4_count wsX4_fails := goodIn_r _ [12, 13, 14, 15, 16, 17, 18, 19, 20, 21, 22, 23, 24, 25, 26, 27, 28, 29, 30, 31, 32, 33] (by decide +kernel) (by decide +kernel)
set_option maxRecDepth 20000 in
theorem gX4_count_X4_fails : GoodIn wsX4_count (wsV RX4 41 RX4 yX4_fails wsX4_fails) := goodIn_app (goodIn_of _ (by decide +kernel)) ggX4_count_X4_fails
theorem dX4_count_0 : decode cX4_count 0 = .ok (.aload_n 0, 1) := by decide +kernel
theorem dX4_count_1 : decode cX4_count 1 = .ok (.iload_n 1, 1) := by decide +kernel
theorem dX4_count_2 : decode cX4_count 2 = .ok (.iconst 0, 1) := by decide +kernel
theorem dX4_count_3 : decode cX4_count 3 = .ok (.iconst 3, 1) := by decide +kernel
theorem dX4_count_4 : decode cX4_count 4 = .ok (.invokestatic 37, 3) := by decide +kernel
theorem dX4_count_7 : decode cX4_count 7 = .ok (.iconst 1, 1) := by decide +kernel
theorem dX4_count_8 : decode cX4_count 8 = .ok (.invokevirtual 41, 3) := by decide +kernel
theorem dX4_count_11 : decode cX4_count 11 = .ok (.ifCond .eq 5, 3) := by decide +kernel
theorem dX4_count_14 : decode cX4_count 14 = .ok (.iconst 0, 1) := by decide +kernel
theorem dX4_count_15 : decode cX4_count 15 = .ok (.ireturn, 1) := by decide +kernel
theorem dX4_count_16 : decode cX4_count 16 = .ok (.iload_n 1, 1) := by decide +kernel
theorem dX4_count_17 : decode cX4_count 17 = .ok (.ifCond .ne 10, 3) := by decide +kernel
theorem dX4_count_20 : decode cX4_count 20 = .ok (.aload_n 0, 1) := by decide +kernel
theorem dX4_count_21 : decode cX4_count 21 = .ok (.getfield 30, 3) := by decide +kernel
theorem dX4_count_24 : decode cX4_count 24 = .ok (.goto 31, 3) := by decide +kernel
theorem dX4_count_27 : decode cX4_count 27 = .ok (.iload_n 1, 1) := by decide +kernel
theorem dX4_count_28 : decode cX4_count 28 = .ok (.iconst 1, 1) := by decide +kernel
theorem dX4_count_29 : decode cX4_count 29 = .ok (.if_icmp .ne 10, 3) := by decide +kernel
theorem dX4_count_32 : decode cX4_count 32 = .ok (.aload_n 0, 1) := by decide +kernel
theorem dX4_count_33 : decode cX4_count 33 = .ok (.getfield 154, 3) := by decide +kernel
theorem dX4_count_36 : decode cX4_count 36 = .ok (.goto 19, 3) := by decide +kernel
theorem dX4_count_39 : decode cX4_count 39 = .ok (.iload_n 1, 1) := by decide +kernel
theorem dX4_count_40 : decode cX4_count 40 = .ok (.iconst 2, 1) := by decide +kernel
theorem dX4_count_41 : decode cX4_count 41 = .ok (.if_icmp .ne 10, 3) := by decide +kernel
theorem dX4_count_44 : decode cX4_count 44 = .ok (.aload_n 0, 1) := by decide +kernel
theorem dX4_count_45 : decode cX4_count 45 = .ok (.getfield 157, 3) := by decide +kernel
theorem dX4_count_48 : decode cX4_count 48 = .ok (.goto 7, 3) := by decide +kernel
theorem dX4_count_51 : decode cX4_count 51 = .ok (.aload_n 0, 1) := by decide +kernel
theorem dX4_count_52 : decode cX4_count 52 = .ok (.getfield 160, 3) := by decide +kernel
theorem dX4_count_55 : decode cX4_count 55 = .ok (.ireturn, 1) := by decide +kernel
set_option maxRecDepth 20000 in
theorem ggL_cells_X3_cells : GoodIn wsL_cells wsX3_cells := goodIn_ca (goodIn_r _ [6, 7, 8, 9, 10, 11, 12, 5, 13, 14, 15, 16, 17, 18, 19, 20, 21, 22, 23, 24, 25, 26, 27, 28, 29, 30, 31, 32, 33, 34, 35] (by decide +kernel) (by decide +kernel)) (goodIn_sub (fun _ h => List.mem_cons_of_mem _ (List.mem_append_right _ h)) (by decide +kernel))
set_option maxRecDepth 20000 in
theorem gL_cells_X3_cells : GoodIn wsL_cells (wsV RL 7 RX3 yX3_cells wsX3_cells) := goodIn_app (goodIn_of _ (by decide +kernel)) ggL_cells_X3_cells
theorem dL_cells_0 : decode cL_cells 0 = .ok (.aload_n 0, 1) := by decide +kernel
theorem dL_cells_1 : decode cL_cells 1 = .ok (.iload_n 1, 1) := by decide +kernel
theorem dL_cells_2 : decode cL_cells 2 = .ok (.invokevirtual 7, 3) := by decide +kernel
theorem dL_cells_5 : decode cL_cells 5 = .ok (.goto 6, 3) := by decide +kernel
theorem dL_cells_8 : decode cL_cells 8 = .ok (.astore_n 2, 1) := by decide +kernel
theorem dL_cells_9 : decode cL_cells 9 = .ok (.iconst 1, 1) := by decide +kernel
theorem dL_cells_10 : decode cL_cells 10 = .ok (.ireturn, 1) := by decide +kernel
theorem dL_cells_11 : decode cL_cells 11 = .ok (.iconst 0, 1) := by decide +kernel
theorem dL_cells_12 : decode cL_cells 12 = .ok (.ireturn, 1) := by decide +kernel
set_option maxRecDepth 20000 in
theorem ggL_choose_X3_choose : GoodIn wsL_choose wsX3_choose := goodIn_ca (goodIn_r _ [6, 7, 8, 9, 10, 11, 12, 13, 14, 5, 15, 16, 17, 18, 19, 20, 21, 22, 23, 24, 25, 26] (by decide +kernel) (by decide +kernel)) (goodIn_sub (fun _ h => List.mem_cons_of_mem _ (List.mem_append_right _ h)) (by decide +kernel))
set_option maxRecDepth 20000 in
theorem gL_choose_X3_choose : GoodIn wsL_choose (wsV RL 15 RX3 yX3_choose wsX3_choose) := goodIn_app (goodIn_of _ (by decide +kernel)) ggL_choose_X3_choose
theorem dL_choose_0 : decode cL_choose 0 = .ok (.aload_n 0, 1) := by decide +kernel
theorem dL_choose_1 : decode cL_choose 1 = .ok (.iload_n 1, 1) := by decide +kernel
theorem dL_choose_2 : decode cL_choose 2 = .ok (.iload_n 2, 1) := by decide +kernel
theorem dL_choose_3 : decode cL_choose 3 = .ok (.iload_n 3, 1) := by decide +kernel
theorem dL_choose_4 : decode cL_choose 4 = .ok (.iload 4, 2) := by decide +kernel
theorem dL_choose_6 : decode cL_choose 6 = .ok (.invokevirtual 15, 3) := by decide +kernel
theorem dL_choose_9 : decode cL_choose 9 = .ok (.goto 7, 3) := by decide +kernel
theorem dL_choose_12 : decode cL_choose 12 = .ok (.astore 5, 2) := by decide +kernel
theorem dL_choose_14 : decode cL_choose 14 = .ok (.iconst 1, 1) := by decide +kernel
theorem dL_choose_15 : decode cL_choose 15 = .ok (.ireturn, 1) := by decide +kernel
theorem dL_choose_16 : decode cL_choose 16 = .ok (.iconst 0, 1) := by decide +kernel
theorem dL_choose_17 : decode cL_choose 17 = .ok (.ireturn, 1) := by decide +kernel
set_option maxRecDepth 20000 in
theorem ggL_put_X3_put : GoodIn wsL_put wsX3_put := goodIn_ca (goodIn_r _ [6, 7, 8, 9, 10, 11, 12, 13, 14, 15, 16, 17, 18, 19, 20, 21, 22, 23, 24, 25, 26, 27, 28, 29, 30, 31, 32, 33, 34, 35] (by decide +kernel) (by decide +kernel)) (goodIn_sub (fun _ h => List.mem_cons_of_mem _ (List.mem_append_right _ h)) (by decide +kernel))
set_option maxRecDepth 20000 in
theorem gL_put_X3_put : GoodIn wsL_put (wsV RL 19 RX3 yX3_put wsX3_put) := goodIn_app (goodIn_of _ (by decide +kernel)) ggL_put_X3_put
theorem dL_put_0 : decode cL_put 0 = .ok (.aload_n 0, 1) := by decide +kernel
theorem dL_put_1 : decode cL_put 1 = .ok (.iload_n 1, 1) := by decide +kernel
theorem dL_put_2 : decode cL_put 2 = .ok (.dload_n 2, 1) := by decide +kernel
theorem dL_put_3 : decode cL_put 3 = .ok (.dload 4, 2) := by decide +kernel
theorem dL_put_5 : decode cL_put 5 = .ok (.invokevirtual 19, 3) := by decide +kernel
theorem dL_put_8 : decode cL_put 8 = .ok (.goto 7, 3) := by decide +kernel
theorem dL_put_11 : decode cL_put 11 = .ok (.astore 6, 2) := by decide +kernel
theorem dL_put_13 : decode cL_put 13 = .ok (.iconst 1, 1) := by decide +kernel
theorem dL_put_14 : decode cL_put 14 = .ok (.ireturn, 1) := by decide +kernel
theorem dL_put_15 : decode cL_put 15 = .ok (.iconst 0, 1) := by decide +kernel
theorem dL_put_16 : decode cL_put 16 = .ok (.ireturn, 1) := by decide +kernel
set_option maxRecDepth 20000 in
theorem ggL_step_X3_step : GoodIn wsL_step wsX3_step := goodIn_ca (goodIn_ca (goodIn_r _ [7, 8, 9, 10, 11, 6, 12, 13, 14, 15, 16, 17, 18, 19, 20, 21, 22, 23, 24, 25, 26, 27, 28, 29, 30, 31, 32, 33, 34, 35, 36, 37, 38, 39, 40, 41, 42, 43, 44, 45, 46, 47, 48, 49, 50, 51, 52, 53, 54, 55, 56, 57, 58, 59, 60, 61, 62, 63, 64, 65, 66, 67, 68, 69, 70, 71, 72, 73, 74, 75, 76, 77, 78, 79, 80, 81, 82, 83, 84, 85, 86, 87, 88, 89, 90, 91, 92, 93, 94, 95, 96, 97, 98, 99, 100, 101, 102, 103, 104, 105, 106, 107, 108, 109, 110, 111, 112, 113, 114, 115, 116, 117, 118, 119, 120, 121, 122, 123, 124, 125, 126, 127, 128, 129, 130, 131, 132, 133, 134, 135, 136, 137, 138, 139, 140, 141, 142, 143, 144, 145, 146, 147, 148, 149, 150, 151, 152, 153, 154, 155, 156, 157, 158, 159, 160, 161, 162, 163, 164, 165, 166, 167, 168, 169, 170, 171, 172, 173, 174, 175, 176, 177, 178, 179, 180, 181, 182, 183, 184, 185, 186, 187, 188] (by decide +kernel) (by decide +kernel)) (goodIn_sub (fun _ h => List.mem_cons_of_mem _ (List.mem_append_left _ (List.mem_append_right _ h))) (by decide +kernel))) (goodIn_sub (fun _ h => List.mem_cons_of_mem _ (List.mem_append_right _ h)) (by decide +kernel))
set_option maxRecDepth 20000 in
theorem gL_step_X3_step : GoodIn wsL_step (wsV RL 23 RX3 yX3_step wsX3_step) := goodIn_app (goodIn_of _ (by decide +kernel)) ggL_step_X3_step
theorem dL_step_0 : decode cL_step 0 = .ok (.aload_n 3, 1) := by decide +kernel
theorem dL_step_1 : decode cL_step 1 = .ok (.iconst 0, 1) := by decide +kernel
theorem dL_step_2 : decode cL_step 2 = .ok (.aload_n 0, 1) := by decide +kernel
theorem dL_step_3 : decode cL_step 3 = .ok (.dload_n 1, 1) := by decide +kernel
theorem dL_step_4 : decode cL_step 4 = .ok (.invokevirtual 23, 3) := by decide +kernel
theorem dL_step_7 : decode cL_step 7 = .ok (.dastore, 1) := by decide +kernel
theorem dL_step_8 : decode cL_step 8 = .ok (.goto 11, 3) := by decide +kernel
theorem dL_step_11 : decode cL_step 11 = .ok (.astore 4, 2) := by decide +kernel
theorem dL_step_13 : decode cL_step 13 = .ok (.iconst 1, 1) := by decide +kernel
theorem dL_step_14 : decode cL_step 14 = .ok (.ireturn, 1) := by decide +kernel
theorem dL_step_15 : decode cL_step 15 = .ok (.astore 4, 2) := by decide +kernel
theorem dL_step_17 : decode cL_step 17 = .ok (.iconst 2, 1) := by decide +kernel
theorem dL_step_18 : decode cL_step 18 = .ok (.ireturn, 1) := by decide +kernel
theorem dL_step_19 : decode cL_step 19 = .ok (.iconst 0, 1) := by decide +kernel
theorem dL_step_20 : decode cL_step 20 = .ok (.ireturn, 1) := by decide +kernel
set_option maxRecDepth 20000 in
theorem ggL_run_X3_run : GoodIn wsL_run wsX3_run := goodIn_ca (goodIn_ca (goodIn_r _ [7, 8, 9, 10, 11, 12, 6, 13, 14, 15, 16, 17, 18, 19, 20, 21, 22, 23, 24, 25, 26, 27, 28, 29, 30, 31, 32, 33, 34, 35, 36, 37, 38, 39, 40, 41, 42, 43, 44, 45, 46, 47, 48, 49, 50, 51, 52, 53, 54, 55, 56, 57, 58, 59, 60, 61, 62, 63, 64, 65, 66, 67, 68, 69, 70, 71, 72, 73, 74, 75, 76, 77, 78, 79, 80, 81, 82, 83, 84, 85, 86, 87, 88, 89, 90, 91, 92, 93, 94, 95, 96, 97, 98, 99, 100, 101, 102, 103, 104, 105, 106, 107, 108, 109, 110, 111, 112, 113, 114, 115, 116, 117, 118, 119, 120, 121, 122, 123, 124, 125, 126, 127, 128, 129, 130, 131, 132, 133, 134, 135, 136, 137, 138, 139, 140, 141, 142, 143, 144, 145, 146, 147, 148, 149, 150, 151, 152, 153, 154, 155, 156, 157, 158, 159, 160, 161, 162, 163, 164, 165, 166, 167, 168, 169, 170, 171, 172, 173, 174, 175, 176, 177, 178, 179, 180, 181, 182, 183, 184, 185, 186, 187, 188, 189] (by decide +kernel) (by decide +kernel)) (goodIn_sub (fun _ h => List.mem_cons_of_mem _ (List.mem_append_left _ (List.mem_append_right _ h))) (by decide +kernel))) (goodIn_sub (fun _ h => List.mem_cons_of_mem _ (List.mem_append_right _ h)) (by decide +kernel))
set_option maxRecDepth 20000 in
theorem gL_run_X3_run : GoodIn wsL_run (wsV RL 29 RX3 yX3_run wsX3_run) := goodIn_app (goodIn_of _ (by decide +kernel)) ggL_run_X3_run
theorem dL_run_0 : decode cL_run 0 = .ok (.aload_n 3, 1) := by decide +kernel
theorem dL_run_1 : decode cL_run 1 = .ok (.iconst 0, 1) := by decide +kernel
theorem dL_run_2 : decode cL_run 2 = .ok (.aload_n 0, 1) := by decide +kernel
theorem dL_run_3 : decode cL_run 3 = .ok (.dload_n 1, 1) := by decide +kernel
theorem dL_run_4 : decode cL_run 4 = .ok (.invokevirtual 29, 3) := by decide +kernel
theorem dL_run_7 : decode cL_run 7 = .ok (.i2l, 1) := by decide +kernel
theorem dL_run_8 : decode cL_run 8 = .ok (.lastore, 1) := by decide +kernel
theorem dL_run_9 : decode cL_run 9 = .ok (.goto 11, 3) := by decide +kernel
theorem dL_run_12 : decode cL_run 12 = .ok (.astore 4, 2) := by decide +kernel
theorem dL_run_14 : decode cL_run 14 = .ok (.iconst 1, 1) := by decide +kernel
theorem dL_run_15 : decode cL_run 15 = .ok (.ireturn, 1) := by decide +kernel
theorem dL_run_16 : decode cL_run 16 = .ok (.astore 4, 2) := by decide +kernel
theorem dL_run_18 : decode cL_run 18 = .ok (.iconst 2, 1) := by decide +kernel
theorem dL_run_19 : decode cL_run 19 = .ok (.ireturn, 1) := by decide +kernel
theorem dL_run_20 : decode cL_run 20 = .ok (.iconst 0, 1) := by decide +kernel
theorem dL_run_21 : decode cL_run 21 = .ok (.ireturn, 1) := by decide +kernel
set_option maxRecDepth 20000 in
theorem ggL_cell_X3_cell : GoodIn wsL_cell wsX3_cell := goodIn_ca (goodIn_r _ [6, 7, 8, 9, 10, 11, 12, 13, 14, 15, 16, 17, 18, 19, 5, 20, 21, 22, 23, 24, 25, 26, 27, 28, 29, 30, 31, 32, 33, 34, 35, 36, 37, 38] (by decide +kernel) (by decide +kernel)) (goodIn_sub (fun _ h => List.mem_cons_of_mem _ (List.mem_append_right _ h)) (by decide +kernel))
set_option maxRecDepth 20000 in
theorem gL_cell_X3_cell : GoodIn wsL_cell (wsV RL 33 RX3 yX3_cell wsX3_cell) := goodIn_app (goodIn_of _ (by decide +kernel)) ggL_cell_X3_cell
theorem dL_cell_0 : decode cL_cell 0 = .ok (.aload_n 3, 1) := by decide +kernel
theorem dL_cell_1 : decode cL_cell 1 = .ok (.iconst 0, 1) := by decide +kernel
theorem dL_cell_2 : decode cL_cell 2 = .ok (.aload_n 0, 1) := by decide +kernel
theorem dL_cell_3 : decode cL_cell 3 = .ok (.iload_n 1, 1) := by decide +kernel
theorem dL_cell_4 : decode cL_cell 4 = .ok (.iload_n 2, 1) := by decide +kernel
theorem dL_cell_5 : decode cL_cell 5 = .ok (.invokevirtual 33, 3) := by decide +kernel
theorem dL_cell_8 : decode cL_cell 8 = .ok (.dastore, 1) := by decide +kernel
theorem dL_cell_9 : decode cL_cell 9 = .ok (.goto 7, 3) := by decide +kernel
theorem dL_cell_12 : decode cL_cell 12 = .ok (.astore 4, 2) := by decide +kernel
theorem dL_cell_14 : decode cL_cell 14 = .ok (.iconst 1, 1) := by decide +kernel
theorem dL_cell_15 : decode cL_cell 15 = .ok (.ireturn, 1) := by decide +kernel
theorem dL_cell_16 : decode cL_cell 16 = .ok (.iconst 0, 1) := by decide +kernel
theorem dL_cell_17 : decode cL_cell 17 = .ok (.ireturn, 1) := by decide +kernel
set_option maxRecDepth 20000 in
theorem ggL_flux_X3_flux : GoodIn wsL_flux wsX3_flux := goodIn_ca (goodIn_r _ [6, 7, 8, 9, 10, 11, 12, 13, 14, 15, 16, 17, 18, 5, 19, 20, 21, 22, 23, 24, 25, 26, 27, 28, 29, 30, 31, 32, 33, 34, 35, 36, 37, 38, 39, 40, 41, 42, 43, 44, 45, 46, 47, 48, 49, 50, 51, 52, 53, 54, 55, 56, 57, 58, 59, 60, 61, 62, 63, 64, 65, 66, 67, 68, 69, 70, 71, 72, 73, 74, 75, 76, 77, 78, 79, 80, 81, 82, 83, 84, 85, 86, 87, 88, 89, 90, 91, 92, 93, 94, 95, 96, 97, 98, 99, 100, 101, 102, 103, 104, 105, 106, 107, 108, 109, 110, 111, 112, 113, 114, 115, 116, 117, 118, 119, 120, 121, 122, 123, 124, 125, 126, 127, 128, 129, 130, 131, 132, 133, 134, 135, 136, 137, 138, 139, 140, 141, 142] (by decide +kernel) (by decide +kernel)) (goodIn_sub (fun _ h => List.mem_cons_of_mem _ (List.mem_append_right _ h)) (by decide +kernel))
set_option maxRecDepth 20000 in
theorem gL_flux_X3_flux : GoodIn wsL_flux (wsV RL 39 RX3 yX3_flux wsX3_flux) := goodIn_app (goodIn_of _ (by decide +kernel)) ggL_flux_X3_flux
theorem dL_flux_0 : decode cL_flux 0 = .ok (.aload_n 3, 1) := by decide +kernel
theorem dL_flux_1 : decode cL_flux 1 = .ok (.iconst 0, 1) := by decide +kernel
theorem dL_flux_2 : decode cL_flux 2 = .ok (.aload_n 0, 1) := by decide +kernel
theorem dL_flux_3 : decode cL_flux 3 = .ok (.iload_n 1, 1) := by decide +kernel
theorem dL_flux_4 : decode cL_flux 4 = .ok (.iload_n 2, 1) := by decide +kernel
theorem dL_flux_5 : decode cL_flux 5 = .ok (.invokevirtual 39, 3) := by decide +kernel
theorem dL_flux_8 : decode cL_flux 8 = .ok (.dastore, 1) := by decide +kernel
theorem dL_flux_9 : decode cL_flux 9 = .ok (.goto 7, 3) := by decide +kernel
theorem dL_flux_12 : decode cL_flux 12 = .ok (.astore 4, 2) := by decide +kernel
theorem dL_flux_14 : decode cL_flux 14 = .ok (.iconst 1, 1) := by decide +kernel
theorem dL_flux_15 : decode cL_flux 15 = .ok (.ireturn, 1) := by decide +kernel
theorem dL_flux_16 : decode cL_flux 16 = .ok (.iconst 0, 1) := by decide +kernel
theorem dL_flux_17 : decode cL_flux 17 = .ok (.ireturn, 1) := by decide +kernel
set_option maxRecDepth 20000 in
theorem ggL_count_X3_count : GoodIn wsL_count wsX3_count := goodIn_ca (goodIn_r _ [6, 7, 8, 9, 10, 11, 12, 13, 14, 15, 16, 17, 18, 19, 20, 21, 22, 23, 24, 25, 26, 27] (by decide +kernel) (by decide +kernel)) (goodIn_sub (fun _ h => List.mem_cons_of_mem _ (List.mem_append_right _ h)) (by decide +kernel))
set_option maxRecDepth 20000 in
theorem gL_count_X3_count : GoodIn wsL_count (wsV RL 43 RX3 yX3_count wsX3_count) := goodIn_app (goodIn_of _ (by decide +kernel)) ggL_count_X3_count
theorem dL_count_0 : decode cL_count 0 = .ok (.aload_n 2, 1) := by decide +kernel
theorem dL_count_1 : decode cL_count 1 = .ok (.iconst 0, 1) := by decide +kernel
theorem dL_count_2 : decode cL_count 2 = .ok (.aload_n 0, 1) := by decide +kernel
theorem dL_count_3 : decode cL_count 3 = .ok (.iload_n 1, 1) := by decide +kernel
theorem dL_count_4 : decode cL_count 4 = .ok (.invokevirtual 43, 3) := by decide +kernel
theorem dL_count_7 : decode cL_count 7 = .ok (.i2l, 1) := by decide +kernel
theorem dL_count_8 : decode cL_count 8 = .ok (.lastore, 1) := by decide +kernel
theorem dL_count_9 : decode cL_count 9 = .ok (.goto 6, 3) := by decide +kernel
theorem dL_count_12 : decode cL_count 12 = .ok (.astore_n 3, 1) := by decide +kernel
theorem dL_count_13 : decode cL_count 13 = .ok (.iconst 1, 1) := by decide +kernel
theorem dL_count_14 : decode cL_count 14 = .ok (.ireturn, 1) := by decide +kernel
theorem dL_count_15 : decode cL_count 15 = .ok (.iconst 0, 1) := by decide +kernel
theorem dL_count_16 : decode cL_count 16 = .ok (.ireturn, 1) := by decide +kernel
set_option maxRecDepth 20000 in
theorem ggL_law_X3_init : GoodIn wsL_law wsX3_init := goodIn_r _ [11, 12, 13, 14, 15, 16, 17, 18, 19, 20, 21, 22, 23, 24, 25, 26, 27, 28, 29, 30, 31, 32, 33, 34, 7, 35, 36, 37, 38, 39, 40, 41, 42, 43, 44, 45, 46, 47, 48, 49, 50, 51, 52, 53, 54, 55, 56, 57, 58, 59, 60, 471, 472, 473, 440, 441, 442, 443, 444, 445, 446, 447, 448, 449, 450, 474, 475, 476, 477, 478, 479, 480, 481, 482, 483] (by decide +kernel) (by decide +kernel)
set_option maxRecDepth 20000 in
theorem gL_law_X3_init : GoodIn wsL_law (wsX3_init) := ggL_law_X3_init
set_option maxRecDepth 20000 in
theorem ggL_law_X4_init : GoodIn wsL_law wsX4_init := goodIn_r _ [63, 64, 13, 14, 7, 65, 66, 67, 68, 69, 70, 71, 5, 72, 73, 74, 451, 452, 453, 454, 455, 456, 457, 458, 459, 460, 461, 462, 463, 464, 465, 466, 467, 468, 469, 470] (by decide +kernel) (by decide +kernel)
set_option maxRecDepth 20000 in
theorem gL_law_X4_init : GoodIn wsL_law (wsX4_init) := ggL_law_X4_init
set_option maxRecDepth 20000 in
theorem ggL_law_L_cells : GoodIn wsL_law wsL_cells := goodIn_ca (goodIn_r _ [78, 79, 80, 81, 82, 2, 83, 84, 85, 18, 28, 86, 87, 88, 57, 58, 59, 17, 60, 37, 35, 36, 440, 441, 442, 443, 444, 445, 446, 447, 448, 449, 450, 471, 472, 473] (by decide +kernel) (by decide +kernel)) (goodIn_sub (fun _ h => List.mem_append_left _ (List.mem_append_left _ (List.mem_append_right _ h))) (by decide +kernel))
set_option maxRecDepth 20000 in
theorem gL_law_L_cells : GoodIn wsL_law (va_wsS RL 51 yL_cells wsL_cells) := goodIn_app (goodIn_of _ (by decide +kernel)) ggL_law_L_cells
set_option maxRecDepth 20000 in
theorem ggL_law_X4_cells : GoodIn wsL_law wsX4_cells := goodIn_r _ [92, 93, 94, 5, 95, 96, 97, 98, 99, 100, 69, 70, 71, 72, 73, 74, 65, 66, 451, 452, 453, 454, 455, 456, 457, 458, 459, 460, 461, 462, 463, 464, 465, 466, 467, 468, 469, 470] (by decide +kernel) (by decide +kernel)
set_option maxRecDepth 20000 in
theorem gL_law_X4_cells : GoodIn wsL_law (wsV RL 56 RX4 yX4_cells wsX4_cells) := goodIn_app (goodIn_of _ (by decide +kernel)) ggL_law_X4_cells
set_option maxRecDepth 20000 in
theorem ggL_law_X4_thrown : GoodIn wsL_law wsX4_thrown := goodIn_r _ [104, 100, 451, 452, 453, 454, 455, 456, 457, 458, 459, 460, 461, 462, 463, 464, 465, 466, 467, 468, 469, 470] (by decide +kernel) (by decide +kernel)
set_option maxRecDepth 20000 in
theorem gL_law_X4_thrown : GoodIn wsL_law (wsV RL 57 RX4 yX4_thrown wsX4_thrown) := goodIn_app (goodIn_of _ (by decide +kernel)) ggL_law_X4_thrown
set_option maxRecDepth 20000 in
theorem ggL_law_L_choose : GoodIn wsL_law wsL_choose := goodIn_ca (goodIn_r _ [107, 79, 108, 109, 110, 2, 111, 84, 85, 24, 25, 26, 27, 86, 87, 88, 440, 441, 442, 443, 444, 445, 446, 447, 448, 449, 450] (by decide +kernel) (by decide +kernel)) (goodIn_sub (fun _ h => List.mem_append_left _ (List.mem_append_left _ (List.mem_append_right _ h))) (by decide +kernel))
set_option maxRecDepth 20000 in
theorem gL_law_L_choose : GoodIn wsL_law (va_wsS RL 61 yL_choose wsL_choose) := goodIn_app (goodIn_of _ (by decide +kernel)) ggL_law_L_choose
set_option maxRecDepth 20000 in
theorem ggL_law_X4_choose : GoodIn wsL_law wsX4_choose := goodIn_r _ [115, 116, 67, 117, 68, 93, 94, 5, 95, 96, 97, 98, 99, 100, 451, 452, 453, 454, 455, 456, 457, 458, 459, 460, 461, 462, 463, 464, 465, 466, 467, 468, 469, 470] (by decide +kernel) (by decide +kernel)
set_option maxRecDepth 20000 in
theorem gL_law_X4_choose : GoodIn wsL_law (wsV RL 64 RX4 yX4_choose wsX4_choose) := goodIn_app (goodIn_of _ (by decide +kernel)) ggL_law_X4_choose
set_option maxRecDepth 20000 in
theorem ggL_law_L_put : GoodIn wsL_law wsL_put := goodIn_ca (goodIn_r _ [120, 79, 121, 122, 123, 2, 124, 84, 85, 18, 125, 126, 127, 128, 129, 130, 131, 132, 133, 17, 134, 37, 440, 441, 442, 443, 444, 445, 446, 447, 448, 449, 450, 471, 472, 473] (by decide +kernel) (by decide +kernel)) (goodIn_sub (fun _ h => List.mem_append_left _ (List.mem_append_left _ (List.mem_append_right _ h))) (by decide +kernel))
set_option maxRecDepth 20000 in
theorem gL_law_L_put : GoodIn wsL_law (va_wsS RL 67 yL_put wsL_put) := goodIn_app (goodIn_of _ (by decide +kernel)) ggL_law_L_put
set_option maxRecDepth 20000 in
theorem ggL_law_X4_put : GoodIn wsL_law wsX4_put := goodIn_r _ [138, 73, 139, 140, 141, 142, 65, 66, 93, 94, 5, 95, 143, 144, 145, 96, 97, 98, 99, 100, 451, 452, 453, 454, 455, 456, 457, 458, 459, 460, 461, 462, 463, 464, 465, 466, 467, 468, 469, 470] (by decide +kernel) (by decide +kernel)
set_option maxRecDepth 20000 in
theorem gL_law_X4_put : GoodIn wsL_law (wsV RL 70 RX4 yX4_put wsX4_put) := goodIn_app (goodIn_of _ (by decide +kernel)) ggL_law_X4_put
set_option maxRecDepth 20000 in
theorem ggL_law_L_step : GoodIn wsL_law wsL_step := goodIn_ca (goodIn_ca (goodIn_r _ [148, 79, 149, 150, 151, 152, 2, 153, 84, 85, 154, 155, 156, 157, 158, 159, 160, 161, 162, 163, 18, 28, 29, 30, 164, 31, 165, 166, 167, 17, 168, 37, 35, 36, 169, 170, 171, 172, 173, 174, 175, 176, 177, 178, 179, 180, 181, 182, 183, 19, 27, 24, 23, 25, 26, 184, 185, 186, 187, 188, 189, 190, 191, 192, 193, 194, 195, 196, 197, 198, 199, 200, 201, 202, 203, 204, 205, 206, 22, 207, 208, 209, 210, 211, 212, 213, 214, 215, 41, 42, 216, 217, 218, 219, 220, 221, 222, 223, 224, 225, 226, 227, 228, 229, 230, 231, 48, 49, 232, 233, 234, 47, 235, 53, 54, 55, 56, 236, 237, 238, 239, 240, 241, 43, 242, 44, 243, 244, 245, 246, 247, 248, 249, 250, 251, 252, 253, 254, 255, 256, 257, 258, 259, 260, 261, 262, 263, 264, 265, 266, 267, 268, 269, 270, 271, 272, 273, 274, 275, 276, 277, 278, 279, 280, 281, 440, 441, 442, 443, 444, 445, 446, 447, 448, 449, 450, 471, 472, 473, 474, 475, 476, 477, 478, 479, 480, 481, 482, 483] (by decide +kernel) (by decide +kernel)) (goodIn_sub (fun _ h => List.mem_append_left _ (List.mem_append_left _ (List.mem_append_right _ h))) (by decide +kernel))) (goodIn_sub (fun _ h => List.mem_append_left _ (List.mem_append_right _ h)) (by decide +kernel))
set_option maxRecDepth 20000 in
theorem gL_law_L_step : GoodIn wsL_law (va_wsS RL 71 yL_step wsL_step) := goodIn_app (goodIn_of _ (by decide +kernel)) ggL_law_L_step
set_option maxRecDepth 20000 in
theorem ggL_law_X4_step : GoodIn wsL_law wsX4_step := goodIn_r _ [285, 286, 287, 5, 288, 289, 96, 97, 98, 99, 100, 290, 291, 292, 293, 74, 294, 295, 296, 297, 298, 299, 300, 301, 73, 65, 66, 302, 303, 304, 305, 306, 307, 308, 309, 310, 311, 312, 313, 314, 315, 316, 317, 318, 68, 319, 320, 321, 322, 323, 324, 325, 326, 327, 328, 329, 330, 331, 116, 332, 333, 334, 335, 336, 337, 338, 339, 340, 341, 117, 342, 343, 344, 345, 346, 347, 348, 349, 67, 350, 351, 352, 353, 354, 355, 356, 357, 358, 359, 360, 361, 362, 363, 364, 365, 451, 452, 453, 454, 455, 456, 457, 458, 459, 460, 461, 462, 463, 464, 465, 466, 467, 468, 469, 470] (by decide +kernel) (by decide +kernel)
set_option maxRecDepth 20000 in
theorem gL_law_X4_step : GoodIn wsL_law (wsV RL 74 RX4 yX4_step wsX4_step) := goodIn_app (goodIn_of _ (by decide +kernel)) ggL_law_X4_step
set_option maxRecDepth 20000 in
theorem ggL_law_L_run : GoodIn wsL_law wsL_run := goodIn_ca (goodIn_ca (goodIn_r _ [368, 79, 149, 369, 370, 371, 2, 372, 84, 85, 373, 154, 155, 156, 157, 158, 159, 160, 161, 162, 163, 18, 28, 29, 30, 164, 31, 165, 166, 167, 17, 168, 37, 35, 36, 169, 170, 171, 172, 173, 174, 175, 176, 177, 178, 179, 180, 181, 182, 183, 19, 27, 24, 23, 25, 26, 184, 185, 186, 187, 188, 189, 190, 191, 192, 193, 194, 195, 196, 197, 198, 199, 200, 201, 202, 203, 204, 205, 206, 22, 207, 208, 209, 210, 211, 212, 213, 214, 215, 41, 42, 216, 217, 218, 219, 220, 221, 222, 223, 224, 225, 226, 227, 228, 229, 230, 231, 48, 49, 232, 233, 234, 47, 235, 53, 54, 55, 56, 236, 237, 238, 239, 240, 241, 43, 242, 44, 243, 244, 245, 246, 247, 248, 249, 250, 251, 252, 253, 254, 255, 256, 257, 258, 259, 260, 261, 262, 263, 264, 265, 266, 267, 268, 269, 270, 271, 272, 273, 274, 275, 276, 277, 278, 279, 280, 281, 440, 441, 442, 443, 444, 445, 446, 447, 448, 449, 450, 471, 472, 473, 474, 475, 476, 477, 478, 479, 480, 481, 482, 483] (by decide +kernel) (by decide +kernel)) (goodIn_sub (fun _ h => List.mem_append_left _ (List.mem_append_left _ (List.mem_append_right _ h))) (by decide +kernel))) (goodIn_sub (fun _ h => List.mem_append_left _ (List.mem_append_right _ h)) (by decide +kernel))
set_option maxRecDepth 20000 in
theorem gL_law_L_run : GoodIn wsL_law (va_wsS RL 75 yL_run wsL_run) := goodIn_app (goodIn_of _ (by decide +kernel)) ggL_law_L_run
set_option maxRecDepth 20000 in
theorem ggL_law_X4_run : GoodIn wsL_law wsX4_run := goodIn_r _ [377, 378, 286, 287, 5, 288, 289, 96, 97, 98, 99, 100, 290, 291, 292, 293, 74, 294, 295, 296, 297, 298, 299, 300, 301, 73, 65, 66, 302, 303, 304, 305, 306, 307, 308, 309, 310, 311, 312, 313, 314, 315, 316, 317, 318, 68, 319, 320, 321, 322, 323, 324, 325, 326, 327, 328, 329, 330, 331, 116, 332, 333, 334, 335, 336, 337, 338, 339, 340, 341, 117, 342, 343, 344, 345, 346, 347, 348, 349, 67, 350, 351, 352, 353, 354, 355, 356, 357, 358, 359, 360, 361, 362, 363, 364, 365, 451, 452, 453, 454, 455, 456, 457, 458, 459, 460, 461, 462, 463, 464, 465, 466, 467, 468, 469, 470] (by decide +kernel) (by decide +kernel)
set_option maxRecDepth 20000 in
theorem gL_law_X4_run : GoodIn wsL_law (wsV RL 78 RX4 yX4_run wsX4_run) := goodIn_app (goodIn_of _ (by decide +kernel)) ggL_law_X4_run
set_option maxRecDepth 20000 in
theorem ggL_law_L_cell : GoodIn wsL_law wsL_cell := goodIn_ca (goodIn_r _ [381, 382, 383, 384, 385, 2, 386, 387, 388, 18, 129, 130, 131, 132, 133, 17, 134, 37, 389, 170, 171, 390, 174, 175, 164, 440, 441, 442, 443, 444, 445, 446, 447, 448, 449, 450, 471, 472, 473] (by decide +kernel) (by decide +kernel)) (goodIn_sub (fun _ h => List.mem_append_right _ h) (by decide +kernel))
set_option maxRecDepth 20000 in
theorem gL_law_L_cell : GoodIn wsL_law (va_wsS RL 79 yL_cell wsL_cell) := goodIn_app (goodIn_of _ (by decide +kernel)) ggL_law_L_cell
set_option maxRecDepth 20000 in
theorem ggL_law_X4_cell : GoodIn wsL_law wsX4_cell := goodIn_r _ [394, 73, 65, 66, 93, 94, 5, 95, 96, 97, 98, 99, 100, 309, 310, 311, 296, 451, 452, 453, 454, 455, 456, 457, 458, 459, 460, 461, 462, 463, 464, 465, 466, 467, 468, 469, 470] (by decide +kernel) (by decide +kernel)
set_option maxRecDepth 20000 in
theorem gL_law_X4_cell : GoodIn wsL_law (wsV RL 82 RX4 yX4_cell wsX4_cell) := goodIn_app (goodIn_of _ (by decide +kernel)) ggL_law_X4_cell
set_option maxRecDepth 20000 in
theorem ggL_law_L_flux : GoodIn wsL_law wsL_flux := goodIn_ca (goodIn_r _ [397, 382, 398, 399, 400, 2, 401, 387, 388, 18, 402, 24, 23, 25, 26, 403, 404, 86, 87, 88, 192, 193, 194, 17, 195, 37, 196, 197, 198, 199, 35, 36, 200, 201, 202, 203, 204, 205, 206, 22, 207, 208, 209, 210, 211, 212, 213, 214, 215, 41, 42, 216, 217, 218, 219, 220, 221, 222, 223, 224, 225, 226, 227, 228, 229, 230, 231, 48, 49, 232, 233, 234, 47, 235, 53, 54, 55, 56, 170, 171, 174, 175, 164, 236, 237, 238, 239, 240, 241, 43, 242, 44, 243, 178, 179, 176, 177, 244, 245, 246, 247, 248, 249, 250, 251, 252, 253, 254, 255, 256, 257, 258, 259, 260, 261, 262, 263, 172, 173, 440, 441, 442, 443, 444, 445, 446, 447, 448, 449, 450, 471, 472, 473, 474, 475, 476, 477, 478, 479, 480, 481, 482, 483] (by decide +kernel) (by decide +kernel)) (goodIn_sub (fun _ h => List.mem_append_right _ h) (by decide +kernel))
set_option maxRecDepth 20000 in
theorem gL_law_L_flux : GoodIn wsL_law (va_wsS RL 83 yL_flux wsL_flux) := goodIn_app (goodIn_of _ (by decide +kernel)) ggL_law_L_flux
set_option maxRecDepth 20000 in
theorem ggL_law_X4_flux : GoodIn wsL_law wsX4_flux := goodIn_r _ [408, 73, 324, 323, 93, 94, 5, 95, 96, 97, 98, 99, 100, 328, 329, 330, 331, 116, 65, 66, 332, 333, 334, 335, 296, 336, 337, 338, 339, 340, 341, 117, 342, 343, 344, 345, 325, 346, 347, 348, 349, 67, 350, 351, 352, 353, 306, 307, 308, 354, 355, 356, 303, 304, 305, 309, 310, 311, 312, 313, 314, 357, 358, 359, 360, 361, 362, 363, 364, 365, 451, 452, 453, 454, 455, 456, 457, 458, 459, 460, 461, 462, 463, 464, 465, 466, 467, 468, 469, 470] (by decide +kernel) (by decide +kernel)
set_option maxRecDepth 20000 in
theorem gL_law_X4_flux : GoodIn wsL_law (wsV RL 86 RX4 yX4_flux wsX4_flux) := goodIn_app (goodIn_of _ (by decide +kernel)) ggL_law_X4_flux
set_option maxRecDepth 20000 in
theorem ggL_law_X3_sum : GoodIn wsL_law wsX3_sum := goodIn_r _ [412, 18, 130, 129, 413, 414, 415, 17, 416, 37, 440, 441, 442, 443, 444, 445, 446, 447, 448, 449, 450, 471, 472, 473] (by decide +kernel) (by decide +kernel)
set_option maxRecDepth 20000 in
theorem gL_law_X3_sum : GoodIn wsL_law (wsV RL 87 RX3 yX3_sum wsX3_sum) := goodIn_app (goodIn_of _ (by decide +kernel)) ggL_law_X3_sum
set_option maxRecDepth 20000 in
theorem ggL_law_X4_sum : GoodIn wsL_law wsX4_sum := goodIn_r _ [420, 100, 73, 66, 65, 451, 452, 453, 454, 455, 456, 457, 458, 459, 460, 461, 462, 463, 464, 465, 466, 467, 468, 469, 470] (by decide +kernel) (by decide +kernel)
set_option maxRecDepth 20000 in
theorem gL_law_X4_sum : GoodIn wsL_law (wsV RL 91 RX4 yX4_sum wsX4_sum) := goodIn_app (goodIn_of _ (by decide +kernel)) ggL_law_X4_sum
set_option maxRecDepth 20000 in
theorem ggL_law_X3_time : GoodIn wsL_law wsX3_time := goodIn_r _ [424, 28, 440, 441, 442, 443, 444, 445, 446, 447, 448, 449, 450] (by decide +kernel) (by decide +kernel)
set_option maxRecDepth 20000 in
theorem gL_law_X3_time : GoodIn wsL_law (wsV RL 92 RX3 yX3_time wsX3_time) := goodIn_app (goodIn_of _ (by decide +kernel)) ggL_law_X3_time
set_option maxRecDepth 20000 in
theorem ggL_law_X4_time : GoodIn wsL_law wsX4_time := goodIn_r _ [428, 100, 74, 451, 452, 453, 454, 455, 456, 457, 458, 459, 460, 461, 462, 463, 464, 465, 466, 467, 468, 469, 470] (by decide +kernel) (by decide +kernel)
set_option maxRecDepth 20000 in
theorem gL_law_X4_time : GoodIn wsL_law (wsV RL 96 RX4 yX4_time wsX4_time) := goodIn_app (goodIn_of _ (by decide +kernel)) ggL_law_X4_time
set_option maxRecDepth 20000 in
theorem ggL_law_L_count : GoodIn wsL_law wsL_count := goodIn_ca (goodIn_r _ [431, 382, 432, 433, 434, 2, 435, 387, 388, 18, 402, 29, 30, 31, 440, 441, 442, 443, 444, 445, 446, 447, 448, 449, 450, 471, 472, 473] (by decide +kernel) (by decide +kernel)) (goodIn_sub (fun _ h => List.mem_append_right _ h) (by decide +kernel))
set_option maxRecDepth 20000 in
theorem gL_law_L_count : GoodIn wsL_law (va_wsS RL 97 yL_count wsL_count) := goodIn_app (goodIn_of _ (by decide +kernel)) ggL_law_L_count
set_option maxRecDepth 20000 in
theorem ggL_law_X4_count : GoodIn wsL_law wsX4_count := goodIn_r _ [439, 73, 294, 295, 297, 93, 94, 5, 95, 96, 97, 98, 99, 100, 451, 452, 453, 454, 455, 456, 457, 458, 459, 460, 461, 462, 463, 464, 465, 466, 467, 468, 469, 470] (by decide +kernel) (by decide +kernel)
set_option maxRecDepth 20000 in
theorem gL_law_X4_count : GoodIn wsL_law (wsV RL 100 RX4 yX4_count wsX4_count) := goodIn_app (goodIn_of _ (by decide +kernel)) ggL_law_X4_count
theorem dL_law_0 : decode cL_law 0 = .ok (.new 8, 3) := by decide +kernel
theorem dL_law_3 : decode cL_law 3 = .ok (.dup, 1) := by decide +kernel
theorem dL_law_4 : decode cL_law 4 = .ok (.invokespecial 47, 3) := by decide +kernel
theorem dL_law_7 : decode cL_law 7 = .ok (.astore_n 1, 1) := by decide +kernel
theorem dL_law_8 : decode cL_law 8 = .ok (.new 48, 3) := by decide +kernel
theorem dL_law_11 : decode cL_law 11 = .ok (.dup, 1) := by decide +kernel
theorem dL_law_12 : decode cL_law 12 = .ok (.invokespecial 50, 3) := by decide +kernel
theorem dL_law_15 : decode cL_law 15 = .ok (.astore_n 2, 1) := by decide +kernel
theorem dL_law_16 : decode cL_law 16 = .ok (.iconst 1, 1) := by decide +kernel
theorem dL_law_17 : decode cL_law 17 = .ok (.newarray .long, 2) := by decide +kernel
theorem dL_law_19 : decode cL_law 19 = .ok (.astore_n 3, 1) := by decide +kernel
theorem dL_law_20 : decode cL_law 20 = .ok (.iconst 1, 1) := by decide +kernel
theorem dL_law_21 : decode cL_law 21 = .ok (.newarray .double, 2) := by decide +kernel
theorem dL_law_23 : decode cL_law 23 = .ok (.astore 4, 2) := by decide +kernel
theorem dL_law_25 : decode cL_law 25 = .ok (.iconst 0, 1) := by decide +kernel
theorem dL_law_26 : decode cL_law 26 = .ok (.istore 5, 2) := by decide +kernel
theorem dL_law_28 : decode cL_law 28 = .ok (.iload 5, 2) := by decide +kernel
theorem dL_law_30 : decode cL_law 30 = .ok (.aload_n 0, 1) := by decide +kernel
theorem dL_law_31 : decode cL_law 31 = .ok (.arraylength, 1) := by decide +kernel
theorem dL_law_32 : decode cL_law 32 = .ok (.iconst 5, 1) := by decide +kernel
theorem dL_law_33 : decode cL_law 33 = .ok (.isub, 1) := by decide +kernel
theorem dL_law_34 : decode cL_law 34 = .ok (.if_icmp .gt 773, 3) := by decide +kernel
theorem dL_law_37 : decode cL_law 37 = .ok (.aload_n 0, 1) := by decide +kernel
theorem dL_law_38 : decode cL_law 38 = .ok (.iload 5, 2) := by decide +kernel
theorem dL_law_40 : decode cL_law 40 = .ok (.iaload, 1) := by decide +kernel
theorem dL_law_41 : decode cL_law 41 = .ok (.bipush 15, 2) := by decide +kernel
theorem dL_law_43 : decode cL_law 43 = .ok (.iand, 1) := by decide +kernel
theorem dL_law_44 : decode cL_law 44 = .ok (.tableswitch 757 0 9 #[56, 92, 164, 244, 331, 397, 486, 591, 660, 701], 56) := by decide +kernel
theorem dL_law_100 : decode cL_law 100 = .ok (.aload_n 1, 1) := by decide +kernel
theorem dL_law_101 : decode cL_law 101 = .ok (.aload_n 0, 1) := by decide +kernel
theorem dL_law_102 : decode cL_law 102 = .ok (.iload 5, 2) := by decide +kernel
theorem dL_law_104 : decode cL_law 104 = .ok (.iconst 1, 1) := by decide +kernel
theorem dL_law_105 : decode cL_law 105 = .ok (.iadd, 1) := by decide +kernel
theorem dL_law_106 : decode cL_law 106 = .ok (.iaload, 1) := by decide +kernel
theorem dL_law_107 : decode cL_law 107 = .ok (.invokestatic 51, 3) := by decide +kernel
theorem dL_law_110 : decode cL_law 110 = .ok (.istore 6, 2) := by decide +kernel
theorem dL_law_112 : decode cL_law 112 = .ok (.aload_n 2, 1) := by decide +kernel
theorem dL_law_113 : decode cL_law 113 = .ok (.aload_n 0, 1) := by decide +kernel
theorem dL_law_114 : decode cL_law 114 = .ok (.iload 5, 2) := by decide +kernel
theorem dL_law_116 : decode cL_law 116 = .ok (.iconst 1, 1) := by decide +kernel
theorem dL_law_117 : decode cL_law 117 = .ok (.iadd, 1) := by decide +kernel
theorem dL_law_118 : decode cL_law 118 = .ok (.iaload, 1) := by decide +kernel
theorem dL_law_119 : decode cL_law 119 = .ok (.invokevirtual 56, 3) := by decide +kernel
theorem dL_law_122 : decode cL_law 122 = .ok (.aload_n 2, 1) := by decide +kernel
theorem dL_law_123 : decode cL_law 123 = .ok (.invokevirtual 57, 3) := by decide +kernel
theorem dL_law_126 : decode cL_law 126 = .ok (.iload 6, 2) := by decide +kernel
theorem dL_law_128 : decode cL_law 128 = .ok (.if_icmp .eq 5, 3) := by decide +kernel
theorem dL_law_131 : decode cL_law 131 = .ok (.iconst 0, 1) := by decide +kernel
theorem dL_law_132 : decode cL_law 132 = .ok (.ireturn, 1) := by decide +kernel
theorem dL_law_133 : decode cL_law 133 = .ok (.goto 668, 3) := by decide +kernel
theorem dL_law_136 : decode cL_law 136 = .ok (.aload_n 1, 1) := by decide +kernel
theorem dL_law_137 : decode cL_law 137 = .ok (.aload_n 0, 1) := by decide +kernel
theorem dL_law_138 : decode cL_law 138 = .ok (.iload 5, 2) := by decide +kernel
theorem dL_law_140 : decode cL_law 140 = .ok (.iconst 1, 1) := by decide +kernel
theorem dL_law_141 : decode cL_law 141 = .ok (.iadd, 1) := by decide +kernel
theorem dL_law_142 : decode cL_law 142 = .ok (.iaload, 1) := by decide +kernel
theorem dL_law_143 : decode cL_law 143 = .ok (.aload_n 0, 1) := by decide +kernel
theorem dL_law_144 : decode cL_law 144 = .ok (.iload 5, 2) := by decide +kernel
theorem dL_law_146 : decode cL_law 146 = .ok (.iconst 2, 1) := by decide +kernel
theorem dL_law_147 : decode cL_law 147 = .ok (.iadd, 1) := by decide +kernel
theorem dL_law_148 : decode cL_law 148 = .ok (.iaload, 1) := by decide +kernel
theorem dL_law_149 : decode cL_law 149 = .ok (.aload_n 0, 1) := by decide +kernel
theorem dL_law_150 : decode cL_law 150 = .ok (.iload 5, 2) := by decide +kernel
theorem dL_law_152 : decode cL_law 152 = .ok (.iconst 3, 1) := by decide +kernel
theorem dL_law_153 : decode cL_law 153 = .ok (.iadd, 1) := by decide +kernel
theorem dL_law_154 : decode cL_law 154 = .ok (.iaload, 1) := by decide +kernel
theorem dL_law_155 : decode cL_law 155 = .ok (.aload_n 0, 1) := by decide +kernel
theorem dL_law_156 : decode cL_law 156 = .ok (.iload 5, 2) := by decide +kernel
theorem dL_law_158 : decode cL_law 158 = .ok (.iconst 4, 1) := by decide +kernel
theorem dL_law_159 : decode cL_law 159 = .ok (.iadd, 1) := by decide +kernel
theorem dL_law_160 : decode cL_law 160 = .ok (.iaload, 1) := by decide +kernel
theorem dL_law_161 : decode cL_law 161 = .ok (.invokestatic 61, 3) := by decide +kernel
theorem dL_law_164 : decode cL_law 164 = .ok (.istore 6, 2) := by decide +kernel
theorem dL_law_166 : decode cL_law 166 = .ok (.aload_n 2, 1) := by decide +kernel
theorem dL_law_167 : decode cL_law 167 = .ok (.aload_n 0, 1) := by decide +kernel
theorem dL_law_168 : decode cL_law 168 = .ok (.iload 5, 2) := by decide +kernel
theorem dL_law_170 : decode cL_law 170 = .ok (.iconst 1, 1) := by decide +kernel
theorem dL_law_171 : decode cL_law 171 = .ok (.iadd, 1) := by decide +kernel
theorem dL_law_172 : decode cL_law 172 = .ok (.iaload, 1) := by decide +kernel
theorem dL_law_173 : decode cL_law 173 = .ok (.aload_n 0, 1) := by decide +kernel
theorem dL_law_174 : decode cL_law 174 = .ok (.iload 5, 2) := by decide +kernel
theorem dL_law_176 : decode cL_law 176 = .ok (.iconst 2, 1) := by decide +kernel
theorem dL_law_177 : decode cL_law 177 = .ok (.iadd, 1) := by decide +kernel
