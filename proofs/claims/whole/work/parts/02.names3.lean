theorem dX3_put_68 : decode cX3_put 68 = .ok (.dup, 1) := by decide +kernel
theorem dX3_put_69 : decode cX3_put 69 = .ok (.ldc 85, 2) := by decide +kernel
theorem dX3_put_71 : decode cX3_put 71 = .ok (.invokespecial 64, 3) := by decide +kernel
theorem dX3_put_74 : decode cX3_put 74 = .ok (.athrow, 1) := by decide +kernel
theorem dX3_put_75 : decode cX3_put 75 = .ok (.aload_n 0, 1) := by decide +kernel
theorem dX3_put_76 : decode cX3_put 76 = .ok (.getfield 12, 3) := by decide +kernel
theorem dX3_put_79 : decode cX3_put 79 = .ok (.getfield 87, 3) := by decide +kernel
theorem dX3_put_82 : decode cX3_put 82 = .ok (.iconst 2, 1) := by decide +kernel
theorem dX3_put_83 : decode cX3_put 83 = .ok (.iload_n 1, 1) := by decide +kernel
theorem dX3_put_84 : decode cX3_put 84 = .ok (.iadd, 1) := by decide +kernel
theorem dX3_put_85 : decode cX3_put 85 = .ok (.dload_n 2, 1) := by decide +kernel
theorem dX3_put_86 : decode cX3_put 86 = .ok (.dastore, 1) := by decide +kernel
theorem dX3_put_87 : decode cX3_put 87 = .ok (.aload_n 0, 1) := by decide +kernel
theorem dX3_put_88 : decode cX3_put 88 = .ok (.getfield 12, 3) := by decide +kernel
theorem dX3_put_91 : decode cX3_put 91 = .ok (.getfield 91, 3) := by decide +kernel
theorem dX3_put_94 : decode cX3_put 94 = .ok (.iconst 2, 1) := by decide +kernel
theorem dX3_put_95 : decode cX3_put 95 = .ok (.iload_n 1, 1) := by decide +kernel
theorem dX3_put_96 : decode cX3_put 96 = .ok (.iadd, 1) := by decide +kernel
theorem dX3_put_97 : decode cX3_put 97 = .ok (.dload 4, 2) := by decide +kernel
theorem dX3_put_99 : decode cX3_put 99 = .ok (.dastore, 1) := by decide +kernel
theorem dX3_put_100 : decode cX3_put 100 = .ok (.return_, 1) := by decide +kernel
set_option maxRecDepth 20000 in
theorem ggX3_step_X3_isSpan : GoodIn wsX3_step wsX3_isSpan := goodIn_r _ [6, 7] (by decide +kernel) (by decide +kernel)
set_option maxRecDepth 20000 in
theorem gX3_step_X3_isSpan : GoodIn wsX3_step (va_wsS RX3 94 yX3_isSpan wsX3_isSpan) := goodIn_app (goodIn_of _ (by decide +kernel)) ggX3_step_X3_isSpan
set_option maxRecDepth 20000 in
theorem ggX3_step_X3_advance : GoodIn wsX3_step wsX3_advance := goodIn_ca (goodIn_r _ [11, 12, 13, 14, 15, 16, 17, 18, 19, 20, 21, 22, 23, 24, 25, 26, 27, 28, 29, 5, 30, 31, 32, 33, 34, 35, 36, 37, 38, 39, 40, 41, 42, 43, 44, 45, 46, 47, 48, 49, 50, 51, 52, 53, 54, 55, 56, 57, 58, 59, 60, 61, 62, 63, 64, 65, 66, 67, 68, 69, 70, 71, 72, 73, 74, 75, 76, 77, 78, 79, 80, 81, 82, 83, 84, 85, 86, 87, 88, 89, 90, 91, 92, 93, 94, 95, 96, 97, 98, 99, 100, 101, 102, 103, 104, 105, 106, 107, 108, 109, 110, 111, 112, 113, 114, 115, 116, 117, 118, 119, 120, 121, 122, 123, 124, 125, 126, 127, 128, 129, 130, 131, 132, 133, 134, 135, 136, 137, 138, 139, 140, 141, 142, 143, 144, 145, 146, 147, 148, 149, 150, 151, 152, 153, 154, 155, 156, 157, 158, 159, 160, 161, 162, 163, 164, 165, 166, 167, 168, 169, 170, 171, 172, 173, 174, 175, 176, 177, 178, 179, 180, 181, 182] (by decide +kernel) (by decide +kernel)) (goodIn_sub (fun _ h => List.mem_cons_of_mem _ (List.mem_append_right _ h)) (by decide +kernel))
set_option maxRecDepth 20000 in
theorem gX3_step_X3_advance : GoodIn wsX3_step (wsV RX3 100 RX3 yX3_advance wsX3_advance) := goodIn_app (goodIn_of _ (by decide +kernel)) ggX3_step_X3_advance
theorem dX3_step_0 : decode cX3_step 0 = .ok (.dload_n 1, 1) := by decide +kernel
theorem dX3_step_1 : decode cX3_step 1 = .ok (.invokestatic 94, 3) := by decide +kernel
theorem dX3_step_4 : decode cX3_step 4 = .ok (.ifCond .ne 13, 3) := by decide +kernel
theorem dX3_step_7 : decode cX3_step 7 = .ok (.new 60, 3) := by decide +kernel
theorem dX3_step_10 : decode cX3_step 10 = .ok (.dup, 1) := by decide +kernel
theorem dX3_step_11 : decode cX3_step 11 = .ok (.ldc 98, 2) := by decide +kernel
theorem dX3_step_13 : decode cX3_step 13 = .ok (.invokespecial 64, 3) := by decide +kernel
theorem dX3_step_16 : decode cX3_step 16 = .ok (.athrow, 1) := by decide +kernel
theorem dX3_step_17 : decode cX3_step 17 = .ok (.aload_n 0, 1) := by decide +kernel
theorem dX3_step_18 : decode cX3_step 18 = .ok (.dload_n 1, 1) := by decide +kernel
theorem dX3_step_19 : decode cX3_step 19 = .ok (.invokevirtual 100, 3) := by decide +kernel
theorem dX3_step_22 : decode cX3_step 22 = .ok (.dreturn, 1) := by decide +kernel
set_option maxRecDepth 20000 in
theorem ggX3_run_X3_isSpan : GoodIn wsX3_run wsX3_isSpan := goodIn_r _ [7, 8] (by decide +kernel) (by decide +kernel)
set_option maxRecDepth 20000 in
theorem gX3_run_X3_isSpan : GoodIn wsX3_run (va_wsS RX3 94 yX3_isSpan wsX3_isSpan) := goodIn_app (goodIn_of _ (by decide +kernel)) ggX3_run_X3_isSpan
set_option maxRecDepth 20000 in
theorem ggX3_run_X3_advance : GoodIn wsX3_run wsX3_advance := goodIn_ca (goodIn_r _ [12, 13, 14, 15, 16, 17, 18, 19, 20, 21, 22, 23, 24, 25, 26, 27, 28, 29, 30, 6, 31, 32, 33, 34, 35, 36, 37, 38, 39, 40, 41, 42, 43, 44, 45, 46, 47, 48, 49, 50, 51, 52, 53, 54, 55, 56, 57, 58, 59, 60, 61, 62, 63, 64, 65, 66, 67, 68, 69, 70, 71, 72, 73, 74, 75, 76, 77, 78, 79, 80, 81, 82, 83, 84, 85, 86, 87, 88, 89, 90, 91, 92, 93, 94, 95, 96, 97, 98, 99, 100, 101, 102, 103, 104, 105, 106, 107, 108, 109, 110, 111, 112, 113, 114, 115, 116, 117, 118, 119, 120, 121, 122, 123, 124, 125, 126, 127, 128, 129, 130, 131, 132, 133, 134, 135, 136, 137, 138, 139, 140, 141, 142, 143, 144, 145, 146, 147, 148, 149, 150, 151, 152, 153, 154, 155, 156, 157, 158, 159, 160, 161, 162, 163, 164, 165, 166, 167, 168, 169, 170, 171, 172, 173, 174, 175, 176, 177, 178, 179, 180, 181, 182, 183] (by decide +kernel) (by decide +kernel)) (goodIn_sub (fun _ h => List.mem_cons_of_mem _ (List.mem_append_right _ h)) (by decide +kernel))
set_option maxRecDepth 20000 in
theorem gX3_run_X3_advance : GoodIn wsX3_run (wsV RX3 100 RX3 yX3_advance wsX3_advance) := goodIn_app (goodIn_of _ (by decide +kernel)) ggX3_run_X3_advance
theorem dX3_run_0 : decode cX3_run 0 = .ok (.dload_n 1, 1) := by decide +kernel
theorem dX3_run_1 : decode cX3_run 1 = .ok (.invokestatic 94, 3) := by decide +kernel
theorem dX3_run_4 : decode cX3_run 4 = .ok (.ifCond .ne 13, 3) := by decide +kernel
theorem dX3_run_7 : decode cX3_run 7 = .ok (.new 60, 3) := by decide +kernel
theorem dX3_run_10 : decode cX3_run 10 = .ok (.dup, 1) := by decide +kernel
theorem dX3_run_11 : decode cX3_run 11 = .ok (.ldc 98, 2) := by decide +kernel
theorem dX3_run_13 : decode cX3_run 13 = .ok (.invokespecial 64, 3) := by decide +kernel
theorem dX3_run_16 : decode cX3_run 16 = .ok (.athrow, 1) := by decide +kernel
theorem dX3_run_17 : decode cX3_run 17 = .ok (.dload_n 1, 1) := by decide +kernel
theorem dX3_run_18 : decode cX3_run 18 = .ok (.dstore_n 3, 1) := by decide +kernel
theorem dX3_run_19 : decode cX3_run 19 = .ok (.iconst 0, 1) := by decide +kernel
theorem dX3_run_20 : decode cX3_run 20 = .ok (.istore 5, 2) := by decide +kernel
theorem dX3_run_22 : decode cX3_run 22 = .ok (.iload 5, 2) := by decide +kernel
theorem dX3_run_24 : decode cX3_run 24 = .ok (.bipush 40, 2) := by decide +kernel
theorem dX3_run_26 : decode cX3_run 26 = .ok (.if_icmp .ge 25, 3) := by decide +kernel
theorem dX3_run_29 : decode cX3_run 29 = .ok (.dload_n 3, 1) := by decide +kernel
theorem dX3_run_30 : decode cX3_run 30 = .ok (.ldc2_w 104, 3) := by decide +kernel
theorem dX3_run_33 : decode cX3_run 33 = .ok (.dcmp .l, 1) := by decide +kernel
theorem dX3_run_34 : decode cX3_run 34 = .ok (.ifCond .lt 17, 3) := by decide +kernel
theorem dX3_run_37 : decode cX3_run 37 = .ok (.dload_n 3, 1) := by decide +kernel
theorem dX3_run_38 : decode cX3_run 38 = .ok (.aload_n 0, 1) := by decide +kernel
theorem dX3_run_39 : decode cX3_run 39 = .ok (.dload_n 3, 1) := by decide +kernel
theorem dX3_run_40 : decode cX3_run 40 = .ok (.invokevirtual 100, 3) := by decide +kernel
theorem dX3_run_43 : decode cX3_run 43 = .ok (.dsub, 1) := by decide +kernel
theorem dX3_run_44 : decode cX3_run 44 = .ok (.dstore_n 3, 1) := by decide +kernel
theorem dX3_run_45 : decode cX3_run 45 = .ok (.iinc 5 1, 3) := by decide +kernel
theorem dX3_run_48 : decode cX3_run 48 = .ok (.goto (-26), 3) := by decide +kernel
theorem dX3_run_51 : decode cX3_run 51 = .ok (.iload 5, 2) := by decide +kernel
theorem dX3_run_53 : decode cX3_run 53 = .ok (.ireturn, 1) := by decide +kernel
set_option maxRecDepth 20000 in
theorem ggX3_cell_X1_has : GoodIn wsX3_cell wsX1_has := goodIn_r _ [10, 11, 31, 32, 33] (by decide +kernel) (by decide +kernel)
set_option maxRecDepth 20000 in
theorem gX3_cell_X1_has : GoodIn wsX3_cell (wsV RX3 69 RX1 yX1_has wsX1_has) := goodIn_app (goodIn_of _ (by decide +kernel)) ggX3_cell_X1_has
set_option maxRecDepth 20000 in
theorem ggX3_cell_X3_speedOf : GoodIn wsX3_cell wsX3_speedOf := goodIn_r _ [15] (by decide +kernel) (by decide +kernel)
set_option maxRecDepth 20000 in
theorem gX3_cell_X3_speedOf : GoodIn wsX3_cell (va_wsS RX3 109 yX3_speedOf wsX3_speedOf) := goodIn_app (goodIn_of _ (by decide +kernel)) ggX3_cell_X3_speedOf
set_option maxRecDepth 20000 in
theorem ggX3_cell_X3_root : GoodIn wsX3_cell wsX3_root := goodIn_r _ [18, 19] (by decide +kernel) (by decide +kernel)
set_option maxRecDepth 20000 in
theorem gX3_cell_X3_root : GoodIn wsX3_cell (va_wsS RX3 113 yX3_root wsX3_root) := goodIn_app (goodIn_of _ (by decide +kernel)) ggX3_cell_X3_root
theorem dX3_cell_0 : decode cX3_cell 0 = .ok (.aload_n 0, 1) := by decide +kernel
theorem dX3_cell_1 : decode cX3_cell 1 = .ok (.getfield 12, 3) := by decide +kernel
theorem dX3_cell_4 : decode cX3_cell 4 = .ok (.iload_n 1, 1) := by decide +kernel
theorem dX3_cell_5 : decode cX3_cell 5 = .ok (.invokevirtual 69, 3) := by decide +kernel
theorem dX3_cell_8 : decode cX3_cell 8 = .ok (.ifCond .ne 13, 3) := by decide +kernel
theorem dX3_cell_11 : decode cX3_cell 11 = .ok (.new 106, 3) := by decide +kernel
theorem dX3_cell_14 : decode cX3_cell 14 = .ok (.dup, 1) := by decide +kernel
theorem dX3_cell_15 : decode cX3_cell 15 = .ok (.ldc 73, 2) := by decide +kernel
theorem dX3_cell_17 : decode cX3_cell 17 = .ok (.invokespecial 108, 3) := by decide +kernel
theorem dX3_cell_20 : decode cX3_cell 20 = .ok (.athrow, 1) := by decide +kernel
theorem dX3_cell_21 : decode cX3_cell 21 = .ok (.aload_n 0, 1) := by decide +kernel
theorem dX3_cell_22 : decode cX3_cell 22 = .ok (.getfield 12, 3) := by decide +kernel
theorem dX3_cell_25 : decode cX3_cell 25 = .ok (.getfield 87, 3) := by decide +kernel
theorem dX3_cell_28 : decode cX3_cell 28 = .ok (.iconst 2, 1) := by decide +kernel
theorem dX3_cell_29 : decode cX3_cell 29 = .ok (.iload_n 1, 1) := by decide +kernel
theorem dX3_cell_30 : decode cX3_cell 30 = .ok (.iadd, 1) := by decide +kernel
theorem dX3_cell_31 : decode cX3_cell 31 = .ok (.daload, 1) := by decide +kernel
theorem dX3_cell_32 : decode cX3_cell 32 = .ok (.dstore_n 3, 1) := by decide +kernel
theorem dX3_cell_33 : decode cX3_cell 33 = .ok (.aload_n 0, 1) := by decide +kernel
theorem dX3_cell_34 : decode cX3_cell 34 = .ok (.getfield 12, 3) := by decide +kernel
theorem dX3_cell_37 : decode cX3_cell 37 = .ok (.getfield 91, 3) := by decide +kernel
theorem dX3_cell_40 : decode cX3_cell 40 = .ok (.iconst 2, 1) := by decide +kernel
theorem dX3_cell_41 : decode cX3_cell 41 = .ok (.iload_n 1, 1) := by decide +kernel
theorem dX3_cell_42 : decode cX3_cell 42 = .ok (.iadd, 1) := by decide +kernel
theorem dX3_cell_43 : decode cX3_cell 43 = .ok (.daload, 1) := by decide +kernel
theorem dX3_cell_44 : decode cX3_cell 44 = .ok (.dstore 5, 2) := by decide +kernel
theorem dX3_cell_46 : decode cX3_cell 46 = .ok (.iload_n 2, 1) := by decide +kernel
theorem dX3_cell_47 : decode cX3_cell 47 = .ok (.tableswitch 46 0 3 #[29, 31, 34, 41], 29) := by decide +kernel
theorem dX3_cell_76 : decode cX3_cell 76 = .ok (.dload_n 3, 1) := by decide +kernel
theorem dX3_cell_77 : decode cX3_cell 77 = .ok (.dreturn, 1) := by decide +kernel
theorem dX3_cell_78 : decode cX3_cell 78 = .ok (.dload 5, 2) := by decide +kernel
theorem dX3_cell_80 : decode cX3_cell 80 = .ok (.dreturn, 1) := by decide +kernel
theorem dX3_cell_81 : decode cX3_cell 81 = .ok (.dload_n 3, 1) := by decide +kernel
theorem dX3_cell_82 : decode cX3_cell 82 = .ok (.dload 5, 2) := by decide +kernel
theorem dX3_cell_84 : decode cX3_cell 84 = .ok (.invokestatic 109, 3) := by decide +kernel
theorem dX3_cell_87 : decode cX3_cell 87 = .ok (.dreturn, 1) := by decide +kernel
theorem dX3_cell_88 : decode cX3_cell 88 = .ok (.dload_n 3, 1) := by decide +kernel
theorem dX3_cell_89 : decode cX3_cell 89 = .ok (.invokestatic 113, 3) := by decide +kernel
theorem dX3_cell_92 : decode cX3_cell 92 = .ok (.dreturn, 1) := by decide +kernel
theorem dX3_cell_93 : decode cX3_cell 93 = .ok (.new 106, 3) := by decide +kernel
theorem dX3_cell_96 : decode cX3_cell 96 = .ok (.dup, 1) := by decide +kernel
theorem dX3_cell_97 : decode cX3_cell 97 = .ok (.ldc 116, 2) := by decide +kernel
theorem dX3_cell_99 : decode cX3_cell 99 = .ok (.invokespecial 108, 3) := by decide +kernel
theorem dX3_cell_102 : decode cX3_cell 102 = .ok (.athrow, 1) := by decide +kernel
set_option maxRecDepth 20000 in
theorem ggX3_flux_X3_isWithin : GoodIn wsX3_flux wsX3_isWithin := goodIn_r _ [14] (by decide +kernel) (by decide +kernel)
set_option maxRecDepth 20000 in
theorem gX3_flux_X3_isWithin : GoodIn wsX3_flux (va_wsS RX3 56 yX3_isWithin wsX3_isWithin) := goodIn_app (goodIn_of _ (by decide +kernel)) ggX3_flux_X3_isWithin
set_option maxRecDepth 20000 in
theorem ggX3_flux_X1_fillEnds : GoodIn wsX3_flux wsX1_fillEnds := goodIn_r _ [19, 20, 21, 22, 23, 18, 24, 25, 26, 27, 28, 29, 30, 125, 126, 127] (by decide +kernel) (by decide +kernel)
set_option maxRecDepth 20000 in
theorem gX3_flux_X1_fillEnds : GoodIn wsX3_flux (wsV RX3 123 RX1 yX1_fillEnds wsX1_fillEnds) := goodIn_app (goodIn_of _ (by decide +kernel)) ggX3_flux_X1_fillEnds
set_option maxRecDepth 20000 in
theorem ggX3_flux_X0_measure : GoodIn wsX3_flux wsX0_measure := goodIn_r _ [35, 36, 37, 38, 39, 34, 40, 41, 42, 43, 44, 45, 46, 47, 48, 49, 50, 51, 52, 53, 54, 55, 56, 57, 58, 59, 60, 61, 62, 63, 64, 65, 66, 67, 68, 69, 70, 71, 72, 73, 13, 74, 75, 76, 77, 78, 79, 80, 81, 82, 83, 84, 85, 86, 87, 88, 89, 90, 91, 92, 93, 94, 95, 96, 97, 98, 99, 100, 101, 102, 103, 104, 105, 106, 107, 108, 109, 110, 111, 112, 113, 125, 126, 127, 128, 129, 130, 131, 132, 133, 134, 135, 136, 137] (by decide +kernel) (by decide +kernel)
set_option maxRecDepth 20000 in
theorem gX3_flux_X0_measure : GoodIn wsX3_flux (wsV RX3 126 RX0 yX0_measure wsX0_measure) := goodIn_app (goodIn_of _ (by decide +kernel)) ggX3_flux_X0_measure
theorem dX3_flux_0 : decode cX3_flux 0 = .ok (.iload_n 1, 1) := by decide +kernel
theorem dX3_flux_1 : decode cX3_flux 1 = .ok (.iconst 0, 1) := by decide +kernel
theorem dX3_flux_2 : decode cX3_flux 2 = .ok (.aload_n 0, 1) := by decide +kernel
theorem dX3_flux_3 : decode cX3_flux 3 = .ok (.getfield 12, 3) := by decide +kernel
theorem dX3_flux_6 : decode cX3_flux 6 = .ok (.getfield 118, 3) := by decide +kernel
theorem dX3_flux_9 : decode cX3_flux 9 = .ok (.invokestatic 56, 3) := by decide +kernel
theorem dX3_flux_12 : decode cX3_flux 12 = .ok (.ifCond .ne 13, 3) := by decide +kernel
theorem dX3_flux_15 : decode cX3_flux 15 = .ok (.new 106, 3) := by decide +kernel
theorem dX3_flux_18 : decode cX3_flux 18 = .ok (.dup, 1) := by decide +kernel
theorem dX3_flux_19 : decode cX3_flux 19 = .ok (.ldc 121, 2) := by decide +kernel
theorem dX3_flux_21 : decode cX3_flux 21 = .ok (.invokespecial 108, 3) := by decide +kernel
theorem dX3_flux_24 : decode cX3_flux 24 = .ok (.athrow, 1) := by decide +kernel
theorem dX3_flux_25 : decode cX3_flux 25 = .ok (.aload_n 0, 1) := by decide +kernel
theorem dX3_flux_26 : decode cX3_flux 26 = .ok (.getfield 12, 3) := by decide +kernel
theorem dX3_flux_29 : decode cX3_flux 29 = .ok (.aload_n 0, 1) := by decide +kernel
theorem dX3_flux_30 : decode cX3_flux 30 = .ok (.getfield 26, 3) := by decide +kernel
theorem dX3_flux_33 : decode cX3_flux 33 = .ok (.invokevirtual 123, 3) := by decide +kernel
theorem dX3_flux_36 : decode cX3_flux 36 = .ok (.aload_n 0, 1) := by decide +kernel
theorem dX3_flux_37 : decode cX3_flux 37 = .ok (.getfield 22, 3) := by decide +kernel
theorem dX3_flux_40 : decode cX3_flux 40 = .ok (.aload_n 0, 1) := by decide +kernel
theorem dX3_flux_41 : decode cX3_flux 41 = .ok (.getfield 12, 3) := by decide +kernel
theorem dX3_flux_44 : decode cX3_flux 44 = .ok (.aload_n 0, 1) := by decide +kernel
theorem dX3_flux_45 : decode cX3_flux 45 = .ok (.getfield 30, 3) := by decide +kernel
theorem dX3_flux_48 : decode cX3_flux 48 = .ok (.aload_n 0, 1) := by decide +kernel
theorem dX3_flux_49 : decode cX3_flux 49 = .ok (.getfield 33, 3) := by decide +kernel
theorem dX3_flux_52 : decode cX3_flux 52 = .ok (.invokevirtual 126, 3) := by decide +kernel
theorem dX3_flux_55 : decode cX3_flux 55 = .ok (.iload_n 2, 1) := by decide +kernel
theorem dX3_flux_56 : decode cX3_flux 56 = .ok (.ifCond .eq 15, 3) := by decide +kernel
theorem dX3_flux_59 : decode cX3_flux 59 = .ok (.aload_n 0, 1) := by decide +kernel
theorem dX3_flux_60 : decode cX3_flux 60 = .ok (.getfield 22, 3) := by decide +kernel
theorem dX3_flux_63 : decode cX3_flux 63 = .ok (.getfield 130, 3) := by decide +kernel
theorem dX3_flux_66 : decode cX3_flux 66 = .ok (.iload_n 1, 1) := by decide +kernel
theorem dX3_flux_67 : decode cX3_flux 67 = .ok (.daload, 1) := by decide +kernel
theorem dX3_flux_68 : decode cX3_flux 68 = .ok (.goto 12, 3) := by decide +kernel
theorem dX3_flux_71 : decode cX3_flux 71 = .ok (.aload_n 0, 1) := by decide +kernel
theorem dX3_flux_72 : decode cX3_flux 72 = .ok (.getfield 22, 3) := by decide +kernel
theorem dX3_flux_75 : decode cX3_flux 75 = .ok (.getfield 133, 3) := by decide +kernel
theorem dX3_flux_78 : decode cX3_flux 78 = .ok (.iload_n 1, 1) := by decide +kernel
theorem dX3_flux_79 : decode cX3_flux 79 = .ok (.daload, 1) := by decide +kernel
theorem dX3_flux_80 : decode cX3_flux 80 = .ok (.dreturn, 1) := by decide +kernel
set_option maxRecDepth 20000 in
theorem ggX3_sum_X1_total : GoodIn wsX3_sum wsX1_total := goodIn_r _ [8, 9, 21, 22, 23] (by decide +kernel) (by decide +kernel)
set_option maxRecDepth 20000 in
theorem gX3_sum_X1_total : GoodIn wsX3_sum (wsV RX3 136 RX1 yX1_total wsX1_total) := goodIn_app (goodIn_of _ (by decide +kernel)) ggX3_sum_X1_total
theorem dX3_sum_0 : decode cX3_sum 0 = .ok (.aload_n 0, 1) := by decide +kernel
theorem dX3_sum_1 : decode cX3_sum 1 = .ok (.getfield 12, 3) := by decide +kernel
theorem dX3_sum_4 : decode cX3_sum 4 = .ok (.iload_n 1, 1) := by decide +kernel
theorem dX3_sum_5 : decode cX3_sum 5 = .ok (.ifCond .eq 13, 3) := by decide +kernel
theorem dX3_sum_8 : decode cX3_sum 8 = .ok (.aload_n 0, 1) := by decide +kernel
theorem dX3_sum_9 : decode cX3_sum 9 = .ok (.getfield 12, 3) := by decide +kernel
theorem dX3_sum_12 : decode cX3_sum 12 = .ok (.getfield 91, 3) := by decide +kernel
theorem dX3_sum_15 : decode cX3_sum 15 = .ok (.goto 10, 3) := by decide +kernel
theorem dX3_sum_18 : decode cX3_sum 18 = .ok (.aload_n 0, 1) := by decide +kernel
theorem dX3_sum_19 : decode cX3_sum 19 = .ok (.getfield 12, 3) := by decide +kernel
theorem dX3_sum_22 : decode cX3_sum 22 = .ok (.getfield 87, 3) := by decide +kernel
theorem dX3_sum_25 : decode cX3_sum 25 = .ok (.invokevirtual 136, 3) := by decide +kernel
theorem dX3_sum_28 : decode cX3_sum 28 = .ok (.dreturn, 1) := by decide +kernel
theorem dX3_time_0 : decode cX3_time 0 = .ok (.aload_n 0, 1) := by decide +kernel
theorem dX3_time_1 : decode cX3_time 1 = .ok (.getfield 39, 3) := by decide +kernel
theorem dX3_time_4 : decode cX3_time 4 = .ok (.dreturn, 1) := by decide +kernel
theorem dX3_count_0 : decode cX3_count 0 = .ok (.iload_n 1, 1) := by decide +kernel
theorem dX3_count_1 : decode cX3_count 1 = .ok (.tableswitch 54 0 3 #[31, 39, 44, 49], 31) := by decide +kernel
theorem dX3_count_32 : decode cX3_count 32 = .ok (.aload_n 0, 1) := by decide +kernel
theorem dX3_count_33 : decode cX3_count 33 = .ok (.getfield 12, 3) := by decide +kernel
theorem dX3_count_36 : decode cX3_count 36 = .ok (.getfield 118, 3) := by decide +kernel
theorem dX3_count_39 : decode cX3_count 39 = .ok (.ireturn, 1) := by decide +kernel
theorem dX3_count_40 : decode cX3_count 40 = .ok (.aload_n 0, 1) := by decide +kernel
theorem dX3_count_41 : decode cX3_count 41 = .ok (.getfield 43, 3) := by decide +kernel
theorem dX3_count_44 : decode cX3_count 44 = .ok (.ireturn, 1) := by decide +kernel
theorem dX3_count_45 : decode cX3_count 45 = .ok (.aload_n 0, 1) := by decide +kernel
theorem dX3_count_46 : decode cX3_count 46 = .ok (.getfield 46, 3) := by decide +kernel
theorem dX3_count_49 : decode cX3_count 49 = .ok (.ireturn, 1) := by decide +kernel
theorem dX3_count_50 : decode cX3_count 50 = .ok (.aload_n 0, 1) := by decide +kernel
theorem dX3_count_51 : decode cX3_count 51 = .ok (.getfield 49, 3) := by decide +kernel
theorem dX3_count_54 : decode cX3_count 54 = .ok (.ireturn, 1) := by decide +kernel
theorem dX3_count_55 : decode cX3_count 55 = .ok (.new 106, 3) := by decide +kernel
theorem dX3_count_58 : decode cX3_count 58 = .ok (.dup, 1) := by decide +kernel
theorem dX3_count_59 : decode cX3_count 59 = .ok (.ldc 140, 2) := by decide +kernel
theorem dX3_count_61 : decode cX3_count 61 = .ok (.invokespecial 108, 3) := by decide +kernel
theorem dX3_count_64 : decode cX3_count 64 = .ok (.athrow, 1) := by decide +kernel
set_option maxRecDepth 20000 in
theorem ggX3_advance_X1_longestTime : GoodIn wsX3_advance wsX1_longestTime := goodIn_r _ [13, 14, 15, 16, 17, 18, 19, 20, 21, 22, 23, 24, 7, 25, 26, 27, 28, 160, 161, 162] (by decide +kernel) (by decide +kernel)
set_option maxRecDepth 20000 in
theorem gX3_advance_X1_longestTime : GoodIn wsX3_advance (wsV RX3 142 RX1 yX1_longestTime wsX1_longestTime) := goodIn_app (goodIn_of _ (by decide +kernel)) ggX3_advance_X1_longestTime
set_option maxRecDepth 20000 in
theorem ggX3_advance_X3_succeeds : GoodIn wsX3_advance wsX3_succeeds := goodIn_r _ [32, 33, 3, 34, 35, 36, 37, 38, 39, 40, 41, 12, 42, 14, 15, 43, 44, 45, 46, 16, 47, 48, 49, 50, 51, 52, 53, 54, 55, 56, 57, 58, 59, 60, 61, 62, 63, 64, 65, 66, 67, 68, 69, 70, 71, 72, 73, 74, 75, 76, 77, 78, 79, 80, 81, 82, 83, 84, 85, 86, 87, 88, 89, 90, 91, 92, 93, 94, 95, 96, 97, 98, 99, 100, 18, 19, 20, 23, 24, 7, 101, 102, 103, 104, 105, 106, 107, 108, 109, 110, 27, 28, 25, 26, 111, 112, 113, 114, 115, 116, 117, 118, 119, 120, 121, 122, 123, 124, 125, 126, 127, 128, 129, 130, 21, 22, 131, 132, 133, 134, 135, 136, 137, 138, 139, 140, 141, 142, 143, 144, 145, 146, 147, 148, 149, 150, 151, 152, 153, 154, 155, 156, 157, 158, 159, 160, 161, 162, 163, 164, 165, 166, 167, 168, 169, 170, 171, 172] (by decide +kernel) (by decide +kernel)
set_option maxRecDepth 20000 in
theorem gX3_advance_X3_succeeds : GoodIn wsX3_advance (wsV RX3 145 RX3 yX3_succeeds wsX3_succeeds) := goodIn_app (goodIn_of _ (by decide +kernel)) ggX3_advance_X3_succeeds
theorem dX3_advance_0 : decode cX3_advance 0 = .ok (.aload_n 0, 1) := by decide +kernel
theorem dX3_advance_1 : decode cX3_advance 1 = .ok (.getfield 12, 3) := by decide +kernel
theorem dX3_advance_4 : decode cX3_advance 4 = .ok (.dload_n 1, 1) := by decide +kernel
theorem dX3_advance_5 : decode cX3_advance 5 = .ok (.invokevirtual 142, 3) := by decide +kernel
theorem dX3_advance_8 : decode cX3_advance 8 = .ok (.dstore_n 3, 1) := by decide +kernel
theorem dX3_advance_9 : decode cX3_advance 9 = .ok (.iconst 0, 1) := by decide +kernel
theorem dX3_advance_10 : decode cX3_advance 10 = .ok (.istore 5, 2) := by decide +kernel
theorem dX3_advance_12 : decode cX3_advance 12 = .ok (.iload 5, 2) := by decide +kernel
theorem dX3_advance_14 : decode cX3_advance 14 = .ok (.iconst 5, 1) := by decide +kernel
theorem dX3_advance_15 : decode cX3_advance 15 = .ok (.if_icmp .ge 55, 3) := by decide +kernel
theorem dX3_advance_18 : decode cX3_advance 18 = .ok (.aload_n 0, 1) := by decide +kernel
theorem dX3_advance_19 : decode cX3_advance 19 = .ok (.dload_n 3, 1) := by decide +kernel
theorem dX3_advance_20 : decode cX3_advance 20 = .ok (.invokevirtual 145, 3) := by decide +kernel
theorem dX3_advance_23 : decode cX3_advance 23 = .ok (.ifCond .eq 25, 3) := by decide +kernel
theorem dX3_advance_26 : decode cX3_advance 26 = .ok (.aload_n 0, 1) := by decide +kernel
theorem dX3_advance_27 : decode cX3_advance 27 = .ok (.aload_n 0, 1) := by decide +kernel
theorem dX3_advance_28 : decode cX3_advance 28 = .ok (.getfield 39, 3) := by decide +kernel
theorem dX3_advance_31 : decode cX3_advance 31 = .ok (.dload_n 3, 1) := by decide +kernel
theorem dX3_advance_32 : decode cX3_advance 32 = .ok (.dadd, 1) := by decide +kernel
theorem dX3_advance_33 : decode cX3_advance 33 = .ok (.putfield 39, 3) := by decide +kernel
theorem dX3_advance_36 : decode cX3_advance 36 = .ok (.aload_n 0, 1) := by decide +kernel
theorem dX3_advance_37 : decode cX3_advance 37 = .ok (.dup, 1) := by decide +kernel
theorem dX3_advance_38 : decode cX3_advance 38 = .ok (.getfield 43, 3) := by decide +kernel
theorem dX3_advance_41 : decode cX3_advance 41 = .ok (.iconst 1, 1) := by decide +kernel
theorem dX3_advance_42 : decode cX3_advance 42 = .ok (.iadd, 1) := by decide +kernel
theorem dX3_advance_43 : decode cX3_advance 43 = .ok (.putfield 43, 3) := by decide +kernel
theorem dX3_advance_46 : decode cX3_advance 46 = .ok (.dload_n 3, 1) := by decide +kernel
theorem dX3_advance_47 : decode cX3_advance 47 = .ok (.dreturn, 1) := by decide +kernel
theorem dX3_advance_48 : decode cX3_advance 48 = .ok (.aload_n 0, 1) := by decide +kernel
theorem dX3_advance_49 : decode cX3_advance 49 = .ok (.dup, 1) := by decide +kernel
theorem dX3_advance_50 : decode cX3_advance 50 = .ok (.getfield 46, 3) := by decide +kernel
theorem dX3_advance_53 : decode cX3_advance 53 = .ok (.iconst 1, 1) := by decide +kernel
theorem dX3_advance_54 : decode cX3_advance 54 = .ok (.iadd, 1) := by decide +kernel
theorem dX3_advance_55 : decode cX3_advance 55 = .ok (.putfield 46, 3) := by decide +kernel
theorem dX3_advance_58 : decode cX3_advance 58 = .ok (.ldc2_w 148, 3) := by decide +kernel
theorem dX3_advance_61 : decode cX3_advance 61 = .ok (.dload_n 3, 1) := by decide +kernel
theorem dX3_advance_62 : decode cX3_advance 62 = .ok (.dmul, 1) := by decide +kernel
theorem dX3_advance_63 : decode cX3_advance 63 = .ok (.dstore_n 3, 1) := by decide +kernel
theorem dX3_advance_64 : decode cX3_advance 64 = .ok (.iinc 5 1, 3) := by decide +kernel
theorem dX3_advance_67 : decode cX3_advance 67 = .ok (.goto (-55), 3) := by decide +kernel
theorem dX3_advance_70 : decode cX3_advance 70 = .ok (.aload_n 0, 1) := by decide +kernel
theorem dX3_advance_71 : decode cX3_advance 71 = .ok (.dup, 1) := by decide +kernel
theorem dX3_advance_72 : decode cX3_advance 72 = .ok (.getfield 49, 3) := by decide +kernel
theorem dX3_advance_75 : decode cX3_advance 75 = .ok (.iconst 1, 1) := by decide +kernel
theorem dX3_advance_76 : decode cX3_advance 76 = .ok (.iadd, 1) := by decide +kernel
theorem dX3_advance_77 : decode cX3_advance 77 = .ok (.putfield 49, 3) := by decide +kernel
theorem dX3_advance_80 : decode cX3_advance 80 = .ok (.new 150, 3) := by decide +kernel
theorem dX3_advance_83 : decode cX3_advance 83 = .ok (.dup, 1) := by decide +kernel
theorem dX3_advance_84 : decode cX3_advance 84 = .ok (.ldc 152, 2) := by decide +kernel
theorem dX3_advance_86 : decode cX3_advance 86 = .ok (.invokespecial 154, 3) := by decide +kernel
theorem dX3_advance_89 : decode cX3_advance 89 = .ok (.athrow, 1) := by decide +kernel
set_option maxRecDepth 20000 in
theorem ggX3_succeeds_X1_become : GoodIn wsX3_succeeds wsX1_become := goodIn_r _ [12, 13, 14, 15, 16, 17, 18, 19, 145, 146, 147] (by decide +kernel) (by decide +kernel)
set_option maxRecDepth 20000 in
theorem gX3_succeeds_X1_become : GoodIn wsX3_succeeds (wsV RX3 155 RX1 yX1_become wsX1_become) := goodIn_app (goodIn_of _ (by decide +kernel)) ggX3_succeeds_X1_become
set_option maxRecDepth 20000 in
theorem ggX3_succeeds_X1_fillEnds : GoodIn wsX3_succeeds wsX1_fillEnds := goodIn_r _ [23, 13, 24, 25, 26, 11, 27, 14, 19, 28, 29, 30, 31, 145, 146, 147] (by decide +kernel) (by decide +kernel)
set_option maxRecDepth 20000 in
theorem gX3_succeeds_X1_fillEnds : GoodIn wsX3_succeeds (wsV RX3 123 RX1 yX1_fillEnds wsX1_fillEnds) := goodIn_app (goodIn_of _ (by decide +kernel)) ggX3_succeeds_X1_fillEnds
set_option maxRecDepth 20000 in
theorem ggX3_succeeds_X0_measure : GoodIn wsX3_succeeds wsX0_measure := goodIn_r _ [36, 37, 38, 39, 40, 35, 41, 42, 43, 44, 45, 46, 47, 48, 49, 50, 51, 52, 53, 54, 55, 56, 57, 58, 59, 60, 61, 62, 63, 64, 65, 66, 67, 68, 69, 70, 71, 72, 73, 74, 75, 76, 77, 78, 79, 80, 81, 82, 83, 84, 85, 86, 87, 88, 89, 90, 91, 92, 93, 94, 95, 96, 97, 98, 99, 100, 101, 102, 103, 104, 105, 106, 107, 108, 109, 110, 111, 112, 113, 114, 115, 145, 146, 147, 148, 149, 150, 151, 152, 153, 154, 155, 156, 157] (by decide +kernel) (by decide +kernel)
set_option maxRecDepth 20000 in
theorem gX3_succeeds_X0_measure : GoodIn wsX3_succeeds (wsV RX3 126 RX0 yX0_measure wsX0_measure) := goodIn_app (goodIn_of _ (by decide +kernel)) ggX3_succeeds_X0_measure
set_option maxRecDepth 20000 in
theorem ggX3_succeeds_X1_move : GoodIn wsX3_succeeds wsX1_move := goodIn_r _ [119, 13, 14, 120, 19, 121, 145, 146, 147, 148, 149, 150, 151, 152, 153] (by decide +kernel) (by decide +kernel)
set_option maxRecDepth 20000 in
theorem gX3_succeeds_X1_move : GoodIn wsX3_succeeds (wsV RX3 159 RX1 yX1_move wsX1_move) := goodIn_app (goodIn_of _ (by decide +kernel)) ggX3_succeeds_X1_move
set_option maxRecDepth 20000 in
theorem ggX3_succeeds_X1_hasFailed : GoodIn wsX3_succeeds wsX1_hasFailed := goodIn_r _ [125, 13, 14, 126, 19, 127, 128, 145, 146, 147] (by decide +kernel) (by decide +kernel)
set_option maxRecDepth 20000 in
theorem gX3_succeeds_X1_hasFailed : GoodIn wsX3_succeeds (wsV RX3 163 RX1 yX1_hasFailed wsX1_hasFailed) := goodIn_app (goodIn_of _ (by decide +kernel)) ggX3_succeeds_X1_hasFailed
set_option maxRecDepth 20000 in
theorem ggX3_succeeds_X1_meet : GoodIn wsX3_succeeds wsX1_meet := goodIn_r _ [132, 13, 14, 133, 19, 145, 146, 147] (by decide +kernel) (by decide +kernel)
set_option maxRecDepth 20000 in
theorem gX3_succeeds_X1_meet : GoodIn wsX3_succeeds (wsV RX3 167 RX1 yX1_meet wsX1_meet) := goodIn_app (goodIn_of _ (by decide +kernel)) ggX3_succeeds_X1_meet
theorem dX3_succeeds_0 : decode cX3_succeeds 0 = .ok (.aload_n 0, 1) := by decide +kernel
theorem dX3_succeeds_1 : decode cX3_succeeds 1 = .ok (.getfield 16, 3) := by decide +kernel
theorem dX3_succeeds_4 : decode cX3_succeeds 4 = .ok (.aload_n 0, 1) := by decide +kernel
theorem dX3_succeeds_5 : decode cX3_succeeds 5 = .ok (.getfield 12, 3) := by decide +kernel
theorem dX3_succeeds_8 : decode cX3_succeeds 8 = .ok (.invokevirtual 155, 3) := by decide +kernel
theorem dX3_succeeds_11 : decode cX3_succeeds 11 = .ok (.iconst 0, 1) := by decide +kernel
theorem dX3_succeeds_12 : decode cX3_succeeds 12 = .ok (.istore_n 3, 1) := by decide +kernel
theorem dX3_succeeds_13 : decode cX3_succeeds 13 = .ok (.iload_n 3, 1) := by decide +kernel
theorem dX3_succeeds_14 : decode cX3_succeeds 14 = .ok (.aload_n 0, 1) := by decide +kernel
theorem dX3_succeeds_15 : decode cX3_succeeds 15 = .ok (.getfield 36, 3) := by decide +kernel
theorem dX3_succeeds_18 : decode cX3_succeeds 18 = .ok (.if_icmp .ge 63, 3) := by decide +kernel
theorem dX3_succeeds_21 : decode cX3_succeeds 21 = .ok (.aload_n 0, 1) := by decide +kernel
theorem dX3_succeeds_22 : decode cX3_succeeds 22 = .ok (.getfield 16, 3) := by decide +kernel
theorem dX3_succeeds_25 : decode cX3_succeeds 25 = .ok (.aload_n 0, 1) := by decide +kernel
theorem dX3_succeeds_26 : decode cX3_succeeds 26 = .ok (.getfield 26, 3) := by decide +kernel
theorem dX3_succeeds_29 : decode cX3_succeeds 29 = .ok (.invokevirtual 123, 3) := by decide +kernel
theorem dX3_succeeds_32 : decode cX3_succeeds 32 = .ok (.aload_n 0, 1) := by decide +kernel
theorem dX3_succeeds_33 : decode cX3_succeeds 33 = .ok (.getfield 22, 3) := by decide +kernel
theorem dX3_succeeds_36 : decode cX3_succeeds 36 = .ok (.aload_n 0, 1) := by decide +kernel
theorem dX3_succeeds_37 : decode cX3_succeeds 37 = .ok (.getfield 16, 3) := by decide +kernel
theorem dX3_succeeds_40 : decode cX3_succeeds 40 = .ok (.aload_n 0, 1) := by decide +kernel
theorem dX3_succeeds_41 : decode cX3_succeeds 41 = .ok (.getfield 30, 3) := by decide +kernel
theorem dX3_succeeds_44 : decode cX3_succeeds 44 = .ok (.aload_n 0, 1) := by decide +kernel
theorem dX3_succeeds_45 : decode cX3_succeeds 45 = .ok (.getfield 33, 3) := by decide +kernel
theorem dX3_succeeds_48 : decode cX3_succeeds 48 = .ok (.invokevirtual 126, 3) := by decide +kernel
theorem dX3_succeeds_51 : decode cX3_succeeds 51 = .ok (.aload_n 0, 1) := by decide +kernel
theorem dX3_succeeds_52 : decode cX3_succeeds 52 = .ok (.getfield 16, 3) := by decide +kernel
theorem dX3_succeeds_55 : decode cX3_succeeds 55 = .ok (.dload_n 1, 1) := by decide +kernel
theorem dX3_succeeds_56 : decode cX3_succeeds 56 = .ok (.aload_n 0, 1) := by decide +kernel
theorem dX3_succeeds_57 : decode cX3_succeeds 57 = .ok (.getfield 22, 3) := by decide +kernel
theorem dX3_succeeds_60 : decode cX3_succeeds 60 = .ok (.invokevirtual 159, 3) := by decide +kernel
theorem dX3_succeeds_63 : decode cX3_succeeds 63 = .ok (.aload_n 0, 1) := by decide +kernel
theorem dX3_succeeds_64 : decode cX3_succeeds 64 = .ok (.getfield 16, 3) := by decide +kernel
theorem dX3_succeeds_67 : decode cX3_succeeds 67 = .ok (.invokevirtual 163, 3) := by decide +kernel
theorem dX3_succeeds_70 : decode cX3_succeeds 70 = .ok (.ifCond .eq 5, 3) := by decide +kernel
theorem dX3_succeeds_73 : decode cX3_succeeds 73 = .ok (.iconst 0, 1) := by decide +kernel
theorem dX3_succeeds_74 : decode cX3_succeeds 74 = .ok (.ireturn, 1) := by decide +kernel
theorem dX3_succeeds_75 : decode cX3_succeeds 75 = .ok (.iinc 3 1, 3) := by decide +kernel
theorem dX3_succeeds_78 : decode cX3_succeeds 78 = .ok (.goto (-65), 3) := by decide +kernel
theorem dX3_succeeds_81 : decode cX3_succeeds 81 = .ok (.aload_n 0, 1) := by decide +kernel
theorem dX3_succeeds_82 : decode cX3_succeeds 82 = .ok (.getfield 36, 3) := by decide +kernel
theorem dX3_succeeds_85 : decode cX3_succeeds 85 = .ok (.iconst 2, 1) := by decide +kernel
theorem dX3_succeeds_86 : decode cX3_succeeds 86 = .ok (.if_icmp .ne 14, 3) := by decide +kernel
theorem dX3_succeeds_89 : decode cX3_succeeds 89 = .ok (.aload_n 0, 1) := by decide +kernel
theorem dX3_succeeds_90 : decode cX3_succeeds 90 = .ok (.getfield 16, 3) := by decide +kernel
theorem dX3_succeeds_93 : decode cX3_succeeds 93 = .ok (.aload_n 0, 1) := by decide +kernel
theorem dX3_succeeds_94 : decode cX3_succeeds 94 = .ok (.getfield 12, 3) := by decide +kernel
theorem dX3_succeeds_97 : decode cX3_succeeds 97 = .ok (.invokevirtual 167, 3) := by decide +kernel
theorem dX3_succeeds_100 : decode cX3_succeeds 100 = .ok (.aload_n 0, 1) := by decide +kernel
theorem dX3_succeeds_101 : decode cX3_succeeds 101 = .ok (.getfield 12, 3) := by decide +kernel
theorem dX3_succeeds_104 : decode cX3_succeeds 104 = .ok (.aload_n 0, 1) := by decide +kernel
theorem dX3_succeeds_105 : decode cX3_succeeds 105 = .ok (.getfield 16, 3) := by decide +kernel
theorem dX3_succeeds_108 : decode cX3_succeeds 108 = .ok (.invokevirtual 155, 3) := by decide +kernel
theorem dX3_succeeds_111 : decode cX3_succeeds 111 = .ok (.iconst 1, 1) := by decide +kernel
theorem dX3_succeeds_112 : decode cX3_succeeds 112 = .ok (.ireturn, 1) := by decide +kernel
theorem dX3_isWithin_0 : decode cX3_isWithin 0 = .ok (.iload_n 0, 1) := by decide +kernel
theorem dX3_isWithin_1 : decode cX3_isWithin 1 = .ok (.iload_n 1, 1) := by decide +kernel
theorem dX3_isWithin_2 : decode cX3_isWithin 2 = .ok (.if_icmp .lt 12, 3) := by decide +kernel
theorem dX3_isWithin_5 : decode cX3_isWithin 5 = .ok (.iload_n 0, 1) := by decide +kernel
theorem dX3_isWithin_6 : decode cX3_isWithin 6 = .ok (.iload_n 2, 1) := by decide +kernel
theorem dX3_isWithin_7 : decode cX3_isWithin 7 = .ok (.if_icmp .gt 7, 3) := by decide +kernel
theorem dX3_isWithin_10 : decode cX3_isWithin 10 = .ok (.iconst 1, 1) := by decide +kernel
theorem dX3_isWithin_11 : decode cX3_isWithin 11 = .ok (.goto 4, 3) := by decide +kernel
theorem dX3_isWithin_14 : decode cX3_isWithin 14 = .ok (.iconst 0, 1) := by decide +kernel
theorem dX3_isWithin_15 : decode cX3_isWithin 15 = .ok (.ireturn, 1) := by decide +kernel
theorem dX3_isSpan_0 : decode cX3_isSpan 0 = .ok (.dload_n 0, 1) := by decide +kernel
theorem dX3_isSpan_1 : decode cX3_isSpan 1 = .ok (.dconst 0, 1) := by decide +kernel
theorem dX3_isSpan_2 : decode cX3_isSpan 2 = .ok (.dcmp .l, 1) := by decide +kernel
theorem dX3_isSpan_3 : decode cX3_isSpan 3 = .ok (.ifCond .le 15, 3) := by decide +kernel
theorem dX3_isSpan_6 : decode cX3_isSpan 6 = .ok (.dload_n 0, 1) := by decide +kernel
theorem dX3_isSpan_7 : decode cX3_isSpan 7 = .ok (.ldc2_w 170, 3) := by decide +kernel
theorem dX3_isSpan_10 : decode cX3_isSpan 10 = .ok (.dcmp .g, 1) := by decide +kernel
theorem dX3_isSpan_11 : decode cX3_isSpan 11 = .ok (.ifCond .gt 7, 3) := by decide +kernel
theorem dX3_isSpan_14 : decode cX3_isSpan 14 = .ok (.iconst 1, 1) := by decide +kernel
theorem dX3_isSpan_15 : decode cX3_isSpan 15 = .ok (.goto 4, 3) := by decide +kernel
theorem dX3_isSpan_18 : decode cX3_isSpan 18 = .ok (.iconst 0, 1) := by decide +kernel
theorem dX3_isSpan_19 : decode cX3_isSpan 19 = .ok (.ireturn, 1) := by decide +kernel
theorem dX3_root_0 : decode cX3_root 0 = .ok (.dload_n 0, 1) := by decide +kernel
theorem dX3_root_1 : decode cX3_root 1 = .ok (.dconst 1, 1) := by decide +kernel
theorem dX3_root_2 : decode cX3_root 2 = .ok (.dcmp .g, 1) := by decide +kernel
theorem dX3_root_3 : decode cX3_root 3 = .ok (.ifCond .ge 7, 3) := by decide +kernel
theorem dX3_root_6 : decode cX3_root 6 = .ok (.dconst 1, 1) := by decide +kernel
theorem dX3_root_7 : decode cX3_root 7 = .ok (.goto 4, 3) := by decide +kernel
theorem dX3_root_10 : decode cX3_root 10 = .ok (.dload_n 0, 1) := by decide +kernel
theorem dX3_root_11 : decode cX3_root 11 = .ok (.dstore_n 2, 1) := by decide +kernel
theorem dX3_root_12 : decode cX3_root 12 = .ok (.iconst 0, 1) := by decide +kernel
theorem dX3_root_13 : decode cX3_root 13 = .ok (.istore 4, 2) := by decide +kernel
theorem dX3_root_15 : decode cX3_root 15 = .ok (.iload 4, 2) := by decide +kernel
theorem dX3_root_17 : decode cX3_root 17 = .ok (.bipush 14, 2) := by decide +kernel
theorem dX3_root_19 : decode cX3_root 19 = .ok (.if_icmp .ge 25, 3) := by decide +kernel
theorem dX3_root_22 : decode cX3_root 22 = .ok (.dload_n 2, 1) := by decide +kernel
theorem dX3_root_23 : decode cX3_root 23 = .ok (.dconst 0, 1) := by decide +kernel
theorem dX3_root_24 : decode cX3_root 24 = .ok (.dcmp .l, 1) := by decide +kernel
theorem dX3_root_25 : decode cX3_root 25 = .ok (.ifCond .le 13, 3) := by decide +kernel
theorem dX3_root_28 : decode cX3_root 28 = .ok (.ldc2_w 148, 3) := by decide +kernel
theorem dX3_root_31 : decode cX3_root 31 = .ok (.dload_n 2, 1) := by decide +kernel
theorem dX3_root_32 : decode cX3_root 32 = .ok (.dload_n 0, 1) := by decide +kernel
theorem dX3_root_33 : decode cX3_root 33 = .ok (.dload_n 2, 1) := by decide +kernel
theorem dX3_root_34 : decode cX3_root 34 = .ok (.ddiv, 1) := by decide +kernel
theorem dX3_root_35 : decode cX3_root 35 = .ok (.dadd, 1) := by decide +kernel
theorem dX3_root_36 : decode cX3_root 36 = .ok (.dmul, 1) := by decide +kernel
theorem dX3_root_37 : decode cX3_root 37 = .ok (.dstore_n 2, 1) := by decide +kernel
theorem dX3_root_38 : decode cX3_root 38 = .ok (.iinc 4 1, 3) := by decide +kernel
theorem dX3_root_41 : decode cX3_root 41 = .ok (.goto (-26), 3) := by decide +kernel
theorem dX3_root_44 : decode cX3_root 44 = .ok (.dload_n 2, 1) := by decide +kernel
theorem dX3_root_45 : decode cX3_root 45 = .ok (.dreturn, 1) := by decide +kernel
theorem dX3_speedOf_0 : decode cX3_speedOf 0 = .ok (.dload_n 0, 1) := by decide +kernel
theorem dX3_speedOf_1 : decode cX3_speedOf 1 = .ok (.dconst 0, 1) := by decide +kernel
theorem dX3_speedOf_2 : decode cX3_speedOf 2 = .ok (.dcmp .l, 1) := by decide +kernel
theorem dX3_speedOf_3 : decode cX3_speedOf 3 = .ok (.ifCond .le 9, 3) := by decide +kernel
theorem dX3_speedOf_6 : decode cX3_speedOf 6 = .ok (.dload_n 2, 1) := by decide +kernel
theorem dX3_speedOf_7 : decode cX3_speedOf 7 = .ok (.dload_n 0, 1) := by decide +kernel
theorem dX3_speedOf_8 : decode cX3_speedOf 8 = .ok (.ddiv, 1) := by decide +kernel
theorem dX3_speedOf_9 : decode cX3_speedOf 9 = .ok (.goto 4, 3) := by decide +kernel
theorem dX3_speedOf_12 : decode cX3_speedOf 12 = .ok (.dconst 0, 1) := by decide +kernel
theorem dX3_speedOf_13 : decode cX3_speedOf 13 = .ok (.dreturn, 1) := by decide +kernel
theorem dX3_absolute_0 : decode cX3_absolute 0 = .ok (.dload_n 0, 1) := by decide +kernel
theorem dX3_absolute_1 : decode cX3_absolute 1 = .ok (.dconst 0, 1) := by decide +kernel
theorem dX3_absolute_2 : decode cX3_absolute 2 = .ok (.dcmp .g, 1) := by decide +kernel
theorem dX3_absolute_3 : decode cX3_absolute 3 = .ok (.ifCond .ge 8, 3) := by decide +kernel
theorem dX3_absolute_6 : decode cX3_absolute 6 = .ok (.dload_n 0, 1) := by decide +kernel
theorem dX3_absolute_7 : decode cX3_absolute 7 = .ok (.dneg, 1) := by decide +kernel
theorem dX3_absolute_8 : decode cX3_absolute 8 = .ok (.goto 4, 3) := by decide +kernel
theorem dX3_absolute_11 : decode cX3_absolute 11 = .ok (.dload_n 0, 1) := by decide +kernel
theorem dX3_absolute_12 : decode cX3_absolute 12 = .ok (.dreturn, 1) := by decide +kernel
theorem dX3_greater_0 : decode cX3_greater 0 = .ok (.dload_n 0, 1) := by decide +kernel
theorem dX3_greater_1 : decode cX3_greater 1 = .ok (.dload_n 2, 1) := by decide +kernel
theorem dX3_greater_2 : decode cX3_greater 2 = .ok (.dcmp .l, 1) := by decide +kernel
theorem dX3_greater_3 : decode cX3_greater 3 = .ok (.ifCond .lt 7, 3) := by decide +kernel
theorem dX3_greater_6 : decode cX3_greater 6 = .ok (.dload_n 0, 1) := by decide +kernel
theorem dX3_greater_7 : decode cX3_greater 7 = .ok (.goto 4, 3) := by decide +kernel
theorem dX3_greater_10 : decode cX3_greater 10 = .ok (.dload_n 2, 1) := by decide +kernel
theorem dX3_greater_11 : decode cX3_greater 11 = .ok (.dreturn, 1) := by decide +kernel
theorem dX3_lesser_0 : decode cX3_lesser 0 = .ok (.dload_n 0, 1) := by decide +kernel
theorem dX3_lesser_1 : decode cX3_lesser 1 = .ok (.dload_n 2, 1) := by decide +kernel
theorem dX3_lesser_2 : decode cX3_lesser 2 = .ok (.dcmp .g, 1) := by decide +kernel
theorem dX3_lesser_3 : decode cX3_lesser 3 = .ok (.ifCond .gt 7, 3) := by decide +kernel
theorem dX3_lesser_6 : decode cX3_lesser 6 = .ok (.dload_n 0, 1) := by decide +kernel
theorem dX3_lesser_7 : decode cX3_lesser 7 = .ok (.goto 4, 3) := by decide +kernel
theorem dX3_lesser_10 : decode cX3_lesser 10 = .ok (.dload_n 2, 1) := by decide +kernel
theorem dX3_lesser_11 : decode cX3_lesser 11 = .ok (.dreturn, 1) := by decide +kernel
set_option maxRecDepth 20000 in
theorem ggX4_init_X4_empty : GoodIn wsX4_init wsX4_empty := goodIn_r _ [13, 14, 15, 5, 6, 16, 17, 18, 19, 20, 21, 22, 23, 24, 25, 26, 27, 28, 29, 30, 31, 32, 33, 34, 35] (by decide +kernel) (by decide +kernel)
set_option maxRecDepth 20000 in
theorem gX4_init_X4_empty : GoodIn wsX4_init (wsV RX4 16 RX4 yX4_empty wsX4_empty) := goodIn_app (goodIn_of _ (by decide +kernel)) ggX4_init_X4_empty
theorem dX4_init_0 : decode cX4_init 0 = .ok (.aload_n 0, 1) := by decide +kernel
theorem dX4_init_1 : decode cX4_init 1 = .ok (.invokespecial 1, 3) := by decide +kernel
theorem dX4_init_4 : decode cX4_init 4 = .ok (.aload_n 0, 1) := by decide +kernel
theorem dX4_init_5 : decode cX4_init 5 = .ok (.bipush 84, 2) := by decide +kernel
theorem dX4_init_7 : decode cX4_init 7 = .ok (.newarray .double, 2) := by decide +kernel
theorem dX4_init_9 : decode cX4_init 9 = .ok (.putfield 7, 3) := by decide +kernel
theorem dX4_init_12 : decode cX4_init 12 = .ok (.aload_n 0, 1) := by decide +kernel
theorem dX4_init_13 : decode cX4_init 13 = .ok (.bipush 84, 2) := by decide +kernel
theorem dX4_init_15 : decode cX4_init 15 = .ok (.newarray .double, 2) := by decide +kernel
theorem dX4_init_17 : decode cX4_init 17 = .ok (.putfield 13, 3) := by decide +kernel
theorem dX4_init_20 : decode cX4_init 20 = .ok (.aload_n 0, 1) := by decide +kernel
theorem dX4_init_21 : decode cX4_init 21 = .ok (.bipush 8, 2) := by decide +kernel
theorem dX4_init_23 : decode cX4_init 23 = .ok (.invokevirtual 16, 3) := by decide +kernel
theorem dX4_init_26 : decode cX4_init 26 = .ok (.aload_n 0, 1) := by decide +kernel
theorem dX4_init_27 : decode cX4_init 27 = .ok (.iconst 1, 1) := by decide +kernel
theorem dX4_init_28 : decode cX4_init 28 = .ok (.putfield 20, 3) := by decide +kernel
theorem dX4_init_31 : decode cX4_init 31 = .ok (.aload_n 0, 1) := by decide +kernel
theorem dX4_init_32 : decode cX4_init 32 = .ok (.iconst 1, 1) := by decide +kernel
theorem dX4_init_33 : decode cX4_init 33 = .ok (.putfield 24, 3) := by decide +kernel
theorem dX4_init_36 : decode cX4_init 36 = .ok (.return_, 1) := by decide +kernel
theorem dX4_thrown_0 : decode cX4_thrown 0 = .ok (.aload_n 0, 1) := by decide +kernel
theorem dX4_thrown_1 : decode cX4_thrown 1 = .ok (.getfield 27, 3) := by decide +kernel
theorem dX4_thrown_4 : decode cX4_thrown 4 = .ok (.ireturn, 1) := by decide +kernel
theorem dX4_fails_0 : decode cX4_fails 0 = .ok (.aload_n 0, 1) := by decide +kernel
theorem dX4_fails_1 : decode cX4_fails 1 = .ok (.iload_n 1, 1) := by decide +kernel
theorem dX4_fails_2 : decode cX4_fails 2 = .ok (.ifCond .eq 7, 3) := by decide +kernel
theorem dX4_fails_5 : decode cX4_fails 5 = .ok (.iload_n 2, 1) := by decide +kernel
theorem dX4_fails_6 : decode cX4_fails 6 = .ok (.goto 4, 3) := by decide +kernel
theorem dX4_fails_9 : decode cX4_fails 9 = .ok (.iconst 0, 1) := by decide +kernel
theorem dX4_fails_10 : decode cX4_fails 10 = .ok (.putfield 27, 3) := by decide +kernel
theorem dX4_fails_13 : decode cX4_fails 13 = .ok (.iload_n 1, 1) := by decide +kernel
theorem dX4_fails_14 : decode cX4_fails 14 = .ok (.ireturn, 1) := by decide +kernel
theorem dX4_out_0 : decode cX4_out 0 = .ok (.iload_n 0, 1) := by decide +kernel
theorem dX4_out_1 : decode cX4_out 1 = .ok (.iload_n 1, 1) := by decide +kernel
theorem dX4_out_2 : decode cX4_out 2 = .ok (.if_icmp .lt 8, 3) := by decide +kernel
theorem dX4_out_5 : decode cX4_out 5 = .ok (.iload_n 0, 1) := by decide +kernel
theorem dX4_out_6 : decode cX4_out 6 = .ok (.iload_n 2, 1) := by decide +kernel
theorem dX4_out_7 : decode cX4_out 7 = .ok (.if_icmp .le 7, 3) := by decide +kernel
theorem dX4_out_10 : decode cX4_out 10 = .ok (.iconst 1, 1) := by decide +kernel
theorem dX4_out_11 : decode cX4_out 11 = .ok (.goto 4, 3) := by decide +kernel
theorem dX4_out_14 : decode cX4_out 14 = .ok (.iconst 0, 1) := by decide +kernel
theorem dX4_out_15 : decode cX4_out 15 = .ok (.ireturn, 1) := by decide +kernel
theorem dX4_empty_0 : decode cX4_empty 0 = .ok (.aload_n 0, 1) := by decide +kernel
theorem dX4_empty_1 : decode cX4_empty 1 = .ok (.iload_n 1, 1) := by decide +kernel
theorem dX4_empty_2 : decode cX4_empty 2 = .ok (.putfield 30, 3) := by decide +kernel
theorem dX4_empty_5 : decode cX4_empty 5 = .ok (.aload_n 0, 1) := by decide +kernel
theorem dX4_empty_6 : decode cX4_empty 6 = .ok (.dconst 0, 1) := by decide +kernel
theorem dX4_empty_7 : decode cX4_empty 7 = .ok (.putfield 33, 3) := by decide +kernel
theorem dX4_empty_10 : decode cX4_empty 10 = .ok (.iconst 0, 1) := by decide +kernel
theorem dX4_empty_11 : decode cX4_empty 11 = .ok (.istore_n 2, 1) := by decide +kernel
theorem dX4_empty_12 : decode cX4_empty 12 = .ok (.iload_n 2, 1) := by decide +kernel
theorem dX4_empty_13 : decode cX4_empty 13 = .ok (.aload_n 0, 1) := by decide +kernel
theorem dX4_empty_14 : decode cX4_empty 14 = .ok (.getfield 30, 3) := by decide +kernel
theorem dX4_empty_17 : decode cX4_empty 17 = .ok (.if_icmp .ge 27, 3) := by decide +kernel
theorem dX4_empty_20 : decode cX4_empty 20 = .ok (.aload_n 0, 1) := by decide +kernel
theorem dX4_empty_21 : decode cX4_empty 21 = .ok (.getfield 7, 3) := by decide +kernel
theorem dX4_empty_24 : decode cX4_empty 24 = .ok (.iload_n 2, 1) := by decide +kernel
theorem dX4_empty_25 : decode cX4_empty 25 = .ok (.iconst 2, 1) := by decide +kernel
theorem dX4_empty_26 : decode cX4_empty 26 = .ok (.iadd, 1) := by decide +kernel
theorem dX4_empty_27 : decode cX4_empty 27 = .ok (.dconst 1, 1) := by decide +kernel
theorem dX4_empty_28 : decode cX4_empty 28 = .ok (.dastore, 1) := by decide +kernel
theorem dX4_empty_29 : decode cX4_empty 29 = .ok (.aload_n 0, 1) := by decide +kernel
theorem dX4_empty_30 : decode cX4_empty 30 = .ok (.getfield 13, 3) := by decide +kernel
theorem dX4_empty_33 : decode cX4_empty 33 = .ok (.iload_n 2, 1) := by decide +kernel
theorem dX4_empty_34 : decode cX4_empty 34 = .ok (.iconst 2, 1) := by decide +kernel
theorem dX4_empty_35 : decode cX4_empty 35 = .ok (.iadd, 1) := by decide +kernel
theorem dX4_empty_36 : decode cX4_empty 36 = .ok (.dconst 0, 1) := by decide +kernel
theorem dX4_empty_37 : decode cX4_empty 37 = .ok (.dastore, 1) := by decide +kernel
theorem dX4_empty_38 : decode cX4_empty 38 = .ok (.iinc 2 1, 3) := by decide +kernel
theorem dX4_empty_41 : decode cX4_empty 41 = .ok (.goto (-29), 3) := by decide +kernel
theorem dX4_empty_44 : decode cX4_empty 44 = .ok (.return_, 1) := by decide +kernel
set_option maxRecDepth 20000 in
theorem ggX4_cells_X4_out : GoodIn wsX4_cells wsX4_out := goodIn_r _ [4] (by decide +kernel) (by decide +kernel)
set_option maxRecDepth 20000 in
theorem gX4_cells_X4_out : GoodIn wsX4_cells (va_wsS RX4 37 yX4_out wsX4_out) := goodIn_app (goodIn_of _ (by decide +kernel)) ggX4_cells_X4_out
set_option maxRecDepth 20000 in
theorem ggX4_cells_X4_fails : GoodIn wsX4_cells wsX4_fails := goodIn_r _ [8, 9, 18, 19, 20, 21, 22, 23, 24, 25, 26, 27, 28, 29, 30, 31, 32, 33, 34, 35, 36, 37] (by decide +kernel) (by decide +kernel)
set_option maxRecDepth 20000 in
theorem gX4_cells_X4_fails : GoodIn wsX4_cells (wsV RX4 41 RX4 yX4_fails wsX4_fails) := goodIn_app (goodIn_of _ (by decide +kernel)) ggX4_cells_X4_fails
set_option maxRecDepth 20000 in
theorem ggX4_cells_X4_empty : GoodIn wsX4_cells wsX4_empty := goodIn_r _ [13, 14, 15, 16, 17, 18, 19, 20, 21, 22, 23, 24, 25, 26, 27, 28, 29, 30, 31, 32, 33, 34, 35, 36, 37] (by decide +kernel) (by decide +kernel)
set_option maxRecDepth 20000 in
theorem gX4_cells_X4_empty : GoodIn wsX4_cells (wsV RX4 16 RX4 yX4_empty wsX4_empty) := goodIn_app (goodIn_of _ (by decide +kernel)) ggX4_cells_X4_empty
theorem dX4_cells_0 : decode cX4_cells 0 = .ok (.aload_n 0, 1) := by decide +kernel
theorem dX4_cells_1 : decode cX4_cells 1 = .ok (.iload_n 1, 1) := by decide +kernel
theorem dX4_cells_2 : decode cX4_cells 2 = .ok (.iconst 4, 1) := by decide +kernel
theorem dX4_cells_3 : decode cX4_cells 3 = .ok (.bipush 24, 2) := by decide +kernel
theorem dX4_cells_5 : decode cX4_cells 5 = .ok (.invokestatic 37, 3) := by decide +kernel
theorem dX4_cells_8 : decode cX4_cells 8 = .ok (.iconst 1, 1) := by decide +kernel
theorem dX4_cells_9 : decode cX4_cells 9 = .ok (.invokevirtual 41, 3) := by decide +kernel
theorem dX4_cells_12 : decode cX4_cells 12 = .ok (.ifCond .eq 4, 3) := by decide +kernel
theorem dX4_cells_15 : decode cX4_cells 15 = .ok (.return_, 1) := by decide +kernel
theorem dX4_cells_16 : decode cX4_cells 16 = .ok (.aload_n 0, 1) := by decide +kernel
theorem dX4_cells_17 : decode cX4_cells 17 = .ok (.iload_n 1, 1) := by decide +kernel
theorem dX4_cells_18 : decode cX4_cells 18 = .ok (.invokevirtual 16, 3) := by decide +kernel
theorem dX4_cells_21 : decode cX4_cells 21 = .ok (.return_, 1) := by decide +kernel
set_option maxRecDepth 20000 in
theorem ggX4_choose_X4_out : GoodIn wsX4_choose wsX4_out := goodIn_r _ [8] (by decide +kernel) (by decide +kernel)
set_option maxRecDepth 20000 in
theorem gX4_choose_X4_out : GoodIn wsX4_choose (va_wsS RX4 37 yX4_out wsX4_out) := goodIn_app (goodIn_of _ (by decide +kernel)) ggX4_choose_X4_out
set_option maxRecDepth 20000 in
theorem ggX4_choose_X4_fails : GoodIn wsX4_choose wsX4_fails := goodIn_r _ [12, 13, 14, 15, 16, 17, 18, 19, 20, 21, 22, 23, 24, 25, 26, 27, 28, 29, 30, 31, 32, 33] (by decide +kernel) (by decide +kernel)
set_option maxRecDepth 20000 in
theorem gX4_choose_X4_fails : GoodIn wsX4_choose (wsV RX4 41 RX4 yX4_fails wsX4_fails) := goodIn_app (goodIn_of _ (by decide +kernel)) ggX4_choose_X4_fails
