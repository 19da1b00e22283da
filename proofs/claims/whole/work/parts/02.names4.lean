theorem dX4_choose_0 : decode cX4_choose 0 = .ok (.aload_n 0, 1) := by decide +kernel
theorem dX4_choose_1 : decode cX4_choose 1 = .ok (.iload_n 1, 1) := by decide +kernel
theorem dX4_choose_2 : decode cX4_choose 2 = .ok (.iconst 0, 1) := by decide +kernel
theorem dX4_choose_3 : decode cX4_choose 3 = .ok (.iconst 2, 1) := by decide +kernel
theorem dX4_choose_4 : decode cX4_choose 4 = .ok (.invokestatic 37, 3) := by decide +kernel
theorem dX4_choose_7 : decode cX4_choose 7 = .ok (.ifCond .ne 31, 3) := by decide +kernel
theorem dX4_choose_10 : decode cX4_choose 10 = .ok (.iload_n 2, 1) := by decide +kernel
theorem dX4_choose_11 : decode cX4_choose 11 = .ok (.iconst 0, 1) := by decide +kernel
theorem dX4_choose_12 : decode cX4_choose 12 = .ok (.iconst 3, 1) := by decide +kernel
theorem dX4_choose_13 : decode cX4_choose 13 = .ok (.invokestatic 37, 3) := by decide +kernel
theorem dX4_choose_16 : decode cX4_choose 16 = .ok (.ifCond .ne 22, 3) := by decide +kernel
theorem dX4_choose_19 : decode cX4_choose 19 = .ok (.iload_n 3, 1) := by decide +kernel
theorem dX4_choose_20 : decode cX4_choose 20 = .ok (.iconst 0, 1) := by decide +kernel
theorem dX4_choose_21 : decode cX4_choose 21 = .ok (.iconst 1, 1) := by decide +kernel
theorem dX4_choose_22 : decode cX4_choose 22 = .ok (.invokestatic 37, 3) := by decide +kernel
theorem dX4_choose_25 : decode cX4_choose 25 = .ok (.ifCond .ne 13, 3) := by decide +kernel
theorem dX4_choose_28 : decode cX4_choose 28 = .ok (.iload 4, 2) := by decide +kernel
theorem dX4_choose_30 : decode cX4_choose 30 = .ok (.iconst 1, 1) := by decide +kernel
theorem dX4_choose_31 : decode cX4_choose 31 = .ok (.iconst 2, 1) := by decide +kernel
theorem dX4_choose_32 : decode cX4_choose 32 = .ok (.invokestatic 37, 3) := by decide +kernel
theorem dX4_choose_35 : decode cX4_choose 35 = .ok (.ifCond .eq 7, 3) := by decide +kernel
theorem dX4_choose_38 : decode cX4_choose 38 = .ok (.iconst 1, 1) := by decide +kernel
theorem dX4_choose_39 : decode cX4_choose 39 = .ok (.goto 4, 3) := by decide +kernel
theorem dX4_choose_42 : decode cX4_choose 42 = .ok (.iconst 0, 1) := by decide +kernel
theorem dX4_choose_43 : decode cX4_choose 43 = .ok (.iconst 1, 1) := by decide +kernel
theorem dX4_choose_44 : decode cX4_choose 44 = .ok (.invokevirtual 41, 3) := by decide +kernel
theorem dX4_choose_47 : decode cX4_choose 47 = .ok (.ifCond .eq 4, 3) := by decide +kernel
theorem dX4_choose_50 : decode cX4_choose 50 = .ok (.return_, 1) := by decide +kernel
theorem dX4_choose_51 : decode cX4_choose 51 = .ok (.aload_n 0, 1) := by decide +kernel
theorem dX4_choose_52 : decode cX4_choose 52 = .ok (.iload_n 1, 1) := by decide +kernel
theorem dX4_choose_53 : decode cX4_choose 53 = .ok (.putfield 45, 3) := by decide +kernel
theorem dX4_choose_56 : decode cX4_choose 56 = .ok (.aload_n 0, 1) := by decide +kernel
theorem dX4_choose_57 : decode cX4_choose 57 = .ok (.iload_n 2, 1) := by decide +kernel
theorem dX4_choose_58 : decode cX4_choose 58 = .ok (.putfield 20, 3) := by decide +kernel
theorem dX4_choose_61 : decode cX4_choose 61 = .ok (.aload_n 0, 1) := by decide +kernel
theorem dX4_choose_62 : decode cX4_choose 62 = .ok (.iload_n 3, 1) := by decide +kernel
theorem dX4_choose_63 : decode cX4_choose 63 = .ok (.putfield 48, 3) := by decide +kernel
theorem dX4_choose_66 : decode cX4_choose 66 = .ok (.aload_n 0, 1) := by decide +kernel
theorem dX4_choose_67 : decode cX4_choose 67 = .ok (.iload 4, 2) := by decide +kernel
theorem dX4_choose_69 : decode cX4_choose 69 = .ok (.putfield 24, 3) := by decide +kernel
theorem dX4_choose_72 : decode cX4_choose 72 = .ok (.return_, 1) := by decide +kernel
theorem dX4_within_0 : decode cX4_within 0 = .ok (.dload_n 0, 1) := by decide +kernel
theorem dX4_within_1 : decode cX4_within 1 = .ok (.dload_n 2, 1) := by decide +kernel
theorem dX4_within_2 : decode cX4_within 2 = .ok (.dcmp .l, 1) := by decide +kernel
theorem dX4_within_3 : decode cX4_within 3 = .ok (.ifCond .lt 14, 3) := by decide +kernel
theorem dX4_within_6 : decode cX4_within 6 = .ok (.dload_n 0, 1) := by decide +kernel
theorem dX4_within_7 : decode cX4_within 7 = .ok (.dload 4, 2) := by decide +kernel
theorem dX4_within_9 : decode cX4_within 9 = .ok (.dcmp .g, 1) := by decide +kernel
theorem dX4_within_10 : decode cX4_within 10 = .ok (.ifCond .gt 7, 3) := by decide +kernel
theorem dX4_within_13 : decode cX4_within 13 = .ok (.iconst 1, 1) := by decide +kernel
theorem dX4_within_14 : decode cX4_within 14 = .ok (.goto 4, 3) := by decide +kernel
theorem dX4_within_17 : decode cX4_within 17 = .ok (.iconst 0, 1) := by decide +kernel
theorem dX4_within_18 : decode cX4_within 18 = .ok (.ireturn, 1) := by decide +kernel
set_option maxRecDepth 20000 in
theorem ggX4_put_X4_out : GoodIn wsX4_put wsX4_out := goodIn_r _ [11] (by decide +kernel) (by decide +kernel)
set_option maxRecDepth 20000 in
theorem gX4_put_X4_out : GoodIn wsX4_put (va_wsS RX4 37 yX4_out wsX4_out) := goodIn_app (goodIn_of _ (by decide +kernel)) ggX4_put_X4_out
set_option maxRecDepth 20000 in
theorem ggX4_put_X4_within : GoodIn wsX4_put wsX4_within := goodIn_r _ [14] (by decide +kernel) (by decide +kernel)
set_option maxRecDepth 20000 in
theorem gX4_put_X4_within : GoodIn wsX4_put (va_wsS RX4 55 yX4_within wsX4_within) := goodIn_app (goodIn_of _ (by decide +kernel)) ggX4_put_X4_within
set_option maxRecDepth 20000 in
theorem ggX4_put_X4_fails : GoodIn wsX4_put wsX4_fails := goodIn_r _ [18, 19, 20, 21, 22, 23, 24, 25, 26, 27, 28, 29, 30, 31, 32, 33, 34, 35, 36, 37, 38, 39] (by decide +kernel) (by decide +kernel)
set_option maxRecDepth 20000 in
theorem gX4_put_X4_fails : GoodIn wsX4_put (wsV RX4 41 RX4 yX4_fails wsX4_fails) := goodIn_app (goodIn_of _ (by decide +kernel)) ggX4_put_X4_fails
theorem dX4_put_0 : decode cX4_put 0 = .ok (.aload_n 0, 1) := by decide +kernel
theorem dX4_put_1 : decode cX4_put 1 = .ok (.iload_n 1, 1) := by decide +kernel
theorem dX4_put_2 : decode cX4_put 2 = .ok (.iconst 0, 1) := by decide +kernel
theorem dX4_put_3 : decode cX4_put 3 = .ok (.aload_n 0, 1) := by decide +kernel
theorem dX4_put_4 : decode cX4_put 4 = .ok (.getfield 30, 3) := by decide +kernel
theorem dX4_put_7 : decode cX4_put 7 = .ok (.iconst 1, 1) := by decide +kernel
theorem dX4_put_8 : decode cX4_put 8 = .ok (.isub, 1) := by decide +kernel
theorem dX4_put_9 : decode cX4_put 9 = .ok (.invokestatic 37, 3) := by decide +kernel
theorem dX4_put_12 : decode cX4_put 12 = .ok (.ifCond .ne 30, 3) := by decide +kernel
theorem dX4_put_15 : decode cX4_put 15 = .ok (.dload_n 2, 1) := by decide +kernel
theorem dX4_put_16 : decode cX4_put 16 = .ok (.ldc2_w 51, 3) := by decide +kernel
theorem dX4_put_19 : decode cX4_put 19 = .ok (.ldc2_w 53, 3) := by decide +kernel
theorem dX4_put_22 : decode cX4_put 22 = .ok (.invokestatic 55, 3) := by decide +kernel
theorem dX4_put_25 : decode cX4_put 25 = .ok (.ifCond .eq 17, 3) := by decide +kernel
theorem dX4_put_28 : decode cX4_put 28 = .ok (.dload 4, 2) := by decide +kernel
theorem dX4_put_30 : decode cX4_put 30 = .ok (.ldc2_w 59, 3) := by decide +kernel
theorem dX4_put_33 : decode cX4_put 33 = .ok (.ldc2_w 61, 3) := by decide +kernel
theorem dX4_put_36 : decode cX4_put 36 = .ok (.invokestatic 55, 3) := by decide +kernel
theorem dX4_put_39 : decode cX4_put 39 = .ok (.ifCond .ne 7, 3) := by decide +kernel
theorem dX4_put_42 : decode cX4_put 42 = .ok (.iconst 1, 1) := by decide +kernel
theorem dX4_put_43 : decode cX4_put 43 = .ok (.goto 4, 3) := by decide +kernel
theorem dX4_put_46 : decode cX4_put 46 = .ok (.iconst 0, 1) := by decide +kernel
theorem dX4_put_47 : decode cX4_put 47 = .ok (.iconst 1, 1) := by decide +kernel
theorem dX4_put_48 : decode cX4_put 48 = .ok (.invokevirtual 41, 3) := by decide +kernel
theorem dX4_put_51 : decode cX4_put 51 = .ok (.ifCond .eq 4, 3) := by decide +kernel
theorem dX4_put_54 : decode cX4_put 54 = .ok (.return_, 1) := by decide +kernel
theorem dX4_put_55 : decode cX4_put 55 = .ok (.aload_n 0, 1) := by decide +kernel
theorem dX4_put_56 : decode cX4_put 56 = .ok (.getfield 7, 3) := by decide +kernel
theorem dX4_put_59 : decode cX4_put 59 = .ok (.iload_n 1, 1) := by decide +kernel
theorem dX4_put_60 : decode cX4_put 60 = .ok (.iconst 2, 1) := by decide +kernel
theorem dX4_put_61 : decode cX4_put 61 = .ok (.iadd, 1) := by decide +kernel
theorem dX4_put_62 : decode cX4_put 62 = .ok (.dload_n 2, 1) := by decide +kernel
theorem dX4_put_63 : decode cX4_put 63 = .ok (.dastore, 1) := by decide +kernel
theorem dX4_put_64 : decode cX4_put 64 = .ok (.aload_n 0, 1) := by decide +kernel
theorem dX4_put_65 : decode cX4_put 65 = .ok (.getfield 13, 3) := by decide +kernel
theorem dX4_put_68 : decode cX4_put 68 = .ok (.iload_n 1, 1) := by decide +kernel
theorem dX4_put_69 : decode cX4_put 69 = .ok (.iconst 2, 1) := by decide +kernel
theorem dX4_put_70 : decode cX4_put 70 = .ok (.iadd, 1) := by decide +kernel
theorem dX4_put_71 : decode cX4_put 71 = .ok (.dload 4, 2) := by decide +kernel
theorem dX4_put_73 : decode cX4_put 73 = .ok (.dastore, 1) := by decide +kernel
theorem dX4_put_74 : decode cX4_put 74 = .ok (.return_, 1) := by decide +kernel
theorem dX4_root_0 : decode cX4_root 0 = .ok (.dload_n 0, 1) := by decide +kernel
theorem dX4_root_1 : decode cX4_root 1 = .ok (.dconst 1, 1) := by decide +kernel
theorem dX4_root_2 : decode cX4_root 2 = .ok (.dcmp .g, 1) := by decide +kernel
theorem dX4_root_3 : decode cX4_root 3 = .ok (.ifCond .ge 7, 3) := by decide +kernel
theorem dX4_root_6 : decode cX4_root 6 = .ok (.dconst 1, 1) := by decide +kernel
theorem dX4_root_7 : decode cX4_root 7 = .ok (.goto 4, 3) := by decide +kernel
theorem dX4_root_10 : decode cX4_root 10 = .ok (.dload_n 0, 1) := by decide +kernel
theorem dX4_root_11 : decode cX4_root 11 = .ok (.dstore_n 2, 1) := by decide +kernel
theorem dX4_root_12 : decode cX4_root 12 = .ok (.iconst 0, 1) := by decide +kernel
theorem dX4_root_13 : decode cX4_root 13 = .ok (.istore 4, 2) := by decide +kernel
theorem dX4_root_15 : decode cX4_root 15 = .ok (.iload 4, 2) := by decide +kernel
theorem dX4_root_17 : decode cX4_root 17 = .ok (.bipush 14, 2) := by decide +kernel
theorem dX4_root_19 : decode cX4_root 19 = .ok (.if_icmp .ge 19, 3) := by decide +kernel
theorem dX4_root_22 : decode cX4_root 22 = .ok (.ldc2_w 63, 3) := by decide +kernel
theorem dX4_root_25 : decode cX4_root 25 = .ok (.dload_n 2, 1) := by decide +kernel
theorem dX4_root_26 : decode cX4_root 26 = .ok (.dload_n 0, 1) := by decide +kernel
theorem dX4_root_27 : decode cX4_root 27 = .ok (.dload_n 2, 1) := by decide +kernel
theorem dX4_root_28 : decode cX4_root 28 = .ok (.ddiv, 1) := by decide +kernel
theorem dX4_root_29 : decode cX4_root 29 = .ok (.dadd, 1) := by decide +kernel
theorem dX4_root_30 : decode cX4_root 30 = .ok (.dmul, 1) := by decide +kernel
theorem dX4_root_31 : decode cX4_root 31 = .ok (.dstore_n 2, 1) := by decide +kernel
theorem dX4_root_32 : decode cX4_root 32 = .ok (.iinc 4 1, 3) := by decide +kernel
theorem dX4_root_35 : decode cX4_root 35 = .ok (.goto (-20), 3) := by decide +kernel
theorem dX4_root_38 : decode cX4_root 38 = .ok (.dload_n 2, 1) := by decide +kernel
theorem dX4_root_39 : decode cX4_root 39 = .ok (.dreturn, 1) := by decide +kernel
theorem dX4_size_0 : decode cX4_size 0 = .ok (.dload_n 0, 1) := by decide +kernel
theorem dX4_size_1 : decode cX4_size 1 = .ok (.dconst 0, 1) := by decide +kernel
theorem dX4_size_2 : decode cX4_size 2 = .ok (.dcmp .g, 1) := by decide +kernel
theorem dX4_size_3 : decode cX4_size 3 = .ok (.ifCond .ge 8, 3) := by decide +kernel
theorem dX4_size_6 : decode cX4_size 6 = .ok (.dload_n 0, 1) := by decide +kernel
theorem dX4_size_7 : decode cX4_size 7 = .ok (.dneg, 1) := by decide +kernel
theorem dX4_size_8 : decode cX4_size 8 = .ok (.goto 4, 3) := by decide +kernel
theorem dX4_size_11 : decode cX4_size 11 = .ok (.dload_n 0, 1) := by decide +kernel
theorem dX4_size_12 : decode cX4_size 12 = .ok (.dreturn, 1) := by decide +kernel
theorem dX4_greater_0 : decode cX4_greater 0 = .ok (.dload_n 0, 1) := by decide +kernel
theorem dX4_greater_1 : decode cX4_greater 1 = .ok (.dload_n 2, 1) := by decide +kernel
theorem dX4_greater_2 : decode cX4_greater 2 = .ok (.dcmp .l, 1) := by decide +kernel
theorem dX4_greater_3 : decode cX4_greater 3 = .ok (.ifCond .le 7, 3) := by decide +kernel
theorem dX4_greater_6 : decode cX4_greater 6 = .ok (.dload_n 0, 1) := by decide +kernel
theorem dX4_greater_7 : decode cX4_greater 7 = .ok (.goto 4, 3) := by decide +kernel
theorem dX4_greater_10 : decode cX4_greater 10 = .ok (.dload_n 2, 1) := by decide +kernel
theorem dX4_greater_11 : decode cX4_greater 11 = .ok (.dreturn, 1) := by decide +kernel
theorem dX4_lesser_0 : decode cX4_lesser 0 = .ok (.dload_n 0, 1) := by decide +kernel
theorem dX4_lesser_1 : decode cX4_lesser 1 = .ok (.dload_n 2, 1) := by decide +kernel
theorem dX4_lesser_2 : decode cX4_lesser 2 = .ok (.dcmp .g, 1) := by decide +kernel
theorem dX4_lesser_3 : decode cX4_lesser 3 = .ok (.ifCond .ge 7, 3) := by decide +kernel
theorem dX4_lesser_6 : decode cX4_lesser 6 = .ok (.dload_n 0, 1) := by decide +kernel
theorem dX4_lesser_7 : decode cX4_lesser 7 = .ok (.goto 4, 3) := by decide +kernel
theorem dX4_lesser_10 : decode cX4_lesser 10 = .ok (.dload_n 2, 1) := by decide +kernel
theorem dX4_lesser_11 : decode cX4_lesser 11 = .ok (.dreturn, 1) := by decide +kernel
set_option maxRecDepth 20000 in
theorem ggX4_least_X4_size : GoodIn wsX4_least wsX4_size := goodIn_r _ [4] (by decide +kernel) (by decide +kernel)
set_option maxRecDepth 20000 in
theorem gX4_least_X4_size : GoodIn wsX4_least (va_wsS RX4 65 yX4_size wsX4_size) := goodIn_app (goodIn_of _ (by decide +kernel)) ggX4_least_X4_size
theorem dX4_least_0 : decode cX4_least 0 = .ok (.dload_n 0, 1) := by decide +kernel
theorem dX4_least_1 : decode cX4_least 1 = .ok (.invokestatic 65, 3) := by decide +kernel
theorem dX4_least_4 : decode cX4_least 4 = .ok (.dload_n 2, 1) := by decide +kernel
theorem dX4_least_5 : decode cX4_least 5 = .ok (.invokestatic 65, 3) := by decide +kernel
theorem dX4_least_8 : decode cX4_least 8 = .ok (.dcmp .g, 1) := by decide +kernel
theorem dX4_least_9 : decode cX4_least 9 = .ok (.ifCond .gt 7, 3) := by decide +kernel
theorem dX4_least_12 : decode cX4_least 12 = .ok (.dload_n 0, 1) := by decide +kernel
theorem dX4_least_13 : decode cX4_least 13 = .ok (.goto 4, 3) := by decide +kernel
theorem dX4_least_16 : decode cX4_least 16 = .ok (.dload_n 2, 1) := by decide +kernel
theorem dX4_least_17 : decode cX4_least 17 = .ok (.dreturn, 1) := by decide +kernel
theorem dX4_force_0 : decode cX4_force 0 = .ok (.dload_n 2, 1) := by decide +kernel
theorem dX4_force_1 : decode cX4_force 1 = .ok (.dload_n 0, 1) := by decide +kernel
theorem dX4_force_2 : decode cX4_force 2 = .ok (.ddiv, 1) := by decide +kernel
theorem dX4_force_3 : decode cX4_force 3 = .ok (.dstore 4, 2) := by decide +kernel
theorem dX4_force_5 : decode cX4_force 5 = .ok (.dload_n 2, 1) := by decide +kernel
theorem dX4_force_6 : decode cX4_force 6 = .ok (.dload 4, 2) := by decide +kernel
theorem dX4_force_8 : decode cX4_force 8 = .ok (.dmul, 1) := by decide +kernel
theorem dX4_force_9 : decode cX4_force 9 = .ok (.ldc2_w 63, 3) := by decide +kernel
theorem dX4_force_12 : decode cX4_force 12 = .ok (.dload_n 0, 1) := by decide +kernel
theorem dX4_force_13 : decode cX4_force 13 = .ok (.dmul, 1) := by decide +kernel
theorem dX4_force_14 : decode cX4_force 14 = .ok (.dload_n 0, 1) := by decide +kernel
theorem dX4_force_15 : decode cX4_force 15 = .ok (.dmul, 1) := by decide +kernel
theorem dX4_force_16 : decode cX4_force 16 = .ok (.dadd, 1) := by decide +kernel
theorem dX4_force_17 : decode cX4_force 17 = .ok (.dreturn, 1) := by decide +kernel
set_option maxRecDepth 20000 in
theorem ggX4_speed_X4_size : GoodIn wsX4_speed wsX4_size := goodIn_r _ [4] (by decide +kernel) (by decide +kernel)
set_option maxRecDepth 20000 in
theorem gX4_speed_X4_size : GoodIn wsX4_speed (va_wsS RX4 65 yX4_size wsX4_size) := goodIn_app (goodIn_of _ (by decide +kernel)) ggX4_speed_X4_size
set_option maxRecDepth 20000 in
theorem ggX4_speed_X4_root : GoodIn wsX4_speed wsX4_root := goodIn_r _ [7, 8] (by decide +kernel) (by decide +kernel)
set_option maxRecDepth 20000 in
theorem gX4_speed_X4_root : GoodIn wsX4_speed (va_wsS RX4 69 yX4_root wsX4_root) := goodIn_app (goodIn_of _ (by decide +kernel)) ggX4_speed_X4_root
theorem dX4_speed_0 : decode cX4_speed 0 = .ok (.dload_n 2, 1) := by decide +kernel
theorem dX4_speed_1 : decode cX4_speed 1 = .ok (.dload_n 0, 1) := by decide +kernel
theorem dX4_speed_2 : decode cX4_speed 2 = .ok (.ddiv, 1) := by decide +kernel
theorem dX4_speed_3 : decode cX4_speed 3 = .ok (.invokestatic 65, 3) := by decide +kernel
theorem dX4_speed_6 : decode cX4_speed 6 = .ok (.dload_n 0, 1) := by decide +kernel
theorem dX4_speed_7 : decode cX4_speed 7 = .ok (.invokestatic 69, 3) := by decide +kernel
theorem dX4_speed_10 : decode cX4_speed 10 = .ok (.dadd, 1) := by decide +kernel
theorem dX4_speed_11 : decode cX4_speed 11 = .ok (.dreturn, 1) := by decide +kernel
theorem dX4_close_0 : decode cX4_close 0 = .ok (.bipush 28, 2) := by decide +kernel
theorem dX4_close_2 : decode cX4_close 2 = .ok (.iload_n 1, 1) := by decide +kernel
theorem dX4_close_3 : decode cX4_close 3 = .ok (.imul, 1) := by decide +kernel
theorem dX4_close_4 : decode cX4_close 4 = .ok (.iconst 2, 1) := by decide +kernel
theorem dX4_close_5 : decode cX4_close 5 = .ok (.iadd, 1) := by decide +kernel
theorem dX4_close_6 : decode cX4_close 6 = .ok (.istore_n 2, 1) := by decide +kernel
theorem dX4_close_7 : decode cX4_close 7 = .ok (.iload_n 2, 1) := by decide +kernel
theorem dX4_close_8 : decode cX4_close 8 = .ok (.aload_n 0, 1) := by decide +kernel
theorem dX4_close_9 : decode cX4_close 9 = .ok (.getfield 30, 3) := by decide +kernel
theorem dX4_close_12 : decode cX4_close 12 = .ok (.iadd, 1) := by decide +kernel
theorem dX4_close_13 : decode cX4_close 13 = .ok (.iconst 1, 1) := by decide +kernel
theorem dX4_close_14 : decode cX4_close 14 = .ok (.isub, 1) := by decide +kernel
theorem dX4_close_15 : decode cX4_close 15 = .ok (.istore_n 3, 1) := by decide +kernel
theorem dX4_close_16 : decode cX4_close 16 = .ok (.iconst 0, 1) := by decide +kernel
theorem dX4_close_17 : decode cX4_close 17 = .ok (.istore 4, 2) := by decide +kernel
theorem dX4_close_19 : decode cX4_close 19 = .ok (.iload 4, 2) := by decide +kernel
theorem dX4_close_21 : decode cX4_close 21 = .ok (.iconst 2, 1) := by decide +kernel
theorem dX4_close_22 : decode cX4_close 22 = .ok (.if_icmp .ge 183, 3) := by decide +kernel
theorem dX4_close_25 : decode cX4_close 25 = .ok (.aload_n 0, 1) := by decide +kernel
theorem dX4_close_26 : decode cX4_close 26 = .ok (.getfield 45, 3) := by decide +kernel
theorem dX4_close_29 : decode cX4_close 29 = .ok (.ifCond .ne 10, 3) := by decide +kernel
theorem dX4_close_32 : decode cX4_close 32 = .ok (.iload_n 3, 1) := by decide +kernel
theorem dX4_close_33 : decode cX4_close 33 = .ok (.iload 4, 2) := by decide +kernel
theorem dX4_close_35 : decode cX4_close 35 = .ok (.isub, 1) := by decide +kernel
theorem dX4_close_36 : decode cX4_close 36 = .ok (.goto 19, 3) := by decide +kernel
theorem dX4_close_39 : decode cX4_close 39 = .ok (.aload_n 0, 1) := by decide +kernel
theorem dX4_close_40 : decode cX4_close 40 = .ok (.getfield 45, 3) := by decide +kernel
theorem dX4_close_43 : decode cX4_close 43 = .ok (.iconst 1, 1) := by decide +kernel
theorem dX4_close_44 : decode cX4_close 44 = .ok (.if_icmp .ne 10, 3) := by decide +kernel
theorem dX4_close_47 : decode cX4_close 47 = .ok (.iload_n 2, 1) := by decide +kernel
theorem dX4_close_48 : decode cX4_close 48 = .ok (.iload 4, 2) := by decide +kernel
theorem dX4_close_50 : decode cX4_close 50 = .ok (.iadd, 1) := by decide +kernel
theorem dX4_close_51 : decode cX4_close 51 = .ok (.goto 4, 3) := by decide +kernel
theorem dX4_close_54 : decode cX4_close 54 = .ok (.iload_n 2, 1) := by decide +kernel
theorem dX4_close_55 : decode cX4_close 55 = .ok (.istore 5, 2) := by decide +kernel
theorem dX4_close_57 : decode cX4_close 57 = .ok (.aload_n 0, 1) := by decide +kernel
theorem dX4_close_58 : decode cX4_close 58 = .ok (.getfield 45, 3) := by decide +kernel
theorem dX4_close_61 : decode cX4_close 61 = .ok (.ifCond .ne 10, 3) := by decide +kernel
theorem dX4_close_64 : decode cX4_close 64 = .ok (.iload_n 2, 1) := by decide +kernel
theorem dX4_close_65 : decode cX4_close 65 = .ok (.iload 4, 2) := by decide +kernel
theorem dX4_close_67 : decode cX4_close 67 = .ok (.iadd, 1) := by decide +kernel
theorem dX4_close_68 : decode cX4_close 68 = .ok (.goto 19, 3) := by decide +kernel
theorem dX4_close_71 : decode cX4_close 71 = .ok (.aload_n 0, 1) := by decide +kernel
theorem dX4_close_72 : decode cX4_close 72 = .ok (.getfield 45, 3) := by decide +kernel
theorem dX4_close_75 : decode cX4_close 75 = .ok (.iconst 1, 1) := by decide +kernel
theorem dX4_close_76 : decode cX4_close 76 = .ok (.if_icmp .ne 10, 3) := by decide +kernel
theorem dX4_close_79 : decode cX4_close 79 = .ok (.iload_n 3, 1) := by decide +kernel
theorem dX4_close_80 : decode cX4_close 80 = .ok (.iload 4, 2) := by decide +kernel
theorem dX4_close_82 : decode cX4_close 82 = .ok (.isub, 1) := by decide +kernel
theorem dX4_close_83 : decode cX4_close 83 = .ok (.goto 4, 3) := by decide +kernel
theorem dX4_close_86 : decode cX4_close 86 = .ok (.iload_n 3, 1) := by decide +kernel
theorem dX4_close_87 : decode cX4_close 87 = .ok (.istore 6, 2) := by decide +kernel
theorem dX4_close_89 : decode cX4_close 89 = .ok (.aload_n 0, 1) := by decide +kernel
theorem dX4_close_90 : decode cX4_close 90 = .ok (.getfield 7, 3) := by decide +kernel
theorem dX4_close_93 : decode cX4_close 93 = .ok (.iload_n 2, 1) := by decide +kernel
theorem dX4_close_94 : decode cX4_close 94 = .ok (.iconst 1, 1) := by decide +kernel
theorem dX4_close_95 : decode cX4_close 95 = .ok (.isub, 1) := by decide +kernel
theorem dX4_close_96 : decode cX4_close 96 = .ok (.iload 4, 2) := by decide +kernel
theorem dX4_close_98 : decode cX4_close 98 = .ok (.isub, 1) := by decide +kernel
theorem dX4_close_99 : decode cX4_close 99 = .ok (.aload_n 0, 1) := by decide +kernel
theorem dX4_close_100 : decode cX4_close 100 = .ok (.getfield 7, 3) := by decide +kernel
theorem dX4_close_103 : decode cX4_close 103 = .ok (.iload 5, 2) := by decide +kernel
theorem dX4_close_105 : decode cX4_close 105 = .ok (.daload, 1) := by decide +kernel
theorem dX4_close_106 : decode cX4_close 106 = .ok (.dastore, 1) := by decide +kernel
theorem dX4_close_107 : decode cX4_close 107 = .ok (.aload_n 0, 1) := by decide +kernel
theorem dX4_close_108 : decode cX4_close 108 = .ok (.getfield 7, 3) := by decide +kernel
theorem dX4_close_111 : decode cX4_close 111 = .ok (.iload_n 3, 1) := by decide +kernel
theorem dX4_close_112 : decode cX4_close 112 = .ok (.iconst 1, 1) := by decide +kernel
theorem dX4_close_113 : decode cX4_close 113 = .ok (.iadd, 1) := by decide +kernel
theorem dX4_close_114 : decode cX4_close 114 = .ok (.iload 4, 2) := by decide +kernel
theorem dX4_close_116 : decode cX4_close 116 = .ok (.iadd, 1) := by decide +kernel
theorem dX4_close_117 : decode cX4_close 117 = .ok (.aload_n 0, 1) := by decide +kernel
theorem dX4_close_118 : decode cX4_close 118 = .ok (.getfield 7, 3) := by decide +kernel
theorem dX4_close_121 : decode cX4_close 121 = .ok (.iload 6, 2) := by decide +kernel
theorem dX4_close_123 : decode cX4_close 123 = .ok (.daload, 1) := by decide +kernel
theorem dX4_close_124 : decode cX4_close 124 = .ok (.dastore, 1) := by decide +kernel
theorem dX4_close_125 : decode cX4_close 125 = .ok (.aload_n 0, 1) := by decide +kernel
theorem dX4_close_126 : decode cX4_close 126 = .ok (.getfield 13, 3) := by decide +kernel
theorem dX4_close_129 : decode cX4_close 129 = .ok (.iload_n 2, 1) := by decide +kernel
theorem dX4_close_130 : decode cX4_close 130 = .ok (.iconst 1, 1) := by decide +kernel
theorem dX4_close_131 : decode cX4_close 131 = .ok (.isub, 1) := by decide +kernel
theorem dX4_close_132 : decode cX4_close 132 = .ok (.iload 4, 2) := by decide +kernel
theorem dX4_close_134 : decode cX4_close 134 = .ok (.isub, 1) := by decide +kernel
theorem dX4_close_135 : decode cX4_close 135 = .ok (.aload_n 0, 1) := by decide +kernel
theorem dX4_close_136 : decode cX4_close 136 = .ok (.getfield 45, 3) := by decide +kernel
theorem dX4_close_139 : decode cX4_close 139 = .ok (.iconst 1, 1) := by decide +kernel
theorem dX4_close_140 : decode cX4_close 140 = .ok (.if_icmp .ne 14, 3) := by decide +kernel
theorem dX4_close_143 : decode cX4_close 143 = .ok (.aload_n 0, 1) := by decide +kernel
theorem dX4_close_144 : decode cX4_close 144 = .ok (.getfield 13, 3) := by decide +kernel
theorem dX4_close_147 : decode cX4_close 147 = .ok (.iload 5, 2) := by decide +kernel
theorem dX4_close_149 : decode cX4_close 149 = .ok (.daload, 1) := by decide +kernel
theorem dX4_close_150 : decode cX4_close 150 = .ok (.dneg, 1) := by decide +kernel
theorem dX4_close_151 : decode cX4_close 151 = .ok (.goto 10, 3) := by decide +kernel
theorem dX4_close_154 : decode cX4_close 154 = .ok (.aload_n 0, 1) := by decide +kernel
theorem dX4_close_155 : decode cX4_close 155 = .ok (.getfield 13, 3) := by decide +kernel
theorem dX4_close_158 : decode cX4_close 158 = .ok (.iload 5, 2) := by decide +kernel
theorem dX4_close_160 : decode cX4_close 160 = .ok (.daload, 1) := by decide +kernel
theorem dX4_close_161 : decode cX4_close 161 = .ok (.dastore, 1) := by decide +kernel
theorem dX4_close_162 : decode cX4_close 162 = .ok (.aload_n 0, 1) := by decide +kernel
theorem dX4_close_163 : decode cX4_close 163 = .ok (.getfield 13, 3) := by decide +kernel
theorem dX4_close_166 : decode cX4_close 166 = .ok (.iload_n 3, 1) := by decide +kernel
theorem dX4_close_167 : decode cX4_close 167 = .ok (.iconst 1, 1) := by decide +kernel
theorem dX4_close_168 : decode cX4_close 168 = .ok (.iadd, 1) := by decide +kernel
theorem dX4_close_169 : decode cX4_close 169 = .ok (.iload 4, 2) := by decide +kernel
theorem dX4_close_171 : decode cX4_close 171 = .ok (.iadd, 1) := by decide +kernel
theorem dX4_close_172 : decode cX4_close 172 = .ok (.aload_n 0, 1) := by decide +kernel
theorem dX4_close_173 : decode cX4_close 173 = .ok (.getfield 45, 3) := by decide +kernel
theorem dX4_close_176 : decode cX4_close 176 = .ok (.iconst 1, 1) := by decide +kernel
theorem dX4_close_177 : decode cX4_close 177 = .ok (.if_icmp .ne 14, 3) := by decide +kernel
theorem dX4_close_180 : decode cX4_close 180 = .ok (.aload_n 0, 1) := by decide +kernel
theorem dX4_close_181 : decode cX4_close 181 = .ok (.getfield 13, 3) := by decide +kernel
theorem dX4_close_184 : decode cX4_close 184 = .ok (.iload 6, 2) := by decide +kernel
theorem dX4_close_186 : decode cX4_close 186 = .ok (.daload, 1) := by decide +kernel
theorem dX4_close_187 : decode cX4_close 187 = .ok (.dneg, 1) := by decide +kernel
theorem dX4_close_188 : decode cX4_close 188 = .ok (.goto 10, 3) := by decide +kernel
theorem dX4_close_191 : decode cX4_close 191 = .ok (.aload_n 0, 1) := by decide +kernel
theorem dX4_close_192 : decode cX4_close 192 = .ok (.getfield 13, 3) := by decide +kernel
theorem dX4_close_195 : decode cX4_close 195 = .ok (.iload 6, 2) := by decide +kernel
theorem dX4_close_197 : decode cX4_close 197 = .ok (.daload, 1) := by decide +kernel
theorem dX4_close_198 : decode cX4_close 198 = .ok (.dastore, 1) := by decide +kernel
theorem dX4_close_199 : decode cX4_close 199 = .ok (.iinc 4 1, 3) := by decide +kernel
theorem dX4_close_202 : decode cX4_close 202 = .ok (.goto (-183), 3) := by decide +kernel
theorem dX4_close_205 : decode cX4_close 205 = .ok (.return_, 1) := by decide +kernel
set_option maxRecDepth 20000 in
theorem ggX4_slope_X4_least : GoodIn wsX4_slope wsX4_least := goodIn_r _ [6, 7, 8, 5, 9] (by decide +kernel) (by decide +kernel)
set_option maxRecDepth 20000 in
theorem gX4_slope_X4_least : GoodIn wsX4_slope (va_wsS RX4 72 yX4_least wsX4_least) := goodIn_app (goodIn_of _ (by decide +kernel)) ggX4_slope_X4_least
set_option maxRecDepth 20000 in
theorem ggX4_slope_X4_size : GoodIn wsX4_slope wsX4_size := goodIn_r _ [9] (by decide +kernel) (by decide +kernel)
set_option maxRecDepth 20000 in
theorem gX4_slope_X4_size : GoodIn wsX4_slope (va_wsS RX4 65 yX4_size wsX4_size) := goodIn_app (goodIn_of _ (by decide +kernel)) ggX4_slope_X4_size
theorem dX4_slope_0 : decode cX4_slope 0 = .ok (.aload_n 0, 1) := by decide +kernel
theorem dX4_slope_1 : decode cX4_slope 1 = .ok (.getfield 20, 3) := by decide +kernel
theorem dX4_slope_4 : decode cX4_slope 4 = .ok (.ifCond .eq 11, 3) := by decide +kernel
theorem dX4_slope_7 : decode cX4_slope 7 = .ok (.dload_n 1, 1) := by decide +kernel
theorem dX4_slope_8 : decode cX4_slope 8 = .ok (.dload_n 3, 1) := by decide +kernel
theorem dX4_slope_9 : decode cX4_slope 9 = .ok (.dmul, 1) := by decide +kernel
theorem dX4_slope_10 : decode cX4_slope 10 = .ok (.dconst 0, 1) := by decide +kernel
theorem dX4_slope_11 : decode cX4_slope 11 = .ok (.dcmp .l, 1) := by decide +kernel
theorem dX4_slope_12 : decode cX4_slope 12 = .ok (.ifCond .gt 5, 3) := by decide +kernel
theorem dX4_slope_15 : decode cX4_slope 15 = .ok (.dconst 0, 1) := by decide +kernel
theorem dX4_slope_16 : decode cX4_slope 16 = .ok (.dreturn, 1) := by decide +kernel
theorem dX4_slope_17 : decode cX4_slope 17 = .ok (.aload_n 0, 1) := by decide +kernel
theorem dX4_slope_18 : decode cX4_slope 18 = .ok (.getfield 20, 3) := by decide +kernel
theorem dX4_slope_21 : decode cX4_slope 21 = .ok (.iconst 1, 1) := by decide +kernel
theorem dX4_slope_22 : decode cX4_slope 22 = .ok (.if_icmp .ne 9, 3) := by decide +kernel
theorem dX4_slope_25 : decode cX4_slope 25 = .ok (.dload_n 1, 1) := by decide +kernel
theorem dX4_slope_26 : decode cX4_slope 26 = .ok (.dload_n 3, 1) := by decide +kernel
theorem dX4_slope_27 : decode cX4_slope 27 = .ok (.invokestatic 72, 3) := by decide +kernel
theorem dX4_slope_30 : decode cX4_slope 30 = .ok (.dreturn, 1) := by decide +kernel
theorem dX4_slope_31 : decode cX4_slope 31 = .ok (.aload_n 0, 1) := by decide +kernel
theorem dX4_slope_32 : decode cX4_slope 32 = .ok (.getfield 20, 3) := by decide +kernel
theorem dX4_slope_35 : decode cX4_slope 35 = .ok (.iconst 3, 1) := by decide +kernel
theorem dX4_slope_36 : decode cX4_slope 36 = .ok (.if_icmp .ne 15, 3) := by decide +kernel
theorem dX4_slope_39 : decode cX4_slope 39 = .ok (.ldc2_w 76, 3) := by decide +kernel
theorem dX4_slope_42 : decode cX4_slope 42 = .ok (.dload_n 1, 1) := by decide +kernel
theorem dX4_slope_43 : decode cX4_slope 43 = .ok (.dmul, 1) := by decide +kernel
theorem dX4_slope_44 : decode cX4_slope 44 = .ok (.dload_n 3, 1) := by decide +kernel
theorem dX4_slope_45 : decode cX4_slope 45 = .ok (.dmul, 1) := by decide +kernel
theorem dX4_slope_46 : decode cX4_slope 46 = .ok (.dload_n 1, 1) := by decide +kernel
theorem dX4_slope_47 : decode cX4_slope 47 = .ok (.dload_n 3, 1) := by decide +kernel
theorem dX4_slope_48 : decode cX4_slope 48 = .ok (.dadd, 1) := by decide +kernel
theorem dX4_slope_49 : decode cX4_slope 49 = .ok (.ddiv, 1) := by decide +kernel
theorem dX4_slope_50 : decode cX4_slope 50 = .ok (.dreturn, 1) := by decide +kernel
theorem dX4_slope_51 : decode cX4_slope 51 = .ok (.ldc2_w 76, 3) := by decide +kernel
theorem dX4_slope_54 : decode cX4_slope 54 = .ok (.dload_n 1, 1) := by decide +kernel
theorem dX4_slope_55 : decode cX4_slope 55 = .ok (.dmul, 1) := by decide +kernel
theorem dX4_slope_56 : decode cX4_slope 56 = .ok (.dload_n 3, 1) := by decide +kernel
theorem dX4_slope_57 : decode cX4_slope 57 = .ok (.invokestatic 72, 3) := by decide +kernel
theorem dX4_slope_60 : decode cX4_slope 60 = .ok (.dstore 5, 2) := by decide +kernel
theorem dX4_slope_62 : decode cX4_slope 62 = .ok (.dload_n 1, 1) := by decide +kernel
theorem dX4_slope_63 : decode cX4_slope 63 = .ok (.ldc2_w 76, 3) := by decide +kernel
theorem dX4_slope_66 : decode cX4_slope 66 = .ok (.dload_n 3, 1) := by decide +kernel
theorem dX4_slope_67 : decode cX4_slope 67 = .ok (.dmul, 1) := by decide +kernel
theorem dX4_slope_68 : decode cX4_slope 68 = .ok (.invokestatic 72, 3) := by decide +kernel
theorem dX4_slope_71 : decode cX4_slope 71 = .ok (.dstore 7, 2) := by decide +kernel
theorem dX4_slope_73 : decode cX4_slope 73 = .ok (.dload 5, 2) := by decide +kernel
theorem dX4_slope_75 : decode cX4_slope 75 = .ok (.invokestatic 65, 3) := by decide +kernel
theorem dX4_slope_78 : decode cX4_slope 78 = .ok (.dload 7, 2) := by decide +kernel
theorem dX4_slope_80 : decode cX4_slope 80 = .ok (.invokestatic 65, 3) := by decide +kernel
theorem dX4_slope_83 : decode cX4_slope 83 = .ok (.dcmp .l, 1) := by decide +kernel
theorem dX4_slope_84 : decode cX4_slope 84 = .ok (.ifCond .lt 8, 3) := by decide +kernel
theorem dX4_slope_87 : decode cX4_slope 87 = .ok (.dload 5, 2) := by decide +kernel
theorem dX4_slope_89 : decode cX4_slope 89 = .ok (.goto 5, 3) := by decide +kernel
theorem dX4_slope_92 : decode cX4_slope 92 = .ok (.dload 7, 2) := by decide +kernel
theorem dX4_slope_94 : decode cX4_slope 94 = .ok (.dreturn, 1) := by decide +kernel
set_option maxRecDepth 20000 in
theorem ggX4_slopes_X4_slope : GoodIn wsX4_slopes wsX4_slope := goodIn_r _ [11, 12, 13, 14, 15, 10, 16, 17, 18, 19, 20, 21, 22, 23, 24, 25, 26, 27, 28, 29, 30, 31, 32, 33, 34, 35, 36, 37, 38, 39] (by decide +kernel) (by decide +kernel)
set_option maxRecDepth 20000 in
theorem gX4_slopes_X4_slope : GoodIn wsX4_slopes (wsV RX4 78 RX4 yX4_slope wsX4_slope) := goodIn_app (goodIn_of _ (by decide +kernel)) ggX4_slopes_X4_slope
theorem dX4_slopes_0 : decode cX4_slopes 0 = .ok (.aload_n 0, 1) := by decide +kernel
theorem dX4_slopes_1 : decode cX4_slopes 1 = .ok (.aload_n 0, 1) := by decide +kernel
theorem dX4_slopes_2 : decode cX4_slopes 2 = .ok (.aload_n 0, 1) := by decide +kernel
theorem dX4_slopes_3 : decode cX4_slopes 3 = .ok (.getfield 7, 3) := by decide +kernel
theorem dX4_slopes_6 : decode cX4_slopes 6 = .ok (.iload_n 1, 1) := by decide +kernel
theorem dX4_slopes_7 : decode cX4_slopes 7 = .ok (.daload, 1) := by decide +kernel
theorem dX4_slopes_8 : decode cX4_slopes 8 = .ok (.aload_n 0, 1) := by decide +kernel
theorem dX4_slopes_9 : decode cX4_slopes 9 = .ok (.getfield 7, 3) := by decide +kernel
theorem dX4_slopes_12 : decode cX4_slopes 12 = .ok (.iload_n 1, 1) := by decide +kernel
theorem dX4_slopes_13 : decode cX4_slopes 13 = .ok (.iconst 1, 1) := by decide +kernel
theorem dX4_slopes_14 : decode cX4_slopes 14 = .ok (.isub, 1) := by decide +kernel
theorem dX4_slopes_15 : decode cX4_slopes 15 = .ok (.daload, 1) := by decide +kernel
theorem dX4_slopes_16 : decode cX4_slopes 16 = .ok (.dsub, 1) := by decide +kernel
theorem dX4_slopes_17 : decode cX4_slopes 17 = .ok (.aload_n 0, 1) := by decide +kernel
theorem dX4_slopes_18 : decode cX4_slopes 18 = .ok (.getfield 7, 3) := by decide +kernel
theorem dX4_slopes_21 : decode cX4_slopes 21 = .ok (.iload_n 1, 1) := by decide +kernel
theorem dX4_slopes_22 : decode cX4_slopes 22 = .ok (.iconst 1, 1) := by decide +kernel
theorem dX4_slopes_23 : decode cX4_slopes 23 = .ok (.iadd, 1) := by decide +kernel
theorem dX4_slopes_24 : decode cX4_slopes 24 = .ok (.daload, 1) := by decide +kernel
theorem dX4_slopes_25 : decode cX4_slopes 25 = .ok (.aload_n 0, 1) := by decide +kernel
theorem dX4_slopes_26 : decode cX4_slopes 26 = .ok (.getfield 7, 3) := by decide +kernel
theorem dX4_slopes_29 : decode cX4_slopes 29 = .ok (.iload_n 1, 1) := by decide +kernel
theorem dX4_slopes_30 : decode cX4_slopes 30 = .ok (.daload, 1) := by decide +kernel
theorem dX4_slopes_31 : decode cX4_slopes 31 = .ok (.dsub, 1) := by decide +kernel
theorem dX4_slopes_32 : decode cX4_slopes 32 = .ok (.invokevirtual 78, 3) := by decide +kernel
theorem dX4_slopes_35 : decode cX4_slopes 35 = .ok (.putfield 81, 3) := by decide +kernel
theorem dX4_slopes_38 : decode cX4_slopes 38 = .ok (.aload_n 0, 1) := by decide +kernel
theorem dX4_slopes_39 : decode cX4_slopes 39 = .ok (.aload_n 0, 1) := by decide +kernel
theorem dX4_slopes_40 : decode cX4_slopes 40 = .ok (.aload_n 0, 1) := by decide +kernel
theorem dX4_slopes_41 : decode cX4_slopes 41 = .ok (.getfield 13, 3) := by decide +kernel
theorem dX4_slopes_44 : decode cX4_slopes 44 = .ok (.iload_n 1, 1) := by decide +kernel
theorem dX4_slopes_45 : decode cX4_slopes 45 = .ok (.daload, 1) := by decide +kernel
theorem dX4_slopes_46 : decode cX4_slopes 46 = .ok (.aload_n 0, 1) := by decide +kernel
theorem dX4_slopes_47 : decode cX4_slopes 47 = .ok (.getfield 13, 3) := by decide +kernel
theorem dX4_slopes_50 : decode cX4_slopes 50 = .ok (.iload_n 1, 1) := by decide +kernel
theorem dX4_slopes_51 : decode cX4_slopes 51 = .ok (.iconst 1, 1) := by decide +kernel
theorem dX4_slopes_52 : decode cX4_slopes 52 = .ok (.isub, 1) := by decide +kernel
theorem dX4_slopes_53 : decode cX4_slopes 53 = .ok (.daload, 1) := by decide +kernel
theorem dX4_slopes_54 : decode cX4_slopes 54 = .ok (.dsub, 1) := by decide +kernel
theorem dX4_slopes_55 : decode cX4_slopes 55 = .ok (.aload_n 0, 1) := by decide +kernel
theorem dX4_slopes_56 : decode cX4_slopes 56 = .ok (.getfield 13, 3) := by decide +kernel
theorem dX4_slopes_59 : decode cX4_slopes 59 = .ok (.iload_n 1, 1) := by decide +kernel
theorem dX4_slopes_60 : decode cX4_slopes 60 = .ok (.iconst 1, 1) := by decide +kernel
theorem dX4_slopes_61 : decode cX4_slopes 61 = .ok (.iadd, 1) := by decide +kernel
theorem dX4_slopes_62 : decode cX4_slopes 62 = .ok (.daload, 1) := by decide +kernel
theorem dX4_slopes_63 : decode cX4_slopes 63 = .ok (.aload_n 0, 1) := by decide +kernel
theorem dX4_slopes_64 : decode cX4_slopes 64 = .ok (.getfield 13, 3) := by decide +kernel
theorem dX4_slopes_67 : decode cX4_slopes 67 = .ok (.iload_n 1, 1) := by decide +kernel
theorem dX4_slopes_68 : decode cX4_slopes 68 = .ok (.daload, 1) := by decide +kernel
theorem dX4_slopes_69 : decode cX4_slopes 69 = .ok (.dsub, 1) := by decide +kernel
theorem dX4_slopes_70 : decode cX4_slopes 70 = .ok (.invokevirtual 78, 3) := by decide +kernel
theorem dX4_slopes_73 : decode cX4_slopes 73 = .ok (.putfield 84, 3) := by decide +kernel
theorem dX4_slopes_76 : decode cX4_slopes 76 = .ok (.aload_n 0, 1) := by decide +kernel
theorem dX4_slopes_77 : decode cX4_slopes 77 = .ok (.getfield 7, 3) := by decide +kernel
theorem dX4_slopes_80 : decode cX4_slopes 80 = .ok (.iload_n 1, 1) := by decide +kernel
theorem dX4_slopes_81 : decode cX4_slopes 81 = .ok (.daload, 1) := by decide +kernel
theorem dX4_slopes_82 : decode cX4_slopes 82 = .ok (.ldc2_w 63, 3) := by decide +kernel
theorem dX4_slopes_85 : decode cX4_slopes 85 = .ok (.aload_n 0, 1) := by decide +kernel
theorem dX4_slopes_86 : decode cX4_slopes 86 = .ok (.getfield 81, 3) := by decide +kernel
theorem dX4_slopes_89 : decode cX4_slopes 89 = .ok (.dmul, 1) := by decide +kernel
theorem dX4_slopes_90 : decode cX4_slopes 90 = .ok (.dadd, 1) := by decide +kernel
theorem dX4_slopes_91 : decode cX4_slopes 91 = .ok (.ldc2_w 87, 3) := by decide +kernel
theorem dX4_slopes_94 : decode cX4_slopes 94 = .ok (.dcmp .g, 1) := by decide +kernel
theorem dX4_slopes_95 : decode cX4_slopes 95 = .ok (.ifCond .lt 25, 3) := by decide +kernel
theorem dX4_slopes_98 : decode cX4_slopes 98 = .ok (.aload_n 0, 1) := by decide +kernel
theorem dX4_slopes_99 : decode cX4_slopes 99 = .ok (.getfield 7, 3) := by decide +kernel
theorem dX4_slopes_102 : decode cX4_slopes 102 = .ok (.iload_n 1, 1) := by decide +kernel
theorem dX4_slopes_103 : decode cX4_slopes 103 = .ok (.daload, 1) := by decide +kernel
theorem dX4_slopes_104 : decode cX4_slopes 104 = .ok (.ldc2_w 63, 3) := by decide +kernel
theorem dX4_slopes_107 : decode cX4_slopes 107 = .ok (.aload_n 0, 1) := by decide +kernel
theorem dX4_slopes_108 : decode cX4_slopes 108 = .ok (.getfield 81, 3) := by decide +kernel
theorem dX4_slopes_111 : decode cX4_slopes 111 = .ok (.dmul, 1) := by decide +kernel
theorem dX4_slopes_112 : decode cX4_slopes 112 = .ok (.dsub, 1) := by decide +kernel
theorem dX4_slopes_113 : decode cX4_slopes 113 = .ok (.ldc2_w 87, 3) := by decide +kernel
theorem dX4_slopes_116 : decode cX4_slopes 116 = .ok (.dcmp .g, 1) := by decide +kernel
theorem dX4_slopes_117 : decode cX4_slopes 117 = .ok (.ifCond .ge 13, 3) := by decide +kernel
theorem dX4_slopes_120 : decode cX4_slopes 120 = .ok (.aload_n 0, 1) := by decide +kernel
theorem dX4_slopes_121 : decode cX4_slopes 121 = .ok (.dconst 0, 1) := by decide +kernel
theorem dX4_slopes_122 : decode cX4_slopes 122 = .ok (.putfield 81, 3) := by decide +kernel
theorem dX4_slopes_125 : decode cX4_slopes 125 = .ok (.aload_n 0, 1) := by decide +kernel
theorem dX4_slopes_126 : decode cX4_slopes 126 = .ok (.dconst 0, 1) := by decide +kernel
theorem dX4_slopes_127 : decode cX4_slopes 127 = .ok (.putfield 84, 3) := by decide +kernel
theorem dX4_slopes_130 : decode cX4_slopes 130 = .ok (.return_, 1) := by decide +kernel
theorem dX4_broad_0 : decode cX4_broad 0 = .ok (.ldc2_w 63, 3) := by decide +kernel
theorem dX4_broad_3 : decode cX4_broad 3 = .ok (.dload_n 0, 1) := by decide +kernel
theorem dX4_broad_4 : decode cX4_broad 4 = .ok (.dload_n 2, 1) := by decide +kernel
theorem dX4_broad_5 : decode cX4_broad 5 = .ok (.dadd, 1) := by decide +kernel
theorem dX4_broad_6 : decode cX4_broad 6 = .ok (.dmul, 1) := by decide +kernel
theorem dX4_broad_7 : decode cX4_broad 7 = .ok (.ldc2_w 63, 3) := by decide +kernel
theorem dX4_broad_10 : decode cX4_broad 10 = .ok (.dload 4, 2) := by decide +kernel
theorem dX4_broad_12 : decode cX4_broad 12 = .ok (.dmul, 1) := by decide +kernel
theorem dX4_broad_13 : decode cX4_broad 13 = .ok (.dload 8, 2) := by decide +kernel
theorem dX4_broad_15 : decode cX4_broad 15 = .ok (.dload 6, 2) := by decide +kernel
theorem dX4_broad_17 : decode cX4_broad 17 = .ok (.dsub, 1) := by decide +kernel
theorem dX4_broad_18 : decode cX4_broad 18 = .ok (.dmul, 1) := by decide +kernel
theorem dX4_broad_19 : decode cX4_broad 19 = .ok (.dsub, 1) := by decide +kernel
theorem dX4_broad_20 : decode cX4_broad 20 = .ok (.dreturn, 1) := by decide +kernel
theorem dX4_narrow_0 : decode cX4_narrow 0 = .ok (.dload 4, 2) := by decide +kernel
theorem dX4_narrow_2 : decode cX4_narrow 2 = .ok (.dconst 0, 1) := by decide +kernel
theorem dX4_narrow_3 : decode cX4_narrow 3 = .ok (.dcmp .g, 1) := by decide +kernel
theorem dX4_narrow_4 : decode cX4_narrow 4 = .ok (.ifCond .lt 5, 3) := by decide +kernel
theorem dX4_narrow_7 : decode cX4_narrow 7 = .ok (.dload_n 0, 1) := by decide +kernel
theorem dX4_narrow_8 : decode cX4_narrow 8 = .ok (.dreturn, 1) := by decide +kernel
theorem dX4_narrow_9 : decode cX4_narrow 9 = .ok (.dload 6, 2) := by decide +kernel
theorem dX4_narrow_11 : decode cX4_narrow 11 = .ok (.dconst 0, 1) := by decide +kernel
theorem dX4_narrow_12 : decode cX4_narrow 12 = .ok (.dcmp .l, 1) := by decide +kernel
theorem dX4_narrow_13 : decode cX4_narrow 13 = .ok (.ifCond .gt 5, 3) := by decide +kernel
theorem dX4_narrow_16 : decode cX4_narrow 16 = .ok (.dload_n 2, 1) := by decide +kernel
theorem dX4_narrow_17 : decode cX4_narrow 17 = .ok (.dreturn, 1) := by decide +kernel
theorem dX4_narrow_18 : decode cX4_narrow 18 = .ok (.dload 6, 2) := by decide +kernel
theorem dX4_narrow_20 : decode cX4_narrow 20 = .ok (.dload_n 0, 1) := by decide +kernel
theorem dX4_narrow_21 : decode cX4_narrow 21 = .ok (.dmul, 1) := by decide +kernel
theorem dX4_narrow_22 : decode cX4_narrow 22 = .ok (.dload 4, 2) := by decide +kernel
theorem dX4_narrow_24 : decode cX4_narrow 24 = .ok (.dload_n 2, 1) := by decide +kernel
theorem dX4_narrow_25 : decode cX4_narrow 25 = .ok (.dmul, 1) := by decide +kernel
theorem dX4_narrow_26 : decode cX4_narrow 26 = .ok (.dsub, 1) := by decide +kernel
theorem dX4_narrow_27 : decode cX4_narrow 27 = .ok (.dload 4, 2) := by decide +kernel
theorem dX4_narrow_29 : decode cX4_narrow 29 = .ok (.dload 6, 2) := by decide +kernel
theorem dX4_narrow_31 : decode cX4_narrow 31 = .ok (.dmul, 1) := by decide +kernel
theorem dX4_narrow_32 : decode cX4_narrow 32 = .ok (.dload 10, 2) := by decide +kernel
theorem dX4_narrow_34 : decode cX4_narrow 34 = .ok (.dload 8, 2) := by decide +kernel
theorem dX4_narrow_36 : decode cX4_narrow 36 = .ok (.dsub, 1) := by decide +kernel
theorem dX4_narrow_37 : decode cX4_narrow 37 = .ok (.dmul, 1) := by decide +kernel
theorem dX4_narrow_38 : decode cX4_narrow 38 = .ok (.dadd, 1) := by decide +kernel
theorem dX4_narrow_39 : decode cX4_narrow 39 = .ok (.dload 6, 2) := by decide +kernel
theorem dX4_narrow_41 : decode cX4_narrow 41 = .ok (.dload 4, 2) := by decide +kernel
theorem dX4_narrow_43 : decode cX4_narrow 43 = .ok (.dsub, 1) := by decide +kernel
theorem dX4_narrow_44 : decode cX4_narrow 44 = .ok (.ddiv, 1) := by decide +kernel
theorem dX4_narrow_45 : decode cX4_narrow 45 = .ok (.dreturn, 1) := by decide +kernel
set_option maxRecDepth 20000 in
theorem ggX4_face_X4_slopes : GoodIn wsX4_face wsX4_slopes := goodIn_r _ [17, 1, 3, 5, 6, 2, 18, 19, 20, 21, 16, 22, 23, 24, 25, 26, 27, 28, 29, 30, 52, 53, 54, 55, 56, 57, 58, 59, 60, 61, 62, 63, 64, 65, 66, 67, 68, 69, 70, 71] (by decide +kernel) (by decide +kernel)
set_option maxRecDepth 20000 in
theorem gX4_face_X4_slopes : GoodIn wsX4_face (wsV RX4 89 RX4 yX4_slopes wsX4_slopes) := goodIn_app (goodIn_of _ (by decide +kernel)) ggX4_face_X4_slopes
set_option maxRecDepth 20000 in
theorem ggX4_face_X4_force : GoodIn wsX4_face wsX4_force := goodIn_r _ [33, 2] (by decide +kernel) (by decide +kernel)
set_option maxRecDepth 20000 in
theorem gX4_face_X4_force : GoodIn wsX4_face (va_wsS RX4 104 yX4_force wsX4_force) := goodIn_app (goodIn_of _ (by decide +kernel)) ggX4_face_X4_force
set_option maxRecDepth 20000 in
theorem ggX4_face_X4_speed : GoodIn wsX4_face wsX4_speed := goodIn_r _ [36, 28, 29, 16, 30, 37, 38, 39, 2] (by decide +kernel) (by decide +kernel)
set_option maxRecDepth 20000 in
theorem gX4_face_X4_speed : GoodIn wsX4_face (va_wsS RX4 107 yX4_speed wsX4_speed) := goodIn_app (goodIn_of _ (by decide +kernel)) ggX4_face_X4_speed
set_option maxRecDepth 20000 in
theorem ggX4_face_X4_greater : GoodIn wsX4_face wsX4_greater := goodIn_r _ [42] (by decide +kernel) (by decide +kernel)
set_option maxRecDepth 20000 in
theorem gX4_face_X4_greater : GoodIn wsX4_face (va_wsS RX4 110 yX4_greater wsX4_greater) := goodIn_app (goodIn_of _ (by decide +kernel)) ggX4_face_X4_greater
set_option maxRecDepth 20000 in
theorem ggX4_face_X4_broad : GoodIn wsX4_face wsX4_broad := goodIn_r _ [45, 2] (by decide +kernel) (by decide +kernel)
set_option maxRecDepth 20000 in
theorem gX4_face_X4_broad : GoodIn wsX4_face (va_wsS RX4 113 yX4_broad wsX4_broad) := goodIn_app (goodIn_of _ (by decide +kernel)) ggX4_face_X4_broad
set_option maxRecDepth 20000 in
theorem ggX4_face_X4_root : GoodIn wsX4_face wsX4_root := goodIn_r _ [39, 2] (by decide +kernel) (by decide +kernel)
set_option maxRecDepth 20000 in
theorem gX4_face_X4_root : GoodIn wsX4_face (va_wsS RX4 69 yX4_root wsX4_root) := goodIn_app (goodIn_of _ (by decide +kernel)) ggX4_face_X4_root
set_option maxRecDepth 20000 in
theorem ggX4_face_X4_lesser : GoodIn wsX4_face wsX4_lesser := goodIn_r _ [48] (by decide +kernel) (by decide +kernel)
set_option maxRecDepth 20000 in
theorem gX4_face_X4_lesser : GoodIn wsX4_face (va_wsS RX4 123 yX4_lesser wsX4_lesser) := goodIn_app (goodIn_of _ (by decide +kernel)) ggX4_face_X4_lesser
set_option maxRecDepth 20000 in
theorem ggX4_face_X4_narrow : GoodIn wsX4_face wsX4_narrow := goodIn_r _ [51] (by decide +kernel) (by decide +kernel)
set_option maxRecDepth 20000 in
theorem gX4_face_X4_narrow : GoodIn wsX4_face (va_wsS RX4 126 yX4_narrow wsX4_narrow) := goodIn_app (goodIn_of _ (by decide +kernel)) ggX4_face_X4_narrow
