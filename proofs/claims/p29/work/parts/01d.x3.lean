set_option maxRecDepth 20000 in
theorem ggX3_init_X2_init : GoodIn wsX3_init wsX2_init := goodIn_r _ [22, 23, 2, 3, 8, 24, 25, 26, 44, 45, 46] (by decide +kernel) (by decide +kernel)
set_option maxRecDepth 20000 in
theorem gX3_init_X2_init_n27 : GoodIn wsX3_init (wsX2_init) := ggX3_init_X2_init
set_option maxRecDepth 20000 in
theorem ggX3_init_X1_init : GoodIn wsX3_init wsX1_init := goodIn_r _ [28, 29, 2, 3, 30, 31, 32, 33, 34, 47, 48, 49, 50, 51] (by decide +kernel) (by decide +kernel)
set_option maxRecDepth 20000 in
theorem gX3_init_X1_init_n48 : GoodIn wsX3_init (wsX1_init) := ggX3_init_X1_init
theorem dX3_init_0 : decode cX3_init 0 = .ok (.aload_n 0, 1) := by decide +kernel
theorem dX3_init_1 : decode cX3_init 1 = .ok (.invokespecial 3, 3) := by decide +kernel
theorem dX3_init_4 : decode cX3_init 4 = .ok (.aload_n 0, 1) := by decide +kernel
theorem dX3_init_5 : decode cX3_init 5 = .ok (.bipush 16, 2) := by decide +kernel
theorem dX3_init_7 : decode cX3_init 7 = .ok (.anewarray 9, 3) := by decide +kernel
theorem dX3_init_10 : decode cX3_init 10 = .ok (.putfield 11, 3) := by decide +kernel
theorem dX3_init_13 : decode cX3_init 13 = .ok (.aload_n 0, 1) := by decide +kernel
theorem dX3_init_14 : decode cX3_init 14 = .ok (.bipush 10, 2) := by decide +kernel
theorem dX3_init_16 : decode cX3_init 16 = .ok (.anewarray 15, 3) := by decide +kernel
theorem dX3_init_19 : decode cX3_init 19 = .ok (.putfield 17, 3) := by decide +kernel
theorem dX3_init_22 : decode cX3_init 22 = .ok (.aload_n 0, 1) := by decide +kernel
theorem dX3_init_23 : decode cX3_init 23 = .ok (.bipush 14, 2) := by decide +kernel
theorem dX3_init_25 : decode cX3_init 25 = .ok (.newarray .int, 2) := by decide +kernel
theorem dX3_init_27 : decode cX3_init 27 = .ok (.putfield 21, 3) := by decide +kernel
theorem dX3_init_30 : decode cX3_init 30 = .ok (.aload_n 0, 1) := by decide +kernel
theorem dX3_init_31 : decode cX3_init 31 = .ok (.new 25, 3) := by decide +kernel
theorem dX3_init_34 : decode cX3_init 34 = .ok (.dup, 1) := by decide +kernel
theorem dX3_init_35 : decode cX3_init 35 = .ok (.invokespecial 27, 3) := by decide +kernel
theorem dX3_init_38 : decode cX3_init 38 = .ok (.putfield 28, 3) := by decide +kernel
theorem dX3_init_41 : decode cX3_init 41 = .ok (.aload_n 0, 1) := by decide +kernel
theorem dX3_init_42 : decode cX3_init 42 = .ok (.bipush 12, 2) := by decide +kernel
theorem dX3_init_44 : decode cX3_init 44 = .ok (.newarray .int, 2) := by decide +kernel
theorem dX3_init_46 : decode cX3_init 46 = .ok (.putfield 32, 3) := by decide +kernel
theorem dX3_init_49 : decode cX3_init 49 = .ok (.aload_n 0, 1) := by decide +kernel
theorem dX3_init_50 : decode cX3_init 50 = .ok (.bipush 12, 2) := by decide +kernel
theorem dX3_init_52 : decode cX3_init 52 = .ok (.newarray .int, 2) := by decide +kernel
theorem dX3_init_54 : decode cX3_init 54 = .ok (.putfield 35, 3) := by decide +kernel
theorem dX3_init_57 : decode cX3_init 57 = .ok (.aload_n 0, 1) := by decide +kernel
theorem dX3_init_58 : decode cX3_init 58 = .ok (.iconst 0, 1) := by decide +kernel
theorem dX3_init_59 : decode cX3_init 59 = .ok (.putfield 38, 3) := by decide +kernel
theorem dX3_init_62 : decode cX3_init 62 = .ok (.aload_n 0, 1) := by decide +kernel
theorem dX3_init_63 : decode cX3_init 63 = .ok (.iconst 0, 1) := by decide +kernel
theorem dX3_init_64 : decode cX3_init 64 = .ok (.putfield 42, 3) := by decide +kernel
theorem dX3_init_67 : decode cX3_init 67 = .ok (.aload_n 0, 1) := by decide +kernel
theorem dX3_init_68 : decode cX3_init 68 = .ok (.iconst 0, 1) := by decide +kernel
theorem dX3_init_69 : decode cX3_init 69 = .ok (.putfield 45, 3) := by decide +kernel
theorem dX3_init_72 : decode cX3_init 72 = .ok (.iconst 0, 1) := by decide +kernel
theorem dX3_init_73 : decode cX3_init 73 = .ok (.istore_n 1, 1) := by decide +kernel
theorem dX3_init_74 : decode cX3_init 74 = .ok (.iload_n 1, 1) := by decide +kernel
theorem dX3_init_75 : decode cX3_init 75 = .ok (.bipush 10, 2) := by decide +kernel
theorem dX3_init_77 : decode cX3_init 77 = .ok (.if_icmp .ge 22, 3) := by decide +kernel
theorem dX3_init_80 : decode cX3_init 80 = .ok (.aload_n 0, 1) := by decide +kernel
theorem dX3_init_81 : decode cX3_init 81 = .ok (.getfield 17, 3) := by decide +kernel
theorem dX3_init_84 : decode cX3_init 84 = .ok (.iload_n 1, 1) := by decide +kernel
theorem dX3_init_85 : decode cX3_init 85 = .ok (.new 15, 3) := by decide +kernel
theorem dX3_init_88 : decode cX3_init 88 = .ok (.dup, 1) := by decide +kernel
theorem dX3_init_89 : decode cX3_init 89 = .ok (.invokespecial 48, 3) := by decide +kernel
theorem dX3_init_92 : decode cX3_init 92 = .ok (.aastore, 1) := by decide +kernel
theorem dX3_init_93 : decode cX3_init 93 = .ok (.iinc 1 1, 3) := by decide +kernel
theorem dX3_init_96 : decode cX3_init 96 = .ok (.goto (-22), 3) := by decide +kernel
theorem dX3_init_99 : decode cX3_init 99 = .ok (.iconst 0, 1) := by decide +kernel
theorem dX3_init_100 : decode cX3_init 100 = .ok (.istore_n 1, 1) := by decide +kernel
theorem dX3_init_101 : decode cX3_init 101 = .ok (.iload_n 1, 1) := by decide +kernel
theorem dX3_init_102 : decode cX3_init 102 = .ok (.bipush 14, 2) := by decide +kernel
theorem dX3_init_104 : decode cX3_init 104 = .ok (.if_icmp .ge 16, 3) := by decide +kernel
theorem dX3_init_107 : decode cX3_init 107 = .ok (.aload_n 0, 1) := by decide +kernel
theorem dX3_init_108 : decode cX3_init 108 = .ok (.getfield 21, 3) := by decide +kernel
theorem dX3_init_111 : decode cX3_init 111 = .ok (.iload_n 1, 1) := by decide +kernel
theorem dX3_init_112 : decode cX3_init 112 = .ok (.iconst 5, 1) := by decide +kernel
theorem dX3_init_113 : decode cX3_init 113 = .ok (.iastore, 1) := by decide +kernel
theorem dX3_init_114 : decode cX3_init 114 = .ok (.iinc 1 1, 3) := by decide +kernel
theorem dX3_init_117 : decode cX3_init 117 = .ok (.goto (-16), 3) := by decide +kernel
theorem dX3_init_120 : decode cX3_init 120 = .ok (.return_, 1) := by decide +kernel
set_option maxRecDepth 20000 in
theorem ggX3_box_X3_isWithin : GoodIn wsX3_box wsX3_isWithin := goodIn_r _ [13] (by decide +kernel) (by decide +kernel)
set_option maxRecDepth 20000 in
theorem gX3_box_X3_isWithin : GoodIn wsX3_box (va_wsS RX3 49 yX3_isWithin wsX3_isWithin) := goodIn_app (goodIn_of _ (by decide +kernel)) ggX3_box_X3_isWithin
set_option maxRecDepth 20000 in
theorem ggX3_box_X0_init : GoodIn wsX3_box wsX0_init := goodIn_r _ [16, 17, 18, 19, 20, 21, 22, 23, 24, 25, 26, 27, 28, 29, 30, 31, 41, 42, 43, 44, 45, 46, 47, 48, 49, 50, 51] (by decide +kernel) (by decide +kernel)
set_option maxRecDepth 20000 in
theorem gX3_box_X0_init : GoodIn wsX3_box (wsX0_init) := ggX3_box_X0_init
theorem dX3_box_0 : decode cX3_box 0 = .ok (.iload_n 1, 1) := by decide +kernel
theorem dX3_box_1 : decode cX3_box 1 = .ok (.iconst 1, 1) := by decide +kernel
theorem dX3_box_2 : decode cX3_box 2 = .ok (.iconst 3, 1) := by decide +kernel
theorem dX3_box_3 : decode cX3_box 3 = .ok (.invokestatic 49, 3) := by decide +kernel
theorem dX3_box_6 : decode cX3_box 6 = .ok (.ifCond .eq 14, 3) := by decide +kernel
theorem dX3_box_9 : decode cX3_box 9 = .ok (.iload_n 2, 1) := by decide +kernel
theorem dX3_box_10 : decode cX3_box 10 = .ok (.iconst 1, 1) := by decide +kernel
theorem dX3_box_11 : decode cX3_box 11 = .ok (.sipush 9999, 3) := by decide +kernel
theorem dX3_box_14 : decode cX3_box 14 = .ok (.invokestatic 49, 3) := by decide +kernel
theorem dX3_box_17 : decode cX3_box 17 = .ok (.ifCond .ne 13, 3) := by decide +kernel
theorem dX3_box_20 : decode cX3_box 20 = .ok (.new 53, 3) := by decide +kernel
theorem dX3_box_23 : decode cX3_box 23 = .ok (.dup, 1) := by decide +kernel
theorem dX3_box_24 : decode cX3_box 24 = .ok (.ldc 55, 2) := by decide +kernel
theorem dX3_box_26 : decode cX3_box 26 = .ok (.invokespecial 57, 3) := by decide +kernel
theorem dX3_box_29 : decode cX3_box 29 = .ok (.athrow, 1) := by decide +kernel
theorem dX3_box_30 : decode cX3_box 30 = .ok (.aload_n 0, 1) := by decide +kernel
theorem dX3_box_31 : decode cX3_box 31 = .ok (.getfield 38, 3) := by decide +kernel
theorem dX3_box_34 : decode cX3_box 34 = .ok (.bipush 16, 2) := by decide +kernel
theorem dX3_box_36 : decode cX3_box 36 = .ok (.if_icmp .lt 13, 3) := by decide +kernel
theorem dX3_box_39 : decode cX3_box 39 = .ok (.new 60, 3) := by decide +kernel
theorem dX3_box_42 : decode cX3_box 42 = .ok (.dup, 1) := by decide +kernel
theorem dX3_box_43 : decode cX3_box 43 = .ok (.ldc 62, 2) := by decide +kernel
theorem dX3_box_45 : decode cX3_box 45 = .ok (.invokespecial 64, 3) := by decide +kernel
theorem dX3_box_48 : decode cX3_box 48 = .ok (.athrow, 1) := by decide +kernel
theorem dX3_box_49 : decode cX3_box 49 = .ok (.aload_n 0, 1) := by decide +kernel
theorem dX3_box_50 : decode cX3_box 50 = .ok (.getfield 11, 3) := by decide +kernel
theorem dX3_box_53 : decode cX3_box 53 = .ok (.aload_n 0, 1) := by decide +kernel
theorem dX3_box_54 : decode cX3_box 54 = .ok (.getfield 38, 3) := by decide +kernel
theorem dX3_box_57 : decode cX3_box 57 = .ok (.new 9, 3) := by decide +kernel
theorem dX3_box_60 : decode cX3_box 60 = .ok (.dup, 1) := by decide +kernel
theorem dX3_box_61 : decode cX3_box 61 = .ok (.iload_n 1, 1) := by decide +kernel
theorem dX3_box_62 : decode cX3_box 62 = .ok (.iload_n 2, 1) := by decide +kernel
theorem dX3_box_63 : decode cX3_box 63 = .ok (.invokespecial 65, 3) := by decide +kernel
theorem dX3_box_66 : decode cX3_box 66 = .ok (.aastore, 1) := by decide +kernel
theorem dX3_box_67 : decode cX3_box 67 = .ok (.aload_n 0, 1) := by decide +kernel
theorem dX3_box_68 : decode cX3_box 68 = .ok (.dup, 1) := by decide +kernel
theorem dX3_box_69 : decode cX3_box 69 = .ok (.getfield 38, 3) := by decide +kernel
theorem dX3_box_72 : decode cX3_box 72 = .ok (.iconst 1, 1) := by decide +kernel
theorem dX3_box_73 : decode cX3_box 73 = .ok (.iadd, 1) := by decide +kernel
theorem dX3_box_74 : decode cX3_box 74 = .ok (.putfield 38, 3) := by decide +kernel
theorem dX3_box_77 : decode cX3_box 77 = .ok (.aload_n 0, 1) := by decide +kernel
theorem dX3_box_78 : decode cX3_box 78 = .ok (.getfield 38, 3) := by decide +kernel
theorem dX3_box_81 : decode cX3_box 81 = .ok (.iconst 1, 1) := by decide +kernel
theorem dX3_box_82 : decode cX3_box 82 = .ok (.isub, 1) := by decide +kernel
theorem dX3_box_83 : decode cX3_box 83 = .ok (.ireturn, 1) := by decide +kernel
set_option maxRecDepth 20000 in
theorem ggX3_setTrust_X3_checkWho : GoodIn wsX3_setTrust wsX3_checkWho := goodIn_ca (goodIn_r _ [7, 8, 9] (by decide +kernel) (by decide +kernel)) (goodIn_sub (fun _ h => List.mem_cons_of_mem _ (List.mem_append_right _ h)) (by decide +kernel))
set_option maxRecDepth 20000 in
theorem gX3_setTrust_X3_checkWho : GoodIn wsX3_setTrust (va_wsS RX3 68 yX3_checkWho wsX3_checkWho) := goodIn_app (goodIn_of _ (by decide +kernel)) ggX3_setTrust_X3_checkWho
set_option maxRecDepth 20000 in
theorem ggX3_setTrust_X3_isWithin : GoodIn wsX3_setTrust wsX3_isWithin := goodIn_r _ [12] (by decide +kernel) (by decide +kernel)
set_option maxRecDepth 20000 in
theorem gX3_setTrust_X3_isWithin : GoodIn wsX3_setTrust (va_wsS RX3 49 yX3_isWithin wsX3_isWithin) := goodIn_app (goodIn_of _ (by decide +kernel)) ggX3_setTrust_X3_isWithin
set_option maxRecDepth 20000 in
theorem ggX3_setTrust_X3_settleAll : GoodIn wsX3_setTrust wsX3_settleAll := goodIn_r _ [16, 17, 18, 19, 20, 6, 21, 22, 23, 24, 25, 26, 27, 28, 29, 30, 31, 32, 33, 34, 35, 36, 37, 38, 39, 40, 41, 3, 10, 11, 12, 42, 43, 44, 45, 46, 47, 48, 49, 50, 51, 52, 53, 54, 55, 56, 57, 58, 59, 60, 61, 62, 63, 64, 65, 66, 67, 68, 69, 70, 71, 72, 73, 74, 75, 76, 77, 78, 79, 80, 81, 82, 83, 84, 85, 86, 87, 88, 89, 90, 91, 92, 93, 94, 95, 96, 97, 98, 99, 100, 101, 102, 103, 104, 105, 106, 107, 108, 109, 110, 111, 112, 113, 114, 115, 116] (by decide +kernel) (by decide +kernel)
set_option maxRecDepth 20000 in
theorem gX3_setTrust_X3_settleAll : GoodIn wsX3_setTrust (wsV RX3 74 RX3 yX3_settleAll wsX3_settleAll) := goodIn_app (goodIn_of _ (by decide +kernel)) ggX3_setTrust_X3_settleAll
theorem dX3_setTrust_0 : decode cX3_setTrust 0 = .ok (.iload_n 1, 1) := by decide +kernel
theorem dX3_setTrust_1 : decode cX3_setTrust 1 = .ok (.invokestatic 68, 3) := by decide +kernel
theorem dX3_setTrust_4 : decode cX3_setTrust 4 = .ok (.iload_n 2, 1) := by decide +kernel
theorem dX3_setTrust_5 : decode cX3_setTrust 5 = .ok (.iconst 1, 1) := by decide +kernel
theorem dX3_setTrust_6 : decode cX3_setTrust 6 = .ok (.bipush 9, 2) := by decide +kernel
theorem dX3_setTrust_8 : decode cX3_setTrust 8 = .ok (.invokestatic 49, 3) := by decide +kernel
theorem dX3_setTrust_11 : decode cX3_setTrust 11 = .ok (.ifCond .ne 13, 3) := by decide +kernel
theorem dX3_setTrust_14 : decode cX3_setTrust 14 = .ok (.new 53, 3) := by decide +kernel
theorem dX3_setTrust_17 : decode cX3_setTrust 17 = .ok (.dup, 1) := by decide +kernel
theorem dX3_setTrust_18 : decode cX3_setTrust 18 = .ok (.ldc 72, 2) := by decide +kernel
theorem dX3_setTrust_20 : decode cX3_setTrust 20 = .ok (.invokespecial 57, 3) := by decide +kernel
theorem dX3_setTrust_23 : decode cX3_setTrust 23 = .ok (.athrow, 1) := by decide +kernel
theorem dX3_setTrust_24 : decode cX3_setTrust 24 = .ok (.aload_n 0, 1) := by decide +kernel
theorem dX3_setTrust_25 : decode cX3_setTrust 25 = .ok (.getfield 21, 3) := by decide +kernel
theorem dX3_setTrust_28 : decode cX3_setTrust 28 = .ok (.iload_n 1, 1) := by decide +kernel
theorem dX3_setTrust_29 : decode cX3_setTrust 29 = .ok (.iaload, 1) := by decide +kernel
theorem dX3_setTrust_30 : decode cX3_setTrust 30 = .ok (.istore_n 3, 1) := by decide +kernel
theorem dX3_setTrust_31 : decode cX3_setTrust 31 = .ok (.aload_n 0, 1) := by decide +kernel
theorem dX3_setTrust_32 : decode cX3_setTrust 32 = .ok (.getfield 21, 3) := by decide +kernel
theorem dX3_setTrust_35 : decode cX3_setTrust 35 = .ok (.iload_n 1, 1) := by decide +kernel
theorem dX3_setTrust_36 : decode cX3_setTrust 36 = .ok (.iload_n 2, 1) := by decide +kernel
theorem dX3_setTrust_37 : decode cX3_setTrust 37 = .ok (.iastore, 1) := by decide +kernel
theorem dX3_setTrust_38 : decode cX3_setTrust 38 = .ok (.aload_n 0, 1) := by decide +kernel
theorem dX3_setTrust_39 : decode cX3_setTrust 39 = .ok (.invokevirtual 74, 3) := by decide +kernel
theorem dX3_setTrust_42 : decode cX3_setTrust 42 = .ok (.iload_n 3, 1) := by decide +kernel
theorem dX3_setTrust_43 : decode cX3_setTrust 43 = .ok (.ireturn, 1) := by decide +kernel
set_option maxRecDepth 20000 in
theorem ggX3_pass_X3_isWithin : GoodIn wsX3_pass wsX3_isWithin := goodIn_r _ [10] (by decide +kernel) (by decide +kernel)
set_option maxRecDepth 20000 in
theorem gX3_pass_X3_isWithin : GoodIn wsX3_pass (va_wsS RX3 49 yX3_isWithin wsX3_isWithin) := goodIn_app (goodIn_of _ (by decide +kernel)) ggX3_pass_X3_isWithin
theorem dX3_pass_0 : decode cX3_pass 0 = .ok (.iload_n 1, 1) := by decide +kernel
theorem dX3_pass_1 : decode cX3_pass 1 = .ok (.iconst 1, 1) := by decide +kernel
theorem dX3_pass_2 : decode cX3_pass 2 = .ok (.sipush 2000, 3) := by decide +kernel
theorem dX3_pass_5 : decode cX3_pass 5 = .ok (.invokestatic 49, 3) := by decide +kernel
theorem dX3_pass_8 : decode cX3_pass 8 = .ok (.ifCond .ne 13, 3) := by decide +kernel
theorem dX3_pass_11 : decode cX3_pass 11 = .ok (.new 53, 3) := by decide +kernel
theorem dX3_pass_14 : decode cX3_pass 14 = .ok (.dup, 1) := by decide +kernel
theorem dX3_pass_15 : decode cX3_pass 15 = .ok (.ldc 77, 2) := by decide +kernel
theorem dX3_pass_17 : decode cX3_pass 17 = .ok (.invokespecial 57, 3) := by decide +kernel
theorem dX3_pass_20 : decode cX3_pass 20 = .ok (.athrow, 1) := by decide +kernel
theorem dX3_pass_21 : decode cX3_pass 21 = .ok (.aload_n 0, 1) := by decide +kernel
theorem dX3_pass_22 : decode cX3_pass 22 = .ok (.getfield 42, 3) := by decide +kernel
theorem dX3_pass_25 : decode cX3_pass 25 = .ok (.iload_n 1, 1) := by decide +kernel
theorem dX3_pass_26 : decode cX3_pass 26 = .ok (.iadd, 1) := by decide +kernel
theorem dX3_pass_27 : decode cX3_pass 27 = .ok (.ldc 79, 2) := by decide +kernel
theorem dX3_pass_29 : decode cX3_pass 29 = .ok (.if_icmp .le 13, 3) := by decide +kernel
theorem dX3_pass_32 : decode cX3_pass 32 = .ok (.new 60, 3) := by decide +kernel
theorem dX3_pass_35 : decode cX3_pass 35 = .ok (.dup, 1) := by decide +kernel
theorem dX3_pass_36 : decode cX3_pass 36 = .ok (.ldc 80, 2) := by decide +kernel
theorem dX3_pass_38 : decode cX3_pass 38 = .ok (.invokespecial 64, 3) := by decide +kernel
theorem dX3_pass_41 : decode cX3_pass 41 = .ok (.athrow, 1) := by decide +kernel
theorem dX3_pass_42 : decode cX3_pass 42 = .ok (.aload_n 0, 1) := by decide +kernel
theorem dX3_pass_43 : decode cX3_pass 43 = .ok (.dup, 1) := by decide +kernel
theorem dX3_pass_44 : decode cX3_pass 44 = .ok (.getfield 42, 3) := by decide +kernel
theorem dX3_pass_47 : decode cX3_pass 47 = .ok (.iload_n 1, 1) := by decide +kernel
theorem dX3_pass_48 : decode cX3_pass 48 = .ok (.iadd, 1) := by decide +kernel
theorem dX3_pass_49 : decode cX3_pass 49 = .ok (.putfield 42, 3) := by decide +kernel
theorem dX3_pass_52 : decode cX3_pass 52 = .ok (.aload_n 0, 1) := by decide +kernel
theorem dX3_pass_53 : decode cX3_pass 53 = .ok (.getfield 42, 3) := by decide +kernel
theorem dX3_pass_56 : decode cX3_pass 56 = .ok (.ireturn, 1) := by decide +kernel
set_option maxRecDepth 20000 in
theorem ggX3_scan_X3_boxAt : GoodIn wsX3_scan wsX3_boxAt := goodIn_ca (goodIn_r _ [7, 8, 9, 10, 119, 120, 121, 122, 123, 124, 125, 126, 127] (by decide +kernel) (by decide +kernel)) (goodIn_sub (fun _ h => List.mem_cons_of_mem _ (List.mem_append_left _ (List.mem_append_right _ h))) (by decide +kernel))
set_option maxRecDepth 20000 in
theorem gX3_scan_X3_boxAt : GoodIn wsX3_scan (wsV RX3 82 RX3 yX3_boxAt wsX3_boxAt) := goodIn_app (goodIn_of _ (by decide +kernel)) ggX3_scan_X3_boxAt
set_option maxRecDepth 20000 in
theorem ggX3_scan_X3_checkCourier : GoodIn wsX3_scan wsX3_checkCourier := goodIn_ca (goodIn_r _ [13, 8, 9] (by decide +kernel) (by decide +kernel)) (goodIn_sub (fun _ h => List.mem_cons_of_mem _ (List.mem_append_left _ (List.mem_append_right _ h))) (by decide +kernel))
set_option maxRecDepth 20000 in
theorem gX3_scan_X3_checkCourier : GoodIn wsX3_scan (va_wsS RX3 86 yX3_checkCourier wsX3_checkCourier) := goodIn_app (goodIn_of _ (by decide +kernel)) ggX3_scan_X3_checkCourier
set_option maxRecDepth 20000 in
theorem ggX3_scan_X3_isWithin : GoodIn wsX3_scan wsX3_isWithin := goodIn_r _ [16] (by decide +kernel) (by decide +kernel)
set_option maxRecDepth 20000 in
theorem gX3_scan_X3_isWithin : GoodIn wsX3_scan (va_wsS RX3 49 yX3_isWithin wsX3_isWithin) := goodIn_app (goodIn_of _ (by decide +kernel)) ggX3_scan_X3_isWithin
set_option maxRecDepth 20000 in
theorem ggX3_scan_X3_checkRoomForScan : GoodIn wsX3_scan wsX3_checkRoomForScan := goodIn_ca (goodIn_r _ [19, 20, 21, 22, 128, 129, 130, 131, 132, 133, 134, 135, 136, 137, 138] (by decide +kernel) (by decide +kernel)) (goodIn_sub (fun _ h => List.mem_cons_of_mem _ (List.mem_append_right _ h)) (by decide +kernel))
set_option maxRecDepth 20000 in
theorem gX3_scan_X3_checkRoomForScan : GoodIn wsX3_scan (va_wsS RX3 91 yX3_checkRoomForScan wsX3_checkRoomForScan) := goodIn_app (goodIn_of _ (by decide +kernel)) ggX3_scan_X3_checkRoomForScan
set_option maxRecDepth 20000 in
theorem ggX3_scan_X3_placeTold : GoodIn wsX3_scan wsX3_placeTold := goodIn_r _ [25] (by decide +kernel) (by decide +kernel)
set_option maxRecDepth 20000 in
theorem gX3_scan_X3_placeTold : GoodIn wsX3_scan (va_wsS RX3 95 yX3_placeTold wsX3_placeTold) := goodIn_app (goodIn_of _ (by decide +kernel)) ggX3_scan_X3_placeTold
set_option maxRecDepth 20000 in
theorem ggX3_scan_X3_addScan : GoodIn wsX3_scan wsX3_addScan := goodIn_r _ [29, 30, 31, 32, 33, 34, 35, 36, 37, 38, 39, 40, 41, 42, 43, 44, 45, 6, 46, 47, 48, 49, 50, 51, 14, 15, 16, 52, 53, 54, 55, 56, 57, 58, 59, 60, 61, 62, 63, 64, 65, 66, 67, 22, 68, 69, 70, 71, 72, 73, 74, 75, 76, 77, 78, 79, 80, 81, 82, 83, 84, 85, 86, 87, 88, 89, 90, 91, 92, 93, 94, 95, 96, 97, 98, 99, 100, 101, 102, 103, 104, 105, 106, 107, 108, 109, 110, 111, 112, 113, 114, 115, 116, 117, 118, 119, 120, 121, 122, 123, 124, 125, 126, 127, 128, 129, 130, 131, 132, 133, 134, 135, 136, 137, 138, 139, 140, 141, 142, 143, 144, 145, 146] (by decide +kernel) (by decide +kernel)
set_option maxRecDepth 20000 in
theorem gX3_scan_X3_addScan : GoodIn wsX3_scan (wsV RX3 99 RX3 yX3_addScan wsX3_addScan) := goodIn_app (goodIn_of _ (by decide +kernel)) ggX3_scan_X3_addScan
theorem dX3_scan_0 : decode cX3_scan 0 = .ok (.aload_n 0, 1) := by decide +kernel
theorem dX3_scan_1 : decode cX3_scan 1 = .ok (.iload_n 1, 1) := by decide +kernel
theorem dX3_scan_2 : decode cX3_scan 2 = .ok (.invokevirtual 82, 3) := by decide +kernel
theorem dX3_scan_5 : decode cX3_scan 5 = .ok (.astore 4, 2) := by decide +kernel
theorem dX3_scan_7 : decode cX3_scan 7 = .ok (.iload_n 2, 1) := by decide +kernel
theorem dX3_scan_8 : decode cX3_scan 8 = .ok (.invokestatic 86, 3) := by decide +kernel
theorem dX3_scan_11 : decode cX3_scan 11 = .ok (.iload_n 3, 1) := by decide +kernel
theorem dX3_scan_12 : decode cX3_scan 12 = .ok (.iconst 0, 1) := by decide +kernel
theorem dX3_scan_13 : decode cX3_scan 13 = .ok (.iconst 2, 1) := by decide +kernel
theorem dX3_scan_14 : decode cX3_scan 14 = .ok (.invokestatic 49, 3) := by decide +kernel
theorem dX3_scan_17 : decode cX3_scan 17 = .ok (.ifCond .ne 13, 3) := by decide +kernel
theorem dX3_scan_20 : decode cX3_scan 20 = .ok (.new 53, 3) := by decide +kernel
theorem dX3_scan_23 : decode cX3_scan 23 = .ok (.dup, 1) := by decide +kernel
theorem dX3_scan_24 : decode cX3_scan 24 = .ok (.ldc 89, 2) := by decide +kernel
theorem dX3_scan_26 : decode cX3_scan 26 = .ok (.invokespecial 57, 3) := by decide +kernel
theorem dX3_scan_29 : decode cX3_scan 29 = .ok (.athrow, 1) := by decide +kernel
theorem dX3_scan_30 : decode cX3_scan 30 = .ok (.aload 4, 2) := by decide +kernel
theorem dX3_scan_32 : decode cX3_scan 32 = .ok (.invokestatic 91, 3) := by decide +kernel
theorem dX3_scan_35 : decode cX3_scan 35 = .ok (.aload_n 0, 1) := by decide +kernel
theorem dX3_scan_36 : decode cX3_scan 36 = .ok (.aload 4, 2) := by decide +kernel
theorem dX3_scan_38 : decode cX3_scan 38 = .ok (.iload_n 2, 1) := by decide +kernel
theorem dX3_scan_39 : decode cX3_scan 39 = .ok (.iload_n 3, 1) := by decide +kernel
theorem dX3_scan_40 : decode cX3_scan 40 = .ok (.invokestatic 95, 3) := by decide +kernel
theorem dX3_scan_43 : decode cX3_scan 43 = .ok (.iload_n 2, 1) := by decide +kernel
theorem dX3_scan_44 : decode cX3_scan 44 = .ok (.invokevirtual 99, 3) := by decide +kernel
theorem dX3_scan_47 : decode cX3_scan 47 = .ok (.ireturn, 1) := by decide +kernel
set_option maxRecDepth 20000 in
theorem ggX3_lay_X3_boxAt : GoodIn wsX3_lay wsX3_boxAt := goodIn_ca (goodIn_r _ [9, 10, 11, 12, 132, 133, 134, 135, 136, 137, 138, 139, 140] (by decide +kernel) (by decide +kernel)) (goodIn_sub (fun _ h => List.mem_cons_of_mem _ (List.mem_append_right _ h)) (by decide +kernel))
set_option maxRecDepth 20000 in
theorem gX3_lay_X3_boxAt : GoodIn wsX3_lay (wsV RX3 82 RX3 yX3_boxAt wsX3_boxAt) := goodIn_app (goodIn_of _ (by decide +kernel)) ggX3_lay_X3_boxAt
set_option maxRecDepth 20000 in
theorem ggX3_lay_X3_doorAt : GoodIn wsX3_lay wsX3_doorAt := goodIn_ca (goodIn_r _ [16, 10, 11, 17, 132, 133, 134, 135, 136, 137, 138, 139, 140] (by decide +kernel) (by decide +kernel)) (goodIn_sub (fun _ h => List.mem_cons_of_mem _ (List.mem_append_right _ h)) (by decide +kernel))
set_option maxRecDepth 20000 in
theorem gX3_lay_X3_doorAt : GoodIn wsX3_lay (wsV RX3 103 RX3 yX3_doorAt wsX3_doorAt) := goodIn_app (goodIn_of _ (by decide +kernel)) ggX3_lay_X3_doorAt
set_option maxRecDepth 20000 in
theorem ggX3_lay_X3_checkRoomForScan : GoodIn wsX3_lay wsX3_checkRoomForScan := goodIn_ca (goodIn_r _ [20, 1, 2, 21, 116, 117, 118, 119, 120, 121, 122, 123, 124, 125, 126] (by decide +kernel) (by decide +kernel)) (goodIn_sub (fun _ h => List.mem_cons_of_mem _ (List.mem_append_left _ (List.mem_append_right _ h))) (by decide +kernel))
set_option maxRecDepth 20000 in
theorem gX3_lay_X3_checkRoomForScan : GoodIn wsX3_lay (va_wsS RX3 91 yX3_checkRoomForScan wsX3_checkRoomForScan) := goodIn_app (goodIn_of _ (by decide +kernel)) ggX3_lay_X3_checkRoomForScan
set_option maxRecDepth 20000 in
theorem ggX3_lay_X3_addScan : GoodIn wsX3_lay wsX3_addScan := goodIn_r _ [25, 26, 27, 28, 29, 30, 31, 32, 33, 34, 35, 36, 37, 38, 39, 40, 41, 8, 42, 43, 44, 45, 46, 47, 48, 49, 50, 51, 52, 53, 54, 55, 56, 57, 58, 59, 60, 61, 3, 62, 63, 64, 65, 21, 66, 67, 68, 69, 70, 17, 71, 72, 73, 74, 75, 76, 77, 78, 79, 80, 81, 82, 83, 84, 85, 86, 87, 88, 89, 90, 91, 92, 93, 94, 95, 96, 97, 98, 99, 100, 101, 102, 103, 104, 105, 106, 107, 108, 109, 110, 111, 112, 113, 114, 115, 132, 133, 134, 135, 136, 137, 138, 139, 140, 116, 117, 118, 119, 120, 121, 122, 123, 124, 125, 126, 127, 128, 129, 130, 131, 141, 142, 143] (by decide +kernel) (by decide +kernel)
set_option maxRecDepth 20000 in
theorem gX3_lay_X3_addScan : GoodIn wsX3_lay (wsV RX3 99 RX3 yX3_addScan wsX3_addScan) := goodIn_app (goodIn_of _ (by decide +kernel)) ggX3_lay_X3_addScan
theorem dX3_lay_0 : decode cX3_lay 0 = .ok (.aload_n 0, 1) := by decide +kernel
theorem dX3_lay_1 : decode cX3_lay 1 = .ok (.iload_n 1, 1) := by decide +kernel
theorem dX3_lay_2 : decode cX3_lay 2 = .ok (.invokevirtual 82, 3) := by decide +kernel
theorem dX3_lay_5 : decode cX3_lay 5 = .ok (.astore_n 3, 1) := by decide +kernel
theorem dX3_lay_6 : decode cX3_lay 6 = .ok (.aload_n 0, 1) := by decide +kernel
theorem dX3_lay_7 : decode cX3_lay 7 = .ok (.iload_n 2, 1) := by decide +kernel
theorem dX3_lay_8 : decode cX3_lay 8 = .ok (.invokevirtual 103, 3) := by decide +kernel
theorem dX3_lay_11 : decode cX3_lay 11 = .ok (.astore 4, 2) := by decide +kernel
theorem dX3_lay_13 : decode cX3_lay 13 = .ok (.aload_n 3, 1) := by decide +kernel
theorem dX3_lay_14 : decode cX3_lay 14 = .ok (.invokestatic 91, 3) := by decide +kernel
theorem dX3_lay_17 : decode cX3_lay 17 = .ok (.aload_n 3, 1) := by decide +kernel
theorem dX3_lay_18 : decode cX3_lay 18 = .ok (.getfield 107, 3) := by decide +kernel
theorem dX3_lay_21 : decode cX3_lay 21 = .ok (.aload 4, 2) := by decide +kernel
theorem dX3_lay_23 : decode cX3_lay 23 = .ok (.getfield 110, 3) := by decide +kernel
theorem dX3_lay_26 : decode cX3_lay 26 = .ok (.if_icmp .le 13, 3) := by decide +kernel
theorem dX3_lay_29 : decode cX3_lay 29 = .ok (.new 60, 3) := by decide +kernel
theorem dX3_lay_32 : decode cX3_lay 32 = .ok (.dup, 1) := by decide +kernel
theorem dX3_lay_33 : decode cX3_lay 33 = .ok (.ldc 111, 2) := by decide +kernel
theorem dX3_lay_35 : decode cX3_lay 35 = .ok (.invokespecial 64, 3) := by decide +kernel
theorem dX3_lay_38 : decode cX3_lay 38 = .ok (.athrow, 1) := by decide +kernel
theorem dX3_lay_39 : decode cX3_lay 39 = .ok (.aload_n 0, 1) := by decide +kernel
theorem dX3_lay_40 : decode cX3_lay 40 = .ok (.aload_n 3, 1) := by decide +kernel
theorem dX3_lay_41 : decode cX3_lay 41 = .ok (.bipush 10, 2) := by decide +kernel
theorem dX3_lay_43 : decode cX3_lay 43 = .ok (.iload_n 2, 1) := by decide +kernel
theorem dX3_lay_44 : decode cX3_lay 44 = .ok (.iadd, 1) := by decide +kernel
theorem dX3_lay_45 : decode cX3_lay 45 = .ok (.iconst 4, 1) := by decide +kernel
theorem dX3_lay_46 : decode cX3_lay 46 = .ok (.iload_n 2, 1) := by decide +kernel
theorem dX3_lay_47 : decode cX3_lay 47 = .ok (.iadd, 1) := by decide +kernel
theorem dX3_lay_48 : decode cX3_lay 48 = .ok (.invokevirtual 99, 3) := by decide +kernel
theorem dX3_lay_51 : decode cX3_lay 51 = .ok (.ireturn, 1) := by decide +kernel
set_option maxRecDepth 20000 in
theorem ggX3_find_X3_boxAt : GoodIn wsX3_find wsX3_boxAt := goodIn_ca (goodIn_r _ [7, 1, 2, 8, 111, 112, 113, 114, 115, 116, 117, 118, 119] (by decide +kernel) (by decide +kernel)) (goodIn_sub (fun _ h => List.mem_cons_of_mem _ (List.mem_append_left _ (List.mem_append_right _ h))) (by decide +kernel))
set_option maxRecDepth 20000 in
theorem gX3_find_X3_boxAt : GoodIn wsX3_find (wsV RX3 82 RX3 yX3_boxAt wsX3_boxAt) := goodIn_app (goodIn_of _ (by decide +kernel)) ggX3_find_X3_boxAt
set_option maxRecDepth 20000 in
theorem ggX3_find_X3_kindOf : GoodIn wsX3_find wsX3_kindOf := goodIn_r _ [11, 12, 13, 6, 14] (by decide +kernel) (by decide +kernel)
set_option maxRecDepth 20000 in
theorem gX3_find_X3_kindOf : GoodIn wsX3_find (va_wsS RX3 113 yX3_kindOf wsX3_kindOf) := goodIn_app (goodIn_of _ (by decide +kernel)) ggX3_find_X3_kindOf
set_option maxRecDepth 20000 in
theorem ggX3_find_X3_checkRoomForScan : GoodIn wsX3_find wsX3_checkRoomForScan := goodIn_ca (goodIn_r _ [17, 18, 19, 20, 120, 121, 122, 123, 124, 125, 126, 127, 128, 129, 130] (by decide +kernel) (by decide +kernel)) (goodIn_sub (fun _ h => List.mem_cons_of_mem _ (List.mem_append_right _ h)) (by decide +kernel))
set_option maxRecDepth 20000 in
theorem gX3_find_X3_checkRoomForScan : GoodIn wsX3_find (va_wsS RX3 91 yX3_checkRoomForScan wsX3_checkRoomForScan) := goodIn_app (goodIn_of _ (by decide +kernel)) ggX3_find_X3_checkRoomForScan
set_option maxRecDepth 20000 in
theorem ggX3_find_X3_addScan : GoodIn wsX3_find wsX3_addScan := goodIn_r _ [24, 25, 26, 27, 28, 29, 30, 31, 32, 33, 34, 35, 36, 37, 38, 39, 40, 6, 41, 42, 43, 9, 10, 11, 12, 13, 14, 44, 45, 46, 47, 48, 49, 50, 51, 52, 53, 54, 55, 56, 57, 58, 59, 20, 60, 61, 62, 63, 64, 65, 66, 67, 68, 69, 70, 71, 72, 73, 74, 75, 76, 77, 78, 79, 80, 81, 82, 83, 84, 85, 86, 87, 88, 89, 90, 91, 92, 93, 94, 95, 96, 97, 98, 99, 100, 101, 102, 103, 104, 105, 106, 107, 108, 109, 110, 111, 112, 113, 114, 115, 116, 117, 118, 119, 120, 121, 122, 123, 124, 125, 126, 127, 128, 129, 130, 131, 132, 133, 134, 135, 136, 137, 138] (by decide +kernel) (by decide +kernel)
set_option maxRecDepth 20000 in
theorem gX3_find_X3_addScan : GoodIn wsX3_find (wsV RX3 99 RX3 yX3_addScan wsX3_addScan) := goodIn_app (goodIn_of _ (by decide +kernel)) ggX3_find_X3_addScan
theorem dX3_find_0 : decode cX3_find 0 = .ok (.aload_n 0, 1) := by decide +kernel
theorem dX3_find_1 : decode cX3_find 1 = .ok (.iload_n 1, 1) := by decide +kernel
theorem dX3_find_2 : decode cX3_find 2 = .ok (.invokevirtual 82, 3) := by decide +kernel
theorem dX3_find_5 : decode cX3_find 5 = .ok (.astore_n 3, 1) := by decide +kernel
theorem dX3_find_6 : decode cX3_find 6 = .ok (.iload_n 2, 1) := by decide +kernel
theorem dX3_find_7 : decode cX3_find 7 = .ok (.invokestatic 113, 3) := by decide +kernel
theorem dX3_find_10 : decode cX3_find 10 = .ok (.iconst (-1), 1) := by decide +kernel
theorem dX3_find_11 : decode cX3_find 11 = .ok (.if_icmp .ne 13, 3) := by decide +kernel
theorem dX3_find_14 : decode cX3_find 14 = .ok (.new 117, 3) := by decide +kernel
theorem dX3_find_17 : decode cX3_find 17 = .ok (.dup, 1) := by decide +kernel
theorem dX3_find_18 : decode cX3_find 18 = .ok (.ldc 119, 2) := by decide +kernel
theorem dX3_find_20 : decode cX3_find 20 = .ok (.invokespecial 121, 3) := by decide +kernel
theorem dX3_find_23 : decode cX3_find 23 = .ok (.athrow, 1) := by decide +kernel
theorem dX3_find_24 : decode cX3_find 24 = .ok (.aload_n 3, 1) := by decide +kernel
theorem dX3_find_25 : decode cX3_find 25 = .ok (.invokestatic 91, 3) := by decide +kernel
theorem dX3_find_28 : decode cX3_find 28 = .ok (.aload_n 0, 1) := by decide +kernel
theorem dX3_find_29 : decode cX3_find 29 = .ok (.aload_n 3, 1) := by decide +kernel
theorem dX3_find_30 : decode cX3_find 30 = .ok (.iload_n 2, 1) := by decide +kernel
theorem dX3_find_31 : decode cX3_find 31 = .ok (.bipush 14, 2) := by decide +kernel
theorem dX3_find_33 : decode cX3_find 33 = .ok (.invokevirtual 99, 3) := by decide +kernel
theorem dX3_find_36 : decode cX3_find 36 = .ok (.ireturn, 1) := by decide +kernel
set_option maxRecDepth 20000 in
theorem ggX3_setDoor_X3_doorAt : GoodIn wsX3_setDoor wsX3_doorAt := goodIn_ca (goodIn_r _ [10, 11, 12, 13, 28, 29, 30, 31, 32, 33, 34, 35, 36] (by decide +kernel) (by decide +kernel)) (goodIn_sub (fun _ h => List.mem_cons_of_mem _ (List.mem_append_right _ h)) (by decide +kernel))
set_option maxRecDepth 20000 in
theorem gX3_setDoor_X3_doorAt : GoodIn wsX3_setDoor (wsV RX3 103 RX3 yX3_doorAt wsX3_doorAt) := goodIn_app (goodIn_of _ (by decide +kernel)) ggX3_setDoor_X3_doorAt
set_option maxRecDepth 20000 in
theorem ggX3_setDoor_X3_isWithin : GoodIn wsX3_setDoor wsX3_isWithin := goodIn_r _ [16] (by decide +kernel) (by decide +kernel)
set_option maxRecDepth 20000 in
theorem gX3_setDoor_X3_isWithin : GoodIn wsX3_setDoor (va_wsS RX3 49 yX3_isWithin wsX3_isWithin) := goodIn_app (goodIn_of _ (by decide +kernel)) ggX3_setDoor_X3_isWithin
set_option maxRecDepth 20000 in
theorem ggX3_setDoor_X1_isKept : GoodIn wsX3_setDoor wsX1_isKept := goodIn_r _ [21, 22, 23, 24, 25, 26, 27] (by decide +kernel) (by decide +kernel)
set_option maxRecDepth 20000 in
theorem gX3_setDoor_X1_isKept : GoodIn wsX3_setDoor (wsV RX3 124 RX1 yX1_isKept wsX1_isKept) := goodIn_app (goodIn_of _ (by decide +kernel)) ggX3_setDoor_X1_isKept
theorem dX3_setDoor_0 : decode cX3_setDoor 0 = .ok (.aload_n 0, 1) := by decide +kernel
theorem dX3_setDoor_1 : decode cX3_setDoor 1 = .ok (.iload_n 1, 1) := by decide +kernel
theorem dX3_setDoor_2 : decode cX3_setDoor 2 = .ok (.invokevirtual 103, 3) := by decide +kernel
theorem dX3_setDoor_5 : decode cX3_setDoor 5 = .ok (.astore_n 3, 1) := by decide +kernel
theorem dX3_setDoor_6 : decode cX3_setDoor 6 = .ok (.iload_n 2, 1) := by decide +kernel
theorem dX3_setDoor_7 : decode cX3_setDoor 7 = .ok (.iconst 1, 1) := by decide +kernel
theorem dX3_setDoor_8 : decode cX3_setDoor 8 = .ok (.iconst 3, 1) := by decide +kernel
theorem dX3_setDoor_9 : decode cX3_setDoor 9 = .ok (.invokestatic 49, 3) := by decide +kernel
theorem dX3_setDoor_12 : decode cX3_setDoor 12 = .ok (.ifCond .ne 13, 3) := by decide +kernel
theorem dX3_setDoor_15 : decode cX3_setDoor 15 = .ok (.new 53, 3) := by decide +kernel
theorem dX3_setDoor_18 : decode cX3_setDoor 18 = .ok (.dup, 1) := by decide +kernel
theorem dX3_setDoor_19 : decode cX3_setDoor 19 = .ok (.ldc 122, 2) := by decide +kernel
theorem dX3_setDoor_21 : decode cX3_setDoor 21 = .ok (.invokespecial 57, 3) := by decide +kernel
theorem dX3_setDoor_24 : decode cX3_setDoor 24 = .ok (.athrow, 1) := by decide +kernel
theorem dX3_setDoor_25 : decode cX3_setDoor 25 = .ok (.aload_n 3, 1) := by decide +kernel
theorem dX3_setDoor_26 : decode cX3_setDoor 26 = .ok (.invokevirtual 124, 3) := by decide +kernel
theorem dX3_setDoor_29 : decode cX3_setDoor 29 = .ok (.ifCond .eq 13, 3) := by decide +kernel
theorem dX3_setDoor_32 : decode cX3_setDoor 32 = .ok (.new 60, 3) := by decide +kernel
theorem dX3_setDoor_35 : decode cX3_setDoor 35 = .ok (.dup, 1) := by decide +kernel
theorem dX3_setDoor_36 : decode cX3_setDoor 36 = .ok (.ldc 128, 2) := by decide +kernel
theorem dX3_setDoor_38 : decode cX3_setDoor 38 = .ok (.invokespecial 64, 3) := by decide +kernel
theorem dX3_setDoor_41 : decode cX3_setDoor 41 = .ok (.athrow, 1) := by decide +kernel
theorem dX3_setDoor_42 : decode cX3_setDoor 42 = .ok (.aload_n 3, 1) := by decide +kernel
theorem dX3_setDoor_43 : decode cX3_setDoor 43 = .ok (.getfield 110, 3) := by decide +kernel
theorem dX3_setDoor_46 : decode cX3_setDoor 46 = .ok (.istore 4, 2) := by decide +kernel
theorem dX3_setDoor_48 : decode cX3_setDoor 48 = .ok (.aload_n 3, 1) := by decide +kernel
theorem dX3_setDoor_49 : decode cX3_setDoor 49 = .ok (.iload_n 2, 1) := by decide +kernel
theorem dX3_setDoor_50 : decode cX3_setDoor 50 = .ok (.putfield 110, 3) := by decide +kernel
theorem dX3_setDoor_53 : decode cX3_setDoor 53 = .ok (.iload 4, 2) := by decide +kernel
theorem dX3_setDoor_55 : decode cX3_setDoor 55 = .ok (.ireturn, 1) := by decide +kernel
set_option maxRecDepth 20000 in
theorem ggX3_keep_X3_doorAt : GoodIn wsX3_keep wsX3_doorAt := goodIn_ca (goodIn_r _ [14, 15, 16, 17, 45, 46, 47, 48, 49, 50, 51, 52, 53] (by decide +kernel) (by decide +kernel)) (goodIn_sub (fun _ h => List.mem_cons_of_mem _ (List.mem_append_right _ h)) (by decide +kernel))
set_option maxRecDepth 20000 in
theorem gX3_keep_X3_doorAt : GoodIn wsX3_keep (wsV RX3 103 RX3 yX3_doorAt wsX3_doorAt) := goodIn_app (goodIn_of _ (by decide +kernel)) ggX3_keep_X3_doorAt
set_option maxRecDepth 20000 in
theorem ggX3_keep_X3_boxAt : GoodIn wsX3_keep wsX3_boxAt := goodIn_ca (goodIn_r _ [21, 15, 16, 22, 45, 46, 47, 48, 49, 50, 51, 52, 53] (by decide +kernel) (by decide +kernel)) (goodIn_sub (fun _ h => List.mem_cons_of_mem _ (List.mem_append_right _ h)) (by decide +kernel))
set_option maxRecDepth 20000 in
theorem gX3_keep_X3_boxAt : GoodIn wsX3_keep (wsV RX3 82 RX3 yX3_boxAt wsX3_boxAt) := goodIn_app (goodIn_of _ (by decide +kernel)) ggX3_keep_X3_boxAt
set_option maxRecDepth 20000 in
theorem ggX3_keep_X1_isKept : GoodIn wsX3_keep wsX1_isKept := goodIn_r _ [27, 28, 29, 30, 31, 32, 33] (by decide +kernel) (by decide +kernel)
set_option maxRecDepth 20000 in
theorem gX3_keep_X1_isKept : GoodIn wsX3_keep (wsV RX3 124 RX1 yX1_isKept wsX1_isKept) := goodIn_app (goodIn_of _ (by decide +kernel)) ggX3_keep_X1_isKept
theorem dX3_keep_0 : decode cX3_keep 0 = .ok (.aload_n 0, 1) := by decide +kernel
theorem dX3_keep_1 : decode cX3_keep 1 = .ok (.iload_n 1, 1) := by decide +kernel
theorem dX3_keep_2 : decode cX3_keep 2 = .ok (.invokevirtual 103, 3) := by decide +kernel
theorem dX3_keep_5 : decode cX3_keep 5 = .ok (.astore_n 3, 1) := by decide +kernel
theorem dX3_keep_6 : decode cX3_keep 6 = .ok (.aload_n 0, 1) := by decide +kernel
theorem dX3_keep_7 : decode cX3_keep 7 = .ok (.iload_n 2, 1) := by decide +kernel
theorem dX3_keep_8 : decode cX3_keep 8 = .ok (.invokevirtual 82, 3) := by decide +kernel
theorem dX3_keep_11 : decode cX3_keep 11 = .ok (.astore 4, 2) := by decide +kernel
theorem dX3_keep_13 : decode cX3_keep 13 = .ok (.aload_n 3, 1) := by decide +kernel
theorem dX3_keep_14 : decode cX3_keep 14 = .ok (.invokevirtual 124, 3) := by decide +kernel
theorem dX3_keep_17 : decode cX3_keep 17 = .ok (.ifCond .ne 22, 3) := by decide +kernel
theorem dX3_keep_20 : decode cX3_keep 20 = .ok (.aload_n 3, 1) := by decide +kernel
theorem dX3_keep_21 : decode cX3_keep 21 = .ok (.getfield 130, 3) := by decide +kernel
theorem dX3_keep_24 : decode cX3_keep 24 = .ok (.ifCond .ne 15, 3) := by decide +kernel
theorem dX3_keep_27 : decode cX3_keep 27 = .ok (.aload_n 3, 1) := by decide +kernel
theorem dX3_keep_28 : decode cX3_keep 28 = .ok (.getfield 110, 3) := by decide +kernel
theorem dX3_keep_31 : decode cX3_keep 31 = .ok (.aload 4, 2) := by decide +kernel
theorem dX3_keep_33 : decode cX3_keep 33 = .ok (.getfield 107, 3) := by decide +kernel
theorem dX3_keep_36 : decode cX3_keep 36 = .ok (.if_icmp .ge 13, 3) := by decide +kernel
theorem dX3_keep_39 : decode cX3_keep 39 = .ok (.new 60, 3) := by decide +kernel
theorem dX3_keep_42 : decode cX3_keep 42 = .ok (.dup, 1) := by decide +kernel
theorem dX3_keep_43 : decode cX3_keep 43 = .ok (.ldc 134, 2) := by decide +kernel
theorem dX3_keep_45 : decode cX3_keep 45 = .ok (.invokespecial 64, 3) := by decide +kernel
theorem dX3_keep_48 : decode cX3_keep 48 = .ok (.athrow, 1) := by decide +kernel
theorem dX3_keep_49 : decode cX3_keep 49 = .ok (.aload_n 3, 1) := by decide +kernel
theorem dX3_keep_50 : decode cX3_keep 50 = .ok (.iload_n 2, 1) := by decide +kernel
theorem dX3_keep_51 : decode cX3_keep 51 = .ok (.putfield 136, 3) := by decide +kernel
theorem dX3_keep_54 : decode cX3_keep 54 = .ok (.aload_n 3, 1) := by decide +kernel
theorem dX3_keep_55 : decode cX3_keep 55 = .ok (.bipush 37, 2) := by decide +kernel
theorem dX3_keep_57 : decode cX3_keep 57 = .ok (.iload_n 2, 1) := by decide +kernel
theorem dX3_keep_58 : decode cX3_keep 58 = .ok (.imul, 1) := by decide +kernel
theorem dX3_keep_59 : decode cX3_keep 59 = .ok (.bipush 11, 2) := by decide +kernel
theorem dX3_keep_61 : decode cX3_keep 61 = .ok (.iload_n 1, 1) := by decide +kernel
theorem dX3_keep_62 : decode cX3_keep 62 = .ok (.imul, 1) := by decide +kernel
theorem dX3_keep_63 : decode cX3_keep 63 = .ok (.iadd, 1) := by decide +kernel
theorem dX3_keep_64 : decode cX3_keep 64 = .ok (.bipush 101, 2) := by decide +kernel
theorem dX3_keep_66 : decode cX3_keep 66 = .ok (.aload_n 0, 1) := by decide +kernel
theorem dX3_keep_67 : decode cX3_keep 67 = .ok (.getfield 45, 3) := by decide +kernel
theorem dX3_keep_70 : decode cX3_keep 70 = .ok (.imul, 1) := by decide +kernel
theorem dX3_keep_71 : decode cX3_keep 71 = .ok (.iadd, 1) := by decide +kernel
theorem dX3_keep_72 : decode cX3_keep 72 = .ok (.sipush 1000, 3) := by decide +kernel
theorem dX3_keep_75 : decode cX3_keep 75 = .ok (.irem, 1) := by decide +kernel
theorem dX3_keep_76 : decode cX3_keep 76 = .ok (.putfield 139, 3) := by decide +kernel
theorem dX3_keep_79 : decode cX3_keep 79 = .ok (.aload_n 3, 1) := by decide +kernel
theorem dX3_keep_80 : decode cX3_keep 80 = .ok (.iconst 0, 1) := by decide +kernel
theorem dX3_keep_81 : decode cX3_keep 81 = .ok (.putfield 142, 3) := by decide +kernel
theorem dX3_keep_84 : decode cX3_keep 84 = .ok (.aload_n 0, 1) := by decide +kernel
theorem dX3_keep_85 : decode cX3_keep 85 = .ok (.dup, 1) := by decide +kernel
theorem dX3_keep_86 : decode cX3_keep 86 = .ok (.getfield 45, 3) := by decide +kernel
theorem dX3_keep_89 : decode cX3_keep 89 = .ok (.iconst 1, 1) := by decide +kernel
theorem dX3_keep_90 : decode cX3_keep 90 = .ok (.iadd, 1) := by decide +kernel
theorem dX3_keep_91 : decode cX3_keep 91 = .ok (.putfield 45, 3) := by decide +kernel
theorem dX3_keep_94 : decode cX3_keep 94 = .ok (.aload_n 3, 1) := by decide +kernel
theorem dX3_keep_95 : decode cX3_keep 95 = .ok (.getfield 139, 3) := by decide +kernel
theorem dX3_keep_98 : decode cX3_keep 98 = .ok (.ireturn, 1) := by decide +kernel
set_option maxRecDepth 20000 in
theorem ggX3_open_X3_doorAt : GoodIn wsX3_open wsX3_doorAt := goodIn_ca (goodIn_r _ [12, 13, 14, 15, 136, 137, 138, 139, 140, 141, 142, 143, 144] (by decide +kernel) (by decide +kernel)) (goodIn_sub (fun _ h => List.mem_cons_of_mem _ (List.mem_append_right _ h)) (by decide +kernel))
set_option maxRecDepth 20000 in
theorem gX3_open_X3_doorAt : GoodIn wsX3_open (wsV RX3 103 RX3 yX3_doorAt wsX3_doorAt) := goodIn_app (goodIn_of _ (by decide +kernel)) ggX3_open_X3_doorAt
set_option maxRecDepth 20000 in
theorem ggX3_open_X3_isWithin : GoodIn wsX3_open wsX3_isWithin := goodIn_r _ [18] (by decide +kernel) (by decide +kernel)
set_option maxRecDepth 20000 in
theorem gX3_open_X3_isWithin : GoodIn wsX3_open (va_wsS RX3 49 yX3_isWithin wsX3_isWithin) := goodIn_app (goodIn_of _ (by decide +kernel)) ggX3_open_X3_isWithin
set_option maxRecDepth 20000 in
theorem ggX3_open_X1_isKept : GoodIn wsX3_open wsX1_isKept := goodIn_r _ [23, 24, 131, 132, 133, 134, 135] (by decide +kernel) (by decide +kernel)
set_option maxRecDepth 20000 in
theorem gX3_open_X1_isKept : GoodIn wsX3_open (wsV RX3 124 RX1 yX1_isKept wsX1_isKept) := goodIn_app (goodIn_of _ (by decide +kernel)) ggX3_open_X1_isKept
set_option maxRecDepth 20000 in
theorem ggX3_open_X3_countWrongCode : GoodIn wsX3_open wsX3_countWrongCode := goodIn_r _ [28, 29, 5, 30, 31, 32, 11, 33, 34, 35, 36, 37, 38, 39, 40, 41, 42, 43, 44, 45, 46, 47, 48, 49, 50, 51, 52, 53, 54, 55, 56, 15, 57, 16, 17, 18, 58, 59, 60, 61, 62, 63, 64, 65, 66, 67, 68, 69, 70, 71, 72, 73, 74, 75, 76, 77, 78, 79, 80, 81, 82, 83, 84, 85, 86, 87, 88, 89, 90, 91, 92, 93, 94, 95, 96, 97, 98, 99, 100, 101, 102, 103, 104, 131, 132, 133, 134, 135, 136, 137, 138, 139, 140, 141, 142, 143, 144, 145, 146, 147, 148, 149, 150, 151, 152, 153, 154, 155, 156, 157, 158] (by decide +kernel) (by decide +kernel)
set_option maxRecDepth 20000 in
theorem gX3_open_X3_countWrongCode : GoodIn wsX3_open (wsV RX3 149 RX3 yX3_countWrongCode wsX3_countWrongCode) := goodIn_app (goodIn_of _ (by decide +kernel)) ggX3_open_X3_countWrongCode
set_option maxRecDepth 20000 in
theorem ggX3_open_X3_boxAt : GoodIn wsX3_open wsX3_boxAt := goodIn_ca (goodIn_r _ [108, 13, 14, 34, 136, 137, 138, 139, 140, 141, 142, 143, 144] (by decide +kernel) (by decide +kernel)) (goodIn_sub (fun _ h => List.mem_cons_of_mem _ (List.mem_append_right _ h)) (by decide +kernel))
set_option maxRecDepth 20000 in
theorem gX3_open_X3_boxAt : GoodIn wsX3_open (wsV RX3 82 RX3 yX3_boxAt wsX3_boxAt) := goodIn_app (goodIn_of _ (by decide +kernel)) ggX3_open_X3_boxAt
set_option maxRecDepth 20000 in
theorem ggX3_open_X3_addScan : GoodIn wsX3_open wsX3_addScan := goodIn_r _ [112, 113, 114, 115, 116, 61, 117, 63, 118, 82, 119, 73, 120, 121, 122, 123, 124, 11, 125, 126, 127, 128, 129, 130, 16, 17, 18, 35, 36, 37, 38, 39, 40, 41, 42, 43, 44, 45, 46, 47, 48, 49, 50, 51, 52, 53, 54, 55, 56, 15, 5, 57, 58, 59, 60, 62, 64, 65, 66, 67, 68, 69, 70, 71, 72, 74, 75, 76, 77, 78, 79, 80, 81, 83, 84, 85, 86, 87, 88, 89, 90, 91, 92, 93, 94, 95, 96, 97, 98, 99, 100, 101, 102, 103, 104, 136, 137, 138, 139, 140, 141, 142, 143, 144, 145, 146, 147, 148, 149, 150, 151, 152, 153, 154, 155, 131, 132, 133, 134, 135, 156, 157, 158] (by decide +kernel) (by decide +kernel)
set_option maxRecDepth 20000 in
theorem gX3_open_X3_addScan : GoodIn wsX3_open (wsV RX3 99 RX3 yX3_addScan wsX3_addScan) := goodIn_app (goodIn_of _ (by decide +kernel)) ggX3_open_X3_addScan
theorem dX3_open_0 : decode cX3_open 0 = .ok (.aload_n 0, 1) := by decide +kernel
theorem dX3_open_1 : decode cX3_open 1 = .ok (.iload_n 1, 1) := by decide +kernel
theorem dX3_open_2 : decode cX3_open 2 = .ok (.invokevirtual 103, 3) := by decide +kernel
theorem dX3_open_5 : decode cX3_open 5 = .ok (.astore_n 3, 1) := by decide +kernel
theorem dX3_open_6 : decode cX3_open 6 = .ok (.iload_n 2, 1) := by decide +kernel
theorem dX3_open_7 : decode cX3_open 7 = .ok (.iconst 0, 1) := by decide +kernel
theorem dX3_open_8 : decode cX3_open 8 = .ok (.sipush 999, 3) := by decide +kernel
theorem dX3_open_11 : decode cX3_open 11 = .ok (.invokestatic 49, 3) := by decide +kernel
theorem dX3_open_14 : decode cX3_open 14 = .ok (.ifCond .ne 13, 3) := by decide +kernel
theorem dX3_open_17 : decode cX3_open 17 = .ok (.new 53, 3) := by decide +kernel
theorem dX3_open_20 : decode cX3_open 20 = .ok (.dup, 1) := by decide +kernel
theorem dX3_open_21 : decode cX3_open 21 = .ok (.ldc 145, 2) := by decide +kernel
theorem dX3_open_23 : decode cX3_open 23 = .ok (.invokespecial 57, 3) := by decide +kernel
theorem dX3_open_26 : decode cX3_open 26 = .ok (.athrow, 1) := by decide +kernel
theorem dX3_open_27 : decode cX3_open 27 = .ok (.aload_n 3, 1) := by decide +kernel
theorem dX3_open_28 : decode cX3_open 28 = .ok (.invokevirtual 124, 3) := by decide +kernel
theorem dX3_open_31 : decode cX3_open 31 = .ok (.ifCond .eq 10, 3) := by decide +kernel
theorem dX3_open_34 : decode cX3_open 34 = .ok (.aload_n 3, 1) := by decide +kernel
theorem dX3_open_35 : decode cX3_open 35 = .ok (.getfield 130, 3) := by decide +kernel
theorem dX3_open_38 : decode cX3_open 38 = .ok (.ifCond .eq 13, 3) := by decide +kernel
theorem dX3_open_41 : decode cX3_open 41 = .ok (.new 60, 3) := by decide +kernel
theorem dX3_open_44 : decode cX3_open 44 = .ok (.dup, 1) := by decide +kernel
theorem dX3_open_45 : decode cX3_open 45 = .ok (.ldc 147, 2) := by decide +kernel
theorem dX3_open_47 : decode cX3_open 47 = .ok (.invokespecial 64, 3) := by decide +kernel
theorem dX3_open_50 : decode cX3_open 50 = .ok (.athrow, 1) := by decide +kernel
theorem dX3_open_51 : decode cX3_open 51 = .ok (.iload_n 2, 1) := by decide +kernel
theorem dX3_open_52 : decode cX3_open 52 = .ok (.aload_n 3, 1) := by decide +kernel
theorem dX3_open_53 : decode cX3_open 53 = .ok (.getfield 139, 3) := by decide +kernel
theorem dX3_open_56 : decode cX3_open 56 = .ok (.if_icmp .eq 10, 3) := by decide +kernel
theorem dX3_open_59 : decode cX3_open 59 = .ok (.aload_n 0, 1) := by decide +kernel
theorem dX3_open_60 : decode cX3_open 60 = .ok (.aload_n 3, 1) := by decide +kernel
theorem dX3_open_61 : decode cX3_open 61 = .ok (.invokevirtual 149, 3) := by decide +kernel
theorem dX3_open_64 : decode cX3_open 64 = .ok (.iconst (-1), 1) := by decide +kernel
theorem dX3_open_65 : decode cX3_open 65 = .ok (.ireturn, 1) := by decide +kernel
theorem dX3_open_66 : decode cX3_open 66 = .ok (.aload_n 3, 1) := by decide +kernel
theorem dX3_open_67 : decode cX3_open 67 = .ok (.getfield 136, 3) := by decide +kernel
theorem dX3_open_70 : decode cX3_open 70 = .ok (.istore 4, 2) := by decide +kernel
theorem dX3_open_72 : decode cX3_open 72 = .ok (.aload_n 3, 1) := by decide +kernel
theorem dX3_open_73 : decode cX3_open 73 = .ok (.iconst (-1), 1) := by decide +kernel
theorem dX3_open_74 : decode cX3_open 74 = .ok (.putfield 136, 3) := by decide +kernel
theorem dX3_open_77 : decode cX3_open 77 = .ok (.aload_n 0, 1) := by decide +kernel
theorem dX3_open_78 : decode cX3_open 78 = .ok (.aload_n 0, 1) := by decide +kernel
theorem dX3_open_79 : decode cX3_open 79 = .ok (.iload 4, 2) := by decide +kernel
theorem dX3_open_81 : decode cX3_open 81 = .ok (.invokevirtual 82, 3) := by decide +kernel
theorem dX3_open_84 : decode cX3_open 84 = .ok (.bipush 30, 2) := by decide +kernel
theorem dX3_open_86 : decode cX3_open 86 = .ok (.iconst 4, 1) := by decide +kernel
theorem dX3_open_87 : decode cX3_open 87 = .ok (.iload_n 1, 1) := by decide +kernel
theorem dX3_open_88 : decode cX3_open 88 = .ok (.iadd, 1) := by decide +kernel
theorem dX3_open_89 : decode cX3_open 89 = .ok (.invokevirtual 99, 3) := by decide +kernel
theorem dX3_open_92 : decode cX3_open 92 = .ok (.pop, 1) := by decide +kernel
theorem dX3_open_93 : decode cX3_open 93 = .ok (.iload 4, 2) := by decide +kernel
theorem dX3_open_95 : decode cX3_open 95 = .ok (.ireturn, 1) := by decide +kernel
set_option maxRecDepth 20000 in
theorem ggX3_jam_X3_doorAt : GoodIn wsX3_jam wsX3_doorAt := goodIn_ca (goodIn_r _ [7, 8, 9, 10, 94, 95, 96, 97, 98, 99, 100, 101, 102] (by decide +kernel) (by decide +kernel)) (goodIn_sub (fun _ h => List.mem_cons_of_mem _ (List.mem_append_right _ h)) (by decide +kernel))
set_option maxRecDepth 20000 in
theorem gX3_jam_X3_doorAt : GoodIn wsX3_jam (wsV RX3 103 RX3 yX3_doorAt wsX3_doorAt) := goodIn_app (goodIn_of _ (by decide +kernel)) ggX3_jam_X3_doorAt
set_option maxRecDepth 20000 in
theorem ggX3_jam_X3_settleAll : GoodIn wsX3_jam wsX3_settleAll := goodIn_r _ [14, 15, 16, 17, 18, 6, 19, 20, 21, 22, 23, 24, 25, 26, 27, 28, 29, 30, 31, 32, 33, 34, 35, 36, 37, 10, 1, 38, 39, 40, 41, 42, 43, 44, 45, 46, 47, 48, 49, 50, 51, 52, 53, 54, 55, 56, 57, 58, 59, 60, 61, 62, 63, 64, 65, 66, 67, 68, 69, 70, 71, 72, 73, 74, 75, 76, 77, 78, 79, 80, 81, 82, 83, 84, 85, 86, 87, 88, 94, 95, 96, 97, 98, 99, 100, 101, 102, 103, 104, 105, 106, 107, 108, 109, 110, 111, 112, 113, 89, 90, 91, 92, 93, 114, 115, 116] (by decide +kernel) (by decide +kernel)
set_option maxRecDepth 20000 in
theorem gX3_jam_X3_settleAll : GoodIn wsX3_jam (wsV RX3 74 RX3 yX3_settleAll wsX3_settleAll) := goodIn_app (goodIn_of _ (by decide +kernel)) ggX3_jam_X3_settleAll
theorem dX3_jam_0 : decode cX3_jam 0 = .ok (.aload_n 0, 1) := by decide +kernel
theorem dX3_jam_1 : decode cX3_jam 1 = .ok (.iload_n 1, 1) := by decide +kernel
theorem dX3_jam_2 : decode cX3_jam 2 = .ok (.invokevirtual 103, 3) := by decide +kernel
theorem dX3_jam_5 : decode cX3_jam 5 = .ok (.astore_n 3, 1) := by decide +kernel
theorem dX3_jam_6 : decode cX3_jam 6 = .ok (.aload_n 3, 1) := by decide +kernel
theorem dX3_jam_7 : decode cX3_jam 7 = .ok (.getfield 130, 3) := by decide +kernel
theorem dX3_jam_10 : decode cX3_jam 10 = .ok (.istore 4, 2) := by decide +kernel
theorem dX3_jam_12 : decode cX3_jam 12 = .ok (.aload_n 3, 1) := by decide +kernel
theorem dX3_jam_13 : decode cX3_jam 13 = .ok (.iload_n 2, 1) := by decide +kernel
theorem dX3_jam_14 : decode cX3_jam 14 = .ok (.putfield 130, 3) := by decide +kernel
theorem dX3_jam_17 : decode cX3_jam 17 = .ok (.iload_n 2, 1) := by decide +kernel
theorem dX3_jam_18 : decode cX3_jam 18 = .ok (.ifCond .ne 8, 3) := by decide +kernel
theorem dX3_jam_21 : decode cX3_jam 21 = .ok (.aload_n 3, 1) := by decide +kernel
theorem dX3_jam_22 : decode cX3_jam 22 = .ok (.iconst 0, 1) := by decide +kernel
theorem dX3_jam_23 : decode cX3_jam 23 = .ok (.putfield 142, 3) := by decide +kernel
theorem dX3_jam_26 : decode cX3_jam 26 = .ok (.aload_n 0, 1) := by decide +kernel
theorem dX3_jam_27 : decode cX3_jam 27 = .ok (.invokevirtual 74, 3) := by decide +kernel
theorem dX3_jam_30 : decode cX3_jam 30 = .ok (.iload 4, 2) := by decide +kernel
theorem dX3_jam_32 : decode cX3_jam 32 = .ok (.ireturn, 1) := by decide +kernel
set_option maxRecDepth 20000 in
theorem ggX3_claim_X3_boxAt : GoodIn wsX3_claim wsX3_boxAt := goodIn_ca (goodIn_r _ [11, 12, 13, 14, 54, 55, 56, 57, 58, 59, 60, 61, 62] (by decide +kernel) (by decide +kernel)) (goodIn_sub (fun _ h => List.mem_cons_of_mem _ (List.mem_append_right _ h)) (by decide +kernel))
set_option maxRecDepth 20000 in
theorem gX3_claim_X3_boxAt : GoodIn wsX3_claim (wsV RX3 82 RX3 yX3_boxAt wsX3_boxAt) := goodIn_app (goodIn_of _ (by decide +kernel)) ggX3_claim_X3_boxAt
set_option maxRecDepth 20000 in
theorem ggX3_claim_X0_isDelivered : GoodIn wsX3_claim wsX0_isDelivered := goodIn_r _ [19, 20, 21, 22, 18, 23, 24, 25, 26, 27, 28, 29, 30, 43, 44, 45, 46, 47, 48, 49, 50, 51, 52, 53] (by decide +kernel) (by decide +kernel)
set_option maxRecDepth 20000 in
theorem gX3_claim_X0_isDelivered : GoodIn wsX3_claim (wsV RX3 153 RX0 yX0_isDelivered wsX0_isDelivered) := goodIn_app (goodIn_of _ (by decide +kernel)) ggX3_claim_X0_isDelivered
set_option maxRecDepth 20000 in
theorem ggX3_claim_X0_wasScannedAfter : GoodIn wsX3_claim wsX0_wasScannedAfter := goodIn_r _ [34, 24, 35, 43, 44, 45, 46, 47, 48, 49, 50, 51, 52, 53] (by decide +kernel) (by decide +kernel)
set_option maxRecDepth 20000 in
theorem gX3_claim_X0_wasScannedAfter : GoodIn wsX3_claim (wsV RX3 159 RX0 yX0_wasScannedAfter wsX0_wasScannedAfter) := goodIn_app (goodIn_of _ (by decide +kernel)) ggX3_claim_X0_wasScannedAfter
set_option maxRecDepth 20000 in
theorem ggX3_claim_X2_payInsured : GoodIn wsX3_claim wsX2_payInsured := goodIn_r _ [40, 41, 42, 63, 64, 65] (by decide +kernel) (by decide +kernel)
set_option maxRecDepth 20000 in
theorem gX3_claim_X2_payInsured : GoodIn wsX3_claim (wsV RX3 168 RX2 yX2_payInsured wsX2_payInsured) := goodIn_app (goodIn_of _ (by decide +kernel)) ggX3_claim_X2_payInsured
theorem dX3_claim_0 : decode cX3_claim 0 = .ok (.aload_n 0, 1) := by decide +kernel
theorem dX3_claim_1 : decode cX3_claim 1 = .ok (.iload_n 1, 1) := by decide +kernel
theorem dX3_claim_2 : decode cX3_claim 2 = .ok (.invokevirtual 82, 3) := by decide +kernel
theorem dX3_claim_5 : decode cX3_claim 5 = .ok (.astore_n 2, 1) := by decide +kernel
theorem dX3_claim_6 : decode cX3_claim 6 = .ok (.aload_n 2, 1) := by decide +kernel
theorem dX3_claim_7 : decode cX3_claim 7 = .ok (.invokevirtual 153, 3) := by decide +kernel
theorem dX3_claim_10 : decode cX3_claim 10 = .ok (.ifCond .ne 25, 3) := by decide +kernel
theorem dX3_claim_13 : decode cX3_claim 13 = .ok (.aload_n 2, 1) := by decide +kernel
theorem dX3_claim_14 : decode cX3_claim 14 = .ok (.getfield 156, 3) := by decide +kernel
theorem dX3_claim_17 : decode cX3_claim 17 = .ok (.ifCond .ne 18, 3) := by decide +kernel
theorem dX3_claim_20 : decode cX3_claim 20 = .ok (.aload_n 2, 1) := by decide +kernel
theorem dX3_claim_21 : decode cX3_claim 21 = .ok (.aload_n 0, 1) := by decide +kernel
theorem dX3_claim_22 : decode cX3_claim 22 = .ok (.getfield 42, 3) := by decide +kernel
theorem dX3_claim_25 : decode cX3_claim 25 = .ok (.sipush 1000, 3) := by decide +kernel
theorem dX3_claim_28 : decode cX3_claim 28 = .ok (.isub, 1) := by decide +kernel
theorem dX3_claim_29 : decode cX3_claim 29 = .ok (.invokevirtual 159, 3) := by decide +kernel
theorem dX3_claim_32 : decode cX3_claim 32 = .ok (.ifCond .eq 13, 3) := by decide +kernel
theorem dX3_claim_35 : decode cX3_claim 35 = .ok (.new 60, 3) := by decide +kernel
theorem dX3_claim_38 : decode cX3_claim 38 = .ok (.dup, 1) := by decide +kernel
theorem dX3_claim_39 : decode cX3_claim 39 = .ok (.ldc 163, 2) := by decide +kernel
theorem dX3_claim_41 : decode cX3_claim 41 = .ok (.invokespecial 64, 3) := by decide +kernel
theorem dX3_claim_44 : decode cX3_claim 44 = .ok (.athrow, 1) := by decide +kernel
theorem dX3_claim_45 : decode cX3_claim 45 = .ok (.aload_n 2, 1) := by decide +kernel
theorem dX3_claim_46 : decode cX3_claim 46 = .ok (.iconst 1, 1) := by decide +kernel
theorem dX3_claim_47 : decode cX3_claim 47 = .ok (.putfield 156, 3) := by decide +kernel
theorem dX3_claim_50 : decode cX3_claim 50 = .ok (.aload_n 0, 1) := by decide +kernel
theorem dX3_claim_51 : decode cX3_claim 51 = .ok (.getfield 28, 3) := by decide +kernel
theorem dX3_claim_54 : decode cX3_claim 54 = .ok (.aload_n 2, 1) := by decide +kernel
theorem dX3_claim_55 : decode cX3_claim 55 = .ok (.getfield 165, 3) := by decide +kernel
theorem dX3_claim_58 : decode cX3_claim 58 = .ok (.invokevirtual 168, 3) := by decide +kernel
theorem dX3_claim_61 : decode cX3_claim 61 = .ok (.aload_n 2, 1) := by decide +kernel
theorem dX3_claim_62 : decode cX3_claim 62 = .ok (.getfield 165, 3) := by decide +kernel
theorem dX3_claim_65 : decode cX3_claim 65 = .ok (.ireturn, 1) := by decide +kernel
theorem dX3_time_0 : decode cX3_time 0 = .ok (.aload_n 0, 1) := by decide +kernel
theorem dX3_time_1 : decode cX3_time 1 = .ok (.getfield 42, 3) := by decide +kernel
theorem dX3_time_4 : decode cX3_time 4 = .ok (.ireturn, 1) := by decide +kernel
theorem dX3_boxes_0 : decode cX3_boxes 0 = .ok (.aload_n 0, 1) := by decide +kernel
theorem dX3_boxes_1 : decode cX3_boxes 1 = .ok (.getfield 38, 3) := by decide +kernel
theorem dX3_boxes_4 : decode cX3_boxes 4 = .ok (.ireturn, 1) := by decide +kernel
set_option maxRecDepth 20000 in
theorem ggX3_scans_X3_boxAt : GoodIn wsX3_scans wsX3_boxAt := goodIn_ca (goodIn_r _ [6, 7, 8, 9, 21, 22, 23, 24, 25, 26, 27, 28, 29] (by decide +kernel) (by decide +kernel)) (goodIn_sub (fun _ h => List.mem_cons_of_mem _ (List.mem_append_right _ h)) (by decide +kernel))
set_option maxRecDepth 20000 in
theorem gX3_scans_X3_boxAt : GoodIn wsX3_scans (wsV RX3 82 RX3 yX3_boxAt wsX3_boxAt) := goodIn_app (goodIn_of _ (by decide +kernel)) ggX3_scans_X3_boxAt
theorem dX3_scans_0 : decode cX3_scans 0 = .ok (.aload_n 0, 1) := by decide +kernel
theorem dX3_scans_1 : decode cX3_scans 1 = .ok (.iload_n 1, 1) := by decide +kernel
theorem dX3_scans_2 : decode cX3_scans 2 = .ok (.invokevirtual 82, 3) := by decide +kernel
theorem dX3_scans_5 : decode cX3_scans 5 = .ok (.getfield 171, 3) := by decide +kernel
theorem dX3_scans_8 : decode cX3_scans 8 = .ok (.ireturn, 1) := by decide +kernel
set_option maxRecDepth 20000 in
theorem ggX3_story_X3_boxAt : GoodIn wsX3_story wsX3_boxAt := goodIn_ca (goodIn_r _ [6, 7, 8, 9, 21, 22, 23, 24, 25, 26, 27, 28, 29] (by decide +kernel) (by decide +kernel)) (goodIn_sub (fun _ h => List.mem_cons_of_mem _ (List.mem_append_right _ h)) (by decide +kernel))
set_option maxRecDepth 20000 in
theorem gX3_story_X3_boxAt : GoodIn wsX3_story (wsV RX3 82 RX3 yX3_boxAt wsX3_boxAt) := goodIn_app (goodIn_of _ (by decide +kernel)) ggX3_story_X3_boxAt
theorem dX3_story_0 : decode cX3_story 0 = .ok (.aload_n 0, 1) := by decide +kernel
theorem dX3_story_1 : decode cX3_story 1 = .ok (.iload_n 1, 1) := by decide +kernel
theorem dX3_story_2 : decode cX3_story 2 = .ok (.invokevirtual 82, 3) := by decide +kernel
theorem dX3_story_5 : decode cX3_story 5 = .ok (.getfield 174, 3) := by decide +kernel
theorem dX3_story_8 : decode cX3_story 8 = .ok (.ireturn, 1) := by decide +kernel
set_option maxRecDepth 20000 in
theorem ggX3_storyOfAll_X3_boxAt : GoodIn wsX3_storyOfAll wsX3_boxAt := goodIn_ca (goodIn_r _ [6, 7, 8, 9, 39, 40, 41, 42, 43, 44, 45, 46, 47] (by decide +kernel) (by decide +kernel)) (goodIn_sub (fun _ h => List.mem_cons_of_mem _ (List.mem_append_right _ h)) (by decide +kernel))
set_option maxRecDepth 20000 in
theorem gX3_storyOfAll_X3_boxAt : GoodIn wsX3_storyOfAll (wsV RX3 82 RX3 yX3_boxAt wsX3_boxAt) := goodIn_app (goodIn_of _ (by decide +kernel)) ggX3_storyOfAll_X3_boxAt
set_option maxRecDepth 20000 in
theorem ggX3_storyOfAll_X3_weighScans : GoodIn wsX3_storyOfAll wsX3_weighScans := goodIn_r _ [13, 14, 1, 15, 16, 17, 18, 5, 19, 20, 21, 22, 23, 24, 25, 48, 49, 50, 51, 52, 53, 54, 55, 56, 57, 58, 39, 40, 41, 42, 43, 44, 45, 46, 47, 59, 60, 61, 62, 63] (by decide +kernel) (by decide +kernel)
set_option maxRecDepth 20000 in
theorem gX3_storyOfAll_X3_weighScans : GoodIn wsX3_storyOfAll (wsV RX3 177 RX3 yX3_weighScans wsX3_weighScans) := goodIn_app (goodIn_of _ (by decide +kernel)) ggX3_storyOfAll_X3_weighScans
set_option maxRecDepth 20000 in
theorem ggX3_storyOfAll_X3_greatestWorth : GoodIn wsX3_storyOfAll wsX3_greatestWorth := goodIn_r _ [28, 14, 29, 30, 31, 32, 33, 34, 35, 36, 37, 38, 26, 27, 5, 48, 49, 50, 51, 52, 53, 54, 55, 56, 57, 58] (by decide +kernel) (by decide +kernel)
set_option maxRecDepth 20000 in
theorem gX3_storyOfAll_X3_greatestWorth : GoodIn wsX3_storyOfAll (va_wsS RX3 180 yX3_greatestWorth wsX3_greatestWorth) := goodIn_app (goodIn_of _ (by decide +kernel)) ggX3_storyOfAll_X3_greatestWorth
theorem dX3_storyOfAll_0 : decode cX3_storyOfAll 0 = .ok (.aload_n 0, 1) := by decide +kernel
theorem dX3_storyOfAll_1 : decode cX3_storyOfAll 1 = .ok (.iload_n 1, 1) := by decide +kernel
theorem dX3_storyOfAll_2 : decode cX3_storyOfAll 2 = .ok (.invokevirtual 82, 3) := by decide +kernel
theorem dX3_storyOfAll_5 : decode cX3_storyOfAll 5 = .ok (.astore_n 2, 1) := by decide +kernel
theorem dX3_storyOfAll_6 : decode cX3_storyOfAll 6 = .ok (.aload_n 0, 1) := by decide +kernel
theorem dX3_storyOfAll_7 : decode cX3_storyOfAll 7 = .ok (.aload_n 2, 1) := by decide +kernel
theorem dX3_storyOfAll_8 : decode cX3_storyOfAll 8 = .ok (.invokevirtual 177, 3) := by decide +kernel
theorem dX3_storyOfAll_11 : decode cX3_storyOfAll 11 = .ok (.aload_n 2, 1) := by decide +kernel
theorem dX3_storyOfAll_12 : decode cX3_storyOfAll 12 = .ok (.aload_n 0, 1) := by decide +kernel
theorem dX3_storyOfAll_13 : decode cX3_storyOfAll 13 = .ok (.getfield 32, 3) := by decide +kernel
theorem dX3_storyOfAll_16 : decode cX3_storyOfAll 16 = .ok (.iconst (-1), 1) := by decide +kernel
theorem dX3_storyOfAll_17 : decode cX3_storyOfAll 17 = .ok (.iconst 0, 1) := by decide +kernel
theorem dX3_storyOfAll_18 : decode cX3_storyOfAll 18 = .ok (.iconst 0, 1) := by decide +kernel
theorem dX3_storyOfAll_19 : decode cX3_storyOfAll 19 = .ok (.invokestatic 180, 3) := by decide +kernel
theorem dX3_storyOfAll_22 : decode cX3_storyOfAll 22 = .ok (.sipush 4096, 3) := by decide +kernel
theorem dX3_storyOfAll_25 : decode cX3_storyOfAll 25 = .ok (.irem, 1) := by decide +kernel
theorem dX3_storyOfAll_26 : decode cX3_storyOfAll 26 = .ok (.ireturn, 1) := by decide +kernel
set_option maxRecDepth 20000 in
theorem ggX3_placeOf_X3_boxAt : GoodIn wsX3_placeOf wsX3_boxAt := goodIn_ca (goodIn_r _ [5, 6, 7, 8, 21, 22, 23, 24, 25, 26, 27, 28, 29] (by decide +kernel) (by decide +kernel)) (goodIn_sub (fun _ h => List.mem_cons_of_mem _ (List.mem_append_right _ h)) (by decide +kernel))
set_option maxRecDepth 20000 in
theorem gX3_placeOf_X3_boxAt : GoodIn wsX3_placeOf (wsV RX3 82 RX3 yX3_boxAt wsX3_boxAt) := goodIn_app (goodIn_of _ (by decide +kernel)) ggX3_placeOf_X3_boxAt
set_option maxRecDepth 20000 in
theorem ggX3_placeOf_X0_whereabouts : GoodIn wsX3_placeOf wsX0_whereabouts := goodIn_r _ [13, 14, 15, 16, 17, 18, 12, 19, 20, 30, 31, 32, 33, 34, 35, 36, 37, 38, 39, 40] (by decide +kernel) (by decide +kernel)
set_option maxRecDepth 20000 in
theorem gX3_placeOf_X0_whereabouts : GoodIn wsX3_placeOf (wsV RX3 184 RX0 yX0_whereabouts wsX0_whereabouts) := goodIn_app (goodIn_of _ (by decide +kernel)) ggX3_placeOf_X0_whereabouts
theorem dX3_placeOf_0 : decode cX3_placeOf 0 = .ok (.aload_n 0, 1) := by decide +kernel
theorem dX3_placeOf_1 : decode cX3_placeOf 1 = .ok (.iload_n 1, 1) := by decide +kernel
theorem dX3_placeOf_2 : decode cX3_placeOf 2 = .ok (.invokevirtual 82, 3) := by decide +kernel
theorem dX3_placeOf_5 : decode cX3_placeOf 5 = .ok (.invokevirtual 184, 3) := by decide +kernel
theorem dX3_placeOf_8 : decode cX3_placeOf 8 = .ok (.ireturn, 1) := by decide +kernel
set_option maxRecDepth 20000 in
theorem ggX3_lies_X3_checkWho : GoodIn wsX3_lies wsX3_checkWho := goodIn_ca (goodIn_r _ [5, 6, 7] (by decide +kernel) (by decide +kernel)) (goodIn_sub (fun _ h => List.mem_cons_of_mem _ (List.mem_append_right _ h)) (by decide +kernel))
set_option maxRecDepth 20000 in
theorem gX3_lies_X3_checkWho : GoodIn wsX3_lies (va_wsS RX3 68 yX3_checkWho wsX3_checkWho) := goodIn_app (goodIn_of _ (by decide +kernel)) ggX3_lies_X3_checkWho
set_option maxRecDepth 20000 in
theorem ggX3_lies_X0_countLies : GoodIn wsX3_lies wsX0_countLies := goodIn_r _ [12, 13, 14, 15, 16, 17, 11, 18, 19, 29, 30, 31, 32, 33, 34, 35, 36, 37, 38, 39] (by decide +kernel) (by decide +kernel)
set_option maxRecDepth 20000 in
theorem gX3_lies_X0_countLies : GoodIn wsX3_lies (wsV RX3 188 RX0 yX0_countLies wsX0_countLies) := goodIn_app (goodIn_of _ (by decide +kernel)) ggX3_lies_X0_countLies
theorem dX3_lies_0 : decode cX3_lies 0 = .ok (.iload_n 1, 1) := by decide +kernel
theorem dX3_lies_1 : decode cX3_lies 1 = .ok (.invokestatic 68, 3) := by decide +kernel
theorem dX3_lies_4 : decode cX3_lies 4 = .ok (.iconst 0, 1) := by decide +kernel
theorem dX3_lies_5 : decode cX3_lies 5 = .ok (.istore_n 2, 1) := by decide +kernel
theorem dX3_lies_6 : decode cX3_lies 6 = .ok (.aload_n 0, 1) := by decide +kernel
theorem dX3_lies_7 : decode cX3_lies 7 = .ok (.getfield 11, 3) := by decide +kernel
theorem dX3_lies_10 : decode cX3_lies 10 = .ok (.astore_n 3, 1) := by decide +kernel
theorem dX3_lies_11 : decode cX3_lies 11 = .ok (.aload_n 3, 1) := by decide +kernel
theorem dX3_lies_12 : decode cX3_lies 12 = .ok (.arraylength, 1) := by decide +kernel
theorem dX3_lies_13 : decode cX3_lies 13 = .ok (.istore 4, 2) := by decide +kernel
theorem dX3_lies_15 : decode cX3_lies 15 = .ok (.iconst 0, 1) := by decide +kernel
theorem dX3_lies_16 : decode cX3_lies 16 = .ok (.istore 5, 2) := by decide +kernel
theorem dX3_lies_18 : decode cX3_lies 18 = .ok (.iload 5, 2) := by decide +kernel
theorem dX3_lies_20 : decode cX3_lies 20 = .ok (.iload 4, 2) := by decide +kernel
theorem dX3_lies_22 : decode cX3_lies 22 = .ok (.if_icmp .ge 29, 3) := by decide +kernel
theorem dX3_lies_25 : decode cX3_lies 25 = .ok (.aload_n 3, 1) := by decide +kernel
theorem dX3_lies_26 : decode cX3_lies 26 = .ok (.iload 5, 2) := by decide +kernel
theorem dX3_lies_28 : decode cX3_lies 28 = .ok (.aaload, 1) := by decide +kernel
theorem dX3_lies_29 : decode cX3_lies 29 = .ok (.astore 6, 2) := by decide +kernel
theorem dX3_lies_31 : decode cX3_lies 31 = .ok (.aload 6, 2) := by decide +kernel
theorem dX3_lies_33 : decode cX3_lies 33 = .ok (.ifnull 12, 3) := by decide +kernel
theorem dX3_lies_36 : decode cX3_lies 36 = .ok (.iload_n 2, 1) := by decide +kernel
theorem dX3_lies_37 : decode cX3_lies 37 = .ok (.aload 6, 2) := by decide +kernel
theorem dX3_lies_39 : decode cX3_lies 39 = .ok (.iload_n 1, 1) := by decide +kernel
theorem dX3_lies_40 : decode cX3_lies 40 = .ok (.invokevirtual 188, 3) := by decide +kernel
theorem dX3_lies_43 : decode cX3_lies 43 = .ok (.iadd, 1) := by decide +kernel
theorem dX3_lies_44 : decode cX3_lies 44 = .ok (.istore_n 2, 1) := by decide +kernel
theorem dX3_lies_45 : decode cX3_lies 45 = .ok (.iinc 5 1, 3) := by decide +kernel
theorem dX3_lies_48 : decode cX3_lies 48 = .ok (.goto (-30), 3) := by decide +kernel
theorem dX3_lies_51 : decode cX3_lies 51 = .ok (.iload_n 2, 1) := by decide +kernel
theorem dX3_lies_52 : decode cX3_lies 52 = .ok (.ireturn, 1) := by decide +kernel
set_option maxRecDepth 20000 in
theorem ggX3_hasFee_X3_boxAt : GoodIn wsX3_hasFee wsX3_boxAt := goodIn_ca (goodIn_r _ [6, 7, 8, 9, 21, 22, 23, 24, 25, 26, 27, 28, 29] (by decide +kernel) (by decide +kernel)) (goodIn_sub (fun _ h => List.mem_cons_of_mem _ (List.mem_append_right _ h)) (by decide +kernel))
set_option maxRecDepth 20000 in
theorem gX3_hasFee_X3_boxAt : GoodIn wsX3_hasFee (wsV RX3 82 RX3 yX3_boxAt wsX3_boxAt) := goodIn_app (goodIn_of _ (by decide +kernel)) ggX3_hasFee_X3_boxAt
theorem dX3_hasFee_0 : decode cX3_hasFee 0 = .ok (.aload_n 0, 1) := by decide +kernel
theorem dX3_hasFee_1 : decode cX3_hasFee 1 = .ok (.iload_n 1, 1) := by decide +kernel
theorem dX3_hasFee_2 : decode cX3_hasFee 2 = .ok (.invokevirtual 82, 3) := by decide +kernel
theorem dX3_hasFee_5 : decode cX3_hasFee 5 = .ok (.getfield 191, 3) := by decide +kernel
theorem dX3_hasFee_8 : decode cX3_hasFee 8 = .ok (.ireturn, 1) := by decide +kernel
set_option maxRecDepth 20000 in
theorem ggX3_isInsured_X3_boxAt : GoodIn wsX3_isInsured wsX3_boxAt := goodIn_ca (goodIn_r _ [6, 7, 8, 9, 21, 22, 23, 24, 25, 26, 27, 28, 29] (by decide +kernel) (by decide +kernel)) (goodIn_sub (fun _ h => List.mem_cons_of_mem _ (List.mem_append_right _ h)) (by decide +kernel))
set_option maxRecDepth 20000 in
theorem gX3_isInsured_X3_boxAt : GoodIn wsX3_isInsured (wsV RX3 82 RX3 yX3_boxAt wsX3_boxAt) := goodIn_app (goodIn_of _ (by decide +kernel)) ggX3_isInsured_X3_boxAt
theorem dX3_isInsured_0 : decode cX3_isInsured 0 = .ok (.aload_n 0, 1) := by decide +kernel
theorem dX3_isInsured_1 : decode cX3_isInsured 1 = .ok (.iload_n 1, 1) := by decide +kernel
theorem dX3_isInsured_2 : decode cX3_isInsured 2 = .ok (.invokevirtual 82, 3) := by decide +kernel
theorem dX3_isInsured_5 : decode cX3_isInsured 5 = .ok (.getfield 156, 3) := by decide +kernel
theorem dX3_isInsured_8 : decode cX3_isInsured 8 = .ok (.ireturn, 1) := by decide +kernel
set_option maxRecDepth 20000 in
theorem ggX3_fees_X3_checkCourier : GoodIn wsX3_fees wsX3_checkCourier := goodIn_ca (goodIn_r _ [6, 7, 8] (by decide +kernel) (by decide +kernel)) (goodIn_sub (fun _ h => List.mem_cons_of_mem _ (List.mem_append_right _ h)) (by decide +kernel))
set_option maxRecDepth 20000 in
theorem gX3_fees_X3_checkCourier : GoodIn wsX3_fees (va_wsS RX3 86 yX3_checkCourier wsX3_checkCourier) := goodIn_app (goodIn_of _ (by decide +kernel)) ggX3_fees_X3_checkCourier
theorem dX3_fees_0 : decode cX3_fees 0 = .ok (.iload_n 1, 1) := by decide +kernel
theorem dX3_fees_1 : decode cX3_fees 1 = .ok (.invokestatic 86, 3) := by decide +kernel
theorem dX3_fees_4 : decode cX3_fees 4 = .ok (.aload_n 0, 1) := by decide +kernel
theorem dX3_fees_5 : decode cX3_fees 5 = .ok (.getfield 28, 3) := by decide +kernel
theorem dX3_fees_8 : decode cX3_fees 8 = .ok (.getfield 194, 3) := by decide +kernel
theorem dX3_fees_11 : decode cX3_fees 11 = .ok (.iload_n 1, 1) := by decide +kernel
theorem dX3_fees_12 : decode cX3_fees 12 = .ok (.iaload, 1) := by decide +kernel
theorem dX3_fees_13 : decode cX3_fees 13 = .ok (.ireturn, 1) := by decide +kernel
theorem dX3_insurers_0 : decode cX3_insurers 0 = .ok (.aload_n 0, 1) := by decide +kernel
theorem dX3_insurers_1 : decode cX3_insurers 1 = .ok (.getfield 28, 3) := by decide +kernel
theorem dX3_insurers_4 : decode cX3_insurers 4 = .ok (.getfield 197, 3) := by decide +kernel
theorem dX3_insurers_7 : decode cX3_insurers 7 = .ok (.ireturn, 1) := by decide +kernel
theorem dX3_entries_0 : decode cX3_entries 0 = .ok (.aload_n 0, 1) := by decide +kernel
theorem dX3_entries_1 : decode cX3_entries 1 = .ok (.getfield 28, 3) := by decide +kernel
theorem dX3_entries_4 : decode cX3_entries 4 = .ok (.getfield 200, 3) := by decide +kernel
theorem dX3_entries_7 : decode cX3_entries 7 = .ok (.ireturn, 1) := by decide +kernel
set_option maxRecDepth 20000 in
theorem ggX3_fine_X3_boxAt : GoodIn wsX3_fine wsX3_boxAt := goodIn_ca (goodIn_r _ [10, 11, 12, 13, 38, 39, 40, 41, 42, 43, 44, 45, 46] (by decide +kernel) (by decide +kernel)) (goodIn_sub (fun _ h => List.mem_cons_of_mem _ (List.mem_append_right _ h)) (by decide +kernel))
set_option maxRecDepth 20000 in
theorem gX3_fine_X3_boxAt : GoodIn wsX3_fine (wsV RX3 82 RX3 yX3_boxAt wsX3_boxAt) := goodIn_app (goodIn_of _ (by decide +kernel)) ggX3_fine_X3_boxAt
set_option maxRecDepth 20000 in
theorem ggX3_fine_X0_whereabouts : GoodIn wsX3_fine wsX0_whereabouts := goodIn_r _ [18, 19, 20, 21, 22, 23, 17, 24, 25, 47, 48, 49, 50, 51, 52, 53, 54, 55, 56, 57] (by decide +kernel) (by decide +kernel)
set_option maxRecDepth 20000 in
theorem gX3_fine_X0_whereabouts : GoodIn wsX3_fine (wsV RX3 184 RX0 yX0_whereabouts wsX0_whereabouts) := goodIn_app (goodIn_of _ (by decide +kernel)) ggX3_fine_X0_whereabouts
set_option maxRecDepth 20000 in
theorem ggX3_fine_X3_kindOf : GoodIn wsX3_fine wsX3_kindOf := goodIn_r _ [28, 29, 30, 9, 31] (by decide +kernel) (by decide +kernel)
set_option maxRecDepth 20000 in
theorem gX3_fine_X3_kindOf : GoodIn wsX3_fine (va_wsS RX3 113 yX3_kindOf wsX3_kindOf) := goodIn_app (goodIn_of _ (by decide +kernel)) ggX3_fine_X3_kindOf
set_option maxRecDepth 20000 in
theorem ggX3_fine_X0_thereSince : GoodIn wsX3_fine wsX0_thereSince := goodIn_r _ [35, 19, 20, 36, 37, 15, 16, 17, 18, 21, 22, 23, 24, 25, 47, 48, 49, 50, 51, 52, 53, 54, 55, 56, 57] (by decide +kernel) (by decide +kernel)
set_option maxRecDepth 20000 in
theorem gX3_fine_X0_thereSince : GoodIn wsX3_fine (wsV RX3 203 RX0 yX0_thereSince wsX0_thereSince) := goodIn_app (goodIn_of _ (by decide +kernel)) ggX3_fine_X0_thereSince
theorem dX3_fine_0 : decode cX3_fine 0 = .ok (.aload_n 0, 1) := by decide +kernel
theorem dX3_fine_1 : decode cX3_fine 1 = .ok (.iload_n 1, 1) := by decide +kernel
theorem dX3_fine_2 : decode cX3_fine 2 = .ok (.invokevirtual 82, 3) := by decide +kernel
theorem dX3_fine_5 : decode cX3_fine 5 = .ok (.astore_n 2, 1) := by decide +kernel
theorem dX3_fine_6 : decode cX3_fine 6 = .ok (.aload_n 2, 1) := by decide +kernel
theorem dX3_fine_7 : decode cX3_fine 7 = .ok (.invokevirtual 184, 3) := by decide +kernel
theorem dX3_fine_10 : decode cX3_fine 10 = .ok (.invokestatic 113, 3) := by decide +kernel
theorem dX3_fine_13 : decode cX3_fine 13 = .ok (.iconst 2, 1) := by decide +kernel
theorem dX3_fine_14 : decode cX3_fine 14 = .ok (.if_icmp .eq 5, 3) := by decide +kernel
theorem dX3_fine_17 : decode cX3_fine 17 = .ok (.iconst 0, 1) := by decide +kernel
theorem dX3_fine_18 : decode cX3_fine 18 = .ok (.ireturn, 1) := by decide +kernel
theorem dX3_fine_19 : decode cX3_fine 19 = .ok (.aload_n 0, 1) := by decide +kernel
theorem dX3_fine_20 : decode cX3_fine 20 = .ok (.getfield 42, 3) := by decide +kernel
theorem dX3_fine_23 : decode cX3_fine 23 = .ok (.aload_n 2, 1) := by decide +kernel
theorem dX3_fine_24 : decode cX3_fine 24 = .ok (.invokevirtual 203, 3) := by decide +kernel
theorem dX3_fine_27 : decode cX3_fine 27 = .ok (.isub, 1) := by decide +kernel
theorem dX3_fine_28 : decode cX3_fine 28 = .ok (.bipush 60, 2) := by decide +kernel
theorem dX3_fine_30 : decode cX3_fine 30 = .ok (.idiv, 1) := by decide +kernel
theorem dX3_fine_31 : decode cX3_fine 31 = .ok (.istore_n 3, 1) := by decide +kernel
theorem dX3_fine_32 : decode cX3_fine 32 = .ok (.iconst 2, 1) := by decide +kernel
theorem dX3_fine_33 : decode cX3_fine 33 = .ok (.iconst 0, 1) := by decide +kernel
theorem dX3_fine_34 : decode cX3_fine 34 = .ok (.iload_n 3, 1) := by decide +kernel
theorem dX3_fine_35 : decode cX3_fine 35 = .ok (.bipush 24, 2) := by decide +kernel
theorem dX3_fine_37 : decode cX3_fine 37 = .ok (.isub, 1) := by decide +kernel
theorem dX3_fine_38 : decode cX3_fine 38 = .ok (.invokestatic 206, 3) := by decide +kernel
theorem dX3_fine_41 : decode cX3_fine 41 = .ok (.imul, 1) := by decide +kernel
theorem dX3_fine_42 : decode cX3_fine 42 = .ok (.ireturn, 1) := by decide +kernel
set_option maxRecDepth 20000 in
theorem ggX3_isJammed_X3_doorAt : GoodIn wsX3_isJammed wsX3_doorAt := goodIn_ca (goodIn_r _ [6, 7, 8, 9, 15, 16, 17, 18, 19, 20, 21, 22, 23] (by decide +kernel) (by decide +kernel)) (goodIn_sub (fun _ h => List.mem_cons_of_mem _ (List.mem_append_right _ h)) (by decide +kernel))
set_option maxRecDepth 20000 in
theorem gX3_isJammed_X3_doorAt : GoodIn wsX3_isJammed (wsV RX3 103 RX3 yX3_doorAt wsX3_doorAt) := goodIn_app (goodIn_of _ (by decide +kernel)) ggX3_isJammed_X3_doorAt
theorem dX3_isJammed_0 : decode cX3_isJammed 0 = .ok (.aload_n 0, 1) := by decide +kernel
theorem dX3_isJammed_1 : decode cX3_isJammed 1 = .ok (.iload_n 1, 1) := by decide +kernel
theorem dX3_isJammed_2 : decode cX3_isJammed 2 = .ok (.invokevirtual 103, 3) := by decide +kernel
theorem dX3_isJammed_5 : decode cX3_isJammed 5 = .ok (.getfield 130, 3) := by decide +kernel
theorem dX3_isJammed_8 : decode cX3_isJammed 8 = .ok (.ireturn, 1) := by decide +kernel
set_option maxRecDepth 20000 in
theorem ggX3_keptFor_X3_doorAt : GoodIn wsX3_keptFor wsX3_doorAt := goodIn_ca (goodIn_r _ [6, 7, 8, 9, 15, 16, 17, 18, 19, 20, 21, 22, 23] (by decide +kernel) (by decide +kernel)) (goodIn_sub (fun _ h => List.mem_cons_of_mem _ (List.mem_append_right _ h)) (by decide +kernel))
set_option maxRecDepth 20000 in
theorem gX3_keptFor_X3_doorAt : GoodIn wsX3_keptFor (wsV RX3 103 RX3 yX3_doorAt wsX3_doorAt) := goodIn_app (goodIn_of _ (by decide +kernel)) ggX3_keptFor_X3_doorAt
theorem dX3_keptFor_0 : decode cX3_keptFor 0 = .ok (.aload_n 0, 1) := by decide +kernel
theorem dX3_keptFor_1 : decode cX3_keptFor 1 = .ok (.iload_n 1, 1) := by decide +kernel
theorem dX3_keptFor_2 : decode cX3_keptFor 2 = .ok (.invokevirtual 103, 3) := by decide +kernel
theorem dX3_keptFor_5 : decode cX3_keptFor 5 = .ok (.getfield 136, 3) := by decide +kernel
theorem dX3_keptFor_8 : decode cX3_keptFor 8 = .ok (.ireturn, 1) := by decide +kernel
theorem dX3_isWithin_0 : decode cX3_isWithin 0 = .ok (.iload_n 0, 1) := by decide +kernel
theorem dX3_isWithin_1 : decode cX3_isWithin 1 = .ok (.iload_n 1, 1) := by decide +kernel
theorem dX3_isWithin_2 : decode cX3_isWithin 2 = .ok (.if_icmp .lt 12, 3) := by decide +kernel
theorem dX3_isWithin_5 : decode cX3_isWithin 5 = .ok (.iload_n 0, 1) := by decide +kernel
theorem dX3_isWithin_6 : decode cX3_isWithin 6 = .ok (.iload_n 2, 1) := by decide +kernel
theorem dX3_isWithin_7 : decode cX3_isWithin 7 = .ok (.if_icmp .gt 7, 3) := by decide +kernel
theorem dX3_isWithin_10 : decode cX3_isWithin 10 = .ok (.iconst 1, 1) := by decide +kernel
theorem dX3_isWithin_11 : decode cX3_isWithin 11 = .ok (.goto 4, 3) := by decide +kernel
theorem dX3_isWithin_14 : decode cX3_isWithin 14 = .ok (.iconst 0, 1) := by decide +kernel
theorem dX3_isWithin_15 : decode cX3_isWithin 15 = .ok (.ireturn, 1) := by decide +kernel
theorem dX3_boxAt_0 : decode cX3_boxAt 0 = .ok (.iload_n 1, 1) := by decide +kernel
theorem dX3_boxAt_1 : decode cX3_boxAt 1 = .ok (.ifCond .lt 18, 3) := by decide +kernel
theorem dX3_boxAt_4 : decode cX3_boxAt 4 = .ok (.iload_n 1, 1) := by decide +kernel
theorem dX3_boxAt_5 : decode cX3_boxAt 5 = .ok (.bipush 16, 2) := by decide +kernel
theorem dX3_boxAt_7 : decode cX3_boxAt 7 = .ok (.if_icmp .ge 12, 3) := by decide +kernel
theorem dX3_boxAt_10 : decode cX3_boxAt 10 = .ok (.aload_n 0, 1) := by decide +kernel
theorem dX3_boxAt_11 : decode cX3_boxAt 11 = .ok (.getfield 11, 3) := by decide +kernel
theorem dX3_boxAt_14 : decode cX3_boxAt 14 = .ok (.iload_n 1, 1) := by decide +kernel
theorem dX3_boxAt_15 : decode cX3_boxAt 15 = .ok (.aaload, 1) := by decide +kernel
theorem dX3_boxAt_16 : decode cX3_boxAt 16 = .ok (.ifnonnull 13, 3) := by decide +kernel
theorem dX3_boxAt_19 : decode cX3_boxAt 19 = .ok (.new 117, 3) := by decide +kernel
theorem dX3_boxAt_22 : decode cX3_boxAt 22 = .ok (.dup, 1) := by decide +kernel
theorem dX3_boxAt_23 : decode cX3_boxAt 23 = .ok (.ldc 211, 2) := by decide +kernel
theorem dX3_boxAt_25 : decode cX3_boxAt 25 = .ok (.invokespecial 121, 3) := by decide +kernel
theorem dX3_boxAt_28 : decode cX3_boxAt 28 = .ok (.athrow, 1) := by decide +kernel
theorem dX3_boxAt_29 : decode cX3_boxAt 29 = .ok (.aload_n 0, 1) := by decide +kernel
theorem dX3_boxAt_30 : decode cX3_boxAt 30 = .ok (.getfield 11, 3) := by decide +kernel
theorem dX3_boxAt_33 : decode cX3_boxAt 33 = .ok (.iload_n 1, 1) := by decide +kernel
theorem dX3_boxAt_34 : decode cX3_boxAt 34 = .ok (.aaload, 1) := by decide +kernel
theorem dX3_boxAt_35 : decode cX3_boxAt 35 = .ok (.areturn, 1) := by decide +kernel
theorem dX3_doorAt_0 : decode cX3_doorAt 0 = .ok (.iload_n 1, 1) := by decide +kernel
theorem dX3_doorAt_1 : decode cX3_doorAt 1 = .ok (.ifCond .lt 9, 3) := by decide +kernel
theorem dX3_doorAt_4 : decode cX3_doorAt 4 = .ok (.iload_n 1, 1) := by decide +kernel
theorem dX3_doorAt_5 : decode cX3_doorAt 5 = .ok (.bipush 10, 2) := by decide +kernel
theorem dX3_doorAt_7 : decode cX3_doorAt 7 = .ok (.if_icmp .lt 13, 3) := by decide +kernel
theorem dX3_doorAt_10 : decode cX3_doorAt 10 = .ok (.new 117, 3) := by decide +kernel
theorem dX3_doorAt_13 : decode cX3_doorAt 13 = .ok (.dup, 1) := by decide +kernel
theorem dX3_doorAt_14 : decode cX3_doorAt 14 = .ok (.ldc 213, 2) := by decide +kernel
theorem dX3_doorAt_16 : decode cX3_doorAt 16 = .ok (.invokespecial 121, 3) := by decide +kernel
theorem dX3_doorAt_19 : decode cX3_doorAt 19 = .ok (.athrow, 1) := by decide +kernel
theorem dX3_doorAt_20 : decode cX3_doorAt 20 = .ok (.aload_n 0, 1) := by decide +kernel
theorem dX3_doorAt_21 : decode cX3_doorAt 21 = .ok (.getfield 17, 3) := by decide +kernel
theorem dX3_doorAt_24 : decode cX3_doorAt 24 = .ok (.iload_n 1, 1) := by decide +kernel
theorem dX3_doorAt_25 : decode cX3_doorAt 25 = .ok (.aaload, 1) := by decide +kernel
theorem dX3_doorAt_26 : decode cX3_doorAt 26 = .ok (.areturn, 1) := by decide +kernel
theorem dX3_checkCourier_0 : decode cX3_checkCourier 0 = .ok (.iload_n 0, 1) := by decide +kernel
theorem dX3_checkCourier_1 : decode cX3_checkCourier 1 = .ok (.ifCond .lt 8, 3) := by decide +kernel
theorem dX3_checkCourier_4 : decode cX3_checkCourier 4 = .ok (.iload_n 0, 1) := by decide +kernel
theorem dX3_checkCourier_5 : decode cX3_checkCourier 5 = .ok (.iconst 4, 1) := by decide +kernel
theorem dX3_checkCourier_6 : decode cX3_checkCourier 6 = .ok (.if_icmp .lt 13, 3) := by decide +kernel
theorem dX3_checkCourier_9 : decode cX3_checkCourier 9 = .ok (.new 117, 3) := by decide +kernel
theorem dX3_checkCourier_12 : decode cX3_checkCourier 12 = .ok (.dup, 1) := by decide +kernel
theorem dX3_checkCourier_13 : decode cX3_checkCourier 13 = .ok (.ldc 215, 2) := by decide +kernel
theorem dX3_checkCourier_15 : decode cX3_checkCourier 15 = .ok (.invokespecial 121, 3) := by decide +kernel
theorem dX3_checkCourier_18 : decode cX3_checkCourier 18 = .ok (.athrow, 1) := by decide +kernel
theorem dX3_checkCourier_19 : decode cX3_checkCourier 19 = .ok (.return_, 1) := by decide +kernel
theorem dX3_checkWho_0 : decode cX3_checkWho 0 = .ok (.iload_n 0, 1) := by decide +kernel
theorem dX3_checkWho_1 : decode cX3_checkWho 1 = .ok (.ifCond .lt 9, 3) := by decide +kernel
theorem dX3_checkWho_4 : decode cX3_checkWho 4 = .ok (.iload_n 0, 1) := by decide +kernel
theorem dX3_checkWho_5 : decode cX3_checkWho 5 = .ok (.bipush 14, 2) := by decide +kernel
theorem dX3_checkWho_7 : decode cX3_checkWho 7 = .ok (.if_icmp .lt 13, 3) := by decide +kernel
theorem dX3_checkWho_10 : decode cX3_checkWho 10 = .ok (.new 117, 3) := by decide +kernel
theorem dX3_checkWho_13 : decode cX3_checkWho 13 = .ok (.dup, 1) := by decide +kernel
theorem dX3_checkWho_14 : decode cX3_checkWho 14 = .ok (.ldc 217, 2) := by decide +kernel
theorem dX3_checkWho_16 : decode cX3_checkWho 16 = .ok (.invokespecial 121, 3) := by decide +kernel
theorem dX3_checkWho_19 : decode cX3_checkWho 19 = .ok (.athrow, 1) := by decide +kernel
theorem dX3_checkWho_20 : decode cX3_checkWho 20 = .ok (.return_, 1) := by decide +kernel
theorem dX3_checkRoomForScan_0 : decode cX3_checkRoomForScan 0 = .ok (.aload_n 0, 1) := by decide +kernel
theorem dX3_checkRoomForScan_1 : decode cX3_checkRoomForScan 1 = .ok (.getfield 171, 3) := by decide +kernel
theorem dX3_checkRoomForScan_4 : decode cX3_checkRoomForScan 4 = .ok (.bipush 12, 2) := by decide +kernel
theorem dX3_checkRoomForScan_6 : decode cX3_checkRoomForScan 6 = .ok (.if_icmp .lt 13, 3) := by decide +kernel
theorem dX3_checkRoomForScan_9 : decode cX3_checkRoomForScan 9 = .ok (.new 60, 3) := by decide +kernel
theorem dX3_checkRoomForScan_12 : decode cX3_checkRoomForScan 12 = .ok (.dup, 1) := by decide +kernel
theorem dX3_checkRoomForScan_13 : decode cX3_checkRoomForScan 13 = .ok (.ldc 219, 2) := by decide +kernel
theorem dX3_checkRoomForScan_15 : decode cX3_checkRoomForScan 15 = .ok (.invokespecial 64, 3) := by decide +kernel
theorem dX3_checkRoomForScan_18 : decode cX3_checkRoomForScan 18 = .ok (.athrow, 1) := by decide +kernel
theorem dX3_checkRoomForScan_19 : decode cX3_checkRoomForScan 19 = .ok (.return_, 1) := by decide +kernel
theorem dX3_placeTold_0 : decode cX3_placeTold 0 = .ok (.iload_n 1, 1) := by decide +kernel
theorem dX3_placeTold_1 : decode cX3_placeTold 1 = .ok (.ifCond .ne 7, 3) := by decide +kernel
theorem dX3_placeTold_4 : decode cX3_placeTold 4 = .ok (.iconst 1, 1) := by decide +kernel
theorem dX3_placeTold_5 : decode cX3_placeTold 5 = .ok (.iload_n 0, 1) := by decide +kernel
theorem dX3_placeTold_6 : decode cX3_placeTold 6 = .ok (.iadd, 1) := by decide +kernel
theorem dX3_placeTold_7 : decode cX3_placeTold 7 = .ok (.ireturn, 1) := by decide +kernel
theorem dX3_placeTold_8 : decode cX3_placeTold 8 = .ok (.iload_n 1, 1) := by decide +kernel
theorem dX3_placeTold_9 : decode cX3_placeTold 9 = .ok (.iconst 1, 1) := by decide +kernel
theorem dX3_placeTold_10 : decode cX3_placeTold 10 = .ok (.if_icmp .ne 7, 3) := by decide +kernel
theorem dX3_placeTold_13 : decode cX3_placeTold 13 = .ok (.iconst 0, 1) := by decide +kernel
theorem dX3_placeTold_14 : decode cX3_placeTold 14 = .ok (.goto 5, 3) := by decide +kernel
theorem dX3_placeTold_17 : decode cX3_placeTold 17 = .ok (.bipush 30, 2) := by decide +kernel
theorem dX3_placeTold_19 : decode cX3_placeTold 19 = .ok (.ireturn, 1) := by decide +kernel
set_option maxRecDepth 20000 in
theorem ggX3_courierOfPlace_X3_isWithin : GoodIn wsX3_courierOfPlace wsX3_isWithin := goodIn_r _ [4] (by decide +kernel) (by decide +kernel)
set_option maxRecDepth 20000 in
theorem gX3_courierOfPlace_X3_isWithin : GoodIn wsX3_courierOfPlace (va_wsS RX3 49 yX3_isWithin wsX3_isWithin) := goodIn_app (goodIn_of _ (by decide +kernel)) ggX3_courierOfPlace_X3_isWithin
theorem dX3_courierOfPlace_0 : decode cX3_courierOfPlace 0 = .ok (.iload_n 0, 1) := by decide +kernel
theorem dX3_courierOfPlace_1 : decode cX3_courierOfPlace 1 = .ok (.iconst 1, 1) := by decide +kernel
theorem dX3_courierOfPlace_2 : decode cX3_courierOfPlace 2 = .ok (.iconst 4, 1) := by decide +kernel
theorem dX3_courierOfPlace_3 : decode cX3_courierOfPlace 3 = .ok (.invokestatic 49, 3) := by decide +kernel
theorem dX3_courierOfPlace_6 : decode cX3_courierOfPlace 6 = .ok (.ifCond .eq 9, 3) := by decide +kernel
theorem dX3_courierOfPlace_9 : decode cX3_courierOfPlace 9 = .ok (.iload_n 0, 1) := by decide +kernel
theorem dX3_courierOfPlace_10 : decode cX3_courierOfPlace 10 = .ok (.iconst 1, 1) := by decide +kernel
theorem dX3_courierOfPlace_11 : decode cX3_courierOfPlace 11 = .ok (.isub, 1) := by decide +kernel
theorem dX3_courierOfPlace_12 : decode cX3_courierOfPlace 12 = .ok (.goto 4, 3) := by decide +kernel
theorem dX3_courierOfPlace_15 : decode cX3_courierOfPlace 15 = .ok (.iconst (-1), 1) := by decide +kernel
theorem dX3_courierOfPlace_16 : decode cX3_courierOfPlace 16 = .ok (.ireturn, 1) := by decide +kernel
set_option maxRecDepth 20000 in
theorem ggX3_kindOf_X3_isWithin : GoodIn wsX3_kindOf wsX3_isWithin := goodIn_r _ [4] (by decide +kernel) (by decide +kernel)
set_option maxRecDepth 20000 in
theorem gX3_kindOf_X3_isWithin : GoodIn wsX3_kindOf (va_wsS RX3 49 yX3_isWithin wsX3_isWithin) := goodIn_app (goodIn_of _ (by decide +kernel)) ggX3_kindOf_X3_isWithin
theorem dX3_kindOf_0 : decode cX3_kindOf 0 = .ok (.iload_n 0, 1) := by decide +kernel
theorem dX3_kindOf_1 : decode cX3_kindOf 1 = .ok (.ifCond .ne 5, 3) := by decide +kernel
theorem dX3_kindOf_4 : decode cX3_kindOf 4 = .ok (.iconst 0, 1) := by decide +kernel
theorem dX3_kindOf_5 : decode cX3_kindOf 5 = .ok (.ireturn, 1) := by decide +kernel
theorem dX3_kindOf_6 : decode cX3_kindOf 6 = .ok (.iload_n 0, 1) := by decide +kernel
theorem dX3_kindOf_7 : decode cX3_kindOf 7 = .ok (.iconst 1, 1) := by decide +kernel
theorem dX3_kindOf_8 : decode cX3_kindOf 8 = .ok (.iconst 4, 1) := by decide +kernel
theorem dX3_kindOf_9 : decode cX3_kindOf 9 = .ok (.invokestatic 49, 3) := by decide +kernel
theorem dX3_kindOf_12 : decode cX3_kindOf 12 = .ok (.ifCond .eq 5, 3) := by decide +kernel
theorem dX3_kindOf_15 : decode cX3_kindOf 15 = .ok (.iconst 1, 1) := by decide +kernel
theorem dX3_kindOf_16 : decode cX3_kindOf 16 = .ok (.ireturn, 1) := by decide +kernel
theorem dX3_kindOf_17 : decode cX3_kindOf 17 = .ok (.iload_n 0, 1) := by decide +kernel
theorem dX3_kindOf_18 : decode cX3_kindOf 18 = .ok (.bipush 10, 2) := by decide +kernel
theorem dX3_kindOf_20 : decode cX3_kindOf 20 = .ok (.bipush 19, 2) := by decide +kernel
theorem dX3_kindOf_22 : decode cX3_kindOf 22 = .ok (.invokestatic 49, 3) := by decide +kernel
theorem dX3_kindOf_25 : decode cX3_kindOf 25 = .ok (.ifCond .eq 5, 3) := by decide +kernel
theorem dX3_kindOf_28 : decode cX3_kindOf 28 = .ok (.iconst 2, 1) := by decide +kernel
theorem dX3_kindOf_29 : decode cX3_kindOf 29 = .ok (.ireturn, 1) := by decide +kernel
theorem dX3_kindOf_30 : decode cX3_kindOf 30 = .ok (.iload_n 0, 1) := by decide +kernel
theorem dX3_kindOf_31 : decode cX3_kindOf 31 = .ok (.bipush 30, 2) := by decide +kernel
theorem dX3_kindOf_33 : decode cX3_kindOf 33 = .ok (.if_icmp .ne 7, 3) := by decide +kernel
theorem dX3_kindOf_36 : decode cX3_kindOf 36 = .ok (.iconst 3, 1) := by decide +kernel
theorem dX3_kindOf_37 : decode cX3_kindOf 37 = .ok (.goto 4, 3) := by decide +kernel
theorem dX3_kindOf_40 : decode cX3_kindOf 40 = .ok (.iconst (-1), 1) := by decide +kernel
theorem dX3_kindOf_41 : decode cX3_kindOf 41 = .ok (.ireturn, 1) := by decide +kernel
set_option maxRecDepth 20000 in
theorem ggX3_minutesBetween_X3_kindOf : GoodIn wsX3_minutesBetween wsX3_kindOf := goodIn_r _ [6, 7, 8, 5, 9] (by decide +kernel) (by decide +kernel)
set_option maxRecDepth 20000 in
theorem gX3_minutesBetween_X3_kindOf : GoodIn wsX3_minutesBetween (va_wsS RX3 113 yX3_kindOf wsX3_kindOf) := goodIn_app (goodIn_of _ (by decide +kernel)) ggX3_minutesBetween_X3_kindOf
theorem dX3_minutesBetween_0 : decode cX3_minutesBetween 0 = .ok (.iload_n 0, 1) := by decide +kernel
theorem dX3_minutesBetween_1 : decode cX3_minutesBetween 1 = .ok (.invokestatic 113, 3) := by decide +kernel
theorem dX3_minutesBetween_4 : decode cX3_minutesBetween 4 = .ok (.istore_n 2, 1) := by decide +kernel
theorem dX3_minutesBetween_5 : decode cX3_minutesBetween 5 = .ok (.iload_n 1, 1) := by decide +kernel
theorem dX3_minutesBetween_6 : decode cX3_minutesBetween 6 = .ok (.invokestatic 113, 3) := by decide +kernel
theorem dX3_minutesBetween_9 : decode cX3_minutesBetween 9 = .ok (.istore_n 3, 1) := by decide +kernel
theorem dX3_minutesBetween_10 : decode cX3_minutesBetween 10 = .ok (.iload_n 0, 1) := by decide +kernel
theorem dX3_minutesBetween_11 : decode cX3_minutesBetween 11 = .ok (.iload_n 1, 1) := by decide +kernel
theorem dX3_minutesBetween_12 : decode cX3_minutesBetween 12 = .ok (.if_icmp .ne 5, 3) := by decide +kernel
theorem dX3_minutesBetween_15 : decode cX3_minutesBetween 15 = .ok (.iconst 0, 1) := by decide +kernel
theorem dX3_minutesBetween_16 : decode cX3_minutesBetween 16 = .ok (.ireturn, 1) := by decide +kernel
theorem dX3_minutesBetween_17 : decode cX3_minutesBetween 17 = .ok (.iload_n 2, 1) := by decide +kernel
theorem dX3_minutesBetween_18 : decode cX3_minutesBetween 18 = .ok (.iconst (-1), 1) := by decide +kernel
theorem dX3_minutesBetween_19 : decode cX3_minutesBetween 19 = .ok (.if_icmp .eq 8, 3) := by decide +kernel
theorem dX3_minutesBetween_22 : decode cX3_minutesBetween 22 = .ok (.iload_n 3, 1) := by decide +kernel
theorem dX3_minutesBetween_23 : decode cX3_minutesBetween 23 = .ok (.iconst (-1), 1) := by decide +kernel
theorem dX3_minutesBetween_24 : decode cX3_minutesBetween 24 = .ok (.if_icmp .ne 6, 3) := by decide +kernel
theorem dX3_minutesBetween_27 : decode cX3_minutesBetween 27 = .ok (.ldc 221, 2) := by decide +kernel
theorem dX3_minutesBetween_29 : decode cX3_minutesBetween 29 = .ok (.ireturn, 1) := by decide +kernel
theorem dX3_minutesBetween_30 : decode cX3_minutesBetween 30 = .ok (.getstatic 222, 3) := by decide +kernel
theorem dX3_minutesBetween_33 : decode cX3_minutesBetween 33 = .ok (.iload_n 2, 1) := by decide +kernel
theorem dX3_minutesBetween_34 : decode cX3_minutesBetween 34 = .ok (.iconst 4, 1) := by decide +kernel
theorem dX3_minutesBetween_35 : decode cX3_minutesBetween 35 = .ok (.imul, 1) := by decide +kernel
theorem dX3_minutesBetween_36 : decode cX3_minutesBetween 36 = .ok (.iload_n 3, 1) := by decide +kernel
theorem dX3_minutesBetween_37 : decode cX3_minutesBetween 37 = .ok (.iadd, 1) := by decide +kernel
theorem dX3_minutesBetween_38 : decode cX3_minutesBetween 38 = .ok (.iaload, 1) := by decide +kernel
theorem dX3_minutesBetween_39 : decode cX3_minutesBetween 39 = .ok (.ireturn, 1) := by decide +kernel
set_option maxRecDepth 20000 in
theorem ggX3_addScan_X0_note : GoodIn wsX3_addScan wsX0_note := goodIn_r _ [6, 7, 8, 9, 10, 11, 12, 13, 14, 5, 15, 16, 17, 18, 19, 20, 21, 22, 23, 24, 25, 26, 104, 105, 106, 107, 108, 109, 110, 111, 112, 113, 114] (by decide +kernel) (by decide +kernel)
set_option maxRecDepth 20000 in
theorem gX3_addScan_X0_note : GoodIn wsX3_addScan (wsV RX3 225 RX0 yX0_note wsX0_note) := goodIn_app (goodIn_of _ (by decide +kernel)) ggX3_addScan_X0_note
set_option maxRecDepth 20000 in
theorem ggX3_addScan_X3_settle : GoodIn wsX3_addScan wsX3_settle := goodIn_r _ [30, 31, 32, 33, 34, 35, 36, 37, 38, 39, 40, 41, 17, 42, 43, 44, 45, 46, 47, 48, 49, 50, 51, 24, 25, 26, 52, 53, 54, 5, 55, 7, 56, 57, 58, 59, 60, 61, 62, 63, 64, 11, 65, 66, 67, 68, 69, 70, 71, 72, 9, 73, 74, 75, 76, 77, 78, 79, 80, 81, 82, 83, 84, 85, 86, 87, 88, 89, 90, 91, 92, 93, 94, 95, 96, 97, 98, 99, 100, 101, 102, 103, 104, 105, 106, 107, 108, 109, 110, 111, 112, 113, 114, 115, 116, 117, 118, 119, 120, 121, 122] (by decide +kernel) (by decide +kernel)
set_option maxRecDepth 20000 in
theorem gX3_addScan_X3_settle : GoodIn wsX3_addScan (wsV RX3 229 RX3 yX3_settle wsX3_settle) := goodIn_app (goodIn_of _ (by decide +kernel)) ggX3_addScan_X3_settle
theorem dX3_addScan_0 : decode cX3_addScan 0 = .ok (.aload_n 1, 1) := by decide +kernel
theorem dX3_addScan_1 : decode cX3_addScan 1 = .ok (.aload_n 0, 1) := by decide +kernel
theorem dX3_addScan_2 : decode cX3_addScan 2 = .ok (.getfield 42, 3) := by decide +kernel
theorem dX3_addScan_5 : decode cX3_addScan 5 = .ok (.iload_n 2, 1) := by decide +kernel
theorem dX3_addScan_6 : decode cX3_addScan 6 = .ok (.iload_n 3, 1) := by decide +kernel
theorem dX3_addScan_7 : decode cX3_addScan 7 = .ok (.invokevirtual 225, 3) := by decide +kernel
theorem dX3_addScan_10 : decode cX3_addScan 10 = .ok (.istore 4, 2) := by decide +kernel
theorem dX3_addScan_12 : decode cX3_addScan 12 = .ok (.aload_n 0, 1) := by decide +kernel
theorem dX3_addScan_13 : decode cX3_addScan 13 = .ok (.aload_n 1, 1) := by decide +kernel
theorem dX3_addScan_14 : decode cX3_addScan 14 = .ok (.invokevirtual 229, 3) := by decide +kernel
theorem dX3_addScan_17 : decode cX3_addScan 17 = .ok (.iload 4, 2) := by decide +kernel
theorem dX3_addScan_19 : decode cX3_addScan 19 = .ok (.ireturn, 1) := by decide +kernel
set_option maxRecDepth 20000 in
theorem ggX3_countWrongCode_X3_settleAll : GoodIn wsX3_countWrongCode wsX3_settleAll := goodIn_r _ [7, 8, 9, 10, 11, 6, 12, 13, 14, 15, 16, 17, 18, 19, 20, 21, 22, 23, 24, 25, 26, 27, 28, 29, 30, 31, 2, 32, 33, 34, 35, 36, 37, 38, 39, 40, 41, 42, 43, 44, 45, 46, 47, 48, 49, 50, 51, 52, 53, 54, 55, 56, 57, 58, 59, 60, 61, 62, 63, 64, 65, 66, 67, 68, 69, 70, 71, 72, 73, 74, 75, 76, 77, 78, 79, 80, 81, 82, 88, 89, 90, 91, 92, 93, 94, 95, 96, 97, 98, 99, 100, 101, 102, 103, 104, 105, 106, 107, 83, 84, 85, 86, 87, 108, 109, 110] (by decide +kernel) (by decide +kernel)
set_option maxRecDepth 20000 in
theorem gX3_countWrongCode_X3_settleAll : GoodIn wsX3_countWrongCode (wsV RX3 74 RX3 yX3_settleAll wsX3_settleAll) := goodIn_app (goodIn_of _ (by decide +kernel)) ggX3_countWrongCode_X3_settleAll
theorem dX3_countWrongCode_0 : decode cX3_countWrongCode 0 = .ok (.aload_n 1, 1) := by decide +kernel
theorem dX3_countWrongCode_1 : decode cX3_countWrongCode 1 = .ok (.dup, 1) := by decide +kernel
theorem dX3_countWrongCode_2 : decode cX3_countWrongCode 2 = .ok (.getfield 142, 3) := by decide +kernel
theorem dX3_countWrongCode_5 : decode cX3_countWrongCode 5 = .ok (.iconst 1, 1) := by decide +kernel
theorem dX3_countWrongCode_6 : decode cX3_countWrongCode 6 = .ok (.iadd, 1) := by decide +kernel
theorem dX3_countWrongCode_7 : decode cX3_countWrongCode 7 = .ok (.putfield 142, 3) := by decide +kernel
theorem dX3_countWrongCode_10 : decode cX3_countWrongCode 10 = .ok (.aload_n 1, 1) := by decide +kernel
theorem dX3_countWrongCode_11 : decode cX3_countWrongCode 11 = .ok (.getfield 142, 3) := by decide +kernel
theorem dX3_countWrongCode_14 : decode cX3_countWrongCode 14 = .ok (.iconst 3, 1) := by decide +kernel
theorem dX3_countWrongCode_15 : decode cX3_countWrongCode 15 = .ok (.if_icmp .lt 12, 3) := by decide +kernel
theorem dX3_countWrongCode_18 : decode cX3_countWrongCode 18 = .ok (.aload_n 1, 1) := by decide +kernel
theorem dX3_countWrongCode_19 : decode cX3_countWrongCode 19 = .ok (.iconst 1, 1) := by decide +kernel
theorem dX3_countWrongCode_20 : decode cX3_countWrongCode 20 = .ok (.putfield 130, 3) := by decide +kernel
theorem dX3_countWrongCode_23 : decode cX3_countWrongCode 23 = .ok (.aload_n 0, 1) := by decide +kernel
theorem dX3_countWrongCode_24 : decode cX3_countWrongCode 24 = .ok (.invokevirtual 74, 3) := by decide +kernel
theorem dX3_countWrongCode_27 : decode cX3_countWrongCode 27 = .ok (.return_, 1) := by decide +kernel
set_option maxRecDepth 20000 in
theorem ggX3_trustOf_X3_isWithin : GoodIn wsX3_trustOf wsX3_isWithin := goodIn_r _ [7] (by decide +kernel) (by decide +kernel)
set_option maxRecDepth 20000 in
theorem gX3_trustOf_X3_isWithin : GoodIn wsX3_trustOf (va_wsS RX3 49 yX3_isWithin wsX3_isWithin) := goodIn_app (goodIn_of _ (by decide +kernel)) ggX3_trustOf_X3_isWithin
theorem dX3_trustOf_0 : decode cX3_trustOf 0 = .ok (.iload_n 1, 1) := by decide +kernel
theorem dX3_trustOf_1 : decode cX3_trustOf 1 = .ok (.iconst 0, 1) := by decide +kernel
theorem dX3_trustOf_2 : decode cX3_trustOf 2 = .ok (.bipush 13, 2) := by decide +kernel
theorem dX3_trustOf_4 : decode cX3_trustOf 4 = .ok (.invokestatic 49, 3) := by decide +kernel
theorem dX3_trustOf_7 : decode cX3_trustOf 7 = .ok (.ifCond .ne 6, 3) := by decide +kernel
theorem dX3_trustOf_10 : decode cX3_trustOf 10 = .ok (.bipush 50, 2) := by decide +kernel
theorem dX3_trustOf_12 : decode cX3_trustOf 12 = .ok (.ireturn, 1) := by decide +kernel
theorem dX3_trustOf_13 : decode cX3_trustOf 13 = .ok (.iload_n 1, 1) := by decide +kernel
theorem dX3_trustOf_14 : decode cX3_trustOf 14 = .ok (.iconst 4, 1) := by decide +kernel
theorem dX3_trustOf_15 : decode cX3_trustOf 15 = .ok (.if_icmp .lt 19, 3) := by decide +kernel
theorem dX3_trustOf_18 : decode cX3_trustOf 18 = .ok (.aload_n 0, 1) := by decide +kernel
theorem dX3_trustOf_19 : decode cX3_trustOf 19 = .ok (.getfield 17, 3) := by decide +kernel
theorem dX3_trustOf_22 : decode cX3_trustOf 22 = .ok (.iload_n 1, 1) := by decide +kernel
theorem dX3_trustOf_23 : decode cX3_trustOf 23 = .ok (.iconst 4, 1) := by decide +kernel
theorem dX3_trustOf_24 : decode cX3_trustOf 24 = .ok (.isub, 1) := by decide +kernel
theorem dX3_trustOf_25 : decode cX3_trustOf 25 = .ok (.aaload, 1) := by decide +kernel
theorem dX3_trustOf_26 : decode cX3_trustOf 26 = .ok (.getfield 130, 3) := by decide +kernel
theorem dX3_trustOf_29 : decode cX3_trustOf 29 = .ok (.ifCond .eq 5, 3) := by decide +kernel
theorem dX3_trustOf_32 : decode cX3_trustOf 32 = .ok (.iconst 1, 1) := by decide +kernel
theorem dX3_trustOf_33 : decode cX3_trustOf 33 = .ok (.ireturn, 1) := by decide +kernel
theorem dX3_trustOf_34 : decode cX3_trustOf 34 = .ok (.aload_n 0, 1) := by decide +kernel
theorem dX3_trustOf_35 : decode cX3_trustOf 35 = .ok (.getfield 21, 3) := by decide +kernel
theorem dX3_trustOf_38 : decode cX3_trustOf 38 = .ok (.iload_n 1, 1) := by decide +kernel
theorem dX3_trustOf_39 : decode cX3_trustOf 39 = .ok (.iaload, 1) := by decide +kernel
theorem dX3_trustOf_40 : decode cX3_trustOf 40 = .ok (.ireturn, 1) := by decide +kernel
set_option maxRecDepth 20000 in
theorem ggX3_weighScans_X3_trustOf : GoodIn wsX3_weighScans wsX3_trustOf := goodIn_r _ [8, 9, 10, 11, 12, 13, 7, 14, 26, 27, 28, 29, 30, 31, 32, 33, 34, 35, 36, 37, 38, 39] (by decide +kernel) (by decide +kernel)
set_option maxRecDepth 20000 in
theorem gX3_weighScans_X3_trustOf : GoodIn wsX3_weighScans (wsV RX3 235 RX3 yX3_trustOf wsX3_trustOf) := goodIn_app (goodIn_of _ (by decide +kernel)) ggX3_weighScans_X3_trustOf
theorem dX3_weighScans_0 : decode cX3_weighScans 0 = .ok (.iconst 0, 1) := by decide +kernel
theorem dX3_weighScans_1 : decode cX3_weighScans 1 = .ok (.istore_n 2, 1) := by decide +kernel
theorem dX3_weighScans_2 : decode cX3_weighScans 2 = .ok (.iload_n 2, 1) := by decide +kernel
theorem dX3_weighScans_3 : decode cX3_weighScans 3 = .ok (.aload_n 1, 1) := by decide +kernel
theorem dX3_weighScans_4 : decode cX3_weighScans 4 = .ok (.getfield 171, 3) := by decide +kernel
theorem dX3_weighScans_7 : decode cX3_weighScans 7 = .ok (.if_icmp .ge 33, 3) := by decide +kernel
theorem dX3_weighScans_10 : decode cX3_weighScans 10 = .ok (.aload_n 0, 1) := by decide +kernel
theorem dX3_weighScans_11 : decode cX3_weighScans 11 = .ok (.getfield 32, 3) := by decide +kernel
theorem dX3_weighScans_14 : decode cX3_weighScans 14 = .ok (.iload_n 2, 1) := by decide +kernel
theorem dX3_weighScans_15 : decode cX3_weighScans 15 = .ok (.aload_n 0, 1) := by decide +kernel
theorem dX3_weighScans_16 : decode cX3_weighScans 16 = .ok (.aload_n 1, 1) := by decide +kernel
theorem dX3_weighScans_17 : decode cX3_weighScans 17 = .ok (.getfield 232, 3) := by decide +kernel
theorem dX3_weighScans_20 : decode cX3_weighScans 20 = .ok (.iload_n 2, 1) := by decide +kernel
theorem dX3_weighScans_21 : decode cX3_weighScans 21 = .ok (.iaload, 1) := by decide +kernel
theorem dX3_weighScans_22 : decode cX3_weighScans 22 = .ok (.invokevirtual 235, 3) := by decide +kernel
theorem dX3_weighScans_25 : decode cX3_weighScans 25 = .ok (.sipush 4096, 3) := by decide +kernel
theorem dX3_weighScans_28 : decode cX3_weighScans 28 = .ok (.imul, 1) := by decide +kernel
theorem dX3_weighScans_29 : decode cX3_weighScans 29 = .ok (.iconst 1, 1) := by decide +kernel
theorem dX3_weighScans_30 : decode cX3_weighScans 30 = .ok (.iload_n 2, 1) := by decide +kernel
theorem dX3_weighScans_31 : decode cX3_weighScans 31 = .ok (.ishl, 1) := by decide +kernel
theorem dX3_weighScans_32 : decode cX3_weighScans 32 = .ok (.iadd, 1) := by decide +kernel
theorem dX3_weighScans_33 : decode cX3_weighScans 33 = .ok (.iastore, 1) := by decide +kernel
theorem dX3_weighScans_34 : decode cX3_weighScans 34 = .ok (.iinc 2 1, 3) := by decide +kernel
theorem dX3_weighScans_37 : decode cX3_weighScans 37 = .ok (.goto (-35), 3) := by decide +kernel
theorem dX3_weighScans_40 : decode cX3_weighScans 40 = .ok (.return_, 1) := by decide +kernel
set_option maxRecDepth 20000 in
theorem ggX3_greatestWorth_X0_canFollow : GoodIn wsX3_greatestWorth wsX0_canFollow := goodIn_r _ [10, 11, 15, 16, 17, 18, 19, 20, 21, 22, 23, 24, 25] (by decide +kernel) (by decide +kernel)
set_option maxRecDepth 20000 in
theorem gX3_greatestWorth_X0_canFollow : GoodIn wsX3_greatestWorth (wsV RX3 238 RX0 yX0_canFollow wsX0_canFollow) := goodIn_app (goodIn_of _ (by decide +kernel)) ggX3_greatestWorth_X0_canFollow
set_option maxRecDepth 20000 in
theorem ggX3_greatestWorth_X3_greatestWorth : GoodIn wsX3_greatestWorth wsX3_greatestWorth := goodIn_r _ [0, 1, 2, 3, 4, 5, 6, 7, 8, 9, 10, 11, 12, 13, 14, 15, 16, 17, 18, 19, 20, 21, 22, 23, 24, 25] (by decide +kernel) (by decide +kernel)
set_option maxRecDepth 20000 in
theorem gX3_greatestWorth_X3_greatestWorth : GoodIn wsX3_greatestWorth (va_wsS RX3 180 yX3_greatestWorth wsX3_greatestWorth) := goodIn_app (goodIn_of _ (by decide +kernel)) ggX3_greatestWorth_X3_greatestWorth
theorem dX3_greatestWorth_0 : decode cX3_greatestWorth 0 = .ok (.iload_n 3, 1) := by decide +kernel
theorem dX3_greatestWorth_1 : decode cX3_greatestWorth 1 = .ok (.istore 5, 2) := by decide +kernel
theorem dX3_greatestWorth_3 : decode cX3_greatestWorth 3 = .ok (.iload 4, 2) := by decide +kernel
theorem dX3_greatestWorth_5 : decode cX3_greatestWorth 5 = .ok (.aload_n 0, 1) := by decide +kernel
theorem dX3_greatestWorth_6 : decode cX3_greatestWorth 6 = .ok (.getfield 171, 3) := by decide +kernel
theorem dX3_greatestWorth_9 : decode cX3_greatestWorth 9 = .ok (.if_icmp .lt 6, 3) := by decide +kernel
theorem dX3_greatestWorth_12 : decode cX3_greatestWorth 12 = .ok (.iload 5, 2) := by decide +kernel
theorem dX3_greatestWorth_14 : decode cX3_greatestWorth 14 = .ok (.ireturn, 1) := by decide +kernel
theorem dX3_greatestWorth_15 : decode cX3_greatestWorth 15 = .ok (.iload_n 2, 1) := by decide +kernel
theorem dX3_greatestWorth_16 : decode cX3_greatestWorth 16 = .ok (.iconst 1, 1) := by decide +kernel
theorem dX3_greatestWorth_17 : decode cX3_greatestWorth 17 = .ok (.iadd, 1) := by decide +kernel
theorem dX3_greatestWorth_18 : decode cX3_greatestWorth 18 = .ok (.istore 6, 2) := by decide +kernel
theorem dX3_greatestWorth_20 : decode cX3_greatestWorth 20 = .ok (.iload 6, 2) := by decide +kernel
theorem dX3_greatestWorth_22 : decode cX3_greatestWorth 22 = .ok (.aload_n 0, 1) := by decide +kernel
theorem dX3_greatestWorth_23 : decode cX3_greatestWorth 23 = .ok (.getfield 171, 3) := by decide +kernel
theorem dX3_greatestWorth_26 : decode cX3_greatestWorth 26 = .ok (.if_icmp .ge 47, 3) := by decide +kernel
theorem dX3_greatestWorth_29 : decode cX3_greatestWorth 29 = .ok (.aload_n 0, 1) := by decide +kernel
theorem dX3_greatestWorth_30 : decode cX3_greatestWorth 30 = .ok (.iload_n 2, 1) := by decide +kernel
theorem dX3_greatestWorth_31 : decode cX3_greatestWorth 31 = .ok (.iload 6, 2) := by decide +kernel
theorem dX3_greatestWorth_33 : decode cX3_greatestWorth 33 = .ok (.invokevirtual 238, 3) := by decide +kernel
theorem dX3_greatestWorth_36 : decode cX3_greatestWorth 36 = .ok (.ifCond .eq 31, 3) := by decide +kernel
theorem dX3_greatestWorth_39 : decode cX3_greatestWorth 39 = .ok (.iload_n 3, 1) := by decide +kernel
theorem dX3_greatestWorth_40 : decode cX3_greatestWorth 40 = .ok (.aload_n 1, 1) := by decide +kernel
theorem dX3_greatestWorth_41 : decode cX3_greatestWorth 41 = .ok (.iload 6, 2) := by decide +kernel
theorem dX3_greatestWorth_43 : decode cX3_greatestWorth 43 = .ok (.iaload, 1) := by decide +kernel
theorem dX3_greatestWorth_44 : decode cX3_greatestWorth 44 = .ok (.iadd, 1) := by decide +kernel
theorem dX3_greatestWorth_45 : decode cX3_greatestWorth 45 = .ok (.istore 7, 2) := by decide +kernel
theorem dX3_greatestWorth_47 : decode cX3_greatestWorth 47 = .ok (.iload 5, 2) := by decide +kernel
theorem dX3_greatestWorth_49 : decode cX3_greatestWorth 49 = .ok (.aload_n 0, 1) := by decide +kernel
theorem dX3_greatestWorth_50 : decode cX3_greatestWorth 50 = .ok (.aload_n 1, 1) := by decide +kernel
theorem dX3_greatestWorth_51 : decode cX3_greatestWorth 51 = .ok (.iload 6, 2) := by decide +kernel
theorem dX3_greatestWorth_53 : decode cX3_greatestWorth 53 = .ok (.iload 7, 2) := by decide +kernel
theorem dX3_greatestWorth_55 : decode cX3_greatestWorth 55 = .ok (.iload 4, 2) := by decide +kernel
theorem dX3_greatestWorth_57 : decode cX3_greatestWorth 57 = .ok (.iconst 1, 1) := by decide +kernel
theorem dX3_greatestWorth_58 : decode cX3_greatestWorth 58 = .ok (.iadd, 1) := by decide +kernel
theorem dX3_greatestWorth_59 : decode cX3_greatestWorth 59 = .ok (.invokestatic 180, 3) := by decide +kernel
theorem dX3_greatestWorth_62 : decode cX3_greatestWorth 62 = .ok (.invokestatic 206, 3) := by decide +kernel
theorem dX3_greatestWorth_65 : decode cX3_greatestWorth 65 = .ok (.istore 5, 2) := by decide +kernel
theorem dX3_greatestWorth_67 : decode cX3_greatestWorth 67 = .ok (.iinc 6 1, 3) := by decide +kernel
theorem dX3_greatestWorth_70 : decode cX3_greatestWorth 70 = .ok (.goto (-50), 3) := by decide +kernel
theorem dX3_greatestWorth_73 : decode cX3_greatestWorth 73 = .ok (.iload 5, 2) := by decide +kernel
theorem dX3_greatestWorth_75 : decode cX3_greatestWorth 75 = .ok (.ireturn, 1) := by decide +kernel
set_option maxRecDepth 20000 in
theorem ggX3_settleAll_X3_settle : GoodIn wsX3_settleAll wsX3_settle := goodIn_r _ [6, 7, 8, 9, 10, 11, 12, 13, 14, 15, 16, 17, 5, 18, 19, 20, 21, 22, 23, 24, 25, 26, 27, 28, 29, 30, 31, 32, 33, 34, 35, 36, 37, 38, 39, 40, 41, 42, 43, 44, 45, 46, 47, 48, 49, 50, 51, 52, 53, 54, 55, 56, 57, 58, 59, 60, 61, 62, 63, 64, 65, 66, 67, 68, 69, 70, 71, 72, 73, 74, 75, 76, 77, 78, 79, 80, 81, 82, 83, 84, 85, 86, 87, 88, 89, 90, 91, 92, 93, 94, 95, 96, 97, 98, 99, 100, 101, 102, 103, 104, 105] (by decide +kernel) (by decide +kernel)
set_option maxRecDepth 20000 in
theorem gX3_settleAll_X3_settle : GoodIn wsX3_settleAll (wsV RX3 229 RX3 yX3_settle wsX3_settle) := goodIn_app (goodIn_of _ (by decide +kernel)) ggX3_settleAll_X3_settle
theorem dX3_settleAll_0 : decode cX3_settleAll 0 = .ok (.aload_n 0, 1) := by decide +kernel
theorem dX3_settleAll_1 : decode cX3_settleAll 1 = .ok (.getfield 11, 3) := by decide +kernel
theorem dX3_settleAll_4 : decode cX3_settleAll 4 = .ok (.astore_n 1, 1) := by decide +kernel
theorem dX3_settleAll_5 : decode cX3_settleAll 5 = .ok (.aload_n 1, 1) := by decide +kernel
theorem dX3_settleAll_6 : decode cX3_settleAll 6 = .ok (.arraylength, 1) := by decide +kernel
theorem dX3_settleAll_7 : decode cX3_settleAll 7 = .ok (.istore_n 2, 1) := by decide +kernel
theorem dX3_settleAll_8 : decode cX3_settleAll 8 = .ok (.iconst 0, 1) := by decide +kernel
theorem dX3_settleAll_9 : decode cX3_settleAll 9 = .ok (.istore_n 3, 1) := by decide +kernel
theorem dX3_settleAll_10 : decode cX3_settleAll 10 = .ok (.iload_n 3, 1) := by decide +kernel
theorem dX3_settleAll_11 : decode cX3_settleAll 11 = .ok (.iload_n 2, 1) := by decide +kernel
theorem dX3_settleAll_12 : decode cX3_settleAll 12 = .ok (.if_icmp .ge 25, 3) := by decide +kernel
theorem dX3_settleAll_15 : decode cX3_settleAll 15 = .ok (.aload_n 1, 1) := by decide +kernel
theorem dX3_settleAll_16 : decode cX3_settleAll 16 = .ok (.iload_n 3, 1) := by decide +kernel
theorem dX3_settleAll_17 : decode cX3_settleAll 17 = .ok (.aaload, 1) := by decide +kernel
theorem dX3_settleAll_18 : decode cX3_settleAll 18 = .ok (.astore 4, 2) := by decide +kernel
theorem dX3_settleAll_20 : decode cX3_settleAll 20 = .ok (.aload 4, 2) := by decide +kernel
theorem dX3_settleAll_22 : decode cX3_settleAll 22 = .ok (.ifnull 9, 3) := by decide +kernel
theorem dX3_settleAll_25 : decode cX3_settleAll 25 = .ok (.aload_n 0, 1) := by decide +kernel
theorem dX3_settleAll_26 : decode cX3_settleAll 26 = .ok (.aload 4, 2) := by decide +kernel
theorem dX3_settleAll_28 : decode cX3_settleAll 28 = .ok (.invokevirtual 229, 3) := by decide +kernel
theorem dX3_settleAll_31 : decode cX3_settleAll 31 = .ok (.iinc 3 1, 3) := by decide +kernel
theorem dX3_settleAll_34 : decode cX3_settleAll 34 = .ok (.goto (-24), 3) := by decide +kernel
theorem dX3_settleAll_37 : decode cX3_settleAll 37 = .ok (.return_, 1) := by decide +kernel
set_option maxRecDepth 20000 in
theorem ggX3_settle_X3_weighScans : GoodIn wsX3_settle wsX3_weighScans := goodIn_r _ [13, 14, 1, 15, 16, 17, 18, 12, 19, 20, 21, 22, 23, 24, 25, 82, 83, 84, 85, 86, 87, 88, 89, 90, 91, 92, 73, 74, 75, 76, 77, 78, 79, 80, 81, 93, 94, 95, 96, 97] (by decide +kernel) (by decide +kernel)
set_option maxRecDepth 20000 in
theorem gX3_settle_X3_weighScans : GoodIn wsX3_settle (wsV RX3 177 RX3 yX3_weighScans wsX3_weighScans) := goodIn_app (goodIn_of _ (by decide +kernel)) ggX3_settle_X3_weighScans
set_option maxRecDepth 20000 in
theorem ggX3_settle_X0_chooseStory : GoodIn wsX3_settle wsX0_chooseStory := goodIn_r _ [30, 31, 32, 33, 34, 35, 36, 37, 38, 39, 29, 40, 41, 82, 83, 84, 85, 86, 87, 88, 89, 90, 91, 92] (by decide +kernel) (by decide +kernel)
set_option maxRecDepth 20000 in
theorem gX3_settle_X0_chooseStory : GoodIn wsX3_settle (wsV RX3 242 RX0 yX0_chooseStory wsX0_chooseStory) := goodIn_app (goodIn_of _ (by decide +kernel)) ggX3_settle_X0_chooseStory
set_option maxRecDepth 20000 in
theorem ggX3_settle_X0_isDelivered : GoodIn wsX3_settle wsX0_isDelivered := goodIn_r _ [45, 46, 47, 48, 29, 49, 31, 50, 51, 52, 53, 54, 36, 82, 83, 84, 85, 86, 87, 88, 89, 90, 91, 92] (by decide +kernel) (by decide +kernel)
set_option maxRecDepth 20000 in
theorem gX3_settle_X0_isDelivered : GoodIn wsX3_settle (wsV RX3 153 RX0 yX0_isDelivered wsX0_isDelivered) := goodIn_app (goodIn_of _ (by decide +kernel)) ggX3_settle_X0_isDelivered
set_option maxRecDepth 20000 in
theorem ggX3_settle_X2_claimBack : GoodIn wsX3_settle wsX2_claimBack := goodIn_r _ [59, 60, 61, 98, 99, 100] (by decide +kernel) (by decide +kernel)
set_option maxRecDepth 20000 in
theorem gX3_settle_X2_claimBack : GoodIn wsX3_settle (wsV RX3 246 RX2 yX2_claimBack wsX2_claimBack) := goodIn_app (goodIn_of _ (by decide +kernel)) ggX3_settle_X2_claimBack
set_option maxRecDepth 20000 in
theorem ggX3_settle_X0_deliverer : GoodIn wsX3_settle wsX0_deliverer := goodIn_r _ [65, 31, 50, 66, 12, 67, 23, 24, 25, 51, 52, 53, 29, 54, 36, 82, 83, 84, 85, 86, 87, 88, 89, 90, 91, 92] (by decide +kernel) (by decide +kernel)
set_option maxRecDepth 20000 in
theorem gX3_settle_X0_deliverer : GoodIn wsX3_settle (wsV RX3 249 RX0 yX0_deliverer wsX0_deliverer) := goodIn_app (goodIn_of _ (by decide +kernel)) ggX3_settle_X0_deliverer
set_option maxRecDepth 20000 in
theorem ggX3_settle_X2_writeFee : GoodIn wsX3_settle wsX2_writeFee := goodIn_r _ [71, 72, 61, 98, 99, 100] (by decide +kernel) (by decide +kernel)
set_option maxRecDepth 20000 in
theorem gX3_settle_X2_writeFee : GoodIn wsX3_settle (wsV RX3 255 RX2 yX2_writeFee wsX2_writeFee) := goodIn_app (goodIn_of _ (by decide +kernel)) ggX3_settle_X2_writeFee
theorem dX3_settle_0 : decode cX3_settle 0 = .ok (.aload_n 0, 1) := by decide +kernel
theorem dX3_settle_1 : decode cX3_settle 1 = .ok (.aload_n 1, 1) := by decide +kernel
theorem dX3_settle_2 : decode cX3_settle 2 = .ok (.invokevirtual 177, 3) := by decide +kernel
theorem dX3_settle_5 : decode cX3_settle 5 = .ok (.aload_n 1, 1) := by decide +kernel
theorem dX3_settle_6 : decode cX3_settle 6 = .ok (.aload_n 0, 1) := by decide +kernel
theorem dX3_settle_7 : decode cX3_settle 7 = .ok (.getfield 32, 3) := by decide +kernel
theorem dX3_settle_10 : decode cX3_settle 10 = .ok (.aload_n 0, 1) := by decide +kernel
theorem dX3_settle_11 : decode cX3_settle 11 = .ok (.getfield 35, 3) := by decide +kernel
theorem dX3_settle_14 : decode cX3_settle 14 = .ok (.invokevirtual 242, 3) := by decide +kernel
theorem dX3_settle_17 : decode cX3_settle 17 = .ok (.aload_n 1, 1) := by decide +kernel
theorem dX3_settle_18 : decode cX3_settle 18 = .ok (.invokevirtual 153, 3) := by decide +kernel
theorem dX3_settle_21 : decode cX3_settle 21 = .ok (.istore_n 2, 1) := by decide +kernel
theorem dX3_settle_22 : decode cX3_settle 22 = .ok (.iload_n 2, 1) := by decide +kernel
theorem dX3_settle_23 : decode cX3_settle 23 = .ok (.ifCond .eq 26, 3) := by decide +kernel
theorem dX3_settle_26 : decode cX3_settle 26 = .ok (.aload_n 1, 1) := by decide +kernel
theorem dX3_settle_27 : decode cX3_settle 27 = .ok (.getfield 156, 3) := by decide +kernel
theorem dX3_settle_30 : decode cX3_settle 30 = .ok (.ifCond .eq 19, 3) := by decide +kernel
theorem dX3_settle_33 : decode cX3_settle 33 = .ok (.aload_n 1, 1) := by decide +kernel
theorem dX3_settle_34 : decode cX3_settle 34 = .ok (.iconst 0, 1) := by decide +kernel
theorem dX3_settle_35 : decode cX3_settle 35 = .ok (.putfield 156, 3) := by decide +kernel
theorem dX3_settle_38 : decode cX3_settle 38 = .ok (.aload_n 0, 1) := by decide +kernel
theorem dX3_settle_39 : decode cX3_settle 39 = .ok (.getfield 28, 3) := by decide +kernel
theorem dX3_settle_42 : decode cX3_settle 42 = .ok (.aload_n 1, 1) := by decide +kernel
theorem dX3_settle_43 : decode cX3_settle 43 = .ok (.getfield 165, 3) := by decide +kernel
theorem dX3_settle_46 : decode cX3_settle 46 = .ok (.invokevirtual 246, 3) := by decide +kernel
theorem dX3_settle_49 : decode cX3_settle 49 = .ok (.iload_n 2, 1) := by decide +kernel
theorem dX3_settle_50 : decode cX3_settle 50 = .ok (.ifCond .eq 41, 3) := by decide +kernel
theorem dX3_settle_53 : decode cX3_settle 53 = .ok (.aload_n 1, 1) := by decide +kernel
theorem dX3_settle_54 : decode cX3_settle 54 = .ok (.getfield 191, 3) := by decide +kernel
theorem dX3_settle_57 : decode cX3_settle 57 = .ok (.ifCond .ne 34, 3) := by decide +kernel
theorem dX3_settle_60 : decode cX3_settle 60 = .ok (.aload_n 1, 1) := by decide +kernel
theorem dX3_settle_61 : decode cX3_settle 61 = .ok (.iconst 1, 1) := by decide +kernel
theorem dX3_settle_62 : decode cX3_settle 62 = .ok (.putfield 191, 3) := by decide +kernel
theorem dX3_settle_65 : decode cX3_settle 65 = .ok (.aload_n 1, 1) := by decide +kernel
theorem dX3_settle_66 : decode cX3_settle 66 = .ok (.aload_n 1, 1) := by decide +kernel
theorem dX3_settle_67 : decode cX3_settle 67 = .ok (.invokevirtual 249, 3) := by decide +kernel
theorem dX3_settle_70 : decode cX3_settle 70 = .ok (.putfield 252, 3) := by decide +kernel
theorem dX3_settle_73 : decode cX3_settle 73 = .ok (.aload_n 0, 1) := by decide +kernel
theorem dX3_settle_74 : decode cX3_settle 74 = .ok (.getfield 28, 3) := by decide +kernel
theorem dX3_settle_77 : decode cX3_settle 77 = .ok (.aload_n 1, 1) := by decide +kernel
theorem dX3_settle_78 : decode cX3_settle 78 = .ok (.getfield 252, 3) := by decide +kernel
theorem dX3_settle_81 : decode cX3_settle 81 = .ok (.bipush 10, 2) := by decide +kernel
theorem dX3_settle_83 : decode cX3_settle 83 = .ok (.aload_n 1, 1) := by decide +kernel
theorem dX3_settle_84 : decode cX3_settle 84 = .ok (.getfield 107, 3) := by decide +kernel
theorem dX3_settle_87 : decode cX3_settle 87 = .ok (.imul, 1) := by decide +kernel
theorem dX3_settle_88 : decode cX3_settle 88 = .ok (.invokevirtual 255, 3) := by decide +kernel
theorem dX3_settle_91 : decode cX3_settle 91 = .ok (.iload_n 2, 1) := by decide +kernel
theorem dX3_settle_92 : decode cX3_settle 92 = .ok (.ifCond .ne 33, 3) := by decide +kernel
theorem dX3_settle_95 : decode cX3_settle 95 = .ok (.aload_n 1, 1) := by decide +kernel
theorem dX3_settle_96 : decode cX3_settle 96 = .ok (.getfield 191, 3) := by decide +kernel
theorem dX3_settle_99 : decode cX3_settle 99 = .ok (.ifCond .eq 26, 3) := by decide +kernel
theorem dX3_settle_102 : decode cX3_settle 102 = .ok (.aload_n 1, 1) := by decide +kernel
theorem dX3_settle_103 : decode cX3_settle 103 = .ok (.iconst 0, 1) := by decide +kernel
theorem dX3_settle_104 : decode cX3_settle 104 = .ok (.putfield 191, 3) := by decide +kernel
theorem dX3_settle_107 : decode cX3_settle 107 = .ok (.aload_n 0, 1) := by decide +kernel
theorem dX3_settle_108 : decode cX3_settle 108 = .ok (.getfield 28, 3) := by decide +kernel
theorem dX3_settle_111 : decode cX3_settle 111 = .ok (.aload_n 1, 1) := by decide +kernel
theorem dX3_settle_112 : decode cX3_settle 112 = .ok (.getfield 252, 3) := by decide +kernel
theorem dX3_settle_115 : decode cX3_settle 115 = .ok (.bipush (-10), 2) := by decide +kernel
theorem dX3_settle_117 : decode cX3_settle 117 = .ok (.aload_n 1, 1) := by decide +kernel
theorem dX3_settle_118 : decode cX3_settle 118 = .ok (.getfield 107, 3) := by decide +kernel
theorem dX3_settle_121 : decode cX3_settle 121 = .ok (.imul, 1) := by decide +kernel
theorem dX3_settle_122 : decode cX3_settle 122 = .ok (.invokevirtual 255, 3) := by decide +kernel
theorem dX3_settle_125 : decode cX3_settle 125 = .ok (.return_, 1) := by decide +kernel
