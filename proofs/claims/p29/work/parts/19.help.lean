theorem dL_drawn_0 : decode cL_drawn 0 = .ok (.iload_n 1, 1) := by decide +kernel
theorem dL_drawn_1 : decode cL_drawn 1 = .ok (.aload_n 0, 1) := by decide +kernel
theorem dL_drawn_2 : decode cL_drawn 2 = .ok (.arraylength, 1) := by decide +kernel
theorem dL_drawn_3 : decode cL_drawn 3 = .ok (.if_icmp .ge 9, 3) := by decide +kernel
theorem dL_drawn_6 : decode cL_drawn 6 = .ok (.aload_n 0, 1) := by decide +kernel
theorem dL_drawn_7 : decode cL_drawn 7 = .ok (.iload_n 1, 1) := by decide +kernel
theorem dL_drawn_8 : decode cL_drawn 8 = .ok (.iaload, 1) := by decide +kernel
theorem dL_drawn_9 : decode cL_drawn 9 = .ok (.goto 12, 3) := by decide +kernel
theorem dL_drawn_12 : decode cL_drawn 12 = .ok (.sipush 12301, 3) := by decide +kernel
theorem dL_drawn_15 : decode cL_drawn 15 = .ok (.iload_n 1, 1) := by decide +kernel
theorem dL_drawn_16 : decode cL_drawn 16 = .ok (.imul, 1) := by decide +kernel
theorem dL_drawn_17 : decode cL_drawn 17 = .ok (.sipush 7013, 3) := by decide +kernel
theorem dL_drawn_20 : decode cL_drawn 20 = .ok (.iadd, 1) := by decide +kernel
theorem dL_drawn_21 : decode cL_drawn 21 = .ok (.istore_n 2, 1) := by decide +kernel
theorem dL_drawn_22 : decode cL_drawn 22 = .ok (.iload_n 2, 1) := by decide +kernel
theorem dL_drawn_23 : decode cL_drawn 23 = .ok (.ldc 7, 2) := by decide +kernel
theorem dL_drawn_25 : decode cL_drawn 25 = .ok (.iand, 1) := by decide +kernel
theorem dL_drawn_26 : decode cL_drawn 26 = .ok (.ireturn, 1) := by decide +kernel
set_option maxRecDepth 20000 in
theorem ggL_does_X3_box : GoodIn wsL_does wsX3_box := goodIn_ca (goodIn_ca (goodIn_r _ [9, 10, 11, 12, 13, 14, 15, 16, 17, 18, 19, 20, 8, 21, 22, 23, 24, 25, 26, 27, 28, 29, 30, 31, 32, 33, 34, 35, 36, 37, 38, 39, 203, 204, 205, 206, 207, 208, 209, 210, 211, 212, 213, 214, 215, 216, 217, 218, 219, 220, 221, 222] (by decide +kernel) (by decide +kernel)) (goodIn_sub (fun _ h => List.mem_cons_of_mem _ (List.mem_append_left _ (List.mem_append_left _ (List.mem_append_right _ h)))) (by decide +kernel))) (goodIn_sub (fun _ h => List.mem_cons_of_mem _ (List.mem_append_left _ (List.mem_append_right _ h))) (by decide +kernel))
set_option maxRecDepth 20000 in
theorem gL_does_X3_box : GoodIn wsL_does (wsV RL 8 RX3 yX3_box wsX3_box) := goodIn_app (goodIn_of _ (by decide +kernel)) ggL_does_X3_box
set_option maxRecDepth 20000 in
theorem ggL_does_X3_setTrust : GoodIn wsL_does wsX3_setTrust := goodIn_ca (goodIn_ca (goodIn_r _ [43, 10, 11, 44, 45, 46, 8, 47, 48, 49, 19, 20, 21, 50, 51, 52, 53, 15, 54, 55, 56, 57, 58, 59, 60, 61, 62, 63, 64, 65, 66, 67, 68, 69, 70, 71, 72, 73, 74, 75, 76, 77, 78, 79, 80, 18, 81, 33, 82, 83, 84, 85, 34, 86, 87, 88, 89, 32, 90, 91, 92, 93, 94, 95, 96, 97, 30, 98, 99, 100, 101, 102, 103, 104, 105, 106, 107, 108, 109, 110, 111, 112, 113, 114, 115, 116, 117, 118, 119, 203, 204, 205, 206, 207, 208, 209, 210, 211, 212, 213, 214, 215, 216, 217, 218, 219, 220, 221, 222, 223, 224, 225, 226, 227, 228, 229, 230] (by decide +kernel) (by decide +kernel)) (goodIn_sub (fun _ h => List.mem_cons_of_mem _ (List.mem_append_left _ (List.mem_append_left _ (List.mem_append_right _ h)))) (by decide +kernel))) (goodIn_sub (fun _ h => List.mem_cons_of_mem _ (List.mem_append_right _ h)) (by decide +kernel))
set_option maxRecDepth 20000 in
theorem gL_does_X3_setTrust : GoodIn wsL_does (wsV RL 14 RX3 yX3_setTrust wsX3_setTrust) := goodIn_app (goodIn_of _ (by decide +kernel)) ggL_does_X3_setTrust
set_option maxRecDepth 20000 in
theorem ggL_does_X3_pass : GoodIn wsL_does wsX3_pass := goodIn_ca (goodIn_ca (goodIn_r _ [123, 10, 11, 12, 13, 124, 125, 19, 20, 8, 21, 203, 204, 205, 206, 207, 208, 209, 210, 211] (by decide +kernel) (by decide +kernel)) (goodIn_sub (fun _ h => List.mem_cons_of_mem _ (List.mem_append_left _ (List.mem_append_left _ (List.mem_append_right _ h)))) (by decide +kernel))) (goodIn_sub (fun _ h => List.mem_cons_of_mem _ (List.mem_append_left _ (List.mem_append_right _ h))) (by decide +kernel))
set_option maxRecDepth 20000 in
theorem gL_does_X3_pass : GoodIn wsL_does (wsV RL 17 RX3 yX3_pass wsX3_pass) := goodIn_app (goodIn_of _ (by decide +kernel)) ggL_does_X3_pass
set_option maxRecDepth 20000 in
theorem ggL_does_X3_lay : GoodIn wsL_does wsX3_lay := goodIn_ca (goodIn_ca (goodIn_r _ [129, 12, 13, 65, 130, 131, 132, 133, 8, 134, 48, 49, 15, 135, 136, 137, 138, 76, 139, 140, 141, 70, 142, 143, 144, 145, 124, 146, 147, 148, 18, 149, 33, 29, 30, 31, 32, 150, 151, 152, 153, 154, 155, 156, 157, 158, 159, 160, 19, 20, 21, 54, 55, 56, 57, 58, 59, 60, 61, 62, 63, 64, 66, 67, 68, 69, 71, 72, 73, 74, 75, 77, 44, 78, 79, 80, 81, 82, 83, 84, 85, 34, 86, 87, 88, 89, 90, 91, 92, 93, 94, 95, 96, 97, 98, 99, 100, 101, 102, 103, 104, 105, 106, 107, 108, 109, 110, 111, 112, 113, 114, 115, 116, 117, 118, 119, 212, 213, 214, 215, 216, 217, 218, 219, 220, 221, 222, 223, 224, 225, 226, 227, 203, 204, 205, 206, 207, 208, 209, 210, 211, 228, 229, 230] (by decide +kernel) (by decide +kernel)) (goodIn_sub (fun _ h => List.mem_cons_of_mem _ (List.mem_append_left _ (List.mem_append_right _ h))) (by decide +kernel))) (goodIn_sub (fun _ h => List.mem_cons_of_mem _ (List.mem_append_right _ h)) (by decide +kernel))
set_option maxRecDepth 20000 in
theorem gL_does_X3_lay : GoodIn wsL_does (wsV RL 21 RX3 yX3_lay wsX3_lay) := goodIn_app (goodIn_of _ (by decide +kernel)) ggL_does_X3_lay
set_option maxRecDepth 20000 in
theorem ggL_does_X3_find : GoodIn wsL_does wsX3_find := goodIn_ca (goodIn_ca (goodIn_r _ [164, 48, 49, 131, 132, 133, 8, 134, 15, 158, 159, 160, 19, 20, 21, 139, 140, 141, 12, 13, 70, 142, 143, 144, 145, 124, 146, 147, 148, 18, 149, 33, 29, 30, 31, 32, 150, 151, 152, 153, 154, 155, 156, 157, 54, 55, 56, 57, 58, 59, 60, 61, 62, 63, 64, 65, 66, 67, 68, 69, 71, 72, 73, 74, 75, 76, 77, 44, 78, 79, 80, 81, 82, 83, 84, 85, 34, 86, 87, 88, 89, 90, 91, 92, 93, 94, 95, 96, 97, 98, 99, 100, 101, 102, 103, 104, 105, 106, 107, 108, 109, 110, 111, 112, 113, 114, 115, 116, 117, 118, 119, 203, 204, 205, 206, 207, 208, 209, 210, 211, 212, 213, 214, 215, 216, 217, 218, 219, 220, 221, 222, 223, 224, 225, 226, 227, 228, 229, 230] (by decide +kernel) (by decide +kernel)) (goodIn_sub (fun _ h => List.mem_cons_of_mem _ (List.mem_append_right _ h)) (by decide +kernel))) (goodIn_sub (fun _ h => List.mem_cons_of_mem _ (List.mem_append_left _ (List.mem_append_right _ h))) (by decide +kernel))
set_option maxRecDepth 20000 in
theorem gL_does_X3_find : GoodIn wsL_does (wsV RL 24 RX3 yX3_find wsX3_find) := goodIn_app (goodIn_of _ (by decide +kernel)) ggL_does_X3_find
set_option maxRecDepth 20000 in
theorem ggL_does_X3_setDoor : GoodIn wsL_does wsX3_setDoor := goodIn_ca (goodIn_ca (goodIn_ca (goodIn_r _ [168, 10, 11, 12, 13, 130, 135, 136, 137, 8, 138, 48, 49, 76, 19, 20, 21, 169, 170, 171, 172, 173, 174, 223, 224, 225, 226, 227, 203, 204, 205, 206, 207, 208, 209, 210, 211] (by decide +kernel) (by decide +kernel)) (goodIn_sub (fun _ h => List.mem_cons_of_mem _ (List.mem_append_left _ (List.mem_append_left _ (List.mem_append_right _ h)))) (by decide +kernel))) (goodIn_sub (fun _ h => List.mem_cons_of_mem _ (List.mem_append_left _ (List.mem_append_right _ h))) (by decide +kernel))) (goodIn_sub (fun _ h => List.mem_cons_of_mem _ (List.mem_append_right _ h)) (by decide +kernel))
set_option maxRecDepth 20000 in
theorem gL_does_X3_setDoor : GoodIn wsL_does (wsV RL 27 RX3 yX3_setDoor wsX3_setDoor) := goodIn_app (goodIn_of _ (by decide +kernel)) ggL_does_X3_setDoor
set_option maxRecDepth 20000 in
theorem ggL_does_X3_keep : GoodIn wsL_does wsX3_keep := goodIn_ca (goodIn_ca (goodIn_r _ [178, 12, 13, 77, 130, 65, 179, 180, 181, 182, 135, 136, 137, 8, 138, 48, 49, 76, 131, 132, 133, 134, 15, 169, 170, 171, 172, 173, 174, 223, 224, 225, 226, 227, 212, 213, 214, 215, 216, 217, 218, 219, 220, 221, 222, 203, 204, 205, 206, 207, 208, 209, 210, 211] (by decide +kernel) (by decide +kernel)) (goodIn_sub (fun _ h => List.mem_cons_of_mem _ (List.mem_append_left _ (List.mem_append_right _ h))) (by decide +kernel))) (goodIn_sub (fun _ h => List.mem_cons_of_mem _ (List.mem_append_right _ h)) (by decide +kernel))
set_option maxRecDepth 20000 in
theorem gL_does_X3_keep : GoodIn wsL_does (wsV RL 30 RX3 yX3_keep wsX3_keep) := goodIn_app (goodIn_of _ (by decide +kernel)) ggL_does_X3_keep
set_option maxRecDepth 20000 in
theorem ggL_does_X3_open : GoodIn wsL_does wsX3_open := goodIn_ca (goodIn_ca (goodIn_ca (goodIn_r _ [186, 10, 11, 12, 13, 77, 181, 179, 135, 136, 137, 8, 138, 48, 49, 76, 19, 20, 21, 169, 170, 171, 172, 173, 174, 187, 188, 189, 190, 182, 50, 51, 52, 53, 15, 54, 55, 56, 57, 58, 59, 60, 61, 62, 63, 64, 65, 66, 67, 68, 69, 70, 71, 72, 73, 74, 75, 44, 78, 79, 80, 18, 81, 33, 82, 83, 84, 85, 34, 86, 87, 88, 89, 32, 90, 91, 92, 93, 94, 95, 96, 97, 30, 98, 99, 100, 101, 102, 103, 104, 105, 106, 107, 108, 109, 110, 111, 112, 113, 114, 115, 116, 117, 118, 119, 131, 132, 133, 134, 142, 143, 144, 145, 124, 146, 147, 148, 149, 29, 31, 150, 151, 152, 153, 154, 155, 156, 157, 158, 159, 160, 223, 224, 225, 226, 227, 203, 204, 205, 206, 207, 208, 209, 210, 211, 212, 213, 214, 215, 216, 217, 218, 219, 220, 221, 222, 228, 229, 230] (by decide +kernel) (by decide +kernel)) (goodIn_sub (fun _ h => List.mem_cons_of_mem _ (List.mem_append_left _ (List.mem_append_left _ (List.mem_append_right _ h)))) (by decide +kernel))) (goodIn_sub (fun _ h => List.mem_cons_of_mem _ (List.mem_append_left _ (List.mem_append_right _ h))) (by decide +kernel))) (goodIn_sub (fun _ h => List.mem_cons_of_mem _ (List.mem_append_right _ h)) (by decide +kernel))
set_option maxRecDepth 20000 in
theorem gL_does_X3_open : GoodIn wsL_does (wsV RL 33 RX3 yX3_open wsX3_open) := goodIn_app (goodIn_of _ (by decide +kernel)) ggL_does_X3_open
set_option maxRecDepth 20000 in
theorem ggL_does_X3_claim : GoodIn wsL_does wsX3_claim := goodIn_ca (goodIn_ca (goodIn_r _ [194, 12, 13, 60, 124, 61, 62, 131, 132, 133, 8, 134, 48, 49, 15, 90, 91, 92, 18, 93, 94, 95, 96, 97, 33, 30, 98, 99, 100, 101, 34, 195, 196, 197, 198, 29, 199, 200, 201, 105, 202, 107, 108, 212, 213, 214, 215, 216, 217, 218, 219, 220, 221, 222, 203, 204, 205, 206, 207, 208, 209, 210, 211, 228, 229, 230] (by decide +kernel) (by decide +kernel)) (goodIn_sub (fun _ h => List.mem_cons_of_mem _ (List.mem_append_left _ (List.mem_append_right _ h))) (by decide +kernel))) (goodIn_sub (fun _ h => List.mem_cons_of_mem _ (List.mem_append_right _ h)) (by decide +kernel))
set_option maxRecDepth 20000 in
theorem gL_does_X3_claim : GoodIn wsL_does (wsV RL 36 RX3 yX3_claim wsX3_claim) := goodIn_app (goodIn_of _ (by decide +kernel)) ggL_does_X3_claim
theorem dL_does_0 : decode cL_does 0 = .ok (.iload_n 1, 1) := by decide +kernel
theorem dL_does_1 : decode cL_does 1 = .ok (.ifCond .ne 12, 3) := by decide +kernel
theorem dL_does_4 : decode cL_does 4 = .ok (.aload_n 0, 1) := by decide +kernel
theorem dL_does_5 : decode cL_does 5 = .ok (.iload_n 2, 1) := by decide +kernel
theorem dL_does_6 : decode cL_does 6 = .ok (.iload_n 3, 1) := by decide +kernel
theorem dL_does_7 : decode cL_does 7 = .ok (.invokevirtual 8, 3) := by decide +kernel
theorem dL_does_10 : decode cL_does 10 = .ok (.goto 107, 3) := by decide +kernel
theorem dL_does_13 : decode cL_does 13 = .ok (.iload_n 1, 1) := by decide +kernel
theorem dL_does_14 : decode cL_does 14 = .ok (.iconst 1, 1) := by decide +kernel
theorem dL_does_15 : decode cL_does 15 = .ok (.if_icmp .ne 12, 3) := by decide +kernel
theorem dL_does_18 : decode cL_does 18 = .ok (.aload_n 0, 1) := by decide +kernel
theorem dL_does_19 : decode cL_does 19 = .ok (.iload_n 2, 1) := by decide +kernel
theorem dL_does_20 : decode cL_does 20 = .ok (.iload_n 3, 1) := by decide +kernel
theorem dL_does_21 : decode cL_does 21 = .ok (.invokevirtual 14, 3) := by decide +kernel
theorem dL_does_24 : decode cL_does 24 = .ok (.goto 93, 3) := by decide +kernel
theorem dL_does_27 : decode cL_does 27 = .ok (.iload_n 1, 1) := by decide +kernel
theorem dL_does_28 : decode cL_does 28 = .ok (.iconst 2, 1) := by decide +kernel
theorem dL_does_29 : decode cL_does 29 = .ok (.if_icmp .ne 11, 3) := by decide +kernel
theorem dL_does_32 : decode cL_does 32 = .ok (.aload_n 0, 1) := by decide +kernel
theorem dL_does_33 : decode cL_does 33 = .ok (.iload_n 2, 1) := by decide +kernel
theorem dL_does_34 : decode cL_does 34 = .ok (.invokevirtual 17, 3) := by decide +kernel
theorem dL_does_37 : decode cL_does 37 = .ok (.goto 80, 3) := by decide +kernel
theorem dL_does_40 : decode cL_does 40 = .ok (.iload_n 1, 1) := by decide +kernel
theorem dL_does_41 : decode cL_does 41 = .ok (.iconst 3, 1) := by decide +kernel
theorem dL_does_42 : decode cL_does 42 = .ok (.if_icmp .ne 12, 3) := by decide +kernel
theorem dL_does_45 : decode cL_does 45 = .ok (.aload_n 0, 1) := by decide +kernel
theorem dL_does_46 : decode cL_does 46 = .ok (.iload_n 2, 1) := by decide +kernel
theorem dL_does_47 : decode cL_does 47 = .ok (.iload_n 3, 1) := by decide +kernel
theorem dL_does_48 : decode cL_does 48 = .ok (.invokevirtual 21, 3) := by decide +kernel
theorem dL_does_51 : decode cL_does 51 = .ok (.goto 66, 3) := by decide +kernel
theorem dL_does_54 : decode cL_does 54 = .ok (.iload_n 1, 1) := by decide +kernel
theorem dL_does_55 : decode cL_does 55 = .ok (.iconst 4, 1) := by decide +kernel
theorem dL_does_56 : decode cL_does 56 = .ok (.if_icmp .ne 12, 3) := by decide +kernel
theorem dL_does_59 : decode cL_does 59 = .ok (.aload_n 0, 1) := by decide +kernel
theorem dL_does_60 : decode cL_does 60 = .ok (.iload_n 2, 1) := by decide +kernel
theorem dL_does_61 : decode cL_does 61 = .ok (.iload_n 3, 1) := by decide +kernel
theorem dL_does_62 : decode cL_does 62 = .ok (.invokevirtual 24, 3) := by decide +kernel
theorem dL_does_65 : decode cL_does 65 = .ok (.goto 52, 3) := by decide +kernel
theorem dL_does_68 : decode cL_does 68 = .ok (.iload_n 1, 1) := by decide +kernel
theorem dL_does_69 : decode cL_does 69 = .ok (.iconst 5, 1) := by decide +kernel
theorem dL_does_70 : decode cL_does 70 = .ok (.if_icmp .ne 12, 3) := by decide +kernel
theorem dL_does_73 : decode cL_does 73 = .ok (.aload_n 0, 1) := by decide +kernel
theorem dL_does_74 : decode cL_does 74 = .ok (.iload_n 2, 1) := by decide +kernel
theorem dL_does_75 : decode cL_does 75 = .ok (.iload_n 3, 1) := by decide +kernel
theorem dL_does_76 : decode cL_does 76 = .ok (.invokevirtual 27, 3) := by decide +kernel
theorem dL_does_79 : decode cL_does 79 = .ok (.goto 38, 3) := by decide +kernel
theorem dL_does_82 : decode cL_does 82 = .ok (.iload_n 1, 1) := by decide +kernel
theorem dL_does_83 : decode cL_does 83 = .ok (.bipush 6, 2) := by decide +kernel
theorem dL_does_85 : decode cL_does 85 = .ok (.if_icmp .ne 12, 3) := by decide +kernel
theorem dL_does_88 : decode cL_does 88 = .ok (.aload_n 0, 1) := by decide +kernel
theorem dL_does_89 : decode cL_does 89 = .ok (.iload_n 2, 1) := by decide +kernel
theorem dL_does_90 : decode cL_does 90 = .ok (.iload_n 3, 1) := by decide +kernel
theorem dL_does_91 : decode cL_does 91 = .ok (.invokevirtual 30, 3) := by decide +kernel
theorem dL_does_94 : decode cL_does 94 = .ok (.goto 23, 3) := by decide +kernel
theorem dL_does_97 : decode cL_does 97 = .ok (.iload_n 1, 1) := by decide +kernel
theorem dL_does_98 : decode cL_does 98 = .ok (.bipush 7, 2) := by decide +kernel
theorem dL_does_100 : decode cL_does 100 = .ok (.if_icmp .ne 12, 3) := by decide +kernel
theorem dL_does_103 : decode cL_does 103 = .ok (.aload_n 0, 1) := by decide +kernel
theorem dL_does_104 : decode cL_does 104 = .ok (.iload_n 2, 1) := by decide +kernel
theorem dL_does_105 : decode cL_does 105 = .ok (.iload_n 3, 1) := by decide +kernel
theorem dL_does_106 : decode cL_does 106 = .ok (.invokevirtual 33, 3) := by decide +kernel
theorem dL_does_109 : decode cL_does 109 = .ok (.goto 8, 3) := by decide +kernel
theorem dL_does_112 : decode cL_does 112 = .ok (.aload_n 0, 1) := by decide +kernel
theorem dL_does_113 : decode cL_does 113 = .ok (.iload_n 2, 1) := by decide +kernel
theorem dL_does_114 : decode cL_does 114 = .ok (.invokevirtual 36, 3) := by decide +kernel
theorem dL_does_117 : decode cL_does 117 = .ok (.ireturn, 1) := by decide +kernel
theorem dL_does_118 : decode cL_does 118 = .ok (.astore 4, 2) := by decide +kernel
theorem dL_does_120 : decode cL_does 120 = .ok (.ldc 41, 2) := by decide +kernel
theorem dL_does_122 : decode cL_does 122 = .ok (.ireturn, 1) := by decide +kernel
theorem dL_does_123 : decode cL_does 123 = .ok (.astore 4, 2) := by decide +kernel
theorem dL_does_125 : decode cL_does 125 = .ok (.ldc 41, 2) := by decide +kernel
theorem dL_does_127 : decode cL_does 127 = .ok (.ireturn, 1) := by decide +kernel
theorem dL_does_128 : decode cL_does 128 = .ok (.astore 4, 2) := by decide +kernel
theorem dL_does_130 : decode cL_does 130 = .ok (.ldc 41, 2) := by decide +kernel
theorem dL_does_132 : decode cL_does 132 = .ok (.ireturn, 1) := by decide +kernel
set_option maxRecDepth 20000 in
theorem ggL_scan_X3_scan : GoodIn wsL_scan wsX3_scan := goodIn_ca (goodIn_ca (goodIn_ca (goodIn_r _ [9, 10, 11, 12, 13, 14, 8, 15, 16, 17, 18, 19, 20, 21, 22, 23, 24, 25, 26, 27, 28, 29, 30, 31, 32, 33, 34, 35, 36, 37, 38, 39, 40, 41, 42, 43, 44, 45, 46, 47, 48, 49, 50, 51, 52, 53, 54, 55, 56, 57, 58, 59, 60, 61, 62, 63, 64, 65, 66, 67, 68, 69, 70, 71, 72, 73, 74, 75, 76, 77, 78, 79, 80, 81, 82, 83, 84, 85, 86, 87, 88, 89, 90, 91, 92, 93, 94, 95, 96, 97, 98, 99, 100, 101, 102, 103, 104, 105, 106, 107, 108, 109, 110, 111, 112, 113, 114, 115, 116, 117, 118, 119, 120, 121, 122, 123, 124, 125, 126, 127, 128, 129, 130, 131, 132, 133, 134, 135, 136, 137, 138, 139, 140, 141, 142, 143, 144, 145, 146, 147, 148, 149, 150, 151, 152, 153, 154] (by decide +kernel) (by decide +kernel)) (goodIn_sub (fun _ h => List.mem_cons_of_mem _ (List.mem_append_left _ (List.mem_append_left _ (List.mem_append_right _ h)))) (by decide +kernel))) (goodIn_sub (fun _ h => List.mem_cons_of_mem _ (List.mem_append_left _ (List.mem_append_right _ h))) (by decide +kernel))) (goodIn_sub (fun _ h => List.mem_cons_of_mem _ (List.mem_append_right _ h)) (by decide +kernel))
set_option maxRecDepth 20000 in
theorem gL_scan_X3_scan : GoodIn wsL_scan (wsV RL 46 RX3 yX3_scan wsX3_scan) := goodIn_app (goodIn_of _ (by decide +kernel)) ggL_scan_X3_scan
theorem dL_scan_0 : decode cL_scan 0 = .ok (.aload_n 0, 1) := by decide +kernel
theorem dL_scan_1 : decode cL_scan 1 = .ok (.iload_n 1, 1) := by decide +kernel
theorem dL_scan_2 : decode cL_scan 2 = .ok (.iload_n 2, 1) := by decide +kernel
theorem dL_scan_3 : decode cL_scan 3 = .ok (.iload_n 3, 1) := by decide +kernel
theorem dL_scan_4 : decode cL_scan 4 = .ok (.invokevirtual 46, 3) := by decide +kernel
theorem dL_scan_7 : decode cL_scan 7 = .ok (.ireturn, 1) := by decide +kernel
theorem dL_scan_8 : decode cL_scan 8 = .ok (.astore 4, 2) := by decide +kernel
theorem dL_scan_10 : decode cL_scan 10 = .ok (.ldc 41, 2) := by decide +kernel
theorem dL_scan_12 : decode cL_scan 12 = .ok (.ireturn, 1) := by decide +kernel
theorem dL_scan_13 : decode cL_scan 13 = .ok (.astore 4, 2) := by decide +kernel
theorem dL_scan_15 : decode cL_scan 15 = .ok (.ldc 41, 2) := by decide +kernel
theorem dL_scan_17 : decode cL_scan 17 = .ok (.ireturn, 1) := by decide +kernel
theorem dL_scan_18 : decode cL_scan 18 = .ok (.astore 4, 2) := by decide +kernel
theorem dL_scan_20 : decode cL_scan 20 = .ok (.ldc 41, 2) := by decide +kernel
theorem dL_scan_22 : decode cL_scan 22 = .ok (.ireturn, 1) := by decide +kernel
set_option maxRecDepth 20000 in
theorem ggL_jam_X3_jam : GoodIn wsL_jam wsX3_jam := goodIn_ca (goodIn_r _ [7, 8, 9, 10, 11, 12, 6, 13, 14, 15, 16, 17, 18, 19, 20, 21, 22, 23, 24, 25, 26, 27, 28, 29, 30, 31, 32, 33, 34, 35, 36, 37, 38, 39, 40, 41, 42, 43, 44, 45, 46, 47, 48, 49, 50, 51, 52, 53, 54, 55, 56, 57, 58, 59, 60, 61, 62, 63, 64, 65, 66, 67, 68, 69, 70, 71, 72, 73, 74, 75, 76, 77, 78, 79, 80, 81, 82, 83, 84, 85, 86, 87, 88, 89, 90, 91, 92, 93, 94, 95, 96, 97, 98, 99, 100, 101, 102, 103, 104, 105, 106, 107, 108, 109, 110, 111, 112, 113, 114, 115, 116, 117, 118, 119, 120, 121, 122] (by decide +kernel) (by decide +kernel)) (goodIn_sub (fun _ h => List.mem_cons_of_mem _ (List.mem_append_right _ h)) (by decide +kernel))
set_option maxRecDepth 20000 in
theorem gL_jam_X3_jam : GoodIn wsL_jam (wsV RL 50 RX3 yX3_jam wsX3_jam) := goodIn_app (goodIn_of _ (by decide +kernel)) ggL_jam_X3_jam
theorem dL_jam_0 : decode cL_jam 0 = .ok (.aload_n 0, 1) := by decide +kernel
theorem dL_jam_1 : decode cL_jam 1 = .ok (.iload_n 1, 1) := by decide +kernel
theorem dL_jam_2 : decode cL_jam 2 = .ok (.iload_n 2, 1) := by decide +kernel
theorem dL_jam_3 : decode cL_jam 3 = .ok (.invokevirtual 50, 3) := by decide +kernel
theorem dL_jam_6 : decode cL_jam 6 = .ok (.ifCond .eq 7, 3) := by decide +kernel
theorem dL_jam_9 : decode cL_jam 9 = .ok (.iconst 1, 1) := by decide +kernel
theorem dL_jam_10 : decode cL_jam 10 = .ok (.goto 4, 3) := by decide +kernel
theorem dL_jam_13 : decode cL_jam 13 = .ok (.iconst 0, 1) := by decide +kernel
theorem dL_jam_14 : decode cL_jam 14 = .ok (.ireturn, 1) := by decide +kernel
theorem dL_jam_15 : decode cL_jam 15 = .ok (.astore_n 3, 1) := by decide +kernel
theorem dL_jam_16 : decode cL_jam 16 = .ok (.ldc 41, 2) := by decide +kernel
theorem dL_jam_18 : decode cL_jam 18 = .ok (.ireturn, 1) := by decide +kernel
set_option maxRecDepth 20000 in
theorem ggL_of_X3_scans : GoodIn wsL_of wsX3_scans := goodIn_ca (goodIn_r _ [7, 8, 9, 10, 11, 6, 12, 13, 14, 15, 127, 128, 129, 130, 131, 132, 133, 134, 135, 136, 137, 138, 139, 140, 141, 142, 143, 144, 145, 146] (by decide +kernel) (by decide +kernel)) (goodIn_sub (fun _ h => List.mem_cons_of_mem _ (List.mem_append_right _ h)) (by decide +kernel))
set_option maxRecDepth 20000 in
theorem gL_of_X3_scans : GoodIn wsL_of (wsV RL 54 RX3 yX3_scans wsX3_scans) := goodIn_app (goodIn_of _ (by decide +kernel)) ggL_of_X3_scans
set_option maxRecDepth 20000 in
theorem ggL_of_X3_story : GoodIn wsL_of wsX3_story := goodIn_ca (goodIn_r _ [19, 20, 9, 10, 11, 6, 12, 13, 14, 15, 127, 128, 129, 130, 131, 132, 133, 134, 135, 136, 137, 138, 139, 140, 141, 142, 143, 144, 145, 146] (by decide +kernel) (by decide +kernel)) (goodIn_sub (fun _ h => List.mem_cons_of_mem _ (List.mem_append_right _ h)) (by decide +kernel))
set_option maxRecDepth 20000 in
theorem gL_of_X3_story : GoodIn wsL_of (wsV RL 57 RX3 yX3_story wsX3_story) := goodIn_app (goodIn_of _ (by decide +kernel)) ggL_of_X3_story
set_option maxRecDepth 20000 in
theorem ggL_of_X3_storyOfAll : GoodIn wsL_of wsX3_storyOfAll := goodIn_ca (goodIn_r _ [24, 25, 9, 10, 11, 6, 12, 13, 14, 15, 26, 27, 28, 29, 8, 30, 31, 32, 33, 34, 35, 36, 37, 38, 39, 40, 41, 42, 43, 44, 45, 46, 47, 48, 49, 50, 51, 52, 53, 138, 139, 140, 141, 142, 143, 144, 145, 146, 127, 128, 129, 130, 131, 132, 133, 134, 135, 136, 137, 147, 148, 149, 150, 151] (by decide +kernel) (by decide +kernel)) (goodIn_sub (fun _ h => List.mem_cons_of_mem _ (List.mem_append_right _ h)) (by decide +kernel))
set_option maxRecDepth 20000 in
theorem gL_of_X3_storyOfAll : GoodIn wsL_of (wsV RL 60 RX3 yX3_storyOfAll wsX3_storyOfAll) := goodIn_app (goodIn_of _ (by decide +kernel)) ggL_of_X3_storyOfAll
set_option maxRecDepth 20000 in
theorem ggL_of_X3_hasFee : GoodIn wsL_of wsX3_hasFee := goodIn_ca (goodIn_r _ [57, 58, 9, 10, 11, 6, 12, 13, 14, 15, 127, 128, 129, 130, 131, 132, 133, 134, 135, 136, 137, 138, 139, 140, 141, 142, 143, 144, 145, 146] (by decide +kernel) (by decide +kernel)) (goodIn_sub (fun _ h => List.mem_cons_of_mem _ (List.mem_append_right _ h)) (by decide +kernel))
set_option maxRecDepth 20000 in
theorem gL_of_X3_hasFee : GoodIn wsL_of (wsV RL 63 RX3 yX3_hasFee wsX3_hasFee) := goodIn_app (goodIn_of _ (by decide +kernel)) ggL_of_X3_hasFee
set_option maxRecDepth 20000 in
theorem ggL_of_X3_isInsured : GoodIn wsL_of wsX3_isInsured := goodIn_ca (goodIn_r _ [62, 63, 9, 10, 11, 6, 12, 13, 14, 15, 127, 128, 129, 130, 131, 132, 133, 134, 135, 136, 137, 138, 139, 140, 141, 142, 143, 144, 145, 146] (by decide +kernel) (by decide +kernel)) (goodIn_sub (fun _ h => List.mem_cons_of_mem _ (List.mem_append_right _ h)) (by decide +kernel))
set_option maxRecDepth 20000 in
theorem gL_of_X3_isInsured : GoodIn wsL_of (wsV RL 67 RX3 yX3_isInsured wsX3_isInsured) := goodIn_app (goodIn_of _ (by decide +kernel)) ggL_of_X3_isInsured
set_option maxRecDepth 20000 in
theorem ggL_of_X3_fine : GoodIn wsL_of wsX3_fine := goodIn_ca (goodIn_r _ [67, 68, 44, 45, 46, 47, 9, 10, 11, 6, 12, 13, 14, 15, 69, 70, 71, 51, 72, 73, 74, 75, 76, 77, 78, 79, 80, 81, 82, 38, 39, 40, 83, 84, 85, 86, 87, 88, 138, 139, 140, 141, 142, 143, 144, 145, 146, 127, 128, 129, 130, 131, 132, 133, 134, 135, 136, 137] (by decide +kernel) (by decide +kernel)) (goodIn_sub (fun _ h => List.mem_cons_of_mem _ (List.mem_append_right _ h)) (by decide +kernel))
set_option maxRecDepth 20000 in
theorem gL_of_X3_fine : GoodIn wsL_of (wsV RL 70 RX3 yX3_fine wsX3_fine) := goodIn_app (goodIn_of _ (by decide +kernel)) ggL_of_X3_fine
set_option maxRecDepth 20000 in
theorem ggL_of_X3_isJammed : GoodIn wsL_of wsX3_isJammed := goodIn_ca (goodIn_r _ [92, 36, 93, 94, 95, 6, 96, 13, 14, 35, 147, 148, 149, 150, 151, 138, 139, 140, 141, 142, 143, 144, 145, 146] (by decide +kernel) (by decide +kernel)) (goodIn_sub (fun _ h => List.mem_cons_of_mem _ (List.mem_append_right _ h)) (by decide +kernel))
set_option maxRecDepth 20000 in
theorem gL_of_X3_isJammed : GoodIn wsL_of (wsV RL 73 RX3 yX3_isJammed wsX3_isJammed) := goodIn_app (goodIn_of _ (by decide +kernel)) ggL_of_X3_isJammed
set_option maxRecDepth 20000 in
theorem ggL_of_X3_keptFor : GoodIn wsL_of wsX3_keptFor := goodIn_ca (goodIn_r _ [100, 101, 93, 94, 95, 6, 96, 13, 14, 35, 147, 148, 149, 150, 151, 138, 139, 140, 141, 142, 143, 144, 145, 146] (by decide +kernel) (by decide +kernel)) (goodIn_sub (fun _ h => List.mem_cons_of_mem _ (List.mem_append_right _ h)) (by decide +kernel))
set_option maxRecDepth 20000 in
theorem gL_of_X3_keptFor : GoodIn wsL_of (wsV RL 76 RX3 yX3_keptFor wsX3_keptFor) := goodIn_app (goodIn_of _ (by decide +kernel)) ggL_of_X3_keptFor
set_option maxRecDepth 20000 in
theorem ggL_of_X3_placeOf : GoodIn wsL_of wsX3_placeOf := goodIn_ca (goodIn_r _ [105, 9, 10, 11, 6, 12, 13, 14, 15, 69, 70, 71, 51, 72, 73, 74, 75, 76, 77, 78, 79, 138, 139, 140, 141, 142, 143, 144, 145, 146, 127, 128, 129, 130, 131, 132, 133, 134, 135, 136, 137] (by decide +kernel) (by decide +kernel)) (goodIn_sub (fun _ h => List.mem_cons_of_mem _ (List.mem_append_right _ h)) (by decide +kernel))
set_option maxRecDepth 20000 in
theorem gL_of_X3_placeOf : GoodIn wsL_of (wsV RL 79 RX3 yX3_placeOf wsX3_placeOf) := goodIn_app (goodIn_of _ (by decide +kernel)) ggL_of_X3_placeOf
set_option maxRecDepth 20000 in
theorem ggL_of_X3_lies : GoodIn wsL_of wsX3_lies := goodIn_ca (goodIn_r _ [109, 15, 110, 111, 6, 112, 13, 14, 113, 114, 115, 51, 116, 73, 117, 75, 76, 77, 78, 79, 138, 139, 140, 141, 142, 143, 144, 145, 146, 127, 128, 129, 130, 131, 132, 133, 134, 135, 136, 137] (by decide +kernel) (by decide +kernel)) (goodIn_sub (fun _ h => List.mem_cons_of_mem _ (List.mem_append_right _ h)) (by decide +kernel))
set_option maxRecDepth 20000 in
theorem gL_of_X3_lies : GoodIn wsL_of (wsV RL 82 RX3 yX3_lies wsX3_lies) := goodIn_app (goodIn_of _ (by decide +kernel)) ggL_of_X3_lies
set_option maxRecDepth 20000 in
theorem ggL_of_X3_fees : GoodIn wsL_of wsX3_fees := goodIn_ca (goodIn_r _ [121, 122, 123, 124, 125, 6, 126, 13, 14, 138, 139, 140, 141, 142, 143, 144, 145, 146, 152, 153, 154] (by decide +kernel) (by decide +kernel)) (goodIn_sub (fun _ h => List.mem_cons_of_mem _ (List.mem_append_right _ h)) (by decide +kernel))
set_option maxRecDepth 20000 in
theorem gL_of_X3_fees : GoodIn wsL_of (wsV RL 85 RX3 yX3_fees wsX3_fees) := goodIn_app (goodIn_of _ (by decide +kernel)) ggL_of_X3_fees
theorem dL_of_0 : decode cL_of 0 = .ok (.iload_n 1, 1) := by decide +kernel
theorem dL_of_1 : decode cL_of 1 = .ok (.ifCond .ne 11, 3) := by decide +kernel
theorem dL_of_4 : decode cL_of 4 = .ok (.aload_n 0, 1) := by decide +kernel
theorem dL_of_5 : decode cL_of 5 = .ok (.iload_n 2, 1) := by decide +kernel
theorem dL_of_6 : decode cL_of 6 = .ok (.invokevirtual 54, 3) := by decide +kernel
theorem dL_of_9 : decode cL_of 9 = .ok (.goto 153, 3) := by decide +kernel
theorem dL_of_12 : decode cL_of 12 = .ok (.iload_n 1, 1) := by decide +kernel
theorem dL_of_13 : decode cL_of 13 = .ok (.iconst 1, 1) := by decide +kernel
theorem dL_of_14 : decode cL_of 14 = .ok (.if_icmp .ne 11, 3) := by decide +kernel
theorem dL_of_17 : decode cL_of 17 = .ok (.aload_n 0, 1) := by decide +kernel
theorem dL_of_18 : decode cL_of 18 = .ok (.iload_n 2, 1) := by decide +kernel
theorem dL_of_19 : decode cL_of 19 = .ok (.invokevirtual 57, 3) := by decide +kernel
theorem dL_of_22 : decode cL_of 22 = .ok (.goto 140, 3) := by decide +kernel
theorem dL_of_25 : decode cL_of 25 = .ok (.iload_n 1, 1) := by decide +kernel
theorem dL_of_26 : decode cL_of 26 = .ok (.iconst 2, 1) := by decide +kernel
theorem dL_of_27 : decode cL_of 27 = .ok (.if_icmp .ne 11, 3) := by decide +kernel
theorem dL_of_30 : decode cL_of 30 = .ok (.aload_n 0, 1) := by decide +kernel
theorem dL_of_31 : decode cL_of 31 = .ok (.iload_n 2, 1) := by decide +kernel
theorem dL_of_32 : decode cL_of 32 = .ok (.invokevirtual 60, 3) := by decide +kernel
theorem dL_of_35 : decode cL_of 35 = .ok (.goto 127, 3) := by decide +kernel
theorem dL_of_38 : decode cL_of 38 = .ok (.iload_n 1, 1) := by decide +kernel
theorem dL_of_39 : decode cL_of 39 = .ok (.iconst 3, 1) := by decide +kernel
theorem dL_of_40 : decode cL_of 40 = .ok (.if_icmp .ne 19, 3) := by decide +kernel
theorem dL_of_43 : decode cL_of 43 = .ok (.aload_n 0, 1) := by decide +kernel
theorem dL_of_44 : decode cL_of 44 = .ok (.iload_n 2, 1) := by decide +kernel
theorem dL_of_45 : decode cL_of 45 = .ok (.invokevirtual 63, 3) := by decide +kernel
theorem dL_of_48 : decode cL_of 48 = .ok (.ifCond .eq 7, 3) := by decide +kernel
theorem dL_of_51 : decode cL_of 51 = .ok (.iconst 1, 1) := by decide +kernel
theorem dL_of_52 : decode cL_of 52 = .ok (.goto 110, 3) := by decide +kernel
theorem dL_of_55 : decode cL_of 55 = .ok (.iconst 0, 1) := by decide +kernel
theorem dL_of_56 : decode cL_of 56 = .ok (.goto 106, 3) := by decide +kernel
theorem dL_of_59 : decode cL_of 59 = .ok (.iload_n 1, 1) := by decide +kernel
theorem dL_of_60 : decode cL_of 60 = .ok (.iconst 4, 1) := by decide +kernel
theorem dL_of_61 : decode cL_of 61 = .ok (.if_icmp .ne 19, 3) := by decide +kernel
theorem dL_of_64 : decode cL_of 64 = .ok (.aload_n 0, 1) := by decide +kernel
theorem dL_of_65 : decode cL_of 65 = .ok (.iload_n 2, 1) := by decide +kernel
theorem dL_of_66 : decode cL_of 66 = .ok (.invokevirtual 67, 3) := by decide +kernel
theorem dL_of_69 : decode cL_of 69 = .ok (.ifCond .eq 7, 3) := by decide +kernel
theorem dL_of_72 : decode cL_of 72 = .ok (.iconst 1, 1) := by decide +kernel
theorem dL_of_73 : decode cL_of 73 = .ok (.goto 89, 3) := by decide +kernel
theorem dL_of_76 : decode cL_of 76 = .ok (.iconst 0, 1) := by decide +kernel
theorem dL_of_77 : decode cL_of 77 = .ok (.goto 85, 3) := by decide +kernel
theorem dL_of_80 : decode cL_of 80 = .ok (.iload_n 1, 1) := by decide +kernel
theorem dL_of_81 : decode cL_of 81 = .ok (.iconst 5, 1) := by decide +kernel
theorem dL_of_82 : decode cL_of 82 = .ok (.if_icmp .ne 11, 3) := by decide +kernel
theorem dL_of_85 : decode cL_of 85 = .ok (.aload_n 0, 1) := by decide +kernel
theorem dL_of_86 : decode cL_of 86 = .ok (.iload_n 2, 1) := by decide +kernel
theorem dL_of_87 : decode cL_of 87 = .ok (.invokevirtual 70, 3) := by decide +kernel
theorem dL_of_90 : decode cL_of 90 = .ok (.goto 72, 3) := by decide +kernel
theorem dL_of_93 : decode cL_of 93 = .ok (.iload_n 1, 1) := by decide +kernel
theorem dL_of_94 : decode cL_of 94 = .ok (.bipush 6, 2) := by decide +kernel
theorem dL_of_96 : decode cL_of 96 = .ok (.if_icmp .ne 19, 3) := by decide +kernel
theorem dL_of_99 : decode cL_of 99 = .ok (.aload_n 0, 1) := by decide +kernel
theorem dL_of_100 : decode cL_of 100 = .ok (.iload_n 2, 1) := by decide +kernel
theorem dL_of_101 : decode cL_of 101 = .ok (.invokevirtual 73, 3) := by decide +kernel
theorem dL_of_104 : decode cL_of 104 = .ok (.ifCond .eq 7, 3) := by decide +kernel
theorem dL_of_107 : decode cL_of 107 = .ok (.iconst 1, 1) := by decide +kernel
theorem dL_of_108 : decode cL_of 108 = .ok (.goto 54, 3) := by decide +kernel
theorem dL_of_111 : decode cL_of 111 = .ok (.iconst 0, 1) := by decide +kernel
theorem dL_of_112 : decode cL_of 112 = .ok (.goto 50, 3) := by decide +kernel
theorem dL_of_115 : decode cL_of 115 = .ok (.iload_n 1, 1) := by decide +kernel
theorem dL_of_116 : decode cL_of 116 = .ok (.bipush 7, 2) := by decide +kernel
theorem dL_of_118 : decode cL_of 118 = .ok (.if_icmp .ne 11, 3) := by decide +kernel
theorem dL_of_121 : decode cL_of 121 = .ok (.aload_n 0, 1) := by decide +kernel
theorem dL_of_122 : decode cL_of 122 = .ok (.iload_n 2, 1) := by decide +kernel
theorem dL_of_123 : decode cL_of 123 = .ok (.invokevirtual 76, 3) := by decide +kernel
theorem dL_of_126 : decode cL_of 126 = .ok (.goto 36, 3) := by decide +kernel
theorem dL_of_129 : decode cL_of 129 = .ok (.iload_n 1, 1) := by decide +kernel
theorem dL_of_130 : decode cL_of 130 = .ok (.bipush 8, 2) := by decide +kernel
theorem dL_of_132 : decode cL_of 132 = .ok (.if_icmp .ne 11, 3) := by decide +kernel
theorem dL_of_135 : decode cL_of 135 = .ok (.aload_n 0, 1) := by decide +kernel
theorem dL_of_136 : decode cL_of 136 = .ok (.iload_n 2, 1) := by decide +kernel
theorem dL_of_137 : decode cL_of 137 = .ok (.invokevirtual 79, 3) := by decide +kernel
theorem dL_of_140 : decode cL_of 140 = .ok (.goto 22, 3) := by decide +kernel
theorem dL_of_143 : decode cL_of 143 = .ok (.iload_n 1, 1) := by decide +kernel
theorem dL_of_144 : decode cL_of 144 = .ok (.bipush 9, 2) := by decide +kernel
theorem dL_of_146 : decode cL_of 146 = .ok (.if_icmp .ne 11, 3) := by decide +kernel
theorem dL_of_149 : decode cL_of 149 = .ok (.aload_n 0, 1) := by decide +kernel
theorem dL_of_150 : decode cL_of 150 = .ok (.iload_n 2, 1) := by decide +kernel
theorem dL_of_151 : decode cL_of 151 = .ok (.invokevirtual 82, 3) := by decide +kernel
theorem dL_of_154 : decode cL_of 154 = .ok (.goto 8, 3) := by decide +kernel
theorem dL_of_157 : decode cL_of 157 = .ok (.aload_n 0, 1) := by decide +kernel
theorem dL_of_158 : decode cL_of 158 = .ok (.iload_n 2, 1) := by decide +kernel
theorem dL_of_159 : decode cL_of 159 = .ok (.invokevirtual 85, 3) := by decide +kernel
theorem dL_of_162 : decode cL_of 162 = .ok (.ireturn, 1) := by decide +kernel
theorem dL_of_163 : decode cL_of 163 = .ok (.astore_n 3, 1) := by decide +kernel
theorem dL_of_164 : decode cL_of 164 = .ok (.ldc 41, 2) := by decide +kernel
theorem dL_of_166 : decode cL_of 166 = .ok (.ireturn, 1) := by decide +kernel
theorem dL_there_0 : decode cL_there 0 = .ok (.iload_n 0, 1) := by decide +kernel
theorem dL_there_1 : decode cL_there 1 = .ok (.iconst 4, 1) := by decide +kernel
theorem dL_there_2 : decode cL_there 2 = .ok (.if_icmp .ge 11, 3) := by decide +kernel
theorem dL_there_5 : decode cL_there 5 = .ok (.iload_n 0, 1) := by decide +kernel
theorem dL_there_6 : decode cL_there 6 = .ok (.iload_n 1, 1) := by decide +kernel
theorem dL_there_7 : decode cL_there 7 = .ok (.iadd, 1) := by decide +kernel
theorem dL_there_8 : decode cL_there 8 = .ok (.iconst 4, 1) := by decide +kernel
theorem dL_there_9 : decode cL_there 9 = .ok (.irem, 1) := by decide +kernel
theorem dL_there_10 : decode cL_there 10 = .ok (.goto 4, 3) := by decide +kernel
theorem dL_there_13 : decode cL_there 13 = .ok (.iload_n 0, 1) := by decide +kernel
theorem dL_there_14 : decode cL_there 14 = .ok (.ireturn, 1) := by decide +kernel
set_option maxRecDepth 20000 in
theorem ggL_place_L_there : GoodIn wsL_place wsL_there := goodIn_r _ [4] (by decide +kernel) (by decide +kernel)
set_option maxRecDepth 20000 in
theorem gL_place_L_there : GoodIn wsL_place (va_wsS RL 88 yL_there wsL_there) := goodIn_app (goodIn_of _ (by decide +kernel)) ggL_place_L_there
theorem dL_place_0 : decode cL_place 0 = .ok (.iload_n 0, 1) := by decide +kernel
theorem dL_place_1 : decode cL_place 1 = .ok (.ifCond .le 20, 3) := by decide +kernel
theorem dL_place_4 : decode cL_place 4 = .ok (.iload_n 0, 1) := by decide +kernel
theorem dL_place_5 : decode cL_place 5 = .ok (.iconst 5, 1) := by decide +kernel
theorem dL_place_6 : decode cL_place 6 = .ok (.if_icmp .ge 15, 3) := by decide +kernel
theorem dL_place_9 : decode cL_place 9 = .ok (.iconst 1, 1) := by decide +kernel
theorem dL_place_10 : decode cL_place 10 = .ok (.iload_n 0, 1) := by decide +kernel
theorem dL_place_11 : decode cL_place 11 = .ok (.iconst 1, 1) := by decide +kernel
theorem dL_place_12 : decode cL_place 12 = .ok (.isub, 1) := by decide +kernel
theorem dL_place_13 : decode cL_place 13 = .ok (.iload_n 1, 1) := by decide +kernel
theorem dL_place_14 : decode cL_place 14 = .ok (.invokestatic 88, 3) := by decide +kernel
theorem dL_place_17 : decode cL_place 17 = .ok (.iadd, 1) := by decide +kernel
theorem dL_place_18 : decode cL_place 18 = .ok (.goto 4, 3) := by decide +kernel
theorem dL_place_21 : decode cL_place 21 = .ok (.iload_n 0, 1) := by decide +kernel
theorem dL_place_22 : decode cL_place 22 = .ok (.ireturn, 1) := by decide +kernel
