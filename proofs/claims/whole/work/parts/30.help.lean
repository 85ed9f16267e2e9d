theorem dJ9_max_7cf53_0 : decode cJ9_max_7cf53 0 = .ok (.iload_n 0, 1) := by decide +kernel
theorem dJ9_max_7cf53_1 : decode cJ9_max_7cf53 1 = .ok (.iload_n 1, 1) := by decide +kernel
theorem dJ9_max_7cf53_2 : decode cJ9_max_7cf53 2 = .ok (.if_icmp .lt 7, 3) := by decide +kernel
theorem dJ9_max_7cf53_5 : decode cJ9_max_7cf53 5 = .ok (.iload_n 0, 1) := by decide +kernel
theorem dJ9_max_7cf53_6 : decode cJ9_max_7cf53 6 = .ok (.goto 4, 3) := by decide +kernel
theorem dJ9_max_7cf53_9 : decode cJ9_max_7cf53 9 = .ok (.iload_n 1, 1) := by decide +kernel
theorem dJ9_max_7cf53_10 : decode cJ9_max_7cf53 10 = .ok (.ireturn, 1) := by decide +kernel
set_option maxRecDepth 20000 in
theorem ggL_box_X3_box : GoodIn wsL_box wsX3_box := goodIn_ca (goodIn_ca (goodIn_r _ [7, 8, 9, 10, 11, 12, 13, 14, 15, 16, 17, 18, 6, 19, 20, 21, 22, 23, 24, 25, 26, 27, 28, 29, 30, 31, 32, 33, 34, 35, 36, 37, 38, 39, 40, 41, 42, 43, 44, 45, 46, 47, 48, 49, 50, 51, 52, 53, 54, 55, 56, 57] (by decide +kernel) (by decide +kernel)) (goodIn_sub (fun _ h => List.mem_cons_of_mem _ (List.mem_append_left _ (List.mem_append_right _ h))) (by decide +kernel))) (goodIn_sub (fun _ h => List.mem_cons_of_mem _ (List.mem_append_right _ h)) (by decide +kernel))
set_option maxRecDepth 20000 in
theorem gL_box_X3_box : GoodIn wsL_box (wsV RL 7 RX3 yX3_box wsX3_box) := goodIn_app (goodIn_of _ (by decide +kernel)) ggL_box_X3_box
theorem dL_box_0 : decode cL_box 0 = .ok (.aload_n 3, 1) := by decide +kernel
theorem dL_box_1 : decode cL_box 1 = .ok (.iconst 0, 1) := by decide +kernel
theorem dL_box_2 : decode cL_box 2 = .ok (.aload_n 0, 1) := by decide +kernel
theorem dL_box_3 : decode cL_box 3 = .ok (.iload_n 1, 1) := by decide +kernel
theorem dL_box_4 : decode cL_box 4 = .ok (.iload_n 2, 1) := by decide +kernel
theorem dL_box_5 : decode cL_box 5 = .ok (.invokevirtual 7, 3) := by decide +kernel
theorem dL_box_8 : decode cL_box 8 = .ok (.i2l, 1) := by decide +kernel
theorem dL_box_9 : decode cL_box 9 = .ok (.lastore, 1) := by decide +kernel
theorem dL_box_10 : decode cL_box 10 = .ok (.goto 11, 3) := by decide +kernel
theorem dL_box_13 : decode cL_box 13 = .ok (.astore 4, 2) := by decide +kernel
theorem dL_box_15 : decode cL_box 15 = .ok (.iconst 1, 1) := by decide +kernel
theorem dL_box_16 : decode cL_box 16 = .ok (.ireturn, 1) := by decide +kernel
theorem dL_box_17 : decode cL_box 17 = .ok (.astore 4, 2) := by decide +kernel
theorem dL_box_19 : decode cL_box 19 = .ok (.iconst 2, 1) := by decide +kernel
theorem dL_box_20 : decode cL_box 20 = .ok (.ireturn, 1) := by decide +kernel
theorem dL_box_21 : decode cL_box 21 = .ok (.iconst 0, 1) := by decide +kernel
theorem dL_box_22 : decode cL_box 22 = .ok (.ireturn, 1) := by decide +kernel
set_option maxRecDepth 20000 in
theorem ggL_setTrust_X3_setTrust : GoodIn wsL_setTrust wsX3_setTrust := goodIn_ca (goodIn_ca (goodIn_r _ [7, 8, 9, 10, 11, 12, 6, 13, 14, 15, 16, 17, 18, 19, 20, 21, 22, 23, 24, 25, 26, 27, 28, 29, 30, 31, 32, 33, 34, 35, 36, 37, 38, 39, 40, 41, 42, 43, 44, 45, 46, 47, 48, 49, 50, 51, 52, 53, 54, 55, 56, 57, 58, 59, 60, 61, 62, 63, 64, 65, 66, 67, 68, 69, 70, 71, 72, 73, 74, 75, 76, 77, 78, 79, 80, 81, 82, 83, 84, 85, 86, 87, 88, 89, 90, 91, 92, 93, 94, 95, 96, 97, 98, 99, 100, 101, 102, 103, 104, 105, 106, 107, 108, 109, 110, 111, 112, 113, 114, 115, 116, 117, 118, 119, 120, 121, 122] (by decide +kernel) (by decide +kernel)) (goodIn_sub (fun _ h => List.mem_cons_of_mem _ (List.mem_append_left _ (List.mem_append_right _ h))) (by decide +kernel))) (goodIn_sub (fun _ h => List.mem_cons_of_mem _ (List.mem_append_right _ h)) (by decide +kernel))
set_option maxRecDepth 20000 in
theorem gL_setTrust_X3_setTrust : GoodIn wsL_setTrust (wsV RL 17 RX3 yX3_setTrust wsX3_setTrust) := goodIn_app (goodIn_of _ (by decide +kernel)) ggL_setTrust_X3_setTrust
theorem dL_setTrust_0 : decode cL_setTrust 0 = .ok (.aload_n 3, 1) := by decide +kernel
theorem dL_setTrust_1 : decode cL_setTrust 1 = .ok (.iconst 0, 1) := by decide +kernel
theorem dL_setTrust_2 : decode cL_setTrust 2 = .ok (.aload_n 0, 1) := by decide +kernel
theorem dL_setTrust_3 : decode cL_setTrust 3 = .ok (.iload_n 1, 1) := by decide +kernel
theorem dL_setTrust_4 : decode cL_setTrust 4 = .ok (.iload_n 2, 1) := by decide +kernel
theorem dL_setTrust_5 : decode cL_setTrust 5 = .ok (.invokevirtual 17, 3) := by decide +kernel
theorem dL_setTrust_8 : decode cL_setTrust 8 = .ok (.i2l, 1) := by decide +kernel
theorem dL_setTrust_9 : decode cL_setTrust 9 = .ok (.lastore, 1) := by decide +kernel
theorem dL_setTrust_10 : decode cL_setTrust 10 = .ok (.goto 11, 3) := by decide +kernel
theorem dL_setTrust_13 : decode cL_setTrust 13 = .ok (.astore 4, 2) := by decide +kernel
theorem dL_setTrust_15 : decode cL_setTrust 15 = .ok (.iconst 1, 1) := by decide +kernel
theorem dL_setTrust_16 : decode cL_setTrust 16 = .ok (.ireturn, 1) := by decide +kernel
theorem dL_setTrust_17 : decode cL_setTrust 17 = .ok (.astore 4, 2) := by decide +kernel
theorem dL_setTrust_19 : decode cL_setTrust 19 = .ok (.iconst 2, 1) := by decide +kernel
theorem dL_setTrust_20 : decode cL_setTrust 20 = .ok (.ireturn, 1) := by decide +kernel
theorem dL_setTrust_21 : decode cL_setTrust 21 = .ok (.iconst 0, 1) := by decide +kernel
theorem dL_setTrust_22 : decode cL_setTrust 22 = .ok (.ireturn, 1) := by decide +kernel
set_option maxRecDepth 20000 in
theorem ggL_pass_X3_pass : GoodIn wsL_pass wsX3_pass := goodIn_ca (goodIn_ca (goodIn_r _ [7, 8, 9, 10, 11, 12, 13, 14, 15, 6, 16, 17, 18, 19, 20, 21, 22, 23, 24, 25] (by decide +kernel) (by decide +kernel)) (goodIn_sub (fun _ h => List.mem_cons_of_mem _ (List.mem_append_left _ (List.mem_append_right _ h))) (by decide +kernel))) (goodIn_sub (fun _ h => List.mem_cons_of_mem _ (List.mem_append_right _ h)) (by decide +kernel))
set_option maxRecDepth 20000 in
theorem gL_pass_X3_pass : GoodIn wsL_pass (wsV RL 22 RX3 yX3_pass wsX3_pass) := goodIn_app (goodIn_of _ (by decide +kernel)) ggL_pass_X3_pass
theorem dL_pass_0 : decode cL_pass 0 = .ok (.aload_n 2, 1) := by decide +kernel
theorem dL_pass_1 : decode cL_pass 1 = .ok (.iconst 0, 1) := by decide +kernel
theorem dL_pass_2 : decode cL_pass 2 = .ok (.aload_n 0, 1) := by decide +kernel
theorem dL_pass_3 : decode cL_pass 3 = .ok (.iload_n 1, 1) := by decide +kernel
theorem dL_pass_4 : decode cL_pass 4 = .ok (.invokevirtual 22, 3) := by decide +kernel
theorem dL_pass_7 : decode cL_pass 7 = .ok (.i2l, 1) := by decide +kernel
theorem dL_pass_8 : decode cL_pass 8 = .ok (.lastore, 1) := by decide +kernel
theorem dL_pass_9 : decode cL_pass 9 = .ok (.goto 9, 3) := by decide +kernel
theorem dL_pass_12 : decode cL_pass 12 = .ok (.astore_n 3, 1) := by decide +kernel
theorem dL_pass_13 : decode cL_pass 13 = .ok (.iconst 1, 1) := by decide +kernel
theorem dL_pass_14 : decode cL_pass 14 = .ok (.ireturn, 1) := by decide +kernel
theorem dL_pass_15 : decode cL_pass 15 = .ok (.astore_n 3, 1) := by decide +kernel
theorem dL_pass_16 : decode cL_pass 16 = .ok (.iconst 2, 1) := by decide +kernel
theorem dL_pass_17 : decode cL_pass 17 = .ok (.ireturn, 1) := by decide +kernel
theorem dL_pass_18 : decode cL_pass 18 = .ok (.iconst 0, 1) := by decide +kernel
theorem dL_pass_19 : decode cL_pass 19 = .ok (.ireturn, 1) := by decide +kernel
set_option maxRecDepth 20000 in
theorem ggL_scan_X3_scan : GoodIn wsL_scan wsX3_scan := goodIn_ca (goodIn_ca (goodIn_ca (goodIn_r _ [8, 9, 10, 11, 12, 13, 7, 14, 15, 16, 17, 18, 19, 20, 21, 22, 23, 24, 25, 26, 27, 28, 29, 30, 31, 32, 33, 34, 35, 36, 37, 38, 39, 40, 41, 42, 43, 44, 45, 46, 47, 48, 49, 50, 51, 52, 53, 54, 55, 56, 57, 58, 59, 60, 61, 62, 63, 64, 65, 66, 67, 68, 69, 70, 71, 72, 73, 74, 75, 76, 77, 78, 79, 80, 81, 82, 83, 84, 85, 86, 87, 88, 89, 90, 91, 92, 93, 94, 95, 96, 97, 98, 99, 100, 101, 102, 103, 104, 105, 106, 107, 108, 109, 110, 111, 112, 113, 114, 115, 116, 117, 118, 119, 120, 121, 122, 123, 124, 125, 126, 127, 128, 129, 130, 131, 132, 133, 134, 135, 136, 137, 138, 139, 140, 141, 142, 143, 144, 145, 146, 147, 148, 149, 150, 151, 152, 153] (by decide +kernel) (by decide +kernel)) (goodIn_sub (fun _ h => List.mem_cons_of_mem _ (List.mem_append_left _ (List.mem_append_left _ (List.mem_append_right _ h)))) (by decide +kernel))) (goodIn_sub (fun _ h => List.mem_cons_of_mem _ (List.mem_append_left _ (List.mem_append_right _ h))) (by decide +kernel))) (goodIn_sub (fun _ h => List.mem_cons_of_mem _ (List.mem_append_right _ h)) (by decide +kernel))
set_option maxRecDepth 20000 in
theorem gL_scan_X3_scan : GoodIn wsL_scan (wsV RL 26 RX3 yX3_scan wsX3_scan) := goodIn_app (goodIn_of _ (by decide +kernel)) ggL_scan_X3_scan
theorem dL_scan_0 : decode cL_scan 0 = .ok (.aload 4, 2) := by decide +kernel
theorem dL_scan_2 : decode cL_scan 2 = .ok (.iconst 0, 1) := by decide +kernel
theorem dL_scan_3 : decode cL_scan 3 = .ok (.aload_n 0, 1) := by decide +kernel
theorem dL_scan_4 : decode cL_scan 4 = .ok (.iload_n 1, 1) := by decide +kernel
theorem dL_scan_5 : decode cL_scan 5 = .ok (.iload_n 2, 1) := by decide +kernel
theorem dL_scan_6 : decode cL_scan 6 = .ok (.iload_n 3, 1) := by decide +kernel
theorem dL_scan_7 : decode cL_scan 7 = .ok (.invokevirtual 26, 3) := by decide +kernel
theorem dL_scan_10 : decode cL_scan 10 = .ok (.i2l, 1) := by decide +kernel
theorem dL_scan_11 : decode cL_scan 11 = .ok (.lastore, 1) := by decide +kernel
theorem dL_scan_12 : decode cL_scan 12 = .ok (.goto 15, 3) := by decide +kernel
theorem dL_scan_15 : decode cL_scan 15 = .ok (.astore 5, 2) := by decide +kernel
theorem dL_scan_17 : decode cL_scan 17 = .ok (.iconst 1, 1) := by decide +kernel
theorem dL_scan_18 : decode cL_scan 18 = .ok (.ireturn, 1) := by decide +kernel
theorem dL_scan_19 : decode cL_scan 19 = .ok (.astore 5, 2) := by decide +kernel
theorem dL_scan_21 : decode cL_scan 21 = .ok (.iconst 2, 1) := by decide +kernel
theorem dL_scan_22 : decode cL_scan 22 = .ok (.ireturn, 1) := by decide +kernel
theorem dL_scan_23 : decode cL_scan 23 = .ok (.astore 5, 2) := by decide +kernel
theorem dL_scan_25 : decode cL_scan 25 = .ok (.iconst 3, 1) := by decide +kernel
theorem dL_scan_26 : decode cL_scan 26 = .ok (.ireturn, 1) := by decide +kernel
theorem dL_scan_27 : decode cL_scan 27 = .ok (.iconst 0, 1) := by decide +kernel
theorem dL_scan_28 : decode cL_scan 28 = .ok (.ireturn, 1) := by decide +kernel
set_option maxRecDepth 20000 in
theorem ggL_lay_X3_lay : GoodIn wsL_lay wsX3_lay := goodIn_ca (goodIn_ca (goodIn_r _ [7, 8, 9, 10, 11, 12, 13, 14, 6, 15, 16, 17, 18, 19, 20, 21, 22, 23, 24, 25, 26, 27, 28, 29, 30, 31, 32, 33, 34, 35, 36, 37, 38, 39, 40, 41, 42, 43, 44, 45, 46, 47, 48, 49, 50, 51, 52, 53, 54, 55, 56, 57, 58, 59, 60, 61, 62, 63, 64, 65, 66, 67, 68, 69, 70, 71, 72, 73, 74, 75, 76, 77, 78, 79, 80, 81, 82, 83, 84, 85, 86, 87, 88, 89, 90, 91, 92, 93, 94, 95, 96, 97, 98, 99, 100, 101, 102, 103, 104, 105, 106, 107, 108, 109, 110, 111, 112, 113, 114, 115, 116, 117, 118, 119, 120, 121, 122, 123, 124, 125, 126, 127, 128, 129, 130, 131, 132, 133, 134, 135, 136, 137, 138, 139, 140, 141, 142, 143, 144, 145, 146, 147, 148, 149] (by decide +kernel) (by decide +kernel)) (goodIn_sub (fun _ h => List.mem_cons_of_mem _ (List.mem_append_left _ (List.mem_append_right _ h))) (by decide +kernel))) (goodIn_sub (fun _ h => List.mem_cons_of_mem _ (List.mem_append_right _ h)) (by decide +kernel))
set_option maxRecDepth 20000 in
theorem gL_lay_X3_lay : GoodIn wsL_lay (wsV RL 30 RX3 yX3_lay wsX3_lay) := goodIn_app (goodIn_of _ (by decide +kernel)) ggL_lay_X3_lay
theorem dL_lay_0 : decode cL_lay 0 = .ok (.aload_n 3, 1) := by decide +kernel
theorem dL_lay_1 : decode cL_lay 1 = .ok (.iconst 0, 1) := by decide +kernel
theorem dL_lay_2 : decode cL_lay 2 = .ok (.aload_n 0, 1) := by decide +kernel
theorem dL_lay_3 : decode cL_lay 3 = .ok (.iload_n 1, 1) := by decide +kernel
theorem dL_lay_4 : decode cL_lay 4 = .ok (.iload_n 2, 1) := by decide +kernel
theorem dL_lay_5 : decode cL_lay 5 = .ok (.invokevirtual 30, 3) := by decide +kernel
theorem dL_lay_8 : decode cL_lay 8 = .ok (.i2l, 1) := by decide +kernel
theorem dL_lay_9 : decode cL_lay 9 = .ok (.lastore, 1) := by decide +kernel
theorem dL_lay_10 : decode cL_lay 10 = .ok (.goto 11, 3) := by decide +kernel
theorem dL_lay_13 : decode cL_lay 13 = .ok (.astore 4, 2) := by decide +kernel
theorem dL_lay_15 : decode cL_lay 15 = .ok (.iconst 1, 1) := by decide +kernel
theorem dL_lay_16 : decode cL_lay 16 = .ok (.ireturn, 1) := by decide +kernel
theorem dL_lay_17 : decode cL_lay 17 = .ok (.astore 4, 2) := by decide +kernel
theorem dL_lay_19 : decode cL_lay 19 = .ok (.iconst 2, 1) := by decide +kernel
theorem dL_lay_20 : decode cL_lay 20 = .ok (.ireturn, 1) := by decide +kernel
theorem dL_lay_21 : decode cL_lay 21 = .ok (.iconst 0, 1) := by decide +kernel
theorem dL_lay_22 : decode cL_lay 22 = .ok (.ireturn, 1) := by decide +kernel
set_option maxRecDepth 20000 in
theorem ggL_find_X3_find : GoodIn wsL_find wsX3_find := goodIn_ca (goodIn_ca (goodIn_r _ [7, 8, 9, 10, 11, 12, 6, 13, 14, 15, 16, 17, 18, 19, 20, 21, 22, 23, 24, 25, 26, 27, 28, 29, 30, 31, 32, 33, 34, 35, 36, 37, 38, 39, 40, 41, 42, 43, 44, 45, 46, 47, 48, 49, 50, 51, 52, 53, 54, 55, 56, 57, 58, 59, 60, 61, 62, 63, 64, 65, 66, 67, 68, 69, 70, 71, 72, 73, 74, 75, 76, 77, 78, 79, 80, 81, 82, 83, 84, 85, 86, 87, 88, 89, 90, 91, 92, 93, 94, 95, 96, 97, 98, 99, 100, 101, 102, 103, 104, 105, 106, 107, 108, 109, 110, 111, 112, 113, 114, 115, 116, 117, 118, 119, 120, 121, 122, 123, 124, 125, 126, 127, 128, 129, 130, 131, 132, 133, 134, 135, 136, 137, 138, 139, 140, 141, 142, 143, 144] (by decide +kernel) (by decide +kernel)) (goodIn_sub (fun _ h => List.mem_cons_of_mem _ (List.mem_append_left _ (List.mem_append_right _ h))) (by decide +kernel))) (goodIn_sub (fun _ h => List.mem_cons_of_mem _ (List.mem_append_right _ h)) (by decide +kernel))
set_option maxRecDepth 20000 in
theorem gL_find_X3_find : GoodIn wsL_find (wsV RL 33 RX3 yX3_find wsX3_find) := goodIn_app (goodIn_of _ (by decide +kernel)) ggL_find_X3_find
theorem dL_find_0 : decode cL_find 0 = .ok (.aload_n 3, 1) := by decide +kernel
theorem dL_find_1 : decode cL_find 1 = .ok (.iconst 0, 1) := by decide +kernel
theorem dL_find_2 : decode cL_find 2 = .ok (.aload_n 0, 1) := by decide +kernel
theorem dL_find_3 : decode cL_find 3 = .ok (.iload_n 1, 1) := by decide +kernel
theorem dL_find_4 : decode cL_find 4 = .ok (.iload_n 2, 1) := by decide +kernel
theorem dL_find_5 : decode cL_find 5 = .ok (.invokevirtual 33, 3) := by decide +kernel
theorem dL_find_8 : decode cL_find 8 = .ok (.i2l, 1) := by decide +kernel
theorem dL_find_9 : decode cL_find 9 = .ok (.lastore, 1) := by decide +kernel
theorem dL_find_10 : decode cL_find 10 = .ok (.goto 11, 3) := by decide +kernel
theorem dL_find_13 : decode cL_find 13 = .ok (.astore 4, 2) := by decide +kernel
theorem dL_find_15 : decode cL_find 15 = .ok (.iconst 1, 1) := by decide +kernel
theorem dL_find_16 : decode cL_find 16 = .ok (.ireturn, 1) := by decide +kernel
theorem dL_find_17 : decode cL_find 17 = .ok (.astore 4, 2) := by decide +kernel
theorem dL_find_19 : decode cL_find 19 = .ok (.iconst 2, 1) := by decide +kernel
theorem dL_find_20 : decode cL_find 20 = .ok (.ireturn, 1) := by decide +kernel
theorem dL_find_21 : decode cL_find 21 = .ok (.iconst 0, 1) := by decide +kernel
theorem dL_find_22 : decode cL_find 22 = .ok (.ireturn, 1) := by decide +kernel
set_option maxRecDepth 20000 in
theorem ggL_setDoor_X3_setDoor : GoodIn wsL_setDoor wsX3_setDoor := goodIn_ca (goodIn_ca (goodIn_ca (goodIn_r _ [8, 9, 10, 11, 12, 13, 14, 15, 16, 7, 17, 18, 19, 20, 21, 22, 23, 24, 25, 26, 27, 28, 29, 30, 31, 32, 33, 34, 35, 36, 37, 38, 39, 40, 41, 42, 43] (by decide +kernel) (by decide +kernel)) (goodIn_sub (fun _ h => List.mem_cons_of_mem _ (List.mem_append_left _ (List.mem_append_left _ (List.mem_append_right _ h)))) (by decide +kernel))) (goodIn_sub (fun _ h => List.mem_cons_of_mem _ (List.mem_append_left _ (List.mem_append_right _ h))) (by decide +kernel))) (goodIn_sub (fun _ h => List.mem_cons_of_mem _ (List.mem_append_right _ h)) (by decide +kernel))
set_option maxRecDepth 20000 in
theorem gL_setDoor_X3_setDoor : GoodIn wsL_setDoor (wsV RL 36 RX3 yX3_setDoor wsX3_setDoor) := goodIn_app (goodIn_of _ (by decide +kernel)) ggL_setDoor_X3_setDoor
theorem dL_setDoor_0 : decode cL_setDoor 0 = .ok (.aload_n 3, 1) := by decide +kernel
theorem dL_setDoor_1 : decode cL_setDoor 1 = .ok (.iconst 0, 1) := by decide +kernel
theorem dL_setDoor_2 : decode cL_setDoor 2 = .ok (.aload_n 0, 1) := by decide +kernel
theorem dL_setDoor_3 : decode cL_setDoor 3 = .ok (.iload_n 1, 1) := by decide +kernel
theorem dL_setDoor_4 : decode cL_setDoor 4 = .ok (.iload_n 2, 1) := by decide +kernel
theorem dL_setDoor_5 : decode cL_setDoor 5 = .ok (.invokevirtual 36, 3) := by decide +kernel
theorem dL_setDoor_8 : decode cL_setDoor 8 = .ok (.i2l, 1) := by decide +kernel
theorem dL_setDoor_9 : decode cL_setDoor 9 = .ok (.lastore, 1) := by decide +kernel
theorem dL_setDoor_10 : decode cL_setDoor 10 = .ok (.goto 15, 3) := by decide +kernel
theorem dL_setDoor_13 : decode cL_setDoor 13 = .ok (.astore 4, 2) := by decide +kernel
theorem dL_setDoor_15 : decode cL_setDoor 15 = .ok (.iconst 1, 1) := by decide +kernel
theorem dL_setDoor_16 : decode cL_setDoor 16 = .ok (.ireturn, 1) := by decide +kernel
theorem dL_setDoor_17 : decode cL_setDoor 17 = .ok (.astore 4, 2) := by decide +kernel
theorem dL_setDoor_19 : decode cL_setDoor 19 = .ok (.iconst 2, 1) := by decide +kernel
theorem dL_setDoor_20 : decode cL_setDoor 20 = .ok (.ireturn, 1) := by decide +kernel
theorem dL_setDoor_21 : decode cL_setDoor 21 = .ok (.astore 4, 2) := by decide +kernel
theorem dL_setDoor_23 : decode cL_setDoor 23 = .ok (.iconst 3, 1) := by decide +kernel
theorem dL_setDoor_24 : decode cL_setDoor 24 = .ok (.ireturn, 1) := by decide +kernel
theorem dL_setDoor_25 : decode cL_setDoor 25 = .ok (.iconst 0, 1) := by decide +kernel
theorem dL_setDoor_26 : decode cL_setDoor 26 = .ok (.ireturn, 1) := by decide +kernel
set_option maxRecDepth 20000 in
theorem ggL_keep_X3_keep : GoodIn wsL_keep wsX3_keep := goodIn_ca (goodIn_ca (goodIn_r _ [7, 8, 9, 10, 11, 12, 13, 14, 15, 16, 17, 18, 19, 6, 20, 21, 22, 23, 24, 25, 26, 27, 28, 29, 30, 31, 32, 33, 34, 35, 36, 37, 38, 39, 40, 41, 42, 43, 44, 45, 46, 47, 48, 49, 50, 51, 52, 53, 54, 55, 56, 57, 58, 59] (by decide +kernel) (by decide +kernel)) (goodIn_sub (fun _ h => List.mem_cons_of_mem _ (List.mem_append_left _ (List.mem_append_right _ h))) (by decide +kernel))) (goodIn_sub (fun _ h => List.mem_cons_of_mem _ (List.mem_append_right _ h)) (by decide +kernel))
set_option maxRecDepth 20000 in
theorem gL_keep_X3_keep : GoodIn wsL_keep (wsV RL 39 RX3 yX3_keep wsX3_keep) := goodIn_app (goodIn_of _ (by decide +kernel)) ggL_keep_X3_keep
theorem dL_keep_0 : decode cL_keep 0 = .ok (.aload_n 3, 1) := by decide +kernel
theorem dL_keep_1 : decode cL_keep 1 = .ok (.iconst 0, 1) := by decide +kernel
theorem dL_keep_2 : decode cL_keep 2 = .ok (.aload_n 0, 1) := by decide +kernel
theorem dL_keep_3 : decode cL_keep 3 = .ok (.iload_n 1, 1) := by decide +kernel
theorem dL_keep_4 : decode cL_keep 4 = .ok (.iload_n 2, 1) := by decide +kernel
theorem dL_keep_5 : decode cL_keep 5 = .ok (.invokevirtual 39, 3) := by decide +kernel
theorem dL_keep_8 : decode cL_keep 8 = .ok (.i2l, 1) := by decide +kernel
theorem dL_keep_9 : decode cL_keep 9 = .ok (.lastore, 1) := by decide +kernel
theorem dL_keep_10 : decode cL_keep 10 = .ok (.goto 11, 3) := by decide +kernel
theorem dL_keep_13 : decode cL_keep 13 = .ok (.astore 4, 2) := by decide +kernel
theorem dL_keep_15 : decode cL_keep 15 = .ok (.iconst 1, 1) := by decide +kernel
theorem dL_keep_16 : decode cL_keep 16 = .ok (.ireturn, 1) := by decide +kernel
theorem dL_keep_17 : decode cL_keep 17 = .ok (.astore 4, 2) := by decide +kernel
theorem dL_keep_19 : decode cL_keep 19 = .ok (.iconst 2, 1) := by decide +kernel
theorem dL_keep_20 : decode cL_keep 20 = .ok (.ireturn, 1) := by decide +kernel
theorem dL_keep_21 : decode cL_keep 21 = .ok (.iconst 0, 1) := by decide +kernel
theorem dL_keep_22 : decode cL_keep 22 = .ok (.ireturn, 1) := by decide +kernel
set_option maxRecDepth 20000 in
theorem ggL_open_X3_open : GoodIn wsL_open wsX3_open := goodIn_ca (goodIn_ca (goodIn_ca (goodIn_r _ [8, 9, 10, 11, 12, 13, 14, 15, 16, 17, 18, 7, 19, 20, 21, 22, 23, 24, 25, 26, 27, 28, 29, 30, 31, 32, 33, 34, 35, 36, 37, 38, 39, 40, 41, 42, 43, 44, 45, 46, 47, 48, 49, 50, 51, 52, 53, 54, 55, 56, 57, 58, 59, 60, 61, 62, 63, 64, 65, 66, 67, 68, 69, 70, 71, 72, 73, 74, 75, 76, 77, 78, 79, 80, 81, 82, 83, 84, 85, 86, 87, 88, 89, 90, 91, 92, 93, 94, 95, 96, 97, 98, 99, 100, 101, 102, 103, 104, 105, 106, 107, 108, 109, 110, 111, 112, 113, 114, 115, 116, 117, 118, 119, 120, 121, 122, 123, 124, 125, 126, 127, 128, 129, 130, 131, 132, 133, 134, 135, 136, 137, 138, 139, 140, 141, 142, 143, 144, 145, 146, 147, 148, 149, 150, 151, 152, 153, 154, 155, 156, 157, 158, 159, 160, 161, 162, 163, 164, 165] (by decide +kernel) (by decide +kernel)) (goodIn_sub (fun _ h => List.mem_cons_of_mem _ (List.mem_append_left _ (List.mem_append_left _ (List.mem_append_right _ h)))) (by decide +kernel))) (goodIn_sub (fun _ h => List.mem_cons_of_mem _ (List.mem_append_left _ (List.mem_append_right _ h))) (by decide +kernel))) (goodIn_sub (fun _ h => List.mem_cons_of_mem _ (List.mem_append_right _ h)) (by decide +kernel))
set_option maxRecDepth 20000 in
theorem gL_open_X3_open : GoodIn wsL_open (wsV RL 42 RX3 yX3_open wsX3_open) := goodIn_app (goodIn_of _ (by decide +kernel)) ggL_open_X3_open
theorem dL_open_0 : decode cL_open 0 = .ok (.aload_n 3, 1) := by decide +kernel
theorem dL_open_1 : decode cL_open 1 = .ok (.iconst 0, 1) := by decide +kernel
theorem dL_open_2 : decode cL_open 2 = .ok (.aload_n 0, 1) := by decide +kernel
theorem dL_open_3 : decode cL_open 3 = .ok (.iload_n 1, 1) := by decide +kernel
theorem dL_open_4 : decode cL_open 4 = .ok (.iload_n 2, 1) := by decide +kernel
theorem dL_open_5 : decode cL_open 5 = .ok (.invokevirtual 42, 3) := by decide +kernel
theorem dL_open_8 : decode cL_open 8 = .ok (.i2l, 1) := by decide +kernel
theorem dL_open_9 : decode cL_open 9 = .ok (.lastore, 1) := by decide +kernel
theorem dL_open_10 : decode cL_open 10 = .ok (.goto 15, 3) := by decide +kernel
theorem dL_open_13 : decode cL_open 13 = .ok (.astore 4, 2) := by decide +kernel
theorem dL_open_15 : decode cL_open 15 = .ok (.iconst 1, 1) := by decide +kernel
theorem dL_open_16 : decode cL_open 16 = .ok (.ireturn, 1) := by decide +kernel
theorem dL_open_17 : decode cL_open 17 = .ok (.astore 4, 2) := by decide +kernel
theorem dL_open_19 : decode cL_open 19 = .ok (.iconst 2, 1) := by decide +kernel
theorem dL_open_20 : decode cL_open 20 = .ok (.ireturn, 1) := by decide +kernel
theorem dL_open_21 : decode cL_open 21 = .ok (.astore 4, 2) := by decide +kernel
theorem dL_open_23 : decode cL_open 23 = .ok (.iconst 3, 1) := by decide +kernel
theorem dL_open_24 : decode cL_open 24 = .ok (.ireturn, 1) := by decide +kernel
theorem dL_open_25 : decode cL_open 25 = .ok (.iconst 0, 1) := by decide +kernel
theorem dL_open_26 : decode cL_open 26 = .ok (.ireturn, 1) := by decide +kernel
set_option maxRecDepth 20000 in
theorem ggL_jam_X3_jam : GoodIn wsL_jam wsX3_jam := goodIn_ca (goodIn_r _ [6, 7, 8, 9, 10, 11, 5, 12, 13, 14, 15, 16, 17, 18, 19, 20, 21, 22, 23, 24, 25, 26, 27, 28, 29, 30, 31, 32, 33, 34, 35, 36, 37, 38, 39, 40, 41, 42, 43, 44, 45, 46, 47, 48, 49, 50, 51, 52, 53, 54, 55, 56, 57, 58, 59, 60, 61, 62, 63, 64, 65, 66, 67, 68, 69, 70, 71, 72, 73, 74, 75, 76, 77, 78, 79, 80, 81, 82, 83, 84, 85, 86, 87, 88, 89, 90, 91, 92, 93, 94, 95, 96, 97, 98, 99, 100, 101, 102, 103, 104, 105, 106, 107, 108, 109, 110, 111, 112, 113, 114, 115, 116, 117, 118, 119, 120, 121] (by decide +kernel) (by decide +kernel)) (goodIn_sub (fun _ h => List.mem_cons_of_mem _ (List.mem_append_right _ h)) (by decide +kernel))
set_option maxRecDepth 20000 in
theorem gL_jam_X3_jam : GoodIn wsL_jam (wsV RL 45 RX3 yX3_jam wsX3_jam) := goodIn_app (goodIn_of _ (by decide +kernel)) ggL_jam_X3_jam
theorem dL_jam_0 : decode cL_jam 0 = .ok (.aload_n 3, 1) := by decide +kernel
theorem dL_jam_1 : decode cL_jam 1 = .ok (.iconst 0, 1) := by decide +kernel
theorem dL_jam_2 : decode cL_jam 2 = .ok (.aload_n 0, 1) := by decide +kernel
theorem dL_jam_3 : decode cL_jam 3 = .ok (.iload_n 1, 1) := by decide +kernel
theorem dL_jam_4 : decode cL_jam 4 = .ok (.iload_n 2, 1) := by decide +kernel
theorem dL_jam_5 : decode cL_jam 5 = .ok (.invokevirtual 45, 3) := by decide +kernel
theorem dL_jam_8 : decode cL_jam 8 = .ok (.ifCond .eq 7, 3) := by decide +kernel
theorem dL_jam_11 : decode cL_jam 11 = .ok (.lconst 1, 1) := by decide +kernel
theorem dL_jam_12 : decode cL_jam 12 = .ok (.goto 4, 3) := by decide +kernel
theorem dL_jam_15 : decode cL_jam 15 = .ok (.lconst 0, 1) := by decide +kernel
theorem dL_jam_16 : decode cL_jam 16 = .ok (.lastore, 1) := by decide +kernel
theorem dL_jam_17 : decode cL_jam 17 = .ok (.goto 7, 3) := by decide +kernel
theorem dL_jam_20 : decode cL_jam 20 = .ok (.astore 4, 2) := by decide +kernel
theorem dL_jam_22 : decode cL_jam 22 = .ok (.iconst 1, 1) := by decide +kernel
theorem dL_jam_23 : decode cL_jam 23 = .ok (.ireturn, 1) := by decide +kernel
theorem dL_jam_24 : decode cL_jam 24 = .ok (.iconst 0, 1) := by decide +kernel
theorem dL_jam_25 : decode cL_jam 25 = .ok (.ireturn, 1) := by decide +kernel
set_option maxRecDepth 20000 in
theorem ggL_claim_X3_claim : GoodIn wsL_claim wsX3_claim := goodIn_ca (goodIn_ca (goodIn_r _ [7, 8, 9, 10, 11, 12, 13, 14, 15, 16, 6, 17, 18, 19, 20, 21, 22, 23, 24, 25, 26, 27, 28, 29, 30, 31, 32, 33, 34, 35, 36, 37, 38, 39, 40, 41, 42, 43, 44, 45, 46, 47, 48, 49, 50, 51, 52, 53, 54, 55, 56, 57, 58, 59, 60, 61, 62, 63, 64, 65, 66, 67, 68, 69, 70, 71] (by decide +kernel) (by decide +kernel)) (goodIn_sub (fun _ h => List.mem_cons_of_mem _ (List.mem_append_left _ (List.mem_append_right _ h))) (by decide +kernel))) (goodIn_sub (fun _ h => List.mem_cons_of_mem _ (List.mem_append_right _ h)) (by decide +kernel))
set_option maxRecDepth 20000 in
theorem gL_claim_X3_claim : GoodIn wsL_claim (wsV RL 49 RX3 yX3_claim wsX3_claim) := goodIn_app (goodIn_of _ (by decide +kernel)) ggL_claim_X3_claim
theorem dL_claim_0 : decode cL_claim 0 = .ok (.aload_n 2, 1) := by decide +kernel
theorem dL_claim_1 : decode cL_claim 1 = .ok (.iconst 0, 1) := by decide +kernel
theorem dL_claim_2 : decode cL_claim 2 = .ok (.aload_n 0, 1) := by decide +kernel
theorem dL_claim_3 : decode cL_claim 3 = .ok (.iload_n 1, 1) := by decide +kernel
theorem dL_claim_4 : decode cL_claim 4 = .ok (.invokevirtual 49, 3) := by decide +kernel
theorem dL_claim_7 : decode cL_claim 7 = .ok (.i2l, 1) := by decide +kernel
theorem dL_claim_8 : decode cL_claim 8 = .ok (.lastore, 1) := by decide +kernel
theorem dL_claim_9 : decode cL_claim 9 = .ok (.goto 9, 3) := by decide +kernel
theorem dL_claim_12 : decode cL_claim 12 = .ok (.astore_n 3, 1) := by decide +kernel
theorem dL_claim_13 : decode cL_claim 13 = .ok (.iconst 1, 1) := by decide +kernel
theorem dL_claim_14 : decode cL_claim 14 = .ok (.ireturn, 1) := by decide +kernel
theorem dL_claim_15 : decode cL_claim 15 = .ok (.astore_n 3, 1) := by decide +kernel
theorem dL_claim_16 : decode cL_claim 16 = .ok (.iconst 2, 1) := by decide +kernel
theorem dL_claim_17 : decode cL_claim 17 = .ok (.ireturn, 1) := by decide +kernel
theorem dL_claim_18 : decode cL_claim 18 = .ok (.iconst 0, 1) := by decide +kernel
theorem dL_claim_19 : decode cL_claim 19 = .ok (.ireturn, 1) := by decide +kernel
set_option maxRecDepth 20000 in
theorem ggL_scans_X3_scans : GoodIn wsL_scans wsX3_scans := goodIn_ca (goodIn_r _ [6, 7, 8, 9, 10, 5, 11, 12, 13, 14, 15, 16, 17, 18, 19, 20, 21, 22, 23, 24, 25, 26, 27, 28, 29, 30, 31, 32, 33, 34] (by decide +kernel) (by decide +kernel)) (goodIn_sub (fun _ h => List.mem_cons_of_mem _ (List.mem_append_right _ h)) (by decide +kernel))
set_option maxRecDepth 20000 in
theorem gL_scans_X3_scans : GoodIn wsL_scans (wsV RL 52 RX3 yX3_scans wsX3_scans) := goodIn_app (goodIn_of _ (by decide +kernel)) ggL_scans_X3_scans
theorem dL_scans_0 : decode cL_scans 0 = .ok (.aload_n 2, 1) := by decide +kernel
theorem dL_scans_1 : decode cL_scans 1 = .ok (.iconst 0, 1) := by decide +kernel
theorem dL_scans_2 : decode cL_scans 2 = .ok (.aload_n 0, 1) := by decide +kernel
theorem dL_scans_3 : decode cL_scans 3 = .ok (.iload_n 1, 1) := by decide +kernel
theorem dL_scans_4 : decode cL_scans 4 = .ok (.invokevirtual 52, 3) := by decide +kernel
theorem dL_scans_7 : decode cL_scans 7 = .ok (.i2l, 1) := by decide +kernel
theorem dL_scans_8 : decode cL_scans 8 = .ok (.lastore, 1) := by decide +kernel
theorem dL_scans_9 : decode cL_scans 9 = .ok (.goto 6, 3) := by decide +kernel
theorem dL_scans_12 : decode cL_scans 12 = .ok (.astore_n 3, 1) := by decide +kernel
theorem dL_scans_13 : decode cL_scans 13 = .ok (.iconst 1, 1) := by decide +kernel
theorem dL_scans_14 : decode cL_scans 14 = .ok (.ireturn, 1) := by decide +kernel
theorem dL_scans_15 : decode cL_scans 15 = .ok (.iconst 0, 1) := by decide +kernel
theorem dL_scans_16 : decode cL_scans 16 = .ok (.ireturn, 1) := by decide +kernel
set_option maxRecDepth 20000 in
theorem ggL_story_X3_story : GoodIn wsL_story wsX3_story := goodIn_ca (goodIn_r _ [6, 7, 8, 9, 10, 5, 11, 12, 13, 14, 15, 16, 17, 18, 19, 20, 21, 22, 23, 24, 25, 26, 27, 28, 29, 30, 31, 32, 33, 34] (by decide +kernel) (by decide +kernel)) (goodIn_sub (fun _ h => List.mem_cons_of_mem _ (List.mem_append_right _ h)) (by decide +kernel))
set_option maxRecDepth 20000 in
theorem gL_story_X3_story : GoodIn wsL_story (wsV RL 55 RX3 yX3_story wsX3_story) := goodIn_app (goodIn_of _ (by decide +kernel)) ggL_story_X3_story
theorem dL_story_0 : decode cL_story 0 = .ok (.aload_n 2, 1) := by decide +kernel
theorem dL_story_1 : decode cL_story 1 = .ok (.iconst 0, 1) := by decide +kernel
theorem dL_story_2 : decode cL_story 2 = .ok (.aload_n 0, 1) := by decide +kernel
theorem dL_story_3 : decode cL_story 3 = .ok (.iload_n 1, 1) := by decide +kernel
theorem dL_story_4 : decode cL_story 4 = .ok (.invokevirtual 55, 3) := by decide +kernel
theorem dL_story_7 : decode cL_story 7 = .ok (.i2l, 1) := by decide +kernel
theorem dL_story_8 : decode cL_story 8 = .ok (.lastore, 1) := by decide +kernel
theorem dL_story_9 : decode cL_story 9 = .ok (.goto 6, 3) := by decide +kernel
theorem dL_story_12 : decode cL_story 12 = .ok (.astore_n 3, 1) := by decide +kernel
theorem dL_story_13 : decode cL_story 13 = .ok (.iconst 1, 1) := by decide +kernel
theorem dL_story_14 : decode cL_story 14 = .ok (.ireturn, 1) := by decide +kernel
theorem dL_story_15 : decode cL_story 15 = .ok (.iconst 0, 1) := by decide +kernel
theorem dL_story_16 : decode cL_story 16 = .ok (.ireturn, 1) := by decide +kernel
set_option maxRecDepth 20000 in
theorem ggL_storyOfAll_X3_storyOfAll : GoodIn wsL_storyOfAll wsX3_storyOfAll := goodIn_ca (goodIn_r _ [6, 7, 8, 9, 10, 5, 11, 12, 13, 14, 15, 16, 17, 18, 19, 20, 21, 22, 23, 24, 25, 26, 27, 28, 29, 30, 31, 32, 33, 34, 35, 36, 37, 38, 39, 40, 41, 42, 43, 44, 45, 46, 47, 48, 49, 50, 51, 52, 53, 54, 55, 56, 57, 58, 59, 60, 61, 62, 63, 64, 65, 66, 67, 68] (by decide +kernel) (by decide +kernel)) (goodIn_sub (fun _ h => List.mem_cons_of_mem _ (List.mem_append_right _ h)) (by decide +kernel))
set_option maxRecDepth 20000 in
theorem gL_storyOfAll_X3_storyOfAll : GoodIn wsL_storyOfAll (wsV RL 58 RX3 yX3_storyOfAll wsX3_storyOfAll) := goodIn_app (goodIn_of _ (by decide +kernel)) ggL_storyOfAll_X3_storyOfAll
theorem dL_storyOfAll_0 : decode cL_storyOfAll 0 = .ok (.aload_n 2, 1) := by decide +kernel
theorem dL_storyOfAll_1 : decode cL_storyOfAll 1 = .ok (.iconst 0, 1) := by decide +kernel
theorem dL_storyOfAll_2 : decode cL_storyOfAll 2 = .ok (.aload_n 0, 1) := by decide +kernel
theorem dL_storyOfAll_3 : decode cL_storyOfAll 3 = .ok (.iload_n 1, 1) := by decide +kernel
theorem dL_storyOfAll_4 : decode cL_storyOfAll 4 = .ok (.invokevirtual 58, 3) := by decide +kernel
theorem dL_storyOfAll_7 : decode cL_storyOfAll 7 = .ok (.i2l, 1) := by decide +kernel
theorem dL_storyOfAll_8 : decode cL_storyOfAll 8 = .ok (.lastore, 1) := by decide +kernel
theorem dL_storyOfAll_9 : decode cL_storyOfAll 9 = .ok (.goto 6, 3) := by decide +kernel
theorem dL_storyOfAll_12 : decode cL_storyOfAll 12 = .ok (.astore_n 3, 1) := by decide +kernel
theorem dL_storyOfAll_13 : decode cL_storyOfAll 13 = .ok (.iconst 1, 1) := by decide +kernel
theorem dL_storyOfAll_14 : decode cL_storyOfAll 14 = .ok (.ireturn, 1) := by decide +kernel
theorem dL_storyOfAll_15 : decode cL_storyOfAll 15 = .ok (.iconst 0, 1) := by decide +kernel
theorem dL_storyOfAll_16 : decode cL_storyOfAll 16 = .ok (.ireturn, 1) := by decide +kernel
set_option maxRecDepth 20000 in
theorem ggL_placeOf_X3_placeOf : GoodIn wsL_placeOf wsX3_placeOf := goodIn_ca (goodIn_r _ [6, 7, 8, 9, 5, 10, 11, 12, 13, 14, 15, 16, 17, 18, 19, 20, 21, 22, 23, 24, 25, 26, 27, 28, 29, 30, 31, 32, 33, 34, 35, 36, 37, 38, 39, 40, 41, 42, 43, 44, 45] (by decide +kernel) (by decide +kernel)) (goodIn_sub (fun _ h => List.mem_cons_of_mem _ (List.mem_append_right _ h)) (by decide +kernel))
set_option maxRecDepth 20000 in
theorem gL_placeOf_X3_placeOf : GoodIn wsL_placeOf (wsV RL 61 RX3 yX3_placeOf wsX3_placeOf) := goodIn_app (goodIn_of _ (by decide +kernel)) ggL_placeOf_X3_placeOf
theorem dL_placeOf_0 : decode cL_placeOf 0 = .ok (.aload_n 2, 1) := by decide +kernel
theorem dL_placeOf_1 : decode cL_placeOf 1 = .ok (.iconst 0, 1) := by decide +kernel
theorem dL_placeOf_2 : decode cL_placeOf 2 = .ok (.aload_n 0, 1) := by decide +kernel
theorem dL_placeOf_3 : decode cL_placeOf 3 = .ok (.iload_n 1, 1) := by decide +kernel
theorem dL_placeOf_4 : decode cL_placeOf 4 = .ok (.invokevirtual 61, 3) := by decide +kernel
theorem dL_placeOf_7 : decode cL_placeOf 7 = .ok (.i2l, 1) := by decide +kernel
theorem dL_placeOf_8 : decode cL_placeOf 8 = .ok (.lastore, 1) := by decide +kernel
theorem dL_placeOf_9 : decode cL_placeOf 9 = .ok (.goto 6, 3) := by decide +kernel
theorem dL_placeOf_12 : decode cL_placeOf 12 = .ok (.astore_n 3, 1) := by decide +kernel
theorem dL_placeOf_13 : decode cL_placeOf 13 = .ok (.iconst 1, 1) := by decide +kernel
theorem dL_placeOf_14 : decode cL_placeOf 14 = .ok (.ireturn, 1) := by decide +kernel
theorem dL_placeOf_15 : decode cL_placeOf 15 = .ok (.iconst 0, 1) := by decide +kernel
theorem dL_placeOf_16 : decode cL_placeOf 16 = .ok (.ireturn, 1) := by decide +kernel
set_option maxRecDepth 20000 in
theorem ggL_lies_X3_lies : GoodIn wsL_lies wsX3_lies := goodIn_ca (goodIn_r _ [6, 7, 8, 9, 5, 10, 11, 12, 13, 14, 15, 16, 17, 18, 19, 20, 21, 22, 23, 24, 25, 26, 27, 28, 29, 30, 31, 32, 33, 34, 35, 36, 37, 38, 39, 40, 41, 42, 43, 44] (by decide +kernel) (by decide +kernel)) (goodIn_sub (fun _ h => List.mem_cons_of_mem _ (List.mem_append_right _ h)) (by decide +kernel))
set_option maxRecDepth 20000 in
theorem gL_lies_X3_lies : GoodIn wsL_lies (wsV RL 64 RX3 yX3_lies wsX3_lies) := goodIn_app (goodIn_of _ (by decide +kernel)) ggL_lies_X3_lies
theorem dL_lies_0 : decode cL_lies 0 = .ok (.aload_n 2, 1) := by decide +kernel
theorem dL_lies_1 : decode cL_lies 1 = .ok (.iconst 0, 1) := by decide +kernel
theorem dL_lies_2 : decode cL_lies 2 = .ok (.aload_n 0, 1) := by decide +kernel
theorem dL_lies_3 : decode cL_lies 3 = .ok (.iload_n 1, 1) := by decide +kernel
theorem dL_lies_4 : decode cL_lies 4 = .ok (.invokevirtual 64, 3) := by decide +kernel
theorem dL_lies_7 : decode cL_lies 7 = .ok (.i2l, 1) := by decide +kernel
theorem dL_lies_8 : decode cL_lies 8 = .ok (.lastore, 1) := by decide +kernel
theorem dL_lies_9 : decode cL_lies 9 = .ok (.goto 6, 3) := by decide +kernel
theorem dL_lies_12 : decode cL_lies 12 = .ok (.astore_n 3, 1) := by decide +kernel
theorem dL_lies_13 : decode cL_lies 13 = .ok (.iconst 1, 1) := by decide +kernel
theorem dL_lies_14 : decode cL_lies 14 = .ok (.ireturn, 1) := by decide +kernel
theorem dL_lies_15 : decode cL_lies 15 = .ok (.iconst 0, 1) := by decide +kernel
theorem dL_lies_16 : decode cL_lies 16 = .ok (.ireturn, 1) := by decide +kernel
set_option maxRecDepth 20000 in
theorem ggL_hasFee_X3_hasFee : GoodIn wsL_hasFee wsX3_hasFee := goodIn_ca (goodIn_r _ [6, 7, 8, 9, 10, 5, 11, 12, 13, 14, 15, 16, 17, 18, 19, 20, 21, 22, 23, 24, 25, 26, 27, 28, 29, 30, 31, 32, 33, 34] (by decide +kernel) (by decide +kernel)) (goodIn_sub (fun _ h => List.mem_cons_of_mem _ (List.mem_append_right _ h)) (by decide +kernel))
set_option maxRecDepth 20000 in
theorem gL_hasFee_X3_hasFee : GoodIn wsL_hasFee (wsV RL 67 RX3 yX3_hasFee wsX3_hasFee) := goodIn_app (goodIn_of _ (by decide +kernel)) ggL_hasFee_X3_hasFee
theorem dL_hasFee_0 : decode cL_hasFee 0 = .ok (.aload_n 2, 1) := by decide +kernel
theorem dL_hasFee_1 : decode cL_hasFee 1 = .ok (.iconst 0, 1) := by decide +kernel
theorem dL_hasFee_2 : decode cL_hasFee 2 = .ok (.aload_n 0, 1) := by decide +kernel
theorem dL_hasFee_3 : decode cL_hasFee 3 = .ok (.iload_n 1, 1) := by decide +kernel
theorem dL_hasFee_4 : decode cL_hasFee 4 = .ok (.invokevirtual 67, 3) := by decide +kernel
theorem dL_hasFee_7 : decode cL_hasFee 7 = .ok (.ifCond .eq 7, 3) := by decide +kernel
theorem dL_hasFee_10 : decode cL_hasFee 10 = .ok (.lconst 1, 1) := by decide +kernel
theorem dL_hasFee_11 : decode cL_hasFee 11 = .ok (.goto 4, 3) := by decide +kernel
theorem dL_hasFee_14 : decode cL_hasFee 14 = .ok (.lconst 0, 1) := by decide +kernel
theorem dL_hasFee_15 : decode cL_hasFee 15 = .ok (.lastore, 1) := by decide +kernel
theorem dL_hasFee_16 : decode cL_hasFee 16 = .ok (.goto 6, 3) := by decide +kernel
theorem dL_hasFee_19 : decode cL_hasFee 19 = .ok (.astore_n 3, 1) := by decide +kernel
theorem dL_hasFee_20 : decode cL_hasFee 20 = .ok (.iconst 1, 1) := by decide +kernel
theorem dL_hasFee_21 : decode cL_hasFee 21 = .ok (.ireturn, 1) := by decide +kernel
theorem dL_hasFee_22 : decode cL_hasFee 22 = .ok (.iconst 0, 1) := by decide +kernel
theorem dL_hasFee_23 : decode cL_hasFee 23 = .ok (.ireturn, 1) := by decide +kernel
set_option maxRecDepth 20000 in
theorem ggL_isInsured_X3_isInsured : GoodIn wsL_isInsured wsX3_isInsured := goodIn_ca (goodIn_r _ [6, 7, 8, 9, 10, 5, 11, 12, 13, 14, 15, 16, 17, 18, 19, 20, 21, 22, 23, 24, 25, 26, 27, 28, 29, 30, 31, 32, 33, 34] (by decide +kernel) (by decide +kernel)) (goodIn_sub (fun _ h => List.mem_cons_of_mem _ (List.mem_append_right _ h)) (by decide +kernel))
set_option maxRecDepth 20000 in
theorem gL_isInsured_X3_isInsured : GoodIn wsL_isInsured (wsV RL 71 RX3 yX3_isInsured wsX3_isInsured) := goodIn_app (goodIn_of _ (by decide +kernel)) ggL_isInsured_X3_isInsured
theorem dL_isInsured_0 : decode cL_isInsured 0 = .ok (.aload_n 2, 1) := by decide +kernel
theorem dL_isInsured_1 : decode cL_isInsured 1 = .ok (.iconst 0, 1) := by decide +kernel
theorem dL_isInsured_2 : decode cL_isInsured 2 = .ok (.aload_n 0, 1) := by decide +kernel
theorem dL_isInsured_3 : decode cL_isInsured 3 = .ok (.iload_n 1, 1) := by decide +kernel
theorem dL_isInsured_4 : decode cL_isInsured 4 = .ok (.invokevirtual 71, 3) := by decide +kernel
theorem dL_isInsured_7 : decode cL_isInsured 7 = .ok (.ifCond .eq 7, 3) := by decide +kernel
theorem dL_isInsured_10 : decode cL_isInsured 10 = .ok (.lconst 1, 1) := by decide +kernel
theorem dL_isInsured_11 : decode cL_isInsured 11 = .ok (.goto 4, 3) := by decide +kernel
theorem dL_isInsured_14 : decode cL_isInsured 14 = .ok (.lconst 0, 1) := by decide +kernel
theorem dL_isInsured_15 : decode cL_isInsured 15 = .ok (.lastore, 1) := by decide +kernel
theorem dL_isInsured_16 : decode cL_isInsured 16 = .ok (.goto 6, 3) := by decide +kernel
theorem dL_isInsured_19 : decode cL_isInsured 19 = .ok (.astore_n 3, 1) := by decide +kernel
theorem dL_isInsured_20 : decode cL_isInsured 20 = .ok (.iconst 1, 1) := by decide +kernel
theorem dL_isInsured_21 : decode cL_isInsured 21 = .ok (.ireturn, 1) := by decide +kernel
theorem dL_isInsured_22 : decode cL_isInsured 22 = .ok (.iconst 0, 1) := by decide +kernel
theorem dL_isInsured_23 : decode cL_isInsured 23 = .ok (.ireturn, 1) := by decide +kernel
set_option maxRecDepth 20000 in
theorem ggL_fees_X3_fees : GoodIn wsL_fees wsX3_fees := goodIn_ca (goodIn_r _ [6, 7, 8, 9, 10, 5, 11, 12, 13, 14, 15, 16, 17, 18, 19, 20, 21, 22, 23, 24, 25] (by decide +kernel) (by decide +kernel)) (goodIn_sub (fun _ h => List.mem_cons_of_mem _ (List.mem_append_right _ h)) (by decide +kernel))
set_option maxRecDepth 20000 in
theorem gL_fees_X3_fees : GoodIn wsL_fees (wsV RL 74 RX3 yX3_fees wsX3_fees) := goodIn_app (goodIn_of _ (by decide +kernel)) ggL_fees_X3_fees
theorem dL_fees_0 : decode cL_fees 0 = .ok (.aload_n 2, 1) := by decide +kernel
theorem dL_fees_1 : decode cL_fees 1 = .ok (.iconst 0, 1) := by decide +kernel
theorem dL_fees_2 : decode cL_fees 2 = .ok (.aload_n 0, 1) := by decide +kernel
theorem dL_fees_3 : decode cL_fees 3 = .ok (.iload_n 1, 1) := by decide +kernel
theorem dL_fees_4 : decode cL_fees 4 = .ok (.invokevirtual 74, 3) := by decide +kernel
theorem dL_fees_7 : decode cL_fees 7 = .ok (.i2l, 1) := by decide +kernel
theorem dL_fees_8 : decode cL_fees 8 = .ok (.lastore, 1) := by decide +kernel
theorem dL_fees_9 : decode cL_fees 9 = .ok (.goto 6, 3) := by decide +kernel
theorem dL_fees_12 : decode cL_fees 12 = .ok (.astore_n 3, 1) := by decide +kernel
theorem dL_fees_13 : decode cL_fees 13 = .ok (.iconst 1, 1) := by decide +kernel
theorem dL_fees_14 : decode cL_fees 14 = .ok (.ireturn, 1) := by decide +kernel
theorem dL_fees_15 : decode cL_fees 15 = .ok (.iconst 0, 1) := by decide +kernel
theorem dL_fees_16 : decode cL_fees 16 = .ok (.ireturn, 1) := by decide +kernel
set_option maxRecDepth 20000 in
theorem ggL_fine_X3_fine : GoodIn wsL_fine wsX3_fine := goodIn_ca (goodIn_r _ [6, 7, 8, 9, 10, 11, 12, 13, 14, 5, 15, 16, 17, 18, 19, 20, 21, 22, 23, 24, 25, 26, 27, 28, 29, 30, 31, 32, 33, 34, 35, 36, 37, 38, 39, 40, 41, 42, 43, 44, 45, 46, 47, 48, 49, 50, 51, 52, 53, 54, 55, 56, 57, 58, 59, 60, 61, 62] (by decide +kernel) (by decide +kernel)) (goodIn_sub (fun _ h => List.mem_cons_of_mem _ (List.mem_append_right _ h)) (by decide +kernel))
set_option maxRecDepth 20000 in
theorem gL_fine_X3_fine : GoodIn wsL_fine (wsV RL 77 RX3 yX3_fine wsX3_fine) := goodIn_app (goodIn_of _ (by decide +kernel)) ggL_fine_X3_fine
theorem dL_fine_0 : decode cL_fine 0 = .ok (.aload_n 2, 1) := by decide +kernel
theorem dL_fine_1 : decode cL_fine 1 = .ok (.iconst 0, 1) := by decide +kernel
theorem dL_fine_2 : decode cL_fine 2 = .ok (.aload_n 0, 1) := by decide +kernel
theorem dL_fine_3 : decode cL_fine 3 = .ok (.iload_n 1, 1) := by decide +kernel
theorem dL_fine_4 : decode cL_fine 4 = .ok (.invokevirtual 77, 3) := by decide +kernel
theorem dL_fine_7 : decode cL_fine 7 = .ok (.i2l, 1) := by decide +kernel
theorem dL_fine_8 : decode cL_fine 8 = .ok (.lastore, 1) := by decide +kernel
theorem dL_fine_9 : decode cL_fine 9 = .ok (.goto 6, 3) := by decide +kernel
theorem dL_fine_12 : decode cL_fine 12 = .ok (.astore_n 3, 1) := by decide +kernel
theorem dL_fine_13 : decode cL_fine 13 = .ok (.iconst 1, 1) := by decide +kernel
theorem dL_fine_14 : decode cL_fine 14 = .ok (.ireturn, 1) := by decide +kernel
theorem dL_fine_15 : decode cL_fine 15 = .ok (.iconst 0, 1) := by decide +kernel
theorem dL_fine_16 : decode cL_fine 16 = .ok (.ireturn, 1) := by decide +kernel
set_option maxRecDepth 20000 in
theorem ggL_isJammed_X3_isJammed : GoodIn wsL_isJammed wsX3_isJammed := goodIn_ca (goodIn_r _ [6, 7, 8, 9, 10, 5, 11, 12, 13, 14, 15, 16, 17, 18, 19, 20, 21, 22, 23, 24, 25, 26, 27, 28] (by decide +kernel) (by decide +kernel)) (goodIn_sub (fun _ h => List.mem_cons_of_mem _ (List.mem_append_right _ h)) (by decide +kernel))
set_option maxRecDepth 20000 in
theorem gL_isJammed_X3_isJammed : GoodIn wsL_isJammed (wsV RL 80 RX3 yX3_isJammed wsX3_isJammed) := goodIn_app (goodIn_of _ (by decide +kernel)) ggL_isJammed_X3_isJammed
theorem dL_isJammed_0 : decode cL_isJammed 0 = .ok (.aload_n 2, 1) := by decide +kernel
theorem dL_isJammed_1 : decode cL_isJammed 1 = .ok (.iconst 0, 1) := by decide +kernel
theorem dL_isJammed_2 : decode cL_isJammed 2 = .ok (.aload_n 0, 1) := by decide +kernel
theorem dL_isJammed_3 : decode cL_isJammed 3 = .ok (.iload_n 1, 1) := by decide +kernel
theorem dL_isJammed_4 : decode cL_isJammed 4 = .ok (.invokevirtual 80, 3) := by decide +kernel
theorem dL_isJammed_7 : decode cL_isJammed 7 = .ok (.ifCond .eq 7, 3) := by decide +kernel
theorem dL_isJammed_10 : decode cL_isJammed 10 = .ok (.lconst 1, 1) := by decide +kernel
theorem dL_isJammed_11 : decode cL_isJammed 11 = .ok (.goto 4, 3) := by decide +kernel
theorem dL_isJammed_14 : decode cL_isJammed 14 = .ok (.lconst 0, 1) := by decide +kernel
theorem dL_isJammed_15 : decode cL_isJammed 15 = .ok (.lastore, 1) := by decide +kernel
theorem dL_isJammed_16 : decode cL_isJammed 16 = .ok (.goto 6, 3) := by decide +kernel
theorem dL_isJammed_19 : decode cL_isJammed 19 = .ok (.astore_n 3, 1) := by decide +kernel
theorem dL_isJammed_20 : decode cL_isJammed 20 = .ok (.iconst 1, 1) := by decide +kernel
theorem dL_isJammed_21 : decode cL_isJammed 21 = .ok (.ireturn, 1) := by decide +kernel
theorem dL_isJammed_22 : decode cL_isJammed 22 = .ok (.iconst 0, 1) := by decide +kernel
theorem dL_isJammed_23 : decode cL_isJammed 23 = .ok (.ireturn, 1) := by decide +kernel
set_option maxRecDepth 20000 in
theorem ggL_keptFor_X3_keptFor : GoodIn wsL_keptFor wsX3_keptFor := goodIn_ca (goodIn_r _ [6, 7, 8, 9, 10, 5, 11, 12, 13, 14, 15, 16, 17, 18, 19, 20, 21, 22, 23, 24, 25, 26, 27, 28] (by decide +kernel) (by decide +kernel)) (goodIn_sub (fun _ h => List.mem_cons_of_mem _ (List.mem_append_right _ h)) (by decide +kernel))
set_option maxRecDepth 20000 in
theorem gL_keptFor_X3_keptFor : GoodIn wsL_keptFor (wsV RL 83 RX3 yX3_keptFor wsX3_keptFor) := goodIn_app (goodIn_of _ (by decide +kernel)) ggL_keptFor_X3_keptFor
theorem dL_keptFor_0 : decode cL_keptFor 0 = .ok (.aload_n 2, 1) := by decide +kernel
theorem dL_keptFor_1 : decode cL_keptFor 1 = .ok (.iconst 0, 1) := by decide +kernel
theorem dL_keptFor_2 : decode cL_keptFor 2 = .ok (.aload_n 0, 1) := by decide +kernel
theorem dL_keptFor_3 : decode cL_keptFor 3 = .ok (.iload_n 1, 1) := by decide +kernel
theorem dL_keptFor_4 : decode cL_keptFor 4 = .ok (.invokevirtual 83, 3) := by decide +kernel
theorem dL_keptFor_7 : decode cL_keptFor 7 = .ok (.i2l, 1) := by decide +kernel
theorem dL_keptFor_8 : decode cL_keptFor 8 = .ok (.lastore, 1) := by decide +kernel
theorem dL_keptFor_9 : decode cL_keptFor 9 = .ok (.goto 6, 3) := by decide +kernel
theorem dL_keptFor_12 : decode cL_keptFor 12 = .ok (.astore_n 3, 1) := by decide +kernel
theorem dL_keptFor_13 : decode cL_keptFor 13 = .ok (.iconst 1, 1) := by decide +kernel
theorem dL_keptFor_14 : decode cL_keptFor 14 = .ok (.ireturn, 1) := by decide +kernel
theorem dL_keptFor_15 : decode cL_keptFor 15 = .ok (.iconst 0, 1) := by decide +kernel
theorem dL_keptFor_16 : decode cL_keptFor 16 = .ok (.ireturn, 1) := by decide +kernel
set_option maxRecDepth 20000 in
theorem ggL_law_X3_init : GoodIn wsL_law wsX3_init := goodIn_r _ [9, 10, 11, 12, 13, 14, 15, 16, 17, 18, 19, 20, 21, 22, 23, 24, 25, 26, 27, 28, 29, 30, 31, 32, 33, 34, 35, 36, 37, 38, 39, 40, 41, 42, 43, 582, 583, 584, 585, 586, 587, 588, 589, 590, 614, 615, 616, 617, 618, 619, 620, 621] (by decide +kernel) (by decide +kernel)
set_option maxRecDepth 20000 in
theorem gL_law_X3_init : GoodIn wsL_law (wsX3_init) := ggL_law_X3_init
set_option maxRecDepth 20000 in
theorem ggL_law_X4_init : GoodIn wsL_law wsX4_init := goodIn_r _ [46, 47, 11, 12, 17, 48, 49, 50, 51, 52, 53, 54, 55, 56, 57, 58, 59, 60, 61, 62, 63, 64, 65, 591, 592, 593, 594, 595, 596, 597, 598, 599, 600, 601, 602, 603, 604, 605, 606, 607, 608, 609, 610, 611, 612, 613] (by decide +kernel) (by decide +kernel)
set_option maxRecDepth 20000 in
theorem gL_law_X4_init : GoodIn wsL_law (wsX4_init) := ggL_law_X4_init
set_option maxRecDepth 20000 in
theorem ggL_law_L_box : GoodIn wsL_law wsL_box := goodIn_ca (goodIn_ca (goodIn_r _ [69, 70, 71, 72, 73, 74, 2, 75, 76, 77, 78, 79, 25, 14, 13, 80, 81, 82, 83, 84, 85, 86, 87, 88, 11, 12, 17, 89, 90, 91, 92, 93, 94, 95, 96, 97, 98, 99, 582, 583, 584, 585, 586, 587, 588, 589, 590, 622, 623, 624, 625, 626, 627, 628, 629, 630, 631, 632] (by decide +kernel) (by decide +kernel)) (goodIn_sub (fun _ h => List.mem_append_left _ (List.mem_append_left _ (List.mem_append_right _ h))) (by decide +kernel))) (goodIn_sub (fun _ h => List.mem_append_left _ (List.mem_append_right _ h)) (by decide +kernel))
set_option maxRecDepth 20000 in
theorem gL_law_L_box : GoodIn wsL_law (va_wsS RL 90 yL_box wsL_box) := goodIn_app (goodIn_of _ (by decide +kernel)) ggL_law_L_box
set_option maxRecDepth 20000 in
theorem ggL_law_X4_box : GoodIn wsL_law wsX4_box := goodIn_r _ [103, 104, 48, 49, 105, 106, 5, 107, 108, 109, 110, 111, 112, 591, 592, 593, 594, 595, 596, 597, 598, 599, 600, 601, 602, 603, 604, 605, 606, 607, 608, 609, 610, 611, 612, 613] (by decide +kernel) (by decide +kernel)
set_option maxRecDepth 20000 in
theorem gL_law_X4_box : GoodIn wsL_law (wsV RL 95 RX4 yX4_box wsX4_box) := goodIn_app (goodIn_of _ (by decide +kernel)) ggL_law_X4_box
set_option maxRecDepth 20000 in
theorem ggL_law_X4_thrown : GoodIn wsL_law wsX4_thrown := goodIn_r _ [116, 112, 591, 592, 593, 594, 595, 596, 597, 598, 599, 600, 601, 602, 603, 604, 605, 606, 607, 608, 609, 610, 611, 612, 613] (by decide +kernel) (by decide +kernel)
set_option maxRecDepth 20000 in
theorem gL_law_X4_thrown : GoodIn wsL_law (wsV RL 96 RX4 yX4_thrown wsX4_thrown) := goodIn_app (goodIn_of _ (by decide +kernel)) ggL_law_X4_thrown
set_option maxRecDepth 20000 in
theorem ggL_law_L_setTrust : GoodIn wsL_law wsL_setTrust := goodIn_ca (goodIn_ca (goodIn_r _ [119, 120, 70, 121, 122, 123, 2, 124, 76, 77, 18, 125, 126, 127, 128, 129, 82, 83, 84, 130, 131, 132, 133, 14, 134, 135, 136, 137, 23, 24, 138, 22, 139, 140, 141, 142, 143, 144, 145, 146, 147, 148, 149, 150, 151, 152, 16, 153, 154, 155, 156, 81, 157, 93, 158, 159, 160, 161, 94, 162, 163, 164, 165, 92, 166, 167, 168, 169, 170, 171, 172, 173, 90, 174, 175, 176, 177, 178, 179, 180, 21, 181, 34, 35, 182, 183, 184, 185, 186, 187, 188, 189, 190, 191, 33, 582, 583, 584, 585, 586, 587, 588, 589, 590, 622, 623, 624, 625, 626, 627, 628, 629, 630, 631, 632, 617, 618, 619, 620, 621, 614, 615, 616] (by decide +kernel) (by decide +kernel)) (goodIn_sub (fun _ h => List.mem_append_left _ (List.mem_append_left _ (List.mem_append_right _ h))) (by decide +kernel))) (goodIn_sub (fun _ h => List.mem_append_right _ h) (by decide +kernel))
set_option maxRecDepth 20000 in
theorem gL_law_L_setTrust : GoodIn wsL_law (va_wsS RL 100 yL_setTrust wsL_setTrust) := goodIn_app (goodIn_of _ (by decide +kernel)) ggL_law_L_setTrust
set_option maxRecDepth 20000 in
theorem ggL_law_X4_setTrust : GoodIn wsL_law wsX4_setTrust := goodIn_r _ [195, 58, 105, 106, 5, 107, 108, 109, 110, 111, 112, 196, 197, 198, 199, 104, 52, 200, 49, 201, 53, 54, 202, 203, 204, 205, 50, 64, 65, 56, 55, 206, 207, 208, 209, 210, 211, 212, 213, 214, 215, 216, 57, 63, 217, 218, 219, 220, 221, 222, 223, 224, 591, 592, 593, 594, 595, 596, 597, 598, 599, 600, 601, 602, 603, 604, 605, 606, 607, 608, 609, 610, 611, 612, 613] (by decide +kernel) (by decide +kernel)
set_option maxRecDepth 20000 in
theorem gL_law_X4_setTrust : GoodIn wsL_law (wsV RL 102 RX4 yX4_setTrust wsX4_setTrust) := goodIn_app (goodIn_of _ (by decide +kernel)) ggL_law_X4_setTrust
set_option maxRecDepth 20000 in
theorem ggL_law_L_pass : GoodIn wsL_law wsL_pass := goodIn_ca (goodIn_ca (goodIn_r _ [227, 70, 71, 228, 229, 230, 2, 231, 76, 77, 78, 79, 26, 232, 82, 83, 84, 582, 583, 584, 585, 586, 587, 588, 589, 590] (by decide +kernel) (by decide +kernel)) (goodIn_sub (fun _ h => List.mem_append_left _ (List.mem_append_left _ (List.mem_append_right _ h))) (by decide +kernel))) (goodIn_sub (fun _ h => List.mem_append_left _ (List.mem_append_right _ h)) (by decide +kernel))
set_option maxRecDepth 20000 in
theorem gL_law_L_pass : GoodIn wsL_law (va_wsS RL 103 yL_pass wsL_pass) := goodIn_app (goodIn_of _ (by decide +kernel)) ggL_law_L_pass
set_option maxRecDepth 20000 in
theorem ggL_law_X4_pass : GoodIn wsL_law wsX4_pass := goodIn_r _ [236, 237, 238, 105, 106, 5, 107, 108, 109, 110, 111, 112, 591, 592, 593, 594, 595, 596, 597, 598, 599, 600, 601, 602, 603, 604, 605, 606, 607, 608, 609, 610, 611, 612, 613] (by decide +kernel) (by decide +kernel)
set_option maxRecDepth 20000 in
theorem gL_law_X4_pass : GoodIn wsL_law (wsV RL 106 RX4 yX4_pass wsX4_pass) := goodIn_app (goodIn_of _ (by decide +kernel)) ggL_law_X4_pass
set_option maxRecDepth 20000 in
theorem ggL_law_L_scan : GoodIn wsL_law wsL_scan := goodIn_ca (goodIn_ca (goodIn_ca (goodIn_r _ [241, 120, 70, 71, 242, 243, 244, 2, 245, 76, 77, 246, 247, 248, 249, 128, 129, 14, 250, 251, 252, 82, 83, 84, 253, 254, 255, 78, 79, 147, 256, 257, 258, 259, 260, 261, 262, 26, 263, 264, 265, 81, 266, 93, 89, 90, 91, 92, 267, 268, 269, 270, 271, 272, 273, 274, 275, 276, 277, 134, 135, 136, 137, 23, 24, 138, 22, 139, 140, 141, 142, 143, 144, 145, 146, 148, 149, 150, 151, 152, 16, 153, 18, 154, 155, 156, 157, 158, 159, 160, 161, 94, 162, 163, 164, 165, 166, 167, 168, 169, 170, 171, 172, 173, 174, 175, 176, 177, 178, 179, 180, 21, 181, 34, 35, 182, 183, 184, 185, 186, 187, 188, 189, 190, 191, 33, 582, 583, 584, 585, 586, 587, 588, 589, 590, 622, 623, 624, 625, 626, 627, 628, 629, 630, 631, 632, 617, 618, 619, 620, 621, 614, 615, 616] (by decide +kernel) (by decide +kernel)) (goodIn_sub (fun _ h => List.mem_append_left _ (List.mem_append_left _ (List.mem_append_right _ h))) (by decide +kernel))) (goodIn_sub (fun _ h => List.mem_append_right _ h) (by decide +kernel))) (goodIn_sub (fun _ h => List.mem_append_left _ (List.mem_append_right _ h)) (by decide +kernel))
set_option maxRecDepth 20000 in
theorem gL_law_L_scan : GoodIn wsL_law (va_wsS RL 107 yL_scan wsL_scan) := goodIn_app (goodIn_of _ (by decide +kernel)) ggL_law_L_scan
set_option maxRecDepth 20000 in
theorem ggL_law_X4_scan : GoodIn wsL_law wsX4_scan := goodIn_r _ [281, 50, 282, 283, 284, 5, 285, 104, 105, 106, 107, 286, 287, 288, 289, 112, 290, 291, 292, 293, 55, 56, 237, 57, 196, 197, 198, 199, 52, 200, 49, 201, 53, 54, 202, 203, 204, 205, 64, 65, 206, 207, 208, 209, 210, 211, 212, 213, 214, 215, 216, 63, 58, 217, 218, 219, 220, 221, 222, 223, 224, 591, 592, 593, 594, 595, 596, 597, 598, 599, 600, 601, 602, 603, 604, 605, 606, 607, 608, 609, 610, 611, 612, 613] (by decide +kernel) (by decide +kernel)
set_option maxRecDepth 20000 in
theorem gL_law_X4_scan : GoodIn wsL_law (wsV RL 110 RX4 yX4_scan wsX4_scan) := goodIn_app (goodIn_of _ (by decide +kernel)) ggL_law_X4_scan
set_option maxRecDepth 20000 in
theorem ggL_law_L_lay : GoodIn wsL_law wsL_lay := goodIn_ca (goodIn_ca (goodIn_r _ [296, 120, 71, 297, 298, 299, 2, 300, 78, 79, 142, 301, 246, 247, 248, 249, 128, 129, 14, 302, 303, 304, 305, 16, 253, 254, 255, 147, 259, 260, 261, 262, 26, 263, 264, 265, 81, 266, 93, 89, 90, 91, 92, 267, 268, 269, 270, 271, 272, 273, 274, 275, 276, 277, 82, 83, 84, 134, 135, 136, 137, 23, 24, 138, 22, 139, 140, 141, 143, 144, 145, 146, 148, 149, 150, 151, 152, 153, 18, 154, 155, 156, 157, 158, 159, 160, 161, 94, 162, 163, 164, 165, 166, 167, 168, 169, 170, 171, 172, 173, 174, 175, 176, 177, 178, 179, 180, 21, 181, 34, 35, 182, 183, 184, 185, 186, 187, 188, 189, 190, 191, 33, 622, 623, 624, 625, 626, 627, 628, 629, 630, 631, 632, 617, 618, 619, 620, 621, 582, 583, 584, 585, 586, 587, 588, 589, 590, 614, 615, 616] (by decide +kernel) (by decide +kernel)) (goodIn_sub (fun _ h => List.mem_append_left _ (List.mem_append_right _ h)) (by decide +kernel))) (goodIn_sub (fun _ h => List.mem_append_right _ h) (by decide +kernel))
set_option maxRecDepth 20000 in
theorem gL_law_L_lay : GoodIn wsL_law (va_wsS RL 111 yL_lay wsL_lay) := goodIn_app (goodIn_of _ (by decide +kernel)) ggL_law_L_lay
set_option maxRecDepth 20000 in
theorem ggL_law_X4_lay : GoodIn wsL_law wsX4_lay := goodIn_r _ [309, 50, 48, 59, 282, 283, 284, 5, 285, 104, 105, 106, 107, 310, 311, 312, 108, 109, 110, 111, 112, 290, 291, 292, 293, 55, 56, 237, 57, 196, 197, 198, 199, 52, 200, 49, 201, 53, 54, 202, 203, 204, 205, 64, 65, 206, 207, 208, 209, 210, 211, 212, 213, 214, 215, 216, 63, 58, 217, 218, 219, 220, 221, 222, 223, 224, 591, 592, 593, 594, 595, 596, 597, 598, 599, 600, 601, 602, 603, 604, 605, 606, 607, 608, 609, 610, 611, 612, 613] (by decide +kernel) (by decide +kernel)
set_option maxRecDepth 20000 in
theorem gL_law_X4_lay : GoodIn wsL_law (wsV RL 113 RX4 yX4_lay wsX4_lay) := goodIn_app (goodIn_of _ (by decide +kernel)) ggL_law_X4_lay
set_option maxRecDepth 20000 in
theorem ggL_law_L_find : GoodIn wsL_law wsL_find := goodIn_ca (goodIn_ca (goodIn_r _ [315, 120, 71, 316, 317, 318, 2, 319, 128, 129, 246, 247, 248, 249, 14, 275, 276, 277, 82, 83, 84, 253, 254, 255, 78, 79, 147, 259, 260, 261, 262, 26, 263, 264, 265, 81, 266, 93, 89, 90, 91, 92, 267, 268, 269, 270, 271, 272, 273, 274, 134, 135, 136, 137, 23, 24, 138, 22, 139, 140, 141, 142, 143, 144, 145, 146, 148, 149, 150, 151, 152, 16, 153, 18, 154, 155, 156, 157, 158, 159, 160, 161, 94, 162, 163, 164, 165, 166, 167, 168, 169, 170, 171, 172, 173, 174, 175, 176, 177, 178, 179, 180, 21, 181, 34, 35, 182, 183, 184, 185, 186, 187, 188, 189, 190, 191, 33, 582, 583, 584, 585, 586, 587, 588, 589, 590, 622, 623, 624, 625, 626, 627, 628, 629, 630, 631, 632, 617, 618, 619, 620, 621, 614, 615, 616] (by decide +kernel) (by decide +kernel)) (goodIn_sub (fun _ h => List.mem_append_right _ h) (by decide +kernel))) (goodIn_sub (fun _ h => List.mem_append_left _ (List.mem_append_right _ h)) (by decide +kernel))
set_option maxRecDepth 20000 in
theorem gL_law_L_find : GoodIn wsL_law (va_wsS RL 114 yL_find wsL_find) := goodIn_app (goodIn_of _ (by decide +kernel)) ggL_law_L_find
set_option maxRecDepth 20000 in
theorem ggL_law_X4_find : GoodIn wsL_law wsX4_find := goodIn_r _ [323, 50, 282, 283, 284, 5, 285, 104, 105, 106, 107, 324, 325, 326, 108, 109, 110, 111, 112, 290, 291, 292, 293, 55, 56, 237, 57, 196, 197, 198, 199, 52, 200, 49, 201, 53, 54, 202, 203, 204, 205, 64, 65, 206, 207, 208, 209, 210, 211, 212, 213, 214, 215, 216, 63, 58, 217, 218, 219, 220, 221, 222, 223, 224, 591, 592, 593, 594, 595, 596, 597, 598, 599, 600, 601, 602, 603, 604, 605, 606, 607, 608, 609, 610, 611, 612, 613] (by decide +kernel) (by decide +kernel)
set_option maxRecDepth 20000 in
theorem gL_law_X4_find : GoodIn wsL_law (wsV RL 116 RX4 yX4_find wsX4_find) := goodIn_app (goodIn_of _ (by decide +kernel)) ggL_law_X4_find
set_option maxRecDepth 20000 in
theorem ggL_law_L_setDoor : GoodIn wsL_law wsL_setDoor := goodIn_ca (goodIn_ca (goodIn_ca (goodIn_r _ [329, 120, 70, 71, 330, 331, 332, 2, 333, 76, 77, 78, 79, 301, 302, 303, 304, 305, 128, 129, 16, 82, 83, 84, 334, 335, 336, 29, 337, 41, 617, 618, 619, 620, 621, 582, 583, 584, 585, 586, 587, 588, 589, 590] (by decide +kernel) (by decide +kernel)) (goodIn_sub (fun _ h => List.mem_append_left _ (List.mem_append_left _ (List.mem_append_right _ h))) (by decide +kernel))) (goodIn_sub (fun _ h => List.mem_append_left _ (List.mem_append_right _ h)) (by decide +kernel))) (goodIn_sub (fun _ h => List.mem_append_right _ h) (by decide +kernel))
set_option maxRecDepth 20000 in
theorem gL_law_L_setDoor : GoodIn wsL_law (va_wsS RL 117 yL_setDoor wsL_setDoor) := goodIn_app (goodIn_of _ (by decide +kernel)) ggL_law_L_setDoor
set_option maxRecDepth 20000 in
theorem ggL_law_X4_setDoor : GoodIn wsL_law wsX4_setDoor := goodIn_r _ [341, 60, 59, 310, 311, 5, 312, 105, 106, 107, 286, 287, 288, 289, 112, 591, 592, 593, 594, 595, 596, 597, 598, 599, 600, 601, 602, 603, 604, 605, 606, 607, 608, 609, 610, 611, 612, 613] (by decide +kernel) (by decide +kernel)
set_option maxRecDepth 20000 in
theorem gL_law_X4_setDoor : GoodIn wsL_law (wsV RL 119 RX4 yX4_setDoor wsX4_setDoor) := goodIn_app (goodIn_of _ (by decide +kernel)) ggL_law_X4_setDoor
set_option maxRecDepth 20000 in
theorem ggL_law_L_keep : GoodIn wsL_law wsL_keep := goodIn_ca (goodIn_ca (goodIn_r _ [344, 120, 71, 345, 346, 347, 2, 348, 78, 79, 153, 301, 142, 349, 27, 350, 351, 302, 303, 304, 305, 128, 129, 16, 246, 247, 248, 249, 14, 334, 335, 336, 29, 337, 41, 617, 618, 619, 620, 621, 622, 623, 624, 625, 626, 627, 628, 629, 630, 631, 632, 582, 583, 584, 585, 586, 587, 588, 589, 590] (by decide +kernel) (by decide +kernel)) (goodIn_sub (fun _ h => List.mem_append_left _ (List.mem_append_right _ h)) (by decide +kernel))) (goodIn_sub (fun _ h => List.mem_append_right _ h) (by decide +kernel))
set_option maxRecDepth 20000 in
theorem gL_law_L_keep : GoodIn wsL_law (va_wsS RL 120 yL_keep wsL_keep) := goodIn_app (goodIn_of _ (by decide +kernel)) ggL_law_L_keep
set_option maxRecDepth 20000 in
theorem ggL_law_X4_keep : GoodIn wsL_law wsX4_keep := goodIn_r _ [355, 60, 63, 59, 48, 61, 356, 62, 310, 311, 5, 312, 105, 106, 107, 282, 283, 284, 285, 104, 108, 109, 110, 111, 112, 591, 592, 593, 594, 595, 596, 597, 598, 599, 600, 601, 602, 603, 604, 605, 606, 607, 608, 609, 610, 611, 612, 613] (by decide +kernel) (by decide +kernel)
set_option maxRecDepth 20000 in
theorem gL_law_X4_keep : GoodIn wsL_law (wsV RL 122 RX4 yX4_keep wsX4_keep) := goodIn_app (goodIn_of _ (by decide +kernel)) ggL_law_X4_keep
set_option maxRecDepth 20000 in
theorem ggL_law_L_open : GoodIn wsL_law wsL_open := goodIn_ca (goodIn_ca (goodIn_ca (goodIn_r _ [359, 120, 70, 71, 360, 361, 362, 2, 363, 76, 77, 78, 79, 153, 350, 349, 302, 303, 304, 305, 128, 129, 16, 82, 83, 84, 334, 335, 336, 29, 337, 41, 364, 365, 366, 367, 351, 130, 131, 132, 133, 14, 134, 135, 136, 137, 23, 24, 138, 22, 139, 140, 141, 142, 143, 144, 145, 146, 147, 148, 149, 150, 151, 152, 18, 154, 155, 156, 81, 157, 93, 158, 159, 160, 161, 94, 162, 163, 164, 165, 92, 166, 167, 168, 169, 170, 171, 172, 173, 90, 174, 175, 176, 177, 178, 179, 180, 21, 181, 34, 35, 182, 183, 184, 185, 186, 187, 188, 189, 190, 191, 33, 246, 247, 248, 249, 259, 260, 261, 262, 26, 263, 264, 265, 266, 89, 91, 267, 268, 269, 270, 271, 272, 273, 274, 275, 276, 277, 617, 618, 619, 620, 621, 582, 583, 584, 585, 586, 587, 588, 589, 590, 622, 623, 624, 625, 626, 627, 628, 629, 630, 631, 632, 614, 615, 616] (by decide +kernel) (by decide +kernel)) (goodIn_sub (fun _ h => List.mem_append_left _ (List.mem_append_left _ (List.mem_append_right _ h))) (by decide +kernel))) (goodIn_sub (fun _ h => List.mem_append_left _ (List.mem_append_right _ h)) (by decide +kernel))) (goodIn_sub (fun _ h => List.mem_append_right _ h) (by decide +kernel))
set_option maxRecDepth 20000 in
theorem gL_law_L_open : GoodIn wsL_law (va_wsS RL 123 yL_open wsL_open) := goodIn_app (goodIn_of _ (by decide +kernel)) ggL_law_L_open
set_option maxRecDepth 20000 in
theorem ggL_law_X4_open : GoodIn wsL_law wsX4_open := goodIn_r _ [371, 60, 63, 61, 62, 50, 310, 311, 5, 312, 105, 106, 107, 286, 287, 288, 289, 112, 196, 197, 198, 199, 104, 52, 200, 49, 201, 53, 54, 202, 203, 204, 205, 64, 65, 56, 55, 206, 207, 208, 209, 210, 211, 212, 213, 214, 215, 216, 57, 58, 217, 218, 219, 220, 221, 222, 223, 224, 290, 291, 292, 293, 237, 591, 592, 593, 594, 595, 596, 597, 598, 599, 600, 601, 602, 603, 604, 605, 606, 607, 608, 609, 610, 611, 612, 613] (by decide +kernel) (by decide +kernel)
set_option maxRecDepth 20000 in
theorem gL_law_X4_open : GoodIn wsL_law (wsV RL 125 RX4 yX4_open wsX4_open) := goodIn_app (goodIn_of _ (by decide +kernel)) ggL_law_X4_open
set_option maxRecDepth 20000 in
theorem ggL_law_L_jam : GoodIn wsL_law wsL_jam := goodIn_ca (goodIn_r _ [374, 120, 375, 376, 377, 2, 378, 153, 351, 302, 303, 304, 305, 128, 129, 16, 130, 131, 132, 133, 14, 134, 135, 136, 137, 23, 24, 138, 22, 139, 140, 141, 142, 143, 144, 145, 146, 147, 148, 149, 150, 151, 152, 18, 82, 83, 84, 154, 155, 156, 81, 157, 93, 158, 159, 160, 161, 94, 162, 163, 164, 165, 92, 166, 167, 168, 169, 170, 171, 172, 173, 90, 174, 175, 176, 177, 178, 179, 180, 21, 181, 34, 35, 182, 183, 184, 185, 186, 187, 188, 189, 190, 191, 33, 617, 618, 619, 620, 621, 582, 583, 584, 585, 586, 587, 588, 589, 590, 622, 623, 624, 625, 626, 627, 628, 629, 630, 631, 632, 614, 615, 616] (by decide +kernel) (by decide +kernel)) (goodIn_sub (fun _ h => List.mem_append_right _ h) (by decide +kernel))
set_option maxRecDepth 20000 in
theorem gL_law_L_jam : GoodIn wsL_law (va_wsS RL 126 yL_jam wsL_jam) := goodIn_app (goodIn_of _ (by decide +kernel)) ggL_law_L_jam
set_option maxRecDepth 20000 in
theorem ggL_law_X4_jam : GoodIn wsL_law wsX4_jam := goodIn_r _ [382, 63, 62, 310, 311, 5, 312, 105, 106, 107, 383, 384, 385, 386, 112, 196, 197, 198, 199, 104, 52, 200, 49, 201, 53, 54, 202, 203, 204, 205, 50, 64, 65, 56, 55, 206, 207, 208, 209, 210, 211, 212, 213, 214, 215, 216, 57, 58, 217, 218, 219, 220, 221, 222, 223, 224, 591, 592, 593, 594, 595, 596, 597, 598, 599, 600, 601, 602, 603, 604, 605, 606, 607, 608, 609, 610, 611, 612, 613] (by decide +kernel) (by decide +kernel)
set_option maxRecDepth 20000 in
theorem gL_law_X4_jam : GoodIn wsL_law (wsV RL 129 RX4 yX4_jam wsX4_jam) := goodIn_app (goodIn_of _ (by decide +kernel)) ggL_law_X4_jam
set_option maxRecDepth 20000 in
theorem ggL_law_L_claim : GoodIn wsL_law wsL_claim := goodIn_ca (goodIn_ca (goodIn_r _ [389, 120, 71, 390, 391, 392, 2, 393, 78, 79, 138, 26, 22, 139, 246, 247, 248, 249, 128, 129, 14, 166, 167, 168, 81, 169, 170, 171, 172, 173, 93, 90, 174, 175, 176, 177, 94, 394, 395, 396, 397, 89, 398, 399, 400, 21, 401, 34, 35, 622, 623, 624, 625, 626, 627, 628, 629, 630, 631, 632, 582, 583, 584, 585, 586, 587, 588, 589, 590, 614, 615, 616] (by decide +kernel) (by decide +kernel)) (goodIn_sub (fun _ h => List.mem_append_left _ (List.mem_append_right _ h)) (by decide +kernel))) (goodIn_sub (fun _ h => List.mem_append_right _ h) (by decide +kernel))
set_option maxRecDepth 20000 in
theorem gL_law_L_claim : GoodIn wsL_law (va_wsS RL 130 yL_claim wsL_claim) := goodIn_app (goodIn_of _ (by decide +kernel)) ggL_law_L_claim
set_option maxRecDepth 20000 in
theorem ggL_law_X4_claim : GoodIn wsL_law wsX4_claim := goodIn_r _ [405, 52, 50, 237, 56, 200, 49, 201, 282, 283, 284, 5, 285, 104, 105, 106, 107, 202, 203, 204, 205, 64, 65, 55, 206, 207, 208, 209, 210, 211, 212, 213, 214, 215, 216, 57, 63, 58, 217, 218, 219, 220, 108, 109, 110, 111, 112, 591, 592, 593, 594, 595, 596, 597, 598, 599, 600, 601, 602, 603, 604, 605, 606, 607, 608, 609, 610, 611, 612, 613] (by decide +kernel) (by decide +kernel)
set_option maxRecDepth 20000 in
theorem gL_law_X4_claim : GoodIn wsL_law (wsV RL 132 RX4 yX4_claim wsX4_claim) := goodIn_app (goodIn_of _ (by decide +kernel)) ggL_law_X4_claim
set_option maxRecDepth 20000 in
theorem ggL_law_X3_time : GoodIn wsL_law wsX3_time := goodIn_r _ [409, 26, 582, 583, 584, 585, 586, 587, 588, 589, 590] (by decide +kernel) (by decide +kernel)
set_option maxRecDepth 20000 in
theorem gL_law_X3_time : GoodIn wsL_law (wsV RL 133 RX3 yX3_time wsX3_time) := goodIn_app (goodIn_of _ (by decide +kernel)) ggL_law_X3_time
set_option maxRecDepth 20000 in
theorem ggL_law_X4_time : GoodIn wsL_law wsX4_time := goodIn_r _ [413, 237, 414, 415, 416, 5, 417, 112, 591, 592, 593, 594, 595, 596, 597, 598, 599, 600, 601, 602, 603, 604, 605, 606, 607, 608, 609, 610, 611, 612, 613] (by decide +kernel) (by decide +kernel)
set_option maxRecDepth 20000 in
theorem gL_law_X4_time : GoodIn wsL_law (wsV RL 136 RX4 yX4_time wsX4_time) := goodIn_app (goodIn_of _ (by decide +kernel)) ggL_law_X4_time
set_option maxRecDepth 20000 in
theorem ggL_law_X3_boxes : GoodIn wsL_law wsX3_boxes := goodIn_r _ [421, 25, 582, 583, 584, 585, 586, 587, 588, 589, 590] (by decide +kernel) (by decide +kernel)
set_option maxRecDepth 20000 in
theorem gL_law_X3_boxes : GoodIn wsL_law (wsV RL 137 RX3 yX3_boxes wsX3_boxes) := goodIn_app (goodIn_of _ (by decide +kernel)) ggL_law_X3_boxes
set_option maxRecDepth 20000 in
theorem ggL_law_X4_boxes : GoodIn wsL_law wsX4_boxes := goodIn_r _ [425, 104, 414, 415, 416, 5, 417, 112, 591, 592, 593, 594, 595, 596, 597, 598, 599, 600, 601, 602, 603, 604, 605, 606, 607, 608, 609, 610, 611, 612, 613] (by decide +kernel) (by decide +kernel)
set_option maxRecDepth 20000 in
theorem gL_law_X4_boxes : GoodIn wsL_law (wsV RL 140 RX4 yX4_boxes wsX4_boxes) := goodIn_app (goodIn_of _ (by decide +kernel)) ggL_law_X4_boxes
set_option maxRecDepth 20000 in
theorem ggL_law_L_scans : GoodIn wsL_law wsL_scans := goodIn_ca (goodIn_r _ [428, 120, 429, 430, 431, 2, 432, 147, 246, 247, 248, 249, 128, 129, 14, 622, 623, 624, 625, 626, 627, 628, 629, 630, 631, 632, 582, 583, 584, 585, 586, 587, 588, 589, 590] (by decide +kernel) (by decide +kernel)) (goodIn_sub (fun _ h => List.mem_append_right _ h) (by decide +kernel))
set_option maxRecDepth 20000 in
theorem gL_law_L_scans : GoodIn wsL_law (va_wsS RL 141 yL_scans wsL_scans) := goodIn_app (goodIn_of _ (by decide +kernel)) ggL_law_L_scans
set_option maxRecDepth 20000 in
theorem ggL_law_X4_scans : GoodIn wsL_law wsX4_scans := goodIn_r _ [436, 50, 282, 283, 284, 5, 285, 104, 105, 106, 107, 383, 384, 385, 386, 112, 591, 592, 593, 594, 595, 596, 597, 598, 599, 600, 601, 602, 603, 604, 605, 606, 607, 608, 609, 610, 611, 612, 613] (by decide +kernel) (by decide +kernel)
set_option maxRecDepth 20000 in
theorem gL_law_X4_scans : GoodIn wsL_law (wsV RL 143 RX4 yX4_scans wsX4_scans) := goodIn_app (goodIn_of _ (by decide +kernel)) ggL_law_X4_scans
set_option maxRecDepth 20000 in
theorem ggL_law_L_story : GoodIn wsL_law wsL_story := goodIn_ca (goodIn_r _ [439, 120, 440, 441, 442, 2, 443, 444, 246, 247, 248, 249, 128, 129, 14, 622, 623, 624, 625, 626, 627, 628, 629, 630, 631, 632, 582, 583, 584, 585, 586, 587, 588, 589, 590] (by decide +kernel) (by decide +kernel)) (goodIn_sub (fun _ h => List.mem_append_right _ h) (by decide +kernel))
set_option maxRecDepth 20000 in
theorem gL_law_L_story : GoodIn wsL_law (va_wsS RL 144 yL_story wsL_story) := goodIn_app (goodIn_of _ (by decide +kernel)) ggL_law_L_story
set_option maxRecDepth 20000 in
theorem ggL_law_X4_story : GoodIn wsL_law wsX4_story := goodIn_r _ [448, 282, 283, 284, 5, 285, 104, 105, 106, 107, 383, 384, 385, 386, 112, 202, 203, 204, 205, 50, 64, 65, 56, 55, 206, 207, 208, 209, 210, 211, 212, 213, 214, 215, 216, 57, 63, 58, 591, 592, 593, 594, 595, 596, 597, 598, 599, 600, 601, 602, 603, 604, 605, 606, 607, 608, 609, 610, 611, 612, 613] (by decide +kernel) (by decide +kernel)
set_option maxRecDepth 20000 in
theorem gL_law_X4_story : GoodIn wsL_law (wsV RL 146 RX4 yX4_story wsX4_story) := goodIn_app (goodIn_of _ (by decide +kernel)) ggL_law_X4_story
set_option maxRecDepth 20000 in
theorem ggL_law_L_storyOfAll : GoodIn wsL_law wsL_storyOfAll := goodIn_ca (goodIn_r _ [451, 120, 452, 453, 454, 2, 455, 23, 246, 247, 248, 249, 128, 129, 14, 143, 144, 145, 146, 147, 148, 149, 150, 151, 152, 16, 153, 18, 82, 83, 84, 456, 457, 458, 459, 159, 160, 161, 460, 163, 164, 81, 165, 92, 582, 583, 584, 585, 586, 587, 588, 589, 590, 622, 623, 624, 625, 626, 627, 628, 629, 630, 631, 632, 617, 618, 619, 620, 621] (by decide +kernel) (by decide +kernel)) (goodIn_sub (fun _ h => List.mem_append_right _ h) (by decide +kernel))
set_option maxRecDepth 20000 in
theorem gL_law_L_storyOfAll : GoodIn wsL_law (va_wsS RL 147 yL_storyOfAll wsL_storyOfAll) := goodIn_app (goodIn_of _ (by decide +kernel)) ggL_law_L_storyOfAll
set_option maxRecDepth 20000 in
theorem ggL_law_X4_storyOfAll : GoodIn wsL_law wsX4_storyOfAll := goodIn_r _ [464, 465, 446, 447, 5, 448, 282, 283, 284, 285, 104, 105, 106, 107, 383, 384, 385, 386, 112, 202, 203, 204, 205, 50, 64, 65, 56, 55, 206, 207, 208, 209, 210, 211, 212, 213, 214, 215, 216, 57, 63, 58, 591, 592, 593, 594, 595, 596, 597, 598, 599, 600, 601, 602, 603, 604, 605, 606, 607, 608, 609, 610, 611, 612, 613] (by decide +kernel) (by decide +kernel)
set_option maxRecDepth 20000 in
theorem gL_law_X4_storyOfAll : GoodIn wsL_law (wsV RL 149 RX4 yX4_storyOfAll wsX4_storyOfAll) := goodIn_app (goodIn_of _ (by decide +kernel)) ggL_law_X4_storyOfAll
set_option maxRecDepth 20000 in
theorem ggL_law_L_placeOf : GoodIn wsL_law wsL_placeOf := goodIn_ca (goodIn_r _ [468, 120, 469, 470, 471, 2, 472, 246, 247, 248, 249, 128, 129, 14, 473, 171, 172, 81, 173, 93, 90, 174, 175, 176, 177, 94, 582, 583, 584, 585, 586, 587, 588, 589, 590, 622, 623, 624, 625, 626, 627, 628, 629, 630, 631, 632] (by decide +kernel) (by decide +kernel)) (goodIn_sub (fun _ h => List.mem_append_right _ h) (by decide +kernel))
set_option maxRecDepth 20000 in
theorem gL_law_L_placeOf : GoodIn wsL_law (va_wsS RL 150 yL_placeOf wsL_placeOf) := goodIn_app (goodIn_of _ (by decide +kernel)) ggL_law_L_placeOf
set_option maxRecDepth 20000 in
theorem ggL_law_X4_placeOf : GoodIn wsL_law wsX4_placeOf := goodIn_r _ [477, 282, 283, 284, 5, 285, 104, 105, 106, 107, 383, 384, 385, 386, 112, 202, 203, 204, 205, 50, 64, 65, 56, 55, 206, 207, 208, 209, 210, 211, 212, 213, 214, 215, 216, 57, 63, 58, 217, 218, 219, 220, 591, 592, 593, 594, 595, 596, 597, 598, 599, 600, 601, 602, 603, 604, 605, 606, 607, 608, 609, 610, 611, 612, 613] (by decide +kernel) (by decide +kernel)
set_option maxRecDepth 20000 in
theorem gL_law_X4_placeOf : GoodIn wsL_law (wsV RL 152 RX4 yX4_placeOf wsX4_placeOf) := goodIn_app (goodIn_of _ (by decide +kernel)) ggL_law_X4_placeOf
set_option maxRecDepth 20000 in
theorem ggL_law_L_lies : GoodIn wsL_law wsL_lies := goodIn_ca (goodIn_r _ [480, 120, 481, 482, 483, 2, 484, 14, 125, 126, 127, 128, 129, 485, 486, 487, 81, 488, 93, 91, 174, 175, 176, 177, 94, 582, 583, 584, 585, 586, 587, 588, 589, 590, 622, 623, 624, 625, 626, 627, 628, 629, 630, 631, 632] (by decide +kernel) (by decide +kernel)) (goodIn_sub (fun _ h => List.mem_append_right _ h) (by decide +kernel))
set_option maxRecDepth 20000 in
theorem gL_law_L_lies : GoodIn wsL_law (va_wsS RL 153 yL_lies wsL_lies) := goodIn_app (goodIn_of _ (by decide +kernel)) ggL_law_L_lies
set_option maxRecDepth 20000 in
theorem ggL_law_X4_lies : GoodIn wsL_law wsX4_lies := goodIn_r _ [492, 104, 50, 57, 105, 106, 5, 107, 383, 384, 385, 386, 112, 202, 203, 204, 205, 64, 65, 56, 55, 206, 207, 208, 209, 210, 211, 212, 213, 214, 215, 216, 63, 58, 591, 592, 593, 594, 595, 596, 597, 598, 599, 600, 601, 602, 603, 604, 605, 606, 607, 608, 609, 610, 611, 612, 613] (by decide +kernel) (by decide +kernel)
set_option maxRecDepth 20000 in
theorem gL_law_X4_lies : GoodIn wsL_law (wsV RL 155 RX4 yX4_lies wsX4_lies) := goodIn_app (goodIn_of _ (by decide +kernel)) ggL_law_X4_lies
set_option maxRecDepth 20000 in
theorem ggL_law_L_hasFee : GoodIn wsL_law wsL_hasFee := goodIn_ca (goodIn_r _ [495, 120, 496, 497, 498, 2, 499, 140, 246, 247, 248, 249, 128, 129, 14, 622, 623, 624, 625, 626, 627, 628, 629, 630, 631, 632, 582, 583, 584, 585, 586, 587, 588, 589, 590] (by decide +kernel) (by decide +kernel)) (goodIn_sub (fun _ h => List.mem_append_right _ h) (by decide +kernel))
set_option maxRecDepth 20000 in
theorem gL_law_L_hasFee : GoodIn wsL_law (va_wsS RL 156 yL_hasFee wsL_hasFee) := goodIn_app (goodIn_of _ (by decide +kernel)) ggL_law_L_hasFee
set_option maxRecDepth 20000 in
theorem ggL_law_X4_hasFee : GoodIn wsL_law wsX4_hasFee := goodIn_r _ [503, 53, 282, 283, 284, 5, 285, 104, 105, 106, 107, 383, 384, 385, 386, 112, 591, 592, 593, 594, 595, 596, 597, 598, 599, 600, 601, 602, 603, 604, 605, 606, 607, 608, 609, 610, 611, 612, 613] (by decide +kernel) (by decide +kernel)
set_option maxRecDepth 20000 in
theorem gL_law_X4_hasFee : GoodIn wsL_law (wsV RL 158 RX4 yX4_hasFee wsX4_hasFee) := goodIn_app (goodIn_of _ (by decide +kernel)) ggL_law_X4_hasFee
set_option maxRecDepth 20000 in
theorem ggL_law_L_isInsured : GoodIn wsL_law wsL_isInsured := goodIn_ca (goodIn_r _ [506, 120, 507, 508, 509, 2, 510, 138, 246, 247, 248, 249, 128, 129, 14, 622, 623, 624, 625, 626, 627, 628, 629, 630, 631, 632, 582, 583, 584, 585, 586, 587, 588, 589, 590] (by decide +kernel) (by decide +kernel)) (goodIn_sub (fun _ h => List.mem_append_right _ h) (by decide +kernel))
set_option maxRecDepth 20000 in
theorem gL_law_L_isInsured : GoodIn wsL_law (va_wsS RL 159 yL_isInsured wsL_isInsured) := goodIn_app (goodIn_of _ (by decide +kernel)) ggL_law_L_isInsured
set_option maxRecDepth 20000 in
theorem ggL_law_X4_isInsured : GoodIn wsL_law wsX4_isInsured := goodIn_r _ [514, 52, 282, 283, 284, 5, 285, 104, 105, 106, 107, 383, 384, 385, 386, 112, 591, 592, 593, 594, 595, 596, 597, 598, 599, 600, 601, 602, 603, 604, 605, 606, 607, 608, 609, 610, 611, 612, 613] (by decide +kernel) (by decide +kernel)
set_option maxRecDepth 20000 in
theorem gL_law_X4_isInsured : GoodIn wsL_law (wsV RL 161 RX4 yX4_isInsured wsX4_isInsured) := goodIn_app (goodIn_of _ (by decide +kernel)) ggL_law_X4_isInsured
set_option maxRecDepth 20000 in
theorem ggL_law_L_fees : GoodIn wsL_law wsL_fees := goodIn_ca (goodIn_r _ [517, 120, 518, 519, 520, 2, 521, 22, 522, 250, 251, 252, 128, 129, 582, 583, 584, 585, 586, 587, 588, 589, 590, 614, 615, 616] (by decide +kernel) (by decide +kernel)) (goodIn_sub (fun _ h => List.mem_append_right _ h) (by decide +kernel))
set_option maxRecDepth 20000 in
theorem gL_law_L_fees : GoodIn wsL_law (va_wsS RL 162 yL_fees wsL_fees) := goodIn_app (goodIn_of _ (by decide +kernel)) ggL_law_L_fees
set_option maxRecDepth 20000 in
theorem ggL_law_X4_fees : GoodIn wsL_law wsX4_fees := goodIn_r _ [526, 104, 53, 54, 48, 105, 106, 5, 107, 383, 384, 385, 386, 112, 591, 592, 593, 594, 595, 596, 597, 598, 599, 600, 601, 602, 603, 604, 605, 606, 607, 608, 609, 610, 611, 612, 613] (by decide +kernel) (by decide +kernel)
set_option maxRecDepth 20000 in
theorem gL_law_X4_fees : GoodIn wsL_law (wsV RL 164 RX4 yX4_fees wsX4_fees) := goodIn_app (goodIn_of _ (by decide +kernel)) ggL_law_X4_fees
set_option maxRecDepth 20000 in
theorem ggL_law_X3_insurers : GoodIn wsL_law wsX3_insurers := goodIn_r _ [530, 22, 531, 582, 583, 584, 585, 586, 587, 588, 589, 590, 614, 615, 616] (by decide +kernel) (by decide +kernel)
set_option maxRecDepth 20000 in
theorem gL_law_X3_insurers : GoodIn wsL_law (wsV RL 165 RX3 yX3_insurers wsX3_insurers) := goodIn_app (goodIn_of _ (by decide +kernel)) ggL_law_X3_insurers
set_option maxRecDepth 20000 in
theorem ggL_law_X4_insurers : GoodIn wsL_law wsX4_insurers := goodIn_r _ [535, 200, 414, 415, 416, 5, 417, 112, 591, 592, 593, 594, 595, 596, 597, 598, 599, 600, 601, 602, 603, 604, 605, 606, 607, 608, 609, 610, 611, 612, 613] (by decide +kernel) (by decide +kernel)
set_option maxRecDepth 20000 in
theorem gL_law_X4_insurers : GoodIn wsL_law (wsV RL 168 RX4 yX4_insurers wsX4_insurers) := goodIn_app (goodIn_of _ (by decide +kernel)) ggL_law_X4_insurers
set_option maxRecDepth 20000 in
theorem ggL_law_X3_entries : GoodIn wsL_law wsX3_entries := goodIn_r _ [539, 22, 540, 582, 583, 584, 585, 586, 587, 588, 589, 590, 614, 615, 616] (by decide +kernel) (by decide +kernel)
set_option maxRecDepth 20000 in
theorem gL_law_X3_entries : GoodIn wsL_law (wsV RL 169 RX3 yX3_entries wsX3_entries) := goodIn_app (goodIn_of _ (by decide +kernel)) ggL_law_X3_entries
set_option maxRecDepth 20000 in
theorem ggL_law_X4_entries : GoodIn wsL_law wsX4_entries := goodIn_r _ [544, 201, 414, 415, 416, 5, 417, 112, 591, 592, 593, 594, 595, 596, 597, 598, 599, 600, 601, 602, 603, 604, 605, 606, 607, 608, 609, 610, 611, 612, 613] (by decide +kernel) (by decide +kernel)
set_option maxRecDepth 20000 in
theorem gL_law_X4_entries : GoodIn wsL_law (wsV RL 172 RX4 yX4_entries wsX4_entries) := goodIn_app (goodIn_of _ (by decide +kernel)) ggL_law_X4_entries
set_option maxRecDepth 20000 in
theorem ggL_law_L_fine : GoodIn wsL_law wsL_fine := goodIn_ca (goodIn_r _ [547, 120, 548, 549, 550, 2, 551, 26, 459, 159, 160, 161, 246, 247, 248, 249, 128, 129, 14, 473, 171, 172, 81, 173, 93, 90, 174, 175, 176, 177, 94, 275, 276, 277, 82, 83, 84, 552, 553, 554, 555, 89, 170, 582, 583, 584, 585, 586, 587, 588, 589, 590, 622, 623, 624, 625, 626, 627, 628, 629, 630, 631, 632] (by decide +kernel) (by decide +kernel)) (goodIn_sub (fun _ h => List.mem_append_right _ h) (by decide +kernel))
set_option maxRecDepth 20000 in
theorem gL_law_L_fine : GoodIn wsL_law (va_wsS RL 173 yL_fine wsL_fine) := goodIn_app (goodIn_of _ (by decide +kernel)) ggL_law_L_fine
set_option maxRecDepth 20000 in
theorem ggL_law_X4_fine : GoodIn wsL_law wsX4_fine := goodIn_r _ [559, 237, 50, 55, 56, 282, 283, 284, 5, 285, 104, 105, 106, 107, 383, 384, 385, 386, 112, 202, 203, 204, 205, 64, 65, 206, 207, 208, 209, 210, 211, 212, 213, 214, 215, 216, 57, 63, 58, 217, 218, 219, 220, 591, 592, 593, 594, 595, 596, 597, 598, 599, 600, 601, 602, 603, 604, 605, 606, 607, 608, 609, 610, 611, 612, 613] (by decide +kernel) (by decide +kernel)
set_option maxRecDepth 20000 in
theorem gL_law_X4_fine : GoodIn wsL_law (wsV RL 175 RX4 yX4_fine wsX4_fine) := goodIn_app (goodIn_of _ (by decide +kernel)) ggL_law_X4_fine
set_option maxRecDepth 20000 in
theorem ggL_law_L_isJammed : GoodIn wsL_law wsL_isJammed := goodIn_ca (goodIn_r _ [562, 120, 563, 564, 565, 2, 566, 153, 302, 303, 304, 305, 128, 129, 16, 617, 618, 619, 620, 621, 582, 583, 584, 585, 586, 587, 588, 589, 590] (by decide +kernel) (by decide +kernel)) (goodIn_sub (fun _ h => List.mem_append_right _ h) (by decide +kernel))
set_option maxRecDepth 20000 in
theorem gL_law_L_isJammed : GoodIn wsL_law (va_wsS RL 176 yL_isJammed wsL_isJammed) := goodIn_app (goodIn_of _ (by decide +kernel)) ggL_law_L_isJammed
set_option maxRecDepth 20000 in
theorem ggL_law_X4_isJammed : GoodIn wsL_law wsX4_isJammed := goodIn_r _ [570, 63, 310, 311, 5, 312, 105, 106, 107, 383, 384, 385, 386, 112, 591, 592, 593, 594, 595, 596, 597, 598, 599, 600, 601, 602, 603, 604, 605, 606, 607, 608, 609, 610, 611, 612, 613] (by decide +kernel) (by decide +kernel)
set_option maxRecDepth 20000 in
theorem gL_law_X4_isJammed : GoodIn wsL_law (wsV RL 178 RX4 yX4_isJammed wsX4_isJammed) := goodIn_app (goodIn_of _ (by decide +kernel)) ggL_law_X4_isJammed
set_option maxRecDepth 20000 in
theorem ggL_law_L_keptFor : GoodIn wsL_law wsL_keptFor := goodIn_ca (goodIn_r _ [573, 120, 574, 575, 576, 2, 577, 349, 302, 303, 304, 305, 128, 129, 16, 617, 618, 619, 620, 621, 582, 583, 584, 585, 586, 587, 588, 589, 590] (by decide +kernel) (by decide +kernel)) (goodIn_sub (fun _ h => List.mem_append_right _ h) (by decide +kernel))
set_option maxRecDepth 20000 in
theorem gL_law_L_keptFor : GoodIn wsL_law (va_wsS RL 179 yL_keptFor wsL_keptFor) := goodIn_app (goodIn_of _ (by decide +kernel)) ggL_law_L_keptFor
set_option maxRecDepth 20000 in
theorem ggL_law_X4_keptFor : GoodIn wsL_law wsX4_keptFor := goodIn_r _ [581, 60, 310, 311, 5, 312, 105, 106, 107, 383, 384, 385, 386, 112, 591, 592, 593, 594, 595, 596, 597, 598, 599, 600, 601, 602, 603, 604, 605, 606, 607, 608, 609, 610, 611, 612, 613] (by decide +kernel) (by decide +kernel)
set_option maxRecDepth 20000 in
theorem gL_law_X4_keptFor : GoodIn wsL_law (wsV RL 181 RX4 yX4_keptFor wsX4_keptFor) := goodIn_app (goodIn_of _ (by decide +kernel)) ggL_law_X4_keptFor
