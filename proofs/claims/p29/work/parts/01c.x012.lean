theorem dX0_init_0 : decode cX0_init 0 = .ok (.aload_n 0, 1) := by decide +kernel
theorem dX0_init_1 : decode cX0_init 1 = .ok (.invokespecial 3, 3) := by decide +kernel
theorem dX0_init_4 : decode cX0_init 4 = .ok (.aload_n 0, 1) := by decide +kernel
theorem dX0_init_5 : decode cX0_init 5 = .ok (.bipush 12, 2) := by decide +kernel
theorem dX0_init_7 : decode cX0_init 7 = .ok (.newarray .int, 2) := by decide +kernel
theorem dX0_init_9 : decode cX0_init 9 = .ok (.putfield 9, 3) := by decide +kernel
theorem dX0_init_12 : decode cX0_init 12 = .ok (.aload_n 0, 1) := by decide +kernel
theorem dX0_init_13 : decode cX0_init 13 = .ok (.bipush 12, 2) := by decide +kernel
theorem dX0_init_15 : decode cX0_init 15 = .ok (.newarray .int, 2) := by decide +kernel
theorem dX0_init_17 : decode cX0_init 17 = .ok (.putfield 15, 3) := by decide +kernel
theorem dX0_init_20 : decode cX0_init 20 = .ok (.aload_n 0, 1) := by decide +kernel
theorem dX0_init_21 : decode cX0_init 21 = .ok (.bipush 12, 2) := by decide +kernel
theorem dX0_init_23 : decode cX0_init 23 = .ok (.newarray .int, 2) := by decide +kernel
theorem dX0_init_25 : decode cX0_init 25 = .ok (.putfield 18, 3) := by decide +kernel
theorem dX0_init_28 : decode cX0_init 28 = .ok (.aload_n 0, 1) := by decide +kernel
theorem dX0_init_29 : decode cX0_init 29 = .ok (.bipush 12, 2) := by decide +kernel
theorem dX0_init_31 : decode cX0_init 31 = .ok (.newarray .int, 2) := by decide +kernel
theorem dX0_init_33 : decode cX0_init 33 = .ok (.putfield 21, 3) := by decide +kernel
theorem dX0_init_36 : decode cX0_init 36 = .ok (.aload_n 0, 1) := by decide +kernel
theorem dX0_init_37 : decode cX0_init 37 = .ok (.iconst 0, 1) := by decide +kernel
theorem dX0_init_38 : decode cX0_init 38 = .ok (.putfield 24, 3) := by decide +kernel
theorem dX0_init_41 : decode cX0_init 41 = .ok (.aload_n 0, 1) := by decide +kernel
theorem dX0_init_42 : decode cX0_init 42 = .ok (.iconst 0, 1) := by decide +kernel
theorem dX0_init_43 : decode cX0_init 43 = .ok (.putfield 28, 3) := by decide +kernel
theorem dX0_init_46 : decode cX0_init 46 = .ok (.aload_n 0, 1) := by decide +kernel
theorem dX0_init_47 : decode cX0_init 47 = .ok (.iconst 0, 1) := by decide +kernel
theorem dX0_init_48 : decode cX0_init 48 = .ok (.putfield 31, 3) := by decide +kernel
theorem dX0_init_51 : decode cX0_init 51 = .ok (.aload_n 0, 1) := by decide +kernel
theorem dX0_init_52 : decode cX0_init 52 = .ok (.iconst 0, 1) := by decide +kernel
theorem dX0_init_53 : decode cX0_init 53 = .ok (.putfield 35, 3) := by decide +kernel
theorem dX0_init_56 : decode cX0_init 56 = .ok (.aload_n 0, 1) := by decide +kernel
theorem dX0_init_57 : decode cX0_init 57 = .ok (.iconst (-1), 1) := by decide +kernel
theorem dX0_init_58 : decode cX0_init 58 = .ok (.putfield 38, 3) := by decide +kernel
theorem dX0_init_61 : decode cX0_init 61 = .ok (.aload_n 0, 1) := by decide +kernel
theorem dX0_init_62 : decode cX0_init 62 = .ok (.iload_n 1, 1) := by decide +kernel
theorem dX0_init_63 : decode cX0_init 63 = .ok (.putfield 41, 3) := by decide +kernel
theorem dX0_init_66 : decode cX0_init 66 = .ok (.aload_n 0, 1) := by decide +kernel
theorem dX0_init_67 : decode cX0_init 67 = .ok (.iload_n 2, 1) := by decide +kernel
theorem dX0_init_68 : decode cX0_init 68 = .ok (.putfield 44, 3) := by decide +kernel
theorem dX0_init_71 : decode cX0_init 71 = .ok (.return_, 1) := by decide +kernel
set_option maxRecDepth 20000 in
theorem ggX0_note_X0_scansAheadOf : GoodIn wsX0_note wsX0_scansAheadOf := goodIn_r _ [10, 1, 3, 2, 11, 12, 13, 14, 15, 16, 17, 18, 19, 20, 21, 22, 23, 24, 25, 26, 27, 28, 29, 30, 31, 32] (by decide +kernel) (by decide +kernel)
set_option maxRecDepth 20000 in
theorem gX0_note_X0_scansAheadOf : GoodIn wsX0_note (wsV RX0 47 RX0 yX0_scansAheadOf wsX0_scansAheadOf) := goodIn_app (goodIn_of _ (by decide +kernel)) ggX0_note_X0_scansAheadOf
theorem dX0_note_0 : decode cX0_note 0 = .ok (.aload_n 0, 1) := by decide +kernel
theorem dX0_note_1 : decode cX0_note 1 = .ok (.getfield 24, 3) := by decide +kernel
theorem dX0_note_4 : decode cX0_note 4 = .ok (.bipush 12, 2) := by decide +kernel
theorem dX0_note_6 : decode cX0_note 6 = .ok (.if_icmp .lt 5, 3) := by decide +kernel
theorem dX0_note_9 : decode cX0_note 9 = .ok (.iconst (-1), 1) := by decide +kernel
theorem dX0_note_10 : decode cX0_note 10 = .ok (.ireturn, 1) := by decide +kernel
theorem dX0_note_11 : decode cX0_note 11 = .ok (.aload_n 0, 1) := by decide +kernel
theorem dX0_note_12 : decode cX0_note 12 = .ok (.getfield 24, 3) := by decide +kernel
theorem dX0_note_15 : decode cX0_note 15 = .ok (.istore 4, 2) := by decide +kernel
theorem dX0_note_17 : decode cX0_note 17 = .ok (.aload_n 0, 1) := by decide +kernel
theorem dX0_note_18 : decode cX0_note 18 = .ok (.getfield 9, 3) := by decide +kernel
theorem dX0_note_21 : decode cX0_note 21 = .ok (.iload 4, 2) := by decide +kernel
theorem dX0_note_23 : decode cX0_note 23 = .ok (.iload_n 1, 1) := by decide +kernel
theorem dX0_note_24 : decode cX0_note 24 = .ok (.iastore, 1) := by decide +kernel
theorem dX0_note_25 : decode cX0_note 25 = .ok (.aload_n 0, 1) := by decide +kernel
theorem dX0_note_26 : decode cX0_note 26 = .ok (.getfield 15, 3) := by decide +kernel
theorem dX0_note_29 : decode cX0_note 29 = .ok (.iload 4, 2) := by decide +kernel
theorem dX0_note_31 : decode cX0_note 31 = .ok (.iload_n 2, 1) := by decide +kernel
theorem dX0_note_32 : decode cX0_note 32 = .ok (.iastore, 1) := by decide +kernel
theorem dX0_note_33 : decode cX0_note 33 = .ok (.aload_n 0, 1) := by decide +kernel
theorem dX0_note_34 : decode cX0_note 34 = .ok (.getfield 18, 3) := by decide +kernel
theorem dX0_note_37 : decode cX0_note 37 = .ok (.iload 4, 2) := by decide +kernel
theorem dX0_note_39 : decode cX0_note 39 = .ok (.iload_n 3, 1) := by decide +kernel
theorem dX0_note_40 : decode cX0_note 40 = .ok (.iastore, 1) := by decide +kernel
theorem dX0_note_41 : decode cX0_note 41 = .ok (.aload_n 0, 1) := by decide +kernel
theorem dX0_note_42 : decode cX0_note 42 = .ok (.getfield 21, 3) := by decide +kernel
theorem dX0_note_45 : decode cX0_note 45 = .ok (.iload 4, 2) := by decide +kernel
theorem dX0_note_47 : decode cX0_note 47 = .ok (.aload_n 0, 1) := by decide +kernel
theorem dX0_note_48 : decode cX0_note 48 = .ok (.iload_n 1, 1) := by decide +kernel
theorem dX0_note_49 : decode cX0_note 49 = .ok (.iload_n 2, 1) := by decide +kernel
theorem dX0_note_50 : decode cX0_note 50 = .ok (.invokevirtual 47, 3) := by decide +kernel
theorem dX0_note_53 : decode cX0_note 53 = .ok (.iastore, 1) := by decide +kernel
theorem dX0_note_54 : decode cX0_note 54 = .ok (.aload_n 0, 1) := by decide +kernel
theorem dX0_note_55 : decode cX0_note 55 = .ok (.dup, 1) := by decide +kernel
theorem dX0_note_56 : decode cX0_note 56 = .ok (.getfield 24, 3) := by decide +kernel
theorem dX0_note_59 : decode cX0_note 59 = .ok (.iconst 1, 1) := by decide +kernel
theorem dX0_note_60 : decode cX0_note 60 = .ok (.iadd, 1) := by decide +kernel
theorem dX0_note_61 : decode cX0_note 61 = .ok (.putfield 24, 3) := by decide +kernel
theorem dX0_note_64 : decode cX0_note 64 = .ok (.iload 4, 2) := by decide +kernel
theorem dX0_note_66 : decode cX0_note 66 = .ok (.ireturn, 1) := by decide +kernel
set_option maxRecDepth 20000 in
theorem ggX0_scansAheadOf_X3_minutesBetween : GoodIn wsX0_scansAheadOf wsX3_minutesBetween := goodIn_r _ [6, 7, 8, 9, 10, 5, 11, 12, 13, 14] (by decide +kernel) (by decide +kernel)
set_option maxRecDepth 20000 in
theorem gX0_scansAheadOf_X3_minutesBetween_n51 : GoodIn wsX0_scansAheadOf (wsX3_minutesBetween) := ggX0_scansAheadOf_X3_minutesBetween
theorem dX0_scansAheadOf_0 : decode cX0_scansAheadOf 0 = .ok (.iconst 0, 1) := by decide +kernel
theorem dX0_scansAheadOf_1 : decode cX0_scansAheadOf 1 = .ok (.iload_n 2, 1) := by decide +kernel
theorem dX0_scansAheadOf_2 : decode cX0_scansAheadOf 2 = .ok (.invokestatic 51, 3) := by decide +kernel
theorem dX0_scansAheadOf_5 : decode cX0_scansAheadOf 5 = .ok (.iload_n 1, 1) := by decide +kernel
theorem dX0_scansAheadOf_6 : decode cX0_scansAheadOf 6 = .ok (.if_icmp .gt 9, 3) := by decide +kernel
theorem dX0_scansAheadOf_9 : decode cX0_scansAheadOf 9 = .ok (.sipush 4096, 3) := by decide +kernel
theorem dX0_scansAheadOf_12 : decode cX0_scansAheadOf 12 = .ok (.goto 4, 3) := by decide +kernel
theorem dX0_scansAheadOf_15 : decode cX0_scansAheadOf 15 = .ok (.iconst 0, 1) := by decide +kernel
theorem dX0_scansAheadOf_16 : decode cX0_scansAheadOf 16 = .ok (.istore_n 3, 1) := by decide +kernel
theorem dX0_scansAheadOf_17 : decode cX0_scansAheadOf 17 = .ok (.iconst 0, 1) := by decide +kernel
theorem dX0_scansAheadOf_18 : decode cX0_scansAheadOf 18 = .ok (.istore 4, 2) := by decide +kernel
theorem dX0_scansAheadOf_20 : decode cX0_scansAheadOf 20 = .ok (.iload 4, 2) := by decide +kernel
theorem dX0_scansAheadOf_22 : decode cX0_scansAheadOf 22 = .ok (.aload_n 0, 1) := by decide +kernel
theorem dX0_scansAheadOf_23 : decode cX0_scansAheadOf 23 = .ok (.getfield 24, 3) := by decide +kernel
theorem dX0_scansAheadOf_26 : decode cX0_scansAheadOf 26 = .ok (.if_icmp .ge 39, 3) := by decide +kernel
theorem dX0_scansAheadOf_29 : decode cX0_scansAheadOf 29 = .ok (.aload_n 0, 1) := by decide +kernel
theorem dX0_scansAheadOf_30 : decode cX0_scansAheadOf 30 = .ok (.getfield 15, 3) := by decide +kernel
theorem dX0_scansAheadOf_33 : decode cX0_scansAheadOf 33 = .ok (.iload 4, 2) := by decide +kernel
theorem dX0_scansAheadOf_35 : decode cX0_scansAheadOf 35 = .ok (.iaload, 1) := by decide +kernel
theorem dX0_scansAheadOf_36 : decode cX0_scansAheadOf 36 = .ok (.iload_n 2, 1) := by decide +kernel
theorem dX0_scansAheadOf_37 : decode cX0_scansAheadOf 37 = .ok (.invokestatic 51, 3) := by decide +kernel
theorem dX0_scansAheadOf_40 : decode cX0_scansAheadOf 40 = .ok (.iload_n 1, 1) := by decide +kernel
theorem dX0_scansAheadOf_41 : decode cX0_scansAheadOf 41 = .ok (.aload_n 0, 1) := by decide +kernel
theorem dX0_scansAheadOf_42 : decode cX0_scansAheadOf 42 = .ok (.getfield 9, 3) := by decide +kernel
theorem dX0_scansAheadOf_45 : decode cX0_scansAheadOf 45 = .ok (.iload 4, 2) := by decide +kernel
theorem dX0_scansAheadOf_47 : decode cX0_scansAheadOf 47 = .ok (.iaload, 1) := by decide +kernel
theorem dX0_scansAheadOf_48 : decode cX0_scansAheadOf 48 = .ok (.isub, 1) := by decide +kernel
theorem dX0_scansAheadOf_49 : decode cX0_scansAheadOf 49 = .ok (.if_icmp .gt 10, 3) := by decide +kernel
theorem dX0_scansAheadOf_52 : decode cX0_scansAheadOf 52 = .ok (.iload_n 3, 1) := by decide +kernel
theorem dX0_scansAheadOf_53 : decode cX0_scansAheadOf 53 = .ok (.iconst 1, 1) := by decide +kernel
theorem dX0_scansAheadOf_54 : decode cX0_scansAheadOf 54 = .ok (.iload 4, 2) := by decide +kernel
theorem dX0_scansAheadOf_56 : decode cX0_scansAheadOf 56 = .ok (.ishl, 1) := by decide +kernel
theorem dX0_scansAheadOf_57 : decode cX0_scansAheadOf 57 = .ok (.ior, 1) := by decide +kernel
theorem dX0_scansAheadOf_58 : decode cX0_scansAheadOf 58 = .ok (.istore_n 3, 1) := by decide +kernel
theorem dX0_scansAheadOf_59 : decode cX0_scansAheadOf 59 = .ok (.iinc 4 1, 3) := by decide +kernel
theorem dX0_scansAheadOf_62 : decode cX0_scansAheadOf 62 = .ok (.goto (-42), 3) := by decide +kernel
theorem dX0_scansAheadOf_65 : decode cX0_scansAheadOf 65 = .ok (.iload_n 3, 1) := by decide +kernel
theorem dX0_scansAheadOf_66 : decode cX0_scansAheadOf 66 = .ok (.ireturn, 1) := by decide +kernel
theorem dX0_canFollow_0 : decode cX0_canFollow 0 = .ok (.iload_n 1, 1) := by decide +kernel
theorem dX0_canFollow_1 : decode cX0_canFollow 1 = .ok (.iconst (-1), 1) := by decide +kernel
theorem dX0_canFollow_2 : decode cX0_canFollow 2 = .ok (.if_icmp .ne 8, 3) := by decide +kernel
theorem dX0_canFollow_5 : decode cX0_canFollow 5 = .ok (.bipush 12, 2) := by decide +kernel
theorem dX0_canFollow_7 : decode cX0_canFollow 7 = .ok (.goto 4, 3) := by decide +kernel
theorem dX0_canFollow_10 : decode cX0_canFollow 10 = .ok (.iload_n 1, 1) := by decide +kernel
theorem dX0_canFollow_11 : decode cX0_canFollow 11 = .ok (.istore_n 3, 1) := by decide +kernel
theorem dX0_canFollow_12 : decode cX0_canFollow 12 = .ok (.aload_n 0, 1) := by decide +kernel
theorem dX0_canFollow_13 : decode cX0_canFollow 13 = .ok (.getfield 21, 3) := by decide +kernel
theorem dX0_canFollow_16 : decode cX0_canFollow 16 = .ok (.iload_n 2, 1) := by decide +kernel
theorem dX0_canFollow_17 : decode cX0_canFollow 17 = .ok (.iaload, 1) := by decide +kernel
theorem dX0_canFollow_18 : decode cX0_canFollow 18 = .ok (.iload_n 3, 1) := by decide +kernel
theorem dX0_canFollow_19 : decode cX0_canFollow 19 = .ok (.ishr, 1) := by decide +kernel
theorem dX0_canFollow_20 : decode cX0_canFollow 20 = .ok (.iconst 1, 1) := by decide +kernel
theorem dX0_canFollow_21 : decode cX0_canFollow 21 = .ok (.iand, 1) := by decide +kernel
theorem dX0_canFollow_22 : decode cX0_canFollow 22 = .ok (.iconst 1, 1) := by decide +kernel
theorem dX0_canFollow_23 : decode cX0_canFollow 23 = .ok (.if_icmp .ne 7, 3) := by decide +kernel
theorem dX0_canFollow_26 : decode cX0_canFollow 26 = .ok (.iconst 1, 1) := by decide +kernel
theorem dX0_canFollow_27 : decode cX0_canFollow 27 = .ok (.goto 4, 3) := by decide +kernel
theorem dX0_canFollow_30 : decode cX0_canFollow 30 = .ok (.iconst 0, 1) := by decide +kernel
theorem dX0_canFollow_31 : decode cX0_canFollow 31 = .ok (.ireturn, 1) := by decide +kernel
set_option maxRecDepth 20000 in
theorem ggX0_chooseStory_X0_canFollow : GoodIn wsX0_chooseStory wsX0_canFollow := goodIn_r _ [11, 12, 13, 14, 15, 16, 17, 18, 19, 20, 21, 22, 23] (by decide +kernel) (by decide +kernel)
set_option maxRecDepth 20000 in
theorem gX0_chooseStory_X0_canFollow : GoodIn wsX0_chooseStory (wsV RX0 54 RX0 yX0_canFollow wsX0_canFollow) := goodIn_app (goodIn_of _ (by decide +kernel)) ggX0_chooseStory_X0_canFollow
theorem dX0_chooseStory_0 : decode cX0_chooseStory 0 = .ok (.iconst 0, 1) := by decide +kernel
theorem dX0_chooseStory_1 : decode cX0_chooseStory 1 = .ok (.istore_n 3, 1) := by decide +kernel
theorem dX0_chooseStory_2 : decode cX0_chooseStory 2 = .ok (.iconst 0, 1) := by decide +kernel
theorem dX0_chooseStory_3 : decode cX0_chooseStory 3 = .ok (.istore 4, 2) := by decide +kernel
theorem dX0_chooseStory_5 : decode cX0_chooseStory 5 = .ok (.iload 4, 2) := by decide +kernel
theorem dX0_chooseStory_7 : decode cX0_chooseStory 7 = .ok (.aload_n 0, 1) := by decide +kernel
theorem dX0_chooseStory_8 : decode cX0_chooseStory 8 = .ok (.getfield 24, 3) := by decide +kernel
theorem dX0_chooseStory_11 : decode cX0_chooseStory 11 = .ok (.if_icmp .ge 94, 3) := by decide +kernel
theorem dX0_chooseStory_14 : decode cX0_chooseStory 14 = .ok (.aload_n 0, 1) := by decide +kernel
theorem dX0_chooseStory_15 : decode cX0_chooseStory 15 = .ok (.iconst (-1), 1) := by decide +kernel
theorem dX0_chooseStory_16 : decode cX0_chooseStory 16 = .ok (.iload 4, 2) := by decide +kernel
theorem dX0_chooseStory_18 : decode cX0_chooseStory 18 = .ok (.invokevirtual 54, 3) := by decide +kernel
theorem dX0_chooseStory_21 : decode cX0_chooseStory 21 = .ok (.ifCond .eq 7, 3) := by decide +kernel
theorem dX0_chooseStory_24 : decode cX0_chooseStory 24 = .ok (.iconst 0, 1) := by decide +kernel
theorem dX0_chooseStory_25 : decode cX0_chooseStory 25 = .ok (.goto 4, 3) := by decide +kernel
theorem dX0_chooseStory_28 : decode cX0_chooseStory 28 = .ok (.iconst (-1), 1) := by decide +kernel
theorem dX0_chooseStory_29 : decode cX0_chooseStory 29 = .ok (.istore 5, 2) := by decide +kernel
theorem dX0_chooseStory_31 : decode cX0_chooseStory 31 = .ok (.iconst 0, 1) := by decide +kernel
theorem dX0_chooseStory_32 : decode cX0_chooseStory 32 = .ok (.istore 6, 2) := by decide +kernel
theorem dX0_chooseStory_34 : decode cX0_chooseStory 34 = .ok (.iload 6, 2) := by decide +kernel
theorem dX0_chooseStory_36 : decode cX0_chooseStory 36 = .ok (.iload 4, 2) := by decide +kernel
theorem dX0_chooseStory_38 : decode cX0_chooseStory 38 = .ok (.if_icmp .ge 31, 3) := by decide +kernel
theorem dX0_chooseStory_41 : decode cX0_chooseStory 41 = .ok (.aload_n 0, 1) := by decide +kernel
theorem dX0_chooseStory_42 : decode cX0_chooseStory 42 = .ok (.iload 6, 2) := by decide +kernel
theorem dX0_chooseStory_44 : decode cX0_chooseStory 44 = .ok (.iload 4, 2) := by decide +kernel
theorem dX0_chooseStory_46 : decode cX0_chooseStory 46 = .ok (.invokevirtual 54, 3) := by decide +kernel
theorem dX0_chooseStory_49 : decode cX0_chooseStory 49 = .ok (.ifCond .eq 14, 3) := by decide +kernel
theorem dX0_chooseStory_52 : decode cX0_chooseStory 52 = .ok (.iload 5, 2) := by decide +kernel
theorem dX0_chooseStory_54 : decode cX0_chooseStory 54 = .ok (.aload_n 2, 1) := by decide +kernel
theorem dX0_chooseStory_55 : decode cX0_chooseStory 55 = .ok (.iload 6, 2) := by decide +kernel
theorem dX0_chooseStory_57 : decode cX0_chooseStory 57 = .ok (.iaload, 1) := by decide +kernel
theorem dX0_chooseStory_58 : decode cX0_chooseStory 58 = .ok (.invokestatic 58, 3) := by decide +kernel
theorem dX0_chooseStory_61 : decode cX0_chooseStory 61 = .ok (.istore 5, 2) := by decide +kernel
theorem dX0_chooseStory_63 : decode cX0_chooseStory 63 = .ok (.iinc 6 1, 3) := by decide +kernel
theorem dX0_chooseStory_66 : decode cX0_chooseStory 66 = .ok (.goto (-32), 3) := by decide +kernel
theorem dX0_chooseStory_69 : decode cX0_chooseStory 69 = .ok (.aload_n 2, 1) := by decide +kernel
theorem dX0_chooseStory_70 : decode cX0_chooseStory 70 = .ok (.iload 4, 2) := by decide +kernel
theorem dX0_chooseStory_72 : decode cX0_chooseStory 72 = .ok (.iload 5, 2) := by decide +kernel
theorem dX0_chooseStory_74 : decode cX0_chooseStory 74 = .ok (.iconst (-1), 1) := by decide +kernel
theorem dX0_chooseStory_75 : decode cX0_chooseStory 75 = .ok (.if_icmp .ne 7, 3) := by decide +kernel
theorem dX0_chooseStory_78 : decode cX0_chooseStory 78 = .ok (.iconst (-1), 1) := by decide +kernel
theorem dX0_chooseStory_79 : decode cX0_chooseStory 79 = .ok (.goto 10, 3) := by decide +kernel
theorem dX0_chooseStory_82 : decode cX0_chooseStory 82 = .ok (.iload 5, 2) := by decide +kernel
theorem dX0_chooseStory_84 : decode cX0_chooseStory 84 = .ok (.aload_n 1, 1) := by decide +kernel
theorem dX0_chooseStory_85 : decode cX0_chooseStory 85 = .ok (.iload 4, 2) := by decide +kernel
theorem dX0_chooseStory_87 : decode cX0_chooseStory 87 = .ok (.iaload, 1) := by decide +kernel
theorem dX0_chooseStory_88 : decode cX0_chooseStory 88 = .ok (.iadd, 1) := by decide +kernel
theorem dX0_chooseStory_89 : decode cX0_chooseStory 89 = .ok (.iastore, 1) := by decide +kernel
theorem dX0_chooseStory_90 : decode cX0_chooseStory 90 = .ok (.iload_n 3, 1) := by decide +kernel
theorem dX0_chooseStory_91 : decode cX0_chooseStory 91 = .ok (.aload_n 2, 1) := by decide +kernel
theorem dX0_chooseStory_92 : decode cX0_chooseStory 92 = .ok (.iload 4, 2) := by decide +kernel
theorem dX0_chooseStory_94 : decode cX0_chooseStory 94 = .ok (.iaload, 1) := by decide +kernel
theorem dX0_chooseStory_95 : decode cX0_chooseStory 95 = .ok (.invokestatic 58, 3) := by decide +kernel
theorem dX0_chooseStory_98 : decode cX0_chooseStory 98 = .ok (.istore_n 3, 1) := by decide +kernel
theorem dX0_chooseStory_99 : decode cX0_chooseStory 99 = .ok (.iinc 4 1, 3) := by decide +kernel
theorem dX0_chooseStory_102 : decode cX0_chooseStory 102 = .ok (.goto (-97), 3) := by decide +kernel
theorem dX0_chooseStory_105 : decode cX0_chooseStory 105 = .ok (.aload_n 0, 1) := by decide +kernel
theorem dX0_chooseStory_106 : decode cX0_chooseStory 106 = .ok (.iload_n 3, 1) := by decide +kernel
theorem dX0_chooseStory_107 : decode cX0_chooseStory 107 = .ok (.sipush 4096, 3) := by decide +kernel
theorem dX0_chooseStory_110 : decode cX0_chooseStory 110 = .ok (.irem, 1) := by decide +kernel
theorem dX0_chooseStory_111 : decode cX0_chooseStory 111 = .ok (.putfield 28, 3) := by decide +kernel
theorem dX0_chooseStory_114 : decode cX0_chooseStory 114 = .ok (.return_, 1) := by decide +kernel
theorem dX0_isTrue_0 : decode cX0_isTrue 0 = .ok (.aload_n 0, 1) := by decide +kernel
theorem dX0_isTrue_1 : decode cX0_isTrue 1 = .ok (.getfield 28, 3) := by decide +kernel
theorem dX0_isTrue_4 : decode cX0_isTrue 4 = .ok (.iload_n 1, 1) := by decide +kernel
theorem dX0_isTrue_5 : decode cX0_isTrue 5 = .ok (.ishr, 1) := by decide +kernel
theorem dX0_isTrue_6 : decode cX0_isTrue 6 = .ok (.iconst 1, 1) := by decide +kernel
theorem dX0_isTrue_7 : decode cX0_isTrue 7 = .ok (.iand, 1) := by decide +kernel
theorem dX0_isTrue_8 : decode cX0_isTrue 8 = .ok (.iconst 1, 1) := by decide +kernel
theorem dX0_isTrue_9 : decode cX0_isTrue 9 = .ok (.if_icmp .ne 7, 3) := by decide +kernel
theorem dX0_isTrue_12 : decode cX0_isTrue 12 = .ok (.iconst 1, 1) := by decide +kernel
theorem dX0_isTrue_13 : decode cX0_isTrue 13 = .ok (.goto 4, 3) := by decide +kernel
theorem dX0_isTrue_16 : decode cX0_isTrue 16 = .ok (.iconst 0, 1) := by decide +kernel
theorem dX0_isTrue_17 : decode cX0_isTrue 17 = .ok (.ireturn, 1) := by decide +kernel
set_option maxRecDepth 20000 in
theorem ggX0_whereabouts_X0_isTrue : GoodIn wsX0_whereabouts wsX0_isTrue := goodIn_r _ [7, 8, 9, 10, 11, 12, 13, 14, 15, 16, 17, 18, 19] (by decide +kernel) (by decide +kernel)
set_option maxRecDepth 20000 in
theorem gX0_whereabouts_X0_isTrue : GoodIn wsX0_whereabouts (wsV RX0 63 RX0 yX0_isTrue wsX0_isTrue) := goodIn_app (goodIn_of _ (by decide +kernel)) ggX0_whereabouts_X0_isTrue
theorem dX0_whereabouts_0 : decode cX0_whereabouts 0 = .ok (.aload_n 0, 1) := by decide +kernel
theorem dX0_whereabouts_1 : decode cX0_whereabouts 1 = .ok (.getfield 24, 3) := by decide +kernel
theorem dX0_whereabouts_4 : decode cX0_whereabouts 4 = .ok (.iconst 1, 1) := by decide +kernel
theorem dX0_whereabouts_5 : decode cX0_whereabouts 5 = .ok (.isub, 1) := by decide +kernel
theorem dX0_whereabouts_6 : decode cX0_whereabouts 6 = .ok (.istore_n 1, 1) := by decide +kernel
theorem dX0_whereabouts_7 : decode cX0_whereabouts 7 = .ok (.iload_n 1, 1) := by decide +kernel
theorem dX0_whereabouts_8 : decode cX0_whereabouts 8 = .ok (.ifCond .lt 24, 3) := by decide +kernel
theorem dX0_whereabouts_11 : decode cX0_whereabouts 11 = .ok (.aload_n 0, 1) := by decide +kernel
theorem dX0_whereabouts_12 : decode cX0_whereabouts 12 = .ok (.iload_n 1, 1) := by decide +kernel
theorem dX0_whereabouts_13 : decode cX0_whereabouts 13 = .ok (.invokevirtual 63, 3) := by decide +kernel
theorem dX0_whereabouts_16 : decode cX0_whereabouts 16 = .ok (.ifCond .eq 10, 3) := by decide +kernel
theorem dX0_whereabouts_19 : decode cX0_whereabouts 19 = .ok (.aload_n 0, 1) := by decide +kernel
theorem dX0_whereabouts_20 : decode cX0_whereabouts 20 = .ok (.getfield 15, 3) := by decide +kernel
theorem dX0_whereabouts_23 : decode cX0_whereabouts 23 = .ok (.iload_n 1, 1) := by decide +kernel
theorem dX0_whereabouts_24 : decode cX0_whereabouts 24 = .ok (.iaload, 1) := by decide +kernel
theorem dX0_whereabouts_25 : decode cX0_whereabouts 25 = .ok (.ireturn, 1) := by decide +kernel
theorem dX0_whereabouts_26 : decode cX0_whereabouts 26 = .ok (.iinc 1 (-1), 3) := by decide +kernel
theorem dX0_whereabouts_29 : decode cX0_whereabouts 29 = .ok (.goto (-22), 3) := by decide +kernel
theorem dX0_whereabouts_32 : decode cX0_whereabouts 32 = .ok (.iconst 0, 1) := by decide +kernel
theorem dX0_whereabouts_33 : decode cX0_whereabouts 33 = .ok (.ireturn, 1) := by decide +kernel
set_option maxRecDepth 20000 in
theorem ggX0_isDelivered_X0_whereabouts : GoodIn wsX0_isDelivered wsX0_whereabouts := goodIn_r _ [5, 6, 7, 8, 9, 10, 4, 11, 12, 13, 14, 15, 16, 17, 18, 19, 20, 21, 22, 23] (by decide +kernel) (by decide +kernel)
set_option maxRecDepth 20000 in
theorem gX0_isDelivered_X0_whereabouts : GoodIn wsX0_isDelivered (wsV RX0 67 RX0 yX0_whereabouts wsX0_whereabouts) := goodIn_app (goodIn_of _ (by decide +kernel)) ggX0_isDelivered_X0_whereabouts
theorem dX0_isDelivered_0 : decode cX0_isDelivered 0 = .ok (.aload_n 0, 1) := by decide +kernel
theorem dX0_isDelivered_1 : decode cX0_isDelivered 1 = .ok (.invokevirtual 67, 3) := by decide +kernel
theorem dX0_isDelivered_4 : decode cX0_isDelivered 4 = .ok (.bipush 30, 2) := by decide +kernel
theorem dX0_isDelivered_6 : decode cX0_isDelivered 6 = .ok (.if_icmp .ne 7, 3) := by decide +kernel
theorem dX0_isDelivered_9 : decode cX0_isDelivered 9 = .ok (.iconst 1, 1) := by decide +kernel
theorem dX0_isDelivered_10 : decode cX0_isDelivered 10 = .ok (.goto 4, 3) := by decide +kernel
theorem dX0_isDelivered_13 : decode cX0_isDelivered 13 = .ok (.iconst 0, 1) := by decide +kernel
theorem dX0_isDelivered_14 : decode cX0_isDelivered 14 = .ok (.ireturn, 1) := by decide +kernel
set_option maxRecDepth 20000 in
theorem ggX0_deliverer_X3_courierOfPlace : GoodIn wsX0_deliverer wsX3_courierOfPlace := goodIn_r _ [5, 6, 7, 4, 8] (by decide +kernel) (by decide +kernel)
set_option maxRecDepth 20000 in
theorem gX0_deliverer_X3_courierOfPlace_n71 : GoodIn wsX0_deliverer (wsX3_courierOfPlace) := ggX0_deliverer_X3_courierOfPlace
set_option maxRecDepth 20000 in
theorem ggX0_deliverer_X0_isTrue : GoodIn wsX0_deliverer wsX0_isTrue := goodIn_r _ [13, 14, 15, 16, 17, 18, 19, 20, 21, 22, 23, 24, 25] (by decide +kernel) (by decide +kernel)
set_option maxRecDepth 20000 in
theorem gX0_deliverer_X0_isTrue : GoodIn wsX0_deliverer (wsV RX0 63 RX0 yX0_isTrue wsX0_isTrue) := goodIn_app (goodIn_of _ (by decide +kernel)) ggX0_deliverer_X0_isTrue
theorem dX0_deliverer_0 : decode cX0_deliverer 0 = .ok (.aload_n 0, 1) := by decide +kernel
theorem dX0_deliverer_1 : decode cX0_deliverer 1 = .ok (.getfield 24, 3) := by decide +kernel
theorem dX0_deliverer_4 : decode cX0_deliverer 4 = .ok (.iconst 1, 1) := by decide +kernel
theorem dX0_deliverer_5 : decode cX0_deliverer 5 = .ok (.isub, 1) := by decide +kernel
theorem dX0_deliverer_6 : decode cX0_deliverer 6 = .ok (.istore_n 1, 1) := by decide +kernel
theorem dX0_deliverer_7 : decode cX0_deliverer 7 = .ok (.iload_n 1, 1) := by decide +kernel
theorem dX0_deliverer_8 : decode cX0_deliverer 8 = .ok (.ifCond .lt 34, 3) := by decide +kernel
theorem dX0_deliverer_11 : decode cX0_deliverer 11 = .ok (.aload_n 0, 1) := by decide +kernel
theorem dX0_deliverer_12 : decode cX0_deliverer 12 = .ok (.getfield 15, 3) := by decide +kernel
theorem dX0_deliverer_15 : decode cX0_deliverer 15 = .ok (.iload_n 1, 1) := by decide +kernel
theorem dX0_deliverer_16 : decode cX0_deliverer 16 = .ok (.iaload, 1) := by decide +kernel
theorem dX0_deliverer_17 : decode cX0_deliverer 17 = .ok (.invokestatic 71, 3) := by decide +kernel
theorem dX0_deliverer_20 : decode cX0_deliverer 20 = .ok (.istore_n 2, 1) := by decide +kernel
theorem dX0_deliverer_21 : decode cX0_deliverer 21 = .ok (.aload_n 0, 1) := by decide +kernel
theorem dX0_deliverer_22 : decode cX0_deliverer 22 = .ok (.iload_n 1, 1) := by decide +kernel
theorem dX0_deliverer_23 : decode cX0_deliverer 23 = .ok (.invokevirtual 63, 3) := by decide +kernel
theorem dX0_deliverer_26 : decode cX0_deliverer 26 = .ok (.ifCond .eq 10, 3) := by decide +kernel
theorem dX0_deliverer_29 : decode cX0_deliverer 29 = .ok (.iload_n 2, 1) := by decide +kernel
theorem dX0_deliverer_30 : decode cX0_deliverer 30 = .ok (.iconst (-1), 1) := by decide +kernel
theorem dX0_deliverer_31 : decode cX0_deliverer 31 = .ok (.if_icmp .eq 5, 3) := by decide +kernel
theorem dX0_deliverer_34 : decode cX0_deliverer 34 = .ok (.iload_n 2, 1) := by decide +kernel
theorem dX0_deliverer_35 : decode cX0_deliverer 35 = .ok (.ireturn, 1) := by decide +kernel
theorem dX0_deliverer_36 : decode cX0_deliverer 36 = .ok (.iinc 1 (-1), 3) := by decide +kernel
theorem dX0_deliverer_39 : decode cX0_deliverer 39 = .ok (.goto (-32), 3) := by decide +kernel
theorem dX0_deliverer_42 : decode cX0_deliverer 42 = .ok (.iconst (-1), 1) := by decide +kernel
theorem dX0_deliverer_43 : decode cX0_deliverer 43 = .ok (.ireturn, 1) := by decide +kernel
set_option maxRecDepth 20000 in
theorem ggX0_thereSince_X0_whereabouts : GoodIn wsX0_thereSince wsX0_whereabouts := goodIn_r _ [8, 1, 2, 9, 10, 11, 7, 12, 13, 14, 15, 16, 17, 18, 19, 20, 21, 22, 23, 24] (by decide +kernel) (by decide +kernel)
set_option maxRecDepth 20000 in
theorem gX0_thereSince_X0_whereabouts : GoodIn wsX0_thereSince (wsV RX0 67 RX0 yX0_whereabouts wsX0_whereabouts) := goodIn_app (goodIn_of _ (by decide +kernel)) ggX0_thereSince_X0_whereabouts
set_option maxRecDepth 20000 in
theorem ggX0_thereSince_X0_isTrue : GoodIn wsX0_thereSince wsX0_isTrue := goodIn_r _ [12, 13, 14, 15, 16, 17, 18, 19, 20, 21, 22, 23, 24] (by decide +kernel) (by decide +kernel)
set_option maxRecDepth 20000 in
theorem gX0_thereSince_X0_isTrue : GoodIn wsX0_thereSince (wsV RX0 63 RX0 yX0_isTrue wsX0_isTrue) := goodIn_app (goodIn_of _ (by decide +kernel)) ggX0_thereSince_X0_isTrue
theorem dX0_thereSince_0 : decode cX0_thereSince 0 = .ok (.aload_n 0, 1) := by decide +kernel
theorem dX0_thereSince_1 : decode cX0_thereSince 1 = .ok (.invokevirtual 67, 3) := by decide +kernel
theorem dX0_thereSince_4 : decode cX0_thereSince 4 = .ok (.istore_n 1, 1) := by decide +kernel
theorem dX0_thereSince_5 : decode cX0_thereSince 5 = .ok (.iconst 0, 1) := by decide +kernel
theorem dX0_thereSince_6 : decode cX0_thereSince 6 = .ok (.istore_n 2, 1) := by decide +kernel
theorem dX0_thereSince_7 : decode cX0_thereSince 7 = .ok (.aload_n 0, 1) := by decide +kernel
theorem dX0_thereSince_8 : decode cX0_thereSince 8 = .ok (.getfield 24, 3) := by decide +kernel
theorem dX0_thereSince_11 : decode cX0_thereSince 11 = .ok (.iconst 1, 1) := by decide +kernel
theorem dX0_thereSince_12 : decode cX0_thereSince 12 = .ok (.isub, 1) := by decide +kernel
theorem dX0_thereSince_13 : decode cX0_thereSince 13 = .ok (.istore_n 3, 1) := by decide +kernel
theorem dX0_thereSince_14 : decode cX0_thereSince 14 = .ok (.iload_n 3, 1) := by decide +kernel
theorem dX0_thereSince_15 : decode cX0_thereSince 15 = .ok (.ifCond .lt 36, 3) := by decide +kernel
theorem dX0_thereSince_18 : decode cX0_thereSince 18 = .ok (.aload_n 0, 1) := by decide +kernel
theorem dX0_thereSince_19 : decode cX0_thereSince 19 = .ok (.iload_n 3, 1) := by decide +kernel
theorem dX0_thereSince_20 : decode cX0_thereSince 20 = .ok (.invokevirtual 63, 3) := by decide +kernel
theorem dX0_thereSince_23 : decode cX0_thereSince 23 = .ok (.ifCond .eq 22, 3) := by decide +kernel
theorem dX0_thereSince_26 : decode cX0_thereSince 26 = .ok (.aload_n 0, 1) := by decide +kernel
theorem dX0_thereSince_27 : decode cX0_thereSince 27 = .ok (.getfield 15, 3) := by decide +kernel
theorem dX0_thereSince_30 : decode cX0_thereSince 30 = .ok (.iload_n 3, 1) := by decide +kernel
theorem dX0_thereSince_31 : decode cX0_thereSince 31 = .ok (.iaload, 1) := by decide +kernel
theorem dX0_thereSince_32 : decode cX0_thereSince 32 = .ok (.iload_n 1, 1) := by decide +kernel
theorem dX0_thereSince_33 : decode cX0_thereSince 33 = .ok (.if_icmp .eq 5, 3) := by decide +kernel
theorem dX0_thereSince_36 : decode cX0_thereSince 36 = .ok (.iload_n 2, 1) := by decide +kernel
theorem dX0_thereSince_37 : decode cX0_thereSince 37 = .ok (.ireturn, 1) := by decide +kernel
theorem dX0_thereSince_38 : decode cX0_thereSince 38 = .ok (.aload_n 0, 1) := by decide +kernel
theorem dX0_thereSince_39 : decode cX0_thereSince 39 = .ok (.getfield 9, 3) := by decide +kernel
theorem dX0_thereSince_42 : decode cX0_thereSince 42 = .ok (.iload_n 3, 1) := by decide +kernel
theorem dX0_thereSince_43 : decode cX0_thereSince 43 = .ok (.iaload, 1) := by decide +kernel
theorem dX0_thereSince_44 : decode cX0_thereSince 44 = .ok (.istore_n 2, 1) := by decide +kernel
theorem dX0_thereSince_45 : decode cX0_thereSince 45 = .ok (.iinc 3 (-1), 3) := by decide +kernel
theorem dX0_thereSince_48 : decode cX0_thereSince 48 = .ok (.goto (-34), 3) := by decide +kernel
theorem dX0_thereSince_51 : decode cX0_thereSince 51 = .ok (.iload_n 2, 1) := by decide +kernel
theorem dX0_thereSince_52 : decode cX0_thereSince 52 = .ok (.ireturn, 1) := by decide +kernel
theorem dX0_wasScannedAfter_0 : decode cX0_wasScannedAfter 0 = .ok (.aload_n 0, 1) := by decide +kernel
theorem dX0_wasScannedAfter_1 : decode cX0_wasScannedAfter 1 = .ok (.getfield 24, 3) := by decide +kernel
theorem dX0_wasScannedAfter_4 : decode cX0_wasScannedAfter 4 = .ok (.ifCond .le 22, 3) := by decide +kernel
theorem dX0_wasScannedAfter_7 : decode cX0_wasScannedAfter 7 = .ok (.aload_n 0, 1) := by decide +kernel
theorem dX0_wasScannedAfter_8 : decode cX0_wasScannedAfter 8 = .ok (.getfield 9, 3) := by decide +kernel
theorem dX0_wasScannedAfter_11 : decode cX0_wasScannedAfter 11 = .ok (.aload_n 0, 1) := by decide +kernel
theorem dX0_wasScannedAfter_12 : decode cX0_wasScannedAfter 12 = .ok (.getfield 24, 3) := by decide +kernel
theorem dX0_wasScannedAfter_15 : decode cX0_wasScannedAfter 15 = .ok (.iconst 1, 1) := by decide +kernel
theorem dX0_wasScannedAfter_16 : decode cX0_wasScannedAfter 16 = .ok (.isub, 1) := by decide +kernel
theorem dX0_wasScannedAfter_17 : decode cX0_wasScannedAfter 17 = .ok (.iaload, 1) := by decide +kernel
theorem dX0_wasScannedAfter_18 : decode cX0_wasScannedAfter 18 = .ok (.iload_n 1, 1) := by decide +kernel
theorem dX0_wasScannedAfter_19 : decode cX0_wasScannedAfter 19 = .ok (.if_icmp .le 7, 3) := by decide +kernel
theorem dX0_wasScannedAfter_22 : decode cX0_wasScannedAfter 22 = .ok (.iconst 1, 1) := by decide +kernel
theorem dX0_wasScannedAfter_23 : decode cX0_wasScannedAfter 23 = .ok (.goto 4, 3) := by decide +kernel
theorem dX0_wasScannedAfter_26 : decode cX0_wasScannedAfter 26 = .ok (.iconst 0, 1) := by decide +kernel
theorem dX0_wasScannedAfter_27 : decode cX0_wasScannedAfter 27 = .ok (.ireturn, 1) := by decide +kernel
set_option maxRecDepth 20000 in
theorem ggX0_countLies_X0_isTrue : GoodIn wsX0_countLies wsX0_isTrue := goodIn_r _ [7, 8, 9, 10, 11, 12, 13, 14, 15, 16, 17, 18, 19] (by decide +kernel) (by decide +kernel)
set_option maxRecDepth 20000 in
theorem gX0_countLies_X0_isTrue : GoodIn wsX0_countLies (wsV RX0 63 RX0 yX0_isTrue wsX0_isTrue) := goodIn_app (goodIn_of _ (by decide +kernel)) ggX0_countLies_X0_isTrue
theorem dX0_countLies_0 : decode cX0_countLies 0 = .ok (.iconst 0, 1) := by decide +kernel
theorem dX0_countLies_1 : decode cX0_countLies 1 = .ok (.istore_n 2, 1) := by decide +kernel
theorem dX0_countLies_2 : decode cX0_countLies 2 = .ok (.iconst 0, 1) := by decide +kernel
theorem dX0_countLies_3 : decode cX0_countLies 3 = .ok (.istore_n 3, 1) := by decide +kernel
theorem dX0_countLies_4 : decode cX0_countLies 4 = .ok (.iload_n 3, 1) := by decide +kernel
theorem dX0_countLies_5 : decode cX0_countLies 5 = .ok (.aload_n 0, 1) := by decide +kernel
theorem dX0_countLies_6 : decode cX0_countLies 6 = .ok (.getfield 24, 3) := by decide +kernel
theorem dX0_countLies_9 : decode cX0_countLies 9 = .ok (.if_icmp .ge 30, 3) := by decide +kernel
theorem dX0_countLies_12 : decode cX0_countLies 12 = .ok (.aload_n 0, 1) := by decide +kernel
theorem dX0_countLies_13 : decode cX0_countLies 13 = .ok (.getfield 18, 3) := by decide +kernel
theorem dX0_countLies_16 : decode cX0_countLies 16 = .ok (.iload_n 3, 1) := by decide +kernel
theorem dX0_countLies_17 : decode cX0_countLies 17 = .ok (.iaload, 1) := by decide +kernel
theorem dX0_countLies_18 : decode cX0_countLies 18 = .ok (.iload_n 1, 1) := by decide +kernel
theorem dX0_countLies_19 : decode cX0_countLies 19 = .ok (.if_icmp .ne 14, 3) := by decide +kernel
theorem dX0_countLies_22 : decode cX0_countLies 22 = .ok (.aload_n 0, 1) := by decide +kernel
theorem dX0_countLies_23 : decode cX0_countLies 23 = .ok (.iload_n 3, 1) := by decide +kernel
theorem dX0_countLies_24 : decode cX0_countLies 24 = .ok (.invokevirtual 63, 3) := by decide +kernel
theorem dX0_countLies_27 : decode cX0_countLies 27 = .ok (.ifCond .ne 6, 3) := by decide +kernel
theorem dX0_countLies_30 : decode cX0_countLies 30 = .ok (.iinc 2 1, 3) := by decide +kernel
theorem dX0_countLies_33 : decode cX0_countLies 33 = .ok (.iinc 3 1, 3) := by decide +kernel
theorem dX0_countLies_36 : decode cX0_countLies 36 = .ok (.goto (-32), 3) := by decide +kernel
theorem dX0_countLies_39 : decode cX0_countLies 39 = .ok (.iload_n 2, 1) := by decide +kernel
theorem dX0_countLies_40 : decode cX0_countLies 40 = .ok (.ireturn, 1) := by decide +kernel
theorem dX1_init_0 : decode cX1_init 0 = .ok (.aload_n 0, 1) := by decide +kernel
theorem dX1_init_1 : decode cX1_init 1 = .ok (.invokespecial 3, 3) := by decide +kernel
theorem dX1_init_4 : decode cX1_init 4 = .ok (.aload_n 0, 1) := by decide +kernel
theorem dX1_init_5 : decode cX1_init 5 = .ok (.iconst 3, 1) := by decide +kernel
theorem dX1_init_6 : decode cX1_init 6 = .ok (.putfield 9, 3) := by decide +kernel
theorem dX1_init_9 : decode cX1_init 9 = .ok (.aload_n 0, 1) := by decide +kernel
theorem dX1_init_10 : decode cX1_init 10 = .ok (.iconst 0, 1) := by decide +kernel
theorem dX1_init_11 : decode cX1_init 11 = .ok (.putfield 15, 3) := by decide +kernel
theorem dX1_init_14 : decode cX1_init 14 = .ok (.aload_n 0, 1) := by decide +kernel
theorem dX1_init_15 : decode cX1_init 15 = .ok (.iconst (-1), 1) := by decide +kernel
theorem dX1_init_16 : decode cX1_init 16 = .ok (.putfield 19, 3) := by decide +kernel
theorem dX1_init_19 : decode cX1_init 19 = .ok (.aload_n 0, 1) := by decide +kernel
theorem dX1_init_20 : decode cX1_init 20 = .ok (.iconst 0, 1) := by decide +kernel
theorem dX1_init_21 : decode cX1_init 21 = .ok (.putfield 22, 3) := by decide +kernel
theorem dX1_init_24 : decode cX1_init 24 = .ok (.aload_n 0, 1) := by decide +kernel
theorem dX1_init_25 : decode cX1_init 25 = .ok (.iconst 0, 1) := by decide +kernel
theorem dX1_init_26 : decode cX1_init 26 = .ok (.putfield 25, 3) := by decide +kernel
theorem dX1_init_29 : decode cX1_init 29 = .ok (.return_, 1) := by decide +kernel
theorem dX1_isKept_0 : decode cX1_isKept 0 = .ok (.aload_n 0, 1) := by decide +kernel
theorem dX1_isKept_1 : decode cX1_isKept 1 = .ok (.getfield 19, 3) := by decide +kernel
theorem dX1_isKept_4 : decode cX1_isKept 4 = .ok (.iconst (-1), 1) := by decide +kernel
theorem dX1_isKept_5 : decode cX1_isKept 5 = .ok (.if_icmp .eq 7, 3) := by decide +kernel
theorem dX1_isKept_8 : decode cX1_isKept 8 = .ok (.iconst 1, 1) := by decide +kernel
theorem dX1_isKept_9 : decode cX1_isKept 9 = .ok (.goto 4, 3) := by decide +kernel
theorem dX1_isKept_12 : decode cX1_isKept 12 = .ok (.iconst 0, 1) := by decide +kernel
theorem dX1_isKept_13 : decode cX1_isKept 13 = .ok (.ireturn, 1) := by decide +kernel
theorem dX2_init_0 : decode cX2_init 0 = .ok (.aload_n 0, 1) := by decide +kernel
theorem dX2_init_1 : decode cX2_init 1 = .ok (.invokespecial 3, 3) := by decide +kernel
theorem dX2_init_4 : decode cX2_init 4 = .ok (.aload_n 0, 1) := by decide +kernel
theorem dX2_init_5 : decode cX2_init 5 = .ok (.iconst 4, 1) := by decide +kernel
theorem dX2_init_6 : decode cX2_init 6 = .ok (.newarray .int, 2) := by decide +kernel
theorem dX2_init_8 : decode cX2_init 8 = .ok (.putfield 9, 3) := by decide +kernel
theorem dX2_init_11 : decode cX2_init 11 = .ok (.aload_n 0, 1) := by decide +kernel
theorem dX2_init_12 : decode cX2_init 12 = .ok (.iconst 0, 1) := by decide +kernel
theorem dX2_init_13 : decode cX2_init 13 = .ok (.putfield 15, 3) := by decide +kernel
theorem dX2_init_16 : decode cX2_init 16 = .ok (.aload_n 0, 1) := by decide +kernel
theorem dX2_init_17 : decode cX2_init 17 = .ok (.iconst 0, 1) := by decide +kernel
theorem dX2_init_18 : decode cX2_init 18 = .ok (.putfield 19, 3) := by decide +kernel
theorem dX2_init_21 : decode cX2_init 21 = .ok (.return_, 1) := by decide +kernel
theorem dX2_payInsured_0 : decode cX2_payInsured 0 = .ok (.aload_n 0, 1) := by decide +kernel
theorem dX2_payInsured_1 : decode cX2_payInsured 1 = .ok (.dup, 1) := by decide +kernel
theorem dX2_payInsured_2 : decode cX2_payInsured 2 = .ok (.getfield 15, 3) := by decide +kernel
theorem dX2_payInsured_5 : decode cX2_payInsured 5 = .ok (.iload_n 1, 1) := by decide +kernel
theorem dX2_payInsured_6 : decode cX2_payInsured 6 = .ok (.iadd, 1) := by decide +kernel
theorem dX2_payInsured_7 : decode cX2_payInsured 7 = .ok (.putfield 15, 3) := by decide +kernel
theorem dX2_payInsured_10 : decode cX2_payInsured 10 = .ok (.aload_n 0, 1) := by decide +kernel
theorem dX2_payInsured_11 : decode cX2_payInsured 11 = .ok (.dup, 1) := by decide +kernel
theorem dX2_payInsured_12 : decode cX2_payInsured 12 = .ok (.getfield 19, 3) := by decide +kernel
theorem dX2_payInsured_15 : decode cX2_payInsured 15 = .ok (.iconst 1, 1) := by decide +kernel
theorem dX2_payInsured_16 : decode cX2_payInsured 16 = .ok (.iadd, 1) := by decide +kernel
theorem dX2_payInsured_17 : decode cX2_payInsured 17 = .ok (.putfield 19, 3) := by decide +kernel
theorem dX2_payInsured_20 : decode cX2_payInsured 20 = .ok (.return_, 1) := by decide +kernel
theorem dX2_claimBack_0 : decode cX2_claimBack 0 = .ok (.aload_n 0, 1) := by decide +kernel
theorem dX2_claimBack_1 : decode cX2_claimBack 1 = .ok (.dup, 1) := by decide +kernel
theorem dX2_claimBack_2 : decode cX2_claimBack 2 = .ok (.getfield 15, 3) := by decide +kernel
theorem dX2_claimBack_5 : decode cX2_claimBack 5 = .ok (.iload_n 1, 1) := by decide +kernel
theorem dX2_claimBack_6 : decode cX2_claimBack 6 = .ok (.isub, 1) := by decide +kernel
theorem dX2_claimBack_7 : decode cX2_claimBack 7 = .ok (.putfield 15, 3) := by decide +kernel
theorem dX2_claimBack_10 : decode cX2_claimBack 10 = .ok (.aload_n 0, 1) := by decide +kernel
theorem dX2_claimBack_11 : decode cX2_claimBack 11 = .ok (.dup, 1) := by decide +kernel
theorem dX2_claimBack_12 : decode cX2_claimBack 12 = .ok (.getfield 19, 3) := by decide +kernel
theorem dX2_claimBack_15 : decode cX2_claimBack 15 = .ok (.iconst 1, 1) := by decide +kernel
theorem dX2_claimBack_16 : decode cX2_claimBack 16 = .ok (.iadd, 1) := by decide +kernel
theorem dX2_claimBack_17 : decode cX2_claimBack 17 = .ok (.putfield 19, 3) := by decide +kernel
theorem dX2_claimBack_20 : decode cX2_claimBack 20 = .ok (.return_, 1) := by decide +kernel
theorem dX2_writeFee_0 : decode cX2_writeFee 0 = .ok (.iload_n 1, 1) := by decide +kernel
theorem dX2_writeFee_1 : decode cX2_writeFee 1 = .ok (.ifCond .lt 18, 3) := by decide +kernel
theorem dX2_writeFee_4 : decode cX2_writeFee 4 = .ok (.iload_n 1, 1) := by decide +kernel
theorem dX2_writeFee_5 : decode cX2_writeFee 5 = .ok (.iconst 4, 1) := by decide +kernel
theorem dX2_writeFee_6 : decode cX2_writeFee 6 = .ok (.if_icmp .ge 13, 3) := by decide +kernel
theorem dX2_writeFee_9 : decode cX2_writeFee 9 = .ok (.aload_n 0, 1) := by decide +kernel
theorem dX2_writeFee_10 : decode cX2_writeFee 10 = .ok (.getfield 9, 3) := by decide +kernel
theorem dX2_writeFee_13 : decode cX2_writeFee 13 = .ok (.iload_n 1, 1) := by decide +kernel
theorem dX2_writeFee_14 : decode cX2_writeFee 14 = .ok (.dup2, 1) := by decide +kernel
theorem dX2_writeFee_15 : decode cX2_writeFee 15 = .ok (.iaload, 1) := by decide +kernel
theorem dX2_writeFee_16 : decode cX2_writeFee 16 = .ok (.iload_n 2, 1) := by decide +kernel
theorem dX2_writeFee_17 : decode cX2_writeFee 17 = .ok (.iadd, 1) := by decide +kernel
theorem dX2_writeFee_18 : decode cX2_writeFee 18 = .ok (.iastore, 1) := by decide +kernel
theorem dX2_writeFee_19 : decode cX2_writeFee 19 = .ok (.aload_n 0, 1) := by decide +kernel
theorem dX2_writeFee_20 : decode cX2_writeFee 20 = .ok (.dup, 1) := by decide +kernel
theorem dX2_writeFee_21 : decode cX2_writeFee 21 = .ok (.getfield 19, 3) := by decide +kernel
theorem dX2_writeFee_24 : decode cX2_writeFee 24 = .ok (.iconst 1, 1) := by decide +kernel
theorem dX2_writeFee_25 : decode cX2_writeFee 25 = .ok (.iadd, 1) := by decide +kernel
theorem dX2_writeFee_26 : decode cX2_writeFee 26 = .ok (.putfield 19, 3) := by decide +kernel
theorem dX2_writeFee_29 : decode cX2_writeFee 29 = .ok (.return_, 1) := by decide +kernel
